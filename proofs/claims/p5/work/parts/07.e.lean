set_option maxHeartbeats 4000000 in
set_option maxRecDepth 100000 in
theorem c_X1_valueAt_31 (l : Launch) (D : va_G) (cI cL : ClassId) (ad zz : Nat → Nat) (hJ : jD ad) (σ : Nat → Nat → Int32) (τ : Nat → Nat → Int64) (a1 : Int32) (A1 : Int) (t1 : a1.toInt = A1) (a2 : Int32) (A2 : Int) (t2 : a2.toInt = A2) (hI16 : jI16 σ) (hI31 : jI31 σ) : jM l yX1_valueAt cX1_valueAt 3 (some .int) ({ frames := 0, cells := 0, slots := 0, locals := 0 }) D cI cL ad zz [.ref (ad 31), .int a1, .int a2] σ τ (fun r σ' τ' => (σ = σ' ∧ τ = τ') ∧ True) := by
  refine jM.of hJ (by decide +kernel) (nt := .int) rfl (Nat.le_of_ble_eq_true rfl) ?_
  intro p e s m args below meth c Q ls hC hret hl hP
  obtain ⟨hx, hb, hr, hml, hown, hts, hK, -, hlocks, hZ⟩ := hC
  have hown : s.vm.findClass RX1 = some m.cls := hown
  have hS : va_S (jA ad) s.heap s.heap [] := va_S.rf
  have hA : ∀ q, jA ad q → jA ad q := fun _ h => h
  have hl : lv_has ls 3 [(0, .ref (ad 31)), (1, .int a1), (2, .int a2)] := hl
  have g1 := jrg t1
  have g2 := jrg t2
  obtain ⟨i1, i2, i3, w4⟩ : (1 ≤ (σ 16 0).toInt ∧ (σ 16 0).toInt ≤ 8) ∧ (1 ≤ (σ 16 1).toInt ∧ (σ 16 1).toInt ≤ 12) ∧ (0 ≤ (σ 16 2).toInt ∧ (σ 16 2).toInt ≤ 999) ∧ (∀ k : Nat, k < 8 → 0 ≤ (σ 17 k).toInt ∧ (σ 17 k).toInt ≤ 3) := id hI16
  obtain ⟨i5, w6, w7⟩ : (0 ≤ (σ 31 8).toInt ∧ (σ 31 8).toInt ≤ 350) ∧ (∀ k : Nat, k < 1400 → (-1) ≤ (σ 33 k).toInt ∧ (σ 33 k).toInt ≤ 350) ∧ (∀ k : Nat, k < 1024 → 0 ≤ (σ 36 k).toInt ∧ (σ 36 k).toInt ≤ 349) := id hI31
  refine lv_iload_n hx hb dX1_valueAt_0 rfl (lv_at hl 1 rfl) ?_
  refine lv_if_lt (tgt := 27) hx hb dX1_valueAt_1 (by decide) (fun c8 => ?_) (fun c8 => ?_)
  · have kc8 := jlt c8 t1 jz_0
    refine lv_iconst (v := 0) hx hb dX1_valueAt_27 (by decide) ?_
    refine lv_goto (tgt := 42) hx hb dX1_valueAt_28 (by decide) ?_
    exact hret 0 σ τ _ _ _ _ rfl ⟨⟨rfl, rfl⟩, trivial⟩ hP hS dX1_valueAt_42
  · have kc8 := jnlt c8 t1 jz_0
    refine lv_iload_n hx hb dX1_valueAt_4 rfl (lv_at hl 1 rfl) ?_
    refine lv_aload_n hx hb dX1_valueAt_5 rfl (lv_at hl 0 rfl) ?_
    refine va_get (D := D) hx hb hts inlX1 hown hK hP 31 (jc_31 cI cL ad σ τ) rfl 8 (by decide) (hts _ kw_27_22) (fun _ h9 => h9) rfl dX1_valueAt_6 ?_
    refine lv_icmp_ge (tgt := 27) hx hb dX1_valueAt_9 (by decide) (fun c9 => ?_) (fun c9 => ?_)
    · have kc9 := jle c9 rfl t1
      refine lv_iconst (v := 0) hx hb dX1_valueAt_27 (by decide) ?_
      refine lv_goto (tgt := 42) hx hb dX1_valueAt_28 (by decide) ?_
      exact hret 0 σ τ _ _ _ _ rfl ⟨⟨rfl, rfl⟩, trivial⟩ hP hS dX1_valueAt_42
    · have kc9 := jnle c9 rfl t1
      refine lv_iload_n hx hb dX1_valueAt_12 rfl (lv_at hl 2 rfl) ?_
      refine lv_if_lt (tgt := 27) hx hb dX1_valueAt_13 (by decide) (fun c10 => ?_) (fun c10 => ?_)
      · have kc10 := jlt c10 t2 jz_0
        refine lv_iconst (v := 0) hx hb dX1_valueAt_27 (by decide) ?_
        refine lv_goto (tgt := 42) hx hb dX1_valueAt_28 (by decide) ?_
        exact hret 0 σ τ _ _ _ _ rfl ⟨⟨rfl, rfl⟩, trivial⟩ hP hS dX1_valueAt_42
      · have kc10 := jnlt c10 t2 jz_0
        refine lv_iload_n hx hb dX1_valueAt_16 rfl (lv_at hl 2 rfl) ?_
        refine lv_aload_n hx hb dX1_valueAt_17 rfl (lv_at hl 0 rfl) ?_
        refine va_get (D := D) hx hb hts inlX1 hown hK hP 31 (jc_31 cI cL ad σ τ) rfl 1 (by decide) (hts _ kw_5_11) (fun _ h9 => h9) rfl dX1_valueAt_18 ?_
        refine va_get (D := D) hx hb hts inlX6 hown hK hP 16 (jc_16 cI cL ad σ τ) rfl 0 (by decide) (hts _ kw_27_17) (fun _ h9 => h9) rfl dX1_valueAt_21 ?_
        refine lv_icmp_lt (tgt := 31) hx hb dX1_valueAt_24 (by decide) (fun c11 => ?_) (fun c11 => ?_)
        · have kc11 := jlt c11 t2 rfl
          refine lv_aload_n hx hb dX1_valueAt_31 rfl (lv_at hl 0 rfl) ?_
          refine va_get (D := D) hx hb hts inlX1 hown hK hP 31 (jc_31 cI cL ad σ τ) rfl 4 (by decide) (hts _ kw_5_5) (fun _ h9 => h9) rfl dX1_valueAt_32 ?_
          refine lv_iload_n hx hb dX1_valueAt_35 rfl (lv_at hl 1 rfl) ?_
          refine lv_bipush (v := 9) hx hb dX1_valueAt_36 (by decide) ?_
          refine lv_imul hx hb dX1_valueAt_38 ?_
          refine lv_topi (fun x12 ex12 => ?_)
          have tx12 : x12.toInt = 9 * A1 := (jmul ex12 t1 jz_9 (by omega) (by omega)).trans (by omega)
          refine lv_iload_n hx hb dX1_valueAt_39 rfl (lv_at hl 2 rfl) ?_
          refine lv_iadd hx hb dX1_valueAt_40 ?_
          refine lv_topi (fun x13 ex13 => ?_)
          have tx13 : x13.toInt = 9 * A1 + A2 := (jadd ex13 tx12 t2 (by omega) (by omega)).trans (by omega)
          refine jald hx hb hK hP (jc_34 cI cL ad σ τ) (jin tx13 (by omega) (by omega)) dX1_valueAt_41 ?_
          refine lv_topi (fun x14 ex14 => ?_)
          exact hret x14 σ τ _ _ _ _ rfl ⟨⟨rfl, rfl⟩, trivial⟩ hP hS dX1_valueAt_42
        · have kc11 := jnlt c11 t2 rfl
          refine lv_iconst (v := 0) hx hb dX1_valueAt_27 (by decide) ?_
          refine lv_goto (tgt := 42) hx hb dX1_valueAt_28 (by decide) ?_
          exact hret 0 σ τ _ _ _ _ rfl ⟨⟨rfl, rfl⟩, trivial⟩ hP hS dX1_valueAt_42
set_option maxHeartbeats 4000000 in
set_option maxRecDepth 100000 in
theorem c_X1_whomAt_31 (l : Launch) (D : va_G) (cI cL : ClassId) (ad zz : Nat → Nat) (hJ : jD ad) (σ : Nat → Nat → Int32) (τ : Nat → Nat → Int64) (a1 : Int32) (A1 : Int) (t1 : a1.toInt = A1) (a2 : Int32) (A2 : Int) (t2 : a2.toInt = A2) (hI16 : jI16 σ) (hI31 : jI31 σ) : jM l yX1_whomAt cX1_whomAt 3 (some .int) ({ frames := 0, cells := 0, slots := 0, locals := 0 }) D cI cL ad zz [.ref (ad 31), .int a1, .int a2] σ τ (fun r σ' τ' => (σ = σ' ∧ τ = τ') ∧ True) := by
  refine jM.of hJ (by decide +kernel) (nt := .int) rfl (Nat.le_of_ble_eq_true rfl) ?_
  intro p e s m args below meth c Q ls hC hret hl hP
  obtain ⟨hx, hb, hr, hml, hown, hts, hK, -, hlocks, hZ⟩ := hC
  have hown : s.vm.findClass RX1 = some m.cls := hown
  have hS : va_S (jA ad) s.heap s.heap [] := va_S.rf
  have hA : ∀ q, jA ad q → jA ad q := fun _ h => h
  have hl : lv_has ls 3 [(0, .ref (ad 31)), (1, .int a1), (2, .int a2)] := hl
  have g1 := jrg t1
  have g2 := jrg t2
  obtain ⟨i1, i2, i3, w4⟩ : (1 ≤ (σ 16 0).toInt ∧ (σ 16 0).toInt ≤ 8) ∧ (1 ≤ (σ 16 1).toInt ∧ (σ 16 1).toInt ≤ 12) ∧ (0 ≤ (σ 16 2).toInt ∧ (σ 16 2).toInt ≤ 999) ∧ (∀ k : Nat, k < 8 → 0 ≤ (σ 17 k).toInt ∧ (σ 17 k).toInt ≤ 3) := id hI16
  obtain ⟨i5, w6, w7⟩ : (0 ≤ (σ 31 8).toInt ∧ (σ 31 8).toInt ≤ 350) ∧ (∀ k : Nat, k < 1400 → (-1) ≤ (σ 33 k).toInt ∧ (σ 33 k).toInt ≤ 350) ∧ (∀ k : Nat, k < 1024 → 0 ≤ (σ 36 k).toInt ∧ (σ 36 k).toInt ≤ 349) := id hI31
  refine lv_iload_n hx hb dX1_whomAt_0 rfl (lv_at hl 1 rfl) ?_
  refine lv_if_lt (tgt := 27) hx hb dX1_whomAt_1 (by decide) (fun c8 => ?_) (fun c8 => ?_)
  · have kc8 := jlt c8 t1 jz_0
    refine lv_iconst (v := (-1)) hx hb dX1_whomAt_27 (by decide) ?_
    refine lv_goto (tgt := 42) hx hb dX1_whomAt_28 (by decide) ?_
    exact hret (-1) σ τ _ _ _ _ rfl ⟨⟨rfl, rfl⟩, trivial⟩ hP hS dX1_whomAt_42
  · have kc8 := jnlt c8 t1 jz_0
    refine lv_iload_n hx hb dX1_whomAt_4 rfl (lv_at hl 1 rfl) ?_
    refine lv_aload_n hx hb dX1_whomAt_5 rfl (lv_at hl 0 rfl) ?_
    refine va_get (D := D) hx hb hts inlX1 hown hK hP 31 (jc_31 cI cL ad σ τ) rfl 8 (by decide) (hts _ kw_27_22) (fun _ h9 => h9) rfl dX1_whomAt_6 ?_
    refine lv_icmp_ge (tgt := 27) hx hb dX1_whomAt_9 (by decide) (fun c9 => ?_) (fun c9 => ?_)
    · have kc9 := jle c9 rfl t1
      refine lv_iconst (v := (-1)) hx hb dX1_whomAt_27 (by decide) ?_
      refine lv_goto (tgt := 42) hx hb dX1_whomAt_28 (by decide) ?_
      exact hret (-1) σ τ _ _ _ _ rfl ⟨⟨rfl, rfl⟩, trivial⟩ hP hS dX1_whomAt_42
    · have kc9 := jnle c9 rfl t1
      refine lv_iload_n hx hb dX1_whomAt_12 rfl (lv_at hl 2 rfl) ?_
      refine lv_if_lt (tgt := 27) hx hb dX1_whomAt_13 (by decide) (fun c10 => ?_) (fun c10 => ?_)
      · have kc10 := jlt c10 t2 jz_0
        refine lv_iconst (v := (-1)) hx hb dX1_whomAt_27 (by decide) ?_
        refine lv_goto (tgt := 42) hx hb dX1_whomAt_28 (by decide) ?_
        exact hret (-1) σ τ _ _ _ _ rfl ⟨⟨rfl, rfl⟩, trivial⟩ hP hS dX1_whomAt_42
      · have kc10 := jnlt c10 t2 jz_0
        refine lv_iload_n hx hb dX1_whomAt_16 rfl (lv_at hl 2 rfl) ?_
        refine lv_aload_n hx hb dX1_whomAt_17 rfl (lv_at hl 0 rfl) ?_
        refine va_get (D := D) hx hb hts inlX1 hown hK hP 31 (jc_31 cI cL ad σ τ) rfl 1 (by decide) (hts _ kw_5_11) (fun _ h9 => h9) rfl dX1_whomAt_18 ?_
        refine va_get (D := D) hx hb hts inlX6 hown hK hP 16 (jc_16 cI cL ad σ τ) rfl 0 (by decide) (hts _ kw_27_17) (fun _ h9 => h9) rfl dX1_whomAt_21 ?_
        refine lv_icmp_lt (tgt := 31) hx hb dX1_whomAt_24 (by decide) (fun c11 => ?_) (fun c11 => ?_)
        · have kc11 := jlt c11 t2 rfl
          refine lv_aload_n hx hb dX1_whomAt_31 rfl (lv_at hl 0 rfl) ?_
          refine va_get (D := D) hx hb hts inlX1 hown hK hP 31 (jc_31 cI cL ad σ τ) rfl 5 (by decide) (hts _ kw_5_6) (fun _ h9 => h9) rfl dX1_whomAt_32 ?_
          refine lv_iload_n hx hb dX1_whomAt_35 rfl (lv_at hl 1 rfl) ?_
          refine lv_bipush (v := 9) hx hb dX1_whomAt_36 (by decide) ?_
          refine lv_imul hx hb dX1_whomAt_38 ?_
          refine lv_topi (fun x12 ex12 => ?_)
          have tx12 : x12.toInt = 9 * A1 := (jmul ex12 t1 jz_9 (by omega) (by omega)).trans (by omega)
          refine lv_iload_n hx hb dX1_whomAt_39 rfl (lv_at hl 2 rfl) ?_
          refine lv_iadd hx hb dX1_whomAt_40 ?_
          refine lv_topi (fun x13 ex13 => ?_)
          have tx13 : x13.toInt = 9 * A1 + A2 := (jadd ex13 tx12 t2 (by omega) (by omega)).trans (by omega)
          refine jald hx hb hK hP (jc_35 cI cL ad σ τ) (jin tx13 (by omega) (by omega)) dX1_whomAt_41 ?_
          refine lv_topi (fun x14 ex14 => ?_)
          exact hret x14 σ τ _ _ _ _ rfl ⟨⟨rfl, rfl⟩, trivial⟩ hP hS dX1_whomAt_42
        · have kc11 := jnlt c11 t2 rfl
          refine lv_iconst (v := (-1)) hx hb dX1_whomAt_27 (by decide) ?_
          refine lv_goto (tgt := 42) hx hb dX1_whomAt_28 (by decide) ?_
          exact hret (-1) σ τ _ _ _ _ rfl ⟨⟨rfl, rfl⟩, trivial⟩ hP hS dX1_whomAt_42
set_option maxHeartbeats 4000000 in
set_option maxRecDepth 100000 in
theorem c_X1_isTaken_31 (l : Launch) (D : va_G) (cI cL : ClassId) (ad zz : Nat → Nat) (hJ : jD ad) (σ : Nat → Nat → Int32) (τ : Nat → Nat → Int64) (a1 : Int32) (A1 : Int) (t1 : a1.toInt = A1) (hI31 : jI31 σ) (hp0 : 0 ≤ A1 ∧ A1 ≤ 1023) : jM l yX1_isTaken cX1_isTaken 3 (some .boolean) ({ frames := 0, cells := 0, slots := 0, locals := 0 }) D cI cL ad zz [.ref (ad 31), .int a1] σ τ (fun r σ' τ' => (σ = σ' ∧ τ = τ') ∧ ((r = 1 ∧ True) ∨ (r = 0 ∧ True))) := by
  refine jM.of hJ (by decide +kernel) (nt := .boolean) rfl (Nat.le_of_ble_eq_true rfl) ?_
  intro p e s m args below meth c Q ls hC hret hl hP
  obtain ⟨hx, hb, hr, hml, hown, hts, hK, -, hlocks, hZ⟩ := hC
  have hown : s.vm.findClass RX1 = some m.cls := hown
  have hS : va_S (jA ad) s.heap s.heap [] := va_S.rf
  have hA : ∀ q, jA ad q → jA ad q := fun _ h => h
  have hl : lv_has ls 3 [(0, .ref (ad 31)), (1, .int a1)] := hl
  have g1 := jrg t1
  obtain ⟨i1, w2, w3⟩ : (0 ≤ (σ 31 8).toInt ∧ (σ 31 8).toInt ≤ 350) ∧ (∀ k : Nat, k < 1400 → (-1) ≤ (σ 33 k).toInt ∧ (σ 33 k).toInt ≤ 350) ∧ (∀ k : Nat, k < 1024 → 0 ≤ (σ 36 k).toInt ∧ (σ 36 k).toInt ≤ 349) := id hI31
  refine lv_aload_n hx hb dX1_isTaken_0 rfl (lv_at hl 0 rfl) ?_
  refine va_get (D := D) hx hb hts inlX1 hown hK hP 31 (jc_31 cI cL ad σ τ) rfl 6 (by decide) (hts _ kw_5_7) (fun _ h9 => h9) rfl dX1_isTaken_1 ?_
  refine lv_iload_n hx hb dX1_isTaken_4 rfl (lv_at hl 1 rfl) ?_
  refine jald hx hb hK hP (jc_36 cI cL ad σ τ) (jin t1 (by omega) (by omega)) dX1_isTaken_5 ?_
  have g4 := w3 _ (jnat (x := a1) t1 (n := 1024) (by omega) (by decide))
  refine lv_topi (fun x5 ex5 => ?_)
  rw [← ex5] at g4
  refine lv_istore_n (lv' := [(2, .int x5), (0, .ref (ad 31)), (1, .int a1)]) hx hb dX1_isTaken_6 rfl hl (by decide) rfl (fun ls hl => ?_)
  refine lv_iload_n hx hb dX1_isTaken_7 rfl (lv_at hl 0 rfl) ?_
  refine lv_aload_n hx hb dX1_isTaken_8 rfl (lv_at hl 1 rfl) ?_
  refine va_get (D := D) hx hb hts inlX1 hown hK hP 31 (jc_31 cI cL ad σ τ) rfl 8 (by decide) (hts _ kw_27_22) (fun _ h9 => h9) rfl dX1_isTaken_9 ?_
  refine lv_icmp_ge (tgt := 29) hx hb dX1_isTaken_12 (by decide) (fun c6 => ?_) (fun c6 => ?_)
  · have kc6 := jle c6 rfl rfl
    refine lv_iconst (v := 0) hx hb dX1_isTaken_29 (by decide) ?_
    exact hret 0 σ τ _ _ _ _ rfl ⟨⟨rfl, rfl⟩, Or.inr (⟨rfl, trivial⟩)⟩ hP hS dX1_isTaken_30
  · have kc6 := jnle c6 rfl rfl
    refine lv_aload_n hx hb dX1_isTaken_15 rfl (lv_at hl 1 rfl) ?_
    refine va_get (D := D) hx hb hts inlX1 hown hK hP 31 (jc_31 cI cL ad σ τ) rfl 7 (by decide) (hts _ kw_5_8) (fun _ h9 => h9) rfl dX1_isTaken_16 ?_
    refine lv_iload_n hx hb dX1_isTaken_19 rfl (lv_at hl 0 rfl) ?_
    refine jald hx hb hK hP (jc_37 cI cL ad σ τ) (jin rfl (by omega) (by omega)) dX1_isTaken_20 ?_
    refine lv_topi (fun x7 ex7 => ?_)
    refine lv_iload_n hx hb dX1_isTaken_21 rfl (lv_at hl 2 rfl) ?_
    refine lv_icmp_ne (tgt := 29) hx hb dX1_isTaken_22 (by decide) (fun c8 => ?_) (fun c8 => ?_)
    · have kc8 := jne c8 rfl t1
      refine lv_iconst (v := 0) hx hb dX1_isTaken_29 (by decide) ?_
      exact hret 0 σ τ _ _ _ _ rfl ⟨⟨rfl, rfl⟩, Or.inr (⟨rfl, trivial⟩)⟩ hP hS dX1_isTaken_30
    · have kc8 := jeq c8 rfl t1
      refine lv_iconst (v := 1) hx hb dX1_isTaken_25 (by decide) ?_
      refine lv_goto (tgt := 30) hx hb dX1_isTaken_26 (by decide) ?_
      exact hret 1 σ τ _ _ _ _ rfl ⟨⟨rfl, rfl⟩, Or.inl ⟨rfl, trivial⟩⟩ hP hS dX1_isTaken_30
set_option maxHeartbeats 4000000 in
set_option maxRecDepth 100000 in
theorem c_X1_slotFor_31 (l : Launch) (D : va_G) (cI cL : ClassId) (ad zz : Nat → Nat) (hJ : jD ad) (σ : Nat → Nat → Int32) (τ : Nat → Nat → Int64) (a1 : Int32) (A1 : Int) (t1 : a1.toInt = A1) (hI31 : jI31 σ) : jM l yX1_slotFor cX1_slotFor 5 (some .int) ({ frames := 1, cells := 0, slots := 0, locals := 22 }) D cI cL ad zz [.ref (ad 31), .int a1] σ τ (fun r σ' τ' => (σ = σ' ∧ τ = τ') ∧ ((True ∧ ((-1) ≤ r.toInt ∧ r.toInt ≤ 1023)))) := by
  refine jM.of hJ (by decide +kernel) (nt := .int) rfl (Nat.le_of_ble_eq_true rfl) ?_
  intro p e s m args below meth c Q ls hC hret hl hP
  obtain ⟨hx, hb, hr, hml, hown, hts, hK, -, hlocks, hZ⟩ := hC
  have hown : s.vm.findClass RX1 = some m.cls := hown
  have hS : va_S (jA ad) s.heap s.heap [] := va_S.rf
  have hA : ∀ q, jA ad q → jA ad q := fun _ h => h
  have hl : lv_has ls 5 [(0, .ref (ad 31)), (1, .int a1)] := hl
  have g1 := jrg t1
  obtain ⟨i1, w2, w3⟩ : (0 ≤ (σ 31 8).toInt ∧ (σ 31 8).toInt ≤ 350) ∧ (∀ k : Nat, k < 1400 → (-1) ≤ (σ 33 k).toInt ∧ (σ 33 k).toInt ≤ 350) ∧ (∀ k : Nat, k < 1024 → 0 ≤ (σ 36 k).toInt ∧ (σ 36 k).toInt ≤ 349) := id hI31
  refine lv_iload_n hx hb dX1_slotFor_0 rfl (lv_at hl 1 rfl) ?_
  refine lv_ldc (v := (-1640531527)) hx hb hown (hts _ kw_29_4) dX1_slotFor_1 ?_
  refine lv_imul hx hb dX1_slotFor_3 ?_
  refine lv_topi (fun x4 ex4 => ?_)
  have gx4 := jrg (rfl : x4.toInt = x4.toInt)
  refine lv_bipush (v := 22) hx hb dX1_slotFor_4 (by decide) ?_
  refine lv_iushr hx hb dX1_slotFor_6 rfl ?_
  refine lv_topi (fun x5 ex5 => ?_)
  have gx5 := jrg (rfl : x5.toInt = x5.toInt)
  have g6 : 0 ≤ x5.toInt ∧ x5.toInt ≤ 1023 := jushr22 ex5
  refine lv_istore_n (lv' := [(2, .int x5), (0, .ref (ad 31)), (1, .int a1)]) hx hb dX1_slotFor_7 rfl hl (by decide) rfl (fun ls hl => ?_)
  refine lv_iconst (v := 0) hx hb dX1_slotFor_8 (by decide) ?_
  refine lv_istore_n (lv' := [(3, .int 0), (2, .int x5), (0, .ref (ad 31)), (1, .int a1)]) hx hb dX1_slotFor_9 rfl hl (by decide) rfl (fun ls hl => ?_)
  have lp7 : ∀ (n8 : Nat) (x9 : Int32) (H : Heap) (locs : List Loc) (ls : Array Slot), (-x9.toInt + 1024 : Int) < n8 → 0 ≤ x9.toInt → x9.toInt ≤ 1024 → jH D cI cL ad σ τ H → va_S (jA ad) s.heap H locs → lv_has ls 5 [(3, .int x9), (2, .int x5), (0, .ref (ad 31)), (1, .int a1)] → W p l e ({ frames := 1, cells := 0, slots := 0, locals := 22 }) s m args below meth c H locs 0 0 Q (F0 m 10 ls []) := by
    intro n8
    induction n8 with
    | zero => intro x9 H locs ls h11 h12 h13; exact absurd h11 (by omega)
    | succ n8 ihlp7 =>
      intro x9 H locs ls h11 h12 h13 hP hS hl
      refine lv_iload_n hx hb dX1_slotFor_10 rfl (lv_at hl 0 rfl) ?_
      refine lv_sipush (v := 1024) hx hb dX1_slotFor_11 (by decide) ?_
      refine lv_icmp_ge (tgt := 60) hx hb dX1_slotFor_14 (by decide) (fun c15 => ?_) (fun c15 => ?_)
      · have kc15 := jle c15 jz_1024 rfl
        refine lv_iconst (v := (-1)) hx hb dX1_slotFor_60 (by decide) ?_
        exact hret (-1) σ τ _ _ _ _ rfl ⟨⟨rfl, rfl⟩, ⟨trivial, (by have h9 := jz_m1; omega)⟩⟩ hP hS dX1_slotFor_61
      · have kc15 := jnle c15 jz_1024 rfl
        refine lv_iload_n hx hb dX1_slotFor_17 rfl (lv_at hl 1 rfl) ?_
        refine lv_iload_n hx hb dX1_slotFor_18 rfl (lv_at hl 0 rfl) ?_
        have g16 := jrg (rfl : x5.toInt = x5.toInt)
        have g17 := jrg (rfl : x9.toInt = x9.toInt)
        refine lv_iadd hx hb dX1_slotFor_19 ?_
        refine lv_topi (fun x18 ex18 => ?_)
        have tx18 : x18.toInt = x5.toInt + x9.toInt := (jadd ex18 rfl rfl (by omega) (by omega)).trans (by omega)
        refine lv_sipush (v := 1023) hx hb dX1_slotFor_20 (by decide) ?_
        refine lv_iand hx hb dX1_slotFor_23 ?_
        refine lv_topi (fun x19 ex19 => ?_)
        have gx19 := jrg (rfl : x19.toInt = x19.toInt)
        have g20 : 0 ≤ x19.toInt ∧ x19.toInt ≤ 1023 := jmask ex19 10 (by decide) (by decide)
        refine lv_istore (lv' := [(4, .int x19), (3, .int x9), (2, .int x5), (0, .ref (ad 31)), (1, .int a1)]) hx hb dX1_slotFor_24 hl (by decide) rfl (fun ls hl => ?_)
        refine lv_aload_n hx hb dX1_slotFor_26 rfl (lv_at hl 3 rfl) ?_
        refine lv_iload hx hb dX1_slotFor_27 (lv_at hl 0 rfl) ?_
        have I21 : jI31 σ := ⟨(by omega), w2, w3⟩
        refine jcallV (As := [.int x19]) (rest := []) ⟨hx, hb, hml, hown, hts⟩ hK hP hA hS hZ (c_X1_isTaken_31 l D cI cL ad zz hJ σ τ x19 (x19.toInt) rfl I21 (by omega)) cw_RX1_81 (jc_31 cI cL ad σ τ) rfl ⟨Nat.le_of_ble_eq_true rfl, Nat.le_of_ble_eq_true rfl⟩ rfl rfl rfl hl.1 rfl (Nat.le_of_ble_eq_true rfl) dX1_slotFor_29 ⟨Nat.zero_le _, Nat.zero_le _⟩ (fun r23 σ22 τ22 H locs h22 hP hS => ?_)
        obtain ⟨⟨rfl, rfl⟩, h22⟩ := h22
        rcases h22 with h24 | h25
        · obtain ⟨q27, k26⟩ := h24
          have q27 := q27.symm
          subst q27
          refine lv_if_eq (tgt := 51) hx hb dX1_slotFor_32 (by decide) (fun c => absurd c (by decide)) (fun _ => ?_)
          refine lv_aload_n hx hb dX1_slotFor_35 rfl (lv_at hl 3 rfl) ?_
          refine va_get (D := D) hx hb hts inlX1 hown hK hP 31 (jc_31 cI cL ad σ τ) rfl 2 (by decide) (hts _ kw_5_3) (fun _ h9 => h9) rfl dX1_slotFor_36 ?_
          refine lv_aload_n hx hb dX1_slotFor_39 rfl (lv_at hl 3 rfl) ?_
          refine va_get (D := D) hx hb hts inlX1 hown hK hP 31 (jc_31 cI cL ad σ τ) rfl 6 (by decide) (hts _ kw_5_7) (fun _ h9 => h9) rfl dX1_slotFor_40 ?_
          refine lv_iload hx hb dX1_slotFor_43 (lv_at hl 0 rfl) ?_
          refine jald hx hb hK hP (jc_36 cI cL ad σ τ) (jin rfl (by omega) (by omega)) dX1_slotFor_45 ?_
          have g28 := w3 _ (jnat (x := x19) rfl (n := 1024) (by omega) (by decide))
          refine lv_topi (fun x29 ex29 => ?_)
          rw [← ex29] at g28
          refine jald hx hb hK hP (jc_32 cI cL ad σ τ) (jin rfl (by omega) (by omega)) dX1_slotFor_46 ?_
          refine lv_topi (fun x30 ex30 => ?_)
          refine lv_iload_n hx hb dX1_slotFor_47 rfl (lv_at hl 4 rfl) ?_
          refine lv_icmp_ne (tgt := 54) hx hb dX1_slotFor_48 (by decide) (fun c31 => ?_) (fun c31 => ?_)
          · have kc31 := jne c31 rfl t1
            obtain ⟨x32, ex32⟩ : ∃ y : Int32, y = x9 + 1 := ⟨_, rfl⟩
            have tx32 : x32.toInt = x9.toInt + 1 := (jadd ex32 rfl jz_1 (by omega) (by omega)).trans (by omega)
            refine lv_iinc (v := x32) (lv' := [(3, .int x32), (4, .int x19), (2, .int x5), (0, .ref (ad 31)), (1, .int a1)]) hx hb dX1_slotFor_54 hl (k := 1) rfl (by rw [ex32]; rfl) (by decide) rfl (fun ls hl => ?_)
            refine lv_goto (tgt := 10) hx hb dX1_slotFor_57 (by decide) ?_
            exact ihlp7 x32 _ _ ls (by have h90 := tx32; omega) (by have h90 := tx32; omega) (by have h90 := tx32; omega)    hP hS (lv_sub hl [0, 2, 3, 4] rfl)
          · have kc31 := jeq c31 rfl t1
            refine lv_iload hx hb dX1_slotFor_51 (lv_at hl 0 rfl) ?_
            exact hret x19 σ τ _ _ _ _ rfl ⟨⟨rfl, rfl⟩, ⟨trivial, (by omega)⟩⟩ hP hS dX1_slotFor_53
        · obtain ⟨q34, k33⟩ := h25
          have q34 := q34.symm
          subst q34
          refine lv_if_eq (tgt := 51) hx hb dX1_slotFor_32 (by decide) (fun _ => ?_) (fun c => absurd (by decide) c)
          refine lv_iload hx hb dX1_slotFor_51 (lv_at hl 0 rfl) ?_
          exact hret x19 σ τ _ _ _ _ rfl ⟨⟨rfl, rfl⟩, ⟨trivial, (by omega)⟩⟩ hP hS dX1_slotFor_53
  exact lp7 1000000 0 _ _ ls (by have h90 := jz_0; omega) (by have h90 := jz_0; omega) (by have h90 := jz_0; omega)   hP hS hl
set_option maxHeartbeats 4000000 in
set_option maxRecDepth 100000 in
theorem c_X1_trimmed_31 (l : Launch) (D : va_G) (cI cL : ClassId) (ad zz : Nat → Nat) (hJ : jD ad) (σ : Nat → Nat → Int32) (τ : Nat → Nat → Int64) (a1 : Int32) (A1 : Int) (t1 : a1.toInt = A1) (a2 : Int32) (A2 : Int) (t2 : a2.toInt = A2) : jM l yX1_trimmed cX1_trimmed 7 (some .int) ({ frames := 1, cells := 0, slots := 0, locals := 23 }) D cI cL ad zz [.ref (ad 31), .int a1, .int a2] σ τ (fun r σ' τ' => (σ = σ' ∧ τ = τ') ∧ True) := by
  refine jM.of hJ (by decide +kernel) (nt := .int) rfl (Nat.le_of_ble_eq_true rfl) ?_
  intro p e s m args below meth c Q ls hC hret hl hP
  obtain ⟨hx, hb, hr, hml, hown, hts, hK, -, hlocks, hZ⟩ := hC
  have hown : s.vm.findClass RX1 = some m.cls := hown
  have hS : va_S (jA ad) s.heap s.heap [] := va_S.rf
  have hA : ∀ q, jA ad q → jA ad q := fun _ h => h
  have hl : lv_has ls 7 [(0, .ref (ad 31)), (1, .int a1), (2, .int a2)] := hl
  have g1 := jrg t1
  have g2 := jrg t2
  refine lv_iload_n hx hb dX1_trimmed_0 rfl (lv_at hl 1 rfl) ?_
  refine lv_istore_n (lv' := [(3, .int a1), (0, .ref (ad 31)), (1, .int a1), (2, .int a2)]) hx hb dX1_trimmed_1 rfl hl (by decide) rfl (fun ls hl => ?_)
  refine lv_iconst (v := 0) hx hb dX1_trimmed_2 (by decide) ?_
  refine lv_istore (lv' := [(4, .int 0), (3, .int a1), (0, .ref (ad 31)), (1, .int a1), (2, .int a2)]) hx hb dX1_trimmed_3 hl (by decide) rfl (fun ls hl => ?_)
  have lp1 : ∀ (n2 : Nat) (x3 : Int32) (x4 : Int32) (H : Heap) (locs : List Loc) (ls : Array Slot), (-x4.toInt + 4 : Int) < n2 → 0 ≤ x4.toInt → x4.toInt ≤ 4 → jH D cI cL ad σ τ H → va_S (jA ad) s.heap H locs → lv_has ls 7 [(4, .int x4), (3, .int x3), (0, .ref (ad 31)), (1, .int a1), (2, .int a2)] → W p l e ({ frames := 1, cells := 0, slots := 0, locals := 23 }) s m args below meth c H locs 0 0 Q (F0 m 5 ls []) := by
    intro n2
    induction n2 with
    | zero => intro x3 x4 H locs ls h7 h8 h9; have gx3 := jrg (rfl : x3.toInt = x3.toInt); exact absurd h7 (by omega)
    | succ n2 ihlp1 =>
      intro x3 x4 H locs ls h7 h8 h9 hP hS hl
      have gx3 := jrg (rfl : x3.toInt = x3.toInt)
      refine lv_iload hx hb dX1_trimmed_5 (lv_at hl 0 rfl) ?_
      refine lv_iconst (v := 4) hx hb dX1_trimmed_7 (by decide) ?_
      refine lv_icmp_ge (tgt := 90) hx hb dX1_trimmed_8 (by decide) (fun c11 => ?_) (fun c11 => ?_)
      · have kc11 := jle c11 jz_4 rfl
        refine lv_iload_n hx hb dX1_trimmed_90 rfl (lv_at hl 1 rfl) ?_
        exact hret x3 σ τ _ _ _ _ rfl ⟨⟨rfl, rfl⟩, trivial⟩ hP hS dX1_trimmed_91
      · have kc11 := jnle c11 jz_4 rfl
        refine lv_iload_n hx hb dX1_trimmed_11 rfl (lv_at hl 3 rfl) ?_
        refine lv_iload hx hb dX1_trimmed_12 (lv_at hl 0 rfl) ?_
        refine jcallS (As := [.int a1, .int x4]) (rest := []) ⟨hx, hb, hml, hown, hts⟩ hK hP hA hS hZ (c_X0_left l D cI cL ad zz hJ σ τ a1 (A1) t1 x4 (x4.toInt) rfl) cw_RX1_123 ⟨Nat.le_of_ble_eq_true rfl, Nat.le_of_ble_eq_true rfl⟩ rfl rfl rfl hl.1 rfl (Nat.le_of_ble_eq_true rfl) dX1_trimmed_14 ⟨Nat.zero_le _, Nat.zero_le _⟩ (fun r13 σ12 τ12 H locs h12 hP hS => ?_)
        obtain ⟨⟨rfl, rfl⟩, h12⟩ := h12
        refine lv_istore (lv' := [(5, .int r13), (4, .int x4), (3, .int x3), (0, .ref (ad 31)), (1, .int a1), (2, .int a2)]) hx hb dX1_trimmed_17 hl (by decide) rfl (fun ls hl => ?_)
        refine lv_iload_n hx hb dX1_trimmed_19 rfl (lv_at hl 4 rfl) ?_
        refine jcallS (As := [.int a1]) (rest := []) ⟨hx, hb, hml, hown, hts⟩ hK hP hA hS hZ (c_X0_last l D cI cL ad zz hJ σ τ a1 (A1) t1) cw_RX1_126 ⟨Nat.le_of_ble_eq_true rfl, Nat.le_of_ble_eq_true rfl⟩ rfl rfl rfl hl.1 rfl (Nat.le_of_ble_eq_true rfl) dX1_trimmed_20 ⟨Nat.zero_le _, Nat.zero_le _⟩ (fun r15 σ14 τ14 H locs h14 hP hS => ?_)
        obtain ⟨⟨rfl, rfl⟩, h14⟩ := h14
        refine lv_iload hx hb dX1_trimmed_23 (lv_at hl 1 rfl) ?_
        refine lv_icmp_ne (tgt := 32) hx hb dX1_trimmed_25 (by decide) (fun c16 => ?_) (fun c16 => ?_)
        · have kc16 := jne c16 rfl rfl
          refine lv_iload_n hx hb dX1_trimmed_32 rfl (lv_at hl 5 rfl) ?_
          refine lv_iconst (v := 1) hx hb dX1_trimmed_33 (by decide) ?_
          refine lv_iadd hx hb dX1_trimmed_34 ?_
          refine lv_topi (fun x17 ex17 => ?_)
          have gx17 := jrg (rfl : x17.toInt = x17.toInt)
          refine lv_iconst (v := 2) hx hb dX1_trimmed_35 (by decide) ?_
          refine lv_idiv hx hb dX1_trimmed_36 (by decide) ?_
          refine lv_topi (fun x18 ex18 => ?_)
          have gx18 := jrg (rfl : x18.toInt = x18.toInt)
          refine lv_istore (lv' := [(6, .int x18), (5, .int r13), (4, .int x4), (3, .int x3), (0, .ref (ad 31)), (1, .int a1), (2, .int a2)]) hx hb dX1_trimmed_37 hl (by decide) rfl (fun ls hl => ?_)
          refine lv_aload_n hx hb dX1_trimmed_39 rfl (lv_at hl 4 rfl) ?_
          refine va_get (D := D) hx hb hts inlX1 hown hK hP 31 (jc_31 cI cL ad σ τ) rfl 12 (by decide) (hts _ kw_28_8) (fun _ h9 => h9) rfl dX1_trimmed_40 ?_
          refine lv_if_eq (tgt := 51) hx hb dX1_trimmed_43 (by decide) (fun c19 => ?_) (fun c19 => ?_)
          · have kc19 := jeq c19 rfl jz_0
            refine lv_iload hx hb dX1_trimmed_51 (lv_at hl 1 rfl) ?_
            refine lv_iload hx hb dX1_trimmed_53 (lv_at hl 0 rfl) ?_
            refine lv_icmp_le (tgt := 71) hx hb dX1_trimmed_55 (by decide) (fun c20 => ?_) (fun c20 => ?_)
            · have kc20 := jle c20 rfl rfl
              refine lv_iload hx hb dX1_trimmed_71 (lv_at hl 1 rfl) ?_
              refine lv_if_ne (tgt := 84) hx hb dX1_trimmed_73 (by decide) (fun c21 => ?_) (fun c21 => ?_)
              · have kc21 := jne c21 rfl jz_0
                obtain ⟨x22, ex22⟩ : ∃ y : Int32, y = x4 + 1 := ⟨_, rfl⟩
                have tx22 : x22.toInt = x4.toInt + 1 := (jadd ex22 rfl jz_1 (by omega) (by omega)).trans (by omega)
                refine lv_iinc (v := x22) (lv' := [(4, .int x22), (6, .int x18), (5, .int r13), (3, .int x3), (0, .ref (ad 31)), (1, .int a1), (2, .int a2)]) hx hb dX1_trimmed_84 hl (k := 2) rfl (by rw [ex22]; rfl) (by decide) rfl (fun ls hl => ?_)
                refine lv_goto (tgt := 5) hx hb dX1_trimmed_87 (by decide) ?_
                exact ihlp1 x3 x22 _ _ ls (by have h91 := tx22; omega) (by have h91 := tx22; omega) (by have h91 := tx22; omega)    hP hS (lv_sub hl [0, 3, 4, 5, 6] rfl)
              · have kc21 := jeq c21 rfl jz_0
                refine lv_iload_n hx hb dX1_trimmed_76 rfl (lv_at hl 3 rfl) ?_
                refine lv_iload hx hb dX1_trimmed_77 (lv_at hl 2 rfl) ?_
                refine lv_iconst (v := 0) hx hb dX1_trimmed_79 (by decide) ?_
                refine jcallS (As := [.int x3, .int x4, .int 0]) (rest := []) ⟨hx, hb, hml, hown, hts⟩ hK hP hA hS hZ (c_X0_withSteps l D cI cL ad zz hJ σ τ x3 (x3.toInt) rfl x4 (x4.toInt) rfl 0 (0) jz_0) cw_RX1_133 ⟨Nat.le_of_ble_eq_true rfl, Nat.le_of_ble_eq_true rfl⟩ rfl rfl rfl hl.1 rfl (Nat.le_of_ble_eq_true rfl) dX1_trimmed_80 ⟨Nat.zero_le _, Nat.zero_le _⟩ (fun r24 σ23 τ23 H locs h23 hP hS => ?_)
                obtain ⟨⟨rfl, rfl⟩, h23⟩ := h23
                refine lv_istore_n (lv' := [(3, .int r24), (6, .int x18), (5, .int r13), (4, .int x4), (0, .ref (ad 31)), (1, .int a1), (2, .int a2)]) hx hb dX1_trimmed_83 rfl hl (by decide) rfl (fun ls hl => ?_)
                obtain ⟨x25, ex25⟩ : ∃ y : Int32, y = x4 + 1 := ⟨_, rfl⟩
                have tx25 : x25.toInt = x4.toInt + 1 := (jadd ex25 rfl jz_1 (by omega) (by omega)).trans (by omega)
                refine lv_iinc (v := x25) (lv' := [(4, .int x25), (3, .int r24), (6, .int x18), (5, .int r13), (0, .ref (ad 31)), (1, .int a1), (2, .int a2)]) hx hb dX1_trimmed_84 hl (k := 3) rfl (by rw [ex25]; rfl) (by decide) rfl (fun ls hl => ?_)
                refine lv_goto (tgt := 5) hx hb dX1_trimmed_87 (by decide) ?_
                exact ihlp1 r24 x25 _ _ ls (by have h91 := tx25; omega) (by have h91 := tx25; omega) (by have h91 := tx25; omega)    hP hS (lv_sub hl [0, 1, 4, 5, 6] rfl)
            · have kc20 := jnle c20 rfl rfl
              refine lv_iload hx hb dX1_trimmed_58 (lv_at hl 0 rfl) ?_
              refine lv_istore (lv' := [(5, .int x18), (6, .int x18), (4, .int x4), (3, .int x3), (0, .ref (ad 31)), (1, .int a1), (2, .int a2)]) hx hb dX1_trimmed_60 hl (by decide) rfl (fun ls hl => ?_)
              refine lv_iload_n hx hb dX1_trimmed_62 rfl (lv_at hl 3 rfl) ?_
              refine lv_iload hx hb dX1_trimmed_63 (lv_at hl 2 rfl) ?_
              refine lv_iload hx hb dX1_trimmed_65 (lv_at hl 0 rfl) ?_
              refine jcallS (As := [.int x3, .int x4, .int x18]) (rest := []) ⟨hx, hb, hml, hown, hts⟩ hK hP hA hS hZ (c_X0_withLeft l D cI cL ad zz hJ σ τ x3 (x3.toInt) rfl x4 (x4.toInt) rfl x18 (x18.toInt) rfl) cw_RX1_129 ⟨Nat.le_of_ble_eq_true rfl, Nat.le_of_ble_eq_true rfl⟩ rfl rfl rfl hl.1 rfl (Nat.le_of_ble_eq_true rfl) dX1_trimmed_67 ⟨Nat.zero_le _, Nat.zero_le _⟩ (fun r27 σ26 τ26 H locs h26 hP hS => ?_)
              obtain ⟨⟨rfl, rfl⟩, h26⟩ := h26
              refine lv_istore_n (lv' := [(3, .int r27), (5, .int x18), (6, .int x18), (4, .int x4), (0, .ref (ad 31)), (1, .int a1), (2, .int a2)]) hx hb dX1_trimmed_70 rfl hl (by decide) rfl (fun ls hl => ?_)
              refine lv_iload hx hb dX1_trimmed_71 (lv_at hl 1 rfl) ?_
              refine lv_if_ne (tgt := 84) hx hb dX1_trimmed_73 (by decide) (fun c28 => ?_) (fun c28 => ?_)
              · have kc28 := jne c28 rfl jz_0
                obtain ⟨x29, ex29⟩ : ∃ y : Int32, y = x4 + 1 := ⟨_, rfl⟩
                have tx29 : x29.toInt = x4.toInt + 1 := (jadd ex29 rfl jz_1 (by omega) (by omega)).trans (by omega)
                refine lv_iinc (v := x29) (lv' := [(4, .int x29), (3, .int r27), (5, .int x18), (6, .int x18), (0, .ref (ad 31)), (1, .int a1), (2, .int a2)]) hx hb dX1_trimmed_84 hl (k := 3) rfl (by rw [ex29]; rfl) (by decide) rfl (fun ls hl => ?_)
                refine lv_goto (tgt := 5) hx hb dX1_trimmed_87 (by decide) ?_
                exact ihlp1 r27 x29 _ _ ls (by have h91 := tx29; omega) (by have h91 := tx29; omega) (by have h91 := tx29; omega)    hP hS (lv_sub hl [0, 1, 4, 5, 6] rfl)
              · have kc28 := jeq c28 rfl jz_0
                refine lv_iload_n hx hb dX1_trimmed_76 rfl (lv_at hl 0 rfl) ?_
                refine lv_iload hx hb dX1_trimmed_77 (lv_at hl 3 rfl) ?_
                refine lv_iconst (v := 0) hx hb dX1_trimmed_79 (by decide) ?_
                refine jcallS (As := [.int r27, .int x4, .int 0]) (rest := []) ⟨hx, hb, hml, hown, hts⟩ hK hP hA hS hZ (c_X0_withSteps l D cI cL ad zz hJ σ τ r27 (r27.toInt) rfl x4 (x4.toInt) rfl 0 (0) jz_0) cw_RX1_133 ⟨Nat.le_of_ble_eq_true rfl, Nat.le_of_ble_eq_true rfl⟩ rfl rfl rfl hl.1 rfl (Nat.le_of_ble_eq_true rfl) dX1_trimmed_80 ⟨Nat.zero_le _, Nat.zero_le _⟩ (fun r31 σ30 τ30 H locs h30 hP hS => ?_)
                obtain ⟨⟨rfl, rfl⟩, h30⟩ := h30
                refine lv_istore_n (lv' := [(3, .int r31), (5, .int x18), (6, .int x18), (4, .int x4), (0, .ref (ad 31)), (1, .int a1), (2, .int a2)]) hx hb dX1_trimmed_83 rfl hl (by decide) rfl (fun ls hl => ?_)
                obtain ⟨x32, ex32⟩ : ∃ y : Int32, y = x4 + 1 := ⟨_, rfl⟩
                have tx32 : x32.toInt = x4.toInt + 1 := (jadd ex32 rfl jz_1 (by omega) (by omega)).trans (by omega)
                refine lv_iinc (v := x32) (lv' := [(4, .int x32), (3, .int r31), (5, .int x18), (6, .int x18), (0, .ref (ad 31)), (1, .int a1), (2, .int a2)]) hx hb dX1_trimmed_84 hl (k := 3) rfl (by rw [ex32]; rfl) (by decide) rfl (fun ls hl => ?_)
                refine lv_goto (tgt := 5) hx hb dX1_trimmed_87 (by decide) ?_
                exact ihlp1 r31 x32 _ _ ls (by have h91 := tx32; omega) (by have h91 := tx32; omega) (by have h91 := tx32; omega)    hP hS (lv_sub hl [0, 1, 4, 5, 6] rfl)
          · have kc19 := jne c19 rfl jz_0
            refine lv_iload_n hx hb dX1_trimmed_46 rfl (lv_at hl 6 rfl) ?_
            refine lv_iconst (v := 1) hx hb dX1_trimmed_47 (by decide) ?_
            refine lv_icmp_gt (tgt := 71) hx hb dX1_trimmed_48 (by decide) (fun c33 => ?_) (fun c33 => ?_)
            · have kc33 := jlt c33 jz_1 t2
              refine lv_iload hx hb dX1_trimmed_71 (lv_at hl 1 rfl) ?_
              refine lv_if_ne (tgt := 84) hx hb dX1_trimmed_73 (by decide) (fun c34 => ?_) (fun c34 => ?_)
              · have kc34 := jne c34 rfl jz_0
                obtain ⟨x35, ex35⟩ : ∃ y : Int32, y = x4 + 1 := ⟨_, rfl⟩
                have tx35 : x35.toInt = x4.toInt + 1 := (jadd ex35 rfl jz_1 (by omega) (by omega)).trans (by omega)
                refine lv_iinc (v := x35) (lv' := [(4, .int x35), (6, .int x18), (5, .int r13), (3, .int x3), (0, .ref (ad 31)), (1, .int a1), (2, .int a2)]) hx hb dX1_trimmed_84 hl (k := 2) rfl (by rw [ex35]; rfl) (by decide) rfl (fun ls hl => ?_)
                refine lv_goto (tgt := 5) hx hb dX1_trimmed_87 (by decide) ?_
                exact ihlp1 x3 x35 _ _ ls (by have h91 := tx35; omega) (by have h91 := tx35; omega) (by have h91 := tx35; omega)    hP hS (lv_sub hl [0, 3, 4, 5, 6] rfl)
              · have kc34 := jeq c34 rfl jz_0
                refine lv_iload_n hx hb dX1_trimmed_76 rfl (lv_at hl 3 rfl) ?_
                refine lv_iload hx hb dX1_trimmed_77 (lv_at hl 2 rfl) ?_
                refine lv_iconst (v := 0) hx hb dX1_trimmed_79 (by decide) ?_
                refine jcallS (As := [.int x3, .int x4, .int 0]) (rest := []) ⟨hx, hb, hml, hown, hts⟩ hK hP hA hS hZ (c_X0_withSteps l D cI cL ad zz hJ σ τ x3 (x3.toInt) rfl x4 (x4.toInt) rfl 0 (0) jz_0) cw_RX1_133 ⟨Nat.le_of_ble_eq_true rfl, Nat.le_of_ble_eq_true rfl⟩ rfl rfl rfl hl.1 rfl (Nat.le_of_ble_eq_true rfl) dX1_trimmed_80 ⟨Nat.zero_le _, Nat.zero_le _⟩ (fun r37 σ36 τ36 H locs h36 hP hS => ?_)
                obtain ⟨⟨rfl, rfl⟩, h36⟩ := h36
                refine lv_istore_n (lv' := [(3, .int r37), (6, .int x18), (5, .int r13), (4, .int x4), (0, .ref (ad 31)), (1, .int a1), (2, .int a2)]) hx hb dX1_trimmed_83 rfl hl (by decide) rfl (fun ls hl => ?_)
                obtain ⟨x38, ex38⟩ : ∃ y : Int32, y = x4 + 1 := ⟨_, rfl⟩
                have tx38 : x38.toInt = x4.toInt + 1 := (jadd ex38 rfl jz_1 (by omega) (by omega)).trans (by omega)
                refine lv_iinc (v := x38) (lv' := [(4, .int x38), (3, .int r37), (6, .int x18), (5, .int r13), (0, .ref (ad 31)), (1, .int a1), (2, .int a2)]) hx hb dX1_trimmed_84 hl (k := 3) rfl (by rw [ex38]; rfl) (by decide) rfl (fun ls hl => ?_)
                refine lv_goto (tgt := 5) hx hb dX1_trimmed_87 (by decide) ?_
                exact ihlp1 r37 x38 _ _ ls (by have h91 := tx38; omega) (by have h91 := tx38; omega) (by have h91 := tx38; omega)    hP hS (lv_sub hl [0, 1, 4, 5, 6] rfl)
            · have kc33 := jnlt c33 jz_1 t2
              refine lv_iload hx hb dX1_trimmed_51 (lv_at hl 1 rfl) ?_
              refine lv_iload hx hb dX1_trimmed_53 (lv_at hl 0 rfl) ?_
              refine lv_icmp_le (tgt := 71) hx hb dX1_trimmed_55 (by decide) (fun c39 => ?_) (fun c39 => ?_)
              · have kc39 := jle c39 rfl rfl
                refine lv_iload hx hb dX1_trimmed_71 (lv_at hl 1 rfl) ?_
                refine lv_if_ne (tgt := 84) hx hb dX1_trimmed_73 (by decide) (fun c40 => ?_) (fun c40 => ?_)
                · have kc40 := jne c40 rfl jz_0
                  obtain ⟨x41, ex41⟩ : ∃ y : Int32, y = x4 + 1 := ⟨_, rfl⟩
                  have tx41 : x41.toInt = x4.toInt + 1 := (jadd ex41 rfl jz_1 (by omega) (by omega)).trans (by omega)
                  refine lv_iinc (v := x41) (lv' := [(4, .int x41), (6, .int x18), (5, .int r13), (3, .int x3), (0, .ref (ad 31)), (1, .int a1), (2, .int a2)]) hx hb dX1_trimmed_84 hl (k := 2) rfl (by rw [ex41]; rfl) (by decide) rfl (fun ls hl => ?_)
                  refine lv_goto (tgt := 5) hx hb dX1_trimmed_87 (by decide) ?_
                  exact ihlp1 x3 x41 _ _ ls (by have h91 := tx41; omega) (by have h91 := tx41; omega) (by have h91 := tx41; omega)    hP hS (lv_sub hl [0, 3, 4, 5, 6] rfl)
                · have kc40 := jeq c40 rfl jz_0
                  refine lv_iload_n hx hb dX1_trimmed_76 rfl (lv_at hl 3 rfl) ?_
                  refine lv_iload hx hb dX1_trimmed_77 (lv_at hl 2 rfl) ?_
                  refine lv_iconst (v := 0) hx hb dX1_trimmed_79 (by decide) ?_
                  refine jcallS (As := [.int x3, .int x4, .int 0]) (rest := []) ⟨hx, hb, hml, hown, hts⟩ hK hP hA hS hZ (c_X0_withSteps l D cI cL ad zz hJ σ τ x3 (x3.toInt) rfl x4 (x4.toInt) rfl 0 (0) jz_0) cw_RX1_133 ⟨Nat.le_of_ble_eq_true rfl, Nat.le_of_ble_eq_true rfl⟩ rfl rfl rfl hl.1 rfl (Nat.le_of_ble_eq_true rfl) dX1_trimmed_80 ⟨Nat.zero_le _, Nat.zero_le _⟩ (fun r43 σ42 τ42 H locs h42 hP hS => ?_)
                  obtain ⟨⟨rfl, rfl⟩, h42⟩ := h42
                  refine lv_istore_n (lv' := [(3, .int r43), (6, .int x18), (5, .int r13), (4, .int x4), (0, .ref (ad 31)), (1, .int a1), (2, .int a2)]) hx hb dX1_trimmed_83 rfl hl (by decide) rfl (fun ls hl => ?_)
                  obtain ⟨x44, ex44⟩ : ∃ y : Int32, y = x4 + 1 := ⟨_, rfl⟩
                  have tx44 : x44.toInt = x4.toInt + 1 := (jadd ex44 rfl jz_1 (by omega) (by omega)).trans (by omega)
                  refine lv_iinc (v := x44) (lv' := [(4, .int x44), (3, .int r43), (6, .int x18), (5, .int r13), (0, .ref (ad 31)), (1, .int a1), (2, .int a2)]) hx hb dX1_trimmed_84 hl (k := 3) rfl (by rw [ex44]; rfl) (by decide) rfl (fun ls hl => ?_)
                  refine lv_goto (tgt := 5) hx hb dX1_trimmed_87 (by decide) ?_
                  exact ihlp1 r43 x44 _ _ ls (by have h91 := tx44; omega) (by have h91 := tx44; omega) (by have h91 := tx44; omega)    hP hS (lv_sub hl [0, 1, 4, 5, 6] rfl)
              · have kc39 := jnle c39 rfl rfl
                refine lv_iload hx hb dX1_trimmed_58 (lv_at hl 0 rfl) ?_
                refine lv_istore (lv' := [(5, .int x18), (6, .int x18), (4, .int x4), (3, .int x3), (0, .ref (ad 31)), (1, .int a1), (2, .int a2)]) hx hb dX1_trimmed_60 hl (by decide) rfl (fun ls hl => ?_)
                refine lv_iload_n hx hb dX1_trimmed_62 rfl (lv_at hl 3 rfl) ?_
                refine lv_iload hx hb dX1_trimmed_63 (lv_at hl 2 rfl) ?_
                refine lv_iload hx hb dX1_trimmed_65 (lv_at hl 0 rfl) ?_
                refine jcallS (As := [.int x3, .int x4, .int x18]) (rest := []) ⟨hx, hb, hml, hown, hts⟩ hK hP hA hS hZ (c_X0_withLeft l D cI cL ad zz hJ σ τ x3 (x3.toInt) rfl x4 (x4.toInt) rfl x18 (x18.toInt) rfl) cw_RX1_129 ⟨Nat.le_of_ble_eq_true rfl, Nat.le_of_ble_eq_true rfl⟩ rfl rfl rfl hl.1 rfl (Nat.le_of_ble_eq_true rfl) dX1_trimmed_67 ⟨Nat.zero_le _, Nat.zero_le _⟩ (fun r46 σ45 τ45 H locs h45 hP hS => ?_)
                obtain ⟨⟨rfl, rfl⟩, h45⟩ := h45
                refine lv_istore_n (lv' := [(3, .int r46), (5, .int x18), (6, .int x18), (4, .int x4), (0, .ref (ad 31)), (1, .int a1), (2, .int a2)]) hx hb dX1_trimmed_70 rfl hl (by decide) rfl (fun ls hl => ?_)
                refine lv_iload hx hb dX1_trimmed_71 (lv_at hl 1 rfl) ?_
                refine lv_if_ne (tgt := 84) hx hb dX1_trimmed_73 (by decide) (fun c47 => ?_) (fun c47 => ?_)
                · have kc47 := jne c47 rfl jz_0
                  obtain ⟨x48, ex48⟩ : ∃ y : Int32, y = x4 + 1 := ⟨_, rfl⟩
                  have tx48 : x48.toInt = x4.toInt + 1 := (jadd ex48 rfl jz_1 (by omega) (by omega)).trans (by omega)
                  refine lv_iinc (v := x48) (lv' := [(4, .int x48), (3, .int r46), (5, .int x18), (6, .int x18), (0, .ref (ad 31)), (1, .int a1), (2, .int a2)]) hx hb dX1_trimmed_84 hl (k := 3) rfl (by rw [ex48]; rfl) (by decide) rfl (fun ls hl => ?_)
                  refine lv_goto (tgt := 5) hx hb dX1_trimmed_87 (by decide) ?_
                  exact ihlp1 r46 x48 _ _ ls (by have h91 := tx48; omega) (by have h91 := tx48; omega) (by have h91 := tx48; omega)    hP hS (lv_sub hl [0, 1, 4, 5, 6] rfl)
                · have kc47 := jeq c47 rfl jz_0
                  refine lv_iload_n hx hb dX1_trimmed_76 rfl (lv_at hl 0 rfl) ?_
                  refine lv_iload hx hb dX1_trimmed_77 (lv_at hl 3 rfl) ?_
                  refine lv_iconst (v := 0) hx hb dX1_trimmed_79 (by decide) ?_
                  refine jcallS (As := [.int r46, .int x4, .int 0]) (rest := []) ⟨hx, hb, hml, hown, hts⟩ hK hP hA hS hZ (c_X0_withSteps l D cI cL ad zz hJ σ τ r46 (r46.toInt) rfl x4 (x4.toInt) rfl 0 (0) jz_0) cw_RX1_133 ⟨Nat.le_of_ble_eq_true rfl, Nat.le_of_ble_eq_true rfl⟩ rfl rfl rfl hl.1 rfl (Nat.le_of_ble_eq_true rfl) dX1_trimmed_80 ⟨Nat.zero_le _, Nat.zero_le _⟩ (fun r50 σ49 τ49 H locs h49 hP hS => ?_)
                  obtain ⟨⟨rfl, rfl⟩, h49⟩ := h49
                  refine lv_istore_n (lv' := [(3, .int r50), (5, .int x18), (6, .int x18), (4, .int x4), (0, .ref (ad 31)), (1, .int a1), (2, .int a2)]) hx hb dX1_trimmed_83 rfl hl (by decide) rfl (fun ls hl => ?_)
                  obtain ⟨x51, ex51⟩ : ∃ y : Int32, y = x4 + 1 := ⟨_, rfl⟩
                  have tx51 : x51.toInt = x4.toInt + 1 := (jadd ex51 rfl jz_1 (by omega) (by omega)).trans (by omega)
                  refine lv_iinc (v := x51) (lv' := [(4, .int x51), (3, .int r50), (5, .int x18), (6, .int x18), (0, .ref (ad 31)), (1, .int a1), (2, .int a2)]) hx hb dX1_trimmed_84 hl (k := 3) rfl (by rw [ex51]; rfl) (by decide) rfl (fun ls hl => ?_)
                  refine lv_goto (tgt := 5) hx hb dX1_trimmed_87 (by decide) ?_
                  exact ihlp1 r50 x51 _ _ ls (by have h91 := tx51; omega) (by have h91 := tx51; omega) (by have h91 := tx51; omega)    hP hS (lv_sub hl [0, 1, 4, 5, 6] rfl)
        · have kc16 := jeq c16 rfl rfl
          refine lv_iload_n hx hb dX1_trimmed_28 rfl (lv_at hl 5 rfl) ?_
          refine lv_goto (tgt := 35) hx hb dX1_trimmed_29 (by decide) ?_
          refine lv_iconst (v := 2) hx hb dX1_trimmed_35 (by decide) ?_
          refine lv_idiv hx hb dX1_trimmed_36 (by decide) ?_
          refine lv_topi (fun x52 ex52 => ?_)
          have gx52 := jrg (rfl : x52.toInt = x52.toInt)
          refine lv_istore (lv' := [(6, .int x52), (5, .int r13), (4, .int x4), (3, .int x3), (0, .ref (ad 31)), (1, .int a1), (2, .int a2)]) hx hb dX1_trimmed_37 hl (by decide) rfl (fun ls hl => ?_)
          refine lv_aload_n hx hb dX1_trimmed_39 rfl (lv_at hl 4 rfl) ?_
          refine va_get (D := D) hx hb hts inlX1 hown hK hP 31 (jc_31 cI cL ad σ τ) rfl 12 (by decide) (hts _ kw_28_8) (fun _ h9 => h9) rfl dX1_trimmed_40 ?_
          refine lv_if_eq (tgt := 51) hx hb dX1_trimmed_43 (by decide) (fun c53 => ?_) (fun c53 => ?_)
          · have kc53 := jeq c53 rfl jz_0
            refine lv_iload hx hb dX1_trimmed_51 (lv_at hl 1 rfl) ?_
            refine lv_iload hx hb dX1_trimmed_53 (lv_at hl 0 rfl) ?_
            refine lv_icmp_le (tgt := 71) hx hb dX1_trimmed_55 (by decide) (fun c54 => ?_) (fun c54 => ?_)
            · have kc54 := jle c54 rfl rfl
              refine lv_iload hx hb dX1_trimmed_71 (lv_at hl 1 rfl) ?_
              refine lv_if_ne (tgt := 84) hx hb dX1_trimmed_73 (by decide) (fun c55 => ?_) (fun c55 => ?_)
              · have kc55 := jne c55 rfl jz_0
                obtain ⟨x56, ex56⟩ : ∃ y : Int32, y = x4 + 1 := ⟨_, rfl⟩
                have tx56 : x56.toInt = x4.toInt + 1 := (jadd ex56 rfl jz_1 (by omega) (by omega)).trans (by omega)
                refine lv_iinc (v := x56) (lv' := [(4, .int x56), (6, .int x52), (5, .int r13), (3, .int x3), (0, .ref (ad 31)), (1, .int a1), (2, .int a2)]) hx hb dX1_trimmed_84 hl (k := 2) rfl (by rw [ex56]; rfl) (by decide) rfl (fun ls hl => ?_)
                refine lv_goto (tgt := 5) hx hb dX1_trimmed_87 (by decide) ?_
                exact ihlp1 x3 x56 _ _ ls (by have h91 := tx56; omega) (by have h91 := tx56; omega) (by have h91 := tx56; omega)    hP hS (lv_sub hl [0, 3, 4, 5, 6] rfl)
              · have kc55 := jeq c55 rfl jz_0
                refine lv_iload_n hx hb dX1_trimmed_76 rfl (lv_at hl 3 rfl) ?_
                refine lv_iload hx hb dX1_trimmed_77 (lv_at hl 2 rfl) ?_
                refine lv_iconst (v := 0) hx hb dX1_trimmed_79 (by decide) ?_
                refine jcallS (As := [.int x3, .int x4, .int 0]) (rest := []) ⟨hx, hb, hml, hown, hts⟩ hK hP hA hS hZ (c_X0_withSteps l D cI cL ad zz hJ σ τ x3 (x3.toInt) rfl x4 (x4.toInt) rfl 0 (0) jz_0) cw_RX1_133 ⟨Nat.le_of_ble_eq_true rfl, Nat.le_of_ble_eq_true rfl⟩ rfl rfl rfl hl.1 rfl (Nat.le_of_ble_eq_true rfl) dX1_trimmed_80 ⟨Nat.zero_le _, Nat.zero_le _⟩ (fun r58 σ57 τ57 H locs h57 hP hS => ?_)
                obtain ⟨⟨rfl, rfl⟩, h57⟩ := h57
                refine lv_istore_n (lv' := [(3, .int r58), (6, .int x52), (5, .int r13), (4, .int x4), (0, .ref (ad 31)), (1, .int a1), (2, .int a2)]) hx hb dX1_trimmed_83 rfl hl (by decide) rfl (fun ls hl => ?_)
                obtain ⟨x59, ex59⟩ : ∃ y : Int32, y = x4 + 1 := ⟨_, rfl⟩
                have tx59 : x59.toInt = x4.toInt + 1 := (jadd ex59 rfl jz_1 (by omega) (by omega)).trans (by omega)
                refine lv_iinc (v := x59) (lv' := [(4, .int x59), (3, .int r58), (6, .int x52), (5, .int r13), (0, .ref (ad 31)), (1, .int a1), (2, .int a2)]) hx hb dX1_trimmed_84 hl (k := 3) rfl (by rw [ex59]; rfl) (by decide) rfl (fun ls hl => ?_)
                refine lv_goto (tgt := 5) hx hb dX1_trimmed_87 (by decide) ?_
                exact ihlp1 r58 x59 _ _ ls (by have h91 := tx59; omega) (by have h91 := tx59; omega) (by have h91 := tx59; omega)    hP hS (lv_sub hl [0, 1, 4, 5, 6] rfl)
            · have kc54 := jnle c54 rfl rfl
              refine lv_iload hx hb dX1_trimmed_58 (lv_at hl 0 rfl) ?_
              refine lv_istore (lv' := [(5, .int x52), (6, .int x52), (4, .int x4), (3, .int x3), (0, .ref (ad 31)), (1, .int a1), (2, .int a2)]) hx hb dX1_trimmed_60 hl (by decide) rfl (fun ls hl => ?_)
              refine lv_iload_n hx hb dX1_trimmed_62 rfl (lv_at hl 3 rfl) ?_
              refine lv_iload hx hb dX1_trimmed_63 (lv_at hl 2 rfl) ?_
              refine lv_iload hx hb dX1_trimmed_65 (lv_at hl 0 rfl) ?_
              refine jcallS (As := [.int x3, .int x4, .int x52]) (rest := []) ⟨hx, hb, hml, hown, hts⟩ hK hP hA hS hZ (c_X0_withLeft l D cI cL ad zz hJ σ τ x3 (x3.toInt) rfl x4 (x4.toInt) rfl x52 (x52.toInt) rfl) cw_RX1_129 ⟨Nat.le_of_ble_eq_true rfl, Nat.le_of_ble_eq_true rfl⟩ rfl rfl rfl hl.1 rfl (Nat.le_of_ble_eq_true rfl) dX1_trimmed_67 ⟨Nat.zero_le _, Nat.zero_le _⟩ (fun r61 σ60 τ60 H locs h60 hP hS => ?_)
              obtain ⟨⟨rfl, rfl⟩, h60⟩ := h60
              refine lv_istore_n (lv' := [(3, .int r61), (5, .int x52), (6, .int x52), (4, .int x4), (0, .ref (ad 31)), (1, .int a1), (2, .int a2)]) hx hb dX1_trimmed_70 rfl hl (by decide) rfl (fun ls hl => ?_)
              refine lv_iload hx hb dX1_trimmed_71 (lv_at hl 1 rfl) ?_
              refine lv_if_ne (tgt := 84) hx hb dX1_trimmed_73 (by decide) (fun c62 => ?_) (fun c62 => ?_)
              · have kc62 := jne c62 rfl jz_0
                obtain ⟨x63, ex63⟩ : ∃ y : Int32, y = x4 + 1 := ⟨_, rfl⟩
                have tx63 : x63.toInt = x4.toInt + 1 := (jadd ex63 rfl jz_1 (by omega) (by omega)).trans (by omega)
                refine lv_iinc (v := x63) (lv' := [(4, .int x63), (3, .int r61), (5, .int x52), (6, .int x52), (0, .ref (ad 31)), (1, .int a1), (2, .int a2)]) hx hb dX1_trimmed_84 hl (k := 3) rfl (by rw [ex63]; rfl) (by decide) rfl (fun ls hl => ?_)
                refine lv_goto (tgt := 5) hx hb dX1_trimmed_87 (by decide) ?_
                exact ihlp1 r61 x63 _ _ ls (by have h91 := tx63; omega) (by have h91 := tx63; omega) (by have h91 := tx63; omega)    hP hS (lv_sub hl [0, 1, 4, 5, 6] rfl)
              · have kc62 := jeq c62 rfl jz_0
                refine lv_iload_n hx hb dX1_trimmed_76 rfl (lv_at hl 0 rfl) ?_
                refine lv_iload hx hb dX1_trimmed_77 (lv_at hl 3 rfl) ?_
                refine lv_iconst (v := 0) hx hb dX1_trimmed_79 (by decide) ?_
                refine jcallS (As := [.int r61, .int x4, .int 0]) (rest := []) ⟨hx, hb, hml, hown, hts⟩ hK hP hA hS hZ (c_X0_withSteps l D cI cL ad zz hJ σ τ r61 (r61.toInt) rfl x4 (x4.toInt) rfl 0 (0) jz_0) cw_RX1_133 ⟨Nat.le_of_ble_eq_true rfl, Nat.le_of_ble_eq_true rfl⟩ rfl rfl rfl hl.1 rfl (Nat.le_of_ble_eq_true rfl) dX1_trimmed_80 ⟨Nat.zero_le _, Nat.zero_le _⟩ (fun r65 σ64 τ64 H locs h64 hP hS => ?_)
                obtain ⟨⟨rfl, rfl⟩, h64⟩ := h64
                refine lv_istore_n (lv' := [(3, .int r65), (5, .int x52), (6, .int x52), (4, .int x4), (0, .ref (ad 31)), (1, .int a1), (2, .int a2)]) hx hb dX1_trimmed_83 rfl hl (by decide) rfl (fun ls hl => ?_)
                obtain ⟨x66, ex66⟩ : ∃ y : Int32, y = x4 + 1 := ⟨_, rfl⟩
                have tx66 : x66.toInt = x4.toInt + 1 := (jadd ex66 rfl jz_1 (by omega) (by omega)).trans (by omega)
                refine lv_iinc (v := x66) (lv' := [(4, .int x66), (3, .int r65), (5, .int x52), (6, .int x52), (0, .ref (ad 31)), (1, .int a1), (2, .int a2)]) hx hb dX1_trimmed_84 hl (k := 3) rfl (by rw [ex66]; rfl) (by decide) rfl (fun ls hl => ?_)
                refine lv_goto (tgt := 5) hx hb dX1_trimmed_87 (by decide) ?_
                exact ihlp1 r65 x66 _ _ ls (by have h91 := tx66; omega) (by have h91 := tx66; omega) (by have h91 := tx66; omega)    hP hS (lv_sub hl [0, 1, 4, 5, 6] rfl)
          · have kc53 := jne c53 rfl jz_0
            refine lv_iload_n hx hb dX1_trimmed_46 rfl (lv_at hl 6 rfl) ?_
            refine lv_iconst (v := 1) hx hb dX1_trimmed_47 (by decide) ?_
            refine lv_icmp_gt (tgt := 71) hx hb dX1_trimmed_48 (by decide) (fun c67 => ?_) (fun c67 => ?_)
            · have kc67 := jlt c67 jz_1 t2
              refine lv_iload hx hb dX1_trimmed_71 (lv_at hl 1 rfl) ?_
              refine lv_if_ne (tgt := 84) hx hb dX1_trimmed_73 (by decide) (fun c68 => ?_) (fun c68 => ?_)
              · have kc68 := jne c68 rfl jz_0
                obtain ⟨x69, ex69⟩ : ∃ y : Int32, y = x4 + 1 := ⟨_, rfl⟩
                have tx69 : x69.toInt = x4.toInt + 1 := (jadd ex69 rfl jz_1 (by omega) (by omega)).trans (by omega)
                refine lv_iinc (v := x69) (lv' := [(4, .int x69), (6, .int x52), (5, .int r13), (3, .int x3), (0, .ref (ad 31)), (1, .int a1), (2, .int a2)]) hx hb dX1_trimmed_84 hl (k := 2) rfl (by rw [ex69]; rfl) (by decide) rfl (fun ls hl => ?_)
                refine lv_goto (tgt := 5) hx hb dX1_trimmed_87 (by decide) ?_
                exact ihlp1 x3 x69 _ _ ls (by have h91 := tx69; omega) (by have h91 := tx69; omega) (by have h91 := tx69; omega)    hP hS (lv_sub hl [0, 3, 4, 5, 6] rfl)
              · have kc68 := jeq c68 rfl jz_0
                refine lv_iload_n hx hb dX1_trimmed_76 rfl (lv_at hl 3 rfl) ?_
                refine lv_iload hx hb dX1_trimmed_77 (lv_at hl 2 rfl) ?_
                refine lv_iconst (v := 0) hx hb dX1_trimmed_79 (by decide) ?_
                refine jcallS (As := [.int x3, .int x4, .int 0]) (rest := []) ⟨hx, hb, hml, hown, hts⟩ hK hP hA hS hZ (c_X0_withSteps l D cI cL ad zz hJ σ τ x3 (x3.toInt) rfl x4 (x4.toInt) rfl 0 (0) jz_0) cw_RX1_133 ⟨Nat.le_of_ble_eq_true rfl, Nat.le_of_ble_eq_true rfl⟩ rfl rfl rfl hl.1 rfl (Nat.le_of_ble_eq_true rfl) dX1_trimmed_80 ⟨Nat.zero_le _, Nat.zero_le _⟩ (fun r71 σ70 τ70 H locs h70 hP hS => ?_)
                obtain ⟨⟨rfl, rfl⟩, h70⟩ := h70
                refine lv_istore_n (lv' := [(3, .int r71), (6, .int x52), (5, .int r13), (4, .int x4), (0, .ref (ad 31)), (1, .int a1), (2, .int a2)]) hx hb dX1_trimmed_83 rfl hl (by decide) rfl (fun ls hl => ?_)
                obtain ⟨x72, ex72⟩ : ∃ y : Int32, y = x4 + 1 := ⟨_, rfl⟩
                have tx72 : x72.toInt = x4.toInt + 1 := (jadd ex72 rfl jz_1 (by omega) (by omega)).trans (by omega)
                refine lv_iinc (v := x72) (lv' := [(4, .int x72), (3, .int r71), (6, .int x52), (5, .int r13), (0, .ref (ad 31)), (1, .int a1), (2, .int a2)]) hx hb dX1_trimmed_84 hl (k := 3) rfl (by rw [ex72]; rfl) (by decide) rfl (fun ls hl => ?_)
                refine lv_goto (tgt := 5) hx hb dX1_trimmed_87 (by decide) ?_
                exact ihlp1 r71 x72 _ _ ls (by have h91 := tx72; omega) (by have h91 := tx72; omega) (by have h91 := tx72; omega)    hP hS (lv_sub hl [0, 1, 4, 5, 6] rfl)
            · have kc67 := jnlt c67 jz_1 t2
              refine lv_iload hx hb dX1_trimmed_51 (lv_at hl 1 rfl) ?_
              refine lv_iload hx hb dX1_trimmed_53 (lv_at hl 0 rfl) ?_
              refine lv_icmp_le (tgt := 71) hx hb dX1_trimmed_55 (by decide) (fun c73 => ?_) (fun c73 => ?_)
              · have kc73 := jle c73 rfl rfl
                refine lv_iload hx hb dX1_trimmed_71 (lv_at hl 1 rfl) ?_
                refine lv_if_ne (tgt := 84) hx hb dX1_trimmed_73 (by decide) (fun c74 => ?_) (fun c74 => ?_)
                · have kc74 := jne c74 rfl jz_0
                  obtain ⟨x75, ex75⟩ : ∃ y : Int32, y = x4 + 1 := ⟨_, rfl⟩
                  have tx75 : x75.toInt = x4.toInt + 1 := (jadd ex75 rfl jz_1 (by omega) (by omega)).trans (by omega)
                  refine lv_iinc (v := x75) (lv' := [(4, .int x75), (6, .int x52), (5, .int r13), (3, .int x3), (0, .ref (ad 31)), (1, .int a1), (2, .int a2)]) hx hb dX1_trimmed_84 hl (k := 2) rfl (by rw [ex75]; rfl) (by decide) rfl (fun ls hl => ?_)
                  refine lv_goto (tgt := 5) hx hb dX1_trimmed_87 (by decide) ?_
                  exact ihlp1 x3 x75 _ _ ls (by have h91 := tx75; omega) (by have h91 := tx75; omega) (by have h91 := tx75; omega)    hP hS (lv_sub hl [0, 3, 4, 5, 6] rfl)
                · have kc74 := jeq c74 rfl jz_0
                  refine lv_iload_n hx hb dX1_trimmed_76 rfl (lv_at hl 3 rfl) ?_
                  refine lv_iload hx hb dX1_trimmed_77 (lv_at hl 2 rfl) ?_
                  refine lv_iconst (v := 0) hx hb dX1_trimmed_79 (by decide) ?_
                  refine jcallS (As := [.int x3, .int x4, .int 0]) (rest := []) ⟨hx, hb, hml, hown, hts⟩ hK hP hA hS hZ (c_X0_withSteps l D cI cL ad zz hJ σ τ x3 (x3.toInt) rfl x4 (x4.toInt) rfl 0 (0) jz_0) cw_RX1_133 ⟨Nat.le_of_ble_eq_true rfl, Nat.le_of_ble_eq_true rfl⟩ rfl rfl rfl hl.1 rfl (Nat.le_of_ble_eq_true rfl) dX1_trimmed_80 ⟨Nat.zero_le _, Nat.zero_le _⟩ (fun r77 σ76 τ76 H locs h76 hP hS => ?_)
                  obtain ⟨⟨rfl, rfl⟩, h76⟩ := h76
                  refine lv_istore_n (lv' := [(3, .int r77), (6, .int x52), (5, .int r13), (4, .int x4), (0, .ref (ad 31)), (1, .int a1), (2, .int a2)]) hx hb dX1_trimmed_83 rfl hl (by decide) rfl (fun ls hl => ?_)
                  obtain ⟨x78, ex78⟩ : ∃ y : Int32, y = x4 + 1 := ⟨_, rfl⟩
                  have tx78 : x78.toInt = x4.toInt + 1 := (jadd ex78 rfl jz_1 (by omega) (by omega)).trans (by omega)
                  refine lv_iinc (v := x78) (lv' := [(4, .int x78), (3, .int r77), (6, .int x52), (5, .int r13), (0, .ref (ad 31)), (1, .int a1), (2, .int a2)]) hx hb dX1_trimmed_84 hl (k := 3) rfl (by rw [ex78]; rfl) (by decide) rfl (fun ls hl => ?_)
                  refine lv_goto (tgt := 5) hx hb dX1_trimmed_87 (by decide) ?_
                  exact ihlp1 r77 x78 _ _ ls (by have h91 := tx78; omega) (by have h91 := tx78; omega) (by have h91 := tx78; omega)    hP hS (lv_sub hl [0, 1, 4, 5, 6] rfl)
              · have kc73 := jnle c73 rfl rfl
                refine lv_iload hx hb dX1_trimmed_58 (lv_at hl 0 rfl) ?_
                refine lv_istore (lv' := [(5, .int x52), (6, .int x52), (4, .int x4), (3, .int x3), (0, .ref (ad 31)), (1, .int a1), (2, .int a2)]) hx hb dX1_trimmed_60 hl (by decide) rfl (fun ls hl => ?_)
                refine lv_iload_n hx hb dX1_trimmed_62 rfl (lv_at hl 3 rfl) ?_
                refine lv_iload hx hb dX1_trimmed_63 (lv_at hl 2 rfl) ?_
                refine lv_iload hx hb dX1_trimmed_65 (lv_at hl 0 rfl) ?_
                refine jcallS (As := [.int x3, .int x4, .int x52]) (rest := []) ⟨hx, hb, hml, hown, hts⟩ hK hP hA hS hZ (c_X0_withLeft l D cI cL ad zz hJ σ τ x3 (x3.toInt) rfl x4 (x4.toInt) rfl x52 (x52.toInt) rfl) cw_RX1_129 ⟨Nat.le_of_ble_eq_true rfl, Nat.le_of_ble_eq_true rfl⟩ rfl rfl rfl hl.1 rfl (Nat.le_of_ble_eq_true rfl) dX1_trimmed_67 ⟨Nat.zero_le _, Nat.zero_le _⟩ (fun r80 σ79 τ79 H locs h79 hP hS => ?_)
                obtain ⟨⟨rfl, rfl⟩, h79⟩ := h79
                refine lv_istore_n (lv' := [(3, .int r80), (5, .int x52), (6, .int x52), (4, .int x4), (0, .ref (ad 31)), (1, .int a1), (2, .int a2)]) hx hb dX1_trimmed_70 rfl hl (by decide) rfl (fun ls hl => ?_)
                refine lv_iload hx hb dX1_trimmed_71 (lv_at hl 1 rfl) ?_
                refine lv_if_ne (tgt := 84) hx hb dX1_trimmed_73 (by decide) (fun c81 => ?_) (fun c81 => ?_)
                · have kc81 := jne c81 rfl jz_0
                  obtain ⟨x82, ex82⟩ : ∃ y : Int32, y = x4 + 1 := ⟨_, rfl⟩
                  have tx82 : x82.toInt = x4.toInt + 1 := (jadd ex82 rfl jz_1 (by omega) (by omega)).trans (by omega)
                  refine lv_iinc (v := x82) (lv' := [(4, .int x82), (3, .int r80), (5, .int x52), (6, .int x52), (0, .ref (ad 31)), (1, .int a1), (2, .int a2)]) hx hb dX1_trimmed_84 hl (k := 3) rfl (by rw [ex82]; rfl) (by decide) rfl (fun ls hl => ?_)
                  refine lv_goto (tgt := 5) hx hb dX1_trimmed_87 (by decide) ?_
                  exact ihlp1 r80 x82 _ _ ls (by have h91 := tx82; omega) (by have h91 := tx82; omega) (by have h91 := tx82; omega)    hP hS (lv_sub hl [0, 1, 4, 5, 6] rfl)
                · have kc81 := jeq c81 rfl jz_0
                  refine lv_iload_n hx hb dX1_trimmed_76 rfl (lv_at hl 0 rfl) ?_
                  refine lv_iload hx hb dX1_trimmed_77 (lv_at hl 3 rfl) ?_
                  refine lv_iconst (v := 0) hx hb dX1_trimmed_79 (by decide) ?_
                  refine jcallS (As := [.int r80, .int x4, .int 0]) (rest := []) ⟨hx, hb, hml, hown, hts⟩ hK hP hA hS hZ (c_X0_withSteps l D cI cL ad zz hJ σ τ r80 (r80.toInt) rfl x4 (x4.toInt) rfl 0 (0) jz_0) cw_RX1_133 ⟨Nat.le_of_ble_eq_true rfl, Nat.le_of_ble_eq_true rfl⟩ rfl rfl rfl hl.1 rfl (Nat.le_of_ble_eq_true rfl) dX1_trimmed_80 ⟨Nat.zero_le _, Nat.zero_le _⟩ (fun r84 σ83 τ83 H locs h83 hP hS => ?_)
                  obtain ⟨⟨rfl, rfl⟩, h83⟩ := h83
                  refine lv_istore_n (lv' := [(3, .int r84), (5, .int x52), (6, .int x52), (4, .int x4), (0, .ref (ad 31)), (1, .int a1), (2, .int a2)]) hx hb dX1_trimmed_83 rfl hl (by decide) rfl (fun ls hl => ?_)
                  obtain ⟨x85, ex85⟩ : ∃ y : Int32, y = x4 + 1 := ⟨_, rfl⟩
                  have tx85 : x85.toInt = x4.toInt + 1 := (jadd ex85 rfl jz_1 (by omega) (by omega)).trans (by omega)
                  refine lv_iinc (v := x85) (lv' := [(4, .int x85), (3, .int r84), (5, .int x52), (6, .int x52), (0, .ref (ad 31)), (1, .int a1), (2, .int a2)]) hx hb dX1_trimmed_84 hl (k := 3) rfl (by rw [ex85]; rfl) (by decide) rfl (fun ls hl => ?_)
                  refine lv_goto (tgt := 5) hx hb dX1_trimmed_87 (by decide) ?_
                  exact ihlp1 r84 x85 _ _ ls (by have h91 := tx85; omega) (by have h91 := tx85; omega) (by have h91 := tx85; omega)    hP hS (lv_sub hl [0, 1, 4, 5, 6] rfl)
  exact lp1 1000000 a1 0 _ _ ls (by have h90 := t1; have h91 := jz_0; omega) (by have h90 := t1; have h91 := jz_0; omega) (by have h90 := t1; have h91 := jz_0; omega)   hP hS hl
set_option maxHeartbeats 4000000 in
set_option maxRecDepth 100000 in
theorem c_X1_add_31 (l : Launch) (D : va_G) (cI cL : ClassId) (ad zz : Nat → Nat) (hJ : jD ad) (σ : Nat → Nat → Int32) (τ : Nat → Nat → Int64) (a1 : Int32) (A1 : Int) (t1 : a1.toInt = A1) (a2 : Int32) (A2 : Int) (t2 : a2.toInt = A2) (hI31 : jI31 σ) : jM l yX1_add cX1_add 5 (some .int) ({ frames := 2, cells := 0, slots := 0, locals := 49 }) D cI cL ad zz [.ref (ad 31), .int a1, .int a2] σ τ (fun r σ' τ' => τ = τ' ∧ (∀ i : Nat, (i < 31 ∨ 32 < i) ∧ (i < 36 ∨ 37 < i) → σ' i = σ i) ∧ (∀ k : Nat, (k < 8 ∨ 8 < k) → σ' 31 k = σ 31 k) ∧ (jI31 σ') ∧ ((True ∧ (0 ≤ r.toInt ∧ r.toInt ≤ 350)))) := by
  refine jM.of hJ (by decide +kernel) (nt := .int) rfl (Nat.le_of_ble_eq_true rfl) ?_
  intro p e s m args below meth c Q ls hC hret hl hP
  obtain ⟨hx, hb, hr, hml, hown, hts, hK, -, hlocks, hZ⟩ := hC
  have hown : s.vm.findClass RX1 = some m.cls := hown
  have hS : va_S (jA ad) s.heap s.heap [] := va_S.rf
  have hA : ∀ q, jA ad q → jA ad q := fun _ h => h
  have hl : lv_has ls 5 [(0, .ref (ad 31)), (1, .int a1), (2, .int a2)] := hl
  have g1 := jrg t1
  have g2 := jrg t2
  obtain ⟨i1, w2, w3⟩ : (0 ≤ (σ 31 8).toInt ∧ (σ 31 8).toInt ≤ 350) ∧ (∀ k : Nat, k < 1400 → (-1) ≤ (σ 33 k).toInt ∧ (σ 33 k).toInt ≤ 350) ∧ (∀ k : Nat, k < 1024 → 0 ≤ (σ 36 k).toInt ∧ (σ 36 k).toInt ≤ 349) := id hI31
  refine lv_iload_n hx hb dX1_add_0 rfl (lv_at hl 2 rfl) ?_
  refine lv_aload_n hx hb dX1_add_1 rfl (lv_at hl 0 rfl) ?_
  refine va_get (D := D) hx hb hts inlX1 hown hK hP 31 (jc_31 cI cL ad σ τ) rfl 11 (by decide) (hts _ kw_28_7) (fun _ h9 => h9) rfl dX1_add_2 ?_
  refine lv_icmp_lt (tgt := 12) hx hb dX1_add_5 (by decide) (fun c4 => ?_) (fun c4 => ?_)
  · have kc4 := jlt c4 t2 rfl
    refine lv_aload_n hx hb dX1_add_12 rfl (lv_at hl 0 rfl) ?_
    refine lv_iload_n hx hb dX1_add_13 rfl (lv_at hl 1 rfl) ?_
    refine lv_aload_n hx hb dX1_add_14 rfl (lv_at hl 0 rfl) ?_
    refine va_get (D := D) hx hb hts inlX1 hown hK hP 31 (jc_31 cI cL ad σ τ) rfl 11 (by decide) (hts _ kw_28_7) (fun _ h9 => h9) rfl dX1_add_15 ?_
    refine lv_iload_n hx hb dX1_add_18 rfl (lv_at hl 2 rfl) ?_
    have g5 := jrg (rfl : (σ 31 11).toInt = (σ 31 11).toInt)
    refine lv_isub hx hb dX1_add_19 ?_
    refine lv_topi (fun x6 ex6 => ?_)
    have gx6 := jrg (rfl : x6.toInt = x6.toInt)
    refine jcallV (As := [.int a1, .int x6]) (rest := []) ⟨hx, hb, hml, hown, hts⟩ hK hP hA hS hZ (c_X1_trimmed_31 l D cI cL ad zz hJ σ τ a1 (A1) t1 x6 (x6.toInt) rfl) cw_RX1_71 (jc_31 cI cL ad σ τ) rfl ⟨Nat.le_of_ble_eq_true rfl, Nat.le_of_ble_eq_true rfl⟩ rfl rfl rfl hl.1 rfl (Nat.le_of_ble_eq_true rfl) dX1_add_20 ⟨Nat.zero_le _, Nat.zero_le _⟩ (fun r8 σ7 τ7 H locs h7 hP hS => ?_)
    obtain ⟨⟨rfl, rfl⟩, h7⟩ := h7
    refine lv_iload_n hx hb dX1_add_23 rfl (lv_at hl 2 rfl) ?_
    refine lv_bipush (v := 27) hx hb dX1_add_24 (by decide) ?_
    refine lv_ishl hx hb dX1_add_26 ?_
    refine lv_topi (fun x9 ex9 => ?_)
    have gx9 := jrg (rfl : x9.toInt = x9.toInt)
    refine lv_ior hx hb dX1_add_27 ?_
    refine lv_topi (fun x10 ex10 => ?_)
    have gx10 := jrg (rfl : x10.toInt = x10.toInt)
    refine lv_istore_n (lv' := [(3, .int x10), (0, .ref (ad 31)), (1, .int a1), (2, .int a2)]) hx hb dX1_add_28 rfl hl (by decide) rfl (fun ls hl => ?_)
    refine lv_aload_n hx hb dX1_add_29 rfl (lv_at hl 1 rfl) ?_
    refine lv_iload_n hx hb dX1_add_30 rfl (lv_at hl 0 rfl) ?_
    have I11 : jI31 σ := ⟨(by omega), w2, w3⟩
    refine jcallV (As := [.int x10]) (rest := []) ⟨hx, hb, hml, hown, hts⟩ hK hP hA hS hZ (c_X1_slotFor_31 l D cI cL ad zz hJ σ τ x10 (x10.toInt) rfl I11) cw_RX1_77 (jc_31 cI cL ad σ τ) rfl ⟨Nat.le_of_ble_eq_true rfl, Nat.le_of_ble_eq_true rfl⟩ rfl rfl rfl hl.1 rfl (Nat.le_of_ble_eq_true rfl) dX1_add_31 ⟨Nat.zero_le _, Nat.zero_le _⟩ (fun r13 σ12 τ12 H locs h12 hP hS => ?_)
    obtain ⟨⟨rfl, rfl⟩, h12⟩ := h12
    have h14 := h12
    obtain ⟨q16, k15⟩ := h14
    refine lv_istore (lv' := [(4, .int r13), (3, .int x10), (0, .ref (ad 31)), (1, .int a1), (2, .int a2)]) hx hb dX1_add_34 hl (by decide) rfl (fun ls hl => ?_)
    refine lv_iload hx hb dX1_add_36 (lv_at hl 0 rfl) ?_
    refine lv_if_ge (tgt := 45) hx hb dX1_add_38 (by decide) (fun c17 => ?_) (fun c17 => ?_)
    · have kc17 := jle c17 jz_0 rfl
      refine lv_aload_n hx hb dX1_add_45 rfl (lv_at hl 2 rfl) ?_
      refine lv_iload hx hb dX1_add_46 (lv_at hl 0 rfl) ?_
      refine jcallV (As := [.int r13]) (rest := []) ⟨hx, hb, hml, hown, hts⟩ hK hP hA hS hZ (c_X1_isTaken_31 l D cI cL ad zz hJ σ τ r13 (r13.toInt) rfl I11 (by omega)) cw_RX1_81 (jc_31 cI cL ad σ τ) rfl ⟨Nat.le_of_ble_eq_true rfl, Nat.le_of_ble_eq_true rfl⟩ rfl rfl rfl hl.1 rfl (Nat.le_of_ble_eq_true rfl) dX1_add_48 ⟨Nat.zero_le _, Nat.zero_le _⟩ (fun r19 σ18 τ18 H locs h18 hP hS => ?_)
      obtain ⟨⟨rfl, rfl⟩, h18⟩ := h18
      rcases h18 with h20 | h21
      · obtain ⟨q23, k22⟩ := h20
        have q23 := q23.symm
        subst q23
        refine lv_if_eq (tgt := 62) hx hb dX1_add_51 (by decide) (fun c => absurd c (by decide)) (fun _ => ?_)
        refine lv_aload_n hx hb dX1_add_54 rfl (lv_at hl 2 rfl) ?_
        refine va_get (D := D) hx hb hts inlX1 hown hK hP 31 (jc_31 cI cL ad σ τ) rfl 6 (by decide) (hts _ kw_5_7) (fun _ h9 => h9) rfl dX1_add_55 ?_
        refine lv_iload hx hb dX1_add_58 (lv_at hl 0 rfl) ?_
        refine jald hx hb hK hP (jc_36 cI cL ad σ τ) (jin rfl (by omega) (by omega)) dX1_add_60 ?_
        have g24 := w3 _ (jnat (x := r13) rfl (n := 1024) (by omega) (by decide))
        refine lv_topi (fun x25 ex25 => ?_)
        rw [← ex25] at g24
        exact hret x25 σ τ _ _ _ _ rfl ⟨rfl, (fun _ _ => rfl), (fun _ _ => rfl), I11, ⟨trivial, (by omega)⟩⟩ hP hS dX1_add_61
      · obtain ⟨q27, k26⟩ := h21
        have q27 := q27.symm
        subst q27
        refine lv_if_eq (tgt := 62) hx hb dX1_add_51 (by decide) (fun _ => ?_) (fun c => absurd (by decide) c)
        refine lv_aload_n hx hb dX1_add_62 rfl (lv_at hl 2 rfl) ?_
        refine va_get (D := D) hx hb hts inlX1 hown hK hP 31 (jc_31 cI cL ad σ τ) rfl 8 (by decide) (hts _ kw_27_22) (fun _ h9 => h9) rfl dX1_add_63 ?_
        refine lv_sipush (v := 350) hx hb dX1_add_66 (by decide) ?_
        refine lv_icmp_lt (tgt := 76) hx hb dX1_add_69 (by decide) (fun c28 => ?_) (fun c28 => ?_)
        · have kc28 := jlt c28 rfl jz_350
          refine lv_aload_n hx hb dX1_add_76 rfl (lv_at hl 2 rfl) ?_
          refine va_get (D := D) hx hb hts inlX1 hown hK hP 31 (jc_31 cI cL ad σ τ) rfl 2 (by decide) (hts _ kw_5_3) (fun _ h9 => h9) rfl dX1_add_77 ?_
          refine lv_aload_n hx hb dX1_add_80 rfl (lv_at hl 2 rfl) ?_
          refine va_get (D := D) hx hb hts inlX1 hown hK hP 31 (jc_31 cI cL ad σ τ) rfl 8 (by decide) (hts _ kw_27_22) (fun _ h9 => h9) rfl dX1_add_81 ?_
          refine lv_iload_n hx hb dX1_add_84 rfl (lv_at hl 1 rfl) ?_
          refine jast hx hb hK hP hJ hA hS (jc_32 cI cL ad σ τ) (ja_32 cI cL ad σ τ _ _) (jin rfl (by omega) (by omega)) dX1_add_85 (fun σ29 H locs eσ29 hP hS => ?_)
          refine lv_aload_n hx hb dX1_add_86 rfl (lv_at hl 2 rfl) ?_
          refine va_get (D := D) hx hb hts inlX1 hown hK hP 31 (jc_31 cI cL ad σ29 τ) rfl 7 (by decide) (hts _ kw_5_8) (fun _ h9 => h9) rfl dX1_add_87 ?_
          refine lv_aload_n hx hb dX1_add_90 rfl (lv_at hl 2 rfl) ?_
          refine va_get (D := D) hx hb hts inlX1 hown hK hP 31 (jc_31 cI cL ad σ29 τ) rfl 8 (by decide) (hts _ kw_27_22) (fun _ h9 => h9) rfl dX1_add_91 ?_
          have m30 : σ29 31 8 = (σ 31 8) := (by rw [eσ29, jup_n (by decide)])
          refine jtopr m30 ?_
          refine lv_iload hx hb dX1_add_94 (lv_at hl 0 rfl) ?_
          refine jast hx hb hK hP hJ hA hS (jc_37 cI cL ad σ29 τ) (ja_37 cI cL ad σ29 τ _ _) (jin rfl (by omega) (by omega)) dX1_add_96 (fun σ31 H locs eσ31 hP hS => ?_)
          refine lv_aload_n hx hb dX1_add_97 rfl (lv_at hl 2 rfl) ?_
          refine va_get (D := D) hx hb hts inlX1 hown hK hP 31 (jc_31 cI cL ad σ31 τ) rfl 6 (by decide) (hts _ kw_5_7) (fun _ h9 => h9) rfl dX1_add_98 ?_
          refine lv_iload hx hb dX1_add_101 (lv_at hl 0 rfl) ?_
          refine lv_aload_n hx hb dX1_add_103 rfl (lv_at hl 2 rfl) ?_
          refine va_get (D := D) hx hb hts inlX1 hown hK hP 31 (jc_31 cI cL ad σ31 τ) rfl 8 (by decide) (hts _ kw_27_22) (fun _ h9 => h9) rfl dX1_add_104 ?_
          have m32 : σ31 31 8 = (σ 31 8) := (by rw [eσ31, jup_n (by decide)]; exact m30)
          refine jtopr m32 ?_
          refine jast hx hb hK hP hJ hA hS (jc_36 cI cL ad σ31 τ) (ja_36 cI cL ad σ31 τ _ _) (jin rfl (by omega) (by omega)) dX1_add_107 (fun σ33 H locs eσ33 hP hS => ?_)
          refine lv_aload_n hx hb dX1_add_108 rfl (lv_at hl 2 rfl) ?_
          refine lv_dup hx hb dX1_add_109 rfl ?_
          refine va_get (D := D) hx hb hts inlX1 hown hK hP 31 (jc_31 cI cL ad σ33 τ) rfl 8 (by decide) (hts _ kw_27_22) (fun _ h9 => h9) rfl dX1_add_110 ?_
          have m34 : σ33 31 8 = (σ 31 8) := (by rw [eσ33, jup_n (by decide)]; exact m32)
          refine jtopr m34 ?_
          refine lv_dup_x1 hx hb dX1_add_113 rfl rfl ?_
          refine lv_iconst (v := 1) hx hb dX1_add_114 (by decide) ?_
          have g35 := jrg (rfl : (σ 31 8).toInt = (σ 31 8).toInt)
          refine lv_iadd hx hb dX1_add_115 ?_
          refine lv_topi (fun x36 ex36 => ?_)
          have tx36 : x36.toInt = (σ 31 8).toInt + 1 := (jadd ex36 rfl jz_1 (by omega) (by omega)).trans (by omega)
          refine jput (ty := .int) hx hb hts inlX1 tyX1 tyX1_ok nmX1 hown hK hP hJ hA hS (jc_31 cI cL ad σ33 τ) rfl (k := 8) (by decide) (Nat.le_of_ble_eq_true rfl) (jp_31_8 cI cL ad σ33 τ x36) (hts _ kw_27_22) (fun _ h9 => h9) rfl (by decide +kernel) rfl rfl dX1_add_116 (fun σ37 H locs eσ37 hP hS => ?_)
          have z38 : (σ37 31 8).toInt = (σ 31 8).toInt + 1 := by rw [(show σ37 31 8 = x36 from (by rw [eσ37]; exact jup_s))]; exact tx36
          have w39 : ∀ k : Nat, k < 1400 → (-1) ≤ (σ37 33 k).toInt ∧ (σ37 33 k).toInt ≤ 350 := (by rw [eσ37, jup_n (by decide)]; exact (by rw [eσ33, jup_n (by decide)]; exact (by rw [eσ31, jup_n (by decide)]; exact (by rw [eσ29, jup_n (by decide)]; exact w2))))
          have w40 : ∀ k : Nat, k < 1024 → 0 ≤ (σ37 36 k).toInt ∧ (σ37 36 k).toInt ≤ 349 := (by rw [eσ37, jup_n (by decide)]; exact (by rw [eσ33]; exact jrr_up (by rw [eσ31, jup_n (by decide)]; exact (by rw [eσ29, jup_n (by decide)]; exact w3)) (by omega) (by omega)))
          have I41 : jI31 σ37 := ⟨(by omega), w39, w40⟩
          exact hret (σ 31 8) σ37 τ _ _ _ _ rfl ⟨rfl, (fun i hi => by rw [eσ37, jup_n (by omega), eσ33, jup_n (by omega), eσ31, jup_n (by omega), eσ29, jup_n (by omega)]), (fun k hk => by rw [eσ37, jup_k (by omega), eσ33, jup_n (by decide), eσ31, jup_n (by decide), eσ29, jup_n (by decide)]), I41, ⟨trivial, (by omega)⟩⟩ hP hS dX1_add_119
        · have kc28 := jnlt c28 rfl jz_350
          refine lv_sipush (v := 350) hx hb dX1_add_72 (by decide) ?_
          exact hret 350 σ τ _ _ _ _ rfl ⟨rfl, (fun _ _ => rfl), (fun _ _ => rfl), I11, ⟨trivial, (by have h9 := jz_350; omega)⟩⟩ hP hS dX1_add_75
    · have kc17 := jnle c17 jz_0 rfl
      refine lv_sipush (v := 350) hx hb dX1_add_41 (by decide) ?_
      exact hret 350 σ τ _ _ _ _ rfl ⟨rfl, (fun _ _ => rfl), (fun _ _ => rfl), I11, ⟨trivial, (by have h9 := jz_350; omega)⟩⟩ hP hS dX1_add_44
  · have kc4 := jnlt c4 t2 rfl
    refine lv_sipush (v := 350) hx hb dX1_add_8 (by decide) ?_
    have I42 : jI31 σ := ⟨(by omega), w2, w3⟩
    exact hret 350 σ τ _ _ _ _ rfl ⟨rfl, (fun _ _ => rfl), (fun _ _ => rfl), I42, ⟨trivial, (by have h9 := jz_350; omega)⟩⟩ hP hS dX1_add_11
set_option maxHeartbeats 4000000 in
set_option maxRecDepth 100000 in
theorem c_X1_nodeOf_31 (l : Launch) (D : va_G) (cI cL : ClassId) (ad zz : Nat → Nat) (hJ : jD ad) (σ : Nat → Nat → Int32) (τ : Nat → Nat → Int64) (a1 : Int32) (A1 : Int) (t1 : a1.toInt = A1) (a2 : Int32) (A2 : Int) (t2 : a2.toInt = A2) (hI31 : jI31 σ) : jM l yX1_nodeOf cX1_nodeOf 5 (some .int) ({ frames := 2, cells := 0, slots := 0, locals := 49 }) D cI cL ad zz [.ref (ad 31), .int a1, .int a2] σ τ (fun r σ' τ' => (σ = σ' ∧ τ = τ') ∧ ((True ∧ ((-1) ≤ r.toInt ∧ r.toInt ≤ 349)))) := by
  refine jM.of hJ (by decide +kernel) (nt := .int) rfl (Nat.le_of_ble_eq_true rfl) ?_
  intro p e s m args below meth c Q ls hC hret hl hP
  obtain ⟨hx, hb, hr, hml, hown, hts, hK, -, hlocks, hZ⟩ := hC
  have hown : s.vm.findClass RX1 = some m.cls := hown
  have hS : va_S (jA ad) s.heap s.heap [] := va_S.rf
  have hA : ∀ q, jA ad q → jA ad q := fun _ h => h
  have hl : lv_has ls 5 [(0, .ref (ad 31)), (1, .int a1), (2, .int a2)] := hl
  have g1 := jrg t1
  have g2 := jrg t2
  obtain ⟨i1, w2, w3⟩ : (0 ≤ (σ 31 8).toInt ∧ (σ 31 8).toInt ≤ 350) ∧ (∀ k : Nat, k < 1400 → (-1) ≤ (σ 33 k).toInt ∧ (σ 33 k).toInt ≤ 350) ∧ (∀ k : Nat, k < 1024 → 0 ≤ (σ 36 k).toInt ∧ (σ 36 k).toInt ≤ 349) := id hI31
  refine lv_iload_n hx hb dX1_nodeOf_0 rfl (lv_at hl 2 rfl) ?_
  refine lv_aload_n hx hb dX1_nodeOf_1 rfl (lv_at hl 0 rfl) ?_
  refine va_get (D := D) hx hb hts inlX1 hown hK hP 31 (jc_31 cI cL ad σ τ) rfl 10 (by decide) (hts _ kw_28_9) (fun _ h9 => h9) rfl dX1_nodeOf_2 ?_
  have g4 := jrg (rfl : (σ 31 10).toInt = (σ 31 10).toInt)
  refine lv_isub hx hb dX1_nodeOf_5 ?_
  refine lv_topi (fun x5 ex5 => ?_)
  have gx5 := jrg (rfl : x5.toInt = x5.toInt)
  refine lv_istore_n (lv' := [(3, .int x5), (0, .ref (ad 31)), (1, .int a1), (2, .int a2)]) hx hb dX1_nodeOf_6 rfl hl (by decide) rfl (fun ls hl => ?_)
  refine lv_iload_n hx hb dX1_nodeOf_7 rfl (lv_at hl 0 rfl) ?_
  refine lv_if_lt (tgt := 19) hx hb dX1_nodeOf_8 (by decide) (fun c6 => ?_) (fun c6 => ?_)
  · have kc6 := jlt c6 rfl jz_0
    refine lv_iconst (v := (-1)) hx hb dX1_nodeOf_19 (by decide) ?_
    exact hret (-1) σ τ _ _ _ _ rfl ⟨⟨rfl, rfl⟩, ⟨trivial, (by have h9 := jz_m1; omega)⟩⟩ hP hS dX1_nodeOf_20
  · have kc6 := jnlt c6 rfl jz_0
    refine lv_iload_n hx hb dX1_nodeOf_11 rfl (lv_at hl 0 rfl) ?_
    refine lv_aload_n hx hb dX1_nodeOf_12 rfl (lv_at hl 1 rfl) ?_
    refine va_get (D := D) hx hb hts inlX1 hown hK hP 31 (jc_31 cI cL ad σ τ) rfl 11 (by decide) (hts _ kw_28_7) (fun _ h9 => h9) rfl dX1_nodeOf_13 ?_
    refine lv_icmp_lt (tgt := 21) hx hb dX1_nodeOf_16 (by decide) (fun c7 => ?_) (fun c7 => ?_)
    · have kc7 := jlt c7 rfl rfl
      refine lv_aload_n hx hb dX1_nodeOf_21 rfl (lv_at hl 1 rfl) ?_
      refine lv_aload_n hx hb dX1_nodeOf_22 rfl (lv_at hl 1 rfl) ?_
      refine lv_iload_n hx hb dX1_nodeOf_23 rfl (lv_at hl 2 rfl) ?_
      refine lv_aload_n hx hb dX1_nodeOf_24 rfl (lv_at hl 1 rfl) ?_
      refine va_get (D := D) hx hb hts inlX1 hown hK hP 31 (jc_31 cI cL ad σ τ) rfl 11 (by decide) (hts _ kw_28_7) (fun _ h9 => h9) rfl dX1_nodeOf_25 ?_
      refine lv_iload_n hx hb dX1_nodeOf_28 rfl (lv_at hl 0 rfl) ?_
      have g8 := jrg (rfl : (σ 31 11).toInt = (σ 31 11).toInt)
      have g9 := jrg (rfl : x5.toInt = x5.toInt)
      refine lv_isub hx hb dX1_nodeOf_29 ?_
      refine lv_topi (fun x10 ex10 => ?_)
      have tx10 : x10.toInt = (σ 31 11).toInt - x5.toInt := (jsub ex10 rfl rfl (by omega) (by omega)).trans (by omega)
      refine jcallV (As := [.int a1, .int x10]) (rest := [.ref (ad 31)]) ⟨hx, hb, hml, hown, hts⟩ hK hP hA hS hZ (c_X1_trimmed_31 l D cI cL ad zz hJ σ τ a1 (A1) t1 x10 ((σ 31 11).toInt - x5.toInt) tx10) cw_RX1_71 (jc_31 cI cL ad σ τ) rfl ⟨Nat.le_of_ble_eq_true rfl, Nat.le_of_ble_eq_true rfl⟩ rfl rfl rfl hl.1 rfl (Nat.le_of_ble_eq_true rfl) dX1_nodeOf_30 ⟨Nat.zero_le _, Nat.zero_le _⟩ (fun r12 σ11 τ11 H locs h11 hP hS => ?_)
      obtain ⟨⟨rfl, rfl⟩, h11⟩ := h11
      refine lv_iload_n hx hb dX1_nodeOf_33 rfl (lv_at hl 0 rfl) ?_
      refine lv_bipush (v := 27) hx hb dX1_nodeOf_34 (by decide) ?_
      refine lv_ishl hx hb dX1_nodeOf_36 ?_
      refine lv_topi (fun x13 ex13 => ?_)
      have gx13 := jrg (rfl : x13.toInt = x13.toInt)
      refine lv_ior hx hb dX1_nodeOf_37 ?_
      refine lv_topi (fun x14 ex14 => ?_)
      have gx14 := jrg (rfl : x14.toInt = x14.toInt)
      have I15 : jI31 σ := ⟨(by omega), w2, w3⟩
      refine jcallV (As := [.int x14]) (rest := []) ⟨hx, hb, hml, hown, hts⟩ hK hP hA hS hZ (c_X1_slotFor_31 l D cI cL ad zz hJ σ τ x14 (x14.toInt) rfl I15) cw_RX1_77 (jc_31 cI cL ad σ τ) rfl ⟨Nat.le_of_ble_eq_true rfl, Nat.le_of_ble_eq_true rfl⟩ rfl rfl rfl hl.1 rfl (Nat.le_of_ble_eq_true rfl) dX1_nodeOf_38 ⟨Nat.zero_le _, Nat.zero_le _⟩ (fun r17 σ16 τ16 H locs h16 hP hS => ?_)
      obtain ⟨⟨rfl, rfl⟩, h16⟩ := h16
      have h18 := h16
      obtain ⟨q20, k19⟩ := h18
      refine lv_istore (lv' := [(4, .int r17), (3, .int x5), (0, .ref (ad 31)), (1, .int a1), (2, .int a2)]) hx hb dX1_nodeOf_41 hl (by decide) rfl (fun ls hl => ?_)
      refine lv_iload hx hb dX1_nodeOf_43 (lv_at hl 0 rfl) ?_
      refine lv_if_lt (tgt := 57) hx hb dX1_nodeOf_45 (by decide) (fun c21 => ?_) (fun c21 => ?_)
      · have kc21 := jlt c21 rfl jz_0
        refine lv_iconst (v := (-1)) hx hb dX1_nodeOf_57 (by decide) ?_
        refine lv_goto (tgt := 68) hx hb dX1_nodeOf_58 (by decide) ?_
        exact hret (-1) σ τ _ _ _ _ rfl ⟨⟨rfl, rfl⟩, ⟨trivial, (by have h9 := jz_m1; omega)⟩⟩ hP hS dX1_nodeOf_68
      · have kc21 := jnlt c21 rfl jz_0
        refine lv_aload_n hx hb dX1_nodeOf_48 rfl (lv_at hl 2 rfl) ?_
        refine lv_iload hx hb dX1_nodeOf_49 (lv_at hl 0 rfl) ?_
        refine jcallV (As := [.int r17]) (rest := []) ⟨hx, hb, hml, hown, hts⟩ hK hP hA hS hZ (c_X1_isTaken_31 l D cI cL ad zz hJ σ τ r17 (r17.toInt) rfl I15 (by omega)) cw_RX1_81 (jc_31 cI cL ad σ τ) rfl ⟨Nat.le_of_ble_eq_true rfl, Nat.le_of_ble_eq_true rfl⟩ rfl rfl rfl hl.1 rfl (Nat.le_of_ble_eq_true rfl) dX1_nodeOf_51 ⟨Nat.zero_le _, Nat.zero_le _⟩ (fun r23 σ22 τ22 H locs h22 hP hS => ?_)
        obtain ⟨⟨rfl, rfl⟩, h22⟩ := h22
        rcases h22 with h24 | h25
        · obtain ⟨q27, k26⟩ := h24
          have q27 := q27.symm
          subst q27
          refine lv_if_ne (tgt := 61) hx hb dX1_nodeOf_54 (by decide) (fun _ => ?_) (fun c => absurd c (by decide))
          refine lv_aload_n hx hb dX1_nodeOf_61 rfl (lv_at hl 2 rfl) ?_
          refine va_get (D := D) hx hb hts inlX1 hown hK hP 31 (jc_31 cI cL ad σ τ) rfl 6 (by decide) (hts _ kw_5_7) (fun _ h9 => h9) rfl dX1_nodeOf_62 ?_
          refine lv_iload hx hb dX1_nodeOf_65 (lv_at hl 0 rfl) ?_
          refine jald hx hb hK hP (jc_36 cI cL ad σ τ) (jin rfl (by omega) (by omega)) dX1_nodeOf_67 ?_
          have g28 := w3 _ (jnat (x := r17) rfl (n := 1024) (by omega) (by decide))
          refine lv_topi (fun x29 ex29 => ?_)
          rw [← ex29] at g28
          exact hret x29 σ τ _ _ _ _ rfl ⟨⟨rfl, rfl⟩, ⟨trivial, (by omega)⟩⟩ hP hS dX1_nodeOf_68
        · obtain ⟨q31, k30⟩ := h25
          have q31 := q31.symm
          subst q31
          refine lv_if_ne (tgt := 61) hx hb dX1_nodeOf_54 (by decide) (fun c => absurd (by decide) c) (fun _ => ?_)
          refine lv_iconst (v := (-1)) hx hb dX1_nodeOf_57 (by decide) ?_
          refine lv_goto (tgt := 68) hx hb dX1_nodeOf_58 (by decide) ?_
          exact hret (-1) σ τ _ _ _ _ rfl ⟨⟨rfl, rfl⟩, ⟨trivial, (by have h9 := jz_m1; omega)⟩⟩ hP hS dX1_nodeOf_68
    · have kc7 := jnlt c7 rfl rfl
      refine lv_iconst (v := (-1)) hx hb dX1_nodeOf_19 (by decide) ?_
      exact hret (-1) σ τ _ _ _ _ rfl ⟨⟨rfl, rfl⟩, ⟨trivial, (by have h9 := jz_m1; omega)⟩⟩ hP hS dX1_nodeOf_20
set_option maxHeartbeats 4000000 in
set_option maxRecDepth 100000 in
theorem c_X10_uses_22b (l : Launch) (D : va_G) (cI cL : ClassId) (ad zz : Nat → Nat) (hJ : jD ad) (σ : Nat → Nat → Int32) (τ : Nat → Nat → Int64) (a1 : Int32) (A1 : Int) (t1 : a1.toInt = A1) : jM l yX10_uses cX10_uses 2 (some .boolean) ({ frames := 0, cells := 0, slots := 0, locals := 0 }) D cI cL ad zz [.ref (ad 22), .int a1] σ τ (fun r σ' τ' => (σ = σ' ∧ τ = τ') ∧ ((r = 1 ∧ True) ∨ (r = 0 ∧ True))) := by
  refine jM.of hJ (by decide +kernel) (nt := .boolean) rfl (Nat.le_of_ble_eq_true rfl) ?_
  intro p e s m args below meth c Q ls hC hret hl hP
  obtain ⟨hx, hb, hr, hml, hown, hts, hK, -, hlocks, hZ⟩ := hC
  have hown : s.vm.findClass RX10 = some m.cls := hown
  have hS : va_S (jA ad) s.heap s.heap [] := va_S.rf
  have hA : ∀ q, jA ad q → jA ad q := fun _ h => h
  have hl : lv_has ls 2 [(0, .ref (ad 22)), (1, .int a1)] := hl
  have g1 := jrg t1
  refine lv_aload_n hx hb dX10_uses_0 rfl (lv_at hl 0 rfl) ?_
  refine va_get (D := D) hx hb hts inlX10 hown hK hP 22 (jc_22 cI cL ad σ τ) rfl 1 (by decide) (hts _ kw_16_21) (fun _ h9 => h9) rfl dX10_uses_1 ?_
  refine lv_iload_n hx hb dX10_uses_4 rfl (lv_at hl 1 rfl) ?_
  refine lv_ishr hx hb dX10_uses_5 ?_
  refine lv_topi (fun x1 ex1 => ?_)
  have gx1 := jrg (rfl : x1.toInt = x1.toInt)
  refine lv_iconst (v := 1) hx hb dX10_uses_6 (by decide) ?_
  refine lv_iand hx hb dX10_uses_7 ?_
  refine lv_topi (fun x2 ex2 => ?_)
  have gx2 := jrg (rfl : x2.toInt = x2.toInt)
  have g3 : 0 ≤ x2.toInt ∧ x2.toInt ≤ 1 := jmask ex2 1 (by decide) (by decide)
  refine lv_if_eq (tgt := 15) hx hb dX10_uses_8 (by decide) (fun c4 => ?_) (fun c4 => ?_)
  · have kc4 := jeq c4 rfl jz_0
    refine lv_iconst (v := 0) hx hb dX10_uses_15 (by decide) ?_
    exact hret 0 σ τ _ _ _ _ rfl ⟨⟨rfl, rfl⟩, Or.inr (⟨rfl, trivial⟩)⟩ hP hS dX10_uses_16
  · have kc4 := jne c4 rfl jz_0
    refine lv_iconst (v := 1) hx hb dX10_uses_11 (by decide) ?_
    refine lv_goto (tgt := 16) hx hb dX10_uses_12 (by decide) ?_
    exact hret 1 σ τ _ _ _ _ rfl ⟨⟨rfl, rfl⟩, Or.inl ⟨rfl, trivial⟩⟩ hP hS dX10_uses_16
set_option maxHeartbeats 4000000 in
set_option maxRecDepth 100000 in
theorem c_X1_grow_31 (l : Launch) (D : va_G) (cI cL : ClassId) (ad zz : Nat → Nat) (hJ : jD ad) (σ : Nat → Nat → Int32) (τ : Nat → Nat → Int64) (a1 : Int32) (A1 : Int) (t1 : a1.toInt = A1) (a2 : Int32) (A2 : Int) (t2 : a2.toInt = A2) (hI31 : jI31 σ) : jMv l yX1_grow cX1_grow 9 none ({ frames := 3, cells := 0, slots := 0, locals := 73 }) D cI cL ad zz [.ref (ad 31), .int a1, .int a2] σ τ (fun σ' τ' => τ = τ' ∧ (∀ i : Nat, (i < 31 ∨ 33 < i) ∧ (i < 36 ∨ 37 < i) → σ' i = σ i) ∧ (∀ k : Nat, (k < 8 ∨ 8 < k) ∧ (k < 9 ∨ 9 < k) ∧ (k < 10 ∨ 10 < k) ∧ (k < 11 ∨ 11 < k) ∧ (k < 12 ∨ 12 < k) → σ' 31 k = σ 31 k) ∧ (jI31 σ') ∧ True) := by
  refine jMv.of hJ (by decide +kernel) rfl (Nat.le_of_ble_eq_true rfl) ?_
  intro p e s m args below meth c Q ls hC hret hl hP
  obtain ⟨hx, hb, hr, hml, hown, hts, hK, -, hlocks, hZ⟩ := hC
  have hown : s.vm.findClass RX1 = some m.cls := hown
  have hS : va_S (jA ad) s.heap s.heap [] := va_S.rf
  have hA : ∀ q, jA ad q → jA ad q := fun _ h => h
  have hl : lv_has ls 9 [(0, .ref (ad 31)), (1, .int a1), (2, .int a2)] := hl
  have g1 := jrg t1
  have g2 := jrg t2
  obtain ⟨i1, w2, w3⟩ : (0 ≤ (σ 31 8).toInt ∧ (σ 31 8).toInt ≤ 350) ∧ (∀ k : Nat, k < 1400 → (-1) ≤ (σ 33 k).toInt ∧ (σ 33 k).toInt ≤ 350) ∧ (∀ k : Nat, k < 1024 → 0 ≤ (σ 36 k).toInt ∧ (σ 36 k).toInt ≤ 349) := id hI31
  refine lv_iconst (v := 0) hx hb dX1_grow_0 (by decide) ?_
  refine lv_bipush (v := 8) hx hb dX1_grow_1 (by decide) ?_
  refine lv_aload_n hx hb dX1_grow_3 rfl (lv_at hl 0 rfl) ?_
  refine va_get (D := D) hx hb hts inlX1 hown hK hP 31 (jc_31 cI cL ad σ τ) rfl 1 (by decide) (hts _ kw_5_11) (fun _ h9 => h9) rfl dX1_grow_4 ?_
  refine va_get (D := D) hx hb hts inlX6 hown hK hP 16 (jc_16 cI cL ad σ τ) rfl 1 (by decide) (hts _ kw_28_3) (fun _ h9 => h9) rfl dX1_grow_7 ?_
  refine lv_iload_n hx hb dX1_grow_10 rfl (lv_at hl 2 rfl) ?_
  have g4 := jrg (rfl : (σ 16 1).toInt = (σ 16 1).toInt)
  refine lv_isub hx hb dX1_grow_11 ?_
  refine lv_topi (fun x5 ex5 => ?_)
  have gx5 := jrg (rfl : x5.toInt = x5.toInt)
  refine va_mmin hx hb (hml.trans hl.1.symm) hown (hts _ kw_28_4) (hts _ kw_22_11) (hts _ kw_21_1) (hts _ kw_22_12) (Nat.le_of_ble_eq_true rfl) (Nat.le_of_ble_eq_true rfl) (Nat.le_of_ble_eq_true rfl) (Nat.le_of_ble_eq_true rfl) dX1_grow_12 ?_
  refine lv_topi (fun x6 ex6 => ?_)
  have g7 := jmin ex6 jz_8 rfl
  refine va_mmax hx hb (hml.trans hl.1.symm) hown (hts _ kw_28_5) (hts _ kw_21_0) (hts _ kw_21_1) (hts _ kw_21_2) (Nat.le_of_ble_eq_true rfl) (Nat.le_of_ble_eq_true rfl) (Nat.le_of_ble_eq_true rfl) (Nat.le_of_ble_eq_true rfl) dX1_grow_15 ?_
  refine lv_topi (fun x8 ex8 => ?_)
  have g9 := jmax ex8 jz_0 rfl
  refine lv_istore_n (lv' := [(3, .int x8), (0, .ref (ad 31)), (1, .int a1), (2, .int a2)]) hx hb dX1_grow_18 rfl hl (by decide) rfl (fun ls hl => ?_)
  refine lv_aload_n hx hb dX1_grow_19 rfl (lv_at hl 1 rfl) ?_
  refine va_get (D := D) hx hb hts inlX1 hown hK hP 31 (jc_31 cI cL ad σ τ) rfl 0 (by decide) (hts _ kw_5_10) (fun _ h9 => h9) rfl dX1_grow_20 ?_
  refine va_get (D := D) hx hb hts inlX5 hown hK hP 26 (jc_26 cI cL ad σ τ) rfl 0 (by decide) (hts _ kw_28_6) (fun _ h9 => h9) rfl dX1_grow_23 ?_
  refine lv_iconst (v := 5) hx hb dX1_grow_26 (by decide) ?_
  refine jcallV (As := [.int 5]) (rest := []) ⟨hx, hb, hml, hown, hts⟩ hK hP hA hS hZ (c_X10_uses_22b l D cI cL ad zz hJ σ τ 5 (5) jz_5) cw_RX1_104 (jc_22 cI cL ad σ τ) rfl ⟨Nat.le_of_ble_eq_true rfl, Nat.le_of_ble_eq_true rfl⟩ rfl rfl rfl hl.1 rfl (Nat.le_of_ble_eq_true rfl) dX1_grow_27 ⟨Nat.zero_le _, Nat.zero_le _⟩ (fun r11 σ10 τ10 H locs h10 hP hS => ?_)
  obtain ⟨⟨rfl, rfl⟩, h10⟩ := h10
  rcases h10 with h12 | h13
  · obtain ⟨q15, k14⟩ := h12
    have q15 := q15.symm
    subst q15
    refine lv_istore (lv' := [(4, .int 1), (3, .int x8), (0, .ref (ad 31)), (1, .int a1), (2, .int a2)]) hx hb dX1_grow_30 hl (by decide) rfl (fun ls hl => ?_)
    refine lv_aload_n hx hb dX1_grow_32 rfl (lv_at hl 2 rfl) ?_
    refine va_get (D := D) hx hb hts inlX1 hown hK hP 31 (jc_31 cI cL ad σ τ) rfl 9 (by decide) (hts _ kw_5_9) (fun _ h9 => h9) rfl dX1_grow_33 ?_
    refine lv_iload_n hx hb dX1_grow_36 rfl (lv_at hl 3 rfl) ?_
    refine lv_icmp_ne (tgt := 63) hx hb dX1_grow_37 (by decide) (fun c16 => ?_) (fun c16 => ?_)
    · have kc16 := jne c16 rfl t1
      refine lv_aload_n hx hb dX1_grow_63 rfl (lv_at hl 2 rfl) ?_
      refine lv_iload_n hx hb dX1_grow_64 rfl (lv_at hl 3 rfl) ?_
      refine jput (ty := .int) hx hb hts inlX1 tyX1 tyX1_ok nmX1 hown hK hP hJ hA hS (jc_31 cI cL ad σ τ) rfl (k := 9) (by decide) (Nat.le_of_ble_eq_true rfl) (jp_31_9 cI cL ad σ τ a1) (hts _ kw_5_9) (fun _ h9 => h9) rfl (by decide +kernel) rfl rfl dX1_grow_65 (fun σ17 H locs eσ17 hP hS => ?_)
      refine lv_aload_n hx hb dX1_grow_68 rfl (lv_at hl 2 rfl) ?_
      refine lv_iload_n hx hb dX1_grow_69 rfl (lv_at hl 4 rfl) ?_
      refine jput (ty := .int) hx hb hts inlX1 tyX1 tyX1_ok nmX1 hown hK hP hJ hA hS (jc_31 cI cL ad σ17 τ) rfl (k := 10) (by decide) (Nat.le_of_ble_eq_true rfl) (jp_31_10 cI cL ad σ17 τ a2) (hts _ kw_28_9) (fun _ h9 => h9) rfl (by decide +kernel) rfl rfl dX1_grow_70 (fun σ18 H locs eσ18 hP hS => ?_)
      refine lv_aload_n hx hb dX1_grow_73 rfl (lv_at hl 2 rfl) ?_
      refine lv_iload_n hx hb dX1_grow_74 rfl (lv_at hl 1 rfl) ?_
      refine jput (ty := .int) hx hb hts inlX1 tyX1 tyX1_ok nmX1 hown hK hP hJ hA hS (jc_31 cI cL ad σ18 τ) rfl (k := 11) (by decide) (Nat.le_of_ble_eq_true rfl) (jp_31_11 cI cL ad σ18 τ x8) (hts _ kw_28_7) (fun _ h9 => h9) rfl (by decide +kernel) rfl rfl dX1_grow_75 (fun σ19 H locs eσ19 hP hS => ?_)
      refine lv_aload_n hx hb dX1_grow_78 rfl (lv_at hl 2 rfl) ?_
      refine lv_iload hx hb dX1_grow_79 (lv_at hl 0 rfl) ?_
      refine jput (ty := .boolean) hx hb hts inlX1 tyX1 tyX1_ok nmX1 hown hK hP hJ hA hS (jc_31 cI cL ad σ19 τ) rfl (k := 12) (by decide) (Nat.le_of_ble_eq_true rfl) (jp_31_12 cI cL ad σ19 τ 1) (hts _ kw_28_8) (fun _ h9 => h9) rfl (by decide +kernel) rfl rfl dX1_grow_81 (fun σ20 H locs eσ20 hP hS => ?_)
      refine lv_aload_n hx hb dX1_grow_84 rfl (lv_at hl 2 rfl) ?_
      refine lv_iconst (v := 0) hx hb dX1_grow_85 (by decide) ?_
      refine jput (ty := .int) hx hb hts inlX1 tyX1 tyX1_ok nmX1 hown hK hP hJ hA hS (jc_31 cI cL ad σ20 τ) rfl (k := 8) (by decide) (Nat.le_of_ble_eq_true rfl) (jp_31_8 cI cL ad σ20 τ 0) (hts _ kw_27_22) (fun _ h9 => h9) rfl (by decide +kernel) rfl rfl dX1_grow_86 (fun σ21 H locs eσ21 hP hS => ?_)
      refine lv_aload_n hx hb dX1_grow_89 rfl (lv_at hl 2 rfl) ?_
      refine lv_iload_n hx hb dX1_grow_90 rfl (lv_at hl 3 rfl) ?_
      refine lv_iconst (v := 0) hx hb dX1_grow_91 (by decide) ?_
      have z22 : (σ21 31 8).toInt = 0 := by rw [(show σ21 31 8 = 0 from (by rw [eσ21]; exact jup_s))]; exact jz_0
      have w23 : ∀ k : Nat, k < 1400 → (-1) ≤ (σ21 33 k).toInt ∧ (σ21 33 k).toInt ≤ 350 := (by rw [eσ21, jup_n (by decide)]; exact (by rw [eσ20, jup_n (by decide)]; exact (by rw [eσ19, jup_n (by decide)]; exact (by rw [eσ18, jup_n (by decide)]; exact (by rw [eσ17, jup_n (by decide)]; exact w2)))))
      have w24 : ∀ k : Nat, k < 1024 → 0 ≤ (σ21 36 k).toInt ∧ (σ21 36 k).toInt ≤ 349 := (by rw [eσ21, jup_n (by decide)]; exact (by rw [eσ20, jup_n (by decide)]; exact (by rw [eσ19, jup_n (by decide)]; exact (by rw [eσ18, jup_n (by decide)]; exact (by rw [eσ17, jup_n (by decide)]; exact w3)))))
      have I25 : jI31 σ21 := ⟨(by omega), w23, w24⟩
      refine jcallV (As := [.int a1, .int 0]) (rest := []) ⟨hx, hb, hml, hown, hts⟩ hK hP hA hS hZ (c_X1_add_31 l D cI cL ad zz hJ σ21 τ a1 (A1) t1 0 (0) jz_0 I25) cw_RX1_111 (jc_31 cI cL ad σ21 τ) rfl ⟨Nat.le_of_ble_eq_true rfl, Nat.le_of_ble_eq_true rfl⟩ rfl rfl rfl hl.1 rfl (Nat.le_of_ble_eq_true rfl) dX1_grow_92 ⟨Nat.zero_le _, Nat.zero_le _⟩ (fun r27 σ26 τ26 H locs h26 hP hS => ?_)
      obtain ⟨rfl, f28, f29, I30, h26⟩ := h26
      obtain ⟨i31, w32, w33⟩ : (0 ≤ (σ26 31 8).toInt ∧ (σ26 31 8).toInt ≤ 350) ∧ (∀ k : Nat, k < 1400 → (-1) ≤ (σ26 33 k).toInt ∧ (σ26 33 k).toInt ≤ 350) ∧ (∀ k : Nat, k < 1024 → 0 ≤ (σ26 36 k).toInt ∧ (σ26 36 k).toInt ≤ 349) := id I30
      have h34 := h26
      obtain ⟨q36, k35⟩ := h34
      refine lv_pop hx hb dX1_grow_95 rfl ?_
      refine lv_iconst (v := 0) hx hb dX1_grow_96 (by decide) ?_
      refine lv_istore (lv' := [(5, .int 0), (4, .int 1), (3, .int x8), (0, .ref (ad 31)), (1, .int a1), (2, .int a2)]) hx hb dX1_grow_97 hl (by decide) rfl (fun ls hl => ?_)
      have lp37 : ∀ (n38 : Nat) (x39 : Int32) (σ43 : Nat → Nat → Int32) (H : Heap) (locs : List Loc) (ls : Array Slot), (-x39.toInt + 350 : Int) < n38 → 0 ≤ x39.toInt → x39.toInt ≤ 350 → 0 ≤ (σ43 31 8).toInt ∧ (σ43 31 8).toInt ≤ 350 → (∀ i : Nat, (i < 31 ∨ 33 < i) ∧ (i < 36 ∨ 37 < i) → σ43 i = σ26 i) → (∀ k : Nat, (k < 8 ∨ 8 < k) → σ43 31 k = σ26 31 k) → (∀ k : Nat, k < 1400 → (-1) ≤ (σ43 33 k).toInt ∧ (σ43 33 k).toInt ≤ 350) → (∀ k : Nat, k < 1024 → 0 ≤ (σ43 36 k).toInt ∧ (σ43 36 k).toInt ≤ 349) → jH D cI cL ad σ43 τ H → va_S (jA ad) s.heap H locs → lv_has ls 9 [(5, .int x39), (4, .int 1), (3, .int x8), (0, .ref (ad 31)), (1, .int a1), (2, .int a2)] → W p l e ({ frames := 3, cells := 0, slots := 0, locals := 73 }) s m args below meth c H locs 0 0 Q (F0 m 99 ls []) := by
        intro n38
        induction n38 with
        | zero => intro x39 σ43 H locs ls h44 h45 h46 h47; exact absurd h44 (by omega)
        | succ n38 ihlp37 =>
          intro x39 σ43 H locs ls h44 h45 h46 h47 f48 f49 w50 w51 hP hS hl
          refine lv_iload hx hb dX1_grow_99 (lv_at hl 0 rfl) ?_
          refine lv_aload_n hx hb dX1_grow_101 rfl (lv_at hl 3 rfl) ?_
          refine va_get (D := D) hx hb hts inlX1 hown hK hP 31 (jc_31 cI cL ad σ43 τ) rfl 8 (by decide) (hts _ kw_27_22) (fun _ h9 => h9) rfl dX1_grow_102 ?_
          refine lv_icmp_ge (tgt := 202) hx hb dX1_grow_105 (by decide) (fun c52 => ?_) (fun c52 => ?_)
          · have kc52 := jle c52 rfl rfl
            have I53 : jI31 σ43 := ⟨(by omega), w50, w51⟩
            exact hret σ43 τ _ _ _ _ ⟨rfl, (fun i hi => by rw [f48 i (by omega), f28 i (by omega), eσ21, jup_n (by omega), eσ20, jup_n (by omega), eσ19, jup_n (by omega), eσ18, jup_n (by omega), eσ17, jup_n (by omega)]), (fun k hk => by rw [f49 k (by omega), f29 k (by omega), eσ21, jup_k (by omega), eσ20, jup_k (by omega), eσ19, jup_k (by omega), eσ18, jup_k (by omega), eσ17, jup_k (by omega)]), I53, trivial⟩ hP hS dX1_grow_202
          · have kc52 := jnle c52 rfl rfl
            refine lv_iload hx hb dX1_grow_108 (lv_at hl 0 rfl) ?_
            refine lv_sipush (v := 350) hx hb dX1_grow_110 (by decide) ?_
            refine lv_icmp_ge (tgt := 202) hx hb dX1_grow_113 (by decide) (fun c => absurd (jle c jz_350 rfl) (by omega)) (fun c54 => ?_)
            have kc54 := jnle c54 jz_350 rfl
            refine lv_aload_n hx hb dX1_grow_116 rfl (lv_at hl 3 rfl) ?_
            refine va_get (D := D) hx hb hts inlX1 hown hK hP 31 (jc_31 cI cL ad σ43 τ) rfl 2 (by decide) (hts _ kw_5_3) (fun _ h9 => h9) rfl dX1_grow_117 ?_
            refine lv_iload hx hb dX1_grow_120 (lv_at hl 0 rfl) ?_
            refine jald hx hb hK hP (jc_32 cI cL ad σ43 τ) (jin rfl (by omega) (by omega)) dX1_grow_122 ?_
            refine lv_topi (fun x55 ex55 => ?_)
            refine lv_ldc (v := 134217727) hx hb hown (hts _ kw_28_10) dX1_grow_123 ?_
            refine lv_iand hx hb dX1_grow_125 ?_
            refine lv_topi (fun x56 ex56 => ?_)
            have gx56 := jrg (rfl : x56.toInt = x56.toInt)
            have g57 : 0 ≤ x56.toInt ∧ x56.toInt ≤ 134217727 := jmask ex56 27 (by decide) (by decide)
            refine lv_istore (lv' := [(6, .int x56), (5, .int x39), (4, .int 1), (3, .int x8), (0, .ref (ad 31)), (1, .int a1), (2, .int a2)]) hx hb dX1_grow_126 hl (by decide) rfl (fun ls hl => ?_)
            refine lv_aload_n hx hb dX1_grow_128 rfl (lv_at hl 4 rfl) ?_
            refine va_get (D := D) hx hb hts inlX1 hown hK hP 31 (jc_31 cI cL ad σ43 τ) rfl 2 (by decide) (hts _ kw_5_3) (fun _ h9 => h9) rfl dX1_grow_129 ?_
            refine lv_iload hx hb dX1_grow_132 (lv_at hl 1 rfl) ?_
            refine jald hx hb hK hP (jc_32 cI cL ad σ43 τ) (jin rfl (by omega) (by omega)) dX1_grow_134 ?_
            refine lv_topi (fun x58 ex58 => ?_)
            refine lv_bipush (v := 27) hx hb dX1_grow_135 (by decide) ?_
            refine lv_ishr hx hb dX1_grow_137 ?_
            refine lv_topi (fun x59 ex59 => ?_)
            have gx59 := jrg (rfl : x59.toInt = x59.toInt)
            refine lv_istore (lv' := [(7, .int x59), (6, .int x56), (5, .int x39), (4, .int 1), (3, .int x8), (0, .ref (ad 31)), (1, .int a1), (2, .int a2)]) hx hb dX1_grow_138 hl (by decide) rfl (fun ls hl => ?_)
            refine lv_iconst (v := 0) hx hb dX1_grow_140 (by decide) ?_
            refine lv_istore (lv' := [(8, .int 0), (7, .int x59), (6, .int x56), (5, .int x39), (4, .int 1), (3, .int x8), (0, .ref (ad 31)), (1, .int a1), (2, .int a2)]) hx hb dX1_grow_141 hl (by decide) rfl (fun ls hl => ?_)
            have lp60 : ∀ (n61 : Nat) (x62 : Int32) (σ63 : Nat → Nat → Int32) (H : Heap) (locs : List Loc) (ls : Array Slot), (-x62.toInt + 4 : Int) < n61 → 0 ≤ x62.toInt → x62.toInt ≤ 4 → 0 ≤ (σ63 31 8).toInt ∧ (σ63 31 8).toInt ≤ 350 → (∀ i : Nat, (i < 31 ∨ 33 < i) ∧ (i < 36 ∨ 37 < i) → σ63 i = σ43 i) → (∀ k : Nat, (k < 8 ∨ 8 < k) → σ63 31 k = σ43 31 k) → (∀ k : Nat, k < 1400 → (-1) ≤ (σ63 33 k).toInt ∧ (σ63 33 k).toInt ≤ 350) → (∀ k : Nat, k < 1024 → 0 ≤ (σ63 36 k).toInt ∧ (σ63 36 k).toInt ≤ 349) → jH D cI cL ad σ63 τ H → va_S (jA ad) s.heap H locs → lv_has ls 9 [(8, .int x62), (7, .int x59), (6, .int x56), (5, .int x39), (4, .int 1), (3, .int x8), (0, .ref (ad 31)), (1, .int a1), (2, .int a2)] → W p l e ({ frames := 3, cells := 0, slots := 0, locals := 73 }) s m args below meth c H locs 0 0 Q (F0 m 143 ls []) := by
              intro n61
              induction n61 with
              | zero => intro x62 σ63 H locs ls h64 h65 h66 h67; exact absurd h64 (by omega)
              | succ n61 ihlp60 =>
                intro x62 σ63 H locs ls h64 h65 h66 h67 f68 f69 w70 w71 hP hS hl
                refine lv_iload hx hb dX1_grow_143 (lv_at hl 0 rfl) ?_
                refine lv_iconst (v := 4) hx hb dX1_grow_145 (by decide) ?_
                refine lv_icmp_ge (tgt := 196) hx hb dX1_grow_146 (by decide) (fun c72 => ?_) (fun c72 => ?_)
                · have kc72 := jle c72 jz_4 rfl
                  obtain ⟨x73, ex73⟩ : ∃ y : Int32, y = x39 + 1 := ⟨_, rfl⟩
                  have tx73 : x73.toInt = x39.toInt + 1 := (jadd ex73 rfl jz_1 (by omega) (by omega)).trans (by omega)
                  refine lv_iinc (v := x73) (lv' := [(5, .int x73), (8, .int x62), (7, .int x59), (6, .int x56), (4, .int 1), (3, .int x8), (0, .ref (ad 31)), (1, .int a1), (2, .int a2)]) hx hb dX1_grow_196 hl (k := 3) rfl (by rw [ex73]; rfl) (by decide) rfl (fun ls hl => ?_)
                  refine lv_goto (tgt := 99) hx hb dX1_grow_199 (by decide) ?_
                  exact ihlp37 x73 σ63 _ _ ls (by have h90 := tx73; omega) (by have h90 := tx73; omega) (by have h90 := tx73; omega) (by have h90 := tx73; omega) (fun i hi => by rw [f68 i (by omega), f48 i hi]) (fun k hk => by rw [f69 k (by omega), f49 k hk])  w70 w71 hP hS (lv_sub hl [0, 4, 5, 6, 7, 8] rfl)
                · have kc72 := jnle c72 jz_4 rfl
                  refine lv_aload_n hx hb dX1_grow_149 rfl (lv_at hl 6 rfl) ?_
                  refine va_get (D := D) hx hb hts inlX1 hown hK hP 31 (jc_31 cI cL ad σ63 τ) rfl 3 (by decide) (hts _ kw_5_4) (fun _ h9 => h9) rfl dX1_grow_150 ?_
                  refine lv_iload hx hb dX1_grow_153 (lv_at hl 3 rfl) ?_
                  refine lv_iconst (v := 4) hx hb dX1_grow_155 (by decide) ?_
                  have g74 := jrg (rfl : x39.toInt = x39.toInt)
                  refine lv_imul hx hb dX1_grow_156 ?_
                  refine lv_topi (fun x75 ex75 => ?_)
                  have tx75 : x75.toInt = 4 * x39.toInt := (jmul ex75 rfl jz_4 (by omega) (by omega)).trans (by omega)
                  refine lv_iload hx hb dX1_grow_157 (lv_at hl 0 rfl) ?_
                  have g76 := jrg (rfl : x62.toInt = x62.toInt)
                  refine lv_iadd hx hb dX1_grow_159 ?_
                  refine lv_topi (fun x77 ex77 => ?_)
                  have tx77 : x77.toInt = 4 * x39.toInt + x62.toInt := (jadd ex77 tx75 rfl (by omega) (by omega)).trans (by omega)
                  refine lv_iload hx hb dX1_grow_160 (lv_at hl 2 rfl) ?_
                  refine lv_iload hx hb dX1_grow_162 (lv_at hl 0 rfl) ?_
                  refine jcallS (As := [.int x56, .int x62]) (rest := [.int x77, .ref (ad 33)]) ⟨hx, hb, hml, hown, hts⟩ hK hP hA hS hZ (c_X0_mayBowl l D cI cL ad zz hJ σ63 τ x56 (x56.toInt) rfl x62 (x62.toInt) rfl) cw_RX1_115 ⟨Nat.le_of_ble_eq_true rfl, Nat.le_of_ble_eq_true rfl⟩ rfl rfl rfl hl.1 rfl (Nat.le_of_ble_eq_true rfl) dX1_grow_164 ⟨Nat.zero_le _, Nat.zero_le _⟩ (fun r79 σ78 τ78 H locs h78 hP hS => ?_)
                  obtain ⟨⟨rfl, rfl⟩, h78⟩ := h78
                  refine lv_if_eq (tgt := 188) hx hb dX1_grow_167 (by decide) (fun c80 => ?_) (fun c80 => ?_)
                  · have kc80 := jeq c80 rfl jz_0
                    refine lv_iconst (v := (-1)) hx hb dX1_grow_188 (by decide) ?_
                    refine jast hx hb hK hP hJ hA hS (jc_33 cI cL ad σ63 τ) (ja_33 cI cL ad σ63 τ _ _) (jin tx77 (by omega) (by omega)) dX1_grow_189 (fun σ81 H locs eσ81 hP hS => ?_)
                    obtain ⟨x82, ex82⟩ : ∃ y : Int32, y = x62 + 1 := ⟨_, rfl⟩
                    have tx82 : x82.toInt = x62.toInt + 1 := (jadd ex82 rfl jz_1 (by omega) (by omega)).trans (by omega)
                    refine lv_iinc (v := x82) (lv' := [(8, .int x82), (7, .int x59), (6, .int x56), (5, .int x39), (4, .int 1), (3, .int x8), (0, .ref (ad 31)), (1, .int a1), (2, .int a2)]) hx hb dX1_grow_190 hl (k := 0) rfl (by rw [ex82]; rfl) (by decide) rfl (fun ls hl => ?_)
                    refine lv_goto (tgt := 143) hx hb dX1_grow_193 (by decide) ?_
                    have z83 : (σ81 31 8).toInt = (σ63 31 8).toInt := by rw [(show σ81 31 8 = (σ63 31 8) from (by rw [eσ81, jup_n (by decide)]))]
                    have w84 : ∀ k : Nat, k < 1400 → (-1) ≤ (σ81 33 k).toInt ∧ (σ81 33 k).toInt ≤ 350 := (by rw [eσ81]; exact jrr_up w70 (by have h9 := jz_m1; omega) (by have h9 := jz_m1; omega))
                    have w85 : ∀ k : Nat, k < 1024 → 0 ≤ (σ81 36 k).toInt ∧ (σ81 36 k).toInt ≤ 349 := (by rw [eσ81, jup_n (by decide)]; exact w71)
                    exact ihlp60 x82 σ81 _ _ ls (by have h90 := tx82; omega) (by have h90 := tx82; omega) (by have h90 := tx82; omega) (by have h90 := tx82; omega) (fun i hi => by rw [eσ81, jup_n (by omega), f68 i hi]) (fun k hk => by rw [eσ81, jup_n (by decide), f69 k hk])  w84 w85 hP hS (lv_sub hl [0, 1, 2, 3, 4, 5, 6, 7, 8] rfl)
                  · have kc80 := jne c80 rfl jz_0
                    refine lv_aload_n hx hb dX1_grow_170 rfl (lv_at hl 6 rfl) ?_
                    refine lv_iload hx hb dX1_grow_171 (lv_at hl 2 rfl) ?_
                    refine lv_iload hx hb dX1_grow_173 (lv_at hl 0 rfl) ?_
                    refine jcallS (As := [.int x56, .int x62]) (rest := [.ref (ad 31), .int x77, .ref (ad 33)]) ⟨hx, hb, hml, hown, hts⟩ hK hP hA hS hZ (c_X0_after l D cI cL ad zz hJ σ63 τ x56 (x56.toInt) rfl x62 (x62.toInt) rfl) cw_RX1_119 ⟨Nat.le_of_ble_eq_true rfl, Nat.le_of_ble_eq_true rfl⟩ rfl rfl rfl hl.1 rfl (Nat.le_of_ble_eq_true rfl) dX1_grow_175 ⟨Nat.zero_le _, Nat.zero_le _⟩ (fun r87 σ86 τ86 H locs h86 hP hS => ?_)
                    obtain ⟨⟨rfl, rfl⟩, h86⟩ := h86
                    refine lv_iload hx hb dX1_grow_178 (lv_at hl 1 rfl) ?_
                    refine lv_iconst (v := 1) hx hb dX1_grow_180 (by decide) ?_
                    have g88 := jrg (rfl : x59.toInt = x59.toInt)
                    refine lv_iadd hx hb dX1_grow_181 ?_
                    refine lv_topi (fun x89 ex89 => ?_)
                    have gx89 := jrg (rfl : x89.toInt = x89.toInt)
                    have I90 : jI31 σ63 := ⟨(by omega), w70, w71⟩
                    refine jcallV (As := [.int r87, .int x89]) (rest := [.int x77, .ref (ad 33)]) ⟨hx, hb, hml, hown, hts⟩ hK hP hA hS hZ (c_X1_add_31 l D cI cL ad zz hJ σ63 τ r87 (r87.toInt) rfl x89 (x89.toInt) rfl I90) cw_RX1_111 (jc_31 cI cL ad σ63 τ) rfl ⟨Nat.le_of_ble_eq_true rfl, Nat.le_of_ble_eq_true rfl⟩ rfl rfl rfl hl.1 rfl (Nat.le_of_ble_eq_true rfl) dX1_grow_182 ⟨Nat.zero_le _, Nat.zero_le _⟩ (fun r92 σ91 τ91 H locs h91 hP hS => ?_)
                    obtain ⟨rfl, f93, f94, I95, h91⟩ := h91
                    obtain ⟨i96, w97, w98⟩ : (0 ≤ (σ91 31 8).toInt ∧ (σ91 31 8).toInt ≤ 350) ∧ (∀ k : Nat, k < 1400 → (-1) ≤ (σ91 33 k).toInt ∧ (σ91 33 k).toInt ≤ 350) ∧ (∀ k : Nat, k < 1024 → 0 ≤ (σ91 36 k).toInt ∧ (σ91 36 k).toInt ≤ 349) := id I95
                    have h99 := h91
                    obtain ⟨q101, k100⟩ := h99
                    refine lv_goto (tgt := 189) hx hb dX1_grow_185 (by decide) ?_
                    refine jast hx hb hK hP hJ hA hS (jc_33 cI cL ad σ91 τ) (ja_33 cI cL ad σ91 τ _ _) (jin tx77 (by omega) (by omega)) dX1_grow_189 (fun σ102 H locs eσ102 hP hS => ?_)
                    obtain ⟨x103, ex103⟩ : ∃ y : Int32, y = x62 + 1 := ⟨_, rfl⟩
                    have tx103 : x103.toInt = x62.toInt + 1 := (jadd ex103 rfl jz_1 (by omega) (by omega)).trans (by omega)
                    refine lv_iinc (v := x103) (lv' := [(8, .int x103), (7, .int x59), (6, .int x56), (5, .int x39), (4, .int 1), (3, .int x8), (0, .ref (ad 31)), (1, .int a1), (2, .int a2)]) hx hb dX1_grow_190 hl (k := 0) rfl (by rw [ex103]; rfl) (by decide) rfl (fun ls hl => ?_)
                    refine lv_goto (tgt := 143) hx hb dX1_grow_193 (by decide) ?_
                    have z104 : (σ102 31 8).toInt = (σ91 31 8).toInt := by rw [(show σ102 31 8 = (σ91 31 8) from (by rw [eσ102, jup_n (by decide)]))]
                    have w105 : ∀ k : Nat, k < 1400 → (-1) ≤ (σ102 33 k).toInt ∧ (σ102 33 k).toInt ≤ 350 := (by rw [eσ102]; exact jrr_up w97 (by omega) (by omega))
                    have w106 : ∀ k : Nat, k < 1024 → 0 ≤ (σ102 36 k).toInt ∧ (σ102 36 k).toInt ≤ 349 := (by rw [eσ102, jup_n (by decide)]; exact w98)
                    exact ihlp60 x103 σ102 _ _ ls (by have h90 := tx103; omega) (by have h90 := tx103; omega) (by have h90 := tx103; omega) (by have h90 := tx103; omega) (fun i hi => by rw [eσ102, jup_n (by omega), f93 i (by omega), f68 i hi]) (fun k hk => by rw [eσ102, jup_n (by decide), f94 k (by omega), f69 k hk])  w105 w106 hP hS (lv_sub hl [0, 1, 2, 3, 4, 5, 6, 7, 8] rfl)
            exact lp60 1000000 0 σ43 _ _ ls (by have h90 := jz_0; omega) (by have h90 := jz_0; omega) (by have h90 := jz_0; omega) (by have h90 := jz_0; omega) (fun _ _ => rfl) (fun _ _ => rfl)  w50 w51 hP hS hl
      exact lp37 1000000 0 σ26 _ _ ls (by have h90 := jz_0; omega) (by have h90 := jz_0; omega) (by have h90 := jz_0; omega) (by have h90 := jz_0; omega) (fun _ _ => rfl) (fun _ _ => rfl)  w32 w33 hP hS hl
    · have kc16 := jeq c16 rfl t1
      refine lv_aload_n hx hb dX1_grow_40 rfl (lv_at hl 2 rfl) ?_
      refine va_get (D := D) hx hb hts inlX1 hown hK hP 31 (jc_31 cI cL ad σ τ) rfl 11 (by decide) (hts _ kw_28_7) (fun _ h9 => h9) rfl dX1_grow_41 ?_
      refine lv_iload_n hx hb dX1_grow_44 rfl (lv_at hl 1 rfl) ?_
      refine lv_icmp_ne (tgt := 63) hx hb dX1_grow_45 (by decide) (fun c107 => ?_) (fun c107 => ?_)
      · have kc107 := jne c107 rfl rfl
        refine lv_aload_n hx hb dX1_grow_63 rfl (lv_at hl 2 rfl) ?_
        refine lv_iload_n hx hb dX1_grow_64 rfl (lv_at hl 3 rfl) ?_
        refine jput (ty := .int) hx hb hts inlX1 tyX1 tyX1_ok nmX1 hown hK hP hJ hA hS (jc_31 cI cL ad σ τ) rfl (k := 9) (by decide) (Nat.le_of_ble_eq_true rfl) (jp_31_9 cI cL ad σ τ a1) (hts _ kw_5_9) (fun _ h9 => h9) rfl (by decide +kernel) rfl rfl dX1_grow_65 (fun σ108 H locs eσ108 hP hS => ?_)
        refine lv_aload_n hx hb dX1_grow_68 rfl (lv_at hl 2 rfl) ?_
        refine lv_iload_n hx hb dX1_grow_69 rfl (lv_at hl 4 rfl) ?_
        refine jput (ty := .int) hx hb hts inlX1 tyX1 tyX1_ok nmX1 hown hK hP hJ hA hS (jc_31 cI cL ad σ108 τ) rfl (k := 10) (by decide) (Nat.le_of_ble_eq_true rfl) (jp_31_10 cI cL ad σ108 τ a2) (hts _ kw_28_9) (fun _ h9 => h9) rfl (by decide +kernel) rfl rfl dX1_grow_70 (fun σ109 H locs eσ109 hP hS => ?_)
        refine lv_aload_n hx hb dX1_grow_73 rfl (lv_at hl 2 rfl) ?_
        refine lv_iload_n hx hb dX1_grow_74 rfl (lv_at hl 1 rfl) ?_
        refine jput (ty := .int) hx hb hts inlX1 tyX1 tyX1_ok nmX1 hown hK hP hJ hA hS (jc_31 cI cL ad σ109 τ) rfl (k := 11) (by decide) (Nat.le_of_ble_eq_true rfl) (jp_31_11 cI cL ad σ109 τ x8) (hts _ kw_28_7) (fun _ h9 => h9) rfl (by decide +kernel) rfl rfl dX1_grow_75 (fun σ110 H locs eσ110 hP hS => ?_)
        refine lv_aload_n hx hb dX1_grow_78 rfl (lv_at hl 2 rfl) ?_
        refine lv_iload hx hb dX1_grow_79 (lv_at hl 0 rfl) ?_
        refine jput (ty := .boolean) hx hb hts inlX1 tyX1 tyX1_ok nmX1 hown hK hP hJ hA hS (jc_31 cI cL ad σ110 τ) rfl (k := 12) (by decide) (Nat.le_of_ble_eq_true rfl) (jp_31_12 cI cL ad σ110 τ 1) (hts _ kw_28_8) (fun _ h9 => h9) rfl (by decide +kernel) rfl rfl dX1_grow_81 (fun σ111 H locs eσ111 hP hS => ?_)
        refine lv_aload_n hx hb dX1_grow_84 rfl (lv_at hl 2 rfl) ?_
        refine lv_iconst (v := 0) hx hb dX1_grow_85 (by decide) ?_
        refine jput (ty := .int) hx hb hts inlX1 tyX1 tyX1_ok nmX1 hown hK hP hJ hA hS (jc_31 cI cL ad σ111 τ) rfl (k := 8) (by decide) (Nat.le_of_ble_eq_true rfl) (jp_31_8 cI cL ad σ111 τ 0) (hts _ kw_27_22) (fun _ h9 => h9) rfl (by decide +kernel) rfl rfl dX1_grow_86 (fun σ112 H locs eσ112 hP hS => ?_)
        refine lv_aload_n hx hb dX1_grow_89 rfl (lv_at hl 2 rfl) ?_
        refine lv_iload_n hx hb dX1_grow_90 rfl (lv_at hl 3 rfl) ?_
        refine lv_iconst (v := 0) hx hb dX1_grow_91 (by decide) ?_
        have z113 : (σ112 31 8).toInt = 0 := by rw [(show σ112 31 8 = 0 from (by rw [eσ112]; exact jup_s))]; exact jz_0
        have w114 : ∀ k : Nat, k < 1400 → (-1) ≤ (σ112 33 k).toInt ∧ (σ112 33 k).toInt ≤ 350 := (by rw [eσ112, jup_n (by decide)]; exact (by rw [eσ111, jup_n (by decide)]; exact (by rw [eσ110, jup_n (by decide)]; exact (by rw [eσ109, jup_n (by decide)]; exact (by rw [eσ108, jup_n (by decide)]; exact w2)))))
        have w115 : ∀ k : Nat, k < 1024 → 0 ≤ (σ112 36 k).toInt ∧ (σ112 36 k).toInt ≤ 349 := (by rw [eσ112, jup_n (by decide)]; exact (by rw [eσ111, jup_n (by decide)]; exact (by rw [eσ110, jup_n (by decide)]; exact (by rw [eσ109, jup_n (by decide)]; exact (by rw [eσ108, jup_n (by decide)]; exact w3)))))
        have I116 : jI31 σ112 := ⟨(by omega), w114, w115⟩
        refine jcallV (As := [.int a1, .int 0]) (rest := []) ⟨hx, hb, hml, hown, hts⟩ hK hP hA hS hZ (c_X1_add_31 l D cI cL ad zz hJ σ112 τ a1 (A1) t1 0 (0) jz_0 I116) cw_RX1_111 (jc_31 cI cL ad σ112 τ) rfl ⟨Nat.le_of_ble_eq_true rfl, Nat.le_of_ble_eq_true rfl⟩ rfl rfl rfl hl.1 rfl (Nat.le_of_ble_eq_true rfl) dX1_grow_92 ⟨Nat.zero_le _, Nat.zero_le _⟩ (fun r118 σ117 τ117 H locs h117 hP hS => ?_)
        obtain ⟨rfl, f119, f120, I121, h117⟩ := h117
        obtain ⟨i122, w123, w124⟩ : (0 ≤ (σ117 31 8).toInt ∧ (σ117 31 8).toInt ≤ 350) ∧ (∀ k : Nat, k < 1400 → (-1) ≤ (σ117 33 k).toInt ∧ (σ117 33 k).toInt ≤ 350) ∧ (∀ k : Nat, k < 1024 → 0 ≤ (σ117 36 k).toInt ∧ (σ117 36 k).toInt ≤ 349) := id I121
        have h125 := h117
        obtain ⟨q127, k126⟩ := h125
        refine lv_pop hx hb dX1_grow_95 rfl ?_
        refine lv_iconst (v := 0) hx hb dX1_grow_96 (by decide) ?_
        refine lv_istore (lv' := [(5, .int 0), (4, .int 1), (3, .int x8), (0, .ref (ad 31)), (1, .int a1), (2, .int a2)]) hx hb dX1_grow_97 hl (by decide) rfl (fun ls hl => ?_)
        have lp128 : ∀ (n129 : Nat) (x130 : Int32) (σ134 : Nat → Nat → Int32) (H : Heap) (locs : List Loc) (ls : Array Slot), (-x130.toInt + 350 : Int) < n129 → 0 ≤ x130.toInt → x130.toInt ≤ 350 → 0 ≤ (σ134 31 8).toInt ∧ (σ134 31 8).toInt ≤ 350 → (∀ i : Nat, (i < 31 ∨ 33 < i) ∧ (i < 36 ∨ 37 < i) → σ134 i = σ117 i) → (∀ k : Nat, (k < 8 ∨ 8 < k) → σ134 31 k = σ117 31 k) → (∀ k : Nat, k < 1400 → (-1) ≤ (σ134 33 k).toInt ∧ (σ134 33 k).toInt ≤ 350) → (∀ k : Nat, k < 1024 → 0 ≤ (σ134 36 k).toInt ∧ (σ134 36 k).toInt ≤ 349) → jH D cI cL ad σ134 τ H → va_S (jA ad) s.heap H locs → lv_has ls 9 [(5, .int x130), (4, .int 1), (3, .int x8), (0, .ref (ad 31)), (1, .int a1), (2, .int a2)] → W p l e ({ frames := 3, cells := 0, slots := 0, locals := 73 }) s m args below meth c H locs 0 0 Q (F0 m 99 ls []) := by
          intro n129
          induction n129 with
          | zero => intro x130 σ134 H locs ls h135 h136 h137 h138; exact absurd h135 (by omega)
          | succ n129 ihlp128 =>
            intro x130 σ134 H locs ls h135 h136 h137 h138 f139 f140 w141 w142 hP hS hl
            refine lv_iload hx hb dX1_grow_99 (lv_at hl 0 rfl) ?_
            refine lv_aload_n hx hb dX1_grow_101 rfl (lv_at hl 3 rfl) ?_
            refine va_get (D := D) hx hb hts inlX1 hown hK hP 31 (jc_31 cI cL ad σ134 τ) rfl 8 (by decide) (hts _ kw_27_22) (fun _ h9 => h9) rfl dX1_grow_102 ?_
            refine lv_icmp_ge (tgt := 202) hx hb dX1_grow_105 (by decide) (fun c143 => ?_) (fun c143 => ?_)
            · have kc143 := jle c143 rfl rfl
              have I144 : jI31 σ134 := ⟨(by omega), w141, w142⟩
              exact hret σ134 τ _ _ _ _ ⟨rfl, (fun i hi => by rw [f139 i (by omega), f119 i (by omega), eσ112, jup_n (by omega), eσ111, jup_n (by omega), eσ110, jup_n (by omega), eσ109, jup_n (by omega), eσ108, jup_n (by omega)]), (fun k hk => by rw [f140 k (by omega), f120 k (by omega), eσ112, jup_k (by omega), eσ111, jup_k (by omega), eσ110, jup_k (by omega), eσ109, jup_k (by omega), eσ108, jup_k (by omega)]), I144, trivial⟩ hP hS dX1_grow_202
            · have kc143 := jnle c143 rfl rfl
              refine lv_iload hx hb dX1_grow_108 (lv_at hl 0 rfl) ?_
              refine lv_sipush (v := 350) hx hb dX1_grow_110 (by decide) ?_
              refine lv_icmp_ge (tgt := 202) hx hb dX1_grow_113 (by decide) (fun c => absurd (jle c jz_350 rfl) (by omega)) (fun c145 => ?_)
              have kc145 := jnle c145 jz_350 rfl
              refine lv_aload_n hx hb dX1_grow_116 rfl (lv_at hl 3 rfl) ?_
              refine va_get (D := D) hx hb hts inlX1 hown hK hP 31 (jc_31 cI cL ad σ134 τ) rfl 2 (by decide) (hts _ kw_5_3) (fun _ h9 => h9) rfl dX1_grow_117 ?_
              refine lv_iload hx hb dX1_grow_120 (lv_at hl 0 rfl) ?_
              refine jald hx hb hK hP (jc_32 cI cL ad σ134 τ) (jin rfl (by omega) (by omega)) dX1_grow_122 ?_
              refine lv_topi (fun x146 ex146 => ?_)
              refine lv_ldc (v := 134217727) hx hb hown (hts _ kw_28_10) dX1_grow_123 ?_
              refine lv_iand hx hb dX1_grow_125 ?_
              refine lv_topi (fun x147 ex147 => ?_)
              have gx147 := jrg (rfl : x147.toInt = x147.toInt)
              have g148 : 0 ≤ x147.toInt ∧ x147.toInt ≤ 134217727 := jmask ex147 27 (by decide) (by decide)
              refine lv_istore (lv' := [(6, .int x147), (5, .int x130), (4, .int 1), (3, .int x8), (0, .ref (ad 31)), (1, .int a1), (2, .int a2)]) hx hb dX1_grow_126 hl (by decide) rfl (fun ls hl => ?_)
              refine lv_aload_n hx hb dX1_grow_128 rfl (lv_at hl 4 rfl) ?_
              refine va_get (D := D) hx hb hts inlX1 hown hK hP 31 (jc_31 cI cL ad σ134 τ) rfl 2 (by decide) (hts _ kw_5_3) (fun _ h9 => h9) rfl dX1_grow_129 ?_
              refine lv_iload hx hb dX1_grow_132 (lv_at hl 1 rfl) ?_
              refine jald hx hb hK hP (jc_32 cI cL ad σ134 τ) (jin rfl (by omega) (by omega)) dX1_grow_134 ?_
              refine lv_topi (fun x149 ex149 => ?_)
              refine lv_bipush (v := 27) hx hb dX1_grow_135 (by decide) ?_
              refine lv_ishr hx hb dX1_grow_137 ?_
              refine lv_topi (fun x150 ex150 => ?_)
              have gx150 := jrg (rfl : x150.toInt = x150.toInt)
              refine lv_istore (lv' := [(7, .int x150), (6, .int x147), (5, .int x130), (4, .int 1), (3, .int x8), (0, .ref (ad 31)), (1, .int a1), (2, .int a2)]) hx hb dX1_grow_138 hl (by decide) rfl (fun ls hl => ?_)
              refine lv_iconst (v := 0) hx hb dX1_grow_140 (by decide) ?_
              refine lv_istore (lv' := [(8, .int 0), (7, .int x150), (6, .int x147), (5, .int x130), (4, .int 1), (3, .int x8), (0, .ref (ad 31)), (1, .int a1), (2, .int a2)]) hx hb dX1_grow_141 hl (by decide) rfl (fun ls hl => ?_)
              have lp151 : ∀ (n152 : Nat) (x153 : Int32) (σ154 : Nat → Nat → Int32) (H : Heap) (locs : List Loc) (ls : Array Slot), (-x153.toInt + 4 : Int) < n152 → 0 ≤ x153.toInt → x153.toInt ≤ 4 → 0 ≤ (σ154 31 8).toInt ∧ (σ154 31 8).toInt ≤ 350 → (∀ i : Nat, (i < 31 ∨ 33 < i) ∧ (i < 36 ∨ 37 < i) → σ154 i = σ134 i) → (∀ k : Nat, (k < 8 ∨ 8 < k) → σ154 31 k = σ134 31 k) → (∀ k : Nat, k < 1400 → (-1) ≤ (σ154 33 k).toInt ∧ (σ154 33 k).toInt ≤ 350) → (∀ k : Nat, k < 1024 → 0 ≤ (σ154 36 k).toInt ∧ (σ154 36 k).toInt ≤ 349) → jH D cI cL ad σ154 τ H → va_S (jA ad) s.heap H locs → lv_has ls 9 [(8, .int x153), (7, .int x150), (6, .int x147), (5, .int x130), (4, .int 1), (3, .int x8), (0, .ref (ad 31)), (1, .int a1), (2, .int a2)] → W p l e ({ frames := 3, cells := 0, slots := 0, locals := 73 }) s m args below meth c H locs 0 0 Q (F0 m 143 ls []) := by
                intro n152
                induction n152 with
                | zero => intro x153 σ154 H locs ls h155 h156 h157 h158; exact absurd h155 (by omega)
                | succ n152 ihlp151 =>
                  intro x153 σ154 H locs ls h155 h156 h157 h158 f159 f160 w161 w162 hP hS hl
                  refine lv_iload hx hb dX1_grow_143 (lv_at hl 0 rfl) ?_
                  refine lv_iconst (v := 4) hx hb dX1_grow_145 (by decide) ?_
                  refine lv_icmp_ge (tgt := 196) hx hb dX1_grow_146 (by decide) (fun c163 => ?_) (fun c163 => ?_)
                  · have kc163 := jle c163 jz_4 rfl
                    obtain ⟨x164, ex164⟩ : ∃ y : Int32, y = x130 + 1 := ⟨_, rfl⟩
                    have tx164 : x164.toInt = x130.toInt + 1 := (jadd ex164 rfl jz_1 (by omega) (by omega)).trans (by omega)
                    refine lv_iinc (v := x164) (lv' := [(5, .int x164), (8, .int x153), (7, .int x150), (6, .int x147), (4, .int 1), (3, .int x8), (0, .ref (ad 31)), (1, .int a1), (2, .int a2)]) hx hb dX1_grow_196 hl (k := 3) rfl (by rw [ex164]; rfl) (by decide) rfl (fun ls hl => ?_)
                    refine lv_goto (tgt := 99) hx hb dX1_grow_199 (by decide) ?_
                    exact ihlp128 x164 σ154 _ _ ls (by have h90 := tx164; omega) (by have h90 := tx164; omega) (by have h90 := tx164; omega) (by have h90 := tx164; omega) (fun i hi => by rw [f159 i (by omega), f139 i hi]) (fun k hk => by rw [f160 k (by omega), f140 k hk])  w161 w162 hP hS (lv_sub hl [0, 4, 5, 6, 7, 8] rfl)
                  · have kc163 := jnle c163 jz_4 rfl
                    refine lv_aload_n hx hb dX1_grow_149 rfl (lv_at hl 6 rfl) ?_
                    refine va_get (D := D) hx hb hts inlX1 hown hK hP 31 (jc_31 cI cL ad σ154 τ) rfl 3 (by decide) (hts _ kw_5_4) (fun _ h9 => h9) rfl dX1_grow_150 ?_
                    refine lv_iload hx hb dX1_grow_153 (lv_at hl 3 rfl) ?_
                    refine lv_iconst (v := 4) hx hb dX1_grow_155 (by decide) ?_
                    have g165 := jrg (rfl : x130.toInt = x130.toInt)
                    refine lv_imul hx hb dX1_grow_156 ?_
                    refine lv_topi (fun x166 ex166 => ?_)
                    have tx166 : x166.toInt = 4 * x130.toInt := (jmul ex166 rfl jz_4 (by omega) (by omega)).trans (by omega)
                    refine lv_iload hx hb dX1_grow_157 (lv_at hl 0 rfl) ?_
                    have g167 := jrg (rfl : x153.toInt = x153.toInt)
                    refine lv_iadd hx hb dX1_grow_159 ?_
                    refine lv_topi (fun x168 ex168 => ?_)
                    have tx168 : x168.toInt = 4 * x130.toInt + x153.toInt := (jadd ex168 tx166 rfl (by omega) (by omega)).trans (by omega)
                    refine lv_iload hx hb dX1_grow_160 (lv_at hl 2 rfl) ?_
                    refine lv_iload hx hb dX1_grow_162 (lv_at hl 0 rfl) ?_
                    refine jcallS (As := [.int x147, .int x153]) (rest := [.int x168, .ref (ad 33)]) ⟨hx, hb, hml, hown, hts⟩ hK hP hA hS hZ (c_X0_mayBowl l D cI cL ad zz hJ σ154 τ x147 (x147.toInt) rfl x153 (x153.toInt) rfl) cw_RX1_115 ⟨Nat.le_of_ble_eq_true rfl, Nat.le_of_ble_eq_true rfl⟩ rfl rfl rfl hl.1 rfl (Nat.le_of_ble_eq_true rfl) dX1_grow_164 ⟨Nat.zero_le _, Nat.zero_le _⟩ (fun r170 σ169 τ169 H locs h169 hP hS => ?_)
                    obtain ⟨⟨rfl, rfl⟩, h169⟩ := h169
                    refine lv_if_eq (tgt := 188) hx hb dX1_grow_167 (by decide) (fun c171 => ?_) (fun c171 => ?_)
                    · have kc171 := jeq c171 rfl jz_0
                      refine lv_iconst (v := (-1)) hx hb dX1_grow_188 (by decide) ?_
                      refine jast hx hb hK hP hJ hA hS (jc_33 cI cL ad σ154 τ) (ja_33 cI cL ad σ154 τ _ _) (jin tx168 (by omega) (by omega)) dX1_grow_189 (fun σ172 H locs eσ172 hP hS => ?_)
                      obtain ⟨x173, ex173⟩ : ∃ y : Int32, y = x153 + 1 := ⟨_, rfl⟩
                      have tx173 : x173.toInt = x153.toInt + 1 := (jadd ex173 rfl jz_1 (by omega) (by omega)).trans (by omega)
                      refine lv_iinc (v := x173) (lv' := [(8, .int x173), (7, .int x150), (6, .int x147), (5, .int x130), (4, .int 1), (3, .int x8), (0, .ref (ad 31)), (1, .int a1), (2, .int a2)]) hx hb dX1_grow_190 hl (k := 0) rfl (by rw [ex173]; rfl) (by decide) rfl (fun ls hl => ?_)
                      refine lv_goto (tgt := 143) hx hb dX1_grow_193 (by decide) ?_
                      have z174 : (σ172 31 8).toInt = (σ154 31 8).toInt := by rw [(show σ172 31 8 = (σ154 31 8) from (by rw [eσ172, jup_n (by decide)]))]
                      have w175 : ∀ k : Nat, k < 1400 → (-1) ≤ (σ172 33 k).toInt ∧ (σ172 33 k).toInt ≤ 350 := (by rw [eσ172]; exact jrr_up w161 (by have h9 := jz_m1; omega) (by have h9 := jz_m1; omega))
                      have w176 : ∀ k : Nat, k < 1024 → 0 ≤ (σ172 36 k).toInt ∧ (σ172 36 k).toInt ≤ 349 := (by rw [eσ172, jup_n (by decide)]; exact w162)
                      exact ihlp151 x173 σ172 _ _ ls (by have h90 := tx173; omega) (by have h90 := tx173; omega) (by have h90 := tx173; omega) (by have h90 := tx173; omega) (fun i hi => by rw [eσ172, jup_n (by omega), f159 i hi]) (fun k hk => by rw [eσ172, jup_n (by decide), f160 k hk])  w175 w176 hP hS (lv_sub hl [0, 1, 2, 3, 4, 5, 6, 7, 8] rfl)
                    · have kc171 := jne c171 rfl jz_0
                      refine lv_aload_n hx hb dX1_grow_170 rfl (lv_at hl 6 rfl) ?_
                      refine lv_iload hx hb dX1_grow_171 (lv_at hl 2 rfl) ?_
                      refine lv_iload hx hb dX1_grow_173 (lv_at hl 0 rfl) ?_
                      refine jcallS (As := [.int x147, .int x153]) (rest := [.ref (ad 31), .int x168, .ref (ad 33)]) ⟨hx, hb, hml, hown, hts⟩ hK hP hA hS hZ (c_X0_after l D cI cL ad zz hJ σ154 τ x147 (x147.toInt) rfl x153 (x153.toInt) rfl) cw_RX1_119 ⟨Nat.le_of_ble_eq_true rfl, Nat.le_of_ble_eq_true rfl⟩ rfl rfl rfl hl.1 rfl (Nat.le_of_ble_eq_true rfl) dX1_grow_175 ⟨Nat.zero_le _, Nat.zero_le _⟩ (fun r178 σ177 τ177 H locs h177 hP hS => ?_)
                      obtain ⟨⟨rfl, rfl⟩, h177⟩ := h177
                      refine lv_iload hx hb dX1_grow_178 (lv_at hl 1 rfl) ?_
                      refine lv_iconst (v := 1) hx hb dX1_grow_180 (by decide) ?_
                      have g179 := jrg (rfl : x150.toInt = x150.toInt)
                      refine lv_iadd hx hb dX1_grow_181 ?_
                      refine lv_topi (fun x180 ex180 => ?_)
                      have gx180 := jrg (rfl : x180.toInt = x180.toInt)
                      have I181 : jI31 σ154 := ⟨(by omega), w161, w162⟩
                      refine jcallV (As := [.int r178, .int x180]) (rest := [.int x168, .ref (ad 33)]) ⟨hx, hb, hml, hown, hts⟩ hK hP hA hS hZ (c_X1_add_31 l D cI cL ad zz hJ σ154 τ r178 (r178.toInt) rfl x180 (x180.toInt) rfl I181) cw_RX1_111 (jc_31 cI cL ad σ154 τ) rfl ⟨Nat.le_of_ble_eq_true rfl, Nat.le_of_ble_eq_true rfl⟩ rfl rfl rfl hl.1 rfl (Nat.le_of_ble_eq_true rfl) dX1_grow_182 ⟨Nat.zero_le _, Nat.zero_le _⟩ (fun r183 σ182 τ182 H locs h182 hP hS => ?_)
                      obtain ⟨rfl, f184, f185, I186, h182⟩ := h182
                      obtain ⟨i187, w188, w189⟩ : (0 ≤ (σ182 31 8).toInt ∧ (σ182 31 8).toInt ≤ 350) ∧ (∀ k : Nat, k < 1400 → (-1) ≤ (σ182 33 k).toInt ∧ (σ182 33 k).toInt ≤ 350) ∧ (∀ k : Nat, k < 1024 → 0 ≤ (σ182 36 k).toInt ∧ (σ182 36 k).toInt ≤ 349) := id I186
                      have h190 := h182
                      obtain ⟨q192, k191⟩ := h190
                      refine lv_goto (tgt := 189) hx hb dX1_grow_185 (by decide) ?_
                      refine jast hx hb hK hP hJ hA hS (jc_33 cI cL ad σ182 τ) (ja_33 cI cL ad σ182 τ _ _) (jin tx168 (by omega) (by omega)) dX1_grow_189 (fun σ193 H locs eσ193 hP hS => ?_)
                      obtain ⟨x194, ex194⟩ : ∃ y : Int32, y = x153 + 1 := ⟨_, rfl⟩
                      have tx194 : x194.toInt = x153.toInt + 1 := (jadd ex194 rfl jz_1 (by omega) (by omega)).trans (by omega)
                      refine lv_iinc (v := x194) (lv' := [(8, .int x194), (7, .int x150), (6, .int x147), (5, .int x130), (4, .int 1), (3, .int x8), (0, .ref (ad 31)), (1, .int a1), (2, .int a2)]) hx hb dX1_grow_190 hl (k := 0) rfl (by rw [ex194]; rfl) (by decide) rfl (fun ls hl => ?_)
                      refine lv_goto (tgt := 143) hx hb dX1_grow_193 (by decide) ?_
                      have z195 : (σ193 31 8).toInt = (σ182 31 8).toInt := by rw [(show σ193 31 8 = (σ182 31 8) from (by rw [eσ193, jup_n (by decide)]))]
                      have w196 : ∀ k : Nat, k < 1400 → (-1) ≤ (σ193 33 k).toInt ∧ (σ193 33 k).toInt ≤ 350 := (by rw [eσ193]; exact jrr_up w188 (by omega) (by omega))
                      have w197 : ∀ k : Nat, k < 1024 → 0 ≤ (σ193 36 k).toInt ∧ (σ193 36 k).toInt ≤ 349 := (by rw [eσ193, jup_n (by decide)]; exact w189)
                      exact ihlp151 x194 σ193 _ _ ls (by have h90 := tx194; omega) (by have h90 := tx194; omega) (by have h90 := tx194; omega) (by have h90 := tx194; omega) (fun i hi => by rw [eσ193, jup_n (by omega), f184 i (by omega), f159 i hi]) (fun k hk => by rw [eσ193, jup_n (by decide), f185 k (by omega), f160 k hk])  w196 w197 hP hS (lv_sub hl [0, 1, 2, 3, 4, 5, 6, 7, 8] rfl)
              exact lp151 1000000 0 σ134 _ _ ls (by have h90 := jz_0; omega) (by have h90 := jz_0; omega) (by have h90 := jz_0; omega) (by have h90 := jz_0; omega) (fun _ _ => rfl) (fun _ _ => rfl)  w141 w142 hP hS hl
        exact lp128 1000000 0 σ117 _ _ ls (by have h90 := jz_0; omega) (by have h90 := jz_0; omega) (by have h90 := jz_0; omega) (by have h90 := jz_0; omega) (fun _ _ => rfl) (fun _ _ => rfl)  w123 w124 hP hS hl
      · have kc107 := jeq c107 rfl rfl
        refine lv_aload_n hx hb dX1_grow_48 rfl (lv_at hl 2 rfl) ?_
        refine va_get (D := D) hx hb hts inlX1 hown hK hP 31 (jc_31 cI cL ad σ τ) rfl 12 (by decide) (hts _ kw_28_8) (fun _ h9 => h9) rfl dX1_grow_49 ?_
        refine lv_iload hx hb dX1_grow_52 (lv_at hl 0 rfl) ?_
        refine lv_icmp_ne (tgt := 63) hx hb dX1_grow_54 (by decide) (fun c198 => ?_) (fun c198 => ?_)
        · have kc198 := jne c198 rfl jz_1
          refine lv_aload_n hx hb dX1_grow_63 rfl (lv_at hl 2 rfl) ?_
          refine lv_iload_n hx hb dX1_grow_64 rfl (lv_at hl 3 rfl) ?_
          refine jput (ty := .int) hx hb hts inlX1 tyX1 tyX1_ok nmX1 hown hK hP hJ hA hS (jc_31 cI cL ad σ τ) rfl (k := 9) (by decide) (Nat.le_of_ble_eq_true rfl) (jp_31_9 cI cL ad σ τ a1) (hts _ kw_5_9) (fun _ h9 => h9) rfl (by decide +kernel) rfl rfl dX1_grow_65 (fun σ199 H locs eσ199 hP hS => ?_)
          refine lv_aload_n hx hb dX1_grow_68 rfl (lv_at hl 2 rfl) ?_
          refine lv_iload_n hx hb dX1_grow_69 rfl (lv_at hl 4 rfl) ?_
          refine jput (ty := .int) hx hb hts inlX1 tyX1 tyX1_ok nmX1 hown hK hP hJ hA hS (jc_31 cI cL ad σ199 τ) rfl (k := 10) (by decide) (Nat.le_of_ble_eq_true rfl) (jp_31_10 cI cL ad σ199 τ a2) (hts _ kw_28_9) (fun _ h9 => h9) rfl (by decide +kernel) rfl rfl dX1_grow_70 (fun σ200 H locs eσ200 hP hS => ?_)
          refine lv_aload_n hx hb dX1_grow_73 rfl (lv_at hl 2 rfl) ?_
          refine lv_iload_n hx hb dX1_grow_74 rfl (lv_at hl 1 rfl) ?_
          refine jput (ty := .int) hx hb hts inlX1 tyX1 tyX1_ok nmX1 hown hK hP hJ hA hS (jc_31 cI cL ad σ200 τ) rfl (k := 11) (by decide) (Nat.le_of_ble_eq_true rfl) (jp_31_11 cI cL ad σ200 τ x8) (hts _ kw_28_7) (fun _ h9 => h9) rfl (by decide +kernel) rfl rfl dX1_grow_75 (fun σ201 H locs eσ201 hP hS => ?_)
          refine lv_aload_n hx hb dX1_grow_78 rfl (lv_at hl 2 rfl) ?_
          refine lv_iload hx hb dX1_grow_79 (lv_at hl 0 rfl) ?_
          refine jput (ty := .boolean) hx hb hts inlX1 tyX1 tyX1_ok nmX1 hown hK hP hJ hA hS (jc_31 cI cL ad σ201 τ) rfl (k := 12) (by decide) (Nat.le_of_ble_eq_true rfl) (jp_31_12 cI cL ad σ201 τ 1) (hts _ kw_28_8) (fun _ h9 => h9) rfl (by decide +kernel) rfl rfl dX1_grow_81 (fun σ202 H locs eσ202 hP hS => ?_)
          refine lv_aload_n hx hb dX1_grow_84 rfl (lv_at hl 2 rfl) ?_
          refine lv_iconst (v := 0) hx hb dX1_grow_85 (by decide) ?_
          refine jput (ty := .int) hx hb hts inlX1 tyX1 tyX1_ok nmX1 hown hK hP hJ hA hS (jc_31 cI cL ad σ202 τ) rfl (k := 8) (by decide) (Nat.le_of_ble_eq_true rfl) (jp_31_8 cI cL ad σ202 τ 0) (hts _ kw_27_22) (fun _ h9 => h9) rfl (by decide +kernel) rfl rfl dX1_grow_86 (fun σ203 H locs eσ203 hP hS => ?_)
          refine lv_aload_n hx hb dX1_grow_89 rfl (lv_at hl 2 rfl) ?_
          refine lv_iload_n hx hb dX1_grow_90 rfl (lv_at hl 3 rfl) ?_
          refine lv_iconst (v := 0) hx hb dX1_grow_91 (by decide) ?_
          have z204 : (σ203 31 8).toInt = 0 := by rw [(show σ203 31 8 = 0 from (by rw [eσ203]; exact jup_s))]; exact jz_0
          have w205 : ∀ k : Nat, k < 1400 → (-1) ≤ (σ203 33 k).toInt ∧ (σ203 33 k).toInt ≤ 350 := (by rw [eσ203, jup_n (by decide)]; exact (by rw [eσ202, jup_n (by decide)]; exact (by rw [eσ201, jup_n (by decide)]; exact (by rw [eσ200, jup_n (by decide)]; exact (by rw [eσ199, jup_n (by decide)]; exact w2)))))
          have w206 : ∀ k : Nat, k < 1024 → 0 ≤ (σ203 36 k).toInt ∧ (σ203 36 k).toInt ≤ 349 := (by rw [eσ203, jup_n (by decide)]; exact (by rw [eσ202, jup_n (by decide)]; exact (by rw [eσ201, jup_n (by decide)]; exact (by rw [eσ200, jup_n (by decide)]; exact (by rw [eσ199, jup_n (by decide)]; exact w3)))))
          have I207 : jI31 σ203 := ⟨(by omega), w205, w206⟩
          refine jcallV (As := [.int a1, .int 0]) (rest := []) ⟨hx, hb, hml, hown, hts⟩ hK hP hA hS hZ (c_X1_add_31 l D cI cL ad zz hJ σ203 τ a1 (A1) t1 0 (0) jz_0 I207) cw_RX1_111 (jc_31 cI cL ad σ203 τ) rfl ⟨Nat.le_of_ble_eq_true rfl, Nat.le_of_ble_eq_true rfl⟩ rfl rfl rfl hl.1 rfl (Nat.le_of_ble_eq_true rfl) dX1_grow_92 ⟨Nat.zero_le _, Nat.zero_le _⟩ (fun r209 σ208 τ208 H locs h208 hP hS => ?_)
          obtain ⟨rfl, f210, f211, I212, h208⟩ := h208
          obtain ⟨i213, w214, w215⟩ : (0 ≤ (σ208 31 8).toInt ∧ (σ208 31 8).toInt ≤ 350) ∧ (∀ k : Nat, k < 1400 → (-1) ≤ (σ208 33 k).toInt ∧ (σ208 33 k).toInt ≤ 350) ∧ (∀ k : Nat, k < 1024 → 0 ≤ (σ208 36 k).toInt ∧ (σ208 36 k).toInt ≤ 349) := id I212
          have h216 := h208
          obtain ⟨q218, k217⟩ := h216
          refine lv_pop hx hb dX1_grow_95 rfl ?_
          refine lv_iconst (v := 0) hx hb dX1_grow_96 (by decide) ?_
          refine lv_istore (lv' := [(5, .int 0), (4, .int 1), (3, .int x8), (0, .ref (ad 31)), (1, .int a1), (2, .int a2)]) hx hb dX1_grow_97 hl (by decide) rfl (fun ls hl => ?_)
          have lp219 : ∀ (n220 : Nat) (x221 : Int32) (σ225 : Nat → Nat → Int32) (H : Heap) (locs : List Loc) (ls : Array Slot), (-x221.toInt + 350 : Int) < n220 → 0 ≤ x221.toInt → x221.toInt ≤ 350 → 0 ≤ (σ225 31 8).toInt ∧ (σ225 31 8).toInt ≤ 350 → (∀ i : Nat, (i < 31 ∨ 33 < i) ∧ (i < 36 ∨ 37 < i) → σ225 i = σ208 i) → (∀ k : Nat, (k < 8 ∨ 8 < k) → σ225 31 k = σ208 31 k) → (∀ k : Nat, k < 1400 → (-1) ≤ (σ225 33 k).toInt ∧ (σ225 33 k).toInt ≤ 350) → (∀ k : Nat, k < 1024 → 0 ≤ (σ225 36 k).toInt ∧ (σ225 36 k).toInt ≤ 349) → jH D cI cL ad σ225 τ H → va_S (jA ad) s.heap H locs → lv_has ls 9 [(5, .int x221), (4, .int 1), (3, .int x8), (0, .ref (ad 31)), (1, .int a1), (2, .int a2)] → W p l e ({ frames := 3, cells := 0, slots := 0, locals := 73 }) s m args below meth c H locs 0 0 Q (F0 m 99 ls []) := by
            intro n220
            induction n220 with
            | zero => intro x221 σ225 H locs ls h226 h227 h228 h229; exact absurd h226 (by omega)
            | succ n220 ihlp219 =>
              intro x221 σ225 H locs ls h226 h227 h228 h229 f230 f231 w232 w233 hP hS hl
              refine lv_iload hx hb dX1_grow_99 (lv_at hl 0 rfl) ?_
              refine lv_aload_n hx hb dX1_grow_101 rfl (lv_at hl 3 rfl) ?_
              refine va_get (D := D) hx hb hts inlX1 hown hK hP 31 (jc_31 cI cL ad σ225 τ) rfl 8 (by decide) (hts _ kw_27_22) (fun _ h9 => h9) rfl dX1_grow_102 ?_
              refine lv_icmp_ge (tgt := 202) hx hb dX1_grow_105 (by decide) (fun c234 => ?_) (fun c234 => ?_)
              · have kc234 := jle c234 rfl rfl
                have I235 : jI31 σ225 := ⟨(by omega), w232, w233⟩
                exact hret σ225 τ _ _ _ _ ⟨rfl, (fun i hi => by rw [f230 i (by omega), f210 i (by omega), eσ203, jup_n (by omega), eσ202, jup_n (by omega), eσ201, jup_n (by omega), eσ200, jup_n (by omega), eσ199, jup_n (by omega)]), (fun k hk => by rw [f231 k (by omega), f211 k (by omega), eσ203, jup_k (by omega), eσ202, jup_k (by omega), eσ201, jup_k (by omega), eσ200, jup_k (by omega), eσ199, jup_k (by omega)]), I235, trivial⟩ hP hS dX1_grow_202
              · have kc234 := jnle c234 rfl rfl
                refine lv_iload hx hb dX1_grow_108 (lv_at hl 0 rfl) ?_
                refine lv_sipush (v := 350) hx hb dX1_grow_110 (by decide) ?_
                refine lv_icmp_ge (tgt := 202) hx hb dX1_grow_113 (by decide) (fun c => absurd (jle c jz_350 rfl) (by omega)) (fun c236 => ?_)
                have kc236 := jnle c236 jz_350 rfl
                refine lv_aload_n hx hb dX1_grow_116 rfl (lv_at hl 3 rfl) ?_
                refine va_get (D := D) hx hb hts inlX1 hown hK hP 31 (jc_31 cI cL ad σ225 τ) rfl 2 (by decide) (hts _ kw_5_3) (fun _ h9 => h9) rfl dX1_grow_117 ?_
                refine lv_iload hx hb dX1_grow_120 (lv_at hl 0 rfl) ?_
                refine jald hx hb hK hP (jc_32 cI cL ad σ225 τ) (jin rfl (by omega) (by omega)) dX1_grow_122 ?_
                refine lv_topi (fun x237 ex237 => ?_)
                refine lv_ldc (v := 134217727) hx hb hown (hts _ kw_28_10) dX1_grow_123 ?_
                refine lv_iand hx hb dX1_grow_125 ?_
                refine lv_topi (fun x238 ex238 => ?_)
                have gx238 := jrg (rfl : x238.toInt = x238.toInt)
                have g239 : 0 ≤ x238.toInt ∧ x238.toInt ≤ 134217727 := jmask ex238 27 (by decide) (by decide)
                refine lv_istore (lv' := [(6, .int x238), (5, .int x221), (4, .int 1), (3, .int x8), (0, .ref (ad 31)), (1, .int a1), (2, .int a2)]) hx hb dX1_grow_126 hl (by decide) rfl (fun ls hl => ?_)
                refine lv_aload_n hx hb dX1_grow_128 rfl (lv_at hl 4 rfl) ?_
                refine va_get (D := D) hx hb hts inlX1 hown hK hP 31 (jc_31 cI cL ad σ225 τ) rfl 2 (by decide) (hts _ kw_5_3) (fun _ h9 => h9) rfl dX1_grow_129 ?_
                refine lv_iload hx hb dX1_grow_132 (lv_at hl 1 rfl) ?_
                refine jald hx hb hK hP (jc_32 cI cL ad σ225 τ) (jin rfl (by omega) (by omega)) dX1_grow_134 ?_
                refine lv_topi (fun x240 ex240 => ?_)
                refine lv_bipush (v := 27) hx hb dX1_grow_135 (by decide) ?_
                refine lv_ishr hx hb dX1_grow_137 ?_
                refine lv_topi (fun x241 ex241 => ?_)
                have gx241 := jrg (rfl : x241.toInt = x241.toInt)
                refine lv_istore (lv' := [(7, .int x241), (6, .int x238), (5, .int x221), (4, .int 1), (3, .int x8), (0, .ref (ad 31)), (1, .int a1), (2, .int a2)]) hx hb dX1_grow_138 hl (by decide) rfl (fun ls hl => ?_)
                refine lv_iconst (v := 0) hx hb dX1_grow_140 (by decide) ?_
                refine lv_istore (lv' := [(8, .int 0), (7, .int x241), (6, .int x238), (5, .int x221), (4, .int 1), (3, .int x8), (0, .ref (ad 31)), (1, .int a1), (2, .int a2)]) hx hb dX1_grow_141 hl (by decide) rfl (fun ls hl => ?_)
                have lp242 : ∀ (n243 : Nat) (x244 : Int32) (σ245 : Nat → Nat → Int32) (H : Heap) (locs : List Loc) (ls : Array Slot), (-x244.toInt + 4 : Int) < n243 → 0 ≤ x244.toInt → x244.toInt ≤ 4 → 0 ≤ (σ245 31 8).toInt ∧ (σ245 31 8).toInt ≤ 350 → (∀ i : Nat, (i < 31 ∨ 33 < i) ∧ (i < 36 ∨ 37 < i) → σ245 i = σ225 i) → (∀ k : Nat, (k < 8 ∨ 8 < k) → σ245 31 k = σ225 31 k) → (∀ k : Nat, k < 1400 → (-1) ≤ (σ245 33 k).toInt ∧ (σ245 33 k).toInt ≤ 350) → (∀ k : Nat, k < 1024 → 0 ≤ (σ245 36 k).toInt ∧ (σ245 36 k).toInt ≤ 349) → jH D cI cL ad σ245 τ H → va_S (jA ad) s.heap H locs → lv_has ls 9 [(8, .int x244), (7, .int x241), (6, .int x238), (5, .int x221), (4, .int 1), (3, .int x8), (0, .ref (ad 31)), (1, .int a1), (2, .int a2)] → W p l e ({ frames := 3, cells := 0, slots := 0, locals := 73 }) s m args below meth c H locs 0 0 Q (F0 m 143 ls []) := by
                  intro n243
                  induction n243 with
                  | zero => intro x244 σ245 H locs ls h246 h247 h248 h249; exact absurd h246 (by omega)
                  | succ n243 ihlp242 =>
                    intro x244 σ245 H locs ls h246 h247 h248 h249 f250 f251 w252 w253 hP hS hl
                    refine lv_iload hx hb dX1_grow_143 (lv_at hl 0 rfl) ?_
                    refine lv_iconst (v := 4) hx hb dX1_grow_145 (by decide) ?_
                    refine lv_icmp_ge (tgt := 196) hx hb dX1_grow_146 (by decide) (fun c254 => ?_) (fun c254 => ?_)
                    · have kc254 := jle c254 jz_4 rfl
                      obtain ⟨x255, ex255⟩ : ∃ y : Int32, y = x221 + 1 := ⟨_, rfl⟩
                      have tx255 : x255.toInt = x221.toInt + 1 := (jadd ex255 rfl jz_1 (by omega) (by omega)).trans (by omega)
                      refine lv_iinc (v := x255) (lv' := [(5, .int x255), (8, .int x244), (7, .int x241), (6, .int x238), (4, .int 1), (3, .int x8), (0, .ref (ad 31)), (1, .int a1), (2, .int a2)]) hx hb dX1_grow_196 hl (k := 3) rfl (by rw [ex255]; rfl) (by decide) rfl (fun ls hl => ?_)
                      refine lv_goto (tgt := 99) hx hb dX1_grow_199 (by decide) ?_
                      exact ihlp219 x255 σ245 _ _ ls (by have h90 := tx255; omega) (by have h90 := tx255; omega) (by have h90 := tx255; omega) (by have h90 := tx255; omega) (fun i hi => by rw [f250 i (by omega), f230 i hi]) (fun k hk => by rw [f251 k (by omega), f231 k hk])  w252 w253 hP hS (lv_sub hl [0, 4, 5, 6, 7, 8] rfl)
                    · have kc254 := jnle c254 jz_4 rfl
                      refine lv_aload_n hx hb dX1_grow_149 rfl (lv_at hl 6 rfl) ?_
                      refine va_get (D := D) hx hb hts inlX1 hown hK hP 31 (jc_31 cI cL ad σ245 τ) rfl 3 (by decide) (hts _ kw_5_4) (fun _ h9 => h9) rfl dX1_grow_150 ?_
                      refine lv_iload hx hb dX1_grow_153 (lv_at hl 3 rfl) ?_
                      refine lv_iconst (v := 4) hx hb dX1_grow_155 (by decide) ?_
                      have g256 := jrg (rfl : x221.toInt = x221.toInt)
                      refine lv_imul hx hb dX1_grow_156 ?_
                      refine lv_topi (fun x257 ex257 => ?_)
                      have tx257 : x257.toInt = 4 * x221.toInt := (jmul ex257 rfl jz_4 (by omega) (by omega)).trans (by omega)
                      refine lv_iload hx hb dX1_grow_157 (lv_at hl 0 rfl) ?_
                      have g258 := jrg (rfl : x244.toInt = x244.toInt)
                      refine lv_iadd hx hb dX1_grow_159 ?_
                      refine lv_topi (fun x259 ex259 => ?_)
                      have tx259 : x259.toInt = 4 * x221.toInt + x244.toInt := (jadd ex259 tx257 rfl (by omega) (by omega)).trans (by omega)
                      refine lv_iload hx hb dX1_grow_160 (lv_at hl 2 rfl) ?_
                      refine lv_iload hx hb dX1_grow_162 (lv_at hl 0 rfl) ?_
                      refine jcallS (As := [.int x238, .int x244]) (rest := [.int x259, .ref (ad 33)]) ⟨hx, hb, hml, hown, hts⟩ hK hP hA hS hZ (c_X0_mayBowl l D cI cL ad zz hJ σ245 τ x238 (x238.toInt) rfl x244 (x244.toInt) rfl) cw_RX1_115 ⟨Nat.le_of_ble_eq_true rfl, Nat.le_of_ble_eq_true rfl⟩ rfl rfl rfl hl.1 rfl (Nat.le_of_ble_eq_true rfl) dX1_grow_164 ⟨Nat.zero_le _, Nat.zero_le _⟩ (fun r261 σ260 τ260 H locs h260 hP hS => ?_)
                      obtain ⟨⟨rfl, rfl⟩, h260⟩ := h260
                      refine lv_if_eq (tgt := 188) hx hb dX1_grow_167 (by decide) (fun c262 => ?_) (fun c262 => ?_)
                      · have kc262 := jeq c262 rfl jz_0
                        refine lv_iconst (v := (-1)) hx hb dX1_grow_188 (by decide) ?_
                        refine jast hx hb hK hP hJ hA hS (jc_33 cI cL ad σ245 τ) (ja_33 cI cL ad σ245 τ _ _) (jin tx259 (by omega) (by omega)) dX1_grow_189 (fun σ263 H locs eσ263 hP hS => ?_)
                        obtain ⟨x264, ex264⟩ : ∃ y : Int32, y = x244 + 1 := ⟨_, rfl⟩
                        have tx264 : x264.toInt = x244.toInt + 1 := (jadd ex264 rfl jz_1 (by omega) (by omega)).trans (by omega)
                        refine lv_iinc (v := x264) (lv' := [(8, .int x264), (7, .int x241), (6, .int x238), (5, .int x221), (4, .int 1), (3, .int x8), (0, .ref (ad 31)), (1, .int a1), (2, .int a2)]) hx hb dX1_grow_190 hl (k := 0) rfl (by rw [ex264]; rfl) (by decide) rfl (fun ls hl => ?_)
                        refine lv_goto (tgt := 143) hx hb dX1_grow_193 (by decide) ?_
                        have z265 : (σ263 31 8).toInt = (σ245 31 8).toInt := by rw [(show σ263 31 8 = (σ245 31 8) from (by rw [eσ263, jup_n (by decide)]))]
                        have w266 : ∀ k : Nat, k < 1400 → (-1) ≤ (σ263 33 k).toInt ∧ (σ263 33 k).toInt ≤ 350 := (by rw [eσ263]; exact jrr_up w252 (by have h9 := jz_m1; omega) (by have h9 := jz_m1; omega))
                        have w267 : ∀ k : Nat, k < 1024 → 0 ≤ (σ263 36 k).toInt ∧ (σ263 36 k).toInt ≤ 349 := (by rw [eσ263, jup_n (by decide)]; exact w253)
                        exact ihlp242 x264 σ263 _ _ ls (by have h90 := tx264; omega) (by have h90 := tx264; omega) (by have h90 := tx264; omega) (by have h90 := tx264; omega) (fun i hi => by rw [eσ263, jup_n (by omega), f250 i hi]) (fun k hk => by rw [eσ263, jup_n (by decide), f251 k hk])  w266 w267 hP hS (lv_sub hl [0, 1, 2, 3, 4, 5, 6, 7, 8] rfl)
                      · have kc262 := jne c262 rfl jz_0
                        refine lv_aload_n hx hb dX1_grow_170 rfl (lv_at hl 6 rfl) ?_
                        refine lv_iload hx hb dX1_grow_171 (lv_at hl 2 rfl) ?_
                        refine lv_iload hx hb dX1_grow_173 (lv_at hl 0 rfl) ?_
                        refine jcallS (As := [.int x238, .int x244]) (rest := [.ref (ad 31), .int x259, .ref (ad 33)]) ⟨hx, hb, hml, hown, hts⟩ hK hP hA hS hZ (c_X0_after l D cI cL ad zz hJ σ245 τ x238 (x238.toInt) rfl x244 (x244.toInt) rfl) cw_RX1_119 ⟨Nat.le_of_ble_eq_true rfl, Nat.le_of_ble_eq_true rfl⟩ rfl rfl rfl hl.1 rfl (Nat.le_of_ble_eq_true rfl) dX1_grow_175 ⟨Nat.zero_le _, Nat.zero_le _⟩ (fun r269 σ268 τ268 H locs h268 hP hS => ?_)
                        obtain ⟨⟨rfl, rfl⟩, h268⟩ := h268
                        refine lv_iload hx hb dX1_grow_178 (lv_at hl 1 rfl) ?_
                        refine lv_iconst (v := 1) hx hb dX1_grow_180 (by decide) ?_
                        have g270 := jrg (rfl : x241.toInt = x241.toInt)
                        refine lv_iadd hx hb dX1_grow_181 ?_
                        refine lv_topi (fun x271 ex271 => ?_)
                        have gx271 := jrg (rfl : x271.toInt = x271.toInt)
                        have I272 : jI31 σ245 := ⟨(by omega), w252, w253⟩
                        refine jcallV (As := [.int r269, .int x271]) (rest := [.int x259, .ref (ad 33)]) ⟨hx, hb, hml, hown, hts⟩ hK hP hA hS hZ (c_X1_add_31 l D cI cL ad zz hJ σ245 τ r269 (r269.toInt) rfl x271 (x271.toInt) rfl I272) cw_RX1_111 (jc_31 cI cL ad σ245 τ) rfl ⟨Nat.le_of_ble_eq_true rfl, Nat.le_of_ble_eq_true rfl⟩ rfl rfl rfl hl.1 rfl (Nat.le_of_ble_eq_true rfl) dX1_grow_182 ⟨Nat.zero_le _, Nat.zero_le _⟩ (fun r274 σ273 τ273 H locs h273 hP hS => ?_)
                        obtain ⟨rfl, f275, f276, I277, h273⟩ := h273
                        obtain ⟨i278, w279, w280⟩ : (0 ≤ (σ273 31 8).toInt ∧ (σ273 31 8).toInt ≤ 350) ∧ (∀ k : Nat, k < 1400 → (-1) ≤ (σ273 33 k).toInt ∧ (σ273 33 k).toInt ≤ 350) ∧ (∀ k : Nat, k < 1024 → 0 ≤ (σ273 36 k).toInt ∧ (σ273 36 k).toInt ≤ 349) := id I277
                        have h281 := h273
                        obtain ⟨q283, k282⟩ := h281
                        refine lv_goto (tgt := 189) hx hb dX1_grow_185 (by decide) ?_
                        refine jast hx hb hK hP hJ hA hS (jc_33 cI cL ad σ273 τ) (ja_33 cI cL ad σ273 τ _ _) (jin tx259 (by omega) (by omega)) dX1_grow_189 (fun σ284 H locs eσ284 hP hS => ?_)
                        obtain ⟨x285, ex285⟩ : ∃ y : Int32, y = x244 + 1 := ⟨_, rfl⟩
                        have tx285 : x285.toInt = x244.toInt + 1 := (jadd ex285 rfl jz_1 (by omega) (by omega)).trans (by omega)
                        refine lv_iinc (v := x285) (lv' := [(8, .int x285), (7, .int x241), (6, .int x238), (5, .int x221), (4, .int 1), (3, .int x8), (0, .ref (ad 31)), (1, .int a1), (2, .int a2)]) hx hb dX1_grow_190 hl (k := 0) rfl (by rw [ex285]; rfl) (by decide) rfl (fun ls hl => ?_)
                        refine lv_goto (tgt := 143) hx hb dX1_grow_193 (by decide) ?_
                        have z286 : (σ284 31 8).toInt = (σ273 31 8).toInt := by rw [(show σ284 31 8 = (σ273 31 8) from (by rw [eσ284, jup_n (by decide)]))]
                        have w287 : ∀ k : Nat, k < 1400 → (-1) ≤ (σ284 33 k).toInt ∧ (σ284 33 k).toInt ≤ 350 := (by rw [eσ284]; exact jrr_up w279 (by omega) (by omega))
                        have w288 : ∀ k : Nat, k < 1024 → 0 ≤ (σ284 36 k).toInt ∧ (σ284 36 k).toInt ≤ 349 := (by rw [eσ284, jup_n (by decide)]; exact w280)
                        exact ihlp242 x285 σ284 _ _ ls (by have h90 := tx285; omega) (by have h90 := tx285; omega) (by have h90 := tx285; omega) (by have h90 := tx285; omega) (fun i hi => by rw [eσ284, jup_n (by omega), f275 i (by omega), f250 i hi]) (fun k hk => by rw [eσ284, jup_n (by decide), f276 k (by omega), f251 k hk])  w287 w288 hP hS (lv_sub hl [0, 1, 2, 3, 4, 5, 6, 7, 8] rfl)
                exact lp242 1000000 0 σ225 _ _ ls (by have h90 := jz_0; omega) (by have h90 := jz_0; omega) (by have h90 := jz_0; omega) (by have h90 := jz_0; omega) (fun _ _ => rfl) (fun _ _ => rfl)  w232 w233 hP hS hl
          exact lp219 1000000 0 σ208 _ _ ls (by have h90 := jz_0; omega) (by have h90 := jz_0; omega) (by have h90 := jz_0; omega) (by have h90 := jz_0; omega) (fun _ _ => rfl) (fun _ _ => rfl)  w214 w215 hP hS hl
        · have kc198 := jeq c198 rfl jz_1
          refine lv_aload_n hx hb dX1_grow_57 rfl (lv_at hl 2 rfl) ?_
          refine lv_iload_n hx hb dX1_grow_58 rfl (lv_at hl 4 rfl) ?_
          refine jput (ty := .int) hx hb hts inlX1 tyX1 tyX1_ok nmX1 hown hK hP hJ hA hS (jc_31 cI cL ad σ τ) rfl (k := 10) (by decide) (Nat.le_of_ble_eq_true rfl) (jp_31_10 cI cL ad σ τ a2) (hts _ kw_28_9) (fun _ h9 => h9) rfl (by decide +kernel) rfl rfl dX1_grow_59 (fun σ289 H locs eσ289 hP hS => ?_)
          have z290 : (σ289 31 8).toInt = (σ 31 8).toInt := by rw [(show σ289 31 8 = (σ 31 8) from (by rw [eσ289, jup_k (by decide)]))]
          have w291 : ∀ k : Nat, k < 1400 → (-1) ≤ (σ289 33 k).toInt ∧ (σ289 33 k).toInt ≤ 350 := (by rw [eσ289, jup_n (by decide)]; exact w2)
          have w292 : ∀ k : Nat, k < 1024 → 0 ≤ (σ289 36 k).toInt ∧ (σ289 36 k).toInt ≤ 349 := (by rw [eσ289, jup_n (by decide)]; exact w3)
          have I293 : jI31 σ289 := ⟨(by omega), w291, w292⟩
          exact hret σ289 τ _ _ _ _ ⟨rfl, (fun i hi => by rw [eσ289, jup_n (by omega)]), (fun k hk => by rw [eσ289, jup_k (by omega)]), I293, trivial⟩ hP hS dX1_grow_62
  · obtain ⟨q295, k294⟩ := h13
    have q295 := q295.symm
    subst q295
    refine lv_istore (lv' := [(4, .int 0), (3, .int x8), (0, .ref (ad 31)), (1, .int a1), (2, .int a2)]) hx hb dX1_grow_30 hl (by decide) rfl (fun ls hl => ?_)
    refine lv_aload_n hx hb dX1_grow_32 rfl (lv_at hl 2 rfl) ?_
    refine va_get (D := D) hx hb hts inlX1 hown hK hP 31 (jc_31 cI cL ad σ τ) rfl 9 (by decide) (hts _ kw_5_9) (fun _ h9 => h9) rfl dX1_grow_33 ?_
    refine lv_iload_n hx hb dX1_grow_36 rfl (lv_at hl 3 rfl) ?_
    refine lv_icmp_ne (tgt := 63) hx hb dX1_grow_37 (by decide) (fun c296 => ?_) (fun c296 => ?_)
    · have kc296 := jne c296 rfl t1
      refine lv_aload_n hx hb dX1_grow_63 rfl (lv_at hl 2 rfl) ?_
      refine lv_iload_n hx hb dX1_grow_64 rfl (lv_at hl 3 rfl) ?_
      refine jput (ty := .int) hx hb hts inlX1 tyX1 tyX1_ok nmX1 hown hK hP hJ hA hS (jc_31 cI cL ad σ τ) rfl (k := 9) (by decide) (Nat.le_of_ble_eq_true rfl) (jp_31_9 cI cL ad σ τ a1) (hts _ kw_5_9) (fun _ h9 => h9) rfl (by decide +kernel) rfl rfl dX1_grow_65 (fun σ297 H locs eσ297 hP hS => ?_)
      refine lv_aload_n hx hb dX1_grow_68 rfl (lv_at hl 2 rfl) ?_
      refine lv_iload_n hx hb dX1_grow_69 rfl (lv_at hl 4 rfl) ?_
      refine jput (ty := .int) hx hb hts inlX1 tyX1 tyX1_ok nmX1 hown hK hP hJ hA hS (jc_31 cI cL ad σ297 τ) rfl (k := 10) (by decide) (Nat.le_of_ble_eq_true rfl) (jp_31_10 cI cL ad σ297 τ a2) (hts _ kw_28_9) (fun _ h9 => h9) rfl (by decide +kernel) rfl rfl dX1_grow_70 (fun σ298 H locs eσ298 hP hS => ?_)
      refine lv_aload_n hx hb dX1_grow_73 rfl (lv_at hl 2 rfl) ?_
      refine lv_iload_n hx hb dX1_grow_74 rfl (lv_at hl 1 rfl) ?_
      refine jput (ty := .int) hx hb hts inlX1 tyX1 tyX1_ok nmX1 hown hK hP hJ hA hS (jc_31 cI cL ad σ298 τ) rfl (k := 11) (by decide) (Nat.le_of_ble_eq_true rfl) (jp_31_11 cI cL ad σ298 τ x8) (hts _ kw_28_7) (fun _ h9 => h9) rfl (by decide +kernel) rfl rfl dX1_grow_75 (fun σ299 H locs eσ299 hP hS => ?_)
      refine lv_aload_n hx hb dX1_grow_78 rfl (lv_at hl 2 rfl) ?_
      refine lv_iload hx hb dX1_grow_79 (lv_at hl 0 rfl) ?_
      refine jput (ty := .boolean) hx hb hts inlX1 tyX1 tyX1_ok nmX1 hown hK hP hJ hA hS (jc_31 cI cL ad σ299 τ) rfl (k := 12) (by decide) (Nat.le_of_ble_eq_true rfl) (jp_31_12 cI cL ad σ299 τ 0) (hts _ kw_28_8) (fun _ h9 => h9) rfl (by decide +kernel) rfl rfl dX1_grow_81 (fun σ300 H locs eσ300 hP hS => ?_)
      refine lv_aload_n hx hb dX1_grow_84 rfl (lv_at hl 2 rfl) ?_
      refine lv_iconst (v := 0) hx hb dX1_grow_85 (by decide) ?_
      refine jput (ty := .int) hx hb hts inlX1 tyX1 tyX1_ok nmX1 hown hK hP hJ hA hS (jc_31 cI cL ad σ300 τ) rfl (k := 8) (by decide) (Nat.le_of_ble_eq_true rfl) (jp_31_8 cI cL ad σ300 τ 0) (hts _ kw_27_22) (fun _ h9 => h9) rfl (by decide +kernel) rfl rfl dX1_grow_86 (fun σ301 H locs eσ301 hP hS => ?_)
      refine lv_aload_n hx hb dX1_grow_89 rfl (lv_at hl 2 rfl) ?_
      refine lv_iload_n hx hb dX1_grow_90 rfl (lv_at hl 3 rfl) ?_
      refine lv_iconst (v := 0) hx hb dX1_grow_91 (by decide) ?_
      have z302 : (σ301 31 8).toInt = 0 := by rw [(show σ301 31 8 = 0 from (by rw [eσ301]; exact jup_s))]; exact jz_0
      have w303 : ∀ k : Nat, k < 1400 → (-1) ≤ (σ301 33 k).toInt ∧ (σ301 33 k).toInt ≤ 350 := (by rw [eσ301, jup_n (by decide)]; exact (by rw [eσ300, jup_n (by decide)]; exact (by rw [eσ299, jup_n (by decide)]; exact (by rw [eσ298, jup_n (by decide)]; exact (by rw [eσ297, jup_n (by decide)]; exact w2)))))
      have w304 : ∀ k : Nat, k < 1024 → 0 ≤ (σ301 36 k).toInt ∧ (σ301 36 k).toInt ≤ 349 := (by rw [eσ301, jup_n (by decide)]; exact (by rw [eσ300, jup_n (by decide)]; exact (by rw [eσ299, jup_n (by decide)]; exact (by rw [eσ298, jup_n (by decide)]; exact (by rw [eσ297, jup_n (by decide)]; exact w3)))))
      have I305 : jI31 σ301 := ⟨(by omega), w303, w304⟩
      refine jcallV (As := [.int a1, .int 0]) (rest := []) ⟨hx, hb, hml, hown, hts⟩ hK hP hA hS hZ (c_X1_add_31 l D cI cL ad zz hJ σ301 τ a1 (A1) t1 0 (0) jz_0 I305) cw_RX1_111 (jc_31 cI cL ad σ301 τ) rfl ⟨Nat.le_of_ble_eq_true rfl, Nat.le_of_ble_eq_true rfl⟩ rfl rfl rfl hl.1 rfl (Nat.le_of_ble_eq_true rfl) dX1_grow_92 ⟨Nat.zero_le _, Nat.zero_le _⟩ (fun r307 σ306 τ306 H locs h306 hP hS => ?_)
      obtain ⟨rfl, f308, f309, I310, h306⟩ := h306
      obtain ⟨i311, w312, w313⟩ : (0 ≤ (σ306 31 8).toInt ∧ (σ306 31 8).toInt ≤ 350) ∧ (∀ k : Nat, k < 1400 → (-1) ≤ (σ306 33 k).toInt ∧ (σ306 33 k).toInt ≤ 350) ∧ (∀ k : Nat, k < 1024 → 0 ≤ (σ306 36 k).toInt ∧ (σ306 36 k).toInt ≤ 349) := id I310
      have h314 := h306
      obtain ⟨q316, k315⟩ := h314
      refine lv_pop hx hb dX1_grow_95 rfl ?_
      refine lv_iconst (v := 0) hx hb dX1_grow_96 (by decide) ?_
      refine lv_istore (lv' := [(5, .int 0), (4, .int 0), (3, .int x8), (0, .ref (ad 31)), (1, .int a1), (2, .int a2)]) hx hb dX1_grow_97 hl (by decide) rfl (fun ls hl => ?_)
      have lp317 : ∀ (n318 : Nat) (x319 : Int32) (σ323 : Nat → Nat → Int32) (H : Heap) (locs : List Loc) (ls : Array Slot), (-x319.toInt + 350 : Int) < n318 → 0 ≤ x319.toInt → x319.toInt ≤ 350 → 0 ≤ (σ323 31 8).toInt ∧ (σ323 31 8).toInt ≤ 350 → (∀ i : Nat, (i < 31 ∨ 33 < i) ∧ (i < 36 ∨ 37 < i) → σ323 i = σ306 i) → (∀ k : Nat, (k < 8 ∨ 8 < k) → σ323 31 k = σ306 31 k) → (∀ k : Nat, k < 1400 → (-1) ≤ (σ323 33 k).toInt ∧ (σ323 33 k).toInt ≤ 350) → (∀ k : Nat, k < 1024 → 0 ≤ (σ323 36 k).toInt ∧ (σ323 36 k).toInt ≤ 349) → jH D cI cL ad σ323 τ H → va_S (jA ad) s.heap H locs → lv_has ls 9 [(5, .int x319), (4, .int 0), (3, .int x8), (0, .ref (ad 31)), (1, .int a1), (2, .int a2)] → W p l e ({ frames := 3, cells := 0, slots := 0, locals := 73 }) s m args below meth c H locs 0 0 Q (F0 m 99 ls []) := by
        intro n318
        induction n318 with
        | zero => intro x319 σ323 H locs ls h324 h325 h326 h327; exact absurd h324 (by omega)
        | succ n318 ihlp317 =>
          intro x319 σ323 H locs ls h324 h325 h326 h327 f328 f329 w330 w331 hP hS hl
          refine lv_iload hx hb dX1_grow_99 (lv_at hl 0 rfl) ?_
          refine lv_aload_n hx hb dX1_grow_101 rfl (lv_at hl 3 rfl) ?_
          refine va_get (D := D) hx hb hts inlX1 hown hK hP 31 (jc_31 cI cL ad σ323 τ) rfl 8 (by decide) (hts _ kw_27_22) (fun _ h9 => h9) rfl dX1_grow_102 ?_
          refine lv_icmp_ge (tgt := 202) hx hb dX1_grow_105 (by decide) (fun c332 => ?_) (fun c332 => ?_)
          · have kc332 := jle c332 rfl rfl
            have I333 : jI31 σ323 := ⟨(by omega), w330, w331⟩
            exact hret σ323 τ _ _ _ _ ⟨rfl, (fun i hi => by rw [f328 i (by omega), f308 i (by omega), eσ301, jup_n (by omega), eσ300, jup_n (by omega), eσ299, jup_n (by omega), eσ298, jup_n (by omega), eσ297, jup_n (by omega)]), (fun k hk => by rw [f329 k (by omega), f309 k (by omega), eσ301, jup_k (by omega), eσ300, jup_k (by omega), eσ299, jup_k (by omega), eσ298, jup_k (by omega), eσ297, jup_k (by omega)]), I333, trivial⟩ hP hS dX1_grow_202
          · have kc332 := jnle c332 rfl rfl
            refine lv_iload hx hb dX1_grow_108 (lv_at hl 0 rfl) ?_
            refine lv_sipush (v := 350) hx hb dX1_grow_110 (by decide) ?_
            refine lv_icmp_ge (tgt := 202) hx hb dX1_grow_113 (by decide) (fun c => absurd (jle c jz_350 rfl) (by omega)) (fun c334 => ?_)
            have kc334 := jnle c334 jz_350 rfl
            refine lv_aload_n hx hb dX1_grow_116 rfl (lv_at hl 3 rfl) ?_
            refine va_get (D := D) hx hb hts inlX1 hown hK hP 31 (jc_31 cI cL ad σ323 τ) rfl 2 (by decide) (hts _ kw_5_3) (fun _ h9 => h9) rfl dX1_grow_117 ?_
            refine lv_iload hx hb dX1_grow_120 (lv_at hl 0 rfl) ?_
            refine jald hx hb hK hP (jc_32 cI cL ad σ323 τ) (jin rfl (by omega) (by omega)) dX1_grow_122 ?_
            refine lv_topi (fun x335 ex335 => ?_)
            refine lv_ldc (v := 134217727) hx hb hown (hts _ kw_28_10) dX1_grow_123 ?_
            refine lv_iand hx hb dX1_grow_125 ?_
            refine lv_topi (fun x336 ex336 => ?_)
            have gx336 := jrg (rfl : x336.toInt = x336.toInt)
            have g337 : 0 ≤ x336.toInt ∧ x336.toInt ≤ 134217727 := jmask ex336 27 (by decide) (by decide)
            refine lv_istore (lv' := [(6, .int x336), (5, .int x319), (4, .int 0), (3, .int x8), (0, .ref (ad 31)), (1, .int a1), (2, .int a2)]) hx hb dX1_grow_126 hl (by decide) rfl (fun ls hl => ?_)
            refine lv_aload_n hx hb dX1_grow_128 rfl (lv_at hl 4 rfl) ?_
            refine va_get (D := D) hx hb hts inlX1 hown hK hP 31 (jc_31 cI cL ad σ323 τ) rfl 2 (by decide) (hts _ kw_5_3) (fun _ h9 => h9) rfl dX1_grow_129 ?_
            refine lv_iload hx hb dX1_grow_132 (lv_at hl 1 rfl) ?_
            refine jald hx hb hK hP (jc_32 cI cL ad σ323 τ) (jin rfl (by omega) (by omega)) dX1_grow_134 ?_
            refine lv_topi (fun x338 ex338 => ?_)
            refine lv_bipush (v := 27) hx hb dX1_grow_135 (by decide) ?_
            refine lv_ishr hx hb dX1_grow_137 ?_
            refine lv_topi (fun x339 ex339 => ?_)
            have gx339 := jrg (rfl : x339.toInt = x339.toInt)
            refine lv_istore (lv' := [(7, .int x339), (6, .int x336), (5, .int x319), (4, .int 0), (3, .int x8), (0, .ref (ad 31)), (1, .int a1), (2, .int a2)]) hx hb dX1_grow_138 hl (by decide) rfl (fun ls hl => ?_)
            refine lv_iconst (v := 0) hx hb dX1_grow_140 (by decide) ?_
            refine lv_istore (lv' := [(8, .int 0), (7, .int x339), (6, .int x336), (5, .int x319), (4, .int 0), (3, .int x8), (0, .ref (ad 31)), (1, .int a1), (2, .int a2)]) hx hb dX1_grow_141 hl (by decide) rfl (fun ls hl => ?_)
            have lp340 : ∀ (n341 : Nat) (x342 : Int32) (σ343 : Nat → Nat → Int32) (H : Heap) (locs : List Loc) (ls : Array Slot), (-x342.toInt + 4 : Int) < n341 → 0 ≤ x342.toInt → x342.toInt ≤ 4 → 0 ≤ (σ343 31 8).toInt ∧ (σ343 31 8).toInt ≤ 350 → (∀ i : Nat, (i < 31 ∨ 33 < i) ∧ (i < 36 ∨ 37 < i) → σ343 i = σ323 i) → (∀ k : Nat, (k < 8 ∨ 8 < k) → σ343 31 k = σ323 31 k) → (∀ k : Nat, k < 1400 → (-1) ≤ (σ343 33 k).toInt ∧ (σ343 33 k).toInt ≤ 350) → (∀ k : Nat, k < 1024 → 0 ≤ (σ343 36 k).toInt ∧ (σ343 36 k).toInt ≤ 349) → jH D cI cL ad σ343 τ H → va_S (jA ad) s.heap H locs → lv_has ls 9 [(8, .int x342), (7, .int x339), (6, .int x336), (5, .int x319), (4, .int 0), (3, .int x8), (0, .ref (ad 31)), (1, .int a1), (2, .int a2)] → W p l e ({ frames := 3, cells := 0, slots := 0, locals := 73 }) s m args below meth c H locs 0 0 Q (F0 m 143 ls []) := by
              intro n341
              induction n341 with
              | zero => intro x342 σ343 H locs ls h344 h345 h346 h347; exact absurd h344 (by omega)
              | succ n341 ihlp340 =>
                intro x342 σ343 H locs ls h344 h345 h346 h347 f348 f349 w350 w351 hP hS hl
                refine lv_iload hx hb dX1_grow_143 (lv_at hl 0 rfl) ?_
                refine lv_iconst (v := 4) hx hb dX1_grow_145 (by decide) ?_
                refine lv_icmp_ge (tgt := 196) hx hb dX1_grow_146 (by decide) (fun c352 => ?_) (fun c352 => ?_)
                · have kc352 := jle c352 jz_4 rfl
                  obtain ⟨x353, ex353⟩ : ∃ y : Int32, y = x319 + 1 := ⟨_, rfl⟩
                  have tx353 : x353.toInt = x319.toInt + 1 := (jadd ex353 rfl jz_1 (by omega) (by omega)).trans (by omega)
                  refine lv_iinc (v := x353) (lv' := [(5, .int x353), (8, .int x342), (7, .int x339), (6, .int x336), (4, .int 0), (3, .int x8), (0, .ref (ad 31)), (1, .int a1), (2, .int a2)]) hx hb dX1_grow_196 hl (k := 3) rfl (by rw [ex353]; rfl) (by decide) rfl (fun ls hl => ?_)
                  refine lv_goto (tgt := 99) hx hb dX1_grow_199 (by decide) ?_
                  exact ihlp317 x353 σ343 _ _ ls (by have h90 := tx353; omega) (by have h90 := tx353; omega) (by have h90 := tx353; omega) (by have h90 := tx353; omega) (fun i hi => by rw [f348 i (by omega), f328 i hi]) (fun k hk => by rw [f349 k (by omega), f329 k hk])  w350 w351 hP hS (lv_sub hl [0, 4, 5, 6, 7, 8] rfl)
                · have kc352 := jnle c352 jz_4 rfl
                  refine lv_aload_n hx hb dX1_grow_149 rfl (lv_at hl 6 rfl) ?_
                  refine va_get (D := D) hx hb hts inlX1 hown hK hP 31 (jc_31 cI cL ad σ343 τ) rfl 3 (by decide) (hts _ kw_5_4) (fun _ h9 => h9) rfl dX1_grow_150 ?_
                  refine lv_iload hx hb dX1_grow_153 (lv_at hl 3 rfl) ?_
                  refine lv_iconst (v := 4) hx hb dX1_grow_155 (by decide) ?_
                  have g354 := jrg (rfl : x319.toInt = x319.toInt)
                  refine lv_imul hx hb dX1_grow_156 ?_
                  refine lv_topi (fun x355 ex355 => ?_)
                  have tx355 : x355.toInt = 4 * x319.toInt := (jmul ex355 rfl jz_4 (by omega) (by omega)).trans (by omega)
                  refine lv_iload hx hb dX1_grow_157 (lv_at hl 0 rfl) ?_
                  have g356 := jrg (rfl : x342.toInt = x342.toInt)
                  refine lv_iadd hx hb dX1_grow_159 ?_
                  refine lv_topi (fun x357 ex357 => ?_)
                  have tx357 : x357.toInt = 4 * x319.toInt + x342.toInt := (jadd ex357 tx355 rfl (by omega) (by omega)).trans (by omega)
                  refine lv_iload hx hb dX1_grow_160 (lv_at hl 2 rfl) ?_
                  refine lv_iload hx hb dX1_grow_162 (lv_at hl 0 rfl) ?_
                  refine jcallS (As := [.int x336, .int x342]) (rest := [.int x357, .ref (ad 33)]) ⟨hx, hb, hml, hown, hts⟩ hK hP hA hS hZ (c_X0_mayBowl l D cI cL ad zz hJ σ343 τ x336 (x336.toInt) rfl x342 (x342.toInt) rfl) cw_RX1_115 ⟨Nat.le_of_ble_eq_true rfl, Nat.le_of_ble_eq_true rfl⟩ rfl rfl rfl hl.1 rfl (Nat.le_of_ble_eq_true rfl) dX1_grow_164 ⟨Nat.zero_le _, Nat.zero_le _⟩ (fun r359 σ358 τ358 H locs h358 hP hS => ?_)
                  obtain ⟨⟨rfl, rfl⟩, h358⟩ := h358
                  refine lv_if_eq (tgt := 188) hx hb dX1_grow_167 (by decide) (fun c360 => ?_) (fun c360 => ?_)
                  · have kc360 := jeq c360 rfl jz_0
                    refine lv_iconst (v := (-1)) hx hb dX1_grow_188 (by decide) ?_
                    refine jast hx hb hK hP hJ hA hS (jc_33 cI cL ad σ343 τ) (ja_33 cI cL ad σ343 τ _ _) (jin tx357 (by omega) (by omega)) dX1_grow_189 (fun σ361 H locs eσ361 hP hS => ?_)
                    obtain ⟨x362, ex362⟩ : ∃ y : Int32, y = x342 + 1 := ⟨_, rfl⟩
                    have tx362 : x362.toInt = x342.toInt + 1 := (jadd ex362 rfl jz_1 (by omega) (by omega)).trans (by omega)
                    refine lv_iinc (v := x362) (lv' := [(8, .int x362), (7, .int x339), (6, .int x336), (5, .int x319), (4, .int 0), (3, .int x8), (0, .ref (ad 31)), (1, .int a1), (2, .int a2)]) hx hb dX1_grow_190 hl (k := 0) rfl (by rw [ex362]; rfl) (by decide) rfl (fun ls hl => ?_)
                    refine lv_goto (tgt := 143) hx hb dX1_grow_193 (by decide) ?_
                    have z363 : (σ361 31 8).toInt = (σ343 31 8).toInt := by rw [(show σ361 31 8 = (σ343 31 8) from (by rw [eσ361, jup_n (by decide)]))]
                    have w364 : ∀ k : Nat, k < 1400 → (-1) ≤ (σ361 33 k).toInt ∧ (σ361 33 k).toInt ≤ 350 := (by rw [eσ361]; exact jrr_up w350 (by have h9 := jz_m1; omega) (by have h9 := jz_m1; omega))
                    have w365 : ∀ k : Nat, k < 1024 → 0 ≤ (σ361 36 k).toInt ∧ (σ361 36 k).toInt ≤ 349 := (by rw [eσ361, jup_n (by decide)]; exact w351)
                    exact ihlp340 x362 σ361 _ _ ls (by have h90 := tx362; omega) (by have h90 := tx362; omega) (by have h90 := tx362; omega) (by have h90 := tx362; omega) (fun i hi => by rw [eσ361, jup_n (by omega), f348 i hi]) (fun k hk => by rw [eσ361, jup_n (by decide), f349 k hk])  w364 w365 hP hS (lv_sub hl [0, 1, 2, 3, 4, 5, 6, 7, 8] rfl)
                  · have kc360 := jne c360 rfl jz_0
                    refine lv_aload_n hx hb dX1_grow_170 rfl (lv_at hl 6 rfl) ?_
                    refine lv_iload hx hb dX1_grow_171 (lv_at hl 2 rfl) ?_
                    refine lv_iload hx hb dX1_grow_173 (lv_at hl 0 rfl) ?_
                    refine jcallS (As := [.int x336, .int x342]) (rest := [.ref (ad 31), .int x357, .ref (ad 33)]) ⟨hx, hb, hml, hown, hts⟩ hK hP hA hS hZ (c_X0_after l D cI cL ad zz hJ σ343 τ x336 (x336.toInt) rfl x342 (x342.toInt) rfl) cw_RX1_119 ⟨Nat.le_of_ble_eq_true rfl, Nat.le_of_ble_eq_true rfl⟩ rfl rfl rfl hl.1 rfl (Nat.le_of_ble_eq_true rfl) dX1_grow_175 ⟨Nat.zero_le _, Nat.zero_le _⟩ (fun r367 σ366 τ366 H locs h366 hP hS => ?_)
                    obtain ⟨⟨rfl, rfl⟩, h366⟩ := h366
                    refine lv_iload hx hb dX1_grow_178 (lv_at hl 1 rfl) ?_
                    refine lv_iconst (v := 1) hx hb dX1_grow_180 (by decide) ?_
                    have g368 := jrg (rfl : x339.toInt = x339.toInt)
                    refine lv_iadd hx hb dX1_grow_181 ?_
                    refine lv_topi (fun x369 ex369 => ?_)
                    have gx369 := jrg (rfl : x369.toInt = x369.toInt)
                    have I370 : jI31 σ343 := ⟨(by omega), w350, w351⟩
                    refine jcallV (As := [.int r367, .int x369]) (rest := [.int x357, .ref (ad 33)]) ⟨hx, hb, hml, hown, hts⟩ hK hP hA hS hZ (c_X1_add_31 l D cI cL ad zz hJ σ343 τ r367 (r367.toInt) rfl x369 (x369.toInt) rfl I370) cw_RX1_111 (jc_31 cI cL ad σ343 τ) rfl ⟨Nat.le_of_ble_eq_true rfl, Nat.le_of_ble_eq_true rfl⟩ rfl rfl rfl hl.1 rfl (Nat.le_of_ble_eq_true rfl) dX1_grow_182 ⟨Nat.zero_le _, Nat.zero_le _⟩ (fun r372 σ371 τ371 H locs h371 hP hS => ?_)
                    obtain ⟨rfl, f373, f374, I375, h371⟩ := h371
                    obtain ⟨i376, w377, w378⟩ : (0 ≤ (σ371 31 8).toInt ∧ (σ371 31 8).toInt ≤ 350) ∧ (∀ k : Nat, k < 1400 → (-1) ≤ (σ371 33 k).toInt ∧ (σ371 33 k).toInt ≤ 350) ∧ (∀ k : Nat, k < 1024 → 0 ≤ (σ371 36 k).toInt ∧ (σ371 36 k).toInt ≤ 349) := id I375
                    have h379 := h371
                    obtain ⟨q381, k380⟩ := h379
                    refine lv_goto (tgt := 189) hx hb dX1_grow_185 (by decide) ?_
                    refine jast hx hb hK hP hJ hA hS (jc_33 cI cL ad σ371 τ) (ja_33 cI cL ad σ371 τ _ _) (jin tx357 (by omega) (by omega)) dX1_grow_189 (fun σ382 H locs eσ382 hP hS => ?_)
                    obtain ⟨x383, ex383⟩ : ∃ y : Int32, y = x342 + 1 := ⟨_, rfl⟩
                    have tx383 : x383.toInt = x342.toInt + 1 := (jadd ex383 rfl jz_1 (by omega) (by omega)).trans (by omega)
                    refine lv_iinc (v := x383) (lv' := [(8, .int x383), (7, .int x339), (6, .int x336), (5, .int x319), (4, .int 0), (3, .int x8), (0, .ref (ad 31)), (1, .int a1), (2, .int a2)]) hx hb dX1_grow_190 hl (k := 0) rfl (by rw [ex383]; rfl) (by decide) rfl (fun ls hl => ?_)
                    refine lv_goto (tgt := 143) hx hb dX1_grow_193 (by decide) ?_
                    have z384 : (σ382 31 8).toInt = (σ371 31 8).toInt := by rw [(show σ382 31 8 = (σ371 31 8) from (by rw [eσ382, jup_n (by decide)]))]
                    have w385 : ∀ k : Nat, k < 1400 → (-1) ≤ (σ382 33 k).toInt ∧ (σ382 33 k).toInt ≤ 350 := (by rw [eσ382]; exact jrr_up w377 (by omega) (by omega))
                    have w386 : ∀ k : Nat, k < 1024 → 0 ≤ (σ382 36 k).toInt ∧ (σ382 36 k).toInt ≤ 349 := (by rw [eσ382, jup_n (by decide)]; exact w378)
                    exact ihlp340 x383 σ382 _ _ ls (by have h90 := tx383; omega) (by have h90 := tx383; omega) (by have h90 := tx383; omega) (by have h90 := tx383; omega) (fun i hi => by rw [eσ382, jup_n (by omega), f373 i (by omega), f348 i hi]) (fun k hk => by rw [eσ382, jup_n (by decide), f374 k (by omega), f349 k hk])  w385 w386 hP hS (lv_sub hl [0, 1, 2, 3, 4, 5, 6, 7, 8] rfl)
            exact lp340 1000000 0 σ323 _ _ ls (by have h90 := jz_0; omega) (by have h90 := jz_0; omega) (by have h90 := jz_0; omega) (by have h90 := jz_0; omega) (fun _ _ => rfl) (fun _ _ => rfl)  w330 w331 hP hS hl
      exact lp317 1000000 0 σ306 _ _ ls (by have h90 := jz_0; omega) (by have h90 := jz_0; omega) (by have h90 := jz_0; omega) (by have h90 := jz_0; omega) (fun _ _ => rfl) (fun _ _ => rfl)  w312 w313 hP hS hl
    · have kc296 := jeq c296 rfl t1
      refine lv_aload_n hx hb dX1_grow_40 rfl (lv_at hl 2 rfl) ?_
      refine va_get (D := D) hx hb hts inlX1 hown hK hP 31 (jc_31 cI cL ad σ τ) rfl 11 (by decide) (hts _ kw_28_7) (fun _ h9 => h9) rfl dX1_grow_41 ?_
      refine lv_iload_n hx hb dX1_grow_44 rfl (lv_at hl 1 rfl) ?_
      refine lv_icmp_ne (tgt := 63) hx hb dX1_grow_45 (by decide) (fun c387 => ?_) (fun c387 => ?_)
      · have kc387 := jne c387 rfl rfl
        refine lv_aload_n hx hb dX1_grow_63 rfl (lv_at hl 2 rfl) ?_
        refine lv_iload_n hx hb dX1_grow_64 rfl (lv_at hl 3 rfl) ?_
        refine jput (ty := .int) hx hb hts inlX1 tyX1 tyX1_ok nmX1 hown hK hP hJ hA hS (jc_31 cI cL ad σ τ) rfl (k := 9) (by decide) (Nat.le_of_ble_eq_true rfl) (jp_31_9 cI cL ad σ τ a1) (hts _ kw_5_9) (fun _ h9 => h9) rfl (by decide +kernel) rfl rfl dX1_grow_65 (fun σ388 H locs eσ388 hP hS => ?_)
        refine lv_aload_n hx hb dX1_grow_68 rfl (lv_at hl 2 rfl) ?_
        refine lv_iload_n hx hb dX1_grow_69 rfl (lv_at hl 4 rfl) ?_
        refine jput (ty := .int) hx hb hts inlX1 tyX1 tyX1_ok nmX1 hown hK hP hJ hA hS (jc_31 cI cL ad σ388 τ) rfl (k := 10) (by decide) (Nat.le_of_ble_eq_true rfl) (jp_31_10 cI cL ad σ388 τ a2) (hts _ kw_28_9) (fun _ h9 => h9) rfl (by decide +kernel) rfl rfl dX1_grow_70 (fun σ389 H locs eσ389 hP hS => ?_)
        refine lv_aload_n hx hb dX1_grow_73 rfl (lv_at hl 2 rfl) ?_
        refine lv_iload_n hx hb dX1_grow_74 rfl (lv_at hl 1 rfl) ?_
        refine jput (ty := .int) hx hb hts inlX1 tyX1 tyX1_ok nmX1 hown hK hP hJ hA hS (jc_31 cI cL ad σ389 τ) rfl (k := 11) (by decide) (Nat.le_of_ble_eq_true rfl) (jp_31_11 cI cL ad σ389 τ x8) (hts _ kw_28_7) (fun _ h9 => h9) rfl (by decide +kernel) rfl rfl dX1_grow_75 (fun σ390 H locs eσ390 hP hS => ?_)
        refine lv_aload_n hx hb dX1_grow_78 rfl (lv_at hl 2 rfl) ?_
        refine lv_iload hx hb dX1_grow_79 (lv_at hl 0 rfl) ?_
        refine jput (ty := .boolean) hx hb hts inlX1 tyX1 tyX1_ok nmX1 hown hK hP hJ hA hS (jc_31 cI cL ad σ390 τ) rfl (k := 12) (by decide) (Nat.le_of_ble_eq_true rfl) (jp_31_12 cI cL ad σ390 τ 0) (hts _ kw_28_8) (fun _ h9 => h9) rfl (by decide +kernel) rfl rfl dX1_grow_81 (fun σ391 H locs eσ391 hP hS => ?_)
        refine lv_aload_n hx hb dX1_grow_84 rfl (lv_at hl 2 rfl) ?_
        refine lv_iconst (v := 0) hx hb dX1_grow_85 (by decide) ?_
        refine jput (ty := .int) hx hb hts inlX1 tyX1 tyX1_ok nmX1 hown hK hP hJ hA hS (jc_31 cI cL ad σ391 τ) rfl (k := 8) (by decide) (Nat.le_of_ble_eq_true rfl) (jp_31_8 cI cL ad σ391 τ 0) (hts _ kw_27_22) (fun _ h9 => h9) rfl (by decide +kernel) rfl rfl dX1_grow_86 (fun σ392 H locs eσ392 hP hS => ?_)
        refine lv_aload_n hx hb dX1_grow_89 rfl (lv_at hl 2 rfl) ?_
        refine lv_iload_n hx hb dX1_grow_90 rfl (lv_at hl 3 rfl) ?_
        refine lv_iconst (v := 0) hx hb dX1_grow_91 (by decide) ?_
        have z393 : (σ392 31 8).toInt = 0 := by rw [(show σ392 31 8 = 0 from (by rw [eσ392]; exact jup_s))]; exact jz_0
        have w394 : ∀ k : Nat, k < 1400 → (-1) ≤ (σ392 33 k).toInt ∧ (σ392 33 k).toInt ≤ 350 := (by rw [eσ392, jup_n (by decide)]; exact (by rw [eσ391, jup_n (by decide)]; exact (by rw [eσ390, jup_n (by decide)]; exact (by rw [eσ389, jup_n (by decide)]; exact (by rw [eσ388, jup_n (by decide)]; exact w2)))))
        have w395 : ∀ k : Nat, k < 1024 → 0 ≤ (σ392 36 k).toInt ∧ (σ392 36 k).toInt ≤ 349 := (by rw [eσ392, jup_n (by decide)]; exact (by rw [eσ391, jup_n (by decide)]; exact (by rw [eσ390, jup_n (by decide)]; exact (by rw [eσ389, jup_n (by decide)]; exact (by rw [eσ388, jup_n (by decide)]; exact w3)))))
        have I396 : jI31 σ392 := ⟨(by omega), w394, w395⟩
        refine jcallV (As := [.int a1, .int 0]) (rest := []) ⟨hx, hb, hml, hown, hts⟩ hK hP hA hS hZ (c_X1_add_31 l D cI cL ad zz hJ σ392 τ a1 (A1) t1 0 (0) jz_0 I396) cw_RX1_111 (jc_31 cI cL ad σ392 τ) rfl ⟨Nat.le_of_ble_eq_true rfl, Nat.le_of_ble_eq_true rfl⟩ rfl rfl rfl hl.1 rfl (Nat.le_of_ble_eq_true rfl) dX1_grow_92 ⟨Nat.zero_le _, Nat.zero_le _⟩ (fun r398 σ397 τ397 H locs h397 hP hS => ?_)
        obtain ⟨rfl, f399, f400, I401, h397⟩ := h397
        obtain ⟨i402, w403, w404⟩ : (0 ≤ (σ397 31 8).toInt ∧ (σ397 31 8).toInt ≤ 350) ∧ (∀ k : Nat, k < 1400 → (-1) ≤ (σ397 33 k).toInt ∧ (σ397 33 k).toInt ≤ 350) ∧ (∀ k : Nat, k < 1024 → 0 ≤ (σ397 36 k).toInt ∧ (σ397 36 k).toInt ≤ 349) := id I401
        have h405 := h397
        obtain ⟨q407, k406⟩ := h405
        refine lv_pop hx hb dX1_grow_95 rfl ?_
        refine lv_iconst (v := 0) hx hb dX1_grow_96 (by decide) ?_
        refine lv_istore (lv' := [(5, .int 0), (4, .int 0), (3, .int x8), (0, .ref (ad 31)), (1, .int a1), (2, .int a2)]) hx hb dX1_grow_97 hl (by decide) rfl (fun ls hl => ?_)
        have lp408 : ∀ (n409 : Nat) (x410 : Int32) (σ414 : Nat → Nat → Int32) (H : Heap) (locs : List Loc) (ls : Array Slot), (-x410.toInt + 350 : Int) < n409 → 0 ≤ x410.toInt → x410.toInt ≤ 350 → 0 ≤ (σ414 31 8).toInt ∧ (σ414 31 8).toInt ≤ 350 → (∀ i : Nat, (i < 31 ∨ 33 < i) ∧ (i < 36 ∨ 37 < i) → σ414 i = σ397 i) → (∀ k : Nat, (k < 8 ∨ 8 < k) → σ414 31 k = σ397 31 k) → (∀ k : Nat, k < 1400 → (-1) ≤ (σ414 33 k).toInt ∧ (σ414 33 k).toInt ≤ 350) → (∀ k : Nat, k < 1024 → 0 ≤ (σ414 36 k).toInt ∧ (σ414 36 k).toInt ≤ 349) → jH D cI cL ad σ414 τ H → va_S (jA ad) s.heap H locs → lv_has ls 9 [(5, .int x410), (4, .int 0), (3, .int x8), (0, .ref (ad 31)), (1, .int a1), (2, .int a2)] → W p l e ({ frames := 3, cells := 0, slots := 0, locals := 73 }) s m args below meth c H locs 0 0 Q (F0 m 99 ls []) := by
          intro n409
          induction n409 with
          | zero => intro x410 σ414 H locs ls h415 h416 h417 h418; exact absurd h415 (by omega)
          | succ n409 ihlp408 =>
            intro x410 σ414 H locs ls h415 h416 h417 h418 f419 f420 w421 w422 hP hS hl
            refine lv_iload hx hb dX1_grow_99 (lv_at hl 0 rfl) ?_
            refine lv_aload_n hx hb dX1_grow_101 rfl (lv_at hl 3 rfl) ?_
            refine va_get (D := D) hx hb hts inlX1 hown hK hP 31 (jc_31 cI cL ad σ414 τ) rfl 8 (by decide) (hts _ kw_27_22) (fun _ h9 => h9) rfl dX1_grow_102 ?_
            refine lv_icmp_ge (tgt := 202) hx hb dX1_grow_105 (by decide) (fun c423 => ?_) (fun c423 => ?_)
            · have kc423 := jle c423 rfl rfl
              have I424 : jI31 σ414 := ⟨(by omega), w421, w422⟩
              exact hret σ414 τ _ _ _ _ ⟨rfl, (fun i hi => by rw [f419 i (by omega), f399 i (by omega), eσ392, jup_n (by omega), eσ391, jup_n (by omega), eσ390, jup_n (by omega), eσ389, jup_n (by omega), eσ388, jup_n (by omega)]), (fun k hk => by rw [f420 k (by omega), f400 k (by omega), eσ392, jup_k (by omega), eσ391, jup_k (by omega), eσ390, jup_k (by omega), eσ389, jup_k (by omega), eσ388, jup_k (by omega)]), I424, trivial⟩ hP hS dX1_grow_202
            · have kc423 := jnle c423 rfl rfl
              refine lv_iload hx hb dX1_grow_108 (lv_at hl 0 rfl) ?_
              refine lv_sipush (v := 350) hx hb dX1_grow_110 (by decide) ?_
              refine lv_icmp_ge (tgt := 202) hx hb dX1_grow_113 (by decide) (fun c => absurd (jle c jz_350 rfl) (by omega)) (fun c425 => ?_)
              have kc425 := jnle c425 jz_350 rfl
              refine lv_aload_n hx hb dX1_grow_116 rfl (lv_at hl 3 rfl) ?_
              refine va_get (D := D) hx hb hts inlX1 hown hK hP 31 (jc_31 cI cL ad σ414 τ) rfl 2 (by decide) (hts _ kw_5_3) (fun _ h9 => h9) rfl dX1_grow_117 ?_
              refine lv_iload hx hb dX1_grow_120 (lv_at hl 0 rfl) ?_
              refine jald hx hb hK hP (jc_32 cI cL ad σ414 τ) (jin rfl (by omega) (by omega)) dX1_grow_122 ?_
              refine lv_topi (fun x426 ex426 => ?_)
              refine lv_ldc (v := 134217727) hx hb hown (hts _ kw_28_10) dX1_grow_123 ?_
              refine lv_iand hx hb dX1_grow_125 ?_
              refine lv_topi (fun x427 ex427 => ?_)
              have gx427 := jrg (rfl : x427.toInt = x427.toInt)
              have g428 : 0 ≤ x427.toInt ∧ x427.toInt ≤ 134217727 := jmask ex427 27 (by decide) (by decide)
              refine lv_istore (lv' := [(6, .int x427), (5, .int x410), (4, .int 0), (3, .int x8), (0, .ref (ad 31)), (1, .int a1), (2, .int a2)]) hx hb dX1_grow_126 hl (by decide) rfl (fun ls hl => ?_)
              refine lv_aload_n hx hb dX1_grow_128 rfl (lv_at hl 4 rfl) ?_
              refine va_get (D := D) hx hb hts inlX1 hown hK hP 31 (jc_31 cI cL ad σ414 τ) rfl 2 (by decide) (hts _ kw_5_3) (fun _ h9 => h9) rfl dX1_grow_129 ?_
              refine lv_iload hx hb dX1_grow_132 (lv_at hl 1 rfl) ?_
              refine jald hx hb hK hP (jc_32 cI cL ad σ414 τ) (jin rfl (by omega) (by omega)) dX1_grow_134 ?_
              refine lv_topi (fun x429 ex429 => ?_)
              refine lv_bipush (v := 27) hx hb dX1_grow_135 (by decide) ?_
              refine lv_ishr hx hb dX1_grow_137 ?_
              refine lv_topi (fun x430 ex430 => ?_)
              have gx430 := jrg (rfl : x430.toInt = x430.toInt)
              refine lv_istore (lv' := [(7, .int x430), (6, .int x427), (5, .int x410), (4, .int 0), (3, .int x8), (0, .ref (ad 31)), (1, .int a1), (2, .int a2)]) hx hb dX1_grow_138 hl (by decide) rfl (fun ls hl => ?_)
              refine lv_iconst (v := 0) hx hb dX1_grow_140 (by decide) ?_
              refine lv_istore (lv' := [(8, .int 0), (7, .int x430), (6, .int x427), (5, .int x410), (4, .int 0), (3, .int x8), (0, .ref (ad 31)), (1, .int a1), (2, .int a2)]) hx hb dX1_grow_141 hl (by decide) rfl (fun ls hl => ?_)
              have lp431 : ∀ (n432 : Nat) (x433 : Int32) (σ434 : Nat → Nat → Int32) (H : Heap) (locs : List Loc) (ls : Array Slot), (-x433.toInt + 4 : Int) < n432 → 0 ≤ x433.toInt → x433.toInt ≤ 4 → 0 ≤ (σ434 31 8).toInt ∧ (σ434 31 8).toInt ≤ 350 → (∀ i : Nat, (i < 31 ∨ 33 < i) ∧ (i < 36 ∨ 37 < i) → σ434 i = σ414 i) → (∀ k : Nat, (k < 8 ∨ 8 < k) → σ434 31 k = σ414 31 k) → (∀ k : Nat, k < 1400 → (-1) ≤ (σ434 33 k).toInt ∧ (σ434 33 k).toInt ≤ 350) → (∀ k : Nat, k < 1024 → 0 ≤ (σ434 36 k).toInt ∧ (σ434 36 k).toInt ≤ 349) → jH D cI cL ad σ434 τ H → va_S (jA ad) s.heap H locs → lv_has ls 9 [(8, .int x433), (7, .int x430), (6, .int x427), (5, .int x410), (4, .int 0), (3, .int x8), (0, .ref (ad 31)), (1, .int a1), (2, .int a2)] → W p l e ({ frames := 3, cells := 0, slots := 0, locals := 73 }) s m args below meth c H locs 0 0 Q (F0 m 143 ls []) := by
                intro n432
                induction n432 with
                | zero => intro x433 σ434 H locs ls h435 h436 h437 h438; exact absurd h435 (by omega)
                | succ n432 ihlp431 =>
                  intro x433 σ434 H locs ls h435 h436 h437 h438 f439 f440 w441 w442 hP hS hl
                  refine lv_iload hx hb dX1_grow_143 (lv_at hl 0 rfl) ?_
                  refine lv_iconst (v := 4) hx hb dX1_grow_145 (by decide) ?_
                  refine lv_icmp_ge (tgt := 196) hx hb dX1_grow_146 (by decide) (fun c443 => ?_) (fun c443 => ?_)
                  · have kc443 := jle c443 jz_4 rfl
                    obtain ⟨x444, ex444⟩ : ∃ y : Int32, y = x410 + 1 := ⟨_, rfl⟩
                    have tx444 : x444.toInt = x410.toInt + 1 := (jadd ex444 rfl jz_1 (by omega) (by omega)).trans (by omega)
                    refine lv_iinc (v := x444) (lv' := [(5, .int x444), (8, .int x433), (7, .int x430), (6, .int x427), (4, .int 0), (3, .int x8), (0, .ref (ad 31)), (1, .int a1), (2, .int a2)]) hx hb dX1_grow_196 hl (k := 3) rfl (by rw [ex444]; rfl) (by decide) rfl (fun ls hl => ?_)
                    refine lv_goto (tgt := 99) hx hb dX1_grow_199 (by decide) ?_
                    exact ihlp408 x444 σ434 _ _ ls (by have h90 := tx444; omega) (by have h90 := tx444; omega) (by have h90 := tx444; omega) (by have h90 := tx444; omega) (fun i hi => by rw [f439 i (by omega), f419 i hi]) (fun k hk => by rw [f440 k (by omega), f420 k hk])  w441 w442 hP hS (lv_sub hl [0, 4, 5, 6, 7, 8] rfl)
                  · have kc443 := jnle c443 jz_4 rfl
                    refine lv_aload_n hx hb dX1_grow_149 rfl (lv_at hl 6 rfl) ?_
                    refine va_get (D := D) hx hb hts inlX1 hown hK hP 31 (jc_31 cI cL ad σ434 τ) rfl 3 (by decide) (hts _ kw_5_4) (fun _ h9 => h9) rfl dX1_grow_150 ?_
                    refine lv_iload hx hb dX1_grow_153 (lv_at hl 3 rfl) ?_
                    refine lv_iconst (v := 4) hx hb dX1_grow_155 (by decide) ?_
                    have g445 := jrg (rfl : x410.toInt = x410.toInt)
                    refine lv_imul hx hb dX1_grow_156 ?_
                    refine lv_topi (fun x446 ex446 => ?_)
                    have tx446 : x446.toInt = 4 * x410.toInt := (jmul ex446 rfl jz_4 (by omega) (by omega)).trans (by omega)
                    refine lv_iload hx hb dX1_grow_157 (lv_at hl 0 rfl) ?_
                    have g447 := jrg (rfl : x433.toInt = x433.toInt)
                    refine lv_iadd hx hb dX1_grow_159 ?_
                    refine lv_topi (fun x448 ex448 => ?_)
                    have tx448 : x448.toInt = 4 * x410.toInt + x433.toInt := (jadd ex448 tx446 rfl (by omega) (by omega)).trans (by omega)
                    refine lv_iload hx hb dX1_grow_160 (lv_at hl 2 rfl) ?_
                    refine lv_iload hx hb dX1_grow_162 (lv_at hl 0 rfl) ?_
                    refine jcallS (As := [.int x427, .int x433]) (rest := [.int x448, .ref (ad 33)]) ⟨hx, hb, hml, hown, hts⟩ hK hP hA hS hZ (c_X0_mayBowl l D cI cL ad zz hJ σ434 τ x427 (x427.toInt) rfl x433 (x433.toInt) rfl) cw_RX1_115 ⟨Nat.le_of_ble_eq_true rfl, Nat.le_of_ble_eq_true rfl⟩ rfl rfl rfl hl.1 rfl (Nat.le_of_ble_eq_true rfl) dX1_grow_164 ⟨Nat.zero_le _, Nat.zero_le _⟩ (fun r450 σ449 τ449 H locs h449 hP hS => ?_)
                    obtain ⟨⟨rfl, rfl⟩, h449⟩ := h449
                    refine lv_if_eq (tgt := 188) hx hb dX1_grow_167 (by decide) (fun c451 => ?_) (fun c451 => ?_)
                    · have kc451 := jeq c451 rfl jz_0
                      refine lv_iconst (v := (-1)) hx hb dX1_grow_188 (by decide) ?_
                      refine jast hx hb hK hP hJ hA hS (jc_33 cI cL ad σ434 τ) (ja_33 cI cL ad σ434 τ _ _) (jin tx448 (by omega) (by omega)) dX1_grow_189 (fun σ452 H locs eσ452 hP hS => ?_)
                      obtain ⟨x453, ex453⟩ : ∃ y : Int32, y = x433 + 1 := ⟨_, rfl⟩
                      have tx453 : x453.toInt = x433.toInt + 1 := (jadd ex453 rfl jz_1 (by omega) (by omega)).trans (by omega)
                      refine lv_iinc (v := x453) (lv' := [(8, .int x453), (7, .int x430), (6, .int x427), (5, .int x410), (4, .int 0), (3, .int x8), (0, .ref (ad 31)), (1, .int a1), (2, .int a2)]) hx hb dX1_grow_190 hl (k := 0) rfl (by rw [ex453]; rfl) (by decide) rfl (fun ls hl => ?_)
                      refine lv_goto (tgt := 143) hx hb dX1_grow_193 (by decide) ?_
                      have z454 : (σ452 31 8).toInt = (σ434 31 8).toInt := by rw [(show σ452 31 8 = (σ434 31 8) from (by rw [eσ452, jup_n (by decide)]))]
                      have w455 : ∀ k : Nat, k < 1400 → (-1) ≤ (σ452 33 k).toInt ∧ (σ452 33 k).toInt ≤ 350 := (by rw [eσ452]; exact jrr_up w441 (by have h9 := jz_m1; omega) (by have h9 := jz_m1; omega))
                      have w456 : ∀ k : Nat, k < 1024 → 0 ≤ (σ452 36 k).toInt ∧ (σ452 36 k).toInt ≤ 349 := (by rw [eσ452, jup_n (by decide)]; exact w442)
                      exact ihlp431 x453 σ452 _ _ ls (by have h90 := tx453; omega) (by have h90 := tx453; omega) (by have h90 := tx453; omega) (by have h90 := tx453; omega) (fun i hi => by rw [eσ452, jup_n (by omega), f439 i hi]) (fun k hk => by rw [eσ452, jup_n (by decide), f440 k hk])  w455 w456 hP hS (lv_sub hl [0, 1, 2, 3, 4, 5, 6, 7, 8] rfl)
                    · have kc451 := jne c451 rfl jz_0
                      refine lv_aload_n hx hb dX1_grow_170 rfl (lv_at hl 6 rfl) ?_
                      refine lv_iload hx hb dX1_grow_171 (lv_at hl 2 rfl) ?_
                      refine lv_iload hx hb dX1_grow_173 (lv_at hl 0 rfl) ?_
                      refine jcallS (As := [.int x427, .int x433]) (rest := [.ref (ad 31), .int x448, .ref (ad 33)]) ⟨hx, hb, hml, hown, hts⟩ hK hP hA hS hZ (c_X0_after l D cI cL ad zz hJ σ434 τ x427 (x427.toInt) rfl x433 (x433.toInt) rfl) cw_RX1_119 ⟨Nat.le_of_ble_eq_true rfl, Nat.le_of_ble_eq_true rfl⟩ rfl rfl rfl hl.1 rfl (Nat.le_of_ble_eq_true rfl) dX1_grow_175 ⟨Nat.zero_le _, Nat.zero_le _⟩ (fun r458 σ457 τ457 H locs h457 hP hS => ?_)
                      obtain ⟨⟨rfl, rfl⟩, h457⟩ := h457
                      refine lv_iload hx hb dX1_grow_178 (lv_at hl 1 rfl) ?_
                      refine lv_iconst (v := 1) hx hb dX1_grow_180 (by decide) ?_
                      have g459 := jrg (rfl : x430.toInt = x430.toInt)
                      refine lv_iadd hx hb dX1_grow_181 ?_
                      refine lv_topi (fun x460 ex460 => ?_)
                      have gx460 := jrg (rfl : x460.toInt = x460.toInt)
                      have I461 : jI31 σ434 := ⟨(by omega), w441, w442⟩
                      refine jcallV (As := [.int r458, .int x460]) (rest := [.int x448, .ref (ad 33)]) ⟨hx, hb, hml, hown, hts⟩ hK hP hA hS hZ (c_X1_add_31 l D cI cL ad zz hJ σ434 τ r458 (r458.toInt) rfl x460 (x460.toInt) rfl I461) cw_RX1_111 (jc_31 cI cL ad σ434 τ) rfl ⟨Nat.le_of_ble_eq_true rfl, Nat.le_of_ble_eq_true rfl⟩ rfl rfl rfl hl.1 rfl (Nat.le_of_ble_eq_true rfl) dX1_grow_182 ⟨Nat.zero_le _, Nat.zero_le _⟩ (fun r463 σ462 τ462 H locs h462 hP hS => ?_)
                      obtain ⟨rfl, f464, f465, I466, h462⟩ := h462
                      obtain ⟨i467, w468, w469⟩ : (0 ≤ (σ462 31 8).toInt ∧ (σ462 31 8).toInt ≤ 350) ∧ (∀ k : Nat, k < 1400 → (-1) ≤ (σ462 33 k).toInt ∧ (σ462 33 k).toInt ≤ 350) ∧ (∀ k : Nat, k < 1024 → 0 ≤ (σ462 36 k).toInt ∧ (σ462 36 k).toInt ≤ 349) := id I466
                      have h470 := h462
                      obtain ⟨q472, k471⟩ := h470
                      refine lv_goto (tgt := 189) hx hb dX1_grow_185 (by decide) ?_
                      refine jast hx hb hK hP hJ hA hS (jc_33 cI cL ad σ462 τ) (ja_33 cI cL ad σ462 τ _ _) (jin tx448 (by omega) (by omega)) dX1_grow_189 (fun σ473 H locs eσ473 hP hS => ?_)
                      obtain ⟨x474, ex474⟩ : ∃ y : Int32, y = x433 + 1 := ⟨_, rfl⟩
                      have tx474 : x474.toInt = x433.toInt + 1 := (jadd ex474 rfl jz_1 (by omega) (by omega)).trans (by omega)
                      refine lv_iinc (v := x474) (lv' := [(8, .int x474), (7, .int x430), (6, .int x427), (5, .int x410), (4, .int 0), (3, .int x8), (0, .ref (ad 31)), (1, .int a1), (2, .int a2)]) hx hb dX1_grow_190 hl (k := 0) rfl (by rw [ex474]; rfl) (by decide) rfl (fun ls hl => ?_)
                      refine lv_goto (tgt := 143) hx hb dX1_grow_193 (by decide) ?_
                      have z475 : (σ473 31 8).toInt = (σ462 31 8).toInt := by rw [(show σ473 31 8 = (σ462 31 8) from (by rw [eσ473, jup_n (by decide)]))]
                      have w476 : ∀ k : Nat, k < 1400 → (-1) ≤ (σ473 33 k).toInt ∧ (σ473 33 k).toInt ≤ 350 := (by rw [eσ473]; exact jrr_up w468 (by omega) (by omega))
                      have w477 : ∀ k : Nat, k < 1024 → 0 ≤ (σ473 36 k).toInt ∧ (σ473 36 k).toInt ≤ 349 := (by rw [eσ473, jup_n (by decide)]; exact w469)
                      exact ihlp431 x474 σ473 _ _ ls (by have h90 := tx474; omega) (by have h90 := tx474; omega) (by have h90 := tx474; omega) (by have h90 := tx474; omega) (fun i hi => by rw [eσ473, jup_n (by omega), f464 i (by omega), f439 i hi]) (fun k hk => by rw [eσ473, jup_n (by decide), f465 k (by omega), f440 k hk])  w476 w477 hP hS (lv_sub hl [0, 1, 2, 3, 4, 5, 6, 7, 8] rfl)
              exact lp431 1000000 0 σ414 _ _ ls (by have h90 := jz_0; omega) (by have h90 := jz_0; omega) (by have h90 := jz_0; omega) (by have h90 := jz_0; omega) (fun _ _ => rfl) (fun _ _ => rfl)  w421 w422 hP hS hl
        exact lp408 1000000 0 σ397 _ _ ls (by have h90 := jz_0; omega) (by have h90 := jz_0; omega) (by have h90 := jz_0; omega) (by have h90 := jz_0; omega) (fun _ _ => rfl) (fun _ _ => rfl)  w403 w404 hP hS hl
      · have kc387 := jeq c387 rfl rfl
        refine lv_aload_n hx hb dX1_grow_48 rfl (lv_at hl 2 rfl) ?_
        refine va_get (D := D) hx hb hts inlX1 hown hK hP 31 (jc_31 cI cL ad σ τ) rfl 12 (by decide) (hts _ kw_28_8) (fun _ h9 => h9) rfl dX1_grow_49 ?_
        refine lv_iload hx hb dX1_grow_52 (lv_at hl 0 rfl) ?_
        refine lv_icmp_ne (tgt := 63) hx hb dX1_grow_54 (by decide) (fun c478 => ?_) (fun c478 => ?_)
        · have kc478 := jne c478 rfl jz_0
          refine lv_aload_n hx hb dX1_grow_63 rfl (lv_at hl 2 rfl) ?_
          refine lv_iload_n hx hb dX1_grow_64 rfl (lv_at hl 3 rfl) ?_
          refine jput (ty := .int) hx hb hts inlX1 tyX1 tyX1_ok nmX1 hown hK hP hJ hA hS (jc_31 cI cL ad σ τ) rfl (k := 9) (by decide) (Nat.le_of_ble_eq_true rfl) (jp_31_9 cI cL ad σ τ a1) (hts _ kw_5_9) (fun _ h9 => h9) rfl (by decide +kernel) rfl rfl dX1_grow_65 (fun σ479 H locs eσ479 hP hS => ?_)
          refine lv_aload_n hx hb dX1_grow_68 rfl (lv_at hl 2 rfl) ?_
          refine lv_iload_n hx hb dX1_grow_69 rfl (lv_at hl 4 rfl) ?_
          refine jput (ty := .int) hx hb hts inlX1 tyX1 tyX1_ok nmX1 hown hK hP hJ hA hS (jc_31 cI cL ad σ479 τ) rfl (k := 10) (by decide) (Nat.le_of_ble_eq_true rfl) (jp_31_10 cI cL ad σ479 τ a2) (hts _ kw_28_9) (fun _ h9 => h9) rfl (by decide +kernel) rfl rfl dX1_grow_70 (fun σ480 H locs eσ480 hP hS => ?_)
          refine lv_aload_n hx hb dX1_grow_73 rfl (lv_at hl 2 rfl) ?_
          refine lv_iload_n hx hb dX1_grow_74 rfl (lv_at hl 1 rfl) ?_
          refine jput (ty := .int) hx hb hts inlX1 tyX1 tyX1_ok nmX1 hown hK hP hJ hA hS (jc_31 cI cL ad σ480 τ) rfl (k := 11) (by decide) (Nat.le_of_ble_eq_true rfl) (jp_31_11 cI cL ad σ480 τ x8) (hts _ kw_28_7) (fun _ h9 => h9) rfl (by decide +kernel) rfl rfl dX1_grow_75 (fun σ481 H locs eσ481 hP hS => ?_)
          refine lv_aload_n hx hb dX1_grow_78 rfl (lv_at hl 2 rfl) ?_
          refine lv_iload hx hb dX1_grow_79 (lv_at hl 0 rfl) ?_
          refine jput (ty := .boolean) hx hb hts inlX1 tyX1 tyX1_ok nmX1 hown hK hP hJ hA hS (jc_31 cI cL ad σ481 τ) rfl (k := 12) (by decide) (Nat.le_of_ble_eq_true rfl) (jp_31_12 cI cL ad σ481 τ 0) (hts _ kw_28_8) (fun _ h9 => h9) rfl (by decide +kernel) rfl rfl dX1_grow_81 (fun σ482 H locs eσ482 hP hS => ?_)
          refine lv_aload_n hx hb dX1_grow_84 rfl (lv_at hl 2 rfl) ?_
          refine lv_iconst (v := 0) hx hb dX1_grow_85 (by decide) ?_
          refine jput (ty := .int) hx hb hts inlX1 tyX1 tyX1_ok nmX1 hown hK hP hJ hA hS (jc_31 cI cL ad σ482 τ) rfl (k := 8) (by decide) (Nat.le_of_ble_eq_true rfl) (jp_31_8 cI cL ad σ482 τ 0) (hts _ kw_27_22) (fun _ h9 => h9) rfl (by decide +kernel) rfl rfl dX1_grow_86 (fun σ483 H locs eσ483 hP hS => ?_)
          refine lv_aload_n hx hb dX1_grow_89 rfl (lv_at hl 2 rfl) ?_
          refine lv_iload_n hx hb dX1_grow_90 rfl (lv_at hl 3 rfl) ?_
          refine lv_iconst (v := 0) hx hb dX1_grow_91 (by decide) ?_
          have z484 : (σ483 31 8).toInt = 0 := by rw [(show σ483 31 8 = 0 from (by rw [eσ483]; exact jup_s))]; exact jz_0
          have w485 : ∀ k : Nat, k < 1400 → (-1) ≤ (σ483 33 k).toInt ∧ (σ483 33 k).toInt ≤ 350 := (by rw [eσ483, jup_n (by decide)]; exact (by rw [eσ482, jup_n (by decide)]; exact (by rw [eσ481, jup_n (by decide)]; exact (by rw [eσ480, jup_n (by decide)]; exact (by rw [eσ479, jup_n (by decide)]; exact w2)))))
          have w486 : ∀ k : Nat, k < 1024 → 0 ≤ (σ483 36 k).toInt ∧ (σ483 36 k).toInt ≤ 349 := (by rw [eσ483, jup_n (by decide)]; exact (by rw [eσ482, jup_n (by decide)]; exact (by rw [eσ481, jup_n (by decide)]; exact (by rw [eσ480, jup_n (by decide)]; exact (by rw [eσ479, jup_n (by decide)]; exact w3)))))
          have I487 : jI31 σ483 := ⟨(by omega), w485, w486⟩
          refine jcallV (As := [.int a1, .int 0]) (rest := []) ⟨hx, hb, hml, hown, hts⟩ hK hP hA hS hZ (c_X1_add_31 l D cI cL ad zz hJ σ483 τ a1 (A1) t1 0 (0) jz_0 I487) cw_RX1_111 (jc_31 cI cL ad σ483 τ) rfl ⟨Nat.le_of_ble_eq_true rfl, Nat.le_of_ble_eq_true rfl⟩ rfl rfl rfl hl.1 rfl (Nat.le_of_ble_eq_true rfl) dX1_grow_92 ⟨Nat.zero_le _, Nat.zero_le _⟩ (fun r489 σ488 τ488 H locs h488 hP hS => ?_)
          obtain ⟨rfl, f490, f491, I492, h488⟩ := h488
          obtain ⟨i493, w494, w495⟩ : (0 ≤ (σ488 31 8).toInt ∧ (σ488 31 8).toInt ≤ 350) ∧ (∀ k : Nat, k < 1400 → (-1) ≤ (σ488 33 k).toInt ∧ (σ488 33 k).toInt ≤ 350) ∧ (∀ k : Nat, k < 1024 → 0 ≤ (σ488 36 k).toInt ∧ (σ488 36 k).toInt ≤ 349) := id I492
          have h496 := h488
          obtain ⟨q498, k497⟩ := h496
          refine lv_pop hx hb dX1_grow_95 rfl ?_
          refine lv_iconst (v := 0) hx hb dX1_grow_96 (by decide) ?_
          refine lv_istore (lv' := [(5, .int 0), (4, .int 0), (3, .int x8), (0, .ref (ad 31)), (1, .int a1), (2, .int a2)]) hx hb dX1_grow_97 hl (by decide) rfl (fun ls hl => ?_)
          have lp499 : ∀ (n500 : Nat) (x501 : Int32) (σ505 : Nat → Nat → Int32) (H : Heap) (locs : List Loc) (ls : Array Slot), (-x501.toInt + 350 : Int) < n500 → 0 ≤ x501.toInt → x501.toInt ≤ 350 → 0 ≤ (σ505 31 8).toInt ∧ (σ505 31 8).toInt ≤ 350 → (∀ i : Nat, (i < 31 ∨ 33 < i) ∧ (i < 36 ∨ 37 < i) → σ505 i = σ488 i) → (∀ k : Nat, (k < 8 ∨ 8 < k) → σ505 31 k = σ488 31 k) → (∀ k : Nat, k < 1400 → (-1) ≤ (σ505 33 k).toInt ∧ (σ505 33 k).toInt ≤ 350) → (∀ k : Nat, k < 1024 → 0 ≤ (σ505 36 k).toInt ∧ (σ505 36 k).toInt ≤ 349) → jH D cI cL ad σ505 τ H → va_S (jA ad) s.heap H locs → lv_has ls 9 [(5, .int x501), (4, .int 0), (3, .int x8), (0, .ref (ad 31)), (1, .int a1), (2, .int a2)] → W p l e ({ frames := 3, cells := 0, slots := 0, locals := 73 }) s m args below meth c H locs 0 0 Q (F0 m 99 ls []) := by
            intro n500
            induction n500 with
            | zero => intro x501 σ505 H locs ls h506 h507 h508 h509; exact absurd h506 (by omega)
            | succ n500 ihlp499 =>
              intro x501 σ505 H locs ls h506 h507 h508 h509 f510 f511 w512 w513 hP hS hl
              refine lv_iload hx hb dX1_grow_99 (lv_at hl 0 rfl) ?_
              refine lv_aload_n hx hb dX1_grow_101 rfl (lv_at hl 3 rfl) ?_
              refine va_get (D := D) hx hb hts inlX1 hown hK hP 31 (jc_31 cI cL ad σ505 τ) rfl 8 (by decide) (hts _ kw_27_22) (fun _ h9 => h9) rfl dX1_grow_102 ?_
              refine lv_icmp_ge (tgt := 202) hx hb dX1_grow_105 (by decide) (fun c514 => ?_) (fun c514 => ?_)
              · have kc514 := jle c514 rfl rfl
                have I515 : jI31 σ505 := ⟨(by omega), w512, w513⟩
                exact hret σ505 τ _ _ _ _ ⟨rfl, (fun i hi => by rw [f510 i (by omega), f490 i (by omega), eσ483, jup_n (by omega), eσ482, jup_n (by omega), eσ481, jup_n (by omega), eσ480, jup_n (by omega), eσ479, jup_n (by omega)]), (fun k hk => by rw [f511 k (by omega), f491 k (by omega), eσ483, jup_k (by omega), eσ482, jup_k (by omega), eσ481, jup_k (by omega), eσ480, jup_k (by omega), eσ479, jup_k (by omega)]), I515, trivial⟩ hP hS dX1_grow_202
              · have kc514 := jnle c514 rfl rfl
                refine lv_iload hx hb dX1_grow_108 (lv_at hl 0 rfl) ?_
                refine lv_sipush (v := 350) hx hb dX1_grow_110 (by decide) ?_
                refine lv_icmp_ge (tgt := 202) hx hb dX1_grow_113 (by decide) (fun c => absurd (jle c jz_350 rfl) (by omega)) (fun c516 => ?_)
                have kc516 := jnle c516 jz_350 rfl
                refine lv_aload_n hx hb dX1_grow_116 rfl (lv_at hl 3 rfl) ?_
                refine va_get (D := D) hx hb hts inlX1 hown hK hP 31 (jc_31 cI cL ad σ505 τ) rfl 2 (by decide) (hts _ kw_5_3) (fun _ h9 => h9) rfl dX1_grow_117 ?_
                refine lv_iload hx hb dX1_grow_120 (lv_at hl 0 rfl) ?_
                refine jald hx hb hK hP (jc_32 cI cL ad σ505 τ) (jin rfl (by omega) (by omega)) dX1_grow_122 ?_
                refine lv_topi (fun x517 ex517 => ?_)
                refine lv_ldc (v := 134217727) hx hb hown (hts _ kw_28_10) dX1_grow_123 ?_
                refine lv_iand hx hb dX1_grow_125 ?_
                refine lv_topi (fun x518 ex518 => ?_)
                have gx518 := jrg (rfl : x518.toInt = x518.toInt)
                have g519 : 0 ≤ x518.toInt ∧ x518.toInt ≤ 134217727 := jmask ex518 27 (by decide) (by decide)
                refine lv_istore (lv' := [(6, .int x518), (5, .int x501), (4, .int 0), (3, .int x8), (0, .ref (ad 31)), (1, .int a1), (2, .int a2)]) hx hb dX1_grow_126 hl (by decide) rfl (fun ls hl => ?_)
                refine lv_aload_n hx hb dX1_grow_128 rfl (lv_at hl 4 rfl) ?_
                refine va_get (D := D) hx hb hts inlX1 hown hK hP 31 (jc_31 cI cL ad σ505 τ) rfl 2 (by decide) (hts _ kw_5_3) (fun _ h9 => h9) rfl dX1_grow_129 ?_
                refine lv_iload hx hb dX1_grow_132 (lv_at hl 1 rfl) ?_
                refine jald hx hb hK hP (jc_32 cI cL ad σ505 τ) (jin rfl (by omega) (by omega)) dX1_grow_134 ?_
                refine lv_topi (fun x520 ex520 => ?_)
                refine lv_bipush (v := 27) hx hb dX1_grow_135 (by decide) ?_
                refine lv_ishr hx hb dX1_grow_137 ?_
                refine lv_topi (fun x521 ex521 => ?_)
                have gx521 := jrg (rfl : x521.toInt = x521.toInt)
                refine lv_istore (lv' := [(7, .int x521), (6, .int x518), (5, .int x501), (4, .int 0), (3, .int x8), (0, .ref (ad 31)), (1, .int a1), (2, .int a2)]) hx hb dX1_grow_138 hl (by decide) rfl (fun ls hl => ?_)
                refine lv_iconst (v := 0) hx hb dX1_grow_140 (by decide) ?_
                refine lv_istore (lv' := [(8, .int 0), (7, .int x521), (6, .int x518), (5, .int x501), (4, .int 0), (3, .int x8), (0, .ref (ad 31)), (1, .int a1), (2, .int a2)]) hx hb dX1_grow_141 hl (by decide) rfl (fun ls hl => ?_)
                have lp522 : ∀ (n523 : Nat) (x524 : Int32) (σ525 : Nat → Nat → Int32) (H : Heap) (locs : List Loc) (ls : Array Slot), (-x524.toInt + 4 : Int) < n523 → 0 ≤ x524.toInt → x524.toInt ≤ 4 → 0 ≤ (σ525 31 8).toInt ∧ (σ525 31 8).toInt ≤ 350 → (∀ i : Nat, (i < 31 ∨ 33 < i) ∧ (i < 36 ∨ 37 < i) → σ525 i = σ505 i) → (∀ k : Nat, (k < 8 ∨ 8 < k) → σ525 31 k = σ505 31 k) → (∀ k : Nat, k < 1400 → (-1) ≤ (σ525 33 k).toInt ∧ (σ525 33 k).toInt ≤ 350) → (∀ k : Nat, k < 1024 → 0 ≤ (σ525 36 k).toInt ∧ (σ525 36 k).toInt ≤ 349) → jH D cI cL ad σ525 τ H → va_S (jA ad) s.heap H locs → lv_has ls 9 [(8, .int x524), (7, .int x521), (6, .int x518), (5, .int x501), (4, .int 0), (3, .int x8), (0, .ref (ad 31)), (1, .int a1), (2, .int a2)] → W p l e ({ frames := 3, cells := 0, slots := 0, locals := 73 }) s m args below meth c H locs 0 0 Q (F0 m 143 ls []) := by
                  intro n523
                  induction n523 with
                  | zero => intro x524 σ525 H locs ls h526 h527 h528 h529; exact absurd h526 (by omega)
                  | succ n523 ihlp522 =>
                    intro x524 σ525 H locs ls h526 h527 h528 h529 f530 f531 w532 w533 hP hS hl
                    refine lv_iload hx hb dX1_grow_143 (lv_at hl 0 rfl) ?_
                    refine lv_iconst (v := 4) hx hb dX1_grow_145 (by decide) ?_
                    refine lv_icmp_ge (tgt := 196) hx hb dX1_grow_146 (by decide) (fun c534 => ?_) (fun c534 => ?_)
                    · have kc534 := jle c534 jz_4 rfl
                      obtain ⟨x535, ex535⟩ : ∃ y : Int32, y = x501 + 1 := ⟨_, rfl⟩
                      have tx535 : x535.toInt = x501.toInt + 1 := (jadd ex535 rfl jz_1 (by omega) (by omega)).trans (by omega)
                      refine lv_iinc (v := x535) (lv' := [(5, .int x535), (8, .int x524), (7, .int x521), (6, .int x518), (4, .int 0), (3, .int x8), (0, .ref (ad 31)), (1, .int a1), (2, .int a2)]) hx hb dX1_grow_196 hl (k := 3) rfl (by rw [ex535]; rfl) (by decide) rfl (fun ls hl => ?_)
                      refine lv_goto (tgt := 99) hx hb dX1_grow_199 (by decide) ?_
                      exact ihlp499 x535 σ525 _ _ ls (by have h90 := tx535; omega) (by have h90 := tx535; omega) (by have h90 := tx535; omega) (by have h90 := tx535; omega) (fun i hi => by rw [f530 i (by omega), f510 i hi]) (fun k hk => by rw [f531 k (by omega), f511 k hk])  w532 w533 hP hS (lv_sub hl [0, 4, 5, 6, 7, 8] rfl)
                    · have kc534 := jnle c534 jz_4 rfl
                      refine lv_aload_n hx hb dX1_grow_149 rfl (lv_at hl 6 rfl) ?_
                      refine va_get (D := D) hx hb hts inlX1 hown hK hP 31 (jc_31 cI cL ad σ525 τ) rfl 3 (by decide) (hts _ kw_5_4) (fun _ h9 => h9) rfl dX1_grow_150 ?_
                      refine lv_iload hx hb dX1_grow_153 (lv_at hl 3 rfl) ?_
                      refine lv_iconst (v := 4) hx hb dX1_grow_155 (by decide) ?_
                      have g536 := jrg (rfl : x501.toInt = x501.toInt)
                      refine lv_imul hx hb dX1_grow_156 ?_
                      refine lv_topi (fun x537 ex537 => ?_)
                      have tx537 : x537.toInt = 4 * x501.toInt := (jmul ex537 rfl jz_4 (by omega) (by omega)).trans (by omega)
                      refine lv_iload hx hb dX1_grow_157 (lv_at hl 0 rfl) ?_
                      have g538 := jrg (rfl : x524.toInt = x524.toInt)
                      refine lv_iadd hx hb dX1_grow_159 ?_
                      refine lv_topi (fun x539 ex539 => ?_)
                      have tx539 : x539.toInt = 4 * x501.toInt + x524.toInt := (jadd ex539 tx537 rfl (by omega) (by omega)).trans (by omega)
                      refine lv_iload hx hb dX1_grow_160 (lv_at hl 2 rfl) ?_
                      refine lv_iload hx hb dX1_grow_162 (lv_at hl 0 rfl) ?_
                      refine jcallS (As := [.int x518, .int x524]) (rest := [.int x539, .ref (ad 33)]) ⟨hx, hb, hml, hown, hts⟩ hK hP hA hS hZ (c_X0_mayBowl l D cI cL ad zz hJ σ525 τ x518 (x518.toInt) rfl x524 (x524.toInt) rfl) cw_RX1_115 ⟨Nat.le_of_ble_eq_true rfl, Nat.le_of_ble_eq_true rfl⟩ rfl rfl rfl hl.1 rfl (Nat.le_of_ble_eq_true rfl) dX1_grow_164 ⟨Nat.zero_le _, Nat.zero_le _⟩ (fun r541 σ540 τ540 H locs h540 hP hS => ?_)
                      obtain ⟨⟨rfl, rfl⟩, h540⟩ := h540
                      refine lv_if_eq (tgt := 188) hx hb dX1_grow_167 (by decide) (fun c542 => ?_) (fun c542 => ?_)
                      · have kc542 := jeq c542 rfl jz_0
                        refine lv_iconst (v := (-1)) hx hb dX1_grow_188 (by decide) ?_
                        refine jast hx hb hK hP hJ hA hS (jc_33 cI cL ad σ525 τ) (ja_33 cI cL ad σ525 τ _ _) (jin tx539 (by omega) (by omega)) dX1_grow_189 (fun σ543 H locs eσ543 hP hS => ?_)
                        obtain ⟨x544, ex544⟩ : ∃ y : Int32, y = x524 + 1 := ⟨_, rfl⟩
                        have tx544 : x544.toInt = x524.toInt + 1 := (jadd ex544 rfl jz_1 (by omega) (by omega)).trans (by omega)
                        refine lv_iinc (v := x544) (lv' := [(8, .int x544), (7, .int x521), (6, .int x518), (5, .int x501), (4, .int 0), (3, .int x8), (0, .ref (ad 31)), (1, .int a1), (2, .int a2)]) hx hb dX1_grow_190 hl (k := 0) rfl (by rw [ex544]; rfl) (by decide) rfl (fun ls hl => ?_)
                        refine lv_goto (tgt := 143) hx hb dX1_grow_193 (by decide) ?_
                        have z545 : (σ543 31 8).toInt = (σ525 31 8).toInt := by rw [(show σ543 31 8 = (σ525 31 8) from (by rw [eσ543, jup_n (by decide)]))]
                        have w546 : ∀ k : Nat, k < 1400 → (-1) ≤ (σ543 33 k).toInt ∧ (σ543 33 k).toInt ≤ 350 := (by rw [eσ543]; exact jrr_up w532 (by have h9 := jz_m1; omega) (by have h9 := jz_m1; omega))
                        have w547 : ∀ k : Nat, k < 1024 → 0 ≤ (σ543 36 k).toInt ∧ (σ543 36 k).toInt ≤ 349 := (by rw [eσ543, jup_n (by decide)]; exact w533)
                        exact ihlp522 x544 σ543 _ _ ls (by have h90 := tx544; omega) (by have h90 := tx544; omega) (by have h90 := tx544; omega) (by have h90 := tx544; omega) (fun i hi => by rw [eσ543, jup_n (by omega), f530 i hi]) (fun k hk => by rw [eσ543, jup_n (by decide), f531 k hk])  w546 w547 hP hS (lv_sub hl [0, 1, 2, 3, 4, 5, 6, 7, 8] rfl)
                      · have kc542 := jne c542 rfl jz_0
                        refine lv_aload_n hx hb dX1_grow_170 rfl (lv_at hl 6 rfl) ?_
                        refine lv_iload hx hb dX1_grow_171 (lv_at hl 2 rfl) ?_
                        refine lv_iload hx hb dX1_grow_173 (lv_at hl 0 rfl) ?_
                        refine jcallS (As := [.int x518, .int x524]) (rest := [.ref (ad 31), .int x539, .ref (ad 33)]) ⟨hx, hb, hml, hown, hts⟩ hK hP hA hS hZ (c_X0_after l D cI cL ad zz hJ σ525 τ x518 (x518.toInt) rfl x524 (x524.toInt) rfl) cw_RX1_119 ⟨Nat.le_of_ble_eq_true rfl, Nat.le_of_ble_eq_true rfl⟩ rfl rfl rfl hl.1 rfl (Nat.le_of_ble_eq_true rfl) dX1_grow_175 ⟨Nat.zero_le _, Nat.zero_le _⟩ (fun r549 σ548 τ548 H locs h548 hP hS => ?_)
                        obtain ⟨⟨rfl, rfl⟩, h548⟩ := h548
                        refine lv_iload hx hb dX1_grow_178 (lv_at hl 1 rfl) ?_
                        refine lv_iconst (v := 1) hx hb dX1_grow_180 (by decide) ?_
                        have g550 := jrg (rfl : x521.toInt = x521.toInt)
                        refine lv_iadd hx hb dX1_grow_181 ?_
                        refine lv_topi (fun x551 ex551 => ?_)
                        have gx551 := jrg (rfl : x551.toInt = x551.toInt)
                        have I552 : jI31 σ525 := ⟨(by omega), w532, w533⟩
                        refine jcallV (As := [.int r549, .int x551]) (rest := [.int x539, .ref (ad 33)]) ⟨hx, hb, hml, hown, hts⟩ hK hP hA hS hZ (c_X1_add_31 l D cI cL ad zz hJ σ525 τ r549 (r549.toInt) rfl x551 (x551.toInt) rfl I552) cw_RX1_111 (jc_31 cI cL ad σ525 τ) rfl ⟨Nat.le_of_ble_eq_true rfl, Nat.le_of_ble_eq_true rfl⟩ rfl rfl rfl hl.1 rfl (Nat.le_of_ble_eq_true rfl) dX1_grow_182 ⟨Nat.zero_le _, Nat.zero_le _⟩ (fun r554 σ553 τ553 H locs h553 hP hS => ?_)
                        obtain ⟨rfl, f555, f556, I557, h553⟩ := h553
                        obtain ⟨i558, w559, w560⟩ : (0 ≤ (σ553 31 8).toInt ∧ (σ553 31 8).toInt ≤ 350) ∧ (∀ k : Nat, k < 1400 → (-1) ≤ (σ553 33 k).toInt ∧ (σ553 33 k).toInt ≤ 350) ∧ (∀ k : Nat, k < 1024 → 0 ≤ (σ553 36 k).toInt ∧ (σ553 36 k).toInt ≤ 349) := id I557
                        have h561 := h553
                        obtain ⟨q563, k562⟩ := h561
                        refine lv_goto (tgt := 189) hx hb dX1_grow_185 (by decide) ?_
                        refine jast hx hb hK hP hJ hA hS (jc_33 cI cL ad σ553 τ) (ja_33 cI cL ad σ553 τ _ _) (jin tx539 (by omega) (by omega)) dX1_grow_189 (fun σ564 H locs eσ564 hP hS => ?_)
                        obtain ⟨x565, ex565⟩ : ∃ y : Int32, y = x524 + 1 := ⟨_, rfl⟩
                        have tx565 : x565.toInt = x524.toInt + 1 := (jadd ex565 rfl jz_1 (by omega) (by omega)).trans (by omega)
                        refine lv_iinc (v := x565) (lv' := [(8, .int x565), (7, .int x521), (6, .int x518), (5, .int x501), (4, .int 0), (3, .int x8), (0, .ref (ad 31)), (1, .int a1), (2, .int a2)]) hx hb dX1_grow_190 hl (k := 0) rfl (by rw [ex565]; rfl) (by decide) rfl (fun ls hl => ?_)
                        refine lv_goto (tgt := 143) hx hb dX1_grow_193 (by decide) ?_
                        have z566 : (σ564 31 8).toInt = (σ553 31 8).toInt := by rw [(show σ564 31 8 = (σ553 31 8) from (by rw [eσ564, jup_n (by decide)]))]
                        have w567 : ∀ k : Nat, k < 1400 → (-1) ≤ (σ564 33 k).toInt ∧ (σ564 33 k).toInt ≤ 350 := (by rw [eσ564]; exact jrr_up w559 (by omega) (by omega))
                        have w568 : ∀ k : Nat, k < 1024 → 0 ≤ (σ564 36 k).toInt ∧ (σ564 36 k).toInt ≤ 349 := (by rw [eσ564, jup_n (by decide)]; exact w560)
                        exact ihlp522 x565 σ564 _ _ ls (by have h90 := tx565; omega) (by have h90 := tx565; omega) (by have h90 := tx565; omega) (by have h90 := tx565; omega) (fun i hi => by rw [eσ564, jup_n (by omega), f555 i (by omega), f530 i hi]) (fun k hk => by rw [eσ564, jup_n (by decide), f556 k (by omega), f531 k hk])  w567 w568 hP hS (lv_sub hl [0, 1, 2, 3, 4, 5, 6, 7, 8] rfl)
                exact lp522 1000000 0 σ505 _ _ ls (by have h90 := jz_0; omega) (by have h90 := jz_0; omega) (by have h90 := jz_0; omega) (by have h90 := jz_0; omega) (fun _ _ => rfl) (fun _ _ => rfl)  w512 w513 hP hS hl
          exact lp499 1000000 0 σ488 _ _ ls (by have h90 := jz_0; omega) (by have h90 := jz_0; omega) (by have h90 := jz_0; omega) (by have h90 := jz_0; omega) (fun _ _ => rfl) (fun _ _ => rfl)  w494 w495 hP hS hl
        · have kc478 := jeq c478 rfl jz_0
          refine lv_aload_n hx hb dX1_grow_57 rfl (lv_at hl 2 rfl) ?_
          refine lv_iload_n hx hb dX1_grow_58 rfl (lv_at hl 4 rfl) ?_
          refine jput (ty := .int) hx hb hts inlX1 tyX1 tyX1_ok nmX1 hown hK hP hJ hA hS (jc_31 cI cL ad σ τ) rfl (k := 10) (by decide) (Nat.le_of_ble_eq_true rfl) (jp_31_10 cI cL ad σ τ a2) (hts _ kw_28_9) (fun _ h9 => h9) rfl (by decide +kernel) rfl rfl dX1_grow_59 (fun σ569 H locs eσ569 hP hS => ?_)
          have z570 : (σ569 31 8).toInt = (σ 31 8).toInt := by rw [(show σ569 31 8 = (σ 31 8) from (by rw [eσ569, jup_k (by decide)]))]
          have w571 : ∀ k : Nat, k < 1400 → (-1) ≤ (σ569 33 k).toInt ∧ (σ569 33 k).toInt ≤ 350 := (by rw [eσ569, jup_n (by decide)]; exact w2)
          have w572 : ∀ k : Nat, k < 1024 → 0 ≤ (σ569 36 k).toInt ∧ (σ569 36 k).toInt ≤ 349 := (by rw [eσ569, jup_n (by decide)]; exact w3)
          have I573 : jI31 σ569 := ⟨(by omega), w571, w572⟩
          exact hret σ569 τ _ _ _ _ ⟨rfl, (fun i hi => by rw [eσ569, jup_n (by omega)]), (fun k hk => by rw [eσ569, jup_k (by omega)]), I573, trivial⟩ hP hS dX1_grow_62
set_option maxHeartbeats 4000000 in
set_option maxRecDepth 100000 in
theorem c_X1_judge_31 (l : Launch) (D : va_G) (cI cL : ClassId) (ad zz : Nat → Nat) (hJ : jD ad) (σ : Nat → Nat → Int32) (τ : Nat → Nat → Int64) (a1 : Int32) (A1 : Int) (t1 : a1.toInt = A1) (a3 : Int32) (A3 : Int) (t3 : a3.toInt = A3) (a4 : Int32) (A4 : Int) (t4 : a4.toInt = A4) (hI16 : jI16 σ) (hI22 : jI22 σ) (hI31 : jI31 σ) (hp0 : 0 ≤ A1 ∧ A1 ≤ 349) : jMv l yX1_judge cX1_judge 18 none ({ frames := 3, cells := 0, slots := 0, locals := 76 }) D cI cL ad zz [.ref (ad 31), .int a1, .ref (ad 17), .int a3, .int a4] σ τ (fun σ' τ' => τ = τ' ∧ (∀ i : Nat, (i < 24 ∨ 25 < i) ∧ (i < 29 ∨ 30 < i) ∧ (i < 34 ∨ 35 < i) → σ' i = σ i) ∧ True) := by
  refine jMv.of hJ (by decide +kernel) rfl (Nat.le_of_ble_eq_true rfl) ?_
  intro p e s m args below meth c Q ls hC hret hl hP
  obtain ⟨hx, hb, hr, hml, hown, hts, hK, -, hlocks, hZ⟩ := hC
  have hown : s.vm.findClass RX1 = some m.cls := hown
  have hS : va_S (jA ad) s.heap s.heap [] := va_S.rf
  have hA : ∀ q, jA ad q → jA ad q := fun _ h => h
  have hl : lv_has ls 18 [(0, .ref (ad 31)), (1, .int a1), (2, .ref (ad 17)), (3, .int a3), (4, .int a4)] := hl
  have g1 := jrg t1
  have g3 := jrg t3
  have g4 := jrg t4
  obtain ⟨i1, i2, i3, w4⟩ : (1 ≤ (σ 16 0).toInt ∧ (σ 16 0).toInt ≤ 8) ∧ (1 ≤ (σ 16 1).toInt ∧ (σ 16 1).toInt ≤ 12) ∧ (0 ≤ (σ 16 2).toInt ∧ (σ 16 2).toInt ≤ 999) ∧ (∀ k : Nat, k < 8 → 0 ≤ (σ 17 k).toInt ∧ (σ 17 k).toInt ≤ 3) := id hI16
  obtain ⟨i5, w6⟩ : (0 ≤ (σ 22 0).toInt ∧ (σ 22 0).toInt ≤ 160) ∧ (∀ k : Nat, k < 160 → 0 ≤ (σ 23 k).toInt ∧ (σ 23 k).toInt ≤ 30000) := id hI22
  obtain ⟨i7, w8, w9⟩ : (0 ≤ (σ 31 8).toInt ∧ (σ 31 8).toInt ≤ 350) ∧ (∀ k : Nat, k < 1400 → (-1) ≤ (σ 33 k).toInt ∧ (σ 33 k).toInt ≤ 350) ∧ (∀ k : Nat, k < 1024 → 0 ≤ (σ 36 k).toInt ∧ (σ 36 k).toInt ≤ 349) := id hI31
  refine lv_aload_n hx hb dX1_judge_0 rfl (lv_at hl 0 rfl) ?_
  refine va_get (D := D) hx hb hts inlX1 hown hK hP 31 (jc_31 cI cL ad σ τ) rfl 2 (by decide) (hts _ kw_5_3) (fun _ h9 => h9) rfl dX1_judge_1 ?_
  refine lv_iload_n hx hb dX1_judge_4 rfl (lv_at hl 1 rfl) ?_
  refine jald hx hb hK hP (jc_32 cI cL ad σ τ) (jin t1 (by omega) (by omega)) dX1_judge_5 ?_
  refine lv_topi (fun x10 ex10 => ?_)
  refine lv_ldc (v := 134217727) hx hb hown (hts _ kw_28_10) dX1_judge_6 ?_
  refine lv_iand hx hb dX1_judge_8 ?_
  refine lv_topi (fun x11 ex11 => ?_)
  have gx11 := jrg (rfl : x11.toInt = x11.toInt)
  have g12 : 0 ≤ x11.toInt ∧ x11.toInt ≤ 134217727 := jmask ex11 27 (by decide) (by decide)
  refine lv_istore (lv' := [(5, .int x11), (0, .ref (ad 31)), (1, .int a1), (2, .ref (ad 17)), (3, .int a3), (4, .int a4)]) hx hb dX1_judge_9 hl (by decide) rfl (fun ls hl => ?_)
  refine lv_aload_n hx hb dX1_judge_11 rfl (lv_at hl 1 rfl) ?_
  refine va_get (D := D) hx hb hts inlX1 hown hK hP 31 (jc_31 cI cL ad σ τ) rfl 2 (by decide) (hts _ kw_5_3) (fun _ h9 => h9) rfl dX1_judge_12 ?_
  refine lv_iload_n hx hb dX1_judge_15 rfl (lv_at hl 2 rfl) ?_
  refine jald hx hb hK hP (jc_32 cI cL ad σ τ) (jin t1 (by omega) (by omega)) dX1_judge_16 ?_
  refine lv_topi (fun x13 ex13 => ?_)
  refine lv_bipush (v := 27) hx hb dX1_judge_17 (by decide) ?_
  refine lv_ishr hx hb dX1_judge_19 ?_
  refine lv_topi (fun x14 ex14 => ?_)
  have gx14 := jrg (rfl : x14.toInt = x14.toInt)
  refine lv_istore (lv' := [(6, .int x14), (5, .int x11), (0, .ref (ad 31)), (1, .int a1), (2, .ref (ad 17)), (3, .int a3), (4, .int a4)]) hx hb dX1_judge_20 hl (by decide) rfl (fun ls hl => ?_)
  refine lv_iload_n hx hb dX1_judge_22 rfl (lv_at hl 3 rfl) ?_
  refine lv_bipush (v := 9) hx hb dX1_judge_23 (by decide) ?_
  refine lv_imul hx hb dX1_judge_25 ?_
  refine lv_topi (fun x15 ex15 => ?_)
  have tx15 : x15.toInt = 9 * A1 := (jmul ex15 t1 jz_9 (by omega) (by omega)).trans (by omega)
  refine lv_istore (lv' := [(7, .int x15), (6, .int x14), (5, .int x11), (0, .ref (ad 31)), (1, .int a1), (2, .ref (ad 17)), (3, .int a3), (4, .int a4)]) hx hb dX1_judge_26 hl (by decide) rfl (fun ls hl => ?_)
  refine lv_iconst (v := 0) hx hb dX1_judge_28 (by decide) ?_
  refine lv_iload_n hx hb dX1_judge_29 rfl (lv_at hl 6 rfl) ?_
  refine va_mmax hx hb (hml.trans hl.1.symm) hown (hts _ kw_28_5) (hts _ kw_21_0) (hts _ kw_21_1) (hts _ kw_21_2) (Nat.le_of_ble_eq_true rfl) (Nat.le_of_ble_eq_true rfl) (Nat.le_of_ble_eq_true rfl) (Nat.le_of_ble_eq_true rfl) dX1_judge_30 ?_
  refine lv_topi (fun x16 ex16 => ?_)
  have g17 := jmax ex16 jz_0 t3
  refine lv_istore (lv' := [(8, .int x16), (7, .int x15), (6, .int x14), (5, .int x11), (0, .ref (ad 31)), (1, .int a1), (2, .ref (ad 17)), (3, .int a3), (4, .int a4)]) hx hb dX1_judge_33 hl (by decide) rfl (fun ls hl => ?_)
  refine lv_iload hx hb dX1_judge_35 (lv_at hl 8 rfl) ?_
  refine lv_aload_n hx hb dX1_judge_37 rfl (lv_at hl 6 rfl) ?_
  refine jalen (v := 8) hx hb hK hP (jc_17 cI cL ad σ τ) (by decide) dX1_judge_38 ?_
  refine lv_iconst (v := 1) hx hb dX1_judge_39 (by decide) ?_
  refine lv_isub hx hb dX1_judge_40 ?_
  refine jtopr (y := 7) (by decide) ?_
  refine va_mmin hx hb (hml.trans hl.1.symm) hown (hts _ kw_28_4) (hts _ kw_22_11) (hts _ kw_21_1) (hts _ kw_22_12) (Nat.le_of_ble_eq_true rfl) (Nat.le_of_ble_eq_true rfl) (Nat.le_of_ble_eq_true rfl) (Nat.le_of_ble_eq_true rfl) dX1_judge_41 ?_
  refine lv_topi (fun x18 ex18 => ?_)
  have g19 := jmin ex18 t4 jz_7
  refine lv_iload_n hx hb dX1_judge_44 rfl (lv_at hl 7 rfl) ?_
  refine lv_iconst (v := 1) hx hb dX1_judge_45 (by decide) ?_
  refine lv_iadd hx hb dX1_judge_46 ?_
  refine lv_topi (fun x20 ex20 => ?_)
  have gx20 := jrg (rfl : x20.toInt = x20.toInt)
  refine lv_iload hx hb dX1_judge_47 (lv_at hl 2 rfl) ?_
  have g21 := jrg (rfl : x20.toInt = x20.toInt)
  have g22 := jrg (rfl : x14.toInt = x14.toInt)
  refine lv_iadd hx hb dX1_judge_49 ?_
  refine lv_topi (fun x23 ex23 => ?_)
  have gx23 := jrg (rfl : x23.toInt = x23.toInt)
  refine va_mmin hx hb (hml.trans hl.1.symm) hown (hts _ kw_28_4) (hts _ kw_22_11) (hts _ kw_21_1) (hts _ kw_22_12) (Nat.le_of_ble_eq_true rfl) (Nat.le_of_ble_eq_true rfl) (Nat.le_of_ble_eq_true rfl) (Nat.le_of_ble_eq_true rfl) dX1_judge_50 ?_
  refine lv_topi (fun x24 ex24 => ?_)
  have g25 := jmin ex24 rfl rfl
  refine lv_istore (lv' := [(9, .int x24), (8, .int x16), (7, .int x15), (6, .int x14), (5, .int x11), (0, .ref (ad 31)), (1, .int a1), (2, .ref (ad 17)), (3, .int a3), (4, .int a4)]) hx hb dX1_judge_53 hl (by decide) rfl (fun ls hl => ?_)
  refine lv_iload hx hb dX1_judge_55 (lv_at hl 1 rfl) ?_
  refine lv_istore (lv' := [(10, .int x16), (9, .int x24), (8, .int x16), (7, .int x15), (6, .int x14), (5, .int x11), (0, .ref (ad 31)), (1, .int a1), (2, .ref (ad 17)), (3, .int a3), (4, .int a4)]) hx hb dX1_judge_57 hl (by decide) rfl (fun ls hl => ?_)
  have lp26 : ∀ (n27 : Nat) (x28 : Int32) (σ29 : Nat → Nat → Int32) (H : Heap) (locs : List Loc) (ls : Array Slot), (-x28.toInt + 3000000000 : Int) < n27 → 0 ≤ x28.toInt → (∀ i : Nat, (i < 34 ∨ 35 < i) → σ29 i = σ i) → jH D cI cL ad σ29 τ H → va_S (jA ad) s.heap H locs → lv_has ls 18 [(10, .int x28), (9, .int x24), (8, .int x16), (7, .int x15), (6, .int x14), (5, .int x11), (0, .ref (ad 31)), (1, .int a1), (2, .ref (ad 17)), (3, .int a3), (4, .int a4)] → W p l e ({ frames := 3, cells := 0, slots := 0, locals := 76 }) s m args below meth c H locs 0 0 Q (F0 m 59 ls []) := by
    intro n27
    induction n27 with
    | zero => intro x28 σ29 H locs ls h30 h31; have gx28 := jrg (rfl : x28.toInt = x28.toInt); exact absurd h30 (by omega)
    | succ n27 ihlp26 =>
      intro x28 σ29 H locs ls h30 h31 f32 hP hS hl
      have gx28 := jrg (rfl : x28.toInt = x28.toInt)
      refine lv_iload hx hb dX1_judge_59 (lv_at hl 0 rfl) ?_
      refine lv_iload hx hb dX1_judge_61 (lv_at hl 1 rfl) ?_
      refine lv_icmp_gt (tgt := 94) hx hb dX1_judge_63 (by decide) (fun c33 => ?_) (fun c33 => ?_)
      · have kc33 := jlt c33 rfl rfl
        refine lv_aload_n hx hb dX1_judge_94 rfl (lv_at hl 6 rfl) ?_
        refine va_get (D := D) hx hb hts inlX1 hown hK hP 31 (jc_31 cI cL ad σ29 τ) rfl 4 (by decide) (hts _ kw_5_5) (fun _ h9 => h9) rfl dX1_judge_95 ?_
        refine lv_iload hx hb dX1_judge_98 (lv_at hl 3 rfl) ?_
        refine lv_aload_n hx hb dX1_judge_100 rfl (lv_at hl 6 rfl) ?_
        refine va_get (D := D) hx hb hts inlX1 hown hK hP 31 (jc_31 cI cL ad σ29 τ) rfl 1 (by decide) (hts _ kw_5_11) (fun _ h9 => h9) rfl dX1_judge_101 ?_
        refine va_get (D := D) hx hb hts inlX6 hown hK hP 16 (jc_16 cI cL ad σ29 τ) rfl 0 (by decide) (hts _ kw_27_17) (fun _ h9 => h9) rfl dX1_judge_104 ?_
        have m34 : σ29 16 0 = (σ 16 0) := (by rw [f32 16 (by omega)])
        refine jtopr m34 ?_
        have g35 := jrg (rfl : (σ 16 0).toInt = (σ 16 0).toInt)
        refine lv_iadd hx hb dX1_judge_107 ?_
        refine lv_topi (fun x36 ex36 => ?_)
        have tx36 : x36.toInt = 9 * A1 + (σ 16 0).toInt := (jadd ex36 tx15 rfl (by omega) (by omega)).trans (by omega)
        refine lv_iconst (v := 0) hx hb dX1_judge_108 (by decide) ?_
        refine jast hx hb hK hP hJ hA hS (jc_34 cI cL ad σ29 τ) (ja_34 cI cL ad σ29 τ _ _) (jin tx36 (by omega) (by omega)) dX1_judge_109 (fun σ37 H locs eσ37 hP hS => ?_)
        refine lv_iconst (v := 0) hx hb dX1_judge_110 (by decide) ?_
        refine lv_istore (lv' := [(10, .int 0), (9, .int x24), (8, .int x16), (7, .int x15), (6, .int x14), (5, .int x11), (0, .ref (ad 31)), (1, .int a1), (2, .ref (ad 17)), (3, .int a3), (4, .int a4)]) hx hb dX1_judge_111 hl (by decide) rfl (fun ls hl => ?_)
        have lp38 : ∀ (n39 : Nat) (x40 : Int32) (σ48 : Nat → Nat → Int32) (H : Heap) (locs : List Loc) (ls : Array Slot), (-x40.toInt + 4 : Int) < n39 → 0 ≤ x40.toInt → x40.toInt ≤ 4 → (∀ i : Nat, (i < 24 ∨ 25 < i) ∧ (i < 29 ∨ 30 < i) ∧ (i < 34 ∨ 35 < i) → σ48 i = σ37 i) → jH D cI cL ad σ48 τ H → va_S (jA ad) s.heap H locs → lv_has ls 18 [(10, .int x40), (9, .int x24), (8, .int x16), (7, .int x15), (6, .int x14), (5, .int x11), (0, .ref (ad 31)), (1, .int a1), (2, .ref (ad 17)), (3, .int a3), (4, .int a4)] → W p l e ({ frames := 3, cells := 0, slots := 0, locals := 76 }) s m args below meth c H locs 0 0 Q (F0 m 113 ls []) := by
          intro n39
          induction n39 with
          | zero => intro x40 σ48 H locs ls h49 h50 h51; exact absurd h49 (by omega)
          | succ n39 ihlp38 =>
            intro x40 σ48 H locs ls h49 h50 h51 f52 hP hS hl
            refine lv_iload hx hb dX1_judge_113 (lv_at hl 0 rfl) ?_
            refine lv_iconst (v := 4) hx hb dX1_judge_115 (by decide) ?_
            refine lv_icmp_ge (tgt := 316) hx hb dX1_judge_116 (by decide) (fun c53 => ?_) (fun c53 => ?_)
            · have kc53 := jle c53 jz_4 rfl
              exact hret σ48 τ _ _ _ _ ⟨rfl, (fun i hi => by rw [f52 i (by omega), eσ37, jup_n (by omega), f32 i (by omega)]), trivial⟩ hP hS dX1_judge_316
            · have kc53 := jnle c53 jz_4 rfl
              refine lv_aload_n hx hb dX1_judge_119 rfl (lv_at hl 6 rfl) ?_
              refine va_get (D := D) hx hb hts inlX1 hown hK hP 31 (jc_31 cI cL ad σ48 τ) rfl 3 (by decide) (hts _ kw_5_4) (fun _ h9 => h9) rfl dX1_judge_120 ?_
              refine lv_iload_n hx hb dX1_judge_123 rfl (lv_at hl 7 rfl) ?_
              refine lv_iconst (v := 4) hx hb dX1_judge_124 (by decide) ?_
              refine lv_imul hx hb dX1_judge_125 ?_
              refine lv_topi (fun x54 ex54 => ?_)
              have tx54 : x54.toInt = 4 * A1 := (jmul ex54 t1 jz_4 (by omega) (by omega)).trans (by omega)
              refine lv_iload hx hb dX1_judge_126 (lv_at hl 0 rfl) ?_
              have g55 := jrg (rfl : x40.toInt = x40.toInt)
              refine lv_iadd hx hb dX1_judge_128 ?_
              refine lv_topi (fun x56 ex56 => ?_)
              have tx56 : x56.toInt = 4 * A1 + x40.toInt := (jadd ex56 tx54 rfl (by omega) (by omega)).trans (by omega)
              refine jald hx hb hK hP (jc_33 cI cL ad σ48 τ) (jin tx56 (by omega) (by omega)) dX1_judge_129 ?_
              have w57 : ∀ k : Nat, k < 1400 → (-1) ≤ (σ48 33 k).toInt ∧ (σ48 33 k).toInt ≤ 350 := (by rw [f52 33 (by omega)]; exact (by rw [eσ37, jup_n (by decide)]; exact (by rw [f32 33 (by omega)]; exact w8)))
              have g58 := w57 _ (jnat (x := x56) tx56 (n := 1400) (by omega) (by decide))
              refine lv_topi (fun x59 ex59 => ?_)
              rw [← ex59] at g58
              refine lv_bipush (v := 9) hx hb dX1_judge_130 (by decide) ?_
              have g60 := jrg (rfl : x59.toInt = x59.toInt)
              refine lv_imul hx hb dX1_judge_132 ?_
              refine lv_topi (fun x61 ex61 => ?_)
              have tx61 : x61.toInt = 9 * x59.toInt := (jmul ex61 rfl jz_9 (by omega) (by omega)).trans (by omega)
              refine lv_istore (lv' := [(11, .int x61), (10, .int x40), (9, .int x24), (8, .int x16), (7, .int x15), (6, .int x14), (5, .int x11), (0, .ref (ad 31)), (1, .int a1), (2, .ref (ad 17)), (3, .int a3), (4, .int a4)]) hx hb dX1_judge_133 hl (by decide) rfl (fun ls hl => ?_)
              refine lv_iload hx hb dX1_judge_135 (lv_at hl 0 rfl) ?_
              refine lv_if_ge (tgt := 143) hx hb dX1_judge_137 (by decide) (fun c62 => ?_) (fun c62 => ?_)
              · have kc62 := jle c62 jz_0 tx61
                refine lv_iload hx hb dX1_judge_143 (lv_at hl 6 rfl) ?_
                refine lv_iload hx hb dX1_judge_145 (lv_at hl 1 rfl) ?_
                refine jcallS (As := [.int x11, .int x40]) (rest := []) ⟨hx, hb, hml, hown, hts⟩ hK hP hA hS hZ (c_X0_steps l D cI cL ad zz hJ σ48 τ x11 (x11.toInt) rfl x40 (x40.toInt) rfl) cw_RX1_136 ⟨Nat.le_of_ble_eq_true rfl, Nat.le_of_ble_eq_true rfl⟩ rfl rfl rfl hl.1 rfl (Nat.le_of_ble_eq_true rfl) dX1_judge_147 ⟨Nat.zero_le _, Nat.zero_le _⟩ (fun r64 σ63 τ63 H locs h63 hP hS => ?_)
                obtain ⟨⟨rfl, rfl⟩, h63⟩ := h63
                refine lv_istore (lv' := [(12, .int r64), (11, .int x61), (10, .int x40), (9, .int x24), (8, .int x16), (7, .int x15), (6, .int x14), (5, .int x11), (0, .ref (ad 31)), (1, .int a1), (2, .ref (ad 17)), (3, .int a3), (4, .int a4)]) hx hb dX1_judge_150 hl (by decide) rfl (fun ls hl => ?_)
                refine lv_iload hx hb dX1_judge_152 (lv_at hl 7 rfl) ?_
                refine lv_iload hx hb dX1_judge_154 (lv_at hl 2 rfl) ?_
                refine jcallS (As := [.int x11, .int x40]) (rest := []) ⟨hx, hb, hml, hown, hts⟩ hK hP hA hS hZ (c_X0_left l D cI cL ad zz hJ σ48 τ x11 (x11.toInt) rfl x40 (x40.toInt) rfl) cw_RX1_123 ⟨Nat.le_of_ble_eq_true rfl, Nat.le_of_ble_eq_true rfl⟩ rfl rfl rfl hl.1 rfl (Nat.le_of_ble_eq_true rfl) dX1_judge_156 ⟨Nat.zero_le _, Nat.zero_le _⟩ (fun r66 σ65 τ65 H locs h65 hP hS => ?_)
                obtain ⟨⟨rfl, rfl⟩, h65⟩ := h65
                refine lv_istore (lv' := [(13, .int r66), (12, .int r64), (11, .int x61), (10, .int x40), (9, .int x24), (8, .int x16), (7, .int x15), (6, .int x14), (5, .int x11), (0, .ref (ad 31)), (1, .int a1), (2, .ref (ad 17)), (3, .int a3), (4, .int a4)]) hx hb dX1_judge_159 hl (by decide) rfl (fun ls hl => ?_)
                refine lv_iload hx hb dX1_judge_161 (lv_at hl 5 rfl) ?_
                refine lv_istore (lv' := [(14, .int x16), (13, .int r66), (12, .int r64), (11, .int x61), (10, .int x40), (9, .int x24), (8, .int x16), (7, .int x15), (6, .int x14), (5, .int x11), (0, .ref (ad 31)), (1, .int a1), (2, .ref (ad 17)), (3, .int a3), (4, .int a4)]) hx hb dX1_judge_163 hl (by decide) rfl (fun ls hl => ?_)
                have lp67 : ∀ (n68 : Nat) (x69 : Int32) (σ73 : Nat → Nat → Int32) (H : Heap) (locs : List Loc) (ls : Array Slot), (-x69.toInt + 3000000000 : Int) < n68 → 0 ≤ x69.toInt → (∀ i : Nat, (i < 24 ∨ 25 < i) ∧ (i < 29 ∨ 30 < i) ∧ (i < 34 ∨ 35 < i) → σ73 i = σ48 i) → jH D cI cL ad σ73 τ H → va_S (jA ad) s.heap H locs → lv_has ls 18 [(14, .int x69), (13, .int r66), (12, .int r64), (11, .int x61), (10, .int x40), (9, .int x24), (8, .int x16), (7, .int x15), (6, .int x14), (5, .int x11), (0, .ref (ad 31)), (1, .int a1), (2, .ref (ad 17)), (3, .int a3), (4, .int a4)] → W p l e ({ frames := 3, cells := 0, slots := 0, locals := 76 }) s m args below meth c H locs 0 0 Q (F0 m 165 ls []) := by
                  intro n68
                  induction n68 with
                  | zero => intro x69 σ73 H locs ls h74 h75; have gx69 := jrg (rfl : x69.toInt = x69.toInt); exact absurd h74 (by omega)
                  | succ n68 ihlp67 =>
                    intro x69 σ73 H locs ls h74 h75 f76 hP hS hl
                    have gx69 := jrg (rfl : x69.toInt = x69.toInt)
                    refine lv_iload hx hb dX1_judge_165 (lv_at hl 0 rfl) ?_
                    refine lv_iload hx hb dX1_judge_167 (lv_at hl 5 rfl) ?_
                    refine lv_icmp_gt (tgt := 310) hx hb dX1_judge_169 (by decide) (fun c77 => ?_) (fun c77 => ?_)
                    · have kc77 := jlt c77 rfl rfl
                      obtain ⟨x78, ex78⟩ : ∃ y : Int32, y = x40 + 1 := ⟨_, rfl⟩
                      have tx78 : x78.toInt = x40.toInt + 1 := (jadd ex78 rfl jz_1 (by omega) (by omega)).trans (by omega)
                      refine lv_iinc (v := x78) (lv' := [(10, .int x78), (14, .int x69), (13, .int r66), (12, .int r64), (11, .int x61), (9, .int x24), (8, .int x16), (7, .int x15), (6, .int x14), (5, .int x11), (0, .ref (ad 31)), (1, .int a1), (2, .ref (ad 17)), (3, .int a3), (4, .int a4)]) hx hb dX1_judge_310 hl (k := 4) rfl (by rw [ex78]; rfl) (by decide) rfl (fun ls hl => ?_)
                      refine lv_goto (tgt := 113) hx hb dX1_judge_313 (by decide) ?_
                      exact ihlp38 x78 σ73 _ _ ls (by have h90 := tx78; omega) (by have h90 := tx78; omega) (by have h90 := tx78; omega) (fun i hi => by rw [f76 i (by omega), f52 i hi])    hP hS (lv_sub hl [0, 5, 6, 7, 8, 9, 10, 11, 12, 13, 14] rfl)
                    · have kc77 := jnlt c77 rfl rfl
                      refine lv_aload_n hx hb dX1_judge_172 rfl (lv_at hl 10 rfl) ?_
                      refine va_get (D := D) hx hb hts inlX1 hown hK hP 31 (jc_31 cI cL ad σ73 τ) rfl 0 (by decide) (hts _ kw_5_10) (fun _ h9 => h9) rfl dX1_judge_173 ?_
                      refine lv_iload hx hb dX1_judge_176 (lv_at hl 4 rfl) ?_
                      refine lv_aload_n hx hb dX1_judge_178 rfl (lv_at hl 12 rfl) ?_
                      refine lv_iload hx hb dX1_judge_179 (lv_at hl 0 rfl) ?_
                      refine jald hx hb hK hP (jc_17 cI cL ad σ73 τ) (jin rfl (by omega) (by omega)) dX1_judge_181 ?_
                      have w79 : ∀ k : Nat, k < 8 → 0 ≤ (σ73 17 k).toInt ∧ (σ73 17 k).toInt ≤ 3 := (by rw [f76 17 (by omega)]; exact (by rw [f52 17 (by omega)]; exact (by rw [eσ37, jup_n (by decide)]; exact (by rw [f32 17 (by omega)]; exact w4))))
                      have g80 := w79 _ (jnat (x := x69) rfl (n := 8) (by omega) (by decide))
                      refine lv_topi (fun x81 ex81 => ?_)
                      rw [← ex81] at g80
                      refine lv_iload hx hb dX1_judge_182 (lv_at hl 2 rfl) ?_
                      refine jcallV (As := [.int x40, .int x81, .int r64]) (rest := []) ⟨hx, hb, hml, hown, hts⟩ hK hP hA hS hZ (c_X5_runsOf_26 l D cI cL ad zz hJ σ73 τ x40 (x40.toInt) rfl x81 (x81.toInt) rfl r64 (r64.toInt) rfl) cw_RX1_139 (jc_26 cI cL ad σ73 τ) rfl ⟨Nat.le_of_ble_eq_true rfl, Nat.le_of_ble_eq_true rfl⟩ rfl rfl rfl hl.1 rfl (Nat.le_of_ble_eq_true rfl) dX1_judge_184 ⟨Nat.zero_le _, Nat.zero_le _⟩ (fun r83 σ82 τ82 H locs h82 hP hS => ?_)
                      obtain ⟨⟨rfl, rfl⟩, h82⟩ := h82
                      refine lv_istore (lv' := [(15, .int r83), (14, .int x69), (13, .int r66), (12, .int r64), (11, .int x61), (10, .int x40), (9, .int x24), (8, .int x16), (7, .int x15), (6, .int x14), (5, .int x11), (0, .ref (ad 31)), (1, .int a1), (2, .ref (ad 17)), (3, .int a3), (4, .int a4)]) hx hb dX1_judge_187 hl (by decide) rfl (fun ls hl => ?_)
                      refine lv_aload_n hx hb dX1_judge_189 rfl (lv_at hl 11 rfl) ?_
                      refine va_get (D := D) hx hb hts inlX1 hown hK hP 31 (jc_31 cI cL ad σ73 τ) rfl 0 (by decide) (hts _ kw_5_10) (fun _ h9 => h9) rfl dX1_judge_190 ?_
                      refine lv_iload hx hb dX1_judge_193 (lv_at hl 5 rfl) ?_
                      refine lv_aload_n hx hb dX1_judge_195 rfl (lv_at hl 13 rfl) ?_
                      refine lv_iload hx hb dX1_judge_196 (lv_at hl 1 rfl) ?_
                      refine jald hx hb hK hP (jc_17 cI cL ad σ73 τ) (jin rfl (by omega) (by omega)) dX1_judge_198 ?_
                      have g84 := w79 _ (jnat (x := x69) rfl (n := 8) (by omega) (by decide))
                      refine lv_topi (fun x85 ex85 => ?_)
                      rw [← ex85] at g84
                      refine lv_iload hx hb dX1_judge_199 (lv_at hl 3 rfl) ?_
                      refine lv_iload hx hb dX1_judge_201 (lv_at hl 2 rfl) ?_
                      refine lv_aload_n hx hb dX1_judge_203 rfl (lv_at hl 11 rfl) ?_
                      refine va_get (D := D) hx hb hts inlX1 hown hK hP 31 (jc_31 cI cL ad σ73 τ) rfl 10 (by decide) (hts _ kw_28_9) (fun _ h9 => h9) rfl dX1_judge_204 ?_
                      have m86 : σ73 31 10 = (σ 31 10) := (by rw [f76 31 (by omega)]; exact (by rw [f52 31 (by omega)]; exact (by rw [eσ37, jup_n (by decide)]; exact (by rw [f32 31 (by omega)]))))
                      refine jtopr m86 ?_
                      refine lv_iload hx hb dX1_judge_207 (lv_at hl 9 rfl) ?_
                      have g87 := jrg (rfl : (σ 31 10).toInt = (σ 31 10).toInt)
                      refine lv_iadd hx hb dX1_judge_209 ?_
                      refine lv_topi (fun x88 ex88 => ?_)
                      have gx88 := jrg (rfl : x88.toInt = x88.toInt)
                      refine lv_iload hx hb dX1_judge_210 (lv_at hl 1 rfl) ?_
                      have z89 : (σ73 22 0).toInt = (σ 22 0).toInt := by rw [(show σ73 22 0 = (σ 22 0) from (by rw [f76 22 (by omega)]; exact (by rw [f52 22 (by omega)]; exact (by rw [eσ37, jup_n (by decide)]; exact (by rw [f32 22 (by omega)])))))]
                      have w90 : ∀ k : Nat, k < 160 → 0 ≤ (σ73 23 k).toInt ∧ (σ73 23 k).toInt ≤ 30000 := (by rw [f76 23 (by omega)]; exact (by rw [f52 23 (by omega)]; exact (by rw [eσ37, jup_n (by decide)]; exact (by rw [f32 23 (by omega)]; exact w6))))
                      have I91 : jI22 σ73 := ⟨(by omega), w90⟩
                      refine jcallV (As := [.int x40, .int x85, .int r64, .int r66, .int x88, .int x69]) (rest := []) ⟨hx, hb, hml, hown, hts⟩ hK hP hA hS hZ (c_X5_outOf_26 l D cI cL ad zz hJ σ73 τ x40 (x40.toInt) rfl x85 (x85.toInt) rfl r64 (r64.toInt) rfl r66 (r66.toInt) rfl x88 (x88.toInt) rfl x69 (x69.toInt) rfl I91) cw_RX1_142 (jc_26 cI cL ad σ73 τ) rfl ⟨Nat.le_of_ble_eq_true rfl, Nat.le_of_ble_eq_true rfl⟩ rfl rfl rfl hl.1 rfl (Nat.le_of_ble_eq_true rfl) dX1_judge_212 ⟨Nat.zero_le _, Nat.zero_le _⟩ (fun r93 σ92 τ92 H locs h92 hP hS => ?_)
                      obtain ⟨rfl, f94, h92⟩ := h92
                      refine lv_istore (lv' := [(16, .int r93), (15, .int r83), (14, .int x69), (13, .int r66), (12, .int r64), (11, .int x61), (10, .int x40), (9, .int x24), (8, .int x16), (7, .int x15), (6, .int x14), (5, .int x11), (0, .ref (ad 31)), (1, .int a1), (2, .ref (ad 17)), (3, .int a3), (4, .int a4)]) hx hb dX1_judge_215 hl (by decide) rfl (fun ls hl => ?_)
                      refine lv_aload_n hx hb dX1_judge_217 rfl (lv_at hl 12 rfl) ?_
                      refine va_get (D := D) hx hb hts inlX1 hown hK hP 31 (jc_31 cI cL ad σ92 τ) rfl 1 (by decide) (hts _ kw_5_11) (fun _ h9 => h9) rfl dX1_judge_218 ?_
                      refine lv_iload hx hb dX1_judge_221 (lv_at hl 1 rfl) ?_
                      refine lv_iload hx hb dX1_judge_223 (lv_at hl 0 rfl) ?_
                      refine lv_aload_n hx hb dX1_judge_225 rfl (lv_at hl 12 rfl) ?_
                      refine va_get (D := D) hx hb hts inlX1 hown hK hP 31 (jc_31 cI cL ad σ92 τ) rfl 4 (by decide) (hts _ kw_5_5) (fun _ h9 => h9) rfl dX1_judge_226 ?_
                      refine lv_iload hx hb dX1_judge_229 (lv_at hl 5 rfl) ?_
                      refine lv_iload hx hb dX1_judge_231 (lv_at hl 2 rfl) ?_
                      have g95 := jrg (rfl : x69.toInt = x69.toInt)
                      refine lv_iadd hx hb dX1_judge_233 ?_
                      refine lv_topi (fun x96 ex96 => ?_)
                      have tx96 : x96.toInt = 9 * x59.toInt + x69.toInt := (jadd ex96 tx61 rfl (by omega) (by omega)).trans (by omega)
                      refine lv_iconst (v := 1) hx hb dX1_judge_234 (by decide) ?_
                      refine lv_iadd hx hb dX1_judge_235 ?_
                      refine lv_topi (fun x97 ex97 => ?_)
                      have tx97 : x97.toInt = 9 * x59.toInt + x69.toInt + 1 := (jadd ex97 tx96 jz_1 (by omega) (by omega)).trans (by omega)
                      refine jald hx hb hK hP (jc_34 cI cL ad σ92 τ) (jin tx97 (by omega) (by omega)) dX1_judge_236 ?_
                      refine lv_topi (fun x98 ex98 => ?_)
                      refine lv_aload_n hx hb dX1_judge_237 rfl (lv_at hl 12 rfl) ?_
                      refine va_get (D := D) hx hb hts inlX1 hown hK hP 31 (jc_31 cI cL ad σ92 τ) rfl 4 (by decide) (hts _ kw_5_5) (fun _ h9 => h9) rfl dX1_judge_238 ?_
                      refine lv_iload hx hb dX1_judge_241 (lv_at hl 5 rfl) ?_
                      refine lv_iload hx hb dX1_judge_243 (lv_at hl 2 rfl) ?_
                      refine lv_iadd hx hb dX1_judge_245 ?_
                      refine lv_topi (fun x99 ex99 => ?_)
                      have tx99 : x99.toInt = 9 * x59.toInt + x69.toInt := (jadd ex99 tx61 rfl (by omega) (by omega)).trans (by omega)
                      refine jald hx hb hK hP (jc_34 cI cL ad σ92 τ) (jin tx99 (by omega) (by omega)) dX1_judge_246 ?_
                      refine lv_topi (fun x100 ex100 => ?_)
                      refine jcallV (As := [.int r83, .int r93, .int x98, .int x100]) (rest := []) ⟨hx, hb, hml, hown, hts⟩ hK hP hA hS hZ (c_X6_meanOf_16 l D cI cL ad zz hJ σ92 τ r83 (r83.toInt) rfl r93 (r93.toInt) rfl x98 (x98.toInt) rfl x100 (x100.toInt) rfl) cw_RX1_146 (jc_16 cI cL ad σ92 τ) rfl ⟨Nat.le_of_ble_eq_true rfl, Nat.le_of_ble_eq_true rfl⟩ rfl rfl rfl hl.1 rfl (Nat.le_of_ble_eq_true rfl) dX1_judge_247 ⟨Nat.zero_le _, Nat.zero_le _⟩ (fun r102 σ101 τ101 H locs h101 hP hS => ?_)
                      obtain ⟨⟨rfl, rfl⟩, h101⟩ := h101
                      refine lv_istore (lv' := [(17, .int r102), (16, .int r93), (15, .int r83), (14, .int x69), (13, .int r66), (12, .int r64), (11, .int x61), (10, .int x40), (9, .int x24), (8, .int x16), (7, .int x15), (6, .int x14), (5, .int x11), (0, .ref (ad 31)), (1, .int a1), (2, .ref (ad 17)), (3, .int a3), (4, .int a4)]) hx hb dX1_judge_250 hl (by decide) rfl (fun ls hl => ?_)
                      refine lv_aload_n hx hb dX1_judge_252 rfl (lv_at hl 13 rfl) ?_
                      refine va_get (D := D) hx hb hts inlX1 hown hK hP 31 (jc_31 cI cL ad σ92 τ) rfl 5 (by decide) (hts _ kw_5_6) (fun _ h9 => h9) rfl dX1_judge_253 ?_
                      refine lv_iload hx hb dX1_judge_256 (lv_at hl 10 rfl) ?_
                      refine lv_iload hx hb dX1_judge_258 (lv_at hl 3 rfl) ?_
                      refine lv_iadd hx hb dX1_judge_260 ?_
                      refine lv_topi (fun x103 ex103 => ?_)
                      have tx103 : x103.toInt = 9 * A1 + x69.toInt := (jadd ex103 tx15 rfl (by omega) (by omega)).trans (by omega)
                      refine jald hx hb hK hP (jc_35 cI cL ad σ92 τ) (jin tx103 (by omega) (by omega)) dX1_judge_261 ?_
                      refine lv_topi (fun x104 ex104 => ?_)
                      refine lv_if_lt (tgt := 280) hx hb dX1_judge_262 (by decide) (fun c105 => ?_) (fun c105 => ?_)
                      · have kc105 := jlt c105 rfl jz_0
                        refine lv_aload_n hx hb dX1_judge_280 rfl (lv_at hl 13 rfl) ?_
                        refine va_get (D := D) hx hb hts inlX1 hown hK hP 31 (jc_31 cI cL ad σ92 τ) rfl 4 (by decide) (hts _ kw_5_5) (fun _ h9 => h9) rfl dX1_judge_281 ?_
                        refine lv_iload hx hb dX1_judge_284 (lv_at hl 10 rfl) ?_
                        refine lv_iload hx hb dX1_judge_286 (lv_at hl 3 rfl) ?_
                        refine lv_iadd hx hb dX1_judge_288 ?_
                        refine lv_topi (fun x106 ex106 => ?_)
                        have tx106 : x106.toInt = 9 * A1 + x69.toInt := (jadd ex106 tx15 rfl (by omega) (by omega)).trans (by omega)
                        refine lv_iload hx hb dX1_judge_289 (lv_at hl 0 rfl) ?_
                        refine jast hx hb hK hP hJ hA hS (jc_34 cI cL ad σ92 τ) (ja_34 cI cL ad σ92 τ _ _) (jin tx106 (by omega) (by omega)) dX1_judge_291 (fun σ107 H locs eσ107 hP hS => ?_)
                        refine lv_aload_n hx hb dX1_judge_292 rfl (lv_at hl 13 rfl) ?_
                        refine va_get (D := D) hx hb hts inlX1 hown hK hP 31 (jc_31 cI cL ad σ107 τ) rfl 5 (by decide) (hts _ kw_5_6) (fun _ h9 => h9) rfl dX1_judge_293 ?_
                        refine lv_iload hx hb dX1_judge_296 (lv_at hl 10 rfl) ?_
                        refine lv_iload hx hb dX1_judge_298 (lv_at hl 3 rfl) ?_
                        refine lv_iadd hx hb dX1_judge_300 ?_
                        refine lv_topi (fun x108 ex108 => ?_)
                        have tx108 : x108.toInt = 9 * A1 + x69.toInt := (jadd ex108 tx15 rfl (by omega) (by omega)).trans (by omega)
                        refine lv_iload hx hb dX1_judge_301 (lv_at hl 7 rfl) ?_
                        refine jast hx hb hK hP hJ hA hS (jc_35 cI cL ad σ107 τ) (ja_35 cI cL ad σ107 τ _ _) (jin tx108 (by omega) (by omega)) dX1_judge_303 (fun σ109 H locs eσ109 hP hS => ?_)
                        obtain ⟨x110, ex110⟩ : ∃ y : Int32, y = x69 + 1 := ⟨_, rfl⟩
                        have tx110 : x110.toInt = x69.toInt + 1 := (jadd ex110 rfl jz_1 (by omega) (by omega)).trans (by omega)
                        refine lv_iinc (v := x110) (lv' := [(14, .int x110), (17, .int r102), (16, .int r93), (15, .int r83), (13, .int r66), (12, .int r64), (11, .int x61), (10, .int x40), (9, .int x24), (8, .int x16), (7, .int x15), (6, .int x14), (5, .int x11), (0, .ref (ad 31)), (1, .int a1), (2, .ref (ad 17)), (3, .int a3), (4, .int a4)]) hx hb dX1_judge_304 hl (k := 3) rfl (by rw [ex110]; rfl) (by decide) rfl (fun ls hl => ?_)
                        refine lv_goto (tgt := 165) hx hb dX1_judge_307 (by decide) ?_
                        exact ihlp67 x110 σ109 _ _ ls (by have h90 := tx110; omega) (by have h90 := tx110; omega) (fun i hi => by rw [eσ109, jup_n (by omega), eσ107, jup_n (by omega), f94 i (by omega), f76 i hi])    hP hS (lv_sub hl [0, 4, 5, 6, 7, 8, 9, 10, 11, 12, 13, 14, 15, 16, 17] rfl)
                      · have kc105 := jnlt c105 rfl jz_0
                        refine lv_iload hx hb dX1_judge_265 (lv_at hl 0 rfl) ?_
                        refine lv_aload_n hx hb dX1_judge_267 rfl (lv_at hl 13 rfl) ?_
                        refine va_get (D := D) hx hb hts inlX1 hown hK hP 31 (jc_31 cI cL ad σ92 τ) rfl 4 (by decide) (hts _ kw_5_5) (fun _ h9 => h9) rfl dX1_judge_268 ?_
                        refine lv_iload hx hb dX1_judge_271 (lv_at hl 10 rfl) ?_
                        refine lv_iload hx hb dX1_judge_273 (lv_at hl 3 rfl) ?_
                        refine lv_iadd hx hb dX1_judge_275 ?_
                        refine lv_topi (fun x111 ex111 => ?_)
                        have tx111 : x111.toInt = 9 * A1 + x69.toInt := (jadd ex111 tx15 rfl (by omega) (by omega)).trans (by omega)
                        refine jald hx hb hK hP (jc_34 cI cL ad σ92 τ) (jin tx111 (by omega) (by omega)) dX1_judge_276 ?_
                        refine lv_topi (fun x112 ex112 => ?_)
                        refine lv_icmp_ge (tgt := 304) hx hb dX1_judge_277 (by decide) (fun c113 => ?_) (fun c113 => ?_)
                        · have kc113 := jle c113 rfl rfl
                          obtain ⟨x114, ex114⟩ : ∃ y : Int32, y = x69 + 1 := ⟨_, rfl⟩
                          have tx114 : x114.toInt = x69.toInt + 1 := (jadd ex114 rfl jz_1 (by omega) (by omega)).trans (by omega)
                          refine lv_iinc (v := x114) (lv' := [(14, .int x114), (17, .int r102), (16, .int r93), (15, .int r83), (13, .int r66), (12, .int r64), (11, .int x61), (10, .int x40), (9, .int x24), (8, .int x16), (7, .int x15), (6, .int x14), (5, .int x11), (0, .ref (ad 31)), (1, .int a1), (2, .ref (ad 17)), (3, .int a3), (4, .int a4)]) hx hb dX1_judge_304 hl (k := 3) rfl (by rw [ex114]; rfl) (by decide) rfl (fun ls hl => ?_)
                          refine lv_goto (tgt := 165) hx hb dX1_judge_307 (by decide) ?_
                          exact ihlp67 x114 σ92 _ _ ls (by have h90 := tx114; omega) (by have h90 := tx114; omega) (fun i hi => by rw [f94 i (by omega), f76 i hi])    hP hS (lv_sub hl [0, 4, 5, 6, 7, 8, 9, 10, 11, 12, 13, 14, 15, 16, 17] rfl)
                        · have kc113 := jnle c113 rfl rfl
                          refine lv_aload_n hx hb dX1_judge_280 rfl (lv_at hl 13 rfl) ?_
                          refine va_get (D := D) hx hb hts inlX1 hown hK hP 31 (jc_31 cI cL ad σ92 τ) rfl 4 (by decide) (hts _ kw_5_5) (fun _ h9 => h9) rfl dX1_judge_281 ?_
                          refine lv_iload hx hb dX1_judge_284 (lv_at hl 10 rfl) ?_
                          refine lv_iload hx hb dX1_judge_286 (lv_at hl 3 rfl) ?_
                          refine lv_iadd hx hb dX1_judge_288 ?_
                          refine lv_topi (fun x115 ex115 => ?_)
                          have tx115 : x115.toInt = 9 * A1 + x69.toInt := (jadd ex115 tx15 rfl (by omega) (by omega)).trans (by omega)
                          refine lv_iload hx hb dX1_judge_289 (lv_at hl 0 rfl) ?_
                          refine jast hx hb hK hP hJ hA hS (jc_34 cI cL ad σ92 τ) (ja_34 cI cL ad σ92 τ _ _) (jin tx115 (by omega) (by omega)) dX1_judge_291 (fun σ116 H locs eσ116 hP hS => ?_)
                          refine lv_aload_n hx hb dX1_judge_292 rfl (lv_at hl 13 rfl) ?_
                          refine va_get (D := D) hx hb hts inlX1 hown hK hP 31 (jc_31 cI cL ad σ116 τ) rfl 5 (by decide) (hts _ kw_5_6) (fun _ h9 => h9) rfl dX1_judge_293 ?_
                          refine lv_iload hx hb dX1_judge_296 (lv_at hl 10 rfl) ?_
                          refine lv_iload hx hb dX1_judge_298 (lv_at hl 3 rfl) ?_
                          refine lv_iadd hx hb dX1_judge_300 ?_
                          refine lv_topi (fun x117 ex117 => ?_)
                          have tx117 : x117.toInt = 9 * A1 + x69.toInt := (jadd ex117 tx15 rfl (by omega) (by omega)).trans (by omega)
                          refine lv_iload hx hb dX1_judge_301 (lv_at hl 7 rfl) ?_
                          refine jast hx hb hK hP hJ hA hS (jc_35 cI cL ad σ116 τ) (ja_35 cI cL ad σ116 τ _ _) (jin tx117 (by omega) (by omega)) dX1_judge_303 (fun σ118 H locs eσ118 hP hS => ?_)
                          obtain ⟨x119, ex119⟩ : ∃ y : Int32, y = x69 + 1 := ⟨_, rfl⟩
                          have tx119 : x119.toInt = x69.toInt + 1 := (jadd ex119 rfl jz_1 (by omega) (by omega)).trans (by omega)
                          refine lv_iinc (v := x119) (lv' := [(14, .int x119), (17, .int r102), (16, .int r93), (15, .int r83), (13, .int r66), (12, .int r64), (11, .int x61), (10, .int x40), (9, .int x24), (8, .int x16), (7, .int x15), (6, .int x14), (5, .int x11), (0, .ref (ad 31)), (1, .int a1), (2, .ref (ad 17)), (3, .int a3), (4, .int a4)]) hx hb dX1_judge_304 hl (k := 3) rfl (by rw [ex119]; rfl) (by decide) rfl (fun ls hl => ?_)
                          refine lv_goto (tgt := 165) hx hb dX1_judge_307 (by decide) ?_
                          exact ihlp67 x119 σ118 _ _ ls (by have h90 := tx119; omega) (by have h90 := tx119; omega) (fun i hi => by rw [eσ118, jup_n (by omega), eσ116, jup_n (by omega), f94 i (by omega), f76 i hi])    hP hS (lv_sub hl [0, 4, 5, 6, 7, 8, 9, 10, 11, 12, 13, 14, 15, 16, 17] rfl)
                exact lp67 3000000001 x16 σ48 _ _ ls (by omega) (by omega) (fun _ _ => rfl)   hP hS hl
              · have kc62 := jnle c62 jz_0 tx61
                refine lv_goto (tgt := 310) hx hb dX1_judge_140 (by decide) ?_
                obtain ⟨x120, ex120⟩ : ∃ y : Int32, y = x40 + 1 := ⟨_, rfl⟩
                have tx120 : x120.toInt = x40.toInt + 1 := (jadd ex120 rfl jz_1 (by omega) (by omega)).trans (by omega)
                refine lv_iinc (v := x120) (lv' := [(10, .int x120), (11, .int x61), (9, .int x24), (8, .int x16), (7, .int x15), (6, .int x14), (5, .int x11), (0, .ref (ad 31)), (1, .int a1), (2, .ref (ad 17)), (3, .int a3), (4, .int a4)]) hx hb dX1_judge_310 hl (k := 1) rfl (by rw [ex120]; rfl) (by decide) rfl (fun ls hl => ?_)
                refine lv_goto (tgt := 113) hx hb dX1_judge_313 (by decide) ?_
                exact ihlp38 x120 σ48 _ _ ls (by have h90 := tx120; omega) (by have h90 := tx120; omega) (by have h90 := tx120; omega) (fun i hi => by rw [f52 i hi])    hP hS (lv_sub hl [0, 2, 3, 4, 5, 6, 7, 8, 9, 10, 11] rfl)
        exact lp38 1000000 0 σ37 _ _ ls (by have h90 := jz_0; omega) (by have h90 := jz_0; omega) (by have h90 := jz_0; omega) (fun _ _ => rfl)   hP hS hl
      · have kc33 := jnlt c33 rfl rfl
        refine lv_aload_n hx hb dX1_judge_66 rfl (lv_at hl 6 rfl) ?_
        refine va_get (D := D) hx hb hts inlX1 hown hK hP 31 (jc_31 cI cL ad σ29 τ) rfl 4 (by decide) (hts _ kw_5_5) (fun _ h9 => h9) rfl dX1_judge_67 ?_
        refine lv_iload hx hb dX1_judge_70 (lv_at hl 3 rfl) ?_
        refine lv_iload hx hb dX1_judge_72 (lv_at hl 0 rfl) ?_
        have g121 := jrg (rfl : x28.toInt = x28.toInt)
        refine lv_iadd hx hb dX1_judge_74 ?_
        refine lv_topi (fun x122 ex122 => ?_)
        have tx122 : x122.toInt = 9 * A1 + x28.toInt := (jadd ex122 tx15 rfl (by omega) (by omega)).trans (by omega)
        refine lv_iconst (v := 0) hx hb dX1_judge_75 (by decide) ?_
        refine jast hx hb hK hP hJ hA hS (jc_34 cI cL ad σ29 τ) (ja_34 cI cL ad σ29 τ _ _) (jin tx122 (by omega) (by omega)) dX1_judge_76 (fun σ123 H locs eσ123 hP hS => ?_)
        refine lv_aload_n hx hb dX1_judge_77 rfl (lv_at hl 6 rfl) ?_
        refine va_get (D := D) hx hb hts inlX1 hown hK hP 31 (jc_31 cI cL ad σ123 τ) rfl 5 (by decide) (hts _ kw_5_6) (fun _ h9 => h9) rfl dX1_judge_78 ?_
        refine lv_iload hx hb dX1_judge_81 (lv_at hl 3 rfl) ?_
        refine lv_iload hx hb dX1_judge_83 (lv_at hl 0 rfl) ?_
        refine lv_iadd hx hb dX1_judge_85 ?_
        refine lv_topi (fun x124 ex124 => ?_)
        have tx124 : x124.toInt = 9 * A1 + x28.toInt := (jadd ex124 tx15 rfl (by omega) (by omega)).trans (by omega)
        refine lv_iconst (v := (-1)) hx hb dX1_judge_86 (by decide) ?_
        refine jast hx hb hK hP hJ hA hS (jc_35 cI cL ad σ123 τ) (ja_35 cI cL ad σ123 τ _ _) (jin tx124 (by omega) (by omega)) dX1_judge_87 (fun σ125 H locs eσ125 hP hS => ?_)
        obtain ⟨x126, ex126⟩ : ∃ y : Int32, y = x28 + 1 := ⟨_, rfl⟩
        have tx126 : x126.toInt = x28.toInt + 1 := (jadd ex126 rfl jz_1 (by omega) (by omega)).trans (by omega)
        refine lv_iinc (v := x126) (lv' := [(10, .int x126), (9, .int x24), (8, .int x16), (7, .int x15), (6, .int x14), (5, .int x11), (0, .ref (ad 31)), (1, .int a1), (2, .ref (ad 17)), (3, .int a3), (4, .int a4)]) hx hb dX1_judge_88 hl (k := 0) rfl (by rw [ex126]; rfl) (by decide) rfl (fun ls hl => ?_)
        refine lv_goto (tgt := 59) hx hb dX1_judge_91 (by decide) ?_
        exact ihlp26 x126 σ125 _ _ ls (by have h90 := tx126; omega) (by have h90 := tx126; omega) (fun i hi => by rw [eσ125, jup_n (by omega), eσ123, jup_n (by omega), f32 i hi])    hP hS (lv_sub hl [0, 1, 2, 3, 4, 5, 6, 7, 8, 9, 10] rfl)
  exact lp26 3000000001 x16 σ _ _ ls (by omega) (by omega) (fun _ _ => rfl)   hP hS hl
set_option maxHeartbeats 4000000 in
set_option maxRecDepth 100000 in
theorem c_X1_seekFor_31 (l : Launch) (D : va_G) (cI cL : ClassId) (ad zz : Nat → Nat) (hJ : jD ad) (σ : Nat → Nat → Int32) (τ : Nat → Nat → Int64) (a2 : Int32) (A2 : Int) (t2 : a2.toInt = A2) (a3 : Int32) (A3 : Int) (t3 : a3.toInt = A3) (a4 : Int32) (A4 : Int) (t4 : a4.toInt = A4) (a5 : Int32) (A5 : Int) (t5 : a5.toInt = A5) (hI16 : jI16 σ) (hI22 : jI22 σ) (hI31 : jI31 σ) : jMv l yX1_seekFor cX1_seekFor 7 none ({ frames := 4, cells := 0, slots := 0, locals := 113 }) D cI cL ad zz [.ref (ad 31), .ref (ad 17), .int a2, .int a3, .int a4, .int a5] σ τ (fun σ' τ' => τ = τ' ∧ (∀ i : Nat, (i < 24 ∨ 25 < i) ∧ (i < 29 ∨ 37 < i) → σ' i = σ i) ∧ (∀ k : Nat, (k < 8 ∨ 8 < k) ∧ (k < 9 ∨ 9 < k) ∧ (k < 10 ∨ 10 < k) ∧ (k < 11 ∨ 11 < k) ∧ (k < 12 ∨ 12 < k) → σ' 31 k = σ 31 k) ∧ (jI31 σ') ∧ True) := by
  refine jMv.of hJ (by decide +kernel) rfl (Nat.le_of_ble_eq_true rfl) ?_
  intro p e s m args below meth c Q ls hC hret hl hP
  obtain ⟨hx, hb, hr, hml, hown, hts, hK, -, hlocks, hZ⟩ := hC
  have hown : s.vm.findClass RX1 = some m.cls := hown
  have hS : va_S (jA ad) s.heap s.heap [] := va_S.rf
  have hA : ∀ q, jA ad q → jA ad q := fun _ h => h
  have hl : lv_has ls 7 [(0, .ref (ad 31)), (1, .ref (ad 17)), (2, .int a2), (3, .int a3), (4, .int a4), (5, .int a5)] := hl
  have g2 := jrg t2
  have g3 := jrg t3
  have g4 := jrg t4
  have g5 := jrg t5
  obtain ⟨i1, i2, i3, w4⟩ : (1 ≤ (σ 16 0).toInt ∧ (σ 16 0).toInt ≤ 8) ∧ (1 ≤ (σ 16 1).toInt ∧ (σ 16 1).toInt ≤ 12) ∧ (0 ≤ (σ 16 2).toInt ∧ (σ 16 2).toInt ≤ 999) ∧ (∀ k : Nat, k < 8 → 0 ≤ (σ 17 k).toInt ∧ (σ 17 k).toInt ≤ 3) := id hI16
  obtain ⟨i5, w6⟩ : (0 ≤ (σ 22 0).toInt ∧ (σ 22 0).toInt ≤ 160) ∧ (∀ k : Nat, k < 160 → 0 ≤ (σ 23 k).toInt ∧ (σ 23 k).toInt ≤ 30000) := id hI22
  obtain ⟨i7, w8, w9⟩ : (0 ≤ (σ 31 8).toInt ∧ (σ 31 8).toInt ≤ 350) ∧ (∀ k : Nat, k < 1400 → (-1) ≤ (σ 33 k).toInt ∧ (σ 33 k).toInt ≤ 350) ∧ (∀ k : Nat, k < 1024 → 0 ≤ (σ 36 k).toInt ∧ (σ 36 k).toInt ≤ 349) := id hI31
  refine lv_aload_n hx hb dX1_seekFor_0 rfl (lv_at hl 0 rfl) ?_
  refine lv_iload_n hx hb dX1_seekFor_1 rfl (lv_at hl 2 rfl) ?_
  refine lv_iload_n hx hb dX1_seekFor_2 rfl (lv_at hl 3 rfl) ?_
  have I10 : jI31 σ := ⟨(by omega), w8, w9⟩
  refine jcallVv (As := [.int a2, .int a3]) (rest := []) ⟨hx, hb, hml, hown, hts⟩ hK hP hA hS hZ (c_X1_grow_31 l D cI cL ad zz hJ σ τ a2 (A2) t2 a3 (A3) t3 I10) cw_RX1_54 (jc_31 cI cL ad σ τ) rfl ⟨Nat.le_of_ble_eq_true rfl, Nat.le_of_ble_eq_true rfl⟩ rfl rfl rfl hl.1 rfl (Nat.le_of_ble_eq_true rfl) dX1_seekFor_3 ⟨Nat.zero_le _, Nat.zero_le _⟩ (fun σ11 τ11 H locs h11 hP hS => ?_)
  obtain ⟨rfl, f13, f14, I15, h11⟩ := h11
  obtain ⟨i16, w17, w18⟩ : (0 ≤ (σ11 31 8).toInt ∧ (σ11 31 8).toInt ≤ 350) ∧ (∀ k : Nat, k < 1400 → (-1) ≤ (σ11 33 k).toInt ∧ (σ11 33 k).toInt ≤ 350) ∧ (∀ k : Nat, k < 1024 → 0 ≤ (σ11 36 k).toInt ∧ (σ11 36 k).toInt ≤ 349) := id I15
  refine lv_aload_n hx hb dX1_seekFor_6 rfl (lv_at hl 0 rfl) ?_
  refine va_get (D := D) hx hb hts inlX1 hown hK hP 31 (jc_31 cI cL ad σ11 τ) rfl 8 (by decide) (hts _ kw_27_22) (fun _ h9 => h9) rfl dX1_seekFor_7 ?_
  refine lv_iconst (v := 1) hx hb dX1_seekFor_10 (by decide) ?_
  have g19 := jrg (rfl : (σ11 31 8).toInt = (σ11 31 8).toInt)
  refine lv_isub hx hb dX1_seekFor_11 ?_
  refine lv_topi (fun x20 ex20 => ?_)
  have tx20 : x20.toInt = (σ11 31 8).toInt - 1 := (jsub ex20 rfl jz_1 (by omega) (by omega)).trans (by omega)
  refine lv_istore (lv' := [(6, .int x20), (0, .ref (ad 31)), (1, .ref (ad 17)), (2, .int a2), (3, .int a3), (4, .int a4), (5, .int a5)]) hx hb dX1_seekFor_12 hl (by decide) rfl (fun ls hl => ?_)
  have lp21 : ∀ (n22 : Nat) (x23 : Int32) (σ24 : Nat → Nat → Int32) (H : Heap) (locs : List Loc) (ls : Array Slot), (x23.toInt + 1 : Int) < n22 → (-1) ≤ x23.toInt → x23.toInt ≤ 349 → (∀ i : Nat, (i < 24 ∨ 25 < i) ∧ (i < 29 ∨ 30 < i) ∧ (i < 34 ∨ 35 < i) → σ24 i = σ11 i) → jH D cI cL ad σ24 τ H → va_S (jA ad) s.heap H locs → lv_has ls 7 [(6, .int x23), (0, .ref (ad 31)), (1, .ref (ad 17)), (2, .int a2), (3, .int a3), (4, .int a4), (5, .int a5)] → W p l e ({ frames := 4, cells := 0, slots := 0, locals := 113 }) s m args below meth c H locs 0 0 Q (F0 m 14 ls []) := by
    intro n22
    induction n22 with
    | zero => intro x23 σ24 H locs ls h25 h26 h27; exact absurd h25 (by omega)
    | succ n22 ihlp21 =>
      intro x23 σ24 H locs ls h25 h26 h27 f28 hP hS hl
      refine lv_iload hx hb dX1_seekFor_14 (lv_at hl 0 rfl) ?_
      refine lv_if_lt (tgt := 36) hx hb dX1_seekFor_16 (by decide) (fun c29 => ?_) (fun c29 => ?_)
      · have kc29 := jlt c29 rfl jz_0
        have z30 : (σ24 31 8).toInt = (σ11 31 8).toInt := by rw [(show σ24 31 8 = (σ11 31 8) from (by rw [f28 31 (by omega)]))]
        have w31 : ∀ k : Nat, k < 1400 → (-1) ≤ (σ24 33 k).toInt ∧ (σ24 33 k).toInt ≤ 350 := (by rw [f28 33 (by omega)]; exact w17)
        have w32 : ∀ k : Nat, k < 1024 → 0 ≤ (σ24 36 k).toInt ∧ (σ24 36 k).toInt ≤ 349 := (by rw [f28 36 (by omega)]; exact w18)
        have I33 : jI31 σ24 := ⟨(by omega), w31, w32⟩
        exact hret σ24 τ _ _ _ _ ⟨rfl, (fun i hi => by rw [f28 i (by omega), f13 i (by omega)]), (fun k hk => by rw [f28 31 (by omega), f14 k (by omega)]), I33, trivial⟩ hP hS dX1_seekFor_36
      · have kc29 := jnlt c29 rfl jz_0
        refine lv_aload_n hx hb dX1_seekFor_19 rfl (lv_at hl 1 rfl) ?_
        refine lv_iload hx hb dX1_seekFor_20 (lv_at hl 0 rfl) ?_
        refine lv_aload_n hx hb dX1_seekFor_22 rfl (lv_at hl 2 rfl) ?_
        refine lv_iload hx hb dX1_seekFor_23 (lv_at hl 5 rfl) ?_
        refine lv_iload hx hb dX1_seekFor_25 (lv_at hl 6 rfl) ?_
        have z34 : (σ24 16 0).toInt = (σ 16 0).toInt := by rw [(show σ24 16 0 = (σ 16 0) from (by rw [f28 16 (by omega)]; exact (by rw [f13 16 (by omega)])))]
        have z35 : (σ24 16 1).toInt = (σ 16 1).toInt := by rw [(show σ24 16 1 = (σ 16 1) from (by rw [f28 16 (by omega)]; exact (by rw [f13 16 (by omega)])))]
        have z36 : (σ24 16 2).toInt = (σ 16 2).toInt := by rw [(show σ24 16 2 = (σ 16 2) from (by rw [f28 16 (by omega)]; exact (by rw [f13 16 (by omega)])))]
        have w37 : ∀ k : Nat, k < 8 → 0 ≤ (σ24 17 k).toInt ∧ (σ24 17 k).toInt ≤ 3 := (by rw [f28 17 (by omega)]; exact (by rw [f13 17 (by omega)]; exact w4))
        have I38 : jI16 σ24 := ⟨(by omega), (by omega), (by omega), w37⟩
        have z39 : (σ24 22 0).toInt = (σ 22 0).toInt := by rw [(show σ24 22 0 = (σ 22 0) from (by rw [f28 22 (by omega)]; exact (by rw [f13 22 (by omega)])))]
        have w40 : ∀ k : Nat, k < 160 → 0 ≤ (σ24 23 k).toInt ∧ (σ24 23 k).toInt ≤ 30000 := (by rw [f28 23 (by omega)]; exact (by rw [f13 23 (by omega)]; exact w6))
        have I41 : jI22 σ24 := ⟨(by omega), w40⟩
        have z42 : (σ24 31 8).toInt = (σ11 31 8).toInt := by rw [(show σ24 31 8 = (σ11 31 8) from (by rw [f28 31 (by omega)]))]
        have w43 : ∀ k : Nat, k < 1400 → (-1) ≤ (σ24 33 k).toInt ∧ (σ24 33 k).toInt ≤ 350 := (by rw [f28 33 (by omega)]; exact w17)
        have w44 : ∀ k : Nat, k < 1024 → 0 ≤ (σ24 36 k).toInt ∧ (σ24 36 k).toInt ≤ 349 := (by rw [f28 36 (by omega)]; exact w18)
        have I45 : jI31 σ24 := ⟨(by omega), w43, w44⟩
        refine jcallVv (As := [.int x23, .ref (ad 17), .int a4, .int a5]) (rest := []) ⟨hx, hb, hml, hown, hts⟩ hK hP hA hS hZ (c_X1_judge_31 l D cI cL ad zz hJ σ24 τ x23 (x23.toInt) rfl a4 (A4) t4 a5 (A5) t5 I38 I41 I45 (by omega)) cw_RX1_61 (jc_31 cI cL ad σ24 τ) rfl ⟨Nat.le_of_ble_eq_true rfl, Nat.le_of_ble_eq_true rfl⟩ rfl rfl rfl hl.1 rfl (Nat.le_of_ble_eq_true rfl) dX1_seekFor_27 ⟨Nat.zero_le _, Nat.zero_le _⟩ (fun σ46 τ46 H locs h46 hP hS => ?_)
        obtain ⟨rfl, f48, h46⟩ := h46
        obtain ⟨x49, ex49⟩ : ∃ y : Int32, y = x23 + (-1) := ⟨_, rfl⟩
        have tx49 : x49.toInt = x23.toInt - 1 := (jadd ex49 rfl jz_m1 (by omega) (by omega)).trans (by omega)
        refine lv_iinc (v := x49) (lv' := [(6, .int x49), (0, .ref (ad 31)), (1, .ref (ad 17)), (2, .int a2), (3, .int a3), (4, .int a4), (5, .int a5)]) hx hb dX1_seekFor_30 hl (k := 0) rfl (by rw [ex49]; rfl) (by decide) rfl (fun ls hl => ?_)
        refine lv_goto (tgt := 14) hx hb dX1_seekFor_33 (by decide) ?_
        exact ihlp21 x49 σ46 _ _ ls (by have h90 := tx49; omega) (by have h90 := tx49; omega) (by have h90 := tx49; omega) (fun i hi => by rw [f48 i (by omega), f28 i hi])    hP hS (lv_sub hl [0, 1, 2, 3, 4, 5, 6] rfl)
  exact lp21 1000000 x20 σ11 _ _ ls (by have h90 := tx20; omega) (by have h90 := tx20; omega) (by have h90 := tx20; omega) (fun _ _ => rfl)   hP hS hl
set_option maxHeartbeats 4000000 in
set_option maxRecDepth 100000 in
theorem c_X1_judge_31_v1 (l : Launch) (D : va_G) (cI cL : ClassId) (ad zz : Nat → Nat) (hJ : jD ad) (σ : Nat → Nat → Int32) (τ : Nat → Nat → Int64) (a1 : Int32) (A1 : Int) (t1 : a1.toInt = A1) (a3 : Int32) (A3 : Int) (t3 : a3.toInt = A3) (a4 : Int32) (A4 : Int) (t4 : a4.toInt = A4) (hI16 : jI16 σ) (hI22 : jI22 σ) (hI31 : jI31 σ) (hp0 : 0 ≤ A1 ∧ A1 ≤ 349) : jMv l yX1_judge cX1_judge 18 none ({ frames := 3, cells := 0, slots := 0, locals := 76 }) D cI cL ad zz [.ref (ad 31), .int a1, .ref (ad 1), .int a3, .int a4] σ τ (fun σ' τ' => τ = τ' ∧ (∀ i : Nat, (i < 24 ∨ 25 < i) ∧ (i < 29 ∨ 30 < i) ∧ (i < 34 ∨ 35 < i) → σ' i = σ i) ∧ True) := by
  refine jMv.of hJ (by decide +kernel) rfl (Nat.le_of_ble_eq_true rfl) ?_
  intro p e s m args below meth c Q ls hC hret hl hP
  obtain ⟨hx, hb, hr, hml, hown, hts, hK, -, hlocks, hZ⟩ := hC
  have hown : s.vm.findClass RX1 = some m.cls := hown
  have hS : va_S (jA ad) s.heap s.heap [] := va_S.rf
  have hA : ∀ q, jA ad q → jA ad q := fun _ h => h
  have hl : lv_has ls 18 [(0, .ref (ad 31)), (1, .int a1), (2, .ref (ad 1)), (3, .int a3), (4, .int a4)] := hl
  have g1 := jrg t1
  have g3 := jrg t3
  have g4 := jrg t4
  obtain ⟨i1, i2, i3, w4⟩ : (1 ≤ (σ 16 0).toInt ∧ (σ 16 0).toInt ≤ 8) ∧ (1 ≤ (σ 16 1).toInt ∧ (σ 16 1).toInt ≤ 12) ∧ (0 ≤ (σ 16 2).toInt ∧ (σ 16 2).toInt ≤ 999) ∧ (∀ k : Nat, k < 8 → 0 ≤ (σ 17 k).toInt ∧ (σ 17 k).toInt ≤ 3) := id hI16
  obtain ⟨i5, w6⟩ : (0 ≤ (σ 22 0).toInt ∧ (σ 22 0).toInt ≤ 160) ∧ (∀ k : Nat, k < 160 → 0 ≤ (σ 23 k).toInt ∧ (σ 23 k).toInt ≤ 30000) := id hI22
  obtain ⟨i7, w8, w9⟩ : (0 ≤ (σ 31 8).toInt ∧ (σ 31 8).toInt ≤ 350) ∧ (∀ k : Nat, k < 1400 → (-1) ≤ (σ 33 k).toInt ∧ (σ 33 k).toInt ≤ 350) ∧ (∀ k : Nat, k < 1024 → 0 ≤ (σ 36 k).toInt ∧ (σ 36 k).toInt ≤ 349) := id hI31
  refine lv_aload_n hx hb dX1_judge_0 rfl (lv_at hl 0 rfl) ?_
  refine va_get (D := D) hx hb hts inlX1 hown hK hP 31 (jc_31 cI cL ad σ τ) rfl 2 (by decide) (hts _ kw_5_3) (fun _ h9 => h9) rfl dX1_judge_1 ?_
  refine lv_iload_n hx hb dX1_judge_4 rfl (lv_at hl 1 rfl) ?_
  refine jald hx hb hK hP (jc_32 cI cL ad σ τ) (jin t1 (by omega) (by omega)) dX1_judge_5 ?_
  refine lv_topi (fun x10 ex10 => ?_)
  refine lv_ldc (v := 134217727) hx hb hown (hts _ kw_28_10) dX1_judge_6 ?_
  refine lv_iand hx hb dX1_judge_8 ?_
  refine lv_topi (fun x11 ex11 => ?_)
  have gx11 := jrg (rfl : x11.toInt = x11.toInt)
  have g12 : 0 ≤ x11.toInt ∧ x11.toInt ≤ 134217727 := jmask ex11 27 (by decide) (by decide)
  refine lv_istore (lv' := [(5, .int x11), (0, .ref (ad 31)), (1, .int a1), (2, .ref (ad 1)), (3, .int a3), (4, .int a4)]) hx hb dX1_judge_9 hl (by decide) rfl (fun ls hl => ?_)
  refine lv_aload_n hx hb dX1_judge_11 rfl (lv_at hl 1 rfl) ?_
  refine va_get (D := D) hx hb hts inlX1 hown hK hP 31 (jc_31 cI cL ad σ τ) rfl 2 (by decide) (hts _ kw_5_3) (fun _ h9 => h9) rfl dX1_judge_12 ?_
  refine lv_iload_n hx hb dX1_judge_15 rfl (lv_at hl 2 rfl) ?_
  refine jald hx hb hK hP (jc_32 cI cL ad σ τ) (jin t1 (by omega) (by omega)) dX1_judge_16 ?_
  refine lv_topi (fun x13 ex13 => ?_)
  refine lv_bipush (v := 27) hx hb dX1_judge_17 (by decide) ?_
  refine lv_ishr hx hb dX1_judge_19 ?_
  refine lv_topi (fun x14 ex14 => ?_)
  have gx14 := jrg (rfl : x14.toInt = x14.toInt)
  refine lv_istore (lv' := [(6, .int x14), (5, .int x11), (0, .ref (ad 31)), (1, .int a1), (2, .ref (ad 1)), (3, .int a3), (4, .int a4)]) hx hb dX1_judge_20 hl (by decide) rfl (fun ls hl => ?_)
  refine lv_iload_n hx hb dX1_judge_22 rfl (lv_at hl 3 rfl) ?_
  refine lv_bipush (v := 9) hx hb dX1_judge_23 (by decide) ?_
  refine lv_imul hx hb dX1_judge_25 ?_
  refine lv_topi (fun x15 ex15 => ?_)
  have tx15 : x15.toInt = 9 * A1 := (jmul ex15 t1 jz_9 (by omega) (by omega)).trans (by omega)
  refine lv_istore (lv' := [(7, .int x15), (6, .int x14), (5, .int x11), (0, .ref (ad 31)), (1, .int a1), (2, .ref (ad 1)), (3, .int a3), (4, .int a4)]) hx hb dX1_judge_26 hl (by decide) rfl (fun ls hl => ?_)
  refine lv_iconst (v := 0) hx hb dX1_judge_28 (by decide) ?_
  refine lv_iload_n hx hb dX1_judge_29 rfl (lv_at hl 6 rfl) ?_
  refine va_mmax hx hb (hml.trans hl.1.symm) hown (hts _ kw_28_5) (hts _ kw_21_0) (hts _ kw_21_1) (hts _ kw_21_2) (Nat.le_of_ble_eq_true rfl) (Nat.le_of_ble_eq_true rfl) (Nat.le_of_ble_eq_true rfl) (Nat.le_of_ble_eq_true rfl) dX1_judge_30 ?_
  refine lv_topi (fun x16 ex16 => ?_)
  have g17 := jmax ex16 jz_0 t3
  refine lv_istore (lv' := [(8, .int x16), (7, .int x15), (6, .int x14), (5, .int x11), (0, .ref (ad 31)), (1, .int a1), (2, .ref (ad 1)), (3, .int a3), (4, .int a4)]) hx hb dX1_judge_33 hl (by decide) rfl (fun ls hl => ?_)
  refine lv_iload hx hb dX1_judge_35 (lv_at hl 8 rfl) ?_
  refine lv_aload_n hx hb dX1_judge_37 rfl (lv_at hl 6 rfl) ?_
  refine jalen (v := 8) hx hb hK hP (jc_1 cI cL ad σ τ) (by decide) dX1_judge_38 ?_
  refine lv_iconst (v := 1) hx hb dX1_judge_39 (by decide) ?_
  refine lv_isub hx hb dX1_judge_40 ?_
  refine jtopr (y := 7) (by decide) ?_
  refine va_mmin hx hb (hml.trans hl.1.symm) hown (hts _ kw_28_4) (hts _ kw_22_11) (hts _ kw_21_1) (hts _ kw_22_12) (Nat.le_of_ble_eq_true rfl) (Nat.le_of_ble_eq_true rfl) (Nat.le_of_ble_eq_true rfl) (Nat.le_of_ble_eq_true rfl) dX1_judge_41 ?_
  refine lv_topi (fun x18 ex18 => ?_)
  have g19 := jmin ex18 t4 jz_7
  refine lv_iload_n hx hb dX1_judge_44 rfl (lv_at hl 7 rfl) ?_
  refine lv_iconst (v := 1) hx hb dX1_judge_45 (by decide) ?_
  refine lv_iadd hx hb dX1_judge_46 ?_
  refine lv_topi (fun x20 ex20 => ?_)
  have gx20 := jrg (rfl : x20.toInt = x20.toInt)
  refine lv_iload hx hb dX1_judge_47 (lv_at hl 2 rfl) ?_
  have g21 := jrg (rfl : x20.toInt = x20.toInt)
  have g22 := jrg (rfl : x14.toInt = x14.toInt)
  refine lv_iadd hx hb dX1_judge_49 ?_
  refine lv_topi (fun x23 ex23 => ?_)
  have gx23 := jrg (rfl : x23.toInt = x23.toInt)
  refine va_mmin hx hb (hml.trans hl.1.symm) hown (hts _ kw_28_4) (hts _ kw_22_11) (hts _ kw_21_1) (hts _ kw_22_12) (Nat.le_of_ble_eq_true rfl) (Nat.le_of_ble_eq_true rfl) (Nat.le_of_ble_eq_true rfl) (Nat.le_of_ble_eq_true rfl) dX1_judge_50 ?_
  refine lv_topi (fun x24 ex24 => ?_)
  have g25 := jmin ex24 rfl rfl
  refine lv_istore (lv' := [(9, .int x24), (8, .int x16), (7, .int x15), (6, .int x14), (5, .int x11), (0, .ref (ad 31)), (1, .int a1), (2, .ref (ad 1)), (3, .int a3), (4, .int a4)]) hx hb dX1_judge_53 hl (by decide) rfl (fun ls hl => ?_)
  refine lv_iload hx hb dX1_judge_55 (lv_at hl 1 rfl) ?_
  refine lv_istore (lv' := [(10, .int x16), (9, .int x24), (8, .int x16), (7, .int x15), (6, .int x14), (5, .int x11), (0, .ref (ad 31)), (1, .int a1), (2, .ref (ad 1)), (3, .int a3), (4, .int a4)]) hx hb dX1_judge_57 hl (by decide) rfl (fun ls hl => ?_)
  have lp26 : ∀ (n27 : Nat) (x28 : Int32) (σ29 : Nat → Nat → Int32) (H : Heap) (locs : List Loc) (ls : Array Slot), (-x28.toInt + 3000000000 : Int) < n27 → 0 ≤ x28.toInt → (∀ i : Nat, (i < 34 ∨ 35 < i) → σ29 i = σ i) → jH D cI cL ad σ29 τ H → va_S (jA ad) s.heap H locs → lv_has ls 18 [(10, .int x28), (9, .int x24), (8, .int x16), (7, .int x15), (6, .int x14), (5, .int x11), (0, .ref (ad 31)), (1, .int a1), (2, .ref (ad 1)), (3, .int a3), (4, .int a4)] → W p l e ({ frames := 3, cells := 0, slots := 0, locals := 76 }) s m args below meth c H locs 0 0 Q (F0 m 59 ls []) := by
    intro n27
    induction n27 with
    | zero => intro x28 σ29 H locs ls h30 h31; have gx28 := jrg (rfl : x28.toInt = x28.toInt); exact absurd h30 (by omega)
    | succ n27 ihlp26 =>
      intro x28 σ29 H locs ls h30 h31 f32 hP hS hl
      have gx28 := jrg (rfl : x28.toInt = x28.toInt)
      refine lv_iload hx hb dX1_judge_59 (lv_at hl 0 rfl) ?_
      refine lv_iload hx hb dX1_judge_61 (lv_at hl 1 rfl) ?_
      refine lv_icmp_gt (tgt := 94) hx hb dX1_judge_63 (by decide) (fun c33 => ?_) (fun c33 => ?_)
      · have kc33 := jlt c33 rfl rfl
        refine lv_aload_n hx hb dX1_judge_94 rfl (lv_at hl 6 rfl) ?_
        refine va_get (D := D) hx hb hts inlX1 hown hK hP 31 (jc_31 cI cL ad σ29 τ) rfl 4 (by decide) (hts _ kw_5_5) (fun _ h9 => h9) rfl dX1_judge_95 ?_
        refine lv_iload hx hb dX1_judge_98 (lv_at hl 3 rfl) ?_
        refine lv_aload_n hx hb dX1_judge_100 rfl (lv_at hl 6 rfl) ?_
        refine va_get (D := D) hx hb hts inlX1 hown hK hP 31 (jc_31 cI cL ad σ29 τ) rfl 1 (by decide) (hts _ kw_5_11) (fun _ h9 => h9) rfl dX1_judge_101 ?_
        refine va_get (D := D) hx hb hts inlX6 hown hK hP 16 (jc_16 cI cL ad σ29 τ) rfl 0 (by decide) (hts _ kw_27_17) (fun _ h9 => h9) rfl dX1_judge_104 ?_
        have m34 : σ29 16 0 = (σ 16 0) := (by rw [f32 16 (by omega)])
        refine jtopr m34 ?_
        have g35 := jrg (rfl : (σ 16 0).toInt = (σ 16 0).toInt)
        refine lv_iadd hx hb dX1_judge_107 ?_
        refine lv_topi (fun x36 ex36 => ?_)
        have tx36 : x36.toInt = 9 * A1 + (σ 16 0).toInt := (jadd ex36 tx15 rfl (by omega) (by omega)).trans (by omega)
        refine lv_iconst (v := 0) hx hb dX1_judge_108 (by decide) ?_
        refine jast hx hb hK hP hJ hA hS (jc_34 cI cL ad σ29 τ) (ja_34 cI cL ad σ29 τ _ _) (jin tx36 (by omega) (by omega)) dX1_judge_109 (fun σ37 H locs eσ37 hP hS => ?_)
        refine lv_iconst (v := 0) hx hb dX1_judge_110 (by decide) ?_
        refine lv_istore (lv' := [(10, .int 0), (9, .int x24), (8, .int x16), (7, .int x15), (6, .int x14), (5, .int x11), (0, .ref (ad 31)), (1, .int a1), (2, .ref (ad 1)), (3, .int a3), (4, .int a4)]) hx hb dX1_judge_111 hl (by decide) rfl (fun ls hl => ?_)
        have lp38 : ∀ (n39 : Nat) (x40 : Int32) (σ48 : Nat → Nat → Int32) (H : Heap) (locs : List Loc) (ls : Array Slot), (-x40.toInt + 4 : Int) < n39 → 0 ≤ x40.toInt → x40.toInt ≤ 4 → (∀ i : Nat, (i < 24 ∨ 25 < i) ∧ (i < 29 ∨ 30 < i) ∧ (i < 34 ∨ 35 < i) → σ48 i = σ37 i) → jH D cI cL ad σ48 τ H → va_S (jA ad) s.heap H locs → lv_has ls 18 [(10, .int x40), (9, .int x24), (8, .int x16), (7, .int x15), (6, .int x14), (5, .int x11), (0, .ref (ad 31)), (1, .int a1), (2, .ref (ad 1)), (3, .int a3), (4, .int a4)] → W p l e ({ frames := 3, cells := 0, slots := 0, locals := 76 }) s m args below meth c H locs 0 0 Q (F0 m 113 ls []) := by
          intro n39
          induction n39 with
          | zero => intro x40 σ48 H locs ls h49 h50 h51; exact absurd h49 (by omega)
          | succ n39 ihlp38 =>
            intro x40 σ48 H locs ls h49 h50 h51 f52 hP hS hl
            refine lv_iload hx hb dX1_judge_113 (lv_at hl 0 rfl) ?_
            refine lv_iconst (v := 4) hx hb dX1_judge_115 (by decide) ?_
            refine lv_icmp_ge (tgt := 316) hx hb dX1_judge_116 (by decide) (fun c53 => ?_) (fun c53 => ?_)
            · have kc53 := jle c53 jz_4 rfl
              exact hret σ48 τ _ _ _ _ ⟨rfl, (fun i hi => by rw [f52 i (by omega), eσ37, jup_n (by omega), f32 i (by omega)]), trivial⟩ hP hS dX1_judge_316
            · have kc53 := jnle c53 jz_4 rfl
              refine lv_aload_n hx hb dX1_judge_119 rfl (lv_at hl 6 rfl) ?_
              refine va_get (D := D) hx hb hts inlX1 hown hK hP 31 (jc_31 cI cL ad σ48 τ) rfl 3 (by decide) (hts _ kw_5_4) (fun _ h9 => h9) rfl dX1_judge_120 ?_
              refine lv_iload_n hx hb dX1_judge_123 rfl (lv_at hl 7 rfl) ?_
              refine lv_iconst (v := 4) hx hb dX1_judge_124 (by decide) ?_
              refine lv_imul hx hb dX1_judge_125 ?_
              refine lv_topi (fun x54 ex54 => ?_)
              have tx54 : x54.toInt = 4 * A1 := (jmul ex54 t1 jz_4 (by omega) (by omega)).trans (by omega)
              refine lv_iload hx hb dX1_judge_126 (lv_at hl 0 rfl) ?_
              have g55 := jrg (rfl : x40.toInt = x40.toInt)
              refine lv_iadd hx hb dX1_judge_128 ?_
              refine lv_topi (fun x56 ex56 => ?_)
              have tx56 : x56.toInt = 4 * A1 + x40.toInt := (jadd ex56 tx54 rfl (by omega) (by omega)).trans (by omega)
              refine jald hx hb hK hP (jc_33 cI cL ad σ48 τ) (jin tx56 (by omega) (by omega)) dX1_judge_129 ?_
              have w57 : ∀ k : Nat, k < 1400 → (-1) ≤ (σ48 33 k).toInt ∧ (σ48 33 k).toInt ≤ 350 := (by rw [f52 33 (by omega)]; exact (by rw [eσ37, jup_n (by decide)]; exact (by rw [f32 33 (by omega)]; exact w8)))
              have g58 := w57 _ (jnat (x := x56) tx56 (n := 1400) (by omega) (by decide))
              refine lv_topi (fun x59 ex59 => ?_)
              rw [← ex59] at g58
              refine lv_bipush (v := 9) hx hb dX1_judge_130 (by decide) ?_
              have g60 := jrg (rfl : x59.toInt = x59.toInt)
              refine lv_imul hx hb dX1_judge_132 ?_
              refine lv_topi (fun x61 ex61 => ?_)
              have tx61 : x61.toInt = 9 * x59.toInt := (jmul ex61 rfl jz_9 (by omega) (by omega)).trans (by omega)
              refine lv_istore (lv' := [(11, .int x61), (10, .int x40), (9, .int x24), (8, .int x16), (7, .int x15), (6, .int x14), (5, .int x11), (0, .ref (ad 31)), (1, .int a1), (2, .ref (ad 1)), (3, .int a3), (4, .int a4)]) hx hb dX1_judge_133 hl (by decide) rfl (fun ls hl => ?_)
              refine lv_iload hx hb dX1_judge_135 (lv_at hl 0 rfl) ?_
              refine lv_if_ge (tgt := 143) hx hb dX1_judge_137 (by decide) (fun c62 => ?_) (fun c62 => ?_)
              · have kc62 := jle c62 jz_0 tx61
                refine lv_iload hx hb dX1_judge_143 (lv_at hl 6 rfl) ?_
                refine lv_iload hx hb dX1_judge_145 (lv_at hl 1 rfl) ?_
                refine jcallS (As := [.int x11, .int x40]) (rest := []) ⟨hx, hb, hml, hown, hts⟩ hK hP hA hS hZ (c_X0_steps l D cI cL ad zz hJ σ48 τ x11 (x11.toInt) rfl x40 (x40.toInt) rfl) cw_RX1_136 ⟨Nat.le_of_ble_eq_true rfl, Nat.le_of_ble_eq_true rfl⟩ rfl rfl rfl hl.1 rfl (Nat.le_of_ble_eq_true rfl) dX1_judge_147 ⟨Nat.zero_le _, Nat.zero_le _⟩ (fun r64 σ63 τ63 H locs h63 hP hS => ?_)
                obtain ⟨⟨rfl, rfl⟩, h63⟩ := h63
                refine lv_istore (lv' := [(12, .int r64), (11, .int x61), (10, .int x40), (9, .int x24), (8, .int x16), (7, .int x15), (6, .int x14), (5, .int x11), (0, .ref (ad 31)), (1, .int a1), (2, .ref (ad 1)), (3, .int a3), (4, .int a4)]) hx hb dX1_judge_150 hl (by decide) rfl (fun ls hl => ?_)
                refine lv_iload hx hb dX1_judge_152 (lv_at hl 7 rfl) ?_
                refine lv_iload hx hb dX1_judge_154 (lv_at hl 2 rfl) ?_
                refine jcallS (As := [.int x11, .int x40]) (rest := []) ⟨hx, hb, hml, hown, hts⟩ hK hP hA hS hZ (c_X0_left l D cI cL ad zz hJ σ48 τ x11 (x11.toInt) rfl x40 (x40.toInt) rfl) cw_RX1_123 ⟨Nat.le_of_ble_eq_true rfl, Nat.le_of_ble_eq_true rfl⟩ rfl rfl rfl hl.1 rfl (Nat.le_of_ble_eq_true rfl) dX1_judge_156 ⟨Nat.zero_le _, Nat.zero_le _⟩ (fun r66 σ65 τ65 H locs h65 hP hS => ?_)
                obtain ⟨⟨rfl, rfl⟩, h65⟩ := h65
                refine lv_istore (lv' := [(13, .int r66), (12, .int r64), (11, .int x61), (10, .int x40), (9, .int x24), (8, .int x16), (7, .int x15), (6, .int x14), (5, .int x11), (0, .ref (ad 31)), (1, .int a1), (2, .ref (ad 1)), (3, .int a3), (4, .int a4)]) hx hb dX1_judge_159 hl (by decide) rfl (fun ls hl => ?_)
                refine lv_iload hx hb dX1_judge_161 (lv_at hl 5 rfl) ?_
                refine lv_istore (lv' := [(14, .int x16), (13, .int r66), (12, .int r64), (11, .int x61), (10, .int x40), (9, .int x24), (8, .int x16), (7, .int x15), (6, .int x14), (5, .int x11), (0, .ref (ad 31)), (1, .int a1), (2, .ref (ad 1)), (3, .int a3), (4, .int a4)]) hx hb dX1_judge_163 hl (by decide) rfl (fun ls hl => ?_)
                have lp67 : ∀ (n68 : Nat) (x69 : Int32) (σ73 : Nat → Nat → Int32) (H : Heap) (locs : List Loc) (ls : Array Slot), (-x69.toInt + 3000000000 : Int) < n68 → 0 ≤ x69.toInt → (∀ i : Nat, (i < 24 ∨ 25 < i) ∧ (i < 29 ∨ 30 < i) ∧ (i < 34 ∨ 35 < i) → σ73 i = σ48 i) → jH D cI cL ad σ73 τ H → va_S (jA ad) s.heap H locs → lv_has ls 18 [(14, .int x69), (13, .int r66), (12, .int r64), (11, .int x61), (10, .int x40), (9, .int x24), (8, .int x16), (7, .int x15), (6, .int x14), (5, .int x11), (0, .ref (ad 31)), (1, .int a1), (2, .ref (ad 1)), (3, .int a3), (4, .int a4)] → W p l e ({ frames := 3, cells := 0, slots := 0, locals := 76 }) s m args below meth c H locs 0 0 Q (F0 m 165 ls []) := by
                  intro n68
                  induction n68 with
                  | zero => intro x69 σ73 H locs ls h74 h75; have gx69 := jrg (rfl : x69.toInt = x69.toInt); exact absurd h74 (by omega)
                  | succ n68 ihlp67 =>
                    intro x69 σ73 H locs ls h74 h75 f76 hP hS hl
                    have gx69 := jrg (rfl : x69.toInt = x69.toInt)
                    refine lv_iload hx hb dX1_judge_165 (lv_at hl 0 rfl) ?_
                    refine lv_iload hx hb dX1_judge_167 (lv_at hl 5 rfl) ?_
                    refine lv_icmp_gt (tgt := 310) hx hb dX1_judge_169 (by decide) (fun c77 => ?_) (fun c77 => ?_)
                    · have kc77 := jlt c77 rfl rfl
                      obtain ⟨x78, ex78⟩ : ∃ y : Int32, y = x40 + 1 := ⟨_, rfl⟩
                      have tx78 : x78.toInt = x40.toInt + 1 := (jadd ex78 rfl jz_1 (by omega) (by omega)).trans (by omega)
                      refine lv_iinc (v := x78) (lv' := [(10, .int x78), (14, .int x69), (13, .int r66), (12, .int r64), (11, .int x61), (9, .int x24), (8, .int x16), (7, .int x15), (6, .int x14), (5, .int x11), (0, .ref (ad 31)), (1, .int a1), (2, .ref (ad 1)), (3, .int a3), (4, .int a4)]) hx hb dX1_judge_310 hl (k := 4) rfl (by rw [ex78]; rfl) (by decide) rfl (fun ls hl => ?_)
                      refine lv_goto (tgt := 113) hx hb dX1_judge_313 (by decide) ?_
                      exact ihlp38 x78 σ73 _ _ ls (by have h90 := tx78; omega) (by have h90 := tx78; omega) (by have h90 := tx78; omega) (fun i hi => by rw [f76 i (by omega), f52 i hi])    hP hS (lv_sub hl [0, 5, 6, 7, 8, 9, 10, 11, 12, 13, 14] rfl)
                    · have kc77 := jnlt c77 rfl rfl
                      refine lv_aload_n hx hb dX1_judge_172 rfl (lv_at hl 10 rfl) ?_
                      refine va_get (D := D) hx hb hts inlX1 hown hK hP 31 (jc_31 cI cL ad σ73 τ) rfl 0 (by decide) (hts _ kw_5_10) (fun _ h9 => h9) rfl dX1_judge_173 ?_
                      refine lv_iload hx hb dX1_judge_176 (lv_at hl 4 rfl) ?_
                      refine lv_aload_n hx hb dX1_judge_178 rfl (lv_at hl 12 rfl) ?_
                      refine lv_iload hx hb dX1_judge_179 (lv_at hl 0 rfl) ?_
                      refine jald hx hb hK hP (jc_1 cI cL ad σ73 τ) (jin rfl (by omega) (by omega)) dX1_judge_181 ?_
                      refine lv_topi (fun x79 ex79 => ?_)
                      refine lv_iload hx hb dX1_judge_182 (lv_at hl 2 rfl) ?_
                      refine jcallV (As := [.int x40, .int x79, .int r64]) (rest := []) ⟨hx, hb, hml, hown, hts⟩ hK hP hA hS hZ (c_X5_runsOf_26 l D cI cL ad zz hJ σ73 τ x40 (x40.toInt) rfl x79 (x79.toInt) rfl r64 (r64.toInt) rfl) cw_RX1_139 (jc_26 cI cL ad σ73 τ) rfl ⟨Nat.le_of_ble_eq_true rfl, Nat.le_of_ble_eq_true rfl⟩ rfl rfl rfl hl.1 rfl (Nat.le_of_ble_eq_true rfl) dX1_judge_184 ⟨Nat.zero_le _, Nat.zero_le _⟩ (fun r81 σ80 τ80 H locs h80 hP hS => ?_)
                      obtain ⟨⟨rfl, rfl⟩, h80⟩ := h80
                      refine lv_istore (lv' := [(15, .int r81), (14, .int x69), (13, .int r66), (12, .int r64), (11, .int x61), (10, .int x40), (9, .int x24), (8, .int x16), (7, .int x15), (6, .int x14), (5, .int x11), (0, .ref (ad 31)), (1, .int a1), (2, .ref (ad 1)), (3, .int a3), (4, .int a4)]) hx hb dX1_judge_187 hl (by decide) rfl (fun ls hl => ?_)
                      refine lv_aload_n hx hb dX1_judge_189 rfl (lv_at hl 11 rfl) ?_
                      refine va_get (D := D) hx hb hts inlX1 hown hK hP 31 (jc_31 cI cL ad σ73 τ) rfl 0 (by decide) (hts _ kw_5_10) (fun _ h9 => h9) rfl dX1_judge_190 ?_
                      refine lv_iload hx hb dX1_judge_193 (lv_at hl 5 rfl) ?_
                      refine lv_aload_n hx hb dX1_judge_195 rfl (lv_at hl 13 rfl) ?_
                      refine lv_iload hx hb dX1_judge_196 (lv_at hl 1 rfl) ?_
                      refine jald hx hb hK hP (jc_1 cI cL ad σ73 τ) (jin rfl (by omega) (by omega)) dX1_judge_198 ?_
                      refine lv_topi (fun x82 ex82 => ?_)
                      refine lv_iload hx hb dX1_judge_199 (lv_at hl 3 rfl) ?_
                      refine lv_iload hx hb dX1_judge_201 (lv_at hl 2 rfl) ?_
                      refine lv_aload_n hx hb dX1_judge_203 rfl (lv_at hl 11 rfl) ?_
                      refine va_get (D := D) hx hb hts inlX1 hown hK hP 31 (jc_31 cI cL ad σ73 τ) rfl 10 (by decide) (hts _ kw_28_9) (fun _ h9 => h9) rfl dX1_judge_204 ?_
                      have m83 : σ73 31 10 = (σ 31 10) := (by rw [f76 31 (by omega)]; exact (by rw [f52 31 (by omega)]; exact (by rw [eσ37, jup_n (by decide)]; exact (by rw [f32 31 (by omega)]))))
                      refine jtopr m83 ?_
                      refine lv_iload hx hb dX1_judge_207 (lv_at hl 9 rfl) ?_
                      have g84 := jrg (rfl : (σ 31 10).toInt = (σ 31 10).toInt)
                      refine lv_iadd hx hb dX1_judge_209 ?_
                      refine lv_topi (fun x85 ex85 => ?_)
                      have gx85 := jrg (rfl : x85.toInt = x85.toInt)
                      refine lv_iload hx hb dX1_judge_210 (lv_at hl 1 rfl) ?_
                      have z86 : (σ73 22 0).toInt = (σ 22 0).toInt := by rw [(show σ73 22 0 = (σ 22 0) from (by rw [f76 22 (by omega)]; exact (by rw [f52 22 (by omega)]; exact (by rw [eσ37, jup_n (by decide)]; exact (by rw [f32 22 (by omega)])))))]
                      have w87 : ∀ k : Nat, k < 160 → 0 ≤ (σ73 23 k).toInt ∧ (σ73 23 k).toInt ≤ 30000 := (by rw [f76 23 (by omega)]; exact (by rw [f52 23 (by omega)]; exact (by rw [eσ37, jup_n (by decide)]; exact (by rw [f32 23 (by omega)]; exact w6))))
                      have I88 : jI22 σ73 := ⟨(by omega), w87⟩
                      refine jcallV (As := [.int x40, .int x82, .int r64, .int r66, .int x85, .int x69]) (rest := []) ⟨hx, hb, hml, hown, hts⟩ hK hP hA hS hZ (c_X5_outOf_26 l D cI cL ad zz hJ σ73 τ x40 (x40.toInt) rfl x82 (x82.toInt) rfl r64 (r64.toInt) rfl r66 (r66.toInt) rfl x85 (x85.toInt) rfl x69 (x69.toInt) rfl I88) cw_RX1_142 (jc_26 cI cL ad σ73 τ) rfl ⟨Nat.le_of_ble_eq_true rfl, Nat.le_of_ble_eq_true rfl⟩ rfl rfl rfl hl.1 rfl (Nat.le_of_ble_eq_true rfl) dX1_judge_212 ⟨Nat.zero_le _, Nat.zero_le _⟩ (fun r90 σ89 τ89 H locs h89 hP hS => ?_)
                      obtain ⟨rfl, f91, h89⟩ := h89
                      refine lv_istore (lv' := [(16, .int r90), (15, .int r81), (14, .int x69), (13, .int r66), (12, .int r64), (11, .int x61), (10, .int x40), (9, .int x24), (8, .int x16), (7, .int x15), (6, .int x14), (5, .int x11), (0, .ref (ad 31)), (1, .int a1), (2, .ref (ad 1)), (3, .int a3), (4, .int a4)]) hx hb dX1_judge_215 hl (by decide) rfl (fun ls hl => ?_)
                      refine lv_aload_n hx hb dX1_judge_217 rfl (lv_at hl 12 rfl) ?_
                      refine va_get (D := D) hx hb hts inlX1 hown hK hP 31 (jc_31 cI cL ad σ89 τ) rfl 1 (by decide) (hts _ kw_5_11) (fun _ h9 => h9) rfl dX1_judge_218 ?_
                      refine lv_iload hx hb dX1_judge_221 (lv_at hl 1 rfl) ?_
                      refine lv_iload hx hb dX1_judge_223 (lv_at hl 0 rfl) ?_
                      refine lv_aload_n hx hb dX1_judge_225 rfl (lv_at hl 12 rfl) ?_
                      refine va_get (D := D) hx hb hts inlX1 hown hK hP 31 (jc_31 cI cL ad σ89 τ) rfl 4 (by decide) (hts _ kw_5_5) (fun _ h9 => h9) rfl dX1_judge_226 ?_
                      refine lv_iload hx hb dX1_judge_229 (lv_at hl 5 rfl) ?_
                      refine lv_iload hx hb dX1_judge_231 (lv_at hl 2 rfl) ?_
                      have g92 := jrg (rfl : x69.toInt = x69.toInt)
                      refine lv_iadd hx hb dX1_judge_233 ?_
                      refine lv_topi (fun x93 ex93 => ?_)
                      have tx93 : x93.toInt = 9 * x59.toInt + x69.toInt := (jadd ex93 tx61 rfl (by omega) (by omega)).trans (by omega)
                      refine lv_iconst (v := 1) hx hb dX1_judge_234 (by decide) ?_
                      refine lv_iadd hx hb dX1_judge_235 ?_
                      refine lv_topi (fun x94 ex94 => ?_)
                      have tx94 : x94.toInt = 9 * x59.toInt + x69.toInt + 1 := (jadd ex94 tx93 jz_1 (by omega) (by omega)).trans (by omega)
                      refine jald hx hb hK hP (jc_34 cI cL ad σ89 τ) (jin tx94 (by omega) (by omega)) dX1_judge_236 ?_
                      refine lv_topi (fun x95 ex95 => ?_)
                      refine lv_aload_n hx hb dX1_judge_237 rfl (lv_at hl 12 rfl) ?_
                      refine va_get (D := D) hx hb hts inlX1 hown hK hP 31 (jc_31 cI cL ad σ89 τ) rfl 4 (by decide) (hts _ kw_5_5) (fun _ h9 => h9) rfl dX1_judge_238 ?_
                      refine lv_iload hx hb dX1_judge_241 (lv_at hl 5 rfl) ?_
                      refine lv_iload hx hb dX1_judge_243 (lv_at hl 2 rfl) ?_
                      refine lv_iadd hx hb dX1_judge_245 ?_
                      refine lv_topi (fun x96 ex96 => ?_)
                      have tx96 : x96.toInt = 9 * x59.toInt + x69.toInt := (jadd ex96 tx61 rfl (by omega) (by omega)).trans (by omega)
                      refine jald hx hb hK hP (jc_34 cI cL ad σ89 τ) (jin tx96 (by omega) (by omega)) dX1_judge_246 ?_
                      refine lv_topi (fun x97 ex97 => ?_)
                      refine jcallV (As := [.int r81, .int r90, .int x95, .int x97]) (rest := []) ⟨hx, hb, hml, hown, hts⟩ hK hP hA hS hZ (c_X6_meanOf_16 l D cI cL ad zz hJ σ89 τ r81 (r81.toInt) rfl r90 (r90.toInt) rfl x95 (x95.toInt) rfl x97 (x97.toInt) rfl) cw_RX1_146 (jc_16 cI cL ad σ89 τ) rfl ⟨Nat.le_of_ble_eq_true rfl, Nat.le_of_ble_eq_true rfl⟩ rfl rfl rfl hl.1 rfl (Nat.le_of_ble_eq_true rfl) dX1_judge_247 ⟨Nat.zero_le _, Nat.zero_le _⟩ (fun r99 σ98 τ98 H locs h98 hP hS => ?_)
                      obtain ⟨⟨rfl, rfl⟩, h98⟩ := h98
                      refine lv_istore (lv' := [(17, .int r99), (16, .int r90), (15, .int r81), (14, .int x69), (13, .int r66), (12, .int r64), (11, .int x61), (10, .int x40), (9, .int x24), (8, .int x16), (7, .int x15), (6, .int x14), (5, .int x11), (0, .ref (ad 31)), (1, .int a1), (2, .ref (ad 1)), (3, .int a3), (4, .int a4)]) hx hb dX1_judge_250 hl (by decide) rfl (fun ls hl => ?_)
                      refine lv_aload_n hx hb dX1_judge_252 rfl (lv_at hl 13 rfl) ?_
                      refine va_get (D := D) hx hb hts inlX1 hown hK hP 31 (jc_31 cI cL ad σ89 τ) rfl 5 (by decide) (hts _ kw_5_6) (fun _ h9 => h9) rfl dX1_judge_253 ?_
                      refine lv_iload hx hb dX1_judge_256 (lv_at hl 10 rfl) ?_
                      refine lv_iload hx hb dX1_judge_258 (lv_at hl 3 rfl) ?_
                      refine lv_iadd hx hb dX1_judge_260 ?_
                      refine lv_topi (fun x100 ex100 => ?_)
                      have tx100 : x100.toInt = 9 * A1 + x69.toInt := (jadd ex100 tx15 rfl (by omega) (by omega)).trans (by omega)
                      refine jald hx hb hK hP (jc_35 cI cL ad σ89 τ) (jin tx100 (by omega) (by omega)) dX1_judge_261 ?_
                      refine lv_topi (fun x101 ex101 => ?_)
                      refine lv_if_lt (tgt := 280) hx hb dX1_judge_262 (by decide) (fun c102 => ?_) (fun c102 => ?_)
                      · have kc102 := jlt c102 rfl jz_0
                        refine lv_aload_n hx hb dX1_judge_280 rfl (lv_at hl 13 rfl) ?_
                        refine va_get (D := D) hx hb hts inlX1 hown hK hP 31 (jc_31 cI cL ad σ89 τ) rfl 4 (by decide) (hts _ kw_5_5) (fun _ h9 => h9) rfl dX1_judge_281 ?_
                        refine lv_iload hx hb dX1_judge_284 (lv_at hl 10 rfl) ?_
                        refine lv_iload hx hb dX1_judge_286 (lv_at hl 3 rfl) ?_
                        refine lv_iadd hx hb dX1_judge_288 ?_
                        refine lv_topi (fun x103 ex103 => ?_)
                        have tx103 : x103.toInt = 9 * A1 + x69.toInt := (jadd ex103 tx15 rfl (by omega) (by omega)).trans (by omega)
                        refine lv_iload hx hb dX1_judge_289 (lv_at hl 0 rfl) ?_
                        refine jast hx hb hK hP hJ hA hS (jc_34 cI cL ad σ89 τ) (ja_34 cI cL ad σ89 τ _ _) (jin tx103 (by omega) (by omega)) dX1_judge_291 (fun σ104 H locs eσ104 hP hS => ?_)
                        refine lv_aload_n hx hb dX1_judge_292 rfl (lv_at hl 13 rfl) ?_
                        refine va_get (D := D) hx hb hts inlX1 hown hK hP 31 (jc_31 cI cL ad σ104 τ) rfl 5 (by decide) (hts _ kw_5_6) (fun _ h9 => h9) rfl dX1_judge_293 ?_
                        refine lv_iload hx hb dX1_judge_296 (lv_at hl 10 rfl) ?_
                        refine lv_iload hx hb dX1_judge_298 (lv_at hl 3 rfl) ?_
                        refine lv_iadd hx hb dX1_judge_300 ?_
                        refine lv_topi (fun x105 ex105 => ?_)
                        have tx105 : x105.toInt = 9 * A1 + x69.toInt := (jadd ex105 tx15 rfl (by omega) (by omega)).trans (by omega)
                        refine lv_iload hx hb dX1_judge_301 (lv_at hl 7 rfl) ?_
                        refine jast hx hb hK hP hJ hA hS (jc_35 cI cL ad σ104 τ) (ja_35 cI cL ad σ104 τ _ _) (jin tx105 (by omega) (by omega)) dX1_judge_303 (fun σ106 H locs eσ106 hP hS => ?_)
                        obtain ⟨x107, ex107⟩ : ∃ y : Int32, y = x69 + 1 := ⟨_, rfl⟩
                        have tx107 : x107.toInt = x69.toInt + 1 := (jadd ex107 rfl jz_1 (by omega) (by omega)).trans (by omega)
                        refine lv_iinc (v := x107) (lv' := [(14, .int x107), (17, .int r99), (16, .int r90), (15, .int r81), (13, .int r66), (12, .int r64), (11, .int x61), (10, .int x40), (9, .int x24), (8, .int x16), (7, .int x15), (6, .int x14), (5, .int x11), (0, .ref (ad 31)), (1, .int a1), (2, .ref (ad 1)), (3, .int a3), (4, .int a4)]) hx hb dX1_judge_304 hl (k := 3) rfl (by rw [ex107]; rfl) (by decide) rfl (fun ls hl => ?_)
                        refine lv_goto (tgt := 165) hx hb dX1_judge_307 (by decide) ?_
                        exact ihlp67 x107 σ106 _ _ ls (by have h90 := tx107; omega) (by have h90 := tx107; omega) (fun i hi => by rw [eσ106, jup_n (by omega), eσ104, jup_n (by omega), f91 i (by omega), f76 i hi])    hP hS (lv_sub hl [0, 4, 5, 6, 7, 8, 9, 10, 11, 12, 13, 14, 15, 16, 17] rfl)
                      · have kc102 := jnlt c102 rfl jz_0
                        refine lv_iload hx hb dX1_judge_265 (lv_at hl 0 rfl) ?_
                        refine lv_aload_n hx hb dX1_judge_267 rfl (lv_at hl 13 rfl) ?_
                        refine va_get (D := D) hx hb hts inlX1 hown hK hP 31 (jc_31 cI cL ad σ89 τ) rfl 4 (by decide) (hts _ kw_5_5) (fun _ h9 => h9) rfl dX1_judge_268 ?_
                        refine lv_iload hx hb dX1_judge_271 (lv_at hl 10 rfl) ?_
                        refine lv_iload hx hb dX1_judge_273 (lv_at hl 3 rfl) ?_
                        refine lv_iadd hx hb dX1_judge_275 ?_
                        refine lv_topi (fun x108 ex108 => ?_)
                        have tx108 : x108.toInt = 9 * A1 + x69.toInt := (jadd ex108 tx15 rfl (by omega) (by omega)).trans (by omega)
                        refine jald hx hb hK hP (jc_34 cI cL ad σ89 τ) (jin tx108 (by omega) (by omega)) dX1_judge_276 ?_
                        refine lv_topi (fun x109 ex109 => ?_)
                        refine lv_icmp_ge (tgt := 304) hx hb dX1_judge_277 (by decide) (fun c110 => ?_) (fun c110 => ?_)
                        · have kc110 := jle c110 rfl rfl
                          obtain ⟨x111, ex111⟩ : ∃ y : Int32, y = x69 + 1 := ⟨_, rfl⟩
                          have tx111 : x111.toInt = x69.toInt + 1 := (jadd ex111 rfl jz_1 (by omega) (by omega)).trans (by omega)
                          refine lv_iinc (v := x111) (lv' := [(14, .int x111), (17, .int r99), (16, .int r90), (15, .int r81), (13, .int r66), (12, .int r64), (11, .int x61), (10, .int x40), (9, .int x24), (8, .int x16), (7, .int x15), (6, .int x14), (5, .int x11), (0, .ref (ad 31)), (1, .int a1), (2, .ref (ad 1)), (3, .int a3), (4, .int a4)]) hx hb dX1_judge_304 hl (k := 3) rfl (by rw [ex111]; rfl) (by decide) rfl (fun ls hl => ?_)
                          refine lv_goto (tgt := 165) hx hb dX1_judge_307 (by decide) ?_
                          exact ihlp67 x111 σ89 _ _ ls (by have h90 := tx111; omega) (by have h90 := tx111; omega) (fun i hi => by rw [f91 i (by omega), f76 i hi])    hP hS (lv_sub hl [0, 4, 5, 6, 7, 8, 9, 10, 11, 12, 13, 14, 15, 16, 17] rfl)
                        · have kc110 := jnle c110 rfl rfl
                          refine lv_aload_n hx hb dX1_judge_280 rfl (lv_at hl 13 rfl) ?_
                          refine va_get (D := D) hx hb hts inlX1 hown hK hP 31 (jc_31 cI cL ad σ89 τ) rfl 4 (by decide) (hts _ kw_5_5) (fun _ h9 => h9) rfl dX1_judge_281 ?_
                          refine lv_iload hx hb dX1_judge_284 (lv_at hl 10 rfl) ?_
                          refine lv_iload hx hb dX1_judge_286 (lv_at hl 3 rfl) ?_
                          refine lv_iadd hx hb dX1_judge_288 ?_
                          refine lv_topi (fun x112 ex112 => ?_)
                          have tx112 : x112.toInt = 9 * A1 + x69.toInt := (jadd ex112 tx15 rfl (by omega) (by omega)).trans (by omega)
                          refine lv_iload hx hb dX1_judge_289 (lv_at hl 0 rfl) ?_
                          refine jast hx hb hK hP hJ hA hS (jc_34 cI cL ad σ89 τ) (ja_34 cI cL ad σ89 τ _ _) (jin tx112 (by omega) (by omega)) dX1_judge_291 (fun σ113 H locs eσ113 hP hS => ?_)
                          refine lv_aload_n hx hb dX1_judge_292 rfl (lv_at hl 13 rfl) ?_
                          refine va_get (D := D) hx hb hts inlX1 hown hK hP 31 (jc_31 cI cL ad σ113 τ) rfl 5 (by decide) (hts _ kw_5_6) (fun _ h9 => h9) rfl dX1_judge_293 ?_
                          refine lv_iload hx hb dX1_judge_296 (lv_at hl 10 rfl) ?_
                          refine lv_iload hx hb dX1_judge_298 (lv_at hl 3 rfl) ?_
                          refine lv_iadd hx hb dX1_judge_300 ?_
                          refine lv_topi (fun x114 ex114 => ?_)
                          have tx114 : x114.toInt = 9 * A1 + x69.toInt := (jadd ex114 tx15 rfl (by omega) (by omega)).trans (by omega)
                          refine lv_iload hx hb dX1_judge_301 (lv_at hl 7 rfl) ?_
                          refine jast hx hb hK hP hJ hA hS (jc_35 cI cL ad σ113 τ) (ja_35 cI cL ad σ113 τ _ _) (jin tx114 (by omega) (by omega)) dX1_judge_303 (fun σ115 H locs eσ115 hP hS => ?_)
                          obtain ⟨x116, ex116⟩ : ∃ y : Int32, y = x69 + 1 := ⟨_, rfl⟩
                          have tx116 : x116.toInt = x69.toInt + 1 := (jadd ex116 rfl jz_1 (by omega) (by omega)).trans (by omega)
                          refine lv_iinc (v := x116) (lv' := [(14, .int x116), (17, .int r99), (16, .int r90), (15, .int r81), (13, .int r66), (12, .int r64), (11, .int x61), (10, .int x40), (9, .int x24), (8, .int x16), (7, .int x15), (6, .int x14), (5, .int x11), (0, .ref (ad 31)), (1, .int a1), (2, .ref (ad 1)), (3, .int a3), (4, .int a4)]) hx hb dX1_judge_304 hl (k := 3) rfl (by rw [ex116]; rfl) (by decide) rfl (fun ls hl => ?_)
                          refine lv_goto (tgt := 165) hx hb dX1_judge_307 (by decide) ?_
                          exact ihlp67 x116 σ115 _ _ ls (by have h90 := tx116; omega) (by have h90 := tx116; omega) (fun i hi => by rw [eσ115, jup_n (by omega), eσ113, jup_n (by omega), f91 i (by omega), f76 i hi])    hP hS (lv_sub hl [0, 4, 5, 6, 7, 8, 9, 10, 11, 12, 13, 14, 15, 16, 17] rfl)
                exact lp67 3000000001 x16 σ48 _ _ ls (by omega) (by omega) (fun _ _ => rfl)   hP hS hl
              · have kc62 := jnle c62 jz_0 tx61
                refine lv_goto (tgt := 310) hx hb dX1_judge_140 (by decide) ?_
                obtain ⟨x117, ex117⟩ : ∃ y : Int32, y = x40 + 1 := ⟨_, rfl⟩
                have tx117 : x117.toInt = x40.toInt + 1 := (jadd ex117 rfl jz_1 (by omega) (by omega)).trans (by omega)
                refine lv_iinc (v := x117) (lv' := [(10, .int x117), (11, .int x61), (9, .int x24), (8, .int x16), (7, .int x15), (6, .int x14), (5, .int x11), (0, .ref (ad 31)), (1, .int a1), (2, .ref (ad 1)), (3, .int a3), (4, .int a4)]) hx hb dX1_judge_310 hl (k := 1) rfl (by rw [ex117]; rfl) (by decide) rfl (fun ls hl => ?_)
                refine lv_goto (tgt := 113) hx hb dX1_judge_313 (by decide) ?_
                exact ihlp38 x117 σ48 _ _ ls (by have h90 := tx117; omega) (by have h90 := tx117; omega) (by have h90 := tx117; omega) (fun i hi => by rw [f52 i hi])    hP hS (lv_sub hl [0, 2, 3, 4, 5, 6, 7, 8, 9, 10, 11] rfl)
        exact lp38 1000000 0 σ37 _ _ ls (by have h90 := jz_0; omega) (by have h90 := jz_0; omega) (by have h90 := jz_0; omega) (fun _ _ => rfl)   hP hS hl
      · have kc33 := jnlt c33 rfl rfl
        refine lv_aload_n hx hb dX1_judge_66 rfl (lv_at hl 6 rfl) ?_
        refine va_get (D := D) hx hb hts inlX1 hown hK hP 31 (jc_31 cI cL ad σ29 τ) rfl 4 (by decide) (hts _ kw_5_5) (fun _ h9 => h9) rfl dX1_judge_67 ?_
        refine lv_iload hx hb dX1_judge_70 (lv_at hl 3 rfl) ?_
        refine lv_iload hx hb dX1_judge_72 (lv_at hl 0 rfl) ?_
        have g118 := jrg (rfl : x28.toInt = x28.toInt)
        refine lv_iadd hx hb dX1_judge_74 ?_
        refine lv_topi (fun x119 ex119 => ?_)
        have tx119 : x119.toInt = 9 * A1 + x28.toInt := (jadd ex119 tx15 rfl (by omega) (by omega)).trans (by omega)
        refine lv_iconst (v := 0) hx hb dX1_judge_75 (by decide) ?_
        refine jast hx hb hK hP hJ hA hS (jc_34 cI cL ad σ29 τ) (ja_34 cI cL ad σ29 τ _ _) (jin tx119 (by omega) (by omega)) dX1_judge_76 (fun σ120 H locs eσ120 hP hS => ?_)
        refine lv_aload_n hx hb dX1_judge_77 rfl (lv_at hl 6 rfl) ?_
        refine va_get (D := D) hx hb hts inlX1 hown hK hP 31 (jc_31 cI cL ad σ120 τ) rfl 5 (by decide) (hts _ kw_5_6) (fun _ h9 => h9) rfl dX1_judge_78 ?_
        refine lv_iload hx hb dX1_judge_81 (lv_at hl 3 rfl) ?_
        refine lv_iload hx hb dX1_judge_83 (lv_at hl 0 rfl) ?_
        refine lv_iadd hx hb dX1_judge_85 ?_
        refine lv_topi (fun x121 ex121 => ?_)
        have tx121 : x121.toInt = 9 * A1 + x28.toInt := (jadd ex121 tx15 rfl (by omega) (by omega)).trans (by omega)
        refine lv_iconst (v := (-1)) hx hb dX1_judge_86 (by decide) ?_
        refine jast hx hb hK hP hJ hA hS (jc_35 cI cL ad σ120 τ) (ja_35 cI cL ad σ120 τ _ _) (jin tx121 (by omega) (by omega)) dX1_judge_87 (fun σ122 H locs eσ122 hP hS => ?_)
        obtain ⟨x123, ex123⟩ : ∃ y : Int32, y = x28 + 1 := ⟨_, rfl⟩
        have tx123 : x123.toInt = x28.toInt + 1 := (jadd ex123 rfl jz_1 (by omega) (by omega)).trans (by omega)
        refine lv_iinc (v := x123) (lv' := [(10, .int x123), (9, .int x24), (8, .int x16), (7, .int x15), (6, .int x14), (5, .int x11), (0, .ref (ad 31)), (1, .int a1), (2, .ref (ad 1)), (3, .int a3), (4, .int a4)]) hx hb dX1_judge_88 hl (k := 0) rfl (by rw [ex123]; rfl) (by decide) rfl (fun ls hl => ?_)
        refine lv_goto (tgt := 59) hx hb dX1_judge_91 (by decide) ?_
        exact ihlp26 x123 σ122 _ _ ls (by have h90 := tx123; omega) (by have h90 := tx123; omega) (fun i hi => by rw [eσ122, jup_n (by omega), eσ120, jup_n (by omega), f32 i hi])    hP hS (lv_sub hl [0, 1, 2, 3, 4, 5, 6, 7, 8, 9, 10] rfl)
  exact lp26 3000000001 x16 σ _ _ ls (by omega) (by omega) (fun _ _ => rfl)   hP hS hl
set_option maxHeartbeats 4000000 in
set_option maxRecDepth 100000 in
theorem c_X1_seekFor_31_v1 (l : Launch) (D : va_G) (cI cL : ClassId) (ad zz : Nat → Nat) (hJ : jD ad) (σ : Nat → Nat → Int32) (τ : Nat → Nat → Int64) (a2 : Int32) (A2 : Int) (t2 : a2.toInt = A2) (a3 : Int32) (A3 : Int) (t3 : a3.toInt = A3) (a4 : Int32) (A4 : Int) (t4 : a4.toInt = A4) (a5 : Int32) (A5 : Int) (t5 : a5.toInt = A5) (hI16 : jI16 σ) (hI22 : jI22 σ) (hI31 : jI31 σ) : jMv l yX1_seekFor cX1_seekFor 7 none ({ frames := 4, cells := 0, slots := 0, locals := 113 }) D cI cL ad zz [.ref (ad 31), .ref (ad 1), .int a2, .int a3, .int a4, .int a5] σ τ (fun σ' τ' => τ = τ' ∧ (∀ i : Nat, (i < 24 ∨ 25 < i) ∧ (i < 29 ∨ 37 < i) → σ' i = σ i) ∧ (∀ k : Nat, (k < 8 ∨ 8 < k) ∧ (k < 9 ∨ 9 < k) ∧ (k < 10 ∨ 10 < k) ∧ (k < 11 ∨ 11 < k) ∧ (k < 12 ∨ 12 < k) → σ' 31 k = σ 31 k) ∧ (jI31 σ') ∧ True) := by
  refine jMv.of hJ (by decide +kernel) rfl (Nat.le_of_ble_eq_true rfl) ?_
  intro p e s m args below meth c Q ls hC hret hl hP
  obtain ⟨hx, hb, hr, hml, hown, hts, hK, -, hlocks, hZ⟩ := hC
  have hown : s.vm.findClass RX1 = some m.cls := hown
  have hS : va_S (jA ad) s.heap s.heap [] := va_S.rf
  have hA : ∀ q, jA ad q → jA ad q := fun _ h => h
  have hl : lv_has ls 7 [(0, .ref (ad 31)), (1, .ref (ad 1)), (2, .int a2), (3, .int a3), (4, .int a4), (5, .int a5)] := hl
  have g2 := jrg t2
  have g3 := jrg t3
  have g4 := jrg t4
  have g5 := jrg t5
  obtain ⟨i1, i2, i3, w4⟩ : (1 ≤ (σ 16 0).toInt ∧ (σ 16 0).toInt ≤ 8) ∧ (1 ≤ (σ 16 1).toInt ∧ (σ 16 1).toInt ≤ 12) ∧ (0 ≤ (σ 16 2).toInt ∧ (σ 16 2).toInt ≤ 999) ∧ (∀ k : Nat, k < 8 → 0 ≤ (σ 17 k).toInt ∧ (σ 17 k).toInt ≤ 3) := id hI16
  obtain ⟨i5, w6⟩ : (0 ≤ (σ 22 0).toInt ∧ (σ 22 0).toInt ≤ 160) ∧ (∀ k : Nat, k < 160 → 0 ≤ (σ 23 k).toInt ∧ (σ 23 k).toInt ≤ 30000) := id hI22
  obtain ⟨i7, w8, w9⟩ : (0 ≤ (σ 31 8).toInt ∧ (σ 31 8).toInt ≤ 350) ∧ (∀ k : Nat, k < 1400 → (-1) ≤ (σ 33 k).toInt ∧ (σ 33 k).toInt ≤ 350) ∧ (∀ k : Nat, k < 1024 → 0 ≤ (σ 36 k).toInt ∧ (σ 36 k).toInt ≤ 349) := id hI31
  refine lv_aload_n hx hb dX1_seekFor_0 rfl (lv_at hl 0 rfl) ?_
  refine lv_iload_n hx hb dX1_seekFor_1 rfl (lv_at hl 2 rfl) ?_
  refine lv_iload_n hx hb dX1_seekFor_2 rfl (lv_at hl 3 rfl) ?_
  have I10 : jI31 σ := ⟨(by omega), w8, w9⟩
  refine jcallVv (As := [.int a2, .int a3]) (rest := []) ⟨hx, hb, hml, hown, hts⟩ hK hP hA hS hZ (c_X1_grow_31 l D cI cL ad zz hJ σ τ a2 (A2) t2 a3 (A3) t3 I10) cw_RX1_54 (jc_31 cI cL ad σ τ) rfl ⟨Nat.le_of_ble_eq_true rfl, Nat.le_of_ble_eq_true rfl⟩ rfl rfl rfl hl.1 rfl (Nat.le_of_ble_eq_true rfl) dX1_seekFor_3 ⟨Nat.zero_le _, Nat.zero_le _⟩ (fun σ11 τ11 H locs h11 hP hS => ?_)
  obtain ⟨rfl, f13, f14, I15, h11⟩ := h11
  obtain ⟨i16, w17, w18⟩ : (0 ≤ (σ11 31 8).toInt ∧ (σ11 31 8).toInt ≤ 350) ∧ (∀ k : Nat, k < 1400 → (-1) ≤ (σ11 33 k).toInt ∧ (σ11 33 k).toInt ≤ 350) ∧ (∀ k : Nat, k < 1024 → 0 ≤ (σ11 36 k).toInt ∧ (σ11 36 k).toInt ≤ 349) := id I15
  refine lv_aload_n hx hb dX1_seekFor_6 rfl (lv_at hl 0 rfl) ?_
  refine va_get (D := D) hx hb hts inlX1 hown hK hP 31 (jc_31 cI cL ad σ11 τ) rfl 8 (by decide) (hts _ kw_27_22) (fun _ h9 => h9) rfl dX1_seekFor_7 ?_
  refine lv_iconst (v := 1) hx hb dX1_seekFor_10 (by decide) ?_
  have g19 := jrg (rfl : (σ11 31 8).toInt = (σ11 31 8).toInt)
  refine lv_isub hx hb dX1_seekFor_11 ?_
  refine lv_topi (fun x20 ex20 => ?_)
  have tx20 : x20.toInt = (σ11 31 8).toInt - 1 := (jsub ex20 rfl jz_1 (by omega) (by omega)).trans (by omega)
  refine lv_istore (lv' := [(6, .int x20), (0, .ref (ad 31)), (1, .ref (ad 1)), (2, .int a2), (3, .int a3), (4, .int a4), (5, .int a5)]) hx hb dX1_seekFor_12 hl (by decide) rfl (fun ls hl => ?_)
  have lp21 : ∀ (n22 : Nat) (x23 : Int32) (σ24 : Nat → Nat → Int32) (H : Heap) (locs : List Loc) (ls : Array Slot), (x23.toInt + 1 : Int) < n22 → (-1) ≤ x23.toInt → x23.toInt ≤ 349 → (∀ i : Nat, (i < 24 ∨ 25 < i) ∧ (i < 29 ∨ 30 < i) ∧ (i < 34 ∨ 35 < i) → σ24 i = σ11 i) → jH D cI cL ad σ24 τ H → va_S (jA ad) s.heap H locs → lv_has ls 7 [(6, .int x23), (0, .ref (ad 31)), (1, .ref (ad 1)), (2, .int a2), (3, .int a3), (4, .int a4), (5, .int a5)] → W p l e ({ frames := 4, cells := 0, slots := 0, locals := 113 }) s m args below meth c H locs 0 0 Q (F0 m 14 ls []) := by
    intro n22
    induction n22 with
    | zero => intro x23 σ24 H locs ls h25 h26 h27; exact absurd h25 (by omega)
    | succ n22 ihlp21 =>
      intro x23 σ24 H locs ls h25 h26 h27 f28 hP hS hl
      refine lv_iload hx hb dX1_seekFor_14 (lv_at hl 0 rfl) ?_
      refine lv_if_lt (tgt := 36) hx hb dX1_seekFor_16 (by decide) (fun c29 => ?_) (fun c29 => ?_)
      · have kc29 := jlt c29 rfl jz_0
        have z30 : (σ24 31 8).toInt = (σ11 31 8).toInt := by rw [(show σ24 31 8 = (σ11 31 8) from (by rw [f28 31 (by omega)]))]
        have w31 : ∀ k : Nat, k < 1400 → (-1) ≤ (σ24 33 k).toInt ∧ (σ24 33 k).toInt ≤ 350 := (by rw [f28 33 (by omega)]; exact w17)
        have w32 : ∀ k : Nat, k < 1024 → 0 ≤ (σ24 36 k).toInt ∧ (σ24 36 k).toInt ≤ 349 := (by rw [f28 36 (by omega)]; exact w18)
        have I33 : jI31 σ24 := ⟨(by omega), w31, w32⟩
        exact hret σ24 τ _ _ _ _ ⟨rfl, (fun i hi => by rw [f28 i (by omega), f13 i (by omega)]), (fun k hk => by rw [f28 31 (by omega), f14 k (by omega)]), I33, trivial⟩ hP hS dX1_seekFor_36
      · have kc29 := jnlt c29 rfl jz_0
        refine lv_aload_n hx hb dX1_seekFor_19 rfl (lv_at hl 1 rfl) ?_
        refine lv_iload hx hb dX1_seekFor_20 (lv_at hl 0 rfl) ?_
        refine lv_aload_n hx hb dX1_seekFor_22 rfl (lv_at hl 2 rfl) ?_
        refine lv_iload hx hb dX1_seekFor_23 (lv_at hl 5 rfl) ?_
        refine lv_iload hx hb dX1_seekFor_25 (lv_at hl 6 rfl) ?_
        have z34 : (σ24 16 0).toInt = (σ 16 0).toInt := by rw [(show σ24 16 0 = (σ 16 0) from (by rw [f28 16 (by omega)]; exact (by rw [f13 16 (by omega)])))]
        have z35 : (σ24 16 1).toInt = (σ 16 1).toInt := by rw [(show σ24 16 1 = (σ 16 1) from (by rw [f28 16 (by omega)]; exact (by rw [f13 16 (by omega)])))]
        have z36 : (σ24 16 2).toInt = (σ 16 2).toInt := by rw [(show σ24 16 2 = (σ 16 2) from (by rw [f28 16 (by omega)]; exact (by rw [f13 16 (by omega)])))]
        have w37 : ∀ k : Nat, k < 8 → 0 ≤ (σ24 17 k).toInt ∧ (σ24 17 k).toInt ≤ 3 := (by rw [f28 17 (by omega)]; exact (by rw [f13 17 (by omega)]; exact w4))
        have I38 : jI16 σ24 := ⟨(by omega), (by omega), (by omega), w37⟩
        have z39 : (σ24 22 0).toInt = (σ 22 0).toInt := by rw [(show σ24 22 0 = (σ 22 0) from (by rw [f28 22 (by omega)]; exact (by rw [f13 22 (by omega)])))]
        have w40 : ∀ k : Nat, k < 160 → 0 ≤ (σ24 23 k).toInt ∧ (σ24 23 k).toInt ≤ 30000 := (by rw [f28 23 (by omega)]; exact (by rw [f13 23 (by omega)]; exact w6))
        have I41 : jI22 σ24 := ⟨(by omega), w40⟩
        have z42 : (σ24 31 8).toInt = (σ11 31 8).toInt := by rw [(show σ24 31 8 = (σ11 31 8) from (by rw [f28 31 (by omega)]))]
        have w43 : ∀ k : Nat, k < 1400 → (-1) ≤ (σ24 33 k).toInt ∧ (σ24 33 k).toInt ≤ 350 := (by rw [f28 33 (by omega)]; exact w17)
        have w44 : ∀ k : Nat, k < 1024 → 0 ≤ (σ24 36 k).toInt ∧ (σ24 36 k).toInt ≤ 349 := (by rw [f28 36 (by omega)]; exact w18)
        have I45 : jI31 σ24 := ⟨(by omega), w43, w44⟩
        refine jcallVv (As := [.int x23, .ref (ad 1), .int a4, .int a5]) (rest := []) ⟨hx, hb, hml, hown, hts⟩ hK hP hA hS hZ (c_X1_judge_31_v1 l D cI cL ad zz hJ σ24 τ x23 (x23.toInt) rfl a4 (A4) t4 a5 (A5) t5 I38 I41 I45 (by omega)) cw_RX1_61 (jc_31 cI cL ad σ24 τ) rfl ⟨Nat.le_of_ble_eq_true rfl, Nat.le_of_ble_eq_true rfl⟩ rfl rfl rfl hl.1 rfl (Nat.le_of_ble_eq_true rfl) dX1_seekFor_27 ⟨Nat.zero_le _, Nat.zero_le _⟩ (fun σ46 τ46 H locs h46 hP hS => ?_)
        obtain ⟨rfl, f48, h46⟩ := h46
        obtain ⟨x49, ex49⟩ : ∃ y : Int32, y = x23 + (-1) := ⟨_, rfl⟩
        have tx49 : x49.toInt = x23.toInt - 1 := (jadd ex49 rfl jz_m1 (by omega) (by omega)).trans (by omega)
        refine lv_iinc (v := x49) (lv' := [(6, .int x49), (0, .ref (ad 31)), (1, .ref (ad 1)), (2, .int a2), (3, .int a3), (4, .int a4), (5, .int a5)]) hx hb dX1_seekFor_30 hl (k := 0) rfl (by rw [ex49]; rfl) (by decide) rfl (fun ls hl => ?_)
        refine lv_goto (tgt := 14) hx hb dX1_seekFor_33 (by decide) ?_
        exact ihlp21 x49 σ46 _ _ ls (by have h90 := tx49; omega) (by have h90 := tx49; omega) (by have h90 := tx49; omega) (fun i hi => by rw [f48 i (by omega), f28 i hi])    hP hS (lv_sub hl [0, 1, 2, 3, 4, 5, 6] rfl)
  exact lp21 1000000 x20 σ11 _ _ ls (by have h90 := tx20; omega) (by have h90 := tx20; omega) (by have h90 := tx20; omega) (fun _ _ => rfl)   hP hS hl
set_option maxHeartbeats 4000000 in
set_option maxRecDepth 100000 in
theorem c_X1_seek_31 (l : Launch) (D : va_G) (cI cL : ClassId) (ad zz : Nat → Nat) (hJ : jD ad) (σ : Nat → Nat → Int32) (τ : Nat → Nat → Int64) (a1 : Int32) (A1 : Int) (t1 : a1.toInt = A1) (a2 : Int32) (A2 : Int) (t2 : a2.toInt = A2) (a3 : Int32) (A3 : Int) (t3 : a3.toInt = A3) (hI16 : jI16 σ) (hI22 : jI22 σ) (hI31 : jI31 σ) : jMv l yX1_seek cX1_seek 4 none ({ frames := 5, cells := 0, slots := 0, locals := 139 }) D cI cL ad zz [.ref (ad 31), .int a1, .int a2, .int a3] σ τ (fun σ' τ' => τ = τ' ∧ (∀ i : Nat, (i < 24 ∨ 25 < i) ∧ (i < 29 ∨ 37 < i) → σ' i = σ i) ∧ (∀ k : Nat, (k < 8 ∨ 8 < k) ∧ (k < 9 ∨ 9 < k) ∧ (k < 10 ∨ 10 < k) ∧ (k < 11 ∨ 11 < k) ∧ (k < 12 ∨ 12 < k) → σ' 31 k = σ 31 k) ∧ (jI31 σ') ∧ True) := by
  refine jMv.of hJ (by decide +kernel) rfl (Nat.le_of_ble_eq_true rfl) ?_
  intro p e s m args below meth c Q ls hC hret hl hP
  obtain ⟨hx, hb, hr, hml, hown, hts, hK, -, hlocks, hZ⟩ := hC
  have hown : s.vm.findClass RX1 = some m.cls := hown
  have hS : va_S (jA ad) s.heap s.heap [] := va_S.rf
  have hA : ∀ q, jA ad q → jA ad q := fun _ h => h
  have hl : lv_has ls 4 [(0, .ref (ad 31)), (1, .int a1), (2, .int a2), (3, .int a3)] := hl
  have g1 := jrg t1
  have g2 := jrg t2
  have g3 := jrg t3
  obtain ⟨i1, i2, i3, w4⟩ : (1 ≤ (σ 16 0).toInt ∧ (σ 16 0).toInt ≤ 8) ∧ (1 ≤ (σ 16 1).toInt ∧ (σ 16 1).toInt ≤ 12) ∧ (0 ≤ (σ 16 2).toInt ∧ (σ 16 2).toInt ≤ 999) ∧ (∀ k : Nat, k < 8 → 0 ≤ (σ 17 k).toInt ∧ (σ 17 k).toInt ≤ 3) := id hI16
  obtain ⟨i5, w6⟩ : (0 ≤ (σ 22 0).toInt ∧ (σ 22 0).toInt ≤ 160) ∧ (∀ k : Nat, k < 160 → 0 ≤ (σ 23 k).toInt ∧ (σ 23 k).toInt ≤ 30000) := id hI22
  obtain ⟨i7, w8, w9⟩ : (0 ≤ (σ 31 8).toInt ∧ (σ 31 8).toInt ≤ 350) ∧ (∀ k : Nat, k < 1400 → (-1) ≤ (σ 33 k).toInt ∧ (σ 33 k).toInt ≤ 350) ∧ (∀ k : Nat, k < 1024 → 0 ≤ (σ 36 k).toInt ∧ (σ 36 k).toInt ≤ 349) := id hI31
  refine lv_aload_n hx hb dX1_seek_0 rfl (lv_at hl 0 rfl) ?_
  refine lv_aload_n hx hb dX1_seek_1 rfl (lv_at hl 0 rfl) ?_
  refine va_get (D := D) hx hb hts inlX1 hown hK hP 31 (jc_31 cI cL ad σ τ) rfl 1 (by decide) (hts _ kw_5_11) (fun _ h9 => h9) rfl dX1_seek_2 ?_
  refine va_get (D := D) hx hb hts inlX6 hown hK hP 16 (jc_16 cI cL ad σ τ) rfl 3 (by decide) (hts _ kw_27_16) (fun _ h9 => h9) rfl dX1_seek_5 ?_
  refine lv_iload_n hx hb dX1_seek_8 rfl (lv_at hl 1 rfl) ?_
  refine lv_iload_n hx hb dX1_seek_9 rfl (lv_at hl 2 rfl) ?_
  refine lv_iload_n hx hb dX1_seek_10 rfl (lv_at hl 3 rfl) ?_
  refine lv_aload_n hx hb dX1_seek_11 rfl (lv_at hl 0 rfl) ?_
  refine va_get (D := D) hx hb hts inlX1 hown hK hP 31 (jc_31 cI cL ad σ τ) rfl 1 (by decide) (hts _ kw_5_11) (fun _ h9 => h9) rfl dX1_seek_12 ?_
  refine va_get (D := D) hx hb hts inlX6 hown hK hP 16 (jc_16 cI cL ad σ τ) rfl 0 (by decide) (hts _ kw_27_17) (fun _ h9 => h9) rfl dX1_seek_15 ?_
  refine lv_iconst (v := 1) hx hb dX1_seek_18 (by decide) ?_
  have g10 := jrg (rfl : (σ 16 0).toInt = (σ 16 0).toInt)
  refine lv_isub hx hb dX1_seek_19 ?_
  refine lv_topi (fun x11 ex11 => ?_)
  have tx11 : x11.toInt = (σ 16 0).toInt - 1 := (jsub ex11 rfl jz_1 (by omega) (by omega)).trans (by omega)
  have I12 : jI16 σ := ⟨(by omega), (by omega), (by omega), w4⟩
  have I13 : jI22 σ := ⟨(by omega), w6⟩
  have I14 : jI31 σ := ⟨(by omega), w8, w9⟩
  refine jcallVv (As := [.ref (ad 17), .int a1, .int a2, .int a3, .int x11]) (rest := []) ⟨hx, hb, hml, hown, hts⟩ hK hP hA hS hZ (c_X1_seekFor_31 l D cI cL ad zz hJ σ τ a1 (A1) t1 a2 (A2) t2 a3 (A3) t3 x11 ((σ 16 0).toInt - 1) tx11 I12 I13 I14) cw_RX1_50 (jc_31 cI cL ad σ τ) rfl ⟨Nat.le_of_ble_eq_true rfl, Nat.le_of_ble_eq_true rfl⟩ rfl rfl rfl hl.1 rfl (Nat.le_of_ble_eq_true rfl) dX1_seek_20 ⟨Nat.zero_le _, Nat.zero_le _⟩ (fun σ15 τ15 H locs h15 hP hS => ?_)
  obtain ⟨rfl, f17, f18, I19, h15⟩ := h15
  obtain ⟨i20, w21, w22⟩ : (0 ≤ (σ15 31 8).toInt ∧ (σ15 31 8).toInt ≤ 350) ∧ (∀ k : Nat, k < 1400 → (-1) ≤ (σ15 33 k).toInt ∧ (σ15 33 k).toInt ≤ 350) ∧ (∀ k : Nat, k < 1024 → 0 ≤ (σ15 36 k).toInt ∧ (σ15 36 k).toInt ≤ 349) := id I19
  exact hret σ15 τ _ _ _ _ ⟨rfl, (fun i hi => by rw [f17 i (by omega)]), (fun k hk => by rw [f18 k (by omega)]), I19, trivial⟩ hP hS dX1_seek_23
