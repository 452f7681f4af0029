set_option maxHeartbeats 4000000 in
set_option maxRecDepth 100000 in
theorem c_X1_valueAt_31 (l : Launch) (D : va_G) (cI cL : ClassId) (ad zz : Nat → Nat) (hJ : jD ad) (σ : Nat → Nat → Int32) (τ : Nat → Nat → Int64) (a1 : Int32) (A1 : Int) (t1 : a1.toInt = A1) (a2 : Int32) (A2 : Int) (t2 : a2.toInt = A2) (hI16 : jI16 σ) (hI31 : jI31 σ) : jM l yX1_valueAt cX1_valueAt 3 (some .int) ({ frames := 0, cells := 0, slots := 0, locals := 0 }) D cI cL ad zz [.ref (ad 31), .int a1, .int a2] σ τ (fun r σ' τ' => (σ = σ' ∧ τ = τ') ∧ True) := by
  refine jM.of hJ (by decide +kernel) (nt := .int) rfl (Nat.le_of_ble_eq_true rfl) ?_
  intro p e s m args below meth c Q ls hC hret hl hP
  obtain ⟨hx, hb, hr, hml, hown, hts, hK, -, hlocks, hZ⟩ := hC
  have hown : s.vm.findClass RX1 = some m.cls := hown
  have hS : va_S (jA ad) s.heap s.heap [] := va_S.rf
  have hA : ∀ q, jA ad q → jA ad q := fun _ h => h
  have hl : lv_has ls 3 [(0, .ref (ad 31)), (1, .int a1), (2, .int a2)] := hl
  have g1 := jrg t1
  have g2 := jrg t2
  obtain ⟨i1, i2, i3, w4⟩ : (1 ≤ (σ 16 0).toInt ∧ (σ 16 0).toInt ≤ 8) ∧ (1 ≤ (σ 16 1).toInt ∧ (σ 16 1).toInt ≤ 12) ∧ (0 ≤ (σ 16 2).toInt ∧ (σ 16 2).toInt ≤ 999) ∧ (∀ k : Nat, k < 8 → 0 ≤ (σ 17 k).toInt ∧ (σ 17 k).toInt ≤ 3) := id hI16
  obtain ⟨i5, w6, w7⟩ : (0 ≤ (σ 31 8).toInt ∧ (σ 31 8).toInt ≤ 350) ∧ (∀ k : Nat, k < 1400 → (-1) ≤ (σ 33 k).toInt ∧ (σ 33 k).toInt ≤ 350) ∧ (∀ k : Nat, k < 1024 → 0 ≤ (σ 36 k).toInt ∧ (σ 36 k).toInt ≤ 349) := id hI31
  refine lv_iload_n hx hb dX1_valueAt_0 rfl (lv_at hl 1 rfl) ?_
  refine lv_if_lt (tgt := 27) hx hb dX1_valueAt_1 (of_decide_eq_true rfl) (fun c8 => ?_) (fun c8 => ?_)
  · have kc8 := jlt c8 t1 jz_0
    refine lv_iconst (v := 0) hx hb dX1_valueAt_27 (of_decide_eq_true rfl) ?_
    refine lv_goto (tgt := 42) hx hb dX1_valueAt_28 (of_decide_eq_true rfl) ?_
    exact hret 0 σ τ _ _ _ _ rfl ⟨⟨rfl, rfl⟩, trivial⟩ hP hS dX1_valueAt_42
  · have kc8 := jnlt c8 t1 jz_0
    refine lv_iload_n hx hb dX1_valueAt_4 rfl (lv_at hl 1 rfl) ?_
    refine lv_aload_n hx hb dX1_valueAt_5 rfl (lv_at hl 0 rfl) ?_
    refine va_get (D := D) hx hb hts inlX1 hown hK hP 31 (jc_31 cI cL ad σ τ) rfl 8 (of_decide_eq_true rfl) (hts _ kw_27_22) (fun _ h9 => h9) rfl dX1_valueAt_6 ?_
    refine lv_icmp_ge (tgt := 27) hx hb dX1_valueAt_9 (of_decide_eq_true rfl) (fun c9 => ?_) (fun c9 => ?_)
    · have kc9 := jle c9 rfl t1
      refine lv_iconst (v := 0) hx hb dX1_valueAt_27 (of_decide_eq_true rfl) ?_
      refine lv_goto (tgt := 42) hx hb dX1_valueAt_28 (of_decide_eq_true rfl) ?_
      exact hret 0 σ τ _ _ _ _ rfl ⟨⟨rfl, rfl⟩, trivial⟩ hP hS dX1_valueAt_42
    · have kc9 := jnle c9 rfl t1
      refine lv_iload_n hx hb dX1_valueAt_12 rfl (lv_at hl 2 rfl) ?_
      refine lv_if_lt (tgt := 27) hx hb dX1_valueAt_13 (of_decide_eq_true rfl) (fun c10 => ?_) (fun c10 => ?_)
      · have kc10 := jlt c10 t2 jz_0
        refine lv_iconst (v := 0) hx hb dX1_valueAt_27 (of_decide_eq_true rfl) ?_
        refine lv_goto (tgt := 42) hx hb dX1_valueAt_28 (of_decide_eq_true rfl) ?_
        exact hret 0 σ τ _ _ _ _ rfl ⟨⟨rfl, rfl⟩, trivial⟩ hP hS dX1_valueAt_42
      · have kc10 := jnlt c10 t2 jz_0
        refine lv_iload_n hx hb dX1_valueAt_16 rfl (lv_at hl 2 rfl) ?_
        refine lv_aload_n hx hb dX1_valueAt_17 rfl (lv_at hl 0 rfl) ?_
        refine va_get (D := D) hx hb hts inlX1 hown hK hP 31 (jc_31 cI cL ad σ τ) rfl 1 (of_decide_eq_true rfl) (hts _ kw_5_11) (fun _ h9 => h9) rfl dX1_valueAt_18 ?_
        refine va_get (D := D) hx hb hts inlX6 hown hK hP 16 (jc_16 cI cL ad σ τ) rfl 0 (of_decide_eq_true rfl) (hts _ kw_27_17) (fun _ h9 => h9) rfl dX1_valueAt_21 ?_
        refine lv_icmp_lt (tgt := 31) hx hb dX1_valueAt_24 (of_decide_eq_true rfl) (fun c11 => ?_) (fun c11 => ?_)
        · have kc11 := jlt c11 t2 rfl
          refine lv_aload_n hx hb dX1_valueAt_31 rfl (lv_at hl 0 rfl) ?_
          refine va_get (D := D) hx hb hts inlX1 hown hK hP 31 (jc_31 cI cL ad σ τ) rfl 4 (of_decide_eq_true rfl) (hts _ kw_5_5) (fun _ h9 => h9) rfl dX1_valueAt_32 ?_
          refine lv_iload_n hx hb dX1_valueAt_35 rfl (lv_at hl 1 rfl) ?_
          refine lv_bipush (v := 9) hx hb dX1_valueAt_36 (of_decide_eq_true rfl) ?_
          refine lv_imul hx hb dX1_valueAt_38 ?_
          refine lv_topi (fun x12 ex12 => ?_)
          exact by
           have tx12 : x12.toInt = 9 * A1 := (jmul ex12 t1 jz_9 (by omega) (by omega)).trans (by omega)
           refine lv_iload_n hx hb dX1_valueAt_39 rfl (lv_at hl 2 rfl) ?_
           refine lv_iadd hx hb dX1_valueAt_40 ?_
           refine lv_topi (fun x13 ex13 => ?_)
           have tx13 : x13.toInt = 9 * A1 + A2 := (jadd ex13 tx12 t2 (by omega) (by omega)).trans (by omega)
           refine jald hx hb hK hP (jc_34 cI cL ad σ τ) (jin tx13 (by omega) (by omega)) dX1_valueAt_41 ?_
           refine lv_topi (fun x14 ex14 => ?_)
           exact hret x14 σ τ _ _ _ _ rfl ⟨⟨rfl, rfl⟩, trivial⟩ hP hS dX1_valueAt_42
        · have kc11 := jnlt c11 t2 rfl
          exact by
           refine lv_iconst (v := 0) hx hb dX1_valueAt_27 (of_decide_eq_true rfl) ?_
           refine lv_goto (tgt := 42) hx hb dX1_valueAt_28 (of_decide_eq_true rfl) ?_
           exact hret 0 σ τ _ _ _ _ rfl ⟨⟨rfl, rfl⟩, trivial⟩ hP hS dX1_valueAt_42
set_option maxHeartbeats 4000000 in
set_option maxRecDepth 100000 in
theorem c_X1_whomAt_31 (l : Launch) (D : va_G) (cI cL : ClassId) (ad zz : Nat → Nat) (hJ : jD ad) (σ : Nat → Nat → Int32) (τ : Nat → Nat → Int64) (a1 : Int32) (A1 : Int) (t1 : a1.toInt = A1) (a2 : Int32) (A2 : Int) (t2 : a2.toInt = A2) (hI16 : jI16 σ) (hI31 : jI31 σ) : jM l yX1_whomAt cX1_whomAt 3 (some .int) ({ frames := 0, cells := 0, slots := 0, locals := 0 }) D cI cL ad zz [.ref (ad 31), .int a1, .int a2] σ τ (fun r σ' τ' => (σ = σ' ∧ τ = τ') ∧ True) := by
  refine jM.of hJ (by decide +kernel) (nt := .int) rfl (Nat.le_of_ble_eq_true rfl) ?_
  intro p e s m args below meth c Q ls hC hret hl hP
  obtain ⟨hx, hb, hr, hml, hown, hts, hK, -, hlocks, hZ⟩ := hC
  have hown : s.vm.findClass RX1 = some m.cls := hown
  have hS : va_S (jA ad) s.heap s.heap [] := va_S.rf
  have hA : ∀ q, jA ad q → jA ad q := fun _ h => h
  have hl : lv_has ls 3 [(0, .ref (ad 31)), (1, .int a1), (2, .int a2)] := hl
  have g1 := jrg t1
  have g2 := jrg t2
  obtain ⟨i1, i2, i3, w4⟩ : (1 ≤ (σ 16 0).toInt ∧ (σ 16 0).toInt ≤ 8) ∧ (1 ≤ (σ 16 1).toInt ∧ (σ 16 1).toInt ≤ 12) ∧ (0 ≤ (σ 16 2).toInt ∧ (σ 16 2).toInt ≤ 999) ∧ (∀ k : Nat, k < 8 → 0 ≤ (σ 17 k).toInt ∧ (σ 17 k).toInt ≤ 3) := id hI16
  obtain ⟨i5, w6, w7⟩ : (0 ≤ (σ 31 8).toInt ∧ (σ 31 8).toInt ≤ 350) ∧ (∀ k : Nat, k < 1400 → (-1) ≤ (σ 33 k).toInt ∧ (σ 33 k).toInt ≤ 350) ∧ (∀ k : Nat, k < 1024 → 0 ≤ (σ 36 k).toInt ∧ (σ 36 k).toInt ≤ 349) := id hI31
  refine lv_iload_n hx hb dX1_whomAt_0 rfl (lv_at hl 1 rfl) ?_
  refine lv_if_lt (tgt := 27) hx hb dX1_whomAt_1 (of_decide_eq_true rfl) (fun c8 => ?_) (fun c8 => ?_)
  · have kc8 := jlt c8 t1 jz_0
    refine lv_iconst (v := (-1)) hx hb dX1_whomAt_27 (of_decide_eq_true rfl) ?_
    refine lv_goto (tgt := 42) hx hb dX1_whomAt_28 (of_decide_eq_true rfl) ?_
    exact hret (-1) σ τ _ _ _ _ rfl ⟨⟨rfl, rfl⟩, trivial⟩ hP hS dX1_whomAt_42
  · have kc8 := jnlt c8 t1 jz_0
    refine lv_iload_n hx hb dX1_whomAt_4 rfl (lv_at hl 1 rfl) ?_
    refine lv_aload_n hx hb dX1_whomAt_5 rfl (lv_at hl 0 rfl) ?_
    refine va_get (D := D) hx hb hts inlX1 hown hK hP 31 (jc_31 cI cL ad σ τ) rfl 8 (of_decide_eq_true rfl) (hts _ kw_27_22) (fun _ h9 => h9) rfl dX1_whomAt_6 ?_
    refine lv_icmp_ge (tgt := 27) hx hb dX1_whomAt_9 (of_decide_eq_true rfl) (fun c9 => ?_) (fun c9 => ?_)
    · have kc9 := jle c9 rfl t1
      refine lv_iconst (v := (-1)) hx hb dX1_whomAt_27 (of_decide_eq_true rfl) ?_
      refine lv_goto (tgt := 42) hx hb dX1_whomAt_28 (of_decide_eq_true rfl) ?_
      exact hret (-1) σ τ _ _ _ _ rfl ⟨⟨rfl, rfl⟩, trivial⟩ hP hS dX1_whomAt_42
    · have kc9 := jnle c9 rfl t1
      refine lv_iload_n hx hb dX1_whomAt_12 rfl (lv_at hl 2 rfl) ?_
      refine lv_if_lt (tgt := 27) hx hb dX1_whomAt_13 (of_decide_eq_true rfl) (fun c10 => ?_) (fun c10 => ?_)
      · have kc10 := jlt c10 t2 jz_0
        refine lv_iconst (v := (-1)) hx hb dX1_whomAt_27 (of_decide_eq_true rfl) ?_
        refine lv_goto (tgt := 42) hx hb dX1_whomAt_28 (of_decide_eq_true rfl) ?_
        exact hret (-1) σ τ _ _ _ _ rfl ⟨⟨rfl, rfl⟩, trivial⟩ hP hS dX1_whomAt_42
      · have kc10 := jnlt c10 t2 jz_0
        refine lv_iload_n hx hb dX1_whomAt_16 rfl (lv_at hl 2 rfl) ?_
        refine lv_aload_n hx hb dX1_whomAt_17 rfl (lv_at hl 0 rfl) ?_
        refine va_get (D := D) hx hb hts inlX1 hown hK hP 31 (jc_31 cI cL ad σ τ) rfl 1 (of_decide_eq_true rfl) (hts _ kw_5_11) (fun _ h9 => h9) rfl dX1_whomAt_18 ?_
        refine va_get (D := D) hx hb hts inlX6 hown hK hP 16 (jc_16 cI cL ad σ τ) rfl 0 (of_decide_eq_true rfl) (hts _ kw_27_17) (fun _ h9 => h9) rfl dX1_whomAt_21 ?_
        refine lv_icmp_lt (tgt := 31) hx hb dX1_whomAt_24 (of_decide_eq_true rfl) (fun c11 => ?_) (fun c11 => ?_)
        · have kc11 := jlt c11 t2 rfl
          refine lv_aload_n hx hb dX1_whomAt_31 rfl (lv_at hl 0 rfl) ?_
          refine va_get (D := D) hx hb hts inlX1 hown hK hP 31 (jc_31 cI cL ad σ τ) rfl 5 (of_decide_eq_true rfl) (hts _ kw_5_6) (fun _ h9 => h9) rfl dX1_whomAt_32 ?_
          refine lv_iload_n hx hb dX1_whomAt_35 rfl (lv_at hl 1 rfl) ?_
          refine lv_bipush (v := 9) hx hb dX1_whomAt_36 (of_decide_eq_true rfl) ?_
          refine lv_imul hx hb dX1_whomAt_38 ?_
          refine lv_topi (fun x12 ex12 => ?_)
          exact by
           have tx12 : x12.toInt = 9 * A1 := (jmul ex12 t1 jz_9 (by omega) (by omega)).trans (by omega)
           refine lv_iload_n hx hb dX1_whomAt_39 rfl (lv_at hl 2 rfl) ?_
           refine lv_iadd hx hb dX1_whomAt_40 ?_
           refine lv_topi (fun x13 ex13 => ?_)
           have tx13 : x13.toInt = 9 * A1 + A2 := (jadd ex13 tx12 t2 (by omega) (by omega)).trans (by omega)
           refine jald hx hb hK hP (jc_35 cI cL ad σ τ) (jin tx13 (by omega) (by omega)) dX1_whomAt_41 ?_
           refine lv_topi (fun x14 ex14 => ?_)
           exact hret x14 σ τ _ _ _ _ rfl ⟨⟨rfl, rfl⟩, trivial⟩ hP hS dX1_whomAt_42
        · have kc11 := jnlt c11 t2 rfl
          exact by
           refine lv_iconst (v := (-1)) hx hb dX1_whomAt_27 (of_decide_eq_true rfl) ?_
           refine lv_goto (tgt := 42) hx hb dX1_whomAt_28 (of_decide_eq_true rfl) ?_
           exact hret (-1) σ τ _ _ _ _ rfl ⟨⟨rfl, rfl⟩, trivial⟩ hP hS dX1_whomAt_42
set_option maxHeartbeats 4000000 in
set_option maxRecDepth 100000 in
theorem c_X1_isTaken_31 (l : Launch) (D : va_G) (cI cL : ClassId) (ad zz : Nat → Nat) (hJ : jD ad) (σ : Nat → Nat → Int32) (τ : Nat → Nat → Int64) (a1 : Int32) (A1 : Int) (t1 : a1.toInt = A1) (hI31 : jI31 σ) (hp0 : 0 ≤ A1 ∧ A1 ≤ 1023) : jM l yX1_isTaken cX1_isTaken 3 (some .boolean) ({ frames := 0, cells := 0, slots := 0, locals := 0 }) D cI cL ad zz [.ref (ad 31), .int a1] σ τ (fun r σ' τ' => (σ = σ' ∧ τ = τ') ∧ ((r = 1 ∧ True) ∨ (r = 0 ∧ True))) := by
  refine jM.of hJ (by decide +kernel) (nt := .boolean) rfl (Nat.le_of_ble_eq_true rfl) ?_
  intro p e s m args below meth c Q ls hC hret hl hP
  obtain ⟨hx, hb, hr, hml, hown, hts, hK, -, hlocks, hZ⟩ := hC
  have hown : s.vm.findClass RX1 = some m.cls := hown
  have hS : va_S (jA ad) s.heap s.heap [] := va_S.rf
  have hA : ∀ q, jA ad q → jA ad q := fun _ h => h
  have hl : lv_has ls 3 [(0, .ref (ad 31)), (1, .int a1)] := hl
  have g1 := jrg t1
  obtain ⟨i1, w2, w3⟩ : (0 ≤ (σ 31 8).toInt ∧ (σ 31 8).toInt ≤ 350) ∧ (∀ k : Nat, k < 1400 → (-1) ≤ (σ 33 k).toInt ∧ (σ 33 k).toInt ≤ 350) ∧ (∀ k : Nat, k < 1024 → 0 ≤ (σ 36 k).toInt ∧ (σ 36 k).toInt ≤ 349) := id hI31
  refine lv_aload_n hx hb dX1_isTaken_0 rfl (lv_at hl 0 rfl) ?_
  refine va_get (D := D) hx hb hts inlX1 hown hK hP 31 (jc_31 cI cL ad σ τ) rfl 6 (of_decide_eq_true rfl) (hts _ kw_5_7) (fun _ h9 => h9) rfl dX1_isTaken_1 ?_
  refine lv_iload_n hx hb dX1_isTaken_4 rfl (lv_at hl 1 rfl) ?_
  exact by
   refine jald hx hb hK hP (jc_36 cI cL ad σ τ) (jin t1 (by omega) (by omega)) dX1_isTaken_5 ?_
   have g4 := w3 _ (jnat (x := a1) t1 (n := 1024) (by omega) (of_decide_eq_true rfl))
   refine lv_topi (fun x5 ex5 => ?_)
   rw [← ex5] at g4
   refine lv_istore_n (lv' := [(2, .int x5), (0, .ref (ad 31)), (1, .int a1)]) hx hb dX1_isTaken_6 rfl hl (of_decide_eq_true rfl) rfl (fun ls hl => ?_)
   refine lv_iload_n hx hb dX1_isTaken_7 rfl (lv_at hl 0 rfl) ?_
   refine lv_aload_n hx hb dX1_isTaken_8 rfl (lv_at hl 1 rfl) ?_
   refine va_get (D := D) hx hb hts inlX1 hown hK hP 31 (jc_31 cI cL ad σ τ) rfl 8 (of_decide_eq_true rfl) (hts _ kw_27_22) (fun _ h9 => h9) rfl dX1_isTaken_9 ?_
   refine lv_icmp_ge (tgt := 29) hx hb dX1_isTaken_12 (of_decide_eq_true rfl) (fun c6 => ?_) (fun c6 => ?_)
   · exact by
      have kc6 := jle c6 rfl rfl
      refine lv_iconst (v := 0) hx hb dX1_isTaken_29 (of_decide_eq_true rfl) ?_
      exact hret 0 σ τ _ _ _ _ rfl ⟨⟨rfl, rfl⟩, Or.inr (⟨rfl, trivial⟩)⟩ hP hS dX1_isTaken_30
   · have kc6 := jnle c6 rfl rfl
     refine lv_aload_n hx hb dX1_isTaken_15 rfl (lv_at hl 1 rfl) ?_
     refine va_get (D := D) hx hb hts inlX1 hown hK hP 31 (jc_31 cI cL ad σ τ) rfl 7 (of_decide_eq_true rfl) (hts _ kw_5_8) (fun _ h9 => h9) rfl dX1_isTaken_16 ?_
     refine lv_iload_n hx hb dX1_isTaken_19 rfl (lv_at hl 0 rfl) ?_
     refine jald hx hb hK hP (jc_37 cI cL ad σ τ) (jin rfl (by omega) (by omega)) dX1_isTaken_20 ?_
     refine lv_topi (fun x7 ex7 => ?_)
     exact by
      refine lv_iload_n hx hb dX1_isTaken_21 rfl (lv_at hl 2 rfl) ?_
      refine lv_icmp_ne (tgt := 29) hx hb dX1_isTaken_22 (of_decide_eq_true rfl) (fun c8 => ?_) (fun c8 => ?_)
      · have kc8 := jne c8 rfl t1
        refine lv_iconst (v := 0) hx hb dX1_isTaken_29 (of_decide_eq_true rfl) ?_
        exact hret 0 σ τ _ _ _ _ rfl ⟨⟨rfl, rfl⟩, Or.inr (⟨rfl, trivial⟩)⟩ hP hS dX1_isTaken_30
      · have kc8 := jeq c8 rfl t1
        refine lv_iconst (v := 1) hx hb dX1_isTaken_25 (of_decide_eq_true rfl) ?_
        refine lv_goto (tgt := 30) hx hb dX1_isTaken_26 (of_decide_eq_true rfl) ?_
        exact hret 1 σ τ _ _ _ _ rfl ⟨⟨rfl, rfl⟩, Or.inl ⟨rfl, trivial⟩⟩ hP hS dX1_isTaken_30
set_option maxHeartbeats 4000000 in
set_option maxRecDepth 100000 in
theorem c_X1_slotFor_31 (l : Launch) (D : va_G) (cI cL : ClassId) (ad zz : Nat → Nat) (hJ : jD ad) (σ : Nat → Nat → Int32) (τ : Nat → Nat → Int64) (a1 : Int32) (A1 : Int) (t1 : a1.toInt = A1) (hI31 : jI31 σ) : jM l yX1_slotFor cX1_slotFor 5 (some .int) ({ frames := 1, cells := 0, slots := 0, locals := 22 }) D cI cL ad zz [.ref (ad 31), .int a1] σ τ (fun r σ' τ' => (σ = σ' ∧ τ = τ') ∧ ((True ∧ ((-1) ≤ r.toInt ∧ r.toInt ≤ 1023)))) := by
  refine jM.of hJ (by decide +kernel) (nt := .int) rfl (Nat.le_of_ble_eq_true rfl) ?_
  intro p e s m args below meth c Q ls hC hret hl hP
  obtain ⟨hx, hb, hr, hml, hown, hts, hK, -, hlocks, hZ⟩ := hC
  have hown : s.vm.findClass RX1 = some m.cls := hown
  have hS : va_S (jA ad) s.heap s.heap [] := va_S.rf
  have hA : ∀ q, jA ad q → jA ad q := fun _ h => h
  have hl : lv_has ls 5 [(0, .ref (ad 31)), (1, .int a1)] := hl
  have g1 := jrg t1
  obtain ⟨i1, w2, w3⟩ : (0 ≤ (σ 31 8).toInt ∧ (σ 31 8).toInt ≤ 350) ∧ (∀ k : Nat, k < 1400 → (-1) ≤ (σ 33 k).toInt ∧ (σ 33 k).toInt ≤ 350) ∧ (∀ k : Nat, k < 1024 → 0 ≤ (σ 36 k).toInt ∧ (σ 36 k).toInt ≤ 349) := id hI31
  refine lv_iload_n hx hb dX1_slotFor_0 rfl (lv_at hl 1 rfl) ?_
  refine lv_ldc (v := (-1640531527)) hx hb hown (hts _ kw_29_4) dX1_slotFor_1 ?_
  refine lv_imul hx hb dX1_slotFor_3 ?_
  refine lv_topi (fun x4 ex4 => ?_)
  have gx4 := jrg (rfl : x4.toInt = x4.toInt)
  refine lv_bipush (v := 22) hx hb dX1_slotFor_4 (of_decide_eq_true rfl) ?_
  refine lv_iushr hx hb dX1_slotFor_6 rfl ?_
  refine lv_topi (fun x5 ex5 => ?_)
  have gx5 := jrg (rfl : x5.toInt = x5.toInt)
  have g6 : 0 ≤ x5.toInt ∧ x5.toInt ≤ 1023 := jushr22 ex5
  refine lv_istore_n (lv' := [(2, .int x5), (0, .ref (ad 31)), (1, .int a1)]) hx hb dX1_slotFor_7 rfl hl (of_decide_eq_true rfl) rfl (fun ls hl => ?_)
  refine lv_iconst (v := 0) hx hb dX1_slotFor_8 (of_decide_eq_true rfl) ?_
  refine lv_istore_n (lv' := [(3, .int 0), (2, .int x5), (0, .ref (ad 31)), (1, .int a1)]) hx hb dX1_slotFor_9 rfl hl (of_decide_eq_true rfl) rfl (fun ls hl => ?_)
  have lp7 : ∀ (n8 : Nat) (x9 : Int32) (H : Heap) (locs : List Loc) (ls : Array Slot), (-x9.toInt + 1024 : Int) < n8 → 0 ≤ x9.toInt → x9.toInt ≤ 1024 → jH D cI cL ad σ τ H → va_S (jA ad) s.heap H locs → lv_has ls 5 [(3, .int x9), (2, .int x5), (0, .ref (ad 31)), (1, .int a1)] → W p l e ({ frames := 1, cells := 0, slots := 0, locals := 22 }) s m args below meth c H locs 0 0 Q (F0 m 10 ls []) := by
    intro n8
    induction n8 with
    | zero => intro x9 H locs ls h12 h13 h14; exact absurd h12 (by omega)
    | succ n8 ihlp7 =>
      intro x9 H locs ls h12 h13 h14 hP hS hl
      exact by
       refine lv_iload_n hx hb dX1_slotFor_10 rfl (lv_at hl 0 rfl) ?_
       refine lv_sipush (v := 1024) hx hb dX1_slotFor_11 (of_decide_eq_true rfl) ?_
       refine lv_icmp_ge (tgt := 60) hx hb dX1_slotFor_14 (of_decide_eq_true rfl) (fun c16 => ?_) (fun c16 => ?_)
       · have kc16 := jle c16 jz_1024 rfl
         refine lv_iconst (v := (-1)) hx hb dX1_slotFor_60 (of_decide_eq_true rfl) ?_
         exact hret (-1) σ τ _ _ _ _ rfl ⟨⟨rfl, rfl⟩, ⟨trivial, (by have h9 := jz_m1; omega)⟩⟩ hP hS dX1_slotFor_61
       · have kc16 := jnle c16 jz_1024 rfl
         refine lv_iload_n hx hb dX1_slotFor_17 rfl (lv_at hl 1 rfl) ?_
         refine lv_iload_n hx hb dX1_slotFor_18 rfl (lv_at hl 0 rfl) ?_
         have g17 := jrg (rfl : x5.toInt = x5.toInt)
         have g18 := jrg (rfl : x9.toInt = x9.toInt)
         refine lv_iadd hx hb dX1_slotFor_19 ?_
         refine lv_topi (fun x19 ex19 => ?_)
         exact by
          have tx19 : x19.toInt = x5.toInt + x9.toInt := (jadd ex19 rfl rfl (by omega) (by omega)).trans (by omega)
          refine lv_sipush (v := 1023) hx hb dX1_slotFor_20 (of_decide_eq_true rfl) ?_
          refine lv_iand hx hb dX1_slotFor_23 ?_
          refine lv_topi (fun x20 ex20 => ?_)
          have gx20 := jrg (rfl : x20.toInt = x20.toInt)
          have g21 : 0 ≤ x20.toInt ∧ x20.toInt ≤ 1023 := jmask ex20 10 (of_decide_eq_true rfl) (of_decide_eq_true rfl)
          refine lv_istore (lv' := [(4, .int x20), (3, .int x9), (2, .int x5), (0, .ref (ad 31)), (1, .int a1)]) hx hb dX1_slotFor_24 hl (of_decide_eq_true rfl) rfl (fun ls hl => ?_)
          refine lv_aload_n hx hb dX1_slotFor_26 rfl (lv_at hl 3 rfl) ?_
          refine lv_iload hx hb dX1_slotFor_27 (lv_at hl 0 rfl) ?_
          exact by
           refine jcallV (As := [.int x20]) (rest := []) ⟨hx, hb, hml, hown, hts⟩ hK hP hA hS hZ (c_X1_isTaken_31 l D cI cL ad zz hJ σ τ x20 (x20.toInt) rfl hI31 (by omega)) cw_RX1_81 (jc_31 cI cL ad σ τ) rfl ⟨Nat.le_of_ble_eq_true rfl, Nat.le_of_ble_eq_true rfl⟩ rfl rfl rfl hl.1 rfl (Nat.le_of_ble_eq_true rfl) dX1_slotFor_29 ⟨Nat.zero_le _, Nat.zero_le _⟩ (fun r23 σ22 τ22 H locs h22 hP hS => ?_)
           obtain ⟨⟨rfl, rfl⟩, h22⟩ := h22
           rcases h22 with h24 | h25
           · obtain ⟨q27, k26⟩ := h24
             have q27 := q27.symm
             subst q27
             refine lv_if_eq (tgt := 51) hx hb dX1_slotFor_32 (of_decide_eq_true rfl) (fun c => absurd c (of_decide_eq_true rfl)) (fun _ => ?_)
             refine lv_aload_n hx hb dX1_slotFor_35 rfl (lv_at hl 3 rfl) ?_
             refine va_get (D := D) hx hb hts inlX1 hown hK hP 31 (jc_31 cI cL ad σ τ) rfl 2 (of_decide_eq_true rfl) (hts _ kw_5_3) (fun _ h9 => h9) rfl dX1_slotFor_36 ?_
             refine lv_aload_n hx hb dX1_slotFor_39 rfl (lv_at hl 3 rfl) ?_
             refine va_get (D := D) hx hb hts inlX1 hown hK hP 31 (jc_31 cI cL ad σ τ) rfl 6 (of_decide_eq_true rfl) (hts _ kw_5_7) (fun _ h9 => h9) rfl dX1_slotFor_40 ?_
             refine lv_iload hx hb dX1_slotFor_43 (lv_at hl 0 rfl) ?_
             exact by
              refine jald hx hb hK hP (jc_36 cI cL ad σ τ) (jin rfl (by omega) (by omega)) dX1_slotFor_45 ?_
              have g28 := w3 _ (jnat (x := x20) rfl (n := 1024) (by omega) (of_decide_eq_true rfl))
              refine lv_topi (fun x29 ex29 => ?_)
              rw [← ex29] at g28
              refine jald hx hb hK hP (jc_32 cI cL ad σ τ) (jin rfl (by omega) (by omega)) dX1_slotFor_46 ?_
              refine lv_topi (fun x30 ex30 => ?_)
              refine lv_iload_n hx hb dX1_slotFor_47 rfl (lv_at hl 4 rfl) ?_
              refine lv_icmp_ne (tgt := 54) hx hb dX1_slotFor_48 (of_decide_eq_true rfl) (fun c31 => ?_) (fun c31 => ?_)
              · have kc31 := jne c31 rfl t1
                exact by
                 obtain ⟨x32, ex32⟩ : ∃ y : Int32, y = x9 + 1 := ⟨_, rfl⟩
                 have tx32 : x32.toInt = x9.toInt + 1 := (jadd ex32 rfl jz_1 (by omega) (by omega)).trans (by omega)
                 refine lv_iinc (v := x32) (lv' := [(3, .int x32), (4, .int x20), (2, .int x5), (0, .ref (ad 31)), (1, .int a1)]) hx hb dX1_slotFor_54 hl (k := 1) rfl (by rw [ex32]; rfl) (of_decide_eq_true rfl) rfl (fun ls hl => ?_)
                 refine lv_goto (tgt := 10) hx hb dX1_slotFor_57 (of_decide_eq_true rfl) ?_
                 exact by exact ihlp7 x32 _ _ ls (by have h90 := tx32; omega) (by have h90 := tx32; omega) (by have h90 := tx32; omega)    hP hS (lv_sub hl [0, 2, 3, 4] rfl)
              · have kc31 := jeq c31 rfl t1
                refine lv_iload hx hb dX1_slotFor_51 (lv_at hl 0 rfl) ?_
                exact hret x20 σ τ _ _ _ _ rfl ⟨⟨rfl, rfl⟩, ⟨trivial, (by omega)⟩⟩ hP hS dX1_slotFor_53
           · obtain ⟨q34, k33⟩ := h25
             exact by
              have q34 := q34.symm
              subst q34
              refine lv_if_eq (tgt := 51) hx hb dX1_slotFor_32 (of_decide_eq_true rfl) (fun _ => ?_) (fun c => absurd (of_decide_eq_true rfl) c)
              refine lv_iload hx hb dX1_slotFor_51 (lv_at hl 0 rfl) ?_
              exact hret x20 σ τ _ _ _ _ rfl ⟨⟨rfl, rfl⟩, ⟨trivial, (by omega)⟩⟩ hP hS dX1_slotFor_53
  exact by exact lp7 1000000 0 _ _ ls (by have h90 := jz_0; omega) (by have h90 := jz_0; omega) (by have h90 := jz_0; omega)   hP hS hl
set_option maxHeartbeats 4000000 in
set_option maxRecDepth 100000 in
theorem c_X1_trimmed_31 (l : Launch) (D : va_G) (cI cL : ClassId) (ad zz : Nat → Nat) (hJ : jD ad) (σ : Nat → Nat → Int32) (τ : Nat → Nat → Int64) (a1 : Int32) (A1 : Int) (t1 : a1.toInt = A1) (a2 : Int32) (A2 : Int) (t2 : a2.toInt = A2) : jM l yX1_trimmed cX1_trimmed 7 (some .int) ({ frames := 1, cells := 0, slots := 0, locals := 23 }) D cI cL ad zz [.ref (ad 31), .int a1, .int a2] σ τ (fun r σ' τ' => (σ = σ' ∧ τ = τ') ∧ True) := by
  refine jM.of hJ (by decide +kernel) (nt := .int) rfl (Nat.le_of_ble_eq_true rfl) ?_
  intro p e s m args below meth c Q ls hC hret hl hP
  obtain ⟨hx, hb, hr, hml, hown, hts, hK, -, hlocks, hZ⟩ := hC
  have hown : s.vm.findClass RX1 = some m.cls := hown
  have hS : va_S (jA ad) s.heap s.heap [] := va_S.rf
  have hA : ∀ q, jA ad q → jA ad q := fun _ h => h
  have hl : lv_has ls 7 [(0, .ref (ad 31)), (1, .int a1), (2, .int a2)] := hl
  have g1 := jrg t1
  have g2 := jrg t2
  refine lv_iload_n hx hb dX1_trimmed_0 rfl (lv_at hl 1 rfl) ?_
  refine lv_istore_n (lv' := [(3, .int a1), (0, .ref (ad 31)), (1, .int a1), (2, .int a2)]) hx hb dX1_trimmed_1 rfl hl (of_decide_eq_true rfl) rfl (fun ls hl => ?_)
  refine lv_iconst (v := 0) hx hb dX1_trimmed_2 (of_decide_eq_true rfl) ?_
  refine lv_istore (lv' := [(4, .int 0), (3, .int a1), (0, .ref (ad 31)), (1, .int a1), (2, .int a2)]) hx hb dX1_trimmed_3 hl (of_decide_eq_true rfl) rfl (fun ls hl => ?_)
  have lp1 : ∀ (n2 : Nat) (x3 : Int32) (x4 : Int32) (H : Heap) (locs : List Loc) (ls : Array Slot), (-x4.toInt + 4 : Int) < n2 → 0 ≤ x4.toInt → x4.toInt ≤ 4 → jH D cI cL ad σ τ H → va_S (jA ad) s.heap H locs → lv_has ls 7 [(4, .int x4), (3, .int x3), (0, .ref (ad 31)), (1, .int a1), (2, .int a2)] → W p l e ({ frames := 1, cells := 0, slots := 0, locals := 23 }) s m args below meth c H locs 0 0 Q (F0 m 5 ls []) := by
    intro n2
    induction n2 with
    | zero => intro x3 x4 H locs ls h8 h9 h10; have gx3 := jrg (rfl : x3.toInt = x3.toInt); exact absurd h8 (by omega)
    | succ n2 ihlp1 =>
      intro x3 x4 H locs ls h8 h9 h10 hP hS hl
      exact by
       have gx3 := jrg (rfl : x3.toInt = x3.toInt)
       refine lv_iload hx hb dX1_trimmed_5 (lv_at hl 0 rfl) ?_
       refine lv_iconst (v := 4) hx hb dX1_trimmed_7 (of_decide_eq_true rfl) ?_
       refine lv_icmp_ge (tgt := 90) hx hb dX1_trimmed_8 (of_decide_eq_true rfl) (fun c12 => ?_) (fun c12 => ?_)
       · have kc12 := jle c12 jz_4 rfl
         refine lv_iload_n hx hb dX1_trimmed_90 rfl (lv_at hl 1 rfl) ?_
         exact hret x3 σ τ _ _ _ _ rfl ⟨⟨rfl, rfl⟩, trivial⟩ hP hS dX1_trimmed_91
       · have kc12 := jnle c12 jz_4 rfl
         refine lv_iload_n hx hb dX1_trimmed_11 rfl (lv_at hl 3 rfl) ?_
         refine lv_iload hx hb dX1_trimmed_12 (lv_at hl 0 rfl) ?_
         refine jcallS (As := [.int a1, .int x4]) (rest := []) ⟨hx, hb, hml, hown, hts⟩ hK hP hA hS hZ (c_X0_left l D cI cL ad zz hJ σ τ a1 (A1) t1 x4 (x4.toInt) rfl) cw_RX1_123 ⟨Nat.le_of_ble_eq_true rfl, Nat.le_of_ble_eq_true rfl⟩ rfl rfl rfl hl.1 rfl (Nat.le_of_ble_eq_true rfl) dX1_trimmed_14 ⟨Nat.zero_le _, Nat.zero_le _⟩ (fun r14 σ13 τ13 H locs h13 hP hS => ?_)
         obtain ⟨⟨rfl, rfl⟩, w15, h13⟩ := h13
         have k16 := congrArg Int32.toInt w15
         have h17 := h13
         obtain ⟨q19, k18⟩ := h17
         refine lv_istore (lv' := [(5, .int r14), (4, .int x4), (3, .int x3), (0, .ref (ad 31)), (1, .int a1), (2, .int a2)]) hx hb dX1_trimmed_17 hl (of_decide_eq_true rfl) rfl (fun ls hl => ?_)
         refine lv_iload_n hx hb dX1_trimmed_19 rfl (lv_at hl 4 rfl) ?_
         refine jcallS (As := [.int a1]) (rest := []) ⟨hx, hb, hml, hown, hts⟩ hK hP hA hS hZ (c_X0_last l D cI cL ad zz hJ σ τ a1 (A1) t1) cw_RX1_126 ⟨Nat.le_of_ble_eq_true rfl, Nat.le_of_ble_eq_true rfl⟩ rfl rfl rfl hl.1 rfl (Nat.le_of_ble_eq_true rfl) dX1_trimmed_20 ⟨Nat.zero_le _, Nat.zero_le _⟩ (fun r21 σ20 τ20 H locs h20 hP hS => ?_)
         obtain ⟨⟨rfl, rfl⟩, w22, h20⟩ := h20
         refine lv_iload hx hb dX1_trimmed_23 (lv_at hl 1 rfl) ?_
         refine lv_icmp_ne (tgt := 32) hx hb dX1_trimmed_25 (of_decide_eq_true rfl) (fun c23 => ?_) (fun c23 => ?_)
         · have kc23 := jne c23 rfl rfl
           refine lv_iload_n hx hb dX1_trimmed_32 rfl (lv_at hl 5 rfl) ?_
           refine lv_iconst (v := 1) hx hb dX1_trimmed_33 (of_decide_eq_true rfl) ?_
           refine lv_iadd hx hb dX1_trimmed_34 ?_
           refine lv_topi (fun x24 ex24 => ?_)
           have gx24 := jrg (rfl : x24.toInt = x24.toInt)
           refine lv_iconst (v := 2) hx hb dX1_trimmed_35 (of_decide_eq_true rfl) ?_
           refine lv_idiv hx hb dX1_trimmed_36 (of_decide_eq_true rfl) ?_
           refine lv_topi (fun x25 ex25 => ?_)
           have gx25 := jrg (rfl : x25.toInt = x25.toInt)
           refine lv_istore (lv' := [(6, .int x25), (5, .int r14), (4, .int x4), (3, .int x3), (0, .ref (ad 31)), (1, .int a1), (2, .int a2)]) hx hb dX1_trimmed_37 hl (of_decide_eq_true rfl) rfl (fun ls hl => ?_)
           refine lv_aload_n hx hb dX1_trimmed_39 rfl (lv_at hl 4 rfl) ?_
           refine va_get (D := D) hx hb hts inlX1 hown hK hP 31 (jc_31 cI cL ad σ τ) rfl 12 (of_decide_eq_true rfl) (hts _ kw_28_8) (fun _ h9 => h9) rfl dX1_trimmed_40 ?_
           refine lv_if_eq (tgt := 51) hx hb dX1_trimmed_43 (of_decide_eq_true rfl) (fun c26 => ?_) (fun c26 => ?_)
           · have kc26 := jeq c26 rfl jz_0
             refine lv_iload hx hb dX1_trimmed_51 (lv_at hl 1 rfl) ?_
             refine lv_iload hx hb dX1_trimmed_53 (lv_at hl 0 rfl) ?_
             refine lv_icmp_le (tgt := 71) hx hb dX1_trimmed_55 (of_decide_eq_true rfl) (fun c27 => ?_) (fun c27 => ?_)
             · have kc27 := jle c27 rfl rfl
               refine lv_iload hx hb dX1_trimmed_71 (lv_at hl 1 rfl) ?_
               refine lv_if_ne (tgt := 84) hx hb dX1_trimmed_73 (of_decide_eq_true rfl) (fun c28 => ?_) (fun c28 => ?_)
               · have kc28 := jne c28 rfl jz_0
                 obtain ⟨x29, ex29⟩ : ∃ y : Int32, y = x4 + 1 := ⟨_, rfl⟩
                 exact by
                  have tx29 : x29.toInt = x4.toInt + 1 := (jadd ex29 rfl jz_1 (by omega) (by omega)).trans (by omega)
                  refine lv_iinc (v := x29) (lv' := [(4, .int x29), (6, .int x25), (5, .int r14), (3, .int x3), (0, .ref (ad 31)), (1, .int a1), (2, .int a2)]) hx hb dX1_trimmed_84 hl (k := 2) rfl (by rw [ex29]; rfl) (of_decide_eq_true rfl) rfl (fun ls hl => ?_)
                  refine lv_goto (tgt := 5) hx hb dX1_trimmed_87 (of_decide_eq_true rfl) ?_
                  exact by exact ihlp1 x3 x29 _ _ ls (by have h91 := tx29; omega) (by have h91 := tx29; omega) (by have h91 := tx29; omega)    hP hS (lv_sub hl [0, 3, 4, 5, 6] rfl)
               · have kc28 := jeq c28 rfl jz_0
                 refine lv_iload_n hx hb dX1_trimmed_76 rfl (lv_at hl 3 rfl) ?_
                 refine lv_iload hx hb dX1_trimmed_77 (lv_at hl 2 rfl) ?_
                 refine lv_iconst (v := 0) hx hb dX1_trimmed_79 (of_decide_eq_true rfl) ?_
                 refine jcallS (As := [.int x3, .int x4, .int 0]) (rest := []) ⟨hx, hb, hml, hown, hts⟩ hK hP hA hS hZ (c_X0_withSteps l D cI cL ad zz hJ σ τ x3 (x3.toInt) rfl x4 (x4.toInt) rfl 0 (0) jz_0) cw_RX1_133 ⟨Nat.le_of_ble_eq_true rfl, Nat.le_of_ble_eq_true rfl⟩ rfl rfl rfl hl.1 rfl (Nat.le_of_ble_eq_true rfl) dX1_trimmed_80 ⟨Nat.zero_le _, Nat.zero_le _⟩ (fun r31 σ30 τ30 H locs h30 hP hS => ?_)
                 exact by
                  obtain ⟨⟨rfl, rfl⟩, w32, h30⟩ := h30
                  have k33 := congrArg Int32.toInt w32
                  refine lv_istore_n (lv' := [(3, .int r31), (6, .int x25), (5, .int r14), (4, .int x4), (0, .ref (ad 31)), (1, .int a1), (2, .int a2)]) hx hb dX1_trimmed_83 rfl hl (of_decide_eq_true rfl) rfl (fun ls hl => ?_)
                  obtain ⟨x34, ex34⟩ : ∃ y : Int32, y = x4 + 1 := ⟨_, rfl⟩
                  have tx34 : x34.toInt = x4.toInt + 1 := (jadd ex34 rfl jz_1 (by omega) (by omega)).trans (by omega)
                  refine lv_iinc (v := x34) (lv' := [(4, .int x34), (3, .int r31), (6, .int x25), (5, .int r14), (0, .ref (ad 31)), (1, .int a1), (2, .int a2)]) hx hb dX1_trimmed_84 hl (k := 3) rfl (by rw [ex34]; rfl) (of_decide_eq_true rfl) rfl (fun ls hl => ?_)
                  refine lv_goto (tgt := 5) hx hb dX1_trimmed_87 (of_decide_eq_true rfl) ?_
                  exact by exact ihlp1 r31 x34 _ _ ls (by have h91 := tx34; omega) (by have h91 := tx34; omega) (by have h91 := tx34; omega)    hP hS (lv_sub hl [0, 1, 4, 5, 6] rfl)
             · have kc27 := jnle c27 rfl rfl
               exact by
                refine lv_iload hx hb dX1_trimmed_58 (lv_at hl 0 rfl) ?_
                refine lv_istore (lv' := [(5, .int x25), (6, .int x25), (4, .int x4), (3, .int x3), (0, .ref (ad 31)), (1, .int a1), (2, .int a2)]) hx hb dX1_trimmed_60 hl (of_decide_eq_true rfl) rfl (fun ls hl => ?_)
                refine lv_iload_n hx hb dX1_trimmed_62 rfl (lv_at hl 3 rfl) ?_
                refine lv_iload hx hb dX1_trimmed_63 (lv_at hl 2 rfl) ?_
                refine lv_iload hx hb dX1_trimmed_65 (lv_at hl 0 rfl) ?_
                refine jcallS (As := [.int x3, .int x4, .int x25]) (rest := []) ⟨hx, hb, hml, hown, hts⟩ hK hP hA hS hZ (c_X0_withLeft l D cI cL ad zz hJ σ τ x3 (x3.toInt) rfl x4 (x4.toInt) rfl x25 (x25.toInt) rfl) cw_RX1_129 ⟨Nat.le_of_ble_eq_true rfl, Nat.le_of_ble_eq_true rfl⟩ rfl rfl rfl hl.1 rfl (Nat.le_of_ble_eq_true rfl) dX1_trimmed_67 ⟨Nat.zero_le _, Nat.zero_le _⟩ (fun r36 σ35 τ35 H locs h35 hP hS => ?_)
                obtain ⟨⟨rfl, rfl⟩, w37, h35⟩ := h35
                have k38 := congrArg Int32.toInt w37
                refine lv_istore_n (lv' := [(3, .int r36), (5, .int x25), (6, .int x25), (4, .int x4), (0, .ref (ad 31)), (1, .int a1), (2, .int a2)]) hx hb dX1_trimmed_70 rfl hl (of_decide_eq_true rfl) rfl (fun ls hl => ?_)
                refine lv_iload hx hb dX1_trimmed_71 (lv_at hl 1 rfl) ?_
                refine lv_if_ne (tgt := 84) hx hb dX1_trimmed_73 (of_decide_eq_true rfl) (fun c39 => ?_) (fun c39 => ?_)
                · have kc39 := jne c39 rfl jz_0
                  obtain ⟨x40, ex40⟩ : ∃ y : Int32, y = x4 + 1 := ⟨_, rfl⟩
                  exact by
                   have tx40 : x40.toInt = x4.toInt + 1 := (jadd ex40 rfl jz_1 (by omega) (by omega)).trans (by omega)
                   refine lv_iinc (v := x40) (lv' := [(4, .int x40), (3, .int r36), (5, .int x25), (6, .int x25), (0, .ref (ad 31)), (1, .int a1), (2, .int a2)]) hx hb dX1_trimmed_84 hl (k := 3) rfl (by rw [ex40]; rfl) (of_decide_eq_true rfl) rfl (fun ls hl => ?_)
                   refine lv_goto (tgt := 5) hx hb dX1_trimmed_87 (of_decide_eq_true rfl) ?_
                   exact by exact ihlp1 r36 x40 _ _ ls (by have h91 := tx40; omega) (by have h91 := tx40; omega) (by have h91 := tx40; omega)    hP hS (lv_sub hl [0, 1, 4, 5, 6] rfl)
                · have kc39 := jeq c39 rfl jz_0
                  refine lv_iload_n hx hb dX1_trimmed_76 rfl (lv_at hl 0 rfl) ?_
                  refine lv_iload hx hb dX1_trimmed_77 (lv_at hl 3 rfl) ?_
                  refine lv_iconst (v := 0) hx hb dX1_trimmed_79 (of_decide_eq_true rfl) ?_
                  refine jcallS (As := [.int r36, .int x4, .int 0]) (rest := []) ⟨hx, hb, hml, hown, hts⟩ hK hP hA hS hZ (c_X0_withSteps l D cI cL ad zz hJ σ τ r36 (r36.toInt) rfl x4 (x4.toInt) rfl 0 (0) jz_0) cw_RX1_133 ⟨Nat.le_of_ble_eq_true rfl, Nat.le_of_ble_eq_true rfl⟩ rfl rfl rfl hl.1 rfl (Nat.le_of_ble_eq_true rfl) dX1_trimmed_80 ⟨Nat.zero_le _, Nat.zero_le _⟩ (fun r42 σ41 τ41 H locs h41 hP hS => ?_)
                  exact by
                   obtain ⟨⟨rfl, rfl⟩, w43, h41⟩ := h41
                   have k44 := congrArg Int32.toInt w43
                   refine lv_istore_n (lv' := [(3, .int r42), (5, .int x25), (6, .int x25), (4, .int x4), (0, .ref (ad 31)), (1, .int a1), (2, .int a2)]) hx hb dX1_trimmed_83 rfl hl (of_decide_eq_true rfl) rfl (fun ls hl => ?_)
                   obtain ⟨x45, ex45⟩ : ∃ y : Int32, y = x4 + 1 := ⟨_, rfl⟩
                   have tx45 : x45.toInt = x4.toInt + 1 := (jadd ex45 rfl jz_1 (by omega) (by omega)).trans (by omega)
                   refine lv_iinc (v := x45) (lv' := [(4, .int x45), (3, .int r42), (5, .int x25), (6, .int x25), (0, .ref (ad 31)), (1, .int a1), (2, .int a2)]) hx hb dX1_trimmed_84 hl (k := 3) rfl (by rw [ex45]; rfl) (of_decide_eq_true rfl) rfl (fun ls hl => ?_)
                   refine lv_goto (tgt := 5) hx hb dX1_trimmed_87 (of_decide_eq_true rfl) ?_
                   exact by exact ihlp1 r42 x45 _ _ ls (by have h91 := tx45; omega) (by have h91 := tx45; omega) (by have h91 := tx45; omega)    hP hS (lv_sub hl [0, 1, 4, 5, 6] rfl)
           · have kc26 := jne c26 rfl jz_0
             exact by
              refine lv_iload_n hx hb dX1_trimmed_46 rfl (lv_at hl 6 rfl) ?_
              refine lv_iconst (v := 1) hx hb dX1_trimmed_47 (of_decide_eq_true rfl) ?_
              refine lv_icmp_gt (tgt := 71) hx hb dX1_trimmed_48 (of_decide_eq_true rfl) (fun c46 => ?_) (fun c46 => ?_)
              · have kc46 := jlt c46 jz_1 t2
                refine lv_iload hx hb dX1_trimmed_71 (lv_at hl 1 rfl) ?_
                refine lv_if_ne (tgt := 84) hx hb dX1_trimmed_73 (of_decide_eq_true rfl) (fun c47 => ?_) (fun c47 => ?_)
                · have kc47 := jne c47 rfl jz_0
                  obtain ⟨x48, ex48⟩ : ∃ y : Int32, y = x4 + 1 := ⟨_, rfl⟩
                  have tx48 : x48.toInt = x4.toInt + 1 := (jadd ex48 rfl jz_1 (by omega) (by omega)).trans (by omega)
                  exact by
                   refine lv_iinc (v := x48) (lv' := [(4, .int x48), (6, .int x25), (5, .int r14), (3, .int x3), (0, .ref (ad 31)), (1, .int a1), (2, .int a2)]) hx hb dX1_trimmed_84 hl (k := 2) rfl (by rw [ex48]; rfl) (of_decide_eq_true rfl) rfl (fun ls hl => ?_)
                   refine lv_goto (tgt := 5) hx hb dX1_trimmed_87 (of_decide_eq_true rfl) ?_
                   exact by exact ihlp1 x3 x48 _ _ ls (by have h91 := tx48; omega) (by have h91 := tx48; omega) (by have h91 := tx48; omega)    hP hS (lv_sub hl [0, 3, 4, 5, 6] rfl)
                · have kc47 := jeq c47 rfl jz_0
                  refine lv_iload_n hx hb dX1_trimmed_76 rfl (lv_at hl 3 rfl) ?_
                  refine lv_iload hx hb dX1_trimmed_77 (lv_at hl 2 rfl) ?_
                  refine lv_iconst (v := 0) hx hb dX1_trimmed_79 (of_decide_eq_true rfl) ?_
                  refine jcallS (As := [.int x3, .int x4, .int 0]) (rest := []) ⟨hx, hb, hml, hown, hts⟩ hK hP hA hS hZ (c_X0_withSteps l D cI cL ad zz hJ σ τ x3 (x3.toInt) rfl x4 (x4.toInt) rfl 0 (0) jz_0) cw_RX1_133 ⟨Nat.le_of_ble_eq_true rfl, Nat.le_of_ble_eq_true rfl⟩ rfl rfl rfl hl.1 rfl (Nat.le_of_ble_eq_true rfl) dX1_trimmed_80 ⟨Nat.zero_le _, Nat.zero_le _⟩ (fun r50 σ49 τ49 H locs h49 hP hS => ?_)
                  obtain ⟨⟨rfl, rfl⟩, w51, h49⟩ := h49
                  have k52 := congrArg Int32.toInt w51
                  refine lv_istore_n (lv' := [(3, .int r50), (6, .int x25), (5, .int r14), (4, .int x4), (0, .ref (ad 31)), (1, .int a1), (2, .int a2)]) hx hb dX1_trimmed_83 rfl hl (of_decide_eq_true rfl) rfl (fun ls hl => ?_)
                  obtain ⟨x53, ex53⟩ : ∃ y : Int32, y = x4 + 1 := ⟨_, rfl⟩
                  exact by
                   have tx53 : x53.toInt = x4.toInt + 1 := (jadd ex53 rfl jz_1 (by omega) (by omega)).trans (by omega)
                   refine lv_iinc (v := x53) (lv' := [(4, .int x53), (3, .int r50), (6, .int x25), (5, .int r14), (0, .ref (ad 31)), (1, .int a1), (2, .int a2)]) hx hb dX1_trimmed_84 hl (k := 3) rfl (by rw [ex53]; rfl) (of_decide_eq_true rfl) rfl (fun ls hl => ?_)
                   refine lv_goto (tgt := 5) hx hb dX1_trimmed_87 (of_decide_eq_true rfl) ?_
                   exact by exact ihlp1 r50 x53 _ _ ls (by have h91 := tx53; omega) (by have h91 := tx53; omega) (by have h91 := tx53; omega)    hP hS (lv_sub hl [0, 1, 4, 5, 6] rfl)
              · have kc46 := jnlt c46 jz_1 t2
                refine lv_iload hx hb dX1_trimmed_51 (lv_at hl 1 rfl) ?_
                refine lv_iload hx hb dX1_trimmed_53 (lv_at hl 0 rfl) ?_
                refine lv_icmp_le (tgt := 71) hx hb dX1_trimmed_55 (of_decide_eq_true rfl) (fun c54 => ?_) (fun c54 => ?_)
                · have kc54 := jle c54 rfl rfl
                  exact by
                   refine lv_iload hx hb dX1_trimmed_71 (lv_at hl 1 rfl) ?_
                   refine lv_if_ne (tgt := 84) hx hb dX1_trimmed_73 (of_decide_eq_true rfl) (fun c55 => ?_) (fun c55 => ?_)
                   · have kc55 := jne c55 rfl jz_0
                     obtain ⟨x56, ex56⟩ : ∃ y : Int32, y = x4 + 1 := ⟨_, rfl⟩
                     have tx56 : x56.toInt = x4.toInt + 1 := (jadd ex56 rfl jz_1 (by omega) (by omega)).trans (by omega)
                     refine lv_iinc (v := x56) (lv' := [(4, .int x56), (6, .int x25), (5, .int r14), (3, .int x3), (0, .ref (ad 31)), (1, .int a1), (2, .int a2)]) hx hb dX1_trimmed_84 hl (k := 2) rfl (by rw [ex56]; rfl) (of_decide_eq_true rfl) rfl (fun ls hl => ?_)
                     refine lv_goto (tgt := 5) hx hb dX1_trimmed_87 (of_decide_eq_true rfl) ?_
                     exact by exact ihlp1 x3 x56 _ _ ls (by have h91 := tx56; omega) (by have h91 := tx56; omega) (by have h91 := tx56; omega)    hP hS (lv_sub hl [0, 3, 4, 5, 6] rfl)
                   · have kc55 := jeq c55 rfl jz_0
                     exact by
                      refine lv_iload_n hx hb dX1_trimmed_76 rfl (lv_at hl 3 rfl) ?_
                      refine lv_iload hx hb dX1_trimmed_77 (lv_at hl 2 rfl) ?_
                      refine lv_iconst (v := 0) hx hb dX1_trimmed_79 (of_decide_eq_true rfl) ?_
                      refine jcallS (As := [.int x3, .int x4, .int 0]) (rest := []) ⟨hx, hb, hml, hown, hts⟩ hK hP hA hS hZ (c_X0_withSteps l D cI cL ad zz hJ σ τ x3 (x3.toInt) rfl x4 (x4.toInt) rfl 0 (0) jz_0) cw_RX1_133 ⟨Nat.le_of_ble_eq_true rfl, Nat.le_of_ble_eq_true rfl⟩ rfl rfl rfl hl.1 rfl (Nat.le_of_ble_eq_true rfl) dX1_trimmed_80 ⟨Nat.zero_le _, Nat.zero_le _⟩ (fun r58 σ57 τ57 H locs h57 hP hS => ?_)
                      obtain ⟨⟨rfl, rfl⟩, w59, h57⟩ := h57
                      have k60 := congrArg Int32.toInt w59
                      refine lv_istore_n (lv' := [(3, .int r58), (6, .int x25), (5, .int r14), (4, .int x4), (0, .ref (ad 31)), (1, .int a1), (2, .int a2)]) hx hb dX1_trimmed_83 rfl hl (of_decide_eq_true rfl) rfl (fun ls hl => ?_)
                      obtain ⟨x61, ex61⟩ : ∃ y : Int32, y = x4 + 1 := ⟨_, rfl⟩
                      have tx61 : x61.toInt = x4.toInt + 1 := (jadd ex61 rfl jz_1 (by omega) (by omega)).trans (by omega)
                      exact by
                       refine lv_iinc (v := x61) (lv' := [(4, .int x61), (3, .int r58), (6, .int x25), (5, .int r14), (0, .ref (ad 31)), (1, .int a1), (2, .int a2)]) hx hb dX1_trimmed_84 hl (k := 3) rfl (by rw [ex61]; rfl) (of_decide_eq_true rfl) rfl (fun ls hl => ?_)
                       refine lv_goto (tgt := 5) hx hb dX1_trimmed_87 (of_decide_eq_true rfl) ?_
                       exact by exact ihlp1 r58 x61 _ _ ls (by have h91 := tx61; omega) (by have h91 := tx61; omega) (by have h91 := tx61; omega)    hP hS (lv_sub hl [0, 1, 4, 5, 6] rfl)
                · have kc54 := jnle c54 rfl rfl
                  refine lv_iload hx hb dX1_trimmed_58 (lv_at hl 0 rfl) ?_
                  refine lv_istore (lv' := [(5, .int x25), (6, .int x25), (4, .int x4), (3, .int x3), (0, .ref (ad 31)), (1, .int a1), (2, .int a2)]) hx hb dX1_trimmed_60 hl (of_decide_eq_true rfl) rfl (fun ls hl => ?_)
                  refine lv_iload_n hx hb dX1_trimmed_62 rfl (lv_at hl 3 rfl) ?_
                  refine lv_iload hx hb dX1_trimmed_63 (lv_at hl 2 rfl) ?_
                  refine lv_iload hx hb dX1_trimmed_65 (lv_at hl 0 rfl) ?_
                  refine jcallS (As := [.int x3, .int x4, .int x25]) (rest := []) ⟨hx, hb, hml, hown, hts⟩ hK hP hA hS hZ (c_X0_withLeft l D cI cL ad zz hJ σ τ x3 (x3.toInt) rfl x4 (x4.toInt) rfl x25 (x25.toInt) rfl) cw_RX1_129 ⟨Nat.le_of_ble_eq_true rfl, Nat.le_of_ble_eq_true rfl⟩ rfl rfl rfl hl.1 rfl (Nat.le_of_ble_eq_true rfl) dX1_trimmed_67 ⟨Nat.zero_le _, Nat.zero_le _⟩ (fun r63 σ62 τ62 H locs h62 hP hS => ?_)
                  obtain ⟨⟨rfl, rfl⟩, w64, h62⟩ := h62
                  have k65 := congrArg Int32.toInt w64
                  refine lv_istore_n (lv' := [(3, .int r63), (5, .int x25), (6, .int x25), (4, .int x4), (0, .ref (ad 31)), (1, .int a1), (2, .int a2)]) hx hb dX1_trimmed_70 rfl hl (of_decide_eq_true rfl) rfl (fun ls hl => ?_)
                  refine lv_iload hx hb dX1_trimmed_71 (lv_at hl 1 rfl) ?_
                  refine lv_if_ne (tgt := 84) hx hb dX1_trimmed_73 (of_decide_eq_true rfl) (fun c66 => ?_) (fun c66 => ?_)
                  · have kc66 := jne c66 rfl jz_0
                    obtain ⟨x67, ex67⟩ : ∃ y : Int32, y = x4 + 1 := ⟨_, rfl⟩
                    exact by
                     have tx67 : x67.toInt = x4.toInt + 1 := (jadd ex67 rfl jz_1 (by omega) (by omega)).trans (by omega)
                     refine lv_iinc (v := x67) (lv' := [(4, .int x67), (3, .int r63), (5, .int x25), (6, .int x25), (0, .ref (ad 31)), (1, .int a1), (2, .int a2)]) hx hb dX1_trimmed_84 hl (k := 3) rfl (by rw [ex67]; rfl) (of_decide_eq_true rfl) rfl (fun ls hl => ?_)
                     refine lv_goto (tgt := 5) hx hb dX1_trimmed_87 (of_decide_eq_true rfl) ?_
                     exact by exact ihlp1 r63 x67 _ _ ls (by have h91 := tx67; omega) (by have h91 := tx67; omega) (by have h91 := tx67; omega)    hP hS (lv_sub hl [0, 1, 4, 5, 6] rfl)
                  · have kc66 := jeq c66 rfl jz_0
                    refine lv_iload_n hx hb dX1_trimmed_76 rfl (lv_at hl 0 rfl) ?_
                    refine lv_iload hx hb dX1_trimmed_77 (lv_at hl 3 rfl) ?_
                    refine lv_iconst (v := 0) hx hb dX1_trimmed_79 (of_decide_eq_true rfl) ?_
                    refine jcallS (As := [.int r63, .int x4, .int 0]) (rest := []) ⟨hx, hb, hml, hown, hts⟩ hK hP hA hS hZ (c_X0_withSteps l D cI cL ad zz hJ σ τ r63 (r63.toInt) rfl x4 (x4.toInt) rfl 0 (0) jz_0) cw_RX1_133 ⟨Nat.le_of_ble_eq_true rfl, Nat.le_of_ble_eq_true rfl⟩ rfl rfl rfl hl.1 rfl (Nat.le_of_ble_eq_true rfl) dX1_trimmed_80 ⟨Nat.zero_le _, Nat.zero_le _⟩ (fun r69 σ68 τ68 H locs h68 hP hS => ?_)
                    exact by
                     obtain ⟨⟨rfl, rfl⟩, w70, h68⟩ := h68
                     have k71 := congrArg Int32.toInt w70
                     refine lv_istore_n (lv' := [(3, .int r69), (5, .int x25), (6, .int x25), (4, .int x4), (0, .ref (ad 31)), (1, .int a1), (2, .int a2)]) hx hb dX1_trimmed_83 rfl hl (of_decide_eq_true rfl) rfl (fun ls hl => ?_)
                     obtain ⟨x72, ex72⟩ : ∃ y : Int32, y = x4 + 1 := ⟨_, rfl⟩
                     have tx72 : x72.toInt = x4.toInt + 1 := (jadd ex72 rfl jz_1 (by omega) (by omega)).trans (by omega)
                     refine lv_iinc (v := x72) (lv' := [(4, .int x72), (3, .int r69), (5, .int x25), (6, .int x25), (0, .ref (ad 31)), (1, .int a1), (2, .int a2)]) hx hb dX1_trimmed_84 hl (k := 3) rfl (by rw [ex72]; rfl) (of_decide_eq_true rfl) rfl (fun ls hl => ?_)
                     refine lv_goto (tgt := 5) hx hb dX1_trimmed_87 (of_decide_eq_true rfl) ?_
                     exact by exact ihlp1 r69 x72 _ _ ls (by have h91 := tx72; omega) (by have h91 := tx72; omega) (by have h91 := tx72; omega)    hP hS (lv_sub hl [0, 1, 4, 5, 6] rfl)
         · have kc23 := jeq c23 rfl rfl
           exact by
            refine lv_iload_n hx hb dX1_trimmed_28 rfl (lv_at hl 5 rfl) ?_
            refine lv_goto (tgt := 35) hx hb dX1_trimmed_29 (of_decide_eq_true rfl) ?_
            refine lv_iconst (v := 2) hx hb dX1_trimmed_35 (of_decide_eq_true rfl) ?_
            refine lv_idiv hx hb dX1_trimmed_36 (of_decide_eq_true rfl) ?_
            refine lv_topi (fun x73 ex73 => ?_)
            have gx73 := jrg (rfl : x73.toInt = x73.toInt)
            refine lv_istore (lv' := [(6, .int x73), (5, .int r14), (4, .int x4), (3, .int x3), (0, .ref (ad 31)), (1, .int a1), (2, .int a2)]) hx hb dX1_trimmed_37 hl (of_decide_eq_true rfl) rfl (fun ls hl => ?_)
            refine lv_aload_n hx hb dX1_trimmed_39 rfl (lv_at hl 4 rfl) ?_
            refine va_get (D := D) hx hb hts inlX1 hown hK hP 31 (jc_31 cI cL ad σ τ) rfl 12 (of_decide_eq_true rfl) (hts _ kw_28_8) (fun _ h9 => h9) rfl dX1_trimmed_40 ?_
            refine lv_if_eq (tgt := 51) hx hb dX1_trimmed_43 (of_decide_eq_true rfl) (fun c74 => ?_) (fun c74 => ?_)
            · have kc74 := jeq c74 rfl jz_0
              refine lv_iload hx hb dX1_trimmed_51 (lv_at hl 1 rfl) ?_
              refine lv_iload hx hb dX1_trimmed_53 (lv_at hl 0 rfl) ?_
              refine lv_icmp_le (tgt := 71) hx hb dX1_trimmed_55 (of_decide_eq_true rfl) (fun c75 => ?_) (fun c75 => ?_)
              · have kc75 := jle c75 rfl rfl
                refine lv_iload hx hb dX1_trimmed_71 (lv_at hl 1 rfl) ?_
                refine lv_if_ne (tgt := 84) hx hb dX1_trimmed_73 (of_decide_eq_true rfl) (fun c76 => ?_) (fun c76 => ?_)
                · have kc76 := jne c76 rfl jz_0
                  obtain ⟨x77, ex77⟩ : ∃ y : Int32, y = x4 + 1 := ⟨_, rfl⟩
                  exact by
                   have tx77 : x77.toInt = x4.toInt + 1 := (jadd ex77 rfl jz_1 (by omega) (by omega)).trans (by omega)
                   refine lv_iinc (v := x77) (lv' := [(4, .int x77), (6, .int x73), (5, .int r14), (3, .int x3), (0, .ref (ad 31)), (1, .int a1), (2, .int a2)]) hx hb dX1_trimmed_84 hl (k := 2) rfl (by rw [ex77]; rfl) (of_decide_eq_true rfl) rfl (fun ls hl => ?_)
                   refine lv_goto (tgt := 5) hx hb dX1_trimmed_87 (of_decide_eq_true rfl) ?_
                   exact by exact ihlp1 x3 x77 _ _ ls (by have h91 := tx77; omega) (by have h91 := tx77; omega) (by have h91 := tx77; omega)    hP hS (lv_sub hl [0, 3, 4, 5, 6] rfl)
                · have kc76 := jeq c76 rfl jz_0
                  refine lv_iload_n hx hb dX1_trimmed_76 rfl (lv_at hl 3 rfl) ?_
                  refine lv_iload hx hb dX1_trimmed_77 (lv_at hl 2 rfl) ?_
                  refine lv_iconst (v := 0) hx hb dX1_trimmed_79 (of_decide_eq_true rfl) ?_
                  refine jcallS (As := [.int x3, .int x4, .int 0]) (rest := []) ⟨hx, hb, hml, hown, hts⟩ hK hP hA hS hZ (c_X0_withSteps l D cI cL ad zz hJ σ τ x3 (x3.toInt) rfl x4 (x4.toInt) rfl 0 (0) jz_0) cw_RX1_133 ⟨Nat.le_of_ble_eq_true rfl, Nat.le_of_ble_eq_true rfl⟩ rfl rfl rfl hl.1 rfl (Nat.le_of_ble_eq_true rfl) dX1_trimmed_80 ⟨Nat.zero_le _, Nat.zero_le _⟩ (fun r79 σ78 τ78 H locs h78 hP hS => ?_)
                  exact by
                   obtain ⟨⟨rfl, rfl⟩, w80, h78⟩ := h78
                   have k81 := congrArg Int32.toInt w80
                   refine lv_istore_n (lv' := [(3, .int r79), (6, .int x73), (5, .int r14), (4, .int x4), (0, .ref (ad 31)), (1, .int a1), (2, .int a2)]) hx hb dX1_trimmed_83 rfl hl (of_decide_eq_true rfl) rfl (fun ls hl => ?_)
                   obtain ⟨x82, ex82⟩ : ∃ y : Int32, y = x4 + 1 := ⟨_, rfl⟩
                   have tx82 : x82.toInt = x4.toInt + 1 := (jadd ex82 rfl jz_1 (by omega) (by omega)).trans (by omega)
                   refine lv_iinc (v := x82) (lv' := [(4, .int x82), (3, .int r79), (6, .int x73), (5, .int r14), (0, .ref (ad 31)), (1, .int a1), (2, .int a2)]) hx hb dX1_trimmed_84 hl (k := 3) rfl (by rw [ex82]; rfl) (of_decide_eq_true rfl) rfl (fun ls hl => ?_)
                   refine lv_goto (tgt := 5) hx hb dX1_trimmed_87 (of_decide_eq_true rfl) ?_
                   exact by exact ihlp1 r79 x82 _ _ ls (by have h91 := tx82; omega) (by have h91 := tx82; omega) (by have h91 := tx82; omega)    hP hS (lv_sub hl [0, 1, 4, 5, 6] rfl)
              · have kc75 := jnle c75 rfl rfl
                exact by
                 refine lv_iload hx hb dX1_trimmed_58 (lv_at hl 0 rfl) ?_
                 refine lv_istore (lv' := [(5, .int x73), (6, .int x73), (4, .int x4), (3, .int x3), (0, .ref (ad 31)), (1, .int a1), (2, .int a2)]) hx hb dX1_trimmed_60 hl (of_decide_eq_true rfl) rfl (fun ls hl => ?_)
                 refine lv_iload_n hx hb dX1_trimmed_62 rfl (lv_at hl 3 rfl) ?_
                 refine lv_iload hx hb dX1_trimmed_63 (lv_at hl 2 rfl) ?_
                 refine lv_iload hx hb dX1_trimmed_65 (lv_at hl 0 rfl) ?_
                 refine jcallS (As := [.int x3, .int x4, .int x73]) (rest := []) ⟨hx, hb, hml, hown, hts⟩ hK hP hA hS hZ (c_X0_withLeft l D cI cL ad zz hJ σ τ x3 (x3.toInt) rfl x4 (x4.toInt) rfl x73 (x73.toInt) rfl) cw_RX1_129 ⟨Nat.le_of_ble_eq_true rfl, Nat.le_of_ble_eq_true rfl⟩ rfl rfl rfl hl.1 rfl (Nat.le_of_ble_eq_true rfl) dX1_trimmed_67 ⟨Nat.zero_le _, Nat.zero_le _⟩ (fun r84 σ83 τ83 H locs h83 hP hS => ?_)
                 obtain ⟨⟨rfl, rfl⟩, w85, h83⟩ := h83
                 have k86 := congrArg Int32.toInt w85
                 refine lv_istore_n (lv' := [(3, .int r84), (5, .int x73), (6, .int x73), (4, .int x4), (0, .ref (ad 31)), (1, .int a1), (2, .int a2)]) hx hb dX1_trimmed_70 rfl hl (of_decide_eq_true rfl) rfl (fun ls hl => ?_)
                 refine lv_iload hx hb dX1_trimmed_71 (lv_at hl 1 rfl) ?_
                 refine lv_if_ne (tgt := 84) hx hb dX1_trimmed_73 (of_decide_eq_true rfl) (fun c87 => ?_) (fun c87 => ?_)
                 · have kc87 := jne c87 rfl jz_0
                   obtain ⟨x88, ex88⟩ : ∃ y : Int32, y = x4 + 1 := ⟨_, rfl⟩
                   exact by
                    have tx88 : x88.toInt = x4.toInt + 1 := (jadd ex88 rfl jz_1 (by omega) (by omega)).trans (by omega)
                    refine lv_iinc (v := x88) (lv' := [(4, .int x88), (3, .int r84), (5, .int x73), (6, .int x73), (0, .ref (ad 31)), (1, .int a1), (2, .int a2)]) hx hb dX1_trimmed_84 hl (k := 3) rfl (by rw [ex88]; rfl) (of_decide_eq_true rfl) rfl (fun ls hl => ?_)
                    refine lv_goto (tgt := 5) hx hb dX1_trimmed_87 (of_decide_eq_true rfl) ?_
                    exact by exact ihlp1 r84 x88 _ _ ls (by have h91 := tx88; omega) (by have h91 := tx88; omega) (by have h91 := tx88; omega)    hP hS (lv_sub hl [0, 1, 4, 5, 6] rfl)
                 · have kc87 := jeq c87 rfl jz_0
                   refine lv_iload_n hx hb dX1_trimmed_76 rfl (lv_at hl 0 rfl) ?_
                   refine lv_iload hx hb dX1_trimmed_77 (lv_at hl 3 rfl) ?_
                   refine lv_iconst (v := 0) hx hb dX1_trimmed_79 (of_decide_eq_true rfl) ?_
                   refine jcallS (As := [.int r84, .int x4, .int 0]) (rest := []) ⟨hx, hb, hml, hown, hts⟩ hK hP hA hS hZ (c_X0_withSteps l D cI cL ad zz hJ σ τ r84 (r84.toInt) rfl x4 (x4.toInt) rfl 0 (0) jz_0) cw_RX1_133 ⟨Nat.le_of_ble_eq_true rfl, Nat.le_of_ble_eq_true rfl⟩ rfl rfl rfl hl.1 rfl (Nat.le_of_ble_eq_true rfl) dX1_trimmed_80 ⟨Nat.zero_le _, Nat.zero_le _⟩ (fun r90 σ89 τ89 H locs h89 hP hS => ?_)
                   exact by
                    obtain ⟨⟨rfl, rfl⟩, w91, h89⟩ := h89
                    have k92 := congrArg Int32.toInt w91
                    refine lv_istore_n (lv' := [(3, .int r90), (5, .int x73), (6, .int x73), (4, .int x4), (0, .ref (ad 31)), (1, .int a1), (2, .int a2)]) hx hb dX1_trimmed_83 rfl hl (of_decide_eq_true rfl) rfl (fun ls hl => ?_)
                    obtain ⟨x93, ex93⟩ : ∃ y : Int32, y = x4 + 1 := ⟨_, rfl⟩
                    have tx93 : x93.toInt = x4.toInt + 1 := (jadd ex93 rfl jz_1 (by omega) (by omega)).trans (by omega)
                    refine lv_iinc (v := x93) (lv' := [(4, .int x93), (3, .int r90), (5, .int x73), (6, .int x73), (0, .ref (ad 31)), (1, .int a1), (2, .int a2)]) hx hb dX1_trimmed_84 hl (k := 3) rfl (by rw [ex93]; rfl) (of_decide_eq_true rfl) rfl (fun ls hl => ?_)
                    refine lv_goto (tgt := 5) hx hb dX1_trimmed_87 (of_decide_eq_true rfl) ?_
                    exact by exact ihlp1 r90 x93 _ _ ls (by have h91 := tx93; omega) (by have h91 := tx93; omega) (by have h91 := tx93; omega)    hP hS (lv_sub hl [0, 1, 4, 5, 6] rfl)
            · have kc74 := jne c74 rfl jz_0
              exact by
               refine lv_iload_n hx hb dX1_trimmed_46 rfl (lv_at hl 6 rfl) ?_
               refine lv_iconst (v := 1) hx hb dX1_trimmed_47 (of_decide_eq_true rfl) ?_
               refine lv_icmp_gt (tgt := 71) hx hb dX1_trimmed_48 (of_decide_eq_true rfl) (fun c94 => ?_) (fun c94 => ?_)
               · have kc94 := jlt c94 jz_1 t2
                 refine lv_iload hx hb dX1_trimmed_71 (lv_at hl 1 rfl) ?_
                 refine lv_if_ne (tgt := 84) hx hb dX1_trimmed_73 (of_decide_eq_true rfl) (fun c95 => ?_) (fun c95 => ?_)
                 · have kc95 := jne c95 rfl jz_0
                   obtain ⟨x96, ex96⟩ : ∃ y : Int32, y = x4 + 1 := ⟨_, rfl⟩
                   have tx96 : x96.toInt = x4.toInt + 1 := (jadd ex96 rfl jz_1 (by omega) (by omega)).trans (by omega)
                   exact by
                    refine lv_iinc (v := x96) (lv' := [(4, .int x96), (6, .int x73), (5, .int r14), (3, .int x3), (0, .ref (ad 31)), (1, .int a1), (2, .int a2)]) hx hb dX1_trimmed_84 hl (k := 2) rfl (by rw [ex96]; rfl) (of_decide_eq_true rfl) rfl (fun ls hl => ?_)
                    refine lv_goto (tgt := 5) hx hb dX1_trimmed_87 (of_decide_eq_true rfl) ?_
                    exact by exact ihlp1 x3 x96 _ _ ls (by have h91 := tx96; omega) (by have h91 := tx96; omega) (by have h91 := tx96; omega)    hP hS (lv_sub hl [0, 3, 4, 5, 6] rfl)
                 · have kc95 := jeq c95 rfl jz_0
                   refine lv_iload_n hx hb dX1_trimmed_76 rfl (lv_at hl 3 rfl) ?_
                   refine lv_iload hx hb dX1_trimmed_77 (lv_at hl 2 rfl) ?_
                   refine lv_iconst (v := 0) hx hb dX1_trimmed_79 (of_decide_eq_true rfl) ?_
                   refine jcallS (As := [.int x3, .int x4, .int 0]) (rest := []) ⟨hx, hb, hml, hown, hts⟩ hK hP hA hS hZ (c_X0_withSteps l D cI cL ad zz hJ σ τ x3 (x3.toInt) rfl x4 (x4.toInt) rfl 0 (0) jz_0) cw_RX1_133 ⟨Nat.le_of_ble_eq_true rfl, Nat.le_of_ble_eq_true rfl⟩ rfl rfl rfl hl.1 rfl (Nat.le_of_ble_eq_true rfl) dX1_trimmed_80 ⟨Nat.zero_le _, Nat.zero_le _⟩ (fun r98 σ97 τ97 H locs h97 hP hS => ?_)
                   obtain ⟨⟨rfl, rfl⟩, w99, h97⟩ := h97
                   have k100 := congrArg Int32.toInt w99
                   refine lv_istore_n (lv' := [(3, .int r98), (6, .int x73), (5, .int r14), (4, .int x4), (0, .ref (ad 31)), (1, .int a1), (2, .int a2)]) hx hb dX1_trimmed_83 rfl hl (of_decide_eq_true rfl) rfl (fun ls hl => ?_)
                   obtain ⟨x101, ex101⟩ : ∃ y : Int32, y = x4 + 1 := ⟨_, rfl⟩
                   exact by
                    have tx101 : x101.toInt = x4.toInt + 1 := (jadd ex101 rfl jz_1 (by omega) (by omega)).trans (by omega)
                    refine lv_iinc (v := x101) (lv' := [(4, .int x101), (3, .int r98), (6, .int x73), (5, .int r14), (0, .ref (ad 31)), (1, .int a1), (2, .int a2)]) hx hb dX1_trimmed_84 hl (k := 3) rfl (by rw [ex101]; rfl) (of_decide_eq_true rfl) rfl (fun ls hl => ?_)
                    refine lv_goto (tgt := 5) hx hb dX1_trimmed_87 (of_decide_eq_true rfl) ?_
                    exact by exact ihlp1 r98 x101 _ _ ls (by have h91 := tx101; omega) (by have h91 := tx101; omega) (by have h91 := tx101; omega)    hP hS (lv_sub hl [0, 1, 4, 5, 6] rfl)
               · have kc94 := jnlt c94 jz_1 t2
                 refine lv_iload hx hb dX1_trimmed_51 (lv_at hl 1 rfl) ?_
                 refine lv_iload hx hb dX1_trimmed_53 (lv_at hl 0 rfl) ?_
                 refine lv_icmp_le (tgt := 71) hx hb dX1_trimmed_55 (of_decide_eq_true rfl) (fun c102 => ?_) (fun c102 => ?_)
                 · have kc102 := jle c102 rfl rfl
                   exact by
                    refine lv_iload hx hb dX1_trimmed_71 (lv_at hl 1 rfl) ?_
                    refine lv_if_ne (tgt := 84) hx hb dX1_trimmed_73 (of_decide_eq_true rfl) (fun c103 => ?_) (fun c103 => ?_)
                    · have kc103 := jne c103 rfl jz_0
                      obtain ⟨x104, ex104⟩ : ∃ y : Int32, y = x4 + 1 := ⟨_, rfl⟩
                      have tx104 : x104.toInt = x4.toInt + 1 := (jadd ex104 rfl jz_1 (by omega) (by omega)).trans (by omega)
                      refine lv_iinc (v := x104) (lv' := [(4, .int x104), (6, .int x73), (5, .int r14), (3, .int x3), (0, .ref (ad 31)), (1, .int a1), (2, .int a2)]) hx hb dX1_trimmed_84 hl (k := 2) rfl (by rw [ex104]; rfl) (of_decide_eq_true rfl) rfl (fun ls hl => ?_)
                      refine lv_goto (tgt := 5) hx hb dX1_trimmed_87 (of_decide_eq_true rfl) ?_
                      exact by exact ihlp1 x3 x104 _ _ ls (by have h91 := tx104; omega) (by have h91 := tx104; omega) (by have h91 := tx104; omega)    hP hS (lv_sub hl [0, 3, 4, 5, 6] rfl)
                    · have kc103 := jeq c103 rfl jz_0
                      exact by
                       refine lv_iload_n hx hb dX1_trimmed_76 rfl (lv_at hl 3 rfl) ?_
                       refine lv_iload hx hb dX1_trimmed_77 (lv_at hl 2 rfl) ?_
                       refine lv_iconst (v := 0) hx hb dX1_trimmed_79 (of_decide_eq_true rfl) ?_
                       refine jcallS (As := [.int x3, .int x4, .int 0]) (rest := []) ⟨hx, hb, hml, hown, hts⟩ hK hP hA hS hZ (c_X0_withSteps l D cI cL ad zz hJ σ τ x3 (x3.toInt) rfl x4 (x4.toInt) rfl 0 (0) jz_0) cw_RX1_133 ⟨Nat.le_of_ble_eq_true rfl, Nat.le_of_ble_eq_true rfl⟩ rfl rfl rfl hl.1 rfl (Nat.le_of_ble_eq_true rfl) dX1_trimmed_80 ⟨Nat.zero_le _, Nat.zero_le _⟩ (fun r106 σ105 τ105 H locs h105 hP hS => ?_)
                       obtain ⟨⟨rfl, rfl⟩, w107, h105⟩ := h105
                       have k108 := congrArg Int32.toInt w107
                       refine lv_istore_n (lv' := [(3, .int r106), (6, .int x73), (5, .int r14), (4, .int x4), (0, .ref (ad 31)), (1, .int a1), (2, .int a2)]) hx hb dX1_trimmed_83 rfl hl (of_decide_eq_true rfl) rfl (fun ls hl => ?_)
                       obtain ⟨x109, ex109⟩ : ∃ y : Int32, y = x4 + 1 := ⟨_, rfl⟩
                       have tx109 : x109.toInt = x4.toInt + 1 := (jadd ex109 rfl jz_1 (by omega) (by omega)).trans (by omega)
                       exact by
                        refine lv_iinc (v := x109) (lv' := [(4, .int x109), (3, .int r106), (6, .int x73), (5, .int r14), (0, .ref (ad 31)), (1, .int a1), (2, .int a2)]) hx hb dX1_trimmed_84 hl (k := 3) rfl (by rw [ex109]; rfl) (of_decide_eq_true rfl) rfl (fun ls hl => ?_)
                        refine lv_goto (tgt := 5) hx hb dX1_trimmed_87 (of_decide_eq_true rfl) ?_
                        exact by exact ihlp1 r106 x109 _ _ ls (by have h91 := tx109; omega) (by have h91 := tx109; omega) (by have h91 := tx109; omega)    hP hS (lv_sub hl [0, 1, 4, 5, 6] rfl)
                 · have kc102 := jnle c102 rfl rfl
                   refine lv_iload hx hb dX1_trimmed_58 (lv_at hl 0 rfl) ?_
                   refine lv_istore (lv' := [(5, .int x73), (6, .int x73), (4, .int x4), (3, .int x3), (0, .ref (ad 31)), (1, .int a1), (2, .int a2)]) hx hb dX1_trimmed_60 hl (of_decide_eq_true rfl) rfl (fun ls hl => ?_)
                   refine lv_iload_n hx hb dX1_trimmed_62 rfl (lv_at hl 3 rfl) ?_
                   refine lv_iload hx hb dX1_trimmed_63 (lv_at hl 2 rfl) ?_
                   refine lv_iload hx hb dX1_trimmed_65 (lv_at hl 0 rfl) ?_
                   refine jcallS (As := [.int x3, .int x4, .int x73]) (rest := []) ⟨hx, hb, hml, hown, hts⟩ hK hP hA hS hZ (c_X0_withLeft l D cI cL ad zz hJ σ τ x3 (x3.toInt) rfl x4 (x4.toInt) rfl x73 (x73.toInt) rfl) cw_RX1_129 ⟨Nat.le_of_ble_eq_true rfl, Nat.le_of_ble_eq_true rfl⟩ rfl rfl rfl hl.1 rfl (Nat.le_of_ble_eq_true rfl) dX1_trimmed_67 ⟨Nat.zero_le _, Nat.zero_le _⟩ (fun r111 σ110 τ110 H locs h110 hP hS => ?_)
                   obtain ⟨⟨rfl, rfl⟩, w112, h110⟩ := h110
                   have k113 := congrArg Int32.toInt w112
                   refine lv_istore_n (lv' := [(3, .int r111), (5, .int x73), (6, .int x73), (4, .int x4), (0, .ref (ad 31)), (1, .int a1), (2, .int a2)]) hx hb dX1_trimmed_70 rfl hl (of_decide_eq_true rfl) rfl (fun ls hl => ?_)
                   refine lv_iload hx hb dX1_trimmed_71 (lv_at hl 1 rfl) ?_
                   refine lv_if_ne (tgt := 84) hx hb dX1_trimmed_73 (of_decide_eq_true rfl) (fun c114 => ?_) (fun c114 => ?_)
                   · have kc114 := jne c114 rfl jz_0
                     obtain ⟨x115, ex115⟩ : ∃ y : Int32, y = x4 + 1 := ⟨_, rfl⟩
                     exact by
                      have tx115 : x115.toInt = x4.toInt + 1 := (jadd ex115 rfl jz_1 (by omega) (by omega)).trans (by omega)
                      refine lv_iinc (v := x115) (lv' := [(4, .int x115), (3, .int r111), (5, .int x73), (6, .int x73), (0, .ref (ad 31)), (1, .int a1), (2, .int a2)]) hx hb dX1_trimmed_84 hl (k := 3) rfl (by rw [ex115]; rfl) (of_decide_eq_true rfl) rfl (fun ls hl => ?_)
                      refine lv_goto (tgt := 5) hx hb dX1_trimmed_87 (of_decide_eq_true rfl) ?_
                      exact by exact ihlp1 r111 x115 _ _ ls (by have h91 := tx115; omega) (by have h91 := tx115; omega) (by have h91 := tx115; omega)    hP hS (lv_sub hl [0, 1, 4, 5, 6] rfl)
                   · have kc114 := jeq c114 rfl jz_0
                     refine lv_iload_n hx hb dX1_trimmed_76 rfl (lv_at hl 0 rfl) ?_
                     refine lv_iload hx hb dX1_trimmed_77 (lv_at hl 3 rfl) ?_
                     refine lv_iconst (v := 0) hx hb dX1_trimmed_79 (of_decide_eq_true rfl) ?_
                     refine jcallS (As := [.int r111, .int x4, .int 0]) (rest := []) ⟨hx, hb, hml, hown, hts⟩ hK hP hA hS hZ (c_X0_withSteps l D cI cL ad zz hJ σ τ r111 (r111.toInt) rfl x4 (x4.toInt) rfl 0 (0) jz_0) cw_RX1_133 ⟨Nat.le_of_ble_eq_true rfl, Nat.le_of_ble_eq_true rfl⟩ rfl rfl rfl hl.1 rfl (Nat.le_of_ble_eq_true rfl) dX1_trimmed_80 ⟨Nat.zero_le _, Nat.zero_le _⟩ (fun r117 σ116 τ116 H locs h116 hP hS => ?_)
                     exact by
                      obtain ⟨⟨rfl, rfl⟩, w118, h116⟩ := h116
                      have k119 := congrArg Int32.toInt w118
                      refine lv_istore_n (lv' := [(3, .int r117), (5, .int x73), (6, .int x73), (4, .int x4), (0, .ref (ad 31)), (1, .int a1), (2, .int a2)]) hx hb dX1_trimmed_83 rfl hl (of_decide_eq_true rfl) rfl (fun ls hl => ?_)
                      obtain ⟨x120, ex120⟩ : ∃ y : Int32, y = x4 + 1 := ⟨_, rfl⟩
                      have tx120 : x120.toInt = x4.toInt + 1 := (jadd ex120 rfl jz_1 (by omega) (by omega)).trans (by omega)
                      refine lv_iinc (v := x120) (lv' := [(4, .int x120), (3, .int r117), (5, .int x73), (6, .int x73), (0, .ref (ad 31)), (1, .int a1), (2, .int a2)]) hx hb dX1_trimmed_84 hl (k := 3) rfl (by rw [ex120]; rfl) (of_decide_eq_true rfl) rfl (fun ls hl => ?_)
                      refine lv_goto (tgt := 5) hx hb dX1_trimmed_87 (of_decide_eq_true rfl) ?_
                      exact by exact ihlp1 r117 x120 _ _ ls (by have h91 := tx120; omega) (by have h91 := tx120; omega) (by have h91 := tx120; omega)    hP hS (lv_sub hl [0, 1, 4, 5, 6] rfl)
  exact by exact lp1 1000000 a1 0 _ _ ls (by have h90 := t1; have h91 := jz_0; omega) (by have h90 := t1; have h91 := jz_0; omega) (by have h90 := t1; have h91 := jz_0; omega)   hP hS hl
set_option maxHeartbeats 4000000 in
set_option maxRecDepth 100000 in
theorem c_X1_add_31 (l : Launch) (D : va_G) (cI cL : ClassId) (ad zz : Nat → Nat) (hJ : jD ad) (σ : Nat → Nat → Int32) (τ : Nat → Nat → Int64) (a1 : Int32) (A1 : Int) (t1 : a1.toInt = A1) (a2 : Int32) (A2 : Int) (t2 : a2.toInt = A2) (hI31 : jI31 σ) : jM l yX1_add cX1_add 5 (some .int) ({ frames := 2, cells := 0, slots := 0, locals := 49 }) D cI cL ad zz [.ref (ad 31), .int a1, .int a2] σ τ (fun r σ' τ' => τ = τ' ∧ (∀ i : Nat, (i < 31 ∨ 32 < i) ∧ (i < 36 ∨ 37 < i) → σ' i = σ i) ∧ (∀ k : Nat, (k < 8 ∨ 8 < k) → σ' 31 k = σ 31 k) ∧ (jI31 σ') ∧ ((True ∧ (0 ≤ r.toInt ∧ r.toInt ≤ 350)))) := by
  refine jM.of hJ (by decide +kernel) (nt := .int) rfl (Nat.le_of_ble_eq_true rfl) ?_
  intro p e s m args below meth c Q ls hC hret hl hP
  obtain ⟨hx, hb, hr, hml, hown, hts, hK, -, hlocks, hZ⟩ := hC
  have hown : s.vm.findClass RX1 = some m.cls := hown
  have hS : va_S (jA ad) s.heap s.heap [] := va_S.rf
  have hA : ∀ q, jA ad q → jA ad q := fun _ h => h
  have hl : lv_has ls 5 [(0, .ref (ad 31)), (1, .int a1), (2, .int a2)] := hl
  have g1 := jrg t1
  have g2 := jrg t2
  obtain ⟨i1, w2, w3⟩ : (0 ≤ (σ 31 8).toInt ∧ (σ 31 8).toInt ≤ 350) ∧ (∀ k : Nat, k < 1400 → (-1) ≤ (σ 33 k).toInt ∧ (σ 33 k).toInt ≤ 350) ∧ (∀ k : Nat, k < 1024 → 0 ≤ (σ 36 k).toInt ∧ (σ 36 k).toInt ≤ 349) := id hI31
  refine lv_iload_n hx hb dX1_add_0 rfl (lv_at hl 2 rfl) ?_
  refine lv_aload_n hx hb dX1_add_1 rfl (lv_at hl 0 rfl) ?_
  refine va_get (D := D) hx hb hts inlX1 hown hK hP 31 (jc_31 cI cL ad σ τ) rfl 11 (of_decide_eq_true rfl) (hts _ kw_28_7) (fun _ h9 => h9) rfl dX1_add_2 ?_
  refine lv_icmp_lt (tgt := 12) hx hb dX1_add_5 (of_decide_eq_true rfl) (fun c4 => ?_) (fun c4 => ?_)
  · have kc4 := jlt c4 t2 rfl
    refine lv_aload_n hx hb dX1_add_12 rfl (lv_at hl 0 rfl) ?_
    refine lv_iload_n hx hb dX1_add_13 rfl (lv_at hl 1 rfl) ?_
    refine lv_aload_n hx hb dX1_add_14 rfl (lv_at hl 0 rfl) ?_
    refine va_get (D := D) hx hb hts inlX1 hown hK hP 31 (jc_31 cI cL ad σ τ) rfl 11 (of_decide_eq_true rfl) (hts _ kw_28_7) (fun _ h9 => h9) rfl dX1_add_15 ?_
    refine lv_iload_n hx hb dX1_add_18 rfl (lv_at hl 2 rfl) ?_
    have g5 := jrg (rfl : (σ 31 11).toInt = (σ 31 11).toInt)
    refine lv_isub hx hb dX1_add_19 ?_
    refine lv_topi (fun x6 ex6 => ?_)
    have gx6 := jrg (rfl : x6.toInt = x6.toInt)
    refine jcallV (As := [.int a1, .int x6]) (rest := []) ⟨hx, hb, hml, hown, hts⟩ hK hP hA hS hZ (c_X1_trimmed_31 l D cI cL ad zz hJ σ τ a1 (A1) t1 x6 (x6.toInt) rfl) cw_RX1_71 (jc_31 cI cL ad σ τ) rfl ⟨Nat.le_of_ble_eq_true rfl, Nat.le_of_ble_eq_true rfl⟩ rfl rfl rfl hl.1 rfl (Nat.le_of_ble_eq_true rfl) dX1_add_20 ⟨Nat.zero_le _, Nat.zero_le _⟩ (fun r8 σ7 τ7 H locs h7 hP hS => ?_)
    obtain ⟨⟨rfl, rfl⟩, h7⟩ := h7
    refine lv_iload_n hx hb dX1_add_23 rfl (lv_at hl 2 rfl) ?_
    refine lv_bipush (v := 27) hx hb dX1_add_24 (of_decide_eq_true rfl) ?_
    refine lv_ishl hx hb dX1_add_26 ?_
    refine lv_topi (fun x9 ex9 => ?_)
    have gx9 := jrg (rfl : x9.toInt = x9.toInt)
    refine lv_ior hx hb dX1_add_27 ?_
    refine lv_topi (fun x10 ex10 => ?_)
    have gx10 := jrg (rfl : x10.toInt = x10.toInt)
    refine lv_istore_n (lv' := [(3, .int x10), (0, .ref (ad 31)), (1, .int a1), (2, .int a2)]) hx hb dX1_add_28 rfl hl (of_decide_eq_true rfl) rfl (fun ls hl => ?_)
    refine lv_aload_n hx hb dX1_add_29 rfl (lv_at hl 1 rfl) ?_
    refine lv_iload_n hx hb dX1_add_30 rfl (lv_at hl 0 rfl) ?_
    refine jcallV (As := [.int x10]) (rest := []) ⟨hx, hb, hml, hown, hts⟩ hK hP hA hS hZ (c_X1_slotFor_31 l D cI cL ad zz hJ σ τ x10 (x10.toInt) rfl hI31) cw_RX1_77 (jc_31 cI cL ad σ τ) rfl ⟨Nat.le_of_ble_eq_true rfl, Nat.le_of_ble_eq_true rfl⟩ rfl rfl rfl hl.1 rfl (Nat.le_of_ble_eq_true rfl) dX1_add_31 ⟨Nat.zero_le _, Nat.zero_le _⟩ (fun r12 σ11 τ11 H locs h11 hP hS => ?_)
    obtain ⟨⟨rfl, rfl⟩, h11⟩ := h11
    have h13 := h11
    obtain ⟨q15, k14⟩ := h13
    refine lv_istore (lv' := [(4, .int r12), (3, .int x10), (0, .ref (ad 31)), (1, .int a1), (2, .int a2)]) hx hb dX1_add_34 hl (of_decide_eq_true rfl) rfl (fun ls hl => ?_)
    refine lv_iload hx hb dX1_add_36 (lv_at hl 0 rfl) ?_
    refine lv_if_ge (tgt := 45) hx hb dX1_add_38 (of_decide_eq_true rfl) (fun c16 => ?_) (fun c16 => ?_)
    · have kc16 := jle c16 jz_0 rfl
      refine lv_aload_n hx hb dX1_add_45 rfl (lv_at hl 2 rfl) ?_
      refine lv_iload hx hb dX1_add_46 (lv_at hl 0 rfl) ?_
      exact by
       refine jcallV (As := [.int r12]) (rest := []) ⟨hx, hb, hml, hown, hts⟩ hK hP hA hS hZ (c_X1_isTaken_31 l D cI cL ad zz hJ σ τ r12 (r12.toInt) rfl hI31 (by omega)) cw_RX1_81 (jc_31 cI cL ad σ τ) rfl ⟨Nat.le_of_ble_eq_true rfl, Nat.le_of_ble_eq_true rfl⟩ rfl rfl rfl hl.1 rfl (Nat.le_of_ble_eq_true rfl) dX1_add_48 ⟨Nat.zero_le _, Nat.zero_le _⟩ (fun r18 σ17 τ17 H locs h17 hP hS => ?_)
       obtain ⟨⟨rfl, rfl⟩, h17⟩ := h17
       rcases h17 with h19 | h20
       · obtain ⟨q22, k21⟩ := h19
         have q22 := q22.symm
         subst q22
         refine lv_if_eq (tgt := 62) hx hb dX1_add_51 (of_decide_eq_true rfl) (fun c => absurd c (of_decide_eq_true rfl)) (fun _ => ?_)
         refine lv_aload_n hx hb dX1_add_54 rfl (lv_at hl 2 rfl) ?_
         refine va_get (D := D) hx hb hts inlX1 hown hK hP 31 (jc_31 cI cL ad σ τ) rfl 6 (of_decide_eq_true rfl) (hts _ kw_5_7) (fun _ h9 => h9) rfl dX1_add_55 ?_
         refine lv_iload hx hb dX1_add_58 (lv_at hl 0 rfl) ?_
         exact by
          refine jald hx hb hK hP (jc_36 cI cL ad σ τ) (jin rfl (by omega) (by omega)) dX1_add_60 ?_
          have g23 := w3 _ (jnat (x := r12) rfl (n := 1024) (by omega) (of_decide_eq_true rfl))
          refine lv_topi (fun x24 ex24 => ?_)
          rw [← ex24] at g23
          exact hret x24 σ τ _ _ _ _ rfl ⟨rfl, (fun _ _ => rfl), (fun _ _ => rfl), hI31, ⟨trivial, (by omega)⟩⟩ hP hS dX1_add_61
       · obtain ⟨q26, k25⟩ := h20
         have q26 := q26.symm
         subst q26
         refine lv_if_eq (tgt := 62) hx hb dX1_add_51 (of_decide_eq_true rfl) (fun _ => ?_) (fun c => absurd (of_decide_eq_true rfl) c)
         exact by
          refine lv_aload_n hx hb dX1_add_62 rfl (lv_at hl 2 rfl) ?_
          refine va_get (D := D) hx hb hts inlX1 hown hK hP 31 (jc_31 cI cL ad σ τ) rfl 8 (of_decide_eq_true rfl) (hts _ kw_27_22) (fun _ h9 => h9) rfl dX1_add_63 ?_
          refine lv_sipush (v := 350) hx hb dX1_add_66 (of_decide_eq_true rfl) ?_
          refine lv_icmp_lt (tgt := 76) hx hb dX1_add_69 (of_decide_eq_true rfl) (fun c27 => ?_) (fun c27 => ?_)
          · have kc27 := jlt c27 rfl jz_350
            refine lv_aload_n hx hb dX1_add_76 rfl (lv_at hl 2 rfl) ?_
            refine va_get (D := D) hx hb hts inlX1 hown hK hP 31 (jc_31 cI cL ad σ τ) rfl 2 (of_decide_eq_true rfl) (hts _ kw_5_3) (fun _ h9 => h9) rfl dX1_add_77 ?_
            refine lv_aload_n hx hb dX1_add_80 rfl (lv_at hl 2 rfl) ?_
            refine va_get (D := D) hx hb hts inlX1 hown hK hP 31 (jc_31 cI cL ad σ τ) rfl 8 (of_decide_eq_true rfl) (hts _ kw_27_22) (fun _ h9 => h9) rfl dX1_add_81 ?_
            refine lv_iload_n hx hb dX1_add_84 rfl (lv_at hl 1 rfl) ?_
            exact by
             refine jast hx hb hK hP hJ hA hS (jc_32 cI cL ad σ τ) (ja_32 cI cL ad σ τ _ _) (jin rfl (by omega) (by omega)) dX1_add_85 (fun σ28 H locs eσ28 hP hS => ?_)
             refine lv_aload_n hx hb dX1_add_86 rfl (lv_at hl 2 rfl) ?_
             refine va_get (D := D) hx hb hts inlX1 hown hK hP 31 (jc_31 cI cL ad σ28 τ) rfl 7 (of_decide_eq_true rfl) (hts _ kw_5_8) (fun _ h9 => h9) rfl dX1_add_87 ?_
             refine lv_aload_n hx hb dX1_add_90 rfl (lv_at hl 2 rfl) ?_
             refine va_get (D := D) hx hb hts inlX1 hown hK hP 31 (jc_31 cI cL ad σ28 τ) rfl 8 (of_decide_eq_true rfl) (hts _ kw_27_22) (fun _ h9 => h9) rfl dX1_add_91 ?_
             have m29 : σ28 31 8 = (σ 31 8) := (congrFun (jnp 31 eσ28 (of_decide_eq_true rfl)) 8)
             refine jtopr m29 ?_
             refine lv_iload hx hb dX1_add_94 (lv_at hl 0 rfl) ?_
             refine jast hx hb hK hP hJ hA hS (jc_37 cI cL ad σ28 τ) (ja_37 cI cL ad σ28 τ _ _) (jin rfl (by omega) (by omega)) dX1_add_96 (fun σ30 H locs eσ30 hP hS => ?_)
             exact by
              refine lv_aload_n hx hb dX1_add_97 rfl (lv_at hl 2 rfl) ?_
              refine va_get (D := D) hx hb hts inlX1 hown hK hP 31 (jc_31 cI cL ad σ30 τ) rfl 6 (of_decide_eq_true rfl) (hts _ kw_5_7) (fun _ h9 => h9) rfl dX1_add_98 ?_
              refine lv_iload hx hb dX1_add_101 (lv_at hl 0 rfl) ?_
              refine lv_aload_n hx hb dX1_add_103 rfl (lv_at hl 2 rfl) ?_
              refine va_get (D := D) hx hb hts inlX1 hown hK hP 31 (jc_31 cI cL ad σ30 τ) rfl 8 (of_decide_eq_true rfl) (hts _ kw_27_22) (fun _ h9 => h9) rfl dX1_add_104 ?_
              have m31 : σ30 31 8 = (σ 31 8) := ((congrFun (jnp 31 eσ30 (of_decide_eq_true rfl)) 8).trans m29)
              refine jtopr m31 ?_
              refine jast hx hb hK hP hJ hA hS (jc_36 cI cL ad σ30 τ) (ja_36 cI cL ad σ30 τ _ _) (jin rfl (by omega) (by omega)) dX1_add_107 (fun σ32 H locs eσ32 hP hS => ?_)
              refine lv_aload_n hx hb dX1_add_108 rfl (lv_at hl 2 rfl) ?_
              exact by
               refine lv_dup hx hb dX1_add_109 rfl ?_
               refine va_get (D := D) hx hb hts inlX1 hown hK hP 31 (jc_31 cI cL ad σ32 τ) rfl 8 (of_decide_eq_true rfl) (hts _ kw_27_22) (fun _ h9 => h9) rfl dX1_add_110 ?_
               have m33 : σ32 31 8 = (σ 31 8) := ((congrFun (jnp 31 eσ32 (of_decide_eq_true rfl)) 8).trans m31)
               refine jtopr m33 ?_
               refine lv_dup_x1 hx hb dX1_add_113 rfl rfl ?_
               refine lv_iconst (v := 1) hx hb dX1_add_114 (of_decide_eq_true rfl) ?_
               have g34 := jrg (rfl : (σ 31 8).toInt = (σ 31 8).toInt)
               refine lv_iadd hx hb dX1_add_115 ?_
               refine lv_topi (fun x35 ex35 => ?_)
               exact by
                have tx35 : x35.toInt = (σ 31 8).toInt + 1 := (jadd ex35 rfl jz_1 (by omega) (by omega)).trans (by omega)
                refine jput (ty := .int) hx hb hts inlX1 tyX1 tyX1_ok nmX1 hown hK hP hJ hA hS (jc_31 cI cL ad σ32 τ) rfl (k := 8) (of_decide_eq_true rfl) (Nat.le_of_ble_eq_true rfl) (jp_31_8 cI cL ad σ32 τ x35) (hts _ kw_27_22) (fun _ h9 => h9) rfl (by decide +kernel) rfl rfl dX1_add_116 (fun σ36 H locs eσ36 hP hS => ?_)
                have z37 : (σ36 31 8).toInt = (σ 31 8).toInt + 1 := ((congrArg Int32.toInt (show σ36 31 8 = x35 from (jsp eσ36))).trans tx35)
                have w38 : ∀ k : Nat, k < 1400 → (-1) ≤ (σ36 33 k).toInt ∧ (σ36 33 k).toInt ≤ 350 := (jrr_fr (jnp 33 eσ36 (of_decide_eq_true rfl)) (jrr_fr (jnp 33 eσ32 (of_decide_eq_true rfl)) (jrr_fr (jnp 33 eσ30 (of_decide_eq_true rfl)) (jrr_fr (jnp 33 eσ28 (of_decide_eq_true rfl)) w2))))
                have w39 : ∀ k : Nat, k < 1024 → 0 ≤ (σ36 36 k).toInt ∧ (σ36 36 k).toInt ≤ 349 := (jrr_fr (jnp 36 eσ36 (of_decide_eq_true rfl)) (by rw [eσ32]; exact jrr_up (jrr_fr (jnp 36 eσ30 (of_decide_eq_true rfl)) (jrr_fr (jnp 36 eσ28 (of_decide_eq_true rfl)) w3)) (by omega) (by omega)))
                have I40 : jI31 σ36 := ⟨(by omega), w38, w39⟩
                exact hret (σ 31 8) σ36 τ _ _ _ _ rfl ⟨rfl, (fun i hi => ((jnp i eσ36 (imp_81 i hi)).trans ((jnp i eσ32 (imp_82 i hi)).trans ((jnp i eσ30 (imp_83 i hi)).trans (jnp i eσ28 (imp_84 i hi)))))), (fun i hi => ((jkp i eσ36 (imp_85 i hi)).trans ((congrFun (jnp 31 eσ32 (of_decide_eq_true rfl)) i).trans ((congrFun (jnp 31 eσ30 (of_decide_eq_true rfl)) i).trans (congrFun (jnp 31 eσ28 (of_decide_eq_true rfl)) i))))), I40, ⟨trivial, (by omega)⟩⟩ hP hS dX1_add_119
          · have kc27 := jnlt c27 rfl jz_350
            refine lv_sipush (v := 350) hx hb dX1_add_72 (of_decide_eq_true rfl) ?_
            exact hret 350 σ τ _ _ _ _ rfl ⟨rfl, (fun _ _ => rfl), (fun _ _ => rfl), hI31, ⟨trivial, (by have h9 := jz_350; omega)⟩⟩ hP hS dX1_add_75
    · exact by
       have kc16 := jnle c16 jz_0 rfl
       refine lv_sipush (v := 350) hx hb dX1_add_41 (of_decide_eq_true rfl) ?_
       exact hret 350 σ τ _ _ _ _ rfl ⟨rfl, (fun _ _ => rfl), (fun _ _ => rfl), hI31, ⟨trivial, (by have h9 := jz_350; omega)⟩⟩ hP hS dX1_add_44
  · have kc4 := jnlt c4 t2 rfl
    refine lv_sipush (v := 350) hx hb dX1_add_8 (of_decide_eq_true rfl) ?_
    exact hret 350 σ τ _ _ _ _ rfl ⟨rfl, (fun _ _ => rfl), (fun _ _ => rfl), hI31, ⟨trivial, (by have h9 := jz_350; omega)⟩⟩ hP hS dX1_add_11
set_option maxHeartbeats 4000000 in
set_option maxRecDepth 100000 in
theorem c_X1_nodeOf_31 (l : Launch) (D : va_G) (cI cL : ClassId) (ad zz : Nat → Nat) (hJ : jD ad) (σ : Nat → Nat → Int32) (τ : Nat → Nat → Int64) (a1 : Int32) (A1 : Int) (t1 : a1.toInt = A1) (a2 : Int32) (A2 : Int) (t2 : a2.toInt = A2) (hI31 : jI31 σ) : jM l yX1_nodeOf cX1_nodeOf 5 (some .int) ({ frames := 2, cells := 0, slots := 0, locals := 49 }) D cI cL ad zz [.ref (ad 31), .int a1, .int a2] σ τ (fun r σ' τ' => (σ = σ' ∧ τ = τ') ∧ ((True ∧ ((-1) ≤ r.toInt ∧ r.toInt ≤ 349)))) := by
  refine jM.of hJ (by decide +kernel) (nt := .int) rfl (Nat.le_of_ble_eq_true rfl) ?_
  intro p e s m args below meth c Q ls hC hret hl hP
  obtain ⟨hx, hb, hr, hml, hown, hts, hK, -, hlocks, hZ⟩ := hC
  have hown : s.vm.findClass RX1 = some m.cls := hown
  have hS : va_S (jA ad) s.heap s.heap [] := va_S.rf
  have hA : ∀ q, jA ad q → jA ad q := fun _ h => h
  have hl : lv_has ls 5 [(0, .ref (ad 31)), (1, .int a1), (2, .int a2)] := hl
  have g1 := jrg t1
  have g2 := jrg t2
  obtain ⟨i1, w2, w3⟩ : (0 ≤ (σ 31 8).toInt ∧ (σ 31 8).toInt ≤ 350) ∧ (∀ k : Nat, k < 1400 → (-1) ≤ (σ 33 k).toInt ∧ (σ 33 k).toInt ≤ 350) ∧ (∀ k : Nat, k < 1024 → 0 ≤ (σ 36 k).toInt ∧ (σ 36 k).toInt ≤ 349) := id hI31
  refine lv_iload_n hx hb dX1_nodeOf_0 rfl (lv_at hl 2 rfl) ?_
  refine lv_aload_n hx hb dX1_nodeOf_1 rfl (lv_at hl 0 rfl) ?_
  refine va_get (D := D) hx hb hts inlX1 hown hK hP 31 (jc_31 cI cL ad σ τ) rfl 10 (of_decide_eq_true rfl) (hts _ kw_28_9) (fun _ h9 => h9) rfl dX1_nodeOf_2 ?_
  have g4 := jrg (rfl : (σ 31 10).toInt = (σ 31 10).toInt)
  refine lv_isub hx hb dX1_nodeOf_5 ?_
  refine lv_topi (fun x5 ex5 => ?_)
  have gx5 := jrg (rfl : x5.toInt = x5.toInt)
  refine lv_istore_n (lv' := [(3, .int x5), (0, .ref (ad 31)), (1, .int a1), (2, .int a2)]) hx hb dX1_nodeOf_6 rfl hl (of_decide_eq_true rfl) rfl (fun ls hl => ?_)
  refine lv_iload_n hx hb dX1_nodeOf_7 rfl (lv_at hl 0 rfl) ?_
  refine lv_if_lt (tgt := 19) hx hb dX1_nodeOf_8 (of_decide_eq_true rfl) (fun c6 => ?_) (fun c6 => ?_)
  · have kc6 := jlt c6 rfl jz_0
    refine lv_iconst (v := (-1)) hx hb dX1_nodeOf_19 (of_decide_eq_true rfl) ?_
    exact hret (-1) σ τ _ _ _ _ rfl ⟨⟨rfl, rfl⟩, ⟨trivial, (by have h9 := jz_m1; omega)⟩⟩ hP hS dX1_nodeOf_20
  · have kc6 := jnlt c6 rfl jz_0
    refine lv_iload_n hx hb dX1_nodeOf_11 rfl (lv_at hl 0 rfl) ?_
    refine lv_aload_n hx hb dX1_nodeOf_12 rfl (lv_at hl 1 rfl) ?_
    refine va_get (D := D) hx hb hts inlX1 hown hK hP 31 (jc_31 cI cL ad σ τ) rfl 11 (of_decide_eq_true rfl) (hts _ kw_28_7) (fun _ h9 => h9) rfl dX1_nodeOf_13 ?_
    refine lv_icmp_lt (tgt := 21) hx hb dX1_nodeOf_16 (of_decide_eq_true rfl) (fun c7 => ?_) (fun c7 => ?_)
    · have kc7 := jlt c7 rfl rfl
      refine lv_aload_n hx hb dX1_nodeOf_21 rfl (lv_at hl 1 rfl) ?_
      refine lv_aload_n hx hb dX1_nodeOf_22 rfl (lv_at hl 1 rfl) ?_
      refine lv_iload_n hx hb dX1_nodeOf_23 rfl (lv_at hl 2 rfl) ?_
      refine lv_aload_n hx hb dX1_nodeOf_24 rfl (lv_at hl 1 rfl) ?_
      refine va_get (D := D) hx hb hts inlX1 hown hK hP 31 (jc_31 cI cL ad σ τ) rfl 11 (of_decide_eq_true rfl) (hts _ kw_28_7) (fun _ h9 => h9) rfl dX1_nodeOf_25 ?_
      refine lv_iload_n hx hb dX1_nodeOf_28 rfl (lv_at hl 0 rfl) ?_
      have g8 := jrg (rfl : (σ 31 11).toInt = (σ 31 11).toInt)
      have g9 := jrg (rfl : x5.toInt = x5.toInt)
      refine lv_isub hx hb dX1_nodeOf_29 ?_
      refine lv_topi (fun x10 ex10 => ?_)
      exact by
       have tx10 : x10.toInt = (σ 31 11).toInt - x5.toInt := (jsub ex10 rfl rfl (by omega) (by omega)).trans (by omega)
       refine jcallV (As := [.int a1, .int x10]) (rest := [.ref (ad 31)]) ⟨hx, hb, hml, hown, hts⟩ hK hP hA hS hZ (c_X1_trimmed_31 l D cI cL ad zz hJ σ τ a1 (A1) t1 x10 ((σ 31 11).toInt - x5.toInt) tx10) cw_RX1_71 (jc_31 cI cL ad σ τ) rfl ⟨Nat.le_of_ble_eq_true rfl, Nat.le_of_ble_eq_true rfl⟩ rfl rfl rfl hl.1 rfl (Nat.le_of_ble_eq_true rfl) dX1_nodeOf_30 ⟨Nat.zero_le _, Nat.zero_le _⟩ (fun r12 σ11 τ11 H locs h11 hP hS => ?_)
       obtain ⟨⟨rfl, rfl⟩, h11⟩ := h11
       refine lv_iload_n hx hb dX1_nodeOf_33 rfl (lv_at hl 0 rfl) ?_
       refine lv_bipush (v := 27) hx hb dX1_nodeOf_34 (of_decide_eq_true rfl) ?_
       refine lv_ishl hx hb dX1_nodeOf_36 ?_
       refine lv_topi (fun x13 ex13 => ?_)
       have gx13 := jrg (rfl : x13.toInt = x13.toInt)
       refine lv_ior hx hb dX1_nodeOf_37 ?_
       refine lv_topi (fun x14 ex14 => ?_)
       have gx14 := jrg (rfl : x14.toInt = x14.toInt)
       refine jcallV (As := [.int x14]) (rest := []) ⟨hx, hb, hml, hown, hts⟩ hK hP hA hS hZ (c_X1_slotFor_31 l D cI cL ad zz hJ σ τ x14 (x14.toInt) rfl hI31) cw_RX1_77 (jc_31 cI cL ad σ τ) rfl ⟨Nat.le_of_ble_eq_true rfl, Nat.le_of_ble_eq_true rfl⟩ rfl rfl rfl hl.1 rfl (Nat.le_of_ble_eq_true rfl) dX1_nodeOf_38 ⟨Nat.zero_le _, Nat.zero_le _⟩ (fun r16 σ15 τ15 H locs h15 hP hS => ?_)
       obtain ⟨⟨rfl, rfl⟩, h15⟩ := h15
       have h17 := h15
       obtain ⟨q19, k18⟩ := h17
       refine lv_istore (lv' := [(4, .int r16), (3, .int x5), (0, .ref (ad 31)), (1, .int a1), (2, .int a2)]) hx hb dX1_nodeOf_41 hl (of_decide_eq_true rfl) rfl (fun ls hl => ?_)
       refine lv_iload hx hb dX1_nodeOf_43 (lv_at hl 0 rfl) ?_
       refine lv_if_lt (tgt := 57) hx hb dX1_nodeOf_45 (of_decide_eq_true rfl) (fun c20 => ?_) (fun c20 => ?_)
       · have kc20 := jlt c20 rfl jz_0
         refine lv_iconst (v := (-1)) hx hb dX1_nodeOf_57 (of_decide_eq_true rfl) ?_
         refine lv_goto (tgt := 68) hx hb dX1_nodeOf_58 (of_decide_eq_true rfl) ?_
         exact hret (-1) σ τ _ _ _ _ rfl ⟨⟨rfl, rfl⟩, ⟨trivial, (by have h9 := jz_m1; omega)⟩⟩ hP hS dX1_nodeOf_68
       · have kc20 := jnlt c20 rfl jz_0
         refine lv_aload_n hx hb dX1_nodeOf_48 rfl (lv_at hl 2 rfl) ?_
         refine lv_iload hx hb dX1_nodeOf_49 (lv_at hl 0 rfl) ?_
         exact by
          refine jcallV (As := [.int r16]) (rest := []) ⟨hx, hb, hml, hown, hts⟩ hK hP hA hS hZ (c_X1_isTaken_31 l D cI cL ad zz hJ σ τ r16 (r16.toInt) rfl hI31 (by omega)) cw_RX1_81 (jc_31 cI cL ad σ τ) rfl ⟨Nat.le_of_ble_eq_true rfl, Nat.le_of_ble_eq_true rfl⟩ rfl rfl rfl hl.1 rfl (Nat.le_of_ble_eq_true rfl) dX1_nodeOf_51 ⟨Nat.zero_le _, Nat.zero_le _⟩ (fun r22 σ21 τ21 H locs h21 hP hS => ?_)
          obtain ⟨⟨rfl, rfl⟩, h21⟩ := h21
          rcases h21 with h23 | h24
          · obtain ⟨q26, k25⟩ := h23
            have q26 := q26.symm
            subst q26
            refine lv_if_ne (tgt := 61) hx hb dX1_nodeOf_54 (of_decide_eq_true rfl) (fun _ => ?_) (fun c => absurd c (of_decide_eq_true rfl))
            refine lv_aload_n hx hb dX1_nodeOf_61 rfl (lv_at hl 2 rfl) ?_
            refine va_get (D := D) hx hb hts inlX1 hown hK hP 31 (jc_31 cI cL ad σ τ) rfl 6 (of_decide_eq_true rfl) (hts _ kw_5_7) (fun _ h9 => h9) rfl dX1_nodeOf_62 ?_
            refine lv_iload hx hb dX1_nodeOf_65 (lv_at hl 0 rfl) ?_
            exact by
             refine jald hx hb hK hP (jc_36 cI cL ad σ τ) (jin rfl (by omega) (by omega)) dX1_nodeOf_67 ?_
             have g27 := w3 _ (jnat (x := r16) rfl (n := 1024) (by omega) (of_decide_eq_true rfl))
             refine lv_topi (fun x28 ex28 => ?_)
             rw [← ex28] at g27
             exact hret x28 σ τ _ _ _ _ rfl ⟨⟨rfl, rfl⟩, ⟨trivial, (by omega)⟩⟩ hP hS dX1_nodeOf_68
          · obtain ⟨q30, k29⟩ := h24
            have q30 := q30.symm
            subst q30
            refine lv_if_ne (tgt := 61) hx hb dX1_nodeOf_54 (of_decide_eq_true rfl) (fun c => absurd (of_decide_eq_true rfl) c) (fun _ => ?_)
            exact by
             refine lv_iconst (v := (-1)) hx hb dX1_nodeOf_57 (of_decide_eq_true rfl) ?_
             refine lv_goto (tgt := 68) hx hb dX1_nodeOf_58 (of_decide_eq_true rfl) ?_
             exact hret (-1) σ τ _ _ _ _ rfl ⟨⟨rfl, rfl⟩, ⟨trivial, (by have h9 := jz_m1; omega)⟩⟩ hP hS dX1_nodeOf_68
    · have kc7 := jnlt c7 rfl rfl
      refine lv_iconst (v := (-1)) hx hb dX1_nodeOf_19 (of_decide_eq_true rfl) ?_
      exact hret (-1) σ τ _ _ _ _ rfl ⟨⟨rfl, rfl⟩, ⟨trivial, (by have h9 := jz_m1; omega)⟩⟩ hP hS dX1_nodeOf_20
set_option maxHeartbeats 4000000 in
set_option maxRecDepth 100000 in
theorem c_X10_uses_22b (l : Launch) (D : va_G) (cI cL : ClassId) (ad zz : Nat → Nat) (hJ : jD ad) (σ : Nat → Nat → Int32) (τ : Nat → Nat → Int64) (a1 : Int32) (A1 : Int) (t1 : a1.toInt = A1) : jM l yX10_uses cX10_uses 2 (some .boolean) ({ frames := 0, cells := 0, slots := 0, locals := 0 }) D cI cL ad zz [.ref (ad 22), .int a1] σ τ (fun r σ' τ' => (σ = σ' ∧ τ = τ') ∧ ((r = 1 ∧ True) ∨ (r = 0 ∧ True))) := by
  refine jM.of hJ (by decide +kernel) (nt := .boolean) rfl (Nat.le_of_ble_eq_true rfl) ?_
  intro p e s m args below meth c Q ls hC hret hl hP
  obtain ⟨hx, hb, hr, hml, hown, hts, hK, -, hlocks, hZ⟩ := hC
  have hown : s.vm.findClass RX10 = some m.cls := hown
  have hS : va_S (jA ad) s.heap s.heap [] := va_S.rf
  have hA : ∀ q, jA ad q → jA ad q := fun _ h => h
  have hl : lv_has ls 2 [(0, .ref (ad 22)), (1, .int a1)] := hl
  have g1 := jrg t1
  refine lv_aload_n hx hb dX10_uses_0 rfl (lv_at hl 0 rfl) ?_
  refine va_get (D := D) hx hb hts inlX10 hown hK hP 22 (jc_22 cI cL ad σ τ) rfl 1 (of_decide_eq_true rfl) (hts _ kw_16_21) (fun _ h9 => h9) rfl dX10_uses_1 ?_
  refine lv_iload_n hx hb dX10_uses_4 rfl (lv_at hl 1 rfl) ?_
  refine lv_ishr hx hb dX10_uses_5 ?_
  refine lv_topi (fun x1 ex1 => ?_)
  have gx1 := jrg (rfl : x1.toInt = x1.toInt)
  refine lv_iconst (v := 1) hx hb dX10_uses_6 (of_decide_eq_true rfl) ?_
  refine lv_iand hx hb dX10_uses_7 ?_
  refine lv_topi (fun x2 ex2 => ?_)
  have gx2 := jrg (rfl : x2.toInt = x2.toInt)
  have g3 : 0 ≤ x2.toInt ∧ x2.toInt ≤ 1 := jmask ex2 1 (of_decide_eq_true rfl) (of_decide_eq_true rfl)
  refine lv_if_eq (tgt := 15) hx hb dX10_uses_8 (of_decide_eq_true rfl) (fun c4 => ?_) (fun c4 => ?_)
  · have kc4 := jeq c4 rfl jz_0
    refine lv_iconst (v := 0) hx hb dX10_uses_15 (of_decide_eq_true rfl) ?_
    exact hret 0 σ τ _ _ _ _ rfl ⟨⟨rfl, rfl⟩, Or.inr (⟨rfl, trivial⟩)⟩ hP hS dX10_uses_16
  · have kc4 := jne c4 rfl jz_0
    refine lv_iconst (v := 1) hx hb dX10_uses_11 (of_decide_eq_true rfl) ?_
    refine lv_goto (tgt := 16) hx hb dX10_uses_12 (of_decide_eq_true rfl) ?_
    exact hret 1 σ τ _ _ _ _ rfl ⟨⟨rfl, rfl⟩, Or.inl ⟨rfl, trivial⟩⟩ hP hS dX10_uses_16
set_option maxHeartbeats 4000000 in
set_option maxRecDepth 100000 in
theorem c_X1_grow_31 (l : Launch) (D : va_G) (cI cL : ClassId) (ad zz : Nat → Nat) (hJ : jD ad) (σ : Nat → Nat → Int32) (τ : Nat → Nat → Int64) (a1 : Int32) (A1 : Int) (t1 : a1.toInt = A1) (a2 : Int32) (A2 : Int) (t2 : a2.toInt = A2) (hI31 : jI31 σ) : jMv l yX1_grow cX1_grow 9 none ({ frames := 3, cells := 0, slots := 0, locals := 73 }) D cI cL ad zz [.ref (ad 31), .int a1, .int a2] σ τ (fun σ' τ' => τ = τ' ∧ (∀ i : Nat, (i < 31 ∨ 33 < i) ∧ (i < 36 ∨ 37 < i) → σ' i = σ i) ∧ (∀ k : Nat, (k < 8 ∨ 8 < k) ∧ (k < 9 ∨ 9 < k) ∧ (k < 10 ∨ 10 < k) ∧ (k < 11 ∨ 11 < k) ∧ (k < 12 ∨ 12 < k) → σ' 31 k = σ 31 k) ∧ (jI31 σ') ∧ True) := by
  refine jMv.of hJ (by decide +kernel) rfl (Nat.le_of_ble_eq_true rfl) ?_
  intro p e s m args below meth c Q ls hC hret hl hP
  obtain ⟨hx, hb, hr, hml, hown, hts, hK, -, hlocks, hZ⟩ := hC
  have hown : s.vm.findClass RX1 = some m.cls := hown
  have hS : va_S (jA ad) s.heap s.heap [] := va_S.rf
  have hA : ∀ q, jA ad q → jA ad q := fun _ h => h
  have hl : lv_has ls 9 [(0, .ref (ad 31)), (1, .int a1), (2, .int a2)] := hl
  have g1 := jrg t1
  have g2 := jrg t2
  obtain ⟨i1, w2, w3⟩ : (0 ≤ (σ 31 8).toInt ∧ (σ 31 8).toInt ≤ 350) ∧ (∀ k : Nat, k < 1400 → (-1) ≤ (σ 33 k).toInt ∧ (σ 33 k).toInt ≤ 350) ∧ (∀ k : Nat, k < 1024 → 0 ≤ (σ 36 k).toInt ∧ (σ 36 k).toInt ≤ 349) := id hI31
  refine lv_iconst (v := 0) hx hb dX1_grow_0 (of_decide_eq_true rfl) ?_
  refine lv_bipush (v := 8) hx hb dX1_grow_1 (of_decide_eq_true rfl) ?_
  refine lv_aload_n hx hb dX1_grow_3 rfl (lv_at hl 0 rfl) ?_
  refine va_get (D := D) hx hb hts inlX1 hown hK hP 31 (jc_31 cI cL ad σ τ) rfl 1 (of_decide_eq_true rfl) (hts _ kw_5_11) (fun _ h9 => h9) rfl dX1_grow_4 ?_
  refine va_get (D := D) hx hb hts inlX6 hown hK hP 16 (jc_16 cI cL ad σ τ) rfl 1 (of_decide_eq_true rfl) (hts _ kw_28_3) (fun _ h9 => h9) rfl dX1_grow_7 ?_
  refine lv_iload_n hx hb dX1_grow_10 rfl (lv_at hl 2 rfl) ?_
  have g4 := jrg (rfl : (σ 16 1).toInt = (σ 16 1).toInt)
  refine lv_isub hx hb dX1_grow_11 ?_
  refine lv_topi (fun x5 ex5 => ?_)
  have gx5 := jrg (rfl : x5.toInt = x5.toInt)
  refine va_mmin hx hb (hml.trans hl.1.symm) hown (hts _ kw_28_4) (hts _ kw_22_11) (hts _ kw_21_1) (hts _ kw_22_12) (Nat.le_of_ble_eq_true rfl) (Nat.le_of_ble_eq_true rfl) (Nat.le_of_ble_eq_true rfl) (Nat.le_of_ble_eq_true rfl) dX1_grow_12 ?_
  refine lv_topi (fun x6 ex6 => ?_)
  have g7 := jmin ex6 jz_8 rfl
  refine va_mmax hx hb (hml.trans hl.1.symm) hown (hts _ kw_28_5) (hts _ kw_21_0) (hts _ kw_21_1) (hts _ kw_21_2) (Nat.le_of_ble_eq_true rfl) (Nat.le_of_ble_eq_true rfl) (Nat.le_of_ble_eq_true rfl) (Nat.le_of_ble_eq_true rfl) dX1_grow_15 ?_
  refine lv_topi (fun x8 ex8 => ?_)
  have g9 := jmax ex8 jz_0 rfl
  refine lv_istore_n (lv' := [(3, .int x8), (0, .ref (ad 31)), (1, .int a1), (2, .int a2)]) hx hb dX1_grow_18 rfl hl (of_decide_eq_true rfl) rfl (fun ls hl => ?_)
  refine lv_aload_n hx hb dX1_grow_19 rfl (lv_at hl 1 rfl) ?_
  refine va_get (D := D) hx hb hts inlX1 hown hK hP 31 (jc_31 cI cL ad σ τ) rfl 0 (of_decide_eq_true rfl) (hts _ kw_5_10) (fun _ h9 => h9) rfl dX1_grow_20 ?_
  refine va_get (D := D) hx hb hts inlX5 hown hK hP 26 (jc_26 cI cL ad σ τ) rfl 0 (of_decide_eq_true rfl) (hts _ kw_28_6) (fun _ h9 => h9) rfl dX1_grow_23 ?_
  refine lv_iconst (v := 5) hx hb dX1_grow_26 (of_decide_eq_true rfl) ?_
  refine jcallV (As := [.int 5]) (rest := []) ⟨hx, hb, hml, hown, hts⟩ hK hP hA hS hZ (c_X10_uses_22b l D cI cL ad zz hJ σ τ 5 (5) jz_5) cw_RX1_104 (jc_22 cI cL ad σ τ) rfl ⟨Nat.le_of_ble_eq_true rfl, Nat.le_of_ble_eq_true rfl⟩ rfl rfl rfl hl.1 rfl (Nat.le_of_ble_eq_true rfl) dX1_grow_27 ⟨Nat.zero_le _, Nat.zero_le _⟩ (fun r11 σ10 τ10 H locs h10 hP hS => ?_)
  obtain ⟨⟨rfl, rfl⟩, h10⟩ := h10
  rcases h10 with h12 | h13
  · obtain ⟨q15, k14⟩ := h12
    have q15 := q15.symm
    subst q15
    refine lv_istore (lv' := [(4, .int 1), (3, .int x8), (0, .ref (ad 31)), (1, .int a1), (2, .int a2)]) hx hb dX1_grow_30 hl (of_decide_eq_true rfl) rfl (fun ls hl => ?_)
    refine lv_aload_n hx hb dX1_grow_32 rfl (lv_at hl 2 rfl) ?_
    refine va_get (D := D) hx hb hts inlX1 hown hK hP 31 (jc_31 cI cL ad σ τ) rfl 9 (of_decide_eq_true rfl) (hts _ kw_5_9) (fun _ h9 => h9) rfl dX1_grow_33 ?_
    refine lv_iload_n hx hb dX1_grow_36 rfl (lv_at hl 3 rfl) ?_
    refine lv_icmp_ne (tgt := 63) hx hb dX1_grow_37 (of_decide_eq_true rfl) (fun c16 => ?_) (fun c16 => ?_)
    · have kc16 := jne c16 rfl t1
      refine lv_aload_n hx hb dX1_grow_63 rfl (lv_at hl 2 rfl) ?_
      refine lv_iload_n hx hb dX1_grow_64 rfl (lv_at hl 3 rfl) ?_
      refine jput (ty := .int) hx hb hts inlX1 tyX1 tyX1_ok nmX1 hown hK hP hJ hA hS (jc_31 cI cL ad σ τ) rfl (k := 9) (of_decide_eq_true rfl) (Nat.le_of_ble_eq_true rfl) (jp_31_9 cI cL ad σ τ a1) (hts _ kw_5_9) (fun _ h9 => h9) rfl (by decide +kernel) rfl rfl dX1_grow_65 (fun σ17 H locs eσ17 hP hS => ?_)
      refine lv_aload_n hx hb dX1_grow_68 rfl (lv_at hl 2 rfl) ?_
      refine lv_iload_n hx hb dX1_grow_69 rfl (lv_at hl 4 rfl) ?_
      refine jput (ty := .int) hx hb hts inlX1 tyX1 tyX1_ok nmX1 hown hK hP hJ hA hS (jc_31 cI cL ad σ17 τ) rfl (k := 10) (of_decide_eq_true rfl) (Nat.le_of_ble_eq_true rfl) (jp_31_10 cI cL ad σ17 τ a2) (hts _ kw_28_9) (fun _ h9 => h9) rfl (by decide +kernel) rfl rfl dX1_grow_70 (fun σ18 H locs eσ18 hP hS => ?_)
      refine lv_aload_n hx hb dX1_grow_73 rfl (lv_at hl 2 rfl) ?_
      refine lv_iload_n hx hb dX1_grow_74 rfl (lv_at hl 1 rfl) ?_
      refine jput (ty := .int) hx hb hts inlX1 tyX1 tyX1_ok nmX1 hown hK hP hJ hA hS (jc_31 cI cL ad σ18 τ) rfl (k := 11) (of_decide_eq_true rfl) (Nat.le_of_ble_eq_true rfl) (jp_31_11 cI cL ad σ18 τ x8) (hts _ kw_28_7) (fun _ h9 => h9) rfl (by decide +kernel) rfl rfl dX1_grow_75 (fun σ19 H locs eσ19 hP hS => ?_)
      refine lv_aload_n hx hb dX1_grow_78 rfl (lv_at hl 2 rfl) ?_
      refine lv_iload hx hb dX1_grow_79 (lv_at hl 0 rfl) ?_
      refine jput (ty := .boolean) hx hb hts inlX1 tyX1 tyX1_ok nmX1 hown hK hP hJ hA hS (jc_31 cI cL ad σ19 τ) rfl (k := 12) (of_decide_eq_true rfl) (Nat.le_of_ble_eq_true rfl) (jp_31_12 cI cL ad σ19 τ 1) (hts _ kw_28_8) (fun _ h9 => h9) rfl (by decide +kernel) rfl rfl dX1_grow_81 (fun σ20 H locs eσ20 hP hS => ?_)
      refine lv_aload_n hx hb dX1_grow_84 rfl (lv_at hl 2 rfl) ?_
      refine lv_iconst (v := 0) hx hb dX1_grow_85 (of_decide_eq_true rfl) ?_
      refine jput (ty := .int) hx hb hts inlX1 tyX1 tyX1_ok nmX1 hown hK hP hJ hA hS (jc_31 cI cL ad σ20 τ) rfl (k := 8) (of_decide_eq_true rfl) (Nat.le_of_ble_eq_true rfl) (jp_31_8 cI cL ad σ20 τ 0) (hts _ kw_27_22) (fun _ h9 => h9) rfl (by decide +kernel) rfl rfl dX1_grow_86 (fun σ21 H locs eσ21 hP hS => ?_)
      refine lv_aload_n hx hb dX1_grow_89 rfl (lv_at hl 2 rfl) ?_
      refine lv_iload_n hx hb dX1_grow_90 rfl (lv_at hl 3 rfl) ?_
      refine lv_iconst (v := 0) hx hb dX1_grow_91 (of_decide_eq_true rfl) ?_
      have z22 : (σ21 31 8).toInt = 0 := ((congrArg Int32.toInt (show σ21 31 8 = 0 from (jsp eσ21))).trans jz_0)
      have w23 : ∀ k : Nat, k < 1400 → (-1) ≤ (σ21 33 k).toInt ∧ (σ21 33 k).toInt ≤ 350 := (jrr_fr (jnp 33 eσ21 (of_decide_eq_true rfl)) (jrr_fr (jnp 33 eσ20 (of_decide_eq_true rfl)) (jrr_fr (jnp 33 eσ19 (of_decide_eq_true rfl)) (jrr_fr (jnp 33 eσ18 (of_decide_eq_true rfl)) (jrr_fr (jnp 33 eσ17 (of_decide_eq_true rfl)) w2)))))
      have w24 : ∀ k : Nat, k < 1024 → 0 ≤ (σ21 36 k).toInt ∧ (σ21 36 k).toInt ≤ 349 := (jrr_fr (jnp 36 eσ21 (of_decide_eq_true rfl)) (jrr_fr (jnp 36 eσ20 (of_decide_eq_true rfl)) (jrr_fr (jnp 36 eσ19 (of_decide_eq_true rfl)) (jrr_fr (jnp 36 eσ18 (of_decide_eq_true rfl)) (jrr_fr (jnp 36 eσ17 (of_decide_eq_true rfl)) w3)))))
      exact by
       have I25 : jI31 σ21 := ⟨(by omega), w23, w24⟩
       refine jcallV (As := [.int a1, .int 0]) (rest := []) ⟨hx, hb, hml, hown, hts⟩ hK hP hA hS hZ (c_X1_add_31 l D cI cL ad zz hJ σ21 τ a1 (A1) t1 0 (0) jz_0 I25) cw_RX1_111 (jc_31 cI cL ad σ21 τ) rfl ⟨Nat.le_of_ble_eq_true rfl, Nat.le_of_ble_eq_true rfl⟩ rfl rfl rfl hl.1 rfl (Nat.le_of_ble_eq_true rfl) dX1_grow_92 ⟨Nat.zero_le _, Nat.zero_le _⟩ (fun r27 σ26 τ26 H locs h26 hP hS => ?_)
       obtain ⟨rfl, f28, f29, I30, h26⟩ := h26
       obtain ⟨i32, w33, w34⟩ : (0 ≤ (σ26 31 8).toInt ∧ (σ26 31 8).toInt ≤ 350) ∧ (∀ k : Nat, k < 1400 → (-1) ≤ (σ26 33 k).toInt ∧ (σ26 33 k).toInt ≤ 350) ∧ (∀ k : Nat, k < 1024 → 0 ≤ (σ26 36 k).toInt ∧ (σ26 36 k).toInt ≤ 349) := id I30
       have h35 := h26
       obtain ⟨q37, k36⟩ := h35
       refine lv_pop hx hb dX1_grow_95 rfl ?_
       refine lv_iconst (v := 0) hx hb dX1_grow_96 (of_decide_eq_true rfl) ?_
       refine lv_istore (lv' := [(5, .int 0), (4, .int 1), (3, .int x8), (0, .ref (ad 31)), (1, .int a1), (2, .int a2)]) hx hb dX1_grow_97 hl (of_decide_eq_true rfl) rfl (fun ls hl => ?_)
       have lp38 : ∀ (n39 : Nat) (x40 : Int32) (σ44 : Nat → Nat → Int32) (H : Heap) (locs : List Loc) (ls : Array Slot), (-x40.toInt + 350 : Int) < n39 → 0 ≤ x40.toInt → x40.toInt ≤ 350 → (∀ i : Nat, (i < 31 ∨ 33 < i) ∧ (i < 36 ∨ 37 < i) → σ44 i = σ26 i) → (∀ k : Nat, (k < 8 ∨ 8 < k) → σ44 31 k = σ26 31 k) → jI31 σ44 → jH D cI cL ad σ44 τ H → va_S (jA ad) s.heap H locs → lv_has ls 9 [(5, .int x40), (4, .int 1), (3, .int x8), (0, .ref (ad 31)), (1, .int a1), (2, .int a2)] → W p l e ({ frames := 3, cells := 0, slots := 0, locals := 73 }) s m args below meth c H locs 0 0 Q (F0 m 99 ls []) := by
         intro n39
         induction n39 with
         | zero => intro x40 σ44 H locs ls h46 h47 h48; exact absurd h46 (by omega)
         | succ n39 ihlp38 =>
           intro x40 σ44 H locs ls h46 h47 h48 f49 f50 p51 hP hS hl
           exact by
            obtain ⟨i52, w53, w54⟩ : (0 ≤ (σ44 31 8).toInt ∧ (σ44 31 8).toInt ≤ 350) ∧ (∀ k : Nat, k < 1400 → (-1) ≤ (σ44 33 k).toInt ∧ (σ44 33 k).toInt ≤ 350) ∧ (∀ k : Nat, k < 1024 → 0 ≤ (σ44 36 k).toInt ∧ (σ44 36 k).toInt ≤ 349) := id p51
            refine lv_iload hx hb dX1_grow_99 (lv_at hl 0 rfl) ?_
            refine lv_aload_n hx hb dX1_grow_101 rfl (lv_at hl 3 rfl) ?_
            refine va_get (D := D) hx hb hts inlX1 hown hK hP 31 (jc_31 cI cL ad σ44 τ) rfl 8 (of_decide_eq_true rfl) (hts _ kw_27_22) (fun _ h9 => h9) rfl dX1_grow_102 ?_
            refine lv_icmp_ge (tgt := 202) hx hb dX1_grow_105 (of_decide_eq_true rfl) (fun c55 => ?_) (fun c55 => ?_)
            · have kc55 := jle c55 rfl rfl
              exact hret σ44 τ _ _ _ _ ⟨rfl, (fun i hi => ((f49 i hi).trans ((f28 i (imp_86 i hi)).trans ((jnp i eσ21 (imp_87 i hi)).trans ((jnp i eσ20 (imp_87 i hi)).trans ((jnp i eσ19 (imp_87 i hi)).trans ((jnp i eσ18 (imp_87 i hi)).trans (jnp i eσ17 (imp_87 i hi))))))))), (fun i hi => ((f50 i (imp_88 i hi)).trans ((f29 i (imp_88 i hi)).trans ((jkp i eσ21 (imp_89 i hi)).trans ((jkp i eσ20 (imp_90 i hi)).trans ((jkp i eσ19 (imp_91 i hi)).trans ((jkp i eσ18 (imp_92 i hi)).trans (jkp i eσ17 (imp_93 i hi))))))))), p51, trivial⟩ hP hS dX1_grow_202
            · have kc55 := jnle c55 rfl rfl
              refine lv_iload hx hb dX1_grow_108 (lv_at hl 0 rfl) ?_
              refine lv_sipush (v := 350) hx hb dX1_grow_110 (of_decide_eq_true rfl) ?_
              exact by
               refine lv_icmp_ge (tgt := 202) hx hb dX1_grow_113 (of_decide_eq_true rfl) (fun c => absurd (jle c jz_350 rfl) (by omega)) (fun c56 => ?_)
               have kc56 := jnle c56 jz_350 rfl
               refine lv_aload_n hx hb dX1_grow_116 rfl (lv_at hl 3 rfl) ?_
               refine va_get (D := D) hx hb hts inlX1 hown hK hP 31 (jc_31 cI cL ad σ44 τ) rfl 2 (of_decide_eq_true rfl) (hts _ kw_5_3) (fun _ h9 => h9) rfl dX1_grow_117 ?_
               refine lv_iload hx hb dX1_grow_120 (lv_at hl 0 rfl) ?_
               refine jald hx hb hK hP (jc_32 cI cL ad σ44 τ) (jin rfl (by omega) (by omega)) dX1_grow_122 ?_
               refine lv_topi (fun x57 ex57 => ?_)
               refine lv_ldc (v := 134217727) hx hb hown (hts _ kw_28_10) dX1_grow_123 ?_
               refine lv_iand hx hb dX1_grow_125 ?_
               exact by
                refine lv_topi (fun x58 ex58 => ?_)
                have gx58 := jrg (rfl : x58.toInt = x58.toInt)
                have g59 : 0 ≤ x58.toInt ∧ x58.toInt ≤ 134217727 := jmask ex58 27 (of_decide_eq_true rfl) (of_decide_eq_true rfl)
                refine lv_istore (lv' := [(6, .int x58), (5, .int x40), (4, .int 1), (3, .int x8), (0, .ref (ad 31)), (1, .int a1), (2, .int a2)]) hx hb dX1_grow_126 hl (of_decide_eq_true rfl) rfl (fun ls hl => ?_)
                refine lv_aload_n hx hb dX1_grow_128 rfl (lv_at hl 4 rfl) ?_
                refine va_get (D := D) hx hb hts inlX1 hown hK hP 31 (jc_31 cI cL ad σ44 τ) rfl 2 (of_decide_eq_true rfl) (hts _ kw_5_3) (fun _ h9 => h9) rfl dX1_grow_129 ?_
                refine lv_iload hx hb dX1_grow_132 (lv_at hl 1 rfl) ?_
                refine jald hx hb hK hP (jc_32 cI cL ad σ44 τ) (jin rfl (by omega) (by omega)) dX1_grow_134 ?_
                refine lv_topi (fun x60 ex60 => ?_)
                exact by
                 refine lv_bipush (v := 27) hx hb dX1_grow_135 (of_decide_eq_true rfl) ?_
                 refine lv_ishr hx hb dX1_grow_137 ?_
                 refine lv_topi (fun x61 ex61 => ?_)
                 have gx61 := jrg (rfl : x61.toInt = x61.toInt)
                 refine lv_istore (lv' := [(7, .int x61), (6, .int x58), (5, .int x40), (4, .int 1), (3, .int x8), (0, .ref (ad 31)), (1, .int a1), (2, .int a2)]) hx hb dX1_grow_138 hl (of_decide_eq_true rfl) rfl (fun ls hl => ?_)
                 refine lv_iconst (v := 0) hx hb dX1_grow_140 (of_decide_eq_true rfl) ?_
                 refine lv_istore (lv' := [(8, .int 0), (7, .int x61), (6, .int x58), (5, .int x40), (4, .int 1), (3, .int x8), (0, .ref (ad 31)), (1, .int a1), (2, .int a2)]) hx hb dX1_grow_141 hl (of_decide_eq_true rfl) rfl (fun ls hl => ?_)
                 have lp62 : ∀ (n63 : Nat) (x64 : Int32) (σ65 : Nat → Nat → Int32) (H : Heap) (locs : List Loc) (ls : Array Slot), (-x64.toInt + 4 : Int) < n63 → 0 ≤ x64.toInt → x64.toInt ≤ 4 → (∀ i : Nat, (i < 31 ∨ 33 < i) ∧ (i < 36 ∨ 37 < i) → σ65 i = σ44 i) → (∀ k : Nat, (k < 8 ∨ 8 < k) → σ65 31 k = σ44 31 k) → jI31 σ65 → jH D cI cL ad σ65 τ H → va_S (jA ad) s.heap H locs → lv_has ls 9 [(8, .int x64), (7, .int x61), (6, .int x58), (5, .int x40), (4, .int 1), (3, .int x8), (0, .ref (ad 31)), (1, .int a1), (2, .int a2)] → W p l e ({ frames := 3, cells := 0, slots := 0, locals := 73 }) s m args below meth c H locs 0 0 Q (F0 m 143 ls []) := by
                   intro n63
                   induction n63 with
                   | zero => intro x64 σ65 H locs ls h67 h68 h69; exact absurd h67 (by omega)
                   | succ n63 ihlp62 =>
                     intro x64 σ65 H locs ls h67 h68 h69 f70 f71 p72 hP hS hl
                     exact by
                      obtain ⟨i73, w74, w75⟩ : (0 ≤ (σ65 31 8).toInt ∧ (σ65 31 8).toInt ≤ 350) ∧ (∀ k : Nat, k < 1400 → (-1) ≤ (σ65 33 k).toInt ∧ (σ65 33 k).toInt ≤ 350) ∧ (∀ k : Nat, k < 1024 → 0 ≤ (σ65 36 k).toInt ∧ (σ65 36 k).toInt ≤ 349) := id p72
                      refine lv_iload hx hb dX1_grow_143 (lv_at hl 0 rfl) ?_
                      refine lv_iconst (v := 4) hx hb dX1_grow_145 (of_decide_eq_true rfl) ?_
                      refine lv_icmp_ge (tgt := 196) hx hb dX1_grow_146 (of_decide_eq_true rfl) (fun c76 => ?_) (fun c76 => ?_)
                      · have kc76 := jle c76 jz_4 rfl
                        obtain ⟨x77, ex77⟩ : ∃ y : Int32, y = x40 + 1 := ⟨_, rfl⟩
                        have tx77 : x77.toInt = x40.toInt + 1 := (jadd ex77 rfl jz_1 (by omega) (by omega)).trans (by omega)
                        refine lv_iinc (v := x77) (lv' := [(5, .int x77), (8, .int x64), (7, .int x61), (6, .int x58), (4, .int 1), (3, .int x8), (0, .ref (ad 31)), (1, .int a1), (2, .int a2)]) hx hb dX1_grow_196 hl (k := 3) rfl (by rw [ex77]; rfl) (of_decide_eq_true rfl) rfl (fun ls hl => ?_)
                        refine lv_goto (tgt := 99) hx hb dX1_grow_199 (of_decide_eq_true rfl) ?_
                        exact by exact ihlp38 x77 σ65 _ _ ls (by have h90 := tx77; omega) (by have h90 := tx77; omega) (by have h90 := tx77; omega) (fun i hi => ((f70 i hi).trans (f49 i hi))) (fun i hi => ((f71 i hi).trans (f50 i hi)))  p72 hP hS (lv_sub hl [0, 4, 5, 6, 7, 8] rfl)
                      · exact by
                         have kc76 := jnle c76 jz_4 rfl
                         refine lv_aload_n hx hb dX1_grow_149 rfl (lv_at hl 6 rfl) ?_
                         refine va_get (D := D) hx hb hts inlX1 hown hK hP 31 (jc_31 cI cL ad σ65 τ) rfl 3 (of_decide_eq_true rfl) (hts _ kw_5_4) (fun _ h9 => h9) rfl dX1_grow_150 ?_
                         refine lv_iload hx hb dX1_grow_153 (lv_at hl 3 rfl) ?_
                         refine lv_iconst (v := 4) hx hb dX1_grow_155 (of_decide_eq_true rfl) ?_
                         have g78 := jrg (rfl : x40.toInt = x40.toInt)
                         refine lv_imul hx hb dX1_grow_156 ?_
                         refine lv_topi (fun x79 ex79 => ?_)
                         have tx79 : x79.toInt = 4 * x40.toInt := (jmul ex79 rfl jz_4 (by omega) (by omega)).trans (by omega)
                         exact by
                          refine lv_iload hx hb dX1_grow_157 (lv_at hl 0 rfl) ?_
                          have g80 := jrg (rfl : x64.toInt = x64.toInt)
                          refine lv_iadd hx hb dX1_grow_159 ?_
                          refine lv_topi (fun x81 ex81 => ?_)
                          have tx81 : x81.toInt = 4 * x40.toInt + x64.toInt := (jadd ex81 tx79 rfl (by omega) (by omega)).trans (by omega)
                          refine lv_iload hx hb dX1_grow_160 (lv_at hl 2 rfl) ?_
                          refine lv_iload hx hb dX1_grow_162 (lv_at hl 0 rfl) ?_
                          refine jcallS (As := [.int x58, .int x64]) (rest := [.int x81, .ref (ad 33)]) ⟨hx, hb, hml, hown, hts⟩ hK hP hA hS hZ (c_X0_mayBowl l D cI cL ad zz hJ σ65 τ x58 (x58.toInt) rfl x64 (x64.toInt) rfl) cw_RX1_115 ⟨Nat.le_of_ble_eq_true rfl, Nat.le_of_ble_eq_true rfl⟩ rfl rfl rfl hl.1 rfl (Nat.le_of_ble_eq_true rfl) dX1_grow_164 ⟨Nat.zero_le _, Nat.zero_le _⟩ (fun r83 σ82 τ82 H locs h82 hP hS => ?_)
                          obtain ⟨⟨rfl, rfl⟩, w84, h82⟩ := h82
                          exact by
                           refine lv_if_eq (tgt := 188) hx hb dX1_grow_167 (of_decide_eq_true rfl) (fun c85 => ?_) (fun c85 => ?_)
                           · have kc85 := jeq c85 rfl jz_0
                             refine lv_iconst (v := (-1)) hx hb dX1_grow_188 (of_decide_eq_true rfl) ?_
                             refine jast hx hb hK hP hJ hA hS (jc_33 cI cL ad σ65 τ) (ja_33 cI cL ad σ65 τ _ _) (jin tx81 (by omega) (by omega)) dX1_grow_189 (fun σ86 H locs eσ86 hP hS => ?_)
                             obtain ⟨x87, ex87⟩ : ∃ y : Int32, y = x64 + 1 := ⟨_, rfl⟩
                             have tx87 : x87.toInt = x64.toInt + 1 := (jadd ex87 rfl jz_1 (by omega) (by omega)).trans (by omega)
                             refine lv_iinc (v := x87) (lv' := [(8, .int x87), (7, .int x61), (6, .int x58), (5, .int x40), (4, .int 1), (3, .int x8), (0, .ref (ad 31)), (1, .int a1), (2, .int a2)]) hx hb dX1_grow_190 hl (k := 0) rfl (by rw [ex87]; rfl) (of_decide_eq_true rfl) rfl (fun ls hl => ?_)
                             refine lv_goto (tgt := 143) hx hb dX1_grow_193 (of_decide_eq_true rfl) ?_
                             have z88 : (σ86 31 8).toInt = (σ65 31 8).toInt := (congrArg Int32.toInt (show σ86 31 8 = (σ65 31 8) from (congrFun (jnp 31 eσ86 (of_decide_eq_true rfl)) 8)))
                             exact by
                              have w89 : ∀ k : Nat, k < 1400 → (-1) ≤ (σ86 33 k).toInt ∧ (σ86 33 k).toInt ≤ 350 := (by rw [eσ86]; exact jrr_up w74 (by have h9 := jz_m1; omega) (by have h9 := jz_m1; omega))
                              have w90 : ∀ k : Nat, k < 1024 → 0 ≤ (σ86 36 k).toInt ∧ (σ86 36 k).toInt ≤ 349 := (jrr_fr (jnp 36 eσ86 (of_decide_eq_true rfl)) w75)
                              have I91 : jI31 σ86 := ⟨(by omega), w89, w90⟩
                              exact by exact ihlp62 x87 σ86 _ _ ls (by have h90 := tx87; omega) (by have h90 := tx87; omega) (by have h90 := tx87; omega) (fun i hi => ((jnp i eσ86 (imp_94 i hi)).trans (f70 i hi))) (fun i hi => ((congrFun (jnp 31 eσ86 (of_decide_eq_true rfl)) i).trans (f71 i hi)))  I91 hP hS (lv_sub hl [0, 1, 2, 3, 4, 5, 6, 7, 8] rfl)
                           · have kc85 := jne c85 rfl jz_0
                             refine lv_aload_n hx hb dX1_grow_170 rfl (lv_at hl 6 rfl) ?_
                             refine lv_iload hx hb dX1_grow_171 (lv_at hl 2 rfl) ?_
                             refine lv_iload hx hb dX1_grow_173 (lv_at hl 0 rfl) ?_
                             refine jcallS (As := [.int x58, .int x64]) (rest := [.ref (ad 31), .int x81, .ref (ad 33)]) ⟨hx, hb, hml, hown, hts⟩ hK hP hA hS hZ (c_X0_after l D cI cL ad zz hJ σ65 τ x58 (x58.toInt) rfl x64 (x64.toInt) rfl) cw_RX1_119 ⟨Nat.le_of_ble_eq_true rfl, Nat.le_of_ble_eq_true rfl⟩ rfl rfl rfl hl.1 rfl (Nat.le_of_ble_eq_true rfl) dX1_grow_175 ⟨Nat.zero_le _, Nat.zero_le _⟩ (fun r93 σ92 τ92 H locs h92 hP hS => ?_)
                             exact by
                              obtain ⟨⟨rfl, rfl⟩, w94, h92⟩ := h92
                              refine lv_iload hx hb dX1_grow_178 (lv_at hl 1 rfl) ?_
                              refine lv_iconst (v := 1) hx hb dX1_grow_180 (of_decide_eq_true rfl) ?_
                              have g95 := jrg (rfl : x61.toInt = x61.toInt)
                              refine lv_iadd hx hb dX1_grow_181 ?_
                              refine lv_topi (fun x96 ex96 => ?_)
                              have gx96 := jrg (rfl : x96.toInt = x96.toInt)
                              refine jcallV (As := [.int r93, .int x96]) (rest := [.int x81, .ref (ad 33)]) ⟨hx, hb, hml, hown, hts⟩ hK hP hA hS hZ (c_X1_add_31 l D cI cL ad zz hJ σ65 τ r93 (r93.toInt) rfl x96 (x96.toInt) rfl p72) cw_RX1_111 (jc_31 cI cL ad σ65 τ) rfl ⟨Nat.le_of_ble_eq_true rfl, Nat.le_of_ble_eq_true rfl⟩ rfl rfl rfl hl.1 rfl (Nat.le_of_ble_eq_true rfl) dX1_grow_182 ⟨Nat.zero_le _, Nat.zero_le _⟩ (fun r98 σ97 τ97 H locs h97 hP hS => ?_)
                              obtain ⟨rfl, f99, f100, I101, h97⟩ := h97
                              obtain ⟨i103, w104, w105⟩ : (0 ≤ (σ97 31 8).toInt ∧ (σ97 31 8).toInt ≤ 350) ∧ (∀ k : Nat, k < 1400 → (-1) ≤ (σ97 33 k).toInt ∧ (σ97 33 k).toInt ≤ 350) ∧ (∀ k : Nat, k < 1024 → 0 ≤ (σ97 36 k).toInt ∧ (σ97 36 k).toInt ≤ 349) := id I101
                              have h106 := h97
                              obtain ⟨q108, k107⟩ := h106
                              refine lv_goto (tgt := 189) hx hb dX1_grow_185 (of_decide_eq_true rfl) ?_
                              exact by
                               refine jast hx hb hK hP hJ hA hS (jc_33 cI cL ad σ97 τ) (ja_33 cI cL ad σ97 τ _ _) (jin tx81 (by omega) (by omega)) dX1_grow_189 (fun σ109 H locs eσ109 hP hS => ?_)
                               obtain ⟨x110, ex110⟩ : ∃ y : Int32, y = x64 + 1 := ⟨_, rfl⟩
                               have tx110 : x110.toInt = x64.toInt + 1 := (jadd ex110 rfl jz_1 (by omega) (by omega)).trans (by omega)
                               refine lv_iinc (v := x110) (lv' := [(8, .int x110), (7, .int x61), (6, .int x58), (5, .int x40), (4, .int 1), (3, .int x8), (0, .ref (ad 31)), (1, .int a1), (2, .int a2)]) hx hb dX1_grow_190 hl (k := 0) rfl (by rw [ex110]; rfl) (of_decide_eq_true rfl) rfl (fun ls hl => ?_)
                               refine lv_goto (tgt := 143) hx hb dX1_grow_193 (of_decide_eq_true rfl) ?_
                               have z111 : (σ109 31 8).toInt = (σ97 31 8).toInt := (congrArg Int32.toInt (show σ109 31 8 = (σ97 31 8) from (congrFun (jnp 31 eσ109 (of_decide_eq_true rfl)) 8)))
                               have w112 : ∀ k : Nat, k < 1400 → (-1) ≤ (σ109 33 k).toInt ∧ (σ109 33 k).toInt ≤ 350 := (by rw [eσ109]; exact jrr_up w104 (by omega) (by omega))
                               have w113 : ∀ k : Nat, k < 1024 → 0 ≤ (σ109 36 k).toInt ∧ (σ109 36 k).toInt ≤ 349 := (jrr_fr (jnp 36 eσ109 (of_decide_eq_true rfl)) w105)
                               have I114 : jI31 σ109 := ⟨(by omega), w112, w113⟩
                               exact by exact ihlp62 x110 σ109 _ _ ls (by have h90 := tx110; omega) (by have h90 := tx110; omega) (by have h90 := tx110; omega) (fun i hi => ((jnp i eσ109 (imp_94 i hi)).trans ((f99 i (imp_86 i hi)).trans (f70 i hi)))) (fun i hi => ((congrFun (jnp 31 eσ109 (of_decide_eq_true rfl)) i).trans ((f100 i hi).trans (f71 i hi))))  I114 hP hS (lv_sub hl [0, 1, 2, 3, 4, 5, 6, 7, 8] rfl)
                 exact by exact lp62 1000000 0 σ44 _ _ ls (by have h90 := jz_0; omega) (by have h90 := jz_0; omega) (by have h90 := jz_0; omega) (fun _ _ => rfl) (fun _ _ => rfl)  p51 hP hS hl
       exact by exact lp38 1000000 0 σ26 _ _ ls (by have h90 := jz_0; omega) (by have h90 := jz_0; omega) (by have h90 := jz_0; omega) (fun _ _ => rfl) (fun _ _ => rfl)  I30 hP hS hl
    · exact by
       have kc16 := jeq c16 rfl t1
       refine lv_aload_n hx hb dX1_grow_40 rfl (lv_at hl 2 rfl) ?_
       refine va_get (D := D) hx hb hts inlX1 hown hK hP 31 (jc_31 cI cL ad σ τ) rfl 11 (of_decide_eq_true rfl) (hts _ kw_28_7) (fun _ h9 => h9) rfl dX1_grow_41 ?_
       refine lv_iload_n hx hb dX1_grow_44 rfl (lv_at hl 1 rfl) ?_
       refine lv_icmp_ne (tgt := 63) hx hb dX1_grow_45 (of_decide_eq_true rfl) (fun c115 => ?_) (fun c115 => ?_)
       · have kc115 := jne c115 rfl rfl
         refine lv_aload_n hx hb dX1_grow_63 rfl (lv_at hl 2 rfl) ?_
         refine lv_iload_n hx hb dX1_grow_64 rfl (lv_at hl 3 rfl) ?_
         refine jput (ty := .int) hx hb hts inlX1 tyX1 tyX1_ok nmX1 hown hK hP hJ hA hS (jc_31 cI cL ad σ τ) rfl (k := 9) (of_decide_eq_true rfl) (Nat.le_of_ble_eq_true rfl) (jp_31_9 cI cL ad σ τ a1) (hts _ kw_5_9) (fun _ h9 => h9) rfl (by decide +kernel) rfl rfl dX1_grow_65 (fun σ116 H locs eσ116 hP hS => ?_)
         refine lv_aload_n hx hb dX1_grow_68 rfl (lv_at hl 2 rfl) ?_
         refine lv_iload_n hx hb dX1_grow_69 rfl (lv_at hl 4 rfl) ?_
         refine jput (ty := .int) hx hb hts inlX1 tyX1 tyX1_ok nmX1 hown hK hP hJ hA hS (jc_31 cI cL ad σ116 τ) rfl (k := 10) (of_decide_eq_true rfl) (Nat.le_of_ble_eq_true rfl) (jp_31_10 cI cL ad σ116 τ a2) (hts _ kw_28_9) (fun _ h9 => h9) rfl (by decide +kernel) rfl rfl dX1_grow_70 (fun σ117 H locs eσ117 hP hS => ?_)
         refine lv_aload_n hx hb dX1_grow_73 rfl (lv_at hl 2 rfl) ?_
         refine lv_iload_n hx hb dX1_grow_74 rfl (lv_at hl 1 rfl) ?_
         refine jput (ty := .int) hx hb hts inlX1 tyX1 tyX1_ok nmX1 hown hK hP hJ hA hS (jc_31 cI cL ad σ117 τ) rfl (k := 11) (of_decide_eq_true rfl) (Nat.le_of_ble_eq_true rfl) (jp_31_11 cI cL ad σ117 τ x8) (hts _ kw_28_7) (fun _ h9 => h9) rfl (by decide +kernel) rfl rfl dX1_grow_75 (fun σ118 H locs eσ118 hP hS => ?_)
         refine lv_aload_n hx hb dX1_grow_78 rfl (lv_at hl 2 rfl) ?_
         refine lv_iload hx hb dX1_grow_79 (lv_at hl 0 rfl) ?_
         refine jput (ty := .boolean) hx hb hts inlX1 tyX1 tyX1_ok nmX1 hown hK hP hJ hA hS (jc_31 cI cL ad σ118 τ) rfl (k := 12) (of_decide_eq_true rfl) (Nat.le_of_ble_eq_true rfl) (jp_31_12 cI cL ad σ118 τ 1) (hts _ kw_28_8) (fun _ h9 => h9) rfl (by decide +kernel) rfl rfl dX1_grow_81 (fun σ119 H locs eσ119 hP hS => ?_)
         refine lv_aload_n hx hb dX1_grow_84 rfl (lv_at hl 2 rfl) ?_
         refine lv_iconst (v := 0) hx hb dX1_grow_85 (of_decide_eq_true rfl) ?_
         refine jput (ty := .int) hx hb hts inlX1 tyX1 tyX1_ok nmX1 hown hK hP hJ hA hS (jc_31 cI cL ad σ119 τ) rfl (k := 8) (of_decide_eq_true rfl) (Nat.le_of_ble_eq_true rfl) (jp_31_8 cI cL ad σ119 τ 0) (hts _ kw_27_22) (fun _ h9 => h9) rfl (by decide +kernel) rfl rfl dX1_grow_86 (fun σ120 H locs eσ120 hP hS => ?_)
         refine lv_aload_n hx hb dX1_grow_89 rfl (lv_at hl 2 rfl) ?_
         refine lv_iload_n hx hb dX1_grow_90 rfl (lv_at hl 3 rfl) ?_
         refine lv_iconst (v := 0) hx hb dX1_grow_91 (of_decide_eq_true rfl) ?_
         have z121 : (σ120 31 8).toInt = 0 := ((congrArg Int32.toInt (show σ120 31 8 = 0 from (jsp eσ120))).trans jz_0)
         have w122 : ∀ k : Nat, k < 1400 → (-1) ≤ (σ120 33 k).toInt ∧ (σ120 33 k).toInt ≤ 350 := (jrr_fr (jnp 33 eσ120 (of_decide_eq_true rfl)) (jrr_fr (jnp 33 eσ119 (of_decide_eq_true rfl)) (jrr_fr (jnp 33 eσ118 (of_decide_eq_true rfl)) (jrr_fr (jnp 33 eσ117 (of_decide_eq_true rfl)) (jrr_fr (jnp 33 eσ116 (of_decide_eq_true rfl)) w2)))))
         have w123 : ∀ k : Nat, k < 1024 → 0 ≤ (σ120 36 k).toInt ∧ (σ120 36 k).toInt ≤ 349 := (jrr_fr (jnp 36 eσ120 (of_decide_eq_true rfl)) (jrr_fr (jnp 36 eσ119 (of_decide_eq_true rfl)) (jrr_fr (jnp 36 eσ118 (of_decide_eq_true rfl)) (jrr_fr (jnp 36 eσ117 (of_decide_eq_true rfl)) (jrr_fr (jnp 36 eσ116 (of_decide_eq_true rfl)) w3)))))
         exact by
          have I124 : jI31 σ120 := ⟨(by omega), w122, w123⟩
          refine jcallV (As := [.int a1, .int 0]) (rest := []) ⟨hx, hb, hml, hown, hts⟩ hK hP hA hS hZ (c_X1_add_31 l D cI cL ad zz hJ σ120 τ a1 (A1) t1 0 (0) jz_0 I124) cw_RX1_111 (jc_31 cI cL ad σ120 τ) rfl ⟨Nat.le_of_ble_eq_true rfl, Nat.le_of_ble_eq_true rfl⟩ rfl rfl rfl hl.1 rfl (Nat.le_of_ble_eq_true rfl) dX1_grow_92 ⟨Nat.zero_le _, Nat.zero_le _⟩ (fun r126 σ125 τ125 H locs h125 hP hS => ?_)
          obtain ⟨rfl, f127, f128, I129, h125⟩ := h125
          obtain ⟨i131, w132, w133⟩ : (0 ≤ (σ125 31 8).toInt ∧ (σ125 31 8).toInt ≤ 350) ∧ (∀ k : Nat, k < 1400 → (-1) ≤ (σ125 33 k).toInt ∧ (σ125 33 k).toInt ≤ 350) ∧ (∀ k : Nat, k < 1024 → 0 ≤ (σ125 36 k).toInt ∧ (σ125 36 k).toInt ≤ 349) := id I129
          have h134 := h125
          obtain ⟨q136, k135⟩ := h134
          refine lv_pop hx hb dX1_grow_95 rfl ?_
          refine lv_iconst (v := 0) hx hb dX1_grow_96 (of_decide_eq_true rfl) ?_
          refine lv_istore (lv' := [(5, .int 0), (4, .int 1), (3, .int x8), (0, .ref (ad 31)), (1, .int a1), (2, .int a2)]) hx hb dX1_grow_97 hl (of_decide_eq_true rfl) rfl (fun ls hl => ?_)
          have lp137 : ∀ (n138 : Nat) (x139 : Int32) (σ143 : Nat → Nat → Int32) (H : Heap) (locs : List Loc) (ls : Array Slot), (-x139.toInt + 350 : Int) < n138 → 0 ≤ x139.toInt → x139.toInt ≤ 350 → (∀ i : Nat, (i < 31 ∨ 33 < i) ∧ (i < 36 ∨ 37 < i) → σ143 i = σ125 i) → (∀ k : Nat, (k < 8 ∨ 8 < k) → σ143 31 k = σ125 31 k) → jI31 σ143 → jH D cI cL ad σ143 τ H → va_S (jA ad) s.heap H locs → lv_has ls 9 [(5, .int x139), (4, .int 1), (3, .int x8), (0, .ref (ad 31)), (1, .int a1), (2, .int a2)] → W p l e ({ frames := 3, cells := 0, slots := 0, locals := 73 }) s m args below meth c H locs 0 0 Q (F0 m 99 ls []) := by
            intro n138
            induction n138 with
            | zero => intro x139 σ143 H locs ls h145 h146 h147; exact absurd h145 (by omega)
            | succ n138 ihlp137 =>
              intro x139 σ143 H locs ls h145 h146 h147 f148 f149 p150 hP hS hl
              exact by
               obtain ⟨i151, w152, w153⟩ : (0 ≤ (σ143 31 8).toInt ∧ (σ143 31 8).toInt ≤ 350) ∧ (∀ k : Nat, k < 1400 → (-1) ≤ (σ143 33 k).toInt ∧ (σ143 33 k).toInt ≤ 350) ∧ (∀ k : Nat, k < 1024 → 0 ≤ (σ143 36 k).toInt ∧ (σ143 36 k).toInt ≤ 349) := id p150
               refine lv_iload hx hb dX1_grow_99 (lv_at hl 0 rfl) ?_
               refine lv_aload_n hx hb dX1_grow_101 rfl (lv_at hl 3 rfl) ?_
               refine va_get (D := D) hx hb hts inlX1 hown hK hP 31 (jc_31 cI cL ad σ143 τ) rfl 8 (of_decide_eq_true rfl) (hts _ kw_27_22) (fun _ h9 => h9) rfl dX1_grow_102 ?_
               refine lv_icmp_ge (tgt := 202) hx hb dX1_grow_105 (of_decide_eq_true rfl) (fun c154 => ?_) (fun c154 => ?_)
               · have kc154 := jle c154 rfl rfl
                 exact hret σ143 τ _ _ _ _ ⟨rfl, (fun i hi => ((f148 i hi).trans ((f127 i (imp_86 i hi)).trans ((jnp i eσ120 (imp_87 i hi)).trans ((jnp i eσ119 (imp_87 i hi)).trans ((jnp i eσ118 (imp_87 i hi)).trans ((jnp i eσ117 (imp_87 i hi)).trans (jnp i eσ116 (imp_87 i hi))))))))), (fun i hi => ((f149 i (imp_88 i hi)).trans ((f128 i (imp_88 i hi)).trans ((jkp i eσ120 (imp_89 i hi)).trans ((jkp i eσ119 (imp_90 i hi)).trans ((jkp i eσ118 (imp_91 i hi)).trans ((jkp i eσ117 (imp_92 i hi)).trans (jkp i eσ116 (imp_93 i hi))))))))), p150, trivial⟩ hP hS dX1_grow_202
               · have kc154 := jnle c154 rfl rfl
                 refine lv_iload hx hb dX1_grow_108 (lv_at hl 0 rfl) ?_
                 refine lv_sipush (v := 350) hx hb dX1_grow_110 (of_decide_eq_true rfl) ?_
                 exact by
                  refine lv_icmp_ge (tgt := 202) hx hb dX1_grow_113 (of_decide_eq_true rfl) (fun c => absurd (jle c jz_350 rfl) (by omega)) (fun c155 => ?_)
                  have kc155 := jnle c155 jz_350 rfl
                  refine lv_aload_n hx hb dX1_grow_116 rfl (lv_at hl 3 rfl) ?_
                  refine va_get (D := D) hx hb hts inlX1 hown hK hP 31 (jc_31 cI cL ad σ143 τ) rfl 2 (of_decide_eq_true rfl) (hts _ kw_5_3) (fun _ h9 => h9) rfl dX1_grow_117 ?_
                  refine lv_iload hx hb dX1_grow_120 (lv_at hl 0 rfl) ?_
                  refine jald hx hb hK hP (jc_32 cI cL ad σ143 τ) (jin rfl (by omega) (by omega)) dX1_grow_122 ?_
                  refine lv_topi (fun x156 ex156 => ?_)
                  refine lv_ldc (v := 134217727) hx hb hown (hts _ kw_28_10) dX1_grow_123 ?_
                  refine lv_iand hx hb dX1_grow_125 ?_
                  exact by
                   refine lv_topi (fun x157 ex157 => ?_)
                   have gx157 := jrg (rfl : x157.toInt = x157.toInt)
                   have g158 : 0 ≤ x157.toInt ∧ x157.toInt ≤ 134217727 := jmask ex157 27 (of_decide_eq_true rfl) (of_decide_eq_true rfl)
                   refine lv_istore (lv' := [(6, .int x157), (5, .int x139), (4, .int 1), (3, .int x8), (0, .ref (ad 31)), (1, .int a1), (2, .int a2)]) hx hb dX1_grow_126 hl (of_decide_eq_true rfl) rfl (fun ls hl => ?_)
                   refine lv_aload_n hx hb dX1_grow_128 rfl (lv_at hl 4 rfl) ?_
                   refine va_get (D := D) hx hb hts inlX1 hown hK hP 31 (jc_31 cI cL ad σ143 τ) rfl 2 (of_decide_eq_true rfl) (hts _ kw_5_3) (fun _ h9 => h9) rfl dX1_grow_129 ?_
                   refine lv_iload hx hb dX1_grow_132 (lv_at hl 1 rfl) ?_
                   refine jald hx hb hK hP (jc_32 cI cL ad σ143 τ) (jin rfl (by omega) (by omega)) dX1_grow_134 ?_
                   refine lv_topi (fun x159 ex159 => ?_)
                   exact by
                    refine lv_bipush (v := 27) hx hb dX1_grow_135 (of_decide_eq_true rfl) ?_
                    refine lv_ishr hx hb dX1_grow_137 ?_
                    refine lv_topi (fun x160 ex160 => ?_)
                    have gx160 := jrg (rfl : x160.toInt = x160.toInt)
                    refine lv_istore (lv' := [(7, .int x160), (6, .int x157), (5, .int x139), (4, .int 1), (3, .int x8), (0, .ref (ad 31)), (1, .int a1), (2, .int a2)]) hx hb dX1_grow_138 hl (of_decide_eq_true rfl) rfl (fun ls hl => ?_)
                    refine lv_iconst (v := 0) hx hb dX1_grow_140 (of_decide_eq_true rfl) ?_
                    refine lv_istore (lv' := [(8, .int 0), (7, .int x160), (6, .int x157), (5, .int x139), (4, .int 1), (3, .int x8), (0, .ref (ad 31)), (1, .int a1), (2, .int a2)]) hx hb dX1_grow_141 hl (of_decide_eq_true rfl) rfl (fun ls hl => ?_)
                    have lp161 : ∀ (n162 : Nat) (x163 : Int32) (σ164 : Nat → Nat → Int32) (H : Heap) (locs : List Loc) (ls : Array Slot), (-x163.toInt + 4 : Int) < n162 → 0 ≤ x163.toInt → x163.toInt ≤ 4 → (∀ i : Nat, (i < 31 ∨ 33 < i) ∧ (i < 36 ∨ 37 < i) → σ164 i = σ143 i) → (∀ k : Nat, (k < 8 ∨ 8 < k) → σ164 31 k = σ143 31 k) → jI31 σ164 → jH D cI cL ad σ164 τ H → va_S (jA ad) s.heap H locs → lv_has ls 9 [(8, .int x163), (7, .int x160), (6, .int x157), (5, .int x139), (4, .int 1), (3, .int x8), (0, .ref (ad 31)), (1, .int a1), (2, .int a2)] → W p l e ({ frames := 3, cells := 0, slots := 0, locals := 73 }) s m args below meth c H locs 0 0 Q (F0 m 143 ls []) := by
                      intro n162
                      induction n162 with
                      | zero => intro x163 σ164 H locs ls h166 h167 h168; exact absurd h166 (by omega)
                      | succ n162 ihlp161 =>
                        intro x163 σ164 H locs ls h166 h167 h168 f169 f170 p171 hP hS hl
                        exact by
                         obtain ⟨i172, w173, w174⟩ : (0 ≤ (σ164 31 8).toInt ∧ (σ164 31 8).toInt ≤ 350) ∧ (∀ k : Nat, k < 1400 → (-1) ≤ (σ164 33 k).toInt ∧ (σ164 33 k).toInt ≤ 350) ∧ (∀ k : Nat, k < 1024 → 0 ≤ (σ164 36 k).toInt ∧ (σ164 36 k).toInt ≤ 349) := id p171
                         refine lv_iload hx hb dX1_grow_143 (lv_at hl 0 rfl) ?_
                         refine lv_iconst (v := 4) hx hb dX1_grow_145 (of_decide_eq_true rfl) ?_
                         refine lv_icmp_ge (tgt := 196) hx hb dX1_grow_146 (of_decide_eq_true rfl) (fun c175 => ?_) (fun c175 => ?_)
                         · have kc175 := jle c175 jz_4 rfl
                           obtain ⟨x176, ex176⟩ : ∃ y : Int32, y = x139 + 1 := ⟨_, rfl⟩
                           have tx176 : x176.toInt = x139.toInt + 1 := (jadd ex176 rfl jz_1 (by omega) (by omega)).trans (by omega)
                           refine lv_iinc (v := x176) (lv' := [(5, .int x176), (8, .int x163), (7, .int x160), (6, .int x157), (4, .int 1), (3, .int x8), (0, .ref (ad 31)), (1, .int a1), (2, .int a2)]) hx hb dX1_grow_196 hl (k := 3) rfl (by rw [ex176]; rfl) (of_decide_eq_true rfl) rfl (fun ls hl => ?_)
                           refine lv_goto (tgt := 99) hx hb dX1_grow_199 (of_decide_eq_true rfl) ?_
                           exact by exact ihlp137 x176 σ164 _ _ ls (by have h90 := tx176; omega) (by have h90 := tx176; omega) (by have h90 := tx176; omega) (fun i hi => ((f169 i hi).trans (f148 i hi))) (fun i hi => ((f170 i hi).trans (f149 i hi)))  p171 hP hS (lv_sub hl [0, 4, 5, 6, 7, 8] rfl)
                         · exact by
                            have kc175 := jnle c175 jz_4 rfl
                            refine lv_aload_n hx hb dX1_grow_149 rfl (lv_at hl 6 rfl) ?_
                            refine va_get (D := D) hx hb hts inlX1 hown hK hP 31 (jc_31 cI cL ad σ164 τ) rfl 3 (of_decide_eq_true rfl) (hts _ kw_5_4) (fun _ h9 => h9) rfl dX1_grow_150 ?_
                            refine lv_iload hx hb dX1_grow_153 (lv_at hl 3 rfl) ?_
                            refine lv_iconst (v := 4) hx hb dX1_grow_155 (of_decide_eq_true rfl) ?_
                            have g177 := jrg (rfl : x139.toInt = x139.toInt)
                            refine lv_imul hx hb dX1_grow_156 ?_
                            refine lv_topi (fun x178 ex178 => ?_)
                            have tx178 : x178.toInt = 4 * x139.toInt := (jmul ex178 rfl jz_4 (by omega) (by omega)).trans (by omega)
                            exact by
                             refine lv_iload hx hb dX1_grow_157 (lv_at hl 0 rfl) ?_
                             have g179 := jrg (rfl : x163.toInt = x163.toInt)
                             refine lv_iadd hx hb dX1_grow_159 ?_
                             refine lv_topi (fun x180 ex180 => ?_)
                             have tx180 : x180.toInt = 4 * x139.toInt + x163.toInt := (jadd ex180 tx178 rfl (by omega) (by omega)).trans (by omega)
                             refine lv_iload hx hb dX1_grow_160 (lv_at hl 2 rfl) ?_
                             refine lv_iload hx hb dX1_grow_162 (lv_at hl 0 rfl) ?_
                             refine jcallS (As := [.int x157, .int x163]) (rest := [.int x180, .ref (ad 33)]) ⟨hx, hb, hml, hown, hts⟩ hK hP hA hS hZ (c_X0_mayBowl l D cI cL ad zz hJ σ164 τ x157 (x157.toInt) rfl x163 (x163.toInt) rfl) cw_RX1_115 ⟨Nat.le_of_ble_eq_true rfl, Nat.le_of_ble_eq_true rfl⟩ rfl rfl rfl hl.1 rfl (Nat.le_of_ble_eq_true rfl) dX1_grow_164 ⟨Nat.zero_le _, Nat.zero_le _⟩ (fun r182 σ181 τ181 H locs h181 hP hS => ?_)
                             obtain ⟨⟨rfl, rfl⟩, w183, h181⟩ := h181
                             exact by
                              refine lv_if_eq (tgt := 188) hx hb dX1_grow_167 (of_decide_eq_true rfl) (fun c184 => ?_) (fun c184 => ?_)
                              · have kc184 := jeq c184 rfl jz_0
                                refine lv_iconst (v := (-1)) hx hb dX1_grow_188 (of_decide_eq_true rfl) ?_
                                refine jast hx hb hK hP hJ hA hS (jc_33 cI cL ad σ164 τ) (ja_33 cI cL ad σ164 τ _ _) (jin tx180 (by omega) (by omega)) dX1_grow_189 (fun σ185 H locs eσ185 hP hS => ?_)
                                obtain ⟨x186, ex186⟩ : ∃ y : Int32, y = x163 + 1 := ⟨_, rfl⟩
                                have tx186 : x186.toInt = x163.toInt + 1 := (jadd ex186 rfl jz_1 (by omega) (by omega)).trans (by omega)
                                refine lv_iinc (v := x186) (lv' := [(8, .int x186), (7, .int x160), (6, .int x157), (5, .int x139), (4, .int 1), (3, .int x8), (0, .ref (ad 31)), (1, .int a1), (2, .int a2)]) hx hb dX1_grow_190 hl (k := 0) rfl (by rw [ex186]; rfl) (of_decide_eq_true rfl) rfl (fun ls hl => ?_)
                                refine lv_goto (tgt := 143) hx hb dX1_grow_193 (of_decide_eq_true rfl) ?_
                                have z187 : (σ185 31 8).toInt = (σ164 31 8).toInt := (congrArg Int32.toInt (show σ185 31 8 = (σ164 31 8) from (congrFun (jnp 31 eσ185 (of_decide_eq_true rfl)) 8)))
                                exact by
                                 have w188 : ∀ k : Nat, k < 1400 → (-1) ≤ (σ185 33 k).toInt ∧ (σ185 33 k).toInt ≤ 350 := (by rw [eσ185]; exact jrr_up w173 (by have h9 := jz_m1; omega) (by have h9 := jz_m1; omega))
                                 have w189 : ∀ k : Nat, k < 1024 → 0 ≤ (σ185 36 k).toInt ∧ (σ185 36 k).toInt ≤ 349 := (jrr_fr (jnp 36 eσ185 (of_decide_eq_true rfl)) w174)
                                 have I190 : jI31 σ185 := ⟨(by omega), w188, w189⟩
                                 exact by exact ihlp161 x186 σ185 _ _ ls (by have h90 := tx186; omega) (by have h90 := tx186; omega) (by have h90 := tx186; omega) (fun i hi => ((jnp i eσ185 (imp_94 i hi)).trans (f169 i hi))) (fun i hi => ((congrFun (jnp 31 eσ185 (of_decide_eq_true rfl)) i).trans (f170 i hi)))  I190 hP hS (lv_sub hl [0, 1, 2, 3, 4, 5, 6, 7, 8] rfl)
                              · have kc184 := jne c184 rfl jz_0
                                refine lv_aload_n hx hb dX1_grow_170 rfl (lv_at hl 6 rfl) ?_
                                refine lv_iload hx hb dX1_grow_171 (lv_at hl 2 rfl) ?_
                                refine lv_iload hx hb dX1_grow_173 (lv_at hl 0 rfl) ?_
                                refine jcallS (As := [.int x157, .int x163]) (rest := [.ref (ad 31), .int x180, .ref (ad 33)]) ⟨hx, hb, hml, hown, hts⟩ hK hP hA hS hZ (c_X0_after l D cI cL ad zz hJ σ164 τ x157 (x157.toInt) rfl x163 (x163.toInt) rfl) cw_RX1_119 ⟨Nat.le_of_ble_eq_true rfl, Nat.le_of_ble_eq_true rfl⟩ rfl rfl rfl hl.1 rfl (Nat.le_of_ble_eq_true rfl) dX1_grow_175 ⟨Nat.zero_le _, Nat.zero_le _⟩ (fun r192 σ191 τ191 H locs h191 hP hS => ?_)
                                exact by
                                 obtain ⟨⟨rfl, rfl⟩, w193, h191⟩ := h191
                                 refine lv_iload hx hb dX1_grow_178 (lv_at hl 1 rfl) ?_
                                 refine lv_iconst (v := 1) hx hb dX1_grow_180 (of_decide_eq_true rfl) ?_
                                 have g194 := jrg (rfl : x160.toInt = x160.toInt)
                                 refine lv_iadd hx hb dX1_grow_181 ?_
                                 refine lv_topi (fun x195 ex195 => ?_)
                                 have gx195 := jrg (rfl : x195.toInt = x195.toInt)
                                 refine jcallV (As := [.int r192, .int x195]) (rest := [.int x180, .ref (ad 33)]) ⟨hx, hb, hml, hown, hts⟩ hK hP hA hS hZ (c_X1_add_31 l D cI cL ad zz hJ σ164 τ r192 (r192.toInt) rfl x195 (x195.toInt) rfl p171) cw_RX1_111 (jc_31 cI cL ad σ164 τ) rfl ⟨Nat.le_of_ble_eq_true rfl, Nat.le_of_ble_eq_true rfl⟩ rfl rfl rfl hl.1 rfl (Nat.le_of_ble_eq_true rfl) dX1_grow_182 ⟨Nat.zero_le _, Nat.zero_le _⟩ (fun r197 σ196 τ196 H locs h196 hP hS => ?_)
                                 obtain ⟨rfl, f198, f199, I200, h196⟩ := h196
                                 obtain ⟨i202, w203, w204⟩ : (0 ≤ (σ196 31 8).toInt ∧ (σ196 31 8).toInt ≤ 350) ∧ (∀ k : Nat, k < 1400 → (-1) ≤ (σ196 33 k).toInt ∧ (σ196 33 k).toInt ≤ 350) ∧ (∀ k : Nat, k < 1024 → 0 ≤ (σ196 36 k).toInt ∧ (σ196 36 k).toInt ≤ 349) := id I200
                                 have h205 := h196
                                 obtain ⟨q207, k206⟩ := h205
                                 refine lv_goto (tgt := 189) hx hb dX1_grow_185 (of_decide_eq_true rfl) ?_
                                 exact by
                                  refine jast hx hb hK hP hJ hA hS (jc_33 cI cL ad σ196 τ) (ja_33 cI cL ad σ196 τ _ _) (jin tx180 (by omega) (by omega)) dX1_grow_189 (fun σ208 H locs eσ208 hP hS => ?_)
                                  obtain ⟨x209, ex209⟩ : ∃ y : Int32, y = x163 + 1 := ⟨_, rfl⟩
                                  have tx209 : x209.toInt = x163.toInt + 1 := (jadd ex209 rfl jz_1 (by omega) (by omega)).trans (by omega)
                                  refine lv_iinc (v := x209) (lv' := [(8, .int x209), (7, .int x160), (6, .int x157), (5, .int x139), (4, .int 1), (3, .int x8), (0, .ref (ad 31)), (1, .int a1), (2, .int a2)]) hx hb dX1_grow_190 hl (k := 0) rfl (by rw [ex209]; rfl) (of_decide_eq_true rfl) rfl (fun ls hl => ?_)
                                  refine lv_goto (tgt := 143) hx hb dX1_grow_193 (of_decide_eq_true rfl) ?_
                                  have z210 : (σ208 31 8).toInt = (σ196 31 8).toInt := (congrArg Int32.toInt (show σ208 31 8 = (σ196 31 8) from (congrFun (jnp 31 eσ208 (of_decide_eq_true rfl)) 8)))
                                  have w211 : ∀ k : Nat, k < 1400 → (-1) ≤ (σ208 33 k).toInt ∧ (σ208 33 k).toInt ≤ 350 := (by rw [eσ208]; exact jrr_up w203 (by omega) (by omega))
                                  have w212 : ∀ k : Nat, k < 1024 → 0 ≤ (σ208 36 k).toInt ∧ (σ208 36 k).toInt ≤ 349 := (jrr_fr (jnp 36 eσ208 (of_decide_eq_true rfl)) w204)
                                  have I213 : jI31 σ208 := ⟨(by omega), w211, w212⟩
                                  exact by exact ihlp161 x209 σ208 _ _ ls (by have h90 := tx209; omega) (by have h90 := tx209; omega) (by have h90 := tx209; omega) (fun i hi => ((jnp i eσ208 (imp_94 i hi)).trans ((f198 i (imp_86 i hi)).trans (f169 i hi)))) (fun i hi => ((congrFun (jnp 31 eσ208 (of_decide_eq_true rfl)) i).trans ((f199 i hi).trans (f170 i hi))))  I213 hP hS (lv_sub hl [0, 1, 2, 3, 4, 5, 6, 7, 8] rfl)
                    exact by exact lp161 1000000 0 σ143 _ _ ls (by have h90 := jz_0; omega) (by have h90 := jz_0; omega) (by have h90 := jz_0; omega) (fun _ _ => rfl) (fun _ _ => rfl)  p150 hP hS hl
          exact by exact lp137 1000000 0 σ125 _ _ ls (by have h90 := jz_0; omega) (by have h90 := jz_0; omega) (by have h90 := jz_0; omega) (fun _ _ => rfl) (fun _ _ => rfl)  I129 hP hS hl
       · exact by
          have kc115 := jeq c115 rfl rfl
          refine lv_aload_n hx hb dX1_grow_48 rfl (lv_at hl 2 rfl) ?_
          refine va_get (D := D) hx hb hts inlX1 hown hK hP 31 (jc_31 cI cL ad σ τ) rfl 12 (of_decide_eq_true rfl) (hts _ kw_28_8) (fun _ h9 => h9) rfl dX1_grow_49 ?_
          refine lv_iload hx hb dX1_grow_52 (lv_at hl 0 rfl) ?_
          refine lv_icmp_ne (tgt := 63) hx hb dX1_grow_54 (of_decide_eq_true rfl) (fun c214 => ?_) (fun c214 => ?_)
          · have kc214 := jne c214 rfl jz_1
            refine lv_aload_n hx hb dX1_grow_63 rfl (lv_at hl 2 rfl) ?_
            refine lv_iload_n hx hb dX1_grow_64 rfl (lv_at hl 3 rfl) ?_
            refine jput (ty := .int) hx hb hts inlX1 tyX1 tyX1_ok nmX1 hown hK hP hJ hA hS (jc_31 cI cL ad σ τ) rfl (k := 9) (of_decide_eq_true rfl) (Nat.le_of_ble_eq_true rfl) (jp_31_9 cI cL ad σ τ a1) (hts _ kw_5_9) (fun _ h9 => h9) rfl (by decide +kernel) rfl rfl dX1_grow_65 (fun σ215 H locs eσ215 hP hS => ?_)
            refine lv_aload_n hx hb dX1_grow_68 rfl (lv_at hl 2 rfl) ?_
            refine lv_iload_n hx hb dX1_grow_69 rfl (lv_at hl 4 rfl) ?_
            refine jput (ty := .int) hx hb hts inlX1 tyX1 tyX1_ok nmX1 hown hK hP hJ hA hS (jc_31 cI cL ad σ215 τ) rfl (k := 10) (of_decide_eq_true rfl) (Nat.le_of_ble_eq_true rfl) (jp_31_10 cI cL ad σ215 τ a2) (hts _ kw_28_9) (fun _ h9 => h9) rfl (by decide +kernel) rfl rfl dX1_grow_70 (fun σ216 H locs eσ216 hP hS => ?_)
            refine lv_aload_n hx hb dX1_grow_73 rfl (lv_at hl 2 rfl) ?_
            refine lv_iload_n hx hb dX1_grow_74 rfl (lv_at hl 1 rfl) ?_
            refine jput (ty := .int) hx hb hts inlX1 tyX1 tyX1_ok nmX1 hown hK hP hJ hA hS (jc_31 cI cL ad σ216 τ) rfl (k := 11) (of_decide_eq_true rfl) (Nat.le_of_ble_eq_true rfl) (jp_31_11 cI cL ad σ216 τ x8) (hts _ kw_28_7) (fun _ h9 => h9) rfl (by decide +kernel) rfl rfl dX1_grow_75 (fun σ217 H locs eσ217 hP hS => ?_)
            refine lv_aload_n hx hb dX1_grow_78 rfl (lv_at hl 2 rfl) ?_
            refine lv_iload hx hb dX1_grow_79 (lv_at hl 0 rfl) ?_
            refine jput (ty := .boolean) hx hb hts inlX1 tyX1 tyX1_ok nmX1 hown hK hP hJ hA hS (jc_31 cI cL ad σ217 τ) rfl (k := 12) (of_decide_eq_true rfl) (Nat.le_of_ble_eq_true rfl) (jp_31_12 cI cL ad σ217 τ 1) (hts _ kw_28_8) (fun _ h9 => h9) rfl (by decide +kernel) rfl rfl dX1_grow_81 (fun σ218 H locs eσ218 hP hS => ?_)
            refine lv_aload_n hx hb dX1_grow_84 rfl (lv_at hl 2 rfl) ?_
            refine lv_iconst (v := 0) hx hb dX1_grow_85 (of_decide_eq_true rfl) ?_
            refine jput (ty := .int) hx hb hts inlX1 tyX1 tyX1_ok nmX1 hown hK hP hJ hA hS (jc_31 cI cL ad σ218 τ) rfl (k := 8) (of_decide_eq_true rfl) (Nat.le_of_ble_eq_true rfl) (jp_31_8 cI cL ad σ218 τ 0) (hts _ kw_27_22) (fun _ h9 => h9) rfl (by decide +kernel) rfl rfl dX1_grow_86 (fun σ219 H locs eσ219 hP hS => ?_)
            refine lv_aload_n hx hb dX1_grow_89 rfl (lv_at hl 2 rfl) ?_
            refine lv_iload_n hx hb dX1_grow_90 rfl (lv_at hl 3 rfl) ?_
            refine lv_iconst (v := 0) hx hb dX1_grow_91 (of_decide_eq_true rfl) ?_
            have z220 : (σ219 31 8).toInt = 0 := ((congrArg Int32.toInt (show σ219 31 8 = 0 from (jsp eσ219))).trans jz_0)
            have w221 : ∀ k : Nat, k < 1400 → (-1) ≤ (σ219 33 k).toInt ∧ (σ219 33 k).toInt ≤ 350 := (jrr_fr (jnp 33 eσ219 (of_decide_eq_true rfl)) (jrr_fr (jnp 33 eσ218 (of_decide_eq_true rfl)) (jrr_fr (jnp 33 eσ217 (of_decide_eq_true rfl)) (jrr_fr (jnp 33 eσ216 (of_decide_eq_true rfl)) (jrr_fr (jnp 33 eσ215 (of_decide_eq_true rfl)) w2)))))
            have w222 : ∀ k : Nat, k < 1024 → 0 ≤ (σ219 36 k).toInt ∧ (σ219 36 k).toInt ≤ 349 := (jrr_fr (jnp 36 eσ219 (of_decide_eq_true rfl)) (jrr_fr (jnp 36 eσ218 (of_decide_eq_true rfl)) (jrr_fr (jnp 36 eσ217 (of_decide_eq_true rfl)) (jrr_fr (jnp 36 eσ216 (of_decide_eq_true rfl)) (jrr_fr (jnp 36 eσ215 (of_decide_eq_true rfl)) w3)))))
            exact by
             have I223 : jI31 σ219 := ⟨(by omega), w221, w222⟩
             refine jcallV (As := [.int a1, .int 0]) (rest := []) ⟨hx, hb, hml, hown, hts⟩ hK hP hA hS hZ (c_X1_add_31 l D cI cL ad zz hJ σ219 τ a1 (A1) t1 0 (0) jz_0 I223) cw_RX1_111 (jc_31 cI cL ad σ219 τ) rfl ⟨Nat.le_of_ble_eq_true rfl, Nat.le_of_ble_eq_true rfl⟩ rfl rfl rfl hl.1 rfl (Nat.le_of_ble_eq_true rfl) dX1_grow_92 ⟨Nat.zero_le _, Nat.zero_le _⟩ (fun r225 σ224 τ224 H locs h224 hP hS => ?_)
             obtain ⟨rfl, f226, f227, I228, h224⟩ := h224
             obtain ⟨i230, w231, w232⟩ : (0 ≤ (σ224 31 8).toInt ∧ (σ224 31 8).toInt ≤ 350) ∧ (∀ k : Nat, k < 1400 → (-1) ≤ (σ224 33 k).toInt ∧ (σ224 33 k).toInt ≤ 350) ∧ (∀ k : Nat, k < 1024 → 0 ≤ (σ224 36 k).toInt ∧ (σ224 36 k).toInt ≤ 349) := id I228
             have h233 := h224
             obtain ⟨q235, k234⟩ := h233
             refine lv_pop hx hb dX1_grow_95 rfl ?_
             refine lv_iconst (v := 0) hx hb dX1_grow_96 (of_decide_eq_true rfl) ?_
             refine lv_istore (lv' := [(5, .int 0), (4, .int 1), (3, .int x8), (0, .ref (ad 31)), (1, .int a1), (2, .int a2)]) hx hb dX1_grow_97 hl (of_decide_eq_true rfl) rfl (fun ls hl => ?_)
             have lp236 : ∀ (n237 : Nat) (x238 : Int32) (σ242 : Nat → Nat → Int32) (H : Heap) (locs : List Loc) (ls : Array Slot), (-x238.toInt + 350 : Int) < n237 → 0 ≤ x238.toInt → x238.toInt ≤ 350 → (∀ i : Nat, (i < 31 ∨ 33 < i) ∧ (i < 36 ∨ 37 < i) → σ242 i = σ224 i) → (∀ k : Nat, (k < 8 ∨ 8 < k) → σ242 31 k = σ224 31 k) → jI31 σ242 → jH D cI cL ad σ242 τ H → va_S (jA ad) s.heap H locs → lv_has ls 9 [(5, .int x238), (4, .int 1), (3, .int x8), (0, .ref (ad 31)), (1, .int a1), (2, .int a2)] → W p l e ({ frames := 3, cells := 0, slots := 0, locals := 73 }) s m args below meth c H locs 0 0 Q (F0 m 99 ls []) := by
               intro n237
               induction n237 with
               | zero => intro x238 σ242 H locs ls h244 h245 h246; exact absurd h244 (by omega)
               | succ n237 ihlp236 =>
                 intro x238 σ242 H locs ls h244 h245 h246 f247 f248 p249 hP hS hl
                 exact by
                  obtain ⟨i250, w251, w252⟩ : (0 ≤ (σ242 31 8).toInt ∧ (σ242 31 8).toInt ≤ 350) ∧ (∀ k : Nat, k < 1400 → (-1) ≤ (σ242 33 k).toInt ∧ (σ242 33 k).toInt ≤ 350) ∧ (∀ k : Nat, k < 1024 → 0 ≤ (σ242 36 k).toInt ∧ (σ242 36 k).toInt ≤ 349) := id p249
                  refine lv_iload hx hb dX1_grow_99 (lv_at hl 0 rfl) ?_
                  refine lv_aload_n hx hb dX1_grow_101 rfl (lv_at hl 3 rfl) ?_
                  refine va_get (D := D) hx hb hts inlX1 hown hK hP 31 (jc_31 cI cL ad σ242 τ) rfl 8 (of_decide_eq_true rfl) (hts _ kw_27_22) (fun _ h9 => h9) rfl dX1_grow_102 ?_
                  refine lv_icmp_ge (tgt := 202) hx hb dX1_grow_105 (of_decide_eq_true rfl) (fun c253 => ?_) (fun c253 => ?_)
                  · have kc253 := jle c253 rfl rfl
                    exact hret σ242 τ _ _ _ _ ⟨rfl, (fun i hi => ((f247 i hi).trans ((f226 i (imp_86 i hi)).trans ((jnp i eσ219 (imp_87 i hi)).trans ((jnp i eσ218 (imp_87 i hi)).trans ((jnp i eσ217 (imp_87 i hi)).trans ((jnp i eσ216 (imp_87 i hi)).trans (jnp i eσ215 (imp_87 i hi))))))))), (fun i hi => ((f248 i (imp_88 i hi)).trans ((f227 i (imp_88 i hi)).trans ((jkp i eσ219 (imp_89 i hi)).trans ((jkp i eσ218 (imp_90 i hi)).trans ((jkp i eσ217 (imp_91 i hi)).trans ((jkp i eσ216 (imp_92 i hi)).trans (jkp i eσ215 (imp_93 i hi))))))))), p249, trivial⟩ hP hS dX1_grow_202
                  · have kc253 := jnle c253 rfl rfl
                    refine lv_iload hx hb dX1_grow_108 (lv_at hl 0 rfl) ?_
                    refine lv_sipush (v := 350) hx hb dX1_grow_110 (of_decide_eq_true rfl) ?_
                    exact by
                     refine lv_icmp_ge (tgt := 202) hx hb dX1_grow_113 (of_decide_eq_true rfl) (fun c => absurd (jle c jz_350 rfl) (by omega)) (fun c254 => ?_)
                     have kc254 := jnle c254 jz_350 rfl
                     refine lv_aload_n hx hb dX1_grow_116 rfl (lv_at hl 3 rfl) ?_
                     refine va_get (D := D) hx hb hts inlX1 hown hK hP 31 (jc_31 cI cL ad σ242 τ) rfl 2 (of_decide_eq_true rfl) (hts _ kw_5_3) (fun _ h9 => h9) rfl dX1_grow_117 ?_
                     refine lv_iload hx hb dX1_grow_120 (lv_at hl 0 rfl) ?_
                     refine jald hx hb hK hP (jc_32 cI cL ad σ242 τ) (jin rfl (by omega) (by omega)) dX1_grow_122 ?_
                     refine lv_topi (fun x255 ex255 => ?_)
                     refine lv_ldc (v := 134217727) hx hb hown (hts _ kw_28_10) dX1_grow_123 ?_
                     refine lv_iand hx hb dX1_grow_125 ?_
                     exact by
                      refine lv_topi (fun x256 ex256 => ?_)
                      have gx256 := jrg (rfl : x256.toInt = x256.toInt)
                      have g257 : 0 ≤ x256.toInt ∧ x256.toInt ≤ 134217727 := jmask ex256 27 (of_decide_eq_true rfl) (of_decide_eq_true rfl)
                      refine lv_istore (lv' := [(6, .int x256), (5, .int x238), (4, .int 1), (3, .int x8), (0, .ref (ad 31)), (1, .int a1), (2, .int a2)]) hx hb dX1_grow_126 hl (of_decide_eq_true rfl) rfl (fun ls hl => ?_)
                      refine lv_aload_n hx hb dX1_grow_128 rfl (lv_at hl 4 rfl) ?_
                      refine va_get (D := D) hx hb hts inlX1 hown hK hP 31 (jc_31 cI cL ad σ242 τ) rfl 2 (of_decide_eq_true rfl) (hts _ kw_5_3) (fun _ h9 => h9) rfl dX1_grow_129 ?_
                      refine lv_iload hx hb dX1_grow_132 (lv_at hl 1 rfl) ?_
                      refine jald hx hb hK hP (jc_32 cI cL ad σ242 τ) (jin rfl (by omega) (by omega)) dX1_grow_134 ?_
                      refine lv_topi (fun x258 ex258 => ?_)
                      exact by
                       refine lv_bipush (v := 27) hx hb dX1_grow_135 (of_decide_eq_true rfl) ?_
                       refine lv_ishr hx hb dX1_grow_137 ?_
                       refine lv_topi (fun x259 ex259 => ?_)
                       have gx259 := jrg (rfl : x259.toInt = x259.toInt)
                       refine lv_istore (lv' := [(7, .int x259), (6, .int x256), (5, .int x238), (4, .int 1), (3, .int x8), (0, .ref (ad 31)), (1, .int a1), (2, .int a2)]) hx hb dX1_grow_138 hl (of_decide_eq_true rfl) rfl (fun ls hl => ?_)
                       refine lv_iconst (v := 0) hx hb dX1_grow_140 (of_decide_eq_true rfl) ?_
                       refine lv_istore (lv' := [(8, .int 0), (7, .int x259), (6, .int x256), (5, .int x238), (4, .int 1), (3, .int x8), (0, .ref (ad 31)), (1, .int a1), (2, .int a2)]) hx hb dX1_grow_141 hl (of_decide_eq_true rfl) rfl (fun ls hl => ?_)
                       have lp260 : ∀ (n261 : Nat) (x262 : Int32) (σ263 : Nat → Nat → Int32) (H : Heap) (locs : List Loc) (ls : Array Slot), (-x262.toInt + 4 : Int) < n261 → 0 ≤ x262.toInt → x262.toInt ≤ 4 → (∀ i : Nat, (i < 31 ∨ 33 < i) ∧ (i < 36 ∨ 37 < i) → σ263 i = σ242 i) → (∀ k : Nat, (k < 8 ∨ 8 < k) → σ263 31 k = σ242 31 k) → jI31 σ263 → jH D cI cL ad σ263 τ H → va_S (jA ad) s.heap H locs → lv_has ls 9 [(8, .int x262), (7, .int x259), (6, .int x256), (5, .int x238), (4, .int 1), (3, .int x8), (0, .ref (ad 31)), (1, .int a1), (2, .int a2)] → W p l e ({ frames := 3, cells := 0, slots := 0, locals := 73 }) s m args below meth c H locs 0 0 Q (F0 m 143 ls []) := by
                         intro n261
                         induction n261 with
                         | zero => intro x262 σ263 H locs ls h265 h266 h267; exact absurd h265 (by omega)
                         | succ n261 ihlp260 =>
                           intro x262 σ263 H locs ls h265 h266 h267 f268 f269 p270 hP hS hl
                           exact by
                            obtain ⟨i271, w272, w273⟩ : (0 ≤ (σ263 31 8).toInt ∧ (σ263 31 8).toInt ≤ 350) ∧ (∀ k : Nat, k < 1400 → (-1) ≤ (σ263 33 k).toInt ∧ (σ263 33 k).toInt ≤ 350) ∧ (∀ k : Nat, k < 1024 → 0 ≤ (σ263 36 k).toInt ∧ (σ263 36 k).toInt ≤ 349) := id p270
                            refine lv_iload hx hb dX1_grow_143 (lv_at hl 0 rfl) ?_
                            refine lv_iconst (v := 4) hx hb dX1_grow_145 (of_decide_eq_true rfl) ?_
                            refine lv_icmp_ge (tgt := 196) hx hb dX1_grow_146 (of_decide_eq_true rfl) (fun c274 => ?_) (fun c274 => ?_)
                            · have kc274 := jle c274 jz_4 rfl
                              obtain ⟨x275, ex275⟩ : ∃ y : Int32, y = x238 + 1 := ⟨_, rfl⟩
                              have tx275 : x275.toInt = x238.toInt + 1 := (jadd ex275 rfl jz_1 (by omega) (by omega)).trans (by omega)
                              refine lv_iinc (v := x275) (lv' := [(5, .int x275), (8, .int x262), (7, .int x259), (6, .int x256), (4, .int 1), (3, .int x8), (0, .ref (ad 31)), (1, .int a1), (2, .int a2)]) hx hb dX1_grow_196 hl (k := 3) rfl (by rw [ex275]; rfl) (of_decide_eq_true rfl) rfl (fun ls hl => ?_)
                              refine lv_goto (tgt := 99) hx hb dX1_grow_199 (of_decide_eq_true rfl) ?_
                              exact by exact ihlp236 x275 σ263 _ _ ls (by have h90 := tx275; omega) (by have h90 := tx275; omega) (by have h90 := tx275; omega) (fun i hi => ((f268 i hi).trans (f247 i hi))) (fun i hi => ((f269 i hi).trans (f248 i hi)))  p270 hP hS (lv_sub hl [0, 4, 5, 6, 7, 8] rfl)
                            · exact by
                               have kc274 := jnle c274 jz_4 rfl
                               refine lv_aload_n hx hb dX1_grow_149 rfl (lv_at hl 6 rfl) ?_
                               refine va_get (D := D) hx hb hts inlX1 hown hK hP 31 (jc_31 cI cL ad σ263 τ) rfl 3 (of_decide_eq_true rfl) (hts _ kw_5_4) (fun _ h9 => h9) rfl dX1_grow_150 ?_
                               refine lv_iload hx hb dX1_grow_153 (lv_at hl 3 rfl) ?_
                               refine lv_iconst (v := 4) hx hb dX1_grow_155 (of_decide_eq_true rfl) ?_
                               have g276 := jrg (rfl : x238.toInt = x238.toInt)
                               refine lv_imul hx hb dX1_grow_156 ?_
                               refine lv_topi (fun x277 ex277 => ?_)
                               have tx277 : x277.toInt = 4 * x238.toInt := (jmul ex277 rfl jz_4 (by omega) (by omega)).trans (by omega)
                               exact by
                                refine lv_iload hx hb dX1_grow_157 (lv_at hl 0 rfl) ?_
                                have g278 := jrg (rfl : x262.toInt = x262.toInt)
                                refine lv_iadd hx hb dX1_grow_159 ?_
                                refine lv_topi (fun x279 ex279 => ?_)
                                have tx279 : x279.toInt = 4 * x238.toInt + x262.toInt := (jadd ex279 tx277 rfl (by omega) (by omega)).trans (by omega)
                                refine lv_iload hx hb dX1_grow_160 (lv_at hl 2 rfl) ?_
                                refine lv_iload hx hb dX1_grow_162 (lv_at hl 0 rfl) ?_
                                refine jcallS (As := [.int x256, .int x262]) (rest := [.int x279, .ref (ad 33)]) ⟨hx, hb, hml, hown, hts⟩ hK hP hA hS hZ (c_X0_mayBowl l D cI cL ad zz hJ σ263 τ x256 (x256.toInt) rfl x262 (x262.toInt) rfl) cw_RX1_115 ⟨Nat.le_of_ble_eq_true rfl, Nat.le_of_ble_eq_true rfl⟩ rfl rfl rfl hl.1 rfl (Nat.le_of_ble_eq_true rfl) dX1_grow_164 ⟨Nat.zero_le _, Nat.zero_le _⟩ (fun r281 σ280 τ280 H locs h280 hP hS => ?_)
                                obtain ⟨⟨rfl, rfl⟩, w282, h280⟩ := h280
                                exact by
                                 refine lv_if_eq (tgt := 188) hx hb dX1_grow_167 (of_decide_eq_true rfl) (fun c283 => ?_) (fun c283 => ?_)
                                 · have kc283 := jeq c283 rfl jz_0
                                   refine lv_iconst (v := (-1)) hx hb dX1_grow_188 (of_decide_eq_true rfl) ?_
                                   refine jast hx hb hK hP hJ hA hS (jc_33 cI cL ad σ263 τ) (ja_33 cI cL ad σ263 τ _ _) (jin tx279 (by omega) (by omega)) dX1_grow_189 (fun σ284 H locs eσ284 hP hS => ?_)
                                   obtain ⟨x285, ex285⟩ : ∃ y : Int32, y = x262 + 1 := ⟨_, rfl⟩
                                   have tx285 : x285.toInt = x262.toInt + 1 := (jadd ex285 rfl jz_1 (by omega) (by omega)).trans (by omega)
                                   refine lv_iinc (v := x285) (lv' := [(8, .int x285), (7, .int x259), (6, .int x256), (5, .int x238), (4, .int 1), (3, .int x8), (0, .ref (ad 31)), (1, .int a1), (2, .int a2)]) hx hb dX1_grow_190 hl (k := 0) rfl (by rw [ex285]; rfl) (of_decide_eq_true rfl) rfl (fun ls hl => ?_)
                                   refine lv_goto (tgt := 143) hx hb dX1_grow_193 (of_decide_eq_true rfl) ?_
                                   have z286 : (σ284 31 8).toInt = (σ263 31 8).toInt := (congrArg Int32.toInt (show σ284 31 8 = (σ263 31 8) from (congrFun (jnp 31 eσ284 (of_decide_eq_true rfl)) 8)))
                                   exact by
                                    have w287 : ∀ k : Nat, k < 1400 → (-1) ≤ (σ284 33 k).toInt ∧ (σ284 33 k).toInt ≤ 350 := (by rw [eσ284]; exact jrr_up w272 (by have h9 := jz_m1; omega) (by have h9 := jz_m1; omega))
                                    have w288 : ∀ k : Nat, k < 1024 → 0 ≤ (σ284 36 k).toInt ∧ (σ284 36 k).toInt ≤ 349 := (jrr_fr (jnp 36 eσ284 (of_decide_eq_true rfl)) w273)
                                    have I289 : jI31 σ284 := ⟨(by omega), w287, w288⟩
                                    exact by exact ihlp260 x285 σ284 _ _ ls (by have h90 := tx285; omega) (by have h90 := tx285; omega) (by have h90 := tx285; omega) (fun i hi => ((jnp i eσ284 (imp_94 i hi)).trans (f268 i hi))) (fun i hi => ((congrFun (jnp 31 eσ284 (of_decide_eq_true rfl)) i).trans (f269 i hi)))  I289 hP hS (lv_sub hl [0, 1, 2, 3, 4, 5, 6, 7, 8] rfl)
                                 · have kc283 := jne c283 rfl jz_0
                                   refine lv_aload_n hx hb dX1_grow_170 rfl (lv_at hl 6 rfl) ?_
                                   refine lv_iload hx hb dX1_grow_171 (lv_at hl 2 rfl) ?_
                                   refine lv_iload hx hb dX1_grow_173 (lv_at hl 0 rfl) ?_
                                   refine jcallS (As := [.int x256, .int x262]) (rest := [.ref (ad 31), .int x279, .ref (ad 33)]) ⟨hx, hb, hml, hown, hts⟩ hK hP hA hS hZ (c_X0_after l D cI cL ad zz hJ σ263 τ x256 (x256.toInt) rfl x262 (x262.toInt) rfl) cw_RX1_119 ⟨Nat.le_of_ble_eq_true rfl, Nat.le_of_ble_eq_true rfl⟩ rfl rfl rfl hl.1 rfl (Nat.le_of_ble_eq_true rfl) dX1_grow_175 ⟨Nat.zero_le _, Nat.zero_le _⟩ (fun r291 σ290 τ290 H locs h290 hP hS => ?_)
                                   exact by
                                    obtain ⟨⟨rfl, rfl⟩, w292, h290⟩ := h290
                                    refine lv_iload hx hb dX1_grow_178 (lv_at hl 1 rfl) ?_
                                    refine lv_iconst (v := 1) hx hb dX1_grow_180 (of_decide_eq_true rfl) ?_
                                    have g293 := jrg (rfl : x259.toInt = x259.toInt)
                                    refine lv_iadd hx hb dX1_grow_181 ?_
                                    refine lv_topi (fun x294 ex294 => ?_)
                                    have gx294 := jrg (rfl : x294.toInt = x294.toInt)
                                    refine jcallV (As := [.int r291, .int x294]) (rest := [.int x279, .ref (ad 33)]) ⟨hx, hb, hml, hown, hts⟩ hK hP hA hS hZ (c_X1_add_31 l D cI cL ad zz hJ σ263 τ r291 (r291.toInt) rfl x294 (x294.toInt) rfl p270) cw_RX1_111 (jc_31 cI cL ad σ263 τ) rfl ⟨Nat.le_of_ble_eq_true rfl, Nat.le_of_ble_eq_true rfl⟩ rfl rfl rfl hl.1 rfl (Nat.le_of_ble_eq_true rfl) dX1_grow_182 ⟨Nat.zero_le _, Nat.zero_le _⟩ (fun r296 σ295 τ295 H locs h295 hP hS => ?_)
                                    obtain ⟨rfl, f297, f298, I299, h295⟩ := h295
                                    obtain ⟨i301, w302, w303⟩ : (0 ≤ (σ295 31 8).toInt ∧ (σ295 31 8).toInt ≤ 350) ∧ (∀ k : Nat, k < 1400 → (-1) ≤ (σ295 33 k).toInt ∧ (σ295 33 k).toInt ≤ 350) ∧ (∀ k : Nat, k < 1024 → 0 ≤ (σ295 36 k).toInt ∧ (σ295 36 k).toInt ≤ 349) := id I299
                                    have h304 := h295
                                    obtain ⟨q306, k305⟩ := h304
                                    refine lv_goto (tgt := 189) hx hb dX1_grow_185 (of_decide_eq_true rfl) ?_
                                    exact by
                                     refine jast hx hb hK hP hJ hA hS (jc_33 cI cL ad σ295 τ) (ja_33 cI cL ad σ295 τ _ _) (jin tx279 (by omega) (by omega)) dX1_grow_189 (fun σ307 H locs eσ307 hP hS => ?_)
                                     obtain ⟨x308, ex308⟩ : ∃ y : Int32, y = x262 + 1 := ⟨_, rfl⟩
                                     have tx308 : x308.toInt = x262.toInt + 1 := (jadd ex308 rfl jz_1 (by omega) (by omega)).trans (by omega)
                                     refine lv_iinc (v := x308) (lv' := [(8, .int x308), (7, .int x259), (6, .int x256), (5, .int x238), (4, .int 1), (3, .int x8), (0, .ref (ad 31)), (1, .int a1), (2, .int a2)]) hx hb dX1_grow_190 hl (k := 0) rfl (by rw [ex308]; rfl) (of_decide_eq_true rfl) rfl (fun ls hl => ?_)
                                     refine lv_goto (tgt := 143) hx hb dX1_grow_193 (of_decide_eq_true rfl) ?_
                                     have z309 : (σ307 31 8).toInt = (σ295 31 8).toInt := (congrArg Int32.toInt (show σ307 31 8 = (σ295 31 8) from (congrFun (jnp 31 eσ307 (of_decide_eq_true rfl)) 8)))
                                     have w310 : ∀ k : Nat, k < 1400 → (-1) ≤ (σ307 33 k).toInt ∧ (σ307 33 k).toInt ≤ 350 := (by rw [eσ307]; exact jrr_up w302 (by omega) (by omega))
                                     have w311 : ∀ k : Nat, k < 1024 → 0 ≤ (σ307 36 k).toInt ∧ (σ307 36 k).toInt ≤ 349 := (jrr_fr (jnp 36 eσ307 (of_decide_eq_true rfl)) w303)
                                     have I312 : jI31 σ307 := ⟨(by omega), w310, w311⟩
                                     exact by exact ihlp260 x308 σ307 _ _ ls (by have h90 := tx308; omega) (by have h90 := tx308; omega) (by have h90 := tx308; omega) (fun i hi => ((jnp i eσ307 (imp_94 i hi)).trans ((f297 i (imp_86 i hi)).trans (f268 i hi)))) (fun i hi => ((congrFun (jnp 31 eσ307 (of_decide_eq_true rfl)) i).trans ((f298 i hi).trans (f269 i hi))))  I312 hP hS (lv_sub hl [0, 1, 2, 3, 4, 5, 6, 7, 8] rfl)
                       exact by exact lp260 1000000 0 σ242 _ _ ls (by have h90 := jz_0; omega) (by have h90 := jz_0; omega) (by have h90 := jz_0; omega) (fun _ _ => rfl) (fun _ _ => rfl)  p249 hP hS hl
             exact by exact lp236 1000000 0 σ224 _ _ ls (by have h90 := jz_0; omega) (by have h90 := jz_0; omega) (by have h90 := jz_0; omega) (fun _ _ => rfl) (fun _ _ => rfl)  I228 hP hS hl
          · exact by
             have kc214 := jeq c214 rfl jz_1
             refine lv_aload_n hx hb dX1_grow_57 rfl (lv_at hl 2 rfl) ?_
             refine lv_iload_n hx hb dX1_grow_58 rfl (lv_at hl 4 rfl) ?_
             refine jput (ty := .int) hx hb hts inlX1 tyX1 tyX1_ok nmX1 hown hK hP hJ hA hS (jc_31 cI cL ad σ τ) rfl (k := 10) (of_decide_eq_true rfl) (Nat.le_of_ble_eq_true rfl) (jp_31_10 cI cL ad σ τ a2) (hts _ kw_28_9) (fun _ h9 => h9) rfl (by decide +kernel) rfl rfl dX1_grow_59 (fun σ313 H locs eσ313 hP hS => ?_)
             have I314 : jI31 σ313 := jI31_fr (jkp 8 eσ313 (of_decide_eq_true rfl)) (jnp 33 eσ313 (of_decide_eq_true rfl)) (jnp 36 eσ313 (of_decide_eq_true rfl)) hI31
             exact hret σ313 τ _ _ _ _ ⟨rfl, (fun i hi => (jnp i eσ313 (imp_87 i hi))), (fun i hi => (jkp i eσ313 (imp_92 i hi))), I314, trivial⟩ hP hS dX1_grow_62
  · obtain ⟨q316, k315⟩ := h13
    have q316 := q316.symm
    subst q316
    refine lv_istore (lv' := [(4, .int 0), (3, .int x8), (0, .ref (ad 31)), (1, .int a1), (2, .int a2)]) hx hb dX1_grow_30 hl (of_decide_eq_true rfl) rfl (fun ls hl => ?_)
    refine lv_aload_n hx hb dX1_grow_32 rfl (lv_at hl 2 rfl) ?_
    refine va_get (D := D) hx hb hts inlX1 hown hK hP 31 (jc_31 cI cL ad σ τ) rfl 9 (of_decide_eq_true rfl) (hts _ kw_5_9) (fun _ h9 => h9) rfl dX1_grow_33 ?_
    refine lv_iload_n hx hb dX1_grow_36 rfl (lv_at hl 3 rfl) ?_
    refine lv_icmp_ne (tgt := 63) hx hb dX1_grow_37 (of_decide_eq_true rfl) (fun c317 => ?_) (fun c317 => ?_)
    · have kc317 := jne c317 rfl t1
      refine lv_aload_n hx hb dX1_grow_63 rfl (lv_at hl 2 rfl) ?_
      refine lv_iload_n hx hb dX1_grow_64 rfl (lv_at hl 3 rfl) ?_
      refine jput (ty := .int) hx hb hts inlX1 tyX1 tyX1_ok nmX1 hown hK hP hJ hA hS (jc_31 cI cL ad σ τ) rfl (k := 9) (of_decide_eq_true rfl) (Nat.le_of_ble_eq_true rfl) (jp_31_9 cI cL ad σ τ a1) (hts _ kw_5_9) (fun _ h9 => h9) rfl (by decide +kernel) rfl rfl dX1_grow_65 (fun σ318 H locs eσ318 hP hS => ?_)
      refine lv_aload_n hx hb dX1_grow_68 rfl (lv_at hl 2 rfl) ?_
      refine lv_iload_n hx hb dX1_grow_69 rfl (lv_at hl 4 rfl) ?_
      refine jput (ty := .int) hx hb hts inlX1 tyX1 tyX1_ok nmX1 hown hK hP hJ hA hS (jc_31 cI cL ad σ318 τ) rfl (k := 10) (of_decide_eq_true rfl) (Nat.le_of_ble_eq_true rfl) (jp_31_10 cI cL ad σ318 τ a2) (hts _ kw_28_9) (fun _ h9 => h9) rfl (by decide +kernel) rfl rfl dX1_grow_70 (fun σ319 H locs eσ319 hP hS => ?_)
      refine lv_aload_n hx hb dX1_grow_73 rfl (lv_at hl 2 rfl) ?_
      refine lv_iload_n hx hb dX1_grow_74 rfl (lv_at hl 1 rfl) ?_
      refine jput (ty := .int) hx hb hts inlX1 tyX1 tyX1_ok nmX1 hown hK hP hJ hA hS (jc_31 cI cL ad σ319 τ) rfl (k := 11) (of_decide_eq_true rfl) (Nat.le_of_ble_eq_true rfl) (jp_31_11 cI cL ad σ319 τ x8) (hts _ kw_28_7) (fun _ h9 => h9) rfl (by decide +kernel) rfl rfl dX1_grow_75 (fun σ320 H locs eσ320 hP hS => ?_)
      refine lv_aload_n hx hb dX1_grow_78 rfl (lv_at hl 2 rfl) ?_
      refine lv_iload hx hb dX1_grow_79 (lv_at hl 0 rfl) ?_
      refine jput (ty := .boolean) hx hb hts inlX1 tyX1 tyX1_ok nmX1 hown hK hP hJ hA hS (jc_31 cI cL ad σ320 τ) rfl (k := 12) (of_decide_eq_true rfl) (Nat.le_of_ble_eq_true rfl) (jp_31_12 cI cL ad σ320 τ 0) (hts _ kw_28_8) (fun _ h9 => h9) rfl (by decide +kernel) rfl rfl dX1_grow_81 (fun σ321 H locs eσ321 hP hS => ?_)
      refine lv_aload_n hx hb dX1_grow_84 rfl (lv_at hl 2 rfl) ?_
      refine lv_iconst (v := 0) hx hb dX1_grow_85 (of_decide_eq_true rfl) ?_
      refine jput (ty := .int) hx hb hts inlX1 tyX1 tyX1_ok nmX1 hown hK hP hJ hA hS (jc_31 cI cL ad σ321 τ) rfl (k := 8) (of_decide_eq_true rfl) (Nat.le_of_ble_eq_true rfl) (jp_31_8 cI cL ad σ321 τ 0) (hts _ kw_27_22) (fun _ h9 => h9) rfl (by decide +kernel) rfl rfl dX1_grow_86 (fun σ322 H locs eσ322 hP hS => ?_)
      refine lv_aload_n hx hb dX1_grow_89 rfl (lv_at hl 2 rfl) ?_
      refine lv_iload_n hx hb dX1_grow_90 rfl (lv_at hl 3 rfl) ?_
      refine lv_iconst (v := 0) hx hb dX1_grow_91 (of_decide_eq_true rfl) ?_
      have z323 : (σ322 31 8).toInt = 0 := ((congrArg Int32.toInt (show σ322 31 8 = 0 from (jsp eσ322))).trans jz_0)
      have w324 : ∀ k : Nat, k < 1400 → (-1) ≤ (σ322 33 k).toInt ∧ (σ322 33 k).toInt ≤ 350 := (jrr_fr (jnp 33 eσ322 (of_decide_eq_true rfl)) (jrr_fr (jnp 33 eσ321 (of_decide_eq_true rfl)) (jrr_fr (jnp 33 eσ320 (of_decide_eq_true rfl)) (jrr_fr (jnp 33 eσ319 (of_decide_eq_true rfl)) (jrr_fr (jnp 33 eσ318 (of_decide_eq_true rfl)) w2)))))
      have w325 : ∀ k : Nat, k < 1024 → 0 ≤ (σ322 36 k).toInt ∧ (σ322 36 k).toInt ≤ 349 := (jrr_fr (jnp 36 eσ322 (of_decide_eq_true rfl)) (jrr_fr (jnp 36 eσ321 (of_decide_eq_true rfl)) (jrr_fr (jnp 36 eσ320 (of_decide_eq_true rfl)) (jrr_fr (jnp 36 eσ319 (of_decide_eq_true rfl)) (jrr_fr (jnp 36 eσ318 (of_decide_eq_true rfl)) w3)))))
      exact by
       have I326 : jI31 σ322 := ⟨(by omega), w324, w325⟩
       refine jcallV (As := [.int a1, .int 0]) (rest := []) ⟨hx, hb, hml, hown, hts⟩ hK hP hA hS hZ (c_X1_add_31 l D cI cL ad zz hJ σ322 τ a1 (A1) t1 0 (0) jz_0 I326) cw_RX1_111 (jc_31 cI cL ad σ322 τ) rfl ⟨Nat.le_of_ble_eq_true rfl, Nat.le_of_ble_eq_true rfl⟩ rfl rfl rfl hl.1 rfl (Nat.le_of_ble_eq_true rfl) dX1_grow_92 ⟨Nat.zero_le _, Nat.zero_le _⟩ (fun r328 σ327 τ327 H locs h327 hP hS => ?_)
       obtain ⟨rfl, f329, f330, I331, h327⟩ := h327
       obtain ⟨i333, w334, w335⟩ : (0 ≤ (σ327 31 8).toInt ∧ (σ327 31 8).toInt ≤ 350) ∧ (∀ k : Nat, k < 1400 → (-1) ≤ (σ327 33 k).toInt ∧ (σ327 33 k).toInt ≤ 350) ∧ (∀ k : Nat, k < 1024 → 0 ≤ (σ327 36 k).toInt ∧ (σ327 36 k).toInt ≤ 349) := id I331
       have h336 := h327
       obtain ⟨q338, k337⟩ := h336
       refine lv_pop hx hb dX1_grow_95 rfl ?_
       refine lv_iconst (v := 0) hx hb dX1_grow_96 (of_decide_eq_true rfl) ?_
       refine lv_istore (lv' := [(5, .int 0), (4, .int 0), (3, .int x8), (0, .ref (ad 31)), (1, .int a1), (2, .int a2)]) hx hb dX1_grow_97 hl (of_decide_eq_true rfl) rfl (fun ls hl => ?_)
       have lp339 : ∀ (n340 : Nat) (x341 : Int32) (σ345 : Nat → Nat → Int32) (H : Heap) (locs : List Loc) (ls : Array Slot), (-x341.toInt + 350 : Int) < n340 → 0 ≤ x341.toInt → x341.toInt ≤ 350 → (∀ i : Nat, (i < 31 ∨ 33 < i) ∧ (i < 36 ∨ 37 < i) → σ345 i = σ327 i) → (∀ k : Nat, (k < 8 ∨ 8 < k) → σ345 31 k = σ327 31 k) → jI31 σ345 → jH D cI cL ad σ345 τ H → va_S (jA ad) s.heap H locs → lv_has ls 9 [(5, .int x341), (4, .int 0), (3, .int x8), (0, .ref (ad 31)), (1, .int a1), (2, .int a2)] → W p l e ({ frames := 3, cells := 0, slots := 0, locals := 73 }) s m args below meth c H locs 0 0 Q (F0 m 99 ls []) := by
         intro n340
         induction n340 with
         | zero => intro x341 σ345 H locs ls h347 h348 h349; exact absurd h347 (by omega)
         | succ n340 ihlp339 =>
           intro x341 σ345 H locs ls h347 h348 h349 f350 f351 p352 hP hS hl
           exact by
            obtain ⟨i353, w354, w355⟩ : (0 ≤ (σ345 31 8).toInt ∧ (σ345 31 8).toInt ≤ 350) ∧ (∀ k : Nat, k < 1400 → (-1) ≤ (σ345 33 k).toInt ∧ (σ345 33 k).toInt ≤ 350) ∧ (∀ k : Nat, k < 1024 → 0 ≤ (σ345 36 k).toInt ∧ (σ345 36 k).toInt ≤ 349) := id p352
            refine lv_iload hx hb dX1_grow_99 (lv_at hl 0 rfl) ?_
            refine lv_aload_n hx hb dX1_grow_101 rfl (lv_at hl 3 rfl) ?_
            refine va_get (D := D) hx hb hts inlX1 hown hK hP 31 (jc_31 cI cL ad σ345 τ) rfl 8 (of_decide_eq_true rfl) (hts _ kw_27_22) (fun _ h9 => h9) rfl dX1_grow_102 ?_
            refine lv_icmp_ge (tgt := 202) hx hb dX1_grow_105 (of_decide_eq_true rfl) (fun c356 => ?_) (fun c356 => ?_)
            · have kc356 := jle c356 rfl rfl
              exact hret σ345 τ _ _ _ _ ⟨rfl, (fun i hi => ((f350 i hi).trans ((f329 i (imp_86 i hi)).trans ((jnp i eσ322 (imp_87 i hi)).trans ((jnp i eσ321 (imp_87 i hi)).trans ((jnp i eσ320 (imp_87 i hi)).trans ((jnp i eσ319 (imp_87 i hi)).trans (jnp i eσ318 (imp_87 i hi))))))))), (fun i hi => ((f351 i (imp_88 i hi)).trans ((f330 i (imp_88 i hi)).trans ((jkp i eσ322 (imp_89 i hi)).trans ((jkp i eσ321 (imp_90 i hi)).trans ((jkp i eσ320 (imp_91 i hi)).trans ((jkp i eσ319 (imp_92 i hi)).trans (jkp i eσ318 (imp_93 i hi))))))))), p352, trivial⟩ hP hS dX1_grow_202
            · have kc356 := jnle c356 rfl rfl
              refine lv_iload hx hb dX1_grow_108 (lv_at hl 0 rfl) ?_
              refine lv_sipush (v := 350) hx hb dX1_grow_110 (of_decide_eq_true rfl) ?_
              exact by
               refine lv_icmp_ge (tgt := 202) hx hb dX1_grow_113 (of_decide_eq_true rfl) (fun c => absurd (jle c jz_350 rfl) (by omega)) (fun c357 => ?_)
               have kc357 := jnle c357 jz_350 rfl
               refine lv_aload_n hx hb dX1_grow_116 rfl (lv_at hl 3 rfl) ?_
               refine va_get (D := D) hx hb hts inlX1 hown hK hP 31 (jc_31 cI cL ad σ345 τ) rfl 2 (of_decide_eq_true rfl) (hts _ kw_5_3) (fun _ h9 => h9) rfl dX1_grow_117 ?_
               refine lv_iload hx hb dX1_grow_120 (lv_at hl 0 rfl) ?_
               refine jald hx hb hK hP (jc_32 cI cL ad σ345 τ) (jin rfl (by omega) (by omega)) dX1_grow_122 ?_
               refine lv_topi (fun x358 ex358 => ?_)
               refine lv_ldc (v := 134217727) hx hb hown (hts _ kw_28_10) dX1_grow_123 ?_
               refine lv_iand hx hb dX1_grow_125 ?_
               exact by
                refine lv_topi (fun x359 ex359 => ?_)
                have gx359 := jrg (rfl : x359.toInt = x359.toInt)
                have g360 : 0 ≤ x359.toInt ∧ x359.toInt ≤ 134217727 := jmask ex359 27 (of_decide_eq_true rfl) (of_decide_eq_true rfl)
                refine lv_istore (lv' := [(6, .int x359), (5, .int x341), (4, .int 0), (3, .int x8), (0, .ref (ad 31)), (1, .int a1), (2, .int a2)]) hx hb dX1_grow_126 hl (of_decide_eq_true rfl) rfl (fun ls hl => ?_)
                refine lv_aload_n hx hb dX1_grow_128 rfl (lv_at hl 4 rfl) ?_
                refine va_get (D := D) hx hb hts inlX1 hown hK hP 31 (jc_31 cI cL ad σ345 τ) rfl 2 (of_decide_eq_true rfl) (hts _ kw_5_3) (fun _ h9 => h9) rfl dX1_grow_129 ?_
                refine lv_iload hx hb dX1_grow_132 (lv_at hl 1 rfl) ?_
                refine jald hx hb hK hP (jc_32 cI cL ad σ345 τ) (jin rfl (by omega) (by omega)) dX1_grow_134 ?_
                refine lv_topi (fun x361 ex361 => ?_)
                exact by
                 refine lv_bipush (v := 27) hx hb dX1_grow_135 (of_decide_eq_true rfl) ?_
                 refine lv_ishr hx hb dX1_grow_137 ?_
                 refine lv_topi (fun x362 ex362 => ?_)
                 have gx362 := jrg (rfl : x362.toInt = x362.toInt)
                 refine lv_istore (lv' := [(7, .int x362), (6, .int x359), (5, .int x341), (4, .int 0), (3, .int x8), (0, .ref (ad 31)), (1, .int a1), (2, .int a2)]) hx hb dX1_grow_138 hl (of_decide_eq_true rfl) rfl (fun ls hl => ?_)
                 refine lv_iconst (v := 0) hx hb dX1_grow_140 (of_decide_eq_true rfl) ?_
                 refine lv_istore (lv' := [(8, .int 0), (7, .int x362), (6, .int x359), (5, .int x341), (4, .int 0), (3, .int x8), (0, .ref (ad 31)), (1, .int a1), (2, .int a2)]) hx hb dX1_grow_141 hl (of_decide_eq_true rfl) rfl (fun ls hl => ?_)
                 have lp363 : ∀ (n364 : Nat) (x365 : Int32) (σ366 : Nat → Nat → Int32) (H : Heap) (locs : List Loc) (ls : Array Slot), (-x365.toInt + 4 : Int) < n364 → 0 ≤ x365.toInt → x365.toInt ≤ 4 → (∀ i : Nat, (i < 31 ∨ 33 < i) ∧ (i < 36 ∨ 37 < i) → σ366 i = σ345 i) → (∀ k : Nat, (k < 8 ∨ 8 < k) → σ366 31 k = σ345 31 k) → jI31 σ366 → jH D cI cL ad σ366 τ H → va_S (jA ad) s.heap H locs → lv_has ls 9 [(8, .int x365), (7, .int x362), (6, .int x359), (5, .int x341), (4, .int 0), (3, .int x8), (0, .ref (ad 31)), (1, .int a1), (2, .int a2)] → W p l e ({ frames := 3, cells := 0, slots := 0, locals := 73 }) s m args below meth c H locs 0 0 Q (F0 m 143 ls []) := by
                   intro n364
                   induction n364 with
                   | zero => intro x365 σ366 H locs ls h368 h369 h370; exact absurd h368 (by omega)
                   | succ n364 ihlp363 =>
                     intro x365 σ366 H locs ls h368 h369 h370 f371 f372 p373 hP hS hl
                     exact by
                      obtain ⟨i374, w375, w376⟩ : (0 ≤ (σ366 31 8).toInt ∧ (σ366 31 8).toInt ≤ 350) ∧ (∀ k : Nat, k < 1400 → (-1) ≤ (σ366 33 k).toInt ∧ (σ366 33 k).toInt ≤ 350) ∧ (∀ k : Nat, k < 1024 → 0 ≤ (σ366 36 k).toInt ∧ (σ366 36 k).toInt ≤ 349) := id p373
                      refine lv_iload hx hb dX1_grow_143 (lv_at hl 0 rfl) ?_
                      refine lv_iconst (v := 4) hx hb dX1_grow_145 (of_decide_eq_true rfl) ?_
                      refine lv_icmp_ge (tgt := 196) hx hb dX1_grow_146 (of_decide_eq_true rfl) (fun c377 => ?_) (fun c377 => ?_)
                      · have kc377 := jle c377 jz_4 rfl
                        obtain ⟨x378, ex378⟩ : ∃ y : Int32, y = x341 + 1 := ⟨_, rfl⟩
                        have tx378 : x378.toInt = x341.toInt + 1 := (jadd ex378 rfl jz_1 (by omega) (by omega)).trans (by omega)
                        refine lv_iinc (v := x378) (lv' := [(5, .int x378), (8, .int x365), (7, .int x362), (6, .int x359), (4, .int 0), (3, .int x8), (0, .ref (ad 31)), (1, .int a1), (2, .int a2)]) hx hb dX1_grow_196 hl (k := 3) rfl (by rw [ex378]; rfl) (of_decide_eq_true rfl) rfl (fun ls hl => ?_)
                        refine lv_goto (tgt := 99) hx hb dX1_grow_199 (of_decide_eq_true rfl) ?_
                        exact by exact ihlp339 x378 σ366 _ _ ls (by have h90 := tx378; omega) (by have h90 := tx378; omega) (by have h90 := tx378; omega) (fun i hi => ((f371 i hi).trans (f350 i hi))) (fun i hi => ((f372 i hi).trans (f351 i hi)))  p373 hP hS (lv_sub hl [0, 4, 5, 6, 7, 8] rfl)
                      · exact by
                         have kc377 := jnle c377 jz_4 rfl
                         refine lv_aload_n hx hb dX1_grow_149 rfl (lv_at hl 6 rfl) ?_
                         refine va_get (D := D) hx hb hts inlX1 hown hK hP 31 (jc_31 cI cL ad σ366 τ) rfl 3 (of_decide_eq_true rfl) (hts _ kw_5_4) (fun _ h9 => h9) rfl dX1_grow_150 ?_
                         refine lv_iload hx hb dX1_grow_153 (lv_at hl 3 rfl) ?_
                         refine lv_iconst (v := 4) hx hb dX1_grow_155 (of_decide_eq_true rfl) ?_
                         have g379 := jrg (rfl : x341.toInt = x341.toInt)
                         refine lv_imul hx hb dX1_grow_156 ?_
                         refine lv_topi (fun x380 ex380 => ?_)
                         have tx380 : x380.toInt = 4 * x341.toInt := (jmul ex380 rfl jz_4 (by omega) (by omega)).trans (by omega)
                         exact by
                          refine lv_iload hx hb dX1_grow_157 (lv_at hl 0 rfl) ?_
                          have g381 := jrg (rfl : x365.toInt = x365.toInt)
                          refine lv_iadd hx hb dX1_grow_159 ?_
                          refine lv_topi (fun x382 ex382 => ?_)
                          have tx382 : x382.toInt = 4 * x341.toInt + x365.toInt := (jadd ex382 tx380 rfl (by omega) (by omega)).trans (by omega)
                          refine lv_iload hx hb dX1_grow_160 (lv_at hl 2 rfl) ?_
                          refine lv_iload hx hb dX1_grow_162 (lv_at hl 0 rfl) ?_
                          refine jcallS (As := [.int x359, .int x365]) (rest := [.int x382, .ref (ad 33)]) ⟨hx, hb, hml, hown, hts⟩ hK hP hA hS hZ (c_X0_mayBowl l D cI cL ad zz hJ σ366 τ x359 (x359.toInt) rfl x365 (x365.toInt) rfl) cw_RX1_115 ⟨Nat.le_of_ble_eq_true rfl, Nat.le_of_ble_eq_true rfl⟩ rfl rfl rfl hl.1 rfl (Nat.le_of_ble_eq_true rfl) dX1_grow_164 ⟨Nat.zero_le _, Nat.zero_le _⟩ (fun r384 σ383 τ383 H locs h383 hP hS => ?_)
                          obtain ⟨⟨rfl, rfl⟩, w385, h383⟩ := h383
                          exact by
                           refine lv_if_eq (tgt := 188) hx hb dX1_grow_167 (of_decide_eq_true rfl) (fun c386 => ?_) (fun c386 => ?_)
                           · have kc386 := jeq c386 rfl jz_0
                             refine lv_iconst (v := (-1)) hx hb dX1_grow_188 (of_decide_eq_true rfl) ?_
                             refine jast hx hb hK hP hJ hA hS (jc_33 cI cL ad σ366 τ) (ja_33 cI cL ad σ366 τ _ _) (jin tx382 (by omega) (by omega)) dX1_grow_189 (fun σ387 H locs eσ387 hP hS => ?_)
                             obtain ⟨x388, ex388⟩ : ∃ y : Int32, y = x365 + 1 := ⟨_, rfl⟩
                             have tx388 : x388.toInt = x365.toInt + 1 := (jadd ex388 rfl jz_1 (by omega) (by omega)).trans (by omega)
                             refine lv_iinc (v := x388) (lv' := [(8, .int x388), (7, .int x362), (6, .int x359), (5, .int x341), (4, .int 0), (3, .int x8), (0, .ref (ad 31)), (1, .int a1), (2, .int a2)]) hx hb dX1_grow_190 hl (k := 0) rfl (by rw [ex388]; rfl) (of_decide_eq_true rfl) rfl (fun ls hl => ?_)
                             refine lv_goto (tgt := 143) hx hb dX1_grow_193 (of_decide_eq_true rfl) ?_
                             have z389 : (σ387 31 8).toInt = (σ366 31 8).toInt := (congrArg Int32.toInt (show σ387 31 8 = (σ366 31 8) from (congrFun (jnp 31 eσ387 (of_decide_eq_true rfl)) 8)))
                             exact by
                              have w390 : ∀ k : Nat, k < 1400 → (-1) ≤ (σ387 33 k).toInt ∧ (σ387 33 k).toInt ≤ 350 := (by rw [eσ387]; exact jrr_up w375 (by have h9 := jz_m1; omega) (by have h9 := jz_m1; omega))
                              have w391 : ∀ k : Nat, k < 1024 → 0 ≤ (σ387 36 k).toInt ∧ (σ387 36 k).toInt ≤ 349 := (jrr_fr (jnp 36 eσ387 (of_decide_eq_true rfl)) w376)
                              have I392 : jI31 σ387 := ⟨(by omega), w390, w391⟩
                              exact by exact ihlp363 x388 σ387 _ _ ls (by have h90 := tx388; omega) (by have h90 := tx388; omega) (by have h90 := tx388; omega) (fun i hi => ((jnp i eσ387 (imp_94 i hi)).trans (f371 i hi))) (fun i hi => ((congrFun (jnp 31 eσ387 (of_decide_eq_true rfl)) i).trans (f372 i hi)))  I392 hP hS (lv_sub hl [0, 1, 2, 3, 4, 5, 6, 7, 8] rfl)
                           · have kc386 := jne c386 rfl jz_0
                             refine lv_aload_n hx hb dX1_grow_170 rfl (lv_at hl 6 rfl) ?_
                             refine lv_iload hx hb dX1_grow_171 (lv_at hl 2 rfl) ?_
                             refine lv_iload hx hb dX1_grow_173 (lv_at hl 0 rfl) ?_
                             refine jcallS (As := [.int x359, .int x365]) (rest := [.ref (ad 31), .int x382, .ref (ad 33)]) ⟨hx, hb, hml, hown, hts⟩ hK hP hA hS hZ (c_X0_after l D cI cL ad zz hJ σ366 τ x359 (x359.toInt) rfl x365 (x365.toInt) rfl) cw_RX1_119 ⟨Nat.le_of_ble_eq_true rfl, Nat.le_of_ble_eq_true rfl⟩ rfl rfl rfl hl.1 rfl (Nat.le_of_ble_eq_true rfl) dX1_grow_175 ⟨Nat.zero_le _, Nat.zero_le _⟩ (fun r394 σ393 τ393 H locs h393 hP hS => ?_)
                             exact by
                              obtain ⟨⟨rfl, rfl⟩, w395, h393⟩ := h393
                              refine lv_iload hx hb dX1_grow_178 (lv_at hl 1 rfl) ?_
                              refine lv_iconst (v := 1) hx hb dX1_grow_180 (of_decide_eq_true rfl) ?_
                              have g396 := jrg (rfl : x362.toInt = x362.toInt)
                              refine lv_iadd hx hb dX1_grow_181 ?_
                              refine lv_topi (fun x397 ex397 => ?_)
                              have gx397 := jrg (rfl : x397.toInt = x397.toInt)
                              refine jcallV (As := [.int r394, .int x397]) (rest := [.int x382, .ref (ad 33)]) ⟨hx, hb, hml, hown, hts⟩ hK hP hA hS hZ (c_X1_add_31 l D cI cL ad zz hJ σ366 τ r394 (r394.toInt) rfl x397 (x397.toInt) rfl p373) cw_RX1_111 (jc_31 cI cL ad σ366 τ) rfl ⟨Nat.le_of_ble_eq_true rfl, Nat.le_of_ble_eq_true rfl⟩ rfl rfl rfl hl.1 rfl (Nat.le_of_ble_eq_true rfl) dX1_grow_182 ⟨Nat.zero_le _, Nat.zero_le _⟩ (fun r399 σ398 τ398 H locs h398 hP hS => ?_)
                              obtain ⟨rfl, f400, f401, I402, h398⟩ := h398
                              obtain ⟨i404, w405, w406⟩ : (0 ≤ (σ398 31 8).toInt ∧ (σ398 31 8).toInt ≤ 350) ∧ (∀ k : Nat, k < 1400 → (-1) ≤ (σ398 33 k).toInt ∧ (σ398 33 k).toInt ≤ 350) ∧ (∀ k : Nat, k < 1024 → 0 ≤ (σ398 36 k).toInt ∧ (σ398 36 k).toInt ≤ 349) := id I402
                              have h407 := h398
                              obtain ⟨q409, k408⟩ := h407
                              refine lv_goto (tgt := 189) hx hb dX1_grow_185 (of_decide_eq_true rfl) ?_
                              exact by
                               refine jast hx hb hK hP hJ hA hS (jc_33 cI cL ad σ398 τ) (ja_33 cI cL ad σ398 τ _ _) (jin tx382 (by omega) (by omega)) dX1_grow_189 (fun σ410 H locs eσ410 hP hS => ?_)
                               obtain ⟨x411, ex411⟩ : ∃ y : Int32, y = x365 + 1 := ⟨_, rfl⟩
                               have tx411 : x411.toInt = x365.toInt + 1 := (jadd ex411 rfl jz_1 (by omega) (by omega)).trans (by omega)
                               refine lv_iinc (v := x411) (lv' := [(8, .int x411), (7, .int x362), (6, .int x359), (5, .int x341), (4, .int 0), (3, .int x8), (0, .ref (ad 31)), (1, .int a1), (2, .int a2)]) hx hb dX1_grow_190 hl (k := 0) rfl (by rw [ex411]; rfl) (of_decide_eq_true rfl) rfl (fun ls hl => ?_)
                               refine lv_goto (tgt := 143) hx hb dX1_grow_193 (of_decide_eq_true rfl) ?_
                               have z412 : (σ410 31 8).toInt = (σ398 31 8).toInt := (congrArg Int32.toInt (show σ410 31 8 = (σ398 31 8) from (congrFun (jnp 31 eσ410 (of_decide_eq_true rfl)) 8)))
                               have w413 : ∀ k : Nat, k < 1400 → (-1) ≤ (σ410 33 k).toInt ∧ (σ410 33 k).toInt ≤ 350 := (by rw [eσ410]; exact jrr_up w405 (by omega) (by omega))
                               have w414 : ∀ k : Nat, k < 1024 → 0 ≤ (σ410 36 k).toInt ∧ (σ410 36 k).toInt ≤ 349 := (jrr_fr (jnp 36 eσ410 (of_decide_eq_true rfl)) w406)
                               have I415 : jI31 σ410 := ⟨(by omega), w413, w414⟩
                               exact by exact ihlp363 x411 σ410 _ _ ls (by have h90 := tx411; omega) (by have h90 := tx411; omega) (by have h90 := tx411; omega) (fun i hi => ((jnp i eσ410 (imp_94 i hi)).trans ((f400 i (imp_86 i hi)).trans (f371 i hi)))) (fun i hi => ((congrFun (jnp 31 eσ410 (of_decide_eq_true rfl)) i).trans ((f401 i hi).trans (f372 i hi))))  I415 hP hS (lv_sub hl [0, 1, 2, 3, 4, 5, 6, 7, 8] rfl)
                 exact by exact lp363 1000000 0 σ345 _ _ ls (by have h90 := jz_0; omega) (by have h90 := jz_0; omega) (by have h90 := jz_0; omega) (fun _ _ => rfl) (fun _ _ => rfl)  p352 hP hS hl
       exact by exact lp339 1000000 0 σ327 _ _ ls (by have h90 := jz_0; omega) (by have h90 := jz_0; omega) (by have h90 := jz_0; omega) (fun _ _ => rfl) (fun _ _ => rfl)  I331 hP hS hl
    · exact by
       have kc317 := jeq c317 rfl t1
       refine lv_aload_n hx hb dX1_grow_40 rfl (lv_at hl 2 rfl) ?_
       refine va_get (D := D) hx hb hts inlX1 hown hK hP 31 (jc_31 cI cL ad σ τ) rfl 11 (of_decide_eq_true rfl) (hts _ kw_28_7) (fun _ h9 => h9) rfl dX1_grow_41 ?_
       refine lv_iload_n hx hb dX1_grow_44 rfl (lv_at hl 1 rfl) ?_
       refine lv_icmp_ne (tgt := 63) hx hb dX1_grow_45 (of_decide_eq_true rfl) (fun c416 => ?_) (fun c416 => ?_)
       · have kc416 := jne c416 rfl rfl
         refine lv_aload_n hx hb dX1_grow_63 rfl (lv_at hl 2 rfl) ?_
         refine lv_iload_n hx hb dX1_grow_64 rfl (lv_at hl 3 rfl) ?_
         refine jput (ty := .int) hx hb hts inlX1 tyX1 tyX1_ok nmX1 hown hK hP hJ hA hS (jc_31 cI cL ad σ τ) rfl (k := 9) (of_decide_eq_true rfl) (Nat.le_of_ble_eq_true rfl) (jp_31_9 cI cL ad σ τ a1) (hts _ kw_5_9) (fun _ h9 => h9) rfl (by decide +kernel) rfl rfl dX1_grow_65 (fun σ417 H locs eσ417 hP hS => ?_)
         refine lv_aload_n hx hb dX1_grow_68 rfl (lv_at hl 2 rfl) ?_
         refine lv_iload_n hx hb dX1_grow_69 rfl (lv_at hl 4 rfl) ?_
         refine jput (ty := .int) hx hb hts inlX1 tyX1 tyX1_ok nmX1 hown hK hP hJ hA hS (jc_31 cI cL ad σ417 τ) rfl (k := 10) (of_decide_eq_true rfl) (Nat.le_of_ble_eq_true rfl) (jp_31_10 cI cL ad σ417 τ a2) (hts _ kw_28_9) (fun _ h9 => h9) rfl (by decide +kernel) rfl rfl dX1_grow_70 (fun σ418 H locs eσ418 hP hS => ?_)
         refine lv_aload_n hx hb dX1_grow_73 rfl (lv_at hl 2 rfl) ?_
         refine lv_iload_n hx hb dX1_grow_74 rfl (lv_at hl 1 rfl) ?_
         refine jput (ty := .int) hx hb hts inlX1 tyX1 tyX1_ok nmX1 hown hK hP hJ hA hS (jc_31 cI cL ad σ418 τ) rfl (k := 11) (of_decide_eq_true rfl) (Nat.le_of_ble_eq_true rfl) (jp_31_11 cI cL ad σ418 τ x8) (hts _ kw_28_7) (fun _ h9 => h9) rfl (by decide +kernel) rfl rfl dX1_grow_75 (fun σ419 H locs eσ419 hP hS => ?_)
         refine lv_aload_n hx hb dX1_grow_78 rfl (lv_at hl 2 rfl) ?_
         refine lv_iload hx hb dX1_grow_79 (lv_at hl 0 rfl) ?_
         refine jput (ty := .boolean) hx hb hts inlX1 tyX1 tyX1_ok nmX1 hown hK hP hJ hA hS (jc_31 cI cL ad σ419 τ) rfl (k := 12) (of_decide_eq_true rfl) (Nat.le_of_ble_eq_true rfl) (jp_31_12 cI cL ad σ419 τ 0) (hts _ kw_28_8) (fun _ h9 => h9) rfl (by decide +kernel) rfl rfl dX1_grow_81 (fun σ420 H locs eσ420 hP hS => ?_)
         refine lv_aload_n hx hb dX1_grow_84 rfl (lv_at hl 2 rfl) ?_
         refine lv_iconst (v := 0) hx hb dX1_grow_85 (of_decide_eq_true rfl) ?_
         refine jput (ty := .int) hx hb hts inlX1 tyX1 tyX1_ok nmX1 hown hK hP hJ hA hS (jc_31 cI cL ad σ420 τ) rfl (k := 8) (of_decide_eq_true rfl) (Nat.le_of_ble_eq_true rfl) (jp_31_8 cI cL ad σ420 τ 0) (hts _ kw_27_22) (fun _ h9 => h9) rfl (by decide +kernel) rfl rfl dX1_grow_86 (fun σ421 H locs eσ421 hP hS => ?_)
         refine lv_aload_n hx hb dX1_grow_89 rfl (lv_at hl 2 rfl) ?_
         refine lv_iload_n hx hb dX1_grow_90 rfl (lv_at hl 3 rfl) ?_
         refine lv_iconst (v := 0) hx hb dX1_grow_91 (of_decide_eq_true rfl) ?_
         have z422 : (σ421 31 8).toInt = 0 := ((congrArg Int32.toInt (show σ421 31 8 = 0 from (jsp eσ421))).trans jz_0)
         have w423 : ∀ k : Nat, k < 1400 → (-1) ≤ (σ421 33 k).toInt ∧ (σ421 33 k).toInt ≤ 350 := (jrr_fr (jnp 33 eσ421 (of_decide_eq_true rfl)) (jrr_fr (jnp 33 eσ420 (of_decide_eq_true rfl)) (jrr_fr (jnp 33 eσ419 (of_decide_eq_true rfl)) (jrr_fr (jnp 33 eσ418 (of_decide_eq_true rfl)) (jrr_fr (jnp 33 eσ417 (of_decide_eq_true rfl)) w2)))))
         have w424 : ∀ k : Nat, k < 1024 → 0 ≤ (σ421 36 k).toInt ∧ (σ421 36 k).toInt ≤ 349 := (jrr_fr (jnp 36 eσ421 (of_decide_eq_true rfl)) (jrr_fr (jnp 36 eσ420 (of_decide_eq_true rfl)) (jrr_fr (jnp 36 eσ419 (of_decide_eq_true rfl)) (jrr_fr (jnp 36 eσ418 (of_decide_eq_true rfl)) (jrr_fr (jnp 36 eσ417 (of_decide_eq_true rfl)) w3)))))
         exact by
          have I425 : jI31 σ421 := ⟨(by omega), w423, w424⟩
          refine jcallV (As := [.int a1, .int 0]) (rest := []) ⟨hx, hb, hml, hown, hts⟩ hK hP hA hS hZ (c_X1_add_31 l D cI cL ad zz hJ σ421 τ a1 (A1) t1 0 (0) jz_0 I425) cw_RX1_111 (jc_31 cI cL ad σ421 τ) rfl ⟨Nat.le_of_ble_eq_true rfl, Nat.le_of_ble_eq_true rfl⟩ rfl rfl rfl hl.1 rfl (Nat.le_of_ble_eq_true rfl) dX1_grow_92 ⟨Nat.zero_le _, Nat.zero_le _⟩ (fun r427 σ426 τ426 H locs h426 hP hS => ?_)
          obtain ⟨rfl, f428, f429, I430, h426⟩ := h426
          obtain ⟨i432, w433, w434⟩ : (0 ≤ (σ426 31 8).toInt ∧ (σ426 31 8).toInt ≤ 350) ∧ (∀ k : Nat, k < 1400 → (-1) ≤ (σ426 33 k).toInt ∧ (σ426 33 k).toInt ≤ 350) ∧ (∀ k : Nat, k < 1024 → 0 ≤ (σ426 36 k).toInt ∧ (σ426 36 k).toInt ≤ 349) := id I430
          have h435 := h426
          obtain ⟨q437, k436⟩ := h435
          refine lv_pop hx hb dX1_grow_95 rfl ?_
          refine lv_iconst (v := 0) hx hb dX1_grow_96 (of_decide_eq_true rfl) ?_
          refine lv_istore (lv' := [(5, .int 0), (4, .int 0), (3, .int x8), (0, .ref (ad 31)), (1, .int a1), (2, .int a2)]) hx hb dX1_grow_97 hl (of_decide_eq_true rfl) rfl (fun ls hl => ?_)
          have lp438 : ∀ (n439 : Nat) (x440 : Int32) (σ444 : Nat → Nat → Int32) (H : Heap) (locs : List Loc) (ls : Array Slot), (-x440.toInt + 350 : Int) < n439 → 0 ≤ x440.toInt → x440.toInt ≤ 350 → (∀ i : Nat, (i < 31 ∨ 33 < i) ∧ (i < 36 ∨ 37 < i) → σ444 i = σ426 i) → (∀ k : Nat, (k < 8 ∨ 8 < k) → σ444 31 k = σ426 31 k) → jI31 σ444 → jH D cI cL ad σ444 τ H → va_S (jA ad) s.heap H locs → lv_has ls 9 [(5, .int x440), (4, .int 0), (3, .int x8), (0, .ref (ad 31)), (1, .int a1), (2, .int a2)] → W p l e ({ frames := 3, cells := 0, slots := 0, locals := 73 }) s m args below meth c H locs 0 0 Q (F0 m 99 ls []) := by
            intro n439
            induction n439 with
            | zero => intro x440 σ444 H locs ls h446 h447 h448; exact absurd h446 (by omega)
            | succ n439 ihlp438 =>
              intro x440 σ444 H locs ls h446 h447 h448 f449 f450 p451 hP hS hl
              exact by
               obtain ⟨i452, w453, w454⟩ : (0 ≤ (σ444 31 8).toInt ∧ (σ444 31 8).toInt ≤ 350) ∧ (∀ k : Nat, k < 1400 → (-1) ≤ (σ444 33 k).toInt ∧ (σ444 33 k).toInt ≤ 350) ∧ (∀ k : Nat, k < 1024 → 0 ≤ (σ444 36 k).toInt ∧ (σ444 36 k).toInt ≤ 349) := id p451
               refine lv_iload hx hb dX1_grow_99 (lv_at hl 0 rfl) ?_
               refine lv_aload_n hx hb dX1_grow_101 rfl (lv_at hl 3 rfl) ?_
               refine va_get (D := D) hx hb hts inlX1 hown hK hP 31 (jc_31 cI cL ad σ444 τ) rfl 8 (of_decide_eq_true rfl) (hts _ kw_27_22) (fun _ h9 => h9) rfl dX1_grow_102 ?_
               refine lv_icmp_ge (tgt := 202) hx hb dX1_grow_105 (of_decide_eq_true rfl) (fun c455 => ?_) (fun c455 => ?_)
               · have kc455 := jle c455 rfl rfl
                 exact hret σ444 τ _ _ _ _ ⟨rfl, (fun i hi => ((f449 i hi).trans ((f428 i (imp_86 i hi)).trans ((jnp i eσ421 (imp_87 i hi)).trans ((jnp i eσ420 (imp_87 i hi)).trans ((jnp i eσ419 (imp_87 i hi)).trans ((jnp i eσ418 (imp_87 i hi)).trans (jnp i eσ417 (imp_87 i hi))))))))), (fun i hi => ((f450 i (imp_88 i hi)).trans ((f429 i (imp_88 i hi)).trans ((jkp i eσ421 (imp_89 i hi)).trans ((jkp i eσ420 (imp_90 i hi)).trans ((jkp i eσ419 (imp_91 i hi)).trans ((jkp i eσ418 (imp_92 i hi)).trans (jkp i eσ417 (imp_93 i hi))))))))), p451, trivial⟩ hP hS dX1_grow_202
               · have kc455 := jnle c455 rfl rfl
                 refine lv_iload hx hb dX1_grow_108 (lv_at hl 0 rfl) ?_
                 refine lv_sipush (v := 350) hx hb dX1_grow_110 (of_decide_eq_true rfl) ?_
                 exact by
                  refine lv_icmp_ge (tgt := 202) hx hb dX1_grow_113 (of_decide_eq_true rfl) (fun c => absurd (jle c jz_350 rfl) (by omega)) (fun c456 => ?_)
                  have kc456 := jnle c456 jz_350 rfl
                  refine lv_aload_n hx hb dX1_grow_116 rfl (lv_at hl 3 rfl) ?_
                  refine va_get (D := D) hx hb hts inlX1 hown hK hP 31 (jc_31 cI cL ad σ444 τ) rfl 2 (of_decide_eq_true rfl) (hts _ kw_5_3) (fun _ h9 => h9) rfl dX1_grow_117 ?_
                  refine lv_iload hx hb dX1_grow_120 (lv_at hl 0 rfl) ?_
                  refine jald hx hb hK hP (jc_32 cI cL ad σ444 τ) (jin rfl (by omega) (by omega)) dX1_grow_122 ?_
                  refine lv_topi (fun x457 ex457 => ?_)
                  refine lv_ldc (v := 134217727) hx hb hown (hts _ kw_28_10) dX1_grow_123 ?_
                  refine lv_iand hx hb dX1_grow_125 ?_
                  exact by
                   refine lv_topi (fun x458 ex458 => ?_)
                   have gx458 := jrg (rfl : x458.toInt = x458.toInt)
                   have g459 : 0 ≤ x458.toInt ∧ x458.toInt ≤ 134217727 := jmask ex458 27 (of_decide_eq_true rfl) (of_decide_eq_true rfl)
                   refine lv_istore (lv' := [(6, .int x458), (5, .int x440), (4, .int 0), (3, .int x8), (0, .ref (ad 31)), (1, .int a1), (2, .int a2)]) hx hb dX1_grow_126 hl (of_decide_eq_true rfl) rfl (fun ls hl => ?_)
                   refine lv_aload_n hx hb dX1_grow_128 rfl (lv_at hl 4 rfl) ?_
                   refine va_get (D := D) hx hb hts inlX1 hown hK hP 31 (jc_31 cI cL ad σ444 τ) rfl 2 (of_decide_eq_true rfl) (hts _ kw_5_3) (fun _ h9 => h9) rfl dX1_grow_129 ?_
                   refine lv_iload hx hb dX1_grow_132 (lv_at hl 1 rfl) ?_
                   refine jald hx hb hK hP (jc_32 cI cL ad σ444 τ) (jin rfl (by omega) (by omega)) dX1_grow_134 ?_
                   refine lv_topi (fun x460 ex460 => ?_)
                   exact by
                    refine lv_bipush (v := 27) hx hb dX1_grow_135 (of_decide_eq_true rfl) ?_
                    refine lv_ishr hx hb dX1_grow_137 ?_
                    refine lv_topi (fun x461 ex461 => ?_)
                    have gx461 := jrg (rfl : x461.toInt = x461.toInt)
                    refine lv_istore (lv' := [(7, .int x461), (6, .int x458), (5, .int x440), (4, .int 0), (3, .int x8), (0, .ref (ad 31)), (1, .int a1), (2, .int a2)]) hx hb dX1_grow_138 hl (of_decide_eq_true rfl) rfl (fun ls hl => ?_)
                    refine lv_iconst (v := 0) hx hb dX1_grow_140 (of_decide_eq_true rfl) ?_
                    refine lv_istore (lv' := [(8, .int 0), (7, .int x461), (6, .int x458), (5, .int x440), (4, .int 0), (3, .int x8), (0, .ref (ad 31)), (1, .int a1), (2, .int a2)]) hx hb dX1_grow_141 hl (of_decide_eq_true rfl) rfl (fun ls hl => ?_)
                    have lp462 : ∀ (n463 : Nat) (x464 : Int32) (σ465 : Nat → Nat → Int32) (H : Heap) (locs : List Loc) (ls : Array Slot), (-x464.toInt + 4 : Int) < n463 → 0 ≤ x464.toInt → x464.toInt ≤ 4 → (∀ i : Nat, (i < 31 ∨ 33 < i) ∧ (i < 36 ∨ 37 < i) → σ465 i = σ444 i) → (∀ k : Nat, (k < 8 ∨ 8 < k) → σ465 31 k = σ444 31 k) → jI31 σ465 → jH D cI cL ad σ465 τ H → va_S (jA ad) s.heap H locs → lv_has ls 9 [(8, .int x464), (7, .int x461), (6, .int x458), (5, .int x440), (4, .int 0), (3, .int x8), (0, .ref (ad 31)), (1, .int a1), (2, .int a2)] → W p l e ({ frames := 3, cells := 0, slots := 0, locals := 73 }) s m args below meth c H locs 0 0 Q (F0 m 143 ls []) := by
                      intro n463
                      induction n463 with
                      | zero => intro x464 σ465 H locs ls h467 h468 h469; exact absurd h467 (by omega)
                      | succ n463 ihlp462 =>
                        intro x464 σ465 H locs ls h467 h468 h469 f470 f471 p472 hP hS hl
                        exact by
                         obtain ⟨i473, w474, w475⟩ : (0 ≤ (σ465 31 8).toInt ∧ (σ465 31 8).toInt ≤ 350) ∧ (∀ k : Nat, k < 1400 → (-1) ≤ (σ465 33 k).toInt ∧ (σ465 33 k).toInt ≤ 350) ∧ (∀ k : Nat, k < 1024 → 0 ≤ (σ465 36 k).toInt ∧ (σ465 36 k).toInt ≤ 349) := id p472
                         refine lv_iload hx hb dX1_grow_143 (lv_at hl 0 rfl) ?_
                         refine lv_iconst (v := 4) hx hb dX1_grow_145 (of_decide_eq_true rfl) ?_
                         refine lv_icmp_ge (tgt := 196) hx hb dX1_grow_146 (of_decide_eq_true rfl) (fun c476 => ?_) (fun c476 => ?_)
                         · have kc476 := jle c476 jz_4 rfl
                           obtain ⟨x477, ex477⟩ : ∃ y : Int32, y = x440 + 1 := ⟨_, rfl⟩
                           have tx477 : x477.toInt = x440.toInt + 1 := (jadd ex477 rfl jz_1 (by omega) (by omega)).trans (by omega)
                           refine lv_iinc (v := x477) (lv' := [(5, .int x477), (8, .int x464), (7, .int x461), (6, .int x458), (4, .int 0), (3, .int x8), (0, .ref (ad 31)), (1, .int a1), (2, .int a2)]) hx hb dX1_grow_196 hl (k := 3) rfl (by rw [ex477]; rfl) (of_decide_eq_true rfl) rfl (fun ls hl => ?_)
                           refine lv_goto (tgt := 99) hx hb dX1_grow_199 (of_decide_eq_true rfl) ?_
                           exact by exact ihlp438 x477 σ465 _ _ ls (by have h90 := tx477; omega) (by have h90 := tx477; omega) (by have h90 := tx477; omega) (fun i hi => ((f470 i hi).trans (f449 i hi))) (fun i hi => ((f471 i hi).trans (f450 i hi)))  p472 hP hS (lv_sub hl [0, 4, 5, 6, 7, 8] rfl)
                         · exact by
                            have kc476 := jnle c476 jz_4 rfl
                            refine lv_aload_n hx hb dX1_grow_149 rfl (lv_at hl 6 rfl) ?_
                            refine va_get (D := D) hx hb hts inlX1 hown hK hP 31 (jc_31 cI cL ad σ465 τ) rfl 3 (of_decide_eq_true rfl) (hts _ kw_5_4) (fun _ h9 => h9) rfl dX1_grow_150 ?_
                            refine lv_iload hx hb dX1_grow_153 (lv_at hl 3 rfl) ?_
                            refine lv_iconst (v := 4) hx hb dX1_grow_155 (of_decide_eq_true rfl) ?_
                            have g478 := jrg (rfl : x440.toInt = x440.toInt)
                            refine lv_imul hx hb dX1_grow_156 ?_
                            refine lv_topi (fun x479 ex479 => ?_)
                            have tx479 : x479.toInt = 4 * x440.toInt := (jmul ex479 rfl jz_4 (by omega) (by omega)).trans (by omega)
                            exact by
                             refine lv_iload hx hb dX1_grow_157 (lv_at hl 0 rfl) ?_
                             have g480 := jrg (rfl : x464.toInt = x464.toInt)
                             refine lv_iadd hx hb dX1_grow_159 ?_
                             refine lv_topi (fun x481 ex481 => ?_)
                             have tx481 : x481.toInt = 4 * x440.toInt + x464.toInt := (jadd ex481 tx479 rfl (by omega) (by omega)).trans (by omega)
                             refine lv_iload hx hb dX1_grow_160 (lv_at hl 2 rfl) ?_
                             refine lv_iload hx hb dX1_grow_162 (lv_at hl 0 rfl) ?_
                             refine jcallS (As := [.int x458, .int x464]) (rest := [.int x481, .ref (ad 33)]) ⟨hx, hb, hml, hown, hts⟩ hK hP hA hS hZ (c_X0_mayBowl l D cI cL ad zz hJ σ465 τ x458 (x458.toInt) rfl x464 (x464.toInt) rfl) cw_RX1_115 ⟨Nat.le_of_ble_eq_true rfl, Nat.le_of_ble_eq_true rfl⟩ rfl rfl rfl hl.1 rfl (Nat.le_of_ble_eq_true rfl) dX1_grow_164 ⟨Nat.zero_le _, Nat.zero_le _⟩ (fun r483 σ482 τ482 H locs h482 hP hS => ?_)
                             obtain ⟨⟨rfl, rfl⟩, w484, h482⟩ := h482
                             exact by
                              refine lv_if_eq (tgt := 188) hx hb dX1_grow_167 (of_decide_eq_true rfl) (fun c485 => ?_) (fun c485 => ?_)
                              · have kc485 := jeq c485 rfl jz_0
                                refine lv_iconst (v := (-1)) hx hb dX1_grow_188 (of_decide_eq_true rfl) ?_
                                refine jast hx hb hK hP hJ hA hS (jc_33 cI cL ad σ465 τ) (ja_33 cI cL ad σ465 τ _ _) (jin tx481 (by omega) (by omega)) dX1_grow_189 (fun σ486 H locs eσ486 hP hS => ?_)
                                obtain ⟨x487, ex487⟩ : ∃ y : Int32, y = x464 + 1 := ⟨_, rfl⟩
                                have tx487 : x487.toInt = x464.toInt + 1 := (jadd ex487 rfl jz_1 (by omega) (by omega)).trans (by omega)
                                refine lv_iinc (v := x487) (lv' := [(8, .int x487), (7, .int x461), (6, .int x458), (5, .int x440), (4, .int 0), (3, .int x8), (0, .ref (ad 31)), (1, .int a1), (2, .int a2)]) hx hb dX1_grow_190 hl (k := 0) rfl (by rw [ex487]; rfl) (of_decide_eq_true rfl) rfl (fun ls hl => ?_)
                                refine lv_goto (tgt := 143) hx hb dX1_grow_193 (of_decide_eq_true rfl) ?_
                                have z488 : (σ486 31 8).toInt = (σ465 31 8).toInt := (congrArg Int32.toInt (show σ486 31 8 = (σ465 31 8) from (congrFun (jnp 31 eσ486 (of_decide_eq_true rfl)) 8)))
                                exact by
                                 have w489 : ∀ k : Nat, k < 1400 → (-1) ≤ (σ486 33 k).toInt ∧ (σ486 33 k).toInt ≤ 350 := (by rw [eσ486]; exact jrr_up w474 (by have h9 := jz_m1; omega) (by have h9 := jz_m1; omega))
                                 have w490 : ∀ k : Nat, k < 1024 → 0 ≤ (σ486 36 k).toInt ∧ (σ486 36 k).toInt ≤ 349 := (jrr_fr (jnp 36 eσ486 (of_decide_eq_true rfl)) w475)
                                 have I491 : jI31 σ486 := ⟨(by omega), w489, w490⟩
                                 exact by exact ihlp462 x487 σ486 _ _ ls (by have h90 := tx487; omega) (by have h90 := tx487; omega) (by have h90 := tx487; omega) (fun i hi => ((jnp i eσ486 (imp_94 i hi)).trans (f470 i hi))) (fun i hi => ((congrFun (jnp 31 eσ486 (of_decide_eq_true rfl)) i).trans (f471 i hi)))  I491 hP hS (lv_sub hl [0, 1, 2, 3, 4, 5, 6, 7, 8] rfl)
                              · have kc485 := jne c485 rfl jz_0
                                refine lv_aload_n hx hb dX1_grow_170 rfl (lv_at hl 6 rfl) ?_
                                refine lv_iload hx hb dX1_grow_171 (lv_at hl 2 rfl) ?_
                                refine lv_iload hx hb dX1_grow_173 (lv_at hl 0 rfl) ?_
                                refine jcallS (As := [.int x458, .int x464]) (rest := [.ref (ad 31), .int x481, .ref (ad 33)]) ⟨hx, hb, hml, hown, hts⟩ hK hP hA hS hZ (c_X0_after l D cI cL ad zz hJ σ465 τ x458 (x458.toInt) rfl x464 (x464.toInt) rfl) cw_RX1_119 ⟨Nat.le_of_ble_eq_true rfl, Nat.le_of_ble_eq_true rfl⟩ rfl rfl rfl hl.1 rfl (Nat.le_of_ble_eq_true rfl) dX1_grow_175 ⟨Nat.zero_le _, Nat.zero_le _⟩ (fun r493 σ492 τ492 H locs h492 hP hS => ?_)
                                exact by
                                 obtain ⟨⟨rfl, rfl⟩, w494, h492⟩ := h492
                                 refine lv_iload hx hb dX1_grow_178 (lv_at hl 1 rfl) ?_
                                 refine lv_iconst (v := 1) hx hb dX1_grow_180 (of_decide_eq_true rfl) ?_
                                 have g495 := jrg (rfl : x461.toInt = x461.toInt)
                                 refine lv_iadd hx hb dX1_grow_181 ?_
                                 refine lv_topi (fun x496 ex496 => ?_)
                                 have gx496 := jrg (rfl : x496.toInt = x496.toInt)
                                 refine jcallV (As := [.int r493, .int x496]) (rest := [.int x481, .ref (ad 33)]) ⟨hx, hb, hml, hown, hts⟩ hK hP hA hS hZ (c_X1_add_31 l D cI cL ad zz hJ σ465 τ r493 (r493.toInt) rfl x496 (x496.toInt) rfl p472) cw_RX1_111 (jc_31 cI cL ad σ465 τ) rfl ⟨Nat.le_of_ble_eq_true rfl, Nat.le_of_ble_eq_true rfl⟩ rfl rfl rfl hl.1 rfl (Nat.le_of_ble_eq_true rfl) dX1_grow_182 ⟨Nat.zero_le _, Nat.zero_le _⟩ (fun r498 σ497 τ497 H locs h497 hP hS => ?_)
                                 obtain ⟨rfl, f499, f500, I501, h497⟩ := h497
                                 obtain ⟨i503, w504, w505⟩ : (0 ≤ (σ497 31 8).toInt ∧ (σ497 31 8).toInt ≤ 350) ∧ (∀ k : Nat, k < 1400 → (-1) ≤ (σ497 33 k).toInt ∧ (σ497 33 k).toInt ≤ 350) ∧ (∀ k : Nat, k < 1024 → 0 ≤ (σ497 36 k).toInt ∧ (σ497 36 k).toInt ≤ 349) := id I501
                                 have h506 := h497
                                 obtain ⟨q508, k507⟩ := h506
                                 refine lv_goto (tgt := 189) hx hb dX1_grow_185 (of_decide_eq_true rfl) ?_
                                 exact by
                                  refine jast hx hb hK hP hJ hA hS (jc_33 cI cL ad σ497 τ) (ja_33 cI cL ad σ497 τ _ _) (jin tx481 (by omega) (by omega)) dX1_grow_189 (fun σ509 H locs eσ509 hP hS => ?_)
                                  obtain ⟨x510, ex510⟩ : ∃ y : Int32, y = x464 + 1 := ⟨_, rfl⟩
                                  have tx510 : x510.toInt = x464.toInt + 1 := (jadd ex510 rfl jz_1 (by omega) (by omega)).trans (by omega)
                                  refine lv_iinc (v := x510) (lv' := [(8, .int x510), (7, .int x461), (6, .int x458), (5, .int x440), (4, .int 0), (3, .int x8), (0, .ref (ad 31)), (1, .int a1), (2, .int a2)]) hx hb dX1_grow_190 hl (k := 0) rfl (by rw [ex510]; rfl) (of_decide_eq_true rfl) rfl (fun ls hl => ?_)
                                  refine lv_goto (tgt := 143) hx hb dX1_grow_193 (of_decide_eq_true rfl) ?_
                                  have z511 : (σ509 31 8).toInt = (σ497 31 8).toInt := (congrArg Int32.toInt (show σ509 31 8 = (σ497 31 8) from (congrFun (jnp 31 eσ509 (of_decide_eq_true rfl)) 8)))
                                  have w512 : ∀ k : Nat, k < 1400 → (-1) ≤ (σ509 33 k).toInt ∧ (σ509 33 k).toInt ≤ 350 := (by rw [eσ509]; exact jrr_up w504 (by omega) (by omega))
                                  have w513 : ∀ k : Nat, k < 1024 → 0 ≤ (σ509 36 k).toInt ∧ (σ509 36 k).toInt ≤ 349 := (jrr_fr (jnp 36 eσ509 (of_decide_eq_true rfl)) w505)
                                  have I514 : jI31 σ509 := ⟨(by omega), w512, w513⟩
                                  exact by exact ihlp462 x510 σ509 _ _ ls (by have h90 := tx510; omega) (by have h90 := tx510; omega) (by have h90 := tx510; omega) (fun i hi => ((jnp i eσ509 (imp_94 i hi)).trans ((f499 i (imp_86 i hi)).trans (f470 i hi)))) (fun i hi => ((congrFun (jnp 31 eσ509 (of_decide_eq_true rfl)) i).trans ((f500 i hi).trans (f471 i hi))))  I514 hP hS (lv_sub hl [0, 1, 2, 3, 4, 5, 6, 7, 8] rfl)
                    exact by exact lp462 1000000 0 σ444 _ _ ls (by have h90 := jz_0; omega) (by have h90 := jz_0; omega) (by have h90 := jz_0; omega) (fun _ _ => rfl) (fun _ _ => rfl)  p451 hP hS hl
          exact by exact lp438 1000000 0 σ426 _ _ ls (by have h90 := jz_0; omega) (by have h90 := jz_0; omega) (by have h90 := jz_0; omega) (fun _ _ => rfl) (fun _ _ => rfl)  I430 hP hS hl
       · exact by
          have kc416 := jeq c416 rfl rfl
          refine lv_aload_n hx hb dX1_grow_48 rfl (lv_at hl 2 rfl) ?_
          refine va_get (D := D) hx hb hts inlX1 hown hK hP 31 (jc_31 cI cL ad σ τ) rfl 12 (of_decide_eq_true rfl) (hts _ kw_28_8) (fun _ h9 => h9) rfl dX1_grow_49 ?_
          refine lv_iload hx hb dX1_grow_52 (lv_at hl 0 rfl) ?_
          refine lv_icmp_ne (tgt := 63) hx hb dX1_grow_54 (of_decide_eq_true rfl) (fun c515 => ?_) (fun c515 => ?_)
          · have kc515 := jne c515 rfl jz_0
            refine lv_aload_n hx hb dX1_grow_63 rfl (lv_at hl 2 rfl) ?_
            refine lv_iload_n hx hb dX1_grow_64 rfl (lv_at hl 3 rfl) ?_
            refine jput (ty := .int) hx hb hts inlX1 tyX1 tyX1_ok nmX1 hown hK hP hJ hA hS (jc_31 cI cL ad σ τ) rfl (k := 9) (of_decide_eq_true rfl) (Nat.le_of_ble_eq_true rfl) (jp_31_9 cI cL ad σ τ a1) (hts _ kw_5_9) (fun _ h9 => h9) rfl (by decide +kernel) rfl rfl dX1_grow_65 (fun σ516 H locs eσ516 hP hS => ?_)
            refine lv_aload_n hx hb dX1_grow_68 rfl (lv_at hl 2 rfl) ?_
            refine lv_iload_n hx hb dX1_grow_69 rfl (lv_at hl 4 rfl) ?_
            refine jput (ty := .int) hx hb hts inlX1 tyX1 tyX1_ok nmX1 hown hK hP hJ hA hS (jc_31 cI cL ad σ516 τ) rfl (k := 10) (of_decide_eq_true rfl) (Nat.le_of_ble_eq_true rfl) (jp_31_10 cI cL ad σ516 τ a2) (hts _ kw_28_9) (fun _ h9 => h9) rfl (by decide +kernel) rfl rfl dX1_grow_70 (fun σ517 H locs eσ517 hP hS => ?_)
            refine lv_aload_n hx hb dX1_grow_73 rfl (lv_at hl 2 rfl) ?_
            refine lv_iload_n hx hb dX1_grow_74 rfl (lv_at hl 1 rfl) ?_
            refine jput (ty := .int) hx hb hts inlX1 tyX1 tyX1_ok nmX1 hown hK hP hJ hA hS (jc_31 cI cL ad σ517 τ) rfl (k := 11) (of_decide_eq_true rfl) (Nat.le_of_ble_eq_true rfl) (jp_31_11 cI cL ad σ517 τ x8) (hts _ kw_28_7) (fun _ h9 => h9) rfl (by decide +kernel) rfl rfl dX1_grow_75 (fun σ518 H locs eσ518 hP hS => ?_)
            refine lv_aload_n hx hb dX1_grow_78 rfl (lv_at hl 2 rfl) ?_
            refine lv_iload hx hb dX1_grow_79 (lv_at hl 0 rfl) ?_
            refine jput (ty := .boolean) hx hb hts inlX1 tyX1 tyX1_ok nmX1 hown hK hP hJ hA hS (jc_31 cI cL ad σ518 τ) rfl (k := 12) (of_decide_eq_true rfl) (Nat.le_of_ble_eq_true rfl) (jp_31_12 cI cL ad σ518 τ 0) (hts _ kw_28_8) (fun _ h9 => h9) rfl (by decide +kernel) rfl rfl dX1_grow_81 (fun σ519 H locs eσ519 hP hS => ?_)
            refine lv_aload_n hx hb dX1_grow_84 rfl (lv_at hl 2 rfl) ?_
            refine lv_iconst (v := 0) hx hb dX1_grow_85 (of_decide_eq_true rfl) ?_
            refine jput (ty := .int) hx hb hts inlX1 tyX1 tyX1_ok nmX1 hown hK hP hJ hA hS (jc_31 cI cL ad σ519 τ) rfl (k := 8) (of_decide_eq_true rfl) (Nat.le_of_ble_eq_true rfl) (jp_31_8 cI cL ad σ519 τ 0) (hts _ kw_27_22) (fun _ h9 => h9) rfl (by decide +kernel) rfl rfl dX1_grow_86 (fun σ520 H locs eσ520 hP hS => ?_)
            refine lv_aload_n hx hb dX1_grow_89 rfl (lv_at hl 2 rfl) ?_
            refine lv_iload_n hx hb dX1_grow_90 rfl (lv_at hl 3 rfl) ?_
            refine lv_iconst (v := 0) hx hb dX1_grow_91 (of_decide_eq_true rfl) ?_
            have z521 : (σ520 31 8).toInt = 0 := ((congrArg Int32.toInt (show σ520 31 8 = 0 from (jsp eσ520))).trans jz_0)
            have w522 : ∀ k : Nat, k < 1400 → (-1) ≤ (σ520 33 k).toInt ∧ (σ520 33 k).toInt ≤ 350 := (jrr_fr (jnp 33 eσ520 (of_decide_eq_true rfl)) (jrr_fr (jnp 33 eσ519 (of_decide_eq_true rfl)) (jrr_fr (jnp 33 eσ518 (of_decide_eq_true rfl)) (jrr_fr (jnp 33 eσ517 (of_decide_eq_true rfl)) (jrr_fr (jnp 33 eσ516 (of_decide_eq_true rfl)) w2)))))
            have w523 : ∀ k : Nat, k < 1024 → 0 ≤ (σ520 36 k).toInt ∧ (σ520 36 k).toInt ≤ 349 := (jrr_fr (jnp 36 eσ520 (of_decide_eq_true rfl)) (jrr_fr (jnp 36 eσ519 (of_decide_eq_true rfl)) (jrr_fr (jnp 36 eσ518 (of_decide_eq_true rfl)) (jrr_fr (jnp 36 eσ517 (of_decide_eq_true rfl)) (jrr_fr (jnp 36 eσ516 (of_decide_eq_true rfl)) w3)))))
            exact by
             have I524 : jI31 σ520 := ⟨(by omega), w522, w523⟩
             refine jcallV (As := [.int a1, .int 0]) (rest := []) ⟨hx, hb, hml, hown, hts⟩ hK hP hA hS hZ (c_X1_add_31 l D cI cL ad zz hJ σ520 τ a1 (A1) t1 0 (0) jz_0 I524) cw_RX1_111 (jc_31 cI cL ad σ520 τ) rfl ⟨Nat.le_of_ble_eq_true rfl, Nat.le_of_ble_eq_true rfl⟩ rfl rfl rfl hl.1 rfl (Nat.le_of_ble_eq_true rfl) dX1_grow_92 ⟨Nat.zero_le _, Nat.zero_le _⟩ (fun r526 σ525 τ525 H locs h525 hP hS => ?_)
             obtain ⟨rfl, f527, f528, I529, h525⟩ := h525
             obtain ⟨i531, w532, w533⟩ : (0 ≤ (σ525 31 8).toInt ∧ (σ525 31 8).toInt ≤ 350) ∧ (∀ k : Nat, k < 1400 → (-1) ≤ (σ525 33 k).toInt ∧ (σ525 33 k).toInt ≤ 350) ∧ (∀ k : Nat, k < 1024 → 0 ≤ (σ525 36 k).toInt ∧ (σ525 36 k).toInt ≤ 349) := id I529
             have h534 := h525
             obtain ⟨q536, k535⟩ := h534
             refine lv_pop hx hb dX1_grow_95 rfl ?_
             refine lv_iconst (v := 0) hx hb dX1_grow_96 (of_decide_eq_true rfl) ?_
             refine lv_istore (lv' := [(5, .int 0), (4, .int 0), (3, .int x8), (0, .ref (ad 31)), (1, .int a1), (2, .int a2)]) hx hb dX1_grow_97 hl (of_decide_eq_true rfl) rfl (fun ls hl => ?_)
             have lp537 : ∀ (n538 : Nat) (x539 : Int32) (σ543 : Nat → Nat → Int32) (H : Heap) (locs : List Loc) (ls : Array Slot), (-x539.toInt + 350 : Int) < n538 → 0 ≤ x539.toInt → x539.toInt ≤ 350 → (∀ i : Nat, (i < 31 ∨ 33 < i) ∧ (i < 36 ∨ 37 < i) → σ543 i = σ525 i) → (∀ k : Nat, (k < 8 ∨ 8 < k) → σ543 31 k = σ525 31 k) → jI31 σ543 → jH D cI cL ad σ543 τ H → va_S (jA ad) s.heap H locs → lv_has ls 9 [(5, .int x539), (4, .int 0), (3, .int x8), (0, .ref (ad 31)), (1, .int a1), (2, .int a2)] → W p l e ({ frames := 3, cells := 0, slots := 0, locals := 73 }) s m args below meth c H locs 0 0 Q (F0 m 99 ls []) := by
               intro n538
               induction n538 with
               | zero => intro x539 σ543 H locs ls h545 h546 h547; exact absurd h545 (by omega)
               | succ n538 ihlp537 =>
                 intro x539 σ543 H locs ls h545 h546 h547 f548 f549 p550 hP hS hl
                 exact by
                  obtain ⟨i551, w552, w553⟩ : (0 ≤ (σ543 31 8).toInt ∧ (σ543 31 8).toInt ≤ 350) ∧ (∀ k : Nat, k < 1400 → (-1) ≤ (σ543 33 k).toInt ∧ (σ543 33 k).toInt ≤ 350) ∧ (∀ k : Nat, k < 1024 → 0 ≤ (σ543 36 k).toInt ∧ (σ543 36 k).toInt ≤ 349) := id p550
                  refine lv_iload hx hb dX1_grow_99 (lv_at hl 0 rfl) ?_
                  refine lv_aload_n hx hb dX1_grow_101 rfl (lv_at hl 3 rfl) ?_
                  refine va_get (D := D) hx hb hts inlX1 hown hK hP 31 (jc_31 cI cL ad σ543 τ) rfl 8 (of_decide_eq_true rfl) (hts _ kw_27_22) (fun _ h9 => h9) rfl dX1_grow_102 ?_
                  refine lv_icmp_ge (tgt := 202) hx hb dX1_grow_105 (of_decide_eq_true rfl) (fun c554 => ?_) (fun c554 => ?_)
                  · have kc554 := jle c554 rfl rfl
                    exact hret σ543 τ _ _ _ _ ⟨rfl, (fun i hi => ((f548 i hi).trans ((f527 i (imp_86 i hi)).trans ((jnp i eσ520 (imp_87 i hi)).trans ((jnp i eσ519 (imp_87 i hi)).trans ((jnp i eσ518 (imp_87 i hi)).trans ((jnp i eσ517 (imp_87 i hi)).trans (jnp i eσ516 (imp_87 i hi))))))))), (fun i hi => ((f549 i (imp_88 i hi)).trans ((f528 i (imp_88 i hi)).trans ((jkp i eσ520 (imp_89 i hi)).trans ((jkp i eσ519 (imp_90 i hi)).trans ((jkp i eσ518 (imp_91 i hi)).trans ((jkp i eσ517 (imp_92 i hi)).trans (jkp i eσ516 (imp_93 i hi))))))))), p550, trivial⟩ hP hS dX1_grow_202
                  · have kc554 := jnle c554 rfl rfl
                    refine lv_iload hx hb dX1_grow_108 (lv_at hl 0 rfl) ?_
                    refine lv_sipush (v := 350) hx hb dX1_grow_110 (of_decide_eq_true rfl) ?_
                    exact by
                     refine lv_icmp_ge (tgt := 202) hx hb dX1_grow_113 (of_decide_eq_true rfl) (fun c => absurd (jle c jz_350 rfl) (by omega)) (fun c555 => ?_)
                     have kc555 := jnle c555 jz_350 rfl
                     refine lv_aload_n hx hb dX1_grow_116 rfl (lv_at hl 3 rfl) ?_
                     refine va_get (D := D) hx hb hts inlX1 hown hK hP 31 (jc_31 cI cL ad σ543 τ) rfl 2 (of_decide_eq_true rfl) (hts _ kw_5_3) (fun _ h9 => h9) rfl dX1_grow_117 ?_
                     refine lv_iload hx hb dX1_grow_120 (lv_at hl 0 rfl) ?_
                     refine jald hx hb hK hP (jc_32 cI cL ad σ543 τ) (jin rfl (by omega) (by omega)) dX1_grow_122 ?_
                     refine lv_topi (fun x556 ex556 => ?_)
                     refine lv_ldc (v := 134217727) hx hb hown (hts _ kw_28_10) dX1_grow_123 ?_
                     refine lv_iand hx hb dX1_grow_125 ?_
                     exact by
                      refine lv_topi (fun x557 ex557 => ?_)
                      have gx557 := jrg (rfl : x557.toInt = x557.toInt)
                      have g558 : 0 ≤ x557.toInt ∧ x557.toInt ≤ 134217727 := jmask ex557 27 (of_decide_eq_true rfl) (of_decide_eq_true rfl)
                      refine lv_istore (lv' := [(6, .int x557), (5, .int x539), (4, .int 0), (3, .int x8), (0, .ref (ad 31)), (1, .int a1), (2, .int a2)]) hx hb dX1_grow_126 hl (of_decide_eq_true rfl) rfl (fun ls hl => ?_)
                      refine lv_aload_n hx hb dX1_grow_128 rfl (lv_at hl 4 rfl) ?_
                      refine va_get (D := D) hx hb hts inlX1 hown hK hP 31 (jc_31 cI cL ad σ543 τ) rfl 2 (of_decide_eq_true rfl) (hts _ kw_5_3) (fun _ h9 => h9) rfl dX1_grow_129 ?_
                      refine lv_iload hx hb dX1_grow_132 (lv_at hl 1 rfl) ?_
                      refine jald hx hb hK hP (jc_32 cI cL ad σ543 τ) (jin rfl (by omega) (by omega)) dX1_grow_134 ?_
                      refine lv_topi (fun x559 ex559 => ?_)
                      exact by
                       refine lv_bipush (v := 27) hx hb dX1_grow_135 (of_decide_eq_true rfl) ?_
                       refine lv_ishr hx hb dX1_grow_137 ?_
                       refine lv_topi (fun x560 ex560 => ?_)
                       have gx560 := jrg (rfl : x560.toInt = x560.toInt)
                       refine lv_istore (lv' := [(7, .int x560), (6, .int x557), (5, .int x539), (4, .int 0), (3, .int x8), (0, .ref (ad 31)), (1, .int a1), (2, .int a2)]) hx hb dX1_grow_138 hl (of_decide_eq_true rfl) rfl (fun ls hl => ?_)
                       refine lv_iconst (v := 0) hx hb dX1_grow_140 (of_decide_eq_true rfl) ?_
                       refine lv_istore (lv' := [(8, .int 0), (7, .int x560), (6, .int x557), (5, .int x539), (4, .int 0), (3, .int x8), (0, .ref (ad 31)), (1, .int a1), (2, .int a2)]) hx hb dX1_grow_141 hl (of_decide_eq_true rfl) rfl (fun ls hl => ?_)
                       have lp561 : ∀ (n562 : Nat) (x563 : Int32) (σ564 : Nat → Nat → Int32) (H : Heap) (locs : List Loc) (ls : Array Slot), (-x563.toInt + 4 : Int) < n562 → 0 ≤ x563.toInt → x563.toInt ≤ 4 → (∀ i : Nat, (i < 31 ∨ 33 < i) ∧ (i < 36 ∨ 37 < i) → σ564 i = σ543 i) → (∀ k : Nat, (k < 8 ∨ 8 < k) → σ564 31 k = σ543 31 k) → jI31 σ564 → jH D cI cL ad σ564 τ H → va_S (jA ad) s.heap H locs → lv_has ls 9 [(8, .int x563), (7, .int x560), (6, .int x557), (5, .int x539), (4, .int 0), (3, .int x8), (0, .ref (ad 31)), (1, .int a1), (2, .int a2)] → W p l e ({ frames := 3, cells := 0, slots := 0, locals := 73 }) s m args below meth c H locs 0 0 Q (F0 m 143 ls []) := by
                         intro n562
                         induction n562 with
                         | zero => intro x563 σ564 H locs ls h566 h567 h568; exact absurd h566 (by omega)
                         | succ n562 ihlp561 =>
                           intro x563 σ564 H locs ls h566 h567 h568 f569 f570 p571 hP hS hl
                           exact by
                            obtain ⟨i572, w573, w574⟩ : (0 ≤ (σ564 31 8).toInt ∧ (σ564 31 8).toInt ≤ 350) ∧ (∀ k : Nat, k < 1400 → (-1) ≤ (σ564 33 k).toInt ∧ (σ564 33 k).toInt ≤ 350) ∧ (∀ k : Nat, k < 1024 → 0 ≤ (σ564 36 k).toInt ∧ (σ564 36 k).toInt ≤ 349) := id p571
                            refine lv_iload hx hb dX1_grow_143 (lv_at hl 0 rfl) ?_
                            refine lv_iconst (v := 4) hx hb dX1_grow_145 (of_decide_eq_true rfl) ?_
                            refine lv_icmp_ge (tgt := 196) hx hb dX1_grow_146 (of_decide_eq_true rfl) (fun c575 => ?_) (fun c575 => ?_)
                            · have kc575 := jle c575 jz_4 rfl
                              obtain ⟨x576, ex576⟩ : ∃ y : Int32, y = x539 + 1 := ⟨_, rfl⟩
                              have tx576 : x576.toInt = x539.toInt + 1 := (jadd ex576 rfl jz_1 (by omega) (by omega)).trans (by omega)
                              refine lv_iinc (v := x576) (lv' := [(5, .int x576), (8, .int x563), (7, .int x560), (6, .int x557), (4, .int 0), (3, .int x8), (0, .ref (ad 31)), (1, .int a1), (2, .int a2)]) hx hb dX1_grow_196 hl (k := 3) rfl (by rw [ex576]; rfl) (of_decide_eq_true rfl) rfl (fun ls hl => ?_)
                              refine lv_goto (tgt := 99) hx hb dX1_grow_199 (of_decide_eq_true rfl) ?_
                              exact by exact ihlp537 x576 σ564 _ _ ls (by have h90 := tx576; omega) (by have h90 := tx576; omega) (by have h90 := tx576; omega) (fun i hi => ((f569 i hi).trans (f548 i hi))) (fun i hi => ((f570 i hi).trans (f549 i hi)))  p571 hP hS (lv_sub hl [0, 4, 5, 6, 7, 8] rfl)
                            · exact by
                               have kc575 := jnle c575 jz_4 rfl
                               refine lv_aload_n hx hb dX1_grow_149 rfl (lv_at hl 6 rfl) ?_
                               refine va_get (D := D) hx hb hts inlX1 hown hK hP 31 (jc_31 cI cL ad σ564 τ) rfl 3 (of_decide_eq_true rfl) (hts _ kw_5_4) (fun _ h9 => h9) rfl dX1_grow_150 ?_
                               refine lv_iload hx hb dX1_grow_153 (lv_at hl 3 rfl) ?_
                               refine lv_iconst (v := 4) hx hb dX1_grow_155 (of_decide_eq_true rfl) ?_
                               have g577 := jrg (rfl : x539.toInt = x539.toInt)
                               refine lv_imul hx hb dX1_grow_156 ?_
                               refine lv_topi (fun x578 ex578 => ?_)
                               have tx578 : x578.toInt = 4 * x539.toInt := (jmul ex578 rfl jz_4 (by omega) (by omega)).trans (by omega)
                               exact by
                                refine lv_iload hx hb dX1_grow_157 (lv_at hl 0 rfl) ?_
                                have g579 := jrg (rfl : x563.toInt = x563.toInt)
                                refine lv_iadd hx hb dX1_grow_159 ?_
                                refine lv_topi (fun x580 ex580 => ?_)
                                have tx580 : x580.toInt = 4 * x539.toInt + x563.toInt := (jadd ex580 tx578 rfl (by omega) (by omega)).trans (by omega)
                                refine lv_iload hx hb dX1_grow_160 (lv_at hl 2 rfl) ?_
                                refine lv_iload hx hb dX1_grow_162 (lv_at hl 0 rfl) ?_
                                refine jcallS (As := [.int x557, .int x563]) (rest := [.int x580, .ref (ad 33)]) ⟨hx, hb, hml, hown, hts⟩ hK hP hA hS hZ (c_X0_mayBowl l D cI cL ad zz hJ σ564 τ x557 (x557.toInt) rfl x563 (x563.toInt) rfl) cw_RX1_115 ⟨Nat.le_of_ble_eq_true rfl, Nat.le_of_ble_eq_true rfl⟩ rfl rfl rfl hl.1 rfl (Nat.le_of_ble_eq_true rfl) dX1_grow_164 ⟨Nat.zero_le _, Nat.zero_le _⟩ (fun r582 σ581 τ581 H locs h581 hP hS => ?_)
                                obtain ⟨⟨rfl, rfl⟩, w583, h581⟩ := h581
                                exact by
                                 refine lv_if_eq (tgt := 188) hx hb dX1_grow_167 (of_decide_eq_true rfl) (fun c584 => ?_) (fun c584 => ?_)
                                 · have kc584 := jeq c584 rfl jz_0
                                   refine lv_iconst (v := (-1)) hx hb dX1_grow_188 (of_decide_eq_true rfl) ?_
                                   refine jast hx hb hK hP hJ hA hS (jc_33 cI cL ad σ564 τ) (ja_33 cI cL ad σ564 τ _ _) (jin tx580 (by omega) (by omega)) dX1_grow_189 (fun σ585 H locs eσ585 hP hS => ?_)
                                   obtain ⟨x586, ex586⟩ : ∃ y : Int32, y = x563 + 1 := ⟨_, rfl⟩
                                   have tx586 : x586.toInt = x563.toInt + 1 := (jadd ex586 rfl jz_1 (by omega) (by omega)).trans (by omega)
                                   refine lv_iinc (v := x586) (lv' := [(8, .int x586), (7, .int x560), (6, .int x557), (5, .int x539), (4, .int 0), (3, .int x8), (0, .ref (ad 31)), (1, .int a1), (2, .int a2)]) hx hb dX1_grow_190 hl (k := 0) rfl (by rw [ex586]; rfl) (of_decide_eq_true rfl) rfl (fun ls hl => ?_)
                                   refine lv_goto (tgt := 143) hx hb dX1_grow_193 (of_decide_eq_true rfl) ?_
                                   have z587 : (σ585 31 8).toInt = (σ564 31 8).toInt := (congrArg Int32.toInt (show σ585 31 8 = (σ564 31 8) from (congrFun (jnp 31 eσ585 (of_decide_eq_true rfl)) 8)))
                                   exact by
                                    have w588 : ∀ k : Nat, k < 1400 → (-1) ≤ (σ585 33 k).toInt ∧ (σ585 33 k).toInt ≤ 350 := (by rw [eσ585]; exact jrr_up w573 (by have h9 := jz_m1; omega) (by have h9 := jz_m1; omega))
                                    have w589 : ∀ k : Nat, k < 1024 → 0 ≤ (σ585 36 k).toInt ∧ (σ585 36 k).toInt ≤ 349 := (jrr_fr (jnp 36 eσ585 (of_decide_eq_true rfl)) w574)
                                    have I590 : jI31 σ585 := ⟨(by omega), w588, w589⟩
                                    exact by exact ihlp561 x586 σ585 _ _ ls (by have h90 := tx586; omega) (by have h90 := tx586; omega) (by have h90 := tx586; omega) (fun i hi => ((jnp i eσ585 (imp_94 i hi)).trans (f569 i hi))) (fun i hi => ((congrFun (jnp 31 eσ585 (of_decide_eq_true rfl)) i).trans (f570 i hi)))  I590 hP hS (lv_sub hl [0, 1, 2, 3, 4, 5, 6, 7, 8] rfl)
                                 · have kc584 := jne c584 rfl jz_0
                                   refine lv_aload_n hx hb dX1_grow_170 rfl (lv_at hl 6 rfl) ?_
                                   refine lv_iload hx hb dX1_grow_171 (lv_at hl 2 rfl) ?_
                                   refine lv_iload hx hb dX1_grow_173 (lv_at hl 0 rfl) ?_
                                   refine jcallS (As := [.int x557, .int x563]) (rest := [.ref (ad 31), .int x580, .ref (ad 33)]) ⟨hx, hb, hml, hown, hts⟩ hK hP hA hS hZ (c_X0_after l D cI cL ad zz hJ σ564 τ x557 (x557.toInt) rfl x563 (x563.toInt) rfl) cw_RX1_119 ⟨Nat.le_of_ble_eq_true rfl, Nat.le_of_ble_eq_true rfl⟩ rfl rfl rfl hl.1 rfl (Nat.le_of_ble_eq_true rfl) dX1_grow_175 ⟨Nat.zero_le _, Nat.zero_le _⟩ (fun r592 σ591 τ591 H locs h591 hP hS => ?_)
                                   exact by
                                    obtain ⟨⟨rfl, rfl⟩, w593, h591⟩ := h591
                                    refine lv_iload hx hb dX1_grow_178 (lv_at hl 1 rfl) ?_
                                    refine lv_iconst (v := 1) hx hb dX1_grow_180 (of_decide_eq_true rfl) ?_
                                    have g594 := jrg (rfl : x560.toInt = x560.toInt)
                                    refine lv_iadd hx hb dX1_grow_181 ?_
                                    refine lv_topi (fun x595 ex595 => ?_)
                                    have gx595 := jrg (rfl : x595.toInt = x595.toInt)
                                    refine jcallV (As := [.int r592, .int x595]) (rest := [.int x580, .ref (ad 33)]) ⟨hx, hb, hml, hown, hts⟩ hK hP hA hS hZ (c_X1_add_31 l D cI cL ad zz hJ σ564 τ r592 (r592.toInt) rfl x595 (x595.toInt) rfl p571) cw_RX1_111 (jc_31 cI cL ad σ564 τ) rfl ⟨Nat.le_of_ble_eq_true rfl, Nat.le_of_ble_eq_true rfl⟩ rfl rfl rfl hl.1 rfl (Nat.le_of_ble_eq_true rfl) dX1_grow_182 ⟨Nat.zero_le _, Nat.zero_le _⟩ (fun r597 σ596 τ596 H locs h596 hP hS => ?_)
                                    obtain ⟨rfl, f598, f599, I600, h596⟩ := h596
                                    obtain ⟨i602, w603, w604⟩ : (0 ≤ (σ596 31 8).toInt ∧ (σ596 31 8).toInt ≤ 350) ∧ (∀ k : Nat, k < 1400 → (-1) ≤ (σ596 33 k).toInt ∧ (σ596 33 k).toInt ≤ 350) ∧ (∀ k : Nat, k < 1024 → 0 ≤ (σ596 36 k).toInt ∧ (σ596 36 k).toInt ≤ 349) := id I600
                                    have h605 := h596
                                    obtain ⟨q607, k606⟩ := h605
                                    refine lv_goto (tgt := 189) hx hb dX1_grow_185 (of_decide_eq_true rfl) ?_
                                    exact by
                                     refine jast hx hb hK hP hJ hA hS (jc_33 cI cL ad σ596 τ) (ja_33 cI cL ad σ596 τ _ _) (jin tx580 (by omega) (by omega)) dX1_grow_189 (fun σ608 H locs eσ608 hP hS => ?_)
                                     obtain ⟨x609, ex609⟩ : ∃ y : Int32, y = x563 + 1 := ⟨_, rfl⟩
                                     have tx609 : x609.toInt = x563.toInt + 1 := (jadd ex609 rfl jz_1 (by omega) (by omega)).trans (by omega)
                                     refine lv_iinc (v := x609) (lv' := [(8, .int x609), (7, .int x560), (6, .int x557), (5, .int x539), (4, .int 0), (3, .int x8), (0, .ref (ad 31)), (1, .int a1), (2, .int a2)]) hx hb dX1_grow_190 hl (k := 0) rfl (by rw [ex609]; rfl) (of_decide_eq_true rfl) rfl (fun ls hl => ?_)
                                     refine lv_goto (tgt := 143) hx hb dX1_grow_193 (of_decide_eq_true rfl) ?_
                                     have z610 : (σ608 31 8).toInt = (σ596 31 8).toInt := (congrArg Int32.toInt (show σ608 31 8 = (σ596 31 8) from (congrFun (jnp 31 eσ608 (of_decide_eq_true rfl)) 8)))
                                     have w611 : ∀ k : Nat, k < 1400 → (-1) ≤ (σ608 33 k).toInt ∧ (σ608 33 k).toInt ≤ 350 := (by rw [eσ608]; exact jrr_up w603 (by omega) (by omega))
                                     have w612 : ∀ k : Nat, k < 1024 → 0 ≤ (σ608 36 k).toInt ∧ (σ608 36 k).toInt ≤ 349 := (jrr_fr (jnp 36 eσ608 (of_decide_eq_true rfl)) w604)
                                     have I613 : jI31 σ608 := ⟨(by omega), w611, w612⟩
                                     exact by exact ihlp561 x609 σ608 _ _ ls (by have h90 := tx609; omega) (by have h90 := tx609; omega) (by have h90 := tx609; omega) (fun i hi => ((jnp i eσ608 (imp_94 i hi)).trans ((f598 i (imp_86 i hi)).trans (f569 i hi)))) (fun i hi => ((congrFun (jnp 31 eσ608 (of_decide_eq_true rfl)) i).trans ((f599 i hi).trans (f570 i hi))))  I613 hP hS (lv_sub hl [0, 1, 2, 3, 4, 5, 6, 7, 8] rfl)
                       exact by exact lp561 1000000 0 σ543 _ _ ls (by have h90 := jz_0; omega) (by have h90 := jz_0; omega) (by have h90 := jz_0; omega) (fun _ _ => rfl) (fun _ _ => rfl)  p550 hP hS hl
             exact by exact lp537 1000000 0 σ525 _ _ ls (by have h90 := jz_0; omega) (by have h90 := jz_0; omega) (by have h90 := jz_0; omega) (fun _ _ => rfl) (fun _ _ => rfl)  I529 hP hS hl
          · exact by
             have kc515 := jeq c515 rfl jz_0
             refine lv_aload_n hx hb dX1_grow_57 rfl (lv_at hl 2 rfl) ?_
             refine lv_iload_n hx hb dX1_grow_58 rfl (lv_at hl 4 rfl) ?_
             refine jput (ty := .int) hx hb hts inlX1 tyX1 tyX1_ok nmX1 hown hK hP hJ hA hS (jc_31 cI cL ad σ τ) rfl (k := 10) (of_decide_eq_true rfl) (Nat.le_of_ble_eq_true rfl) (jp_31_10 cI cL ad σ τ a2) (hts _ kw_28_9) (fun _ h9 => h9) rfl (by decide +kernel) rfl rfl dX1_grow_59 (fun σ614 H locs eσ614 hP hS => ?_)
             have I615 : jI31 σ614 := jI31_fr (jkp 8 eσ614 (of_decide_eq_true rfl)) (jnp 33 eσ614 (of_decide_eq_true rfl)) (jnp 36 eσ614 (of_decide_eq_true rfl)) hI31
             exact hret σ614 τ _ _ _ _ ⟨rfl, (fun i hi => (jnp i eσ614 (imp_87 i hi))), (fun i hi => (jkp i eσ614 (imp_92 i hi))), I615, trivial⟩ hP hS dX1_grow_62
set_option maxHeartbeats 4000000 in
set_option maxRecDepth 100000 in
theorem c_X1_judge_31 (l : Launch) (D : va_G) (cI cL : ClassId) (ad zz : Nat → Nat) (hJ : jD ad) (σ : Nat → Nat → Int32) (τ : Nat → Nat → Int64) (a1 : Int32) (A1 : Int) (t1 : a1.toInt = A1) (a3 : Int32) (A3 : Int) (t3 : a3.toInt = A3) (a4 : Int32) (A4 : Int) (t4 : a4.toInt = A4) (hI16 : jI16 σ) (hI22 : jI22 σ) (hI31 : jI31 σ) (hp0 : 0 ≤ A1 ∧ A1 ≤ 349) : jMv l yX1_judge cX1_judge 18 none ({ frames := 3, cells := 0, slots := 0, locals := 76 }) D cI cL ad zz [.ref (ad 31), .int a1, .ref (ad 17), .int a3, .int a4] σ τ (fun σ' τ' => τ = τ' ∧ (∀ i : Nat, (i < 24 ∨ 25 < i) ∧ (i < 29 ∨ 30 < i) ∧ (i < 34 ∨ 35 < i) → σ' i = σ i) ∧ True) := by
  refine jMv.of hJ (by decide +kernel) rfl (Nat.le_of_ble_eq_true rfl) ?_
  intro p e s m args below meth c Q ls hC hret hl hP
  obtain ⟨hx, hb, hr, hml, hown, hts, hK, -, hlocks, hZ⟩ := hC
  have hown : s.vm.findClass RX1 = some m.cls := hown
  have hS : va_S (jA ad) s.heap s.heap [] := va_S.rf
  have hA : ∀ q, jA ad q → jA ad q := fun _ h => h
  have hl : lv_has ls 18 [(0, .ref (ad 31)), (1, .int a1), (2, .ref (ad 17)), (3, .int a3), (4, .int a4)] := hl
  have g1 := jrg t1
  have g3 := jrg t3
  have g4 := jrg t4
  obtain ⟨i1, i2, i3, w4⟩ : (1 ≤ (σ 16 0).toInt ∧ (σ 16 0).toInt ≤ 8) ∧ (1 ≤ (σ 16 1).toInt ∧ (σ 16 1).toInt ≤ 12) ∧ (0 ≤ (σ 16 2).toInt ∧ (σ 16 2).toInt ≤ 999) ∧ (∀ k : Nat, k < 8 → 0 ≤ (σ 17 k).toInt ∧ (σ 17 k).toInt ≤ 3) := id hI16
  obtain ⟨i5, w6, w7⟩ : (0 ≤ (σ 31 8).toInt ∧ (σ 31 8).toInt ≤ 350) ∧ (∀ k : Nat, k < 1400 → (-1) ≤ (σ 33 k).toInt ∧ (σ 33 k).toInt ≤ 350) ∧ (∀ k : Nat, k < 1024 → 0 ≤ (σ 36 k).toInt ∧ (σ 36 k).toInt ≤ 349) := id hI31
  refine lv_aload_n hx hb dX1_judge_0 rfl (lv_at hl 0 rfl) ?_
  refine va_get (D := D) hx hb hts inlX1 hown hK hP 31 (jc_31 cI cL ad σ τ) rfl 2 (of_decide_eq_true rfl) (hts _ kw_5_3) (fun _ h9 => h9) rfl dX1_judge_1 ?_
  refine lv_iload_n hx hb dX1_judge_4 rfl (lv_at hl 1 rfl) ?_
  exact by
   refine jald hx hb hK hP (jc_32 cI cL ad σ τ) (jin t1 (by omega) (by omega)) dX1_judge_5 ?_
   refine lv_topi (fun x8 ex8 => ?_)
   refine lv_ldc (v := 134217727) hx hb hown (hts _ kw_28_10) dX1_judge_6 ?_
   refine lv_iand hx hb dX1_judge_8 ?_
   refine lv_topi (fun x9 ex9 => ?_)
   have gx9 := jrg (rfl : x9.toInt = x9.toInt)
   have g10 : 0 ≤ x9.toInt ∧ x9.toInt ≤ 134217727 := jmask ex9 27 (of_decide_eq_true rfl) (of_decide_eq_true rfl)
   refine lv_istore (lv' := [(5, .int x9), (0, .ref (ad 31)), (1, .int a1), (2, .ref (ad 17)), (3, .int a3), (4, .int a4)]) hx hb dX1_judge_9 hl (of_decide_eq_true rfl) rfl (fun ls hl => ?_)
   refine lv_aload_n hx hb dX1_judge_11 rfl (lv_at hl 1 rfl) ?_
   refine va_get (D := D) hx hb hts inlX1 hown hK hP 31 (jc_31 cI cL ad σ τ) rfl 2 (of_decide_eq_true rfl) (hts _ kw_5_3) (fun _ h9 => h9) rfl dX1_judge_12 ?_
   refine lv_iload_n hx hb dX1_judge_15 rfl (lv_at hl 2 rfl) ?_
   exact by
    refine jald hx hb hK hP (jc_32 cI cL ad σ τ) (jin t1 (by omega) (by omega)) dX1_judge_16 ?_
    refine lv_topi (fun x11 ex11 => ?_)
    refine lv_bipush (v := 27) hx hb dX1_judge_17 (of_decide_eq_true rfl) ?_
    refine lv_ishr hx hb dX1_judge_19 ?_
    refine lv_topi (fun x12 ex12 => ?_)
    have gx12 := jrg (rfl : x12.toInt = x12.toInt)
    refine lv_istore (lv' := [(6, .int x12), (5, .int x9), (0, .ref (ad 31)), (1, .int a1), (2, .ref (ad 17)), (3, .int a3), (4, .int a4)]) hx hb dX1_judge_20 hl (of_decide_eq_true rfl) rfl (fun ls hl => ?_)
    refine lv_iload_n hx hb dX1_judge_22 rfl (lv_at hl 3 rfl) ?_
    refine lv_bipush (v := 9) hx hb dX1_judge_23 (of_decide_eq_true rfl) ?_
    refine lv_imul hx hb dX1_judge_25 ?_
    refine lv_topi (fun x13 ex13 => ?_)
    exact by
     have tx13 : x13.toInt = 9 * A1 := (jmul ex13 t1 jz_9 (by omega) (by omega)).trans (by omega)
     refine lv_istore (lv' := [(7, .int x13), (6, .int x12), (5, .int x9), (0, .ref (ad 31)), (1, .int a1), (2, .ref (ad 17)), (3, .int a3), (4, .int a4)]) hx hb dX1_judge_26 hl (of_decide_eq_true rfl) rfl (fun ls hl => ?_)
     refine lv_iconst (v := 0) hx hb dX1_judge_28 (of_decide_eq_true rfl) ?_
     refine lv_iload_n hx hb dX1_judge_29 rfl (lv_at hl 6 rfl) ?_
     refine va_mmax hx hb (hml.trans hl.1.symm) hown (hts _ kw_28_5) (hts _ kw_21_0) (hts _ kw_21_1) (hts _ kw_21_2) (Nat.le_of_ble_eq_true rfl) (Nat.le_of_ble_eq_true rfl) (Nat.le_of_ble_eq_true rfl) (Nat.le_of_ble_eq_true rfl) dX1_judge_30 ?_
     refine lv_topi (fun x14 ex14 => ?_)
     have g15 := jmax ex14 jz_0 t3
     refine lv_istore (lv' := [(8, .int x14), (7, .int x13), (6, .int x12), (5, .int x9), (0, .ref (ad 31)), (1, .int a1), (2, .ref (ad 17)), (3, .int a3), (4, .int a4)]) hx hb dX1_judge_33 hl (of_decide_eq_true rfl) rfl (fun ls hl => ?_)
     refine lv_iload hx hb dX1_judge_35 (lv_at hl 8 rfl) ?_
     refine lv_aload_n hx hb dX1_judge_37 rfl (lv_at hl 6 rfl) ?_
     refine jalen (v := 8) hx hb hK hP (jc_17 cI cL ad σ τ) (of_decide_eq_true rfl) dX1_judge_38 ?_
     refine lv_iconst (v := 1) hx hb dX1_judge_39 (of_decide_eq_true rfl) ?_
     refine lv_isub hx hb dX1_judge_40 ?_
     refine jtopr (y := 7) (of_decide_eq_true rfl) ?_
     refine va_mmin hx hb (hml.trans hl.1.symm) hown (hts _ kw_28_4) (hts _ kw_22_11) (hts _ kw_21_1) (hts _ kw_22_12) (Nat.le_of_ble_eq_true rfl) (Nat.le_of_ble_eq_true rfl) (Nat.le_of_ble_eq_true rfl) (Nat.le_of_ble_eq_true rfl) dX1_judge_41 ?_
     refine lv_topi (fun x16 ex16 => ?_)
     have g17 := jmin ex16 t4 jz_7
     refine lv_iload_n hx hb dX1_judge_44 rfl (lv_at hl 7 rfl) ?_
     refine lv_iconst (v := 1) hx hb dX1_judge_45 (of_decide_eq_true rfl) ?_
     refine lv_iadd hx hb dX1_judge_46 ?_
     refine lv_topi (fun x18 ex18 => ?_)
     have gx18 := jrg (rfl : x18.toInt = x18.toInt)
     refine lv_iload hx hb dX1_judge_47 (lv_at hl 2 rfl) ?_
     have g19 := jrg (rfl : x18.toInt = x18.toInt)
     have g20 := jrg (rfl : x12.toInt = x12.toInt)
     refine lv_iadd hx hb dX1_judge_49 ?_
     refine lv_topi (fun x21 ex21 => ?_)
     have gx21 := jrg (rfl : x21.toInt = x21.toInt)
     refine va_mmin hx hb (hml.trans hl.1.symm) hown (hts _ kw_28_4) (hts _ kw_22_11) (hts _ kw_21_1) (hts _ kw_22_12) (Nat.le_of_ble_eq_true rfl) (Nat.le_of_ble_eq_true rfl) (Nat.le_of_ble_eq_true rfl) (Nat.le_of_ble_eq_true rfl) dX1_judge_50 ?_
     refine lv_topi (fun x22 ex22 => ?_)
     have g23 := jmin ex22 rfl rfl
     refine lv_istore (lv' := [(9, .int x22), (8, .int x14), (7, .int x13), (6, .int x12), (5, .int x9), (0, .ref (ad 31)), (1, .int a1), (2, .ref (ad 17)), (3, .int a3), (4, .int a4)]) hx hb dX1_judge_53 hl (of_decide_eq_true rfl) rfl (fun ls hl => ?_)
     refine lv_iload hx hb dX1_judge_55 (lv_at hl 1 rfl) ?_
     refine lv_istore (lv' := [(10, .int x14), (9, .int x22), (8, .int x14), (7, .int x13), (6, .int x12), (5, .int x9), (0, .ref (ad 31)), (1, .int a1), (2, .ref (ad 17)), (3, .int a3), (4, .int a4)]) hx hb dX1_judge_57 hl (of_decide_eq_true rfl) rfl (fun ls hl => ?_)
     have lp24 : ∀ (n25 : Nat) (x26 : Int32) (σ27 : Nat → Nat → Int32) (H : Heap) (locs : List Loc) (ls : Array Slot), (-x26.toInt + 3000000000 : Int) < n25 → 0 ≤ x26.toInt → (∀ i : Nat, (i < 34 ∨ 35 < i) → σ27 i = σ i) → jH D cI cL ad σ27 τ H → va_S (jA ad) s.heap H locs → lv_has ls 18 [(10, .int x26), (9, .int x22), (8, .int x14), (7, .int x13), (6, .int x12), (5, .int x9), (0, .ref (ad 31)), (1, .int a1), (2, .ref (ad 17)), (3, .int a3), (4, .int a4)] → W p l e ({ frames := 3, cells := 0, slots := 0, locals := 76 }) s m args below meth c H locs 0 0 Q (F0 m 59 ls []) := by
       intro n25
       induction n25 with
       | zero => intro x26 σ27 H locs ls h29 h30; have gx26 := jrg (rfl : x26.toInt = x26.toInt); exact absurd h29 (by omega)
       | succ n25 ihlp24 =>
         intro x26 σ27 H locs ls h29 h30 f31 hP hS hl
         exact by
          have gx26 := jrg (rfl : x26.toInt = x26.toInt)
          refine lv_iload hx hb dX1_judge_59 (lv_at hl 0 rfl) ?_
          refine lv_iload hx hb dX1_judge_61 (lv_at hl 1 rfl) ?_
          refine lv_icmp_gt (tgt := 94) hx hb dX1_judge_63 (of_decide_eq_true rfl) (fun c32 => ?_) (fun c32 => ?_)
          · have kc32 := jlt c32 rfl rfl
            refine lv_aload_n hx hb dX1_judge_94 rfl (lv_at hl 6 rfl) ?_
            refine va_get (D := D) hx hb hts inlX1 hown hK hP 31 (jc_31 cI cL ad σ27 τ) rfl 4 (of_decide_eq_true rfl) (hts _ kw_5_5) (fun _ h9 => h9) rfl dX1_judge_95 ?_
            refine lv_iload hx hb dX1_judge_98 (lv_at hl 3 rfl) ?_
            refine lv_aload_n hx hb dX1_judge_100 rfl (lv_at hl 6 rfl) ?_
            refine va_get (D := D) hx hb hts inlX1 hown hK hP 31 (jc_31 cI cL ad σ27 τ) rfl 1 (of_decide_eq_true rfl) (hts _ kw_5_11) (fun _ h9 => h9) rfl dX1_judge_101 ?_
            refine va_get (D := D) hx hb hts inlX6 hown hK hP 16 (jc_16 cI cL ad σ27 τ) rfl 0 (of_decide_eq_true rfl) (hts _ kw_27_17) (fun _ h9 => h9) rfl dX1_judge_104 ?_
            have m33 : σ27 16 0 = (σ 16 0) := (congrFun (f31 16 (of_decide_eq_true rfl)) 0)
            refine jtopr m33 ?_
            have g34 := jrg (rfl : (σ 16 0).toInt = (σ 16 0).toInt)
            refine lv_iadd hx hb dX1_judge_107 ?_
            refine lv_topi (fun x35 ex35 => ?_)
            exact by
             have tx35 : x35.toInt = 9 * A1 + (σ 16 0).toInt := (jadd ex35 tx13 rfl (by omega) (by omega)).trans (by omega)
             refine lv_iconst (v := 0) hx hb dX1_judge_108 (of_decide_eq_true rfl) ?_
             refine jast hx hb hK hP hJ hA hS (jc_34 cI cL ad σ27 τ) (ja_34 cI cL ad σ27 τ _ _) (jin tx35 (by omega) (by omega)) dX1_judge_109 (fun σ36 H locs eσ36 hP hS => ?_)
             refine lv_iconst (v := 0) hx hb dX1_judge_110 (of_decide_eq_true rfl) ?_
             refine lv_istore (lv' := [(10, .int 0), (9, .int x22), (8, .int x14), (7, .int x13), (6, .int x12), (5, .int x9), (0, .ref (ad 31)), (1, .int a1), (2, .ref (ad 17)), (3, .int a3), (4, .int a4)]) hx hb dX1_judge_111 hl (of_decide_eq_true rfl) rfl (fun ls hl => ?_)
             have lp37 : ∀ (n38 : Nat) (x39 : Int32) (σ47 : Nat → Nat → Int32) (H : Heap) (locs : List Loc) (ls : Array Slot), (-x39.toInt + 4 : Int) < n38 → 0 ≤ x39.toInt → x39.toInt ≤ 4 → (∀ i : Nat, (i < 24 ∨ 25 < i) ∧ (i < 29 ∨ 30 < i) ∧ (i < 34 ∨ 35 < i) → σ47 i = σ36 i) → jH D cI cL ad σ47 τ H → va_S (jA ad) s.heap H locs → lv_has ls 18 [(10, .int x39), (9, .int x22), (8, .int x14), (7, .int x13), (6, .int x12), (5, .int x9), (0, .ref (ad 31)), (1, .int a1), (2, .ref (ad 17)), (3, .int a3), (4, .int a4)] → W p l e ({ frames := 3, cells := 0, slots := 0, locals := 76 }) s m args below meth c H locs 0 0 Q (F0 m 113 ls []) := by
               intro n38
               induction n38 with
               | zero => intro x39 σ47 H locs ls h49 h50 h51; exact absurd h49 (by omega)
               | succ n38 ihlp37 =>
                 intro x39 σ47 H locs ls h49 h50 h51 f52 hP hS hl
                 exact by
                  refine lv_iload hx hb dX1_judge_113 (lv_at hl 0 rfl) ?_
                  refine lv_iconst (v := 4) hx hb dX1_judge_115 (of_decide_eq_true rfl) ?_
                  refine lv_icmp_ge (tgt := 316) hx hb dX1_judge_116 (of_decide_eq_true rfl) (fun c53 => ?_) (fun c53 => ?_)
                  · have kc53 := jle c53 jz_4 rfl
                    exact hret σ47 τ _ _ _ _ ⟨rfl, (fun i hi => ((f52 i hi).trans ((jnp i eσ36 (imp_95 i hi)).trans (f31 i (imp_96 i hi))))), trivial⟩ hP hS dX1_judge_316
                  · have kc53 := jnle c53 jz_4 rfl
                    refine lv_aload_n hx hb dX1_judge_119 rfl (lv_at hl 6 rfl) ?_
                    refine va_get (D := D) hx hb hts inlX1 hown hK hP 31 (jc_31 cI cL ad σ47 τ) rfl 3 (of_decide_eq_true rfl) (hts _ kw_5_4) (fun _ h9 => h9) rfl dX1_judge_120 ?_
                    refine lv_iload_n hx hb dX1_judge_123 rfl (lv_at hl 7 rfl) ?_
                    refine lv_iconst (v := 4) hx hb dX1_judge_124 (of_decide_eq_true rfl) ?_
                    refine lv_imul hx hb dX1_judge_125 ?_
                    refine lv_topi (fun x54 ex54 => ?_)
                    exact by
                     have tx54 : x54.toInt = 4 * A1 := (jmul ex54 t1 jz_4 (by omega) (by omega)).trans (by omega)
                     refine lv_iload hx hb dX1_judge_126 (lv_at hl 0 rfl) ?_
                     have g55 := jrg (rfl : x39.toInt = x39.toInt)
                     refine lv_iadd hx hb dX1_judge_128 ?_
                     refine lv_topi (fun x56 ex56 => ?_)
                     have tx56 : x56.toInt = 4 * A1 + x39.toInt := (jadd ex56 tx54 rfl (by omega) (by omega)).trans (by omega)
                     refine jald hx hb hK hP (jc_33 cI cL ad σ47 τ) (jin tx56 (by omega) (by omega)) dX1_judge_129 ?_
                     have w57 : ∀ k : Nat, k < 1400 → (-1) ≤ (σ47 33 k).toInt ∧ (σ47 33 k).toInt ≤ 350 := (jrr_fr (f52 33 (of_decide_eq_true rfl)) (jrr_fr (jnp 33 eσ36 (of_decide_eq_true rfl)) (jrr_fr (f31 33 (of_decide_eq_true rfl)) w6)))
                     have g58 := w57 _ (jnat (x := x56) tx56 (n := 1400) (by omega) (of_decide_eq_true rfl))
                     exact by
                      refine lv_topi (fun x59 ex59 => ?_)
                      rw [← ex59] at g58
                      refine lv_bipush (v := 9) hx hb dX1_judge_130 (of_decide_eq_true rfl) ?_
                      have g60 := jrg (rfl : x59.toInt = x59.toInt)
                      refine lv_imul hx hb dX1_judge_132 ?_
                      refine lv_topi (fun x61 ex61 => ?_)
                      have tx61 : x61.toInt = 9 * x59.toInt := (jmul ex61 rfl jz_9 (by omega) (by omega)).trans (by omega)
                      refine lv_istore (lv' := [(11, .int x61), (10, .int x39), (9, .int x22), (8, .int x14), (7, .int x13), (6, .int x12), (5, .int x9), (0, .ref (ad 31)), (1, .int a1), (2, .ref (ad 17)), (3, .int a3), (4, .int a4)]) hx hb dX1_judge_133 hl (of_decide_eq_true rfl) rfl (fun ls hl => ?_)
                      refine lv_iload hx hb dX1_judge_135 (lv_at hl 0 rfl) ?_
                      exact by
                       refine lv_if_ge (tgt := 143) hx hb dX1_judge_137 (of_decide_eq_true rfl) (fun c62 => ?_) (fun c62 => ?_)
                       · have kc62 := jle c62 jz_0 tx61
                         refine lv_iload hx hb dX1_judge_143 (lv_at hl 6 rfl) ?_
                         refine lv_iload hx hb dX1_judge_145 (lv_at hl 1 rfl) ?_
                         refine jcallS (As := [.int x9, .int x39]) (rest := []) ⟨hx, hb, hml, hown, hts⟩ hK hP hA hS hZ (c_X0_steps l D cI cL ad zz hJ σ47 τ x9 (x9.toInt) rfl x39 (x39.toInt) rfl) cw_RX1_136 ⟨Nat.le_of_ble_eq_true rfl, Nat.le_of_ble_eq_true rfl⟩ rfl rfl rfl hl.1 rfl (Nat.le_of_ble_eq_true rfl) dX1_judge_147 ⟨Nat.zero_le _, Nat.zero_le _⟩ (fun r64 σ63 τ63 H locs h63 hP hS => ?_)
                         obtain ⟨⟨rfl, rfl⟩, w65, h63⟩ := h63
                         have k66 := congrArg Int32.toInt w65
                         have h67 := h63
                         obtain ⟨q69, k68⟩ := h67
                         refine lv_istore (lv' := [(12, .int r64), (11, .int x61), (10, .int x39), (9, .int x22), (8, .int x14), (7, .int x13), (6, .int x12), (5, .int x9), (0, .ref (ad 31)), (1, .int a1), (2, .ref (ad 17)), (3, .int a3), (4, .int a4)]) hx hb dX1_judge_150 hl (of_decide_eq_true rfl) rfl (fun ls hl => ?_)
                         refine lv_iload hx hb dX1_judge_152 (lv_at hl 7 rfl) ?_
                         refine lv_iload hx hb dX1_judge_154 (lv_at hl 2 rfl) ?_
                         refine jcallS (As := [.int x9, .int x39]) (rest := []) ⟨hx, hb, hml, hown, hts⟩ hK hP hA hS hZ (c_X0_left l D cI cL ad zz hJ σ47 τ x9 (x9.toInt) rfl x39 (x39.toInt) rfl) cw_RX1_123 ⟨Nat.le_of_ble_eq_true rfl, Nat.le_of_ble_eq_true rfl⟩ rfl rfl rfl hl.1 rfl (Nat.le_of_ble_eq_true rfl) dX1_judge_156 ⟨Nat.zero_le _, Nat.zero_le _⟩ (fun r71 σ70 τ70 H locs h70 hP hS => ?_)
                         obtain ⟨⟨rfl, rfl⟩, w72, h70⟩ := h70
                         have k73 := congrArg Int32.toInt w72
                         have h74 := h70
                         obtain ⟨q76, k75⟩ := h74
                         refine lv_istore (lv' := [(13, .int r71), (12, .int r64), (11, .int x61), (10, .int x39), (9, .int x22), (8, .int x14), (7, .int x13), (6, .int x12), (5, .int x9), (0, .ref (ad 31)), (1, .int a1), (2, .ref (ad 17)), (3, .int a3), (4, .int a4)]) hx hb dX1_judge_159 hl (of_decide_eq_true rfl) rfl (fun ls hl => ?_)
                         refine lv_iload hx hb dX1_judge_161 (lv_at hl 5 rfl) ?_
                         refine lv_istore (lv' := [(14, .int x14), (13, .int r71), (12, .int r64), (11, .int x61), (10, .int x39), (9, .int x22), (8, .int x14), (7, .int x13), (6, .int x12), (5, .int x9), (0, .ref (ad 31)), (1, .int a1), (2, .ref (ad 17)), (3, .int a3), (4, .int a4)]) hx hb dX1_judge_163 hl (of_decide_eq_true rfl) rfl (fun ls hl => ?_)
                         have lp77 : ∀ (n78 : Nat) (x79 : Int32) (σ83 : Nat → Nat → Int32) (H : Heap) (locs : List Loc) (ls : Array Slot), (-x79.toInt + 3000000000 : Int) < n78 → 0 ≤ x79.toInt → (∀ i : Nat, (i < 24 ∨ 25 < i) ∧ (i < 29 ∨ 30 < i) ∧ (i < 34 ∨ 35 < i) → σ83 i = σ47 i) → jH D cI cL ad σ83 τ H → va_S (jA ad) s.heap H locs → lv_has ls 18 [(14, .int x79), (13, .int r71), (12, .int r64), (11, .int x61), (10, .int x39), (9, .int x22), (8, .int x14), (7, .int x13), (6, .int x12), (5, .int x9), (0, .ref (ad 31)), (1, .int a1), (2, .ref (ad 17)), (3, .int a3), (4, .int a4)] → W p l e ({ frames := 3, cells := 0, slots := 0, locals := 76 }) s m args below meth c H locs 0 0 Q (F0 m 165 ls []) := by
                           intro n78
                           induction n78 with
                           | zero => intro x79 σ83 H locs ls h85 h86; have gx79 := jrg (rfl : x79.toInt = x79.toInt); exact absurd h85 (by omega)
                           | succ n78 ihlp77 =>
                             intro x79 σ83 H locs ls h85 h86 f87 hP hS hl
                             exact by
                              have gx79 := jrg (rfl : x79.toInt = x79.toInt)
                              refine lv_iload hx hb dX1_judge_165 (lv_at hl 0 rfl) ?_
                              refine lv_iload hx hb dX1_judge_167 (lv_at hl 5 rfl) ?_
                              refine lv_icmp_gt (tgt := 310) hx hb dX1_judge_169 (of_decide_eq_true rfl) (fun c88 => ?_) (fun c88 => ?_)
                              · have kc88 := jlt c88 rfl rfl
                                obtain ⟨x89, ex89⟩ : ∃ y : Int32, y = x39 + 1 := ⟨_, rfl⟩
                                have tx89 : x89.toInt = x39.toInt + 1 := (jadd ex89 rfl jz_1 (by omega) (by omega)).trans (by omega)
                                refine lv_iinc (v := x89) (lv' := [(10, .int x89), (14, .int x79), (13, .int r71), (12, .int r64), (11, .int x61), (9, .int x22), (8, .int x14), (7, .int x13), (6, .int x12), (5, .int x9), (0, .ref (ad 31)), (1, .int a1), (2, .ref (ad 17)), (3, .int a3), (4, .int a4)]) hx hb dX1_judge_310 hl (k := 4) rfl (by rw [ex89]; rfl) (of_decide_eq_true rfl) rfl (fun ls hl => ?_)
                                refine lv_goto (tgt := 113) hx hb dX1_judge_313 (of_decide_eq_true rfl) ?_
                                exact by exact ihlp37 x89 σ83 _ _ ls (by have h90 := tx89; omega) (by have h90 := tx89; omega) (by have h90 := tx89; omega) (fun i hi => ((f87 i hi).trans (f52 i hi)))    hP hS (lv_sub hl [0, 5, 6, 7, 8, 9, 10, 11, 12, 13, 14] rfl)
                              · exact by
                                 have kc88 := jnlt c88 rfl rfl
                                 refine lv_aload_n hx hb dX1_judge_172 rfl (lv_at hl 10 rfl) ?_
                                 refine va_get (D := D) hx hb hts inlX1 hown hK hP 31 (jc_31 cI cL ad σ83 τ) rfl 0 (of_decide_eq_true rfl) (hts _ kw_5_10) (fun _ h9 => h9) rfl dX1_judge_173 ?_
                                 refine lv_iload hx hb dX1_judge_176 (lv_at hl 4 rfl) ?_
                                 refine lv_aload_n hx hb dX1_judge_178 rfl (lv_at hl 12 rfl) ?_
                                 refine lv_iload hx hb dX1_judge_179 (lv_at hl 0 rfl) ?_
                                 refine jald hx hb hK hP (jc_17 cI cL ad σ83 τ) (jin rfl (by omega) (by omega)) dX1_judge_181 ?_
                                 have w90 : ∀ k : Nat, k < 8 → 0 ≤ (σ83 17 k).toInt ∧ (σ83 17 k).toInt ≤ 3 := (jrr_fr (f87 17 (of_decide_eq_true rfl)) (jrr_fr (f52 17 (of_decide_eq_true rfl)) (jrr_fr (jnp 17 eσ36 (of_decide_eq_true rfl)) (jrr_fr (f31 17 (of_decide_eq_true rfl)) w4))))
                                 have g91 := w90 _ (jnat (x := x79) rfl (n := 8) (by omega) (of_decide_eq_true rfl))
                                 exact by
                                  refine lv_topi (fun x92 ex92 => ?_)
                                  rw [← ex92] at g91
                                  refine lv_iload hx hb dX1_judge_182 (lv_at hl 2 rfl) ?_
                                  refine jcallV (As := [.int x39, .int x92, .int r64]) (rest := []) ⟨hx, hb, hml, hown, hts⟩ hK hP hA hS hZ (c_X5_runsOf_26 l D cI cL ad zz hJ σ83 τ x39 (x39.toInt) rfl x92 (x92.toInt) rfl r64 (r64.toInt) rfl) cw_RX1_139 (jc_26 cI cL ad σ83 τ) rfl ⟨Nat.le_of_ble_eq_true rfl, Nat.le_of_ble_eq_true rfl⟩ rfl rfl rfl hl.1 rfl (Nat.le_of_ble_eq_true rfl) dX1_judge_184 ⟨Nat.zero_le _, Nat.zero_le _⟩ (fun r94 σ93 τ93 H locs h93 hP hS => ?_)
                                  obtain ⟨⟨rfl, rfl⟩, h93⟩ := h93
                                  refine lv_istore (lv' := [(15, .int r94), (14, .int x79), (13, .int r71), (12, .int r64), (11, .int x61), (10, .int x39), (9, .int x22), (8, .int x14), (7, .int x13), (6, .int x12), (5, .int x9), (0, .ref (ad 31)), (1, .int a1), (2, .ref (ad 17)), (3, .int a3), (4, .int a4)]) hx hb dX1_judge_187 hl (of_decide_eq_true rfl) rfl (fun ls hl => ?_)
                                  refine lv_aload_n hx hb dX1_judge_189 rfl (lv_at hl 11 rfl) ?_
                                  refine va_get (D := D) hx hb hts inlX1 hown hK hP 31 (jc_31 cI cL ad σ83 τ) rfl 0 (of_decide_eq_true rfl) (hts _ kw_5_10) (fun _ h9 => h9) rfl dX1_judge_190 ?_
                                  refine lv_iload hx hb dX1_judge_193 (lv_at hl 5 rfl) ?_
                                  refine lv_aload_n hx hb dX1_judge_195 rfl (lv_at hl 13 rfl) ?_
                                  refine lv_iload hx hb dX1_judge_196 (lv_at hl 1 rfl) ?_
                                  exact by
                                   refine jald hx hb hK hP (jc_17 cI cL ad σ83 τ) (jin rfl (by omega) (by omega)) dX1_judge_198 ?_
                                   have g95 := w90 _ (jnat (x := x79) rfl (n := 8) (by omega) (of_decide_eq_true rfl))
                                   refine lv_topi (fun x96 ex96 => ?_)
                                   rw [← ex96] at g95
                                   refine lv_iload hx hb dX1_judge_199 (lv_at hl 3 rfl) ?_
                                   refine lv_iload hx hb dX1_judge_201 (lv_at hl 2 rfl) ?_
                                   refine lv_aload_n hx hb dX1_judge_203 rfl (lv_at hl 11 rfl) ?_
                                   refine va_get (D := D) hx hb hts inlX1 hown hK hP 31 (jc_31 cI cL ad σ83 τ) rfl 10 (of_decide_eq_true rfl) (hts _ kw_28_9) (fun _ h9 => h9) rfl dX1_judge_204 ?_
                                   have m97 : σ83 31 10 = (σ 31 10) := ((congrFun (f87 31 (of_decide_eq_true rfl)) 10).trans ((congrFun (f52 31 (of_decide_eq_true rfl)) 10).trans ((congrFun (jnp 31 eσ36 (of_decide_eq_true rfl)) 10).trans (congrFun (f31 31 (of_decide_eq_true rfl)) 10))))
                                   exact by
                                    refine jtopr m97 ?_
                                    refine lv_iload hx hb dX1_judge_207 (lv_at hl 9 rfl) ?_
                                    have g98 := jrg (rfl : (σ 31 10).toInt = (σ 31 10).toInt)
                                    refine lv_iadd hx hb dX1_judge_209 ?_
                                    refine lv_topi (fun x99 ex99 => ?_)
                                    have gx99 := jrg (rfl : x99.toInt = x99.toInt)
                                    refine lv_iload hx hb dX1_judge_210 (lv_at hl 1 rfl) ?_
                                    have I100 : jI22 σ83 := jI22_fr ((congrFun (f87 22 (of_decide_eq_true rfl)) 0).trans ((congrFun (f52 22 (of_decide_eq_true rfl)) 0).trans ((congrFun (jnp 22 eσ36 (of_decide_eq_true rfl)) 0).trans (congrFun (f31 22 (of_decide_eq_true rfl)) 0)))) ((f87 23 (of_decide_eq_true rfl)).trans ((f52 23 (of_decide_eq_true rfl)).trans ((jnp 23 eσ36 (of_decide_eq_true rfl)).trans (f31 23 (of_decide_eq_true rfl))))) hI22
                                    refine jcallV (As := [.int x39, .int x96, .int r64, .int r71, .int x99, .int x79]) (rest := []) ⟨hx, hb, hml, hown, hts⟩ hK hP hA hS hZ (c_X5_outOf_26 l D cI cL ad zz hJ σ83 τ x39 (x39.toInt) rfl x96 (x96.toInt) rfl r64 (r64.toInt) rfl r71 (r71.toInt) rfl x99 (x99.toInt) rfl x79 (x79.toInt) rfl I100) cw_RX1_142 (jc_26 cI cL ad σ83 τ) rfl ⟨Nat.le_of_ble_eq_true rfl, Nat.le_of_ble_eq_true rfl⟩ rfl rfl rfl hl.1 rfl (Nat.le_of_ble_eq_true rfl) dX1_judge_212 ⟨Nat.zero_le _, Nat.zero_le _⟩ (fun r102 σ101 τ101 H locs h101 hP hS => ?_)
                                    obtain ⟨rfl, f103, h101⟩ := h101
                                    refine lv_istore (lv' := [(16, .int r102), (15, .int r94), (14, .int x79), (13, .int r71), (12, .int r64), (11, .int x61), (10, .int x39), (9, .int x22), (8, .int x14), (7, .int x13), (6, .int x12), (5, .int x9), (0, .ref (ad 31)), (1, .int a1), (2, .ref (ad 17)), (3, .int a3), (4, .int a4)]) hx hb dX1_judge_215 hl (of_decide_eq_true rfl) rfl (fun ls hl => ?_)
                                    refine lv_aload_n hx hb dX1_judge_217 rfl (lv_at hl 12 rfl) ?_
                                    refine va_get (D := D) hx hb hts inlX1 hown hK hP 31 (jc_31 cI cL ad σ101 τ) rfl 1 (of_decide_eq_true rfl) (hts _ kw_5_11) (fun _ h9 => h9) rfl dX1_judge_218 ?_
                                    refine lv_iload hx hb dX1_judge_221 (lv_at hl 1 rfl) ?_
                                    refine lv_iload hx hb dX1_judge_223 (lv_at hl 0 rfl) ?_
                                    refine lv_aload_n hx hb dX1_judge_225 rfl (lv_at hl 12 rfl) ?_
                                    refine va_get (D := D) hx hb hts inlX1 hown hK hP 31 (jc_31 cI cL ad σ101 τ) rfl 4 (of_decide_eq_true rfl) (hts _ kw_5_5) (fun _ h9 => h9) rfl dX1_judge_226 ?_
                                    refine lv_iload hx hb dX1_judge_229 (lv_at hl 5 rfl) ?_
                                    refine lv_iload hx hb dX1_judge_231 (lv_at hl 2 rfl) ?_
                                    have g105 := jrg (rfl : x79.toInt = x79.toInt)
                                    refine lv_iadd hx hb dX1_judge_233 ?_
                                    refine lv_topi (fun x106 ex106 => ?_)
                                    exact by
                                     have tx106 : x106.toInt = 9 * x59.toInt + x79.toInt := (jadd ex106 tx61 rfl (by omega) (by omega)).trans (by omega)
                                     refine lv_iconst (v := 1) hx hb dX1_judge_234 (of_decide_eq_true rfl) ?_
                                     refine lv_iadd hx hb dX1_judge_235 ?_
                                     refine lv_topi (fun x107 ex107 => ?_)
                                     have tx107 : x107.toInt = 9 * x59.toInt + x79.toInt + 1 := (jadd ex107 tx106 jz_1 (by omega) (by omega)).trans (by omega)
                                     refine jald hx hb hK hP (jc_34 cI cL ad σ101 τ) (jin tx107 (by omega) (by omega)) dX1_judge_236 ?_
                                     refine lv_topi (fun x108 ex108 => ?_)
                                     refine lv_aload_n hx hb dX1_judge_237 rfl (lv_at hl 12 rfl) ?_
                                     refine va_get (D := D) hx hb hts inlX1 hown hK hP 31 (jc_31 cI cL ad σ101 τ) rfl 4 (of_decide_eq_true rfl) (hts _ kw_5_5) (fun _ h9 => h9) rfl dX1_judge_238 ?_
                                     exact by
                                      refine lv_iload hx hb dX1_judge_241 (lv_at hl 5 rfl) ?_
                                      refine lv_iload hx hb dX1_judge_243 (lv_at hl 2 rfl) ?_
                                      refine lv_iadd hx hb dX1_judge_245 ?_
                                      refine lv_topi (fun x109 ex109 => ?_)
                                      have tx109 : x109.toInt = 9 * x59.toInt + x79.toInt := (jadd ex109 tx61 rfl (by omega) (by omega)).trans (by omega)
                                      refine jald hx hb hK hP (jc_34 cI cL ad σ101 τ) (jin tx109 (by omega) (by omega)) dX1_judge_246 ?_
                                      refine lv_topi (fun x110 ex110 => ?_)
                                      refine jcallV (As := [.int r94, .int r102, .int x108, .int x110]) (rest := []) ⟨hx, hb, hml, hown, hts⟩ hK hP hA hS hZ (c_X6_meanOf_16 l D cI cL ad zz hJ σ101 τ r94 (r94.toInt) rfl r102 (r102.toInt) rfl x108 (x108.toInt) rfl x110 (x110.toInt) rfl) cw_RX1_146 (jc_16 cI cL ad σ101 τ) rfl ⟨Nat.le_of_ble_eq_true rfl, Nat.le_of_ble_eq_true rfl⟩ rfl rfl rfl hl.1 rfl (Nat.le_of_ble_eq_true rfl) dX1_judge_247 ⟨Nat.zero_le _, Nat.zero_le _⟩ (fun r112 σ111 τ111 H locs h111 hP hS => ?_)
                                      obtain ⟨⟨rfl, rfl⟩, h111⟩ := h111
                                      exact by
                                       refine lv_istore (lv' := [(17, .int r112), (16, .int r102), (15, .int r94), (14, .int x79), (13, .int r71), (12, .int r64), (11, .int x61), (10, .int x39), (9, .int x22), (8, .int x14), (7, .int x13), (6, .int x12), (5, .int x9), (0, .ref (ad 31)), (1, .int a1), (2, .ref (ad 17)), (3, .int a3), (4, .int a4)]) hx hb dX1_judge_250 hl (of_decide_eq_true rfl) rfl (fun ls hl => ?_)
                                       refine lv_aload_n hx hb dX1_judge_252 rfl (lv_at hl 13 rfl) ?_
                                       refine va_get (D := D) hx hb hts inlX1 hown hK hP 31 (jc_31 cI cL ad σ101 τ) rfl 5 (of_decide_eq_true rfl) (hts _ kw_5_6) (fun _ h9 => h9) rfl dX1_judge_253 ?_
                                       refine lv_iload hx hb dX1_judge_256 (lv_at hl 10 rfl) ?_
                                       refine lv_iload hx hb dX1_judge_258 (lv_at hl 3 rfl) ?_
                                       refine lv_iadd hx hb dX1_judge_260 ?_
                                       refine lv_topi (fun x113 ex113 => ?_)
                                       have tx113 : x113.toInt = 9 * A1 + x79.toInt := (jadd ex113 tx13 rfl (by omega) (by omega)).trans (by omega)
                                       refine jald hx hb hK hP (jc_35 cI cL ad σ101 τ) (jin tx113 (by omega) (by omega)) dX1_judge_261 ?_
                                       exact by
                                        refine lv_topi (fun x114 ex114 => ?_)
                                        refine lv_if_lt (tgt := 280) hx hb dX1_judge_262 (of_decide_eq_true rfl) (fun c115 => ?_) (fun c115 => ?_)
                                        · have kc115 := jlt c115 rfl jz_0
                                          refine lv_aload_n hx hb dX1_judge_280 rfl (lv_at hl 13 rfl) ?_
                                          refine va_get (D := D) hx hb hts inlX1 hown hK hP 31 (jc_31 cI cL ad σ101 τ) rfl 4 (of_decide_eq_true rfl) (hts _ kw_5_5) (fun _ h9 => h9) rfl dX1_judge_281 ?_
                                          refine lv_iload hx hb dX1_judge_284 (lv_at hl 10 rfl) ?_
                                          refine lv_iload hx hb dX1_judge_286 (lv_at hl 3 rfl) ?_
                                          refine lv_iadd hx hb dX1_judge_288 ?_
                                          refine lv_topi (fun x116 ex116 => ?_)
                                          exact by
                                           have tx116 : x116.toInt = 9 * A1 + x79.toInt := (jadd ex116 tx13 rfl (by omega) (by omega)).trans (by omega)
                                           refine lv_iload hx hb dX1_judge_289 (lv_at hl 0 rfl) ?_
                                           refine jast hx hb hK hP hJ hA hS (jc_34 cI cL ad σ101 τ) (ja_34 cI cL ad σ101 τ _ _) (jin tx116 (by omega) (by omega)) dX1_judge_291 (fun σ117 H locs eσ117 hP hS => ?_)
                                           refine lv_aload_n hx hb dX1_judge_292 rfl (lv_at hl 13 rfl) ?_
                                           refine va_get (D := D) hx hb hts inlX1 hown hK hP 31 (jc_31 cI cL ad σ117 τ) rfl 5 (of_decide_eq_true rfl) (hts _ kw_5_6) (fun _ h9 => h9) rfl dX1_judge_293 ?_
                                           refine lv_iload hx hb dX1_judge_296 (lv_at hl 10 rfl) ?_
                                           refine lv_iload hx hb dX1_judge_298 (lv_at hl 3 rfl) ?_
                                           refine lv_iadd hx hb dX1_judge_300 ?_
                                           refine lv_topi (fun x118 ex118 => ?_)
                                           exact by
                                            have tx118 : x118.toInt = 9 * A1 + x79.toInt := (jadd ex118 tx13 rfl (by omega) (by omega)).trans (by omega)
                                            refine lv_iload hx hb dX1_judge_301 (lv_at hl 7 rfl) ?_
                                            refine jast hx hb hK hP hJ hA hS (jc_35 cI cL ad σ117 τ) (ja_35 cI cL ad σ117 τ _ _) (jin tx118 (by omega) (by omega)) dX1_judge_303 (fun σ119 H locs eσ119 hP hS => ?_)
                                            obtain ⟨x120, ex120⟩ : ∃ y : Int32, y = x79 + 1 := ⟨_, rfl⟩
                                            have tx120 : x120.toInt = x79.toInt + 1 := (jadd ex120 rfl jz_1 (by omega) (by omega)).trans (by omega)
                                            refine lv_iinc (v := x120) (lv' := [(14, .int x120), (17, .int r112), (16, .int r102), (15, .int r94), (13, .int r71), (12, .int r64), (11, .int x61), (10, .int x39), (9, .int x22), (8, .int x14), (7, .int x13), (6, .int x12), (5, .int x9), (0, .ref (ad 31)), (1, .int a1), (2, .ref (ad 17)), (3, .int a3), (4, .int a4)]) hx hb dX1_judge_304 hl (k := 3) rfl (by rw [ex120]; rfl) (of_decide_eq_true rfl) rfl (fun ls hl => ?_)
                                            refine lv_goto (tgt := 165) hx hb dX1_judge_307 (of_decide_eq_true rfl) ?_
                                            exact by exact ihlp77 x120 σ119 _ _ ls (by have h90 := tx120; omega) (by have h90 := tx120; omega) (fun i hi => ((jnp i eσ119 (imp_97 i hi)).trans ((jnp i eσ117 (imp_95 i hi)).trans ((f103 i (imp_98 i hi)).trans (f87 i hi)))))    hP hS (lv_sub hl [0, 4, 5, 6, 7, 8, 9, 10, 11, 12, 13, 14, 15, 16, 17] rfl)
                                        · have kc115 := jnlt c115 rfl jz_0
                                          exact by
                                           refine lv_iload hx hb dX1_judge_265 (lv_at hl 0 rfl) ?_
                                           refine lv_aload_n hx hb dX1_judge_267 rfl (lv_at hl 13 rfl) ?_
                                           refine va_get (D := D) hx hb hts inlX1 hown hK hP 31 (jc_31 cI cL ad σ101 τ) rfl 4 (of_decide_eq_true rfl) (hts _ kw_5_5) (fun _ h9 => h9) rfl dX1_judge_268 ?_
                                           refine lv_iload hx hb dX1_judge_271 (lv_at hl 10 rfl) ?_
                                           refine lv_iload hx hb dX1_judge_273 (lv_at hl 3 rfl) ?_
                                           refine lv_iadd hx hb dX1_judge_275 ?_
                                           refine lv_topi (fun x121 ex121 => ?_)
                                           have tx121 : x121.toInt = 9 * A1 + x79.toInt := (jadd ex121 tx13 rfl (by omega) (by omega)).trans (by omega)
                                           refine jald hx hb hK hP (jc_34 cI cL ad σ101 τ) (jin tx121 (by omega) (by omega)) dX1_judge_276 ?_
                                           exact by
                                            refine lv_topi (fun x122 ex122 => ?_)
                                            refine lv_icmp_ge (tgt := 304) hx hb dX1_judge_277 (of_decide_eq_true rfl) (fun c123 => ?_) (fun c123 => ?_)
                                            · have kc123 := jle c123 rfl rfl
                                              obtain ⟨x124, ex124⟩ : ∃ y : Int32, y = x79 + 1 := ⟨_, rfl⟩
                                              have tx124 : x124.toInt = x79.toInt + 1 := (jadd ex124 rfl jz_1 (by omega) (by omega)).trans (by omega)
                                              refine lv_iinc (v := x124) (lv' := [(14, .int x124), (17, .int r112), (16, .int r102), (15, .int r94), (13, .int r71), (12, .int r64), (11, .int x61), (10, .int x39), (9, .int x22), (8, .int x14), (7, .int x13), (6, .int x12), (5, .int x9), (0, .ref (ad 31)), (1, .int a1), (2, .ref (ad 17)), (3, .int a3), (4, .int a4)]) hx hb dX1_judge_304 hl (k := 3) rfl (by rw [ex124]; rfl) (of_decide_eq_true rfl) rfl (fun ls hl => ?_)
                                              refine lv_goto (tgt := 165) hx hb dX1_judge_307 (of_decide_eq_true rfl) ?_
                                              exact by exact ihlp77 x124 σ101 _ _ ls (by have h90 := tx124; omega) (by have h90 := tx124; omega) (fun i hi => ((f103 i (imp_98 i hi)).trans (f87 i hi)))    hP hS (lv_sub hl [0, 4, 5, 6, 7, 8, 9, 10, 11, 12, 13, 14, 15, 16, 17] rfl)
                                            · have kc123 := jnle c123 rfl rfl
                                              exact by
                                               refine lv_aload_n hx hb dX1_judge_280 rfl (lv_at hl 13 rfl) ?_
                                               refine va_get (D := D) hx hb hts inlX1 hown hK hP 31 (jc_31 cI cL ad σ101 τ) rfl 4 (of_decide_eq_true rfl) (hts _ kw_5_5) (fun _ h9 => h9) rfl dX1_judge_281 ?_
                                               refine lv_iload hx hb dX1_judge_284 (lv_at hl 10 rfl) ?_
                                               refine lv_iload hx hb dX1_judge_286 (lv_at hl 3 rfl) ?_
                                               refine lv_iadd hx hb dX1_judge_288 ?_
                                               refine lv_topi (fun x125 ex125 => ?_)
                                               have tx125 : x125.toInt = 9 * A1 + x79.toInt := (jadd ex125 tx13 rfl (by omega) (by omega)).trans (by omega)
                                               refine lv_iload hx hb dX1_judge_289 (lv_at hl 0 rfl) ?_
                                               refine jast hx hb hK hP hJ hA hS (jc_34 cI cL ad σ101 τ) (ja_34 cI cL ad σ101 τ _ _) (jin tx125 (by omega) (by omega)) dX1_judge_291 (fun σ126 H locs eσ126 hP hS => ?_)
                                               exact by
                                                refine lv_aload_n hx hb dX1_judge_292 rfl (lv_at hl 13 rfl) ?_
                                                refine va_get (D := D) hx hb hts inlX1 hown hK hP 31 (jc_31 cI cL ad σ126 τ) rfl 5 (of_decide_eq_true rfl) (hts _ kw_5_6) (fun _ h9 => h9) rfl dX1_judge_293 ?_
                                                refine lv_iload hx hb dX1_judge_296 (lv_at hl 10 rfl) ?_
                                                refine lv_iload hx hb dX1_judge_298 (lv_at hl 3 rfl) ?_
                                                refine lv_iadd hx hb dX1_judge_300 ?_
                                                refine lv_topi (fun x127 ex127 => ?_)
                                                have tx127 : x127.toInt = 9 * A1 + x79.toInt := (jadd ex127 tx13 rfl (by omega) (by omega)).trans (by omega)
                                                refine lv_iload hx hb dX1_judge_301 (lv_at hl 7 rfl) ?_
                                                refine jast hx hb hK hP hJ hA hS (jc_35 cI cL ad σ126 τ) (ja_35 cI cL ad σ126 τ _ _) (jin tx127 (by omega) (by omega)) dX1_judge_303 (fun σ128 H locs eσ128 hP hS => ?_)
                                                exact by
                                                 obtain ⟨x129, ex129⟩ : ∃ y : Int32, y = x79 + 1 := ⟨_, rfl⟩
                                                 have tx129 : x129.toInt = x79.toInt + 1 := (jadd ex129 rfl jz_1 (by omega) (by omega)).trans (by omega)
                                                 refine lv_iinc (v := x129) (lv' := [(14, .int x129), (17, .int r112), (16, .int r102), (15, .int r94), (13, .int r71), (12, .int r64), (11, .int x61), (10, .int x39), (9, .int x22), (8, .int x14), (7, .int x13), (6, .int x12), (5, .int x9), (0, .ref (ad 31)), (1, .int a1), (2, .ref (ad 17)), (3, .int a3), (4, .int a4)]) hx hb dX1_judge_304 hl (k := 3) rfl (by rw [ex129]; rfl) (of_decide_eq_true rfl) rfl (fun ls hl => ?_)
                                                 refine lv_goto (tgt := 165) hx hb dX1_judge_307 (of_decide_eq_true rfl) ?_
                                                 exact by exact ihlp77 x129 σ128 _ _ ls (by have h90 := tx129; omega) (by have h90 := tx129; omega) (fun i hi => ((jnp i eσ128 (imp_97 i hi)).trans ((jnp i eσ126 (imp_95 i hi)).trans ((f103 i (imp_98 i hi)).trans (f87 i hi)))))    hP hS (lv_sub hl [0, 4, 5, 6, 7, 8, 9, 10, 11, 12, 13, 14, 15, 16, 17] rfl)
                         exact by exact lp77 3000000001 x14 σ47 _ _ ls (by omega) (by omega) (fun _ _ => rfl)   hP hS hl
                       · have kc62 := jnle c62 jz_0 tx61
                         refine lv_goto (tgt := 310) hx hb dX1_judge_140 (of_decide_eq_true rfl) ?_
                         obtain ⟨x130, ex130⟩ : ∃ y : Int32, y = x39 + 1 := ⟨_, rfl⟩
                         exact by
                          have tx130 : x130.toInt = x39.toInt + 1 := (jadd ex130 rfl jz_1 (by omega) (by omega)).trans (by omega)
                          refine lv_iinc (v := x130) (lv' := [(10, .int x130), (11, .int x61), (9, .int x22), (8, .int x14), (7, .int x13), (6, .int x12), (5, .int x9), (0, .ref (ad 31)), (1, .int a1), (2, .ref (ad 17)), (3, .int a3), (4, .int a4)]) hx hb dX1_judge_310 hl (k := 1) rfl (by rw [ex130]; rfl) (of_decide_eq_true rfl) rfl (fun ls hl => ?_)
                          refine lv_goto (tgt := 113) hx hb dX1_judge_313 (of_decide_eq_true rfl) ?_
                          exact by exact ihlp37 x130 σ47 _ _ ls (by have h90 := tx130; omega) (by have h90 := tx130; omega) (by have h90 := tx130; omega) (fun i hi => (f52 i hi))    hP hS (lv_sub hl [0, 2, 3, 4, 5, 6, 7, 8, 9, 10, 11] rfl)
             exact by exact lp37 1000000 0 σ36 _ _ ls (by have h90 := jz_0; omega) (by have h90 := jz_0; omega) (by have h90 := jz_0; omega) (fun _ _ => rfl)   hP hS hl
          · have kc32 := jnlt c32 rfl rfl
            refine lv_aload_n hx hb dX1_judge_66 rfl (lv_at hl 6 rfl) ?_
            refine va_get (D := D) hx hb hts inlX1 hown hK hP 31 (jc_31 cI cL ad σ27 τ) rfl 4 (of_decide_eq_true rfl) (hts _ kw_5_5) (fun _ h9 => h9) rfl dX1_judge_67 ?_
            refine lv_iload hx hb dX1_judge_70 (lv_at hl 3 rfl) ?_
            exact by
             refine lv_iload hx hb dX1_judge_72 (lv_at hl 0 rfl) ?_
             have g131 := jrg (rfl : x26.toInt = x26.toInt)
             refine lv_iadd hx hb dX1_judge_74 ?_
             refine lv_topi (fun x132 ex132 => ?_)
             have tx132 : x132.toInt = 9 * A1 + x26.toInt := (jadd ex132 tx13 rfl (by omega) (by omega)).trans (by omega)
             refine lv_iconst (v := 0) hx hb dX1_judge_75 (of_decide_eq_true rfl) ?_
             refine jast hx hb hK hP hJ hA hS (jc_34 cI cL ad σ27 τ) (ja_34 cI cL ad σ27 τ _ _) (jin tx132 (by omega) (by omega)) dX1_judge_76 (fun σ133 H locs eσ133 hP hS => ?_)
             refine lv_aload_n hx hb dX1_judge_77 rfl (lv_at hl 6 rfl) ?_
             refine va_get (D := D) hx hb hts inlX1 hown hK hP 31 (jc_31 cI cL ad σ133 τ) rfl 5 (of_decide_eq_true rfl) (hts _ kw_5_6) (fun _ h9 => h9) rfl dX1_judge_78 ?_
             exact by
              refine lv_iload hx hb dX1_judge_81 (lv_at hl 3 rfl) ?_
              refine lv_iload hx hb dX1_judge_83 (lv_at hl 0 rfl) ?_
              refine lv_iadd hx hb dX1_judge_85 ?_
              refine lv_topi (fun x134 ex134 => ?_)
              have tx134 : x134.toInt = 9 * A1 + x26.toInt := (jadd ex134 tx13 rfl (by omega) (by omega)).trans (by omega)
              refine lv_iconst (v := (-1)) hx hb dX1_judge_86 (of_decide_eq_true rfl) ?_
              refine jast hx hb hK hP hJ hA hS (jc_35 cI cL ad σ133 τ) (ja_35 cI cL ad σ133 τ _ _) (jin tx134 (by omega) (by omega)) dX1_judge_87 (fun σ135 H locs eσ135 hP hS => ?_)
              obtain ⟨x136, ex136⟩ : ∃ y : Int32, y = x26 + 1 := ⟨_, rfl⟩
              have tx136 : x136.toInt = x26.toInt + 1 := (jadd ex136 rfl jz_1 (by omega) (by omega)).trans (by omega)
              exact by
               refine lv_iinc (v := x136) (lv' := [(10, .int x136), (9, .int x22), (8, .int x14), (7, .int x13), (6, .int x12), (5, .int x9), (0, .ref (ad 31)), (1, .int a1), (2, .ref (ad 17)), (3, .int a3), (4, .int a4)]) hx hb dX1_judge_88 hl (k := 0) rfl (by rw [ex136]; rfl) (of_decide_eq_true rfl) rfl (fun ls hl => ?_)
               refine lv_goto (tgt := 59) hx hb dX1_judge_91 (of_decide_eq_true rfl) ?_
               exact by exact ihlp24 x136 σ135 _ _ ls (by have h90 := tx136; omega) (by have h90 := tx136; omega) (fun i hi => ((jnp i eσ135 (imp_99 i hi)).trans ((jnp i eσ133 (imp_100 i hi)).trans (f31 i hi))))    hP hS (lv_sub hl [0, 1, 2, 3, 4, 5, 6, 7, 8, 9, 10] rfl)
     exact by exact lp24 3000000001 x14 σ _ _ ls (by omega) (by omega) (fun _ _ => rfl)   hP hS hl
set_option maxHeartbeats 4000000 in
set_option maxRecDepth 100000 in
theorem c_X1_seekFor_31 (l : Launch) (D : va_G) (cI cL : ClassId) (ad zz : Nat → Nat) (hJ : jD ad) (σ : Nat → Nat → Int32) (τ : Nat → Nat → Int64) (a2 : Int32) (A2 : Int) (t2 : a2.toInt = A2) (a3 : Int32) (A3 : Int) (t3 : a3.toInt = A3) (a4 : Int32) (A4 : Int) (t4 : a4.toInt = A4) (a5 : Int32) (A5 : Int) (t5 : a5.toInt = A5) (hI16 : jI16 σ) (hI22 : jI22 σ) (hI31 : jI31 σ) : jMv l yX1_seekFor cX1_seekFor 7 none ({ frames := 4, cells := 0, slots := 0, locals := 113 }) D cI cL ad zz [.ref (ad 31), .ref (ad 17), .int a2, .int a3, .int a4, .int a5] σ τ (fun σ' τ' => τ = τ' ∧ (∀ i : Nat, (i < 24 ∨ 25 < i) ∧ (i < 29 ∨ 37 < i) → σ' i = σ i) ∧ (∀ k : Nat, (k < 8 ∨ 8 < k) ∧ (k < 9 ∨ 9 < k) ∧ (k < 10 ∨ 10 < k) ∧ (k < 11 ∨ 11 < k) ∧ (k < 12 ∨ 12 < k) → σ' 31 k = σ 31 k) ∧ (jI31 σ') ∧ True) := by
  refine jMv.of hJ (by decide +kernel) rfl (Nat.le_of_ble_eq_true rfl) ?_
  intro p e s m args below meth c Q ls hC hret hl hP
  obtain ⟨hx, hb, hr, hml, hown, hts, hK, -, hlocks, hZ⟩ := hC
  have hown : s.vm.findClass RX1 = some m.cls := hown
  have hS : va_S (jA ad) s.heap s.heap [] := va_S.rf
  have hA : ∀ q, jA ad q → jA ad q := fun _ h => h
  have hl : lv_has ls 7 [(0, .ref (ad 31)), (1, .ref (ad 17)), (2, .int a2), (3, .int a3), (4, .int a4), (5, .int a5)] := hl
  have g2 := jrg t2
  have g3 := jrg t3
  have g4 := jrg t4
  have g5 := jrg t5
  obtain ⟨i1, w2, w3⟩ : (0 ≤ (σ 31 8).toInt ∧ (σ 31 8).toInt ≤ 350) ∧ (∀ k : Nat, k < 1400 → (-1) ≤ (σ 33 k).toInt ∧ (σ 33 k).toInt ≤ 350) ∧ (∀ k : Nat, k < 1024 → 0 ≤ (σ 36 k).toInt ∧ (σ 36 k).toInt ≤ 349) := id hI31
  refine lv_aload_n hx hb dX1_seekFor_0 rfl (lv_at hl 0 rfl) ?_
  refine lv_iload_n hx hb dX1_seekFor_1 rfl (lv_at hl 2 rfl) ?_
  refine lv_iload_n hx hb dX1_seekFor_2 rfl (lv_at hl 3 rfl) ?_
  refine jcallVv (As := [.int a2, .int a3]) (rest := []) ⟨hx, hb, hml, hown, hts⟩ hK hP hA hS hZ (c_X1_grow_31 l D cI cL ad zz hJ σ τ a2 (A2) t2 a3 (A3) t3 hI31) cw_RX1_54 (jc_31 cI cL ad σ τ) rfl ⟨Nat.le_of_ble_eq_true rfl, Nat.le_of_ble_eq_true rfl⟩ rfl rfl rfl hl.1 rfl (Nat.le_of_ble_eq_true rfl) dX1_seekFor_3 ⟨Nat.zero_le _, Nat.zero_le _⟩ (fun σ4 τ4 H locs h4 hP hS => ?_)
  obtain ⟨rfl, f6, f7, I8, h4⟩ := h4
  obtain ⟨i10, w11, w12⟩ : (0 ≤ (σ4 31 8).toInt ∧ (σ4 31 8).toInt ≤ 350) ∧ (∀ k : Nat, k < 1400 → (-1) ≤ (σ4 33 k).toInt ∧ (σ4 33 k).toInt ≤ 350) ∧ (∀ k : Nat, k < 1024 → 0 ≤ (σ4 36 k).toInt ∧ (σ4 36 k).toInt ≤ 349) := id I8
  refine lv_aload_n hx hb dX1_seekFor_6 rfl (lv_at hl 0 rfl) ?_
  refine va_get (D := D) hx hb hts inlX1 hown hK hP 31 (jc_31 cI cL ad σ4 τ) rfl 8 (of_decide_eq_true rfl) (hts _ kw_27_22) (fun _ h9 => h9) rfl dX1_seekFor_7 ?_
  refine lv_iconst (v := 1) hx hb dX1_seekFor_10 (of_decide_eq_true rfl) ?_
  have g13 := jrg (rfl : (σ4 31 8).toInt = (σ4 31 8).toInt)
  refine lv_isub hx hb dX1_seekFor_11 ?_
  refine lv_topi (fun x14 ex14 => ?_)
  exact by
   have tx14 : x14.toInt = (σ4 31 8).toInt - 1 := (jsub ex14 rfl jz_1 (by omega) (by omega)).trans (by omega)
   refine lv_istore (lv' := [(6, .int x14), (0, .ref (ad 31)), (1, .ref (ad 17)), (2, .int a2), (3, .int a3), (4, .int a4), (5, .int a5)]) hx hb dX1_seekFor_12 hl (of_decide_eq_true rfl) rfl (fun ls hl => ?_)
   have lp15 : ∀ (n16 : Nat) (x17 : Int32) (σ18 : Nat → Nat → Int32) (H : Heap) (locs : List Loc) (ls : Array Slot), (x17.toInt + 1 : Int) < n16 → (-1) ≤ x17.toInt → x17.toInt ≤ 349 → (∀ i : Nat, (i < 24 ∨ 25 < i) ∧ (i < 29 ∨ 30 < i) ∧ (i < 34 ∨ 35 < i) → σ18 i = σ4 i) → jH D cI cL ad σ18 τ H → va_S (jA ad) s.heap H locs → lv_has ls 7 [(6, .int x17), (0, .ref (ad 31)), (1, .ref (ad 17)), (2, .int a2), (3, .int a3), (4, .int a4), (5, .int a5)] → W p l e ({ frames := 4, cells := 0, slots := 0, locals := 113 }) s m args below meth c H locs 0 0 Q (F0 m 14 ls []) := by
     intro n16
     induction n16 with
     | zero => intro x17 σ18 H locs ls h20 h21 h22; exact absurd h20 (by omega)
     | succ n16 ihlp15 =>
       intro x17 σ18 H locs ls h20 h21 h22 f23 hP hS hl
       refine lv_iload hx hb dX1_seekFor_14 (lv_at hl 0 rfl) ?_
       exact by
        refine lv_if_lt (tgt := 36) hx hb dX1_seekFor_16 (of_decide_eq_true rfl) (fun c24 => ?_) (fun c24 => ?_)
        · have kc24 := jlt c24 rfl jz_0
          have I25 : jI31 σ18 := jI31_fr (congrFun (f23 31 (of_decide_eq_true rfl)) 8) (f23 33 (of_decide_eq_true rfl)) (f23 36 (of_decide_eq_true rfl)) I8
          exact hret σ18 τ _ _ _ _ ⟨rfl, (fun i hi => ((f23 i (imp_101 i hi)).trans (f6 i (imp_102 i hi)))), (fun i hi => ((congrFun (f23 31 (of_decide_eq_true rfl)) i).trans (f7 i hi))), I25, trivial⟩ hP hS dX1_seekFor_36
        · have kc24 := jnlt c24 rfl jz_0
          refine lv_aload_n hx hb dX1_seekFor_19 rfl (lv_at hl 1 rfl) ?_
          refine lv_iload hx hb dX1_seekFor_20 (lv_at hl 0 rfl) ?_
          refine lv_aload_n hx hb dX1_seekFor_22 rfl (lv_at hl 2 rfl) ?_
          refine lv_iload hx hb dX1_seekFor_23 (lv_at hl 5 rfl) ?_
          refine lv_iload hx hb dX1_seekFor_25 (lv_at hl 6 rfl) ?_
          have I26 : jI16 σ18 := jI16_fr ((congrFun (f23 16 (of_decide_eq_true rfl)) 0).trans (congrFun (f6 16 (of_decide_eq_true rfl)) 0)) ((congrFun (f23 16 (of_decide_eq_true rfl)) 1).trans (congrFun (f6 16 (of_decide_eq_true rfl)) 1)) ((congrFun (f23 16 (of_decide_eq_true rfl)) 2).trans (congrFun (f6 16 (of_decide_eq_true rfl)) 2)) ((f23 17 (of_decide_eq_true rfl)).trans (f6 17 (of_decide_eq_true rfl))) hI16
          have I27 : jI22 σ18 := jI22_fr ((congrFun (f23 22 (of_decide_eq_true rfl)) 0).trans (congrFun (f6 22 (of_decide_eq_true rfl)) 0)) ((f23 23 (of_decide_eq_true rfl)).trans (f6 23 (of_decide_eq_true rfl))) hI22
          have I28 : jI31 σ18 := jI31_fr (congrFun (f23 31 (of_decide_eq_true rfl)) 8) (f23 33 (of_decide_eq_true rfl)) (f23 36 (of_decide_eq_true rfl)) I8
          exact by
           refine jcallVv (As := [.int x17, .ref (ad 17), .int a4, .int a5]) (rest := []) ⟨hx, hb, hml, hown, hts⟩ hK hP hA hS hZ (c_X1_judge_31 l D cI cL ad zz hJ σ18 τ x17 (x17.toInt) rfl a4 (A4) t4 a5 (A5) t5 I26 I27 I28 (by omega)) cw_RX1_61 (jc_31 cI cL ad σ18 τ) rfl ⟨Nat.le_of_ble_eq_true rfl, Nat.le_of_ble_eq_true rfl⟩ rfl rfl rfl hl.1 rfl (Nat.le_of_ble_eq_true rfl) dX1_seekFor_27 ⟨Nat.zero_le _, Nat.zero_le _⟩ (fun σ29 τ29 H locs h29 hP hS => ?_)
           obtain ⟨rfl, f31, h29⟩ := h29
           obtain ⟨x33, ex33⟩ : ∃ y : Int32, y = x17 + (-1) := ⟨_, rfl⟩
           have tx33 : x33.toInt = x17.toInt - 1 := (jadd ex33 rfl jz_m1 (by omega) (by omega)).trans (by omega)
           refine lv_iinc (v := x33) (lv' := [(6, .int x33), (0, .ref (ad 31)), (1, .ref (ad 17)), (2, .int a2), (3, .int a3), (4, .int a4), (5, .int a5)]) hx hb dX1_seekFor_30 hl (k := 0) rfl (by rw [ex33]; rfl) (of_decide_eq_true rfl) rfl (fun ls hl => ?_)
           refine lv_goto (tgt := 14) hx hb dX1_seekFor_33 (of_decide_eq_true rfl) ?_
           exact by exact ihlp15 x33 σ29 _ _ ls (by have h90 := tx33; omega) (by have h90 := tx33; omega) (by have h90 := tx33; omega) (fun i hi => ((f31 i hi).trans (f23 i hi)))    hP hS (lv_sub hl [0, 1, 2, 3, 4, 5, 6] rfl)
   exact by exact lp15 1000000 x14 σ4 _ _ ls (by have h90 := tx14; omega) (by have h90 := tx14; omega) (by have h90 := tx14; omega) (fun _ _ => rfl)   hP hS hl
set_option maxHeartbeats 4000000 in
set_option maxRecDepth 100000 in
theorem c_X1_judge_31_v1 (l : Launch) (D : va_G) (cI cL : ClassId) (ad zz : Nat → Nat) (hJ : jD ad) (σ : Nat → Nat → Int32) (τ : Nat → Nat → Int64) (a1 : Int32) (A1 : Int) (t1 : a1.toInt = A1) (a3 : Int32) (A3 : Int) (t3 : a3.toInt = A3) (a4 : Int32) (A4 : Int) (t4 : a4.toInt = A4) (hI16 : jI16 σ) (hI22 : jI22 σ) (hI31 : jI31 σ) (hp0 : 0 ≤ A1 ∧ A1 ≤ 349) : jMv l yX1_judge cX1_judge 18 none ({ frames := 3, cells := 0, slots := 0, locals := 76 }) D cI cL ad zz [.ref (ad 31), .int a1, .ref (ad 1), .int a3, .int a4] σ τ (fun σ' τ' => τ = τ' ∧ (∀ i : Nat, (i < 24 ∨ 25 < i) ∧ (i < 29 ∨ 30 < i) ∧ (i < 34 ∨ 35 < i) → σ' i = σ i) ∧ True) := by
  refine jMv.of hJ (by decide +kernel) rfl (Nat.le_of_ble_eq_true rfl) ?_
  intro p e s m args below meth c Q ls hC hret hl hP
  obtain ⟨hx, hb, hr, hml, hown, hts, hK, -, hlocks, hZ⟩ := hC
  have hown : s.vm.findClass RX1 = some m.cls := hown
  have hS : va_S (jA ad) s.heap s.heap [] := va_S.rf
  have hA : ∀ q, jA ad q → jA ad q := fun _ h => h
  have hl : lv_has ls 18 [(0, .ref (ad 31)), (1, .int a1), (2, .ref (ad 1)), (3, .int a3), (4, .int a4)] := hl
  have g1 := jrg t1
  have g3 := jrg t3
  have g4 := jrg t4
  obtain ⟨i1, i2, i3, w4⟩ : (1 ≤ (σ 16 0).toInt ∧ (σ 16 0).toInt ≤ 8) ∧ (1 ≤ (σ 16 1).toInt ∧ (σ 16 1).toInt ≤ 12) ∧ (0 ≤ (σ 16 2).toInt ∧ (σ 16 2).toInt ≤ 999) ∧ (∀ k : Nat, k < 8 → 0 ≤ (σ 17 k).toInt ∧ (σ 17 k).toInt ≤ 3) := id hI16
  obtain ⟨i5, w6, w7⟩ : (0 ≤ (σ 31 8).toInt ∧ (σ 31 8).toInt ≤ 350) ∧ (∀ k : Nat, k < 1400 → (-1) ≤ (σ 33 k).toInt ∧ (σ 33 k).toInt ≤ 350) ∧ (∀ k : Nat, k < 1024 → 0 ≤ (σ 36 k).toInt ∧ (σ 36 k).toInt ≤ 349) := id hI31
  refine lv_aload_n hx hb dX1_judge_0 rfl (lv_at hl 0 rfl) ?_
  refine va_get (D := D) hx hb hts inlX1 hown hK hP 31 (jc_31 cI cL ad σ τ) rfl 2 (of_decide_eq_true rfl) (hts _ kw_5_3) (fun _ h9 => h9) rfl dX1_judge_1 ?_
  refine lv_iload_n hx hb dX1_judge_4 rfl (lv_at hl 1 rfl) ?_
  exact by
   refine jald hx hb hK hP (jc_32 cI cL ad σ τ) (jin t1 (by omega) (by omega)) dX1_judge_5 ?_
   refine lv_topi (fun x8 ex8 => ?_)
   refine lv_ldc (v := 134217727) hx hb hown (hts _ kw_28_10) dX1_judge_6 ?_
   refine lv_iand hx hb dX1_judge_8 ?_
   refine lv_topi (fun x9 ex9 => ?_)
   have gx9 := jrg (rfl : x9.toInt = x9.toInt)
   have g10 : 0 ≤ x9.toInt ∧ x9.toInt ≤ 134217727 := jmask ex9 27 (of_decide_eq_true rfl) (of_decide_eq_true rfl)
   refine lv_istore (lv' := [(5, .int x9), (0, .ref (ad 31)), (1, .int a1), (2, .ref (ad 1)), (3, .int a3), (4, .int a4)]) hx hb dX1_judge_9 hl (of_decide_eq_true rfl) rfl (fun ls hl => ?_)
   refine lv_aload_n hx hb dX1_judge_11 rfl (lv_at hl 1 rfl) ?_
   refine va_get (D := D) hx hb hts inlX1 hown hK hP 31 (jc_31 cI cL ad σ τ) rfl 2 (of_decide_eq_true rfl) (hts _ kw_5_3) (fun _ h9 => h9) rfl dX1_judge_12 ?_
   refine lv_iload_n hx hb dX1_judge_15 rfl (lv_at hl 2 rfl) ?_
   exact by
    refine jald hx hb hK hP (jc_32 cI cL ad σ τ) (jin t1 (by omega) (by omega)) dX1_judge_16 ?_
    refine lv_topi (fun x11 ex11 => ?_)
    refine lv_bipush (v := 27) hx hb dX1_judge_17 (of_decide_eq_true rfl) ?_
    refine lv_ishr hx hb dX1_judge_19 ?_
    refine lv_topi (fun x12 ex12 => ?_)
    have gx12 := jrg (rfl : x12.toInt = x12.toInt)
    refine lv_istore (lv' := [(6, .int x12), (5, .int x9), (0, .ref (ad 31)), (1, .int a1), (2, .ref (ad 1)), (3, .int a3), (4, .int a4)]) hx hb dX1_judge_20 hl (of_decide_eq_true rfl) rfl (fun ls hl => ?_)
    refine lv_iload_n hx hb dX1_judge_22 rfl (lv_at hl 3 rfl) ?_
    refine lv_bipush (v := 9) hx hb dX1_judge_23 (of_decide_eq_true rfl) ?_
    refine lv_imul hx hb dX1_judge_25 ?_
    refine lv_topi (fun x13 ex13 => ?_)
    exact by
     have tx13 : x13.toInt = 9 * A1 := (jmul ex13 t1 jz_9 (by omega) (by omega)).trans (by omega)
     refine lv_istore (lv' := [(7, .int x13), (6, .int x12), (5, .int x9), (0, .ref (ad 31)), (1, .int a1), (2, .ref (ad 1)), (3, .int a3), (4, .int a4)]) hx hb dX1_judge_26 hl (of_decide_eq_true rfl) rfl (fun ls hl => ?_)
     refine lv_iconst (v := 0) hx hb dX1_judge_28 (of_decide_eq_true rfl) ?_
     refine lv_iload_n hx hb dX1_judge_29 rfl (lv_at hl 6 rfl) ?_
     refine va_mmax hx hb (hml.trans hl.1.symm) hown (hts _ kw_28_5) (hts _ kw_21_0) (hts _ kw_21_1) (hts _ kw_21_2) (Nat.le_of_ble_eq_true rfl) (Nat.le_of_ble_eq_true rfl) (Nat.le_of_ble_eq_true rfl) (Nat.le_of_ble_eq_true rfl) dX1_judge_30 ?_
     refine lv_topi (fun x14 ex14 => ?_)
     have g15 := jmax ex14 jz_0 t3
     refine lv_istore (lv' := [(8, .int x14), (7, .int x13), (6, .int x12), (5, .int x9), (0, .ref (ad 31)), (1, .int a1), (2, .ref (ad 1)), (3, .int a3), (4, .int a4)]) hx hb dX1_judge_33 hl (of_decide_eq_true rfl) rfl (fun ls hl => ?_)
     refine lv_iload hx hb dX1_judge_35 (lv_at hl 8 rfl) ?_
     refine lv_aload_n hx hb dX1_judge_37 rfl (lv_at hl 6 rfl) ?_
     refine jalen (v := 8) hx hb hK hP (jc_1 cI cL ad σ τ) (of_decide_eq_true rfl) dX1_judge_38 ?_
     refine lv_iconst (v := 1) hx hb dX1_judge_39 (of_decide_eq_true rfl) ?_
     refine lv_isub hx hb dX1_judge_40 ?_
     refine jtopr (y := 7) (of_decide_eq_true rfl) ?_
     refine va_mmin hx hb (hml.trans hl.1.symm) hown (hts _ kw_28_4) (hts _ kw_22_11) (hts _ kw_21_1) (hts _ kw_22_12) (Nat.le_of_ble_eq_true rfl) (Nat.le_of_ble_eq_true rfl) (Nat.le_of_ble_eq_true rfl) (Nat.le_of_ble_eq_true rfl) dX1_judge_41 ?_
     refine lv_topi (fun x16 ex16 => ?_)
     have g17 := jmin ex16 t4 jz_7
     refine lv_iload_n hx hb dX1_judge_44 rfl (lv_at hl 7 rfl) ?_
     refine lv_iconst (v := 1) hx hb dX1_judge_45 (of_decide_eq_true rfl) ?_
     refine lv_iadd hx hb dX1_judge_46 ?_
     refine lv_topi (fun x18 ex18 => ?_)
     have gx18 := jrg (rfl : x18.toInt = x18.toInt)
     refine lv_iload hx hb dX1_judge_47 (lv_at hl 2 rfl) ?_
     have g19 := jrg (rfl : x18.toInt = x18.toInt)
     have g20 := jrg (rfl : x12.toInt = x12.toInt)
     refine lv_iadd hx hb dX1_judge_49 ?_
     refine lv_topi (fun x21 ex21 => ?_)
     have gx21 := jrg (rfl : x21.toInt = x21.toInt)
     refine va_mmin hx hb (hml.trans hl.1.symm) hown (hts _ kw_28_4) (hts _ kw_22_11) (hts _ kw_21_1) (hts _ kw_22_12) (Nat.le_of_ble_eq_true rfl) (Nat.le_of_ble_eq_true rfl) (Nat.le_of_ble_eq_true rfl) (Nat.le_of_ble_eq_true rfl) dX1_judge_50 ?_
     refine lv_topi (fun x22 ex22 => ?_)
     have g23 := jmin ex22 rfl rfl
     refine lv_istore (lv' := [(9, .int x22), (8, .int x14), (7, .int x13), (6, .int x12), (5, .int x9), (0, .ref (ad 31)), (1, .int a1), (2, .ref (ad 1)), (3, .int a3), (4, .int a4)]) hx hb dX1_judge_53 hl (of_decide_eq_true rfl) rfl (fun ls hl => ?_)
     refine lv_iload hx hb dX1_judge_55 (lv_at hl 1 rfl) ?_
     refine lv_istore (lv' := [(10, .int x14), (9, .int x22), (8, .int x14), (7, .int x13), (6, .int x12), (5, .int x9), (0, .ref (ad 31)), (1, .int a1), (2, .ref (ad 1)), (3, .int a3), (4, .int a4)]) hx hb dX1_judge_57 hl (of_decide_eq_true rfl) rfl (fun ls hl => ?_)
     have lp24 : ∀ (n25 : Nat) (x26 : Int32) (σ27 : Nat → Nat → Int32) (H : Heap) (locs : List Loc) (ls : Array Slot), (-x26.toInt + 3000000000 : Int) < n25 → 0 ≤ x26.toInt → (∀ i : Nat, (i < 34 ∨ 35 < i) → σ27 i = σ i) → jH D cI cL ad σ27 τ H → va_S (jA ad) s.heap H locs → lv_has ls 18 [(10, .int x26), (9, .int x22), (8, .int x14), (7, .int x13), (6, .int x12), (5, .int x9), (0, .ref (ad 31)), (1, .int a1), (2, .ref (ad 1)), (3, .int a3), (4, .int a4)] → W p l e ({ frames := 3, cells := 0, slots := 0, locals := 76 }) s m args below meth c H locs 0 0 Q (F0 m 59 ls []) := by
       intro n25
       induction n25 with
       | zero => intro x26 σ27 H locs ls h29 h30; have gx26 := jrg (rfl : x26.toInt = x26.toInt); exact absurd h29 (by omega)
       | succ n25 ihlp24 =>
         intro x26 σ27 H locs ls h29 h30 f31 hP hS hl
         exact by
          have gx26 := jrg (rfl : x26.toInt = x26.toInt)
          refine lv_iload hx hb dX1_judge_59 (lv_at hl 0 rfl) ?_
          refine lv_iload hx hb dX1_judge_61 (lv_at hl 1 rfl) ?_
          refine lv_icmp_gt (tgt := 94) hx hb dX1_judge_63 (of_decide_eq_true rfl) (fun c32 => ?_) (fun c32 => ?_)
          · have kc32 := jlt c32 rfl rfl
            refine lv_aload_n hx hb dX1_judge_94 rfl (lv_at hl 6 rfl) ?_
            refine va_get (D := D) hx hb hts inlX1 hown hK hP 31 (jc_31 cI cL ad σ27 τ) rfl 4 (of_decide_eq_true rfl) (hts _ kw_5_5) (fun _ h9 => h9) rfl dX1_judge_95 ?_
            refine lv_iload hx hb dX1_judge_98 (lv_at hl 3 rfl) ?_
            refine lv_aload_n hx hb dX1_judge_100 rfl (lv_at hl 6 rfl) ?_
            refine va_get (D := D) hx hb hts inlX1 hown hK hP 31 (jc_31 cI cL ad σ27 τ) rfl 1 (of_decide_eq_true rfl) (hts _ kw_5_11) (fun _ h9 => h9) rfl dX1_judge_101 ?_
            refine va_get (D := D) hx hb hts inlX6 hown hK hP 16 (jc_16 cI cL ad σ27 τ) rfl 0 (of_decide_eq_true rfl) (hts _ kw_27_17) (fun _ h9 => h9) rfl dX1_judge_104 ?_
            have m33 : σ27 16 0 = (σ 16 0) := (congrFun (f31 16 (of_decide_eq_true rfl)) 0)
            refine jtopr m33 ?_
            have g34 := jrg (rfl : (σ 16 0).toInt = (σ 16 0).toInt)
            refine lv_iadd hx hb dX1_judge_107 ?_
            refine lv_topi (fun x35 ex35 => ?_)
            exact by
             have tx35 : x35.toInt = 9 * A1 + (σ 16 0).toInt := (jadd ex35 tx13 rfl (by omega) (by omega)).trans (by omega)
             refine lv_iconst (v := 0) hx hb dX1_judge_108 (of_decide_eq_true rfl) ?_
             refine jast hx hb hK hP hJ hA hS (jc_34 cI cL ad σ27 τ) (ja_34 cI cL ad σ27 τ _ _) (jin tx35 (by omega) (by omega)) dX1_judge_109 (fun σ36 H locs eσ36 hP hS => ?_)
             refine lv_iconst (v := 0) hx hb dX1_judge_110 (of_decide_eq_true rfl) ?_
             refine lv_istore (lv' := [(10, .int 0), (9, .int x22), (8, .int x14), (7, .int x13), (6, .int x12), (5, .int x9), (0, .ref (ad 31)), (1, .int a1), (2, .ref (ad 1)), (3, .int a3), (4, .int a4)]) hx hb dX1_judge_111 hl (of_decide_eq_true rfl) rfl (fun ls hl => ?_)
             have lp37 : ∀ (n38 : Nat) (x39 : Int32) (σ47 : Nat → Nat → Int32) (H : Heap) (locs : List Loc) (ls : Array Slot), (-x39.toInt + 4 : Int) < n38 → 0 ≤ x39.toInt → x39.toInt ≤ 4 → (∀ i : Nat, (i < 24 ∨ 25 < i) ∧ (i < 29 ∨ 30 < i) ∧ (i < 34 ∨ 35 < i) → σ47 i = σ36 i) → jH D cI cL ad σ47 τ H → va_S (jA ad) s.heap H locs → lv_has ls 18 [(10, .int x39), (9, .int x22), (8, .int x14), (7, .int x13), (6, .int x12), (5, .int x9), (0, .ref (ad 31)), (1, .int a1), (2, .ref (ad 1)), (3, .int a3), (4, .int a4)] → W p l e ({ frames := 3, cells := 0, slots := 0, locals := 76 }) s m args below meth c H locs 0 0 Q (F0 m 113 ls []) := by
               intro n38
               induction n38 with
               | zero => intro x39 σ47 H locs ls h49 h50 h51; exact absurd h49 (by omega)
               | succ n38 ihlp37 =>
                 intro x39 σ47 H locs ls h49 h50 h51 f52 hP hS hl
                 exact by
                  refine lv_iload hx hb dX1_judge_113 (lv_at hl 0 rfl) ?_
                  refine lv_iconst (v := 4) hx hb dX1_judge_115 (of_decide_eq_true rfl) ?_
                  refine lv_icmp_ge (tgt := 316) hx hb dX1_judge_116 (of_decide_eq_true rfl) (fun c53 => ?_) (fun c53 => ?_)
                  · have kc53 := jle c53 jz_4 rfl
                    exact hret σ47 τ _ _ _ _ ⟨rfl, (fun i hi => ((f52 i hi).trans ((jnp i eσ36 (imp_95 i hi)).trans (f31 i (imp_96 i hi))))), trivial⟩ hP hS dX1_judge_316
                  · have kc53 := jnle c53 jz_4 rfl
                    refine lv_aload_n hx hb dX1_judge_119 rfl (lv_at hl 6 rfl) ?_
                    refine va_get (D := D) hx hb hts inlX1 hown hK hP 31 (jc_31 cI cL ad σ47 τ) rfl 3 (of_decide_eq_true rfl) (hts _ kw_5_4) (fun _ h9 => h9) rfl dX1_judge_120 ?_
                    refine lv_iload_n hx hb dX1_judge_123 rfl (lv_at hl 7 rfl) ?_
                    refine lv_iconst (v := 4) hx hb dX1_judge_124 (of_decide_eq_true rfl) ?_
                    refine lv_imul hx hb dX1_judge_125 ?_
                    refine lv_topi (fun x54 ex54 => ?_)
                    exact by
                     have tx54 : x54.toInt = 4 * A1 := (jmul ex54 t1 jz_4 (by omega) (by omega)).trans (by omega)
                     refine lv_iload hx hb dX1_judge_126 (lv_at hl 0 rfl) ?_
                     have g55 := jrg (rfl : x39.toInt = x39.toInt)
                     refine lv_iadd hx hb dX1_judge_128 ?_
                     refine lv_topi (fun x56 ex56 => ?_)
                     have tx56 : x56.toInt = 4 * A1 + x39.toInt := (jadd ex56 tx54 rfl (by omega) (by omega)).trans (by omega)
                     refine jald hx hb hK hP (jc_33 cI cL ad σ47 τ) (jin tx56 (by omega) (by omega)) dX1_judge_129 ?_
                     have w57 : ∀ k : Nat, k < 1400 → (-1) ≤ (σ47 33 k).toInt ∧ (σ47 33 k).toInt ≤ 350 := (jrr_fr (f52 33 (of_decide_eq_true rfl)) (jrr_fr (jnp 33 eσ36 (of_decide_eq_true rfl)) (jrr_fr (f31 33 (of_decide_eq_true rfl)) w6)))
                     have g58 := w57 _ (jnat (x := x56) tx56 (n := 1400) (by omega) (of_decide_eq_true rfl))
                     exact by
                      refine lv_topi (fun x59 ex59 => ?_)
                      rw [← ex59] at g58
                      refine lv_bipush (v := 9) hx hb dX1_judge_130 (of_decide_eq_true rfl) ?_
                      have g60 := jrg (rfl : x59.toInt = x59.toInt)
                      refine lv_imul hx hb dX1_judge_132 ?_
                      refine lv_topi (fun x61 ex61 => ?_)
                      have tx61 : x61.toInt = 9 * x59.toInt := (jmul ex61 rfl jz_9 (by omega) (by omega)).trans (by omega)
                      refine lv_istore (lv' := [(11, .int x61), (10, .int x39), (9, .int x22), (8, .int x14), (7, .int x13), (6, .int x12), (5, .int x9), (0, .ref (ad 31)), (1, .int a1), (2, .ref (ad 1)), (3, .int a3), (4, .int a4)]) hx hb dX1_judge_133 hl (of_decide_eq_true rfl) rfl (fun ls hl => ?_)
                      refine lv_iload hx hb dX1_judge_135 (lv_at hl 0 rfl) ?_
                      exact by
                       refine lv_if_ge (tgt := 143) hx hb dX1_judge_137 (of_decide_eq_true rfl) (fun c62 => ?_) (fun c62 => ?_)
                       · have kc62 := jle c62 jz_0 tx61
                         refine lv_iload hx hb dX1_judge_143 (lv_at hl 6 rfl) ?_
                         refine lv_iload hx hb dX1_judge_145 (lv_at hl 1 rfl) ?_
                         refine jcallS (As := [.int x9, .int x39]) (rest := []) ⟨hx, hb, hml, hown, hts⟩ hK hP hA hS hZ (c_X0_steps l D cI cL ad zz hJ σ47 τ x9 (x9.toInt) rfl x39 (x39.toInt) rfl) cw_RX1_136 ⟨Nat.le_of_ble_eq_true rfl, Nat.le_of_ble_eq_true rfl⟩ rfl rfl rfl hl.1 rfl (Nat.le_of_ble_eq_true rfl) dX1_judge_147 ⟨Nat.zero_le _, Nat.zero_le _⟩ (fun r64 σ63 τ63 H locs h63 hP hS => ?_)
                         obtain ⟨⟨rfl, rfl⟩, w65, h63⟩ := h63
                         have k66 := congrArg Int32.toInt w65
                         have h67 := h63
                         obtain ⟨q69, k68⟩ := h67
                         refine lv_istore (lv' := [(12, .int r64), (11, .int x61), (10, .int x39), (9, .int x22), (8, .int x14), (7, .int x13), (6, .int x12), (5, .int x9), (0, .ref (ad 31)), (1, .int a1), (2, .ref (ad 1)), (3, .int a3), (4, .int a4)]) hx hb dX1_judge_150 hl (of_decide_eq_true rfl) rfl (fun ls hl => ?_)
                         refine lv_iload hx hb dX1_judge_152 (lv_at hl 7 rfl) ?_
                         refine lv_iload hx hb dX1_judge_154 (lv_at hl 2 rfl) ?_
                         refine jcallS (As := [.int x9, .int x39]) (rest := []) ⟨hx, hb, hml, hown, hts⟩ hK hP hA hS hZ (c_X0_left l D cI cL ad zz hJ σ47 τ x9 (x9.toInt) rfl x39 (x39.toInt) rfl) cw_RX1_123 ⟨Nat.le_of_ble_eq_true rfl, Nat.le_of_ble_eq_true rfl⟩ rfl rfl rfl hl.1 rfl (Nat.le_of_ble_eq_true rfl) dX1_judge_156 ⟨Nat.zero_le _, Nat.zero_le _⟩ (fun r71 σ70 τ70 H locs h70 hP hS => ?_)
                         obtain ⟨⟨rfl, rfl⟩, w72, h70⟩ := h70
                         have k73 := congrArg Int32.toInt w72
                         have h74 := h70
                         obtain ⟨q76, k75⟩ := h74
                         refine lv_istore (lv' := [(13, .int r71), (12, .int r64), (11, .int x61), (10, .int x39), (9, .int x22), (8, .int x14), (7, .int x13), (6, .int x12), (5, .int x9), (0, .ref (ad 31)), (1, .int a1), (2, .ref (ad 1)), (3, .int a3), (4, .int a4)]) hx hb dX1_judge_159 hl (of_decide_eq_true rfl) rfl (fun ls hl => ?_)
                         refine lv_iload hx hb dX1_judge_161 (lv_at hl 5 rfl) ?_
                         refine lv_istore (lv' := [(14, .int x14), (13, .int r71), (12, .int r64), (11, .int x61), (10, .int x39), (9, .int x22), (8, .int x14), (7, .int x13), (6, .int x12), (5, .int x9), (0, .ref (ad 31)), (1, .int a1), (2, .ref (ad 1)), (3, .int a3), (4, .int a4)]) hx hb dX1_judge_163 hl (of_decide_eq_true rfl) rfl (fun ls hl => ?_)
                         have lp77 : ∀ (n78 : Nat) (x79 : Int32) (σ83 : Nat → Nat → Int32) (H : Heap) (locs : List Loc) (ls : Array Slot), (-x79.toInt + 3000000000 : Int) < n78 → 0 ≤ x79.toInt → (∀ i : Nat, (i < 24 ∨ 25 < i) ∧ (i < 29 ∨ 30 < i) ∧ (i < 34 ∨ 35 < i) → σ83 i = σ47 i) → jH D cI cL ad σ83 τ H → va_S (jA ad) s.heap H locs → lv_has ls 18 [(14, .int x79), (13, .int r71), (12, .int r64), (11, .int x61), (10, .int x39), (9, .int x22), (8, .int x14), (7, .int x13), (6, .int x12), (5, .int x9), (0, .ref (ad 31)), (1, .int a1), (2, .ref (ad 1)), (3, .int a3), (4, .int a4)] → W p l e ({ frames := 3, cells := 0, slots := 0, locals := 76 }) s m args below meth c H locs 0 0 Q (F0 m 165 ls []) := by
                           intro n78
                           induction n78 with
                           | zero => intro x79 σ83 H locs ls h85 h86; have gx79 := jrg (rfl : x79.toInt = x79.toInt); exact absurd h85 (by omega)
                           | succ n78 ihlp77 =>
                             intro x79 σ83 H locs ls h85 h86 f87 hP hS hl
                             exact by
                              have gx79 := jrg (rfl : x79.toInt = x79.toInt)
                              refine lv_iload hx hb dX1_judge_165 (lv_at hl 0 rfl) ?_
                              refine lv_iload hx hb dX1_judge_167 (lv_at hl 5 rfl) ?_
                              refine lv_icmp_gt (tgt := 310) hx hb dX1_judge_169 (of_decide_eq_true rfl) (fun c88 => ?_) (fun c88 => ?_)
                              · have kc88 := jlt c88 rfl rfl
                                obtain ⟨x89, ex89⟩ : ∃ y : Int32, y = x39 + 1 := ⟨_, rfl⟩
                                have tx89 : x89.toInt = x39.toInt + 1 := (jadd ex89 rfl jz_1 (by omega) (by omega)).trans (by omega)
                                refine lv_iinc (v := x89) (lv' := [(10, .int x89), (14, .int x79), (13, .int r71), (12, .int r64), (11, .int x61), (9, .int x22), (8, .int x14), (7, .int x13), (6, .int x12), (5, .int x9), (0, .ref (ad 31)), (1, .int a1), (2, .ref (ad 1)), (3, .int a3), (4, .int a4)]) hx hb dX1_judge_310 hl (k := 4) rfl (by rw [ex89]; rfl) (of_decide_eq_true rfl) rfl (fun ls hl => ?_)
                                refine lv_goto (tgt := 113) hx hb dX1_judge_313 (of_decide_eq_true rfl) ?_
                                exact by exact ihlp37 x89 σ83 _ _ ls (by have h90 := tx89; omega) (by have h90 := tx89; omega) (by have h90 := tx89; omega) (fun i hi => ((f87 i hi).trans (f52 i hi)))    hP hS (lv_sub hl [0, 5, 6, 7, 8, 9, 10, 11, 12, 13, 14] rfl)
                              · exact by
                                 have kc88 := jnlt c88 rfl rfl
                                 refine lv_aload_n hx hb dX1_judge_172 rfl (lv_at hl 10 rfl) ?_
                                 refine va_get (D := D) hx hb hts inlX1 hown hK hP 31 (jc_31 cI cL ad σ83 τ) rfl 0 (of_decide_eq_true rfl) (hts _ kw_5_10) (fun _ h9 => h9) rfl dX1_judge_173 ?_
                                 refine lv_iload hx hb dX1_judge_176 (lv_at hl 4 rfl) ?_
                                 refine lv_aload_n hx hb dX1_judge_178 rfl (lv_at hl 12 rfl) ?_
                                 refine lv_iload hx hb dX1_judge_179 (lv_at hl 0 rfl) ?_
                                 refine jald hx hb hK hP (jc_1 cI cL ad σ83 τ) (jin rfl (by omega) (by omega)) dX1_judge_181 ?_
                                 refine lv_topi (fun x90 ex90 => ?_)
                                 refine lv_iload hx hb dX1_judge_182 (lv_at hl 2 rfl) ?_
                                 exact by
                                  refine jcallV (As := [.int x39, .int x90, .int r64]) (rest := []) ⟨hx, hb, hml, hown, hts⟩ hK hP hA hS hZ (c_X5_runsOf_26 l D cI cL ad zz hJ σ83 τ x39 (x39.toInt) rfl x90 (x90.toInt) rfl r64 (r64.toInt) rfl) cw_RX1_139 (jc_26 cI cL ad σ83 τ) rfl ⟨Nat.le_of_ble_eq_true rfl, Nat.le_of_ble_eq_true rfl⟩ rfl rfl rfl hl.1 rfl (Nat.le_of_ble_eq_true rfl) dX1_judge_184 ⟨Nat.zero_le _, Nat.zero_le _⟩ (fun r92 σ91 τ91 H locs h91 hP hS => ?_)
                                  obtain ⟨⟨rfl, rfl⟩, h91⟩ := h91
                                  refine lv_istore (lv' := [(15, .int r92), (14, .int x79), (13, .int r71), (12, .int r64), (11, .int x61), (10, .int x39), (9, .int x22), (8, .int x14), (7, .int x13), (6, .int x12), (5, .int x9), (0, .ref (ad 31)), (1, .int a1), (2, .ref (ad 1)), (3, .int a3), (4, .int a4)]) hx hb dX1_judge_187 hl (of_decide_eq_true rfl) rfl (fun ls hl => ?_)
                                  refine lv_aload_n hx hb dX1_judge_189 rfl (lv_at hl 11 rfl) ?_
                                  refine va_get (D := D) hx hb hts inlX1 hown hK hP 31 (jc_31 cI cL ad σ83 τ) rfl 0 (of_decide_eq_true rfl) (hts _ kw_5_10) (fun _ h9 => h9) rfl dX1_judge_190 ?_
                                  refine lv_iload hx hb dX1_judge_193 (lv_at hl 5 rfl) ?_
                                  refine lv_aload_n hx hb dX1_judge_195 rfl (lv_at hl 13 rfl) ?_
                                  refine lv_iload hx hb dX1_judge_196 (lv_at hl 1 rfl) ?_
                                  refine jald hx hb hK hP (jc_1 cI cL ad σ83 τ) (jin rfl (by omega) (by omega)) dX1_judge_198 ?_
                                  exact by
                                   refine lv_topi (fun x93 ex93 => ?_)
                                   refine lv_iload hx hb dX1_judge_199 (lv_at hl 3 rfl) ?_
                                   refine lv_iload hx hb dX1_judge_201 (lv_at hl 2 rfl) ?_
                                   refine lv_aload_n hx hb dX1_judge_203 rfl (lv_at hl 11 rfl) ?_
                                   refine va_get (D := D) hx hb hts inlX1 hown hK hP 31 (jc_31 cI cL ad σ83 τ) rfl 10 (of_decide_eq_true rfl) (hts _ kw_28_9) (fun _ h9 => h9) rfl dX1_judge_204 ?_
                                   have m94 : σ83 31 10 = (σ 31 10) := ((congrFun (f87 31 (of_decide_eq_true rfl)) 10).trans ((congrFun (f52 31 (of_decide_eq_true rfl)) 10).trans ((congrFun (jnp 31 eσ36 (of_decide_eq_true rfl)) 10).trans (congrFun (f31 31 (of_decide_eq_true rfl)) 10))))
                                   refine jtopr m94 ?_
                                   refine lv_iload hx hb dX1_judge_207 (lv_at hl 9 rfl) ?_
                                   have g95 := jrg (rfl : (σ 31 10).toInt = (σ 31 10).toInt)
                                   refine lv_iadd hx hb dX1_judge_209 ?_
                                   refine lv_topi (fun x96 ex96 => ?_)
                                   have gx96 := jrg (rfl : x96.toInt = x96.toInt)
                                   refine lv_iload hx hb dX1_judge_210 (lv_at hl 1 rfl) ?_
                                   have I97 : jI22 σ83 := jI22_fr ((congrFun (f87 22 (of_decide_eq_true rfl)) 0).trans ((congrFun (f52 22 (of_decide_eq_true rfl)) 0).trans ((congrFun (jnp 22 eσ36 (of_decide_eq_true rfl)) 0).trans (congrFun (f31 22 (of_decide_eq_true rfl)) 0)))) ((f87 23 (of_decide_eq_true rfl)).trans ((f52 23 (of_decide_eq_true rfl)).trans ((jnp 23 eσ36 (of_decide_eq_true rfl)).trans (f31 23 (of_decide_eq_true rfl))))) hI22
                                   refine jcallV (As := [.int x39, .int x93, .int r64, .int r71, .int x96, .int x79]) (rest := []) ⟨hx, hb, hml, hown, hts⟩ hK hP hA hS hZ (c_X5_outOf_26 l D cI cL ad zz hJ σ83 τ x39 (x39.toInt) rfl x93 (x93.toInt) rfl r64 (r64.toInt) rfl r71 (r71.toInt) rfl x96 (x96.toInt) rfl x79 (x79.toInt) rfl I97) cw_RX1_142 (jc_26 cI cL ad σ83 τ) rfl ⟨Nat.le_of_ble_eq_true rfl, Nat.le_of_ble_eq_true rfl⟩ rfl rfl rfl hl.1 rfl (Nat.le_of_ble_eq_true rfl) dX1_judge_212 ⟨Nat.zero_le _, Nat.zero_le _⟩ (fun r99 σ98 τ98 H locs h98 hP hS => ?_)
                                   obtain ⟨rfl, f100, h98⟩ := h98
                                   refine lv_istore (lv' := [(16, .int r99), (15, .int r92), (14, .int x79), (13, .int r71), (12, .int r64), (11, .int x61), (10, .int x39), (9, .int x22), (8, .int x14), (7, .int x13), (6, .int x12), (5, .int x9), (0, .ref (ad 31)), (1, .int a1), (2, .ref (ad 1)), (3, .int a3), (4, .int a4)]) hx hb dX1_judge_215 hl (of_decide_eq_true rfl) rfl (fun ls hl => ?_)
                                   refine lv_aload_n hx hb dX1_judge_217 rfl (lv_at hl 12 rfl) ?_
                                   refine va_get (D := D) hx hb hts inlX1 hown hK hP 31 (jc_31 cI cL ad σ98 τ) rfl 1 (of_decide_eq_true rfl) (hts _ kw_5_11) (fun _ h9 => h9) rfl dX1_judge_218 ?_
                                   refine lv_iload hx hb dX1_judge_221 (lv_at hl 1 rfl) ?_
                                   refine lv_iload hx hb dX1_judge_223 (lv_at hl 0 rfl) ?_
                                   refine lv_aload_n hx hb dX1_judge_225 rfl (lv_at hl 12 rfl) ?_
                                   refine va_get (D := D) hx hb hts inlX1 hown hK hP 31 (jc_31 cI cL ad σ98 τ) rfl 4 (of_decide_eq_true rfl) (hts _ kw_5_5) (fun _ h9 => h9) rfl dX1_judge_226 ?_
                                   refine lv_iload hx hb dX1_judge_229 (lv_at hl 5 rfl) ?_
                                   refine lv_iload hx hb dX1_judge_231 (lv_at hl 2 rfl) ?_
                                   have g102 := jrg (rfl : x79.toInt = x79.toInt)
                                   refine lv_iadd hx hb dX1_judge_233 ?_
                                   refine lv_topi (fun x103 ex103 => ?_)
                                   exact by
                                    have tx103 : x103.toInt = 9 * x59.toInt + x79.toInt := (jadd ex103 tx61 rfl (by omega) (by omega)).trans (by omega)
                                    refine lv_iconst (v := 1) hx hb dX1_judge_234 (of_decide_eq_true rfl) ?_
                                    refine lv_iadd hx hb dX1_judge_235 ?_
                                    refine lv_topi (fun x104 ex104 => ?_)
                                    have tx104 : x104.toInt = 9 * x59.toInt + x79.toInt + 1 := (jadd ex104 tx103 jz_1 (by omega) (by omega)).trans (by omega)
                                    refine jald hx hb hK hP (jc_34 cI cL ad σ98 τ) (jin tx104 (by omega) (by omega)) dX1_judge_236 ?_
                                    refine lv_topi (fun x105 ex105 => ?_)
                                    refine lv_aload_n hx hb dX1_judge_237 rfl (lv_at hl 12 rfl) ?_
                                    refine va_get (D := D) hx hb hts inlX1 hown hK hP 31 (jc_31 cI cL ad σ98 τ) rfl 4 (of_decide_eq_true rfl) (hts _ kw_5_5) (fun _ h9 => h9) rfl dX1_judge_238 ?_
                                    exact by
                                     refine lv_iload hx hb dX1_judge_241 (lv_at hl 5 rfl) ?_
                                     refine lv_iload hx hb dX1_judge_243 (lv_at hl 2 rfl) ?_
                                     refine lv_iadd hx hb dX1_judge_245 ?_
                                     refine lv_topi (fun x106 ex106 => ?_)
                                     have tx106 : x106.toInt = 9 * x59.toInt + x79.toInt := (jadd ex106 tx61 rfl (by omega) (by omega)).trans (by omega)
                                     refine jald hx hb hK hP (jc_34 cI cL ad σ98 τ) (jin tx106 (by omega) (by omega)) dX1_judge_246 ?_
                                     refine lv_topi (fun x107 ex107 => ?_)
                                     refine jcallV (As := [.int r92, .int r99, .int x105, .int x107]) (rest := []) ⟨hx, hb, hml, hown, hts⟩ hK hP hA hS hZ (c_X6_meanOf_16 l D cI cL ad zz hJ σ98 τ r92 (r92.toInt) rfl r99 (r99.toInt) rfl x105 (x105.toInt) rfl x107 (x107.toInt) rfl) cw_RX1_146 (jc_16 cI cL ad σ98 τ) rfl ⟨Nat.le_of_ble_eq_true rfl, Nat.le_of_ble_eq_true rfl⟩ rfl rfl rfl hl.1 rfl (Nat.le_of_ble_eq_true rfl) dX1_judge_247 ⟨Nat.zero_le _, Nat.zero_le _⟩ (fun r109 σ108 τ108 H locs h108 hP hS => ?_)
                                     obtain ⟨⟨rfl, rfl⟩, h108⟩ := h108
                                     exact by
                                      refine lv_istore (lv' := [(17, .int r109), (16, .int r99), (15, .int r92), (14, .int x79), (13, .int r71), (12, .int r64), (11, .int x61), (10, .int x39), (9, .int x22), (8, .int x14), (7, .int x13), (6, .int x12), (5, .int x9), (0, .ref (ad 31)), (1, .int a1), (2, .ref (ad 1)), (3, .int a3), (4, .int a4)]) hx hb dX1_judge_250 hl (of_decide_eq_true rfl) rfl (fun ls hl => ?_)
                                      refine lv_aload_n hx hb dX1_judge_252 rfl (lv_at hl 13 rfl) ?_
                                      refine va_get (D := D) hx hb hts inlX1 hown hK hP 31 (jc_31 cI cL ad σ98 τ) rfl 5 (of_decide_eq_true rfl) (hts _ kw_5_6) (fun _ h9 => h9) rfl dX1_judge_253 ?_
                                      refine lv_iload hx hb dX1_judge_256 (lv_at hl 10 rfl) ?_
                                      refine lv_iload hx hb dX1_judge_258 (lv_at hl 3 rfl) ?_
                                      refine lv_iadd hx hb dX1_judge_260 ?_
                                      refine lv_topi (fun x110 ex110 => ?_)
                                      have tx110 : x110.toInt = 9 * A1 + x79.toInt := (jadd ex110 tx13 rfl (by omega) (by omega)).trans (by omega)
                                      refine jald hx hb hK hP (jc_35 cI cL ad σ98 τ) (jin tx110 (by omega) (by omega)) dX1_judge_261 ?_
                                      exact by
                                       refine lv_topi (fun x111 ex111 => ?_)
                                       refine lv_if_lt (tgt := 280) hx hb dX1_judge_262 (of_decide_eq_true rfl) (fun c112 => ?_) (fun c112 => ?_)
                                       · have kc112 := jlt c112 rfl jz_0
                                         refine lv_aload_n hx hb dX1_judge_280 rfl (lv_at hl 13 rfl) ?_
                                         refine va_get (D := D) hx hb hts inlX1 hown hK hP 31 (jc_31 cI cL ad σ98 τ) rfl 4 (of_decide_eq_true rfl) (hts _ kw_5_5) (fun _ h9 => h9) rfl dX1_judge_281 ?_
                                         refine lv_iload hx hb dX1_judge_284 (lv_at hl 10 rfl) ?_
                                         refine lv_iload hx hb dX1_judge_286 (lv_at hl 3 rfl) ?_
                                         refine lv_iadd hx hb dX1_judge_288 ?_
                                         refine lv_topi (fun x113 ex113 => ?_)
                                         exact by
                                          have tx113 : x113.toInt = 9 * A1 + x79.toInt := (jadd ex113 tx13 rfl (by omega) (by omega)).trans (by omega)
                                          refine lv_iload hx hb dX1_judge_289 (lv_at hl 0 rfl) ?_
                                          refine jast hx hb hK hP hJ hA hS (jc_34 cI cL ad σ98 τ) (ja_34 cI cL ad σ98 τ _ _) (jin tx113 (by omega) (by omega)) dX1_judge_291 (fun σ114 H locs eσ114 hP hS => ?_)
                                          refine lv_aload_n hx hb dX1_judge_292 rfl (lv_at hl 13 rfl) ?_
                                          refine va_get (D := D) hx hb hts inlX1 hown hK hP 31 (jc_31 cI cL ad σ114 τ) rfl 5 (of_decide_eq_true rfl) (hts _ kw_5_6) (fun _ h9 => h9) rfl dX1_judge_293 ?_
                                          refine lv_iload hx hb dX1_judge_296 (lv_at hl 10 rfl) ?_
                                          refine lv_iload hx hb dX1_judge_298 (lv_at hl 3 rfl) ?_
                                          refine lv_iadd hx hb dX1_judge_300 ?_
                                          refine lv_topi (fun x115 ex115 => ?_)
                                          exact by
                                           have tx115 : x115.toInt = 9 * A1 + x79.toInt := (jadd ex115 tx13 rfl (by omega) (by omega)).trans (by omega)
                                           refine lv_iload hx hb dX1_judge_301 (lv_at hl 7 rfl) ?_
                                           refine jast hx hb hK hP hJ hA hS (jc_35 cI cL ad σ114 τ) (ja_35 cI cL ad σ114 τ _ _) (jin tx115 (by omega) (by omega)) dX1_judge_303 (fun σ116 H locs eσ116 hP hS => ?_)
                                           obtain ⟨x117, ex117⟩ : ∃ y : Int32, y = x79 + 1 := ⟨_, rfl⟩
                                           have tx117 : x117.toInt = x79.toInt + 1 := (jadd ex117 rfl jz_1 (by omega) (by omega)).trans (by omega)
                                           refine lv_iinc (v := x117) (lv' := [(14, .int x117), (17, .int r109), (16, .int r99), (15, .int r92), (13, .int r71), (12, .int r64), (11, .int x61), (10, .int x39), (9, .int x22), (8, .int x14), (7, .int x13), (6, .int x12), (5, .int x9), (0, .ref (ad 31)), (1, .int a1), (2, .ref (ad 1)), (3, .int a3), (4, .int a4)]) hx hb dX1_judge_304 hl (k := 3) rfl (by rw [ex117]; rfl) (of_decide_eq_true rfl) rfl (fun ls hl => ?_)
                                           refine lv_goto (tgt := 165) hx hb dX1_judge_307 (of_decide_eq_true rfl) ?_
                                           exact by exact ihlp77 x117 σ116 _ _ ls (by have h90 := tx117; omega) (by have h90 := tx117; omega) (fun i hi => ((jnp i eσ116 (imp_97 i hi)).trans ((jnp i eσ114 (imp_95 i hi)).trans ((f100 i (imp_98 i hi)).trans (f87 i hi)))))    hP hS (lv_sub hl [0, 4, 5, 6, 7, 8, 9, 10, 11, 12, 13, 14, 15, 16, 17] rfl)
                                       · have kc112 := jnlt c112 rfl jz_0
                                         exact by
                                          refine lv_iload hx hb dX1_judge_265 (lv_at hl 0 rfl) ?_
                                          refine lv_aload_n hx hb dX1_judge_267 rfl (lv_at hl 13 rfl) ?_
                                          refine va_get (D := D) hx hb hts inlX1 hown hK hP 31 (jc_31 cI cL ad σ98 τ) rfl 4 (of_decide_eq_true rfl) (hts _ kw_5_5) (fun _ h9 => h9) rfl dX1_judge_268 ?_
                                          refine lv_iload hx hb dX1_judge_271 (lv_at hl 10 rfl) ?_
                                          refine lv_iload hx hb dX1_judge_273 (lv_at hl 3 rfl) ?_
                                          refine lv_iadd hx hb dX1_judge_275 ?_
                                          refine lv_topi (fun x118 ex118 => ?_)
                                          have tx118 : x118.toInt = 9 * A1 + x79.toInt := (jadd ex118 tx13 rfl (by omega) (by omega)).trans (by omega)
                                          refine jald hx hb hK hP (jc_34 cI cL ad σ98 τ) (jin tx118 (by omega) (by omega)) dX1_judge_276 ?_
                                          exact by
                                           refine lv_topi (fun x119 ex119 => ?_)
                                           refine lv_icmp_ge (tgt := 304) hx hb dX1_judge_277 (of_decide_eq_true rfl) (fun c120 => ?_) (fun c120 => ?_)
                                           · have kc120 := jle c120 rfl rfl
                                             obtain ⟨x121, ex121⟩ : ∃ y : Int32, y = x79 + 1 := ⟨_, rfl⟩
                                             have tx121 : x121.toInt = x79.toInt + 1 := (jadd ex121 rfl jz_1 (by omega) (by omega)).trans (by omega)
                                             refine lv_iinc (v := x121) (lv' := [(14, .int x121), (17, .int r109), (16, .int r99), (15, .int r92), (13, .int r71), (12, .int r64), (11, .int x61), (10, .int x39), (9, .int x22), (8, .int x14), (7, .int x13), (6, .int x12), (5, .int x9), (0, .ref (ad 31)), (1, .int a1), (2, .ref (ad 1)), (3, .int a3), (4, .int a4)]) hx hb dX1_judge_304 hl (k := 3) rfl (by rw [ex121]; rfl) (of_decide_eq_true rfl) rfl (fun ls hl => ?_)
                                             refine lv_goto (tgt := 165) hx hb dX1_judge_307 (of_decide_eq_true rfl) ?_
                                             exact by exact ihlp77 x121 σ98 _ _ ls (by have h90 := tx121; omega) (by have h90 := tx121; omega) (fun i hi => ((f100 i (imp_98 i hi)).trans (f87 i hi)))    hP hS (lv_sub hl [0, 4, 5, 6, 7, 8, 9, 10, 11, 12, 13, 14, 15, 16, 17] rfl)
                                           · have kc120 := jnle c120 rfl rfl
                                             exact by
                                              refine lv_aload_n hx hb dX1_judge_280 rfl (lv_at hl 13 rfl) ?_
                                              refine va_get (D := D) hx hb hts inlX1 hown hK hP 31 (jc_31 cI cL ad σ98 τ) rfl 4 (of_decide_eq_true rfl) (hts _ kw_5_5) (fun _ h9 => h9) rfl dX1_judge_281 ?_
                                              refine lv_iload hx hb dX1_judge_284 (lv_at hl 10 rfl) ?_
                                              refine lv_iload hx hb dX1_judge_286 (lv_at hl 3 rfl) ?_
                                              refine lv_iadd hx hb dX1_judge_288 ?_
                                              refine lv_topi (fun x122 ex122 => ?_)
                                              have tx122 : x122.toInt = 9 * A1 + x79.toInt := (jadd ex122 tx13 rfl (by omega) (by omega)).trans (by omega)
                                              refine lv_iload hx hb dX1_judge_289 (lv_at hl 0 rfl) ?_
                                              refine jast hx hb hK hP hJ hA hS (jc_34 cI cL ad σ98 τ) (ja_34 cI cL ad σ98 τ _ _) (jin tx122 (by omega) (by omega)) dX1_judge_291 (fun σ123 H locs eσ123 hP hS => ?_)
                                              exact by
                                               refine lv_aload_n hx hb dX1_judge_292 rfl (lv_at hl 13 rfl) ?_
                                               refine va_get (D := D) hx hb hts inlX1 hown hK hP 31 (jc_31 cI cL ad σ123 τ) rfl 5 (of_decide_eq_true rfl) (hts _ kw_5_6) (fun _ h9 => h9) rfl dX1_judge_293 ?_
                                               refine lv_iload hx hb dX1_judge_296 (lv_at hl 10 rfl) ?_
                                               refine lv_iload hx hb dX1_judge_298 (lv_at hl 3 rfl) ?_
                                               refine lv_iadd hx hb dX1_judge_300 ?_
                                               refine lv_topi (fun x124 ex124 => ?_)
                                               have tx124 : x124.toInt = 9 * A1 + x79.toInt := (jadd ex124 tx13 rfl (by omega) (by omega)).trans (by omega)
                                               refine lv_iload hx hb dX1_judge_301 (lv_at hl 7 rfl) ?_
                                               refine jast hx hb hK hP hJ hA hS (jc_35 cI cL ad σ123 τ) (ja_35 cI cL ad σ123 τ _ _) (jin tx124 (by omega) (by omega)) dX1_judge_303 (fun σ125 H locs eσ125 hP hS => ?_)
                                               exact by
                                                obtain ⟨x126, ex126⟩ : ∃ y : Int32, y = x79 + 1 := ⟨_, rfl⟩
                                                have tx126 : x126.toInt = x79.toInt + 1 := (jadd ex126 rfl jz_1 (by omega) (by omega)).trans (by omega)
                                                refine lv_iinc (v := x126) (lv' := [(14, .int x126), (17, .int r109), (16, .int r99), (15, .int r92), (13, .int r71), (12, .int r64), (11, .int x61), (10, .int x39), (9, .int x22), (8, .int x14), (7, .int x13), (6, .int x12), (5, .int x9), (0, .ref (ad 31)), (1, .int a1), (2, .ref (ad 1)), (3, .int a3), (4, .int a4)]) hx hb dX1_judge_304 hl (k := 3) rfl (by rw [ex126]; rfl) (of_decide_eq_true rfl) rfl (fun ls hl => ?_)
                                                refine lv_goto (tgt := 165) hx hb dX1_judge_307 (of_decide_eq_true rfl) ?_
                                                exact by exact ihlp77 x126 σ125 _ _ ls (by have h90 := tx126; omega) (by have h90 := tx126; omega) (fun i hi => ((jnp i eσ125 (imp_97 i hi)).trans ((jnp i eσ123 (imp_95 i hi)).trans ((f100 i (imp_98 i hi)).trans (f87 i hi)))))    hP hS (lv_sub hl [0, 4, 5, 6, 7, 8, 9, 10, 11, 12, 13, 14, 15, 16, 17] rfl)
                         exact by exact lp77 3000000001 x14 σ47 _ _ ls (by omega) (by omega) (fun _ _ => rfl)   hP hS hl
                       · have kc62 := jnle c62 jz_0 tx61
                         refine lv_goto (tgt := 310) hx hb dX1_judge_140 (of_decide_eq_true rfl) ?_
                         obtain ⟨x127, ex127⟩ : ∃ y : Int32, y = x39 + 1 := ⟨_, rfl⟩
                         exact by
                          have tx127 : x127.toInt = x39.toInt + 1 := (jadd ex127 rfl jz_1 (by omega) (by omega)).trans (by omega)
                          refine lv_iinc (v := x127) (lv' := [(10, .int x127), (11, .int x61), (9, .int x22), (8, .int x14), (7, .int x13), (6, .int x12), (5, .int x9), (0, .ref (ad 31)), (1, .int a1), (2, .ref (ad 1)), (3, .int a3), (4, .int a4)]) hx hb dX1_judge_310 hl (k := 1) rfl (by rw [ex127]; rfl) (of_decide_eq_true rfl) rfl (fun ls hl => ?_)
                          refine lv_goto (tgt := 113) hx hb dX1_judge_313 (of_decide_eq_true rfl) ?_
                          exact by exact ihlp37 x127 σ47 _ _ ls (by have h90 := tx127; omega) (by have h90 := tx127; omega) (by have h90 := tx127; omega) (fun i hi => (f52 i hi))    hP hS (lv_sub hl [0, 2, 3, 4, 5, 6, 7, 8, 9, 10, 11] rfl)
             exact by exact lp37 1000000 0 σ36 _ _ ls (by have h90 := jz_0; omega) (by have h90 := jz_0; omega) (by have h90 := jz_0; omega) (fun _ _ => rfl)   hP hS hl
          · have kc32 := jnlt c32 rfl rfl
            refine lv_aload_n hx hb dX1_judge_66 rfl (lv_at hl 6 rfl) ?_
            refine va_get (D := D) hx hb hts inlX1 hown hK hP 31 (jc_31 cI cL ad σ27 τ) rfl 4 (of_decide_eq_true rfl) (hts _ kw_5_5) (fun _ h9 => h9) rfl dX1_judge_67 ?_
            refine lv_iload hx hb dX1_judge_70 (lv_at hl 3 rfl) ?_
            exact by
             refine lv_iload hx hb dX1_judge_72 (lv_at hl 0 rfl) ?_
             have g128 := jrg (rfl : x26.toInt = x26.toInt)
             refine lv_iadd hx hb dX1_judge_74 ?_
             refine lv_topi (fun x129 ex129 => ?_)
             have tx129 : x129.toInt = 9 * A1 + x26.toInt := (jadd ex129 tx13 rfl (by omega) (by omega)).trans (by omega)
             refine lv_iconst (v := 0) hx hb dX1_judge_75 (of_decide_eq_true rfl) ?_
             refine jast hx hb hK hP hJ hA hS (jc_34 cI cL ad σ27 τ) (ja_34 cI cL ad σ27 τ _ _) (jin tx129 (by omega) (by omega)) dX1_judge_76 (fun σ130 H locs eσ130 hP hS => ?_)
             refine lv_aload_n hx hb dX1_judge_77 rfl (lv_at hl 6 rfl) ?_
             refine va_get (D := D) hx hb hts inlX1 hown hK hP 31 (jc_31 cI cL ad σ130 τ) rfl 5 (of_decide_eq_true rfl) (hts _ kw_5_6) (fun _ h9 => h9) rfl dX1_judge_78 ?_
             exact by
              refine lv_iload hx hb dX1_judge_81 (lv_at hl 3 rfl) ?_
              refine lv_iload hx hb dX1_judge_83 (lv_at hl 0 rfl) ?_
              refine lv_iadd hx hb dX1_judge_85 ?_
              refine lv_topi (fun x131 ex131 => ?_)
              have tx131 : x131.toInt = 9 * A1 + x26.toInt := (jadd ex131 tx13 rfl (by omega) (by omega)).trans (by omega)
              refine lv_iconst (v := (-1)) hx hb dX1_judge_86 (of_decide_eq_true rfl) ?_
              refine jast hx hb hK hP hJ hA hS (jc_35 cI cL ad σ130 τ) (ja_35 cI cL ad σ130 τ _ _) (jin tx131 (by omega) (by omega)) dX1_judge_87 (fun σ132 H locs eσ132 hP hS => ?_)
              obtain ⟨x133, ex133⟩ : ∃ y : Int32, y = x26 + 1 := ⟨_, rfl⟩
              have tx133 : x133.toInt = x26.toInt + 1 := (jadd ex133 rfl jz_1 (by omega) (by omega)).trans (by omega)
              exact by
               refine lv_iinc (v := x133) (lv' := [(10, .int x133), (9, .int x22), (8, .int x14), (7, .int x13), (6, .int x12), (5, .int x9), (0, .ref (ad 31)), (1, .int a1), (2, .ref (ad 1)), (3, .int a3), (4, .int a4)]) hx hb dX1_judge_88 hl (k := 0) rfl (by rw [ex133]; rfl) (of_decide_eq_true rfl) rfl (fun ls hl => ?_)
               refine lv_goto (tgt := 59) hx hb dX1_judge_91 (of_decide_eq_true rfl) ?_
               exact by exact ihlp24 x133 σ132 _ _ ls (by have h90 := tx133; omega) (by have h90 := tx133; omega) (fun i hi => ((jnp i eσ132 (imp_99 i hi)).trans ((jnp i eσ130 (imp_100 i hi)).trans (f31 i hi))))    hP hS (lv_sub hl [0, 1, 2, 3, 4, 5, 6, 7, 8, 9, 10] rfl)
     exact by exact lp24 3000000001 x14 σ _ _ ls (by omega) (by omega) (fun _ _ => rfl)   hP hS hl
set_option maxHeartbeats 4000000 in
set_option maxRecDepth 100000 in
theorem c_X1_seekFor_31_v1 (l : Launch) (D : va_G) (cI cL : ClassId) (ad zz : Nat → Nat) (hJ : jD ad) (σ : Nat → Nat → Int32) (τ : Nat → Nat → Int64) (a2 : Int32) (A2 : Int) (t2 : a2.toInt = A2) (a3 : Int32) (A3 : Int) (t3 : a3.toInt = A3) (a4 : Int32) (A4 : Int) (t4 : a4.toInt = A4) (a5 : Int32) (A5 : Int) (t5 : a5.toInt = A5) (hI16 : jI16 σ) (hI22 : jI22 σ) (hI31 : jI31 σ) : jMv l yX1_seekFor cX1_seekFor 7 none ({ frames := 4, cells := 0, slots := 0, locals := 113 }) D cI cL ad zz [.ref (ad 31), .ref (ad 1), .int a2, .int a3, .int a4, .int a5] σ τ (fun σ' τ' => τ = τ' ∧ (∀ i : Nat, (i < 24 ∨ 25 < i) ∧ (i < 29 ∨ 37 < i) → σ' i = σ i) ∧ (∀ k : Nat, (k < 8 ∨ 8 < k) ∧ (k < 9 ∨ 9 < k) ∧ (k < 10 ∨ 10 < k) ∧ (k < 11 ∨ 11 < k) ∧ (k < 12 ∨ 12 < k) → σ' 31 k = σ 31 k) ∧ (jI31 σ') ∧ True) := by
  refine jMv.of hJ (by decide +kernel) rfl (Nat.le_of_ble_eq_true rfl) ?_
  intro p e s m args below meth c Q ls hC hret hl hP
  obtain ⟨hx, hb, hr, hml, hown, hts, hK, -, hlocks, hZ⟩ := hC
  have hown : s.vm.findClass RX1 = some m.cls := hown
  have hS : va_S (jA ad) s.heap s.heap [] := va_S.rf
  have hA : ∀ q, jA ad q → jA ad q := fun _ h => h
  have hl : lv_has ls 7 [(0, .ref (ad 31)), (1, .ref (ad 1)), (2, .int a2), (3, .int a3), (4, .int a4), (5, .int a5)] := hl
  have g2 := jrg t2
  have g3 := jrg t3
  have g4 := jrg t4
  have g5 := jrg t5
  obtain ⟨i1, w2, w3⟩ : (0 ≤ (σ 31 8).toInt ∧ (σ 31 8).toInt ≤ 350) ∧ (∀ k : Nat, k < 1400 → (-1) ≤ (σ 33 k).toInt ∧ (σ 33 k).toInt ≤ 350) ∧ (∀ k : Nat, k < 1024 → 0 ≤ (σ 36 k).toInt ∧ (σ 36 k).toInt ≤ 349) := id hI31
  refine lv_aload_n hx hb dX1_seekFor_0 rfl (lv_at hl 0 rfl) ?_
  refine lv_iload_n hx hb dX1_seekFor_1 rfl (lv_at hl 2 rfl) ?_
  refine lv_iload_n hx hb dX1_seekFor_2 rfl (lv_at hl 3 rfl) ?_
  refine jcallVv (As := [.int a2, .int a3]) (rest := []) ⟨hx, hb, hml, hown, hts⟩ hK hP hA hS hZ (c_X1_grow_31 l D cI cL ad zz hJ σ τ a2 (A2) t2 a3 (A3) t3 hI31) cw_RX1_54 (jc_31 cI cL ad σ τ) rfl ⟨Nat.le_of_ble_eq_true rfl, Nat.le_of_ble_eq_true rfl⟩ rfl rfl rfl hl.1 rfl (Nat.le_of_ble_eq_true rfl) dX1_seekFor_3 ⟨Nat.zero_le _, Nat.zero_le _⟩ (fun σ4 τ4 H locs h4 hP hS => ?_)
  obtain ⟨rfl, f6, f7, I8, h4⟩ := h4
  obtain ⟨i10, w11, w12⟩ : (0 ≤ (σ4 31 8).toInt ∧ (σ4 31 8).toInt ≤ 350) ∧ (∀ k : Nat, k < 1400 → (-1) ≤ (σ4 33 k).toInt ∧ (σ4 33 k).toInt ≤ 350) ∧ (∀ k : Nat, k < 1024 → 0 ≤ (σ4 36 k).toInt ∧ (σ4 36 k).toInt ≤ 349) := id I8
  refine lv_aload_n hx hb dX1_seekFor_6 rfl (lv_at hl 0 rfl) ?_
  refine va_get (D := D) hx hb hts inlX1 hown hK hP 31 (jc_31 cI cL ad σ4 τ) rfl 8 (of_decide_eq_true rfl) (hts _ kw_27_22) (fun _ h9 => h9) rfl dX1_seekFor_7 ?_
  refine lv_iconst (v := 1) hx hb dX1_seekFor_10 (of_decide_eq_true rfl) ?_
  have g13 := jrg (rfl : (σ4 31 8).toInt = (σ4 31 8).toInt)
  refine lv_isub hx hb dX1_seekFor_11 ?_
  refine lv_topi (fun x14 ex14 => ?_)
  exact by
   have tx14 : x14.toInt = (σ4 31 8).toInt - 1 := (jsub ex14 rfl jz_1 (by omega) (by omega)).trans (by omega)
   refine lv_istore (lv' := [(6, .int x14), (0, .ref (ad 31)), (1, .ref (ad 1)), (2, .int a2), (3, .int a3), (4, .int a4), (5, .int a5)]) hx hb dX1_seekFor_12 hl (of_decide_eq_true rfl) rfl (fun ls hl => ?_)
   have lp15 : ∀ (n16 : Nat) (x17 : Int32) (σ18 : Nat → Nat → Int32) (H : Heap) (locs : List Loc) (ls : Array Slot), (x17.toInt + 1 : Int) < n16 → (-1) ≤ x17.toInt → x17.toInt ≤ 349 → (∀ i : Nat, (i < 24 ∨ 25 < i) ∧ (i < 29 ∨ 30 < i) ∧ (i < 34 ∨ 35 < i) → σ18 i = σ4 i) → jH D cI cL ad σ18 τ H → va_S (jA ad) s.heap H locs → lv_has ls 7 [(6, .int x17), (0, .ref (ad 31)), (1, .ref (ad 1)), (2, .int a2), (3, .int a3), (4, .int a4), (5, .int a5)] → W p l e ({ frames := 4, cells := 0, slots := 0, locals := 113 }) s m args below meth c H locs 0 0 Q (F0 m 14 ls []) := by
     intro n16
     induction n16 with
     | zero => intro x17 σ18 H locs ls h20 h21 h22; exact absurd h20 (by omega)
     | succ n16 ihlp15 =>
       intro x17 σ18 H locs ls h20 h21 h22 f23 hP hS hl
       refine lv_iload hx hb dX1_seekFor_14 (lv_at hl 0 rfl) ?_
       exact by
        refine lv_if_lt (tgt := 36) hx hb dX1_seekFor_16 (of_decide_eq_true rfl) (fun c24 => ?_) (fun c24 => ?_)
        · have kc24 := jlt c24 rfl jz_0
          have I25 : jI31 σ18 := jI31_fr (congrFun (f23 31 (of_decide_eq_true rfl)) 8) (f23 33 (of_decide_eq_true rfl)) (f23 36 (of_decide_eq_true rfl)) I8
          exact hret σ18 τ _ _ _ _ ⟨rfl, (fun i hi => ((f23 i (imp_101 i hi)).trans (f6 i (imp_102 i hi)))), (fun i hi => ((congrFun (f23 31 (of_decide_eq_true rfl)) i).trans (f7 i hi))), I25, trivial⟩ hP hS dX1_seekFor_36
        · have kc24 := jnlt c24 rfl jz_0
          refine lv_aload_n hx hb dX1_seekFor_19 rfl (lv_at hl 1 rfl) ?_
          refine lv_iload hx hb dX1_seekFor_20 (lv_at hl 0 rfl) ?_
          refine lv_aload_n hx hb dX1_seekFor_22 rfl (lv_at hl 2 rfl) ?_
          refine lv_iload hx hb dX1_seekFor_23 (lv_at hl 5 rfl) ?_
          refine lv_iload hx hb dX1_seekFor_25 (lv_at hl 6 rfl) ?_
          have I26 : jI16 σ18 := jI16_fr ((congrFun (f23 16 (of_decide_eq_true rfl)) 0).trans (congrFun (f6 16 (of_decide_eq_true rfl)) 0)) ((congrFun (f23 16 (of_decide_eq_true rfl)) 1).trans (congrFun (f6 16 (of_decide_eq_true rfl)) 1)) ((congrFun (f23 16 (of_decide_eq_true rfl)) 2).trans (congrFun (f6 16 (of_decide_eq_true rfl)) 2)) ((f23 17 (of_decide_eq_true rfl)).trans (f6 17 (of_decide_eq_true rfl))) hI16
          have I27 : jI22 σ18 := jI22_fr ((congrFun (f23 22 (of_decide_eq_true rfl)) 0).trans (congrFun (f6 22 (of_decide_eq_true rfl)) 0)) ((f23 23 (of_decide_eq_true rfl)).trans (f6 23 (of_decide_eq_true rfl))) hI22
          have I28 : jI31 σ18 := jI31_fr (congrFun (f23 31 (of_decide_eq_true rfl)) 8) (f23 33 (of_decide_eq_true rfl)) (f23 36 (of_decide_eq_true rfl)) I8
          exact by
           refine jcallVv (As := [.int x17, .ref (ad 1), .int a4, .int a5]) (rest := []) ⟨hx, hb, hml, hown, hts⟩ hK hP hA hS hZ (c_X1_judge_31_v1 l D cI cL ad zz hJ σ18 τ x17 (x17.toInt) rfl a4 (A4) t4 a5 (A5) t5 I26 I27 I28 (by omega)) cw_RX1_61 (jc_31 cI cL ad σ18 τ) rfl ⟨Nat.le_of_ble_eq_true rfl, Nat.le_of_ble_eq_true rfl⟩ rfl rfl rfl hl.1 rfl (Nat.le_of_ble_eq_true rfl) dX1_seekFor_27 ⟨Nat.zero_le _, Nat.zero_le _⟩ (fun σ29 τ29 H locs h29 hP hS => ?_)
           obtain ⟨rfl, f31, h29⟩ := h29
           obtain ⟨x33, ex33⟩ : ∃ y : Int32, y = x17 + (-1) := ⟨_, rfl⟩
           have tx33 : x33.toInt = x17.toInt - 1 := (jadd ex33 rfl jz_m1 (by omega) (by omega)).trans (by omega)
           refine lv_iinc (v := x33) (lv' := [(6, .int x33), (0, .ref (ad 31)), (1, .ref (ad 1)), (2, .int a2), (3, .int a3), (4, .int a4), (5, .int a5)]) hx hb dX1_seekFor_30 hl (k := 0) rfl (by rw [ex33]; rfl) (of_decide_eq_true rfl) rfl (fun ls hl => ?_)
           refine lv_goto (tgt := 14) hx hb dX1_seekFor_33 (of_decide_eq_true rfl) ?_
           exact by exact ihlp15 x33 σ29 _ _ ls (by have h90 := tx33; omega) (by have h90 := tx33; omega) (by have h90 := tx33; omega) (fun i hi => ((f31 i hi).trans (f23 i hi)))    hP hS (lv_sub hl [0, 1, 2, 3, 4, 5, 6] rfl)
   exact by exact lp15 1000000 x14 σ4 _ _ ls (by have h90 := tx14; omega) (by have h90 := tx14; omega) (by have h90 := tx14; omega) (fun _ _ => rfl)   hP hS hl
set_option maxHeartbeats 4000000 in
set_option maxRecDepth 100000 in
theorem c_X1_seek_31 (l : Launch) (D : va_G) (cI cL : ClassId) (ad zz : Nat → Nat) (hJ : jD ad) (σ : Nat → Nat → Int32) (τ : Nat → Nat → Int64) (a1 : Int32) (A1 : Int) (t1 : a1.toInt = A1) (a2 : Int32) (A2 : Int) (t2 : a2.toInt = A2) (a3 : Int32) (A3 : Int) (t3 : a3.toInt = A3) (hI16 : jI16 σ) (hI22 : jI22 σ) (hI31 : jI31 σ) : jMv l yX1_seek cX1_seek 4 none ({ frames := 5, cells := 0, slots := 0, locals := 139 }) D cI cL ad zz [.ref (ad 31), .int a1, .int a2, .int a3] σ τ (fun σ' τ' => τ = τ' ∧ (∀ i : Nat, (i < 24 ∨ 25 < i) ∧ (i < 29 ∨ 37 < i) → σ' i = σ i) ∧ (∀ k : Nat, (k < 8 ∨ 8 < k) ∧ (k < 9 ∨ 9 < k) ∧ (k < 10 ∨ 10 < k) ∧ (k < 11 ∨ 11 < k) ∧ (k < 12 ∨ 12 < k) → σ' 31 k = σ 31 k) ∧ (jI31 σ') ∧ True) := by
  refine jMv.of hJ (by decide +kernel) rfl (Nat.le_of_ble_eq_true rfl) ?_
  intro p e s m args below meth c Q ls hC hret hl hP
  obtain ⟨hx, hb, hr, hml, hown, hts, hK, -, hlocks, hZ⟩ := hC
  have hown : s.vm.findClass RX1 = some m.cls := hown
  have hS : va_S (jA ad) s.heap s.heap [] := va_S.rf
  have hA : ∀ q, jA ad q → jA ad q := fun _ h => h
  have hl : lv_has ls 4 [(0, .ref (ad 31)), (1, .int a1), (2, .int a2), (3, .int a3)] := hl
  have g1 := jrg t1
  have g2 := jrg t2
  have g3 := jrg t3
  obtain ⟨i1, i2, i3, w4⟩ : (1 ≤ (σ 16 0).toInt ∧ (σ 16 0).toInt ≤ 8) ∧ (1 ≤ (σ 16 1).toInt ∧ (σ 16 1).toInt ≤ 12) ∧ (0 ≤ (σ 16 2).toInt ∧ (σ 16 2).toInt ≤ 999) ∧ (∀ k : Nat, k < 8 → 0 ≤ (σ 17 k).toInt ∧ (σ 17 k).toInt ≤ 3) := id hI16
  refine lv_aload_n hx hb dX1_seek_0 rfl (lv_at hl 0 rfl) ?_
  refine lv_aload_n hx hb dX1_seek_1 rfl (lv_at hl 0 rfl) ?_
  refine va_get (D := D) hx hb hts inlX1 hown hK hP 31 (jc_31 cI cL ad σ τ) rfl 1 (of_decide_eq_true rfl) (hts _ kw_5_11) (fun _ h9 => h9) rfl dX1_seek_2 ?_
  refine va_get (D := D) hx hb hts inlX6 hown hK hP 16 (jc_16 cI cL ad σ τ) rfl 3 (of_decide_eq_true rfl) (hts _ kw_27_16) (fun _ h9 => h9) rfl dX1_seek_5 ?_
  refine lv_iload_n hx hb dX1_seek_8 rfl (lv_at hl 1 rfl) ?_
  refine lv_iload_n hx hb dX1_seek_9 rfl (lv_at hl 2 rfl) ?_
  refine lv_iload_n hx hb dX1_seek_10 rfl (lv_at hl 3 rfl) ?_
  refine lv_aload_n hx hb dX1_seek_11 rfl (lv_at hl 0 rfl) ?_
  refine va_get (D := D) hx hb hts inlX1 hown hK hP 31 (jc_31 cI cL ad σ τ) rfl 1 (of_decide_eq_true rfl) (hts _ kw_5_11) (fun _ h9 => h9) rfl dX1_seek_12 ?_
  refine va_get (D := D) hx hb hts inlX6 hown hK hP 16 (jc_16 cI cL ad σ τ) rfl 0 (of_decide_eq_true rfl) (hts _ kw_27_17) (fun _ h9 => h9) rfl dX1_seek_15 ?_
  refine lv_iconst (v := 1) hx hb dX1_seek_18 (of_decide_eq_true rfl) ?_
  have g5 := jrg (rfl : (σ 16 0).toInt = (σ 16 0).toInt)
  refine lv_isub hx hb dX1_seek_19 ?_
  refine lv_topi (fun x6 ex6 => ?_)
  exact by
   have tx6 : x6.toInt = (σ 16 0).toInt - 1 := (jsub ex6 rfl jz_1 (by omega) (by omega)).trans (by omega)
   refine jcallVv (As := [.ref (ad 17), .int a1, .int a2, .int a3, .int x6]) (rest := []) ⟨hx, hb, hml, hown, hts⟩ hK hP hA hS hZ (c_X1_seekFor_31 l D cI cL ad zz hJ σ τ a1 (A1) t1 a2 (A2) t2 a3 (A3) t3 x6 ((σ 16 0).toInt - 1) tx6 hI16 hI22 hI31) cw_RX1_50 (jc_31 cI cL ad σ τ) rfl ⟨Nat.le_of_ble_eq_true rfl, Nat.le_of_ble_eq_true rfl⟩ rfl rfl rfl hl.1 rfl (Nat.le_of_ble_eq_true rfl) dX1_seek_20 ⟨Nat.zero_le _, Nat.zero_le _⟩ (fun σ7 τ7 H locs h7 hP hS => ?_)
   obtain ⟨rfl, f9, f10, I11, h7⟩ := h7
   exact hret σ7 τ _ _ _ _ ⟨rfl, (fun i hi => (f9 i hi)), (fun i hi => (f10 i hi)), I11, trivial⟩ hP hS dX1_seek_23
