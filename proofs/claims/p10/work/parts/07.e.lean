set_option maxHeartbeats 4000000 in
set_option maxRecDepth 100000 in
theorem c_X1_valueAt_31 (l : Launch) (D : va_G) (cI cL : ClassId) (ad zz : Nat → Nat) (hJ : jD ad) (σ : Nat → Nat → Int32) (τ : Nat → Nat → Int64) (a1 : Int32) (A1 : Int) (t1 : a1.toInt = A1) (a2 : Int32) (A2 : Int) (t2 : a2.toInt = A2) (hI16 : jI16 σ) (hI31 : jI31 σ) : jM l yX1_valueAt cX1_valueAt 3 (some .int) ({ frames := 0, cells := 0, slots := 0, locals := 0 }) D cI cL ad zz [.ref (ad 31), .int a1, .int a2] σ τ (fun r σ' τ' => (σ = σ' ∧ τ = τ') ∧ ((0 ≤ A1 → A1 < (σ 31 8).toInt → 0 ≤ A2 → A2 < (σ 16 0).toInt → r = σ 34 (9 * (A1) + (A2)).toNat)) ∧ True) := by
  refine jM.of hJ (by decide +kernel) (nt := .int) rfl (Nat.le_of_ble_eq_true rfl) ?_
  intro p e s m args below meth c Q ls hC hret hl hP
  obtain ⟨hx, hb, hr, hml, hown, hts, hK, -, hlocks, hZ⟩ := hC
  have hown : s.vm.findClass RX1 = some m.cls := hown
  have hS : va_S (jA ad) s.heap s.heap [] := va_S.rf
  have hA : ∀ q, jA ad q → jA ad q := fun _ h => h
  have hl : lv_has ls 3 [(0, .ref (ad 31)), (1, .int a1), (2, .int a2)] := hl
  have g1 := jrg t1
  have g2 := jrg t2
  obtain ⟨i1, i2, i3, w4⟩ : (1 ≤ (σ 16 0).toInt ∧ (σ 16 0).toInt ≤ 8) ∧ (1 ≤ (σ 16 1).toInt ∧ (σ 16 1).toInt ≤ 12) ∧ (0 ≤ (σ 16 2).toInt ∧ (σ 16 2).toInt ≤ 999) ∧ (∀ k : Nat, k < 8 → 0 ≤ (σ 17 k).toInt ∧ (σ 17 k).toInt ≤ 3) := id hI16
  obtain ⟨i5, i6, i7, i8, w9, w10, w11⟩ : (0 ≤ (σ 31 8).toInt ∧ (σ 31 8).toInt ≤ 350) ∧ (0 ≤ (σ 31 10).toInt ∧ (σ 31 10).toInt ≤ 12) ∧ (0 ≤ (σ 31 11).toInt ∧ (σ 31 11).toInt ≤ 8) ∧ ((σ 31 10).toInt + (σ 31 11).toInt ≤ 12) ∧ (∀ k : Nat, k < 1400 → (-1) ≤ (σ 33 k).toInt ∧ (σ 33 k).toInt ≤ 350) ∧ (∀ k : Nat, k < 3159 → (-1) ≤ (σ 35 k).toInt ∧ (σ 35 k).toInt ≤ 3) ∧ (∀ k : Nat, k < 1024 → 0 ≤ (σ 36 k).toInt ∧ (σ 36 k).toInt ≤ 349) := id hI31
  refine lv_iload_n hx hb dX1_valueAt_0 rfl (lv_at hl 1 rfl) ?_
  refine lv_if_lt (tgt := 27) hx hb dX1_valueAt_1 (of_decide_eq_true rfl) (fun c12 => ?_) (fun c12 => ?_)
  · have kc12 := jlt c12 t1 jz_0
    refine lv_iconst (v := 0) hx hb dX1_valueAt_27 (of_decide_eq_true rfl) ?_
    refine lv_goto (tgt := 42) hx hb dX1_valueAt_28 (of_decide_eq_true rfl) ?_
    exact hret 0 σ τ _ _ _ _ rfl ⟨⟨rfl, rfl⟩, (fun h9 h8 h7 h6 => False.elim (by omega)), trivial⟩ hP hS dX1_valueAt_42
  · have kc12 := jnlt c12 t1 jz_0
    refine lv_iload_n hx hb dX1_valueAt_4 rfl (lv_at hl 1 rfl) ?_
    refine lv_aload_n hx hb dX1_valueAt_5 rfl (lv_at hl 0 rfl) ?_
    refine va_get (D := D) hx hb hts inlX1 hown hK hP 31 (jc_31 cI cL ad σ τ) rfl 8 (of_decide_eq_true rfl) (hts _ kw_27_22) (fun _ h9 => h9) rfl dX1_valueAt_6 ?_
    refine lv_icmp_ge (tgt := 27) hx hb dX1_valueAt_9 (of_decide_eq_true rfl) (fun c13 => ?_) (fun c13 => ?_)
    · have kc13 := jle c13 rfl t1
      refine lv_iconst (v := 0) hx hb dX1_valueAt_27 (of_decide_eq_true rfl) ?_
      refine lv_goto (tgt := 42) hx hb dX1_valueAt_28 (of_decide_eq_true rfl) ?_
      exact hret 0 σ τ _ _ _ _ rfl ⟨⟨rfl, rfl⟩, (fun h9 h8 h7 h6 => False.elim (by omega)), trivial⟩ hP hS dX1_valueAt_42
    · have kc13 := jnle c13 rfl t1
      refine lv_iload_n hx hb dX1_valueAt_12 rfl (lv_at hl 2 rfl) ?_
      refine lv_if_lt (tgt := 27) hx hb dX1_valueAt_13 (of_decide_eq_true rfl) (fun c14 => ?_) (fun c14 => ?_)
      · have kc14 := jlt c14 t2 jz_0
        refine lv_iconst (v := 0) hx hb dX1_valueAt_27 (of_decide_eq_true rfl) ?_
        refine lv_goto (tgt := 42) hx hb dX1_valueAt_28 (of_decide_eq_true rfl) ?_
        exact hret 0 σ τ _ _ _ _ rfl ⟨⟨rfl, rfl⟩, (fun h9 h8 h7 h6 => False.elim (by omega)), trivial⟩ hP hS dX1_valueAt_42
      · have kc14 := jnlt c14 t2 jz_0
        refine lv_iload_n hx hb dX1_valueAt_16 rfl (lv_at hl 2 rfl) ?_
        refine lv_aload_n hx hb dX1_valueAt_17 rfl (lv_at hl 0 rfl) ?_
        refine va_get (D := D) hx hb hts inlX1 hown hK hP 31 (jc_31 cI cL ad σ τ) rfl 1 (of_decide_eq_true rfl) (hts _ kw_5_11) (fun _ h9 => h9) rfl dX1_valueAt_18 ?_
        refine va_get (D := D) hx hb hts inlX6 hown hK hP 16 (jc_16 cI cL ad σ τ) rfl 0 (of_decide_eq_true rfl) (hts _ kw_27_17) (fun _ h9 => h9) rfl dX1_valueAt_21 ?_
        refine lv_icmp_lt (tgt := 31) hx hb dX1_valueAt_24 (of_decide_eq_true rfl) (fun c15 => ?_) (fun c15 => ?_)
        · have kc15 := jlt c15 t2 rfl
          refine lv_aload_n hx hb dX1_valueAt_31 rfl (lv_at hl 0 rfl) ?_
          refine va_get (D := D) hx hb hts inlX1 hown hK hP 31 (jc_31 cI cL ad σ τ) rfl 4 (of_decide_eq_true rfl) (hts _ kw_5_5) (fun _ h9 => h9) rfl dX1_valueAt_32 ?_
          refine lv_iload_n hx hb dX1_valueAt_35 rfl (lv_at hl 1 rfl) ?_
          refine lv_bipush (v := 9) hx hb dX1_valueAt_36 (of_decide_eq_true rfl) ?_
          refine lv_imul hx hb dX1_valueAt_38 ?_
          refine lv_topi (fun x16 ex16 => ?_)
          exact by
           have tx16 : x16.toInt = 9 * A1 := (jmul ex16 t1 jz_9 (by omega) (by omega)).trans (by omega)
           refine lv_iload_n hx hb dX1_valueAt_39 rfl (lv_at hl 2 rfl) ?_
           refine lv_iadd hx hb dX1_valueAt_40 ?_
           refine lv_topi (fun x17 ex17 => ?_)
           have tx17 : x17.toInt = 9 * A1 + A2 := (jadd ex17 tx16 t2 (by omega) (by omega)).trans (by omega)
           refine jald hx hb hK hP (jc_34 cI cL ad σ τ) (jin tx17 (by omega) (by omega)) dX1_valueAt_41 ?_
           refine jtopr (y := (σ 34 x17.toNatClampNeg)) rfl ?_
           exact hret (σ 34 x17.toNatClampNeg) σ τ _ _ _ _ rfl ⟨⟨rfl, rfl⟩, (fun h9 h8 h7 h6 => by rw [jnc (show x17.toInt = 9 * (A1) + (A2) by omega)]), trivial⟩ hP hS dX1_valueAt_42
        · have kc15 := jnlt c15 t2 rfl
          exact by
           refine lv_iconst (v := 0) hx hb dX1_valueAt_27 (of_decide_eq_true rfl) ?_
           refine lv_goto (tgt := 42) hx hb dX1_valueAt_28 (of_decide_eq_true rfl) ?_
           exact hret 0 σ τ _ _ _ _ rfl ⟨⟨rfl, rfl⟩, (fun h9 h8 h7 h6 => False.elim (by omega)), trivial⟩ hP hS dX1_valueAt_42
set_option maxHeartbeats 4000000 in
set_option maxRecDepth 100000 in
theorem c_X1_whomAt_31 (l : Launch) (D : va_G) (cI cL : ClassId) (ad zz : Nat → Nat) (hJ : jD ad) (σ : Nat → Nat → Int32) (τ : Nat → Nat → Int64) (a1 : Int32) (A1 : Int) (t1 : a1.toInt = A1) (a2 : Int32) (A2 : Int) (t2 : a2.toInt = A2) (hI16 : jI16 σ) (hI31 : jI31 σ) : jM l yX1_whomAt cX1_whomAt 3 (some .int) ({ frames := 0, cells := 0, slots := 0, locals := 0 }) D cI cL ad zz [.ref (ad 31), .int a1, .int a2] σ τ (fun r σ' τ' => (σ = σ' ∧ τ = τ') ∧ ((0 ≤ A1 → A1 < (σ 31 8).toInt → 0 ≤ A2 → A2 < (σ 16 0).toInt → r = σ 35 (9 * (A1) + (A2)).toNat)) ∧ ((True ∧ ((-1) ≤ r.toInt ∧ r.toInt ≤ 3)))) := by
  refine jM.of hJ (by decide +kernel) (nt := .int) rfl (Nat.le_of_ble_eq_true rfl) ?_
  intro p e s m args below meth c Q ls hC hret hl hP
  obtain ⟨hx, hb, hr, hml, hown, hts, hK, -, hlocks, hZ⟩ := hC
  have hown : s.vm.findClass RX1 = some m.cls := hown
  have hS : va_S (jA ad) s.heap s.heap [] := va_S.rf
  have hA : ∀ q, jA ad q → jA ad q := fun _ h => h
  have hl : lv_has ls 3 [(0, .ref (ad 31)), (1, .int a1), (2, .int a2)] := hl
  have g1 := jrg t1
  have g2 := jrg t2
  obtain ⟨i1, i2, i3, w4⟩ : (1 ≤ (σ 16 0).toInt ∧ (σ 16 0).toInt ≤ 8) ∧ (1 ≤ (σ 16 1).toInt ∧ (σ 16 1).toInt ≤ 12) ∧ (0 ≤ (σ 16 2).toInt ∧ (σ 16 2).toInt ≤ 999) ∧ (∀ k : Nat, k < 8 → 0 ≤ (σ 17 k).toInt ∧ (σ 17 k).toInt ≤ 3) := id hI16
  obtain ⟨i5, i6, i7, i8, w9, w10, w11⟩ : (0 ≤ (σ 31 8).toInt ∧ (σ 31 8).toInt ≤ 350) ∧ (0 ≤ (σ 31 10).toInt ∧ (σ 31 10).toInt ≤ 12) ∧ (0 ≤ (σ 31 11).toInt ∧ (σ 31 11).toInt ≤ 8) ∧ ((σ 31 10).toInt + (σ 31 11).toInt ≤ 12) ∧ (∀ k : Nat, k < 1400 → (-1) ≤ (σ 33 k).toInt ∧ (σ 33 k).toInt ≤ 350) ∧ (∀ k : Nat, k < 3159 → (-1) ≤ (σ 35 k).toInt ∧ (σ 35 k).toInt ≤ 3) ∧ (∀ k : Nat, k < 1024 → 0 ≤ (σ 36 k).toInt ∧ (σ 36 k).toInt ≤ 349) := id hI31
  refine lv_iload_n hx hb dX1_whomAt_0 rfl (lv_at hl 1 rfl) ?_
  refine lv_if_lt (tgt := 27) hx hb dX1_whomAt_1 (of_decide_eq_true rfl) (fun c12 => ?_) (fun c12 => ?_)
  · have kc12 := jlt c12 t1 jz_0
    refine lv_iconst (v := (-1)) hx hb dX1_whomAt_27 (of_decide_eq_true rfl) ?_
    refine lv_goto (tgt := 42) hx hb dX1_whomAt_28 (of_decide_eq_true rfl) ?_
    exact by exact hret (-1) σ τ _ _ _ _ rfl ⟨⟨rfl, rfl⟩, (fun h9 h8 h7 h6 => False.elim (by omega)), ⟨trivial, (by have h9 := jz_m1; omega)⟩⟩ hP hS dX1_whomAt_42
  · have kc12 := jnlt c12 t1 jz_0
    refine lv_iload_n hx hb dX1_whomAt_4 rfl (lv_at hl 1 rfl) ?_
    refine lv_aload_n hx hb dX1_whomAt_5 rfl (lv_at hl 0 rfl) ?_
    refine va_get (D := D) hx hb hts inlX1 hown hK hP 31 (jc_31 cI cL ad σ τ) rfl 8 (of_decide_eq_true rfl) (hts _ kw_27_22) (fun _ h9 => h9) rfl dX1_whomAt_6 ?_
    refine lv_icmp_ge (tgt := 27) hx hb dX1_whomAt_9 (of_decide_eq_true rfl) (fun c13 => ?_) (fun c13 => ?_)
    · have kc13 := jle c13 rfl t1
      refine lv_iconst (v := (-1)) hx hb dX1_whomAt_27 (of_decide_eq_true rfl) ?_
      refine lv_goto (tgt := 42) hx hb dX1_whomAt_28 (of_decide_eq_true rfl) ?_
      exact by exact hret (-1) σ τ _ _ _ _ rfl ⟨⟨rfl, rfl⟩, (fun h9 h8 h7 h6 => False.elim (by omega)), ⟨trivial, (by have h9 := jz_m1; omega)⟩⟩ hP hS dX1_whomAt_42
    · have kc13 := jnle c13 rfl t1
      refine lv_iload_n hx hb dX1_whomAt_12 rfl (lv_at hl 2 rfl) ?_
      refine lv_if_lt (tgt := 27) hx hb dX1_whomAt_13 (of_decide_eq_true rfl) (fun c14 => ?_) (fun c14 => ?_)
      · have kc14 := jlt c14 t2 jz_0
        refine lv_iconst (v := (-1)) hx hb dX1_whomAt_27 (of_decide_eq_true rfl) ?_
        refine lv_goto (tgt := 42) hx hb dX1_whomAt_28 (of_decide_eq_true rfl) ?_
        exact by exact hret (-1) σ τ _ _ _ _ rfl ⟨⟨rfl, rfl⟩, (fun h9 h8 h7 h6 => False.elim (by omega)), ⟨trivial, (by have h9 := jz_m1; omega)⟩⟩ hP hS dX1_whomAt_42
      · have kc14 := jnlt c14 t2 jz_0
        refine lv_iload_n hx hb dX1_whomAt_16 rfl (lv_at hl 2 rfl) ?_
        refine lv_aload_n hx hb dX1_whomAt_17 rfl (lv_at hl 0 rfl) ?_
        refine va_get (D := D) hx hb hts inlX1 hown hK hP 31 (jc_31 cI cL ad σ τ) rfl 1 (of_decide_eq_true rfl) (hts _ kw_5_11) (fun _ h9 => h9) rfl dX1_whomAt_18 ?_
        refine va_get (D := D) hx hb hts inlX6 hown hK hP 16 (jc_16 cI cL ad σ τ) rfl 0 (of_decide_eq_true rfl) (hts _ kw_27_17) (fun _ h9 => h9) rfl dX1_whomAt_21 ?_
        refine lv_icmp_lt (tgt := 31) hx hb dX1_whomAt_24 (of_decide_eq_true rfl) (fun c15 => ?_) (fun c15 => ?_)
        · have kc15 := jlt c15 t2 rfl
          refine lv_aload_n hx hb dX1_whomAt_31 rfl (lv_at hl 0 rfl) ?_
          refine va_get (D := D) hx hb hts inlX1 hown hK hP 31 (jc_31 cI cL ad σ τ) rfl 5 (of_decide_eq_true rfl) (hts _ kw_5_6) (fun _ h9 => h9) rfl dX1_whomAt_32 ?_
          refine lv_iload_n hx hb dX1_whomAt_35 rfl (lv_at hl 1 rfl) ?_
          refine lv_bipush (v := 9) hx hb dX1_whomAt_36 (of_decide_eq_true rfl) ?_
          refine lv_imul hx hb dX1_whomAt_38 ?_
          refine lv_topi (fun x16 ex16 => ?_)
          exact by
           have tx16 : x16.toInt = 9 * A1 := (jmul ex16 t1 jz_9 (by omega) (by omega)).trans (by omega)
           refine lv_iload_n hx hb dX1_whomAt_39 rfl (lv_at hl 2 rfl) ?_
           refine lv_iadd hx hb dX1_whomAt_40 ?_
           refine lv_topi (fun x17 ex17 => ?_)
           have tx17 : x17.toInt = 9 * A1 + A2 := (jadd ex17 tx16 t2 (by omega) (by omega)).trans (by omega)
           refine jald hx hb hK hP (jc_35 cI cL ad σ τ) (jin tx17 (by omega) (by omega)) dX1_whomAt_41 ?_
           have g18 := w10 _ (jnat (x := x17) tx17 (n := 3159) (by omega) (of_decide_eq_true rfl))
           refine jtopr (y := (σ 35 x17.toNatClampNeg)) rfl ?_
           exact hret (σ 35 x17.toNatClampNeg) σ τ _ _ _ _ rfl ⟨⟨rfl, rfl⟩, (fun h9 h8 h7 h6 => by rw [jnc (show x17.toInt = 9 * (A1) + (A2) by omega)]), ⟨trivial, (by omega)⟩⟩ hP hS dX1_whomAt_42
        · exact by
           have kc15 := jnlt c15 t2 rfl
           refine lv_iconst (v := (-1)) hx hb dX1_whomAt_27 (of_decide_eq_true rfl) ?_
           refine lv_goto (tgt := 42) hx hb dX1_whomAt_28 (of_decide_eq_true rfl) ?_
           exact by exact hret (-1) σ τ _ _ _ _ rfl ⟨⟨rfl, rfl⟩, (fun h9 h8 h7 h6 => False.elim (by omega)), ⟨trivial, (by have h9 := jz_m1; omega)⟩⟩ hP hS dX1_whomAt_42
set_option maxHeartbeats 4000000 in
set_option maxRecDepth 100000 in
theorem c_X1_isTaken_31 (l : Launch) (D : va_G) (cI cL : ClassId) (ad zz : Nat → Nat) (hJ : jD ad) (σ : Nat → Nat → Int32) (τ : Nat → Nat → Int64) (a1 : Int32) (A1 : Int) (t1 : a1.toInt = A1) (hI31 : jI31 σ) (hp0 : 0 ≤ A1 ∧ A1 ≤ 1023) : jM l yX1_isTaken cX1_isTaken 3 (some .boolean) ({ frames := 0, cells := 0, slots := 0, locals := 0 }) D cI cL ad zz [.ref (ad 31), .int a1] σ τ (fun r σ' τ' => (σ = σ' ∧ τ = τ') ∧ ((r = 1 ∧ (jqTk (σ 31 8).toInt (σ 36) (σ 37) (A1))) ∨ (r = 0 ∧ (¬ jqTk (σ 31 8).toInt (σ 36) (σ 37) (A1))))) := by
  refine jM.of hJ (by decide +kernel) (nt := .boolean) rfl (Nat.le_of_ble_eq_true rfl) ?_
  intro p e s m args below meth c Q ls hC hret hl hP
  obtain ⟨hx, hb, hr, hml, hown, hts, hK, -, hlocks, hZ⟩ := hC
  have hown : s.vm.findClass RX1 = some m.cls := hown
  have hS : va_S (jA ad) s.heap s.heap [] := va_S.rf
  have hA : ∀ q, jA ad q → jA ad q := fun _ h => h
  have hl : lv_has ls 3 [(0, .ref (ad 31)), (1, .int a1)] := hl
  have g1 := jrg t1
  obtain ⟨i1, i2, i3, i4, w5, w6, w7⟩ : (0 ≤ (σ 31 8).toInt ∧ (σ 31 8).toInt ≤ 350) ∧ (0 ≤ (σ 31 10).toInt ∧ (σ 31 10).toInt ≤ 12) ∧ (0 ≤ (σ 31 11).toInt ∧ (σ 31 11).toInt ≤ 8) ∧ ((σ 31 10).toInt + (σ 31 11).toInt ≤ 12) ∧ (∀ k : Nat, k < 1400 → (-1) ≤ (σ 33 k).toInt ∧ (σ 33 k).toInt ≤ 350) ∧ (∀ k : Nat, k < 3159 → (-1) ≤ (σ 35 k).toInt ∧ (σ 35 k).toInt ≤ 3) ∧ (∀ k : Nat, k < 1024 → 0 ≤ (σ 36 k).toInt ∧ (σ 36 k).toInt ≤ 349) := id hI31
  refine lv_aload_n hx hb dX1_isTaken_0 rfl (lv_at hl 0 rfl) ?_
  refine va_get (D := D) hx hb hts inlX1 hown hK hP 31 (jc_31 cI cL ad σ τ) rfl 6 (of_decide_eq_true rfl) (hts _ kw_5_7) (fun _ h9 => h9) rfl dX1_isTaken_1 ?_
  refine lv_iload_n hx hb dX1_isTaken_4 rfl (lv_at hl 1 rfl) ?_
  exact by
   refine jald hx hb hK hP (jc_36 cI cL ad σ τ) (jin t1 (by omega) (by omega)) dX1_isTaken_5 ?_
   have g8 := w7 _ (jnat (x := a1) t1 (n := 1024) (by omega) (of_decide_eq_true rfl))
   refine jtopr (y := (σ 36 a1.toNatClampNeg)) rfl ?_
   refine lv_istore_n (lv' := [(2, .int (σ 36 a1.toNatClampNeg)), (0, .ref (ad 31)), (1, .int a1)]) hx hb dX1_isTaken_6 rfl hl (of_decide_eq_true rfl) rfl (fun ls hl => ?_)
   refine lv_iload_n hx hb dX1_isTaken_7 rfl (lv_at hl 0 rfl) ?_
   refine lv_aload_n hx hb dX1_isTaken_8 rfl (lv_at hl 1 rfl) ?_
   refine va_get (D := D) hx hb hts inlX1 hown hK hP 31 (jc_31 cI cL ad σ τ) rfl 8 (of_decide_eq_true rfl) (hts _ kw_27_22) (fun _ h9 => h9) rfl dX1_isTaken_9 ?_
   refine lv_icmp_ge (tgt := 29) hx hb dX1_isTaken_12 (of_decide_eq_true rfl) (fun c9 => ?_) (fun c9 => ?_)
   · have kc9 := jle c9 rfl rfl
     exact by
      refine lv_iconst (v := 0) hx hb dX1_isTaken_29 (of_decide_eq_true rfl) ?_
      exact hret 0 σ τ _ _ _ _ rfl ⟨⟨rfl, rfl⟩, Or.inr (⟨rfl, (by rw [← t1]; exact fun w => by have q := jqTk_iff.mp w; omega)⟩)⟩ hP hS dX1_isTaken_30
   · have kc9 := jnle c9 rfl rfl
     refine lv_aload_n hx hb dX1_isTaken_15 rfl (lv_at hl 1 rfl) ?_
     refine va_get (D := D) hx hb hts inlX1 hown hK hP 31 (jc_31 cI cL ad σ τ) rfl 7 (of_decide_eq_true rfl) (hts _ kw_5_8) (fun _ h9 => h9) rfl dX1_isTaken_16 ?_
     refine lv_iload_n hx hb dX1_isTaken_19 rfl (lv_at hl 0 rfl) ?_
     refine jald hx hb hK hP (jc_37 cI cL ad σ τ) (jin rfl (by omega) (by omega)) dX1_isTaken_20 ?_
     refine jtopr (y := (σ 37 (σ 36 a1.toNatClampNeg).toNatClampNeg)) rfl ?_
     refine lv_iload_n hx hb dX1_isTaken_21 rfl (lv_at hl 2 rfl) ?_
     exact by
      refine lv_icmp_ne (tgt := 29) hx hb dX1_isTaken_22 (of_decide_eq_true rfl) (fun c10 => ?_) (fun c10 => ?_)
      · have kc10 := jne c10 rfl t1
        refine lv_iconst (v := 0) hx hb dX1_isTaken_29 (of_decide_eq_true rfl) ?_
        exact hret 0 σ τ _ _ _ _ rfl ⟨⟨rfl, rfl⟩, Or.inr (⟨rfl, (by rw [← t1]; exact fun w => by have q := jqTk_iff.mp w; omega)⟩)⟩ hP hS dX1_isTaken_30
      · have kc10 := jeq c10 rfl t1
        refine lv_iconst (v := 1) hx hb dX1_isTaken_25 (of_decide_eq_true rfl) ?_
        refine lv_goto (tgt := 30) hx hb dX1_isTaken_26 (of_decide_eq_true rfl) ?_
        exact hret 1 σ τ _ _ _ _ rfl ⟨⟨rfl, rfl⟩, Or.inl ⟨rfl, (by rw [← t1]; exact jqTk_iff.mpr ⟨by omega, by omega, by omega⟩)⟩⟩ hP hS dX1_isTaken_30
set_option maxHeartbeats 4000000 in
set_option maxRecDepth 100000 in
theorem c_X1_slotFor_31 (l : Launch) (D : va_G) (cI cL : ClassId) (ad zz : Nat → Nat) (hJ : jD ad) (σ : Nat → Nat → Int32) (τ : Nat → Nat → Int64) (a1 : Int32) (A1 : Int) (t1 : a1.toInt = A1) (hI31 : jI31 σ) : jM l yX1_slotFor cX1_slotFor 5 (some .int) ({ frames := 1, cells := 0, slots := 0, locals := 22 }) D cI cL ad zz [.ref (ad 31), .int a1] σ τ (fun r σ' τ' => (σ = σ' ∧ τ = τ') ∧ (jqSf (σ 31 8).toInt (σ 32) (σ 36) (σ 37) a1 r.toInt) ∧ ((True ∧ ((-1) ≤ r.toInt ∧ r.toInt ≤ 1023)))) := by
  refine jM.of hJ (by decide +kernel) (nt := .int) rfl (Nat.le_of_ble_eq_true rfl) ?_
  intro p e s m args below meth c Q ls hC hret hl hP
  obtain ⟨hx, hb, hr, hml, hown, hts, hK, -, hlocks, hZ⟩ := hC
  have hown : s.vm.findClass RX1 = some m.cls := hown
  have hS : va_S (jA ad) s.heap s.heap [] := va_S.rf
  have hA : ∀ q, jA ad q → jA ad q := fun _ h => h
  have hl : lv_has ls 5 [(0, .ref (ad 31)), (1, .int a1)] := hl
  have g1 := jrg t1
  obtain ⟨i1, i2, i3, i4, w5, w6, w7⟩ : (0 ≤ (σ 31 8).toInt ∧ (σ 31 8).toInt ≤ 350) ∧ (0 ≤ (σ 31 10).toInt ∧ (σ 31 10).toInt ≤ 12) ∧ (0 ≤ (σ 31 11).toInt ∧ (σ 31 11).toInt ≤ 8) ∧ ((σ 31 10).toInt + (σ 31 11).toInt ≤ 12) ∧ (∀ k : Nat, k < 1400 → (-1) ≤ (σ 33 k).toInt ∧ (σ 33 k).toInt ≤ 350) ∧ (∀ k : Nat, k < 3159 → (-1) ≤ (σ 35 k).toInt ∧ (σ 35 k).toInt ≤ 3) ∧ (∀ k : Nat, k < 1024 → 0 ≤ (σ 36 k).toInt ∧ (σ 36 k).toInt ≤ 349) := id hI31
  refine lv_iload_n hx hb dX1_slotFor_0 rfl (lv_at hl 1 rfl) ?_
  refine lv_ldc (v := (-1640531527)) hx hb hown (hts _ kw_29_4) dX1_slotFor_1 ?_
  refine lv_imul hx hb dX1_slotFor_3 ?_
  refine lv_topi (fun x8 ex8 => ?_)
  have gx8 := jrg (rfl : x8.toInt = x8.toInt)
  refine lv_bipush (v := 22) hx hb dX1_slotFor_4 (of_decide_eq_true rfl) ?_
  refine lv_iushr hx hb dX1_slotFor_6 rfl ?_
  refine lv_topi (fun x9 ex9 => ?_)
  have gx9 := jrg (rfl : x9.toInt = x9.toInt)
  have g10 : 0 ≤ x9.toInt ∧ x9.toInt ≤ 1023 := jushr22 ex9
  refine lv_istore_n (lv' := [(2, .int x9), (0, .ref (ad 31)), (1, .int a1)]) hx hb dX1_slotFor_7 rfl hl (of_decide_eq_true rfl) rfl (fun ls hl => ?_)
  refine lv_iconst (v := 0) hx hb dX1_slotFor_8 (of_decide_eq_true rfl) ?_
  refine lv_istore_n (lv' := [(3, .int 0), (2, .int x9), (0, .ref (ad 31)), (1, .int a1)]) hx hb dX1_slotFor_9 rfl hl (of_decide_eq_true rfl) rfl (fun ls hl => ?_)
  have lp11 : ∀ (n12 : Nat) (x13 : Int32) (H : Heap) (locs : List Loc) (ls : Array Slot), (-x13.toInt + 1024 : Int) < n12 → 0 ≤ x13.toInt → x13.toInt ≤ 1024 → (∀ q : Nat, (q : Int) < x13.toInt → jqMs (σ 31 8).toInt (σ 32) (σ 36) (σ 37) a1 q) → jH D cI cL ad σ τ H → va_S (jA ad) s.heap H locs → lv_has ls 5 [(3, .int x13), (2, .int x9), (0, .ref (ad 31)), (1, .int a1)] → W p l e ({ frames := 1, cells := 0, slots := 0, locals := 22 }) s m args below meth c H locs 0 0 Q (F0 m 10 ls []) := by
    intro n12
    induction n12 with
    | zero => intro x13 H locs ls h16 h17 h18; exact absurd h16 (by omega)
    | succ n12 ihlp11 =>
      intro x13 H locs ls h16 h17 h18 q20 hP hS hl
      exact by
       refine lv_iload_n hx hb dX1_slotFor_10 rfl (lv_at hl 0 rfl) ?_
       refine lv_sipush (v := 1024) hx hb dX1_slotFor_11 (of_decide_eq_true rfl) ?_
       refine lv_icmp_ge (tgt := 60) hx hb dX1_slotFor_14 (of_decide_eq_true rfl) (fun c21 => ?_) (fun c21 => ?_)
       · have kc21 := jle c21 jz_1024 rfl
         refine lv_iconst (v := (-1)) hx hb dX1_slotFor_60 (of_decide_eq_true rfl) ?_
         exact by exact hret (-1) σ τ _ _ _ _ rfl ⟨⟨rfl, rfl⟩, (jqSf.no q20 (by omega) (of_decide_eq_true rfl)), ⟨trivial, (by have h9 := jz_m1; omega)⟩⟩ hP hS dX1_slotFor_61
       · have kc21 := jnle c21 jz_1024 rfl
         refine lv_iload_n hx hb dX1_slotFor_17 rfl (lv_at hl 1 rfl) ?_
         refine lv_iload_n hx hb dX1_slotFor_18 rfl (lv_at hl 0 rfl) ?_
         have g22 := jrg (rfl : x9.toInt = x9.toInt)
         have g23 := jrg (rfl : x13.toInt = x13.toInt)
         refine lv_iadd hx hb dX1_slotFor_19 ?_
         refine lv_topi (fun x24 ex24 => ?_)
         exact by
          have tx24 : x24.toInt = x9.toInt + x13.toInt := (jadd ex24 rfl rfl (by omega) (by omega)).trans (by omega)
          refine lv_sipush (v := 1023) hx hb dX1_slotFor_20 (of_decide_eq_true rfl) ?_
          refine lv_iand hx hb dX1_slotFor_23 ?_
          refine lv_topi (fun x25 ex25 => ?_)
          have gx25 := jrg (rfl : x25.toInt = x25.toInt)
          have g26 : 0 ≤ x25.toInt ∧ x25.toInt ≤ 1023 := jmask ex25 10 (of_decide_eq_true rfl) (of_decide_eq_true rfl)
          refine lv_istore (lv' := [(4, .int x25), (3, .int x13), (2, .int x9), (0, .ref (ad 31)), (1, .int a1)]) hx hb dX1_slotFor_24 hl (of_decide_eq_true rfl) rfl (fun ls hl => ?_)
          refine lv_aload_n hx hb dX1_slotFor_26 rfl (lv_at hl 3 rfl) ?_
          refine lv_iload hx hb dX1_slotFor_27 (lv_at hl 0 rfl) ?_
          exact by
           refine jcallV (As := [.int x25]) (rest := []) ⟨hx, hb, hml, hown, hts⟩ hK hP hA hS hZ (c_X1_isTaken_31 l D cI cL ad zz hJ σ τ x25 (x25.toInt) rfl hI31 (by omega)) cw_RX1_81 (jc_31 cI cL ad σ τ) rfl ⟨Nat.le_of_ble_eq_true rfl, Nat.le_of_ble_eq_true rfl⟩ rfl rfl rfl hl.1 rfl (Nat.le_of_ble_eq_true rfl) dX1_slotFor_29 ⟨Nat.zero_le _, Nat.zero_le _⟩ (fun r28 σ27 τ27 H locs h27 hP hS => ?_)
           obtain ⟨⟨rfl, rfl⟩, h27⟩ := h27
           rcases h27 with h29 | h30
           · obtain ⟨q32, k31⟩ := h29
             have q32 := q32.symm
             subst q32
             refine lv_if_eq (tgt := 51) hx hb dX1_slotFor_32 (of_decide_eq_true rfl) (fun c => absurd c (of_decide_eq_true rfl)) (fun _ => ?_)
             refine lv_aload_n hx hb dX1_slotFor_35 rfl (lv_at hl 3 rfl) ?_
             refine va_get (D := D) hx hb hts inlX1 hown hK hP 31 (jc_31 cI cL ad σ τ) rfl 2 (of_decide_eq_true rfl) (hts _ kw_5_3) (fun _ h9 => h9) rfl dX1_slotFor_36 ?_
             refine lv_aload_n hx hb dX1_slotFor_39 rfl (lv_at hl 3 rfl) ?_
             refine va_get (D := D) hx hb hts inlX1 hown hK hP 31 (jc_31 cI cL ad σ τ) rfl 6 (of_decide_eq_true rfl) (hts _ kw_5_7) (fun _ h9 => h9) rfl dX1_slotFor_40 ?_
             refine lv_iload hx hb dX1_slotFor_43 (lv_at hl 0 rfl) ?_
             exact by
              refine jald hx hb hK hP (jc_36 cI cL ad σ τ) (jin rfl (by omega) (by omega)) dX1_slotFor_45 ?_
              have g33 := w7 _ (jnat (x := x25) rfl (n := 1024) (by omega) (of_decide_eq_true rfl))
              refine jtopr (y := (σ 36 x25.toNatClampNeg)) rfl ?_
              refine jald hx hb hK hP (jc_32 cI cL ad σ τ) (jin rfl (by omega) (by omega)) dX1_slotFor_46 ?_
              refine jtopr (y := (σ 32 (σ 36 x25.toNatClampNeg).toNatClampNeg)) rfl ?_
              refine lv_iload_n hx hb dX1_slotFor_47 rfl (lv_at hl 4 rfl) ?_
              refine lv_icmp_ne (tgt := 54) hx hb dX1_slotFor_48 (of_decide_eq_true rfl) (fun c34 => ?_) (fun c34 => ?_)
              · have kc34 := jne c34 rfl t1
                obtain ⟨x35, ex35⟩ : ∃ y : Int32, y = x13 + 1 := ⟨_, rfl⟩
                exact by
                 have tx35 : x35.toInt = x13.toInt + 1 := (jadd ex35 rfl jz_1 (by omega) (by omega)).trans (by omega)
                 refine lv_iinc (v := x35) (lv' := [(3, .int x35), (4, .int x25), (2, .int x9), (0, .ref (ad 31)), (1, .int a1)]) hx hb dX1_slotFor_54 hl (k := 1) rfl (by rw [ex35]; rfl) (of_decide_eq_true rfl) rfl (fun ls hl => ?_)
                 refine lv_goto (tgt := 10) hx hb dX1_slotFor_57 (of_decide_eq_true rfl) ?_
                 exact by exact ihlp11 x35 _ _ ls (by have h90 := tx35; omega) (by have h90 := tx35; omega) (by have h90 := tx35; omega)   (jqMs.step q20 (by omega) (by rw [show jHx a1 = x9 by rw [ex9, ex8, jHx]]; have w := jandm (x := x24) (y := x25) (m := 1023) (k := 10) (M := 1024) (by rw [ex25]) rfl rfl (of_decide_eq_true rfl); omega) k31 (show (σ 32 (σ 36 x25.toNatClampNeg).toNatClampNeg).toInt ≠ a1.toInt by omega) (by have h9 := tx35; omega)) hP hS (lv_sub hl [0, 2, 3, 4] rfl)
              · have kc34 := jeq c34 rfl t1
                refine lv_iload hx hb dX1_slotFor_51 (lv_at hl 0 rfl) ?_
                exact by exact hret x25 σ τ _ _ _ _ rfl ⟨⟨rfl, rfl⟩, (jqSf.of q20 (by omega) (by omega) (by rw [show jHx a1 = x9 by rw [ex9, ex8, jHx]]; have w := jandm (x := x24) (y := x25) (m := 1023) (k := 10) (M := 1024) (by rw [ex25]) rfl rfl (of_decide_eq_true rfl); omega) (Or.inr ⟨k31, (show (σ 32 (σ 36 x25.toNatClampNeg).toNatClampNeg).toInt = a1.toInt by omega)⟩)), ⟨trivial, (by omega)⟩⟩ hP hS dX1_slotFor_53
           · obtain ⟨q37, k36⟩ := h30
             have q37 := q37.symm
             exact by
              subst q37
              refine lv_if_eq (tgt := 51) hx hb dX1_slotFor_32 (of_decide_eq_true rfl) (fun _ => ?_) (fun c => absurd (of_decide_eq_true rfl) c)
              refine lv_iload hx hb dX1_slotFor_51 (lv_at hl 0 rfl) ?_
              exact by exact hret x25 σ τ _ _ _ _ rfl ⟨⟨rfl, rfl⟩, (jqSf.of q20 (by omega) (by omega) (by rw [show jHx a1 = x9 by rw [ex9, ex8, jHx]]; have w := jandm (x := x24) (y := x25) (m := 1023) (k := 10) (M := 1024) (by rw [ex25]) rfl rfl (of_decide_eq_true rfl); omega) (Or.inl k36)), ⟨trivial, (by omega)⟩⟩ hP hS dX1_slotFor_53
  exact by exact lp11 1000000 0 _ _ ls (by have h90 := jz_0; omega) (by have h90 := jz_0; omega) (by have h90 := jz_0; omega)  (fun q hq => absurd hq (by have h9 := jz_0; omega)) hP hS hl
set_option maxHeartbeats 4000000 in
set_option maxRecDepth 100000 in
theorem c_X1_trimmed_r (l : Launch) (D : va_G) (cI cL : ClassId) (ad zz : Nat → Nat) (hJ : jD ad) (σ : Nat → Nat → Int32) (τ : Nat → Nat → Int64) (a1 : Int32) (A1 : Int) (t1 : a1.toInt = A1) (a2 : Int32) (A2 : Int) (t2 : a2.toInt = A2) (hp0 : 0 ≤ A1 ∧ A1 ≤ 134217727) (hp1 : 1 ≤ A2) (hp2 : A2 ≤ 12) : jM l yX1_trimmed cX1_trimmed 7 (some .int) ({ frames := 1, cells := 0, slots := 0, locals := 23 }) D cI cL ad zz [.ref (ad 31), .int a1, .int a2] σ τ (fun r σ' τ' => (σ = σ' ∧ τ = τ') ∧ (jTf (decide ((σ 31 12).toInt ≠ 0)) (A2) a1 r) ∧ ((True ∧ (0 ≤ r.toInt ∧ r.toInt ≤ 134217727)))) := by
  refine jM.of hJ (by decide +kernel) (nt := .int) rfl (Nat.le_of_ble_eq_true rfl) ?_
  intro p e s m args below meth c Q ls hC hret hl hP
  obtain ⟨hx, hb, hr, hml, hown, hts, hK, -, hlocks, hZ⟩ := hC
  have hown : s.vm.findClass RX1 = some m.cls := hown
  have hS : va_S (jA ad) s.heap s.heap [] := va_S.rf
  have hA : ∀ q, jA ad q → jA ad q := fun _ h => h
  have hl : lv_has ls 7 [(0, .ref (ad 31)), (1, .int a1), (2, .int a2)] := hl
  have g1 := jrg t1
  have g2 := jrg t2
  refine lv_iload_n hx hb dX1_trimmed_0 rfl (lv_at hl 1 rfl) ?_
  refine lv_istore_n (lv' := [(3, .int a1), (0, .ref (ad 31)), (1, .int a1), (2, .int a2)]) hx hb dX1_trimmed_1 rfl hl (of_decide_eq_true rfl) rfl (fun ls hl => ?_)
  refine lv_iconst (v := 0) hx hb dX1_trimmed_2 (of_decide_eq_true rfl) ?_
  refine lv_istore (lv' := [(4, .int 0), (3, .int a1), (0, .ref (ad 31)), (1, .int a1), (2, .int a2)]) hx hb dX1_trimmed_3 hl (of_decide_eq_true rfl) rfl (fun ls hl => ?_)
  have lp1 : ∀ (n2 : Nat) (x3 : Int32) (x4 : Int32) (H : Heap) (locs : List Loc) (ls : Array Slot), (-x4.toInt + 4 : Int) < n2 → 0 ≤ x3.toInt → x3.toInt ≤ 134217727 → 0 ≤ x4.toInt → x4.toInt ≤ 4 → (jTh (decide ((σ 31 12).toInt ≠ 0)) (a2.toInt) a1 x3 (x4.toInt)) → jH D cI cL ad σ τ H → va_S (jA ad) s.heap H locs → lv_has ls 7 [(4, .int x4), (3, .int x3), (0, .ref (ad 31)), (1, .int a1), (2, .int a2)] → W p l e ({ frames := 1, cells := 0, slots := 0, locals := 23 }) s m args below meth c H locs 0 0 Q (F0 m 5 ls []) := by
    intro n2
    induction n2 with
    | zero => intro x3 x4 H locs ls h8 h9 h10 h11 h12; exact absurd h8 (by omega)
    | succ n2 ihlp1 =>
      intro x3 x4 H locs ls h8 h9 h10 h11 h12 q14 hP hS hl
      exact by
       refine lv_iload hx hb dX1_trimmed_5 (lv_at hl 0 rfl) ?_
       refine lv_iconst (v := 4) hx hb dX1_trimmed_7 (of_decide_eq_true rfl) ?_
       refine lv_icmp_ge (tgt := 90) hx hb dX1_trimmed_8 (of_decide_eq_true rfl) (fun c15 => ?_) (fun c15 => ?_)
       · have kc15 := jle c15 jz_4 rfl
         refine lv_iload_n hx hb dX1_trimmed_90 rfl (lv_at hl 1 rfl) ?_
         exact by exact hret x3 σ τ _ _ _ _ rfl ⟨⟨rfl, rfl⟩, (by rw [← t2]; exact q14.fin (by omega)), ⟨trivial, (by omega)⟩⟩ hP hS dX1_trimmed_91
       · have kc15 := jnle c15 jz_4 rfl
         refine lv_iload_n hx hb dX1_trimmed_11 rfl (lv_at hl 3 rfl) ?_
         refine lv_iload hx hb dX1_trimmed_12 (lv_at hl 0 rfl) ?_
         refine jcallS (As := [.int a1, .int x4]) (rest := []) ⟨hx, hb, hml, hown, hts⟩ hK hP hA hS hZ (c_X0_left l D cI cL ad zz hJ σ τ a1 (A1) t1 x4 (x4.toInt) rfl) cw_RX1_123 ⟨Nat.le_of_ble_eq_true rfl, Nat.le_of_ble_eq_true rfl⟩ rfl rfl rfl hl.1 rfl (Nat.le_of_ble_eq_true rfl) dX1_trimmed_14 ⟨Nat.zero_le _, Nat.zero_le _⟩ (fun r17 σ16 τ16 H locs h16 hP hS => ?_)
         obtain ⟨⟨rfl, rfl⟩, w18, h16⟩ := h16
         have k19 := congrArg Int32.toInt w18
         have h20 := h16
         obtain ⟨q22, k21⟩ := h20
         refine lv_istore (lv' := [(5, .int r17), (4, .int x4), (3, .int x3), (0, .ref (ad 31)), (1, .int a1), (2, .int a2)]) hx hb dX1_trimmed_17 hl (of_decide_eq_true rfl) rfl (fun ls hl => ?_)
         refine lv_iload_n hx hb dX1_trimmed_19 rfl (lv_at hl 4 rfl) ?_
         refine jcallS (As := [.int a1]) (rest := []) ⟨hx, hb, hml, hown, hts⟩ hK hP hA hS hZ (c_X0_last l D cI cL ad zz hJ σ τ a1 (A1) t1) cw_RX1_126 ⟨Nat.le_of_ble_eq_true rfl, Nat.le_of_ble_eq_true rfl⟩ rfl rfl rfl hl.1 rfl (Nat.le_of_ble_eq_true rfl) dX1_trimmed_20 ⟨Nat.zero_le _, Nat.zero_le _⟩ (fun r24 σ23 τ23 H locs h23 hP hS => ?_)
         obtain ⟨⟨rfl, rfl⟩, w25, h23⟩ := h23
         refine lv_iload hx hb dX1_trimmed_23 (lv_at hl 1 rfl) ?_
         refine lv_icmp_ne (tgt := 32) hx hb dX1_trimmed_25 (of_decide_eq_true rfl) (fun c26 => ?_) (fun c26 => ?_)
         · have kc26 := jne c26 rfl rfl
           refine lv_iload_n hx hb dX1_trimmed_32 rfl (lv_at hl 5 rfl) ?_
           refine lv_iconst (v := 1) hx hb dX1_trimmed_33 (of_decide_eq_true rfl) ?_
           refine lv_iadd hx hb dX1_trimmed_34 ?_
           refine lv_topi (fun x27 ex27 => ?_)
           exact by
            have tx27 : x27.toInt = A2 + 1 := (jadd ex27 t2 jz_1 (by omega) (by omega)).trans (by omega)
            refine lv_iconst (v := 2) hx hb dX1_trimmed_35 (of_decide_eq_true rfl) ?_
            refine lv_idiv hx hb dX1_trimmed_36 (of_decide_eq_true rfl) ?_
            refine lv_topi (fun x28 ex28 => ?_)
            have tx28 : x28.toInt = ((A2 + 1) / 2) := jdiv ex28 tx27 jz_2 (by omega) (by omega)
            refine lv_istore (lv' := [(6, .int x28), (5, .int r17), (4, .int x4), (3, .int x3), (0, .ref (ad 31)), (1, .int a1), (2, .int a2)]) hx hb dX1_trimmed_37 hl (of_decide_eq_true rfl) rfl (fun ls hl => ?_)
            refine lv_aload_n hx hb dX1_trimmed_39 rfl (lv_at hl 4 rfl) ?_
            refine va_get (D := D) hx hb hts inlX1 hown hK hP 31 (jc_31 cI cL ad σ τ) rfl 12 (of_decide_eq_true rfl) (hts _ kw_28_8) (fun _ h9 => h9) rfl dX1_trimmed_40 ?_
            refine lv_if_eq (tgt := 51) hx hb dX1_trimmed_43 (of_decide_eq_true rfl) (fun c29 => ?_) (fun c29 => ?_)
            · exact by
               have kc29 := jeq c29 rfl jz_0
               refine lv_iload hx hb dX1_trimmed_51 (lv_at hl 1 rfl) ?_
               refine lv_iload hx hb dX1_trimmed_53 (lv_at hl 0 rfl) ?_
               refine lv_icmp_le (tgt := 71) hx hb dX1_trimmed_55 (of_decide_eq_true rfl) (fun c30 => ?_) (fun c30 => ?_)
               · have kc30 := jle c30 rfl tx28
                 refine lv_iload hx hb dX1_trimmed_71 (lv_at hl 1 rfl) ?_
                 refine lv_if_ne (tgt := 84) hx hb dX1_trimmed_73 (of_decide_eq_true rfl) (fun c31 => ?_) (fun c31 => ?_)
                 · have kc31 := jne c31 rfl jz_0
                   obtain ⟨x32, ex32⟩ : ∃ y : Int32, y = x4 + 1 := ⟨_, rfl⟩
                   exact by
                    have tx32 : x32.toInt = x4.toInt + 1 := (jadd ex32 rfl jz_1 (by omega) (by omega)).trans (by omega)
                    refine lv_iinc (v := x32) (lv' := [(4, .int x32), (6, .int x28), (5, .int r17), (3, .int x3), (0, .ref (ad 31)), (1, .int a1), (2, .int a2)]) hx hb dX1_trimmed_84 hl (k := 2) rfl (by rw [ex32]; rfl) (of_decide_eq_true rfl) rfl (fun ls hl => ?_)
                    refine lv_goto (tgt := 5) hx hb dX1_trimmed_87 (of_decide_eq_true rfl) ?_
                    exact by exact ihlp1 x3 x32 _ _ ls (by have h91 := tx32; omega) (by have h91 := tx32; omega) (by have h91 := tx32; omega) (by have h91 := tx32; omega) (by have h91 := tx32; omega)   (jTh.stepi (l := r17) (m := x28) (v := x28) (w := 0) q14 rfl (by omega) (by omega) w18 (by unfold jla; omega) (by have h9 := tx28; omega) rfl (Or.inr ⟨by omega, Or.inr ⟨by omega, rfl⟩⟩) (by have h9 := tx32; omega)) hP hS (lv_sub hl [0, 3, 4, 5, 6] rfl)
                 · have kc31 := jeq c31 rfl jz_0
                   refine lv_iload_n hx hb dX1_trimmed_76 rfl (lv_at hl 3 rfl) ?_
                   refine lv_iload hx hb dX1_trimmed_77 (lv_at hl 2 rfl) ?_
                   refine lv_iconst (v := 0) hx hb dX1_trimmed_79 (of_decide_eq_true rfl) ?_
                   refine jcallS (As := [.int x3, .int x4, .int 0]) (rest := []) ⟨hx, hb, hml, hown, hts⟩ hK hP hA hS hZ (c_X0_withSteps_r l D cI cL ad zz hJ σ τ x3 (x3.toInt) rfl x4 (x4.toInt) rfl 0 (0) jz_0 (by omega) (by omega)) cw_RX1_133 ⟨Nat.le_of_ble_eq_true rfl, Nat.le_of_ble_eq_true rfl⟩ rfl rfl rfl hl.1 rfl (Nat.le_of_ble_eq_true rfl) dX1_trimmed_80 ⟨Nat.zero_le _, Nat.zero_le _⟩ (fun r34 σ33 τ33 H locs h33 hP hS => ?_)
                   exact by
                    obtain ⟨⟨rfl, rfl⟩, w35, h33⟩ := h33
                    have k36 := congrArg Int32.toInt w35
                    have h37 := h33
                    obtain ⟨q39, k38⟩ := h37
                    refine lv_istore_n (lv' := [(3, .int r34), (6, .int x28), (5, .int r17), (4, .int x4), (0, .ref (ad 31)), (1, .int a1), (2, .int a2)]) hx hb dX1_trimmed_83 rfl hl (of_decide_eq_true rfl) rfl (fun ls hl => ?_)
                    obtain ⟨x40, ex40⟩ : ∃ y : Int32, y = x4 + 1 := ⟨_, rfl⟩
                    have tx40 : x40.toInt = x4.toInt + 1 := (jadd ex40 rfl jz_1 (by omega) (by omega)).trans (by omega)
                    refine lv_iinc (v := x40) (lv' := [(4, .int x40), (3, .int r34), (6, .int x28), (5, .int r17), (0, .ref (ad 31)), (1, .int a1), (2, .int a2)]) hx hb dX1_trimmed_84 hl (k := 3) rfl (by rw [ex40]; rfl) (of_decide_eq_true rfl) rfl (fun ls hl => ?_)
                    refine lv_goto (tgt := 5) hx hb dX1_trimmed_87 (of_decide_eq_true rfl) ?_
                    exact by exact ihlp1 r34 x40 _ _ ls (by have h91 := tx40; omega) (by have h91 := tx40; omega) (by have h91 := tx40; omega) (by have h91 := tx40; omega) (by have h91 := tx40; omega)   (jTh.stepi (l := r17) (m := x28) (v := x28) (w := 0) q14 rfl (by omega) (by omega) w18 (by unfold jla; omega) (by have h9 := tx28; omega) rfl (Or.inr ⟨by omega, Or.inl ⟨by omega, w35⟩⟩) (by have h9 := tx40; omega)) hP hS (lv_sub hl [0, 1, 4, 5, 6] rfl)
               · exact by
                  have kc30 := jnle c30 rfl tx28
                  refine lv_iload hx hb dX1_trimmed_58 (lv_at hl 0 rfl) ?_
                  refine lv_istore (lv' := [(5, .int x28), (6, .int x28), (4, .int x4), (3, .int x3), (0, .ref (ad 31)), (1, .int a1), (2, .int a2)]) hx hb dX1_trimmed_60 hl (of_decide_eq_true rfl) rfl (fun ls hl => ?_)
                  refine lv_iload_n hx hb dX1_trimmed_62 rfl (lv_at hl 3 rfl) ?_
                  refine lv_iload hx hb dX1_trimmed_63 (lv_at hl 2 rfl) ?_
                  refine lv_iload hx hb dX1_trimmed_65 (lv_at hl 0 rfl) ?_
                  refine jcallS (As := [.int x3, .int x4, .int x28]) (rest := []) ⟨hx, hb, hml, hown, hts⟩ hK hP hA hS hZ (c_X0_withLeft_r l D cI cL ad zz hJ σ τ x3 (x3.toInt) rfl x4 (x4.toInt) rfl x28 (((A2 + 1) / 2)) tx28 (by omega) (by omega)) cw_RX1_129 ⟨Nat.le_of_ble_eq_true rfl, Nat.le_of_ble_eq_true rfl⟩ rfl rfl rfl hl.1 rfl (Nat.le_of_ble_eq_true rfl) dX1_trimmed_67 ⟨Nat.zero_le _, Nat.zero_le _⟩ (fun r42 σ41 τ41 H locs h41 hP hS => ?_)
                  obtain ⟨⟨rfl, rfl⟩, w43, h41⟩ := h41
                  have k44 := congrArg Int32.toInt w43
                  exact by
                   have h45 := h41
                   obtain ⟨q47, k46⟩ := h45
                   refine lv_istore_n (lv' := [(3, .int r42), (5, .int x28), (6, .int x28), (4, .int x4), (0, .ref (ad 31)), (1, .int a1), (2, .int a2)]) hx hb dX1_trimmed_70 rfl hl (of_decide_eq_true rfl) rfl (fun ls hl => ?_)
                   refine lv_iload hx hb dX1_trimmed_71 (lv_at hl 1 rfl) ?_
                   refine lv_if_ne (tgt := 84) hx hb dX1_trimmed_73 (of_decide_eq_true rfl) (fun c48 => ?_) (fun c => absurd (jeq c tx28 jz_0) (by omega))
                   have kc48 := jne c48 tx28 jz_0
                   obtain ⟨x49, ex49⟩ : ∃ y : Int32, y = x4 + 1 := ⟨_, rfl⟩
                   have tx49 : x49.toInt = x4.toInt + 1 := (jadd ex49 rfl jz_1 (by omega) (by omega)).trans (by omega)
                   refine lv_iinc (v := x49) (lv' := [(4, .int x49), (3, .int r42), (5, .int x28), (6, .int x28), (0, .ref (ad 31)), (1, .int a1), (2, .int a2)]) hx hb dX1_trimmed_84 hl (k := 3) rfl (by rw [ex49]; rfl) (of_decide_eq_true rfl) rfl (fun ls hl => ?_)
                   exact by
                    refine lv_goto (tgt := 5) hx hb dX1_trimmed_87 (of_decide_eq_true rfl) ?_
                    exact by exact ihlp1 r42 x49 _ _ ls (by have h91 := tx49; omega) (by have h91 := tx49; omega) (by have h91 := tx49; omega) (by have h91 := tx49; omega) (by have h91 := tx49; omega)   (jTh.stepi (l := r17) (m := x28) (v := x28) (w := 0) q14 rfl (by omega) (by omega) w18 (by unfold jla; omega) (by have h9 := tx28; omega) rfl (Or.inl ⟨by omega, by omega, rfl, Or.inr ⟨by omega, w43⟩⟩) (by have h9 := tx49; omega)) hP hS (lv_sub hl [0, 1, 4, 5, 6] rfl)
            · have kc29 := jne c29 rfl jz_0
              refine lv_iload_n hx hb dX1_trimmed_46 rfl (lv_at hl 6 rfl) ?_
              refine lv_iconst (v := 1) hx hb dX1_trimmed_47 (of_decide_eq_true rfl) ?_
              refine lv_icmp_gt (tgt := 71) hx hb dX1_trimmed_48 (of_decide_eq_true rfl) (fun c50 => ?_) (fun c50 => ?_)
              · have kc50 := jlt c50 jz_1 t2
                refine lv_iload hx hb dX1_trimmed_71 (lv_at hl 1 rfl) ?_
                refine lv_if_ne (tgt := 84) hx hb dX1_trimmed_73 (of_decide_eq_true rfl) (fun c51 => ?_) (fun c51 => ?_)
                · have kc51 := jne c51 rfl jz_0
                  obtain ⟨x52, ex52⟩ : ∃ y : Int32, y = x4 + 1 := ⟨_, rfl⟩
                  exact by
                   have tx52 : x52.toInt = x4.toInt + 1 := (jadd ex52 rfl jz_1 (by omega) (by omega)).trans (by omega)
                   refine lv_iinc (v := x52) (lv' := [(4, .int x52), (6, .int x28), (5, .int r17), (3, .int x3), (0, .ref (ad 31)), (1, .int a1), (2, .int a2)]) hx hb dX1_trimmed_84 hl (k := 2) rfl (by rw [ex52]; rfl) (of_decide_eq_true rfl) rfl (fun ls hl => ?_)
                   refine lv_goto (tgt := 5) hx hb dX1_trimmed_87 (of_decide_eq_true rfl) ?_
                   exact by exact ihlp1 x3 x52 _ _ ls (by have h91 := tx52; omega) (by have h91 := tx52; omega) (by have h91 := tx52; omega) (by have h91 := tx52; omega) (by have h91 := tx52; omega)   (jTh.stepi (l := r17) (m := x28) (v := x28) (w := 0) q14 rfl (by omega) (by omega) w18 (by unfold jla; omega) (by have h9 := tx28; omega) rfl (Or.inr ⟨by omega, Or.inr ⟨by omega, rfl⟩⟩) (by have h9 := tx52; omega)) hP hS (lv_sub hl [0, 3, 4, 5, 6] rfl)
                · have kc51 := jeq c51 rfl jz_0
                  refine lv_iload_n hx hb dX1_trimmed_76 rfl (lv_at hl 3 rfl) ?_
                  refine lv_iload hx hb dX1_trimmed_77 (lv_at hl 2 rfl) ?_
                  refine lv_iconst (v := 0) hx hb dX1_trimmed_79 (of_decide_eq_true rfl) ?_
                  refine jcallS (As := [.int x3, .int x4, .int 0]) (rest := []) ⟨hx, hb, hml, hown, hts⟩ hK hP hA hS hZ (c_X0_withSteps_r l D cI cL ad zz hJ σ τ x3 (x3.toInt) rfl x4 (x4.toInt) rfl 0 (0) jz_0 (by omega) (by omega)) cw_RX1_133 ⟨Nat.le_of_ble_eq_true rfl, Nat.le_of_ble_eq_true rfl⟩ rfl rfl rfl hl.1 rfl (Nat.le_of_ble_eq_true rfl) dX1_trimmed_80 ⟨Nat.zero_le _, Nat.zero_le _⟩ (fun r54 σ53 τ53 H locs h53 hP hS => ?_)
                  exact by
                   obtain ⟨⟨rfl, rfl⟩, w55, h53⟩ := h53
                   have k56 := congrArg Int32.toInt w55
                   have h57 := h53
                   obtain ⟨q59, k58⟩ := h57
                   refine lv_istore_n (lv' := [(3, .int r54), (6, .int x28), (5, .int r17), (4, .int x4), (0, .ref (ad 31)), (1, .int a1), (2, .int a2)]) hx hb dX1_trimmed_83 rfl hl (of_decide_eq_true rfl) rfl (fun ls hl => ?_)
                   obtain ⟨x60, ex60⟩ : ∃ y : Int32, y = x4 + 1 := ⟨_, rfl⟩
                   have tx60 : x60.toInt = x4.toInt + 1 := (jadd ex60 rfl jz_1 (by omega) (by omega)).trans (by omega)
                   refine lv_iinc (v := x60) (lv' := [(4, .int x60), (3, .int r54), (6, .int x28), (5, .int r17), (0, .ref (ad 31)), (1, .int a1), (2, .int a2)]) hx hb dX1_trimmed_84 hl (k := 3) rfl (by rw [ex60]; rfl) (of_decide_eq_true rfl) rfl (fun ls hl => ?_)
                   refine lv_goto (tgt := 5) hx hb dX1_trimmed_87 (of_decide_eq_true rfl) ?_
                   exact by exact ihlp1 r54 x60 _ _ ls (by have h91 := tx60; omega) (by have h91 := tx60; omega) (by have h91 := tx60; omega) (by have h91 := tx60; omega) (by have h91 := tx60; omega)   (jTh.stepi (l := r17) (m := x28) (v := x28) (w := 0) q14 rfl (by omega) (by omega) w18 (by unfold jla; omega) (by have h9 := tx28; omega) rfl (Or.inr ⟨by omega, Or.inl ⟨by omega, w55⟩⟩) (by have h9 := tx60; omega)) hP hS (lv_sub hl [0, 1, 4, 5, 6] rfl)
              · exact by
                 have kc50 := jnlt c50 jz_1 t2
                 refine lv_iload hx hb dX1_trimmed_51 (lv_at hl 1 rfl) ?_
                 refine lv_iload hx hb dX1_trimmed_53 (lv_at hl 0 rfl) ?_
                 refine lv_icmp_le (tgt := 71) hx hb dX1_trimmed_55 (of_decide_eq_true rfl) (fun c61 => ?_) (fun c61 => ?_)
                 · have kc61 := jle c61 rfl tx28
                   refine lv_iload hx hb dX1_trimmed_71 (lv_at hl 1 rfl) ?_
                   refine lv_if_ne (tgt := 84) hx hb dX1_trimmed_73 (of_decide_eq_true rfl) (fun c62 => ?_) (fun c62 => ?_)
                   · have kc62 := jne c62 rfl jz_0
                     obtain ⟨x63, ex63⟩ : ∃ y : Int32, y = x4 + 1 := ⟨_, rfl⟩
                     exact by
                      have tx63 : x63.toInt = x4.toInt + 1 := (jadd ex63 rfl jz_1 (by omega) (by omega)).trans (by omega)
                      refine lv_iinc (v := x63) (lv' := [(4, .int x63), (6, .int x28), (5, .int r17), (3, .int x3), (0, .ref (ad 31)), (1, .int a1), (2, .int a2)]) hx hb dX1_trimmed_84 hl (k := 2) rfl (by rw [ex63]; rfl) (of_decide_eq_true rfl) rfl (fun ls hl => ?_)
                      refine lv_goto (tgt := 5) hx hb dX1_trimmed_87 (of_decide_eq_true rfl) ?_
                      exact by exact ihlp1 x3 x63 _ _ ls (by have h91 := tx63; omega) (by have h91 := tx63; omega) (by have h91 := tx63; omega) (by have h91 := tx63; omega) (by have h91 := tx63; omega)   (jTh.stepi (l := r17) (m := x28) (v := x28) (w := 0) q14 rfl (by omega) (by omega) w18 (by unfold jla; omega) (by have h9 := tx28; omega) rfl (Or.inr ⟨by omega, Or.inr ⟨by omega, rfl⟩⟩) (by have h9 := tx63; omega)) hP hS (lv_sub hl [0, 3, 4, 5, 6] rfl)
                   · have kc62 := jeq c62 rfl jz_0
                     refine lv_iload_n hx hb dX1_trimmed_76 rfl (lv_at hl 3 rfl) ?_
                     refine lv_iload hx hb dX1_trimmed_77 (lv_at hl 2 rfl) ?_
                     refine lv_iconst (v := 0) hx hb dX1_trimmed_79 (of_decide_eq_true rfl) ?_
                     refine jcallS (As := [.int x3, .int x4, .int 0]) (rest := []) ⟨hx, hb, hml, hown, hts⟩ hK hP hA hS hZ (c_X0_withSteps_r l D cI cL ad zz hJ σ τ x3 (x3.toInt) rfl x4 (x4.toInt) rfl 0 (0) jz_0 (by omega) (by omega)) cw_RX1_133 ⟨Nat.le_of_ble_eq_true rfl, Nat.le_of_ble_eq_true rfl⟩ rfl rfl rfl hl.1 rfl (Nat.le_of_ble_eq_true rfl) dX1_trimmed_80 ⟨Nat.zero_le _, Nat.zero_le _⟩ (fun r65 σ64 τ64 H locs h64 hP hS => ?_)
                     exact by
                      obtain ⟨⟨rfl, rfl⟩, w66, h64⟩ := h64
                      have k67 := congrArg Int32.toInt w66
                      have h68 := h64
                      obtain ⟨q70, k69⟩ := h68
                      refine lv_istore_n (lv' := [(3, .int r65), (6, .int x28), (5, .int r17), (4, .int x4), (0, .ref (ad 31)), (1, .int a1), (2, .int a2)]) hx hb dX1_trimmed_83 rfl hl (of_decide_eq_true rfl) rfl (fun ls hl => ?_)
                      obtain ⟨x71, ex71⟩ : ∃ y : Int32, y = x4 + 1 := ⟨_, rfl⟩
                      have tx71 : x71.toInt = x4.toInt + 1 := (jadd ex71 rfl jz_1 (by omega) (by omega)).trans (by omega)
                      refine lv_iinc (v := x71) (lv' := [(4, .int x71), (3, .int r65), (6, .int x28), (5, .int r17), (0, .ref (ad 31)), (1, .int a1), (2, .int a2)]) hx hb dX1_trimmed_84 hl (k := 3) rfl (by rw [ex71]; rfl) (of_decide_eq_true rfl) rfl (fun ls hl => ?_)
                      refine lv_goto (tgt := 5) hx hb dX1_trimmed_87 (of_decide_eq_true rfl) ?_
                      exact by exact ihlp1 r65 x71 _ _ ls (by have h91 := tx71; omega) (by have h91 := tx71; omega) (by have h91 := tx71; omega) (by have h91 := tx71; omega) (by have h91 := tx71; omega)   (jTh.stepi (l := r17) (m := x28) (v := x28) (w := 0) q14 rfl (by omega) (by omega) w18 (by unfold jla; omega) (by have h9 := tx28; omega) rfl (Or.inr ⟨by omega, Or.inl ⟨by omega, w66⟩⟩) (by have h9 := tx71; omega)) hP hS (lv_sub hl [0, 1, 4, 5, 6] rfl)
                 · exact by
                    have kc61 := jnle c61 rfl tx28
                    refine lv_iload hx hb dX1_trimmed_58 (lv_at hl 0 rfl) ?_
                    refine lv_istore (lv' := [(5, .int x28), (6, .int x28), (4, .int x4), (3, .int x3), (0, .ref (ad 31)), (1, .int a1), (2, .int a2)]) hx hb dX1_trimmed_60 hl (of_decide_eq_true rfl) rfl (fun ls hl => ?_)
                    refine lv_iload_n hx hb dX1_trimmed_62 rfl (lv_at hl 3 rfl) ?_
                    refine lv_iload hx hb dX1_trimmed_63 (lv_at hl 2 rfl) ?_
                    refine lv_iload hx hb dX1_trimmed_65 (lv_at hl 0 rfl) ?_
                    refine jcallS (As := [.int x3, .int x4, .int x28]) (rest := []) ⟨hx, hb, hml, hown, hts⟩ hK hP hA hS hZ (c_X0_withLeft_r l D cI cL ad zz hJ σ τ x3 (x3.toInt) rfl x4 (x4.toInt) rfl x28 (((A2 + 1) / 2)) tx28 (by omega) (by omega)) cw_RX1_129 ⟨Nat.le_of_ble_eq_true rfl, Nat.le_of_ble_eq_true rfl⟩ rfl rfl rfl hl.1 rfl (Nat.le_of_ble_eq_true rfl) dX1_trimmed_67 ⟨Nat.zero_le _, Nat.zero_le _⟩ (fun r73 σ72 τ72 H locs h72 hP hS => ?_)
                    obtain ⟨⟨rfl, rfl⟩, w74, h72⟩ := h72
                    have k75 := congrArg Int32.toInt w74
                    exact by
                     have h76 := h72
                     obtain ⟨q78, k77⟩ := h76
                     refine lv_istore_n (lv' := [(3, .int r73), (5, .int x28), (6, .int x28), (4, .int x4), (0, .ref (ad 31)), (1, .int a1), (2, .int a2)]) hx hb dX1_trimmed_70 rfl hl (of_decide_eq_true rfl) rfl (fun ls hl => ?_)
                     refine lv_iload hx hb dX1_trimmed_71 (lv_at hl 1 rfl) ?_
                     refine lv_if_ne (tgt := 84) hx hb dX1_trimmed_73 (of_decide_eq_true rfl) (fun c79 => ?_) (fun c => absurd (jeq c tx28 jz_0) (by omega))
                     have kc79 := jne c79 tx28 jz_0
                     obtain ⟨x80, ex80⟩ : ∃ y : Int32, y = x4 + 1 := ⟨_, rfl⟩
                     have tx80 : x80.toInt = x4.toInt + 1 := (jadd ex80 rfl jz_1 (by omega) (by omega)).trans (by omega)
                     refine lv_iinc (v := x80) (lv' := [(4, .int x80), (3, .int r73), (5, .int x28), (6, .int x28), (0, .ref (ad 31)), (1, .int a1), (2, .int a2)]) hx hb dX1_trimmed_84 hl (k := 3) rfl (by rw [ex80]; rfl) (of_decide_eq_true rfl) rfl (fun ls hl => ?_)
                     exact by
                      refine lv_goto (tgt := 5) hx hb dX1_trimmed_87 (of_decide_eq_true rfl) ?_
                      exact by exact ihlp1 r73 x80 _ _ ls (by have h91 := tx80; omega) (by have h91 := tx80; omega) (by have h91 := tx80; omega) (by have h91 := tx80; omega) (by have h91 := tx80; omega)   (jTh.stepi (l := r17) (m := x28) (v := x28) (w := 0) q14 rfl (by omega) (by omega) w18 (by unfold jla; omega) (by have h9 := tx28; omega) rfl (Or.inl ⟨by omega, by omega, rfl, Or.inr ⟨by omega, w74⟩⟩) (by have h9 := tx80; omega)) hP hS (lv_sub hl [0, 1, 4, 5, 6] rfl)
         · have kc26 := jeq c26 rfl rfl
           refine lv_iload_n hx hb dX1_trimmed_28 rfl (lv_at hl 5 rfl) ?_
           refine lv_goto (tgt := 35) hx hb dX1_trimmed_29 (of_decide_eq_true rfl) ?_
           refine lv_iconst (v := 2) hx hb dX1_trimmed_35 (of_decide_eq_true rfl) ?_
           refine lv_idiv hx hb dX1_trimmed_36 (of_decide_eq_true rfl) ?_
           refine lv_topi (fun x81 ex81 => ?_)
           have tx81 : x81.toInt = (A2 / 2) := jdiv ex81 t2 jz_2 (by omega) (by omega)
           exact by
            refine lv_istore (lv' := [(6, .int x81), (5, .int r17), (4, .int x4), (3, .int x3), (0, .ref (ad 31)), (1, .int a1), (2, .int a2)]) hx hb dX1_trimmed_37 hl (of_decide_eq_true rfl) rfl (fun ls hl => ?_)
            refine lv_aload_n hx hb dX1_trimmed_39 rfl (lv_at hl 4 rfl) ?_
            refine va_get (D := D) hx hb hts inlX1 hown hK hP 31 (jc_31 cI cL ad σ τ) rfl 12 (of_decide_eq_true rfl) (hts _ kw_28_8) (fun _ h9 => h9) rfl dX1_trimmed_40 ?_
            refine lv_if_eq (tgt := 51) hx hb dX1_trimmed_43 (of_decide_eq_true rfl) (fun c82 => ?_) (fun c82 => ?_)
            · have kc82 := jeq c82 rfl jz_0
              refine lv_iload hx hb dX1_trimmed_51 (lv_at hl 1 rfl) ?_
              refine lv_iload hx hb dX1_trimmed_53 (lv_at hl 0 rfl) ?_
              refine lv_icmp_le (tgt := 71) hx hb dX1_trimmed_55 (of_decide_eq_true rfl) (fun c83 => ?_) (fun c83 => ?_)
              · have kc83 := jle c83 rfl tx81
                refine lv_iload hx hb dX1_trimmed_71 (lv_at hl 1 rfl) ?_
                refine lv_if_ne (tgt := 84) hx hb dX1_trimmed_73 (of_decide_eq_true rfl) (fun c84 => ?_) (fun c84 => ?_)
                · have kc84 := jne c84 rfl jz_0
                  obtain ⟨x85, ex85⟩ : ∃ y : Int32, y = x4 + 1 := ⟨_, rfl⟩
                  exact by
                   have tx85 : x85.toInt = x4.toInt + 1 := (jadd ex85 rfl jz_1 (by omega) (by omega)).trans (by omega)
                   refine lv_iinc (v := x85) (lv' := [(4, .int x85), (6, .int x81), (5, .int r17), (3, .int x3), (0, .ref (ad 31)), (1, .int a1), (2, .int a2)]) hx hb dX1_trimmed_84 hl (k := 2) rfl (by rw [ex85]; rfl) (of_decide_eq_true rfl) rfl (fun ls hl => ?_)
                   refine lv_goto (tgt := 5) hx hb dX1_trimmed_87 (of_decide_eq_true rfl) ?_
                   exact by exact ihlp1 x3 x85 _ _ ls (by have h91 := tx85; omega) (by have h91 := tx85; omega) (by have h91 := tx85; omega) (by have h91 := tx85; omega) (by have h91 := tx85; omega)   (jTh.stepi (l := r17) (m := x81) (v := x81) (w := 0) q14 rfl (by omega) (by omega) w18 (by unfold jla; omega) (by have h9 := tx81; omega) rfl (Or.inr ⟨by omega, Or.inr ⟨by omega, rfl⟩⟩) (by have h9 := tx85; omega)) hP hS (lv_sub hl [0, 3, 4, 5, 6] rfl)
                · have kc84 := jeq c84 rfl jz_0
                  refine lv_iload_n hx hb dX1_trimmed_76 rfl (lv_at hl 3 rfl) ?_
                  refine lv_iload hx hb dX1_trimmed_77 (lv_at hl 2 rfl) ?_
                  refine lv_iconst (v := 0) hx hb dX1_trimmed_79 (of_decide_eq_true rfl) ?_
                  refine jcallS (As := [.int x3, .int x4, .int 0]) (rest := []) ⟨hx, hb, hml, hown, hts⟩ hK hP hA hS hZ (c_X0_withSteps_r l D cI cL ad zz hJ σ τ x3 (x3.toInt) rfl x4 (x4.toInt) rfl 0 (0) jz_0 (by omega) (by omega)) cw_RX1_133 ⟨Nat.le_of_ble_eq_true rfl, Nat.le_of_ble_eq_true rfl⟩ rfl rfl rfl hl.1 rfl (Nat.le_of_ble_eq_true rfl) dX1_trimmed_80 ⟨Nat.zero_le _, Nat.zero_le _⟩ (fun r87 σ86 τ86 H locs h86 hP hS => ?_)
                  exact by
                   obtain ⟨⟨rfl, rfl⟩, w88, h86⟩ := h86
                   have k89 := congrArg Int32.toInt w88
                   have h90 := h86
                   obtain ⟨q92, k91⟩ := h90
                   refine lv_istore_n (lv' := [(3, .int r87), (6, .int x81), (5, .int r17), (4, .int x4), (0, .ref (ad 31)), (1, .int a1), (2, .int a2)]) hx hb dX1_trimmed_83 rfl hl (of_decide_eq_true rfl) rfl (fun ls hl => ?_)
                   obtain ⟨x93, ex93⟩ : ∃ y : Int32, y = x4 + 1 := ⟨_, rfl⟩
                   have tx93 : x93.toInt = x4.toInt + 1 := (jadd ex93 rfl jz_1 (by omega) (by omega)).trans (by omega)
                   refine lv_iinc (v := x93) (lv' := [(4, .int x93), (3, .int r87), (6, .int x81), (5, .int r17), (0, .ref (ad 31)), (1, .int a1), (2, .int a2)]) hx hb dX1_trimmed_84 hl (k := 3) rfl (by rw [ex93]; rfl) (of_decide_eq_true rfl) rfl (fun ls hl => ?_)
                   refine lv_goto (tgt := 5) hx hb dX1_trimmed_87 (of_decide_eq_true rfl) ?_
                   exact by exact ihlp1 r87 x93 _ _ ls (by have h91 := tx93; omega) (by have h91 := tx93; omega) (by have h91 := tx93; omega) (by have h91 := tx93; omega) (by have h91 := tx93; omega)   (jTh.stepi (l := r17) (m := x81) (v := x81) (w := 0) q14 rfl (by omega) (by omega) w18 (by unfold jla; omega) (by have h9 := tx81; omega) rfl (Or.inr ⟨by omega, Or.inl ⟨by omega, w88⟩⟩) (by have h9 := tx93; omega)) hP hS (lv_sub hl [0, 1, 4, 5, 6] rfl)
              · exact by
                 have kc83 := jnle c83 rfl tx81
                 refine lv_iload hx hb dX1_trimmed_58 (lv_at hl 0 rfl) ?_
                 refine lv_istore (lv' := [(5, .int x81), (6, .int x81), (4, .int x4), (3, .int x3), (0, .ref (ad 31)), (1, .int a1), (2, .int a2)]) hx hb dX1_trimmed_60 hl (of_decide_eq_true rfl) rfl (fun ls hl => ?_)
                 refine lv_iload_n hx hb dX1_trimmed_62 rfl (lv_at hl 3 rfl) ?_
                 refine lv_iload hx hb dX1_trimmed_63 (lv_at hl 2 rfl) ?_
                 refine lv_iload hx hb dX1_trimmed_65 (lv_at hl 0 rfl) ?_
                 refine jcallS (As := [.int x3, .int x4, .int x81]) (rest := []) ⟨hx, hb, hml, hown, hts⟩ hK hP hA hS hZ (c_X0_withLeft_r l D cI cL ad zz hJ σ τ x3 (x3.toInt) rfl x4 (x4.toInt) rfl x81 ((A2 / 2)) tx81 (by omega) (by omega)) cw_RX1_129 ⟨Nat.le_of_ble_eq_true rfl, Nat.le_of_ble_eq_true rfl⟩ rfl rfl rfl hl.1 rfl (Nat.le_of_ble_eq_true rfl) dX1_trimmed_67 ⟨Nat.zero_le _, Nat.zero_le _⟩ (fun r95 σ94 τ94 H locs h94 hP hS => ?_)
                 obtain ⟨⟨rfl, rfl⟩, w96, h94⟩ := h94
                 have k97 := congrArg Int32.toInt w96
                 exact by
                  have h98 := h94
                  obtain ⟨q100, k99⟩ := h98
                  refine lv_istore_n (lv' := [(3, .int r95), (5, .int x81), (6, .int x81), (4, .int x4), (0, .ref (ad 31)), (1, .int a1), (2, .int a2)]) hx hb dX1_trimmed_70 rfl hl (of_decide_eq_true rfl) rfl (fun ls hl => ?_)
                  refine lv_iload hx hb dX1_trimmed_71 (lv_at hl 1 rfl) ?_
                  refine lv_if_ne (tgt := 84) hx hb dX1_trimmed_73 (of_decide_eq_true rfl) (fun c101 => ?_) (fun c101 => ?_)
                  · have kc101 := jne c101 tx81 jz_0
                    obtain ⟨x102, ex102⟩ : ∃ y : Int32, y = x4 + 1 := ⟨_, rfl⟩
                    have tx102 : x102.toInt = x4.toInt + 1 := (jadd ex102 rfl jz_1 (by omega) (by omega)).trans (by omega)
                    refine lv_iinc (v := x102) (lv' := [(4, .int x102), (3, .int r95), (5, .int x81), (6, .int x81), (0, .ref (ad 31)), (1, .int a1), (2, .int a2)]) hx hb dX1_trimmed_84 hl (k := 3) rfl (by rw [ex102]; rfl) (of_decide_eq_true rfl) rfl (fun ls hl => ?_)
                    exact by
                     refine lv_goto (tgt := 5) hx hb dX1_trimmed_87 (of_decide_eq_true rfl) ?_
                     exact by exact ihlp1 r95 x102 _ _ ls (by have h91 := tx102; omega) (by have h91 := tx102; omega) (by have h91 := tx102; omega) (by have h91 := tx102; omega) (by have h91 := tx102; omega)   (jTh.stepi (l := r17) (m := x81) (v := x81) (w := 0) q14 rfl (by omega) (by omega) w18 (by unfold jla; omega) (by have h9 := tx81; omega) rfl (Or.inl ⟨by omega, by omega, rfl, Or.inr ⟨by omega, w96⟩⟩) (by have h9 := tx102; omega)) hP hS (lv_sub hl [0, 1, 4, 5, 6] rfl)
                  · have kc101 := jeq c101 tx81 jz_0
                    refine lv_iload_n hx hb dX1_trimmed_76 rfl (lv_at hl 0 rfl) ?_
                    refine lv_iload hx hb dX1_trimmed_77 (lv_at hl 3 rfl) ?_
                    refine lv_iconst (v := 0) hx hb dX1_trimmed_79 (of_decide_eq_true rfl) ?_
                    refine jcallS (As := [.int r95, .int x4, .int 0]) (rest := []) ⟨hx, hb, hml, hown, hts⟩ hK hP hA hS hZ (c_X0_withSteps_r l D cI cL ad zz hJ σ τ r95 (r95.toInt) rfl x4 (x4.toInt) rfl 0 (0) jz_0 (by omega) (by omega)) cw_RX1_133 ⟨Nat.le_of_ble_eq_true rfl, Nat.le_of_ble_eq_true rfl⟩ rfl rfl rfl hl.1 rfl (Nat.le_of_ble_eq_true rfl) dX1_trimmed_80 ⟨Nat.zero_le _, Nat.zero_le _⟩ (fun r104 σ103 τ103 H locs h103 hP hS => ?_)
                    obtain ⟨⟨rfl, rfl⟩, w105, h103⟩ := h103
                    have k106 := congrArg Int32.toInt w105
                    exact by
                     have h107 := h103
                     obtain ⟨q109, k108⟩ := h107
                     refine lv_istore_n (lv' := [(3, .int r104), (5, .int x81), (6, .int x81), (4, .int x4), (0, .ref (ad 31)), (1, .int a1), (2, .int a2)]) hx hb dX1_trimmed_83 rfl hl (of_decide_eq_true rfl) rfl (fun ls hl => ?_)
                     obtain ⟨x110, ex110⟩ : ∃ y : Int32, y = x4 + 1 := ⟨_, rfl⟩
                     have tx110 : x110.toInt = x4.toInt + 1 := (jadd ex110 rfl jz_1 (by omega) (by omega)).trans (by omega)
                     refine lv_iinc (v := x110) (lv' := [(4, .int x110), (3, .int r104), (5, .int x81), (6, .int x81), (0, .ref (ad 31)), (1, .int a1), (2, .int a2)]) hx hb dX1_trimmed_84 hl (k := 3) rfl (by rw [ex110]; rfl) (of_decide_eq_true rfl) rfl (fun ls hl => ?_)
                     refine lv_goto (tgt := 5) hx hb dX1_trimmed_87 (of_decide_eq_true rfl) ?_
                     exact by exact ihlp1 r104 x110 _ _ ls (by have h91 := tx110; omega) (by have h91 := tx110; omega) (by have h91 := tx110; omega) (by have h91 := tx110; omega) (by have h91 := tx110; omega)   (jTh.stepi (l := r17) (m := x81) (v := x81) (w := 0) q14 rfl (by omega) (by omega) w18 (by unfold jla; omega) (by have h9 := tx81; omega) rfl (Or.inl ⟨by omega, by omega, rfl, Or.inl ⟨by omega, by rw [w105, w96]⟩⟩) (by have h9 := tx110; omega)) hP hS (lv_sub hl [0, 1, 4, 5, 6] rfl)
            · have kc82 := jne c82 rfl jz_0
              exact by
               refine lv_iload_n hx hb dX1_trimmed_46 rfl (lv_at hl 6 rfl) ?_
               refine lv_iconst (v := 1) hx hb dX1_trimmed_47 (of_decide_eq_true rfl) ?_
               refine lv_icmp_gt (tgt := 71) hx hb dX1_trimmed_48 (of_decide_eq_true rfl) (fun c111 => ?_) (fun c111 => ?_)
               · have kc111 := jlt c111 jz_1 t2
                 refine lv_iload hx hb dX1_trimmed_71 (lv_at hl 1 rfl) ?_
                 refine lv_if_ne (tgt := 84) hx hb dX1_trimmed_73 (of_decide_eq_true rfl) (fun c112 => ?_) (fun c112 => ?_)
                 · have kc112 := jne c112 rfl jz_0
                   obtain ⟨x113, ex113⟩ : ∃ y : Int32, y = x4 + 1 := ⟨_, rfl⟩
                   have tx113 : x113.toInt = x4.toInt + 1 := (jadd ex113 rfl jz_1 (by omega) (by omega)).trans (by omega)
                   exact by
                    refine lv_iinc (v := x113) (lv' := [(4, .int x113), (6, .int x81), (5, .int r17), (3, .int x3), (0, .ref (ad 31)), (1, .int a1), (2, .int a2)]) hx hb dX1_trimmed_84 hl (k := 2) rfl (by rw [ex113]; rfl) (of_decide_eq_true rfl) rfl (fun ls hl => ?_)
                    refine lv_goto (tgt := 5) hx hb dX1_trimmed_87 (of_decide_eq_true rfl) ?_
                    exact by exact ihlp1 x3 x113 _ _ ls (by have h91 := tx113; omega) (by have h91 := tx113; omega) (by have h91 := tx113; omega) (by have h91 := tx113; omega) (by have h91 := tx113; omega)   (jTh.stepi (l := r17) (m := x81) (v := x81) (w := 0) q14 rfl (by omega) (by omega) w18 (by unfold jla; omega) (by have h9 := tx81; omega) rfl (Or.inr ⟨by omega, Or.inr ⟨by omega, rfl⟩⟩) (by have h9 := tx113; omega)) hP hS (lv_sub hl [0, 3, 4, 5, 6] rfl)
                 · have kc112 := jeq c112 rfl jz_0
                   refine lv_iload_n hx hb dX1_trimmed_76 rfl (lv_at hl 3 rfl) ?_
                   refine lv_iload hx hb dX1_trimmed_77 (lv_at hl 2 rfl) ?_
                   refine lv_iconst (v := 0) hx hb dX1_trimmed_79 (of_decide_eq_true rfl) ?_
                   refine jcallS (As := [.int x3, .int x4, .int 0]) (rest := []) ⟨hx, hb, hml, hown, hts⟩ hK hP hA hS hZ (c_X0_withSteps_r l D cI cL ad zz hJ σ τ x3 (x3.toInt) rfl x4 (x4.toInt) rfl 0 (0) jz_0 (by omega) (by omega)) cw_RX1_133 ⟨Nat.le_of_ble_eq_true rfl, Nat.le_of_ble_eq_true rfl⟩ rfl rfl rfl hl.1 rfl (Nat.le_of_ble_eq_true rfl) dX1_trimmed_80 ⟨Nat.zero_le _, Nat.zero_le _⟩ (fun r115 σ114 τ114 H locs h114 hP hS => ?_)
                   obtain ⟨⟨rfl, rfl⟩, w116, h114⟩ := h114
                   exact by
                    have k117 := congrArg Int32.toInt w116
                    have h118 := h114
                    obtain ⟨q120, k119⟩ := h118
                    refine lv_istore_n (lv' := [(3, .int r115), (6, .int x81), (5, .int r17), (4, .int x4), (0, .ref (ad 31)), (1, .int a1), (2, .int a2)]) hx hb dX1_trimmed_83 rfl hl (of_decide_eq_true rfl) rfl (fun ls hl => ?_)
                    obtain ⟨x121, ex121⟩ : ∃ y : Int32, y = x4 + 1 := ⟨_, rfl⟩
                    have tx121 : x121.toInt = x4.toInt + 1 := (jadd ex121 rfl jz_1 (by omega) (by omega)).trans (by omega)
                    refine lv_iinc (v := x121) (lv' := [(4, .int x121), (3, .int r115), (6, .int x81), (5, .int r17), (0, .ref (ad 31)), (1, .int a1), (2, .int a2)]) hx hb dX1_trimmed_84 hl (k := 3) rfl (by rw [ex121]; rfl) (of_decide_eq_true rfl) rfl (fun ls hl => ?_)
                    refine lv_goto (tgt := 5) hx hb dX1_trimmed_87 (of_decide_eq_true rfl) ?_
                    exact by exact ihlp1 r115 x121 _ _ ls (by have h91 := tx121; omega) (by have h91 := tx121; omega) (by have h91 := tx121; omega) (by have h91 := tx121; omega) (by have h91 := tx121; omega)   (jTh.stepi (l := r17) (m := x81) (v := x81) (w := 0) q14 rfl (by omega) (by omega) w18 (by unfold jla; omega) (by have h9 := tx81; omega) rfl (Or.inr ⟨by omega, Or.inl ⟨by omega, w116⟩⟩) (by have h9 := tx121; omega)) hP hS (lv_sub hl [0, 1, 4, 5, 6] rfl)
               · exact by
                  have kc111 := jnlt c111 jz_1 t2
                  refine lv_iload hx hb dX1_trimmed_51 (lv_at hl 1 rfl) ?_
                  refine lv_iload hx hb dX1_trimmed_53 (lv_at hl 0 rfl) ?_
                  refine lv_icmp_le (tgt := 71) hx hb dX1_trimmed_55 (of_decide_eq_true rfl) (fun c122 => ?_) (fun c122 => ?_)
                  · have kc122 := jle c122 rfl tx81
                    refine lv_iload hx hb dX1_trimmed_71 (lv_at hl 1 rfl) ?_
                    refine lv_if_ne (tgt := 84) hx hb dX1_trimmed_73 (of_decide_eq_true rfl) (fun c => absurd (jne c rfl jz_0) (by omega)) (fun c123 => ?_)
                    have kc123 := jeq c123 rfl jz_0
                    refine lv_iload_n hx hb dX1_trimmed_76 rfl (lv_at hl 3 rfl) ?_
                    exact by
                     refine lv_iload hx hb dX1_trimmed_77 (lv_at hl 2 rfl) ?_
                     refine lv_iconst (v := 0) hx hb dX1_trimmed_79 (of_decide_eq_true rfl) ?_
                     refine jcallS (As := [.int x3, .int x4, .int 0]) (rest := []) ⟨hx, hb, hml, hown, hts⟩ hK hP hA hS hZ (c_X0_withSteps_r l D cI cL ad zz hJ σ τ x3 (x3.toInt) rfl x4 (x4.toInt) rfl 0 (0) jz_0 (by omega) (by omega)) cw_RX1_133 ⟨Nat.le_of_ble_eq_true rfl, Nat.le_of_ble_eq_true rfl⟩ rfl rfl rfl hl.1 rfl (Nat.le_of_ble_eq_true rfl) dX1_trimmed_80 ⟨Nat.zero_le _, Nat.zero_le _⟩ (fun r125 σ124 τ124 H locs h124 hP hS => ?_)
                     obtain ⟨⟨rfl, rfl⟩, w126, h124⟩ := h124
                     have k127 := congrArg Int32.toInt w126
                     have h128 := h124
                     obtain ⟨q130, k129⟩ := h128
                     refine lv_istore_n (lv' := [(3, .int r125), (6, .int x81), (5, .int r17), (4, .int x4), (0, .ref (ad 31)), (1, .int a1), (2, .int a2)]) hx hb dX1_trimmed_83 rfl hl (of_decide_eq_true rfl) rfl (fun ls hl => ?_)
                     obtain ⟨x131, ex131⟩ : ∃ y : Int32, y = x4 + 1 := ⟨_, rfl⟩
                     exact by
                      have tx131 : x131.toInt = x4.toInt + 1 := (jadd ex131 rfl jz_1 (by omega) (by omega)).trans (by omega)
                      refine lv_iinc (v := x131) (lv' := [(4, .int x131), (3, .int r125), (6, .int x81), (5, .int r17), (0, .ref (ad 31)), (1, .int a1), (2, .int a2)]) hx hb dX1_trimmed_84 hl (k := 3) rfl (by rw [ex131]; rfl) (of_decide_eq_true rfl) rfl (fun ls hl => ?_)
                      refine lv_goto (tgt := 5) hx hb dX1_trimmed_87 (of_decide_eq_true rfl) ?_
                      exact by exact ihlp1 r125 x131 _ _ ls (by have h91 := tx131; omega) (by have h91 := tx131; omega) (by have h91 := tx131; omega) (by have h91 := tx131; omega) (by have h91 := tx131; omega)   (jTh.stepi (l := r17) (m := x81) (v := x81) (w := 0) q14 rfl (by omega) (by omega) w18 (by unfold jla; omega) (by have h9 := tx81; omega) rfl (Or.inr ⟨by omega, Or.inl ⟨by omega, w126⟩⟩) (by have h9 := tx131; omega)) hP hS (lv_sub hl [0, 1, 4, 5, 6] rfl)
                  · have kc122 := jnle c122 rfl tx81
                    refine lv_iload hx hb dX1_trimmed_58 (lv_at hl 0 rfl) ?_
                    refine lv_istore (lv' := [(5, .int x81), (6, .int x81), (4, .int x4), (3, .int x3), (0, .ref (ad 31)), (1, .int a1), (2, .int a2)]) hx hb dX1_trimmed_60 hl (of_decide_eq_true rfl) rfl (fun ls hl => ?_)
                    refine lv_iload_n hx hb dX1_trimmed_62 rfl (lv_at hl 3 rfl) ?_
                    refine lv_iload hx hb dX1_trimmed_63 (lv_at hl 2 rfl) ?_
                    exact by
                     refine lv_iload hx hb dX1_trimmed_65 (lv_at hl 0 rfl) ?_
                     refine jcallS (As := [.int x3, .int x4, .int x81]) (rest := []) ⟨hx, hb, hml, hown, hts⟩ hK hP hA hS hZ (c_X0_withLeft_r l D cI cL ad zz hJ σ τ x3 (x3.toInt) rfl x4 (x4.toInt) rfl x81 ((A2 / 2)) tx81 (by omega) (by omega)) cw_RX1_129 ⟨Nat.le_of_ble_eq_true rfl, Nat.le_of_ble_eq_true rfl⟩ rfl rfl rfl hl.1 rfl (Nat.le_of_ble_eq_true rfl) dX1_trimmed_67 ⟨Nat.zero_le _, Nat.zero_le _⟩ (fun r133 σ132 τ132 H locs h132 hP hS => ?_)
                     obtain ⟨⟨rfl, rfl⟩, w134, h132⟩ := h132
                     have k135 := congrArg Int32.toInt w134
                     have h136 := h132
                     obtain ⟨q138, k137⟩ := h136
                     refine lv_istore_n (lv' := [(3, .int r133), (5, .int x81), (6, .int x81), (4, .int x4), (0, .ref (ad 31)), (1, .int a1), (2, .int a2)]) hx hb dX1_trimmed_70 rfl hl (of_decide_eq_true rfl) rfl (fun ls hl => ?_)
                     refine lv_iload hx hb dX1_trimmed_71 (lv_at hl 1 rfl) ?_
                     refine lv_if_ne (tgt := 84) hx hb dX1_trimmed_73 (of_decide_eq_true rfl) (fun c => absurd (jne c tx81 jz_0) (by omega)) (fun c139 => ?_)
                     exact by
                      have kc139 := jeq c139 tx81 jz_0
                      refine lv_iload_n hx hb dX1_trimmed_76 rfl (lv_at hl 0 rfl) ?_
                      refine lv_iload hx hb dX1_trimmed_77 (lv_at hl 3 rfl) ?_
                      refine lv_iconst (v := 0) hx hb dX1_trimmed_79 (of_decide_eq_true rfl) ?_
                      refine jcallS (As := [.int r133, .int x4, .int 0]) (rest := []) ⟨hx, hb, hml, hown, hts⟩ hK hP hA hS hZ (c_X0_withSteps_r l D cI cL ad zz hJ σ τ r133 (r133.toInt) rfl x4 (x4.toInt) rfl 0 (0) jz_0 (by omega) (by omega)) cw_RX1_133 ⟨Nat.le_of_ble_eq_true rfl, Nat.le_of_ble_eq_true rfl⟩ rfl rfl rfl hl.1 rfl (Nat.le_of_ble_eq_true rfl) dX1_trimmed_80 ⟨Nat.zero_le _, Nat.zero_le _⟩ (fun r141 σ140 τ140 H locs h140 hP hS => ?_)
                      obtain ⟨⟨rfl, rfl⟩, w142, h140⟩ := h140
                      have k143 := congrArg Int32.toInt w142
                      have h144 := h140
                      obtain ⟨q146, k145⟩ := h144
                      exact by
                       refine lv_istore_n (lv' := [(3, .int r141), (5, .int x81), (6, .int x81), (4, .int x4), (0, .ref (ad 31)), (1, .int a1), (2, .int a2)]) hx hb dX1_trimmed_83 rfl hl (of_decide_eq_true rfl) rfl (fun ls hl => ?_)
                       obtain ⟨x147, ex147⟩ : ∃ y : Int32, y = x4 + 1 := ⟨_, rfl⟩
                       have tx147 : x147.toInt = x4.toInt + 1 := (jadd ex147 rfl jz_1 (by omega) (by omega)).trans (by omega)
                       refine lv_iinc (v := x147) (lv' := [(4, .int x147), (3, .int r141), (5, .int x81), (6, .int x81), (0, .ref (ad 31)), (1, .int a1), (2, .int a2)]) hx hb dX1_trimmed_84 hl (k := 3) rfl (by rw [ex147]; rfl) (of_decide_eq_true rfl) rfl (fun ls hl => ?_)
                       refine lv_goto (tgt := 5) hx hb dX1_trimmed_87 (of_decide_eq_true rfl) ?_
                       exact by exact ihlp1 r141 x147 _ _ ls (by have h91 := tx147; omega) (by have h91 := tx147; omega) (by have h91 := tx147; omega) (by have h91 := tx147; omega) (by have h91 := tx147; omega)   (jTh.stepi (l := r17) (m := x81) (v := x81) (w := 0) q14 rfl (by omega) (by omega) w18 (by unfold jla; omega) (by have h9 := tx81; omega) rfl (Or.inl ⟨by omega, by omega, rfl, Or.inl ⟨by omega, by rw [w142, w134]⟩⟩) (by have h9 := tx147; omega)) hP hS (lv_sub hl [0, 1, 4, 5, 6] rfl)
  exact by exact lp1 1000000 a1 0 _ _ ls (by have h90 := t1; have h91 := jz_0; omega) (by have h90 := t1; have h91 := jz_0; omega) (by have h90 := t1; have h91 := jz_0; omega) (by have h90 := t1; have h91 := jz_0; omega) (by have h90 := t1; have h91 := jz_0; omega)  (jTh.first rfl (by have h9 := jz_0; omega)) hP hS hl
set_option maxHeartbeats 4000000 in
set_option maxRecDepth 100000 in
theorem c_X1_trimmed_31 (l : Launch) (D : va_G) (cI cL : ClassId) (ad zz : Nat → Nat) (hJ : jD ad) (σ : Nat → Nat → Int32) (τ : Nat → Nat → Int64) (a1 : Int32) (A1 : Int) (t1 : a1.toInt = A1) (a2 : Int32) (A2 : Int) (t2 : a2.toInt = A2) : jM l yX1_trimmed cX1_trimmed 7 (some .int) ({ frames := 1, cells := 0, slots := 0, locals := 23 }) D cI cL ad zz [.ref (ad 31), .int a1, .int a2] σ τ (fun r σ' τ' => (σ = σ' ∧ τ = τ') ∧ True) := by
  refine jM.of hJ (by decide +kernel) (nt := .int) rfl (Nat.le_of_ble_eq_true rfl) ?_
  intro p e s m args below meth c Q ls hC hret hl hP
  obtain ⟨hx, hb, hr, hml, hown, hts, hK, -, hlocks, hZ⟩ := hC
  have hown : s.vm.findClass RX1 = some m.cls := hown
  have hS : va_S (jA ad) s.heap s.heap [] := va_S.rf
  have hA : ∀ q, jA ad q → jA ad q := fun _ h => h
  have hl : lv_has ls 7 [(0, .ref (ad 31)), (1, .int a1), (2, .int a2)] := hl
  have g1 := jrg t1
  have g2 := jrg t2
  refine lv_iload_n hx hb dX1_trimmed_0 rfl (lv_at hl 1 rfl) ?_
  refine lv_istore_n (lv' := [(3, .int a1), (0, .ref (ad 31)), (1, .int a1), (2, .int a2)]) hx hb dX1_trimmed_1 rfl hl (of_decide_eq_true rfl) rfl (fun ls hl => ?_)
  refine lv_iconst (v := 0) hx hb dX1_trimmed_2 (of_decide_eq_true rfl) ?_
  refine lv_istore (lv' := [(4, .int 0), (3, .int a1), (0, .ref (ad 31)), (1, .int a1), (2, .int a2)]) hx hb dX1_trimmed_3 hl (of_decide_eq_true rfl) rfl (fun ls hl => ?_)
  have lp1 : ∀ (n2 : Nat) (x3 : Int32) (x4 : Int32) (H : Heap) (locs : List Loc) (ls : Array Slot), (-x4.toInt + 4 : Int) < n2 → 0 ≤ x4.toInt → x4.toInt ≤ 4 → jH D cI cL ad σ τ H → va_S (jA ad) s.heap H locs → lv_has ls 7 [(4, .int x4), (3, .int x3), (0, .ref (ad 31)), (1, .int a1), (2, .int a2)] → W p l e ({ frames := 1, cells := 0, slots := 0, locals := 23 }) s m args below meth c H locs 0 0 Q (F0 m 5 ls []) := by
    intro n2
    induction n2 with
    | zero => intro x3 x4 H locs ls h8 h9 h10; have gx3 := jrg (rfl : x3.toInt = x3.toInt); exact absurd h8 (by omega)
    | succ n2 ihlp1 =>
      intro x3 x4 H locs ls h8 h9 h10 hP hS hl
      exact by
       have gx3 := jrg (rfl : x3.toInt = x3.toInt)
       refine lv_iload hx hb dX1_trimmed_5 (lv_at hl 0 rfl) ?_
       refine lv_iconst (v := 4) hx hb dX1_trimmed_7 (of_decide_eq_true rfl) ?_
       refine lv_icmp_ge (tgt := 90) hx hb dX1_trimmed_8 (of_decide_eq_true rfl) (fun c12 => ?_) (fun c12 => ?_)
       · have kc12 := jle c12 jz_4 rfl
         refine lv_iload_n hx hb dX1_trimmed_90 rfl (lv_at hl 1 rfl) ?_
         exact hret x3 σ τ _ _ _ _ rfl ⟨⟨rfl, rfl⟩, trivial⟩ hP hS dX1_trimmed_91
       · have kc12 := jnle c12 jz_4 rfl
         refine lv_iload_n hx hb dX1_trimmed_11 rfl (lv_at hl 3 rfl) ?_
         refine lv_iload hx hb dX1_trimmed_12 (lv_at hl 0 rfl) ?_
         refine jcallS (As := [.int a1, .int x4]) (rest := []) ⟨hx, hb, hml, hown, hts⟩ hK hP hA hS hZ (c_X0_left l D cI cL ad zz hJ σ τ a1 (A1) t1 x4 (x4.toInt) rfl) cw_RX1_123 ⟨Nat.le_of_ble_eq_true rfl, Nat.le_of_ble_eq_true rfl⟩ rfl rfl rfl hl.1 rfl (Nat.le_of_ble_eq_true rfl) dX1_trimmed_14 ⟨Nat.zero_le _, Nat.zero_le _⟩ (fun r14 σ13 τ13 H locs h13 hP hS => ?_)
         obtain ⟨⟨rfl, rfl⟩, w15, h13⟩ := h13
         have k16 := congrArg Int32.toInt w15
         have h17 := h13
         obtain ⟨q19, k18⟩ := h17
         refine lv_istore (lv' := [(5, .int r14), (4, .int x4), (3, .int x3), (0, .ref (ad 31)), (1, .int a1), (2, .int a2)]) hx hb dX1_trimmed_17 hl (of_decide_eq_true rfl) rfl (fun ls hl => ?_)
         refine lv_iload_n hx hb dX1_trimmed_19 rfl (lv_at hl 4 rfl) ?_
         refine jcallS (As := [.int a1]) (rest := []) ⟨hx, hb, hml, hown, hts⟩ hK hP hA hS hZ (c_X0_last l D cI cL ad zz hJ σ τ a1 (A1) t1) cw_RX1_126 ⟨Nat.le_of_ble_eq_true rfl, Nat.le_of_ble_eq_true rfl⟩ rfl rfl rfl hl.1 rfl (Nat.le_of_ble_eq_true rfl) dX1_trimmed_20 ⟨Nat.zero_le _, Nat.zero_le _⟩ (fun r21 σ20 τ20 H locs h20 hP hS => ?_)
         obtain ⟨⟨rfl, rfl⟩, w22, h20⟩ := h20
         refine lv_iload hx hb dX1_trimmed_23 (lv_at hl 1 rfl) ?_
         refine lv_icmp_ne (tgt := 32) hx hb dX1_trimmed_25 (of_decide_eq_true rfl) (fun c23 => ?_) (fun c23 => ?_)
         · have kc23 := jne c23 rfl rfl
           refine lv_iload_n hx hb dX1_trimmed_32 rfl (lv_at hl 5 rfl) ?_
           refine lv_iconst (v := 1) hx hb dX1_trimmed_33 (of_decide_eq_true rfl) ?_
           refine lv_iadd hx hb dX1_trimmed_34 ?_
           refine lv_topi (fun x24 ex24 => ?_)
           have gx24 := jrg (rfl : x24.toInt = x24.toInt)
           refine lv_iconst (v := 2) hx hb dX1_trimmed_35 (of_decide_eq_true rfl) ?_
           refine lv_idiv hx hb dX1_trimmed_36 (of_decide_eq_true rfl) ?_
           refine lv_topi (fun x25 ex25 => ?_)
           have gx25 := jrg (rfl : x25.toInt = x25.toInt)
           refine lv_istore (lv' := [(6, .int x25), (5, .int r14), (4, .int x4), (3, .int x3), (0, .ref (ad 31)), (1, .int a1), (2, .int a2)]) hx hb dX1_trimmed_37 hl (of_decide_eq_true rfl) rfl (fun ls hl => ?_)
           refine lv_aload_n hx hb dX1_trimmed_39 rfl (lv_at hl 4 rfl) ?_
           refine va_get (D := D) hx hb hts inlX1 hown hK hP 31 (jc_31 cI cL ad σ τ) rfl 12 (of_decide_eq_true rfl) (hts _ kw_28_8) (fun _ h9 => h9) rfl dX1_trimmed_40 ?_
           refine lv_if_eq (tgt := 51) hx hb dX1_trimmed_43 (of_decide_eq_true rfl) (fun c26 => ?_) (fun c26 => ?_)
           · have kc26 := jeq c26 rfl jz_0
             refine lv_iload hx hb dX1_trimmed_51 (lv_at hl 1 rfl) ?_
             refine lv_iload hx hb dX1_trimmed_53 (lv_at hl 0 rfl) ?_
             refine lv_icmp_le (tgt := 71) hx hb dX1_trimmed_55 (of_decide_eq_true rfl) (fun c27 => ?_) (fun c27 => ?_)
             · have kc27 := jle c27 rfl rfl
               refine lv_iload hx hb dX1_trimmed_71 (lv_at hl 1 rfl) ?_
               refine lv_if_ne (tgt := 84) hx hb dX1_trimmed_73 (of_decide_eq_true rfl) (fun c28 => ?_) (fun c28 => ?_)
               · have kc28 := jne c28 rfl jz_0
                 obtain ⟨x29, ex29⟩ : ∃ y : Int32, y = x4 + 1 := ⟨_, rfl⟩
                 exact by
                  have tx29 : x29.toInt = x4.toInt + 1 := (jadd ex29 rfl jz_1 (by omega) (by omega)).trans (by omega)
                  refine lv_iinc (v := x29) (lv' := [(4, .int x29), (6, .int x25), (5, .int r14), (3, .int x3), (0, .ref (ad 31)), (1, .int a1), (2, .int a2)]) hx hb dX1_trimmed_84 hl (k := 2) rfl (by rw [ex29]; rfl) (of_decide_eq_true rfl) rfl (fun ls hl => ?_)
                  refine lv_goto (tgt := 5) hx hb dX1_trimmed_87 (of_decide_eq_true rfl) ?_
                  exact by exact ihlp1 x3 x29 _ _ ls (by have h91 := tx29; omega) (by have h91 := tx29; omega) (by have h91 := tx29; omega)    hP hS (lv_sub hl [0, 3, 4, 5, 6] rfl)
               · have kc28 := jeq c28 rfl jz_0
                 refine lv_iload_n hx hb dX1_trimmed_76 rfl (lv_at hl 3 rfl) ?_
                 refine lv_iload hx hb dX1_trimmed_77 (lv_at hl 2 rfl) ?_
                 refine lv_iconst (v := 0) hx hb dX1_trimmed_79 (of_decide_eq_true rfl) ?_
                 refine jcallS (As := [.int x3, .int x4, .int 0]) (rest := []) ⟨hx, hb, hml, hown, hts⟩ hK hP hA hS hZ (c_X0_withSteps l D cI cL ad zz hJ σ τ x3 (x3.toInt) rfl x4 (x4.toInt) rfl 0 (0) jz_0) cw_RX1_133 ⟨Nat.le_of_ble_eq_true rfl, Nat.le_of_ble_eq_true rfl⟩ rfl rfl rfl hl.1 rfl (Nat.le_of_ble_eq_true rfl) dX1_trimmed_80 ⟨Nat.zero_le _, Nat.zero_le _⟩ (fun r31 σ30 τ30 H locs h30 hP hS => ?_)
                 exact by
                  obtain ⟨⟨rfl, rfl⟩, w32, h30⟩ := h30
                  have k33 := congrArg Int32.toInt w32
                  refine lv_istore_n (lv' := [(3, .int r31), (6, .int x25), (5, .int r14), (4, .int x4), (0, .ref (ad 31)), (1, .int a1), (2, .int a2)]) hx hb dX1_trimmed_83 rfl hl (of_decide_eq_true rfl) rfl (fun ls hl => ?_)
                  obtain ⟨x34, ex34⟩ : ∃ y : Int32, y = x4 + 1 := ⟨_, rfl⟩
                  have tx34 : x34.toInt = x4.toInt + 1 := (jadd ex34 rfl jz_1 (by omega) (by omega)).trans (by omega)
                  refine lv_iinc (v := x34) (lv' := [(4, .int x34), (3, .int r31), (6, .int x25), (5, .int r14), (0, .ref (ad 31)), (1, .int a1), (2, .int a2)]) hx hb dX1_trimmed_84 hl (k := 3) rfl (by rw [ex34]; rfl) (of_decide_eq_true rfl) rfl (fun ls hl => ?_)
                  refine lv_goto (tgt := 5) hx hb dX1_trimmed_87 (of_decide_eq_true rfl) ?_
                  exact by exact ihlp1 r31 x34 _ _ ls (by have h91 := tx34; omega) (by have h91 := tx34; omega) (by have h91 := tx34; omega)    hP hS (lv_sub hl [0, 1, 4, 5, 6] rfl)
             · have kc27 := jnle c27 rfl rfl
               exact by
                refine lv_iload hx hb dX1_trimmed_58 (lv_at hl 0 rfl) ?_
                refine lv_istore (lv' := [(5, .int x25), (6, .int x25), (4, .int x4), (3, .int x3), (0, .ref (ad 31)), (1, .int a1), (2, .int a2)]) hx hb dX1_trimmed_60 hl (of_decide_eq_true rfl) rfl (fun ls hl => ?_)
                refine lv_iload_n hx hb dX1_trimmed_62 rfl (lv_at hl 3 rfl) ?_
                refine lv_iload hx hb dX1_trimmed_63 (lv_at hl 2 rfl) ?_
                refine lv_iload hx hb dX1_trimmed_65 (lv_at hl 0 rfl) ?_
                refine jcallS (As := [.int x3, .int x4, .int x25]) (rest := []) ⟨hx, hb, hml, hown, hts⟩ hK hP hA hS hZ (c_X0_withLeft l D cI cL ad zz hJ σ τ x3 (x3.toInt) rfl x4 (x4.toInt) rfl x25 (x25.toInt) rfl) cw_RX1_129 ⟨Nat.le_of_ble_eq_true rfl, Nat.le_of_ble_eq_true rfl⟩ rfl rfl rfl hl.1 rfl (Nat.le_of_ble_eq_true rfl) dX1_trimmed_67 ⟨Nat.zero_le _, Nat.zero_le _⟩ (fun r36 σ35 τ35 H locs h35 hP hS => ?_)
                obtain ⟨⟨rfl, rfl⟩, w37, h35⟩ := h35
                have k38 := congrArg Int32.toInt w37
                refine lv_istore_n (lv' := [(3, .int r36), (5, .int x25), (6, .int x25), (4, .int x4), (0, .ref (ad 31)), (1, .int a1), (2, .int a2)]) hx hb dX1_trimmed_70 rfl hl (of_decide_eq_true rfl) rfl (fun ls hl => ?_)
                refine lv_iload hx hb dX1_trimmed_71 (lv_at hl 1 rfl) ?_
                refine lv_if_ne (tgt := 84) hx hb dX1_trimmed_73 (of_decide_eq_true rfl) (fun c39 => ?_) (fun c39 => ?_)
                · have kc39 := jne c39 rfl jz_0
                  obtain ⟨x40, ex40⟩ : ∃ y : Int32, y = x4 + 1 := ⟨_, rfl⟩
                  exact by
                   have tx40 : x40.toInt = x4.toInt + 1 := (jadd ex40 rfl jz_1 (by omega) (by omega)).trans (by omega)
                   refine lv_iinc (v := x40) (lv' := [(4, .int x40), (3, .int r36), (5, .int x25), (6, .int x25), (0, .ref (ad 31)), (1, .int a1), (2, .int a2)]) hx hb dX1_trimmed_84 hl (k := 3) rfl (by rw [ex40]; rfl) (of_decide_eq_true rfl) rfl (fun ls hl => ?_)
                   refine lv_goto (tgt := 5) hx hb dX1_trimmed_87 (of_decide_eq_true rfl) ?_
                   exact by exact ihlp1 r36 x40 _ _ ls (by have h91 := tx40; omega) (by have h91 := tx40; omega) (by have h91 := tx40; omega)    hP hS (lv_sub hl [0, 1, 4, 5, 6] rfl)
                · have kc39 := jeq c39 rfl jz_0
                  refine lv_iload_n hx hb dX1_trimmed_76 rfl (lv_at hl 0 rfl) ?_
                  refine lv_iload hx hb dX1_trimmed_77 (lv_at hl 3 rfl) ?_
                  refine lv_iconst (v := 0) hx hb dX1_trimmed_79 (of_decide_eq_true rfl) ?_
                  refine jcallS (As := [.int r36, .int x4, .int 0]) (rest := []) ⟨hx, hb, hml, hown, hts⟩ hK hP hA hS hZ (c_X0_withSteps l D cI cL ad zz hJ σ τ r36 (r36.toInt) rfl x4 (x4.toInt) rfl 0 (0) jz_0) cw_RX1_133 ⟨Nat.le_of_ble_eq_true rfl, Nat.le_of_ble_eq_true rfl⟩ rfl rfl rfl hl.1 rfl (Nat.le_of_ble_eq_true rfl) dX1_trimmed_80 ⟨Nat.zero_le _, Nat.zero_le _⟩ (fun r42 σ41 τ41 H locs h41 hP hS => ?_)
                  exact by
                   obtain ⟨⟨rfl, rfl⟩, w43, h41⟩ := h41
                   have k44 := congrArg Int32.toInt w43
                   refine lv_istore_n (lv' := [(3, .int r42), (5, .int x25), (6, .int x25), (4, .int x4), (0, .ref (ad 31)), (1, .int a1), (2, .int a2)]) hx hb dX1_trimmed_83 rfl hl (of_decide_eq_true rfl) rfl (fun ls hl => ?_)
                   obtain ⟨x45, ex45⟩ : ∃ y : Int32, y = x4 + 1 := ⟨_, rfl⟩
                   have tx45 : x45.toInt = x4.toInt + 1 := (jadd ex45 rfl jz_1 (by omega) (by omega)).trans (by omega)
                   refine lv_iinc (v := x45) (lv' := [(4, .int x45), (3, .int r42), (5, .int x25), (6, .int x25), (0, .ref (ad 31)), (1, .int a1), (2, .int a2)]) hx hb dX1_trimmed_84 hl (k := 3) rfl (by rw [ex45]; rfl) (of_decide_eq_true rfl) rfl (fun ls hl => ?_)
                   refine lv_goto (tgt := 5) hx hb dX1_trimmed_87 (of_decide_eq_true rfl) ?_
                   exact by exact ihlp1 r42 x45 _ _ ls (by have h91 := tx45; omega) (by have h91 := tx45; omega) (by have h91 := tx45; omega)    hP hS (lv_sub hl [0, 1, 4, 5, 6] rfl)
           · have kc26 := jne c26 rfl jz_0
             exact by
              refine lv_iload_n hx hb dX1_trimmed_46 rfl (lv_at hl 6 rfl) ?_
              refine lv_iconst (v := 1) hx hb dX1_trimmed_47 (of_decide_eq_true rfl) ?_
              refine lv_icmp_gt (tgt := 71) hx hb dX1_trimmed_48 (of_decide_eq_true rfl) (fun c46 => ?_) (fun c46 => ?_)
              · have kc46 := jlt c46 jz_1 t2
                refine lv_iload hx hb dX1_trimmed_71 (lv_at hl 1 rfl) ?_
                refine lv_if_ne (tgt := 84) hx hb dX1_trimmed_73 (of_decide_eq_true rfl) (fun c47 => ?_) (fun c47 => ?_)
                · have kc47 := jne c47 rfl jz_0
                  obtain ⟨x48, ex48⟩ : ∃ y : Int32, y = x4 + 1 := ⟨_, rfl⟩
                  have tx48 : x48.toInt = x4.toInt + 1 := (jadd ex48 rfl jz_1 (by omega) (by omega)).trans (by omega)
                  exact by
                   refine lv_iinc (v := x48) (lv' := [(4, .int x48), (6, .int x25), (5, .int r14), (3, .int x3), (0, .ref (ad 31)), (1, .int a1), (2, .int a2)]) hx hb dX1_trimmed_84 hl (k := 2) rfl (by rw [ex48]; rfl) (of_decide_eq_true rfl) rfl (fun ls hl => ?_)
                   refine lv_goto (tgt := 5) hx hb dX1_trimmed_87 (of_decide_eq_true rfl) ?_
                   exact by exact ihlp1 x3 x48 _ _ ls (by have h91 := tx48; omega) (by have h91 := tx48; omega) (by have h91 := tx48; omega)    hP hS (lv_sub hl [0, 3, 4, 5, 6] rfl)
                · have kc47 := jeq c47 rfl jz_0
                  refine lv_iload_n hx hb dX1_trimmed_76 rfl (lv_at hl 3 rfl) ?_
                  refine lv_iload hx hb dX1_trimmed_77 (lv_at hl 2 rfl) ?_
                  refine lv_iconst (v := 0) hx hb dX1_trimmed_79 (of_decide_eq_true rfl) ?_
                  refine jcallS (As := [.int x3, .int x4, .int 0]) (rest := []) ⟨hx, hb, hml, hown, hts⟩ hK hP hA hS hZ (c_X0_withSteps l D cI cL ad zz hJ σ τ x3 (x3.toInt) rfl x4 (x4.toInt) rfl 0 (0) jz_0) cw_RX1_133 ⟨Nat.le_of_ble_eq_true rfl, Nat.le_of_ble_eq_true rfl⟩ rfl rfl rfl hl.1 rfl (Nat.le_of_ble_eq_true rfl) dX1_trimmed_80 ⟨Nat.zero_le _, Nat.zero_le _⟩ (fun r50 σ49 τ49 H locs h49 hP hS => ?_)
                  obtain ⟨⟨rfl, rfl⟩, w51, h49⟩ := h49
                  have k52 := congrArg Int32.toInt w51
                  refine lv_istore_n (lv' := [(3, .int r50), (6, .int x25), (5, .int r14), (4, .int x4), (0, .ref (ad 31)), (1, .int a1), (2, .int a2)]) hx hb dX1_trimmed_83 rfl hl (of_decide_eq_true rfl) rfl (fun ls hl => ?_)
                  obtain ⟨x53, ex53⟩ : ∃ y : Int32, y = x4 + 1 := ⟨_, rfl⟩
                  exact by
                   have tx53 : x53.toInt = x4.toInt + 1 := (jadd ex53 rfl jz_1 (by omega) (by omega)).trans (by omega)
                   refine lv_iinc (v := x53) (lv' := [(4, .int x53), (3, .int r50), (6, .int x25), (5, .int r14), (0, .ref (ad 31)), (1, .int a1), (2, .int a2)]) hx hb dX1_trimmed_84 hl (k := 3) rfl (by rw [ex53]; rfl) (of_decide_eq_true rfl) rfl (fun ls hl => ?_)
                   refine lv_goto (tgt := 5) hx hb dX1_trimmed_87 (of_decide_eq_true rfl) ?_
                   exact by exact ihlp1 r50 x53 _ _ ls (by have h91 := tx53; omega) (by have h91 := tx53; omega) (by have h91 := tx53; omega)    hP hS (lv_sub hl [0, 1, 4, 5, 6] rfl)
              · have kc46 := jnlt c46 jz_1 t2
                refine lv_iload hx hb dX1_trimmed_51 (lv_at hl 1 rfl) ?_
                refine lv_iload hx hb dX1_trimmed_53 (lv_at hl 0 rfl) ?_
                refine lv_icmp_le (tgt := 71) hx hb dX1_trimmed_55 (of_decide_eq_true rfl) (fun c54 => ?_) (fun c54 => ?_)
                · have kc54 := jle c54 rfl rfl
                  exact by
                   refine lv_iload hx hb dX1_trimmed_71 (lv_at hl 1 rfl) ?_
                   refine lv_if_ne (tgt := 84) hx hb dX1_trimmed_73 (of_decide_eq_true rfl) (fun c55 => ?_) (fun c55 => ?_)
                   · have kc55 := jne c55 rfl jz_0
                     obtain ⟨x56, ex56⟩ : ∃ y : Int32, y = x4 + 1 := ⟨_, rfl⟩
                     have tx56 : x56.toInt = x4.toInt + 1 := (jadd ex56 rfl jz_1 (by omega) (by omega)).trans (by omega)
                     refine lv_iinc (v := x56) (lv' := [(4, .int x56), (6, .int x25), (5, .int r14), (3, .int x3), (0, .ref (ad 31)), (1, .int a1), (2, .int a2)]) hx hb dX1_trimmed_84 hl (k := 2) rfl (by rw [ex56]; rfl) (of_decide_eq_true rfl) rfl (fun ls hl => ?_)
                     refine lv_goto (tgt := 5) hx hb dX1_trimmed_87 (of_decide_eq_true rfl) ?_
                     exact by exact ihlp1 x3 x56 _ _ ls (by have h91 := tx56; omega) (by have h91 := tx56; omega) (by have h91 := tx56; omega)    hP hS (lv_sub hl [0, 3, 4, 5, 6] rfl)
                   · have kc55 := jeq c55 rfl jz_0
                     exact by
                      refine lv_iload_n hx hb dX1_trimmed_76 rfl (lv_at hl 3 rfl) ?_
                      refine lv_iload hx hb dX1_trimmed_77 (lv_at hl 2 rfl) ?_
                      refine lv_iconst (v := 0) hx hb dX1_trimmed_79 (of_decide_eq_true rfl) ?_
                      refine jcallS (As := [.int x3, .int x4, .int 0]) (rest := []) ⟨hx, hb, hml, hown, hts⟩ hK hP hA hS hZ (c_X0_withSteps l D cI cL ad zz hJ σ τ x3 (x3.toInt) rfl x4 (x4.toInt) rfl 0 (0) jz_0) cw_RX1_133 ⟨Nat.le_of_ble_eq_true rfl, Nat.le_of_ble_eq_true rfl⟩ rfl rfl rfl hl.1 rfl (Nat.le_of_ble_eq_true rfl) dX1_trimmed_80 ⟨Nat.zero_le _, Nat.zero_le _⟩ (fun r58 σ57 τ57 H locs h57 hP hS => ?_)
                      obtain ⟨⟨rfl, rfl⟩, w59, h57⟩ := h57
                      have k60 := congrArg Int32.toInt w59
                      refine lv_istore_n (lv' := [(3, .int r58), (6, .int x25), (5, .int r14), (4, .int x4), (0, .ref (ad 31)), (1, .int a1), (2, .int a2)]) hx hb dX1_trimmed_83 rfl hl (of_decide_eq_true rfl) rfl (fun ls hl => ?_)
                      obtain ⟨x61, ex61⟩ : ∃ y : Int32, y = x4 + 1 := ⟨_, rfl⟩
                      have tx61 : x61.toInt = x4.toInt + 1 := (jadd ex61 rfl jz_1 (by omega) (by omega)).trans (by omega)
                      exact by
                       refine lv_iinc (v := x61) (lv' := [(4, .int x61), (3, .int r58), (6, .int x25), (5, .int r14), (0, .ref (ad 31)), (1, .int a1), (2, .int a2)]) hx hb dX1_trimmed_84 hl (k := 3) rfl (by rw [ex61]; rfl) (of_decide_eq_true rfl) rfl (fun ls hl => ?_)
                       refine lv_goto (tgt := 5) hx hb dX1_trimmed_87 (of_decide_eq_true rfl) ?_
                       exact by exact ihlp1 r58 x61 _ _ ls (by have h91 := tx61; omega) (by have h91 := tx61; omega) (by have h91 := tx61; omega)    hP hS (lv_sub hl [0, 1, 4, 5, 6] rfl)
                · have kc54 := jnle c54 rfl rfl
                  refine lv_iload hx hb dX1_trimmed_58 (lv_at hl 0 rfl) ?_
                  refine lv_istore (lv' := [(5, .int x25), (6, .int x25), (4, .int x4), (3, .int x3), (0, .ref (ad 31)), (1, .int a1), (2, .int a2)]) hx hb dX1_trimmed_60 hl (of_decide_eq_true rfl) rfl (fun ls hl => ?_)
                  refine lv_iload_n hx hb dX1_trimmed_62 rfl (lv_at hl 3 rfl) ?_
                  refine lv_iload hx hb dX1_trimmed_63 (lv_at hl 2 rfl) ?_
                  refine lv_iload hx hb dX1_trimmed_65 (lv_at hl 0 rfl) ?_
                  refine jcallS (As := [.int x3, .int x4, .int x25]) (rest := []) ⟨hx, hb, hml, hown, hts⟩ hK hP hA hS hZ (c_X0_withLeft l D cI cL ad zz hJ σ τ x3 (x3.toInt) rfl x4 (x4.toInt) rfl x25 (x25.toInt) rfl) cw_RX1_129 ⟨Nat.le_of_ble_eq_true rfl, Nat.le_of_ble_eq_true rfl⟩ rfl rfl rfl hl.1 rfl (Nat.le_of_ble_eq_true rfl) dX1_trimmed_67 ⟨Nat.zero_le _, Nat.zero_le _⟩ (fun r63 σ62 τ62 H locs h62 hP hS => ?_)
                  obtain ⟨⟨rfl, rfl⟩, w64, h62⟩ := h62
                  have k65 := congrArg Int32.toInt w64
                  refine lv_istore_n (lv' := [(3, .int r63), (5, .int x25), (6, .int x25), (4, .int x4), (0, .ref (ad 31)), (1, .int a1), (2, .int a2)]) hx hb dX1_trimmed_70 rfl hl (of_decide_eq_true rfl) rfl (fun ls hl => ?_)
                  refine lv_iload hx hb dX1_trimmed_71 (lv_at hl 1 rfl) ?_
                  refine lv_if_ne (tgt := 84) hx hb dX1_trimmed_73 (of_decide_eq_true rfl) (fun c66 => ?_) (fun c66 => ?_)
                  · have kc66 := jne c66 rfl jz_0
                    obtain ⟨x67, ex67⟩ : ∃ y : Int32, y = x4 + 1 := ⟨_, rfl⟩
                    exact by
                     have tx67 : x67.toInt = x4.toInt + 1 := (jadd ex67 rfl jz_1 (by omega) (by omega)).trans (by omega)
                     refine lv_iinc (v := x67) (lv' := [(4, .int x67), (3, .int r63), (5, .int x25), (6, .int x25), (0, .ref (ad 31)), (1, .int a1), (2, .int a2)]) hx hb dX1_trimmed_84 hl (k := 3) rfl (by rw [ex67]; rfl) (of_decide_eq_true rfl) rfl (fun ls hl => ?_)
                     refine lv_goto (tgt := 5) hx hb dX1_trimmed_87 (of_decide_eq_true rfl) ?_
                     exact by exact ihlp1 r63 x67 _ _ ls (by have h91 := tx67; omega) (by have h91 := tx67; omega) (by have h91 := tx67; omega)    hP hS (lv_sub hl [0, 1, 4, 5, 6] rfl)
                  · have kc66 := jeq c66 rfl jz_0
                    refine lv_iload_n hx hb dX1_trimmed_76 rfl (lv_at hl 0 rfl) ?_
                    refine lv_iload hx hb dX1_trimmed_77 (lv_at hl 3 rfl) ?_
                    refine lv_iconst (v := 0) hx hb dX1_trimmed_79 (of_decide_eq_true rfl) ?_
                    refine jcallS (As := [.int r63, .int x4, .int 0]) (rest := []) ⟨hx, hb, hml, hown, hts⟩ hK hP hA hS hZ (c_X0_withSteps l D cI cL ad zz hJ σ τ r63 (r63.toInt) rfl x4 (x4.toInt) rfl 0 (0) jz_0) cw_RX1_133 ⟨Nat.le_of_ble_eq_true rfl, Nat.le_of_ble_eq_true rfl⟩ rfl rfl rfl hl.1 rfl (Nat.le_of_ble_eq_true rfl) dX1_trimmed_80 ⟨Nat.zero_le _, Nat.zero_le _⟩ (fun r69 σ68 τ68 H locs h68 hP hS => ?_)
                    exact by
                     obtain ⟨⟨rfl, rfl⟩, w70, h68⟩ := h68
                     have k71 := congrArg Int32.toInt w70
                     refine lv_istore_n (lv' := [(3, .int r69), (5, .int x25), (6, .int x25), (4, .int x4), (0, .ref (ad 31)), (1, .int a1), (2, .int a2)]) hx hb dX1_trimmed_83 rfl hl (of_decide_eq_true rfl) rfl (fun ls hl => ?_)
                     obtain ⟨x72, ex72⟩ : ∃ y : Int32, y = x4 + 1 := ⟨_, rfl⟩
                     have tx72 : x72.toInt = x4.toInt + 1 := (jadd ex72 rfl jz_1 (by omega) (by omega)).trans (by omega)
                     refine lv_iinc (v := x72) (lv' := [(4, .int x72), (3, .int r69), (5, .int x25), (6, .int x25), (0, .ref (ad 31)), (1, .int a1), (2, .int a2)]) hx hb dX1_trimmed_84 hl (k := 3) rfl (by rw [ex72]; rfl) (of_decide_eq_true rfl) rfl (fun ls hl => ?_)
                     refine lv_goto (tgt := 5) hx hb dX1_trimmed_87 (of_decide_eq_true rfl) ?_
                     exact by exact ihlp1 r69 x72 _ _ ls (by have h91 := tx72; omega) (by have h91 := tx72; omega) (by have h91 := tx72; omega)    hP hS (lv_sub hl [0, 1, 4, 5, 6] rfl)
         · have kc23 := jeq c23 rfl rfl
           exact by
            refine lv_iload_n hx hb dX1_trimmed_28 rfl (lv_at hl 5 rfl) ?_
            refine lv_goto (tgt := 35) hx hb dX1_trimmed_29 (of_decide_eq_true rfl) ?_
            refine lv_iconst (v := 2) hx hb dX1_trimmed_35 (of_decide_eq_true rfl) ?_
            refine lv_idiv hx hb dX1_trimmed_36 (of_decide_eq_true rfl) ?_
            refine lv_topi (fun x73 ex73 => ?_)
            have gx73 := jrg (rfl : x73.toInt = x73.toInt)
            refine lv_istore (lv' := [(6, .int x73), (5, .int r14), (4, .int x4), (3, .int x3), (0, .ref (ad 31)), (1, .int a1), (2, .int a2)]) hx hb dX1_trimmed_37 hl (of_decide_eq_true rfl) rfl (fun ls hl => ?_)
            refine lv_aload_n hx hb dX1_trimmed_39 rfl (lv_at hl 4 rfl) ?_
            refine va_get (D := D) hx hb hts inlX1 hown hK hP 31 (jc_31 cI cL ad σ τ) rfl 12 (of_decide_eq_true rfl) (hts _ kw_28_8) (fun _ h9 => h9) rfl dX1_trimmed_40 ?_
            refine lv_if_eq (tgt := 51) hx hb dX1_trimmed_43 (of_decide_eq_true rfl) (fun c74 => ?_) (fun c74 => ?_)
            · have kc74 := jeq c74 rfl jz_0
              refine lv_iload hx hb dX1_trimmed_51 (lv_at hl 1 rfl) ?_
              refine lv_iload hx hb dX1_trimmed_53 (lv_at hl 0 rfl) ?_
              refine lv_icmp_le (tgt := 71) hx hb dX1_trimmed_55 (of_decide_eq_true rfl) (fun c75 => ?_) (fun c75 => ?_)
              · have kc75 := jle c75 rfl rfl
                refine lv_iload hx hb dX1_trimmed_71 (lv_at hl 1 rfl) ?_
                refine lv_if_ne (tgt := 84) hx hb dX1_trimmed_73 (of_decide_eq_true rfl) (fun c76 => ?_) (fun c76 => ?_)
                · have kc76 := jne c76 rfl jz_0
                  obtain ⟨x77, ex77⟩ : ∃ y : Int32, y = x4 + 1 := ⟨_, rfl⟩
                  exact by
                   have tx77 : x77.toInt = x4.toInt + 1 := (jadd ex77 rfl jz_1 (by omega) (by omega)).trans (by omega)
                   refine lv_iinc (v := x77) (lv' := [(4, .int x77), (6, .int x73), (5, .int r14), (3, .int x3), (0, .ref (ad 31)), (1, .int a1), (2, .int a2)]) hx hb dX1_trimmed_84 hl (k := 2) rfl (by rw [ex77]; rfl) (of_decide_eq_true rfl) rfl (fun ls hl => ?_)
                   refine lv_goto (tgt := 5) hx hb dX1_trimmed_87 (of_decide_eq_true rfl) ?_
                   exact by exact ihlp1 x3 x77 _ _ ls (by have h91 := tx77; omega) (by have h91 := tx77; omega) (by have h91 := tx77; omega)    hP hS (lv_sub hl [0, 3, 4, 5, 6] rfl)
                · have kc76 := jeq c76 rfl jz_0
                  refine lv_iload_n hx hb dX1_trimmed_76 rfl (lv_at hl 3 rfl) ?_
                  refine lv_iload hx hb dX1_trimmed_77 (lv_at hl 2 rfl) ?_
                  refine lv_iconst (v := 0) hx hb dX1_trimmed_79 (of_decide_eq_true rfl) ?_
                  refine jcallS (As := [.int x3, .int x4, .int 0]) (rest := []) ⟨hx, hb, hml, hown, hts⟩ hK hP hA hS hZ (c_X0_withSteps l D cI cL ad zz hJ σ τ x3 (x3.toInt) rfl x4 (x4.toInt) rfl 0 (0) jz_0) cw_RX1_133 ⟨Nat.le_of_ble_eq_true rfl, Nat.le_of_ble_eq_true rfl⟩ rfl rfl rfl hl.1 rfl (Nat.le_of_ble_eq_true rfl) dX1_trimmed_80 ⟨Nat.zero_le _, Nat.zero_le _⟩ (fun r79 σ78 τ78 H locs h78 hP hS => ?_)
                  exact by
                   obtain ⟨⟨rfl, rfl⟩, w80, h78⟩ := h78
                   have k81 := congrArg Int32.toInt w80
                   refine lv_istore_n (lv' := [(3, .int r79), (6, .int x73), (5, .int r14), (4, .int x4), (0, .ref (ad 31)), (1, .int a1), (2, .int a2)]) hx hb dX1_trimmed_83 rfl hl (of_decide_eq_true rfl) rfl (fun ls hl => ?_)
                   obtain ⟨x82, ex82⟩ : ∃ y : Int32, y = x4 + 1 := ⟨_, rfl⟩
                   have tx82 : x82.toInt = x4.toInt + 1 := (jadd ex82 rfl jz_1 (by omega) (by omega)).trans (by omega)
                   refine lv_iinc (v := x82) (lv' := [(4, .int x82), (3, .int r79), (6, .int x73), (5, .int r14), (0, .ref (ad 31)), (1, .int a1), (2, .int a2)]) hx hb dX1_trimmed_84 hl (k := 3) rfl (by rw [ex82]; rfl) (of_decide_eq_true rfl) rfl (fun ls hl => ?_)
                   refine lv_goto (tgt := 5) hx hb dX1_trimmed_87 (of_decide_eq_true rfl) ?_
                   exact by exact ihlp1 r79 x82 _ _ ls (by have h91 := tx82; omega) (by have h91 := tx82; omega) (by have h91 := tx82; omega)    hP hS (lv_sub hl [0, 1, 4, 5, 6] rfl)
              · have kc75 := jnle c75 rfl rfl
                exact by
                 refine lv_iload hx hb dX1_trimmed_58 (lv_at hl 0 rfl) ?_
                 refine lv_istore (lv' := [(5, .int x73), (6, .int x73), (4, .int x4), (3, .int x3), (0, .ref (ad 31)), (1, .int a1), (2, .int a2)]) hx hb dX1_trimmed_60 hl (of_decide_eq_true rfl) rfl (fun ls hl => ?_)
                 refine lv_iload_n hx hb dX1_trimmed_62 rfl (lv_at hl 3 rfl) ?_
                 refine lv_iload hx hb dX1_trimmed_63 (lv_at hl 2 rfl) ?_
                 refine lv_iload hx hb dX1_trimmed_65 (lv_at hl 0 rfl) ?_
                 refine jcallS (As := [.int x3, .int x4, .int x73]) (rest := []) ⟨hx, hb, hml, hown, hts⟩ hK hP hA hS hZ (c_X0_withLeft l D cI cL ad zz hJ σ τ x3 (x3.toInt) rfl x4 (x4.toInt) rfl x73 (x73.toInt) rfl) cw_RX1_129 ⟨Nat.le_of_ble_eq_true rfl, Nat.le_of_ble_eq_true rfl⟩ rfl rfl rfl hl.1 rfl (Nat.le_of_ble_eq_true rfl) dX1_trimmed_67 ⟨Nat.zero_le _, Nat.zero_le _⟩ (fun r84 σ83 τ83 H locs h83 hP hS => ?_)
                 obtain ⟨⟨rfl, rfl⟩, w85, h83⟩ := h83
                 have k86 := congrArg Int32.toInt w85
                 refine lv_istore_n (lv' := [(3, .int r84), (5, .int x73), (6, .int x73), (4, .int x4), (0, .ref (ad 31)), (1, .int a1), (2, .int a2)]) hx hb dX1_trimmed_70 rfl hl (of_decide_eq_true rfl) rfl (fun ls hl => ?_)
                 refine lv_iload hx hb dX1_trimmed_71 (lv_at hl 1 rfl) ?_
                 refine lv_if_ne (tgt := 84) hx hb dX1_trimmed_73 (of_decide_eq_true rfl) (fun c87 => ?_) (fun c87 => ?_)
                 · have kc87 := jne c87 rfl jz_0
                   obtain ⟨x88, ex88⟩ : ∃ y : Int32, y = x4 + 1 := ⟨_, rfl⟩
                   exact by
                    have tx88 : x88.toInt = x4.toInt + 1 := (jadd ex88 rfl jz_1 (by omega) (by omega)).trans (by omega)
                    refine lv_iinc (v := x88) (lv' := [(4, .int x88), (3, .int r84), (5, .int x73), (6, .int x73), (0, .ref (ad 31)), (1, .int a1), (2, .int a2)]) hx hb dX1_trimmed_84 hl (k := 3) rfl (by rw [ex88]; rfl) (of_decide_eq_true rfl) rfl (fun ls hl => ?_)
                    refine lv_goto (tgt := 5) hx hb dX1_trimmed_87 (of_decide_eq_true rfl) ?_
                    exact by exact ihlp1 r84 x88 _ _ ls (by have h91 := tx88; omega) (by have h91 := tx88; omega) (by have h91 := tx88; omega)    hP hS (lv_sub hl [0, 1, 4, 5, 6] rfl)
                 · have kc87 := jeq c87 rfl jz_0
                   refine lv_iload_n hx hb dX1_trimmed_76 rfl (lv_at hl 0 rfl) ?_
                   refine lv_iload hx hb dX1_trimmed_77 (lv_at hl 3 rfl) ?_
                   refine lv_iconst (v := 0) hx hb dX1_trimmed_79 (of_decide_eq_true rfl) ?_
                   refine jcallS (As := [.int r84, .int x4, .int 0]) (rest := []) ⟨hx, hb, hml, hown, hts⟩ hK hP hA hS hZ (c_X0_withSteps l D cI cL ad zz hJ σ τ r84 (r84.toInt) rfl x4 (x4.toInt) rfl 0 (0) jz_0) cw_RX1_133 ⟨Nat.le_of_ble_eq_true rfl, Nat.le_of_ble_eq_true rfl⟩ rfl rfl rfl hl.1 rfl (Nat.le_of_ble_eq_true rfl) dX1_trimmed_80 ⟨Nat.zero_le _, Nat.zero_le _⟩ (fun r90 σ89 τ89 H locs h89 hP hS => ?_)
                   exact by
                    obtain ⟨⟨rfl, rfl⟩, w91, h89⟩ := h89
                    have k92 := congrArg Int32.toInt w91
                    refine lv_istore_n (lv' := [(3, .int r90), (5, .int x73), (6, .int x73), (4, .int x4), (0, .ref (ad 31)), (1, .int a1), (2, .int a2)]) hx hb dX1_trimmed_83 rfl hl (of_decide_eq_true rfl) rfl (fun ls hl => ?_)
                    obtain ⟨x93, ex93⟩ : ∃ y : Int32, y = x4 + 1 := ⟨_, rfl⟩
                    have tx93 : x93.toInt = x4.toInt + 1 := (jadd ex93 rfl jz_1 (by omega) (by omega)).trans (by omega)
                    refine lv_iinc (v := x93) (lv' := [(4, .int x93), (3, .int r90), (5, .int x73), (6, .int x73), (0, .ref (ad 31)), (1, .int a1), (2, .int a2)]) hx hb dX1_trimmed_84 hl (k := 3) rfl (by rw [ex93]; rfl) (of_decide_eq_true rfl) rfl (fun ls hl => ?_)
                    refine lv_goto (tgt := 5) hx hb dX1_trimmed_87 (of_decide_eq_true rfl) ?_
                    exact by exact ihlp1 r90 x93 _ _ ls (by have h91 := tx93; omega) (by have h91 := tx93; omega) (by have h91 := tx93; omega)    hP hS (lv_sub hl [0, 1, 4, 5, 6] rfl)
            · have kc74 := jne c74 rfl jz_0
              exact by
               refine lv_iload_n hx hb dX1_trimmed_46 rfl (lv_at hl 6 rfl) ?_
               refine lv_iconst (v := 1) hx hb dX1_trimmed_47 (of_decide_eq_true rfl) ?_
               refine lv_icmp_gt (tgt := 71) hx hb dX1_trimmed_48 (of_decide_eq_true rfl) (fun c94 => ?_) (fun c94 => ?_)
               · have kc94 := jlt c94 jz_1 t2
                 refine lv_iload hx hb dX1_trimmed_71 (lv_at hl 1 rfl) ?_
                 refine lv_if_ne (tgt := 84) hx hb dX1_trimmed_73 (of_decide_eq_true rfl) (fun c95 => ?_) (fun c95 => ?_)
                 · have kc95 := jne c95 rfl jz_0
                   obtain ⟨x96, ex96⟩ : ∃ y : Int32, y = x4 + 1 := ⟨_, rfl⟩
                   have tx96 : x96.toInt = x4.toInt + 1 := (jadd ex96 rfl jz_1 (by omega) (by omega)).trans (by omega)
                   exact by
                    refine lv_iinc (v := x96) (lv' := [(4, .int x96), (6, .int x73), (5, .int r14), (3, .int x3), (0, .ref (ad 31)), (1, .int a1), (2, .int a2)]) hx hb dX1_trimmed_84 hl (k := 2) rfl (by rw [ex96]; rfl) (of_decide_eq_true rfl) rfl (fun ls hl => ?_)
                    refine lv_goto (tgt := 5) hx hb dX1_trimmed_87 (of_decide_eq_true rfl) ?_
                    exact by exact ihlp1 x3 x96 _ _ ls (by have h91 := tx96; omega) (by have h91 := tx96; omega) (by have h91 := tx96; omega)    hP hS (lv_sub hl [0, 3, 4, 5, 6] rfl)
                 · have kc95 := jeq c95 rfl jz_0
                   refine lv_iload_n hx hb dX1_trimmed_76 rfl (lv_at hl 3 rfl) ?_
                   refine lv_iload hx hb dX1_trimmed_77 (lv_at hl 2 rfl) ?_
                   refine lv_iconst (v := 0) hx hb dX1_trimmed_79 (of_decide_eq_true rfl) ?_
                   refine jcallS (As := [.int x3, .int x4, .int 0]) (rest := []) ⟨hx, hb, hml, hown, hts⟩ hK hP hA hS hZ (c_X0_withSteps l D cI cL ad zz hJ σ τ x3 (x3.toInt) rfl x4 (x4.toInt) rfl 0 (0) jz_0) cw_RX1_133 ⟨Nat.le_of_ble_eq_true rfl, Nat.le_of_ble_eq_true rfl⟩ rfl rfl rfl hl.1 rfl (Nat.le_of_ble_eq_true rfl) dX1_trimmed_80 ⟨Nat.zero_le _, Nat.zero_le _⟩ (fun r98 σ97 τ97 H locs h97 hP hS => ?_)
                   obtain ⟨⟨rfl, rfl⟩, w99, h97⟩ := h97
                   have k100 := congrArg Int32.toInt w99
                   refine lv_istore_n (lv' := [(3, .int r98), (6, .int x73), (5, .int r14), (4, .int x4), (0, .ref (ad 31)), (1, .int a1), (2, .int a2)]) hx hb dX1_trimmed_83 rfl hl (of_decide_eq_true rfl) rfl (fun ls hl => ?_)
                   obtain ⟨x101, ex101⟩ : ∃ y : Int32, y = x4 + 1 := ⟨_, rfl⟩
                   exact by
                    have tx101 : x101.toInt = x4.toInt + 1 := (jadd ex101 rfl jz_1 (by omega) (by omega)).trans (by omega)
                    refine lv_iinc (v := x101) (lv' := [(4, .int x101), (3, .int r98), (6, .int x73), (5, .int r14), (0, .ref (ad 31)), (1, .int a1), (2, .int a2)]) hx hb dX1_trimmed_84 hl (k := 3) rfl (by rw [ex101]; rfl) (of_decide_eq_true rfl) rfl (fun ls hl => ?_)
                    refine lv_goto (tgt := 5) hx hb dX1_trimmed_87 (of_decide_eq_true rfl) ?_
                    exact by exact ihlp1 r98 x101 _ _ ls (by have h91 := tx101; omega) (by have h91 := tx101; omega) (by have h91 := tx101; omega)    hP hS (lv_sub hl [0, 1, 4, 5, 6] rfl)
               · have kc94 := jnlt c94 jz_1 t2
                 refine lv_iload hx hb dX1_trimmed_51 (lv_at hl 1 rfl) ?_
                 refine lv_iload hx hb dX1_trimmed_53 (lv_at hl 0 rfl) ?_
                 refine lv_icmp_le (tgt := 71) hx hb dX1_trimmed_55 (of_decide_eq_true rfl) (fun c102 => ?_) (fun c102 => ?_)
                 · have kc102 := jle c102 rfl rfl
                   exact by
                    refine lv_iload hx hb dX1_trimmed_71 (lv_at hl 1 rfl) ?_
                    refine lv_if_ne (tgt := 84) hx hb dX1_trimmed_73 (of_decide_eq_true rfl) (fun c103 => ?_) (fun c103 => ?_)
                    · have kc103 := jne c103 rfl jz_0
                      obtain ⟨x104, ex104⟩ : ∃ y : Int32, y = x4 + 1 := ⟨_, rfl⟩
                      have tx104 : x104.toInt = x4.toInt + 1 := (jadd ex104 rfl jz_1 (by omega) (by omega)).trans (by omega)
                      refine lv_iinc (v := x104) (lv' := [(4, .int x104), (6, .int x73), (5, .int r14), (3, .int x3), (0, .ref (ad 31)), (1, .int a1), (2, .int a2)]) hx hb dX1_trimmed_84 hl (k := 2) rfl (by rw [ex104]; rfl) (of_decide_eq_true rfl) rfl (fun ls hl => ?_)
                      refine lv_goto (tgt := 5) hx hb dX1_trimmed_87 (of_decide_eq_true rfl) ?_
                      exact by exact ihlp1 x3 x104 _ _ ls (by have h91 := tx104; omega) (by have h91 := tx104; omega) (by have h91 := tx104; omega)    hP hS (lv_sub hl [0, 3, 4, 5, 6] rfl)
                    · have kc103 := jeq c103 rfl jz_0
                      exact by
                       refine lv_iload_n hx hb dX1_trimmed_76 rfl (lv_at hl 3 rfl) ?_
                       refine lv_iload hx hb dX1_trimmed_77 (lv_at hl 2 rfl) ?_
                       refine lv_iconst (v := 0) hx hb dX1_trimmed_79 (of_decide_eq_true rfl) ?_
                       refine jcallS (As := [.int x3, .int x4, .int 0]) (rest := []) ⟨hx, hb, hml, hown, hts⟩ hK hP hA hS hZ (c_X0_withSteps l D cI cL ad zz hJ σ τ x3 (x3.toInt) rfl x4 (x4.toInt) rfl 0 (0) jz_0) cw_RX1_133 ⟨Nat.le_of_ble_eq_true rfl, Nat.le_of_ble_eq_true rfl⟩ rfl rfl rfl hl.1 rfl (Nat.le_of_ble_eq_true rfl) dX1_trimmed_80 ⟨Nat.zero_le _, Nat.zero_le _⟩ (fun r106 σ105 τ105 H locs h105 hP hS => ?_)
                       obtain ⟨⟨rfl, rfl⟩, w107, h105⟩ := h105
                       have k108 := congrArg Int32.toInt w107
                       refine lv_istore_n (lv' := [(3, .int r106), (6, .int x73), (5, .int r14), (4, .int x4), (0, .ref (ad 31)), (1, .int a1), (2, .int a2)]) hx hb dX1_trimmed_83 rfl hl (of_decide_eq_true rfl) rfl (fun ls hl => ?_)
                       obtain ⟨x109, ex109⟩ : ∃ y : Int32, y = x4 + 1 := ⟨_, rfl⟩
                       have tx109 : x109.toInt = x4.toInt + 1 := (jadd ex109 rfl jz_1 (by omega) (by omega)).trans (by omega)
                       exact by
                        refine lv_iinc (v := x109) (lv' := [(4, .int x109), (3, .int r106), (6, .int x73), (5, .int r14), (0, .ref (ad 31)), (1, .int a1), (2, .int a2)]) hx hb dX1_trimmed_84 hl (k := 3) rfl (by rw [ex109]; rfl) (of_decide_eq_true rfl) rfl (fun ls hl => ?_)
                        refine lv_goto (tgt := 5) hx hb dX1_trimmed_87 (of_decide_eq_true rfl) ?_
                        exact by exact ihlp1 r106 x109 _ _ ls (by have h91 := tx109; omega) (by have h91 := tx109; omega) (by have h91 := tx109; omega)    hP hS (lv_sub hl [0, 1, 4, 5, 6] rfl)
                 · have kc102 := jnle c102 rfl rfl
                   refine lv_iload hx hb dX1_trimmed_58 (lv_at hl 0 rfl) ?_
                   refine lv_istore (lv' := [(5, .int x73), (6, .int x73), (4, .int x4), (3, .int x3), (0, .ref (ad 31)), (1, .int a1), (2, .int a2)]) hx hb dX1_trimmed_60 hl (of_decide_eq_true rfl) rfl (fun ls hl => ?_)
                   refine lv_iload_n hx hb dX1_trimmed_62 rfl (lv_at hl 3 rfl) ?_
                   refine lv_iload hx hb dX1_trimmed_63 (lv_at hl 2 rfl) ?_
                   refine lv_iload hx hb dX1_trimmed_65 (lv_at hl 0 rfl) ?_
                   refine jcallS (As := [.int x3, .int x4, .int x73]) (rest := []) ⟨hx, hb, hml, hown, hts⟩ hK hP hA hS hZ (c_X0_withLeft l D cI cL ad zz hJ σ τ x3 (x3.toInt) rfl x4 (x4.toInt) rfl x73 (x73.toInt) rfl) cw_RX1_129 ⟨Nat.le_of_ble_eq_true rfl, Nat.le_of_ble_eq_true rfl⟩ rfl rfl rfl hl.1 rfl (Nat.le_of_ble_eq_true rfl) dX1_trimmed_67 ⟨Nat.zero_le _, Nat.zero_le _⟩ (fun r111 σ110 τ110 H locs h110 hP hS => ?_)
                   obtain ⟨⟨rfl, rfl⟩, w112, h110⟩ := h110
                   have k113 := congrArg Int32.toInt w112
                   refine lv_istore_n (lv' := [(3, .int r111), (5, .int x73), (6, .int x73), (4, .int x4), (0, .ref (ad 31)), (1, .int a1), (2, .int a2)]) hx hb dX1_trimmed_70 rfl hl (of_decide_eq_true rfl) rfl (fun ls hl => ?_)
                   refine lv_iload hx hb dX1_trimmed_71 (lv_at hl 1 rfl) ?_
                   refine lv_if_ne (tgt := 84) hx hb dX1_trimmed_73 (of_decide_eq_true rfl) (fun c114 => ?_) (fun c114 => ?_)
                   · have kc114 := jne c114 rfl jz_0
                     obtain ⟨x115, ex115⟩ : ∃ y : Int32, y = x4 + 1 := ⟨_, rfl⟩
                     exact by
                      have tx115 : x115.toInt = x4.toInt + 1 := (jadd ex115 rfl jz_1 (by omega) (by omega)).trans (by omega)
                      refine lv_iinc (v := x115) (lv' := [(4, .int x115), (3, .int r111), (5, .int x73), (6, .int x73), (0, .ref (ad 31)), (1, .int a1), (2, .int a2)]) hx hb dX1_trimmed_84 hl (k := 3) rfl (by rw [ex115]; rfl) (of_decide_eq_true rfl) rfl (fun ls hl => ?_)
                      refine lv_goto (tgt := 5) hx hb dX1_trimmed_87 (of_decide_eq_true rfl) ?_
                      exact by exact ihlp1 r111 x115 _ _ ls (by have h91 := tx115; omega) (by have h91 := tx115; omega) (by have h91 := tx115; omega)    hP hS (lv_sub hl [0, 1, 4, 5, 6] rfl)
                   · have kc114 := jeq c114 rfl jz_0
                     refine lv_iload_n hx hb dX1_trimmed_76 rfl (lv_at hl 0 rfl) ?_
                     refine lv_iload hx hb dX1_trimmed_77 (lv_at hl 3 rfl) ?_
                     refine lv_iconst (v := 0) hx hb dX1_trimmed_79 (of_decide_eq_true rfl) ?_
                     refine jcallS (As := [.int r111, .int x4, .int 0]) (rest := []) ⟨hx, hb, hml, hown, hts⟩ hK hP hA hS hZ (c_X0_withSteps l D cI cL ad zz hJ σ τ r111 (r111.toInt) rfl x4 (x4.toInt) rfl 0 (0) jz_0) cw_RX1_133 ⟨Nat.le_of_ble_eq_true rfl, Nat.le_of_ble_eq_true rfl⟩ rfl rfl rfl hl.1 rfl (Nat.le_of_ble_eq_true rfl) dX1_trimmed_80 ⟨Nat.zero_le _, Nat.zero_le _⟩ (fun r117 σ116 τ116 H locs h116 hP hS => ?_)
                     exact by
                      obtain ⟨⟨rfl, rfl⟩, w118, h116⟩ := h116
                      have k119 := congrArg Int32.toInt w118
                      refine lv_istore_n (lv' := [(3, .int r117), (5, .int x73), (6, .int x73), (4, .int x4), (0, .ref (ad 31)), (1, .int a1), (2, .int a2)]) hx hb dX1_trimmed_83 rfl hl (of_decide_eq_true rfl) rfl (fun ls hl => ?_)
                      obtain ⟨x120, ex120⟩ : ∃ y : Int32, y = x4 + 1 := ⟨_, rfl⟩
                      have tx120 : x120.toInt = x4.toInt + 1 := (jadd ex120 rfl jz_1 (by omega) (by omega)).trans (by omega)
                      refine lv_iinc (v := x120) (lv' := [(4, .int x120), (3, .int r117), (5, .int x73), (6, .int x73), (0, .ref (ad 31)), (1, .int a1), (2, .int a2)]) hx hb dX1_trimmed_84 hl (k := 3) rfl (by rw [ex120]; rfl) (of_decide_eq_true rfl) rfl (fun ls hl => ?_)
                      refine lv_goto (tgt := 5) hx hb dX1_trimmed_87 (of_decide_eq_true rfl) ?_
                      exact by exact ihlp1 r117 x120 _ _ ls (by have h91 := tx120; omega) (by have h91 := tx120; omega) (by have h91 := tx120; omega)    hP hS (lv_sub hl [0, 1, 4, 5, 6] rfl)
  exact by exact lp1 1000000 a1 0 _ _ ls (by have h90 := t1; have h91 := jz_0; omega) (by have h90 := t1; have h91 := jz_0; omega) (by have h90 := t1; have h91 := jz_0; omega)   hP hS hl
set_option maxHeartbeats 4000000 in
set_option maxRecDepth 100000 in
theorem c_X1_add_31 (l : Launch) (D : va_G) (cI cL : ClassId) (ad zz : Nat → Nat) (hJ : jD ad) (σ : Nat → Nat → Int32) (τ : Nat → Nat → Int64) (a1 : Int32) (A1 : Int) (t1 : a1.toInt = A1) (a2 : Int32) (A2 : Int) (t2 : a2.toInt = A2) (hI31 : jI31 σ) (hs_jKb : jKb σ) (hs_jKh : jKh σ) (hp0 : 0 ≤ A1 ∧ A1 ≤ 134217727) (hp1 : 0 ≤ A2 ∧ A2 ≤ 8) : jM l yX1_add cX1_add 5 (some .int) ({ frames := 2, cells := 0, slots := 0, locals := 49 }) D cI cL ad zz [.ref (ad 31), .int a1, .int a2] σ τ (fun r σ' τ' => τ = τ' ∧ (∀ i : Nat, (i < 31 ∨ 32 < i) ∧ (i < 36 ∨ 37 < i) → σ' i = σ i) ∧ (∀ k : Nat, (k < 8 ∨ 8 < k) → σ' 31 k = σ 31 k) ∧ (jI31 σ') ∧ (jKb σ') ∧ (jKh σ') ∧ (jqAd (σ 31 8).toInt (σ' 31 8).toInt (σ 32) (σ' 32) (σ 31 11).toInt (A2) (decide ((σ 31 12).toInt ≠ 0)) a1 r.toInt) ∧ ((True ∧ (0 ≤ r.toInt ∧ r.toInt ≤ 350)))) := by
  refine jM.of hJ (by decide +kernel) (nt := .int) rfl (Nat.le_of_ble_eq_true rfl) ?_
  intro p e s m args below meth c Q ls hC hret hl hP
  obtain ⟨hx, hb, hr, hml, hown, hts, hK, -, hlocks, hZ⟩ := hC
  have hown : s.vm.findClass RX1 = some m.cls := hown
  have hS : va_S (jA ad) s.heap s.heap [] := va_S.rf
  have hA : ∀ q, jA ad q → jA ad q := fun _ h => h
  have hl : lv_has ls 5 [(0, .ref (ad 31)), (1, .int a1), (2, .int a2)] := hl
  have g1 := jrg t1
  have g2 := jrg t2
  obtain ⟨i1, i2, i3, i4, w5, w6, w7⟩ : (0 ≤ (σ 31 8).toInt ∧ (σ 31 8).toInt ≤ 350) ∧ (0 ≤ (σ 31 10).toInt ∧ (σ 31 10).toInt ≤ 12) ∧ (0 ≤ (σ 31 11).toInt ∧ (σ 31 11).toInt ≤ 8) ∧ ((σ 31 10).toInt + (σ 31 11).toInt ≤ 12) ∧ (∀ k : Nat, k < 1400 → (-1) ≤ (σ 33 k).toInt ∧ (σ 33 k).toInt ≤ 350) ∧ (∀ k : Nat, k < 3159 → (-1) ≤ (σ 35 k).toInt ∧ (σ 35 k).toInt ≤ 3) ∧ (∀ k : Nat, k < 1024 → 0 ≤ (σ 36 k).toInt ∧ (σ 36 k).toInt ≤ 349) := id hI31
  refine lv_iload_n hx hb dX1_add_0 rfl (lv_at hl 2 rfl) ?_
  refine lv_aload_n hx hb dX1_add_1 rfl (lv_at hl 0 rfl) ?_
  refine va_get (D := D) hx hb hts inlX1 hown hK hP 31 (jc_31 cI cL ad σ τ) rfl 11 (of_decide_eq_true rfl) (hts _ kw_28_7) (fun _ h9 => h9) rfl dX1_add_2 ?_
  refine lv_icmp_lt (tgt := 12) hx hb dX1_add_5 (of_decide_eq_true rfl) (fun c8 => ?_) (fun c8 => ?_)
  · have kc8 := jlt c8 t2 rfl
    refine lv_aload_n hx hb dX1_add_12 rfl (lv_at hl 0 rfl) ?_
    refine lv_iload_n hx hb dX1_add_13 rfl (lv_at hl 1 rfl) ?_
    refine lv_aload_n hx hb dX1_add_14 rfl (lv_at hl 0 rfl) ?_
    refine va_get (D := D) hx hb hts inlX1 hown hK hP 31 (jc_31 cI cL ad σ τ) rfl 11 (of_decide_eq_true rfl) (hts _ kw_28_7) (fun _ h9 => h9) rfl dX1_add_15 ?_
    refine lv_iload_n hx hb dX1_add_18 rfl (lv_at hl 2 rfl) ?_
    have g9 := jrg (rfl : (σ 31 11).toInt = (σ 31 11).toInt)
    refine lv_isub hx hb dX1_add_19 ?_
    refine lv_topi (fun x10 ex10 => ?_)
    exact by
     have tx10 : x10.toInt = (σ 31 11).toInt - A2 := (jsub ex10 rfl t2 (by omega) (by omega)).trans (by omega)
     refine jcallV (As := [.int a1, .int x10]) (rest := []) ⟨hx, hb, hml, hown, hts⟩ hK hP hA hS hZ (c_X1_trimmed_r l D cI cL ad zz hJ σ τ a1 (A1) t1 x10 ((σ 31 11).toInt - A2) tx10 (by omega) (by omega) (by omega)) cw_RX1_71 (jc_31 cI cL ad σ τ) rfl ⟨Nat.le_of_ble_eq_true rfl, Nat.le_of_ble_eq_true rfl⟩ rfl rfl rfl hl.1 rfl (Nat.le_of_ble_eq_true rfl) dX1_add_20 ⟨Nat.zero_le _, Nat.zero_le _⟩ (fun r12 σ11 τ11 H locs h11 hP hS => ?_)
     obtain ⟨⟨rfl, rfl⟩, w13, h11⟩ := h11
     have h14 := h11
     obtain ⟨q16, k15⟩ := h14
     refine lv_iload_n hx hb dX1_add_23 rfl (lv_at hl 2 rfl) ?_
     refine lv_bipush (v := 27) hx hb dX1_add_24 (of_decide_eq_true rfl) ?_
     refine lv_ishl hx hb dX1_add_26 ?_
     refine lv_topi (fun x17 ex17 => ?_)
     exact by
      have gx17 := jrg (rfl : x17.toInt = x17.toInt)
      refine lv_ior hx hb dX1_add_27 ?_
      refine lv_topi (fun x18 ex18 => ?_)
      have gx18 := jrg (rfl : x18.toInt = x18.toInt)
      have k19 := jor27 (x := x18) (a := r12) (d := a2) (by rw [ex18, ex17]) (by omega) (by omega) (by have h9 := t2; omega) (by have h9 := t2; omega)
      rw [t2] at k19
      refine lv_istore_n (lv' := [(3, .int x18), (0, .ref (ad 31)), (1, .int a1), (2, .int a2)]) hx hb dX1_add_28 rfl hl (of_decide_eq_true rfl) rfl (fun ls hl => ?_)
      refine lv_aload_n hx hb dX1_add_29 rfl (lv_at hl 1 rfl) ?_
      refine lv_iload_n hx hb dX1_add_30 rfl (lv_at hl 0 rfl) ?_
      exact by
       refine jcallV (As := [.int x18]) (rest := []) ⟨hx, hb, hml, hown, hts⟩ hK hP hA hS hZ (c_X1_slotFor_31 l D cI cL ad zz hJ σ τ x18 (x18.toInt) rfl hI31) cw_RX1_77 (jc_31 cI cL ad σ τ) rfl ⟨Nat.le_of_ble_eq_true rfl, Nat.le_of_ble_eq_true rfl⟩ rfl rfl rfl hl.1 rfl (Nat.le_of_ble_eq_true rfl) dX1_add_31 ⟨Nat.zero_le _, Nat.zero_le _⟩ (fun r21 σ20 τ20 H locs h20 hP hS => ?_)
       obtain ⟨⟨rfl, rfl⟩, w22, h20⟩ := h20
       have h23 := h20
       obtain ⟨q25, k24⟩ := h23
       refine lv_istore (lv' := [(4, .int r21), (3, .int x18), (0, .ref (ad 31)), (1, .int a1), (2, .int a2)]) hx hb dX1_add_34 hl (of_decide_eq_true rfl) rfl (fun ls hl => ?_)
       refine lv_iload hx hb dX1_add_36 (lv_at hl 0 rfl) ?_
       refine lv_if_ge (tgt := 45) hx hb dX1_add_38 (of_decide_eq_true rfl) (fun c26 => ?_) (fun c26 => ?_)
       · have kc26 := jle c26 jz_0 rfl
         refine lv_aload_n hx hb dX1_add_45 rfl (lv_at hl 2 rfl) ?_
         refine lv_iload hx hb dX1_add_46 (lv_at hl 0 rfl) ?_
         exact by
          refine jcallV (As := [.int r21]) (rest := []) ⟨hx, hb, hml, hown, hts⟩ hK hP hA hS hZ (c_X1_isTaken_31 l D cI cL ad zz hJ σ τ r21 (r21.toInt) rfl hI31 (by omega)) cw_RX1_81 (jc_31 cI cL ad σ τ) rfl ⟨Nat.le_of_ble_eq_true rfl, Nat.le_of_ble_eq_true rfl⟩ rfl rfl rfl hl.1 rfl (Nat.le_of_ble_eq_true rfl) dX1_add_48 ⟨Nat.zero_le _, Nat.zero_le _⟩ (fun r28 σ27 τ27 H locs h27 hP hS => ?_)
          obtain ⟨⟨rfl, rfl⟩, h27⟩ := h27
          rcases h27 with h29 | h30
          · obtain ⟨q32, k31⟩ := h29
            have q32 := q32.symm
            subst q32
            refine lv_if_eq (tgt := 62) hx hb dX1_add_51 (of_decide_eq_true rfl) (fun c => absurd c (of_decide_eq_true rfl)) (fun _ => ?_)
            refine lv_aload_n hx hb dX1_add_54 rfl (lv_at hl 2 rfl) ?_
            refine va_get (D := D) hx hb hts inlX1 hown hK hP 31 (jc_31 cI cL ad σ τ) rfl 6 (of_decide_eq_true rfl) (hts _ kw_5_7) (fun _ h9 => h9) rfl dX1_add_55 ?_
            refine lv_iload hx hb dX1_add_58 (lv_at hl 0 rfl) ?_
            exact by
             refine jald hx hb hK hP (jc_36 cI cL ad σ τ) (jin rfl (by omega) (by omega)) dX1_add_60 ?_
             have g33 := w7 _ (jnat (x := r21) rfl (n := 1024) (by omega) (of_decide_eq_true rfl))
             refine jtopr (y := (σ 36 r21.toNatClampNeg)) rfl ?_
             exact by exact hret (σ 36 r21.toNatClampNeg) σ τ _ _ _ _ rfl ⟨rfl, (fun _ _ => rfl), (fun _ _ => rfl), hI31, hs_jKb, hs_jKh, (jqAd.old (t := r12) (y := x18) (by omega) (by omega) w13 (by omega) (by omega) w22 (by omega) k31 rfl (by omega)), ⟨trivial, (by omega)⟩⟩ hP hS dX1_add_61
          · obtain ⟨q35, k34⟩ := h30
            have q35 := q35.symm
            subst q35
            refine lv_if_eq (tgt := 62) hx hb dX1_add_51 (of_decide_eq_true rfl) (fun _ => ?_) (fun c => absurd (of_decide_eq_true rfl) c)
            refine lv_aload_n hx hb dX1_add_62 rfl (lv_at hl 2 rfl) ?_
            exact by
             refine va_get (D := D) hx hb hts inlX1 hown hK hP 31 (jc_31 cI cL ad σ τ) rfl 8 (of_decide_eq_true rfl) (hts _ kw_27_22) (fun _ h9 => h9) rfl dX1_add_63 ?_
             refine lv_sipush (v := 350) hx hb dX1_add_66 (of_decide_eq_true rfl) ?_
             refine lv_icmp_lt (tgt := 76) hx hb dX1_add_69 (of_decide_eq_true rfl) (fun c36 => ?_) (fun c36 => ?_)
             · have kc36 := jlt c36 rfl jz_350
               refine lv_aload_n hx hb dX1_add_76 rfl (lv_at hl 2 rfl) ?_
               refine va_get (D := D) hx hb hts inlX1 hown hK hP 31 (jc_31 cI cL ad σ τ) rfl 2 (of_decide_eq_true rfl) (hts _ kw_5_3) (fun _ h9 => h9) rfl dX1_add_77 ?_
               refine lv_aload_n hx hb dX1_add_80 rfl (lv_at hl 2 rfl) ?_
               refine va_get (D := D) hx hb hts inlX1 hown hK hP 31 (jc_31 cI cL ad σ τ) rfl 8 (of_decide_eq_true rfl) (hts _ kw_27_22) (fun _ h9 => h9) rfl dX1_add_81 ?_
               refine lv_iload_n hx hb dX1_add_84 rfl (lv_at hl 1 rfl) ?_
               exact by
                refine jast hx hb hK hP hJ hA hS (jc_32 cI cL ad σ τ) (ja_32 cI cL ad σ τ _ _) (jin rfl (by omega) (by omega)) dX1_add_85 (fun σ37 H locs eσ37 hP hS => ?_)
                refine lv_aload_n hx hb dX1_add_86 rfl (lv_at hl 2 rfl) ?_
                refine va_get (D := D) hx hb hts inlX1 hown hK hP 31 (jc_31 cI cL ad σ37 τ) rfl 7 (of_decide_eq_true rfl) (hts _ kw_5_8) (fun _ h9 => h9) rfl dX1_add_87 ?_
                refine lv_aload_n hx hb dX1_add_90 rfl (lv_at hl 2 rfl) ?_
                refine va_get (D := D) hx hb hts inlX1 hown hK hP 31 (jc_31 cI cL ad σ37 τ) rfl 8 (of_decide_eq_true rfl) (hts _ kw_27_22) (fun _ h9 => h9) rfl dX1_add_91 ?_
                have m38 : σ37 31 8 = (σ 31 8) := (congrFun (jnp 31 eσ37 (of_decide_eq_true rfl)) 8)
                refine jtopr m38 ?_
                refine lv_iload hx hb dX1_add_94 (lv_at hl 0 rfl) ?_
                refine jast hx hb hK hP hJ hA hS (jc_37 cI cL ad σ37 τ) (ja_37 cI cL ad σ37 τ _ _) (jin rfl (by omega) (by omega)) dX1_add_96 (fun σ39 H locs eσ39 hP hS => ?_)
                exact by
                 refine lv_aload_n hx hb dX1_add_97 rfl (lv_at hl 2 rfl) ?_
                 refine va_get (D := D) hx hb hts inlX1 hown hK hP 31 (jc_31 cI cL ad σ39 τ) rfl 6 (of_decide_eq_true rfl) (hts _ kw_5_7) (fun _ h9 => h9) rfl dX1_add_98 ?_
                 refine lv_iload hx hb dX1_add_101 (lv_at hl 0 rfl) ?_
                 refine lv_aload_n hx hb dX1_add_103 rfl (lv_at hl 2 rfl) ?_
                 refine va_get (D := D) hx hb hts inlX1 hown hK hP 31 (jc_31 cI cL ad σ39 τ) rfl 8 (of_decide_eq_true rfl) (hts _ kw_27_22) (fun _ h9 => h9) rfl dX1_add_104 ?_
                 have m40 : σ39 31 8 = (σ 31 8) := ((congrFun (jnp 31 eσ39 (of_decide_eq_true rfl)) 8).trans m38)
                 refine jtopr m40 ?_
                 refine jast hx hb hK hP hJ hA hS (jc_36 cI cL ad σ39 τ) (ja_36 cI cL ad σ39 τ _ _) (jin rfl (by omega) (by omega)) dX1_add_107 (fun σ41 H locs eσ41 hP hS => ?_)
                 refine lv_aload_n hx hb dX1_add_108 rfl (lv_at hl 2 rfl) ?_
                 exact by
                  refine lv_dup hx hb dX1_add_109 rfl ?_
                  refine va_get (D := D) hx hb hts inlX1 hown hK hP 31 (jc_31 cI cL ad σ41 τ) rfl 8 (of_decide_eq_true rfl) (hts _ kw_27_22) (fun _ h9 => h9) rfl dX1_add_110 ?_
                  have m42 : σ41 31 8 = (σ 31 8) := ((congrFun (jnp 31 eσ41 (of_decide_eq_true rfl)) 8).trans m40)
                  refine jtopr m42 ?_
                  refine lv_dup_x1 hx hb dX1_add_113 rfl rfl ?_
                  refine lv_iconst (v := 1) hx hb dX1_add_114 (of_decide_eq_true rfl) ?_
                  have g43 := jrg (rfl : (σ 31 8).toInt = (σ 31 8).toInt)
                  refine lv_iadd hx hb dX1_add_115 ?_
                  refine lv_topi (fun x44 ex44 => ?_)
                  exact by
                   have tx44 : x44.toInt = (σ 31 8).toInt + 1 := (jadd ex44 rfl jz_1 (by omega) (by omega)).trans (by omega)
                   refine jput (ty := .int) hx hb hts inlX1 tyX1 tyX1_ok nmX1 hown hK hP hJ hA hS (jc_31 cI cL ad σ41 τ) rfl (k := 8) (of_decide_eq_true rfl) (Nat.le_of_ble_eq_true rfl) (jp_31_8 cI cL ad σ41 τ x44) (hts _ kw_27_22) (fun _ h9 => h9) rfl (by decide +kernel) rfl rfl dX1_add_116 (fun σ45 H locs eσ45 hP hS => ?_)
                   have z46 : (σ45 31 8).toInt = (σ 31 8).toInt + 1 := ((congrArg Int32.toInt (show σ45 31 8 = x44 from (jsp eσ45))).trans tx44)
                   have z47 : (σ45 31 11).toInt = (σ 31 11).toInt := (congrArg Int32.toInt (show σ45 31 11 = (σ 31 11) from ((jkp 11 eσ45 (of_decide_eq_true rfl)).trans ((congrFun (jnp 31 eσ41 (of_decide_eq_true rfl)) 11).trans ((congrFun (jnp 31 eσ39 (of_decide_eq_true rfl)) 11).trans (congrFun (jnp 31 eσ37 (of_decide_eq_true rfl)) 11))))))
                   have p48 : jKb σ45 := (jKb.add hs_jKb (by rw [eσ45, jup_n (of_decide_eq_true rfl), eσ41, jup_n (of_decide_eq_true rfl), eσ39, jup_n (of_decide_eq_true rfl), eσ37, jup_row, jnc (show (σ 31 8).toInt = (σ 31 8).toInt by omega)]) (by omega) ((jkp 11 eσ45 (of_decide_eq_true rfl)).trans ((congrFun (jnp 31 eσ41 (of_decide_eq_true rfl)) 11).trans ((congrFun (jnp 31 eσ39 (of_decide_eq_true rfl)) 11).trans (congrFun (jnp 31 eσ37 (of_decide_eq_true rfl)) 11)))) (by omega) (by omega) (by omega))
                   have p49 : jKh σ45 := (show jqHs (σ45 31 8).toInt _ _ _ from jqHs.add hs_jKh w22 (by omega) k34 (by omega) (by rw [eσ45, jup_n (of_decide_eq_true rfl), eσ41, jup_n (of_decide_eq_true rfl), eσ39, jup_n (of_decide_eq_true rfl), eσ37, jup_row, jnc (show (σ 31 8).toInt = (σ 31 8).toInt by omega)]) (by rw [eσ45, jup_n (of_decide_eq_true rfl), eσ41, jup_row, eσ39, jup_n (of_decide_eq_true rfl), eσ37, jup_n (of_decide_eq_true rfl), jnc (show r21.toInt = r21.toInt by omega)]) (by omega) (by rw [eσ45, jup_n (of_decide_eq_true rfl), eσ41, jup_n (of_decide_eq_true rfl), eσ39, jup_row, eσ37, jup_n (of_decide_eq_true rfl), jnc (show (σ 31 8).toInt = (σ 31 8).toInt by omega)]) (by omega) (by omega))
                   have z50 : (σ45 31 10).toInt = (σ 31 10).toInt := (congrArg Int32.toInt (show σ45 31 10 = (σ 31 10) from ((jkp 10 eσ45 (of_decide_eq_true rfl)).trans ((congrFun (jnp 31 eσ41 (of_decide_eq_true rfl)) 10).trans ((congrFun (jnp 31 eσ39 (of_decide_eq_true rfl)) 10).trans (congrFun (jnp 31 eσ37 (of_decide_eq_true rfl)) 10))))))
                   have w51 : ∀ k : Nat, k < 1400 → (-1) ≤ (σ45 33 k).toInt ∧ (σ45 33 k).toInt ≤ 350 := (jrr_fr (jnp 33 eσ45 (of_decide_eq_true rfl)) (jrr_fr (jnp 33 eσ41 (of_decide_eq_true rfl)) (jrr_fr (jnp 33 eσ39 (of_decide_eq_true rfl)) (jrr_fr (jnp 33 eσ37 (of_decide_eq_true rfl)) w5))))
                   have w52 : ∀ k : Nat, k < 3159 → (-1) ≤ (σ45 35 k).toInt ∧ (σ45 35 k).toInt ≤ 3 := (jrr_fr (jnp 35 eσ45 (of_decide_eq_true rfl)) (jrr_fr (jnp 35 eσ41 (of_decide_eq_true rfl)) (jrr_fr (jnp 35 eσ39 (of_decide_eq_true rfl)) (jrr_fr (jnp 35 eσ37 (of_decide_eq_true rfl)) w6))))
                   exact by
                    have w53 : ∀ k : Nat, k < 1024 → 0 ≤ (σ45 36 k).toInt ∧ (σ45 36 k).toInt ≤ 349 := (jrr_fr (jnp 36 eσ45 (of_decide_eq_true rfl)) (by rw [eσ41]; exact jrr_up (jrr_fr (jnp 36 eσ39 (of_decide_eq_true rfl)) (jrr_fr (jnp 36 eσ37 (of_decide_eq_true rfl)) w7)) (by omega) (by omega)))
                    have I54 : jI31 σ45 := ⟨(by omega), (by omega), (by omega), (by omega), w51, w52, w53⟩
                    exact by exact hret (σ 31 8) σ45 τ _ _ _ _ rfl ⟨rfl, (fun i hi => ((jnp i eσ45 (imp_81 i hi)).trans ((jnp i eσ41 (imp_82 i hi)).trans ((jnp i eσ39 (imp_83 i hi)).trans (jnp i eσ37 (imp_84 i hi)))))), (fun i hi => ((jkp i eσ45 (imp_85 i hi)).trans ((congrFun (jnp 31 eσ41 (of_decide_eq_true rfl)) i).trans ((congrFun (jnp 31 eσ39 (of_decide_eq_true rfl)) i).trans (congrFun (jnp 31 eσ37 (of_decide_eq_true rfl)) i))))), I54, p48, p49, (jqAd.new (t := r12) (y := x18) (by omega) (by omega) w13 (by omega) (by omega) (by omega) (by rw [eσ45, jup_n (of_decide_eq_true rfl), eσ41, jup_n (of_decide_eq_true rfl), eσ39, jup_n (of_decide_eq_true rfl), eσ37, jup_row, jnc (show (σ 31 8).toInt = (σ 31 8).toInt by omega)]) (by omega) (by omega) (by omega)), ⟨trivial, (by omega)⟩⟩ hP hS dX1_add_119
             · have kc36 := jnlt c36 rfl jz_350
               refine lv_sipush (v := 350) hx hb dX1_add_72 (of_decide_eq_true rfl) ?_
               exact by exact hret 350 σ τ _ _ _ _ rfl ⟨rfl, (fun _ _ => rfl), (fun _ _ => rfl), hI31, hs_jKb, hs_jKh, (by rw [show (350 : Int32).toInt = 350 from by decide]; exact jqAd.full (t := r12) (by omega) (by omega) w13 (by omega) (by omega) (by omega)), ⟨trivial, (by have h9 := jz_350; omega)⟩⟩ hP hS dX1_add_75
       · have kc26 := jnle c26 jz_0 rfl
         refine lv_sipush (v := 350) hx hb dX1_add_41 (of_decide_eq_true rfl) ?_
         exact by exact hret 350 σ τ _ _ _ _ rfl ⟨rfl, (fun _ _ => rfl), (fun _ _ => rfl), hI31, hs_jKb, hs_jKh, (absurd (w22.full (by omega)) (by omega)), ⟨trivial, (by have h9 := jz_350; omega)⟩⟩ hP hS dX1_add_44
  · exact by
     have kc8 := jnlt c8 t2 rfl
     refine lv_sipush (v := 350) hx hb dX1_add_8 (of_decide_eq_true rfl) ?_
     exact by exact hret 350 σ τ _ _ _ _ rfl ⟨rfl, (fun _ _ => rfl), (fun _ _ => rfl), hI31, hs_jKb, hs_jKh, (by rw [show (350 : Int32).toInt = 350 from by decide]; exact jqAd.out (by omega)), ⟨trivial, (by have h9 := jz_350; omega)⟩⟩ hP hS dX1_add_11
set_option maxHeartbeats 4000000 in
set_option maxRecDepth 100000 in
theorem c_X1_nodeOf_31 (l : Launch) (D : va_G) (cI cL : ClassId) (ad zz : Nat → Nat) (hJ : jD ad) (σ : Nat → Nat → Int32) (τ : Nat → Nat → Int64) (a1 : Int32) (A1 : Int) (t1 : a1.toInt = A1) (a2 : Int32) (A2 : Int) (t2 : a2.toInt = A2) (hI31 : jI31 σ) (hs_jKh : jKh σ) (hp0 : 0 ≤ A1 ∧ A1 ≤ 134217727) (hp1 : 0 ≤ A2 ∧ A2 ≤ 15) : jM l yX1_nodeOf cX1_nodeOf 5 (some .int) ({ frames := 2, cells := 0, slots := 0, locals := 49 }) D cI cL ad zz [.ref (ad 31), .int a1, .int a2] σ τ (fun r σ' τ' => (σ = σ' ∧ τ = τ') ∧ (jqNd σ ((A2) - (σ 31 10).toInt) a1 r.toInt) ∧ ((True ∧ ((-1) ≤ r.toInt ∧ r.toInt ≤ 349)))) := by
  refine jM.of hJ (by decide +kernel) (nt := .int) rfl (Nat.le_of_ble_eq_true rfl) ?_
  intro p e s m args below meth c Q ls hC hret hl hP
  obtain ⟨hx, hb, hr, hml, hown, hts, hK, -, hlocks, hZ⟩ := hC
  have hown : s.vm.findClass RX1 = some m.cls := hown
  have hS : va_S (jA ad) s.heap s.heap [] := va_S.rf
  have hA : ∀ q, jA ad q → jA ad q := fun _ h => h
  have hl : lv_has ls 5 [(0, .ref (ad 31)), (1, .int a1), (2, .int a2)] := hl
  have g1 := jrg t1
  have g2 := jrg t2
  obtain ⟨i1, i2, i3, i4, w5, w6, w7⟩ : (0 ≤ (σ 31 8).toInt ∧ (σ 31 8).toInt ≤ 350) ∧ (0 ≤ (σ 31 10).toInt ∧ (σ 31 10).toInt ≤ 12) ∧ (0 ≤ (σ 31 11).toInt ∧ (σ 31 11).toInt ≤ 8) ∧ ((σ 31 10).toInt + (σ 31 11).toInt ≤ 12) ∧ (∀ k : Nat, k < 1400 → (-1) ≤ (σ 33 k).toInt ∧ (σ 33 k).toInt ≤ 350) ∧ (∀ k : Nat, k < 3159 → (-1) ≤ (σ 35 k).toInt ∧ (σ 35 k).toInt ≤ 3) ∧ (∀ k : Nat, k < 1024 → 0 ≤ (σ 36 k).toInt ∧ (σ 36 k).toInt ≤ 349) := id hI31
  refine lv_iload_n hx hb dX1_nodeOf_0 rfl (lv_at hl 2 rfl) ?_
  refine lv_aload_n hx hb dX1_nodeOf_1 rfl (lv_at hl 0 rfl) ?_
  refine va_get (D := D) hx hb hts inlX1 hown hK hP 31 (jc_31 cI cL ad σ τ) rfl 10 (of_decide_eq_true rfl) (hts _ kw_28_9) (fun _ h9 => h9) rfl dX1_nodeOf_2 ?_
  have g8 := jrg (rfl : (σ 31 10).toInt = (σ 31 10).toInt)
  refine lv_isub hx hb dX1_nodeOf_5 ?_
  refine lv_topi (fun x9 ex9 => ?_)
  exact by
   have tx9 : x9.toInt = A2 - (σ 31 10).toInt := (jsub ex9 t2 rfl (by omega) (by omega)).trans (by omega)
   refine lv_istore_n (lv' := [(3, .int x9), (0, .ref (ad 31)), (1, .int a1), (2, .int a2)]) hx hb dX1_nodeOf_6 rfl hl (of_decide_eq_true rfl) rfl (fun ls hl => ?_)
   refine lv_iload_n hx hb dX1_nodeOf_7 rfl (lv_at hl 0 rfl) ?_
   refine lv_if_lt (tgt := 19) hx hb dX1_nodeOf_8 (of_decide_eq_true rfl) (fun c10 => ?_) (fun c10 => ?_)
   · have kc10 := jlt c10 tx9 jz_0
     refine lv_iconst (v := (-1)) hx hb dX1_nodeOf_19 (of_decide_eq_true rfl) ?_
     exact by exact hret (-1) σ τ _ _ _ _ rfl ⟨⟨rfl, rfl⟩, (jqNd.out (by omega)), ⟨trivial, (by have h9 := jz_m1; omega)⟩⟩ hP hS dX1_nodeOf_20
   · have kc10 := jnlt c10 tx9 jz_0
     refine lv_iload_n hx hb dX1_nodeOf_11 rfl (lv_at hl 0 rfl) ?_
     refine lv_aload_n hx hb dX1_nodeOf_12 rfl (lv_at hl 1 rfl) ?_
     refine va_get (D := D) hx hb hts inlX1 hown hK hP 31 (jc_31 cI cL ad σ τ) rfl 11 (of_decide_eq_true rfl) (hts _ kw_28_7) (fun _ h9 => h9) rfl dX1_nodeOf_13 ?_
     refine lv_icmp_lt (tgt := 21) hx hb dX1_nodeOf_16 (of_decide_eq_true rfl) (fun c11 => ?_) (fun c11 => ?_)
     · have kc11 := jlt c11 tx9 rfl
       refine lv_aload_n hx hb dX1_nodeOf_21 rfl (lv_at hl 1 rfl) ?_
       refine lv_aload_n hx hb dX1_nodeOf_22 rfl (lv_at hl 1 rfl) ?_
       refine lv_iload_n hx hb dX1_nodeOf_23 rfl (lv_at hl 2 rfl) ?_
       refine lv_aload_n hx hb dX1_nodeOf_24 rfl (lv_at hl 1 rfl) ?_
       refine va_get (D := D) hx hb hts inlX1 hown hK hP 31 (jc_31 cI cL ad σ τ) rfl 11 (of_decide_eq_true rfl) (hts _ kw_28_7) (fun _ h9 => h9) rfl dX1_nodeOf_25 ?_
       refine lv_iload_n hx hb dX1_nodeOf_28 rfl (lv_at hl 0 rfl) ?_
       have g12 := jrg (rfl : (σ 31 11).toInt = (σ 31 11).toInt)
       refine lv_isub hx hb dX1_nodeOf_29 ?_
       refine lv_topi (fun x13 ex13 => ?_)
       exact by
        have tx13 : x13.toInt = (σ 31 11).toInt - A2 + (σ 31 10).toInt := (jsub ex13 rfl tx9 (by omega) (by omega)).trans (by omega)
        refine jcallV (As := [.int a1, .int x13]) (rest := [.ref (ad 31)]) ⟨hx, hb, hml, hown, hts⟩ hK hP hA hS hZ (c_X1_trimmed_r l D cI cL ad zz hJ σ τ a1 (A1) t1 x13 ((σ 31 11).toInt - A2 + (σ 31 10).toInt) tx13 (by omega) (by omega) (by omega)) cw_RX1_71 (jc_31 cI cL ad σ τ) rfl ⟨Nat.le_of_ble_eq_true rfl, Nat.le_of_ble_eq_true rfl⟩ rfl rfl rfl hl.1 rfl (Nat.le_of_ble_eq_true rfl) dX1_nodeOf_30 ⟨Nat.zero_le _, Nat.zero_le _⟩ (fun r15 σ14 τ14 H locs h14 hP hS => ?_)
        obtain ⟨⟨rfl, rfl⟩, w16, h14⟩ := h14
        have h17 := h14
        obtain ⟨q19, k18⟩ := h17
        refine lv_iload_n hx hb dX1_nodeOf_33 rfl (lv_at hl 0 rfl) ?_
        refine lv_bipush (v := 27) hx hb dX1_nodeOf_34 (of_decide_eq_true rfl) ?_
        refine lv_ishl hx hb dX1_nodeOf_36 ?_
        refine lv_topi (fun x20 ex20 => ?_)
        exact by
         have gx20 := jrg (rfl : x20.toInt = x20.toInt)
         refine lv_ior hx hb dX1_nodeOf_37 ?_
         refine lv_topi (fun x21 ex21 => ?_)
         have gx21 := jrg (rfl : x21.toInt = x21.toInt)
         have k22 := jor27 (x := x21) (a := r15) (d := x9) (by rw [ex21, ex20]) (by omega) (by omega) (by have h9 := tx9; omega) (by have h9 := tx9; omega)
         rw [tx9] at k22
         refine jcallV (As := [.int x21]) (rest := []) ⟨hx, hb, hml, hown, hts⟩ hK hP hA hS hZ (c_X1_slotFor_31 l D cI cL ad zz hJ σ τ x21 (x21.toInt) rfl hI31) cw_RX1_77 (jc_31 cI cL ad σ τ) rfl ⟨Nat.le_of_ble_eq_true rfl, Nat.le_of_ble_eq_true rfl⟩ rfl rfl rfl hl.1 rfl (Nat.le_of_ble_eq_true rfl) dX1_nodeOf_38 ⟨Nat.zero_le _, Nat.zero_le _⟩ (fun r24 σ23 τ23 H locs h23 hP hS => ?_)
         obtain ⟨⟨rfl, rfl⟩, w25, h23⟩ := h23
         have h26 := h23
         exact by
          obtain ⟨q28, k27⟩ := h26
          refine lv_istore (lv' := [(4, .int r24), (3, .int x9), (0, .ref (ad 31)), (1, .int a1), (2, .int a2)]) hx hb dX1_nodeOf_41 hl (of_decide_eq_true rfl) rfl (fun ls hl => ?_)
          refine lv_iload hx hb dX1_nodeOf_43 (lv_at hl 0 rfl) ?_
          refine lv_if_lt (tgt := 57) hx hb dX1_nodeOf_45 (of_decide_eq_true rfl) (fun c29 => ?_) (fun c29 => ?_)
          · have kc29 := jlt c29 rfl jz_0
            refine lv_iconst (v := (-1)) hx hb dX1_nodeOf_57 (of_decide_eq_true rfl) ?_
            refine lv_goto (tgt := 68) hx hb dX1_nodeOf_58 (of_decide_eq_true rfl) ?_
            exact by exact hret (-1) σ τ _ _ _ _ rfl ⟨⟨rfl, rfl⟩, (jqNd.of (t := r15) (y := x21) hs_jKh (show jTf _ ((σ 31 11).toInt - ((A2) - (σ 31 10).toInt)) _ _ from by have w9 := w16; rw [show ((σ 31 11).toInt - A2 + (σ 31 10).toInt) = (σ 31 11).toInt - ((A2) - (σ 31 10).toInt) from by omega] at w9; exact w9) (by omega) (by omega) (by omega) w25 (Or.inr (Or.inl (by omega)))), ⟨trivial, (by have h9 := jz_m1; omega)⟩⟩ hP hS dX1_nodeOf_68
          · have kc29 := jnlt c29 rfl jz_0
            refine lv_aload_n hx hb dX1_nodeOf_48 rfl (lv_at hl 2 rfl) ?_
            refine lv_iload hx hb dX1_nodeOf_49 (lv_at hl 0 rfl) ?_
            exact by
             refine jcallV (As := [.int r24]) (rest := []) ⟨hx, hb, hml, hown, hts⟩ hK hP hA hS hZ (c_X1_isTaken_31 l D cI cL ad zz hJ σ τ r24 (r24.toInt) rfl hI31 (by omega)) cw_RX1_81 (jc_31 cI cL ad σ τ) rfl ⟨Nat.le_of_ble_eq_true rfl, Nat.le_of_ble_eq_true rfl⟩ rfl rfl rfl hl.1 rfl (Nat.le_of_ble_eq_true rfl) dX1_nodeOf_51 ⟨Nat.zero_le _, Nat.zero_le _⟩ (fun r31 σ30 τ30 H locs h30 hP hS => ?_)
             obtain ⟨⟨rfl, rfl⟩, h30⟩ := h30
             rcases h30 with h32 | h33
             · obtain ⟨q35, k34⟩ := h32
               have q35 := q35.symm
               subst q35
               refine lv_if_ne (tgt := 61) hx hb dX1_nodeOf_54 (of_decide_eq_true rfl) (fun _ => ?_) (fun c => absurd c (of_decide_eq_true rfl))
               refine lv_aload_n hx hb dX1_nodeOf_61 rfl (lv_at hl 2 rfl) ?_
               refine va_get (D := D) hx hb hts inlX1 hown hK hP 31 (jc_31 cI cL ad σ τ) rfl 6 (of_decide_eq_true rfl) (hts _ kw_5_7) (fun _ h9 => h9) rfl dX1_nodeOf_62 ?_
               refine lv_iload hx hb dX1_nodeOf_65 (lv_at hl 0 rfl) ?_
               exact by
                refine jald hx hb hK hP (jc_36 cI cL ad σ τ) (jin rfl (by omega) (by omega)) dX1_nodeOf_67 ?_
                have g36 := w7 _ (jnat (x := r24) rfl (n := 1024) (by omega) (of_decide_eq_true rfl))
                refine jtopr (y := (σ 36 r24.toNatClampNeg)) rfl ?_
                exact by exact hret (σ 36 r24.toNatClampNeg) σ τ _ _ _ _ rfl ⟨⟨rfl, rfl⟩, (jqNd.of (t := r15) (y := x21) hs_jKh (show jTf _ ((σ 31 11).toInt - ((A2) - (σ 31 10).toInt)) _ _ from by have w9 := w16; rw [show ((σ 31 11).toInt - A2 + (σ 31 10).toInt) = (σ 31 11).toInt - ((A2) - (σ 31 10).toInt) from by omega] at w9; exact w9) (by omega) (by omega) (by omega) w25 (Or.inl ⟨by omega, k34, rfl⟩)), ⟨trivial, (by omega)⟩⟩ hP hS dX1_nodeOf_68
             · obtain ⟨q38, k37⟩ := h33
               have q38 := q38.symm
               subst q38
               refine lv_if_ne (tgt := 61) hx hb dX1_nodeOf_54 (of_decide_eq_true rfl) (fun c => absurd (of_decide_eq_true rfl) c) (fun _ => ?_)
               refine lv_iconst (v := (-1)) hx hb dX1_nodeOf_57 (of_decide_eq_true rfl) ?_
               exact by
                refine lv_goto (tgt := 68) hx hb dX1_nodeOf_58 (of_decide_eq_true rfl) ?_
                exact by exact hret (-1) σ τ _ _ _ _ rfl ⟨⟨rfl, rfl⟩, (jqNd.of (t := r15) (y := x21) hs_jKh (show jTf _ ((σ 31 11).toInt - ((A2) - (σ 31 10).toInt)) _ _ from by have w9 := w16; rw [show ((σ 31 11).toInt - A2 + (σ 31 10).toInt) = (σ 31 11).toInt - ((A2) - (σ 31 10).toInt) from by omega] at w9; exact w9) (by omega) (by omega) (by omega) w25 (Or.inr (Or.inr k37))), ⟨trivial, (by have h9 := jz_m1; omega)⟩⟩ hP hS dX1_nodeOf_68
     · have kc11 := jnlt c11 tx9 rfl
       refine lv_iconst (v := (-1)) hx hb dX1_nodeOf_19 (of_decide_eq_true rfl) ?_
       exact by exact hret (-1) σ τ _ _ _ _ rfl ⟨⟨rfl, rfl⟩, (jqNd.out (by omega)), ⟨trivial, (by have h9 := jz_m1; omega)⟩⟩ hP hS dX1_nodeOf_20
set_option maxHeartbeats 4000000 in
set_option maxRecDepth 100000 in
theorem c_X1_grow_31 (l : Launch) (D : va_G) (cI cL : ClassId) (ad zz : Nat → Nat) (hJ : jD ad) (σ : Nat → Nat → Int32) (τ : Nat → Nat → Int64) (a1 : Int32) (A1 : Int) (t1 : a1.toInt = A1) (a2 : Int32) (A2 : Int) (t2 : a2.toInt = A2) (hI16 : jI16 σ) (hI31 : jI31 σ) (hs_jKb : jKb σ) (hs_jKh : jKh σ) (hs_jKg : jKg σ) (hp0 : 0 ≤ A1 ∧ A1 ≤ 134217727) (hp1 : 0 ≤ A2 ∧ A2 ≤ 12) : jMv l yX1_grow cX1_grow 9 none ({ frames := 3, cells := 0, slots := 0, locals := 73 }) D cI cL ad zz [.ref (ad 31), .int a1, .int a2] σ τ (fun σ' τ' => τ = τ' ∧ (∀ i : Nat, (i < 31 ∨ 33 < i) ∧ (i < 36 ∨ 37 < i) → σ' i = σ i) ∧ (∀ k : Nat, (k < 8 ∨ 8 < k) ∧ (k < 9 ∨ 9 < k) ∧ (k < 10 ∨ 10 < k) ∧ (k < 11 ∨ 11 < k) ∧ (k < 12 ∨ 12 < k) → σ' 31 k = σ 31 k) ∧ (jI31 σ') ∧ (jKb σ') ∧ (jKh σ') ∧ (jKg σ') ∧ (((σ' 31 12).toInt ≠ 0 ↔ (σ 22 1).toBitVec.getLsbD 5 = true)) ∧ ((σ' 31 9).toInt = A1) ∧ ((σ' 31 10).toInt = A2) ∧ (((σ' 31 11).toInt = 0 ∧ (σ 16 1).toInt - A2 ≤ 0) ∨ ((σ' 31 11).toInt = (σ 16 1).toInt - A2 ∧ 0 ≤ (σ 16 1).toInt - A2 ∧ (σ 16 1).toInt - A2 ≤ 8) ∨ ((σ' 31 11).toInt = 8 ∧ 8 ≤ (σ 16 1).toInt - A2)) ∧ True) := by
  refine jMv.of hJ (by decide +kernel) rfl (Nat.le_of_ble_eq_true rfl) ?_
  intro p e s m args below meth c Q ls hC hret hl hP
  obtain ⟨hx, hb, hr, hml, hown, hts, hK, -, hlocks, hZ⟩ := hC
  have hown : s.vm.findClass RX1 = some m.cls := hown
  have hS : va_S (jA ad) s.heap s.heap [] := va_S.rf
  have hA : ∀ q, jA ad q → jA ad q := fun _ h => h
  have hl : lv_has ls 9 [(0, .ref (ad 31)), (1, .int a1), (2, .int a2)] := hl
  have g1 := jrg t1
  have g2 := jrg t2
  obtain ⟨i1, i2, i3, w4⟩ : (1 ≤ (σ 16 0).toInt ∧ (σ 16 0).toInt ≤ 8) ∧ (1 ≤ (σ 16 1).toInt ∧ (σ 16 1).toInt ≤ 12) ∧ (0 ≤ (σ 16 2).toInt ∧ (σ 16 2).toInt ≤ 999) ∧ (∀ k : Nat, k < 8 → 0 ≤ (σ 17 k).toInt ∧ (σ 17 k).toInt ≤ 3) := id hI16
  obtain ⟨i5, i6, i7, i8, w9, w10, w11⟩ : (0 ≤ (σ 31 8).toInt ∧ (σ 31 8).toInt ≤ 350) ∧ (0 ≤ (σ 31 10).toInt ∧ (σ 31 10).toInt ≤ 12) ∧ (0 ≤ (σ 31 11).toInt ∧ (σ 31 11).toInt ≤ 8) ∧ ((σ 31 10).toInt + (σ 31 11).toInt ≤ 12) ∧ (∀ k : Nat, k < 1400 → (-1) ≤ (σ 33 k).toInt ∧ (σ 33 k).toInt ≤ 350) ∧ (∀ k : Nat, k < 3159 → (-1) ≤ (σ 35 k).toInt ∧ (σ 35 k).toInt ≤ 3) ∧ (∀ k : Nat, k < 1024 → 0 ≤ (σ 36 k).toInt ∧ (σ 36 k).toInt ≤ 349) := id hI31
  refine lv_iconst (v := 0) hx hb dX1_grow_0 (of_decide_eq_true rfl) ?_
  refine lv_bipush (v := 8) hx hb dX1_grow_1 (of_decide_eq_true rfl) ?_
  refine lv_aload_n hx hb dX1_grow_3 rfl (lv_at hl 0 rfl) ?_
  refine va_get (D := D) hx hb hts inlX1 hown hK hP 31 (jc_31 cI cL ad σ τ) rfl 1 (of_decide_eq_true rfl) (hts _ kw_5_11) (fun _ h9 => h9) rfl dX1_grow_4 ?_
  refine va_get (D := D) hx hb hts inlX6 hown hK hP 16 (jc_16 cI cL ad σ τ) rfl 1 (of_decide_eq_true rfl) (hts _ kw_28_3) (fun _ h9 => h9) rfl dX1_grow_7 ?_
  refine lv_iload_n hx hb dX1_grow_10 rfl (lv_at hl 2 rfl) ?_
  have g12 := jrg (rfl : (σ 16 1).toInt = (σ 16 1).toInt)
  refine lv_isub hx hb dX1_grow_11 ?_
  refine lv_topi (fun x13 ex13 => ?_)
  exact by
   have tx13 : x13.toInt = (σ 16 1).toInt - A2 := (jsub ex13 rfl t2 (by omega) (by omega)).trans (by omega)
   refine va_mmin hx hb (hml.trans hl.1.symm) hown (hts _ kw_28_4) (hts _ kw_22_11) (hts _ kw_21_1) (hts _ kw_22_12) (Nat.le_of_ble_eq_true rfl) (Nat.le_of_ble_eq_true rfl) (Nat.le_of_ble_eq_true rfl) (Nat.le_of_ble_eq_true rfl) dX1_grow_12 ?_
   refine lv_topi (fun x14 ex14 => ?_)
   have g15 := jmin ex14 jz_8 tx13
   refine va_mmax hx hb (hml.trans hl.1.symm) hown (hts _ kw_28_5) (hts _ kw_21_0) (hts _ kw_21_1) (hts _ kw_21_2) (Nat.le_of_ble_eq_true rfl) (Nat.le_of_ble_eq_true rfl) (Nat.le_of_ble_eq_true rfl) (Nat.le_of_ble_eq_true rfl) dX1_grow_15 ?_
   refine lv_topi (fun x16 ex16 => ?_)
   have g17 := jmax ex16 jz_0 rfl
   refine lv_istore_n (lv' := [(3, .int x16), (0, .ref (ad 31)), (1, .int a1), (2, .int a2)]) hx hb dX1_grow_18 rfl hl (of_decide_eq_true rfl) rfl (fun ls hl => ?_)
   refine lv_aload_n hx hb dX1_grow_19 rfl (lv_at hl 1 rfl) ?_
   refine va_get (D := D) hx hb hts inlX1 hown hK hP 31 (jc_31 cI cL ad σ τ) rfl 0 (of_decide_eq_true rfl) (hts _ kw_5_10) (fun _ h9 => h9) rfl dX1_grow_20 ?_
   refine va_get (D := D) hx hb hts inlX5 hown hK hP 26 (jc_26 cI cL ad σ τ) rfl 0 (of_decide_eq_true rfl) (hts _ kw_28_6) (fun _ h9 => h9) rfl dX1_grow_23 ?_
   refine lv_iconst (v := 5) hx hb dX1_grow_26 (of_decide_eq_true rfl) ?_
   exact by
    refine jcallV (As := [.int 5]) (rest := []) ⟨hx, hb, hml, hown, hts⟩ hK hP hA hS hZ (c_X10_uses_22 l D cI cL ad zz hJ σ τ 5 (5) jz_5 (by omega)) cw_RX1_104 (jc_22 cI cL ad σ τ) rfl ⟨Nat.le_of_ble_eq_true rfl, Nat.le_of_ble_eq_true rfl⟩ rfl rfl rfl hl.1 rfl (Nat.le_of_ble_eq_true rfl) dX1_grow_27 ⟨Nat.zero_le _, Nat.zero_le _⟩ (fun r19 σ18 τ18 H locs h18 hP hS => ?_)
    obtain ⟨⟨rfl, rfl⟩, w20, h18⟩ := h18
    rcases h18 with h21 | h22
    · obtain ⟨q24, k23⟩ := h21
      have q24 := q24.symm
      subst q24
      refine lv_istore (lv' := [(4, .int 1), (3, .int x16), (0, .ref (ad 31)), (1, .int a1), (2, .int a2)]) hx hb dX1_grow_30 hl (of_decide_eq_true rfl) rfl (fun ls hl => ?_)
      refine lv_aload_n hx hb dX1_grow_32 rfl (lv_at hl 2 rfl) ?_
      refine va_get (D := D) hx hb hts inlX1 hown hK hP 31 (jc_31 cI cL ad σ τ) rfl 9 (of_decide_eq_true rfl) (hts _ kw_5_9) (fun _ h9 => h9) rfl dX1_grow_33 ?_
      refine lv_iload_n hx hb dX1_grow_36 rfl (lv_at hl 3 rfl) ?_
      refine lv_icmp_ne (tgt := 63) hx hb dX1_grow_37 (of_decide_eq_true rfl) (fun c25 => ?_) (fun c25 => ?_)
      · have kc25 := jne c25 rfl t1
        refine lv_aload_n hx hb dX1_grow_63 rfl (lv_at hl 2 rfl) ?_
        refine lv_iload_n hx hb dX1_grow_64 rfl (lv_at hl 3 rfl) ?_
        refine jput (ty := .int) hx hb hts inlX1 tyX1 tyX1_ok nmX1 hown hK hP hJ hA hS (jc_31 cI cL ad σ τ) rfl (k := 9) (of_decide_eq_true rfl) (Nat.le_of_ble_eq_true rfl) (jp_31_9 cI cL ad σ τ a1) (hts _ kw_5_9) (fun _ h9 => h9) rfl (by decide +kernel) rfl rfl dX1_grow_65 (fun σ26 H locs eσ26 hP hS => ?_)
        refine lv_aload_n hx hb dX1_grow_68 rfl (lv_at hl 2 rfl) ?_
        refine lv_iload_n hx hb dX1_grow_69 rfl (lv_at hl 4 rfl) ?_
        refine jput (ty := .int) hx hb hts inlX1 tyX1 tyX1_ok nmX1 hown hK hP hJ hA hS (jc_31 cI cL ad σ26 τ) rfl (k := 10) (of_decide_eq_true rfl) (Nat.le_of_ble_eq_true rfl) (jp_31_10 cI cL ad σ26 τ a2) (hts _ kw_28_9) (fun _ h9 => h9) rfl (by decide +kernel) rfl rfl dX1_grow_70 (fun σ27 H locs eσ27 hP hS => ?_)
        refine lv_aload_n hx hb dX1_grow_73 rfl (lv_at hl 2 rfl) ?_
        refine lv_iload_n hx hb dX1_grow_74 rfl (lv_at hl 1 rfl) ?_
        refine jput (ty := .int) hx hb hts inlX1 tyX1 tyX1_ok nmX1 hown hK hP hJ hA hS (jc_31 cI cL ad σ27 τ) rfl (k := 11) (of_decide_eq_true rfl) (Nat.le_of_ble_eq_true rfl) (jp_31_11 cI cL ad σ27 τ x16) (hts _ kw_28_7) (fun _ h9 => h9) rfl (by decide +kernel) rfl rfl dX1_grow_75 (fun σ28 H locs eσ28 hP hS => ?_)
        refine lv_aload_n hx hb dX1_grow_78 rfl (lv_at hl 2 rfl) ?_
        refine lv_iload hx hb dX1_grow_79 (lv_at hl 0 rfl) ?_
        refine jput (ty := .boolean) hx hb hts inlX1 tyX1 tyX1_ok nmX1 hown hK hP hJ hA hS (jc_31 cI cL ad σ28 τ) rfl (k := 12) (of_decide_eq_true rfl) (Nat.le_of_ble_eq_true rfl) (jp_31_12 cI cL ad σ28 τ 1) (hts _ kw_28_8) (fun _ h9 => h9) rfl (by decide +kernel) rfl rfl dX1_grow_81 (fun σ29 H locs eσ29 hP hS => ?_)
        refine lv_aload_n hx hb dX1_grow_84 rfl (lv_at hl 2 rfl) ?_
        refine lv_iconst (v := 0) hx hb dX1_grow_85 (of_decide_eq_true rfl) ?_
        refine jput (ty := .int) hx hb hts inlX1 tyX1 tyX1_ok nmX1 hown hK hP hJ hA hS (jc_31 cI cL ad σ29 τ) rfl (k := 8) (of_decide_eq_true rfl) (Nat.le_of_ble_eq_true rfl) (jp_31_8 cI cL ad σ29 τ 0) (hts _ kw_27_22) (fun _ h9 => h9) rfl (by decide +kernel) rfl rfl dX1_grow_86 (fun σ30 H locs eσ30 hP hS => ?_)
        have z31 : (σ30 31 8).toInt = 0 := ((congrArg Int32.toInt (show σ30 31 8 = 0 from (jsp eσ30))).trans jz_0)
        exact by
         have p32 : jKb σ30 := (jKb.nil (by omega))
         have p33 : jKh σ30 := (jKh.nil (by omega))
         refine lv_aload_n hx hb dX1_grow_89 rfl (lv_at hl 2 rfl) ?_
         refine lv_iload_n hx hb dX1_grow_90 rfl (lv_at hl 3 rfl) ?_
         refine lv_iconst (v := 0) hx hb dX1_grow_91 (of_decide_eq_true rfl) ?_
         have z34 : (σ30 31 10).toInt = A2 := ((congrArg Int32.toInt (show σ30 31 10 = a2 from ((jkp 10 eσ30 (of_decide_eq_true rfl)).trans ((jkp 10 eσ29 (of_decide_eq_true rfl)).trans ((jkp 10 eσ28 (of_decide_eq_true rfl)).trans (jsp eσ27)))))).trans t2)
         have z35 : (σ30 31 11).toInt = x16.toInt := (congrArg Int32.toInt (show σ30 31 11 = x16 from ((jkp 11 eσ30 (of_decide_eq_true rfl)).trans ((jkp 11 eσ29 (of_decide_eq_true rfl)).trans (jsp eσ28)))))
         have w36 : ∀ k : Nat, k < 1400 → (-1) ≤ (σ30 33 k).toInt ∧ (σ30 33 k).toInt ≤ 350 := (jrr_fr (jnp 33 eσ30 (of_decide_eq_true rfl)) (jrr_fr (jnp 33 eσ29 (of_decide_eq_true rfl)) (jrr_fr (jnp 33 eσ28 (of_decide_eq_true rfl)) (jrr_fr (jnp 33 eσ27 (of_decide_eq_true rfl)) (jrr_fr (jnp 33 eσ26 (of_decide_eq_true rfl)) w9)))))
         have w37 : ∀ k : Nat, k < 3159 → (-1) ≤ (σ30 35 k).toInt ∧ (σ30 35 k).toInt ≤ 3 := (jrr_fr (jnp 35 eσ30 (of_decide_eq_true rfl)) (jrr_fr (jnp 35 eσ29 (of_decide_eq_true rfl)) (jrr_fr (jnp 35 eσ28 (of_decide_eq_true rfl)) (jrr_fr (jnp 35 eσ27 (of_decide_eq_true rfl)) (jrr_fr (jnp 35 eσ26 (of_decide_eq_true rfl)) w10)))))
         exact by
          have w38 : ∀ k : Nat, k < 1024 → 0 ≤ (σ30 36 k).toInt ∧ (σ30 36 k).toInt ≤ 349 := (jrr_fr (jnp 36 eσ30 (of_decide_eq_true rfl)) (jrr_fr (jnp 36 eσ29 (of_decide_eq_true rfl)) (jrr_fr (jnp 36 eσ28 (of_decide_eq_true rfl)) (jrr_fr (jnp 36 eσ27 (of_decide_eq_true rfl)) (jrr_fr (jnp 36 eσ26 (of_decide_eq_true rfl)) w11)))))
          have I39 : jI31 σ30 := ⟨(by omega), (by omega), (by omega), (by omega), w36, w37, w38⟩
          refine jcallV (As := [.int a1, .int 0]) (rest := []) ⟨hx, hb, hml, hown, hts⟩ hK hP hA hS hZ (c_X1_add_31 l D cI cL ad zz hJ σ30 τ a1 (A1) t1 0 (0) jz_0 I39 p32 p33 (by omega) (by omega)) cw_RX1_111 (jc_31 cI cL ad σ30 τ) rfl ⟨Nat.le_of_ble_eq_true rfl, Nat.le_of_ble_eq_true rfl⟩ rfl rfl rfl hl.1 rfl (Nat.le_of_ble_eq_true rfl) dX1_grow_92 ⟨Nat.zero_le _, Nat.zero_le _⟩ (fun r41 σ40 τ40 H locs h40 hP hS => ?_)
          obtain ⟨rfl, f42, f43, I44, p45, p46, w47, h40⟩ := h40
          obtain ⟨i49, i50, i51, i52, w53, w54, w55⟩ : (0 ≤ (σ40 31 8).toInt ∧ (σ40 31 8).toInt ≤ 350) ∧ (0 ≤ (σ40 31 10).toInt ∧ (σ40 31 10).toInt ≤ 12) ∧ (0 ≤ (σ40 31 11).toInt ∧ (σ40 31 11).toInt ≤ 8) ∧ ((σ40 31 10).toInt + (σ40 31 11).toInt ≤ 12) ∧ (∀ k : Nat, k < 1400 → (-1) ≤ (σ40 33 k).toInt ∧ (σ40 33 k).toInt ≤ 350) ∧ (∀ k : Nat, k < 3159 → (-1) ≤ (σ40 35 k).toInt ∧ (σ40 35 k).toInt ≤ 3) ∧ (∀ k : Nat, k < 1024 → 0 ≤ (σ40 36 k).toInt ∧ (σ40 36 k).toInt ≤ 349) := id I44
          have z56 : (σ40 31 10).toInt = A2 := ((congrArg Int32.toInt (show σ40 31 10 = a2 from ((f43 10 (of_decide_eq_true rfl)).trans ((jkp 10 eσ30 (of_decide_eq_true rfl)).trans ((jkp 10 eσ29 (of_decide_eq_true rfl)).trans ((jkp 10 eσ28 (of_decide_eq_true rfl)).trans (jsp eσ27))))))).trans t2)
          have z57 : (σ40 31 11).toInt = x16.toInt := (congrArg Int32.toInt (show σ40 31 11 = x16 from ((f43 11 (of_decide_eq_true rfl)).trans ((jkp 11 eσ30 (of_decide_eq_true rfl)).trans ((jkp 11 eσ29 (of_decide_eq_true rfl)).trans (jsp eσ28))))))
          have h58 := h40
          obtain ⟨q60, k59⟩ := h58
          exact by
           refine lv_pop hx hb dX1_grow_95 rfl ?_
           refine lv_iconst (v := 0) hx hb dX1_grow_96 (of_decide_eq_true rfl) ?_
           refine lv_istore (lv' := [(5, .int 0), (4, .int 1), (3, .int x16), (0, .ref (ad 31)), (1, .int a1), (2, .int a2)]) hx hb dX1_grow_97 hl (of_decide_eq_true rfl) rfl (fun ls hl => ?_)
           have lp61 : ∀ (n62 : Nat) (x63 : Int32) (σ67 : Nat → Nat → Int32) (H : Heap) (locs : List Loc) (ls : Array Slot), (-x63.toInt + 350 : Int) < n62 → 0 ≤ x63.toInt → x63.toInt ≤ 350 → (∀ i : Nat, (i < 31 ∨ 33 < i) ∧ (i < 36 ∨ 37 < i) → σ67 i = σ40 i) → (∀ k : Nat, (k < 8 ∨ 8 < k) → σ67 31 k = σ40 31 k) → jKb σ67 → jKh σ67 → jI31 σ67 → (jFm a1 → jqGo a1 (decide ((σ67 31 12).toInt ≠ 0)) (σ67 31 11).toInt (σ67 31 8).toInt (σ67 32) (σ67 33) x63.toInt 0) → jH D cI cL ad σ67 τ H → va_S (jA ad) s.heap H locs → lv_has ls 9 [(5, .int x63), (4, .int 1), (3, .int x16), (0, .ref (ad 31)), (1, .int a1), (2, .int a2)] → W p l e ({ frames := 3, cells := 0, slots := 0, locals := 73 }) s m args below meth c H locs 0 0 Q (F0 m 99 ls []) := by
             intro n62
             induction n62 with
             | zero => intro x63 σ67 H locs ls h69 h70 h71; exact absurd h69 (by omega)
             | succ n62 ihlp61 =>
               intro x63 σ67 H locs ls h69 h70 h71 f72 f73 p74 p75 p76 q77 hP hS hl
               exact by
                obtain ⟨i78, i79, i80, i81, w82, w83, w84⟩ : (0 ≤ (σ67 31 8).toInt ∧ (σ67 31 8).toInt ≤ 350) ∧ (0 ≤ (σ67 31 10).toInt ∧ (σ67 31 10).toInt ≤ 12) ∧ (0 ≤ (σ67 31 11).toInt ∧ (σ67 31 11).toInt ≤ 8) ∧ ((σ67 31 10).toInt + (σ67 31 11).toInt ≤ 12) ∧ (∀ k : Nat, k < 1400 → (-1) ≤ (σ67 33 k).toInt ∧ (σ67 33 k).toInt ≤ 350) ∧ (∀ k : Nat, k < 3159 → (-1) ≤ (σ67 35 k).toInt ∧ (σ67 35 k).toInt ≤ 3) ∧ (∀ k : Nat, k < 1024 → 0 ≤ (σ67 36 k).toInt ∧ (σ67 36 k).toInt ≤ 349) := id p76
                have z85 : (σ67 31 10).toInt = A2 := ((congrArg Int32.toInt (show σ67 31 10 = a2 from ((f73 10 (of_decide_eq_true rfl)).trans ((f43 10 (of_decide_eq_true rfl)).trans ((jkp 10 eσ30 (of_decide_eq_true rfl)).trans ((jkp 10 eσ29 (of_decide_eq_true rfl)).trans ((jkp 10 eσ28 (of_decide_eq_true rfl)).trans (jsp eσ27)))))))).trans t2)
                have z86 : (σ67 31 11).toInt = x16.toInt := (congrArg Int32.toInt (show σ67 31 11 = x16 from ((f73 11 (of_decide_eq_true rfl)).trans ((f43 11 (of_decide_eq_true rfl)).trans ((jkp 11 eσ30 (of_decide_eq_true rfl)).trans ((jkp 11 eσ29 (of_decide_eq_true rfl)).trans (jsp eσ28)))))))
                refine lv_iload hx hb dX1_grow_99 (lv_at hl 0 rfl) ?_
                refine lv_aload_n hx hb dX1_grow_101 rfl (lv_at hl 3 rfl) ?_
                refine va_get (D := D) hx hb hts inlX1 hown hK hP 31 (jc_31 cI cL ad σ67 τ) rfl 8 (of_decide_eq_true rfl) (hts _ kw_27_22) (fun _ h9 => h9) rfl dX1_grow_102 ?_
                refine lv_icmp_ge (tgt := 202) hx hb dX1_grow_105 (of_decide_eq_true rfl) (fun c87 => ?_) (fun c87 => ?_)
                · have kc87 := jle c87 rfl rfl
                  have p88 : jKg σ67 := (show jFm (σ67 31 9) → _ from by rw [show σ67 31 9 = a1 from ((f73 9 (of_decide_eq_true rfl)).trans ((f43 9 (of_decide_eq_true rfl)).trans ((jkp 9 eσ30 (of_decide_eq_true rfl)).trans ((jkp 9 eσ29 (of_decide_eq_true rfl)).trans ((jkp 9 eσ28 (of_decide_eq_true rfl)).trans ((jkp 9 eσ27 (of_decide_eq_true rfl)).trans (jsp eσ26)))))))]; exact fun hm => (q77 hm).fin (by omega))
                  exact by
                   have z89 : (σ67 31 9).toInt = A1 := ((congrArg Int32.toInt (show σ67 31 9 = a1 from ((f73 9 (of_decide_eq_true rfl)).trans ((f43 9 (of_decide_eq_true rfl)).trans ((jkp 9 eσ30 (of_decide_eq_true rfl)).trans ((jkp 9 eσ29 (of_decide_eq_true rfl)).trans ((jkp 9 eσ28 (of_decide_eq_true rfl)).trans ((jkp 9 eσ27 (of_decide_eq_true rfl)).trans (jsp eσ26))))))))).trans t1)
                   exact by exact hret σ67 τ _ _ _ _ ⟨rfl, (fun i hi => ((f72 i hi).trans ((f42 i (imp_86 i hi)).trans ((jnp i eσ30 (imp_87 i hi)).trans ((jnp i eσ29 (imp_87 i hi)).trans ((jnp i eσ28 (imp_87 i hi)).trans ((jnp i eσ27 (imp_87 i hi)).trans (jnp i eσ26 (imp_87 i hi))))))))), (fun i hi => ((f73 i (imp_88 i hi)).trans ((f43 i (imp_88 i hi)).trans ((jkp i eσ30 (imp_89 i hi)).trans ((jkp i eσ29 (imp_90 i hi)).trans ((jkp i eσ28 (imp_91 i hi)).trans ((jkp i eσ27 (imp_92 i hi)).trans (jkp i eσ26 (imp_93 i hi))))))))), p76, p74, p75, p88, (by rw [show σ67 31 12 = 1 from ((f73 12 (of_decide_eq_true rfl)).trans ((f43 12 (of_decide_eq_true rfl)).trans ((jkp 12 eσ30 (of_decide_eq_true rfl)).trans (jsp eσ29))))]; exact w20), (by omega), (by omega), (by omega), trivial⟩ hP hS dX1_grow_202
                · have kc87 := jnle c87 rfl rfl
                  refine lv_iload hx hb dX1_grow_108 (lv_at hl 0 rfl) ?_
                  refine lv_sipush (v := 350) hx hb dX1_grow_110 (of_decide_eq_true rfl) ?_
                  refine lv_icmp_ge (tgt := 202) hx hb dX1_grow_113 (of_decide_eq_true rfl) (fun c => absurd (jle c jz_350 rfl) (by omega)) (fun c90 => ?_)
                  have kc90 := jnle c90 jz_350 rfl
                  refine lv_aload_n hx hb dX1_grow_116 rfl (lv_at hl 3 rfl) ?_
                  refine va_get (D := D) hx hb hts inlX1 hown hK hP 31 (jc_31 cI cL ad σ67 τ) rfl 2 (of_decide_eq_true rfl) (hts _ kw_5_3) (fun _ h9 => h9) rfl dX1_grow_117 ?_
                  exact by
                   refine lv_iload hx hb dX1_grow_120 (lv_at hl 0 rfl) ?_
                   refine jald hx hb hK hP (jc_32 cI cL ad σ67 τ) (jin rfl (by omega) (by omega)) dX1_grow_122 ?_
                   refine jtopr (y := (σ67 32 x63.toNatClampNeg)) rfl ?_
                   refine lv_ldc (v := 134217727) hx hb hown (hts _ kw_28_10) dX1_grow_123 ?_
                   refine lv_iand hx hb dX1_grow_125 ?_
                   refine lv_topi (fun x91 ex91 => ?_)
                   have gx91 := jrg (rfl : x91.toInt = x91.toInt)
                   have g92 : 0 ≤ x91.toInt ∧ x91.toInt ≤ 134217727 := jmask ex91 27 (of_decide_eq_true rfl) (of_decide_eq_true rfl)
                   refine lv_istore (lv' := [(6, .int x91), (5, .int x63), (4, .int 1), (3, .int x16), (0, .ref (ad 31)), (1, .int a1), (2, .int a2)]) hx hb dX1_grow_126 hl (of_decide_eq_true rfl) rfl (fun ls hl => ?_)
                   exact by
                    refine lv_aload_n hx hb dX1_grow_128 rfl (lv_at hl 4 rfl) ?_
                    refine va_get (D := D) hx hb hts inlX1 hown hK hP 31 (jc_31 cI cL ad σ67 τ) rfl 2 (of_decide_eq_true rfl) (hts _ kw_5_3) (fun _ h9 => h9) rfl dX1_grow_129 ?_
                    refine lv_iload hx hb dX1_grow_132 (lv_at hl 1 rfl) ?_
                    refine jald hx hb hK hP (jc_32 cI cL ad σ67 τ) (jin rfl (by omega) (by omega)) dX1_grow_134 ?_
                    refine jtopr (y := (σ67 32 x63.toNatClampNeg)) rfl ?_
                    refine lv_bipush (v := 27) hx hb dX1_grow_135 (of_decide_eq_true rfl) ?_
                    refine lv_ishr hx hb dX1_grow_137 ?_
                    refine lv_topi (fun x93 ex93 => ?_)
                    have gx93 := jrg (rfl : x93.toInt = x93.toInt)
                    exact by
                     have k94 := jshr27 (x := x93) (k := (σ67 32 x63.toNatClampNeg)) (by rw [ex93])
                     have k95 := p74 x63.toNatClampNeg (by rw [jnc (rfl : x63.toInt = x63.toInt)]; omega)
                     refine lv_istore (lv' := [(7, .int x93), (6, .int x91), (5, .int x63), (4, .int 1), (3, .int x16), (0, .ref (ad 31)), (1, .int a1), (2, .int a2)]) hx hb dX1_grow_138 hl (of_decide_eq_true rfl) rfl (fun ls hl => ?_)
                     refine lv_iconst (v := 0) hx hb dX1_grow_140 (of_decide_eq_true rfl) ?_
                     refine lv_istore (lv' := [(8, .int 0), (7, .int x93), (6, .int x91), (5, .int x63), (4, .int 1), (3, .int x16), (0, .ref (ad 31)), (1, .int a1), (2, .int a2)]) hx hb dX1_grow_141 hl (of_decide_eq_true rfl) rfl (fun ls hl => ?_)
                     have lp96 : ∀ (n97 : Nat) (x98 : Int32) (σ99 : Nat → Nat → Int32) (H : Heap) (locs : List Loc) (ls : Array Slot), (-x98.toInt + 4 : Int) < n97 → 0 ≤ x98.toInt → x98.toInt ≤ 4 → (∀ i : Nat, (i < 31 ∨ 33 < i) ∧ (i < 36 ∨ 37 < i) → σ99 i = σ67 i) → (∀ k : Nat, (k < 8 ∨ 8 < k) → σ99 31 k = σ67 31 k) → jKb σ99 → jKh σ99 → jI31 σ99 → ((jFm a1 → jqGo a1 (decide ((σ99 31 12).toInt ≠ 0)) (σ99 31 11).toInt (σ99 31 8).toInt (σ99 32) (σ99 33) x63.toInt x98.toInt) ∧ jqNo (σ99 32 x63.toInt.toNat) x91 x93.toInt ∧ x63.toInt < (σ99 31 8).toInt) → jH D cI cL ad σ99 τ H → va_S (jA ad) s.heap H locs → lv_has ls 9 [(8, .int x98), (7, .int x93), (6, .int x91), (5, .int x63), (4, .int 1), (3, .int x16), (0, .ref (ad 31)), (1, .int a1), (2, .int a2)] → W p l e ({ frames := 3, cells := 0, slots := 0, locals := 73 }) s m args below meth c H locs 0 0 Q (F0 m 143 ls []) := by
                       intro n97
                       induction n97 with
                       | zero => intro x98 σ99 H locs ls h101 h102 h103; exact absurd h101 (by omega)
                       | succ n97 ihlp96 =>
                         intro x98 σ99 H locs ls h101 h102 h103 f104 f105 p106 p107 p108 q109 hP hS hl
                         exact by
                          obtain ⟨i110, i111, i112, i113, w114, w115, w116⟩ : (0 ≤ (σ99 31 8).toInt ∧ (σ99 31 8).toInt ≤ 350) ∧ (0 ≤ (σ99 31 10).toInt ∧ (σ99 31 10).toInt ≤ 12) ∧ (0 ≤ (σ99 31 11).toInt ∧ (σ99 31 11).toInt ≤ 8) ∧ ((σ99 31 10).toInt + (σ99 31 11).toInt ≤ 12) ∧ (∀ k : Nat, k < 1400 → (-1) ≤ (σ99 33 k).toInt ∧ (σ99 33 k).toInt ≤ 350) ∧ (∀ k : Nat, k < 3159 → (-1) ≤ (σ99 35 k).toInt ∧ (σ99 35 k).toInt ≤ 3) ∧ (∀ k : Nat, k < 1024 → 0 ≤ (σ99 36 k).toInt ∧ (σ99 36 k).toInt ≤ 349) := id p108
                          have z117 : (σ99 31 10).toInt = A2 := ((congrArg Int32.toInt (show σ99 31 10 = a2 from ((f105 10 (of_decide_eq_true rfl)).trans ((f73 10 (of_decide_eq_true rfl)).trans ((f43 10 (of_decide_eq_true rfl)).trans ((jkp 10 eσ30 (of_decide_eq_true rfl)).trans ((jkp 10 eσ29 (of_decide_eq_true rfl)).trans ((jkp 10 eσ28 (of_decide_eq_true rfl)).trans (jsp eσ27))))))))).trans t2)
                          have z118 : (σ99 31 11).toInt = x16.toInt := (congrArg Int32.toInt (show σ99 31 11 = x16 from ((f105 11 (of_decide_eq_true rfl)).trans ((f73 11 (of_decide_eq_true rfl)).trans ((f43 11 (of_decide_eq_true rfl)).trans ((jkp 11 eσ30 (of_decide_eq_true rfl)).trans ((jkp 11 eσ29 (of_decide_eq_true rfl)).trans (jsp eσ28))))))))
                          refine lv_iload hx hb dX1_grow_143 (lv_at hl 0 rfl) ?_
                          refine lv_iconst (v := 4) hx hb dX1_grow_145 (of_decide_eq_true rfl) ?_
                          refine lv_icmp_ge (tgt := 196) hx hb dX1_grow_146 (of_decide_eq_true rfl) (fun c119 => ?_) (fun c119 => ?_)
                          · have kc119 := jle c119 jz_4 rfl
                            obtain ⟨x120, ex120⟩ : ∃ y : Int32, y = x63 + 1 := ⟨_, rfl⟩
                            have tx120 : x120.toInt = x63.toInt + 1 := (jadd ex120 rfl jz_1 (by omega) (by omega)).trans (by omega)
                            exact by
                             refine lv_iinc (v := x120) (lv' := [(5, .int x120), (8, .int x98), (7, .int x93), (6, .int x91), (4, .int 1), (3, .int x16), (0, .ref (ad 31)), (1, .int a1), (2, .int a2)]) hx hb dX1_grow_196 hl (k := 3) rfl (by rw [ex120]; rfl) (of_decide_eq_true rfl) rfl (fun ls hl => ?_)
                             refine lv_goto (tgt := 99) hx hb dX1_grow_199 (of_decide_eq_true rfl) ?_
                             exact by exact ihlp61 x120 σ99 _ _ ls (by have h90 := tx120; omega) (by have h90 := tx120; omega) (by have h90 := tx120; omega) (fun i hi => ((f104 i hi).trans (f72 i hi))) (fun i hi => ((f105 i hi).trans (f73 i hi)))  p106 p107 p108 (fun hm => jqGo.row (q109.1 hm) (by omega) (by have h9 := tx120; omega) (by omega) q109.2.2) hP hS (lv_sub hl [0, 4, 5, 6, 7, 8] rfl)
                          · have kc119 := jnle c119 jz_4 rfl
                            refine lv_aload_n hx hb dX1_grow_149 rfl (lv_at hl 6 rfl) ?_
                            refine va_get (D := D) hx hb hts inlX1 hown hK hP 31 (jc_31 cI cL ad σ99 τ) rfl 3 (of_decide_eq_true rfl) (hts _ kw_5_4) (fun _ h9 => h9) rfl dX1_grow_150 ?_
                            refine lv_iload hx hb dX1_grow_153 (lv_at hl 3 rfl) ?_
                            refine lv_iconst (v := 4) hx hb dX1_grow_155 (of_decide_eq_true rfl) ?_
                            have g121 := jrg (rfl : x63.toInt = x63.toInt)
                            refine lv_imul hx hb dX1_grow_156 ?_
                            refine lv_topi (fun x122 ex122 => ?_)
                            exact by
                             have tx122 : x122.toInt = 4 * x63.toInt := (jmul ex122 rfl jz_4 (by omega) (by omega)).trans (by omega)
                             refine lv_iload hx hb dX1_grow_157 (lv_at hl 0 rfl) ?_
                             have g123 := jrg (rfl : x98.toInt = x98.toInt)
                             refine lv_iadd hx hb dX1_grow_159 ?_
                             refine lv_topi (fun x124 ex124 => ?_)
                             have tx124 : x124.toInt = 4 * x63.toInt + x98.toInt := (jadd ex124 tx122 rfl (by omega) (by omega)).trans (by omega)
                             refine lv_iload hx hb dX1_grow_160 (lv_at hl 2 rfl) ?_
                             refine lv_iload hx hb dX1_grow_162 (lv_at hl 0 rfl) ?_
                             refine jcallS (As := [.int x91, .int x98]) (rest := [.int x124, .ref (ad 33)]) ⟨hx, hb, hml, hown, hts⟩ hK hP hA hS hZ (c_X0_mayBowl l D cI cL ad zz hJ σ99 τ x91 (x91.toInt) rfl x98 (x98.toInt) rfl) cw_RX1_115 ⟨Nat.le_of_ble_eq_true rfl, Nat.le_of_ble_eq_true rfl⟩ rfl rfl rfl hl.1 rfl (Nat.le_of_ble_eq_true rfl) dX1_grow_164 ⟨Nat.zero_le _, Nat.zero_le _⟩ (fun r126 σ125 τ125 H locs h125 hP hS => ?_)
                             exact by
                              obtain ⟨⟨rfl, rfl⟩, w127, h125⟩ := h125
                              rcases h125 with h128 | h129
                              · obtain ⟨q131, k130⟩ := h128
                                have q131 := q131.symm
                                subst q131
                                refine lv_if_eq (tgt := 188) hx hb dX1_grow_167 (of_decide_eq_true rfl) (fun c => absurd c (of_decide_eq_true rfl)) (fun _ => ?_)
                                refine lv_aload_n hx hb dX1_grow_170 rfl (lv_at hl 6 rfl) ?_
                                refine lv_iload hx hb dX1_grow_171 (lv_at hl 2 rfl) ?_
                                refine lv_iload hx hb dX1_grow_173 (lv_at hl 0 rfl) ?_
                                exact by
                                 refine jcallS (As := [.int x91, .int x98]) (rest := [.ref (ad 31), .int x124, .ref (ad 33)]) ⟨hx, hb, hml, hown, hts⟩ hK hP hA hS hZ (c_X0_after_r l D cI cL ad zz hJ σ99 τ x91 (x91.toInt) rfl x98 (x98.toInt) rfl (by omega)) cw_RX1_119 ⟨Nat.le_of_ble_eq_true rfl, Nat.le_of_ble_eq_true rfl⟩ rfl rfl rfl hl.1 rfl (Nat.le_of_ble_eq_true rfl) dX1_grow_175 ⟨Nat.zero_le _, Nat.zero_le _⟩ (fun r133 σ132 τ132 H locs h132 hP hS => ?_)
                                 obtain ⟨⟨rfl, rfl⟩, w134, w135, h132⟩ := h132
                                 have h136 := h132
                                 obtain ⟨q138, k137⟩ := h136
                                 refine lv_iload hx hb dX1_grow_178 (lv_at hl 1 rfl) ?_
                                 refine lv_iconst (v := 1) hx hb dX1_grow_180 (of_decide_eq_true rfl) ?_
                                 have g139 := jrg (rfl : x93.toInt = x93.toInt)
                                 refine lv_iadd hx hb dX1_grow_181 ?_
                                 refine lv_topi (fun x140 ex140 => ?_)
                                 exact by
                                  have tx140 : x140.toInt = x93.toInt + 1 := (jadd ex140 rfl jz_1 (by omega) (by omega)).trans (by omega)
                                  refine jcallV (As := [.int r133, .int x140]) (rest := [.int x124, .ref (ad 33)]) ⟨hx, hb, hml, hown, hts⟩ hK hP hA hS hZ (c_X1_add_31 l D cI cL ad zz hJ σ99 τ r133 (r133.toInt) rfl x140 (x93.toInt + 1) tx140 p108 p106 p107 (by omega) (by omega)) cw_RX1_111 (jc_31 cI cL ad σ99 τ) rfl ⟨Nat.le_of_ble_eq_true rfl, Nat.le_of_ble_eq_true rfl⟩ rfl rfl rfl hl.1 rfl (Nat.le_of_ble_eq_true rfl) dX1_grow_182 ⟨Nat.zero_le _, Nat.zero_le _⟩ (fun r142 σ141 τ141 H locs h141 hP hS => ?_)
                                  obtain ⟨rfl, f143, f144, I145, p146, p147, w148, h141⟩ := h141
                                  obtain ⟨i150, i151, i152, i153, w154, w155, w156⟩ : (0 ≤ (σ141 31 8).toInt ∧ (σ141 31 8).toInt ≤ 350) ∧ (0 ≤ (σ141 31 10).toInt ∧ (σ141 31 10).toInt ≤ 12) ∧ (0 ≤ (σ141 31 11).toInt ∧ (σ141 31 11).toInt ≤ 8) ∧ ((σ141 31 10).toInt + (σ141 31 11).toInt ≤ 12) ∧ (∀ k : Nat, k < 1400 → (-1) ≤ (σ141 33 k).toInt ∧ (σ141 33 k).toInt ≤ 350) ∧ (∀ k : Nat, k < 3159 → (-1) ≤ (σ141 35 k).toInt ∧ (σ141 35 k).toInt ≤ 3) ∧ (∀ k : Nat, k < 1024 → 0 ≤ (σ141 36 k).toInt ∧ (σ141 36 k).toInt ≤ 349) := id I145
                                  have z157 : (σ141 31 10).toInt = A2 := ((congrArg Int32.toInt (show σ141 31 10 = a2 from ((f144 10 (of_decide_eq_true rfl)).trans ((f105 10 (of_decide_eq_true rfl)).trans ((f73 10 (of_decide_eq_true rfl)).trans ((f43 10 (of_decide_eq_true rfl)).trans ((jkp 10 eσ30 (of_decide_eq_true rfl)).trans ((jkp 10 eσ29 (of_decide_eq_true rfl)).trans ((jkp 10 eσ28 (of_decide_eq_true rfl)).trans (jsp eσ27)))))))))).trans t2)
                                  have z158 : (σ141 31 11).toInt = x16.toInt := (congrArg Int32.toInt (show σ141 31 11 = x16 from ((f144 11 (of_decide_eq_true rfl)).trans ((f105 11 (of_decide_eq_true rfl)).trans ((f73 11 (of_decide_eq_true rfl)).trans ((f43 11 (of_decide_eq_true rfl)).trans ((jkp 11 eσ30 (of_decide_eq_true rfl)).trans ((jkp 11 eσ29 (of_decide_eq_true rfl)).trans (jsp eσ28)))))))))
                                  have h159 := h141
                                  obtain ⟨q161, k160⟩ := h159
                                  refine lv_goto (tgt := 189) hx hb dX1_grow_185 (of_decide_eq_true rfl) ?_
                                  exact by
                                   refine jast hx hb hK hP hJ hA hS (jc_33 cI cL ad σ141 τ) (ja_33 cI cL ad σ141 τ _ _) (jin tx124 (by omega) (by omega)) dX1_grow_189 (fun σ162 H locs eσ162 hP hS => ?_)
                                   obtain ⟨x163, ex163⟩ : ∃ y : Int32, y = x98 + 1 := ⟨_, rfl⟩
                                   have tx163 : x163.toInt = x98.toInt + 1 := (jadd ex163 rfl jz_1 (by omega) (by omega)).trans (by omega)
                                   refine lv_iinc (v := x163) (lv' := [(8, .int x163), (7, .int x93), (6, .int x91), (5, .int x63), (4, .int 1), (3, .int x16), (0, .ref (ad 31)), (1, .int a1), (2, .int a2)]) hx hb dX1_grow_190 hl (k := 0) rfl (by rw [ex163]; rfl) (of_decide_eq_true rfl) rfl (fun ls hl => ?_)
                                   refine lv_goto (tgt := 143) hx hb dX1_grow_193 (of_decide_eq_true rfl) ?_
                                   have p164 : jKb σ162 := jKb.fr (congrFun (jnp 31 eσ162 (of_decide_eq_true rfl)) 8) (congrFun (jnp 31 eσ162 (of_decide_eq_true rfl)) 11) (jnp 32 eσ162 (of_decide_eq_true rfl)) p146
                                   have p165 : jKh σ162 := jKh.fr (congrFun (jnp 31 eσ162 (of_decide_eq_true rfl)) 8) (jnp 32 eσ162 (of_decide_eq_true rfl)) (jnp 36 eσ162 (of_decide_eq_true rfl)) (jnp 37 eσ162 (of_decide_eq_true rfl)) p147
                                   have z166 : (σ162 31 8).toInt = (σ141 31 8).toInt := (congrArg Int32.toInt (show σ162 31 8 = (σ141 31 8) from (congrFun (jnp 31 eσ162 (of_decide_eq_true rfl)) 8)))
                                   have z167 : (σ162 31 10).toInt = A2 := ((congrArg Int32.toInt (show σ162 31 10 = a2 from ((congrFun (jnp 31 eσ162 (of_decide_eq_true rfl)) 10).trans ((f144 10 (of_decide_eq_true rfl)).trans ((f105 10 (of_decide_eq_true rfl)).trans ((f73 10 (of_decide_eq_true rfl)).trans ((f43 10 (of_decide_eq_true rfl)).trans ((jkp 10 eσ30 (of_decide_eq_true rfl)).trans ((jkp 10 eσ29 (of_decide_eq_true rfl)).trans ((jkp 10 eσ28 (of_decide_eq_true rfl)).trans (jsp eσ27))))))))))).trans t2)
                                   exact by
                                    have z168 : (σ162 31 11).toInt = x16.toInt := (congrArg Int32.toInt (show σ162 31 11 = x16 from ((congrFun (jnp 31 eσ162 (of_decide_eq_true rfl)) 11).trans ((f144 11 (of_decide_eq_true rfl)).trans ((f105 11 (of_decide_eq_true rfl)).trans ((f73 11 (of_decide_eq_true rfl)).trans ((f43 11 (of_decide_eq_true rfl)).trans ((jkp 11 eσ30 (of_decide_eq_true rfl)).trans ((jkp 11 eσ29 (of_decide_eq_true rfl)).trans (jsp eσ28))))))))))
                                    have w169 : ∀ k : Nat, k < 1400 → (-1) ≤ (σ162 33 k).toInt ∧ (σ162 33 k).toInt ≤ 350 := (by rw [eσ162]; exact jrr_up w154 (by omega) (by omega))
                                    have w170 : ∀ k : Nat, k < 3159 → (-1) ≤ (σ162 35 k).toInt ∧ (σ162 35 k).toInt ≤ 3 := (jrr_fr (jnp 35 eσ162 (of_decide_eq_true rfl)) w155)
                                    have w171 : ∀ k : Nat, k < 1024 → 0 ≤ (σ162 36 k).toInt ∧ (σ162 36 k).toInt ≤ 349 := (jrr_fr (jnp 36 eσ162 (of_decide_eq_true rfl)) w156)
                                    have I172 : jI31 σ162 := ⟨(by omega), (by omega), (by omega), (by omega), w169, w170, w171⟩
                                    exact by exact ihlp96 x163 σ162 _ _ ls (by have h90 := tx163; omega) (by have h90 := tx163; omega) (by have h90 := tx163; omega) (fun i hi => ((jnp i eσ162 (imp_94 i hi)).trans ((f143 i (imp_86 i hi)).trans (f104 i hi)))) (fun i hi => ((congrFun (jnp 31 eσ162 (of_decide_eq_true rfl)) i).trans ((f144 i hi).trans (f105 i hi))))  p164 p165 I172 (by rw [show σ162 31 8 = σ141 31 8 from (congrFun (jnp 31 eσ162 (of_decide_eq_true rfl)) 8), show σ162 32 = σ141 32 from (jnp 32 eσ162 (of_decide_eq_true rfl)), show σ162 31 11 = σ99 31 11 from ((congrFun (jnp 31 eσ162 (of_decide_eq_true rfl)) 11).trans (f144 11 (of_decide_eq_true rfl))), show σ162 31 12 = σ99 31 12 from ((congrFun (jnp 31 eσ162 (of_decide_eq_true rfl)) 12).trans (f144 12 (of_decide_eq_true rfl)))]; exact ⟨(fun hm => jqGo.put (q109.1 hm) (by omega) (by omega) (by omega) (by omega) q109.2.1 ((jqMy_iff (by omega) (by omega)).mpr ((w127).elim (fun w => w.2) (fun w => absurd w.1 (of_decide_eq_true rfl)))) (w135 (by omega) (by omega)) w148 (by omega) p107 (by omega) (by rw [eσ162, jup_row, f143 33 (of_decide_eq_true rfl), jnc (show x124.toInt = 4 * x63.toInt + x98.toInt by have h9 := tx124; omega)]) rfl (by have h9 := tx163; omega)), (by rw [(w148).1 x63.toInt.toNat (by omega)]; exact q109.2.1), (by have w8 := jqAd.le w148; have w9 := q109.2.2; omega)⟩) hP hS (lv_sub hl [0, 1, 2, 3, 4, 5, 6, 7, 8] rfl)
                              · obtain ⟨q174, k173⟩ := h129
                                have q174 := q174.symm
                                subst q174
                                exact by
                                 refine lv_if_eq (tgt := 188) hx hb dX1_grow_167 (of_decide_eq_true rfl) (fun _ => ?_) (fun c => absurd (of_decide_eq_true rfl) c)
                                 refine lv_iconst (v := (-1)) hx hb dX1_grow_188 (of_decide_eq_true rfl) ?_
                                 refine jast hx hb hK hP hJ hA hS (jc_33 cI cL ad σ99 τ) (ja_33 cI cL ad σ99 τ _ _) (jin tx124 (by omega) (by omega)) dX1_grow_189 (fun σ175 H locs eσ175 hP hS => ?_)
                                 obtain ⟨x176, ex176⟩ : ∃ y : Int32, y = x98 + 1 := ⟨_, rfl⟩
                                 have tx176 : x176.toInt = x98.toInt + 1 := (jadd ex176 rfl jz_1 (by omega) (by omega)).trans (by omega)
                                 refine lv_iinc (v := x176) (lv' := [(8, .int x176), (7, .int x93), (6, .int x91), (5, .int x63), (4, .int 1), (3, .int x16), (0, .ref (ad 31)), (1, .int a1), (2, .int a2)]) hx hb dX1_grow_190 hl (k := 0) rfl (by rw [ex176]; rfl) (of_decide_eq_true rfl) rfl (fun ls hl => ?_)
                                 refine lv_goto (tgt := 143) hx hb dX1_grow_193 (of_decide_eq_true rfl) ?_
                                 have p177 : jKb σ175 := jKb.fr (congrFun (jnp 31 eσ175 (of_decide_eq_true rfl)) 8) (congrFun (jnp 31 eσ175 (of_decide_eq_true rfl)) 11) (jnp 32 eσ175 (of_decide_eq_true rfl)) p106
                                 have p178 : jKh σ175 := jKh.fr (congrFun (jnp 31 eσ175 (of_decide_eq_true rfl)) 8) (jnp 32 eσ175 (of_decide_eq_true rfl)) (jnp 36 eσ175 (of_decide_eq_true rfl)) (jnp 37 eσ175 (of_decide_eq_true rfl)) p107
                                 exact by
                                  have z179 : (σ175 31 8).toInt = (σ99 31 8).toInt := (congrArg Int32.toInt (show σ175 31 8 = (σ99 31 8) from (congrFun (jnp 31 eσ175 (of_decide_eq_true rfl)) 8)))
                                  have z180 : (σ175 31 10).toInt = A2 := ((congrArg Int32.toInt (show σ175 31 10 = a2 from ((congrFun (jnp 31 eσ175 (of_decide_eq_true rfl)) 10).trans ((f105 10 (of_decide_eq_true rfl)).trans ((f73 10 (of_decide_eq_true rfl)).trans ((f43 10 (of_decide_eq_true rfl)).trans ((jkp 10 eσ30 (of_decide_eq_true rfl)).trans ((jkp 10 eσ29 (of_decide_eq_true rfl)).trans ((jkp 10 eσ28 (of_decide_eq_true rfl)).trans (jsp eσ27)))))))))).trans t2)
                                  have z181 : (σ175 31 11).toInt = x16.toInt := (congrArg Int32.toInt (show σ175 31 11 = x16 from ((congrFun (jnp 31 eσ175 (of_decide_eq_true rfl)) 11).trans ((f105 11 (of_decide_eq_true rfl)).trans ((f73 11 (of_decide_eq_true rfl)).trans ((f43 11 (of_decide_eq_true rfl)).trans ((jkp 11 eσ30 (of_decide_eq_true rfl)).trans ((jkp 11 eσ29 (of_decide_eq_true rfl)).trans (jsp eσ28)))))))))
                                  have w182 : ∀ k : Nat, k < 1400 → (-1) ≤ (σ175 33 k).toInt ∧ (σ175 33 k).toInt ≤ 350 := (by rw [eσ175]; exact jrr_up w114 (by have h9 := jz_m1; omega) (by have h9 := jz_m1; omega))
                                  have w183 : ∀ k : Nat, k < 3159 → (-1) ≤ (σ175 35 k).toInt ∧ (σ175 35 k).toInt ≤ 3 := (jrr_fr (jnp 35 eσ175 (of_decide_eq_true rfl)) w115)
                                  have w184 : ∀ k : Nat, k < 1024 → 0 ≤ (σ175 36 k).toInt ∧ (σ175 36 k).toInt ≤ 349 := (jrr_fr (jnp 36 eσ175 (of_decide_eq_true rfl)) w116)
                                  have I185 : jI31 σ175 := ⟨(by omega), (by omega), (by omega), (by omega), w182, w183, w184⟩
                                  exact by exact ihlp96 x176 σ175 _ _ ls (by have h90 := tx176; omega) (by have h90 := tx176; omega) (by have h90 := tx176; omega) (fun i hi => ((jnp i eσ175 (imp_94 i hi)).trans (f104 i hi))) (fun i hi => ((congrFun (jnp 31 eσ175 (of_decide_eq_true rfl)) i).trans (f105 i hi)))  p177 p178 I185 (by rw [show σ175 31 8 = σ99 31 8 from (congrFun (jnp 31 eσ175 (of_decide_eq_true rfl)) 8), show σ175 31 11 = σ99 31 11 from (congrFun (jnp 31 eσ175 (of_decide_eq_true rfl)) 11), show σ175 31 12 = σ99 31 12 from (congrFun (jnp 31 eσ175 (of_decide_eq_true rfl)) 12), show σ175 32 = σ99 32 from (jnp 32 eσ175 (of_decide_eq_true rfl))]; exact ⟨(fun hm => jqGo.none (q109.1 hm) (by omega) (by omega) (by omega) (by omega) q109.2.1 (fun w => ((w127).elim (fun w => absurd w.1 (of_decide_eq_true rfl)) (fun w => w.2)) ((jqMy_iff (by omega) (by omega)).mp w)) (by rw [eσ175, jup_row, jnc (show x124.toInt = 4 * x63.toInt + x98.toInt by have h9 := tx124; omega)]) (of_decide_eq_true rfl) (by have h9 := tx176; omega)), q109.2.1, q109.2.2⟩) hP hS (lv_sub hl [0, 1, 2, 3, 4, 5, 6, 7, 8] rfl)
                     exact by exact lp96 1000000 0 σ67 _ _ ls (by have h90 := jz_0; omega) (by have h90 := jz_0; omega) (by have h90 := jz_0; omega) (fun _ _ => rfl) (fun _ _ => rfl)  p74 p75 p76 ⟨(by rw [show (0 : Int32).toInt = 0 from by decide]; exact q77), ⟨(by have w := jandm (x := (σ67 32 x63.toNatClampNeg)) (y := x91) (m := 134217727) (k := 27) (M := 134217728) (by rw [ex91]) rfl rfl (of_decide_eq_true rfl); show (σ67 32 x63.toNatClampNeg).toInt = _; omega), ⟨by omega, by omega⟩, (by omega)⟩, by omega⟩ hP hS hl
           exact by exact lp61 1000000 0 σ40 _ _ ls (by have h90 := jz_0; omega) (by have h90 := jz_0; omega) (by have h90 := jz_0; omega) (fun _ _ => rfl) (fun _ _ => rfl)  p45 p46 I44 (by rw [show σ40 31 11 = σ30 31 11 from (f43 11 (of_decide_eq_true rfl)), show σ40 31 12 = σ30 31 12 from (f43 12 (of_decide_eq_true rfl))]; exact (fun hm => jqGo.first hm (by have w := w47; rw [show (σ30 31 8).toInt = 0 from by omega] at w; exact w) rfl (by have h9 := jz_0; omega))) hP hS hl
      · exact by
         have kc25 := jeq c25 rfl t1
         refine lv_aload_n hx hb dX1_grow_40 rfl (lv_at hl 2 rfl) ?_
         refine va_get (D := D) hx hb hts inlX1 hown hK hP 31 (jc_31 cI cL ad σ τ) rfl 11 (of_decide_eq_true rfl) (hts _ kw_28_7) (fun _ h9 => h9) rfl dX1_grow_41 ?_
         refine lv_iload_n hx hb dX1_grow_44 rfl (lv_at hl 1 rfl) ?_
         refine lv_icmp_ne (tgt := 63) hx hb dX1_grow_45 (of_decide_eq_true rfl) (fun c186 => ?_) (fun c186 => ?_)
         · have kc186 := jne c186 rfl rfl
           refine lv_aload_n hx hb dX1_grow_63 rfl (lv_at hl 2 rfl) ?_
           refine lv_iload_n hx hb dX1_grow_64 rfl (lv_at hl 3 rfl) ?_
           refine jput (ty := .int) hx hb hts inlX1 tyX1 tyX1_ok nmX1 hown hK hP hJ hA hS (jc_31 cI cL ad σ τ) rfl (k := 9) (of_decide_eq_true rfl) (Nat.le_of_ble_eq_true rfl) (jp_31_9 cI cL ad σ τ a1) (hts _ kw_5_9) (fun _ h9 => h9) rfl (by decide +kernel) rfl rfl dX1_grow_65 (fun σ187 H locs eσ187 hP hS => ?_)
           refine lv_aload_n hx hb dX1_grow_68 rfl (lv_at hl 2 rfl) ?_
           refine lv_iload_n hx hb dX1_grow_69 rfl (lv_at hl 4 rfl) ?_
           refine jput (ty := .int) hx hb hts inlX1 tyX1 tyX1_ok nmX1 hown hK hP hJ hA hS (jc_31 cI cL ad σ187 τ) rfl (k := 10) (of_decide_eq_true rfl) (Nat.le_of_ble_eq_true rfl) (jp_31_10 cI cL ad σ187 τ a2) (hts _ kw_28_9) (fun _ h9 => h9) rfl (by decide +kernel) rfl rfl dX1_grow_70 (fun σ188 H locs eσ188 hP hS => ?_)
           refine lv_aload_n hx hb dX1_grow_73 rfl (lv_at hl 2 rfl) ?_
           refine lv_iload_n hx hb dX1_grow_74 rfl (lv_at hl 1 rfl) ?_
           refine jput (ty := .int) hx hb hts inlX1 tyX1 tyX1_ok nmX1 hown hK hP hJ hA hS (jc_31 cI cL ad σ188 τ) rfl (k := 11) (of_decide_eq_true rfl) (Nat.le_of_ble_eq_true rfl) (jp_31_11 cI cL ad σ188 τ x16) (hts _ kw_28_7) (fun _ h9 => h9) rfl (by decide +kernel) rfl rfl dX1_grow_75 (fun σ189 H locs eσ189 hP hS => ?_)
           refine lv_aload_n hx hb dX1_grow_78 rfl (lv_at hl 2 rfl) ?_
           refine lv_iload hx hb dX1_grow_79 (lv_at hl 0 rfl) ?_
           refine jput (ty := .boolean) hx hb hts inlX1 tyX1 tyX1_ok nmX1 hown hK hP hJ hA hS (jc_31 cI cL ad σ189 τ) rfl (k := 12) (of_decide_eq_true rfl) (Nat.le_of_ble_eq_true rfl) (jp_31_12 cI cL ad σ189 τ 1) (hts _ kw_28_8) (fun _ h9 => h9) rfl (by decide +kernel) rfl rfl dX1_grow_81 (fun σ190 H locs eσ190 hP hS => ?_)
           refine lv_aload_n hx hb dX1_grow_84 rfl (lv_at hl 2 rfl) ?_
           refine lv_iconst (v := 0) hx hb dX1_grow_85 (of_decide_eq_true rfl) ?_
           refine jput (ty := .int) hx hb hts inlX1 tyX1 tyX1_ok nmX1 hown hK hP hJ hA hS (jc_31 cI cL ad σ190 τ) rfl (k := 8) (of_decide_eq_true rfl) (Nat.le_of_ble_eq_true rfl) (jp_31_8 cI cL ad σ190 τ 0) (hts _ kw_27_22) (fun _ h9 => h9) rfl (by decide +kernel) rfl rfl dX1_grow_86 (fun σ191 H locs eσ191 hP hS => ?_)
           have z192 : (σ191 31 8).toInt = 0 := ((congrArg Int32.toInt (show σ191 31 8 = 0 from (jsp eσ191))).trans jz_0)
           exact by
            have p193 : jKb σ191 := (jKb.nil (by omega))
            have p194 : jKh σ191 := (jKh.nil (by omega))
            refine lv_aload_n hx hb dX1_grow_89 rfl (lv_at hl 2 rfl) ?_
            refine lv_iload_n hx hb dX1_grow_90 rfl (lv_at hl 3 rfl) ?_
            refine lv_iconst (v := 0) hx hb dX1_grow_91 (of_decide_eq_true rfl) ?_
            have z195 : (σ191 31 10).toInt = A2 := ((congrArg Int32.toInt (show σ191 31 10 = a2 from ((jkp 10 eσ191 (of_decide_eq_true rfl)).trans ((jkp 10 eσ190 (of_decide_eq_true rfl)).trans ((jkp 10 eσ189 (of_decide_eq_true rfl)).trans (jsp eσ188)))))).trans t2)
            have z196 : (σ191 31 11).toInt = x16.toInt := (congrArg Int32.toInt (show σ191 31 11 = x16 from ((jkp 11 eσ191 (of_decide_eq_true rfl)).trans ((jkp 11 eσ190 (of_decide_eq_true rfl)).trans (jsp eσ189)))))
            have w197 : ∀ k : Nat, k < 1400 → (-1) ≤ (σ191 33 k).toInt ∧ (σ191 33 k).toInt ≤ 350 := (jrr_fr (jnp 33 eσ191 (of_decide_eq_true rfl)) (jrr_fr (jnp 33 eσ190 (of_decide_eq_true rfl)) (jrr_fr (jnp 33 eσ189 (of_decide_eq_true rfl)) (jrr_fr (jnp 33 eσ188 (of_decide_eq_true rfl)) (jrr_fr (jnp 33 eσ187 (of_decide_eq_true rfl)) w9)))))
            have w198 : ∀ k : Nat, k < 3159 → (-1) ≤ (σ191 35 k).toInt ∧ (σ191 35 k).toInt ≤ 3 := (jrr_fr (jnp 35 eσ191 (of_decide_eq_true rfl)) (jrr_fr (jnp 35 eσ190 (of_decide_eq_true rfl)) (jrr_fr (jnp 35 eσ189 (of_decide_eq_true rfl)) (jrr_fr (jnp 35 eσ188 (of_decide_eq_true rfl)) (jrr_fr (jnp 35 eσ187 (of_decide_eq_true rfl)) w10)))))
            exact by
             have w199 : ∀ k : Nat, k < 1024 → 0 ≤ (σ191 36 k).toInt ∧ (σ191 36 k).toInt ≤ 349 := (jrr_fr (jnp 36 eσ191 (of_decide_eq_true rfl)) (jrr_fr (jnp 36 eσ190 (of_decide_eq_true rfl)) (jrr_fr (jnp 36 eσ189 (of_decide_eq_true rfl)) (jrr_fr (jnp 36 eσ188 (of_decide_eq_true rfl)) (jrr_fr (jnp 36 eσ187 (of_decide_eq_true rfl)) w11)))))
             have I200 : jI31 σ191 := ⟨(by omega), (by omega), (by omega), (by omega), w197, w198, w199⟩
             refine jcallV (As := [.int a1, .int 0]) (rest := []) ⟨hx, hb, hml, hown, hts⟩ hK hP hA hS hZ (c_X1_add_31 l D cI cL ad zz hJ σ191 τ a1 (A1) t1 0 (0) jz_0 I200 p193 p194 (by omega) (by omega)) cw_RX1_111 (jc_31 cI cL ad σ191 τ) rfl ⟨Nat.le_of_ble_eq_true rfl, Nat.le_of_ble_eq_true rfl⟩ rfl rfl rfl hl.1 rfl (Nat.le_of_ble_eq_true rfl) dX1_grow_92 ⟨Nat.zero_le _, Nat.zero_le _⟩ (fun r202 σ201 τ201 H locs h201 hP hS => ?_)
             obtain ⟨rfl, f203, f204, I205, p206, p207, w208, h201⟩ := h201
             obtain ⟨i210, i211, i212, i213, w214, w215, w216⟩ : (0 ≤ (σ201 31 8).toInt ∧ (σ201 31 8).toInt ≤ 350) ∧ (0 ≤ (σ201 31 10).toInt ∧ (σ201 31 10).toInt ≤ 12) ∧ (0 ≤ (σ201 31 11).toInt ∧ (σ201 31 11).toInt ≤ 8) ∧ ((σ201 31 10).toInt + (σ201 31 11).toInt ≤ 12) ∧ (∀ k : Nat, k < 1400 → (-1) ≤ (σ201 33 k).toInt ∧ (σ201 33 k).toInt ≤ 350) ∧ (∀ k : Nat, k < 3159 → (-1) ≤ (σ201 35 k).toInt ∧ (σ201 35 k).toInt ≤ 3) ∧ (∀ k : Nat, k < 1024 → 0 ≤ (σ201 36 k).toInt ∧ (σ201 36 k).toInt ≤ 349) := id I205
             have z217 : (σ201 31 10).toInt = A2 := ((congrArg Int32.toInt (show σ201 31 10 = a2 from ((f204 10 (of_decide_eq_true rfl)).trans ((jkp 10 eσ191 (of_decide_eq_true rfl)).trans ((jkp 10 eσ190 (of_decide_eq_true rfl)).trans ((jkp 10 eσ189 (of_decide_eq_true rfl)).trans (jsp eσ188))))))).trans t2)
             have z218 : (σ201 31 11).toInt = x16.toInt := (congrArg Int32.toInt (show σ201 31 11 = x16 from ((f204 11 (of_decide_eq_true rfl)).trans ((jkp 11 eσ191 (of_decide_eq_true rfl)).trans ((jkp 11 eσ190 (of_decide_eq_true rfl)).trans (jsp eσ189))))))
             have h219 := h201
             obtain ⟨q221, k220⟩ := h219
             exact by
              refine lv_pop hx hb dX1_grow_95 rfl ?_
              refine lv_iconst (v := 0) hx hb dX1_grow_96 (of_decide_eq_true rfl) ?_
              refine lv_istore (lv' := [(5, .int 0), (4, .int 1), (3, .int x16), (0, .ref (ad 31)), (1, .int a1), (2, .int a2)]) hx hb dX1_grow_97 hl (of_decide_eq_true rfl) rfl (fun ls hl => ?_)
              have lp222 : ∀ (n223 : Nat) (x224 : Int32) (σ228 : Nat → Nat → Int32) (H : Heap) (locs : List Loc) (ls : Array Slot), (-x224.toInt + 350 : Int) < n223 → 0 ≤ x224.toInt → x224.toInt ≤ 350 → (∀ i : Nat, (i < 31 ∨ 33 < i) ∧ (i < 36 ∨ 37 < i) → σ228 i = σ201 i) → (∀ k : Nat, (k < 8 ∨ 8 < k) → σ228 31 k = σ201 31 k) → jKb σ228 → jKh σ228 → jI31 σ228 → (jFm a1 → jqGo a1 (decide ((σ228 31 12).toInt ≠ 0)) (σ228 31 11).toInt (σ228 31 8).toInt (σ228 32) (σ228 33) x224.toInt 0) → jH D cI cL ad σ228 τ H → va_S (jA ad) s.heap H locs → lv_has ls 9 [(5, .int x224), (4, .int 1), (3, .int x16), (0, .ref (ad 31)), (1, .int a1), (2, .int a2)] → W p l e ({ frames := 3, cells := 0, slots := 0, locals := 73 }) s m args below meth c H locs 0 0 Q (F0 m 99 ls []) := by
                intro n223
                induction n223 with
                | zero => intro x224 σ228 H locs ls h230 h231 h232; exact absurd h230 (by omega)
                | succ n223 ihlp222 =>
                  intro x224 σ228 H locs ls h230 h231 h232 f233 f234 p235 p236 p237 q238 hP hS hl
                  exact by
                   obtain ⟨i239, i240, i241, i242, w243, w244, w245⟩ : (0 ≤ (σ228 31 8).toInt ∧ (σ228 31 8).toInt ≤ 350) ∧ (0 ≤ (σ228 31 10).toInt ∧ (σ228 31 10).toInt ≤ 12) ∧ (0 ≤ (σ228 31 11).toInt ∧ (σ228 31 11).toInt ≤ 8) ∧ ((σ228 31 10).toInt + (σ228 31 11).toInt ≤ 12) ∧ (∀ k : Nat, k < 1400 → (-1) ≤ (σ228 33 k).toInt ∧ (σ228 33 k).toInt ≤ 350) ∧ (∀ k : Nat, k < 3159 → (-1) ≤ (σ228 35 k).toInt ∧ (σ228 35 k).toInt ≤ 3) ∧ (∀ k : Nat, k < 1024 → 0 ≤ (σ228 36 k).toInt ∧ (σ228 36 k).toInt ≤ 349) := id p237
                   have z246 : (σ228 31 10).toInt = A2 := ((congrArg Int32.toInt (show σ228 31 10 = a2 from ((f234 10 (of_decide_eq_true rfl)).trans ((f204 10 (of_decide_eq_true rfl)).trans ((jkp 10 eσ191 (of_decide_eq_true rfl)).trans ((jkp 10 eσ190 (of_decide_eq_true rfl)).trans ((jkp 10 eσ189 (of_decide_eq_true rfl)).trans (jsp eσ188)))))))).trans t2)
                   have z247 : (σ228 31 11).toInt = x16.toInt := (congrArg Int32.toInt (show σ228 31 11 = x16 from ((f234 11 (of_decide_eq_true rfl)).trans ((f204 11 (of_decide_eq_true rfl)).trans ((jkp 11 eσ191 (of_decide_eq_true rfl)).trans ((jkp 11 eσ190 (of_decide_eq_true rfl)).trans (jsp eσ189)))))))
                   refine lv_iload hx hb dX1_grow_99 (lv_at hl 0 rfl) ?_
                   refine lv_aload_n hx hb dX1_grow_101 rfl (lv_at hl 3 rfl) ?_
                   refine va_get (D := D) hx hb hts inlX1 hown hK hP 31 (jc_31 cI cL ad σ228 τ) rfl 8 (of_decide_eq_true rfl) (hts _ kw_27_22) (fun _ h9 => h9) rfl dX1_grow_102 ?_
                   refine lv_icmp_ge (tgt := 202) hx hb dX1_grow_105 (of_decide_eq_true rfl) (fun c248 => ?_) (fun c248 => ?_)
                   · have kc248 := jle c248 rfl rfl
                     have p249 : jKg σ228 := (show jFm (σ228 31 9) → _ from by rw [show σ228 31 9 = a1 from ((f234 9 (of_decide_eq_true rfl)).trans ((f204 9 (of_decide_eq_true rfl)).trans ((jkp 9 eσ191 (of_decide_eq_true rfl)).trans ((jkp 9 eσ190 (of_decide_eq_true rfl)).trans ((jkp 9 eσ189 (of_decide_eq_true rfl)).trans ((jkp 9 eσ188 (of_decide_eq_true rfl)).trans (jsp eσ187)))))))]; exact fun hm => (q238 hm).fin (by omega))
                     exact by
                      have z250 : (σ228 31 9).toInt = A1 := ((congrArg Int32.toInt (show σ228 31 9 = a1 from ((f234 9 (of_decide_eq_true rfl)).trans ((f204 9 (of_decide_eq_true rfl)).trans ((jkp 9 eσ191 (of_decide_eq_true rfl)).trans ((jkp 9 eσ190 (of_decide_eq_true rfl)).trans ((jkp 9 eσ189 (of_decide_eq_true rfl)).trans ((jkp 9 eσ188 (of_decide_eq_true rfl)).trans (jsp eσ187))))))))).trans t1)
                      exact by exact hret σ228 τ _ _ _ _ ⟨rfl, (fun i hi => ((f233 i hi).trans ((f203 i (imp_86 i hi)).trans ((jnp i eσ191 (imp_87 i hi)).trans ((jnp i eσ190 (imp_87 i hi)).trans ((jnp i eσ189 (imp_87 i hi)).trans ((jnp i eσ188 (imp_87 i hi)).trans (jnp i eσ187 (imp_87 i hi))))))))), (fun i hi => ((f234 i (imp_88 i hi)).trans ((f204 i (imp_88 i hi)).trans ((jkp i eσ191 (imp_89 i hi)).trans ((jkp i eσ190 (imp_90 i hi)).trans ((jkp i eσ189 (imp_91 i hi)).trans ((jkp i eσ188 (imp_92 i hi)).trans (jkp i eσ187 (imp_93 i hi))))))))), p237, p235, p236, p249, (by rw [show σ228 31 12 = 1 from ((f234 12 (of_decide_eq_true rfl)).trans ((f204 12 (of_decide_eq_true rfl)).trans ((jkp 12 eσ191 (of_decide_eq_true rfl)).trans (jsp eσ190))))]; exact w20), (by omega), (by omega), (by omega), trivial⟩ hP hS dX1_grow_202
                   · have kc248 := jnle c248 rfl rfl
                     refine lv_iload hx hb dX1_grow_108 (lv_at hl 0 rfl) ?_
                     refine lv_sipush (v := 350) hx hb dX1_grow_110 (of_decide_eq_true rfl) ?_
                     refine lv_icmp_ge (tgt := 202) hx hb dX1_grow_113 (of_decide_eq_true rfl) (fun c => absurd (jle c jz_350 rfl) (by omega)) (fun c251 => ?_)
                     have kc251 := jnle c251 jz_350 rfl
                     refine lv_aload_n hx hb dX1_grow_116 rfl (lv_at hl 3 rfl) ?_
                     refine va_get (D := D) hx hb hts inlX1 hown hK hP 31 (jc_31 cI cL ad σ228 τ) rfl 2 (of_decide_eq_true rfl) (hts _ kw_5_3) (fun _ h9 => h9) rfl dX1_grow_117 ?_
                     exact by
                      refine lv_iload hx hb dX1_grow_120 (lv_at hl 0 rfl) ?_
                      refine jald hx hb hK hP (jc_32 cI cL ad σ228 τ) (jin rfl (by omega) (by omega)) dX1_grow_122 ?_
                      refine jtopr (y := (σ228 32 x224.toNatClampNeg)) rfl ?_
                      refine lv_ldc (v := 134217727) hx hb hown (hts _ kw_28_10) dX1_grow_123 ?_
                      refine lv_iand hx hb dX1_grow_125 ?_
                      refine lv_topi (fun x252 ex252 => ?_)
                      have gx252 := jrg (rfl : x252.toInt = x252.toInt)
                      have g253 : 0 ≤ x252.toInt ∧ x252.toInt ≤ 134217727 := jmask ex252 27 (of_decide_eq_true rfl) (of_decide_eq_true rfl)
                      refine lv_istore (lv' := [(6, .int x252), (5, .int x224), (4, .int 1), (3, .int x16), (0, .ref (ad 31)), (1, .int a1), (2, .int a2)]) hx hb dX1_grow_126 hl (of_decide_eq_true rfl) rfl (fun ls hl => ?_)
                      exact by
                       refine lv_aload_n hx hb dX1_grow_128 rfl (lv_at hl 4 rfl) ?_
                       refine va_get (D := D) hx hb hts inlX1 hown hK hP 31 (jc_31 cI cL ad σ228 τ) rfl 2 (of_decide_eq_true rfl) (hts _ kw_5_3) (fun _ h9 => h9) rfl dX1_grow_129 ?_
                       refine lv_iload hx hb dX1_grow_132 (lv_at hl 1 rfl) ?_
                       refine jald hx hb hK hP (jc_32 cI cL ad σ228 τ) (jin rfl (by omega) (by omega)) dX1_grow_134 ?_
                       refine jtopr (y := (σ228 32 x224.toNatClampNeg)) rfl ?_
                       refine lv_bipush (v := 27) hx hb dX1_grow_135 (of_decide_eq_true rfl) ?_
                       refine lv_ishr hx hb dX1_grow_137 ?_
                       refine lv_topi (fun x254 ex254 => ?_)
                       have gx254 := jrg (rfl : x254.toInt = x254.toInt)
                       exact by
                        have k255 := jshr27 (x := x254) (k := (σ228 32 x224.toNatClampNeg)) (by rw [ex254])
                        have k256 := p235 x224.toNatClampNeg (by rw [jnc (rfl : x224.toInt = x224.toInt)]; omega)
                        refine lv_istore (lv' := [(7, .int x254), (6, .int x252), (5, .int x224), (4, .int 1), (3, .int x16), (0, .ref (ad 31)), (1, .int a1), (2, .int a2)]) hx hb dX1_grow_138 hl (of_decide_eq_true rfl) rfl (fun ls hl => ?_)
                        refine lv_iconst (v := 0) hx hb dX1_grow_140 (of_decide_eq_true rfl) ?_
                        refine lv_istore (lv' := [(8, .int 0), (7, .int x254), (6, .int x252), (5, .int x224), (4, .int 1), (3, .int x16), (0, .ref (ad 31)), (1, .int a1), (2, .int a2)]) hx hb dX1_grow_141 hl (of_decide_eq_true rfl) rfl (fun ls hl => ?_)
                        have lp257 : ∀ (n258 : Nat) (x259 : Int32) (σ260 : Nat → Nat → Int32) (H : Heap) (locs : List Loc) (ls : Array Slot), (-x259.toInt + 4 : Int) < n258 → 0 ≤ x259.toInt → x259.toInt ≤ 4 → (∀ i : Nat, (i < 31 ∨ 33 < i) ∧ (i < 36 ∨ 37 < i) → σ260 i = σ228 i) → (∀ k : Nat, (k < 8 ∨ 8 < k) → σ260 31 k = σ228 31 k) → jKb σ260 → jKh σ260 → jI31 σ260 → ((jFm a1 → jqGo a1 (decide ((σ260 31 12).toInt ≠ 0)) (σ260 31 11).toInt (σ260 31 8).toInt (σ260 32) (σ260 33) x224.toInt x259.toInt) ∧ jqNo (σ260 32 x224.toInt.toNat) x252 x254.toInt ∧ x224.toInt < (σ260 31 8).toInt) → jH D cI cL ad σ260 τ H → va_S (jA ad) s.heap H locs → lv_has ls 9 [(8, .int x259), (7, .int x254), (6, .int x252), (5, .int x224), (4, .int 1), (3, .int x16), (0, .ref (ad 31)), (1, .int a1), (2, .int a2)] → W p l e ({ frames := 3, cells := 0, slots := 0, locals := 73 }) s m args below meth c H locs 0 0 Q (F0 m 143 ls []) := by
                          intro n258
                          induction n258 with
                          | zero => intro x259 σ260 H locs ls h262 h263 h264; exact absurd h262 (by omega)
                          | succ n258 ihlp257 =>
                            intro x259 σ260 H locs ls h262 h263 h264 f265 f266 p267 p268 p269 q270 hP hS hl
                            exact by
                             obtain ⟨i271, i272, i273, i274, w275, w276, w277⟩ : (0 ≤ (σ260 31 8).toInt ∧ (σ260 31 8).toInt ≤ 350) ∧ (0 ≤ (σ260 31 10).toInt ∧ (σ260 31 10).toInt ≤ 12) ∧ (0 ≤ (σ260 31 11).toInt ∧ (σ260 31 11).toInt ≤ 8) ∧ ((σ260 31 10).toInt + (σ260 31 11).toInt ≤ 12) ∧ (∀ k : Nat, k < 1400 → (-1) ≤ (σ260 33 k).toInt ∧ (σ260 33 k).toInt ≤ 350) ∧ (∀ k : Nat, k < 3159 → (-1) ≤ (σ260 35 k).toInt ∧ (σ260 35 k).toInt ≤ 3) ∧ (∀ k : Nat, k < 1024 → 0 ≤ (σ260 36 k).toInt ∧ (σ260 36 k).toInt ≤ 349) := id p269
                             have z278 : (σ260 31 10).toInt = A2 := ((congrArg Int32.toInt (show σ260 31 10 = a2 from ((f266 10 (of_decide_eq_true rfl)).trans ((f234 10 (of_decide_eq_true rfl)).trans ((f204 10 (of_decide_eq_true rfl)).trans ((jkp 10 eσ191 (of_decide_eq_true rfl)).trans ((jkp 10 eσ190 (of_decide_eq_true rfl)).trans ((jkp 10 eσ189 (of_decide_eq_true rfl)).trans (jsp eσ188))))))))).trans t2)
                             have z279 : (σ260 31 11).toInt = x16.toInt := (congrArg Int32.toInt (show σ260 31 11 = x16 from ((f266 11 (of_decide_eq_true rfl)).trans ((f234 11 (of_decide_eq_true rfl)).trans ((f204 11 (of_decide_eq_true rfl)).trans ((jkp 11 eσ191 (of_decide_eq_true rfl)).trans ((jkp 11 eσ190 (of_decide_eq_true rfl)).trans (jsp eσ189))))))))
                             refine lv_iload hx hb dX1_grow_143 (lv_at hl 0 rfl) ?_
                             refine lv_iconst (v := 4) hx hb dX1_grow_145 (of_decide_eq_true rfl) ?_
                             refine lv_icmp_ge (tgt := 196) hx hb dX1_grow_146 (of_decide_eq_true rfl) (fun c280 => ?_) (fun c280 => ?_)
                             · have kc280 := jle c280 jz_4 rfl
                               obtain ⟨x281, ex281⟩ : ∃ y : Int32, y = x224 + 1 := ⟨_, rfl⟩
                               have tx281 : x281.toInt = x224.toInt + 1 := (jadd ex281 rfl jz_1 (by omega) (by omega)).trans (by omega)
                               exact by
                                refine lv_iinc (v := x281) (lv' := [(5, .int x281), (8, .int x259), (7, .int x254), (6, .int x252), (4, .int 1), (3, .int x16), (0, .ref (ad 31)), (1, .int a1), (2, .int a2)]) hx hb dX1_grow_196 hl (k := 3) rfl (by rw [ex281]; rfl) (of_decide_eq_true rfl) rfl (fun ls hl => ?_)
                                refine lv_goto (tgt := 99) hx hb dX1_grow_199 (of_decide_eq_true rfl) ?_
                                exact by exact ihlp222 x281 σ260 _ _ ls (by have h90 := tx281; omega) (by have h90 := tx281; omega) (by have h90 := tx281; omega) (fun i hi => ((f265 i hi).trans (f233 i hi))) (fun i hi => ((f266 i hi).trans (f234 i hi)))  p267 p268 p269 (fun hm => jqGo.row (q270.1 hm) (by omega) (by have h9 := tx281; omega) (by omega) q270.2.2) hP hS (lv_sub hl [0, 4, 5, 6, 7, 8] rfl)
                             · have kc280 := jnle c280 jz_4 rfl
                               refine lv_aload_n hx hb dX1_grow_149 rfl (lv_at hl 6 rfl) ?_
                               refine va_get (D := D) hx hb hts inlX1 hown hK hP 31 (jc_31 cI cL ad σ260 τ) rfl 3 (of_decide_eq_true rfl) (hts _ kw_5_4) (fun _ h9 => h9) rfl dX1_grow_150 ?_
                               refine lv_iload hx hb dX1_grow_153 (lv_at hl 3 rfl) ?_
                               refine lv_iconst (v := 4) hx hb dX1_grow_155 (of_decide_eq_true rfl) ?_
                               have g282 := jrg (rfl : x224.toInt = x224.toInt)
                               refine lv_imul hx hb dX1_grow_156 ?_
                               refine lv_topi (fun x283 ex283 => ?_)
                               exact by
                                have tx283 : x283.toInt = 4 * x224.toInt := (jmul ex283 rfl jz_4 (by omega) (by omega)).trans (by omega)
                                refine lv_iload hx hb dX1_grow_157 (lv_at hl 0 rfl) ?_
                                have g284 := jrg (rfl : x259.toInt = x259.toInt)
                                refine lv_iadd hx hb dX1_grow_159 ?_
                                refine lv_topi (fun x285 ex285 => ?_)
                                have tx285 : x285.toInt = 4 * x224.toInt + x259.toInt := (jadd ex285 tx283 rfl (by omega) (by omega)).trans (by omega)
                                refine lv_iload hx hb dX1_grow_160 (lv_at hl 2 rfl) ?_
                                refine lv_iload hx hb dX1_grow_162 (lv_at hl 0 rfl) ?_
                                refine jcallS (As := [.int x252, .int x259]) (rest := [.int x285, .ref (ad 33)]) ⟨hx, hb, hml, hown, hts⟩ hK hP hA hS hZ (c_X0_mayBowl l D cI cL ad zz hJ σ260 τ x252 (x252.toInt) rfl x259 (x259.toInt) rfl) cw_RX1_115 ⟨Nat.le_of_ble_eq_true rfl, Nat.le_of_ble_eq_true rfl⟩ rfl rfl rfl hl.1 rfl (Nat.le_of_ble_eq_true rfl) dX1_grow_164 ⟨Nat.zero_le _, Nat.zero_le _⟩ (fun r287 σ286 τ286 H locs h286 hP hS => ?_)
                                exact by
                                 obtain ⟨⟨rfl, rfl⟩, w288, h286⟩ := h286
                                 rcases h286 with h289 | h290
                                 · obtain ⟨q292, k291⟩ := h289
                                   have q292 := q292.symm
                                   subst q292
                                   refine lv_if_eq (tgt := 188) hx hb dX1_grow_167 (of_decide_eq_true rfl) (fun c => absurd c (of_decide_eq_true rfl)) (fun _ => ?_)
                                   refine lv_aload_n hx hb dX1_grow_170 rfl (lv_at hl 6 rfl) ?_
                                   refine lv_iload hx hb dX1_grow_171 (lv_at hl 2 rfl) ?_
                                   refine lv_iload hx hb dX1_grow_173 (lv_at hl 0 rfl) ?_
                                   exact by
                                    refine jcallS (As := [.int x252, .int x259]) (rest := [.ref (ad 31), .int x285, .ref (ad 33)]) ⟨hx, hb, hml, hown, hts⟩ hK hP hA hS hZ (c_X0_after_r l D cI cL ad zz hJ σ260 τ x252 (x252.toInt) rfl x259 (x259.toInt) rfl (by omega)) cw_RX1_119 ⟨Nat.le_of_ble_eq_true rfl, Nat.le_of_ble_eq_true rfl⟩ rfl rfl rfl hl.1 rfl (Nat.le_of_ble_eq_true rfl) dX1_grow_175 ⟨Nat.zero_le _, Nat.zero_le _⟩ (fun r294 σ293 τ293 H locs h293 hP hS => ?_)
                                    obtain ⟨⟨rfl, rfl⟩, w295, w296, h293⟩ := h293
                                    have h297 := h293
                                    obtain ⟨q299, k298⟩ := h297
                                    refine lv_iload hx hb dX1_grow_178 (lv_at hl 1 rfl) ?_
                                    refine lv_iconst (v := 1) hx hb dX1_grow_180 (of_decide_eq_true rfl) ?_
                                    have g300 := jrg (rfl : x254.toInt = x254.toInt)
                                    refine lv_iadd hx hb dX1_grow_181 ?_
                                    refine lv_topi (fun x301 ex301 => ?_)
                                    exact by
                                     have tx301 : x301.toInt = x254.toInt + 1 := (jadd ex301 rfl jz_1 (by omega) (by omega)).trans (by omega)
                                     refine jcallV (As := [.int r294, .int x301]) (rest := [.int x285, .ref (ad 33)]) ⟨hx, hb, hml, hown, hts⟩ hK hP hA hS hZ (c_X1_add_31 l D cI cL ad zz hJ σ260 τ r294 (r294.toInt) rfl x301 (x254.toInt + 1) tx301 p269 p267 p268 (by omega) (by omega)) cw_RX1_111 (jc_31 cI cL ad σ260 τ) rfl ⟨Nat.le_of_ble_eq_true rfl, Nat.le_of_ble_eq_true rfl⟩ rfl rfl rfl hl.1 rfl (Nat.le_of_ble_eq_true rfl) dX1_grow_182 ⟨Nat.zero_le _, Nat.zero_le _⟩ (fun r303 σ302 τ302 H locs h302 hP hS => ?_)
                                     obtain ⟨rfl, f304, f305, I306, p307, p308, w309, h302⟩ := h302
                                     obtain ⟨i311, i312, i313, i314, w315, w316, w317⟩ : (0 ≤ (σ302 31 8).toInt ∧ (σ302 31 8).toInt ≤ 350) ∧ (0 ≤ (σ302 31 10).toInt ∧ (σ302 31 10).toInt ≤ 12) ∧ (0 ≤ (σ302 31 11).toInt ∧ (σ302 31 11).toInt ≤ 8) ∧ ((σ302 31 10).toInt + (σ302 31 11).toInt ≤ 12) ∧ (∀ k : Nat, k < 1400 → (-1) ≤ (σ302 33 k).toInt ∧ (σ302 33 k).toInt ≤ 350) ∧ (∀ k : Nat, k < 3159 → (-1) ≤ (σ302 35 k).toInt ∧ (σ302 35 k).toInt ≤ 3) ∧ (∀ k : Nat, k < 1024 → 0 ≤ (σ302 36 k).toInt ∧ (σ302 36 k).toInt ≤ 349) := id I306
                                     have z318 : (σ302 31 10).toInt = A2 := ((congrArg Int32.toInt (show σ302 31 10 = a2 from ((f305 10 (of_decide_eq_true rfl)).trans ((f266 10 (of_decide_eq_true rfl)).trans ((f234 10 (of_decide_eq_true rfl)).trans ((f204 10 (of_decide_eq_true rfl)).trans ((jkp 10 eσ191 (of_decide_eq_true rfl)).trans ((jkp 10 eσ190 (of_decide_eq_true rfl)).trans ((jkp 10 eσ189 (of_decide_eq_true rfl)).trans (jsp eσ188)))))))))).trans t2)
                                     have z319 : (σ302 31 11).toInt = x16.toInt := (congrArg Int32.toInt (show σ302 31 11 = x16 from ((f305 11 (of_decide_eq_true rfl)).trans ((f266 11 (of_decide_eq_true rfl)).trans ((f234 11 (of_decide_eq_true rfl)).trans ((f204 11 (of_decide_eq_true rfl)).trans ((jkp 11 eσ191 (of_decide_eq_true rfl)).trans ((jkp 11 eσ190 (of_decide_eq_true rfl)).trans (jsp eσ189)))))))))
                                     have h320 := h302
                                     obtain ⟨q322, k321⟩ := h320
                                     refine lv_goto (tgt := 189) hx hb dX1_grow_185 (of_decide_eq_true rfl) ?_
                                     exact by
                                      refine jast hx hb hK hP hJ hA hS (jc_33 cI cL ad σ302 τ) (ja_33 cI cL ad σ302 τ _ _) (jin tx285 (by omega) (by omega)) dX1_grow_189 (fun σ323 H locs eσ323 hP hS => ?_)
                                      obtain ⟨x324, ex324⟩ : ∃ y : Int32, y = x259 + 1 := ⟨_, rfl⟩
                                      have tx324 : x324.toInt = x259.toInt + 1 := (jadd ex324 rfl jz_1 (by omega) (by omega)).trans (by omega)
                                      refine lv_iinc (v := x324) (lv' := [(8, .int x324), (7, .int x254), (6, .int x252), (5, .int x224), (4, .int 1), (3, .int x16), (0, .ref (ad 31)), (1, .int a1), (2, .int a2)]) hx hb dX1_grow_190 hl (k := 0) rfl (by rw [ex324]; rfl) (of_decide_eq_true rfl) rfl (fun ls hl => ?_)
                                      refine lv_goto (tgt := 143) hx hb dX1_grow_193 (of_decide_eq_true rfl) ?_
                                      have p325 : jKb σ323 := jKb.fr (congrFun (jnp 31 eσ323 (of_decide_eq_true rfl)) 8) (congrFun (jnp 31 eσ323 (of_decide_eq_true rfl)) 11) (jnp 32 eσ323 (of_decide_eq_true rfl)) p307
                                      have p326 : jKh σ323 := jKh.fr (congrFun (jnp 31 eσ323 (of_decide_eq_true rfl)) 8) (jnp 32 eσ323 (of_decide_eq_true rfl)) (jnp 36 eσ323 (of_decide_eq_true rfl)) (jnp 37 eσ323 (of_decide_eq_true rfl)) p308
                                      have z327 : (σ323 31 8).toInt = (σ302 31 8).toInt := (congrArg Int32.toInt (show σ323 31 8 = (σ302 31 8) from (congrFun (jnp 31 eσ323 (of_decide_eq_true rfl)) 8)))
                                      have z328 : (σ323 31 10).toInt = A2 := ((congrArg Int32.toInt (show σ323 31 10 = a2 from ((congrFun (jnp 31 eσ323 (of_decide_eq_true rfl)) 10).trans ((f305 10 (of_decide_eq_true rfl)).trans ((f266 10 (of_decide_eq_true rfl)).trans ((f234 10 (of_decide_eq_true rfl)).trans ((f204 10 (of_decide_eq_true rfl)).trans ((jkp 10 eσ191 (of_decide_eq_true rfl)).trans ((jkp 10 eσ190 (of_decide_eq_true rfl)).trans ((jkp 10 eσ189 (of_decide_eq_true rfl)).trans (jsp eσ188))))))))))).trans t2)
                                      exact by
                                       have z329 : (σ323 31 11).toInt = x16.toInt := (congrArg Int32.toInt (show σ323 31 11 = x16 from ((congrFun (jnp 31 eσ323 (of_decide_eq_true rfl)) 11).trans ((f305 11 (of_decide_eq_true rfl)).trans ((f266 11 (of_decide_eq_true rfl)).trans ((f234 11 (of_decide_eq_true rfl)).trans ((f204 11 (of_decide_eq_true rfl)).trans ((jkp 11 eσ191 (of_decide_eq_true rfl)).trans ((jkp 11 eσ190 (of_decide_eq_true rfl)).trans (jsp eσ189))))))))))
                                       have w330 : ∀ k : Nat, k < 1400 → (-1) ≤ (σ323 33 k).toInt ∧ (σ323 33 k).toInt ≤ 350 := (by rw [eσ323]; exact jrr_up w315 (by omega) (by omega))
                                       have w331 : ∀ k : Nat, k < 3159 → (-1) ≤ (σ323 35 k).toInt ∧ (σ323 35 k).toInt ≤ 3 := (jrr_fr (jnp 35 eσ323 (of_decide_eq_true rfl)) w316)
                                       have w332 : ∀ k : Nat, k < 1024 → 0 ≤ (σ323 36 k).toInt ∧ (σ323 36 k).toInt ≤ 349 := (jrr_fr (jnp 36 eσ323 (of_decide_eq_true rfl)) w317)
                                       have I333 : jI31 σ323 := ⟨(by omega), (by omega), (by omega), (by omega), w330, w331, w332⟩
                                       exact by exact ihlp257 x324 σ323 _ _ ls (by have h90 := tx324; omega) (by have h90 := tx324; omega) (by have h90 := tx324; omega) (fun i hi => ((jnp i eσ323 (imp_94 i hi)).trans ((f304 i (imp_86 i hi)).trans (f265 i hi)))) (fun i hi => ((congrFun (jnp 31 eσ323 (of_decide_eq_true rfl)) i).trans ((f305 i hi).trans (f266 i hi))))  p325 p326 I333 (by rw [show σ323 31 8 = σ302 31 8 from (congrFun (jnp 31 eσ323 (of_decide_eq_true rfl)) 8), show σ323 32 = σ302 32 from (jnp 32 eσ323 (of_decide_eq_true rfl)), show σ323 31 11 = σ260 31 11 from ((congrFun (jnp 31 eσ323 (of_decide_eq_true rfl)) 11).trans (f305 11 (of_decide_eq_true rfl))), show σ323 31 12 = σ260 31 12 from ((congrFun (jnp 31 eσ323 (of_decide_eq_true rfl)) 12).trans (f305 12 (of_decide_eq_true rfl)))]; exact ⟨(fun hm => jqGo.put (q270.1 hm) (by omega) (by omega) (by omega) (by omega) q270.2.1 ((jqMy_iff (by omega) (by omega)).mpr ((w288).elim (fun w => w.2) (fun w => absurd w.1 (of_decide_eq_true rfl)))) (w296 (by omega) (by omega)) w309 (by omega) p268 (by omega) (by rw [eσ323, jup_row, f304 33 (of_decide_eq_true rfl), jnc (show x285.toInt = 4 * x224.toInt + x259.toInt by have h9 := tx285; omega)]) rfl (by have h9 := tx324; omega)), (by rw [(w309).1 x224.toInt.toNat (by omega)]; exact q270.2.1), (by have w8 := jqAd.le w309; have w9 := q270.2.2; omega)⟩) hP hS (lv_sub hl [0, 1, 2, 3, 4, 5, 6, 7, 8] rfl)
                                 · obtain ⟨q335, k334⟩ := h290
                                   have q335 := q335.symm
                                   subst q335
                                   exact by
                                    refine lv_if_eq (tgt := 188) hx hb dX1_grow_167 (of_decide_eq_true rfl) (fun _ => ?_) (fun c => absurd (of_decide_eq_true rfl) c)
                                    refine lv_iconst (v := (-1)) hx hb dX1_grow_188 (of_decide_eq_true rfl) ?_
                                    refine jast hx hb hK hP hJ hA hS (jc_33 cI cL ad σ260 τ) (ja_33 cI cL ad σ260 τ _ _) (jin tx285 (by omega) (by omega)) dX1_grow_189 (fun σ336 H locs eσ336 hP hS => ?_)
                                    obtain ⟨x337, ex337⟩ : ∃ y : Int32, y = x259 + 1 := ⟨_, rfl⟩
                                    have tx337 : x337.toInt = x259.toInt + 1 := (jadd ex337 rfl jz_1 (by omega) (by omega)).trans (by omega)
                                    refine lv_iinc (v := x337) (lv' := [(8, .int x337), (7, .int x254), (6, .int x252), (5, .int x224), (4, .int 1), (3, .int x16), (0, .ref (ad 31)), (1, .int a1), (2, .int a2)]) hx hb dX1_grow_190 hl (k := 0) rfl (by rw [ex337]; rfl) (of_decide_eq_true rfl) rfl (fun ls hl => ?_)
                                    refine lv_goto (tgt := 143) hx hb dX1_grow_193 (of_decide_eq_true rfl) ?_
                                    have p338 : jKb σ336 := jKb.fr (congrFun (jnp 31 eσ336 (of_decide_eq_true rfl)) 8) (congrFun (jnp 31 eσ336 (of_decide_eq_true rfl)) 11) (jnp 32 eσ336 (of_decide_eq_true rfl)) p267
                                    have p339 : jKh σ336 := jKh.fr (congrFun (jnp 31 eσ336 (of_decide_eq_true rfl)) 8) (jnp 32 eσ336 (of_decide_eq_true rfl)) (jnp 36 eσ336 (of_decide_eq_true rfl)) (jnp 37 eσ336 (of_decide_eq_true rfl)) p268
                                    exact by
                                     have z340 : (σ336 31 8).toInt = (σ260 31 8).toInt := (congrArg Int32.toInt (show σ336 31 8 = (σ260 31 8) from (congrFun (jnp 31 eσ336 (of_decide_eq_true rfl)) 8)))
                                     have z341 : (σ336 31 10).toInt = A2 := ((congrArg Int32.toInt (show σ336 31 10 = a2 from ((congrFun (jnp 31 eσ336 (of_decide_eq_true rfl)) 10).trans ((f266 10 (of_decide_eq_true rfl)).trans ((f234 10 (of_decide_eq_true rfl)).trans ((f204 10 (of_decide_eq_true rfl)).trans ((jkp 10 eσ191 (of_decide_eq_true rfl)).trans ((jkp 10 eσ190 (of_decide_eq_true rfl)).trans ((jkp 10 eσ189 (of_decide_eq_true rfl)).trans (jsp eσ188)))))))))).trans t2)
                                     have z342 : (σ336 31 11).toInt = x16.toInt := (congrArg Int32.toInt (show σ336 31 11 = x16 from ((congrFun (jnp 31 eσ336 (of_decide_eq_true rfl)) 11).trans ((f266 11 (of_decide_eq_true rfl)).trans ((f234 11 (of_decide_eq_true rfl)).trans ((f204 11 (of_decide_eq_true rfl)).trans ((jkp 11 eσ191 (of_decide_eq_true rfl)).trans ((jkp 11 eσ190 (of_decide_eq_true rfl)).trans (jsp eσ189)))))))))
                                     have w343 : ∀ k : Nat, k < 1400 → (-1) ≤ (σ336 33 k).toInt ∧ (σ336 33 k).toInt ≤ 350 := (by rw [eσ336]; exact jrr_up w275 (by have h9 := jz_m1; omega) (by have h9 := jz_m1; omega))
                                     have w344 : ∀ k : Nat, k < 3159 → (-1) ≤ (σ336 35 k).toInt ∧ (σ336 35 k).toInt ≤ 3 := (jrr_fr (jnp 35 eσ336 (of_decide_eq_true rfl)) w276)
                                     have w345 : ∀ k : Nat, k < 1024 → 0 ≤ (σ336 36 k).toInt ∧ (σ336 36 k).toInt ≤ 349 := (jrr_fr (jnp 36 eσ336 (of_decide_eq_true rfl)) w277)
                                     have I346 : jI31 σ336 := ⟨(by omega), (by omega), (by omega), (by omega), w343, w344, w345⟩
                                     exact by exact ihlp257 x337 σ336 _ _ ls (by have h90 := tx337; omega) (by have h90 := tx337; omega) (by have h90 := tx337; omega) (fun i hi => ((jnp i eσ336 (imp_94 i hi)).trans (f265 i hi))) (fun i hi => ((congrFun (jnp 31 eσ336 (of_decide_eq_true rfl)) i).trans (f266 i hi)))  p338 p339 I346 (by rw [show σ336 31 8 = σ260 31 8 from (congrFun (jnp 31 eσ336 (of_decide_eq_true rfl)) 8), show σ336 31 11 = σ260 31 11 from (congrFun (jnp 31 eσ336 (of_decide_eq_true rfl)) 11), show σ336 31 12 = σ260 31 12 from (congrFun (jnp 31 eσ336 (of_decide_eq_true rfl)) 12), show σ336 32 = σ260 32 from (jnp 32 eσ336 (of_decide_eq_true rfl))]; exact ⟨(fun hm => jqGo.none (q270.1 hm) (by omega) (by omega) (by omega) (by omega) q270.2.1 (fun w => ((w288).elim (fun w => absurd w.1 (of_decide_eq_true rfl)) (fun w => w.2)) ((jqMy_iff (by omega) (by omega)).mp w)) (by rw [eσ336, jup_row, jnc (show x285.toInt = 4 * x224.toInt + x259.toInt by have h9 := tx285; omega)]) (of_decide_eq_true rfl) (by have h9 := tx337; omega)), q270.2.1, q270.2.2⟩) hP hS (lv_sub hl [0, 1, 2, 3, 4, 5, 6, 7, 8] rfl)
                        exact by exact lp257 1000000 0 σ228 _ _ ls (by have h90 := jz_0; omega) (by have h90 := jz_0; omega) (by have h90 := jz_0; omega) (fun _ _ => rfl) (fun _ _ => rfl)  p235 p236 p237 ⟨(by rw [show (0 : Int32).toInt = 0 from by decide]; exact q238), ⟨(by have w := jandm (x := (σ228 32 x224.toNatClampNeg)) (y := x252) (m := 134217727) (k := 27) (M := 134217728) (by rw [ex252]) rfl rfl (of_decide_eq_true rfl); show (σ228 32 x224.toNatClampNeg).toInt = _; omega), ⟨by omega, by omega⟩, (by omega)⟩, by omega⟩ hP hS hl
              exact by exact lp222 1000000 0 σ201 _ _ ls (by have h90 := jz_0; omega) (by have h90 := jz_0; omega) (by have h90 := jz_0; omega) (fun _ _ => rfl) (fun _ _ => rfl)  p206 p207 I205 (by rw [show σ201 31 11 = σ191 31 11 from (f204 11 (of_decide_eq_true rfl)), show σ201 31 12 = σ191 31 12 from (f204 12 (of_decide_eq_true rfl))]; exact (fun hm => jqGo.first hm (by have w := w208; rw [show (σ191 31 8).toInt = 0 from by omega] at w; exact w) rfl (by have h9 := jz_0; omega))) hP hS hl
         · exact by
            have kc186 := jeq c186 rfl rfl
            refine lv_aload_n hx hb dX1_grow_48 rfl (lv_at hl 2 rfl) ?_
            refine va_get (D := D) hx hb hts inlX1 hown hK hP 31 (jc_31 cI cL ad σ τ) rfl 12 (of_decide_eq_true rfl) (hts _ kw_28_8) (fun _ h9 => h9) rfl dX1_grow_49 ?_
            refine lv_iload hx hb dX1_grow_52 (lv_at hl 0 rfl) ?_
            refine lv_icmp_ne (tgt := 63) hx hb dX1_grow_54 (of_decide_eq_true rfl) (fun c347 => ?_) (fun c347 => ?_)
            · have kc347 := jne c347 rfl jz_1
              refine lv_aload_n hx hb dX1_grow_63 rfl (lv_at hl 2 rfl) ?_
              refine lv_iload_n hx hb dX1_grow_64 rfl (lv_at hl 3 rfl) ?_
              refine jput (ty := .int) hx hb hts inlX1 tyX1 tyX1_ok nmX1 hown hK hP hJ hA hS (jc_31 cI cL ad σ τ) rfl (k := 9) (of_decide_eq_true rfl) (Nat.le_of_ble_eq_true rfl) (jp_31_9 cI cL ad σ τ a1) (hts _ kw_5_9) (fun _ h9 => h9) rfl (by decide +kernel) rfl rfl dX1_grow_65 (fun σ348 H locs eσ348 hP hS => ?_)
              refine lv_aload_n hx hb dX1_grow_68 rfl (lv_at hl 2 rfl) ?_
              refine lv_iload_n hx hb dX1_grow_69 rfl (lv_at hl 4 rfl) ?_
              refine jput (ty := .int) hx hb hts inlX1 tyX1 tyX1_ok nmX1 hown hK hP hJ hA hS (jc_31 cI cL ad σ348 τ) rfl (k := 10) (of_decide_eq_true rfl) (Nat.le_of_ble_eq_true rfl) (jp_31_10 cI cL ad σ348 τ a2) (hts _ kw_28_9) (fun _ h9 => h9) rfl (by decide +kernel) rfl rfl dX1_grow_70 (fun σ349 H locs eσ349 hP hS => ?_)
              refine lv_aload_n hx hb dX1_grow_73 rfl (lv_at hl 2 rfl) ?_
              refine lv_iload_n hx hb dX1_grow_74 rfl (lv_at hl 1 rfl) ?_
              refine jput (ty := .int) hx hb hts inlX1 tyX1 tyX1_ok nmX1 hown hK hP hJ hA hS (jc_31 cI cL ad σ349 τ) rfl (k := 11) (of_decide_eq_true rfl) (Nat.le_of_ble_eq_true rfl) (jp_31_11 cI cL ad σ349 τ x16) (hts _ kw_28_7) (fun _ h9 => h9) rfl (by decide +kernel) rfl rfl dX1_grow_75 (fun σ350 H locs eσ350 hP hS => ?_)
              refine lv_aload_n hx hb dX1_grow_78 rfl (lv_at hl 2 rfl) ?_
              refine lv_iload hx hb dX1_grow_79 (lv_at hl 0 rfl) ?_
              refine jput (ty := .boolean) hx hb hts inlX1 tyX1 tyX1_ok nmX1 hown hK hP hJ hA hS (jc_31 cI cL ad σ350 τ) rfl (k := 12) (of_decide_eq_true rfl) (Nat.le_of_ble_eq_true rfl) (jp_31_12 cI cL ad σ350 τ 1) (hts _ kw_28_8) (fun _ h9 => h9) rfl (by decide +kernel) rfl rfl dX1_grow_81 (fun σ351 H locs eσ351 hP hS => ?_)
              refine lv_aload_n hx hb dX1_grow_84 rfl (lv_at hl 2 rfl) ?_
              refine lv_iconst (v := 0) hx hb dX1_grow_85 (of_decide_eq_true rfl) ?_
              refine jput (ty := .int) hx hb hts inlX1 tyX1 tyX1_ok nmX1 hown hK hP hJ hA hS (jc_31 cI cL ad σ351 τ) rfl (k := 8) (of_decide_eq_true rfl) (Nat.le_of_ble_eq_true rfl) (jp_31_8 cI cL ad σ351 τ 0) (hts _ kw_27_22) (fun _ h9 => h9) rfl (by decide +kernel) rfl rfl dX1_grow_86 (fun σ352 H locs eσ352 hP hS => ?_)
              have z353 : (σ352 31 8).toInt = 0 := ((congrArg Int32.toInt (show σ352 31 8 = 0 from (jsp eσ352))).trans jz_0)
              exact by
               have p354 : jKb σ352 := (jKb.nil (by omega))
               have p355 : jKh σ352 := (jKh.nil (by omega))
               refine lv_aload_n hx hb dX1_grow_89 rfl (lv_at hl 2 rfl) ?_
               refine lv_iload_n hx hb dX1_grow_90 rfl (lv_at hl 3 rfl) ?_
               refine lv_iconst (v := 0) hx hb dX1_grow_91 (of_decide_eq_true rfl) ?_
               have z356 : (σ352 31 10).toInt = A2 := ((congrArg Int32.toInt (show σ352 31 10 = a2 from ((jkp 10 eσ352 (of_decide_eq_true rfl)).trans ((jkp 10 eσ351 (of_decide_eq_true rfl)).trans ((jkp 10 eσ350 (of_decide_eq_true rfl)).trans (jsp eσ349)))))).trans t2)
               have z357 : (σ352 31 11).toInt = x16.toInt := (congrArg Int32.toInt (show σ352 31 11 = x16 from ((jkp 11 eσ352 (of_decide_eq_true rfl)).trans ((jkp 11 eσ351 (of_decide_eq_true rfl)).trans (jsp eσ350)))))
               have w358 : ∀ k : Nat, k < 1400 → (-1) ≤ (σ352 33 k).toInt ∧ (σ352 33 k).toInt ≤ 350 := (jrr_fr (jnp 33 eσ352 (of_decide_eq_true rfl)) (jrr_fr (jnp 33 eσ351 (of_decide_eq_true rfl)) (jrr_fr (jnp 33 eσ350 (of_decide_eq_true rfl)) (jrr_fr (jnp 33 eσ349 (of_decide_eq_true rfl)) (jrr_fr (jnp 33 eσ348 (of_decide_eq_true rfl)) w9)))))
               have w359 : ∀ k : Nat, k < 3159 → (-1) ≤ (σ352 35 k).toInt ∧ (σ352 35 k).toInt ≤ 3 := (jrr_fr (jnp 35 eσ352 (of_decide_eq_true rfl)) (jrr_fr (jnp 35 eσ351 (of_decide_eq_true rfl)) (jrr_fr (jnp 35 eσ350 (of_decide_eq_true rfl)) (jrr_fr (jnp 35 eσ349 (of_decide_eq_true rfl)) (jrr_fr (jnp 35 eσ348 (of_decide_eq_true rfl)) w10)))))
               exact by
                have w360 : ∀ k : Nat, k < 1024 → 0 ≤ (σ352 36 k).toInt ∧ (σ352 36 k).toInt ≤ 349 := (jrr_fr (jnp 36 eσ352 (of_decide_eq_true rfl)) (jrr_fr (jnp 36 eσ351 (of_decide_eq_true rfl)) (jrr_fr (jnp 36 eσ350 (of_decide_eq_true rfl)) (jrr_fr (jnp 36 eσ349 (of_decide_eq_true rfl)) (jrr_fr (jnp 36 eσ348 (of_decide_eq_true rfl)) w11)))))
                have I361 : jI31 σ352 := ⟨(by omega), (by omega), (by omega), (by omega), w358, w359, w360⟩
                refine jcallV (As := [.int a1, .int 0]) (rest := []) ⟨hx, hb, hml, hown, hts⟩ hK hP hA hS hZ (c_X1_add_31 l D cI cL ad zz hJ σ352 τ a1 (A1) t1 0 (0) jz_0 I361 p354 p355 (by omega) (by omega)) cw_RX1_111 (jc_31 cI cL ad σ352 τ) rfl ⟨Nat.le_of_ble_eq_true rfl, Nat.le_of_ble_eq_true rfl⟩ rfl rfl rfl hl.1 rfl (Nat.le_of_ble_eq_true rfl) dX1_grow_92 ⟨Nat.zero_le _, Nat.zero_le _⟩ (fun r363 σ362 τ362 H locs h362 hP hS => ?_)
                obtain ⟨rfl, f364, f365, I366, p367, p368, w369, h362⟩ := h362
                obtain ⟨i371, i372, i373, i374, w375, w376, w377⟩ : (0 ≤ (σ362 31 8).toInt ∧ (σ362 31 8).toInt ≤ 350) ∧ (0 ≤ (σ362 31 10).toInt ∧ (σ362 31 10).toInt ≤ 12) ∧ (0 ≤ (σ362 31 11).toInt ∧ (σ362 31 11).toInt ≤ 8) ∧ ((σ362 31 10).toInt + (σ362 31 11).toInt ≤ 12) ∧ (∀ k : Nat, k < 1400 → (-1) ≤ (σ362 33 k).toInt ∧ (σ362 33 k).toInt ≤ 350) ∧ (∀ k : Nat, k < 3159 → (-1) ≤ (σ362 35 k).toInt ∧ (σ362 35 k).toInt ≤ 3) ∧ (∀ k : Nat, k < 1024 → 0 ≤ (σ362 36 k).toInt ∧ (σ362 36 k).toInt ≤ 349) := id I366
                have z378 : (σ362 31 10).toInt = A2 := ((congrArg Int32.toInt (show σ362 31 10 = a2 from ((f365 10 (of_decide_eq_true rfl)).trans ((jkp 10 eσ352 (of_decide_eq_true rfl)).trans ((jkp 10 eσ351 (of_decide_eq_true rfl)).trans ((jkp 10 eσ350 (of_decide_eq_true rfl)).trans (jsp eσ349))))))).trans t2)
                have z379 : (σ362 31 11).toInt = x16.toInt := (congrArg Int32.toInt (show σ362 31 11 = x16 from ((f365 11 (of_decide_eq_true rfl)).trans ((jkp 11 eσ352 (of_decide_eq_true rfl)).trans ((jkp 11 eσ351 (of_decide_eq_true rfl)).trans (jsp eσ350))))))
                have h380 := h362
                obtain ⟨q382, k381⟩ := h380
                exact by
                 refine lv_pop hx hb dX1_grow_95 rfl ?_
                 refine lv_iconst (v := 0) hx hb dX1_grow_96 (of_decide_eq_true rfl) ?_
                 refine lv_istore (lv' := [(5, .int 0), (4, .int 1), (3, .int x16), (0, .ref (ad 31)), (1, .int a1), (2, .int a2)]) hx hb dX1_grow_97 hl (of_decide_eq_true rfl) rfl (fun ls hl => ?_)
                 have lp383 : ∀ (n384 : Nat) (x385 : Int32) (σ389 : Nat → Nat → Int32) (H : Heap) (locs : List Loc) (ls : Array Slot), (-x385.toInt + 350 : Int) < n384 → 0 ≤ x385.toInt → x385.toInt ≤ 350 → (∀ i : Nat, (i < 31 ∨ 33 < i) ∧ (i < 36 ∨ 37 < i) → σ389 i = σ362 i) → (∀ k : Nat, (k < 8 ∨ 8 < k) → σ389 31 k = σ362 31 k) → jKb σ389 → jKh σ389 → jI31 σ389 → (jFm a1 → jqGo a1 (decide ((σ389 31 12).toInt ≠ 0)) (σ389 31 11).toInt (σ389 31 8).toInt (σ389 32) (σ389 33) x385.toInt 0) → jH D cI cL ad σ389 τ H → va_S (jA ad) s.heap H locs → lv_has ls 9 [(5, .int x385), (4, .int 1), (3, .int x16), (0, .ref (ad 31)), (1, .int a1), (2, .int a2)] → W p l e ({ frames := 3, cells := 0, slots := 0, locals := 73 }) s m args below meth c H locs 0 0 Q (F0 m 99 ls []) := by
                   intro n384
                   induction n384 with
                   | zero => intro x385 σ389 H locs ls h391 h392 h393; exact absurd h391 (by omega)
                   | succ n384 ihlp383 =>
                     intro x385 σ389 H locs ls h391 h392 h393 f394 f395 p396 p397 p398 q399 hP hS hl
                     exact by
                      obtain ⟨i400, i401, i402, i403, w404, w405, w406⟩ : (0 ≤ (σ389 31 8).toInt ∧ (σ389 31 8).toInt ≤ 350) ∧ (0 ≤ (σ389 31 10).toInt ∧ (σ389 31 10).toInt ≤ 12) ∧ (0 ≤ (σ389 31 11).toInt ∧ (σ389 31 11).toInt ≤ 8) ∧ ((σ389 31 10).toInt + (σ389 31 11).toInt ≤ 12) ∧ (∀ k : Nat, k < 1400 → (-1) ≤ (σ389 33 k).toInt ∧ (σ389 33 k).toInt ≤ 350) ∧ (∀ k : Nat, k < 3159 → (-1) ≤ (σ389 35 k).toInt ∧ (σ389 35 k).toInt ≤ 3) ∧ (∀ k : Nat, k < 1024 → 0 ≤ (σ389 36 k).toInt ∧ (σ389 36 k).toInt ≤ 349) := id p398
                      have z407 : (σ389 31 10).toInt = A2 := ((congrArg Int32.toInt (show σ389 31 10 = a2 from ((f395 10 (of_decide_eq_true rfl)).trans ((f365 10 (of_decide_eq_true rfl)).trans ((jkp 10 eσ352 (of_decide_eq_true rfl)).trans ((jkp 10 eσ351 (of_decide_eq_true rfl)).trans ((jkp 10 eσ350 (of_decide_eq_true rfl)).trans (jsp eσ349)))))))).trans t2)
                      have z408 : (σ389 31 11).toInt = x16.toInt := (congrArg Int32.toInt (show σ389 31 11 = x16 from ((f395 11 (of_decide_eq_true rfl)).trans ((f365 11 (of_decide_eq_true rfl)).trans ((jkp 11 eσ352 (of_decide_eq_true rfl)).trans ((jkp 11 eσ351 (of_decide_eq_true rfl)).trans (jsp eσ350)))))))
                      refine lv_iload hx hb dX1_grow_99 (lv_at hl 0 rfl) ?_
                      refine lv_aload_n hx hb dX1_grow_101 rfl (lv_at hl 3 rfl) ?_
                      refine va_get (D := D) hx hb hts inlX1 hown hK hP 31 (jc_31 cI cL ad σ389 τ) rfl 8 (of_decide_eq_true rfl) (hts _ kw_27_22) (fun _ h9 => h9) rfl dX1_grow_102 ?_
                      refine lv_icmp_ge (tgt := 202) hx hb dX1_grow_105 (of_decide_eq_true rfl) (fun c409 => ?_) (fun c409 => ?_)
                      · have kc409 := jle c409 rfl rfl
                        have p410 : jKg σ389 := (show jFm (σ389 31 9) → _ from by rw [show σ389 31 9 = a1 from ((f395 9 (of_decide_eq_true rfl)).trans ((f365 9 (of_decide_eq_true rfl)).trans ((jkp 9 eσ352 (of_decide_eq_true rfl)).trans ((jkp 9 eσ351 (of_decide_eq_true rfl)).trans ((jkp 9 eσ350 (of_decide_eq_true rfl)).trans ((jkp 9 eσ349 (of_decide_eq_true rfl)).trans (jsp eσ348)))))))]; exact fun hm => (q399 hm).fin (by omega))
                        exact by
                         have z411 : (σ389 31 9).toInt = A1 := ((congrArg Int32.toInt (show σ389 31 9 = a1 from ((f395 9 (of_decide_eq_true rfl)).trans ((f365 9 (of_decide_eq_true rfl)).trans ((jkp 9 eσ352 (of_decide_eq_true rfl)).trans ((jkp 9 eσ351 (of_decide_eq_true rfl)).trans ((jkp 9 eσ350 (of_decide_eq_true rfl)).trans ((jkp 9 eσ349 (of_decide_eq_true rfl)).trans (jsp eσ348))))))))).trans t1)
                         exact by exact hret σ389 τ _ _ _ _ ⟨rfl, (fun i hi => ((f394 i hi).trans ((f364 i (imp_86 i hi)).trans ((jnp i eσ352 (imp_87 i hi)).trans ((jnp i eσ351 (imp_87 i hi)).trans ((jnp i eσ350 (imp_87 i hi)).trans ((jnp i eσ349 (imp_87 i hi)).trans (jnp i eσ348 (imp_87 i hi))))))))), (fun i hi => ((f395 i (imp_88 i hi)).trans ((f365 i (imp_88 i hi)).trans ((jkp i eσ352 (imp_89 i hi)).trans ((jkp i eσ351 (imp_90 i hi)).trans ((jkp i eσ350 (imp_91 i hi)).trans ((jkp i eσ349 (imp_92 i hi)).trans (jkp i eσ348 (imp_93 i hi))))))))), p398, p396, p397, p410, (by rw [show σ389 31 12 = 1 from ((f395 12 (of_decide_eq_true rfl)).trans ((f365 12 (of_decide_eq_true rfl)).trans ((jkp 12 eσ352 (of_decide_eq_true rfl)).trans (jsp eσ351))))]; exact w20), (by omega), (by omega), (by omega), trivial⟩ hP hS dX1_grow_202
                      · have kc409 := jnle c409 rfl rfl
                        refine lv_iload hx hb dX1_grow_108 (lv_at hl 0 rfl) ?_
                        refine lv_sipush (v := 350) hx hb dX1_grow_110 (of_decide_eq_true rfl) ?_
                        refine lv_icmp_ge (tgt := 202) hx hb dX1_grow_113 (of_decide_eq_true rfl) (fun c => absurd (jle c jz_350 rfl) (by omega)) (fun c412 => ?_)
                        have kc412 := jnle c412 jz_350 rfl
                        refine lv_aload_n hx hb dX1_grow_116 rfl (lv_at hl 3 rfl) ?_
                        refine va_get (D := D) hx hb hts inlX1 hown hK hP 31 (jc_31 cI cL ad σ389 τ) rfl 2 (of_decide_eq_true rfl) (hts _ kw_5_3) (fun _ h9 => h9) rfl dX1_grow_117 ?_
                        exact by
                         refine lv_iload hx hb dX1_grow_120 (lv_at hl 0 rfl) ?_
                         refine jald hx hb hK hP (jc_32 cI cL ad σ389 τ) (jin rfl (by omega) (by omega)) dX1_grow_122 ?_
                         refine jtopr (y := (σ389 32 x385.toNatClampNeg)) rfl ?_
                         refine lv_ldc (v := 134217727) hx hb hown (hts _ kw_28_10) dX1_grow_123 ?_
                         refine lv_iand hx hb dX1_grow_125 ?_
                         refine lv_topi (fun x413 ex413 => ?_)
                         have gx413 := jrg (rfl : x413.toInt = x413.toInt)
                         have g414 : 0 ≤ x413.toInt ∧ x413.toInt ≤ 134217727 := jmask ex413 27 (of_decide_eq_true rfl) (of_decide_eq_true rfl)
                         refine lv_istore (lv' := [(6, .int x413), (5, .int x385), (4, .int 1), (3, .int x16), (0, .ref (ad 31)), (1, .int a1), (2, .int a2)]) hx hb dX1_grow_126 hl (of_decide_eq_true rfl) rfl (fun ls hl => ?_)
                         exact by
                          refine lv_aload_n hx hb dX1_grow_128 rfl (lv_at hl 4 rfl) ?_
                          refine va_get (D := D) hx hb hts inlX1 hown hK hP 31 (jc_31 cI cL ad σ389 τ) rfl 2 (of_decide_eq_true rfl) (hts _ kw_5_3) (fun _ h9 => h9) rfl dX1_grow_129 ?_
                          refine lv_iload hx hb dX1_grow_132 (lv_at hl 1 rfl) ?_
                          refine jald hx hb hK hP (jc_32 cI cL ad σ389 τ) (jin rfl (by omega) (by omega)) dX1_grow_134 ?_
                          refine jtopr (y := (σ389 32 x385.toNatClampNeg)) rfl ?_
                          refine lv_bipush (v := 27) hx hb dX1_grow_135 (of_decide_eq_true rfl) ?_
                          refine lv_ishr hx hb dX1_grow_137 ?_
                          refine lv_topi (fun x415 ex415 => ?_)
                          have gx415 := jrg (rfl : x415.toInt = x415.toInt)
                          exact by
                           have k416 := jshr27 (x := x415) (k := (σ389 32 x385.toNatClampNeg)) (by rw [ex415])
                           have k417 := p396 x385.toNatClampNeg (by rw [jnc (rfl : x385.toInt = x385.toInt)]; omega)
                           refine lv_istore (lv' := [(7, .int x415), (6, .int x413), (5, .int x385), (4, .int 1), (3, .int x16), (0, .ref (ad 31)), (1, .int a1), (2, .int a2)]) hx hb dX1_grow_138 hl (of_decide_eq_true rfl) rfl (fun ls hl => ?_)
                           refine lv_iconst (v := 0) hx hb dX1_grow_140 (of_decide_eq_true rfl) ?_
                           refine lv_istore (lv' := [(8, .int 0), (7, .int x415), (6, .int x413), (5, .int x385), (4, .int 1), (3, .int x16), (0, .ref (ad 31)), (1, .int a1), (2, .int a2)]) hx hb dX1_grow_141 hl (of_decide_eq_true rfl) rfl (fun ls hl => ?_)
                           have lp418 : ∀ (n419 : Nat) (x420 : Int32) (σ421 : Nat → Nat → Int32) (H : Heap) (locs : List Loc) (ls : Array Slot), (-x420.toInt + 4 : Int) < n419 → 0 ≤ x420.toInt → x420.toInt ≤ 4 → (∀ i : Nat, (i < 31 ∨ 33 < i) ∧ (i < 36 ∨ 37 < i) → σ421 i = σ389 i) → (∀ k : Nat, (k < 8 ∨ 8 < k) → σ421 31 k = σ389 31 k) → jKb σ421 → jKh σ421 → jI31 σ421 → ((jFm a1 → jqGo a1 (decide ((σ421 31 12).toInt ≠ 0)) (σ421 31 11).toInt (σ421 31 8).toInt (σ421 32) (σ421 33) x385.toInt x420.toInt) ∧ jqNo (σ421 32 x385.toInt.toNat) x413 x415.toInt ∧ x385.toInt < (σ421 31 8).toInt) → jH D cI cL ad σ421 τ H → va_S (jA ad) s.heap H locs → lv_has ls 9 [(8, .int x420), (7, .int x415), (6, .int x413), (5, .int x385), (4, .int 1), (3, .int x16), (0, .ref (ad 31)), (1, .int a1), (2, .int a2)] → W p l e ({ frames := 3, cells := 0, slots := 0, locals := 73 }) s m args below meth c H locs 0 0 Q (F0 m 143 ls []) := by
                             intro n419
                             induction n419 with
                             | zero => intro x420 σ421 H locs ls h423 h424 h425; exact absurd h423 (by omega)
                             | succ n419 ihlp418 =>
                               intro x420 σ421 H locs ls h423 h424 h425 f426 f427 p428 p429 p430 q431 hP hS hl
                               exact by
                                obtain ⟨i432, i433, i434, i435, w436, w437, w438⟩ : (0 ≤ (σ421 31 8).toInt ∧ (σ421 31 8).toInt ≤ 350) ∧ (0 ≤ (σ421 31 10).toInt ∧ (σ421 31 10).toInt ≤ 12) ∧ (0 ≤ (σ421 31 11).toInt ∧ (σ421 31 11).toInt ≤ 8) ∧ ((σ421 31 10).toInt + (σ421 31 11).toInt ≤ 12) ∧ (∀ k : Nat, k < 1400 → (-1) ≤ (σ421 33 k).toInt ∧ (σ421 33 k).toInt ≤ 350) ∧ (∀ k : Nat, k < 3159 → (-1) ≤ (σ421 35 k).toInt ∧ (σ421 35 k).toInt ≤ 3) ∧ (∀ k : Nat, k < 1024 → 0 ≤ (σ421 36 k).toInt ∧ (σ421 36 k).toInt ≤ 349) := id p430
                                have z439 : (σ421 31 10).toInt = A2 := ((congrArg Int32.toInt (show σ421 31 10 = a2 from ((f427 10 (of_decide_eq_true rfl)).trans ((f395 10 (of_decide_eq_true rfl)).trans ((f365 10 (of_decide_eq_true rfl)).trans ((jkp 10 eσ352 (of_decide_eq_true rfl)).trans ((jkp 10 eσ351 (of_decide_eq_true rfl)).trans ((jkp 10 eσ350 (of_decide_eq_true rfl)).trans (jsp eσ349))))))))).trans t2)
                                have z440 : (σ421 31 11).toInt = x16.toInt := (congrArg Int32.toInt (show σ421 31 11 = x16 from ((f427 11 (of_decide_eq_true rfl)).trans ((f395 11 (of_decide_eq_true rfl)).trans ((f365 11 (of_decide_eq_true rfl)).trans ((jkp 11 eσ352 (of_decide_eq_true rfl)).trans ((jkp 11 eσ351 (of_decide_eq_true rfl)).trans (jsp eσ350))))))))
                                refine lv_iload hx hb dX1_grow_143 (lv_at hl 0 rfl) ?_
                                refine lv_iconst (v := 4) hx hb dX1_grow_145 (of_decide_eq_true rfl) ?_
                                refine lv_icmp_ge (tgt := 196) hx hb dX1_grow_146 (of_decide_eq_true rfl) (fun c441 => ?_) (fun c441 => ?_)
                                · have kc441 := jle c441 jz_4 rfl
                                  obtain ⟨x442, ex442⟩ : ∃ y : Int32, y = x385 + 1 := ⟨_, rfl⟩
                                  have tx442 : x442.toInt = x385.toInt + 1 := (jadd ex442 rfl jz_1 (by omega) (by omega)).trans (by omega)
                                  exact by
                                   refine lv_iinc (v := x442) (lv' := [(5, .int x442), (8, .int x420), (7, .int x415), (6, .int x413), (4, .int 1), (3, .int x16), (0, .ref (ad 31)), (1, .int a1), (2, .int a2)]) hx hb dX1_grow_196 hl (k := 3) rfl (by rw [ex442]; rfl) (of_decide_eq_true rfl) rfl (fun ls hl => ?_)
                                   refine lv_goto (tgt := 99) hx hb dX1_grow_199 (of_decide_eq_true rfl) ?_
                                   exact by exact ihlp383 x442 σ421 _ _ ls (by have h90 := tx442; omega) (by have h90 := tx442; omega) (by have h90 := tx442; omega) (fun i hi => ((f426 i hi).trans (f394 i hi))) (fun i hi => ((f427 i hi).trans (f395 i hi)))  p428 p429 p430 (fun hm => jqGo.row (q431.1 hm) (by omega) (by have h9 := tx442; omega) (by omega) q431.2.2) hP hS (lv_sub hl [0, 4, 5, 6, 7, 8] rfl)
                                · have kc441 := jnle c441 jz_4 rfl
                                  refine lv_aload_n hx hb dX1_grow_149 rfl (lv_at hl 6 rfl) ?_
                                  refine va_get (D := D) hx hb hts inlX1 hown hK hP 31 (jc_31 cI cL ad σ421 τ) rfl 3 (of_decide_eq_true rfl) (hts _ kw_5_4) (fun _ h9 => h9) rfl dX1_grow_150 ?_
                                  refine lv_iload hx hb dX1_grow_153 (lv_at hl 3 rfl) ?_
                                  refine lv_iconst (v := 4) hx hb dX1_grow_155 (of_decide_eq_true rfl) ?_
                                  have g443 := jrg (rfl : x385.toInt = x385.toInt)
                                  refine lv_imul hx hb dX1_grow_156 ?_
                                  refine lv_topi (fun x444 ex444 => ?_)
                                  exact by
                                   have tx444 : x444.toInt = 4 * x385.toInt := (jmul ex444 rfl jz_4 (by omega) (by omega)).trans (by omega)
                                   refine lv_iload hx hb dX1_grow_157 (lv_at hl 0 rfl) ?_
                                   have g445 := jrg (rfl : x420.toInt = x420.toInt)
                                   refine lv_iadd hx hb dX1_grow_159 ?_
                                   refine lv_topi (fun x446 ex446 => ?_)
                                   have tx446 : x446.toInt = 4 * x385.toInt + x420.toInt := (jadd ex446 tx444 rfl (by omega) (by omega)).trans (by omega)
                                   refine lv_iload hx hb dX1_grow_160 (lv_at hl 2 rfl) ?_
                                   refine lv_iload hx hb dX1_grow_162 (lv_at hl 0 rfl) ?_
                                   refine jcallS (As := [.int x413, .int x420]) (rest := [.int x446, .ref (ad 33)]) ⟨hx, hb, hml, hown, hts⟩ hK hP hA hS hZ (c_X0_mayBowl l D cI cL ad zz hJ σ421 τ x413 (x413.toInt) rfl x420 (x420.toInt) rfl) cw_RX1_115 ⟨Nat.le_of_ble_eq_true rfl, Nat.le_of_ble_eq_true rfl⟩ rfl rfl rfl hl.1 rfl (Nat.le_of_ble_eq_true rfl) dX1_grow_164 ⟨Nat.zero_le _, Nat.zero_le _⟩ (fun r448 σ447 τ447 H locs h447 hP hS => ?_)
                                   exact by
                                    obtain ⟨⟨rfl, rfl⟩, w449, h447⟩ := h447
                                    rcases h447 with h450 | h451
                                    · obtain ⟨q453, k452⟩ := h450
                                      have q453 := q453.symm
                                      subst q453
                                      refine lv_if_eq (tgt := 188) hx hb dX1_grow_167 (of_decide_eq_true rfl) (fun c => absurd c (of_decide_eq_true rfl)) (fun _ => ?_)
                                      refine lv_aload_n hx hb dX1_grow_170 rfl (lv_at hl 6 rfl) ?_
                                      refine lv_iload hx hb dX1_grow_171 (lv_at hl 2 rfl) ?_
                                      refine lv_iload hx hb dX1_grow_173 (lv_at hl 0 rfl) ?_
                                      exact by
                                       refine jcallS (As := [.int x413, .int x420]) (rest := [.ref (ad 31), .int x446, .ref (ad 33)]) ⟨hx, hb, hml, hown, hts⟩ hK hP hA hS hZ (c_X0_after_r l D cI cL ad zz hJ σ421 τ x413 (x413.toInt) rfl x420 (x420.toInt) rfl (by omega)) cw_RX1_119 ⟨Nat.le_of_ble_eq_true rfl, Nat.le_of_ble_eq_true rfl⟩ rfl rfl rfl hl.1 rfl (Nat.le_of_ble_eq_true rfl) dX1_grow_175 ⟨Nat.zero_le _, Nat.zero_le _⟩ (fun r455 σ454 τ454 H locs h454 hP hS => ?_)
                                       obtain ⟨⟨rfl, rfl⟩, w456, w457, h454⟩ := h454
                                       have h458 := h454
                                       obtain ⟨q460, k459⟩ := h458
                                       refine lv_iload hx hb dX1_grow_178 (lv_at hl 1 rfl) ?_
                                       refine lv_iconst (v := 1) hx hb dX1_grow_180 (of_decide_eq_true rfl) ?_
                                       have g461 := jrg (rfl : x415.toInt = x415.toInt)
                                       refine lv_iadd hx hb dX1_grow_181 ?_
                                       refine lv_topi (fun x462 ex462 => ?_)
                                       exact by
                                        have tx462 : x462.toInt = x415.toInt + 1 := (jadd ex462 rfl jz_1 (by omega) (by omega)).trans (by omega)
                                        refine jcallV (As := [.int r455, .int x462]) (rest := [.int x446, .ref (ad 33)]) ⟨hx, hb, hml, hown, hts⟩ hK hP hA hS hZ (c_X1_add_31 l D cI cL ad zz hJ σ421 τ r455 (r455.toInt) rfl x462 (x415.toInt + 1) tx462 p430 p428 p429 (by omega) (by omega)) cw_RX1_111 (jc_31 cI cL ad σ421 τ) rfl ⟨Nat.le_of_ble_eq_true rfl, Nat.le_of_ble_eq_true rfl⟩ rfl rfl rfl hl.1 rfl (Nat.le_of_ble_eq_true rfl) dX1_grow_182 ⟨Nat.zero_le _, Nat.zero_le _⟩ (fun r464 σ463 τ463 H locs h463 hP hS => ?_)
                                        obtain ⟨rfl, f465, f466, I467, p468, p469, w470, h463⟩ := h463
                                        obtain ⟨i472, i473, i474, i475, w476, w477, w478⟩ : (0 ≤ (σ463 31 8).toInt ∧ (σ463 31 8).toInt ≤ 350) ∧ (0 ≤ (σ463 31 10).toInt ∧ (σ463 31 10).toInt ≤ 12) ∧ (0 ≤ (σ463 31 11).toInt ∧ (σ463 31 11).toInt ≤ 8) ∧ ((σ463 31 10).toInt + (σ463 31 11).toInt ≤ 12) ∧ (∀ k : Nat, k < 1400 → (-1) ≤ (σ463 33 k).toInt ∧ (σ463 33 k).toInt ≤ 350) ∧ (∀ k : Nat, k < 3159 → (-1) ≤ (σ463 35 k).toInt ∧ (σ463 35 k).toInt ≤ 3) ∧ (∀ k : Nat, k < 1024 → 0 ≤ (σ463 36 k).toInt ∧ (σ463 36 k).toInt ≤ 349) := id I467
                                        have z479 : (σ463 31 10).toInt = A2 := ((congrArg Int32.toInt (show σ463 31 10 = a2 from ((f466 10 (of_decide_eq_true rfl)).trans ((f427 10 (of_decide_eq_true rfl)).trans ((f395 10 (of_decide_eq_true rfl)).trans ((f365 10 (of_decide_eq_true rfl)).trans ((jkp 10 eσ352 (of_decide_eq_true rfl)).trans ((jkp 10 eσ351 (of_decide_eq_true rfl)).trans ((jkp 10 eσ350 (of_decide_eq_true rfl)).trans (jsp eσ349)))))))))).trans t2)
                                        have z480 : (σ463 31 11).toInt = x16.toInt := (congrArg Int32.toInt (show σ463 31 11 = x16 from ((f466 11 (of_decide_eq_true rfl)).trans ((f427 11 (of_decide_eq_true rfl)).trans ((f395 11 (of_decide_eq_true rfl)).trans ((f365 11 (of_decide_eq_true rfl)).trans ((jkp 11 eσ352 (of_decide_eq_true rfl)).trans ((jkp 11 eσ351 (of_decide_eq_true rfl)).trans (jsp eσ350)))))))))
                                        have h481 := h463
                                        obtain ⟨q483, k482⟩ := h481
                                        refine lv_goto (tgt := 189) hx hb dX1_grow_185 (of_decide_eq_true rfl) ?_
                                        exact by
                                         refine jast hx hb hK hP hJ hA hS (jc_33 cI cL ad σ463 τ) (ja_33 cI cL ad σ463 τ _ _) (jin tx446 (by omega) (by omega)) dX1_grow_189 (fun σ484 H locs eσ484 hP hS => ?_)
                                         obtain ⟨x485, ex485⟩ : ∃ y : Int32, y = x420 + 1 := ⟨_, rfl⟩
                                         have tx485 : x485.toInt = x420.toInt + 1 := (jadd ex485 rfl jz_1 (by omega) (by omega)).trans (by omega)
                                         refine lv_iinc (v := x485) (lv' := [(8, .int x485), (7, .int x415), (6, .int x413), (5, .int x385), (4, .int 1), (3, .int x16), (0, .ref (ad 31)), (1, .int a1), (2, .int a2)]) hx hb dX1_grow_190 hl (k := 0) rfl (by rw [ex485]; rfl) (of_decide_eq_true rfl) rfl (fun ls hl => ?_)
                                         refine lv_goto (tgt := 143) hx hb dX1_grow_193 (of_decide_eq_true rfl) ?_
                                         have p486 : jKb σ484 := jKb.fr (congrFun (jnp 31 eσ484 (of_decide_eq_true rfl)) 8) (congrFun (jnp 31 eσ484 (of_decide_eq_true rfl)) 11) (jnp 32 eσ484 (of_decide_eq_true rfl)) p468
                                         have p487 : jKh σ484 := jKh.fr (congrFun (jnp 31 eσ484 (of_decide_eq_true rfl)) 8) (jnp 32 eσ484 (of_decide_eq_true rfl)) (jnp 36 eσ484 (of_decide_eq_true rfl)) (jnp 37 eσ484 (of_decide_eq_true rfl)) p469
                                         have z488 : (σ484 31 8).toInt = (σ463 31 8).toInt := (congrArg Int32.toInt (show σ484 31 8 = (σ463 31 8) from (congrFun (jnp 31 eσ484 (of_decide_eq_true rfl)) 8)))
                                         have z489 : (σ484 31 10).toInt = A2 := ((congrArg Int32.toInt (show σ484 31 10 = a2 from ((congrFun (jnp 31 eσ484 (of_decide_eq_true rfl)) 10).trans ((f466 10 (of_decide_eq_true rfl)).trans ((f427 10 (of_decide_eq_true rfl)).trans ((f395 10 (of_decide_eq_true rfl)).trans ((f365 10 (of_decide_eq_true rfl)).trans ((jkp 10 eσ352 (of_decide_eq_true rfl)).trans ((jkp 10 eσ351 (of_decide_eq_true rfl)).trans ((jkp 10 eσ350 (of_decide_eq_true rfl)).trans (jsp eσ349))))))))))).trans t2)
                                         exact by
                                          have z490 : (σ484 31 11).toInt = x16.toInt := (congrArg Int32.toInt (show σ484 31 11 = x16 from ((congrFun (jnp 31 eσ484 (of_decide_eq_true rfl)) 11).trans ((f466 11 (of_decide_eq_true rfl)).trans ((f427 11 (of_decide_eq_true rfl)).trans ((f395 11 (of_decide_eq_true rfl)).trans ((f365 11 (of_decide_eq_true rfl)).trans ((jkp 11 eσ352 (of_decide_eq_true rfl)).trans ((jkp 11 eσ351 (of_decide_eq_true rfl)).trans (jsp eσ350))))))))))
                                          have w491 : ∀ k : Nat, k < 1400 → (-1) ≤ (σ484 33 k).toInt ∧ (σ484 33 k).toInt ≤ 350 := (by rw [eσ484]; exact jrr_up w476 (by omega) (by omega))
                                          have w492 : ∀ k : Nat, k < 3159 → (-1) ≤ (σ484 35 k).toInt ∧ (σ484 35 k).toInt ≤ 3 := (jrr_fr (jnp 35 eσ484 (of_decide_eq_true rfl)) w477)
                                          have w493 : ∀ k : Nat, k < 1024 → 0 ≤ (σ484 36 k).toInt ∧ (σ484 36 k).toInt ≤ 349 := (jrr_fr (jnp 36 eσ484 (of_decide_eq_true rfl)) w478)
                                          have I494 : jI31 σ484 := ⟨(by omega), (by omega), (by omega), (by omega), w491, w492, w493⟩
                                          exact by exact ihlp418 x485 σ484 _ _ ls (by have h90 := tx485; omega) (by have h90 := tx485; omega) (by have h90 := tx485; omega) (fun i hi => ((jnp i eσ484 (imp_94 i hi)).trans ((f465 i (imp_86 i hi)).trans (f426 i hi)))) (fun i hi => ((congrFun (jnp 31 eσ484 (of_decide_eq_true rfl)) i).trans ((f466 i hi).trans (f427 i hi))))  p486 p487 I494 (by rw [show σ484 31 8 = σ463 31 8 from (congrFun (jnp 31 eσ484 (of_decide_eq_true rfl)) 8), show σ484 32 = σ463 32 from (jnp 32 eσ484 (of_decide_eq_true rfl)), show σ484 31 11 = σ421 31 11 from ((congrFun (jnp 31 eσ484 (of_decide_eq_true rfl)) 11).trans (f466 11 (of_decide_eq_true rfl))), show σ484 31 12 = σ421 31 12 from ((congrFun (jnp 31 eσ484 (of_decide_eq_true rfl)) 12).trans (f466 12 (of_decide_eq_true rfl)))]; exact ⟨(fun hm => jqGo.put (q431.1 hm) (by omega) (by omega) (by omega) (by omega) q431.2.1 ((jqMy_iff (by omega) (by omega)).mpr ((w449).elim (fun w => w.2) (fun w => absurd w.1 (of_decide_eq_true rfl)))) (w457 (by omega) (by omega)) w470 (by omega) p429 (by omega) (by rw [eσ484, jup_row, f465 33 (of_decide_eq_true rfl), jnc (show x446.toInt = 4 * x385.toInt + x420.toInt by have h9 := tx446; omega)]) rfl (by have h9 := tx485; omega)), (by rw [(w470).1 x385.toInt.toNat (by omega)]; exact q431.2.1), (by have w8 := jqAd.le w470; have w9 := q431.2.2; omega)⟩) hP hS (lv_sub hl [0, 1, 2, 3, 4, 5, 6, 7, 8] rfl)
                                    · obtain ⟨q496, k495⟩ := h451
                                      have q496 := q496.symm
                                      subst q496
                                      exact by
                                       refine lv_if_eq (tgt := 188) hx hb dX1_grow_167 (of_decide_eq_true rfl) (fun _ => ?_) (fun c => absurd (of_decide_eq_true rfl) c)
                                       refine lv_iconst (v := (-1)) hx hb dX1_grow_188 (of_decide_eq_true rfl) ?_
                                       refine jast hx hb hK hP hJ hA hS (jc_33 cI cL ad σ421 τ) (ja_33 cI cL ad σ421 τ _ _) (jin tx446 (by omega) (by omega)) dX1_grow_189 (fun σ497 H locs eσ497 hP hS => ?_)
                                       obtain ⟨x498, ex498⟩ : ∃ y : Int32, y = x420 + 1 := ⟨_, rfl⟩
                                       have tx498 : x498.toInt = x420.toInt + 1 := (jadd ex498 rfl jz_1 (by omega) (by omega)).trans (by omega)
                                       refine lv_iinc (v := x498) (lv' := [(8, .int x498), (7, .int x415), (6, .int x413), (5, .int x385), (4, .int 1), (3, .int x16), (0, .ref (ad 31)), (1, .int a1), (2, .int a2)]) hx hb dX1_grow_190 hl (k := 0) rfl (by rw [ex498]; rfl) (of_decide_eq_true rfl) rfl (fun ls hl => ?_)
                                       refine lv_goto (tgt := 143) hx hb dX1_grow_193 (of_decide_eq_true rfl) ?_
                                       have p499 : jKb σ497 := jKb.fr (congrFun (jnp 31 eσ497 (of_decide_eq_true rfl)) 8) (congrFun (jnp 31 eσ497 (of_decide_eq_true rfl)) 11) (jnp 32 eσ497 (of_decide_eq_true rfl)) p428
                                       have p500 : jKh σ497 := jKh.fr (congrFun (jnp 31 eσ497 (of_decide_eq_true rfl)) 8) (jnp 32 eσ497 (of_decide_eq_true rfl)) (jnp 36 eσ497 (of_decide_eq_true rfl)) (jnp 37 eσ497 (of_decide_eq_true rfl)) p429
                                       exact by
                                        have z501 : (σ497 31 8).toInt = (σ421 31 8).toInt := (congrArg Int32.toInt (show σ497 31 8 = (σ421 31 8) from (congrFun (jnp 31 eσ497 (of_decide_eq_true rfl)) 8)))
                                        have z502 : (σ497 31 10).toInt = A2 := ((congrArg Int32.toInt (show σ497 31 10 = a2 from ((congrFun (jnp 31 eσ497 (of_decide_eq_true rfl)) 10).trans ((f427 10 (of_decide_eq_true rfl)).trans ((f395 10 (of_decide_eq_true rfl)).trans ((f365 10 (of_decide_eq_true rfl)).trans ((jkp 10 eσ352 (of_decide_eq_true rfl)).trans ((jkp 10 eσ351 (of_decide_eq_true rfl)).trans ((jkp 10 eσ350 (of_decide_eq_true rfl)).trans (jsp eσ349)))))))))).trans t2)
                                        have z503 : (σ497 31 11).toInt = x16.toInt := (congrArg Int32.toInt (show σ497 31 11 = x16 from ((congrFun (jnp 31 eσ497 (of_decide_eq_true rfl)) 11).trans ((f427 11 (of_decide_eq_true rfl)).trans ((f395 11 (of_decide_eq_true rfl)).trans ((f365 11 (of_decide_eq_true rfl)).trans ((jkp 11 eσ352 (of_decide_eq_true rfl)).trans ((jkp 11 eσ351 (of_decide_eq_true rfl)).trans (jsp eσ350)))))))))
                                        have w504 : ∀ k : Nat, k < 1400 → (-1) ≤ (σ497 33 k).toInt ∧ (σ497 33 k).toInt ≤ 350 := (by rw [eσ497]; exact jrr_up w436 (by have h9 := jz_m1; omega) (by have h9 := jz_m1; omega))
                                        have w505 : ∀ k : Nat, k < 3159 → (-1) ≤ (σ497 35 k).toInt ∧ (σ497 35 k).toInt ≤ 3 := (jrr_fr (jnp 35 eσ497 (of_decide_eq_true rfl)) w437)
                                        have w506 : ∀ k : Nat, k < 1024 → 0 ≤ (σ497 36 k).toInt ∧ (σ497 36 k).toInt ≤ 349 := (jrr_fr (jnp 36 eσ497 (of_decide_eq_true rfl)) w438)
                                        have I507 : jI31 σ497 := ⟨(by omega), (by omega), (by omega), (by omega), w504, w505, w506⟩
                                        exact by exact ihlp418 x498 σ497 _ _ ls (by have h90 := tx498; omega) (by have h90 := tx498; omega) (by have h90 := tx498; omega) (fun i hi => ((jnp i eσ497 (imp_94 i hi)).trans (f426 i hi))) (fun i hi => ((congrFun (jnp 31 eσ497 (of_decide_eq_true rfl)) i).trans (f427 i hi)))  p499 p500 I507 (by rw [show σ497 31 8 = σ421 31 8 from (congrFun (jnp 31 eσ497 (of_decide_eq_true rfl)) 8), show σ497 31 11 = σ421 31 11 from (congrFun (jnp 31 eσ497 (of_decide_eq_true rfl)) 11), show σ497 31 12 = σ421 31 12 from (congrFun (jnp 31 eσ497 (of_decide_eq_true rfl)) 12), show σ497 32 = σ421 32 from (jnp 32 eσ497 (of_decide_eq_true rfl))]; exact ⟨(fun hm => jqGo.none (q431.1 hm) (by omega) (by omega) (by omega) (by omega) q431.2.1 (fun w => ((w449).elim (fun w => absurd w.1 (of_decide_eq_true rfl)) (fun w => w.2)) ((jqMy_iff (by omega) (by omega)).mp w)) (by rw [eσ497, jup_row, jnc (show x446.toInt = 4 * x385.toInt + x420.toInt by have h9 := tx446; omega)]) (of_decide_eq_true rfl) (by have h9 := tx498; omega)), q431.2.1, q431.2.2⟩) hP hS (lv_sub hl [0, 1, 2, 3, 4, 5, 6, 7, 8] rfl)
                           exact by exact lp418 1000000 0 σ389 _ _ ls (by have h90 := jz_0; omega) (by have h90 := jz_0; omega) (by have h90 := jz_0; omega) (fun _ _ => rfl) (fun _ _ => rfl)  p396 p397 p398 ⟨(by rw [show (0 : Int32).toInt = 0 from by decide]; exact q399), ⟨(by have w := jandm (x := (σ389 32 x385.toNatClampNeg)) (y := x413) (m := 134217727) (k := 27) (M := 134217728) (by rw [ex413]) rfl rfl (of_decide_eq_true rfl); show (σ389 32 x385.toNatClampNeg).toInt = _; omega), ⟨by omega, by omega⟩, (by omega)⟩, by omega⟩ hP hS hl
                 exact by exact lp383 1000000 0 σ362 _ _ ls (by have h90 := jz_0; omega) (by have h90 := jz_0; omega) (by have h90 := jz_0; omega) (fun _ _ => rfl) (fun _ _ => rfl)  p367 p368 I366 (by rw [show σ362 31 11 = σ352 31 11 from (f365 11 (of_decide_eq_true rfl)), show σ362 31 12 = σ352 31 12 from (f365 12 (of_decide_eq_true rfl))]; exact (fun hm => jqGo.first hm (by have w := w369; rw [show (σ352 31 8).toInt = 0 from by omega] at w; exact w) rfl (by have h9 := jz_0; omega))) hP hS hl
            · exact by
               have kc347 := jeq c347 rfl jz_1
               refine lv_aload_n hx hb dX1_grow_57 rfl (lv_at hl 2 rfl) ?_
               refine lv_iload_n hx hb dX1_grow_58 rfl (lv_at hl 4 rfl) ?_
               refine jput (ty := .int) hx hb hts inlX1 tyX1 tyX1_ok nmX1 hown hK hP hJ hA hS (jc_31 cI cL ad σ τ) rfl (k := 10) (of_decide_eq_true rfl) (Nat.le_of_ble_eq_true rfl) (jp_31_10 cI cL ad σ τ a2) (hts _ kw_28_9) (fun _ h9 => h9) rfl (by decide +kernel) rfl rfl dX1_grow_59 (fun σ508 H locs eσ508 hP hS => ?_)
               have z509 : (σ508 31 8).toInt = (σ 31 8).toInt := (congrArg Int32.toInt (show σ508 31 8 = (σ 31 8) from (jkp 8 eσ508 (of_decide_eq_true rfl))))
               have z510 : (σ508 31 10).toInt = A2 := ((congrArg Int32.toInt (show σ508 31 10 = a2 from (jsp eσ508))).trans t2)
               have z511 : (σ508 31 11).toInt = (σ 31 11).toInt := (congrArg Int32.toInt (show σ508 31 11 = (σ 31 11) from (jkp 11 eσ508 (of_decide_eq_true rfl))))
               have w512 : ∀ k : Nat, k < 1400 → (-1) ≤ (σ508 33 k).toInt ∧ (σ508 33 k).toInt ≤ 350 := (jrr_fr (jnp 33 eσ508 (of_decide_eq_true rfl)) w9)
               have w513 : ∀ k : Nat, k < 3159 → (-1) ≤ (σ508 35 k).toInt ∧ (σ508 35 k).toInt ≤ 3 := (jrr_fr (jnp 35 eσ508 (of_decide_eq_true rfl)) w10)
               have w514 : ∀ k : Nat, k < 1024 → 0 ≤ (σ508 36 k).toInt ∧ (σ508 36 k).toInt ≤ 349 := (jrr_fr (jnp 36 eσ508 (of_decide_eq_true rfl)) w11)
               exact by
                have I515 : jI31 σ508 := ⟨(by omega), (by omega), (by omega), (by omega), w512, w513, w514⟩
                have p516 : jKb σ508 := jKb.fr (jkp 8 eσ508 (of_decide_eq_true rfl)) (jkp 11 eσ508 (of_decide_eq_true rfl)) (jnp 32 eσ508 (of_decide_eq_true rfl)) hs_jKb
                have p517 : jKh σ508 := jKh.fr (jkp 8 eσ508 (of_decide_eq_true rfl)) (jnp 32 eσ508 (of_decide_eq_true rfl)) (jnp 36 eσ508 (of_decide_eq_true rfl)) (jnp 37 eσ508 (of_decide_eq_true rfl)) hs_jKh
                have p518 : jKg σ508 := jKg.fr (jkp 8 eσ508 (of_decide_eq_true rfl)) (jkp 9 eσ508 (of_decide_eq_true rfl)) (jkp 11 eσ508 (of_decide_eq_true rfl)) (jkp 12 eσ508 (of_decide_eq_true rfl)) (jnp 32 eσ508 (of_decide_eq_true rfl)) (jnp 33 eσ508 (of_decide_eq_true rfl)) hs_jKg
                have z519 : (σ508 31 9).toInt = (σ 31 9).toInt := (congrArg Int32.toInt (show σ508 31 9 = (σ 31 9) from (jkp 9 eσ508 (of_decide_eq_true rfl))))
                exact by exact hret σ508 τ _ _ _ _ ⟨rfl, (fun i hi => (jnp i eσ508 (imp_87 i hi))), (fun i hi => (jkp i eσ508 (imp_92 i hi))), I515, p516, p517, p518, (by rw [show σ508 31 12 = (σ 31 12) from (jkp 12 eσ508 (of_decide_eq_true rfl)), c347]; exact w20), (by omega), (by omega), (by omega), trivial⟩ hP hS dX1_grow_62
    · obtain ⟨q521, k520⟩ := h22
      have q521 := q521.symm
      subst q521
      refine lv_istore (lv' := [(4, .int 0), (3, .int x16), (0, .ref (ad 31)), (1, .int a1), (2, .int a2)]) hx hb dX1_grow_30 hl (of_decide_eq_true rfl) rfl (fun ls hl => ?_)
      refine lv_aload_n hx hb dX1_grow_32 rfl (lv_at hl 2 rfl) ?_
      refine va_get (D := D) hx hb hts inlX1 hown hK hP 31 (jc_31 cI cL ad σ τ) rfl 9 (of_decide_eq_true rfl) (hts _ kw_5_9) (fun _ h9 => h9) rfl dX1_grow_33 ?_
      refine lv_iload_n hx hb dX1_grow_36 rfl (lv_at hl 3 rfl) ?_
      refine lv_icmp_ne (tgt := 63) hx hb dX1_grow_37 (of_decide_eq_true rfl) (fun c522 => ?_) (fun c522 => ?_)
      · have kc522 := jne c522 rfl t1
        refine lv_aload_n hx hb dX1_grow_63 rfl (lv_at hl 2 rfl) ?_
        refine lv_iload_n hx hb dX1_grow_64 rfl (lv_at hl 3 rfl) ?_
        refine jput (ty := .int) hx hb hts inlX1 tyX1 tyX1_ok nmX1 hown hK hP hJ hA hS (jc_31 cI cL ad σ τ) rfl (k := 9) (of_decide_eq_true rfl) (Nat.le_of_ble_eq_true rfl) (jp_31_9 cI cL ad σ τ a1) (hts _ kw_5_9) (fun _ h9 => h9) rfl (by decide +kernel) rfl rfl dX1_grow_65 (fun σ523 H locs eσ523 hP hS => ?_)
        refine lv_aload_n hx hb dX1_grow_68 rfl (lv_at hl 2 rfl) ?_
        refine lv_iload_n hx hb dX1_grow_69 rfl (lv_at hl 4 rfl) ?_
        refine jput (ty := .int) hx hb hts inlX1 tyX1 tyX1_ok nmX1 hown hK hP hJ hA hS (jc_31 cI cL ad σ523 τ) rfl (k := 10) (of_decide_eq_true rfl) (Nat.le_of_ble_eq_true rfl) (jp_31_10 cI cL ad σ523 τ a2) (hts _ kw_28_9) (fun _ h9 => h9) rfl (by decide +kernel) rfl rfl dX1_grow_70 (fun σ524 H locs eσ524 hP hS => ?_)
        refine lv_aload_n hx hb dX1_grow_73 rfl (lv_at hl 2 rfl) ?_
        refine lv_iload_n hx hb dX1_grow_74 rfl (lv_at hl 1 rfl) ?_
        refine jput (ty := .int) hx hb hts inlX1 tyX1 tyX1_ok nmX1 hown hK hP hJ hA hS (jc_31 cI cL ad σ524 τ) rfl (k := 11) (of_decide_eq_true rfl) (Nat.le_of_ble_eq_true rfl) (jp_31_11 cI cL ad σ524 τ x16) (hts _ kw_28_7) (fun _ h9 => h9) rfl (by decide +kernel) rfl rfl dX1_grow_75 (fun σ525 H locs eσ525 hP hS => ?_)
        refine lv_aload_n hx hb dX1_grow_78 rfl (lv_at hl 2 rfl) ?_
        refine lv_iload hx hb dX1_grow_79 (lv_at hl 0 rfl) ?_
        refine jput (ty := .boolean) hx hb hts inlX1 tyX1 tyX1_ok nmX1 hown hK hP hJ hA hS (jc_31 cI cL ad σ525 τ) rfl (k := 12) (of_decide_eq_true rfl) (Nat.le_of_ble_eq_true rfl) (jp_31_12 cI cL ad σ525 τ 0) (hts _ kw_28_8) (fun _ h9 => h9) rfl (by decide +kernel) rfl rfl dX1_grow_81 (fun σ526 H locs eσ526 hP hS => ?_)
        refine lv_aload_n hx hb dX1_grow_84 rfl (lv_at hl 2 rfl) ?_
        refine lv_iconst (v := 0) hx hb dX1_grow_85 (of_decide_eq_true rfl) ?_
        refine jput (ty := .int) hx hb hts inlX1 tyX1 tyX1_ok nmX1 hown hK hP hJ hA hS (jc_31 cI cL ad σ526 τ) rfl (k := 8) (of_decide_eq_true rfl) (Nat.le_of_ble_eq_true rfl) (jp_31_8 cI cL ad σ526 τ 0) (hts _ kw_27_22) (fun _ h9 => h9) rfl (by decide +kernel) rfl rfl dX1_grow_86 (fun σ527 H locs eσ527 hP hS => ?_)
        have z528 : (σ527 31 8).toInt = 0 := ((congrArg Int32.toInt (show σ527 31 8 = 0 from (jsp eσ527))).trans jz_0)
        exact by
         have p529 : jKb σ527 := (jKb.nil (by omega))
         have p530 : jKh σ527 := (jKh.nil (by omega))
         refine lv_aload_n hx hb dX1_grow_89 rfl (lv_at hl 2 rfl) ?_
         refine lv_iload_n hx hb dX1_grow_90 rfl (lv_at hl 3 rfl) ?_
         refine lv_iconst (v := 0) hx hb dX1_grow_91 (of_decide_eq_true rfl) ?_
         have z531 : (σ527 31 10).toInt = A2 := ((congrArg Int32.toInt (show σ527 31 10 = a2 from ((jkp 10 eσ527 (of_decide_eq_true rfl)).trans ((jkp 10 eσ526 (of_decide_eq_true rfl)).trans ((jkp 10 eσ525 (of_decide_eq_true rfl)).trans (jsp eσ524)))))).trans t2)
         have z532 : (σ527 31 11).toInt = x16.toInt := (congrArg Int32.toInt (show σ527 31 11 = x16 from ((jkp 11 eσ527 (of_decide_eq_true rfl)).trans ((jkp 11 eσ526 (of_decide_eq_true rfl)).trans (jsp eσ525)))))
         have w533 : ∀ k : Nat, k < 1400 → (-1) ≤ (σ527 33 k).toInt ∧ (σ527 33 k).toInt ≤ 350 := (jrr_fr (jnp 33 eσ527 (of_decide_eq_true rfl)) (jrr_fr (jnp 33 eσ526 (of_decide_eq_true rfl)) (jrr_fr (jnp 33 eσ525 (of_decide_eq_true rfl)) (jrr_fr (jnp 33 eσ524 (of_decide_eq_true rfl)) (jrr_fr (jnp 33 eσ523 (of_decide_eq_true rfl)) w9)))))
         have w534 : ∀ k : Nat, k < 3159 → (-1) ≤ (σ527 35 k).toInt ∧ (σ527 35 k).toInt ≤ 3 := (jrr_fr (jnp 35 eσ527 (of_decide_eq_true rfl)) (jrr_fr (jnp 35 eσ526 (of_decide_eq_true rfl)) (jrr_fr (jnp 35 eσ525 (of_decide_eq_true rfl)) (jrr_fr (jnp 35 eσ524 (of_decide_eq_true rfl)) (jrr_fr (jnp 35 eσ523 (of_decide_eq_true rfl)) w10)))))
         exact by
          have w535 : ∀ k : Nat, k < 1024 → 0 ≤ (σ527 36 k).toInt ∧ (σ527 36 k).toInt ≤ 349 := (jrr_fr (jnp 36 eσ527 (of_decide_eq_true rfl)) (jrr_fr (jnp 36 eσ526 (of_decide_eq_true rfl)) (jrr_fr (jnp 36 eσ525 (of_decide_eq_true rfl)) (jrr_fr (jnp 36 eσ524 (of_decide_eq_true rfl)) (jrr_fr (jnp 36 eσ523 (of_decide_eq_true rfl)) w11)))))
          have I536 : jI31 σ527 := ⟨(by omega), (by omega), (by omega), (by omega), w533, w534, w535⟩
          refine jcallV (As := [.int a1, .int 0]) (rest := []) ⟨hx, hb, hml, hown, hts⟩ hK hP hA hS hZ (c_X1_add_31 l D cI cL ad zz hJ σ527 τ a1 (A1) t1 0 (0) jz_0 I536 p529 p530 (by omega) (by omega)) cw_RX1_111 (jc_31 cI cL ad σ527 τ) rfl ⟨Nat.le_of_ble_eq_true rfl, Nat.le_of_ble_eq_true rfl⟩ rfl rfl rfl hl.1 rfl (Nat.le_of_ble_eq_true rfl) dX1_grow_92 ⟨Nat.zero_le _, Nat.zero_le _⟩ (fun r538 σ537 τ537 H locs h537 hP hS => ?_)
          obtain ⟨rfl, f539, f540, I541, p542, p543, w544, h537⟩ := h537
          obtain ⟨i546, i547, i548, i549, w550, w551, w552⟩ : (0 ≤ (σ537 31 8).toInt ∧ (σ537 31 8).toInt ≤ 350) ∧ (0 ≤ (σ537 31 10).toInt ∧ (σ537 31 10).toInt ≤ 12) ∧ (0 ≤ (σ537 31 11).toInt ∧ (σ537 31 11).toInt ≤ 8) ∧ ((σ537 31 10).toInt + (σ537 31 11).toInt ≤ 12) ∧ (∀ k : Nat, k < 1400 → (-1) ≤ (σ537 33 k).toInt ∧ (σ537 33 k).toInt ≤ 350) ∧ (∀ k : Nat, k < 3159 → (-1) ≤ (σ537 35 k).toInt ∧ (σ537 35 k).toInt ≤ 3) ∧ (∀ k : Nat, k < 1024 → 0 ≤ (σ537 36 k).toInt ∧ (σ537 36 k).toInt ≤ 349) := id I541
          have z553 : (σ537 31 10).toInt = A2 := ((congrArg Int32.toInt (show σ537 31 10 = a2 from ((f540 10 (of_decide_eq_true rfl)).trans ((jkp 10 eσ527 (of_decide_eq_true rfl)).trans ((jkp 10 eσ526 (of_decide_eq_true rfl)).trans ((jkp 10 eσ525 (of_decide_eq_true rfl)).trans (jsp eσ524))))))).trans t2)
          have z554 : (σ537 31 11).toInt = x16.toInt := (congrArg Int32.toInt (show σ537 31 11 = x16 from ((f540 11 (of_decide_eq_true rfl)).trans ((jkp 11 eσ527 (of_decide_eq_true rfl)).trans ((jkp 11 eσ526 (of_decide_eq_true rfl)).trans (jsp eσ525))))))
          have h555 := h537
          obtain ⟨q557, k556⟩ := h555
          exact by
           refine lv_pop hx hb dX1_grow_95 rfl ?_
           refine lv_iconst (v := 0) hx hb dX1_grow_96 (of_decide_eq_true rfl) ?_
           refine lv_istore (lv' := [(5, .int 0), (4, .int 0), (3, .int x16), (0, .ref (ad 31)), (1, .int a1), (2, .int a2)]) hx hb dX1_grow_97 hl (of_decide_eq_true rfl) rfl (fun ls hl => ?_)
           have lp558 : ∀ (n559 : Nat) (x560 : Int32) (σ564 : Nat → Nat → Int32) (H : Heap) (locs : List Loc) (ls : Array Slot), (-x560.toInt + 350 : Int) < n559 → 0 ≤ x560.toInt → x560.toInt ≤ 350 → (∀ i : Nat, (i < 31 ∨ 33 < i) ∧ (i < 36 ∨ 37 < i) → σ564 i = σ537 i) → (∀ k : Nat, (k < 8 ∨ 8 < k) → σ564 31 k = σ537 31 k) → jKb σ564 → jKh σ564 → jI31 σ564 → (jFm a1 → jqGo a1 (decide ((σ564 31 12).toInt ≠ 0)) (σ564 31 11).toInt (σ564 31 8).toInt (σ564 32) (σ564 33) x560.toInt 0) → jH D cI cL ad σ564 τ H → va_S (jA ad) s.heap H locs → lv_has ls 9 [(5, .int x560), (4, .int 0), (3, .int x16), (0, .ref (ad 31)), (1, .int a1), (2, .int a2)] → W p l e ({ frames := 3, cells := 0, slots := 0, locals := 73 }) s m args below meth c H locs 0 0 Q (F0 m 99 ls []) := by
             intro n559
             induction n559 with
             | zero => intro x560 σ564 H locs ls h566 h567 h568; exact absurd h566 (by omega)
             | succ n559 ihlp558 =>
               intro x560 σ564 H locs ls h566 h567 h568 f569 f570 p571 p572 p573 q574 hP hS hl
               exact by
                obtain ⟨i575, i576, i577, i578, w579, w580, w581⟩ : (0 ≤ (σ564 31 8).toInt ∧ (σ564 31 8).toInt ≤ 350) ∧ (0 ≤ (σ564 31 10).toInt ∧ (σ564 31 10).toInt ≤ 12) ∧ (0 ≤ (σ564 31 11).toInt ∧ (σ564 31 11).toInt ≤ 8) ∧ ((σ564 31 10).toInt + (σ564 31 11).toInt ≤ 12) ∧ (∀ k : Nat, k < 1400 → (-1) ≤ (σ564 33 k).toInt ∧ (σ564 33 k).toInt ≤ 350) ∧ (∀ k : Nat, k < 3159 → (-1) ≤ (σ564 35 k).toInt ∧ (σ564 35 k).toInt ≤ 3) ∧ (∀ k : Nat, k < 1024 → 0 ≤ (σ564 36 k).toInt ∧ (σ564 36 k).toInt ≤ 349) := id p573
                have z582 : (σ564 31 10).toInt = A2 := ((congrArg Int32.toInt (show σ564 31 10 = a2 from ((f570 10 (of_decide_eq_true rfl)).trans ((f540 10 (of_decide_eq_true rfl)).trans ((jkp 10 eσ527 (of_decide_eq_true rfl)).trans ((jkp 10 eσ526 (of_decide_eq_true rfl)).trans ((jkp 10 eσ525 (of_decide_eq_true rfl)).trans (jsp eσ524)))))))).trans t2)
                have z583 : (σ564 31 11).toInt = x16.toInt := (congrArg Int32.toInt (show σ564 31 11 = x16 from ((f570 11 (of_decide_eq_true rfl)).trans ((f540 11 (of_decide_eq_true rfl)).trans ((jkp 11 eσ527 (of_decide_eq_true rfl)).trans ((jkp 11 eσ526 (of_decide_eq_true rfl)).trans (jsp eσ525)))))))
                refine lv_iload hx hb dX1_grow_99 (lv_at hl 0 rfl) ?_
                refine lv_aload_n hx hb dX1_grow_101 rfl (lv_at hl 3 rfl) ?_
                refine va_get (D := D) hx hb hts inlX1 hown hK hP 31 (jc_31 cI cL ad σ564 τ) rfl 8 (of_decide_eq_true rfl) (hts _ kw_27_22) (fun _ h9 => h9) rfl dX1_grow_102 ?_
                refine lv_icmp_ge (tgt := 202) hx hb dX1_grow_105 (of_decide_eq_true rfl) (fun c584 => ?_) (fun c584 => ?_)
                · have kc584 := jle c584 rfl rfl
                  have p585 : jKg σ564 := (show jFm (σ564 31 9) → _ from by rw [show σ564 31 9 = a1 from ((f570 9 (of_decide_eq_true rfl)).trans ((f540 9 (of_decide_eq_true rfl)).trans ((jkp 9 eσ527 (of_decide_eq_true rfl)).trans ((jkp 9 eσ526 (of_decide_eq_true rfl)).trans ((jkp 9 eσ525 (of_decide_eq_true rfl)).trans ((jkp 9 eσ524 (of_decide_eq_true rfl)).trans (jsp eσ523)))))))]; exact fun hm => (q574 hm).fin (by omega))
                  exact by
                   have z586 : (σ564 31 9).toInt = A1 := ((congrArg Int32.toInt (show σ564 31 9 = a1 from ((f570 9 (of_decide_eq_true rfl)).trans ((f540 9 (of_decide_eq_true rfl)).trans ((jkp 9 eσ527 (of_decide_eq_true rfl)).trans ((jkp 9 eσ526 (of_decide_eq_true rfl)).trans ((jkp 9 eσ525 (of_decide_eq_true rfl)).trans ((jkp 9 eσ524 (of_decide_eq_true rfl)).trans (jsp eσ523))))))))).trans t1)
                   exact by exact hret σ564 τ _ _ _ _ ⟨rfl, (fun i hi => ((f569 i hi).trans ((f539 i (imp_86 i hi)).trans ((jnp i eσ527 (imp_87 i hi)).trans ((jnp i eσ526 (imp_87 i hi)).trans ((jnp i eσ525 (imp_87 i hi)).trans ((jnp i eσ524 (imp_87 i hi)).trans (jnp i eσ523 (imp_87 i hi))))))))), (fun i hi => ((f570 i (imp_88 i hi)).trans ((f540 i (imp_88 i hi)).trans ((jkp i eσ527 (imp_89 i hi)).trans ((jkp i eσ526 (imp_90 i hi)).trans ((jkp i eσ525 (imp_91 i hi)).trans ((jkp i eσ524 (imp_92 i hi)).trans (jkp i eσ523 (imp_93 i hi))))))))), p573, p571, p572, p585, (by rw [show σ564 31 12 = 0 from ((f570 12 (of_decide_eq_true rfl)).trans ((f540 12 (of_decide_eq_true rfl)).trans ((jkp 12 eσ527 (of_decide_eq_true rfl)).trans (jsp eσ526))))]; exact w20), (by omega), (by omega), (by omega), trivial⟩ hP hS dX1_grow_202
                · have kc584 := jnle c584 rfl rfl
                  refine lv_iload hx hb dX1_grow_108 (lv_at hl 0 rfl) ?_
                  refine lv_sipush (v := 350) hx hb dX1_grow_110 (of_decide_eq_true rfl) ?_
                  refine lv_icmp_ge (tgt := 202) hx hb dX1_grow_113 (of_decide_eq_true rfl) (fun c => absurd (jle c jz_350 rfl) (by omega)) (fun c587 => ?_)
                  have kc587 := jnle c587 jz_350 rfl
                  refine lv_aload_n hx hb dX1_grow_116 rfl (lv_at hl 3 rfl) ?_
                  refine va_get (D := D) hx hb hts inlX1 hown hK hP 31 (jc_31 cI cL ad σ564 τ) rfl 2 (of_decide_eq_true rfl) (hts _ kw_5_3) (fun _ h9 => h9) rfl dX1_grow_117 ?_
                  exact by
                   refine lv_iload hx hb dX1_grow_120 (lv_at hl 0 rfl) ?_
                   refine jald hx hb hK hP (jc_32 cI cL ad σ564 τ) (jin rfl (by omega) (by omega)) dX1_grow_122 ?_
                   refine jtopr (y := (σ564 32 x560.toNatClampNeg)) rfl ?_
                   refine lv_ldc (v := 134217727) hx hb hown (hts _ kw_28_10) dX1_grow_123 ?_
                   refine lv_iand hx hb dX1_grow_125 ?_
                   refine lv_topi (fun x588 ex588 => ?_)
                   have gx588 := jrg (rfl : x588.toInt = x588.toInt)
                   have g589 : 0 ≤ x588.toInt ∧ x588.toInt ≤ 134217727 := jmask ex588 27 (of_decide_eq_true rfl) (of_decide_eq_true rfl)
                   refine lv_istore (lv' := [(6, .int x588), (5, .int x560), (4, .int 0), (3, .int x16), (0, .ref (ad 31)), (1, .int a1), (2, .int a2)]) hx hb dX1_grow_126 hl (of_decide_eq_true rfl) rfl (fun ls hl => ?_)
                   exact by
                    refine lv_aload_n hx hb dX1_grow_128 rfl (lv_at hl 4 rfl) ?_
                    refine va_get (D := D) hx hb hts inlX1 hown hK hP 31 (jc_31 cI cL ad σ564 τ) rfl 2 (of_decide_eq_true rfl) (hts _ kw_5_3) (fun _ h9 => h9) rfl dX1_grow_129 ?_
                    refine lv_iload hx hb dX1_grow_132 (lv_at hl 1 rfl) ?_
                    refine jald hx hb hK hP (jc_32 cI cL ad σ564 τ) (jin rfl (by omega) (by omega)) dX1_grow_134 ?_
                    refine jtopr (y := (σ564 32 x560.toNatClampNeg)) rfl ?_
                    refine lv_bipush (v := 27) hx hb dX1_grow_135 (of_decide_eq_true rfl) ?_
                    refine lv_ishr hx hb dX1_grow_137 ?_
                    refine lv_topi (fun x590 ex590 => ?_)
                    have gx590 := jrg (rfl : x590.toInt = x590.toInt)
                    exact by
                     have k591 := jshr27 (x := x590) (k := (σ564 32 x560.toNatClampNeg)) (by rw [ex590])
                     have k592 := p571 x560.toNatClampNeg (by rw [jnc (rfl : x560.toInt = x560.toInt)]; omega)
                     refine lv_istore (lv' := [(7, .int x590), (6, .int x588), (5, .int x560), (4, .int 0), (3, .int x16), (0, .ref (ad 31)), (1, .int a1), (2, .int a2)]) hx hb dX1_grow_138 hl (of_decide_eq_true rfl) rfl (fun ls hl => ?_)
                     refine lv_iconst (v := 0) hx hb dX1_grow_140 (of_decide_eq_true rfl) ?_
                     refine lv_istore (lv' := [(8, .int 0), (7, .int x590), (6, .int x588), (5, .int x560), (4, .int 0), (3, .int x16), (0, .ref (ad 31)), (1, .int a1), (2, .int a2)]) hx hb dX1_grow_141 hl (of_decide_eq_true rfl) rfl (fun ls hl => ?_)
                     have lp593 : ∀ (n594 : Nat) (x595 : Int32) (σ596 : Nat → Nat → Int32) (H : Heap) (locs : List Loc) (ls : Array Slot), (-x595.toInt + 4 : Int) < n594 → 0 ≤ x595.toInt → x595.toInt ≤ 4 → (∀ i : Nat, (i < 31 ∨ 33 < i) ∧ (i < 36 ∨ 37 < i) → σ596 i = σ564 i) → (∀ k : Nat, (k < 8 ∨ 8 < k) → σ596 31 k = σ564 31 k) → jKb σ596 → jKh σ596 → jI31 σ596 → ((jFm a1 → jqGo a1 (decide ((σ596 31 12).toInt ≠ 0)) (σ596 31 11).toInt (σ596 31 8).toInt (σ596 32) (σ596 33) x560.toInt x595.toInt) ∧ jqNo (σ596 32 x560.toInt.toNat) x588 x590.toInt ∧ x560.toInt < (σ596 31 8).toInt) → jH D cI cL ad σ596 τ H → va_S (jA ad) s.heap H locs → lv_has ls 9 [(8, .int x595), (7, .int x590), (6, .int x588), (5, .int x560), (4, .int 0), (3, .int x16), (0, .ref (ad 31)), (1, .int a1), (2, .int a2)] → W p l e ({ frames := 3, cells := 0, slots := 0, locals := 73 }) s m args below meth c H locs 0 0 Q (F0 m 143 ls []) := by
                       intro n594
                       induction n594 with
                       | zero => intro x595 σ596 H locs ls h598 h599 h600; exact absurd h598 (by omega)
                       | succ n594 ihlp593 =>
                         intro x595 σ596 H locs ls h598 h599 h600 f601 f602 p603 p604 p605 q606 hP hS hl
                         exact by
                          obtain ⟨i607, i608, i609, i610, w611, w612, w613⟩ : (0 ≤ (σ596 31 8).toInt ∧ (σ596 31 8).toInt ≤ 350) ∧ (0 ≤ (σ596 31 10).toInt ∧ (σ596 31 10).toInt ≤ 12) ∧ (0 ≤ (σ596 31 11).toInt ∧ (σ596 31 11).toInt ≤ 8) ∧ ((σ596 31 10).toInt + (σ596 31 11).toInt ≤ 12) ∧ (∀ k : Nat, k < 1400 → (-1) ≤ (σ596 33 k).toInt ∧ (σ596 33 k).toInt ≤ 350) ∧ (∀ k : Nat, k < 3159 → (-1) ≤ (σ596 35 k).toInt ∧ (σ596 35 k).toInt ≤ 3) ∧ (∀ k : Nat, k < 1024 → 0 ≤ (σ596 36 k).toInt ∧ (σ596 36 k).toInt ≤ 349) := id p605
                          have z614 : (σ596 31 10).toInt = A2 := ((congrArg Int32.toInt (show σ596 31 10 = a2 from ((f602 10 (of_decide_eq_true rfl)).trans ((f570 10 (of_decide_eq_true rfl)).trans ((f540 10 (of_decide_eq_true rfl)).trans ((jkp 10 eσ527 (of_decide_eq_true rfl)).trans ((jkp 10 eσ526 (of_decide_eq_true rfl)).trans ((jkp 10 eσ525 (of_decide_eq_true rfl)).trans (jsp eσ524))))))))).trans t2)
                          have z615 : (σ596 31 11).toInt = x16.toInt := (congrArg Int32.toInt (show σ596 31 11 = x16 from ((f602 11 (of_decide_eq_true rfl)).trans ((f570 11 (of_decide_eq_true rfl)).trans ((f540 11 (of_decide_eq_true rfl)).trans ((jkp 11 eσ527 (of_decide_eq_true rfl)).trans ((jkp 11 eσ526 (of_decide_eq_true rfl)).trans (jsp eσ525))))))))
                          refine lv_iload hx hb dX1_grow_143 (lv_at hl 0 rfl) ?_
                          refine lv_iconst (v := 4) hx hb dX1_grow_145 (of_decide_eq_true rfl) ?_
                          refine lv_icmp_ge (tgt := 196) hx hb dX1_grow_146 (of_decide_eq_true rfl) (fun c616 => ?_) (fun c616 => ?_)
                          · have kc616 := jle c616 jz_4 rfl
                            obtain ⟨x617, ex617⟩ : ∃ y : Int32, y = x560 + 1 := ⟨_, rfl⟩
                            have tx617 : x617.toInt = x560.toInt + 1 := (jadd ex617 rfl jz_1 (by omega) (by omega)).trans (by omega)
                            exact by
                             refine lv_iinc (v := x617) (lv' := [(5, .int x617), (8, .int x595), (7, .int x590), (6, .int x588), (4, .int 0), (3, .int x16), (0, .ref (ad 31)), (1, .int a1), (2, .int a2)]) hx hb dX1_grow_196 hl (k := 3) rfl (by rw [ex617]; rfl) (of_decide_eq_true rfl) rfl (fun ls hl => ?_)
                             refine lv_goto (tgt := 99) hx hb dX1_grow_199 (of_decide_eq_true rfl) ?_
                             exact by exact ihlp558 x617 σ596 _ _ ls (by have h90 := tx617; omega) (by have h90 := tx617; omega) (by have h90 := tx617; omega) (fun i hi => ((f601 i hi).trans (f569 i hi))) (fun i hi => ((f602 i hi).trans (f570 i hi)))  p603 p604 p605 (fun hm => jqGo.row (q606.1 hm) (by omega) (by have h9 := tx617; omega) (by omega) q606.2.2) hP hS (lv_sub hl [0, 4, 5, 6, 7, 8] rfl)
                          · have kc616 := jnle c616 jz_4 rfl
                            refine lv_aload_n hx hb dX1_grow_149 rfl (lv_at hl 6 rfl) ?_
                            refine va_get (D := D) hx hb hts inlX1 hown hK hP 31 (jc_31 cI cL ad σ596 τ) rfl 3 (of_decide_eq_true rfl) (hts _ kw_5_4) (fun _ h9 => h9) rfl dX1_grow_150 ?_
                            refine lv_iload hx hb dX1_grow_153 (lv_at hl 3 rfl) ?_
                            refine lv_iconst (v := 4) hx hb dX1_grow_155 (of_decide_eq_true rfl) ?_
                            have g618 := jrg (rfl : x560.toInt = x560.toInt)
                            refine lv_imul hx hb dX1_grow_156 ?_
                            refine lv_topi (fun x619 ex619 => ?_)
                            exact by
                             have tx619 : x619.toInt = 4 * x560.toInt := (jmul ex619 rfl jz_4 (by omega) (by omega)).trans (by omega)
                             refine lv_iload hx hb dX1_grow_157 (lv_at hl 0 rfl) ?_
                             have g620 := jrg (rfl : x595.toInt = x595.toInt)
                             refine lv_iadd hx hb dX1_grow_159 ?_
                             refine lv_topi (fun x621 ex621 => ?_)
                             have tx621 : x621.toInt = 4 * x560.toInt + x595.toInt := (jadd ex621 tx619 rfl (by omega) (by omega)).trans (by omega)
                             refine lv_iload hx hb dX1_grow_160 (lv_at hl 2 rfl) ?_
                             refine lv_iload hx hb dX1_grow_162 (lv_at hl 0 rfl) ?_
                             refine jcallS (As := [.int x588, .int x595]) (rest := [.int x621, .ref (ad 33)]) ⟨hx, hb, hml, hown, hts⟩ hK hP hA hS hZ (c_X0_mayBowl l D cI cL ad zz hJ σ596 τ x588 (x588.toInt) rfl x595 (x595.toInt) rfl) cw_RX1_115 ⟨Nat.le_of_ble_eq_true rfl, Nat.le_of_ble_eq_true rfl⟩ rfl rfl rfl hl.1 rfl (Nat.le_of_ble_eq_true rfl) dX1_grow_164 ⟨Nat.zero_le _, Nat.zero_le _⟩ (fun r623 σ622 τ622 H locs h622 hP hS => ?_)
                             exact by
                              obtain ⟨⟨rfl, rfl⟩, w624, h622⟩ := h622
                              rcases h622 with h625 | h626
                              · obtain ⟨q628, k627⟩ := h625
                                have q628 := q628.symm
                                subst q628
                                refine lv_if_eq (tgt := 188) hx hb dX1_grow_167 (of_decide_eq_true rfl) (fun c => absurd c (of_decide_eq_true rfl)) (fun _ => ?_)
                                refine lv_aload_n hx hb dX1_grow_170 rfl (lv_at hl 6 rfl) ?_
                                refine lv_iload hx hb dX1_grow_171 (lv_at hl 2 rfl) ?_
                                refine lv_iload hx hb dX1_grow_173 (lv_at hl 0 rfl) ?_
                                exact by
                                 refine jcallS (As := [.int x588, .int x595]) (rest := [.ref (ad 31), .int x621, .ref (ad 33)]) ⟨hx, hb, hml, hown, hts⟩ hK hP hA hS hZ (c_X0_after_r l D cI cL ad zz hJ σ596 τ x588 (x588.toInt) rfl x595 (x595.toInt) rfl (by omega)) cw_RX1_119 ⟨Nat.le_of_ble_eq_true rfl, Nat.le_of_ble_eq_true rfl⟩ rfl rfl rfl hl.1 rfl (Nat.le_of_ble_eq_true rfl) dX1_grow_175 ⟨Nat.zero_le _, Nat.zero_le _⟩ (fun r630 σ629 τ629 H locs h629 hP hS => ?_)
                                 obtain ⟨⟨rfl, rfl⟩, w631, w632, h629⟩ := h629
                                 have h633 := h629
                                 obtain ⟨q635, k634⟩ := h633
                                 refine lv_iload hx hb dX1_grow_178 (lv_at hl 1 rfl) ?_
                                 refine lv_iconst (v := 1) hx hb dX1_grow_180 (of_decide_eq_true rfl) ?_
                                 have g636 := jrg (rfl : x590.toInt = x590.toInt)
                                 refine lv_iadd hx hb dX1_grow_181 ?_
                                 refine lv_topi (fun x637 ex637 => ?_)
                                 exact by
                                  have tx637 : x637.toInt = x590.toInt + 1 := (jadd ex637 rfl jz_1 (by omega) (by omega)).trans (by omega)
                                  refine jcallV (As := [.int r630, .int x637]) (rest := [.int x621, .ref (ad 33)]) ⟨hx, hb, hml, hown, hts⟩ hK hP hA hS hZ (c_X1_add_31 l D cI cL ad zz hJ σ596 τ r630 (r630.toInt) rfl x637 (x590.toInt + 1) tx637 p605 p603 p604 (by omega) (by omega)) cw_RX1_111 (jc_31 cI cL ad σ596 τ) rfl ⟨Nat.le_of_ble_eq_true rfl, Nat.le_of_ble_eq_true rfl⟩ rfl rfl rfl hl.1 rfl (Nat.le_of_ble_eq_true rfl) dX1_grow_182 ⟨Nat.zero_le _, Nat.zero_le _⟩ (fun r639 σ638 τ638 H locs h638 hP hS => ?_)
                                  obtain ⟨rfl, f640, f641, I642, p643, p644, w645, h638⟩ := h638
                                  obtain ⟨i647, i648, i649, i650, w651, w652, w653⟩ : (0 ≤ (σ638 31 8).toInt ∧ (σ638 31 8).toInt ≤ 350) ∧ (0 ≤ (σ638 31 10).toInt ∧ (σ638 31 10).toInt ≤ 12) ∧ (0 ≤ (σ638 31 11).toInt ∧ (σ638 31 11).toInt ≤ 8) ∧ ((σ638 31 10).toInt + (σ638 31 11).toInt ≤ 12) ∧ (∀ k : Nat, k < 1400 → (-1) ≤ (σ638 33 k).toInt ∧ (σ638 33 k).toInt ≤ 350) ∧ (∀ k : Nat, k < 3159 → (-1) ≤ (σ638 35 k).toInt ∧ (σ638 35 k).toInt ≤ 3) ∧ (∀ k : Nat, k < 1024 → 0 ≤ (σ638 36 k).toInt ∧ (σ638 36 k).toInt ≤ 349) := id I642
                                  have z654 : (σ638 31 10).toInt = A2 := ((congrArg Int32.toInt (show σ638 31 10 = a2 from ((f641 10 (of_decide_eq_true rfl)).trans ((f602 10 (of_decide_eq_true rfl)).trans ((f570 10 (of_decide_eq_true rfl)).trans ((f540 10 (of_decide_eq_true rfl)).trans ((jkp 10 eσ527 (of_decide_eq_true rfl)).trans ((jkp 10 eσ526 (of_decide_eq_true rfl)).trans ((jkp 10 eσ525 (of_decide_eq_true rfl)).trans (jsp eσ524)))))))))).trans t2)
                                  have z655 : (σ638 31 11).toInt = x16.toInt := (congrArg Int32.toInt (show σ638 31 11 = x16 from ((f641 11 (of_decide_eq_true rfl)).trans ((f602 11 (of_decide_eq_true rfl)).trans ((f570 11 (of_decide_eq_true rfl)).trans ((f540 11 (of_decide_eq_true rfl)).trans ((jkp 11 eσ527 (of_decide_eq_true rfl)).trans ((jkp 11 eσ526 (of_decide_eq_true rfl)).trans (jsp eσ525)))))))))
                                  have h656 := h638
                                  obtain ⟨q658, k657⟩ := h656
                                  refine lv_goto (tgt := 189) hx hb dX1_grow_185 (of_decide_eq_true rfl) ?_
                                  exact by
                                   refine jast hx hb hK hP hJ hA hS (jc_33 cI cL ad σ638 τ) (ja_33 cI cL ad σ638 τ _ _) (jin tx621 (by omega) (by omega)) dX1_grow_189 (fun σ659 H locs eσ659 hP hS => ?_)
                                   obtain ⟨x660, ex660⟩ : ∃ y : Int32, y = x595 + 1 := ⟨_, rfl⟩
                                   have tx660 : x660.toInt = x595.toInt + 1 := (jadd ex660 rfl jz_1 (by omega) (by omega)).trans (by omega)
                                   refine lv_iinc (v := x660) (lv' := [(8, .int x660), (7, .int x590), (6, .int x588), (5, .int x560), (4, .int 0), (3, .int x16), (0, .ref (ad 31)), (1, .int a1), (2, .int a2)]) hx hb dX1_grow_190 hl (k := 0) rfl (by rw [ex660]; rfl) (of_decide_eq_true rfl) rfl (fun ls hl => ?_)
                                   refine lv_goto (tgt := 143) hx hb dX1_grow_193 (of_decide_eq_true rfl) ?_
                                   have p661 : jKb σ659 := jKb.fr (congrFun (jnp 31 eσ659 (of_decide_eq_true rfl)) 8) (congrFun (jnp 31 eσ659 (of_decide_eq_true rfl)) 11) (jnp 32 eσ659 (of_decide_eq_true rfl)) p643
                                   have p662 : jKh σ659 := jKh.fr (congrFun (jnp 31 eσ659 (of_decide_eq_true rfl)) 8) (jnp 32 eσ659 (of_decide_eq_true rfl)) (jnp 36 eσ659 (of_decide_eq_true rfl)) (jnp 37 eσ659 (of_decide_eq_true rfl)) p644
                                   have z663 : (σ659 31 8).toInt = (σ638 31 8).toInt := (congrArg Int32.toInt (show σ659 31 8 = (σ638 31 8) from (congrFun (jnp 31 eσ659 (of_decide_eq_true rfl)) 8)))
                                   have z664 : (σ659 31 10).toInt = A2 := ((congrArg Int32.toInt (show σ659 31 10 = a2 from ((congrFun (jnp 31 eσ659 (of_decide_eq_true rfl)) 10).trans ((f641 10 (of_decide_eq_true rfl)).trans ((f602 10 (of_decide_eq_true rfl)).trans ((f570 10 (of_decide_eq_true rfl)).trans ((f540 10 (of_decide_eq_true rfl)).trans ((jkp 10 eσ527 (of_decide_eq_true rfl)).trans ((jkp 10 eσ526 (of_decide_eq_true rfl)).trans ((jkp 10 eσ525 (of_decide_eq_true rfl)).trans (jsp eσ524))))))))))).trans t2)
                                   exact by
                                    have z665 : (σ659 31 11).toInt = x16.toInt := (congrArg Int32.toInt (show σ659 31 11 = x16 from ((congrFun (jnp 31 eσ659 (of_decide_eq_true rfl)) 11).trans ((f641 11 (of_decide_eq_true rfl)).trans ((f602 11 (of_decide_eq_true rfl)).trans ((f570 11 (of_decide_eq_true rfl)).trans ((f540 11 (of_decide_eq_true rfl)).trans ((jkp 11 eσ527 (of_decide_eq_true rfl)).trans ((jkp 11 eσ526 (of_decide_eq_true rfl)).trans (jsp eσ525))))))))))
                                    have w666 : ∀ k : Nat, k < 1400 → (-1) ≤ (σ659 33 k).toInt ∧ (σ659 33 k).toInt ≤ 350 := (by rw [eσ659]; exact jrr_up w651 (by omega) (by omega))
                                    have w667 : ∀ k : Nat, k < 3159 → (-1) ≤ (σ659 35 k).toInt ∧ (σ659 35 k).toInt ≤ 3 := (jrr_fr (jnp 35 eσ659 (of_decide_eq_true rfl)) w652)
                                    have w668 : ∀ k : Nat, k < 1024 → 0 ≤ (σ659 36 k).toInt ∧ (σ659 36 k).toInt ≤ 349 := (jrr_fr (jnp 36 eσ659 (of_decide_eq_true rfl)) w653)
                                    have I669 : jI31 σ659 := ⟨(by omega), (by omega), (by omega), (by omega), w666, w667, w668⟩
                                    exact by exact ihlp593 x660 σ659 _ _ ls (by have h90 := tx660; omega) (by have h90 := tx660; omega) (by have h90 := tx660; omega) (fun i hi => ((jnp i eσ659 (imp_94 i hi)).trans ((f640 i (imp_86 i hi)).trans (f601 i hi)))) (fun i hi => ((congrFun (jnp 31 eσ659 (of_decide_eq_true rfl)) i).trans ((f641 i hi).trans (f602 i hi))))  p661 p662 I669 (by rw [show σ659 31 8 = σ638 31 8 from (congrFun (jnp 31 eσ659 (of_decide_eq_true rfl)) 8), show σ659 32 = σ638 32 from (jnp 32 eσ659 (of_decide_eq_true rfl)), show σ659 31 11 = σ596 31 11 from ((congrFun (jnp 31 eσ659 (of_decide_eq_true rfl)) 11).trans (f641 11 (of_decide_eq_true rfl))), show σ659 31 12 = σ596 31 12 from ((congrFun (jnp 31 eσ659 (of_decide_eq_true rfl)) 12).trans (f641 12 (of_decide_eq_true rfl)))]; exact ⟨(fun hm => jqGo.put (q606.1 hm) (by omega) (by omega) (by omega) (by omega) q606.2.1 ((jqMy_iff (by omega) (by omega)).mpr ((w624).elim (fun w => w.2) (fun w => absurd w.1 (of_decide_eq_true rfl)))) (w632 (by omega) (by omega)) w645 (by omega) p604 (by omega) (by rw [eσ659, jup_row, f640 33 (of_decide_eq_true rfl), jnc (show x621.toInt = 4 * x560.toInt + x595.toInt by have h9 := tx621; omega)]) rfl (by have h9 := tx660; omega)), (by rw [(w645).1 x560.toInt.toNat (by omega)]; exact q606.2.1), (by have w8 := jqAd.le w645; have w9 := q606.2.2; omega)⟩) hP hS (lv_sub hl [0, 1, 2, 3, 4, 5, 6, 7, 8] rfl)
                              · obtain ⟨q671, k670⟩ := h626
                                have q671 := q671.symm
                                subst q671
                                exact by
                                 refine lv_if_eq (tgt := 188) hx hb dX1_grow_167 (of_decide_eq_true rfl) (fun _ => ?_) (fun c => absurd (of_decide_eq_true rfl) c)
                                 refine lv_iconst (v := (-1)) hx hb dX1_grow_188 (of_decide_eq_true rfl) ?_
                                 refine jast hx hb hK hP hJ hA hS (jc_33 cI cL ad σ596 τ) (ja_33 cI cL ad σ596 τ _ _) (jin tx621 (by omega) (by omega)) dX1_grow_189 (fun σ672 H locs eσ672 hP hS => ?_)
                                 obtain ⟨x673, ex673⟩ : ∃ y : Int32, y = x595 + 1 := ⟨_, rfl⟩
                                 have tx673 : x673.toInt = x595.toInt + 1 := (jadd ex673 rfl jz_1 (by omega) (by omega)).trans (by omega)
                                 refine lv_iinc (v := x673) (lv' := [(8, .int x673), (7, .int x590), (6, .int x588), (5, .int x560), (4, .int 0), (3, .int x16), (0, .ref (ad 31)), (1, .int a1), (2, .int a2)]) hx hb dX1_grow_190 hl (k := 0) rfl (by rw [ex673]; rfl) (of_decide_eq_true rfl) rfl (fun ls hl => ?_)
                                 refine lv_goto (tgt := 143) hx hb dX1_grow_193 (of_decide_eq_true rfl) ?_
                                 have p674 : jKb σ672 := jKb.fr (congrFun (jnp 31 eσ672 (of_decide_eq_true rfl)) 8) (congrFun (jnp 31 eσ672 (of_decide_eq_true rfl)) 11) (jnp 32 eσ672 (of_decide_eq_true rfl)) p603
                                 have p675 : jKh σ672 := jKh.fr (congrFun (jnp 31 eσ672 (of_decide_eq_true rfl)) 8) (jnp 32 eσ672 (of_decide_eq_true rfl)) (jnp 36 eσ672 (of_decide_eq_true rfl)) (jnp 37 eσ672 (of_decide_eq_true rfl)) p604
                                 exact by
                                  have z676 : (σ672 31 8).toInt = (σ596 31 8).toInt := (congrArg Int32.toInt (show σ672 31 8 = (σ596 31 8) from (congrFun (jnp 31 eσ672 (of_decide_eq_true rfl)) 8)))
                                  have z677 : (σ672 31 10).toInt = A2 := ((congrArg Int32.toInt (show σ672 31 10 = a2 from ((congrFun (jnp 31 eσ672 (of_decide_eq_true rfl)) 10).trans ((f602 10 (of_decide_eq_true rfl)).trans ((f570 10 (of_decide_eq_true rfl)).trans ((f540 10 (of_decide_eq_true rfl)).trans ((jkp 10 eσ527 (of_decide_eq_true rfl)).trans ((jkp 10 eσ526 (of_decide_eq_true rfl)).trans ((jkp 10 eσ525 (of_decide_eq_true rfl)).trans (jsp eσ524)))))))))).trans t2)
                                  have z678 : (σ672 31 11).toInt = x16.toInt := (congrArg Int32.toInt (show σ672 31 11 = x16 from ((congrFun (jnp 31 eσ672 (of_decide_eq_true rfl)) 11).trans ((f602 11 (of_decide_eq_true rfl)).trans ((f570 11 (of_decide_eq_true rfl)).trans ((f540 11 (of_decide_eq_true rfl)).trans ((jkp 11 eσ527 (of_decide_eq_true rfl)).trans ((jkp 11 eσ526 (of_decide_eq_true rfl)).trans (jsp eσ525)))))))))
                                  have w679 : ∀ k : Nat, k < 1400 → (-1) ≤ (σ672 33 k).toInt ∧ (σ672 33 k).toInt ≤ 350 := (by rw [eσ672]; exact jrr_up w611 (by have h9 := jz_m1; omega) (by have h9 := jz_m1; omega))
                                  have w680 : ∀ k : Nat, k < 3159 → (-1) ≤ (σ672 35 k).toInt ∧ (σ672 35 k).toInt ≤ 3 := (jrr_fr (jnp 35 eσ672 (of_decide_eq_true rfl)) w612)
                                  have w681 : ∀ k : Nat, k < 1024 → 0 ≤ (σ672 36 k).toInt ∧ (σ672 36 k).toInt ≤ 349 := (jrr_fr (jnp 36 eσ672 (of_decide_eq_true rfl)) w613)
                                  have I682 : jI31 σ672 := ⟨(by omega), (by omega), (by omega), (by omega), w679, w680, w681⟩
                                  exact by exact ihlp593 x673 σ672 _ _ ls (by have h90 := tx673; omega) (by have h90 := tx673; omega) (by have h90 := tx673; omega) (fun i hi => ((jnp i eσ672 (imp_94 i hi)).trans (f601 i hi))) (fun i hi => ((congrFun (jnp 31 eσ672 (of_decide_eq_true rfl)) i).trans (f602 i hi)))  p674 p675 I682 (by rw [show σ672 31 8 = σ596 31 8 from (congrFun (jnp 31 eσ672 (of_decide_eq_true rfl)) 8), show σ672 31 11 = σ596 31 11 from (congrFun (jnp 31 eσ672 (of_decide_eq_true rfl)) 11), show σ672 31 12 = σ596 31 12 from (congrFun (jnp 31 eσ672 (of_decide_eq_true rfl)) 12), show σ672 32 = σ596 32 from (jnp 32 eσ672 (of_decide_eq_true rfl))]; exact ⟨(fun hm => jqGo.none (q606.1 hm) (by omega) (by omega) (by omega) (by omega) q606.2.1 (fun w => ((w624).elim (fun w => absurd w.1 (of_decide_eq_true rfl)) (fun w => w.2)) ((jqMy_iff (by omega) (by omega)).mp w)) (by rw [eσ672, jup_row, jnc (show x621.toInt = 4 * x560.toInt + x595.toInt by have h9 := tx621; omega)]) (of_decide_eq_true rfl) (by have h9 := tx673; omega)), q606.2.1, q606.2.2⟩) hP hS (lv_sub hl [0, 1, 2, 3, 4, 5, 6, 7, 8] rfl)
                     exact by exact lp593 1000000 0 σ564 _ _ ls (by have h90 := jz_0; omega) (by have h90 := jz_0; omega) (by have h90 := jz_0; omega) (fun _ _ => rfl) (fun _ _ => rfl)  p571 p572 p573 ⟨(by rw [show (0 : Int32).toInt = 0 from by decide]; exact q574), ⟨(by have w := jandm (x := (σ564 32 x560.toNatClampNeg)) (y := x588) (m := 134217727) (k := 27) (M := 134217728) (by rw [ex588]) rfl rfl (of_decide_eq_true rfl); show (σ564 32 x560.toNatClampNeg).toInt = _; omega), ⟨by omega, by omega⟩, (by omega)⟩, by omega⟩ hP hS hl
           exact by exact lp558 1000000 0 σ537 _ _ ls (by have h90 := jz_0; omega) (by have h90 := jz_0; omega) (by have h90 := jz_0; omega) (fun _ _ => rfl) (fun _ _ => rfl)  p542 p543 I541 (by rw [show σ537 31 11 = σ527 31 11 from (f540 11 (of_decide_eq_true rfl)), show σ537 31 12 = σ527 31 12 from (f540 12 (of_decide_eq_true rfl))]; exact (fun hm => jqGo.first hm (by have w := w544; rw [show (σ527 31 8).toInt = 0 from by omega] at w; exact w) rfl (by have h9 := jz_0; omega))) hP hS hl
      · exact by
         have kc522 := jeq c522 rfl t1
         refine lv_aload_n hx hb dX1_grow_40 rfl (lv_at hl 2 rfl) ?_
         refine va_get (D := D) hx hb hts inlX1 hown hK hP 31 (jc_31 cI cL ad σ τ) rfl 11 (of_decide_eq_true rfl) (hts _ kw_28_7) (fun _ h9 => h9) rfl dX1_grow_41 ?_
         refine lv_iload_n hx hb dX1_grow_44 rfl (lv_at hl 1 rfl) ?_
         refine lv_icmp_ne (tgt := 63) hx hb dX1_grow_45 (of_decide_eq_true rfl) (fun c683 => ?_) (fun c683 => ?_)
         · have kc683 := jne c683 rfl rfl
           refine lv_aload_n hx hb dX1_grow_63 rfl (lv_at hl 2 rfl) ?_
           refine lv_iload_n hx hb dX1_grow_64 rfl (lv_at hl 3 rfl) ?_
           refine jput (ty := .int) hx hb hts inlX1 tyX1 tyX1_ok nmX1 hown hK hP hJ hA hS (jc_31 cI cL ad σ τ) rfl (k := 9) (of_decide_eq_true rfl) (Nat.le_of_ble_eq_true rfl) (jp_31_9 cI cL ad σ τ a1) (hts _ kw_5_9) (fun _ h9 => h9) rfl (by decide +kernel) rfl rfl dX1_grow_65 (fun σ684 H locs eσ684 hP hS => ?_)
           refine lv_aload_n hx hb dX1_grow_68 rfl (lv_at hl 2 rfl) ?_
           refine lv_iload_n hx hb dX1_grow_69 rfl (lv_at hl 4 rfl) ?_
           refine jput (ty := .int) hx hb hts inlX1 tyX1 tyX1_ok nmX1 hown hK hP hJ hA hS (jc_31 cI cL ad σ684 τ) rfl (k := 10) (of_decide_eq_true rfl) (Nat.le_of_ble_eq_true rfl) (jp_31_10 cI cL ad σ684 τ a2) (hts _ kw_28_9) (fun _ h9 => h9) rfl (by decide +kernel) rfl rfl dX1_grow_70 (fun σ685 H locs eσ685 hP hS => ?_)
           refine lv_aload_n hx hb dX1_grow_73 rfl (lv_at hl 2 rfl) ?_
           refine lv_iload_n hx hb dX1_grow_74 rfl (lv_at hl 1 rfl) ?_
           refine jput (ty := .int) hx hb hts inlX1 tyX1 tyX1_ok nmX1 hown hK hP hJ hA hS (jc_31 cI cL ad σ685 τ) rfl (k := 11) (of_decide_eq_true rfl) (Nat.le_of_ble_eq_true rfl) (jp_31_11 cI cL ad σ685 τ x16) (hts _ kw_28_7) (fun _ h9 => h9) rfl (by decide +kernel) rfl rfl dX1_grow_75 (fun σ686 H locs eσ686 hP hS => ?_)
           refine lv_aload_n hx hb dX1_grow_78 rfl (lv_at hl 2 rfl) ?_
           refine lv_iload hx hb dX1_grow_79 (lv_at hl 0 rfl) ?_
           refine jput (ty := .boolean) hx hb hts inlX1 tyX1 tyX1_ok nmX1 hown hK hP hJ hA hS (jc_31 cI cL ad σ686 τ) rfl (k := 12) (of_decide_eq_true rfl) (Nat.le_of_ble_eq_true rfl) (jp_31_12 cI cL ad σ686 τ 0) (hts _ kw_28_8) (fun _ h9 => h9) rfl (by decide +kernel) rfl rfl dX1_grow_81 (fun σ687 H locs eσ687 hP hS => ?_)
           refine lv_aload_n hx hb dX1_grow_84 rfl (lv_at hl 2 rfl) ?_
           refine lv_iconst (v := 0) hx hb dX1_grow_85 (of_decide_eq_true rfl) ?_
           refine jput (ty := .int) hx hb hts inlX1 tyX1 tyX1_ok nmX1 hown hK hP hJ hA hS (jc_31 cI cL ad σ687 τ) rfl (k := 8) (of_decide_eq_true rfl) (Nat.le_of_ble_eq_true rfl) (jp_31_8 cI cL ad σ687 τ 0) (hts _ kw_27_22) (fun _ h9 => h9) rfl (by decide +kernel) rfl rfl dX1_grow_86 (fun σ688 H locs eσ688 hP hS => ?_)
           have z689 : (σ688 31 8).toInt = 0 := ((congrArg Int32.toInt (show σ688 31 8 = 0 from (jsp eσ688))).trans jz_0)
           exact by
            have p690 : jKb σ688 := (jKb.nil (by omega))
            have p691 : jKh σ688 := (jKh.nil (by omega))
            refine lv_aload_n hx hb dX1_grow_89 rfl (lv_at hl 2 rfl) ?_
            refine lv_iload_n hx hb dX1_grow_90 rfl (lv_at hl 3 rfl) ?_
            refine lv_iconst (v := 0) hx hb dX1_grow_91 (of_decide_eq_true rfl) ?_
            have z692 : (σ688 31 10).toInt = A2 := ((congrArg Int32.toInt (show σ688 31 10 = a2 from ((jkp 10 eσ688 (of_decide_eq_true rfl)).trans ((jkp 10 eσ687 (of_decide_eq_true rfl)).trans ((jkp 10 eσ686 (of_decide_eq_true rfl)).trans (jsp eσ685)))))).trans t2)
            have z693 : (σ688 31 11).toInt = x16.toInt := (congrArg Int32.toInt (show σ688 31 11 = x16 from ((jkp 11 eσ688 (of_decide_eq_true rfl)).trans ((jkp 11 eσ687 (of_decide_eq_true rfl)).trans (jsp eσ686)))))
            have w694 : ∀ k : Nat, k < 1400 → (-1) ≤ (σ688 33 k).toInt ∧ (σ688 33 k).toInt ≤ 350 := (jrr_fr (jnp 33 eσ688 (of_decide_eq_true rfl)) (jrr_fr (jnp 33 eσ687 (of_decide_eq_true rfl)) (jrr_fr (jnp 33 eσ686 (of_decide_eq_true rfl)) (jrr_fr (jnp 33 eσ685 (of_decide_eq_true rfl)) (jrr_fr (jnp 33 eσ684 (of_decide_eq_true rfl)) w9)))))
            have w695 : ∀ k : Nat, k < 3159 → (-1) ≤ (σ688 35 k).toInt ∧ (σ688 35 k).toInt ≤ 3 := (jrr_fr (jnp 35 eσ688 (of_decide_eq_true rfl)) (jrr_fr (jnp 35 eσ687 (of_decide_eq_true rfl)) (jrr_fr (jnp 35 eσ686 (of_decide_eq_true rfl)) (jrr_fr (jnp 35 eσ685 (of_decide_eq_true rfl)) (jrr_fr (jnp 35 eσ684 (of_decide_eq_true rfl)) w10)))))
            exact by
             have w696 : ∀ k : Nat, k < 1024 → 0 ≤ (σ688 36 k).toInt ∧ (σ688 36 k).toInt ≤ 349 := (jrr_fr (jnp 36 eσ688 (of_decide_eq_true rfl)) (jrr_fr (jnp 36 eσ687 (of_decide_eq_true rfl)) (jrr_fr (jnp 36 eσ686 (of_decide_eq_true rfl)) (jrr_fr (jnp 36 eσ685 (of_decide_eq_true rfl)) (jrr_fr (jnp 36 eσ684 (of_decide_eq_true rfl)) w11)))))
             have I697 : jI31 σ688 := ⟨(by omega), (by omega), (by omega), (by omega), w694, w695, w696⟩
             refine jcallV (As := [.int a1, .int 0]) (rest := []) ⟨hx, hb, hml, hown, hts⟩ hK hP hA hS hZ (c_X1_add_31 l D cI cL ad zz hJ σ688 τ a1 (A1) t1 0 (0) jz_0 I697 p690 p691 (by omega) (by omega)) cw_RX1_111 (jc_31 cI cL ad σ688 τ) rfl ⟨Nat.le_of_ble_eq_true rfl, Nat.le_of_ble_eq_true rfl⟩ rfl rfl rfl hl.1 rfl (Nat.le_of_ble_eq_true rfl) dX1_grow_92 ⟨Nat.zero_le _, Nat.zero_le _⟩ (fun r699 σ698 τ698 H locs h698 hP hS => ?_)
             obtain ⟨rfl, f700, f701, I702, p703, p704, w705, h698⟩ := h698
             obtain ⟨i707, i708, i709, i710, w711, w712, w713⟩ : (0 ≤ (σ698 31 8).toInt ∧ (σ698 31 8).toInt ≤ 350) ∧ (0 ≤ (σ698 31 10).toInt ∧ (σ698 31 10).toInt ≤ 12) ∧ (0 ≤ (σ698 31 11).toInt ∧ (σ698 31 11).toInt ≤ 8) ∧ ((σ698 31 10).toInt + (σ698 31 11).toInt ≤ 12) ∧ (∀ k : Nat, k < 1400 → (-1) ≤ (σ698 33 k).toInt ∧ (σ698 33 k).toInt ≤ 350) ∧ (∀ k : Nat, k < 3159 → (-1) ≤ (σ698 35 k).toInt ∧ (σ698 35 k).toInt ≤ 3) ∧ (∀ k : Nat, k < 1024 → 0 ≤ (σ698 36 k).toInt ∧ (σ698 36 k).toInt ≤ 349) := id I702
             have z714 : (σ698 31 10).toInt = A2 := ((congrArg Int32.toInt (show σ698 31 10 = a2 from ((f701 10 (of_decide_eq_true rfl)).trans ((jkp 10 eσ688 (of_decide_eq_true rfl)).trans ((jkp 10 eσ687 (of_decide_eq_true rfl)).trans ((jkp 10 eσ686 (of_decide_eq_true rfl)).trans (jsp eσ685))))))).trans t2)
             have z715 : (σ698 31 11).toInt = x16.toInt := (congrArg Int32.toInt (show σ698 31 11 = x16 from ((f701 11 (of_decide_eq_true rfl)).trans ((jkp 11 eσ688 (of_decide_eq_true rfl)).trans ((jkp 11 eσ687 (of_decide_eq_true rfl)).trans (jsp eσ686))))))
             have h716 := h698
             obtain ⟨q718, k717⟩ := h716
             exact by
              refine lv_pop hx hb dX1_grow_95 rfl ?_
              refine lv_iconst (v := 0) hx hb dX1_grow_96 (of_decide_eq_true rfl) ?_
              refine lv_istore (lv' := [(5, .int 0), (4, .int 0), (3, .int x16), (0, .ref (ad 31)), (1, .int a1), (2, .int a2)]) hx hb dX1_grow_97 hl (of_decide_eq_true rfl) rfl (fun ls hl => ?_)
              have lp719 : ∀ (n720 : Nat) (x721 : Int32) (σ725 : Nat → Nat → Int32) (H : Heap) (locs : List Loc) (ls : Array Slot), (-x721.toInt + 350 : Int) < n720 → 0 ≤ x721.toInt → x721.toInt ≤ 350 → (∀ i : Nat, (i < 31 ∨ 33 < i) ∧ (i < 36 ∨ 37 < i) → σ725 i = σ698 i) → (∀ k : Nat, (k < 8 ∨ 8 < k) → σ725 31 k = σ698 31 k) → jKb σ725 → jKh σ725 → jI31 σ725 → (jFm a1 → jqGo a1 (decide ((σ725 31 12).toInt ≠ 0)) (σ725 31 11).toInt (σ725 31 8).toInt (σ725 32) (σ725 33) x721.toInt 0) → jH D cI cL ad σ725 τ H → va_S (jA ad) s.heap H locs → lv_has ls 9 [(5, .int x721), (4, .int 0), (3, .int x16), (0, .ref (ad 31)), (1, .int a1), (2, .int a2)] → W p l e ({ frames := 3, cells := 0, slots := 0, locals := 73 }) s m args below meth c H locs 0 0 Q (F0 m 99 ls []) := by
                intro n720
                induction n720 with
                | zero => intro x721 σ725 H locs ls h727 h728 h729; exact absurd h727 (by omega)
                | succ n720 ihlp719 =>
                  intro x721 σ725 H locs ls h727 h728 h729 f730 f731 p732 p733 p734 q735 hP hS hl
                  exact by
                   obtain ⟨i736, i737, i738, i739, w740, w741, w742⟩ : (0 ≤ (σ725 31 8).toInt ∧ (σ725 31 8).toInt ≤ 350) ∧ (0 ≤ (σ725 31 10).toInt ∧ (σ725 31 10).toInt ≤ 12) ∧ (0 ≤ (σ725 31 11).toInt ∧ (σ725 31 11).toInt ≤ 8) ∧ ((σ725 31 10).toInt + (σ725 31 11).toInt ≤ 12) ∧ (∀ k : Nat, k < 1400 → (-1) ≤ (σ725 33 k).toInt ∧ (σ725 33 k).toInt ≤ 350) ∧ (∀ k : Nat, k < 3159 → (-1) ≤ (σ725 35 k).toInt ∧ (σ725 35 k).toInt ≤ 3) ∧ (∀ k : Nat, k < 1024 → 0 ≤ (σ725 36 k).toInt ∧ (σ725 36 k).toInt ≤ 349) := id p734
                   have z743 : (σ725 31 10).toInt = A2 := ((congrArg Int32.toInt (show σ725 31 10 = a2 from ((f731 10 (of_decide_eq_true rfl)).trans ((f701 10 (of_decide_eq_true rfl)).trans ((jkp 10 eσ688 (of_decide_eq_true rfl)).trans ((jkp 10 eσ687 (of_decide_eq_true rfl)).trans ((jkp 10 eσ686 (of_decide_eq_true rfl)).trans (jsp eσ685)))))))).trans t2)
                   have z744 : (σ725 31 11).toInt = x16.toInt := (congrArg Int32.toInt (show σ725 31 11 = x16 from ((f731 11 (of_decide_eq_true rfl)).trans ((f701 11 (of_decide_eq_true rfl)).trans ((jkp 11 eσ688 (of_decide_eq_true rfl)).trans ((jkp 11 eσ687 (of_decide_eq_true rfl)).trans (jsp eσ686)))))))
                   refine lv_iload hx hb dX1_grow_99 (lv_at hl 0 rfl) ?_
                   refine lv_aload_n hx hb dX1_grow_101 rfl (lv_at hl 3 rfl) ?_
                   refine va_get (D := D) hx hb hts inlX1 hown hK hP 31 (jc_31 cI cL ad σ725 τ) rfl 8 (of_decide_eq_true rfl) (hts _ kw_27_22) (fun _ h9 => h9) rfl dX1_grow_102 ?_
                   refine lv_icmp_ge (tgt := 202) hx hb dX1_grow_105 (of_decide_eq_true rfl) (fun c745 => ?_) (fun c745 => ?_)
                   · have kc745 := jle c745 rfl rfl
                     have p746 : jKg σ725 := (show jFm (σ725 31 9) → _ from by rw [show σ725 31 9 = a1 from ((f731 9 (of_decide_eq_true rfl)).trans ((f701 9 (of_decide_eq_true rfl)).trans ((jkp 9 eσ688 (of_decide_eq_true rfl)).trans ((jkp 9 eσ687 (of_decide_eq_true rfl)).trans ((jkp 9 eσ686 (of_decide_eq_true rfl)).trans ((jkp 9 eσ685 (of_decide_eq_true rfl)).trans (jsp eσ684)))))))]; exact fun hm => (q735 hm).fin (by omega))
                     exact by
                      have z747 : (σ725 31 9).toInt = A1 := ((congrArg Int32.toInt (show σ725 31 9 = a1 from ((f731 9 (of_decide_eq_true rfl)).trans ((f701 9 (of_decide_eq_true rfl)).trans ((jkp 9 eσ688 (of_decide_eq_true rfl)).trans ((jkp 9 eσ687 (of_decide_eq_true rfl)).trans ((jkp 9 eσ686 (of_decide_eq_true rfl)).trans ((jkp 9 eσ685 (of_decide_eq_true rfl)).trans (jsp eσ684))))))))).trans t1)
                      exact by exact hret σ725 τ _ _ _ _ ⟨rfl, (fun i hi => ((f730 i hi).trans ((f700 i (imp_86 i hi)).trans ((jnp i eσ688 (imp_87 i hi)).trans ((jnp i eσ687 (imp_87 i hi)).trans ((jnp i eσ686 (imp_87 i hi)).trans ((jnp i eσ685 (imp_87 i hi)).trans (jnp i eσ684 (imp_87 i hi))))))))), (fun i hi => ((f731 i (imp_88 i hi)).trans ((f701 i (imp_88 i hi)).trans ((jkp i eσ688 (imp_89 i hi)).trans ((jkp i eσ687 (imp_90 i hi)).trans ((jkp i eσ686 (imp_91 i hi)).trans ((jkp i eσ685 (imp_92 i hi)).trans (jkp i eσ684 (imp_93 i hi))))))))), p734, p732, p733, p746, (by rw [show σ725 31 12 = 0 from ((f731 12 (of_decide_eq_true rfl)).trans ((f701 12 (of_decide_eq_true rfl)).trans ((jkp 12 eσ688 (of_decide_eq_true rfl)).trans (jsp eσ687))))]; exact w20), (by omega), (by omega), (by omega), trivial⟩ hP hS dX1_grow_202
                   · have kc745 := jnle c745 rfl rfl
                     refine lv_iload hx hb dX1_grow_108 (lv_at hl 0 rfl) ?_
                     refine lv_sipush (v := 350) hx hb dX1_grow_110 (of_decide_eq_true rfl) ?_
                     refine lv_icmp_ge (tgt := 202) hx hb dX1_grow_113 (of_decide_eq_true rfl) (fun c => absurd (jle c jz_350 rfl) (by omega)) (fun c748 => ?_)
                     have kc748 := jnle c748 jz_350 rfl
                     refine lv_aload_n hx hb dX1_grow_116 rfl (lv_at hl 3 rfl) ?_
                     refine va_get (D := D) hx hb hts inlX1 hown hK hP 31 (jc_31 cI cL ad σ725 τ) rfl 2 (of_decide_eq_true rfl) (hts _ kw_5_3) (fun _ h9 => h9) rfl dX1_grow_117 ?_
                     exact by
                      refine lv_iload hx hb dX1_grow_120 (lv_at hl 0 rfl) ?_
                      refine jald hx hb hK hP (jc_32 cI cL ad σ725 τ) (jin rfl (by omega) (by omega)) dX1_grow_122 ?_
                      refine jtopr (y := (σ725 32 x721.toNatClampNeg)) rfl ?_
                      refine lv_ldc (v := 134217727) hx hb hown (hts _ kw_28_10) dX1_grow_123 ?_
                      refine lv_iand hx hb dX1_grow_125 ?_
                      refine lv_topi (fun x749 ex749 => ?_)
                      have gx749 := jrg (rfl : x749.toInt = x749.toInt)
                      have g750 : 0 ≤ x749.toInt ∧ x749.toInt ≤ 134217727 := jmask ex749 27 (of_decide_eq_true rfl) (of_decide_eq_true rfl)
                      refine lv_istore (lv' := [(6, .int x749), (5, .int x721), (4, .int 0), (3, .int x16), (0, .ref (ad 31)), (1, .int a1), (2, .int a2)]) hx hb dX1_grow_126 hl (of_decide_eq_true rfl) rfl (fun ls hl => ?_)
                      exact by
                       refine lv_aload_n hx hb dX1_grow_128 rfl (lv_at hl 4 rfl) ?_
                       refine va_get (D := D) hx hb hts inlX1 hown hK hP 31 (jc_31 cI cL ad σ725 τ) rfl 2 (of_decide_eq_true rfl) (hts _ kw_5_3) (fun _ h9 => h9) rfl dX1_grow_129 ?_
                       refine lv_iload hx hb dX1_grow_132 (lv_at hl 1 rfl) ?_
                       refine jald hx hb hK hP (jc_32 cI cL ad σ725 τ) (jin rfl (by omega) (by omega)) dX1_grow_134 ?_
                       refine jtopr (y := (σ725 32 x721.toNatClampNeg)) rfl ?_
                       refine lv_bipush (v := 27) hx hb dX1_grow_135 (of_decide_eq_true rfl) ?_
                       refine lv_ishr hx hb dX1_grow_137 ?_
                       refine lv_topi (fun x751 ex751 => ?_)
                       have gx751 := jrg (rfl : x751.toInt = x751.toInt)
                       exact by
                        have k752 := jshr27 (x := x751) (k := (σ725 32 x721.toNatClampNeg)) (by rw [ex751])
                        have k753 := p732 x721.toNatClampNeg (by rw [jnc (rfl : x721.toInt = x721.toInt)]; omega)
                        refine lv_istore (lv' := [(7, .int x751), (6, .int x749), (5, .int x721), (4, .int 0), (3, .int x16), (0, .ref (ad 31)), (1, .int a1), (2, .int a2)]) hx hb dX1_grow_138 hl (of_decide_eq_true rfl) rfl (fun ls hl => ?_)
                        refine lv_iconst (v := 0) hx hb dX1_grow_140 (of_decide_eq_true rfl) ?_
                        refine lv_istore (lv' := [(8, .int 0), (7, .int x751), (6, .int x749), (5, .int x721), (4, .int 0), (3, .int x16), (0, .ref (ad 31)), (1, .int a1), (2, .int a2)]) hx hb dX1_grow_141 hl (of_decide_eq_true rfl) rfl (fun ls hl => ?_)
                        have lp754 : ∀ (n755 : Nat) (x756 : Int32) (σ757 : Nat → Nat → Int32) (H : Heap) (locs : List Loc) (ls : Array Slot), (-x756.toInt + 4 : Int) < n755 → 0 ≤ x756.toInt → x756.toInt ≤ 4 → (∀ i : Nat, (i < 31 ∨ 33 < i) ∧ (i < 36 ∨ 37 < i) → σ757 i = σ725 i) → (∀ k : Nat, (k < 8 ∨ 8 < k) → σ757 31 k = σ725 31 k) → jKb σ757 → jKh σ757 → jI31 σ757 → ((jFm a1 → jqGo a1 (decide ((σ757 31 12).toInt ≠ 0)) (σ757 31 11).toInt (σ757 31 8).toInt (σ757 32) (σ757 33) x721.toInt x756.toInt) ∧ jqNo (σ757 32 x721.toInt.toNat) x749 x751.toInt ∧ x721.toInt < (σ757 31 8).toInt) → jH D cI cL ad σ757 τ H → va_S (jA ad) s.heap H locs → lv_has ls 9 [(8, .int x756), (7, .int x751), (6, .int x749), (5, .int x721), (4, .int 0), (3, .int x16), (0, .ref (ad 31)), (1, .int a1), (2, .int a2)] → W p l e ({ frames := 3, cells := 0, slots := 0, locals := 73 }) s m args below meth c H locs 0 0 Q (F0 m 143 ls []) := by
                          intro n755
                          induction n755 with
                          | zero => intro x756 σ757 H locs ls h759 h760 h761; exact absurd h759 (by omega)
                          | succ n755 ihlp754 =>
                            intro x756 σ757 H locs ls h759 h760 h761 f762 f763 p764 p765 p766 q767 hP hS hl
                            exact by
                             obtain ⟨i768, i769, i770, i771, w772, w773, w774⟩ : (0 ≤ (σ757 31 8).toInt ∧ (σ757 31 8).toInt ≤ 350) ∧ (0 ≤ (σ757 31 10).toInt ∧ (σ757 31 10).toInt ≤ 12) ∧ (0 ≤ (σ757 31 11).toInt ∧ (σ757 31 11).toInt ≤ 8) ∧ ((σ757 31 10).toInt + (σ757 31 11).toInt ≤ 12) ∧ (∀ k : Nat, k < 1400 → (-1) ≤ (σ757 33 k).toInt ∧ (σ757 33 k).toInt ≤ 350) ∧ (∀ k : Nat, k < 3159 → (-1) ≤ (σ757 35 k).toInt ∧ (σ757 35 k).toInt ≤ 3) ∧ (∀ k : Nat, k < 1024 → 0 ≤ (σ757 36 k).toInt ∧ (σ757 36 k).toInt ≤ 349) := id p766
                             have z775 : (σ757 31 10).toInt = A2 := ((congrArg Int32.toInt (show σ757 31 10 = a2 from ((f763 10 (of_decide_eq_true rfl)).trans ((f731 10 (of_decide_eq_true rfl)).trans ((f701 10 (of_decide_eq_true rfl)).trans ((jkp 10 eσ688 (of_decide_eq_true rfl)).trans ((jkp 10 eσ687 (of_decide_eq_true rfl)).trans ((jkp 10 eσ686 (of_decide_eq_true rfl)).trans (jsp eσ685))))))))).trans t2)
                             have z776 : (σ757 31 11).toInt = x16.toInt := (congrArg Int32.toInt (show σ757 31 11 = x16 from ((f763 11 (of_decide_eq_true rfl)).trans ((f731 11 (of_decide_eq_true rfl)).trans ((f701 11 (of_decide_eq_true rfl)).trans ((jkp 11 eσ688 (of_decide_eq_true rfl)).trans ((jkp 11 eσ687 (of_decide_eq_true rfl)).trans (jsp eσ686))))))))
                             refine lv_iload hx hb dX1_grow_143 (lv_at hl 0 rfl) ?_
                             refine lv_iconst (v := 4) hx hb dX1_grow_145 (of_decide_eq_true rfl) ?_
                             refine lv_icmp_ge (tgt := 196) hx hb dX1_grow_146 (of_decide_eq_true rfl) (fun c777 => ?_) (fun c777 => ?_)
                             · have kc777 := jle c777 jz_4 rfl
                               obtain ⟨x778, ex778⟩ : ∃ y : Int32, y = x721 + 1 := ⟨_, rfl⟩
                               have tx778 : x778.toInt = x721.toInt + 1 := (jadd ex778 rfl jz_1 (by omega) (by omega)).trans (by omega)
                               exact by
                                refine lv_iinc (v := x778) (lv' := [(5, .int x778), (8, .int x756), (7, .int x751), (6, .int x749), (4, .int 0), (3, .int x16), (0, .ref (ad 31)), (1, .int a1), (2, .int a2)]) hx hb dX1_grow_196 hl (k := 3) rfl (by rw [ex778]; rfl) (of_decide_eq_true rfl) rfl (fun ls hl => ?_)
                                refine lv_goto (tgt := 99) hx hb dX1_grow_199 (of_decide_eq_true rfl) ?_
                                exact by exact ihlp719 x778 σ757 _ _ ls (by have h90 := tx778; omega) (by have h90 := tx778; omega) (by have h90 := tx778; omega) (fun i hi => ((f762 i hi).trans (f730 i hi))) (fun i hi => ((f763 i hi).trans (f731 i hi)))  p764 p765 p766 (fun hm => jqGo.row (q767.1 hm) (by omega) (by have h9 := tx778; omega) (by omega) q767.2.2) hP hS (lv_sub hl [0, 4, 5, 6, 7, 8] rfl)
                             · have kc777 := jnle c777 jz_4 rfl
                               refine lv_aload_n hx hb dX1_grow_149 rfl (lv_at hl 6 rfl) ?_
                               refine va_get (D := D) hx hb hts inlX1 hown hK hP 31 (jc_31 cI cL ad σ757 τ) rfl 3 (of_decide_eq_true rfl) (hts _ kw_5_4) (fun _ h9 => h9) rfl dX1_grow_150 ?_
                               refine lv_iload hx hb dX1_grow_153 (lv_at hl 3 rfl) ?_
                               refine lv_iconst (v := 4) hx hb dX1_grow_155 (of_decide_eq_true rfl) ?_
                               have g779 := jrg (rfl : x721.toInt = x721.toInt)
                               refine lv_imul hx hb dX1_grow_156 ?_
                               refine lv_topi (fun x780 ex780 => ?_)
                               exact by
                                have tx780 : x780.toInt = 4 * x721.toInt := (jmul ex780 rfl jz_4 (by omega) (by omega)).trans (by omega)
                                refine lv_iload hx hb dX1_grow_157 (lv_at hl 0 rfl) ?_
                                have g781 := jrg (rfl : x756.toInt = x756.toInt)
                                refine lv_iadd hx hb dX1_grow_159 ?_
                                refine lv_topi (fun x782 ex782 => ?_)
                                have tx782 : x782.toInt = 4 * x721.toInt + x756.toInt := (jadd ex782 tx780 rfl (by omega) (by omega)).trans (by omega)
                                refine lv_iload hx hb dX1_grow_160 (lv_at hl 2 rfl) ?_
                                refine lv_iload hx hb dX1_grow_162 (lv_at hl 0 rfl) ?_
                                refine jcallS (As := [.int x749, .int x756]) (rest := [.int x782, .ref (ad 33)]) ⟨hx, hb, hml, hown, hts⟩ hK hP hA hS hZ (c_X0_mayBowl l D cI cL ad zz hJ σ757 τ x749 (x749.toInt) rfl x756 (x756.toInt) rfl) cw_RX1_115 ⟨Nat.le_of_ble_eq_true rfl, Nat.le_of_ble_eq_true rfl⟩ rfl rfl rfl hl.1 rfl (Nat.le_of_ble_eq_true rfl) dX1_grow_164 ⟨Nat.zero_le _, Nat.zero_le _⟩ (fun r784 σ783 τ783 H locs h783 hP hS => ?_)
                                exact by
                                 obtain ⟨⟨rfl, rfl⟩, w785, h783⟩ := h783
                                 rcases h783 with h786 | h787
                                 · obtain ⟨q789, k788⟩ := h786
                                   have q789 := q789.symm
                                   subst q789
                                   refine lv_if_eq (tgt := 188) hx hb dX1_grow_167 (of_decide_eq_true rfl) (fun c => absurd c (of_decide_eq_true rfl)) (fun _ => ?_)
                                   refine lv_aload_n hx hb dX1_grow_170 rfl (lv_at hl 6 rfl) ?_
                                   refine lv_iload hx hb dX1_grow_171 (lv_at hl 2 rfl) ?_
                                   refine lv_iload hx hb dX1_grow_173 (lv_at hl 0 rfl) ?_
                                   exact by
                                    refine jcallS (As := [.int x749, .int x756]) (rest := [.ref (ad 31), .int x782, .ref (ad 33)]) ⟨hx, hb, hml, hown, hts⟩ hK hP hA hS hZ (c_X0_after_r l D cI cL ad zz hJ σ757 τ x749 (x749.toInt) rfl x756 (x756.toInt) rfl (by omega)) cw_RX1_119 ⟨Nat.le_of_ble_eq_true rfl, Nat.le_of_ble_eq_true rfl⟩ rfl rfl rfl hl.1 rfl (Nat.le_of_ble_eq_true rfl) dX1_grow_175 ⟨Nat.zero_le _, Nat.zero_le _⟩ (fun r791 σ790 τ790 H locs h790 hP hS => ?_)
                                    obtain ⟨⟨rfl, rfl⟩, w792, w793, h790⟩ := h790
                                    have h794 := h790
                                    obtain ⟨q796, k795⟩ := h794
                                    refine lv_iload hx hb dX1_grow_178 (lv_at hl 1 rfl) ?_
                                    refine lv_iconst (v := 1) hx hb dX1_grow_180 (of_decide_eq_true rfl) ?_
                                    have g797 := jrg (rfl : x751.toInt = x751.toInt)
                                    refine lv_iadd hx hb dX1_grow_181 ?_
                                    refine lv_topi (fun x798 ex798 => ?_)
                                    exact by
                                     have tx798 : x798.toInt = x751.toInt + 1 := (jadd ex798 rfl jz_1 (by omega) (by omega)).trans (by omega)
                                     refine jcallV (As := [.int r791, .int x798]) (rest := [.int x782, .ref (ad 33)]) ⟨hx, hb, hml, hown, hts⟩ hK hP hA hS hZ (c_X1_add_31 l D cI cL ad zz hJ σ757 τ r791 (r791.toInt) rfl x798 (x751.toInt + 1) tx798 p766 p764 p765 (by omega) (by omega)) cw_RX1_111 (jc_31 cI cL ad σ757 τ) rfl ⟨Nat.le_of_ble_eq_true rfl, Nat.le_of_ble_eq_true rfl⟩ rfl rfl rfl hl.1 rfl (Nat.le_of_ble_eq_true rfl) dX1_grow_182 ⟨Nat.zero_le _, Nat.zero_le _⟩ (fun r800 σ799 τ799 H locs h799 hP hS => ?_)
                                     obtain ⟨rfl, f801, f802, I803, p804, p805, w806, h799⟩ := h799
                                     obtain ⟨i808, i809, i810, i811, w812, w813, w814⟩ : (0 ≤ (σ799 31 8).toInt ∧ (σ799 31 8).toInt ≤ 350) ∧ (0 ≤ (σ799 31 10).toInt ∧ (σ799 31 10).toInt ≤ 12) ∧ (0 ≤ (σ799 31 11).toInt ∧ (σ799 31 11).toInt ≤ 8) ∧ ((σ799 31 10).toInt + (σ799 31 11).toInt ≤ 12) ∧ (∀ k : Nat, k < 1400 → (-1) ≤ (σ799 33 k).toInt ∧ (σ799 33 k).toInt ≤ 350) ∧ (∀ k : Nat, k < 3159 → (-1) ≤ (σ799 35 k).toInt ∧ (σ799 35 k).toInt ≤ 3) ∧ (∀ k : Nat, k < 1024 → 0 ≤ (σ799 36 k).toInt ∧ (σ799 36 k).toInt ≤ 349) := id I803
                                     have z815 : (σ799 31 10).toInt = A2 := ((congrArg Int32.toInt (show σ799 31 10 = a2 from ((f802 10 (of_decide_eq_true rfl)).trans ((f763 10 (of_decide_eq_true rfl)).trans ((f731 10 (of_decide_eq_true rfl)).trans ((f701 10 (of_decide_eq_true rfl)).trans ((jkp 10 eσ688 (of_decide_eq_true rfl)).trans ((jkp 10 eσ687 (of_decide_eq_true rfl)).trans ((jkp 10 eσ686 (of_decide_eq_true rfl)).trans (jsp eσ685)))))))))).trans t2)
                                     have z816 : (σ799 31 11).toInt = x16.toInt := (congrArg Int32.toInt (show σ799 31 11 = x16 from ((f802 11 (of_decide_eq_true rfl)).trans ((f763 11 (of_decide_eq_true rfl)).trans ((f731 11 (of_decide_eq_true rfl)).trans ((f701 11 (of_decide_eq_true rfl)).trans ((jkp 11 eσ688 (of_decide_eq_true rfl)).trans ((jkp 11 eσ687 (of_decide_eq_true rfl)).trans (jsp eσ686)))))))))
                                     have h817 := h799
                                     obtain ⟨q819, k818⟩ := h817
                                     refine lv_goto (tgt := 189) hx hb dX1_grow_185 (of_decide_eq_true rfl) ?_
                                     exact by
                                      refine jast hx hb hK hP hJ hA hS (jc_33 cI cL ad σ799 τ) (ja_33 cI cL ad σ799 τ _ _) (jin tx782 (by omega) (by omega)) dX1_grow_189 (fun σ820 H locs eσ820 hP hS => ?_)
                                      obtain ⟨x821, ex821⟩ : ∃ y : Int32, y = x756 + 1 := ⟨_, rfl⟩
                                      have tx821 : x821.toInt = x756.toInt + 1 := (jadd ex821 rfl jz_1 (by omega) (by omega)).trans (by omega)
                                      refine lv_iinc (v := x821) (lv' := [(8, .int x821), (7, .int x751), (6, .int x749), (5, .int x721), (4, .int 0), (3, .int x16), (0, .ref (ad 31)), (1, .int a1), (2, .int a2)]) hx hb dX1_grow_190 hl (k := 0) rfl (by rw [ex821]; rfl) (of_decide_eq_true rfl) rfl (fun ls hl => ?_)
                                      refine lv_goto (tgt := 143) hx hb dX1_grow_193 (of_decide_eq_true rfl) ?_
                                      have p822 : jKb σ820 := jKb.fr (congrFun (jnp 31 eσ820 (of_decide_eq_true rfl)) 8) (congrFun (jnp 31 eσ820 (of_decide_eq_true rfl)) 11) (jnp 32 eσ820 (of_decide_eq_true rfl)) p804
                                      have p823 : jKh σ820 := jKh.fr (congrFun (jnp 31 eσ820 (of_decide_eq_true rfl)) 8) (jnp 32 eσ820 (of_decide_eq_true rfl)) (jnp 36 eσ820 (of_decide_eq_true rfl)) (jnp 37 eσ820 (of_decide_eq_true rfl)) p805
                                      have z824 : (σ820 31 8).toInt = (σ799 31 8).toInt := (congrArg Int32.toInt (show σ820 31 8 = (σ799 31 8) from (congrFun (jnp 31 eσ820 (of_decide_eq_true rfl)) 8)))
                                      have z825 : (σ820 31 10).toInt = A2 := ((congrArg Int32.toInt (show σ820 31 10 = a2 from ((congrFun (jnp 31 eσ820 (of_decide_eq_true rfl)) 10).trans ((f802 10 (of_decide_eq_true rfl)).trans ((f763 10 (of_decide_eq_true rfl)).trans ((f731 10 (of_decide_eq_true rfl)).trans ((f701 10 (of_decide_eq_true rfl)).trans ((jkp 10 eσ688 (of_decide_eq_true rfl)).trans ((jkp 10 eσ687 (of_decide_eq_true rfl)).trans ((jkp 10 eσ686 (of_decide_eq_true rfl)).trans (jsp eσ685))))))))))).trans t2)
                                      exact by
                                       have z826 : (σ820 31 11).toInt = x16.toInt := (congrArg Int32.toInt (show σ820 31 11 = x16 from ((congrFun (jnp 31 eσ820 (of_decide_eq_true rfl)) 11).trans ((f802 11 (of_decide_eq_true rfl)).trans ((f763 11 (of_decide_eq_true rfl)).trans ((f731 11 (of_decide_eq_true rfl)).trans ((f701 11 (of_decide_eq_true rfl)).trans ((jkp 11 eσ688 (of_decide_eq_true rfl)).trans ((jkp 11 eσ687 (of_decide_eq_true rfl)).trans (jsp eσ686))))))))))
                                       have w827 : ∀ k : Nat, k < 1400 → (-1) ≤ (σ820 33 k).toInt ∧ (σ820 33 k).toInt ≤ 350 := (by rw [eσ820]; exact jrr_up w812 (by omega) (by omega))
                                       have w828 : ∀ k : Nat, k < 3159 → (-1) ≤ (σ820 35 k).toInt ∧ (σ820 35 k).toInt ≤ 3 := (jrr_fr (jnp 35 eσ820 (of_decide_eq_true rfl)) w813)
                                       have w829 : ∀ k : Nat, k < 1024 → 0 ≤ (σ820 36 k).toInt ∧ (σ820 36 k).toInt ≤ 349 := (jrr_fr (jnp 36 eσ820 (of_decide_eq_true rfl)) w814)
                                       have I830 : jI31 σ820 := ⟨(by omega), (by omega), (by omega), (by omega), w827, w828, w829⟩
                                       exact by exact ihlp754 x821 σ820 _ _ ls (by have h90 := tx821; omega) (by have h90 := tx821; omega) (by have h90 := tx821; omega) (fun i hi => ((jnp i eσ820 (imp_94 i hi)).trans ((f801 i (imp_86 i hi)).trans (f762 i hi)))) (fun i hi => ((congrFun (jnp 31 eσ820 (of_decide_eq_true rfl)) i).trans ((f802 i hi).trans (f763 i hi))))  p822 p823 I830 (by rw [show σ820 31 8 = σ799 31 8 from (congrFun (jnp 31 eσ820 (of_decide_eq_true rfl)) 8), show σ820 32 = σ799 32 from (jnp 32 eσ820 (of_decide_eq_true rfl)), show σ820 31 11 = σ757 31 11 from ((congrFun (jnp 31 eσ820 (of_decide_eq_true rfl)) 11).trans (f802 11 (of_decide_eq_true rfl))), show σ820 31 12 = σ757 31 12 from ((congrFun (jnp 31 eσ820 (of_decide_eq_true rfl)) 12).trans (f802 12 (of_decide_eq_true rfl)))]; exact ⟨(fun hm => jqGo.put (q767.1 hm) (by omega) (by omega) (by omega) (by omega) q767.2.1 ((jqMy_iff (by omega) (by omega)).mpr ((w785).elim (fun w => w.2) (fun w => absurd w.1 (of_decide_eq_true rfl)))) (w793 (by omega) (by omega)) w806 (by omega) p765 (by omega) (by rw [eσ820, jup_row, f801 33 (of_decide_eq_true rfl), jnc (show x782.toInt = 4 * x721.toInt + x756.toInt by have h9 := tx782; omega)]) rfl (by have h9 := tx821; omega)), (by rw [(w806).1 x721.toInt.toNat (by omega)]; exact q767.2.1), (by have w8 := jqAd.le w806; have w9 := q767.2.2; omega)⟩) hP hS (lv_sub hl [0, 1, 2, 3, 4, 5, 6, 7, 8] rfl)
                                 · obtain ⟨q832, k831⟩ := h787
                                   have q832 := q832.symm
                                   subst q832
                                   exact by
                                    refine lv_if_eq (tgt := 188) hx hb dX1_grow_167 (of_decide_eq_true rfl) (fun _ => ?_) (fun c => absurd (of_decide_eq_true rfl) c)
                                    refine lv_iconst (v := (-1)) hx hb dX1_grow_188 (of_decide_eq_true rfl) ?_
                                    refine jast hx hb hK hP hJ hA hS (jc_33 cI cL ad σ757 τ) (ja_33 cI cL ad σ757 τ _ _) (jin tx782 (by omega) (by omega)) dX1_grow_189 (fun σ833 H locs eσ833 hP hS => ?_)
                                    obtain ⟨x834, ex834⟩ : ∃ y : Int32, y = x756 + 1 := ⟨_, rfl⟩
                                    have tx834 : x834.toInt = x756.toInt + 1 := (jadd ex834 rfl jz_1 (by omega) (by omega)).trans (by omega)
                                    refine lv_iinc (v := x834) (lv' := [(8, .int x834), (7, .int x751), (6, .int x749), (5, .int x721), (4, .int 0), (3, .int x16), (0, .ref (ad 31)), (1, .int a1), (2, .int a2)]) hx hb dX1_grow_190 hl (k := 0) rfl (by rw [ex834]; rfl) (of_decide_eq_true rfl) rfl (fun ls hl => ?_)
                                    refine lv_goto (tgt := 143) hx hb dX1_grow_193 (of_decide_eq_true rfl) ?_
                                    have p835 : jKb σ833 := jKb.fr (congrFun (jnp 31 eσ833 (of_decide_eq_true rfl)) 8) (congrFun (jnp 31 eσ833 (of_decide_eq_true rfl)) 11) (jnp 32 eσ833 (of_decide_eq_true rfl)) p764
                                    have p836 : jKh σ833 := jKh.fr (congrFun (jnp 31 eσ833 (of_decide_eq_true rfl)) 8) (jnp 32 eσ833 (of_decide_eq_true rfl)) (jnp 36 eσ833 (of_decide_eq_true rfl)) (jnp 37 eσ833 (of_decide_eq_true rfl)) p765
                                    exact by
                                     have z837 : (σ833 31 8).toInt = (σ757 31 8).toInt := (congrArg Int32.toInt (show σ833 31 8 = (σ757 31 8) from (congrFun (jnp 31 eσ833 (of_decide_eq_true rfl)) 8)))
                                     have z838 : (σ833 31 10).toInt = A2 := ((congrArg Int32.toInt (show σ833 31 10 = a2 from ((congrFun (jnp 31 eσ833 (of_decide_eq_true rfl)) 10).trans ((f763 10 (of_decide_eq_true rfl)).trans ((f731 10 (of_decide_eq_true rfl)).trans ((f701 10 (of_decide_eq_true rfl)).trans ((jkp 10 eσ688 (of_decide_eq_true rfl)).trans ((jkp 10 eσ687 (of_decide_eq_true rfl)).trans ((jkp 10 eσ686 (of_decide_eq_true rfl)).trans (jsp eσ685)))))))))).trans t2)
                                     have z839 : (σ833 31 11).toInt = x16.toInt := (congrArg Int32.toInt (show σ833 31 11 = x16 from ((congrFun (jnp 31 eσ833 (of_decide_eq_true rfl)) 11).trans ((f763 11 (of_decide_eq_true rfl)).trans ((f731 11 (of_decide_eq_true rfl)).trans ((f701 11 (of_decide_eq_true rfl)).trans ((jkp 11 eσ688 (of_decide_eq_true rfl)).trans ((jkp 11 eσ687 (of_decide_eq_true rfl)).trans (jsp eσ686)))))))))
                                     have w840 : ∀ k : Nat, k < 1400 → (-1) ≤ (σ833 33 k).toInt ∧ (σ833 33 k).toInt ≤ 350 := (by rw [eσ833]; exact jrr_up w772 (by have h9 := jz_m1; omega) (by have h9 := jz_m1; omega))
                                     have w841 : ∀ k : Nat, k < 3159 → (-1) ≤ (σ833 35 k).toInt ∧ (σ833 35 k).toInt ≤ 3 := (jrr_fr (jnp 35 eσ833 (of_decide_eq_true rfl)) w773)
                                     have w842 : ∀ k : Nat, k < 1024 → 0 ≤ (σ833 36 k).toInt ∧ (σ833 36 k).toInt ≤ 349 := (jrr_fr (jnp 36 eσ833 (of_decide_eq_true rfl)) w774)
                                     have I843 : jI31 σ833 := ⟨(by omega), (by omega), (by omega), (by omega), w840, w841, w842⟩
                                     exact by exact ihlp754 x834 σ833 _ _ ls (by have h90 := tx834; omega) (by have h90 := tx834; omega) (by have h90 := tx834; omega) (fun i hi => ((jnp i eσ833 (imp_94 i hi)).trans (f762 i hi))) (fun i hi => ((congrFun (jnp 31 eσ833 (of_decide_eq_true rfl)) i).trans (f763 i hi)))  p835 p836 I843 (by rw [show σ833 31 8 = σ757 31 8 from (congrFun (jnp 31 eσ833 (of_decide_eq_true rfl)) 8), show σ833 31 11 = σ757 31 11 from (congrFun (jnp 31 eσ833 (of_decide_eq_true rfl)) 11), show σ833 31 12 = σ757 31 12 from (congrFun (jnp 31 eσ833 (of_decide_eq_true rfl)) 12), show σ833 32 = σ757 32 from (jnp 32 eσ833 (of_decide_eq_true rfl))]; exact ⟨(fun hm => jqGo.none (q767.1 hm) (by omega) (by omega) (by omega) (by omega) q767.2.1 (fun w => ((w785).elim (fun w => absurd w.1 (of_decide_eq_true rfl)) (fun w => w.2)) ((jqMy_iff (by omega) (by omega)).mp w)) (by rw [eσ833, jup_row, jnc (show x782.toInt = 4 * x721.toInt + x756.toInt by have h9 := tx782; omega)]) (of_decide_eq_true rfl) (by have h9 := tx834; omega)), q767.2.1, q767.2.2⟩) hP hS (lv_sub hl [0, 1, 2, 3, 4, 5, 6, 7, 8] rfl)
                        exact by exact lp754 1000000 0 σ725 _ _ ls (by have h90 := jz_0; omega) (by have h90 := jz_0; omega) (by have h90 := jz_0; omega) (fun _ _ => rfl) (fun _ _ => rfl)  p732 p733 p734 ⟨(by rw [show (0 : Int32).toInt = 0 from by decide]; exact q735), ⟨(by have w := jandm (x := (σ725 32 x721.toNatClampNeg)) (y := x749) (m := 134217727) (k := 27) (M := 134217728) (by rw [ex749]) rfl rfl (of_decide_eq_true rfl); show (σ725 32 x721.toNatClampNeg).toInt = _; omega), ⟨by omega, by omega⟩, (by omega)⟩, by omega⟩ hP hS hl
              exact by exact lp719 1000000 0 σ698 _ _ ls (by have h90 := jz_0; omega) (by have h90 := jz_0; omega) (by have h90 := jz_0; omega) (fun _ _ => rfl) (fun _ _ => rfl)  p703 p704 I702 (by rw [show σ698 31 11 = σ688 31 11 from (f701 11 (of_decide_eq_true rfl)), show σ698 31 12 = σ688 31 12 from (f701 12 (of_decide_eq_true rfl))]; exact (fun hm => jqGo.first hm (by have w := w705; rw [show (σ688 31 8).toInt = 0 from by omega] at w; exact w) rfl (by have h9 := jz_0; omega))) hP hS hl
         · exact by
            have kc683 := jeq c683 rfl rfl
            refine lv_aload_n hx hb dX1_grow_48 rfl (lv_at hl 2 rfl) ?_
            refine va_get (D := D) hx hb hts inlX1 hown hK hP 31 (jc_31 cI cL ad σ τ) rfl 12 (of_decide_eq_true rfl) (hts _ kw_28_8) (fun _ h9 => h9) rfl dX1_grow_49 ?_
            refine lv_iload hx hb dX1_grow_52 (lv_at hl 0 rfl) ?_
            refine lv_icmp_ne (tgt := 63) hx hb dX1_grow_54 (of_decide_eq_true rfl) (fun c844 => ?_) (fun c844 => ?_)
            · have kc844 := jne c844 rfl jz_0
              refine lv_aload_n hx hb dX1_grow_63 rfl (lv_at hl 2 rfl) ?_
              refine lv_iload_n hx hb dX1_grow_64 rfl (lv_at hl 3 rfl) ?_
              refine jput (ty := .int) hx hb hts inlX1 tyX1 tyX1_ok nmX1 hown hK hP hJ hA hS (jc_31 cI cL ad σ τ) rfl (k := 9) (of_decide_eq_true rfl) (Nat.le_of_ble_eq_true rfl) (jp_31_9 cI cL ad σ τ a1) (hts _ kw_5_9) (fun _ h9 => h9) rfl (by decide +kernel) rfl rfl dX1_grow_65 (fun σ845 H locs eσ845 hP hS => ?_)
              refine lv_aload_n hx hb dX1_grow_68 rfl (lv_at hl 2 rfl) ?_
              refine lv_iload_n hx hb dX1_grow_69 rfl (lv_at hl 4 rfl) ?_
              refine jput (ty := .int) hx hb hts inlX1 tyX1 tyX1_ok nmX1 hown hK hP hJ hA hS (jc_31 cI cL ad σ845 τ) rfl (k := 10) (of_decide_eq_true rfl) (Nat.le_of_ble_eq_true rfl) (jp_31_10 cI cL ad σ845 τ a2) (hts _ kw_28_9) (fun _ h9 => h9) rfl (by decide +kernel) rfl rfl dX1_grow_70 (fun σ846 H locs eσ846 hP hS => ?_)
              refine lv_aload_n hx hb dX1_grow_73 rfl (lv_at hl 2 rfl) ?_
              refine lv_iload_n hx hb dX1_grow_74 rfl (lv_at hl 1 rfl) ?_
              refine jput (ty := .int) hx hb hts inlX1 tyX1 tyX1_ok nmX1 hown hK hP hJ hA hS (jc_31 cI cL ad σ846 τ) rfl (k := 11) (of_decide_eq_true rfl) (Nat.le_of_ble_eq_true rfl) (jp_31_11 cI cL ad σ846 τ x16) (hts _ kw_28_7) (fun _ h9 => h9) rfl (by decide +kernel) rfl rfl dX1_grow_75 (fun σ847 H locs eσ847 hP hS => ?_)
              refine lv_aload_n hx hb dX1_grow_78 rfl (lv_at hl 2 rfl) ?_
              refine lv_iload hx hb dX1_grow_79 (lv_at hl 0 rfl) ?_
              refine jput (ty := .boolean) hx hb hts inlX1 tyX1 tyX1_ok nmX1 hown hK hP hJ hA hS (jc_31 cI cL ad σ847 τ) rfl (k := 12) (of_decide_eq_true rfl) (Nat.le_of_ble_eq_true rfl) (jp_31_12 cI cL ad σ847 τ 0) (hts _ kw_28_8) (fun _ h9 => h9) rfl (by decide +kernel) rfl rfl dX1_grow_81 (fun σ848 H locs eσ848 hP hS => ?_)
              refine lv_aload_n hx hb dX1_grow_84 rfl (lv_at hl 2 rfl) ?_
              refine lv_iconst (v := 0) hx hb dX1_grow_85 (of_decide_eq_true rfl) ?_
              refine jput (ty := .int) hx hb hts inlX1 tyX1 tyX1_ok nmX1 hown hK hP hJ hA hS (jc_31 cI cL ad σ848 τ) rfl (k := 8) (of_decide_eq_true rfl) (Nat.le_of_ble_eq_true rfl) (jp_31_8 cI cL ad σ848 τ 0) (hts _ kw_27_22) (fun _ h9 => h9) rfl (by decide +kernel) rfl rfl dX1_grow_86 (fun σ849 H locs eσ849 hP hS => ?_)
              have z850 : (σ849 31 8).toInt = 0 := ((congrArg Int32.toInt (show σ849 31 8 = 0 from (jsp eσ849))).trans jz_0)
              exact by
               have p851 : jKb σ849 := (jKb.nil (by omega))
               have p852 : jKh σ849 := (jKh.nil (by omega))
               refine lv_aload_n hx hb dX1_grow_89 rfl (lv_at hl 2 rfl) ?_
               refine lv_iload_n hx hb dX1_grow_90 rfl (lv_at hl 3 rfl) ?_
               refine lv_iconst (v := 0) hx hb dX1_grow_91 (of_decide_eq_true rfl) ?_
               have z853 : (σ849 31 10).toInt = A2 := ((congrArg Int32.toInt (show σ849 31 10 = a2 from ((jkp 10 eσ849 (of_decide_eq_true rfl)).trans ((jkp 10 eσ848 (of_decide_eq_true rfl)).trans ((jkp 10 eσ847 (of_decide_eq_true rfl)).trans (jsp eσ846)))))).trans t2)
               have z854 : (σ849 31 11).toInt = x16.toInt := (congrArg Int32.toInt (show σ849 31 11 = x16 from ((jkp 11 eσ849 (of_decide_eq_true rfl)).trans ((jkp 11 eσ848 (of_decide_eq_true rfl)).trans (jsp eσ847)))))
               have w855 : ∀ k : Nat, k < 1400 → (-1) ≤ (σ849 33 k).toInt ∧ (σ849 33 k).toInt ≤ 350 := (jrr_fr (jnp 33 eσ849 (of_decide_eq_true rfl)) (jrr_fr (jnp 33 eσ848 (of_decide_eq_true rfl)) (jrr_fr (jnp 33 eσ847 (of_decide_eq_true rfl)) (jrr_fr (jnp 33 eσ846 (of_decide_eq_true rfl)) (jrr_fr (jnp 33 eσ845 (of_decide_eq_true rfl)) w9)))))
               have w856 : ∀ k : Nat, k < 3159 → (-1) ≤ (σ849 35 k).toInt ∧ (σ849 35 k).toInt ≤ 3 := (jrr_fr (jnp 35 eσ849 (of_decide_eq_true rfl)) (jrr_fr (jnp 35 eσ848 (of_decide_eq_true rfl)) (jrr_fr (jnp 35 eσ847 (of_decide_eq_true rfl)) (jrr_fr (jnp 35 eσ846 (of_decide_eq_true rfl)) (jrr_fr (jnp 35 eσ845 (of_decide_eq_true rfl)) w10)))))
               exact by
                have w857 : ∀ k : Nat, k < 1024 → 0 ≤ (σ849 36 k).toInt ∧ (σ849 36 k).toInt ≤ 349 := (jrr_fr (jnp 36 eσ849 (of_decide_eq_true rfl)) (jrr_fr (jnp 36 eσ848 (of_decide_eq_true rfl)) (jrr_fr (jnp 36 eσ847 (of_decide_eq_true rfl)) (jrr_fr (jnp 36 eσ846 (of_decide_eq_true rfl)) (jrr_fr (jnp 36 eσ845 (of_decide_eq_true rfl)) w11)))))
                have I858 : jI31 σ849 := ⟨(by omega), (by omega), (by omega), (by omega), w855, w856, w857⟩
                refine jcallV (As := [.int a1, .int 0]) (rest := []) ⟨hx, hb, hml, hown, hts⟩ hK hP hA hS hZ (c_X1_add_31 l D cI cL ad zz hJ σ849 τ a1 (A1) t1 0 (0) jz_0 I858 p851 p852 (by omega) (by omega)) cw_RX1_111 (jc_31 cI cL ad σ849 τ) rfl ⟨Nat.le_of_ble_eq_true rfl, Nat.le_of_ble_eq_true rfl⟩ rfl rfl rfl hl.1 rfl (Nat.le_of_ble_eq_true rfl) dX1_grow_92 ⟨Nat.zero_le _, Nat.zero_le _⟩ (fun r860 σ859 τ859 H locs h859 hP hS => ?_)
                obtain ⟨rfl, f861, f862, I863, p864, p865, w866, h859⟩ := h859
                obtain ⟨i868, i869, i870, i871, w872, w873, w874⟩ : (0 ≤ (σ859 31 8).toInt ∧ (σ859 31 8).toInt ≤ 350) ∧ (0 ≤ (σ859 31 10).toInt ∧ (σ859 31 10).toInt ≤ 12) ∧ (0 ≤ (σ859 31 11).toInt ∧ (σ859 31 11).toInt ≤ 8) ∧ ((σ859 31 10).toInt + (σ859 31 11).toInt ≤ 12) ∧ (∀ k : Nat, k < 1400 → (-1) ≤ (σ859 33 k).toInt ∧ (σ859 33 k).toInt ≤ 350) ∧ (∀ k : Nat, k < 3159 → (-1) ≤ (σ859 35 k).toInt ∧ (σ859 35 k).toInt ≤ 3) ∧ (∀ k : Nat, k < 1024 → 0 ≤ (σ859 36 k).toInt ∧ (σ859 36 k).toInt ≤ 349) := id I863
                have z875 : (σ859 31 10).toInt = A2 := ((congrArg Int32.toInt (show σ859 31 10 = a2 from ((f862 10 (of_decide_eq_true rfl)).trans ((jkp 10 eσ849 (of_decide_eq_true rfl)).trans ((jkp 10 eσ848 (of_decide_eq_true rfl)).trans ((jkp 10 eσ847 (of_decide_eq_true rfl)).trans (jsp eσ846))))))).trans t2)
                have z876 : (σ859 31 11).toInt = x16.toInt := (congrArg Int32.toInt (show σ859 31 11 = x16 from ((f862 11 (of_decide_eq_true rfl)).trans ((jkp 11 eσ849 (of_decide_eq_true rfl)).trans ((jkp 11 eσ848 (of_decide_eq_true rfl)).trans (jsp eσ847))))))
                have h877 := h859
                obtain ⟨q879, k878⟩ := h877
                exact by
                 refine lv_pop hx hb dX1_grow_95 rfl ?_
                 refine lv_iconst (v := 0) hx hb dX1_grow_96 (of_decide_eq_true rfl) ?_
                 refine lv_istore (lv' := [(5, .int 0), (4, .int 0), (3, .int x16), (0, .ref (ad 31)), (1, .int a1), (2, .int a2)]) hx hb dX1_grow_97 hl (of_decide_eq_true rfl) rfl (fun ls hl => ?_)
                 have lp880 : ∀ (n881 : Nat) (x882 : Int32) (σ886 : Nat → Nat → Int32) (H : Heap) (locs : List Loc) (ls : Array Slot), (-x882.toInt + 350 : Int) < n881 → 0 ≤ x882.toInt → x882.toInt ≤ 350 → (∀ i : Nat, (i < 31 ∨ 33 < i) ∧ (i < 36 ∨ 37 < i) → σ886 i = σ859 i) → (∀ k : Nat, (k < 8 ∨ 8 < k) → σ886 31 k = σ859 31 k) → jKb σ886 → jKh σ886 → jI31 σ886 → (jFm a1 → jqGo a1 (decide ((σ886 31 12).toInt ≠ 0)) (σ886 31 11).toInt (σ886 31 8).toInt (σ886 32) (σ886 33) x882.toInt 0) → jH D cI cL ad σ886 τ H → va_S (jA ad) s.heap H locs → lv_has ls 9 [(5, .int x882), (4, .int 0), (3, .int x16), (0, .ref (ad 31)), (1, .int a1), (2, .int a2)] → W p l e ({ frames := 3, cells := 0, slots := 0, locals := 73 }) s m args below meth c H locs 0 0 Q (F0 m 99 ls []) := by
                   intro n881
                   induction n881 with
                   | zero => intro x882 σ886 H locs ls h888 h889 h890; exact absurd h888 (by omega)
                   | succ n881 ihlp880 =>
                     intro x882 σ886 H locs ls h888 h889 h890 f891 f892 p893 p894 p895 q896 hP hS hl
                     exact by
                      obtain ⟨i897, i898, i899, i900, w901, w902, w903⟩ : (0 ≤ (σ886 31 8).toInt ∧ (σ886 31 8).toInt ≤ 350) ∧ (0 ≤ (σ886 31 10).toInt ∧ (σ886 31 10).toInt ≤ 12) ∧ (0 ≤ (σ886 31 11).toInt ∧ (σ886 31 11).toInt ≤ 8) ∧ ((σ886 31 10).toInt + (σ886 31 11).toInt ≤ 12) ∧ (∀ k : Nat, k < 1400 → (-1) ≤ (σ886 33 k).toInt ∧ (σ886 33 k).toInt ≤ 350) ∧ (∀ k : Nat, k < 3159 → (-1) ≤ (σ886 35 k).toInt ∧ (σ886 35 k).toInt ≤ 3) ∧ (∀ k : Nat, k < 1024 → 0 ≤ (σ886 36 k).toInt ∧ (σ886 36 k).toInt ≤ 349) := id p895
                      have z904 : (σ886 31 10).toInt = A2 := ((congrArg Int32.toInt (show σ886 31 10 = a2 from ((f892 10 (of_decide_eq_true rfl)).trans ((f862 10 (of_decide_eq_true rfl)).trans ((jkp 10 eσ849 (of_decide_eq_true rfl)).trans ((jkp 10 eσ848 (of_decide_eq_true rfl)).trans ((jkp 10 eσ847 (of_decide_eq_true rfl)).trans (jsp eσ846)))))))).trans t2)
                      have z905 : (σ886 31 11).toInt = x16.toInt := (congrArg Int32.toInt (show σ886 31 11 = x16 from ((f892 11 (of_decide_eq_true rfl)).trans ((f862 11 (of_decide_eq_true rfl)).trans ((jkp 11 eσ849 (of_decide_eq_true rfl)).trans ((jkp 11 eσ848 (of_decide_eq_true rfl)).trans (jsp eσ847)))))))
                      refine lv_iload hx hb dX1_grow_99 (lv_at hl 0 rfl) ?_
                      refine lv_aload_n hx hb dX1_grow_101 rfl (lv_at hl 3 rfl) ?_
                      refine va_get (D := D) hx hb hts inlX1 hown hK hP 31 (jc_31 cI cL ad σ886 τ) rfl 8 (of_decide_eq_true rfl) (hts _ kw_27_22) (fun _ h9 => h9) rfl dX1_grow_102 ?_
                      refine lv_icmp_ge (tgt := 202) hx hb dX1_grow_105 (of_decide_eq_true rfl) (fun c906 => ?_) (fun c906 => ?_)
                      · have kc906 := jle c906 rfl rfl
                        have p907 : jKg σ886 := (show jFm (σ886 31 9) → _ from by rw [show σ886 31 9 = a1 from ((f892 9 (of_decide_eq_true rfl)).trans ((f862 9 (of_decide_eq_true rfl)).trans ((jkp 9 eσ849 (of_decide_eq_true rfl)).trans ((jkp 9 eσ848 (of_decide_eq_true rfl)).trans ((jkp 9 eσ847 (of_decide_eq_true rfl)).trans ((jkp 9 eσ846 (of_decide_eq_true rfl)).trans (jsp eσ845)))))))]; exact fun hm => (q896 hm).fin (by omega))
                        exact by
                         have z908 : (σ886 31 9).toInt = A1 := ((congrArg Int32.toInt (show σ886 31 9 = a1 from ((f892 9 (of_decide_eq_true rfl)).trans ((f862 9 (of_decide_eq_true rfl)).trans ((jkp 9 eσ849 (of_decide_eq_true rfl)).trans ((jkp 9 eσ848 (of_decide_eq_true rfl)).trans ((jkp 9 eσ847 (of_decide_eq_true rfl)).trans ((jkp 9 eσ846 (of_decide_eq_true rfl)).trans (jsp eσ845))))))))).trans t1)
                         exact by exact hret σ886 τ _ _ _ _ ⟨rfl, (fun i hi => ((f891 i hi).trans ((f861 i (imp_86 i hi)).trans ((jnp i eσ849 (imp_87 i hi)).trans ((jnp i eσ848 (imp_87 i hi)).trans ((jnp i eσ847 (imp_87 i hi)).trans ((jnp i eσ846 (imp_87 i hi)).trans (jnp i eσ845 (imp_87 i hi))))))))), (fun i hi => ((f892 i (imp_88 i hi)).trans ((f862 i (imp_88 i hi)).trans ((jkp i eσ849 (imp_89 i hi)).trans ((jkp i eσ848 (imp_90 i hi)).trans ((jkp i eσ847 (imp_91 i hi)).trans ((jkp i eσ846 (imp_92 i hi)).trans (jkp i eσ845 (imp_93 i hi))))))))), p895, p893, p894, p907, (by rw [show σ886 31 12 = 0 from ((f892 12 (of_decide_eq_true rfl)).trans ((f862 12 (of_decide_eq_true rfl)).trans ((jkp 12 eσ849 (of_decide_eq_true rfl)).trans (jsp eσ848))))]; exact w20), (by omega), (by omega), (by omega), trivial⟩ hP hS dX1_grow_202
                      · have kc906 := jnle c906 rfl rfl
                        refine lv_iload hx hb dX1_grow_108 (lv_at hl 0 rfl) ?_
                        refine lv_sipush (v := 350) hx hb dX1_grow_110 (of_decide_eq_true rfl) ?_
                        refine lv_icmp_ge (tgt := 202) hx hb dX1_grow_113 (of_decide_eq_true rfl) (fun c => absurd (jle c jz_350 rfl) (by omega)) (fun c909 => ?_)
                        have kc909 := jnle c909 jz_350 rfl
                        refine lv_aload_n hx hb dX1_grow_116 rfl (lv_at hl 3 rfl) ?_
                        refine va_get (D := D) hx hb hts inlX1 hown hK hP 31 (jc_31 cI cL ad σ886 τ) rfl 2 (of_decide_eq_true rfl) (hts _ kw_5_3) (fun _ h9 => h9) rfl dX1_grow_117 ?_
                        exact by
                         refine lv_iload hx hb dX1_grow_120 (lv_at hl 0 rfl) ?_
                         refine jald hx hb hK hP (jc_32 cI cL ad σ886 τ) (jin rfl (by omega) (by omega)) dX1_grow_122 ?_
                         refine jtopr (y := (σ886 32 x882.toNatClampNeg)) rfl ?_
                         refine lv_ldc (v := 134217727) hx hb hown (hts _ kw_28_10) dX1_grow_123 ?_
                         refine lv_iand hx hb dX1_grow_125 ?_
                         refine lv_topi (fun x910 ex910 => ?_)
                         have gx910 := jrg (rfl : x910.toInt = x910.toInt)
                         have g911 : 0 ≤ x910.toInt ∧ x910.toInt ≤ 134217727 := jmask ex910 27 (of_decide_eq_true rfl) (of_decide_eq_true rfl)
                         refine lv_istore (lv' := [(6, .int x910), (5, .int x882), (4, .int 0), (3, .int x16), (0, .ref (ad 31)), (1, .int a1), (2, .int a2)]) hx hb dX1_grow_126 hl (of_decide_eq_true rfl) rfl (fun ls hl => ?_)
                         exact by
                          refine lv_aload_n hx hb dX1_grow_128 rfl (lv_at hl 4 rfl) ?_
                          refine va_get (D := D) hx hb hts inlX1 hown hK hP 31 (jc_31 cI cL ad σ886 τ) rfl 2 (of_decide_eq_true rfl) (hts _ kw_5_3) (fun _ h9 => h9) rfl dX1_grow_129 ?_
                          refine lv_iload hx hb dX1_grow_132 (lv_at hl 1 rfl) ?_
                          refine jald hx hb hK hP (jc_32 cI cL ad σ886 τ) (jin rfl (by omega) (by omega)) dX1_grow_134 ?_
                          refine jtopr (y := (σ886 32 x882.toNatClampNeg)) rfl ?_
                          refine lv_bipush (v := 27) hx hb dX1_grow_135 (of_decide_eq_true rfl) ?_
                          refine lv_ishr hx hb dX1_grow_137 ?_
                          refine lv_topi (fun x912 ex912 => ?_)
                          have gx912 := jrg (rfl : x912.toInt = x912.toInt)
                          exact by
                           have k913 := jshr27 (x := x912) (k := (σ886 32 x882.toNatClampNeg)) (by rw [ex912])
                           have k914 := p893 x882.toNatClampNeg (by rw [jnc (rfl : x882.toInt = x882.toInt)]; omega)
                           refine lv_istore (lv' := [(7, .int x912), (6, .int x910), (5, .int x882), (4, .int 0), (3, .int x16), (0, .ref (ad 31)), (1, .int a1), (2, .int a2)]) hx hb dX1_grow_138 hl (of_decide_eq_true rfl) rfl (fun ls hl => ?_)
                           refine lv_iconst (v := 0) hx hb dX1_grow_140 (of_decide_eq_true rfl) ?_
                           refine lv_istore (lv' := [(8, .int 0), (7, .int x912), (6, .int x910), (5, .int x882), (4, .int 0), (3, .int x16), (0, .ref (ad 31)), (1, .int a1), (2, .int a2)]) hx hb dX1_grow_141 hl (of_decide_eq_true rfl) rfl (fun ls hl => ?_)
                           have lp915 : ∀ (n916 : Nat) (x917 : Int32) (σ918 : Nat → Nat → Int32) (H : Heap) (locs : List Loc) (ls : Array Slot), (-x917.toInt + 4 : Int) < n916 → 0 ≤ x917.toInt → x917.toInt ≤ 4 → (∀ i : Nat, (i < 31 ∨ 33 < i) ∧ (i < 36 ∨ 37 < i) → σ918 i = σ886 i) → (∀ k : Nat, (k < 8 ∨ 8 < k) → σ918 31 k = σ886 31 k) → jKb σ918 → jKh σ918 → jI31 σ918 → ((jFm a1 → jqGo a1 (decide ((σ918 31 12).toInt ≠ 0)) (σ918 31 11).toInt (σ918 31 8).toInt (σ918 32) (σ918 33) x882.toInt x917.toInt) ∧ jqNo (σ918 32 x882.toInt.toNat) x910 x912.toInt ∧ x882.toInt < (σ918 31 8).toInt) → jH D cI cL ad σ918 τ H → va_S (jA ad) s.heap H locs → lv_has ls 9 [(8, .int x917), (7, .int x912), (6, .int x910), (5, .int x882), (4, .int 0), (3, .int x16), (0, .ref (ad 31)), (1, .int a1), (2, .int a2)] → W p l e ({ frames := 3, cells := 0, slots := 0, locals := 73 }) s m args below meth c H locs 0 0 Q (F0 m 143 ls []) := by
                             intro n916
                             induction n916 with
                             | zero => intro x917 σ918 H locs ls h920 h921 h922; exact absurd h920 (by omega)
                             | succ n916 ihlp915 =>
                               intro x917 σ918 H locs ls h920 h921 h922 f923 f924 p925 p926 p927 q928 hP hS hl
                               exact by
                                obtain ⟨i929, i930, i931, i932, w933, w934, w935⟩ : (0 ≤ (σ918 31 8).toInt ∧ (σ918 31 8).toInt ≤ 350) ∧ (0 ≤ (σ918 31 10).toInt ∧ (σ918 31 10).toInt ≤ 12) ∧ (0 ≤ (σ918 31 11).toInt ∧ (σ918 31 11).toInt ≤ 8) ∧ ((σ918 31 10).toInt + (σ918 31 11).toInt ≤ 12) ∧ (∀ k : Nat, k < 1400 → (-1) ≤ (σ918 33 k).toInt ∧ (σ918 33 k).toInt ≤ 350) ∧ (∀ k : Nat, k < 3159 → (-1) ≤ (σ918 35 k).toInt ∧ (σ918 35 k).toInt ≤ 3) ∧ (∀ k : Nat, k < 1024 → 0 ≤ (σ918 36 k).toInt ∧ (σ918 36 k).toInt ≤ 349) := id p927
                                have z936 : (σ918 31 10).toInt = A2 := ((congrArg Int32.toInt (show σ918 31 10 = a2 from ((f924 10 (of_decide_eq_true rfl)).trans ((f892 10 (of_decide_eq_true rfl)).trans ((f862 10 (of_decide_eq_true rfl)).trans ((jkp 10 eσ849 (of_decide_eq_true rfl)).trans ((jkp 10 eσ848 (of_decide_eq_true rfl)).trans ((jkp 10 eσ847 (of_decide_eq_true rfl)).trans (jsp eσ846))))))))).trans t2)
                                have z937 : (σ918 31 11).toInt = x16.toInt := (congrArg Int32.toInt (show σ918 31 11 = x16 from ((f924 11 (of_decide_eq_true rfl)).trans ((f892 11 (of_decide_eq_true rfl)).trans ((f862 11 (of_decide_eq_true rfl)).trans ((jkp 11 eσ849 (of_decide_eq_true rfl)).trans ((jkp 11 eσ848 (of_decide_eq_true rfl)).trans (jsp eσ847))))))))
                                refine lv_iload hx hb dX1_grow_143 (lv_at hl 0 rfl) ?_
                                refine lv_iconst (v := 4) hx hb dX1_grow_145 (of_decide_eq_true rfl) ?_
                                refine lv_icmp_ge (tgt := 196) hx hb dX1_grow_146 (of_decide_eq_true rfl) (fun c938 => ?_) (fun c938 => ?_)
                                · have kc938 := jle c938 jz_4 rfl
                                  obtain ⟨x939, ex939⟩ : ∃ y : Int32, y = x882 + 1 := ⟨_, rfl⟩
                                  have tx939 : x939.toInt = x882.toInt + 1 := (jadd ex939 rfl jz_1 (by omega) (by omega)).trans (by omega)
                                  exact by
                                   refine lv_iinc (v := x939) (lv' := [(5, .int x939), (8, .int x917), (7, .int x912), (6, .int x910), (4, .int 0), (3, .int x16), (0, .ref (ad 31)), (1, .int a1), (2, .int a2)]) hx hb dX1_grow_196 hl (k := 3) rfl (by rw [ex939]; rfl) (of_decide_eq_true rfl) rfl (fun ls hl => ?_)
                                   refine lv_goto (tgt := 99) hx hb dX1_grow_199 (of_decide_eq_true rfl) ?_
                                   exact by exact ihlp880 x939 σ918 _ _ ls (by have h90 := tx939; omega) (by have h90 := tx939; omega) (by have h90 := tx939; omega) (fun i hi => ((f923 i hi).trans (f891 i hi))) (fun i hi => ((f924 i hi).trans (f892 i hi)))  p925 p926 p927 (fun hm => jqGo.row (q928.1 hm) (by omega) (by have h9 := tx939; omega) (by omega) q928.2.2) hP hS (lv_sub hl [0, 4, 5, 6, 7, 8] rfl)
                                · have kc938 := jnle c938 jz_4 rfl
                                  refine lv_aload_n hx hb dX1_grow_149 rfl (lv_at hl 6 rfl) ?_
                                  refine va_get (D := D) hx hb hts inlX1 hown hK hP 31 (jc_31 cI cL ad σ918 τ) rfl 3 (of_decide_eq_true rfl) (hts _ kw_5_4) (fun _ h9 => h9) rfl dX1_grow_150 ?_
                                  refine lv_iload hx hb dX1_grow_153 (lv_at hl 3 rfl) ?_
                                  refine lv_iconst (v := 4) hx hb dX1_grow_155 (of_decide_eq_true rfl) ?_
                                  have g940 := jrg (rfl : x882.toInt = x882.toInt)
                                  refine lv_imul hx hb dX1_grow_156 ?_
                                  refine lv_topi (fun x941 ex941 => ?_)
                                  exact by
                                   have tx941 : x941.toInt = 4 * x882.toInt := (jmul ex941 rfl jz_4 (by omega) (by omega)).trans (by omega)
                                   refine lv_iload hx hb dX1_grow_157 (lv_at hl 0 rfl) ?_
                                   have g942 := jrg (rfl : x917.toInt = x917.toInt)
                                   refine lv_iadd hx hb dX1_grow_159 ?_
                                   refine lv_topi (fun x943 ex943 => ?_)
                                   have tx943 : x943.toInt = 4 * x882.toInt + x917.toInt := (jadd ex943 tx941 rfl (by omega) (by omega)).trans (by omega)
                                   refine lv_iload hx hb dX1_grow_160 (lv_at hl 2 rfl) ?_
                                   refine lv_iload hx hb dX1_grow_162 (lv_at hl 0 rfl) ?_
                                   refine jcallS (As := [.int x910, .int x917]) (rest := [.int x943, .ref (ad 33)]) ⟨hx, hb, hml, hown, hts⟩ hK hP hA hS hZ (c_X0_mayBowl l D cI cL ad zz hJ σ918 τ x910 (x910.toInt) rfl x917 (x917.toInt) rfl) cw_RX1_115 ⟨Nat.le_of_ble_eq_true rfl, Nat.le_of_ble_eq_true rfl⟩ rfl rfl rfl hl.1 rfl (Nat.le_of_ble_eq_true rfl) dX1_grow_164 ⟨Nat.zero_le _, Nat.zero_le _⟩ (fun r945 σ944 τ944 H locs h944 hP hS => ?_)
                                   exact by
                                    obtain ⟨⟨rfl, rfl⟩, w946, h944⟩ := h944
                                    rcases h944 with h947 | h948
                                    · obtain ⟨q950, k949⟩ := h947
                                      have q950 := q950.symm
                                      subst q950
                                      refine lv_if_eq (tgt := 188) hx hb dX1_grow_167 (of_decide_eq_true rfl) (fun c => absurd c (of_decide_eq_true rfl)) (fun _ => ?_)
                                      refine lv_aload_n hx hb dX1_grow_170 rfl (lv_at hl 6 rfl) ?_
                                      refine lv_iload hx hb dX1_grow_171 (lv_at hl 2 rfl) ?_
                                      refine lv_iload hx hb dX1_grow_173 (lv_at hl 0 rfl) ?_
                                      exact by
                                       refine jcallS (As := [.int x910, .int x917]) (rest := [.ref (ad 31), .int x943, .ref (ad 33)]) ⟨hx, hb, hml, hown, hts⟩ hK hP hA hS hZ (c_X0_after_r l D cI cL ad zz hJ σ918 τ x910 (x910.toInt) rfl x917 (x917.toInt) rfl (by omega)) cw_RX1_119 ⟨Nat.le_of_ble_eq_true rfl, Nat.le_of_ble_eq_true rfl⟩ rfl rfl rfl hl.1 rfl (Nat.le_of_ble_eq_true rfl) dX1_grow_175 ⟨Nat.zero_le _, Nat.zero_le _⟩ (fun r952 σ951 τ951 H locs h951 hP hS => ?_)
                                       obtain ⟨⟨rfl, rfl⟩, w953, w954, h951⟩ := h951
                                       have h955 := h951
                                       obtain ⟨q957, k956⟩ := h955
                                       refine lv_iload hx hb dX1_grow_178 (lv_at hl 1 rfl) ?_
                                       refine lv_iconst (v := 1) hx hb dX1_grow_180 (of_decide_eq_true rfl) ?_
                                       have g958 := jrg (rfl : x912.toInt = x912.toInt)
                                       refine lv_iadd hx hb dX1_grow_181 ?_
                                       refine lv_topi (fun x959 ex959 => ?_)
                                       exact by
                                        have tx959 : x959.toInt = x912.toInt + 1 := (jadd ex959 rfl jz_1 (by omega) (by omega)).trans (by omega)
                                        refine jcallV (As := [.int r952, .int x959]) (rest := [.int x943, .ref (ad 33)]) ⟨hx, hb, hml, hown, hts⟩ hK hP hA hS hZ (c_X1_add_31 l D cI cL ad zz hJ σ918 τ r952 (r952.toInt) rfl x959 (x912.toInt + 1) tx959 p927 p925 p926 (by omega) (by omega)) cw_RX1_111 (jc_31 cI cL ad σ918 τ) rfl ⟨Nat.le_of_ble_eq_true rfl, Nat.le_of_ble_eq_true rfl⟩ rfl rfl rfl hl.1 rfl (Nat.le_of_ble_eq_true rfl) dX1_grow_182 ⟨Nat.zero_le _, Nat.zero_le _⟩ (fun r961 σ960 τ960 H locs h960 hP hS => ?_)
                                        obtain ⟨rfl, f962, f963, I964, p965, p966, w967, h960⟩ := h960
                                        obtain ⟨i969, i970, i971, i972, w973, w974, w975⟩ : (0 ≤ (σ960 31 8).toInt ∧ (σ960 31 8).toInt ≤ 350) ∧ (0 ≤ (σ960 31 10).toInt ∧ (σ960 31 10).toInt ≤ 12) ∧ (0 ≤ (σ960 31 11).toInt ∧ (σ960 31 11).toInt ≤ 8) ∧ ((σ960 31 10).toInt + (σ960 31 11).toInt ≤ 12) ∧ (∀ k : Nat, k < 1400 → (-1) ≤ (σ960 33 k).toInt ∧ (σ960 33 k).toInt ≤ 350) ∧ (∀ k : Nat, k < 3159 → (-1) ≤ (σ960 35 k).toInt ∧ (σ960 35 k).toInt ≤ 3) ∧ (∀ k : Nat, k < 1024 → 0 ≤ (σ960 36 k).toInt ∧ (σ960 36 k).toInt ≤ 349) := id I964
                                        have z976 : (σ960 31 10).toInt = A2 := ((congrArg Int32.toInt (show σ960 31 10 = a2 from ((f963 10 (of_decide_eq_true rfl)).trans ((f924 10 (of_decide_eq_true rfl)).trans ((f892 10 (of_decide_eq_true rfl)).trans ((f862 10 (of_decide_eq_true rfl)).trans ((jkp 10 eσ849 (of_decide_eq_true rfl)).trans ((jkp 10 eσ848 (of_decide_eq_true rfl)).trans ((jkp 10 eσ847 (of_decide_eq_true rfl)).trans (jsp eσ846)))))))))).trans t2)
                                        have z977 : (σ960 31 11).toInt = x16.toInt := (congrArg Int32.toInt (show σ960 31 11 = x16 from ((f963 11 (of_decide_eq_true rfl)).trans ((f924 11 (of_decide_eq_true rfl)).trans ((f892 11 (of_decide_eq_true rfl)).trans ((f862 11 (of_decide_eq_true rfl)).trans ((jkp 11 eσ849 (of_decide_eq_true rfl)).trans ((jkp 11 eσ848 (of_decide_eq_true rfl)).trans (jsp eσ847)))))))))
                                        have h978 := h960
                                        obtain ⟨q980, k979⟩ := h978
                                        refine lv_goto (tgt := 189) hx hb dX1_grow_185 (of_decide_eq_true rfl) ?_
                                        exact by
                                         refine jast hx hb hK hP hJ hA hS (jc_33 cI cL ad σ960 τ) (ja_33 cI cL ad σ960 τ _ _) (jin tx943 (by omega) (by omega)) dX1_grow_189 (fun σ981 H locs eσ981 hP hS => ?_)
                                         obtain ⟨x982, ex982⟩ : ∃ y : Int32, y = x917 + 1 := ⟨_, rfl⟩
                                         have tx982 : x982.toInt = x917.toInt + 1 := (jadd ex982 rfl jz_1 (by omega) (by omega)).trans (by omega)
                                         refine lv_iinc (v := x982) (lv' := [(8, .int x982), (7, .int x912), (6, .int x910), (5, .int x882), (4, .int 0), (3, .int x16), (0, .ref (ad 31)), (1, .int a1), (2, .int a2)]) hx hb dX1_grow_190 hl (k := 0) rfl (by rw [ex982]; rfl) (of_decide_eq_true rfl) rfl (fun ls hl => ?_)
                                         refine lv_goto (tgt := 143) hx hb dX1_grow_193 (of_decide_eq_true rfl) ?_
                                         have p983 : jKb σ981 := jKb.fr (congrFun (jnp 31 eσ981 (of_decide_eq_true rfl)) 8) (congrFun (jnp 31 eσ981 (of_decide_eq_true rfl)) 11) (jnp 32 eσ981 (of_decide_eq_true rfl)) p965
                                         have p984 : jKh σ981 := jKh.fr (congrFun (jnp 31 eσ981 (of_decide_eq_true rfl)) 8) (jnp 32 eσ981 (of_decide_eq_true rfl)) (jnp 36 eσ981 (of_decide_eq_true rfl)) (jnp 37 eσ981 (of_decide_eq_true rfl)) p966
                                         have z985 : (σ981 31 8).toInt = (σ960 31 8).toInt := (congrArg Int32.toInt (show σ981 31 8 = (σ960 31 8) from (congrFun (jnp 31 eσ981 (of_decide_eq_true rfl)) 8)))
                                         have z986 : (σ981 31 10).toInt = A2 := ((congrArg Int32.toInt (show σ981 31 10 = a2 from ((congrFun (jnp 31 eσ981 (of_decide_eq_true rfl)) 10).trans ((f963 10 (of_decide_eq_true rfl)).trans ((f924 10 (of_decide_eq_true rfl)).trans ((f892 10 (of_decide_eq_true rfl)).trans ((f862 10 (of_decide_eq_true rfl)).trans ((jkp 10 eσ849 (of_decide_eq_true rfl)).trans ((jkp 10 eσ848 (of_decide_eq_true rfl)).trans ((jkp 10 eσ847 (of_decide_eq_true rfl)).trans (jsp eσ846))))))))))).trans t2)
                                         exact by
                                          have z987 : (σ981 31 11).toInt = x16.toInt := (congrArg Int32.toInt (show σ981 31 11 = x16 from ((congrFun (jnp 31 eσ981 (of_decide_eq_true rfl)) 11).trans ((f963 11 (of_decide_eq_true rfl)).trans ((f924 11 (of_decide_eq_true rfl)).trans ((f892 11 (of_decide_eq_true rfl)).trans ((f862 11 (of_decide_eq_true rfl)).trans ((jkp 11 eσ849 (of_decide_eq_true rfl)).trans ((jkp 11 eσ848 (of_decide_eq_true rfl)).trans (jsp eσ847))))))))))
                                          have w988 : ∀ k : Nat, k < 1400 → (-1) ≤ (σ981 33 k).toInt ∧ (σ981 33 k).toInt ≤ 350 := (by rw [eσ981]; exact jrr_up w973 (by omega) (by omega))
                                          have w989 : ∀ k : Nat, k < 3159 → (-1) ≤ (σ981 35 k).toInt ∧ (σ981 35 k).toInt ≤ 3 := (jrr_fr (jnp 35 eσ981 (of_decide_eq_true rfl)) w974)
                                          have w990 : ∀ k : Nat, k < 1024 → 0 ≤ (σ981 36 k).toInt ∧ (σ981 36 k).toInt ≤ 349 := (jrr_fr (jnp 36 eσ981 (of_decide_eq_true rfl)) w975)
                                          have I991 : jI31 σ981 := ⟨(by omega), (by omega), (by omega), (by omega), w988, w989, w990⟩
                                          exact by exact ihlp915 x982 σ981 _ _ ls (by have h90 := tx982; omega) (by have h90 := tx982; omega) (by have h90 := tx982; omega) (fun i hi => ((jnp i eσ981 (imp_94 i hi)).trans ((f962 i (imp_86 i hi)).trans (f923 i hi)))) (fun i hi => ((congrFun (jnp 31 eσ981 (of_decide_eq_true rfl)) i).trans ((f963 i hi).trans (f924 i hi))))  p983 p984 I991 (by rw [show σ981 31 8 = σ960 31 8 from (congrFun (jnp 31 eσ981 (of_decide_eq_true rfl)) 8), show σ981 32 = σ960 32 from (jnp 32 eσ981 (of_decide_eq_true rfl)), show σ981 31 11 = σ918 31 11 from ((congrFun (jnp 31 eσ981 (of_decide_eq_true rfl)) 11).trans (f963 11 (of_decide_eq_true rfl))), show σ981 31 12 = σ918 31 12 from ((congrFun (jnp 31 eσ981 (of_decide_eq_true rfl)) 12).trans (f963 12 (of_decide_eq_true rfl)))]; exact ⟨(fun hm => jqGo.put (q928.1 hm) (by omega) (by omega) (by omega) (by omega) q928.2.1 ((jqMy_iff (by omega) (by omega)).mpr ((w946).elim (fun w => w.2) (fun w => absurd w.1 (of_decide_eq_true rfl)))) (w954 (by omega) (by omega)) w967 (by omega) p926 (by omega) (by rw [eσ981, jup_row, f962 33 (of_decide_eq_true rfl), jnc (show x943.toInt = 4 * x882.toInt + x917.toInt by have h9 := tx943; omega)]) rfl (by have h9 := tx982; omega)), (by rw [(w967).1 x882.toInt.toNat (by omega)]; exact q928.2.1), (by have w8 := jqAd.le w967; have w9 := q928.2.2; omega)⟩) hP hS (lv_sub hl [0, 1, 2, 3, 4, 5, 6, 7, 8] rfl)
                                    · obtain ⟨q993, k992⟩ := h948
                                      have q993 := q993.symm
                                      subst q993
                                      exact by
                                       refine lv_if_eq (tgt := 188) hx hb dX1_grow_167 (of_decide_eq_true rfl) (fun _ => ?_) (fun c => absurd (of_decide_eq_true rfl) c)
                                       refine lv_iconst (v := (-1)) hx hb dX1_grow_188 (of_decide_eq_true rfl) ?_
                                       refine jast hx hb hK hP hJ hA hS (jc_33 cI cL ad σ918 τ) (ja_33 cI cL ad σ918 τ _ _) (jin tx943 (by omega) (by omega)) dX1_grow_189 (fun σ994 H locs eσ994 hP hS => ?_)
                                       obtain ⟨x995, ex995⟩ : ∃ y : Int32, y = x917 + 1 := ⟨_, rfl⟩
                                       have tx995 : x995.toInt = x917.toInt + 1 := (jadd ex995 rfl jz_1 (by omega) (by omega)).trans (by omega)
                                       refine lv_iinc (v := x995) (lv' := [(8, .int x995), (7, .int x912), (6, .int x910), (5, .int x882), (4, .int 0), (3, .int x16), (0, .ref (ad 31)), (1, .int a1), (2, .int a2)]) hx hb dX1_grow_190 hl (k := 0) rfl (by rw [ex995]; rfl) (of_decide_eq_true rfl) rfl (fun ls hl => ?_)
                                       refine lv_goto (tgt := 143) hx hb dX1_grow_193 (of_decide_eq_true rfl) ?_
                                       have p996 : jKb σ994 := jKb.fr (congrFun (jnp 31 eσ994 (of_decide_eq_true rfl)) 8) (congrFun (jnp 31 eσ994 (of_decide_eq_true rfl)) 11) (jnp 32 eσ994 (of_decide_eq_true rfl)) p925
                                       have p997 : jKh σ994 := jKh.fr (congrFun (jnp 31 eσ994 (of_decide_eq_true rfl)) 8) (jnp 32 eσ994 (of_decide_eq_true rfl)) (jnp 36 eσ994 (of_decide_eq_true rfl)) (jnp 37 eσ994 (of_decide_eq_true rfl)) p926
                                       exact by
                                        have z998 : (σ994 31 8).toInt = (σ918 31 8).toInt := (congrArg Int32.toInt (show σ994 31 8 = (σ918 31 8) from (congrFun (jnp 31 eσ994 (of_decide_eq_true rfl)) 8)))
                                        have z999 : (σ994 31 10).toInt = A2 := ((congrArg Int32.toInt (show σ994 31 10 = a2 from ((congrFun (jnp 31 eσ994 (of_decide_eq_true rfl)) 10).trans ((f924 10 (of_decide_eq_true rfl)).trans ((f892 10 (of_decide_eq_true rfl)).trans ((f862 10 (of_decide_eq_true rfl)).trans ((jkp 10 eσ849 (of_decide_eq_true rfl)).trans ((jkp 10 eσ848 (of_decide_eq_true rfl)).trans ((jkp 10 eσ847 (of_decide_eq_true rfl)).trans (jsp eσ846)))))))))).trans t2)
                                        have z1000 : (σ994 31 11).toInt = x16.toInt := (congrArg Int32.toInt (show σ994 31 11 = x16 from ((congrFun (jnp 31 eσ994 (of_decide_eq_true rfl)) 11).trans ((f924 11 (of_decide_eq_true rfl)).trans ((f892 11 (of_decide_eq_true rfl)).trans ((f862 11 (of_decide_eq_true rfl)).trans ((jkp 11 eσ849 (of_decide_eq_true rfl)).trans ((jkp 11 eσ848 (of_decide_eq_true rfl)).trans (jsp eσ847)))))))))
                                        have w1001 : ∀ k : Nat, k < 1400 → (-1) ≤ (σ994 33 k).toInt ∧ (σ994 33 k).toInt ≤ 350 := (by rw [eσ994]; exact jrr_up w933 (by have h9 := jz_m1; omega) (by have h9 := jz_m1; omega))
                                        have w1002 : ∀ k : Nat, k < 3159 → (-1) ≤ (σ994 35 k).toInt ∧ (σ994 35 k).toInt ≤ 3 := (jrr_fr (jnp 35 eσ994 (of_decide_eq_true rfl)) w934)
                                        have w1003 : ∀ k : Nat, k < 1024 → 0 ≤ (σ994 36 k).toInt ∧ (σ994 36 k).toInt ≤ 349 := (jrr_fr (jnp 36 eσ994 (of_decide_eq_true rfl)) w935)
                                        have I1004 : jI31 σ994 := ⟨(by omega), (by omega), (by omega), (by omega), w1001, w1002, w1003⟩
                                        exact by exact ihlp915 x995 σ994 _ _ ls (by have h90 := tx995; omega) (by have h90 := tx995; omega) (by have h90 := tx995; omega) (fun i hi => ((jnp i eσ994 (imp_94 i hi)).trans (f923 i hi))) (fun i hi => ((congrFun (jnp 31 eσ994 (of_decide_eq_true rfl)) i).trans (f924 i hi)))  p996 p997 I1004 (by rw [show σ994 31 8 = σ918 31 8 from (congrFun (jnp 31 eσ994 (of_decide_eq_true rfl)) 8), show σ994 31 11 = σ918 31 11 from (congrFun (jnp 31 eσ994 (of_decide_eq_true rfl)) 11), show σ994 31 12 = σ918 31 12 from (congrFun (jnp 31 eσ994 (of_decide_eq_true rfl)) 12), show σ994 32 = σ918 32 from (jnp 32 eσ994 (of_decide_eq_true rfl))]; exact ⟨(fun hm => jqGo.none (q928.1 hm) (by omega) (by omega) (by omega) (by omega) q928.2.1 (fun w => ((w946).elim (fun w => absurd w.1 (of_decide_eq_true rfl)) (fun w => w.2)) ((jqMy_iff (by omega) (by omega)).mp w)) (by rw [eσ994, jup_row, jnc (show x943.toInt = 4 * x882.toInt + x917.toInt by have h9 := tx943; omega)]) (of_decide_eq_true rfl) (by have h9 := tx995; omega)), q928.2.1, q928.2.2⟩) hP hS (lv_sub hl [0, 1, 2, 3, 4, 5, 6, 7, 8] rfl)
                           exact by exact lp915 1000000 0 σ886 _ _ ls (by have h90 := jz_0; omega) (by have h90 := jz_0; omega) (by have h90 := jz_0; omega) (fun _ _ => rfl) (fun _ _ => rfl)  p893 p894 p895 ⟨(by rw [show (0 : Int32).toInt = 0 from by decide]; exact q896), ⟨(by have w := jandm (x := (σ886 32 x882.toNatClampNeg)) (y := x910) (m := 134217727) (k := 27) (M := 134217728) (by rw [ex910]) rfl rfl (of_decide_eq_true rfl); show (σ886 32 x882.toNatClampNeg).toInt = _; omega), ⟨by omega, by omega⟩, (by omega)⟩, by omega⟩ hP hS hl
                 exact by exact lp880 1000000 0 σ859 _ _ ls (by have h90 := jz_0; omega) (by have h90 := jz_0; omega) (by have h90 := jz_0; omega) (fun _ _ => rfl) (fun _ _ => rfl)  p864 p865 I863 (by rw [show σ859 31 11 = σ849 31 11 from (f862 11 (of_decide_eq_true rfl)), show σ859 31 12 = σ849 31 12 from (f862 12 (of_decide_eq_true rfl))]; exact (fun hm => jqGo.first hm (by have w := w866; rw [show (σ849 31 8).toInt = 0 from by omega] at w; exact w) rfl (by have h9 := jz_0; omega))) hP hS hl
            · exact by
               have kc844 := jeq c844 rfl jz_0
               refine lv_aload_n hx hb dX1_grow_57 rfl (lv_at hl 2 rfl) ?_
               refine lv_iload_n hx hb dX1_grow_58 rfl (lv_at hl 4 rfl) ?_
               refine jput (ty := .int) hx hb hts inlX1 tyX1 tyX1_ok nmX1 hown hK hP hJ hA hS (jc_31 cI cL ad σ τ) rfl (k := 10) (of_decide_eq_true rfl) (Nat.le_of_ble_eq_true rfl) (jp_31_10 cI cL ad σ τ a2) (hts _ kw_28_9) (fun _ h9 => h9) rfl (by decide +kernel) rfl rfl dX1_grow_59 (fun σ1005 H locs eσ1005 hP hS => ?_)
               have z1006 : (σ1005 31 8).toInt = (σ 31 8).toInt := (congrArg Int32.toInt (show σ1005 31 8 = (σ 31 8) from (jkp 8 eσ1005 (of_decide_eq_true rfl))))
               have z1007 : (σ1005 31 10).toInt = A2 := ((congrArg Int32.toInt (show σ1005 31 10 = a2 from (jsp eσ1005))).trans t2)
               have z1008 : (σ1005 31 11).toInt = (σ 31 11).toInt := (congrArg Int32.toInt (show σ1005 31 11 = (σ 31 11) from (jkp 11 eσ1005 (of_decide_eq_true rfl))))
               have w1009 : ∀ k : Nat, k < 1400 → (-1) ≤ (σ1005 33 k).toInt ∧ (σ1005 33 k).toInt ≤ 350 := (jrr_fr (jnp 33 eσ1005 (of_decide_eq_true rfl)) w9)
               have w1010 : ∀ k : Nat, k < 3159 → (-1) ≤ (σ1005 35 k).toInt ∧ (σ1005 35 k).toInt ≤ 3 := (jrr_fr (jnp 35 eσ1005 (of_decide_eq_true rfl)) w10)
               have w1011 : ∀ k : Nat, k < 1024 → 0 ≤ (σ1005 36 k).toInt ∧ (σ1005 36 k).toInt ≤ 349 := (jrr_fr (jnp 36 eσ1005 (of_decide_eq_true rfl)) w11)
               exact by
                have I1012 : jI31 σ1005 := ⟨(by omega), (by omega), (by omega), (by omega), w1009, w1010, w1011⟩
                have p1013 : jKb σ1005 := jKb.fr (jkp 8 eσ1005 (of_decide_eq_true rfl)) (jkp 11 eσ1005 (of_decide_eq_true rfl)) (jnp 32 eσ1005 (of_decide_eq_true rfl)) hs_jKb
                have p1014 : jKh σ1005 := jKh.fr (jkp 8 eσ1005 (of_decide_eq_true rfl)) (jnp 32 eσ1005 (of_decide_eq_true rfl)) (jnp 36 eσ1005 (of_decide_eq_true rfl)) (jnp 37 eσ1005 (of_decide_eq_true rfl)) hs_jKh
                have p1015 : jKg σ1005 := jKg.fr (jkp 8 eσ1005 (of_decide_eq_true rfl)) (jkp 9 eσ1005 (of_decide_eq_true rfl)) (jkp 11 eσ1005 (of_decide_eq_true rfl)) (jkp 12 eσ1005 (of_decide_eq_true rfl)) (jnp 32 eσ1005 (of_decide_eq_true rfl)) (jnp 33 eσ1005 (of_decide_eq_true rfl)) hs_jKg
                have z1016 : (σ1005 31 9).toInt = (σ 31 9).toInt := (congrArg Int32.toInt (show σ1005 31 9 = (σ 31 9) from (jkp 9 eσ1005 (of_decide_eq_true rfl))))
                exact by exact hret σ1005 τ _ _ _ _ ⟨rfl, (fun i hi => (jnp i eσ1005 (imp_87 i hi))), (fun i hi => (jkp i eσ1005 (imp_92 i hi))), I1012, p1013, p1014, p1015, (by rw [show σ1005 31 12 = (σ 31 12) from (jkp 12 eσ1005 (of_decide_eq_true rfl)), c844]; exact w20), (by omega), (by omega), (by omega), trivial⟩ hP hS dX1_grow_62
set_option maxHeartbeats 4000000 in
set_option maxRecDepth 100000 in
theorem c_X1_judge_31 (l : Launch) (D : va_G) (cI cL : ClassId) (ad zz : Nat → Nat) (hJ : jD ad) (σ : Nat → Nat → Int32) (τ : Nat → Nat → Int64) (a1 : Int32) (A1 : Int) (t1 : a1.toInt = A1) (a3 : Int32) (A3 : Int) (t3 : a3.toInt = A3) (a4 : Int32) (A4 : Int) (t4 : a4.toInt = A4) (hI16 : jI16 σ) (hI22 : jI22 σ) (hI31 : jI31 σ) (hI26 : jI26 σ) (hs_jN67 : jN67 σ) (hs_jBl : jBl σ) (hs_jKb : jKb σ) (hs_jNz : jNz σ) (hp0 : 0 ≤ A1 ∧ A1 ≤ 349) (hp1 : A1 < (σ 31 8).toInt) (hp2 : 0 ≤ A3 ∧ A3 ≤ 12) : jMv l yX1_judge cX1_judge 18 none ({ frames := 3, cells := 0, slots := 0, locals := 76 }) D cI cL ad zz [.ref (ad 31), .int a1, .ref (ad 17), .int a3, .int a4] σ τ (fun σ' τ' => τ = τ' ∧ (∀ i : Nat, (i < 24 ∨ 25 < i) ∧ (i < 29 ∨ 30 < i) ∧ (i < 34 ∨ 35 < i) → σ' i = σ i) ∧ (jI31 σ') ∧ (jN67 σ') ∧ (jBl σ') ∧ (jKb σ') ∧ (jNz σ') ∧ True) := by
  refine jMv.of hJ (by decide +kernel) rfl (Nat.le_of_ble_eq_true rfl) ?_
  intro p e s m args below meth c Q ls hC hret hl hP
  obtain ⟨hx, hb, hr, hml, hown, hts, hK, -, hlocks, hZ⟩ := hC
  have hown : s.vm.findClass RX1 = some m.cls := hown
  have hS : va_S (jA ad) s.heap s.heap [] := va_S.rf
  have hA : ∀ q, jA ad q → jA ad q := fun _ h => h
  have hl : lv_has ls 18 [(0, .ref (ad 31)), (1, .int a1), (2, .ref (ad 17)), (3, .int a3), (4, .int a4)] := hl
  have g1 := jrg t1
  have g3 := jrg t3
  have g4 := jrg t4
  obtain ⟨i1, i2, i3, w4⟩ : (1 ≤ (σ 16 0).toInt ∧ (σ 16 0).toInt ≤ 8) ∧ (1 ≤ (σ 16 1).toInt ∧ (σ 16 1).toInt ≤ 12) ∧ (0 ≤ (σ 16 2).toInt ∧ (σ 16 2).toInt ≤ 999) ∧ (∀ k : Nat, k < 8 → 0 ≤ (σ 17 k).toInt ∧ (σ 17 k).toInt ≤ 3) := id hI16
  obtain ⟨i5, i6, i7, i8, w9, w10, w11⟩ : (0 ≤ (σ 31 8).toInt ∧ (σ 31 8).toInt ≤ 350) ∧ (0 ≤ (σ 31 10).toInt ∧ (σ 31 10).toInt ≤ 12) ∧ (0 ≤ (σ 31 11).toInt ∧ (σ 31 11).toInt ≤ 8) ∧ ((σ 31 10).toInt + (σ 31 11).toInt ≤ 12) ∧ (∀ k : Nat, k < 1400 → (-1) ≤ (σ 33 k).toInt ∧ (σ 33 k).toInt ≤ 350) ∧ (∀ k : Nat, k < 3159 → (-1) ≤ (σ 35 k).toInt ∧ (σ 35 k).toInt ≤ 3) ∧ (∀ k : Nat, k < 1024 → 0 ≤ (σ 36 k).toInt ∧ (σ 36 k).toInt ≤ 349) := id hI31
  refine lv_aload_n hx hb dX1_judge_0 rfl (lv_at hl 0 rfl) ?_
  refine va_get (D := D) hx hb hts inlX1 hown hK hP 31 (jc_31 cI cL ad σ τ) rfl 2 (of_decide_eq_true rfl) (hts _ kw_5_3) (fun _ h9 => h9) rfl dX1_judge_1 ?_
  refine lv_iload_n hx hb dX1_judge_4 rfl (lv_at hl 1 rfl) ?_
  exact by
   refine jald hx hb hK hP (jc_32 cI cL ad σ τ) (jin t1 (by omega) (by omega)) dX1_judge_5 ?_
   refine jtopr (y := (σ 32 a1.toNatClampNeg)) rfl ?_
   refine lv_ldc (v := 134217727) hx hb hown (hts _ kw_28_10) dX1_judge_6 ?_
   refine lv_iand hx hb dX1_judge_8 ?_
   refine lv_topi (fun x12 ex12 => ?_)
   have gx12 := jrg (rfl : x12.toInt = x12.toInt)
   have g13 : 0 ≤ x12.toInt ∧ x12.toInt ≤ 134217727 := jmask ex12 27 (of_decide_eq_true rfl) (of_decide_eq_true rfl)
   refine lv_istore (lv' := [(5, .int x12), (0, .ref (ad 31)), (1, .int a1), (2, .ref (ad 17)), (3, .int a3), (4, .int a4)]) hx hb dX1_judge_9 hl (of_decide_eq_true rfl) rfl (fun ls hl => ?_)
   refine lv_aload_n hx hb dX1_judge_11 rfl (lv_at hl 1 rfl) ?_
   refine va_get (D := D) hx hb hts inlX1 hown hK hP 31 (jc_31 cI cL ad σ τ) rfl 2 (of_decide_eq_true rfl) (hts _ kw_5_3) (fun _ h9 => h9) rfl dX1_judge_12 ?_
   refine lv_iload_n hx hb dX1_judge_15 rfl (lv_at hl 2 rfl) ?_
   exact by
    refine jald hx hb hK hP (jc_32 cI cL ad σ τ) (jin t1 (by omega) (by omega)) dX1_judge_16 ?_
    refine jtopr (y := (σ 32 a1.toNatClampNeg)) rfl ?_
    refine lv_bipush (v := 27) hx hb dX1_judge_17 (of_decide_eq_true rfl) ?_
    refine lv_ishr hx hb dX1_judge_19 ?_
    refine lv_topi (fun x14 ex14 => ?_)
    have gx14 := jrg (rfl : x14.toInt = x14.toInt)
    have k15 := jshr27 (x := x14) (k := (σ 32 a1.toNatClampNeg)) (by rw [ex14])
    have k16 := hs_jKb a1.toNatClampNeg (by rw [jnc t1]; omega)
    refine lv_istore (lv' := [(6, .int x14), (5, .int x12), (0, .ref (ad 31)), (1, .int a1), (2, .ref (ad 17)), (3, .int a3), (4, .int a4)]) hx hb dX1_judge_20 hl (of_decide_eq_true rfl) rfl (fun ls hl => ?_)
    exact by
     refine lv_iload_n hx hb dX1_judge_22 rfl (lv_at hl 3 rfl) ?_
     refine lv_bipush (v := 9) hx hb dX1_judge_23 (of_decide_eq_true rfl) ?_
     refine lv_imul hx hb dX1_judge_25 ?_
     refine lv_topi (fun x17 ex17 => ?_)
     have tx17 : x17.toInt = 9 * A1 := (jmul ex17 t1 jz_9 (by omega) (by omega)).trans (by omega)
     refine lv_istore (lv' := [(7, .int x17), (6, .int x14), (5, .int x12), (0, .ref (ad 31)), (1, .int a1), (2, .ref (ad 17)), (3, .int a3), (4, .int a4)]) hx hb dX1_judge_26 hl (of_decide_eq_true rfl) rfl (fun ls hl => ?_)
     have lp18 : ∀ (x20 : Int32) (x21 : Int32) (H : Heap) (locs : List Loc) (ls : Array Slot), 0 ≤ x20.toInt → x20.toInt ≤ 12 → x21.toInt ≤ 7 → x20.toInt = A3 → x21.toInt ≤ A4 → x21.toInt ≤ A3 + x14.toInt + 1 → jH D cI cL ad σ τ H → va_S (jA ad) s.heap H locs → lv_has ls 18 [(7, .int x17), (6, .int x14), (5, .int x12), (0, .ref (ad 31)), (1, .int a1), (2, .ref (ad 17)), (3, .int a3), (4, .int a4), (8, .int x20), (9, .int x21)] → W p l e ({ frames := 3, cells := 0, slots := 0, locals := 76 }) s m args below meth c H locs 0 0 Q (F0 m 55 ls []) := by
       intro x20 x21 H locs ls h23 h24 h25 h26 h27 h28 hP hS hl
       have gx21 := jrg (rfl : x21.toInt = x21.toInt)
       exact by
        refine lv_iload hx hb dX1_judge_55 (lv_at hl 8 rfl) ?_
        refine lv_istore (lv' := [(10, .int x20), (7, .int x17), (6, .int x14), (5, .int x12), (0, .ref (ad 31)), (1, .int a1), (2, .ref (ad 17)), (3, .int a3), (4, .int a4), (8, .int x20), (9, .int x21)]) hx hb dX1_judge_57 hl (of_decide_eq_true rfl) rfl (fun ls hl => ?_)
        have lp30 : ∀ (n31 : Nat) (x32 : Int32) (σ33 : Nat → Nat → Int32) (H : Heap) (locs : List Loc) (ls : Array Slot), (-x32.toInt + 20 : Int) < n31 → 0 ≤ x32.toInt → x32.toInt ≤ 12 → (∀ i : Nat, (i < 34 ∨ 35 < i) → σ33 i = σ i) → jNz σ33 → jI31 σ33 → jH D cI cL ad σ33 τ H → va_S (jA ad) s.heap H locs → lv_has ls 18 [(10, .int x32), (7, .int x17), (6, .int x14), (5, .int x12), (0, .ref (ad 31)), (1, .int a1), (2, .ref (ad 17)), (3, .int a3), (4, .int a4), (8, .int x20), (9, .int x21)] → W p l e ({ frames := 3, cells := 0, slots := 0, locals := 76 }) s m args below meth c H locs 0 0 Q (F0 m 59 ls []) := by
          intro n31
          induction n31 with
          | zero => intro x32 σ33 H locs ls h35 h36 h37; exact absurd h35 (by omega)
          | succ n31 ihlp30 =>
            intro x32 σ33 H locs ls h35 h36 h37 f38 p39 p40 hP hS hl
            obtain ⟨i41, i42, i43, i44, w45, w46, w47⟩ : (0 ≤ (σ33 31 8).toInt ∧ (σ33 31 8).toInt ≤ 350) ∧ (0 ≤ (σ33 31 10).toInt ∧ (σ33 31 10).toInt ≤ 12) ∧ (0 ≤ (σ33 31 11).toInt ∧ (σ33 31 11).toInt ≤ 8) ∧ ((σ33 31 10).toInt + (σ33 31 11).toInt ≤ 12) ∧ (∀ k : Nat, k < 1400 → (-1) ≤ (σ33 33 k).toInt ∧ (σ33 33 k).toInt ≤ 350) ∧ (∀ k : Nat, k < 3159 → (-1) ≤ (σ33 35 k).toInt ∧ (σ33 35 k).toInt ≤ 3) ∧ (∀ k : Nat, k < 1024 → 0 ≤ (σ33 36 k).toInt ∧ (σ33 36 k).toInt ≤ 349) := id p40
            exact by
             have z48 : (σ33 31 8).toInt = (σ 31 8).toInt := (congrArg Int32.toInt (show σ33 31 8 = (σ 31 8) from (congrFun (f38 31 (of_decide_eq_true rfl)) 8)))
             have z49 : (σ33 31 10).toInt = (σ 31 10).toInt := (congrArg Int32.toInt (show σ33 31 10 = (σ 31 10) from (congrFun (f38 31 (of_decide_eq_true rfl)) 10)))
             have z50 : (σ33 31 11).toInt = (σ 31 11).toInt := (congrArg Int32.toInt (show σ33 31 11 = (σ 31 11) from (congrFun (f38 31 (of_decide_eq_true rfl)) 11)))
             refine lv_iload hx hb dX1_judge_59 (lv_at hl 0 rfl) ?_
             refine lv_iload hx hb dX1_judge_61 (lv_at hl 10 rfl) ?_
             refine lv_icmp_gt (tgt := 94) hx hb dX1_judge_63 (of_decide_eq_true rfl) (fun c51 => ?_) (fun c51 => ?_)
             · have kc51 := jlt c51 rfl rfl
               refine lv_aload_n hx hb dX1_judge_94 rfl (lv_at hl 4 rfl) ?_
               refine va_get (D := D) hx hb hts inlX1 hown hK hP 31 (jc_31 cI cL ad σ33 τ) rfl 4 (of_decide_eq_true rfl) (hts _ kw_5_5) (fun _ h9 => h9) rfl dX1_judge_95 ?_
               refine lv_iload hx hb dX1_judge_98 (lv_at hl 1 rfl) ?_
               refine lv_aload_n hx hb dX1_judge_100 rfl (lv_at hl 4 rfl) ?_
               refine va_get (D := D) hx hb hts inlX1 hown hK hP 31 (jc_31 cI cL ad σ33 τ) rfl 1 (of_decide_eq_true rfl) (hts _ kw_5_11) (fun _ h9 => h9) rfl dX1_judge_101 ?_
               refine va_get (D := D) hx hb hts inlX6 hown hK hP 16 (jc_16 cI cL ad σ33 τ) rfl 0 (of_decide_eq_true rfl) (hts _ kw_27_17) (fun _ h9 => h9) rfl dX1_judge_104 ?_
               have m52 : σ33 16 0 = (σ 16 0) := (congrFun (f38 16 (of_decide_eq_true rfl)) 0)
               refine jtopr m52 ?_
               have g53 := jrg (rfl : (σ 16 0).toInt = (σ 16 0).toInt)
               refine lv_iadd hx hb dX1_judge_107 ?_
               refine lv_topi (fun x54 ex54 => ?_)
               exact by
                have tx54 : x54.toInt = 9 * A1 + (σ 16 0).toInt := (jadd ex54 tx17 rfl (by omega) (by omega)).trans (by omega)
                refine lv_iconst (v := 0) hx hb dX1_judge_108 (of_decide_eq_true rfl) ?_
                refine jast hx hb hK hP hJ hA hS (jc_34 cI cL ad σ33 τ) (ja_34 cI cL ad σ33 τ _ _) (jin tx54 (by omega) (by omega)) dX1_judge_109 (fun σ55 H locs eσ55 hP hS => ?_)
                have p56 : jNz σ55 := (jNz.put p39 eσ55 (jnat (x := x54) tx54 (n := 3150) (by omega) (of_decide_eq_true rfl)))
                refine lv_iconst (v := 0) hx hb dX1_judge_110 (of_decide_eq_true rfl) ?_
                refine lv_istore (lv' := [(10, .int 0), (7, .int x17), (6, .int x14), (5, .int x12), (0, .ref (ad 31)), (1, .int a1), (2, .ref (ad 17)), (3, .int a3), (4, .int a4), (8, .int x20), (9, .int x21)]) hx hb dX1_judge_111 hl (of_decide_eq_true rfl) rfl (fun ls hl => ?_)
                have I68 : jI31 σ55 := jI31_fr (congrFun (jnp 31 eσ55 (of_decide_eq_true rfl)) 8) (congrFun (jnp 31 eσ55 (of_decide_eq_true rfl)) 10) (congrFun (jnp 31 eσ55 (of_decide_eq_true rfl)) 11) (jnp 33 eσ55 (of_decide_eq_true rfl)) (jnp 35 eσ55 (of_decide_eq_true rfl)) (jnp 36 eσ55 (of_decide_eq_true rfl)) p40
                have p70 : jN67 σ55 := jN67.fr ((jnp 24 eσ55 (of_decide_eq_true rfl)).trans (f38 24 (of_decide_eq_true rfl))) hs_jN67
                have p71 : jBl σ55 := jBl.fr ((congrFun (jnp 22 eσ55 (of_decide_eq_true rfl)) 0).trans (congrFun (f38 22 (of_decide_eq_true rfl)) 0)) ((congrFun (jnp 22 eσ55 (of_decide_eq_true rfl)) 1).trans (congrFun (f38 22 (of_decide_eq_true rfl)) 1)) ((jnp 23 eσ55 (of_decide_eq_true rfl)).trans (f38 23 (of_decide_eq_true rfl))) ((congrFun (jnp 26 eσ55 (of_decide_eq_true rfl)) 6).trans (congrFun (f38 26 (of_decide_eq_true rfl)) 6)) ((congrFun (jnp 26 eσ55 (of_decide_eq_true rfl)) 7).trans (congrFun (f38 26 (of_decide_eq_true rfl)) 7)) ((jnp 29 eσ55 (of_decide_eq_true rfl)).trans (f38 29 (of_decide_eq_true rfl))) ((jnp 30 eσ55 (of_decide_eq_true rfl)).trans (f38 30 (of_decide_eq_true rfl))) hs_jBl
                exact by
                 have lp57 : ∀ (n58 : Nat) (x59 : Int32) (σ67 : Nat → Nat → Int32) (H : Heap) (locs : List Loc) (ls : Array Slot), (-x59.toInt + 4 : Int) < n58 → 0 ≤ x59.toInt → x59.toInt ≤ 4 → (∀ i : Nat, (i < 24 ∨ 25 < i) ∧ (i < 29 ∨ 30 < i) ∧ (i < 34 ∨ 35 < i) → σ67 i = σ55 i) → jN67 σ67 → jBl σ67 → jNz σ67 → jI31 σ67 → jH D cI cL ad σ67 τ H → va_S (jA ad) s.heap H locs → lv_has ls 18 [(10, .int x59), (7, .int x17), (6, .int x14), (5, .int x12), (0, .ref (ad 31)), (1, .int a1), (2, .ref (ad 17)), (3, .int a3), (4, .int a4), (8, .int x20), (9, .int x21)] → W p l e ({ frames := 3, cells := 0, slots := 0, locals := 76 }) s m args below meth c H locs 0 0 Q (F0 m 113 ls []) := by
                   intro n58
                   induction n58 with
                   | zero => intro x59 σ67 H locs ls h72 h73 h74; exact absurd h72 (by omega)
                   | succ n58 ihlp57 =>
                     intro x59 σ67 H locs ls h72 h73 h74 f75 p76 p77 p78 p79 hP hS hl
                     obtain ⟨i80, i81, i82, i83, w84, w85, w86⟩ : (0 ≤ (σ67 31 8).toInt ∧ (σ67 31 8).toInt ≤ 350) ∧ (0 ≤ (σ67 31 10).toInt ∧ (σ67 31 10).toInt ≤ 12) ∧ (0 ≤ (σ67 31 11).toInt ∧ (σ67 31 11).toInt ≤ 8) ∧ ((σ67 31 10).toInt + (σ67 31 11).toInt ≤ 12) ∧ (∀ k : Nat, k < 1400 → (-1) ≤ (σ67 33 k).toInt ∧ (σ67 33 k).toInt ≤ 350) ∧ (∀ k : Nat, k < 3159 → (-1) ≤ (σ67 35 k).toInt ∧ (σ67 35 k).toInt ≤ 3) ∧ (∀ k : Nat, k < 1024 → 0 ≤ (σ67 36 k).toInt ∧ (σ67 36 k).toInt ≤ 349) := id p79
                     have z87 : (σ67 31 8).toInt = (σ 31 8).toInt := (congrArg Int32.toInt (show σ67 31 8 = (σ 31 8) from ((congrFun (f75 31 (of_decide_eq_true rfl)) 8).trans ((congrFun (jnp 31 eσ55 (of_decide_eq_true rfl)) 8).trans (congrFun (f38 31 (of_decide_eq_true rfl)) 8)))))
                     have z88 : (σ67 31 10).toInt = (σ 31 10).toInt := (congrArg Int32.toInt (show σ67 31 10 = (σ 31 10) from ((congrFun (f75 31 (of_decide_eq_true rfl)) 10).trans ((congrFun (jnp 31 eσ55 (of_decide_eq_true rfl)) 10).trans (congrFun (f38 31 (of_decide_eq_true rfl)) 10)))))
                     exact by
                      have z89 : (σ67 31 11).toInt = (σ 31 11).toInt := (congrArg Int32.toInt (show σ67 31 11 = (σ 31 11) from ((congrFun (f75 31 (of_decide_eq_true rfl)) 11).trans ((congrFun (jnp 31 eσ55 (of_decide_eq_true rfl)) 11).trans (congrFun (f38 31 (of_decide_eq_true rfl)) 11)))))
                      refine lv_iload hx hb dX1_judge_113 (lv_at hl 0 rfl) ?_
                      refine lv_iconst (v := 4) hx hb dX1_judge_115 (of_decide_eq_true rfl) ?_
                      refine lv_icmp_ge (tgt := 316) hx hb dX1_judge_116 (of_decide_eq_true rfl) (fun c90 => ?_) (fun c90 => ?_)
                      · have kc90 := jle c90 jz_4 rfl
                        have p91 : jKb σ67 := jKb.fr ((congrFun (f75 31 (of_decide_eq_true rfl)) 8).trans ((congrFun (jnp 31 eσ55 (of_decide_eq_true rfl)) 8).trans (congrFun (f38 31 (of_decide_eq_true rfl)) 8))) ((congrFun (f75 31 (of_decide_eq_true rfl)) 11).trans ((congrFun (jnp 31 eσ55 (of_decide_eq_true rfl)) 11).trans (congrFun (f38 31 (of_decide_eq_true rfl)) 11))) ((f75 32 (of_decide_eq_true rfl)).trans ((jnp 32 eσ55 (of_decide_eq_true rfl)).trans (f38 32 (of_decide_eq_true rfl)))) hs_jKb
                        exact hret σ67 τ _ _ _ _ ⟨rfl, (fun i hi => ((f75 i hi).trans ((jnp i eσ55 (imp_95 i hi)).trans (f38 i (imp_96 i hi))))), p79, p76, p77, p91, p78, trivial⟩ hP hS dX1_judge_316
                      · have kc90 := jnle c90 jz_4 rfl
                        refine lv_aload_n hx hb dX1_judge_119 rfl (lv_at hl 4 rfl) ?_
                        refine va_get (D := D) hx hb hts inlX1 hown hK hP 31 (jc_31 cI cL ad σ67 τ) rfl 3 (of_decide_eq_true rfl) (hts _ kw_5_4) (fun _ h9 => h9) rfl dX1_judge_120 ?_
                        refine lv_iload_n hx hb dX1_judge_123 rfl (lv_at hl 5 rfl) ?_
                        refine lv_iconst (v := 4) hx hb dX1_judge_124 (of_decide_eq_true rfl) ?_
                        refine lv_imul hx hb dX1_judge_125 ?_
                        refine lv_topi (fun x92 ex92 => ?_)
                        exact by
                         have tx92 : x92.toInt = 4 * A1 := (jmul ex92 t1 jz_4 (by omega) (by omega)).trans (by omega)
                         refine lv_iload hx hb dX1_judge_126 (lv_at hl 0 rfl) ?_
                         have g93 := jrg (rfl : x59.toInt = x59.toInt)
                         refine lv_iadd hx hb dX1_judge_128 ?_
                         refine lv_topi (fun x94 ex94 => ?_)
                         have tx94 : x94.toInt = 4 * A1 + x59.toInt := (jadd ex94 tx92 rfl (by omega) (by omega)).trans (by omega)
                         refine jald hx hb hK hP (jc_33 cI cL ad σ67 τ) (jin tx94 (by omega) (by omega)) dX1_judge_129 ?_
                         have g95 := w84 _ (jnat (x := x94) tx94 (n := 1400) (by omega) (of_decide_eq_true rfl))
                         refine jtopr (y := (σ 33 x94.toNatClampNeg)) (by rw [f75 33 (of_decide_eq_true rfl), jnp 33 eσ55 (of_decide_eq_true rfl), f38 33 (of_decide_eq_true rfl)]) ?_
                         rw [f75 33 (of_decide_eq_true rfl), jnp 33 eσ55 (of_decide_eq_true rfl), f38 33 (of_decide_eq_true rfl)] at g95
                         exact by
                          refine lv_bipush (v := 9) hx hb dX1_judge_130 (of_decide_eq_true rfl) ?_
                          have g96 := jrg (rfl : (σ 33 x94.toNatClampNeg).toInt = (σ 33 x94.toNatClampNeg).toInt)
                          refine lv_imul hx hb dX1_judge_132 ?_
                          refine lv_topi (fun x97 ex97 => ?_)
                          have tx97 : x97.toInt = 9 * (σ 33 x94.toNatClampNeg).toInt := (jmul ex97 rfl jz_9 (by omega) (by omega)).trans (by omega)
                          refine lv_istore (lv' := [(11, .int x97), (10, .int x59), (7, .int x17), (6, .int x14), (5, .int x12), (0, .ref (ad 31)), (1, .int a1), (2, .ref (ad 17)), (3, .int a3), (4, .int a4), (8, .int x20), (9, .int x21)]) hx hb dX1_judge_133 hl (of_decide_eq_true rfl) rfl (fun ls hl => ?_)
                          refine lv_iload hx hb dX1_judge_135 (lv_at hl 0 rfl) ?_
                          refine lv_if_ge (tgt := 143) hx hb dX1_judge_137 (of_decide_eq_true rfl) (fun c98 => ?_) (fun c98 => ?_)
                          · have kc98 := jle c98 jz_0 tx97
                            exact by
                             refine lv_iload hx hb dX1_judge_143 (lv_at hl 4 rfl) ?_
                             refine lv_iload hx hb dX1_judge_145 (lv_at hl 1 rfl) ?_
                             refine jcallS (As := [.int x12, .int x59]) (rest := []) ⟨hx, hb, hml, hown, hts⟩ hK hP hA hS hZ (c_X0_steps l D cI cL ad zz hJ σ67 τ x12 (x12.toInt) rfl x59 (x59.toInt) rfl) cw_RX1_136 ⟨Nat.le_of_ble_eq_true rfl, Nat.le_of_ble_eq_true rfl⟩ rfl rfl rfl hl.1 rfl (Nat.le_of_ble_eq_true rfl) dX1_judge_147 ⟨Nat.zero_le _, Nat.zero_le _⟩ (fun r100 σ99 τ99 H locs h99 hP hS => ?_)
                             obtain ⟨⟨rfl, rfl⟩, w101, h99⟩ := h99
                             have k102 := congrArg Int32.toInt w101
                             have h103 := h99
                             obtain ⟨q105, k104⟩ := h103
                             refine lv_istore (lv' := [(12, .int r100), (11, .int x97), (10, .int x59), (7, .int x17), (6, .int x14), (5, .int x12), (0, .ref (ad 31)), (1, .int a1), (2, .ref (ad 17)), (3, .int a3), (4, .int a4), (8, .int x20), (9, .int x21)]) hx hb dX1_judge_150 hl (of_decide_eq_true rfl) rfl (fun ls hl => ?_)
                             refine lv_iload hx hb dX1_judge_152 (lv_at hl 5 rfl) ?_
                             refine lv_iload hx hb dX1_judge_154 (lv_at hl 2 rfl) ?_
                             refine jcallS (As := [.int x12, .int x59]) (rest := []) ⟨hx, hb, hml, hown, hts⟩ hK hP hA hS hZ (c_X0_left l D cI cL ad zz hJ σ67 τ x12 (x12.toInt) rfl x59 (x59.toInt) rfl) cw_RX1_123 ⟨Nat.le_of_ble_eq_true rfl, Nat.le_of_ble_eq_true rfl⟩ rfl rfl rfl hl.1 rfl (Nat.le_of_ble_eq_true rfl) dX1_judge_156 ⟨Nat.zero_le _, Nat.zero_le _⟩ (fun r107 σ106 τ106 H locs h106 hP hS => ?_)
                             obtain ⟨⟨rfl, rfl⟩, w108, h106⟩ := h106
                             have k109 := congrArg Int32.toInt w108
                             have h110 := h106
                             obtain ⟨q112, k111⟩ := h110
                             refine lv_istore (lv' := [(13, .int r107), (12, .int r100), (11, .int x97), (10, .int x59), (7, .int x17), (6, .int x14), (5, .int x12), (0, .ref (ad 31)), (1, .int a1), (2, .ref (ad 17)), (3, .int a3), (4, .int a4), (8, .int x20), (9, .int x21)]) hx hb dX1_judge_159 hl (of_decide_eq_true rfl) rfl (fun ls hl => ?_)
                             refine lv_iload hx hb dX1_judge_161 (lv_at hl 12 rfl) ?_
                             refine lv_istore (lv' := [(14, .int x20), (13, .int r107), (12, .int r100), (11, .int x97), (10, .int x59), (7, .int x17), (6, .int x14), (5, .int x12), (0, .ref (ad 31)), (1, .int a1), (2, .ref (ad 17)), (3, .int a3), (4, .int a4), (8, .int x20), (9, .int x21)]) hx hb dX1_judge_163 hl (of_decide_eq_true rfl) rfl (fun ls hl => ?_)
                             have lp113 : ∀ (n114 : Nat) (x115 : Int32) (σ119 : Nat → Nat → Int32) (H : Heap) (locs : List Loc) (ls : Array Slot), (-x115.toInt + 20 : Int) < n114 → 0 ≤ x115.toInt → x115.toInt ≤ 12 → (∀ i : Nat, (i < 24 ∨ 25 < i) ∧ (i < 29 ∨ 30 < i) ∧ (i < 34 ∨ 35 < i) → σ119 i = σ67 i) → jN67 σ119 → jBl σ119 → jNz σ119 → jI31 σ119 → jH D cI cL ad σ119 τ H → va_S (jA ad) s.heap H locs → lv_has ls 18 [(14, .int x115), (13, .int r107), (12, .int r100), (11, .int x97), (10, .int x59), (7, .int x17), (6, .int x14), (5, .int x12), (0, .ref (ad 31)), (1, .int a1), (2, .ref (ad 17)), (3, .int a3), (4, .int a4), (8, .int x20), (9, .int x21)] → W p l e ({ frames := 3, cells := 0, slots := 0, locals := 76 }) s m args below meth c H locs 0 0 Q (F0 m 165 ls []) := by
                               intro n114
                               induction n114 with
                               | zero => intro x115 σ119 H locs ls h121 h122 h123; exact absurd h121 (by omega)
                               | succ n114 ihlp113 =>
                                 intro x115 σ119 H locs ls h121 h122 h123 f124 p125 p126 p127 p128 hP hS hl
                                 exact by
                                  obtain ⟨i129, i130, i131, i132, w133, w134, w135⟩ : (0 ≤ (σ119 31 8).toInt ∧ (σ119 31 8).toInt ≤ 350) ∧ (0 ≤ (σ119 31 10).toInt ∧ (σ119 31 10).toInt ≤ 12) ∧ (0 ≤ (σ119 31 11).toInt ∧ (σ119 31 11).toInt ≤ 8) ∧ ((σ119 31 10).toInt + (σ119 31 11).toInt ≤ 12) ∧ (∀ k : Nat, k < 1400 → (-1) ≤ (σ119 33 k).toInt ∧ (σ119 33 k).toInt ≤ 350) ∧ (∀ k : Nat, k < 3159 → (-1) ≤ (σ119 35 k).toInt ∧ (σ119 35 k).toInt ≤ 3) ∧ (∀ k : Nat, k < 1024 → 0 ≤ (σ119 36 k).toInt ∧ (σ119 36 k).toInt ≤ 349) := id p128
                                  have z136 : (σ119 31 8).toInt = (σ 31 8).toInt := (congrArg Int32.toInt (show σ119 31 8 = (σ 31 8) from ((congrFun (f124 31 (of_decide_eq_true rfl)) 8).trans ((congrFun (f75 31 (of_decide_eq_true rfl)) 8).trans ((congrFun (jnp 31 eσ55 (of_decide_eq_true rfl)) 8).trans (congrFun (f38 31 (of_decide_eq_true rfl)) 8))))))
                                  have z137 : (σ119 31 10).toInt = (σ 31 10).toInt := (congrArg Int32.toInt (show σ119 31 10 = (σ 31 10) from ((congrFun (f124 31 (of_decide_eq_true rfl)) 10).trans ((congrFun (f75 31 (of_decide_eq_true rfl)) 10).trans ((congrFun (jnp 31 eσ55 (of_decide_eq_true rfl)) 10).trans (congrFun (f38 31 (of_decide_eq_true rfl)) 10))))))
                                  have z138 : (σ119 31 11).toInt = (σ 31 11).toInt := (congrArg Int32.toInt (show σ119 31 11 = (σ 31 11) from ((congrFun (f124 31 (of_decide_eq_true rfl)) 11).trans ((congrFun (f75 31 (of_decide_eq_true rfl)) 11).trans ((congrFun (jnp 31 eσ55 (of_decide_eq_true rfl)) 11).trans (congrFun (f38 31 (of_decide_eq_true rfl)) 11))))))
                                  refine lv_iload hx hb dX1_judge_165 (lv_at hl 0 rfl) ?_
                                  refine lv_iload hx hb dX1_judge_167 (lv_at hl 14 rfl) ?_
                                  refine lv_icmp_gt (tgt := 310) hx hb dX1_judge_169 (of_decide_eq_true rfl) (fun c139 => ?_) (fun c139 => ?_)
                                  · have kc139 := jlt c139 rfl rfl
                                    obtain ⟨x140, ex140⟩ : ∃ y : Int32, y = x59 + 1 := ⟨_, rfl⟩
                                    exact by
                                     have tx140 : x140.toInt = x59.toInt + 1 := (jadd ex140 rfl jz_1 (by omega) (by omega)).trans (by omega)
                                     refine lv_iinc (v := x140) (lv' := [(10, .int x140), (14, .int x115), (13, .int r107), (12, .int r100), (11, .int x97), (7, .int x17), (6, .int x14), (5, .int x12), (0, .ref (ad 31)), (1, .int a1), (2, .ref (ad 17)), (3, .int a3), (4, .int a4), (8, .int x20), (9, .int x21)]) hx hb dX1_judge_310 hl (k := 4) rfl (by rw [ex140]; rfl) (of_decide_eq_true rfl) rfl (fun ls hl => ?_)
                                     refine lv_goto (tgt := 113) hx hb dX1_judge_313 (of_decide_eq_true rfl) ?_
                                     exact by exact ihlp57 x140 σ119 _ _ ls (by have h90 := tx140; omega) (by have h90 := tx140; omega) (by have h90 := tx140; omega) (fun i hi => ((f124 i hi).trans (f75 i hi)))   p125 p126 p127 p128 hP hS (lv_sub hl [0, 5, 6, 7, 8, 9, 10, 11, 12, 13, 14] rfl)
                                  · have kc139 := jnlt c139 rfl rfl
                                    refine lv_aload_n hx hb dX1_judge_172 rfl (lv_at hl 8 rfl) ?_
                                    refine va_get (D := D) hx hb hts inlX1 hown hK hP 31 (jc_31 cI cL ad σ119 τ) rfl 0 (of_decide_eq_true rfl) (hts _ kw_5_10) (fun _ h9 => h9) rfl dX1_judge_173 ?_
                                    refine lv_iload hx hb dX1_judge_176 (lv_at hl 4 rfl) ?_
                                    refine lv_aload_n hx hb dX1_judge_178 rfl (lv_at hl 10 rfl) ?_
                                    exact by
                                     refine lv_iload hx hb dX1_judge_179 (lv_at hl 0 rfl) ?_
                                     refine jald hx hb hK hP (jc_17 cI cL ad σ119 τ) (jin rfl (by omega) (by omega)) dX1_judge_181 ?_
                                     have w141 : ∀ k : Nat, k < 8 → 0 ≤ (σ119 17 k).toInt ∧ (σ119 17 k).toInt ≤ 3 := (jrr_fr (f124 17 (of_decide_eq_true rfl)) (jrr_fr (f75 17 (of_decide_eq_true rfl)) (jrr_fr (jnp 17 eσ55 (of_decide_eq_true rfl)) (jrr_fr (f38 17 (of_decide_eq_true rfl)) w4))))
                                     have g142 := w141 _ (jnat (x := x115) rfl (n := 8) (by omega) (of_decide_eq_true rfl))
                                     refine jtopr (y := (σ 17 x115.toNatClampNeg)) (by rw [f124 17 (of_decide_eq_true rfl), f75 17 (of_decide_eq_true rfl), jnp 17 eσ55 (of_decide_eq_true rfl), f38 17 (of_decide_eq_true rfl)]) ?_
                                     rw [f124 17 (of_decide_eq_true rfl), f75 17 (of_decide_eq_true rfl), jnp 17 eσ55 (of_decide_eq_true rfl), f38 17 (of_decide_eq_true rfl)] at g142
                                     refine lv_iload hx hb dX1_judge_182 (lv_at hl 2 rfl) ?_
                                     refine jcallV (As := [.int x59, .int (σ 17 x115.toNatClampNeg), .int r100]) (rest := []) ⟨hx, hb, hml, hown, hts⟩ hK hP hA hS hZ (c_X5_runsOf_26 l D cI cL ad zz hJ σ119 τ x59 (x59.toInt) rfl (σ 17 x115.toNatClampNeg) ((σ 17 x115.toNatClampNeg).toInt) rfl r100 (r100.toInt) rfl (by omega) (by omega) (by omega)) cw_RX1_139 (jc_26 cI cL ad σ119 τ) rfl ⟨Nat.le_of_ble_eq_true rfl, Nat.le_of_ble_eq_true rfl⟩ rfl rfl rfl hl.1 rfl (Nat.le_of_ble_eq_true rfl) dX1_judge_184 ⟨Nat.zero_le _, Nat.zero_le _⟩ (fun r144 σ143 τ143 H locs h143 hP hS => ?_)
                                     obtain ⟨⟨rfl, rfl⟩, w145, h143⟩ := h143
                                     exact by
                                      refine lv_istore (lv' := [(15, .int r144), (14, .int x115), (13, .int r107), (12, .int r100), (11, .int x97), (10, .int x59), (7, .int x17), (6, .int x14), (5, .int x12), (0, .ref (ad 31)), (1, .int a1), (2, .ref (ad 17)), (3, .int a3), (4, .int a4), (8, .int x20), (9, .int x21)]) hx hb dX1_judge_187 hl (of_decide_eq_true rfl) rfl (fun ls hl => ?_)
                                      refine lv_aload_n hx hb dX1_judge_189 rfl (lv_at hl 9 rfl) ?_
                                      refine va_get (D := D) hx hb hts inlX1 hown hK hP 31 (jc_31 cI cL ad σ119 τ) rfl 0 (of_decide_eq_true rfl) (hts _ kw_5_10) (fun _ h9 => h9) rfl dX1_judge_190 ?_
                                      refine lv_iload hx hb dX1_judge_193 (lv_at hl 5 rfl) ?_
                                      refine lv_aload_n hx hb dX1_judge_195 rfl (lv_at hl 11 rfl) ?_
                                      refine lv_iload hx hb dX1_judge_196 (lv_at hl 1 rfl) ?_
                                      refine jald hx hb hK hP (jc_17 cI cL ad σ119 τ) (jin rfl (by omega) (by omega)) dX1_judge_198 ?_
                                      refine jtopr (y := (σ 17 x115.toNatClampNeg)) (by rw [f124 17 (of_decide_eq_true rfl), f75 17 (of_decide_eq_true rfl), jnp 17 eσ55 (of_decide_eq_true rfl), f38 17 (of_decide_eq_true rfl)]) ?_
                                      refine lv_iload hx hb dX1_judge_199 (lv_at hl 3 rfl) ?_
                                      exact by
                                       refine lv_iload hx hb dX1_judge_201 (lv_at hl 2 rfl) ?_
                                       refine lv_aload_n hx hb dX1_judge_203 rfl (lv_at hl 9 rfl) ?_
                                       refine va_get (D := D) hx hb hts inlX1 hown hK hP 31 (jc_31 cI cL ad σ119 τ) rfl 10 (of_decide_eq_true rfl) (hts _ kw_28_9) (fun _ h9 => h9) rfl dX1_judge_204 ?_
                                       have m146 : σ119 31 10 = (σ 31 10) := ((congrFun (f124 31 (of_decide_eq_true rfl)) 10).trans ((congrFun (f75 31 (of_decide_eq_true rfl)) 10).trans ((congrFun (jnp 31 eσ55 (of_decide_eq_true rfl)) 10).trans (congrFun (f38 31 (of_decide_eq_true rfl)) 10))))
                                       refine jtopr m146 ?_
                                       refine lv_iload hx hb dX1_judge_207 (lv_at hl 7 rfl) ?_
                                       have g147 := jrg (rfl : (σ 31 10).toInt = (σ 31 10).toInt)
                                       have g148 := jrg (rfl : x14.toInt = x14.toInt)
                                       refine lv_iadd hx hb dX1_judge_209 ?_
                                       refine lv_topi (fun x149 ex149 => ?_)
                                       exact by
                                        have tx149 : x149.toInt = (σ 31 10).toInt + x14.toInt := (jadd ex149 rfl rfl (by omega) (by omega)).trans (by omega)
                                        refine lv_iload hx hb dX1_judge_210 (lv_at hl 1 rfl) ?_
                                        have I150 : jI22 σ119 := jI22_fr ((congrFun (f124 22 (of_decide_eq_true rfl)) 0).trans ((congrFun (f75 22 (of_decide_eq_true rfl)) 0).trans ((congrFun (jnp 22 eσ55 (of_decide_eq_true rfl)) 0).trans (congrFun (f38 22 (of_decide_eq_true rfl)) 0)))) ((f124 23 (of_decide_eq_true rfl)).trans ((f75 23 (of_decide_eq_true rfl)).trans ((jnp 23 eσ55 (of_decide_eq_true rfl)).trans (f38 23 (of_decide_eq_true rfl))))) hI22
                                        have I151 : jI26 σ119 := jI26_fr ((congrFun (f124 26 (of_decide_eq_true rfl)) 6).trans ((congrFun (f75 26 (of_decide_eq_true rfl)) 6).trans ((congrFun (jnp 26 eσ55 (of_decide_eq_true rfl)) 6).trans (congrFun (f38 26 (of_decide_eq_true rfl)) 6)))) hI26
                                        refine jcallV (As := [.int x59, .int (σ 17 x115.toNatClampNeg), .int r100, .int r107, .int x149, .int x115]) (rest := []) ⟨hx, hb, hml, hown, hts⟩ hK hP hA hS hZ (c_X5_outOf_26 l D cI cL ad zz hJ σ119 τ x59 (x59.toInt) rfl (σ 17 x115.toNatClampNeg) ((σ 17 x115.toNatClampNeg).toInt) rfl r100 (r100.toInt) rfl r107 (r107.toInt) rfl x149 ((σ 31 10).toInt + x14.toInt) tx149 x115 (x115.toInt) rfl I150 I151 p125 p126 (by omega) (by omega) (by omega) (by omega) (by omega) (by omega)) cw_RX1_142 (jc_26 cI cL ad σ119 τ) rfl ⟨Nat.le_of_ble_eq_true rfl, Nat.le_of_ble_eq_true rfl⟩ rfl rfl rfl hl.1 rfl (Nat.le_of_ble_eq_true rfl) dX1_judge_212 ⟨Nat.zero_le _, Nat.zero_le _⟩ (fun r153 σ152 τ152 H locs h152 hP hS => ?_)
                                        obtain ⟨rfl, f154, p155, p156, w157, h152⟩ := h152
                                        refine lv_istore (lv' := [(16, .int r153), (15, .int r144), (14, .int x115), (13, .int r107), (12, .int r100), (11, .int x97), (10, .int x59), (7, .int x17), (6, .int x14), (5, .int x12), (0, .ref (ad 31)), (1, .int a1), (2, .ref (ad 17)), (3, .int a3), (4, .int a4), (8, .int x20), (9, .int x21)]) hx hb dX1_judge_215 hl (of_decide_eq_true rfl) rfl (fun ls hl => ?_)
                                        refine lv_aload_n hx hb dX1_judge_217 rfl (lv_at hl 10 rfl) ?_
                                        refine va_get (D := D) hx hb hts inlX1 hown hK hP 31 (jc_31 cI cL ad σ152 τ) rfl 1 (of_decide_eq_true rfl) (hts _ kw_5_11) (fun _ h9 => h9) rfl dX1_judge_218 ?_
                                        exact by
                                         refine lv_iload hx hb dX1_judge_221 (lv_at hl 1 rfl) ?_
                                         refine lv_iload hx hb dX1_judge_223 (lv_at hl 0 rfl) ?_
                                         refine lv_aload_n hx hb dX1_judge_225 rfl (lv_at hl 10 rfl) ?_
                                         refine va_get (D := D) hx hb hts inlX1 hown hK hP 31 (jc_31 cI cL ad σ152 τ) rfl 4 (of_decide_eq_true rfl) (hts _ kw_5_5) (fun _ h9 => h9) rfl dX1_judge_226 ?_
                                         refine lv_iload hx hb dX1_judge_229 (lv_at hl 5 rfl) ?_
                                         refine lv_iload hx hb dX1_judge_231 (lv_at hl 2 rfl) ?_
                                         have g159 := jrg (rfl : x115.toInt = x115.toInt)
                                         refine lv_iadd hx hb dX1_judge_233 ?_
                                         refine lv_topi (fun x160 ex160 => ?_)
                                         exact by
                                          have tx160 : x160.toInt = 9 * (σ 33 x94.toNatClampNeg).toInt + x115.toInt := (jadd ex160 tx97 rfl (by omega) (by omega)).trans (by omega)
                                          refine lv_iconst (v := 1) hx hb dX1_judge_234 (of_decide_eq_true rfl) ?_
                                          refine lv_iadd hx hb dX1_judge_235 ?_
                                          refine lv_topi (fun x161 ex161 => ?_)
                                          have tx161 : x161.toInt = 9 * (σ 33 x94.toNatClampNeg).toInt + x115.toInt + 1 := (jadd ex161 tx160 jz_1 (by omega) (by omega)).trans (by omega)
                                          refine jald hx hb hK hP (jc_34 cI cL ad σ152 τ) (jin tx161 (by omega) (by omega)) dX1_judge_236 ?_
                                          refine jtopr (y := (σ119 34 x161.toNatClampNeg)) (by rw [f154 34 (of_decide_eq_true rfl)]) ?_
                                          refine lv_aload_n hx hb dX1_judge_237 rfl (lv_at hl 10 rfl) ?_
                                          refine va_get (D := D) hx hb hts inlX1 hown hK hP 31 (jc_31 cI cL ad σ152 τ) rfl 4 (of_decide_eq_true rfl) (hts _ kw_5_5) (fun _ h9 => h9) rfl dX1_judge_238 ?_
                                          exact by
                                           refine lv_iload hx hb dX1_judge_241 (lv_at hl 5 rfl) ?_
                                           refine lv_iload hx hb dX1_judge_243 (lv_at hl 2 rfl) ?_
                                           refine lv_iadd hx hb dX1_judge_245 ?_
                                           refine lv_topi (fun x162 ex162 => ?_)
                                           have tx162 : x162.toInt = 9 * (σ 33 x94.toNatClampNeg).toInt + x115.toInt := (jadd ex162 tx97 rfl (by omega) (by omega)).trans (by omega)
                                           refine jald hx hb hK hP (jc_34 cI cL ad σ152 τ) (jin tx162 (by omega) (by omega)) dX1_judge_246 ?_
                                           refine jtopr (y := (σ119 34 x162.toNatClampNeg)) (by rw [f154 34 (of_decide_eq_true rfl)]) ?_
                                           refine jcallV (As := [.int r144, .int r153, .int (σ119 34 x161.toNatClampNeg), .int (σ119 34 x162.toNatClampNeg)]) (rest := []) ⟨hx, hb, hml, hown, hts⟩ hK hP hA hS hZ (c_X6_meanOf_16 l D cI cL ad zz hJ σ152 τ r144 (r144.toInt) rfl r153 (r153.toInt) rfl (σ119 34 x161.toNatClampNeg) ((σ119 34 x161.toNatClampNeg).toInt) rfl (σ119 34 x162.toNatClampNeg) ((σ119 34 x162.toNatClampNeg).toInt) rfl) cw_RX1_146 (jc_16 cI cL ad σ152 τ) rfl ⟨Nat.le_of_ble_eq_true rfl, Nat.le_of_ble_eq_true rfl⟩ rfl rfl rfl hl.1 rfl (Nat.le_of_ble_eq_true rfl) dX1_judge_247 ⟨Nat.zero_le _, Nat.zero_le _⟩ (fun r164 σ163 τ163 H locs h163 hP hS => ?_)
                                           obtain ⟨⟨rfl, rfl⟩, w165, h163⟩ := h163
                                           exact by
                                            refine lv_istore (lv' := [(17, .int r164), (16, .int r153), (15, .int r144), (14, .int x115), (13, .int r107), (12, .int r100), (11, .int x97), (10, .int x59), (7, .int x17), (6, .int x14), (5, .int x12), (0, .ref (ad 31)), (1, .int a1), (2, .ref (ad 17)), (3, .int a3), (4, .int a4), (8, .int x20), (9, .int x21)]) hx hb dX1_judge_250 hl (of_decide_eq_true rfl) rfl (fun ls hl => ?_)
                                            refine lv_aload_n hx hb dX1_judge_252 rfl (lv_at hl 11 rfl) ?_
                                            refine va_get (D := D) hx hb hts inlX1 hown hK hP 31 (jc_31 cI cL ad σ152 τ) rfl 5 (of_decide_eq_true rfl) (hts _ kw_5_6) (fun _ h9 => h9) rfl dX1_judge_253 ?_
                                            refine lv_iload hx hb dX1_judge_256 (lv_at hl 8 rfl) ?_
                                            refine lv_iload hx hb dX1_judge_258 (lv_at hl 3 rfl) ?_
                                            refine lv_iadd hx hb dX1_judge_260 ?_
                                            refine lv_topi (fun x166 ex166 => ?_)
                                            have tx166 : x166.toInt = 9 * A1 + x115.toInt := (jadd ex166 tx17 rfl (by omega) (by omega)).trans (by omega)
                                            refine jald hx hb hK hP (jc_35 cI cL ad σ152 τ) (jin tx166 (by omega) (by omega)) dX1_judge_261 ?_
                                            exact by
                                             have w167 : ∀ k : Nat, k < 3159 → (-1) ≤ (σ152 35 k).toInt ∧ (σ152 35 k).toInt ≤ 3 := (jrr_fr (f154 35 (of_decide_eq_true rfl)) w134)
                                             have g168 := w167 _ (jnat (x := x166) tx166 (n := 3159) (by omega) (of_decide_eq_true rfl))
                                             refine jtopr (y := (σ119 35 x166.toNatClampNeg)) (by rw [f154 35 (of_decide_eq_true rfl)]) ?_
                                             rw [f154 35 (of_decide_eq_true rfl)] at g168
                                             refine lv_if_lt (tgt := 280) hx hb dX1_judge_262 (of_decide_eq_true rfl) (fun c169 => ?_) (fun c169 => ?_)
                                             · have kc169 := jlt c169 rfl jz_0
                                               refine lv_aload_n hx hb dX1_judge_280 rfl (lv_at hl 11 rfl) ?_
                                               refine va_get (D := D) hx hb hts inlX1 hown hK hP 31 (jc_31 cI cL ad σ152 τ) rfl 4 (of_decide_eq_true rfl) (hts _ kw_5_5) (fun _ h9 => h9) rfl dX1_judge_281 ?_
                                               refine lv_iload hx hb dX1_judge_284 (lv_at hl 8 rfl) ?_
                                               exact by
                                                refine lv_iload hx hb dX1_judge_286 (lv_at hl 3 rfl) ?_
                                                refine lv_iadd hx hb dX1_judge_288 ?_
                                                refine lv_topi (fun x170 ex170 => ?_)
                                                have tx170 : x170.toInt = 9 * A1 + x115.toInt := (jadd ex170 tx17 rfl (by omega) (by omega)).trans (by omega)
                                                refine lv_iload hx hb dX1_judge_289 (lv_at hl 0 rfl) ?_
                                                refine jast hx hb hK hP hJ hA hS (jc_34 cI cL ad σ152 τ) (ja_34 cI cL ad σ152 τ _ _) (jin tx170 (by omega) (by omega)) dX1_judge_291 (fun σ171 H locs eσ171 hP hS => ?_)
                                                have p172 : jNz σ152 := jNz.fr (f154 34 (of_decide_eq_true rfl)) p127
                                                have p173 : jNz σ171 := (jNz.put p172 eσ171 (jnat (x := x170) tx170 (n := 3150) (by omega) (of_decide_eq_true rfl)))
                                                refine lv_aload_n hx hb dX1_judge_292 rfl (lv_at hl 11 rfl) ?_
                                                exact by
                                                 refine va_get (D := D) hx hb hts inlX1 hown hK hP 31 (jc_31 cI cL ad σ171 τ) rfl 5 (of_decide_eq_true rfl) (hts _ kw_5_6) (fun _ h9 => h9) rfl dX1_judge_293 ?_
                                                 refine lv_iload hx hb dX1_judge_296 (lv_at hl 8 rfl) ?_
                                                 refine lv_iload hx hb dX1_judge_298 (lv_at hl 3 rfl) ?_
                                                 refine lv_iadd hx hb dX1_judge_300 ?_
                                                 refine lv_topi (fun x174 ex174 => ?_)
                                                 have tx174 : x174.toInt = 9 * A1 + x115.toInt := (jadd ex174 tx17 rfl (by omega) (by omega)).trans (by omega)
                                                 refine lv_iload hx hb dX1_judge_301 (lv_at hl 7 rfl) ?_
                                                 refine jast hx hb hK hP hJ hA hS (jc_35 cI cL ad σ171 τ) (ja_35 cI cL ad σ171 τ _ _) (jin tx174 (by omega) (by omega)) dX1_judge_303 (fun σ175 H locs eσ175 hP hS => ?_)
                                                 obtain ⟨x176, ex176⟩ : ∃ y : Int32, y = x115 + 1 := ⟨_, rfl⟩
                                                 exact by
                                                  have tx176 : x176.toInt = x115.toInt + 1 := (jadd ex176 rfl jz_1 (by omega) (by omega)).trans (by omega)
                                                  refine lv_iinc (v := x176) (lv' := [(14, .int x176), (17, .int r164), (16, .int r153), (15, .int r144), (13, .int r107), (12, .int r100), (11, .int x97), (10, .int x59), (7, .int x17), (6, .int x14), (5, .int x12), (0, .ref (ad 31)), (1, .int a1), (2, .ref (ad 17)), (3, .int a3), (4, .int a4), (8, .int x20), (9, .int x21)]) hx hb dX1_judge_304 hl (k := 3) rfl (by rw [ex176]; rfl) (of_decide_eq_true rfl) rfl (fun ls hl => ?_)
                                                  refine lv_goto (tgt := 165) hx hb dX1_judge_307 (of_decide_eq_true rfl) ?_
                                                  have p177 : jN67 σ175 := jN67.fr ((jnp 24 eσ175 (of_decide_eq_true rfl)).trans (jnp 24 eσ171 (of_decide_eq_true rfl))) p155
                                                  have p178 : jBl σ175 := jBl.fr ((congrFun (jnp 22 eσ175 (of_decide_eq_true rfl)) 0).trans (congrFun (jnp 22 eσ171 (of_decide_eq_true rfl)) 0)) ((congrFun (jnp 22 eσ175 (of_decide_eq_true rfl)) 1).trans (congrFun (jnp 22 eσ171 (of_decide_eq_true rfl)) 1)) ((jnp 23 eσ175 (of_decide_eq_true rfl)).trans (jnp 23 eσ171 (of_decide_eq_true rfl))) ((congrFun (jnp 26 eσ175 (of_decide_eq_true rfl)) 6).trans (congrFun (jnp 26 eσ171 (of_decide_eq_true rfl)) 6)) ((congrFun (jnp 26 eσ175 (of_decide_eq_true rfl)) 7).trans (congrFun (jnp 26 eσ171 (of_decide_eq_true rfl)) 7)) ((jnp 29 eσ175 (of_decide_eq_true rfl)).trans (jnp 29 eσ171 (of_decide_eq_true rfl))) ((jnp 30 eσ175 (of_decide_eq_true rfl)).trans (jnp 30 eσ171 (of_decide_eq_true rfl))) p156
                                                  have p179 : jNz σ175 := jNz.fr (jnp 34 eσ175 (of_decide_eq_true rfl)) p173
                                                  have z180 : (σ175 31 8).toInt = (σ 31 8).toInt := (congrArg Int32.toInt (show σ175 31 8 = (σ 31 8) from ((congrFun (jnp 31 eσ175 (of_decide_eq_true rfl)) 8).trans ((congrFun (jnp 31 eσ171 (of_decide_eq_true rfl)) 8).trans ((congrFun (f154 31 (of_decide_eq_true rfl)) 8).trans ((congrFun (f124 31 (of_decide_eq_true rfl)) 8).trans ((congrFun (f75 31 (of_decide_eq_true rfl)) 8).trans ((congrFun (jnp 31 eσ55 (of_decide_eq_true rfl)) 8).trans (congrFun (f38 31 (of_decide_eq_true rfl)) 8)))))))))
                                                  have z181 : (σ175 31 10).toInt = (σ 31 10).toInt := (congrArg Int32.toInt (show σ175 31 10 = (σ 31 10) from ((congrFun (jnp 31 eσ175 (of_decide_eq_true rfl)) 10).trans ((congrFun (jnp 31 eσ171 (of_decide_eq_true rfl)) 10).trans ((congrFun (f154 31 (of_decide_eq_true rfl)) 10).trans m146)))))
                                                  have z182 : (σ175 31 11).toInt = (σ 31 11).toInt := (congrArg Int32.toInt (show σ175 31 11 = (σ 31 11) from ((congrFun (jnp 31 eσ175 (of_decide_eq_true rfl)) 11).trans ((congrFun (jnp 31 eσ171 (of_decide_eq_true rfl)) 11).trans ((congrFun (f154 31 (of_decide_eq_true rfl)) 11).trans ((congrFun (f124 31 (of_decide_eq_true rfl)) 11).trans ((congrFun (f75 31 (of_decide_eq_true rfl)) 11).trans ((congrFun (jnp 31 eσ55 (of_decide_eq_true rfl)) 11).trans (congrFun (f38 31 (of_decide_eq_true rfl)) 11)))))))))
                                                  exact by
                                                   have w183 : ∀ k : Nat, k < 1400 → (-1) ≤ (σ175 33 k).toInt ∧ (σ175 33 k).toInt ≤ 350 := (jrr_fr (jnp 33 eσ175 (of_decide_eq_true rfl)) (jrr_fr (jnp 33 eσ171 (of_decide_eq_true rfl)) (jrr_fr (f154 33 (of_decide_eq_true rfl)) w133)))
                                                   have w184 : ∀ k : Nat, k < 3159 → (-1) ≤ (σ175 35 k).toInt ∧ (σ175 35 k).toInt ≤ 3 := (by rw [eσ175]; exact jrr_up (jrr_fr (jnp 35 eσ171 (of_decide_eq_true rfl)) w167) (by omega) (by omega))
                                                   have w185 : ∀ k : Nat, k < 1024 → 0 ≤ (σ175 36 k).toInt ∧ (σ175 36 k).toInt ≤ 349 := (jrr_fr (jnp 36 eσ175 (of_decide_eq_true rfl)) (jrr_fr (jnp 36 eσ171 (of_decide_eq_true rfl)) (jrr_fr (f154 36 (of_decide_eq_true rfl)) w135)))
                                                   have I186 : jI31 σ175 := ⟨(by omega), (by omega), (by omega), (by omega), w183, w184, w185⟩
                                                   exact by exact ihlp113 x176 σ175 _ _ ls (by have h90 := tx176; omega) (by have h90 := tx176; omega) (by have h90 := tx176; omega) (fun i hi => ((jnp i eσ175 (imp_97 i hi)).trans ((jnp i eσ171 (imp_95 i hi)).trans ((f154 i (imp_98 i hi)).trans (f124 i hi)))))   p177 p178 p179 I186 hP hS (lv_sub hl [0, 4, 5, 6, 7, 8, 9, 10, 11, 12, 13, 14, 15, 16, 17] rfl)
                                             · have kc169 := jnlt c169 rfl jz_0
                                               refine lv_iload hx hb dX1_judge_265 (lv_at hl 0 rfl) ?_
                                               refine lv_aload_n hx hb dX1_judge_267 rfl (lv_at hl 11 rfl) ?_
                                               refine va_get (D := D) hx hb hts inlX1 hown hK hP 31 (jc_31 cI cL ad σ152 τ) rfl 4 (of_decide_eq_true rfl) (hts _ kw_5_5) (fun _ h9 => h9) rfl dX1_judge_268 ?_
                                               exact by
                                                refine lv_iload hx hb dX1_judge_271 (lv_at hl 8 rfl) ?_
                                                refine lv_iload hx hb dX1_judge_273 (lv_at hl 3 rfl) ?_
                                                refine lv_iadd hx hb dX1_judge_275 ?_
                                                refine lv_topi (fun x187 ex187 => ?_)
                                                have tx187 : x187.toInt = 9 * A1 + x115.toInt := (jadd ex187 tx17 rfl (by omega) (by omega)).trans (by omega)
                                                refine jald hx hb hK hP (jc_34 cI cL ad σ152 τ) (jin tx187 (by omega) (by omega)) dX1_judge_276 ?_
                                                refine jtopr (y := (σ119 34 x187.toNatClampNeg)) (by rw [f154 34 (of_decide_eq_true rfl)]) ?_
                                                refine lv_icmp_ge (tgt := 304) hx hb dX1_judge_277 (of_decide_eq_true rfl) (fun c188 => ?_) (fun c188 => ?_)
                                                · have kc188 := jle c188 rfl rfl
                                                  exact by
                                                   obtain ⟨x189, ex189⟩ : ∃ y : Int32, y = x115 + 1 := ⟨_, rfl⟩
                                                   have tx189 : x189.toInt = x115.toInt + 1 := (jadd ex189 rfl jz_1 (by omega) (by omega)).trans (by omega)
                                                   refine lv_iinc (v := x189) (lv' := [(14, .int x189), (17, .int r164), (16, .int r153), (15, .int r144), (13, .int r107), (12, .int r100), (11, .int x97), (10, .int x59), (7, .int x17), (6, .int x14), (5, .int x12), (0, .ref (ad 31)), (1, .int a1), (2, .ref (ad 17)), (3, .int a3), (4, .int a4), (8, .int x20), (9, .int x21)]) hx hb dX1_judge_304 hl (k := 3) rfl (by rw [ex189]; rfl) (of_decide_eq_true rfl) rfl (fun ls hl => ?_)
                                                   refine lv_goto (tgt := 165) hx hb dX1_judge_307 (of_decide_eq_true rfl) ?_
                                                   have p190 : jNz σ152 := jNz.fr (f154 34 (of_decide_eq_true rfl)) p127
                                                   have I191 : jI31 σ152 := jI31_fr (congrFun (f154 31 (of_decide_eq_true rfl)) 8) (congrFun (f154 31 (of_decide_eq_true rfl)) 10) (congrFun (f154 31 (of_decide_eq_true rfl)) 11) (f154 33 (of_decide_eq_true rfl)) (f154 35 (of_decide_eq_true rfl)) (f154 36 (of_decide_eq_true rfl)) p128
                                                   exact by exact ihlp113 x189 σ152 _ _ ls (by have h90 := tx189; omega) (by have h90 := tx189; omega) (by have h90 := tx189; omega) (fun i hi => ((f154 i (imp_98 i hi)).trans (f124 i hi)))   p155 p156 p190 I191 hP hS (lv_sub hl [0, 4, 5, 6, 7, 8, 9, 10, 11, 12, 13, 14, 15, 16, 17] rfl)
                                                · have kc188 := jnle c188 rfl rfl
                                                  refine lv_aload_n hx hb dX1_judge_280 rfl (lv_at hl 11 rfl) ?_
                                                  exact by
                                                   refine va_get (D := D) hx hb hts inlX1 hown hK hP 31 (jc_31 cI cL ad σ152 τ) rfl 4 (of_decide_eq_true rfl) (hts _ kw_5_5) (fun _ h9 => h9) rfl dX1_judge_281 ?_
                                                   refine lv_iload hx hb dX1_judge_284 (lv_at hl 8 rfl) ?_
                                                   refine lv_iload hx hb dX1_judge_286 (lv_at hl 3 rfl) ?_
                                                   refine lv_iadd hx hb dX1_judge_288 ?_
                                                   refine lv_topi (fun x192 ex192 => ?_)
                                                   have tx192 : x192.toInt = 9 * A1 + x115.toInt := (jadd ex192 tx17 rfl (by omega) (by omega)).trans (by omega)
                                                   refine lv_iload hx hb dX1_judge_289 (lv_at hl 0 rfl) ?_
                                                   refine jast hx hb hK hP hJ hA hS (jc_34 cI cL ad σ152 τ) (ja_34 cI cL ad σ152 τ _ _) (jin tx192 (by omega) (by omega)) dX1_judge_291 (fun σ193 H locs eσ193 hP hS => ?_)
                                                   have p194 : jNz σ152 := jNz.fr (f154 34 (of_decide_eq_true rfl)) p127
                                                   exact by
                                                    have p195 : jNz σ193 := (jNz.put p194 eσ193 (jnat (x := x192) tx192 (n := 3150) (by omega) (of_decide_eq_true rfl)))
                                                    refine lv_aload_n hx hb dX1_judge_292 rfl (lv_at hl 11 rfl) ?_
                                                    refine va_get (D := D) hx hb hts inlX1 hown hK hP 31 (jc_31 cI cL ad σ193 τ) rfl 5 (of_decide_eq_true rfl) (hts _ kw_5_6) (fun _ h9 => h9) rfl dX1_judge_293 ?_
                                                    refine lv_iload hx hb dX1_judge_296 (lv_at hl 8 rfl) ?_
                                                    refine lv_iload hx hb dX1_judge_298 (lv_at hl 3 rfl) ?_
                                                    refine lv_iadd hx hb dX1_judge_300 ?_
                                                    refine lv_topi (fun x196 ex196 => ?_)
                                                    have tx196 : x196.toInt = 9 * A1 + x115.toInt := (jadd ex196 tx17 rfl (by omega) (by omega)).trans (by omega)
                                                    refine lv_iload hx hb dX1_judge_301 (lv_at hl 7 rfl) ?_
                                                    exact by
                                                     refine jast hx hb hK hP hJ hA hS (jc_35 cI cL ad σ193 τ) (ja_35 cI cL ad σ193 τ _ _) (jin tx196 (by omega) (by omega)) dX1_judge_303 (fun σ197 H locs eσ197 hP hS => ?_)
                                                     obtain ⟨x198, ex198⟩ : ∃ y : Int32, y = x115 + 1 := ⟨_, rfl⟩
                                                     have tx198 : x198.toInt = x115.toInt + 1 := (jadd ex198 rfl jz_1 (by omega) (by omega)).trans (by omega)
                                                     refine lv_iinc (v := x198) (lv' := [(14, .int x198), (17, .int r164), (16, .int r153), (15, .int r144), (13, .int r107), (12, .int r100), (11, .int x97), (10, .int x59), (7, .int x17), (6, .int x14), (5, .int x12), (0, .ref (ad 31)), (1, .int a1), (2, .ref (ad 17)), (3, .int a3), (4, .int a4), (8, .int x20), (9, .int x21)]) hx hb dX1_judge_304 hl (k := 3) rfl (by rw [ex198]; rfl) (of_decide_eq_true rfl) rfl (fun ls hl => ?_)
                                                     refine lv_goto (tgt := 165) hx hb dX1_judge_307 (of_decide_eq_true rfl) ?_
                                                     have p199 : jN67 σ197 := jN67.fr ((jnp 24 eσ197 (of_decide_eq_true rfl)).trans (jnp 24 eσ193 (of_decide_eq_true rfl))) p155
                                                     have p200 : jBl σ197 := jBl.fr ((congrFun (jnp 22 eσ197 (of_decide_eq_true rfl)) 0).trans (congrFun (jnp 22 eσ193 (of_decide_eq_true rfl)) 0)) ((congrFun (jnp 22 eσ197 (of_decide_eq_true rfl)) 1).trans (congrFun (jnp 22 eσ193 (of_decide_eq_true rfl)) 1)) ((jnp 23 eσ197 (of_decide_eq_true rfl)).trans (jnp 23 eσ193 (of_decide_eq_true rfl))) ((congrFun (jnp 26 eσ197 (of_decide_eq_true rfl)) 6).trans (congrFun (jnp 26 eσ193 (of_decide_eq_true rfl)) 6)) ((congrFun (jnp 26 eσ197 (of_decide_eq_true rfl)) 7).trans (congrFun (jnp 26 eσ193 (of_decide_eq_true rfl)) 7)) ((jnp 29 eσ197 (of_decide_eq_true rfl)).trans (jnp 29 eσ193 (of_decide_eq_true rfl))) ((jnp 30 eσ197 (of_decide_eq_true rfl)).trans (jnp 30 eσ193 (of_decide_eq_true rfl))) p156
                                                     have p201 : jNz σ197 := jNz.fr (jnp 34 eσ197 (of_decide_eq_true rfl)) p195
                                                     have z202 : (σ197 31 8).toInt = (σ 31 8).toInt := (congrArg Int32.toInt (show σ197 31 8 = (σ 31 8) from ((congrFun (jnp 31 eσ197 (of_decide_eq_true rfl)) 8).trans ((congrFun (jnp 31 eσ193 (of_decide_eq_true rfl)) 8).trans ((congrFun (f154 31 (of_decide_eq_true rfl)) 8).trans ((congrFun (f124 31 (of_decide_eq_true rfl)) 8).trans ((congrFun (f75 31 (of_decide_eq_true rfl)) 8).trans ((congrFun (jnp 31 eσ55 (of_decide_eq_true rfl)) 8).trans (congrFun (f38 31 (of_decide_eq_true rfl)) 8)))))))))
                                                     exact by
                                                      have z203 : (σ197 31 10).toInt = (σ 31 10).toInt := (congrArg Int32.toInt (show σ197 31 10 = (σ 31 10) from ((congrFun (jnp 31 eσ197 (of_decide_eq_true rfl)) 10).trans ((congrFun (jnp 31 eσ193 (of_decide_eq_true rfl)) 10).trans ((congrFun (f154 31 (of_decide_eq_true rfl)) 10).trans m146)))))
                                                      have z204 : (σ197 31 11).toInt = (σ 31 11).toInt := (congrArg Int32.toInt (show σ197 31 11 = (σ 31 11) from ((congrFun (jnp 31 eσ197 (of_decide_eq_true rfl)) 11).trans ((congrFun (jnp 31 eσ193 (of_decide_eq_true rfl)) 11).trans ((congrFun (f154 31 (of_decide_eq_true rfl)) 11).trans ((congrFun (f124 31 (of_decide_eq_true rfl)) 11).trans ((congrFun (f75 31 (of_decide_eq_true rfl)) 11).trans ((congrFun (jnp 31 eσ55 (of_decide_eq_true rfl)) 11).trans (congrFun (f38 31 (of_decide_eq_true rfl)) 11)))))))))
                                                      have w205 : ∀ k : Nat, k < 1400 → (-1) ≤ (σ197 33 k).toInt ∧ (σ197 33 k).toInt ≤ 350 := (jrr_fr (jnp 33 eσ197 (of_decide_eq_true rfl)) (jrr_fr (jnp 33 eσ193 (of_decide_eq_true rfl)) (jrr_fr (f154 33 (of_decide_eq_true rfl)) w133)))
                                                      have w206 : ∀ k : Nat, k < 3159 → (-1) ≤ (σ197 35 k).toInt ∧ (σ197 35 k).toInt ≤ 3 := (by rw [eσ197]; exact jrr_up (jrr_fr (jnp 35 eσ193 (of_decide_eq_true rfl)) w167) (by omega) (by omega))
                                                      have w207 : ∀ k : Nat, k < 1024 → 0 ≤ (σ197 36 k).toInt ∧ (σ197 36 k).toInt ≤ 349 := (jrr_fr (jnp 36 eσ197 (of_decide_eq_true rfl)) (jrr_fr (jnp 36 eσ193 (of_decide_eq_true rfl)) (jrr_fr (f154 36 (of_decide_eq_true rfl)) w135)))
                                                      have I208 : jI31 σ197 := ⟨(by omega), (by omega), (by omega), (by omega), w205, w206, w207⟩
                                                      exact by exact ihlp113 x198 σ197 _ _ ls (by have h90 := tx198; omega) (by have h90 := tx198; omega) (by have h90 := tx198; omega) (fun i hi => ((jnp i eσ197 (imp_97 i hi)).trans ((jnp i eσ193 (imp_95 i hi)).trans ((f154 i (imp_98 i hi)).trans (f124 i hi)))))   p199 p200 p201 I208 hP hS (lv_sub hl [0, 4, 5, 6, 7, 8, 9, 10, 11, 12, 13, 14, 15, 16, 17] rfl)
                             exact by exact lp113 1000000 x20 σ67 _ _ ls (by omega) (by omega) (by omega) (fun _ _ => rfl)  p76 p77 p78 p79 hP hS hl
                          · have kc98 := jnle c98 jz_0 tx97
                            exact by
                             refine lv_goto (tgt := 310) hx hb dX1_judge_140 (of_decide_eq_true rfl) ?_
                             obtain ⟨x209, ex209⟩ : ∃ y : Int32, y = x59 + 1 := ⟨_, rfl⟩
                             have tx209 : x209.toInt = x59.toInt + 1 := (jadd ex209 rfl jz_1 (by omega) (by omega)).trans (by omega)
                             refine lv_iinc (v := x209) (lv' := [(10, .int x209), (11, .int x97), (7, .int x17), (6, .int x14), (5, .int x12), (0, .ref (ad 31)), (1, .int a1), (2, .ref (ad 17)), (3, .int a3), (4, .int a4), (8, .int x20), (9, .int x21)]) hx hb dX1_judge_310 hl (k := 1) rfl (by rw [ex209]; rfl) (of_decide_eq_true rfl) rfl (fun ls hl => ?_)
                             refine lv_goto (tgt := 113) hx hb dX1_judge_313 (of_decide_eq_true rfl) ?_
                             exact by exact ihlp57 x209 σ67 _ _ ls (by have h90 := tx209; omega) (by have h90 := tx209; omega) (by have h90 := tx209; omega) (fun i hi => (f75 i hi))   p76 p77 p78 p79 hP hS (lv_sub hl [0, 2, 3, 4, 5, 6, 7, 8, 9, 10, 11] rfl)
                 exact by exact lp57 1000000 0 σ55 _ _ ls (by have h90 := jz_0; omega) (by have h90 := jz_0; omega) (by have h90 := jz_0; omega) (fun _ _ => rfl)  p70 p71 p56 I68 hP hS hl
             · have kc51 := jnlt c51 rfl rfl
               refine lv_aload_n hx hb dX1_judge_66 rfl (lv_at hl 4 rfl) ?_
               exact by
                refine va_get (D := D) hx hb hts inlX1 hown hK hP 31 (jc_31 cI cL ad σ33 τ) rfl 4 (of_decide_eq_true rfl) (hts _ kw_5_5) (fun _ h9 => h9) rfl dX1_judge_67 ?_
                refine lv_iload hx hb dX1_judge_70 (lv_at hl 1 rfl) ?_
                refine lv_iload hx hb dX1_judge_72 (lv_at hl 0 rfl) ?_
                have g210 := jrg (rfl : x32.toInt = x32.toInt)
                refine lv_iadd hx hb dX1_judge_74 ?_
                refine lv_topi (fun x211 ex211 => ?_)
                have tx211 : x211.toInt = 9 * A1 + x32.toInt := (jadd ex211 tx17 rfl (by omega) (by omega)).trans (by omega)
                refine lv_iconst (v := 0) hx hb dX1_judge_75 (of_decide_eq_true rfl) ?_
                refine jast hx hb hK hP hJ hA hS (jc_34 cI cL ad σ33 τ) (ja_34 cI cL ad σ33 τ _ _) (jin tx211 (by omega) (by omega)) dX1_judge_76 (fun σ212 H locs eσ212 hP hS => ?_)
                exact by
                 have p213 : jNz σ212 := (jNz.put p39 eσ212 (jnat (x := x211) tx211 (n := 3150) (by omega) (of_decide_eq_true rfl)))
                 refine lv_aload_n hx hb dX1_judge_77 rfl (lv_at hl 4 rfl) ?_
                 refine va_get (D := D) hx hb hts inlX1 hown hK hP 31 (jc_31 cI cL ad σ212 τ) rfl 5 (of_decide_eq_true rfl) (hts _ kw_5_6) (fun _ h9 => h9) rfl dX1_judge_78 ?_
                 refine lv_iload hx hb dX1_judge_81 (lv_at hl 1 rfl) ?_
                 refine lv_iload hx hb dX1_judge_83 (lv_at hl 0 rfl) ?_
                 refine lv_iadd hx hb dX1_judge_85 ?_
                 refine lv_topi (fun x214 ex214 => ?_)
                 have tx214 : x214.toInt = 9 * A1 + x32.toInt := (jadd ex214 tx17 rfl (by omega) (by omega)).trans (by omega)
                 refine lv_iconst (v := (-1)) hx hb dX1_judge_86 (of_decide_eq_true rfl) ?_
                 exact by
                  refine jast hx hb hK hP hJ hA hS (jc_35 cI cL ad σ212 τ) (ja_35 cI cL ad σ212 τ _ _) (jin tx214 (by omega) (by omega)) dX1_judge_87 (fun σ215 H locs eσ215 hP hS => ?_)
                  obtain ⟨x216, ex216⟩ : ∃ y : Int32, y = x32 + 1 := ⟨_, rfl⟩
                  have tx216 : x216.toInt = x32.toInt + 1 := (jadd ex216 rfl jz_1 (by omega) (by omega)).trans (by omega)
                  refine lv_iinc (v := x216) (lv' := [(10, .int x216), (7, .int x17), (6, .int x14), (5, .int x12), (0, .ref (ad 31)), (1, .int a1), (2, .ref (ad 17)), (3, .int a3), (4, .int a4), (8, .int x20), (9, .int x21)]) hx hb dX1_judge_88 hl (k := 0) rfl (by rw [ex216]; rfl) (of_decide_eq_true rfl) rfl (fun ls hl => ?_)
                  refine lv_goto (tgt := 59) hx hb dX1_judge_91 (of_decide_eq_true rfl) ?_
                  have p217 : jNz σ215 := jNz.fr (jnp 34 eσ215 (of_decide_eq_true rfl)) p213
                  have z218 : (σ215 31 8).toInt = (σ 31 8).toInt := (congrArg Int32.toInt (show σ215 31 8 = (σ 31 8) from ((congrFun (jnp 31 eσ215 (of_decide_eq_true rfl)) 8).trans ((congrFun (jnp 31 eσ212 (of_decide_eq_true rfl)) 8).trans (congrFun (f38 31 (of_decide_eq_true rfl)) 8)))))
                  have z219 : (σ215 31 10).toInt = (σ 31 10).toInt := (congrArg Int32.toInt (show σ215 31 10 = (σ 31 10) from ((congrFun (jnp 31 eσ215 (of_decide_eq_true rfl)) 10).trans ((congrFun (jnp 31 eσ212 (of_decide_eq_true rfl)) 10).trans (congrFun (f38 31 (of_decide_eq_true rfl)) 10)))))
                  have z220 : (σ215 31 11).toInt = (σ 31 11).toInt := (congrArg Int32.toInt (show σ215 31 11 = (σ 31 11) from ((congrFun (jnp 31 eσ215 (of_decide_eq_true rfl)) 11).trans ((congrFun (jnp 31 eσ212 (of_decide_eq_true rfl)) 11).trans (congrFun (f38 31 (of_decide_eq_true rfl)) 11)))))
                  exact by
                   have w221 : ∀ k : Nat, k < 1400 → (-1) ≤ (σ215 33 k).toInt ∧ (σ215 33 k).toInt ≤ 350 := (jrr_fr (jnp 33 eσ215 (of_decide_eq_true rfl)) (jrr_fr (jnp 33 eσ212 (of_decide_eq_true rfl)) w45))
                   have w222 : ∀ k : Nat, k < 3159 → (-1) ≤ (σ215 35 k).toInt ∧ (σ215 35 k).toInt ≤ 3 := (by rw [eσ215]; exact jrr_up (jrr_fr (jnp 35 eσ212 (of_decide_eq_true rfl)) w46) (by have h9 := jz_m1; omega) (by have h9 := jz_m1; omega))
                   have w223 : ∀ k : Nat, k < 1024 → 0 ≤ (σ215 36 k).toInt ∧ (σ215 36 k).toInt ≤ 349 := (jrr_fr (jnp 36 eσ215 (of_decide_eq_true rfl)) (jrr_fr (jnp 36 eσ212 (of_decide_eq_true rfl)) w47))
                   have I224 : jI31 σ215 := ⟨(by omega), (by omega), (by omega), (by omega), w221, w222, w223⟩
                   exact by exact ihlp30 x216 σ215 _ _ ls (by have h90 := tx216; omega) (by have h90 := tx216; omega) (by have h90 := tx216; omega) (fun i hi => ((jnp i eσ215 (imp_99 i hi)).trans ((jnp i eσ212 (imp_100 i hi)).trans (f38 i hi))))   p217 I224 hP hS (lv_sub hl [0, 1, 2, 3, 4, 5, 6, 7, 8, 9, 10] rfl)
        exact by exact lp30 1000000 x20 σ _ _ ls (by omega) (by omega) (by omega) (fun _ _ => rfl)  hs_jNz hI31 hP hS hl
     refine lv_iconst (v := 0) hx hb dX1_judge_28 (of_decide_eq_true rfl) ?_
     refine lv_iload_n hx hb dX1_judge_29 rfl (lv_at hl 6 rfl) ?_
     refine va_mmax hx hb (hml.trans hl.1.symm) hown (hts _ kw_28_5) (hts _ kw_21_0) (hts _ kw_21_1) (hts _ kw_21_2) (Nat.le_of_ble_eq_true rfl) (Nat.le_of_ble_eq_true rfl) (Nat.le_of_ble_eq_true rfl) (Nat.le_of_ble_eq_true rfl) dX1_judge_30 ?_
     exact by
      refine lv_topi (fun x225 ex225 => ?_)
      have g226 := jmax ex225 jz_0 t3
      refine lv_istore (lv' := [(8, .int x225), (7, .int x17), (6, .int x14), (5, .int x12), (0, .ref (ad 31)), (1, .int a1), (2, .ref (ad 17)), (3, .int a3), (4, .int a4)]) hx hb dX1_judge_33 hl (of_decide_eq_true rfl) rfl (fun ls hl => ?_)
      refine lv_iload hx hb dX1_judge_35 (lv_at hl 8 rfl) ?_
      refine lv_aload_n hx hb dX1_judge_37 rfl (lv_at hl 6 rfl) ?_
      refine jalen (v := 8) hx hb hK hP (jc_17 cI cL ad σ τ) (of_decide_eq_true rfl) dX1_judge_38 ?_
      refine lv_iconst (v := 1) hx hb dX1_judge_39 (of_decide_eq_true rfl) ?_
      refine lv_isub hx hb dX1_judge_40 ?_
      refine jtopr (y := 7) (of_decide_eq_true rfl) ?_
      refine va_mmin hx hb (hml.trans hl.1.symm) hown (hts _ kw_28_4) (hts _ kw_22_11) (hts _ kw_21_1) (hts _ kw_22_12) (Nat.le_of_ble_eq_true rfl) (Nat.le_of_ble_eq_true rfl) (Nat.le_of_ble_eq_true rfl) (Nat.le_of_ble_eq_true rfl) dX1_judge_41 ?_
      refine lv_topi (fun x227 ex227 => ?_)
      have g228 := jmin ex227 t4 jz_7
      refine lv_iload_n hx hb dX1_judge_44 rfl (lv_at hl 7 rfl) ?_
      refine lv_iconst (v := 1) hx hb dX1_judge_45 (of_decide_eq_true rfl) ?_
      refine lv_iadd hx hb dX1_judge_46 ?_
      refine lv_topi (fun x229 ex229 => ?_)
      exact by
       have tx229 : x229.toInt = A3 + 1 := (jadd ex229 t3 jz_1 (by omega) (by omega)).trans (by omega)
       refine lv_iload hx hb dX1_judge_47 (lv_at hl 2 rfl) ?_
       have g230 := jrg (rfl : x14.toInt = x14.toInt)
       refine lv_iadd hx hb dX1_judge_49 ?_
       refine lv_topi (fun x231 ex231 => ?_)
       have tx231 : x231.toInt = A3 + x14.toInt + 1 := (jadd ex231 tx229 rfl (by omega) (by omega)).trans (by omega)
       refine va_mmin hx hb (hml.trans hl.1.symm) hown (hts _ kw_28_4) (hts _ kw_22_11) (hts _ kw_21_1) (hts _ kw_22_12) (Nat.le_of_ble_eq_true rfl) (Nat.le_of_ble_eq_true rfl) (Nat.le_of_ble_eq_true rfl) (Nat.le_of_ble_eq_true rfl) dX1_judge_50 ?_
       refine lv_topi (fun x232 ex232 => ?_)
       have g233 := jmin ex232 rfl tx231
       exact by
        refine lv_istore (lv' := [(9, .int x232), (8, .int x225), (7, .int x17), (6, .int x14), (5, .int x12), (0, .ref (ad 31)), (1, .int a1), (2, .ref (ad 17)), (3, .int a3), (4, .int a4)]) hx hb dX1_judge_53 hl (of_decide_eq_true rfl) rfl (fun ls hl => ?_)
        exact by exact lp18 x225 x232 _ _ ls (by omega) (by omega) (by omega) (by omega) (by omega) (by omega)    hP hS (lv_sub hl [2, 3, 4, 5, 6, 7, 8, 9, 1, 0] rfl)
set_option maxHeartbeats 4000000 in
set_option maxRecDepth 100000 in
theorem c_X1_seekFor_31 (l : Launch) (D : va_G) (cI cL : ClassId) (ad zz : Nat → Nat) (hJ : jD ad) (σ : Nat → Nat → Int32) (τ : Nat → Nat → Int64) (a2 : Int32) (A2 : Int) (t2 : a2.toInt = A2) (a3 : Int32) (A3 : Int) (t3 : a3.toInt = A3) (a4 : Int32) (A4 : Int) (t4 : a4.toInt = A4) (a5 : Int32) (A5 : Int) (t5 : a5.toInt = A5) (hI16 : jI16 σ) (hI22 : jI22 σ) (hI31 : jI31 σ) (hI26 : jI26 σ) (hs_jN67 : jN67 σ) (hs_jBl : jBl σ) (hs_jKb : jKb σ) (hs_jKh : jKh σ) (hs_jKg : jKg σ) (hs_jNz : jNz σ) (hp0 : 0 ≤ A2 ∧ A2 ≤ 134217727) (hp1 : 0 ≤ A3 ∧ A3 ≤ 12) (hp2 : 0 ≤ A4 ∧ A4 ≤ 12) : jMv l yX1_seekFor cX1_seekFor 7 none ({ frames := 4, cells := 0, slots := 0, locals := 113 }) D cI cL ad zz [.ref (ad 31), .ref (ad 17), .int a2, .int a3, .int a4, .int a5] σ τ (fun σ' τ' => τ = τ' ∧ (∀ i : Nat, (i < 24 ∨ 25 < i) ∧ (i < 29 ∨ 37 < i) → σ' i = σ i) ∧ (∀ k : Nat, (k < 8 ∨ 8 < k) ∧ (k < 9 ∨ 9 < k) ∧ (k < 10 ∨ 10 < k) ∧ (k < 11 ∨ 11 < k) ∧ (k < 12 ∨ 12 < k) → σ' 31 k = σ 31 k) ∧ (jI31 σ') ∧ (jN67 σ') ∧ (jBl σ') ∧ (jKb σ') ∧ (jKh σ') ∧ (jKg σ') ∧ (jNz σ') ∧ ((σ' 31 9).toInt = A2) ∧ ((σ' 31 10).toInt = A3) ∧ (((σ' 31 11).toInt = 0 ∧ (σ 16 1).toInt - A3 ≤ 0) ∨ ((σ' 31 11).toInt = (σ 16 1).toInt - A3 ∧ 0 ≤ (σ 16 1).toInt - A3 ∧ (σ 16 1).toInt - A3 ≤ 8) ∨ ((σ' 31 11).toInt = 8 ∧ 8 ≤ (σ 16 1).toInt - A3)) ∧ True) := by
  refine jMv.of hJ (by decide +kernel) rfl (Nat.le_of_ble_eq_true rfl) ?_
  intro p e s m args below meth c Q ls hC hret hl hP
  obtain ⟨hx, hb, hr, hml, hown, hts, hK, -, hlocks, hZ⟩ := hC
  have hown : s.vm.findClass RX1 = some m.cls := hown
  have hS : va_S (jA ad) s.heap s.heap [] := va_S.rf
  have hA : ∀ q, jA ad q → jA ad q := fun _ h => h
  have hl : lv_has ls 7 [(0, .ref (ad 31)), (1, .ref (ad 17)), (2, .int a2), (3, .int a3), (4, .int a4), (5, .int a5)] := hl
  have g2 := jrg t2
  have g3 := jrg t3
  have g4 := jrg t4
  have g5 := jrg t5
  obtain ⟨i1, i2, i3, w4⟩ : (1 ≤ (σ 16 0).toInt ∧ (σ 16 0).toInt ≤ 8) ∧ (1 ≤ (σ 16 1).toInt ∧ (σ 16 1).toInt ≤ 12) ∧ (0 ≤ (σ 16 2).toInt ∧ (σ 16 2).toInt ≤ 999) ∧ (∀ k : Nat, k < 8 → 0 ≤ (σ 17 k).toInt ∧ (σ 17 k).toInt ≤ 3) := id hI16
  obtain ⟨i5, i6, i7, i8, w9, w10, w11⟩ : (0 ≤ (σ 31 8).toInt ∧ (σ 31 8).toInt ≤ 350) ∧ (0 ≤ (σ 31 10).toInt ∧ (σ 31 10).toInt ≤ 12) ∧ (0 ≤ (σ 31 11).toInt ∧ (σ 31 11).toInt ≤ 8) ∧ ((σ 31 10).toInt + (σ 31 11).toInt ≤ 12) ∧ (∀ k : Nat, k < 1400 → (-1) ≤ (σ 33 k).toInt ∧ (σ 33 k).toInt ≤ 350) ∧ (∀ k : Nat, k < 3159 → (-1) ≤ (σ 35 k).toInt ∧ (σ 35 k).toInt ≤ 3) ∧ (∀ k : Nat, k < 1024 → 0 ≤ (σ 36 k).toInt ∧ (σ 36 k).toInt ≤ 349) := id hI31
  refine lv_aload_n hx hb dX1_seekFor_0 rfl (lv_at hl 0 rfl) ?_
  refine lv_iload_n hx hb dX1_seekFor_1 rfl (lv_at hl 2 rfl) ?_
  refine lv_iload_n hx hb dX1_seekFor_2 rfl (lv_at hl 3 rfl) ?_
  exact by
   refine jcallVv (As := [.int a2, .int a3]) (rest := []) ⟨hx, hb, hml, hown, hts⟩ hK hP hA hS hZ (c_X1_grow_31 l D cI cL ad zz hJ σ τ a2 (A2) t2 a3 (A3) t3 hI16 hI31 hs_jKb hs_jKh hs_jKg (by omega) (by omega)) cw_RX1_54 (jc_31 cI cL ad σ τ) rfl ⟨Nat.le_of_ble_eq_true rfl, Nat.le_of_ble_eq_true rfl⟩ rfl rfl rfl hl.1 rfl (Nat.le_of_ble_eq_true rfl) dX1_seekFor_3 ⟨Nat.zero_le _, Nat.zero_le _⟩ (fun σ12 τ12 H locs h12 hP hS => ?_)
   obtain ⟨rfl, f14, f15, I16, p17, p18, p19, w20, h12⟩ := h12
   obtain ⟨i22, i23, i24, i25, w26, w27, w28⟩ : (0 ≤ (σ12 31 8).toInt ∧ (σ12 31 8).toInt ≤ 350) ∧ (0 ≤ (σ12 31 10).toInt ∧ (σ12 31 10).toInt ≤ 12) ∧ (0 ≤ (σ12 31 11).toInt ∧ (σ12 31 11).toInt ≤ 8) ∧ ((σ12 31 10).toInt + (σ12 31 11).toInt ≤ 12) ∧ (∀ k : Nat, k < 1400 → (-1) ≤ (σ12 33 k).toInt ∧ (σ12 33 k).toInt ≤ 350) ∧ (∀ k : Nat, k < 3159 → (-1) ≤ (σ12 35 k).toInt ∧ (σ12 35 k).toInt ≤ 3) ∧ (∀ k : Nat, k < 1024 → 0 ≤ (σ12 36 k).toInt ∧ (σ12 36 k).toInt ≤ 349) := id I16
   obtain ⟨k29, k30, k31, h12⟩ := h12
   refine lv_aload_n hx hb dX1_seekFor_6 rfl (lv_at hl 0 rfl) ?_
   refine va_get (D := D) hx hb hts inlX1 hown hK hP 31 (jc_31 cI cL ad σ12 τ) rfl 8 (of_decide_eq_true rfl) (hts _ kw_27_22) (fun _ h9 => h9) rfl dX1_seekFor_7 ?_
   refine lv_iconst (v := 1) hx hb dX1_seekFor_10 (of_decide_eq_true rfl) ?_
   have g32 := jrg (rfl : (σ12 31 8).toInt = (σ12 31 8).toInt)
   refine lv_isub hx hb dX1_seekFor_11 ?_
   refine lv_topi (fun x33 ex33 => ?_)
   exact by
    have tx33 : x33.toInt = (σ12 31 8).toInt - 1 := (jsub ex33 rfl jz_1 (by omega) (by omega)).trans (by omega)
    refine lv_istore (lv' := [(6, .int x33), (0, .ref (ad 31)), (1, .ref (ad 17)), (2, .int a2), (3, .int a3), (4, .int a4), (5, .int a5)]) hx hb dX1_seekFor_12 hl (of_decide_eq_true rfl) rfl (fun ls hl => ?_)
    have z38 : (σ12 16 1).toInt = (σ 16 1).toInt := (congrArg Int32.toInt (show σ12 16 1 = (σ 16 1) from (congrFun (f14 16 (of_decide_eq_true rfl)) 1)))
    have p40 : jN67 σ12 := jN67.fr (f14 24 (of_decide_eq_true rfl)) hs_jN67
    have p41 : jBl σ12 := jBl.fr (congrFun (f14 22 (of_decide_eq_true rfl)) 0) (congrFun (f14 22 (of_decide_eq_true rfl)) 1) (f14 23 (of_decide_eq_true rfl)) (congrFun (f14 26 (of_decide_eq_true rfl)) 6) (congrFun (f14 26 (of_decide_eq_true rfl)) 7) (f14 29 (of_decide_eq_true rfl)) (f14 30 (of_decide_eq_true rfl)) hs_jBl
    have p42 : jNz σ12 := jNz.fr (f14 34 (of_decide_eq_true rfl)) hs_jNz
    have lp34 : ∀ (n35 : Nat) (x36 : Int32) (σ37 : Nat → Nat → Int32) (H : Heap) (locs : List Loc) (ls : Array Slot), (x36.toInt + 1 : Int) < n35 → (-1) ≤ x36.toInt → x36.toInt ≤ 349 → x36.toInt < (σ37 31 8).toInt → (σ37 31 9).toInt = A2 → (σ37 31 10).toInt = A3 → (((σ37 31 11).toInt = 0 ∧ (σ37 16 1).toInt - A3 ≤ 0) ∨ ((σ37 31 11).toInt = (σ37 16 1).toInt - A3 ∧ 0 ≤ (σ37 16 1).toInt - A3 ∧ (σ37 16 1).toInt - A3 ≤ 8) ∨ ((σ37 31 11).toInt = 8 ∧ 8 ≤ (σ37 16 1).toInt - A3)) → (∀ i : Nat, (i < 24 ∨ 25 < i) ∧ (i < 29 ∨ 30 < i) ∧ (i < 34 ∨ 35 < i) → σ37 i = σ12 i) → jN67 σ37 → jBl σ37 → jNz σ37 → jI31 σ37 → jH D cI cL ad σ37 τ H → va_S (jA ad) s.heap H locs → lv_has ls 7 [(6, .int x36), (0, .ref (ad 31)), (1, .ref (ad 17)), (2, .int a2), (3, .int a3), (4, .int a4), (5, .int a5)] → W p l e ({ frames := 4, cells := 0, slots := 0, locals := 113 }) s m args below meth c H locs 0 0 Q (F0 m 14 ls []) := by
      intro n35
      induction n35 with
      | zero => intro x36 σ37 H locs ls h43 h44 h45 h46 h47 h48 h49; exact absurd h43 (by omega)
      | succ n35 ihlp34 =>
        intro x36 σ37 H locs ls h43 h44 h45 h46 h47 h48 h49 f50 p51 p52 p53 p54 hP hS hl
        exact by
         obtain ⟨i55, i56, i57, i58, w59, w60, w61⟩ : (0 ≤ (σ37 31 8).toInt ∧ (σ37 31 8).toInt ≤ 350) ∧ (0 ≤ (σ37 31 10).toInt ∧ (σ37 31 10).toInt ≤ 12) ∧ (0 ≤ (σ37 31 11).toInt ∧ (σ37 31 11).toInt ≤ 8) ∧ ((σ37 31 10).toInt + (σ37 31 11).toInt ≤ 12) ∧ (∀ k : Nat, k < 1400 → (-1) ≤ (σ37 33 k).toInt ∧ (σ37 33 k).toInt ≤ 350) ∧ (∀ k : Nat, k < 3159 → (-1) ≤ (σ37 35 k).toInt ∧ (σ37 35 k).toInt ≤ 3) ∧ (∀ k : Nat, k < 1024 → 0 ≤ (σ37 36 k).toInt ∧ (σ37 36 k).toInt ≤ 349) := id p54
         have z62 : (σ37 31 8).toInt = (σ12 31 8).toInt := (congrArg Int32.toInt (show σ37 31 8 = (σ12 31 8) from (congrFun (f50 31 (of_decide_eq_true rfl)) 8)))
         have z63 : (σ37 31 10).toInt = (σ12 31 10).toInt := (congrArg Int32.toInt (show σ37 31 10 = (σ12 31 10) from (congrFun (f50 31 (of_decide_eq_true rfl)) 10)))
         have z64 : (σ37 31 11).toInt = (σ12 31 11).toInt := (congrArg Int32.toInt (show σ37 31 11 = (σ12 31 11) from (congrFun (f50 31 (of_decide_eq_true rfl)) 11)))
         have z65 : (σ37 31 9).toInt = (σ12 31 9).toInt := (congrArg Int32.toInt (show σ37 31 9 = (σ12 31 9) from (congrFun (f50 31 (of_decide_eq_true rfl)) 9)))
         have z66 : (σ37 16 1).toInt = (σ 16 1).toInt := (congrArg Int32.toInt (show σ37 16 1 = (σ 16 1) from ((congrFun (f50 16 (of_decide_eq_true rfl)) 1).trans (congrFun (f14 16 (of_decide_eq_true rfl)) 1))))
         refine lv_iload hx hb dX1_seekFor_14 (lv_at hl 0 rfl) ?_
         refine lv_if_lt (tgt := 36) hx hb dX1_seekFor_16 (of_decide_eq_true rfl) (fun c67 => ?_) (fun c67 => ?_)
         · have kc67 := jlt c67 rfl jz_0
           have p68 : jKb σ37 := jKb.fr (congrFun (f50 31 (of_decide_eq_true rfl)) 8) (congrFun (f50 31 (of_decide_eq_true rfl)) 11) (f50 32 (of_decide_eq_true rfl)) p17
           have p69 : jKh σ37 := jKh.fr (congrFun (f50 31 (of_decide_eq_true rfl)) 8) (f50 32 (of_decide_eq_true rfl)) (f50 36 (of_decide_eq_true rfl)) (f50 37 (of_decide_eq_true rfl)) p18
           have p70 : jKg σ37 := jKg.fr (congrFun (f50 31 (of_decide_eq_true rfl)) 8) (congrFun (f50 31 (of_decide_eq_true rfl)) 9) (congrFun (f50 31 (of_decide_eq_true rfl)) 11) (congrFun (f50 31 (of_decide_eq_true rfl)) 12) (f50 32 (of_decide_eq_true rfl)) (f50 33 (of_decide_eq_true rfl)) p19
           exact by exact hret σ37 τ _ _ _ _ ⟨rfl, (fun i hi => ((f50 i (imp_101 i hi)).trans (f14 i (imp_102 i hi)))), (fun i hi => ((congrFun (f50 31 (of_decide_eq_true rfl)) i).trans (f15 i hi))), p54, p51, p52, p68, p69, p70, p53, (by omega), (by omega), (by omega), trivial⟩ hP hS dX1_seekFor_36
         · have kc67 := jnlt c67 rfl jz_0
           refine lv_aload_n hx hb dX1_seekFor_19 rfl (lv_at hl 1 rfl) ?_
           refine lv_iload hx hb dX1_seekFor_20 (lv_at hl 0 rfl) ?_
           refine lv_aload_n hx hb dX1_seekFor_22 rfl (lv_at hl 2 rfl) ?_
           refine lv_iload hx hb dX1_seekFor_23 (lv_at hl 5 rfl) ?_
           refine lv_iload hx hb dX1_seekFor_25 (lv_at hl 6 rfl) ?_
           have I71 : jI16 σ37 := jI16_fr ((congrFun (f50 16 (of_decide_eq_true rfl)) 0).trans (congrFun (f14 16 (of_decide_eq_true rfl)) 0)) ((congrFun (f50 16 (of_decide_eq_true rfl)) 1).trans (congrFun (f14 16 (of_decide_eq_true rfl)) 1)) ((congrFun (f50 16 (of_decide_eq_true rfl)) 2).trans (congrFun (f14 16 (of_decide_eq_true rfl)) 2)) ((f50 17 (of_decide_eq_true rfl)).trans (f14 17 (of_decide_eq_true rfl))) hI16
           have I72 : jI22 σ37 := jI22_fr ((congrFun (f50 22 (of_decide_eq_true rfl)) 0).trans (congrFun (f14 22 (of_decide_eq_true rfl)) 0)) ((f50 23 (of_decide_eq_true rfl)).trans (f14 23 (of_decide_eq_true rfl))) hI22
           have I73 : jI26 σ37 := jI26_fr ((congrFun (f50 26 (of_decide_eq_true rfl)) 6).trans (congrFun (f14 26 (of_decide_eq_true rfl)) 6)) hI26
           have p74 : jKb σ37 := jKb.fr (congrFun (f50 31 (of_decide_eq_true rfl)) 8) (congrFun (f50 31 (of_decide_eq_true rfl)) 11) (f50 32 (of_decide_eq_true rfl)) p17
           exact by
            refine jcallVv (As := [.int x36, .ref (ad 17), .int a4, .int a5]) (rest := []) ⟨hx, hb, hml, hown, hts⟩ hK hP hA hS hZ (c_X1_judge_31 l D cI cL ad zz hJ σ37 τ x36 (x36.toInt) rfl a4 (A4) t4 a5 (A5) t5 I71 I72 p54 I73 p51 p52 p74 p53 (by omega) (by omega) (by omega)) cw_RX1_61 (jc_31 cI cL ad σ37 τ) rfl ⟨Nat.le_of_ble_eq_true rfl, Nat.le_of_ble_eq_true rfl⟩ rfl rfl rfl hl.1 rfl (Nat.le_of_ble_eq_true rfl) dX1_seekFor_27 ⟨Nat.zero_le _, Nat.zero_le _⟩ (fun σ75 τ75 H locs h75 hP hS => ?_)
            obtain ⟨rfl, f77, I78, p79, p80, p81, p82, h75⟩ := h75
            obtain ⟨i84, i85, i86, i87, w88, w89, w90⟩ : (0 ≤ (σ75 31 8).toInt ∧ (σ75 31 8).toInt ≤ 350) ∧ (0 ≤ (σ75 31 10).toInt ∧ (σ75 31 10).toInt ≤ 12) ∧ (0 ≤ (σ75 31 11).toInt ∧ (σ75 31 11).toInt ≤ 8) ∧ ((σ75 31 10).toInt + (σ75 31 11).toInt ≤ 12) ∧ (∀ k : Nat, k < 1400 → (-1) ≤ (σ75 33 k).toInt ∧ (σ75 33 k).toInt ≤ 350) ∧ (∀ k : Nat, k < 3159 → (-1) ≤ (σ75 35 k).toInt ∧ (σ75 35 k).toInt ≤ 3) ∧ (∀ k : Nat, k < 1024 → 0 ≤ (σ75 36 k).toInt ∧ (σ75 36 k).toInt ≤ 349) := id I78
            have z91 : (σ75 31 8).toInt = (σ12 31 8).toInt := (congrArg Int32.toInt (show σ75 31 8 = (σ12 31 8) from ((congrFun (f77 31 (of_decide_eq_true rfl)) 8).trans (congrFun (f50 31 (of_decide_eq_true rfl)) 8))))
            have z92 : (σ75 31 10).toInt = (σ12 31 10).toInt := (congrArg Int32.toInt (show σ75 31 10 = (σ12 31 10) from ((congrFun (f77 31 (of_decide_eq_true rfl)) 10).trans (congrFun (f50 31 (of_decide_eq_true rfl)) 10))))
            have z93 : (σ75 31 11).toInt = (σ12 31 11).toInt := (congrArg Int32.toInt (show σ75 31 11 = (σ12 31 11) from ((congrFun (f77 31 (of_decide_eq_true rfl)) 11).trans (congrFun (f50 31 (of_decide_eq_true rfl)) 11))))
            obtain ⟨x94, ex94⟩ : ∃ y : Int32, y = x36 + (-1) := ⟨_, rfl⟩
            have tx94 : x94.toInt = x36.toInt - 1 := (jadd ex94 rfl jz_m1 (by omega) (by omega)).trans (by omega)
            refine lv_iinc (v := x94) (lv' := [(6, .int x94), (0, .ref (ad 31)), (1, .ref (ad 17)), (2, .int a2), (3, .int a3), (4, .int a4), (5, .int a5)]) hx hb dX1_seekFor_30 hl (k := 0) rfl (by rw [ex94]; rfl) (of_decide_eq_true rfl) rfl (fun ls hl => ?_)
            exact by
             refine lv_goto (tgt := 14) hx hb dX1_seekFor_33 (of_decide_eq_true rfl) ?_
             have z95 : (σ75 31 9).toInt = (σ12 31 9).toInt := (congrArg Int32.toInt (show σ75 31 9 = (σ12 31 9) from ((congrFun (f77 31 (of_decide_eq_true rfl)) 9).trans (congrFun (f50 31 (of_decide_eq_true rfl)) 9))))
             have z96 : (σ75 16 1).toInt = (σ 16 1).toInt := (congrArg Int32.toInt (show σ75 16 1 = (σ 16 1) from ((congrFun (f77 16 (of_decide_eq_true rfl)) 1).trans ((congrFun (f50 16 (of_decide_eq_true rfl)) 1).trans (congrFun (f14 16 (of_decide_eq_true rfl)) 1)))))
             exact by exact ihlp34 x94 σ75 _ _ ls (by have h90 := tx94; omega) (by have h90 := tx94; omega) (by have h90 := tx94; omega) (by have h90 := tx94; omega) (by have h90 := tx94; omega) (by have h90 := tx94; omega) (by have h90 := tx94; omega) (fun i hi => ((f77 i hi).trans (f50 i hi)))   p79 p80 p82 I78 hP hS (lv_sub hl [0, 1, 2, 3, 4, 5, 6] rfl)
    exact by exact lp34 1000000 x33 σ12 _ _ ls (by have h90 := tx33; omega) (by have h90 := tx33; omega) (by have h90 := tx33; omega) (by have h90 := tx33; omega) (by have h90 := tx33; omega) (by have h90 := tx33; omega) (by have h90 := tx33; omega) (fun _ _ => rfl)  p40 p41 p42 I16 hP hS hl
set_option maxHeartbeats 4000000 in
set_option maxRecDepth 100000 in
theorem c_X1_judge_31_v1 (l : Launch) (D : va_G) (cI cL : ClassId) (ad zz : Nat → Nat) (hJ : jD ad) (σ : Nat → Nat → Int32) (τ : Nat → Nat → Int64) (a1 : Int32) (A1 : Int) (t1 : a1.toInt = A1) (a3 : Int32) (A3 : Int) (t3 : a3.toInt = A3) (a4 : Int32) (A4 : Int) (t4 : a4.toInt = A4) (hI16 : jI16 σ) (hI22 : jI22 σ) (hI31 : jI31 σ) (hI0 : jI0 σ) (hI26 : jI26 σ) (hs_jN67 : jN67 σ) (hs_jBl : jBl σ) (hs_jKb : jKb σ) (hs_jNz : jNz σ) (hp0 : 0 ≤ A1 ∧ A1 ≤ 349) (hp1 : A1 < (σ 31 8).toInt) (hp2 : 0 ≤ A3 ∧ A3 ≤ 12) : jMv l yX1_judge cX1_judge 18 none ({ frames := 3, cells := 0, slots := 0, locals := 76 }) D cI cL ad zz [.ref (ad 31), .int a1, .ref (ad 1), .int a3, .int a4] σ τ (fun σ' τ' => τ = τ' ∧ (∀ i : Nat, (i < 24 ∨ 25 < i) ∧ (i < 29 ∨ 30 < i) ∧ (i < 34 ∨ 35 < i) → σ' i = σ i) ∧ (jI31 σ') ∧ (jN67 σ') ∧ (jBl σ') ∧ (jKb σ') ∧ (jNz σ') ∧ True) := by
  refine jMv.of hJ (by decide +kernel) rfl (Nat.le_of_ble_eq_true rfl) ?_
  intro p e s m args below meth c Q ls hC hret hl hP
  obtain ⟨hx, hb, hr, hml, hown, hts, hK, -, hlocks, hZ⟩ := hC
  have hown : s.vm.findClass RX1 = some m.cls := hown
  have hS : va_S (jA ad) s.heap s.heap [] := va_S.rf
  have hA : ∀ q, jA ad q → jA ad q := fun _ h => h
  have hl : lv_has ls 18 [(0, .ref (ad 31)), (1, .int a1), (2, .ref (ad 1)), (3, .int a3), (4, .int a4)] := hl
  have g1 := jrg t1
  have g3 := jrg t3
  have g4 := jrg t4
  obtain ⟨i1, i2, i3, w4⟩ : (1 ≤ (σ 16 0).toInt ∧ (σ 16 0).toInt ≤ 8) ∧ (1 ≤ (σ 16 1).toInt ∧ (σ 16 1).toInt ≤ 12) ∧ (0 ≤ (σ 16 2).toInt ∧ (σ 16 2).toInt ≤ 999) ∧ (∀ k : Nat, k < 8 → 0 ≤ (σ 17 k).toInt ∧ (σ 17 k).toInt ≤ 3) := id hI16
  obtain ⟨i5, i6, i7, i8, w9, w10, w11⟩ : (0 ≤ (σ 31 8).toInt ∧ (σ 31 8).toInt ≤ 350) ∧ (0 ≤ (σ 31 10).toInt ∧ (σ 31 10).toInt ≤ 12) ∧ (0 ≤ (σ 31 11).toInt ∧ (σ 31 11).toInt ≤ 8) ∧ ((σ 31 10).toInt + (σ 31 11).toInt ≤ 12) ∧ (∀ k : Nat, k < 1400 → (-1) ≤ (σ 33 k).toInt ∧ (σ 33 k).toInt ≤ 350) ∧ (∀ k : Nat, k < 3159 → (-1) ≤ (σ 35 k).toInt ∧ (σ 35 k).toInt ≤ 3) ∧ (∀ k : Nat, k < 1024 → 0 ≤ (σ 36 k).toInt ∧ (σ 36 k).toInt ≤ 349) := id hI31
  have w12 : ∀ k : Nat, k < 8 → 0 ≤ (σ 1 k).toInt ∧ (σ 1 k).toInt ≤ 3 := hI0
  refine lv_aload_n hx hb dX1_judge_0 rfl (lv_at hl 0 rfl) ?_
  refine va_get (D := D) hx hb hts inlX1 hown hK hP 31 (jc_31 cI cL ad σ τ) rfl 2 (of_decide_eq_true rfl) (hts _ kw_5_3) (fun _ h9 => h9) rfl dX1_judge_1 ?_
  refine lv_iload_n hx hb dX1_judge_4 rfl (lv_at hl 1 rfl) ?_
  exact by
   refine jald hx hb hK hP (jc_32 cI cL ad σ τ) (jin t1 (by omega) (by omega)) dX1_judge_5 ?_
   refine jtopr (y := (σ 32 a1.toNatClampNeg)) rfl ?_
   refine lv_ldc (v := 134217727) hx hb hown (hts _ kw_28_10) dX1_judge_6 ?_
   refine lv_iand hx hb dX1_judge_8 ?_
   refine lv_topi (fun x13 ex13 => ?_)
   have gx13 := jrg (rfl : x13.toInt = x13.toInt)
   have g14 : 0 ≤ x13.toInt ∧ x13.toInt ≤ 134217727 := jmask ex13 27 (of_decide_eq_true rfl) (of_decide_eq_true rfl)
   refine lv_istore (lv' := [(5, .int x13), (0, .ref (ad 31)), (1, .int a1), (2, .ref (ad 1)), (3, .int a3), (4, .int a4)]) hx hb dX1_judge_9 hl (of_decide_eq_true rfl) rfl (fun ls hl => ?_)
   refine lv_aload_n hx hb dX1_judge_11 rfl (lv_at hl 1 rfl) ?_
   refine va_get (D := D) hx hb hts inlX1 hown hK hP 31 (jc_31 cI cL ad σ τ) rfl 2 (of_decide_eq_true rfl) (hts _ kw_5_3) (fun _ h9 => h9) rfl dX1_judge_12 ?_
   refine lv_iload_n hx hb dX1_judge_15 rfl (lv_at hl 2 rfl) ?_
   exact by
    refine jald hx hb hK hP (jc_32 cI cL ad σ τ) (jin t1 (by omega) (by omega)) dX1_judge_16 ?_
    refine jtopr (y := (σ 32 a1.toNatClampNeg)) rfl ?_
    refine lv_bipush (v := 27) hx hb dX1_judge_17 (of_decide_eq_true rfl) ?_
    refine lv_ishr hx hb dX1_judge_19 ?_
    refine lv_topi (fun x15 ex15 => ?_)
    have gx15 := jrg (rfl : x15.toInt = x15.toInt)
    have k16 := jshr27 (x := x15) (k := (σ 32 a1.toNatClampNeg)) (by rw [ex15])
    have k17 := hs_jKb a1.toNatClampNeg (by rw [jnc t1]; omega)
    refine lv_istore (lv' := [(6, .int x15), (5, .int x13), (0, .ref (ad 31)), (1, .int a1), (2, .ref (ad 1)), (3, .int a3), (4, .int a4)]) hx hb dX1_judge_20 hl (of_decide_eq_true rfl) rfl (fun ls hl => ?_)
    exact by
     refine lv_iload_n hx hb dX1_judge_22 rfl (lv_at hl 3 rfl) ?_
     refine lv_bipush (v := 9) hx hb dX1_judge_23 (of_decide_eq_true rfl) ?_
     refine lv_imul hx hb dX1_judge_25 ?_
     refine lv_topi (fun x18 ex18 => ?_)
     have tx18 : x18.toInt = 9 * A1 := (jmul ex18 t1 jz_9 (by omega) (by omega)).trans (by omega)
     refine lv_istore (lv' := [(7, .int x18), (6, .int x15), (5, .int x13), (0, .ref (ad 31)), (1, .int a1), (2, .ref (ad 1)), (3, .int a3), (4, .int a4)]) hx hb dX1_judge_26 hl (of_decide_eq_true rfl) rfl (fun ls hl => ?_)
     have lp19 : ∀ (x21 : Int32) (x22 : Int32) (H : Heap) (locs : List Loc) (ls : Array Slot), 0 ≤ x21.toInt → x21.toInt ≤ 12 → x22.toInt ≤ 7 → x21.toInt = A3 → x22.toInt ≤ A4 → x22.toInt ≤ A3 + x15.toInt + 1 → jH D cI cL ad σ τ H → va_S (jA ad) s.heap H locs → lv_has ls 18 [(7, .int x18), (6, .int x15), (5, .int x13), (0, .ref (ad 31)), (1, .int a1), (2, .ref (ad 1)), (3, .int a3), (4, .int a4), (8, .int x21), (9, .int x22)] → W p l e ({ frames := 3, cells := 0, slots := 0, locals := 76 }) s m args below meth c H locs 0 0 Q (F0 m 55 ls []) := by
       intro x21 x22 H locs ls h24 h25 h26 h27 h28 h29 hP hS hl
       have gx22 := jrg (rfl : x22.toInt = x22.toInt)
       exact by
        refine lv_iload hx hb dX1_judge_55 (lv_at hl 8 rfl) ?_
        refine lv_istore (lv' := [(10, .int x21), (7, .int x18), (6, .int x15), (5, .int x13), (0, .ref (ad 31)), (1, .int a1), (2, .ref (ad 1)), (3, .int a3), (4, .int a4), (8, .int x21), (9, .int x22)]) hx hb dX1_judge_57 hl (of_decide_eq_true rfl) rfl (fun ls hl => ?_)
        have lp31 : ∀ (n32 : Nat) (x33 : Int32) (σ34 : Nat → Nat → Int32) (H : Heap) (locs : List Loc) (ls : Array Slot), (-x33.toInt + 20 : Int) < n32 → 0 ≤ x33.toInt → x33.toInt ≤ 12 → (∀ i : Nat, (i < 34 ∨ 35 < i) → σ34 i = σ i) → jNz σ34 → jI31 σ34 → jH D cI cL ad σ34 τ H → va_S (jA ad) s.heap H locs → lv_has ls 18 [(10, .int x33), (7, .int x18), (6, .int x15), (5, .int x13), (0, .ref (ad 31)), (1, .int a1), (2, .ref (ad 1)), (3, .int a3), (4, .int a4), (8, .int x21), (9, .int x22)] → W p l e ({ frames := 3, cells := 0, slots := 0, locals := 76 }) s m args below meth c H locs 0 0 Q (F0 m 59 ls []) := by
          intro n32
          induction n32 with
          | zero => intro x33 σ34 H locs ls h36 h37 h38; exact absurd h36 (by omega)
          | succ n32 ihlp31 =>
            intro x33 σ34 H locs ls h36 h37 h38 f39 p40 p41 hP hS hl
            obtain ⟨i42, i43, i44, i45, w46, w47, w48⟩ : (0 ≤ (σ34 31 8).toInt ∧ (σ34 31 8).toInt ≤ 350) ∧ (0 ≤ (σ34 31 10).toInt ∧ (σ34 31 10).toInt ≤ 12) ∧ (0 ≤ (σ34 31 11).toInt ∧ (σ34 31 11).toInt ≤ 8) ∧ ((σ34 31 10).toInt + (σ34 31 11).toInt ≤ 12) ∧ (∀ k : Nat, k < 1400 → (-1) ≤ (σ34 33 k).toInt ∧ (σ34 33 k).toInt ≤ 350) ∧ (∀ k : Nat, k < 3159 → (-1) ≤ (σ34 35 k).toInt ∧ (σ34 35 k).toInt ≤ 3) ∧ (∀ k : Nat, k < 1024 → 0 ≤ (σ34 36 k).toInt ∧ (σ34 36 k).toInt ≤ 349) := id p41
            exact by
             have z49 : (σ34 31 8).toInt = (σ 31 8).toInt := (congrArg Int32.toInt (show σ34 31 8 = (σ 31 8) from (congrFun (f39 31 (of_decide_eq_true rfl)) 8)))
             have z50 : (σ34 31 10).toInt = (σ 31 10).toInt := (congrArg Int32.toInt (show σ34 31 10 = (σ 31 10) from (congrFun (f39 31 (of_decide_eq_true rfl)) 10)))
             have z51 : (σ34 31 11).toInt = (σ 31 11).toInt := (congrArg Int32.toInt (show σ34 31 11 = (σ 31 11) from (congrFun (f39 31 (of_decide_eq_true rfl)) 11)))
             refine lv_iload hx hb dX1_judge_59 (lv_at hl 0 rfl) ?_
             refine lv_iload hx hb dX1_judge_61 (lv_at hl 10 rfl) ?_
             refine lv_icmp_gt (tgt := 94) hx hb dX1_judge_63 (of_decide_eq_true rfl) (fun c52 => ?_) (fun c52 => ?_)
             · have kc52 := jlt c52 rfl rfl
               refine lv_aload_n hx hb dX1_judge_94 rfl (lv_at hl 4 rfl) ?_
               refine va_get (D := D) hx hb hts inlX1 hown hK hP 31 (jc_31 cI cL ad σ34 τ) rfl 4 (of_decide_eq_true rfl) (hts _ kw_5_5) (fun _ h9 => h9) rfl dX1_judge_95 ?_
               refine lv_iload hx hb dX1_judge_98 (lv_at hl 1 rfl) ?_
               refine lv_aload_n hx hb dX1_judge_100 rfl (lv_at hl 4 rfl) ?_
               refine va_get (D := D) hx hb hts inlX1 hown hK hP 31 (jc_31 cI cL ad σ34 τ) rfl 1 (of_decide_eq_true rfl) (hts _ kw_5_11) (fun _ h9 => h9) rfl dX1_judge_101 ?_
               refine va_get (D := D) hx hb hts inlX6 hown hK hP 16 (jc_16 cI cL ad σ34 τ) rfl 0 (of_decide_eq_true rfl) (hts _ kw_27_17) (fun _ h9 => h9) rfl dX1_judge_104 ?_
               have m53 : σ34 16 0 = (σ 16 0) := (congrFun (f39 16 (of_decide_eq_true rfl)) 0)
               refine jtopr m53 ?_
               have g54 := jrg (rfl : (σ 16 0).toInt = (σ 16 0).toInt)
               refine lv_iadd hx hb dX1_judge_107 ?_
               refine lv_topi (fun x55 ex55 => ?_)
               exact by
                have tx55 : x55.toInt = 9 * A1 + (σ 16 0).toInt := (jadd ex55 tx18 rfl (by omega) (by omega)).trans (by omega)
                refine lv_iconst (v := 0) hx hb dX1_judge_108 (of_decide_eq_true rfl) ?_
                refine jast hx hb hK hP hJ hA hS (jc_34 cI cL ad σ34 τ) (ja_34 cI cL ad σ34 τ _ _) (jin tx55 (by omega) (by omega)) dX1_judge_109 (fun σ56 H locs eσ56 hP hS => ?_)
                have p57 : jNz σ56 := (jNz.put p40 eσ56 (jnat (x := x55) tx55 (n := 3150) (by omega) (of_decide_eq_true rfl)))
                refine lv_iconst (v := 0) hx hb dX1_judge_110 (of_decide_eq_true rfl) ?_
                refine lv_istore (lv' := [(10, .int 0), (7, .int x18), (6, .int x15), (5, .int x13), (0, .ref (ad 31)), (1, .int a1), (2, .ref (ad 1)), (3, .int a3), (4, .int a4), (8, .int x21), (9, .int x22)]) hx hb dX1_judge_111 hl (of_decide_eq_true rfl) rfl (fun ls hl => ?_)
                have I69 : jI31 σ56 := jI31_fr (congrFun (jnp 31 eσ56 (of_decide_eq_true rfl)) 8) (congrFun (jnp 31 eσ56 (of_decide_eq_true rfl)) 10) (congrFun (jnp 31 eσ56 (of_decide_eq_true rfl)) 11) (jnp 33 eσ56 (of_decide_eq_true rfl)) (jnp 35 eσ56 (of_decide_eq_true rfl)) (jnp 36 eσ56 (of_decide_eq_true rfl)) p41
                have p71 : jN67 σ56 := jN67.fr ((jnp 24 eσ56 (of_decide_eq_true rfl)).trans (f39 24 (of_decide_eq_true rfl))) hs_jN67
                have p72 : jBl σ56 := jBl.fr ((congrFun (jnp 22 eσ56 (of_decide_eq_true rfl)) 0).trans (congrFun (f39 22 (of_decide_eq_true rfl)) 0)) ((congrFun (jnp 22 eσ56 (of_decide_eq_true rfl)) 1).trans (congrFun (f39 22 (of_decide_eq_true rfl)) 1)) ((jnp 23 eσ56 (of_decide_eq_true rfl)).trans (f39 23 (of_decide_eq_true rfl))) ((congrFun (jnp 26 eσ56 (of_decide_eq_true rfl)) 6).trans (congrFun (f39 26 (of_decide_eq_true rfl)) 6)) ((congrFun (jnp 26 eσ56 (of_decide_eq_true rfl)) 7).trans (congrFun (f39 26 (of_decide_eq_true rfl)) 7)) ((jnp 29 eσ56 (of_decide_eq_true rfl)).trans (f39 29 (of_decide_eq_true rfl))) ((jnp 30 eσ56 (of_decide_eq_true rfl)).trans (f39 30 (of_decide_eq_true rfl))) hs_jBl
                exact by
                 have lp58 : ∀ (n59 : Nat) (x60 : Int32) (σ68 : Nat → Nat → Int32) (H : Heap) (locs : List Loc) (ls : Array Slot), (-x60.toInt + 4 : Int) < n59 → 0 ≤ x60.toInt → x60.toInt ≤ 4 → (∀ i : Nat, (i < 24 ∨ 25 < i) ∧ (i < 29 ∨ 30 < i) ∧ (i < 34 ∨ 35 < i) → σ68 i = σ56 i) → jN67 σ68 → jBl σ68 → jNz σ68 → jI31 σ68 → jH D cI cL ad σ68 τ H → va_S (jA ad) s.heap H locs → lv_has ls 18 [(10, .int x60), (7, .int x18), (6, .int x15), (5, .int x13), (0, .ref (ad 31)), (1, .int a1), (2, .ref (ad 1)), (3, .int a3), (4, .int a4), (8, .int x21), (9, .int x22)] → W p l e ({ frames := 3, cells := 0, slots := 0, locals := 76 }) s m args below meth c H locs 0 0 Q (F0 m 113 ls []) := by
                   intro n59
                   induction n59 with
                   | zero => intro x60 σ68 H locs ls h73 h74 h75; exact absurd h73 (by omega)
                   | succ n59 ihlp58 =>
                     intro x60 σ68 H locs ls h73 h74 h75 f76 p77 p78 p79 p80 hP hS hl
                     obtain ⟨i81, i82, i83, i84, w85, w86, w87⟩ : (0 ≤ (σ68 31 8).toInt ∧ (σ68 31 8).toInt ≤ 350) ∧ (0 ≤ (σ68 31 10).toInt ∧ (σ68 31 10).toInt ≤ 12) ∧ (0 ≤ (σ68 31 11).toInt ∧ (σ68 31 11).toInt ≤ 8) ∧ ((σ68 31 10).toInt + (σ68 31 11).toInt ≤ 12) ∧ (∀ k : Nat, k < 1400 → (-1) ≤ (σ68 33 k).toInt ∧ (σ68 33 k).toInt ≤ 350) ∧ (∀ k : Nat, k < 3159 → (-1) ≤ (σ68 35 k).toInt ∧ (σ68 35 k).toInt ≤ 3) ∧ (∀ k : Nat, k < 1024 → 0 ≤ (σ68 36 k).toInt ∧ (σ68 36 k).toInt ≤ 349) := id p80
                     have z88 : (σ68 31 8).toInt = (σ 31 8).toInt := (congrArg Int32.toInt (show σ68 31 8 = (σ 31 8) from ((congrFun (f76 31 (of_decide_eq_true rfl)) 8).trans ((congrFun (jnp 31 eσ56 (of_decide_eq_true rfl)) 8).trans (congrFun (f39 31 (of_decide_eq_true rfl)) 8)))))
                     have z89 : (σ68 31 10).toInt = (σ 31 10).toInt := (congrArg Int32.toInt (show σ68 31 10 = (σ 31 10) from ((congrFun (f76 31 (of_decide_eq_true rfl)) 10).trans ((congrFun (jnp 31 eσ56 (of_decide_eq_true rfl)) 10).trans (congrFun (f39 31 (of_decide_eq_true rfl)) 10)))))
                     exact by
                      have z90 : (σ68 31 11).toInt = (σ 31 11).toInt := (congrArg Int32.toInt (show σ68 31 11 = (σ 31 11) from ((congrFun (f76 31 (of_decide_eq_true rfl)) 11).trans ((congrFun (jnp 31 eσ56 (of_decide_eq_true rfl)) 11).trans (congrFun (f39 31 (of_decide_eq_true rfl)) 11)))))
                      refine lv_iload hx hb dX1_judge_113 (lv_at hl 0 rfl) ?_
                      refine lv_iconst (v := 4) hx hb dX1_judge_115 (of_decide_eq_true rfl) ?_
                      refine lv_icmp_ge (tgt := 316) hx hb dX1_judge_116 (of_decide_eq_true rfl) (fun c91 => ?_) (fun c91 => ?_)
                      · have kc91 := jle c91 jz_4 rfl
                        have p92 : jKb σ68 := jKb.fr ((congrFun (f76 31 (of_decide_eq_true rfl)) 8).trans ((congrFun (jnp 31 eσ56 (of_decide_eq_true rfl)) 8).trans (congrFun (f39 31 (of_decide_eq_true rfl)) 8))) ((congrFun (f76 31 (of_decide_eq_true rfl)) 11).trans ((congrFun (jnp 31 eσ56 (of_decide_eq_true rfl)) 11).trans (congrFun (f39 31 (of_decide_eq_true rfl)) 11))) ((f76 32 (of_decide_eq_true rfl)).trans ((jnp 32 eσ56 (of_decide_eq_true rfl)).trans (f39 32 (of_decide_eq_true rfl)))) hs_jKb
                        exact hret σ68 τ _ _ _ _ ⟨rfl, (fun i hi => ((f76 i hi).trans ((jnp i eσ56 (imp_95 i hi)).trans (f39 i (imp_96 i hi))))), p80, p77, p78, p92, p79, trivial⟩ hP hS dX1_judge_316
                      · have kc91 := jnle c91 jz_4 rfl
                        refine lv_aload_n hx hb dX1_judge_119 rfl (lv_at hl 4 rfl) ?_
                        refine va_get (D := D) hx hb hts inlX1 hown hK hP 31 (jc_31 cI cL ad σ68 τ) rfl 3 (of_decide_eq_true rfl) (hts _ kw_5_4) (fun _ h9 => h9) rfl dX1_judge_120 ?_
                        refine lv_iload_n hx hb dX1_judge_123 rfl (lv_at hl 5 rfl) ?_
                        refine lv_iconst (v := 4) hx hb dX1_judge_124 (of_decide_eq_true rfl) ?_
                        refine lv_imul hx hb dX1_judge_125 ?_
                        refine lv_topi (fun x93 ex93 => ?_)
                        exact by
                         have tx93 : x93.toInt = 4 * A1 := (jmul ex93 t1 jz_4 (by omega) (by omega)).trans (by omega)
                         refine lv_iload hx hb dX1_judge_126 (lv_at hl 0 rfl) ?_
                         have g94 := jrg (rfl : x60.toInt = x60.toInt)
                         refine lv_iadd hx hb dX1_judge_128 ?_
                         refine lv_topi (fun x95 ex95 => ?_)
                         have tx95 : x95.toInt = 4 * A1 + x60.toInt := (jadd ex95 tx93 rfl (by omega) (by omega)).trans (by omega)
                         refine jald hx hb hK hP (jc_33 cI cL ad σ68 τ) (jin tx95 (by omega) (by omega)) dX1_judge_129 ?_
                         have g96 := w85 _ (jnat (x := x95) tx95 (n := 1400) (by omega) (of_decide_eq_true rfl))
                         refine jtopr (y := (σ 33 x95.toNatClampNeg)) (by rw [f76 33 (of_decide_eq_true rfl), jnp 33 eσ56 (of_decide_eq_true rfl), f39 33 (of_decide_eq_true rfl)]) ?_
                         rw [f76 33 (of_decide_eq_true rfl), jnp 33 eσ56 (of_decide_eq_true rfl), f39 33 (of_decide_eq_true rfl)] at g96
                         exact by
                          refine lv_bipush (v := 9) hx hb dX1_judge_130 (of_decide_eq_true rfl) ?_
                          have g97 := jrg (rfl : (σ 33 x95.toNatClampNeg).toInt = (σ 33 x95.toNatClampNeg).toInt)
                          refine lv_imul hx hb dX1_judge_132 ?_
                          refine lv_topi (fun x98 ex98 => ?_)
                          have tx98 : x98.toInt = 9 * (σ 33 x95.toNatClampNeg).toInt := (jmul ex98 rfl jz_9 (by omega) (by omega)).trans (by omega)
                          refine lv_istore (lv' := [(11, .int x98), (10, .int x60), (7, .int x18), (6, .int x15), (5, .int x13), (0, .ref (ad 31)), (1, .int a1), (2, .ref (ad 1)), (3, .int a3), (4, .int a4), (8, .int x21), (9, .int x22)]) hx hb dX1_judge_133 hl (of_decide_eq_true rfl) rfl (fun ls hl => ?_)
                          refine lv_iload hx hb dX1_judge_135 (lv_at hl 0 rfl) ?_
                          refine lv_if_ge (tgt := 143) hx hb dX1_judge_137 (of_decide_eq_true rfl) (fun c99 => ?_) (fun c99 => ?_)
                          · have kc99 := jle c99 jz_0 tx98
                            exact by
                             refine lv_iload hx hb dX1_judge_143 (lv_at hl 4 rfl) ?_
                             refine lv_iload hx hb dX1_judge_145 (lv_at hl 1 rfl) ?_
                             refine jcallS (As := [.int x13, .int x60]) (rest := []) ⟨hx, hb, hml, hown, hts⟩ hK hP hA hS hZ (c_X0_steps l D cI cL ad zz hJ σ68 τ x13 (x13.toInt) rfl x60 (x60.toInt) rfl) cw_RX1_136 ⟨Nat.le_of_ble_eq_true rfl, Nat.le_of_ble_eq_true rfl⟩ rfl rfl rfl hl.1 rfl (Nat.le_of_ble_eq_true rfl) dX1_judge_147 ⟨Nat.zero_le _, Nat.zero_le _⟩ (fun r101 σ100 τ100 H locs h100 hP hS => ?_)
                             obtain ⟨⟨rfl, rfl⟩, w102, h100⟩ := h100
                             have k103 := congrArg Int32.toInt w102
                             have h104 := h100
                             obtain ⟨q106, k105⟩ := h104
                             refine lv_istore (lv' := [(12, .int r101), (11, .int x98), (10, .int x60), (7, .int x18), (6, .int x15), (5, .int x13), (0, .ref (ad 31)), (1, .int a1), (2, .ref (ad 1)), (3, .int a3), (4, .int a4), (8, .int x21), (9, .int x22)]) hx hb dX1_judge_150 hl (of_decide_eq_true rfl) rfl (fun ls hl => ?_)
                             refine lv_iload hx hb dX1_judge_152 (lv_at hl 5 rfl) ?_
                             refine lv_iload hx hb dX1_judge_154 (lv_at hl 2 rfl) ?_
                             refine jcallS (As := [.int x13, .int x60]) (rest := []) ⟨hx, hb, hml, hown, hts⟩ hK hP hA hS hZ (c_X0_left l D cI cL ad zz hJ σ68 τ x13 (x13.toInt) rfl x60 (x60.toInt) rfl) cw_RX1_123 ⟨Nat.le_of_ble_eq_true rfl, Nat.le_of_ble_eq_true rfl⟩ rfl rfl rfl hl.1 rfl (Nat.le_of_ble_eq_true rfl) dX1_judge_156 ⟨Nat.zero_le _, Nat.zero_le _⟩ (fun r108 σ107 τ107 H locs h107 hP hS => ?_)
                             obtain ⟨⟨rfl, rfl⟩, w109, h107⟩ := h107
                             have k110 := congrArg Int32.toInt w109
                             have h111 := h107
                             obtain ⟨q113, k112⟩ := h111
                             refine lv_istore (lv' := [(13, .int r108), (12, .int r101), (11, .int x98), (10, .int x60), (7, .int x18), (6, .int x15), (5, .int x13), (0, .ref (ad 31)), (1, .int a1), (2, .ref (ad 1)), (3, .int a3), (4, .int a4), (8, .int x21), (9, .int x22)]) hx hb dX1_judge_159 hl (of_decide_eq_true rfl) rfl (fun ls hl => ?_)
                             refine lv_iload hx hb dX1_judge_161 (lv_at hl 12 rfl) ?_
                             refine lv_istore (lv' := [(14, .int x21), (13, .int r108), (12, .int r101), (11, .int x98), (10, .int x60), (7, .int x18), (6, .int x15), (5, .int x13), (0, .ref (ad 31)), (1, .int a1), (2, .ref (ad 1)), (3, .int a3), (4, .int a4), (8, .int x21), (9, .int x22)]) hx hb dX1_judge_163 hl (of_decide_eq_true rfl) rfl (fun ls hl => ?_)
                             have lp114 : ∀ (n115 : Nat) (x116 : Int32) (σ120 : Nat → Nat → Int32) (H : Heap) (locs : List Loc) (ls : Array Slot), (-x116.toInt + 20 : Int) < n115 → 0 ≤ x116.toInt → x116.toInt ≤ 12 → (∀ i : Nat, (i < 24 ∨ 25 < i) ∧ (i < 29 ∨ 30 < i) ∧ (i < 34 ∨ 35 < i) → σ120 i = σ68 i) → jN67 σ120 → jBl σ120 → jNz σ120 → jI31 σ120 → jH D cI cL ad σ120 τ H → va_S (jA ad) s.heap H locs → lv_has ls 18 [(14, .int x116), (13, .int r108), (12, .int r101), (11, .int x98), (10, .int x60), (7, .int x18), (6, .int x15), (5, .int x13), (0, .ref (ad 31)), (1, .int a1), (2, .ref (ad 1)), (3, .int a3), (4, .int a4), (8, .int x21), (9, .int x22)] → W p l e ({ frames := 3, cells := 0, slots := 0, locals := 76 }) s m args below meth c H locs 0 0 Q (F0 m 165 ls []) := by
                               intro n115
                               induction n115 with
                               | zero => intro x116 σ120 H locs ls h122 h123 h124; exact absurd h122 (by omega)
                               | succ n115 ihlp114 =>
                                 intro x116 σ120 H locs ls h122 h123 h124 f125 p126 p127 p128 p129 hP hS hl
                                 exact by
                                  obtain ⟨i130, i131, i132, i133, w134, w135, w136⟩ : (0 ≤ (σ120 31 8).toInt ∧ (σ120 31 8).toInt ≤ 350) ∧ (0 ≤ (σ120 31 10).toInt ∧ (σ120 31 10).toInt ≤ 12) ∧ (0 ≤ (σ120 31 11).toInt ∧ (σ120 31 11).toInt ≤ 8) ∧ ((σ120 31 10).toInt + (σ120 31 11).toInt ≤ 12) ∧ (∀ k : Nat, k < 1400 → (-1) ≤ (σ120 33 k).toInt ∧ (σ120 33 k).toInt ≤ 350) ∧ (∀ k : Nat, k < 3159 → (-1) ≤ (σ120 35 k).toInt ∧ (σ120 35 k).toInt ≤ 3) ∧ (∀ k : Nat, k < 1024 → 0 ≤ (σ120 36 k).toInt ∧ (σ120 36 k).toInt ≤ 349) := id p129
                                  have z137 : (σ120 31 8).toInt = (σ 31 8).toInt := (congrArg Int32.toInt (show σ120 31 8 = (σ 31 8) from ((congrFun (f125 31 (of_decide_eq_true rfl)) 8).trans ((congrFun (f76 31 (of_decide_eq_true rfl)) 8).trans ((congrFun (jnp 31 eσ56 (of_decide_eq_true rfl)) 8).trans (congrFun (f39 31 (of_decide_eq_true rfl)) 8))))))
                                  have z138 : (σ120 31 10).toInt = (σ 31 10).toInt := (congrArg Int32.toInt (show σ120 31 10 = (σ 31 10) from ((congrFun (f125 31 (of_decide_eq_true rfl)) 10).trans ((congrFun (f76 31 (of_decide_eq_true rfl)) 10).trans ((congrFun (jnp 31 eσ56 (of_decide_eq_true rfl)) 10).trans (congrFun (f39 31 (of_decide_eq_true rfl)) 10))))))
                                  have z139 : (σ120 31 11).toInt = (σ 31 11).toInt := (congrArg Int32.toInt (show σ120 31 11 = (σ 31 11) from ((congrFun (f125 31 (of_decide_eq_true rfl)) 11).trans ((congrFun (f76 31 (of_decide_eq_true rfl)) 11).trans ((congrFun (jnp 31 eσ56 (of_decide_eq_true rfl)) 11).trans (congrFun (f39 31 (of_decide_eq_true rfl)) 11))))))
                                  refine lv_iload hx hb dX1_judge_165 (lv_at hl 0 rfl) ?_
                                  refine lv_iload hx hb dX1_judge_167 (lv_at hl 14 rfl) ?_
                                  refine lv_icmp_gt (tgt := 310) hx hb dX1_judge_169 (of_decide_eq_true rfl) (fun c140 => ?_) (fun c140 => ?_)
                                  · have kc140 := jlt c140 rfl rfl
                                    obtain ⟨x141, ex141⟩ : ∃ y : Int32, y = x60 + 1 := ⟨_, rfl⟩
                                    exact by
                                     have tx141 : x141.toInt = x60.toInt + 1 := (jadd ex141 rfl jz_1 (by omega) (by omega)).trans (by omega)
                                     refine lv_iinc (v := x141) (lv' := [(10, .int x141), (14, .int x116), (13, .int r108), (12, .int r101), (11, .int x98), (7, .int x18), (6, .int x15), (5, .int x13), (0, .ref (ad 31)), (1, .int a1), (2, .ref (ad 1)), (3, .int a3), (4, .int a4), (8, .int x21), (9, .int x22)]) hx hb dX1_judge_310 hl (k := 4) rfl (by rw [ex141]; rfl) (of_decide_eq_true rfl) rfl (fun ls hl => ?_)
                                     refine lv_goto (tgt := 113) hx hb dX1_judge_313 (of_decide_eq_true rfl) ?_
                                     exact by exact ihlp58 x141 σ120 _ _ ls (by have h90 := tx141; omega) (by have h90 := tx141; omega) (by have h90 := tx141; omega) (fun i hi => ((f125 i hi).trans (f76 i hi)))   p126 p127 p128 p129 hP hS (lv_sub hl [0, 5, 6, 7, 8, 9, 10, 11, 12, 13, 14] rfl)
                                  · have kc140 := jnlt c140 rfl rfl
                                    refine lv_aload_n hx hb dX1_judge_172 rfl (lv_at hl 8 rfl) ?_
                                    refine va_get (D := D) hx hb hts inlX1 hown hK hP 31 (jc_31 cI cL ad σ120 τ) rfl 0 (of_decide_eq_true rfl) (hts _ kw_5_10) (fun _ h9 => h9) rfl dX1_judge_173 ?_
                                    refine lv_iload hx hb dX1_judge_176 (lv_at hl 4 rfl) ?_
                                    refine lv_aload_n hx hb dX1_judge_178 rfl (lv_at hl 10 rfl) ?_
                                    exact by
                                     refine lv_iload hx hb dX1_judge_179 (lv_at hl 0 rfl) ?_
                                     refine jald hx hb hK hP (jc_1 cI cL ad σ120 τ) (jin rfl (by omega) (by omega)) dX1_judge_181 ?_
                                     have w142 : ∀ k : Nat, k < 8 → 0 ≤ (σ120 1 k).toInt ∧ (σ120 1 k).toInt ≤ 3 := (jrr_fr (f125 1 (of_decide_eq_true rfl)) (jrr_fr (f76 1 (of_decide_eq_true rfl)) (jrr_fr (jnp 1 eσ56 (of_decide_eq_true rfl)) (jrr_fr (f39 1 (of_decide_eq_true rfl)) w12))))
                                     have g143 := w142 _ (jnat (x := x116) rfl (n := 8) (by omega) (of_decide_eq_true rfl))
                                     refine jtopr (y := (σ 1 x116.toNatClampNeg)) (by rw [f125 1 (of_decide_eq_true rfl), f76 1 (of_decide_eq_true rfl), jnp 1 eσ56 (of_decide_eq_true rfl), f39 1 (of_decide_eq_true rfl)]) ?_
                                     rw [f125 1 (of_decide_eq_true rfl), f76 1 (of_decide_eq_true rfl), jnp 1 eσ56 (of_decide_eq_true rfl), f39 1 (of_decide_eq_true rfl)] at g143
                                     refine lv_iload hx hb dX1_judge_182 (lv_at hl 2 rfl) ?_
                                     refine jcallV (As := [.int x60, .int (σ 1 x116.toNatClampNeg), .int r101]) (rest := []) ⟨hx, hb, hml, hown, hts⟩ hK hP hA hS hZ (c_X5_runsOf_26 l D cI cL ad zz hJ σ120 τ x60 (x60.toInt) rfl (σ 1 x116.toNatClampNeg) ((σ 1 x116.toNatClampNeg).toInt) rfl r101 (r101.toInt) rfl (by omega) (by omega) (by omega)) cw_RX1_139 (jc_26 cI cL ad σ120 τ) rfl ⟨Nat.le_of_ble_eq_true rfl, Nat.le_of_ble_eq_true rfl⟩ rfl rfl rfl hl.1 rfl (Nat.le_of_ble_eq_true rfl) dX1_judge_184 ⟨Nat.zero_le _, Nat.zero_le _⟩ (fun r145 σ144 τ144 H locs h144 hP hS => ?_)
                                     obtain ⟨⟨rfl, rfl⟩, w146, h144⟩ := h144
                                     exact by
                                      refine lv_istore (lv' := [(15, .int r145), (14, .int x116), (13, .int r108), (12, .int r101), (11, .int x98), (10, .int x60), (7, .int x18), (6, .int x15), (5, .int x13), (0, .ref (ad 31)), (1, .int a1), (2, .ref (ad 1)), (3, .int a3), (4, .int a4), (8, .int x21), (9, .int x22)]) hx hb dX1_judge_187 hl (of_decide_eq_true rfl) rfl (fun ls hl => ?_)
                                      refine lv_aload_n hx hb dX1_judge_189 rfl (lv_at hl 9 rfl) ?_
                                      refine va_get (D := D) hx hb hts inlX1 hown hK hP 31 (jc_31 cI cL ad σ120 τ) rfl 0 (of_decide_eq_true rfl) (hts _ kw_5_10) (fun _ h9 => h9) rfl dX1_judge_190 ?_
                                      refine lv_iload hx hb dX1_judge_193 (lv_at hl 5 rfl) ?_
                                      refine lv_aload_n hx hb dX1_judge_195 rfl (lv_at hl 11 rfl) ?_
                                      refine lv_iload hx hb dX1_judge_196 (lv_at hl 1 rfl) ?_
                                      refine jald hx hb hK hP (jc_1 cI cL ad σ120 τ) (jin rfl (by omega) (by omega)) dX1_judge_198 ?_
                                      refine jtopr (y := (σ 1 x116.toNatClampNeg)) (by rw [f125 1 (of_decide_eq_true rfl), f76 1 (of_decide_eq_true rfl), jnp 1 eσ56 (of_decide_eq_true rfl), f39 1 (of_decide_eq_true rfl)]) ?_
                                      refine lv_iload hx hb dX1_judge_199 (lv_at hl 3 rfl) ?_
                                      exact by
                                       refine lv_iload hx hb dX1_judge_201 (lv_at hl 2 rfl) ?_
                                       refine lv_aload_n hx hb dX1_judge_203 rfl (lv_at hl 9 rfl) ?_
                                       refine va_get (D := D) hx hb hts inlX1 hown hK hP 31 (jc_31 cI cL ad σ120 τ) rfl 10 (of_decide_eq_true rfl) (hts _ kw_28_9) (fun _ h9 => h9) rfl dX1_judge_204 ?_
                                       have m147 : σ120 31 10 = (σ 31 10) := ((congrFun (f125 31 (of_decide_eq_true rfl)) 10).trans ((congrFun (f76 31 (of_decide_eq_true rfl)) 10).trans ((congrFun (jnp 31 eσ56 (of_decide_eq_true rfl)) 10).trans (congrFun (f39 31 (of_decide_eq_true rfl)) 10))))
                                       refine jtopr m147 ?_
                                       refine lv_iload hx hb dX1_judge_207 (lv_at hl 7 rfl) ?_
                                       have g148 := jrg (rfl : (σ 31 10).toInt = (σ 31 10).toInt)
                                       have g149 := jrg (rfl : x15.toInt = x15.toInt)
                                       refine lv_iadd hx hb dX1_judge_209 ?_
                                       refine lv_topi (fun x150 ex150 => ?_)
                                       exact by
                                        have tx150 : x150.toInt = (σ 31 10).toInt + x15.toInt := (jadd ex150 rfl rfl (by omega) (by omega)).trans (by omega)
                                        refine lv_iload hx hb dX1_judge_210 (lv_at hl 1 rfl) ?_
                                        have I151 : jI22 σ120 := jI22_fr ((congrFun (f125 22 (of_decide_eq_true rfl)) 0).trans ((congrFun (f76 22 (of_decide_eq_true rfl)) 0).trans ((congrFun (jnp 22 eσ56 (of_decide_eq_true rfl)) 0).trans (congrFun (f39 22 (of_decide_eq_true rfl)) 0)))) ((f125 23 (of_decide_eq_true rfl)).trans ((f76 23 (of_decide_eq_true rfl)).trans ((jnp 23 eσ56 (of_decide_eq_true rfl)).trans (f39 23 (of_decide_eq_true rfl))))) hI22
                                        have I152 : jI26 σ120 := jI26_fr ((congrFun (f125 26 (of_decide_eq_true rfl)) 6).trans ((congrFun (f76 26 (of_decide_eq_true rfl)) 6).trans ((congrFun (jnp 26 eσ56 (of_decide_eq_true rfl)) 6).trans (congrFun (f39 26 (of_decide_eq_true rfl)) 6)))) hI26
                                        refine jcallV (As := [.int x60, .int (σ 1 x116.toNatClampNeg), .int r101, .int r108, .int x150, .int x116]) (rest := []) ⟨hx, hb, hml, hown, hts⟩ hK hP hA hS hZ (c_X5_outOf_26 l D cI cL ad zz hJ σ120 τ x60 (x60.toInt) rfl (σ 1 x116.toNatClampNeg) ((σ 1 x116.toNatClampNeg).toInt) rfl r101 (r101.toInt) rfl r108 (r108.toInt) rfl x150 ((σ 31 10).toInt + x15.toInt) tx150 x116 (x116.toInt) rfl I151 I152 p126 p127 (by omega) (by omega) (by omega) (by omega) (by omega) (by omega)) cw_RX1_142 (jc_26 cI cL ad σ120 τ) rfl ⟨Nat.le_of_ble_eq_true rfl, Nat.le_of_ble_eq_true rfl⟩ rfl rfl rfl hl.1 rfl (Nat.le_of_ble_eq_true rfl) dX1_judge_212 ⟨Nat.zero_le _, Nat.zero_le _⟩ (fun r154 σ153 τ153 H locs h153 hP hS => ?_)
                                        obtain ⟨rfl, f155, p156, p157, w158, h153⟩ := h153
                                        refine lv_istore (lv' := [(16, .int r154), (15, .int r145), (14, .int x116), (13, .int r108), (12, .int r101), (11, .int x98), (10, .int x60), (7, .int x18), (6, .int x15), (5, .int x13), (0, .ref (ad 31)), (1, .int a1), (2, .ref (ad 1)), (3, .int a3), (4, .int a4), (8, .int x21), (9, .int x22)]) hx hb dX1_judge_215 hl (of_decide_eq_true rfl) rfl (fun ls hl => ?_)
                                        refine lv_aload_n hx hb dX1_judge_217 rfl (lv_at hl 10 rfl) ?_
                                        refine va_get (D := D) hx hb hts inlX1 hown hK hP 31 (jc_31 cI cL ad σ153 τ) rfl 1 (of_decide_eq_true rfl) (hts _ kw_5_11) (fun _ h9 => h9) rfl dX1_judge_218 ?_
                                        exact by
                                         refine lv_iload hx hb dX1_judge_221 (lv_at hl 1 rfl) ?_
                                         refine lv_iload hx hb dX1_judge_223 (lv_at hl 0 rfl) ?_
                                         refine lv_aload_n hx hb dX1_judge_225 rfl (lv_at hl 10 rfl) ?_
                                         refine va_get (D := D) hx hb hts inlX1 hown hK hP 31 (jc_31 cI cL ad σ153 τ) rfl 4 (of_decide_eq_true rfl) (hts _ kw_5_5) (fun _ h9 => h9) rfl dX1_judge_226 ?_
                                         refine lv_iload hx hb dX1_judge_229 (lv_at hl 5 rfl) ?_
                                         refine lv_iload hx hb dX1_judge_231 (lv_at hl 2 rfl) ?_
                                         have g160 := jrg (rfl : x116.toInt = x116.toInt)
                                         refine lv_iadd hx hb dX1_judge_233 ?_
                                         refine lv_topi (fun x161 ex161 => ?_)
                                         exact by
                                          have tx161 : x161.toInt = 9 * (σ 33 x95.toNatClampNeg).toInt + x116.toInt := (jadd ex161 tx98 rfl (by omega) (by omega)).trans (by omega)
                                          refine lv_iconst (v := 1) hx hb dX1_judge_234 (of_decide_eq_true rfl) ?_
                                          refine lv_iadd hx hb dX1_judge_235 ?_
                                          refine lv_topi (fun x162 ex162 => ?_)
                                          have tx162 : x162.toInt = 9 * (σ 33 x95.toNatClampNeg).toInt + x116.toInt + 1 := (jadd ex162 tx161 jz_1 (by omega) (by omega)).trans (by omega)
                                          refine jald hx hb hK hP (jc_34 cI cL ad σ153 τ) (jin tx162 (by omega) (by omega)) dX1_judge_236 ?_
                                          refine jtopr (y := (σ120 34 x162.toNatClampNeg)) (by rw [f155 34 (of_decide_eq_true rfl)]) ?_
                                          refine lv_aload_n hx hb dX1_judge_237 rfl (lv_at hl 10 rfl) ?_
                                          refine va_get (D := D) hx hb hts inlX1 hown hK hP 31 (jc_31 cI cL ad σ153 τ) rfl 4 (of_decide_eq_true rfl) (hts _ kw_5_5) (fun _ h9 => h9) rfl dX1_judge_238 ?_
                                          exact by
                                           refine lv_iload hx hb dX1_judge_241 (lv_at hl 5 rfl) ?_
                                           refine lv_iload hx hb dX1_judge_243 (lv_at hl 2 rfl) ?_
                                           refine lv_iadd hx hb dX1_judge_245 ?_
                                           refine lv_topi (fun x163 ex163 => ?_)
                                           have tx163 : x163.toInt = 9 * (σ 33 x95.toNatClampNeg).toInt + x116.toInt := (jadd ex163 tx98 rfl (by omega) (by omega)).trans (by omega)
                                           refine jald hx hb hK hP (jc_34 cI cL ad σ153 τ) (jin tx163 (by omega) (by omega)) dX1_judge_246 ?_
                                           refine jtopr (y := (σ120 34 x163.toNatClampNeg)) (by rw [f155 34 (of_decide_eq_true rfl)]) ?_
                                           refine jcallV (As := [.int r145, .int r154, .int (σ120 34 x162.toNatClampNeg), .int (σ120 34 x163.toNatClampNeg)]) (rest := []) ⟨hx, hb, hml, hown, hts⟩ hK hP hA hS hZ (c_X6_meanOf_16 l D cI cL ad zz hJ σ153 τ r145 (r145.toInt) rfl r154 (r154.toInt) rfl (σ120 34 x162.toNatClampNeg) ((σ120 34 x162.toNatClampNeg).toInt) rfl (σ120 34 x163.toNatClampNeg) ((σ120 34 x163.toNatClampNeg).toInt) rfl) cw_RX1_146 (jc_16 cI cL ad σ153 τ) rfl ⟨Nat.le_of_ble_eq_true rfl, Nat.le_of_ble_eq_true rfl⟩ rfl rfl rfl hl.1 rfl (Nat.le_of_ble_eq_true rfl) dX1_judge_247 ⟨Nat.zero_le _, Nat.zero_le _⟩ (fun r165 σ164 τ164 H locs h164 hP hS => ?_)
                                           obtain ⟨⟨rfl, rfl⟩, w166, h164⟩ := h164
                                           exact by
                                            refine lv_istore (lv' := [(17, .int r165), (16, .int r154), (15, .int r145), (14, .int x116), (13, .int r108), (12, .int r101), (11, .int x98), (10, .int x60), (7, .int x18), (6, .int x15), (5, .int x13), (0, .ref (ad 31)), (1, .int a1), (2, .ref (ad 1)), (3, .int a3), (4, .int a4), (8, .int x21), (9, .int x22)]) hx hb dX1_judge_250 hl (of_decide_eq_true rfl) rfl (fun ls hl => ?_)
                                            refine lv_aload_n hx hb dX1_judge_252 rfl (lv_at hl 11 rfl) ?_
                                            refine va_get (D := D) hx hb hts inlX1 hown hK hP 31 (jc_31 cI cL ad σ153 τ) rfl 5 (of_decide_eq_true rfl) (hts _ kw_5_6) (fun _ h9 => h9) rfl dX1_judge_253 ?_
                                            refine lv_iload hx hb dX1_judge_256 (lv_at hl 8 rfl) ?_
                                            refine lv_iload hx hb dX1_judge_258 (lv_at hl 3 rfl) ?_
                                            refine lv_iadd hx hb dX1_judge_260 ?_
                                            refine lv_topi (fun x167 ex167 => ?_)
                                            have tx167 : x167.toInt = 9 * A1 + x116.toInt := (jadd ex167 tx18 rfl (by omega) (by omega)).trans (by omega)
                                            refine jald hx hb hK hP (jc_35 cI cL ad σ153 τ) (jin tx167 (by omega) (by omega)) dX1_judge_261 ?_
                                            exact by
                                             have w168 : ∀ k : Nat, k < 3159 → (-1) ≤ (σ153 35 k).toInt ∧ (σ153 35 k).toInt ≤ 3 := (jrr_fr (f155 35 (of_decide_eq_true rfl)) w135)
                                             have g169 := w168 _ (jnat (x := x167) tx167 (n := 3159) (by omega) (of_decide_eq_true rfl))
                                             refine jtopr (y := (σ120 35 x167.toNatClampNeg)) (by rw [f155 35 (of_decide_eq_true rfl)]) ?_
                                             rw [f155 35 (of_decide_eq_true rfl)] at g169
                                             refine lv_if_lt (tgt := 280) hx hb dX1_judge_262 (of_decide_eq_true rfl) (fun c170 => ?_) (fun c170 => ?_)
                                             · have kc170 := jlt c170 rfl jz_0
                                               refine lv_aload_n hx hb dX1_judge_280 rfl (lv_at hl 11 rfl) ?_
                                               refine va_get (D := D) hx hb hts inlX1 hown hK hP 31 (jc_31 cI cL ad σ153 τ) rfl 4 (of_decide_eq_true rfl) (hts _ kw_5_5) (fun _ h9 => h9) rfl dX1_judge_281 ?_
                                               refine lv_iload hx hb dX1_judge_284 (lv_at hl 8 rfl) ?_
                                               exact by
                                                refine lv_iload hx hb dX1_judge_286 (lv_at hl 3 rfl) ?_
                                                refine lv_iadd hx hb dX1_judge_288 ?_
                                                refine lv_topi (fun x171 ex171 => ?_)
                                                have tx171 : x171.toInt = 9 * A1 + x116.toInt := (jadd ex171 tx18 rfl (by omega) (by omega)).trans (by omega)
                                                refine lv_iload hx hb dX1_judge_289 (lv_at hl 0 rfl) ?_
                                                refine jast hx hb hK hP hJ hA hS (jc_34 cI cL ad σ153 τ) (ja_34 cI cL ad σ153 τ _ _) (jin tx171 (by omega) (by omega)) dX1_judge_291 (fun σ172 H locs eσ172 hP hS => ?_)
                                                have p173 : jNz σ153 := jNz.fr (f155 34 (of_decide_eq_true rfl)) p128
                                                have p174 : jNz σ172 := (jNz.put p173 eσ172 (jnat (x := x171) tx171 (n := 3150) (by omega) (of_decide_eq_true rfl)))
                                                refine lv_aload_n hx hb dX1_judge_292 rfl (lv_at hl 11 rfl) ?_
                                                exact by
                                                 refine va_get (D := D) hx hb hts inlX1 hown hK hP 31 (jc_31 cI cL ad σ172 τ) rfl 5 (of_decide_eq_true rfl) (hts _ kw_5_6) (fun _ h9 => h9) rfl dX1_judge_293 ?_
                                                 refine lv_iload hx hb dX1_judge_296 (lv_at hl 8 rfl) ?_
                                                 refine lv_iload hx hb dX1_judge_298 (lv_at hl 3 rfl) ?_
                                                 refine lv_iadd hx hb dX1_judge_300 ?_
                                                 refine lv_topi (fun x175 ex175 => ?_)
                                                 have tx175 : x175.toInt = 9 * A1 + x116.toInt := (jadd ex175 tx18 rfl (by omega) (by omega)).trans (by omega)
                                                 refine lv_iload hx hb dX1_judge_301 (lv_at hl 7 rfl) ?_
                                                 refine jast hx hb hK hP hJ hA hS (jc_35 cI cL ad σ172 τ) (ja_35 cI cL ad σ172 τ _ _) (jin tx175 (by omega) (by omega)) dX1_judge_303 (fun σ176 H locs eσ176 hP hS => ?_)
                                                 obtain ⟨x177, ex177⟩ : ∃ y : Int32, y = x116 + 1 := ⟨_, rfl⟩
                                                 exact by
                                                  have tx177 : x177.toInt = x116.toInt + 1 := (jadd ex177 rfl jz_1 (by omega) (by omega)).trans (by omega)
                                                  refine lv_iinc (v := x177) (lv' := [(14, .int x177), (17, .int r165), (16, .int r154), (15, .int r145), (13, .int r108), (12, .int r101), (11, .int x98), (10, .int x60), (7, .int x18), (6, .int x15), (5, .int x13), (0, .ref (ad 31)), (1, .int a1), (2, .ref (ad 1)), (3, .int a3), (4, .int a4), (8, .int x21), (9, .int x22)]) hx hb dX1_judge_304 hl (k := 3) rfl (by rw [ex177]; rfl) (of_decide_eq_true rfl) rfl (fun ls hl => ?_)
                                                  refine lv_goto (tgt := 165) hx hb dX1_judge_307 (of_decide_eq_true rfl) ?_
                                                  have p178 : jN67 σ176 := jN67.fr ((jnp 24 eσ176 (of_decide_eq_true rfl)).trans (jnp 24 eσ172 (of_decide_eq_true rfl))) p156
                                                  have p179 : jBl σ176 := jBl.fr ((congrFun (jnp 22 eσ176 (of_decide_eq_true rfl)) 0).trans (congrFun (jnp 22 eσ172 (of_decide_eq_true rfl)) 0)) ((congrFun (jnp 22 eσ176 (of_decide_eq_true rfl)) 1).trans (congrFun (jnp 22 eσ172 (of_decide_eq_true rfl)) 1)) ((jnp 23 eσ176 (of_decide_eq_true rfl)).trans (jnp 23 eσ172 (of_decide_eq_true rfl))) ((congrFun (jnp 26 eσ176 (of_decide_eq_true rfl)) 6).trans (congrFun (jnp 26 eσ172 (of_decide_eq_true rfl)) 6)) ((congrFun (jnp 26 eσ176 (of_decide_eq_true rfl)) 7).trans (congrFun (jnp 26 eσ172 (of_decide_eq_true rfl)) 7)) ((jnp 29 eσ176 (of_decide_eq_true rfl)).trans (jnp 29 eσ172 (of_decide_eq_true rfl))) ((jnp 30 eσ176 (of_decide_eq_true rfl)).trans (jnp 30 eσ172 (of_decide_eq_true rfl))) p157
                                                  have p180 : jNz σ176 := jNz.fr (jnp 34 eσ176 (of_decide_eq_true rfl)) p174
                                                  have z181 : (σ176 31 8).toInt = (σ 31 8).toInt := (congrArg Int32.toInt (show σ176 31 8 = (σ 31 8) from ((congrFun (jnp 31 eσ176 (of_decide_eq_true rfl)) 8).trans ((congrFun (jnp 31 eσ172 (of_decide_eq_true rfl)) 8).trans ((congrFun (f155 31 (of_decide_eq_true rfl)) 8).trans ((congrFun (f125 31 (of_decide_eq_true rfl)) 8).trans ((congrFun (f76 31 (of_decide_eq_true rfl)) 8).trans ((congrFun (jnp 31 eσ56 (of_decide_eq_true rfl)) 8).trans (congrFun (f39 31 (of_decide_eq_true rfl)) 8)))))))))
                                                  have z182 : (σ176 31 10).toInt = (σ 31 10).toInt := (congrArg Int32.toInt (show σ176 31 10 = (σ 31 10) from ((congrFun (jnp 31 eσ176 (of_decide_eq_true rfl)) 10).trans ((congrFun (jnp 31 eσ172 (of_decide_eq_true rfl)) 10).trans ((congrFun (f155 31 (of_decide_eq_true rfl)) 10).trans m147)))))
                                                  have z183 : (σ176 31 11).toInt = (σ 31 11).toInt := (congrArg Int32.toInt (show σ176 31 11 = (σ 31 11) from ((congrFun (jnp 31 eσ176 (of_decide_eq_true rfl)) 11).trans ((congrFun (jnp 31 eσ172 (of_decide_eq_true rfl)) 11).trans ((congrFun (f155 31 (of_decide_eq_true rfl)) 11).trans ((congrFun (f125 31 (of_decide_eq_true rfl)) 11).trans ((congrFun (f76 31 (of_decide_eq_true rfl)) 11).trans ((congrFun (jnp 31 eσ56 (of_decide_eq_true rfl)) 11).trans (congrFun (f39 31 (of_decide_eq_true rfl)) 11)))))))))
                                                  exact by
                                                   have w184 : ∀ k : Nat, k < 1400 → (-1) ≤ (σ176 33 k).toInt ∧ (σ176 33 k).toInt ≤ 350 := (jrr_fr (jnp 33 eσ176 (of_decide_eq_true rfl)) (jrr_fr (jnp 33 eσ172 (of_decide_eq_true rfl)) (jrr_fr (f155 33 (of_decide_eq_true rfl)) w134)))
                                                   have w185 : ∀ k : Nat, k < 3159 → (-1) ≤ (σ176 35 k).toInt ∧ (σ176 35 k).toInt ≤ 3 := (by rw [eσ176]; exact jrr_up (jrr_fr (jnp 35 eσ172 (of_decide_eq_true rfl)) w168) (by omega) (by omega))
                                                   have w186 : ∀ k : Nat, k < 1024 → 0 ≤ (σ176 36 k).toInt ∧ (σ176 36 k).toInt ≤ 349 := (jrr_fr (jnp 36 eσ176 (of_decide_eq_true rfl)) (jrr_fr (jnp 36 eσ172 (of_decide_eq_true rfl)) (jrr_fr (f155 36 (of_decide_eq_true rfl)) w136)))
                                                   have I187 : jI31 σ176 := ⟨(by omega), (by omega), (by omega), (by omega), w184, w185, w186⟩
                                                   exact by exact ihlp114 x177 σ176 _ _ ls (by have h90 := tx177; omega) (by have h90 := tx177; omega) (by have h90 := tx177; omega) (fun i hi => ((jnp i eσ176 (imp_97 i hi)).trans ((jnp i eσ172 (imp_95 i hi)).trans ((f155 i (imp_98 i hi)).trans (f125 i hi)))))   p178 p179 p180 I187 hP hS (lv_sub hl [0, 4, 5, 6, 7, 8, 9, 10, 11, 12, 13, 14, 15, 16, 17] rfl)
                                             · have kc170 := jnlt c170 rfl jz_0
                                               refine lv_iload hx hb dX1_judge_265 (lv_at hl 0 rfl) ?_
                                               refine lv_aload_n hx hb dX1_judge_267 rfl (lv_at hl 11 rfl) ?_
                                               refine va_get (D := D) hx hb hts inlX1 hown hK hP 31 (jc_31 cI cL ad σ153 τ) rfl 4 (of_decide_eq_true rfl) (hts _ kw_5_5) (fun _ h9 => h9) rfl dX1_judge_268 ?_
                                               exact by
                                                refine lv_iload hx hb dX1_judge_271 (lv_at hl 8 rfl) ?_
                                                refine lv_iload hx hb dX1_judge_273 (lv_at hl 3 rfl) ?_
                                                refine lv_iadd hx hb dX1_judge_275 ?_
                                                refine lv_topi (fun x188 ex188 => ?_)
                                                have tx188 : x188.toInt = 9 * A1 + x116.toInt := (jadd ex188 tx18 rfl (by omega) (by omega)).trans (by omega)
                                                refine jald hx hb hK hP (jc_34 cI cL ad σ153 τ) (jin tx188 (by omega) (by omega)) dX1_judge_276 ?_
                                                refine jtopr (y := (σ120 34 x188.toNatClampNeg)) (by rw [f155 34 (of_decide_eq_true rfl)]) ?_
                                                refine lv_icmp_ge (tgt := 304) hx hb dX1_judge_277 (of_decide_eq_true rfl) (fun c189 => ?_) (fun c189 => ?_)
                                                · have kc189 := jle c189 rfl rfl
                                                  exact by
                                                   obtain ⟨x190, ex190⟩ : ∃ y : Int32, y = x116 + 1 := ⟨_, rfl⟩
                                                   have tx190 : x190.toInt = x116.toInt + 1 := (jadd ex190 rfl jz_1 (by omega) (by omega)).trans (by omega)
                                                   refine lv_iinc (v := x190) (lv' := [(14, .int x190), (17, .int r165), (16, .int r154), (15, .int r145), (13, .int r108), (12, .int r101), (11, .int x98), (10, .int x60), (7, .int x18), (6, .int x15), (5, .int x13), (0, .ref (ad 31)), (1, .int a1), (2, .ref (ad 1)), (3, .int a3), (4, .int a4), (8, .int x21), (9, .int x22)]) hx hb dX1_judge_304 hl (k := 3) rfl (by rw [ex190]; rfl) (of_decide_eq_true rfl) rfl (fun ls hl => ?_)
                                                   refine lv_goto (tgt := 165) hx hb dX1_judge_307 (of_decide_eq_true rfl) ?_
                                                   have p191 : jNz σ153 := jNz.fr (f155 34 (of_decide_eq_true rfl)) p128
                                                   have I192 : jI31 σ153 := jI31_fr (congrFun (f155 31 (of_decide_eq_true rfl)) 8) (congrFun (f155 31 (of_decide_eq_true rfl)) 10) (congrFun (f155 31 (of_decide_eq_true rfl)) 11) (f155 33 (of_decide_eq_true rfl)) (f155 35 (of_decide_eq_true rfl)) (f155 36 (of_decide_eq_true rfl)) p129
                                                   exact by exact ihlp114 x190 σ153 _ _ ls (by have h90 := tx190; omega) (by have h90 := tx190; omega) (by have h90 := tx190; omega) (fun i hi => ((f155 i (imp_98 i hi)).trans (f125 i hi)))   p156 p157 p191 I192 hP hS (lv_sub hl [0, 4, 5, 6, 7, 8, 9, 10, 11, 12, 13, 14, 15, 16, 17] rfl)
                                                · have kc189 := jnle c189 rfl rfl
                                                  refine lv_aload_n hx hb dX1_judge_280 rfl (lv_at hl 11 rfl) ?_
                                                  exact by
                                                   refine va_get (D := D) hx hb hts inlX1 hown hK hP 31 (jc_31 cI cL ad σ153 τ) rfl 4 (of_decide_eq_true rfl) (hts _ kw_5_5) (fun _ h9 => h9) rfl dX1_judge_281 ?_
                                                   refine lv_iload hx hb dX1_judge_284 (lv_at hl 8 rfl) ?_
                                                   refine lv_iload hx hb dX1_judge_286 (lv_at hl 3 rfl) ?_
                                                   refine lv_iadd hx hb dX1_judge_288 ?_
                                                   refine lv_topi (fun x193 ex193 => ?_)
                                                   have tx193 : x193.toInt = 9 * A1 + x116.toInt := (jadd ex193 tx18 rfl (by omega) (by omega)).trans (by omega)
                                                   refine lv_iload hx hb dX1_judge_289 (lv_at hl 0 rfl) ?_
                                                   refine jast hx hb hK hP hJ hA hS (jc_34 cI cL ad σ153 τ) (ja_34 cI cL ad σ153 τ _ _) (jin tx193 (by omega) (by omega)) dX1_judge_291 (fun σ194 H locs eσ194 hP hS => ?_)
                                                   have p195 : jNz σ153 := jNz.fr (f155 34 (of_decide_eq_true rfl)) p128
                                                   exact by
                                                    have p196 : jNz σ194 := (jNz.put p195 eσ194 (jnat (x := x193) tx193 (n := 3150) (by omega) (of_decide_eq_true rfl)))
                                                    refine lv_aload_n hx hb dX1_judge_292 rfl (lv_at hl 11 rfl) ?_
                                                    refine va_get (D := D) hx hb hts inlX1 hown hK hP 31 (jc_31 cI cL ad σ194 τ) rfl 5 (of_decide_eq_true rfl) (hts _ kw_5_6) (fun _ h9 => h9) rfl dX1_judge_293 ?_
                                                    refine lv_iload hx hb dX1_judge_296 (lv_at hl 8 rfl) ?_
                                                    refine lv_iload hx hb dX1_judge_298 (lv_at hl 3 rfl) ?_
                                                    refine lv_iadd hx hb dX1_judge_300 ?_
                                                    refine lv_topi (fun x197 ex197 => ?_)
                                                    have tx197 : x197.toInt = 9 * A1 + x116.toInt := (jadd ex197 tx18 rfl (by omega) (by omega)).trans (by omega)
                                                    refine lv_iload hx hb dX1_judge_301 (lv_at hl 7 rfl) ?_
                                                    exact by
                                                     refine jast hx hb hK hP hJ hA hS (jc_35 cI cL ad σ194 τ) (ja_35 cI cL ad σ194 τ _ _) (jin tx197 (by omega) (by omega)) dX1_judge_303 (fun σ198 H locs eσ198 hP hS => ?_)
                                                     obtain ⟨x199, ex199⟩ : ∃ y : Int32, y = x116 + 1 := ⟨_, rfl⟩
                                                     have tx199 : x199.toInt = x116.toInt + 1 := (jadd ex199 rfl jz_1 (by omega) (by omega)).trans (by omega)
                                                     refine lv_iinc (v := x199) (lv' := [(14, .int x199), (17, .int r165), (16, .int r154), (15, .int r145), (13, .int r108), (12, .int r101), (11, .int x98), (10, .int x60), (7, .int x18), (6, .int x15), (5, .int x13), (0, .ref (ad 31)), (1, .int a1), (2, .ref (ad 1)), (3, .int a3), (4, .int a4), (8, .int x21), (9, .int x22)]) hx hb dX1_judge_304 hl (k := 3) rfl (by rw [ex199]; rfl) (of_decide_eq_true rfl) rfl (fun ls hl => ?_)
                                                     refine lv_goto (tgt := 165) hx hb dX1_judge_307 (of_decide_eq_true rfl) ?_
                                                     have p200 : jN67 σ198 := jN67.fr ((jnp 24 eσ198 (of_decide_eq_true rfl)).trans (jnp 24 eσ194 (of_decide_eq_true rfl))) p156
                                                     have p201 : jBl σ198 := jBl.fr ((congrFun (jnp 22 eσ198 (of_decide_eq_true rfl)) 0).trans (congrFun (jnp 22 eσ194 (of_decide_eq_true rfl)) 0)) ((congrFun (jnp 22 eσ198 (of_decide_eq_true rfl)) 1).trans (congrFun (jnp 22 eσ194 (of_decide_eq_true rfl)) 1)) ((jnp 23 eσ198 (of_decide_eq_true rfl)).trans (jnp 23 eσ194 (of_decide_eq_true rfl))) ((congrFun (jnp 26 eσ198 (of_decide_eq_true rfl)) 6).trans (congrFun (jnp 26 eσ194 (of_decide_eq_true rfl)) 6)) ((congrFun (jnp 26 eσ198 (of_decide_eq_true rfl)) 7).trans (congrFun (jnp 26 eσ194 (of_decide_eq_true rfl)) 7)) ((jnp 29 eσ198 (of_decide_eq_true rfl)).trans (jnp 29 eσ194 (of_decide_eq_true rfl))) ((jnp 30 eσ198 (of_decide_eq_true rfl)).trans (jnp 30 eσ194 (of_decide_eq_true rfl))) p157
                                                     have p202 : jNz σ198 := jNz.fr (jnp 34 eσ198 (of_decide_eq_true rfl)) p196
                                                     have z203 : (σ198 31 8).toInt = (σ 31 8).toInt := (congrArg Int32.toInt (show σ198 31 8 = (σ 31 8) from ((congrFun (jnp 31 eσ198 (of_decide_eq_true rfl)) 8).trans ((congrFun (jnp 31 eσ194 (of_decide_eq_true rfl)) 8).trans ((congrFun (f155 31 (of_decide_eq_true rfl)) 8).trans ((congrFun (f125 31 (of_decide_eq_true rfl)) 8).trans ((congrFun (f76 31 (of_decide_eq_true rfl)) 8).trans ((congrFun (jnp 31 eσ56 (of_decide_eq_true rfl)) 8).trans (congrFun (f39 31 (of_decide_eq_true rfl)) 8)))))))))
                                                     exact by
                                                      have z204 : (σ198 31 10).toInt = (σ 31 10).toInt := (congrArg Int32.toInt (show σ198 31 10 = (σ 31 10) from ((congrFun (jnp 31 eσ198 (of_decide_eq_true rfl)) 10).trans ((congrFun (jnp 31 eσ194 (of_decide_eq_true rfl)) 10).trans ((congrFun (f155 31 (of_decide_eq_true rfl)) 10).trans m147)))))
                                                      have z205 : (σ198 31 11).toInt = (σ 31 11).toInt := (congrArg Int32.toInt (show σ198 31 11 = (σ 31 11) from ((congrFun (jnp 31 eσ198 (of_decide_eq_true rfl)) 11).trans ((congrFun (jnp 31 eσ194 (of_decide_eq_true rfl)) 11).trans ((congrFun (f155 31 (of_decide_eq_true rfl)) 11).trans ((congrFun (f125 31 (of_decide_eq_true rfl)) 11).trans ((congrFun (f76 31 (of_decide_eq_true rfl)) 11).trans ((congrFun (jnp 31 eσ56 (of_decide_eq_true rfl)) 11).trans (congrFun (f39 31 (of_decide_eq_true rfl)) 11)))))))))
                                                      have w206 : ∀ k : Nat, k < 1400 → (-1) ≤ (σ198 33 k).toInt ∧ (σ198 33 k).toInt ≤ 350 := (jrr_fr (jnp 33 eσ198 (of_decide_eq_true rfl)) (jrr_fr (jnp 33 eσ194 (of_decide_eq_true rfl)) (jrr_fr (f155 33 (of_decide_eq_true rfl)) w134)))
                                                      have w207 : ∀ k : Nat, k < 3159 → (-1) ≤ (σ198 35 k).toInt ∧ (σ198 35 k).toInt ≤ 3 := (by rw [eσ198]; exact jrr_up (jrr_fr (jnp 35 eσ194 (of_decide_eq_true rfl)) w168) (by omega) (by omega))
                                                      have w208 : ∀ k : Nat, k < 1024 → 0 ≤ (σ198 36 k).toInt ∧ (σ198 36 k).toInt ≤ 349 := (jrr_fr (jnp 36 eσ198 (of_decide_eq_true rfl)) (jrr_fr (jnp 36 eσ194 (of_decide_eq_true rfl)) (jrr_fr (f155 36 (of_decide_eq_true rfl)) w136)))
                                                      have I209 : jI31 σ198 := ⟨(by omega), (by omega), (by omega), (by omega), w206, w207, w208⟩
                                                      exact by exact ihlp114 x199 σ198 _ _ ls (by have h90 := tx199; omega) (by have h90 := tx199; omega) (by have h90 := tx199; omega) (fun i hi => ((jnp i eσ198 (imp_97 i hi)).trans ((jnp i eσ194 (imp_95 i hi)).trans ((f155 i (imp_98 i hi)).trans (f125 i hi)))))   p200 p201 p202 I209 hP hS (lv_sub hl [0, 4, 5, 6, 7, 8, 9, 10, 11, 12, 13, 14, 15, 16, 17] rfl)
                             exact by exact lp114 1000000 x21 σ68 _ _ ls (by omega) (by omega) (by omega) (fun _ _ => rfl)  p77 p78 p79 p80 hP hS hl
                          · have kc99 := jnle c99 jz_0 tx98
                            exact by
                             refine lv_goto (tgt := 310) hx hb dX1_judge_140 (of_decide_eq_true rfl) ?_
                             obtain ⟨x210, ex210⟩ : ∃ y : Int32, y = x60 + 1 := ⟨_, rfl⟩
                             have tx210 : x210.toInt = x60.toInt + 1 := (jadd ex210 rfl jz_1 (by omega) (by omega)).trans (by omega)
                             refine lv_iinc (v := x210) (lv' := [(10, .int x210), (11, .int x98), (7, .int x18), (6, .int x15), (5, .int x13), (0, .ref (ad 31)), (1, .int a1), (2, .ref (ad 1)), (3, .int a3), (4, .int a4), (8, .int x21), (9, .int x22)]) hx hb dX1_judge_310 hl (k := 1) rfl (by rw [ex210]; rfl) (of_decide_eq_true rfl) rfl (fun ls hl => ?_)
                             refine lv_goto (tgt := 113) hx hb dX1_judge_313 (of_decide_eq_true rfl) ?_
                             exact by exact ihlp58 x210 σ68 _ _ ls (by have h90 := tx210; omega) (by have h90 := tx210; omega) (by have h90 := tx210; omega) (fun i hi => (f76 i hi))   p77 p78 p79 p80 hP hS (lv_sub hl [0, 2, 3, 4, 5, 6, 7, 8, 9, 10, 11] rfl)
                 exact by exact lp58 1000000 0 σ56 _ _ ls (by have h90 := jz_0; omega) (by have h90 := jz_0; omega) (by have h90 := jz_0; omega) (fun _ _ => rfl)  p71 p72 p57 I69 hP hS hl
             · have kc52 := jnlt c52 rfl rfl
               refine lv_aload_n hx hb dX1_judge_66 rfl (lv_at hl 4 rfl) ?_
               exact by
                refine va_get (D := D) hx hb hts inlX1 hown hK hP 31 (jc_31 cI cL ad σ34 τ) rfl 4 (of_decide_eq_true rfl) (hts _ kw_5_5) (fun _ h9 => h9) rfl dX1_judge_67 ?_
                refine lv_iload hx hb dX1_judge_70 (lv_at hl 1 rfl) ?_
                refine lv_iload hx hb dX1_judge_72 (lv_at hl 0 rfl) ?_
                have g211 := jrg (rfl : x33.toInt = x33.toInt)
                refine lv_iadd hx hb dX1_judge_74 ?_
                refine lv_topi (fun x212 ex212 => ?_)
                have tx212 : x212.toInt = 9 * A1 + x33.toInt := (jadd ex212 tx18 rfl (by omega) (by omega)).trans (by omega)
                refine lv_iconst (v := 0) hx hb dX1_judge_75 (of_decide_eq_true rfl) ?_
                refine jast hx hb hK hP hJ hA hS (jc_34 cI cL ad σ34 τ) (ja_34 cI cL ad σ34 τ _ _) (jin tx212 (by omega) (by omega)) dX1_judge_76 (fun σ213 H locs eσ213 hP hS => ?_)
                exact by
                 have p214 : jNz σ213 := (jNz.put p40 eσ213 (jnat (x := x212) tx212 (n := 3150) (by omega) (of_decide_eq_true rfl)))
                 refine lv_aload_n hx hb dX1_judge_77 rfl (lv_at hl 4 rfl) ?_
                 refine va_get (D := D) hx hb hts inlX1 hown hK hP 31 (jc_31 cI cL ad σ213 τ) rfl 5 (of_decide_eq_true rfl) (hts _ kw_5_6) (fun _ h9 => h9) rfl dX1_judge_78 ?_
                 refine lv_iload hx hb dX1_judge_81 (lv_at hl 1 rfl) ?_
                 refine lv_iload hx hb dX1_judge_83 (lv_at hl 0 rfl) ?_
                 refine lv_iadd hx hb dX1_judge_85 ?_
                 refine lv_topi (fun x215 ex215 => ?_)
                 have tx215 : x215.toInt = 9 * A1 + x33.toInt := (jadd ex215 tx18 rfl (by omega) (by omega)).trans (by omega)
                 refine lv_iconst (v := (-1)) hx hb dX1_judge_86 (of_decide_eq_true rfl) ?_
                 exact by
                  refine jast hx hb hK hP hJ hA hS (jc_35 cI cL ad σ213 τ) (ja_35 cI cL ad σ213 τ _ _) (jin tx215 (by omega) (by omega)) dX1_judge_87 (fun σ216 H locs eσ216 hP hS => ?_)
                  obtain ⟨x217, ex217⟩ : ∃ y : Int32, y = x33 + 1 := ⟨_, rfl⟩
                  have tx217 : x217.toInt = x33.toInt + 1 := (jadd ex217 rfl jz_1 (by omega) (by omega)).trans (by omega)
                  refine lv_iinc (v := x217) (lv' := [(10, .int x217), (7, .int x18), (6, .int x15), (5, .int x13), (0, .ref (ad 31)), (1, .int a1), (2, .ref (ad 1)), (3, .int a3), (4, .int a4), (8, .int x21), (9, .int x22)]) hx hb dX1_judge_88 hl (k := 0) rfl (by rw [ex217]; rfl) (of_decide_eq_true rfl) rfl (fun ls hl => ?_)
                  refine lv_goto (tgt := 59) hx hb dX1_judge_91 (of_decide_eq_true rfl) ?_
                  have p218 : jNz σ216 := jNz.fr (jnp 34 eσ216 (of_decide_eq_true rfl)) p214
                  have z219 : (σ216 31 8).toInt = (σ 31 8).toInt := (congrArg Int32.toInt (show σ216 31 8 = (σ 31 8) from ((congrFun (jnp 31 eσ216 (of_decide_eq_true rfl)) 8).trans ((congrFun (jnp 31 eσ213 (of_decide_eq_true rfl)) 8).trans (congrFun (f39 31 (of_decide_eq_true rfl)) 8)))))
                  have z220 : (σ216 31 10).toInt = (σ 31 10).toInt := (congrArg Int32.toInt (show σ216 31 10 = (σ 31 10) from ((congrFun (jnp 31 eσ216 (of_decide_eq_true rfl)) 10).trans ((congrFun (jnp 31 eσ213 (of_decide_eq_true rfl)) 10).trans (congrFun (f39 31 (of_decide_eq_true rfl)) 10)))))
                  have z221 : (σ216 31 11).toInt = (σ 31 11).toInt := (congrArg Int32.toInt (show σ216 31 11 = (σ 31 11) from ((congrFun (jnp 31 eσ216 (of_decide_eq_true rfl)) 11).trans ((congrFun (jnp 31 eσ213 (of_decide_eq_true rfl)) 11).trans (congrFun (f39 31 (of_decide_eq_true rfl)) 11)))))
                  exact by
                   have w222 : ∀ k : Nat, k < 1400 → (-1) ≤ (σ216 33 k).toInt ∧ (σ216 33 k).toInt ≤ 350 := (jrr_fr (jnp 33 eσ216 (of_decide_eq_true rfl)) (jrr_fr (jnp 33 eσ213 (of_decide_eq_true rfl)) w46))
                   have w223 : ∀ k : Nat, k < 3159 → (-1) ≤ (σ216 35 k).toInt ∧ (σ216 35 k).toInt ≤ 3 := (by rw [eσ216]; exact jrr_up (jrr_fr (jnp 35 eσ213 (of_decide_eq_true rfl)) w47) (by have h9 := jz_m1; omega) (by have h9 := jz_m1; omega))
                   have w224 : ∀ k : Nat, k < 1024 → 0 ≤ (σ216 36 k).toInt ∧ (σ216 36 k).toInt ≤ 349 := (jrr_fr (jnp 36 eσ216 (of_decide_eq_true rfl)) (jrr_fr (jnp 36 eσ213 (of_decide_eq_true rfl)) w48))
                   have I225 : jI31 σ216 := ⟨(by omega), (by omega), (by omega), (by omega), w222, w223, w224⟩
                   exact by exact ihlp31 x217 σ216 _ _ ls (by have h90 := tx217; omega) (by have h90 := tx217; omega) (by have h90 := tx217; omega) (fun i hi => ((jnp i eσ216 (imp_99 i hi)).trans ((jnp i eσ213 (imp_100 i hi)).trans (f39 i hi))))   p218 I225 hP hS (lv_sub hl [0, 1, 2, 3, 4, 5, 6, 7, 8, 9, 10] rfl)
        exact by exact lp31 1000000 x21 σ _ _ ls (by omega) (by omega) (by omega) (fun _ _ => rfl)  hs_jNz hI31 hP hS hl
     refine lv_iconst (v := 0) hx hb dX1_judge_28 (of_decide_eq_true rfl) ?_
     refine lv_iload_n hx hb dX1_judge_29 rfl (lv_at hl 6 rfl) ?_
     refine va_mmax hx hb (hml.trans hl.1.symm) hown (hts _ kw_28_5) (hts _ kw_21_0) (hts _ kw_21_1) (hts _ kw_21_2) (Nat.le_of_ble_eq_true rfl) (Nat.le_of_ble_eq_true rfl) (Nat.le_of_ble_eq_true rfl) (Nat.le_of_ble_eq_true rfl) dX1_judge_30 ?_
     exact by
      refine lv_topi (fun x226 ex226 => ?_)
      have g227 := jmax ex226 jz_0 t3
      refine lv_istore (lv' := [(8, .int x226), (7, .int x18), (6, .int x15), (5, .int x13), (0, .ref (ad 31)), (1, .int a1), (2, .ref (ad 1)), (3, .int a3), (4, .int a4)]) hx hb dX1_judge_33 hl (of_decide_eq_true rfl) rfl (fun ls hl => ?_)
      refine lv_iload hx hb dX1_judge_35 (lv_at hl 8 rfl) ?_
      refine lv_aload_n hx hb dX1_judge_37 rfl (lv_at hl 6 rfl) ?_
      refine jalen (v := 8) hx hb hK hP (jc_1 cI cL ad σ τ) (of_decide_eq_true rfl) dX1_judge_38 ?_
      refine lv_iconst (v := 1) hx hb dX1_judge_39 (of_decide_eq_true rfl) ?_
      refine lv_isub hx hb dX1_judge_40 ?_
      refine jtopr (y := 7) (of_decide_eq_true rfl) ?_
      refine va_mmin hx hb (hml.trans hl.1.symm) hown (hts _ kw_28_4) (hts _ kw_22_11) (hts _ kw_21_1) (hts _ kw_22_12) (Nat.le_of_ble_eq_true rfl) (Nat.le_of_ble_eq_true rfl) (Nat.le_of_ble_eq_true rfl) (Nat.le_of_ble_eq_true rfl) dX1_judge_41 ?_
      refine lv_topi (fun x228 ex228 => ?_)
      have g229 := jmin ex228 t4 jz_7
      refine lv_iload_n hx hb dX1_judge_44 rfl (lv_at hl 7 rfl) ?_
      refine lv_iconst (v := 1) hx hb dX1_judge_45 (of_decide_eq_true rfl) ?_
      refine lv_iadd hx hb dX1_judge_46 ?_
      refine lv_topi (fun x230 ex230 => ?_)
      exact by
       have tx230 : x230.toInt = A3 + 1 := (jadd ex230 t3 jz_1 (by omega) (by omega)).trans (by omega)
       refine lv_iload hx hb dX1_judge_47 (lv_at hl 2 rfl) ?_
       have g231 := jrg (rfl : x15.toInt = x15.toInt)
       refine lv_iadd hx hb dX1_judge_49 ?_
       refine lv_topi (fun x232 ex232 => ?_)
       have tx232 : x232.toInt = A3 + x15.toInt + 1 := (jadd ex232 tx230 rfl (by omega) (by omega)).trans (by omega)
       refine va_mmin hx hb (hml.trans hl.1.symm) hown (hts _ kw_28_4) (hts _ kw_22_11) (hts _ kw_21_1) (hts _ kw_22_12) (Nat.le_of_ble_eq_true rfl) (Nat.le_of_ble_eq_true rfl) (Nat.le_of_ble_eq_true rfl) (Nat.le_of_ble_eq_true rfl) dX1_judge_50 ?_
       refine lv_topi (fun x233 ex233 => ?_)
       have g234 := jmin ex233 rfl tx232
       exact by
        refine lv_istore (lv' := [(9, .int x233), (8, .int x226), (7, .int x18), (6, .int x15), (5, .int x13), (0, .ref (ad 31)), (1, .int a1), (2, .ref (ad 1)), (3, .int a3), (4, .int a4)]) hx hb dX1_judge_53 hl (of_decide_eq_true rfl) rfl (fun ls hl => ?_)
        exact by exact lp19 x226 x233 _ _ ls (by omega) (by omega) (by omega) (by omega) (by omega) (by omega)    hP hS (lv_sub hl [2, 3, 4, 5, 6, 7, 8, 9, 1, 0] rfl)
set_option maxHeartbeats 4000000 in
set_option maxRecDepth 100000 in
theorem c_X1_seekFor_31_v1 (l : Launch) (D : va_G) (cI cL : ClassId) (ad zz : Nat → Nat) (hJ : jD ad) (σ : Nat → Nat → Int32) (τ : Nat → Nat → Int64) (a2 : Int32) (A2 : Int) (t2 : a2.toInt = A2) (a3 : Int32) (A3 : Int) (t3 : a3.toInt = A3) (a4 : Int32) (A4 : Int) (t4 : a4.toInt = A4) (a5 : Int32) (A5 : Int) (t5 : a5.toInt = A5) (hI16 : jI16 σ) (hI22 : jI22 σ) (hI31 : jI31 σ) (hI0 : jI0 σ) (hI26 : jI26 σ) (hs_jN67 : jN67 σ) (hs_jBl : jBl σ) (hs_jKb : jKb σ) (hs_jKh : jKh σ) (hs_jKg : jKg σ) (hs_jNz : jNz σ) (hp0 : 0 ≤ A2 ∧ A2 ≤ 134217727) (hp1 : 0 ≤ A3 ∧ A3 ≤ 12) (hp2 : 0 ≤ A4 ∧ A4 ≤ 12) : jMv l yX1_seekFor cX1_seekFor 7 none ({ frames := 4, cells := 0, slots := 0, locals := 113 }) D cI cL ad zz [.ref (ad 31), .ref (ad 1), .int a2, .int a3, .int a4, .int a5] σ τ (fun σ' τ' => τ = τ' ∧ (∀ i : Nat, (i < 24 ∨ 25 < i) ∧ (i < 29 ∨ 37 < i) → σ' i = σ i) ∧ (∀ k : Nat, (k < 8 ∨ 8 < k) ∧ (k < 9 ∨ 9 < k) ∧ (k < 10 ∨ 10 < k) ∧ (k < 11 ∨ 11 < k) ∧ (k < 12 ∨ 12 < k) → σ' 31 k = σ 31 k) ∧ (jI31 σ') ∧ (jN67 σ') ∧ (jBl σ') ∧ (jKb σ') ∧ (jKh σ') ∧ (jKg σ') ∧ (jNz σ') ∧ ((σ' 31 9).toInt = A2) ∧ ((σ' 31 10).toInt = A3) ∧ (((σ' 31 11).toInt = 0 ∧ (σ 16 1).toInt - A3 ≤ 0) ∨ ((σ' 31 11).toInt = (σ 16 1).toInt - A3 ∧ 0 ≤ (σ 16 1).toInt - A3 ∧ (σ 16 1).toInt - A3 ≤ 8) ∨ ((σ' 31 11).toInt = 8 ∧ 8 ≤ (σ 16 1).toInt - A3)) ∧ True) := by
  refine jMv.of hJ (by decide +kernel) rfl (Nat.le_of_ble_eq_true rfl) ?_
  intro p e s m args below meth c Q ls hC hret hl hP
  obtain ⟨hx, hb, hr, hml, hown, hts, hK, -, hlocks, hZ⟩ := hC
  have hown : s.vm.findClass RX1 = some m.cls := hown
  have hS : va_S (jA ad) s.heap s.heap [] := va_S.rf
  have hA : ∀ q, jA ad q → jA ad q := fun _ h => h
  have hl : lv_has ls 7 [(0, .ref (ad 31)), (1, .ref (ad 1)), (2, .int a2), (3, .int a3), (4, .int a4), (5, .int a5)] := hl
  have g2 := jrg t2
  have g3 := jrg t3
  have g4 := jrg t4
  have g5 := jrg t5
  obtain ⟨i1, i2, i3, w4⟩ : (1 ≤ (σ 16 0).toInt ∧ (σ 16 0).toInt ≤ 8) ∧ (1 ≤ (σ 16 1).toInt ∧ (σ 16 1).toInt ≤ 12) ∧ (0 ≤ (σ 16 2).toInt ∧ (σ 16 2).toInt ≤ 999) ∧ (∀ k : Nat, k < 8 → 0 ≤ (σ 17 k).toInt ∧ (σ 17 k).toInt ≤ 3) := id hI16
  obtain ⟨i5, i6, i7, i8, w9, w10, w11⟩ : (0 ≤ (σ 31 8).toInt ∧ (σ 31 8).toInt ≤ 350) ∧ (0 ≤ (σ 31 10).toInt ∧ (σ 31 10).toInt ≤ 12) ∧ (0 ≤ (σ 31 11).toInt ∧ (σ 31 11).toInt ≤ 8) ∧ ((σ 31 10).toInt + (σ 31 11).toInt ≤ 12) ∧ (∀ k : Nat, k < 1400 → (-1) ≤ (σ 33 k).toInt ∧ (σ 33 k).toInt ≤ 350) ∧ (∀ k : Nat, k < 3159 → (-1) ≤ (σ 35 k).toInt ∧ (σ 35 k).toInt ≤ 3) ∧ (∀ k : Nat, k < 1024 → 0 ≤ (σ 36 k).toInt ∧ (σ 36 k).toInt ≤ 349) := id hI31
  refine lv_aload_n hx hb dX1_seekFor_0 rfl (lv_at hl 0 rfl) ?_
  refine lv_iload_n hx hb dX1_seekFor_1 rfl (lv_at hl 2 rfl) ?_
  refine lv_iload_n hx hb dX1_seekFor_2 rfl (lv_at hl 3 rfl) ?_
  exact by
   refine jcallVv (As := [.int a2, .int a3]) (rest := []) ⟨hx, hb, hml, hown, hts⟩ hK hP hA hS hZ (c_X1_grow_31 l D cI cL ad zz hJ σ τ a2 (A2) t2 a3 (A3) t3 hI16 hI31 hs_jKb hs_jKh hs_jKg (by omega) (by omega)) cw_RX1_54 (jc_31 cI cL ad σ τ) rfl ⟨Nat.le_of_ble_eq_true rfl, Nat.le_of_ble_eq_true rfl⟩ rfl rfl rfl hl.1 rfl (Nat.le_of_ble_eq_true rfl) dX1_seekFor_3 ⟨Nat.zero_le _, Nat.zero_le _⟩ (fun σ12 τ12 H locs h12 hP hS => ?_)
   obtain ⟨rfl, f14, f15, I16, p17, p18, p19, w20, h12⟩ := h12
   obtain ⟨i22, i23, i24, i25, w26, w27, w28⟩ : (0 ≤ (σ12 31 8).toInt ∧ (σ12 31 8).toInt ≤ 350) ∧ (0 ≤ (σ12 31 10).toInt ∧ (σ12 31 10).toInt ≤ 12) ∧ (0 ≤ (σ12 31 11).toInt ∧ (σ12 31 11).toInt ≤ 8) ∧ ((σ12 31 10).toInt + (σ12 31 11).toInt ≤ 12) ∧ (∀ k : Nat, k < 1400 → (-1) ≤ (σ12 33 k).toInt ∧ (σ12 33 k).toInt ≤ 350) ∧ (∀ k : Nat, k < 3159 → (-1) ≤ (σ12 35 k).toInt ∧ (σ12 35 k).toInt ≤ 3) ∧ (∀ k : Nat, k < 1024 → 0 ≤ (σ12 36 k).toInt ∧ (σ12 36 k).toInt ≤ 349) := id I16
   obtain ⟨k29, k30, k31, h12⟩ := h12
   refine lv_aload_n hx hb dX1_seekFor_6 rfl (lv_at hl 0 rfl) ?_
   refine va_get (D := D) hx hb hts inlX1 hown hK hP 31 (jc_31 cI cL ad σ12 τ) rfl 8 (of_decide_eq_true rfl) (hts _ kw_27_22) (fun _ h9 => h9) rfl dX1_seekFor_7 ?_
   refine lv_iconst (v := 1) hx hb dX1_seekFor_10 (of_decide_eq_true rfl) ?_
   have g32 := jrg (rfl : (σ12 31 8).toInt = (σ12 31 8).toInt)
   refine lv_isub hx hb dX1_seekFor_11 ?_
   refine lv_topi (fun x33 ex33 => ?_)
   exact by
    have tx33 : x33.toInt = (σ12 31 8).toInt - 1 := (jsub ex33 rfl jz_1 (by omega) (by omega)).trans (by omega)
    refine lv_istore (lv' := [(6, .int x33), (0, .ref (ad 31)), (1, .ref (ad 1)), (2, .int a2), (3, .int a3), (4, .int a4), (5, .int a5)]) hx hb dX1_seekFor_12 hl (of_decide_eq_true rfl) rfl (fun ls hl => ?_)
    have z38 : (σ12 16 1).toInt = (σ 16 1).toInt := (congrArg Int32.toInt (show σ12 16 1 = (σ 16 1) from (congrFun (f14 16 (of_decide_eq_true rfl)) 1)))
    have p40 : jN67 σ12 := jN67.fr (f14 24 (of_decide_eq_true rfl)) hs_jN67
    have p41 : jBl σ12 := jBl.fr (congrFun (f14 22 (of_decide_eq_true rfl)) 0) (congrFun (f14 22 (of_decide_eq_true rfl)) 1) (f14 23 (of_decide_eq_true rfl)) (congrFun (f14 26 (of_decide_eq_true rfl)) 6) (congrFun (f14 26 (of_decide_eq_true rfl)) 7) (f14 29 (of_decide_eq_true rfl)) (f14 30 (of_decide_eq_true rfl)) hs_jBl
    have p42 : jNz σ12 := jNz.fr (f14 34 (of_decide_eq_true rfl)) hs_jNz
    have lp34 : ∀ (n35 : Nat) (x36 : Int32) (σ37 : Nat → Nat → Int32) (H : Heap) (locs : List Loc) (ls : Array Slot), (x36.toInt + 1 : Int) < n35 → (-1) ≤ x36.toInt → x36.toInt ≤ 349 → x36.toInt < (σ37 31 8).toInt → (σ37 31 9).toInt = A2 → (σ37 31 10).toInt = A3 → (((σ37 31 11).toInt = 0 ∧ (σ37 16 1).toInt - A3 ≤ 0) ∨ ((σ37 31 11).toInt = (σ37 16 1).toInt - A3 ∧ 0 ≤ (σ37 16 1).toInt - A3 ∧ (σ37 16 1).toInt - A3 ≤ 8) ∨ ((σ37 31 11).toInt = 8 ∧ 8 ≤ (σ37 16 1).toInt - A3)) → (∀ i : Nat, (i < 24 ∨ 25 < i) ∧ (i < 29 ∨ 30 < i) ∧ (i < 34 ∨ 35 < i) → σ37 i = σ12 i) → jN67 σ37 → jBl σ37 → jNz σ37 → jI31 σ37 → jH D cI cL ad σ37 τ H → va_S (jA ad) s.heap H locs → lv_has ls 7 [(6, .int x36), (0, .ref (ad 31)), (1, .ref (ad 1)), (2, .int a2), (3, .int a3), (4, .int a4), (5, .int a5)] → W p l e ({ frames := 4, cells := 0, slots := 0, locals := 113 }) s m args below meth c H locs 0 0 Q (F0 m 14 ls []) := by
      intro n35
      induction n35 with
      | zero => intro x36 σ37 H locs ls h43 h44 h45 h46 h47 h48 h49; exact absurd h43 (by omega)
      | succ n35 ihlp34 =>
        intro x36 σ37 H locs ls h43 h44 h45 h46 h47 h48 h49 f50 p51 p52 p53 p54 hP hS hl
        exact by
         obtain ⟨i55, i56, i57, i58, w59, w60, w61⟩ : (0 ≤ (σ37 31 8).toInt ∧ (σ37 31 8).toInt ≤ 350) ∧ (0 ≤ (σ37 31 10).toInt ∧ (σ37 31 10).toInt ≤ 12) ∧ (0 ≤ (σ37 31 11).toInt ∧ (σ37 31 11).toInt ≤ 8) ∧ ((σ37 31 10).toInt + (σ37 31 11).toInt ≤ 12) ∧ (∀ k : Nat, k < 1400 → (-1) ≤ (σ37 33 k).toInt ∧ (σ37 33 k).toInt ≤ 350) ∧ (∀ k : Nat, k < 3159 → (-1) ≤ (σ37 35 k).toInt ∧ (σ37 35 k).toInt ≤ 3) ∧ (∀ k : Nat, k < 1024 → 0 ≤ (σ37 36 k).toInt ∧ (σ37 36 k).toInt ≤ 349) := id p54
         have z62 : (σ37 31 8).toInt = (σ12 31 8).toInt := (congrArg Int32.toInt (show σ37 31 8 = (σ12 31 8) from (congrFun (f50 31 (of_decide_eq_true rfl)) 8)))
         have z63 : (σ37 31 10).toInt = (σ12 31 10).toInt := (congrArg Int32.toInt (show σ37 31 10 = (σ12 31 10) from (congrFun (f50 31 (of_decide_eq_true rfl)) 10)))
         have z64 : (σ37 31 11).toInt = (σ12 31 11).toInt := (congrArg Int32.toInt (show σ37 31 11 = (σ12 31 11) from (congrFun (f50 31 (of_decide_eq_true rfl)) 11)))
         have z65 : (σ37 31 9).toInt = (σ12 31 9).toInt := (congrArg Int32.toInt (show σ37 31 9 = (σ12 31 9) from (congrFun (f50 31 (of_decide_eq_true rfl)) 9)))
         have z66 : (σ37 16 1).toInt = (σ 16 1).toInt := (congrArg Int32.toInt (show σ37 16 1 = (σ 16 1) from ((congrFun (f50 16 (of_decide_eq_true rfl)) 1).trans (congrFun (f14 16 (of_decide_eq_true rfl)) 1))))
         refine lv_iload hx hb dX1_seekFor_14 (lv_at hl 0 rfl) ?_
         refine lv_if_lt (tgt := 36) hx hb dX1_seekFor_16 (of_decide_eq_true rfl) (fun c67 => ?_) (fun c67 => ?_)
         · have kc67 := jlt c67 rfl jz_0
           have p68 : jKb σ37 := jKb.fr (congrFun (f50 31 (of_decide_eq_true rfl)) 8) (congrFun (f50 31 (of_decide_eq_true rfl)) 11) (f50 32 (of_decide_eq_true rfl)) p17
           have p69 : jKh σ37 := jKh.fr (congrFun (f50 31 (of_decide_eq_true rfl)) 8) (f50 32 (of_decide_eq_true rfl)) (f50 36 (of_decide_eq_true rfl)) (f50 37 (of_decide_eq_true rfl)) p18
           have p70 : jKg σ37 := jKg.fr (congrFun (f50 31 (of_decide_eq_true rfl)) 8) (congrFun (f50 31 (of_decide_eq_true rfl)) 9) (congrFun (f50 31 (of_decide_eq_true rfl)) 11) (congrFun (f50 31 (of_decide_eq_true rfl)) 12) (f50 32 (of_decide_eq_true rfl)) (f50 33 (of_decide_eq_true rfl)) p19
           exact by exact hret σ37 τ _ _ _ _ ⟨rfl, (fun i hi => ((f50 i (imp_101 i hi)).trans (f14 i (imp_102 i hi)))), (fun i hi => ((congrFun (f50 31 (of_decide_eq_true rfl)) i).trans (f15 i hi))), p54, p51, p52, p68, p69, p70, p53, (by omega), (by omega), (by omega), trivial⟩ hP hS dX1_seekFor_36
         · have kc67 := jnlt c67 rfl jz_0
           refine lv_aload_n hx hb dX1_seekFor_19 rfl (lv_at hl 1 rfl) ?_
           refine lv_iload hx hb dX1_seekFor_20 (lv_at hl 0 rfl) ?_
           refine lv_aload_n hx hb dX1_seekFor_22 rfl (lv_at hl 2 rfl) ?_
           refine lv_iload hx hb dX1_seekFor_23 (lv_at hl 5 rfl) ?_
           refine lv_iload hx hb dX1_seekFor_25 (lv_at hl 6 rfl) ?_
           have I71 : jI16 σ37 := jI16_fr ((congrFun (f50 16 (of_decide_eq_true rfl)) 0).trans (congrFun (f14 16 (of_decide_eq_true rfl)) 0)) ((congrFun (f50 16 (of_decide_eq_true rfl)) 1).trans (congrFun (f14 16 (of_decide_eq_true rfl)) 1)) ((congrFun (f50 16 (of_decide_eq_true rfl)) 2).trans (congrFun (f14 16 (of_decide_eq_true rfl)) 2)) ((f50 17 (of_decide_eq_true rfl)).trans (f14 17 (of_decide_eq_true rfl))) hI16
           have I72 : jI22 σ37 := jI22_fr ((congrFun (f50 22 (of_decide_eq_true rfl)) 0).trans (congrFun (f14 22 (of_decide_eq_true rfl)) 0)) ((f50 23 (of_decide_eq_true rfl)).trans (f14 23 (of_decide_eq_true rfl))) hI22
           have I73 : jI0 σ37 := jI0_fr ((f50 1 (of_decide_eq_true rfl)).trans (f14 1 (of_decide_eq_true rfl))) hI0
           have I74 : jI26 σ37 := jI26_fr ((congrFun (f50 26 (of_decide_eq_true rfl)) 6).trans (congrFun (f14 26 (of_decide_eq_true rfl)) 6)) hI26
           have p75 : jKb σ37 := jKb.fr (congrFun (f50 31 (of_decide_eq_true rfl)) 8) (congrFun (f50 31 (of_decide_eq_true rfl)) 11) (f50 32 (of_decide_eq_true rfl)) p17
           exact by
            refine jcallVv (As := [.int x36, .ref (ad 1), .int a4, .int a5]) (rest := []) ⟨hx, hb, hml, hown, hts⟩ hK hP hA hS hZ (c_X1_judge_31_v1 l D cI cL ad zz hJ σ37 τ x36 (x36.toInt) rfl a4 (A4) t4 a5 (A5) t5 I71 I72 p54 I73 I74 p51 p52 p75 p53 (by omega) (by omega) (by omega)) cw_RX1_61 (jc_31 cI cL ad σ37 τ) rfl ⟨Nat.le_of_ble_eq_true rfl, Nat.le_of_ble_eq_true rfl⟩ rfl rfl rfl hl.1 rfl (Nat.le_of_ble_eq_true rfl) dX1_seekFor_27 ⟨Nat.zero_le _, Nat.zero_le _⟩ (fun σ76 τ76 H locs h76 hP hS => ?_)
            obtain ⟨rfl, f78, I79, p80, p81, p82, p83, h76⟩ := h76
            obtain ⟨i85, i86, i87, i88, w89, w90, w91⟩ : (0 ≤ (σ76 31 8).toInt ∧ (σ76 31 8).toInt ≤ 350) ∧ (0 ≤ (σ76 31 10).toInt ∧ (σ76 31 10).toInt ≤ 12) ∧ (0 ≤ (σ76 31 11).toInt ∧ (σ76 31 11).toInt ≤ 8) ∧ ((σ76 31 10).toInt + (σ76 31 11).toInt ≤ 12) ∧ (∀ k : Nat, k < 1400 → (-1) ≤ (σ76 33 k).toInt ∧ (σ76 33 k).toInt ≤ 350) ∧ (∀ k : Nat, k < 3159 → (-1) ≤ (σ76 35 k).toInt ∧ (σ76 35 k).toInt ≤ 3) ∧ (∀ k : Nat, k < 1024 → 0 ≤ (σ76 36 k).toInt ∧ (σ76 36 k).toInt ≤ 349) := id I79
            have z92 : (σ76 31 8).toInt = (σ12 31 8).toInt := (congrArg Int32.toInt (show σ76 31 8 = (σ12 31 8) from ((congrFun (f78 31 (of_decide_eq_true rfl)) 8).trans (congrFun (f50 31 (of_decide_eq_true rfl)) 8))))
            have z93 : (σ76 31 10).toInt = (σ12 31 10).toInt := (congrArg Int32.toInt (show σ76 31 10 = (σ12 31 10) from ((congrFun (f78 31 (of_decide_eq_true rfl)) 10).trans (congrFun (f50 31 (of_decide_eq_true rfl)) 10))))
            have z94 : (σ76 31 11).toInt = (σ12 31 11).toInt := (congrArg Int32.toInt (show σ76 31 11 = (σ12 31 11) from ((congrFun (f78 31 (of_decide_eq_true rfl)) 11).trans (congrFun (f50 31 (of_decide_eq_true rfl)) 11))))
            obtain ⟨x95, ex95⟩ : ∃ y : Int32, y = x36 + (-1) := ⟨_, rfl⟩
            have tx95 : x95.toInt = x36.toInt - 1 := (jadd ex95 rfl jz_m1 (by omega) (by omega)).trans (by omega)
            refine lv_iinc (v := x95) (lv' := [(6, .int x95), (0, .ref (ad 31)), (1, .ref (ad 1)), (2, .int a2), (3, .int a3), (4, .int a4), (5, .int a5)]) hx hb dX1_seekFor_30 hl (k := 0) rfl (by rw [ex95]; rfl) (of_decide_eq_true rfl) rfl (fun ls hl => ?_)
            exact by
             refine lv_goto (tgt := 14) hx hb dX1_seekFor_33 (of_decide_eq_true rfl) ?_
             have z96 : (σ76 31 9).toInt = (σ12 31 9).toInt := (congrArg Int32.toInt (show σ76 31 9 = (σ12 31 9) from ((congrFun (f78 31 (of_decide_eq_true rfl)) 9).trans (congrFun (f50 31 (of_decide_eq_true rfl)) 9))))
             have z97 : (σ76 16 1).toInt = (σ 16 1).toInt := (congrArg Int32.toInt (show σ76 16 1 = (σ 16 1) from ((congrFun (f78 16 (of_decide_eq_true rfl)) 1).trans ((congrFun (f50 16 (of_decide_eq_true rfl)) 1).trans (congrFun (f14 16 (of_decide_eq_true rfl)) 1)))))
             exact by exact ihlp34 x95 σ76 _ _ ls (by have h90 := tx95; omega) (by have h90 := tx95; omega) (by have h90 := tx95; omega) (by have h90 := tx95; omega) (by have h90 := tx95; omega) (by have h90 := tx95; omega) (by have h90 := tx95; omega) (fun i hi => ((f78 i hi).trans (f50 i hi)))   p80 p81 p83 I79 hP hS (lv_sub hl [0, 1, 2, 3, 4, 5, 6] rfl)
    exact by exact lp34 1000000 x33 σ12 _ _ ls (by have h90 := tx33; omega) (by have h90 := tx33; omega) (by have h90 := tx33; omega) (by have h90 := tx33; omega) (by have h90 := tx33; omega) (by have h90 := tx33; omega) (by have h90 := tx33; omega) (fun _ _ => rfl)  p40 p41 p42 I16 hP hS hl
set_option maxHeartbeats 4000000 in
set_option maxRecDepth 100000 in
theorem c_X1_seek_31 (l : Launch) (D : va_G) (cI cL : ClassId) (ad zz : Nat → Nat) (hJ : jD ad) (σ : Nat → Nat → Int32) (τ : Nat → Nat → Int64) (a1 : Int32) (A1 : Int) (t1 : a1.toInt = A1) (a2 : Int32) (A2 : Int) (t2 : a2.toInt = A2) (a3 : Int32) (A3 : Int) (t3 : a3.toInt = A3) (hI16 : jI16 σ) (hI22 : jI22 σ) (hI31 : jI31 σ) (hI26 : jI26 σ) (hs_jN67 : jN67 σ) (hs_jBl : jBl σ) (hs_jKb : jKb σ) (hs_jKh : jKh σ) (hs_jKg : jKg σ) (hs_jNz : jNz σ) (hp0 : 0 ≤ A1 ∧ A1 ≤ 134217727) (hp1 : 0 ≤ A2 ∧ A2 ≤ 12) (hp2 : 0 ≤ A3 ∧ A3 ≤ 12) : jMv l yX1_seek cX1_seek 4 none ({ frames := 5, cells := 0, slots := 0, locals := 139 }) D cI cL ad zz [.ref (ad 31), .int a1, .int a2, .int a3] σ τ (fun σ' τ' => τ = τ' ∧ (∀ i : Nat, (i < 24 ∨ 25 < i) ∧ (i < 29 ∨ 37 < i) → σ' i = σ i) ∧ (∀ k : Nat, (k < 8 ∨ 8 < k) ∧ (k < 9 ∨ 9 < k) ∧ (k < 10 ∨ 10 < k) ∧ (k < 11 ∨ 11 < k) ∧ (k < 12 ∨ 12 < k) → σ' 31 k = σ 31 k) ∧ (jI31 σ') ∧ (jN67 σ') ∧ (jBl σ') ∧ (jKb σ') ∧ (jKh σ') ∧ (jKg σ') ∧ (jNz σ') ∧ ((σ' 31 9).toInt = A1) ∧ ((σ' 31 10).toInt = A2) ∧ (((σ' 31 11).toInt = 0 ∧ (σ 16 1).toInt - A2 ≤ 0) ∨ ((σ' 31 11).toInt = (σ 16 1).toInt - A2 ∧ 0 ≤ (σ 16 1).toInt - A2 ∧ (σ 16 1).toInt - A2 ≤ 8) ∨ ((σ' 31 11).toInt = 8 ∧ 8 ≤ (σ 16 1).toInt - A2)) ∧ True) := by
  refine jMv.of hJ (by decide +kernel) rfl (Nat.le_of_ble_eq_true rfl) ?_
  intro p e s m args below meth c Q ls hC hret hl hP
  obtain ⟨hx, hb, hr, hml, hown, hts, hK, -, hlocks, hZ⟩ := hC
  have hown : s.vm.findClass RX1 = some m.cls := hown
  have hS : va_S (jA ad) s.heap s.heap [] := va_S.rf
  have hA : ∀ q, jA ad q → jA ad q := fun _ h => h
  have hl : lv_has ls 4 [(0, .ref (ad 31)), (1, .int a1), (2, .int a2), (3, .int a3)] := hl
  have g1 := jrg t1
  have g2 := jrg t2
  have g3 := jrg t3
  obtain ⟨i1, i2, i3, w4⟩ : (1 ≤ (σ 16 0).toInt ∧ (σ 16 0).toInt ≤ 8) ∧ (1 ≤ (σ 16 1).toInt ∧ (σ 16 1).toInt ≤ 12) ∧ (0 ≤ (σ 16 2).toInt ∧ (σ 16 2).toInt ≤ 999) ∧ (∀ k : Nat, k < 8 → 0 ≤ (σ 17 k).toInt ∧ (σ 17 k).toInt ≤ 3) := id hI16
  obtain ⟨i5, i6, i7, i8, w9, w10, w11⟩ : (0 ≤ (σ 31 8).toInt ∧ (σ 31 8).toInt ≤ 350) ∧ (0 ≤ (σ 31 10).toInt ∧ (σ 31 10).toInt ≤ 12) ∧ (0 ≤ (σ 31 11).toInt ∧ (σ 31 11).toInt ≤ 8) ∧ ((σ 31 10).toInt + (σ 31 11).toInt ≤ 12) ∧ (∀ k : Nat, k < 1400 → (-1) ≤ (σ 33 k).toInt ∧ (σ 33 k).toInt ≤ 350) ∧ (∀ k : Nat, k < 3159 → (-1) ≤ (σ 35 k).toInt ∧ (σ 35 k).toInt ≤ 3) ∧ (∀ k : Nat, k < 1024 → 0 ≤ (σ 36 k).toInt ∧ (σ 36 k).toInt ≤ 349) := id hI31
  refine lv_aload_n hx hb dX1_seek_0 rfl (lv_at hl 0 rfl) ?_
  refine lv_aload_n hx hb dX1_seek_1 rfl (lv_at hl 0 rfl) ?_
  refine va_get (D := D) hx hb hts inlX1 hown hK hP 31 (jc_31 cI cL ad σ τ) rfl 1 (of_decide_eq_true rfl) (hts _ kw_5_11) (fun _ h9 => h9) rfl dX1_seek_2 ?_
  refine va_get (D := D) hx hb hts inlX6 hown hK hP 16 (jc_16 cI cL ad σ τ) rfl 3 (of_decide_eq_true rfl) (hts _ kw_27_16) (fun _ h9 => h9) rfl dX1_seek_5 ?_
  refine lv_iload_n hx hb dX1_seek_8 rfl (lv_at hl 1 rfl) ?_
  refine lv_iload_n hx hb dX1_seek_9 rfl (lv_at hl 2 rfl) ?_
  refine lv_iload_n hx hb dX1_seek_10 rfl (lv_at hl 3 rfl) ?_
  refine lv_aload_n hx hb dX1_seek_11 rfl (lv_at hl 0 rfl) ?_
  refine va_get (D := D) hx hb hts inlX1 hown hK hP 31 (jc_31 cI cL ad σ τ) rfl 1 (of_decide_eq_true rfl) (hts _ kw_5_11) (fun _ h9 => h9) rfl dX1_seek_12 ?_
  refine va_get (D := D) hx hb hts inlX6 hown hK hP 16 (jc_16 cI cL ad σ τ) rfl 0 (of_decide_eq_true rfl) (hts _ kw_27_17) (fun _ h9 => h9) rfl dX1_seek_15 ?_
  refine lv_iconst (v := 1) hx hb dX1_seek_18 (of_decide_eq_true rfl) ?_
  have g12 := jrg (rfl : (σ 16 0).toInt = (σ 16 0).toInt)
  refine lv_isub hx hb dX1_seek_19 ?_
  refine lv_topi (fun x13 ex13 => ?_)
  exact by
   have tx13 : x13.toInt = (σ 16 0).toInt - 1 := (jsub ex13 rfl jz_1 (by omega) (by omega)).trans (by omega)
   refine jcallVv (As := [.ref (ad 17), .int a1, .int a2, .int a3, .int x13]) (rest := []) ⟨hx, hb, hml, hown, hts⟩ hK hP hA hS hZ (c_X1_seekFor_31 l D cI cL ad zz hJ σ τ a1 (A1) t1 a2 (A2) t2 a3 (A3) t3 x13 ((σ 16 0).toInt - 1) tx13 hI16 hI22 hI31 hI26 hs_jN67 hs_jBl hs_jKb hs_jKh hs_jKg hs_jNz (by omega) (by omega) (by omega)) cw_RX1_50 (jc_31 cI cL ad σ τ) rfl ⟨Nat.le_of_ble_eq_true rfl, Nat.le_of_ble_eq_true rfl⟩ rfl rfl rfl hl.1 rfl (Nat.le_of_ble_eq_true rfl) dX1_seek_20 ⟨Nat.zero_le _, Nat.zero_le _⟩ (fun σ14 τ14 H locs h14 hP hS => ?_)
   obtain ⟨rfl, f16, f17, I18, p19, p20, p21, p22, p23, p24, h14⟩ := h14
   obtain ⟨i26, i27, i28, i29, w30, w31, w32⟩ : (0 ≤ (σ14 31 8).toInt ∧ (σ14 31 8).toInt ≤ 350) ∧ (0 ≤ (σ14 31 10).toInt ∧ (σ14 31 10).toInt ≤ 12) ∧ (0 ≤ (σ14 31 11).toInt ∧ (σ14 31 11).toInt ≤ 8) ∧ ((σ14 31 10).toInt + (σ14 31 11).toInt ≤ 12) ∧ (∀ k : Nat, k < 1400 → (-1) ≤ (σ14 33 k).toInt ∧ (σ14 33 k).toInt ≤ 350) ∧ (∀ k : Nat, k < 3159 → (-1) ≤ (σ14 35 k).toInt ∧ (σ14 35 k).toInt ≤ 3) ∧ (∀ k : Nat, k < 1024 → 0 ≤ (σ14 36 k).toInt ∧ (σ14 36 k).toInt ≤ 349) := id I18
   obtain ⟨k33, k34, k35, h14⟩ := h14
   exact by exact hret σ14 τ _ _ _ _ ⟨rfl, (fun i hi => (f16 i hi)), (fun i hi => (f17 i hi)), I18, p19, p20, p21, p22, p23, p24, (by omega), (by omega), (by omega), trivial⟩ hP hS dX1_seek_23
