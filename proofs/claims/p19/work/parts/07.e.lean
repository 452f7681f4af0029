set_option maxHeartbeats 4000000 in
set_option maxRecDepth 100000 in
theorem c_X1_valueAt_31 (l : Launch) (D : va_G) (cI cL : ClassId) (ad zz : Nat → Nat) (hJ : jD ad) (σ : Nat → Nat → Int32) (τ : Nat → Nat → Int64) (a1 : Int32) (A1 : Int) (t1 : a1.toInt = A1) (a2 : Int32) (A2 : Int) (t2 : a2.toInt = A2) (hI16 : jI16 σ) (hI31 : jI31 σ) : jM l yX1_valueAt cX1_valueAt 3 (some .int) ({ frames := 0, cells := 0, slots := 0, locals := 0 }) D cI cL ad zz [.ref (ad 31), .int a1, .int a2] σ τ (fun r σ' τ' => (σ = σ' ∧ τ = τ') ∧ ((0 ≤ A1 → A1 < (σ 31 8).toInt → 0 ≤ A2 → A2 < (σ 16 0).toInt → r = σ 34 (9 * (A1) + (A2)).toNat)) ∧ True) := by
  refine jM.of hJ (by decide +kernel) (nt := .int) rfl (Nat.le_of_ble_eq_true rfl) ?_
  intro p e s m args below meth c Q ls hC hret hl hP
  obtain ⟨hx, hb, hr, hml, hown, hts, hK, -, hlocks, hZ⟩ := hC
  have hown : s.vm.findClass RX1 = some m.cls := hown
  have hS : va_S (jA ad) s.heap s.heap [] := va_S.rf
  have hA : ∀ q, jA ad q → jA ad q := fun _ h => h
  have hl : lv_has ls 3 [(0, .ref (ad 31)), (1, .int a1), (2, .int a2)] := hl
  have g1 := jrg t1
  have g2 := jrg t2
  obtain ⟨i1, i2, i3, w4⟩ : (1 ≤ (σ 16 0).toInt ∧ (σ 16 0).toInt ≤ 8) ∧ (1 ≤ (σ 16 1).toInt ∧ (σ 16 1).toInt ≤ 12) ∧ (0 ≤ (σ 16 2).toInt ∧ (σ 16 2).toInt ≤ 999) ∧ (∀ k : Nat, k < 8 → 0 ≤ (σ 17 k).toInt ∧ (σ 17 k).toInt ≤ 3) := id hI16
  obtain ⟨i5, i6, i7, i8, w9, w10, w11⟩ : (0 ≤ (σ 31 8).toInt ∧ (σ 31 8).toInt ≤ 350) ∧ (0 ≤ (σ 31 10).toInt ∧ (σ 31 10).toInt ≤ 12) ∧ (0 ≤ (σ 31 11).toInt ∧ (σ 31 11).toInt ≤ 8) ∧ ((σ 31 10).toInt + (σ 31 11).toInt ≤ 12) ∧ (∀ k : Nat, k < 1400 → (-1) ≤ (σ 33 k).toInt ∧ (σ 33 k).toInt ≤ 350) ∧ (∀ k : Nat, k < 3159 → (-1) ≤ (σ 35 k).toInt ∧ (σ 35 k).toInt ≤ 3) ∧ (∀ k : Nat, k < 1024 → 0 ≤ (σ 36 k).toInt ∧ (σ 36 k).toInt ≤ 349) := id hI31
  refine lv_iload_n hx hb dX1_valueAt_0 rfl (lv_at hl 1 rfl) ?_
  refine lv_if_lt (tgt := 27) hx hb dX1_valueAt_1 (of_decide_eq_true rfl) (fun c12 => ?_) (fun c12 => ?_)
  · have kc12 := jlt c12 t1 jz_0
    refine lv_iconst (v := 0) hx hb dX1_valueAt_27 (of_decide_eq_true rfl) ?_
    refine lv_goto (tgt := 42) hx hb dX1_valueAt_28 (of_decide_eq_true rfl) ?_
    exact hret 0 σ τ _ _ _ _ rfl ⟨⟨rfl, rfl⟩, (fun h9 h8 h7 h6 => False.elim (by omega)), trivial⟩ hP hS dX1_valueAt_42
  · have kc12 := jnlt c12 t1 jz_0
    refine lv_iload_n hx hb dX1_valueAt_4 rfl (lv_at hl 1 rfl) ?_
    refine lv_aload_n hx hb dX1_valueAt_5 rfl (lv_at hl 0 rfl) ?_
    refine va_get (D := D) hx hb hts inlX1 hown hK hP 31 (jc_31 cI cL ad σ τ) rfl 8 (of_decide_eq_true rfl) (hts _ kw_27_22) (fun _ h9 => h9) rfl dX1_valueAt_6 ?_
    refine lv_icmp_ge (tgt := 27) hx hb dX1_valueAt_9 (of_decide_eq_true rfl) (fun c13 => ?_) (fun c13 => ?_)
    · have kc13 := jle c13 rfl t1
      refine lv_iconst (v := 0) hx hb dX1_valueAt_27 (of_decide_eq_true rfl) ?_
      refine lv_goto (tgt := 42) hx hb dX1_valueAt_28 (of_decide_eq_true rfl) ?_
      exact hret 0 σ τ _ _ _ _ rfl ⟨⟨rfl, rfl⟩, (fun h9 h8 h7 h6 => False.elim (by omega)), trivial⟩ hP hS dX1_valueAt_42
    · have kc13 := jnle c13 rfl t1
      refine lv_iload_n hx hb dX1_valueAt_12 rfl (lv_at hl 2 rfl) ?_
      refine lv_if_lt (tgt := 27) hx hb dX1_valueAt_13 (of_decide_eq_true rfl) (fun c14 => ?_) (fun c14 => ?_)
      · have kc14 := jlt c14 t2 jz_0
        refine lv_iconst (v := 0) hx hb dX1_valueAt_27 (of_decide_eq_true rfl) ?_
        refine lv_goto (tgt := 42) hx hb dX1_valueAt_28 (of_decide_eq_true rfl) ?_
        exact hret 0 σ τ _ _ _ _ rfl ⟨⟨rfl, rfl⟩, (fun h9 h8 h7 h6 => False.elim (by omega)), trivial⟩ hP hS dX1_valueAt_42
      · have kc14 := jnlt c14 t2 jz_0
        refine lv_iload_n hx hb dX1_valueAt_16 rfl (lv_at hl 2 rfl) ?_
        refine lv_aload_n hx hb dX1_valueAt_17 rfl (lv_at hl 0 rfl) ?_
        refine va_get (D := D) hx hb hts inlX1 hown hK hP 31 (jc_31 cI cL ad σ τ) rfl 1 (of_decide_eq_true rfl) (hts _ kw_5_11) (fun _ h9 => h9) rfl dX1_valueAt_18 ?_
        refine va_get (D := D) hx hb hts inlX6 hown hK hP 16 (jc_16 cI cL ad σ τ) rfl 0 (of_decide_eq_true rfl) (hts _ kw_27_17) (fun _ h9 => h9) rfl dX1_valueAt_21 ?_
        refine lv_icmp_lt (tgt := 31) hx hb dX1_valueAt_24 (of_decide_eq_true rfl) (fun c15 => ?_) (fun c15 => ?_)
        · have kc15 := jlt c15 t2 rfl
          refine lv_aload_n hx hb dX1_valueAt_31 rfl (lv_at hl 0 rfl) ?_
          refine va_get (D := D) hx hb hts inlX1 hown hK hP 31 (jc_31 cI cL ad σ τ) rfl 4 (of_decide_eq_true rfl) (hts _ kw_5_5) (fun _ h9 => h9) rfl dX1_valueAt_32 ?_
          refine lv_iload_n hx hb dX1_valueAt_35 rfl (lv_at hl 1 rfl) ?_
          refine lv_bipush (v := 9) hx hb dX1_valueAt_36 (of_decide_eq_true rfl) ?_
          refine lv_imul hx hb dX1_valueAt_38 ?_
          refine lv_topi (fun x16 ex16 => ?_)
          exact by
           have tx16 : x16.toInt = 9 * A1 := (jmul ex16 t1 jz_9 (by omega) (by omega)).trans (by omega)
           refine lv_iload_n hx hb dX1_valueAt_39 rfl (lv_at hl 2 rfl) ?_
           refine lv_iadd hx hb dX1_valueAt_40 ?_
           refine lv_topi (fun x17 ex17 => ?_)
           have tx17 : x17.toInt = 9 * A1 + A2 := (jadd ex17 tx16 t2 (by omega) (by omega)).trans (by omega)
           refine jald hx hb hK hP (jc_34 cI cL ad σ τ) (jin tx17 (by omega) (by omega)) dX1_valueAt_41 ?_
           refine jtopr (y := (σ 34 x17.toNatClampNeg)) rfl ?_
           exact hret (σ 34 x17.toNatClampNeg) σ τ _ _ _ _ rfl ⟨⟨rfl, rfl⟩, (fun h9 h8 h7 h6 => by rw [jnc (show x17.toInt = 9 * (A1) + (A2) by omega)]), trivial⟩ hP hS dX1_valueAt_42
        · have kc15 := jnlt c15 t2 rfl
          exact by
           refine lv_iconst (v := 0) hx hb dX1_valueAt_27 (of_decide_eq_true rfl) ?_
           refine lv_goto (tgt := 42) hx hb dX1_valueAt_28 (of_decide_eq_true rfl) ?_
           exact hret 0 σ τ _ _ _ _ rfl ⟨⟨rfl, rfl⟩, (fun h9 h8 h7 h6 => False.elim (by omega)), trivial⟩ hP hS dX1_valueAt_42
set_option maxHeartbeats 4000000 in
set_option maxRecDepth 100000 in
theorem c_X1_whomAt_31 (l : Launch) (D : va_G) (cI cL : ClassId) (ad zz : Nat → Nat) (hJ : jD ad) (σ : Nat → Nat → Int32) (τ : Nat → Nat → Int64) (a1 : Int32) (A1 : Int) (t1 : a1.toInt = A1) (a2 : Int32) (A2 : Int) (t2 : a2.toInt = A2) (hI16 : jI16 σ) (hI31 : jI31 σ) : jM l yX1_whomAt cX1_whomAt 3 (some .int) ({ frames := 0, cells := 0, slots := 0, locals := 0 }) D cI cL ad zz [.ref (ad 31), .int a1, .int a2] σ τ (fun r σ' τ' => (σ = σ' ∧ τ = τ') ∧ ((0 ≤ A1 → A1 < (σ 31 8).toInt → 0 ≤ A2 → A2 < (σ 16 0).toInt → r = σ 35 (9 * (A1) + (A2)).toNat)) ∧ ((True ∧ ((-1) ≤ r.toInt ∧ r.toInt ≤ 3)))) := by
  refine jM.of hJ (by decide +kernel) (nt := .int) rfl (Nat.le_of_ble_eq_true rfl) ?_
  intro p e s m args below meth c Q ls hC hret hl hP
  obtain ⟨hx, hb, hr, hml, hown, hts, hK, -, hlocks, hZ⟩ := hC
  have hown : s.vm.findClass RX1 = some m.cls := hown
  have hS : va_S (jA ad) s.heap s.heap [] := va_S.rf
  have hA : ∀ q, jA ad q → jA ad q := fun _ h => h
  have hl : lv_has ls 3 [(0, .ref (ad 31)), (1, .int a1), (2, .int a2)] := hl
  have g1 := jrg t1
  have g2 := jrg t2
  obtain ⟨i1, i2, i3, w4⟩ : (1 ≤ (σ 16 0).toInt ∧ (σ 16 0).toInt ≤ 8) ∧ (1 ≤ (σ 16 1).toInt ∧ (σ 16 1).toInt ≤ 12) ∧ (0 ≤ (σ 16 2).toInt ∧ (σ 16 2).toInt ≤ 999) ∧ (∀ k : Nat, k < 8 → 0 ≤ (σ 17 k).toInt ∧ (σ 17 k).toInt ≤ 3) := id hI16
  obtain ⟨i5, i6, i7, i8, w9, w10, w11⟩ : (0 ≤ (σ 31 8).toInt ∧ (σ 31 8).toInt ≤ 350) ∧ (0 ≤ (σ 31 10).toInt ∧ (σ 31 10).toInt ≤ 12) ∧ (0 ≤ (σ 31 11).toInt ∧ (σ 31 11).toInt ≤ 8) ∧ ((σ 31 10).toInt + (σ 31 11).toInt ≤ 12) ∧ (∀ k : Nat, k < 1400 → (-1) ≤ (σ 33 k).toInt ∧ (σ 33 k).toInt ≤ 350) ∧ (∀ k : Nat, k < 3159 → (-1) ≤ (σ 35 k).toInt ∧ (σ 35 k).toInt ≤ 3) ∧ (∀ k : Nat, k < 1024 → 0 ≤ (σ 36 k).toInt ∧ (σ 36 k).toInt ≤ 349) := id hI31
  refine lv_iload_n hx hb dX1_whomAt_0 rfl (lv_at hl 1 rfl) ?_
  refine lv_if_lt (tgt := 27) hx hb dX1_whomAt_1 (of_decide_eq_true rfl) (fun c12 => ?_) (fun c12 => ?_)
  · have kc12 := jlt c12 t1 jz_0
    refine lv_iconst (v := (-1)) hx hb dX1_whomAt_27 (of_decide_eq_true rfl) ?_
    refine lv_goto (tgt := 42) hx hb dX1_whomAt_28 (of_decide_eq_true rfl) ?_
    exact by exact hret (-1) σ τ _ _ _ _ rfl ⟨⟨rfl, rfl⟩, (fun h9 h8 h7 h6 => False.elim (by omega)), ⟨trivial, (by have h9 := jz_m1; omega)⟩⟩ hP hS dX1_whomAt_42
  · have kc12 := jnlt c12 t1 jz_0
    refine lv_iload_n hx hb dX1_whomAt_4 rfl (lv_at hl 1 rfl) ?_
    refine lv_aload_n hx hb dX1_whomAt_5 rfl (lv_at hl 0 rfl) ?_
    refine va_get (D := D) hx hb hts inlX1 hown hK hP 31 (jc_31 cI cL ad σ τ) rfl 8 (of_decide_eq_true rfl) (hts _ kw_27_22) (fun _ h9 => h9) rfl dX1_whomAt_6 ?_
    refine lv_icmp_ge (tgt := 27) hx hb dX1_whomAt_9 (of_decide_eq_true rfl) (fun c13 => ?_) (fun c13 => ?_)
    · have kc13 := jle c13 rfl t1
      refine lv_iconst (v := (-1)) hx hb dX1_whomAt_27 (of_decide_eq_true rfl) ?_
      refine lv_goto (tgt := 42) hx hb dX1_whomAt_28 (of_decide_eq_true rfl) ?_
      exact by exact hret (-1) σ τ _ _ _ _ rfl ⟨⟨rfl, rfl⟩, (fun h9 h8 h7 h6 => False.elim (by omega)), ⟨trivial, (by have h9 := jz_m1; omega)⟩⟩ hP hS dX1_whomAt_42
    · have kc13 := jnle c13 rfl t1
      refine lv_iload_n hx hb dX1_whomAt_12 rfl (lv_at hl 2 rfl) ?_
      refine lv_if_lt (tgt := 27) hx hb dX1_whomAt_13 (of_decide_eq_true rfl) (fun c14 => ?_) (fun c14 => ?_)
      · have kc14 := jlt c14 t2 jz_0
        refine lv_iconst (v := (-1)) hx hb dX1_whomAt_27 (of_decide_eq_true rfl) ?_
        refine lv_goto (tgt := 42) hx hb dX1_whomAt_28 (of_decide_eq_true rfl) ?_
        exact by exact hret (-1) σ τ _ _ _ _ rfl ⟨⟨rfl, rfl⟩, (fun h9 h8 h7 h6 => False.elim (by omega)), ⟨trivial, (by have h9 := jz_m1; omega)⟩⟩ hP hS dX1_whomAt_42
      · have kc14 := jnlt c14 t2 jz_0
        refine lv_iload_n hx hb dX1_whomAt_16 rfl (lv_at hl 2 rfl) ?_
        refine lv_aload_n hx hb dX1_whomAt_17 rfl (lv_at hl 0 rfl) ?_
        refine va_get (D := D) hx hb hts inlX1 hown hK hP 31 (jc_31 cI cL ad σ τ) rfl 1 (of_decide_eq_true rfl) (hts _ kw_5_11) (fun _ h9 => h9) rfl dX1_whomAt_18 ?_
        refine va_get (D := D) hx hb hts inlX6 hown hK hP 16 (jc_16 cI cL ad σ τ) rfl 0 (of_decide_eq_true rfl) (hts _ kw_27_17) (fun _ h9 => h9) rfl dX1_whomAt_21 ?_
        refine lv_icmp_lt (tgt := 31) hx hb dX1_whomAt_24 (of_decide_eq_true rfl) (fun c15 => ?_) (fun c15 => ?_)
        · have kc15 := jlt c15 t2 rfl
          refine lv_aload_n hx hb dX1_whomAt_31 rfl (lv_at hl 0 rfl) ?_
          refine va_get (D := D) hx hb hts inlX1 hown hK hP 31 (jc_31 cI cL ad σ τ) rfl 5 (of_decide_eq_true rfl) (hts _ kw_5_6) (fun _ h9 => h9) rfl dX1_whomAt_32 ?_
          refine lv_iload_n hx hb dX1_whomAt_35 rfl (lv_at hl 1 rfl) ?_
          refine lv_bipush (v := 9) hx hb dX1_whomAt_36 (of_decide_eq_true rfl) ?_
          refine lv_imul hx hb dX1_whomAt_38 ?_
          refine lv_topi (fun x16 ex16 => ?_)
          exact by
           have tx16 : x16.toInt = 9 * A1 := (jmul ex16 t1 jz_9 (by omega) (by omega)).trans (by omega)
           refine lv_iload_n hx hb dX1_whomAt_39 rfl (lv_at hl 2 rfl) ?_
           refine lv_iadd hx hb dX1_whomAt_40 ?_
           refine lv_topi (fun x17 ex17 => ?_)
           have tx17 : x17.toInt = 9 * A1 + A2 := (jadd ex17 tx16 t2 (by omega) (by omega)).trans (by omega)
           refine jald hx hb hK hP (jc_35 cI cL ad σ τ) (jin tx17 (by omega) (by omega)) dX1_whomAt_41 ?_
           have g18 := w10 _ (jnat (x := x17) tx17 (n := 3159) (by omega) (of_decide_eq_true rfl))
           refine jtopr (y := (σ 35 x17.toNatClampNeg)) rfl ?_
           exact hret (σ 35 x17.toNatClampNeg) σ τ _ _ _ _ rfl ⟨⟨rfl, rfl⟩, (fun h9 h8 h7 h6 => by rw [jnc (show x17.toInt = 9 * (A1) + (A2) by omega)]), ⟨trivial, (by omega)⟩⟩ hP hS dX1_whomAt_42
        · exact by
           have kc15 := jnlt c15 t2 rfl
           refine lv_iconst (v := (-1)) hx hb dX1_whomAt_27 (of_decide_eq_true rfl) ?_
           refine lv_goto (tgt := 42) hx hb dX1_whomAt_28 (of_decide_eq_true rfl) ?_
           exact by exact hret (-1) σ τ _ _ _ _ rfl ⟨⟨rfl, rfl⟩, (fun h9 h8 h7 h6 => False.elim (by omega)), ⟨trivial, (by have h9 := jz_m1; omega)⟩⟩ hP hS dX1_whomAt_42
set_option maxHeartbeats 4000000 in
set_option maxRecDepth 100000 in
theorem c_X1_isTaken_31 (l : Launch) (D : va_G) (cI cL : ClassId) (ad zz : Nat → Nat) (hJ : jD ad) (σ : Nat → Nat → Int32) (τ : Nat → Nat → Int64) (a1 : Int32) (A1 : Int) (t1 : a1.toInt = A1) (hI31 : jI31 σ) (hp0 : 0 ≤ A1 ∧ A1 ≤ 1023) : jM l yX1_isTaken cX1_isTaken 3 (some .boolean) ({ frames := 0, cells := 0, slots := 0, locals := 0 }) D cI cL ad zz [.ref (ad 31), .int a1] σ τ (fun r σ' τ' => (σ = σ' ∧ τ = τ') ∧ ((r = 1 ∧ (jqTk (σ 31 8).toInt (σ 36) (σ 37) (A1))) ∨ (r = 0 ∧ (¬ jqTk (σ 31 8).toInt (σ 36) (σ 37) (A1))))) := by
  refine jM.of hJ (by decide +kernel) (nt := .boolean) rfl (Nat.le_of_ble_eq_true rfl) ?_
  intro p e s m args below meth c Q ls hC hret hl hP
  obtain ⟨hx, hb, hr, hml, hown, hts, hK, -, hlocks, hZ⟩ := hC
  have hown : s.vm.findClass RX1 = some m.cls := hown
  have hS : va_S (jA ad) s.heap s.heap [] := va_S.rf
  have hA : ∀ q, jA ad q → jA ad q := fun _ h => h
  have hl : lv_has ls 3 [(0, .ref (ad 31)), (1, .int a1)] := hl
  have g1 := jrg t1
  obtain ⟨i1, i2, i3, i4, w5, w6, w7⟩ : (0 ≤ (σ 31 8).toInt ∧ (σ 31 8).toInt ≤ 350) ∧ (0 ≤ (σ 31 10).toInt ∧ (σ 31 10).toInt ≤ 12) ∧ (0 ≤ (σ 31 11).toInt ∧ (σ 31 11).toInt ≤ 8) ∧ ((σ 31 10).toInt + (σ 31 11).toInt ≤ 12) ∧ (∀ k : Nat, k < 1400 → (-1) ≤ (σ 33 k).toInt ∧ (σ 33 k).toInt ≤ 350) ∧ (∀ k : Nat, k < 3159 → (-1) ≤ (σ 35 k).toInt ∧ (σ 35 k).toInt ≤ 3) ∧ (∀ k : Nat, k < 1024 → 0 ≤ (σ 36 k).toInt ∧ (σ 36 k).toInt ≤ 349) := id hI31
  refine lv_aload_n hx hb dX1_isTaken_0 rfl (lv_at hl 0 rfl) ?_
  refine va_get (D := D) hx hb hts inlX1 hown hK hP 31 (jc_31 cI cL ad σ τ) rfl 6 (of_decide_eq_true rfl) (hts _ kw_5_7) (fun _ h9 => h9) rfl dX1_isTaken_1 ?_
  refine lv_iload_n hx hb dX1_isTaken_4 rfl (lv_at hl 1 rfl) ?_
  exact by
   refine jald hx hb hK hP (jc_36 cI cL ad σ τ) (jin t1 (by omega) (by omega)) dX1_isTaken_5 ?_
   have g8 := w7 _ (jnat (x := a1) t1 (n := 1024) (by omega) (of_decide_eq_true rfl))
   refine jtopr (y := (σ 36 a1.toNatClampNeg)) rfl ?_
   refine lv_istore_n (lv' := [(2, .int (σ 36 a1.toNatClampNeg)), (0, .ref (ad 31)), (1, .int a1)]) hx hb dX1_isTaken_6 rfl hl (of_decide_eq_true rfl) rfl (fun ls hl => ?_)
   refine lv_iload_n hx hb dX1_isTaken_7 rfl (lv_at hl 0 rfl) ?_
   refine lv_aload_n hx hb dX1_isTaken_8 rfl (lv_at hl 1 rfl) ?_
   refine va_get (D := D) hx hb hts inlX1 hown hK hP 31 (jc_31 cI cL ad σ τ) rfl 8 (of_decide_eq_true rfl) (hts _ kw_27_22) (fun _ h9 => h9) rfl dX1_isTaken_9 ?_
   refine lv_icmp_ge (tgt := 29) hx hb dX1_isTaken_12 (of_decide_eq_true rfl) (fun c9 => ?_) (fun c9 => ?_)
   · have kc9 := jle c9 rfl rfl
     exact by
      refine lv_iconst (v := 0) hx hb dX1_isTaken_29 (of_decide_eq_true rfl) ?_
      exact hret 0 σ τ _ _ _ _ rfl ⟨⟨rfl, rfl⟩, Or.inr (⟨rfl, (by rw [← t1]; exact fun w => by have q := jqTk_iff.mp w; omega)⟩)⟩ hP hS dX1_isTaken_30
   · have kc9 := jnle c9 rfl rfl
     refine lv_aload_n hx hb dX1_isTaken_15 rfl (lv_at hl 1 rfl) ?_
     refine va_get (D := D) hx hb hts inlX1 hown hK hP 31 (jc_31 cI cL ad σ τ) rfl 7 (of_decide_eq_true rfl) (hts _ kw_5_8) (fun _ h9 => h9) rfl dX1_isTaken_16 ?_
     refine lv_iload_n hx hb dX1_isTaken_19 rfl (lv_at hl 0 rfl) ?_
     refine jald hx hb hK hP (jc_37 cI cL ad σ τ) (jin rfl (by omega) (by omega)) dX1_isTaken_20 ?_
     refine jtopr (y := (σ 37 (σ 36 a1.toNatClampNeg).toNatClampNeg)) rfl ?_
     refine lv_iload_n hx hb dX1_isTaken_21 rfl (lv_at hl 2 rfl) ?_
     exact by
      refine lv_icmp_ne (tgt := 29) hx hb dX1_isTaken_22 (of_decide_eq_true rfl) (fun c10 => ?_) (fun c10 => ?_)
      · have kc10 := jne c10 rfl t1
        refine lv_iconst (v := 0) hx hb dX1_isTaken_29 (of_decide_eq_true rfl) ?_
        exact hret 0 σ τ _ _ _ _ rfl ⟨⟨rfl, rfl⟩, Or.inr (⟨rfl, (by rw [← t1]; exact fun w => by have q := jqTk_iff.mp w; omega)⟩)⟩ hP hS dX1_isTaken_30
      · have kc10 := jeq c10 rfl t1
        refine lv_iconst (v := 1) hx hb dX1_isTaken_25 (of_decide_eq_true rfl) ?_
        refine lv_goto (tgt := 30) hx hb dX1_isTaken_26 (of_decide_eq_true rfl) ?_
        exact hret 1 σ τ _ _ _ _ rfl ⟨⟨rfl, rfl⟩, Or.inl ⟨rfl, (by rw [← t1]; exact jqTk_iff.mpr ⟨by omega, by omega, by omega⟩)⟩⟩ hP hS dX1_isTaken_30
set_option maxHeartbeats 4000000 in
set_option maxRecDepth 100000 in
theorem c_X1_slotFor_31 (l : Launch) (D : va_G) (cI cL : ClassId) (ad zz : Nat → Nat) (hJ : jD ad) (σ : Nat → Nat → Int32) (τ : Nat → Nat → Int64) (a1 : Int32) (A1 : Int) (t1 : a1.toInt = A1) (hI31 : jI31 σ) : jM l yX1_slotFor cX1_slotFor 5 (some .int) ({ frames := 1, cells := 0, slots := 0, locals := 22 }) D cI cL ad zz [.ref (ad 31), .int a1] σ τ (fun r σ' τ' => (σ = σ' ∧ τ = τ') ∧ (jqSf (σ 31 8).toInt (σ 32) (σ 36) (σ 37) a1 r.toInt) ∧ ((True ∧ ((-1) ≤ r.toInt ∧ r.toInt ≤ 1023)))) := by
  refine jM.of hJ (by decide +kernel) (nt := .int) rfl (Nat.le_of_ble_eq_true rfl) ?_
  intro p e s m args below meth c Q ls hC hret hl hP
  obtain ⟨hx, hb, hr, hml, hown, hts, hK, -, hlocks, hZ⟩ := hC
  have hown : s.vm.findClass RX1 = some m.cls := hown
  have hS : va_S (jA ad) s.heap s.heap [] := va_S.rf
  have hA : ∀ q, jA ad q → jA ad q := fun _ h => h
  have hl : lv_has ls 5 [(0, .ref (ad 31)), (1, .int a1)] := hl
  have g1 := jrg t1
  obtain ⟨i1, i2, i3, i4, w5, w6, w7⟩ : (0 ≤ (σ 31 8).toInt ∧ (σ 31 8).toInt ≤ 350) ∧ (0 ≤ (σ 31 10).toInt ∧ (σ 31 10).toInt ≤ 12) ∧ (0 ≤ (σ 31 11).toInt ∧ (σ 31 11).toInt ≤ 8) ∧ ((σ 31 10).toInt + (σ 31 11).toInt ≤ 12) ∧ (∀ k : Nat, k < 1400 → (-1) ≤ (σ 33 k).toInt ∧ (σ 33 k).toInt ≤ 350) ∧ (∀ k : Nat, k < 3159 → (-1) ≤ (σ 35 k).toInt ∧ (σ 35 k).toInt ≤ 3) ∧ (∀ k : Nat, k < 1024 → 0 ≤ (σ 36 k).toInt ∧ (σ 36 k).toInt ≤ 349) := id hI31
  refine lv_iload_n hx hb dX1_slotFor_0 rfl (lv_at hl 1 rfl) ?_
  refine lv_ldc (v := (-1640531527)) hx hb hown (hts _ kw_29_4) dX1_slotFor_1 ?_
  refine lv_imul hx hb dX1_slotFor_3 ?_
  refine lv_topi (fun x8 ex8 => ?_)
  have gx8 := jrg (rfl : x8.toInt = x8.toInt)
  refine lv_bipush (v := 22) hx hb dX1_slotFor_4 (of_decide_eq_true rfl) ?_
  refine lv_iushr hx hb dX1_slotFor_6 rfl ?_
  refine lv_topi (fun x9 ex9 => ?_)
  have gx9 := jrg (rfl : x9.toInt = x9.toInt)
  have g10 : 0 ≤ x9.toInt ∧ x9.toInt ≤ 1023 := jushr22 ex9
  refine lv_istore_n (lv' := [(2, .int x9), (0, .ref (ad 31)), (1, .int a1)]) hx hb dX1_slotFor_7 rfl hl (of_decide_eq_true rfl) rfl (fun ls hl => ?_)
  refine lv_iconst (v := 0) hx hb dX1_slotFor_8 (of_decide_eq_true rfl) ?_
  refine lv_istore_n (lv' := [(3, .int 0), (2, .int x9), (0, .ref (ad 31)), (1, .int a1)]) hx hb dX1_slotFor_9 rfl hl (of_decide_eq_true rfl) rfl (fun ls hl => ?_)
  have lp11 : ∀ (n12 : Nat) (x13 : Int32) (H : Heap) (locs : List Loc) (ls : Array Slot), (-x13.toInt + 1024 : Int) < n12 → 0 ≤ x13.toInt → x13.toInt ≤ 1024 → (∀ q : Nat, (q : Int) < x13.toInt → jqMs (σ 31 8).toInt (σ 32) (σ 36) (σ 37) a1 q) → jH D cI cL ad σ τ H → va_S (jA ad) s.heap H locs → lv_has ls 5 [(3, .int x13), (2, .int x9), (0, .ref (ad 31)), (1, .int a1)] → W p l e ({ frames := 1, cells := 0, slots := 0, locals := 22 }) s m args below meth c H locs 0 0 Q (F0 m 10 ls []) := by
    intro n12
    induction n12 with
    | zero => intro x13 H locs ls h16 h17 h18; exact absurd h16 (by omega)
    | succ n12 ihlp11 =>
      intro x13 H locs ls h16 h17 h18 q20 hP hS hl
      exact by
       refine lv_iload_n hx hb dX1_slotFor_10 rfl (lv_at hl 0 rfl) ?_
       refine lv_sipush (v := 1024) hx hb dX1_slotFor_11 (of_decide_eq_true rfl) ?_
       refine lv_icmp_ge (tgt := 60) hx hb dX1_slotFor_14 (of_decide_eq_true rfl) (fun c21 => ?_) (fun c21 => ?_)
       · have kc21 := jle c21 jz_1024 rfl
         refine lv_iconst (v := (-1)) hx hb dX1_slotFor_60 (of_decide_eq_true rfl) ?_
         exact by exact hret (-1) σ τ _ _ _ _ rfl ⟨⟨rfl, rfl⟩, (jqSf.no q20 (by omega) (of_decide_eq_true rfl)), ⟨trivial, (by have h9 := jz_m1; omega)⟩⟩ hP hS dX1_slotFor_61
       · have kc21 := jnle c21 jz_1024 rfl
         refine lv_iload_n hx hb dX1_slotFor_17 rfl (lv_at hl 1 rfl) ?_
         refine lv_iload_n hx hb dX1_slotFor_18 rfl (lv_at hl 0 rfl) ?_
         have g22 := jrg (rfl : x9.toInt = x9.toInt)
         have g23 := jrg (rfl : x13.toInt = x13.toInt)
         refine lv_iadd hx hb dX1_slotFor_19 ?_
         refine lv_topi (fun x24 ex24 => ?_)
         exact by
          have tx24 : x24.toInt = x9.toInt + x13.toInt := (jadd ex24 rfl rfl (by omega) (by omega)).trans (by omega)
          refine lv_sipush (v := 1023) hx hb dX1_slotFor_20 (of_decide_eq_true rfl) ?_
          refine lv_iand hx hb dX1_slotFor_23 ?_
          refine lv_topi (fun x25 ex25 => ?_)
          have gx25 := jrg (rfl : x25.toInt = x25.toInt)
          have g26 : 0 ≤ x25.toInt ∧ x25.toInt ≤ 1023 := jmask ex25 10 (of_decide_eq_true rfl) (of_decide_eq_true rfl)
          refine lv_istore (lv' := [(4, .int x25), (3, .int x13), (2, .int x9), (0, .ref (ad 31)), (1, .int a1)]) hx hb dX1_slotFor_24 hl (of_decide_eq_true rfl) rfl (fun ls hl => ?_)
          refine lv_aload_n hx hb dX1_slotFor_26 rfl (lv_at hl 3 rfl) ?_
          refine lv_iload hx hb dX1_slotFor_27 (lv_at hl 0 rfl) ?_
          exact by
           refine jcallV (As := [.int x25]) (rest := []) ⟨hx, hb, hml, hown, hts⟩ hK hP hA hS hZ (c_X1_isTaken_31 l D cI cL ad zz hJ σ τ x25 (x25.toInt) rfl hI31 (by omega)) cw_RX1_81 (jc_31 cI cL ad σ τ) rfl ⟨Nat.le_of_ble_eq_true rfl, Nat.le_of_ble_eq_true rfl⟩ rfl rfl rfl hl.1 rfl (Nat.le_of_ble_eq_true rfl) dX1_slotFor_29 ⟨Nat.zero_le _, Nat.zero_le _⟩ (fun r28 σ27 τ27 H locs h27 hP hS => ?_)
           obtain ⟨⟨rfl, rfl⟩, h27⟩ := h27
           rcases h27 with h29 | h30
           · obtain ⟨q32, k31⟩ := h29
             have q32 := q32.symm
             subst q32
             refine lv_if_eq (tgt := 51) hx hb dX1_slotFor_32 (of_decide_eq_true rfl) (fun c => absurd c (of_decide_eq_true rfl)) (fun _ => ?_)
             refine lv_aload_n hx hb dX1_slotFor_35 rfl (lv_at hl 3 rfl) ?_
             refine va_get (D := D) hx hb hts inlX1 hown hK hP 31 (jc_31 cI cL ad σ τ) rfl 2 (of_decide_eq_true rfl) (hts _ kw_5_3) (fun _ h9 => h9) rfl dX1_slotFor_36 ?_
             refine lv_aload_n hx hb dX1_slotFor_39 rfl (lv_at hl 3 rfl) ?_
             refine va_get (D := D) hx hb hts inlX1 hown hK hP 31 (jc_31 cI cL ad σ τ) rfl 6 (of_decide_eq_true rfl) (hts _ kw_5_7) (fun _ h9 => h9) rfl dX1_slotFor_40 ?_
             refine lv_iload hx hb dX1_slotFor_43 (lv_at hl 0 rfl) ?_
             exact by
              refine jald hx hb hK hP (jc_36 cI cL ad σ τ) (jin rfl (by omega) (by omega)) dX1_slotFor_45 ?_
              have g33 := w7 _ (jnat (x := x25) rfl (n := 1024) (by omega) (of_decide_eq_true rfl))
              refine jtopr (y := (σ 36 x25.toNatClampNeg)) rfl ?_
              refine jald hx hb hK hP (jc_32 cI cL ad σ τ) (jin rfl (by omega) (by omega)) dX1_slotFor_46 ?_
              refine jtopr (y := (σ 32 (σ 36 x25.toNatClampNeg).toNatClampNeg)) rfl ?_
              refine lv_iload_n hx hb dX1_slotFor_47 rfl (lv_at hl 4 rfl) ?_
              refine lv_icmp_ne (tgt := 54) hx hb dX1_slotFor_48 (of_decide_eq_true rfl) (fun c34 => ?_) (fun c34 => ?_)
              · have kc34 := jne c34 rfl t1
                obtain ⟨x35, ex35⟩ : ∃ y : Int32, y = x13 + 1 := ⟨_, rfl⟩
                exact by
                 have tx35 : x35.toInt = x13.toInt + 1 := (jadd ex35 rfl jz_1 (by omega) (by omega)).trans (by omega)
                 refine lv_iinc (v := x35) (lv' := [(3, .int x35), (4, .int x25), (2, .int x9), (0, .ref (ad 31)), (1, .int a1)]) hx hb dX1_slotFor_54 hl (k := 1) rfl (by rw [ex35]; rfl) (of_decide_eq_true rfl) rfl (fun ls hl => ?_)
                 refine lv_goto (tgt := 10) hx hb dX1_slotFor_57 (of_decide_eq_true rfl) ?_
                 exact by exact ihlp11 x35 _ _ ls (by have h90 := tx35; omega) (by have h90 := tx35; omega) (by have h90 := tx35; omega)   (jqMs.step q20 (by omega) (by rw [show jHx a1 = x9 by rw [ex9, ex8, jHx]]; have w := jandm (x := x24) (y := x25) (m := 1023) (k := 10) (M := 1024) (by rw [ex25]) rfl rfl (of_decide_eq_true rfl); omega) k31 (show (σ 32 (σ 36 x25.toNatClampNeg).toNatClampNeg).toInt ≠ a1.toInt by omega) (by have h9 := tx35; omega)) hP hS (lv_sub hl [0, 2, 3, 4] rfl)
              · have kc34 := jeq c34 rfl t1
                refine lv_iload hx hb dX1_slotFor_51 (lv_at hl 0 rfl) ?_
                exact by exact hret x25 σ τ _ _ _ _ rfl ⟨⟨rfl, rfl⟩, (jqSf.of q20 (by omega) (by omega) (by rw [show jHx a1 = x9 by rw [ex9, ex8, jHx]]; have w := jandm (x := x24) (y := x25) (m := 1023) (k := 10) (M := 1024) (by rw [ex25]) rfl rfl (of_decide_eq_true rfl); omega) (Or.inr ⟨k31, (show (σ 32 (σ 36 x25.toNatClampNeg).toNatClampNeg).toInt = a1.toInt by omega)⟩)), ⟨trivial, (by omega)⟩⟩ hP hS dX1_slotFor_53
           · obtain ⟨q37, k36⟩ := h30
             have q37 := q37.symm
             exact by
              subst q37
              refine lv_if_eq (tgt := 51) hx hb dX1_slotFor_32 (of_decide_eq_true rfl) (fun _ => ?_) (fun c => absurd (of_decide_eq_true rfl) c)
              refine lv_iload hx hb dX1_slotFor_51 (lv_at hl 0 rfl) ?_
              exact by exact hret x25 σ τ _ _ _ _ rfl ⟨⟨rfl, rfl⟩, (jqSf.of q20 (by omega) (by omega) (by rw [show jHx a1 = x9 by rw [ex9, ex8, jHx]]; have w := jandm (x := x24) (y := x25) (m := 1023) (k := 10) (M := 1024) (by rw [ex25]) rfl rfl (of_decide_eq_true rfl); omega) (Or.inl k36)), ⟨trivial, (by omega)⟩⟩ hP hS dX1_slotFor_53
  exact by exact lp11 1000000 0 _ _ ls (by have h90 := jz_0; omega) (by have h90 := jz_0; omega) (by have h90 := jz_0; omega)  (fun q hq => absurd hq (by have h9 := jz_0; omega)) hP hS hl
set_option maxHeartbeats 4000000 in
set_option maxRecDepth 100000 in
theorem c_X1_trimmed_r (l : Launch) (D : va_G) (cI cL : ClassId) (ad zz : Nat → Nat) (hJ : jD ad) (σ : Nat → Nat → Int32) (τ : Nat → Nat → Int64) (a1 : Int32) (A1 : Int) (t1 : a1.toInt = A1) (a2 : Int32) (A2 : Int) (t2 : a2.toInt = A2) (hp0 : 0 ≤ A1 ∧ A1 ≤ 134217727) (hp1 : 1 ≤ A2) (hp2 : A2 ≤ 12) : jM l yX1_trimmed cX1_trimmed 7 (some .int) ({ frames := 1, cells := 0, slots := 0, locals := 23 }) D cI cL ad zz [.ref (ad 31), .int a1, .int a2] σ τ (fun r σ' τ' => (σ = σ' ∧ τ = τ') ∧ (jTf (decide ((σ 31 12).toInt ≠ 0)) (A2) a1 r) ∧ ((True ∧ (0 ≤ r.toInt ∧ r.toInt ≤ 134217727)))) := by
  refine jM.of hJ (by decide +kernel) (nt := .int) rfl (Nat.le_of_ble_eq_true rfl) ?_
  intro p e s m args below meth c Q ls hC hret hl hP
  obtain ⟨hx, hb, hr, hml, hown, hts, hK, -, hlocks, hZ⟩ := hC
  have hown : s.vm.findClass RX1 = some m.cls := hown
  have hS : va_S (jA ad) s.heap s.heap [] := va_S.rf
  have hA : ∀ q, jA ad q → jA ad q := fun _ h => h
  have hl : lv_has ls 7 [(0, .ref (ad 31)), (1, .int a1), (2, .int a2)] := hl
  have g1 := jrg t1
  have g2 := jrg t2
  refine lv_iload_n hx hb dX1_trimmed_0 rfl (lv_at hl 1 rfl) ?_
  refine lv_istore_n (lv' := [(3, .int a1), (0, .ref (ad 31)), (1, .int a1), (2, .int a2)]) hx hb dX1_trimmed_1 rfl hl (of_decide_eq_true rfl) rfl (fun ls hl => ?_)
  refine lv_iconst (v := 0) hx hb dX1_trimmed_2 (of_decide_eq_true rfl) ?_
  refine lv_istore (lv' := [(4, .int 0), (3, .int a1), (0, .ref (ad 31)), (1, .int a1), (2, .int a2)]) hx hb dX1_trimmed_3 hl (of_decide_eq_true rfl) rfl (fun ls hl => ?_)
  have lp1 : ∀ (n2 : Nat) (x3 : Int32) (x4 : Int32) (H : Heap) (locs : List Loc) (ls : Array Slot), (-x4.toInt + 4 : Int) < n2 → 0 ≤ x3.toInt → x3.toInt ≤ 134217727 → 0 ≤ x4.toInt → x4.toInt ≤ 4 → (jTh (decide ((σ 31 12).toInt ≠ 0)) (a2.toInt) a1 x3 (x4.toInt)) → jH D cI cL ad σ τ H → va_S (jA ad) s.heap H locs → lv_has ls 7 [(4, .int x4), (3, .int x3), (0, .ref (ad 31)), (1, .int a1), (2, .int a2)] → W p l e ({ frames := 1, cells := 0, slots := 0, locals := 23 }) s m args below meth c H locs 0 0 Q (F0 m 5 ls []) := by
    intro n2
    induction n2 with
    | zero => intro x3 x4 H locs ls h8 h9 h10 h11 h12; exact absurd h8 (by omega)
    | succ n2 ihlp1 =>
      intro x3 x4 H locs ls h8 h9 h10 h11 h12 q14 hP hS hl
      exact by
       refine lv_iload hx hb dX1_trimmed_5 (lv_at hl 0 rfl) ?_
       refine lv_iconst (v := 4) hx hb dX1_trimmed_7 (of_decide_eq_true rfl) ?_
       refine lv_icmp_ge (tgt := 90) hx hb dX1_trimmed_8 (of_decide_eq_true rfl) (fun c15 => ?_) (fun c15 => ?_)
       · have kc15 := jle c15 jz_4 rfl
         refine lv_iload_n hx hb dX1_trimmed_90 rfl (lv_at hl 1 rfl) ?_
         exact by exact hret x3 σ τ _ _ _ _ rfl ⟨⟨rfl, rfl⟩, (by rw [← t2]; exact q14.fin (by omega)), ⟨trivial, (by omega)⟩⟩ hP hS dX1_trimmed_91
       · have kc15 := jnle c15 jz_4 rfl
         refine lv_iload_n hx hb dX1_trimmed_11 rfl (lv_at hl 3 rfl) ?_
         refine lv_iload hx hb dX1_trimmed_12 (lv_at hl 0 rfl) ?_
         refine jcallS (As := [.int a1, .int x4]) (rest := []) ⟨hx, hb, hml, hown, hts⟩ hK hP hA hS hZ (c_X0_left l D cI cL ad zz hJ σ τ a1 (A1) t1 x4 (x4.toInt) rfl) cw_RX1_123 ⟨Nat.le_of_ble_eq_true rfl, Nat.le_of_ble_eq_true rfl⟩ rfl rfl rfl hl.1 rfl (Nat.le_of_ble_eq_true rfl) dX1_trimmed_14 ⟨Nat.zero_le _, Nat.zero_le _⟩ (fun r17 σ16 τ16 H locs h16 hP hS => ?_)
         obtain ⟨⟨rfl, rfl⟩, w18, h16⟩ := h16
         have k19 := congrArg Int32.toInt w18
         have h20 := h16
         obtain ⟨q22, k21⟩ := h20
         refine lv_istore (lv' := [(5, .int r17), (4, .int x4), (3, .int x3), (0, .ref (ad 31)), (1, .int a1), (2, .int a2)]) hx hb dX1_trimmed_17 hl (of_decide_eq_true rfl) rfl (fun ls hl => ?_)
         refine lv_iload_n hx hb dX1_trimmed_19 rfl (lv_at hl 4 rfl) ?_
         refine jcallS (As := [.int a1]) (rest := []) ⟨hx, hb, hml, hown, hts⟩ hK hP hA hS hZ (c_X0_last l D cI cL ad zz hJ σ τ a1 (A1) t1) cw_RX1_126 ⟨Nat.le_of_ble_eq_true rfl, Nat.le_of_ble_eq_true rfl⟩ rfl rfl rfl hl.1 rfl (Nat.le_of_ble_eq_true rfl) dX1_trimmed_20 ⟨Nat.zero_le _, Nat.zero_le _⟩ (fun r24 σ23 τ23 H locs h23 hP hS => ?_)
         obtain ⟨⟨rfl, rfl⟩, w25, h23⟩ := h23
         refine lv_iload hx hb dX1_trimmed_23 (lv_at hl 1 rfl) ?_
         refine lv_icmp_ne (tgt := 32) hx hb dX1_trimmed_25 (of_decide_eq_true rfl) (fun c26 => ?_) (fun c26 => ?_)
         · have kc26 := jne c26 rfl rfl
           refine lv_iload_n hx hb dX1_trimmed_32 rfl (lv_at hl 5 rfl) ?_
           refine lv_iconst (v := 1) hx hb dX1_trimmed_33 (of_decide_eq_true rfl) ?_
           refine lv_iadd hx hb dX1_trimmed_34 ?_
           refine lv_topi (fun x27 ex27 => ?_)
           exact by
            have tx27 : x27.toInt = A2 + 1 := (jadd ex27 t2 jz_1 (by omega) (by omega)).trans (by omega)
            refine lv_iconst (v := 2) hx hb dX1_trimmed_35 (of_decide_eq_true rfl) ?_
            refine lv_idiv hx hb dX1_trimmed_36 (of_decide_eq_true rfl) ?_
            refine lv_topi (fun x28 ex28 => ?_)
            have tx28 : x28.toInt = ((A2 + 1) / 2) := jdiv ex28 tx27 jz_2 (by omega) (by omega)
            refine lv_istore (lv' := [(6, .int x28), (5, .int r17), (4, .int x4), (3, .int x3), (0, .ref (ad 31)), (1, .int a1), (2, .int a2)]) hx hb dX1_trimmed_37 hl (of_decide_eq_true rfl) rfl (fun ls hl => ?_)
            refine lv_aload_n hx hb dX1_trimmed_39 rfl (lv_at hl 4 rfl) ?_
            refine va_get (D := D) hx hb hts inlX1 hown hK hP 31 (jc_31 cI cL ad σ τ) rfl 12 (of_decide_eq_true rfl) (hts _ kw_28_8) (fun _ h9 => h9) rfl dX1_trimmed_40 ?_
            refine lv_if_eq (tgt := 51) hx hb dX1_trimmed_43 (of_decide_eq_true rfl) (fun c29 => ?_) (fun c29 => ?_)
            · exact by
               have kc29 := jeq c29 rfl jz_0
               refine lv_iload hx hb dX1_trimmed_51 (lv_at hl 1 rfl) ?_
               refine lv_iload hx hb dX1_trimmed_53 (lv_at hl 0 rfl) ?_
               refine lv_icmp_le (tgt := 71) hx hb dX1_trimmed_55 (of_decide_eq_true rfl) (fun c30 => ?_) (fun c30 => ?_)
               · have kc30 := jle c30 rfl tx28
                 refine lv_iload hx hb dX1_trimmed_71 (lv_at hl 1 rfl) ?_
                 refine lv_if_ne (tgt := 84) hx hb dX1_trimmed_73 (of_decide_eq_true rfl) (fun c31 => ?_) (fun c31 => ?_)
                 · have kc31 := jne c31 rfl jz_0
                   obtain ⟨x32, ex32⟩ : ∃ y : Int32, y = x4 + 1 := ⟨_, rfl⟩
                   exact by
                    have tx32 : x32.toInt = x4.toInt + 1 := (jadd ex32 rfl jz_1 (by omega) (by omega)).trans (by omega)
                    refine lv_iinc (v := x32) (lv' := [(4, .int x32), (6, .int x28), (5, .int r17), (3, .int x3), (0, .ref (ad 31)), (1, .int a1), (2, .int a2)]) hx hb dX1_trimmed_84 hl (k := 2) rfl (by rw [ex32]; rfl) (of_decide_eq_true rfl) rfl (fun ls hl => ?_)
                    refine lv_goto (tgt := 5) hx hb dX1_trimmed_87 (of_decide_eq_true rfl) ?_
                    exact by exact ihlp1 x3 x32 _ _ ls (by have h91 := tx32; omega) (by have h91 := tx32; omega) (by have h91 := tx32; omega) (by have h91 := tx32; omega) (by have h91 := tx32; omega)   (jTh.stepi (l := r17) (m := x28) (v := x28) (w := 0) q14 rfl (by omega) (by omega) w18 (by unfold jla; omega) (by have h9 := tx28; omega) rfl (Or.inr ⟨by omega, Or.inr ⟨by omega, rfl⟩⟩) (by have h9 := tx32; omega)) hP hS (lv_sub hl [0, 3, 4, 5, 6] rfl)
                 · have kc31 := jeq c31 rfl jz_0
                   refine lv_iload_n hx hb dX1_trimmed_76 rfl (lv_at hl 3 rfl) ?_
                   refine lv_iload hx hb dX1_trimmed_77 (lv_at hl 2 rfl) ?_
                   refine lv_iconst (v := 0) hx hb dX1_trimmed_79 (of_decide_eq_true rfl) ?_
                   refine jcallS (As := [.int x3, .int x4, .int 0]) (rest := []) ⟨hx, hb, hml, hown, hts⟩ hK hP hA hS hZ (c_X0_withSteps_r l D cI cL ad zz hJ σ τ x3 (x3.toInt) rfl x4 (x4.toInt) rfl 0 (0) jz_0 (by omega) (by omega)) cw_RX1_133 ⟨Nat.le_of_ble_eq_true rfl, Nat.le_of_ble_eq_true rfl⟩ rfl rfl rfl hl.1 rfl (Nat.le_of_ble_eq_true rfl) dX1_trimmed_80 ⟨Nat.zero_le _, Nat.zero_le _⟩ (fun r34 σ33 τ33 H locs h33 hP hS => ?_)
                   exact by
                    obtain ⟨⟨rfl, rfl⟩, w35, h33⟩ := h33
                    have k36 := congrArg Int32.toInt w35
                    have h37 := h33
                    obtain ⟨q39, k38⟩ := h37
                    refine lv_istore_n (lv' := [(3, .int r34), (6, .int x28), (5, .int r17), (4, .int x4), (0, .ref (ad 31)), (1, .int a1), (2, .int a2)]) hx hb dX1_trimmed_83 rfl hl (of_decide_eq_true rfl) rfl (fun ls hl => ?_)
                    obtain ⟨x40, ex40⟩ : ∃ y : Int32, y = x4 + 1 := ⟨_, rfl⟩
                    have tx40 : x40.toInt = x4.toInt + 1 := (jadd ex40 rfl jz_1 (by omega) (by omega)).trans (by omega)
                    refine lv_iinc (v := x40) (lv' := [(4, .int x40), (3, .int r34), (6, .int x28), (5, .int r17), (0, .ref (ad 31)), (1, .int a1), (2, .int a2)]) hx hb dX1_trimmed_84 hl (k := 3) rfl (by rw [ex40]; rfl) (of_decide_eq_true rfl) rfl (fun ls hl => ?_)
                    refine lv_goto (tgt := 5) hx hb dX1_trimmed_87 (of_decide_eq_true rfl) ?_
                    exact by exact ihlp1 r34 x40 _ _ ls (by have h91 := tx40; omega) (by have h91 := tx40; omega) (by have h91 := tx40; omega) (by have h91 := tx40; omega) (by have h91 := tx40; omega)   (jTh.stepi (l := r17) (m := x28) (v := x28) (w := 0) q14 rfl (by omega) (by omega) w18 (by unfold jla; omega) (by have h9 := tx28; omega) rfl (Or.inr ⟨by omega, Or.inl ⟨by omega, w35⟩⟩) (by have h9 := tx40; omega)) hP hS (lv_sub hl [0, 1, 4, 5, 6] rfl)
               · exact by
                  have kc30 := jnle c30 rfl tx28
                  refine lv_iload hx hb dX1_trimmed_58 (lv_at hl 0 rfl) ?_
                  refine lv_istore (lv' := [(5, .int x28), (6, .int x28), (4, .int x4), (3, .int x3), (0, .ref (ad 31)), (1, .int a1), (2, .int a2)]) hx hb dX1_trimmed_60 hl (of_decide_eq_true rfl) rfl (fun ls hl => ?_)
                  refine lv_iload_n hx hb dX1_trimmed_62 rfl (lv_at hl 3 rfl) ?_
                  refine lv_iload hx hb dX1_trimmed_63 (lv_at hl 2 rfl) ?_
                  refine lv_iload hx hb dX1_trimmed_65 (lv_at hl 0 rfl) ?_
                  refine jcallS (As := [.int x3, .int x4, .int x28]) (rest := []) ⟨hx, hb, hml, hown, hts⟩ hK hP hA hS hZ (c_X0_withLeft_r l D cI cL ad zz hJ σ τ x3 (x3.toInt) rfl x4 (x4.toInt) rfl x28 (((A2 + 1) / 2)) tx28 (by omega) (by omega)) cw_RX1_129 ⟨Nat.le_of_ble_eq_true rfl, Nat.le_of_ble_eq_true rfl⟩ rfl rfl rfl hl.1 rfl (Nat.le_of_ble_eq_true rfl) dX1_trimmed_67 ⟨Nat.zero_le _, Nat.zero_le _⟩ (fun r42 σ41 τ41 H locs h41 hP hS => ?_)
                  obtain ⟨⟨rfl, rfl⟩, w43, h41⟩ := h41
                  have k44 := congrArg Int32.toInt w43
                  exact by
                   have h45 := h41
                   obtain ⟨q47, k46⟩ := h45
                   refine lv_istore_n (lv' := [(3, .int r42), (5, .int x28), (6, .int x28), (4, .int x4), (0, .ref (ad 31)), (1, .int a1), (2, .int a2)]) hx hb dX1_trimmed_70 rfl hl (of_decide_eq_true rfl) rfl (fun ls hl => ?_)
                   refine lv_iload hx hb dX1_trimmed_71 (lv_at hl 1 rfl) ?_
                   refine lv_if_ne (tgt := 84) hx hb dX1_trimmed_73 (of_decide_eq_true rfl) (fun c48 => ?_) (fun c => absurd (jeq c tx28 jz_0) (by omega))
                   have kc48 := jne c48 tx28 jz_0
                   obtain ⟨x49, ex49⟩ : ∃ y : Int32, y = x4 + 1 := ⟨_, rfl⟩
                   have tx49 : x49.toInt = x4.toInt + 1 := (jadd ex49 rfl jz_1 (by omega) (by omega)).trans (by omega)
                   refine lv_iinc (v := x49) (lv' := [(4, .int x49), (3, .int r42), (5, .int x28), (6, .int x28), (0, .ref (ad 31)), (1, .int a1), (2, .int a2)]) hx hb dX1_trimmed_84 hl (k := 3) rfl (by rw [ex49]; rfl) (of_decide_eq_true rfl) rfl (fun ls hl => ?_)
                   exact by
                    refine lv_goto (tgt := 5) hx hb dX1_trimmed_87 (of_decide_eq_true rfl) ?_
                    exact by exact ihlp1 r42 x49 _ _ ls (by have h91 := tx49; omega) (by have h91 := tx49; omega) (by have h91 := tx49; omega) (by have h91 := tx49; omega) (by have h91 := tx49; omega)   (jTh.stepi (l := r17) (m := x28) (v := x28) (w := 0) q14 rfl (by omega) (by omega) w18 (by unfold jla; omega) (by have h9 := tx28; omega) rfl (Or.inl ⟨by omega, by omega, rfl, Or.inr ⟨by omega, w43⟩⟩) (by have h9 := tx49; omega)) hP hS (lv_sub hl [0, 1, 4, 5, 6] rfl)
            · have kc29 := jne c29 rfl jz_0
              refine lv_iload_n hx hb dX1_trimmed_46 rfl (lv_at hl 6 rfl) ?_
              refine lv_iconst (v := 1) hx hb dX1_trimmed_47 (of_decide_eq_true rfl) ?_
              refine lv_icmp_gt (tgt := 71) hx hb dX1_trimmed_48 (of_decide_eq_true rfl) (fun c50 => ?_) (fun c50 => ?_)
              · have kc50 := jlt c50 jz_1 t2
                refine lv_iload hx hb dX1_trimmed_71 (lv_at hl 1 rfl) ?_
                refine lv_if_ne (tgt := 84) hx hb dX1_trimmed_73 (of_decide_eq_true rfl) (fun c51 => ?_) (fun c51 => ?_)
                · have kc51 := jne c51 rfl jz_0
                  obtain ⟨x52, ex52⟩ : ∃ y : Int32, y = x4 + 1 := ⟨_, rfl⟩
                  exact by
                   have tx52 : x52.toInt = x4.toInt + 1 := (jadd ex52 rfl jz_1 (by omega) (by omega)).trans (by omega)
                   refine lv_iinc (v := x52) (lv' := [(4, .int x52), (6, .int x28), (5, .int r17), (3, .int x3), (0, .ref (ad 31)), (1, .int a1), (2, .int a2)]) hx hb dX1_trimmed_84 hl (k := 2) rfl (by rw [ex52]; rfl) (of_decide_eq_true rfl) rfl (fun ls hl => ?_)
                   refine lv_goto (tgt := 5) hx hb dX1_trimmed_87 (of_decide_eq_true rfl) ?_
                   exact by exact ihlp1 x3 x52 _ _ ls (by have h91 := tx52; omega) (by have h91 := tx52; omega) (by have h91 := tx52; omega) (by have h91 := tx52; omega) (by have h91 := tx52; omega)   (jTh.stepi (l := r17) (m := x28) (v := x28) (w := 0) q14 rfl (by omega) (by omega) w18 (by unfold jla; omega) (by have h9 := tx28; omega) rfl (Or.inr ⟨by omega, Or.inr ⟨by omega, rfl⟩⟩) (by have h9 := tx52; omega)) hP hS (lv_sub hl [0, 3, 4, 5, 6] rfl)
                · have kc51 := jeq c51 rfl jz_0
                  refine lv_iload_n hx hb dX1_trimmed_76 rfl (lv_at hl 3 rfl) ?_
                  refine lv_iload hx hb dX1_trimmed_77 (lv_at hl 2 rfl) ?_
                  refine lv_iconst (v := 0) hx hb dX1_trimmed_79 (of_decide_eq_true rfl) ?_
                  refine jcallS (As := [.int x3, .int x4, .int 0]) (rest := []) ⟨hx, hb, hml, hown, hts⟩ hK hP hA hS hZ (c_X0_withSteps_r l D cI cL ad zz hJ σ τ x3 (x3.toInt) rfl x4 (x4.toInt) rfl 0 (0) jz_0 (by omega) (by omega)) cw_RX1_133 ⟨Nat.le_of_ble_eq_true rfl, Nat.le_of_ble_eq_true rfl⟩ rfl rfl rfl hl.1 rfl (Nat.le_of_ble_eq_true rfl) dX1_trimmed_80 ⟨Nat.zero_le _, Nat.zero_le _⟩ (fun r54 σ53 τ53 H locs h53 hP hS => ?_)
                  exact by
                   obtain ⟨⟨rfl, rfl⟩, w55, h53⟩ := h53
                   have k56 := congrArg Int32.toInt w55
                   have h57 := h53
                   obtain ⟨q59, k58⟩ := h57
                   refine lv_istore_n (lv' := [(3, .int r54), (6, .int x28), (5, .int r17), (4, .int x4), (0, .ref (ad 31)), (1, .int a1), (2, .int a2)]) hx hb dX1_trimmed_83 rfl hl (of_decide_eq_true rfl) rfl (fun ls hl => ?_)
                   obtain ⟨x60, ex60⟩ : ∃ y : Int32, y = x4 + 1 := ⟨_, rfl⟩
                   have tx60 : x60.toInt = x4.toInt + 1 := (jadd ex60 rfl jz_1 (by omega) (by omega)).trans (by omega)
                   refine lv_iinc (v := x60) (lv' := [(4, .int x60), (3, .int r54), (6, .int x28), (5, .int r17), (0, .ref (ad 31)), (1, .int a1), (2, .int a2)]) hx hb dX1_trimmed_84 hl (k := 3) rfl (by rw [ex60]; rfl) (of_decide_eq_true rfl) rfl (fun ls hl => ?_)
                   refine lv_goto (tgt := 5) hx hb dX1_trimmed_87 (of_decide_eq_true rfl) ?_
                   exact by exact ihlp1 r54 x60 _ _ ls (by have h91 := tx60; omega) (by have h91 := tx60; omega) (by have h91 := tx60; omega) (by have h91 := tx60; omega) (by have h91 := tx60; omega)   (jTh.stepi (l := r17) (m := x28) (v := x28) (w := 0) q14 rfl (by omega) (by omega) w18 (by unfold jla; omega) (by have h9 := tx28; omega) rfl (Or.inr ⟨by omega, Or.inl ⟨by omega, w55⟩⟩) (by have h9 := tx60; omega)) hP hS (lv_sub hl [0, 1, 4, 5, 6] rfl)
              · exact by
                 have kc50 := jnlt c50 jz_1 t2
                 refine lv_iload hx hb dX1_trimmed_51 (lv_at hl 1 rfl) ?_
                 refine lv_iload hx hb dX1_trimmed_53 (lv_at hl 0 rfl) ?_
                 refine lv_icmp_le (tgt := 71) hx hb dX1_trimmed_55 (of_decide_eq_true rfl) (fun c61 => ?_) (fun c61 => ?_)
                 · have kc61 := jle c61 rfl tx28
                   refine lv_iload hx hb dX1_trimmed_71 (lv_at hl 1 rfl) ?_
                   refine lv_if_ne (tgt := 84) hx hb dX1_trimmed_73 (of_decide_eq_true rfl) (fun c62 => ?_) (fun c62 => ?_)
                   · have kc62 := jne c62 rfl jz_0
                     obtain ⟨x63, ex63⟩ : ∃ y : Int32, y = x4 + 1 := ⟨_, rfl⟩
                     exact by
                      have tx63 : x63.toInt = x4.toInt + 1 := (jadd ex63 rfl jz_1 (by omega) (by omega)).trans (by omega)
                      refine lv_iinc (v := x63) (lv' := [(4, .int x63), (6, .int x28), (5, .int r17), (3, .int x3), (0, .ref (ad 31)), (1, .int a1), (2, .int a2)]) hx hb dX1_trimmed_84 hl (k := 2) rfl (by rw [ex63]; rfl) (of_decide_eq_true rfl) rfl (fun ls hl => ?_)
                      refine lv_goto (tgt := 5) hx hb dX1_trimmed_87 (of_decide_eq_true rfl) ?_
                      exact by exact ihlp1 x3 x63 _ _ ls (by have h91 := tx63; omega) (by have h91 := tx63; omega) (by have h91 := tx63; omega) (by have h91 := tx63; omega) (by have h91 := tx63; omega)   (jTh.stepi (l := r17) (m := x28) (v := x28) (w := 0) q14 rfl (by omega) (by omega) w18 (by unfold jla; omega) (by have h9 := tx28; omega) rfl (Or.inr ⟨by omega, Or.inr ⟨by omega, rfl⟩⟩) (by have h9 := tx63; omega)) hP hS (lv_sub hl [0, 3, 4, 5, 6] rfl)
                   · have kc62 := jeq c62 rfl jz_0
                     refine lv_iload_n hx hb dX1_trimmed_76 rfl (lv_at hl 3 rfl) ?_
                     refine lv_iload hx hb dX1_trimmed_77 (lv_at hl 2 rfl) ?_
                     refine lv_iconst (v := 0) hx hb dX1_trimmed_79 (of_decide_eq_true rfl) ?_
                     refine jcallS (As := [.int x3, .int x4, .int 0]) (rest := []) ⟨hx, hb, hml, hown, hts⟩ hK hP hA hS hZ (c_X0_withSteps_r l D cI cL ad zz hJ σ τ x3 (x3.toInt) rfl x4 (x4.toInt) rfl 0 (0) jz_0 (by omega) (by omega)) cw_RX1_133 ⟨Nat.le_of_ble_eq_true rfl, Nat.le_of_ble_eq_true rfl⟩ rfl rfl rfl hl.1 rfl (Nat.le_of_ble_eq_true rfl) dX1_trimmed_80 ⟨Nat.zero_le _, Nat.zero_le _⟩ (fun r65 σ64 τ64 H locs h64 hP hS => ?_)
                     exact by
                      obtain ⟨⟨rfl, rfl⟩, w66, h64⟩ := h64
                      have k67 := congrArg Int32.toInt w66
                      have h68 := h64
                      obtain ⟨q70, k69⟩ := h68
                      refine lv_istore_n (lv' := [(3, .int r65), (6, .int x28), (5, .int r17), (4, .int x4), (0, .ref (ad 31)), (1, .int a1), (2, .int a2)]) hx hb dX1_trimmed_83 rfl hl (of_decide_eq_true rfl) rfl (fun ls hl => ?_)
                      obtain ⟨x71, ex71⟩ : ∃ y : Int32, y = x4 + 1 := ⟨_, rfl⟩
                      have tx71 : x71.toInt = x4.toInt + 1 := (jadd ex71 rfl jz_1 (by omega) (by omega)).trans (by omega)
                      refine lv_iinc (v := x71) (lv' := [(4, .int x71), (3, .int r65), (6, .int x28), (5, .int r17), (0, .ref (ad 31)), (1, .int a1), (2, .int a2)]) hx hb dX1_trimmed_84 hl (k := 3) rfl (by rw [ex71]; rfl) (of_decide_eq_true rfl) rfl (fun ls hl => ?_)
                      refine lv_goto (tgt := 5) hx hb dX1_trimmed_87 (of_decide_eq_true rfl) ?_
                      exact by exact ihlp1 r65 x71 _ _ ls (by have h91 := tx71; omega) (by have h91 := tx71; omega) (by have h91 := tx71; omega) (by have h91 := tx71; omega) (by have h91 := tx71; omega)   (jTh.stepi (l := r17) (m := x28) (v := x28) (w := 0) q14 rfl (by omega) (by omega) w18 (by unfold jla; omega) (by have h9 := tx28; omega) rfl (Or.inr ⟨by omega, Or.inl ⟨by omega, w66⟩⟩) (by have h9 := tx71; omega)) hP hS (lv_sub hl [0, 1, 4, 5, 6] rfl)
                 · exact by
                    have kc61 := jnle c61 rfl tx28
                    refine lv_iload hx hb dX1_trimmed_58 (lv_at hl 0 rfl) ?_
                    refine lv_istore (lv' := [(5, .int x28), (6, .int x28), (4, .int x4), (3, .int x3), (0, .ref (ad 31)), (1, .int a1), (2, .int a2)]) hx hb dX1_trimmed_60 hl (of_decide_eq_true rfl) rfl (fun ls hl => ?_)
                    refine lv_iload_n hx hb dX1_trimmed_62 rfl (lv_at hl 3 rfl) ?_
                    refine lv_iload hx hb dX1_trimmed_63 (lv_at hl 2 rfl) ?_
                    refine lv_iload hx hb dX1_trimmed_65 (lv_at hl 0 rfl) ?_
                    refine jcallS (As := [.int x3, .int x4, .int x28]) (rest := []) ⟨hx, hb, hml, hown, hts⟩ hK hP hA hS hZ (c_X0_withLeft_r l D cI cL ad zz hJ σ τ x3 (x3.toInt) rfl x4 (x4.toInt) rfl x28 (((A2 + 1) / 2)) tx28 (by omega) (by omega)) cw_RX1_129 ⟨Nat.le_of_ble_eq_true rfl, Nat.le_of_ble_eq_true rfl⟩ rfl rfl rfl hl.1 rfl (Nat.le_of_ble_eq_true rfl) dX1_trimmed_67 ⟨Nat.zero_le _, Nat.zero_le _⟩ (fun r73 σ72 τ72 H locs h72 hP hS => ?_)
                    obtain ⟨⟨rfl, rfl⟩, w74, h72⟩ := h72
                    have k75 := congrArg Int32.toInt w74
                    exact by
                     have h76 := h72
                     obtain ⟨q78, k77⟩ := h76
                     refine lv_istore_n (lv' := [(3, .int r73), (5, .int x28), (6, .int x28), (4, .int x4), (0, .ref (ad 31)), (1, .int a1), (2, .int a2)]) hx hb dX1_trimmed_70 rfl hl (of_decide_eq_true rfl) rfl (fun ls hl => ?_)
                     refine lv_iload hx hb dX1_trimmed_71 (lv_at hl 1 rfl) ?_
                     refine lv_if_ne (tgt := 84) hx hb dX1_trimmed_73 (of_decide_eq_true rfl) (fun c79 => ?_) (fun c => absurd (jeq c tx28 jz_0) (by omega))
                     have kc79 := jne c79 tx28 jz_0
                     obtain ⟨x80, ex80⟩ : ∃ y : Int32, y = x4 + 1 := ⟨_, rfl⟩
                     have tx80 : x80.toInt = x4.toInt + 1 := (jadd ex80 rfl jz_1 (by omega) (by omega)).trans (by omega)
                     refine lv_iinc (v := x80) (lv' := [(4, .int x80), (3, .int r73), (5, .int x28), (6, .int x28), (0, .ref (ad 31)), (1, .int a1), (2, .int a2)]) hx hb dX1_trimmed_84 hl (k := 3) rfl (by rw [ex80]; rfl) (of_decide_eq_true rfl) rfl (fun ls hl => ?_)
                     exact by
                      refine lv_goto (tgt := 5) hx hb dX1_trimmed_87 (of_decide_eq_true rfl) ?_
                      exact by exact ihlp1 r73 x80 _ _ ls (by have h91 := tx80; omega) (by have h91 := tx80; omega) (by have h91 := tx80; omega) (by have h91 := tx80; omega) (by have h91 := tx80; omega)   (jTh.stepi (l := r17) (m := x28) (v := x28) (w := 0) q14 rfl (by omega) (by omega) w18 (by unfold jla; omega) (by have h9 := tx28; omega) rfl (Or.inl ⟨by omega, by omega, rfl, Or.inr ⟨by omega, w74⟩⟩) (by have h9 := tx80; omega)) hP hS (lv_sub hl [0, 1, 4, 5, 6] rfl)
         · have kc26 := jeq c26 rfl rfl
           refine lv_iload_n hx hb dX1_trimmed_28 rfl (lv_at hl 5 rfl) ?_
           refine lv_goto (tgt := 35) hx hb dX1_trimmed_29 (of_decide_eq_true rfl) ?_
           refine lv_iconst (v := 2) hx hb dX1_trimmed_35 (of_decide_eq_true rfl) ?_
           refine lv_idiv hx hb dX1_trimmed_36 (of_decide_eq_true rfl) ?_
           refine lv_topi (fun x81 ex81 => ?_)
           have tx81 : x81.toInt = (A2 / 2) := jdiv ex81 t2 jz_2 (by omega) (by omega)
           exact by
            refine lv_istore (lv' := [(6, .int x81), (5, .int r17), (4, .int x4), (3, .int x3), (0, .ref (ad 31)), (1, .int a1), (2, .int a2)]) hx hb dX1_trimmed_37 hl (of_decide_eq_true rfl) rfl (fun ls hl => ?_)
            refine lv_aload_n hx hb dX1_trimmed_39 rfl (lv_at hl 4 rfl) ?_
            refine va_get (D := D) hx hb hts inlX1 hown hK hP 31 (jc_31 cI cL ad σ τ) rfl 12 (of_decide_eq_true rfl) (hts _ kw_28_8) (fun _ h9 => h9) rfl dX1_trimmed_40 ?_
            refine lv_if_eq (tgt := 51) hx hb dX1_trimmed_43 (of_decide_eq_true rfl) (fun c82 => ?_) (fun c82 => ?_)
            · have kc82 := jeq c82 rfl jz_0
              refine lv_iload hx hb dX1_trimmed_51 (lv_at hl 1 rfl) ?_
              refine lv_iload hx hb dX1_trimmed_53 (lv_at hl 0 rfl) ?_
              refine lv_icmp_le (tgt := 71) hx hb dX1_trimmed_55 (of_decide_eq_true rfl) (fun c83 => ?_) (fun c83 => ?_)
              · have kc83 := jle c83 rfl tx81
                refine lv_iload hx hb dX1_trimmed_71 (lv_at hl 1 rfl) ?_
                refine lv_if_ne (tgt := 84) hx hb dX1_trimmed_73 (of_decide_eq_true rfl) (fun c84 => ?_) (fun c84 => ?_)
                · have kc84 := jne c84 rfl jz_0
                  obtain ⟨x85, ex85⟩ : ∃ y : Int32, y = x4 + 1 := ⟨_, rfl⟩
                  exact by
                   have tx85 : x85.toInt = x4.toInt + 1 := (jadd ex85 rfl jz_1 (by omega) (by omega)).trans (by omega)
                   refine lv_iinc (v := x85) (lv' := [(4, .int x85), (6, .int x81), (5, .int r17), (3, .int x3), (0, .ref (ad 31)), (1, .int a1), (2, .int a2)]) hx hb dX1_trimmed_84 hl (k := 2) rfl (by rw [ex85]; rfl) (of_decide_eq_true rfl) rfl (fun ls hl => ?_)
                   refine lv_goto (tgt := 5) hx hb dX1_trimmed_87 (of_decide_eq_true rfl) ?_
                   exact by exact ihlp1 x3 x85 _ _ ls (by have h91 := tx85; omega) (by have h91 := tx85; omega) (by have h91 := tx85; omega) (by have h91 := tx85; omega) (by have h91 := tx85; omega)   (jTh.stepi (l := r17) (m := x81) (v := x81) (w := 0) q14 rfl (by omega) (by omega) w18 (by unfold jla; omega) (by have h9 := tx81; omega) rfl (Or.inr ⟨by omega, Or.inr ⟨by omega, rfl⟩⟩) (by have h9 := tx85; omega)) hP hS (lv_sub hl [0, 3, 4, 5, 6] rfl)
                · have kc84 := jeq c84 rfl jz_0
                  refine lv_iload_n hx hb dX1_trimmed_76 rfl (lv_at hl 3 rfl) ?_
                  refine lv_iload hx hb dX1_trimmed_77 (lv_at hl 2 rfl) ?_
                  refine lv_iconst (v := 0) hx hb dX1_trimmed_79 (of_decide_eq_true rfl) ?_
                  refine jcallS (As := [.int x3, .int x4, .int 0]) (rest := []) ⟨hx, hb, hml, hown, hts⟩ hK hP hA hS hZ (c_X0_withSteps_r l D cI cL ad zz hJ σ τ x3 (x3.toInt) rfl x4 (x4.toInt) rfl 0 (0) jz_0 (by omega) (by omega)) cw_RX1_133 ⟨Nat.le_of_ble_eq_true rfl, Nat.le_of_ble_eq_true rfl⟩ rfl rfl rfl hl.1 rfl (Nat.le_of_ble_eq_true rfl) dX1_trimmed_80 ⟨Nat.zero_le _, Nat.zero_le _⟩ (fun r87 σ86 τ86 H locs h86 hP hS => ?_)
                  exact by
                   obtain ⟨⟨rfl, rfl⟩, w88, h86⟩ := h86
                   have k89 := congrArg Int32.toInt w88
                   have h90 := h86
                   obtain ⟨q92, k91⟩ := h90
                   refine lv_istore_n (lv' := [(3, .int r87), (6, .int x81), (5, .int r17), (4, .int x4), (0, .ref (ad 31)), (1, .int a1), (2, .int a2)]) hx hb dX1_trimmed_83 rfl hl (of_decide_eq_true rfl) rfl (fun ls hl => ?_)
                   obtain ⟨x93, ex93⟩ : ∃ y : Int32, y = x4 + 1 := ⟨_, rfl⟩
                   have tx93 : x93.toInt = x4.toInt + 1 := (jadd ex93 rfl jz_1 (by omega) (by omega)).trans (by omega)
                   refine lv_iinc (v := x93) (lv' := [(4, .int x93), (3, .int r87), (6, .int x81), (5, .int r17), (0, .ref (ad 31)), (1, .int a1), (2, .int a2)]) hx hb dX1_trimmed_84 hl (k := 3) rfl (by rw [ex93]; rfl) (of_decide_eq_true rfl) rfl (fun ls hl => ?_)
                   refine lv_goto (tgt := 5) hx hb dX1_trimmed_87 (of_decide_eq_true rfl) ?_
                   exact by exact ihlp1 r87 x93 _ _ ls (by have h91 := tx93; omega) (by have h91 := tx93; omega) (by have h91 := tx93; omega) (by have h91 := tx93; omega) (by have h91 := tx93; omega)   (jTh.stepi (l := r17) (m := x81) (v := x81) (w := 0) q14 rfl (by omega) (by omega) w18 (by unfold jla; omega) (by have h9 := tx81; omega) rfl (Or.inr ⟨by omega, Or.inl ⟨by omega, w88⟩⟩) (by have h9 := tx93; omega)) hP hS (lv_sub hl [0, 1, 4, 5, 6] rfl)
              · exact by
                 have kc83 := jnle c83 rfl tx81
                 refine lv_iload hx hb dX1_trimmed_58 (lv_at hl 0 rfl) ?_
                 refine lv_istore (lv' := [(5, .int x81), (6, .int x81), (4, .int x4), (3, .int x3), (0, .ref (ad 31)), (1, .int a1), (2, .int a2)]) hx hb dX1_trimmed_60 hl (of_decide_eq_true rfl) rfl (fun ls hl => ?_)
                 refine lv_iload_n hx hb dX1_trimmed_62 rfl (lv_at hl 3 rfl) ?_
                 refine lv_iload hx hb dX1_trimmed_63 (lv_at hl 2 rfl) ?_
                 refine lv_iload hx hb dX1_trimmed_65 (lv_at hl 0 rfl) ?_
                 refine jcallS (As := [.int x3, .int x4, .int x81]) (rest := []) ⟨hx, hb, hml, hown, hts⟩ hK hP hA hS hZ (c_X0_withLeft_r l D cI cL ad zz hJ σ τ x3 (x3.toInt) rfl x4 (x4.toInt) rfl x81 ((A2 / 2)) tx81 (by omega) (by omega)) cw_RX1_129 ⟨Nat.le_of_ble_eq_true rfl, Nat.le_of_ble_eq_true rfl⟩ rfl rfl rfl hl.1 rfl (Nat.le_of_ble_eq_true rfl) dX1_trimmed_67 ⟨Nat.zero_le _, Nat.zero_le _⟩ (fun r95 σ94 τ94 H locs h94 hP hS => ?_)
                 obtain ⟨⟨rfl, rfl⟩, w96, h94⟩ := h94
                 have k97 := congrArg Int32.toInt w96
                 exact by
                  have h98 := h94
                  obtain ⟨q100, k99⟩ := h98
                  refine lv_istore_n (lv' := [(3, .int r95), (5, .int x81), (6, .int x81), (4, .int x4), (0, .ref (ad 31)), (1, .int a1), (2, .int a2)]) hx hb dX1_trimmed_70 rfl hl (of_decide_eq_true rfl) rfl (fun ls hl => ?_)
                  refine lv_iload hx hb dX1_trimmed_71 (lv_at hl 1 rfl) ?_
                  refine lv_if_ne (tgt := 84) hx hb dX1_trimmed_73 (of_decide_eq_true rfl) (fun c101 => ?_) (fun c101 => ?_)
                  · have kc101 := jne c101 tx81 jz_0
                    obtain ⟨x102, ex102⟩ : ∃ y : Int32, y = x4 + 1 := ⟨_, rfl⟩
                    have tx102 : x102.toInt = x4.toInt + 1 := (jadd ex102 rfl jz_1 (by omega) (by omega)).trans (by omega)
                    refine lv_iinc (v := x102) (lv' := [(4, .int x102), (3, .int r95), (5, .int x81), (6, .int x81), (0, .ref (ad 31)), (1, .int a1), (2, .int a2)]) hx hb dX1_trimmed_84 hl (k := 3) rfl (by rw [ex102]; rfl) (of_decide_eq_true rfl) rfl (fun ls hl => ?_)
                    exact by
                     refine lv_goto (tgt := 5) hx hb dX1_trimmed_87 (of_decide_eq_true rfl) ?_
                     exact by exact ihlp1 r95 x102 _ _ ls (by have h91 := tx102; omega) (by have h91 := tx102; omega) (by have h91 := tx102; omega) (by have h91 := tx102; omega) (by have h91 := tx102; omega)   (jTh.stepi (l := r17) (m := x81) (v := x81) (w := 0) q14 rfl (by omega) (by omega) w18 (by unfold jla; omega) (by have h9 := tx81; omega) rfl (Or.inl ⟨by omega, by omega, rfl, Or.inr ⟨by omega, w96⟩⟩) (by have h9 := tx102; omega)) hP hS (lv_sub hl [0, 1, 4, 5, 6] rfl)
                  · have kc101 := jeq c101 tx81 jz_0
                    refine lv_iload_n hx hb dX1_trimmed_76 rfl (lv_at hl 0 rfl) ?_
                    refine lv_iload hx hb dX1_trimmed_77 (lv_at hl 3 rfl) ?_
                    refine lv_iconst (v := 0) hx hb dX1_trimmed_79 (of_decide_eq_true rfl) ?_
                    refine jcallS (As := [.int r95, .int x4, .int 0]) (rest := []) ⟨hx, hb, hml, hown, hts⟩ hK hP hA hS hZ (c_X0_withSteps_r l D cI cL ad zz hJ σ τ r95 (r95.toInt) rfl x4 (x4.toInt) rfl 0 (0) jz_0 (by omega) (by omega)) cw_RX1_133 ⟨Nat.le_of_ble_eq_true rfl, Nat.le_of_ble_eq_true rfl⟩ rfl rfl rfl hl.1 rfl (Nat.le_of_ble_eq_true rfl) dX1_trimmed_80 ⟨Nat.zero_le _, Nat.zero_le _⟩ (fun r104 σ103 τ103 H locs h103 hP hS => ?_)
                    obtain ⟨⟨rfl, rfl⟩, w105, h103⟩ := h103
                    have k106 := congrArg Int32.toInt w105
                    exact by
                     have h107 := h103
                     obtain ⟨q109, k108⟩ := h107
                     refine lv_istore_n (lv' := [(3, .int r104), (5, .int x81), (6, .int x81), (4, .int x4), (0, .ref (ad 31)), (1, .int a1), (2, .int a2)]) hx hb dX1_trimmed_83 rfl hl (of_decide_eq_true rfl) rfl (fun ls hl => ?_)
                     obtain ⟨x110, ex110⟩ : ∃ y : Int32, y = x4 + 1 := ⟨_, rfl⟩
                     have tx110 : x110.toInt = x4.toInt + 1 := (jadd ex110 rfl jz_1 (by omega) (by omega)).trans (by omega)
                     refine lv_iinc (v := x110) (lv' := [(4, .int x110), (3, .int r104), (5, .int x81), (6, .int x81), (0, .ref (ad 31)), (1, .int a1), (2, .int a2)]) hx hb dX1_trimmed_84 hl (k := 3) rfl (by rw [ex110]; rfl) (of_decide_eq_true rfl) rfl (fun ls hl => ?_)
                     refine lv_goto (tgt := 5) hx hb dX1_trimmed_87 (of_decide_eq_true rfl) ?_
                     exact by exact ihlp1 r104 x110 _ _ ls (by have h91 := tx110; omega) (by have h91 := tx110; omega) (by have h91 := tx110; omega) (by have h91 := tx110; omega) (by have h91 := tx110; omega)   (jTh.stepi (l := r17) (m := x81) (v := x81) (w := 0) q14 rfl (by omega) (by omega) w18 (by unfold jla; omega) (by have h9 := tx81; omega) rfl (Or.inl ⟨by omega, by omega, rfl, Or.inl ⟨by omega, by rw [w105, w96]⟩⟩) (by have h9 := tx110; omega)) hP hS (lv_sub hl [0, 1, 4, 5, 6] rfl)
            · have kc82 := jne c82 rfl jz_0
              exact by
               refine lv_iload_n hx hb dX1_trimmed_46 rfl (lv_at hl 6 rfl) ?_
               refine lv_iconst (v := 1) hx hb dX1_trimmed_47 (of_decide_eq_true rfl) ?_
               refine lv_icmp_gt (tgt := 71) hx hb dX1_trimmed_48 (of_decide_eq_true rfl) (fun c111 => ?_) (fun c111 => ?_)
               · have kc111 := jlt c111 jz_1 t2
                 refine lv_iload hx hb dX1_trimmed_71 (lv_at hl 1 rfl) ?_
                 refine lv_if_ne (tgt := 84) hx hb dX1_trimmed_73 (of_decide_eq_true rfl) (fun c112 => ?_) (fun c112 => ?_)
                 · have kc112 := jne c112 rfl jz_0
                   obtain ⟨x113, ex113⟩ : ∃ y : Int32, y = x4 + 1 := ⟨_, rfl⟩
                   have tx113 : x113.toInt = x4.toInt + 1 := (jadd ex113 rfl jz_1 (by omega) (by omega)).trans (by omega)
                   exact by
                    refine lv_iinc (v := x113) (lv' := [(4, .int x113), (6, .int x81), (5, .int r17), (3, .int x3), (0, .ref (ad 31)), (1, .int a1), (2, .int a2)]) hx hb dX1_trimmed_84 hl (k := 2) rfl (by rw [ex113]; rfl) (of_decide_eq_true rfl) rfl (fun ls hl => ?_)
                    refine lv_goto (tgt := 5) hx hb dX1_trimmed_87 (of_decide_eq_true rfl) ?_
                    exact by exact ihlp1 x3 x113 _ _ ls (by have h91 := tx113; omega) (by have h91 := tx113; omega) (by have h91 := tx113; omega) (by have h91 := tx113; omega) (by have h91 := tx113; omega)   (jTh.stepi (l := r17) (m := x81) (v := x81) (w := 0) q14 rfl (by omega) (by omega) w18 (by unfold jla; omega) (by have h9 := tx81; omega) rfl (Or.inr ⟨by omega, Or.inr ⟨by omega, rfl⟩⟩) (by have h9 := tx113; omega)) hP hS (lv_sub hl [0, 3, 4, 5, 6] rfl)
                 · have kc112 := jeq c112 rfl jz_0
                   refine lv_iload_n hx hb dX1_trimmed_76 rfl (lv_at hl 3 rfl) ?_
                   refine lv_iload hx hb dX1_trimmed_77 (lv_at hl 2 rfl) ?_
                   refine lv_iconst (v := 0) hx hb dX1_trimmed_79 (of_decide_eq_true rfl) ?_
                   refine jcallS (As := [.int x3, .int x4, .int 0]) (rest := []) ⟨hx, hb, hml, hown, hts⟩ hK hP hA hS hZ (c_X0_withSteps_r l D cI cL ad zz hJ σ τ x3 (x3.toInt) rfl x4 (x4.toInt) rfl 0 (0) jz_0 (by omega) (by omega)) cw_RX1_133 ⟨Nat.le_of_ble_eq_true rfl, Nat.le_of_ble_eq_true rfl⟩ rfl rfl rfl hl.1 rfl (Nat.le_of_ble_eq_true rfl) dX1_trimmed_80 ⟨Nat.zero_le _, Nat.zero_le _⟩ (fun r115 σ114 τ114 H locs h114 hP hS => ?_)
                   obtain ⟨⟨rfl, rfl⟩, w116, h114⟩ := h114
                   exact by
                    have k117 := congrArg Int32.toInt w116
                    have h118 := h114
                    obtain ⟨q120, k119⟩ := h118
                    refine lv_istore_n (lv' := [(3, .int r115), (6, .int x81), (5, .int r17), (4, .int x4), (0, .ref (ad 31)), (1, .int a1), (2, .int a2)]) hx hb dX1_trimmed_83 rfl hl (of_decide_eq_true rfl) rfl (fun ls hl => ?_)
                    obtain ⟨x121, ex121⟩ : ∃ y : Int32, y = x4 + 1 := ⟨_, rfl⟩
                    have tx121 : x121.toInt = x4.toInt + 1 := (jadd ex121 rfl jz_1 (by omega) (by omega)).trans (by omega)
                    refine lv_iinc (v := x121) (lv' := [(4, .int x121), (3, .int r115), (6, .int x81), (5, .int r17), (0, .ref (ad 31)), (1, .int a1), (2, .int a2)]) hx hb dX1_trimmed_84 hl (k := 3) rfl (by rw [ex121]; rfl) (of_decide_eq_true rfl) rfl (fun ls hl => ?_)
                    refine lv_goto (tgt := 5) hx hb dX1_trimmed_87 (of_decide_eq_true rfl) ?_
                    exact by exact ihlp1 r115 x121 _ _ ls (by have h91 := tx121; omega) (by have h91 := tx121; omega) (by have h91 := tx121; omega) (by have h91 := tx121; omega) (by have h91 := tx121; omega)   (jTh.stepi (l := r17) (m := x81) (v := x81) (w := 0) q14 rfl (by omega) (by omega) w18 (by unfold jla; omega) (by have h9 := tx81; omega) rfl (Or.inr ⟨by omega, Or.inl ⟨by omega, w116⟩⟩) (by have h9 := tx121; omega)) hP hS (lv_sub hl [0, 1, 4, 5, 6] rfl)
               · exact by
                  have kc111 := jnlt c111 jz_1 t2
                  refine lv_iload hx hb dX1_trimmed_51 (lv_at hl 1 rfl) ?_
                  refine lv_iload hx hb dX1_trimmed_53 (lv_at hl 0 rfl) ?_
                  refine lv_icmp_le (tgt := 71) hx hb dX1_trimmed_55 (of_decide_eq_true rfl) (fun c122 => ?_) (fun c122 => ?_)
                  · have kc122 := jle c122 rfl tx81
                    refine lv_iload hx hb dX1_trimmed_71 (lv_at hl 1 rfl) ?_
                    refine lv_if_ne (tgt := 84) hx hb dX1_trimmed_73 (of_decide_eq_true rfl) (fun c => absurd (jne c rfl jz_0) (by omega)) (fun c123 => ?_)
                    have kc123 := jeq c123 rfl jz_0
                    refine lv_iload_n hx hb dX1_trimmed_76 rfl (lv_at hl 3 rfl) ?_
                    exact by
                     refine lv_iload hx hb dX1_trimmed_77 (lv_at hl 2 rfl) ?_
                     refine lv_iconst (v := 0) hx hb dX1_trimmed_79 (of_decide_eq_true rfl) ?_
                     refine jcallS (As := [.int x3, .int x4, .int 0]) (rest := []) ⟨hx, hb, hml, hown, hts⟩ hK hP hA hS hZ (c_X0_withSteps_r l D cI cL ad zz hJ σ τ x3 (x3.toInt) rfl x4 (x4.toInt) rfl 0 (0) jz_0 (by omega) (by omega)) cw_RX1_133 ⟨Nat.le_of_ble_eq_true rfl, Nat.le_of_ble_eq_true rfl⟩ rfl rfl rfl hl.1 rfl (Nat.le_of_ble_eq_true rfl) dX1_trimmed_80 ⟨Nat.zero_le _, Nat.zero_le _⟩ (fun r125 σ124 τ124 H locs h124 hP hS => ?_)
                     obtain ⟨⟨rfl, rfl⟩, w126, h124⟩ := h124
                     have k127 := congrArg Int32.toInt w126
                     have h128 := h124
                     obtain ⟨q130, k129⟩ := h128
                     refine lv_istore_n (lv' := [(3, .int r125), (6, .int x81), (5, .int r17), (4, .int x4), (0, .ref (ad 31)), (1, .int a1), (2, .int a2)]) hx hb dX1_trimmed_83 rfl hl (of_decide_eq_true rfl) rfl (fun ls hl => ?_)
                     obtain ⟨x131, ex131⟩ : ∃ y : Int32, y = x4 + 1 := ⟨_, rfl⟩
                     exact by
                      have tx131 : x131.toInt = x4.toInt + 1 := (jadd ex131 rfl jz_1 (by omega) (by omega)).trans (by omega)
                      refine lv_iinc (v := x131) (lv' := [(4, .int x131), (3, .int r125), (6, .int x81), (5, .int r17), (0, .ref (ad 31)), (1, .int a1), (2, .int a2)]) hx hb dX1_trimmed_84 hl (k := 3) rfl (by rw [ex131]; rfl) (of_decide_eq_true rfl) rfl (fun ls hl => ?_)
                      refine lv_goto (tgt := 5) hx hb dX1_trimmed_87 (of_decide_eq_true rfl) ?_
                      exact by exact ihlp1 r125 x131 _ _ ls (by have h91 := tx131; omega) (by have h91 := tx131; omega) (by have h91 := tx131; omega) (by have h91 := tx131; omega) (by have h91 := tx131; omega)   (jTh.stepi (l := r17) (m := x81) (v := x81) (w := 0) q14 rfl (by omega) (by omega) w18 (by unfold jla; omega) (by have h9 := tx81; omega) rfl (Or.inr ⟨by omega, Or.inl ⟨by omega, w126⟩⟩) (by have h9 := tx131; omega)) hP hS (lv_sub hl [0, 1, 4, 5, 6] rfl)
                  · have kc122 := jnle c122 rfl tx81
                    refine lv_iload hx hb dX1_trimmed_58 (lv_at hl 0 rfl) ?_
                    refine lv_istore (lv' := [(5, .int x81), (6, .int x81), (4, .int x4), (3, .int x3), (0, .ref (ad 31)), (1, .int a1), (2, .int a2)]) hx hb dX1_trimmed_60 hl (of_decide_eq_true rfl) rfl (fun ls hl => ?_)
                    refine lv_iload_n hx hb dX1_trimmed_62 rfl (lv_at hl 3 rfl) ?_
                    refine lv_iload hx hb dX1_trimmed_63 (lv_at hl 2 rfl) ?_
                    exact by
                     refine lv_iload hx hb dX1_trimmed_65 (lv_at hl 0 rfl) ?_
                     refine jcallS (As := [.int x3, .int x4, .int x81]) (rest := []) ⟨hx, hb, hml, hown, hts⟩ hK hP hA hS hZ (c_X0_withLeft_r l D cI cL ad zz hJ σ τ x3 (x3.toInt) rfl x4 (x4.toInt) rfl x81 ((A2 / 2)) tx81 (by omega) (by omega)) cw_RX1_129 ⟨Nat.le_of_ble_eq_true rfl, Nat.le_of_ble_eq_true rfl⟩ rfl rfl rfl hl.1 rfl (Nat.le_of_ble_eq_true rfl) dX1_trimmed_67 ⟨Nat.zero_le _, Nat.zero_le _⟩ (fun r133 σ132 τ132 H locs h132 hP hS => ?_)
                     obtain ⟨⟨rfl, rfl⟩, w134, h132⟩ := h132
                     have k135 := congrArg Int32.toInt w134
                     have h136 := h132
                     obtain ⟨q138, k137⟩ := h136
                     refine lv_istore_n (lv' := [(3, .int r133), (5, .int x81), (6, .int x81), (4, .int x4), (0, .ref (ad 31)), (1, .int a1), (2, .int a2)]) hx hb dX1_trimmed_70 rfl hl (of_decide_eq_true rfl) rfl (fun ls hl => ?_)
                     refine lv_iload hx hb dX1_trimmed_71 (lv_at hl 1 rfl) ?_
                     refine lv_if_ne (tgt := 84) hx hb dX1_trimmed_73 (of_decide_eq_true rfl) (fun c => absurd (jne c tx81 jz_0) (by omega)) (fun c139 => ?_)
                     exact by
                      have kc139 := jeq c139 tx81 jz_0
                      refine lv_iload_n hx hb dX1_trimmed_76 rfl (lv_at hl 0 rfl) ?_
                      refine lv_iload hx hb dX1_trimmed_77 (lv_at hl 3 rfl) ?_
                      refine lv_iconst (v := 0) hx hb dX1_trimmed_79 (of_decide_eq_true rfl) ?_
                      refine jcallS (As := [.int r133, .int x4, .int 0]) (rest := []) ⟨hx, hb, hml, hown, hts⟩ hK hP hA hS hZ (c_X0_withSteps_r l D cI cL ad zz hJ σ τ r133 (r133.toInt) rfl x4 (x4.toInt) rfl 0 (0) jz_0 (by omega) (by omega)) cw_RX1_133 ⟨Nat.le_of_ble_eq_true rfl, Nat.le_of_ble_eq_true rfl⟩ rfl rfl rfl hl.1 rfl (Nat.le_of_ble_eq_true rfl) dX1_trimmed_80 ⟨Nat.zero_le _, Nat.zero_le _⟩ (fun r141 σ140 τ140 H locs h140 hP hS => ?_)
                      obtain ⟨⟨rfl, rfl⟩, w142, h140⟩ := h140
                      have k143 := congrArg Int32.toInt w142
                      have h144 := h140
                      obtain ⟨q146, k145⟩ := h144
                      exact by
                       refine lv_istore_n (lv' := [(3, .int r141), (5, .int x81), (6, .int x81), (4, .int x4), (0, .ref (ad 31)), (1, .int a1), (2, .int a2)]) hx hb dX1_trimmed_83 rfl hl (of_decide_eq_true rfl) rfl (fun ls hl => ?_)
                       obtain ⟨x147, ex147⟩ : ∃ y : Int32, y = x4 + 1 := ⟨_, rfl⟩
                       have tx147 : x147.toInt = x4.toInt + 1 := (jadd ex147 rfl jz_1 (by omega) (by omega)).trans (by omega)
                       refine lv_iinc (v := x147) (lv' := [(4, .int x147), (3, .int r141), (5, .int x81), (6, .int x81), (0, .ref (ad 31)), (1, .int a1), (2, .int a2)]) hx hb dX1_trimmed_84 hl (k := 3) rfl (by rw [ex147]; rfl) (of_decide_eq_true rfl) rfl (fun ls hl => ?_)
                       refine lv_goto (tgt := 5) hx hb dX1_trimmed_87 (of_decide_eq_true rfl) ?_
                       exact by exact ihlp1 r141 x147 _ _ ls (by have h91 := tx147; omega) (by have h91 := tx147; omega) (by have h91 := tx147; omega) (by have h91 := tx147; omega) (by have h91 := tx147; omega)   (jTh.stepi (l := r17) (m := x81) (v := x81) (w := 0) q14 rfl (by omega) (by omega) w18 (by unfold jla; omega) (by have h9 := tx81; omega) rfl (Or.inl ⟨by omega, by omega, rfl, Or.inl ⟨by omega, by rw [w142, w134]⟩⟩) (by have h9 := tx147; omega)) hP hS (lv_sub hl [0, 1, 4, 5, 6] rfl)
  exact by exact lp1 1000000 a1 0 _ _ ls (by have h90 := t1; have h91 := jz_0; omega) (by have h90 := t1; have h91 := jz_0; omega) (by have h90 := t1; have h91 := jz_0; omega) (by have h90 := t1; have h91 := jz_0; omega) (by have h90 := t1; have h91 := jz_0; omega)  (jTh.first rfl (by have h9 := jz_0; omega)) hP hS hl
set_option maxHeartbeats 4000000 in
set_option maxRecDepth 100000 in
theorem c_X1_trimmed_31 (l : Launch) (D : va_G) (cI cL : ClassId) (ad zz : Nat → Nat) (hJ : jD ad) (σ : Nat → Nat → Int32) (τ : Nat → Nat → Int64) (a1 : Int32) (A1 : Int) (t1 : a1.toInt = A1) (a2 : Int32) (A2 : Int) (t2 : a2.toInt = A2) : jM l yX1_trimmed cX1_trimmed 7 (some .int) ({ frames := 1, cells := 0, slots := 0, locals := 23 }) D cI cL ad zz [.ref (ad 31), .int a1, .int a2] σ τ (fun r σ' τ' => (σ = σ' ∧ τ = τ') ∧ True) := by
  refine jM.of hJ (by decide +kernel) (nt := .int) rfl (Nat.le_of_ble_eq_true rfl) ?_
  intro p e s m args below meth c Q ls hC hret hl hP
  obtain ⟨hx, hb, hr, hml, hown, hts, hK, -, hlocks, hZ⟩ := hC
  have hown : s.vm.findClass RX1 = some m.cls := hown
  have hS : va_S (jA ad) s.heap s.heap [] := va_S.rf
  have hA : ∀ q, jA ad q → jA ad q := fun _ h => h
  have hl : lv_has ls 7 [(0, .ref (ad 31)), (1, .int a1), (2, .int a2)] := hl
  have g1 := jrg t1
  have g2 := jrg t2
  refine lv_iload_n hx hb dX1_trimmed_0 rfl (lv_at hl 1 rfl) ?_
  refine lv_istore_n (lv' := [(3, .int a1), (0, .ref (ad 31)), (1, .int a1), (2, .int a2)]) hx hb dX1_trimmed_1 rfl hl (of_decide_eq_true rfl) rfl (fun ls hl => ?_)
  refine lv_iconst (v := 0) hx hb dX1_trimmed_2 (of_decide_eq_true rfl) ?_
  refine lv_istore (lv' := [(4, .int 0), (3, .int a1), (0, .ref (ad 31)), (1, .int a1), (2, .int a2)]) hx hb dX1_trimmed_3 hl (of_decide_eq_true rfl) rfl (fun ls hl => ?_)
  have lp1 : ∀ (n2 : Nat) (x3 : Int32) (x4 : Int32) (H : Heap) (locs : List Loc) (ls : Array Slot), (-x4.toInt + 4 : Int) < n2 → 0 ≤ x4.toInt → x4.toInt ≤ 4 → jH D cI cL ad σ τ H → va_S (jA ad) s.heap H locs → lv_has ls 7 [(4, .int x4), (3, .int x3), (0, .ref (ad 31)), (1, .int a1), (2, .int a2)] → W p l e ({ frames := 1, cells := 0, slots := 0, locals := 23 }) s m args below meth c H locs 0 0 Q (F0 m 5 ls []) := by
    intro n2
    induction n2 with
    | zero => intro x3 x4 H locs ls h8 h9 h10; have gx3 := jrg (rfl : x3.toInt = x3.toInt); exact absurd h8 (by omega)
    | succ n2 ihlp1 =>
      intro x3 x4 H locs ls h8 h9 h10 hP hS hl
      exact by
       have gx3 := jrg (rfl : x3.toInt = x3.toInt)
       refine lv_iload hx hb dX1_trimmed_5 (lv_at hl 0 rfl) ?_
       refine lv_iconst (v := 4) hx hb dX1_trimmed_7 (of_decide_eq_true rfl) ?_
       refine lv_icmp_ge (tgt := 90) hx hb dX1_trimmed_8 (of_decide_eq_true rfl) (fun c12 => ?_) (fun c12 => ?_)
       · have kc12 := jle c12 jz_4 rfl
         refine lv_iload_n hx hb dX1_trimmed_90 rfl (lv_at hl 1 rfl) ?_
         exact hret x3 σ τ _ _ _ _ rfl ⟨⟨rfl, rfl⟩, trivial⟩ hP hS dX1_trimmed_91
       · have kc12 := jnle c12 jz_4 rfl
         refine lv_iload_n hx hb dX1_trimmed_11 rfl (lv_at hl 3 rfl) ?_
         refine lv_iload hx hb dX1_trimmed_12 (lv_at hl 0 rfl) ?_
         refine jcallS (As := [.int a1, .int x4]) (rest := []) ⟨hx, hb, hml, hown, hts⟩ hK hP hA hS hZ (c_X0_left l D cI cL ad zz hJ σ τ a1 (A1) t1 x4 (x4.toInt) rfl) cw_RX1_123 ⟨Nat.le_of_ble_eq_true rfl, Nat.le_of_ble_eq_true rfl⟩ rfl rfl rfl hl.1 rfl (Nat.le_of_ble_eq_true rfl) dX1_trimmed_14 ⟨Nat.zero_le _, Nat.zero_le _⟩ (fun r14 σ13 τ13 H locs h13 hP hS => ?_)
         obtain ⟨⟨rfl, rfl⟩, w15, h13⟩ := h13
         have k16 := congrArg Int32.toInt w15
         have h17 := h13
         obtain ⟨q19, k18⟩ := h17
         refine lv_istore (lv' := [(5, .int r14), (4, .int x4), (3, .int x3), (0, .ref (ad 31)), (1, .int a1), (2, .int a2)]) hx hb dX1_trimmed_17 hl (of_decide_eq_true rfl) rfl (fun ls hl => ?_)
         refine lv_iload_n hx hb dX1_trimmed_19 rfl (lv_at hl 4 rfl) ?_
         refine jcallS (As := [.int a1]) (rest := []) ⟨hx, hb, hml, hown, hts⟩ hK hP hA hS hZ (c_X0_last l D cI cL ad zz hJ σ τ a1 (A1) t1) cw_RX1_126 ⟨Nat.le_of_ble_eq_true rfl, Nat.le_of_ble_eq_true rfl⟩ rfl rfl rfl hl.1 rfl (Nat.le_of_ble_eq_true rfl) dX1_trimmed_20 ⟨Nat.zero_le _, Nat.zero_le _⟩ (fun r21 σ20 τ20 H locs h20 hP hS => ?_)
         obtain ⟨⟨rfl, rfl⟩, w22, h20⟩ := h20
         refine lv_iload hx hb dX1_trimmed_23 (lv_at hl 1 rfl) ?_
         refine lv_icmp_ne (tgt := 32) hx hb dX1_trimmed_25 (of_decide_eq_true rfl) (fun c23 => ?_) (fun c23 => ?_)
         · have kc23 := jne c23 rfl rfl
           refine lv_iload_n hx hb dX1_trimmed_32 rfl (lv_at hl 5 rfl) ?_
           refine lv_iconst (v := 1) hx hb dX1_trimmed_33 (of_decide_eq_true rfl) ?_
           refine lv_iadd hx hb dX1_trimmed_34 ?_
           refine lv_topi (fun x24 ex24 => ?_)
           have gx24 := jrg (rfl : x24.toInt = x24.toInt)
           refine lv_iconst (v := 2) hx hb dX1_trimmed_35 (of_decide_eq_true rfl) ?_
           refine lv_idiv hx hb dX1_trimmed_36 (of_decide_eq_true rfl) ?_
           refine lv_topi (fun x25 ex25 => ?_)
           have gx25 := jrg (rfl : x25.toInt = x25.toInt)
           refine lv_istore (lv' := [(6, .int x25), (5, .int r14), (4, .int x4), (3, .int x3), (0, .ref (ad 31)), (1, .int a1), (2, .int a2)]) hx hb dX1_trimmed_37 hl (of_decide_eq_true rfl) rfl (fun ls hl => ?_)
           refine lv_aload_n hx hb dX1_trimmed_39 rfl (lv_at hl 4 rfl) ?_
           refine va_get (D := D) hx hb hts inlX1 hown hK hP 31 (jc_31 cI cL ad σ τ) rfl 12 (of_decide_eq_true rfl) (hts _ kw_28_8) (fun _ h9 => h9) rfl dX1_trimmed_40 ?_
           refine lv_if_eq (tgt := 51) hx hb dX1_trimmed_43 (of_decide_eq_true rfl) (fun c26 => ?_) (fun c26 => ?_)
           · have kc26 := jeq c26 rfl jz_0
             refine lv_iload hx hb dX1_trimmed_51 (lv_at hl 1 rfl) ?_
             refine lv_iload hx hb dX1_trimmed_53 (lv_at hl 0 rfl) ?_
             refine lv_icmp_le (tgt := 71) hx hb dX1_trimmed_55 (of_decide_eq_true rfl) (fun c27 => ?_) (fun c27 => ?_)
             · have kc27 := jle c27 rfl rfl
               refine lv_iload hx hb dX1_trimmed_71 (lv_at hl 1 rfl) ?_
               refine lv_if_ne (tgt := 84) hx hb dX1_trimmed_73 (of_decide_eq_true rfl) (fun c28 => ?_) (fun c28 => ?_)
               · have kc28 := jne c28 rfl jz_0
                 obtain ⟨x29, ex29⟩ : ∃ y : Int32, y = x4 + 1 := ⟨_, rfl⟩
                 exact by
                  have tx29 : x29.toInt = x4.toInt + 1 := (jadd ex29 rfl jz_1 (by omega) (by omega)).trans (by omega)
                  refine lv_iinc (v := x29) (lv' := [(4, .int x29), (6, .int x25), (5, .int r14), (3, .int x3), (0, .ref (ad 31)), (1, .int a1), (2, .int a2)]) hx hb dX1_trimmed_84 hl (k := 2) rfl (by rw [ex29]; rfl) (of_decide_eq_true rfl) rfl (fun ls hl => ?_)
                  refine lv_goto (tgt := 5) hx hb dX1_trimmed_87 (of_decide_eq_true rfl) ?_
                  exact by exact ihlp1 x3 x29 _ _ ls (by have h91 := tx29; omega) (by have h91 := tx29; omega) (by have h91 := tx29; omega)    hP hS (lv_sub hl [0, 3, 4, 5, 6] rfl)
               · have kc28 := jeq c28 rfl jz_0
                 refine lv_iload_n hx hb dX1_trimmed_76 rfl (lv_at hl 3 rfl) ?_
                 refine lv_iload hx hb dX1_trimmed_77 (lv_at hl 2 rfl) ?_
                 refine lv_iconst (v := 0) hx hb dX1_trimmed_79 (of_decide_eq_true rfl) ?_
                 refine jcallS (As := [.int x3, .int x4, .int 0]) (rest := []) ⟨hx, hb, hml, hown, hts⟩ hK hP hA hS hZ (c_X0_withSteps l D cI cL ad zz hJ σ τ x3 (x3.toInt) rfl x4 (x4.toInt) rfl 0 (0) jz_0) cw_RX1_133 ⟨Nat.le_of_ble_eq_true rfl, Nat.le_of_ble_eq_true rfl⟩ rfl rfl rfl hl.1 rfl (Nat.le_of_ble_eq_true rfl) dX1_trimmed_80 ⟨Nat.zero_le _, Nat.zero_le _⟩ (fun r31 σ30 τ30 H locs h30 hP hS => ?_)
                 exact by
                  obtain ⟨⟨rfl, rfl⟩, w32, h30⟩ := h30
                  have k33 := congrArg Int32.toInt w32
                  refine lv_istore_n (lv' := [(3, .int r31), (6, .int x25), (5, .int r14), (4, .int x4), (0, .ref (ad 31)), (1, .int a1), (2, .int a2)]) hx hb dX1_trimmed_83 rfl hl (of_decide_eq_true rfl) rfl (fun ls hl => ?_)
                  obtain ⟨x34, ex34⟩ : ∃ y : Int32, y = x4 + 1 := ⟨_, rfl⟩
                  have tx34 : x34.toInt = x4.toInt + 1 := (jadd ex34 rfl jz_1 (by omega) (by omega)).trans (by omega)
                  refine lv_iinc (v := x34) (lv' := [(4, .int x34), (3, .int r31), (6, .int x25), (5, .int r14), (0, .ref (ad 31)), (1, .int a1), (2, .int a2)]) hx hb dX1_trimmed_84 hl (k := 3) rfl (by rw [ex34]; rfl) (of_decide_eq_true rfl) rfl (fun ls hl => ?_)
                  refine lv_goto (tgt := 5) hx hb dX1_trimmed_87 (of_decide_eq_true rfl) ?_
                  exact by exact ihlp1 r31 x34 _ _ ls (by have h91 := tx34; omega) (by have h91 := tx34; omega) (by have h91 := tx34; omega)    hP hS (lv_sub hl [0, 1, 4, 5, 6] rfl)
             · have kc27 := jnle c27 rfl rfl
               exact by
                refine lv_iload hx hb dX1_trimmed_58 (lv_at hl 0 rfl) ?_
                refine lv_istore (lv' := [(5, .int x25), (6, .int x25), (4, .int x4), (3, .int x3), (0, .ref (ad 31)), (1, .int a1), (2, .int a2)]) hx hb dX1_trimmed_60 hl (of_decide_eq_true rfl) rfl (fun ls hl => ?_)
                refine lv_iload_n hx hb dX1_trimmed_62 rfl (lv_at hl 3 rfl) ?_
                refine lv_iload hx hb dX1_trimmed_63 (lv_at hl 2 rfl) ?_
                refine lv_iload hx hb dX1_trimmed_65 (lv_at hl 0 rfl) ?_
                refine jcallS (As := [.int x3, .int x4, .int x25]) (rest := []) ⟨hx, hb, hml, hown, hts⟩ hK hP hA hS hZ (c_X0_withLeft l D cI cL ad zz hJ σ τ x3 (x3.toInt) rfl x4 (x4.toInt) rfl x25 (x25.toInt) rfl) cw_RX1_129 ⟨Nat.le_of_ble_eq_true rfl, Nat.le_of_ble_eq_true rfl⟩ rfl rfl rfl hl.1 rfl (Nat.le_of_ble_eq_true rfl) dX1_trimmed_67 ⟨Nat.zero_le _, Nat.zero_le _⟩ (fun r36 σ35 τ35 H locs h35 hP hS => ?_)
                obtain ⟨⟨rfl, rfl⟩, w37, h35⟩ := h35
                have k38 := congrArg Int32.toInt w37
                refine lv_istore_n (lv' := [(3, .int r36), (5, .int x25), (6, .int x25), (4, .int x4), (0, .ref (ad 31)), (1, .int a1), (2, .int a2)]) hx hb dX1_trimmed_70 rfl hl (of_decide_eq_true rfl) rfl (fun ls hl => ?_)
                refine lv_iload hx hb dX1_trimmed_71 (lv_at hl 1 rfl) ?_
                refine lv_if_ne (tgt := 84) hx hb dX1_trimmed_73 (of_decide_eq_true rfl) (fun c39 => ?_) (fun c39 => ?_)
                · have kc39 := jne c39 rfl jz_0
                  obtain ⟨x40, ex40⟩ : ∃ y : Int32, y = x4 + 1 := ⟨_, rfl⟩
                  exact by
                   have tx40 : x40.toInt = x4.toInt + 1 := (jadd ex40 rfl jz_1 (by omega) (by omega)).trans (by omega)
                   refine lv_iinc (v := x40) (lv' := [(4, .int x40), (3, .int r36), (5, .int x25), (6, .int x25), (0, .ref (ad 31)), (1, .int a1), (2, .int a2)]) hx hb dX1_trimmed_84 hl (k := 3) rfl (by rw [ex40]; rfl) (of_decide_eq_true rfl) rfl (fun ls hl => ?_)
                   refine lv_goto (tgt := 5) hx hb dX1_trimmed_87 (of_decide_eq_true rfl) ?_
                   exact by exact ihlp1 r36 x40 _ _ ls (by have h91 := tx40; omega) (by have h91 := tx40; omega) (by have h91 := tx40; omega)    hP hS (lv_sub hl [0, 1, 4, 5, 6] rfl)
                · have kc39 := jeq c39 rfl jz_0
                  refine lv_iload_n hx hb dX1_trimmed_76 rfl (lv_at hl 0 rfl) ?_
                  refine lv_iload hx hb dX1_trimmed_77 (lv_at hl 3 rfl) ?_
                  refine lv_iconst (v := 0) hx hb dX1_trimmed_79 (of_decide_eq_true rfl) ?_
                  refine jcallS (As := [.int r36, .int x4, .int 0]) (rest := []) ⟨hx, hb, hml, hown, hts⟩ hK hP hA hS hZ (c_X0_withSteps l D cI cL ad zz hJ σ τ r36 (r36.toInt) rfl x4 (x4.toInt) rfl 0 (0) jz_0) cw_RX1_133 ⟨Nat.le_of_ble_eq_true rfl, Nat.le_of_ble_eq_true rfl⟩ rfl rfl rfl hl.1 rfl (Nat.le_of_ble_eq_true rfl) dX1_trimmed_80 ⟨Nat.zero_le _, Nat.zero_le _⟩ (fun r42 σ41 τ41 H locs h41 hP hS => ?_)
                  exact by
                   obtain ⟨⟨rfl, rfl⟩, w43, h41⟩ := h41
                   have k44 := congrArg Int32.toInt w43
                   refine lv_istore_n (lv' := [(3, .int r42), (5, .int x25), (6, .int x25), (4, .int x4), (0, .ref (ad 31)), (1, .int a1), (2, .int a2)]) hx hb dX1_trimmed_83 rfl hl (of_decide_eq_true rfl) rfl (fun ls hl => ?_)
                   obtain ⟨x45, ex45⟩ : ∃ y : Int32, y = x4 + 1 := ⟨_, rfl⟩
                   have tx45 : x45.toInt = x4.toInt + 1 := (jadd ex45 rfl jz_1 (by omega) (by omega)).trans (by omega)
                   refine lv_iinc (v := x45) (lv' := [(4, .int x45), (3, .int r42), (5, .int x25), (6, .int x25), (0, .ref (ad 31)), (1, .int a1), (2, .int a2)]) hx hb dX1_trimmed_84 hl (k := 3) rfl (by rw [ex45]; rfl) (of_decide_eq_true rfl) rfl (fun ls hl => ?_)
                   refine lv_goto (tgt := 5) hx hb dX1_trimmed_87 (of_decide_eq_true rfl) ?_
                   exact by exact ihlp1 r42 x45 _ _ ls (by have h91 := tx45; omega) (by have h91 := tx45; omega) (by have h91 := tx45; omega)    hP hS (lv_sub hl [0, 1, 4, 5, 6] rfl)
           · have kc26 := jne c26 rfl jz_0
             exact by
              refine lv_iload_n hx hb dX1_trimmed_46 rfl (lv_at hl 6 rfl) ?_
              refine lv_iconst (v := 1) hx hb dX1_trimmed_47 (of_decide_eq_true rfl) ?_
              refine lv_icmp_gt (tgt := 71) hx hb dX1_trimmed_48 (of_decide_eq_true rfl) (fun c46 => ?_) (fun c46 => ?_)
              · have kc46 := jlt c46 jz_1 t2
                refine lv_iload hx hb dX1_trimmed_71 (lv_at hl 1 rfl) ?_
                refine lv_if_ne (tgt := 84) hx hb dX1_trimmed_73 (of_decide_eq_true rfl) (fun c47 => ?_) (fun c47 => ?_)
                · have kc47 := jne c47 rfl jz_0
                  obtain ⟨x48, ex48⟩ : ∃ y : Int32, y = x4 + 1 := ⟨_, rfl⟩
                  have tx48 : x48.toInt = x4.toInt + 1 := (jadd ex48 rfl jz_1 (by omega) (by omega)).trans (by omega)
                  exact by
                   refine lv_iinc (v := x48) (lv' := [(4, .int x48), (6, .int x25), (5, .int r14), (3, .int x3), (0, .ref (ad 31)), (1, .int a1), (2, .int a2)]) hx hb dX1_trimmed_84 hl (k := 2) rfl (by rw [ex48]; rfl) (of_decide_eq_true rfl) rfl (fun ls hl => ?_)
                   refine lv_goto (tgt := 5) hx hb dX1_trimmed_87 (of_decide_eq_true rfl) ?_
                   exact by exact ihlp1 x3 x48 _ _ ls (by have h91 := tx48; omega) (by have h91 := tx48; omega) (by have h91 := tx48; omega)    hP hS (lv_sub hl [0, 3, 4, 5, 6] rfl)
                · have kc47 := jeq c47 rfl jz_0
                  refine lv_iload_n hx hb dX1_trimmed_76 rfl (lv_at hl 3 rfl) ?_
                  refine lv_iload hx hb dX1_trimmed_77 (lv_at hl 2 rfl) ?_
                  refine lv_iconst (v := 0) hx hb dX1_trimmed_79 (of_decide_eq_true rfl) ?_
                  refine jcallS (As := [.int x3, .int x4, .int 0]) (rest := []) ⟨hx, hb, hml, hown, hts⟩ hK hP hA hS hZ (c_X0_withSteps l D cI cL ad zz hJ σ τ x3 (x3.toInt) rfl x4 (x4.toInt) rfl 0 (0) jz_0) cw_RX1_133 ⟨Nat.le_of_ble_eq_true rfl, Nat.le_of_ble_eq_true rfl⟩ rfl rfl rfl hl.1 rfl (Nat.le_of_ble_eq_true rfl) dX1_trimmed_80 ⟨Nat.zero_le _, Nat.zero_le _⟩ (fun r50 σ49 τ49 H locs h49 hP hS => ?_)
                  obtain ⟨⟨rfl, rfl⟩, w51, h49⟩ := h49
                  have k52 := congrArg Int32.toInt w51
                  refine lv_istore_n (lv' := [(3, .int r50), (6, .int x25), (5, .int r14), (4, .int x4), (0, .ref (ad 31)), (1, .int a1), (2, .int a2)]) hx hb dX1_trimmed_83 rfl hl (of_decide_eq_true rfl) rfl (fun ls hl => ?_)
                  obtain ⟨x53, ex53⟩ : ∃ y : Int32, y = x4 + 1 := ⟨_, rfl⟩
                  exact by
                   have tx53 : x53.toInt = x4.toInt + 1 := (jadd ex53 rfl jz_1 (by omega) (by omega)).trans (by omega)
                   refine lv_iinc (v := x53) (lv' := [(4, .int x53), (3, .int r50), (6, .int x25), (5, .int r14), (0, .ref (ad 31)), (1, .int a1), (2, .int a2)]) hx hb dX1_trimmed_84 hl (k := 3) rfl (by rw [ex53]; rfl) (of_decide_eq_true rfl) rfl (fun ls hl => ?_)
                   refine lv_goto (tgt := 5) hx hb dX1_trimmed_87 (of_decide_eq_true rfl) ?_
                   exact by exact ihlp1 r50 x53 _ _ ls (by have h91 := tx53; omega) (by have h91 := tx53; omega) (by have h91 := tx53; omega)    hP hS (lv_sub hl [0, 1, 4, 5, 6] rfl)
              · have kc46 := jnlt c46 jz_1 t2
                refine lv_iload hx hb dX1_trimmed_51 (lv_at hl 1 rfl) ?_
                refine lv_iload hx hb dX1_trimmed_53 (lv_at hl 0 rfl) ?_
                refine lv_icmp_le (tgt := 71) hx hb dX1_trimmed_55 (of_decide_eq_true rfl) (fun c54 => ?_) (fun c54 => ?_)
                · have kc54 := jle c54 rfl rfl
                  exact by
                   refine lv_iload hx hb dX1_trimmed_71 (lv_at hl 1 rfl) ?_
                   refine lv_if_ne (tgt := 84) hx hb dX1_trimmed_73 (of_decide_eq_true rfl) (fun c55 => ?_) (fun c55 => ?_)
                   · have kc55 := jne c55 rfl jz_0
                     obtain ⟨x56, ex56⟩ : ∃ y : Int32, y = x4 + 1 := ⟨_, rfl⟩
                     have tx56 : x56.toInt = x4.toInt + 1 := (jadd ex56 rfl jz_1 (by omega) (by omega)).trans (by omega)
                     refine lv_iinc (v := x56) (lv' := [(4, .int x56), (6, .int x25), (5, .int r14), (3, .int x3), (0, .ref (ad 31)), (1, .int a1), (2, .int a2)]) hx hb dX1_trimmed_84 hl (k := 2) rfl (by rw [ex56]; rfl) (of_decide_eq_true rfl) rfl (fun ls hl => ?_)
                     refine lv_goto (tgt := 5) hx hb dX1_trimmed_87 (of_decide_eq_true rfl) ?_
                     exact by exact ihlp1 x3 x56 _ _ ls (by have h91 := tx56; omega) (by have h91 := tx56; omega) (by have h91 := tx56; omega)    hP hS (lv_sub hl [0, 3, 4, 5, 6] rfl)
                   · have kc55 := jeq c55 rfl jz_0
                     exact by
                      refine lv_iload_n hx hb dX1_trimmed_76 rfl (lv_at hl 3 rfl) ?_
                      refine lv_iload hx hb dX1_trimmed_77 (lv_at hl 2 rfl) ?_
                      refine lv_iconst (v := 0) hx hb dX1_trimmed_79 (of_decide_eq_true rfl) ?_
                      refine jcallS (As := [.int x3, .int x4, .int 0]) (rest := []) ⟨hx, hb, hml, hown, hts⟩ hK hP hA hS hZ (c_X0_withSteps l D cI cL ad zz hJ σ τ x3 (x3.toInt) rfl x4 (x4.toInt) rfl 0 (0) jz_0) cw_RX1_133 ⟨Nat.le_of_ble_eq_true rfl, Nat.le_of_ble_eq_true rfl⟩ rfl rfl rfl hl.1 rfl (Nat.le_of_ble_eq_true rfl) dX1_trimmed_80 ⟨Nat.zero_le _, Nat.zero_le _⟩ (fun r58 σ57 τ57 H locs h57 hP hS => ?_)
                      obtain ⟨⟨rfl, rfl⟩, w59, h57⟩ := h57
                      have k60 := congrArg Int32.toInt w59
                      refine lv_istore_n (lv' := [(3, .int r58), (6, .int x25), (5, .int r14), (4, .int x4), (0, .ref (ad 31)), (1, .int a1), (2, .int a2)]) hx hb dX1_trimmed_83 rfl hl (of_decide_eq_true rfl) rfl (fun ls hl => ?_)
                      obtain ⟨x61, ex61⟩ : ∃ y : Int32, y = x4 + 1 := ⟨_, rfl⟩
                      have tx61 : x61.toInt = x4.toInt + 1 := (jadd ex61 rfl jz_1 (by omega) (by omega)).trans (by omega)
                      exact by
                       refine lv_iinc (v := x61) (lv' := [(4, .int x61), (3, .int r58), (6, .int x25), (5, .int r14), (0, .ref (ad 31)), (1, .int a1), (2, .int a2)]) hx hb dX1_trimmed_84 hl (k := 3) rfl (by rw [ex61]; rfl) (of_decide_eq_true rfl) rfl (fun ls hl => ?_)
                       refine lv_goto (tgt := 5) hx hb dX1_trimmed_87 (of_decide_eq_true rfl) ?_
                       exact by exact ihlp1 r58 x61 _ _ ls (by have h91 := tx61; omega) (by have h91 := tx61; omega) (by have h91 := tx61; omega)    hP hS (lv_sub hl [0, 1, 4, 5, 6] rfl)
                · have kc54 := jnle c54 rfl rfl
                  refine lv_iload hx hb dX1_trimmed_58 (lv_at hl 0 rfl) ?_
                  refine lv_istore (lv' := [(5, .int x25), (6, .int x25), (4, .int x4), (3, .int x3), (0, .ref (ad 31)), (1, .int a1), (2, .int a2)]) hx hb dX1_trimmed_60 hl (of_decide_eq_true rfl) rfl (fun ls hl => ?_)
                  refine lv_iload_n hx hb dX1_trimmed_62 rfl (lv_at hl 3 rfl) ?_
                  refine lv_iload hx hb dX1_trimmed_63 (lv_at hl 2 rfl) ?_
                  refine lv_iload hx hb dX1_trimmed_65 (lv_at hl 0 rfl) ?_
                  refine jcallS (As := [.int x3, .int x4, .int x25]) (rest := []) ⟨hx, hb, hml, hown, hts⟩ hK hP hA hS hZ (c_X0_withLeft l D cI cL ad zz hJ σ τ x3 (x3.toInt) rfl x4 (x4.toInt) rfl x25 (x25.toInt) rfl) cw_RX1_129 ⟨Nat.le_of_ble_eq_true rfl, Nat.le_of_ble_eq_true rfl⟩ rfl rfl rfl hl.1 rfl (Nat.le_of_ble_eq_true rfl) dX1_trimmed_67 ⟨Nat.zero_le _, Nat.zero_le _⟩ (fun r63 σ62 τ62 H locs h62 hP hS => ?_)
                  obtain ⟨⟨rfl, rfl⟩, w64, h62⟩ := h62
                  have k65 := congrArg Int32.toInt w64
                  refine lv_istore_n (lv' := [(3, .int r63), (5, .int x25), (6, .int x25), (4, .int x4), (0, .ref (ad 31)), (1, .int a1), (2, .int a2)]) hx hb dX1_trimmed_70 rfl hl (of_decide_eq_true rfl) rfl (fun ls hl => ?_)
                  refine lv_iload hx hb dX1_trimmed_71 (lv_at hl 1 rfl) ?_
                  refine lv_if_ne (tgt := 84) hx hb dX1_trimmed_73 (of_decide_eq_true rfl) (fun c66 => ?_) (fun c66 => ?_)
                  · have kc66 := jne c66 rfl jz_0
                    obtain ⟨x67, ex67⟩ : ∃ y : Int32, y = x4 + 1 := ⟨_, rfl⟩
                    exact by
                     have tx67 : x67.toInt = x4.toInt + 1 := (jadd ex67 rfl jz_1 (by omega) (by omega)).trans (by omega)
                     refine lv_iinc (v := x67) (lv' := [(4, .int x67), (3, .int r63), (5, .int x25), (6, .int x25), (0, .ref (ad 31)), (1, .int a1), (2, .int a2)]) hx hb dX1_trimmed_84 hl (k := 3) rfl (by rw [ex67]; rfl) (of_decide_eq_true rfl) rfl (fun ls hl => ?_)
                     refine lv_goto (tgt := 5) hx hb dX1_trimmed_87 (of_decide_eq_true rfl) ?_
                     exact by exact ihlp1 r63 x67 _ _ ls (by have h91 := tx67; omega) (by have h91 := tx67; omega) (by have h91 := tx67; omega)    hP hS (lv_sub hl [0, 1, 4, 5, 6] rfl)
                  · have kc66 := jeq c66 rfl jz_0
                    refine lv_iload_n hx hb dX1_trimmed_76 rfl (lv_at hl 0 rfl) ?_
                    refine lv_iload hx hb dX1_trimmed_77 (lv_at hl 3 rfl) ?_
                    refine lv_iconst (v := 0) hx hb dX1_trimmed_79 (of_decide_eq_true rfl) ?_
                    refine jcallS (As := [.int r63, .int x4, .int 0]) (rest := []) ⟨hx, hb, hml, hown, hts⟩ hK hP hA hS hZ (c_X0_withSteps l D cI cL ad zz hJ σ τ r63 (r63.toInt) rfl x4 (x4.toInt) rfl 0 (0) jz_0) cw_RX1_133 ⟨Nat.le_of_ble_eq_true rfl, Nat.le_of_ble_eq_true rfl⟩ rfl rfl rfl hl.1 rfl (Nat.le_of_ble_eq_true rfl) dX1_trimmed_80 ⟨Nat.zero_le _, Nat.zero_le _⟩ (fun r69 σ68 τ68 H locs h68 hP hS => ?_)
                    exact by
                     obtain ⟨⟨rfl, rfl⟩, w70, h68⟩ := h68
                     have k71 := congrArg Int32.toInt w70
                     refine lv_istore_n (lv' := [(3, .int r69), (5, .int x25), (6, .int x25), (4, .int x4), (0, .ref (ad 31)), (1, .int a1), (2, .int a2)]) hx hb dX1_trimmed_83 rfl hl (of_decide_eq_true rfl) rfl (fun ls hl => ?_)
                     obtain ⟨x72, ex72⟩ : ∃ y : Int32, y = x4 + 1 := ⟨_, rfl⟩
                     have tx72 : x72.toInt = x4.toInt + 1 := (jadd ex72 rfl jz_1 (by omega) (by omega)).trans (by omega)
                     refine lv_iinc (v := x72) (lv' := [(4, .int x72), (3, .int r69), (5, .int x25), (6, .int x25), (0, .ref (ad 31)), (1, .int a1), (2, .int a2)]) hx hb dX1_trimmed_84 hl (k := 3) rfl (by rw [ex72]; rfl) (of_decide_eq_true rfl) rfl (fun ls hl => ?_)
                     refine lv_goto (tgt := 5) hx hb dX1_trimmed_87 (of_decide_eq_true rfl) ?_
                     exact by exact ihlp1 r69 x72 _ _ ls (by have h91 := tx72; omega) (by have h91 := tx72; omega) (by have h91 := tx72; omega)    hP hS (lv_sub hl [0, 1, 4, 5, 6] rfl)
         · have kc23 := jeq c23 rfl rfl
           exact by
            refine lv_iload_n hx hb dX1_trimmed_28 rfl (lv_at hl 5 rfl) ?_
            refine lv_goto (tgt := 35) hx hb dX1_trimmed_29 (of_decide_eq_true rfl) ?_
            refine lv_iconst (v := 2) hx hb dX1_trimmed_35 (of_decide_eq_true rfl) ?_
            refine lv_idiv hx hb dX1_trimmed_36 (of_decide_eq_true rfl) ?_
            refine lv_topi (fun x73 ex73 => ?_)
            have gx73 := jrg (rfl : x73.toInt = x73.toInt)
            refine lv_istore (lv' := [(6, .int x73), (5, .int r14), (4, .int x4), (3, .int x3), (0, .ref (ad 31)), (1, .int a1), (2, .int a2)]) hx hb dX1_trimmed_37 hl (of_decide_eq_true rfl) rfl (fun ls hl => ?_)
            refine lv_aload_n hx hb dX1_trimmed_39 rfl (lv_at hl 4 rfl) ?_
            refine va_get (D := D) hx hb hts inlX1 hown hK hP 31 (jc_31 cI cL ad σ τ) rfl 12 (of_decide_eq_true rfl) (hts _ kw_28_8) (fun _ h9 => h9) rfl dX1_trimmed_40 ?_
            refine lv_if_eq (tgt := 51) hx hb dX1_trimmed_43 (of_decide_eq_true rfl) (fun c74 => ?_) (fun c74 => ?_)
            · have kc74 := jeq c74 rfl jz_0
              refine lv_iload hx hb dX1_trimmed_51 (lv_at hl 1 rfl) ?_
              refine lv_iload hx hb dX1_trimmed_53 (lv_at hl 0 rfl) ?_
              refine lv_icmp_le (tgt := 71) hx hb dX1_trimmed_55 (of_decide_eq_true rfl) (fun c75 => ?_) (fun c75 => ?_)
              · have kc75 := jle c75 rfl rfl
                refine lv_iload hx hb dX1_trimmed_71 (lv_at hl 1 rfl) ?_
                refine lv_if_ne (tgt := 84) hx hb dX1_trimmed_73 (of_decide_eq_true rfl) (fun c76 => ?_) (fun c76 => ?_)
                · have kc76 := jne c76 rfl jz_0
                  obtain ⟨x77, ex77⟩ : ∃ y : Int32, y = x4 + 1 := ⟨_, rfl⟩
                  exact by
                   have tx77 : x77.toInt = x4.toInt + 1 := (jadd ex77 rfl jz_1 (by omega) (by omega)).trans (by omega)
                   refine lv_iinc (v := x77) (lv' := [(4, .int x77), (6, .int x73), (5, .int r14), (3, .int x3), (0, .ref (ad 31)), (1, .int a1), (2, .int a2)]) hx hb dX1_trimmed_84 hl (k := 2) rfl (by rw [ex77]; rfl) (of_decide_eq_true rfl) rfl (fun ls hl => ?_)
                   refine lv_goto (tgt := 5) hx hb dX1_trimmed_87 (of_decide_eq_true rfl) ?_
                   exact by exact ihlp1 x3 x77 _ _ ls (by have h91 := tx77; omega) (by have h91 := tx77; omega) (by have h91 := tx77; omega)    hP hS (lv_sub hl [0, 3, 4, 5, 6] rfl)
                · have kc76 := jeq c76 rfl jz_0
                  refine lv_iload_n hx hb dX1_trimmed_76 rfl (lv_at hl 3 rfl) ?_
                  refine lv_iload hx hb dX1_trimmed_77 (lv_at hl 2 rfl) ?_
                  refine lv_iconst (v := 0) hx hb dX1_trimmed_79 (of_decide_eq_true rfl) ?_
                  refine jcallS (As := [.int x3, .int x4, .int 0]) (rest := []) ⟨hx, hb, hml, hown, hts⟩ hK hP hA hS hZ (c_X0_withSteps l D cI cL ad zz hJ σ τ x3 (x3.toInt) rfl x4 (x4.toInt) rfl 0 (0) jz_0) cw_RX1_133 ⟨Nat.le_of_ble_eq_true rfl, Nat.le_of_ble_eq_true rfl⟩ rfl rfl rfl hl.1 rfl (Nat.le_of_ble_eq_true rfl) dX1_trimmed_80 ⟨Nat.zero_le _, Nat.zero_le _⟩ (fun r79 σ78 τ78 H locs h78 hP hS => ?_)
                  exact by
                   obtain ⟨⟨rfl, rfl⟩, w80, h78⟩ := h78
                   have k81 := congrArg Int32.toInt w80
                   refine lv_istore_n (lv' := [(3, .int r79), (6, .int x73), (5, .int r14), (4, .int x4), (0, .ref (ad 31)), (1, .int a1), (2, .int a2)]) hx hb dX1_trimmed_83 rfl hl (of_decide_eq_true rfl) rfl (fun ls hl => ?_)
                   obtain ⟨x82, ex82⟩ : ∃ y : Int32, y = x4 + 1 := ⟨_, rfl⟩
                   have tx82 : x82.toInt = x4.toInt + 1 := (jadd ex82 rfl jz_1 (by omega) (by omega)).trans (by omega)
                   refine lv_iinc (v := x82) (lv' := [(4, .int x82), (3, .int r79), (6, .int x73), (5, .int r14), (0, .ref (ad 31)), (1, .int a1), (2, .int a2)]) hx hb dX1_trimmed_84 hl (k := 3) rfl (by rw [ex82]; rfl) (of_decide_eq_true rfl) rfl (fun ls hl => ?_)
                   refine lv_goto (tgt := 5) hx hb dX1_trimmed_87 (of_decide_eq_true rfl) ?_
                   exact by exact ihlp1 r79 x82 _ _ ls (by have h91 := tx82; omega) (by have h91 := tx82; omega) (by have h91 := tx82; omega)    hP hS (lv_sub hl [0, 1, 4, 5, 6] rfl)
              · have kc75 := jnle c75 rfl rfl
                exact by
                 refine lv_iload hx hb dX1_trimmed_58 (lv_at hl 0 rfl) ?_
                 refine lv_istore (lv' := [(5, .int x73), (6, .int x73), (4, .int x4), (3, .int x3), (0, .ref (ad 31)), (1, .int a1), (2, .int a2)]) hx hb dX1_trimmed_60 hl (of_decide_eq_true rfl) rfl (fun ls hl => ?_)
                 refine lv_iload_n hx hb dX1_trimmed_62 rfl (lv_at hl 3 rfl) ?_
                 refine lv_iload hx hb dX1_trimmed_63 (lv_at hl 2 rfl) ?_
                 refine lv_iload hx hb dX1_trimmed_65 (lv_at hl 0 rfl) ?_
                 refine jcallS (As := [.int x3, .int x4, .int x73]) (rest := []) ⟨hx, hb, hml, hown, hts⟩ hK hP hA hS hZ (c_X0_withLeft l D cI cL ad zz hJ σ τ x3 (x3.toInt) rfl x4 (x4.toInt) rfl x73 (x73.toInt) rfl) cw_RX1_129 ⟨Nat.le_of_ble_eq_true rfl, Nat.le_of_ble_eq_true rfl⟩ rfl rfl rfl hl.1 rfl (Nat.le_of_ble_eq_true rfl) dX1_trimmed_67 ⟨Nat.zero_le _, Nat.zero_le _⟩ (fun r84 σ83 τ83 H locs h83 hP hS => ?_)
                 obtain ⟨⟨rfl, rfl⟩, w85, h83⟩ := h83
                 have k86 := congrArg Int32.toInt w85
                 refine lv_istore_n (lv' := [(3, .int r84), (5, .int x73), (6, .int x73), (4, .int x4), (0, .ref (ad 31)), (1, .int a1), (2, .int a2)]) hx hb dX1_trimmed_70 rfl hl (of_decide_eq_true rfl) rfl (fun ls hl => ?_)
                 refine lv_iload hx hb dX1_trimmed_71 (lv_at hl 1 rfl) ?_
                 refine lv_if_ne (tgt := 84) hx hb dX1_trimmed_73 (of_decide_eq_true rfl) (fun c87 => ?_) (fun c87 => ?_)
                 · have kc87 := jne c87 rfl jz_0
                   obtain ⟨x88, ex88⟩ : ∃ y : Int32, y = x4 + 1 := ⟨_, rfl⟩
                   exact by
                    have tx88 : x88.toInt = x4.toInt + 1 := (jadd ex88 rfl jz_1 (by omega) (by omega)).trans (by omega)
                    refine lv_iinc (v := x88) (lv' := [(4, .int x88), (3, .int r84), (5, .int x73), (6, .int x73), (0, .ref (ad 31)), (1, .int a1), (2, .int a2)]) hx hb dX1_trimmed_84 hl (k := 3) rfl (by rw [ex88]; rfl) (of_decide_eq_true rfl) rfl (fun ls hl => ?_)
                    refine lv_goto (tgt := 5) hx hb dX1_trimmed_87 (of_decide_eq_true rfl) ?_
                    exact by exact ihlp1 r84 x88 _ _ ls (by have h91 := tx88; omega) (by have h91 := tx88; omega) (by have h91 := tx88; omega)    hP hS (lv_sub hl [0, 1, 4, 5, 6] rfl)
                 · have kc87 := jeq c87 rfl jz_0
                   refine lv_iload_n hx hb dX1_trimmed_76 rfl (lv_at hl 0 rfl) ?_
                   refine lv_iload hx hb dX1_trimmed_77 (lv_at hl 3 rfl) ?_
                   refine lv_iconst (v := 0) hx hb dX1_trimmed_79 (of_decide_eq_true rfl) ?_
                   refine jcallS (As := [.int r84, .int x4, .int 0]) (rest := []) ⟨hx, hb, hml, hown, hts⟩ hK hP hA hS hZ (c_X0_withSteps l D cI cL ad zz hJ σ τ r84 (r84.toInt) rfl x4 (x4.toInt) rfl 0 (0) jz_0) cw_RX1_133 ⟨Nat.le_of_ble_eq_true rfl, Nat.le_of_ble_eq_true rfl⟩ rfl rfl rfl hl.1 rfl (Nat.le_of_ble_eq_true rfl) dX1_trimmed_80 ⟨Nat.zero_le _, Nat.zero_le _⟩ (fun r90 σ89 τ89 H locs h89 hP hS => ?_)
                   exact by
                    obtain ⟨⟨rfl, rfl⟩, w91, h89⟩ := h89
                    have k92 := congrArg Int32.toInt w91
                    refine lv_istore_n (lv' := [(3, .int r90), (5, .int x73), (6, .int x73), (4, .int x4), (0, .ref (ad 31)), (1, .int a1), (2, .int a2)]) hx hb dX1_trimmed_83 rfl hl (of_decide_eq_true rfl) rfl (fun ls hl => ?_)
                    obtain ⟨x93, ex93⟩ : ∃ y : Int32, y = x4 + 1 := ⟨_, rfl⟩
                    have tx93 : x93.toInt = x4.toInt + 1 := (jadd ex93 rfl jz_1 (by omega) (by omega)).trans (by omega)
                    refine lv_iinc (v := x93) (lv' := [(4, .int x93), (3, .int r90), (5, .int x73), (6, .int x73), (0, .ref (ad 31)), (1, .int a1), (2, .int a2)]) hx hb dX1_trimmed_84 hl (k := 3) rfl (by rw [ex93]; rfl) (of_decide_eq_true rfl) rfl (fun ls hl => ?_)
                    refine lv_goto (tgt := 5) hx hb dX1_trimmed_87 (of_decide_eq_true rfl) ?_
                    exact by exact ihlp1 r90 x93 _ _ ls (by have h91 := tx93; omega) (by have h91 := tx93; omega) (by have h91 := tx93; omega)    hP hS (lv_sub hl [0, 1, 4, 5, 6] rfl)
            · have kc74 := jne c74 rfl jz_0
              exact by
               refine lv_iload_n hx hb dX1_trimmed_46 rfl (lv_at hl 6 rfl) ?_
               refine lv_iconst (v := 1) hx hb dX1_trimmed_47 (of_decide_eq_true rfl) ?_
               refine lv_icmp_gt (tgt := 71) hx hb dX1_trimmed_48 (of_decide_eq_true rfl) (fun c94 => ?_) (fun c94 => ?_)
               · have kc94 := jlt c94 jz_1 t2
                 refine lv_iload hx hb dX1_trimmed_71 (lv_at hl 1 rfl) ?_
                 refine lv_if_ne (tgt := 84) hx hb dX1_trimmed_73 (of_decide_eq_true rfl) (fun c95 => ?_) (fun c95 => ?_)
                 · have kc95 := jne c95 rfl jz_0
                   obtain ⟨x96, ex96⟩ : ∃ y : Int32, y = x4 + 1 := ⟨_, rfl⟩
                   have tx96 : x96.toInt = x4.toInt + 1 := (jadd ex96 rfl jz_1 (by omega) (by omega)).trans (by omega)
                   exact by
                    refine lv_iinc (v := x96) (lv' := [(4, .int x96), (6, .int x73), (5, .int r14), (3, .int x3), (0, .ref (ad 31)), (1, .int a1), (2, .int a2)]) hx hb dX1_trimmed_84 hl (k := 2) rfl (by rw [ex96]; rfl) (of_decide_eq_true rfl) rfl (fun ls hl => ?_)
                    refine lv_goto (tgt := 5) hx hb dX1_trimmed_87 (of_decide_eq_true rfl) ?_
                    exact by exact ihlp1 x3 x96 _ _ ls (by have h91 := tx96; omega) (by have h91 := tx96; omega) (by have h91 := tx96; omega)    hP hS (lv_sub hl [0, 3, 4, 5, 6] rfl)
                 · have kc95 := jeq c95 rfl jz_0
                   refine lv_iload_n hx hb dX1_trimmed_76 rfl (lv_at hl 3 rfl) ?_
                   refine lv_iload hx hb dX1_trimmed_77 (lv_at hl 2 rfl) ?_
                   refine lv_iconst (v := 0) hx hb dX1_trimmed_79 (of_decide_eq_true rfl) ?_
                   refine jcallS (As := [.int x3, .int x4, .int 0]) (rest := []) ⟨hx, hb, hml, hown, hts⟩ hK hP hA hS hZ (c_X0_withSteps l D cI cL ad zz hJ σ τ x3 (x3.toInt) rfl x4 (x4.toInt) rfl 0 (0) jz_0) cw_RX1_133 ⟨Nat.le_of_ble_eq_true rfl, Nat.le_of_ble_eq_true rfl⟩ rfl rfl rfl hl.1 rfl (Nat.le_of_ble_eq_true rfl) dX1_trimmed_80 ⟨Nat.zero_le _, Nat.zero_le _⟩ (fun r98 σ97 τ97 H locs h97 hP hS => ?_)
                   obtain ⟨⟨rfl, rfl⟩, w99, h97⟩ := h97
                   have k100 := congrArg Int32.toInt w99
                   refine lv_istore_n (lv' := [(3, .int r98), (6, .int x73), (5, .int r14), (4, .int x4), (0, .ref (ad 31)), (1, .int a1), (2, .int a2)]) hx hb dX1_trimmed_83 rfl hl (of_decide_eq_true rfl) rfl (fun ls hl => ?_)
                   obtain ⟨x101, ex101⟩ : ∃ y : Int32, y = x4 + 1 := ⟨_, rfl⟩
                   exact by
                    have tx101 : x101.toInt = x4.toInt + 1 := (jadd ex101 rfl jz_1 (by omega) (by omega)).trans (by omega)
                    refine lv_iinc (v := x101) (lv' := [(4, .int x101), (3, .int r98), (6, .int x73), (5, .int r14), (0, .ref (ad 31)), (1, .int a1), (2, .int a2)]) hx hb dX1_trimmed_84 hl (k := 3) rfl (by rw [ex101]; rfl) (of_decide_eq_true rfl) rfl (fun ls hl => ?_)
                    refine lv_goto (tgt := 5) hx hb dX1_trimmed_87 (of_decide_eq_true rfl) ?_
                    exact by exact ihlp1 r98 x101 _ _ ls (by have h91 := tx101; omega) (by have h91 := tx101; omega) (by have h91 := tx101; omega)    hP hS (lv_sub hl [0, 1, 4, 5, 6] rfl)
               · have kc94 := jnlt c94 jz_1 t2
                 refine lv_iload hx hb dX1_trimmed_51 (lv_at hl 1 rfl) ?_
                 refine lv_iload hx hb dX1_trimmed_53 (lv_at hl 0 rfl) ?_
                 refine lv_icmp_le (tgt := 71) hx hb dX1_trimmed_55 (of_decide_eq_true rfl) (fun c102 => ?_) (fun c102 => ?_)
                 · have kc102 := jle c102 rfl rfl
                   exact by
                    refine lv_iload hx hb dX1_trimmed_71 (lv_at hl 1 rfl) ?_
                    refine lv_if_ne (tgt := 84) hx hb dX1_trimmed_73 (of_decide_eq_true rfl) (fun c103 => ?_) (fun c103 => ?_)
                    · have kc103 := jne c103 rfl jz_0
                      obtain ⟨x104, ex104⟩ : ∃ y : Int32, y = x4 + 1 := ⟨_, rfl⟩
                      have tx104 : x104.toInt = x4.toInt + 1 := (jadd ex104 rfl jz_1 (by omega) (by omega)).trans (by omega)
                      refine lv_iinc (v := x104) (lv' := [(4, .int x104), (6, .int x73), (5, .int r14), (3, .int x3), (0, .ref (ad 31)), (1, .int a1), (2, .int a2)]) hx hb dX1_trimmed_84 hl (k := 2) rfl (by rw [ex104]; rfl) (of_decide_eq_true rfl) rfl (fun ls hl => ?_)
                      refine lv_goto (tgt := 5) hx hb dX1_trimmed_87 (of_decide_eq_true rfl) ?_
                      exact by exact ihlp1 x3 x104 _ _ ls (by have h91 := tx104; omega) (by have h91 := tx104; omega) (by have h91 := tx104; omega)    hP hS (lv_sub hl [0, 3, 4, 5, 6] rfl)
                    · have kc103 := jeq c103 rfl jz_0
                      exact by
                       refine lv_iload_n hx hb dX1_trimmed_76 rfl (lv_at hl 3 rfl) ?_
                       refine lv_iload hx hb dX1_trimmed_77 (lv_at hl 2 rfl) ?_
                       refine lv_iconst (v := 0) hx hb dX1_trimmed_79 (of_decide_eq_true rfl) ?_
                       refine jcallS (As := [.int x3, .int x4, .int 0]) (rest := []) ⟨hx, hb, hml, hown, hts⟩ hK hP hA hS hZ (c_X0_withSteps l D cI cL ad zz hJ σ τ x3 (x3.toInt) rfl x4 (x4.toInt) rfl 0 (0) jz_0) cw_RX1_133 ⟨Nat.le_of_ble_eq_true rfl, Nat.le_of_ble_eq_true rfl⟩ rfl rfl rfl hl.1 rfl (Nat.le_of_ble_eq_true rfl) dX1_trimmed_80 ⟨Nat.zero_le _, Nat.zero_le _⟩ (fun r106 σ105 τ105 H locs h105 hP hS => ?_)
                       obtain ⟨⟨rfl, rfl⟩, w107, h105⟩ := h105
                       have k108 := congrArg Int32.toInt w107
                       refine lv_istore_n (lv' := [(3, .int r106), (6, .int x73), (5, .int r14), (4, .int x4), (0, .ref (ad 31)), (1, .int a1), (2, .int a2)]) hx hb dX1_trimmed_83 rfl hl (of_decide_eq_true rfl) rfl (fun ls hl => ?_)
                       obtain ⟨x109, ex109⟩ : ∃ y : Int32, y = x4 + 1 := ⟨_, rfl⟩
                       have tx109 : x109.toInt = x4.toInt + 1 := (jadd ex109 rfl jz_1 (by omega) (by omega)).trans (by omega)
                       exact by
                        refine lv_iinc (v := x109) (lv' := [(4, .int x109), (3, .int r106), (6, .int x73), (5, .int r14), (0, .ref (ad 31)), (1, .int a1), (2, .int a2)]) hx hb dX1_trimmed_84 hl (k := 3) rfl (by rw [ex109]; rfl) (of_decide_eq_true rfl) rfl (fun ls hl => ?_)
                        refine lv_goto (tgt := 5) hx hb dX1_trimmed_87 (of_decide_eq_true rfl) ?_
                        exact by exact ihlp1 r106 x109 _ _ ls (by have h91 := tx109; omega) (by have h91 := tx109; omega) (by have h91 := tx109; omega)    hP hS (lv_sub hl [0, 1, 4, 5, 6] rfl)
                 · have kc102 := jnle c102 rfl rfl
                   refine lv_iload hx hb dX1_trimmed_58 (lv_at hl 0 rfl) ?_
                   refine lv_istore (lv' := [(5, .int x73), (6, .int x73), (4, .int x4), (3, .int x3), (0, .ref (ad 31)), (1, .int a1), (2, .int a2)]) hx hb dX1_trimmed_60 hl (of_decide_eq_true rfl) rfl (fun ls hl => ?_)
                   refine lv_iload_n hx hb dX1_trimmed_62 rfl (lv_at hl 3 rfl) ?_
                   refine lv_iload hx hb dX1_trimmed_63 (lv_at hl 2 rfl) ?_
                   refine lv_iload hx hb dX1_trimmed_65 (lv_at hl 0 rfl) ?_
                   refine jcallS (As := [.int x3, .int x4, .int x73]) (rest := []) ⟨hx, hb, hml, hown, hts⟩ hK hP hA hS hZ (c_X0_withLeft l D cI cL ad zz hJ σ τ x3 (x3.toInt) rfl x4 (x4.toInt) rfl x73 (x73.toInt) rfl) cw_RX1_129 ⟨Nat.le_of_ble_eq_true rfl, Nat.le_of_ble_eq_true rfl⟩ rfl rfl rfl hl.1 rfl (Nat.le_of_ble_eq_true rfl) dX1_trimmed_67 ⟨Nat.zero_le _, Nat.zero_le _⟩ (fun r111 σ110 τ110 H locs h110 hP hS => ?_)
                   obtain ⟨⟨rfl, rfl⟩, w112, h110⟩ := h110
                   have k113 := congrArg Int32.toInt w112
                   refine lv_istore_n (lv' := [(3, .int r111), (5, .int x73), (6, .int x73), (4, .int x4), (0, .ref (ad 31)), (1, .int a1), (2, .int a2)]) hx hb dX1_trimmed_70 rfl hl (of_decide_eq_true rfl) rfl (fun ls hl => ?_)
                   refine lv_iload hx hb dX1_trimmed_71 (lv_at hl 1 rfl) ?_
                   refine lv_if_ne (tgt := 84) hx hb dX1_trimmed_73 (of_decide_eq_true rfl) (fun c114 => ?_) (fun c114 => ?_)
                   · have kc114 := jne c114 rfl jz_0
                     obtain ⟨x115, ex115⟩ : ∃ y : Int32, y = x4 + 1 := ⟨_, rfl⟩
                     exact by
                      have tx115 : x115.toInt = x4.toInt + 1 := (jadd ex115 rfl jz_1 (by omega) (by omega)).trans (by omega)
                      refine lv_iinc (v := x115) (lv' := [(4, .int x115), (3, .int r111), (5, .int x73), (6, .int x73), (0, .ref (ad 31)), (1, .int a1), (2, .int a2)]) hx hb dX1_trimmed_84 hl (k := 3) rfl (by rw [ex115]; rfl) (of_decide_eq_true rfl) rfl (fun ls hl => ?_)
                      refine lv_goto (tgt := 5) hx hb dX1_trimmed_87 (of_decide_eq_true rfl) ?_
                      exact by exact ihlp1 r111 x115 _ _ ls (by have h91 := tx115; omega) (by have h91 := tx115; omega) (by have h91 := tx115; omega)    hP hS (lv_sub hl [0, 1, 4, 5, 6] rfl)
                   · have kc114 := jeq c114 rfl jz_0
                     refine lv_iload_n hx hb dX1_trimmed_76 rfl (lv_at hl 0 rfl) ?_
                     refine lv_iload hx hb dX1_trimmed_77 (lv_at hl 3 rfl) ?_
                     refine lv_iconst (v := 0) hx hb dX1_trimmed_79 (of_decide_eq_true rfl) ?_
                     refine jcallS (As := [.int r111, .int x4, .int 0]) (rest := []) ⟨hx, hb, hml, hown, hts⟩ hK hP hA hS hZ (c_X0_withSteps l D cI cL ad zz hJ σ τ r111 (r111.toInt) rfl x4 (x4.toInt) rfl 0 (0) jz_0) cw_RX1_133 ⟨Nat.le_of_ble_eq_true rfl, Nat.le_of_ble_eq_true rfl⟩ rfl rfl rfl hl.1 rfl (Nat.le_of_ble_eq_true rfl) dX1_trimmed_80 ⟨Nat.zero_le _, Nat.zero_le _⟩ (fun r117 σ116 τ116 H locs h116 hP hS => ?_)
                     exact by
                      obtain ⟨⟨rfl, rfl⟩, w118, h116⟩ := h116
                      have k119 := congrArg Int32.toInt w118
                      refine lv_istore_n (lv' := [(3, .int r117), (5, .int x73), (6, .int x73), (4, .int x4), (0, .ref (ad 31)), (1, .int a1), (2, .int a2)]) hx hb dX1_trimmed_83 rfl hl (of_decide_eq_true rfl) rfl (fun ls hl => ?_)
                      obtain ⟨x120, ex120⟩ : ∃ y : Int32, y = x4 + 1 := ⟨_, rfl⟩
                      have tx120 : x120.toInt = x4.toInt + 1 := (jadd ex120 rfl jz_1 (by omega) (by omega)).trans (by omega)
                      refine lv_iinc (v := x120) (lv' := [(4, .int x120), (3, .int r117), (5, .int x73), (6, .int x73), (0, .ref (ad 31)), (1, .int a1), (2, .int a2)]) hx hb dX1_trimmed_84 hl (k := 3) rfl (by rw [ex120]; rfl) (of_decide_eq_true rfl) rfl (fun ls hl => ?_)
                      refine lv_goto (tgt := 5) hx hb dX1_trimmed_87 (of_decide_eq_true rfl) ?_
                      exact by exact ihlp1 r117 x120 _ _ ls (by have h91 := tx120; omega) (by have h91 := tx120; omega) (by have h91 := tx120; omega)    hP hS (lv_sub hl [0, 1, 4, 5, 6] rfl)
  exact by exact lp1 1000000 a1 0 _ _ ls (by have h90 := t1; have h91 := jz_0; omega) (by have h90 := t1; have h91 := jz_0; omega) (by have h90 := t1; have h91 := jz_0; omega)   hP hS hl
set_option maxHeartbeats 4000000 in
set_option maxRecDepth 100000 in
theorem c_X1_add_31 (l : Launch) (D : va_G) (cI cL : ClassId) (ad zz : Nat → Nat) (hJ : jD ad) (σ : Nat → Nat → Int32) (τ : Nat → Nat → Int64) (a1 : Int32) (A1 : Int) (t1 : a1.toInt = A1) (a2 : Int32) (A2 : Int) (t2 : a2.toInt = A2) (hI31 : jI31 σ) (hs_jKb : jKb σ) (hs_jKh : jKh σ) (hp0 : 0 ≤ A1 ∧ A1 ≤ 134217727) (hp1 : 0 ≤ A2 ∧ A2 ≤ 8) : jM l yX1_add cX1_add 5 (some .int) ({ frames := 2, cells := 0, slots := 0, locals := 49 }) D cI cL ad zz [.ref (ad 31), .int a1, .int a2] σ τ (fun r σ' τ' => τ = τ' ∧ (∀ i : Nat, (i < 31 ∨ 32 < i) ∧ (i < 36 ∨ 37 < i) → σ' i = σ i) ∧ (∀ k : Nat, (k < 8 ∨ 8 < k) → σ' 31 k = σ 31 k) ∧ (jI31 σ') ∧ (jKb σ') ∧ (jKh σ') ∧ (jqAd (σ 31 8).toInt (σ' 31 8).toInt (σ 32) (σ' 32) (σ 31 11).toInt (A2) (decide ((σ 31 12).toInt ≠ 0)) a1 r.toInt) ∧ ((True ∧ (0 ≤ r.toInt ∧ r.toInt ≤ 350)))) := by
  refine jM.of hJ (by decide +kernel) (nt := .int) rfl (Nat.le_of_ble_eq_true rfl) ?_
  intro p e s m args below meth c Q ls hC hret hl hP
  obtain ⟨hx, hb, hr, hml, hown, hts, hK, -, hlocks, hZ⟩ := hC
  have hown : s.vm.findClass RX1 = some m.cls := hown
  have hS : va_S (jA ad) s.heap s.heap [] := va_S.rf
  have hA : ∀ q, jA ad q → jA ad q := fun _ h => h
  have hl : lv_has ls 5 [(0, .ref (ad 31)), (1, .int a1), (2, .int a2)] := hl
  have g1 := jrg t1
  have g2 := jrg t2
  obtain ⟨i1, i2, i3, i4, w5, w6, w7⟩ : (0 ≤ (σ 31 8).toInt ∧ (σ 31 8).toInt ≤ 350) ∧ (0 ≤ (σ 31 10).toInt ∧ (σ 31 10).toInt ≤ 12) ∧ (0 ≤ (σ 31 11).toInt ∧ (σ 31 11).toInt ≤ 8) ∧ ((σ 31 10).toInt + (σ 31 11).toInt ≤ 12) ∧ (∀ k : Nat, k < 1400 → (-1) ≤ (σ 33 k).toInt ∧ (σ 33 k).toInt ≤ 350) ∧ (∀ k : Nat, k < 3159 → (-1) ≤ (σ 35 k).toInt ∧ (σ 35 k).toInt ≤ 3) ∧ (∀ k : Nat, k < 1024 → 0 ≤ (σ 36 k).toInt ∧ (σ 36 k).toInt ≤ 349) := id hI31
  refine lv_iload_n hx hb dX1_add_0 rfl (lv_at hl 2 rfl) ?_
  refine lv_aload_n hx hb dX1_add_1 rfl (lv_at hl 0 rfl) ?_
  refine va_get (D := D) hx hb hts inlX1 hown hK hP 31 (jc_31 cI cL ad σ τ) rfl 11 (of_decide_eq_true rfl) (hts _ kw_28_7) (fun _ h9 => h9) rfl dX1_add_2 ?_
  refine lv_icmp_lt (tgt := 12) hx hb dX1_add_5 (of_decide_eq_true rfl) (fun c8 => ?_) (fun c8 => ?_)
  · have kc8 := jlt c8 t2 rfl
    refine lv_aload_n hx hb dX1_add_12 rfl (lv_at hl 0 rfl) ?_
    refine lv_iload_n hx hb dX1_add_13 rfl (lv_at hl 1 rfl) ?_
    refine lv_aload_n hx hb dX1_add_14 rfl (lv_at hl 0 rfl) ?_
    refine va_get (D := D) hx hb hts inlX1 hown hK hP 31 (jc_31 cI cL ad σ τ) rfl 11 (of_decide_eq_true rfl) (hts _ kw_28_7) (fun _ h9 => h9) rfl dX1_add_15 ?_
    refine lv_iload_n hx hb dX1_add_18 rfl (lv_at hl 2 rfl) ?_
    have g9 := jrg (rfl : (σ 31 11).toInt = (σ 31 11).toInt)
    refine lv_isub hx hb dX1_add_19 ?_
    refine lv_topi (fun x10 ex10 => ?_)
    exact by
     have tx10 : x10.toInt = (σ 31 11).toInt - A2 := (jsub ex10 rfl t2 (by omega) (by omega)).trans (by omega)
     refine jcallV (As := [.int a1, .int x10]) (rest := []) ⟨hx, hb, hml, hown, hts⟩ hK hP hA hS hZ (c_X1_trimmed_r l D cI cL ad zz hJ σ τ a1 (A1) t1 x10 ((σ 31 11).toInt - A2) tx10 (by omega) (by omega) (by omega)) cw_RX1_71 (jc_31 cI cL ad σ τ) rfl ⟨Nat.le_of_ble_eq_true rfl, Nat.le_of_ble_eq_true rfl⟩ rfl rfl rfl hl.1 rfl (Nat.le_of_ble_eq_true rfl) dX1_add_20 ⟨Nat.zero_le _, Nat.zero_le _⟩ (fun r12 σ11 τ11 H locs h11 hP hS => ?_)
     obtain ⟨⟨rfl, rfl⟩, w13, h11⟩ := h11
     have h14 := h11
     obtain ⟨q16, k15⟩ := h14
     refine lv_iload_n hx hb dX1_add_23 rfl (lv_at hl 2 rfl) ?_
     refine lv_bipush (v := 27) hx hb dX1_add_24 (of_decide_eq_true rfl) ?_
     refine lv_ishl hx hb dX1_add_26 ?_
     refine lv_topi (fun x17 ex17 => ?_)
     exact by
      have gx17 := jrg (rfl : x17.toInt = x17.toInt)
      refine lv_ior hx hb dX1_add_27 ?_
      refine lv_topi (fun x18 ex18 => ?_)
      have gx18 := jrg (rfl : x18.toInt = x18.toInt)
      have k19 := jor27 (x := x18) (a := r12) (d := a2) (by rw [ex18, ex17]) (by omega) (by omega) (by have h9 := t2; omega) (by have h9 := t2; omega)
      rw [t2] at k19
      refine lv_istore_n (lv' := [(3, .int x18), (0, .ref (ad 31)), (1, .int a1), (2, .int a2)]) hx hb dX1_add_28 rfl hl (of_decide_eq_true rfl) rfl (fun ls hl => ?_)
      refine lv_aload_n hx hb dX1_add_29 rfl (lv_at hl 1 rfl) ?_
      refine lv_iload_n hx hb dX1_add_30 rfl (lv_at hl 0 rfl) ?_
      exact by
       refine jcallV (As := [.int x18]) (rest := []) ⟨hx, hb, hml, hown, hts⟩ hK hP hA hS hZ (c_X1_slotFor_31 l D cI cL ad zz hJ σ τ x18 (x18.toInt) rfl hI31) cw_RX1_77 (jc_31 cI cL ad σ τ) rfl ⟨Nat.le_of_ble_eq_true rfl, Nat.le_of_ble_eq_true rfl⟩ rfl rfl rfl hl.1 rfl (Nat.le_of_ble_eq_true rfl) dX1_add_31 ⟨Nat.zero_le _, Nat.zero_le _⟩ (fun r21 σ20 τ20 H locs h20 hP hS => ?_)
       obtain ⟨⟨rfl, rfl⟩, w22, h20⟩ := h20
       have h23 := h20
       obtain ⟨q25, k24⟩ := h23
       refine lv_istore (lv' := [(4, .int r21), (3, .int x18), (0, .ref (ad 31)), (1, .int a1), (2, .int a2)]) hx hb dX1_add_34 hl (of_decide_eq_true rfl) rfl (fun ls hl => ?_)
       refine lv_iload hx hb dX1_add_36 (lv_at hl 0 rfl) ?_
       refine lv_if_ge (tgt := 45) hx hb dX1_add_38 (of_decide_eq_true rfl) (fun c26 => ?_) (fun c26 => ?_)
       · have kc26 := jle c26 jz_0 rfl
         refine lv_aload_n hx hb dX1_add_45 rfl (lv_at hl 2 rfl) ?_
         refine lv_iload hx hb dX1_add_46 (lv_at hl 0 rfl) ?_
         exact by
          refine jcallV (As := [.int r21]) (rest := []) ⟨hx, hb, hml, hown, hts⟩ hK hP hA hS hZ (c_X1_isTaken_31 l D cI cL ad zz hJ σ τ r21 (r21.toInt) rfl hI31 (by omega)) cw_RX1_81 (jc_31 cI cL ad σ τ) rfl ⟨Nat.le_of_ble_eq_true rfl, Nat.le_of_ble_eq_true rfl⟩ rfl rfl rfl hl.1 rfl (Nat.le_of_ble_eq_true rfl) dX1_add_48 ⟨Nat.zero_le _, Nat.zero_le _⟩ (fun r28 σ27 τ27 H locs h27 hP hS => ?_)
          obtain ⟨⟨rfl, rfl⟩, h27⟩ := h27
          rcases h27 with h29 | h30
          · obtain ⟨q32, k31⟩ := h29
            have q32 := q32.symm
            subst q32
            refine lv_if_eq (tgt := 62) hx hb dX1_add_51 (of_decide_eq_true rfl) (fun c => absurd c (of_decide_eq_true rfl)) (fun _ => ?_)
            refine lv_aload_n hx hb dX1_add_54 rfl (lv_at hl 2 rfl) ?_
            refine va_get (D := D) hx hb hts inlX1 hown hK hP 31 (jc_31 cI cL ad σ τ) rfl 6 (of_decide_eq_true rfl) (hts _ kw_5_7) (fun _ h9 => h9) rfl dX1_add_55 ?_
            refine lv_iload hx hb dX1_add_58 (lv_at hl 0 rfl) ?_
            exact by
             refine jald hx hb hK hP (jc_36 cI cL ad σ τ) (jin rfl (by omega) (by omega)) dX1_add_60 ?_
             have g33 := w7 _ (jnat (x := r21) rfl (n := 1024) (by omega) (of_decide_eq_true rfl))
             refine jtopr (y := (σ 36 r21.toNatClampNeg)) rfl ?_
             exact by exact hret (σ 36 r21.toNatClampNeg) σ τ _ _ _ _ rfl ⟨rfl, (fun _ _ => rfl), (fun _ _ => rfl), hI31, hs_jKb, hs_jKh, (jqAd.old (t := r12) (y := x18) (by omega) (by omega) w13 (by omega) (by omega) w22 (by omega) k31 rfl (by omega)), ⟨trivial, (by omega)⟩⟩ hP hS dX1_add_61
          · obtain ⟨q35, k34⟩ := h30
            have q35 := q35.symm
            subst q35
            refine lv_if_eq (tgt := 62) hx hb dX1_add_51 (of_decide_eq_true rfl) (fun _ => ?_) (fun c => absurd (of_decide_eq_true rfl) c)
            refine lv_aload_n hx hb dX1_add_62 rfl (lv_at hl 2 rfl) ?_
            exact by
             refine va_get (D := D) hx hb hts inlX1 hown hK hP 31 (jc_31 cI cL ad σ τ) rfl 8 (of_decide_eq_true rfl) (hts _ kw_27_22) (fun _ h9 => h9) rfl dX1_add_63 ?_
             refine lv_sipush (v := 350) hx hb dX1_add_66 (of_decide_eq_true rfl) ?_
             refine lv_icmp_lt (tgt := 76) hx hb dX1_add_69 (of_decide_eq_true rfl) (fun c36 => ?_) (fun c36 => ?_)
             · have kc36 := jlt c36 rfl jz_350
               refine lv_aload_n hx hb dX1_add_76 rfl (lv_at hl 2 rfl) ?_
               refine va_get (D := D) hx hb hts inlX1 hown hK hP 31 (jc_31 cI cL ad σ τ) rfl 2 (of_decide_eq_true rfl) (hts _ kw_5_3) (fun _ h9 => h9) rfl dX1_add_77 ?_
               refine lv_aload_n hx hb dX1_add_80 rfl (lv_at hl 2 rfl) ?_
               refine va_get (D := D) hx hb hts inlX1 hown hK hP 31 (jc_31 cI cL ad σ τ) rfl 8 (of_decide_eq_true rfl) (hts _ kw_27_22) (fun _ h9 => h9) rfl dX1_add_81 ?_
               refine lv_iload_n hx hb dX1_add_84 rfl (lv_at hl 1 rfl) ?_
               exact by
                refine jast hx hb hK hP hJ hA hS (jc_32 cI cL ad σ τ) (ja_32 cI cL ad σ τ _ _) (jin rfl (by omega) (by omega)) dX1_add_85 (fun σ37 H locs eσ37 hP hS => ?_)
                refine lv_aload_n hx hb dX1_add_86 rfl (lv_at hl 2 rfl) ?_
                refine va_get (D := D) hx hb hts inlX1 hown hK hP 31 (jc_31 cI cL ad σ37 τ) rfl 7 (of_decide_eq_true rfl) (hts _ kw_5_8) (fun _ h9 => h9) rfl dX1_add_87 ?_
                refine lv_aload_n hx hb dX1_add_90 rfl (lv_at hl 2 rfl) ?_
                refine va_get (D := D) hx hb hts inlX1 hown hK hP 31 (jc_31 cI cL ad σ37 τ) rfl 8 (of_decide_eq_true rfl) (hts _ kw_27_22) (fun _ h9 => h9) rfl dX1_add_91 ?_
                have m38 : σ37 31 8 = (σ 31 8) := (congrFun (jnp 31 eσ37 (of_decide_eq_true rfl)) 8)
                refine jtopr m38 ?_
                refine lv_iload hx hb dX1_add_94 (lv_at hl 0 rfl) ?_
                refine jast hx hb hK hP hJ hA hS (jc_37 cI cL ad σ37 τ) (ja_37 cI cL ad σ37 τ _ _) (jin rfl (by omega) (by omega)) dX1_add_96 (fun σ39 H locs eσ39 hP hS => ?_)
                exact by
                 refine lv_aload_n hx hb dX1_add_97 rfl (lv_at hl 2 rfl) ?_
                 refine va_get (D := D) hx hb hts inlX1 hown hK hP 31 (jc_31 cI cL ad σ39 τ) rfl 6 (of_decide_eq_true rfl) (hts _ kw_5_7) (fun _ h9 => h9) rfl dX1_add_98 ?_
                 refine lv_iload hx hb dX1_add_101 (lv_at hl 0 rfl) ?_
                 refine lv_aload_n hx hb dX1_add_103 rfl (lv_at hl 2 rfl) ?_
                 refine va_get (D := D) hx hb hts inlX1 hown hK hP 31 (jc_31 cI cL ad σ39 τ) rfl 8 (of_decide_eq_true rfl) (hts _ kw_27_22) (fun _ h9 => h9) rfl dX1_add_104 ?_
                 have m40 : σ39 31 8 = (σ 31 8) := ((congrFun (jnp 31 eσ39 (of_decide_eq_true rfl)) 8).trans m38)
                 refine jtopr m40 ?_
                 refine jast hx hb hK hP hJ hA hS (jc_36 cI cL ad σ39 τ) (ja_36 cI cL ad σ39 τ _ _) (jin rfl (by omega) (by omega)) dX1_add_107 (fun σ41 H locs eσ41 hP hS => ?_)
                 refine lv_aload_n hx hb dX1_add_108 rfl (lv_at hl 2 rfl) ?_
                 exact by
                  refine lv_dup hx hb dX1_add_109 rfl ?_
                  refine va_get (D := D) hx hb hts inlX1 hown hK hP 31 (jc_31 cI cL ad σ41 τ) rfl 8 (of_decide_eq_true rfl) (hts _ kw_27_22) (fun _ h9 => h9) rfl dX1_add_110 ?_
                  have m42 : σ41 31 8 = (σ 31 8) := ((congrFun (jnp 31 eσ41 (of_decide_eq_true rfl)) 8).trans m40)
                  refine jtopr m42 ?_
                  refine lv_dup_x1 hx hb dX1_add_113 rfl rfl ?_
                  refine lv_iconst (v := 1) hx hb dX1_add_114 (of_decide_eq_true rfl) ?_
                  have g43 := jrg (rfl : (σ 31 8).toInt = (σ 31 8).toInt)
                  refine lv_iadd hx hb dX1_add_115 ?_
                  refine lv_topi (fun x44 ex44 => ?_)
                  exact by
                   have tx44 : x44.toInt = (σ 31 8).toInt + 1 := (jadd ex44 rfl jz_1 (by omega) (by omega)).trans (by omega)
                   refine jput (ty := .int) hx hb hts inlX1 tyX1 tyX1_ok nmX1 hown hK hP hJ hA hS (jc_31 cI cL ad σ41 τ) rfl (k := 8) (of_decide_eq_true rfl) (Nat.le_of_ble_eq_true rfl) (jp_31_8 cI cL ad σ41 τ x44) (hts _ kw_27_22) (fun _ h9 => h9) rfl (by decide +kernel) rfl rfl dX1_add_116 (fun σ45 H locs eσ45 hP hS => ?_)
                   have z46 : (σ45 31 8).toInt = (σ 31 8).toInt + 1 := ((congrArg Int32.toInt (show σ45 31 8 = x44 from (jsp eσ45))).trans tx44)
                   have z47 : (σ45 31 11).toInt = (σ 31 11).toInt := (congrArg Int32.toInt (show σ45 31 11 = (σ 31 11) from ((jkp 11 eσ45 (of_decide_eq_true rfl)).trans ((congrFun (jnp 31 eσ41 (of_decide_eq_true rfl)) 11).trans ((congrFun (jnp 31 eσ39 (of_decide_eq_true rfl)) 11).trans (congrFun (jnp 31 eσ37 (of_decide_eq_true rfl)) 11))))))
                   have p48 : jKb σ45 := (jKb.add hs_jKb (by rw [eσ45, jup_n (of_decide_eq_true rfl), eσ41, jup_n (of_decide_eq_true rfl), eσ39, jup_n (of_decide_eq_true rfl), eσ37, jup_row, jnc (show (σ 31 8).toInt = (σ 31 8).toInt by omega)]) (by omega) ((jkp 11 eσ45 (of_decide_eq_true rfl)).trans ((congrFun (jnp 31 eσ41 (of_decide_eq_true rfl)) 11).trans ((congrFun (jnp 31 eσ39 (of_decide_eq_true rfl)) 11).trans (congrFun (jnp 31 eσ37 (of_decide_eq_true rfl)) 11)))) (by omega) (by omega) (by omega))
                   have p49 : jKh σ45 := (show jqHs (σ45 31 8).toInt _ _ _ from jqHs.add hs_jKh w22 (by omega) k34 (by omega) (by rw [eσ45, jup_n (of_decide_eq_true rfl), eσ41, jup_n (of_decide_eq_true rfl), eσ39, jup_n (of_decide_eq_true rfl), eσ37, jup_row, jnc (show (σ 31 8).toInt = (σ 31 8).toInt by omega)]) (by rw [eσ45, jup_n (of_decide_eq_true rfl), eσ41, jup_row, eσ39, jup_n (of_decide_eq_true rfl), eσ37, jup_n (of_decide_eq_true rfl), jnc (show r21.toInt = r21.toInt by omega)]) (by omega) (by rw [eσ45, jup_n (of_decide_eq_true rfl), eσ41, jup_n (of_decide_eq_true rfl), eσ39, jup_row, eσ37, jup_n (of_decide_eq_true rfl), jnc (show (σ 31 8).toInt = (σ 31 8).toInt by omega)]) (by omega) (by omega))
                   have z50 : (σ45 31 10).toInt = (σ 31 10).toInt := (congrArg Int32.toInt (show σ45 31 10 = (σ 31 10) from ((jkp 10 eσ45 (of_decide_eq_true rfl)).trans ((congrFun (jnp 31 eσ41 (of_decide_eq_true rfl)) 10).trans ((congrFun (jnp 31 eσ39 (of_decide_eq_true rfl)) 10).trans (congrFun (jnp 31 eσ37 (of_decide_eq_true rfl)) 10))))))
                   have w51 : ∀ k : Nat, k < 1400 → (-1) ≤ (σ45 33 k).toInt ∧ (σ45 33 k).toInt ≤ 350 := (jrr_fr (jnp 33 eσ45 (of_decide_eq_true rfl)) (jrr_fr (jnp 33 eσ41 (of_decide_eq_true rfl)) (jrr_fr (jnp 33 eσ39 (of_decide_eq_true rfl)) (jrr_fr (jnp 33 eσ37 (of_decide_eq_true rfl)) w5))))
                   have w52 : ∀ k : Nat, k < 3159 → (-1) ≤ (σ45 35 k).toInt ∧ (σ45 35 k).toInt ≤ 3 := (jrr_fr (jnp 35 eσ45 (of_decide_eq_true rfl)) (jrr_fr (jnp 35 eσ41 (of_decide_eq_true rfl)) (jrr_fr (jnp 35 eσ39 (of_decide_eq_true rfl)) (jrr_fr (jnp 35 eσ37 (of_decide_eq_true rfl)) w6))))
                   exact by
                    have w53 : ∀ k : Nat, k < 1024 → 0 ≤ (σ45 36 k).toInt ∧ (σ45 36 k).toInt ≤ 349 := (jrr_fr (jnp 36 eσ45 (of_decide_eq_true rfl)) (by rw [eσ41]; exact jrr_up (jrr_fr (jnp 36 eσ39 (of_decide_eq_true rfl)) (jrr_fr (jnp 36 eσ37 (of_decide_eq_true rfl)) w7)) (by omega) (by omega)))
                    have I54 : jI31 σ45 := ⟨(by omega), (by omega), (by omega), (by omega), w51, w52, w53⟩
                    exact by exact hret (σ 31 8) σ45 τ _ _ _ _ rfl ⟨rfl, (fun i hi => ((jnp i eσ45 (imp_81 i hi)).trans ((jnp i eσ41 (imp_82 i hi)).trans ((jnp i eσ39 (imp_83 i hi)).trans (jnp i eσ37 (imp_84 i hi)))))), (fun i hi => ((jkp i eσ45 (imp_85 i hi)).trans ((congrFun (jnp 31 eσ41 (of_decide_eq_true rfl)) i).trans ((congrFun (jnp 31 eσ39 (of_decide_eq_true rfl)) i).trans (congrFun (jnp 31 eσ37 (of_decide_eq_true rfl)) i))))), I54, p48, p49, (jqAd.new (t := r12) (y := x18) (by omega) (by omega) w13 (by omega) (by omega) (by omega) (by rw [eσ45, jup_n (of_decide_eq_true rfl), eσ41, jup_n (of_decide_eq_true rfl), eσ39, jup_n (of_decide_eq_true rfl), eσ37, jup_row, jnc (show (σ 31 8).toInt = (σ 31 8).toInt by omega)]) (by omega) (by omega) (by omega)), ⟨trivial, (by omega)⟩⟩ hP hS dX1_add_119
             · have kc36 := jnlt c36 rfl jz_350
               refine lv_sipush (v := 350) hx hb dX1_add_72 (of_decide_eq_true rfl) ?_
               exact by exact hret 350 σ τ _ _ _ _ rfl ⟨rfl, (fun _ _ => rfl), (fun _ _ => rfl), hI31, hs_jKb, hs_jKh, (by rw [show (350 : Int32).toInt = 350 from by decide]; exact jqAd.full (t := r12) (by omega) (by omega) w13 (by omega) (by omega) (by omega)), ⟨trivial, (by have h9 := jz_350; omega)⟩⟩ hP hS dX1_add_75
       · have kc26 := jnle c26 jz_0 rfl
         refine lv_sipush (v := 350) hx hb dX1_add_41 (of_decide_eq_true rfl) ?_
         exact by exact hret 350 σ τ _ _ _ _ rfl ⟨rfl, (fun _ _ => rfl), (fun _ _ => rfl), hI31, hs_jKb, hs_jKh, (absurd (w22.full (by omega)) (by omega)), ⟨trivial, (by have h9 := jz_350; omega)⟩⟩ hP hS dX1_add_44
  · exact by
     have kc8 := jnlt c8 t2 rfl
     refine lv_sipush (v := 350) hx hb dX1_add_8 (of_decide_eq_true rfl) ?_
     exact by exact hret 350 σ τ _ _ _ _ rfl ⟨rfl, (fun _ _ => rfl), (fun _ _ => rfl), hI31, hs_jKb, hs_jKh, (by rw [show (350 : Int32).toInt = 350 from by decide]; exact jqAd.out (by omega)), ⟨trivial, (by have h9 := jz_350; omega)⟩⟩ hP hS dX1_add_11
set_option maxHeartbeats 4000000 in
set_option maxRecDepth 100000 in
theorem c_X1_nodeOf_31 (l : Launch) (D : va_G) (cI cL : ClassId) (ad zz : Nat → Nat) (hJ : jD ad) (σ : Nat → Nat → Int32) (τ : Nat → Nat → Int64) (a1 : Int32) (A1 : Int) (t1 : a1.toInt = A1) (a2 : Int32) (A2 : Int) (t2 : a2.toInt = A2) (hI31 : jI31 σ) (hs_jKh : jKh σ) (hp0 : 0 ≤ A1 ∧ A1 ≤ 134217727) (hp1 : 0 ≤ A2 ∧ A2 ≤ 15) : jM l yX1_nodeOf cX1_nodeOf 5 (some .int) ({ frames := 2, cells := 0, slots := 0, locals := 49 }) D cI cL ad zz [.ref (ad 31), .int a1, .int a2] σ τ (fun r σ' τ' => (σ = σ' ∧ τ = τ') ∧ (jqNd σ ((A2) - (σ 31 10).toInt) a1 r.toInt) ∧ ((True ∧ ((-1) ≤ r.toInt ∧ r.toInt ≤ 349)))) := by
  refine jM.of hJ (by decide +kernel) (nt := .int) rfl (Nat.le_of_ble_eq_true rfl) ?_
  intro p e s m args below meth c Q ls hC hret hl hP
  obtain ⟨hx, hb, hr, hml, hown, hts, hK, -, hlocks, hZ⟩ := hC
  have hown : s.vm.findClass RX1 = some m.cls := hown
  have hS : va_S (jA ad) s.heap s.heap [] := va_S.rf
  have hA : ∀ q, jA ad q → jA ad q := fun _ h => h
  have hl : lv_has ls 5 [(0, .ref (ad 31)), (1, .int a1), (2, .int a2)] := hl
  have g1 := jrg t1
  have g2 := jrg t2
  obtain ⟨i1, i2, i3, i4, w5, w6, w7⟩ : (0 ≤ (σ 31 8).toInt ∧ (σ 31 8).toInt ≤ 350) ∧ (0 ≤ (σ 31 10).toInt ∧ (σ 31 10).toInt ≤ 12) ∧ (0 ≤ (σ 31 11).toInt ∧ (σ 31 11).toInt ≤ 8) ∧ ((σ 31 10).toInt + (σ 31 11).toInt ≤ 12) ∧ (∀ k : Nat, k < 1400 → (-1) ≤ (σ 33 k).toInt ∧ (σ 33 k).toInt ≤ 350) ∧ (∀ k : Nat, k < 3159 → (-1) ≤ (σ 35 k).toInt ∧ (σ 35 k).toInt ≤ 3) ∧ (∀ k : Nat, k < 1024 → 0 ≤ (σ 36 k).toInt ∧ (σ 36 k).toInt ≤ 349) := id hI31
  refine lv_iload_n hx hb dX1_nodeOf_0 rfl (lv_at hl 2 rfl) ?_
  refine lv_aload_n hx hb dX1_nodeOf_1 rfl (lv_at hl 0 rfl) ?_
  refine va_get (D := D) hx hb hts inlX1 hown hK hP 31 (jc_31 cI cL ad σ τ) rfl 10 (of_decide_eq_true rfl) (hts _ kw_28_9) (fun _ h9 => h9) rfl dX1_nodeOf_2 ?_
  have g8 := jrg (rfl : (σ 31 10).toInt = (σ 31 10).toInt)
  refine lv_isub hx hb dX1_nodeOf_5 ?_
  refine lv_topi (fun x9 ex9 => ?_)
  exact by
   have tx9 : x9.toInt = A2 - (σ 31 10).toInt := (jsub ex9 t2 rfl (by omega) (by omega)).trans (by omega)
   refine lv_istore_n (lv' := [(3, .int x9), (0, .ref (ad 31)), (1, .int a1), (2, .int a2)]) hx hb dX1_nodeOf_6 rfl hl (of_decide_eq_true rfl) rfl (fun ls hl => ?_)
   refine lv_iload_n hx hb dX1_nodeOf_7 rfl (lv_at hl 0 rfl) ?_
   refine lv_if_lt (tgt := 19) hx hb dX1_nodeOf_8 (of_decide_eq_true rfl) (fun c10 => ?_) (fun c10 => ?_)
   · have kc10 := jlt c10 tx9 jz_0
     refine lv_iconst (v := (-1)) hx hb dX1_nodeOf_19 (of_decide_eq_true rfl) ?_
     exact by exact hret (-1) σ τ _ _ _ _ rfl ⟨⟨rfl, rfl⟩, (jqNd.out (by omega)), ⟨trivial, (by have h9 := jz_m1; omega)⟩⟩ hP hS dX1_nodeOf_20
   · have kc10 := jnlt c10 tx9 jz_0
     refine lv_iload_n hx hb dX1_nodeOf_11 rfl (lv_at hl 0 rfl) ?_
     refine lv_aload_n hx hb dX1_nodeOf_12 rfl (lv_at hl 1 rfl) ?_
     refine va_get (D := D) hx hb hts inlX1 hown hK hP 31 (jc_31 cI cL ad σ τ) rfl 11 (of_decide_eq_true rfl) (hts _ kw_28_7) (fun _ h9 => h9) rfl dX1_nodeOf_13 ?_
     refine lv_icmp_lt (tgt := 21) hx hb dX1_nodeOf_16 (of_decide_eq_true rfl) (fun c11 => ?_) (fun c11 => ?_)
     · have kc11 := jlt c11 tx9 rfl
       refine lv_aload_n hx hb dX1_nodeOf_21 rfl (lv_at hl 1 rfl) ?_
       refine lv_aload_n hx hb dX1_nodeOf_22 rfl (lv_at hl 1 rfl) ?_
       refine lv_iload_n hx hb dX1_nodeOf_23 rfl (lv_at hl 2 rfl) ?_
       refine lv_aload_n hx hb dX1_nodeOf_24 rfl (lv_at hl 1 rfl) ?_
       refine va_get (D := D) hx hb hts inlX1 hown hK hP 31 (jc_31 cI cL ad σ τ) rfl 11 (of_decide_eq_true rfl) (hts _ kw_28_7) (fun _ h9 => h9) rfl dX1_nodeOf_25 ?_
       refine lv_iload_n hx hb dX1_nodeOf_28 rfl (lv_at hl 0 rfl) ?_
       have g12 := jrg (rfl : (σ 31 11).toInt = (σ 31 11).toInt)
       refine lv_isub hx hb dX1_nodeOf_29 ?_
       refine lv_topi (fun x13 ex13 => ?_)
       exact by
        have tx13 : x13.toInt = (σ 31 11).toInt - A2 + (σ 31 10).toInt := (jsub ex13 rfl tx9 (by omega) (by omega)).trans (by omega)
        refine jcallV (As := [.int a1, .int x13]) (rest := [.ref (ad 31)]) ⟨hx, hb, hml, hown, hts⟩ hK hP hA hS hZ (c_X1_trimmed_r l D cI cL ad zz hJ σ τ a1 (A1) t1 x13 ((σ 31 11).toInt - A2 + (σ 31 10).toInt) tx13 (by omega) (by omega) (by omega)) cw_RX1_71 (jc_31 cI cL ad σ τ) rfl ⟨Nat.le_of_ble_eq_true rfl, Nat.le_of_ble_eq_true rfl⟩ rfl rfl rfl hl.1 rfl (Nat.le_of_ble_eq_true rfl) dX1_nodeOf_30 ⟨Nat.zero_le _, Nat.zero_le _⟩ (fun r15 σ14 τ14 H locs h14 hP hS => ?_)
        obtain ⟨⟨rfl, rfl⟩, w16, h14⟩ := h14
        have h17 := h14
        obtain ⟨q19, k18⟩ := h17
        refine lv_iload_n hx hb dX1_nodeOf_33 rfl (lv_at hl 0 rfl) ?_
        refine lv_bipush (v := 27) hx hb dX1_nodeOf_34 (of_decide_eq_true rfl) ?_
        refine lv_ishl hx hb dX1_nodeOf_36 ?_
        refine lv_topi (fun x20 ex20 => ?_)
        exact by
         have gx20 := jrg (rfl : x20.toInt = x20.toInt)
         refine lv_ior hx hb dX1_nodeOf_37 ?_
         refine lv_topi (fun x21 ex21 => ?_)
         have gx21 := jrg (rfl : x21.toInt = x21.toInt)
         have k22 := jor27 (x := x21) (a := r15) (d := x9) (by rw [ex21, ex20]) (by omega) (by omega) (by have h9 := tx9; omega) (by have h9 := tx9; omega)
         rw [tx9] at k22
         refine jcallV (As := [.int x21]) (rest := []) ⟨hx, hb, hml, hown, hts⟩ hK hP hA hS hZ (c_X1_slotFor_31 l D cI cL ad zz hJ σ τ x21 (x21.toInt) rfl hI31) cw_RX1_77 (jc_31 cI cL ad σ τ) rfl ⟨Nat.le_of_ble_eq_true rfl, Nat.le_of_ble_eq_true rfl⟩ rfl rfl rfl hl.1 rfl (Nat.le_of_ble_eq_true rfl) dX1_nodeOf_38 ⟨Nat.zero_le _, Nat.zero_le _⟩ (fun r24 σ23 τ23 H locs h23 hP hS => ?_)
         obtain ⟨⟨rfl, rfl⟩, w25, h23⟩ := h23
         have h26 := h23
         exact by
          obtain ⟨q28, k27⟩ := h26
          refine lv_istore (lv' := [(4, .int r24), (3, .int x9), (0, .ref (ad 31)), (1, .int a1), (2, .int a2)]) hx hb dX1_nodeOf_41 hl (of_decide_eq_true rfl) rfl (fun ls hl => ?_)
          refine lv_iload hx hb dX1_nodeOf_43 (lv_at hl 0 rfl) ?_
          refine lv_if_lt (tgt := 57) hx hb dX1_nodeOf_45 (of_decide_eq_true rfl) (fun c29 => ?_) (fun c29 => ?_)
          · have kc29 := jlt c29 rfl jz_0
            refine lv_iconst (v := (-1)) hx hb dX1_nodeOf_57 (of_decide_eq_true rfl) ?_
            refine lv_goto (tgt := 68) hx hb dX1_nodeOf_58 (of_decide_eq_true rfl) ?_
            exact by exact hret (-1) σ τ _ _ _ _ rfl ⟨⟨rfl, rfl⟩, (jqNd.of (t := r15) (y := x21) hs_jKh (show jTf _ ((σ 31 11).toInt - ((A2) - (σ 31 10).toInt)) _ _ from by have w9 := w16; rw [show ((σ 31 11).toInt - A2 + (σ 31 10).toInt) = (σ 31 11).toInt - ((A2) - (σ 31 10).toInt) from by omega] at w9; exact w9) (by omega) (by omega) (by omega) w25 (Or.inr (Or.inl (by omega)))), ⟨trivial, (by have h9 := jz_m1; omega)⟩⟩ hP hS dX1_nodeOf_68
          · have kc29 := jnlt c29 rfl jz_0
            refine lv_aload_n hx hb dX1_nodeOf_48 rfl (lv_at hl 2 rfl) ?_
            refine lv_iload hx hb dX1_nodeOf_49 (lv_at hl 0 rfl) ?_
            exact by
             refine jcallV (As := [.int r24]) (rest := []) ⟨hx, hb, hml, hown, hts⟩ hK hP hA hS hZ (c_X1_isTaken_31 l D cI cL ad zz hJ σ τ r24 (r24.toInt) rfl hI31 (by omega)) cw_RX1_81 (jc_31 cI cL ad σ τ) rfl ⟨Nat.le_of_ble_eq_true rfl, Nat.le_of_ble_eq_true rfl⟩ rfl rfl rfl hl.1 rfl (Nat.le_of_ble_eq_true rfl) dX1_nodeOf_51 ⟨Nat.zero_le _, Nat.zero_le _⟩ (fun r31 σ30 τ30 H locs h30 hP hS => ?_)
             obtain ⟨⟨rfl, rfl⟩, h30⟩ := h30
             rcases h30 with h32 | h33
             · obtain ⟨q35, k34⟩ := h32
               have q35 := q35.symm
               subst q35
               refine lv_if_ne (tgt := 61) hx hb dX1_nodeOf_54 (of_decide_eq_true rfl) (fun _ => ?_) (fun c => absurd c (of_decide_eq_true rfl))
               refine lv_aload_n hx hb dX1_nodeOf_61 rfl (lv_at hl 2 rfl) ?_
               refine va_get (D := D) hx hb hts inlX1 hown hK hP 31 (jc_31 cI cL ad σ τ) rfl 6 (of_decide_eq_true rfl) (hts _ kw_5_7) (fun _ h9 => h9) rfl dX1_nodeOf_62 ?_
               refine lv_iload hx hb dX1_nodeOf_65 (lv_at hl 0 rfl) ?_
               exact by
                refine jald hx hb hK hP (jc_36 cI cL ad σ τ) (jin rfl (by omega) (by omega)) dX1_nodeOf_67 ?_
                have g36 := w7 _ (jnat (x := r24) rfl (n := 1024) (by omega) (of_decide_eq_true rfl))
                refine jtopr (y := (σ 36 r24.toNatClampNeg)) rfl ?_
                exact by exact hret (σ 36 r24.toNatClampNeg) σ τ _ _ _ _ rfl ⟨⟨rfl, rfl⟩, (jqNd.of (t := r15) (y := x21) hs_jKh (show jTf _ ((σ 31 11).toInt - ((A2) - (σ 31 10).toInt)) _ _ from by have w9 := w16; rw [show ((σ 31 11).toInt - A2 + (σ 31 10).toInt) = (σ 31 11).toInt - ((A2) - (σ 31 10).toInt) from by omega] at w9; exact w9) (by omega) (by omega) (by omega) w25 (Or.inl ⟨by omega, k34, rfl⟩)), ⟨trivial, (by omega)⟩⟩ hP hS dX1_nodeOf_68
             · obtain ⟨q38, k37⟩ := h33
               have q38 := q38.symm
               subst q38
               refine lv_if_ne (tgt := 61) hx hb dX1_nodeOf_54 (of_decide_eq_true rfl) (fun c => absurd (of_decide_eq_true rfl) c) (fun _ => ?_)
               refine lv_iconst (v := (-1)) hx hb dX1_nodeOf_57 (of_decide_eq_true rfl) ?_
               exact by
                refine lv_goto (tgt := 68) hx hb dX1_nodeOf_58 (of_decide_eq_true rfl) ?_
                exact by exact hret (-1) σ τ _ _ _ _ rfl ⟨⟨rfl, rfl⟩, (jqNd.of (t := r15) (y := x21) hs_jKh (show jTf _ ((σ 31 11).toInt - ((A2) - (σ 31 10).toInt)) _ _ from by have w9 := w16; rw [show ((σ 31 11).toInt - A2 + (σ 31 10).toInt) = (σ 31 11).toInt - ((A2) - (σ 31 10).toInt) from by omega] at w9; exact w9) (by omega) (by omega) (by omega) w25 (Or.inr (Or.inr k37))), ⟨trivial, (by have h9 := jz_m1; omega)⟩⟩ hP hS dX1_nodeOf_68
     · have kc11 := jnlt c11 tx9 rfl
       refine lv_iconst (v := (-1)) hx hb dX1_nodeOf_19 (of_decide_eq_true rfl) ?_
       exact by exact hret (-1) σ τ _ _ _ _ rfl ⟨⟨rfl, rfl⟩, (jqNd.out (by omega)), ⟨trivial, (by have h9 := jz_m1; omega)⟩⟩ hP hS dX1_nodeOf_20
set_option maxHeartbeats 4000000 in
set_option maxRecDepth 100000 in
theorem c_X1_grow_31 (l : Launch) (D : va_G) (cI cL : ClassId) (ad zz : Nat → Nat) (hJ : jD ad) (σ : Nat → Nat → Int32) (τ : Nat → Nat → Int64) (a1 : Int32) (A1 : Int) (t1 : a1.toInt = A1) (a2 : Int32) (A2 : Int) (t2 : a2.toInt = A2) (hI16 : jI16 σ) (hI31 : jI31 σ) (hs_jKb : jKb σ) (hs_jKh : jKh σ) (hs_jKg : jKg σ) (hp0 : 0 ≤ A1 ∧ A1 ≤ 134217727) (hp1 : 0 ≤ A2 ∧ A2 ≤ 12) : jMv l yX1_grow cX1_grow 9 none ({ frames := 3, cells := 0, slots := 0, locals := 73 }) D cI cL ad zz [.ref (ad 31), .int a1, .int a2] σ τ (fun σ' τ' => τ = τ' ∧ (∀ i : Nat, (i < 31 ∨ 33 < i) ∧ (i < 36 ∨ 37 < i) → σ' i = σ i) ∧ (∀ k : Nat, (k < 8 ∨ 8 < k) ∧ (k < 9 ∨ 9 < k) ∧ (k < 10 ∨ 10 < k) ∧ (k < 11 ∨ 11 < k) ∧ (k < 12 ∨ 12 < k) → σ' 31 k = σ 31 k) ∧ (jI31 σ') ∧ (jKb σ') ∧ (jKh σ') ∧ (jKg σ') ∧ (((σ' 31 12).toInt ≠ 0 ↔ (σ 22 1).toBitVec.getLsbD 5 = true)) ∧ (jqGk σ σ' a1 (σ' 31 11).toInt) ∧ ((σ' 31 9).toInt = A1) ∧ ((σ' 31 10).toInt = A2) ∧ (0 ≤ (σ' 31 12).toInt ∧ (σ' 31 12).toInt ≤ 1) ∧ (((σ' 31 11).toInt = 0 ∧ (σ 16 1).toInt - A2 ≤ 0) ∨ ((σ' 31 11).toInt = (σ 16 1).toInt - A2 ∧ 0 ≤ (σ 16 1).toInt - A2 ∧ (σ 16 1).toInt - A2 ≤ 8) ∨ ((σ' 31 11).toInt = 8 ∧ 8 ≤ (σ 16 1).toInt - A2)) ∧ True) := by
  refine jMv.of hJ (by decide +kernel) rfl (Nat.le_of_ble_eq_true rfl) ?_
  intro p e s m args below meth c Q ls hC hret hl hP
  obtain ⟨hx, hb, hr, hml, hown, hts, hK, -, hlocks, hZ⟩ := hC
  have hown : s.vm.findClass RX1 = some m.cls := hown
  have hS : va_S (jA ad) s.heap s.heap [] := va_S.rf
  have hA : ∀ q, jA ad q → jA ad q := fun _ h => h
  have hl : lv_has ls 9 [(0, .ref (ad 31)), (1, .int a1), (2, .int a2)] := hl
  have g1 := jrg t1
  have g2 := jrg t2
  obtain ⟨i1, i2, i3, w4⟩ : (1 ≤ (σ 16 0).toInt ∧ (σ 16 0).toInt ≤ 8) ∧ (1 ≤ (σ 16 1).toInt ∧ (σ 16 1).toInt ≤ 12) ∧ (0 ≤ (σ 16 2).toInt ∧ (σ 16 2).toInt ≤ 999) ∧ (∀ k : Nat, k < 8 → 0 ≤ (σ 17 k).toInt ∧ (σ 17 k).toInt ≤ 3) := id hI16
  obtain ⟨i5, i6, i7, i8, w9, w10, w11⟩ : (0 ≤ (σ 31 8).toInt ∧ (σ 31 8).toInt ≤ 350) ∧ (0 ≤ (σ 31 10).toInt ∧ (σ 31 10).toInt ≤ 12) ∧ (0 ≤ (σ 31 11).toInt ∧ (σ 31 11).toInt ≤ 8) ∧ ((σ 31 10).toInt + (σ 31 11).toInt ≤ 12) ∧ (∀ k : Nat, k < 1400 → (-1) ≤ (σ 33 k).toInt ∧ (σ 33 k).toInt ≤ 350) ∧ (∀ k : Nat, k < 3159 → (-1) ≤ (σ 35 k).toInt ∧ (σ 35 k).toInt ≤ 3) ∧ (∀ k : Nat, k < 1024 → 0 ≤ (σ 36 k).toInt ∧ (σ 36 k).toInt ≤ 349) := id hI31
  refine lv_iconst (v := 0) hx hb dX1_grow_0 (of_decide_eq_true rfl) ?_
  refine lv_bipush (v := 8) hx hb dX1_grow_1 (of_decide_eq_true rfl) ?_
  refine lv_aload_n hx hb dX1_grow_3 rfl (lv_at hl 0 rfl) ?_
  refine va_get (D := D) hx hb hts inlX1 hown hK hP 31 (jc_31 cI cL ad σ τ) rfl 1 (of_decide_eq_true rfl) (hts _ kw_5_11) (fun _ h9 => h9) rfl dX1_grow_4 ?_
  refine va_get (D := D) hx hb hts inlX6 hown hK hP 16 (jc_16 cI cL ad σ τ) rfl 1 (of_decide_eq_true rfl) (hts _ kw_28_3) (fun _ h9 => h9) rfl dX1_grow_7 ?_
  refine lv_iload_n hx hb dX1_grow_10 rfl (lv_at hl 2 rfl) ?_
  have g12 := jrg (rfl : (σ 16 1).toInt = (σ 16 1).toInt)
  refine lv_isub hx hb dX1_grow_11 ?_
  refine lv_topi (fun x13 ex13 => ?_)
  exact by
   have tx13 : x13.toInt = (σ 16 1).toInt - A2 := (jsub ex13 rfl t2 (by omega) (by omega)).trans (by omega)
   refine va_mmin hx hb (hml.trans hl.1.symm) hown (hts _ kw_28_4) (hts _ kw_22_11) (hts _ kw_21_1) (hts _ kw_22_12) (Nat.le_of_ble_eq_true rfl) (Nat.le_of_ble_eq_true rfl) (Nat.le_of_ble_eq_true rfl) (Nat.le_of_ble_eq_true rfl) dX1_grow_12 ?_
   refine lv_topi (fun x14 ex14 => ?_)
   have g15 := jmin ex14 jz_8 tx13
   refine va_mmax hx hb (hml.trans hl.1.symm) hown (hts _ kw_28_5) (hts _ kw_21_0) (hts _ kw_21_1) (hts _ kw_21_2) (Nat.le_of_ble_eq_true rfl) (Nat.le_of_ble_eq_true rfl) (Nat.le_of_ble_eq_true rfl) (Nat.le_of_ble_eq_true rfl) dX1_grow_15 ?_
   refine lv_topi (fun x16 ex16 => ?_)
   have g17 := jmax ex16 jz_0 rfl
   refine lv_istore_n (lv' := [(3, .int x16), (0, .ref (ad 31)), (1, .int a1), (2, .int a2)]) hx hb dX1_grow_18 rfl hl (of_decide_eq_true rfl) rfl (fun ls hl => ?_)
   refine lv_aload_n hx hb dX1_grow_19 rfl (lv_at hl 1 rfl) ?_
   refine va_get (D := D) hx hb hts inlX1 hown hK hP 31 (jc_31 cI cL ad σ τ) rfl 0 (of_decide_eq_true rfl) (hts _ kw_5_10) (fun _ h9 => h9) rfl dX1_grow_20 ?_
   refine va_get (D := D) hx hb hts inlX5 hown hK hP 26 (jc_26 cI cL ad σ τ) rfl 0 (of_decide_eq_true rfl) (hts _ kw_28_6) (fun _ h9 => h9) rfl dX1_grow_23 ?_
   refine lv_iconst (v := 5) hx hb dX1_grow_26 (of_decide_eq_true rfl) ?_
   exact by
    refine jcallV (As := [.int 5]) (rest := []) ⟨hx, hb, hml, hown, hts⟩ hK hP hA hS hZ (c_X10_uses_22 l D cI cL ad zz hJ σ τ 5 (5) jz_5 (by omega)) cw_RX1_104 (jc_22 cI cL ad σ τ) rfl ⟨Nat.le_of_ble_eq_true rfl, Nat.le_of_ble_eq_true rfl⟩ rfl rfl rfl hl.1 rfl (Nat.le_of_ble_eq_true rfl) dX1_grow_27 ⟨Nat.zero_le _, Nat.zero_le _⟩ (fun r19 σ18 τ18 H locs h18 hP hS => ?_)
    obtain ⟨⟨rfl, rfl⟩, w20, h18⟩ := h18
    rcases h18 with h21 | h22
    · obtain ⟨q24, k23⟩ := h21
      have q24 := q24.symm
      subst q24
      refine lv_istore (lv' := [(4, .int 1), (3, .int x16), (0, .ref (ad 31)), (1, .int a1), (2, .int a2)]) hx hb dX1_grow_30 hl (of_decide_eq_true rfl) rfl (fun ls hl => ?_)
      refine lv_aload_n hx hb dX1_grow_32 rfl (lv_at hl 2 rfl) ?_
      refine va_get (D := D) hx hb hts inlX1 hown hK hP 31 (jc_31 cI cL ad σ τ) rfl 9 (of_decide_eq_true rfl) (hts _ kw_5_9) (fun _ h9 => h9) rfl dX1_grow_33 ?_
      refine lv_iload_n hx hb dX1_grow_36 rfl (lv_at hl 3 rfl) ?_
      refine lv_icmp_ne (tgt := 63) hx hb dX1_grow_37 (of_decide_eq_true rfl) (fun c25 => ?_) (fun c25 => ?_)
      · have kc25 := jne c25 rfl t1
        refine lv_aload_n hx hb dX1_grow_63 rfl (lv_at hl 2 rfl) ?_
        refine lv_iload_n hx hb dX1_grow_64 rfl (lv_at hl 3 rfl) ?_
        refine jput (ty := .int) hx hb hts inlX1 tyX1 tyX1_ok nmX1 hown hK hP hJ hA hS (jc_31 cI cL ad σ τ) rfl (k := 9) (of_decide_eq_true rfl) (Nat.le_of_ble_eq_true rfl) (jp_31_9 cI cL ad σ τ a1) (hts _ kw_5_9) (fun _ h9 => h9) rfl (by decide +kernel) rfl rfl dX1_grow_65 (fun σ26 H locs eσ26 hP hS => ?_)
        refine lv_aload_n hx hb dX1_grow_68 rfl (lv_at hl 2 rfl) ?_
        refine lv_iload_n hx hb dX1_grow_69 rfl (lv_at hl 4 rfl) ?_
        refine jput (ty := .int) hx hb hts inlX1 tyX1 tyX1_ok nmX1 hown hK hP hJ hA hS (jc_31 cI cL ad σ26 τ) rfl (k := 10) (of_decide_eq_true rfl) (Nat.le_of_ble_eq_true rfl) (jp_31_10 cI cL ad σ26 τ a2) (hts _ kw_28_9) (fun _ h9 => h9) rfl (by decide +kernel) rfl rfl dX1_grow_70 (fun σ27 H locs eσ27 hP hS => ?_)
        refine lv_aload_n hx hb dX1_grow_73 rfl (lv_at hl 2 rfl) ?_
        refine lv_iload_n hx hb dX1_grow_74 rfl (lv_at hl 1 rfl) ?_
        refine jput (ty := .int) hx hb hts inlX1 tyX1 tyX1_ok nmX1 hown hK hP hJ hA hS (jc_31 cI cL ad σ27 τ) rfl (k := 11) (of_decide_eq_true rfl) (Nat.le_of_ble_eq_true rfl) (jp_31_11 cI cL ad σ27 τ x16) (hts _ kw_28_7) (fun _ h9 => h9) rfl (by decide +kernel) rfl rfl dX1_grow_75 (fun σ28 H locs eσ28 hP hS => ?_)
        refine lv_aload_n hx hb dX1_grow_78 rfl (lv_at hl 2 rfl) ?_
        refine lv_iload hx hb dX1_grow_79 (lv_at hl 0 rfl) ?_
        refine jput (ty := .boolean) hx hb hts inlX1 tyX1 tyX1_ok nmX1 hown hK hP hJ hA hS (jc_31 cI cL ad σ28 τ) rfl (k := 12) (of_decide_eq_true rfl) (Nat.le_of_ble_eq_true rfl) (jp_31_12 cI cL ad σ28 τ 1) (hts _ kw_28_8) (fun _ h9 => h9) rfl (by decide +kernel) rfl rfl dX1_grow_81 (fun σ29 H locs eσ29 hP hS => ?_)
        refine lv_aload_n hx hb dX1_grow_84 rfl (lv_at hl 2 rfl) ?_
        refine lv_iconst (v := 0) hx hb dX1_grow_85 (of_decide_eq_true rfl) ?_
        refine jput (ty := .int) hx hb hts inlX1 tyX1 tyX1_ok nmX1 hown hK hP hJ hA hS (jc_31 cI cL ad σ29 τ) rfl (k := 8) (of_decide_eq_true rfl) (Nat.le_of_ble_eq_true rfl) (jp_31_8 cI cL ad σ29 τ 0) (hts _ kw_27_22) (fun _ h9 => h9) rfl (by decide +kernel) rfl rfl dX1_grow_86 (fun σ30 H locs eσ30 hP hS => ?_)
        have z31 : (σ30 31 8).toInt = 0 := ((congrArg Int32.toInt (show σ30 31 8 = 0 from (jsp eσ30))).trans jz_0)
        exact by
         have p32 : jKb σ30 := (jKb.nil (by omega))
         have p33 : jKh σ30 := (jKh.nil (by omega))
         refine lv_aload_n hx hb dX1_grow_89 rfl (lv_at hl 2 rfl) ?_
         refine lv_iload_n hx hb dX1_grow_90 rfl (lv_at hl 3 rfl) ?_
         refine lv_iconst (v := 0) hx hb dX1_grow_91 (of_decide_eq_true rfl) ?_
         have z34 : (σ30 31 10).toInt = A2 := ((congrArg Int32.toInt (show σ30 31 10 = a2 from ((jkp 10 eσ30 (of_decide_eq_true rfl)).trans ((jkp 10 eσ29 (of_decide_eq_true rfl)).trans ((jkp 10 eσ28 (of_decide_eq_true rfl)).trans (jsp eσ27)))))).trans t2)
         have z35 : (σ30 31 11).toInt = x16.toInt := (congrArg Int32.toInt (show σ30 31 11 = x16 from ((jkp 11 eσ30 (of_decide_eq_true rfl)).trans ((jkp 11 eσ29 (of_decide_eq_true rfl)).trans (jsp eσ28)))))
         have w36 : ∀ k : Nat, k < 1400 → (-1) ≤ (σ30 33 k).toInt ∧ (σ30 33 k).toInt ≤ 350 := (jrr_fr (jnp 33 eσ30 (of_decide_eq_true rfl)) (jrr_fr (jnp 33 eσ29 (of_decide_eq_true rfl)) (jrr_fr (jnp 33 eσ28 (of_decide_eq_true rfl)) (jrr_fr (jnp 33 eσ27 (of_decide_eq_true rfl)) (jrr_fr (jnp 33 eσ26 (of_decide_eq_true rfl)) w9)))))
         have w37 : ∀ k : Nat, k < 3159 → (-1) ≤ (σ30 35 k).toInt ∧ (σ30 35 k).toInt ≤ 3 := (jrr_fr (jnp 35 eσ30 (of_decide_eq_true rfl)) (jrr_fr (jnp 35 eσ29 (of_decide_eq_true rfl)) (jrr_fr (jnp 35 eσ28 (of_decide_eq_true rfl)) (jrr_fr (jnp 35 eσ27 (of_decide_eq_true rfl)) (jrr_fr (jnp 35 eσ26 (of_decide_eq_true rfl)) w10)))))
         exact by
          have w38 : ∀ k : Nat, k < 1024 → 0 ≤ (σ30 36 k).toInt ∧ (σ30 36 k).toInt ≤ 349 := (jrr_fr (jnp 36 eσ30 (of_decide_eq_true rfl)) (jrr_fr (jnp 36 eσ29 (of_decide_eq_true rfl)) (jrr_fr (jnp 36 eσ28 (of_decide_eq_true rfl)) (jrr_fr (jnp 36 eσ27 (of_decide_eq_true rfl)) (jrr_fr (jnp 36 eσ26 (of_decide_eq_true rfl)) w11)))))
          have I39 : jI31 σ30 := ⟨(by omega), (by omega), (by omega), (by omega), w36, w37, w38⟩
          refine jcallV (As := [.int a1, .int 0]) (rest := []) ⟨hx, hb, hml, hown, hts⟩ hK hP hA hS hZ (c_X1_add_31 l D cI cL ad zz hJ σ30 τ a1 (A1) t1 0 (0) jz_0 I39 p32 p33 (by omega) (by omega)) cw_RX1_111 (jc_31 cI cL ad σ30 τ) rfl ⟨Nat.le_of_ble_eq_true rfl, Nat.le_of_ble_eq_true rfl⟩ rfl rfl rfl hl.1 rfl (Nat.le_of_ble_eq_true rfl) dX1_grow_92 ⟨Nat.zero_le _, Nat.zero_le _⟩ (fun r41 σ40 τ40 H locs h40 hP hS => ?_)
          obtain ⟨rfl, f42, f43, I44, p45, p46, w47, h40⟩ := h40
          obtain ⟨i49, i50, i51, i52, w53, w54, w55⟩ : (0 ≤ (σ40 31 8).toInt ∧ (σ40 31 8).toInt ≤ 350) ∧ (0 ≤ (σ40 31 10).toInt ∧ (σ40 31 10).toInt ≤ 12) ∧ (0 ≤ (σ40 31 11).toInt ∧ (σ40 31 11).toInt ≤ 8) ∧ ((σ40 31 10).toInt + (σ40 31 11).toInt ≤ 12) ∧ (∀ k : Nat, k < 1400 → (-1) ≤ (σ40 33 k).toInt ∧ (σ40 33 k).toInt ≤ 350) ∧ (∀ k : Nat, k < 3159 → (-1) ≤ (σ40 35 k).toInt ∧ (σ40 35 k).toInt ≤ 3) ∧ (∀ k : Nat, k < 1024 → 0 ≤ (σ40 36 k).toInt ∧ (σ40 36 k).toInt ≤ 349) := id I44
          have z56 : (σ40 31 10).toInt = A2 := ((congrArg Int32.toInt (show σ40 31 10 = a2 from ((f43 10 (of_decide_eq_true rfl)).trans ((jkp 10 eσ30 (of_decide_eq_true rfl)).trans ((jkp 10 eσ29 (of_decide_eq_true rfl)).trans ((jkp 10 eσ28 (of_decide_eq_true rfl)).trans (jsp eσ27))))))).trans t2)
          have z57 : (σ40 31 11).toInt = x16.toInt := (congrArg Int32.toInt (show σ40 31 11 = x16 from ((f43 11 (of_decide_eq_true rfl)).trans ((jkp 11 eσ30 (of_decide_eq_true rfl)).trans ((jkp 11 eσ29 (of_decide_eq_true rfl)).trans (jsp eσ28))))))
          have h58 := h40
          obtain ⟨q60, k59⟩ := h58
          exact by
           refine lv_pop hx hb dX1_grow_95 rfl ?_
           refine lv_iconst (v := 0) hx hb dX1_grow_96 (of_decide_eq_true rfl) ?_
           refine lv_istore (lv' := [(5, .int 0), (4, .int 1), (3, .int x16), (0, .ref (ad 31)), (1, .int a1), (2, .int a2)]) hx hb dX1_grow_97 hl (of_decide_eq_true rfl) rfl (fun ls hl => ?_)
           have lp61 : ∀ (n62 : Nat) (x63 : Int32) (σ67 : Nat → Nat → Int32) (H : Heap) (locs : List Loc) (ls : Array Slot), (-x63.toInt + 350 : Int) < n62 → 0 ≤ x63.toInt → x63.toInt ≤ 350 → (∀ i : Nat, (i < 31 ∨ 33 < i) ∧ (i < 36 ∨ 37 < i) → σ67 i = σ40 i) → (∀ k : Nat, (k < 8 ∨ 8 < k) → σ67 31 k = σ40 31 k) → jKb σ67 → jKh σ67 → jI31 σ67 → (jFm a1 → jqGo a1 (decide ((σ67 31 12).toInt ≠ 0)) (σ67 31 11).toInt (σ67 31 8).toInt (σ67 32) (σ67 33) x63.toInt 0) → jH D cI cL ad σ67 τ H → va_S (jA ad) s.heap H locs → lv_has ls 9 [(5, .int x63), (4, .int 1), (3, .int x16), (0, .ref (ad 31)), (1, .int a1), (2, .int a2)] → W p l e ({ frames := 3, cells := 0, slots := 0, locals := 73 }) s m args below meth c H locs 0 0 Q (F0 m 99 ls []) := by
             intro n62
             induction n62 with
             | zero => intro x63 σ67 H locs ls h69 h70 h71; exact absurd h69 (by omega)
             | succ n62 ihlp61 =>
               intro x63 σ67 H locs ls h69 h70 h71 f72 f73 p74 p75 p76 q77 hP hS hl
               exact by
                obtain ⟨i78, i79, i80, i81, w82, w83, w84⟩ : (0 ≤ (σ67 31 8).toInt ∧ (σ67 31 8).toInt ≤ 350) ∧ (0 ≤ (σ67 31 10).toInt ∧ (σ67 31 10).toInt ≤ 12) ∧ (0 ≤ (σ67 31 11).toInt ∧ (σ67 31 11).toInt ≤ 8) ∧ ((σ67 31 10).toInt + (σ67 31 11).toInt ≤ 12) ∧ (∀ k : Nat, k < 1400 → (-1) ≤ (σ67 33 k).toInt ∧ (σ67 33 k).toInt ≤ 350) ∧ (∀ k : Nat, k < 3159 → (-1) ≤ (σ67 35 k).toInt ∧ (σ67 35 k).toInt ≤ 3) ∧ (∀ k : Nat, k < 1024 → 0 ≤ (σ67 36 k).toInt ∧ (σ67 36 k).toInt ≤ 349) := id p76
                have z85 : (σ67 31 10).toInt = A2 := ((congrArg Int32.toInt (show σ67 31 10 = a2 from ((f73 10 (of_decide_eq_true rfl)).trans ((f43 10 (of_decide_eq_true rfl)).trans ((jkp 10 eσ30 (of_decide_eq_true rfl)).trans ((jkp 10 eσ29 (of_decide_eq_true rfl)).trans ((jkp 10 eσ28 (of_decide_eq_true rfl)).trans (jsp eσ27)))))))).trans t2)
                have z86 : (σ67 31 11).toInt = x16.toInt := (congrArg Int32.toInt (show σ67 31 11 = x16 from ((f73 11 (of_decide_eq_true rfl)).trans ((f43 11 (of_decide_eq_true rfl)).trans ((jkp 11 eσ30 (of_decide_eq_true rfl)).trans ((jkp 11 eσ29 (of_decide_eq_true rfl)).trans (jsp eσ28)))))))
                refine lv_iload hx hb dX1_grow_99 (lv_at hl 0 rfl) ?_
                refine lv_aload_n hx hb dX1_grow_101 rfl (lv_at hl 3 rfl) ?_
                refine va_get (D := D) hx hb hts inlX1 hown hK hP 31 (jc_31 cI cL ad σ67 τ) rfl 8 (of_decide_eq_true rfl) (hts _ kw_27_22) (fun _ h9 => h9) rfl dX1_grow_102 ?_
                refine lv_icmp_ge (tgt := 202) hx hb dX1_grow_105 (of_decide_eq_true rfl) (fun c87 => ?_) (fun c87 => ?_)
                · have kc87 := jle c87 rfl rfl
                  have p88 : jKg σ67 := (show jFm (σ67 31 9) → _ from by rw [show σ67 31 9 = a1 from ((f73 9 (of_decide_eq_true rfl)).trans ((f43 9 (of_decide_eq_true rfl)).trans ((jkp 9 eσ30 (of_decide_eq_true rfl)).trans ((jkp 9 eσ29 (of_decide_eq_true rfl)).trans ((jkp 9 eσ28 (of_decide_eq_true rfl)).trans ((jkp 9 eσ27 (of_decide_eq_true rfl)).trans (jsp eσ26)))))))]; exact fun hm => (q77 hm).fin (by omega))
                  exact by
                   have z89 : (σ67 31 9).toInt = A1 := ((congrArg Int32.toInt (show σ67 31 9 = a1 from ((f73 9 (of_decide_eq_true rfl)).trans ((f43 9 (of_decide_eq_true rfl)).trans ((jkp 9 eσ30 (of_decide_eq_true rfl)).trans ((jkp 9 eσ29 (of_decide_eq_true rfl)).trans ((jkp 9 eσ28 (of_decide_eq_true rfl)).trans ((jkp 9 eσ27 (of_decide_eq_true rfl)).trans (jsp eσ26))))))))).trans t1)
                   have z90 : (σ67 31 12).toInt = 1 := ((congrArg Int32.toInt (show σ67 31 12 = 1 from ((f73 12 (of_decide_eq_true rfl)).trans ((f43 12 (of_decide_eq_true rfl)).trans ((jkp 12 eσ30 (of_decide_eq_true rfl)).trans (jsp eσ29)))))).trans jz_1)
                   exact by exact hret σ67 τ _ _ _ _ ⟨rfl, (fun i hi => ((f72 i hi).trans ((f42 i (imp_86 i hi)).trans ((jnp i eσ30 (imp_87 i hi)).trans ((jnp i eσ29 (imp_87 i hi)).trans ((jnp i eσ28 (imp_87 i hi)).trans ((jnp i eσ27 (imp_87 i hi)).trans (jnp i eσ26 (imp_87 i hi))))))))), (fun i hi => ((f73 i (imp_88 i hi)).trans ((f43 i (imp_88 i hi)).trans ((jkp i eσ30 (imp_89 i hi)).trans ((jkp i eσ29 (imp_90 i hi)).trans ((jkp i eσ28 (imp_91 i hi)).trans ((jkp i eσ27 (imp_92 i hi)).trans (jkp i eσ26 (imp_93 i hi))))))))), p76, p74, p75, p88, (by rw [show σ67 31 12 = 1 from ((f73 12 (of_decide_eq_true rfl)).trans ((f43 12 (of_decide_eq_true rfl)).trans ((jkp 12 eσ30 (of_decide_eq_true rfl)).trans (jsp eσ29))))]; exact w20), (show jqGk σ σ67 a1 (σ67 31 11).toInt from fun h1 _ _ _ => False.elim (by have w9 := congrArg Int32.toInt h1; omega)), (by omega), (by omega), (by omega), (by omega), trivial⟩ hP hS dX1_grow_202
                · have kc87 := jnle c87 rfl rfl
                  refine lv_iload hx hb dX1_grow_108 (lv_at hl 0 rfl) ?_
                  refine lv_sipush (v := 350) hx hb dX1_grow_110 (of_decide_eq_true rfl) ?_
                  refine lv_icmp_ge (tgt := 202) hx hb dX1_grow_113 (of_decide_eq_true rfl) (fun c => absurd (jle c jz_350 rfl) (by omega)) (fun c91 => ?_)
                  have kc91 := jnle c91 jz_350 rfl
                  refine lv_aload_n hx hb dX1_grow_116 rfl (lv_at hl 3 rfl) ?_
                  exact by
                   refine va_get (D := D) hx hb hts inlX1 hown hK hP 31 (jc_31 cI cL ad σ67 τ) rfl 2 (of_decide_eq_true rfl) (hts _ kw_5_3) (fun _ h9 => h9) rfl dX1_grow_117 ?_
                   refine lv_iload hx hb dX1_grow_120 (lv_at hl 0 rfl) ?_
                   refine jald hx hb hK hP (jc_32 cI cL ad σ67 τ) (jin rfl (by omega) (by omega)) dX1_grow_122 ?_
                   refine jtopr (y := (σ67 32 x63.toNatClampNeg)) rfl ?_
                   refine lv_ldc (v := 134217727) hx hb hown (hts _ kw_28_10) dX1_grow_123 ?_
                   refine lv_iand hx hb dX1_grow_125 ?_
                   refine lv_topi (fun x92 ex92 => ?_)
                   have gx92 := jrg (rfl : x92.toInt = x92.toInt)
                   have g93 : 0 ≤ x92.toInt ∧ x92.toInt ≤ 134217727 := jmask ex92 27 (of_decide_eq_true rfl) (of_decide_eq_true rfl)
                   exact by
                    refine lv_istore (lv' := [(6, .int x92), (5, .int x63), (4, .int 1), (3, .int x16), (0, .ref (ad 31)), (1, .int a1), (2, .int a2)]) hx hb dX1_grow_126 hl (of_decide_eq_true rfl) rfl (fun ls hl => ?_)
                    refine lv_aload_n hx hb dX1_grow_128 rfl (lv_at hl 4 rfl) ?_
                    refine va_get (D := D) hx hb hts inlX1 hown hK hP 31 (jc_31 cI cL ad σ67 τ) rfl 2 (of_decide_eq_true rfl) (hts _ kw_5_3) (fun _ h9 => h9) rfl dX1_grow_129 ?_
                    refine lv_iload hx hb dX1_grow_132 (lv_at hl 1 rfl) ?_
                    refine jald hx hb hK hP (jc_32 cI cL ad σ67 τ) (jin rfl (by omega) (by omega)) dX1_grow_134 ?_
                    refine jtopr (y := (σ67 32 x63.toNatClampNeg)) rfl ?_
                    refine lv_bipush (v := 27) hx hb dX1_grow_135 (of_decide_eq_true rfl) ?_
                    refine lv_ishr hx hb dX1_grow_137 ?_
                    refine lv_topi (fun x94 ex94 => ?_)
                    exact by
                     have gx94 := jrg (rfl : x94.toInt = x94.toInt)
                     have k95 := jshr27 (x := x94) (k := (σ67 32 x63.toNatClampNeg)) (by rw [ex94])
                     have k96 := p74 x63.toNatClampNeg (by rw [jnc (rfl : x63.toInt = x63.toInt)]; omega)
                     refine lv_istore (lv' := [(7, .int x94), (6, .int x92), (5, .int x63), (4, .int 1), (3, .int x16), (0, .ref (ad 31)), (1, .int a1), (2, .int a2)]) hx hb dX1_grow_138 hl (of_decide_eq_true rfl) rfl (fun ls hl => ?_)
                     refine lv_iconst (v := 0) hx hb dX1_grow_140 (of_decide_eq_true rfl) ?_
                     refine lv_istore (lv' := [(8, .int 0), (7, .int x94), (6, .int x92), (5, .int x63), (4, .int 1), (3, .int x16), (0, .ref (ad 31)), (1, .int a1), (2, .int a2)]) hx hb dX1_grow_141 hl (of_decide_eq_true rfl) rfl (fun ls hl => ?_)
                     have lp97 : ∀ (n98 : Nat) (x99 : Int32) (σ100 : Nat → Nat → Int32) (H : Heap) (locs : List Loc) (ls : Array Slot), (-x99.toInt + 4 : Int) < n98 → 0 ≤ x99.toInt → x99.toInt ≤ 4 → (∀ i : Nat, (i < 31 ∨ 33 < i) ∧ (i < 36 ∨ 37 < i) → σ100 i = σ67 i) → (∀ k : Nat, (k < 8 ∨ 8 < k) → σ100 31 k = σ67 31 k) → jKb σ100 → jKh σ100 → jI31 σ100 → ((jFm a1 → jqGo a1 (decide ((σ100 31 12).toInt ≠ 0)) (σ100 31 11).toInt (σ100 31 8).toInt (σ100 32) (σ100 33) x63.toInt x99.toInt) ∧ jqNo (σ100 32 x63.toInt.toNat) x92 x94.toInt ∧ x63.toInt < (σ100 31 8).toInt) → jH D cI cL ad σ100 τ H → va_S (jA ad) s.heap H locs → lv_has ls 9 [(8, .int x99), (7, .int x94), (6, .int x92), (5, .int x63), (4, .int 1), (3, .int x16), (0, .ref (ad 31)), (1, .int a1), (2, .int a2)] → W p l e ({ frames := 3, cells := 0, slots := 0, locals := 73 }) s m args below meth c H locs 0 0 Q (F0 m 143 ls []) := by
                       intro n98
                       induction n98 with
                       | zero => intro x99 σ100 H locs ls h102 h103 h104; exact absurd h102 (by omega)
                       | succ n98 ihlp97 =>
                         intro x99 σ100 H locs ls h102 h103 h104 f105 f106 p107 p108 p109 q110 hP hS hl
                         exact by
                          obtain ⟨i111, i112, i113, i114, w115, w116, w117⟩ : (0 ≤ (σ100 31 8).toInt ∧ (σ100 31 8).toInt ≤ 350) ∧ (0 ≤ (σ100 31 10).toInt ∧ (σ100 31 10).toInt ≤ 12) ∧ (0 ≤ (σ100 31 11).toInt ∧ (σ100 31 11).toInt ≤ 8) ∧ ((σ100 31 10).toInt + (σ100 31 11).toInt ≤ 12) ∧ (∀ k : Nat, k < 1400 → (-1) ≤ (σ100 33 k).toInt ∧ (σ100 33 k).toInt ≤ 350) ∧ (∀ k : Nat, k < 3159 → (-1) ≤ (σ100 35 k).toInt ∧ (σ100 35 k).toInt ≤ 3) ∧ (∀ k : Nat, k < 1024 → 0 ≤ (σ100 36 k).toInt ∧ (σ100 36 k).toInt ≤ 349) := id p109
                          have z118 : (σ100 31 10).toInt = A2 := ((congrArg Int32.toInt (show σ100 31 10 = a2 from ((f106 10 (of_decide_eq_true rfl)).trans ((f73 10 (of_decide_eq_true rfl)).trans ((f43 10 (of_decide_eq_true rfl)).trans ((jkp 10 eσ30 (of_decide_eq_true rfl)).trans ((jkp 10 eσ29 (of_decide_eq_true rfl)).trans ((jkp 10 eσ28 (of_decide_eq_true rfl)).trans (jsp eσ27))))))))).trans t2)
                          have z119 : (σ100 31 11).toInt = x16.toInt := (congrArg Int32.toInt (show σ100 31 11 = x16 from ((f106 11 (of_decide_eq_true rfl)).trans ((f73 11 (of_decide_eq_true rfl)).trans ((f43 11 (of_decide_eq_true rfl)).trans ((jkp 11 eσ30 (of_decide_eq_true rfl)).trans ((jkp 11 eσ29 (of_decide_eq_true rfl)).trans (jsp eσ28))))))))
                          refine lv_iload hx hb dX1_grow_143 (lv_at hl 0 rfl) ?_
                          refine lv_iconst (v := 4) hx hb dX1_grow_145 (of_decide_eq_true rfl) ?_
                          refine lv_icmp_ge (tgt := 196) hx hb dX1_grow_146 (of_decide_eq_true rfl) (fun c120 => ?_) (fun c120 => ?_)
                          · have kc120 := jle c120 jz_4 rfl
                            obtain ⟨x121, ex121⟩ : ∃ y : Int32, y = x63 + 1 := ⟨_, rfl⟩
                            have tx121 : x121.toInt = x63.toInt + 1 := (jadd ex121 rfl jz_1 (by omega) (by omega)).trans (by omega)
                            exact by
                             refine lv_iinc (v := x121) (lv' := [(5, .int x121), (8, .int x99), (7, .int x94), (6, .int x92), (4, .int 1), (3, .int x16), (0, .ref (ad 31)), (1, .int a1), (2, .int a2)]) hx hb dX1_grow_196 hl (k := 3) rfl (by rw [ex121]; rfl) (of_decide_eq_true rfl) rfl (fun ls hl => ?_)
                             refine lv_goto (tgt := 99) hx hb dX1_grow_199 (of_decide_eq_true rfl) ?_
                             exact by exact ihlp61 x121 σ100 _ _ ls (by have h90 := tx121; omega) (by have h90 := tx121; omega) (by have h90 := tx121; omega) (fun i hi => ((f105 i hi).trans (f72 i hi))) (fun i hi => ((f106 i hi).trans (f73 i hi)))  p107 p108 p109 (fun hm => jqGo.row (q110.1 hm) (by omega) (by have h9 := tx121; omega) (by omega) q110.2.2) hP hS (lv_sub hl [0, 4, 5, 6, 7, 8] rfl)
                          · have kc120 := jnle c120 jz_4 rfl
                            refine lv_aload_n hx hb dX1_grow_149 rfl (lv_at hl 6 rfl) ?_
                            refine va_get (D := D) hx hb hts inlX1 hown hK hP 31 (jc_31 cI cL ad σ100 τ) rfl 3 (of_decide_eq_true rfl) (hts _ kw_5_4) (fun _ h9 => h9) rfl dX1_grow_150 ?_
                            refine lv_iload hx hb dX1_grow_153 (lv_at hl 3 rfl) ?_
                            refine lv_iconst (v := 4) hx hb dX1_grow_155 (of_decide_eq_true rfl) ?_
                            have g122 := jrg (rfl : x63.toInt = x63.toInt)
                            refine lv_imul hx hb dX1_grow_156 ?_
                            refine lv_topi (fun x123 ex123 => ?_)
                            exact by
                             have tx123 : x123.toInt = 4 * x63.toInt := (jmul ex123 rfl jz_4 (by omega) (by omega)).trans (by omega)
                             refine lv_iload hx hb dX1_grow_157 (lv_at hl 0 rfl) ?_
                             have g124 := jrg (rfl : x99.toInt = x99.toInt)
                             refine lv_iadd hx hb dX1_grow_159 ?_
                             refine lv_topi (fun x125 ex125 => ?_)
                             have tx125 : x125.toInt = 4 * x63.toInt + x99.toInt := (jadd ex125 tx123 rfl (by omega) (by omega)).trans (by omega)
                             refine lv_iload hx hb dX1_grow_160 (lv_at hl 2 rfl) ?_
                             refine lv_iload hx hb dX1_grow_162 (lv_at hl 0 rfl) ?_
                             refine jcallS (As := [.int x92, .int x99]) (rest := [.int x125, .ref (ad 33)]) ⟨hx, hb, hml, hown, hts⟩ hK hP hA hS hZ (c_X0_mayBowl l D cI cL ad zz hJ σ100 τ x92 (x92.toInt) rfl x99 (x99.toInt) rfl) cw_RX1_115 ⟨Nat.le_of_ble_eq_true rfl, Nat.le_of_ble_eq_true rfl⟩ rfl rfl rfl hl.1 rfl (Nat.le_of_ble_eq_true rfl) dX1_grow_164 ⟨Nat.zero_le _, Nat.zero_le _⟩ (fun r127 σ126 τ126 H locs h126 hP hS => ?_)
                             exact by
                              obtain ⟨⟨rfl, rfl⟩, w128, h126⟩ := h126
                              rcases h126 with h129 | h130
                              · obtain ⟨q132, k131⟩ := h129
                                have q132 := q132.symm
                                subst q132
                                refine lv_if_eq (tgt := 188) hx hb dX1_grow_167 (of_decide_eq_true rfl) (fun c => absurd c (of_decide_eq_true rfl)) (fun _ => ?_)
                                refine lv_aload_n hx hb dX1_grow_170 rfl (lv_at hl 6 rfl) ?_
                                refine lv_iload hx hb dX1_grow_171 (lv_at hl 2 rfl) ?_
                                refine lv_iload hx hb dX1_grow_173 (lv_at hl 0 rfl) ?_
                                exact by
                                 refine jcallS (As := [.int x92, .int x99]) (rest := [.ref (ad 31), .int x125, .ref (ad 33)]) ⟨hx, hb, hml, hown, hts⟩ hK hP hA hS hZ (c_X0_after_r l D cI cL ad zz hJ σ100 τ x92 (x92.toInt) rfl x99 (x99.toInt) rfl (by omega)) cw_RX1_119 ⟨Nat.le_of_ble_eq_true rfl, Nat.le_of_ble_eq_true rfl⟩ rfl rfl rfl hl.1 rfl (Nat.le_of_ble_eq_true rfl) dX1_grow_175 ⟨Nat.zero_le _, Nat.zero_le _⟩ (fun r134 σ133 τ133 H locs h133 hP hS => ?_)
                                 obtain ⟨⟨rfl, rfl⟩, w135, w136, h133⟩ := h133
                                 have h137 := h133
                                 obtain ⟨q139, k138⟩ := h137
                                 refine lv_iload hx hb dX1_grow_178 (lv_at hl 1 rfl) ?_
                                 refine lv_iconst (v := 1) hx hb dX1_grow_180 (of_decide_eq_true rfl) ?_
                                 have g140 := jrg (rfl : x94.toInt = x94.toInt)
                                 refine lv_iadd hx hb dX1_grow_181 ?_
                                 refine lv_topi (fun x141 ex141 => ?_)
                                 exact by
                                  have tx141 : x141.toInt = x94.toInt + 1 := (jadd ex141 rfl jz_1 (by omega) (by omega)).trans (by omega)
                                  refine jcallV (As := [.int r134, .int x141]) (rest := [.int x125, .ref (ad 33)]) ⟨hx, hb, hml, hown, hts⟩ hK hP hA hS hZ (c_X1_add_31 l D cI cL ad zz hJ σ100 τ r134 (r134.toInt) rfl x141 (x94.toInt + 1) tx141 p109 p107 p108 (by omega) (by omega)) cw_RX1_111 (jc_31 cI cL ad σ100 τ) rfl ⟨Nat.le_of_ble_eq_true rfl, Nat.le_of_ble_eq_true rfl⟩ rfl rfl rfl hl.1 rfl (Nat.le_of_ble_eq_true rfl) dX1_grow_182 ⟨Nat.zero_le _, Nat.zero_le _⟩ (fun r143 σ142 τ142 H locs h142 hP hS => ?_)
                                  obtain ⟨rfl, f144, f145, I146, p147, p148, w149, h142⟩ := h142
                                  obtain ⟨i151, i152, i153, i154, w155, w156, w157⟩ : (0 ≤ (σ142 31 8).toInt ∧ (σ142 31 8).toInt ≤ 350) ∧ (0 ≤ (σ142 31 10).toInt ∧ (σ142 31 10).toInt ≤ 12) ∧ (0 ≤ (σ142 31 11).toInt ∧ (σ142 31 11).toInt ≤ 8) ∧ ((σ142 31 10).toInt + (σ142 31 11).toInt ≤ 12) ∧ (∀ k : Nat, k < 1400 → (-1) ≤ (σ142 33 k).toInt ∧ (σ142 33 k).toInt ≤ 350) ∧ (∀ k : Nat, k < 3159 → (-1) ≤ (σ142 35 k).toInt ∧ (σ142 35 k).toInt ≤ 3) ∧ (∀ k : Nat, k < 1024 → 0 ≤ (σ142 36 k).toInt ∧ (σ142 36 k).toInt ≤ 349) := id I146
                                  have z158 : (σ142 31 10).toInt = A2 := ((congrArg Int32.toInt (show σ142 31 10 = a2 from ((f145 10 (of_decide_eq_true rfl)).trans ((f106 10 (of_decide_eq_true rfl)).trans ((f73 10 (of_decide_eq_true rfl)).trans ((f43 10 (of_decide_eq_true rfl)).trans ((jkp 10 eσ30 (of_decide_eq_true rfl)).trans ((jkp 10 eσ29 (of_decide_eq_true rfl)).trans ((jkp 10 eσ28 (of_decide_eq_true rfl)).trans (jsp eσ27)))))))))).trans t2)
                                  have z159 : (σ142 31 11).toInt = x16.toInt := (congrArg Int32.toInt (show σ142 31 11 = x16 from ((f145 11 (of_decide_eq_true rfl)).trans ((f106 11 (of_decide_eq_true rfl)).trans ((f73 11 (of_decide_eq_true rfl)).trans ((f43 11 (of_decide_eq_true rfl)).trans ((jkp 11 eσ30 (of_decide_eq_true rfl)).trans ((jkp 11 eσ29 (of_decide_eq_true rfl)).trans (jsp eσ28)))))))))
                                  have h160 := h142
                                  obtain ⟨q162, k161⟩ := h160
                                  refine lv_goto (tgt := 189) hx hb dX1_grow_185 (of_decide_eq_true rfl) ?_
                                  exact by
                                   refine jast hx hb hK hP hJ hA hS (jc_33 cI cL ad σ142 τ) (ja_33 cI cL ad σ142 τ _ _) (jin tx125 (by omega) (by omega)) dX1_grow_189 (fun σ163 H locs eσ163 hP hS => ?_)
                                   obtain ⟨x164, ex164⟩ : ∃ y : Int32, y = x99 + 1 := ⟨_, rfl⟩
                                   have tx164 : x164.toInt = x99.toInt + 1 := (jadd ex164 rfl jz_1 (by omega) (by omega)).trans (by omega)
                                   refine lv_iinc (v := x164) (lv' := [(8, .int x164), (7, .int x94), (6, .int x92), (5, .int x63), (4, .int 1), (3, .int x16), (0, .ref (ad 31)), (1, .int a1), (2, .int a2)]) hx hb dX1_grow_190 hl (k := 0) rfl (by rw [ex164]; rfl) (of_decide_eq_true rfl) rfl (fun ls hl => ?_)
                                   refine lv_goto (tgt := 143) hx hb dX1_grow_193 (of_decide_eq_true rfl) ?_
                                   have p165 : jKb σ163 := jKb.fr (congrFun (jnp 31 eσ163 (of_decide_eq_true rfl)) 8) (congrFun (jnp 31 eσ163 (of_decide_eq_true rfl)) 11) (jnp 32 eσ163 (of_decide_eq_true rfl)) p147
                                   have p166 : jKh σ163 := jKh.fr (congrFun (jnp 31 eσ163 (of_decide_eq_true rfl)) 8) (jnp 32 eσ163 (of_decide_eq_true rfl)) (jnp 36 eσ163 (of_decide_eq_true rfl)) (jnp 37 eσ163 (of_decide_eq_true rfl)) p148
                                   have z167 : (σ163 31 8).toInt = (σ142 31 8).toInt := (congrArg Int32.toInt (show σ163 31 8 = (σ142 31 8) from (congrFun (jnp 31 eσ163 (of_decide_eq_true rfl)) 8)))
                                   have z168 : (σ163 31 10).toInt = A2 := ((congrArg Int32.toInt (show σ163 31 10 = a2 from ((congrFun (jnp 31 eσ163 (of_decide_eq_true rfl)) 10).trans ((f145 10 (of_decide_eq_true rfl)).trans ((f106 10 (of_decide_eq_true rfl)).trans ((f73 10 (of_decide_eq_true rfl)).trans ((f43 10 (of_decide_eq_true rfl)).trans ((jkp 10 eσ30 (of_decide_eq_true rfl)).trans ((jkp 10 eσ29 (of_decide_eq_true rfl)).trans ((jkp 10 eσ28 (of_decide_eq_true rfl)).trans (jsp eσ27))))))))))).trans t2)
                                   exact by
                                    have z169 : (σ163 31 11).toInt = x16.toInt := (congrArg Int32.toInt (show σ163 31 11 = x16 from ((congrFun (jnp 31 eσ163 (of_decide_eq_true rfl)) 11).trans ((f145 11 (of_decide_eq_true rfl)).trans ((f106 11 (of_decide_eq_true rfl)).trans ((f73 11 (of_decide_eq_true rfl)).trans ((f43 11 (of_decide_eq_true rfl)).trans ((jkp 11 eσ30 (of_decide_eq_true rfl)).trans ((jkp 11 eσ29 (of_decide_eq_true rfl)).trans (jsp eσ28))))))))))
                                    have w170 : ∀ k : Nat, k < 1400 → (-1) ≤ (σ163 33 k).toInt ∧ (σ163 33 k).toInt ≤ 350 := (by rw [eσ163]; exact jrr_up w155 (by omega) (by omega))
                                    have w171 : ∀ k : Nat, k < 3159 → (-1) ≤ (σ163 35 k).toInt ∧ (σ163 35 k).toInt ≤ 3 := (jrr_fr (jnp 35 eσ163 (of_decide_eq_true rfl)) w156)
                                    have w172 : ∀ k : Nat, k < 1024 → 0 ≤ (σ163 36 k).toInt ∧ (σ163 36 k).toInt ≤ 349 := (jrr_fr (jnp 36 eσ163 (of_decide_eq_true rfl)) w157)
                                    have I173 : jI31 σ163 := ⟨(by omega), (by omega), (by omega), (by omega), w170, w171, w172⟩
                                    exact by exact ihlp97 x164 σ163 _ _ ls (by have h90 := tx164; omega) (by have h90 := tx164; omega) (by have h90 := tx164; omega) (fun i hi => ((jnp i eσ163 (imp_94 i hi)).trans ((f144 i (imp_86 i hi)).trans (f105 i hi)))) (fun i hi => ((congrFun (jnp 31 eσ163 (of_decide_eq_true rfl)) i).trans ((f145 i hi).trans (f106 i hi))))  p165 p166 I173 (by rw [show σ163 31 8 = σ142 31 8 from (congrFun (jnp 31 eσ163 (of_decide_eq_true rfl)) 8), show σ163 32 = σ142 32 from (jnp 32 eσ163 (of_decide_eq_true rfl)), show σ163 31 11 = σ100 31 11 from ((congrFun (jnp 31 eσ163 (of_decide_eq_true rfl)) 11).trans (f145 11 (of_decide_eq_true rfl))), show σ163 31 12 = σ100 31 12 from ((congrFun (jnp 31 eσ163 (of_decide_eq_true rfl)) 12).trans (f145 12 (of_decide_eq_true rfl)))]; exact ⟨(fun hm => jqGo.put (q110.1 hm) (by omega) (by omega) (by omega) (by omega) q110.2.1 ((jqMy_iff (by omega) (by omega)).mpr ((w128).elim (fun w => w.2) (fun w => absurd w.1 (of_decide_eq_true rfl)))) (w136 (by omega) (by omega)) w149 (by omega) p108 (by omega) (by rw [eσ163, jup_row, f144 33 (of_decide_eq_true rfl), jnc (show x125.toInt = 4 * x63.toInt + x99.toInt by have h9 := tx125; omega)]) rfl (by have h9 := tx164; omega)), (by rw [(w149).1 x63.toInt.toNat (by omega)]; exact q110.2.1), (by have w8 := jqAd.le w149; have w9 := q110.2.2; omega)⟩) hP hS (lv_sub hl [0, 1, 2, 3, 4, 5, 6, 7, 8] rfl)
                              · obtain ⟨q175, k174⟩ := h130
                                have q175 := q175.symm
                                subst q175
                                exact by
                                 refine lv_if_eq (tgt := 188) hx hb dX1_grow_167 (of_decide_eq_true rfl) (fun _ => ?_) (fun c => absurd (of_decide_eq_true rfl) c)
                                 refine lv_iconst (v := (-1)) hx hb dX1_grow_188 (of_decide_eq_true rfl) ?_
                                 refine jast hx hb hK hP hJ hA hS (jc_33 cI cL ad σ100 τ) (ja_33 cI cL ad σ100 τ _ _) (jin tx125 (by omega) (by omega)) dX1_grow_189 (fun σ176 H locs eσ176 hP hS => ?_)
                                 obtain ⟨x177, ex177⟩ : ∃ y : Int32, y = x99 + 1 := ⟨_, rfl⟩
                                 have tx177 : x177.toInt = x99.toInt + 1 := (jadd ex177 rfl jz_1 (by omega) (by omega)).trans (by omega)
                                 refine lv_iinc (v := x177) (lv' := [(8, .int x177), (7, .int x94), (6, .int x92), (5, .int x63), (4, .int 1), (3, .int x16), (0, .ref (ad 31)), (1, .int a1), (2, .int a2)]) hx hb dX1_grow_190 hl (k := 0) rfl (by rw [ex177]; rfl) (of_decide_eq_true rfl) rfl (fun ls hl => ?_)
                                 refine lv_goto (tgt := 143) hx hb dX1_grow_193 (of_decide_eq_true rfl) ?_
                                 have p178 : jKb σ176 := jKb.fr (congrFun (jnp 31 eσ176 (of_decide_eq_true rfl)) 8) (congrFun (jnp 31 eσ176 (of_decide_eq_true rfl)) 11) (jnp 32 eσ176 (of_decide_eq_true rfl)) p107
                                 have p179 : jKh σ176 := jKh.fr (congrFun (jnp 31 eσ176 (of_decide_eq_true rfl)) 8) (jnp 32 eσ176 (of_decide_eq_true rfl)) (jnp 36 eσ176 (of_decide_eq_true rfl)) (jnp 37 eσ176 (of_decide_eq_true rfl)) p108
                                 exact by
                                  have z180 : (σ176 31 8).toInt = (σ100 31 8).toInt := (congrArg Int32.toInt (show σ176 31 8 = (σ100 31 8) from (congrFun (jnp 31 eσ176 (of_decide_eq_true rfl)) 8)))
                                  have z181 : (σ176 31 10).toInt = A2 := ((congrArg Int32.toInt (show σ176 31 10 = a2 from ((congrFun (jnp 31 eσ176 (of_decide_eq_true rfl)) 10).trans ((f106 10 (of_decide_eq_true rfl)).trans ((f73 10 (of_decide_eq_true rfl)).trans ((f43 10 (of_decide_eq_true rfl)).trans ((jkp 10 eσ30 (of_decide_eq_true rfl)).trans ((jkp 10 eσ29 (of_decide_eq_true rfl)).trans ((jkp 10 eσ28 (of_decide_eq_true rfl)).trans (jsp eσ27)))))))))).trans t2)
                                  have z182 : (σ176 31 11).toInt = x16.toInt := (congrArg Int32.toInt (show σ176 31 11 = x16 from ((congrFun (jnp 31 eσ176 (of_decide_eq_true rfl)) 11).trans ((f106 11 (of_decide_eq_true rfl)).trans ((f73 11 (of_decide_eq_true rfl)).trans ((f43 11 (of_decide_eq_true rfl)).trans ((jkp 11 eσ30 (of_decide_eq_true rfl)).trans ((jkp 11 eσ29 (of_decide_eq_true rfl)).trans (jsp eσ28)))))))))
                                  have w183 : ∀ k : Nat, k < 1400 → (-1) ≤ (σ176 33 k).toInt ∧ (σ176 33 k).toInt ≤ 350 := (by rw [eσ176]; exact jrr_up w115 (by have h9 := jz_m1; omega) (by have h9 := jz_m1; omega))
                                  have w184 : ∀ k : Nat, k < 3159 → (-1) ≤ (σ176 35 k).toInt ∧ (σ176 35 k).toInt ≤ 3 := (jrr_fr (jnp 35 eσ176 (of_decide_eq_true rfl)) w116)
                                  have w185 : ∀ k : Nat, k < 1024 → 0 ≤ (σ176 36 k).toInt ∧ (σ176 36 k).toInt ≤ 349 := (jrr_fr (jnp 36 eσ176 (of_decide_eq_true rfl)) w117)
                                  have I186 : jI31 σ176 := ⟨(by omega), (by omega), (by omega), (by omega), w183, w184, w185⟩
                                  exact by exact ihlp97 x177 σ176 _ _ ls (by have h90 := tx177; omega) (by have h90 := tx177; omega) (by have h90 := tx177; omega) (fun i hi => ((jnp i eσ176 (imp_94 i hi)).trans (f105 i hi))) (fun i hi => ((congrFun (jnp 31 eσ176 (of_decide_eq_true rfl)) i).trans (f106 i hi)))  p178 p179 I186 (by rw [show σ176 31 8 = σ100 31 8 from (congrFun (jnp 31 eσ176 (of_decide_eq_true rfl)) 8), show σ176 31 11 = σ100 31 11 from (congrFun (jnp 31 eσ176 (of_decide_eq_true rfl)) 11), show σ176 31 12 = σ100 31 12 from (congrFun (jnp 31 eσ176 (of_decide_eq_true rfl)) 12), show σ176 32 = σ100 32 from (jnp 32 eσ176 (of_decide_eq_true rfl))]; exact ⟨(fun hm => jqGo.none (q110.1 hm) (by omega) (by omega) (by omega) (by omega) q110.2.1 (fun w => ((w128).elim (fun w => absurd w.1 (of_decide_eq_true rfl)) (fun w => w.2)) ((jqMy_iff (by omega) (by omega)).mp w)) (by rw [eσ176, jup_row, jnc (show x125.toInt = 4 * x63.toInt + x99.toInt by have h9 := tx125; omega)]) (of_decide_eq_true rfl) (by have h9 := tx177; omega)), q110.2.1, q110.2.2⟩) hP hS (lv_sub hl [0, 1, 2, 3, 4, 5, 6, 7, 8] rfl)
                     exact by exact lp97 1000000 0 σ67 _ _ ls (by have h90 := jz_0; omega) (by have h90 := jz_0; omega) (by have h90 := jz_0; omega) (fun _ _ => rfl) (fun _ _ => rfl)  p74 p75 p76 ⟨(by rw [show (0 : Int32).toInt = 0 from by decide]; exact q77), ⟨(by have w := jandm (x := (σ67 32 x63.toNatClampNeg)) (y := x92) (m := 134217727) (k := 27) (M := 134217728) (by rw [ex92]) rfl rfl (of_decide_eq_true rfl); show (σ67 32 x63.toNatClampNeg).toInt = _; omega), ⟨by omega, by omega⟩, (by omega)⟩, by omega⟩ hP hS hl
           exact by exact lp61 1000000 0 σ40 _ _ ls (by have h90 := jz_0; omega) (by have h90 := jz_0; omega) (by have h90 := jz_0; omega) (fun _ _ => rfl) (fun _ _ => rfl)  p45 p46 I44 (by rw [show σ40 31 11 = σ30 31 11 from (f43 11 (of_decide_eq_true rfl)), show σ40 31 12 = σ30 31 12 from (f43 12 (of_decide_eq_true rfl))]; exact (fun hm => jqGo.first hm (by have w := w47; rw [show (σ30 31 8).toInt = 0 from by omega] at w; exact w) rfl (by have h9 := jz_0; omega))) hP hS hl
      · exact by
         have kc25 := jeq c25 rfl t1
         refine lv_aload_n hx hb dX1_grow_40 rfl (lv_at hl 2 rfl) ?_
         refine va_get (D := D) hx hb hts inlX1 hown hK hP 31 (jc_31 cI cL ad σ τ) rfl 11 (of_decide_eq_true rfl) (hts _ kw_28_7) (fun _ h9 => h9) rfl dX1_grow_41 ?_
         refine lv_iload_n hx hb dX1_grow_44 rfl (lv_at hl 1 rfl) ?_
         refine lv_icmp_ne (tgt := 63) hx hb dX1_grow_45 (of_decide_eq_true rfl) (fun c187 => ?_) (fun c187 => ?_)
         · have kc187 := jne c187 rfl rfl
           refine lv_aload_n hx hb dX1_grow_63 rfl (lv_at hl 2 rfl) ?_
           refine lv_iload_n hx hb dX1_grow_64 rfl (lv_at hl 3 rfl) ?_
           refine jput (ty := .int) hx hb hts inlX1 tyX1 tyX1_ok nmX1 hown hK hP hJ hA hS (jc_31 cI cL ad σ τ) rfl (k := 9) (of_decide_eq_true rfl) (Nat.le_of_ble_eq_true rfl) (jp_31_9 cI cL ad σ τ a1) (hts _ kw_5_9) (fun _ h9 => h9) rfl (by decide +kernel) rfl rfl dX1_grow_65 (fun σ188 H locs eσ188 hP hS => ?_)
           refine lv_aload_n hx hb dX1_grow_68 rfl (lv_at hl 2 rfl) ?_
           refine lv_iload_n hx hb dX1_grow_69 rfl (lv_at hl 4 rfl) ?_
           refine jput (ty := .int) hx hb hts inlX1 tyX1 tyX1_ok nmX1 hown hK hP hJ hA hS (jc_31 cI cL ad σ188 τ) rfl (k := 10) (of_decide_eq_true rfl) (Nat.le_of_ble_eq_true rfl) (jp_31_10 cI cL ad σ188 τ a2) (hts _ kw_28_9) (fun _ h9 => h9) rfl (by decide +kernel) rfl rfl dX1_grow_70 (fun σ189 H locs eσ189 hP hS => ?_)
           refine lv_aload_n hx hb dX1_grow_73 rfl (lv_at hl 2 rfl) ?_
           refine lv_iload_n hx hb dX1_grow_74 rfl (lv_at hl 1 rfl) ?_
           refine jput (ty := .int) hx hb hts inlX1 tyX1 tyX1_ok nmX1 hown hK hP hJ hA hS (jc_31 cI cL ad σ189 τ) rfl (k := 11) (of_decide_eq_true rfl) (Nat.le_of_ble_eq_true rfl) (jp_31_11 cI cL ad σ189 τ x16) (hts _ kw_28_7) (fun _ h9 => h9) rfl (by decide +kernel) rfl rfl dX1_grow_75 (fun σ190 H locs eσ190 hP hS => ?_)
           refine lv_aload_n hx hb dX1_grow_78 rfl (lv_at hl 2 rfl) ?_
           refine lv_iload hx hb dX1_grow_79 (lv_at hl 0 rfl) ?_
           refine jput (ty := .boolean) hx hb hts inlX1 tyX1 tyX1_ok nmX1 hown hK hP hJ hA hS (jc_31 cI cL ad σ190 τ) rfl (k := 12) (of_decide_eq_true rfl) (Nat.le_of_ble_eq_true rfl) (jp_31_12 cI cL ad σ190 τ 1) (hts _ kw_28_8) (fun _ h9 => h9) rfl (by decide +kernel) rfl rfl dX1_grow_81 (fun σ191 H locs eσ191 hP hS => ?_)
           refine lv_aload_n hx hb dX1_grow_84 rfl (lv_at hl 2 rfl) ?_
           refine lv_iconst (v := 0) hx hb dX1_grow_85 (of_decide_eq_true rfl) ?_
           refine jput (ty := .int) hx hb hts inlX1 tyX1 tyX1_ok nmX1 hown hK hP hJ hA hS (jc_31 cI cL ad σ191 τ) rfl (k := 8) (of_decide_eq_true rfl) (Nat.le_of_ble_eq_true rfl) (jp_31_8 cI cL ad σ191 τ 0) (hts _ kw_27_22) (fun _ h9 => h9) rfl (by decide +kernel) rfl rfl dX1_grow_86 (fun σ192 H locs eσ192 hP hS => ?_)
           have z193 : (σ192 31 8).toInt = 0 := ((congrArg Int32.toInt (show σ192 31 8 = 0 from (jsp eσ192))).trans jz_0)
           exact by
            have p194 : jKb σ192 := (jKb.nil (by omega))
            have p195 : jKh σ192 := (jKh.nil (by omega))
            refine lv_aload_n hx hb dX1_grow_89 rfl (lv_at hl 2 rfl) ?_
            refine lv_iload_n hx hb dX1_grow_90 rfl (lv_at hl 3 rfl) ?_
            refine lv_iconst (v := 0) hx hb dX1_grow_91 (of_decide_eq_true rfl) ?_
            have z196 : (σ192 31 10).toInt = A2 := ((congrArg Int32.toInt (show σ192 31 10 = a2 from ((jkp 10 eσ192 (of_decide_eq_true rfl)).trans ((jkp 10 eσ191 (of_decide_eq_true rfl)).trans ((jkp 10 eσ190 (of_decide_eq_true rfl)).trans (jsp eσ189)))))).trans t2)
            have z197 : (σ192 31 11).toInt = x16.toInt := (congrArg Int32.toInt (show σ192 31 11 = x16 from ((jkp 11 eσ192 (of_decide_eq_true rfl)).trans ((jkp 11 eσ191 (of_decide_eq_true rfl)).trans (jsp eσ190)))))
            have w198 : ∀ k : Nat, k < 1400 → (-1) ≤ (σ192 33 k).toInt ∧ (σ192 33 k).toInt ≤ 350 := (jrr_fr (jnp 33 eσ192 (of_decide_eq_true rfl)) (jrr_fr (jnp 33 eσ191 (of_decide_eq_true rfl)) (jrr_fr (jnp 33 eσ190 (of_decide_eq_true rfl)) (jrr_fr (jnp 33 eσ189 (of_decide_eq_true rfl)) (jrr_fr (jnp 33 eσ188 (of_decide_eq_true rfl)) w9)))))
            have w199 : ∀ k : Nat, k < 3159 → (-1) ≤ (σ192 35 k).toInt ∧ (σ192 35 k).toInt ≤ 3 := (jrr_fr (jnp 35 eσ192 (of_decide_eq_true rfl)) (jrr_fr (jnp 35 eσ191 (of_decide_eq_true rfl)) (jrr_fr (jnp 35 eσ190 (of_decide_eq_true rfl)) (jrr_fr (jnp 35 eσ189 (of_decide_eq_true rfl)) (jrr_fr (jnp 35 eσ188 (of_decide_eq_true rfl)) w10)))))
            exact by
             have w200 : ∀ k : Nat, k < 1024 → 0 ≤ (σ192 36 k).toInt ∧ (σ192 36 k).toInt ≤ 349 := (jrr_fr (jnp 36 eσ192 (of_decide_eq_true rfl)) (jrr_fr (jnp 36 eσ191 (of_decide_eq_true rfl)) (jrr_fr (jnp 36 eσ190 (of_decide_eq_true rfl)) (jrr_fr (jnp 36 eσ189 (of_decide_eq_true rfl)) (jrr_fr (jnp 36 eσ188 (of_decide_eq_true rfl)) w11)))))
             have I201 : jI31 σ192 := ⟨(by omega), (by omega), (by omega), (by omega), w198, w199, w200⟩
             refine jcallV (As := [.int a1, .int 0]) (rest := []) ⟨hx, hb, hml, hown, hts⟩ hK hP hA hS hZ (c_X1_add_31 l D cI cL ad zz hJ σ192 τ a1 (A1) t1 0 (0) jz_0 I201 p194 p195 (by omega) (by omega)) cw_RX1_111 (jc_31 cI cL ad σ192 τ) rfl ⟨Nat.le_of_ble_eq_true rfl, Nat.le_of_ble_eq_true rfl⟩ rfl rfl rfl hl.1 rfl (Nat.le_of_ble_eq_true rfl) dX1_grow_92 ⟨Nat.zero_le _, Nat.zero_le _⟩ (fun r203 σ202 τ202 H locs h202 hP hS => ?_)
             obtain ⟨rfl, f204, f205, I206, p207, p208, w209, h202⟩ := h202
             obtain ⟨i211, i212, i213, i214, w215, w216, w217⟩ : (0 ≤ (σ202 31 8).toInt ∧ (σ202 31 8).toInt ≤ 350) ∧ (0 ≤ (σ202 31 10).toInt ∧ (σ202 31 10).toInt ≤ 12) ∧ (0 ≤ (σ202 31 11).toInt ∧ (σ202 31 11).toInt ≤ 8) ∧ ((σ202 31 10).toInt + (σ202 31 11).toInt ≤ 12) ∧ (∀ k : Nat, k < 1400 → (-1) ≤ (σ202 33 k).toInt ∧ (σ202 33 k).toInt ≤ 350) ∧ (∀ k : Nat, k < 3159 → (-1) ≤ (σ202 35 k).toInt ∧ (σ202 35 k).toInt ≤ 3) ∧ (∀ k : Nat, k < 1024 → 0 ≤ (σ202 36 k).toInt ∧ (σ202 36 k).toInt ≤ 349) := id I206
             have z218 : (σ202 31 10).toInt = A2 := ((congrArg Int32.toInt (show σ202 31 10 = a2 from ((f205 10 (of_decide_eq_true rfl)).trans ((jkp 10 eσ192 (of_decide_eq_true rfl)).trans ((jkp 10 eσ191 (of_decide_eq_true rfl)).trans ((jkp 10 eσ190 (of_decide_eq_true rfl)).trans (jsp eσ189))))))).trans t2)
             have z219 : (σ202 31 11).toInt = x16.toInt := (congrArg Int32.toInt (show σ202 31 11 = x16 from ((f205 11 (of_decide_eq_true rfl)).trans ((jkp 11 eσ192 (of_decide_eq_true rfl)).trans ((jkp 11 eσ191 (of_decide_eq_true rfl)).trans (jsp eσ190))))))
             have h220 := h202
             obtain ⟨q222, k221⟩ := h220
             exact by
              refine lv_pop hx hb dX1_grow_95 rfl ?_
              refine lv_iconst (v := 0) hx hb dX1_grow_96 (of_decide_eq_true rfl) ?_
              refine lv_istore (lv' := [(5, .int 0), (4, .int 1), (3, .int x16), (0, .ref (ad 31)), (1, .int a1), (2, .int a2)]) hx hb dX1_grow_97 hl (of_decide_eq_true rfl) rfl (fun ls hl => ?_)
              have lp223 : ∀ (n224 : Nat) (x225 : Int32) (σ229 : Nat → Nat → Int32) (H : Heap) (locs : List Loc) (ls : Array Slot), (-x225.toInt + 350 : Int) < n224 → 0 ≤ x225.toInt → x225.toInt ≤ 350 → (∀ i : Nat, (i < 31 ∨ 33 < i) ∧ (i < 36 ∨ 37 < i) → σ229 i = σ202 i) → (∀ k : Nat, (k < 8 ∨ 8 < k) → σ229 31 k = σ202 31 k) → jKb σ229 → jKh σ229 → jI31 σ229 → (jFm a1 → jqGo a1 (decide ((σ229 31 12).toInt ≠ 0)) (σ229 31 11).toInt (σ229 31 8).toInt (σ229 32) (σ229 33) x225.toInt 0) → jH D cI cL ad σ229 τ H → va_S (jA ad) s.heap H locs → lv_has ls 9 [(5, .int x225), (4, .int 1), (3, .int x16), (0, .ref (ad 31)), (1, .int a1), (2, .int a2)] → W p l e ({ frames := 3, cells := 0, slots := 0, locals := 73 }) s m args below meth c H locs 0 0 Q (F0 m 99 ls []) := by
                intro n224
                induction n224 with
                | zero => intro x225 σ229 H locs ls h231 h232 h233; exact absurd h231 (by omega)
                | succ n224 ihlp223 =>
                  intro x225 σ229 H locs ls h231 h232 h233 f234 f235 p236 p237 p238 q239 hP hS hl
                  exact by
                   obtain ⟨i240, i241, i242, i243, w244, w245, w246⟩ : (0 ≤ (σ229 31 8).toInt ∧ (σ229 31 8).toInt ≤ 350) ∧ (0 ≤ (σ229 31 10).toInt ∧ (σ229 31 10).toInt ≤ 12) ∧ (0 ≤ (σ229 31 11).toInt ∧ (σ229 31 11).toInt ≤ 8) ∧ ((σ229 31 10).toInt + (σ229 31 11).toInt ≤ 12) ∧ (∀ k : Nat, k < 1400 → (-1) ≤ (σ229 33 k).toInt ∧ (σ229 33 k).toInt ≤ 350) ∧ (∀ k : Nat, k < 3159 → (-1) ≤ (σ229 35 k).toInt ∧ (σ229 35 k).toInt ≤ 3) ∧ (∀ k : Nat, k < 1024 → 0 ≤ (σ229 36 k).toInt ∧ (σ229 36 k).toInt ≤ 349) := id p238
                   have z247 : (σ229 31 10).toInt = A2 := ((congrArg Int32.toInt (show σ229 31 10 = a2 from ((f235 10 (of_decide_eq_true rfl)).trans ((f205 10 (of_decide_eq_true rfl)).trans ((jkp 10 eσ192 (of_decide_eq_true rfl)).trans ((jkp 10 eσ191 (of_decide_eq_true rfl)).trans ((jkp 10 eσ190 (of_decide_eq_true rfl)).trans (jsp eσ189)))))))).trans t2)
                   have z248 : (σ229 31 11).toInt = x16.toInt := (congrArg Int32.toInt (show σ229 31 11 = x16 from ((f235 11 (of_decide_eq_true rfl)).trans ((f205 11 (of_decide_eq_true rfl)).trans ((jkp 11 eσ192 (of_decide_eq_true rfl)).trans ((jkp 11 eσ191 (of_decide_eq_true rfl)).trans (jsp eσ190)))))))
                   refine lv_iload hx hb dX1_grow_99 (lv_at hl 0 rfl) ?_
                   refine lv_aload_n hx hb dX1_grow_101 rfl (lv_at hl 3 rfl) ?_
                   refine va_get (D := D) hx hb hts inlX1 hown hK hP 31 (jc_31 cI cL ad σ229 τ) rfl 8 (of_decide_eq_true rfl) (hts _ kw_27_22) (fun _ h9 => h9) rfl dX1_grow_102 ?_
                   refine lv_icmp_ge (tgt := 202) hx hb dX1_grow_105 (of_decide_eq_true rfl) (fun c249 => ?_) (fun c249 => ?_)
                   · have kc249 := jle c249 rfl rfl
                     have p250 : jKg σ229 := (show jFm (σ229 31 9) → _ from by rw [show σ229 31 9 = a1 from ((f235 9 (of_decide_eq_true rfl)).trans ((f205 9 (of_decide_eq_true rfl)).trans ((jkp 9 eσ192 (of_decide_eq_true rfl)).trans ((jkp 9 eσ191 (of_decide_eq_true rfl)).trans ((jkp 9 eσ190 (of_decide_eq_true rfl)).trans ((jkp 9 eσ189 (of_decide_eq_true rfl)).trans (jsp eσ188)))))))]; exact fun hm => (q239 hm).fin (by omega))
                     exact by
                      have z251 : (σ229 31 9).toInt = A1 := ((congrArg Int32.toInt (show σ229 31 9 = a1 from ((f235 9 (of_decide_eq_true rfl)).trans ((f205 9 (of_decide_eq_true rfl)).trans ((jkp 9 eσ192 (of_decide_eq_true rfl)).trans ((jkp 9 eσ191 (of_decide_eq_true rfl)).trans ((jkp 9 eσ190 (of_decide_eq_true rfl)).trans ((jkp 9 eσ189 (of_decide_eq_true rfl)).trans (jsp eσ188))))))))).trans t1)
                      have z252 : (σ229 31 12).toInt = 1 := ((congrArg Int32.toInt (show σ229 31 12 = 1 from ((f235 12 (of_decide_eq_true rfl)).trans ((f205 12 (of_decide_eq_true rfl)).trans ((jkp 12 eσ192 (of_decide_eq_true rfl)).trans (jsp eσ191)))))).trans jz_1)
                      exact by exact hret σ229 τ _ _ _ _ ⟨rfl, (fun i hi => ((f234 i hi).trans ((f204 i (imp_86 i hi)).trans ((jnp i eσ192 (imp_87 i hi)).trans ((jnp i eσ191 (imp_87 i hi)).trans ((jnp i eσ190 (imp_87 i hi)).trans ((jnp i eσ189 (imp_87 i hi)).trans (jnp i eσ188 (imp_87 i hi))))))))), (fun i hi => ((f235 i (imp_88 i hi)).trans ((f205 i (imp_88 i hi)).trans ((jkp i eσ192 (imp_89 i hi)).trans ((jkp i eσ191 (imp_90 i hi)).trans ((jkp i eσ190 (imp_91 i hi)).trans ((jkp i eσ189 (imp_92 i hi)).trans (jkp i eσ188 (imp_93 i hi))))))))), p238, p236, p237, p250, (by rw [show σ229 31 12 = 1 from ((f235 12 (of_decide_eq_true rfl)).trans ((f205 12 (of_decide_eq_true rfl)).trans ((jkp 12 eσ192 (of_decide_eq_true rfl)).trans (jsp eσ191))))]; exact w20), (show jqGk σ σ229 a1 (σ229 31 11).toInt from fun _ h2 _ _ => False.elim (by omega)), (by omega), (by omega), (by omega), (by omega), trivial⟩ hP hS dX1_grow_202
                   · have kc249 := jnle c249 rfl rfl
                     refine lv_iload hx hb dX1_grow_108 (lv_at hl 0 rfl) ?_
                     refine lv_sipush (v := 350) hx hb dX1_grow_110 (of_decide_eq_true rfl) ?_
                     refine lv_icmp_ge (tgt := 202) hx hb dX1_grow_113 (of_decide_eq_true rfl) (fun c => absurd (jle c jz_350 rfl) (by omega)) (fun c253 => ?_)
                     have kc253 := jnle c253 jz_350 rfl
                     refine lv_aload_n hx hb dX1_grow_116 rfl (lv_at hl 3 rfl) ?_
                     exact by
                      refine va_get (D := D) hx hb hts inlX1 hown hK hP 31 (jc_31 cI cL ad σ229 τ) rfl 2 (of_decide_eq_true rfl) (hts _ kw_5_3) (fun _ h9 => h9) rfl dX1_grow_117 ?_
                      refine lv_iload hx hb dX1_grow_120 (lv_at hl 0 rfl) ?_
                      refine jald hx hb hK hP (jc_32 cI cL ad σ229 τ) (jin rfl (by omega) (by omega)) dX1_grow_122 ?_
                      refine jtopr (y := (σ229 32 x225.toNatClampNeg)) rfl ?_
                      refine lv_ldc (v := 134217727) hx hb hown (hts _ kw_28_10) dX1_grow_123 ?_
                      refine lv_iand hx hb dX1_grow_125 ?_
                      refine lv_topi (fun x254 ex254 => ?_)
                      have gx254 := jrg (rfl : x254.toInt = x254.toInt)
                      have g255 : 0 ≤ x254.toInt ∧ x254.toInt ≤ 134217727 := jmask ex254 27 (of_decide_eq_true rfl) (of_decide_eq_true rfl)
                      exact by
                       refine lv_istore (lv' := [(6, .int x254), (5, .int x225), (4, .int 1), (3, .int x16), (0, .ref (ad 31)), (1, .int a1), (2, .int a2)]) hx hb dX1_grow_126 hl (of_decide_eq_true rfl) rfl (fun ls hl => ?_)
                       refine lv_aload_n hx hb dX1_grow_128 rfl (lv_at hl 4 rfl) ?_
                       refine va_get (D := D) hx hb hts inlX1 hown hK hP 31 (jc_31 cI cL ad σ229 τ) rfl 2 (of_decide_eq_true rfl) (hts _ kw_5_3) (fun _ h9 => h9) rfl dX1_grow_129 ?_
                       refine lv_iload hx hb dX1_grow_132 (lv_at hl 1 rfl) ?_
                       refine jald hx hb hK hP (jc_32 cI cL ad σ229 τ) (jin rfl (by omega) (by omega)) dX1_grow_134 ?_
                       refine jtopr (y := (σ229 32 x225.toNatClampNeg)) rfl ?_
                       refine lv_bipush (v := 27) hx hb dX1_grow_135 (of_decide_eq_true rfl) ?_
                       refine lv_ishr hx hb dX1_grow_137 ?_
                       refine lv_topi (fun x256 ex256 => ?_)
                       exact by
                        have gx256 := jrg (rfl : x256.toInt = x256.toInt)
                        have k257 := jshr27 (x := x256) (k := (σ229 32 x225.toNatClampNeg)) (by rw [ex256])
                        have k258 := p236 x225.toNatClampNeg (by rw [jnc (rfl : x225.toInt = x225.toInt)]; omega)
                        refine lv_istore (lv' := [(7, .int x256), (6, .int x254), (5, .int x225), (4, .int 1), (3, .int x16), (0, .ref (ad 31)), (1, .int a1), (2, .int a2)]) hx hb dX1_grow_138 hl (of_decide_eq_true rfl) rfl (fun ls hl => ?_)
                        refine lv_iconst (v := 0) hx hb dX1_grow_140 (of_decide_eq_true rfl) ?_
                        refine lv_istore (lv' := [(8, .int 0), (7, .int x256), (6, .int x254), (5, .int x225), (4, .int 1), (3, .int x16), (0, .ref (ad 31)), (1, .int a1), (2, .int a2)]) hx hb dX1_grow_141 hl (of_decide_eq_true rfl) rfl (fun ls hl => ?_)
                        have lp259 : ∀ (n260 : Nat) (x261 : Int32) (σ262 : Nat → Nat → Int32) (H : Heap) (locs : List Loc) (ls : Array Slot), (-x261.toInt + 4 : Int) < n260 → 0 ≤ x261.toInt → x261.toInt ≤ 4 → (∀ i : Nat, (i < 31 ∨ 33 < i) ∧ (i < 36 ∨ 37 < i) → σ262 i = σ229 i) → (∀ k : Nat, (k < 8 ∨ 8 < k) → σ262 31 k = σ229 31 k) → jKb σ262 → jKh σ262 → jI31 σ262 → ((jFm a1 → jqGo a1 (decide ((σ262 31 12).toInt ≠ 0)) (σ262 31 11).toInt (σ262 31 8).toInt (σ262 32) (σ262 33) x225.toInt x261.toInt) ∧ jqNo (σ262 32 x225.toInt.toNat) x254 x256.toInt ∧ x225.toInt < (σ262 31 8).toInt) → jH D cI cL ad σ262 τ H → va_S (jA ad) s.heap H locs → lv_has ls 9 [(8, .int x261), (7, .int x256), (6, .int x254), (5, .int x225), (4, .int 1), (3, .int x16), (0, .ref (ad 31)), (1, .int a1), (2, .int a2)] → W p l e ({ frames := 3, cells := 0, slots := 0, locals := 73 }) s m args below meth c H locs 0 0 Q (F0 m 143 ls []) := by
                          intro n260
                          induction n260 with
                          | zero => intro x261 σ262 H locs ls h264 h265 h266; exact absurd h264 (by omega)
                          | succ n260 ihlp259 =>
                            intro x261 σ262 H locs ls h264 h265 h266 f267 f268 p269 p270 p271 q272 hP hS hl
                            exact by
                             obtain ⟨i273, i274, i275, i276, w277, w278, w279⟩ : (0 ≤ (σ262 31 8).toInt ∧ (σ262 31 8).toInt ≤ 350) ∧ (0 ≤ (σ262 31 10).toInt ∧ (σ262 31 10).toInt ≤ 12) ∧ (0 ≤ (σ262 31 11).toInt ∧ (σ262 31 11).toInt ≤ 8) ∧ ((σ262 31 10).toInt + (σ262 31 11).toInt ≤ 12) ∧ (∀ k : Nat, k < 1400 → (-1) ≤ (σ262 33 k).toInt ∧ (σ262 33 k).toInt ≤ 350) ∧ (∀ k : Nat, k < 3159 → (-1) ≤ (σ262 35 k).toInt ∧ (σ262 35 k).toInt ≤ 3) ∧ (∀ k : Nat, k < 1024 → 0 ≤ (σ262 36 k).toInt ∧ (σ262 36 k).toInt ≤ 349) := id p271
                             have z280 : (σ262 31 10).toInt = A2 := ((congrArg Int32.toInt (show σ262 31 10 = a2 from ((f268 10 (of_decide_eq_true rfl)).trans ((f235 10 (of_decide_eq_true rfl)).trans ((f205 10 (of_decide_eq_true rfl)).trans ((jkp 10 eσ192 (of_decide_eq_true rfl)).trans ((jkp 10 eσ191 (of_decide_eq_true rfl)).trans ((jkp 10 eσ190 (of_decide_eq_true rfl)).trans (jsp eσ189))))))))).trans t2)
                             have z281 : (σ262 31 11).toInt = x16.toInt := (congrArg Int32.toInt (show σ262 31 11 = x16 from ((f268 11 (of_decide_eq_true rfl)).trans ((f235 11 (of_decide_eq_true rfl)).trans ((f205 11 (of_decide_eq_true rfl)).trans ((jkp 11 eσ192 (of_decide_eq_true rfl)).trans ((jkp 11 eσ191 (of_decide_eq_true rfl)).trans (jsp eσ190))))))))
                             refine lv_iload hx hb dX1_grow_143 (lv_at hl 0 rfl) ?_
                             refine lv_iconst (v := 4) hx hb dX1_grow_145 (of_decide_eq_true rfl) ?_
                             refine lv_icmp_ge (tgt := 196) hx hb dX1_grow_146 (of_decide_eq_true rfl) (fun c282 => ?_) (fun c282 => ?_)
                             · have kc282 := jle c282 jz_4 rfl
                               obtain ⟨x283, ex283⟩ : ∃ y : Int32, y = x225 + 1 := ⟨_, rfl⟩
                               have tx283 : x283.toInt = x225.toInt + 1 := (jadd ex283 rfl jz_1 (by omega) (by omega)).trans (by omega)
                               exact by
                                refine lv_iinc (v := x283) (lv' := [(5, .int x283), (8, .int x261), (7, .int x256), (6, .int x254), (4, .int 1), (3, .int x16), (0, .ref (ad 31)), (1, .int a1), (2, .int a2)]) hx hb dX1_grow_196 hl (k := 3) rfl (by rw [ex283]; rfl) (of_decide_eq_true rfl) rfl (fun ls hl => ?_)
                                refine lv_goto (tgt := 99) hx hb dX1_grow_199 (of_decide_eq_true rfl) ?_
                                exact by exact ihlp223 x283 σ262 _ _ ls (by have h90 := tx283; omega) (by have h90 := tx283; omega) (by have h90 := tx283; omega) (fun i hi => ((f267 i hi).trans (f234 i hi))) (fun i hi => ((f268 i hi).trans (f235 i hi)))  p269 p270 p271 (fun hm => jqGo.row (q272.1 hm) (by omega) (by have h9 := tx283; omega) (by omega) q272.2.2) hP hS (lv_sub hl [0, 4, 5, 6, 7, 8] rfl)
                             · have kc282 := jnle c282 jz_4 rfl
                               refine lv_aload_n hx hb dX1_grow_149 rfl (lv_at hl 6 rfl) ?_
                               refine va_get (D := D) hx hb hts inlX1 hown hK hP 31 (jc_31 cI cL ad σ262 τ) rfl 3 (of_decide_eq_true rfl) (hts _ kw_5_4) (fun _ h9 => h9) rfl dX1_grow_150 ?_
                               refine lv_iload hx hb dX1_grow_153 (lv_at hl 3 rfl) ?_
                               refine lv_iconst (v := 4) hx hb dX1_grow_155 (of_decide_eq_true rfl) ?_
                               have g284 := jrg (rfl : x225.toInt = x225.toInt)
                               refine lv_imul hx hb dX1_grow_156 ?_
                               refine lv_topi (fun x285 ex285 => ?_)
                               exact by
                                have tx285 : x285.toInt = 4 * x225.toInt := (jmul ex285 rfl jz_4 (by omega) (by omega)).trans (by omega)
                                refine lv_iload hx hb dX1_grow_157 (lv_at hl 0 rfl) ?_
                                have g286 := jrg (rfl : x261.toInt = x261.toInt)
                                refine lv_iadd hx hb dX1_grow_159 ?_
                                refine lv_topi (fun x287 ex287 => ?_)
                                have tx287 : x287.toInt = 4 * x225.toInt + x261.toInt := (jadd ex287 tx285 rfl (by omega) (by omega)).trans (by omega)
                                refine lv_iload hx hb dX1_grow_160 (lv_at hl 2 rfl) ?_
                                refine lv_iload hx hb dX1_grow_162 (lv_at hl 0 rfl) ?_
                                refine jcallS (As := [.int x254, .int x261]) (rest := [.int x287, .ref (ad 33)]) ⟨hx, hb, hml, hown, hts⟩ hK hP hA hS hZ (c_X0_mayBowl l D cI cL ad zz hJ σ262 τ x254 (x254.toInt) rfl x261 (x261.toInt) rfl) cw_RX1_115 ⟨Nat.le_of_ble_eq_true rfl, Nat.le_of_ble_eq_true rfl⟩ rfl rfl rfl hl.1 rfl (Nat.le_of_ble_eq_true rfl) dX1_grow_164 ⟨Nat.zero_le _, Nat.zero_le _⟩ (fun r289 σ288 τ288 H locs h288 hP hS => ?_)
                                exact by
                                 obtain ⟨⟨rfl, rfl⟩, w290, h288⟩ := h288
                                 rcases h288 with h291 | h292
                                 · obtain ⟨q294, k293⟩ := h291
                                   have q294 := q294.symm
                                   subst q294
                                   refine lv_if_eq (tgt := 188) hx hb dX1_grow_167 (of_decide_eq_true rfl) (fun c => absurd c (of_decide_eq_true rfl)) (fun _ => ?_)
                                   refine lv_aload_n hx hb dX1_grow_170 rfl (lv_at hl 6 rfl) ?_
                                   refine lv_iload hx hb dX1_grow_171 (lv_at hl 2 rfl) ?_
                                   refine lv_iload hx hb dX1_grow_173 (lv_at hl 0 rfl) ?_
                                   exact by
                                    refine jcallS (As := [.int x254, .int x261]) (rest := [.ref (ad 31), .int x287, .ref (ad 33)]) ⟨hx, hb, hml, hown, hts⟩ hK hP hA hS hZ (c_X0_after_r l D cI cL ad zz hJ σ262 τ x254 (x254.toInt) rfl x261 (x261.toInt) rfl (by omega)) cw_RX1_119 ⟨Nat.le_of_ble_eq_true rfl, Nat.le_of_ble_eq_true rfl⟩ rfl rfl rfl hl.1 rfl (Nat.le_of_ble_eq_true rfl) dX1_grow_175 ⟨Nat.zero_le _, Nat.zero_le _⟩ (fun r296 σ295 τ295 H locs h295 hP hS => ?_)
                                    obtain ⟨⟨rfl, rfl⟩, w297, w298, h295⟩ := h295
                                    have h299 := h295
                                    obtain ⟨q301, k300⟩ := h299
                                    refine lv_iload hx hb dX1_grow_178 (lv_at hl 1 rfl) ?_
                                    refine lv_iconst (v := 1) hx hb dX1_grow_180 (of_decide_eq_true rfl) ?_
                                    have g302 := jrg (rfl : x256.toInt = x256.toInt)
                                    refine lv_iadd hx hb dX1_grow_181 ?_
                                    refine lv_topi (fun x303 ex303 => ?_)
                                    exact by
                                     have tx303 : x303.toInt = x256.toInt + 1 := (jadd ex303 rfl jz_1 (by omega) (by omega)).trans (by omega)
                                     refine jcallV (As := [.int r296, .int x303]) (rest := [.int x287, .ref (ad 33)]) ⟨hx, hb, hml, hown, hts⟩ hK hP hA hS hZ (c_X1_add_31 l D cI cL ad zz hJ σ262 τ r296 (r296.toInt) rfl x303 (x256.toInt + 1) tx303 p271 p269 p270 (by omega) (by omega)) cw_RX1_111 (jc_31 cI cL ad σ262 τ) rfl ⟨Nat.le_of_ble_eq_true rfl, Nat.le_of_ble_eq_true rfl⟩ rfl rfl rfl hl.1 rfl (Nat.le_of_ble_eq_true rfl) dX1_grow_182 ⟨Nat.zero_le _, Nat.zero_le _⟩ (fun r305 σ304 τ304 H locs h304 hP hS => ?_)
                                     obtain ⟨rfl, f306, f307, I308, p309, p310, w311, h304⟩ := h304
                                     obtain ⟨i313, i314, i315, i316, w317, w318, w319⟩ : (0 ≤ (σ304 31 8).toInt ∧ (σ304 31 8).toInt ≤ 350) ∧ (0 ≤ (σ304 31 10).toInt ∧ (σ304 31 10).toInt ≤ 12) ∧ (0 ≤ (σ304 31 11).toInt ∧ (σ304 31 11).toInt ≤ 8) ∧ ((σ304 31 10).toInt + (σ304 31 11).toInt ≤ 12) ∧ (∀ k : Nat, k < 1400 → (-1) ≤ (σ304 33 k).toInt ∧ (σ304 33 k).toInt ≤ 350) ∧ (∀ k : Nat, k < 3159 → (-1) ≤ (σ304 35 k).toInt ∧ (σ304 35 k).toInt ≤ 3) ∧ (∀ k : Nat, k < 1024 → 0 ≤ (σ304 36 k).toInt ∧ (σ304 36 k).toInt ≤ 349) := id I308
                                     have z320 : (σ304 31 10).toInt = A2 := ((congrArg Int32.toInt (show σ304 31 10 = a2 from ((f307 10 (of_decide_eq_true rfl)).trans ((f268 10 (of_decide_eq_true rfl)).trans ((f235 10 (of_decide_eq_true rfl)).trans ((f205 10 (of_decide_eq_true rfl)).trans ((jkp 10 eσ192 (of_decide_eq_true rfl)).trans ((jkp 10 eσ191 (of_decide_eq_true rfl)).trans ((jkp 10 eσ190 (of_decide_eq_true rfl)).trans (jsp eσ189)))))))))).trans t2)
                                     have z321 : (σ304 31 11).toInt = x16.toInt := (congrArg Int32.toInt (show σ304 31 11 = x16 from ((f307 11 (of_decide_eq_true rfl)).trans ((f268 11 (of_decide_eq_true rfl)).trans ((f235 11 (of_decide_eq_true rfl)).trans ((f205 11 (of_decide_eq_true rfl)).trans ((jkp 11 eσ192 (of_decide_eq_true rfl)).trans ((jkp 11 eσ191 (of_decide_eq_true rfl)).trans (jsp eσ190)))))))))
                                     have h322 := h304
                                     obtain ⟨q324, k323⟩ := h322
                                     refine lv_goto (tgt := 189) hx hb dX1_grow_185 (of_decide_eq_true rfl) ?_
                                     exact by
                                      refine jast hx hb hK hP hJ hA hS (jc_33 cI cL ad σ304 τ) (ja_33 cI cL ad σ304 τ _ _) (jin tx287 (by omega) (by omega)) dX1_grow_189 (fun σ325 H locs eσ325 hP hS => ?_)
                                      obtain ⟨x326, ex326⟩ : ∃ y : Int32, y = x261 + 1 := ⟨_, rfl⟩
                                      have tx326 : x326.toInt = x261.toInt + 1 := (jadd ex326 rfl jz_1 (by omega) (by omega)).trans (by omega)
                                      refine lv_iinc (v := x326) (lv' := [(8, .int x326), (7, .int x256), (6, .int x254), (5, .int x225), (4, .int 1), (3, .int x16), (0, .ref (ad 31)), (1, .int a1), (2, .int a2)]) hx hb dX1_grow_190 hl (k := 0) rfl (by rw [ex326]; rfl) (of_decide_eq_true rfl) rfl (fun ls hl => ?_)
                                      refine lv_goto (tgt := 143) hx hb dX1_grow_193 (of_decide_eq_true rfl) ?_
                                      have p327 : jKb σ325 := jKb.fr (congrFun (jnp 31 eσ325 (of_decide_eq_true rfl)) 8) (congrFun (jnp 31 eσ325 (of_decide_eq_true rfl)) 11) (jnp 32 eσ325 (of_decide_eq_true rfl)) p309
                                      have p328 : jKh σ325 := jKh.fr (congrFun (jnp 31 eσ325 (of_decide_eq_true rfl)) 8) (jnp 32 eσ325 (of_decide_eq_true rfl)) (jnp 36 eσ325 (of_decide_eq_true rfl)) (jnp 37 eσ325 (of_decide_eq_true rfl)) p310
                                      have z329 : (σ325 31 8).toInt = (σ304 31 8).toInt := (congrArg Int32.toInt (show σ325 31 8 = (σ304 31 8) from (congrFun (jnp 31 eσ325 (of_decide_eq_true rfl)) 8)))
                                      have z330 : (σ325 31 10).toInt = A2 := ((congrArg Int32.toInt (show σ325 31 10 = a2 from ((congrFun (jnp 31 eσ325 (of_decide_eq_true rfl)) 10).trans ((f307 10 (of_decide_eq_true rfl)).trans ((f268 10 (of_decide_eq_true rfl)).trans ((f235 10 (of_decide_eq_true rfl)).trans ((f205 10 (of_decide_eq_true rfl)).trans ((jkp 10 eσ192 (of_decide_eq_true rfl)).trans ((jkp 10 eσ191 (of_decide_eq_true rfl)).trans ((jkp 10 eσ190 (of_decide_eq_true rfl)).trans (jsp eσ189))))))))))).trans t2)
                                      exact by
                                       have z331 : (σ325 31 11).toInt = x16.toInt := (congrArg Int32.toInt (show σ325 31 11 = x16 from ((congrFun (jnp 31 eσ325 (of_decide_eq_true rfl)) 11).trans ((f307 11 (of_decide_eq_true rfl)).trans ((f268 11 (of_decide_eq_true rfl)).trans ((f235 11 (of_decide_eq_true rfl)).trans ((f205 11 (of_decide_eq_true rfl)).trans ((jkp 11 eσ192 (of_decide_eq_true rfl)).trans ((jkp 11 eσ191 (of_decide_eq_true rfl)).trans (jsp eσ190))))))))))
                                       have w332 : ∀ k : Nat, k < 1400 → (-1) ≤ (σ325 33 k).toInt ∧ (σ325 33 k).toInt ≤ 350 := (by rw [eσ325]; exact jrr_up w317 (by omega) (by omega))
                                       have w333 : ∀ k : Nat, k < 3159 → (-1) ≤ (σ325 35 k).toInt ∧ (σ325 35 k).toInt ≤ 3 := (jrr_fr (jnp 35 eσ325 (of_decide_eq_true rfl)) w318)
                                       have w334 : ∀ k : Nat, k < 1024 → 0 ≤ (σ325 36 k).toInt ∧ (σ325 36 k).toInt ≤ 349 := (jrr_fr (jnp 36 eσ325 (of_decide_eq_true rfl)) w319)
                                       have I335 : jI31 σ325 := ⟨(by omega), (by omega), (by omega), (by omega), w332, w333, w334⟩
                                       exact by exact ihlp259 x326 σ325 _ _ ls (by have h90 := tx326; omega) (by have h90 := tx326; omega) (by have h90 := tx326; omega) (fun i hi => ((jnp i eσ325 (imp_94 i hi)).trans ((f306 i (imp_86 i hi)).trans (f267 i hi)))) (fun i hi => ((congrFun (jnp 31 eσ325 (of_decide_eq_true rfl)) i).trans ((f307 i hi).trans (f268 i hi))))  p327 p328 I335 (by rw [show σ325 31 8 = σ304 31 8 from (congrFun (jnp 31 eσ325 (of_decide_eq_true rfl)) 8), show σ325 32 = σ304 32 from (jnp 32 eσ325 (of_decide_eq_true rfl)), show σ325 31 11 = σ262 31 11 from ((congrFun (jnp 31 eσ325 (of_decide_eq_true rfl)) 11).trans (f307 11 (of_decide_eq_true rfl))), show σ325 31 12 = σ262 31 12 from ((congrFun (jnp 31 eσ325 (of_decide_eq_true rfl)) 12).trans (f307 12 (of_decide_eq_true rfl)))]; exact ⟨(fun hm => jqGo.put (q272.1 hm) (by omega) (by omega) (by omega) (by omega) q272.2.1 ((jqMy_iff (by omega) (by omega)).mpr ((w290).elim (fun w => w.2) (fun w => absurd w.1 (of_decide_eq_true rfl)))) (w298 (by omega) (by omega)) w311 (by omega) p270 (by omega) (by rw [eσ325, jup_row, f306 33 (of_decide_eq_true rfl), jnc (show x287.toInt = 4 * x225.toInt + x261.toInt by have h9 := tx287; omega)]) rfl (by have h9 := tx326; omega)), (by rw [(w311).1 x225.toInt.toNat (by omega)]; exact q272.2.1), (by have w8 := jqAd.le w311; have w9 := q272.2.2; omega)⟩) hP hS (lv_sub hl [0, 1, 2, 3, 4, 5, 6, 7, 8] rfl)
                                 · obtain ⟨q337, k336⟩ := h292
                                   have q337 := q337.symm
                                   subst q337
                                   exact by
                                    refine lv_if_eq (tgt := 188) hx hb dX1_grow_167 (of_decide_eq_true rfl) (fun _ => ?_) (fun c => absurd (of_decide_eq_true rfl) c)
                                    refine lv_iconst (v := (-1)) hx hb dX1_grow_188 (of_decide_eq_true rfl) ?_
                                    refine jast hx hb hK hP hJ hA hS (jc_33 cI cL ad σ262 τ) (ja_33 cI cL ad σ262 τ _ _) (jin tx287 (by omega) (by omega)) dX1_grow_189 (fun σ338 H locs eσ338 hP hS => ?_)
                                    obtain ⟨x339, ex339⟩ : ∃ y : Int32, y = x261 + 1 := ⟨_, rfl⟩
                                    have tx339 : x339.toInt = x261.toInt + 1 := (jadd ex339 rfl jz_1 (by omega) (by omega)).trans (by omega)
                                    refine lv_iinc (v := x339) (lv' := [(8, .int x339), (7, .int x256), (6, .int x254), (5, .int x225), (4, .int 1), (3, .int x16), (0, .ref (ad 31)), (1, .int a1), (2, .int a2)]) hx hb dX1_grow_190 hl (k := 0) rfl (by rw [ex339]; rfl) (of_decide_eq_true rfl) rfl (fun ls hl => ?_)
                                    refine lv_goto (tgt := 143) hx hb dX1_grow_193 (of_decide_eq_true rfl) ?_
                                    have p340 : jKb σ338 := jKb.fr (congrFun (jnp 31 eσ338 (of_decide_eq_true rfl)) 8) (congrFun (jnp 31 eσ338 (of_decide_eq_true rfl)) 11) (jnp 32 eσ338 (of_decide_eq_true rfl)) p269
                                    have p341 : jKh σ338 := jKh.fr (congrFun (jnp 31 eσ338 (of_decide_eq_true rfl)) 8) (jnp 32 eσ338 (of_decide_eq_true rfl)) (jnp 36 eσ338 (of_decide_eq_true rfl)) (jnp 37 eσ338 (of_decide_eq_true rfl)) p270
                                    exact by
                                     have z342 : (σ338 31 8).toInt = (σ262 31 8).toInt := (congrArg Int32.toInt (show σ338 31 8 = (σ262 31 8) from (congrFun (jnp 31 eσ338 (of_decide_eq_true rfl)) 8)))
                                     have z343 : (σ338 31 10).toInt = A2 := ((congrArg Int32.toInt (show σ338 31 10 = a2 from ((congrFun (jnp 31 eσ338 (of_decide_eq_true rfl)) 10).trans ((f268 10 (of_decide_eq_true rfl)).trans ((f235 10 (of_decide_eq_true rfl)).trans ((f205 10 (of_decide_eq_true rfl)).trans ((jkp 10 eσ192 (of_decide_eq_true rfl)).trans ((jkp 10 eσ191 (of_decide_eq_true rfl)).trans ((jkp 10 eσ190 (of_decide_eq_true rfl)).trans (jsp eσ189)))))))))).trans t2)
                                     have z344 : (σ338 31 11).toInt = x16.toInt := (congrArg Int32.toInt (show σ338 31 11 = x16 from ((congrFun (jnp 31 eσ338 (of_decide_eq_true rfl)) 11).trans ((f268 11 (of_decide_eq_true rfl)).trans ((f235 11 (of_decide_eq_true rfl)).trans ((f205 11 (of_decide_eq_true rfl)).trans ((jkp 11 eσ192 (of_decide_eq_true rfl)).trans ((jkp 11 eσ191 (of_decide_eq_true rfl)).trans (jsp eσ190)))))))))
                                     have w345 : ∀ k : Nat, k < 1400 → (-1) ≤ (σ338 33 k).toInt ∧ (σ338 33 k).toInt ≤ 350 := (by rw [eσ338]; exact jrr_up w277 (by have h9 := jz_m1; omega) (by have h9 := jz_m1; omega))
                                     have w346 : ∀ k : Nat, k < 3159 → (-1) ≤ (σ338 35 k).toInt ∧ (σ338 35 k).toInt ≤ 3 := (jrr_fr (jnp 35 eσ338 (of_decide_eq_true rfl)) w278)
                                     have w347 : ∀ k : Nat, k < 1024 → 0 ≤ (σ338 36 k).toInt ∧ (σ338 36 k).toInt ≤ 349 := (jrr_fr (jnp 36 eσ338 (of_decide_eq_true rfl)) w279)
                                     have I348 : jI31 σ338 := ⟨(by omega), (by omega), (by omega), (by omega), w345, w346, w347⟩
                                     exact by exact ihlp259 x339 σ338 _ _ ls (by have h90 := tx339; omega) (by have h90 := tx339; omega) (by have h90 := tx339; omega) (fun i hi => ((jnp i eσ338 (imp_94 i hi)).trans (f267 i hi))) (fun i hi => ((congrFun (jnp 31 eσ338 (of_decide_eq_true rfl)) i).trans (f268 i hi)))  p340 p341 I348 (by rw [show σ338 31 8 = σ262 31 8 from (congrFun (jnp 31 eσ338 (of_decide_eq_true rfl)) 8), show σ338 31 11 = σ262 31 11 from (congrFun (jnp 31 eσ338 (of_decide_eq_true rfl)) 11), show σ338 31 12 = σ262 31 12 from (congrFun (jnp 31 eσ338 (of_decide_eq_true rfl)) 12), show σ338 32 = σ262 32 from (jnp 32 eσ338 (of_decide_eq_true rfl))]; exact ⟨(fun hm => jqGo.none (q272.1 hm) (by omega) (by omega) (by omega) (by omega) q272.2.1 (fun w => ((w290).elim (fun w => absurd w.1 (of_decide_eq_true rfl)) (fun w => w.2)) ((jqMy_iff (by omega) (by omega)).mp w)) (by rw [eσ338, jup_row, jnc (show x287.toInt = 4 * x225.toInt + x261.toInt by have h9 := tx287; omega)]) (of_decide_eq_true rfl) (by have h9 := tx339; omega)), q272.2.1, q272.2.2⟩) hP hS (lv_sub hl [0, 1, 2, 3, 4, 5, 6, 7, 8] rfl)
                        exact by exact lp259 1000000 0 σ229 _ _ ls (by have h90 := jz_0; omega) (by have h90 := jz_0; omega) (by have h90 := jz_0; omega) (fun _ _ => rfl) (fun _ _ => rfl)  p236 p237 p238 ⟨(by rw [show (0 : Int32).toInt = 0 from by decide]; exact q239), ⟨(by have w := jandm (x := (σ229 32 x225.toNatClampNeg)) (y := x254) (m := 134217727) (k := 27) (M := 134217728) (by rw [ex254]) rfl rfl (of_decide_eq_true rfl); show (σ229 32 x225.toNatClampNeg).toInt = _; omega), ⟨by omega, by omega⟩, (by omega)⟩, by omega⟩ hP hS hl
              exact by exact lp223 1000000 0 σ202 _ _ ls (by have h90 := jz_0; omega) (by have h90 := jz_0; omega) (by have h90 := jz_0; omega) (fun _ _ => rfl) (fun _ _ => rfl)  p207 p208 I206 (by rw [show σ202 31 11 = σ192 31 11 from (f205 11 (of_decide_eq_true rfl)), show σ202 31 12 = σ192 31 12 from (f205 12 (of_decide_eq_true rfl))]; exact (fun hm => jqGo.first hm (by have w := w209; rw [show (σ192 31 8).toInt = 0 from by omega] at w; exact w) rfl (by have h9 := jz_0; omega))) hP hS hl
         · exact by
            have kc187 := jeq c187 rfl rfl
            refine lv_aload_n hx hb dX1_grow_48 rfl (lv_at hl 2 rfl) ?_
            refine va_get (D := D) hx hb hts inlX1 hown hK hP 31 (jc_31 cI cL ad σ τ) rfl 12 (of_decide_eq_true rfl) (hts _ kw_28_8) (fun _ h9 => h9) rfl dX1_grow_49 ?_
            refine lv_iload hx hb dX1_grow_52 (lv_at hl 0 rfl) ?_
            refine lv_icmp_ne (tgt := 63) hx hb dX1_grow_54 (of_decide_eq_true rfl) (fun c349 => ?_) (fun c349 => ?_)
            · have kc349 := jne c349 rfl jz_1
              refine lv_aload_n hx hb dX1_grow_63 rfl (lv_at hl 2 rfl) ?_
              refine lv_iload_n hx hb dX1_grow_64 rfl (lv_at hl 3 rfl) ?_
              refine jput (ty := .int) hx hb hts inlX1 tyX1 tyX1_ok nmX1 hown hK hP hJ hA hS (jc_31 cI cL ad σ τ) rfl (k := 9) (of_decide_eq_true rfl) (Nat.le_of_ble_eq_true rfl) (jp_31_9 cI cL ad σ τ a1) (hts _ kw_5_9) (fun _ h9 => h9) rfl (by decide +kernel) rfl rfl dX1_grow_65 (fun σ350 H locs eσ350 hP hS => ?_)
              refine lv_aload_n hx hb dX1_grow_68 rfl (lv_at hl 2 rfl) ?_
              refine lv_iload_n hx hb dX1_grow_69 rfl (lv_at hl 4 rfl) ?_
              refine jput (ty := .int) hx hb hts inlX1 tyX1 tyX1_ok nmX1 hown hK hP hJ hA hS (jc_31 cI cL ad σ350 τ) rfl (k := 10) (of_decide_eq_true rfl) (Nat.le_of_ble_eq_true rfl) (jp_31_10 cI cL ad σ350 τ a2) (hts _ kw_28_9) (fun _ h9 => h9) rfl (by decide +kernel) rfl rfl dX1_grow_70 (fun σ351 H locs eσ351 hP hS => ?_)
              refine lv_aload_n hx hb dX1_grow_73 rfl (lv_at hl 2 rfl) ?_
              refine lv_iload_n hx hb dX1_grow_74 rfl (lv_at hl 1 rfl) ?_
              refine jput (ty := .int) hx hb hts inlX1 tyX1 tyX1_ok nmX1 hown hK hP hJ hA hS (jc_31 cI cL ad σ351 τ) rfl (k := 11) (of_decide_eq_true rfl) (Nat.le_of_ble_eq_true rfl) (jp_31_11 cI cL ad σ351 τ x16) (hts _ kw_28_7) (fun _ h9 => h9) rfl (by decide +kernel) rfl rfl dX1_grow_75 (fun σ352 H locs eσ352 hP hS => ?_)
              refine lv_aload_n hx hb dX1_grow_78 rfl (lv_at hl 2 rfl) ?_
              refine lv_iload hx hb dX1_grow_79 (lv_at hl 0 rfl) ?_
              refine jput (ty := .boolean) hx hb hts inlX1 tyX1 tyX1_ok nmX1 hown hK hP hJ hA hS (jc_31 cI cL ad σ352 τ) rfl (k := 12) (of_decide_eq_true rfl) (Nat.le_of_ble_eq_true rfl) (jp_31_12 cI cL ad σ352 τ 1) (hts _ kw_28_8) (fun _ h9 => h9) rfl (by decide +kernel) rfl rfl dX1_grow_81 (fun σ353 H locs eσ353 hP hS => ?_)
              refine lv_aload_n hx hb dX1_grow_84 rfl (lv_at hl 2 rfl) ?_
              refine lv_iconst (v := 0) hx hb dX1_grow_85 (of_decide_eq_true rfl) ?_
              refine jput (ty := .int) hx hb hts inlX1 tyX1 tyX1_ok nmX1 hown hK hP hJ hA hS (jc_31 cI cL ad σ353 τ) rfl (k := 8) (of_decide_eq_true rfl) (Nat.le_of_ble_eq_true rfl) (jp_31_8 cI cL ad σ353 τ 0) (hts _ kw_27_22) (fun _ h9 => h9) rfl (by decide +kernel) rfl rfl dX1_grow_86 (fun σ354 H locs eσ354 hP hS => ?_)
              have z355 : (σ354 31 8).toInt = 0 := ((congrArg Int32.toInt (show σ354 31 8 = 0 from (jsp eσ354))).trans jz_0)
              exact by
               have p356 : jKb σ354 := (jKb.nil (by omega))
               have p357 : jKh σ354 := (jKh.nil (by omega))
               refine lv_aload_n hx hb dX1_grow_89 rfl (lv_at hl 2 rfl) ?_
               refine lv_iload_n hx hb dX1_grow_90 rfl (lv_at hl 3 rfl) ?_
               refine lv_iconst (v := 0) hx hb dX1_grow_91 (of_decide_eq_true rfl) ?_
               have z358 : (σ354 31 10).toInt = A2 := ((congrArg Int32.toInt (show σ354 31 10 = a2 from ((jkp 10 eσ354 (of_decide_eq_true rfl)).trans ((jkp 10 eσ353 (of_decide_eq_true rfl)).trans ((jkp 10 eσ352 (of_decide_eq_true rfl)).trans (jsp eσ351)))))).trans t2)
               have z359 : (σ354 31 11).toInt = x16.toInt := (congrArg Int32.toInt (show σ354 31 11 = x16 from ((jkp 11 eσ354 (of_decide_eq_true rfl)).trans ((jkp 11 eσ353 (of_decide_eq_true rfl)).trans (jsp eσ352)))))
               have w360 : ∀ k : Nat, k < 1400 → (-1) ≤ (σ354 33 k).toInt ∧ (σ354 33 k).toInt ≤ 350 := (jrr_fr (jnp 33 eσ354 (of_decide_eq_true rfl)) (jrr_fr (jnp 33 eσ353 (of_decide_eq_true rfl)) (jrr_fr (jnp 33 eσ352 (of_decide_eq_true rfl)) (jrr_fr (jnp 33 eσ351 (of_decide_eq_true rfl)) (jrr_fr (jnp 33 eσ350 (of_decide_eq_true rfl)) w9)))))
               have w361 : ∀ k : Nat, k < 3159 → (-1) ≤ (σ354 35 k).toInt ∧ (σ354 35 k).toInt ≤ 3 := (jrr_fr (jnp 35 eσ354 (of_decide_eq_true rfl)) (jrr_fr (jnp 35 eσ353 (of_decide_eq_true rfl)) (jrr_fr (jnp 35 eσ352 (of_decide_eq_true rfl)) (jrr_fr (jnp 35 eσ351 (of_decide_eq_true rfl)) (jrr_fr (jnp 35 eσ350 (of_decide_eq_true rfl)) w10)))))
               exact by
                have w362 : ∀ k : Nat, k < 1024 → 0 ≤ (σ354 36 k).toInt ∧ (σ354 36 k).toInt ≤ 349 := (jrr_fr (jnp 36 eσ354 (of_decide_eq_true rfl)) (jrr_fr (jnp 36 eσ353 (of_decide_eq_true rfl)) (jrr_fr (jnp 36 eσ352 (of_decide_eq_true rfl)) (jrr_fr (jnp 36 eσ351 (of_decide_eq_true rfl)) (jrr_fr (jnp 36 eσ350 (of_decide_eq_true rfl)) w11)))))
                have I363 : jI31 σ354 := ⟨(by omega), (by omega), (by omega), (by omega), w360, w361, w362⟩
                refine jcallV (As := [.int a1, .int 0]) (rest := []) ⟨hx, hb, hml, hown, hts⟩ hK hP hA hS hZ (c_X1_add_31 l D cI cL ad zz hJ σ354 τ a1 (A1) t1 0 (0) jz_0 I363 p356 p357 (by omega) (by omega)) cw_RX1_111 (jc_31 cI cL ad σ354 τ) rfl ⟨Nat.le_of_ble_eq_true rfl, Nat.le_of_ble_eq_true rfl⟩ rfl rfl rfl hl.1 rfl (Nat.le_of_ble_eq_true rfl) dX1_grow_92 ⟨Nat.zero_le _, Nat.zero_le _⟩ (fun r365 σ364 τ364 H locs h364 hP hS => ?_)
                obtain ⟨rfl, f366, f367, I368, p369, p370, w371, h364⟩ := h364
                obtain ⟨i373, i374, i375, i376, w377, w378, w379⟩ : (0 ≤ (σ364 31 8).toInt ∧ (σ364 31 8).toInt ≤ 350) ∧ (0 ≤ (σ364 31 10).toInt ∧ (σ364 31 10).toInt ≤ 12) ∧ (0 ≤ (σ364 31 11).toInt ∧ (σ364 31 11).toInt ≤ 8) ∧ ((σ364 31 10).toInt + (σ364 31 11).toInt ≤ 12) ∧ (∀ k : Nat, k < 1400 → (-1) ≤ (σ364 33 k).toInt ∧ (σ364 33 k).toInt ≤ 350) ∧ (∀ k : Nat, k < 3159 → (-1) ≤ (σ364 35 k).toInt ∧ (σ364 35 k).toInt ≤ 3) ∧ (∀ k : Nat, k < 1024 → 0 ≤ (σ364 36 k).toInt ∧ (σ364 36 k).toInt ≤ 349) := id I368
                have z380 : (σ364 31 10).toInt = A2 := ((congrArg Int32.toInt (show σ364 31 10 = a2 from ((f367 10 (of_decide_eq_true rfl)).trans ((jkp 10 eσ354 (of_decide_eq_true rfl)).trans ((jkp 10 eσ353 (of_decide_eq_true rfl)).trans ((jkp 10 eσ352 (of_decide_eq_true rfl)).trans (jsp eσ351))))))).trans t2)
                have z381 : (σ364 31 11).toInt = x16.toInt := (congrArg Int32.toInt (show σ364 31 11 = x16 from ((f367 11 (of_decide_eq_true rfl)).trans ((jkp 11 eσ354 (of_decide_eq_true rfl)).trans ((jkp 11 eσ353 (of_decide_eq_true rfl)).trans (jsp eσ352))))))
                have h382 := h364
                obtain ⟨q384, k383⟩ := h382
                exact by
                 refine lv_pop hx hb dX1_grow_95 rfl ?_
                 refine lv_iconst (v := 0) hx hb dX1_grow_96 (of_decide_eq_true rfl) ?_
                 refine lv_istore (lv' := [(5, .int 0), (4, .int 1), (3, .int x16), (0, .ref (ad 31)), (1, .int a1), (2, .int a2)]) hx hb dX1_grow_97 hl (of_decide_eq_true rfl) rfl (fun ls hl => ?_)
                 have lp385 : ∀ (n386 : Nat) (x387 : Int32) (σ391 : Nat → Nat → Int32) (H : Heap) (locs : List Loc) (ls : Array Slot), (-x387.toInt + 350 : Int) < n386 → 0 ≤ x387.toInt → x387.toInt ≤ 350 → (∀ i : Nat, (i < 31 ∨ 33 < i) ∧ (i < 36 ∨ 37 < i) → σ391 i = σ364 i) → (∀ k : Nat, (k < 8 ∨ 8 < k) → σ391 31 k = σ364 31 k) → jKb σ391 → jKh σ391 → jI31 σ391 → (jFm a1 → jqGo a1 (decide ((σ391 31 12).toInt ≠ 0)) (σ391 31 11).toInt (σ391 31 8).toInt (σ391 32) (σ391 33) x387.toInt 0) → jH D cI cL ad σ391 τ H → va_S (jA ad) s.heap H locs → lv_has ls 9 [(5, .int x387), (4, .int 1), (3, .int x16), (0, .ref (ad 31)), (1, .int a1), (2, .int a2)] → W p l e ({ frames := 3, cells := 0, slots := 0, locals := 73 }) s m args below meth c H locs 0 0 Q (F0 m 99 ls []) := by
                   intro n386
                   induction n386 with
                   | zero => intro x387 σ391 H locs ls h393 h394 h395; exact absurd h393 (by omega)
                   | succ n386 ihlp385 =>
                     intro x387 σ391 H locs ls h393 h394 h395 f396 f397 p398 p399 p400 q401 hP hS hl
                     exact by
                      obtain ⟨i402, i403, i404, i405, w406, w407, w408⟩ : (0 ≤ (σ391 31 8).toInt ∧ (σ391 31 8).toInt ≤ 350) ∧ (0 ≤ (σ391 31 10).toInt ∧ (σ391 31 10).toInt ≤ 12) ∧ (0 ≤ (σ391 31 11).toInt ∧ (σ391 31 11).toInt ≤ 8) ∧ ((σ391 31 10).toInt + (σ391 31 11).toInt ≤ 12) ∧ (∀ k : Nat, k < 1400 → (-1) ≤ (σ391 33 k).toInt ∧ (σ391 33 k).toInt ≤ 350) ∧ (∀ k : Nat, k < 3159 → (-1) ≤ (σ391 35 k).toInt ∧ (σ391 35 k).toInt ≤ 3) ∧ (∀ k : Nat, k < 1024 → 0 ≤ (σ391 36 k).toInt ∧ (σ391 36 k).toInt ≤ 349) := id p400
                      have z409 : (σ391 31 10).toInt = A2 := ((congrArg Int32.toInt (show σ391 31 10 = a2 from ((f397 10 (of_decide_eq_true rfl)).trans ((f367 10 (of_decide_eq_true rfl)).trans ((jkp 10 eσ354 (of_decide_eq_true rfl)).trans ((jkp 10 eσ353 (of_decide_eq_true rfl)).trans ((jkp 10 eσ352 (of_decide_eq_true rfl)).trans (jsp eσ351)))))))).trans t2)
                      have z410 : (σ391 31 11).toInt = x16.toInt := (congrArg Int32.toInt (show σ391 31 11 = x16 from ((f397 11 (of_decide_eq_true rfl)).trans ((f367 11 (of_decide_eq_true rfl)).trans ((jkp 11 eσ354 (of_decide_eq_true rfl)).trans ((jkp 11 eσ353 (of_decide_eq_true rfl)).trans (jsp eσ352)))))))
                      refine lv_iload hx hb dX1_grow_99 (lv_at hl 0 rfl) ?_
                      refine lv_aload_n hx hb dX1_grow_101 rfl (lv_at hl 3 rfl) ?_
                      refine va_get (D := D) hx hb hts inlX1 hown hK hP 31 (jc_31 cI cL ad σ391 τ) rfl 8 (of_decide_eq_true rfl) (hts _ kw_27_22) (fun _ h9 => h9) rfl dX1_grow_102 ?_
                      refine lv_icmp_ge (tgt := 202) hx hb dX1_grow_105 (of_decide_eq_true rfl) (fun c411 => ?_) (fun c411 => ?_)
                      · have kc411 := jle c411 rfl rfl
                        have p412 : jKg σ391 := (show jFm (σ391 31 9) → _ from by rw [show σ391 31 9 = a1 from ((f397 9 (of_decide_eq_true rfl)).trans ((f367 9 (of_decide_eq_true rfl)).trans ((jkp 9 eσ354 (of_decide_eq_true rfl)).trans ((jkp 9 eσ353 (of_decide_eq_true rfl)).trans ((jkp 9 eσ352 (of_decide_eq_true rfl)).trans ((jkp 9 eσ351 (of_decide_eq_true rfl)).trans (jsp eσ350)))))))]; exact fun hm => (q401 hm).fin (by omega))
                        exact by
                         have z413 : (σ391 31 9).toInt = A1 := ((congrArg Int32.toInt (show σ391 31 9 = a1 from ((f397 9 (of_decide_eq_true rfl)).trans ((f367 9 (of_decide_eq_true rfl)).trans ((jkp 9 eσ354 (of_decide_eq_true rfl)).trans ((jkp 9 eσ353 (of_decide_eq_true rfl)).trans ((jkp 9 eσ352 (of_decide_eq_true rfl)).trans ((jkp 9 eσ351 (of_decide_eq_true rfl)).trans (jsp eσ350))))))))).trans t1)
                         have z414 : (σ391 31 12).toInt = 1 := ((congrArg Int32.toInt (show σ391 31 12 = 1 from ((f397 12 (of_decide_eq_true rfl)).trans ((f367 12 (of_decide_eq_true rfl)).trans ((jkp 12 eσ354 (of_decide_eq_true rfl)).trans (jsp eσ353)))))).trans jz_1)
                         exact by exact hret σ391 τ _ _ _ _ ⟨rfl, (fun i hi => ((f396 i hi).trans ((f366 i (imp_86 i hi)).trans ((jnp i eσ354 (imp_87 i hi)).trans ((jnp i eσ353 (imp_87 i hi)).trans ((jnp i eσ352 (imp_87 i hi)).trans ((jnp i eσ351 (imp_87 i hi)).trans (jnp i eσ350 (imp_87 i hi))))))))), (fun i hi => ((f397 i (imp_88 i hi)).trans ((f367 i (imp_88 i hi)).trans ((jkp i eσ354 (imp_89 i hi)).trans ((jkp i eσ353 (imp_90 i hi)).trans ((jkp i eσ352 (imp_91 i hi)).trans ((jkp i eσ351 (imp_92 i hi)).trans (jkp i eσ350 (imp_93 i hi))))))))), p400, p398, p399, p412, (by rw [show σ391 31 12 = 1 from ((f397 12 (of_decide_eq_true rfl)).trans ((f367 12 (of_decide_eq_true rfl)).trans ((jkp 12 eσ354 (of_decide_eq_true rfl)).trans (jsp eσ353))))]; exact w20), (show jqGk σ σ391 a1 (σ391 31 11).toInt from fun _ _ h3 h4 => False.elim (by have z9 : (1 : Int32).toInt = 1 := (of_decide_eq_true rfl); have w9 : (σ 31 12).toInt ≠ 0 ↔ (1 : Int32).toInt ≠ 0 := h3.trans (Iff.symm w20); omega)), (by omega), (by omega), (by omega), (by omega), trivial⟩ hP hS dX1_grow_202
                      · have kc411 := jnle c411 rfl rfl
                        refine lv_iload hx hb dX1_grow_108 (lv_at hl 0 rfl) ?_
                        refine lv_sipush (v := 350) hx hb dX1_grow_110 (of_decide_eq_true rfl) ?_
                        refine lv_icmp_ge (tgt := 202) hx hb dX1_grow_113 (of_decide_eq_true rfl) (fun c => absurd (jle c jz_350 rfl) (by omega)) (fun c415 => ?_)
                        have kc415 := jnle c415 jz_350 rfl
                        refine lv_aload_n hx hb dX1_grow_116 rfl (lv_at hl 3 rfl) ?_
                        exact by
                         refine va_get (D := D) hx hb hts inlX1 hown hK hP 31 (jc_31 cI cL ad σ391 τ) rfl 2 (of_decide_eq_true rfl) (hts _ kw_5_3) (fun _ h9 => h9) rfl dX1_grow_117 ?_
                         refine lv_iload hx hb dX1_grow_120 (lv_at hl 0 rfl) ?_
                         refine jald hx hb hK hP (jc_32 cI cL ad σ391 τ) (jin rfl (by omega) (by omega)) dX1_grow_122 ?_
                         refine jtopr (y := (σ391 32 x387.toNatClampNeg)) rfl ?_
                         refine lv_ldc (v := 134217727) hx hb hown (hts _ kw_28_10) dX1_grow_123 ?_
                         refine lv_iand hx hb dX1_grow_125 ?_
                         refine lv_topi (fun x416 ex416 => ?_)
                         have gx416 := jrg (rfl : x416.toInt = x416.toInt)
                         have g417 : 0 ≤ x416.toInt ∧ x416.toInt ≤ 134217727 := jmask ex416 27 (of_decide_eq_true rfl) (of_decide_eq_true rfl)
                         exact by
                          refine lv_istore (lv' := [(6, .int x416), (5, .int x387), (4, .int 1), (3, .int x16), (0, .ref (ad 31)), (1, .int a1), (2, .int a2)]) hx hb dX1_grow_126 hl (of_decide_eq_true rfl) rfl (fun ls hl => ?_)
                          refine lv_aload_n hx hb dX1_grow_128 rfl (lv_at hl 4 rfl) ?_
                          refine va_get (D := D) hx hb hts inlX1 hown hK hP 31 (jc_31 cI cL ad σ391 τ) rfl 2 (of_decide_eq_true rfl) (hts _ kw_5_3) (fun _ h9 => h9) rfl dX1_grow_129 ?_
                          refine lv_iload hx hb dX1_grow_132 (lv_at hl 1 rfl) ?_
                          refine jald hx hb hK hP (jc_32 cI cL ad σ391 τ) (jin rfl (by omega) (by omega)) dX1_grow_134 ?_
                          refine jtopr (y := (σ391 32 x387.toNatClampNeg)) rfl ?_
                          refine lv_bipush (v := 27) hx hb dX1_grow_135 (of_decide_eq_true rfl) ?_
                          refine lv_ishr hx hb dX1_grow_137 ?_
                          refine lv_topi (fun x418 ex418 => ?_)
                          exact by
                           have gx418 := jrg (rfl : x418.toInt = x418.toInt)
                           have k419 := jshr27 (x := x418) (k := (σ391 32 x387.toNatClampNeg)) (by rw [ex418])
                           have k420 := p398 x387.toNatClampNeg (by rw [jnc (rfl : x387.toInt = x387.toInt)]; omega)
                           refine lv_istore (lv' := [(7, .int x418), (6, .int x416), (5, .int x387), (4, .int 1), (3, .int x16), (0, .ref (ad 31)), (1, .int a1), (2, .int a2)]) hx hb dX1_grow_138 hl (of_decide_eq_true rfl) rfl (fun ls hl => ?_)
                           refine lv_iconst (v := 0) hx hb dX1_grow_140 (of_decide_eq_true rfl) ?_
                           refine lv_istore (lv' := [(8, .int 0), (7, .int x418), (6, .int x416), (5, .int x387), (4, .int 1), (3, .int x16), (0, .ref (ad 31)), (1, .int a1), (2, .int a2)]) hx hb dX1_grow_141 hl (of_decide_eq_true rfl) rfl (fun ls hl => ?_)
                           have lp421 : ∀ (n422 : Nat) (x423 : Int32) (σ424 : Nat → Nat → Int32) (H : Heap) (locs : List Loc) (ls : Array Slot), (-x423.toInt + 4 : Int) < n422 → 0 ≤ x423.toInt → x423.toInt ≤ 4 → (∀ i : Nat, (i < 31 ∨ 33 < i) ∧ (i < 36 ∨ 37 < i) → σ424 i = σ391 i) → (∀ k : Nat, (k < 8 ∨ 8 < k) → σ424 31 k = σ391 31 k) → jKb σ424 → jKh σ424 → jI31 σ424 → ((jFm a1 → jqGo a1 (decide ((σ424 31 12).toInt ≠ 0)) (σ424 31 11).toInt (σ424 31 8).toInt (σ424 32) (σ424 33) x387.toInt x423.toInt) ∧ jqNo (σ424 32 x387.toInt.toNat) x416 x418.toInt ∧ x387.toInt < (σ424 31 8).toInt) → jH D cI cL ad σ424 τ H → va_S (jA ad) s.heap H locs → lv_has ls 9 [(8, .int x423), (7, .int x418), (6, .int x416), (5, .int x387), (4, .int 1), (3, .int x16), (0, .ref (ad 31)), (1, .int a1), (2, .int a2)] → W p l e ({ frames := 3, cells := 0, slots := 0, locals := 73 }) s m args below meth c H locs 0 0 Q (F0 m 143 ls []) := by
                             intro n422
                             induction n422 with
                             | zero => intro x423 σ424 H locs ls h426 h427 h428; exact absurd h426 (by omega)
                             | succ n422 ihlp421 =>
                               intro x423 σ424 H locs ls h426 h427 h428 f429 f430 p431 p432 p433 q434 hP hS hl
                               exact by
                                obtain ⟨i435, i436, i437, i438, w439, w440, w441⟩ : (0 ≤ (σ424 31 8).toInt ∧ (σ424 31 8).toInt ≤ 350) ∧ (0 ≤ (σ424 31 10).toInt ∧ (σ424 31 10).toInt ≤ 12) ∧ (0 ≤ (σ424 31 11).toInt ∧ (σ424 31 11).toInt ≤ 8) ∧ ((σ424 31 10).toInt + (σ424 31 11).toInt ≤ 12) ∧ (∀ k : Nat, k < 1400 → (-1) ≤ (σ424 33 k).toInt ∧ (σ424 33 k).toInt ≤ 350) ∧ (∀ k : Nat, k < 3159 → (-1) ≤ (σ424 35 k).toInt ∧ (σ424 35 k).toInt ≤ 3) ∧ (∀ k : Nat, k < 1024 → 0 ≤ (σ424 36 k).toInt ∧ (σ424 36 k).toInt ≤ 349) := id p433
                                have z442 : (σ424 31 10).toInt = A2 := ((congrArg Int32.toInt (show σ424 31 10 = a2 from ((f430 10 (of_decide_eq_true rfl)).trans ((f397 10 (of_decide_eq_true rfl)).trans ((f367 10 (of_decide_eq_true rfl)).trans ((jkp 10 eσ354 (of_decide_eq_true rfl)).trans ((jkp 10 eσ353 (of_decide_eq_true rfl)).trans ((jkp 10 eσ352 (of_decide_eq_true rfl)).trans (jsp eσ351))))))))).trans t2)
                                have z443 : (σ424 31 11).toInt = x16.toInt := (congrArg Int32.toInt (show σ424 31 11 = x16 from ((f430 11 (of_decide_eq_true rfl)).trans ((f397 11 (of_decide_eq_true rfl)).trans ((f367 11 (of_decide_eq_true rfl)).trans ((jkp 11 eσ354 (of_decide_eq_true rfl)).trans ((jkp 11 eσ353 (of_decide_eq_true rfl)).trans (jsp eσ352))))))))
                                refine lv_iload hx hb dX1_grow_143 (lv_at hl 0 rfl) ?_
                                refine lv_iconst (v := 4) hx hb dX1_grow_145 (of_decide_eq_true rfl) ?_
                                refine lv_icmp_ge (tgt := 196) hx hb dX1_grow_146 (of_decide_eq_true rfl) (fun c444 => ?_) (fun c444 => ?_)
                                · have kc444 := jle c444 jz_4 rfl
                                  obtain ⟨x445, ex445⟩ : ∃ y : Int32, y = x387 + 1 := ⟨_, rfl⟩
                                  have tx445 : x445.toInt = x387.toInt + 1 := (jadd ex445 rfl jz_1 (by omega) (by omega)).trans (by omega)
                                  exact by
                                   refine lv_iinc (v := x445) (lv' := [(5, .int x445), (8, .int x423), (7, .int x418), (6, .int x416), (4, .int 1), (3, .int x16), (0, .ref (ad 31)), (1, .int a1), (2, .int a2)]) hx hb dX1_grow_196 hl (k := 3) rfl (by rw [ex445]; rfl) (of_decide_eq_true rfl) rfl (fun ls hl => ?_)
                                   refine lv_goto (tgt := 99) hx hb dX1_grow_199 (of_decide_eq_true rfl) ?_
                                   exact by exact ihlp385 x445 σ424 _ _ ls (by have h90 := tx445; omega) (by have h90 := tx445; omega) (by have h90 := tx445; omega) (fun i hi => ((f429 i hi).trans (f396 i hi))) (fun i hi => ((f430 i hi).trans (f397 i hi)))  p431 p432 p433 (fun hm => jqGo.row (q434.1 hm) (by omega) (by have h9 := tx445; omega) (by omega) q434.2.2) hP hS (lv_sub hl [0, 4, 5, 6, 7, 8] rfl)
                                · have kc444 := jnle c444 jz_4 rfl
                                  refine lv_aload_n hx hb dX1_grow_149 rfl (lv_at hl 6 rfl) ?_
                                  refine va_get (D := D) hx hb hts inlX1 hown hK hP 31 (jc_31 cI cL ad σ424 τ) rfl 3 (of_decide_eq_true rfl) (hts _ kw_5_4) (fun _ h9 => h9) rfl dX1_grow_150 ?_
                                  refine lv_iload hx hb dX1_grow_153 (lv_at hl 3 rfl) ?_
                                  refine lv_iconst (v := 4) hx hb dX1_grow_155 (of_decide_eq_true rfl) ?_
                                  have g446 := jrg (rfl : x387.toInt = x387.toInt)
                                  refine lv_imul hx hb dX1_grow_156 ?_
                                  refine lv_topi (fun x447 ex447 => ?_)
                                  exact by
                                   have tx447 : x447.toInt = 4 * x387.toInt := (jmul ex447 rfl jz_4 (by omega) (by omega)).trans (by omega)
                                   refine lv_iload hx hb dX1_grow_157 (lv_at hl 0 rfl) ?_
                                   have g448 := jrg (rfl : x423.toInt = x423.toInt)
                                   refine lv_iadd hx hb dX1_grow_159 ?_
                                   refine lv_topi (fun x449 ex449 => ?_)
                                   have tx449 : x449.toInt = 4 * x387.toInt + x423.toInt := (jadd ex449 tx447 rfl (by omega) (by omega)).trans (by omega)
                                   refine lv_iload hx hb dX1_grow_160 (lv_at hl 2 rfl) ?_
                                   refine lv_iload hx hb dX1_grow_162 (lv_at hl 0 rfl) ?_
                                   refine jcallS (As := [.int x416, .int x423]) (rest := [.int x449, .ref (ad 33)]) ⟨hx, hb, hml, hown, hts⟩ hK hP hA hS hZ (c_X0_mayBowl l D cI cL ad zz hJ σ424 τ x416 (x416.toInt) rfl x423 (x423.toInt) rfl) cw_RX1_115 ⟨Nat.le_of_ble_eq_true rfl, Nat.le_of_ble_eq_true rfl⟩ rfl rfl rfl hl.1 rfl (Nat.le_of_ble_eq_true rfl) dX1_grow_164 ⟨Nat.zero_le _, Nat.zero_le _⟩ (fun r451 σ450 τ450 H locs h450 hP hS => ?_)
                                   exact by
                                    obtain ⟨⟨rfl, rfl⟩, w452, h450⟩ := h450
                                    rcases h450 with h453 | h454
                                    · obtain ⟨q456, k455⟩ := h453
                                      have q456 := q456.symm
                                      subst q456
                                      refine lv_if_eq (tgt := 188) hx hb dX1_grow_167 (of_decide_eq_true rfl) (fun c => absurd c (of_decide_eq_true rfl)) (fun _ => ?_)
                                      refine lv_aload_n hx hb dX1_grow_170 rfl (lv_at hl 6 rfl) ?_
                                      refine lv_iload hx hb dX1_grow_171 (lv_at hl 2 rfl) ?_
                                      refine lv_iload hx hb dX1_grow_173 (lv_at hl 0 rfl) ?_
                                      exact by
                                       refine jcallS (As := [.int x416, .int x423]) (rest := [.ref (ad 31), .int x449, .ref (ad 33)]) ⟨hx, hb, hml, hown, hts⟩ hK hP hA hS hZ (c_X0_after_r l D cI cL ad zz hJ σ424 τ x416 (x416.toInt) rfl x423 (x423.toInt) rfl (by omega)) cw_RX1_119 ⟨Nat.le_of_ble_eq_true rfl, Nat.le_of_ble_eq_true rfl⟩ rfl rfl rfl hl.1 rfl (Nat.le_of_ble_eq_true rfl) dX1_grow_175 ⟨Nat.zero_le _, Nat.zero_le _⟩ (fun r458 σ457 τ457 H locs h457 hP hS => ?_)
                                       obtain ⟨⟨rfl, rfl⟩, w459, w460, h457⟩ := h457
                                       have h461 := h457
                                       obtain ⟨q463, k462⟩ := h461
                                       refine lv_iload hx hb dX1_grow_178 (lv_at hl 1 rfl) ?_
                                       refine lv_iconst (v := 1) hx hb dX1_grow_180 (of_decide_eq_true rfl) ?_
                                       have g464 := jrg (rfl : x418.toInt = x418.toInt)
                                       refine lv_iadd hx hb dX1_grow_181 ?_
                                       refine lv_topi (fun x465 ex465 => ?_)
                                       exact by
                                        have tx465 : x465.toInt = x418.toInt + 1 := (jadd ex465 rfl jz_1 (by omega) (by omega)).trans (by omega)
                                        refine jcallV (As := [.int r458, .int x465]) (rest := [.int x449, .ref (ad 33)]) ⟨hx, hb, hml, hown, hts⟩ hK hP hA hS hZ (c_X1_add_31 l D cI cL ad zz hJ σ424 τ r458 (r458.toInt) rfl x465 (x418.toInt + 1) tx465 p433 p431 p432 (by omega) (by omega)) cw_RX1_111 (jc_31 cI cL ad σ424 τ) rfl ⟨Nat.le_of_ble_eq_true rfl, Nat.le_of_ble_eq_true rfl⟩ rfl rfl rfl hl.1 rfl (Nat.le_of_ble_eq_true rfl) dX1_grow_182 ⟨Nat.zero_le _, Nat.zero_le _⟩ (fun r467 σ466 τ466 H locs h466 hP hS => ?_)
                                        obtain ⟨rfl, f468, f469, I470, p471, p472, w473, h466⟩ := h466
                                        obtain ⟨i475, i476, i477, i478, w479, w480, w481⟩ : (0 ≤ (σ466 31 8).toInt ∧ (σ466 31 8).toInt ≤ 350) ∧ (0 ≤ (σ466 31 10).toInt ∧ (σ466 31 10).toInt ≤ 12) ∧ (0 ≤ (σ466 31 11).toInt ∧ (σ466 31 11).toInt ≤ 8) ∧ ((σ466 31 10).toInt + (σ466 31 11).toInt ≤ 12) ∧ (∀ k : Nat, k < 1400 → (-1) ≤ (σ466 33 k).toInt ∧ (σ466 33 k).toInt ≤ 350) ∧ (∀ k : Nat, k < 3159 → (-1) ≤ (σ466 35 k).toInt ∧ (σ466 35 k).toInt ≤ 3) ∧ (∀ k : Nat, k < 1024 → 0 ≤ (σ466 36 k).toInt ∧ (σ466 36 k).toInt ≤ 349) := id I470
                                        have z482 : (σ466 31 10).toInt = A2 := ((congrArg Int32.toInt (show σ466 31 10 = a2 from ((f469 10 (of_decide_eq_true rfl)).trans ((f430 10 (of_decide_eq_true rfl)).trans ((f397 10 (of_decide_eq_true rfl)).trans ((f367 10 (of_decide_eq_true rfl)).trans ((jkp 10 eσ354 (of_decide_eq_true rfl)).trans ((jkp 10 eσ353 (of_decide_eq_true rfl)).trans ((jkp 10 eσ352 (of_decide_eq_true rfl)).trans (jsp eσ351)))))))))).trans t2)
                                        have z483 : (σ466 31 11).toInt = x16.toInt := (congrArg Int32.toInt (show σ466 31 11 = x16 from ((f469 11 (of_decide_eq_true rfl)).trans ((f430 11 (of_decide_eq_true rfl)).trans ((f397 11 (of_decide_eq_true rfl)).trans ((f367 11 (of_decide_eq_true rfl)).trans ((jkp 11 eσ354 (of_decide_eq_true rfl)).trans ((jkp 11 eσ353 (of_decide_eq_true rfl)).trans (jsp eσ352)))))))))
                                        have h484 := h466
                                        obtain ⟨q486, k485⟩ := h484
                                        refine lv_goto (tgt := 189) hx hb dX1_grow_185 (of_decide_eq_true rfl) ?_
                                        exact by
                                         refine jast hx hb hK hP hJ hA hS (jc_33 cI cL ad σ466 τ) (ja_33 cI cL ad σ466 τ _ _) (jin tx449 (by omega) (by omega)) dX1_grow_189 (fun σ487 H locs eσ487 hP hS => ?_)
                                         obtain ⟨x488, ex488⟩ : ∃ y : Int32, y = x423 + 1 := ⟨_, rfl⟩
                                         have tx488 : x488.toInt = x423.toInt + 1 := (jadd ex488 rfl jz_1 (by omega) (by omega)).trans (by omega)
                                         refine lv_iinc (v := x488) (lv' := [(8, .int x488), (7, .int x418), (6, .int x416), (5, .int x387), (4, .int 1), (3, .int x16), (0, .ref (ad 31)), (1, .int a1), (2, .int a2)]) hx hb dX1_grow_190 hl (k := 0) rfl (by rw [ex488]; rfl) (of_decide_eq_true rfl) rfl (fun ls hl => ?_)
                                         refine lv_goto (tgt := 143) hx hb dX1_grow_193 (of_decide_eq_true rfl) ?_
                                         have p489 : jKb σ487 := jKb.fr (congrFun (jnp 31 eσ487 (of_decide_eq_true rfl)) 8) (congrFun (jnp 31 eσ487 (of_decide_eq_true rfl)) 11) (jnp 32 eσ487 (of_decide_eq_true rfl)) p471
                                         have p490 : jKh σ487 := jKh.fr (congrFun (jnp 31 eσ487 (of_decide_eq_true rfl)) 8) (jnp 32 eσ487 (of_decide_eq_true rfl)) (jnp 36 eσ487 (of_decide_eq_true rfl)) (jnp 37 eσ487 (of_decide_eq_true rfl)) p472
                                         have z491 : (σ487 31 8).toInt = (σ466 31 8).toInt := (congrArg Int32.toInt (show σ487 31 8 = (σ466 31 8) from (congrFun (jnp 31 eσ487 (of_decide_eq_true rfl)) 8)))
                                         have z492 : (σ487 31 10).toInt = A2 := ((congrArg Int32.toInt (show σ487 31 10 = a2 from ((congrFun (jnp 31 eσ487 (of_decide_eq_true rfl)) 10).trans ((f469 10 (of_decide_eq_true rfl)).trans ((f430 10 (of_decide_eq_true rfl)).trans ((f397 10 (of_decide_eq_true rfl)).trans ((f367 10 (of_decide_eq_true rfl)).trans ((jkp 10 eσ354 (of_decide_eq_true rfl)).trans ((jkp 10 eσ353 (of_decide_eq_true rfl)).trans ((jkp 10 eσ352 (of_decide_eq_true rfl)).trans (jsp eσ351))))))))))).trans t2)
                                         exact by
                                          have z493 : (σ487 31 11).toInt = x16.toInt := (congrArg Int32.toInt (show σ487 31 11 = x16 from ((congrFun (jnp 31 eσ487 (of_decide_eq_true rfl)) 11).trans ((f469 11 (of_decide_eq_true rfl)).trans ((f430 11 (of_decide_eq_true rfl)).trans ((f397 11 (of_decide_eq_true rfl)).trans ((f367 11 (of_decide_eq_true rfl)).trans ((jkp 11 eσ354 (of_decide_eq_true rfl)).trans ((jkp 11 eσ353 (of_decide_eq_true rfl)).trans (jsp eσ352))))))))))
                                          have w494 : ∀ k : Nat, k < 1400 → (-1) ≤ (σ487 33 k).toInt ∧ (σ487 33 k).toInt ≤ 350 := (by rw [eσ487]; exact jrr_up w479 (by omega) (by omega))
                                          have w495 : ∀ k : Nat, k < 3159 → (-1) ≤ (σ487 35 k).toInt ∧ (σ487 35 k).toInt ≤ 3 := (jrr_fr (jnp 35 eσ487 (of_decide_eq_true rfl)) w480)
                                          have w496 : ∀ k : Nat, k < 1024 → 0 ≤ (σ487 36 k).toInt ∧ (σ487 36 k).toInt ≤ 349 := (jrr_fr (jnp 36 eσ487 (of_decide_eq_true rfl)) w481)
                                          have I497 : jI31 σ487 := ⟨(by omega), (by omega), (by omega), (by omega), w494, w495, w496⟩
                                          exact by exact ihlp421 x488 σ487 _ _ ls (by have h90 := tx488; omega) (by have h90 := tx488; omega) (by have h90 := tx488; omega) (fun i hi => ((jnp i eσ487 (imp_94 i hi)).trans ((f468 i (imp_86 i hi)).trans (f429 i hi)))) (fun i hi => ((congrFun (jnp 31 eσ487 (of_decide_eq_true rfl)) i).trans ((f469 i hi).trans (f430 i hi))))  p489 p490 I497 (by rw [show σ487 31 8 = σ466 31 8 from (congrFun (jnp 31 eσ487 (of_decide_eq_true rfl)) 8), show σ487 32 = σ466 32 from (jnp 32 eσ487 (of_decide_eq_true rfl)), show σ487 31 11 = σ424 31 11 from ((congrFun (jnp 31 eσ487 (of_decide_eq_true rfl)) 11).trans (f469 11 (of_decide_eq_true rfl))), show σ487 31 12 = σ424 31 12 from ((congrFun (jnp 31 eσ487 (of_decide_eq_true rfl)) 12).trans (f469 12 (of_decide_eq_true rfl)))]; exact ⟨(fun hm => jqGo.put (q434.1 hm) (by omega) (by omega) (by omega) (by omega) q434.2.1 ((jqMy_iff (by omega) (by omega)).mpr ((w452).elim (fun w => w.2) (fun w => absurd w.1 (of_decide_eq_true rfl)))) (w460 (by omega) (by omega)) w473 (by omega) p432 (by omega) (by rw [eσ487, jup_row, f468 33 (of_decide_eq_true rfl), jnc (show x449.toInt = 4 * x387.toInt + x423.toInt by have h9 := tx449; omega)]) rfl (by have h9 := tx488; omega)), (by rw [(w473).1 x387.toInt.toNat (by omega)]; exact q434.2.1), (by have w8 := jqAd.le w473; have w9 := q434.2.2; omega)⟩) hP hS (lv_sub hl [0, 1, 2, 3, 4, 5, 6, 7, 8] rfl)
                                    · obtain ⟨q499, k498⟩ := h454
                                      have q499 := q499.symm
                                      subst q499
                                      exact by
                                       refine lv_if_eq (tgt := 188) hx hb dX1_grow_167 (of_decide_eq_true rfl) (fun _ => ?_) (fun c => absurd (of_decide_eq_true rfl) c)
                                       refine lv_iconst (v := (-1)) hx hb dX1_grow_188 (of_decide_eq_true rfl) ?_
                                       refine jast hx hb hK hP hJ hA hS (jc_33 cI cL ad σ424 τ) (ja_33 cI cL ad σ424 τ _ _) (jin tx449 (by omega) (by omega)) dX1_grow_189 (fun σ500 H locs eσ500 hP hS => ?_)
                                       obtain ⟨x501, ex501⟩ : ∃ y : Int32, y = x423 + 1 := ⟨_, rfl⟩
                                       have tx501 : x501.toInt = x423.toInt + 1 := (jadd ex501 rfl jz_1 (by omega) (by omega)).trans (by omega)
                                       refine lv_iinc (v := x501) (lv' := [(8, .int x501), (7, .int x418), (6, .int x416), (5, .int x387), (4, .int 1), (3, .int x16), (0, .ref (ad 31)), (1, .int a1), (2, .int a2)]) hx hb dX1_grow_190 hl (k := 0) rfl (by rw [ex501]; rfl) (of_decide_eq_true rfl) rfl (fun ls hl => ?_)
                                       refine lv_goto (tgt := 143) hx hb dX1_grow_193 (of_decide_eq_true rfl) ?_
                                       have p502 : jKb σ500 := jKb.fr (congrFun (jnp 31 eσ500 (of_decide_eq_true rfl)) 8) (congrFun (jnp 31 eσ500 (of_decide_eq_true rfl)) 11) (jnp 32 eσ500 (of_decide_eq_true rfl)) p431
                                       have p503 : jKh σ500 := jKh.fr (congrFun (jnp 31 eσ500 (of_decide_eq_true rfl)) 8) (jnp 32 eσ500 (of_decide_eq_true rfl)) (jnp 36 eσ500 (of_decide_eq_true rfl)) (jnp 37 eσ500 (of_decide_eq_true rfl)) p432
                                       exact by
                                        have z504 : (σ500 31 8).toInt = (σ424 31 8).toInt := (congrArg Int32.toInt (show σ500 31 8 = (σ424 31 8) from (congrFun (jnp 31 eσ500 (of_decide_eq_true rfl)) 8)))
                                        have z505 : (σ500 31 10).toInt = A2 := ((congrArg Int32.toInt (show σ500 31 10 = a2 from ((congrFun (jnp 31 eσ500 (of_decide_eq_true rfl)) 10).trans ((f430 10 (of_decide_eq_true rfl)).trans ((f397 10 (of_decide_eq_true rfl)).trans ((f367 10 (of_decide_eq_true rfl)).trans ((jkp 10 eσ354 (of_decide_eq_true rfl)).trans ((jkp 10 eσ353 (of_decide_eq_true rfl)).trans ((jkp 10 eσ352 (of_decide_eq_true rfl)).trans (jsp eσ351)))))))))).trans t2)
                                        have z506 : (σ500 31 11).toInt = x16.toInt := (congrArg Int32.toInt (show σ500 31 11 = x16 from ((congrFun (jnp 31 eσ500 (of_decide_eq_true rfl)) 11).trans ((f430 11 (of_decide_eq_true rfl)).trans ((f397 11 (of_decide_eq_true rfl)).trans ((f367 11 (of_decide_eq_true rfl)).trans ((jkp 11 eσ354 (of_decide_eq_true rfl)).trans ((jkp 11 eσ353 (of_decide_eq_true rfl)).trans (jsp eσ352)))))))))
                                        have w507 : ∀ k : Nat, k < 1400 → (-1) ≤ (σ500 33 k).toInt ∧ (σ500 33 k).toInt ≤ 350 := (by rw [eσ500]; exact jrr_up w439 (by have h9 := jz_m1; omega) (by have h9 := jz_m1; omega))
                                        have w508 : ∀ k : Nat, k < 3159 → (-1) ≤ (σ500 35 k).toInt ∧ (σ500 35 k).toInt ≤ 3 := (jrr_fr (jnp 35 eσ500 (of_decide_eq_true rfl)) w440)
                                        have w509 : ∀ k : Nat, k < 1024 → 0 ≤ (σ500 36 k).toInt ∧ (σ500 36 k).toInt ≤ 349 := (jrr_fr (jnp 36 eσ500 (of_decide_eq_true rfl)) w441)
                                        have I510 : jI31 σ500 := ⟨(by omega), (by omega), (by omega), (by omega), w507, w508, w509⟩
                                        exact by exact ihlp421 x501 σ500 _ _ ls (by have h90 := tx501; omega) (by have h90 := tx501; omega) (by have h90 := tx501; omega) (fun i hi => ((jnp i eσ500 (imp_94 i hi)).trans (f429 i hi))) (fun i hi => ((congrFun (jnp 31 eσ500 (of_decide_eq_true rfl)) i).trans (f430 i hi)))  p502 p503 I510 (by rw [show σ500 31 8 = σ424 31 8 from (congrFun (jnp 31 eσ500 (of_decide_eq_true rfl)) 8), show σ500 31 11 = σ424 31 11 from (congrFun (jnp 31 eσ500 (of_decide_eq_true rfl)) 11), show σ500 31 12 = σ424 31 12 from (congrFun (jnp 31 eσ500 (of_decide_eq_true rfl)) 12), show σ500 32 = σ424 32 from (jnp 32 eσ500 (of_decide_eq_true rfl))]; exact ⟨(fun hm => jqGo.none (q434.1 hm) (by omega) (by omega) (by omega) (by omega) q434.2.1 (fun w => ((w452).elim (fun w => absurd w.1 (of_decide_eq_true rfl)) (fun w => w.2)) ((jqMy_iff (by omega) (by omega)).mp w)) (by rw [eσ500, jup_row, jnc (show x449.toInt = 4 * x387.toInt + x423.toInt by have h9 := tx449; omega)]) (of_decide_eq_true rfl) (by have h9 := tx501; omega)), q434.2.1, q434.2.2⟩) hP hS (lv_sub hl [0, 1, 2, 3, 4, 5, 6, 7, 8] rfl)
                           exact by exact lp421 1000000 0 σ391 _ _ ls (by have h90 := jz_0; omega) (by have h90 := jz_0; omega) (by have h90 := jz_0; omega) (fun _ _ => rfl) (fun _ _ => rfl)  p398 p399 p400 ⟨(by rw [show (0 : Int32).toInt = 0 from by decide]; exact q401), ⟨(by have w := jandm (x := (σ391 32 x387.toNatClampNeg)) (y := x416) (m := 134217727) (k := 27) (M := 134217728) (by rw [ex416]) rfl rfl (of_decide_eq_true rfl); show (σ391 32 x387.toNatClampNeg).toInt = _; omega), ⟨by omega, by omega⟩, (by omega)⟩, by omega⟩ hP hS hl
                 exact by exact lp385 1000000 0 σ364 _ _ ls (by have h90 := jz_0; omega) (by have h90 := jz_0; omega) (by have h90 := jz_0; omega) (fun _ _ => rfl) (fun _ _ => rfl)  p369 p370 I368 (by rw [show σ364 31 11 = σ354 31 11 from (f367 11 (of_decide_eq_true rfl)), show σ364 31 12 = σ354 31 12 from (f367 12 (of_decide_eq_true rfl))]; exact (fun hm => jqGo.first hm (by have w := w371; rw [show (σ354 31 8).toInt = 0 from by omega] at w; exact w) rfl (by have h9 := jz_0; omega))) hP hS hl
            · exact by
               have kc349 := jeq c349 rfl jz_1
               refine lv_aload_n hx hb dX1_grow_57 rfl (lv_at hl 2 rfl) ?_
               refine lv_iload_n hx hb dX1_grow_58 rfl (lv_at hl 4 rfl) ?_
               refine jput (ty := .int) hx hb hts inlX1 tyX1 tyX1_ok nmX1 hown hK hP hJ hA hS (jc_31 cI cL ad σ τ) rfl (k := 10) (of_decide_eq_true rfl) (Nat.le_of_ble_eq_true rfl) (jp_31_10 cI cL ad σ τ a2) (hts _ kw_28_9) (fun _ h9 => h9) rfl (by decide +kernel) rfl rfl dX1_grow_59 (fun σ511 H locs eσ511 hP hS => ?_)
               have z512 : (σ511 31 8).toInt = (σ 31 8).toInt := (congrArg Int32.toInt (show σ511 31 8 = (σ 31 8) from (jkp 8 eσ511 (of_decide_eq_true rfl))))
               have z513 : (σ511 31 10).toInt = A2 := ((congrArg Int32.toInt (show σ511 31 10 = a2 from (jsp eσ511))).trans t2)
               have z514 : (σ511 31 11).toInt = (σ 31 11).toInt := (congrArg Int32.toInt (show σ511 31 11 = (σ 31 11) from (jkp 11 eσ511 (of_decide_eq_true rfl))))
               have w515 : ∀ k : Nat, k < 1400 → (-1) ≤ (σ511 33 k).toInt ∧ (σ511 33 k).toInt ≤ 350 := (jrr_fr (jnp 33 eσ511 (of_decide_eq_true rfl)) w9)
               have w516 : ∀ k : Nat, k < 3159 → (-1) ≤ (σ511 35 k).toInt ∧ (σ511 35 k).toInt ≤ 3 := (jrr_fr (jnp 35 eσ511 (of_decide_eq_true rfl)) w10)
               have w517 : ∀ k : Nat, k < 1024 → 0 ≤ (σ511 36 k).toInt ∧ (σ511 36 k).toInt ≤ 349 := (jrr_fr (jnp 36 eσ511 (of_decide_eq_true rfl)) w11)
               exact by
                have I518 : jI31 σ511 := ⟨(by omega), (by omega), (by omega), (by omega), w515, w516, w517⟩
                have p519 : jKb σ511 := jKb.fr (jkp 8 eσ511 (of_decide_eq_true rfl)) (jkp 11 eσ511 (of_decide_eq_true rfl)) (jnp 32 eσ511 (of_decide_eq_true rfl)) hs_jKb
                have p520 : jKh σ511 := jKh.fr (jkp 8 eσ511 (of_decide_eq_true rfl)) (jnp 32 eσ511 (of_decide_eq_true rfl)) (jnp 36 eσ511 (of_decide_eq_true rfl)) (jnp 37 eσ511 (of_decide_eq_true rfl)) hs_jKh
                have p521 : jKg σ511 := jKg.fr (jkp 8 eσ511 (of_decide_eq_true rfl)) (jkp 9 eσ511 (of_decide_eq_true rfl)) (jkp 11 eσ511 (of_decide_eq_true rfl)) (jkp 12 eσ511 (of_decide_eq_true rfl)) (jnp 32 eσ511 (of_decide_eq_true rfl)) (jnp 33 eσ511 (of_decide_eq_true rfl)) hs_jKg
                have z522 : (σ511 31 9).toInt = (σ 31 9).toInt := (congrArg Int32.toInt (show σ511 31 9 = (σ 31 9) from (jkp 9 eσ511 (of_decide_eq_true rfl))))
                have z523 : (σ511 31 12).toInt = (σ 31 12).toInt := (congrArg Int32.toInt (show σ511 31 12 = (σ 31 12) from (jkp 12 eσ511 (of_decide_eq_true rfl))))
                exact by exact hret σ511 τ _ _ _ _ ⟨rfl, (fun i hi => (jnp i eσ511 (imp_87 i hi))), (fun i hi => (jkp i eσ511 (imp_92 i hi))), I518, p519, p520, p521, (by rw [show σ511 31 12 = (σ 31 12) from (jkp 12 eσ511 (of_decide_eq_true rfl)), c349]; exact w20), (show jqGk σ σ511 a1 (σ511 31 11).toInt from fun _ _ _ _ => ⟨(jkp 8 eσ511 (of_decide_eq_true rfl)), (jnp 32 eσ511 (of_decide_eq_true rfl))⟩), (by omega), (by omega), (by omega), (by omega), trivial⟩ hP hS dX1_grow_62
    · obtain ⟨q525, k524⟩ := h22
      have q525 := q525.symm
      subst q525
      refine lv_istore (lv' := [(4, .int 0), (3, .int x16), (0, .ref (ad 31)), (1, .int a1), (2, .int a2)]) hx hb dX1_grow_30 hl (of_decide_eq_true rfl) rfl (fun ls hl => ?_)
      refine lv_aload_n hx hb dX1_grow_32 rfl (lv_at hl 2 rfl) ?_
      refine va_get (D := D) hx hb hts inlX1 hown hK hP 31 (jc_31 cI cL ad σ τ) rfl 9 (of_decide_eq_true rfl) (hts _ kw_5_9) (fun _ h9 => h9) rfl dX1_grow_33 ?_
      refine lv_iload_n hx hb dX1_grow_36 rfl (lv_at hl 3 rfl) ?_
      refine lv_icmp_ne (tgt := 63) hx hb dX1_grow_37 (of_decide_eq_true rfl) (fun c526 => ?_) (fun c526 => ?_)
      · have kc526 := jne c526 rfl t1
        refine lv_aload_n hx hb dX1_grow_63 rfl (lv_at hl 2 rfl) ?_
        refine lv_iload_n hx hb dX1_grow_64 rfl (lv_at hl 3 rfl) ?_
        refine jput (ty := .int) hx hb hts inlX1 tyX1 tyX1_ok nmX1 hown hK hP hJ hA hS (jc_31 cI cL ad σ τ) rfl (k := 9) (of_decide_eq_true rfl) (Nat.le_of_ble_eq_true rfl) (jp_31_9 cI cL ad σ τ a1) (hts _ kw_5_9) (fun _ h9 => h9) rfl (by decide +kernel) rfl rfl dX1_grow_65 (fun σ527 H locs eσ527 hP hS => ?_)
        refine lv_aload_n hx hb dX1_grow_68 rfl (lv_at hl 2 rfl) ?_
        refine lv_iload_n hx hb dX1_grow_69 rfl (lv_at hl 4 rfl) ?_
        refine jput (ty := .int) hx hb hts inlX1 tyX1 tyX1_ok nmX1 hown hK hP hJ hA hS (jc_31 cI cL ad σ527 τ) rfl (k := 10) (of_decide_eq_true rfl) (Nat.le_of_ble_eq_true rfl) (jp_31_10 cI cL ad σ527 τ a2) (hts _ kw_28_9) (fun _ h9 => h9) rfl (by decide +kernel) rfl rfl dX1_grow_70 (fun σ528 H locs eσ528 hP hS => ?_)
        refine lv_aload_n hx hb dX1_grow_73 rfl (lv_at hl 2 rfl) ?_
        refine lv_iload_n hx hb dX1_grow_74 rfl (lv_at hl 1 rfl) ?_
        refine jput (ty := .int) hx hb hts inlX1 tyX1 tyX1_ok nmX1 hown hK hP hJ hA hS (jc_31 cI cL ad σ528 τ) rfl (k := 11) (of_decide_eq_true rfl) (Nat.le_of_ble_eq_true rfl) (jp_31_11 cI cL ad σ528 τ x16) (hts _ kw_28_7) (fun _ h9 => h9) rfl (by decide +kernel) rfl rfl dX1_grow_75 (fun σ529 H locs eσ529 hP hS => ?_)
        refine lv_aload_n hx hb dX1_grow_78 rfl (lv_at hl 2 rfl) ?_
        refine lv_iload hx hb dX1_grow_79 (lv_at hl 0 rfl) ?_
        refine jput (ty := .boolean) hx hb hts inlX1 tyX1 tyX1_ok nmX1 hown hK hP hJ hA hS (jc_31 cI cL ad σ529 τ) rfl (k := 12) (of_decide_eq_true rfl) (Nat.le_of_ble_eq_true rfl) (jp_31_12 cI cL ad σ529 τ 0) (hts _ kw_28_8) (fun _ h9 => h9) rfl (by decide +kernel) rfl rfl dX1_grow_81 (fun σ530 H locs eσ530 hP hS => ?_)
        refine lv_aload_n hx hb dX1_grow_84 rfl (lv_at hl 2 rfl) ?_
        refine lv_iconst (v := 0) hx hb dX1_grow_85 (of_decide_eq_true rfl) ?_
        refine jput (ty := .int) hx hb hts inlX1 tyX1 tyX1_ok nmX1 hown hK hP hJ hA hS (jc_31 cI cL ad σ530 τ) rfl (k := 8) (of_decide_eq_true rfl) (Nat.le_of_ble_eq_true rfl) (jp_31_8 cI cL ad σ530 τ 0) (hts _ kw_27_22) (fun _ h9 => h9) rfl (by decide +kernel) rfl rfl dX1_grow_86 (fun σ531 H locs eσ531 hP hS => ?_)
        have z532 : (σ531 31 8).toInt = 0 := ((congrArg Int32.toInt (show σ531 31 8 = 0 from (jsp eσ531))).trans jz_0)
        exact by
         have p533 : jKb σ531 := (jKb.nil (by omega))
         have p534 : jKh σ531 := (jKh.nil (by omega))
         refine lv_aload_n hx hb dX1_grow_89 rfl (lv_at hl 2 rfl) ?_
         refine lv_iload_n hx hb dX1_grow_90 rfl (lv_at hl 3 rfl) ?_
         refine lv_iconst (v := 0) hx hb dX1_grow_91 (of_decide_eq_true rfl) ?_
         have z535 : (σ531 31 10).toInt = A2 := ((congrArg Int32.toInt (show σ531 31 10 = a2 from ((jkp 10 eσ531 (of_decide_eq_true rfl)).trans ((jkp 10 eσ530 (of_decide_eq_true rfl)).trans ((jkp 10 eσ529 (of_decide_eq_true rfl)).trans (jsp eσ528)))))).trans t2)
         have z536 : (σ531 31 11).toInt = x16.toInt := (congrArg Int32.toInt (show σ531 31 11 = x16 from ((jkp 11 eσ531 (of_decide_eq_true rfl)).trans ((jkp 11 eσ530 (of_decide_eq_true rfl)).trans (jsp eσ529)))))
         have w537 : ∀ k : Nat, k < 1400 → (-1) ≤ (σ531 33 k).toInt ∧ (σ531 33 k).toInt ≤ 350 := (jrr_fr (jnp 33 eσ531 (of_decide_eq_true rfl)) (jrr_fr (jnp 33 eσ530 (of_decide_eq_true rfl)) (jrr_fr (jnp 33 eσ529 (of_decide_eq_true rfl)) (jrr_fr (jnp 33 eσ528 (of_decide_eq_true rfl)) (jrr_fr (jnp 33 eσ527 (of_decide_eq_true rfl)) w9)))))
         have w538 : ∀ k : Nat, k < 3159 → (-1) ≤ (σ531 35 k).toInt ∧ (σ531 35 k).toInt ≤ 3 := (jrr_fr (jnp 35 eσ531 (of_decide_eq_true rfl)) (jrr_fr (jnp 35 eσ530 (of_decide_eq_true rfl)) (jrr_fr (jnp 35 eσ529 (of_decide_eq_true rfl)) (jrr_fr (jnp 35 eσ528 (of_decide_eq_true rfl)) (jrr_fr (jnp 35 eσ527 (of_decide_eq_true rfl)) w10)))))
         exact by
          have w539 : ∀ k : Nat, k < 1024 → 0 ≤ (σ531 36 k).toInt ∧ (σ531 36 k).toInt ≤ 349 := (jrr_fr (jnp 36 eσ531 (of_decide_eq_true rfl)) (jrr_fr (jnp 36 eσ530 (of_decide_eq_true rfl)) (jrr_fr (jnp 36 eσ529 (of_decide_eq_true rfl)) (jrr_fr (jnp 36 eσ528 (of_decide_eq_true rfl)) (jrr_fr (jnp 36 eσ527 (of_decide_eq_true rfl)) w11)))))
          have I540 : jI31 σ531 := ⟨(by omega), (by omega), (by omega), (by omega), w537, w538, w539⟩
          refine jcallV (As := [.int a1, .int 0]) (rest := []) ⟨hx, hb, hml, hown, hts⟩ hK hP hA hS hZ (c_X1_add_31 l D cI cL ad zz hJ σ531 τ a1 (A1) t1 0 (0) jz_0 I540 p533 p534 (by omega) (by omega)) cw_RX1_111 (jc_31 cI cL ad σ531 τ) rfl ⟨Nat.le_of_ble_eq_true rfl, Nat.le_of_ble_eq_true rfl⟩ rfl rfl rfl hl.1 rfl (Nat.le_of_ble_eq_true rfl) dX1_grow_92 ⟨Nat.zero_le _, Nat.zero_le _⟩ (fun r542 σ541 τ541 H locs h541 hP hS => ?_)
          obtain ⟨rfl, f543, f544, I545, p546, p547, w548, h541⟩ := h541
          obtain ⟨i550, i551, i552, i553, w554, w555, w556⟩ : (0 ≤ (σ541 31 8).toInt ∧ (σ541 31 8).toInt ≤ 350) ∧ (0 ≤ (σ541 31 10).toInt ∧ (σ541 31 10).toInt ≤ 12) ∧ (0 ≤ (σ541 31 11).toInt ∧ (σ541 31 11).toInt ≤ 8) ∧ ((σ541 31 10).toInt + (σ541 31 11).toInt ≤ 12) ∧ (∀ k : Nat, k < 1400 → (-1) ≤ (σ541 33 k).toInt ∧ (σ541 33 k).toInt ≤ 350) ∧ (∀ k : Nat, k < 3159 → (-1) ≤ (σ541 35 k).toInt ∧ (σ541 35 k).toInt ≤ 3) ∧ (∀ k : Nat, k < 1024 → 0 ≤ (σ541 36 k).toInt ∧ (σ541 36 k).toInt ≤ 349) := id I545
          have z557 : (σ541 31 10).toInt = A2 := ((congrArg Int32.toInt (show σ541 31 10 = a2 from ((f544 10 (of_decide_eq_true rfl)).trans ((jkp 10 eσ531 (of_decide_eq_true rfl)).trans ((jkp 10 eσ530 (of_decide_eq_true rfl)).trans ((jkp 10 eσ529 (of_decide_eq_true rfl)).trans (jsp eσ528))))))).trans t2)
          have z558 : (σ541 31 11).toInt = x16.toInt := (congrArg Int32.toInt (show σ541 31 11 = x16 from ((f544 11 (of_decide_eq_true rfl)).trans ((jkp 11 eσ531 (of_decide_eq_true rfl)).trans ((jkp 11 eσ530 (of_decide_eq_true rfl)).trans (jsp eσ529))))))
          have h559 := h541
          obtain ⟨q561, k560⟩ := h559
          exact by
           refine lv_pop hx hb dX1_grow_95 rfl ?_
           refine lv_iconst (v := 0) hx hb dX1_grow_96 (of_decide_eq_true rfl) ?_
           refine lv_istore (lv' := [(5, .int 0), (4, .int 0), (3, .int x16), (0, .ref (ad 31)), (1, .int a1), (2, .int a2)]) hx hb dX1_grow_97 hl (of_decide_eq_true rfl) rfl (fun ls hl => ?_)
           have lp562 : ∀ (n563 : Nat) (x564 : Int32) (σ568 : Nat → Nat → Int32) (H : Heap) (locs : List Loc) (ls : Array Slot), (-x564.toInt + 350 : Int) < n563 → 0 ≤ x564.toInt → x564.toInt ≤ 350 → (∀ i : Nat, (i < 31 ∨ 33 < i) ∧ (i < 36 ∨ 37 < i) → σ568 i = σ541 i) → (∀ k : Nat, (k < 8 ∨ 8 < k) → σ568 31 k = σ541 31 k) → jKb σ568 → jKh σ568 → jI31 σ568 → (jFm a1 → jqGo a1 (decide ((σ568 31 12).toInt ≠ 0)) (σ568 31 11).toInt (σ568 31 8).toInt (σ568 32) (σ568 33) x564.toInt 0) → jH D cI cL ad σ568 τ H → va_S (jA ad) s.heap H locs → lv_has ls 9 [(5, .int x564), (4, .int 0), (3, .int x16), (0, .ref (ad 31)), (1, .int a1), (2, .int a2)] → W p l e ({ frames := 3, cells := 0, slots := 0, locals := 73 }) s m args below meth c H locs 0 0 Q (F0 m 99 ls []) := by
             intro n563
             induction n563 with
             | zero => intro x564 σ568 H locs ls h570 h571 h572; exact absurd h570 (by omega)
             | succ n563 ihlp562 =>
               intro x564 σ568 H locs ls h570 h571 h572 f573 f574 p575 p576 p577 q578 hP hS hl
               exact by
                obtain ⟨i579, i580, i581, i582, w583, w584, w585⟩ : (0 ≤ (σ568 31 8).toInt ∧ (σ568 31 8).toInt ≤ 350) ∧ (0 ≤ (σ568 31 10).toInt ∧ (σ568 31 10).toInt ≤ 12) ∧ (0 ≤ (σ568 31 11).toInt ∧ (σ568 31 11).toInt ≤ 8) ∧ ((σ568 31 10).toInt + (σ568 31 11).toInt ≤ 12) ∧ (∀ k : Nat, k < 1400 → (-1) ≤ (σ568 33 k).toInt ∧ (σ568 33 k).toInt ≤ 350) ∧ (∀ k : Nat, k < 3159 → (-1) ≤ (σ568 35 k).toInt ∧ (σ568 35 k).toInt ≤ 3) ∧ (∀ k : Nat, k < 1024 → 0 ≤ (σ568 36 k).toInt ∧ (σ568 36 k).toInt ≤ 349) := id p577
                have z586 : (σ568 31 10).toInt = A2 := ((congrArg Int32.toInt (show σ568 31 10 = a2 from ((f574 10 (of_decide_eq_true rfl)).trans ((f544 10 (of_decide_eq_true rfl)).trans ((jkp 10 eσ531 (of_decide_eq_true rfl)).trans ((jkp 10 eσ530 (of_decide_eq_true rfl)).trans ((jkp 10 eσ529 (of_decide_eq_true rfl)).trans (jsp eσ528)))))))).trans t2)
                have z587 : (σ568 31 11).toInt = x16.toInt := (congrArg Int32.toInt (show σ568 31 11 = x16 from ((f574 11 (of_decide_eq_true rfl)).trans ((f544 11 (of_decide_eq_true rfl)).trans ((jkp 11 eσ531 (of_decide_eq_true rfl)).trans ((jkp 11 eσ530 (of_decide_eq_true rfl)).trans (jsp eσ529)))))))
                refine lv_iload hx hb dX1_grow_99 (lv_at hl 0 rfl) ?_
                refine lv_aload_n hx hb dX1_grow_101 rfl (lv_at hl 3 rfl) ?_
                refine va_get (D := D) hx hb hts inlX1 hown hK hP 31 (jc_31 cI cL ad σ568 τ) rfl 8 (of_decide_eq_true rfl) (hts _ kw_27_22) (fun _ h9 => h9) rfl dX1_grow_102 ?_
                refine lv_icmp_ge (tgt := 202) hx hb dX1_grow_105 (of_decide_eq_true rfl) (fun c588 => ?_) (fun c588 => ?_)
                · have kc588 := jle c588 rfl rfl
                  have p589 : jKg σ568 := (show jFm (σ568 31 9) → _ from by rw [show σ568 31 9 = a1 from ((f574 9 (of_decide_eq_true rfl)).trans ((f544 9 (of_decide_eq_true rfl)).trans ((jkp 9 eσ531 (of_decide_eq_true rfl)).trans ((jkp 9 eσ530 (of_decide_eq_true rfl)).trans ((jkp 9 eσ529 (of_decide_eq_true rfl)).trans ((jkp 9 eσ528 (of_decide_eq_true rfl)).trans (jsp eσ527)))))))]; exact fun hm => (q578 hm).fin (by omega))
                  exact by
                   have z590 : (σ568 31 9).toInt = A1 := ((congrArg Int32.toInt (show σ568 31 9 = a1 from ((f574 9 (of_decide_eq_true rfl)).trans ((f544 9 (of_decide_eq_true rfl)).trans ((jkp 9 eσ531 (of_decide_eq_true rfl)).trans ((jkp 9 eσ530 (of_decide_eq_true rfl)).trans ((jkp 9 eσ529 (of_decide_eq_true rfl)).trans ((jkp 9 eσ528 (of_decide_eq_true rfl)).trans (jsp eσ527))))))))).trans t1)
                   have z591 : (σ568 31 12).toInt = 0 := ((congrArg Int32.toInt (show σ568 31 12 = 0 from ((f574 12 (of_decide_eq_true rfl)).trans ((f544 12 (of_decide_eq_true rfl)).trans ((jkp 12 eσ531 (of_decide_eq_true rfl)).trans (jsp eσ530)))))).trans jz_0)
                   exact by exact hret σ568 τ _ _ _ _ ⟨rfl, (fun i hi => ((f573 i hi).trans ((f543 i (imp_86 i hi)).trans ((jnp i eσ531 (imp_87 i hi)).trans ((jnp i eσ530 (imp_87 i hi)).trans ((jnp i eσ529 (imp_87 i hi)).trans ((jnp i eσ528 (imp_87 i hi)).trans (jnp i eσ527 (imp_87 i hi))))))))), (fun i hi => ((f574 i (imp_88 i hi)).trans ((f544 i (imp_88 i hi)).trans ((jkp i eσ531 (imp_89 i hi)).trans ((jkp i eσ530 (imp_90 i hi)).trans ((jkp i eσ529 (imp_91 i hi)).trans ((jkp i eσ528 (imp_92 i hi)).trans (jkp i eσ527 (imp_93 i hi))))))))), p577, p575, p576, p589, (by rw [show σ568 31 12 = 0 from ((f574 12 (of_decide_eq_true rfl)).trans ((f544 12 (of_decide_eq_true rfl)).trans ((jkp 12 eσ531 (of_decide_eq_true rfl)).trans (jsp eσ530))))]; exact w20), (show jqGk σ σ568 a1 (σ568 31 11).toInt from fun h1 _ _ _ => False.elim (by have w9 := congrArg Int32.toInt h1; omega)), (by omega), (by omega), (by omega), (by omega), trivial⟩ hP hS dX1_grow_202
                · have kc588 := jnle c588 rfl rfl
                  refine lv_iload hx hb dX1_grow_108 (lv_at hl 0 rfl) ?_
                  refine lv_sipush (v := 350) hx hb dX1_grow_110 (of_decide_eq_true rfl) ?_
                  refine lv_icmp_ge (tgt := 202) hx hb dX1_grow_113 (of_decide_eq_true rfl) (fun c => absurd (jle c jz_350 rfl) (by omega)) (fun c592 => ?_)
                  have kc592 := jnle c592 jz_350 rfl
                  refine lv_aload_n hx hb dX1_grow_116 rfl (lv_at hl 3 rfl) ?_
                  exact by
                   refine va_get (D := D) hx hb hts inlX1 hown hK hP 31 (jc_31 cI cL ad σ568 τ) rfl 2 (of_decide_eq_true rfl) (hts _ kw_5_3) (fun _ h9 => h9) rfl dX1_grow_117 ?_
                   refine lv_iload hx hb dX1_grow_120 (lv_at hl 0 rfl) ?_
                   refine jald hx hb hK hP (jc_32 cI cL ad σ568 τ) (jin rfl (by omega) (by omega)) dX1_grow_122 ?_
                   refine jtopr (y := (σ568 32 x564.toNatClampNeg)) rfl ?_
                   refine lv_ldc (v := 134217727) hx hb hown (hts _ kw_28_10) dX1_grow_123 ?_
                   refine lv_iand hx hb dX1_grow_125 ?_
                   refine lv_topi (fun x593 ex593 => ?_)
                   have gx593 := jrg (rfl : x593.toInt = x593.toInt)
                   have g594 : 0 ≤ x593.toInt ∧ x593.toInt ≤ 134217727 := jmask ex593 27 (of_decide_eq_true rfl) (of_decide_eq_true rfl)
                   exact by
                    refine lv_istore (lv' := [(6, .int x593), (5, .int x564), (4, .int 0), (3, .int x16), (0, .ref (ad 31)), (1, .int a1), (2, .int a2)]) hx hb dX1_grow_126 hl (of_decide_eq_true rfl) rfl (fun ls hl => ?_)
                    refine lv_aload_n hx hb dX1_grow_128 rfl (lv_at hl 4 rfl) ?_
                    refine va_get (D := D) hx hb hts inlX1 hown hK hP 31 (jc_31 cI cL ad σ568 τ) rfl 2 (of_decide_eq_true rfl) (hts _ kw_5_3) (fun _ h9 => h9) rfl dX1_grow_129 ?_
                    refine lv_iload hx hb dX1_grow_132 (lv_at hl 1 rfl) ?_
                    refine jald hx hb hK hP (jc_32 cI cL ad σ568 τ) (jin rfl (by omega) (by omega)) dX1_grow_134 ?_
                    refine jtopr (y := (σ568 32 x564.toNatClampNeg)) rfl ?_
                    refine lv_bipush (v := 27) hx hb dX1_grow_135 (of_decide_eq_true rfl) ?_
                    refine lv_ishr hx hb dX1_grow_137 ?_
                    refine lv_topi (fun x595 ex595 => ?_)
                    exact by
                     have gx595 := jrg (rfl : x595.toInt = x595.toInt)
                     have k596 := jshr27 (x := x595) (k := (σ568 32 x564.toNatClampNeg)) (by rw [ex595])
                     have k597 := p575 x564.toNatClampNeg (by rw [jnc (rfl : x564.toInt = x564.toInt)]; omega)
                     refine lv_istore (lv' := [(7, .int x595), (6, .int x593), (5, .int x564), (4, .int 0), (3, .int x16), (0, .ref (ad 31)), (1, .int a1), (2, .int a2)]) hx hb dX1_grow_138 hl (of_decide_eq_true rfl) rfl (fun ls hl => ?_)
                     refine lv_iconst (v := 0) hx hb dX1_grow_140 (of_decide_eq_true rfl) ?_
                     refine lv_istore (lv' := [(8, .int 0), (7, .int x595), (6, .int x593), (5, .int x564), (4, .int 0), (3, .int x16), (0, .ref (ad 31)), (1, .int a1), (2, .int a2)]) hx hb dX1_grow_141 hl (of_decide_eq_true rfl) rfl (fun ls hl => ?_)
                     have lp598 : ∀ (n599 : Nat) (x600 : Int32) (σ601 : Nat → Nat → Int32) (H : Heap) (locs : List Loc) (ls : Array Slot), (-x600.toInt + 4 : Int) < n599 → 0 ≤ x600.toInt → x600.toInt ≤ 4 → (∀ i : Nat, (i < 31 ∨ 33 < i) ∧ (i < 36 ∨ 37 < i) → σ601 i = σ568 i) → (∀ k : Nat, (k < 8 ∨ 8 < k) → σ601 31 k = σ568 31 k) → jKb σ601 → jKh σ601 → jI31 σ601 → ((jFm a1 → jqGo a1 (decide ((σ601 31 12).toInt ≠ 0)) (σ601 31 11).toInt (σ601 31 8).toInt (σ601 32) (σ601 33) x564.toInt x600.toInt) ∧ jqNo (σ601 32 x564.toInt.toNat) x593 x595.toInt ∧ x564.toInt < (σ601 31 8).toInt) → jH D cI cL ad σ601 τ H → va_S (jA ad) s.heap H locs → lv_has ls 9 [(8, .int x600), (7, .int x595), (6, .int x593), (5, .int x564), (4, .int 0), (3, .int x16), (0, .ref (ad 31)), (1, .int a1), (2, .int a2)] → W p l e ({ frames := 3, cells := 0, slots := 0, locals := 73 }) s m args below meth c H locs 0 0 Q (F0 m 143 ls []) := by
                       intro n599
                       induction n599 with
                       | zero => intro x600 σ601 H locs ls h603 h604 h605; exact absurd h603 (by omega)
                       | succ n599 ihlp598 =>
                         intro x600 σ601 H locs ls h603 h604 h605 f606 f607 p608 p609 p610 q611 hP hS hl
                         exact by
                          obtain ⟨i612, i613, i614, i615, w616, w617, w618⟩ : (0 ≤ (σ601 31 8).toInt ∧ (σ601 31 8).toInt ≤ 350) ∧ (0 ≤ (σ601 31 10).toInt ∧ (σ601 31 10).toInt ≤ 12) ∧ (0 ≤ (σ601 31 11).toInt ∧ (σ601 31 11).toInt ≤ 8) ∧ ((σ601 31 10).toInt + (σ601 31 11).toInt ≤ 12) ∧ (∀ k : Nat, k < 1400 → (-1) ≤ (σ601 33 k).toInt ∧ (σ601 33 k).toInt ≤ 350) ∧ (∀ k : Nat, k < 3159 → (-1) ≤ (σ601 35 k).toInt ∧ (σ601 35 k).toInt ≤ 3) ∧ (∀ k : Nat, k < 1024 → 0 ≤ (σ601 36 k).toInt ∧ (σ601 36 k).toInt ≤ 349) := id p610
                          have z619 : (σ601 31 10).toInt = A2 := ((congrArg Int32.toInt (show σ601 31 10 = a2 from ((f607 10 (of_decide_eq_true rfl)).trans ((f574 10 (of_decide_eq_true rfl)).trans ((f544 10 (of_decide_eq_true rfl)).trans ((jkp 10 eσ531 (of_decide_eq_true rfl)).trans ((jkp 10 eσ530 (of_decide_eq_true rfl)).trans ((jkp 10 eσ529 (of_decide_eq_true rfl)).trans (jsp eσ528))))))))).trans t2)
                          have z620 : (σ601 31 11).toInt = x16.toInt := (congrArg Int32.toInt (show σ601 31 11 = x16 from ((f607 11 (of_decide_eq_true rfl)).trans ((f574 11 (of_decide_eq_true rfl)).trans ((f544 11 (of_decide_eq_true rfl)).trans ((jkp 11 eσ531 (of_decide_eq_true rfl)).trans ((jkp 11 eσ530 (of_decide_eq_true rfl)).trans (jsp eσ529))))))))
                          refine lv_iload hx hb dX1_grow_143 (lv_at hl 0 rfl) ?_
                          refine lv_iconst (v := 4) hx hb dX1_grow_145 (of_decide_eq_true rfl) ?_
                          refine lv_icmp_ge (tgt := 196) hx hb dX1_grow_146 (of_decide_eq_true rfl) (fun c621 => ?_) (fun c621 => ?_)
                          · have kc621 := jle c621 jz_4 rfl
                            obtain ⟨x622, ex622⟩ : ∃ y : Int32, y = x564 + 1 := ⟨_, rfl⟩
                            have tx622 : x622.toInt = x564.toInt + 1 := (jadd ex622 rfl jz_1 (by omega) (by omega)).trans (by omega)
                            exact by
                             refine lv_iinc (v := x622) (lv' := [(5, .int x622), (8, .int x600), (7, .int x595), (6, .int x593), (4, .int 0), (3, .int x16), (0, .ref (ad 31)), (1, .int a1), (2, .int a2)]) hx hb dX1_grow_196 hl (k := 3) rfl (by rw [ex622]; rfl) (of_decide_eq_true rfl) rfl (fun ls hl => ?_)
                             refine lv_goto (tgt := 99) hx hb dX1_grow_199 (of_decide_eq_true rfl) ?_
                             exact by exact ihlp562 x622 σ601 _ _ ls (by have h90 := tx622; omega) (by have h90 := tx622; omega) (by have h90 := tx622; omega) (fun i hi => ((f606 i hi).trans (f573 i hi))) (fun i hi => ((f607 i hi).trans (f574 i hi)))  p608 p609 p610 (fun hm => jqGo.row (q611.1 hm) (by omega) (by have h9 := tx622; omega) (by omega) q611.2.2) hP hS (lv_sub hl [0, 4, 5, 6, 7, 8] rfl)
                          · have kc621 := jnle c621 jz_4 rfl
                            refine lv_aload_n hx hb dX1_grow_149 rfl (lv_at hl 6 rfl) ?_
                            refine va_get (D := D) hx hb hts inlX1 hown hK hP 31 (jc_31 cI cL ad σ601 τ) rfl 3 (of_decide_eq_true rfl) (hts _ kw_5_4) (fun _ h9 => h9) rfl dX1_grow_150 ?_
                            refine lv_iload hx hb dX1_grow_153 (lv_at hl 3 rfl) ?_
                            refine lv_iconst (v := 4) hx hb dX1_grow_155 (of_decide_eq_true rfl) ?_
                            have g623 := jrg (rfl : x564.toInt = x564.toInt)
                            refine lv_imul hx hb dX1_grow_156 ?_
                            refine lv_topi (fun x624 ex624 => ?_)
                            exact by
                             have tx624 : x624.toInt = 4 * x564.toInt := (jmul ex624 rfl jz_4 (by omega) (by omega)).trans (by omega)
                             refine lv_iload hx hb dX1_grow_157 (lv_at hl 0 rfl) ?_
                             have g625 := jrg (rfl : x600.toInt = x600.toInt)
                             refine lv_iadd hx hb dX1_grow_159 ?_
                             refine lv_topi (fun x626 ex626 => ?_)
                             have tx626 : x626.toInt = 4 * x564.toInt + x600.toInt := (jadd ex626 tx624 rfl (by omega) (by omega)).trans (by omega)
                             refine lv_iload hx hb dX1_grow_160 (lv_at hl 2 rfl) ?_
                             refine lv_iload hx hb dX1_grow_162 (lv_at hl 0 rfl) ?_
                             refine jcallS (As := [.int x593, .int x600]) (rest := [.int x626, .ref (ad 33)]) ⟨hx, hb, hml, hown, hts⟩ hK hP hA hS hZ (c_X0_mayBowl l D cI cL ad zz hJ σ601 τ x593 (x593.toInt) rfl x600 (x600.toInt) rfl) cw_RX1_115 ⟨Nat.le_of_ble_eq_true rfl, Nat.le_of_ble_eq_true rfl⟩ rfl rfl rfl hl.1 rfl (Nat.le_of_ble_eq_true rfl) dX1_grow_164 ⟨Nat.zero_le _, Nat.zero_le _⟩ (fun r628 σ627 τ627 H locs h627 hP hS => ?_)
                             exact by
                              obtain ⟨⟨rfl, rfl⟩, w629, h627⟩ := h627
                              rcases h627 with h630 | h631
                              · obtain ⟨q633, k632⟩ := h630
                                have q633 := q633.symm
                                subst q633
                                refine lv_if_eq (tgt := 188) hx hb dX1_grow_167 (of_decide_eq_true rfl) (fun c => absurd c (of_decide_eq_true rfl)) (fun _ => ?_)
                                refine lv_aload_n hx hb dX1_grow_170 rfl (lv_at hl 6 rfl) ?_
                                refine lv_iload hx hb dX1_grow_171 (lv_at hl 2 rfl) ?_
                                refine lv_iload hx hb dX1_grow_173 (lv_at hl 0 rfl) ?_
                                exact by
                                 refine jcallS (As := [.int x593, .int x600]) (rest := [.ref (ad 31), .int x626, .ref (ad 33)]) ⟨hx, hb, hml, hown, hts⟩ hK hP hA hS hZ (c_X0_after_r l D cI cL ad zz hJ σ601 τ x593 (x593.toInt) rfl x600 (x600.toInt) rfl (by omega)) cw_RX1_119 ⟨Nat.le_of_ble_eq_true rfl, Nat.le_of_ble_eq_true rfl⟩ rfl rfl rfl hl.1 rfl (Nat.le_of_ble_eq_true rfl) dX1_grow_175 ⟨Nat.zero_le _, Nat.zero_le _⟩ (fun r635 σ634 τ634 H locs h634 hP hS => ?_)
                                 obtain ⟨⟨rfl, rfl⟩, w636, w637, h634⟩ := h634
                                 have h638 := h634
                                 obtain ⟨q640, k639⟩ := h638
                                 refine lv_iload hx hb dX1_grow_178 (lv_at hl 1 rfl) ?_
                                 refine lv_iconst (v := 1) hx hb dX1_grow_180 (of_decide_eq_true rfl) ?_
                                 have g641 := jrg (rfl : x595.toInt = x595.toInt)
                                 refine lv_iadd hx hb dX1_grow_181 ?_
                                 refine lv_topi (fun x642 ex642 => ?_)
                                 exact by
                                  have tx642 : x642.toInt = x595.toInt + 1 := (jadd ex642 rfl jz_1 (by omega) (by omega)).trans (by omega)
                                  refine jcallV (As := [.int r635, .int x642]) (rest := [.int x626, .ref (ad 33)]) ⟨hx, hb, hml, hown, hts⟩ hK hP hA hS hZ (c_X1_add_31 l D cI cL ad zz hJ σ601 τ r635 (r635.toInt) rfl x642 (x595.toInt + 1) tx642 p610 p608 p609 (by omega) (by omega)) cw_RX1_111 (jc_31 cI cL ad σ601 τ) rfl ⟨Nat.le_of_ble_eq_true rfl, Nat.le_of_ble_eq_true rfl⟩ rfl rfl rfl hl.1 rfl (Nat.le_of_ble_eq_true rfl) dX1_grow_182 ⟨Nat.zero_le _, Nat.zero_le _⟩ (fun r644 σ643 τ643 H locs h643 hP hS => ?_)
                                  obtain ⟨rfl, f645, f646, I647, p648, p649, w650, h643⟩ := h643
                                  obtain ⟨i652, i653, i654, i655, w656, w657, w658⟩ : (0 ≤ (σ643 31 8).toInt ∧ (σ643 31 8).toInt ≤ 350) ∧ (0 ≤ (σ643 31 10).toInt ∧ (σ643 31 10).toInt ≤ 12) ∧ (0 ≤ (σ643 31 11).toInt ∧ (σ643 31 11).toInt ≤ 8) ∧ ((σ643 31 10).toInt + (σ643 31 11).toInt ≤ 12) ∧ (∀ k : Nat, k < 1400 → (-1) ≤ (σ643 33 k).toInt ∧ (σ643 33 k).toInt ≤ 350) ∧ (∀ k : Nat, k < 3159 → (-1) ≤ (σ643 35 k).toInt ∧ (σ643 35 k).toInt ≤ 3) ∧ (∀ k : Nat, k < 1024 → 0 ≤ (σ643 36 k).toInt ∧ (σ643 36 k).toInt ≤ 349) := id I647
                                  have z659 : (σ643 31 10).toInt = A2 := ((congrArg Int32.toInt (show σ643 31 10 = a2 from ((f646 10 (of_decide_eq_true rfl)).trans ((f607 10 (of_decide_eq_true rfl)).trans ((f574 10 (of_decide_eq_true rfl)).trans ((f544 10 (of_decide_eq_true rfl)).trans ((jkp 10 eσ531 (of_decide_eq_true rfl)).trans ((jkp 10 eσ530 (of_decide_eq_true rfl)).trans ((jkp 10 eσ529 (of_decide_eq_true rfl)).trans (jsp eσ528)))))))))).trans t2)
                                  have z660 : (σ643 31 11).toInt = x16.toInt := (congrArg Int32.toInt (show σ643 31 11 = x16 from ((f646 11 (of_decide_eq_true rfl)).trans ((f607 11 (of_decide_eq_true rfl)).trans ((f574 11 (of_decide_eq_true rfl)).trans ((f544 11 (of_decide_eq_true rfl)).trans ((jkp 11 eσ531 (of_decide_eq_true rfl)).trans ((jkp 11 eσ530 (of_decide_eq_true rfl)).trans (jsp eσ529)))))))))
                                  have h661 := h643
                                  obtain ⟨q663, k662⟩ := h661
                                  refine lv_goto (tgt := 189) hx hb dX1_grow_185 (of_decide_eq_true rfl) ?_
                                  exact by
                                   refine jast hx hb hK hP hJ hA hS (jc_33 cI cL ad σ643 τ) (ja_33 cI cL ad σ643 τ _ _) (jin tx626 (by omega) (by omega)) dX1_grow_189 (fun σ664 H locs eσ664 hP hS => ?_)
                                   obtain ⟨x665, ex665⟩ : ∃ y : Int32, y = x600 + 1 := ⟨_, rfl⟩
                                   have tx665 : x665.toInt = x600.toInt + 1 := (jadd ex665 rfl jz_1 (by omega) (by omega)).trans (by omega)
                                   refine lv_iinc (v := x665) (lv' := [(8, .int x665), (7, .int x595), (6, .int x593), (5, .int x564), (4, .int 0), (3, .int x16), (0, .ref (ad 31)), (1, .int a1), (2, .int a2)]) hx hb dX1_grow_190 hl (k := 0) rfl (by rw [ex665]; rfl) (of_decide_eq_true rfl) rfl (fun ls hl => ?_)
                                   refine lv_goto (tgt := 143) hx hb dX1_grow_193 (of_decide_eq_true rfl) ?_
                                   have p666 : jKb σ664 := jKb.fr (congrFun (jnp 31 eσ664 (of_decide_eq_true rfl)) 8) (congrFun (jnp 31 eσ664 (of_decide_eq_true rfl)) 11) (jnp 32 eσ664 (of_decide_eq_true rfl)) p648
                                   have p667 : jKh σ664 := jKh.fr (congrFun (jnp 31 eσ664 (of_decide_eq_true rfl)) 8) (jnp 32 eσ664 (of_decide_eq_true rfl)) (jnp 36 eσ664 (of_decide_eq_true rfl)) (jnp 37 eσ664 (of_decide_eq_true rfl)) p649
                                   have z668 : (σ664 31 8).toInt = (σ643 31 8).toInt := (congrArg Int32.toInt (show σ664 31 8 = (σ643 31 8) from (congrFun (jnp 31 eσ664 (of_decide_eq_true rfl)) 8)))
                                   have z669 : (σ664 31 10).toInt = A2 := ((congrArg Int32.toInt (show σ664 31 10 = a2 from ((congrFun (jnp 31 eσ664 (of_decide_eq_true rfl)) 10).trans ((f646 10 (of_decide_eq_true rfl)).trans ((f607 10 (of_decide_eq_true rfl)).trans ((f574 10 (of_decide_eq_true rfl)).trans ((f544 10 (of_decide_eq_true rfl)).trans ((jkp 10 eσ531 (of_decide_eq_true rfl)).trans ((jkp 10 eσ530 (of_decide_eq_true rfl)).trans ((jkp 10 eσ529 (of_decide_eq_true rfl)).trans (jsp eσ528))))))))))).trans t2)
                                   exact by
                                    have z670 : (σ664 31 11).toInt = x16.toInt := (congrArg Int32.toInt (show σ664 31 11 = x16 from ((congrFun (jnp 31 eσ664 (of_decide_eq_true rfl)) 11).trans ((f646 11 (of_decide_eq_true rfl)).trans ((f607 11 (of_decide_eq_true rfl)).trans ((f574 11 (of_decide_eq_true rfl)).trans ((f544 11 (of_decide_eq_true rfl)).trans ((jkp 11 eσ531 (of_decide_eq_true rfl)).trans ((jkp 11 eσ530 (of_decide_eq_true rfl)).trans (jsp eσ529))))))))))
                                    have w671 : ∀ k : Nat, k < 1400 → (-1) ≤ (σ664 33 k).toInt ∧ (σ664 33 k).toInt ≤ 350 := (by rw [eσ664]; exact jrr_up w656 (by omega) (by omega))
                                    have w672 : ∀ k : Nat, k < 3159 → (-1) ≤ (σ664 35 k).toInt ∧ (σ664 35 k).toInt ≤ 3 := (jrr_fr (jnp 35 eσ664 (of_decide_eq_true rfl)) w657)
                                    have w673 : ∀ k : Nat, k < 1024 → 0 ≤ (σ664 36 k).toInt ∧ (σ664 36 k).toInt ≤ 349 := (jrr_fr (jnp 36 eσ664 (of_decide_eq_true rfl)) w658)
                                    have I674 : jI31 σ664 := ⟨(by omega), (by omega), (by omega), (by omega), w671, w672, w673⟩
                                    exact by exact ihlp598 x665 σ664 _ _ ls (by have h90 := tx665; omega) (by have h90 := tx665; omega) (by have h90 := tx665; omega) (fun i hi => ((jnp i eσ664 (imp_94 i hi)).trans ((f645 i (imp_86 i hi)).trans (f606 i hi)))) (fun i hi => ((congrFun (jnp 31 eσ664 (of_decide_eq_true rfl)) i).trans ((f646 i hi).trans (f607 i hi))))  p666 p667 I674 (by rw [show σ664 31 8 = σ643 31 8 from (congrFun (jnp 31 eσ664 (of_decide_eq_true rfl)) 8), show σ664 32 = σ643 32 from (jnp 32 eσ664 (of_decide_eq_true rfl)), show σ664 31 11 = σ601 31 11 from ((congrFun (jnp 31 eσ664 (of_decide_eq_true rfl)) 11).trans (f646 11 (of_decide_eq_true rfl))), show σ664 31 12 = σ601 31 12 from ((congrFun (jnp 31 eσ664 (of_decide_eq_true rfl)) 12).trans (f646 12 (of_decide_eq_true rfl)))]; exact ⟨(fun hm => jqGo.put (q611.1 hm) (by omega) (by omega) (by omega) (by omega) q611.2.1 ((jqMy_iff (by omega) (by omega)).mpr ((w629).elim (fun w => w.2) (fun w => absurd w.1 (of_decide_eq_true rfl)))) (w637 (by omega) (by omega)) w650 (by omega) p609 (by omega) (by rw [eσ664, jup_row, f645 33 (of_decide_eq_true rfl), jnc (show x626.toInt = 4 * x564.toInt + x600.toInt by have h9 := tx626; omega)]) rfl (by have h9 := tx665; omega)), (by rw [(w650).1 x564.toInt.toNat (by omega)]; exact q611.2.1), (by have w8 := jqAd.le w650; have w9 := q611.2.2; omega)⟩) hP hS (lv_sub hl [0, 1, 2, 3, 4, 5, 6, 7, 8] rfl)
                              · obtain ⟨q676, k675⟩ := h631
                                have q676 := q676.symm
                                subst q676
                                exact by
                                 refine lv_if_eq (tgt := 188) hx hb dX1_grow_167 (of_decide_eq_true rfl) (fun _ => ?_) (fun c => absurd (of_decide_eq_true rfl) c)
                                 refine lv_iconst (v := (-1)) hx hb dX1_grow_188 (of_decide_eq_true rfl) ?_
                                 refine jast hx hb hK hP hJ hA hS (jc_33 cI cL ad σ601 τ) (ja_33 cI cL ad σ601 τ _ _) (jin tx626 (by omega) (by omega)) dX1_grow_189 (fun σ677 H locs eσ677 hP hS => ?_)
                                 obtain ⟨x678, ex678⟩ : ∃ y : Int32, y = x600 + 1 := ⟨_, rfl⟩
                                 have tx678 : x678.toInt = x600.toInt + 1 := (jadd ex678 rfl jz_1 (by omega) (by omega)).trans (by omega)
                                 refine lv_iinc (v := x678) (lv' := [(8, .int x678), (7, .int x595), (6, .int x593), (5, .int x564), (4, .int 0), (3, .int x16), (0, .ref (ad 31)), (1, .int a1), (2, .int a2)]) hx hb dX1_grow_190 hl (k := 0) rfl (by rw [ex678]; rfl) (of_decide_eq_true rfl) rfl (fun ls hl => ?_)
                                 refine lv_goto (tgt := 143) hx hb dX1_grow_193 (of_decide_eq_true rfl) ?_
                                 have p679 : jKb σ677 := jKb.fr (congrFun (jnp 31 eσ677 (of_decide_eq_true rfl)) 8) (congrFun (jnp 31 eσ677 (of_decide_eq_true rfl)) 11) (jnp 32 eσ677 (of_decide_eq_true rfl)) p608
                                 have p680 : jKh σ677 := jKh.fr (congrFun (jnp 31 eσ677 (of_decide_eq_true rfl)) 8) (jnp 32 eσ677 (of_decide_eq_true rfl)) (jnp 36 eσ677 (of_decide_eq_true rfl)) (jnp 37 eσ677 (of_decide_eq_true rfl)) p609
                                 exact by
                                  have z681 : (σ677 31 8).toInt = (σ601 31 8).toInt := (congrArg Int32.toInt (show σ677 31 8 = (σ601 31 8) from (congrFun (jnp 31 eσ677 (of_decide_eq_true rfl)) 8)))
                                  have z682 : (σ677 31 10).toInt = A2 := ((congrArg Int32.toInt (show σ677 31 10 = a2 from ((congrFun (jnp 31 eσ677 (of_decide_eq_true rfl)) 10).trans ((f607 10 (of_decide_eq_true rfl)).trans ((f574 10 (of_decide_eq_true rfl)).trans ((f544 10 (of_decide_eq_true rfl)).trans ((jkp 10 eσ531 (of_decide_eq_true rfl)).trans ((jkp 10 eσ530 (of_decide_eq_true rfl)).trans ((jkp 10 eσ529 (of_decide_eq_true rfl)).trans (jsp eσ528)))))))))).trans t2)
                                  have z683 : (σ677 31 11).toInt = x16.toInt := (congrArg Int32.toInt (show σ677 31 11 = x16 from ((congrFun (jnp 31 eσ677 (of_decide_eq_true rfl)) 11).trans ((f607 11 (of_decide_eq_true rfl)).trans ((f574 11 (of_decide_eq_true rfl)).trans ((f544 11 (of_decide_eq_true rfl)).trans ((jkp 11 eσ531 (of_decide_eq_true rfl)).trans ((jkp 11 eσ530 (of_decide_eq_true rfl)).trans (jsp eσ529)))))))))
                                  have w684 : ∀ k : Nat, k < 1400 → (-1) ≤ (σ677 33 k).toInt ∧ (σ677 33 k).toInt ≤ 350 := (by rw [eσ677]; exact jrr_up w616 (by have h9 := jz_m1; omega) (by have h9 := jz_m1; omega))
                                  have w685 : ∀ k : Nat, k < 3159 → (-1) ≤ (σ677 35 k).toInt ∧ (σ677 35 k).toInt ≤ 3 := (jrr_fr (jnp 35 eσ677 (of_decide_eq_true rfl)) w617)
                                  have w686 : ∀ k : Nat, k < 1024 → 0 ≤ (σ677 36 k).toInt ∧ (σ677 36 k).toInt ≤ 349 := (jrr_fr (jnp 36 eσ677 (of_decide_eq_true rfl)) w618)
                                  have I687 : jI31 σ677 := ⟨(by omega), (by omega), (by omega), (by omega), w684, w685, w686⟩
                                  exact by exact ihlp598 x678 σ677 _ _ ls (by have h90 := tx678; omega) (by have h90 := tx678; omega) (by have h90 := tx678; omega) (fun i hi => ((jnp i eσ677 (imp_94 i hi)).trans (f606 i hi))) (fun i hi => ((congrFun (jnp 31 eσ677 (of_decide_eq_true rfl)) i).trans (f607 i hi)))  p679 p680 I687 (by rw [show σ677 31 8 = σ601 31 8 from (congrFun (jnp 31 eσ677 (of_decide_eq_true rfl)) 8), show σ677 31 11 = σ601 31 11 from (congrFun (jnp 31 eσ677 (of_decide_eq_true rfl)) 11), show σ677 31 12 = σ601 31 12 from (congrFun (jnp 31 eσ677 (of_decide_eq_true rfl)) 12), show σ677 32 = σ601 32 from (jnp 32 eσ677 (of_decide_eq_true rfl))]; exact ⟨(fun hm => jqGo.none (q611.1 hm) (by omega) (by omega) (by omega) (by omega) q611.2.1 (fun w => ((w629).elim (fun w => absurd w.1 (of_decide_eq_true rfl)) (fun w => w.2)) ((jqMy_iff (by omega) (by omega)).mp w)) (by rw [eσ677, jup_row, jnc (show x626.toInt = 4 * x564.toInt + x600.toInt by have h9 := tx626; omega)]) (of_decide_eq_true rfl) (by have h9 := tx678; omega)), q611.2.1, q611.2.2⟩) hP hS (lv_sub hl [0, 1, 2, 3, 4, 5, 6, 7, 8] rfl)
                     exact by exact lp598 1000000 0 σ568 _ _ ls (by have h90 := jz_0; omega) (by have h90 := jz_0; omega) (by have h90 := jz_0; omega) (fun _ _ => rfl) (fun _ _ => rfl)  p575 p576 p577 ⟨(by rw [show (0 : Int32).toInt = 0 from by decide]; exact q578), ⟨(by have w := jandm (x := (σ568 32 x564.toNatClampNeg)) (y := x593) (m := 134217727) (k := 27) (M := 134217728) (by rw [ex593]) rfl rfl (of_decide_eq_true rfl); show (σ568 32 x564.toNatClampNeg).toInt = _; omega), ⟨by omega, by omega⟩, (by omega)⟩, by omega⟩ hP hS hl
           exact by exact lp562 1000000 0 σ541 _ _ ls (by have h90 := jz_0; omega) (by have h90 := jz_0; omega) (by have h90 := jz_0; omega) (fun _ _ => rfl) (fun _ _ => rfl)  p546 p547 I545 (by rw [show σ541 31 11 = σ531 31 11 from (f544 11 (of_decide_eq_true rfl)), show σ541 31 12 = σ531 31 12 from (f544 12 (of_decide_eq_true rfl))]; exact (fun hm => jqGo.first hm (by have w := w548; rw [show (σ531 31 8).toInt = 0 from by omega] at w; exact w) rfl (by have h9 := jz_0; omega))) hP hS hl
      · exact by
         have kc526 := jeq c526 rfl t1
         refine lv_aload_n hx hb dX1_grow_40 rfl (lv_at hl 2 rfl) ?_
         refine va_get (D := D) hx hb hts inlX1 hown hK hP 31 (jc_31 cI cL ad σ τ) rfl 11 (of_decide_eq_true rfl) (hts _ kw_28_7) (fun _ h9 => h9) rfl dX1_grow_41 ?_
         refine lv_iload_n hx hb dX1_grow_44 rfl (lv_at hl 1 rfl) ?_
         refine lv_icmp_ne (tgt := 63) hx hb dX1_grow_45 (of_decide_eq_true rfl) (fun c688 => ?_) (fun c688 => ?_)
         · have kc688 := jne c688 rfl rfl
           refine lv_aload_n hx hb dX1_grow_63 rfl (lv_at hl 2 rfl) ?_
           refine lv_iload_n hx hb dX1_grow_64 rfl (lv_at hl 3 rfl) ?_
           refine jput (ty := .int) hx hb hts inlX1 tyX1 tyX1_ok nmX1 hown hK hP hJ hA hS (jc_31 cI cL ad σ τ) rfl (k := 9) (of_decide_eq_true rfl) (Nat.le_of_ble_eq_true rfl) (jp_31_9 cI cL ad σ τ a1) (hts _ kw_5_9) (fun _ h9 => h9) rfl (by decide +kernel) rfl rfl dX1_grow_65 (fun σ689 H locs eσ689 hP hS => ?_)
           refine lv_aload_n hx hb dX1_grow_68 rfl (lv_at hl 2 rfl) ?_
           refine lv_iload_n hx hb dX1_grow_69 rfl (lv_at hl 4 rfl) ?_
           refine jput (ty := .int) hx hb hts inlX1 tyX1 tyX1_ok nmX1 hown hK hP hJ hA hS (jc_31 cI cL ad σ689 τ) rfl (k := 10) (of_decide_eq_true rfl) (Nat.le_of_ble_eq_true rfl) (jp_31_10 cI cL ad σ689 τ a2) (hts _ kw_28_9) (fun _ h9 => h9) rfl (by decide +kernel) rfl rfl dX1_grow_70 (fun σ690 H locs eσ690 hP hS => ?_)
           refine lv_aload_n hx hb dX1_grow_73 rfl (lv_at hl 2 rfl) ?_
           refine lv_iload_n hx hb dX1_grow_74 rfl (lv_at hl 1 rfl) ?_
           refine jput (ty := .int) hx hb hts inlX1 tyX1 tyX1_ok nmX1 hown hK hP hJ hA hS (jc_31 cI cL ad σ690 τ) rfl (k := 11) (of_decide_eq_true rfl) (Nat.le_of_ble_eq_true rfl) (jp_31_11 cI cL ad σ690 τ x16) (hts _ kw_28_7) (fun _ h9 => h9) rfl (by decide +kernel) rfl rfl dX1_grow_75 (fun σ691 H locs eσ691 hP hS => ?_)
           refine lv_aload_n hx hb dX1_grow_78 rfl (lv_at hl 2 rfl) ?_
           refine lv_iload hx hb dX1_grow_79 (lv_at hl 0 rfl) ?_
           refine jput (ty := .boolean) hx hb hts inlX1 tyX1 tyX1_ok nmX1 hown hK hP hJ hA hS (jc_31 cI cL ad σ691 τ) rfl (k := 12) (of_decide_eq_true rfl) (Nat.le_of_ble_eq_true rfl) (jp_31_12 cI cL ad σ691 τ 0) (hts _ kw_28_8) (fun _ h9 => h9) rfl (by decide +kernel) rfl rfl dX1_grow_81 (fun σ692 H locs eσ692 hP hS => ?_)
           refine lv_aload_n hx hb dX1_grow_84 rfl (lv_at hl 2 rfl) ?_
           refine lv_iconst (v := 0) hx hb dX1_grow_85 (of_decide_eq_true rfl) ?_
           refine jput (ty := .int) hx hb hts inlX1 tyX1 tyX1_ok nmX1 hown hK hP hJ hA hS (jc_31 cI cL ad σ692 τ) rfl (k := 8) (of_decide_eq_true rfl) (Nat.le_of_ble_eq_true rfl) (jp_31_8 cI cL ad σ692 τ 0) (hts _ kw_27_22) (fun _ h9 => h9) rfl (by decide +kernel) rfl rfl dX1_grow_86 (fun σ693 H locs eσ693 hP hS => ?_)
           have z694 : (σ693 31 8).toInt = 0 := ((congrArg Int32.toInt (show σ693 31 8 = 0 from (jsp eσ693))).trans jz_0)
           exact by
            have p695 : jKb σ693 := (jKb.nil (by omega))
            have p696 : jKh σ693 := (jKh.nil (by omega))
            refine lv_aload_n hx hb dX1_grow_89 rfl (lv_at hl 2 rfl) ?_
            refine lv_iload_n hx hb dX1_grow_90 rfl (lv_at hl 3 rfl) ?_
            refine lv_iconst (v := 0) hx hb dX1_grow_91 (of_decide_eq_true rfl) ?_
            have z697 : (σ693 31 10).toInt = A2 := ((congrArg Int32.toInt (show σ693 31 10 = a2 from ((jkp 10 eσ693 (of_decide_eq_true rfl)).trans ((jkp 10 eσ692 (of_decide_eq_true rfl)).trans ((jkp 10 eσ691 (of_decide_eq_true rfl)).trans (jsp eσ690)))))).trans t2)
            have z698 : (σ693 31 11).toInt = x16.toInt := (congrArg Int32.toInt (show σ693 31 11 = x16 from ((jkp 11 eσ693 (of_decide_eq_true rfl)).trans ((jkp 11 eσ692 (of_decide_eq_true rfl)).trans (jsp eσ691)))))
            have w699 : ∀ k : Nat, k < 1400 → (-1) ≤ (σ693 33 k).toInt ∧ (σ693 33 k).toInt ≤ 350 := (jrr_fr (jnp 33 eσ693 (of_decide_eq_true rfl)) (jrr_fr (jnp 33 eσ692 (of_decide_eq_true rfl)) (jrr_fr (jnp 33 eσ691 (of_decide_eq_true rfl)) (jrr_fr (jnp 33 eσ690 (of_decide_eq_true rfl)) (jrr_fr (jnp 33 eσ689 (of_decide_eq_true rfl)) w9)))))
            have w700 : ∀ k : Nat, k < 3159 → (-1) ≤ (σ693 35 k).toInt ∧ (σ693 35 k).toInt ≤ 3 := (jrr_fr (jnp 35 eσ693 (of_decide_eq_true rfl)) (jrr_fr (jnp 35 eσ692 (of_decide_eq_true rfl)) (jrr_fr (jnp 35 eσ691 (of_decide_eq_true rfl)) (jrr_fr (jnp 35 eσ690 (of_decide_eq_true rfl)) (jrr_fr (jnp 35 eσ689 (of_decide_eq_true rfl)) w10)))))
            exact by
             have w701 : ∀ k : Nat, k < 1024 → 0 ≤ (σ693 36 k).toInt ∧ (σ693 36 k).toInt ≤ 349 := (jrr_fr (jnp 36 eσ693 (of_decide_eq_true rfl)) (jrr_fr (jnp 36 eσ692 (of_decide_eq_true rfl)) (jrr_fr (jnp 36 eσ691 (of_decide_eq_true rfl)) (jrr_fr (jnp 36 eσ690 (of_decide_eq_true rfl)) (jrr_fr (jnp 36 eσ689 (of_decide_eq_true rfl)) w11)))))
             have I702 : jI31 σ693 := ⟨(by omega), (by omega), (by omega), (by omega), w699, w700, w701⟩
             refine jcallV (As := [.int a1, .int 0]) (rest := []) ⟨hx, hb, hml, hown, hts⟩ hK hP hA hS hZ (c_X1_add_31 l D cI cL ad zz hJ σ693 τ a1 (A1) t1 0 (0) jz_0 I702 p695 p696 (by omega) (by omega)) cw_RX1_111 (jc_31 cI cL ad σ693 τ) rfl ⟨Nat.le_of_ble_eq_true rfl, Nat.le_of_ble_eq_true rfl⟩ rfl rfl rfl hl.1 rfl (Nat.le_of_ble_eq_true rfl) dX1_grow_92 ⟨Nat.zero_le _, Nat.zero_le _⟩ (fun r704 σ703 τ703 H locs h703 hP hS => ?_)
             obtain ⟨rfl, f705, f706, I707, p708, p709, w710, h703⟩ := h703
             obtain ⟨i712, i713, i714, i715, w716, w717, w718⟩ : (0 ≤ (σ703 31 8).toInt ∧ (σ703 31 8).toInt ≤ 350) ∧ (0 ≤ (σ703 31 10).toInt ∧ (σ703 31 10).toInt ≤ 12) ∧ (0 ≤ (σ703 31 11).toInt ∧ (σ703 31 11).toInt ≤ 8) ∧ ((σ703 31 10).toInt + (σ703 31 11).toInt ≤ 12) ∧ (∀ k : Nat, k < 1400 → (-1) ≤ (σ703 33 k).toInt ∧ (σ703 33 k).toInt ≤ 350) ∧ (∀ k : Nat, k < 3159 → (-1) ≤ (σ703 35 k).toInt ∧ (σ703 35 k).toInt ≤ 3) ∧ (∀ k : Nat, k < 1024 → 0 ≤ (σ703 36 k).toInt ∧ (σ703 36 k).toInt ≤ 349) := id I707
             have z719 : (σ703 31 10).toInt = A2 := ((congrArg Int32.toInt (show σ703 31 10 = a2 from ((f706 10 (of_decide_eq_true rfl)).trans ((jkp 10 eσ693 (of_decide_eq_true rfl)).trans ((jkp 10 eσ692 (of_decide_eq_true rfl)).trans ((jkp 10 eσ691 (of_decide_eq_true rfl)).trans (jsp eσ690))))))).trans t2)
             have z720 : (σ703 31 11).toInt = x16.toInt := (congrArg Int32.toInt (show σ703 31 11 = x16 from ((f706 11 (of_decide_eq_true rfl)).trans ((jkp 11 eσ693 (of_decide_eq_true rfl)).trans ((jkp 11 eσ692 (of_decide_eq_true rfl)).trans (jsp eσ691))))))
             have h721 := h703
             obtain ⟨q723, k722⟩ := h721
             exact by
              refine lv_pop hx hb dX1_grow_95 rfl ?_
              refine lv_iconst (v := 0) hx hb dX1_grow_96 (of_decide_eq_true rfl) ?_
              refine lv_istore (lv' := [(5, .int 0), (4, .int 0), (3, .int x16), (0, .ref (ad 31)), (1, .int a1), (2, .int a2)]) hx hb dX1_grow_97 hl (of_decide_eq_true rfl) rfl (fun ls hl => ?_)
              have lp724 : ∀ (n725 : Nat) (x726 : Int32) (σ730 : Nat → Nat → Int32) (H : Heap) (locs : List Loc) (ls : Array Slot), (-x726.toInt + 350 : Int) < n725 → 0 ≤ x726.toInt → x726.toInt ≤ 350 → (∀ i : Nat, (i < 31 ∨ 33 < i) ∧ (i < 36 ∨ 37 < i) → σ730 i = σ703 i) → (∀ k : Nat, (k < 8 ∨ 8 < k) → σ730 31 k = σ703 31 k) → jKb σ730 → jKh σ730 → jI31 σ730 → (jFm a1 → jqGo a1 (decide ((σ730 31 12).toInt ≠ 0)) (σ730 31 11).toInt (σ730 31 8).toInt (σ730 32) (σ730 33) x726.toInt 0) → jH D cI cL ad σ730 τ H → va_S (jA ad) s.heap H locs → lv_has ls 9 [(5, .int x726), (4, .int 0), (3, .int x16), (0, .ref (ad 31)), (1, .int a1), (2, .int a2)] → W p l e ({ frames := 3, cells := 0, slots := 0, locals := 73 }) s m args below meth c H locs 0 0 Q (F0 m 99 ls []) := by
                intro n725
                induction n725 with
                | zero => intro x726 σ730 H locs ls h732 h733 h734; exact absurd h732 (by omega)
                | succ n725 ihlp724 =>
                  intro x726 σ730 H locs ls h732 h733 h734 f735 f736 p737 p738 p739 q740 hP hS hl
                  exact by
                   obtain ⟨i741, i742, i743, i744, w745, w746, w747⟩ : (0 ≤ (σ730 31 8).toInt ∧ (σ730 31 8).toInt ≤ 350) ∧ (0 ≤ (σ730 31 10).toInt ∧ (σ730 31 10).toInt ≤ 12) ∧ (0 ≤ (σ730 31 11).toInt ∧ (σ730 31 11).toInt ≤ 8) ∧ ((σ730 31 10).toInt + (σ730 31 11).toInt ≤ 12) ∧ (∀ k : Nat, k < 1400 → (-1) ≤ (σ730 33 k).toInt ∧ (σ730 33 k).toInt ≤ 350) ∧ (∀ k : Nat, k < 3159 → (-1) ≤ (σ730 35 k).toInt ∧ (σ730 35 k).toInt ≤ 3) ∧ (∀ k : Nat, k < 1024 → 0 ≤ (σ730 36 k).toInt ∧ (σ730 36 k).toInt ≤ 349) := id p739
                   have z748 : (σ730 31 10).toInt = A2 := ((congrArg Int32.toInt (show σ730 31 10 = a2 from ((f736 10 (of_decide_eq_true rfl)).trans ((f706 10 (of_decide_eq_true rfl)).trans ((jkp 10 eσ693 (of_decide_eq_true rfl)).trans ((jkp 10 eσ692 (of_decide_eq_true rfl)).trans ((jkp 10 eσ691 (of_decide_eq_true rfl)).trans (jsp eσ690)))))))).trans t2)
                   have z749 : (σ730 31 11).toInt = x16.toInt := (congrArg Int32.toInt (show σ730 31 11 = x16 from ((f736 11 (of_decide_eq_true rfl)).trans ((f706 11 (of_decide_eq_true rfl)).trans ((jkp 11 eσ693 (of_decide_eq_true rfl)).trans ((jkp 11 eσ692 (of_decide_eq_true rfl)).trans (jsp eσ691)))))))
                   refine lv_iload hx hb dX1_grow_99 (lv_at hl 0 rfl) ?_
                   refine lv_aload_n hx hb dX1_grow_101 rfl (lv_at hl 3 rfl) ?_
                   refine va_get (D := D) hx hb hts inlX1 hown hK hP 31 (jc_31 cI cL ad σ730 τ) rfl 8 (of_decide_eq_true rfl) (hts _ kw_27_22) (fun _ h9 => h9) rfl dX1_grow_102 ?_
                   refine lv_icmp_ge (tgt := 202) hx hb dX1_grow_105 (of_decide_eq_true rfl) (fun c750 => ?_) (fun c750 => ?_)
                   · have kc750 := jle c750 rfl rfl
                     have p751 : jKg σ730 := (show jFm (σ730 31 9) → _ from by rw [show σ730 31 9 = a1 from ((f736 9 (of_decide_eq_true rfl)).trans ((f706 9 (of_decide_eq_true rfl)).trans ((jkp 9 eσ693 (of_decide_eq_true rfl)).trans ((jkp 9 eσ692 (of_decide_eq_true rfl)).trans ((jkp 9 eσ691 (of_decide_eq_true rfl)).trans ((jkp 9 eσ690 (of_decide_eq_true rfl)).trans (jsp eσ689)))))))]; exact fun hm => (q740 hm).fin (by omega))
                     exact by
                      have z752 : (σ730 31 9).toInt = A1 := ((congrArg Int32.toInt (show σ730 31 9 = a1 from ((f736 9 (of_decide_eq_true rfl)).trans ((f706 9 (of_decide_eq_true rfl)).trans ((jkp 9 eσ693 (of_decide_eq_true rfl)).trans ((jkp 9 eσ692 (of_decide_eq_true rfl)).trans ((jkp 9 eσ691 (of_decide_eq_true rfl)).trans ((jkp 9 eσ690 (of_decide_eq_true rfl)).trans (jsp eσ689))))))))).trans t1)
                      have z753 : (σ730 31 12).toInt = 0 := ((congrArg Int32.toInt (show σ730 31 12 = 0 from ((f736 12 (of_decide_eq_true rfl)).trans ((f706 12 (of_decide_eq_true rfl)).trans ((jkp 12 eσ693 (of_decide_eq_true rfl)).trans (jsp eσ692)))))).trans jz_0)
                      exact by exact hret σ730 τ _ _ _ _ ⟨rfl, (fun i hi => ((f735 i hi).trans ((f705 i (imp_86 i hi)).trans ((jnp i eσ693 (imp_87 i hi)).trans ((jnp i eσ692 (imp_87 i hi)).trans ((jnp i eσ691 (imp_87 i hi)).trans ((jnp i eσ690 (imp_87 i hi)).trans (jnp i eσ689 (imp_87 i hi))))))))), (fun i hi => ((f736 i (imp_88 i hi)).trans ((f706 i (imp_88 i hi)).trans ((jkp i eσ693 (imp_89 i hi)).trans ((jkp i eσ692 (imp_90 i hi)).trans ((jkp i eσ691 (imp_91 i hi)).trans ((jkp i eσ690 (imp_92 i hi)).trans (jkp i eσ689 (imp_93 i hi))))))))), p739, p737, p738, p751, (by rw [show σ730 31 12 = 0 from ((f736 12 (of_decide_eq_true rfl)).trans ((f706 12 (of_decide_eq_true rfl)).trans ((jkp 12 eσ693 (of_decide_eq_true rfl)).trans (jsp eσ692))))]; exact w20), (show jqGk σ σ730 a1 (σ730 31 11).toInt from fun _ h2 _ _ => False.elim (by omega)), (by omega), (by omega), (by omega), (by omega), trivial⟩ hP hS dX1_grow_202
                   · have kc750 := jnle c750 rfl rfl
                     refine lv_iload hx hb dX1_grow_108 (lv_at hl 0 rfl) ?_
                     refine lv_sipush (v := 350) hx hb dX1_grow_110 (of_decide_eq_true rfl) ?_
                     refine lv_icmp_ge (tgt := 202) hx hb dX1_grow_113 (of_decide_eq_true rfl) (fun c => absurd (jle c jz_350 rfl) (by omega)) (fun c754 => ?_)
                     have kc754 := jnle c754 jz_350 rfl
                     refine lv_aload_n hx hb dX1_grow_116 rfl (lv_at hl 3 rfl) ?_
                     exact by
                      refine va_get (D := D) hx hb hts inlX1 hown hK hP 31 (jc_31 cI cL ad σ730 τ) rfl 2 (of_decide_eq_true rfl) (hts _ kw_5_3) (fun _ h9 => h9) rfl dX1_grow_117 ?_
                      refine lv_iload hx hb dX1_grow_120 (lv_at hl 0 rfl) ?_
                      refine jald hx hb hK hP (jc_32 cI cL ad σ730 τ) (jin rfl (by omega) (by omega)) dX1_grow_122 ?_
                      refine jtopr (y := (σ730 32 x726.toNatClampNeg)) rfl ?_
                      refine lv_ldc (v := 134217727) hx hb hown (hts _ kw_28_10) dX1_grow_123 ?_
                      refine lv_iand hx hb dX1_grow_125 ?_
                      refine lv_topi (fun x755 ex755 => ?_)
                      have gx755 := jrg (rfl : x755.toInt = x755.toInt)
                      have g756 : 0 ≤ x755.toInt ∧ x755.toInt ≤ 134217727 := jmask ex755 27 (of_decide_eq_true rfl) (of_decide_eq_true rfl)
                      exact by
                       refine lv_istore (lv' := [(6, .int x755), (5, .int x726), (4, .int 0), (3, .int x16), (0, .ref (ad 31)), (1, .int a1), (2, .int a2)]) hx hb dX1_grow_126 hl (of_decide_eq_true rfl) rfl (fun ls hl => ?_)
                       refine lv_aload_n hx hb dX1_grow_128 rfl (lv_at hl 4 rfl) ?_
                       refine va_get (D := D) hx hb hts inlX1 hown hK hP 31 (jc_31 cI cL ad σ730 τ) rfl 2 (of_decide_eq_true rfl) (hts _ kw_5_3) (fun _ h9 => h9) rfl dX1_grow_129 ?_
                       refine lv_iload hx hb dX1_grow_132 (lv_at hl 1 rfl) ?_
                       refine jald hx hb hK hP (jc_32 cI cL ad σ730 τ) (jin rfl (by omega) (by omega)) dX1_grow_134 ?_
                       refine jtopr (y := (σ730 32 x726.toNatClampNeg)) rfl ?_
                       refine lv_bipush (v := 27) hx hb dX1_grow_135 (of_decide_eq_true rfl) ?_
                       refine lv_ishr hx hb dX1_grow_137 ?_
                       refine lv_topi (fun x757 ex757 => ?_)
                       exact by
                        have gx757 := jrg (rfl : x757.toInt = x757.toInt)
                        have k758 := jshr27 (x := x757) (k := (σ730 32 x726.toNatClampNeg)) (by rw [ex757])
                        have k759 := p737 x726.toNatClampNeg (by rw [jnc (rfl : x726.toInt = x726.toInt)]; omega)
                        refine lv_istore (lv' := [(7, .int x757), (6, .int x755), (5, .int x726), (4, .int 0), (3, .int x16), (0, .ref (ad 31)), (1, .int a1), (2, .int a2)]) hx hb dX1_grow_138 hl (of_decide_eq_true rfl) rfl (fun ls hl => ?_)
                        refine lv_iconst (v := 0) hx hb dX1_grow_140 (of_decide_eq_true rfl) ?_
                        refine lv_istore (lv' := [(8, .int 0), (7, .int x757), (6, .int x755), (5, .int x726), (4, .int 0), (3, .int x16), (0, .ref (ad 31)), (1, .int a1), (2, .int a2)]) hx hb dX1_grow_141 hl (of_decide_eq_true rfl) rfl (fun ls hl => ?_)
                        have lp760 : ∀ (n761 : Nat) (x762 : Int32) (σ763 : Nat → Nat → Int32) (H : Heap) (locs : List Loc) (ls : Array Slot), (-x762.toInt + 4 : Int) < n761 → 0 ≤ x762.toInt → x762.toInt ≤ 4 → (∀ i : Nat, (i < 31 ∨ 33 < i) ∧ (i < 36 ∨ 37 < i) → σ763 i = σ730 i) → (∀ k : Nat, (k < 8 ∨ 8 < k) → σ763 31 k = σ730 31 k) → jKb σ763 → jKh σ763 → jI31 σ763 → ((jFm a1 → jqGo a1 (decide ((σ763 31 12).toInt ≠ 0)) (σ763 31 11).toInt (σ763 31 8).toInt (σ763 32) (σ763 33) x726.toInt x762.toInt) ∧ jqNo (σ763 32 x726.toInt.toNat) x755 x757.toInt ∧ x726.toInt < (σ763 31 8).toInt) → jH D cI cL ad σ763 τ H → va_S (jA ad) s.heap H locs → lv_has ls 9 [(8, .int x762), (7, .int x757), (6, .int x755), (5, .int x726), (4, .int 0), (3, .int x16), (0, .ref (ad 31)), (1, .int a1), (2, .int a2)] → W p l e ({ frames := 3, cells := 0, slots := 0, locals := 73 }) s m args below meth c H locs 0 0 Q (F0 m 143 ls []) := by
                          intro n761
                          induction n761 with
                          | zero => intro x762 σ763 H locs ls h765 h766 h767; exact absurd h765 (by omega)
                          | succ n761 ihlp760 =>
                            intro x762 σ763 H locs ls h765 h766 h767 f768 f769 p770 p771 p772 q773 hP hS hl
                            exact by
                             obtain ⟨i774, i775, i776, i777, w778, w779, w780⟩ : (0 ≤ (σ763 31 8).toInt ∧ (σ763 31 8).toInt ≤ 350) ∧ (0 ≤ (σ763 31 10).toInt ∧ (σ763 31 10).toInt ≤ 12) ∧ (0 ≤ (σ763 31 11).toInt ∧ (σ763 31 11).toInt ≤ 8) ∧ ((σ763 31 10).toInt + (σ763 31 11).toInt ≤ 12) ∧ (∀ k : Nat, k < 1400 → (-1) ≤ (σ763 33 k).toInt ∧ (σ763 33 k).toInt ≤ 350) ∧ (∀ k : Nat, k < 3159 → (-1) ≤ (σ763 35 k).toInt ∧ (σ763 35 k).toInt ≤ 3) ∧ (∀ k : Nat, k < 1024 → 0 ≤ (σ763 36 k).toInt ∧ (σ763 36 k).toInt ≤ 349) := id p772
                             have z781 : (σ763 31 10).toInt = A2 := ((congrArg Int32.toInt (show σ763 31 10 = a2 from ((f769 10 (of_decide_eq_true rfl)).trans ((f736 10 (of_decide_eq_true rfl)).trans ((f706 10 (of_decide_eq_true rfl)).trans ((jkp 10 eσ693 (of_decide_eq_true rfl)).trans ((jkp 10 eσ692 (of_decide_eq_true rfl)).trans ((jkp 10 eσ691 (of_decide_eq_true rfl)).trans (jsp eσ690))))))))).trans t2)
                             have z782 : (σ763 31 11).toInt = x16.toInt := (congrArg Int32.toInt (show σ763 31 11 = x16 from ((f769 11 (of_decide_eq_true rfl)).trans ((f736 11 (of_decide_eq_true rfl)).trans ((f706 11 (of_decide_eq_true rfl)).trans ((jkp 11 eσ693 (of_decide_eq_true rfl)).trans ((jkp 11 eσ692 (of_decide_eq_true rfl)).trans (jsp eσ691))))))))
                             refine lv_iload hx hb dX1_grow_143 (lv_at hl 0 rfl) ?_
                             refine lv_iconst (v := 4) hx hb dX1_grow_145 (of_decide_eq_true rfl) ?_
                             refine lv_icmp_ge (tgt := 196) hx hb dX1_grow_146 (of_decide_eq_true rfl) (fun c783 => ?_) (fun c783 => ?_)
                             · have kc783 := jle c783 jz_4 rfl
                               obtain ⟨x784, ex784⟩ : ∃ y : Int32, y = x726 + 1 := ⟨_, rfl⟩
                               have tx784 : x784.toInt = x726.toInt + 1 := (jadd ex784 rfl jz_1 (by omega) (by omega)).trans (by omega)
                               exact by
                                refine lv_iinc (v := x784) (lv' := [(5, .int x784), (8, .int x762), (7, .int x757), (6, .int x755), (4, .int 0), (3, .int x16), (0, .ref (ad 31)), (1, .int a1), (2, .int a2)]) hx hb dX1_grow_196 hl (k := 3) rfl (by rw [ex784]; rfl) (of_decide_eq_true rfl) rfl (fun ls hl => ?_)
                                refine lv_goto (tgt := 99) hx hb dX1_grow_199 (of_decide_eq_true rfl) ?_
                                exact by exact ihlp724 x784 σ763 _ _ ls (by have h90 := tx784; omega) (by have h90 := tx784; omega) (by have h90 := tx784; omega) (fun i hi => ((f768 i hi).trans (f735 i hi))) (fun i hi => ((f769 i hi).trans (f736 i hi)))  p770 p771 p772 (fun hm => jqGo.row (q773.1 hm) (by omega) (by have h9 := tx784; omega) (by omega) q773.2.2) hP hS (lv_sub hl [0, 4, 5, 6, 7, 8] rfl)
                             · have kc783 := jnle c783 jz_4 rfl
                               refine lv_aload_n hx hb dX1_grow_149 rfl (lv_at hl 6 rfl) ?_
                               refine va_get (D := D) hx hb hts inlX1 hown hK hP 31 (jc_31 cI cL ad σ763 τ) rfl 3 (of_decide_eq_true rfl) (hts _ kw_5_4) (fun _ h9 => h9) rfl dX1_grow_150 ?_
                               refine lv_iload hx hb dX1_grow_153 (lv_at hl 3 rfl) ?_
                               refine lv_iconst (v := 4) hx hb dX1_grow_155 (of_decide_eq_true rfl) ?_
                               have g785 := jrg (rfl : x726.toInt = x726.toInt)
                               refine lv_imul hx hb dX1_grow_156 ?_
                               refine lv_topi (fun x786 ex786 => ?_)
                               exact by
                                have tx786 : x786.toInt = 4 * x726.toInt := (jmul ex786 rfl jz_4 (by omega) (by omega)).trans (by omega)
                                refine lv_iload hx hb dX1_grow_157 (lv_at hl 0 rfl) ?_
                                have g787 := jrg (rfl : x762.toInt = x762.toInt)
                                refine lv_iadd hx hb dX1_grow_159 ?_
                                refine lv_topi (fun x788 ex788 => ?_)
                                have tx788 : x788.toInt = 4 * x726.toInt + x762.toInt := (jadd ex788 tx786 rfl (by omega) (by omega)).trans (by omega)
                                refine lv_iload hx hb dX1_grow_160 (lv_at hl 2 rfl) ?_
                                refine lv_iload hx hb dX1_grow_162 (lv_at hl 0 rfl) ?_
                                refine jcallS (As := [.int x755, .int x762]) (rest := [.int x788, .ref (ad 33)]) ⟨hx, hb, hml, hown, hts⟩ hK hP hA hS hZ (c_X0_mayBowl l D cI cL ad zz hJ σ763 τ x755 (x755.toInt) rfl x762 (x762.toInt) rfl) cw_RX1_115 ⟨Nat.le_of_ble_eq_true rfl, Nat.le_of_ble_eq_true rfl⟩ rfl rfl rfl hl.1 rfl (Nat.le_of_ble_eq_true rfl) dX1_grow_164 ⟨Nat.zero_le _, Nat.zero_le _⟩ (fun r790 σ789 τ789 H locs h789 hP hS => ?_)
                                exact by
                                 obtain ⟨⟨rfl, rfl⟩, w791, h789⟩ := h789
                                 rcases h789 with h792 | h793
                                 · obtain ⟨q795, k794⟩ := h792
                                   have q795 := q795.symm
                                   subst q795
                                   refine lv_if_eq (tgt := 188) hx hb dX1_grow_167 (of_decide_eq_true rfl) (fun c => absurd c (of_decide_eq_true rfl)) (fun _ => ?_)
                                   refine lv_aload_n hx hb dX1_grow_170 rfl (lv_at hl 6 rfl) ?_
                                   refine lv_iload hx hb dX1_grow_171 (lv_at hl 2 rfl) ?_
                                   refine lv_iload hx hb dX1_grow_173 (lv_at hl 0 rfl) ?_
                                   exact by
                                    refine jcallS (As := [.int x755, .int x762]) (rest := [.ref (ad 31), .int x788, .ref (ad 33)]) ⟨hx, hb, hml, hown, hts⟩ hK hP hA hS hZ (c_X0_after_r l D cI cL ad zz hJ σ763 τ x755 (x755.toInt) rfl x762 (x762.toInt) rfl (by omega)) cw_RX1_119 ⟨Nat.le_of_ble_eq_true rfl, Nat.le_of_ble_eq_true rfl⟩ rfl rfl rfl hl.1 rfl (Nat.le_of_ble_eq_true rfl) dX1_grow_175 ⟨Nat.zero_le _, Nat.zero_le _⟩ (fun r797 σ796 τ796 H locs h796 hP hS => ?_)
                                    obtain ⟨⟨rfl, rfl⟩, w798, w799, h796⟩ := h796
                                    have h800 := h796
                                    obtain ⟨q802, k801⟩ := h800
                                    refine lv_iload hx hb dX1_grow_178 (lv_at hl 1 rfl) ?_
                                    refine lv_iconst (v := 1) hx hb dX1_grow_180 (of_decide_eq_true rfl) ?_
                                    have g803 := jrg (rfl : x757.toInt = x757.toInt)
                                    refine lv_iadd hx hb dX1_grow_181 ?_
                                    refine lv_topi (fun x804 ex804 => ?_)
                                    exact by
                                     have tx804 : x804.toInt = x757.toInt + 1 := (jadd ex804 rfl jz_1 (by omega) (by omega)).trans (by omega)
                                     refine jcallV (As := [.int r797, .int x804]) (rest := [.int x788, .ref (ad 33)]) ⟨hx, hb, hml, hown, hts⟩ hK hP hA hS hZ (c_X1_add_31 l D cI cL ad zz hJ σ763 τ r797 (r797.toInt) rfl x804 (x757.toInt + 1) tx804 p772 p770 p771 (by omega) (by omega)) cw_RX1_111 (jc_31 cI cL ad σ763 τ) rfl ⟨Nat.le_of_ble_eq_true rfl, Nat.le_of_ble_eq_true rfl⟩ rfl rfl rfl hl.1 rfl (Nat.le_of_ble_eq_true rfl) dX1_grow_182 ⟨Nat.zero_le _, Nat.zero_le _⟩ (fun r806 σ805 τ805 H locs h805 hP hS => ?_)
                                     obtain ⟨rfl, f807, f808, I809, p810, p811, w812, h805⟩ := h805
                                     obtain ⟨i814, i815, i816, i817, w818, w819, w820⟩ : (0 ≤ (σ805 31 8).toInt ∧ (σ805 31 8).toInt ≤ 350) ∧ (0 ≤ (σ805 31 10).toInt ∧ (σ805 31 10).toInt ≤ 12) ∧ (0 ≤ (σ805 31 11).toInt ∧ (σ805 31 11).toInt ≤ 8) ∧ ((σ805 31 10).toInt + (σ805 31 11).toInt ≤ 12) ∧ (∀ k : Nat, k < 1400 → (-1) ≤ (σ805 33 k).toInt ∧ (σ805 33 k).toInt ≤ 350) ∧ (∀ k : Nat, k < 3159 → (-1) ≤ (σ805 35 k).toInt ∧ (σ805 35 k).toInt ≤ 3) ∧ (∀ k : Nat, k < 1024 → 0 ≤ (σ805 36 k).toInt ∧ (σ805 36 k).toInt ≤ 349) := id I809
                                     have z821 : (σ805 31 10).toInt = A2 := ((congrArg Int32.toInt (show σ805 31 10 = a2 from ((f808 10 (of_decide_eq_true rfl)).trans ((f769 10 (of_decide_eq_true rfl)).trans ((f736 10 (of_decide_eq_true rfl)).trans ((f706 10 (of_decide_eq_true rfl)).trans ((jkp 10 eσ693 (of_decide_eq_true rfl)).trans ((jkp 10 eσ692 (of_decide_eq_true rfl)).trans ((jkp 10 eσ691 (of_decide_eq_true rfl)).trans (jsp eσ690)))))))))).trans t2)
                                     have z822 : (σ805 31 11).toInt = x16.toInt := (congrArg Int32.toInt (show σ805 31 11 = x16 from ((f808 11 (of_decide_eq_true rfl)).trans ((f769 11 (of_decide_eq_true rfl)).trans ((f736 11 (of_decide_eq_true rfl)).trans ((f706 11 (of_decide_eq_true rfl)).trans ((jkp 11 eσ693 (of_decide_eq_true rfl)).trans ((jkp 11 eσ692 (of_decide_eq_true rfl)).trans (jsp eσ691)))))))))
                                     have h823 := h805
                                     obtain ⟨q825, k824⟩ := h823
                                     refine lv_goto (tgt := 189) hx hb dX1_grow_185 (of_decide_eq_true rfl) ?_
                                     exact by
                                      refine jast hx hb hK hP hJ hA hS (jc_33 cI cL ad σ805 τ) (ja_33 cI cL ad σ805 τ _ _) (jin tx788 (by omega) (by omega)) dX1_grow_189 (fun σ826 H locs eσ826 hP hS => ?_)
                                      obtain ⟨x827, ex827⟩ : ∃ y : Int32, y = x762 + 1 := ⟨_, rfl⟩
                                      have tx827 : x827.toInt = x762.toInt + 1 := (jadd ex827 rfl jz_1 (by omega) (by omega)).trans (by omega)
                                      refine lv_iinc (v := x827) (lv' := [(8, .int x827), (7, .int x757), (6, .int x755), (5, .int x726), (4, .int 0), (3, .int x16), (0, .ref (ad 31)), (1, .int a1), (2, .int a2)]) hx hb dX1_grow_190 hl (k := 0) rfl (by rw [ex827]; rfl) (of_decide_eq_true rfl) rfl (fun ls hl => ?_)
                                      refine lv_goto (tgt := 143) hx hb dX1_grow_193 (of_decide_eq_true rfl) ?_
                                      have p828 : jKb σ826 := jKb.fr (congrFun (jnp 31 eσ826 (of_decide_eq_true rfl)) 8) (congrFun (jnp 31 eσ826 (of_decide_eq_true rfl)) 11) (jnp 32 eσ826 (of_decide_eq_true rfl)) p810
                                      have p829 : jKh σ826 := jKh.fr (congrFun (jnp 31 eσ826 (of_decide_eq_true rfl)) 8) (jnp 32 eσ826 (of_decide_eq_true rfl)) (jnp 36 eσ826 (of_decide_eq_true rfl)) (jnp 37 eσ826 (of_decide_eq_true rfl)) p811
                                      have z830 : (σ826 31 8).toInt = (σ805 31 8).toInt := (congrArg Int32.toInt (show σ826 31 8 = (σ805 31 8) from (congrFun (jnp 31 eσ826 (of_decide_eq_true rfl)) 8)))
                                      have z831 : (σ826 31 10).toInt = A2 := ((congrArg Int32.toInt (show σ826 31 10 = a2 from ((congrFun (jnp 31 eσ826 (of_decide_eq_true rfl)) 10).trans ((f808 10 (of_decide_eq_true rfl)).trans ((f769 10 (of_decide_eq_true rfl)).trans ((f736 10 (of_decide_eq_true rfl)).trans ((f706 10 (of_decide_eq_true rfl)).trans ((jkp 10 eσ693 (of_decide_eq_true rfl)).trans ((jkp 10 eσ692 (of_decide_eq_true rfl)).trans ((jkp 10 eσ691 (of_decide_eq_true rfl)).trans (jsp eσ690))))))))))).trans t2)
                                      exact by
                                       have z832 : (σ826 31 11).toInt = x16.toInt := (congrArg Int32.toInt (show σ826 31 11 = x16 from ((congrFun (jnp 31 eσ826 (of_decide_eq_true rfl)) 11).trans ((f808 11 (of_decide_eq_true rfl)).trans ((f769 11 (of_decide_eq_true rfl)).trans ((f736 11 (of_decide_eq_true rfl)).trans ((f706 11 (of_decide_eq_true rfl)).trans ((jkp 11 eσ693 (of_decide_eq_true rfl)).trans ((jkp 11 eσ692 (of_decide_eq_true rfl)).trans (jsp eσ691))))))))))
                                       have w833 : ∀ k : Nat, k < 1400 → (-1) ≤ (σ826 33 k).toInt ∧ (σ826 33 k).toInt ≤ 350 := (by rw [eσ826]; exact jrr_up w818 (by omega) (by omega))
                                       have w834 : ∀ k : Nat, k < 3159 → (-1) ≤ (σ826 35 k).toInt ∧ (σ826 35 k).toInt ≤ 3 := (jrr_fr (jnp 35 eσ826 (of_decide_eq_true rfl)) w819)
                                       have w835 : ∀ k : Nat, k < 1024 → 0 ≤ (σ826 36 k).toInt ∧ (σ826 36 k).toInt ≤ 349 := (jrr_fr (jnp 36 eσ826 (of_decide_eq_true rfl)) w820)
                                       have I836 : jI31 σ826 := ⟨(by omega), (by omega), (by omega), (by omega), w833, w834, w835⟩
                                       exact by exact ihlp760 x827 σ826 _ _ ls (by have h90 := tx827; omega) (by have h90 := tx827; omega) (by have h90 := tx827; omega) (fun i hi => ((jnp i eσ826 (imp_94 i hi)).trans ((f807 i (imp_86 i hi)).trans (f768 i hi)))) (fun i hi => ((congrFun (jnp 31 eσ826 (of_decide_eq_true rfl)) i).trans ((f808 i hi).trans (f769 i hi))))  p828 p829 I836 (by rw [show σ826 31 8 = σ805 31 8 from (congrFun (jnp 31 eσ826 (of_decide_eq_true rfl)) 8), show σ826 32 = σ805 32 from (jnp 32 eσ826 (of_decide_eq_true rfl)), show σ826 31 11 = σ763 31 11 from ((congrFun (jnp 31 eσ826 (of_decide_eq_true rfl)) 11).trans (f808 11 (of_decide_eq_true rfl))), show σ826 31 12 = σ763 31 12 from ((congrFun (jnp 31 eσ826 (of_decide_eq_true rfl)) 12).trans (f808 12 (of_decide_eq_true rfl)))]; exact ⟨(fun hm => jqGo.put (q773.1 hm) (by omega) (by omega) (by omega) (by omega) q773.2.1 ((jqMy_iff (by omega) (by omega)).mpr ((w791).elim (fun w => w.2) (fun w => absurd w.1 (of_decide_eq_true rfl)))) (w799 (by omega) (by omega)) w812 (by omega) p771 (by omega) (by rw [eσ826, jup_row, f807 33 (of_decide_eq_true rfl), jnc (show x788.toInt = 4 * x726.toInt + x762.toInt by have h9 := tx788; omega)]) rfl (by have h9 := tx827; omega)), (by rw [(w812).1 x726.toInt.toNat (by omega)]; exact q773.2.1), (by have w8 := jqAd.le w812; have w9 := q773.2.2; omega)⟩) hP hS (lv_sub hl [0, 1, 2, 3, 4, 5, 6, 7, 8] rfl)
                                 · obtain ⟨q838, k837⟩ := h793
                                   have q838 := q838.symm
                                   subst q838
                                   exact by
                                    refine lv_if_eq (tgt := 188) hx hb dX1_grow_167 (of_decide_eq_true rfl) (fun _ => ?_) (fun c => absurd (of_decide_eq_true rfl) c)
                                    refine lv_iconst (v := (-1)) hx hb dX1_grow_188 (of_decide_eq_true rfl) ?_
                                    refine jast hx hb hK hP hJ hA hS (jc_33 cI cL ad σ763 τ) (ja_33 cI cL ad σ763 τ _ _) (jin tx788 (by omega) (by omega)) dX1_grow_189 (fun σ839 H locs eσ839 hP hS => ?_)
                                    obtain ⟨x840, ex840⟩ : ∃ y : Int32, y = x762 + 1 := ⟨_, rfl⟩
                                    have tx840 : x840.toInt = x762.toInt + 1 := (jadd ex840 rfl jz_1 (by omega) (by omega)).trans (by omega)
                                    refine lv_iinc (v := x840) (lv' := [(8, .int x840), (7, .int x757), (6, .int x755), (5, .int x726), (4, .int 0), (3, .int x16), (0, .ref (ad 31)), (1, .int a1), (2, .int a2)]) hx hb dX1_grow_190 hl (k := 0) rfl (by rw [ex840]; rfl) (of_decide_eq_true rfl) rfl (fun ls hl => ?_)
                                    refine lv_goto (tgt := 143) hx hb dX1_grow_193 (of_decide_eq_true rfl) ?_
                                    have p841 : jKb σ839 := jKb.fr (congrFun (jnp 31 eσ839 (of_decide_eq_true rfl)) 8) (congrFun (jnp 31 eσ839 (of_decide_eq_true rfl)) 11) (jnp 32 eσ839 (of_decide_eq_true rfl)) p770
                                    have p842 : jKh σ839 := jKh.fr (congrFun (jnp 31 eσ839 (of_decide_eq_true rfl)) 8) (jnp 32 eσ839 (of_decide_eq_true rfl)) (jnp 36 eσ839 (of_decide_eq_true rfl)) (jnp 37 eσ839 (of_decide_eq_true rfl)) p771
                                    exact by
                                     have z843 : (σ839 31 8).toInt = (σ763 31 8).toInt := (congrArg Int32.toInt (show σ839 31 8 = (σ763 31 8) from (congrFun (jnp 31 eσ839 (of_decide_eq_true rfl)) 8)))
                                     have z844 : (σ839 31 10).toInt = A2 := ((congrArg Int32.toInt (show σ839 31 10 = a2 from ((congrFun (jnp 31 eσ839 (of_decide_eq_true rfl)) 10).trans ((f769 10 (of_decide_eq_true rfl)).trans ((f736 10 (of_decide_eq_true rfl)).trans ((f706 10 (of_decide_eq_true rfl)).trans ((jkp 10 eσ693 (of_decide_eq_true rfl)).trans ((jkp 10 eσ692 (of_decide_eq_true rfl)).trans ((jkp 10 eσ691 (of_decide_eq_true rfl)).trans (jsp eσ690)))))))))).trans t2)
                                     have z845 : (σ839 31 11).toInt = x16.toInt := (congrArg Int32.toInt (show σ839 31 11 = x16 from ((congrFun (jnp 31 eσ839 (of_decide_eq_true rfl)) 11).trans ((f769 11 (of_decide_eq_true rfl)).trans ((f736 11 (of_decide_eq_true rfl)).trans ((f706 11 (of_decide_eq_true rfl)).trans ((jkp 11 eσ693 (of_decide_eq_true rfl)).trans ((jkp 11 eσ692 (of_decide_eq_true rfl)).trans (jsp eσ691)))))))))
                                     have w846 : ∀ k : Nat, k < 1400 → (-1) ≤ (σ839 33 k).toInt ∧ (σ839 33 k).toInt ≤ 350 := (by rw [eσ839]; exact jrr_up w778 (by have h9 := jz_m1; omega) (by have h9 := jz_m1; omega))
                                     have w847 : ∀ k : Nat, k < 3159 → (-1) ≤ (σ839 35 k).toInt ∧ (σ839 35 k).toInt ≤ 3 := (jrr_fr (jnp 35 eσ839 (of_decide_eq_true rfl)) w779)
                                     have w848 : ∀ k : Nat, k < 1024 → 0 ≤ (σ839 36 k).toInt ∧ (σ839 36 k).toInt ≤ 349 := (jrr_fr (jnp 36 eσ839 (of_decide_eq_true rfl)) w780)
                                     have I849 : jI31 σ839 := ⟨(by omega), (by omega), (by omega), (by omega), w846, w847, w848⟩
                                     exact by exact ihlp760 x840 σ839 _ _ ls (by have h90 := tx840; omega) (by have h90 := tx840; omega) (by have h90 := tx840; omega) (fun i hi => ((jnp i eσ839 (imp_94 i hi)).trans (f768 i hi))) (fun i hi => ((congrFun (jnp 31 eσ839 (of_decide_eq_true rfl)) i).trans (f769 i hi)))  p841 p842 I849 (by rw [show σ839 31 8 = σ763 31 8 from (congrFun (jnp 31 eσ839 (of_decide_eq_true rfl)) 8), show σ839 31 11 = σ763 31 11 from (congrFun (jnp 31 eσ839 (of_decide_eq_true rfl)) 11), show σ839 31 12 = σ763 31 12 from (congrFun (jnp 31 eσ839 (of_decide_eq_true rfl)) 12), show σ839 32 = σ763 32 from (jnp 32 eσ839 (of_decide_eq_true rfl))]; exact ⟨(fun hm => jqGo.none (q773.1 hm) (by omega) (by omega) (by omega) (by omega) q773.2.1 (fun w => ((w791).elim (fun w => absurd w.1 (of_decide_eq_true rfl)) (fun w => w.2)) ((jqMy_iff (by omega) (by omega)).mp w)) (by rw [eσ839, jup_row, jnc (show x788.toInt = 4 * x726.toInt + x762.toInt by have h9 := tx788; omega)]) (of_decide_eq_true rfl) (by have h9 := tx840; omega)), q773.2.1, q773.2.2⟩) hP hS (lv_sub hl [0, 1, 2, 3, 4, 5, 6, 7, 8] rfl)
                        exact by exact lp760 1000000 0 σ730 _ _ ls (by have h90 := jz_0; omega) (by have h90 := jz_0; omega) (by have h90 := jz_0; omega) (fun _ _ => rfl) (fun _ _ => rfl)  p737 p738 p739 ⟨(by rw [show (0 : Int32).toInt = 0 from by decide]; exact q740), ⟨(by have w := jandm (x := (σ730 32 x726.toNatClampNeg)) (y := x755) (m := 134217727) (k := 27) (M := 134217728) (by rw [ex755]) rfl rfl (of_decide_eq_true rfl); show (σ730 32 x726.toNatClampNeg).toInt = _; omega), ⟨by omega, by omega⟩, (by omega)⟩, by omega⟩ hP hS hl
              exact by exact lp724 1000000 0 σ703 _ _ ls (by have h90 := jz_0; omega) (by have h90 := jz_0; omega) (by have h90 := jz_0; omega) (fun _ _ => rfl) (fun _ _ => rfl)  p708 p709 I707 (by rw [show σ703 31 11 = σ693 31 11 from (f706 11 (of_decide_eq_true rfl)), show σ703 31 12 = σ693 31 12 from (f706 12 (of_decide_eq_true rfl))]; exact (fun hm => jqGo.first hm (by have w := w710; rw [show (σ693 31 8).toInt = 0 from by omega] at w; exact w) rfl (by have h9 := jz_0; omega))) hP hS hl
         · exact by
            have kc688 := jeq c688 rfl rfl
            refine lv_aload_n hx hb dX1_grow_48 rfl (lv_at hl 2 rfl) ?_
            refine va_get (D := D) hx hb hts inlX1 hown hK hP 31 (jc_31 cI cL ad σ τ) rfl 12 (of_decide_eq_true rfl) (hts _ kw_28_8) (fun _ h9 => h9) rfl dX1_grow_49 ?_
            refine lv_iload hx hb dX1_grow_52 (lv_at hl 0 rfl) ?_
            refine lv_icmp_ne (tgt := 63) hx hb dX1_grow_54 (of_decide_eq_true rfl) (fun c850 => ?_) (fun c850 => ?_)
            · have kc850 := jne c850 rfl jz_0
              refine lv_aload_n hx hb dX1_grow_63 rfl (lv_at hl 2 rfl) ?_
              refine lv_iload_n hx hb dX1_grow_64 rfl (lv_at hl 3 rfl) ?_
              refine jput (ty := .int) hx hb hts inlX1 tyX1 tyX1_ok nmX1 hown hK hP hJ hA hS (jc_31 cI cL ad σ τ) rfl (k := 9) (of_decide_eq_true rfl) (Nat.le_of_ble_eq_true rfl) (jp_31_9 cI cL ad σ τ a1) (hts _ kw_5_9) (fun _ h9 => h9) rfl (by decide +kernel) rfl rfl dX1_grow_65 (fun σ851 H locs eσ851 hP hS => ?_)
              refine lv_aload_n hx hb dX1_grow_68 rfl (lv_at hl 2 rfl) ?_
              refine lv_iload_n hx hb dX1_grow_69 rfl (lv_at hl 4 rfl) ?_
              refine jput (ty := .int) hx hb hts inlX1 tyX1 tyX1_ok nmX1 hown hK hP hJ hA hS (jc_31 cI cL ad σ851 τ) rfl (k := 10) (of_decide_eq_true rfl) (Nat.le_of_ble_eq_true rfl) (jp_31_10 cI cL ad σ851 τ a2) (hts _ kw_28_9) (fun _ h9 => h9) rfl (by decide +kernel) rfl rfl dX1_grow_70 (fun σ852 H locs eσ852 hP hS => ?_)
              refine lv_aload_n hx hb dX1_grow_73 rfl (lv_at hl 2 rfl) ?_
              refine lv_iload_n hx hb dX1_grow_74 rfl (lv_at hl 1 rfl) ?_
              refine jput (ty := .int) hx hb hts inlX1 tyX1 tyX1_ok nmX1 hown hK hP hJ hA hS (jc_31 cI cL ad σ852 τ) rfl (k := 11) (of_decide_eq_true rfl) (Nat.le_of_ble_eq_true rfl) (jp_31_11 cI cL ad σ852 τ x16) (hts _ kw_28_7) (fun _ h9 => h9) rfl (by decide +kernel) rfl rfl dX1_grow_75 (fun σ853 H locs eσ853 hP hS => ?_)
              refine lv_aload_n hx hb dX1_grow_78 rfl (lv_at hl 2 rfl) ?_
              refine lv_iload hx hb dX1_grow_79 (lv_at hl 0 rfl) ?_
              refine jput (ty := .boolean) hx hb hts inlX1 tyX1 tyX1_ok nmX1 hown hK hP hJ hA hS (jc_31 cI cL ad σ853 τ) rfl (k := 12) (of_decide_eq_true rfl) (Nat.le_of_ble_eq_true rfl) (jp_31_12 cI cL ad σ853 τ 0) (hts _ kw_28_8) (fun _ h9 => h9) rfl (by decide +kernel) rfl rfl dX1_grow_81 (fun σ854 H locs eσ854 hP hS => ?_)
              refine lv_aload_n hx hb dX1_grow_84 rfl (lv_at hl 2 rfl) ?_
              refine lv_iconst (v := 0) hx hb dX1_grow_85 (of_decide_eq_true rfl) ?_
              refine jput (ty := .int) hx hb hts inlX1 tyX1 tyX1_ok nmX1 hown hK hP hJ hA hS (jc_31 cI cL ad σ854 τ) rfl (k := 8) (of_decide_eq_true rfl) (Nat.le_of_ble_eq_true rfl) (jp_31_8 cI cL ad σ854 τ 0) (hts _ kw_27_22) (fun _ h9 => h9) rfl (by decide +kernel) rfl rfl dX1_grow_86 (fun σ855 H locs eσ855 hP hS => ?_)
              have z856 : (σ855 31 8).toInt = 0 := ((congrArg Int32.toInt (show σ855 31 8 = 0 from (jsp eσ855))).trans jz_0)
              exact by
               have p857 : jKb σ855 := (jKb.nil (by omega))
               have p858 : jKh σ855 := (jKh.nil (by omega))
               refine lv_aload_n hx hb dX1_grow_89 rfl (lv_at hl 2 rfl) ?_
               refine lv_iload_n hx hb dX1_grow_90 rfl (lv_at hl 3 rfl) ?_
               refine lv_iconst (v := 0) hx hb dX1_grow_91 (of_decide_eq_true rfl) ?_
               have z859 : (σ855 31 10).toInt = A2 := ((congrArg Int32.toInt (show σ855 31 10 = a2 from ((jkp 10 eσ855 (of_decide_eq_true rfl)).trans ((jkp 10 eσ854 (of_decide_eq_true rfl)).trans ((jkp 10 eσ853 (of_decide_eq_true rfl)).trans (jsp eσ852)))))).trans t2)
               have z860 : (σ855 31 11).toInt = x16.toInt := (congrArg Int32.toInt (show σ855 31 11 = x16 from ((jkp 11 eσ855 (of_decide_eq_true rfl)).trans ((jkp 11 eσ854 (of_decide_eq_true rfl)).trans (jsp eσ853)))))
               have w861 : ∀ k : Nat, k < 1400 → (-1) ≤ (σ855 33 k).toInt ∧ (σ855 33 k).toInt ≤ 350 := (jrr_fr (jnp 33 eσ855 (of_decide_eq_true rfl)) (jrr_fr (jnp 33 eσ854 (of_decide_eq_true rfl)) (jrr_fr (jnp 33 eσ853 (of_decide_eq_true rfl)) (jrr_fr (jnp 33 eσ852 (of_decide_eq_true rfl)) (jrr_fr (jnp 33 eσ851 (of_decide_eq_true rfl)) w9)))))
               have w862 : ∀ k : Nat, k < 3159 → (-1) ≤ (σ855 35 k).toInt ∧ (σ855 35 k).toInt ≤ 3 := (jrr_fr (jnp 35 eσ855 (of_decide_eq_true rfl)) (jrr_fr (jnp 35 eσ854 (of_decide_eq_true rfl)) (jrr_fr (jnp 35 eσ853 (of_decide_eq_true rfl)) (jrr_fr (jnp 35 eσ852 (of_decide_eq_true rfl)) (jrr_fr (jnp 35 eσ851 (of_decide_eq_true rfl)) w10)))))
               exact by
                have w863 : ∀ k : Nat, k < 1024 → 0 ≤ (σ855 36 k).toInt ∧ (σ855 36 k).toInt ≤ 349 := (jrr_fr (jnp 36 eσ855 (of_decide_eq_true rfl)) (jrr_fr (jnp 36 eσ854 (of_decide_eq_true rfl)) (jrr_fr (jnp 36 eσ853 (of_decide_eq_true rfl)) (jrr_fr (jnp 36 eσ852 (of_decide_eq_true rfl)) (jrr_fr (jnp 36 eσ851 (of_decide_eq_true rfl)) w11)))))
                have I864 : jI31 σ855 := ⟨(by omega), (by omega), (by omega), (by omega), w861, w862, w863⟩
                refine jcallV (As := [.int a1, .int 0]) (rest := []) ⟨hx, hb, hml, hown, hts⟩ hK hP hA hS hZ (c_X1_add_31 l D cI cL ad zz hJ σ855 τ a1 (A1) t1 0 (0) jz_0 I864 p857 p858 (by omega) (by omega)) cw_RX1_111 (jc_31 cI cL ad σ855 τ) rfl ⟨Nat.le_of_ble_eq_true rfl, Nat.le_of_ble_eq_true rfl⟩ rfl rfl rfl hl.1 rfl (Nat.le_of_ble_eq_true rfl) dX1_grow_92 ⟨Nat.zero_le _, Nat.zero_le _⟩ (fun r866 σ865 τ865 H locs h865 hP hS => ?_)
                obtain ⟨rfl, f867, f868, I869, p870, p871, w872, h865⟩ := h865
                obtain ⟨i874, i875, i876, i877, w878, w879, w880⟩ : (0 ≤ (σ865 31 8).toInt ∧ (σ865 31 8).toInt ≤ 350) ∧ (0 ≤ (σ865 31 10).toInt ∧ (σ865 31 10).toInt ≤ 12) ∧ (0 ≤ (σ865 31 11).toInt ∧ (σ865 31 11).toInt ≤ 8) ∧ ((σ865 31 10).toInt + (σ865 31 11).toInt ≤ 12) ∧ (∀ k : Nat, k < 1400 → (-1) ≤ (σ865 33 k).toInt ∧ (σ865 33 k).toInt ≤ 350) ∧ (∀ k : Nat, k < 3159 → (-1) ≤ (σ865 35 k).toInt ∧ (σ865 35 k).toInt ≤ 3) ∧ (∀ k : Nat, k < 1024 → 0 ≤ (σ865 36 k).toInt ∧ (σ865 36 k).toInt ≤ 349) := id I869
                have z881 : (σ865 31 10).toInt = A2 := ((congrArg Int32.toInt (show σ865 31 10 = a2 from ((f868 10 (of_decide_eq_true rfl)).trans ((jkp 10 eσ855 (of_decide_eq_true rfl)).trans ((jkp 10 eσ854 (of_decide_eq_true rfl)).trans ((jkp 10 eσ853 (of_decide_eq_true rfl)).trans (jsp eσ852))))))).trans t2)
                have z882 : (σ865 31 11).toInt = x16.toInt := (congrArg Int32.toInt (show σ865 31 11 = x16 from ((f868 11 (of_decide_eq_true rfl)).trans ((jkp 11 eσ855 (of_decide_eq_true rfl)).trans ((jkp 11 eσ854 (of_decide_eq_true rfl)).trans (jsp eσ853))))))
                have h883 := h865
                obtain ⟨q885, k884⟩ := h883
                exact by
                 refine lv_pop hx hb dX1_grow_95 rfl ?_
                 refine lv_iconst (v := 0) hx hb dX1_grow_96 (of_decide_eq_true rfl) ?_
                 refine lv_istore (lv' := [(5, .int 0), (4, .int 0), (3, .int x16), (0, .ref (ad 31)), (1, .int a1), (2, .int a2)]) hx hb dX1_grow_97 hl (of_decide_eq_true rfl) rfl (fun ls hl => ?_)
                 have lp886 : ∀ (n887 : Nat) (x888 : Int32) (σ892 : Nat → Nat → Int32) (H : Heap) (locs : List Loc) (ls : Array Slot), (-x888.toInt + 350 : Int) < n887 → 0 ≤ x888.toInt → x888.toInt ≤ 350 → (∀ i : Nat, (i < 31 ∨ 33 < i) ∧ (i < 36 ∨ 37 < i) → σ892 i = σ865 i) → (∀ k : Nat, (k < 8 ∨ 8 < k) → σ892 31 k = σ865 31 k) → jKb σ892 → jKh σ892 → jI31 σ892 → (jFm a1 → jqGo a1 (decide ((σ892 31 12).toInt ≠ 0)) (σ892 31 11).toInt (σ892 31 8).toInt (σ892 32) (σ892 33) x888.toInt 0) → jH D cI cL ad σ892 τ H → va_S (jA ad) s.heap H locs → lv_has ls 9 [(5, .int x888), (4, .int 0), (3, .int x16), (0, .ref (ad 31)), (1, .int a1), (2, .int a2)] → W p l e ({ frames := 3, cells := 0, slots := 0, locals := 73 }) s m args below meth c H locs 0 0 Q (F0 m 99 ls []) := by
                   intro n887
                   induction n887 with
                   | zero => intro x888 σ892 H locs ls h894 h895 h896; exact absurd h894 (by omega)
                   | succ n887 ihlp886 =>
                     intro x888 σ892 H locs ls h894 h895 h896 f897 f898 p899 p900 p901 q902 hP hS hl
                     exact by
                      obtain ⟨i903, i904, i905, i906, w907, w908, w909⟩ : (0 ≤ (σ892 31 8).toInt ∧ (σ892 31 8).toInt ≤ 350) ∧ (0 ≤ (σ892 31 10).toInt ∧ (σ892 31 10).toInt ≤ 12) ∧ (0 ≤ (σ892 31 11).toInt ∧ (σ892 31 11).toInt ≤ 8) ∧ ((σ892 31 10).toInt + (σ892 31 11).toInt ≤ 12) ∧ (∀ k : Nat, k < 1400 → (-1) ≤ (σ892 33 k).toInt ∧ (σ892 33 k).toInt ≤ 350) ∧ (∀ k : Nat, k < 3159 → (-1) ≤ (σ892 35 k).toInt ∧ (σ892 35 k).toInt ≤ 3) ∧ (∀ k : Nat, k < 1024 → 0 ≤ (σ892 36 k).toInt ∧ (σ892 36 k).toInt ≤ 349) := id p901
                      have z910 : (σ892 31 10).toInt = A2 := ((congrArg Int32.toInt (show σ892 31 10 = a2 from ((f898 10 (of_decide_eq_true rfl)).trans ((f868 10 (of_decide_eq_true rfl)).trans ((jkp 10 eσ855 (of_decide_eq_true rfl)).trans ((jkp 10 eσ854 (of_decide_eq_true rfl)).trans ((jkp 10 eσ853 (of_decide_eq_true rfl)).trans (jsp eσ852)))))))).trans t2)
                      have z911 : (σ892 31 11).toInt = x16.toInt := (congrArg Int32.toInt (show σ892 31 11 = x16 from ((f898 11 (of_decide_eq_true rfl)).trans ((f868 11 (of_decide_eq_true rfl)).trans ((jkp 11 eσ855 (of_decide_eq_true rfl)).trans ((jkp 11 eσ854 (of_decide_eq_true rfl)).trans (jsp eσ853)))))))
                      refine lv_iload hx hb dX1_grow_99 (lv_at hl 0 rfl) ?_
                      refine lv_aload_n hx hb dX1_grow_101 rfl (lv_at hl 3 rfl) ?_
                      refine va_get (D := D) hx hb hts inlX1 hown hK hP 31 (jc_31 cI cL ad σ892 τ) rfl 8 (of_decide_eq_true rfl) (hts _ kw_27_22) (fun _ h9 => h9) rfl dX1_grow_102 ?_
                      refine lv_icmp_ge (tgt := 202) hx hb dX1_grow_105 (of_decide_eq_true rfl) (fun c912 => ?_) (fun c912 => ?_)
                      · have kc912 := jle c912 rfl rfl
                        have p913 : jKg σ892 := (show jFm (σ892 31 9) → _ from by rw [show σ892 31 9 = a1 from ((f898 9 (of_decide_eq_true rfl)).trans ((f868 9 (of_decide_eq_true rfl)).trans ((jkp 9 eσ855 (of_decide_eq_true rfl)).trans ((jkp 9 eσ854 (of_decide_eq_true rfl)).trans ((jkp 9 eσ853 (of_decide_eq_true rfl)).trans ((jkp 9 eσ852 (of_decide_eq_true rfl)).trans (jsp eσ851)))))))]; exact fun hm => (q902 hm).fin (by omega))
                        exact by
                         have z914 : (σ892 31 9).toInt = A1 := ((congrArg Int32.toInt (show σ892 31 9 = a1 from ((f898 9 (of_decide_eq_true rfl)).trans ((f868 9 (of_decide_eq_true rfl)).trans ((jkp 9 eσ855 (of_decide_eq_true rfl)).trans ((jkp 9 eσ854 (of_decide_eq_true rfl)).trans ((jkp 9 eσ853 (of_decide_eq_true rfl)).trans ((jkp 9 eσ852 (of_decide_eq_true rfl)).trans (jsp eσ851))))))))).trans t1)
                         have z915 : (σ892 31 12).toInt = 0 := ((congrArg Int32.toInt (show σ892 31 12 = 0 from ((f898 12 (of_decide_eq_true rfl)).trans ((f868 12 (of_decide_eq_true rfl)).trans ((jkp 12 eσ855 (of_decide_eq_true rfl)).trans (jsp eσ854)))))).trans jz_0)
                         exact by exact hret σ892 τ _ _ _ _ ⟨rfl, (fun i hi => ((f897 i hi).trans ((f867 i (imp_86 i hi)).trans ((jnp i eσ855 (imp_87 i hi)).trans ((jnp i eσ854 (imp_87 i hi)).trans ((jnp i eσ853 (imp_87 i hi)).trans ((jnp i eσ852 (imp_87 i hi)).trans (jnp i eσ851 (imp_87 i hi))))))))), (fun i hi => ((f898 i (imp_88 i hi)).trans ((f868 i (imp_88 i hi)).trans ((jkp i eσ855 (imp_89 i hi)).trans ((jkp i eσ854 (imp_90 i hi)).trans ((jkp i eσ853 (imp_91 i hi)).trans ((jkp i eσ852 (imp_92 i hi)).trans (jkp i eσ851 (imp_93 i hi))))))))), p901, p899, p900, p913, (by rw [show σ892 31 12 = 0 from ((f898 12 (of_decide_eq_true rfl)).trans ((f868 12 (of_decide_eq_true rfl)).trans ((jkp 12 eσ855 (of_decide_eq_true rfl)).trans (jsp eσ854))))]; exact w20), (show jqGk σ σ892 a1 (σ892 31 11).toInt from fun _ _ h3 h4 => False.elim (by have z9 : (0 : Int32).toInt = 0 := (of_decide_eq_true rfl); have w9 : (σ 31 12).toInt ≠ 0 ↔ (0 : Int32).toInt ≠ 0 := h3.trans (Iff.symm w20); omega)), (by omega), (by omega), (by omega), (by omega), trivial⟩ hP hS dX1_grow_202
                      · have kc912 := jnle c912 rfl rfl
                        refine lv_iload hx hb dX1_grow_108 (lv_at hl 0 rfl) ?_
                        refine lv_sipush (v := 350) hx hb dX1_grow_110 (of_decide_eq_true rfl) ?_
                        refine lv_icmp_ge (tgt := 202) hx hb dX1_grow_113 (of_decide_eq_true rfl) (fun c => absurd (jle c jz_350 rfl) (by omega)) (fun c916 => ?_)
                        have kc916 := jnle c916 jz_350 rfl
                        refine lv_aload_n hx hb dX1_grow_116 rfl (lv_at hl 3 rfl) ?_
                        exact by
                         refine va_get (D := D) hx hb hts inlX1 hown hK hP 31 (jc_31 cI cL ad σ892 τ) rfl 2 (of_decide_eq_true rfl) (hts _ kw_5_3) (fun _ h9 => h9) rfl dX1_grow_117 ?_
                         refine lv_iload hx hb dX1_grow_120 (lv_at hl 0 rfl) ?_
                         refine jald hx hb hK hP (jc_32 cI cL ad σ892 τ) (jin rfl (by omega) (by omega)) dX1_grow_122 ?_
                         refine jtopr (y := (σ892 32 x888.toNatClampNeg)) rfl ?_
                         refine lv_ldc (v := 134217727) hx hb hown (hts _ kw_28_10) dX1_grow_123 ?_
                         refine lv_iand hx hb dX1_grow_125 ?_
                         refine lv_topi (fun x917 ex917 => ?_)
                         have gx917 := jrg (rfl : x917.toInt = x917.toInt)
                         have g918 : 0 ≤ x917.toInt ∧ x917.toInt ≤ 134217727 := jmask ex917 27 (of_decide_eq_true rfl) (of_decide_eq_true rfl)
                         exact by
                          refine lv_istore (lv' := [(6, .int x917), (5, .int x888), (4, .int 0), (3, .int x16), (0, .ref (ad 31)), (1, .int a1), (2, .int a2)]) hx hb dX1_grow_126 hl (of_decide_eq_true rfl) rfl (fun ls hl => ?_)
                          refine lv_aload_n hx hb dX1_grow_128 rfl (lv_at hl 4 rfl) ?_
                          refine va_get (D := D) hx hb hts inlX1 hown hK hP 31 (jc_31 cI cL ad σ892 τ) rfl 2 (of_decide_eq_true rfl) (hts _ kw_5_3) (fun _ h9 => h9) rfl dX1_grow_129 ?_
                          refine lv_iload hx hb dX1_grow_132 (lv_at hl 1 rfl) ?_
                          refine jald hx hb hK hP (jc_32 cI cL ad σ892 τ) (jin rfl (by omega) (by omega)) dX1_grow_134 ?_
                          refine jtopr (y := (σ892 32 x888.toNatClampNeg)) rfl ?_
                          refine lv_bipush (v := 27) hx hb dX1_grow_135 (of_decide_eq_true rfl) ?_
                          refine lv_ishr hx hb dX1_grow_137 ?_
                          refine lv_topi (fun x919 ex919 => ?_)
                          exact by
                           have gx919 := jrg (rfl : x919.toInt = x919.toInt)
                           have k920 := jshr27 (x := x919) (k := (σ892 32 x888.toNatClampNeg)) (by rw [ex919])
                           have k921 := p899 x888.toNatClampNeg (by rw [jnc (rfl : x888.toInt = x888.toInt)]; omega)
                           refine lv_istore (lv' := [(7, .int x919), (6, .int x917), (5, .int x888), (4, .int 0), (3, .int x16), (0, .ref (ad 31)), (1, .int a1), (2, .int a2)]) hx hb dX1_grow_138 hl (of_decide_eq_true rfl) rfl (fun ls hl => ?_)
                           refine lv_iconst (v := 0) hx hb dX1_grow_140 (of_decide_eq_true rfl) ?_
                           refine lv_istore (lv' := [(8, .int 0), (7, .int x919), (6, .int x917), (5, .int x888), (4, .int 0), (3, .int x16), (0, .ref (ad 31)), (1, .int a1), (2, .int a2)]) hx hb dX1_grow_141 hl (of_decide_eq_true rfl) rfl (fun ls hl => ?_)
                           have lp922 : ∀ (n923 : Nat) (x924 : Int32) (σ925 : Nat → Nat → Int32) (H : Heap) (locs : List Loc) (ls : Array Slot), (-x924.toInt + 4 : Int) < n923 → 0 ≤ x924.toInt → x924.toInt ≤ 4 → (∀ i : Nat, (i < 31 ∨ 33 < i) ∧ (i < 36 ∨ 37 < i) → σ925 i = σ892 i) → (∀ k : Nat, (k < 8 ∨ 8 < k) → σ925 31 k = σ892 31 k) → jKb σ925 → jKh σ925 → jI31 σ925 → ((jFm a1 → jqGo a1 (decide ((σ925 31 12).toInt ≠ 0)) (σ925 31 11).toInt (σ925 31 8).toInt (σ925 32) (σ925 33) x888.toInt x924.toInt) ∧ jqNo (σ925 32 x888.toInt.toNat) x917 x919.toInt ∧ x888.toInt < (σ925 31 8).toInt) → jH D cI cL ad σ925 τ H → va_S (jA ad) s.heap H locs → lv_has ls 9 [(8, .int x924), (7, .int x919), (6, .int x917), (5, .int x888), (4, .int 0), (3, .int x16), (0, .ref (ad 31)), (1, .int a1), (2, .int a2)] → W p l e ({ frames := 3, cells := 0, slots := 0, locals := 73 }) s m args below meth c H locs 0 0 Q (F0 m 143 ls []) := by
                             intro n923
                             induction n923 with
                             | zero => intro x924 σ925 H locs ls h927 h928 h929; exact absurd h927 (by omega)
                             | succ n923 ihlp922 =>
                               intro x924 σ925 H locs ls h927 h928 h929 f930 f931 p932 p933 p934 q935 hP hS hl
                               exact by
                                obtain ⟨i936, i937, i938, i939, w940, w941, w942⟩ : (0 ≤ (σ925 31 8).toInt ∧ (σ925 31 8).toInt ≤ 350) ∧ (0 ≤ (σ925 31 10).toInt ∧ (σ925 31 10).toInt ≤ 12) ∧ (0 ≤ (σ925 31 11).toInt ∧ (σ925 31 11).toInt ≤ 8) ∧ ((σ925 31 10).toInt + (σ925 31 11).toInt ≤ 12) ∧ (∀ k : Nat, k < 1400 → (-1) ≤ (σ925 33 k).toInt ∧ (σ925 33 k).toInt ≤ 350) ∧ (∀ k : Nat, k < 3159 → (-1) ≤ (σ925 35 k).toInt ∧ (σ925 35 k).toInt ≤ 3) ∧ (∀ k : Nat, k < 1024 → 0 ≤ (σ925 36 k).toInt ∧ (σ925 36 k).toInt ≤ 349) := id p934
                                have z943 : (σ925 31 10).toInt = A2 := ((congrArg Int32.toInt (show σ925 31 10 = a2 from ((f931 10 (of_decide_eq_true rfl)).trans ((f898 10 (of_decide_eq_true rfl)).trans ((f868 10 (of_decide_eq_true rfl)).trans ((jkp 10 eσ855 (of_decide_eq_true rfl)).trans ((jkp 10 eσ854 (of_decide_eq_true rfl)).trans ((jkp 10 eσ853 (of_decide_eq_true rfl)).trans (jsp eσ852))))))))).trans t2)
                                have z944 : (σ925 31 11).toInt = x16.toInt := (congrArg Int32.toInt (show σ925 31 11 = x16 from ((f931 11 (of_decide_eq_true rfl)).trans ((f898 11 (of_decide_eq_true rfl)).trans ((f868 11 (of_decide_eq_true rfl)).trans ((jkp 11 eσ855 (of_decide_eq_true rfl)).trans ((jkp 11 eσ854 (of_decide_eq_true rfl)).trans (jsp eσ853))))))))
                                refine lv_iload hx hb dX1_grow_143 (lv_at hl 0 rfl) ?_
                                refine lv_iconst (v := 4) hx hb dX1_grow_145 (of_decide_eq_true rfl) ?_
                                refine lv_icmp_ge (tgt := 196) hx hb dX1_grow_146 (of_decide_eq_true rfl) (fun c945 => ?_) (fun c945 => ?_)
                                · have kc945 := jle c945 jz_4 rfl
                                  obtain ⟨x946, ex946⟩ : ∃ y : Int32, y = x888 + 1 := ⟨_, rfl⟩
                                  have tx946 : x946.toInt = x888.toInt + 1 := (jadd ex946 rfl jz_1 (by omega) (by omega)).trans (by omega)
                                  exact by
                                   refine lv_iinc (v := x946) (lv' := [(5, .int x946), (8, .int x924), (7, .int x919), (6, .int x917), (4, .int 0), (3, .int x16), (0, .ref (ad 31)), (1, .int a1), (2, .int a2)]) hx hb dX1_grow_196 hl (k := 3) rfl (by rw [ex946]; rfl) (of_decide_eq_true rfl) rfl (fun ls hl => ?_)
                                   refine lv_goto (tgt := 99) hx hb dX1_grow_199 (of_decide_eq_true rfl) ?_
                                   exact by exact ihlp886 x946 σ925 _ _ ls (by have h90 := tx946; omega) (by have h90 := tx946; omega) (by have h90 := tx946; omega) (fun i hi => ((f930 i hi).trans (f897 i hi))) (fun i hi => ((f931 i hi).trans (f898 i hi)))  p932 p933 p934 (fun hm => jqGo.row (q935.1 hm) (by omega) (by have h9 := tx946; omega) (by omega) q935.2.2) hP hS (lv_sub hl [0, 4, 5, 6, 7, 8] rfl)
                                · have kc945 := jnle c945 jz_4 rfl
                                  refine lv_aload_n hx hb dX1_grow_149 rfl (lv_at hl 6 rfl) ?_
                                  refine va_get (D := D) hx hb hts inlX1 hown hK hP 31 (jc_31 cI cL ad σ925 τ) rfl 3 (of_decide_eq_true rfl) (hts _ kw_5_4) (fun _ h9 => h9) rfl dX1_grow_150 ?_
                                  refine lv_iload hx hb dX1_grow_153 (lv_at hl 3 rfl) ?_
                                  refine lv_iconst (v := 4) hx hb dX1_grow_155 (of_decide_eq_true rfl) ?_
                                  have g947 := jrg (rfl : x888.toInt = x888.toInt)
                                  refine lv_imul hx hb dX1_grow_156 ?_
                                  refine lv_topi (fun x948 ex948 => ?_)
                                  exact by
                                   have tx948 : x948.toInt = 4 * x888.toInt := (jmul ex948 rfl jz_4 (by omega) (by omega)).trans (by omega)
                                   refine lv_iload hx hb dX1_grow_157 (lv_at hl 0 rfl) ?_
                                   have g949 := jrg (rfl : x924.toInt = x924.toInt)
                                   refine lv_iadd hx hb dX1_grow_159 ?_
                                   refine lv_topi (fun x950 ex950 => ?_)
                                   have tx950 : x950.toInt = 4 * x888.toInt + x924.toInt := (jadd ex950 tx948 rfl (by omega) (by omega)).trans (by omega)
                                   refine lv_iload hx hb dX1_grow_160 (lv_at hl 2 rfl) ?_
                                   refine lv_iload hx hb dX1_grow_162 (lv_at hl 0 rfl) ?_
                                   refine jcallS (As := [.int x917, .int x924]) (rest := [.int x950, .ref (ad 33)]) ⟨hx, hb, hml, hown, hts⟩ hK hP hA hS hZ (c_X0_mayBowl l D cI cL ad zz hJ σ925 τ x917 (x917.toInt) rfl x924 (x924.toInt) rfl) cw_RX1_115 ⟨Nat.le_of_ble_eq_true rfl, Nat.le_of_ble_eq_true rfl⟩ rfl rfl rfl hl.1 rfl (Nat.le_of_ble_eq_true rfl) dX1_grow_164 ⟨Nat.zero_le _, Nat.zero_le _⟩ (fun r952 σ951 τ951 H locs h951 hP hS => ?_)
                                   exact by
                                    obtain ⟨⟨rfl, rfl⟩, w953, h951⟩ := h951
                                    rcases h951 with h954 | h955
                                    · obtain ⟨q957, k956⟩ := h954
                                      have q957 := q957.symm
                                      subst q957
                                      refine lv_if_eq (tgt := 188) hx hb dX1_grow_167 (of_decide_eq_true rfl) (fun c => absurd c (of_decide_eq_true rfl)) (fun _ => ?_)
                                      refine lv_aload_n hx hb dX1_grow_170 rfl (lv_at hl 6 rfl) ?_
                                      refine lv_iload hx hb dX1_grow_171 (lv_at hl 2 rfl) ?_
                                      refine lv_iload hx hb dX1_grow_173 (lv_at hl 0 rfl) ?_
                                      exact by
                                       refine jcallS (As := [.int x917, .int x924]) (rest := [.ref (ad 31), .int x950, .ref (ad 33)]) ⟨hx, hb, hml, hown, hts⟩ hK hP hA hS hZ (c_X0_after_r l D cI cL ad zz hJ σ925 τ x917 (x917.toInt) rfl x924 (x924.toInt) rfl (by omega)) cw_RX1_119 ⟨Nat.le_of_ble_eq_true rfl, Nat.le_of_ble_eq_true rfl⟩ rfl rfl rfl hl.1 rfl (Nat.le_of_ble_eq_true rfl) dX1_grow_175 ⟨Nat.zero_le _, Nat.zero_le _⟩ (fun r959 σ958 τ958 H locs h958 hP hS => ?_)
                                       obtain ⟨⟨rfl, rfl⟩, w960, w961, h958⟩ := h958
                                       have h962 := h958
                                       obtain ⟨q964, k963⟩ := h962
                                       refine lv_iload hx hb dX1_grow_178 (lv_at hl 1 rfl) ?_
                                       refine lv_iconst (v := 1) hx hb dX1_grow_180 (of_decide_eq_true rfl) ?_
                                       have g965 := jrg (rfl : x919.toInt = x919.toInt)
                                       refine lv_iadd hx hb dX1_grow_181 ?_
                                       refine lv_topi (fun x966 ex966 => ?_)
                                       exact by
                                        have tx966 : x966.toInt = x919.toInt + 1 := (jadd ex966 rfl jz_1 (by omega) (by omega)).trans (by omega)
                                        refine jcallV (As := [.int r959, .int x966]) (rest := [.int x950, .ref (ad 33)]) ⟨hx, hb, hml, hown, hts⟩ hK hP hA hS hZ (c_X1_add_31 l D cI cL ad zz hJ σ925 τ r959 (r959.toInt) rfl x966 (x919.toInt + 1) tx966 p934 p932 p933 (by omega) (by omega)) cw_RX1_111 (jc_31 cI cL ad σ925 τ) rfl ⟨Nat.le_of_ble_eq_true rfl, Nat.le_of_ble_eq_true rfl⟩ rfl rfl rfl hl.1 rfl (Nat.le_of_ble_eq_true rfl) dX1_grow_182 ⟨Nat.zero_le _, Nat.zero_le _⟩ (fun r968 σ967 τ967 H locs h967 hP hS => ?_)
                                        obtain ⟨rfl, f969, f970, I971, p972, p973, w974, h967⟩ := h967
                                        obtain ⟨i976, i977, i978, i979, w980, w981, w982⟩ : (0 ≤ (σ967 31 8).toInt ∧ (σ967 31 8).toInt ≤ 350) ∧ (0 ≤ (σ967 31 10).toInt ∧ (σ967 31 10).toInt ≤ 12) ∧ (0 ≤ (σ967 31 11).toInt ∧ (σ967 31 11).toInt ≤ 8) ∧ ((σ967 31 10).toInt + (σ967 31 11).toInt ≤ 12) ∧ (∀ k : Nat, k < 1400 → (-1) ≤ (σ967 33 k).toInt ∧ (σ967 33 k).toInt ≤ 350) ∧ (∀ k : Nat, k < 3159 → (-1) ≤ (σ967 35 k).toInt ∧ (σ967 35 k).toInt ≤ 3) ∧ (∀ k : Nat, k < 1024 → 0 ≤ (σ967 36 k).toInt ∧ (σ967 36 k).toInt ≤ 349) := id I971
                                        have z983 : (σ967 31 10).toInt = A2 := ((congrArg Int32.toInt (show σ967 31 10 = a2 from ((f970 10 (of_decide_eq_true rfl)).trans ((f931 10 (of_decide_eq_true rfl)).trans ((f898 10 (of_decide_eq_true rfl)).trans ((f868 10 (of_decide_eq_true rfl)).trans ((jkp 10 eσ855 (of_decide_eq_true rfl)).trans ((jkp 10 eσ854 (of_decide_eq_true rfl)).trans ((jkp 10 eσ853 (of_decide_eq_true rfl)).trans (jsp eσ852)))))))))).trans t2)
                                        have z984 : (σ967 31 11).toInt = x16.toInt := (congrArg Int32.toInt (show σ967 31 11 = x16 from ((f970 11 (of_decide_eq_true rfl)).trans ((f931 11 (of_decide_eq_true rfl)).trans ((f898 11 (of_decide_eq_true rfl)).trans ((f868 11 (of_decide_eq_true rfl)).trans ((jkp 11 eσ855 (of_decide_eq_true rfl)).trans ((jkp 11 eσ854 (of_decide_eq_true rfl)).trans (jsp eσ853)))))))))
                                        have h985 := h967
                                        obtain ⟨q987, k986⟩ := h985
                                        refine lv_goto (tgt := 189) hx hb dX1_grow_185 (of_decide_eq_true rfl) ?_
                                        exact by
                                         refine jast hx hb hK hP hJ hA hS (jc_33 cI cL ad σ967 τ) (ja_33 cI cL ad σ967 τ _ _) (jin tx950 (by omega) (by omega)) dX1_grow_189 (fun σ988 H locs eσ988 hP hS => ?_)
                                         obtain ⟨x989, ex989⟩ : ∃ y : Int32, y = x924 + 1 := ⟨_, rfl⟩
                                         have tx989 : x989.toInt = x924.toInt + 1 := (jadd ex989 rfl jz_1 (by omega) (by omega)).trans (by omega)
                                         refine lv_iinc (v := x989) (lv' := [(8, .int x989), (7, .int x919), (6, .int x917), (5, .int x888), (4, .int 0), (3, .int x16), (0, .ref (ad 31)), (1, .int a1), (2, .int a2)]) hx hb dX1_grow_190 hl (k := 0) rfl (by rw [ex989]; rfl) (of_decide_eq_true rfl) rfl (fun ls hl => ?_)
                                         refine lv_goto (tgt := 143) hx hb dX1_grow_193 (of_decide_eq_true rfl) ?_
                                         have p990 : jKb σ988 := jKb.fr (congrFun (jnp 31 eσ988 (of_decide_eq_true rfl)) 8) (congrFun (jnp 31 eσ988 (of_decide_eq_true rfl)) 11) (jnp 32 eσ988 (of_decide_eq_true rfl)) p972
                                         have p991 : jKh σ988 := jKh.fr (congrFun (jnp 31 eσ988 (of_decide_eq_true rfl)) 8) (jnp 32 eσ988 (of_decide_eq_true rfl)) (jnp 36 eσ988 (of_decide_eq_true rfl)) (jnp 37 eσ988 (of_decide_eq_true rfl)) p973
                                         have z992 : (σ988 31 8).toInt = (σ967 31 8).toInt := (congrArg Int32.toInt (show σ988 31 8 = (σ967 31 8) from (congrFun (jnp 31 eσ988 (of_decide_eq_true rfl)) 8)))
                                         have z993 : (σ988 31 10).toInt = A2 := ((congrArg Int32.toInt (show σ988 31 10 = a2 from ((congrFun (jnp 31 eσ988 (of_decide_eq_true rfl)) 10).trans ((f970 10 (of_decide_eq_true rfl)).trans ((f931 10 (of_decide_eq_true rfl)).trans ((f898 10 (of_decide_eq_true rfl)).trans ((f868 10 (of_decide_eq_true rfl)).trans ((jkp 10 eσ855 (of_decide_eq_true rfl)).trans ((jkp 10 eσ854 (of_decide_eq_true rfl)).trans ((jkp 10 eσ853 (of_decide_eq_true rfl)).trans (jsp eσ852))))))))))).trans t2)
                                         exact by
                                          have z994 : (σ988 31 11).toInt = x16.toInt := (congrArg Int32.toInt (show σ988 31 11 = x16 from ((congrFun (jnp 31 eσ988 (of_decide_eq_true rfl)) 11).trans ((f970 11 (of_decide_eq_true rfl)).trans ((f931 11 (of_decide_eq_true rfl)).trans ((f898 11 (of_decide_eq_true rfl)).trans ((f868 11 (of_decide_eq_true rfl)).trans ((jkp 11 eσ855 (of_decide_eq_true rfl)).trans ((jkp 11 eσ854 (of_decide_eq_true rfl)).trans (jsp eσ853))))))))))
                                          have w995 : ∀ k : Nat, k < 1400 → (-1) ≤ (σ988 33 k).toInt ∧ (σ988 33 k).toInt ≤ 350 := (by rw [eσ988]; exact jrr_up w980 (by omega) (by omega))
                                          have w996 : ∀ k : Nat, k < 3159 → (-1) ≤ (σ988 35 k).toInt ∧ (σ988 35 k).toInt ≤ 3 := (jrr_fr (jnp 35 eσ988 (of_decide_eq_true rfl)) w981)
                                          have w997 : ∀ k : Nat, k < 1024 → 0 ≤ (σ988 36 k).toInt ∧ (σ988 36 k).toInt ≤ 349 := (jrr_fr (jnp 36 eσ988 (of_decide_eq_true rfl)) w982)
                                          have I998 : jI31 σ988 := ⟨(by omega), (by omega), (by omega), (by omega), w995, w996, w997⟩
                                          exact by exact ihlp922 x989 σ988 _ _ ls (by have h90 := tx989; omega) (by have h90 := tx989; omega) (by have h90 := tx989; omega) (fun i hi => ((jnp i eσ988 (imp_94 i hi)).trans ((f969 i (imp_86 i hi)).trans (f930 i hi)))) (fun i hi => ((congrFun (jnp 31 eσ988 (of_decide_eq_true rfl)) i).trans ((f970 i hi).trans (f931 i hi))))  p990 p991 I998 (by rw [show σ988 31 8 = σ967 31 8 from (congrFun (jnp 31 eσ988 (of_decide_eq_true rfl)) 8), show σ988 32 = σ967 32 from (jnp 32 eσ988 (of_decide_eq_true rfl)), show σ988 31 11 = σ925 31 11 from ((congrFun (jnp 31 eσ988 (of_decide_eq_true rfl)) 11).trans (f970 11 (of_decide_eq_true rfl))), show σ988 31 12 = σ925 31 12 from ((congrFun (jnp 31 eσ988 (of_decide_eq_true rfl)) 12).trans (f970 12 (of_decide_eq_true rfl)))]; exact ⟨(fun hm => jqGo.put (q935.1 hm) (by omega) (by omega) (by omega) (by omega) q935.2.1 ((jqMy_iff (by omega) (by omega)).mpr ((w953).elim (fun w => w.2) (fun w => absurd w.1 (of_decide_eq_true rfl)))) (w961 (by omega) (by omega)) w974 (by omega) p933 (by omega) (by rw [eσ988, jup_row, f969 33 (of_decide_eq_true rfl), jnc (show x950.toInt = 4 * x888.toInt + x924.toInt by have h9 := tx950; omega)]) rfl (by have h9 := tx989; omega)), (by rw [(w974).1 x888.toInt.toNat (by omega)]; exact q935.2.1), (by have w8 := jqAd.le w974; have w9 := q935.2.2; omega)⟩) hP hS (lv_sub hl [0, 1, 2, 3, 4, 5, 6, 7, 8] rfl)
                                    · obtain ⟨q1000, k999⟩ := h955
                                      have q1000 := q1000.symm
                                      subst q1000
                                      exact by
                                       refine lv_if_eq (tgt := 188) hx hb dX1_grow_167 (of_decide_eq_true rfl) (fun _ => ?_) (fun c => absurd (of_decide_eq_true rfl) c)
                                       refine lv_iconst (v := (-1)) hx hb dX1_grow_188 (of_decide_eq_true rfl) ?_
                                       refine jast hx hb hK hP hJ hA hS (jc_33 cI cL ad σ925 τ) (ja_33 cI cL ad σ925 τ _ _) (jin tx950 (by omega) (by omega)) dX1_grow_189 (fun σ1001 H locs eσ1001 hP hS => ?_)
                                       obtain ⟨x1002, ex1002⟩ : ∃ y : Int32, y = x924 + 1 := ⟨_, rfl⟩
                                       have tx1002 : x1002.toInt = x924.toInt + 1 := (jadd ex1002 rfl jz_1 (by omega) (by omega)).trans (by omega)
                                       refine lv_iinc (v := x1002) (lv' := [(8, .int x1002), (7, .int x919), (6, .int x917), (5, .int x888), (4, .int 0), (3, .int x16), (0, .ref (ad 31)), (1, .int a1), (2, .int a2)]) hx hb dX1_grow_190 hl (k := 0) rfl (by rw [ex1002]; rfl) (of_decide_eq_true rfl) rfl (fun ls hl => ?_)
                                       refine lv_goto (tgt := 143) hx hb dX1_grow_193 (of_decide_eq_true rfl) ?_
                                       have p1003 : jKb σ1001 := jKb.fr (congrFun (jnp 31 eσ1001 (of_decide_eq_true rfl)) 8) (congrFun (jnp 31 eσ1001 (of_decide_eq_true rfl)) 11) (jnp 32 eσ1001 (of_decide_eq_true rfl)) p932
                                       have p1004 : jKh σ1001 := jKh.fr (congrFun (jnp 31 eσ1001 (of_decide_eq_true rfl)) 8) (jnp 32 eσ1001 (of_decide_eq_true rfl)) (jnp 36 eσ1001 (of_decide_eq_true rfl)) (jnp 37 eσ1001 (of_decide_eq_true rfl)) p933
                                       exact by
                                        have z1005 : (σ1001 31 8).toInt = (σ925 31 8).toInt := (congrArg Int32.toInt (show σ1001 31 8 = (σ925 31 8) from (congrFun (jnp 31 eσ1001 (of_decide_eq_true rfl)) 8)))
                                        have z1006 : (σ1001 31 10).toInt = A2 := ((congrArg Int32.toInt (show σ1001 31 10 = a2 from ((congrFun (jnp 31 eσ1001 (of_decide_eq_true rfl)) 10).trans ((f931 10 (of_decide_eq_true rfl)).trans ((f898 10 (of_decide_eq_true rfl)).trans ((f868 10 (of_decide_eq_true rfl)).trans ((jkp 10 eσ855 (of_decide_eq_true rfl)).trans ((jkp 10 eσ854 (of_decide_eq_true rfl)).trans ((jkp 10 eσ853 (of_decide_eq_true rfl)).trans (jsp eσ852)))))))))).trans t2)
                                        have z1007 : (σ1001 31 11).toInt = x16.toInt := (congrArg Int32.toInt (show σ1001 31 11 = x16 from ((congrFun (jnp 31 eσ1001 (of_decide_eq_true rfl)) 11).trans ((f931 11 (of_decide_eq_true rfl)).trans ((f898 11 (of_decide_eq_true rfl)).trans ((f868 11 (of_decide_eq_true rfl)).trans ((jkp 11 eσ855 (of_decide_eq_true rfl)).trans ((jkp 11 eσ854 (of_decide_eq_true rfl)).trans (jsp eσ853)))))))))
                                        have w1008 : ∀ k : Nat, k < 1400 → (-1) ≤ (σ1001 33 k).toInt ∧ (σ1001 33 k).toInt ≤ 350 := (by rw [eσ1001]; exact jrr_up w940 (by have h9 := jz_m1; omega) (by have h9 := jz_m1; omega))
                                        have w1009 : ∀ k : Nat, k < 3159 → (-1) ≤ (σ1001 35 k).toInt ∧ (σ1001 35 k).toInt ≤ 3 := (jrr_fr (jnp 35 eσ1001 (of_decide_eq_true rfl)) w941)
                                        have w1010 : ∀ k : Nat, k < 1024 → 0 ≤ (σ1001 36 k).toInt ∧ (σ1001 36 k).toInt ≤ 349 := (jrr_fr (jnp 36 eσ1001 (of_decide_eq_true rfl)) w942)
                                        have I1011 : jI31 σ1001 := ⟨(by omega), (by omega), (by omega), (by omega), w1008, w1009, w1010⟩
                                        exact by exact ihlp922 x1002 σ1001 _ _ ls (by have h90 := tx1002; omega) (by have h90 := tx1002; omega) (by have h90 := tx1002; omega) (fun i hi => ((jnp i eσ1001 (imp_94 i hi)).trans (f930 i hi))) (fun i hi => ((congrFun (jnp 31 eσ1001 (of_decide_eq_true rfl)) i).trans (f931 i hi)))  p1003 p1004 I1011 (by rw [show σ1001 31 8 = σ925 31 8 from (congrFun (jnp 31 eσ1001 (of_decide_eq_true rfl)) 8), show σ1001 31 11 = σ925 31 11 from (congrFun (jnp 31 eσ1001 (of_decide_eq_true rfl)) 11), show σ1001 31 12 = σ925 31 12 from (congrFun (jnp 31 eσ1001 (of_decide_eq_true rfl)) 12), show σ1001 32 = σ925 32 from (jnp 32 eσ1001 (of_decide_eq_true rfl))]; exact ⟨(fun hm => jqGo.none (q935.1 hm) (by omega) (by omega) (by omega) (by omega) q935.2.1 (fun w => ((w953).elim (fun w => absurd w.1 (of_decide_eq_true rfl)) (fun w => w.2)) ((jqMy_iff (by omega) (by omega)).mp w)) (by rw [eσ1001, jup_row, jnc (show x950.toInt = 4 * x888.toInt + x924.toInt by have h9 := tx950; omega)]) (of_decide_eq_true rfl) (by have h9 := tx1002; omega)), q935.2.1, q935.2.2⟩) hP hS (lv_sub hl [0, 1, 2, 3, 4, 5, 6, 7, 8] rfl)
                           exact by exact lp922 1000000 0 σ892 _ _ ls (by have h90 := jz_0; omega) (by have h90 := jz_0; omega) (by have h90 := jz_0; omega) (fun _ _ => rfl) (fun _ _ => rfl)  p899 p900 p901 ⟨(by rw [show (0 : Int32).toInt = 0 from by decide]; exact q902), ⟨(by have w := jandm (x := (σ892 32 x888.toNatClampNeg)) (y := x917) (m := 134217727) (k := 27) (M := 134217728) (by rw [ex917]) rfl rfl (of_decide_eq_true rfl); show (σ892 32 x888.toNatClampNeg).toInt = _; omega), ⟨by omega, by omega⟩, (by omega)⟩, by omega⟩ hP hS hl
                 exact by exact lp886 1000000 0 σ865 _ _ ls (by have h90 := jz_0; omega) (by have h90 := jz_0; omega) (by have h90 := jz_0; omega) (fun _ _ => rfl) (fun _ _ => rfl)  p870 p871 I869 (by rw [show σ865 31 11 = σ855 31 11 from (f868 11 (of_decide_eq_true rfl)), show σ865 31 12 = σ855 31 12 from (f868 12 (of_decide_eq_true rfl))]; exact (fun hm => jqGo.first hm (by have w := w872; rw [show (σ855 31 8).toInt = 0 from by omega] at w; exact w) rfl (by have h9 := jz_0; omega))) hP hS hl
            · exact by
               have kc850 := jeq c850 rfl jz_0
               refine lv_aload_n hx hb dX1_grow_57 rfl (lv_at hl 2 rfl) ?_
               refine lv_iload_n hx hb dX1_grow_58 rfl (lv_at hl 4 rfl) ?_
               refine jput (ty := .int) hx hb hts inlX1 tyX1 tyX1_ok nmX1 hown hK hP hJ hA hS (jc_31 cI cL ad σ τ) rfl (k := 10) (of_decide_eq_true rfl) (Nat.le_of_ble_eq_true rfl) (jp_31_10 cI cL ad σ τ a2) (hts _ kw_28_9) (fun _ h9 => h9) rfl (by decide +kernel) rfl rfl dX1_grow_59 (fun σ1012 H locs eσ1012 hP hS => ?_)
               have z1013 : (σ1012 31 8).toInt = (σ 31 8).toInt := (congrArg Int32.toInt (show σ1012 31 8 = (σ 31 8) from (jkp 8 eσ1012 (of_decide_eq_true rfl))))
               have z1014 : (σ1012 31 10).toInt = A2 := ((congrArg Int32.toInt (show σ1012 31 10 = a2 from (jsp eσ1012))).trans t2)
               have z1015 : (σ1012 31 11).toInt = (σ 31 11).toInt := (congrArg Int32.toInt (show σ1012 31 11 = (σ 31 11) from (jkp 11 eσ1012 (of_decide_eq_true rfl))))
               have w1016 : ∀ k : Nat, k < 1400 → (-1) ≤ (σ1012 33 k).toInt ∧ (σ1012 33 k).toInt ≤ 350 := (jrr_fr (jnp 33 eσ1012 (of_decide_eq_true rfl)) w9)
               have w1017 : ∀ k : Nat, k < 3159 → (-1) ≤ (σ1012 35 k).toInt ∧ (σ1012 35 k).toInt ≤ 3 := (jrr_fr (jnp 35 eσ1012 (of_decide_eq_true rfl)) w10)
               have w1018 : ∀ k : Nat, k < 1024 → 0 ≤ (σ1012 36 k).toInt ∧ (σ1012 36 k).toInt ≤ 349 := (jrr_fr (jnp 36 eσ1012 (of_decide_eq_true rfl)) w11)
               exact by
                have I1019 : jI31 σ1012 := ⟨(by omega), (by omega), (by omega), (by omega), w1016, w1017, w1018⟩
                have p1020 : jKb σ1012 := jKb.fr (jkp 8 eσ1012 (of_decide_eq_true rfl)) (jkp 11 eσ1012 (of_decide_eq_true rfl)) (jnp 32 eσ1012 (of_decide_eq_true rfl)) hs_jKb
                have p1021 : jKh σ1012 := jKh.fr (jkp 8 eσ1012 (of_decide_eq_true rfl)) (jnp 32 eσ1012 (of_decide_eq_true rfl)) (jnp 36 eσ1012 (of_decide_eq_true rfl)) (jnp 37 eσ1012 (of_decide_eq_true rfl)) hs_jKh
                have p1022 : jKg σ1012 := jKg.fr (jkp 8 eσ1012 (of_decide_eq_true rfl)) (jkp 9 eσ1012 (of_decide_eq_true rfl)) (jkp 11 eσ1012 (of_decide_eq_true rfl)) (jkp 12 eσ1012 (of_decide_eq_true rfl)) (jnp 32 eσ1012 (of_decide_eq_true rfl)) (jnp 33 eσ1012 (of_decide_eq_true rfl)) hs_jKg
                have z1023 : (σ1012 31 9).toInt = (σ 31 9).toInt := (congrArg Int32.toInt (show σ1012 31 9 = (σ 31 9) from (jkp 9 eσ1012 (of_decide_eq_true rfl))))
                have z1024 : (σ1012 31 12).toInt = (σ 31 12).toInt := (congrArg Int32.toInt (show σ1012 31 12 = (σ 31 12) from (jkp 12 eσ1012 (of_decide_eq_true rfl))))
                exact by exact hret σ1012 τ _ _ _ _ ⟨rfl, (fun i hi => (jnp i eσ1012 (imp_87 i hi))), (fun i hi => (jkp i eσ1012 (imp_92 i hi))), I1019, p1020, p1021, p1022, (by rw [show σ1012 31 12 = (σ 31 12) from (jkp 12 eσ1012 (of_decide_eq_true rfl)), c850]; exact w20), (show jqGk σ σ1012 a1 (σ1012 31 11).toInt from fun _ _ _ _ => ⟨(jkp 8 eσ1012 (of_decide_eq_true rfl)), (jnp 32 eσ1012 (of_decide_eq_true rfl))⟩), (by omega), (by omega), (by omega), (by omega), trivial⟩ hP hS dX1_grow_62
set_option maxHeartbeats 4000000 in
set_option maxRecDepth 100000 in
theorem c_X1_judge_31 (l : Launch) (D : va_G) (cI cL : ClassId) (ad zz : Nat → Nat) (hJ : jD ad) (σ : Nat → Nat → Int32) (τ : Nat → Nat → Int64) (a1 : Int32) (A1 : Int) (t1 : a1.toInt = A1) (a3 : Int32) (A3 : Int) (t3 : a3.toInt = A3) (a4 : Int32) (A4 : Int) (t4 : a4.toInt = A4) (hI16 : jI16 σ) (hI22 : jI22 σ) (hI31 : jI31 σ) (hI26 : jI26 σ) (hs_jN67 : jN67 σ) (hs_jBl : jBl σ) (hs_jKb : jKb σ) (hs_jKg : jKg σ) (hs_jNz : jNz σ) (hp0 : 0 ≤ A1 ∧ A1 ≤ 349) (hp1 : A1 < (σ 31 8).toInt) (hp2 : 0 ≤ A3 ∧ A3 ≤ 12) : jMv l yX1_judge cX1_judge 18 none ({ frames := 3, cells := 0, slots := 0, locals := 76 }) D cI cL ad zz [.ref (ad 31), .int a1, .ref (ad 17), .int a3, .int a4] σ τ (fun σ' τ' => τ = τ' ∧ (∀ i : Nat, (i < 24 ∨ 25 < i) ∧ (i < 29 ∨ 30 < i) ∧ (i < 34 ∨ 35 < i) → σ' i = σ i) ∧ (jI31 σ') ∧ (jN67 σ') ∧ (jBl σ') ∧ (jKb σ') ∧ (jKg σ') ∧ (jNz σ') ∧ (jqJr σ σ' 17 (A1) (A3) (A4)) ∧ True) := by
  refine jMv.of hJ (by decide +kernel) rfl (Nat.le_of_ble_eq_true rfl) ?_
  intro p e s m args below meth c Q ls hC hret hl hP
  obtain ⟨hx, hb, hr, hml, hown, hts, hK, -, hlocks, hZ⟩ := hC
  have hown : s.vm.findClass RX1 = some m.cls := hown
  have hS : va_S (jA ad) s.heap s.heap [] := va_S.rf
  have hA : ∀ q, jA ad q → jA ad q := fun _ h => h
  have hl : lv_has ls 18 [(0, .ref (ad 31)), (1, .int a1), (2, .ref (ad 17)), (3, .int a3), (4, .int a4)] := hl
  have g1 := jrg t1
  have g3 := jrg t3
  have g4 := jrg t4
  obtain ⟨i1, i2, i3, w4⟩ : (1 ≤ (σ 16 0).toInt ∧ (σ 16 0).toInt ≤ 8) ∧ (1 ≤ (σ 16 1).toInt ∧ (σ 16 1).toInt ≤ 12) ∧ (0 ≤ (σ 16 2).toInt ∧ (σ 16 2).toInt ≤ 999) ∧ (∀ k : Nat, k < 8 → 0 ≤ (σ 17 k).toInt ∧ (σ 17 k).toInt ≤ 3) := id hI16
  obtain ⟨i5, i6, i7, i8, w9, w10, w11⟩ : (0 ≤ (σ 31 8).toInt ∧ (σ 31 8).toInt ≤ 350) ∧ (0 ≤ (σ 31 10).toInt ∧ (σ 31 10).toInt ≤ 12) ∧ (0 ≤ (σ 31 11).toInt ∧ (σ 31 11).toInt ≤ 8) ∧ ((σ 31 10).toInt + (σ 31 11).toInt ≤ 12) ∧ (∀ k : Nat, k < 1400 → (-1) ≤ (σ 33 k).toInt ∧ (σ 33 k).toInt ≤ 350) ∧ (∀ k : Nat, k < 3159 → (-1) ≤ (σ 35 k).toInt ∧ (σ 35 k).toInt ≤ 3) ∧ (∀ k : Nat, k < 1024 → 0 ≤ (σ 36 k).toInt ∧ (σ 36 k).toInt ≤ 349) := id hI31
  refine lv_aload_n hx hb dX1_judge_0 rfl (lv_at hl 0 rfl) ?_
  refine va_get (D := D) hx hb hts inlX1 hown hK hP 31 (jc_31 cI cL ad σ τ) rfl 2 (of_decide_eq_true rfl) (hts _ kw_5_3) (fun _ h9 => h9) rfl dX1_judge_1 ?_
  refine lv_iload_n hx hb dX1_judge_4 rfl (lv_at hl 1 rfl) ?_
  exact by
   refine jald hx hb hK hP (jc_32 cI cL ad σ τ) (jin t1 (by omega) (by omega)) dX1_judge_5 ?_
   refine jtopr (y := (σ 32 a1.toNatClampNeg)) rfl ?_
   refine lv_ldc (v := 134217727) hx hb hown (hts _ kw_28_10) dX1_judge_6 ?_
   refine lv_iand hx hb dX1_judge_8 ?_
   refine lv_topi (fun x12 ex12 => ?_)
   have gx12 := jrg (rfl : x12.toInt = x12.toInt)
   have g13 : 0 ≤ x12.toInt ∧ x12.toInt ≤ 134217727 := jmask ex12 27 (of_decide_eq_true rfl) (of_decide_eq_true rfl)
   refine lv_istore (lv' := [(5, .int x12), (0, .ref (ad 31)), (1, .int a1), (2, .ref (ad 17)), (3, .int a3), (4, .int a4)]) hx hb dX1_judge_9 hl (of_decide_eq_true rfl) rfl (fun ls hl => ?_)
   refine lv_aload_n hx hb dX1_judge_11 rfl (lv_at hl 1 rfl) ?_
   refine va_get (D := D) hx hb hts inlX1 hown hK hP 31 (jc_31 cI cL ad σ τ) rfl 2 (of_decide_eq_true rfl) (hts _ kw_5_3) (fun _ h9 => h9) rfl dX1_judge_12 ?_
   refine lv_iload_n hx hb dX1_judge_15 rfl (lv_at hl 2 rfl) ?_
   exact by
    refine jald hx hb hK hP (jc_32 cI cL ad σ τ) (jin t1 (by omega) (by omega)) dX1_judge_16 ?_
    refine jtopr (y := (σ 32 a1.toNatClampNeg)) rfl ?_
    refine lv_bipush (v := 27) hx hb dX1_judge_17 (of_decide_eq_true rfl) ?_
    refine lv_ishr hx hb dX1_judge_19 ?_
    refine lv_topi (fun x14 ex14 => ?_)
    have gx14 := jrg (rfl : x14.toInt = x14.toInt)
    have k15 := jshr27 (x := x14) (k := (σ 32 a1.toNatClampNeg)) (by rw [ex14])
    have k16 := hs_jKb a1.toNatClampNeg (by rw [jnc t1]; omega)
    refine lv_istore (lv' := [(6, .int x14), (5, .int x12), (0, .ref (ad 31)), (1, .int a1), (2, .ref (ad 17)), (3, .int a3), (4, .int a4)]) hx hb dX1_judge_20 hl (of_decide_eq_true rfl) rfl (fun ls hl => ?_)
    exact by
     have k17 : jqNo (σ 32 (A1).toNat) x12 (x14 : Int32).toInt := ⟨(by have w := jandm (x := (σ 32 a1.toNatClampNeg)) (y := x12) (m := 134217727) (k := 27) (M := 134217728) (by rw [ex12]) rfl rfl (of_decide_eq_true rfl); rw [jnc t1] at *; omega), ⟨by omega, by omega⟩, (by omega)⟩
     refine lv_iload_n hx hb dX1_judge_22 rfl (lv_at hl 3 rfl) ?_
     refine lv_bipush (v := 9) hx hb dX1_judge_23 (of_decide_eq_true rfl) ?_
     refine lv_imul hx hb dX1_judge_25 ?_
     refine lv_topi (fun x18 ex18 => ?_)
     have tx18 : x18.toInt = 9 * A1 := (jmul ex18 t1 jz_9 (by omega) (by omega)).trans (by omega)
     refine lv_istore (lv' := [(7, .int x18), (6, .int x14), (5, .int x12), (0, .ref (ad 31)), (1, .int a1), (2, .ref (ad 17)), (3, .int a3), (4, .int a4)]) hx hb dX1_judge_26 hl (of_decide_eq_true rfl) rfl (fun ls hl => ?_)
     have lp19 : ∀ (x21 : Int32) (x22 : Int32) (H : Heap) (locs : List Loc) (ls : Array Slot), 0 ≤ x21.toInt → x21.toInt ≤ 12 → x22.toInt ≤ 7 → x21.toInt = A3 → x22.toInt ≤ A4 → x22.toInt ≤ A3 + x14.toInt + 1 → ((x22.toInt = A4) ∨ (x22.toInt = 7) ∨ (x22.toInt = A3 + x14.toInt + 1)) → jH D cI cL ad σ τ H → va_S (jA ad) s.heap H locs → lv_has ls 18 [(7, .int x18), (6, .int x14), (5, .int x12), (0, .ref (ad 31)), (1, .int a1), (2, .ref (ad 17)), (3, .int a3), (4, .int a4), (8, .int x21), (9, .int x22)] → W p l e ({ frames := 3, cells := 0, slots := 0, locals := 76 }) s m args below meth c H locs 0 0 Q (F0 m 55 ls []) := by
       intro x21 x22 H locs ls h24 h25 h26 h27 h28 h29 h30 hP hS hl
       exact by
        have gx22 := jrg (rfl : x22.toInt = x22.toInt)
        refine lv_iload hx hb dX1_judge_55 (lv_at hl 8 rfl) ?_
        refine lv_istore (lv' := [(10, .int x21), (7, .int x18), (6, .int x14), (5, .int x12), (0, .ref (ad 31)), (1, .int a1), (2, .ref (ad 17)), (3, .int a3), (4, .int a4), (8, .int x21), (9, .int x22)]) hx hb dX1_judge_57 hl (of_decide_eq_true rfl) rfl (fun ls hl => ?_)
        have lp32 : ∀ (n33 : Nat) (x34 : Int32) (σ35 : Nat → Nat → Int32) (H : Heap) (locs : List Loc) (ls : Array Slot), (-x34.toInt + 20 : Int) < n33 → 0 ≤ x34.toInt → x34.toInt ≤ 12 → ((x34.toInt ≤ x22.toInt + 1) ∨ (x34.toInt ≤ x21.toInt)) → x21.toInt ≤ x34.toInt → (∀ i : Nat, (i < 34 ∨ 35 < i) → σ35 i = σ i) → jNz σ35 → jI31 σ35 → (jqJi (σ 34) (σ 35) (σ35 34) (σ35 35) (((A1).toNat : Nat) : Int) (x21 : Int32).toInt (x34 : Int32).toInt) → jH D cI cL ad σ35 τ H → va_S (jA ad) s.heap H locs → lv_has ls 18 [(10, .int x34), (7, .int x18), (6, .int x14), (5, .int x12), (0, .ref (ad 31)), (1, .int a1), (2, .ref (ad 17)), (3, .int a3), (4, .int a4), (8, .int x21), (9, .int x22)] → W p l e ({ frames := 3, cells := 0, slots := 0, locals := 76 }) s m args below meth c H locs 0 0 Q (F0 m 59 ls []) := by
          intro n33
          induction n33 with
          | zero => intro x34 σ35 H locs ls h37 h38 h39 h40 h41; exact absurd h37 (by omega)
          | succ n33 ihlp32 =>
            intro x34 σ35 H locs ls h37 h38 h39 h40 h41 f42 p43 p44 q45 hP hS hl
            exact by
             obtain ⟨i46, i47, i48, i49, w50, w51, w52⟩ : (0 ≤ (σ35 31 8).toInt ∧ (σ35 31 8).toInt ≤ 350) ∧ (0 ≤ (σ35 31 10).toInt ∧ (σ35 31 10).toInt ≤ 12) ∧ (0 ≤ (σ35 31 11).toInt ∧ (σ35 31 11).toInt ≤ 8) ∧ ((σ35 31 10).toInt + (σ35 31 11).toInt ≤ 12) ∧ (∀ k : Nat, k < 1400 → (-1) ≤ (σ35 33 k).toInt ∧ (σ35 33 k).toInt ≤ 350) ∧ (∀ k : Nat, k < 3159 → (-1) ≤ (σ35 35 k).toInt ∧ (σ35 35 k).toInt ≤ 3) ∧ (∀ k : Nat, k < 1024 → 0 ≤ (σ35 36 k).toInt ∧ (σ35 36 k).toInt ≤ 349) := id p44
             have z53 : (σ35 31 8).toInt = (σ 31 8).toInt := (congrArg Int32.toInt (show σ35 31 8 = (σ 31 8) from (congrFun (f42 31 (of_decide_eq_true rfl)) 8)))
             have z54 : (σ35 31 10).toInt = (σ 31 10).toInt := (congrArg Int32.toInt (show σ35 31 10 = (σ 31 10) from (congrFun (f42 31 (of_decide_eq_true rfl)) 10)))
             have z55 : (σ35 31 11).toInt = (σ 31 11).toInt := (congrArg Int32.toInt (show σ35 31 11 = (σ 31 11) from (congrFun (f42 31 (of_decide_eq_true rfl)) 11)))
             refine lv_iload hx hb dX1_judge_59 (lv_at hl 0 rfl) ?_
             refine lv_iload hx hb dX1_judge_61 (lv_at hl 10 rfl) ?_
             refine lv_icmp_gt (tgt := 94) hx hb dX1_judge_63 (of_decide_eq_true rfl) (fun c56 => ?_) (fun c56 => ?_)
             · have kc56 := jlt c56 rfl rfl
               refine lv_aload_n hx hb dX1_judge_94 rfl (lv_at hl 4 rfl) ?_
               refine va_get (D := D) hx hb hts inlX1 hown hK hP 31 (jc_31 cI cL ad σ35 τ) rfl 4 (of_decide_eq_true rfl) (hts _ kw_5_5) (fun _ h9 => h9) rfl dX1_judge_95 ?_
               refine lv_iload hx hb dX1_judge_98 (lv_at hl 1 rfl) ?_
               refine lv_aload_n hx hb dX1_judge_100 rfl (lv_at hl 4 rfl) ?_
               refine va_get (D := D) hx hb hts inlX1 hown hK hP 31 (jc_31 cI cL ad σ35 τ) rfl 1 (of_decide_eq_true rfl) (hts _ kw_5_11) (fun _ h9 => h9) rfl dX1_judge_101 ?_
               refine va_get (D := D) hx hb hts inlX6 hown hK hP 16 (jc_16 cI cL ad σ35 τ) rfl 0 (of_decide_eq_true rfl) (hts _ kw_27_17) (fun _ h9 => h9) rfl dX1_judge_104 ?_
               have m57 : σ35 16 0 = (σ 16 0) := (congrFun (f42 16 (of_decide_eq_true rfl)) 0)
               refine jtopr m57 ?_
               have g58 := jrg (rfl : (σ 16 0).toInt = (σ 16 0).toInt)
               refine lv_iadd hx hb dX1_judge_107 ?_
               refine lv_topi (fun x59 ex59 => ?_)
               exact by
                have tx59 : x59.toInt = 9 * A1 + (σ 16 0).toInt := (jadd ex59 tx18 rfl (by omega) (by omega)).trans (by omega)
                refine lv_iconst (v := 0) hx hb dX1_judge_108 (of_decide_eq_true rfl) ?_
                refine jast hx hb hK hP hJ hA hS (jc_34 cI cL ad σ35 τ) (ja_34 cI cL ad σ35 τ _ _) (jin tx59 (by omega) (by omega)) dX1_judge_109 (fun σ60 H locs eσ60 hP hS => ?_)
                have p61 : jNz σ60 := (jNz.put p43 eσ60 (jnat (x := x59) tx59 (n := 3150) (by omega) (of_decide_eq_true rfl)))
                refine lv_iconst (v := 0) hx hb dX1_judge_110 (of_decide_eq_true rfl) ?_
                refine lv_istore (lv' := [(10, .int 0), (7, .int x18), (6, .int x14), (5, .int x12), (0, .ref (ad 31)), (1, .int a1), (2, .ref (ad 17)), (3, .int a3), (4, .int a4), (8, .int x21), (9, .int x22)]) hx hb dX1_judge_111 hl (of_decide_eq_true rfl) rfl (fun ls hl => ?_)
                have I73 : jI31 σ60 := jI31_fr (congrFun (jnp 31 eσ60 (of_decide_eq_true rfl)) 8) (congrFun (jnp 31 eσ60 (of_decide_eq_true rfl)) 10) (congrFun (jnp 31 eσ60 (of_decide_eq_true rfl)) 11) (jnp 33 eσ60 (of_decide_eq_true rfl)) (jnp 35 eσ60 (of_decide_eq_true rfl)) (jnp 36 eσ60 (of_decide_eq_true rfl)) p44
                have p75 : jN67 σ60 := jN67.fr ((jnp 24 eσ60 (of_decide_eq_true rfl)).trans (f42 24 (of_decide_eq_true rfl))) hs_jN67
                have p76 : jBl σ60 := jBl.fr ((congrFun (jnp 22 eσ60 (of_decide_eq_true rfl)) 0).trans (congrFun (f42 22 (of_decide_eq_true rfl)) 0)) ((congrFun (jnp 22 eσ60 (of_decide_eq_true rfl)) 1).trans (congrFun (f42 22 (of_decide_eq_true rfl)) 1)) ((jnp 23 eσ60 (of_decide_eq_true rfl)).trans (f42 23 (of_decide_eq_true rfl))) ((congrFun (jnp 26 eσ60 (of_decide_eq_true rfl)) 6).trans (congrFun (f42 26 (of_decide_eq_true rfl)) 6)) ((congrFun (jnp 26 eσ60 (of_decide_eq_true rfl)) 7).trans (congrFun (f42 26 (of_decide_eq_true rfl)) 7)) ((jnp 29 eσ60 (of_decide_eq_true rfl)).trans (f42 29 (of_decide_eq_true rfl))) ((jnp 30 eσ60 (of_decide_eq_true rfl)).trans (f42 30 (of_decide_eq_true rfl))) hs_jBl
                exact by
                 have z77 : (σ60 16 0).toInt = (σ 16 0).toInt := (congrArg Int32.toInt (show σ60 16 0 = (σ 16 0) from ((congrFun (jnp 16 eσ60 (of_decide_eq_true rfl)) 0).trans m57)))
                 have lp62 : ∀ (n63 : Nat) (x64 : Int32) (σ72 : Nat → Nat → Int32) (H : Heap) (locs : List Loc) (ls : Array Slot), (-x64.toInt + 4 : Int) < n63 → 0 ≤ x64.toInt → x64.toInt ≤ 4 → (∀ i : Nat, (i < 24 ∨ 25 < i) ∧ (i < 29 ∨ 30 < i) ∧ (i < 34 ∨ 35 < i) → σ72 i = σ60 i) → jN67 σ72 → jBl σ72 → jNz σ72 → jI31 σ72 → (jqPr σ 17 (A1).toNat (A3) (A4) → jqJd (σ 34) (σ 35) (σ72 34) (σ72 35) (((A1).toNat : Nat) : Int) (σ 16 0).toInt (x21 : Int32).toInt (x22 : Int32).toInt (fun z => jPk (jMy4 (jla x12) (jlf x12)) (jqG σ 17 x12 (x14 : Int32).toInt z) (x64 : Int32).toInt.toNat)) → jH D cI cL ad σ72 τ H → va_S (jA ad) s.heap H locs → lv_has ls 18 [(10, .int x64), (7, .int x18), (6, .int x14), (5, .int x12), (0, .ref (ad 31)), (1, .int a1), (2, .ref (ad 17)), (3, .int a3), (4, .int a4), (8, .int x21), (9, .int x22)] → W p l e ({ frames := 3, cells := 0, slots := 0, locals := 76 }) s m args below meth c H locs 0 0 Q (F0 m 113 ls []) := by
                   intro n63
                   induction n63 with
                   | zero => intro x64 σ72 H locs ls h78 h79 h80; exact absurd h78 (by omega)
                   | succ n63 ihlp62 =>
                     intro x64 σ72 H locs ls h78 h79 h80 f81 p82 p83 p84 p85 q86 hP hS hl
                     obtain ⟨i87, i88, i89, i90, w91, w92, w93⟩ : (0 ≤ (σ72 31 8).toInt ∧ (σ72 31 8).toInt ≤ 350) ∧ (0 ≤ (σ72 31 10).toInt ∧ (σ72 31 10).toInt ≤ 12) ∧ (0 ≤ (σ72 31 11).toInt ∧ (σ72 31 11).toInt ≤ 8) ∧ ((σ72 31 10).toInt + (σ72 31 11).toInt ≤ 12) ∧ (∀ k : Nat, k < 1400 → (-1) ≤ (σ72 33 k).toInt ∧ (σ72 33 k).toInt ≤ 350) ∧ (∀ k : Nat, k < 3159 → (-1) ≤ (σ72 35 k).toInt ∧ (σ72 35 k).toInt ≤ 3) ∧ (∀ k : Nat, k < 1024 → 0 ≤ (σ72 36 k).toInt ∧ (σ72 36 k).toInt ≤ 349) := id p85
                     have z94 : (σ72 31 8).toInt = (σ 31 8).toInt := (congrArg Int32.toInt (show σ72 31 8 = (σ 31 8) from ((congrFun (f81 31 (of_decide_eq_true rfl)) 8).trans ((congrFun (jnp 31 eσ60 (of_decide_eq_true rfl)) 8).trans (congrFun (f42 31 (of_decide_eq_true rfl)) 8)))))
                     exact by
                      have z95 : (σ72 31 10).toInt = (σ 31 10).toInt := (congrArg Int32.toInt (show σ72 31 10 = (σ 31 10) from ((congrFun (f81 31 (of_decide_eq_true rfl)) 10).trans ((congrFun (jnp 31 eσ60 (of_decide_eq_true rfl)) 10).trans (congrFun (f42 31 (of_decide_eq_true rfl)) 10)))))
                      have z96 : (σ72 31 11).toInt = (σ 31 11).toInt := (congrArg Int32.toInt (show σ72 31 11 = (σ 31 11) from ((congrFun (f81 31 (of_decide_eq_true rfl)) 11).trans ((congrFun (jnp 31 eσ60 (of_decide_eq_true rfl)) 11).trans (congrFun (f42 31 (of_decide_eq_true rfl)) 11)))))
                      refine lv_iload hx hb dX1_judge_113 (lv_at hl 0 rfl) ?_
                      refine lv_iconst (v := 4) hx hb dX1_judge_115 (of_decide_eq_true rfl) ?_
                      refine lv_icmp_ge (tgt := 316) hx hb dX1_judge_116 (of_decide_eq_true rfl) (fun c97 => ?_) (fun c97 => ?_)
                      · have kc97 := jle c97 jz_4 rfl
                        have p98 : jKb σ72 := jKb.fr ((congrFun (f81 31 (of_decide_eq_true rfl)) 8).trans ((congrFun (jnp 31 eσ60 (of_decide_eq_true rfl)) 8).trans (congrFun (f42 31 (of_decide_eq_true rfl)) 8))) ((congrFun (f81 31 (of_decide_eq_true rfl)) 11).trans ((congrFun (jnp 31 eσ60 (of_decide_eq_true rfl)) 11).trans (congrFun (f42 31 (of_decide_eq_true rfl)) 11))) ((f81 32 (of_decide_eq_true rfl)).trans ((jnp 32 eσ60 (of_decide_eq_true rfl)).trans (f42 32 (of_decide_eq_true rfl)))) hs_jKb
                        have p99 : jKg σ72 := jKg.fr ((congrFun (f81 31 (of_decide_eq_true rfl)) 8).trans ((congrFun (jnp 31 eσ60 (of_decide_eq_true rfl)) 8).trans (congrFun (f42 31 (of_decide_eq_true rfl)) 8))) ((congrFun (f81 31 (of_decide_eq_true rfl)) 9).trans ((congrFun (jnp 31 eσ60 (of_decide_eq_true rfl)) 9).trans (congrFun (f42 31 (of_decide_eq_true rfl)) 9))) ((congrFun (f81 31 (of_decide_eq_true rfl)) 11).trans ((congrFun (jnp 31 eσ60 (of_decide_eq_true rfl)) 11).trans (congrFun (f42 31 (of_decide_eq_true rfl)) 11))) ((congrFun (f81 31 (of_decide_eq_true rfl)) 12).trans ((congrFun (jnp 31 eσ60 (of_decide_eq_true rfl)) 12).trans (congrFun (f42 31 (of_decide_eq_true rfl)) 12))) ((f81 32 (of_decide_eq_true rfl)).trans ((jnp 32 eσ60 (of_decide_eq_true rfl)).trans (f42 32 (of_decide_eq_true rfl)))) ((f81 33 (of_decide_eq_true rfl)).trans ((jnp 33 eσ60 (of_decide_eq_true rfl)).trans (f42 33 (of_decide_eq_true rfl)))) hs_jKg
                        have z100 : (σ72 16 0).toInt = (σ 16 0).toInt := (congrArg Int32.toInt (show σ72 16 0 = (σ 16 0) from ((congrFun (f81 16 (of_decide_eq_true rfl)) 0).trans ((congrFun (jnp 16 eσ60 (of_decide_eq_true rfl)) 0).trans m57))))
                        have k101 : jqPr σ 17 (A1).toNat (A3) (A4) → jqAr (jChc σ) (jRnc σ) (fun y => (σ 17 y).toInt) (σ 16 0).toInt (σ 16 2).toInt (σ 31 11).toInt (σ 31 10).toInt (A3) (σ 31 8).toInt (σ 32) (σ72 34) (σ72 35) (A1) (jmx (A3)) ∧ ∀ k : Nat, (k : Int) < 9 * (A1) → σ72 35 k = σ 35 k ∧ σ72 34 k = σ 34 k := by
                          intro pr
                          have jd := q86 pr
                          have h7 := pr.2.1
                          have fe : (x21 : Int32).toInt = jmx (A3) := by unfold jmx; split <;> omega
                          exact by
                           have rt := jqJd.right (lo := jmx (A3)) (b := (x64 : Int32).toInt) (d := (x14 : Int32).toInt) (k := ((σ 31 11).toInt - ((x14 : Int32).toInt + 1)).toNat) jd (by omega) k17 (by omega) pr.2.2.2.2.2.2 (by omega) (by omega) (Or.inr trivial) (by omega)
                           refine ⟨?_, fun k hk => ?_⟩
                           · have a := jqAr.on jd rt pr.2.2.2.2.2.1 (by omega) (by omega) (by omega) (by omega); rw [show (((A1).toNat : Nat) : Int) = A1 by omega] at a; exact a
                           · have q := jd.2.1 k (by omega); exact ⟨q.1, q.2 (by omega)⟩
                        exact hret σ72 τ _ _ _ _ ⟨rfl, (fun i hi => ((f81 i hi).trans ((jnp i eσ60 (imp_95 i hi)).trans (f42 i (imp_96 i hi))))), p85, p82, p83, p98, p99, p84, (show jqJr σ σ72 17 (A1) (A3) (A4) from by unfold jqJr; exact k101), trivial⟩ hP hS dX1_judge_316
                      · have kc97 := jnle c97 jz_4 rfl
                        refine lv_aload_n hx hb dX1_judge_119 rfl (lv_at hl 4 rfl) ?_
                        refine va_get (D := D) hx hb hts inlX1 hown hK hP 31 (jc_31 cI cL ad σ72 τ) rfl 3 (of_decide_eq_true rfl) (hts _ kw_5_4) (fun _ h9 => h9) rfl dX1_judge_120 ?_
                        refine lv_iload_n hx hb dX1_judge_123 rfl (lv_at hl 5 rfl) ?_
                        exact by
                         refine lv_iconst (v := 4) hx hb dX1_judge_124 (of_decide_eq_true rfl) ?_
                         refine lv_imul hx hb dX1_judge_125 ?_
                         refine lv_topi (fun x102 ex102 => ?_)
                         have tx102 : x102.toInt = 4 * A1 := (jmul ex102 t1 jz_4 (by omega) (by omega)).trans (by omega)
                         refine lv_iload hx hb dX1_judge_126 (lv_at hl 0 rfl) ?_
                         have g103 := jrg (rfl : x64.toInt = x64.toInt)
                         refine lv_iadd hx hb dX1_judge_128 ?_
                         refine lv_topi (fun x104 ex104 => ?_)
                         have tx104 : x104.toInt = 4 * A1 + x64.toInt := (jadd ex104 tx102 rfl (by omega) (by omega)).trans (by omega)
                         exact by
                          refine jald hx hb hK hP (jc_33 cI cL ad σ72 τ) (jin tx104 (by omega) (by omega)) dX1_judge_129 ?_
                          have g105 := w91 _ (jnat (x := x104) tx104 (n := 1400) (by omega) (of_decide_eq_true rfl))
                          refine jtopr (y := (σ 33 x104.toNatClampNeg)) (by rw [f81 33 (of_decide_eq_true rfl), jnp 33 eσ60 (of_decide_eq_true rfl), f42 33 (of_decide_eq_true rfl)]) ?_
                          rw [f81 33 (of_decide_eq_true rfl), jnp 33 eσ60 (of_decide_eq_true rfl), f42 33 (of_decide_eq_true rfl)] at g105
                          refine lv_bipush (v := 9) hx hb dX1_judge_130 (of_decide_eq_true rfl) ?_
                          have g106 := jrg (rfl : (σ 33 x104.toNatClampNeg).toInt = (σ 33 x104.toNatClampNeg).toInt)
                          refine lv_imul hx hb dX1_judge_132 ?_
                          refine lv_topi (fun x107 ex107 => ?_)
                          have tx107 : x107.toInt = 9 * (σ 33 x104.toNatClampNeg).toInt := (jmul ex107 rfl jz_9 (by omega) (by omega)).trans (by omega)
                          exact by
                           refine lv_istore (lv' := [(11, .int x107), (10, .int x64), (7, .int x18), (6, .int x14), (5, .int x12), (0, .ref (ad 31)), (1, .int a1), (2, .ref (ad 17)), (3, .int a3), (4, .int a4), (8, .int x21), (9, .int x22)]) hx hb dX1_judge_133 hl (of_decide_eq_true rfl) rfl (fun ls hl => ?_)
                           refine lv_iload hx hb dX1_judge_135 (lv_at hl 0 rfl) ?_
                           refine lv_if_ge (tgt := 143) hx hb dX1_judge_137 (of_decide_eq_true rfl) (fun c108 => ?_) (fun c108 => ?_)
                           · have kc108 := jle c108 jz_0 tx107
                             refine lv_iload hx hb dX1_judge_143 (lv_at hl 4 rfl) ?_
                             refine lv_iload hx hb dX1_judge_145 (lv_at hl 1 rfl) ?_
                             refine jcallS (As := [.int x12, .int x64]) (rest := []) ⟨hx, hb, hml, hown, hts⟩ hK hP hA hS hZ (c_X0_steps l D cI cL ad zz hJ σ72 τ x12 (x12.toInt) rfl x64 (x64.toInt) rfl) cw_RX1_136 ⟨Nat.le_of_ble_eq_true rfl, Nat.le_of_ble_eq_true rfl⟩ rfl rfl rfl hl.1 rfl (Nat.le_of_ble_eq_true rfl) dX1_judge_147 ⟨Nat.zero_le _, Nat.zero_le _⟩ (fun r110 σ109 τ109 H locs h109 hP hS => ?_)
                             obtain ⟨⟨rfl, rfl⟩, w111, h109⟩ := h109
                             have k112 := congrArg Int32.toInt w111
                             have h113 := h109
                             obtain ⟨q115, k114⟩ := h113
                             refine lv_istore (lv' := [(12, .int r110), (11, .int x107), (10, .int x64), (7, .int x18), (6, .int x14), (5, .int x12), (0, .ref (ad 31)), (1, .int a1), (2, .ref (ad 17)), (3, .int a3), (4, .int a4), (8, .int x21), (9, .int x22)]) hx hb dX1_judge_150 hl (of_decide_eq_true rfl) rfl (fun ls hl => ?_)
                             refine lv_iload hx hb dX1_judge_152 (lv_at hl 5 rfl) ?_
                             refine lv_iload hx hb dX1_judge_154 (lv_at hl 2 rfl) ?_
                             refine jcallS (As := [.int x12, .int x64]) (rest := []) ⟨hx, hb, hml, hown, hts⟩ hK hP hA hS hZ (c_X0_left l D cI cL ad zz hJ σ72 τ x12 (x12.toInt) rfl x64 (x64.toInt) rfl) cw_RX1_123 ⟨Nat.le_of_ble_eq_true rfl, Nat.le_of_ble_eq_true rfl⟩ rfl rfl rfl hl.1 rfl (Nat.le_of_ble_eq_true rfl) dX1_judge_156 ⟨Nat.zero_le _, Nat.zero_le _⟩ (fun r117 σ116 τ116 H locs h116 hP hS => ?_)
                             obtain ⟨⟨rfl, rfl⟩, w118, h116⟩ := h116
                             have k119 := congrArg Int32.toInt w118
                             have h120 := h116
                             obtain ⟨q122, k121⟩ := h120
                             refine lv_istore (lv' := [(13, .int r117), (12, .int r110), (11, .int x107), (10, .int x64), (7, .int x18), (6, .int x14), (5, .int x12), (0, .ref (ad 31)), (1, .int a1), (2, .ref (ad 17)), (3, .int a3), (4, .int a4), (8, .int x21), (9, .int x22)]) hx hb dX1_judge_159 hl (of_decide_eq_true rfl) rfl (fun ls hl => ?_)
                             refine lv_iload hx hb dX1_judge_161 (lv_at hl 12 rfl) ?_
                             refine lv_istore (lv' := [(14, .int x21), (13, .int r117), (12, .int r110), (11, .int x107), (10, .int x64), (7, .int x18), (6, .int x14), (5, .int x12), (0, .ref (ad 31)), (1, .int a1), (2, .ref (ad 17)), (3, .int a3), (4, .int a4), (8, .int x21), (9, .int x22)]) hx hb dX1_judge_163 hl (of_decide_eq_true rfl) rfl (fun ls hl => ?_)
                             have lp123 : ∀ (n124 : Nat) (x125 : Int32) (σ129 : Nat → Nat → Int32) (H : Heap) (locs : List Loc) (ls : Array Slot), (-x125.toInt + 20 : Int) < n124 → 0 ≤ x125.toInt → x125.toInt ≤ 12 → x21.toInt ≤ x125.toInt → (∀ i : Nat, (i < 24 ∨ 25 < i) ∧ (i < 29 ∨ 30 < i) ∧ (i < 34 ∨ 35 < i) → σ129 i = σ72 i) → jN67 σ129 → jBl σ129 → jNz σ129 → jI31 σ129 → (jqPr σ 17 (A1).toNat (A3) (A4) → jqJd (σ 34) (σ 35) (σ129 34) (σ129 35) (((A1).toNat : Nat) : Int) (σ 16 0).toInt (x21 : Int32).toInt (x22 : Int32).toInt (jqIn (jMy4 (jla x12) (jlf x12)) (jqG σ 17 x12 (x14 : Int32).toInt) (x64 : Int32).toInt (x125 : Int32).toInt)) → jH D cI cL ad σ129 τ H → va_S (jA ad) s.heap H locs → lv_has ls 18 [(14, .int x125), (13, .int r117), (12, .int r110), (11, .int x107), (10, .int x64), (7, .int x18), (6, .int x14), (5, .int x12), (0, .ref (ad 31)), (1, .int a1), (2, .ref (ad 17)), (3, .int a3), (4, .int a4), (8, .int x21), (9, .int x22)] → W p l e ({ frames := 3, cells := 0, slots := 0, locals := 76 }) s m args below meth c H locs 0 0 Q (F0 m 165 ls []) := by
                               intro n124
                               induction n124 with
                               | zero => intro x125 σ129 H locs ls h131 h132 h133 h134; exact absurd h131 (by omega)
                               | succ n124 ihlp123 =>
                                 intro x125 σ129 H locs ls h131 h132 h133 h134 f135 p136 p137 p138 p139 q140 hP hS hl
                                 exact by
                                  obtain ⟨i141, i142, i143, i144, w145, w146, w147⟩ : (0 ≤ (σ129 31 8).toInt ∧ (σ129 31 8).toInt ≤ 350) ∧ (0 ≤ (σ129 31 10).toInt ∧ (σ129 31 10).toInt ≤ 12) ∧ (0 ≤ (σ129 31 11).toInt ∧ (σ129 31 11).toInt ≤ 8) ∧ ((σ129 31 10).toInt + (σ129 31 11).toInt ≤ 12) ∧ (∀ k : Nat, k < 1400 → (-1) ≤ (σ129 33 k).toInt ∧ (σ129 33 k).toInt ≤ 350) ∧ (∀ k : Nat, k < 3159 → (-1) ≤ (σ129 35 k).toInt ∧ (σ129 35 k).toInt ≤ 3) ∧ (∀ k : Nat, k < 1024 → 0 ≤ (σ129 36 k).toInt ∧ (σ129 36 k).toInt ≤ 349) := id p139
                                  have z148 : (σ129 31 8).toInt = (σ 31 8).toInt := (congrArg Int32.toInt (show σ129 31 8 = (σ 31 8) from ((congrFun (f135 31 (of_decide_eq_true rfl)) 8).trans ((congrFun (f81 31 (of_decide_eq_true rfl)) 8).trans ((congrFun (jnp 31 eσ60 (of_decide_eq_true rfl)) 8).trans (congrFun (f42 31 (of_decide_eq_true rfl)) 8))))))
                                  have z149 : (σ129 31 10).toInt = (σ 31 10).toInt := (congrArg Int32.toInt (show σ129 31 10 = (σ 31 10) from ((congrFun (f135 31 (of_decide_eq_true rfl)) 10).trans ((congrFun (f81 31 (of_decide_eq_true rfl)) 10).trans ((congrFun (jnp 31 eσ60 (of_decide_eq_true rfl)) 10).trans (congrFun (f42 31 (of_decide_eq_true rfl)) 10))))))
                                  have z150 : (σ129 31 11).toInt = (σ 31 11).toInt := (congrArg Int32.toInt (show σ129 31 11 = (σ 31 11) from ((congrFun (f135 31 (of_decide_eq_true rfl)) 11).trans ((congrFun (f81 31 (of_decide_eq_true rfl)) 11).trans ((congrFun (jnp 31 eσ60 (of_decide_eq_true rfl)) 11).trans (congrFun (f42 31 (of_decide_eq_true rfl)) 11))))))
                                  refine lv_iload hx hb dX1_judge_165 (lv_at hl 0 rfl) ?_
                                  refine lv_iload hx hb dX1_judge_167 (lv_at hl 14 rfl) ?_
                                  refine lv_icmp_gt (tgt := 310) hx hb dX1_judge_169 (of_decide_eq_true rfl) (fun c151 => ?_) (fun c151 => ?_)
                                  · have kc151 := jlt c151 rfl rfl
                                    obtain ⟨x152, ex152⟩ : ∃ y : Int32, y = x64 + 1 := ⟨_, rfl⟩
                                    exact by
                                     have tx152 : x152.toInt = x64.toInt + 1 := (jadd ex152 rfl jz_1 (by omega) (by omega)).trans (by omega)
                                     refine lv_iinc (v := x152) (lv' := [(10, .int x152), (14, .int x125), (13, .int r117), (12, .int r110), (11, .int x107), (7, .int x18), (6, .int x14), (5, .int x12), (0, .ref (ad 31)), (1, .int a1), (2, .ref (ad 17)), (3, .int a3), (4, .int a4), (8, .int x21), (9, .int x22)]) hx hb dX1_judge_310 hl (k := 4) rfl (by rw [ex152]; rfl) (of_decide_eq_true rfl) rfl (fun ls hl => ?_)
                                     refine lv_goto (tgt := 113) hx hb dX1_judge_313 (of_decide_eq_true rfl) ?_
                                     exact by exact ihlp62 x152 σ129 _ _ ls (by have h90 := tx152; omega) (by have h90 := tx152; omega) (by have h90 := tx152; omega) (fun i hi => ((f135 i hi).trans (f81 i hi)))   p136 p137 p138 p139 (fun pr => (q140 pr).out (by omega) (by omega) (by have h9 := tx152; omega)) hP hS (lv_sub hl [0, 5, 6, 7, 8, 9, 10, 11, 12, 13, 14] rfl)
                                  · have kc151 := jnlt c151 rfl rfl
                                    refine lv_aload_n hx hb dX1_judge_172 rfl (lv_at hl 8 rfl) ?_
                                    refine va_get (D := D) hx hb hts inlX1 hown hK hP 31 (jc_31 cI cL ad σ129 τ) rfl 0 (of_decide_eq_true rfl) (hts _ kw_5_10) (fun _ h9 => h9) rfl dX1_judge_173 ?_
                                    refine lv_iload hx hb dX1_judge_176 (lv_at hl 4 rfl) ?_
                                    refine lv_aload_n hx hb dX1_judge_178 rfl (lv_at hl 10 rfl) ?_
                                    exact by
                                     refine lv_iload hx hb dX1_judge_179 (lv_at hl 0 rfl) ?_
                                     refine jald hx hb hK hP (jc_17 cI cL ad σ129 τ) (jin rfl (by omega) (by omega)) dX1_judge_181 ?_
                                     have w153 : ∀ k : Nat, k < 8 → 0 ≤ (σ129 17 k).toInt ∧ (σ129 17 k).toInt ≤ 3 := (jrr_fr (f135 17 (of_decide_eq_true rfl)) (jrr_fr (f81 17 (of_decide_eq_true rfl)) (jrr_fr (jnp 17 eσ60 (of_decide_eq_true rfl)) (jrr_fr (f42 17 (of_decide_eq_true rfl)) w4))))
                                     have g154 := w153 _ (jnat (x := x125) rfl (n := 8) (by omega) (of_decide_eq_true rfl))
                                     refine jtopr (y := (σ 17 x125.toNatClampNeg)) (by rw [f135 17 (of_decide_eq_true rfl), f81 17 (of_decide_eq_true rfl), jnp 17 eσ60 (of_decide_eq_true rfl), f42 17 (of_decide_eq_true rfl)]) ?_
                                     rw [f135 17 (of_decide_eq_true rfl), f81 17 (of_decide_eq_true rfl), jnp 17 eσ60 (of_decide_eq_true rfl), f42 17 (of_decide_eq_true rfl)] at g154
                                     refine lv_iload hx hb dX1_judge_182 (lv_at hl 2 rfl) ?_
                                     refine jcallV (As := [.int x64, .int (σ 17 x125.toNatClampNeg), .int r110]) (rest := []) ⟨hx, hb, hml, hown, hts⟩ hK hP hA hS hZ (c_X5_runsOf_26 l D cI cL ad zz hJ σ129 τ x64 (x64.toInt) rfl (σ 17 x125.toNatClampNeg) ((σ 17 x125.toNatClampNeg).toInt) rfl r110 (r110.toInt) rfl (by omega) (by omega) (by omega)) cw_RX1_139 (jc_26 cI cL ad σ129 τ) rfl ⟨Nat.le_of_ble_eq_true rfl, Nat.le_of_ble_eq_true rfl⟩ rfl rfl rfl hl.1 rfl (Nat.le_of_ble_eq_true rfl) dX1_judge_184 ⟨Nat.zero_le _, Nat.zero_le _⟩ (fun r156 σ155 τ155 H locs h155 hP hS => ?_)
                                     obtain ⟨⟨rfl, rfl⟩, w157, h155⟩ := h155
                                     exact by
                                      refine lv_istore (lv' := [(15, .int r156), (14, .int x125), (13, .int r117), (12, .int r110), (11, .int x107), (10, .int x64), (7, .int x18), (6, .int x14), (5, .int x12), (0, .ref (ad 31)), (1, .int a1), (2, .ref (ad 17)), (3, .int a3), (4, .int a4), (8, .int x21), (9, .int x22)]) hx hb dX1_judge_187 hl (of_decide_eq_true rfl) rfl (fun ls hl => ?_)
                                      refine lv_aload_n hx hb dX1_judge_189 rfl (lv_at hl 9 rfl) ?_
                                      refine va_get (D := D) hx hb hts inlX1 hown hK hP 31 (jc_31 cI cL ad σ129 τ) rfl 0 (of_decide_eq_true rfl) (hts _ kw_5_10) (fun _ h9 => h9) rfl dX1_judge_190 ?_
                                      refine lv_iload hx hb dX1_judge_193 (lv_at hl 5 rfl) ?_
                                      refine lv_aload_n hx hb dX1_judge_195 rfl (lv_at hl 11 rfl) ?_
                                      refine lv_iload hx hb dX1_judge_196 (lv_at hl 1 rfl) ?_
                                      refine jald hx hb hK hP (jc_17 cI cL ad σ129 τ) (jin rfl (by omega) (by omega)) dX1_judge_198 ?_
                                      refine jtopr (y := (σ 17 x125.toNatClampNeg)) (by rw [f135 17 (of_decide_eq_true rfl), f81 17 (of_decide_eq_true rfl), jnp 17 eσ60 (of_decide_eq_true rfl), f42 17 (of_decide_eq_true rfl)]) ?_
                                      refine lv_iload hx hb dX1_judge_199 (lv_at hl 3 rfl) ?_
                                      exact by
                                       refine lv_iload hx hb dX1_judge_201 (lv_at hl 2 rfl) ?_
                                       refine lv_aload_n hx hb dX1_judge_203 rfl (lv_at hl 9 rfl) ?_
                                       refine va_get (D := D) hx hb hts inlX1 hown hK hP 31 (jc_31 cI cL ad σ129 τ) rfl 10 (of_decide_eq_true rfl) (hts _ kw_28_9) (fun _ h9 => h9) rfl dX1_judge_204 ?_
                                       have m158 : σ129 31 10 = (σ 31 10) := ((congrFun (f135 31 (of_decide_eq_true rfl)) 10).trans ((congrFun (f81 31 (of_decide_eq_true rfl)) 10).trans ((congrFun (jnp 31 eσ60 (of_decide_eq_true rfl)) 10).trans (congrFun (f42 31 (of_decide_eq_true rfl)) 10))))
                                       refine jtopr m158 ?_
                                       refine lv_iload hx hb dX1_judge_207 (lv_at hl 7 rfl) ?_
                                       have g159 := jrg (rfl : (σ 31 10).toInt = (σ 31 10).toInt)
                                       have g160 := jrg (rfl : x14.toInt = x14.toInt)
                                       refine lv_iadd hx hb dX1_judge_209 ?_
                                       refine lv_topi (fun x161 ex161 => ?_)
                                       exact by
                                        have tx161 : x161.toInt = (σ 31 10).toInt + x14.toInt := (jadd ex161 rfl rfl (by omega) (by omega)).trans (by omega)
                                        refine lv_iload hx hb dX1_judge_210 (lv_at hl 1 rfl) ?_
                                        have I162 : jI22 σ129 := jI22_fr ((congrFun (f135 22 (of_decide_eq_true rfl)) 0).trans ((congrFun (f81 22 (of_decide_eq_true rfl)) 0).trans ((congrFun (jnp 22 eσ60 (of_decide_eq_true rfl)) 0).trans (congrFun (f42 22 (of_decide_eq_true rfl)) 0)))) ((f135 23 (of_decide_eq_true rfl)).trans ((f81 23 (of_decide_eq_true rfl)).trans ((jnp 23 eσ60 (of_decide_eq_true rfl)).trans (f42 23 (of_decide_eq_true rfl))))) hI22
                                        have I163 : jI26 σ129 := jI26_fr ((congrFun (f135 26 (of_decide_eq_true rfl)) 6).trans ((congrFun (f81 26 (of_decide_eq_true rfl)) 6).trans ((congrFun (jnp 26 eσ60 (of_decide_eq_true rfl)) 6).trans (congrFun (f42 26 (of_decide_eq_true rfl)) 6)))) hI26
                                        refine jcallV (As := [.int x64, .int (σ 17 x125.toNatClampNeg), .int r110, .int r117, .int x161, .int x125]) (rest := []) ⟨hx, hb, hml, hown, hts⟩ hK hP hA hS hZ (c_X5_outOf_26 l D cI cL ad zz hJ σ129 τ x64 (x64.toInt) rfl (σ 17 x125.toNatClampNeg) ((σ 17 x125.toNatClampNeg).toInt) rfl r110 (r110.toInt) rfl r117 (r117.toInt) rfl x161 ((σ 31 10).toInt + x14.toInt) tx161 x125 (x125.toInt) rfl I162 I163 p136 p137 (by omega) (by omega) (by omega) (by omega) (by omega) (by omega)) cw_RX1_142 (jc_26 cI cL ad σ129 τ) rfl ⟨Nat.le_of_ble_eq_true rfl, Nat.le_of_ble_eq_true rfl⟩ rfl rfl rfl hl.1 rfl (Nat.le_of_ble_eq_true rfl) dX1_judge_212 ⟨Nat.zero_le _, Nat.zero_le _⟩ (fun r165 σ164 τ164 H locs h164 hP hS => ?_)
                                        obtain ⟨rfl, f166, p167, p168, w169, h164⟩ := h164
                                        refine lv_istore (lv' := [(16, .int r165), (15, .int r156), (14, .int x125), (13, .int r117), (12, .int r110), (11, .int x107), (10, .int x64), (7, .int x18), (6, .int x14), (5, .int x12), (0, .ref (ad 31)), (1, .int a1), (2, .ref (ad 17)), (3, .int a3), (4, .int a4), (8, .int x21), (9, .int x22)]) hx hb dX1_judge_215 hl (of_decide_eq_true rfl) rfl (fun ls hl => ?_)
                                        refine lv_aload_n hx hb dX1_judge_217 rfl (lv_at hl 10 rfl) ?_
                                        refine va_get (D := D) hx hb hts inlX1 hown hK hP 31 (jc_31 cI cL ad σ164 τ) rfl 1 (of_decide_eq_true rfl) (hts _ kw_5_11) (fun _ h9 => h9) rfl dX1_judge_218 ?_
                                        exact by
                                         refine lv_iload hx hb dX1_judge_221 (lv_at hl 1 rfl) ?_
                                         refine lv_iload hx hb dX1_judge_223 (lv_at hl 0 rfl) ?_
                                         refine lv_aload_n hx hb dX1_judge_225 rfl (lv_at hl 10 rfl) ?_
                                         refine va_get (D := D) hx hb hts inlX1 hown hK hP 31 (jc_31 cI cL ad σ164 τ) rfl 4 (of_decide_eq_true rfl) (hts _ kw_5_5) (fun _ h9 => h9) rfl dX1_judge_226 ?_
                                         refine lv_iload hx hb dX1_judge_229 (lv_at hl 5 rfl) ?_
                                         refine lv_iload hx hb dX1_judge_231 (lv_at hl 2 rfl) ?_
                                         have g171 := jrg (rfl : x125.toInt = x125.toInt)
                                         refine lv_iadd hx hb dX1_judge_233 ?_
                                         refine lv_topi (fun x172 ex172 => ?_)
                                         exact by
                                          have tx172 : x172.toInt = 9 * (σ 33 x104.toNatClampNeg).toInt + x125.toInt := (jadd ex172 tx107 rfl (by omega) (by omega)).trans (by omega)
                                          refine lv_iconst (v := 1) hx hb dX1_judge_234 (of_decide_eq_true rfl) ?_
                                          refine lv_iadd hx hb dX1_judge_235 ?_
                                          refine lv_topi (fun x173 ex173 => ?_)
                                          have tx173 : x173.toInt = 9 * (σ 33 x104.toNatClampNeg).toInt + x125.toInt + 1 := (jadd ex173 tx172 jz_1 (by omega) (by omega)).trans (by omega)
                                          refine jald hx hb hK hP (jc_34 cI cL ad σ164 τ) (jin tx173 (by omega) (by omega)) dX1_judge_236 ?_
                                          refine jtopr (y := (σ129 34 x173.toNatClampNeg)) (by rw [f166 34 (of_decide_eq_true rfl)]) ?_
                                          refine lv_aload_n hx hb dX1_judge_237 rfl (lv_at hl 10 rfl) ?_
                                          refine va_get (D := D) hx hb hts inlX1 hown hK hP 31 (jc_31 cI cL ad σ164 τ) rfl 4 (of_decide_eq_true rfl) (hts _ kw_5_5) (fun _ h9 => h9) rfl dX1_judge_238 ?_
                                          exact by
                                           refine lv_iload hx hb dX1_judge_241 (lv_at hl 5 rfl) ?_
                                           refine lv_iload hx hb dX1_judge_243 (lv_at hl 2 rfl) ?_
                                           refine lv_iadd hx hb dX1_judge_245 ?_
                                           refine lv_topi (fun x174 ex174 => ?_)
                                           have tx174 : x174.toInt = 9 * (σ 33 x104.toNatClampNeg).toInt + x125.toInt := (jadd ex174 tx107 rfl (by omega) (by omega)).trans (by omega)
                                           refine jald hx hb hK hP (jc_34 cI cL ad σ164 τ) (jin tx174 (by omega) (by omega)) dX1_judge_246 ?_
                                           refine jtopr (y := (σ129 34 x174.toNatClampNeg)) (by rw [f166 34 (of_decide_eq_true rfl)]) ?_
                                           refine jcallV (As := [.int r156, .int r165, .int (σ129 34 x173.toNatClampNeg), .int (σ129 34 x174.toNatClampNeg)]) (rest := []) ⟨hx, hb, hml, hown, hts⟩ hK hP hA hS hZ (c_X6_meanOf_16 l D cI cL ad zz hJ σ164 τ r156 (r156.toInt) rfl r165 (r165.toInt) rfl (σ129 34 x173.toNatClampNeg) ((σ129 34 x173.toNatClampNeg).toInt) rfl (σ129 34 x174.toNatClampNeg) ((σ129 34 x174.toNatClampNeg).toInt) rfl) cw_RX1_146 (jc_16 cI cL ad σ164 τ) rfl ⟨Nat.le_of_ble_eq_true rfl, Nat.le_of_ble_eq_true rfl⟩ rfl rfl rfl hl.1 rfl (Nat.le_of_ble_eq_true rfl) dX1_judge_247 ⟨Nat.zero_le _, Nat.zero_le _⟩ (fun r176 σ175 τ175 H locs h175 hP hS => ?_)
                                           obtain ⟨⟨rfl, rfl⟩, w177, h175⟩ := h175
                                           exact by
                                            refine lv_istore (lv' := [(17, .int r176), (16, .int r165), (15, .int r156), (14, .int x125), (13, .int r117), (12, .int r110), (11, .int x107), (10, .int x64), (7, .int x18), (6, .int x14), (5, .int x12), (0, .ref (ad 31)), (1, .int a1), (2, .ref (ad 17)), (3, .int a3), (4, .int a4), (8, .int x21), (9, .int x22)]) hx hb dX1_judge_250 hl (of_decide_eq_true rfl) rfl (fun ls hl => ?_)
                                            refine lv_aload_n hx hb dX1_judge_252 rfl (lv_at hl 11 rfl) ?_
                                            refine va_get (D := D) hx hb hts inlX1 hown hK hP 31 (jc_31 cI cL ad σ164 τ) rfl 5 (of_decide_eq_true rfl) (hts _ kw_5_6) (fun _ h9 => h9) rfl dX1_judge_253 ?_
                                            refine lv_iload hx hb dX1_judge_256 (lv_at hl 8 rfl) ?_
                                            refine lv_iload hx hb dX1_judge_258 (lv_at hl 3 rfl) ?_
                                            refine lv_iadd hx hb dX1_judge_260 ?_
                                            refine lv_topi (fun x178 ex178 => ?_)
                                            have tx178 : x178.toInt = 9 * A1 + x125.toInt := (jadd ex178 tx18 rfl (by omega) (by omega)).trans (by omega)
                                            refine jald hx hb hK hP (jc_35 cI cL ad σ164 τ) (jin tx178 (by omega) (by omega)) dX1_judge_261 ?_
                                            exact by
                                             have w179 : ∀ k : Nat, k < 3159 → (-1) ≤ (σ164 35 k).toInt ∧ (σ164 35 k).toInt ≤ 3 := (jrr_fr (f166 35 (of_decide_eq_true rfl)) w146)
                                             have g180 := w179 _ (jnat (x := x178) tx178 (n := 3159) (by omega) (of_decide_eq_true rfl))
                                             refine jtopr (y := (σ129 35 x178.toNatClampNeg)) (by rw [f166 35 (of_decide_eq_true rfl)]) ?_
                                             rw [f166 35 (of_decide_eq_true rfl)] at g180
                                             have k181 : σ129 35 (9 * (((A1).toNat : Nat) : Int) + (x125 : Int32).toInt).toNat = (σ129 35 x178.toNatClampNeg) := by rw [jnc (show x178.toInt = 9 * (((A1).toNat : Nat) : Int) + (x125 : Int32).toInt by omega)]
                                             refine lv_if_lt (tgt := 280) hx hb dX1_judge_262 (of_decide_eq_true rfl) (fun c182 => ?_) (fun c182 => ?_)
                                             · have kc182 := jlt c182 rfl jz_0
                                               refine lv_aload_n hx hb dX1_judge_280 rfl (lv_at hl 11 rfl) ?_
                                               refine va_get (D := D) hx hb hts inlX1 hown hK hP 31 (jc_31 cI cL ad σ164 τ) rfl 4 (of_decide_eq_true rfl) (hts _ kw_5_5) (fun _ h9 => h9) rfl dX1_judge_281 ?_
                                               exact by
                                                refine lv_iload hx hb dX1_judge_284 (lv_at hl 8 rfl) ?_
                                                refine lv_iload hx hb dX1_judge_286 (lv_at hl 3 rfl) ?_
                                                refine lv_iadd hx hb dX1_judge_288 ?_
                                                refine lv_topi (fun x183 ex183 => ?_)
                                                have tx183 : x183.toInt = 9 * A1 + x125.toInt := (jadd ex183 tx18 rfl (by omega) (by omega)).trans (by omega)
                                                refine lv_iload hx hb dX1_judge_289 (lv_at hl 0 rfl) ?_
                                                refine jast hx hb hK hP hJ hA hS (jc_34 cI cL ad σ164 τ) (ja_34 cI cL ad σ164 τ _ _) (jin tx183 (by omega) (by omega)) dX1_judge_291 (fun σ184 H locs eσ184 hP hS => ?_)
                                                have p185 : jNz σ164 := jNz.fr (f166 34 (of_decide_eq_true rfl)) p138
                                                have p186 : jNz σ184 := (jNz.put p185 eσ184 (jnat (x := x183) tx183 (n := 3150) (by omega) (of_decide_eq_true rfl)))
                                                exact by
                                                 refine lv_aload_n hx hb dX1_judge_292 rfl (lv_at hl 11 rfl) ?_
                                                 refine va_get (D := D) hx hb hts inlX1 hown hK hP 31 (jc_31 cI cL ad σ184 τ) rfl 5 (of_decide_eq_true rfl) (hts _ kw_5_6) (fun _ h9 => h9) rfl dX1_judge_293 ?_
                                                 refine lv_iload hx hb dX1_judge_296 (lv_at hl 8 rfl) ?_
                                                 refine lv_iload hx hb dX1_judge_298 (lv_at hl 3 rfl) ?_
                                                 refine lv_iadd hx hb dX1_judge_300 ?_
                                                 refine lv_topi (fun x187 ex187 => ?_)
                                                 have tx187 : x187.toInt = 9 * A1 + x125.toInt := (jadd ex187 tx18 rfl (by omega) (by omega)).trans (by omega)
                                                 refine lv_iload hx hb dX1_judge_301 (lv_at hl 7 rfl) ?_
                                                 refine jast hx hb hK hP hJ hA hS (jc_35 cI cL ad σ184 τ) (ja_35 cI cL ad σ184 τ _ _) (jin tx187 (by omega) (by omega)) dX1_judge_303 (fun σ188 H locs eσ188 hP hS => ?_)
                                                 exact by
                                                  obtain ⟨x189, ex189⟩ : ∃ y : Int32, y = x125 + 1 := ⟨_, rfl⟩
                                                  have tx189 : x189.toInt = x125.toInt + 1 := (jadd ex189 rfl jz_1 (by omega) (by omega)).trans (by omega)
                                                  refine lv_iinc (v := x189) (lv' := [(14, .int x189), (17, .int r176), (16, .int r165), (15, .int r156), (13, .int r117), (12, .int r110), (11, .int x107), (10, .int x64), (7, .int x18), (6, .int x14), (5, .int x12), (0, .ref (ad 31)), (1, .int a1), (2, .ref (ad 17)), (3, .int a3), (4, .int a4), (8, .int x21), (9, .int x22)]) hx hb dX1_judge_304 hl (k := 3) rfl (by rw [ex189]; rfl) (of_decide_eq_true rfl) rfl (fun ls hl => ?_)
                                                  refine lv_goto (tgt := 165) hx hb dX1_judge_307 (of_decide_eq_true rfl) ?_
                                                  have p190 : jN67 σ188 := jN67.fr ((jnp 24 eσ188 (of_decide_eq_true rfl)).trans (jnp 24 eσ184 (of_decide_eq_true rfl))) p167
                                                  have p191 : jBl σ188 := jBl.fr ((congrFun (jnp 22 eσ188 (of_decide_eq_true rfl)) 0).trans (congrFun (jnp 22 eσ184 (of_decide_eq_true rfl)) 0)) ((congrFun (jnp 22 eσ188 (of_decide_eq_true rfl)) 1).trans (congrFun (jnp 22 eσ184 (of_decide_eq_true rfl)) 1)) ((jnp 23 eσ188 (of_decide_eq_true rfl)).trans (jnp 23 eσ184 (of_decide_eq_true rfl))) ((congrFun (jnp 26 eσ188 (of_decide_eq_true rfl)) 6).trans (congrFun (jnp 26 eσ184 (of_decide_eq_true rfl)) 6)) ((congrFun (jnp 26 eσ188 (of_decide_eq_true rfl)) 7).trans (congrFun (jnp 26 eσ184 (of_decide_eq_true rfl)) 7)) ((jnp 29 eσ188 (of_decide_eq_true rfl)).trans (jnp 29 eσ184 (of_decide_eq_true rfl))) ((jnp 30 eσ188 (of_decide_eq_true rfl)).trans (jnp 30 eσ184 (of_decide_eq_true rfl))) p168
                                                  have p192 : jNz σ188 := jNz.fr (jnp 34 eσ188 (of_decide_eq_true rfl)) p186
                                                  have z193 : (σ188 31 8).toInt = (σ 31 8).toInt := (congrArg Int32.toInt (show σ188 31 8 = (σ 31 8) from ((congrFun (jnp 31 eσ188 (of_decide_eq_true rfl)) 8).trans ((congrFun (jnp 31 eσ184 (of_decide_eq_true rfl)) 8).trans ((congrFun (f166 31 (of_decide_eq_true rfl)) 8).trans ((congrFun (f135 31 (of_decide_eq_true rfl)) 8).trans ((congrFun (f81 31 (of_decide_eq_true rfl)) 8).trans ((congrFun (jnp 31 eσ60 (of_decide_eq_true rfl)) 8).trans (congrFun (f42 31 (of_decide_eq_true rfl)) 8)))))))))
                                                  have z194 : (σ188 31 10).toInt = (σ 31 10).toInt := (congrArg Int32.toInt (show σ188 31 10 = (σ 31 10) from ((congrFun (jnp 31 eσ188 (of_decide_eq_true rfl)) 10).trans ((congrFun (jnp 31 eσ184 (of_decide_eq_true rfl)) 10).trans ((congrFun (f166 31 (of_decide_eq_true rfl)) 10).trans m158)))))
                                                  exact by
                                                   have z195 : (σ188 31 11).toInt = (σ 31 11).toInt := (congrArg Int32.toInt (show σ188 31 11 = (σ 31 11) from ((congrFun (jnp 31 eσ188 (of_decide_eq_true rfl)) 11).trans ((congrFun (jnp 31 eσ184 (of_decide_eq_true rfl)) 11).trans ((congrFun (f166 31 (of_decide_eq_true rfl)) 11).trans ((congrFun (f135 31 (of_decide_eq_true rfl)) 11).trans ((congrFun (f81 31 (of_decide_eq_true rfl)) 11).trans ((congrFun (jnp 31 eσ60 (of_decide_eq_true rfl)) 11).trans (congrFun (f42 31 (of_decide_eq_true rfl)) 11)))))))))
                                                   have w196 : ∀ k : Nat, k < 1400 → (-1) ≤ (σ188 33 k).toInt ∧ (σ188 33 k).toInt ≤ 350 := (jrr_fr (jnp 33 eσ188 (of_decide_eq_true rfl)) (jrr_fr (jnp 33 eσ184 (of_decide_eq_true rfl)) (jrr_fr (f166 33 (of_decide_eq_true rfl)) w145)))
                                                   have w197 : ∀ k : Nat, k < 3159 → (-1) ≤ (σ188 35 k).toInt ∧ (σ188 35 k).toInt ≤ 3 := (by rw [eσ188]; exact jrr_up (jrr_fr (jnp 35 eσ184 (of_decide_eq_true rfl)) w179) (by omega) (by omega))
                                                   have w198 : ∀ k : Nat, k < 1024 → 0 ≤ (σ188 36 k).toInt ∧ (σ188 36 k).toInt ≤ 349 := (jrr_fr (jnp 36 eσ188 (of_decide_eq_true rfl)) (jrr_fr (jnp 36 eσ184 (of_decide_eq_true rfl)) (jrr_fr (f166 36 (of_decide_eq_true rfl)) w147)))
                                                   have I199 : jI31 σ188 := ⟨(by omega), (by omega), (by omega), (by omega), w196, w197, w198⟩
                                                   have k200 := jofn4_eq (c := (x64 : Int32).toInt.toNat) (b := x64) (by omega) (by omega)
                                                   have k201 : r110.toInt = jst x12 (x64 : Int32).toInt.toNat := by unfold jst; rw [← k200]; have w9 := congrArg Int32.toInt w111; omega
                                                   have k202 : (r156 : Int32).toInt = jRnc σ (x64 : Int32).toInt.toNat ((σ 17 x125.toNatClampNeg).toInt) (jst x12 (x64 : Int32).toInt.toNat) := by rw [← k201]; exact jRnc_of (w157 (by omega)) ((f135 28 (of_decide_eq_true rfl)).trans ((f81 28 (of_decide_eq_true rfl)).trans ((jnp 28 eσ60 (of_decide_eq_true rfl)).trans (f42 28 (of_decide_eq_true rfl))))) (by omega) (by omega) (by omega) (by omega)
                                                   have k203 : jGb σ129 = jGb σ := by unfold jGb; rw [show σ129 23 = σ 23 from ((f135 23 (of_decide_eq_true rfl)).trans ((f81 23 (of_decide_eq_true rfl)).trans ((jnp 23 eσ60 (of_decide_eq_true rfl)).trans (f42 23 (of_decide_eq_true rfl))))), show σ129 22 0 = σ 22 0 from ((congrFun (f135 22 (of_decide_eq_true rfl)) 0).trans ((congrFun (f81 22 (of_decide_eq_true rfl)) 0).trans ((congrFun (jnp 22 eσ60 (of_decide_eq_true rfl)) 0).trans (congrFun (f42 22 (of_decide_eq_true rfl)) 0))))]
                                                   exact by
                                                    have k204 : r117.toInt = jlf x12 (x64 : Int32).toInt.toNat := by unfold jlf; rw [← k200]; have w9 := congrArg Int32.toInt w118; omega
                                                    have k205 : (r165 : Int32).toInt = jChc σ (x64 : Int32).toInt.toNat ((σ 17 x125.toNatClampNeg).toInt) (jst x12 (x64 : Int32).toInt.toNat) (jlf x12 (x64 : Int32).toInt.toNat) ((σ 31 10).toInt + (x14 : Int32).toInt) (x125 : Int32).toInt := by rw [← k201, ← k204]; exact jChc_of (w169 (by omega)) ((f135 27 (of_decide_eq_true rfl)).trans ((f81 27 (of_decide_eq_true rfl)).trans ((jnp 27 eσ60 (of_decide_eq_true rfl)).trans (f42 27 (of_decide_eq_true rfl))))) k203 (by omega) (by omega) (by omega) (by omega) (jwd_of (show r117.toInt = r117.toInt from by omega) (by omega) (by omega)) (jwd_of (show x161.toInt = ((σ 31 10).toInt + (x14 : Int32).toInt) from by have h9 := tx161; omega) (by omega) (by omega)) (jwd_of (show x125.toInt = (x125 : Int32).toInt from by omega) (by omega) (by omega))
                                                    have z206 : (σ188 16 2).toInt = (σ 16 2).toInt := (congrArg Int32.toInt (show σ188 16 2 = (σ 16 2) from ((congrFun (jnp 16 eσ188 (of_decide_eq_true rfl)) 2).trans ((congrFun (jnp 16 eσ184 (of_decide_eq_true rfl)) 2).trans ((congrFun (f166 16 (of_decide_eq_true rfl)) 2).trans ((congrFun (f135 16 (of_decide_eq_true rfl)) 2).trans ((congrFun (f81 16 (of_decide_eq_true rfl)) 2).trans ((congrFun (jnp 16 eσ60 (of_decide_eq_true rfl)) 2).trans (congrFun (f42 16 (of_decide_eq_true rfl)) 2)))))))))
                                                    have z207 : (σ188 16 0).toInt = (σ 16 0).toInt := (congrArg Int32.toInt (show σ188 16 0 = (σ 16 0) from ((congrFun (jnp 16 eσ188 (of_decide_eq_true rfl)) 0).trans ((congrFun (jnp 16 eσ184 (of_decide_eq_true rfl)) 0).trans ((congrFun (f166 16 (of_decide_eq_true rfl)) 0).trans ((congrFun (f135 16 (of_decide_eq_true rfl)) 0).trans ((congrFun (f81 16 (of_decide_eq_true rfl)) 0).trans ((congrFun (jnp 16 eσ60 (of_decide_eq_true rfl)) 0).trans m57))))))))
                                                    have z208 : (σ164 16 2).toInt = (σ 16 2).toInt := (congrArg Int32.toInt (show σ164 16 2 = (σ 16 2) from ((congrFun (f166 16 (of_decide_eq_true rfl)) 2).trans ((congrFun (f135 16 (of_decide_eq_true rfl)) 2).trans ((congrFun (f81 16 (of_decide_eq_true rfl)) 2).trans ((congrFun (jnp 16 eσ60 (of_decide_eq_true rfl)) 2).trans (congrFun (f42 16 (of_decide_eq_true rfl)) 2)))))))
                                                    have k209 : jqPr σ 17 (A1).toNat (A3) (A4) → (r176 : Int32).toInt = jqG σ 17 x12 (x14 : Int32).toInt (x125 : Int32).toInt.toNat (x64 : Int32).toInt.toNat ∧ jMy4 (jla x12) (jlf x12) (x64 : Int32).toInt.toNat = true := fun pr => jqG_of (w2 := 0) (k4 := x104.toNatClampNeg) (x := x173.toInt) (y := x174.toInt) (s := (σ 17 x125.toNatClampNeg).toInt) pr hs_jKg (q140 pr) k17 (by omega) (by rw [jnc (show x104.toInt = 4 * (A1) + (x64 : Int32).toInt by omega)]; omega) (by have h9 := tx107; omega) (by omega) (by omega) (by omega) (by omega) (by omega) (by have h7 := pr.2.1; omega) (by omega) (by omega) (by omega) (by unfold jmx; split <;> omega) rfl k202 k205 (by have h9 := tx107; omega) (by have h9 := tx107; omega) rfl rfl (by omega) (show (σ164 16 2).toInt = (σ 16 2).toInt by omega) w177
                                                    exact by exact ihlp123 x189 σ188 _ _ ls (by have h90 := tx189; omega) (by have h90 := tx189; omega) (by have h90 := tx189; omega) (by have h90 := tx189; omega) (fun i hi => ((jnp i eσ188 (imp_97 i hi)).trans ((jnp i eσ184 (imp_95 i hi)).trans ((f166 i (imp_98 i hi)).trans (f135 i hi)))))   p190 p191 p192 I199 (fun pr => jqJd.set (q140 pr) (by omega) (by omega) (by omega) (by have h7 := pr.2.1; omega) (by omega) (k209 pr).2 (Or.inl (by rw [k181]; omega)) (k209 pr).1 (by rw [eσ188, jup_n (of_decide_eq_true rfl), eσ184, jup_row, f166 34 (of_decide_eq_true rfl), jnc (show x183.toInt = 9 * (((A1).toNat : Nat) : Int) + (x125 : Int32).toInt by have h9 := tx183; omega)]) rfl (by rw [eσ188, jup_row, eσ184, jup_n (of_decide_eq_true rfl), f166 35 (of_decide_eq_true rfl), jnc (show x187.toInt = 9 * (((A1).toNat : Nat) : Int) + (x125 : Int32).toInt by have h9 := tx187; omega)]) rfl (by omega) (by have h9 := tx189; omega)) hP hS (lv_sub hl [0, 4, 5, 6, 7, 8, 9, 10, 11, 12, 13, 14, 15, 16, 17] rfl)
                                             · have kc182 := jnlt c182 rfl jz_0
                                               refine lv_iload hx hb dX1_judge_265 (lv_at hl 0 rfl) ?_
                                               exact by
                                                refine lv_aload_n hx hb dX1_judge_267 rfl (lv_at hl 11 rfl) ?_
                                                refine va_get (D := D) hx hb hts inlX1 hown hK hP 31 (jc_31 cI cL ad σ164 τ) rfl 4 (of_decide_eq_true rfl) (hts _ kw_5_5) (fun _ h9 => h9) rfl dX1_judge_268 ?_
                                                refine lv_iload hx hb dX1_judge_271 (lv_at hl 8 rfl) ?_
                                                refine lv_iload hx hb dX1_judge_273 (lv_at hl 3 rfl) ?_
                                                refine lv_iadd hx hb dX1_judge_275 ?_
                                                refine lv_topi (fun x210 ex210 => ?_)
                                                have tx210 : x210.toInt = 9 * A1 + x125.toInt := (jadd ex210 tx18 rfl (by omega) (by omega)).trans (by omega)
                                                refine jald hx hb hK hP (jc_34 cI cL ad σ164 τ) (jin tx210 (by omega) (by omega)) dX1_judge_276 ?_
                                                refine jtopr (y := (σ129 34 x210.toNatClampNeg)) (by rw [f166 34 (of_decide_eq_true rfl)]) ?_
                                                exact by
                                                 have k211 : σ129 34 (9 * (((A1).toNat : Nat) : Int) + (x125 : Int32).toInt).toNat = (σ129 34 x210.toNatClampNeg) := by rw [jnc (show x210.toInt = 9 * (((A1).toNat : Nat) : Int) + (x125 : Int32).toInt by omega)]
                                                 refine lv_icmp_ge (tgt := 304) hx hb dX1_judge_277 (of_decide_eq_true rfl) (fun c212 => ?_) (fun c212 => ?_)
                                                 · have kc212 := jle c212 rfl rfl
                                                   obtain ⟨x213, ex213⟩ : ∃ y : Int32, y = x125 + 1 := ⟨_, rfl⟩
                                                   have tx213 : x213.toInt = x125.toInt + 1 := (jadd ex213 rfl jz_1 (by omega) (by omega)).trans (by omega)
                                                   refine lv_iinc (v := x213) (lv' := [(14, .int x213), (17, .int r176), (16, .int r165), (15, .int r156), (13, .int r117), (12, .int r110), (11, .int x107), (10, .int x64), (7, .int x18), (6, .int x14), (5, .int x12), (0, .ref (ad 31)), (1, .int a1), (2, .ref (ad 17)), (3, .int a3), (4, .int a4), (8, .int x21), (9, .int x22)]) hx hb dX1_judge_304 hl (k := 3) rfl (by rw [ex213]; rfl) (of_decide_eq_true rfl) rfl (fun ls hl => ?_)
                                                   refine lv_goto (tgt := 165) hx hb dX1_judge_307 (of_decide_eq_true rfl) ?_
                                                   have p214 : jNz σ164 := jNz.fr (f166 34 (of_decide_eq_true rfl)) p138
                                                   have I215 : jI31 σ164 := jI31_fr (congrFun (f166 31 (of_decide_eq_true rfl)) 8) (congrFun (f166 31 (of_decide_eq_true rfl)) 10) (congrFun (f166 31 (of_decide_eq_true rfl)) 11) (f166 33 (of_decide_eq_true rfl)) (f166 35 (of_decide_eq_true rfl)) (f166 36 (of_decide_eq_true rfl)) p139
                                                   exact by
                                                    have k216 := jofn4_eq (c := (x64 : Int32).toInt.toNat) (b := x64) (by omega) (by omega)
                                                    have k217 : r110.toInt = jst x12 (x64 : Int32).toInt.toNat := by unfold jst; rw [← k216]; have w9 := congrArg Int32.toInt w111; omega
                                                    have k218 : (r156 : Int32).toInt = jRnc σ (x64 : Int32).toInt.toNat ((σ 17 x125.toNatClampNeg).toInt) (jst x12 (x64 : Int32).toInt.toNat) := by rw [← k217]; exact jRnc_of (w157 (by omega)) ((f135 28 (of_decide_eq_true rfl)).trans ((f81 28 (of_decide_eq_true rfl)).trans ((jnp 28 eσ60 (of_decide_eq_true rfl)).trans (f42 28 (of_decide_eq_true rfl))))) (by omega) (by omega) (by omega) (by omega)
                                                    have k219 : jGb σ129 = jGb σ := by unfold jGb; rw [show σ129 23 = σ 23 from ((f135 23 (of_decide_eq_true rfl)).trans ((f81 23 (of_decide_eq_true rfl)).trans ((jnp 23 eσ60 (of_decide_eq_true rfl)).trans (f42 23 (of_decide_eq_true rfl))))), show σ129 22 0 = σ 22 0 from ((congrFun (f135 22 (of_decide_eq_true rfl)) 0).trans ((congrFun (f81 22 (of_decide_eq_true rfl)) 0).trans ((congrFun (jnp 22 eσ60 (of_decide_eq_true rfl)) 0).trans (congrFun (f42 22 (of_decide_eq_true rfl)) 0))))]
                                                    have k220 : r117.toInt = jlf x12 (x64 : Int32).toInt.toNat := by unfold jlf; rw [← k216]; have w9 := congrArg Int32.toInt w118; omega
                                                    have z221 : (σ164 31 10).toInt = (σ 31 10).toInt := (congrArg Int32.toInt (show σ164 31 10 = (σ 31 10) from ((congrFun (f166 31 (of_decide_eq_true rfl)) 10).trans m158)))
                                                    have k222 : (r165 : Int32).toInt = jChc σ (x64 : Int32).toInt.toNat ((σ 17 x125.toNatClampNeg).toInt) (jst x12 (x64 : Int32).toInt.toNat) (jlf x12 (x64 : Int32).toInt.toNat) ((σ 31 10).toInt + (x14 : Int32).toInt) (x125 : Int32).toInt := by rw [← k217, ← k220]; exact jChc_of (w169 (by omega)) ((f135 27 (of_decide_eq_true rfl)).trans ((f81 27 (of_decide_eq_true rfl)).trans ((jnp 27 eσ60 (of_decide_eq_true rfl)).trans (f42 27 (of_decide_eq_true rfl))))) k219 (by omega) (by omega) (by omega) (by omega) (jwd_of (show r117.toInt = r117.toInt from by omega) (by omega) (by omega)) (jwd_of (show x161.toInt = ((σ 31 10).toInt + (x14 : Int32).toInt) from by have h9 := tx161; omega) (by omega) (by omega)) (jwd_of (show x125.toInt = (x125 : Int32).toInt from by omega) (by omega) (by omega))
                                                    have z223 : (σ164 16 2).toInt = (σ 16 2).toInt := (congrArg Int32.toInt (show σ164 16 2 = (σ 16 2) from ((congrFun (f166 16 (of_decide_eq_true rfl)) 2).trans ((congrFun (f135 16 (of_decide_eq_true rfl)) 2).trans ((congrFun (f81 16 (of_decide_eq_true rfl)) 2).trans ((congrFun (jnp 16 eσ60 (of_decide_eq_true rfl)) 2).trans (congrFun (f42 16 (of_decide_eq_true rfl)) 2)))))))
                                                    have z224 : (σ164 16 0).toInt = (σ 16 0).toInt := (congrArg Int32.toInt (show σ164 16 0 = (σ 16 0) from ((congrFun (f166 16 (of_decide_eq_true rfl)) 0).trans ((congrFun (f135 16 (of_decide_eq_true rfl)) 0).trans ((congrFun (f81 16 (of_decide_eq_true rfl)) 0).trans ((congrFun (jnp 16 eσ60 (of_decide_eq_true rfl)) 0).trans m57))))))
                                                    exact by
                                                     have z225 : (σ164 31 8).toInt = (σ 31 8).toInt := (congrArg Int32.toInt (show σ164 31 8 = (σ 31 8) from ((congrFun (f166 31 (of_decide_eq_true rfl)) 8).trans ((congrFun (f135 31 (of_decide_eq_true rfl)) 8).trans ((congrFun (f81 31 (of_decide_eq_true rfl)) 8).trans ((congrFun (jnp 31 eσ60 (of_decide_eq_true rfl)) 8).trans (congrFun (f42 31 (of_decide_eq_true rfl)) 8)))))))
                                                     have z226 : (σ164 31 11).toInt = (σ 31 11).toInt := (congrArg Int32.toInt (show σ164 31 11 = (σ 31 11) from ((congrFun (f166 31 (of_decide_eq_true rfl)) 11).trans ((congrFun (f135 31 (of_decide_eq_true rfl)) 11).trans ((congrFun (f81 31 (of_decide_eq_true rfl)) 11).trans ((congrFun (jnp 31 eσ60 (of_decide_eq_true rfl)) 11).trans (congrFun (f42 31 (of_decide_eq_true rfl)) 11)))))))
                                                     have k227 : jqPr σ 17 (A1).toNat (A3) (A4) → (r176 : Int32).toInt = jqG σ 17 x12 (x14 : Int32).toInt (x125 : Int32).toInt.toNat (x64 : Int32).toInt.toNat ∧ jMy4 (jla x12) (jlf x12) (x64 : Int32).toInt.toNat = true := fun pr => jqG_of (w2 := 0) (k4 := x104.toNatClampNeg) (x := x173.toInt) (y := x174.toInt) (s := (σ 17 x125.toNatClampNeg).toInt) pr hs_jKg (q140 pr) k17 (by omega) (by rw [jnc (show x104.toInt = 4 * (A1) + (x64 : Int32).toInt by omega)]; omega) (by have h9 := tx107; omega) (by omega) (by omega) (by omega) (by omega) (by omega) (by have h7 := pr.2.1; omega) (by omega) (by omega) (by omega) (by unfold jmx; split <;> omega) rfl k218 k222 (by have h9 := tx107; omega) (by have h9 := tx107; omega) rfl rfl (by omega) (show (σ164 16 2).toInt = (σ 16 2).toInt by omega) w177
                                                     exact by exact ihlp123 x213 σ164 _ _ ls (by have h90 := tx213; omega) (by have h90 := tx213; omega) (by have h90 := tx213; omega) (by have h90 := tx213; omega) (fun i hi => ((f166 i (imp_98 i hi)).trans (f135 i hi)))   p167 p168 p214 I215 (by rw [show σ164 34 = σ129 34 from (f166 34 (of_decide_eq_true rfl)), show σ164 35 = σ129 35 from (f166 35 (of_decide_eq_true rfl))]; exact (fun pr => jqJd.keep (q140 pr) (by omega) (by omega) (by omega) (by rw [k181, k211]; omega) (k227 pr).1 (by have h9 := tx213; omega))) hP hS (lv_sub hl [0, 4, 5, 6, 7, 8, 9, 10, 11, 12, 13, 14, 15, 16, 17] rfl)
                                                 · have kc212 := jnle c212 rfl rfl
                                                   refine lv_aload_n hx hb dX1_judge_280 rfl (lv_at hl 11 rfl) ?_
                                                   refine va_get (D := D) hx hb hts inlX1 hown hK hP 31 (jc_31 cI cL ad σ164 τ) rfl 4 (of_decide_eq_true rfl) (hts _ kw_5_5) (fun _ h9 => h9) rfl dX1_judge_281 ?_
                                                   refine lv_iload hx hb dX1_judge_284 (lv_at hl 8 rfl) ?_
                                                   refine lv_iload hx hb dX1_judge_286 (lv_at hl 3 rfl) ?_
                                                   exact by
                                                    refine lv_iadd hx hb dX1_judge_288 ?_
                                                    refine lv_topi (fun x228 ex228 => ?_)
                                                    have tx228 : x228.toInt = 9 * A1 + x125.toInt := (jadd ex228 tx18 rfl (by omega) (by omega)).trans (by omega)
                                                    refine lv_iload hx hb dX1_judge_289 (lv_at hl 0 rfl) ?_
                                                    refine jast hx hb hK hP hJ hA hS (jc_34 cI cL ad σ164 τ) (ja_34 cI cL ad σ164 τ _ _) (jin tx228 (by omega) (by omega)) dX1_judge_291 (fun σ229 H locs eσ229 hP hS => ?_)
                                                    have p230 : jNz σ164 := jNz.fr (f166 34 (of_decide_eq_true rfl)) p138
                                                    have p231 : jNz σ229 := (jNz.put p230 eσ229 (jnat (x := x228) tx228 (n := 3150) (by omega) (of_decide_eq_true rfl)))
                                                    refine lv_aload_n hx hb dX1_judge_292 rfl (lv_at hl 11 rfl) ?_
                                                    refine va_get (D := D) hx hb hts inlX1 hown hK hP 31 (jc_31 cI cL ad σ229 τ) rfl 5 (of_decide_eq_true rfl) (hts _ kw_5_6) (fun _ h9 => h9) rfl dX1_judge_293 ?_
                                                    exact by
                                                     refine lv_iload hx hb dX1_judge_296 (lv_at hl 8 rfl) ?_
                                                     refine lv_iload hx hb dX1_judge_298 (lv_at hl 3 rfl) ?_
                                                     refine lv_iadd hx hb dX1_judge_300 ?_
                                                     refine lv_topi (fun x232 ex232 => ?_)
                                                     have tx232 : x232.toInt = 9 * A1 + x125.toInt := (jadd ex232 tx18 rfl (by omega) (by omega)).trans (by omega)
                                                     refine lv_iload hx hb dX1_judge_301 (lv_at hl 7 rfl) ?_
                                                     refine jast hx hb hK hP hJ hA hS (jc_35 cI cL ad σ229 τ) (ja_35 cI cL ad σ229 τ _ _) (jin tx232 (by omega) (by omega)) dX1_judge_303 (fun σ233 H locs eσ233 hP hS => ?_)
                                                     obtain ⟨x234, ex234⟩ : ∃ y : Int32, y = x125 + 1 := ⟨_, rfl⟩
                                                     have tx234 : x234.toInt = x125.toInt + 1 := (jadd ex234 rfl jz_1 (by omega) (by omega)).trans (by omega)
                                                     exact by
                                                      refine lv_iinc (v := x234) (lv' := [(14, .int x234), (17, .int r176), (16, .int r165), (15, .int r156), (13, .int r117), (12, .int r110), (11, .int x107), (10, .int x64), (7, .int x18), (6, .int x14), (5, .int x12), (0, .ref (ad 31)), (1, .int a1), (2, .ref (ad 17)), (3, .int a3), (4, .int a4), (8, .int x21), (9, .int x22)]) hx hb dX1_judge_304 hl (k := 3) rfl (by rw [ex234]; rfl) (of_decide_eq_true rfl) rfl (fun ls hl => ?_)
                                                      refine lv_goto (tgt := 165) hx hb dX1_judge_307 (of_decide_eq_true rfl) ?_
                                                      have p235 : jN67 σ233 := jN67.fr ((jnp 24 eσ233 (of_decide_eq_true rfl)).trans (jnp 24 eσ229 (of_decide_eq_true rfl))) p167
                                                      have p236 : jBl σ233 := jBl.fr ((congrFun (jnp 22 eσ233 (of_decide_eq_true rfl)) 0).trans (congrFun (jnp 22 eσ229 (of_decide_eq_true rfl)) 0)) ((congrFun (jnp 22 eσ233 (of_decide_eq_true rfl)) 1).trans (congrFun (jnp 22 eσ229 (of_decide_eq_true rfl)) 1)) ((jnp 23 eσ233 (of_decide_eq_true rfl)).trans (jnp 23 eσ229 (of_decide_eq_true rfl))) ((congrFun (jnp 26 eσ233 (of_decide_eq_true rfl)) 6).trans (congrFun (jnp 26 eσ229 (of_decide_eq_true rfl)) 6)) ((congrFun (jnp 26 eσ233 (of_decide_eq_true rfl)) 7).trans (congrFun (jnp 26 eσ229 (of_decide_eq_true rfl)) 7)) ((jnp 29 eσ233 (of_decide_eq_true rfl)).trans (jnp 29 eσ229 (of_decide_eq_true rfl))) ((jnp 30 eσ233 (of_decide_eq_true rfl)).trans (jnp 30 eσ229 (of_decide_eq_true rfl))) p168
                                                      have p237 : jNz σ233 := jNz.fr (jnp 34 eσ233 (of_decide_eq_true rfl)) p231
                                                      have z238 : (σ233 31 8).toInt = (σ 31 8).toInt := (congrArg Int32.toInt (show σ233 31 8 = (σ 31 8) from ((congrFun (jnp 31 eσ233 (of_decide_eq_true rfl)) 8).trans ((congrFun (jnp 31 eσ229 (of_decide_eq_true rfl)) 8).trans ((congrFun (f166 31 (of_decide_eq_true rfl)) 8).trans ((congrFun (f135 31 (of_decide_eq_true rfl)) 8).trans ((congrFun (f81 31 (of_decide_eq_true rfl)) 8).trans ((congrFun (jnp 31 eσ60 (of_decide_eq_true rfl)) 8).trans (congrFun (f42 31 (of_decide_eq_true rfl)) 8)))))))))
                                                      have z239 : (σ233 31 10).toInt = (σ 31 10).toInt := (congrArg Int32.toInt (show σ233 31 10 = (σ 31 10) from ((congrFun (jnp 31 eσ233 (of_decide_eq_true rfl)) 10).trans ((congrFun (jnp 31 eσ229 (of_decide_eq_true rfl)) 10).trans ((congrFun (f166 31 (of_decide_eq_true rfl)) 10).trans m158)))))
                                                      have z240 : (σ233 31 11).toInt = (σ 31 11).toInt := (congrArg Int32.toInt (show σ233 31 11 = (σ 31 11) from ((congrFun (jnp 31 eσ233 (of_decide_eq_true rfl)) 11).trans ((congrFun (jnp 31 eσ229 (of_decide_eq_true rfl)) 11).trans ((congrFun (f166 31 (of_decide_eq_true rfl)) 11).trans ((congrFun (f135 31 (of_decide_eq_true rfl)) 11).trans ((congrFun (f81 31 (of_decide_eq_true rfl)) 11).trans ((congrFun (jnp 31 eσ60 (of_decide_eq_true rfl)) 11).trans (congrFun (f42 31 (of_decide_eq_true rfl)) 11)))))))))
                                                      have w241 : ∀ k : Nat, k < 1400 → (-1) ≤ (σ233 33 k).toInt ∧ (σ233 33 k).toInt ≤ 350 := (jrr_fr (jnp 33 eσ233 (of_decide_eq_true rfl)) (jrr_fr (jnp 33 eσ229 (of_decide_eq_true rfl)) (jrr_fr (f166 33 (of_decide_eq_true rfl)) w145)))
                                                      exact by
                                                       have w242 : ∀ k : Nat, k < 3159 → (-1) ≤ (σ233 35 k).toInt ∧ (σ233 35 k).toInt ≤ 3 := (by rw [eσ233]; exact jrr_up (jrr_fr (jnp 35 eσ229 (of_decide_eq_true rfl)) w179) (by omega) (by omega))
                                                       have w243 : ∀ k : Nat, k < 1024 → 0 ≤ (σ233 36 k).toInt ∧ (σ233 36 k).toInt ≤ 349 := (jrr_fr (jnp 36 eσ233 (of_decide_eq_true rfl)) (jrr_fr (jnp 36 eσ229 (of_decide_eq_true rfl)) (jrr_fr (f166 36 (of_decide_eq_true rfl)) w147)))
                                                       have I244 : jI31 σ233 := ⟨(by omega), (by omega), (by omega), (by omega), w241, w242, w243⟩
                                                       have k245 := jofn4_eq (c := (x64 : Int32).toInt.toNat) (b := x64) (by omega) (by omega)
                                                       have k246 : r110.toInt = jst x12 (x64 : Int32).toInt.toNat := by unfold jst; rw [← k245]; have w9 := congrArg Int32.toInt w111; omega
                                                       have k247 : (r156 : Int32).toInt = jRnc σ (x64 : Int32).toInt.toNat ((σ 17 x125.toNatClampNeg).toInt) (jst x12 (x64 : Int32).toInt.toNat) := by rw [← k246]; exact jRnc_of (w157 (by omega)) ((f135 28 (of_decide_eq_true rfl)).trans ((f81 28 (of_decide_eq_true rfl)).trans ((jnp 28 eσ60 (of_decide_eq_true rfl)).trans (f42 28 (of_decide_eq_true rfl))))) (by omega) (by omega) (by omega) (by omega)
                                                       have k248 : jGb σ129 = jGb σ := by unfold jGb; rw [show σ129 23 = σ 23 from ((f135 23 (of_decide_eq_true rfl)).trans ((f81 23 (of_decide_eq_true rfl)).trans ((jnp 23 eσ60 (of_decide_eq_true rfl)).trans (f42 23 (of_decide_eq_true rfl))))), show σ129 22 0 = σ 22 0 from ((congrFun (f135 22 (of_decide_eq_true rfl)) 0).trans ((congrFun (f81 22 (of_decide_eq_true rfl)) 0).trans ((congrFun (jnp 22 eσ60 (of_decide_eq_true rfl)) 0).trans (congrFun (f42 22 (of_decide_eq_true rfl)) 0))))]
                                                       have k249 : r117.toInt = jlf x12 (x64 : Int32).toInt.toNat := by unfold jlf; rw [← k245]; have w9 := congrArg Int32.toInt w118; omega
                                                       have k250 : (r165 : Int32).toInt = jChc σ (x64 : Int32).toInt.toNat ((σ 17 x125.toNatClampNeg).toInt) (jst x12 (x64 : Int32).toInt.toNat) (jlf x12 (x64 : Int32).toInt.toNat) ((σ 31 10).toInt + (x14 : Int32).toInt) (x125 : Int32).toInt := by rw [← k246, ← k249]; exact jChc_of (w169 (by omega)) ((f135 27 (of_decide_eq_true rfl)).trans ((f81 27 (of_decide_eq_true rfl)).trans ((jnp 27 eσ60 (of_decide_eq_true rfl)).trans (f42 27 (of_decide_eq_true rfl))))) k248 (by omega) (by omega) (by omega) (by omega) (jwd_of (show r117.toInt = r117.toInt from by omega) (by omega) (by omega)) (jwd_of (show x161.toInt = ((σ 31 10).toInt + (x14 : Int32).toInt) from by have h9 := tx161; omega) (by omega) (by omega)) (jwd_of (show x125.toInt = (x125 : Int32).toInt from by omega) (by omega) (by omega))
                                                       exact by
                                                        have z251 : (σ233 16 2).toInt = (σ 16 2).toInt := (congrArg Int32.toInt (show σ233 16 2 = (σ 16 2) from ((congrFun (jnp 16 eσ233 (of_decide_eq_true rfl)) 2).trans ((congrFun (jnp 16 eσ229 (of_decide_eq_true rfl)) 2).trans ((congrFun (f166 16 (of_decide_eq_true rfl)) 2).trans ((congrFun (f135 16 (of_decide_eq_true rfl)) 2).trans ((congrFun (f81 16 (of_decide_eq_true rfl)) 2).trans ((congrFun (jnp 16 eσ60 (of_decide_eq_true rfl)) 2).trans (congrFun (f42 16 (of_decide_eq_true rfl)) 2)))))))))
                                                        have z252 : (σ233 16 0).toInt = (σ 16 0).toInt := (congrArg Int32.toInt (show σ233 16 0 = (σ 16 0) from ((congrFun (jnp 16 eσ233 (of_decide_eq_true rfl)) 0).trans ((congrFun (jnp 16 eσ229 (of_decide_eq_true rfl)) 0).trans ((congrFun (f166 16 (of_decide_eq_true rfl)) 0).trans ((congrFun (f135 16 (of_decide_eq_true rfl)) 0).trans ((congrFun (f81 16 (of_decide_eq_true rfl)) 0).trans ((congrFun (jnp 16 eσ60 (of_decide_eq_true rfl)) 0).trans m57))))))))
                                                        have z253 : (σ164 16 2).toInt = (σ 16 2).toInt := (congrArg Int32.toInt (show σ164 16 2 = (σ 16 2) from ((congrFun (f166 16 (of_decide_eq_true rfl)) 2).trans ((congrFun (f135 16 (of_decide_eq_true rfl)) 2).trans ((congrFun (f81 16 (of_decide_eq_true rfl)) 2).trans ((congrFun (jnp 16 eσ60 (of_decide_eq_true rfl)) 2).trans (congrFun (f42 16 (of_decide_eq_true rfl)) 2)))))))
                                                        have k254 : jqPr σ 17 (A1).toNat (A3) (A4) → (r176 : Int32).toInt = jqG σ 17 x12 (x14 : Int32).toInt (x125 : Int32).toInt.toNat (x64 : Int32).toInt.toNat ∧ jMy4 (jla x12) (jlf x12) (x64 : Int32).toInt.toNat = true := fun pr => jqG_of (w2 := 0) (k4 := x104.toNatClampNeg) (x := x173.toInt) (y := x174.toInt) (s := (σ 17 x125.toNatClampNeg).toInt) pr hs_jKg (q140 pr) k17 (by omega) (by rw [jnc (show x104.toInt = 4 * (A1) + (x64 : Int32).toInt by omega)]; omega) (by have h9 := tx107; omega) (by omega) (by omega) (by omega) (by omega) (by omega) (by have h7 := pr.2.1; omega) (by omega) (by omega) (by omega) (by unfold jmx; split <;> omega) rfl k247 k250 (by have h9 := tx107; omega) (by have h9 := tx107; omega) rfl rfl (by omega) (show (σ164 16 2).toInt = (σ 16 2).toInt by omega) w177
                                                        exact by exact ihlp123 x234 σ233 _ _ ls (by have h90 := tx234; omega) (by have h90 := tx234; omega) (by have h90 := tx234; omega) (by have h90 := tx234; omega) (fun i hi => ((jnp i eσ233 (imp_97 i hi)).trans ((jnp i eσ229 (imp_95 i hi)).trans ((f166 i (imp_98 i hi)).trans (f135 i hi)))))   p235 p236 p237 I244 (fun pr => jqJd.set (q140 pr) (by omega) (by omega) (by omega) (by have h7 := pr.2.1; omega) (by omega) (k254 pr).2 (by rw [k181, k211]; omega) (k254 pr).1 (by rw [eσ233, jup_n (of_decide_eq_true rfl), eσ229, jup_row, f166 34 (of_decide_eq_true rfl), jnc (show x228.toInt = 9 * (((A1).toNat : Nat) : Int) + (x125 : Int32).toInt by have h9 := tx228; omega)]) rfl (by rw [eσ233, jup_row, eσ229, jup_n (of_decide_eq_true rfl), f166 35 (of_decide_eq_true rfl), jnc (show x232.toInt = 9 * (((A1).toNat : Nat) : Int) + (x125 : Int32).toInt by have h9 := tx232; omega)]) rfl (by omega) (by have h9 := tx234; omega)) hP hS (lv_sub hl [0, 4, 5, 6, 7, 8, 9, 10, 11, 12, 13, 14, 15, 16, 17] rfl)
                             exact by exact lp123 1000000 x21 σ72 _ _ ls (by omega) (by omega) (by omega) (by omega) (fun _ _ => rfl)  p82 p83 p84 p85 (fun pr => (q86 pr).into (by omega)) hP hS hl
                           · have kc108 := jnle c108 jz_0 tx107
                             refine lv_goto (tgt := 310) hx hb dX1_judge_140 (of_decide_eq_true rfl) ?_
                             obtain ⟨x255, ex255⟩ : ∃ y : Int32, y = x64 + 1 := ⟨_, rfl⟩
                             exact by
                              have tx255 : x255.toInt = x64.toInt + 1 := (jadd ex255 rfl jz_1 (by omega) (by omega)).trans (by omega)
                              refine lv_iinc (v := x255) (lv' := [(10, .int x255), (11, .int x107), (7, .int x18), (6, .int x14), (5, .int x12), (0, .ref (ad 31)), (1, .int a1), (2, .ref (ad 17)), (3, .int a3), (4, .int a4), (8, .int x21), (9, .int x22)]) hx hb dX1_judge_310 hl (k := 1) rfl (by rw [ex255]; rfl) (of_decide_eq_true rfl) rfl (fun ls hl => ?_)
                              refine lv_goto (tgt := 113) hx hb dX1_judge_313 (of_decide_eq_true rfl) ?_
                              exact by exact ihlp62 x255 σ72 _ _ ls (by have h90 := tx255; omega) (by have h90 := tx255; omega) (by have h90 := tx255; omega) (fun i hi => (f81 i hi))   p82 p83 p84 p85 (fun pr => (q86 pr).skip (((hs_jKg pr.1).2.2.2.2 (A1).toNat (x64 : Int32).toInt.toNat (by omega) (Or.inl ⟨by omega, by omega⟩)).no k17 (by rw [show 4 * (A1).toNat + (x64 : Int32).toInt.toNat = x104.toNatClampNeg from by rw [jnc (show x104.toInt = 4 * (A1) + (x64 : Int32).toInt by omega)]; omega]; have h9 := tx107; omega)) (by omega) (by have h9 := tx255; omega)) hP hS (lv_sub hl [0, 2, 3, 4, 5, 6, 7, 8, 9, 10, 11] rfl)
                 exact by exact lp62 1000000 0 σ60 _ _ ls (by have h90 := jz_0; omega) (by have h90 := jz_0; omega) (by have h90 := jz_0; omega) (fun _ _ => rfl)  p75 p76 p61 I73 (by rw [show σ60 35 = σ35 35 from (jnp 35 eσ60 (of_decide_eq_true rfl))]; exact (fun pr => jqJi.fin (e := (x22 : Int32).toInt) q45 (by omega) (by omega) (by omega) (by have h7 := pr.2.1; omega) (by omega) (by rw [eσ60, jup_row, jnc (show x59.toInt = 9 * (((A1).toNat : Nat) : Int) + (σ 16 0).toInt by have h9 := tx59; omega)]) (of_decide_eq_true rfl) (by have h9 := jz_0; omega))) hP hS hl
             · have kc56 := jnlt c56 rfl rfl
               refine lv_aload_n hx hb dX1_judge_66 rfl (lv_at hl 4 rfl) ?_
               refine va_get (D := D) hx hb hts inlX1 hown hK hP 31 (jc_31 cI cL ad σ35 τ) rfl 4 (of_decide_eq_true rfl) (hts _ kw_5_5) (fun _ h9 => h9) rfl dX1_judge_67 ?_
               refine lv_iload hx hb dX1_judge_70 (lv_at hl 1 rfl) ?_
               exact by
                refine lv_iload hx hb dX1_judge_72 (lv_at hl 0 rfl) ?_
                have g256 := jrg (rfl : x34.toInt = x34.toInt)
                refine lv_iadd hx hb dX1_judge_74 ?_
                refine lv_topi (fun x257 ex257 => ?_)
                have tx257 : x257.toInt = 9 * A1 + x34.toInt := (jadd ex257 tx18 rfl (by omega) (by omega)).trans (by omega)
                refine lv_iconst (v := 0) hx hb dX1_judge_75 (of_decide_eq_true rfl) ?_
                refine jast hx hb hK hP hJ hA hS (jc_34 cI cL ad σ35 τ) (ja_34 cI cL ad σ35 τ _ _) (jin tx257 (by omega) (by omega)) dX1_judge_76 (fun σ258 H locs eσ258 hP hS => ?_)
                have p259 : jNz σ258 := (jNz.put p43 eσ258 (jnat (x := x257) tx257 (n := 3150) (by omega) (of_decide_eq_true rfl)))
                refine lv_aload_n hx hb dX1_judge_77 rfl (lv_at hl 4 rfl) ?_
                exact by
                 refine va_get (D := D) hx hb hts inlX1 hown hK hP 31 (jc_31 cI cL ad σ258 τ) rfl 5 (of_decide_eq_true rfl) (hts _ kw_5_6) (fun _ h9 => h9) rfl dX1_judge_78 ?_
                 refine lv_iload hx hb dX1_judge_81 (lv_at hl 1 rfl) ?_
                 refine lv_iload hx hb dX1_judge_83 (lv_at hl 0 rfl) ?_
                 refine lv_iadd hx hb dX1_judge_85 ?_
                 refine lv_topi (fun x260 ex260 => ?_)
                 have tx260 : x260.toInt = 9 * A1 + x34.toInt := (jadd ex260 tx18 rfl (by omega) (by omega)).trans (by omega)
                 refine lv_iconst (v := (-1)) hx hb dX1_judge_86 (of_decide_eq_true rfl) ?_
                 refine jast hx hb hK hP hJ hA hS (jc_35 cI cL ad σ258 τ) (ja_35 cI cL ad σ258 τ _ _) (jin tx260 (by omega) (by omega)) dX1_judge_87 (fun σ261 H locs eσ261 hP hS => ?_)
                 obtain ⟨x262, ex262⟩ : ∃ y : Int32, y = x34 + 1 := ⟨_, rfl⟩
                 exact by
                  have tx262 : x262.toInt = x34.toInt + 1 := (jadd ex262 rfl jz_1 (by omega) (by omega)).trans (by omega)
                  refine lv_iinc (v := x262) (lv' := [(10, .int x262), (7, .int x18), (6, .int x14), (5, .int x12), (0, .ref (ad 31)), (1, .int a1), (2, .ref (ad 17)), (3, .int a3), (4, .int a4), (8, .int x21), (9, .int x22)]) hx hb dX1_judge_88 hl (k := 0) rfl (by rw [ex262]; rfl) (of_decide_eq_true rfl) rfl (fun ls hl => ?_)
                  refine lv_goto (tgt := 59) hx hb dX1_judge_91 (of_decide_eq_true rfl) ?_
                  have p263 : jNz σ261 := jNz.fr (jnp 34 eσ261 (of_decide_eq_true rfl)) p259
                  have z264 : (σ261 31 8).toInt = (σ 31 8).toInt := (congrArg Int32.toInt (show σ261 31 8 = (σ 31 8) from ((congrFun (jnp 31 eσ261 (of_decide_eq_true rfl)) 8).trans ((congrFun (jnp 31 eσ258 (of_decide_eq_true rfl)) 8).trans (congrFun (f42 31 (of_decide_eq_true rfl)) 8)))))
                  have z265 : (σ261 31 10).toInt = (σ 31 10).toInt := (congrArg Int32.toInt (show σ261 31 10 = (σ 31 10) from ((congrFun (jnp 31 eσ261 (of_decide_eq_true rfl)) 10).trans ((congrFun (jnp 31 eσ258 (of_decide_eq_true rfl)) 10).trans (congrFun (f42 31 (of_decide_eq_true rfl)) 10)))))
                  have z266 : (σ261 31 11).toInt = (σ 31 11).toInt := (congrArg Int32.toInt (show σ261 31 11 = (σ 31 11) from ((congrFun (jnp 31 eσ261 (of_decide_eq_true rfl)) 11).trans ((congrFun (jnp 31 eσ258 (of_decide_eq_true rfl)) 11).trans (congrFun (f42 31 (of_decide_eq_true rfl)) 11)))))
                  have w267 : ∀ k : Nat, k < 1400 → (-1) ≤ (σ261 33 k).toInt ∧ (σ261 33 k).toInt ≤ 350 := (jrr_fr (jnp 33 eσ261 (of_decide_eq_true rfl)) (jrr_fr (jnp 33 eσ258 (of_decide_eq_true rfl)) w50))
                  have w268 : ∀ k : Nat, k < 3159 → (-1) ≤ (σ261 35 k).toInt ∧ (σ261 35 k).toInt ≤ 3 := (by rw [eσ261]; exact jrr_up (jrr_fr (jnp 35 eσ258 (of_decide_eq_true rfl)) w51) (by have h9 := jz_m1; omega) (by have h9 := jz_m1; omega))
                  exact by
                   have w269 : ∀ k : Nat, k < 1024 → 0 ≤ (σ261 36 k).toInt ∧ (σ261 36 k).toInt ≤ 349 := (jrr_fr (jnp 36 eσ261 (of_decide_eq_true rfl)) (jrr_fr (jnp 36 eσ258 (of_decide_eq_true rfl)) w52))
                   have I270 : jI31 σ261 := ⟨(by omega), (by omega), (by omega), (by omega), w267, w268, w269⟩
                   exact by exact ihlp32 x262 σ261 _ _ ls (by have h90 := tx262; omega) (by have h90 := tx262; omega) (by have h90 := tx262; omega) (by have h90 := tx262; omega) (by have h90 := tx262; omega) (fun i hi => ((jnp i eσ261 (imp_99 i hi)).trans ((jnp i eσ258 (imp_100 i hi)).trans (f42 i hi))))   p263 I270 (jqJi.step q45 (by omega) (by omega) (by omega) (by rw [eσ261, jup_n (of_decide_eq_true rfl), eσ258, jup_row, jnc (show x257.toInt = 9 * (((A1).toNat : Nat) : Int) + (x34 : Int32).toInt by have h9 := tx257; omega)]) (of_decide_eq_true rfl) (by rw [eσ261, jup_row, eσ258, jup_n (of_decide_eq_true rfl), jnc (show x260.toInt = 9 * (((A1).toNat : Nat) : Int) + (x34 : Int32).toInt by have h9 := tx260; omega)]) (of_decide_eq_true rfl) (by have h9 := tx262; omega)) hP hS (lv_sub hl [0, 1, 2, 3, 4, 5, 6, 7, 8, 9, 10] rfl)
        exact by exact lp32 1000000 x21 σ _ _ ls (by omega) (by omega) (by omega) (by omega) (by omega) (fun _ _ => rfl)  hs_jNz hI31 (jqJi.first (by omega)) hP hS hl
     refine lv_iconst (v := 0) hx hb dX1_judge_28 (of_decide_eq_true rfl) ?_
     refine lv_iload_n hx hb dX1_judge_29 rfl (lv_at hl 6 rfl) ?_
     refine va_mmax hx hb (hml.trans hl.1.symm) hown (hts _ kw_28_5) (hts _ kw_21_0) (hts _ kw_21_1) (hts _ kw_21_2) (Nat.le_of_ble_eq_true rfl) (Nat.le_of_ble_eq_true rfl) (Nat.le_of_ble_eq_true rfl) (Nat.le_of_ble_eq_true rfl) dX1_judge_30 ?_
     refine lv_topi (fun x271 ex271 => ?_)
     have g272 := jmax ex271 jz_0 t3
     exact by
      refine lv_istore (lv' := [(8, .int x271), (7, .int x18), (6, .int x14), (5, .int x12), (0, .ref (ad 31)), (1, .int a1), (2, .ref (ad 17)), (3, .int a3), (4, .int a4)]) hx hb dX1_judge_33 hl (of_decide_eq_true rfl) rfl (fun ls hl => ?_)
      refine lv_iload hx hb dX1_judge_35 (lv_at hl 8 rfl) ?_
      refine lv_aload_n hx hb dX1_judge_37 rfl (lv_at hl 6 rfl) ?_
      refine jalen (v := 8) hx hb hK hP (jc_17 cI cL ad σ τ) (of_decide_eq_true rfl) dX1_judge_38 ?_
      refine lv_iconst (v := 1) hx hb dX1_judge_39 (of_decide_eq_true rfl) ?_
      refine lv_isub hx hb dX1_judge_40 ?_
      refine jtopr (y := 7) (of_decide_eq_true rfl) ?_
      refine va_mmin hx hb (hml.trans hl.1.symm) hown (hts _ kw_28_4) (hts _ kw_22_11) (hts _ kw_21_1) (hts _ kw_22_12) (Nat.le_of_ble_eq_true rfl) (Nat.le_of_ble_eq_true rfl) (Nat.le_of_ble_eq_true rfl) (Nat.le_of_ble_eq_true rfl) dX1_judge_41 ?_
      refine lv_topi (fun x273 ex273 => ?_)
      have g274 := jmin ex273 t4 jz_7
      refine lv_iload_n hx hb dX1_judge_44 rfl (lv_at hl 7 rfl) ?_
      refine lv_iconst (v := 1) hx hb dX1_judge_45 (of_decide_eq_true rfl) ?_
      refine lv_iadd hx hb dX1_judge_46 ?_
      refine lv_topi (fun x275 ex275 => ?_)
      exact by
       have tx275 : x275.toInt = A3 + 1 := (jadd ex275 t3 jz_1 (by omega) (by omega)).trans (by omega)
       refine lv_iload hx hb dX1_judge_47 (lv_at hl 2 rfl) ?_
       have g276 := jrg (rfl : x14.toInt = x14.toInt)
       refine lv_iadd hx hb dX1_judge_49 ?_
       refine lv_topi (fun x277 ex277 => ?_)
       have tx277 : x277.toInt = A3 + x14.toInt + 1 := (jadd ex277 tx275 rfl (by omega) (by omega)).trans (by omega)
       refine va_mmin hx hb (hml.trans hl.1.symm) hown (hts _ kw_28_4) (hts _ kw_22_11) (hts _ kw_21_1) (hts _ kw_22_12) (Nat.le_of_ble_eq_true rfl) (Nat.le_of_ble_eq_true rfl) (Nat.le_of_ble_eq_true rfl) (Nat.le_of_ble_eq_true rfl) dX1_judge_50 ?_
       refine lv_topi (fun x278 ex278 => ?_)
       have g279 := jmin ex278 rfl tx277
       exact by
        refine lv_istore (lv' := [(9, .int x278), (8, .int x271), (7, .int x18), (6, .int x14), (5, .int x12), (0, .ref (ad 31)), (1, .int a1), (2, .ref (ad 17)), (3, .int a3), (4, .int a4)]) hx hb dX1_judge_53 hl (of_decide_eq_true rfl) rfl (fun ls hl => ?_)
        exact by exact lp19 x271 x278 _ _ ls (by omega) (by omega) (by omega) (by omega) (by omega) (by omega) (by omega)    hP hS (lv_sub hl [2, 3, 4, 5, 6, 7, 8, 9, 1, 0] rfl)
set_option maxHeartbeats 4000000 in
set_option maxRecDepth 100000 in
theorem c_X1_seekFor_31 (l : Launch) (D : va_G) (cI cL : ClassId) (ad zz : Nat → Nat) (hJ : jD ad) (σ : Nat → Nat → Int32) (τ : Nat → Nat → Int64) (a2 : Int32) (A2 : Int) (t2 : a2.toInt = A2) (a3 : Int32) (A3 : Int) (t3 : a3.toInt = A3) (a4 : Int32) (A4 : Int) (t4 : a4.toInt = A4) (a5 : Int32) (A5 : Int) (t5 : a5.toInt = A5) (hI16 : jI16 σ) (hI22 : jI22 σ) (hI31 : jI31 σ) (hI26 : jI26 σ) (hs_jN67 : jN67 σ) (hs_jBl : jBl σ) (hs_jKb : jKb σ) (hs_jKh : jKh σ) (hs_jKg : jKg σ) (hs_jNz : jNz σ) (hp0 : 0 ≤ A2 ∧ A2 ≤ 134217727) (hp1 : 0 ≤ A3 ∧ A3 ≤ 12) (hp2 : 0 ≤ A4 ∧ A4 ≤ 12) : jMv l yX1_seekFor cX1_seekFor 7 none ({ frames := 4, cells := 0, slots := 0, locals := 113 }) D cI cL ad zz [.ref (ad 31), .ref (ad 17), .int a2, .int a3, .int a4, .int a5] σ τ (fun σ' τ' => τ = τ' ∧ (∀ i : Nat, (i < 24 ∨ 25 < i) ∧ (i < 29 ∨ 37 < i) → σ' i = σ i) ∧ (∀ k : Nat, (k < 8 ∨ 8 < k) ∧ (k < 9 ∨ 9 < k) ∧ (k < 10 ∨ 10 < k) ∧ (k < 11 ∨ 11 < k) ∧ (k < 12 ∨ 12 < k) → σ' 31 k = σ 31 k) ∧ (jI31 σ') ∧ (jN67 σ') ∧ (jBl σ') ∧ (jKb σ') ∧ (jKh σ') ∧ (jKg σ') ∧ (jNz σ') ∧ ((jqSp σ σ' 17 a2 (A4) (A5) → jqSr σ σ' 17 (A4) 0) ∧ ((σ' 31 12).toInt ≠ 0 ↔ (σ 22 1).toBitVec.getLsbD 5 = true)) ∧ ((σ' 31 9).toInt = A2) ∧ ((σ' 31 10).toInt = A3) ∧ (0 ≤ (σ' 31 12).toInt ∧ (σ' 31 12).toInt ≤ 1) ∧ (((σ' 31 11).toInt = 0 ∧ (σ 16 1).toInt - A3 ≤ 0) ∨ ((σ' 31 11).toInt = (σ 16 1).toInt - A3 ∧ 0 ≤ (σ 16 1).toInt - A3 ∧ (σ 16 1).toInt - A3 ≤ 8) ∨ ((σ' 31 11).toInt = 8 ∧ 8 ≤ (σ 16 1).toInt - A3)) ∧ True) := by
  refine jMv.of hJ (by decide +kernel) rfl (Nat.le_of_ble_eq_true rfl) ?_
  intro p e s m args below meth c Q ls hC hret hl hP
  obtain ⟨hx, hb, hr, hml, hown, hts, hK, -, hlocks, hZ⟩ := hC
  have hown : s.vm.findClass RX1 = some m.cls := hown
  have hS : va_S (jA ad) s.heap s.heap [] := va_S.rf
  have hA : ∀ q, jA ad q → jA ad q := fun _ h => h
  have hl : lv_has ls 7 [(0, .ref (ad 31)), (1, .ref (ad 17)), (2, .int a2), (3, .int a3), (4, .int a4), (5, .int a5)] := hl
  have g2 := jrg t2
  have g3 := jrg t3
  have g4 := jrg t4
  have g5 := jrg t5
  obtain ⟨i1, i2, i3, w4⟩ : (1 ≤ (σ 16 0).toInt ∧ (σ 16 0).toInt ≤ 8) ∧ (1 ≤ (σ 16 1).toInt ∧ (σ 16 1).toInt ≤ 12) ∧ (0 ≤ (σ 16 2).toInt ∧ (σ 16 2).toInt ≤ 999) ∧ (∀ k : Nat, k < 8 → 0 ≤ (σ 17 k).toInt ∧ (σ 17 k).toInt ≤ 3) := id hI16
  obtain ⟨i5, i6, i7, i8, w9, w10, w11⟩ : (0 ≤ (σ 31 8).toInt ∧ (σ 31 8).toInt ≤ 350) ∧ (0 ≤ (σ 31 10).toInt ∧ (σ 31 10).toInt ≤ 12) ∧ (0 ≤ (σ 31 11).toInt ∧ (σ 31 11).toInt ≤ 8) ∧ ((σ 31 10).toInt + (σ 31 11).toInt ≤ 12) ∧ (∀ k : Nat, k < 1400 → (-1) ≤ (σ 33 k).toInt ∧ (σ 33 k).toInt ≤ 350) ∧ (∀ k : Nat, k < 3159 → (-1) ≤ (σ 35 k).toInt ∧ (σ 35 k).toInt ≤ 3) ∧ (∀ k : Nat, k < 1024 → 0 ≤ (σ 36 k).toInt ∧ (σ 36 k).toInt ≤ 349) := id hI31
  refine lv_aload_n hx hb dX1_seekFor_0 rfl (lv_at hl 0 rfl) ?_
  refine lv_iload_n hx hb dX1_seekFor_1 rfl (lv_at hl 2 rfl) ?_
  refine lv_iload_n hx hb dX1_seekFor_2 rfl (lv_at hl 3 rfl) ?_
  exact by
   refine jcallVv (As := [.int a2, .int a3]) (rest := []) ⟨hx, hb, hml, hown, hts⟩ hK hP hA hS hZ (c_X1_grow_31 l D cI cL ad zz hJ σ τ a2 (A2) t2 a3 (A3) t3 hI16 hI31 hs_jKb hs_jKh hs_jKg (by omega) (by omega)) cw_RX1_54 (jc_31 cI cL ad σ τ) rfl ⟨Nat.le_of_ble_eq_true rfl, Nat.le_of_ble_eq_true rfl⟩ rfl rfl rfl hl.1 rfl (Nat.le_of_ble_eq_true rfl) dX1_seekFor_3 ⟨Nat.zero_le _, Nat.zero_le _⟩ (fun σ12 τ12 H locs h12 hP hS => ?_)
   obtain ⟨rfl, f14, f15, I16, p17, p18, p19, w20, w21, h12⟩ := h12
   obtain ⟨i23, i24, i25, i26, w27, w28, w29⟩ : (0 ≤ (σ12 31 8).toInt ∧ (σ12 31 8).toInt ≤ 350) ∧ (0 ≤ (σ12 31 10).toInt ∧ (σ12 31 10).toInt ≤ 12) ∧ (0 ≤ (σ12 31 11).toInt ∧ (σ12 31 11).toInt ≤ 8) ∧ ((σ12 31 10).toInt + (σ12 31 11).toInt ≤ 12) ∧ (∀ k : Nat, k < 1400 → (-1) ≤ (σ12 33 k).toInt ∧ (σ12 33 k).toInt ≤ 350) ∧ (∀ k : Nat, k < 3159 → (-1) ≤ (σ12 35 k).toInt ∧ (σ12 35 k).toInt ≤ 3) ∧ (∀ k : Nat, k < 1024 → 0 ≤ (σ12 36 k).toInt ∧ (σ12 36 k).toInt ≤ 349) := id I16
   obtain ⟨k30, k31, k32, k33, h12⟩ := h12
   refine lv_aload_n hx hb dX1_seekFor_6 rfl (lv_at hl 0 rfl) ?_
   refine va_get (D := D) hx hb hts inlX1 hown hK hP 31 (jc_31 cI cL ad σ12 τ) rfl 8 (of_decide_eq_true rfl) (hts _ kw_27_22) (fun _ h9 => h9) rfl dX1_seekFor_7 ?_
   refine lv_iconst (v := 1) hx hb dX1_seekFor_10 (of_decide_eq_true rfl) ?_
   have g34 := jrg (rfl : (σ12 31 8).toInt = (σ12 31 8).toInt)
   refine lv_isub hx hb dX1_seekFor_11 ?_
   refine lv_topi (fun x35 ex35 => ?_)
   exact by
    have tx35 : x35.toInt = (σ12 31 8).toInt - 1 := (jsub ex35 rfl jz_1 (by omega) (by omega)).trans (by omega)
    refine lv_istore (lv' := [(6, .int x35), (0, .ref (ad 31)), (1, .ref (ad 17)), (2, .int a2), (3, .int a3), (4, .int a4), (5, .int a5)]) hx hb dX1_seekFor_12 hl (of_decide_eq_true rfl) rfl (fun ls hl => ?_)
    have z40 : (σ12 16 1).toInt = (σ 16 1).toInt := (congrArg Int32.toInt (show σ12 16 1 = (σ 16 1) from (congrFun (f14 16 (of_decide_eq_true rfl)) 1)))
    have p42 : jN67 σ12 := jN67.fr (f14 24 (of_decide_eq_true rfl)) hs_jN67
    have p43 : jBl σ12 := jBl.fr (congrFun (f14 22 (of_decide_eq_true rfl)) 0) (congrFun (f14 22 (of_decide_eq_true rfl)) 1) (f14 23 (of_decide_eq_true rfl)) (congrFun (f14 26 (of_decide_eq_true rfl)) 6) (congrFun (f14 26 (of_decide_eq_true rfl)) 7) (f14 29 (of_decide_eq_true rfl)) (f14 30 (of_decide_eq_true rfl)) hs_jBl
    have p44 : jNz σ12 := jNz.fr (f14 34 (of_decide_eq_true rfl)) hs_jNz
    have lp36 : ∀ (n37 : Nat) (x38 : Int32) (σ39 : Nat → Nat → Int32) (H : Heap) (locs : List Loc) (ls : Array Slot), (x38.toInt + 1 : Int) < n37 → (-1) ≤ x38.toInt → x38.toInt ≤ 349 → x38.toInt < (σ39 31 8).toInt → (σ39 31 9).toInt = A2 → (σ39 31 10).toInt = A3 → 0 ≤ (σ39 31 12).toInt ∧ (σ39 31 12).toInt ≤ 1 → (((σ39 31 11).toInt = 0 ∧ (σ39 16 1).toInt - A3 ≤ 0) ∨ ((σ39 31 11).toInt = (σ39 16 1).toInt - A3 ∧ 0 ≤ (σ39 16 1).toInt - A3 ∧ (σ39 16 1).toInt - A3 ≤ 8) ∨ ((σ39 31 11).toInt = 8 ∧ 8 ≤ (σ39 16 1).toInt - A3)) → (∀ i : Nat, (i < 24 ∨ 25 < i) ∧ (i < 29 ∨ 30 < i) ∧ (i < 34 ∨ 35 < i) → σ39 i = σ12 i) → jN67 σ39 → jBl σ39 → jNz σ39 → jI31 σ39 → ((jqSp σ σ39 17 a2 (A4) (A5) → jqSr σ σ39 17 (A4) ((x38 : Int32).toInt + 1))) → jH D cI cL ad σ39 τ H → va_S (jA ad) s.heap H locs → lv_has ls 7 [(6, .int x38), (0, .ref (ad 31)), (1, .ref (ad 17)), (2, .int a2), (3, .int a3), (4, .int a4), (5, .int a5)] → W p l e ({ frames := 4, cells := 0, slots := 0, locals := 113 }) s m args below meth c H locs 0 0 Q (F0 m 14 ls []) := by
      intro n37
      induction n37 with
      | zero => intro x38 σ39 H locs ls h45 h46 h47 h48 h49 h50 h51 h52; exact absurd h45 (by omega)
      | succ n37 ihlp36 =>
        intro x38 σ39 H locs ls h45 h46 h47 h48 h49 h50 h51 h52 f53 p54 p55 p56 p57 q58 hP hS hl
        exact by
         obtain ⟨i59, i60, i61, i62, w63, w64, w65⟩ : (0 ≤ (σ39 31 8).toInt ∧ (σ39 31 8).toInt ≤ 350) ∧ (0 ≤ (σ39 31 10).toInt ∧ (σ39 31 10).toInt ≤ 12) ∧ (0 ≤ (σ39 31 11).toInt ∧ (σ39 31 11).toInt ≤ 8) ∧ ((σ39 31 10).toInt + (σ39 31 11).toInt ≤ 12) ∧ (∀ k : Nat, k < 1400 → (-1) ≤ (σ39 33 k).toInt ∧ (σ39 33 k).toInt ≤ 350) ∧ (∀ k : Nat, k < 3159 → (-1) ≤ (σ39 35 k).toInt ∧ (σ39 35 k).toInt ≤ 3) ∧ (∀ k : Nat, k < 1024 → 0 ≤ (σ39 36 k).toInt ∧ (σ39 36 k).toInt ≤ 349) := id p57
         have z66 : (σ39 31 8).toInt = (σ12 31 8).toInt := (congrArg Int32.toInt (show σ39 31 8 = (σ12 31 8) from (congrFun (f53 31 (of_decide_eq_true rfl)) 8)))
         have z67 : (σ39 31 10).toInt = (σ12 31 10).toInt := (congrArg Int32.toInt (show σ39 31 10 = (σ12 31 10) from (congrFun (f53 31 (of_decide_eq_true rfl)) 10)))
         have z68 : (σ39 31 11).toInt = (σ12 31 11).toInt := (congrArg Int32.toInt (show σ39 31 11 = (σ12 31 11) from (congrFun (f53 31 (of_decide_eq_true rfl)) 11)))
         have z69 : (σ39 31 9).toInt = (σ12 31 9).toInt := (congrArg Int32.toInt (show σ39 31 9 = (σ12 31 9) from (congrFun (f53 31 (of_decide_eq_true rfl)) 9)))
         have z70 : (σ39 16 1).toInt = (σ 16 1).toInt := (congrArg Int32.toInt (show σ39 16 1 = (σ 16 1) from ((congrFun (f53 16 (of_decide_eq_true rfl)) 1).trans (congrFun (f14 16 (of_decide_eq_true rfl)) 1))))
         have z71 : (σ39 31 12).toInt = (σ12 31 12).toInt := (congrArg Int32.toInt (show σ39 31 12 = (σ12 31 12) from (congrFun (f53 31 (of_decide_eq_true rfl)) 12)))
         refine lv_iload hx hb dX1_seekFor_14 (lv_at hl 0 rfl) ?_
         refine lv_if_lt (tgt := 36) hx hb dX1_seekFor_16 (of_decide_eq_true rfl) (fun c72 => ?_) (fun c72 => ?_)
         · have kc72 := jlt c72 rfl jz_0
           have p73 : jKb σ39 := jKb.fr (congrFun (f53 31 (of_decide_eq_true rfl)) 8) (congrFun (f53 31 (of_decide_eq_true rfl)) 11) (f53 32 (of_decide_eq_true rfl)) p17
           have p74 : jKh σ39 := jKh.fr (congrFun (f53 31 (of_decide_eq_true rfl)) 8) (f53 32 (of_decide_eq_true rfl)) (f53 36 (of_decide_eq_true rfl)) (f53 37 (of_decide_eq_true rfl)) p18
           have p75 : jKg σ39 := jKg.fr (congrFun (f53 31 (of_decide_eq_true rfl)) 8) (congrFun (f53 31 (of_decide_eq_true rfl)) 9) (congrFun (f53 31 (of_decide_eq_true rfl)) 11) (congrFun (f53 31 (of_decide_eq_true rfl)) 12) (f53 32 (of_decide_eq_true rfl)) (f53 33 (of_decide_eq_true rfl)) p19
           exact by exact hret σ39 τ _ _ _ _ ⟨rfl, (fun i hi => ((f53 i (imp_101 i hi)).trans (f14 i (imp_102 i hi)))), (fun i hi => ((congrFun (f53 31 (of_decide_eq_true rfl)) i).trans (f15 i hi))), p57, p54, p55, p73, p74, p75, p56, ⟨(fun z => by have w := q58 z; rw [show (x38 : Int32).toInt + 1 = 0 from by omega] at w; exact w), (by rw [show σ39 31 12 = σ12 31 12 from (congrFun (f53 31 (of_decide_eq_true rfl)) 12)]; exact w20)⟩, (by omega), (by omega), (by omega), (by omega), trivial⟩ hP hS dX1_seekFor_36
         · have kc72 := jnlt c72 rfl jz_0
           refine lv_aload_n hx hb dX1_seekFor_19 rfl (lv_at hl 1 rfl) ?_
           refine lv_iload hx hb dX1_seekFor_20 (lv_at hl 0 rfl) ?_
           refine lv_aload_n hx hb dX1_seekFor_22 rfl (lv_at hl 2 rfl) ?_
           refine lv_iload hx hb dX1_seekFor_23 (lv_at hl 5 rfl) ?_
           refine lv_iload hx hb dX1_seekFor_25 (lv_at hl 6 rfl) ?_
           have I76 : jI16 σ39 := jI16_fr ((congrFun (f53 16 (of_decide_eq_true rfl)) 0).trans (congrFun (f14 16 (of_decide_eq_true rfl)) 0)) ((congrFun (f53 16 (of_decide_eq_true rfl)) 1).trans (congrFun (f14 16 (of_decide_eq_true rfl)) 1)) ((congrFun (f53 16 (of_decide_eq_true rfl)) 2).trans (congrFun (f14 16 (of_decide_eq_true rfl)) 2)) ((f53 17 (of_decide_eq_true rfl)).trans (f14 17 (of_decide_eq_true rfl))) hI16
           have I77 : jI22 σ39 := jI22_fr ((congrFun (f53 22 (of_decide_eq_true rfl)) 0).trans (congrFun (f14 22 (of_decide_eq_true rfl)) 0)) ((f53 23 (of_decide_eq_true rfl)).trans (f14 23 (of_decide_eq_true rfl))) hI22
           have I78 : jI26 σ39 := jI26_fr ((congrFun (f53 26 (of_decide_eq_true rfl)) 6).trans (congrFun (f14 26 (of_decide_eq_true rfl)) 6)) hI26
           have p79 : jKb σ39 := jKb.fr (congrFun (f53 31 (of_decide_eq_true rfl)) 8) (congrFun (f53 31 (of_decide_eq_true rfl)) 11) (f53 32 (of_decide_eq_true rfl)) p17
           have p80 : jKg σ39 := jKg.fr (congrFun (f53 31 (of_decide_eq_true rfl)) 8) (congrFun (f53 31 (of_decide_eq_true rfl)) 9) (congrFun (f53 31 (of_decide_eq_true rfl)) 11) (congrFun (f53 31 (of_decide_eq_true rfl)) 12) (f53 32 (of_decide_eq_true rfl)) (f53 33 (of_decide_eq_true rfl)) p19
           exact by
            refine jcallVv (As := [.int x38, .ref (ad 17), .int a4, .int a5]) (rest := []) ⟨hx, hb, hml, hown, hts⟩ hK hP hA hS hZ (c_X1_judge_31 l D cI cL ad zz hJ σ39 τ x38 (x38.toInt) rfl a4 (A4) t4 a5 (A5) t5 I76 I77 p57 I78 p54 p55 p79 p80 p56 (by omega) (by omega) (by omega)) cw_RX1_61 (jc_31 cI cL ad σ39 τ) rfl ⟨Nat.le_of_ble_eq_true rfl, Nat.le_of_ble_eq_true rfl⟩ rfl rfl rfl hl.1 rfl (Nat.le_of_ble_eq_true rfl) dX1_seekFor_27 ⟨Nat.zero_le _, Nat.zero_le _⟩ (fun σ81 τ81 H locs h81 hP hS => ?_)
            obtain ⟨rfl, f83, I84, p85, p86, p87, p88, p89, w90, h81⟩ := h81
            obtain ⟨i92, i93, i94, i95, w96, w97, w98⟩ : (0 ≤ (σ81 31 8).toInt ∧ (σ81 31 8).toInt ≤ 350) ∧ (0 ≤ (σ81 31 10).toInt ∧ (σ81 31 10).toInt ≤ 12) ∧ (0 ≤ (σ81 31 11).toInt ∧ (σ81 31 11).toInt ≤ 8) ∧ ((σ81 31 10).toInt + (σ81 31 11).toInt ≤ 12) ∧ (∀ k : Nat, k < 1400 → (-1) ≤ (σ81 33 k).toInt ∧ (σ81 33 k).toInt ≤ 350) ∧ (∀ k : Nat, k < 3159 → (-1) ≤ (σ81 35 k).toInt ∧ (σ81 35 k).toInt ≤ 3) ∧ (∀ k : Nat, k < 1024 → 0 ≤ (σ81 36 k).toInt ∧ (σ81 36 k).toInt ≤ 349) := id I84
            have z99 : (σ81 31 8).toInt = (σ12 31 8).toInt := (congrArg Int32.toInt (show σ81 31 8 = (σ12 31 8) from ((congrFun (f83 31 (of_decide_eq_true rfl)) 8).trans (congrFun (f53 31 (of_decide_eq_true rfl)) 8))))
            have z100 : (σ81 31 10).toInt = (σ12 31 10).toInt := (congrArg Int32.toInt (show σ81 31 10 = (σ12 31 10) from ((congrFun (f83 31 (of_decide_eq_true rfl)) 10).trans (congrFun (f53 31 (of_decide_eq_true rfl)) 10))))
            have z101 : (σ81 31 11).toInt = (σ12 31 11).toInt := (congrArg Int32.toInt (show σ81 31 11 = (σ12 31 11) from ((congrFun (f83 31 (of_decide_eq_true rfl)) 11).trans (congrFun (f53 31 (of_decide_eq_true rfl)) 11))))
            obtain ⟨x102, ex102⟩ : ∃ y : Int32, y = x38 + (-1) := ⟨_, rfl⟩
            have tx102 : x102.toInt = x38.toInt - 1 := (jadd ex102 rfl jz_m1 (by omega) (by omega)).trans (by omega)
            refine lv_iinc (v := x102) (lv' := [(6, .int x102), (0, .ref (ad 31)), (1, .ref (ad 17)), (2, .int a2), (3, .int a3), (4, .int a4), (5, .int a5)]) hx hb dX1_seekFor_30 hl (k := 0) rfl (by rw [ex102]; rfl) (of_decide_eq_true rfl) rfl (fun ls hl => ?_)
            exact by
             refine lv_goto (tgt := 14) hx hb dX1_seekFor_33 (of_decide_eq_true rfl) ?_
             have z103 : (σ81 31 9).toInt = (σ12 31 9).toInt := (congrArg Int32.toInt (show σ81 31 9 = (σ12 31 9) from ((congrFun (f83 31 (of_decide_eq_true rfl)) 9).trans (congrFun (f53 31 (of_decide_eq_true rfl)) 9))))
             have z104 : (σ81 16 1).toInt = (σ 16 1).toInt := (congrArg Int32.toInt (show σ81 16 1 = (σ 16 1) from ((congrFun (f83 16 (of_decide_eq_true rfl)) 1).trans ((congrFun (f53 16 (of_decide_eq_true rfl)) 1).trans (congrFun (f14 16 (of_decide_eq_true rfl)) 1)))))
             have z105 : (σ81 31 12).toInt = (σ12 31 12).toInt := (congrArg Int32.toInt (show σ81 31 12 = (σ12 31 12) from ((congrFun (f83 31 (of_decide_eq_true rfl)) 12).trans (congrFun (f53 31 (of_decide_eq_true rfl)) 12))))
             have z106 : (σ39 16 0).toInt = (σ 16 0).toInt := (congrArg Int32.toInt (show σ39 16 0 = (σ 16 0) from ((congrFun (f53 16 (of_decide_eq_true rfl)) 0).trans (congrFun (f14 16 (of_decide_eq_true rfl)) 0))))
             exact by exact ihlp36 x102 σ81 _ _ ls (by have h90 := tx102; omega) (by have h90 := tx102; omega) (by have h90 := tx102; omega) (by have h90 := tx102; omega) (by have h90 := tx102; omega) (by have h90 := tx102; omega) (by have h90 := tx102; omega) (by have h90 := tx102; omega) (fun i hi => ((f83 i hi).trans (f53 i hi)))   p85 p86 p89 I84 (jqSr.step (i := (x38 : Int32).toInt) q58 w90 ((f53 27 (of_decide_eq_true rfl)).trans (f14 27 (of_decide_eq_true rfl))) ((f53 28 (of_decide_eq_true rfl)).trans (f14 28 (of_decide_eq_true rfl))) ((f53 23 (of_decide_eq_true rfl)).trans (f14 23 (of_decide_eq_true rfl))) ((congrFun (f53 22 (of_decide_eq_true rfl)) 0).trans (congrFun (f14 22 (of_decide_eq_true rfl)) 0)) ((f53 17 (of_decide_eq_true rfl)).trans (f14 17 (of_decide_eq_true rfl))) ((congrFun (f53 16 (of_decide_eq_true rfl)) 0).trans (congrFun (f14 16 (of_decide_eq_true rfl)) 0)) ((congrFun (f53 16 (of_decide_eq_true rfl)) 2).trans (congrFun (f14 16 (of_decide_eq_true rfl)) 2)) (congrFun (f83 31 (of_decide_eq_true rfl)) 8) (congrFun (f83 31 (of_decide_eq_true rfl)) 10) (congrFun (f83 31 (of_decide_eq_true rfl)) 11) (f83 32 (of_decide_eq_true rfl)) (show σ39 31 9 = a2 from Int32.toInt_inj.mp (by omega)) p56 hs_jBl.1 (by rw [show σ39 31 12 = σ12 31 12 from (congrFun (f53 31 (of_decide_eq_true rfl)) 12)]; exact w20) (by omega) (by omega) (by omega) (by omega) (by omega) |> fun f z => by have w := f z; rw [show (x102 : Int32).toInt + 1 = (x38 : Int32).toInt from by have h9 := tx102; omega]; exact w) hP hS (lv_sub hl [0, 1, 2, 3, 4, 5, 6] rfl)
    exact by exact lp36 1000000 x35 σ12 _ _ ls (by have h90 := tx35; omega) (by have h90 := tx35; omega) (by have h90 := tx35; omega) (by have h90 := tx35; omega) (by have h90 := tx35; omega) (by have h90 := tx35; omega) (by have h90 := tx35; omega) (by have h90 := tx35; omega) (fun _ _ => rfl)  p42 p43 p44 I16 (fun _ => jqSr.first (f14 34 (of_decide_eq_true rfl)) (f14 35 (of_decide_eq_true rfl)) (by have h9 := tx35; omega)) hP hS hl
set_option maxHeartbeats 4000000 in
set_option maxRecDepth 100000 in
theorem c_X1_judge_31_v1 (l : Launch) (D : va_G) (cI cL : ClassId) (ad zz : Nat → Nat) (hJ : jD ad) (σ : Nat → Nat → Int32) (τ : Nat → Nat → Int64) (a1 : Int32) (A1 : Int) (t1 : a1.toInt = A1) (a3 : Int32) (A3 : Int) (t3 : a3.toInt = A3) (a4 : Int32) (A4 : Int) (t4 : a4.toInt = A4) (hI16 : jI16 σ) (hI22 : jI22 σ) (hI31 : jI31 σ) (hI0 : jI0 σ) (hI26 : jI26 σ) (hs_jN67 : jN67 σ) (hs_jBl : jBl σ) (hs_jKb : jKb σ) (hs_jKg : jKg σ) (hs_jNz : jNz σ) (hp0 : 0 ≤ A1 ∧ A1 ≤ 349) (hp1 : A1 < (σ 31 8).toInt) (hp2 : 0 ≤ A3 ∧ A3 ≤ 12) : jMv l yX1_judge cX1_judge 18 none ({ frames := 3, cells := 0, slots := 0, locals := 76 }) D cI cL ad zz [.ref (ad 31), .int a1, .ref (ad 1), .int a3, .int a4] σ τ (fun σ' τ' => τ = τ' ∧ (∀ i : Nat, (i < 24 ∨ 25 < i) ∧ (i < 29 ∨ 30 < i) ∧ (i < 34 ∨ 35 < i) → σ' i = σ i) ∧ (jI31 σ') ∧ (jN67 σ') ∧ (jBl σ') ∧ (jKb σ') ∧ (jKg σ') ∧ (jNz σ') ∧ (jqJr σ σ' 1 (A1) (A3) (A4)) ∧ True) := by
  refine jMv.of hJ (by decide +kernel) rfl (Nat.le_of_ble_eq_true rfl) ?_
  intro p e s m args below meth c Q ls hC hret hl hP
  obtain ⟨hx, hb, hr, hml, hown, hts, hK, -, hlocks, hZ⟩ := hC
  have hown : s.vm.findClass RX1 = some m.cls := hown
  have hS : va_S (jA ad) s.heap s.heap [] := va_S.rf
  have hA : ∀ q, jA ad q → jA ad q := fun _ h => h
  have hl : lv_has ls 18 [(0, .ref (ad 31)), (1, .int a1), (2, .ref (ad 1)), (3, .int a3), (4, .int a4)] := hl
  have g1 := jrg t1
  have g3 := jrg t3
  have g4 := jrg t4
  obtain ⟨i1, i2, i3, w4⟩ : (1 ≤ (σ 16 0).toInt ∧ (σ 16 0).toInt ≤ 8) ∧ (1 ≤ (σ 16 1).toInt ∧ (σ 16 1).toInt ≤ 12) ∧ (0 ≤ (σ 16 2).toInt ∧ (σ 16 2).toInt ≤ 999) ∧ (∀ k : Nat, k < 8 → 0 ≤ (σ 17 k).toInt ∧ (σ 17 k).toInt ≤ 3) := id hI16
  obtain ⟨i5, i6, i7, i8, w9, w10, w11⟩ : (0 ≤ (σ 31 8).toInt ∧ (σ 31 8).toInt ≤ 350) ∧ (0 ≤ (σ 31 10).toInt ∧ (σ 31 10).toInt ≤ 12) ∧ (0 ≤ (σ 31 11).toInt ∧ (σ 31 11).toInt ≤ 8) ∧ ((σ 31 10).toInt + (σ 31 11).toInt ≤ 12) ∧ (∀ k : Nat, k < 1400 → (-1) ≤ (σ 33 k).toInt ∧ (σ 33 k).toInt ≤ 350) ∧ (∀ k : Nat, k < 3159 → (-1) ≤ (σ 35 k).toInt ∧ (σ 35 k).toInt ≤ 3) ∧ (∀ k : Nat, k < 1024 → 0 ≤ (σ 36 k).toInt ∧ (σ 36 k).toInt ≤ 349) := id hI31
  have w12 : ∀ k : Nat, k < 8 → 0 ≤ (σ 1 k).toInt ∧ (σ 1 k).toInt ≤ 3 := hI0
  refine lv_aload_n hx hb dX1_judge_0 rfl (lv_at hl 0 rfl) ?_
  refine va_get (D := D) hx hb hts inlX1 hown hK hP 31 (jc_31 cI cL ad σ τ) rfl 2 (of_decide_eq_true rfl) (hts _ kw_5_3) (fun _ h9 => h9) rfl dX1_judge_1 ?_
  refine lv_iload_n hx hb dX1_judge_4 rfl (lv_at hl 1 rfl) ?_
  exact by
   refine jald hx hb hK hP (jc_32 cI cL ad σ τ) (jin t1 (by omega) (by omega)) dX1_judge_5 ?_
   refine jtopr (y := (σ 32 a1.toNatClampNeg)) rfl ?_
   refine lv_ldc (v := 134217727) hx hb hown (hts _ kw_28_10) dX1_judge_6 ?_
   refine lv_iand hx hb dX1_judge_8 ?_
   refine lv_topi (fun x13 ex13 => ?_)
   have gx13 := jrg (rfl : x13.toInt = x13.toInt)
   have g14 : 0 ≤ x13.toInt ∧ x13.toInt ≤ 134217727 := jmask ex13 27 (of_decide_eq_true rfl) (of_decide_eq_true rfl)
   refine lv_istore (lv' := [(5, .int x13), (0, .ref (ad 31)), (1, .int a1), (2, .ref (ad 1)), (3, .int a3), (4, .int a4)]) hx hb dX1_judge_9 hl (of_decide_eq_true rfl) rfl (fun ls hl => ?_)
   refine lv_aload_n hx hb dX1_judge_11 rfl (lv_at hl 1 rfl) ?_
   refine va_get (D := D) hx hb hts inlX1 hown hK hP 31 (jc_31 cI cL ad σ τ) rfl 2 (of_decide_eq_true rfl) (hts _ kw_5_3) (fun _ h9 => h9) rfl dX1_judge_12 ?_
   refine lv_iload_n hx hb dX1_judge_15 rfl (lv_at hl 2 rfl) ?_
   exact by
    refine jald hx hb hK hP (jc_32 cI cL ad σ τ) (jin t1 (by omega) (by omega)) dX1_judge_16 ?_
    refine jtopr (y := (σ 32 a1.toNatClampNeg)) rfl ?_
    refine lv_bipush (v := 27) hx hb dX1_judge_17 (of_decide_eq_true rfl) ?_
    refine lv_ishr hx hb dX1_judge_19 ?_
    refine lv_topi (fun x15 ex15 => ?_)
    have gx15 := jrg (rfl : x15.toInt = x15.toInt)
    have k16 := jshr27 (x := x15) (k := (σ 32 a1.toNatClampNeg)) (by rw [ex15])
    have k17 := hs_jKb a1.toNatClampNeg (by rw [jnc t1]; omega)
    refine lv_istore (lv' := [(6, .int x15), (5, .int x13), (0, .ref (ad 31)), (1, .int a1), (2, .ref (ad 1)), (3, .int a3), (4, .int a4)]) hx hb dX1_judge_20 hl (of_decide_eq_true rfl) rfl (fun ls hl => ?_)
    exact by
     have k18 : jqNo (σ 32 (A1).toNat) x13 (x15 : Int32).toInt := ⟨(by have w := jandm (x := (σ 32 a1.toNatClampNeg)) (y := x13) (m := 134217727) (k := 27) (M := 134217728) (by rw [ex13]) rfl rfl (of_decide_eq_true rfl); rw [jnc t1] at *; omega), ⟨by omega, by omega⟩, (by omega)⟩
     refine lv_iload_n hx hb dX1_judge_22 rfl (lv_at hl 3 rfl) ?_
     refine lv_bipush (v := 9) hx hb dX1_judge_23 (of_decide_eq_true rfl) ?_
     refine lv_imul hx hb dX1_judge_25 ?_
     refine lv_topi (fun x19 ex19 => ?_)
     have tx19 : x19.toInt = 9 * A1 := (jmul ex19 t1 jz_9 (by omega) (by omega)).trans (by omega)
     refine lv_istore (lv' := [(7, .int x19), (6, .int x15), (5, .int x13), (0, .ref (ad 31)), (1, .int a1), (2, .ref (ad 1)), (3, .int a3), (4, .int a4)]) hx hb dX1_judge_26 hl (of_decide_eq_true rfl) rfl (fun ls hl => ?_)
     have lp20 : ∀ (x22 : Int32) (x23 : Int32) (H : Heap) (locs : List Loc) (ls : Array Slot), 0 ≤ x22.toInt → x22.toInt ≤ 12 → x23.toInt ≤ 7 → x22.toInt = A3 → x23.toInt ≤ A4 → x23.toInt ≤ A3 + x15.toInt + 1 → ((x23.toInt = A4) ∨ (x23.toInt = 7) ∨ (x23.toInt = A3 + x15.toInt + 1)) → jH D cI cL ad σ τ H → va_S (jA ad) s.heap H locs → lv_has ls 18 [(7, .int x19), (6, .int x15), (5, .int x13), (0, .ref (ad 31)), (1, .int a1), (2, .ref (ad 1)), (3, .int a3), (4, .int a4), (8, .int x22), (9, .int x23)] → W p l e ({ frames := 3, cells := 0, slots := 0, locals := 76 }) s m args below meth c H locs 0 0 Q (F0 m 55 ls []) := by
       intro x22 x23 H locs ls h25 h26 h27 h28 h29 h30 h31 hP hS hl
       exact by
        have gx23 := jrg (rfl : x23.toInt = x23.toInt)
        refine lv_iload hx hb dX1_judge_55 (lv_at hl 8 rfl) ?_
        refine lv_istore (lv' := [(10, .int x22), (7, .int x19), (6, .int x15), (5, .int x13), (0, .ref (ad 31)), (1, .int a1), (2, .ref (ad 1)), (3, .int a3), (4, .int a4), (8, .int x22), (9, .int x23)]) hx hb dX1_judge_57 hl (of_decide_eq_true rfl) rfl (fun ls hl => ?_)
        have lp33 : ∀ (n34 : Nat) (x35 : Int32) (σ36 : Nat → Nat → Int32) (H : Heap) (locs : List Loc) (ls : Array Slot), (-x35.toInt + 20 : Int) < n34 → 0 ≤ x35.toInt → x35.toInt ≤ 12 → ((x35.toInt ≤ x23.toInt + 1) ∨ (x35.toInt ≤ x22.toInt)) → x22.toInt ≤ x35.toInt → (∀ i : Nat, (i < 34 ∨ 35 < i) → σ36 i = σ i) → jNz σ36 → jI31 σ36 → (jqJi (σ 34) (σ 35) (σ36 34) (σ36 35) (((A1).toNat : Nat) : Int) (x22 : Int32).toInt (x35 : Int32).toInt) → jH D cI cL ad σ36 τ H → va_S (jA ad) s.heap H locs → lv_has ls 18 [(10, .int x35), (7, .int x19), (6, .int x15), (5, .int x13), (0, .ref (ad 31)), (1, .int a1), (2, .ref (ad 1)), (3, .int a3), (4, .int a4), (8, .int x22), (9, .int x23)] → W p l e ({ frames := 3, cells := 0, slots := 0, locals := 76 }) s m args below meth c H locs 0 0 Q (F0 m 59 ls []) := by
          intro n34
          induction n34 with
          | zero => intro x35 σ36 H locs ls h38 h39 h40 h41 h42; exact absurd h38 (by omega)
          | succ n34 ihlp33 =>
            intro x35 σ36 H locs ls h38 h39 h40 h41 h42 f43 p44 p45 q46 hP hS hl
            exact by
             obtain ⟨i47, i48, i49, i50, w51, w52, w53⟩ : (0 ≤ (σ36 31 8).toInt ∧ (σ36 31 8).toInt ≤ 350) ∧ (0 ≤ (σ36 31 10).toInt ∧ (σ36 31 10).toInt ≤ 12) ∧ (0 ≤ (σ36 31 11).toInt ∧ (σ36 31 11).toInt ≤ 8) ∧ ((σ36 31 10).toInt + (σ36 31 11).toInt ≤ 12) ∧ (∀ k : Nat, k < 1400 → (-1) ≤ (σ36 33 k).toInt ∧ (σ36 33 k).toInt ≤ 350) ∧ (∀ k : Nat, k < 3159 → (-1) ≤ (σ36 35 k).toInt ∧ (σ36 35 k).toInt ≤ 3) ∧ (∀ k : Nat, k < 1024 → 0 ≤ (σ36 36 k).toInt ∧ (σ36 36 k).toInt ≤ 349) := id p45
             have z54 : (σ36 31 8).toInt = (σ 31 8).toInt := (congrArg Int32.toInt (show σ36 31 8 = (σ 31 8) from (congrFun (f43 31 (of_decide_eq_true rfl)) 8)))
             have z55 : (σ36 31 10).toInt = (σ 31 10).toInt := (congrArg Int32.toInt (show σ36 31 10 = (σ 31 10) from (congrFun (f43 31 (of_decide_eq_true rfl)) 10)))
             have z56 : (σ36 31 11).toInt = (σ 31 11).toInt := (congrArg Int32.toInt (show σ36 31 11 = (σ 31 11) from (congrFun (f43 31 (of_decide_eq_true rfl)) 11)))
             refine lv_iload hx hb dX1_judge_59 (lv_at hl 0 rfl) ?_
             refine lv_iload hx hb dX1_judge_61 (lv_at hl 10 rfl) ?_
             refine lv_icmp_gt (tgt := 94) hx hb dX1_judge_63 (of_decide_eq_true rfl) (fun c57 => ?_) (fun c57 => ?_)
             · have kc57 := jlt c57 rfl rfl
               refine lv_aload_n hx hb dX1_judge_94 rfl (lv_at hl 4 rfl) ?_
               refine va_get (D := D) hx hb hts inlX1 hown hK hP 31 (jc_31 cI cL ad σ36 τ) rfl 4 (of_decide_eq_true rfl) (hts _ kw_5_5) (fun _ h9 => h9) rfl dX1_judge_95 ?_
               refine lv_iload hx hb dX1_judge_98 (lv_at hl 1 rfl) ?_
               refine lv_aload_n hx hb dX1_judge_100 rfl (lv_at hl 4 rfl) ?_
               refine va_get (D := D) hx hb hts inlX1 hown hK hP 31 (jc_31 cI cL ad σ36 τ) rfl 1 (of_decide_eq_true rfl) (hts _ kw_5_11) (fun _ h9 => h9) rfl dX1_judge_101 ?_
               refine va_get (D := D) hx hb hts inlX6 hown hK hP 16 (jc_16 cI cL ad σ36 τ) rfl 0 (of_decide_eq_true rfl) (hts _ kw_27_17) (fun _ h9 => h9) rfl dX1_judge_104 ?_
               have m58 : σ36 16 0 = (σ 16 0) := (congrFun (f43 16 (of_decide_eq_true rfl)) 0)
               refine jtopr m58 ?_
               have g59 := jrg (rfl : (σ 16 0).toInt = (σ 16 0).toInt)
               refine lv_iadd hx hb dX1_judge_107 ?_
               refine lv_topi (fun x60 ex60 => ?_)
               exact by
                have tx60 : x60.toInt = 9 * A1 + (σ 16 0).toInt := (jadd ex60 tx19 rfl (by omega) (by omega)).trans (by omega)
                refine lv_iconst (v := 0) hx hb dX1_judge_108 (of_decide_eq_true rfl) ?_
                refine jast hx hb hK hP hJ hA hS (jc_34 cI cL ad σ36 τ) (ja_34 cI cL ad σ36 τ _ _) (jin tx60 (by omega) (by omega)) dX1_judge_109 (fun σ61 H locs eσ61 hP hS => ?_)
                have p62 : jNz σ61 := (jNz.put p44 eσ61 (jnat (x := x60) tx60 (n := 3150) (by omega) (of_decide_eq_true rfl)))
                refine lv_iconst (v := 0) hx hb dX1_judge_110 (of_decide_eq_true rfl) ?_
                refine lv_istore (lv' := [(10, .int 0), (7, .int x19), (6, .int x15), (5, .int x13), (0, .ref (ad 31)), (1, .int a1), (2, .ref (ad 1)), (3, .int a3), (4, .int a4), (8, .int x22), (9, .int x23)]) hx hb dX1_judge_111 hl (of_decide_eq_true rfl) rfl (fun ls hl => ?_)
                have I74 : jI31 σ61 := jI31_fr (congrFun (jnp 31 eσ61 (of_decide_eq_true rfl)) 8) (congrFun (jnp 31 eσ61 (of_decide_eq_true rfl)) 10) (congrFun (jnp 31 eσ61 (of_decide_eq_true rfl)) 11) (jnp 33 eσ61 (of_decide_eq_true rfl)) (jnp 35 eσ61 (of_decide_eq_true rfl)) (jnp 36 eσ61 (of_decide_eq_true rfl)) p45
                have p76 : jN67 σ61 := jN67.fr ((jnp 24 eσ61 (of_decide_eq_true rfl)).trans (f43 24 (of_decide_eq_true rfl))) hs_jN67
                have p77 : jBl σ61 := jBl.fr ((congrFun (jnp 22 eσ61 (of_decide_eq_true rfl)) 0).trans (congrFun (f43 22 (of_decide_eq_true rfl)) 0)) ((congrFun (jnp 22 eσ61 (of_decide_eq_true rfl)) 1).trans (congrFun (f43 22 (of_decide_eq_true rfl)) 1)) ((jnp 23 eσ61 (of_decide_eq_true rfl)).trans (f43 23 (of_decide_eq_true rfl))) ((congrFun (jnp 26 eσ61 (of_decide_eq_true rfl)) 6).trans (congrFun (f43 26 (of_decide_eq_true rfl)) 6)) ((congrFun (jnp 26 eσ61 (of_decide_eq_true rfl)) 7).trans (congrFun (f43 26 (of_decide_eq_true rfl)) 7)) ((jnp 29 eσ61 (of_decide_eq_true rfl)).trans (f43 29 (of_decide_eq_true rfl))) ((jnp 30 eσ61 (of_decide_eq_true rfl)).trans (f43 30 (of_decide_eq_true rfl))) hs_jBl
                exact by
                 have z78 : (σ61 16 0).toInt = (σ 16 0).toInt := (congrArg Int32.toInt (show σ61 16 0 = (σ 16 0) from ((congrFun (jnp 16 eσ61 (of_decide_eq_true rfl)) 0).trans m58)))
                 have lp63 : ∀ (n64 : Nat) (x65 : Int32) (σ73 : Nat → Nat → Int32) (H : Heap) (locs : List Loc) (ls : Array Slot), (-x65.toInt + 4 : Int) < n64 → 0 ≤ x65.toInt → x65.toInt ≤ 4 → (∀ i : Nat, (i < 24 ∨ 25 < i) ∧ (i < 29 ∨ 30 < i) ∧ (i < 34 ∨ 35 < i) → σ73 i = σ61 i) → jN67 σ73 → jBl σ73 → jNz σ73 → jI31 σ73 → (jqPr σ 1 (A1).toNat (A3) (A4) → jqJd (σ 34) (σ 35) (σ73 34) (σ73 35) (((A1).toNat : Nat) : Int) (σ 16 0).toInt (x22 : Int32).toInt (x23 : Int32).toInt (fun z => jPk (jMy4 (jla x13) (jlf x13)) (jqG σ 1 x13 (x15 : Int32).toInt z) (x65 : Int32).toInt.toNat)) → jH D cI cL ad σ73 τ H → va_S (jA ad) s.heap H locs → lv_has ls 18 [(10, .int x65), (7, .int x19), (6, .int x15), (5, .int x13), (0, .ref (ad 31)), (1, .int a1), (2, .ref (ad 1)), (3, .int a3), (4, .int a4), (8, .int x22), (9, .int x23)] → W p l e ({ frames := 3, cells := 0, slots := 0, locals := 76 }) s m args below meth c H locs 0 0 Q (F0 m 113 ls []) := by
                   intro n64
                   induction n64 with
                   | zero => intro x65 σ73 H locs ls h79 h80 h81; exact absurd h79 (by omega)
                   | succ n64 ihlp63 =>
                     intro x65 σ73 H locs ls h79 h80 h81 f82 p83 p84 p85 p86 q87 hP hS hl
                     obtain ⟨i88, i89, i90, i91, w92, w93, w94⟩ : (0 ≤ (σ73 31 8).toInt ∧ (σ73 31 8).toInt ≤ 350) ∧ (0 ≤ (σ73 31 10).toInt ∧ (σ73 31 10).toInt ≤ 12) ∧ (0 ≤ (σ73 31 11).toInt ∧ (σ73 31 11).toInt ≤ 8) ∧ ((σ73 31 10).toInt + (σ73 31 11).toInt ≤ 12) ∧ (∀ k : Nat, k < 1400 → (-1) ≤ (σ73 33 k).toInt ∧ (σ73 33 k).toInt ≤ 350) ∧ (∀ k : Nat, k < 3159 → (-1) ≤ (σ73 35 k).toInt ∧ (σ73 35 k).toInt ≤ 3) ∧ (∀ k : Nat, k < 1024 → 0 ≤ (σ73 36 k).toInt ∧ (σ73 36 k).toInt ≤ 349) := id p86
                     have z95 : (σ73 31 8).toInt = (σ 31 8).toInt := (congrArg Int32.toInt (show σ73 31 8 = (σ 31 8) from ((congrFun (f82 31 (of_decide_eq_true rfl)) 8).trans ((congrFun (jnp 31 eσ61 (of_decide_eq_true rfl)) 8).trans (congrFun (f43 31 (of_decide_eq_true rfl)) 8)))))
                     exact by
                      have z96 : (σ73 31 10).toInt = (σ 31 10).toInt := (congrArg Int32.toInt (show σ73 31 10 = (σ 31 10) from ((congrFun (f82 31 (of_decide_eq_true rfl)) 10).trans ((congrFun (jnp 31 eσ61 (of_decide_eq_true rfl)) 10).trans (congrFun (f43 31 (of_decide_eq_true rfl)) 10)))))
                      have z97 : (σ73 31 11).toInt = (σ 31 11).toInt := (congrArg Int32.toInt (show σ73 31 11 = (σ 31 11) from ((congrFun (f82 31 (of_decide_eq_true rfl)) 11).trans ((congrFun (jnp 31 eσ61 (of_decide_eq_true rfl)) 11).trans (congrFun (f43 31 (of_decide_eq_true rfl)) 11)))))
                      refine lv_iload hx hb dX1_judge_113 (lv_at hl 0 rfl) ?_
                      refine lv_iconst (v := 4) hx hb dX1_judge_115 (of_decide_eq_true rfl) ?_
                      refine lv_icmp_ge (tgt := 316) hx hb dX1_judge_116 (of_decide_eq_true rfl) (fun c98 => ?_) (fun c98 => ?_)
                      · have kc98 := jle c98 jz_4 rfl
                        have p99 : jKb σ73 := jKb.fr ((congrFun (f82 31 (of_decide_eq_true rfl)) 8).trans ((congrFun (jnp 31 eσ61 (of_decide_eq_true rfl)) 8).trans (congrFun (f43 31 (of_decide_eq_true rfl)) 8))) ((congrFun (f82 31 (of_decide_eq_true rfl)) 11).trans ((congrFun (jnp 31 eσ61 (of_decide_eq_true rfl)) 11).trans (congrFun (f43 31 (of_decide_eq_true rfl)) 11))) ((f82 32 (of_decide_eq_true rfl)).trans ((jnp 32 eσ61 (of_decide_eq_true rfl)).trans (f43 32 (of_decide_eq_true rfl)))) hs_jKb
                        have p100 : jKg σ73 := jKg.fr ((congrFun (f82 31 (of_decide_eq_true rfl)) 8).trans ((congrFun (jnp 31 eσ61 (of_decide_eq_true rfl)) 8).trans (congrFun (f43 31 (of_decide_eq_true rfl)) 8))) ((congrFun (f82 31 (of_decide_eq_true rfl)) 9).trans ((congrFun (jnp 31 eσ61 (of_decide_eq_true rfl)) 9).trans (congrFun (f43 31 (of_decide_eq_true rfl)) 9))) ((congrFun (f82 31 (of_decide_eq_true rfl)) 11).trans ((congrFun (jnp 31 eσ61 (of_decide_eq_true rfl)) 11).trans (congrFun (f43 31 (of_decide_eq_true rfl)) 11))) ((congrFun (f82 31 (of_decide_eq_true rfl)) 12).trans ((congrFun (jnp 31 eσ61 (of_decide_eq_true rfl)) 12).trans (congrFun (f43 31 (of_decide_eq_true rfl)) 12))) ((f82 32 (of_decide_eq_true rfl)).trans ((jnp 32 eσ61 (of_decide_eq_true rfl)).trans (f43 32 (of_decide_eq_true rfl)))) ((f82 33 (of_decide_eq_true rfl)).trans ((jnp 33 eσ61 (of_decide_eq_true rfl)).trans (f43 33 (of_decide_eq_true rfl)))) hs_jKg
                        have z101 : (σ73 16 0).toInt = (σ 16 0).toInt := (congrArg Int32.toInt (show σ73 16 0 = (σ 16 0) from ((congrFun (f82 16 (of_decide_eq_true rfl)) 0).trans ((congrFun (jnp 16 eσ61 (of_decide_eq_true rfl)) 0).trans m58))))
                        have k102 : jqPr σ 1 (A1).toNat (A3) (A4) → jqAr (jChc σ) (jRnc σ) (fun y => (σ 1 y).toInt) (σ 16 0).toInt (σ 16 2).toInt (σ 31 11).toInt (σ 31 10).toInt (A3) (σ 31 8).toInt (σ 32) (σ73 34) (σ73 35) (A1) (jmx (A3)) ∧ ∀ k : Nat, (k : Int) < 9 * (A1) → σ73 35 k = σ 35 k ∧ σ73 34 k = σ 34 k := by
                          intro pr
                          have jd := q87 pr
                          have h7 := pr.2.1
                          have fe : (x22 : Int32).toInt = jmx (A3) := by unfold jmx; split <;> omega
                          exact by
                           have rt := jqJd.right (lo := jmx (A3)) (b := (x65 : Int32).toInt) (d := (x15 : Int32).toInt) (k := ((σ 31 11).toInt - ((x15 : Int32).toInt + 1)).toNat) jd (by omega) k18 (by omega) pr.2.2.2.2.2.2 (by omega) (by omega) (Or.inr trivial) (by omega)
                           refine ⟨?_, fun k hk => ?_⟩
                           · have a := jqAr.on jd rt pr.2.2.2.2.2.1 (by omega) (by omega) (by omega) (by omega); rw [show (((A1).toNat : Nat) : Int) = A1 by omega] at a; exact a
                           · have q := jd.2.1 k (by omega); exact ⟨q.1, q.2 (by omega)⟩
                        exact hret σ73 τ _ _ _ _ ⟨rfl, (fun i hi => ((f82 i hi).trans ((jnp i eσ61 (imp_95 i hi)).trans (f43 i (imp_96 i hi))))), p86, p83, p84, p99, p100, p85, (show jqJr σ σ73 1 (A1) (A3) (A4) from by unfold jqJr; exact k102), trivial⟩ hP hS dX1_judge_316
                      · have kc98 := jnle c98 jz_4 rfl
                        refine lv_aload_n hx hb dX1_judge_119 rfl (lv_at hl 4 rfl) ?_
                        refine va_get (D := D) hx hb hts inlX1 hown hK hP 31 (jc_31 cI cL ad σ73 τ) rfl 3 (of_decide_eq_true rfl) (hts _ kw_5_4) (fun _ h9 => h9) rfl dX1_judge_120 ?_
                        refine lv_iload_n hx hb dX1_judge_123 rfl (lv_at hl 5 rfl) ?_
                        exact by
                         refine lv_iconst (v := 4) hx hb dX1_judge_124 (of_decide_eq_true rfl) ?_
                         refine lv_imul hx hb dX1_judge_125 ?_
                         refine lv_topi (fun x103 ex103 => ?_)
                         have tx103 : x103.toInt = 4 * A1 := (jmul ex103 t1 jz_4 (by omega) (by omega)).trans (by omega)
                         refine lv_iload hx hb dX1_judge_126 (lv_at hl 0 rfl) ?_
                         have g104 := jrg (rfl : x65.toInt = x65.toInt)
                         refine lv_iadd hx hb dX1_judge_128 ?_
                         refine lv_topi (fun x105 ex105 => ?_)
                         have tx105 : x105.toInt = 4 * A1 + x65.toInt := (jadd ex105 tx103 rfl (by omega) (by omega)).trans (by omega)
                         exact by
                          refine jald hx hb hK hP (jc_33 cI cL ad σ73 τ) (jin tx105 (by omega) (by omega)) dX1_judge_129 ?_
                          have g106 := w92 _ (jnat (x := x105) tx105 (n := 1400) (by omega) (of_decide_eq_true rfl))
                          refine jtopr (y := (σ 33 x105.toNatClampNeg)) (by rw [f82 33 (of_decide_eq_true rfl), jnp 33 eσ61 (of_decide_eq_true rfl), f43 33 (of_decide_eq_true rfl)]) ?_
                          rw [f82 33 (of_decide_eq_true rfl), jnp 33 eσ61 (of_decide_eq_true rfl), f43 33 (of_decide_eq_true rfl)] at g106
                          refine lv_bipush (v := 9) hx hb dX1_judge_130 (of_decide_eq_true rfl) ?_
                          have g107 := jrg (rfl : (σ 33 x105.toNatClampNeg).toInt = (σ 33 x105.toNatClampNeg).toInt)
                          refine lv_imul hx hb dX1_judge_132 ?_
                          refine lv_topi (fun x108 ex108 => ?_)
                          have tx108 : x108.toInt = 9 * (σ 33 x105.toNatClampNeg).toInt := (jmul ex108 rfl jz_9 (by omega) (by omega)).trans (by omega)
                          exact by
                           refine lv_istore (lv' := [(11, .int x108), (10, .int x65), (7, .int x19), (6, .int x15), (5, .int x13), (0, .ref (ad 31)), (1, .int a1), (2, .ref (ad 1)), (3, .int a3), (4, .int a4), (8, .int x22), (9, .int x23)]) hx hb dX1_judge_133 hl (of_decide_eq_true rfl) rfl (fun ls hl => ?_)
                           refine lv_iload hx hb dX1_judge_135 (lv_at hl 0 rfl) ?_
                           refine lv_if_ge (tgt := 143) hx hb dX1_judge_137 (of_decide_eq_true rfl) (fun c109 => ?_) (fun c109 => ?_)
                           · have kc109 := jle c109 jz_0 tx108
                             refine lv_iload hx hb dX1_judge_143 (lv_at hl 4 rfl) ?_
                             refine lv_iload hx hb dX1_judge_145 (lv_at hl 1 rfl) ?_
                             refine jcallS (As := [.int x13, .int x65]) (rest := []) ⟨hx, hb, hml, hown, hts⟩ hK hP hA hS hZ (c_X0_steps l D cI cL ad zz hJ σ73 τ x13 (x13.toInt) rfl x65 (x65.toInt) rfl) cw_RX1_136 ⟨Nat.le_of_ble_eq_true rfl, Nat.le_of_ble_eq_true rfl⟩ rfl rfl rfl hl.1 rfl (Nat.le_of_ble_eq_true rfl) dX1_judge_147 ⟨Nat.zero_le _, Nat.zero_le _⟩ (fun r111 σ110 τ110 H locs h110 hP hS => ?_)
                             obtain ⟨⟨rfl, rfl⟩, w112, h110⟩ := h110
                             have k113 := congrArg Int32.toInt w112
                             have h114 := h110
                             obtain ⟨q116, k115⟩ := h114
                             refine lv_istore (lv' := [(12, .int r111), (11, .int x108), (10, .int x65), (7, .int x19), (6, .int x15), (5, .int x13), (0, .ref (ad 31)), (1, .int a1), (2, .ref (ad 1)), (3, .int a3), (4, .int a4), (8, .int x22), (9, .int x23)]) hx hb dX1_judge_150 hl (of_decide_eq_true rfl) rfl (fun ls hl => ?_)
                             refine lv_iload hx hb dX1_judge_152 (lv_at hl 5 rfl) ?_
                             refine lv_iload hx hb dX1_judge_154 (lv_at hl 2 rfl) ?_
                             refine jcallS (As := [.int x13, .int x65]) (rest := []) ⟨hx, hb, hml, hown, hts⟩ hK hP hA hS hZ (c_X0_left l D cI cL ad zz hJ σ73 τ x13 (x13.toInt) rfl x65 (x65.toInt) rfl) cw_RX1_123 ⟨Nat.le_of_ble_eq_true rfl, Nat.le_of_ble_eq_true rfl⟩ rfl rfl rfl hl.1 rfl (Nat.le_of_ble_eq_true rfl) dX1_judge_156 ⟨Nat.zero_le _, Nat.zero_le _⟩ (fun r118 σ117 τ117 H locs h117 hP hS => ?_)
                             obtain ⟨⟨rfl, rfl⟩, w119, h117⟩ := h117
                             have k120 := congrArg Int32.toInt w119
                             have h121 := h117
                             obtain ⟨q123, k122⟩ := h121
                             refine lv_istore (lv' := [(13, .int r118), (12, .int r111), (11, .int x108), (10, .int x65), (7, .int x19), (6, .int x15), (5, .int x13), (0, .ref (ad 31)), (1, .int a1), (2, .ref (ad 1)), (3, .int a3), (4, .int a4), (8, .int x22), (9, .int x23)]) hx hb dX1_judge_159 hl (of_decide_eq_true rfl) rfl (fun ls hl => ?_)
                             refine lv_iload hx hb dX1_judge_161 (lv_at hl 12 rfl) ?_
                             refine lv_istore (lv' := [(14, .int x22), (13, .int r118), (12, .int r111), (11, .int x108), (10, .int x65), (7, .int x19), (6, .int x15), (5, .int x13), (0, .ref (ad 31)), (1, .int a1), (2, .ref (ad 1)), (3, .int a3), (4, .int a4), (8, .int x22), (9, .int x23)]) hx hb dX1_judge_163 hl (of_decide_eq_true rfl) rfl (fun ls hl => ?_)
                             have lp124 : ∀ (n125 : Nat) (x126 : Int32) (σ130 : Nat → Nat → Int32) (H : Heap) (locs : List Loc) (ls : Array Slot), (-x126.toInt + 20 : Int) < n125 → 0 ≤ x126.toInt → x126.toInt ≤ 12 → x22.toInt ≤ x126.toInt → (∀ i : Nat, (i < 24 ∨ 25 < i) ∧ (i < 29 ∨ 30 < i) ∧ (i < 34 ∨ 35 < i) → σ130 i = σ73 i) → jN67 σ130 → jBl σ130 → jNz σ130 → jI31 σ130 → (jqPr σ 1 (A1).toNat (A3) (A4) → jqJd (σ 34) (σ 35) (σ130 34) (σ130 35) (((A1).toNat : Nat) : Int) (σ 16 0).toInt (x22 : Int32).toInt (x23 : Int32).toInt (jqIn (jMy4 (jla x13) (jlf x13)) (jqG σ 1 x13 (x15 : Int32).toInt) (x65 : Int32).toInt (x126 : Int32).toInt)) → jH D cI cL ad σ130 τ H → va_S (jA ad) s.heap H locs → lv_has ls 18 [(14, .int x126), (13, .int r118), (12, .int r111), (11, .int x108), (10, .int x65), (7, .int x19), (6, .int x15), (5, .int x13), (0, .ref (ad 31)), (1, .int a1), (2, .ref (ad 1)), (3, .int a3), (4, .int a4), (8, .int x22), (9, .int x23)] → W p l e ({ frames := 3, cells := 0, slots := 0, locals := 76 }) s m args below meth c H locs 0 0 Q (F0 m 165 ls []) := by
                               intro n125
                               induction n125 with
                               | zero => intro x126 σ130 H locs ls h132 h133 h134 h135; exact absurd h132 (by omega)
                               | succ n125 ihlp124 =>
                                 intro x126 σ130 H locs ls h132 h133 h134 h135 f136 p137 p138 p139 p140 q141 hP hS hl
                                 exact by
                                  obtain ⟨i142, i143, i144, i145, w146, w147, w148⟩ : (0 ≤ (σ130 31 8).toInt ∧ (σ130 31 8).toInt ≤ 350) ∧ (0 ≤ (σ130 31 10).toInt ∧ (σ130 31 10).toInt ≤ 12) ∧ (0 ≤ (σ130 31 11).toInt ∧ (σ130 31 11).toInt ≤ 8) ∧ ((σ130 31 10).toInt + (σ130 31 11).toInt ≤ 12) ∧ (∀ k : Nat, k < 1400 → (-1) ≤ (σ130 33 k).toInt ∧ (σ130 33 k).toInt ≤ 350) ∧ (∀ k : Nat, k < 3159 → (-1) ≤ (σ130 35 k).toInt ∧ (σ130 35 k).toInt ≤ 3) ∧ (∀ k : Nat, k < 1024 → 0 ≤ (σ130 36 k).toInt ∧ (σ130 36 k).toInt ≤ 349) := id p140
                                  have z149 : (σ130 31 8).toInt = (σ 31 8).toInt := (congrArg Int32.toInt (show σ130 31 8 = (σ 31 8) from ((congrFun (f136 31 (of_decide_eq_true rfl)) 8).trans ((congrFun (f82 31 (of_decide_eq_true rfl)) 8).trans ((congrFun (jnp 31 eσ61 (of_decide_eq_true rfl)) 8).trans (congrFun (f43 31 (of_decide_eq_true rfl)) 8))))))
                                  have z150 : (σ130 31 10).toInt = (σ 31 10).toInt := (congrArg Int32.toInt (show σ130 31 10 = (σ 31 10) from ((congrFun (f136 31 (of_decide_eq_true rfl)) 10).trans ((congrFun (f82 31 (of_decide_eq_true rfl)) 10).trans ((congrFun (jnp 31 eσ61 (of_decide_eq_true rfl)) 10).trans (congrFun (f43 31 (of_decide_eq_true rfl)) 10))))))
                                  have z151 : (σ130 31 11).toInt = (σ 31 11).toInt := (congrArg Int32.toInt (show σ130 31 11 = (σ 31 11) from ((congrFun (f136 31 (of_decide_eq_true rfl)) 11).trans ((congrFun (f82 31 (of_decide_eq_true rfl)) 11).trans ((congrFun (jnp 31 eσ61 (of_decide_eq_true rfl)) 11).trans (congrFun (f43 31 (of_decide_eq_true rfl)) 11))))))
                                  refine lv_iload hx hb dX1_judge_165 (lv_at hl 0 rfl) ?_
                                  refine lv_iload hx hb dX1_judge_167 (lv_at hl 14 rfl) ?_
                                  refine lv_icmp_gt (tgt := 310) hx hb dX1_judge_169 (of_decide_eq_true rfl) (fun c152 => ?_) (fun c152 => ?_)
                                  · have kc152 := jlt c152 rfl rfl
                                    obtain ⟨x153, ex153⟩ : ∃ y : Int32, y = x65 + 1 := ⟨_, rfl⟩
                                    exact by
                                     have tx153 : x153.toInt = x65.toInt + 1 := (jadd ex153 rfl jz_1 (by omega) (by omega)).trans (by omega)
                                     refine lv_iinc (v := x153) (lv' := [(10, .int x153), (14, .int x126), (13, .int r118), (12, .int r111), (11, .int x108), (7, .int x19), (6, .int x15), (5, .int x13), (0, .ref (ad 31)), (1, .int a1), (2, .ref (ad 1)), (3, .int a3), (4, .int a4), (8, .int x22), (9, .int x23)]) hx hb dX1_judge_310 hl (k := 4) rfl (by rw [ex153]; rfl) (of_decide_eq_true rfl) rfl (fun ls hl => ?_)
                                     refine lv_goto (tgt := 113) hx hb dX1_judge_313 (of_decide_eq_true rfl) ?_
                                     exact by exact ihlp63 x153 σ130 _ _ ls (by have h90 := tx153; omega) (by have h90 := tx153; omega) (by have h90 := tx153; omega) (fun i hi => ((f136 i hi).trans (f82 i hi)))   p137 p138 p139 p140 (fun pr => (q141 pr).out (by omega) (by omega) (by have h9 := tx153; omega)) hP hS (lv_sub hl [0, 5, 6, 7, 8, 9, 10, 11, 12, 13, 14] rfl)
                                  · have kc152 := jnlt c152 rfl rfl
                                    refine lv_aload_n hx hb dX1_judge_172 rfl (lv_at hl 8 rfl) ?_
                                    refine va_get (D := D) hx hb hts inlX1 hown hK hP 31 (jc_31 cI cL ad σ130 τ) rfl 0 (of_decide_eq_true rfl) (hts _ kw_5_10) (fun _ h9 => h9) rfl dX1_judge_173 ?_
                                    refine lv_iload hx hb dX1_judge_176 (lv_at hl 4 rfl) ?_
                                    refine lv_aload_n hx hb dX1_judge_178 rfl (lv_at hl 10 rfl) ?_
                                    exact by
                                     refine lv_iload hx hb dX1_judge_179 (lv_at hl 0 rfl) ?_
                                     refine jald hx hb hK hP (jc_1 cI cL ad σ130 τ) (jin rfl (by omega) (by omega)) dX1_judge_181 ?_
                                     have w154 : ∀ k : Nat, k < 8 → 0 ≤ (σ130 1 k).toInt ∧ (σ130 1 k).toInt ≤ 3 := (jrr_fr (f136 1 (of_decide_eq_true rfl)) (jrr_fr (f82 1 (of_decide_eq_true rfl)) (jrr_fr (jnp 1 eσ61 (of_decide_eq_true rfl)) (jrr_fr (f43 1 (of_decide_eq_true rfl)) w12))))
                                     have g155 := w154 _ (jnat (x := x126) rfl (n := 8) (by omega) (of_decide_eq_true rfl))
                                     refine jtopr (y := (σ 1 x126.toNatClampNeg)) (by rw [f136 1 (of_decide_eq_true rfl), f82 1 (of_decide_eq_true rfl), jnp 1 eσ61 (of_decide_eq_true rfl), f43 1 (of_decide_eq_true rfl)]) ?_
                                     rw [f136 1 (of_decide_eq_true rfl), f82 1 (of_decide_eq_true rfl), jnp 1 eσ61 (of_decide_eq_true rfl), f43 1 (of_decide_eq_true rfl)] at g155
                                     refine lv_iload hx hb dX1_judge_182 (lv_at hl 2 rfl) ?_
                                     refine jcallV (As := [.int x65, .int (σ 1 x126.toNatClampNeg), .int r111]) (rest := []) ⟨hx, hb, hml, hown, hts⟩ hK hP hA hS hZ (c_X5_runsOf_26 l D cI cL ad zz hJ σ130 τ x65 (x65.toInt) rfl (σ 1 x126.toNatClampNeg) ((σ 1 x126.toNatClampNeg).toInt) rfl r111 (r111.toInt) rfl (by omega) (by omega) (by omega)) cw_RX1_139 (jc_26 cI cL ad σ130 τ) rfl ⟨Nat.le_of_ble_eq_true rfl, Nat.le_of_ble_eq_true rfl⟩ rfl rfl rfl hl.1 rfl (Nat.le_of_ble_eq_true rfl) dX1_judge_184 ⟨Nat.zero_le _, Nat.zero_le _⟩ (fun r157 σ156 τ156 H locs h156 hP hS => ?_)
                                     obtain ⟨⟨rfl, rfl⟩, w158, h156⟩ := h156
                                     exact by
                                      refine lv_istore (lv' := [(15, .int r157), (14, .int x126), (13, .int r118), (12, .int r111), (11, .int x108), (10, .int x65), (7, .int x19), (6, .int x15), (5, .int x13), (0, .ref (ad 31)), (1, .int a1), (2, .ref (ad 1)), (3, .int a3), (4, .int a4), (8, .int x22), (9, .int x23)]) hx hb dX1_judge_187 hl (of_decide_eq_true rfl) rfl (fun ls hl => ?_)
                                      refine lv_aload_n hx hb dX1_judge_189 rfl (lv_at hl 9 rfl) ?_
                                      refine va_get (D := D) hx hb hts inlX1 hown hK hP 31 (jc_31 cI cL ad σ130 τ) rfl 0 (of_decide_eq_true rfl) (hts _ kw_5_10) (fun _ h9 => h9) rfl dX1_judge_190 ?_
                                      refine lv_iload hx hb dX1_judge_193 (lv_at hl 5 rfl) ?_
                                      refine lv_aload_n hx hb dX1_judge_195 rfl (lv_at hl 11 rfl) ?_
                                      refine lv_iload hx hb dX1_judge_196 (lv_at hl 1 rfl) ?_
                                      refine jald hx hb hK hP (jc_1 cI cL ad σ130 τ) (jin rfl (by omega) (by omega)) dX1_judge_198 ?_
                                      refine jtopr (y := (σ 1 x126.toNatClampNeg)) (by rw [f136 1 (of_decide_eq_true rfl), f82 1 (of_decide_eq_true rfl), jnp 1 eσ61 (of_decide_eq_true rfl), f43 1 (of_decide_eq_true rfl)]) ?_
                                      refine lv_iload hx hb dX1_judge_199 (lv_at hl 3 rfl) ?_
                                      exact by
                                       refine lv_iload hx hb dX1_judge_201 (lv_at hl 2 rfl) ?_
                                       refine lv_aload_n hx hb dX1_judge_203 rfl (lv_at hl 9 rfl) ?_
                                       refine va_get (D := D) hx hb hts inlX1 hown hK hP 31 (jc_31 cI cL ad σ130 τ) rfl 10 (of_decide_eq_true rfl) (hts _ kw_28_9) (fun _ h9 => h9) rfl dX1_judge_204 ?_
                                       have m159 : σ130 31 10 = (σ 31 10) := ((congrFun (f136 31 (of_decide_eq_true rfl)) 10).trans ((congrFun (f82 31 (of_decide_eq_true rfl)) 10).trans ((congrFun (jnp 31 eσ61 (of_decide_eq_true rfl)) 10).trans (congrFun (f43 31 (of_decide_eq_true rfl)) 10))))
                                       refine jtopr m159 ?_
                                       refine lv_iload hx hb dX1_judge_207 (lv_at hl 7 rfl) ?_
                                       have g160 := jrg (rfl : (σ 31 10).toInt = (σ 31 10).toInt)
                                       have g161 := jrg (rfl : x15.toInt = x15.toInt)
                                       refine lv_iadd hx hb dX1_judge_209 ?_
                                       refine lv_topi (fun x162 ex162 => ?_)
                                       exact by
                                        have tx162 : x162.toInt = (σ 31 10).toInt + x15.toInt := (jadd ex162 rfl rfl (by omega) (by omega)).trans (by omega)
                                        refine lv_iload hx hb dX1_judge_210 (lv_at hl 1 rfl) ?_
                                        have I163 : jI22 σ130 := jI22_fr ((congrFun (f136 22 (of_decide_eq_true rfl)) 0).trans ((congrFun (f82 22 (of_decide_eq_true rfl)) 0).trans ((congrFun (jnp 22 eσ61 (of_decide_eq_true rfl)) 0).trans (congrFun (f43 22 (of_decide_eq_true rfl)) 0)))) ((f136 23 (of_decide_eq_true rfl)).trans ((f82 23 (of_decide_eq_true rfl)).trans ((jnp 23 eσ61 (of_decide_eq_true rfl)).trans (f43 23 (of_decide_eq_true rfl))))) hI22
                                        have I164 : jI26 σ130 := jI26_fr ((congrFun (f136 26 (of_decide_eq_true rfl)) 6).trans ((congrFun (f82 26 (of_decide_eq_true rfl)) 6).trans ((congrFun (jnp 26 eσ61 (of_decide_eq_true rfl)) 6).trans (congrFun (f43 26 (of_decide_eq_true rfl)) 6)))) hI26
                                        refine jcallV (As := [.int x65, .int (σ 1 x126.toNatClampNeg), .int r111, .int r118, .int x162, .int x126]) (rest := []) ⟨hx, hb, hml, hown, hts⟩ hK hP hA hS hZ (c_X5_outOf_26 l D cI cL ad zz hJ σ130 τ x65 (x65.toInt) rfl (σ 1 x126.toNatClampNeg) ((σ 1 x126.toNatClampNeg).toInt) rfl r111 (r111.toInt) rfl r118 (r118.toInt) rfl x162 ((σ 31 10).toInt + x15.toInt) tx162 x126 (x126.toInt) rfl I163 I164 p137 p138 (by omega) (by omega) (by omega) (by omega) (by omega) (by omega)) cw_RX1_142 (jc_26 cI cL ad σ130 τ) rfl ⟨Nat.le_of_ble_eq_true rfl, Nat.le_of_ble_eq_true rfl⟩ rfl rfl rfl hl.1 rfl (Nat.le_of_ble_eq_true rfl) dX1_judge_212 ⟨Nat.zero_le _, Nat.zero_le _⟩ (fun r166 σ165 τ165 H locs h165 hP hS => ?_)
                                        obtain ⟨rfl, f167, p168, p169, w170, h165⟩ := h165
                                        refine lv_istore (lv' := [(16, .int r166), (15, .int r157), (14, .int x126), (13, .int r118), (12, .int r111), (11, .int x108), (10, .int x65), (7, .int x19), (6, .int x15), (5, .int x13), (0, .ref (ad 31)), (1, .int a1), (2, .ref (ad 1)), (3, .int a3), (4, .int a4), (8, .int x22), (9, .int x23)]) hx hb dX1_judge_215 hl (of_decide_eq_true rfl) rfl (fun ls hl => ?_)
                                        refine lv_aload_n hx hb dX1_judge_217 rfl (lv_at hl 10 rfl) ?_
                                        refine va_get (D := D) hx hb hts inlX1 hown hK hP 31 (jc_31 cI cL ad σ165 τ) rfl 1 (of_decide_eq_true rfl) (hts _ kw_5_11) (fun _ h9 => h9) rfl dX1_judge_218 ?_
                                        exact by
                                         refine lv_iload hx hb dX1_judge_221 (lv_at hl 1 rfl) ?_
                                         refine lv_iload hx hb dX1_judge_223 (lv_at hl 0 rfl) ?_
                                         refine lv_aload_n hx hb dX1_judge_225 rfl (lv_at hl 10 rfl) ?_
                                         refine va_get (D := D) hx hb hts inlX1 hown hK hP 31 (jc_31 cI cL ad σ165 τ) rfl 4 (of_decide_eq_true rfl) (hts _ kw_5_5) (fun _ h9 => h9) rfl dX1_judge_226 ?_
                                         refine lv_iload hx hb dX1_judge_229 (lv_at hl 5 rfl) ?_
                                         refine lv_iload hx hb dX1_judge_231 (lv_at hl 2 rfl) ?_
                                         have g172 := jrg (rfl : x126.toInt = x126.toInt)
                                         refine lv_iadd hx hb dX1_judge_233 ?_
                                         refine lv_topi (fun x173 ex173 => ?_)
                                         exact by
                                          have tx173 : x173.toInt = 9 * (σ 33 x105.toNatClampNeg).toInt + x126.toInt := (jadd ex173 tx108 rfl (by omega) (by omega)).trans (by omega)
                                          refine lv_iconst (v := 1) hx hb dX1_judge_234 (of_decide_eq_true rfl) ?_
                                          refine lv_iadd hx hb dX1_judge_235 ?_
                                          refine lv_topi (fun x174 ex174 => ?_)
                                          have tx174 : x174.toInt = 9 * (σ 33 x105.toNatClampNeg).toInt + x126.toInt + 1 := (jadd ex174 tx173 jz_1 (by omega) (by omega)).trans (by omega)
                                          refine jald hx hb hK hP (jc_34 cI cL ad σ165 τ) (jin tx174 (by omega) (by omega)) dX1_judge_236 ?_
                                          refine jtopr (y := (σ130 34 x174.toNatClampNeg)) (by rw [f167 34 (of_decide_eq_true rfl)]) ?_
                                          refine lv_aload_n hx hb dX1_judge_237 rfl (lv_at hl 10 rfl) ?_
                                          refine va_get (D := D) hx hb hts inlX1 hown hK hP 31 (jc_31 cI cL ad σ165 τ) rfl 4 (of_decide_eq_true rfl) (hts _ kw_5_5) (fun _ h9 => h9) rfl dX1_judge_238 ?_
                                          exact by
                                           refine lv_iload hx hb dX1_judge_241 (lv_at hl 5 rfl) ?_
                                           refine lv_iload hx hb dX1_judge_243 (lv_at hl 2 rfl) ?_
                                           refine lv_iadd hx hb dX1_judge_245 ?_
                                           refine lv_topi (fun x175 ex175 => ?_)
                                           have tx175 : x175.toInt = 9 * (σ 33 x105.toNatClampNeg).toInt + x126.toInt := (jadd ex175 tx108 rfl (by omega) (by omega)).trans (by omega)
                                           refine jald hx hb hK hP (jc_34 cI cL ad σ165 τ) (jin tx175 (by omega) (by omega)) dX1_judge_246 ?_
                                           refine jtopr (y := (σ130 34 x175.toNatClampNeg)) (by rw [f167 34 (of_decide_eq_true rfl)]) ?_
                                           refine jcallV (As := [.int r157, .int r166, .int (σ130 34 x174.toNatClampNeg), .int (σ130 34 x175.toNatClampNeg)]) (rest := []) ⟨hx, hb, hml, hown, hts⟩ hK hP hA hS hZ (c_X6_meanOf_16 l D cI cL ad zz hJ σ165 τ r157 (r157.toInt) rfl r166 (r166.toInt) rfl (σ130 34 x174.toNatClampNeg) ((σ130 34 x174.toNatClampNeg).toInt) rfl (σ130 34 x175.toNatClampNeg) ((σ130 34 x175.toNatClampNeg).toInt) rfl) cw_RX1_146 (jc_16 cI cL ad σ165 τ) rfl ⟨Nat.le_of_ble_eq_true rfl, Nat.le_of_ble_eq_true rfl⟩ rfl rfl rfl hl.1 rfl (Nat.le_of_ble_eq_true rfl) dX1_judge_247 ⟨Nat.zero_le _, Nat.zero_le _⟩ (fun r177 σ176 τ176 H locs h176 hP hS => ?_)
                                           obtain ⟨⟨rfl, rfl⟩, w178, h176⟩ := h176
                                           exact by
                                            refine lv_istore (lv' := [(17, .int r177), (16, .int r166), (15, .int r157), (14, .int x126), (13, .int r118), (12, .int r111), (11, .int x108), (10, .int x65), (7, .int x19), (6, .int x15), (5, .int x13), (0, .ref (ad 31)), (1, .int a1), (2, .ref (ad 1)), (3, .int a3), (4, .int a4), (8, .int x22), (9, .int x23)]) hx hb dX1_judge_250 hl (of_decide_eq_true rfl) rfl (fun ls hl => ?_)
                                            refine lv_aload_n hx hb dX1_judge_252 rfl (lv_at hl 11 rfl) ?_
                                            refine va_get (D := D) hx hb hts inlX1 hown hK hP 31 (jc_31 cI cL ad σ165 τ) rfl 5 (of_decide_eq_true rfl) (hts _ kw_5_6) (fun _ h9 => h9) rfl dX1_judge_253 ?_
                                            refine lv_iload hx hb dX1_judge_256 (lv_at hl 8 rfl) ?_
                                            refine lv_iload hx hb dX1_judge_258 (lv_at hl 3 rfl) ?_
                                            refine lv_iadd hx hb dX1_judge_260 ?_
                                            refine lv_topi (fun x179 ex179 => ?_)
                                            have tx179 : x179.toInt = 9 * A1 + x126.toInt := (jadd ex179 tx19 rfl (by omega) (by omega)).trans (by omega)
                                            refine jald hx hb hK hP (jc_35 cI cL ad σ165 τ) (jin tx179 (by omega) (by omega)) dX1_judge_261 ?_
                                            exact by
                                             have w180 : ∀ k : Nat, k < 3159 → (-1) ≤ (σ165 35 k).toInt ∧ (σ165 35 k).toInt ≤ 3 := (jrr_fr (f167 35 (of_decide_eq_true rfl)) w147)
                                             have g181 := w180 _ (jnat (x := x179) tx179 (n := 3159) (by omega) (of_decide_eq_true rfl))
                                             refine jtopr (y := (σ130 35 x179.toNatClampNeg)) (by rw [f167 35 (of_decide_eq_true rfl)]) ?_
                                             rw [f167 35 (of_decide_eq_true rfl)] at g181
                                             have k182 : σ130 35 (9 * (((A1).toNat : Nat) : Int) + (x126 : Int32).toInt).toNat = (σ130 35 x179.toNatClampNeg) := by rw [jnc (show x179.toInt = 9 * (((A1).toNat : Nat) : Int) + (x126 : Int32).toInt by omega)]
                                             refine lv_if_lt (tgt := 280) hx hb dX1_judge_262 (of_decide_eq_true rfl) (fun c183 => ?_) (fun c183 => ?_)
                                             · have kc183 := jlt c183 rfl jz_0
                                               refine lv_aload_n hx hb dX1_judge_280 rfl (lv_at hl 11 rfl) ?_
                                               refine va_get (D := D) hx hb hts inlX1 hown hK hP 31 (jc_31 cI cL ad σ165 τ) rfl 4 (of_decide_eq_true rfl) (hts _ kw_5_5) (fun _ h9 => h9) rfl dX1_judge_281 ?_
                                               exact by
                                                refine lv_iload hx hb dX1_judge_284 (lv_at hl 8 rfl) ?_
                                                refine lv_iload hx hb dX1_judge_286 (lv_at hl 3 rfl) ?_
                                                refine lv_iadd hx hb dX1_judge_288 ?_
                                                refine lv_topi (fun x184 ex184 => ?_)
                                                have tx184 : x184.toInt = 9 * A1 + x126.toInt := (jadd ex184 tx19 rfl (by omega) (by omega)).trans (by omega)
                                                refine lv_iload hx hb dX1_judge_289 (lv_at hl 0 rfl) ?_
                                                refine jast hx hb hK hP hJ hA hS (jc_34 cI cL ad σ165 τ) (ja_34 cI cL ad σ165 τ _ _) (jin tx184 (by omega) (by omega)) dX1_judge_291 (fun σ185 H locs eσ185 hP hS => ?_)
                                                have p186 : jNz σ165 := jNz.fr (f167 34 (of_decide_eq_true rfl)) p139
                                                have p187 : jNz σ185 := (jNz.put p186 eσ185 (jnat (x := x184) tx184 (n := 3150) (by omega) (of_decide_eq_true rfl)))
                                                exact by
                                                 refine lv_aload_n hx hb dX1_judge_292 rfl (lv_at hl 11 rfl) ?_
                                                 refine va_get (D := D) hx hb hts inlX1 hown hK hP 31 (jc_31 cI cL ad σ185 τ) rfl 5 (of_decide_eq_true rfl) (hts _ kw_5_6) (fun _ h9 => h9) rfl dX1_judge_293 ?_
                                                 refine lv_iload hx hb dX1_judge_296 (lv_at hl 8 rfl) ?_
                                                 refine lv_iload hx hb dX1_judge_298 (lv_at hl 3 rfl) ?_
                                                 refine lv_iadd hx hb dX1_judge_300 ?_
                                                 refine lv_topi (fun x188 ex188 => ?_)
                                                 have tx188 : x188.toInt = 9 * A1 + x126.toInt := (jadd ex188 tx19 rfl (by omega) (by omega)).trans (by omega)
                                                 refine lv_iload hx hb dX1_judge_301 (lv_at hl 7 rfl) ?_
                                                 refine jast hx hb hK hP hJ hA hS (jc_35 cI cL ad σ185 τ) (ja_35 cI cL ad σ185 τ _ _) (jin tx188 (by omega) (by omega)) dX1_judge_303 (fun σ189 H locs eσ189 hP hS => ?_)
                                                 exact by
                                                  obtain ⟨x190, ex190⟩ : ∃ y : Int32, y = x126 + 1 := ⟨_, rfl⟩
                                                  have tx190 : x190.toInt = x126.toInt + 1 := (jadd ex190 rfl jz_1 (by omega) (by omega)).trans (by omega)
                                                  refine lv_iinc (v := x190) (lv' := [(14, .int x190), (17, .int r177), (16, .int r166), (15, .int r157), (13, .int r118), (12, .int r111), (11, .int x108), (10, .int x65), (7, .int x19), (6, .int x15), (5, .int x13), (0, .ref (ad 31)), (1, .int a1), (2, .ref (ad 1)), (3, .int a3), (4, .int a4), (8, .int x22), (9, .int x23)]) hx hb dX1_judge_304 hl (k := 3) rfl (by rw [ex190]; rfl) (of_decide_eq_true rfl) rfl (fun ls hl => ?_)
                                                  refine lv_goto (tgt := 165) hx hb dX1_judge_307 (of_decide_eq_true rfl) ?_
                                                  have p191 : jN67 σ189 := jN67.fr ((jnp 24 eσ189 (of_decide_eq_true rfl)).trans (jnp 24 eσ185 (of_decide_eq_true rfl))) p168
                                                  have p192 : jBl σ189 := jBl.fr ((congrFun (jnp 22 eσ189 (of_decide_eq_true rfl)) 0).trans (congrFun (jnp 22 eσ185 (of_decide_eq_true rfl)) 0)) ((congrFun (jnp 22 eσ189 (of_decide_eq_true rfl)) 1).trans (congrFun (jnp 22 eσ185 (of_decide_eq_true rfl)) 1)) ((jnp 23 eσ189 (of_decide_eq_true rfl)).trans (jnp 23 eσ185 (of_decide_eq_true rfl))) ((congrFun (jnp 26 eσ189 (of_decide_eq_true rfl)) 6).trans (congrFun (jnp 26 eσ185 (of_decide_eq_true rfl)) 6)) ((congrFun (jnp 26 eσ189 (of_decide_eq_true rfl)) 7).trans (congrFun (jnp 26 eσ185 (of_decide_eq_true rfl)) 7)) ((jnp 29 eσ189 (of_decide_eq_true rfl)).trans (jnp 29 eσ185 (of_decide_eq_true rfl))) ((jnp 30 eσ189 (of_decide_eq_true rfl)).trans (jnp 30 eσ185 (of_decide_eq_true rfl))) p169
                                                  have p193 : jNz σ189 := jNz.fr (jnp 34 eσ189 (of_decide_eq_true rfl)) p187
                                                  have z194 : (σ189 31 8).toInt = (σ 31 8).toInt := (congrArg Int32.toInt (show σ189 31 8 = (σ 31 8) from ((congrFun (jnp 31 eσ189 (of_decide_eq_true rfl)) 8).trans ((congrFun (jnp 31 eσ185 (of_decide_eq_true rfl)) 8).trans ((congrFun (f167 31 (of_decide_eq_true rfl)) 8).trans ((congrFun (f136 31 (of_decide_eq_true rfl)) 8).trans ((congrFun (f82 31 (of_decide_eq_true rfl)) 8).trans ((congrFun (jnp 31 eσ61 (of_decide_eq_true rfl)) 8).trans (congrFun (f43 31 (of_decide_eq_true rfl)) 8)))))))))
                                                  have z195 : (σ189 31 10).toInt = (σ 31 10).toInt := (congrArg Int32.toInt (show σ189 31 10 = (σ 31 10) from ((congrFun (jnp 31 eσ189 (of_decide_eq_true rfl)) 10).trans ((congrFun (jnp 31 eσ185 (of_decide_eq_true rfl)) 10).trans ((congrFun (f167 31 (of_decide_eq_true rfl)) 10).trans m159)))))
                                                  exact by
                                                   have z196 : (σ189 31 11).toInt = (σ 31 11).toInt := (congrArg Int32.toInt (show σ189 31 11 = (σ 31 11) from ((congrFun (jnp 31 eσ189 (of_decide_eq_true rfl)) 11).trans ((congrFun (jnp 31 eσ185 (of_decide_eq_true rfl)) 11).trans ((congrFun (f167 31 (of_decide_eq_true rfl)) 11).trans ((congrFun (f136 31 (of_decide_eq_true rfl)) 11).trans ((congrFun (f82 31 (of_decide_eq_true rfl)) 11).trans ((congrFun (jnp 31 eσ61 (of_decide_eq_true rfl)) 11).trans (congrFun (f43 31 (of_decide_eq_true rfl)) 11)))))))))
                                                   have w197 : ∀ k : Nat, k < 1400 → (-1) ≤ (σ189 33 k).toInt ∧ (σ189 33 k).toInt ≤ 350 := (jrr_fr (jnp 33 eσ189 (of_decide_eq_true rfl)) (jrr_fr (jnp 33 eσ185 (of_decide_eq_true rfl)) (jrr_fr (f167 33 (of_decide_eq_true rfl)) w146)))
                                                   have w198 : ∀ k : Nat, k < 3159 → (-1) ≤ (σ189 35 k).toInt ∧ (σ189 35 k).toInt ≤ 3 := (by rw [eσ189]; exact jrr_up (jrr_fr (jnp 35 eσ185 (of_decide_eq_true rfl)) w180) (by omega) (by omega))
                                                   have w199 : ∀ k : Nat, k < 1024 → 0 ≤ (σ189 36 k).toInt ∧ (σ189 36 k).toInt ≤ 349 := (jrr_fr (jnp 36 eσ189 (of_decide_eq_true rfl)) (jrr_fr (jnp 36 eσ185 (of_decide_eq_true rfl)) (jrr_fr (f167 36 (of_decide_eq_true rfl)) w148)))
                                                   have I200 : jI31 σ189 := ⟨(by omega), (by omega), (by omega), (by omega), w197, w198, w199⟩
                                                   have k201 := jofn4_eq (c := (x65 : Int32).toInt.toNat) (b := x65) (by omega) (by omega)
                                                   have k202 : r111.toInt = jst x13 (x65 : Int32).toInt.toNat := by unfold jst; rw [← k201]; have w9 := congrArg Int32.toInt w112; omega
                                                   have k203 : (r157 : Int32).toInt = jRnc σ (x65 : Int32).toInt.toNat ((σ 1 x126.toNatClampNeg).toInt) (jst x13 (x65 : Int32).toInt.toNat) := by rw [← k202]; exact jRnc_of (w158 (by omega)) ((f136 28 (of_decide_eq_true rfl)).trans ((f82 28 (of_decide_eq_true rfl)).trans ((jnp 28 eσ61 (of_decide_eq_true rfl)).trans (f43 28 (of_decide_eq_true rfl))))) (by omega) (by omega) (by omega) (by omega)
                                                   have k204 : jGb σ130 = jGb σ := by unfold jGb; rw [show σ130 23 = σ 23 from ((f136 23 (of_decide_eq_true rfl)).trans ((f82 23 (of_decide_eq_true rfl)).trans ((jnp 23 eσ61 (of_decide_eq_true rfl)).trans (f43 23 (of_decide_eq_true rfl))))), show σ130 22 0 = σ 22 0 from ((congrFun (f136 22 (of_decide_eq_true rfl)) 0).trans ((congrFun (f82 22 (of_decide_eq_true rfl)) 0).trans ((congrFun (jnp 22 eσ61 (of_decide_eq_true rfl)) 0).trans (congrFun (f43 22 (of_decide_eq_true rfl)) 0))))]
                                                   exact by
                                                    have k205 : r118.toInt = jlf x13 (x65 : Int32).toInt.toNat := by unfold jlf; rw [← k201]; have w9 := congrArg Int32.toInt w119; omega
                                                    have k206 : (r166 : Int32).toInt = jChc σ (x65 : Int32).toInt.toNat ((σ 1 x126.toNatClampNeg).toInt) (jst x13 (x65 : Int32).toInt.toNat) (jlf x13 (x65 : Int32).toInt.toNat) ((σ 31 10).toInt + (x15 : Int32).toInt) (x126 : Int32).toInt := by rw [← k202, ← k205]; exact jChc_of (w170 (by omega)) ((f136 27 (of_decide_eq_true rfl)).trans ((f82 27 (of_decide_eq_true rfl)).trans ((jnp 27 eσ61 (of_decide_eq_true rfl)).trans (f43 27 (of_decide_eq_true rfl))))) k204 (by omega) (by omega) (by omega) (by omega) (jwd_of (show r118.toInt = r118.toInt from by omega) (by omega) (by omega)) (jwd_of (show x162.toInt = ((σ 31 10).toInt + (x15 : Int32).toInt) from by have h9 := tx162; omega) (by omega) (by omega)) (jwd_of (show x126.toInt = (x126 : Int32).toInt from by omega) (by omega) (by omega))
                                                    have z207 : (σ189 16 2).toInt = (σ 16 2).toInt := (congrArg Int32.toInt (show σ189 16 2 = (σ 16 2) from ((congrFun (jnp 16 eσ189 (of_decide_eq_true rfl)) 2).trans ((congrFun (jnp 16 eσ185 (of_decide_eq_true rfl)) 2).trans ((congrFun (f167 16 (of_decide_eq_true rfl)) 2).trans ((congrFun (f136 16 (of_decide_eq_true rfl)) 2).trans ((congrFun (f82 16 (of_decide_eq_true rfl)) 2).trans ((congrFun (jnp 16 eσ61 (of_decide_eq_true rfl)) 2).trans (congrFun (f43 16 (of_decide_eq_true rfl)) 2)))))))))
                                                    have z208 : (σ189 16 0).toInt = (σ 16 0).toInt := (congrArg Int32.toInt (show σ189 16 0 = (σ 16 0) from ((congrFun (jnp 16 eσ189 (of_decide_eq_true rfl)) 0).trans ((congrFun (jnp 16 eσ185 (of_decide_eq_true rfl)) 0).trans ((congrFun (f167 16 (of_decide_eq_true rfl)) 0).trans ((congrFun (f136 16 (of_decide_eq_true rfl)) 0).trans ((congrFun (f82 16 (of_decide_eq_true rfl)) 0).trans ((congrFun (jnp 16 eσ61 (of_decide_eq_true rfl)) 0).trans m58))))))))
                                                    have z209 : (σ165 16 2).toInt = (σ 16 2).toInt := (congrArg Int32.toInt (show σ165 16 2 = (σ 16 2) from ((congrFun (f167 16 (of_decide_eq_true rfl)) 2).trans ((congrFun (f136 16 (of_decide_eq_true rfl)) 2).trans ((congrFun (f82 16 (of_decide_eq_true rfl)) 2).trans ((congrFun (jnp 16 eσ61 (of_decide_eq_true rfl)) 2).trans (congrFun (f43 16 (of_decide_eq_true rfl)) 2)))))))
                                                    have k210 : jqPr σ 1 (A1).toNat (A3) (A4) → (r177 : Int32).toInt = jqG σ 1 x13 (x15 : Int32).toInt (x126 : Int32).toInt.toNat (x65 : Int32).toInt.toNat ∧ jMy4 (jla x13) (jlf x13) (x65 : Int32).toInt.toNat = true := fun pr => jqG_of (w2 := 0) (k4 := x105.toNatClampNeg) (x := x174.toInt) (y := x175.toInt) (s := (σ 1 x126.toNatClampNeg).toInt) pr hs_jKg (q141 pr) k18 (by omega) (by rw [jnc (show x105.toInt = 4 * (A1) + (x65 : Int32).toInt by omega)]; omega) (by have h9 := tx108; omega) (by omega) (by omega) (by omega) (by omega) (by omega) (by have h7 := pr.2.1; omega) (by omega) (by omega) (by omega) (by unfold jmx; split <;> omega) rfl k203 k206 (by have h9 := tx108; omega) (by have h9 := tx108; omega) rfl rfl (by omega) (show (σ165 16 2).toInt = (σ 16 2).toInt by omega) w178
                                                    exact by exact ihlp124 x190 σ189 _ _ ls (by have h90 := tx190; omega) (by have h90 := tx190; omega) (by have h90 := tx190; omega) (by have h90 := tx190; omega) (fun i hi => ((jnp i eσ189 (imp_97 i hi)).trans ((jnp i eσ185 (imp_95 i hi)).trans ((f167 i (imp_98 i hi)).trans (f136 i hi)))))   p191 p192 p193 I200 (fun pr => jqJd.set (q141 pr) (by omega) (by omega) (by omega) (by have h7 := pr.2.1; omega) (by omega) (k210 pr).2 (Or.inl (by rw [k182]; omega)) (k210 pr).1 (by rw [eσ189, jup_n (of_decide_eq_true rfl), eσ185, jup_row, f167 34 (of_decide_eq_true rfl), jnc (show x184.toInt = 9 * (((A1).toNat : Nat) : Int) + (x126 : Int32).toInt by have h9 := tx184; omega)]) rfl (by rw [eσ189, jup_row, eσ185, jup_n (of_decide_eq_true rfl), f167 35 (of_decide_eq_true rfl), jnc (show x188.toInt = 9 * (((A1).toNat : Nat) : Int) + (x126 : Int32).toInt by have h9 := tx188; omega)]) rfl (by omega) (by have h9 := tx190; omega)) hP hS (lv_sub hl [0, 4, 5, 6, 7, 8, 9, 10, 11, 12, 13, 14, 15, 16, 17] rfl)
                                             · have kc183 := jnlt c183 rfl jz_0
                                               refine lv_iload hx hb dX1_judge_265 (lv_at hl 0 rfl) ?_
                                               exact by
                                                refine lv_aload_n hx hb dX1_judge_267 rfl (lv_at hl 11 rfl) ?_
                                                refine va_get (D := D) hx hb hts inlX1 hown hK hP 31 (jc_31 cI cL ad σ165 τ) rfl 4 (of_decide_eq_true rfl) (hts _ kw_5_5) (fun _ h9 => h9) rfl dX1_judge_268 ?_
                                                refine lv_iload hx hb dX1_judge_271 (lv_at hl 8 rfl) ?_
                                                refine lv_iload hx hb dX1_judge_273 (lv_at hl 3 rfl) ?_
                                                refine lv_iadd hx hb dX1_judge_275 ?_
                                                refine lv_topi (fun x211 ex211 => ?_)
                                                have tx211 : x211.toInt = 9 * A1 + x126.toInt := (jadd ex211 tx19 rfl (by omega) (by omega)).trans (by omega)
                                                refine jald hx hb hK hP (jc_34 cI cL ad σ165 τ) (jin tx211 (by omega) (by omega)) dX1_judge_276 ?_
                                                refine jtopr (y := (σ130 34 x211.toNatClampNeg)) (by rw [f167 34 (of_decide_eq_true rfl)]) ?_
                                                exact by
                                                 have k212 : σ130 34 (9 * (((A1).toNat : Nat) : Int) + (x126 : Int32).toInt).toNat = (σ130 34 x211.toNatClampNeg) := by rw [jnc (show x211.toInt = 9 * (((A1).toNat : Nat) : Int) + (x126 : Int32).toInt by omega)]
                                                 refine lv_icmp_ge (tgt := 304) hx hb dX1_judge_277 (of_decide_eq_true rfl) (fun c213 => ?_) (fun c213 => ?_)
                                                 · have kc213 := jle c213 rfl rfl
                                                   obtain ⟨x214, ex214⟩ : ∃ y : Int32, y = x126 + 1 := ⟨_, rfl⟩
                                                   have tx214 : x214.toInt = x126.toInt + 1 := (jadd ex214 rfl jz_1 (by omega) (by omega)).trans (by omega)
                                                   refine lv_iinc (v := x214) (lv' := [(14, .int x214), (17, .int r177), (16, .int r166), (15, .int r157), (13, .int r118), (12, .int r111), (11, .int x108), (10, .int x65), (7, .int x19), (6, .int x15), (5, .int x13), (0, .ref (ad 31)), (1, .int a1), (2, .ref (ad 1)), (3, .int a3), (4, .int a4), (8, .int x22), (9, .int x23)]) hx hb dX1_judge_304 hl (k := 3) rfl (by rw [ex214]; rfl) (of_decide_eq_true rfl) rfl (fun ls hl => ?_)
                                                   refine lv_goto (tgt := 165) hx hb dX1_judge_307 (of_decide_eq_true rfl) ?_
                                                   have p215 : jNz σ165 := jNz.fr (f167 34 (of_decide_eq_true rfl)) p139
                                                   have I216 : jI31 σ165 := jI31_fr (congrFun (f167 31 (of_decide_eq_true rfl)) 8) (congrFun (f167 31 (of_decide_eq_true rfl)) 10) (congrFun (f167 31 (of_decide_eq_true rfl)) 11) (f167 33 (of_decide_eq_true rfl)) (f167 35 (of_decide_eq_true rfl)) (f167 36 (of_decide_eq_true rfl)) p140
                                                   exact by
                                                    have k217 := jofn4_eq (c := (x65 : Int32).toInt.toNat) (b := x65) (by omega) (by omega)
                                                    have k218 : r111.toInt = jst x13 (x65 : Int32).toInt.toNat := by unfold jst; rw [← k217]; have w9 := congrArg Int32.toInt w112; omega
                                                    have k219 : (r157 : Int32).toInt = jRnc σ (x65 : Int32).toInt.toNat ((σ 1 x126.toNatClampNeg).toInt) (jst x13 (x65 : Int32).toInt.toNat) := by rw [← k218]; exact jRnc_of (w158 (by omega)) ((f136 28 (of_decide_eq_true rfl)).trans ((f82 28 (of_decide_eq_true rfl)).trans ((jnp 28 eσ61 (of_decide_eq_true rfl)).trans (f43 28 (of_decide_eq_true rfl))))) (by omega) (by omega) (by omega) (by omega)
                                                    have k220 : jGb σ130 = jGb σ := by unfold jGb; rw [show σ130 23 = σ 23 from ((f136 23 (of_decide_eq_true rfl)).trans ((f82 23 (of_decide_eq_true rfl)).trans ((jnp 23 eσ61 (of_decide_eq_true rfl)).trans (f43 23 (of_decide_eq_true rfl))))), show σ130 22 0 = σ 22 0 from ((congrFun (f136 22 (of_decide_eq_true rfl)) 0).trans ((congrFun (f82 22 (of_decide_eq_true rfl)) 0).trans ((congrFun (jnp 22 eσ61 (of_decide_eq_true rfl)) 0).trans (congrFun (f43 22 (of_decide_eq_true rfl)) 0))))]
                                                    have k221 : r118.toInt = jlf x13 (x65 : Int32).toInt.toNat := by unfold jlf; rw [← k217]; have w9 := congrArg Int32.toInt w119; omega
                                                    have z222 : (σ165 31 10).toInt = (σ 31 10).toInt := (congrArg Int32.toInt (show σ165 31 10 = (σ 31 10) from ((congrFun (f167 31 (of_decide_eq_true rfl)) 10).trans m159)))
                                                    have k223 : (r166 : Int32).toInt = jChc σ (x65 : Int32).toInt.toNat ((σ 1 x126.toNatClampNeg).toInt) (jst x13 (x65 : Int32).toInt.toNat) (jlf x13 (x65 : Int32).toInt.toNat) ((σ 31 10).toInt + (x15 : Int32).toInt) (x126 : Int32).toInt := by rw [← k218, ← k221]; exact jChc_of (w170 (by omega)) ((f136 27 (of_decide_eq_true rfl)).trans ((f82 27 (of_decide_eq_true rfl)).trans ((jnp 27 eσ61 (of_decide_eq_true rfl)).trans (f43 27 (of_decide_eq_true rfl))))) k220 (by omega) (by omega) (by omega) (by omega) (jwd_of (show r118.toInt = r118.toInt from by omega) (by omega) (by omega)) (jwd_of (show x162.toInt = ((σ 31 10).toInt + (x15 : Int32).toInt) from by have h9 := tx162; omega) (by omega) (by omega)) (jwd_of (show x126.toInt = (x126 : Int32).toInt from by omega) (by omega) (by omega))
                                                    have z224 : (σ165 16 2).toInt = (σ 16 2).toInt := (congrArg Int32.toInt (show σ165 16 2 = (σ 16 2) from ((congrFun (f167 16 (of_decide_eq_true rfl)) 2).trans ((congrFun (f136 16 (of_decide_eq_true rfl)) 2).trans ((congrFun (f82 16 (of_decide_eq_true rfl)) 2).trans ((congrFun (jnp 16 eσ61 (of_decide_eq_true rfl)) 2).trans (congrFun (f43 16 (of_decide_eq_true rfl)) 2)))))))
                                                    have z225 : (σ165 16 0).toInt = (σ 16 0).toInt := (congrArg Int32.toInt (show σ165 16 0 = (σ 16 0) from ((congrFun (f167 16 (of_decide_eq_true rfl)) 0).trans ((congrFun (f136 16 (of_decide_eq_true rfl)) 0).trans ((congrFun (f82 16 (of_decide_eq_true rfl)) 0).trans ((congrFun (jnp 16 eσ61 (of_decide_eq_true rfl)) 0).trans m58))))))
                                                    exact by
                                                     have z226 : (σ165 31 8).toInt = (σ 31 8).toInt := (congrArg Int32.toInt (show σ165 31 8 = (σ 31 8) from ((congrFun (f167 31 (of_decide_eq_true rfl)) 8).trans ((congrFun (f136 31 (of_decide_eq_true rfl)) 8).trans ((congrFun (f82 31 (of_decide_eq_true rfl)) 8).trans ((congrFun (jnp 31 eσ61 (of_decide_eq_true rfl)) 8).trans (congrFun (f43 31 (of_decide_eq_true rfl)) 8)))))))
                                                     have z227 : (σ165 31 11).toInt = (σ 31 11).toInt := (congrArg Int32.toInt (show σ165 31 11 = (σ 31 11) from ((congrFun (f167 31 (of_decide_eq_true rfl)) 11).trans ((congrFun (f136 31 (of_decide_eq_true rfl)) 11).trans ((congrFun (f82 31 (of_decide_eq_true rfl)) 11).trans ((congrFun (jnp 31 eσ61 (of_decide_eq_true rfl)) 11).trans (congrFun (f43 31 (of_decide_eq_true rfl)) 11)))))))
                                                     have k228 : jqPr σ 1 (A1).toNat (A3) (A4) → (r177 : Int32).toInt = jqG σ 1 x13 (x15 : Int32).toInt (x126 : Int32).toInt.toNat (x65 : Int32).toInt.toNat ∧ jMy4 (jla x13) (jlf x13) (x65 : Int32).toInt.toNat = true := fun pr => jqG_of (w2 := 0) (k4 := x105.toNatClampNeg) (x := x174.toInt) (y := x175.toInt) (s := (σ 1 x126.toNatClampNeg).toInt) pr hs_jKg (q141 pr) k18 (by omega) (by rw [jnc (show x105.toInt = 4 * (A1) + (x65 : Int32).toInt by omega)]; omega) (by have h9 := tx108; omega) (by omega) (by omega) (by omega) (by omega) (by omega) (by have h7 := pr.2.1; omega) (by omega) (by omega) (by omega) (by unfold jmx; split <;> omega) rfl k219 k223 (by have h9 := tx108; omega) (by have h9 := tx108; omega) rfl rfl (by omega) (show (σ165 16 2).toInt = (σ 16 2).toInt by omega) w178
                                                     exact by exact ihlp124 x214 σ165 _ _ ls (by have h90 := tx214; omega) (by have h90 := tx214; omega) (by have h90 := tx214; omega) (by have h90 := tx214; omega) (fun i hi => ((f167 i (imp_98 i hi)).trans (f136 i hi)))   p168 p169 p215 I216 (by rw [show σ165 34 = σ130 34 from (f167 34 (of_decide_eq_true rfl)), show σ165 35 = σ130 35 from (f167 35 (of_decide_eq_true rfl))]; exact (fun pr => jqJd.keep (q141 pr) (by omega) (by omega) (by omega) (by rw [k182, k212]; omega) (k228 pr).1 (by have h9 := tx214; omega))) hP hS (lv_sub hl [0, 4, 5, 6, 7, 8, 9, 10, 11, 12, 13, 14, 15, 16, 17] rfl)
                                                 · have kc213 := jnle c213 rfl rfl
                                                   refine lv_aload_n hx hb dX1_judge_280 rfl (lv_at hl 11 rfl) ?_
                                                   refine va_get (D := D) hx hb hts inlX1 hown hK hP 31 (jc_31 cI cL ad σ165 τ) rfl 4 (of_decide_eq_true rfl) (hts _ kw_5_5) (fun _ h9 => h9) rfl dX1_judge_281 ?_
                                                   refine lv_iload hx hb dX1_judge_284 (lv_at hl 8 rfl) ?_
                                                   refine lv_iload hx hb dX1_judge_286 (lv_at hl 3 rfl) ?_
                                                   exact by
                                                    refine lv_iadd hx hb dX1_judge_288 ?_
                                                    refine lv_topi (fun x229 ex229 => ?_)
                                                    have tx229 : x229.toInt = 9 * A1 + x126.toInt := (jadd ex229 tx19 rfl (by omega) (by omega)).trans (by omega)
                                                    refine lv_iload hx hb dX1_judge_289 (lv_at hl 0 rfl) ?_
                                                    refine jast hx hb hK hP hJ hA hS (jc_34 cI cL ad σ165 τ) (ja_34 cI cL ad σ165 τ _ _) (jin tx229 (by omega) (by omega)) dX1_judge_291 (fun σ230 H locs eσ230 hP hS => ?_)
                                                    have p231 : jNz σ165 := jNz.fr (f167 34 (of_decide_eq_true rfl)) p139
                                                    have p232 : jNz σ230 := (jNz.put p231 eσ230 (jnat (x := x229) tx229 (n := 3150) (by omega) (of_decide_eq_true rfl)))
                                                    refine lv_aload_n hx hb dX1_judge_292 rfl (lv_at hl 11 rfl) ?_
                                                    refine va_get (D := D) hx hb hts inlX1 hown hK hP 31 (jc_31 cI cL ad σ230 τ) rfl 5 (of_decide_eq_true rfl) (hts _ kw_5_6) (fun _ h9 => h9) rfl dX1_judge_293 ?_
                                                    exact by
                                                     refine lv_iload hx hb dX1_judge_296 (lv_at hl 8 rfl) ?_
                                                     refine lv_iload hx hb dX1_judge_298 (lv_at hl 3 rfl) ?_
                                                     refine lv_iadd hx hb dX1_judge_300 ?_
                                                     refine lv_topi (fun x233 ex233 => ?_)
                                                     have tx233 : x233.toInt = 9 * A1 + x126.toInt := (jadd ex233 tx19 rfl (by omega) (by omega)).trans (by omega)
                                                     refine lv_iload hx hb dX1_judge_301 (lv_at hl 7 rfl) ?_
                                                     refine jast hx hb hK hP hJ hA hS (jc_35 cI cL ad σ230 τ) (ja_35 cI cL ad σ230 τ _ _) (jin tx233 (by omega) (by omega)) dX1_judge_303 (fun σ234 H locs eσ234 hP hS => ?_)
                                                     obtain ⟨x235, ex235⟩ : ∃ y : Int32, y = x126 + 1 := ⟨_, rfl⟩
                                                     have tx235 : x235.toInt = x126.toInt + 1 := (jadd ex235 rfl jz_1 (by omega) (by omega)).trans (by omega)
                                                     exact by
                                                      refine lv_iinc (v := x235) (lv' := [(14, .int x235), (17, .int r177), (16, .int r166), (15, .int r157), (13, .int r118), (12, .int r111), (11, .int x108), (10, .int x65), (7, .int x19), (6, .int x15), (5, .int x13), (0, .ref (ad 31)), (1, .int a1), (2, .ref (ad 1)), (3, .int a3), (4, .int a4), (8, .int x22), (9, .int x23)]) hx hb dX1_judge_304 hl (k := 3) rfl (by rw [ex235]; rfl) (of_decide_eq_true rfl) rfl (fun ls hl => ?_)
                                                      refine lv_goto (tgt := 165) hx hb dX1_judge_307 (of_decide_eq_true rfl) ?_
                                                      have p236 : jN67 σ234 := jN67.fr ((jnp 24 eσ234 (of_decide_eq_true rfl)).trans (jnp 24 eσ230 (of_decide_eq_true rfl))) p168
                                                      have p237 : jBl σ234 := jBl.fr ((congrFun (jnp 22 eσ234 (of_decide_eq_true rfl)) 0).trans (congrFun (jnp 22 eσ230 (of_decide_eq_true rfl)) 0)) ((congrFun (jnp 22 eσ234 (of_decide_eq_true rfl)) 1).trans (congrFun (jnp 22 eσ230 (of_decide_eq_true rfl)) 1)) ((jnp 23 eσ234 (of_decide_eq_true rfl)).trans (jnp 23 eσ230 (of_decide_eq_true rfl))) ((congrFun (jnp 26 eσ234 (of_decide_eq_true rfl)) 6).trans (congrFun (jnp 26 eσ230 (of_decide_eq_true rfl)) 6)) ((congrFun (jnp 26 eσ234 (of_decide_eq_true rfl)) 7).trans (congrFun (jnp 26 eσ230 (of_decide_eq_true rfl)) 7)) ((jnp 29 eσ234 (of_decide_eq_true rfl)).trans (jnp 29 eσ230 (of_decide_eq_true rfl))) ((jnp 30 eσ234 (of_decide_eq_true rfl)).trans (jnp 30 eσ230 (of_decide_eq_true rfl))) p169
                                                      have p238 : jNz σ234 := jNz.fr (jnp 34 eσ234 (of_decide_eq_true rfl)) p232
                                                      have z239 : (σ234 31 8).toInt = (σ 31 8).toInt := (congrArg Int32.toInt (show σ234 31 8 = (σ 31 8) from ((congrFun (jnp 31 eσ234 (of_decide_eq_true rfl)) 8).trans ((congrFun (jnp 31 eσ230 (of_decide_eq_true rfl)) 8).trans ((congrFun (f167 31 (of_decide_eq_true rfl)) 8).trans ((congrFun (f136 31 (of_decide_eq_true rfl)) 8).trans ((congrFun (f82 31 (of_decide_eq_true rfl)) 8).trans ((congrFun (jnp 31 eσ61 (of_decide_eq_true rfl)) 8).trans (congrFun (f43 31 (of_decide_eq_true rfl)) 8)))))))))
                                                      have z240 : (σ234 31 10).toInt = (σ 31 10).toInt := (congrArg Int32.toInt (show σ234 31 10 = (σ 31 10) from ((congrFun (jnp 31 eσ234 (of_decide_eq_true rfl)) 10).trans ((congrFun (jnp 31 eσ230 (of_decide_eq_true rfl)) 10).trans ((congrFun (f167 31 (of_decide_eq_true rfl)) 10).trans m159)))))
                                                      have z241 : (σ234 31 11).toInt = (σ 31 11).toInt := (congrArg Int32.toInt (show σ234 31 11 = (σ 31 11) from ((congrFun (jnp 31 eσ234 (of_decide_eq_true rfl)) 11).trans ((congrFun (jnp 31 eσ230 (of_decide_eq_true rfl)) 11).trans ((congrFun (f167 31 (of_decide_eq_true rfl)) 11).trans ((congrFun (f136 31 (of_decide_eq_true rfl)) 11).trans ((congrFun (f82 31 (of_decide_eq_true rfl)) 11).trans ((congrFun (jnp 31 eσ61 (of_decide_eq_true rfl)) 11).trans (congrFun (f43 31 (of_decide_eq_true rfl)) 11)))))))))
                                                      have w242 : ∀ k : Nat, k < 1400 → (-1) ≤ (σ234 33 k).toInt ∧ (σ234 33 k).toInt ≤ 350 := (jrr_fr (jnp 33 eσ234 (of_decide_eq_true rfl)) (jrr_fr (jnp 33 eσ230 (of_decide_eq_true rfl)) (jrr_fr (f167 33 (of_decide_eq_true rfl)) w146)))
                                                      exact by
                                                       have w243 : ∀ k : Nat, k < 3159 → (-1) ≤ (σ234 35 k).toInt ∧ (σ234 35 k).toInt ≤ 3 := (by rw [eσ234]; exact jrr_up (jrr_fr (jnp 35 eσ230 (of_decide_eq_true rfl)) w180) (by omega) (by omega))
                                                       have w244 : ∀ k : Nat, k < 1024 → 0 ≤ (σ234 36 k).toInt ∧ (σ234 36 k).toInt ≤ 349 := (jrr_fr (jnp 36 eσ234 (of_decide_eq_true rfl)) (jrr_fr (jnp 36 eσ230 (of_decide_eq_true rfl)) (jrr_fr (f167 36 (of_decide_eq_true rfl)) w148)))
                                                       have I245 : jI31 σ234 := ⟨(by omega), (by omega), (by omega), (by omega), w242, w243, w244⟩
                                                       have k246 := jofn4_eq (c := (x65 : Int32).toInt.toNat) (b := x65) (by omega) (by omega)
                                                       have k247 : r111.toInt = jst x13 (x65 : Int32).toInt.toNat := by unfold jst; rw [← k246]; have w9 := congrArg Int32.toInt w112; omega
                                                       have k248 : (r157 : Int32).toInt = jRnc σ (x65 : Int32).toInt.toNat ((σ 1 x126.toNatClampNeg).toInt) (jst x13 (x65 : Int32).toInt.toNat) := by rw [← k247]; exact jRnc_of (w158 (by omega)) ((f136 28 (of_decide_eq_true rfl)).trans ((f82 28 (of_decide_eq_true rfl)).trans ((jnp 28 eσ61 (of_decide_eq_true rfl)).trans (f43 28 (of_decide_eq_true rfl))))) (by omega) (by omega) (by omega) (by omega)
                                                       have k249 : jGb σ130 = jGb σ := by unfold jGb; rw [show σ130 23 = σ 23 from ((f136 23 (of_decide_eq_true rfl)).trans ((f82 23 (of_decide_eq_true rfl)).trans ((jnp 23 eσ61 (of_decide_eq_true rfl)).trans (f43 23 (of_decide_eq_true rfl))))), show σ130 22 0 = σ 22 0 from ((congrFun (f136 22 (of_decide_eq_true rfl)) 0).trans ((congrFun (f82 22 (of_decide_eq_true rfl)) 0).trans ((congrFun (jnp 22 eσ61 (of_decide_eq_true rfl)) 0).trans (congrFun (f43 22 (of_decide_eq_true rfl)) 0))))]
                                                       have k250 : r118.toInt = jlf x13 (x65 : Int32).toInt.toNat := by unfold jlf; rw [← k246]; have w9 := congrArg Int32.toInt w119; omega
                                                       have k251 : (r166 : Int32).toInt = jChc σ (x65 : Int32).toInt.toNat ((σ 1 x126.toNatClampNeg).toInt) (jst x13 (x65 : Int32).toInt.toNat) (jlf x13 (x65 : Int32).toInt.toNat) ((σ 31 10).toInt + (x15 : Int32).toInt) (x126 : Int32).toInt := by rw [← k247, ← k250]; exact jChc_of (w170 (by omega)) ((f136 27 (of_decide_eq_true rfl)).trans ((f82 27 (of_decide_eq_true rfl)).trans ((jnp 27 eσ61 (of_decide_eq_true rfl)).trans (f43 27 (of_decide_eq_true rfl))))) k249 (by omega) (by omega) (by omega) (by omega) (jwd_of (show r118.toInt = r118.toInt from by omega) (by omega) (by omega)) (jwd_of (show x162.toInt = ((σ 31 10).toInt + (x15 : Int32).toInt) from by have h9 := tx162; omega) (by omega) (by omega)) (jwd_of (show x126.toInt = (x126 : Int32).toInt from by omega) (by omega) (by omega))
                                                       exact by
                                                        have z252 : (σ234 16 2).toInt = (σ 16 2).toInt := (congrArg Int32.toInt (show σ234 16 2 = (σ 16 2) from ((congrFun (jnp 16 eσ234 (of_decide_eq_true rfl)) 2).trans ((congrFun (jnp 16 eσ230 (of_decide_eq_true rfl)) 2).trans ((congrFun (f167 16 (of_decide_eq_true rfl)) 2).trans ((congrFun (f136 16 (of_decide_eq_true rfl)) 2).trans ((congrFun (f82 16 (of_decide_eq_true rfl)) 2).trans ((congrFun (jnp 16 eσ61 (of_decide_eq_true rfl)) 2).trans (congrFun (f43 16 (of_decide_eq_true rfl)) 2)))))))))
                                                        have z253 : (σ234 16 0).toInt = (σ 16 0).toInt := (congrArg Int32.toInt (show σ234 16 0 = (σ 16 0) from ((congrFun (jnp 16 eσ234 (of_decide_eq_true rfl)) 0).trans ((congrFun (jnp 16 eσ230 (of_decide_eq_true rfl)) 0).trans ((congrFun (f167 16 (of_decide_eq_true rfl)) 0).trans ((congrFun (f136 16 (of_decide_eq_true rfl)) 0).trans ((congrFun (f82 16 (of_decide_eq_true rfl)) 0).trans ((congrFun (jnp 16 eσ61 (of_decide_eq_true rfl)) 0).trans m58))))))))
                                                        have z254 : (σ165 16 2).toInt = (σ 16 2).toInt := (congrArg Int32.toInt (show σ165 16 2 = (σ 16 2) from ((congrFun (f167 16 (of_decide_eq_true rfl)) 2).trans ((congrFun (f136 16 (of_decide_eq_true rfl)) 2).trans ((congrFun (f82 16 (of_decide_eq_true rfl)) 2).trans ((congrFun (jnp 16 eσ61 (of_decide_eq_true rfl)) 2).trans (congrFun (f43 16 (of_decide_eq_true rfl)) 2)))))))
                                                        have k255 : jqPr σ 1 (A1).toNat (A3) (A4) → (r177 : Int32).toInt = jqG σ 1 x13 (x15 : Int32).toInt (x126 : Int32).toInt.toNat (x65 : Int32).toInt.toNat ∧ jMy4 (jla x13) (jlf x13) (x65 : Int32).toInt.toNat = true := fun pr => jqG_of (w2 := 0) (k4 := x105.toNatClampNeg) (x := x174.toInt) (y := x175.toInt) (s := (σ 1 x126.toNatClampNeg).toInt) pr hs_jKg (q141 pr) k18 (by omega) (by rw [jnc (show x105.toInt = 4 * (A1) + (x65 : Int32).toInt by omega)]; omega) (by have h9 := tx108; omega) (by omega) (by omega) (by omega) (by omega) (by omega) (by have h7 := pr.2.1; omega) (by omega) (by omega) (by omega) (by unfold jmx; split <;> omega) rfl k248 k251 (by have h9 := tx108; omega) (by have h9 := tx108; omega) rfl rfl (by omega) (show (σ165 16 2).toInt = (σ 16 2).toInt by omega) w178
                                                        exact by exact ihlp124 x235 σ234 _ _ ls (by have h90 := tx235; omega) (by have h90 := tx235; omega) (by have h90 := tx235; omega) (by have h90 := tx235; omega) (fun i hi => ((jnp i eσ234 (imp_97 i hi)).trans ((jnp i eσ230 (imp_95 i hi)).trans ((f167 i (imp_98 i hi)).trans (f136 i hi)))))   p236 p237 p238 I245 (fun pr => jqJd.set (q141 pr) (by omega) (by omega) (by omega) (by have h7 := pr.2.1; omega) (by omega) (k255 pr).2 (by rw [k182, k212]; omega) (k255 pr).1 (by rw [eσ234, jup_n (of_decide_eq_true rfl), eσ230, jup_row, f167 34 (of_decide_eq_true rfl), jnc (show x229.toInt = 9 * (((A1).toNat : Nat) : Int) + (x126 : Int32).toInt by have h9 := tx229; omega)]) rfl (by rw [eσ234, jup_row, eσ230, jup_n (of_decide_eq_true rfl), f167 35 (of_decide_eq_true rfl), jnc (show x233.toInt = 9 * (((A1).toNat : Nat) : Int) + (x126 : Int32).toInt by have h9 := tx233; omega)]) rfl (by omega) (by have h9 := tx235; omega)) hP hS (lv_sub hl [0, 4, 5, 6, 7, 8, 9, 10, 11, 12, 13, 14, 15, 16, 17] rfl)
                             exact by exact lp124 1000000 x22 σ73 _ _ ls (by omega) (by omega) (by omega) (by omega) (fun _ _ => rfl)  p83 p84 p85 p86 (fun pr => (q87 pr).into (by omega)) hP hS hl
                           · have kc109 := jnle c109 jz_0 tx108
                             refine lv_goto (tgt := 310) hx hb dX1_judge_140 (of_decide_eq_true rfl) ?_
                             obtain ⟨x256, ex256⟩ : ∃ y : Int32, y = x65 + 1 := ⟨_, rfl⟩
                             exact by
                              have tx256 : x256.toInt = x65.toInt + 1 := (jadd ex256 rfl jz_1 (by omega) (by omega)).trans (by omega)
                              refine lv_iinc (v := x256) (lv' := [(10, .int x256), (11, .int x108), (7, .int x19), (6, .int x15), (5, .int x13), (0, .ref (ad 31)), (1, .int a1), (2, .ref (ad 1)), (3, .int a3), (4, .int a4), (8, .int x22), (9, .int x23)]) hx hb dX1_judge_310 hl (k := 1) rfl (by rw [ex256]; rfl) (of_decide_eq_true rfl) rfl (fun ls hl => ?_)
                              refine lv_goto (tgt := 113) hx hb dX1_judge_313 (of_decide_eq_true rfl) ?_
                              exact by exact ihlp63 x256 σ73 _ _ ls (by have h90 := tx256; omega) (by have h90 := tx256; omega) (by have h90 := tx256; omega) (fun i hi => (f82 i hi))   p83 p84 p85 p86 (fun pr => (q87 pr).skip (((hs_jKg pr.1).2.2.2.2 (A1).toNat (x65 : Int32).toInt.toNat (by omega) (Or.inl ⟨by omega, by omega⟩)).no k18 (by rw [show 4 * (A1).toNat + (x65 : Int32).toInt.toNat = x105.toNatClampNeg from by rw [jnc (show x105.toInt = 4 * (A1) + (x65 : Int32).toInt by omega)]; omega]; have h9 := tx108; omega)) (by omega) (by have h9 := tx256; omega)) hP hS (lv_sub hl [0, 2, 3, 4, 5, 6, 7, 8, 9, 10, 11] rfl)
                 exact by exact lp63 1000000 0 σ61 _ _ ls (by have h90 := jz_0; omega) (by have h90 := jz_0; omega) (by have h90 := jz_0; omega) (fun _ _ => rfl)  p76 p77 p62 I74 (by rw [show σ61 35 = σ36 35 from (jnp 35 eσ61 (of_decide_eq_true rfl))]; exact (fun pr => jqJi.fin (e := (x23 : Int32).toInt) q46 (by omega) (by omega) (by omega) (by have h7 := pr.2.1; omega) (by omega) (by rw [eσ61, jup_row, jnc (show x60.toInt = 9 * (((A1).toNat : Nat) : Int) + (σ 16 0).toInt by have h9 := tx60; omega)]) (of_decide_eq_true rfl) (by have h9 := jz_0; omega))) hP hS hl
             · have kc57 := jnlt c57 rfl rfl
               refine lv_aload_n hx hb dX1_judge_66 rfl (lv_at hl 4 rfl) ?_
               refine va_get (D := D) hx hb hts inlX1 hown hK hP 31 (jc_31 cI cL ad σ36 τ) rfl 4 (of_decide_eq_true rfl) (hts _ kw_5_5) (fun _ h9 => h9) rfl dX1_judge_67 ?_
               refine lv_iload hx hb dX1_judge_70 (lv_at hl 1 rfl) ?_
               exact by
                refine lv_iload hx hb dX1_judge_72 (lv_at hl 0 rfl) ?_
                have g257 := jrg (rfl : x35.toInt = x35.toInt)
                refine lv_iadd hx hb dX1_judge_74 ?_
                refine lv_topi (fun x258 ex258 => ?_)
                have tx258 : x258.toInt = 9 * A1 + x35.toInt := (jadd ex258 tx19 rfl (by omega) (by omega)).trans (by omega)
                refine lv_iconst (v := 0) hx hb dX1_judge_75 (of_decide_eq_true rfl) ?_
                refine jast hx hb hK hP hJ hA hS (jc_34 cI cL ad σ36 τ) (ja_34 cI cL ad σ36 τ _ _) (jin tx258 (by omega) (by omega)) dX1_judge_76 (fun σ259 H locs eσ259 hP hS => ?_)
                have p260 : jNz σ259 := (jNz.put p44 eσ259 (jnat (x := x258) tx258 (n := 3150) (by omega) (of_decide_eq_true rfl)))
                refine lv_aload_n hx hb dX1_judge_77 rfl (lv_at hl 4 rfl) ?_
                exact by
                 refine va_get (D := D) hx hb hts inlX1 hown hK hP 31 (jc_31 cI cL ad σ259 τ) rfl 5 (of_decide_eq_true rfl) (hts _ kw_5_6) (fun _ h9 => h9) rfl dX1_judge_78 ?_
                 refine lv_iload hx hb dX1_judge_81 (lv_at hl 1 rfl) ?_
                 refine lv_iload hx hb dX1_judge_83 (lv_at hl 0 rfl) ?_
                 refine lv_iadd hx hb dX1_judge_85 ?_
                 refine lv_topi (fun x261 ex261 => ?_)
                 have tx261 : x261.toInt = 9 * A1 + x35.toInt := (jadd ex261 tx19 rfl (by omega) (by omega)).trans (by omega)
                 refine lv_iconst (v := (-1)) hx hb dX1_judge_86 (of_decide_eq_true rfl) ?_
                 refine jast hx hb hK hP hJ hA hS (jc_35 cI cL ad σ259 τ) (ja_35 cI cL ad σ259 τ _ _) (jin tx261 (by omega) (by omega)) dX1_judge_87 (fun σ262 H locs eσ262 hP hS => ?_)
                 obtain ⟨x263, ex263⟩ : ∃ y : Int32, y = x35 + 1 := ⟨_, rfl⟩
                 exact by
                  have tx263 : x263.toInt = x35.toInt + 1 := (jadd ex263 rfl jz_1 (by omega) (by omega)).trans (by omega)
                  refine lv_iinc (v := x263) (lv' := [(10, .int x263), (7, .int x19), (6, .int x15), (5, .int x13), (0, .ref (ad 31)), (1, .int a1), (2, .ref (ad 1)), (3, .int a3), (4, .int a4), (8, .int x22), (9, .int x23)]) hx hb dX1_judge_88 hl (k := 0) rfl (by rw [ex263]; rfl) (of_decide_eq_true rfl) rfl (fun ls hl => ?_)
                  refine lv_goto (tgt := 59) hx hb dX1_judge_91 (of_decide_eq_true rfl) ?_
                  have p264 : jNz σ262 := jNz.fr (jnp 34 eσ262 (of_decide_eq_true rfl)) p260
                  have z265 : (σ262 31 8).toInt = (σ 31 8).toInt := (congrArg Int32.toInt (show σ262 31 8 = (σ 31 8) from ((congrFun (jnp 31 eσ262 (of_decide_eq_true rfl)) 8).trans ((congrFun (jnp 31 eσ259 (of_decide_eq_true rfl)) 8).trans (congrFun (f43 31 (of_decide_eq_true rfl)) 8)))))
                  have z266 : (σ262 31 10).toInt = (σ 31 10).toInt := (congrArg Int32.toInt (show σ262 31 10 = (σ 31 10) from ((congrFun (jnp 31 eσ262 (of_decide_eq_true rfl)) 10).trans ((congrFun (jnp 31 eσ259 (of_decide_eq_true rfl)) 10).trans (congrFun (f43 31 (of_decide_eq_true rfl)) 10)))))
                  have z267 : (σ262 31 11).toInt = (σ 31 11).toInt := (congrArg Int32.toInt (show σ262 31 11 = (σ 31 11) from ((congrFun (jnp 31 eσ262 (of_decide_eq_true rfl)) 11).trans ((congrFun (jnp 31 eσ259 (of_decide_eq_true rfl)) 11).trans (congrFun (f43 31 (of_decide_eq_true rfl)) 11)))))
                  have w268 : ∀ k : Nat, k < 1400 → (-1) ≤ (σ262 33 k).toInt ∧ (σ262 33 k).toInt ≤ 350 := (jrr_fr (jnp 33 eσ262 (of_decide_eq_true rfl)) (jrr_fr (jnp 33 eσ259 (of_decide_eq_true rfl)) w51))
                  have w269 : ∀ k : Nat, k < 3159 → (-1) ≤ (σ262 35 k).toInt ∧ (σ262 35 k).toInt ≤ 3 := (by rw [eσ262]; exact jrr_up (jrr_fr (jnp 35 eσ259 (of_decide_eq_true rfl)) w52) (by have h9 := jz_m1; omega) (by have h9 := jz_m1; omega))
                  exact by
                   have w270 : ∀ k : Nat, k < 1024 → 0 ≤ (σ262 36 k).toInt ∧ (σ262 36 k).toInt ≤ 349 := (jrr_fr (jnp 36 eσ262 (of_decide_eq_true rfl)) (jrr_fr (jnp 36 eσ259 (of_decide_eq_true rfl)) w53))
                   have I271 : jI31 σ262 := ⟨(by omega), (by omega), (by omega), (by omega), w268, w269, w270⟩
                   exact by exact ihlp33 x263 σ262 _ _ ls (by have h90 := tx263; omega) (by have h90 := tx263; omega) (by have h90 := tx263; omega) (by have h90 := tx263; omega) (by have h90 := tx263; omega) (fun i hi => ((jnp i eσ262 (imp_99 i hi)).trans ((jnp i eσ259 (imp_100 i hi)).trans (f43 i hi))))   p264 I271 (jqJi.step q46 (by omega) (by omega) (by omega) (by rw [eσ262, jup_n (of_decide_eq_true rfl), eσ259, jup_row, jnc (show x258.toInt = 9 * (((A1).toNat : Nat) : Int) + (x35 : Int32).toInt by have h9 := tx258; omega)]) (of_decide_eq_true rfl) (by rw [eσ262, jup_row, eσ259, jup_n (of_decide_eq_true rfl), jnc (show x261.toInt = 9 * (((A1).toNat : Nat) : Int) + (x35 : Int32).toInt by have h9 := tx261; omega)]) (of_decide_eq_true rfl) (by have h9 := tx263; omega)) hP hS (lv_sub hl [0, 1, 2, 3, 4, 5, 6, 7, 8, 9, 10] rfl)
        exact by exact lp33 1000000 x22 σ _ _ ls (by omega) (by omega) (by omega) (by omega) (by omega) (fun _ _ => rfl)  hs_jNz hI31 (jqJi.first (by omega)) hP hS hl
     refine lv_iconst (v := 0) hx hb dX1_judge_28 (of_decide_eq_true rfl) ?_
     refine lv_iload_n hx hb dX1_judge_29 rfl (lv_at hl 6 rfl) ?_
     refine va_mmax hx hb (hml.trans hl.1.symm) hown (hts _ kw_28_5) (hts _ kw_21_0) (hts _ kw_21_1) (hts _ kw_21_2) (Nat.le_of_ble_eq_true rfl) (Nat.le_of_ble_eq_true rfl) (Nat.le_of_ble_eq_true rfl) (Nat.le_of_ble_eq_true rfl) dX1_judge_30 ?_
     refine lv_topi (fun x272 ex272 => ?_)
     have g273 := jmax ex272 jz_0 t3
     exact by
      refine lv_istore (lv' := [(8, .int x272), (7, .int x19), (6, .int x15), (5, .int x13), (0, .ref (ad 31)), (1, .int a1), (2, .ref (ad 1)), (3, .int a3), (4, .int a4)]) hx hb dX1_judge_33 hl (of_decide_eq_true rfl) rfl (fun ls hl => ?_)
      refine lv_iload hx hb dX1_judge_35 (lv_at hl 8 rfl) ?_
      refine lv_aload_n hx hb dX1_judge_37 rfl (lv_at hl 6 rfl) ?_
      refine jalen (v := 8) hx hb hK hP (jc_1 cI cL ad σ τ) (of_decide_eq_true rfl) dX1_judge_38 ?_
      refine lv_iconst (v := 1) hx hb dX1_judge_39 (of_decide_eq_true rfl) ?_
      refine lv_isub hx hb dX1_judge_40 ?_
      refine jtopr (y := 7) (of_decide_eq_true rfl) ?_
      refine va_mmin hx hb (hml.trans hl.1.symm) hown (hts _ kw_28_4) (hts _ kw_22_11) (hts _ kw_21_1) (hts _ kw_22_12) (Nat.le_of_ble_eq_true rfl) (Nat.le_of_ble_eq_true rfl) (Nat.le_of_ble_eq_true rfl) (Nat.le_of_ble_eq_true rfl) dX1_judge_41 ?_
      refine lv_topi (fun x274 ex274 => ?_)
      have g275 := jmin ex274 t4 jz_7
      refine lv_iload_n hx hb dX1_judge_44 rfl (lv_at hl 7 rfl) ?_
      refine lv_iconst (v := 1) hx hb dX1_judge_45 (of_decide_eq_true rfl) ?_
      refine lv_iadd hx hb dX1_judge_46 ?_
      refine lv_topi (fun x276 ex276 => ?_)
      exact by
       have tx276 : x276.toInt = A3 + 1 := (jadd ex276 t3 jz_1 (by omega) (by omega)).trans (by omega)
       refine lv_iload hx hb dX1_judge_47 (lv_at hl 2 rfl) ?_
       have g277 := jrg (rfl : x15.toInt = x15.toInt)
       refine lv_iadd hx hb dX1_judge_49 ?_
       refine lv_topi (fun x278 ex278 => ?_)
       have tx278 : x278.toInt = A3 + x15.toInt + 1 := (jadd ex278 tx276 rfl (by omega) (by omega)).trans (by omega)
       refine va_mmin hx hb (hml.trans hl.1.symm) hown (hts _ kw_28_4) (hts _ kw_22_11) (hts _ kw_21_1) (hts _ kw_22_12) (Nat.le_of_ble_eq_true rfl) (Nat.le_of_ble_eq_true rfl) (Nat.le_of_ble_eq_true rfl) (Nat.le_of_ble_eq_true rfl) dX1_judge_50 ?_
       refine lv_topi (fun x279 ex279 => ?_)
       have g280 := jmin ex279 rfl tx278
       exact by
        refine lv_istore (lv' := [(9, .int x279), (8, .int x272), (7, .int x19), (6, .int x15), (5, .int x13), (0, .ref (ad 31)), (1, .int a1), (2, .ref (ad 1)), (3, .int a3), (4, .int a4)]) hx hb dX1_judge_53 hl (of_decide_eq_true rfl) rfl (fun ls hl => ?_)
        exact by exact lp20 x272 x279 _ _ ls (by omega) (by omega) (by omega) (by omega) (by omega) (by omega) (by omega)    hP hS (lv_sub hl [2, 3, 4, 5, 6, 7, 8, 9, 1, 0] rfl)
set_option maxHeartbeats 4000000 in
set_option maxRecDepth 100000 in
theorem c_X1_seekFor_31_v1 (l : Launch) (D : va_G) (cI cL : ClassId) (ad zz : Nat → Nat) (hJ : jD ad) (σ : Nat → Nat → Int32) (τ : Nat → Nat → Int64) (a2 : Int32) (A2 : Int) (t2 : a2.toInt = A2) (a3 : Int32) (A3 : Int) (t3 : a3.toInt = A3) (a4 : Int32) (A4 : Int) (t4 : a4.toInt = A4) (a5 : Int32) (A5 : Int) (t5 : a5.toInt = A5) (hI16 : jI16 σ) (hI22 : jI22 σ) (hI31 : jI31 σ) (hI0 : jI0 σ) (hI26 : jI26 σ) (hs_jN67 : jN67 σ) (hs_jBl : jBl σ) (hs_jKb : jKb σ) (hs_jKh : jKh σ) (hs_jKg : jKg σ) (hs_jNz : jNz σ) (hp0 : 0 ≤ A2 ∧ A2 ≤ 134217727) (hp1 : 0 ≤ A3 ∧ A3 ≤ 12) (hp2 : 0 ≤ A4 ∧ A4 ≤ 12) : jMv l yX1_seekFor cX1_seekFor 7 none ({ frames := 4, cells := 0, slots := 0, locals := 113 }) D cI cL ad zz [.ref (ad 31), .ref (ad 1), .int a2, .int a3, .int a4, .int a5] σ τ (fun σ' τ' => τ = τ' ∧ (∀ i : Nat, (i < 24 ∨ 25 < i) ∧ (i < 29 ∨ 37 < i) → σ' i = σ i) ∧ (∀ k : Nat, (k < 8 ∨ 8 < k) ∧ (k < 9 ∨ 9 < k) ∧ (k < 10 ∨ 10 < k) ∧ (k < 11 ∨ 11 < k) ∧ (k < 12 ∨ 12 < k) → σ' 31 k = σ 31 k) ∧ (jI31 σ') ∧ (jN67 σ') ∧ (jBl σ') ∧ (jKb σ') ∧ (jKh σ') ∧ (jKg σ') ∧ (jNz σ') ∧ ((jqSp σ σ' 1 a2 (A4) (A5) → jqSr σ σ' 1 (A4) 0) ∧ ((σ' 31 12).toInt ≠ 0 ↔ (σ 22 1).toBitVec.getLsbD 5 = true)) ∧ (jqGk σ σ' a2 (σ' 31 11).toInt) ∧ ((σ' 31 9).toInt = A2) ∧ ((σ' 31 10).toInt = A3) ∧ (0 ≤ (σ' 31 12).toInt ∧ (σ' 31 12).toInt ≤ 1) ∧ (((σ' 31 11).toInt = 0 ∧ (σ 16 1).toInt - A3 ≤ 0) ∨ ((σ' 31 11).toInt = (σ 16 1).toInt - A3 ∧ 0 ≤ (σ 16 1).toInt - A3 ∧ (σ 16 1).toInt - A3 ≤ 8) ∨ ((σ' 31 11).toInt = 8 ∧ 8 ≤ (σ 16 1).toInt - A3)) ∧ True) := by
  refine jMv.of hJ (by decide +kernel) rfl (Nat.le_of_ble_eq_true rfl) ?_
  intro p e s m args below meth c Q ls hC hret hl hP
  obtain ⟨hx, hb, hr, hml, hown, hts, hK, -, hlocks, hZ⟩ := hC
  have hown : s.vm.findClass RX1 = some m.cls := hown
  have hS : va_S (jA ad) s.heap s.heap [] := va_S.rf
  have hA : ∀ q, jA ad q → jA ad q := fun _ h => h
  have hl : lv_has ls 7 [(0, .ref (ad 31)), (1, .ref (ad 1)), (2, .int a2), (3, .int a3), (4, .int a4), (5, .int a5)] := hl
  have g2 := jrg t2
  have g3 := jrg t3
  have g4 := jrg t4
  have g5 := jrg t5
  obtain ⟨i1, i2, i3, w4⟩ : (1 ≤ (σ 16 0).toInt ∧ (σ 16 0).toInt ≤ 8) ∧ (1 ≤ (σ 16 1).toInt ∧ (σ 16 1).toInt ≤ 12) ∧ (0 ≤ (σ 16 2).toInt ∧ (σ 16 2).toInt ≤ 999) ∧ (∀ k : Nat, k < 8 → 0 ≤ (σ 17 k).toInt ∧ (σ 17 k).toInt ≤ 3) := id hI16
  obtain ⟨i5, i6, i7, i8, w9, w10, w11⟩ : (0 ≤ (σ 31 8).toInt ∧ (σ 31 8).toInt ≤ 350) ∧ (0 ≤ (σ 31 10).toInt ∧ (σ 31 10).toInt ≤ 12) ∧ (0 ≤ (σ 31 11).toInt ∧ (σ 31 11).toInt ≤ 8) ∧ ((σ 31 10).toInt + (σ 31 11).toInt ≤ 12) ∧ (∀ k : Nat, k < 1400 → (-1) ≤ (σ 33 k).toInt ∧ (σ 33 k).toInt ≤ 350) ∧ (∀ k : Nat, k < 3159 → (-1) ≤ (σ 35 k).toInt ∧ (σ 35 k).toInt ≤ 3) ∧ (∀ k : Nat, k < 1024 → 0 ≤ (σ 36 k).toInt ∧ (σ 36 k).toInt ≤ 349) := id hI31
  refine lv_aload_n hx hb dX1_seekFor_0 rfl (lv_at hl 0 rfl) ?_
  refine lv_iload_n hx hb dX1_seekFor_1 rfl (lv_at hl 2 rfl) ?_
  refine lv_iload_n hx hb dX1_seekFor_2 rfl (lv_at hl 3 rfl) ?_
  exact by
   refine jcallVv (As := [.int a2, .int a3]) (rest := []) ⟨hx, hb, hml, hown, hts⟩ hK hP hA hS hZ (c_X1_grow_31 l D cI cL ad zz hJ σ τ a2 (A2) t2 a3 (A3) t3 hI16 hI31 hs_jKb hs_jKh hs_jKg (by omega) (by omega)) cw_RX1_54 (jc_31 cI cL ad σ τ) rfl ⟨Nat.le_of_ble_eq_true rfl, Nat.le_of_ble_eq_true rfl⟩ rfl rfl rfl hl.1 rfl (Nat.le_of_ble_eq_true rfl) dX1_seekFor_3 ⟨Nat.zero_le _, Nat.zero_le _⟩ (fun σ12 τ12 H locs h12 hP hS => ?_)
   obtain ⟨rfl, f14, f15, I16, p17, p18, p19, w20, w21, h12⟩ := h12
   obtain ⟨i23, i24, i25, i26, w27, w28, w29⟩ : (0 ≤ (σ12 31 8).toInt ∧ (σ12 31 8).toInt ≤ 350) ∧ (0 ≤ (σ12 31 10).toInt ∧ (σ12 31 10).toInt ≤ 12) ∧ (0 ≤ (σ12 31 11).toInt ∧ (σ12 31 11).toInt ≤ 8) ∧ ((σ12 31 10).toInt + (σ12 31 11).toInt ≤ 12) ∧ (∀ k : Nat, k < 1400 → (-1) ≤ (σ12 33 k).toInt ∧ (σ12 33 k).toInt ≤ 350) ∧ (∀ k : Nat, k < 3159 → (-1) ≤ (σ12 35 k).toInt ∧ (σ12 35 k).toInt ≤ 3) ∧ (∀ k : Nat, k < 1024 → 0 ≤ (σ12 36 k).toInt ∧ (σ12 36 k).toInt ≤ 349) := id I16
   obtain ⟨k30, k31, k32, k33, h12⟩ := h12
   refine lv_aload_n hx hb dX1_seekFor_6 rfl (lv_at hl 0 rfl) ?_
   refine va_get (D := D) hx hb hts inlX1 hown hK hP 31 (jc_31 cI cL ad σ12 τ) rfl 8 (of_decide_eq_true rfl) (hts _ kw_27_22) (fun _ h9 => h9) rfl dX1_seekFor_7 ?_
   refine lv_iconst (v := 1) hx hb dX1_seekFor_10 (of_decide_eq_true rfl) ?_
   have g34 := jrg (rfl : (σ12 31 8).toInt = (σ12 31 8).toInt)
   refine lv_isub hx hb dX1_seekFor_11 ?_
   refine lv_topi (fun x35 ex35 => ?_)
   exact by
    have tx35 : x35.toInt = (σ12 31 8).toInt - 1 := (jsub ex35 rfl jz_1 (by omega) (by omega)).trans (by omega)
    refine lv_istore (lv' := [(6, .int x35), (0, .ref (ad 31)), (1, .ref (ad 1)), (2, .int a2), (3, .int a3), (4, .int a4), (5, .int a5)]) hx hb dX1_seekFor_12 hl (of_decide_eq_true rfl) rfl (fun ls hl => ?_)
    have z40 : (σ12 16 1).toInt = (σ 16 1).toInt := (congrArg Int32.toInt (show σ12 16 1 = (σ 16 1) from (congrFun (f14 16 (of_decide_eq_true rfl)) 1)))
    have p42 : jN67 σ12 := jN67.fr (f14 24 (of_decide_eq_true rfl)) hs_jN67
    have p43 : jBl σ12 := jBl.fr (congrFun (f14 22 (of_decide_eq_true rfl)) 0) (congrFun (f14 22 (of_decide_eq_true rfl)) 1) (f14 23 (of_decide_eq_true rfl)) (congrFun (f14 26 (of_decide_eq_true rfl)) 6) (congrFun (f14 26 (of_decide_eq_true rfl)) 7) (f14 29 (of_decide_eq_true rfl)) (f14 30 (of_decide_eq_true rfl)) hs_jBl
    have p44 : jNz σ12 := jNz.fr (f14 34 (of_decide_eq_true rfl)) hs_jNz
    have lp36 : ∀ (n37 : Nat) (x38 : Int32) (σ39 : Nat → Nat → Int32) (H : Heap) (locs : List Loc) (ls : Array Slot), (x38.toInt + 1 : Int) < n37 → (-1) ≤ x38.toInt → x38.toInt ≤ 349 → x38.toInt < (σ39 31 8).toInt → (σ39 31 9).toInt = A2 → (σ39 31 10).toInt = A3 → 0 ≤ (σ39 31 12).toInt ∧ (σ39 31 12).toInt ≤ 1 → (((σ39 31 11).toInt = 0 ∧ (σ39 16 1).toInt - A3 ≤ 0) ∨ ((σ39 31 11).toInt = (σ39 16 1).toInt - A3 ∧ 0 ≤ (σ39 16 1).toInt - A3 ∧ (σ39 16 1).toInt - A3 ≤ 8) ∨ ((σ39 31 11).toInt = 8 ∧ 8 ≤ (σ39 16 1).toInt - A3)) → (∀ i : Nat, (i < 24 ∨ 25 < i) ∧ (i < 29 ∨ 30 < i) ∧ (i < 34 ∨ 35 < i) → σ39 i = σ12 i) → jN67 σ39 → jBl σ39 → jNz σ39 → jI31 σ39 → ((jqSp σ σ39 1 a2 (A4) (A5) → jqSr σ σ39 1 (A4) ((x38 : Int32).toInt + 1))) → jH D cI cL ad σ39 τ H → va_S (jA ad) s.heap H locs → lv_has ls 7 [(6, .int x38), (0, .ref (ad 31)), (1, .ref (ad 1)), (2, .int a2), (3, .int a3), (4, .int a4), (5, .int a5)] → W p l e ({ frames := 4, cells := 0, slots := 0, locals := 113 }) s m args below meth c H locs 0 0 Q (F0 m 14 ls []) := by
      intro n37
      induction n37 with
      | zero => intro x38 σ39 H locs ls h45 h46 h47 h48 h49 h50 h51 h52; exact absurd h45 (by omega)
      | succ n37 ihlp36 =>
        intro x38 σ39 H locs ls h45 h46 h47 h48 h49 h50 h51 h52 f53 p54 p55 p56 p57 q58 hP hS hl
        exact by
         obtain ⟨i59, i60, i61, i62, w63, w64, w65⟩ : (0 ≤ (σ39 31 8).toInt ∧ (σ39 31 8).toInt ≤ 350) ∧ (0 ≤ (σ39 31 10).toInt ∧ (σ39 31 10).toInt ≤ 12) ∧ (0 ≤ (σ39 31 11).toInt ∧ (σ39 31 11).toInt ≤ 8) ∧ ((σ39 31 10).toInt + (σ39 31 11).toInt ≤ 12) ∧ (∀ k : Nat, k < 1400 → (-1) ≤ (σ39 33 k).toInt ∧ (σ39 33 k).toInt ≤ 350) ∧ (∀ k : Nat, k < 3159 → (-1) ≤ (σ39 35 k).toInt ∧ (σ39 35 k).toInt ≤ 3) ∧ (∀ k : Nat, k < 1024 → 0 ≤ (σ39 36 k).toInt ∧ (σ39 36 k).toInt ≤ 349) := id p57
         have z66 : (σ39 31 8).toInt = (σ12 31 8).toInt := (congrArg Int32.toInt (show σ39 31 8 = (σ12 31 8) from (congrFun (f53 31 (of_decide_eq_true rfl)) 8)))
         have z67 : (σ39 31 10).toInt = (σ12 31 10).toInt := (congrArg Int32.toInt (show σ39 31 10 = (σ12 31 10) from (congrFun (f53 31 (of_decide_eq_true rfl)) 10)))
         have z68 : (σ39 31 11).toInt = (σ12 31 11).toInt := (congrArg Int32.toInt (show σ39 31 11 = (σ12 31 11) from (congrFun (f53 31 (of_decide_eq_true rfl)) 11)))
         have z69 : (σ39 31 9).toInt = (σ12 31 9).toInt := (congrArg Int32.toInt (show σ39 31 9 = (σ12 31 9) from (congrFun (f53 31 (of_decide_eq_true rfl)) 9)))
         have z70 : (σ39 16 1).toInt = (σ 16 1).toInt := (congrArg Int32.toInt (show σ39 16 1 = (σ 16 1) from ((congrFun (f53 16 (of_decide_eq_true rfl)) 1).trans (congrFun (f14 16 (of_decide_eq_true rfl)) 1))))
         have z71 : (σ39 31 12).toInt = (σ12 31 12).toInt := (congrArg Int32.toInt (show σ39 31 12 = (σ12 31 12) from (congrFun (f53 31 (of_decide_eq_true rfl)) 12)))
         refine lv_iload hx hb dX1_seekFor_14 (lv_at hl 0 rfl) ?_
         refine lv_if_lt (tgt := 36) hx hb dX1_seekFor_16 (of_decide_eq_true rfl) (fun c72 => ?_) (fun c72 => ?_)
         · have kc72 := jlt c72 rfl jz_0
           have p73 : jKb σ39 := jKb.fr (congrFun (f53 31 (of_decide_eq_true rfl)) 8) (congrFun (f53 31 (of_decide_eq_true rfl)) 11) (f53 32 (of_decide_eq_true rfl)) p17
           have p74 : jKh σ39 := jKh.fr (congrFun (f53 31 (of_decide_eq_true rfl)) 8) (f53 32 (of_decide_eq_true rfl)) (f53 36 (of_decide_eq_true rfl)) (f53 37 (of_decide_eq_true rfl)) p18
           have p75 : jKg σ39 := jKg.fr (congrFun (f53 31 (of_decide_eq_true rfl)) 8) (congrFun (f53 31 (of_decide_eq_true rfl)) 9) (congrFun (f53 31 (of_decide_eq_true rfl)) 11) (congrFun (f53 31 (of_decide_eq_true rfl)) 12) (f53 32 (of_decide_eq_true rfl)) (f53 33 (of_decide_eq_true rfl)) p19
           exact by exact hret σ39 τ _ _ _ _ ⟨rfl, (fun i hi => ((f53 i (imp_101 i hi)).trans (f14 i (imp_102 i hi)))), (fun i hi => ((congrFun (f53 31 (of_decide_eq_true rfl)) i).trans (f15 i hi))), p57, p54, p55, p73, p74, p75, p56, ⟨(fun z => by have w := q58 z; rw [show (x38 : Int32).toInt + 1 = 0 from by omega] at w; exact w), (by rw [show σ39 31 12 = σ12 31 12 from (congrFun (f53 31 (of_decide_eq_true rfl)) 12)]; exact w20)⟩, (by have w9 := w21; unfold jqGk at w9 ⊢; rw [show σ39 31 8 = σ12 31 8 from (congrFun (f53 31 (of_decide_eq_true rfl)) 8), show σ39 31 11 = σ12 31 11 from (congrFun (f53 31 (of_decide_eq_true rfl)) 11), show σ39 32 = σ12 32 from (f53 32 (of_decide_eq_true rfl))]; exact w9), (by omega), (by omega), (by omega), (by omega), trivial⟩ hP hS dX1_seekFor_36
         · have kc72 := jnlt c72 rfl jz_0
           refine lv_aload_n hx hb dX1_seekFor_19 rfl (lv_at hl 1 rfl) ?_
           refine lv_iload hx hb dX1_seekFor_20 (lv_at hl 0 rfl) ?_
           refine lv_aload_n hx hb dX1_seekFor_22 rfl (lv_at hl 2 rfl) ?_
           refine lv_iload hx hb dX1_seekFor_23 (lv_at hl 5 rfl) ?_
           refine lv_iload hx hb dX1_seekFor_25 (lv_at hl 6 rfl) ?_
           have I76 : jI16 σ39 := jI16_fr ((congrFun (f53 16 (of_decide_eq_true rfl)) 0).trans (congrFun (f14 16 (of_decide_eq_true rfl)) 0)) ((congrFun (f53 16 (of_decide_eq_true rfl)) 1).trans (congrFun (f14 16 (of_decide_eq_true rfl)) 1)) ((congrFun (f53 16 (of_decide_eq_true rfl)) 2).trans (congrFun (f14 16 (of_decide_eq_true rfl)) 2)) ((f53 17 (of_decide_eq_true rfl)).trans (f14 17 (of_decide_eq_true rfl))) hI16
           have I77 : jI22 σ39 := jI22_fr ((congrFun (f53 22 (of_decide_eq_true rfl)) 0).trans (congrFun (f14 22 (of_decide_eq_true rfl)) 0)) ((f53 23 (of_decide_eq_true rfl)).trans (f14 23 (of_decide_eq_true rfl))) hI22
           have I78 : jI0 σ39 := jI0_fr ((f53 1 (of_decide_eq_true rfl)).trans (f14 1 (of_decide_eq_true rfl))) hI0
           have I79 : jI26 σ39 := jI26_fr ((congrFun (f53 26 (of_decide_eq_true rfl)) 6).trans (congrFun (f14 26 (of_decide_eq_true rfl)) 6)) hI26
           have p80 : jKb σ39 := jKb.fr (congrFun (f53 31 (of_decide_eq_true rfl)) 8) (congrFun (f53 31 (of_decide_eq_true rfl)) 11) (f53 32 (of_decide_eq_true rfl)) p17
           have p81 : jKg σ39 := jKg.fr (congrFun (f53 31 (of_decide_eq_true rfl)) 8) (congrFun (f53 31 (of_decide_eq_true rfl)) 9) (congrFun (f53 31 (of_decide_eq_true rfl)) 11) (congrFun (f53 31 (of_decide_eq_true rfl)) 12) (f53 32 (of_decide_eq_true rfl)) (f53 33 (of_decide_eq_true rfl)) p19
           exact by
            refine jcallVv (As := [.int x38, .ref (ad 1), .int a4, .int a5]) (rest := []) ⟨hx, hb, hml, hown, hts⟩ hK hP hA hS hZ (c_X1_judge_31_v1 l D cI cL ad zz hJ σ39 τ x38 (x38.toInt) rfl a4 (A4) t4 a5 (A5) t5 I76 I77 p57 I78 I79 p54 p55 p80 p81 p56 (by omega) (by omega) (by omega)) cw_RX1_61 (jc_31 cI cL ad σ39 τ) rfl ⟨Nat.le_of_ble_eq_true rfl, Nat.le_of_ble_eq_true rfl⟩ rfl rfl rfl hl.1 rfl (Nat.le_of_ble_eq_true rfl) dX1_seekFor_27 ⟨Nat.zero_le _, Nat.zero_le _⟩ (fun σ82 τ82 H locs h82 hP hS => ?_)
            obtain ⟨rfl, f84, I85, p86, p87, p88, p89, p90, w91, h82⟩ := h82
            obtain ⟨i93, i94, i95, i96, w97, w98, w99⟩ : (0 ≤ (σ82 31 8).toInt ∧ (σ82 31 8).toInt ≤ 350) ∧ (0 ≤ (σ82 31 10).toInt ∧ (σ82 31 10).toInt ≤ 12) ∧ (0 ≤ (σ82 31 11).toInt ∧ (σ82 31 11).toInt ≤ 8) ∧ ((σ82 31 10).toInt + (σ82 31 11).toInt ≤ 12) ∧ (∀ k : Nat, k < 1400 → (-1) ≤ (σ82 33 k).toInt ∧ (σ82 33 k).toInt ≤ 350) ∧ (∀ k : Nat, k < 3159 → (-1) ≤ (σ82 35 k).toInt ∧ (σ82 35 k).toInt ≤ 3) ∧ (∀ k : Nat, k < 1024 → 0 ≤ (σ82 36 k).toInt ∧ (σ82 36 k).toInt ≤ 349) := id I85
            have z100 : (σ82 31 8).toInt = (σ12 31 8).toInt := (congrArg Int32.toInt (show σ82 31 8 = (σ12 31 8) from ((congrFun (f84 31 (of_decide_eq_true rfl)) 8).trans (congrFun (f53 31 (of_decide_eq_true rfl)) 8))))
            have z101 : (σ82 31 10).toInt = (σ12 31 10).toInt := (congrArg Int32.toInt (show σ82 31 10 = (σ12 31 10) from ((congrFun (f84 31 (of_decide_eq_true rfl)) 10).trans (congrFun (f53 31 (of_decide_eq_true rfl)) 10))))
            have z102 : (σ82 31 11).toInt = (σ12 31 11).toInt := (congrArg Int32.toInt (show σ82 31 11 = (σ12 31 11) from ((congrFun (f84 31 (of_decide_eq_true rfl)) 11).trans (congrFun (f53 31 (of_decide_eq_true rfl)) 11))))
            obtain ⟨x103, ex103⟩ : ∃ y : Int32, y = x38 + (-1) := ⟨_, rfl⟩
            have tx103 : x103.toInt = x38.toInt - 1 := (jadd ex103 rfl jz_m1 (by omega) (by omega)).trans (by omega)
            refine lv_iinc (v := x103) (lv' := [(6, .int x103), (0, .ref (ad 31)), (1, .ref (ad 1)), (2, .int a2), (3, .int a3), (4, .int a4), (5, .int a5)]) hx hb dX1_seekFor_30 hl (k := 0) rfl (by rw [ex103]; rfl) (of_decide_eq_true rfl) rfl (fun ls hl => ?_)
            exact by
             refine lv_goto (tgt := 14) hx hb dX1_seekFor_33 (of_decide_eq_true rfl) ?_
             have z104 : (σ82 31 9).toInt = (σ12 31 9).toInt := (congrArg Int32.toInt (show σ82 31 9 = (σ12 31 9) from ((congrFun (f84 31 (of_decide_eq_true rfl)) 9).trans (congrFun (f53 31 (of_decide_eq_true rfl)) 9))))
             have z105 : (σ82 16 1).toInt = (σ 16 1).toInt := (congrArg Int32.toInt (show σ82 16 1 = (σ 16 1) from ((congrFun (f84 16 (of_decide_eq_true rfl)) 1).trans ((congrFun (f53 16 (of_decide_eq_true rfl)) 1).trans (congrFun (f14 16 (of_decide_eq_true rfl)) 1)))))
             have z106 : (σ82 31 12).toInt = (σ12 31 12).toInt := (congrArg Int32.toInt (show σ82 31 12 = (σ12 31 12) from ((congrFun (f84 31 (of_decide_eq_true rfl)) 12).trans (congrFun (f53 31 (of_decide_eq_true rfl)) 12))))
             have z107 : (σ39 16 0).toInt = (σ 16 0).toInt := (congrArg Int32.toInt (show σ39 16 0 = (σ 16 0) from ((congrFun (f53 16 (of_decide_eq_true rfl)) 0).trans (congrFun (f14 16 (of_decide_eq_true rfl)) 0))))
             exact by exact ihlp36 x103 σ82 _ _ ls (by have h90 := tx103; omega) (by have h90 := tx103; omega) (by have h90 := tx103; omega) (by have h90 := tx103; omega) (by have h90 := tx103; omega) (by have h90 := tx103; omega) (by have h90 := tx103; omega) (by have h90 := tx103; omega) (fun i hi => ((f84 i hi).trans (f53 i hi)))   p86 p87 p90 I85 (jqSr.step (i := (x38 : Int32).toInt) q58 w91 ((f53 27 (of_decide_eq_true rfl)).trans (f14 27 (of_decide_eq_true rfl))) ((f53 28 (of_decide_eq_true rfl)).trans (f14 28 (of_decide_eq_true rfl))) ((f53 23 (of_decide_eq_true rfl)).trans (f14 23 (of_decide_eq_true rfl))) ((congrFun (f53 22 (of_decide_eq_true rfl)) 0).trans (congrFun (f14 22 (of_decide_eq_true rfl)) 0)) ((f53 1 (of_decide_eq_true rfl)).trans (f14 1 (of_decide_eq_true rfl))) ((congrFun (f53 16 (of_decide_eq_true rfl)) 0).trans (congrFun (f14 16 (of_decide_eq_true rfl)) 0)) ((congrFun (f53 16 (of_decide_eq_true rfl)) 2).trans (congrFun (f14 16 (of_decide_eq_true rfl)) 2)) (congrFun (f84 31 (of_decide_eq_true rfl)) 8) (congrFun (f84 31 (of_decide_eq_true rfl)) 10) (congrFun (f84 31 (of_decide_eq_true rfl)) 11) (f84 32 (of_decide_eq_true rfl)) (show σ39 31 9 = a2 from Int32.toInt_inj.mp (by omega)) p56 hs_jBl.1 (by rw [show σ39 31 12 = σ12 31 12 from (congrFun (f53 31 (of_decide_eq_true rfl)) 12)]; exact w20) (by omega) (by omega) (by omega) (by omega) (by omega) |> fun f z => by have w := f z; rw [show (x103 : Int32).toInt + 1 = (x38 : Int32).toInt from by have h9 := tx103; omega]; exact w) hP hS (lv_sub hl [0, 1, 2, 3, 4, 5, 6] rfl)
    exact by exact lp36 1000000 x35 σ12 _ _ ls (by have h90 := tx35; omega) (by have h90 := tx35; omega) (by have h90 := tx35; omega) (by have h90 := tx35; omega) (by have h90 := tx35; omega) (by have h90 := tx35; omega) (by have h90 := tx35; omega) (by have h90 := tx35; omega) (fun _ _ => rfl)  p42 p43 p44 I16 (fun _ => jqSr.first (f14 34 (of_decide_eq_true rfl)) (f14 35 (of_decide_eq_true rfl)) (by have h9 := tx35; omega)) hP hS hl
set_option maxHeartbeats 4000000 in
set_option maxRecDepth 100000 in
theorem c_X1_seek_31 (l : Launch) (D : va_G) (cI cL : ClassId) (ad zz : Nat → Nat) (hJ : jD ad) (σ : Nat → Nat → Int32) (τ : Nat → Nat → Int64) (a1 : Int32) (A1 : Int) (t1 : a1.toInt = A1) (a2 : Int32) (A2 : Int) (t2 : a2.toInt = A2) (a3 : Int32) (A3 : Int) (t3 : a3.toInt = A3) (hI16 : jI16 σ) (hI22 : jI22 σ) (hI31 : jI31 σ) (hI26 : jI26 σ) (hs_jN67 : jN67 σ) (hs_jBl : jBl σ) (hs_jKb : jKb σ) (hs_jKh : jKh σ) (hs_jKg : jKg σ) (hs_jNz : jNz σ) (hp0 : 0 ≤ A1 ∧ A1 ≤ 134217727) (hp1 : 0 ≤ A2 ∧ A2 ≤ 12) (hp2 : 0 ≤ A3 ∧ A3 ≤ 12) : jMv l yX1_seek cX1_seek 4 none ({ frames := 5, cells := 0, slots := 0, locals := 139 }) D cI cL ad zz [.ref (ad 31), .int a1, .int a2, .int a3] σ τ (fun σ' τ' => τ = τ' ∧ (∀ i : Nat, (i < 24 ∨ 25 < i) ∧ (i < 29 ∨ 37 < i) → σ' i = σ i) ∧ (∀ k : Nat, (k < 8 ∨ 8 < k) ∧ (k < 9 ∨ 9 < k) ∧ (k < 10 ∨ 10 < k) ∧ (k < 11 ∨ 11 < k) ∧ (k < 12 ∨ 12 < k) → σ' 31 k = σ 31 k) ∧ (jI31 σ') ∧ (jN67 σ') ∧ (jBl σ') ∧ (jKb σ') ∧ (jKh σ') ∧ (jKg σ') ∧ (jNz σ') ∧ (jqSk σ σ' a1 (A2) (A3)) ∧ ((σ' 31 9).toInt = A1) ∧ ((σ' 31 10).toInt = A2) ∧ (0 ≤ (σ' 31 12).toInt ∧ (σ' 31 12).toInt ≤ 1) ∧ (((σ' 31 11).toInt = 0 ∧ (σ 16 1).toInt - A2 ≤ 0) ∨ ((σ' 31 11).toInt = (σ 16 1).toInt - A2 ∧ 0 ≤ (σ 16 1).toInt - A2 ∧ (σ 16 1).toInt - A2 ≤ 8) ∨ ((σ' 31 11).toInt = 8 ∧ 8 ≤ (σ 16 1).toInt - A2)) ∧ True) := by
  refine jMv.of hJ (by decide +kernel) rfl (Nat.le_of_ble_eq_true rfl) ?_
  intro p e s m args below meth c Q ls hC hret hl hP
  obtain ⟨hx, hb, hr, hml, hown, hts, hK, -, hlocks, hZ⟩ := hC
  have hown : s.vm.findClass RX1 = some m.cls := hown
  have hS : va_S (jA ad) s.heap s.heap [] := va_S.rf
  have hA : ∀ q, jA ad q → jA ad q := fun _ h => h
  have hl : lv_has ls 4 [(0, .ref (ad 31)), (1, .int a1), (2, .int a2), (3, .int a3)] := hl
  have g1 := jrg t1
  have g2 := jrg t2
  have g3 := jrg t3
  obtain ⟨i1, i2, i3, w4⟩ : (1 ≤ (σ 16 0).toInt ∧ (σ 16 0).toInt ≤ 8) ∧ (1 ≤ (σ 16 1).toInt ∧ (σ 16 1).toInt ≤ 12) ∧ (0 ≤ (σ 16 2).toInt ∧ (σ 16 2).toInt ≤ 999) ∧ (∀ k : Nat, k < 8 → 0 ≤ (σ 17 k).toInt ∧ (σ 17 k).toInt ≤ 3) := id hI16
  obtain ⟨i5, i6, i7, i8, w9, w10, w11⟩ : (0 ≤ (σ 31 8).toInt ∧ (σ 31 8).toInt ≤ 350) ∧ (0 ≤ (σ 31 10).toInt ∧ (σ 31 10).toInt ≤ 12) ∧ (0 ≤ (σ 31 11).toInt ∧ (σ 31 11).toInt ≤ 8) ∧ ((σ 31 10).toInt + (σ 31 11).toInt ≤ 12) ∧ (∀ k : Nat, k < 1400 → (-1) ≤ (σ 33 k).toInt ∧ (σ 33 k).toInt ≤ 350) ∧ (∀ k : Nat, k < 3159 → (-1) ≤ (σ 35 k).toInt ∧ (σ 35 k).toInt ≤ 3) ∧ (∀ k : Nat, k < 1024 → 0 ≤ (σ 36 k).toInt ∧ (σ 36 k).toInt ≤ 349) := id hI31
  refine lv_aload_n hx hb dX1_seek_0 rfl (lv_at hl 0 rfl) ?_
  refine lv_aload_n hx hb dX1_seek_1 rfl (lv_at hl 0 rfl) ?_
  refine va_get (D := D) hx hb hts inlX1 hown hK hP 31 (jc_31 cI cL ad σ τ) rfl 1 (of_decide_eq_true rfl) (hts _ kw_5_11) (fun _ h9 => h9) rfl dX1_seek_2 ?_
  refine va_get (D := D) hx hb hts inlX6 hown hK hP 16 (jc_16 cI cL ad σ τ) rfl 3 (of_decide_eq_true rfl) (hts _ kw_27_16) (fun _ h9 => h9) rfl dX1_seek_5 ?_
  refine lv_iload_n hx hb dX1_seek_8 rfl (lv_at hl 1 rfl) ?_
  refine lv_iload_n hx hb dX1_seek_9 rfl (lv_at hl 2 rfl) ?_
  refine lv_iload_n hx hb dX1_seek_10 rfl (lv_at hl 3 rfl) ?_
  refine lv_aload_n hx hb dX1_seek_11 rfl (lv_at hl 0 rfl) ?_
  refine va_get (D := D) hx hb hts inlX1 hown hK hP 31 (jc_31 cI cL ad σ τ) rfl 1 (of_decide_eq_true rfl) (hts _ kw_5_11) (fun _ h9 => h9) rfl dX1_seek_12 ?_
  refine va_get (D := D) hx hb hts inlX6 hown hK hP 16 (jc_16 cI cL ad σ τ) rfl 0 (of_decide_eq_true rfl) (hts _ kw_27_17) (fun _ h9 => h9) rfl dX1_seek_15 ?_
  refine lv_iconst (v := 1) hx hb dX1_seek_18 (of_decide_eq_true rfl) ?_
  have g12 := jrg (rfl : (σ 16 0).toInt = (σ 16 0).toInt)
  refine lv_isub hx hb dX1_seek_19 ?_
  refine lv_topi (fun x13 ex13 => ?_)
  exact by
   have tx13 : x13.toInt = (σ 16 0).toInt - 1 := (jsub ex13 rfl jz_1 (by omega) (by omega)).trans (by omega)
   refine jcallVv (As := [.ref (ad 17), .int a1, .int a2, .int a3, .int x13]) (rest := []) ⟨hx, hb, hml, hown, hts⟩ hK hP hA hS hZ (c_X1_seekFor_31 l D cI cL ad zz hJ σ τ a1 (A1) t1 a2 (A2) t2 a3 (A3) t3 x13 ((σ 16 0).toInt - 1) tx13 hI16 hI22 hI31 hI26 hs_jN67 hs_jBl hs_jKb hs_jKh hs_jKg hs_jNz (by omega) (by omega) (by omega)) cw_RX1_50 (jc_31 cI cL ad σ τ) rfl ⟨Nat.le_of_ble_eq_true rfl, Nat.le_of_ble_eq_true rfl⟩ rfl rfl rfl hl.1 rfl (Nat.le_of_ble_eq_true rfl) dX1_seek_20 ⟨Nat.zero_le _, Nat.zero_le _⟩ (fun σ14 τ14 H locs h14 hP hS => ?_)
   obtain ⟨rfl, f16, f17, I18, p19, p20, p21, p22, p23, p24, w25, h14⟩ := h14
   obtain ⟨i27, i28, i29, i30, w31, w32, w33⟩ : (0 ≤ (σ14 31 8).toInt ∧ (σ14 31 8).toInt ≤ 350) ∧ (0 ≤ (σ14 31 10).toInt ∧ (σ14 31 10).toInt ≤ 12) ∧ (0 ≤ (σ14 31 11).toInt ∧ (σ14 31 11).toInt ≤ 8) ∧ ((σ14 31 10).toInt + (σ14 31 11).toInt ≤ 12) ∧ (∀ k : Nat, k < 1400 → (-1) ≤ (σ14 33 k).toInt ∧ (σ14 33 k).toInt ≤ 350) ∧ (∀ k : Nat, k < 3159 → (-1) ≤ (σ14 35 k).toInt ∧ (σ14 35 k).toInt ≤ 3) ∧ (∀ k : Nat, k < 1024 → 0 ≤ (σ14 36 k).toInt ∧ (σ14 36 k).toInt ≤ 349) := id I18
   obtain ⟨k34, k35, k36, k37, h14⟩ := h14
   exact by exact hret σ14 τ _ _ _ _ ⟨rfl, (fun i hi => (f16 i hi)), (fun i hi => (f17 i hi)), I18, p19, p20, p21, p22, p23, p24, (show jqSk σ σ14 a1 (A2) (A3) from jqSk.of (fun fm hr => (w25).1 ⟨fm, by omega, hr, fun j hj T d no z h1 h2 h3 => absurd h1 (by omega)⟩) (w25).2), (by omega), (by omega), (by omega), (by omega), trivial⟩ hP hS dX1_seek_23
