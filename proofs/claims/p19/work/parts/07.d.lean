set_option maxHeartbeats 4000000 in
set_option maxRecDepth 100000 in
theorem c_X6_sortAt_16 (l : Launch) (D : va_G) (cI cL : ClassId) (ad zz : Nat → Nat) (hJ : jD ad) (σ : Nat → Nat → Int32) (τ : Nat → Nat → Int64) (a1 : Int32) (A1 : Int) (t1 : a1.toInt = A1) (hI16 : jI16 σ) : jM l yX6_sortAt cX6_sortAt 2 (some .int) ({ frames := 0, cells := 0, slots := 0, locals := 0 }) D cI cL ad zz [.ref (ad 16), .int a1] σ τ (fun r σ' τ' => (σ = σ' ∧ τ = τ') ∧ ((r = (σ 17 a1.toNatClampNeg) ∧ (0 ≤ A1 ∧ A1 ≤ 7) ∧ (0 ≤ (σ 17 a1.toNatClampNeg).toInt ∧ (σ 17 a1.toNatClampNeg).toInt ≤ 3)) ∨ (r = 0 ∧ ((A1 < 0) ∨ (7 < A1))))) := by
  refine jM.of hJ (by decide +kernel) (nt := .int) rfl (Nat.le_of_ble_eq_true rfl) ?_
  intro p e s m args below meth c Q ls hC hret hl hP
  obtain ⟨hx, hb, hr, hml, hown, hts, hK, -, hlocks, hZ⟩ := hC
  have hown : s.vm.findClass RX6 = some m.cls := hown
  have hS : va_S (jA ad) s.heap s.heap [] := va_S.rf
  have hA : ∀ q, jA ad q → jA ad q := fun _ h => h
  have hl : lv_has ls 2 [(0, .ref (ad 16)), (1, .int a1)] := hl
  have g1 := jrg t1
  obtain ⟨i1, i2, i3, w4⟩ : (1 ≤ (σ 16 0).toInt ∧ (σ 16 0).toInt ≤ 8) ∧ (1 ≤ (σ 16 1).toInt ∧ (σ 16 1).toInt ≤ 12) ∧ (0 ≤ (σ 16 2).toInt ∧ (σ 16 2).toInt ≤ 999) ∧ (∀ k : Nat, k < 8 → 0 ≤ (σ 17 k).toInt ∧ (σ 17 k).toInt ≤ 3) := id hI16
  refine lv_iload_n hx hb dX6_sortAt_0 rfl (lv_at hl 1 rfl) ?_
  refine lv_if_lt (tgt := 10) hx hb dX6_sortAt_1 (of_decide_eq_true rfl) (fun c5 => ?_) (fun c5 => ?_)
  · have kc5 := jlt c5 t1 jz_0
    refine lv_iconst (v := 0) hx hb dX6_sortAt_10 (of_decide_eq_true rfl) ?_
    refine lv_goto (tgt := 20) hx hb dX6_sortAt_11 (of_decide_eq_true rfl) ?_
    exact hret 0 σ τ _ _ _ _ rfl ⟨⟨rfl, rfl⟩, Or.inr (⟨rfl, (by have h9 := jz_0; omega)⟩)⟩ hP hS dX6_sortAt_20
  · have kc5 := jnlt c5 t1 jz_0
    refine lv_iload_n hx hb dX6_sortAt_4 rfl (lv_at hl 1 rfl) ?_
    refine lv_bipush (v := 8) hx hb dX6_sortAt_5 (of_decide_eq_true rfl) ?_
    refine lv_icmp_lt (tgt := 14) hx hb dX6_sortAt_7 (of_decide_eq_true rfl) (fun c6 => ?_) (fun c6 => ?_)
    · have kc6 := jlt c6 t1 jz_8
      refine lv_aload_n hx hb dX6_sortAt_14 rfl (lv_at hl 0 rfl) ?_
      refine va_get (D := D) hx hb hts inlX6 hown hK hP 16 (jc_16 cI cL ad σ τ) rfl 3 (of_decide_eq_true rfl) (hts _ kw_4_11) (fun _ h9 => h9) rfl dX6_sortAt_15 ?_
      refine lv_iload_n hx hb dX6_sortAt_18 rfl (lv_at hl 1 rfl) ?_
      exact by
       refine jald hx hb hK hP (jc_17 cI cL ad σ τ) (jin t1 (by omega) (by omega)) dX6_sortAt_19 ?_
       have g7 := w4 _ (jnat (x := a1) t1 (n := 8) (by omega) (of_decide_eq_true rfl))
       refine jtopr (y := (σ 17 a1.toNatClampNeg)) rfl ?_
       exact by exact hret (σ 17 a1.toNatClampNeg) σ τ _ _ _ _ rfl ⟨⟨rfl, rfl⟩, Or.inl ⟨rfl, (by omega), (by omega)⟩⟩ hP hS dX6_sortAt_20
    · have kc6 := jnlt c6 t1 jz_8
      refine lv_iconst (v := 0) hx hb dX6_sortAt_10 (of_decide_eq_true rfl) ?_
      refine lv_goto (tgt := 20) hx hb dX6_sortAt_11 (of_decide_eq_true rfl) ?_
      exact hret 0 σ τ _ _ _ _ rfl ⟨⟨rfl, rfl⟩, Or.inr (⟨rfl, (by have h9 := jz_0; omega)⟩)⟩ hP hS dX6_sortAt_20
set_option maxHeartbeats 4000000 in
set_option maxRecDepth 100000 in
theorem c_X6_meanOf_16 (l : Launch) (D : va_G) (cI cL : ClassId) (ad zz : Nat → Nat) (hJ : jD ad) (σ : Nat → Nat → Int32) (τ : Nat → Nat → Int64) (a1 : Int32) (A1 : Int) (t1 : a1.toInt = A1) (a2 : Int32) (A2 : Int) (t2 : a2.toInt = A2) (a3 : Int32) (A3 : Int) (t3 : a3.toInt = A3) (a4 : Int32) (A4 : Int) (t4 : a4.toInt = A4) : jM l yX6_meanOf cX6_meanOf 6 (some .int) ({ frames := 0, cells := 0, slots := 0, locals := 0 }) D cI cL ad zz [.ref (ad 16), .int a1, .int a2, .int a3, .int a4] σ τ (fun r σ' τ' => (σ = σ' ∧ τ = τ') ∧ ((0 ≤ (σ 16 2).toInt ∧ (σ 16 2).toInt ≤ 1000) → (0 ≤ (A1) ∧ (A1) ≤ 41) → (0 ≤ (A2) ∧ (A2) ≤ 1000) → (0 ≤ (A3) ∧ (A3) ≤ 328000) → (0 ≤ (A4) ∧ (A4) ≤ 328000) → r.toInt = jMo (σ 16 2).toInt (A1) (A2) (A3) (A4)) ∧ True) := by
  refine jM.of hJ (by decide +kernel) (nt := .int) rfl (Nat.le_of_ble_eq_true rfl) ?_
  intro p e s m args below meth c Q ls hC hret hl hP
  obtain ⟨hx, hb, hr, hml, hown, hts, hK, -, hlocks, hZ⟩ := hC
  have hown : s.vm.findClass RX6 = some m.cls := hown
  have hS : va_S (jA ad) s.heap s.heap [] := va_S.rf
  have hA : ∀ q, jA ad q → jA ad q := fun _ h => h
  have hl : lv_has ls 6 [(0, .ref (ad 16)), (1, .int a1), (2, .int a2), (3, .int a3), (4, .int a4)] := hl
  have g1 := jrg t1
  have g2 := jrg t2
  have g3 := jrg t3
  have g4 := jrg t4
  refine lv_iload_n hx hb dX6_meanOf_0 rfl (lv_at hl 2 rfl) ?_
  refine lv_iload_n hx hb dX6_meanOf_1 rfl (lv_at hl 3 rfl) ?_
  refine lv_imul hx hb dX6_meanOf_2 ?_
  refine lv_topi (fun x1 ex1 => ?_)
  have gx1 := jrg (rfl : x1.toInt = x1.toInt)
  refine lv_sipush (v := 1000) hx hb dX6_meanOf_3 (of_decide_eq_true rfl) ?_
  refine lv_iload_n hx hb dX6_meanOf_6 rfl (lv_at hl 2 rfl) ?_
  refine lv_isub hx hb dX6_meanOf_7 ?_
  refine lv_topi (fun x2 ex2 => ?_)
  have gx2 := jrg (rfl : x2.toInt = x2.toInt)
  refine lv_iload hx hb dX6_meanOf_8 (lv_at hl 4 rfl) ?_
  have g3 := jrg (rfl : x2.toInt = x2.toInt)
  refine lv_imul hx hb dX6_meanOf_10 ?_
  refine lv_topi (fun x4 ex4 => ?_)
  have gx4 := jrg (rfl : x4.toInt = x4.toInt)
  have g5 := jrg (rfl : x1.toInt = x1.toInt)
  have g6 := jrg (rfl : x4.toInt = x4.toInt)
  refine lv_iadd hx hb dX6_meanOf_11 ?_
  refine lv_topi (fun x7 ex7 => ?_)
  have gx7 := jrg (rfl : x7.toInt = x7.toInt)
  refine lv_sipush (v := 1000) hx hb dX6_meanOf_12 (of_decide_eq_true rfl) ?_
  refine lv_idiv hx hb dX6_meanOf_15 (of_decide_eq_true rfl) ?_
  refine lv_topi (fun x8 ex8 => ?_)
  have gx8 := jrg (rfl : x8.toInt = x8.toInt)
  refine lv_istore (lv' := [(5, .int x8), (0, .ref (ad 16)), (1, .int a1), (2, .int a2), (3, .int a3), (4, .int a4)]) hx hb dX6_meanOf_16 hl (of_decide_eq_true rfl) rfl (fun ls hl => ?_)
  refine lv_iload_n hx hb dX6_meanOf_18 rfl (lv_at hl 2 rfl) ?_
  refine lv_sipush (v := 1000) hx hb dX6_meanOf_19 (of_decide_eq_true rfl) ?_
  refine lv_imul hx hb dX6_meanOf_22 ?_
  refine lv_topi (fun x9 ex9 => ?_)
  have gx9 := jrg (rfl : x9.toInt = x9.toInt)
  refine lv_sipush (v := 1000) hx hb dX6_meanOf_23 (of_decide_eq_true rfl) ?_
  refine lv_aload_n hx hb dX6_meanOf_26 rfl (lv_at hl 1 rfl) ?_
  refine va_get (D := D) hx hb hts inlX6 hown hK hP 16 (jc_16 cI cL ad σ τ) rfl 2 (of_decide_eq_true rfl) (hts _ kw_29_22) (fun _ h9 => h9) rfl dX6_meanOf_27 ?_
  have g10 := jrg (rfl : (σ 16 2).toInt = (σ 16 2).toInt)
  refine lv_isub hx hb dX6_meanOf_30 ?_
  refine lv_topi (fun x11 ex11 => ?_)
  have gx11 := jrg (rfl : x11.toInt = x11.toInt)
  refine lv_iload hx hb dX6_meanOf_31 (lv_at hl 0 rfl) ?_
  have g12 := jrg (rfl : x11.toInt = x11.toInt)
  have g13 := jrg (rfl : x8.toInt = x8.toInt)
  refine lv_imul hx hb dX6_meanOf_33 ?_
  refine lv_topi (fun x14 ex14 => ?_)
  have gx14 := jrg (rfl : x14.toInt = x14.toInt)
  refine lv_sipush (v := 1000) hx hb dX6_meanOf_34 (of_decide_eq_true rfl) ?_
  refine lv_idiv hx hb dX6_meanOf_37 (of_decide_eq_true rfl) ?_
  refine lv_topi (fun x15 ex15 => ?_)
  have gx15 := jrg (rfl : x15.toInt = x15.toInt)
  have g16 := jrg (rfl : x9.toInt = x9.toInt)
  have g17 := jrg (rfl : x15.toInt = x15.toInt)
  refine lv_iadd hx hb dX6_meanOf_38 ?_
  refine lv_topi (fun x18 ex18 => ?_)
  have gx18 := jrg (rfl : x18.toInt = x18.toInt)
  exact by exact hret x18 σ τ _ _ _ _ rfl ⟨⟨rfl, rfl⟩, (fun h3 h4 h5 h6 h7 => by have w := jMo_of (R := σ 16 2) (r := a1) (c := a2) (p := a3) (q := a4) (x := x18) (by rw [ex18, ex15, ex14, ex11, ex9, ex8, ex7, ex4, ex2, ex1]) h3 (by omega) (by omega) (by omega) (by omega); rw [t1, t2, t3, t4] at w; exact w), trivial⟩ hP hS dX6_meanOf_39
set_option maxHeartbeats 4000000 in
set_option maxRecDepth 100000 in
theorem c_X6_ended_16 (l : Launch) (D : va_G) (cI cL : ClassId) (ad zz : Nat → Nat) (hJ : jD ad) (σ : Nat → Nat → Int32) (τ : Nat → Nat → Int64) (a1 : Int32) (A1 : Int) (t1 : a1.toInt = A1) (a2 : Int32) (A2 : Int) (t2 : a2.toInt = A2) (a3 : Int32) (A3 : Int) (t3 : a3.toInt = A3) : jM l yX6_ended cX6_ended 4 (some .boolean) ({ frames := 3, cells := 0, slots := 0, locals := 63 }) D cI cL ad zz [.ref (ad 16), .int a1, .int a2, .int a3] σ τ (fun r σ' τ' => (σ = σ' ∧ τ = τ') ∧ (((r = 0 → A2 < (σ 16 0).toInt ∧ A1 < (σ 16 1).toInt ∧ ∃ b : Int32, jMb a3 b) ∧ (A2 < (σ 16 0).toInt → A1 < (σ 16 1).toInt → ∀ b : Int32, jMb a3 b → r = 0))) ∧ True) := by
  refine jM.of hJ (by decide +kernel) (nt := .boolean) rfl (Nat.le_of_ble_eq_true rfl) ?_
  intro p e s m args below meth c Q ls hC hret hl hP
  obtain ⟨hx, hb, hr, hml, hown, hts, hK, -, hlocks, hZ⟩ := hC
  have hown : s.vm.findClass RX6 = some m.cls := hown
  have hS : va_S (jA ad) s.heap s.heap [] := va_S.rf
  have hA : ∀ q, jA ad q → jA ad q := fun _ h => h
  have hl : lv_has ls 4 [(0, .ref (ad 16)), (1, .int a1), (2, .int a2), (3, .int a3)] := hl
  have g1 := jrg t1
  have g2 := jrg t2
  have g3 := jrg t3
  refine lv_iload_n hx hb dX6_ended_0 rfl (lv_at hl 2 rfl) ?_
  refine lv_aload_n hx hb dX6_ended_1 rfl (lv_at hl 0 rfl) ?_
  refine va_get (D := D) hx hb hts inlX6 hown hK hP 16 (jc_16 cI cL ad σ τ) rfl 0 (of_decide_eq_true rfl) (hts _ kw_4_9) (fun _ h9 => h9) rfl dX6_ended_2 ?_
  refine lv_icmp_ge (tgt := 23) hx hb dX6_ended_5 (of_decide_eq_true rfl) (fun c1 => ?_) (fun c1 => ?_)
  · have kc1 := jle c1 rfl t2
    refine lv_iconst (v := 1) hx hb dX6_ended_23 (of_decide_eq_true rfl) ?_
    refine lv_goto (tgt := 28) hx hb dX6_ended_24 (of_decide_eq_true rfl) ?_
    exact hret 1 σ τ _ _ _ _ rfl ⟨⟨rfl, rfl⟩, ⟨fun h => absurd h (of_decide_eq_true rfl), fun h9 h8 _ _ => False.elim (by omega)⟩, trivial⟩ hP hS dX6_ended_28
  · have kc1 := jnle c1 rfl t2
    refine lv_iload_n hx hb dX6_ended_8 rfl (lv_at hl 1 rfl) ?_
    refine lv_aload_n hx hb dX6_ended_9 rfl (lv_at hl 0 rfl) ?_
    refine va_get (D := D) hx hb hts inlX6 hown hK hP 16 (jc_16 cI cL ad σ τ) rfl 1 (of_decide_eq_true rfl) (hts _ kw_4_10) (fun _ h9 => h9) rfl dX6_ended_10 ?_
    refine lv_icmp_ge (tgt := 23) hx hb dX6_ended_13 (of_decide_eq_true rfl) (fun c2 => ?_) (fun c2 => ?_)
    · have kc2 := jle c2 rfl t1
      refine lv_iconst (v := 1) hx hb dX6_ended_23 (of_decide_eq_true rfl) ?_
      refine lv_goto (tgt := 28) hx hb dX6_ended_24 (of_decide_eq_true rfl) ?_
      exact hret 1 σ τ _ _ _ _ rfl ⟨⟨rfl, rfl⟩, ⟨fun h => absurd h (of_decide_eq_true rfl), fun h9 h8 _ _ => False.elim (by omega)⟩, trivial⟩ hP hS dX6_ended_28
    · have kc2 := jnle c2 rfl t1
      refine lv_iload_n hx hb dX6_ended_16 rfl (lv_at hl 3 rfl) ?_
      refine jcallS (As := [.int a3]) (rest := []) ⟨hx, hb, hml, hown, hts⟩ hK hP hA hS hZ (c_X0_first l D cI cL ad zz hJ σ τ a3 (A3) t3) cw_RX6_22 ⟨Nat.le_of_ble_eq_true rfl, Nat.le_of_ble_eq_true rfl⟩ rfl rfl rfl hl.1 rfl (Nat.le_of_ble_eq_true rfl) dX6_ended_17 ⟨Nat.zero_le _, Nat.zero_le _⟩ (fun r4 σ3 τ3 H locs h3 hP hS => ?_)
      obtain ⟨⟨rfl, rfl⟩, w5, h3⟩ := h3
      have h6 := h3
      obtain ⟨q8, k7⟩ := h6
      refine lv_if_ge (tgt := 27) hx hb dX6_ended_20 (of_decide_eq_true rfl) (fun c9 => ?_) (fun c9 => ?_)
      · have kc9 := jle c9 jz_0 rfl
        refine lv_iconst (v := 0) hx hb dX6_ended_27 (of_decide_eq_true rfl) ?_
        exact hret 0 σ τ _ _ _ _ rfl ⟨⟨rfl, rfl⟩, ⟨fun _ => ⟨by omega, by omega, r4, w5.2.1 (by omega)⟩, fun _ _ _ _ => rfl⟩, trivial⟩ hP hS dX6_ended_28
      · have kc9 := jnle c9 jz_0 rfl
        refine lv_iconst (v := 1) hx hb dX6_ended_23 (of_decide_eq_true rfl) ?_
        refine lv_goto (tgt := 28) hx hb dX6_ended_24 (of_decide_eq_true rfl) ?_
        exact hret 1 σ τ _ _ _ _ rfl ⟨⟨rfl, rfl⟩, ⟨fun h => absurd h (of_decide_eq_true rfl), fun _ _ b hb => absurd (w5.1 b hb) (by omega)⟩, trivial⟩ hP hS dX6_ended_28
set_option maxHeartbeats 4000000 in
set_option maxRecDepth 100000 in
theorem c_X6_sortDown_16 (l : Launch) (D : va_G) (cI cL : ClassId) (ad zz : Nat → Nat) (hJ : jD ad) (σ : Nat → Nat → Int32) (τ : Nat → Nat → Int64) (hI16 : jI16 σ) (hI0 : jI0 σ) : jMv l yX6_sortDown cX6_sortDown 5 none ({ frames := 0, cells := 0, slots := 0, locals := 0 }) D cI cL ad zz [.ref (ad 16), .ref (ad 1)] σ τ (fun σ' τ' => τ = τ' ∧ (∀ i : Nat, (i < 1 ∨ 1 < i) → σ' i = σ i) ∧ (jI0 σ') ∧ (jtL (fun k : Nat => (σ' 1 k).toInt) (σ 16 0).toInt.toNat = jsd (jcs (σ 17) 0 (σ 16 0).toInt.toNat) (jcs (σ 17) 1 (σ 16 0).toInt.toNat) (jcs (σ 17) 2 (σ 16 0).toInt.toNat) (jcs (σ 17) 3 (σ 16 0).toInt.toNat)) ∧ True) := by
  refine jMv.of hJ (by decide +kernel) rfl (Nat.le_of_ble_eq_true rfl) ?_
  intro p e s m args below meth c Q ls hC hret hl hP
  obtain ⟨hx, hb, hr, hml, hown, hts, hK, -, hlocks, hZ⟩ := hC
  have hown : s.vm.findClass RX6 = some m.cls := hown
  have hS : va_S (jA ad) s.heap s.heap [] := va_S.rf
  have hA : ∀ q, jA ad q → jA ad q := fun _ h => h
  have hl : lv_has ls 5 [(0, .ref (ad 16)), (1, .ref (ad 1))] := hl
  obtain ⟨i1, i2, i3, w4⟩ : (1 ≤ (σ 16 0).toInt ∧ (σ 16 0).toInt ≤ 8) ∧ (1 ≤ (σ 16 1).toInt ∧ (σ 16 1).toInt ≤ 12) ∧ (0 ≤ (σ 16 2).toInt ∧ (σ 16 2).toInt ≤ 999) ∧ (∀ k : Nat, k < 8 → 0 ≤ (σ 17 k).toInt ∧ (σ 17 k).toInt ≤ 3) := id hI16
  have w5 : ∀ k : Nat, k < 8 → 0 ≤ (σ 1 k).toInt ∧ (σ 1 k).toInt ≤ 3 := hI0
  refine lv_iconst (v := 0) hx hb dX6_sortDown_0 (of_decide_eq_true rfl) ?_
  refine lv_istore_n (lv' := [(2, .int 0), (0, .ref (ad 16)), (1, .ref (ad 1))]) hx hb dX6_sortDown_1 rfl hl (of_decide_eq_true rfl) rfl (fun ls hl => ?_)
  refine lv_iconst (v := 3) hx hb dX6_sortDown_2 (of_decide_eq_true rfl) ?_
  refine lv_istore_n (lv' := [(3, .int 3), (2, .int 0), (0, .ref (ad 16)), (1, .ref (ad 1))]) hx hb dX6_sortDown_3 rfl hl (of_decide_eq_true rfl) rfl (fun ls hl => ?_)
  have lp6 : ∀ (n7 : Nat) (x8 : Int32) (x9 : Int32) (σ11 : Nat → Nat → Int32) (H : Heap) (locs : List Loc) (ls : Array Slot), (x9.toInt + 1 : Int) < n7 → 0 ≤ x8.toInt → x8.toInt ≤ 8 → (-1) ≤ x9.toInt → x9.toInt ≤ 3 → (∀ i : Nat, (i < 1 ∨ 1 < i) → σ11 i = σ i) → jI0 σ11 → (jSd (σ 17) (σ11 1) (σ 16 0).toInt.toNat (x8 : Int32).toInt (x9 : Int32).toInt 0) → jH D cI cL ad σ11 τ H → va_S (jA ad) s.heap H locs → lv_has ls 5 [(3, .int x9), (2, .int x8), (0, .ref (ad 16)), (1, .ref (ad 1))] → W p l e ({ frames := 0, cells := 0, slots := 0, locals := 0 }) s m args below meth c H locs 0 0 Q (F0 m 4 ls []) := by
    intro n7
    induction n7 with
    | zero => intro x8 x9 σ11 H locs ls h13 h14 h15 h16 h17; exact absurd h13 (by omega)
    | succ n7 ihlp6 =>
      intro x8 x9 σ11 H locs ls h13 h14 h15 h16 h17 f18 p19 q20 hP hS hl
      exact by
       have w21 : ∀ k : Nat, k < 8 → 0 ≤ (σ11 1 k).toInt ∧ (σ11 1 k).toInt ≤ 3 := p19
       refine lv_iload_n hx hb dX6_sortDown_4 rfl (lv_at hl 0 rfl) ?_
       refine lv_if_lt (tgt := 56) hx hb dX6_sortDown_5 (of_decide_eq_true rfl) (fun c22 => ?_) (fun c22 => ?_)
       · have kc22 := jlt c22 rfl jz_0
         exact by exact hret σ11 τ _ _ _ _ ⟨rfl, (fun i hi => (f18 i hi)), p19, (jSd.fin q20 (by omega) (by omega) (fun k hk => w4 k (by omega))), trivial⟩ hP hS dX6_sortDown_56
       · have kc22 := jnlt c22 rfl jz_0
         refine lv_iconst (v := 0) hx hb dX6_sortDown_8 (of_decide_eq_true rfl) ?_
         refine lv_istore (lv' := [(4, .int 0), (3, .int x9), (2, .int x8), (0, .ref (ad 16)), (1, .ref (ad 1))]) hx hb dX6_sortDown_9 hl (of_decide_eq_true rfl) rfl (fun ls hl => ?_)
         have z28 : (σ11 16 0).toInt = (σ 16 0).toInt := (congrArg Int32.toInt (show σ11 16 0 = (σ 16 0) from (congrFun (f18 16 (of_decide_eq_true rfl)) 0)))
         have lp23 : ∀ (n24 : Nat) (x25 : Int32) (x26 : Int32) (σ27 : Nat → Nat → Int32) (H : Heap) (locs : List Loc) (ls : Array Slot), ((σ27 16 0).toInt - x26.toInt : Int) < n24 → 0 ≤ x25.toInt → x25.toInt ≤ 8 → 0 ≤ x26.toInt → x26.toInt ≤ 8 → x26.toInt ≤ (σ27 16 0).toInt → (∀ i : Nat, (i < 1 ∨ 1 < i) → σ27 i = σ11 i) → jI0 σ27 → (jSd (σ 17) (σ27 1) (σ 16 0).toInt.toNat (x25 : Int32).toInt (x9 : Int32).toInt ((x26 : Int32).toInt).toNat) → jH D cI cL ad σ27 τ H → va_S (jA ad) s.heap H locs → lv_has ls 5 [(4, .int x26), (3, .int x9), (2, .int x25), (0, .ref (ad 16)), (1, .ref (ad 1))] → W p l e ({ frames := 0, cells := 0, slots := 0, locals := 0 }) s m args below meth c H locs 0 0 Q (F0 m 11 ls []) := by
           intro n24
           induction n24 with
           | zero => intro x25 x26 σ27 H locs ls h30 h31 h32 h33 h34 h35; exact absurd h30 (by omega)
           | succ n24 ihlp23 =>
             intro x25 x26 σ27 H locs ls h30 h31 h32 h33 h34 h35 f36 p37 q38 hP hS hl
             exact by
              have w39 : ∀ k : Nat, k < 8 → 0 ≤ (σ27 1 k).toInt ∧ (σ27 1 k).toInt ≤ 3 := p37
              have z40 : (σ27 16 0).toInt = (σ 16 0).toInt := (congrArg Int32.toInt (show σ27 16 0 = (σ 16 0) from ((congrFun (f36 16 (of_decide_eq_true rfl)) 0).trans (congrFun (f18 16 (of_decide_eq_true rfl)) 0))))
              refine lv_iload hx hb dX6_sortDown_11 (lv_at hl 0 rfl) ?_
              refine lv_aload_n hx hb dX6_sortDown_13 rfl (lv_at hl 3 rfl) ?_
              refine va_get (D := D) hx hb hts inlX6 hown hK hP 16 (jc_16 cI cL ad σ27 τ) rfl 0 (of_decide_eq_true rfl) (hts _ kw_4_9) (fun _ h9 => h9) rfl dX6_sortDown_14 ?_
              have m41 : σ27 16 0 = (σ 16 0) := ((congrFun (f36 16 (of_decide_eq_true rfl)) 0).trans (congrFun (f18 16 (of_decide_eq_true rfl)) 0))
              refine jtopr m41 ?_
              refine lv_icmp_ge (tgt := 50) hx hb dX6_sortDown_17 (of_decide_eq_true rfl) (fun c42 => ?_) (fun c42 => ?_)
              · have kc42 := jle c42 rfl rfl
                obtain ⟨x43, ex43⟩ : ∃ y : Int32, y = x9 + (-1) := ⟨_, rfl⟩
                exact by
                 have tx43 : x43.toInt = x9.toInt - 1 := (jadd ex43 rfl jz_m1 (by omega) (by omega)).trans (by omega)
                 refine lv_iinc (v := x43) (lv' := [(3, .int x43), (4, .int x26), (2, .int x25), (0, .ref (ad 16)), (1, .ref (ad 1))]) hx hb dX6_sortDown_50 hl (k := 1) rfl (by rw [ex43]; rfl) (of_decide_eq_true rfl) rfl (fun ls hl => ?_)
                 refine lv_goto (tgt := 4) hx hb dX6_sortDown_53 (of_decide_eq_true rfl) ?_
                 exact by exact ihlp6 x25 x43 σ27 _ _ ls (by have h91 := tx43; omega) (by have h91 := tx43; omega) (by have h91 := tx43; omega) (by have h91 := tx43; omega) (by have h91 := tx43; omega) (fun i hi => ((f36 i hi).trans (f18 i hi)))   p37 (jSd.down q38 (show ((x26 : Int32).toInt).toNat = (σ 16 0).toInt.toNat by omega) (by omega) (by have h9 := tx43; omega)) hP hS (lv_sub hl [0, 2, 3, 4] rfl)
              · have kc42 := jnle c42 rfl rfl
                refine lv_aload_n hx hb dX6_sortDown_20 rfl (lv_at hl 3 rfl) ?_
                refine va_get (D := D) hx hb hts inlX6 hown hK hP 16 (jc_16 cI cL ad σ27 τ) rfl 3 (of_decide_eq_true rfl) (hts _ kw_4_11) (fun _ h9 => h9) rfl dX6_sortDown_21 ?_
                refine lv_iload hx hb dX6_sortDown_24 (lv_at hl 0 rfl) ?_
                refine jald hx hb hK hP (jc_17 cI cL ad σ27 τ) (jin rfl (by omega) (by omega)) dX6_sortDown_26 ?_
                exact by
                 have w44 : ∀ k : Nat, k < 8 → 0 ≤ (σ27 17 k).toInt ∧ (σ27 17 k).toInt ≤ 3 := (jrr_fr (f36 17 (of_decide_eq_true rfl)) (jrr_fr (f18 17 (of_decide_eq_true rfl)) w4))
                 have g45 := w44 _ (jnat (x := x26) rfl (n := 8) (by omega) (of_decide_eq_true rfl))
                 refine jtopr (y := (σ 17 x26.toNatClampNeg)) (by rw [f36 17 (of_decide_eq_true rfl), f18 17 (of_decide_eq_true rfl)]) ?_
                 rw [f36 17 (of_decide_eq_true rfl), f18 17 (of_decide_eq_true rfl)] at g45
                 refine lv_iload_n hx hb dX6_sortDown_27 rfl (lv_at hl 1 rfl) ?_
                 refine lv_icmp_ne (tgt := 44) hx hb dX6_sortDown_28 (of_decide_eq_true rfl) (fun c46 => ?_) (fun c46 => ?_)
                 · have kc46 := jne c46 rfl rfl
                   obtain ⟨x47, ex47⟩ : ∃ y : Int32, y = x26 + 1 := ⟨_, rfl⟩
                   have tx47 : x47.toInt = x26.toInt + 1 := (jadd ex47 rfl jz_1 (by omega) (by omega)).trans (by omega)
                   exact by
                    refine lv_iinc (v := x47) (lv' := [(4, .int x47), (3, .int x9), (2, .int x25), (0, .ref (ad 16)), (1, .ref (ad 1))]) hx hb dX6_sortDown_44 hl (k := 0) rfl (by rw [ex47]; rfl) (of_decide_eq_true rfl) rfl (fun ls hl => ?_)
                    refine lv_goto (tgt := 11) hx hb dX6_sortDown_47 (of_decide_eq_true rfl) ?_
                    exact by exact ihlp23 x25 x47 σ27 _ _ ls (by have h91 := tx47; omega) (by have h91 := tx47; omega) (by have h91 := tx47; omega) (by have h91 := tx47; omega) (by have h91 := tx47; omega) (by have h91 := tx47; omega) (fun i hi => (f36 i hi))   p37 (by rw [show ((x47 : Int32).toInt).toNat = ((x26 : Int32).toInt).toNat + 1 from by have h9 := tx47; omega]; exact jSd.skip q38 (show (σ 17 x26.toNatClampNeg).toInt ≠ (x9 : Int32).toInt by omega)) hP hS (lv_sub hl [0, 1, 2, 3, 4] rfl)
                 · have kc46 := jeq c46 rfl rfl
                   refine lv_iload_n hx hb dX6_sortDown_31 rfl (lv_at hl 2 rfl) ?_
                   refine lv_aload_n hx hb dX6_sortDown_32 rfl (lv_at hl 4 rfl) ?_
                   refine jalen (v := 8) hx hb hK hP (jc_1 cI cL ad σ27 τ) (of_decide_eq_true rfl) dX6_sortDown_33 ?_
                   refine lv_icmp_ge (tgt := 44) hx hb dX6_sortDown_34 (of_decide_eq_true rfl) (fun c48 => ?_) (fun c48 => ?_)
                   · have kc48 := jle c48 jz_8 rfl
                     obtain ⟨x49, ex49⟩ : ∃ y : Int32, y = x26 + 1 := ⟨_, rfl⟩
                     exact by
                      have tx49 : x49.toInt = x26.toInt + 1 := (jadd ex49 rfl jz_1 (by omega) (by omega)).trans (by omega)
                      refine lv_iinc (v := x49) (lv' := [(4, .int x49), (3, .int x9), (2, .int x25), (0, .ref (ad 16)), (1, .ref (ad 1))]) hx hb dX6_sortDown_44 hl (k := 0) rfl (by rw [ex49]; rfl) (of_decide_eq_true rfl) rfl (fun ls hl => ?_)
                      refine lv_goto (tgt := 11) hx hb dX6_sortDown_47 (of_decide_eq_true rfl) ?_
                      exact by exact ihlp23 x25 x49 σ27 _ _ ls (by have h91 := tx49; omega) (by have h91 := tx49; omega) (by have h91 := tx49; omega) (by have h91 := tx49; omega) (by have h91 := tx49; omega) (by have h91 := tx49; omega) (fun i hi => (f36 i hi))   p37 (False.elim (by have w9 := jSd.lt q38 (by omega) (show (σ 17 x26.toNatClampNeg).toInt = (x9 : Int32).toInt by omega) (fun k hk => w4 k (by omega)); omega)) hP hS (lv_sub hl [0, 1, 2, 3, 4] rfl)
                   · have kc48 := jnle c48 jz_8 rfl
                     refine lv_aload_n hx hb dX6_sortDown_37 rfl (lv_at hl 4 rfl) ?_
                     refine lv_iload_n hx hb dX6_sortDown_38 rfl (lv_at hl 2 rfl) ?_
                     obtain ⟨x50, ex50⟩ : ∃ y : Int32, y = x25 + 1 := ⟨_, rfl⟩
                     have tx50 : x50.toInt = x25.toInt + 1 := (jadd ex50 rfl jz_1 (by omega) (by omega)).trans (by omega)
                     exact by
                      refine lv_iinc (v := x50) (lv' := [(2, .int x50), (4, .int x26), (3, .int x9), (0, .ref (ad 16)), (1, .ref (ad 1))]) hx hb dX6_sortDown_39 hl (k := 2) rfl (by rw [ex50]; rfl) (of_decide_eq_true rfl) rfl (fun ls hl => ?_)
                      refine lv_iload_n hx hb dX6_sortDown_42 rfl (lv_at hl 2 rfl) ?_
                      refine jast hx hb hK hP hJ hA hS (jc_1 cI cL ad σ27 τ) (ja_1 cI cL ad σ27 τ _ _) (jin rfl (by omega) (by omega)) dX6_sortDown_43 (fun σ51 H locs eσ51 hP hS => ?_)
                      obtain ⟨x52, ex52⟩ : ∃ y : Int32, y = x26 + 1 := ⟨_, rfl⟩
                      have tx52 : x52.toInt = x26.toInt + 1 := (jadd ex52 rfl jz_1 (by omega) (by omega)).trans (by omega)
                      refine lv_iinc (v := x52) (lv' := [(4, .int x52), (2, .int x50), (3, .int x9), (0, .ref (ad 16)), (1, .ref (ad 1))]) hx hb dX6_sortDown_44 hl (k := 1) rfl (by rw [ex52]; rfl) (of_decide_eq_true rfl) rfl (fun ls hl => ?_)
                      refine lv_goto (tgt := 11) hx hb dX6_sortDown_47 (of_decide_eq_true rfl) ?_
                      have z53 : (σ51 16 0).toInt = (σ 16 0).toInt := (congrArg Int32.toInt (show σ51 16 0 = (σ 16 0) from ((congrFun (jnp 16 eσ51 (of_decide_eq_true rfl)) 0).trans m41)))
                      have w54 : ∀ k : Nat, k < 8 → 0 ≤ (σ51 1 k).toInt ∧ (σ51 1 k).toInt ≤ 3 := (by rw [eσ51]; exact jrr_up w39 (by omega) (by omega))
                      exact by
                       have I55 : jI0 σ51 := w54
                       exact by exact ihlp23 x50 x52 σ51 _ _ ls (by have h90 := tx50; have h91 := tx52; omega) (by have h90 := tx50; have h91 := tx52; omega) (by have h90 := tx50; have h91 := tx52; omega) (by have h90 := tx50; have h91 := tx52; omega) (by have h90 := tx50; have h91 := tx52; omega) (by have h90 := tx50; have h91 := tx52; omega) (fun i hi => ((jnp i eσ51 (imp_42 i hi)).trans (f36 i hi)))   I55 (by rw [show ((x52 : Int32).toInt).toNat = ((x26 : Int32).toInt).toNat + 1 from by have h9 := tx52; omega]; exact jSd.put q38 (by omega) (show (σ 17 x26.toNatClampNeg).toInt = (x9 : Int32).toInt by omega) (fun k hk => w4 k (by omega)) (by rw [eσ51, jup_row, jnc (show x25.toInt = (x25 : Int32).toInt by omega)]) (by omega) (by have h9 := tx50; omega)) hP hS (lv_sub hl [0, 2, 1, 3, 4] rfl)
         exact by exact lp23 1000000 x8 0 σ11 _ _ ls (by have h91 := jz_0; omega) (by have h91 := jz_0; omega) (by have h91 := jz_0; omega) (by have h91 := jz_0; omega) (by have h91 := jz_0; omega) (by have h91 := jz_0; omega) (fun _ _ => rfl)  p19 (by rw [show ((0 : Int32).toInt).toNat = 0 from by have h9 := jz_0; omega]; exact q20) hP hS hl
  exact by exact lp6 1000000 0 3 σ _ _ ls (by have h90 := jz_0; have h91 := jz_3; omega) (by have h90 := jz_0; have h91 := jz_3; omega) (by have h90 := jz_0; have h91 := jz_3; omega) (by have h90 := jz_0; have h91 := jz_3; omega) (by have h90 := jz_0; have h91 := jz_3; omega) (fun _ _ => rfl)  hI0 (jSd.first (by have h9 := jz_0; omega) (by have h9 := jz_3; omega)) hP hS hl
set_option maxHeartbeats 4000000 in
set_option maxRecDepth 100000 in
theorem c_X6_digits (l : Launch) (D : va_G) (cI cL : ClassId) (ad zz : Nat → Nat) (hJ : jD ad) (σ : Nat → Nat → Int32) (τ : Nat → Nat → Int64) (a2 : Int32) (A2 : Int) (t2 : a2.toInt = A2) (hI0 : jI0 σ) : jM l yX6_digits cX6_digits 4 (some .int) ({ frames := 0, cells := 0, slots := 0, locals := 0 }) D cI cL ad zz [.ref (ad 1), .int a2] σ τ (fun r σ' τ' => (σ = σ' ∧ τ = τ') ∧ ((1 ≤ A2 → A2 ≤ 5 → (r : Int32).toInt = jtD (fun k : Nat => (σ 1 k).toInt) (A2).toNat)) ∧ True) := by
  refine jM.of hJ (by decide +kernel) (nt := .int) rfl (Nat.le_of_ble_eq_true rfl) ?_
  intro p e s m args below meth c Q ls hC hret hl hP
  obtain ⟨hx, hb, hr, hml, hown, hts, hK, -, hlocks, hZ⟩ := hC
  have hown : s.vm.findClass RX6 = some m.cls := hown
  have hS : va_S (jA ad) s.heap s.heap [] := va_S.rf
  have hA : ∀ q, jA ad q → jA ad q := fun _ h => h
  have hl : lv_has ls 4 [(0, .ref (ad 1)), (1, .int a2)] := hl
  have g2 := jrg t2
  have w1 : ∀ k : Nat, k < 8 → 0 ≤ (σ 1 k).toInt ∧ (σ 1 k).toInt ≤ 3 := hI0
  refine lv_iconst (v := 0) hx hb dX6_digits_0 (of_decide_eq_true rfl) ?_
  refine lv_istore_n (lv' := [(2, .int 0), (0, .ref (ad 1)), (1, .int a2)]) hx hb dX6_digits_1 rfl hl (of_decide_eq_true rfl) rfl (fun ls hl => ?_)
  refine lv_iconst (v := 0) hx hb dX6_digits_2 (of_decide_eq_true rfl) ?_
  refine lv_istore_n (lv' := [(3, .int 0), (2, .int 0), (0, .ref (ad 1)), (1, .int a2)]) hx hb dX6_digits_3 rfl hl (of_decide_eq_true rfl) rfl (fun ls hl => ?_)
  have lp2 : ∀ (n3 : Nat) (x4 : Int32) (x5 : Int32) (H : Heap) (locs : List Loc) (ls : Array Slot), (-x5.toInt + 8 : Int) < n3 → 0 ≤ x5.toInt → x5.toInt ≤ 8 → ((x5.toInt ≤ A2) ∨ (x5.toInt = 0)) → ((1 ≤ (A2) → (A2) ≤ 5 → (x4 : Int32).toInt = jtD (fun k : Nat => (σ 1 k).toInt) ((x5 : Int32).toInt).toNat)) → jH D cI cL ad σ τ H → va_S (jA ad) s.heap H locs → lv_has ls 4 [(3, .int x5), (2, .int x4), (0, .ref (ad 1)), (1, .int a2)] → W p l e ({ frames := 0, cells := 0, slots := 0, locals := 0 }) s m args below meth c H locs 0 0 Q (F0 m 4 ls []) := by
    intro n3
    induction n3 with
    | zero => intro x4 x5 H locs ls h7 h8 h9 h10; have gx4 := jrg (rfl : x4.toInt = x4.toInt); exact absurd h7 (by omega)
    | succ n3 ihlp2 =>
      intro x4 x5 H locs ls h7 h8 h9 h10 q12 hP hS hl
      exact by
       have gx4 := jrg (rfl : x4.toInt = x4.toInt)
       refine lv_iload_n hx hb dX6_digits_4 rfl (lv_at hl 0 rfl) ?_
       refine lv_iload_n hx hb dX6_digits_5 rfl (lv_at hl 3 rfl) ?_
       refine lv_icmp_ge (tgt := 30) hx hb dX6_digits_6 (of_decide_eq_true rfl) (fun c13 => ?_) (fun c13 => ?_)
       · have kc13 := jle c13 t2 rfl
         refine lv_iload_n hx hb dX6_digits_30 rfl (lv_at hl 1 rfl) ?_
         exact hret x4 σ τ _ _ _ _ rfl ⟨⟨rfl, rfl⟩, (fun h1 h2 => by have w9 := q12 h1 h2; rw [show ((x5 : Int32).toInt).toNat = (A2).toNat from by omega] at w9; exact w9), trivial⟩ hP hS dX6_digits_31
       · have kc13 := jnle c13 t2 rfl
         refine lv_iload_n hx hb dX6_digits_9 rfl (lv_at hl 0 rfl) ?_
         refine lv_aload_n hx hb dX6_digits_10 rfl (lv_at hl 2 rfl) ?_
         refine jalen (v := 8) hx hb hK hP (jc_1 cI cL ad σ τ) (of_decide_eq_true rfl) dX6_digits_11 ?_
         refine lv_icmp_ge (tgt := 30) hx hb dX6_digits_12 (of_decide_eq_true rfl) (fun c14 => ?_) (fun c14 => ?_)
         · have kc14 := jle c14 jz_8 rfl
           refine lv_iload_n hx hb dX6_digits_30 rfl (lv_at hl 1 rfl) ?_
           exact hret x4 σ τ _ _ _ _ rfl ⟨⟨rfl, rfl⟩, (fun h1 h2 => by have w9 := q12 h1 h2; rw [show ((x5 : Int32).toInt).toNat = (A2).toNat from by omega] at w9; exact w9), trivial⟩ hP hS dX6_digits_31
         · have kc14 := jnle c14 jz_8 rfl
           refine lv_iload_n hx hb dX6_digits_15 rfl (lv_at hl 1 rfl) ?_
           refine lv_bipush (v := 10) hx hb dX6_digits_16 (of_decide_eq_true rfl) ?_
           have g15 := jrg (rfl : x4.toInt = x4.toInt)
           refine lv_imul hx hb dX6_digits_18 ?_
           refine lv_topi (fun x16 ex16 => ?_)
           have gx16 := jrg (rfl : x16.toInt = x16.toInt)
           refine lv_aload_n hx hb dX6_digits_19 rfl (lv_at hl 2 rfl) ?_
           refine lv_iload_n hx hb dX6_digits_20 rfl (lv_at hl 0 rfl) ?_
           exact by
            refine jald hx hb hK hP (jc_1 cI cL ad σ τ) (jin rfl (by omega) (by omega)) dX6_digits_21 ?_
            have g17 := w1 _ (jnat (x := x5) rfl (n := 8) (by omega) (of_decide_eq_true rfl))
            refine jtopr (y := (σ 1 x5.toNatClampNeg)) rfl ?_
            have g18 := jrg (rfl : x16.toInt = x16.toInt)
            have g19 := jrg (rfl : (σ 1 x5.toNatClampNeg).toInt = (σ 1 x5.toNatClampNeg).toInt)
            refine lv_iadd hx hb dX6_digits_22 ?_
            refine lv_topi (fun x20 ex20 => ?_)
            have gx20 := jrg (rfl : x20.toInt = x20.toInt)
            refine lv_istore_n (lv' := [(2, .int x20), (3, .int x5), (0, .ref (ad 1)), (1, .int a2)]) hx hb dX6_digits_23 rfl hl (of_decide_eq_true rfl) rfl (fun ls hl => ?_)
            exact by
             obtain ⟨x21, ex21⟩ : ∃ y : Int32, y = x5 + 1 := ⟨_, rfl⟩
             have tx21 : x21.toInt = x5.toInt + 1 := (jadd ex21 rfl jz_1 (by omega) (by omega)).trans (by omega)
             refine lv_iinc (v := x21) (lv' := [(3, .int x21), (2, .int x20), (0, .ref (ad 1)), (1, .int a2)]) hx hb dX6_digits_24 hl (k := 1) rfl (by rw [ex21]; rfl) (of_decide_eq_true rfl) rfl (fun ls hl => ?_)
             refine lv_goto (tgt := 4) hx hb dX6_digits_27 (of_decide_eq_true rfl) ?_
             exact by exact ihlp2 x20 x21 _ _ ls (by have h91 := tx21; omega) (by have h91 := tx21; omega) (by have h91 := tx21; omega) (by have h91 := tx21; omega)   (fun h1 h2 => jtD.step (g := σ 1) (v := x4) (m := x16) (x := x20) (a := (σ 1 x5.toNatClampNeg)) (i := (x5 : Int32).toInt) (q12 h1 h2) ex16 ex20 (show ((σ 1 x5.toNatClampNeg)).toInt = (σ 1 x5.toNatClampNeg).toInt from rfl) (by omega) (by omega) w1 (by have h9 := tx21; omega)) hP hS (lv_sub hl [0, 1, 2, 3] rfl)
  exact by exact lp2 1000000 0 0 _ _ ls (by have h90 := jz_0; have h91 := jz_0; omega) (by have h90 := jz_0; have h91 := jz_0; omega) (by have h90 := jz_0; have h91 := jz_0; omega) (by have h90 := jz_0; have h91 := jz_0; omega)  (fun _ _ => by rw [show ((0 : Int32).toInt).toNat = 0 from by have h9 := jz_0; omega]; show (0 : Int32).toInt = 0; have h9 := jz_0; omega) hP hS hl
set_option maxHeartbeats 4000000 in
set_option maxRecDepth 100000 in
theorem c_X6_swap (l : Launch) (D : va_G) (cI cL : ClassId) (ad zz : Nat → Nat) (hJ : jD ad) (σ : Nat → Nat → Int32) (τ : Nat → Nat → Int64) (a2 : Int32) (A2 : Int) (t2 : a2.toInt = A2) (a3 : Int32) (A3 : Int) (t3 : a3.toInt = A3) (hI0 : jI0 σ) (hp0 : 0 ≤ A2 ∧ A2 ≤ 7) (hp1 : 0 ≤ A3 ∧ A3 ≤ 7) : jMv l yX6_swap cX6_swap 4 none ({ frames := 0, cells := 0, slots := 0, locals := 0 }) D cI cL ad zz [.ref (ad 1), .int a2, .int a3] σ τ (fun σ' τ' => τ = τ' ∧ (∀ i : Nat, (i < 1 ∨ 1 < i) → σ' i = σ i) ∧ (jI0 σ') ∧ (σ' 1 = jupd (jupd (σ 1) (A2).toNat (σ 1 (A3).toNat)) (A3).toNat (σ 1 (A2).toNat)) ∧ True) := by
  refine jMv.of hJ (by decide +kernel) rfl (Nat.le_of_ble_eq_true rfl) ?_
  intro p e s m args below meth c Q ls hC hret hl hP
  obtain ⟨hx, hb, hr, hml, hown, hts, hK, -, hlocks, hZ⟩ := hC
  have hown : s.vm.findClass RX6 = some m.cls := hown
  have hS : va_S (jA ad) s.heap s.heap [] := va_S.rf
  have hA : ∀ q, jA ad q → jA ad q := fun _ h => h
  have hl : lv_has ls 4 [(0, .ref (ad 1)), (1, .int a2), (2, .int a3)] := hl
  have g2 := jrg t2
  have g3 := jrg t3
  have w1 : ∀ k : Nat, k < 8 → 0 ≤ (σ 1 k).toInt ∧ (σ 1 k).toInt ≤ 3 := hI0
  refine lv_aload_n hx hb dX6_swap_0 rfl (lv_at hl 0 rfl) ?_
  refine lv_iload_n hx hb dX6_swap_1 rfl (lv_at hl 1 rfl) ?_
  exact by
   refine jald hx hb hK hP (jc_1 cI cL ad σ τ) (jin t2 (by omega) (by omega)) dX6_swap_2 ?_
   have g2 := w1 _ (jnat (x := a2) t2 (n := 8) (by omega) (of_decide_eq_true rfl))
   refine jtopr (y := (σ 1 a2.toNatClampNeg)) rfl ?_
   refine lv_istore_n (lv' := [(3, .int (σ 1 a2.toNatClampNeg)), (0, .ref (ad 1)), (1, .int a2), (2, .int a3)]) hx hb dX6_swap_3 rfl hl (of_decide_eq_true rfl) rfl (fun ls hl => ?_)
   refine lv_aload_n hx hb dX6_swap_4 rfl (lv_at hl 1 rfl) ?_
   refine lv_iload_n hx hb dX6_swap_5 rfl (lv_at hl 2 rfl) ?_
   refine lv_aload_n hx hb dX6_swap_6 rfl (lv_at hl 1 rfl) ?_
   refine lv_iload_n hx hb dX6_swap_7 rfl (lv_at hl 3 rfl) ?_
   refine jald hx hb hK hP (jc_1 cI cL ad σ τ) (jin t3 (by omega) (by omega)) dX6_swap_8 ?_
   exact by
    have g3 := w1 _ (jnat (x := a3) t3 (n := 8) (by omega) (of_decide_eq_true rfl))
    refine jtopr (y := (σ 1 a3.toNatClampNeg)) rfl ?_
    refine jast hx hb hK hP hJ hA hS (jc_1 cI cL ad σ τ) (ja_1 cI cL ad σ τ _ _) (jin t2 (by omega) (by omega)) dX6_swap_9 (fun σ4 H locs eσ4 hP hS => ?_)
    refine lv_aload_n hx hb dX6_swap_10 rfl (lv_at hl 1 rfl) ?_
    refine lv_iload_n hx hb dX6_swap_11 rfl (lv_at hl 3 rfl) ?_
    refine lv_iload_n hx hb dX6_swap_12 rfl (lv_at hl 0 rfl) ?_
    refine jast hx hb hK hP hJ hA hS (jc_1 cI cL ad σ4 τ) (ja_1 cI cL ad σ4 τ _ _) (jin t3 (by omega) (by omega)) dX6_swap_13 (fun σ5 H locs eσ5 hP hS => ?_)
    have w6 : ∀ k : Nat, k < 8 → 0 ≤ (σ5 1 k).toInt ∧ (σ5 1 k).toInt ≤ 3 := (by rw [eσ5]; exact jrr_up (by rw [eσ4]; exact jrr_up w1 (by omega) (by omega)) (by omega) (by omega))
    have I7 : jI0 σ5 := w6
    exact hret σ5 τ _ _ _ _ ⟨rfl, (fun i hi => ((jnp i eσ5 (imp_42 i hi)).trans (jnp i eσ4 (imp_42 i hi)))), I7, (by rw [eσ5, jup_row, eσ4, jup_row, jnc (show a2.toInt = A2 from t2), jnc (show a3.toInt = A3 from t3)]), trivial⟩ hP hS dX6_swap_14
set_option maxHeartbeats 4000000 in
set_option maxRecDepth 100000 in
theorem c_X6_turnOn (l : Launch) (D : va_G) (cI cL : ClassId) (ad zz : Nat → Nat) (hJ : jD ad) (σ : Nat → Nat → Int32) (τ : Nat → Nat → Int64) (a2 : Int32) (A2 : Int) (t2 : a2.toInt = A2) (hI0 : jI0 σ) (hp0 : 1 ≤ A2 ∧ A2 ≤ 8) : jM l yX6_turnOn cX6_turnOn 7 (some .int) ({ frames := 1, cells := 0, slots := 0, locals := 23 }) D cI cL ad zz [.ref (ad 1), .int a2] σ τ (fun r σ' τ' => τ = τ' ∧ (∀ i : Nat, (i < 1 ∨ 1 < i) → σ' i = σ i) ∧ (jI0 σ') ∧ ((((A2).toNat ≤ jtI (fun k : Nat => (σ 1 k).toInt) (A2).toNat 8 1 ∧ (r : Int32).toInt = -1) ∨ (jtI (fun k : Nat => (σ 1 k).toInt) (A2).toNat 8 1 < (A2).toNat ∧ (r : Int32).toInt = ((jtI (fun k : Nat => (σ 1 k).toInt) (A2).toNat 8 1 : Nat) : Int) ∧ ∀ k : Nat, (σ' 1 k).toInt = jtT (fun k : Nat => (σ 1 k).toInt) (A2).toNat k))) ∧ ((True ∧ ((-1) ≤ r.toInt ∧ r.toInt ≤ 7)))) := by
  refine jM.of hJ (by decide +kernel) (nt := .int) rfl (Nat.le_of_ble_eq_true rfl) ?_
  intro p e s m args below meth c Q ls hC hret hl hP
  obtain ⟨hx, hb, hr, hml, hown, hts, hK, -, hlocks, hZ⟩ := hC
  have hown : s.vm.findClass RX6 = some m.cls := hown
  have hS : va_S (jA ad) s.heap s.heap [] := va_S.rf
  have hA : ∀ q, jA ad q → jA ad q := fun _ h => h
  have hl : lv_has ls 7 [(0, .ref (ad 1)), (1, .int a2)] := hl
  have g2 := jrg t2
  have w1 : ∀ k : Nat, k < 8 → 0 ≤ (σ 1 k).toInt ∧ (σ 1 k).toInt ≤ 3 := hI0
  refine lv_iload_n hx hb dX6_turnOn_0 rfl (lv_at hl 1 rfl) ?_
  refine lv_aload_n hx hb dX6_turnOn_1 rfl (lv_at hl 0 rfl) ?_
  refine jalen (v := 8) hx hb hK hP (jc_1 cI cL ad σ τ) (of_decide_eq_true rfl) dX6_turnOn_2 ?_
  refine va_mmin hx hb (hml.trans hl.1.symm) hown (hts _ kw_40_9) (hts _ kw_22_11) (hts _ kw_21_1) (hts _ kw_22_12) (Nat.le_of_ble_eq_true rfl) (Nat.le_of_ble_eq_true rfl) (Nat.le_of_ble_eq_true rfl) (Nat.le_of_ble_eq_true rfl) dX6_turnOn_3 ?_
  refine lv_topi (fun x2 ex2 => ?_)
  have g3 := jmin ex2 t2 jz_8
  refine lv_istore_n (lv' := [(2, .int x2), (0, .ref (ad 1)), (1, .int a2)]) hx hb dX6_turnOn_6 rfl hl (of_decide_eq_true rfl) rfl (fun ls hl => ?_)
  refine lv_iconst (v := 1) hx hb dX6_turnOn_7 (of_decide_eq_true rfl) ?_
  refine lv_istore_n (lv' := [(3, .int 1), (2, .int x2), (0, .ref (ad 1)), (1, .int a2)]) hx hb dX6_turnOn_8 rfl hl (of_decide_eq_true rfl) rfl (fun ls hl => ?_)
  have lp4 : ∀ (n5 : Nat) (x6 : Int32) (H : Heap) (locs : List Loc) (ls : Array Slot), (-x6.toInt + 8 : Int) < n5 → 1 ≤ x6.toInt → x6.toInt ≤ 8 → x6.toInt ≤ A2 → (jtI (fun k : Nat => (σ 1 k).toInt) (A2).toNat 8 1 = jtI (fun k : Nat => (σ 1 k).toInt) (A2).toNat (9 - (x6 : Int32).toInt).toNat ((x6 : Int32).toInt).toNat) → jH D cI cL ad σ τ H → va_S (jA ad) s.heap H locs → lv_has ls 7 [(3, .int x6), (2, .int x2), (0, .ref (ad 1)), (1, .int a2)] → W p l e ({ frames := 1, cells := 0, slots := 0, locals := 23 }) s m args below meth c H locs 0 0 Q (F0 m 9 ls []) := by
    intro n5
    induction n5 with
    | zero => intro x6 H locs ls h8 h9 h10 h11; exact absurd h8 (by omega)
    | succ n5 ihlp4 =>
      intro x6 H locs ls h8 h9 h10 h11 q13 hP hS hl
      exact by
       refine lv_iload_n hx hb dX6_turnOn_9 rfl (lv_at hl 0 rfl) ?_
       refine lv_iload_n hx hb dX6_turnOn_10 rfl (lv_at hl 1 rfl) ?_
       refine lv_icmp_ge (tgt := 31) hx hb dX6_turnOn_11 (of_decide_eq_true rfl) (fun c14 => ?_) (fun c14 => ?_)
       · have kc14 := jle c14 rfl rfl
         refine lv_iload_n hx hb dX6_turnOn_31 rfl (lv_at hl 0 rfl) ?_
         refine lv_iload_n hx hb dX6_turnOn_32 rfl (lv_at hl 1 rfl) ?_
         refine lv_icmp_lt (tgt := 38) hx hb dX6_turnOn_33 (of_decide_eq_true rfl) (fun c => absurd (jlt c rfl rfl) (by omega)) (fun c15 => ?_)
         have kc15 := jnlt c15 rfl rfl
         refine lv_iconst (v := (-1)) hx hb dX6_turnOn_36 (of_decide_eq_true rfl) ?_
         exact by exact hret (-1) σ τ _ _ _ _ rfl ⟨rfl, (fun _ _ => rfl), hI0, (Or.inl ⟨by rw [(jtI.fin (i := (x6 : Int32).toInt) (a := 0) (b := 0) q13 (by omega) (by omega) (Or.inl (by omega)))]; omega, by decide⟩), ⟨trivial, (by have h9 := jz_m1; omega)⟩⟩ hP hS dX6_turnOn_37
       · exact by
          have kc14 := jnle c14 rfl rfl
          refine lv_aload_n hx hb dX6_turnOn_14 rfl (lv_at hl 2 rfl) ?_
          refine lv_iload_n hx hb dX6_turnOn_15 rfl (lv_at hl 0 rfl) ?_
          refine jald hx hb hK hP (jc_1 cI cL ad σ τ) (jin rfl (by omega) (by omega)) dX6_turnOn_16 ?_
          have g16 := w1 _ (jnat (x := x6) rfl (n := 8) (by omega) (of_decide_eq_true rfl))
          refine jtopr (y := (σ 1 x6.toNatClampNeg)) rfl ?_
          refine lv_aload_n hx hb dX6_turnOn_17 rfl (lv_at hl 2 rfl) ?_
          refine lv_iload_n hx hb dX6_turnOn_18 rfl (lv_at hl 0 rfl) ?_
          refine lv_iconst (v := 1) hx hb dX6_turnOn_19 (of_decide_eq_true rfl) ?_
          exact by
           have g17 := jrg (rfl : x6.toInt = x6.toInt)
           refine lv_isub hx hb dX6_turnOn_20 ?_
           refine lv_topi (fun x18 ex18 => ?_)
           have tx18 : x18.toInt = x6.toInt - 1 := (jsub ex18 rfl jz_1 (by omega) (by omega)).trans (by omega)
           refine jald hx hb hK hP (jc_1 cI cL ad σ τ) (jin tx18 (by omega) (by omega)) dX6_turnOn_21 ?_
           have g19 := w1 _ (jnat (x := x18) tx18 (n := 8) (by omega) (of_decide_eq_true rfl))
           refine jtopr (y := (σ 1 x18.toNatClampNeg)) rfl ?_
           refine lv_icmp_lt (tgt := 31) hx hb dX6_turnOn_22 (of_decide_eq_true rfl) (fun c20 => ?_) (fun c20 => ?_)
           · have kc20 := jlt c20 rfl rfl
             exact by
              refine lv_iload_n hx hb dX6_turnOn_31 rfl (lv_at hl 0 rfl) ?_
              refine lv_iload_n hx hb dX6_turnOn_32 rfl (lv_at hl 1 rfl) ?_
              refine lv_icmp_lt (tgt := 38) hx hb dX6_turnOn_33 (of_decide_eq_true rfl) (fun c21 => ?_) (fun c => absurd (jnlt c rfl rfl) (by omega))
              have kc21 := jlt c21 rfl rfl
              refine lv_iconst (v := 0) hx hb dX6_turnOn_38 (of_decide_eq_true rfl) ?_
              refine lv_istore (lv' := [(4, .int 0), (3, .int x6), (2, .int x2), (0, .ref (ad 1)), (1, .int a2)]) hx hb dX6_turnOn_39 hl (of_decide_eq_true rfl) rfl (fun ls hl => ?_)
              have lp22 : ∀ (n23 : Nat) (x24 : Int32) (H : Heap) (locs : List Loc) (ls : Array Slot), (x6.toInt - x24.toInt : Int) < n23 → 0 ≤ x24.toInt → x24.toInt ≤ 8 → x24.toInt ≤ x6.toInt → (jtJ (fun k : Nat => (σ 1 k).toInt) ((x6 : Int32).toInt).toNat 8 0 = jtJ (fun k : Nat => (σ 1 k).toInt) ((x6 : Int32).toInt).toNat (8 - (x24 : Int32).toInt).toNat ((x24 : Int32).toInt).toNat) → jH D cI cL ad σ τ H → va_S (jA ad) s.heap H locs → lv_has ls 7 [(4, .int x24), (3, .int x6), (2, .int x2), (0, .ref (ad 1)), (1, .int a2)] → W p l e ({ frames := 1, cells := 0, slots := 0, locals := 23 }) s m args below meth c H locs 0 0 Q (F0 m 41 ls []) := by
                intro n23
                induction n23 with
                | zero => intro x24 H locs ls h26 h27 h28 h29; exact absurd h26 (by omega)
                | succ n23 ihlp22 =>
                  intro x24 H locs ls h26 h27 h28 h29 q31 hP hS hl
                  exact by
                   refine lv_iload hx hb dX6_turnOn_41 (lv_at hl 0 rfl) ?_
                   refine lv_iload_n hx hb dX6_turnOn_43 rfl (lv_at hl 1 rfl) ?_
                   refine lv_icmp_ge (tgt := 63) hx hb dX6_turnOn_44 (of_decide_eq_true rfl) (fun c32 => ?_) (fun c32 => ?_)
                   · have kc32 := jle c32 rfl rfl
                     refine lv_aload_n hx hb dX6_turnOn_63 rfl (lv_at hl 3 rfl) ?_
                     refine lv_iload_n hx hb dX6_turnOn_64 rfl (lv_at hl 1 rfl) ?_
                     refine lv_iload hx hb dX6_turnOn_65 (lv_at hl 0 rfl) ?_
                     refine jcallSv (As := [.ref (ad 1), .int x6, .int x24]) (rest := []) ⟨hx, hb, hml, hown, hts⟩ hK hP hA hS hZ (c_X6_swap l D cI cL ad zz hJ σ τ x6 (x6.toInt) rfl x24 (x24.toInt) rfl hI0 (by omega) (by omega)) cw_RX6_37 ⟨Nat.le_of_ble_eq_true rfl, Nat.le_of_ble_eq_true rfl⟩ rfl rfl rfl hl.1 rfl (Nat.le_of_ble_eq_true rfl) dX6_turnOn_67 ⟨Nat.zero_le _, Nat.zero_le _⟩ (fun σ33 τ33 H locs h33 hP hS => ?_)
                     obtain ⟨rfl, f35, I36, w37, h33⟩ := h33
                     exact by
                      have w39 : ∀ k : Nat, k < 8 → 0 ≤ (σ33 1 k).toInt ∧ (σ33 1 k).toInt ≤ 3 := I36
                      refine lv_iconst (v := 0) hx hb dX6_turnOn_70 (of_decide_eq_true rfl) ?_
                      refine lv_istore (lv' := [(5, .int 0), (4, .int x24), (3, .int x6), (2, .int x2), (0, .ref (ad 1)), (1, .int a2)]) hx hb dX6_turnOn_71 hl (of_decide_eq_true rfl) rfl (fun ls hl => ?_)
                      refine lv_iload_n hx hb dX6_turnOn_73 rfl (lv_at hl 2 rfl) ?_
                      refine lv_iconst (v := 1) hx hb dX6_turnOn_74 (of_decide_eq_true rfl) ?_
                      refine lv_isub hx hb dX6_turnOn_75 ?_
                      refine lv_topi (fun x40 ex40 => ?_)
                      have tx40 : x40.toInt = x6.toInt - 1 := (jsub ex40 rfl jz_1 (by omega) (by omega)).trans (by omega)
                      refine lv_istore (lv' := [(6, .int x40), (5, .int 0), (4, .int x24), (3, .int x6), (2, .int x2), (0, .ref (ad 1)), (1, .int a2)]) hx hb dX6_turnOn_76 hl (of_decide_eq_true rfl) rfl (fun ls hl => ?_)
                      exact by
                       have lp41 : ∀ (n42 : Nat) (x43 : Int32) (x44 : Int32) (σ45 : Nat → Nat → Int32) (H : Heap) (locs : List Loc) (ls : Array Slot), (-x43.toInt + 8 : Int) < n42 → 0 ≤ x43.toInt → x43.toInt ≤ 8 → (-1) ≤ x44.toInt → x44.toInt ≤ 7 → (∀ i : Nat, (i < 1 ∨ 1 < i) → σ45 i = σ33 i) → jI0 σ45 → (jRv (jtS (fun k : Nat => (σ 1 k).toInt) ((x6 : Int32).toInt).toNat ((x24 : Int32).toInt).toNat) (σ45 1) (x6 : Int32).toInt (x43 : Int32).toInt (x44 : Int32).toInt) → jH D cI cL ad σ45 τ H → va_S (jA ad) s.heap H locs → lv_has ls 7 [(6, .int x44), (5, .int x43), (4, .int x24), (3, .int x6), (2, .int x2), (0, .ref (ad 1)), (1, .int a2)] → W p l e ({ frames := 1, cells := 0, slots := 0, locals := 23 }) s m args below meth c H locs 0 0 Q (F0 m 78 ls []) := by
                         intro n42
                         induction n42 with
                         | zero => intro x43 x44 σ45 H locs ls h47 h48 h49 h50 h51; exact absurd h47 (by omega)
                         | succ n42 ihlp41 =>
                           intro x43 x44 σ45 H locs ls h47 h48 h49 h50 h51 f52 p53 q54 hP hS hl
                           have w55 : ∀ k : Nat, k < 8 → 0 ≤ (σ45 1 k).toInt ∧ (σ45 1 k).toInt ≤ 3 := p53
                           refine lv_iload hx hb dX6_turnOn_78 (lv_at hl 1 rfl) ?_
                           refine lv_iload hx hb dX6_turnOn_80 (lv_at hl 0 rfl) ?_
                           exact by
                            refine lv_icmp_ge (tgt := 102) hx hb dX6_turnOn_82 (of_decide_eq_true rfl) (fun c56 => ?_) (fun c56 => ?_)
                            · have kc56 := jle c56 rfl rfl
                              refine lv_iload_n hx hb dX6_turnOn_102 rfl (lv_at hl 3 rfl) ?_
                              have k57 := (jtI.fin (i := (x6 : Int32).toInt) (a := ((σ 1 x18.toNatClampNeg) : Int32).toInt) (b := ((σ 1 x6.toNatClampNeg) : Int32).toInt) q13 (by omega) (by omega) (Or.inr ⟨(show ((σ 1 x18.toNatClampNeg)).toInt = (σ 1 ((x6 : Int32).toInt - 1).toNat).toInt from by rw [jnc (show x18.toInt = (x6 : Int32).toInt - 1 by omega)]), (show ((σ 1 x6.toNatClampNeg)).toInt = (σ 1 ((x6 : Int32).toInt).toNat).toInt from by rw [jnc (show x6.toInt = (x6 : Int32).toInt by omega)]), by omega⟩))
                              exact by exact hret x6 σ45 τ _ _ _ _ rfl ⟨rfl, (fun i hi => ((f52 i hi).trans (f35 i hi))), p53, (Or.inr ⟨by rw [k57]; omega, by rw [k57]; omega, (fun k => by exact jtT_of k57 (jtJ.fin (j := (x24 : Int32).toInt) (a := 0) (b := 0) q31 (by omega) (by omega) (Or.inl (by omega))) (by omega) (fun k => jRv.fin q54 (by omega) (show ((((x6 : Int32).toInt).toNat : Nat) : Int) = (x6 : Int32).toInt by omega) k) k)⟩), ⟨trivial, (by omega)⟩⟩ hP hS dX6_turnOn_103
                            · have kc56 := jnle c56 rfl rfl
                              refine lv_aload_n hx hb dX6_turnOn_85 rfl (lv_at hl 5 rfl) ?_
                              refine lv_iload hx hb dX6_turnOn_86 (lv_at hl 1 rfl) ?_
                              refine lv_iload hx hb dX6_turnOn_88 (lv_at hl 0 rfl) ?_
                              exact by
                               refine jcallSv (As := [.ref (ad 1), .int x43, .int x44]) (rest := []) ⟨hx, hb, hml, hown, hts⟩ hK hP hA hS hZ (c_X6_swap l D cI cL ad zz hJ σ45 τ x43 (x43.toInt) rfl x44 (x44.toInt) rfl p53 (by omega) (by omega)) cw_RX6_37 ⟨Nat.le_of_ble_eq_true rfl, Nat.le_of_ble_eq_true rfl⟩ rfl rfl rfl hl.1 rfl (Nat.le_of_ble_eq_true rfl) dX6_turnOn_90 ⟨Nat.zero_le _, Nat.zero_le _⟩ (fun σ58 τ58 H locs h58 hP hS => ?_)
                               obtain ⟨rfl, f60, I61, w62, h58⟩ := h58
                               have w64 : ∀ k : Nat, k < 8 → 0 ≤ (σ58 1 k).toInt ∧ (σ58 1 k).toInt ≤ 3 := I61
                               obtain ⟨x65, ex65⟩ : ∃ y : Int32, y = x43 + 1 := ⟨_, rfl⟩
                               have tx65 : x65.toInt = x43.toInt + 1 := (jadd ex65 rfl jz_1 (by omega) (by omega)).trans (by omega)
                               refine lv_iinc (v := x65) (lv' := [(5, .int x65), (6, .int x44), (4, .int x24), (3, .int x6), (2, .int x2), (0, .ref (ad 1)), (1, .int a2)]) hx hb dX6_turnOn_93 hl (k := 1) rfl (by rw [ex65]; rfl) (of_decide_eq_true rfl) rfl (fun ls hl => ?_)
                               obtain ⟨x66, ex66⟩ : ∃ y : Int32, y = x44 + (-1) := ⟨_, rfl⟩
                               have tx66 : x66.toInt = x44.toInt - 1 := (jadd ex66 rfl jz_m1 (by omega) (by omega)).trans (by omega)
                               refine lv_iinc (v := x66) (lv' := [(6, .int x66), (5, .int x65), (4, .int x24), (3, .int x6), (2, .int x2), (0, .ref (ad 1)), (1, .int a2)]) hx hb dX6_turnOn_96 hl (k := 1) rfl (by rw [ex66]; rfl) (of_decide_eq_true rfl) rfl (fun ls hl => ?_)
                               exact by
                                refine lv_goto (tgt := 78) hx hb dX6_turnOn_99 (of_decide_eq_true rfl) ?_
                                exact by exact ihlp41 x65 x66 σ58 _ _ ls (by have h90 := tx65; have h91 := tx66; omega) (by have h90 := tx65; have h91 := tx66; omega) (by have h90 := tx65; have h91 := tx66; omega) (by have h90 := tx65; have h91 := tx66; omega) (by have h90 := tx65; have h91 := tx66; omega) (fun i hi => ((f60 i hi).trans (f52 i hi)))   I61 (jRv.step q54 (by omega) w62 (by have h9 := tx65; omega) (by have h9 := tx66; omega)) hP hS (lv_sub hl [0, 1, 2, 3, 4, 5, 6] rfl)
                       exact by exact lp41 1000000 0 x40 σ33 _ _ ls (by have h90 := jz_0; have h91 := tx40; omega) (by have h90 := jz_0; have h91 := tx40; omega) (by have h90 := jz_0; have h91 := tx40; omega) (by have h90 := jz_0; have h91 := tx40; omega) (by have h90 := jz_0; have h91 := tx40; omega) (fun _ _ => rfl)  I36 (jRv.first (jtS_of w37) (by have h9 := jz_0; omega) (by have h9 := tx40; omega) (by omega)) hP hS hl
                   · have kc32 := jnle c32 rfl rfl
                     refine lv_aload_n hx hb dX6_turnOn_47 rfl (lv_at hl 3 rfl) ?_
                     refine lv_iload hx hb dX6_turnOn_48 (lv_at hl 0 rfl) ?_
                     refine jald hx hb hK hP (jc_1 cI cL ad σ τ) (jin rfl (by omega) (by omega)) dX6_turnOn_50 ?_
                     have g67 := w1 _ (jnat (x := x24) rfl (n := 8) (by omega) (of_decide_eq_true rfl))
                     refine jtopr (y := (σ 1 x24.toNatClampNeg)) rfl ?_
                     exact by
                      refine lv_aload_n hx hb dX6_turnOn_51 rfl (lv_at hl 3 rfl) ?_
                      refine lv_iload_n hx hb dX6_turnOn_52 rfl (lv_at hl 1 rfl) ?_
                      refine jald hx hb hK hP (jc_1 cI cL ad σ τ) (jin rfl (by omega) (by omega)) dX6_turnOn_53 ?_
                      have g68 := w1 _ (jnat (x := x6) rfl (n := 8) (by omega) (of_decide_eq_true rfl))
                      refine jtopr (y := (σ 1 x6.toNatClampNeg)) rfl ?_
                      refine lv_icmp_gt (tgt := 63) hx hb dX6_turnOn_54 (of_decide_eq_true rfl) (fun c69 => ?_) (fun c69 => ?_)
                      · have kc69 := jlt c69 rfl rfl
                        refine lv_aload_n hx hb dX6_turnOn_63 rfl (lv_at hl 3 rfl) ?_
                        refine lv_iload_n hx hb dX6_turnOn_64 rfl (lv_at hl 1 rfl) ?_
                        exact by
                         refine lv_iload hx hb dX6_turnOn_65 (lv_at hl 0 rfl) ?_
                         refine jcallSv (As := [.ref (ad 1), .int x6, .int x24]) (rest := []) ⟨hx, hb, hml, hown, hts⟩ hK hP hA hS hZ (c_X6_swap l D cI cL ad zz hJ σ τ x6 (x6.toInt) rfl x24 (x24.toInt) rfl hI0 (by omega) (by omega)) cw_RX6_37 ⟨Nat.le_of_ble_eq_true rfl, Nat.le_of_ble_eq_true rfl⟩ rfl rfl rfl hl.1 rfl (Nat.le_of_ble_eq_true rfl) dX6_turnOn_67 ⟨Nat.zero_le _, Nat.zero_le _⟩ (fun σ70 τ70 H locs h70 hP hS => ?_)
                         obtain ⟨rfl, f72, I73, w74, h70⟩ := h70
                         have w76 : ∀ k : Nat, k < 8 → 0 ≤ (σ70 1 k).toInt ∧ (σ70 1 k).toInt ≤ 3 := I73
                         refine lv_iconst (v := 0) hx hb dX6_turnOn_70 (of_decide_eq_true rfl) ?_
                         refine lv_istore (lv' := [(5, .int 0), (4, .int x24), (3, .int x6), (2, .int x2), (0, .ref (ad 1)), (1, .int a2)]) hx hb dX6_turnOn_71 hl (of_decide_eq_true rfl) rfl (fun ls hl => ?_)
                         refine lv_iload_n hx hb dX6_turnOn_73 rfl (lv_at hl 2 rfl) ?_
                         refine lv_iconst (v := 1) hx hb dX6_turnOn_74 (of_decide_eq_true rfl) ?_
                         refine lv_isub hx hb dX6_turnOn_75 ?_
                         exact by
                          refine lv_topi (fun x77 ex77 => ?_)
                          have tx77 : x77.toInt = x6.toInt - 1 := (jsub ex77 rfl jz_1 (by omega) (by omega)).trans (by omega)
                          refine lv_istore (lv' := [(6, .int x77), (5, .int 0), (4, .int x24), (3, .int x6), (2, .int x2), (0, .ref (ad 1)), (1, .int a2)]) hx hb dX6_turnOn_76 hl (of_decide_eq_true rfl) rfl (fun ls hl => ?_)
                          have lp78 : ∀ (n79 : Nat) (x80 : Int32) (x81 : Int32) (σ82 : Nat → Nat → Int32) (H : Heap) (locs : List Loc) (ls : Array Slot), (-x80.toInt + 8 : Int) < n79 → 0 ≤ x80.toInt → x80.toInt ≤ 8 → (-1) ≤ x81.toInt → x81.toInt ≤ 7 → (∀ i : Nat, (i < 1 ∨ 1 < i) → σ82 i = σ70 i) → jI0 σ82 → (jRv (jtS (fun k : Nat => (σ 1 k).toInt) ((x6 : Int32).toInt).toNat ((x24 : Int32).toInt).toNat) (σ82 1) (x6 : Int32).toInt (x80 : Int32).toInt (x81 : Int32).toInt) → jH D cI cL ad σ82 τ H → va_S (jA ad) s.heap H locs → lv_has ls 7 [(6, .int x81), (5, .int x80), (4, .int x24), (3, .int x6), (2, .int x2), (0, .ref (ad 1)), (1, .int a2)] → W p l e ({ frames := 1, cells := 0, slots := 0, locals := 23 }) s m args below meth c H locs 0 0 Q (F0 m 78 ls []) := by
                            intro n79
                            induction n79 with
                            | zero => intro x80 x81 σ82 H locs ls h84 h85 h86 h87 h88; exact absurd h84 (by omega)
                            | succ n79 ihlp78 =>
                              intro x80 x81 σ82 H locs ls h84 h85 h86 h87 h88 f89 p90 q91 hP hS hl
                              exact by
                               have w92 : ∀ k : Nat, k < 8 → 0 ≤ (σ82 1 k).toInt ∧ (σ82 1 k).toInt ≤ 3 := p90
                               refine lv_iload hx hb dX6_turnOn_78 (lv_at hl 1 rfl) ?_
                               refine lv_iload hx hb dX6_turnOn_80 (lv_at hl 0 rfl) ?_
                               refine lv_icmp_ge (tgt := 102) hx hb dX6_turnOn_82 (of_decide_eq_true rfl) (fun c93 => ?_) (fun c93 => ?_)
                               · have kc93 := jle c93 rfl rfl
                                 refine lv_iload_n hx hb dX6_turnOn_102 rfl (lv_at hl 3 rfl) ?_
                                 have k94 := (jtI.fin (i := (x6 : Int32).toInt) (a := ((σ 1 x18.toNatClampNeg) : Int32).toInt) (b := ((σ 1 x6.toNatClampNeg) : Int32).toInt) q13 (by omega) (by omega) (Or.inr ⟨(show ((σ 1 x18.toNatClampNeg)).toInt = (σ 1 ((x6 : Int32).toInt - 1).toNat).toInt from by rw [jnc (show x18.toInt = (x6 : Int32).toInt - 1 by omega)]), (show ((σ 1 x6.toNatClampNeg)).toInt = (σ 1 ((x6 : Int32).toInt).toNat).toInt from by rw [jnc (show x6.toInt = (x6 : Int32).toInt by omega)]), by omega⟩))
                                 exact by exact hret x6 σ82 τ _ _ _ _ rfl ⟨rfl, (fun i hi => ((f89 i hi).trans (f72 i hi))), p90, (Or.inr ⟨by rw [k94]; omega, by rw [k94]; omega, (fun k => by exact jtT_of k94 (jtJ.fin (j := (x24 : Int32).toInt) (a := ((σ 1 x24.toNatClampNeg) : Int32).toInt) (b := ((σ 1 x6.toNatClampNeg) : Int32).toInt) q31 (by omega) (by omega) (Or.inr ⟨(show ((σ 1 x24.toNatClampNeg)).toInt = (σ 1 ((x24 : Int32).toInt).toNat).toInt from by rw [jnc (show x24.toInt = (x24 : Int32).toInt by omega)]), (show ((σ 1 x6.toNatClampNeg)).toInt = (σ 1 ((x6 : Int32).toInt).toNat).toInt from by rw [jnc (show x6.toInt = (x6 : Int32).toInt by omega)]), by omega⟩)) (by omega) (fun k => jRv.fin q91 (by omega) (show ((((x6 : Int32).toInt).toNat : Nat) : Int) = (x6 : Int32).toInt by omega) k) k)⟩), ⟨trivial, (by omega)⟩⟩ hP hS dX6_turnOn_103
                               · have kc93 := jnle c93 rfl rfl
                                 exact by
                                  refine lv_aload_n hx hb dX6_turnOn_85 rfl (lv_at hl 5 rfl) ?_
                                  refine lv_iload hx hb dX6_turnOn_86 (lv_at hl 1 rfl) ?_
                                  refine lv_iload hx hb dX6_turnOn_88 (lv_at hl 0 rfl) ?_
                                  refine jcallSv (As := [.ref (ad 1), .int x80, .int x81]) (rest := []) ⟨hx, hb, hml, hown, hts⟩ hK hP hA hS hZ (c_X6_swap l D cI cL ad zz hJ σ82 τ x80 (x80.toInt) rfl x81 (x81.toInt) rfl p90 (by omega) (by omega)) cw_RX6_37 ⟨Nat.le_of_ble_eq_true rfl, Nat.le_of_ble_eq_true rfl⟩ rfl rfl rfl hl.1 rfl (Nat.le_of_ble_eq_true rfl) dX6_turnOn_90 ⟨Nat.zero_le _, Nat.zero_le _⟩ (fun σ95 τ95 H locs h95 hP hS => ?_)
                                  obtain ⟨rfl, f97, I98, w99, h95⟩ := h95
                                  have w101 : ∀ k : Nat, k < 8 → 0 ≤ (σ95 1 k).toInt ∧ (σ95 1 k).toInt ≤ 3 := I98
                                  obtain ⟨x102, ex102⟩ : ∃ y : Int32, y = x80 + 1 := ⟨_, rfl⟩
                                  have tx102 : x102.toInt = x80.toInt + 1 := (jadd ex102 rfl jz_1 (by omega) (by omega)).trans (by omega)
                                  refine lv_iinc (v := x102) (lv' := [(5, .int x102), (6, .int x81), (4, .int x24), (3, .int x6), (2, .int x2), (0, .ref (ad 1)), (1, .int a2)]) hx hb dX6_turnOn_93 hl (k := 1) rfl (by rw [ex102]; rfl) (of_decide_eq_true rfl) rfl (fun ls hl => ?_)
                                  exact by
                                   obtain ⟨x103, ex103⟩ : ∃ y : Int32, y = x81 + (-1) := ⟨_, rfl⟩
                                   have tx103 : x103.toInt = x81.toInt - 1 := (jadd ex103 rfl jz_m1 (by omega) (by omega)).trans (by omega)
                                   refine lv_iinc (v := x103) (lv' := [(6, .int x103), (5, .int x102), (4, .int x24), (3, .int x6), (2, .int x2), (0, .ref (ad 1)), (1, .int a2)]) hx hb dX6_turnOn_96 hl (k := 1) rfl (by rw [ex103]; rfl) (of_decide_eq_true rfl) rfl (fun ls hl => ?_)
                                   refine lv_goto (tgt := 78) hx hb dX6_turnOn_99 (of_decide_eq_true rfl) ?_
                                   exact by exact ihlp78 x102 x103 σ95 _ _ ls (by have h90 := tx102; have h91 := tx103; omega) (by have h90 := tx102; have h91 := tx103; omega) (by have h90 := tx102; have h91 := tx103; omega) (by have h90 := tx102; have h91 := tx103; omega) (by have h90 := tx102; have h91 := tx103; omega) (fun i hi => ((f97 i hi).trans (f89 i hi)))   I98 (jRv.step q91 (by omega) w99 (by have h9 := tx102; omega) (by have h9 := tx103; omega)) hP hS (lv_sub hl [0, 1, 2, 3, 4, 5, 6] rfl)
                          exact by exact lp78 1000000 0 x77 σ70 _ _ ls (by have h90 := jz_0; have h91 := tx77; omega) (by have h90 := jz_0; have h91 := tx77; omega) (by have h90 := jz_0; have h91 := tx77; omega) (by have h90 := jz_0; have h91 := tx77; omega) (by have h90 := jz_0; have h91 := tx77; omega) (fun _ _ => rfl)  I73 (jRv.first (jtS_of w74) (by have h9 := jz_0; omega) (by have h9 := tx77; omega) (by omega)) hP hS hl
                      · have kc69 := jnlt c69 rfl rfl
                        obtain ⟨x104, ex104⟩ : ∃ y : Int32, y = x24 + 1 := ⟨_, rfl⟩
                        have tx104 : x104.toInt = x24.toInt + 1 := (jadd ex104 rfl jz_1 (by omega) (by omega)).trans (by omega)
                        exact by
                         refine lv_iinc (v := x104) (lv' := [(4, .int x104), (3, .int x6), (2, .int x2), (0, .ref (ad 1)), (1, .int a2)]) hx hb dX6_turnOn_57 hl (k := 0) rfl (by rw [ex104]; rfl) (of_decide_eq_true rfl) rfl (fun ls hl => ?_)
                         refine lv_goto (tgt := 41) hx hb dX6_turnOn_60 (of_decide_eq_true rfl) ?_
                         exact by exact ihlp22 x104 _ _ ls (by have h90 := tx104; omega) (by have h90 := tx104; omega) (by have h90 := tx104; omega) (by have h90 := tx104; omega)   (jtJ.step (j := (x24 : Int32).toInt) (a := ((σ 1 x24.toNatClampNeg) : Int32).toInt) (b := ((σ 1 x6.toNatClampNeg) : Int32).toInt) q31 (by omega) (by omega) (by omega) (show ((σ 1 x24.toNatClampNeg)).toInt = (σ 1 ((x24 : Int32).toInt).toNat).toInt from by rw [jnc (show x24.toInt = (x24 : Int32).toInt by omega)]) (show ((σ 1 x6.toNatClampNeg)).toInt = (σ 1 ((x6 : Int32).toInt).toNat).toInt from by rw [jnc (show x6.toInt = (x6 : Int32).toInt by omega)]) (by omega) (by have h9 := tx104; omega)) hP hS (lv_sub hl [0, 1, 2, 3, 4] rfl)
              exact by exact lp22 1000000 0 _ _ ls (by have h90 := jz_0; omega) (by have h90 := jz_0; omega) (by have h90 := jz_0; omega) (by have h90 := jz_0; omega)  (by rw [show (8 - (0 : Int32).toInt).toNat = 8 from by have h9 := jz_0; omega, show ((0 : Int32).toInt).toNat = 0 from by have h9 := jz_0; omega]) hP hS hl
           · have kc20 := jnlt c20 rfl rfl
             obtain ⟨x105, ex105⟩ : ∃ y : Int32, y = x6 + 1 := ⟨_, rfl⟩
             have tx105 : x105.toInt = x6.toInt + 1 := (jadd ex105 rfl jz_1 (by omega) (by omega)).trans (by omega)
             refine lv_iinc (v := x105) (lv' := [(3, .int x105), (2, .int x2), (0, .ref (ad 1)), (1, .int a2)]) hx hb dX6_turnOn_25 hl (k := 0) rfl (by rw [ex105]; rfl) (of_decide_eq_true rfl) rfl (fun ls hl => ?_)
             refine lv_goto (tgt := 9) hx hb dX6_turnOn_28 (of_decide_eq_true rfl) ?_
             exact by exact ihlp4 x105 _ _ ls (by have h90 := tx105; omega) (by have h90 := tx105; omega) (by have h90 := tx105; omega) (by have h90 := tx105; omega)   (jtI.step (i := (x6 : Int32).toInt) (a := ((σ 1 x18.toNatClampNeg) : Int32).toInt) (b := ((σ 1 x6.toNatClampNeg) : Int32).toInt) q13 (by omega) (by omega) (by omega) (show ((σ 1 x18.toNatClampNeg)).toInt = (σ 1 ((x6 : Int32).toInt - 1).toNat).toInt from by rw [jnc (show x18.toInt = (x6 : Int32).toInt - 1 by omega)]) (show ((σ 1 x6.toNatClampNeg)).toInt = (σ 1 ((x6 : Int32).toInt).toNat).toInt from by rw [jnc (show x6.toInt = (x6 : Int32).toInt by omega)]) (by omega) (by have h9 := tx105; omega)) hP hS (lv_sub hl [0, 1, 2, 3] rfl)
  exact by exact lp4 1000000 1 _ _ ls (by have h90 := jz_1; omega) (by have h90 := jz_1; omega) (by have h90 := jz_1; omega) (by have h90 := jz_1; omega)  (by rw [show (9 - (1 : Int32).toInt).toNat = 8 from by have h9 := jz_1; omega, show ((1 : Int32).toInt).toNat = 1 from by have h9 := jz_1; omega]) hP hS hl
set_option maxHeartbeats 4000000 in
set_option maxRecDepth 100000 in
theorem c_X5_lay_26 (l : Launch) (D : va_G) (cI cL : ClassId) (ad zz : Nat → Nat) (hJ : jD ad) (σ : Nat → Nat → Int32) (τ : Nat → Nat → Int64) (a1 : Int32) (A1 : Int) (t1 : a1.toInt = A1) (hp0 : 0 ≤ A1 ∧ A1 ≤ 3) : jMv l yX5_lay cX5_lay 7 none ({ frames := 2, cells := 0, slots := 0, locals := 44 }) D cI cL ad zz [.ref (ad 26), .int a1] σ τ (fun σ' τ' => τ = τ' ∧ (∀ i : Nat, (i < 27 ∨ 28 < i) → σ' i = σ i) ∧ (jLd (σ' 27) (σ' 28) (σ 3) (σ 4) (σ 5) (A1) 64) ∧ True) := by
  refine jMv.of hJ (by decide +kernel) rfl (Nat.le_of_ble_eq_true rfl) ?_
  intro p e s m args below meth c Q ls hC hret hl hP
  obtain ⟨hx, hb, hr, hml, hown, hts, hK, -, hlocks, hZ⟩ := hC
  have hown : s.vm.findClass RX5 = some m.cls := hown
  have hS : va_S (jA ad) s.heap s.heap [] := va_S.rf
  have hA : ∀ q, jA ad q → jA ad q := fun _ h => h
  have hl : lv_has ls 7 [(0, .ref (ad 26)), (1, .int a1)] := hl
  have g1 := jrg t1
  refine lv_iconst (v := 0) hx hb dX5_lay_0 (of_decide_eq_true rfl) ?_
  refine lv_istore_n (lv' := [(2, .int 0), (0, .ref (ad 26)), (1, .int a1)]) hx hb dX5_lay_1 rfl hl (of_decide_eq_true rfl) rfl (fun ls hl => ?_)
  have lp1 : ∀ (n2 : Nat) (x3 : Int32) (σ8 : Nat → Nat → Int32) (H : Heap) (locs : List Loc) (ls : Array Slot), (-x3.toInt + 4 : Int) < n2 → 0 ≤ x3.toInt → x3.toInt ≤ 4 → (∀ i : Nat, (i < 27 ∨ 28 < i) → σ8 i = σ i) → (jLd (σ8 27) (σ8 28) (σ 3) (σ 4) (σ 5) (A1) (16 * x3.toInt)) → jH D cI cL ad σ8 τ H → va_S (jA ad) s.heap H locs → lv_has ls 7 [(2, .int x3), (0, .ref (ad 26)), (1, .int a1)] → W p l e ({ frames := 2, cells := 0, slots := 0, locals := 44 }) s m args below meth c H locs 0 0 Q (F0 m 2 ls []) := by
    intro n2
    induction n2 with
    | zero => intro x3 σ8 H locs ls h10 h11 h12; exact absurd h10 (by omega)
    | succ n2 ihlp1 =>
      intro x3 σ8 H locs ls h10 h11 h12 f13 q14 hP hS hl
      exact by
       refine lv_iload_n hx hb dX5_lay_2 rfl (lv_at hl 0 rfl) ?_
       refine lv_iconst (v := 4) hx hb dX5_lay_3 (of_decide_eq_true rfl) ?_
       refine lv_icmp_ge (tgt := 120) hx hb dX5_lay_4 (of_decide_eq_true rfl) (fun c15 => ?_) (fun c15 => ?_)
       · have kc15 := jle c15 jz_4 rfl
         exact hret σ8 τ _ _ _ _ ⟨rfl, (fun i hi => (f13 i hi)), (q14.n (by omega)), trivial⟩ hP hS dX5_lay_120
       · have kc15 := jnle c15 jz_4 rfl
         refine lv_iconst (v := 0) hx hb dX5_lay_7 (of_decide_eq_true rfl) ?_
         refine lv_istore_n (lv' := [(3, .int 0), (2, .int x3), (0, .ref (ad 26)), (1, .int a1)]) hx hb dX5_lay_8 rfl hl (of_decide_eq_true rfl) rfl (fun ls hl => ?_)
         have lp16 : ∀ (n17 : Nat) (x18 : Int32) (σ22 : Nat → Nat → Int32) (H : Heap) (locs : List Loc) (ls : Array Slot), (-x18.toInt + 4 : Int) < n17 → 0 ≤ x18.toInt → x18.toInt ≤ 4 → (∀ i : Nat, (i < 27 ∨ 28 < i) → σ22 i = σ8 i) → (jLd (σ22 27) (σ22 28) (σ 3) (σ 4) (σ 5) (A1) (16 * x3.toInt + 4 * x18.toInt)) → jH D cI cL ad σ22 τ H → va_S (jA ad) s.heap H locs → lv_has ls 7 [(3, .int x18), (2, .int x3), (0, .ref (ad 26)), (1, .int a1)] → W p l e ({ frames := 2, cells := 0, slots := 0, locals := 44 }) s m args below meth c H locs 0 0 Q (F0 m 9 ls []) := by
           intro n17
           induction n17 with
           | zero => intro x18 σ22 H locs ls h24 h25 h26; exact absurd h24 (by omega)
           | succ n17 ihlp16 =>
             intro x18 σ22 H locs ls h24 h25 h26 f27 q28 hP hS hl
             exact by
              refine lv_iload_n hx hb dX5_lay_9 rfl (lv_at hl 0 rfl) ?_
              refine lv_iconst (v := 4) hx hb dX5_lay_10 (of_decide_eq_true rfl) ?_
              refine lv_icmp_ge (tgt := 114) hx hb dX5_lay_11 (of_decide_eq_true rfl) (fun c29 => ?_) (fun c29 => ?_)
              · have kc29 := jle c29 jz_4 rfl
                obtain ⟨x30, ex30⟩ : ∃ y : Int32, y = x3 + 1 := ⟨_, rfl⟩
                have tx30 : x30.toInt = x3.toInt + 1 := (jadd ex30 rfl jz_1 (by omega) (by omega)).trans (by omega)
                refine lv_iinc (v := x30) (lv' := [(2, .int x30), (3, .int x18), (0, .ref (ad 26)), (1, .int a1)]) hx hb dX5_lay_114 hl (k := 1) rfl (by rw [ex30]; rfl) (of_decide_eq_true rfl) rfl (fun ls hl => ?_)
                refine lv_goto (tgt := 2) hx hb dX5_lay_117 (of_decide_eq_true rfl) ?_
                exact by exact ihlp1 x30 σ22 _ _ ls (by have h90 := tx30; omega) (by have h90 := tx30; omega) (by have h90 := tx30; omega) (fun i hi => ((f27 i hi).trans (f13 i hi)))   (q28.n (by have h9 := tx30; omega)) hP hS (lv_sub hl [0, 2, 3] rfl)
              · exact by
                 have kc29 := jnle c29 jz_4 rfl
                 refine lv_aload_n hx hb dX5_lay_14 rfl (lv_at hl 2 rfl) ?_
                 refine va_get (D := D) hx hb hts inlX5 hown hK hP 26 (jc_26 cI cL ad σ22 τ) rfl 1 (of_decide_eq_true rfl) (hts _ kw_4_21) (fun _ h9 => h9) rfl dX5_lay_15 ?_
                 refine lv_iload_n hx hb dX5_lay_18 rfl (lv_at hl 3 rfl) ?_
                 refine lv_iload_n hx hb dX5_lay_19 rfl (lv_at hl 1 rfl) ?_
                 refine lv_iload_n hx hb dX5_lay_20 rfl (lv_at hl 0 rfl) ?_
                 refine jcallV (As := [.int a1, .int x3, .int x18]) (rest := []) ⟨hx, hb, hml, hown, hts⟩ hK hP hA hS hZ (c_X4_edgeIn_2 l D cI cL ad zz hJ σ22 τ a1 (A1) t1 x3 (x3.toInt) rfl x18 (x18.toInt) rfl (by omega) (by omega) (by omega)) cw_RX5_36 (jc_2 cI cL ad σ22 τ) rfl ⟨Nat.le_of_ble_eq_true rfl, Nat.le_of_ble_eq_true rfl⟩ rfl rfl rfl hl.1 rfl (Nat.le_of_ble_eq_true rfl) dX5_lay_21 ⟨Nat.zero_le _, Nat.zero_le _⟩ (fun r32 σ31 τ31 H locs h31 hP hS => ?_)
                 obtain ⟨⟨rfl, rfl⟩, w33, h31⟩ := h31
                 refine lv_istore (lv' := [(4, .int r32), (3, .int x18), (2, .int x3), (0, .ref (ad 26)), (1, .int a1)]) hx hb dX5_lay_24 hl (of_decide_eq_true rfl) rfl (fun ls hl => ?_)
                 exact by
                  refine lv_aload_n hx hb dX5_lay_26 rfl (lv_at hl 3 rfl) ?_
                  refine va_get (D := D) hx hb hts inlX5 hown hK hP 26 (jc_26 cI cL ad σ22 τ) rfl 1 (of_decide_eq_true rfl) (hts _ kw_4_21) (fun _ h9 => h9) rfl dX5_lay_27 ?_
                  refine lv_iload_n hx hb dX5_lay_30 rfl (lv_at hl 4 rfl) ?_
                  refine lv_iload_n hx hb dX5_lay_31 rfl (lv_at hl 2 rfl) ?_
                  refine lv_iload_n hx hb dX5_lay_32 rfl (lv_at hl 1 rfl) ?_
                  refine jcallV (As := [.int a1, .int x3, .int x18]) (rest := []) ⟨hx, hb, hml, hown, hts⟩ hK hP hA hS hZ (c_X4_runsIn_2 l D cI cL ad zz hJ σ22 τ a1 (A1) t1 x3 (x3.toInt) rfl x18 (x18.toInt) rfl (by omega) (by omega) (by omega)) cw_RX5_42 (jc_2 cI cL ad σ22 τ) rfl ⟨Nat.le_of_ble_eq_true rfl, Nat.le_of_ble_eq_true rfl⟩ rfl rfl rfl hl.1 rfl (Nat.le_of_ble_eq_true rfl) dX5_lay_33 ⟨Nat.zero_le _, Nat.zero_le _⟩ (fun r35 σ34 τ34 H locs h34 hP hS => ?_)
                  obtain ⟨⟨rfl, rfl⟩, w36, h34⟩ := h34
                  refine lv_istore (lv' := [(5, .int r35), (4, .int r32), (3, .int x18), (2, .int x3), (0, .ref (ad 26)), (1, .int a1)]) hx hb dX5_lay_36 hl (of_decide_eq_true rfl) rfl (fun ls hl => ?_)
                  refine lv_iconst (v := 0) hx hb dX5_lay_38 (of_decide_eq_true rfl) ?_
                  exact by
                   refine lv_istore (lv' := [(6, .int 0), (5, .int r35), (4, .int r32), (3, .int x18), (2, .int x3), (0, .ref (ad 26)), (1, .int a1)]) hx hb dX5_lay_39 hl (of_decide_eq_true rfl) rfl (fun ls hl => ?_)
                   have lp37 : ∀ (n38 : Nat) (x39 : Int32) (σ40 : Nat → Nat → Int32) (H : Heap) (locs : List Loc) (ls : Array Slot), (-x39.toInt + 4 : Int) < n38 → 0 ≤ x39.toInt → x39.toInt ≤ 4 → (∀ i : Nat, (i < 27 ∨ 28 < i) → σ40 i = σ22 i) → (jLd (σ40 27) (σ40 28) (σ 3) (σ 4) (σ 5) (A1) (16 * x3.toInt + 4 * x18.toInt + x39.toInt)) → jH D cI cL ad σ40 τ H → va_S (jA ad) s.heap H locs → lv_has ls 7 [(6, .int x39), (5, .int r35), (4, .int r32), (3, .int x18), (2, .int x3), (0, .ref (ad 26)), (1, .int a1)] → W p l e ({ frames := 2, cells := 0, slots := 0, locals := 44 }) s m args below meth c H locs 0 0 Q (F0 m 41 ls []) := by
                     intro n38
                     induction n38 with
                     | zero => intro x39 σ40 H locs ls h42 h43 h44; exact absurd h42 (by omega)
                     | succ n38 ihlp37 =>
                       intro x39 σ40 H locs ls h42 h43 h44 f45 q46 hP hS hl
                       refine lv_iload hx hb dX5_lay_41 (lv_at hl 0 rfl) ?_
                       refine lv_iconst (v := 4) hx hb dX5_lay_43 (of_decide_eq_true rfl) ?_
                       exact by
                        refine lv_icmp_ge (tgt := 108) hx hb dX5_lay_44 (of_decide_eq_true rfl) (fun c47 => ?_) (fun c47 => ?_)
                        · have kc47 := jle c47 jz_4 rfl
                          obtain ⟨x48, ex48⟩ : ∃ y : Int32, y = x18 + 1 := ⟨_, rfl⟩
                          have tx48 : x48.toInt = x18.toInt + 1 := (jadd ex48 rfl jz_1 (by omega) (by omega)).trans (by omega)
                          refine lv_iinc (v := x48) (lv' := [(3, .int x48), (6, .int x39), (5, .int r35), (4, .int r32), (2, .int x3), (0, .ref (ad 26)), (1, .int a1)]) hx hb dX5_lay_108 hl (k := 3) rfl (by rw [ex48]; rfl) (of_decide_eq_true rfl) rfl (fun ls hl => ?_)
                          refine lv_goto (tgt := 9) hx hb dX5_lay_111 (of_decide_eq_true rfl) ?_
                          exact by exact ihlp16 x48 σ40 _ _ ls (by have h90 := tx48; omega) (by have h90 := tx48; omega) (by have h90 := tx48; omega) (fun i hi => ((f45 i hi).trans (f27 i hi)))   (q46.n (by have h9 := tx48; omega)) hP hS (lv_sub hl [0, 4, 5, 6] rfl)
                        · have kc47 := jnle c47 jz_4 rfl
                          refine lv_aload_n hx hb dX5_lay_47 rfl (lv_at hl 5 rfl) ?_
                          exact by
                           refine va_get (D := D) hx hb hts inlX5 hown hK hP 26 (jc_26 cI cL ad σ40 τ) rfl 2 (of_decide_eq_true rfl) (hts _ kw_4_16) (fun _ h9 => h9) rfl dX5_lay_48 ?_
                           refine lv_iload_n hx hb dX5_lay_51 rfl (lv_at hl 4 rfl) ?_
                           refine lv_iconst (v := 4) hx hb dX5_lay_52 (of_decide_eq_true rfl) ?_
                           have g49 := jrg (rfl : x3.toInt = x3.toInt)
                           refine lv_imul hx hb dX5_lay_53 ?_
                           refine lv_topi (fun x50 ex50 => ?_)
                           have tx50 : x50.toInt = 4 * x3.toInt := (jmul ex50 rfl jz_4 (by omega) (by omega)).trans (by omega)
                           refine lv_iload_n hx hb dX5_lay_54 rfl (lv_at hl 3 rfl) ?_
                           have g51 := jrg (rfl : x18.toInt = x18.toInt)
                           exact by
                            refine lv_iadd hx hb dX5_lay_55 ?_
                            refine lv_topi (fun x52 ex52 => ?_)
                            have tx52 : x52.toInt = 4 * x3.toInt + x18.toInt := (jadd ex52 tx50 rfl (by omega) (by omega)).trans (by omega)
                            refine lv_iconst (v := 4) hx hb dX5_lay_56 (of_decide_eq_true rfl) ?_
                            refine lv_imul hx hb dX5_lay_57 ?_
                            refine lv_topi (fun x53 ex53 => ?_)
                            have tx53 : x53.toInt = 16 * x3.toInt + 4 * x18.toInt := (jmul ex53 tx52 jz_4 (by omega) (by omega)).trans (by omega)
                            refine lv_iload hx hb dX5_lay_58 (lv_at hl 0 rfl) ?_
                            have g54 := jrg (rfl : x39.toInt = x39.toInt)
                            exact by
                             refine lv_iadd hx hb dX5_lay_60 ?_
                             refine lv_topi (fun x55 ex55 => ?_)
                             have tx55 : x55.toInt = 16 * x3.toInt + 4 * x18.toInt + x39.toInt := (jadd ex55 tx53 rfl (by omega) (by omega)).trans (by omega)
                             refine lv_iload hx hb dX5_lay_61 (lv_at hl 2 rfl) ?_
                             refine lv_aload_n hx hb dX5_lay_63 rfl (lv_at hl 5 rfl) ?_
                             refine va_get (D := D) hx hb hts inlX5 hown hK hP 26 (jc_26 cI cL ad σ40 τ) rfl 1 (of_decide_eq_true rfl) (hts _ kw_4_21) (fun _ h9 => h9) rfl dX5_lay_64 ?_
                             refine lv_iload_n hx hb dX5_lay_67 rfl (lv_at hl 4 rfl) ?_
                             refine lv_iload hx hb dX5_lay_68 (lv_at hl 0 rfl) ?_
                             refine jcallV (As := [.int x3, .int x39]) (rest := [.int r32, .int x55, .ref (ad 27)]) ⟨hx, hb, hml, hown, hts⟩ hK hP hA hS hZ (c_X4_freshness_2 l D cI cL ad zz hJ σ40 τ x3 (x3.toInt) rfl x39 (x39.toInt) rfl (by omega)) cw_RX5_45 (jc_2 cI cL ad σ40 τ) rfl ⟨Nat.le_of_ble_eq_true rfl, Nat.le_of_ble_eq_true rfl⟩ rfl rfl rfl hl.1 rfl (Nat.le_of_ble_eq_true rfl) dX5_lay_70 ⟨Nat.zero_le _, Nat.zero_le _⟩ (fun r57 σ56 τ56 H locs h56 hP hS => ?_)
                             exact by
                              obtain ⟨⟨rfl, rfl⟩, w58, h56⟩ := h56
                              have g59 := jrg (rfl : r32.toInt = r32.toInt)
                              have g60 := jrg (rfl : r57.toInt = r57.toInt)
                              refine lv_imul hx hb dX5_lay_73 ?_
                              refine lv_topi (fun x61 ex61 => ?_)
                              have gx61 := jrg (rfl : x61.toInt = x61.toInt)
                              refine lv_bipush (v := 100) hx hb dX5_lay_74 (of_decide_eq_true rfl) ?_
                              refine lv_idiv hx hb dX5_lay_76 (of_decide_eq_true rfl) ?_
                              refine lv_topi (fun x62 ex62 => ?_)
                              have gx62 := jrg (rfl : x62.toInt = x62.toInt)
                              exact by
                               refine jast hx hb hK hP hJ hA hS (jc_27 cI cL ad σ40 τ) (ja_27 cI cL ad σ40 τ _ _) (jin tx55 (by omega) (by omega)) dX5_lay_77 (fun σ63 H locs eσ63 hP hS => ?_)
                               refine lv_aload_n hx hb dX5_lay_78 rfl (lv_at hl 5 rfl) ?_
                               refine va_get (D := D) hx hb hts inlX5 hown hK hP 26 (jc_26 cI cL ad σ63 τ) rfl 3 (of_decide_eq_true rfl) (hts _ kw_4_17) (fun _ h9 => h9) rfl dX5_lay_79 ?_
                               refine lv_iload_n hx hb dX5_lay_82 rfl (lv_at hl 4 rfl) ?_
                               refine lv_iconst (v := 4) hx hb dX5_lay_83 (of_decide_eq_true rfl) ?_
                               refine lv_imul hx hb dX5_lay_84 ?_
                               refine lv_topi (fun x64 ex64 => ?_)
                               have tx64 : x64.toInt = 4 * x3.toInt := (jmul ex64 rfl jz_4 (by omega) (by omega)).trans (by omega)
                               refine lv_iload_n hx hb dX5_lay_85 rfl (lv_at hl 3 rfl) ?_
                               exact by
                                refine lv_iadd hx hb dX5_lay_86 ?_
                                refine lv_topi (fun x65 ex65 => ?_)
                                have tx65 : x65.toInt = 4 * x3.toInt + x18.toInt := (jadd ex65 tx64 rfl (by omega) (by omega)).trans (by omega)
                                refine lv_iconst (v := 4) hx hb dX5_lay_87 (of_decide_eq_true rfl) ?_
                                refine lv_imul hx hb dX5_lay_88 ?_
                                refine lv_topi (fun x66 ex66 => ?_)
                                have tx66 : x66.toInt = 16 * x3.toInt + 4 * x18.toInt := (jmul ex66 tx65 jz_4 (by omega) (by omega)).trans (by omega)
                                refine lv_iload hx hb dX5_lay_89 (lv_at hl 0 rfl) ?_
                                refine lv_iadd hx hb dX5_lay_91 ?_
                                exact by
                                 refine lv_topi (fun x67 ex67 => ?_)
                                 have tx67 : x67.toInt = 16 * x3.toInt + 4 * x18.toInt + x39.toInt := (jadd ex67 tx66 rfl (by omega) (by omega)).trans (by omega)
                                 refine lv_iconst (v := 0) hx hb dX5_lay_92 (of_decide_eq_true rfl) ?_
                                 refine lv_iload hx hb dX5_lay_93 (lv_at hl 1 rfl) ?_
                                 refine lv_iload hx hb dX5_lay_95 (lv_at hl 0 rfl) ?_
                                 have g68 := jrg (rfl : r35.toInt = r35.toInt)
                                 refine lv_iadd hx hb dX5_lay_97 ?_
                                 refine lv_topi (fun x69 ex69 => ?_)
                                 have gx69 := jrg (rfl : x69.toInt = x69.toInt)
                                 exact by
                                  refine va_mmax hx hb (hml.trans hl.1.symm) hown (hts _ kw_20_23) (hts _ kw_21_0) (hts _ kw_21_1) (hts _ kw_21_2) (Nat.le_of_ble_eq_true rfl) (Nat.le_of_ble_eq_true rfl) (Nat.le_of_ble_eq_true rfl) (Nat.le_of_ble_eq_true rfl) dX5_lay_98 ?_
                                  refine lv_topi (fun x70 ex70 => ?_)
                                  have g71 := jmax ex70 jz_0 rfl
                                  refine jast hx hb hK hP hJ hA hS (jc_28 cI cL ad σ63 τ) (ja_28 cI cL ad σ63 τ _ _) (jin tx67 (by omega) (by omega)) dX5_lay_101 (fun σ72 H locs eσ72 hP hS => ?_)
                                  obtain ⟨x73, ex73⟩ : ∃ y : Int32, y = x39 + 1 := ⟨_, rfl⟩
                                  have tx73 : x73.toInt = x39.toInt + 1 := (jadd ex73 rfl jz_1 (by omega) (by omega)).trans (by omega)
                                  refine lv_iinc (v := x73) (lv' := [(6, .int x73), (5, .int r35), (4, .int r32), (3, .int x18), (2, .int x3), (0, .ref (ad 26)), (1, .int a1)]) hx hb dX5_lay_102 hl (k := 0) rfl (by rw [ex73]; rfl) (of_decide_eq_true rfl) rfl (fun ls hl => ?_)
                                  refine lv_goto (tgt := 41) hx hb dX5_lay_105 (of_decide_eq_true rfl) ?_
                                  exact by exact ihlp37 x73 σ72 _ _ ls (by have h90 := tx73; omega) (by have h90 := tx73; omega) (by have h90 := tx73; omega) (fun i hi => ((jnp i eσ72 (imp_70 i hi)).trans ((jnp i eσ63 (imp_71 i hi)).trans (f45 i hi))))   (q46.step (x := x62) (y := x70) (e := r32) (m := r35) (fr := r57) (K := x39) (by rw [eσ72, jup_n (of_decide_eq_true rfl), eσ63, jup_row, jnc (show x55.toInt = 16 * x3.toInt + 4 * x18.toInt + x39.toInt by have h9 := tx55; omega)]) (by rw [eσ72, jup_row, eσ63, jup_n (of_decide_eq_true rfl), jnc (show x67.toInt = 16 * x3.toInt + 4 * x18.toInt + x39.toInt by have h9 := tx67; omega)]) (show 16 * x3.toInt + 4 * x18.toInt + x39.toInt = 16 * x3.toInt + 4 * x18.toInt + x39.toInt from by omega) (by omega) ⟨by omega, by omega⟩ ⟨by omega, by omega⟩ (by have w := w33; rw [show σ22 3 = σ 3 from ((f27 3 (of_decide_eq_true rfl)).trans (f13 3 (of_decide_eq_true rfl)))] at w; exact w) (by have w := w36; rw [show σ22 3 = σ 3 from ((f27 3 (of_decide_eq_true rfl)).trans (f13 3 (of_decide_eq_true rfl))), show σ22 5 = σ 5 from ((f27 5 (of_decide_eq_true rfl)).trans (f13 5 (of_decide_eq_true rfl)))] at w; exact w) (by have w := w58; rw [show σ40 4 = σ 4 from ((f45 4 (of_decide_eq_true rfl)).trans ((f27 4 (of_decide_eq_true rfl)).trans (f13 4 (of_decide_eq_true rfl))))] at w; exact w) rfl (by rw [ex62, ex61]) (by rw [show r35 + x39 = x69 from ex69.symm]; exact Int32.toInt_inj.mp (by split <;> first | (rw [jz_0]; omega) | omega)) (by have h9 := tx73; omega)) hP hS (lv_sub hl [0, 1, 2, 3, 4, 5, 6] rfl)
                   exact by exact lp37 1000000 0 σ22 _ _ ls (by have h90 := jz_0; omega) (by have h90 := jz_0; omega) (by have h90 := jz_0; omega) (fun _ _ => rfl)  (q28.n (by have h9 := jz_0; omega)) hP hS hl
         exact by exact lp16 1000000 0 σ8 _ _ ls (by have h90 := jz_0; omega) (by have h90 := jz_0; omega) (by have h90 := jz_0; omega) (fun _ _ => rfl)  (q14.n (by have h9 := jz_0; omega)) hP hS hl
  exact by exact lp1 1000000 0 σ _ _ ls (by have h90 := jz_0; omega) (by have h90 := jz_0; omega) (by have h90 := jz_0; omega) (fun _ _ => rfl)  (jLd.first (by have h9 := jz_0; omega)) hP hS hl
set_option maxHeartbeats 4000000 in
set_option maxRecDepth 100000 in
theorem c_X5_forget_26 (l : Launch) (D : va_G) (cI cL : ClassId) (ad zz : Nat → Nat) (hJ : jD ad) (σ : Nat → Nat → Int32) (τ : Nat → Nat → Int64) (hI26 : jI26 σ) (hp0 : (σ 26 6).toInt ≤ 7999) : jMv l yX5_forget cX5_forget 2 none ({ frames := 1, cells := 0, slots := 0, locals := 21 }) D cI cL ad zz [.ref (ad 26)] σ τ (fun σ' τ' => τ = τ' ∧ (∀ i : Nat, (i < 26 ∨ 26 < i) → σ' i = σ i) ∧ (∀ k : Nat, (k < 6 ∨ 6 < k) ∧ (k < 7 ∨ 7 < k) → σ' 26 k = σ 26 k) ∧ (jI26 σ') ∧ (jAskn (σ' 26 7) (σ 22 1) 6) ∧ ((σ' 26 6).toInt = (σ 26 6).toInt + 1) ∧ True) := by
  refine jMv.of hJ (by decide +kernel) rfl (Nat.le_of_ble_eq_true rfl) ?_
  intro p e s m args below meth c Q ls hC hret hl hP
  obtain ⟨hx, hb, hr, hml, hown, hts, hK, -, hlocks, hZ⟩ := hC
  have hown : s.vm.findClass RX5 = some m.cls := hown
  have hS : va_S (jA ad) s.heap s.heap [] := va_S.rf
  have hA : ∀ q, jA ad q → jA ad q := fun _ h => h
  have hl : lv_has ls 2 [(0, .ref (ad 26))] := hl
  have i1 : 1 ≤ (σ 26 6).toInt ∧ (σ 26 6).toInt ≤ 8000 := hI26
  refine lv_aload_n hx hb dX5_forget_0 rfl (lv_at hl 0 rfl) ?_
  refine lv_dup hx hb dX5_forget_1 rfl ?_
  refine va_get (D := D) hx hb hts inlX5 hown hK hP 26 (jc_26 cI cL ad σ τ) rfl 6 (of_decide_eq_true rfl) (hts _ kw_4_20) (fun _ h9 => h9) rfl dX5_forget_2 ?_
  refine lv_iconst (v := 1) hx hb dX5_forget_5 (of_decide_eq_true rfl) ?_
  have g2 := jrg (rfl : (σ 26 6).toInt = (σ 26 6).toInt)
  refine lv_iadd hx hb dX5_forget_6 ?_
  refine lv_topi (fun x3 ex3 => ?_)
  exact by
   have tx3 : x3.toInt = (σ 26 6).toInt + 1 := (jadd ex3 rfl jz_1 (by omega) (by omega)).trans (by omega)
   refine jput (ty := .int) hx hb hts inlX5 tyX5 tyX5_ok nmX5 hown hK hP hJ hA hS (jc_26 cI cL ad σ τ) rfl (k := 6) (of_decide_eq_true rfl) (Nat.le_of_ble_eq_true rfl) (jp_26_6 cI cL ad σ τ x3) (hts _ kw_4_20) (fun _ h9 => h9) rfl (by decide +kernel) rfl rfl dX5_forget_7 (fun σ4 H locs eσ4 hP hS => ?_)
   refine lv_aload_n hx hb dX5_forget_10 rfl (lv_at hl 0 rfl) ?_
   refine lv_iconst (v := 0) hx hb dX5_forget_11 (of_decide_eq_true rfl) ?_
   refine jput (ty := .int) hx hb hts inlX5 tyX5 tyX5_ok nmX5 hown hK hP hJ hA hS (jc_26 cI cL ad σ4 τ) rfl (k := 7) (of_decide_eq_true rfl) (Nat.le_of_ble_eq_true rfl) (jp_26_7 cI cL ad σ4 τ 0) (hts _ kw_18_7) (fun _ h9 => h9) rfl (by decide +kernel) rfl rfl dX5_forget_12 (fun σ5 H locs eσ5 hP hS => ?_)
   refine lv_iconst (v := 0) hx hb dX5_forget_15 (of_decide_eq_true rfl) ?_
   refine lv_istore_n (lv' := [(1, .int 0), (0, .ref (ad 26))]) hx hb dX5_forget_16 rfl hl (of_decide_eq_true rfl) rfl (fun ls hl => ?_)
   have lp6 : ∀ (n7 : Nat) (x8 : Int32) (σ9 : Nat → Nat → Int32) (H : Heap) (locs : List Loc) (ls : Array Slot), (-x8.toInt + 6 : Int) < n7 → 0 ≤ x8.toInt → x8.toInt ≤ 6 → (∀ i : Nat, (i < 26 ∨ 26 < i) → σ9 i = σ5 i) → (∀ k : Nat, (k < 7 ∨ 7 < k) → σ9 26 k = σ5 26 k) → (jAskn (σ9 26 7) (σ 22 1) (x8.toInt)) → jH D cI cL ad σ9 τ H → va_S (jA ad) s.heap H locs → lv_has ls 2 [(1, .int x8), (0, .ref (ad 26))] → W p l e ({ frames := 1, cells := 0, slots := 0, locals := 21 }) s m args below meth c H locs 0 0 Q (F0 m 17 ls []) := by
     intro n7
     induction n7 with
     | zero => intro x8 σ9 H locs ls h11 h12 h13; exact absurd h11 (by omega)
     | succ n7 ihlp6 =>
       intro x8 σ9 H locs ls h11 h12 h13 f14 f15 q16 hP hS hl
       exact by
        refine lv_iload_n hx hb dX5_forget_17 rfl (lv_at hl 0 rfl) ?_
        refine va_gets hx hb hZ.1.1 hS hown (hts _ kw_18_8) (fun _ h9 => h9) dX5_forget_18 ?_
        refine va_tlen (v := 6) hx hb hZ.1.2 hS (of_decide_eq_true rfl) dX5_forget_21 ?_
        refine lv_icmp_ge (tgt := 56) hx hb dX5_forget_22 (of_decide_eq_true rfl) (fun c17 => ?_) (fun c17 => ?_)
        · have kc17 := jle c17 jz_6 rfl
          have z18 : (σ9 26 6).toInt = (σ 26 6).toInt + 1 := ((congrArg Int32.toInt (show σ9 26 6 = x3 from ((f15 6 (of_decide_eq_true rfl)).trans ((jkp 6 eσ5 (of_decide_eq_true rfl)).trans (jsp eσ4))))).trans tx3)
          have I19 : jI26 σ9 := (show 1 ≤ (σ9 26 6).toInt ∧ (σ9 26 6).toInt ≤ 8000 by omega)
          exact by exact hret σ9 τ _ _ _ _ ⟨rfl, (fun i hi => ((f14 i hi).trans ((jnp i eσ5 (imp_72 i hi)).trans (jnp i eσ4 (imp_72 i hi))))), (fun i hi => ((f15 i (imp_73 i hi)).trans ((jkp i eσ5 (imp_74 i hi)).trans (jkp i eσ4 (imp_75 i hi))))), I19, (by rw [show (6 : Int) = x8.toInt by omega]; exact q16), (by omega), trivial⟩ hP hS dX5_forget_56
        · have kc17 := jnle c17 jz_6 rfl
          refine lv_aload_n hx hb dX5_forget_25 rfl (lv_at hl 1 rfl) ?_
          refine va_get (D := D) hx hb hts inlX5 hown hK hP 26 (jc_26 cI cL ad σ9 τ) rfl 0 (of_decide_eq_true rfl) (hts _ kw_4_22) (fun _ h9 => h9) rfl dX5_forget_26 ?_
          refine lv_iload_n hx hb dX5_forget_29 rfl (lv_at hl 0 rfl) ?_
          exact by
           refine jcallV (As := [.int x8]) (rest := []) ⟨hx, hb, hml, hown, hts⟩ hK hP hA hS hZ (c_X10_uses_22 l D cI cL ad zz hJ σ9 τ x8 (x8.toInt) rfl (by omega)) cw_RX5_60 (jc_22 cI cL ad σ9 τ) rfl ⟨Nat.le_of_ble_eq_true rfl, Nat.le_of_ble_eq_true rfl⟩ rfl rfl rfl hl.1 rfl (Nat.le_of_ble_eq_true rfl) dX5_forget_30 ⟨Nat.zero_le _, Nat.zero_le _⟩ (fun r21 σ20 τ20 H locs h20 hP hS => ?_)
           obtain ⟨⟨rfl, rfl⟩, w22, h20⟩ := h20
           rcases h20 with h23 | h24
           · obtain ⟨q26, k25⟩ := h23
             have q26 := q26.symm
             subst q26
             refine lv_if_eq (tgt := 50) hx hb dX5_forget_33 (of_decide_eq_true rfl) (fun c => absurd c (of_decide_eq_true rfl)) (fun _ => ?_)
             refine lv_aload_n hx hb dX5_forget_36 rfl (lv_at hl 1 rfl) ?_
             refine lv_dup hx hb dX5_forget_37 rfl ?_
             refine va_get (D := D) hx hb hts inlX5 hown hK hP 26 (jc_26 cI cL ad σ9 τ) rfl 7 (of_decide_eq_true rfl) (hts _ kw_18_7) (fun _ h9 => h9) rfl dX5_forget_38 ?_
             refine va_gets hx hb hZ.1.1 hS hown (hts _ kw_18_8) (fun _ h9 => h9) dX5_forget_41 ?_
             refine lv_iload_n hx hb dX5_forget_44 rfl (lv_at hl 0 rfl) ?_
             exact by
              refine va_ti (v := .int (js0 x8.toNatClampNeg)) hx hb hZ.1.2 hS (jin rfl (by omega) (by omega)) rfl dX5_forget_45 ?_
              have g28 := js0_r x8.toNatClampNeg
              refine lv_topi (fun x27 ex27 => ?_)
              rw [← ex27] at g28
              refine lv_ior hx hb dX5_forget_46 ?_
              refine lv_topi (fun x29 ex29 => ?_)
              have gx29 := jrg (rfl : x29.toInt = x29.toInt)
              refine jput (ty := .int) hx hb hts inlX5 tyX5 tyX5_ok nmX5 hown hK hP hJ hA hS (jc_26 cI cL ad σ9 τ) rfl (k := 7) (of_decide_eq_true rfl) (Nat.le_of_ble_eq_true rfl) (jp_26_7 cI cL ad σ9 τ x29) (hts _ kw_18_7) (fun _ h9 => h9) rfl (by decide +kernel) rfl rfl dX5_forget_47 (fun σ30 H locs eσ30 hP hS => ?_)
              obtain ⟨x31, ex31⟩ : ∃ y : Int32, y = x8 + 1 := ⟨_, rfl⟩
              exact by
               have tx31 : x31.toInt = x8.toInt + 1 := (jadd ex31 rfl jz_1 (by omega) (by omega)).trans (by omega)
               refine lv_iinc (v := x31) (lv' := [(1, .int x31), (0, .ref (ad 26))]) hx hb dX5_forget_50 hl (k := 0) rfl (by rw [ex31]; rfl) (of_decide_eq_true rfl) rfl (fun ls hl => ?_)
               refine lv_goto (tgt := 17) hx hb dX5_forget_53 (of_decide_eq_true rfl) ?_
               have k32 := w22
               rw [show σ9 22 1 = σ 22 1 from ((congrFun (f14 22 (of_decide_eq_true rfl)) 1).trans ((congrFun (jnp 22 eσ5 (of_decide_eq_true rfl)) 1).trans (congrFun (jnp 22 eσ4 (of_decide_eq_true rfl)) 1)))] at k32
               exact by exact ihlp6 x31 σ30 _ _ ls (by have h90 := tx31; omega) (by have h90 := tx31; omega) (by have h90 := tx31; omega) (fun i hi => ((jnp i eσ30 (imp_72 i hi)).trans (f14 i hi))) (fun i hi => ((jkp i eσ30 (imp_76 i hi)).trans (f15 i hi)))  (q16.step (by omega) (by omega) (Or.inl (by rw [show σ30 26 7 = x29 from (jsp eσ30), ex29, ex27, jnc (rfl : x8.toInt = x8.toInt)])) (by have h9 := tx31; omega)) hP hS (lv_sub hl [0, 1] rfl)
           · obtain ⟨q34, k33⟩ := h24
             have q34 := q34.symm
             subst q34
             exact by
              refine lv_if_eq (tgt := 50) hx hb dX5_forget_33 (of_decide_eq_true rfl) (fun _ => ?_) (fun c => absurd (of_decide_eq_true rfl) c)
              obtain ⟨x35, ex35⟩ : ∃ y : Int32, y = x8 + 1 := ⟨_, rfl⟩
              have tx35 : x35.toInt = x8.toInt + 1 := (jadd ex35 rfl jz_1 (by omega) (by omega)).trans (by omega)
              refine lv_iinc (v := x35) (lv' := [(1, .int x35), (0, .ref (ad 26))]) hx hb dX5_forget_50 hl (k := 0) rfl (by rw [ex35]; rfl) (of_decide_eq_true rfl) rfl (fun ls hl => ?_)
              refine lv_goto (tgt := 17) hx hb dX5_forget_53 (of_decide_eq_true rfl) ?_
              have k36 := w22
              rw [show σ9 22 1 = σ 22 1 from ((congrFun (f14 22 (of_decide_eq_true rfl)) 1).trans ((congrFun (jnp 22 eσ5 (of_decide_eq_true rfl)) 1).trans (congrFun (jnp 22 eσ4 (of_decide_eq_true rfl)) 1)))] at k36
              exact by exact ihlp6 x35 σ9 _ _ ls (by have h90 := tx35; omega) (by have h90 := tx35; omega) (by have h90 := tx35; omega) (fun i hi => (f14 i hi)) (fun i hi => (f15 i hi))  (q16.step (by omega) (by omega) (Or.inr ⟨rfl, fun w => absurd ((k36).mpr w) (by first | decide | (omega))⟩) (by have h9 := tx35; omega)) hP hS (lv_sub hl [0, 1] rfl)
   exact by exact lp6 1000000 0 σ5 _ _ ls (by have h90 := jz_0; omega) (by have h90 := jz_0; omega) (by have h90 := jz_0; omega) (fun _ _ => rfl) (fun _ _ => rfl)  (jAskn.first (by have h9 := jz_0; omega)) hP hS hl
set_option maxHeartbeats 4000000 in
set_option maxRecDepth 100000 in
theorem c_X5_runsOf_26 (l : Launch) (D : va_G) (cI cL : ClassId) (ad zz : Nat → Nat) (hJ : jD ad) (σ : Nat → Nat → Int32) (τ : Nat → Nat → Int64) (a1 : Int32) (A1 : Int) (t1 : a1.toInt = A1) (a2 : Int32) (A2 : Int) (t2 : a2.toInt = A2) (a3 : Int32) (A3 : Int) (t3 : a3.toInt = A3) (hp0 : (-1) ≤ A1 ∧ A1 ≤ 3) (hp1 : 0 ≤ A2 ∧ A2 ≤ 3) (hp2 : 0 ≤ A3 ∧ A3 ≤ 3) : jM l yX5_runsOf cX5_runsOf 5 (some .int) ({ frames := 0, cells := 0, slots := 0, locals := 0 }) D cI cL ad zz [.ref (ad 26), .int a1, .int a2, .int a3] σ τ (fun r σ' τ' => (σ = σ' ∧ τ = τ') ∧ ((0 ≤ A1 → r = σ 28 (16 * (A1) + 4 * (A2) + (A3)).toNat)) ∧ True) := by
  refine jM.of hJ (by decide +kernel) (nt := .int) rfl (Nat.le_of_ble_eq_true rfl) ?_
  intro p e s m args below meth c Q ls hC hret hl hP
  obtain ⟨hx, hb, hr, hml, hown, hts, hK, -, hlocks, hZ⟩ := hC
  have hown : s.vm.findClass RX5 = some m.cls := hown
  have hS : va_S (jA ad) s.heap s.heap [] := va_S.rf
  have hA : ∀ q, jA ad q → jA ad q := fun _ h => h
  have hl : lv_has ls 5 [(0, .ref (ad 26)), (1, .int a1), (2, .int a2), (3, .int a3)] := hl
  have g1 := jrg t1
  have g2 := jrg t2
  have g3 := jrg t3
  refine lv_iload_n hx hb dX5_runsOf_0 rfl (lv_at hl 1 rfl) ?_
  refine lv_iconst (v := 4) hx hb dX5_runsOf_1 (of_decide_eq_true rfl) ?_
  refine lv_imul hx hb dX5_runsOf_2 ?_
  refine lv_topi (fun x1 ex1 => ?_)
  exact by
   have tx1 : x1.toInt = 4 * A1 := (jmul ex1 t1 jz_4 (by omega) (by omega)).trans (by omega)
   refine lv_iload_n hx hb dX5_runsOf_3 rfl (lv_at hl 2 rfl) ?_
   refine lv_iadd hx hb dX5_runsOf_4 ?_
   refine lv_topi (fun x2 ex2 => ?_)
   have tx2 : x2.toInt = 4 * A1 + A2 := (jadd ex2 tx1 t2 (by omega) (by omega)).trans (by omega)
   refine lv_iconst (v := 4) hx hb dX5_runsOf_5 (of_decide_eq_true rfl) ?_
   refine lv_imul hx hb dX5_runsOf_6 ?_
   refine lv_topi (fun x3 ex3 => ?_)
   have tx3 : x3.toInt = 16 * A1 + 4 * A2 := (jmul ex3 tx2 jz_4 (by omega) (by omega)).trans (by omega)
   exact by
    refine lv_iload_n hx hb dX5_runsOf_7 rfl (lv_at hl 3 rfl) ?_
    refine lv_iadd hx hb dX5_runsOf_8 ?_
    refine lv_topi (fun x4 ex4 => ?_)
    have tx4 : x4.toInt = 16 * A1 + 4 * A2 + A3 := (jadd ex4 tx3 t3 (by omega) (by omega)).trans (by omega)
    refine lv_istore (lv' := [(4, .int x4), (0, .ref (ad 26)), (1, .int a1), (2, .int a2), (3, .int a3)]) hx hb dX5_runsOf_9 hl (of_decide_eq_true rfl) rfl (fun ls hl => ?_)
    refine lv_iload hx hb dX5_runsOf_11 (lv_at hl 0 rfl) ?_
    refine lv_if_lt (tgt := 23) hx hb dX5_runsOf_13 (of_decide_eq_true rfl) (fun c5 => ?_) (fun c5 => ?_)
    · have kc5 := jlt c5 tx4 jz_0
      refine lv_iconst (v := 0) hx hb dX5_runsOf_23 (of_decide_eq_true rfl) ?_
      exact by
       refine lv_goto (tgt := 34) hx hb dX5_runsOf_24 (of_decide_eq_true rfl) ?_
       exact hret 0 σ τ _ _ _ _ rfl ⟨⟨rfl, rfl⟩, (fun h8 => False.elim (by omega)), trivial⟩ hP hS dX5_runsOf_34
    · have kc5 := jnlt c5 tx4 jz_0
      refine lv_iload hx hb dX5_runsOf_16 (lv_at hl 0 rfl) ?_
      refine lv_bipush (v := 64) hx hb dX5_runsOf_18 (of_decide_eq_true rfl) ?_
      refine lv_icmp_lt (tgt := 27) hx hb dX5_runsOf_20 (of_decide_eq_true rfl) (fun c6 => ?_) (fun c => absurd (jnlt c tx4 jz_64) (by omega))
      have kc6 := jlt c6 tx4 jz_64
      refine lv_aload_n hx hb dX5_runsOf_27 rfl (lv_at hl 1 rfl) ?_
      refine va_get (D := D) hx hb hts inlX5 hown hK hP 26 (jc_26 cI cL ad σ τ) rfl 3 (of_decide_eq_true rfl) (hts _ kw_4_17) (fun _ h9 => h9) rfl dX5_runsOf_28 ?_
      exact by
       refine lv_iload hx hb dX5_runsOf_31 (lv_at hl 0 rfl) ?_
       refine jald hx hb hK hP (jc_28 cI cL ad σ τ) (jin tx4 (by omega) (by omega)) dX5_runsOf_33 ?_
       refine jtopr (y := (σ 28 x4.toNatClampNeg)) rfl ?_
       exact hret (σ 28 x4.toNatClampNeg) σ τ _ _ _ _ rfl ⟨⟨rfl, rfl⟩, (fun _ => by rw [jnc (show x4.toInt = (16 * (A1) + 4 * (A2) + (A3)) by omega)]), trivial⟩ hP hS dX5_runsOf_34
set_option maxHeartbeats 4000000 in
set_option maxRecDepth 100000 in
theorem c_X5_outOf_26 (l : Launch) (D : va_G) (cI cL : ClassId) (ad zz : Nat → Nat) (hJ : jD ad) (σ : Nat → Nat → Int32) (τ : Nat → Nat → Int64) (a1 : Int32) (A1 : Int) (t1 : a1.toInt = A1) (a2 : Int32) (A2 : Int) (t2 : a2.toInt = A2) (a3 : Int32) (A3 : Int) (t3 : a3.toInt = A3) (a4 : Int32) (A4 : Int) (t4 : a4.toInt = A4) (a5 : Int32) (A5 : Int) (t5 : a5.toInt = A5) (a6 : Int32) (A6 : Int) (t6 : a6.toInt = A6) (hI22 : jI22 σ) (hI26 : jI26 σ) (hs_jN67 : jN67 σ) (hs_jBl : jBl σ) (hp0 : (-1) ≤ A1 ∧ A1 ≤ 3) (hp1 : 0 ≤ A2 ∧ A2 ≤ 3) (hp2 : 0 ≤ A3 ∧ A3 ≤ 3) (hp3 : (-16) ≤ A4 ∧ A4 ≤ 15) (hp4 : 0 ≤ A5 ∧ A5 ≤ 15) (hp5 : 0 ≤ A6 ∧ A6 ≤ 15) : jM l yX5_outOf cX5_outOf 11 (some .int) ({ frames := 2, cells := 0, slots := 0, locals := 46 }) D cI cL ad zz [.ref (ad 26), .int a1, .int a2, .int a3, .int a4, .int a5, .int a6] σ τ (fun r σ' τ' => τ = τ' ∧ (∀ i : Nat, (i < 24 ∨ 25 < i) ∧ (i < 29 ∨ 30 < i) → σ' i = σ i) ∧ (jN67 σ') ∧ (jBl σ') ∧ ((0 ≤ A1 → r = jClp (σ 27 (16 * (A1) + 4 * (A2) + (A3)).toNat + jGb σ (jN6 a4 (jwd (16 * (A1) + 4 * (A2) + (A3))) a5 a6)))) ∧ True) := by
  refine jM.of hJ (by decide +kernel) (nt := .int) rfl (Nat.le_of_ble_eq_true rfl) ?_
  intro p e s m args below meth c Q ls hC hret hl hP
  obtain ⟨hx, hb, hr, hml, hown, hts, hK, -, hlocks, hZ⟩ := hC
  have hown : s.vm.findClass RX5 = some m.cls := hown
  have hS : va_S (jA ad) s.heap s.heap [] := va_S.rf
  have hA : ∀ q, jA ad q → jA ad q := fun _ h => h
  have hl : lv_has ls 11 [(0, .ref (ad 26)), (1, .int a1), (2, .int a2), (3, .int a3), (4, .int a4), (5, .int a5), (6, .int a6)] := hl
  have g1 := jrg t1
  have g2 := jrg t2
  have g3 := jrg t3
  have g4 := jrg t4
  have g5 := jrg t5
  have g6 := jrg t6
  obtain ⟨i1, w2⟩ : (0 ≤ (σ 22 0).toInt ∧ (σ 22 0).toInt ≤ 160) ∧ (∀ k : Nat, k < 160 → 0 ≤ (σ 23 k).toInt ∧ (σ 23 k).toInt ≤ 30000) := id hI22
  have i3 : 1 ≤ (σ 26 6).toInt ∧ (σ 26 6).toInt ≤ 8000 := hI26
  refine lv_iload_n hx hb dX5_outOf_0 rfl (lv_at hl 1 rfl) ?_
  refine lv_iconst (v := 4) hx hb dX5_outOf_1 (of_decide_eq_true rfl) ?_
  refine lv_imul hx hb dX5_outOf_2 ?_
  refine lv_topi (fun x4 ex4 => ?_)
  exact by
   have tx4 : x4.toInt = 4 * A1 := (jmul ex4 t1 jz_4 (by omega) (by omega)).trans (by omega)
   refine lv_iload_n hx hb dX5_outOf_3 rfl (lv_at hl 2 rfl) ?_
   refine lv_iadd hx hb dX5_outOf_4 ?_
   refine lv_topi (fun x5 ex5 => ?_)
   have tx5 : x5.toInt = 4 * A1 + A2 := (jadd ex5 tx4 t2 (by omega) (by omega)).trans (by omega)
   refine lv_iconst (v := 4) hx hb dX5_outOf_5 (of_decide_eq_true rfl) ?_
   refine lv_imul hx hb dX5_outOf_6 ?_
   refine lv_topi (fun x6 ex6 => ?_)
   have tx6 : x6.toInt = 16 * A1 + 4 * A2 := (jmul ex6 tx5 jz_4 (by omega) (by omega)).trans (by omega)
   exact by
    refine lv_iload_n hx hb dX5_outOf_7 rfl (lv_at hl 3 rfl) ?_
    refine lv_iadd hx hb dX5_outOf_8 ?_
    refine lv_topi (fun x7 ex7 => ?_)
    have tx7 : x7.toInt = 16 * A1 + 4 * A2 + A3 := (jadd ex7 tx6 t3 (by omega) (by omega)).trans (by omega)
    refine lv_istore (lv' := [(7, .int x7), (0, .ref (ad 26)), (1, .int a1), (2, .int a2), (3, .int a3), (4, .int a4), (5, .int a5), (6, .int a6)]) hx hb dX5_outOf_9 hl (of_decide_eq_true rfl) rfl (fun ls hl => ?_)
    refine lv_iload hx hb dX5_outOf_11 (lv_at hl 0 rfl) ?_
    refine lv_if_lt (tgt := 23) hx hb dX5_outOf_13 (of_decide_eq_true rfl) (fun c8 => ?_) (fun c8 => ?_)
    · have kc8 := jlt c8 tx7 jz_0
      refine lv_iconst (v := 0) hx hb dX5_outOf_23 (of_decide_eq_true rfl) ?_
      exact hret 0 σ τ _ _ _ _ rfl ⟨rfl, (fun _ _ => rfl), hs_jN67, hs_jBl, (fun h8 => False.elim (by omega)), trivial⟩ hP hS dX5_outOf_24
    · exact by
       have kc8 := jnlt c8 tx7 jz_0
       refine lv_iload hx hb dX5_outOf_16 (lv_at hl 0 rfl) ?_
       refine lv_bipush (v := 64) hx hb dX5_outOf_18 (of_decide_eq_true rfl) ?_
       refine lv_icmp_lt (tgt := 25) hx hb dX5_outOf_20 (of_decide_eq_true rfl) (fun c9 => ?_) (fun c => absurd (jnlt c tx7 jz_64) (by omega))
       have kc9 := jlt c9 tx7 jz_64
       refine lv_aload_n hx hb dX5_outOf_25 rfl (lv_at hl 1 rfl) ?_
       refine va_get (D := D) hx hb hts inlX5 hown hK hP 26 (jc_26 cI cL ad σ τ) rfl 2 (of_decide_eq_true rfl) (hts _ kw_4_16) (fun _ h9 => h9) rfl dX5_outOf_26 ?_
       refine lv_iload hx hb dX5_outOf_29 (lv_at hl 0 rfl) ?_
       refine jald hx hb hK hP (jc_27 cI cL ad σ τ) (jin tx7 (by omega) (by omega)) dX5_outOf_31 ?_
       exact by
        refine jtopr (y := (σ 27 x7.toNatClampNeg)) rfl ?_
        refine lv_istore (lv' := [(8, .int (σ 27 x7.toNatClampNeg)), (7, .int x7), (0, .ref (ad 26)), (1, .int a1), (2, .int a2), (3, .int a3), (4, .int a4), (5, .int a5), (6, .int a6)]) hx hb dX5_outOf_32 hl (of_decide_eq_true rfl) rfl (fun ls hl => ?_)
        refine lv_aload_n hx hb dX5_outOf_34 rfl (lv_at hl 2 rfl) ?_
        refine va_get (D := D) hx hb hts inlX5 hown hK hP 26 (jc_26 cI cL ad σ τ) rfl 0 (of_decide_eq_true rfl) (hts _ kw_4_22) (fun _ h9 => h9) rfl dX5_outOf_35 ?_
        refine va_get (D := D) hx hb hts inlX10 hown hK hP 22 (jc_22 cI cL ad σ τ) rfl 0 (of_decide_eq_true rfl) (hts _ kw_22_8) (fun _ h9 => h9) rfl dX5_outOf_38 ?_
        refine lv_if_le (tgt := 160) hx hb dX5_outOf_41 (of_decide_eq_true rfl) (fun c10 => ?_) (fun c10 => ?_)
        · have kc10 := jle c10 rfl jz_0
          refine lv_iload hx hb dX5_outOf_160 (lv_at hl 0 rfl) ?_
          refine lv_if_ge (tgt := 169) hx hb dX5_outOf_162 (of_decide_eq_true rfl) (fun c11 => ?_) (fun c11 => ?_)
          · have kc11 := jle c11 jz_0 rfl
            refine lv_iload hx hb dX5_outOf_169 (lv_at hl 0 rfl) ?_
            refine lv_sipush (v := 1000) hx hb dX5_outOf_171 (of_decide_eq_true rfl) ?_
            refine va_mmin hx hb (hml.trans hl.1.symm) hown (hts _ kw_22_10) (hts _ kw_22_11) (hts _ kw_21_1) (hts _ kw_22_12) (Nat.le_of_ble_eq_true rfl) (Nat.le_of_ble_eq_true rfl) (Nat.le_of_ble_eq_true rfl) (Nat.le_of_ble_eq_true rfl) dX5_outOf_174 ?_
            refine lv_topi (fun x12 ex12 => ?_)
            have g13 := jmin ex12 rfl jz_1000
            exact by exact hret x12 σ τ _ _ _ _ rfl ⟨rfl, (fun _ _ => rfl), hs_jN67, hs_jBl, (fun _ => by rw [(show σ 27 (16 * (A1) + 4 * (A2) + (A3)).toNat + jGb σ (jN6 a4 (jwd (16 * (A1) + 4 * (A2) + (A3))) a5 a6) = (σ 27 x7.toNatClampNeg) from by rw [show jGb σ (jN6 a4 (jwd (16 * (A1) + 4 * (A2) + (A3))) a5 a6) = 0 from jGc_no (by omega), Int32.add_zero, jnc (show x7.toInt = (16 * (A1) + 4 * (A2) + (A3)) by omega)])]; exact jClp_m (c := 1000) (by omega) (of_decide_eq_true rfl) (by omega)), trivial⟩ hP hS dX5_outOf_177
          · have kc11 := jnle c11 jz_0 rfl
            refine lv_iconst (v := 0) hx hb dX5_outOf_165 (of_decide_eq_true rfl) ?_
            refine lv_goto (tgt := 177) hx hb dX5_outOf_166 (of_decide_eq_true rfl) ?_
            exact by exact hret 0 σ τ _ _ _ _ rfl ⟨rfl, (fun _ _ => rfl), hs_jN67, hs_jBl, (fun _ => by rw [(show σ 27 (16 * (A1) + 4 * (A2) + (A3)).toNat + jGb σ (jN6 a4 (jwd (16 * (A1) + 4 * (A2) + (A3))) a5 a6) = (σ 27 x7.toNatClampNeg) from by rw [show jGb σ (jN6 a4 (jwd (16 * (A1) + 4 * (A2) + (A3))) a5 a6) = 0 from jGc_no (by omega), Int32.add_zero, jnc (show x7.toInt = (16 * (A1) + 4 * (A2) + (A3)) by omega)])]; exact jClp_0 (by omega)), trivial⟩ hP hS dX5_outOf_177
        · have kc10 := jnle c10 rfl jz_0
          refine lv_aload_n hx hb dX5_outOf_44 rfl (lv_at hl 2 rfl) ?_
          refine va_get (D := D) hx hb hts inlX5 hown hK hP 26 (jc_26 cI cL ad σ τ) rfl 6 (of_decide_eq_true rfl) (hts _ kw_4_20) (fun _ h9 => h9) rfl dX5_outOf_45 ?_
          refine lv_bipush (v := 19) hx hb dX5_outOf_48 (of_decide_eq_true rfl) ?_
          refine lv_ishl hx hb dX5_outOf_50 ?_
          refine lv_topi (fun x14 ex14 => ?_)
          have gx14 := jrg (rfl : x14.toInt = x14.toInt)
          refine lv_iload hx hb dX5_outOf_51 (lv_at hl 6 rfl) ?_
          refine lv_bipush (v := 31) hx hb dX5_outOf_53 (of_decide_eq_true rfl) ?_
          refine lv_iand hx hb dX5_outOf_55 ?_
          refine lv_topi (fun x15 ex15 => ?_)
          have gx15 := jrg (rfl : x15.toInt = x15.toInt)
          have g16 : 0 ≤ x15.toInt ∧ x15.toInt ≤ 31 := jmask ex15 5 (of_decide_eq_true rfl) (of_decide_eq_true rfl)
          refine lv_bipush (v := 14) hx hb dX5_outOf_56 (of_decide_eq_true rfl) ?_
          refine lv_ishl hx hb dX5_outOf_58 ?_
          refine lv_topi (fun x17 ex17 => ?_)
          have gx17 := jrg (rfl : x17.toInt = x17.toInt)
          refine lv_iload hx hb dX5_outOf_59 (lv_at hl 1 rfl) ?_
          refine lv_bipush (v := 8) hx hb dX5_outOf_61 (of_decide_eq_true rfl) ?_
          refine lv_ishl hx hb dX5_outOf_63 ?_
          refine lv_topi (fun x18 ex18 => ?_)
          have gx18 := jrg (rfl : x18.toInt = x18.toInt)
          refine lv_ior hx hb dX5_outOf_64 ?_
          refine lv_topi (fun x19 ex19 => ?_)
          have gx19 := jrg (rfl : x19.toInt = x19.toInt)
          refine lv_iload hx hb dX5_outOf_65 (lv_at hl 7 rfl) ?_
          refine lv_bipush (v := 15) hx hb dX5_outOf_67 (of_decide_eq_true rfl) ?_
          refine lv_iand hx hb dX5_outOf_69 ?_
          refine lv_topi (fun x20 ex20 => ?_)
          have gx20 := jrg (rfl : x20.toInt = x20.toInt)
          have g21 : 0 ≤ x20.toInt ∧ x20.toInt ≤ 15 := jmask ex20 4 (of_decide_eq_true rfl) (of_decide_eq_true rfl)
          refine lv_iconst (v := 4) hx hb dX5_outOf_70 (of_decide_eq_true rfl) ?_
          refine lv_ishl hx hb dX5_outOf_71 ?_
          refine lv_topi (fun x22 ex22 => ?_)
          have gx22 := jrg (rfl : x22.toInt = x22.toInt)
          refine lv_ior hx hb dX5_outOf_72 ?_
          refine lv_topi (fun x23 ex23 => ?_)
          have gx23 := jrg (rfl : x23.toInt = x23.toInt)
          refine lv_iload hx hb dX5_outOf_73 (lv_at hl 8 rfl) ?_
          refine lv_bipush (v := 15) hx hb dX5_outOf_75 (of_decide_eq_true rfl) ?_
          refine lv_iand hx hb dX5_outOf_77 ?_
          refine lv_topi (fun x24 ex24 => ?_)
          have gx24 := jrg (rfl : x24.toInt = x24.toInt)
          have g25 : 0 ≤ x24.toInt ∧ x24.toInt ≤ 15 := jmask ex24 4 (of_decide_eq_true rfl) (of_decide_eq_true rfl)
          refine lv_ior hx hb dX5_outOf_78 ?_
          refine lv_topi (fun x26 ex26 => ?_)
          have gx26 := jrg (rfl : x26.toInt = x26.toInt)
          refine lv_aload_n hx hb dX5_outOf_79 rfl (lv_at hl 2 rfl) ?_
          refine va_get (D := D) hx hb hts inlX5 hown hK hP 26 (jc_26 cI cL ad σ τ) rfl 7 (of_decide_eq_true rfl) (hts _ kw_18_7) (fun _ h9 => h9) rfl dX5_outOf_80 ?_
          refine lv_iand hx hb dX5_outOf_83 ?_
          refine lv_topi (fun x27 ex27 => ?_)
          have gx27 := jrg (rfl : x27.toInt = x27.toInt)
          refine lv_ior hx hb dX5_outOf_84 ?_
          refine lv_topi (fun x28 ex28 => ?_)
          have gx28 := jrg (rfl : x28.toInt = x28.toInt)
          refine lv_istore (lv' := [(9, .int x28), (8, .int (σ 27 x7.toNatClampNeg)), (7, .int x7), (0, .ref (ad 26)), (1, .int a1), (2, .int a2), (3, .int a3), (4, .int a4), (5, .int a5), (6, .int a6)]) hx hb dX5_outOf_85 hl (of_decide_eq_true rfl) rfl (fun ls hl => ?_)
          refine lv_iload hx hb dX5_outOf_87 (lv_at hl 0 rfl) ?_
          refine lv_ldc (v := (-1640531527)) hx hb hown (hts _ kw_22_9) dX5_outOf_89 ?_
          have g29 := jrg (rfl : x28.toInt = x28.toInt)
          refine lv_imul hx hb dX5_outOf_91 ?_
          refine lv_topi (fun x30 ex30 => ?_)
          have gx30 := jrg (rfl : x30.toInt = x30.toInt)
          refine lv_bipush (v := 20) hx hb dX5_outOf_92 (of_decide_eq_true rfl) ?_
          refine lv_iushr hx hb dX5_outOf_94 rfl ?_
          refine lv_topi (fun x31 ex31 => ?_)
          have gx31 := jrg (rfl : x31.toInt = x31.toInt)
          have g32 : 0 ≤ x31.toInt ∧ x31.toInt ≤ 4095 := jushr20 ex31
          refine lv_istore (lv' := [(10, .int x31), (9, .int x28), (8, .int (σ 27 x7.toNatClampNeg)), (7, .int x7), (0, .ref (ad 26)), (1, .int a1), (2, .int a2), (3, .int a3), (4, .int a4), (5, .int a5), (6, .int a6)]) hx hb dX5_outOf_95 hl (of_decide_eq_true rfl) rfl (fun ls hl => ?_)
          have k33 : x28 = jKy (σ 26 6) (σ 26 7) a4 x7 a5 a6 := by rw [ex28, ex27, ex26, ex24, ex23, ex22, ex20, ex19, ex18, ex17, ex15, ex14]; rfl
          exact by
           have r34 : x7 = jwd (16 * (A1) + 4 * (A2) + (A3)) := jwd_of (by omega) (by omega) (by omega)
           have g35 : jRgo a4 x7 a5 a6 := ⟨⟨by omega, by omega⟩, ⟨by omega, by omega⟩, ⟨by omega, by omega⟩, ⟨by omega, by omega⟩⟩
           refine lv_aload_n hx hb dX5_outOf_97 rfl (lv_at hl 4 rfl) ?_
           refine va_get (D := D) hx hb hts inlX5 hown hK hP 26 (jc_26 cI cL ad σ τ) rfl 4 (of_decide_eq_true rfl) (hts _ kw_4_18) (fun _ h9 => h9) rfl dX5_outOf_98 ?_
           refine lv_iload hx hb dX5_outOf_101 (lv_at hl 0 rfl) ?_
           refine jald hx hb hK hP (jc_29 cI cL ad σ τ) (jin rfl (by omega) (by omega)) dX5_outOf_103 ?_
           refine jtopr (y := (σ 29 x31.toNatClampNeg)) rfl ?_
           refine lv_iload hx hb dX5_outOf_104 (lv_at hl 1 rfl) ?_
           refine lv_icmp_eq (tgt := 148) hx hb dX5_outOf_106 (of_decide_eq_true rfl) (fun c36 => ?_) (fun c36 => ?_)
           · exact by
              have kc36 := jeq c36 rfl rfl
              refine lv_iload hx hb dX5_outOf_148 (lv_at hl 2 rfl) ?_
              refine lv_aload_n hx hb dX5_outOf_150 rfl (lv_at hl 4 rfl) ?_
              refine va_get (D := D) hx hb hts inlX5 hown hK hP 26 (jc_26 cI cL ad σ τ) rfl 5 (of_decide_eq_true rfl) (hts _ kw_4_19) (fun _ h9 => h9) rfl dX5_outOf_151 ?_
              refine lv_iload hx hb dX5_outOf_154 (lv_at hl 0 rfl) ?_
              refine jald hx hb hK hP (jc_30 cI cL ad σ τ) (jin rfl (by omega) (by omega)) dX5_outOf_156 ?_
              refine jtopr (y := (σ 30 x31.toNatClampNeg)) rfl ?_
              have g37 := jrg (rfl : (σ 27 x7.toNatClampNeg).toInt = (σ 27 x7.toNatClampNeg).toInt)
              have g38 := jrg (rfl : (σ 30 x31.toNatClampNeg).toInt = (σ 30 x31.toNatClampNeg).toInt)
              exact by
               refine lv_iadd hx hb dX5_outOf_157 ?_
               refine lv_topi (fun x39 ex39 => ?_)
               have gx39 := jrg (rfl : x39.toInt = x39.toInt)
               have v40 : jGb σ (jN6 a4 (jwd (16 * (A1) + 4 * (A2) + (A3))) a5 a6) = (σ 30 x31.toNatClampNeg) := by rw [← r34]; exact (hs_jBl.2.2.hit hs_jBl.2.1 hs_jBl.1 (jnat (x := x31) rfl (n := 4096) (by omega) (of_decide_eq_true rfl)) (by omega) (by omega) g35 (c36.trans k33)).symm
               refine lv_istore (lv' := [(8, .int x39), (10, .int x31), (9, .int x28), (7, .int x7), (0, .ref (ad 26)), (1, .int a1), (2, .int a2), (3, .int a3), (4, .int a4), (5, .int a5), (6, .int a6)]) hx hb dX5_outOf_158 hl (of_decide_eq_true rfl) rfl (fun ls hl => ?_)
               refine lv_iload hx hb dX5_outOf_160 (lv_at hl 0 rfl) ?_
               refine lv_if_ge (tgt := 169) hx hb dX5_outOf_162 (of_decide_eq_true rfl) (fun c41 => ?_) (fun c41 => ?_)
               · have kc41 := jle c41 jz_0 rfl
                 refine lv_iload hx hb dX5_outOf_169 (lv_at hl 0 rfl) ?_
                 exact by
                  refine lv_sipush (v := 1000) hx hb dX5_outOf_171 (of_decide_eq_true rfl) ?_
                  refine va_mmin hx hb (hml.trans hl.1.symm) hown (hts _ kw_22_10) (hts _ kw_22_11) (hts _ kw_21_1) (hts _ kw_22_12) (Nat.le_of_ble_eq_true rfl) (Nat.le_of_ble_eq_true rfl) (Nat.le_of_ble_eq_true rfl) (Nat.le_of_ble_eq_true rfl) dX5_outOf_174 ?_
                  refine lv_topi (fun x42 ex42 => ?_)
                  have g43 := jmin ex42 rfl jz_1000
                  exact by exact hret x42 σ τ _ _ _ _ rfl ⟨rfl, (fun _ _ => rfl), hs_jN67, hs_jBl, (fun _ => by rw [(show σ 27 (16 * (A1) + 4 * (A2) + (A3)).toNat + jGb σ (jN6 a4 (jwd (16 * (A1) + 4 * (A2) + (A3))) a5 a6) = x39 from by rw [ex39, v40, jnc (show x7.toInt = (16 * (A1) + 4 * (A2) + (A3)) by omega)])]; exact jClp_m (c := 1000) (by omega) (of_decide_eq_true rfl) (by omega)), trivial⟩ hP hS dX5_outOf_177
               · have kc41 := jnle c41 jz_0 rfl
                 refine lv_iconst (v := 0) hx hb dX5_outOf_165 (of_decide_eq_true rfl) ?_
                 refine lv_goto (tgt := 177) hx hb dX5_outOf_166 (of_decide_eq_true rfl) ?_
                 exact hret 0 σ τ _ _ _ _ rfl ⟨rfl, (fun _ _ => rfl), hs_jN67, hs_jBl, (fun _ => by rw [(show σ 27 (16 * (A1) + 4 * (A2) + (A3)).toNat + jGb σ (jN6 a4 (jwd (16 * (A1) + 4 * (A2) + (A3))) a5 a6) = x39 from by rw [ex39, v40, jnc (show x7.toInt = (16 * (A1) + 4 * (A2) + (A3)) by omega)])]; exact jClp_0 (by omega)), trivial⟩ hP hS dX5_outOf_177
           · have kc36 := jne c36 rfl rfl
             refine lv_aload_n hx hb dX5_outOf_109 rfl (lv_at hl 4 rfl) ?_
             refine va_get (D := D) hx hb hts inlX5 hown hK hP 26 (jc_26 cI cL ad σ τ) rfl 0 (of_decide_eq_true rfl) (hts _ kw_4_22) (fun _ h9 => h9) rfl dX5_outOf_110 ?_
             refine lv_iload hx hb dX5_outOf_113 (lv_at hl 9 rfl) ?_
             refine lv_iload hx hb dX5_outOf_115 (lv_at hl 10 rfl) ?_
             refine lv_iload_n hx hb dX5_outOf_117 rfl (lv_at hl 6 rfl) ?_
             refine lv_iload_n hx hb dX5_outOf_118 rfl (lv_at hl 5 rfl) ?_
             refine lv_iload_n hx hb dX5_outOf_119 rfl (lv_at hl 7 rfl) ?_
             refine lv_iload hx hb dX5_outOf_120 (lv_at hl 8 rfl) ?_
             refine jcallVv (As := [.int a5, .int a6, .int a2, .int a1, .int a3, .int a4]) (rest := []) ⟨hx, hb, hml, hown, hts⟩ hK hP hA hS hZ (c_X10_say_22 l D cI cL ad zz hJ σ τ a5 (A5) t5 a6 (A6) t6 a2 (A2) t2 a1 (A1) t1 a3 (A3) t3 a4 (A4) t4 hs_jN67) cw_RX5_70 (jc_22 cI cL ad σ τ) rfl ⟨Nat.le_of_ble_eq_true rfl, Nat.le_of_ble_eq_true rfl⟩ rfl rfl rfl hl.1 rfl (Nat.le_of_ble_eq_true rfl) dX5_outOf_122 ⟨Nat.zero_le _, Nat.zero_le _⟩ (fun σ44 τ44 H locs h44 hP hS => ?_)
             obtain ⟨rfl, f46, p47, w48, h44⟩ := h44
             refine lv_aload_n hx hb dX5_outOf_125 rfl (lv_at hl 4 rfl) ?_
             refine va_get (D := D) hx hb hts inlX5 hown hK hP 26 (jc_26 cI cL ad σ44 τ) rfl 5 (of_decide_eq_true rfl) (hts _ kw_4_19) (fun _ h9 => h9) rfl dX5_outOf_126 ?_
             refine lv_iload hx hb dX5_outOf_129 (lv_at hl 0 rfl) ?_
             refine lv_aload_n hx hb dX5_outOf_131 rfl (lv_at hl 4 rfl) ?_
             refine va_get (D := D) hx hb hts inlX5 hown hK hP 26 (jc_26 cI cL ad σ44 τ) rfl 0 (of_decide_eq_true rfl) (hts _ kw_4_22) (fun _ h9 => h9) rfl dX5_outOf_132 ?_
             have I50 : jI22 σ44 := jI22_fr (congrFun (f46 22 (of_decide_eq_true rfl)) 0) (f46 23 (of_decide_eq_true rfl)) hI22
             refine jcallV (As := []) (rest := [.int x31, .ref (ad 30)]) ⟨hx, hb, hml, hown, hts⟩ hK hP hA hS hZ (c_X10_worked_22 l D cI cL ad zz hJ σ44 τ I50) cw_RX5_74 (jc_22 cI cL ad σ44 τ) rfl ⟨Nat.le_of_ble_eq_true rfl, Nat.le_of_ble_eq_true rfl⟩ rfl rfl rfl hl.1 rfl (Nat.le_of_ble_eq_true rfl) dX5_outOf_135 ⟨Nat.zero_le _, Nat.zero_le _⟩ (fun r52 σ51 τ51 H locs h51 hP hS => ?_)
             obtain ⟨rfl, f53, w54, h51⟩ := h51
             exact by
              refine jast hx hb hK hP hJ hA hS (jc_30 cI cL ad σ51 τ) (ja_30 cI cL ad σ51 τ _ _) (jin rfl (by omega) (by omega)) dX5_outOf_138 (fun σ56 H locs eσ56 hP hS => ?_)
              refine lv_aload_n hx hb dX5_outOf_139 rfl (lv_at hl 4 rfl) ?_
              refine va_get (D := D) hx hb hts inlX5 hown hK hP 26 (jc_26 cI cL ad σ56 τ) rfl 4 (of_decide_eq_true rfl) (hts _ kw_4_18) (fun _ h9 => h9) rfl dX5_outOf_140 ?_
              refine lv_iload hx hb dX5_outOf_143 (lv_at hl 0 rfl) ?_
              refine lv_iload hx hb dX5_outOf_145 (lv_at hl 1 rfl) ?_
              refine jast hx hb hK hP hJ hA hS (jc_29 cI cL ad σ56 τ) (ja_29 cI cL ad σ56 τ _ _) (jin rfl (by omega) (by omega)) dX5_outOf_147 (fun σ57 H locs eσ57 hP hS => ?_)
              refine lv_iload hx hb dX5_outOf_148 (lv_at hl 2 rfl) ?_
              refine lv_aload_n hx hb dX5_outOf_150 rfl (lv_at hl 4 rfl) ?_
              refine va_get (D := D) hx hb hts inlX5 hown hK hP 26 (jc_26 cI cL ad σ57 τ) rfl 5 (of_decide_eq_true rfl) (hts _ kw_4_19) (fun _ h9 => h9) rfl dX5_outOf_151 ?_
              exact by
               refine lv_iload hx hb dX5_outOf_154 (lv_at hl 0 rfl) ?_
               refine jald hx hb hK hP (jc_30 cI cL ad σ57 τ) (jin rfl (by omega) (by omega)) dX5_outOf_156 ?_
               refine jtopr (y := (σ56 30 x31.toNatClampNeg)) (by rw [jnp 30 eσ57 (of_decide_eq_true rfl)]) ?_
               have g58 := jrg (rfl : (σ 27 x7.toNatClampNeg).toInt = (σ 27 x7.toNatClampNeg).toInt)
               have g59 := jrg (rfl : (σ56 30 x31.toNatClampNeg).toInt = (σ56 30 x31.toNatClampNeg).toInt)
               refine lv_iadd hx hb dX5_outOf_157 ?_
               refine lv_topi (fun x60 ex60 => ?_)
               have gx60 := jrg (rfl : x60.toInt = x60.toInt)
               have v62 := w54
               rw [show σ44 23 = σ 23 from (f46 23 (of_decide_eq_true rfl)), show (σ44 22 0).toInt = (σ 22 0).toInt from by rw [show σ44 22 0 = σ 22 0 from (congrFun (f46 22 (of_decide_eq_true rfl)) 0)]] at v62
               exact by
                have w63 : r52 = jGb σ (jN6 a4 x7 a5 a6) := hs_jBl.1.worked v62 (jN8_of ((congrFun (show σ44 24 = σ44 24 from rfl) 0).trans (w48.1)) ((congrFun (show σ44 24 = σ44 24 from rfl) 1).trans (w48.2.1)) ((congrFun (show σ44 24 = σ44 24 from rfl) 2).trans (w48.2.2.1)) ((congrFun (show σ44 24 = σ44 24 from rfl) 3).trans (w48.2.2.2.1)) ((congrFun (show σ44 24 = σ44 24 from rfl) 4).trans (w48.2.2.2.2.1)) ((congrFun (show σ44 24 = σ44 24 from rfl) 5).trans (w48.2.2.2.2.2.1)) ((congrFun (show σ44 24 = σ44 24 from rfl) 6).trans ((w48.2.2.2.2.2.2.1).trans hs_jN67.1)) ((congrFun (show σ44 24 = σ44 24 from rfl) 7).trans ((w48.2.2.2.2.2.2.2).trans hs_jN67.2))) (by omega) ⟨by omega, by omega⟩ ⟨by omega, by omega⟩ ⟨by omega, by omega⟩
                have p64 : jBl σ57 := (jBl.put hs_jBl ((congrFun (jnp 22 eσ57 (of_decide_eq_true rfl)) 0).trans ((congrFun (jnp 22 eσ56 (of_decide_eq_true rfl)) 0).trans ((congrFun (f53 22 (of_decide_eq_true rfl)) 0).trans (congrFun (f46 22 (of_decide_eq_true rfl)) 0)))) ((congrFun (jnp 22 eσ57 (of_decide_eq_true rfl)) 1).trans ((congrFun (jnp 22 eσ56 (of_decide_eq_true rfl)) 1).trans ((congrFun (f53 22 (of_decide_eq_true rfl)) 1).trans (congrFun (f46 22 (of_decide_eq_true rfl)) 1)))) ((jnp 23 eσ57 (of_decide_eq_true rfl)).trans ((jnp 23 eσ56 (of_decide_eq_true rfl)).trans ((f53 23 (of_decide_eq_true rfl)).trans (f46 23 (of_decide_eq_true rfl))))) ((congrFun (jnp 26 eσ57 (of_decide_eq_true rfl)) 6).trans ((congrFun (jnp 26 eσ56 (of_decide_eq_true rfl)) 6).trans ((congrFun (f53 26 (of_decide_eq_true rfl)) 6).trans (congrFun (f46 26 (of_decide_eq_true rfl)) 6)))) ((congrFun (jnp 26 eσ57 (of_decide_eq_true rfl)) 7).trans ((congrFun (jnp 26 eσ56 (of_decide_eq_true rfl)) 7).trans ((congrFun (f53 26 (of_decide_eq_true rfl)) 7).trans (congrFun (f46 26 (of_decide_eq_true rfl)) 7)))) g35 (by rw [eσ57, jup_row, eσ56, jup_n (of_decide_eq_true rfl), f53 29 (of_decide_eq_true rfl), f46 29 (of_decide_eq_true rfl)]) (by rw [eσ57, jup_n (of_decide_eq_true rfl), eσ56, jup_row, f53 30 (of_decide_eq_true rfl), f46 30 (of_decide_eq_true rfl)]) k33 w63)
                have v61 : jGb σ (jN6 a4 (jwd (16 * (A1) + 4 * (A2) + (A3))) a5 a6) = (σ56 30 x31.toNatClampNeg) := by rw [← r34, ← w63, eσ56, jup_row]; unfold jupd; rw [if_pos rfl]
                refine lv_istore (lv' := [(8, .int x60), (10, .int x31), (9, .int x28), (7, .int x7), (0, .ref (ad 26)), (1, .int a1), (2, .int a2), (3, .int a3), (4, .int a4), (5, .int a5), (6, .int a6)]) hx hb dX5_outOf_158 hl (of_decide_eq_true rfl) rfl (fun ls hl => ?_)
                refine lv_iload hx hb dX5_outOf_160 (lv_at hl 0 rfl) ?_
                refine lv_if_ge (tgt := 169) hx hb dX5_outOf_162 (of_decide_eq_true rfl) (fun c65 => ?_) (fun c65 => ?_)
                · have kc65 := jle c65 jz_0 rfl
                  refine lv_iload hx hb dX5_outOf_169 (lv_at hl 0 rfl) ?_
                  refine lv_sipush (v := 1000) hx hb dX5_outOf_171 (of_decide_eq_true rfl) ?_
                  exact by
                   refine va_mmin hx hb (hml.trans hl.1.symm) hown (hts _ kw_22_10) (hts _ kw_22_11) (hts _ kw_21_1) (hts _ kw_22_12) (Nat.le_of_ble_eq_true rfl) (Nat.le_of_ble_eq_true rfl) (Nat.le_of_ble_eq_true rfl) (Nat.le_of_ble_eq_true rfl) dX5_outOf_174 ?_
                   refine lv_topi (fun x66 ex66 => ?_)
                   have g67 := jmin ex66 rfl jz_1000
                   have p68 : jN67 σ57 := jN67.fr ((jnp 24 eσ57 (of_decide_eq_true rfl)).trans ((jnp 24 eσ56 (of_decide_eq_true rfl)).trans (f53 24 (of_decide_eq_true rfl)))) p47
                   exact by exact hret x66 σ57 τ _ _ _ _ rfl ⟨rfl, (fun i hi => ((jnp i eσ57 (imp_77 i hi)).trans ((jnp i eσ56 (imp_78 i hi)).trans ((f53 i (imp_79 i hi)).trans (f46 i (imp_80 i hi)))))), p68, p64, (fun _ => by rw [(show σ 27 (16 * (A1) + 4 * (A2) + (A3)).toNat + jGb σ (jN6 a4 (jwd (16 * (A1) + 4 * (A2) + (A3))) a5 a6) = x60 from by rw [ex60, v61, jnc (show x7.toInt = (16 * (A1) + 4 * (A2) + (A3)) by omega)])]; exact jClp_m (c := 1000) (by omega) (of_decide_eq_true rfl) (by omega)), trivial⟩ hP hS dX5_outOf_177
                · have kc65 := jnle c65 jz_0 rfl
                  refine lv_iconst (v := 0) hx hb dX5_outOf_165 (of_decide_eq_true rfl) ?_
                  refine lv_goto (tgt := 177) hx hb dX5_outOf_166 (of_decide_eq_true rfl) ?_
                  have p69 : jN67 σ57 := jN67.fr ((jnp 24 eσ57 (of_decide_eq_true rfl)).trans ((jnp 24 eσ56 (of_decide_eq_true rfl)).trans (f53 24 (of_decide_eq_true rfl)))) p47
                  exact hret 0 σ57 τ _ _ _ _ rfl ⟨rfl, (fun i hi => ((jnp i eσ57 (imp_77 i hi)).trans ((jnp i eσ56 (imp_78 i hi)).trans ((f53 i (imp_79 i hi)).trans (f46 i (imp_80 i hi)))))), p69, p64, (fun _ => by rw [(show σ 27 (16 * (A1) + 4 * (A2) + (A3)).toNat + jGb σ (jN6 a4 (jwd (16 * (A1) + 4 * (A2) + (A3))) a5 a6) = x60 from by rw [ex60, v61, jnc (show x7.toInt = (16 * (A1) + 4 * (A2) + (A3)) by omega)])]; exact jClp_0 (by omega)), trivial⟩ hP hS dX5_outOf_177
