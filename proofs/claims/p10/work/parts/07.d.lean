set_option maxHeartbeats 4000000 in
set_option maxRecDepth 100000 in
theorem c_X6_sortAt_16 (l : Launch) (D : va_G) (cI cL : ClassId) (ad zz : Nat → Nat) (hJ : jD ad) (σ : Nat → Nat → Int32) (τ : Nat → Nat → Int64) (a1 : Int32) (A1 : Int) (t1 : a1.toInt = A1) (hI16 : jI16 σ) : jM l yX6_sortAt cX6_sortAt 2 (some .int) ({ frames := 0, cells := 0, slots := 0, locals := 0 }) D cI cL ad zz [.ref (ad 16), .int a1] σ τ (fun r σ' τ' => (σ = σ' ∧ τ = τ') ∧ ((r = (σ 17 a1.toNatClampNeg) ∧ (0 ≤ A1 ∧ A1 ≤ 7) ∧ (0 ≤ (σ 17 a1.toNatClampNeg).toInt ∧ (σ 17 a1.toNatClampNeg).toInt ≤ 3)) ∨ (r = 0 ∧ ((A1 < 0) ∨ (7 < A1))))) := by
  refine jM.of hJ (by decide +kernel) (nt := .int) rfl (Nat.le_of_ble_eq_true rfl) ?_
  intro p e s m args below meth c Q ls hC hret hl hP
  obtain ⟨hx, hb, hr, hml, hown, hts, hK, -, hlocks, hZ⟩ := hC
  have hown : s.vm.findClass RX6 = some m.cls := hown
  have hS : va_S (jA ad) s.heap s.heap [] := va_S.rf
  have hA : ∀ q, jA ad q → jA ad q := fun _ h => h
  have hl : lv_has ls 2 [(0, .ref (ad 16)), (1, .int a1)] := hl
  have g1 := jrg t1
  obtain ⟨i1, i2, i3, w4⟩ : (1 ≤ (σ 16 0).toInt ∧ (σ 16 0).toInt ≤ 8) ∧ (1 ≤ (σ 16 1).toInt ∧ (σ 16 1).toInt ≤ 12) ∧ (0 ≤ (σ 16 2).toInt ∧ (σ 16 2).toInt ≤ 999) ∧ (∀ k : Nat, k < 8 → 0 ≤ (σ 17 k).toInt ∧ (σ 17 k).toInt ≤ 3) := id hI16
  refine lv_iload_n hx hb dX6_sortAt_0 rfl (lv_at hl 1 rfl) ?_
  refine lv_if_lt (tgt := 10) hx hb dX6_sortAt_1 (of_decide_eq_true rfl) (fun c5 => ?_) (fun c5 => ?_)
  · have kc5 := jlt c5 t1 jz_0
    refine lv_iconst (v := 0) hx hb dX6_sortAt_10 (of_decide_eq_true rfl) ?_
    refine lv_goto (tgt := 20) hx hb dX6_sortAt_11 (of_decide_eq_true rfl) ?_
    exact hret 0 σ τ _ _ _ _ rfl ⟨⟨rfl, rfl⟩, Or.inr (⟨rfl, (by have h9 := jz_0; omega)⟩)⟩ hP hS dX6_sortAt_20
  · have kc5 := jnlt c5 t1 jz_0
    refine lv_iload_n hx hb dX6_sortAt_4 rfl (lv_at hl 1 rfl) ?_
    refine lv_bipush (v := 8) hx hb dX6_sortAt_5 (of_decide_eq_true rfl) ?_
    refine lv_icmp_lt (tgt := 14) hx hb dX6_sortAt_7 (of_decide_eq_true rfl) (fun c6 => ?_) (fun c6 => ?_)
    · have kc6 := jlt c6 t1 jz_8
      refine lv_aload_n hx hb dX6_sortAt_14 rfl (lv_at hl 0 rfl) ?_
      refine va_get (D := D) hx hb hts inlX6 hown hK hP 16 (jc_16 cI cL ad σ τ) rfl 3 (of_decide_eq_true rfl) (hts _ kw_4_11) (fun _ h9 => h9) rfl dX6_sortAt_15 ?_
      refine lv_iload_n hx hb dX6_sortAt_18 rfl (lv_at hl 1 rfl) ?_
      exact by
       refine jald hx hb hK hP (jc_17 cI cL ad σ τ) (jin t1 (by omega) (by omega)) dX6_sortAt_19 ?_
       have g7 := w4 _ (jnat (x := a1) t1 (n := 8) (by omega) (of_decide_eq_true rfl))
       refine jtopr (y := (σ 17 a1.toNatClampNeg)) rfl ?_
       exact by exact hret (σ 17 a1.toNatClampNeg) σ τ _ _ _ _ rfl ⟨⟨rfl, rfl⟩, Or.inl ⟨rfl, (by omega), (by omega)⟩⟩ hP hS dX6_sortAt_20
    · have kc6 := jnlt c6 t1 jz_8
      refine lv_iconst (v := 0) hx hb dX6_sortAt_10 (of_decide_eq_true rfl) ?_
      refine lv_goto (tgt := 20) hx hb dX6_sortAt_11 (of_decide_eq_true rfl) ?_
      exact hret 0 σ τ _ _ _ _ rfl ⟨⟨rfl, rfl⟩, Or.inr (⟨rfl, (by have h9 := jz_0; omega)⟩)⟩ hP hS dX6_sortAt_20
set_option maxHeartbeats 4000000 in
set_option maxRecDepth 100000 in
theorem c_X6_meanOf_16 (l : Launch) (D : va_G) (cI cL : ClassId) (ad zz : Nat → Nat) (hJ : jD ad) (σ : Nat → Nat → Int32) (τ : Nat → Nat → Int64) (a1 : Int32) (A1 : Int) (t1 : a1.toInt = A1) (a2 : Int32) (A2 : Int) (t2 : a2.toInt = A2) (a3 : Int32) (A3 : Int) (t3 : a3.toInt = A3) (a4 : Int32) (A4 : Int) (t4 : a4.toInt = A4) : jM l yX6_meanOf cX6_meanOf 6 (some .int) ({ frames := 0, cells := 0, slots := 0, locals := 0 }) D cI cL ad zz [.ref (ad 16), .int a1, .int a2, .int a3, .int a4] σ τ (fun r σ' τ' => (σ = σ' ∧ τ = τ') ∧ ((0 ≤ (σ 16 2).toInt ∧ (σ 16 2).toInt ≤ 1000) → (0 ≤ (A1) ∧ (A1) ≤ 41) → (0 ≤ (A2) ∧ (A2) ≤ 1000) → (0 ≤ (A3) ∧ (A3) ≤ 328000) → (0 ≤ (A4) ∧ (A4) ≤ 328000) → r.toInt = jMo (σ 16 2).toInt (A1) (A2) (A3) (A4)) ∧ True) := by
  refine jM.of hJ (by decide +kernel) (nt := .int) rfl (Nat.le_of_ble_eq_true rfl) ?_
  intro p e s m args below meth c Q ls hC hret hl hP
  obtain ⟨hx, hb, hr, hml, hown, hts, hK, -, hlocks, hZ⟩ := hC
  have hown : s.vm.findClass RX6 = some m.cls := hown
  have hS : va_S (jA ad) s.heap s.heap [] := va_S.rf
  have hA : ∀ q, jA ad q → jA ad q := fun _ h => h
  have hl : lv_has ls 6 [(0, .ref (ad 16)), (1, .int a1), (2, .int a2), (3, .int a3), (4, .int a4)] := hl
  have g1 := jrg t1
  have g2 := jrg t2
  have g3 := jrg t3
  have g4 := jrg t4
  refine lv_iload_n hx hb dX6_meanOf_0 rfl (lv_at hl 2 rfl) ?_
  refine lv_iload_n hx hb dX6_meanOf_1 rfl (lv_at hl 3 rfl) ?_
  refine lv_imul hx hb dX6_meanOf_2 ?_
  refine lv_topi (fun x1 ex1 => ?_)
  have gx1 := jrg (rfl : x1.toInt = x1.toInt)
  refine lv_sipush (v := 1000) hx hb dX6_meanOf_3 (of_decide_eq_true rfl) ?_
  refine lv_iload_n hx hb dX6_meanOf_6 rfl (lv_at hl 2 rfl) ?_
  refine lv_isub hx hb dX6_meanOf_7 ?_
  refine lv_topi (fun x2 ex2 => ?_)
  have gx2 := jrg (rfl : x2.toInt = x2.toInt)
  refine lv_iload hx hb dX6_meanOf_8 (lv_at hl 4 rfl) ?_
  have g3 := jrg (rfl : x2.toInt = x2.toInt)
  refine lv_imul hx hb dX6_meanOf_10 ?_
  refine lv_topi (fun x4 ex4 => ?_)
  have gx4 := jrg (rfl : x4.toInt = x4.toInt)
  have g5 := jrg (rfl : x1.toInt = x1.toInt)
  have g6 := jrg (rfl : x4.toInt = x4.toInt)
  refine lv_iadd hx hb dX6_meanOf_11 ?_
  refine lv_topi (fun x7 ex7 => ?_)
  have gx7 := jrg (rfl : x7.toInt = x7.toInt)
  refine lv_sipush (v := 1000) hx hb dX6_meanOf_12 (of_decide_eq_true rfl) ?_
  refine lv_idiv hx hb dX6_meanOf_15 (of_decide_eq_true rfl) ?_
  refine lv_topi (fun x8 ex8 => ?_)
  have gx8 := jrg (rfl : x8.toInt = x8.toInt)
  refine lv_istore (lv' := [(5, .int x8), (0, .ref (ad 16)), (1, .int a1), (2, .int a2), (3, .int a3), (4, .int a4)]) hx hb dX6_meanOf_16 hl (of_decide_eq_true rfl) rfl (fun ls hl => ?_)
  refine lv_iload_n hx hb dX6_meanOf_18 rfl (lv_at hl 2 rfl) ?_
  refine lv_sipush (v := 1000) hx hb dX6_meanOf_19 (of_decide_eq_true rfl) ?_
  refine lv_imul hx hb dX6_meanOf_22 ?_
  refine lv_topi (fun x9 ex9 => ?_)
  have gx9 := jrg (rfl : x9.toInt = x9.toInt)
  refine lv_sipush (v := 1000) hx hb dX6_meanOf_23 (of_decide_eq_true rfl) ?_
  refine lv_aload_n hx hb dX6_meanOf_26 rfl (lv_at hl 1 rfl) ?_
  refine va_get (D := D) hx hb hts inlX6 hown hK hP 16 (jc_16 cI cL ad σ τ) rfl 2 (of_decide_eq_true rfl) (hts _ kw_29_22) (fun _ h9 => h9) rfl dX6_meanOf_27 ?_
  have g10 := jrg (rfl : (σ 16 2).toInt = (σ 16 2).toInt)
  refine lv_isub hx hb dX6_meanOf_30 ?_
  refine lv_topi (fun x11 ex11 => ?_)
  have gx11 := jrg (rfl : x11.toInt = x11.toInt)
  refine lv_iload hx hb dX6_meanOf_31 (lv_at hl 0 rfl) ?_
  have g12 := jrg (rfl : x11.toInt = x11.toInt)
  have g13 := jrg (rfl : x8.toInt = x8.toInt)
  refine lv_imul hx hb dX6_meanOf_33 ?_
  refine lv_topi (fun x14 ex14 => ?_)
  have gx14 := jrg (rfl : x14.toInt = x14.toInt)
  refine lv_sipush (v := 1000) hx hb dX6_meanOf_34 (of_decide_eq_true rfl) ?_
  refine lv_idiv hx hb dX6_meanOf_37 (of_decide_eq_true rfl) ?_
  refine lv_topi (fun x15 ex15 => ?_)
  have gx15 := jrg (rfl : x15.toInt = x15.toInt)
  have g16 := jrg (rfl : x9.toInt = x9.toInt)
  have g17 := jrg (rfl : x15.toInt = x15.toInt)
  refine lv_iadd hx hb dX6_meanOf_38 ?_
  refine lv_topi (fun x18 ex18 => ?_)
  have gx18 := jrg (rfl : x18.toInt = x18.toInt)
  exact by exact hret x18 σ τ _ _ _ _ rfl ⟨⟨rfl, rfl⟩, (fun h3 h4 h5 h6 h7 => by have w := jMo_of (R := σ 16 2) (r := a1) (c := a2) (p := a3) (q := a4) (x := x18) (by rw [ex18, ex15, ex14, ex11, ex9, ex8, ex7, ex4, ex2, ex1]) h3 (by omega) (by omega) (by omega) (by omega); rw [t1, t2, t3, t4] at w; exact w), trivial⟩ hP hS dX6_meanOf_39
set_option maxHeartbeats 4000000 in
set_option maxRecDepth 100000 in
theorem c_X6_ended_16 (l : Launch) (D : va_G) (cI cL : ClassId) (ad zz : Nat → Nat) (hJ : jD ad) (σ : Nat → Nat → Int32) (τ : Nat → Nat → Int64) (a1 : Int32) (A1 : Int) (t1 : a1.toInt = A1) (a2 : Int32) (A2 : Int) (t2 : a2.toInt = A2) (a3 : Int32) (A3 : Int) (t3 : a3.toInt = A3) : jM l yX6_ended cX6_ended 4 (some .boolean) ({ frames := 3, cells := 0, slots := 0, locals := 63 }) D cI cL ad zz [.ref (ad 16), .int a1, .int a2, .int a3] σ τ (fun r σ' τ' => (σ = σ' ∧ τ = τ') ∧ (((r = 0 → A2 < (σ 16 0).toInt ∧ A1 < (σ 16 1).toInt ∧ ∃ b : Int32, jMb a3 b) ∧ (A2 < (σ 16 0).toInt → A1 < (σ 16 1).toInt → ∀ b : Int32, jMb a3 b → r = 0))) ∧ True) := by
  refine jM.of hJ (by decide +kernel) (nt := .boolean) rfl (Nat.le_of_ble_eq_true rfl) ?_
  intro p e s m args below meth c Q ls hC hret hl hP
  obtain ⟨hx, hb, hr, hml, hown, hts, hK, -, hlocks, hZ⟩ := hC
  have hown : s.vm.findClass RX6 = some m.cls := hown
  have hS : va_S (jA ad) s.heap s.heap [] := va_S.rf
  have hA : ∀ q, jA ad q → jA ad q := fun _ h => h
  have hl : lv_has ls 4 [(0, .ref (ad 16)), (1, .int a1), (2, .int a2), (3, .int a3)] := hl
  have g1 := jrg t1
  have g2 := jrg t2
  have g3 := jrg t3
  refine lv_iload_n hx hb dX6_ended_0 rfl (lv_at hl 2 rfl) ?_
  refine lv_aload_n hx hb dX6_ended_1 rfl (lv_at hl 0 rfl) ?_
  refine va_get (D := D) hx hb hts inlX6 hown hK hP 16 (jc_16 cI cL ad σ τ) rfl 0 (of_decide_eq_true rfl) (hts _ kw_4_9) (fun _ h9 => h9) rfl dX6_ended_2 ?_
  refine lv_icmp_ge (tgt := 23) hx hb dX6_ended_5 (of_decide_eq_true rfl) (fun c1 => ?_) (fun c1 => ?_)
  · have kc1 := jle c1 rfl t2
    refine lv_iconst (v := 1) hx hb dX6_ended_23 (of_decide_eq_true rfl) ?_
    refine lv_goto (tgt := 28) hx hb dX6_ended_24 (of_decide_eq_true rfl) ?_
    exact hret 1 σ τ _ _ _ _ rfl ⟨⟨rfl, rfl⟩, ⟨fun h => absurd h (of_decide_eq_true rfl), fun h9 h8 _ _ => False.elim (by omega)⟩, trivial⟩ hP hS dX6_ended_28
  · have kc1 := jnle c1 rfl t2
    refine lv_iload_n hx hb dX6_ended_8 rfl (lv_at hl 1 rfl) ?_
    refine lv_aload_n hx hb dX6_ended_9 rfl (lv_at hl 0 rfl) ?_
    refine va_get (D := D) hx hb hts inlX6 hown hK hP 16 (jc_16 cI cL ad σ τ) rfl 1 (of_decide_eq_true rfl) (hts _ kw_4_10) (fun _ h9 => h9) rfl dX6_ended_10 ?_
    refine lv_icmp_ge (tgt := 23) hx hb dX6_ended_13 (of_decide_eq_true rfl) (fun c2 => ?_) (fun c2 => ?_)
    · have kc2 := jle c2 rfl t1
      refine lv_iconst (v := 1) hx hb dX6_ended_23 (of_decide_eq_true rfl) ?_
      refine lv_goto (tgt := 28) hx hb dX6_ended_24 (of_decide_eq_true rfl) ?_
      exact hret 1 σ τ _ _ _ _ rfl ⟨⟨rfl, rfl⟩, ⟨fun h => absurd h (of_decide_eq_true rfl), fun h9 h8 _ _ => False.elim (by omega)⟩, trivial⟩ hP hS dX6_ended_28
    · have kc2 := jnle c2 rfl t1
      refine lv_iload_n hx hb dX6_ended_16 rfl (lv_at hl 3 rfl) ?_
      refine jcallS (As := [.int a3]) (rest := []) ⟨hx, hb, hml, hown, hts⟩ hK hP hA hS hZ (c_X0_first l D cI cL ad zz hJ σ τ a3 (A3) t3) cw_RX6_22 ⟨Nat.le_of_ble_eq_true rfl, Nat.le_of_ble_eq_true rfl⟩ rfl rfl rfl hl.1 rfl (Nat.le_of_ble_eq_true rfl) dX6_ended_17 ⟨Nat.zero_le _, Nat.zero_le _⟩ (fun r4 σ3 τ3 H locs h3 hP hS => ?_)
      obtain ⟨⟨rfl, rfl⟩, w5, h3⟩ := h3
      have h6 := h3
      obtain ⟨q8, k7⟩ := h6
      refine lv_if_ge (tgt := 27) hx hb dX6_ended_20 (of_decide_eq_true rfl) (fun c9 => ?_) (fun c9 => ?_)
      · have kc9 := jle c9 jz_0 rfl
        refine lv_iconst (v := 0) hx hb dX6_ended_27 (of_decide_eq_true rfl) ?_
        exact hret 0 σ τ _ _ _ _ rfl ⟨⟨rfl, rfl⟩, ⟨fun _ => ⟨by omega, by omega, r4, w5.2 (by omega)⟩, fun _ _ _ _ => rfl⟩, trivial⟩ hP hS dX6_ended_28
      · have kc9 := jnle c9 jz_0 rfl
        refine lv_iconst (v := 1) hx hb dX6_ended_23 (of_decide_eq_true rfl) ?_
        refine lv_goto (tgt := 28) hx hb dX6_ended_24 (of_decide_eq_true rfl) ?_
        exact hret 1 σ τ _ _ _ _ rfl ⟨⟨rfl, rfl⟩, ⟨fun h => absurd h (of_decide_eq_true rfl), fun _ _ b hb => absurd (w5.1 b hb) (by omega)⟩, trivial⟩ hP hS dX6_ended_28
set_option maxHeartbeats 4000000 in
set_option maxRecDepth 100000 in
theorem c_X6_sortDown_16 (l : Launch) (D : va_G) (cI cL : ClassId) (ad zz : Nat → Nat) (hJ : jD ad) (σ : Nat → Nat → Int32) (τ : Nat → Nat → Int64) (hI16 : jI16 σ) (hI0 : jI0 σ) : jMv l yX6_sortDown cX6_sortDown 5 none ({ frames := 0, cells := 0, slots := 0, locals := 0 }) D cI cL ad zz [.ref (ad 16), .ref (ad 1)] σ τ (fun σ' τ' => τ = τ' ∧ (∀ i : Nat, (i < 1 ∨ 1 < i) → σ' i = σ i) ∧ (jI0 σ') ∧ True) := by
  refine jMv.of hJ (by decide +kernel) rfl (Nat.le_of_ble_eq_true rfl) ?_
  intro p e s m args below meth c Q ls hC hret hl hP
  obtain ⟨hx, hb, hr, hml, hown, hts, hK, -, hlocks, hZ⟩ := hC
  have hown : s.vm.findClass RX6 = some m.cls := hown
  have hS : va_S (jA ad) s.heap s.heap [] := va_S.rf
  have hA : ∀ q, jA ad q → jA ad q := fun _ h => h
  have hl : lv_has ls 5 [(0, .ref (ad 16)), (1, .ref (ad 1))] := hl
  obtain ⟨i1, i2, i3, w4⟩ : (1 ≤ (σ 16 0).toInt ∧ (σ 16 0).toInt ≤ 8) ∧ (1 ≤ (σ 16 1).toInt ∧ (σ 16 1).toInt ≤ 12) ∧ (0 ≤ (σ 16 2).toInt ∧ (σ 16 2).toInt ≤ 999) ∧ (∀ k : Nat, k < 8 → 0 ≤ (σ 17 k).toInt ∧ (σ 17 k).toInt ≤ 3) := id hI16
  have w5 : ∀ k : Nat, k < 8 → 0 ≤ (σ 1 k).toInt ∧ (σ 1 k).toInt ≤ 3 := hI0
  refine lv_iconst (v := 0) hx hb dX6_sortDown_0 (of_decide_eq_true rfl) ?_
  refine lv_istore_n (lv' := [(2, .int 0), (0, .ref (ad 16)), (1, .ref (ad 1))]) hx hb dX6_sortDown_1 rfl hl (of_decide_eq_true rfl) rfl (fun ls hl => ?_)
  refine lv_iconst (v := 3) hx hb dX6_sortDown_2 (of_decide_eq_true rfl) ?_
  refine lv_istore_n (lv' := [(3, .int 3), (2, .int 0), (0, .ref (ad 16)), (1, .ref (ad 1))]) hx hb dX6_sortDown_3 rfl hl (of_decide_eq_true rfl) rfl (fun ls hl => ?_)
  have lp6 : ∀ (n7 : Nat) (x8 : Int32) (x9 : Int32) (σ11 : Nat → Nat → Int32) (H : Heap) (locs : List Loc) (ls : Array Slot), (x9.toInt + 1 : Int) < n7 → 0 ≤ x8.toInt → x8.toInt ≤ 8 → (-1) ≤ x9.toInt → x9.toInt ≤ 3 → (∀ i : Nat, (i < 1 ∨ 1 < i) → σ11 i = σ i) → jI0 σ11 → jH D cI cL ad σ11 τ H → va_S (jA ad) s.heap H locs → lv_has ls 5 [(3, .int x9), (2, .int x8), (0, .ref (ad 16)), (1, .ref (ad 1))] → W p l e ({ frames := 0, cells := 0, slots := 0, locals := 0 }) s m args below meth c H locs 0 0 Q (F0 m 4 ls []) := by
    intro n7
    induction n7 with
    | zero => intro x8 x9 σ11 H locs ls h13 h14 h15 h16 h17; exact absurd h13 (by omega)
    | succ n7 ihlp6 =>
      intro x8 x9 σ11 H locs ls h13 h14 h15 h16 h17 f18 p19 hP hS hl
      exact by
       have w20 : ∀ k : Nat, k < 8 → 0 ≤ (σ11 1 k).toInt ∧ (σ11 1 k).toInt ≤ 3 := p19
       refine lv_iload_n hx hb dX6_sortDown_4 rfl (lv_at hl 0 rfl) ?_
       refine lv_if_lt (tgt := 56) hx hb dX6_sortDown_5 (of_decide_eq_true rfl) (fun c21 => ?_) (fun c21 => ?_)
       · have kc21 := jlt c21 rfl jz_0
         exact hret σ11 τ _ _ _ _ ⟨rfl, (fun i hi => (f18 i hi)), p19, trivial⟩ hP hS dX6_sortDown_56
       · have kc21 := jnlt c21 rfl jz_0
         refine lv_iconst (v := 0) hx hb dX6_sortDown_8 (of_decide_eq_true rfl) ?_
         refine lv_istore (lv' := [(4, .int 0), (3, .int x9), (2, .int x8), (0, .ref (ad 16)), (1, .ref (ad 1))]) hx hb dX6_sortDown_9 hl (of_decide_eq_true rfl) rfl (fun ls hl => ?_)
         have z27 : (σ11 16 0).toInt = (σ 16 0).toInt := (congrArg Int32.toInt (show σ11 16 0 = (σ 16 0) from (congrFun (f18 16 (of_decide_eq_true rfl)) 0)))
         have lp22 : ∀ (n23 : Nat) (x24 : Int32) (x25 : Int32) (σ26 : Nat → Nat → Int32) (H : Heap) (locs : List Loc) (ls : Array Slot), ((σ26 16 0).toInt - x25.toInt : Int) < n23 → 0 ≤ x24.toInt → x24.toInt ≤ 8 → 0 ≤ x25.toInt → x25.toInt ≤ 8 → x25.toInt ≤ (σ26 16 0).toInt → (∀ i : Nat, (i < 1 ∨ 1 < i) → σ26 i = σ11 i) → jI0 σ26 → jH D cI cL ad σ26 τ H → va_S (jA ad) s.heap H locs → lv_has ls 5 [(4, .int x25), (3, .int x9), (2, .int x24), (0, .ref (ad 16)), (1, .ref (ad 1))] → W p l e ({ frames := 0, cells := 0, slots := 0, locals := 0 }) s m args below meth c H locs 0 0 Q (F0 m 11 ls []) := by
           intro n23
           induction n23 with
           | zero => intro x24 x25 σ26 H locs ls h29 h30 h31 h32 h33 h34; exact absurd h29 (by omega)
           | succ n23 ihlp22 =>
             intro x24 x25 σ26 H locs ls h29 h30 h31 h32 h33 h34 f35 p36 hP hS hl
             exact by
              have w37 : ∀ k : Nat, k < 8 → 0 ≤ (σ26 1 k).toInt ∧ (σ26 1 k).toInt ≤ 3 := p36
              have z38 : (σ26 16 0).toInt = (σ 16 0).toInt := (congrArg Int32.toInt (show σ26 16 0 = (σ 16 0) from ((congrFun (f35 16 (of_decide_eq_true rfl)) 0).trans (congrFun (f18 16 (of_decide_eq_true rfl)) 0))))
              refine lv_iload hx hb dX6_sortDown_11 (lv_at hl 0 rfl) ?_
              refine lv_aload_n hx hb dX6_sortDown_13 rfl (lv_at hl 3 rfl) ?_
              refine va_get (D := D) hx hb hts inlX6 hown hK hP 16 (jc_16 cI cL ad σ26 τ) rfl 0 (of_decide_eq_true rfl) (hts _ kw_4_9) (fun _ h9 => h9) rfl dX6_sortDown_14 ?_
              have m39 : σ26 16 0 = (σ 16 0) := ((congrFun (f35 16 (of_decide_eq_true rfl)) 0).trans (congrFun (f18 16 (of_decide_eq_true rfl)) 0))
              refine jtopr m39 ?_
              refine lv_icmp_ge (tgt := 50) hx hb dX6_sortDown_17 (of_decide_eq_true rfl) (fun c40 => ?_) (fun c40 => ?_)
              · have kc40 := jle c40 rfl rfl
                obtain ⟨x41, ex41⟩ : ∃ y : Int32, y = x9 + (-1) := ⟨_, rfl⟩
                exact by
                 have tx41 : x41.toInt = x9.toInt - 1 := (jadd ex41 rfl jz_m1 (by omega) (by omega)).trans (by omega)
                 refine lv_iinc (v := x41) (lv' := [(3, .int x41), (4, .int x25), (2, .int x24), (0, .ref (ad 16)), (1, .ref (ad 1))]) hx hb dX6_sortDown_50 hl (k := 1) rfl (by rw [ex41]; rfl) (of_decide_eq_true rfl) rfl (fun ls hl => ?_)
                 refine lv_goto (tgt := 4) hx hb dX6_sortDown_53 (of_decide_eq_true rfl) ?_
                 exact by exact ihlp6 x24 x41 σ26 _ _ ls (by have h91 := tx41; omega) (by have h91 := tx41; omega) (by have h91 := tx41; omega) (by have h91 := tx41; omega) (by have h91 := tx41; omega) (fun i hi => ((f35 i hi).trans (f18 i hi)))   p36 hP hS (lv_sub hl [0, 2, 3, 4] rfl)
              · have kc40 := jnle c40 rfl rfl
                refine lv_aload_n hx hb dX6_sortDown_20 rfl (lv_at hl 3 rfl) ?_
                refine va_get (D := D) hx hb hts inlX6 hown hK hP 16 (jc_16 cI cL ad σ26 τ) rfl 3 (of_decide_eq_true rfl) (hts _ kw_4_11) (fun _ h9 => h9) rfl dX6_sortDown_21 ?_
                refine lv_iload hx hb dX6_sortDown_24 (lv_at hl 0 rfl) ?_
                refine jald hx hb hK hP (jc_17 cI cL ad σ26 τ) (jin rfl (by omega) (by omega)) dX6_sortDown_26 ?_
                exact by
                 have w42 : ∀ k : Nat, k < 8 → 0 ≤ (σ26 17 k).toInt ∧ (σ26 17 k).toInt ≤ 3 := (jrr_fr (f35 17 (of_decide_eq_true rfl)) (jrr_fr (f18 17 (of_decide_eq_true rfl)) w4))
                 have g43 := w42 _ (jnat (x := x25) rfl (n := 8) (by omega) (of_decide_eq_true rfl))
                 refine lv_topi (fun x44 ex44 => ?_)
                 rw [← ex44] at g43
                 refine lv_iload_n hx hb dX6_sortDown_27 rfl (lv_at hl 1 rfl) ?_
                 refine lv_icmp_ne (tgt := 44) hx hb dX6_sortDown_28 (of_decide_eq_true rfl) (fun c45 => ?_) (fun c45 => ?_)
                 · have kc45 := jne c45 rfl rfl
                   obtain ⟨x46, ex46⟩ : ∃ y : Int32, y = x25 + 1 := ⟨_, rfl⟩
                   have tx46 : x46.toInt = x25.toInt + 1 := (jadd ex46 rfl jz_1 (by omega) (by omega)).trans (by omega)
                   exact by
                    refine lv_iinc (v := x46) (lv' := [(4, .int x46), (3, .int x9), (2, .int x24), (0, .ref (ad 16)), (1, .ref (ad 1))]) hx hb dX6_sortDown_44 hl (k := 0) rfl (by rw [ex46]; rfl) (of_decide_eq_true rfl) rfl (fun ls hl => ?_)
                    refine lv_goto (tgt := 11) hx hb dX6_sortDown_47 (of_decide_eq_true rfl) ?_
                    exact by exact ihlp22 x24 x46 σ26 _ _ ls (by have h91 := tx46; omega) (by have h91 := tx46; omega) (by have h91 := tx46; omega) (by have h91 := tx46; omega) (by have h91 := tx46; omega) (by have h91 := tx46; omega) (fun i hi => (f35 i hi))   p36 hP hS (lv_sub hl [0, 1, 2, 3, 4] rfl)
                 · have kc45 := jeq c45 rfl rfl
                   refine lv_iload_n hx hb dX6_sortDown_31 rfl (lv_at hl 2 rfl) ?_
                   refine lv_aload_n hx hb dX6_sortDown_32 rfl (lv_at hl 4 rfl) ?_
                   refine jalen (v := 8) hx hb hK hP (jc_1 cI cL ad σ26 τ) (of_decide_eq_true rfl) dX6_sortDown_33 ?_
                   refine lv_icmp_ge (tgt := 44) hx hb dX6_sortDown_34 (of_decide_eq_true rfl) (fun c47 => ?_) (fun c47 => ?_)
                   · have kc47 := jle c47 jz_8 rfl
                     obtain ⟨x48, ex48⟩ : ∃ y : Int32, y = x25 + 1 := ⟨_, rfl⟩
                     exact by
                      have tx48 : x48.toInt = x25.toInt + 1 := (jadd ex48 rfl jz_1 (by omega) (by omega)).trans (by omega)
                      refine lv_iinc (v := x48) (lv' := [(4, .int x48), (3, .int x9), (2, .int x24), (0, .ref (ad 16)), (1, .ref (ad 1))]) hx hb dX6_sortDown_44 hl (k := 0) rfl (by rw [ex48]; rfl) (of_decide_eq_true rfl) rfl (fun ls hl => ?_)
                      refine lv_goto (tgt := 11) hx hb dX6_sortDown_47 (of_decide_eq_true rfl) ?_
                      exact by exact ihlp22 x24 x48 σ26 _ _ ls (by have h91 := tx48; omega) (by have h91 := tx48; omega) (by have h91 := tx48; omega) (by have h91 := tx48; omega) (by have h91 := tx48; omega) (by have h91 := tx48; omega) (fun i hi => (f35 i hi))   p36 hP hS (lv_sub hl [0, 1, 2, 3, 4] rfl)
                   · have kc47 := jnle c47 jz_8 rfl
                     refine lv_aload_n hx hb dX6_sortDown_37 rfl (lv_at hl 4 rfl) ?_
                     refine lv_iload_n hx hb dX6_sortDown_38 rfl (lv_at hl 2 rfl) ?_
                     obtain ⟨x49, ex49⟩ : ∃ y : Int32, y = x24 + 1 := ⟨_, rfl⟩
                     have tx49 : x49.toInt = x24.toInt + 1 := (jadd ex49 rfl jz_1 (by omega) (by omega)).trans (by omega)
                     exact by
                      refine lv_iinc (v := x49) (lv' := [(2, .int x49), (4, .int x25), (3, .int x9), (0, .ref (ad 16)), (1, .ref (ad 1))]) hx hb dX6_sortDown_39 hl (k := 2) rfl (by rw [ex49]; rfl) (of_decide_eq_true rfl) rfl (fun ls hl => ?_)
                      refine lv_iload_n hx hb dX6_sortDown_42 rfl (lv_at hl 2 rfl) ?_
                      refine jast hx hb hK hP hJ hA hS (jc_1 cI cL ad σ26 τ) (ja_1 cI cL ad σ26 τ _ _) (jin rfl (by omega) (by omega)) dX6_sortDown_43 (fun σ50 H locs eσ50 hP hS => ?_)
                      obtain ⟨x51, ex51⟩ : ∃ y : Int32, y = x25 + 1 := ⟨_, rfl⟩
                      have tx51 : x51.toInt = x25.toInt + 1 := (jadd ex51 rfl jz_1 (by omega) (by omega)).trans (by omega)
                      refine lv_iinc (v := x51) (lv' := [(4, .int x51), (2, .int x49), (3, .int x9), (0, .ref (ad 16)), (1, .ref (ad 1))]) hx hb dX6_sortDown_44 hl (k := 1) rfl (by rw [ex51]; rfl) (of_decide_eq_true rfl) rfl (fun ls hl => ?_)
                      refine lv_goto (tgt := 11) hx hb dX6_sortDown_47 (of_decide_eq_true rfl) ?_
                      have z52 : (σ50 16 0).toInt = (σ 16 0).toInt := (congrArg Int32.toInt (show σ50 16 0 = (σ 16 0) from ((congrFun (jnp 16 eσ50 (of_decide_eq_true rfl)) 0).trans m39)))
                      have w53 : ∀ k : Nat, k < 8 → 0 ≤ (σ50 1 k).toInt ∧ (σ50 1 k).toInt ≤ 3 := (by rw [eσ50]; exact jrr_up w37 (by omega) (by omega))
                      exact by
                       have I54 : jI0 σ50 := w53
                       exact by exact ihlp22 x49 x51 σ50 _ _ ls (by have h90 := tx49; have h91 := tx51; omega) (by have h90 := tx49; have h91 := tx51; omega) (by have h90 := tx49; have h91 := tx51; omega) (by have h90 := tx49; have h91 := tx51; omega) (by have h90 := tx49; have h91 := tx51; omega) (by have h90 := tx49; have h91 := tx51; omega) (fun i hi => ((jnp i eσ50 (imp_42 i hi)).trans (f35 i hi)))   I54 hP hS (lv_sub hl [0, 2, 1, 3, 4] rfl)
         exact by exact lp22 1000000 x8 0 σ11 _ _ ls (by have h91 := jz_0; omega) (by have h91 := jz_0; omega) (by have h91 := jz_0; omega) (by have h91 := jz_0; omega) (by have h91 := jz_0; omega) (by have h91 := jz_0; omega) (fun _ _ => rfl)  p19 hP hS hl
  exact by exact lp6 1000000 0 3 σ _ _ ls (by have h90 := jz_0; have h91 := jz_3; omega) (by have h90 := jz_0; have h91 := jz_3; omega) (by have h90 := jz_0; have h91 := jz_3; omega) (by have h90 := jz_0; have h91 := jz_3; omega) (by have h90 := jz_0; have h91 := jz_3; omega) (fun _ _ => rfl)  hI0 hP hS hl
set_option maxHeartbeats 4000000 in
set_option maxRecDepth 100000 in
theorem c_X6_digits (l : Launch) (D : va_G) (cI cL : ClassId) (ad zz : Nat → Nat) (hJ : jD ad) (σ : Nat → Nat → Int32) (τ : Nat → Nat → Int64) (a2 : Int32) (A2 : Int) (t2 : a2.toInt = A2) (hI0 : jI0 σ) : jM l yX6_digits cX6_digits 4 (some .int) ({ frames := 0, cells := 0, slots := 0, locals := 0 }) D cI cL ad zz [.ref (ad 1), .int a2] σ τ (fun r σ' τ' => (σ = σ' ∧ τ = τ') ∧ True) := by
  refine jM.of hJ (by decide +kernel) (nt := .int) rfl (Nat.le_of_ble_eq_true rfl) ?_
  intro p e s m args below meth c Q ls hC hret hl hP
  obtain ⟨hx, hb, hr, hml, hown, hts, hK, -, hlocks, hZ⟩ := hC
  have hown : s.vm.findClass RX6 = some m.cls := hown
  have hS : va_S (jA ad) s.heap s.heap [] := va_S.rf
  have hA : ∀ q, jA ad q → jA ad q := fun _ h => h
  have hl : lv_has ls 4 [(0, .ref (ad 1)), (1, .int a2)] := hl
  have g2 := jrg t2
  have w1 : ∀ k : Nat, k < 8 → 0 ≤ (σ 1 k).toInt ∧ (σ 1 k).toInt ≤ 3 := hI0
  refine lv_iconst (v := 0) hx hb dX6_digits_0 (of_decide_eq_true rfl) ?_
  refine lv_istore_n (lv' := [(2, .int 0), (0, .ref (ad 1)), (1, .int a2)]) hx hb dX6_digits_1 rfl hl (of_decide_eq_true rfl) rfl (fun ls hl => ?_)
  refine lv_iconst (v := 0) hx hb dX6_digits_2 (of_decide_eq_true rfl) ?_
  refine lv_istore_n (lv' := [(3, .int 0), (2, .int 0), (0, .ref (ad 1)), (1, .int a2)]) hx hb dX6_digits_3 rfl hl (of_decide_eq_true rfl) rfl (fun ls hl => ?_)
  have lp2 : ∀ (n3 : Nat) (x4 : Int32) (x5 : Int32) (H : Heap) (locs : List Loc) (ls : Array Slot), (-x5.toInt + 8 : Int) < n3 → 0 ≤ x5.toInt → x5.toInt ≤ 8 → jH D cI cL ad σ τ H → va_S (jA ad) s.heap H locs → lv_has ls 4 [(3, .int x5), (2, .int x4), (0, .ref (ad 1)), (1, .int a2)] → W p l e ({ frames := 0, cells := 0, slots := 0, locals := 0 }) s m args below meth c H locs 0 0 Q (F0 m 4 ls []) := by
    intro n3
    induction n3 with
    | zero => intro x4 x5 H locs ls h7 h8 h9; have gx4 := jrg (rfl : x4.toInt = x4.toInt); exact absurd h7 (by omega)
    | succ n3 ihlp2 =>
      intro x4 x5 H locs ls h7 h8 h9 hP hS hl
      exact by
       have gx4 := jrg (rfl : x4.toInt = x4.toInt)
       refine lv_iload_n hx hb dX6_digits_4 rfl (lv_at hl 0 rfl) ?_
       refine lv_iload_n hx hb dX6_digits_5 rfl (lv_at hl 3 rfl) ?_
       refine lv_icmp_ge (tgt := 30) hx hb dX6_digits_6 (of_decide_eq_true rfl) (fun c11 => ?_) (fun c11 => ?_)
       · have kc11 := jle c11 t2 rfl
         refine lv_iload_n hx hb dX6_digits_30 rfl (lv_at hl 1 rfl) ?_
         exact hret x4 σ τ _ _ _ _ rfl ⟨⟨rfl, rfl⟩, trivial⟩ hP hS dX6_digits_31
       · have kc11 := jnle c11 t2 rfl
         refine lv_iload_n hx hb dX6_digits_9 rfl (lv_at hl 0 rfl) ?_
         refine lv_aload_n hx hb dX6_digits_10 rfl (lv_at hl 2 rfl) ?_
         refine jalen (v := 8) hx hb hK hP (jc_1 cI cL ad σ τ) (of_decide_eq_true rfl) dX6_digits_11 ?_
         refine lv_icmp_ge (tgt := 30) hx hb dX6_digits_12 (of_decide_eq_true rfl) (fun c12 => ?_) (fun c12 => ?_)
         · have kc12 := jle c12 jz_8 rfl
           refine lv_iload_n hx hb dX6_digits_30 rfl (lv_at hl 1 rfl) ?_
           exact hret x4 σ τ _ _ _ _ rfl ⟨⟨rfl, rfl⟩, trivial⟩ hP hS dX6_digits_31
         · have kc12 := jnle c12 jz_8 rfl
           refine lv_iload_n hx hb dX6_digits_15 rfl (lv_at hl 1 rfl) ?_
           refine lv_bipush (v := 10) hx hb dX6_digits_16 (of_decide_eq_true rfl) ?_
           have g13 := jrg (rfl : x4.toInt = x4.toInt)
           refine lv_imul hx hb dX6_digits_18 ?_
           refine lv_topi (fun x14 ex14 => ?_)
           have gx14 := jrg (rfl : x14.toInt = x14.toInt)
           refine lv_aload_n hx hb dX6_digits_19 rfl (lv_at hl 2 rfl) ?_
           refine lv_iload_n hx hb dX6_digits_20 rfl (lv_at hl 0 rfl) ?_
           exact by
            refine jald hx hb hK hP (jc_1 cI cL ad σ τ) (jin rfl (by omega) (by omega)) dX6_digits_21 ?_
            have g15 := w1 _ (jnat (x := x5) rfl (n := 8) (by omega) (of_decide_eq_true rfl))
            refine lv_topi (fun x16 ex16 => ?_)
            rw [← ex16] at g15
            have g17 := jrg (rfl : x14.toInt = x14.toInt)
            have g18 := jrg (rfl : x16.toInt = x16.toInt)
            refine lv_iadd hx hb dX6_digits_22 ?_
            refine lv_topi (fun x19 ex19 => ?_)
            have gx19 := jrg (rfl : x19.toInt = x19.toInt)
            exact by
             refine lv_istore_n (lv' := [(2, .int x19), (3, .int x5), (0, .ref (ad 1)), (1, .int a2)]) hx hb dX6_digits_23 rfl hl (of_decide_eq_true rfl) rfl (fun ls hl => ?_)
             obtain ⟨x20, ex20⟩ : ∃ y : Int32, y = x5 + 1 := ⟨_, rfl⟩
             have tx20 : x20.toInt = x5.toInt + 1 := (jadd ex20 rfl jz_1 (by omega) (by omega)).trans (by omega)
             refine lv_iinc (v := x20) (lv' := [(3, .int x20), (2, .int x19), (0, .ref (ad 1)), (1, .int a2)]) hx hb dX6_digits_24 hl (k := 1) rfl (by rw [ex20]; rfl) (of_decide_eq_true rfl) rfl (fun ls hl => ?_)
             refine lv_goto (tgt := 4) hx hb dX6_digits_27 (of_decide_eq_true rfl) ?_
             exact by exact ihlp2 x19 x20 _ _ ls (by have h91 := tx20; omega) (by have h91 := tx20; omega) (by have h91 := tx20; omega)    hP hS (lv_sub hl [0, 1, 2, 3] rfl)
  exact by exact lp2 1000000 0 0 _ _ ls (by have h90 := jz_0; have h91 := jz_0; omega) (by have h90 := jz_0; have h91 := jz_0; omega) (by have h90 := jz_0; have h91 := jz_0; omega)   hP hS hl
set_option maxHeartbeats 4000000 in
set_option maxRecDepth 100000 in
theorem c_X6_swap (l : Launch) (D : va_G) (cI cL : ClassId) (ad zz : Nat → Nat) (hJ : jD ad) (σ : Nat → Nat → Int32) (τ : Nat → Nat → Int64) (a2 : Int32) (A2 : Int) (t2 : a2.toInt = A2) (a3 : Int32) (A3 : Int) (t3 : a3.toInt = A3) (hI0 : jI0 σ) (hp0 : 0 ≤ A2 ∧ A2 ≤ 7) (hp1 : 0 ≤ A3 ∧ A3 ≤ 7) : jMv l yX6_swap cX6_swap 4 none ({ frames := 0, cells := 0, slots := 0, locals := 0 }) D cI cL ad zz [.ref (ad 1), .int a2, .int a3] σ τ (fun σ' τ' => τ = τ' ∧ (∀ i : Nat, (i < 1 ∨ 1 < i) → σ' i = σ i) ∧ (jI0 σ') ∧ True) := by
  refine jMv.of hJ (by decide +kernel) rfl (Nat.le_of_ble_eq_true rfl) ?_
  intro p e s m args below meth c Q ls hC hret hl hP
  obtain ⟨hx, hb, hr, hml, hown, hts, hK, -, hlocks, hZ⟩ := hC
  have hown : s.vm.findClass RX6 = some m.cls := hown
  have hS : va_S (jA ad) s.heap s.heap [] := va_S.rf
  have hA : ∀ q, jA ad q → jA ad q := fun _ h => h
  have hl : lv_has ls 4 [(0, .ref (ad 1)), (1, .int a2), (2, .int a3)] := hl
  have g2 := jrg t2
  have g3 := jrg t3
  have w1 : ∀ k : Nat, k < 8 → 0 ≤ (σ 1 k).toInt ∧ (σ 1 k).toInt ≤ 3 := hI0
  refine lv_aload_n hx hb dX6_swap_0 rfl (lv_at hl 0 rfl) ?_
  refine lv_iload_n hx hb dX6_swap_1 rfl (lv_at hl 1 rfl) ?_
  exact by
   refine jald hx hb hK hP (jc_1 cI cL ad σ τ) (jin t2 (by omega) (by omega)) dX6_swap_2 ?_
   have g2 := w1 _ (jnat (x := a2) t2 (n := 8) (by omega) (of_decide_eq_true rfl))
   refine lv_topi (fun x3 ex3 => ?_)
   rw [← ex3] at g2
   refine lv_istore_n (lv' := [(3, .int x3), (0, .ref (ad 1)), (1, .int a2), (2, .int a3)]) hx hb dX6_swap_3 rfl hl (of_decide_eq_true rfl) rfl (fun ls hl => ?_)
   refine lv_aload_n hx hb dX6_swap_4 rfl (lv_at hl 1 rfl) ?_
   refine lv_iload_n hx hb dX6_swap_5 rfl (lv_at hl 2 rfl) ?_
   refine lv_aload_n hx hb dX6_swap_6 rfl (lv_at hl 1 rfl) ?_
   refine lv_iload_n hx hb dX6_swap_7 rfl (lv_at hl 3 rfl) ?_
   exact by
    refine jald hx hb hK hP (jc_1 cI cL ad σ τ) (jin t3 (by omega) (by omega)) dX6_swap_8 ?_
    have g4 := w1 _ (jnat (x := a3) t3 (n := 8) (by omega) (of_decide_eq_true rfl))
    refine lv_topi (fun x5 ex5 => ?_)
    rw [← ex5] at g4
    refine jast hx hb hK hP hJ hA hS (jc_1 cI cL ad σ τ) (ja_1 cI cL ad σ τ _ _) (jin t2 (by omega) (by omega)) dX6_swap_9 (fun σ6 H locs eσ6 hP hS => ?_)
    refine lv_aload_n hx hb dX6_swap_10 rfl (lv_at hl 1 rfl) ?_
    refine lv_iload_n hx hb dX6_swap_11 rfl (lv_at hl 3 rfl) ?_
    refine lv_iload_n hx hb dX6_swap_12 rfl (lv_at hl 0 rfl) ?_
    refine jast hx hb hK hP hJ hA hS (jc_1 cI cL ad σ6 τ) (ja_1 cI cL ad σ6 τ _ _) (jin t3 (by omega) (by omega)) dX6_swap_13 (fun σ7 H locs eσ7 hP hS => ?_)
    exact by
     have w8 : ∀ k : Nat, k < 8 → 0 ≤ (σ7 1 k).toInt ∧ (σ7 1 k).toInt ≤ 3 := (by rw [eσ7]; exact jrr_up (by rw [eσ6]; exact jrr_up w1 (by omega) (by omega)) (by omega) (by omega))
     have I9 : jI0 σ7 := w8
     exact hret σ7 τ _ _ _ _ ⟨rfl, (fun i hi => ((jnp i eσ7 (imp_42 i hi)).trans (jnp i eσ6 (imp_42 i hi)))), I9, trivial⟩ hP hS dX6_swap_14
set_option maxHeartbeats 4000000 in
set_option maxRecDepth 100000 in
theorem c_X6_turnOn (l : Launch) (D : va_G) (cI cL : ClassId) (ad zz : Nat → Nat) (hJ : jD ad) (σ : Nat → Nat → Int32) (τ : Nat → Nat → Int64) (a2 : Int32) (A2 : Int) (t2 : a2.toInt = A2) (hI0 : jI0 σ) (hp0 : 1 ≤ A2 ∧ A2 ≤ 8) : jM l yX6_turnOn cX6_turnOn 7 (some .int) ({ frames := 1, cells := 0, slots := 0, locals := 23 }) D cI cL ad zz [.ref (ad 1), .int a2] σ τ (fun r σ' τ' => τ = τ' ∧ (∀ i : Nat, (i < 1 ∨ 1 < i) → σ' i = σ i) ∧ (jI0 σ') ∧ True) := by
  refine jM.of hJ (by decide +kernel) (nt := .int) rfl (Nat.le_of_ble_eq_true rfl) ?_
  intro p e s m args below meth c Q ls hC hret hl hP
  obtain ⟨hx, hb, hr, hml, hown, hts, hK, -, hlocks, hZ⟩ := hC
  have hown : s.vm.findClass RX6 = some m.cls := hown
  have hS : va_S (jA ad) s.heap s.heap [] := va_S.rf
  have hA : ∀ q, jA ad q → jA ad q := fun _ h => h
  have hl : lv_has ls 7 [(0, .ref (ad 1)), (1, .int a2)] := hl
  have g2 := jrg t2
  have w1 : ∀ k : Nat, k < 8 → 0 ≤ (σ 1 k).toInt ∧ (σ 1 k).toInt ≤ 3 := hI0
  refine lv_iload_n hx hb dX6_turnOn_0 rfl (lv_at hl 1 rfl) ?_
  refine lv_aload_n hx hb dX6_turnOn_1 rfl (lv_at hl 0 rfl) ?_
  refine jalen (v := 8) hx hb hK hP (jc_1 cI cL ad σ τ) (of_decide_eq_true rfl) dX6_turnOn_2 ?_
  refine va_mmin hx hb (hml.trans hl.1.symm) hown (hts _ kw_40_9) (hts _ kw_22_11) (hts _ kw_21_1) (hts _ kw_22_12) (Nat.le_of_ble_eq_true rfl) (Nat.le_of_ble_eq_true rfl) (Nat.le_of_ble_eq_true rfl) (Nat.le_of_ble_eq_true rfl) dX6_turnOn_3 ?_
  refine lv_topi (fun x2 ex2 => ?_)
  have g3 := jmin ex2 t2 jz_8
  refine lv_istore_n (lv' := [(2, .int x2), (0, .ref (ad 1)), (1, .int a2)]) hx hb dX6_turnOn_6 rfl hl (of_decide_eq_true rfl) rfl (fun ls hl => ?_)
  refine lv_iconst (v := 1) hx hb dX6_turnOn_7 (of_decide_eq_true rfl) ?_
  refine lv_istore_n (lv' := [(3, .int 1), (2, .int x2), (0, .ref (ad 1)), (1, .int a2)]) hx hb dX6_turnOn_8 rfl hl (of_decide_eq_true rfl) rfl (fun ls hl => ?_)
  have lp4 : ∀ (n5 : Nat) (x6 : Int32) (H : Heap) (locs : List Loc) (ls : Array Slot), (-x6.toInt + 8 : Int) < n5 → 1 ≤ x6.toInt → x6.toInt ≤ 8 → jH D cI cL ad σ τ H → va_S (jA ad) s.heap H locs → lv_has ls 7 [(3, .int x6), (2, .int x2), (0, .ref (ad 1)), (1, .int a2)] → W p l e ({ frames := 1, cells := 0, slots := 0, locals := 23 }) s m args below meth c H locs 0 0 Q (F0 m 9 ls []) := by
    intro n5
    induction n5 with
    | zero => intro x6 H locs ls h8 h9 h10; exact absurd h8 (by omega)
    | succ n5 ihlp4 =>
      intro x6 H locs ls h8 h9 h10 hP hS hl
      exact by
       refine lv_iload_n hx hb dX6_turnOn_9 rfl (lv_at hl 0 rfl) ?_
       refine lv_iload_n hx hb dX6_turnOn_10 rfl (lv_at hl 1 rfl) ?_
       refine lv_icmp_ge (tgt := 31) hx hb dX6_turnOn_11 (of_decide_eq_true rfl) (fun c12 => ?_) (fun c12 => ?_)
       · have kc12 := jle c12 rfl rfl
         refine lv_iload_n hx hb dX6_turnOn_31 rfl (lv_at hl 0 rfl) ?_
         refine lv_iload_n hx hb dX6_turnOn_32 rfl (lv_at hl 1 rfl) ?_
         refine lv_icmp_lt (tgt := 38) hx hb dX6_turnOn_33 (of_decide_eq_true rfl) (fun c => absurd (jlt c rfl rfl) (by omega)) (fun c13 => ?_)
         have kc13 := jnlt c13 rfl rfl
         refine lv_iconst (v := (-1)) hx hb dX6_turnOn_36 (of_decide_eq_true rfl) ?_
         exact hret (-1) σ τ _ _ _ _ rfl ⟨rfl, (fun _ _ => rfl), hI0, trivial⟩ hP hS dX6_turnOn_37
       · exact by
          have kc12 := jnle c12 rfl rfl
          refine lv_aload_n hx hb dX6_turnOn_14 rfl (lv_at hl 2 rfl) ?_
          refine lv_iload_n hx hb dX6_turnOn_15 rfl (lv_at hl 0 rfl) ?_
          refine jald hx hb hK hP (jc_1 cI cL ad σ τ) (jin rfl (by omega) (by omega)) dX6_turnOn_16 ?_
          have g14 := w1 _ (jnat (x := x6) rfl (n := 8) (by omega) (of_decide_eq_true rfl))
          refine lv_topi (fun x15 ex15 => ?_)
          rw [← ex15] at g14
          refine lv_aload_n hx hb dX6_turnOn_17 rfl (lv_at hl 2 rfl) ?_
          refine lv_iload_n hx hb dX6_turnOn_18 rfl (lv_at hl 0 rfl) ?_
          exact by
           refine lv_iconst (v := 1) hx hb dX6_turnOn_19 (of_decide_eq_true rfl) ?_
           have g16 := jrg (rfl : x6.toInt = x6.toInt)
           refine lv_isub hx hb dX6_turnOn_20 ?_
           refine lv_topi (fun x17 ex17 => ?_)
           have tx17 : x17.toInt = x6.toInt - 1 := (jsub ex17 rfl jz_1 (by omega) (by omega)).trans (by omega)
           refine jald hx hb hK hP (jc_1 cI cL ad σ τ) (jin tx17 (by omega) (by omega)) dX6_turnOn_21 ?_
           have g18 := w1 _ (jnat (x := x17) tx17 (n := 8) (by omega) (of_decide_eq_true rfl))
           refine lv_topi (fun x19 ex19 => ?_)
           rw [← ex19] at g18
           exact by
            refine lv_icmp_lt (tgt := 31) hx hb dX6_turnOn_22 (of_decide_eq_true rfl) (fun c20 => ?_) (fun c20 => ?_)
            · have kc20 := jlt c20 rfl rfl
              refine lv_iload_n hx hb dX6_turnOn_31 rfl (lv_at hl 0 rfl) ?_
              refine lv_iload_n hx hb dX6_turnOn_32 rfl (lv_at hl 1 rfl) ?_
              refine lv_icmp_lt (tgt := 38) hx hb dX6_turnOn_33 (of_decide_eq_true rfl) (fun c21 => ?_) (fun c => absurd (jnlt c rfl rfl) (by omega))
              have kc21 := jlt c21 rfl rfl
              refine lv_iconst (v := 0) hx hb dX6_turnOn_38 (of_decide_eq_true rfl) ?_
              refine lv_istore (lv' := [(4, .int 0), (3, .int x6), (2, .int x2), (0, .ref (ad 1)), (1, .int a2)]) hx hb dX6_turnOn_39 hl (of_decide_eq_true rfl) rfl (fun ls hl => ?_)
              have lp22 : ∀ (n23 : Nat) (x24 : Int32) (H : Heap) (locs : List Loc) (ls : Array Slot), (x6.toInt - x24.toInt : Int) < n23 → 0 ≤ x24.toInt → x24.toInt ≤ 8 → x24.toInt ≤ x6.toInt → jH D cI cL ad σ τ H → va_S (jA ad) s.heap H locs → lv_has ls 7 [(4, .int x24), (3, .int x6), (2, .int x2), (0, .ref (ad 1)), (1, .int a2)] → W p l e ({ frames := 1, cells := 0, slots := 0, locals := 23 }) s m args below meth c H locs 0 0 Q (F0 m 41 ls []) := by
                intro n23
                induction n23 with
                | zero => intro x24 H locs ls h26 h27 h28 h29; exact absurd h26 (by omega)
                | succ n23 ihlp22 =>
                  intro x24 H locs ls h26 h27 h28 h29 hP hS hl
                  exact by
                   refine lv_iload hx hb dX6_turnOn_41 (lv_at hl 0 rfl) ?_
                   refine lv_iload_n hx hb dX6_turnOn_43 rfl (lv_at hl 1 rfl) ?_
                   refine lv_icmp_ge (tgt := 63) hx hb dX6_turnOn_44 (of_decide_eq_true rfl) (fun c31 => ?_) (fun c31 => ?_)
                   · have kc31 := jle c31 rfl rfl
                     refine lv_aload_n hx hb dX6_turnOn_63 rfl (lv_at hl 3 rfl) ?_
                     refine lv_iload_n hx hb dX6_turnOn_64 rfl (lv_at hl 1 rfl) ?_
                     refine lv_iload hx hb dX6_turnOn_65 (lv_at hl 0 rfl) ?_
                     refine jcallSv (As := [.ref (ad 1), .int x6, .int x24]) (rest := []) ⟨hx, hb, hml, hown, hts⟩ hK hP hA hS hZ (c_X6_swap l D cI cL ad zz hJ σ τ x6 (x6.toInt) rfl x24 (x24.toInt) rfl hI0 (by omega) (by omega)) cw_RX6_37 ⟨Nat.le_of_ble_eq_true rfl, Nat.le_of_ble_eq_true rfl⟩ rfl rfl rfl hl.1 rfl (Nat.le_of_ble_eq_true rfl) dX6_turnOn_67 ⟨Nat.zero_le _, Nat.zero_le _⟩ (fun σ32 τ32 H locs h32 hP hS => ?_)
                     obtain ⟨rfl, f34, I35, h32⟩ := h32
                     exact by
                      have w37 : ∀ k : Nat, k < 8 → 0 ≤ (σ32 1 k).toInt ∧ (σ32 1 k).toInt ≤ 3 := I35
                      refine lv_iconst (v := 0) hx hb dX6_turnOn_70 (of_decide_eq_true rfl) ?_
                      refine lv_istore (lv' := [(5, .int 0), (4, .int x24), (3, .int x6), (2, .int x2), (0, .ref (ad 1)), (1, .int a2)]) hx hb dX6_turnOn_71 hl (of_decide_eq_true rfl) rfl (fun ls hl => ?_)
                      refine lv_iload_n hx hb dX6_turnOn_73 rfl (lv_at hl 2 rfl) ?_
                      refine lv_iconst (v := 1) hx hb dX6_turnOn_74 (of_decide_eq_true rfl) ?_
                      refine lv_isub hx hb dX6_turnOn_75 ?_
                      refine lv_topi (fun x38 ex38 => ?_)
                      have tx38 : x38.toInt = x6.toInt - 1 := (jsub ex38 rfl jz_1 (by omega) (by omega)).trans (by omega)
                      refine lv_istore (lv' := [(6, .int x38), (5, .int 0), (4, .int x24), (3, .int x6), (2, .int x2), (0, .ref (ad 1)), (1, .int a2)]) hx hb dX6_turnOn_76 hl (of_decide_eq_true rfl) rfl (fun ls hl => ?_)
                      exact by
                       have lp39 : ∀ (n40 : Nat) (x41 : Int32) (x42 : Int32) (σ43 : Nat → Nat → Int32) (H : Heap) (locs : List Loc) (ls : Array Slot), (-x41.toInt + 8 : Int) < n40 → 0 ≤ x41.toInt → x41.toInt ≤ 8 → (-1) ≤ x42.toInt → x42.toInt ≤ 7 → (∀ i : Nat, (i < 1 ∨ 1 < i) → σ43 i = σ32 i) → jI0 σ43 → jH D cI cL ad σ43 τ H → va_S (jA ad) s.heap H locs → lv_has ls 7 [(6, .int x42), (5, .int x41), (4, .int x24), (3, .int x6), (2, .int x2), (0, .ref (ad 1)), (1, .int a2)] → W p l e ({ frames := 1, cells := 0, slots := 0, locals := 23 }) s m args below meth c H locs 0 0 Q (F0 m 78 ls []) := by
                         intro n40
                         induction n40 with
                         | zero => intro x41 x42 σ43 H locs ls h45 h46 h47 h48 h49; exact absurd h45 (by omega)
                         | succ n40 ihlp39 =>
                           intro x41 x42 σ43 H locs ls h45 h46 h47 h48 h49 f50 p51 hP hS hl
                           have w52 : ∀ k : Nat, k < 8 → 0 ≤ (σ43 1 k).toInt ∧ (σ43 1 k).toInt ≤ 3 := p51
                           refine lv_iload hx hb dX6_turnOn_78 (lv_at hl 1 rfl) ?_
                           refine lv_iload hx hb dX6_turnOn_80 (lv_at hl 0 rfl) ?_
                           exact by
                            refine lv_icmp_ge (tgt := 102) hx hb dX6_turnOn_82 (of_decide_eq_true rfl) (fun c53 => ?_) (fun c53 => ?_)
                            · have kc53 := jle c53 rfl rfl
                              refine lv_iload_n hx hb dX6_turnOn_102 rfl (lv_at hl 3 rfl) ?_
                              exact hret x6 σ43 τ _ _ _ _ rfl ⟨rfl, (fun i hi => ((f50 i hi).trans (f34 i hi))), p51, trivial⟩ hP hS dX6_turnOn_103
                            · have kc53 := jnle c53 rfl rfl
                              refine lv_aload_n hx hb dX6_turnOn_85 rfl (lv_at hl 5 rfl) ?_
                              refine lv_iload hx hb dX6_turnOn_86 (lv_at hl 1 rfl) ?_
                              refine lv_iload hx hb dX6_turnOn_88 (lv_at hl 0 rfl) ?_
                              refine jcallSv (As := [.ref (ad 1), .int x41, .int x42]) (rest := []) ⟨hx, hb, hml, hown, hts⟩ hK hP hA hS hZ (c_X6_swap l D cI cL ad zz hJ σ43 τ x41 (x41.toInt) rfl x42 (x42.toInt) rfl p51 (by omega) (by omega)) cw_RX6_37 ⟨Nat.le_of_ble_eq_true rfl, Nat.le_of_ble_eq_true rfl⟩ rfl rfl rfl hl.1 rfl (Nat.le_of_ble_eq_true rfl) dX6_turnOn_90 ⟨Nat.zero_le _, Nat.zero_le _⟩ (fun σ54 τ54 H locs h54 hP hS => ?_)
                              exact by
                               obtain ⟨rfl, f56, I57, h54⟩ := h54
                               have w59 : ∀ k : Nat, k < 8 → 0 ≤ (σ54 1 k).toInt ∧ (σ54 1 k).toInt ≤ 3 := I57
                               obtain ⟨x60, ex60⟩ : ∃ y : Int32, y = x41 + 1 := ⟨_, rfl⟩
                               have tx60 : x60.toInt = x41.toInt + 1 := (jadd ex60 rfl jz_1 (by omega) (by omega)).trans (by omega)
                               refine lv_iinc (v := x60) (lv' := [(5, .int x60), (6, .int x42), (4, .int x24), (3, .int x6), (2, .int x2), (0, .ref (ad 1)), (1, .int a2)]) hx hb dX6_turnOn_93 hl (k := 1) rfl (by rw [ex60]; rfl) (of_decide_eq_true rfl) rfl (fun ls hl => ?_)
                               obtain ⟨x61, ex61⟩ : ∃ y : Int32, y = x42 + (-1) := ⟨_, rfl⟩
                               have tx61 : x61.toInt = x42.toInt - 1 := (jadd ex61 rfl jz_m1 (by omega) (by omega)).trans (by omega)
                               refine lv_iinc (v := x61) (lv' := [(6, .int x61), (5, .int x60), (4, .int x24), (3, .int x6), (2, .int x2), (0, .ref (ad 1)), (1, .int a2)]) hx hb dX6_turnOn_96 hl (k := 1) rfl (by rw [ex61]; rfl) (of_decide_eq_true rfl) rfl (fun ls hl => ?_)
                               refine lv_goto (tgt := 78) hx hb dX6_turnOn_99 (of_decide_eq_true rfl) ?_
                               exact by exact ihlp39 x60 x61 σ54 _ _ ls (by have h90 := tx60; have h91 := tx61; omega) (by have h90 := tx60; have h91 := tx61; omega) (by have h90 := tx60; have h91 := tx61; omega) (by have h90 := tx60; have h91 := tx61; omega) (by have h90 := tx60; have h91 := tx61; omega) (fun i hi => ((f56 i hi).trans (f50 i hi)))   I57 hP hS (lv_sub hl [0, 1, 2, 3, 4, 5, 6] rfl)
                       exact by exact lp39 1000000 0 x38 σ32 _ _ ls (by have h90 := jz_0; have h91 := tx38; omega) (by have h90 := jz_0; have h91 := tx38; omega) (by have h90 := jz_0; have h91 := tx38; omega) (by have h90 := jz_0; have h91 := tx38; omega) (by have h90 := jz_0; have h91 := tx38; omega) (fun _ _ => rfl)  I35 hP hS hl
                   · exact by
                      have kc31 := jnle c31 rfl rfl
                      refine lv_aload_n hx hb dX6_turnOn_47 rfl (lv_at hl 3 rfl) ?_
                      refine lv_iload hx hb dX6_turnOn_48 (lv_at hl 0 rfl) ?_
                      refine jald hx hb hK hP (jc_1 cI cL ad σ τ) (jin rfl (by omega) (by omega)) dX6_turnOn_50 ?_
                      have g62 := w1 _ (jnat (x := x24) rfl (n := 8) (by omega) (of_decide_eq_true rfl))
                      refine lv_topi (fun x63 ex63 => ?_)
                      rw [← ex63] at g62
                      refine lv_aload_n hx hb dX6_turnOn_51 rfl (lv_at hl 3 rfl) ?_
                      refine lv_iload_n hx hb dX6_turnOn_52 rfl (lv_at hl 1 rfl) ?_
                      exact by
                       refine jald hx hb hK hP (jc_1 cI cL ad σ τ) (jin rfl (by omega) (by omega)) dX6_turnOn_53 ?_
                       have g64 := w1 _ (jnat (x := x6) rfl (n := 8) (by omega) (of_decide_eq_true rfl))
                       refine lv_topi (fun x65 ex65 => ?_)
                       rw [← ex65] at g64
                       refine lv_icmp_gt (tgt := 63) hx hb dX6_turnOn_54 (of_decide_eq_true rfl) (fun c66 => ?_) (fun c66 => ?_)
                       · have kc66 := jlt c66 rfl rfl
                         refine lv_aload_n hx hb dX6_turnOn_63 rfl (lv_at hl 3 rfl) ?_
                         refine lv_iload_n hx hb dX6_turnOn_64 rfl (lv_at hl 1 rfl) ?_
                         refine lv_iload hx hb dX6_turnOn_65 (lv_at hl 0 rfl) ?_
                         exact by
                          refine jcallSv (As := [.ref (ad 1), .int x6, .int x24]) (rest := []) ⟨hx, hb, hml, hown, hts⟩ hK hP hA hS hZ (c_X6_swap l D cI cL ad zz hJ σ τ x6 (x6.toInt) rfl x24 (x24.toInt) rfl hI0 (by omega) (by omega)) cw_RX6_37 ⟨Nat.le_of_ble_eq_true rfl, Nat.le_of_ble_eq_true rfl⟩ rfl rfl rfl hl.1 rfl (Nat.le_of_ble_eq_true rfl) dX6_turnOn_67 ⟨Nat.zero_le _, Nat.zero_le _⟩ (fun σ67 τ67 H locs h67 hP hS => ?_)
                          obtain ⟨rfl, f69, I70, h67⟩ := h67
                          have w72 : ∀ k : Nat, k < 8 → 0 ≤ (σ67 1 k).toInt ∧ (σ67 1 k).toInt ≤ 3 := I70
                          refine lv_iconst (v := 0) hx hb dX6_turnOn_70 (of_decide_eq_true rfl) ?_
                          refine lv_istore (lv' := [(5, .int 0), (4, .int x24), (3, .int x6), (2, .int x2), (0, .ref (ad 1)), (1, .int a2)]) hx hb dX6_turnOn_71 hl (of_decide_eq_true rfl) rfl (fun ls hl => ?_)
                          refine lv_iload_n hx hb dX6_turnOn_73 rfl (lv_at hl 2 rfl) ?_
                          refine lv_iconst (v := 1) hx hb dX6_turnOn_74 (of_decide_eq_true rfl) ?_
                          refine lv_isub hx hb dX6_turnOn_75 ?_
                          refine lv_topi (fun x73 ex73 => ?_)
                          exact by
                           have tx73 : x73.toInt = x6.toInt - 1 := (jsub ex73 rfl jz_1 (by omega) (by omega)).trans (by omega)
                           refine lv_istore (lv' := [(6, .int x73), (5, .int 0), (4, .int x24), (3, .int x6), (2, .int x2), (0, .ref (ad 1)), (1, .int a2)]) hx hb dX6_turnOn_76 hl (of_decide_eq_true rfl) rfl (fun ls hl => ?_)
                           have lp74 : ∀ (n75 : Nat) (x76 : Int32) (x77 : Int32) (σ78 : Nat → Nat → Int32) (H : Heap) (locs : List Loc) (ls : Array Slot), (-x76.toInt + 8 : Int) < n75 → 0 ≤ x76.toInt → x76.toInt ≤ 8 → (-1) ≤ x77.toInt → x77.toInt ≤ 7 → (∀ i : Nat, (i < 1 ∨ 1 < i) → σ78 i = σ67 i) → jI0 σ78 → jH D cI cL ad σ78 τ H → va_S (jA ad) s.heap H locs → lv_has ls 7 [(6, .int x77), (5, .int x76), (4, .int x24), (3, .int x6), (2, .int x2), (0, .ref (ad 1)), (1, .int a2)] → W p l e ({ frames := 1, cells := 0, slots := 0, locals := 23 }) s m args below meth c H locs 0 0 Q (F0 m 78 ls []) := by
                             intro n75
                             induction n75 with
                             | zero => intro x76 x77 σ78 H locs ls h80 h81 h82 h83 h84; exact absurd h80 (by omega)
                             | succ n75 ihlp74 =>
                               intro x76 x77 σ78 H locs ls h80 h81 h82 h83 h84 f85 p86 hP hS hl
                               have w87 : ∀ k : Nat, k < 8 → 0 ≤ (σ78 1 k).toInt ∧ (σ78 1 k).toInt ≤ 3 := p86
                               exact by
                                refine lv_iload hx hb dX6_turnOn_78 (lv_at hl 1 rfl) ?_
                                refine lv_iload hx hb dX6_turnOn_80 (lv_at hl 0 rfl) ?_
                                refine lv_icmp_ge (tgt := 102) hx hb dX6_turnOn_82 (of_decide_eq_true rfl) (fun c88 => ?_) (fun c88 => ?_)
                                · have kc88 := jle c88 rfl rfl
                                  refine lv_iload_n hx hb dX6_turnOn_102 rfl (lv_at hl 3 rfl) ?_
                                  exact hret x6 σ78 τ _ _ _ _ rfl ⟨rfl, (fun i hi => ((f85 i hi).trans (f69 i hi))), p86, trivial⟩ hP hS dX6_turnOn_103
                                · have kc88 := jnle c88 rfl rfl
                                  refine lv_aload_n hx hb dX6_turnOn_85 rfl (lv_at hl 5 rfl) ?_
                                  refine lv_iload hx hb dX6_turnOn_86 (lv_at hl 1 rfl) ?_
                                  refine lv_iload hx hb dX6_turnOn_88 (lv_at hl 0 rfl) ?_
                                  exact by
                                   refine jcallSv (As := [.ref (ad 1), .int x76, .int x77]) (rest := []) ⟨hx, hb, hml, hown, hts⟩ hK hP hA hS hZ (c_X6_swap l D cI cL ad zz hJ σ78 τ x76 (x76.toInt) rfl x77 (x77.toInt) rfl p86 (by omega) (by omega)) cw_RX6_37 ⟨Nat.le_of_ble_eq_true rfl, Nat.le_of_ble_eq_true rfl⟩ rfl rfl rfl hl.1 rfl (Nat.le_of_ble_eq_true rfl) dX6_turnOn_90 ⟨Nat.zero_le _, Nat.zero_le _⟩ (fun σ89 τ89 H locs h89 hP hS => ?_)
                                   obtain ⟨rfl, f91, I92, h89⟩ := h89
                                   have w94 : ∀ k : Nat, k < 8 → 0 ≤ (σ89 1 k).toInt ∧ (σ89 1 k).toInt ≤ 3 := I92
                                   obtain ⟨x95, ex95⟩ : ∃ y : Int32, y = x76 + 1 := ⟨_, rfl⟩
                                   have tx95 : x95.toInt = x76.toInt + 1 := (jadd ex95 rfl jz_1 (by omega) (by omega)).trans (by omega)
                                   refine lv_iinc (v := x95) (lv' := [(5, .int x95), (6, .int x77), (4, .int x24), (3, .int x6), (2, .int x2), (0, .ref (ad 1)), (1, .int a2)]) hx hb dX6_turnOn_93 hl (k := 1) rfl (by rw [ex95]; rfl) (of_decide_eq_true rfl) rfl (fun ls hl => ?_)
                                   obtain ⟨x96, ex96⟩ : ∃ y : Int32, y = x77 + (-1) := ⟨_, rfl⟩
                                   have tx96 : x96.toInt = x77.toInt - 1 := (jadd ex96 rfl jz_m1 (by omega) (by omega)).trans (by omega)
                                   refine lv_iinc (v := x96) (lv' := [(6, .int x96), (5, .int x95), (4, .int x24), (3, .int x6), (2, .int x2), (0, .ref (ad 1)), (1, .int a2)]) hx hb dX6_turnOn_96 hl (k := 1) rfl (by rw [ex96]; rfl) (of_decide_eq_true rfl) rfl (fun ls hl => ?_)
                                   exact by
                                    refine lv_goto (tgt := 78) hx hb dX6_turnOn_99 (of_decide_eq_true rfl) ?_
                                    exact by exact ihlp74 x95 x96 σ89 _ _ ls (by have h90 := tx95; have h91 := tx96; omega) (by have h90 := tx95; have h91 := tx96; omega) (by have h90 := tx95; have h91 := tx96; omega) (by have h90 := tx95; have h91 := tx96; omega) (by have h90 := tx95; have h91 := tx96; omega) (fun i hi => ((f91 i hi).trans (f85 i hi)))   I92 hP hS (lv_sub hl [0, 1, 2, 3, 4, 5, 6] rfl)
                           exact by exact lp74 1000000 0 x73 σ67 _ _ ls (by have h90 := jz_0; have h91 := tx73; omega) (by have h90 := jz_0; have h91 := tx73; omega) (by have h90 := jz_0; have h91 := tx73; omega) (by have h90 := jz_0; have h91 := tx73; omega) (by have h90 := jz_0; have h91 := tx73; omega) (fun _ _ => rfl)  I70 hP hS hl
                       · have kc66 := jnlt c66 rfl rfl
                         obtain ⟨x97, ex97⟩ : ∃ y : Int32, y = x24 + 1 := ⟨_, rfl⟩
                         have tx97 : x97.toInt = x24.toInt + 1 := (jadd ex97 rfl jz_1 (by omega) (by omega)).trans (by omega)
                         refine lv_iinc (v := x97) (lv' := [(4, .int x97), (3, .int x6), (2, .int x2), (0, .ref (ad 1)), (1, .int a2)]) hx hb dX6_turnOn_57 hl (k := 0) rfl (by rw [ex97]; rfl) (of_decide_eq_true rfl) rfl (fun ls hl => ?_)
                         refine lv_goto (tgt := 41) hx hb dX6_turnOn_60 (of_decide_eq_true rfl) ?_
                         exact by exact ihlp22 x97 _ _ ls (by have h90 := tx97; omega) (by have h90 := tx97; omega) (by have h90 := tx97; omega) (by have h90 := tx97; omega)    hP hS (lv_sub hl [0, 1, 2, 3, 4] rfl)
              exact by exact lp22 1000000 0 _ _ ls (by have h90 := jz_0; omega) (by have h90 := jz_0; omega) (by have h90 := jz_0; omega) (by have h90 := jz_0; omega)   hP hS hl
            · exact by
               have kc20 := jnlt c20 rfl rfl
               obtain ⟨x98, ex98⟩ : ∃ y : Int32, y = x6 + 1 := ⟨_, rfl⟩
               have tx98 : x98.toInt = x6.toInt + 1 := (jadd ex98 rfl jz_1 (by omega) (by omega)).trans (by omega)
               refine lv_iinc (v := x98) (lv' := [(3, .int x98), (2, .int x2), (0, .ref (ad 1)), (1, .int a2)]) hx hb dX6_turnOn_25 hl (k := 0) rfl (by rw [ex98]; rfl) (of_decide_eq_true rfl) rfl (fun ls hl => ?_)
               refine lv_goto (tgt := 9) hx hb dX6_turnOn_28 (of_decide_eq_true rfl) ?_
               exact by exact ihlp4 x98 _ _ ls (by have h90 := tx98; omega) (by have h90 := tx98; omega) (by have h90 := tx98; omega)    hP hS (lv_sub hl [0, 1, 2, 3] rfl)
  exact by exact lp4 1000000 1 _ _ ls (by have h90 := jz_1; omega) (by have h90 := jz_1; omega) (by have h90 := jz_1; omega)   hP hS hl
set_option maxHeartbeats 4000000 in
set_option maxRecDepth 100000 in
theorem c_X5_lay_26 (l : Launch) (D : va_G) (cI cL : ClassId) (ad zz : Nat → Nat) (hJ : jD ad) (σ : Nat → Nat → Int32) (τ : Nat → Nat → Int64) (a1 : Int32) (A1 : Int) (t1 : a1.toInt = A1) (hp0 : 0 ≤ A1 ∧ A1 ≤ 3) : jMv l yX5_lay cX5_lay 7 none ({ frames := 2, cells := 0, slots := 0, locals := 44 }) D cI cL ad zz [.ref (ad 26), .int a1] σ τ (fun σ' τ' => τ = τ' ∧ (∀ i : Nat, (i < 27 ∨ 28 < i) → σ' i = σ i) ∧ (jLd (σ' 27) (σ' 28) (σ 3) (σ 4) (σ 5) (A1) 64) ∧ True) := by
  refine jMv.of hJ (by decide +kernel) rfl (Nat.le_of_ble_eq_true rfl) ?_
  intro p e s m args below meth c Q ls hC hret hl hP
  obtain ⟨hx, hb, hr, hml, hown, hts, hK, -, hlocks, hZ⟩ := hC
  have hown : s.vm.findClass RX5 = some m.cls := hown
  have hS : va_S (jA ad) s.heap s.heap [] := va_S.rf
  have hA : ∀ q, jA ad q → jA ad q := fun _ h => h
  have hl : lv_has ls 7 [(0, .ref (ad 26)), (1, .int a1)] := hl
  have g1 := jrg t1
  refine lv_iconst (v := 0) hx hb dX5_lay_0 (of_decide_eq_true rfl) ?_
  refine lv_istore_n (lv' := [(2, .int 0), (0, .ref (ad 26)), (1, .int a1)]) hx hb dX5_lay_1 rfl hl (of_decide_eq_true rfl) rfl (fun ls hl => ?_)
  have lp1 : ∀ (n2 : Nat) (x3 : Int32) (σ8 : Nat → Nat → Int32) (H : Heap) (locs : List Loc) (ls : Array Slot), (-x3.toInt + 4 : Int) < n2 → 0 ≤ x3.toInt → x3.toInt ≤ 4 → (∀ i : Nat, (i < 27 ∨ 28 < i) → σ8 i = σ i) → (jLd (σ8 27) (σ8 28) (σ 3) (σ 4) (σ 5) (A1) (16 * x3.toInt)) → jH D cI cL ad σ8 τ H → va_S (jA ad) s.heap H locs → lv_has ls 7 [(2, .int x3), (0, .ref (ad 26)), (1, .int a1)] → W p l e ({ frames := 2, cells := 0, slots := 0, locals := 44 }) s m args below meth c H locs 0 0 Q (F0 m 2 ls []) := by
    intro n2
    induction n2 with
    | zero => intro x3 σ8 H locs ls h10 h11 h12; exact absurd h10 (by omega)
    | succ n2 ihlp1 =>
      intro x3 σ8 H locs ls h10 h11 h12 f13 q14 hP hS hl
      exact by
       refine lv_iload_n hx hb dX5_lay_2 rfl (lv_at hl 0 rfl) ?_
       refine lv_iconst (v := 4) hx hb dX5_lay_3 (of_decide_eq_true rfl) ?_
       refine lv_icmp_ge (tgt := 120) hx hb dX5_lay_4 (of_decide_eq_true rfl) (fun c15 => ?_) (fun c15 => ?_)
       · have kc15 := jle c15 jz_4 rfl
         exact hret σ8 τ _ _ _ _ ⟨rfl, (fun i hi => (f13 i hi)), (q14.n (by omega)), trivial⟩ hP hS dX5_lay_120
       · have kc15 := jnle c15 jz_4 rfl
         refine lv_iconst (v := 0) hx hb dX5_lay_7 (of_decide_eq_true rfl) ?_
         refine lv_istore_n (lv' := [(3, .int 0), (2, .int x3), (0, .ref (ad 26)), (1, .int a1)]) hx hb dX5_lay_8 rfl hl (of_decide_eq_true rfl) rfl (fun ls hl => ?_)
         have lp16 : ∀ (n17 : Nat) (x18 : Int32) (σ22 : Nat → Nat → Int32) (H : Heap) (locs : List Loc) (ls : Array Slot), (-x18.toInt + 4 : Int) < n17 → 0 ≤ x18.toInt → x18.toInt ≤ 4 → (∀ i : Nat, (i < 27 ∨ 28 < i) → σ22 i = σ8 i) → (jLd (σ22 27) (σ22 28) (σ 3) (σ 4) (σ 5) (A1) (16 * x3.toInt + 4 * x18.toInt)) → jH D cI cL ad σ22 τ H → va_S (jA ad) s.heap H locs → lv_has ls 7 [(3, .int x18), (2, .int x3), (0, .ref (ad 26)), (1, .int a1)] → W p l e ({ frames := 2, cells := 0, slots := 0, locals := 44 }) s m args below meth c H locs 0 0 Q (F0 m 9 ls []) := by
           intro n17
           induction n17 with
           | zero => intro x18 σ22 H locs ls h24 h25 h26; exact absurd h24 (by omega)
           | succ n17 ihlp16 =>
             intro x18 σ22 H locs ls h24 h25 h26 f27 q28 hP hS hl
             exact by
              refine lv_iload_n hx hb dX5_lay_9 rfl (lv_at hl 0 rfl) ?_
              refine lv_iconst (v := 4) hx hb dX5_lay_10 (of_decide_eq_true rfl) ?_
              refine lv_icmp_ge (tgt := 114) hx hb dX5_lay_11 (of_decide_eq_true rfl) (fun c29 => ?_) (fun c29 => ?_)
              · have kc29 := jle c29 jz_4 rfl
                obtain ⟨x30, ex30⟩ : ∃ y : Int32, y = x3 + 1 := ⟨_, rfl⟩
                have tx30 : x30.toInt = x3.toInt + 1 := (jadd ex30 rfl jz_1 (by omega) (by omega)).trans (by omega)
                refine lv_iinc (v := x30) (lv' := [(2, .int x30), (3, .int x18), (0, .ref (ad 26)), (1, .int a1)]) hx hb dX5_lay_114 hl (k := 1) rfl (by rw [ex30]; rfl) (of_decide_eq_true rfl) rfl (fun ls hl => ?_)
                refine lv_goto (tgt := 2) hx hb dX5_lay_117 (of_decide_eq_true rfl) ?_
                exact by exact ihlp1 x30 σ22 _ _ ls (by have h90 := tx30; omega) (by have h90 := tx30; omega) (by have h90 := tx30; omega) (fun i hi => ((f27 i hi).trans (f13 i hi)))   (q28.n (by have h9 := tx30; omega)) hP hS (lv_sub hl [0, 2, 3] rfl)
              · exact by
                 have kc29 := jnle c29 jz_4 rfl
                 refine lv_aload_n hx hb dX5_lay_14 rfl (lv_at hl 2 rfl) ?_
                 refine va_get (D := D) hx hb hts inlX5 hown hK hP 26 (jc_26 cI cL ad σ22 τ) rfl 1 (of_decide_eq_true rfl) (hts _ kw_4_21) (fun _ h9 => h9) rfl dX5_lay_15 ?_
                 refine lv_iload_n hx hb dX5_lay_18 rfl (lv_at hl 3 rfl) ?_
                 refine lv_iload_n hx hb dX5_lay_19 rfl (lv_at hl 1 rfl) ?_
                 refine lv_iload_n hx hb dX5_lay_20 rfl (lv_at hl 0 rfl) ?_
                 refine jcallV (As := [.int a1, .int x3, .int x18]) (rest := []) ⟨hx, hb, hml, hown, hts⟩ hK hP hA hS hZ (c_X4_edgeIn_2 l D cI cL ad zz hJ σ22 τ a1 (A1) t1 x3 (x3.toInt) rfl x18 (x18.toInt) rfl (by omega) (by omega) (by omega)) cw_RX5_36 (jc_2 cI cL ad σ22 τ) rfl ⟨Nat.le_of_ble_eq_true rfl, Nat.le_of_ble_eq_true rfl⟩ rfl rfl rfl hl.1 rfl (Nat.le_of_ble_eq_true rfl) dX5_lay_21 ⟨Nat.zero_le _, Nat.zero_le _⟩ (fun r32 σ31 τ31 H locs h31 hP hS => ?_)
                 obtain ⟨⟨rfl, rfl⟩, w33, h31⟩ := h31
                 refine lv_istore (lv' := [(4, .int r32), (3, .int x18), (2, .int x3), (0, .ref (ad 26)), (1, .int a1)]) hx hb dX5_lay_24 hl (of_decide_eq_true rfl) rfl (fun ls hl => ?_)
                 exact by
                  refine lv_aload_n hx hb dX5_lay_26 rfl (lv_at hl 3 rfl) ?_
                  refine va_get (D := D) hx hb hts inlX5 hown hK hP 26 (jc_26 cI cL ad σ22 τ) rfl 1 (of_decide_eq_true rfl) (hts _ kw_4_21) (fun _ h9 => h9) rfl dX5_lay_27 ?_
                  refine lv_iload_n hx hb dX5_lay_30 rfl (lv_at hl 4 rfl) ?_
                  refine lv_iload_n hx hb dX5_lay_31 rfl (lv_at hl 2 rfl) ?_
                  refine lv_iload_n hx hb dX5_lay_32 rfl (lv_at hl 1 rfl) ?_
                  refine jcallV (As := [.int a1, .int x3, .int x18]) (rest := []) ⟨hx, hb, hml, hown, hts⟩ hK hP hA hS hZ (c_X4_runsIn_2 l D cI cL ad zz hJ σ22 τ a1 (A1) t1 x3 (x3.toInt) rfl x18 (x18.toInt) rfl (by omega) (by omega) (by omega)) cw_RX5_42 (jc_2 cI cL ad σ22 τ) rfl ⟨Nat.le_of_ble_eq_true rfl, Nat.le_of_ble_eq_true rfl⟩ rfl rfl rfl hl.1 rfl (Nat.le_of_ble_eq_true rfl) dX5_lay_33 ⟨Nat.zero_le _, Nat.zero_le _⟩ (fun r35 σ34 τ34 H locs h34 hP hS => ?_)
                  obtain ⟨⟨rfl, rfl⟩, w36, h34⟩ := h34
                  refine lv_istore (lv' := [(5, .int r35), (4, .int r32), (3, .int x18), (2, .int x3), (0, .ref (ad 26)), (1, .int a1)]) hx hb dX5_lay_36 hl (of_decide_eq_true rfl) rfl (fun ls hl => ?_)
                  refine lv_iconst (v := 0) hx hb dX5_lay_38 (of_decide_eq_true rfl) ?_
                  exact by
                   refine lv_istore (lv' := [(6, .int 0), (5, .int r35), (4, .int r32), (3, .int x18), (2, .int x3), (0, .ref (ad 26)), (1, .int a1)]) hx hb dX5_lay_39 hl (of_decide_eq_true rfl) rfl (fun ls hl => ?_)
                   have lp37 : ∀ (n38 : Nat) (x39 : Int32) (σ40 : Nat → Nat → Int32) (H : Heap) (locs : List Loc) (ls : Array Slot), (-x39.toInt + 4 : Int) < n38 → 0 ≤ x39.toInt → x39.toInt ≤ 4 → (∀ i : Nat, (i < 27 ∨ 28 < i) → σ40 i = σ22 i) → (jLd (σ40 27) (σ40 28) (σ 3) (σ 4) (σ 5) (A1) (16 * x3.toInt + 4 * x18.toInt + x39.toInt)) → jH D cI cL ad σ40 τ H → va_S (jA ad) s.heap H locs → lv_has ls 7 [(6, .int x39), (5, .int r35), (4, .int r32), (3, .int x18), (2, .int x3), (0, .ref (ad 26)), (1, .int a1)] → W p l e ({ frames := 2, cells := 0, slots := 0, locals := 44 }) s m args below meth c H locs 0 0 Q (F0 m 41 ls []) := by
                     intro n38
                     induction n38 with
                     | zero => intro x39 σ40 H locs ls h42 h43 h44; exact absurd h42 (by omega)
                     | succ n38 ihlp37 =>
                       intro x39 σ40 H locs ls h42 h43 h44 f45 q46 hP hS hl
                       refine lv_iload hx hb dX5_lay_41 (lv_at hl 0 rfl) ?_
                       refine lv_iconst (v := 4) hx hb dX5_lay_43 (of_decide_eq_true rfl) ?_
                       exact by
                        refine lv_icmp_ge (tgt := 108) hx hb dX5_lay_44 (of_decide_eq_true rfl) (fun c47 => ?_) (fun c47 => ?_)
                        · have kc47 := jle c47 jz_4 rfl
                          obtain ⟨x48, ex48⟩ : ∃ y : Int32, y = x18 + 1 := ⟨_, rfl⟩
                          have tx48 : x48.toInt = x18.toInt + 1 := (jadd ex48 rfl jz_1 (by omega) (by omega)).trans (by omega)
                          refine lv_iinc (v := x48) (lv' := [(3, .int x48), (6, .int x39), (5, .int r35), (4, .int r32), (2, .int x3), (0, .ref (ad 26)), (1, .int a1)]) hx hb dX5_lay_108 hl (k := 3) rfl (by rw [ex48]; rfl) (of_decide_eq_true rfl) rfl (fun ls hl => ?_)
                          refine lv_goto (tgt := 9) hx hb dX5_lay_111 (of_decide_eq_true rfl) ?_
                          exact by exact ihlp16 x48 σ40 _ _ ls (by have h90 := tx48; omega) (by have h90 := tx48; omega) (by have h90 := tx48; omega) (fun i hi => ((f45 i hi).trans (f27 i hi)))   (q46.n (by have h9 := tx48; omega)) hP hS (lv_sub hl [0, 4, 5, 6] rfl)
                        · have kc47 := jnle c47 jz_4 rfl
                          refine lv_aload_n hx hb dX5_lay_47 rfl (lv_at hl 5 rfl) ?_
                          exact by
                           refine va_get (D := D) hx hb hts inlX5 hown hK hP 26 (jc_26 cI cL ad σ40 τ) rfl 2 (of_decide_eq_true rfl) (hts _ kw_4_16) (fun _ h9 => h9) rfl dX5_lay_48 ?_
                           refine lv_iload_n hx hb dX5_lay_51 rfl (lv_at hl 4 rfl) ?_
                           refine lv_iconst (v := 4) hx hb dX5_lay_52 (of_decide_eq_true rfl) ?_
                           have g49 := jrg (rfl : x3.toInt = x3.toInt)
                           refine lv_imul hx hb dX5_lay_53 ?_
                           refine lv_topi (fun x50 ex50 => ?_)
                           have tx50 : x50.toInt = 4 * x3.toInt := (jmul ex50 rfl jz_4 (by omega) (by omega)).trans (by omega)
                           refine lv_iload_n hx hb dX5_lay_54 rfl (lv_at hl 3 rfl) ?_
                           have g51 := jrg (rfl : x18.toInt = x18.toInt)
                           exact by
                            refine lv_iadd hx hb dX5_lay_55 ?_
                            refine lv_topi (fun x52 ex52 => ?_)
                            have tx52 : x52.toInt = 4 * x3.toInt + x18.toInt := (jadd ex52 tx50 rfl (by omega) (by omega)).trans (by omega)
                            refine lv_iconst (v := 4) hx hb dX5_lay_56 (of_decide_eq_true rfl) ?_
                            refine lv_imul hx hb dX5_lay_57 ?_
                            refine lv_topi (fun x53 ex53 => ?_)
                            have tx53 : x53.toInt = 16 * x3.toInt + 4 * x18.toInt := (jmul ex53 tx52 jz_4 (by omega) (by omega)).trans (by omega)
                            refine lv_iload hx hb dX5_lay_58 (lv_at hl 0 rfl) ?_
                            have g54 := jrg (rfl : x39.toInt = x39.toInt)
                            exact by
                             refine lv_iadd hx hb dX5_lay_60 ?_
                             refine lv_topi (fun x55 ex55 => ?_)
                             have tx55 : x55.toInt = 16 * x3.toInt + 4 * x18.toInt + x39.toInt := (jadd ex55 tx53 rfl (by omega) (by omega)).trans (by omega)
                             refine lv_iload hx hb dX5_lay_61 (lv_at hl 2 rfl) ?_
                             refine lv_aload_n hx hb dX5_lay_63 rfl (lv_at hl 5 rfl) ?_
                             refine va_get (D := D) hx hb hts inlX5 hown hK hP 26 (jc_26 cI cL ad σ40 τ) rfl 1 (of_decide_eq_true rfl) (hts _ kw_4_21) (fun _ h9 => h9) rfl dX5_lay_64 ?_
                             refine lv_iload_n hx hb dX5_lay_67 rfl (lv_at hl 4 rfl) ?_
                             refine lv_iload hx hb dX5_lay_68 (lv_at hl 0 rfl) ?_
                             refine jcallV (As := [.int x3, .int x39]) (rest := [.int r32, .int x55, .ref (ad 27)]) ⟨hx, hb, hml, hown, hts⟩ hK hP hA hS hZ (c_X4_freshness_2 l D cI cL ad zz hJ σ40 τ x3 (x3.toInt) rfl x39 (x39.toInt) rfl (by omega)) cw_RX5_45 (jc_2 cI cL ad σ40 τ) rfl ⟨Nat.le_of_ble_eq_true rfl, Nat.le_of_ble_eq_true rfl⟩ rfl rfl rfl hl.1 rfl (Nat.le_of_ble_eq_true rfl) dX5_lay_70 ⟨Nat.zero_le _, Nat.zero_le _⟩ (fun r57 σ56 τ56 H locs h56 hP hS => ?_)
                             exact by
                              obtain ⟨⟨rfl, rfl⟩, w58, h56⟩ := h56
                              have g59 := jrg (rfl : r32.toInt = r32.toInt)
                              have g60 := jrg (rfl : r57.toInt = r57.toInt)
                              refine lv_imul hx hb dX5_lay_73 ?_
                              refine lv_topi (fun x61 ex61 => ?_)
                              have gx61 := jrg (rfl : x61.toInt = x61.toInt)
                              refine lv_bipush (v := 100) hx hb dX5_lay_74 (of_decide_eq_true rfl) ?_
                              refine lv_idiv hx hb dX5_lay_76 (of_decide_eq_true rfl) ?_
                              refine lv_topi (fun x62 ex62 => ?_)
                              have gx62 := jrg (rfl : x62.toInt = x62.toInt)
                              exact by
                               refine jast hx hb hK hP hJ hA hS (jc_27 cI cL ad σ40 τ) (ja_27 cI cL ad σ40 τ _ _) (jin tx55 (by omega) (by omega)) dX5_lay_77 (fun σ63 H locs eσ63 hP hS => ?_)
                               refine lv_aload_n hx hb dX5_lay_78 rfl (lv_at hl 5 rfl) ?_
                               refine va_get (D := D) hx hb hts inlX5 hown hK hP 26 (jc_26 cI cL ad σ63 τ) rfl 3 (of_decide_eq_true rfl) (hts _ kw_4_17) (fun _ h9 => h9) rfl dX5_lay_79 ?_
                               refine lv_iload_n hx hb dX5_lay_82 rfl (lv_at hl 4 rfl) ?_
                               refine lv_iconst (v := 4) hx hb dX5_lay_83 (of_decide_eq_true rfl) ?_
                               refine lv_imul hx hb dX5_lay_84 ?_
                               refine lv_topi (fun x64 ex64 => ?_)
                               have tx64 : x64.toInt = 4 * x3.toInt := (jmul ex64 rfl jz_4 (by omega) (by omega)).trans (by omega)
                               refine lv_iload_n hx hb dX5_lay_85 rfl (lv_at hl 3 rfl) ?_
                               exact by
                                refine lv_iadd hx hb dX5_lay_86 ?_
                                refine lv_topi (fun x65 ex65 => ?_)
                                have tx65 : x65.toInt = 4 * x3.toInt + x18.toInt := (jadd ex65 tx64 rfl (by omega) (by omega)).trans (by omega)
                                refine lv_iconst (v := 4) hx hb dX5_lay_87 (of_decide_eq_true rfl) ?_
                                refine lv_imul hx hb dX5_lay_88 ?_
                                refine lv_topi (fun x66 ex66 => ?_)
                                have tx66 : x66.toInt = 16 * x3.toInt + 4 * x18.toInt := (jmul ex66 tx65 jz_4 (by omega) (by omega)).trans (by omega)
                                refine lv_iload hx hb dX5_lay_89 (lv_at hl 0 rfl) ?_
                                refine lv_iadd hx hb dX5_lay_91 ?_
                                exact by
                                 refine lv_topi (fun x67 ex67 => ?_)
                                 have tx67 : x67.toInt = 16 * x3.toInt + 4 * x18.toInt + x39.toInt := (jadd ex67 tx66 rfl (by omega) (by omega)).trans (by omega)
                                 refine lv_iconst (v := 0) hx hb dX5_lay_92 (of_decide_eq_true rfl) ?_
                                 refine lv_iload hx hb dX5_lay_93 (lv_at hl 1 rfl) ?_
                                 refine lv_iload hx hb dX5_lay_95 (lv_at hl 0 rfl) ?_
                                 have g68 := jrg (rfl : r35.toInt = r35.toInt)
                                 refine lv_iadd hx hb dX5_lay_97 ?_
                                 refine lv_topi (fun x69 ex69 => ?_)
                                 have gx69 := jrg (rfl : x69.toInt = x69.toInt)
                                 exact by
                                  refine va_mmax hx hb (hml.trans hl.1.symm) hown (hts _ kw_20_23) (hts _ kw_21_0) (hts _ kw_21_1) (hts _ kw_21_2) (Nat.le_of_ble_eq_true rfl) (Nat.le_of_ble_eq_true rfl) (Nat.le_of_ble_eq_true rfl) (Nat.le_of_ble_eq_true rfl) dX5_lay_98 ?_
                                  refine lv_topi (fun x70 ex70 => ?_)
                                  have g71 := jmax ex70 jz_0 rfl
                                  refine jast hx hb hK hP hJ hA hS (jc_28 cI cL ad σ63 τ) (ja_28 cI cL ad σ63 τ _ _) (jin tx67 (by omega) (by omega)) dX5_lay_101 (fun σ72 H locs eσ72 hP hS => ?_)
                                  obtain ⟨x73, ex73⟩ : ∃ y : Int32, y = x39 + 1 := ⟨_, rfl⟩
                                  have tx73 : x73.toInt = x39.toInt + 1 := (jadd ex73 rfl jz_1 (by omega) (by omega)).trans (by omega)
                                  refine lv_iinc (v := x73) (lv' := [(6, .int x73), (5, .int r35), (4, .int r32), (3, .int x18), (2, .int x3), (0, .ref (ad 26)), (1, .int a1)]) hx hb dX5_lay_102 hl (k := 0) rfl (by rw [ex73]; rfl) (of_decide_eq_true rfl) rfl (fun ls hl => ?_)
                                  refine lv_goto (tgt := 41) hx hb dX5_lay_105 (of_decide_eq_true rfl) ?_
                                  exact by exact ihlp37 x73 σ72 _ _ ls (by have h90 := tx73; omega) (by have h90 := tx73; omega) (by have h90 := tx73; omega) (fun i hi => ((jnp i eσ72 (imp_70 i hi)).trans ((jnp i eσ63 (imp_71 i hi)).trans (f45 i hi))))   (q46.step (x := x62) (y := x70) (e := r32) (m := r35) (fr := r57) (K := x39) (by rw [eσ72, jup_n (of_decide_eq_true rfl), eσ63, jup_row, jnc (show x55.toInt = 16 * x3.toInt + 4 * x18.toInt + x39.toInt by have h9 := tx55; omega)]) (by rw [eσ72, jup_row, eσ63, jup_n (of_decide_eq_true rfl), jnc (show x67.toInt = 16 * x3.toInt + 4 * x18.toInt + x39.toInt by have h9 := tx67; omega)]) (show 16 * x3.toInt + 4 * x18.toInt + x39.toInt = 16 * x3.toInt + 4 * x18.toInt + x39.toInt from by omega) (by omega) ⟨by omega, by omega⟩ ⟨by omega, by omega⟩ (by have w := w33; rw [show σ22 3 = σ 3 from ((f27 3 (of_decide_eq_true rfl)).trans (f13 3 (of_decide_eq_true rfl)))] at w; exact w) (by have w := w36; rw [show σ22 3 = σ 3 from ((f27 3 (of_decide_eq_true rfl)).trans (f13 3 (of_decide_eq_true rfl))), show σ22 5 = σ 5 from ((f27 5 (of_decide_eq_true rfl)).trans (f13 5 (of_decide_eq_true rfl)))] at w; exact w) (by have w := w58; rw [show σ40 4 = σ 4 from ((f45 4 (of_decide_eq_true rfl)).trans ((f27 4 (of_decide_eq_true rfl)).trans (f13 4 (of_decide_eq_true rfl))))] at w; exact w) rfl (by rw [ex62, ex61]) (by rw [show r35 + x39 = x69 from ex69.symm]; exact Int32.toInt_inj.mp (by split <;> first | (rw [jz_0]; omega) | omega)) (by have h9 := tx73; omega)) hP hS (lv_sub hl [0, 1, 2, 3, 4, 5, 6] rfl)
                   exact by exact lp37 1000000 0 σ22 _ _ ls (by have h90 := jz_0; omega) (by have h90 := jz_0; omega) (by have h90 := jz_0; omega) (fun _ _ => rfl)  (q28.n (by have h9 := jz_0; omega)) hP hS hl
         exact by exact lp16 1000000 0 σ8 _ _ ls (by have h90 := jz_0; omega) (by have h90 := jz_0; omega) (by have h90 := jz_0; omega) (fun _ _ => rfl)  (q14.n (by have h9 := jz_0; omega)) hP hS hl
  exact by exact lp1 1000000 0 σ _ _ ls (by have h90 := jz_0; omega) (by have h90 := jz_0; omega) (by have h90 := jz_0; omega) (fun _ _ => rfl)  (jLd.first (by have h9 := jz_0; omega)) hP hS hl
set_option maxHeartbeats 4000000 in
set_option maxRecDepth 100000 in
theorem c_X5_forget_26 (l : Launch) (D : va_G) (cI cL : ClassId) (ad zz : Nat → Nat) (hJ : jD ad) (σ : Nat → Nat → Int32) (τ : Nat → Nat → Int64) (hI26 : jI26 σ) (hp0 : (σ 26 6).toInt ≤ 7999) : jMv l yX5_forget cX5_forget 2 none ({ frames := 1, cells := 0, slots := 0, locals := 21 }) D cI cL ad zz [.ref (ad 26)] σ τ (fun σ' τ' => τ = τ' ∧ (∀ i : Nat, (i < 26 ∨ 26 < i) → σ' i = σ i) ∧ (∀ k : Nat, (k < 6 ∨ 6 < k) ∧ (k < 7 ∨ 7 < k) → σ' 26 k = σ 26 k) ∧ (jI26 σ') ∧ (jAskn (σ' 26 7) (σ 22 1) 6) ∧ ((σ' 26 6).toInt = (σ 26 6).toInt + 1) ∧ True) := by
  refine jMv.of hJ (by decide +kernel) rfl (Nat.le_of_ble_eq_true rfl) ?_
  intro p e s m args below meth c Q ls hC hret hl hP
  obtain ⟨hx, hb, hr, hml, hown, hts, hK, -, hlocks, hZ⟩ := hC
  have hown : s.vm.findClass RX5 = some m.cls := hown
  have hS : va_S (jA ad) s.heap s.heap [] := va_S.rf
  have hA : ∀ q, jA ad q → jA ad q := fun _ h => h
  have hl : lv_has ls 2 [(0, .ref (ad 26))] := hl
  have i1 : 1 ≤ (σ 26 6).toInt ∧ (σ 26 6).toInt ≤ 8000 := hI26
  refine lv_aload_n hx hb dX5_forget_0 rfl (lv_at hl 0 rfl) ?_
  refine lv_dup hx hb dX5_forget_1 rfl ?_
  refine va_get (D := D) hx hb hts inlX5 hown hK hP 26 (jc_26 cI cL ad σ τ) rfl 6 (of_decide_eq_true rfl) (hts _ kw_4_20) (fun _ h9 => h9) rfl dX5_forget_2 ?_
  refine lv_iconst (v := 1) hx hb dX5_forget_5 (of_decide_eq_true rfl) ?_
  have g2 := jrg (rfl : (σ 26 6).toInt = (σ 26 6).toInt)
  refine lv_iadd hx hb dX5_forget_6 ?_
  refine lv_topi (fun x3 ex3 => ?_)
  exact by
   have tx3 : x3.toInt = (σ 26 6).toInt + 1 := (jadd ex3 rfl jz_1 (by omega) (by omega)).trans (by omega)
   refine jput (ty := .int) hx hb hts inlX5 tyX5 tyX5_ok nmX5 hown hK hP hJ hA hS (jc_26 cI cL ad σ τ) rfl (k := 6) (of_decide_eq_true rfl) (Nat.le_of_ble_eq_true rfl) (jp_26_6 cI cL ad σ τ x3) (hts _ kw_4_20) (fun _ h9 => h9) rfl (by decide +kernel) rfl rfl dX5_forget_7 (fun σ4 H locs eσ4 hP hS => ?_)
   refine lv_aload_n hx hb dX5_forget_10 rfl (lv_at hl 0 rfl) ?_
   refine lv_iconst (v := 0) hx hb dX5_forget_11 (of_decide_eq_true rfl) ?_
   refine jput (ty := .int) hx hb hts inlX5 tyX5 tyX5_ok nmX5 hown hK hP hJ hA hS (jc_26 cI cL ad σ4 τ) rfl (k := 7) (of_decide_eq_true rfl) (Nat.le_of_ble_eq_true rfl) (jp_26_7 cI cL ad σ4 τ 0) (hts _ kw_18_7) (fun _ h9 => h9) rfl (by decide +kernel) rfl rfl dX5_forget_12 (fun σ5 H locs eσ5 hP hS => ?_)
   refine lv_iconst (v := 0) hx hb dX5_forget_15 (of_decide_eq_true rfl) ?_
   refine lv_istore_n (lv' := [(1, .int 0), (0, .ref (ad 26))]) hx hb dX5_forget_16 rfl hl (of_decide_eq_true rfl) rfl (fun ls hl => ?_)
   have lp6 : ∀ (n7 : Nat) (x8 : Int32) (σ9 : Nat → Nat → Int32) (H : Heap) (locs : List Loc) (ls : Array Slot), (-x8.toInt + 6 : Int) < n7 → 0 ≤ x8.toInt → x8.toInt ≤ 6 → (∀ i : Nat, (i < 26 ∨ 26 < i) → σ9 i = σ5 i) → (∀ k : Nat, (k < 7 ∨ 7 < k) → σ9 26 k = σ5 26 k) → (jAskn (σ9 26 7) (σ 22 1) (x8.toInt)) → jH D cI cL ad σ9 τ H → va_S (jA ad) s.heap H locs → lv_has ls 2 [(1, .int x8), (0, .ref (ad 26))] → W p l e ({ frames := 1, cells := 0, slots := 0, locals := 21 }) s m args below meth c H locs 0 0 Q (F0 m 17 ls []) := by
     intro n7
     induction n7 with
     | zero => intro x8 σ9 H locs ls h11 h12 h13; exact absurd h11 (by omega)
     | succ n7 ihlp6 =>
       intro x8 σ9 H locs ls h11 h12 h13 f14 f15 q16 hP hS hl
       exact by
        refine lv_iload_n hx hb dX5_forget_17 rfl (lv_at hl 0 rfl) ?_
        refine va_gets hx hb hZ.1.1 hS hown (hts _ kw_18_8) (fun _ h9 => h9) dX5_forget_18 ?_
        refine va_tlen (v := 6) hx hb hZ.1.2 hS (of_decide_eq_true rfl) dX5_forget_21 ?_
        refine lv_icmp_ge (tgt := 56) hx hb dX5_forget_22 (of_decide_eq_true rfl) (fun c17 => ?_) (fun c17 => ?_)
        · have kc17 := jle c17 jz_6 rfl
          have z18 : (σ9 26 6).toInt = (σ 26 6).toInt + 1 := ((congrArg Int32.toInt (show σ9 26 6 = x3 from ((f15 6 (of_decide_eq_true rfl)).trans ((jkp 6 eσ5 (of_decide_eq_true rfl)).trans (jsp eσ4))))).trans tx3)
          have I19 : jI26 σ9 := (show 1 ≤ (σ9 26 6).toInt ∧ (σ9 26 6).toInt ≤ 8000 by omega)
          exact by exact hret σ9 τ _ _ _ _ ⟨rfl, (fun i hi => ((f14 i hi).trans ((jnp i eσ5 (imp_72 i hi)).trans (jnp i eσ4 (imp_72 i hi))))), (fun i hi => ((f15 i (imp_73 i hi)).trans ((jkp i eσ5 (imp_74 i hi)).trans (jkp i eσ4 (imp_75 i hi))))), I19, (by rw [show (6 : Int) = x8.toInt by omega]; exact q16), (by omega), trivial⟩ hP hS dX5_forget_56
        · have kc17 := jnle c17 jz_6 rfl
          refine lv_aload_n hx hb dX5_forget_25 rfl (lv_at hl 1 rfl) ?_
          refine va_get (D := D) hx hb hts inlX5 hown hK hP 26 (jc_26 cI cL ad σ9 τ) rfl 0 (of_decide_eq_true rfl) (hts _ kw_4_22) (fun _ h9 => h9) rfl dX5_forget_26 ?_
          refine lv_iload_n hx hb dX5_forget_29 rfl (lv_at hl 0 rfl) ?_
          exact by
           refine jcallV (As := [.int x8]) (rest := []) ⟨hx, hb, hml, hown, hts⟩ hK hP hA hS hZ (c_X10_uses_22 l D cI cL ad zz hJ σ9 τ x8 (x8.toInt) rfl (by omega)) cw_RX5_60 (jc_22 cI cL ad σ9 τ) rfl ⟨Nat.le_of_ble_eq_true rfl, Nat.le_of_ble_eq_true rfl⟩ rfl rfl rfl hl.1 rfl (Nat.le_of_ble_eq_true rfl) dX5_forget_30 ⟨Nat.zero_le _, Nat.zero_le _⟩ (fun r21 σ20 τ20 H locs h20 hP hS => ?_)
           obtain ⟨⟨rfl, rfl⟩, w22, h20⟩ := h20
           rcases h20 with h23 | h24
           · obtain ⟨q26, k25⟩ := h23
             have q26 := q26.symm
             subst q26
             refine lv_if_eq (tgt := 50) hx hb dX5_forget_33 (of_decide_eq_true rfl) (fun c => absurd c (of_decide_eq_true rfl)) (fun _ => ?_)
             refine lv_aload_n hx hb dX5_forget_36 rfl (lv_at hl 1 rfl) ?_
             refine lv_dup hx hb dX5_forget_37 rfl ?_
             refine va_get (D := D) hx hb hts inlX5 hown hK hP 26 (jc_26 cI cL ad σ9 τ) rfl 7 (of_decide_eq_true rfl) (hts _ kw_18_7) (fun _ h9 => h9) rfl dX5_forget_38 ?_
             refine va_gets hx hb hZ.1.1 hS hown (hts _ kw_18_8) (fun _ h9 => h9) dX5_forget_41 ?_
             refine lv_iload_n hx hb dX5_forget_44 rfl (lv_at hl 0 rfl) ?_
             exact by
              refine va_ti (v := .int (js0 x8.toNatClampNeg)) hx hb hZ.1.2 hS (jin rfl (by omega) (by omega)) rfl dX5_forget_45 ?_
              have g28 := js0_r x8.toNatClampNeg
              refine lv_topi (fun x27 ex27 => ?_)
              rw [← ex27] at g28
              refine lv_ior hx hb dX5_forget_46 ?_
              refine lv_topi (fun x29 ex29 => ?_)
              have gx29 := jrg (rfl : x29.toInt = x29.toInt)
              refine jput (ty := .int) hx hb hts inlX5 tyX5 tyX5_ok nmX5 hown hK hP hJ hA hS (jc_26 cI cL ad σ9 τ) rfl (k := 7) (of_decide_eq_true rfl) (Nat.le_of_ble_eq_true rfl) (jp_26_7 cI cL ad σ9 τ x29) (hts _ kw_18_7) (fun _ h9 => h9) rfl (by decide +kernel) rfl rfl dX5_forget_47 (fun σ30 H locs eσ30 hP hS => ?_)
              obtain ⟨x31, ex31⟩ : ∃ y : Int32, y = x8 + 1 := ⟨_, rfl⟩
              exact by
               have tx31 : x31.toInt = x8.toInt + 1 := (jadd ex31 rfl jz_1 (by omega) (by omega)).trans (by omega)
               refine lv_iinc (v := x31) (lv' := [(1, .int x31), (0, .ref (ad 26))]) hx hb dX5_forget_50 hl (k := 0) rfl (by rw [ex31]; rfl) (of_decide_eq_true rfl) rfl (fun ls hl => ?_)
               refine lv_goto (tgt := 17) hx hb dX5_forget_53 (of_decide_eq_true rfl) ?_
               have k32 := w22
               rw [show σ9 22 1 = σ 22 1 from ((congrFun (f14 22 (of_decide_eq_true rfl)) 1).trans ((congrFun (jnp 22 eσ5 (of_decide_eq_true rfl)) 1).trans (congrFun (jnp 22 eσ4 (of_decide_eq_true rfl)) 1)))] at k32
               exact by exact ihlp6 x31 σ30 _ _ ls (by have h90 := tx31; omega) (by have h90 := tx31; omega) (by have h90 := tx31; omega) (fun i hi => ((jnp i eσ30 (imp_72 i hi)).trans (f14 i hi))) (fun i hi => ((jkp i eσ30 (imp_76 i hi)).trans (f15 i hi)))  (q16.step (by omega) (by omega) (Or.inl (by rw [show σ30 26 7 = x29 from (jsp eσ30), ex29, ex27, jnc (rfl : x8.toInt = x8.toInt)])) (by have h9 := tx31; omega)) hP hS (lv_sub hl [0, 1] rfl)
           · obtain ⟨q34, k33⟩ := h24
             have q34 := q34.symm
             subst q34
             exact by
              refine lv_if_eq (tgt := 50) hx hb dX5_forget_33 (of_decide_eq_true rfl) (fun _ => ?_) (fun c => absurd (of_decide_eq_true rfl) c)
              obtain ⟨x35, ex35⟩ : ∃ y : Int32, y = x8 + 1 := ⟨_, rfl⟩
              have tx35 : x35.toInt = x8.toInt + 1 := (jadd ex35 rfl jz_1 (by omega) (by omega)).trans (by omega)
              refine lv_iinc (v := x35) (lv' := [(1, .int x35), (0, .ref (ad 26))]) hx hb dX5_forget_50 hl (k := 0) rfl (by rw [ex35]; rfl) (of_decide_eq_true rfl) rfl (fun ls hl => ?_)
              refine lv_goto (tgt := 17) hx hb dX5_forget_53 (of_decide_eq_true rfl) ?_
              have k36 := w22
              rw [show σ9 22 1 = σ 22 1 from ((congrFun (f14 22 (of_decide_eq_true rfl)) 1).trans ((congrFun (jnp 22 eσ5 (of_decide_eq_true rfl)) 1).trans (congrFun (jnp 22 eσ4 (of_decide_eq_true rfl)) 1)))] at k36
              exact by exact ihlp6 x35 σ9 _ _ ls (by have h90 := tx35; omega) (by have h90 := tx35; omega) (by have h90 := tx35; omega) (fun i hi => (f14 i hi)) (fun i hi => (f15 i hi))  (q16.step (by omega) (by omega) (Or.inr ⟨rfl, fun w => absurd ((k36).mpr w) (by first | decide | (omega))⟩) (by have h9 := tx35; omega)) hP hS (lv_sub hl [0, 1] rfl)
   exact by exact lp6 1000000 0 σ5 _ _ ls (by have h90 := jz_0; omega) (by have h90 := jz_0; omega) (by have h90 := jz_0; omega) (fun _ _ => rfl) (fun _ _ => rfl)  (jAskn.first (by have h9 := jz_0; omega)) hP hS hl
set_option maxHeartbeats 4000000 in
set_option maxRecDepth 100000 in
theorem c_X5_runsOf_26 (l : Launch) (D : va_G) (cI cL : ClassId) (ad zz : Nat → Nat) (hJ : jD ad) (σ : Nat → Nat → Int32) (τ : Nat → Nat → Int64) (a1 : Int32) (A1 : Int) (t1 : a1.toInt = A1) (a2 : Int32) (A2 : Int) (t2 : a2.toInt = A2) (a3 : Int32) (A3 : Int) (t3 : a3.toInt = A3) (hp0 : (-1) ≤ A1 ∧ A1 ≤ 3) (hp1 : 0 ≤ A2 ∧ A2 ≤ 3) (hp2 : 0 ≤ A3 ∧ A3 ≤ 3) : jM l yX5_runsOf cX5_runsOf 5 (some .int) ({ frames := 0, cells := 0, slots := 0, locals := 0 }) D cI cL ad zz [.ref (ad 26), .int a1, .int a2, .int a3] σ τ (fun r σ' τ' => (σ = σ' ∧ τ = τ') ∧ ((0 ≤ A1 → r = σ 28 (16 * (A1) + 4 * (A2) + (A3)).toNat)) ∧ True) := by
  refine jM.of hJ (by decide +kernel) (nt := .int) rfl (Nat.le_of_ble_eq_true rfl) ?_
  intro p e s m args below meth c Q ls hC hret hl hP
  obtain ⟨hx, hb, hr, hml, hown, hts, hK, -, hlocks, hZ⟩ := hC
  have hown : s.vm.findClass RX5 = some m.cls := hown
  have hS : va_S (jA ad) s.heap s.heap [] := va_S.rf
  have hA : ∀ q, jA ad q → jA ad q := fun _ h => h
  have hl : lv_has ls 5 [(0, .ref (ad 26)), (1, .int a1), (2, .int a2), (3, .int a3)] := hl
  have g1 := jrg t1
  have g2 := jrg t2
  have g3 := jrg t3
  refine lv_iload_n hx hb dX5_runsOf_0 rfl (lv_at hl 1 rfl) ?_
  refine lv_iconst (v := 4) hx hb dX5_runsOf_1 (of_decide_eq_true rfl) ?_
  refine lv_imul hx hb dX5_runsOf_2 ?_
  refine lv_topi (fun x1 ex1 => ?_)
  exact by
   have tx1 : x1.toInt = 4 * A1 := (jmul ex1 t1 jz_4 (by omega) (by omega)).trans (by omega)
   refine lv_iload_n hx hb dX5_runsOf_3 rfl (lv_at hl 2 rfl) ?_
   refine lv_iadd hx hb dX5_runsOf_4 ?_
   refine lv_topi (fun x2 ex2 => ?_)
   have tx2 : x2.toInt = 4 * A1 + A2 := (jadd ex2 tx1 t2 (by omega) (by omega)).trans (by omega)
   refine lv_iconst (v := 4) hx hb dX5_runsOf_5 (of_decide_eq_true rfl) ?_
   refine lv_imul hx hb dX5_runsOf_6 ?_
   refine lv_topi (fun x3 ex3 => ?_)
   have tx3 : x3.toInt = 16 * A1 + 4 * A2 := (jmul ex3 tx2 jz_4 (by omega) (by omega)).trans (by omega)
   exact by
    refine lv_iload_n hx hb dX5_runsOf_7 rfl (lv_at hl 3 rfl) ?_
    refine lv_iadd hx hb dX5_runsOf_8 ?_
    refine lv_topi (fun x4 ex4 => ?_)
    have tx4 : x4.toInt = 16 * A1 + 4 * A2 + A3 := (jadd ex4 tx3 t3 (by omega) (by omega)).trans (by omega)
    refine lv_istore (lv' := [(4, .int x4), (0, .ref (ad 26)), (1, .int a1), (2, .int a2), (3, .int a3)]) hx hb dX5_runsOf_9 hl (of_decide_eq_true rfl) rfl (fun ls hl => ?_)
    refine lv_iload hx hb dX5_runsOf_11 (lv_at hl 0 rfl) ?_
    refine lv_if_lt (tgt := 23) hx hb dX5_runsOf_13 (of_decide_eq_true rfl) (fun c5 => ?_) (fun c5 => ?_)
    · have kc5 := jlt c5 tx4 jz_0
      refine lv_iconst (v := 0) hx hb dX5_runsOf_23 (of_decide_eq_true rfl) ?_
      exact by
       refine lv_goto (tgt := 34) hx hb dX5_runsOf_24 (of_decide_eq_true rfl) ?_
       exact hret 0 σ τ _ _ _ _ rfl ⟨⟨rfl, rfl⟩, (fun h8 => False.elim (by omega)), trivial⟩ hP hS dX5_runsOf_34
    · have kc5 := jnlt c5 tx4 jz_0
      refine lv_iload hx hb dX5_runsOf_16 (lv_at hl 0 rfl) ?_
      refine lv_bipush (v := 64) hx hb dX5_runsOf_18 (of_decide_eq_true rfl) ?_
      refine lv_icmp_lt (tgt := 27) hx hb dX5_runsOf_20 (of_decide_eq_true rfl) (fun c6 => ?_) (fun c => absurd (jnlt c tx4 jz_64) (by omega))
      have kc6 := jlt c6 tx4 jz_64
      refine lv_aload_n hx hb dX5_runsOf_27 rfl (lv_at hl 1 rfl) ?_
      refine va_get (D := D) hx hb hts inlX5 hown hK hP 26 (jc_26 cI cL ad σ τ) rfl 3 (of_decide_eq_true rfl) (hts _ kw_4_17) (fun _ h9 => h9) rfl dX5_runsOf_28 ?_
      exact by
       refine lv_iload hx hb dX5_runsOf_31 (lv_at hl 0 rfl) ?_
       refine jald hx hb hK hP (jc_28 cI cL ad σ τ) (jin tx4 (by omega) (by omega)) dX5_runsOf_33 ?_
       refine jtopr (y := (σ 28 x4.toNatClampNeg)) rfl ?_
       exact hret (σ 28 x4.toNatClampNeg) σ τ _ _ _ _ rfl ⟨⟨rfl, rfl⟩, (fun _ => by rw [jnc (show x4.toInt = (16 * (A1) + 4 * (A2) + (A3)) by omega)]), trivial⟩ hP hS dX5_runsOf_34
set_option maxHeartbeats 4000000 in
set_option maxRecDepth 100000 in
theorem c_X5_outOf_26 (l : Launch) (D : va_G) (cI cL : ClassId) (ad zz : Nat → Nat) (hJ : jD ad) (σ : Nat → Nat → Int32) (τ : Nat → Nat → Int64) (a1 : Int32) (A1 : Int) (t1 : a1.toInt = A1) (a2 : Int32) (A2 : Int) (t2 : a2.toInt = A2) (a3 : Int32) (A3 : Int) (t3 : a3.toInt = A3) (a4 : Int32) (A4 : Int) (t4 : a4.toInt = A4) (a5 : Int32) (A5 : Int) (t5 : a5.toInt = A5) (a6 : Int32) (A6 : Int) (t6 : a6.toInt = A6) (hI22 : jI22 σ) (hI26 : jI26 σ) (hs_jN67 : jN67 σ) (hs_jBl : jBl σ) (hp0 : (-1) ≤ A1 ∧ A1 ≤ 3) (hp1 : 0 ≤ A2 ∧ A2 ≤ 3) (hp2 : 0 ≤ A3 ∧ A3 ≤ 3) (hp3 : (-16) ≤ A4 ∧ A4 ≤ 15) (hp4 : 0 ≤ A5 ∧ A5 ≤ 15) (hp5 : 0 ≤ A6 ∧ A6 ≤ 15) : jM l yX5_outOf cX5_outOf 11 (some .int) ({ frames := 2, cells := 0, slots := 0, locals := 46 }) D cI cL ad zz [.ref (ad 26), .int a1, .int a2, .int a3, .int a4, .int a5, .int a6] σ τ (fun r σ' τ' => τ = τ' ∧ (∀ i : Nat, (i < 24 ∨ 25 < i) ∧ (i < 29 ∨ 30 < i) → σ' i = σ i) ∧ (jN67 σ') ∧ (jBl σ') ∧ ((0 ≤ A1 → r = jClp (σ 27 (16 * (A1) + 4 * (A2) + (A3)).toNat + jGb σ (jN6 a4 (jwd (16 * (A1) + 4 * (A2) + (A3))) a5 a6)))) ∧ True) := by
  refine jM.of hJ (by decide +kernel) (nt := .int) rfl (Nat.le_of_ble_eq_true rfl) ?_
  intro p e s m args below meth c Q ls hC hret hl hP
  obtain ⟨hx, hb, hr, hml, hown, hts, hK, -, hlocks, hZ⟩ := hC
  have hown : s.vm.findClass RX5 = some m.cls := hown
  have hS : va_S (jA ad) s.heap s.heap [] := va_S.rf
  have hA : ∀ q, jA ad q → jA ad q := fun _ h => h
  have hl : lv_has ls 11 [(0, .ref (ad 26)), (1, .int a1), (2, .int a2), (3, .int a3), (4, .int a4), (5, .int a5), (6, .int a6)] := hl
  have g1 := jrg t1
  have g2 := jrg t2
  have g3 := jrg t3
  have g4 := jrg t4
  have g5 := jrg t5
  have g6 := jrg t6
  obtain ⟨i1, w2⟩ : (0 ≤ (σ 22 0).toInt ∧ (σ 22 0).toInt ≤ 160) ∧ (∀ k : Nat, k < 160 → 0 ≤ (σ 23 k).toInt ∧ (σ 23 k).toInt ≤ 30000) := id hI22
  have i3 : 1 ≤ (σ 26 6).toInt ∧ (σ 26 6).toInt ≤ 8000 := hI26
  refine lv_iload_n hx hb dX5_outOf_0 rfl (lv_at hl 1 rfl) ?_
  refine lv_iconst (v := 4) hx hb dX5_outOf_1 (of_decide_eq_true rfl) ?_
  refine lv_imul hx hb dX5_outOf_2 ?_
  refine lv_topi (fun x4 ex4 => ?_)
  exact by
   have tx4 : x4.toInt = 4 * A1 := (jmul ex4 t1 jz_4 (by omega) (by omega)).trans (by omega)
   refine lv_iload_n hx hb dX5_outOf_3 rfl (lv_at hl 2 rfl) ?_
   refine lv_iadd hx hb dX5_outOf_4 ?_
   refine lv_topi (fun x5 ex5 => ?_)
   have tx5 : x5.toInt = 4 * A1 + A2 := (jadd ex5 tx4 t2 (by omega) (by omega)).trans (by omega)
   refine lv_iconst (v := 4) hx hb dX5_outOf_5 (of_decide_eq_true rfl) ?_
   refine lv_imul hx hb dX5_outOf_6 ?_
   refine lv_topi (fun x6 ex6 => ?_)
   have tx6 : x6.toInt = 16 * A1 + 4 * A2 := (jmul ex6 tx5 jz_4 (by omega) (by omega)).trans (by omega)
   exact by
    refine lv_iload_n hx hb dX5_outOf_7 rfl (lv_at hl 3 rfl) ?_
    refine lv_iadd hx hb dX5_outOf_8 ?_
    refine lv_topi (fun x7 ex7 => ?_)
    have tx7 : x7.toInt = 16 * A1 + 4 * A2 + A3 := (jadd ex7 tx6 t3 (by omega) (by omega)).trans (by omega)
    refine lv_istore (lv' := [(7, .int x7), (0, .ref (ad 26)), (1, .int a1), (2, .int a2), (3, .int a3), (4, .int a4), (5, .int a5), (6, .int a6)]) hx hb dX5_outOf_9 hl (of_decide_eq_true rfl) rfl (fun ls hl => ?_)
    refine lv_iload hx hb dX5_outOf_11 (lv_at hl 0 rfl) ?_
    refine lv_if_lt (tgt := 23) hx hb dX5_outOf_13 (of_decide_eq_true rfl) (fun c8 => ?_) (fun c8 => ?_)
    · have kc8 := jlt c8 tx7 jz_0
      refine lv_iconst (v := 0) hx hb dX5_outOf_23 (of_decide_eq_true rfl) ?_
      exact hret 0 σ τ _ _ _ _ rfl ⟨rfl, (fun _ _ => rfl), hs_jN67, hs_jBl, (fun h8 => False.elim (by omega)), trivial⟩ hP hS dX5_outOf_24
    · exact by
       have kc8 := jnlt c8 tx7 jz_0
       refine lv_iload hx hb dX5_outOf_16 (lv_at hl 0 rfl) ?_
       refine lv_bipush (v := 64) hx hb dX5_outOf_18 (of_decide_eq_true rfl) ?_
       refine lv_icmp_lt (tgt := 25) hx hb dX5_outOf_20 (of_decide_eq_true rfl) (fun c9 => ?_) (fun c => absurd (jnlt c tx7 jz_64) (by omega))
       have kc9 := jlt c9 tx7 jz_64
       refine lv_aload_n hx hb dX5_outOf_25 rfl (lv_at hl 1 rfl) ?_
       refine va_get (D := D) hx hb hts inlX5 hown hK hP 26 (jc_26 cI cL ad σ τ) rfl 2 (of_decide_eq_true rfl) (hts _ kw_4_16) (fun _ h9 => h9) rfl dX5_outOf_26 ?_
       refine lv_iload hx hb dX5_outOf_29 (lv_at hl 0 rfl) ?_
       refine jald hx hb hK hP (jc_27 cI cL ad σ τ) (jin tx7 (by omega) (by omega)) dX5_outOf_31 ?_
       exact by
        refine jtopr (y := (σ 27 x7.toNatClampNeg)) rfl ?_
        refine lv_istore (lv' := [(8, .int (σ 27 x7.toNatClampNeg)), (7, .int x7), (0, .ref (ad 26)), (1, .int a1), (2, .int a2), (3, .int a3), (4, .int a4), (5, .int a5), (6, .int a6)]) hx hb dX5_outOf_32 hl (of_decide_eq_true rfl) rfl (fun ls hl => ?_)
        refine lv_aload_n hx hb dX5_outOf_34 rfl (lv_at hl 2 rfl) ?_
        refine va_get (D := D) hx hb hts inlX5 hown hK hP 26 (jc_26 cI cL ad σ τ) rfl 0 (of_decide_eq_true rfl) (hts _ kw_4_22) (fun _ h9 => h9) rfl dX5_outOf_35 ?_
        refine va_get (D := D) hx hb hts inlX10 hown hK hP 22 (jc_22 cI cL ad σ τ) rfl 0 (of_decide_eq_true rfl) (hts _ kw_22_8) (fun _ h9 => h9) rfl dX5_outOf_38 ?_
        refine lv_if_le (tgt := 160) hx hb dX5_outOf_41 (of_decide_eq_true rfl) (fun c10 => ?_) (fun c10 => ?_)
        · have kc10 := jle c10 rfl jz_0
          refine lv_iload hx hb dX5_outOf_160 (lv_at hl 0 rfl) ?_
          refine lv_if_ge (tgt := 169) hx hb dX5_outOf_162 (of_decide_eq_true rfl) (fun c11 => ?_) (fun c11 => ?_)
          · have kc11 := jle c11 jz_0 rfl
            refine lv_iload hx hb dX5_outOf_169 (lv_at hl 0 rfl) ?_
            refine lv_sipush (v := 1000) hx hb dX5_outOf_171 (of_decide_eq_true rfl) ?_
            refine va_mmin hx hb (hml.trans hl.1.symm) hown (hts _ kw_22_10) (hts _ kw_22_11) (hts _ kw_21_1) (hts _ kw_22_12) (Nat.le_of_ble_eq_true rfl) (Nat.le_of_ble_eq_true rfl) (Nat.le_of_ble_eq_true rfl) (Nat.le_of_ble_eq_true rfl) dX5_outOf_174 ?_
            refine lv_topi (fun x12 ex12 => ?_)
            have g13 := jmin ex12 rfl jz_1000
            exact by exact hret x12 σ τ _ _ _ _ rfl ⟨rfl, (fun _ _ => rfl), hs_jN67, hs_jBl, (fun _ => by rw [(show σ 27 (16 * (A1) + 4 * (A2) + (A3)).toNat + jGb σ (jN6 a4 (jwd (16 * (A1) + 4 * (A2) + (A3))) a5 a6) = (σ 27 x7.toNatClampNeg) from by rw [show jGb σ (jN6 a4 (jwd (16 * (A1) + 4 * (A2) + (A3))) a5 a6) = 0 from jGc_no (by omega), Int32.add_zero, jnc (show x7.toInt = (16 * (A1) + 4 * (A2) + (A3)) by omega)])]; exact jClp_m (c := 1000) (by omega) (of_decide_eq_true rfl) (by omega)), trivial⟩ hP hS dX5_outOf_177
          · have kc11 := jnle c11 jz_0 rfl
            refine lv_iconst (v := 0) hx hb dX5_outOf_165 (of_decide_eq_true rfl) ?_
            refine lv_goto (tgt := 177) hx hb dX5_outOf_166 (of_decide_eq_true rfl) ?_
            exact by exact hret 0 σ τ _ _ _ _ rfl ⟨rfl, (fun _ _ => rfl), hs_jN67, hs_jBl, (fun _ => by rw [(show σ 27 (16 * (A1) + 4 * (A2) + (A3)).toNat + jGb σ (jN6 a4 (jwd (16 * (A1) + 4 * (A2) + (A3))) a5 a6) = (σ 27 x7.toNatClampNeg) from by rw [show jGb σ (jN6 a4 (jwd (16 * (A1) + 4 * (A2) + (A3))) a5 a6) = 0 from jGc_no (by omega), Int32.add_zero, jnc (show x7.toInt = (16 * (A1) + 4 * (A2) + (A3)) by omega)])]; exact jClp_0 (by omega)), trivial⟩ hP hS dX5_outOf_177
        · have kc10 := jnle c10 rfl jz_0
          refine lv_aload_n hx hb dX5_outOf_44 rfl (lv_at hl 2 rfl) ?_
          refine va_get (D := D) hx hb hts inlX5 hown hK hP 26 (jc_26 cI cL ad σ τ) rfl 6 (of_decide_eq_true rfl) (hts _ kw_4_20) (fun _ h9 => h9) rfl dX5_outOf_45 ?_
          refine lv_bipush (v := 19) hx hb dX5_outOf_48 (of_decide_eq_true rfl) ?_
          refine lv_ishl hx hb dX5_outOf_50 ?_
          refine lv_topi (fun x14 ex14 => ?_)
          have gx14 := jrg (rfl : x14.toInt = x14.toInt)
          refine lv_iload hx hb dX5_outOf_51 (lv_at hl 6 rfl) ?_
          refine lv_bipush (v := 31) hx hb dX5_outOf_53 (of_decide_eq_true rfl) ?_
          refine lv_iand hx hb dX5_outOf_55 ?_
          refine lv_topi (fun x15 ex15 => ?_)
          have gx15 := jrg (rfl : x15.toInt = x15.toInt)
          have g16 : 0 ≤ x15.toInt ∧ x15.toInt ≤ 31 := jmask ex15 5 (of_decide_eq_true rfl) (of_decide_eq_true rfl)
          refine lv_bipush (v := 14) hx hb dX5_outOf_56 (of_decide_eq_true rfl) ?_
          refine lv_ishl hx hb dX5_outOf_58 ?_
          refine lv_topi (fun x17 ex17 => ?_)
          have gx17 := jrg (rfl : x17.toInt = x17.toInt)
          refine lv_iload hx hb dX5_outOf_59 (lv_at hl 1 rfl) ?_
          refine lv_bipush (v := 8) hx hb dX5_outOf_61 (of_decide_eq_true rfl) ?_
          refine lv_ishl hx hb dX5_outOf_63 ?_
          refine lv_topi (fun x18 ex18 => ?_)
          have gx18 := jrg (rfl : x18.toInt = x18.toInt)
          refine lv_ior hx hb dX5_outOf_64 ?_
          refine lv_topi (fun x19 ex19 => ?_)
          have gx19 := jrg (rfl : x19.toInt = x19.toInt)
          refine lv_iload hx hb dX5_outOf_65 (lv_at hl 7 rfl) ?_
          refine lv_bipush (v := 15) hx hb dX5_outOf_67 (of_decide_eq_true rfl) ?_
          refine lv_iand hx hb dX5_outOf_69 ?_
          refine lv_topi (fun x20 ex20 => ?_)
          have gx20 := jrg (rfl : x20.toInt = x20.toInt)
          have g21 : 0 ≤ x20.toInt ∧ x20.toInt ≤ 15 := jmask ex20 4 (of_decide_eq_true rfl) (of_decide_eq_true rfl)
          refine lv_iconst (v := 4) hx hb dX5_outOf_70 (of_decide_eq_true rfl) ?_
          refine lv_ishl hx hb dX5_outOf_71 ?_
          refine lv_topi (fun x22 ex22 => ?_)
          have gx22 := jrg (rfl : x22.toInt = x22.toInt)
          refine lv_ior hx hb dX5_outOf_72 ?_
          refine lv_topi (fun x23 ex23 => ?_)
          have gx23 := jrg (rfl : x23.toInt = x23.toInt)
          refine lv_iload hx hb dX5_outOf_73 (lv_at hl 8 rfl) ?_
          refine lv_bipush (v := 15) hx hb dX5_outOf_75 (of_decide_eq_true rfl) ?_
          refine lv_iand hx hb dX5_outOf_77 ?_
          refine lv_topi (fun x24 ex24 => ?_)
          have gx24 := jrg (rfl : x24.toInt = x24.toInt)
          have g25 : 0 ≤ x24.toInt ∧ x24.toInt ≤ 15 := jmask ex24 4 (of_decide_eq_true rfl) (of_decide_eq_true rfl)
          refine lv_ior hx hb dX5_outOf_78 ?_
          refine lv_topi (fun x26 ex26 => ?_)
          have gx26 := jrg (rfl : x26.toInt = x26.toInt)
          refine lv_aload_n hx hb dX5_outOf_79 rfl (lv_at hl 2 rfl) ?_
          refine va_get (D := D) hx hb hts inlX5 hown hK hP 26 (jc_26 cI cL ad σ τ) rfl 7 (of_decide_eq_true rfl) (hts _ kw_18_7) (fun _ h9 => h9) rfl dX5_outOf_80 ?_
          refine lv_iand hx hb dX5_outOf_83 ?_
          refine lv_topi (fun x27 ex27 => ?_)
          have gx27 := jrg (rfl : x27.toInt = x27.toInt)
          refine lv_ior hx hb dX5_outOf_84 ?_
          refine lv_topi (fun x28 ex28 => ?_)
          have gx28 := jrg (rfl : x28.toInt = x28.toInt)
          refine lv_istore (lv' := [(9, .int x28), (8, .int (σ 27 x7.toNatClampNeg)), (7, .int x7), (0, .ref (ad 26)), (1, .int a1), (2, .int a2), (3, .int a3), (4, .int a4), (5, .int a5), (6, .int a6)]) hx hb dX5_outOf_85 hl (of_decide_eq_true rfl) rfl (fun ls hl => ?_)
          refine lv_iload hx hb dX5_outOf_87 (lv_at hl 0 rfl) ?_
          refine lv_ldc (v := (-1640531527)) hx hb hown (hts _ kw_22_9) dX5_outOf_89 ?_
          have g29 := jrg (rfl : x28.toInt = x28.toInt)
          refine lv_imul hx hb dX5_outOf_91 ?_
          refine lv_topi (fun x30 ex30 => ?_)
          have gx30 := jrg (rfl : x30.toInt = x30.toInt)
          refine lv_bipush (v := 20) hx hb dX5_outOf_92 (of_decide_eq_true rfl) ?_
          refine lv_iushr hx hb dX5_outOf_94 rfl ?_
          refine lv_topi (fun x31 ex31 => ?_)
          have gx31 := jrg (rfl : x31.toInt = x31.toInt)
          have g32 : 0 ≤ x31.toInt ∧ x31.toInt ≤ 4095 := jushr20 ex31
          refine lv_istore (lv' := [(10, .int x31), (9, .int x28), (8, .int (σ 27 x7.toNatClampNeg)), (7, .int x7), (0, .ref (ad 26)), (1, .int a1), (2, .int a2), (3, .int a3), (4, .int a4), (5, .int a5), (6, .int a6)]) hx hb dX5_outOf_95 hl (of_decide_eq_true rfl) rfl (fun ls hl => ?_)
          have k33 : x28 = jKy (σ 26 6) (σ 26 7) a4 x7 a5 a6 := by rw [ex28, ex27, ex26, ex24, ex23, ex22, ex20, ex19, ex18, ex17, ex15, ex14]; rfl
          exact by
           have r34 : x7 = jwd (16 * (A1) + 4 * (A2) + (A3)) := jwd_of (by omega) (by omega) (by omega)
           have g35 : jRgo a4 x7 a5 a6 := ⟨⟨by omega, by omega⟩, ⟨by omega, by omega⟩, ⟨by omega, by omega⟩, ⟨by omega, by omega⟩⟩
           refine lv_aload_n hx hb dX5_outOf_97 rfl (lv_at hl 4 rfl) ?_
           refine va_get (D := D) hx hb hts inlX5 hown hK hP 26 (jc_26 cI cL ad σ τ) rfl 4 (of_decide_eq_true rfl) (hts _ kw_4_18) (fun _ h9 => h9) rfl dX5_outOf_98 ?_
           refine lv_iload hx hb dX5_outOf_101 (lv_at hl 0 rfl) ?_
           refine jald hx hb hK hP (jc_29 cI cL ad σ τ) (jin rfl (by omega) (by omega)) dX5_outOf_103 ?_
           refine jtopr (y := (σ 29 x31.toNatClampNeg)) rfl ?_
           refine lv_iload hx hb dX5_outOf_104 (lv_at hl 1 rfl) ?_
           refine lv_icmp_eq (tgt := 148) hx hb dX5_outOf_106 (of_decide_eq_true rfl) (fun c36 => ?_) (fun c36 => ?_)
           · exact by
              have kc36 := jeq c36 rfl rfl
              refine lv_iload hx hb dX5_outOf_148 (lv_at hl 2 rfl) ?_
              refine lv_aload_n hx hb dX5_outOf_150 rfl (lv_at hl 4 rfl) ?_
              refine va_get (D := D) hx hb hts inlX5 hown hK hP 26 (jc_26 cI cL ad σ τ) rfl 5 (of_decide_eq_true rfl) (hts _ kw_4_19) (fun _ h9 => h9) rfl dX5_outOf_151 ?_
              refine lv_iload hx hb dX5_outOf_154 (lv_at hl 0 rfl) ?_
              refine jald hx hb hK hP (jc_30 cI cL ad σ τ) (jin rfl (by omega) (by omega)) dX5_outOf_156 ?_
              refine jtopr (y := (σ 30 x31.toNatClampNeg)) rfl ?_
              have g37 := jrg (rfl : (σ 27 x7.toNatClampNeg).toInt = (σ 27 x7.toNatClampNeg).toInt)
              have g38 := jrg (rfl : (σ 30 x31.toNatClampNeg).toInt = (σ 30 x31.toNatClampNeg).toInt)
              exact by
               refine lv_iadd hx hb dX5_outOf_157 ?_
               refine lv_topi (fun x39 ex39 => ?_)
               have gx39 := jrg (rfl : x39.toInt = x39.toInt)
               have v40 : jGb σ (jN6 a4 (jwd (16 * (A1) + 4 * (A2) + (A3))) a5 a6) = (σ 30 x31.toNatClampNeg) := by rw [← r34]; exact (hs_jBl.2.2.hit hs_jBl.2.1 hs_jBl.1 (jnat (x := x31) rfl (n := 4096) (by omega) (of_decide_eq_true rfl)) (by omega) (by omega) g35 (c36.trans k33)).symm
               refine lv_istore (lv' := [(8, .int x39), (10, .int x31), (9, .int x28), (7, .int x7), (0, .ref (ad 26)), (1, .int a1), (2, .int a2), (3, .int a3), (4, .int a4), (5, .int a5), (6, .int a6)]) hx hb dX5_outOf_158 hl (of_decide_eq_true rfl) rfl (fun ls hl => ?_)
               refine lv_iload hx hb dX5_outOf_160 (lv_at hl 0 rfl) ?_
               refine lv_if_ge (tgt := 169) hx hb dX5_outOf_162 (of_decide_eq_true rfl) (fun c41 => ?_) (fun c41 => ?_)
               · have kc41 := jle c41 jz_0 rfl
                 refine lv_iload hx hb dX5_outOf_169 (lv_at hl 0 rfl) ?_
                 exact by
                  refine lv_sipush (v := 1000) hx hb dX5_outOf_171 (of_decide_eq_true rfl) ?_
                  refine va_mmin hx hb (hml.trans hl.1.symm) hown (hts _ kw_22_10) (hts _ kw_22_11) (hts _ kw_21_1) (hts _ kw_22_12) (Nat.le_of_ble_eq_true rfl) (Nat.le_of_ble_eq_true rfl) (Nat.le_of_ble_eq_true rfl) (Nat.le_of_ble_eq_true rfl) dX5_outOf_174 ?_
                  refine lv_topi (fun x42 ex42 => ?_)
                  have g43 := jmin ex42 rfl jz_1000
                  exact by exact hret x42 σ τ _ _ _ _ rfl ⟨rfl, (fun _ _ => rfl), hs_jN67, hs_jBl, (fun _ => by rw [(show σ 27 (16 * (A1) + 4 * (A2) + (A3)).toNat + jGb σ (jN6 a4 (jwd (16 * (A1) + 4 * (A2) + (A3))) a5 a6) = x39 from by rw [ex39, v40, jnc (show x7.toInt = (16 * (A1) + 4 * (A2) + (A3)) by omega)])]; exact jClp_m (c := 1000) (by omega) (of_decide_eq_true rfl) (by omega)), trivial⟩ hP hS dX5_outOf_177
               · have kc41 := jnle c41 jz_0 rfl
                 refine lv_iconst (v := 0) hx hb dX5_outOf_165 (of_decide_eq_true rfl) ?_
                 refine lv_goto (tgt := 177) hx hb dX5_outOf_166 (of_decide_eq_true rfl) ?_
                 exact hret 0 σ τ _ _ _ _ rfl ⟨rfl, (fun _ _ => rfl), hs_jN67, hs_jBl, (fun _ => by rw [(show σ 27 (16 * (A1) + 4 * (A2) + (A3)).toNat + jGb σ (jN6 a4 (jwd (16 * (A1) + 4 * (A2) + (A3))) a5 a6) = x39 from by rw [ex39, v40, jnc (show x7.toInt = (16 * (A1) + 4 * (A2) + (A3)) by omega)])]; exact jClp_0 (by omega)), trivial⟩ hP hS dX5_outOf_177
           · have kc36 := jne c36 rfl rfl
             refine lv_aload_n hx hb dX5_outOf_109 rfl (lv_at hl 4 rfl) ?_
             refine va_get (D := D) hx hb hts inlX5 hown hK hP 26 (jc_26 cI cL ad σ τ) rfl 0 (of_decide_eq_true rfl) (hts _ kw_4_22) (fun _ h9 => h9) rfl dX5_outOf_110 ?_
             refine lv_iload hx hb dX5_outOf_113 (lv_at hl 9 rfl) ?_
             refine lv_iload hx hb dX5_outOf_115 (lv_at hl 10 rfl) ?_
             refine lv_iload_n hx hb dX5_outOf_117 rfl (lv_at hl 6 rfl) ?_
             refine lv_iload_n hx hb dX5_outOf_118 rfl (lv_at hl 5 rfl) ?_
             refine lv_iload_n hx hb dX5_outOf_119 rfl (lv_at hl 7 rfl) ?_
             refine lv_iload hx hb dX5_outOf_120 (lv_at hl 8 rfl) ?_
             refine jcallVv (As := [.int a5, .int a6, .int a2, .int a1, .int a3, .int a4]) (rest := []) ⟨hx, hb, hml, hown, hts⟩ hK hP hA hS hZ (c_X10_say_22 l D cI cL ad zz hJ σ τ a5 (A5) t5 a6 (A6) t6 a2 (A2) t2 a1 (A1) t1 a3 (A3) t3 a4 (A4) t4 hs_jN67) cw_RX5_70 (jc_22 cI cL ad σ τ) rfl ⟨Nat.le_of_ble_eq_true rfl, Nat.le_of_ble_eq_true rfl⟩ rfl rfl rfl hl.1 rfl (Nat.le_of_ble_eq_true rfl) dX5_outOf_122 ⟨Nat.zero_le _, Nat.zero_le _⟩ (fun σ44 τ44 H locs h44 hP hS => ?_)
             obtain ⟨rfl, f46, p47, w48, h44⟩ := h44
             refine lv_aload_n hx hb dX5_outOf_125 rfl (lv_at hl 4 rfl) ?_
             refine va_get (D := D) hx hb hts inlX5 hown hK hP 26 (jc_26 cI cL ad σ44 τ) rfl 5 (of_decide_eq_true rfl) (hts _ kw_4_19) (fun _ h9 => h9) rfl dX5_outOf_126 ?_
             refine lv_iload hx hb dX5_outOf_129 (lv_at hl 0 rfl) ?_
             refine lv_aload_n hx hb dX5_outOf_131 rfl (lv_at hl 4 rfl) ?_
             refine va_get (D := D) hx hb hts inlX5 hown hK hP 26 (jc_26 cI cL ad σ44 τ) rfl 0 (of_decide_eq_true rfl) (hts _ kw_4_22) (fun _ h9 => h9) rfl dX5_outOf_132 ?_
             have I50 : jI22 σ44 := jI22_fr (congrFun (f46 22 (of_decide_eq_true rfl)) 0) (f46 23 (of_decide_eq_true rfl)) hI22
             refine jcallV (As := []) (rest := [.int x31, .ref (ad 30)]) ⟨hx, hb, hml, hown, hts⟩ hK hP hA hS hZ (c_X10_worked_22 l D cI cL ad zz hJ σ44 τ I50) cw_RX5_74 (jc_22 cI cL ad σ44 τ) rfl ⟨Nat.le_of_ble_eq_true rfl, Nat.le_of_ble_eq_true rfl⟩ rfl rfl rfl hl.1 rfl (Nat.le_of_ble_eq_true rfl) dX5_outOf_135 ⟨Nat.zero_le _, Nat.zero_le _⟩ (fun r52 σ51 τ51 H locs h51 hP hS => ?_)
             obtain ⟨rfl, f53, w54, h51⟩ := h51
             exact by
              refine jast hx hb hK hP hJ hA hS (jc_30 cI cL ad σ51 τ) (ja_30 cI cL ad σ51 τ _ _) (jin rfl (by omega) (by omega)) dX5_outOf_138 (fun σ56 H locs eσ56 hP hS => ?_)
              refine lv_aload_n hx hb dX5_outOf_139 rfl (lv_at hl 4 rfl) ?_
              refine va_get (D := D) hx hb hts inlX5 hown hK hP 26 (jc_26 cI cL ad σ56 τ) rfl 4 (of_decide_eq_true rfl) (hts _ kw_4_18) (fun _ h9 => h9) rfl dX5_outOf_140 ?_
              refine lv_iload hx hb dX5_outOf_143 (lv_at hl 0 rfl) ?_
              refine lv_iload hx hb dX5_outOf_145 (lv_at hl 1 rfl) ?_
              refine jast hx hb hK hP hJ hA hS (jc_29 cI cL ad σ56 τ) (ja_29 cI cL ad σ56 τ _ _) (jin rfl (by omega) (by omega)) dX5_outOf_147 (fun σ57 H locs eσ57 hP hS => ?_)
              refine lv_iload hx hb dX5_outOf_148 (lv_at hl 2 rfl) ?_
              refine lv_aload_n hx hb dX5_outOf_150 rfl (lv_at hl 4 rfl) ?_
              refine va_get (D := D) hx hb hts inlX5 hown hK hP 26 (jc_26 cI cL ad σ57 τ) rfl 5 (of_decide_eq_true rfl) (hts _ kw_4_19) (fun _ h9 => h9) rfl dX5_outOf_151 ?_
              exact by
               refine lv_iload hx hb dX5_outOf_154 (lv_at hl 0 rfl) ?_
               refine jald hx hb hK hP (jc_30 cI cL ad σ57 τ) (jin rfl (by omega) (by omega)) dX5_outOf_156 ?_
               refine jtopr (y := (σ56 30 x31.toNatClampNeg)) (by rw [jnp 30 eσ57 (of_decide_eq_true rfl)]) ?_
               have g58 := jrg (rfl : (σ 27 x7.toNatClampNeg).toInt = (σ 27 x7.toNatClampNeg).toInt)
               have g59 := jrg (rfl : (σ56 30 x31.toNatClampNeg).toInt = (σ56 30 x31.toNatClampNeg).toInt)
               refine lv_iadd hx hb dX5_outOf_157 ?_
               refine lv_topi (fun x60 ex60 => ?_)
               have gx60 := jrg (rfl : x60.toInt = x60.toInt)
               have v62 := w54
               rw [show σ44 23 = σ 23 from (f46 23 (of_decide_eq_true rfl)), show (σ44 22 0).toInt = (σ 22 0).toInt from by rw [show σ44 22 0 = σ 22 0 from (congrFun (f46 22 (of_decide_eq_true rfl)) 0)]] at v62
               exact by
                have w63 : r52 = jGb σ (jN6 a4 x7 a5 a6) := hs_jBl.1.worked v62 (jN8_of ((congrFun (show σ44 24 = σ44 24 from rfl) 0).trans (w48.1)) ((congrFun (show σ44 24 = σ44 24 from rfl) 1).trans (w48.2.1)) ((congrFun (show σ44 24 = σ44 24 from rfl) 2).trans (w48.2.2.1)) ((congrFun (show σ44 24 = σ44 24 from rfl) 3).trans (w48.2.2.2.1)) ((congrFun (show σ44 24 = σ44 24 from rfl) 4).trans (w48.2.2.2.2.1)) ((congrFun (show σ44 24 = σ44 24 from rfl) 5).trans (w48.2.2.2.2.2.1)) ((congrFun (show σ44 24 = σ44 24 from rfl) 6).trans ((w48.2.2.2.2.2.2.1).trans hs_jN67.1)) ((congrFun (show σ44 24 = σ44 24 from rfl) 7).trans ((w48.2.2.2.2.2.2.2).trans hs_jN67.2))) (by omega) ⟨by omega, by omega⟩ ⟨by omega, by omega⟩ ⟨by omega, by omega⟩
                have p64 : jBl σ57 := (jBl.put hs_jBl ((congrFun (jnp 22 eσ57 (of_decide_eq_true rfl)) 0).trans ((congrFun (jnp 22 eσ56 (of_decide_eq_true rfl)) 0).trans ((congrFun (f53 22 (of_decide_eq_true rfl)) 0).trans (congrFun (f46 22 (of_decide_eq_true rfl)) 0)))) ((congrFun (jnp 22 eσ57 (of_decide_eq_true rfl)) 1).trans ((congrFun (jnp 22 eσ56 (of_decide_eq_true rfl)) 1).trans ((congrFun (f53 22 (of_decide_eq_true rfl)) 1).trans (congrFun (f46 22 (of_decide_eq_true rfl)) 1)))) ((jnp 23 eσ57 (of_decide_eq_true rfl)).trans ((jnp 23 eσ56 (of_decide_eq_true rfl)).trans ((f53 23 (of_decide_eq_true rfl)).trans (f46 23 (of_decide_eq_true rfl))))) ((congrFun (jnp 26 eσ57 (of_decide_eq_true rfl)) 6).trans ((congrFun (jnp 26 eσ56 (of_decide_eq_true rfl)) 6).trans ((congrFun (f53 26 (of_decide_eq_true rfl)) 6).trans (congrFun (f46 26 (of_decide_eq_true rfl)) 6)))) ((congrFun (jnp 26 eσ57 (of_decide_eq_true rfl)) 7).trans ((congrFun (jnp 26 eσ56 (of_decide_eq_true rfl)) 7).trans ((congrFun (f53 26 (of_decide_eq_true rfl)) 7).trans (congrFun (f46 26 (of_decide_eq_true rfl)) 7)))) g35 (by rw [eσ57, jup_row, eσ56, jup_n (of_decide_eq_true rfl), f53 29 (of_decide_eq_true rfl), f46 29 (of_decide_eq_true rfl)]) (by rw [eσ57, jup_n (of_decide_eq_true rfl), eσ56, jup_row, f53 30 (of_decide_eq_true rfl), f46 30 (of_decide_eq_true rfl)]) k33 w63)
                have v61 : jGb σ (jN6 a4 (jwd (16 * (A1) + 4 * (A2) + (A3))) a5 a6) = (σ56 30 x31.toNatClampNeg) := by rw [← r34, ← w63, eσ56, jup_row]; unfold jupd; rw [if_pos rfl]
                refine lv_istore (lv' := [(8, .int x60), (10, .int x31), (9, .int x28), (7, .int x7), (0, .ref (ad 26)), (1, .int a1), (2, .int a2), (3, .int a3), (4, .int a4), (5, .int a5), (6, .int a6)]) hx hb dX5_outOf_158 hl (of_decide_eq_true rfl) rfl (fun ls hl => ?_)
                refine lv_iload hx hb dX5_outOf_160 (lv_at hl 0 rfl) ?_
                refine lv_if_ge (tgt := 169) hx hb dX5_outOf_162 (of_decide_eq_true rfl) (fun c65 => ?_) (fun c65 => ?_)
                · have kc65 := jle c65 jz_0 rfl
                  refine lv_iload hx hb dX5_outOf_169 (lv_at hl 0 rfl) ?_
                  refine lv_sipush (v := 1000) hx hb dX5_outOf_171 (of_decide_eq_true rfl) ?_
                  exact by
                   refine va_mmin hx hb (hml.trans hl.1.symm) hown (hts _ kw_22_10) (hts _ kw_22_11) (hts _ kw_21_1) (hts _ kw_22_12) (Nat.le_of_ble_eq_true rfl) (Nat.le_of_ble_eq_true rfl) (Nat.le_of_ble_eq_true rfl) (Nat.le_of_ble_eq_true rfl) dX5_outOf_174 ?_
                   refine lv_topi (fun x66 ex66 => ?_)
                   have g67 := jmin ex66 rfl jz_1000
                   have p68 : jN67 σ57 := jN67.fr ((jnp 24 eσ57 (of_decide_eq_true rfl)).trans ((jnp 24 eσ56 (of_decide_eq_true rfl)).trans (f53 24 (of_decide_eq_true rfl)))) p47
                   exact by exact hret x66 σ57 τ _ _ _ _ rfl ⟨rfl, (fun i hi => ((jnp i eσ57 (imp_77 i hi)).trans ((jnp i eσ56 (imp_78 i hi)).trans ((f53 i (imp_79 i hi)).trans (f46 i (imp_80 i hi)))))), p68, p64, (fun _ => by rw [(show σ 27 (16 * (A1) + 4 * (A2) + (A3)).toNat + jGb σ (jN6 a4 (jwd (16 * (A1) + 4 * (A2) + (A3))) a5 a6) = x60 from by rw [ex60, v61, jnc (show x7.toInt = (16 * (A1) + 4 * (A2) + (A3)) by omega)])]; exact jClp_m (c := 1000) (by omega) (of_decide_eq_true rfl) (by omega)), trivial⟩ hP hS dX5_outOf_177
                · have kc65 := jnle c65 jz_0 rfl
                  refine lv_iconst (v := 0) hx hb dX5_outOf_165 (of_decide_eq_true rfl) ?_
                  refine lv_goto (tgt := 177) hx hb dX5_outOf_166 (of_decide_eq_true rfl) ?_
                  have p69 : jN67 σ57 := jN67.fr ((jnp 24 eσ57 (of_decide_eq_true rfl)).trans ((jnp 24 eσ56 (of_decide_eq_true rfl)).trans (f53 24 (of_decide_eq_true rfl)))) p47
                  exact hret 0 σ57 τ _ _ _ _ rfl ⟨rfl, (fun i hi => ((jnp i eσ57 (imp_77 i hi)).trans ((jnp i eσ56 (imp_78 i hi)).trans ((f53 i (imp_79 i hi)).trans (f46 i (imp_80 i hi)))))), p69, p64, (fun _ => by rw [(show σ 27 (16 * (A1) + 4 * (A2) + (A3)).toNat + jGb σ (jN6 a4 (jwd (16 * (A1) + 4 * (A2) + (A3))) a5 a6) = x60 from by rw [ex60, v61, jnc (show x7.toInt = (16 * (A1) + 4 * (A2) + (A3)) by omega)])]; exact jClp_0 (by omega)), trivial⟩ hP hS dX5_outOf_177
