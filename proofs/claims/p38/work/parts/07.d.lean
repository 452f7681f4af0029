set_option maxHeartbeats 4000000 in
set_option maxRecDepth 100000 in
theorem c_X6_sortAt_16 (l : Launch) (D : va_G) (cI cL : ClassId) (ad zz : Nat → Nat) (hJ : jD ad) (σ : Nat → Nat → Int32) (τ : Nat → Nat → Int64) (a1 : Int32) (A1 : Int) (t1 : a1.toInt = A1) : jM l yX6_sortAt cX6_sortAt 2 (some .int) ({ frames := 0, cells := 0, slots := 0, locals := 0 }) D cI cL ad zz [.ref (ad 16), .int a1] σ τ (fun r σ' τ' => (σ = σ' ∧ τ = τ') ∧ ((r = (σ 17 a1.toNatClampNeg) ∧ (0 ≤ A1 ∧ A1 ≤ 7)) ∨ (r = 0 ∧ ((A1 < 0) ∨ (7 < A1))))) := by
  refine jM.of hJ (by decide +kernel) (nt := .int) rfl (Nat.le_of_ble_eq_true rfl) ?_
  intro p e s m args below meth c Q ls hC hret hl hP
  obtain ⟨hx, hb, hr, hml, hown, hts, hK, -, hlocks, hZ⟩ := hC
  have hown : s.vm.findClass RX6 = some m.cls := hown
  have hS : va_S (jA ad) s.heap s.heap [] := va_S.rf
  have hA : ∀ q, jA ad q → jA ad q := fun _ h => h
  have hl : lv_has ls 2 [(0, .ref (ad 16)), (1, .int a1)] := hl
  have g1 := jrg t1
  refine lv_iload_n hx hb dX6_sortAt_0 rfl (lv_at hl 1 rfl) ?_
  refine lv_if_lt (tgt := 10) hx hb dX6_sortAt_1 (of_decide_eq_true rfl) (fun c1 => ?_) (fun c1 => ?_)
  · have kc1 := jlt c1 t1 jz_0
    refine lv_iconst (v := 0) hx hb dX6_sortAt_10 (of_decide_eq_true rfl) ?_
    refine lv_goto (tgt := 20) hx hb dX6_sortAt_11 (of_decide_eq_true rfl) ?_
    exact hret 0 σ τ _ _ _ _ rfl ⟨⟨rfl, rfl⟩, Or.inr (⟨rfl, (by have h9 := jz_0; omega)⟩)⟩ hP hS dX6_sortAt_20
  · have kc1 := jnlt c1 t1 jz_0
    refine lv_iload_n hx hb dX6_sortAt_4 rfl (lv_at hl 1 rfl) ?_
    refine lv_bipush (v := 8) hx hb dX6_sortAt_5 (of_decide_eq_true rfl) ?_
    refine lv_icmp_lt (tgt := 14) hx hb dX6_sortAt_7 (of_decide_eq_true rfl) (fun c2 => ?_) (fun c2 => ?_)
    · have kc2 := jlt c2 t1 jz_8
      refine lv_aload_n hx hb dX6_sortAt_14 rfl (lv_at hl 0 rfl) ?_
      refine va_get (D := D) hx hb hts inlX6 hown hK hP 16 (jc_16 cI cL ad σ τ) rfl 3 (of_decide_eq_true rfl) (hts _ kw_4_11) (fun _ h9 => h9) rfl dX6_sortAt_15 ?_
      refine lv_iload_n hx hb dX6_sortAt_18 rfl (lv_at hl 1 rfl) ?_
      exact by
       refine jald hx hb hK hP (jc_17 cI cL ad σ τ) (jin t1 (by omega) (by omega)) dX6_sortAt_19 ?_
       refine jtopr (y := (σ 17 a1.toNatClampNeg)) rfl ?_
       exact hret (σ 17 a1.toNatClampNeg) σ τ _ _ _ _ rfl ⟨⟨rfl, rfl⟩, Or.inl ⟨rfl, (by omega)⟩⟩ hP hS dX6_sortAt_20
    · have kc2 := jnlt c2 t1 jz_8
      refine lv_iconst (v := 0) hx hb dX6_sortAt_10 (of_decide_eq_true rfl) ?_
      refine lv_goto (tgt := 20) hx hb dX6_sortAt_11 (of_decide_eq_true rfl) ?_
      exact hret 0 σ τ _ _ _ _ rfl ⟨⟨rfl, rfl⟩, Or.inr (⟨rfl, (by have h9 := jz_0; omega)⟩)⟩ hP hS dX6_sortAt_20
set_option maxHeartbeats 4000000 in
set_option maxRecDepth 100000 in
theorem c_X6_meanOf_16 (l : Launch) (D : va_G) (cI cL : ClassId) (ad zz : Nat → Nat) (hJ : jD ad) (σ : Nat → Nat → Int32) (τ : Nat → Nat → Int64) (a1 : Int32) (A1 : Int) (t1 : a1.toInt = A1) (a2 : Int32) (A2 : Int) (t2 : a2.toInt = A2) (a3 : Int32) (A3 : Int) (t3 : a3.toInt = A3) (a4 : Int32) (A4 : Int) (t4 : a4.toInt = A4) : jM l yX6_meanOf cX6_meanOf 6 (some .int) ({ frames := 0, cells := 0, slots := 0, locals := 0 }) D cI cL ad zz [.ref (ad 16), .int a1, .int a2, .int a3, .int a4] σ τ (fun r σ' τ' => (σ = σ' ∧ τ = τ') ∧ True) := by
  refine jM.of hJ (by decide +kernel) (nt := .int) rfl (Nat.le_of_ble_eq_true rfl) ?_
  intro p e s m args below meth c Q ls hC hret hl hP
  obtain ⟨hx, hb, hr, hml, hown, hts, hK, -, hlocks, hZ⟩ := hC
  have hown : s.vm.findClass RX6 = some m.cls := hown
  have hS : va_S (jA ad) s.heap s.heap [] := va_S.rf
  have hA : ∀ q, jA ad q → jA ad q := fun _ h => h
  have hl : lv_has ls 6 [(0, .ref (ad 16)), (1, .int a1), (2, .int a2), (3, .int a3), (4, .int a4)] := hl
  have g1 := jrg t1
  have g2 := jrg t2
  have g3 := jrg t3
  have g4 := jrg t4
  refine lv_iload_n hx hb dX6_meanOf_0 rfl (lv_at hl 2 rfl) ?_
  refine lv_iload_n hx hb dX6_meanOf_1 rfl (lv_at hl 3 rfl) ?_
  refine lv_imul hx hb dX6_meanOf_2 ?_
  refine lv_topi (fun x1 ex1 => ?_)
  have gx1 := jrg (rfl : x1.toInt = x1.toInt)
  refine lv_sipush (v := 1000) hx hb dX6_meanOf_3 (of_decide_eq_true rfl) ?_
  refine lv_iload_n hx hb dX6_meanOf_6 rfl (lv_at hl 2 rfl) ?_
  refine lv_isub hx hb dX6_meanOf_7 ?_
  refine lv_topi (fun x2 ex2 => ?_)
  have gx2 := jrg (rfl : x2.toInt = x2.toInt)
  refine lv_iload hx hb dX6_meanOf_8 (lv_at hl 4 rfl) ?_
  have g3 := jrg (rfl : x2.toInt = x2.toInt)
  refine lv_imul hx hb dX6_meanOf_10 ?_
  refine lv_topi (fun x4 ex4 => ?_)
  have gx4 := jrg (rfl : x4.toInt = x4.toInt)
  have g5 := jrg (rfl : x1.toInt = x1.toInt)
  have g6 := jrg (rfl : x4.toInt = x4.toInt)
  refine lv_iadd hx hb dX6_meanOf_11 ?_
  refine lv_topi (fun x7 ex7 => ?_)
  have gx7 := jrg (rfl : x7.toInt = x7.toInt)
  refine lv_sipush (v := 1000) hx hb dX6_meanOf_12 (of_decide_eq_true rfl) ?_
  refine lv_idiv hx hb dX6_meanOf_15 (of_decide_eq_true rfl) ?_
  refine lv_topi (fun x8 ex8 => ?_)
  have gx8 := jrg (rfl : x8.toInt = x8.toInt)
  refine lv_istore (lv' := [(5, .int x8), (0, .ref (ad 16)), (1, .int a1), (2, .int a2), (3, .int a3), (4, .int a4)]) hx hb dX6_meanOf_16 hl (of_decide_eq_true rfl) rfl (fun ls hl => ?_)
  refine lv_iload_n hx hb dX6_meanOf_18 rfl (lv_at hl 2 rfl) ?_
  refine lv_sipush (v := 1000) hx hb dX6_meanOf_19 (of_decide_eq_true rfl) ?_
  refine lv_imul hx hb dX6_meanOf_22 ?_
  refine lv_topi (fun x9 ex9 => ?_)
  have gx9 := jrg (rfl : x9.toInt = x9.toInt)
  refine lv_sipush (v := 1000) hx hb dX6_meanOf_23 (of_decide_eq_true rfl) ?_
  refine lv_aload_n hx hb dX6_meanOf_26 rfl (lv_at hl 1 rfl) ?_
  refine va_get (D := D) hx hb hts inlX6 hown hK hP 16 (jc_16 cI cL ad σ τ) rfl 2 (of_decide_eq_true rfl) (hts _ kw_29_22) (fun _ h9 => h9) rfl dX6_meanOf_27 ?_
  have g10 := jrg (rfl : (σ 16 2).toInt = (σ 16 2).toInt)
  refine lv_isub hx hb dX6_meanOf_30 ?_
  refine lv_topi (fun x11 ex11 => ?_)
  have gx11 := jrg (rfl : x11.toInt = x11.toInt)
  refine lv_iload hx hb dX6_meanOf_31 (lv_at hl 0 rfl) ?_
  have g12 := jrg (rfl : x11.toInt = x11.toInt)
  have g13 := jrg (rfl : x8.toInt = x8.toInt)
  refine lv_imul hx hb dX6_meanOf_33 ?_
  refine lv_topi (fun x14 ex14 => ?_)
  have gx14 := jrg (rfl : x14.toInt = x14.toInt)
  refine lv_sipush (v := 1000) hx hb dX6_meanOf_34 (of_decide_eq_true rfl) ?_
  refine lv_idiv hx hb dX6_meanOf_37 (of_decide_eq_true rfl) ?_
  refine lv_topi (fun x15 ex15 => ?_)
  have gx15 := jrg (rfl : x15.toInt = x15.toInt)
  have g16 := jrg (rfl : x9.toInt = x9.toInt)
  have g17 := jrg (rfl : x15.toInt = x15.toInt)
  refine lv_iadd hx hb dX6_meanOf_38 ?_
  refine lv_topi (fun x18 ex18 => ?_)
  have gx18 := jrg (rfl : x18.toInt = x18.toInt)
  exact hret x18 σ τ _ _ _ _ rfl ⟨⟨rfl, rfl⟩, trivial⟩ hP hS dX6_meanOf_39
set_option maxHeartbeats 4000000 in
set_option maxRecDepth 100000 in
theorem c_X6_ended_16 (l : Launch) (D : va_G) (cI cL : ClassId) (ad zz : Nat → Nat) (hJ : jD ad) (σ : Nat → Nat → Int32) (τ : Nat → Nat → Int64) (a1 : Int32) (A1 : Int) (t1 : a1.toInt = A1) (a2 : Int32) (A2 : Int) (t2 : a2.toInt = A2) (a3 : Int32) (A3 : Int) (t3 : a3.toInt = A3) : jM l yX6_ended cX6_ended 4 (some .boolean) ({ frames := 3, cells := 0, slots := 0, locals := 63 }) D cI cL ad zz [.ref (ad 16), .int a1, .int a2, .int a3] σ τ (fun r σ' τ' => (σ = σ' ∧ τ = τ') ∧ (((r = 0 → A2 < (σ 16 0).toInt ∧ A1 < (σ 16 1).toInt) ∧ (A2 < (σ 16 0).toInt → A1 < (σ 16 1).toInt → ∀ b : Int32, jMb a3 b → r = 0))) ∧ True) := by
  refine jM.of hJ (by decide +kernel) (nt := .boolean) rfl (Nat.le_of_ble_eq_true rfl) ?_
  intro p e s m args below meth c Q ls hC hret hl hP
  obtain ⟨hx, hb, hr, hml, hown, hts, hK, -, hlocks, hZ⟩ := hC
  have hown : s.vm.findClass RX6 = some m.cls := hown
  have hS : va_S (jA ad) s.heap s.heap [] := va_S.rf
  have hA : ∀ q, jA ad q → jA ad q := fun _ h => h
  have hl : lv_has ls 4 [(0, .ref (ad 16)), (1, .int a1), (2, .int a2), (3, .int a3)] := hl
  have g1 := jrg t1
  have g2 := jrg t2
  have g3 := jrg t3
  refine lv_iload_n hx hb dX6_ended_0 rfl (lv_at hl 2 rfl) ?_
  refine lv_aload_n hx hb dX6_ended_1 rfl (lv_at hl 0 rfl) ?_
  refine va_get (D := D) hx hb hts inlX6 hown hK hP 16 (jc_16 cI cL ad σ τ) rfl 0 (of_decide_eq_true rfl) (hts _ kw_4_9) (fun _ h9 => h9) rfl dX6_ended_2 ?_
  refine lv_icmp_ge (tgt := 23) hx hb dX6_ended_5 (of_decide_eq_true rfl) (fun c1 => ?_) (fun c1 => ?_)
  · have kc1 := jle c1 rfl t2
    refine lv_iconst (v := 1) hx hb dX6_ended_23 (of_decide_eq_true rfl) ?_
    refine lv_goto (tgt := 28) hx hb dX6_ended_24 (of_decide_eq_true rfl) ?_
    exact hret 1 σ τ _ _ _ _ rfl ⟨⟨rfl, rfl⟩, ⟨fun h => absurd h (of_decide_eq_true rfl), fun h9 h8 _ _ => False.elim (by omega)⟩, trivial⟩ hP hS dX6_ended_28
  · have kc1 := jnle c1 rfl t2
    refine lv_iload_n hx hb dX6_ended_8 rfl (lv_at hl 1 rfl) ?_
    refine lv_aload_n hx hb dX6_ended_9 rfl (lv_at hl 0 rfl) ?_
    refine va_get (D := D) hx hb hts inlX6 hown hK hP 16 (jc_16 cI cL ad σ τ) rfl 1 (of_decide_eq_true rfl) (hts _ kw_4_10) (fun _ h9 => h9) rfl dX6_ended_10 ?_
    refine lv_icmp_ge (tgt := 23) hx hb dX6_ended_13 (of_decide_eq_true rfl) (fun c2 => ?_) (fun c2 => ?_)
    · have kc2 := jle c2 rfl t1
      refine lv_iconst (v := 1) hx hb dX6_ended_23 (of_decide_eq_true rfl) ?_
      refine lv_goto (tgt := 28) hx hb dX6_ended_24 (of_decide_eq_true rfl) ?_
      exact hret 1 σ τ _ _ _ _ rfl ⟨⟨rfl, rfl⟩, ⟨fun h => absurd h (of_decide_eq_true rfl), fun h9 h8 _ _ => False.elim (by omega)⟩, trivial⟩ hP hS dX6_ended_28
    · have kc2 := jnle c2 rfl t1
      refine lv_iload_n hx hb dX6_ended_16 rfl (lv_at hl 3 rfl) ?_
      refine jcallS (As := [.int a3]) (rest := []) ⟨hx, hb, hml, hown, hts⟩ hK hP hA hS hZ (c_X0_first l D cI cL ad zz hJ σ τ a3 (A3) t3) cw_RX6_22 ⟨Nat.le_of_ble_eq_true rfl, Nat.le_of_ble_eq_true rfl⟩ rfl rfl rfl hl.1 rfl (Nat.le_of_ble_eq_true rfl) dX6_ended_17 ⟨Nat.zero_le _, Nat.zero_le _⟩ (fun r4 σ3 τ3 H locs h3 hP hS => ?_)
      obtain ⟨⟨rfl, rfl⟩, w5, h3⟩ := h3
      refine lv_if_ge (tgt := 27) hx hb dX6_ended_20 (of_decide_eq_true rfl) (fun c6 => ?_) (fun c6 => ?_)
      · have kc6 := jle c6 jz_0 rfl
        refine lv_iconst (v := 0) hx hb dX6_ended_27 (of_decide_eq_true rfl) ?_
        exact hret 0 σ τ _ _ _ _ rfl ⟨⟨rfl, rfl⟩, ⟨fun _ => ⟨by omega, by omega⟩, fun _ _ _ _ => rfl⟩, trivial⟩ hP hS dX6_ended_28
      · have kc6 := jnle c6 jz_0 rfl
        refine lv_iconst (v := 1) hx hb dX6_ended_23 (of_decide_eq_true rfl) ?_
        refine lv_goto (tgt := 28) hx hb dX6_ended_24 (of_decide_eq_true rfl) ?_
        exact hret 1 σ τ _ _ _ _ rfl ⟨⟨rfl, rfl⟩, ⟨fun h => absurd h (of_decide_eq_true rfl), fun _ _ b hb => absurd (w5 b hb) (by omega)⟩, trivial⟩ hP hS dX6_ended_28
set_option maxHeartbeats 4000000 in
set_option maxRecDepth 100000 in
theorem c_X6_sortDown_16 (l : Launch) (D : va_G) (cI cL : ClassId) (ad zz : Nat → Nat) (hJ : jD ad) (σ : Nat → Nat → Int32) (τ : Nat → Nat → Int64) (hI16 : jI16 σ) : jMv l yX6_sortDown cX6_sortDown 5 none ({ frames := 0, cells := 0, slots := 0, locals := 0 }) D cI cL ad zz [.ref (ad 16), .ref (ad 1)] σ τ (fun σ' τ' => τ = τ' ∧ (∀ i : Nat, (i < 1 ∨ 1 < i) → σ' i = σ i) ∧ True) := by
  refine jMv.of hJ (by decide +kernel) rfl (Nat.le_of_ble_eq_true rfl) ?_
  intro p e s m args below meth c Q ls hC hret hl hP
  obtain ⟨hx, hb, hr, hml, hown, hts, hK, -, hlocks, hZ⟩ := hC
  have hown : s.vm.findClass RX6 = some m.cls := hown
  have hS : va_S (jA ad) s.heap s.heap [] := va_S.rf
  have hA : ∀ q, jA ad q → jA ad q := fun _ h => h
  have hl : lv_has ls 5 [(0, .ref (ad 16)), (1, .ref (ad 1))] := hl
  obtain ⟨i1, i2, i3, w4⟩ : (1 ≤ (σ 16 0).toInt ∧ (σ 16 0).toInt ≤ 8) ∧ (1 ≤ (σ 16 1).toInt ∧ (σ 16 1).toInt ≤ 12) ∧ (0 ≤ (σ 16 2).toInt ∧ (σ 16 2).toInt ≤ 999) ∧ (∀ k : Nat, k < 8 → 0 ≤ (σ 17 k).toInt ∧ (σ 17 k).toInt ≤ 3) := id hI16
  refine lv_iconst (v := 0) hx hb dX6_sortDown_0 (of_decide_eq_true rfl) ?_
  refine lv_istore_n (lv' := [(2, .int 0), (0, .ref (ad 16)), (1, .ref (ad 1))]) hx hb dX6_sortDown_1 rfl hl (of_decide_eq_true rfl) rfl (fun ls hl => ?_)
  refine lv_iconst (v := 3) hx hb dX6_sortDown_2 (of_decide_eq_true rfl) ?_
  refine lv_istore_n (lv' := [(3, .int 3), (2, .int 0), (0, .ref (ad 16)), (1, .ref (ad 1))]) hx hb dX6_sortDown_3 rfl hl (of_decide_eq_true rfl) rfl (fun ls hl => ?_)
  have lp5 : ∀ (n6 : Nat) (x7 : Int32) (x8 : Int32) (σ10 : Nat → Nat → Int32) (H : Heap) (locs : List Loc) (ls : Array Slot), (x8.toInt + 1 : Int) < n6 → 0 ≤ x7.toInt → x7.toInt ≤ 8 → (-1) ≤ x8.toInt → x8.toInt ≤ 3 → (∀ i : Nat, (i < 1 ∨ 1 < i) → σ10 i = σ i) → jH D cI cL ad σ10 τ H → va_S (jA ad) s.heap H locs → lv_has ls 5 [(3, .int x8), (2, .int x7), (0, .ref (ad 16)), (1, .ref (ad 1))] → W p l e ({ frames := 0, cells := 0, slots := 0, locals := 0 }) s m args below meth c H locs 0 0 Q (F0 m 4 ls []) := by
    intro n6
    induction n6 with
    | zero => intro x7 x8 σ10 H locs ls h12 h13 h14 h15 h16; exact absurd h12 (by omega)
    | succ n6 ihlp5 =>
      intro x7 x8 σ10 H locs ls h12 h13 h14 h15 h16 f17 hP hS hl
      exact by
       refine lv_iload_n hx hb dX6_sortDown_4 rfl (lv_at hl 0 rfl) ?_
       refine lv_if_lt (tgt := 56) hx hb dX6_sortDown_5 (of_decide_eq_true rfl) (fun c18 => ?_) (fun c18 => ?_)
       · have kc18 := jlt c18 rfl jz_0
         exact hret σ10 τ _ _ _ _ ⟨rfl, (fun i hi => (f17 i hi)), trivial⟩ hP hS dX6_sortDown_56
       · have kc18 := jnlt c18 rfl jz_0
         refine lv_iconst (v := 0) hx hb dX6_sortDown_8 (of_decide_eq_true rfl) ?_
         refine lv_istore (lv' := [(4, .int 0), (3, .int x8), (2, .int x7), (0, .ref (ad 16)), (1, .ref (ad 1))]) hx hb dX6_sortDown_9 hl (of_decide_eq_true rfl) rfl (fun ls hl => ?_)
         have z24 : (σ10 16 0).toInt = (σ 16 0).toInt := (congrArg Int32.toInt (show σ10 16 0 = (σ 16 0) from (congrFun (f17 16 (of_decide_eq_true rfl)) 0)))
         have lp19 : ∀ (n20 : Nat) (x21 : Int32) (x22 : Int32) (σ23 : Nat → Nat → Int32) (H : Heap) (locs : List Loc) (ls : Array Slot), ((σ23 16 0).toInt - x22.toInt : Int) < n20 → 0 ≤ x21.toInt → x21.toInt ≤ 8 → 0 ≤ x22.toInt → x22.toInt ≤ 8 → x22.toInt ≤ (σ23 16 0).toInt → (∀ i : Nat, (i < 1 ∨ 1 < i) → σ23 i = σ10 i) → jH D cI cL ad σ23 τ H → va_S (jA ad) s.heap H locs → lv_has ls 5 [(4, .int x22), (3, .int x8), (2, .int x21), (0, .ref (ad 16)), (1, .ref (ad 1))] → W p l e ({ frames := 0, cells := 0, slots := 0, locals := 0 }) s m args below meth c H locs 0 0 Q (F0 m 11 ls []) := by
           intro n20
           induction n20 with
           | zero => intro x21 x22 σ23 H locs ls h26 h27 h28 h29 h30 h31; exact absurd h26 (by omega)
           | succ n20 ihlp19 =>
             intro x21 x22 σ23 H locs ls h26 h27 h28 h29 h30 h31 f32 hP hS hl
             exact by
              have z33 : (σ23 16 0).toInt = (σ 16 0).toInt := (congrArg Int32.toInt (show σ23 16 0 = (σ 16 0) from ((congrFun (f32 16 (of_decide_eq_true rfl)) 0).trans (congrFun (f17 16 (of_decide_eq_true rfl)) 0))))
              refine lv_iload hx hb dX6_sortDown_11 (lv_at hl 0 rfl) ?_
              refine lv_aload_n hx hb dX6_sortDown_13 rfl (lv_at hl 3 rfl) ?_
              refine va_get (D := D) hx hb hts inlX6 hown hK hP 16 (jc_16 cI cL ad σ23 τ) rfl 0 (of_decide_eq_true rfl) (hts _ kw_4_9) (fun _ h9 => h9) rfl dX6_sortDown_14 ?_
              have m34 : σ23 16 0 = (σ 16 0) := ((congrFun (f32 16 (of_decide_eq_true rfl)) 0).trans (congrFun (f17 16 (of_decide_eq_true rfl)) 0))
              refine jtopr m34 ?_
              refine lv_icmp_ge (tgt := 50) hx hb dX6_sortDown_17 (of_decide_eq_true rfl) (fun c35 => ?_) (fun c35 => ?_)
              · have kc35 := jle c35 rfl rfl
                obtain ⟨x36, ex36⟩ : ∃ y : Int32, y = x8 + (-1) := ⟨_, rfl⟩
                exact by
                 have tx36 : x36.toInt = x8.toInt - 1 := (jadd ex36 rfl jz_m1 (by omega) (by omega)).trans (by omega)
                 refine lv_iinc (v := x36) (lv' := [(3, .int x36), (4, .int x22), (2, .int x21), (0, .ref (ad 16)), (1, .ref (ad 1))]) hx hb dX6_sortDown_50 hl (k := 1) rfl (by rw [ex36]; rfl) (of_decide_eq_true rfl) rfl (fun ls hl => ?_)
                 refine lv_goto (tgt := 4) hx hb dX6_sortDown_53 (of_decide_eq_true rfl) ?_
                 exact by exact ihlp5 x21 x36 σ23 _ _ ls (by have h91 := tx36; omega) (by have h91 := tx36; omega) (by have h91 := tx36; omega) (by have h91 := tx36; omega) (by have h91 := tx36; omega) (fun i hi => ((f32 i hi).trans (f17 i hi)))    hP hS (lv_sub hl [0, 2, 3, 4] rfl)
              · have kc35 := jnle c35 rfl rfl
                refine lv_aload_n hx hb dX6_sortDown_20 rfl (lv_at hl 3 rfl) ?_
                refine va_get (D := D) hx hb hts inlX6 hown hK hP 16 (jc_16 cI cL ad σ23 τ) rfl 3 (of_decide_eq_true rfl) (hts _ kw_4_11) (fun _ h9 => h9) rfl dX6_sortDown_21 ?_
                refine lv_iload hx hb dX6_sortDown_24 (lv_at hl 0 rfl) ?_
                refine jald hx hb hK hP (jc_17 cI cL ad σ23 τ) (jin rfl (by omega) (by omega)) dX6_sortDown_26 ?_
                exact by
                 have w37 : ∀ k : Nat, k < 8 → 0 ≤ (σ23 17 k).toInt ∧ (σ23 17 k).toInt ≤ 3 := (jrr_fr (f32 17 (of_decide_eq_true rfl)) (jrr_fr (f17 17 (of_decide_eq_true rfl)) w4))
                 have g38 := w37 _ (jnat (x := x22) rfl (n := 8) (by omega) (of_decide_eq_true rfl))
                 refine lv_topi (fun x39 ex39 => ?_)
                 rw [← ex39] at g38
                 refine lv_iload_n hx hb dX6_sortDown_27 rfl (lv_at hl 1 rfl) ?_
                 refine lv_icmp_ne (tgt := 44) hx hb dX6_sortDown_28 (of_decide_eq_true rfl) (fun c40 => ?_) (fun c40 => ?_)
                 · have kc40 := jne c40 rfl rfl
                   obtain ⟨x41, ex41⟩ : ∃ y : Int32, y = x22 + 1 := ⟨_, rfl⟩
                   have tx41 : x41.toInt = x22.toInt + 1 := (jadd ex41 rfl jz_1 (by omega) (by omega)).trans (by omega)
                   exact by
                    refine lv_iinc (v := x41) (lv' := [(4, .int x41), (3, .int x8), (2, .int x21), (0, .ref (ad 16)), (1, .ref (ad 1))]) hx hb dX6_sortDown_44 hl (k := 0) rfl (by rw [ex41]; rfl) (of_decide_eq_true rfl) rfl (fun ls hl => ?_)
                    refine lv_goto (tgt := 11) hx hb dX6_sortDown_47 (of_decide_eq_true rfl) ?_
                    exact by exact ihlp19 x21 x41 σ23 _ _ ls (by have h91 := tx41; omega) (by have h91 := tx41; omega) (by have h91 := tx41; omega) (by have h91 := tx41; omega) (by have h91 := tx41; omega) (by have h91 := tx41; omega) (fun i hi => (f32 i hi))    hP hS (lv_sub hl [0, 1, 2, 3, 4] rfl)
                 · have kc40 := jeq c40 rfl rfl
                   refine lv_iload_n hx hb dX6_sortDown_31 rfl (lv_at hl 2 rfl) ?_
                   refine lv_aload_n hx hb dX6_sortDown_32 rfl (lv_at hl 4 rfl) ?_
                   refine jalen (v := 8) hx hb hK hP (jc_1 cI cL ad σ23 τ) (of_decide_eq_true rfl) dX6_sortDown_33 ?_
                   refine lv_icmp_ge (tgt := 44) hx hb dX6_sortDown_34 (of_decide_eq_true rfl) (fun c42 => ?_) (fun c42 => ?_)
                   · have kc42 := jle c42 jz_8 rfl
                     obtain ⟨x43, ex43⟩ : ∃ y : Int32, y = x22 + 1 := ⟨_, rfl⟩
                     exact by
                      have tx43 : x43.toInt = x22.toInt + 1 := (jadd ex43 rfl jz_1 (by omega) (by omega)).trans (by omega)
                      refine lv_iinc (v := x43) (lv' := [(4, .int x43), (3, .int x8), (2, .int x21), (0, .ref (ad 16)), (1, .ref (ad 1))]) hx hb dX6_sortDown_44 hl (k := 0) rfl (by rw [ex43]; rfl) (of_decide_eq_true rfl) rfl (fun ls hl => ?_)
                      refine lv_goto (tgt := 11) hx hb dX6_sortDown_47 (of_decide_eq_true rfl) ?_
                      exact by exact ihlp19 x21 x43 σ23 _ _ ls (by have h91 := tx43; omega) (by have h91 := tx43; omega) (by have h91 := tx43; omega) (by have h91 := tx43; omega) (by have h91 := tx43; omega) (by have h91 := tx43; omega) (fun i hi => (f32 i hi))    hP hS (lv_sub hl [0, 1, 2, 3, 4] rfl)
                   · have kc42 := jnle c42 jz_8 rfl
                     refine lv_aload_n hx hb dX6_sortDown_37 rfl (lv_at hl 4 rfl) ?_
                     refine lv_iload_n hx hb dX6_sortDown_38 rfl (lv_at hl 2 rfl) ?_
                     obtain ⟨x44, ex44⟩ : ∃ y : Int32, y = x21 + 1 := ⟨_, rfl⟩
                     have tx44 : x44.toInt = x21.toInt + 1 := (jadd ex44 rfl jz_1 (by omega) (by omega)).trans (by omega)
                     exact by
                      refine lv_iinc (v := x44) (lv' := [(2, .int x44), (4, .int x22), (3, .int x8), (0, .ref (ad 16)), (1, .ref (ad 1))]) hx hb dX6_sortDown_39 hl (k := 2) rfl (by rw [ex44]; rfl) (of_decide_eq_true rfl) rfl (fun ls hl => ?_)
                      refine lv_iload_n hx hb dX6_sortDown_42 rfl (lv_at hl 2 rfl) ?_
                      refine jast hx hb hK hP hJ hA hS (jc_1 cI cL ad σ23 τ) (ja_1 cI cL ad σ23 τ _ _) (jin rfl (by omega) (by omega)) dX6_sortDown_43 (fun σ45 H locs eσ45 hP hS => ?_)
                      obtain ⟨x46, ex46⟩ : ∃ y : Int32, y = x22 + 1 := ⟨_, rfl⟩
                      have tx46 : x46.toInt = x22.toInt + 1 := (jadd ex46 rfl jz_1 (by omega) (by omega)).trans (by omega)
                      refine lv_iinc (v := x46) (lv' := [(4, .int x46), (2, .int x44), (3, .int x8), (0, .ref (ad 16)), (1, .ref (ad 1))]) hx hb dX6_sortDown_44 hl (k := 1) rfl (by rw [ex46]; rfl) (of_decide_eq_true rfl) rfl (fun ls hl => ?_)
                      refine lv_goto (tgt := 11) hx hb dX6_sortDown_47 (of_decide_eq_true rfl) ?_
                      have z47 : (σ45 16 0).toInt = (σ 16 0).toInt := (congrArg Int32.toInt (show σ45 16 0 = (σ 16 0) from ((congrFun (jnp 16 eσ45 (of_decide_eq_true rfl)) 0).trans m34)))
                      exact by exact ihlp19 x44 x46 σ45 _ _ ls (by have h90 := tx44; have h91 := tx46; omega) (by have h90 := tx44; have h91 := tx46; omega) (by have h90 := tx44; have h91 := tx46; omega) (by have h90 := tx44; have h91 := tx46; omega) (by have h90 := tx44; have h91 := tx46; omega) (by have h90 := tx44; have h91 := tx46; omega) (fun i hi => ((jnp i eσ45 (imp_42 i hi)).trans (f32 i hi)))    hP hS (lv_sub hl [0, 2, 1, 3, 4] rfl)
         exact by exact lp19 1000000 x7 0 σ10 _ _ ls (by have h91 := jz_0; omega) (by have h91 := jz_0; omega) (by have h91 := jz_0; omega) (by have h91 := jz_0; omega) (by have h91 := jz_0; omega) (by have h91 := jz_0; omega) (fun _ _ => rfl)   hP hS hl
  exact by exact lp5 1000000 0 3 σ _ _ ls (by have h90 := jz_0; have h91 := jz_3; omega) (by have h90 := jz_0; have h91 := jz_3; omega) (by have h90 := jz_0; have h91 := jz_3; omega) (by have h90 := jz_0; have h91 := jz_3; omega) (by have h90 := jz_0; have h91 := jz_3; omega) (fun _ _ => rfl)   hP hS hl
set_option maxHeartbeats 4000000 in
set_option maxRecDepth 100000 in
theorem c_X6_digits (l : Launch) (D : va_G) (cI cL : ClassId) (ad zz : Nat → Nat) (hJ : jD ad) (σ : Nat → Nat → Int32) (τ : Nat → Nat → Int64) (a2 : Int32) (A2 : Int) (t2 : a2.toInt = A2) : jM l yX6_digits cX6_digits 4 (some .int) ({ frames := 0, cells := 0, slots := 0, locals := 0 }) D cI cL ad zz [.ref (ad 1), .int a2] σ τ (fun r σ' τ' => (σ = σ' ∧ τ = τ') ∧ True) := by
  refine jM.of hJ (by decide +kernel) (nt := .int) rfl (Nat.le_of_ble_eq_true rfl) ?_
  intro p e s m args below meth c Q ls hC hret hl hP
  obtain ⟨hx, hb, hr, hml, hown, hts, hK, -, hlocks, hZ⟩ := hC
  have hown : s.vm.findClass RX6 = some m.cls := hown
  have hS : va_S (jA ad) s.heap s.heap [] := va_S.rf
  have hA : ∀ q, jA ad q → jA ad q := fun _ h => h
  have hl : lv_has ls 4 [(0, .ref (ad 1)), (1, .int a2)] := hl
  have g2 := jrg t2
  refine lv_iconst (v := 0) hx hb dX6_digits_0 (of_decide_eq_true rfl) ?_
  refine lv_istore_n (lv' := [(2, .int 0), (0, .ref (ad 1)), (1, .int a2)]) hx hb dX6_digits_1 rfl hl (of_decide_eq_true rfl) rfl (fun ls hl => ?_)
  refine lv_iconst (v := 0) hx hb dX6_digits_2 (of_decide_eq_true rfl) ?_
  refine lv_istore_n (lv' := [(3, .int 0), (2, .int 0), (0, .ref (ad 1)), (1, .int a2)]) hx hb dX6_digits_3 rfl hl (of_decide_eq_true rfl) rfl (fun ls hl => ?_)
  have lp1 : ∀ (n2 : Nat) (x3 : Int32) (x4 : Int32) (H : Heap) (locs : List Loc) (ls : Array Slot), (-x4.toInt + 8 : Int) < n2 → 0 ≤ x4.toInt → x4.toInt ≤ 8 → jH D cI cL ad σ τ H → va_S (jA ad) s.heap H locs → lv_has ls 4 [(3, .int x4), (2, .int x3), (0, .ref (ad 1)), (1, .int a2)] → W p l e ({ frames := 0, cells := 0, slots := 0, locals := 0 }) s m args below meth c H locs 0 0 Q (F0 m 4 ls []) := by
    intro n2
    induction n2 with
    | zero => intro x3 x4 H locs ls h6 h7 h8; have gx3 := jrg (rfl : x3.toInt = x3.toInt); exact absurd h6 (by omega)
    | succ n2 ihlp1 =>
      intro x3 x4 H locs ls h6 h7 h8 hP hS hl
      exact by
       have gx3 := jrg (rfl : x3.toInt = x3.toInt)
       refine lv_iload_n hx hb dX6_digits_4 rfl (lv_at hl 0 rfl) ?_
       refine lv_iload_n hx hb dX6_digits_5 rfl (lv_at hl 3 rfl) ?_
       refine lv_icmp_ge (tgt := 30) hx hb dX6_digits_6 (of_decide_eq_true rfl) (fun c10 => ?_) (fun c10 => ?_)
       · have kc10 := jle c10 t2 rfl
         refine lv_iload_n hx hb dX6_digits_30 rfl (lv_at hl 1 rfl) ?_
         exact hret x3 σ τ _ _ _ _ rfl ⟨⟨rfl, rfl⟩, trivial⟩ hP hS dX6_digits_31
       · have kc10 := jnle c10 t2 rfl
         refine lv_iload_n hx hb dX6_digits_9 rfl (lv_at hl 0 rfl) ?_
         refine lv_aload_n hx hb dX6_digits_10 rfl (lv_at hl 2 rfl) ?_
         refine jalen (v := 8) hx hb hK hP (jc_1 cI cL ad σ τ) (of_decide_eq_true rfl) dX6_digits_11 ?_
         refine lv_icmp_ge (tgt := 30) hx hb dX6_digits_12 (of_decide_eq_true rfl) (fun c11 => ?_) (fun c11 => ?_)
         · have kc11 := jle c11 jz_8 rfl
           refine lv_iload_n hx hb dX6_digits_30 rfl (lv_at hl 1 rfl) ?_
           exact hret x3 σ τ _ _ _ _ rfl ⟨⟨rfl, rfl⟩, trivial⟩ hP hS dX6_digits_31
         · have kc11 := jnle c11 jz_8 rfl
           refine lv_iload_n hx hb dX6_digits_15 rfl (lv_at hl 1 rfl) ?_
           refine lv_bipush (v := 10) hx hb dX6_digits_16 (of_decide_eq_true rfl) ?_
           have g12 := jrg (rfl : x3.toInt = x3.toInt)
           refine lv_imul hx hb dX6_digits_18 ?_
           refine lv_topi (fun x13 ex13 => ?_)
           have gx13 := jrg (rfl : x13.toInt = x13.toInt)
           refine lv_aload_n hx hb dX6_digits_19 rfl (lv_at hl 2 rfl) ?_
           refine lv_iload_n hx hb dX6_digits_20 rfl (lv_at hl 0 rfl) ?_
           exact by
            refine jald hx hb hK hP (jc_1 cI cL ad σ τ) (jin rfl (by omega) (by omega)) dX6_digits_21 ?_
            refine lv_topi (fun x14 ex14 => ?_)
            have g15 := jrg (rfl : x13.toInt = x13.toInt)
            have g16 := jrg (rfl : x14.toInt = x14.toInt)
            refine lv_iadd hx hb dX6_digits_22 ?_
            refine lv_topi (fun x17 ex17 => ?_)
            have gx17 := jrg (rfl : x17.toInt = x17.toInt)
            refine lv_istore_n (lv' := [(2, .int x17), (3, .int x4), (0, .ref (ad 1)), (1, .int a2)]) hx hb dX6_digits_23 rfl hl (of_decide_eq_true rfl) rfl (fun ls hl => ?_)
            obtain ⟨x18, ex18⟩ : ∃ y : Int32, y = x4 + 1 := ⟨_, rfl⟩
            exact by
             have tx18 : x18.toInt = x4.toInt + 1 := (jadd ex18 rfl jz_1 (by omega) (by omega)).trans (by omega)
             refine lv_iinc (v := x18) (lv' := [(3, .int x18), (2, .int x17), (0, .ref (ad 1)), (1, .int a2)]) hx hb dX6_digits_24 hl (k := 1) rfl (by rw [ex18]; rfl) (of_decide_eq_true rfl) rfl (fun ls hl => ?_)
             refine lv_goto (tgt := 4) hx hb dX6_digits_27 (of_decide_eq_true rfl) ?_
             exact by exact ihlp1 x17 x18 _ _ ls (by have h91 := tx18; omega) (by have h91 := tx18; omega) (by have h91 := tx18; omega)    hP hS (lv_sub hl [0, 1, 2, 3] rfl)
  exact by exact lp1 1000000 0 0 _ _ ls (by have h90 := jz_0; have h91 := jz_0; omega) (by have h90 := jz_0; have h91 := jz_0; omega) (by have h90 := jz_0; have h91 := jz_0; omega)   hP hS hl
set_option maxHeartbeats 4000000 in
set_option maxRecDepth 100000 in
theorem c_X6_swap (l : Launch) (D : va_G) (cI cL : ClassId) (ad zz : Nat → Nat) (hJ : jD ad) (σ : Nat → Nat → Int32) (τ : Nat → Nat → Int64) (a2 : Int32) (A2 : Int) (t2 : a2.toInt = A2) (a3 : Int32) (A3 : Int) (t3 : a3.toInt = A3) (hp0 : 0 ≤ A2 ∧ A2 ≤ 7) (hp1 : 0 ≤ A3 ∧ A3 ≤ 7) : jMv l yX6_swap cX6_swap 4 none ({ frames := 0, cells := 0, slots := 0, locals := 0 }) D cI cL ad zz [.ref (ad 1), .int a2, .int a3] σ τ (fun σ' τ' => τ = τ' ∧ (∀ i : Nat, (i < 1 ∨ 1 < i) → σ' i = σ i) ∧ True) := by
  refine jMv.of hJ (by decide +kernel) rfl (Nat.le_of_ble_eq_true rfl) ?_
  intro p e s m args below meth c Q ls hC hret hl hP
  obtain ⟨hx, hb, hr, hml, hown, hts, hK, -, hlocks, hZ⟩ := hC
  have hown : s.vm.findClass RX6 = some m.cls := hown
  have hS : va_S (jA ad) s.heap s.heap [] := va_S.rf
  have hA : ∀ q, jA ad q → jA ad q := fun _ h => h
  have hl : lv_has ls 4 [(0, .ref (ad 1)), (1, .int a2), (2, .int a3)] := hl
  have g2 := jrg t2
  have g3 := jrg t3
  refine lv_aload_n hx hb dX6_swap_0 rfl (lv_at hl 0 rfl) ?_
  refine lv_iload_n hx hb dX6_swap_1 rfl (lv_at hl 1 rfl) ?_
  exact by
   refine jald hx hb hK hP (jc_1 cI cL ad σ τ) (jin t2 (by omega) (by omega)) dX6_swap_2 ?_
   refine lv_topi (fun x1 ex1 => ?_)
   refine lv_istore_n (lv' := [(3, .int x1), (0, .ref (ad 1)), (1, .int a2), (2, .int a3)]) hx hb dX6_swap_3 rfl hl (of_decide_eq_true rfl) rfl (fun ls hl => ?_)
   refine lv_aload_n hx hb dX6_swap_4 rfl (lv_at hl 1 rfl) ?_
   refine lv_iload_n hx hb dX6_swap_5 rfl (lv_at hl 2 rfl) ?_
   refine lv_aload_n hx hb dX6_swap_6 rfl (lv_at hl 1 rfl) ?_
   refine lv_iload_n hx hb dX6_swap_7 rfl (lv_at hl 3 rfl) ?_
   refine jald hx hb hK hP (jc_1 cI cL ad σ τ) (jin t3 (by omega) (by omega)) dX6_swap_8 ?_
   refine lv_topi (fun x2 ex2 => ?_)
   exact by
    refine jast hx hb hK hP hJ hA hS (jc_1 cI cL ad σ τ) (ja_1 cI cL ad σ τ _ _) (jin t2 (by omega) (by omega)) dX6_swap_9 (fun σ3 H locs eσ3 hP hS => ?_)
    refine lv_aload_n hx hb dX6_swap_10 rfl (lv_at hl 1 rfl) ?_
    refine lv_iload_n hx hb dX6_swap_11 rfl (lv_at hl 3 rfl) ?_
    refine lv_iload_n hx hb dX6_swap_12 rfl (lv_at hl 0 rfl) ?_
    refine jast hx hb hK hP hJ hA hS (jc_1 cI cL ad σ3 τ) (ja_1 cI cL ad σ3 τ _ _) (jin t3 (by omega) (by omega)) dX6_swap_13 (fun σ4 H locs eσ4 hP hS => ?_)
    exact hret σ4 τ _ _ _ _ ⟨rfl, (fun i hi => ((jnp i eσ4 (imp_42 i hi)).trans (jnp i eσ3 (imp_42 i hi)))), trivial⟩ hP hS dX6_swap_14
set_option maxHeartbeats 4000000 in
set_option maxRecDepth 100000 in
theorem c_X6_turnOn (l : Launch) (D : va_G) (cI cL : ClassId) (ad zz : Nat → Nat) (hJ : jD ad) (σ : Nat → Nat → Int32) (τ : Nat → Nat → Int64) (a2 : Int32) (A2 : Int) (t2 : a2.toInt = A2) (hp0 : 1 ≤ A2 ∧ A2 ≤ 8) : jM l yX6_turnOn cX6_turnOn 7 (some .int) ({ frames := 1, cells := 0, slots := 0, locals := 23 }) D cI cL ad zz [.ref (ad 1), .int a2] σ τ (fun r σ' τ' => τ = τ' ∧ (∀ i : Nat, (i < 1 ∨ 1 < i) → σ' i = σ i) ∧ True) := by
  refine jM.of hJ (by decide +kernel) (nt := .int) rfl (Nat.le_of_ble_eq_true rfl) ?_
  intro p e s m args below meth c Q ls hC hret hl hP
  obtain ⟨hx, hb, hr, hml, hown, hts, hK, -, hlocks, hZ⟩ := hC
  have hown : s.vm.findClass RX6 = some m.cls := hown
  have hS : va_S (jA ad) s.heap s.heap [] := va_S.rf
  have hA : ∀ q, jA ad q → jA ad q := fun _ h => h
  have hl : lv_has ls 7 [(0, .ref (ad 1)), (1, .int a2)] := hl
  have g2 := jrg t2
  refine lv_iload_n hx hb dX6_turnOn_0 rfl (lv_at hl 1 rfl) ?_
  refine lv_aload_n hx hb dX6_turnOn_1 rfl (lv_at hl 0 rfl) ?_
  refine jalen (v := 8) hx hb hK hP (jc_1 cI cL ad σ τ) (of_decide_eq_true rfl) dX6_turnOn_2 ?_
  refine va_mmin hx hb (hml.trans hl.1.symm) hown (hts _ kw_40_9) (hts _ kw_22_11) (hts _ kw_21_1) (hts _ kw_22_12) (Nat.le_of_ble_eq_true rfl) (Nat.le_of_ble_eq_true rfl) (Nat.le_of_ble_eq_true rfl) (Nat.le_of_ble_eq_true rfl) dX6_turnOn_3 ?_
  refine lv_topi (fun x1 ex1 => ?_)
  have g2 := jmin ex1 t2 jz_8
  refine lv_istore_n (lv' := [(2, .int x1), (0, .ref (ad 1)), (1, .int a2)]) hx hb dX6_turnOn_6 rfl hl (of_decide_eq_true rfl) rfl (fun ls hl => ?_)
  refine lv_iconst (v := 1) hx hb dX6_turnOn_7 (of_decide_eq_true rfl) ?_
  refine lv_istore_n (lv' := [(3, .int 1), (2, .int x1), (0, .ref (ad 1)), (1, .int a2)]) hx hb dX6_turnOn_8 rfl hl (of_decide_eq_true rfl) rfl (fun ls hl => ?_)
  have lp3 : ∀ (n4 : Nat) (x5 : Int32) (H : Heap) (locs : List Loc) (ls : Array Slot), (-x5.toInt + 8 : Int) < n4 → 1 ≤ x5.toInt → x5.toInt ≤ 8 → jH D cI cL ad σ τ H → va_S (jA ad) s.heap H locs → lv_has ls 7 [(3, .int x5), (2, .int x1), (0, .ref (ad 1)), (1, .int a2)] → W p l e ({ frames := 1, cells := 0, slots := 0, locals := 23 }) s m args below meth c H locs 0 0 Q (F0 m 9 ls []) := by
    intro n4
    induction n4 with
    | zero => intro x5 H locs ls h7 h8 h9; exact absurd h7 (by omega)
    | succ n4 ihlp3 =>
      intro x5 H locs ls h7 h8 h9 hP hS hl
      exact by
       refine lv_iload_n hx hb dX6_turnOn_9 rfl (lv_at hl 0 rfl) ?_
       refine lv_iload_n hx hb dX6_turnOn_10 rfl (lv_at hl 1 rfl) ?_
       refine lv_icmp_ge (tgt := 31) hx hb dX6_turnOn_11 (of_decide_eq_true rfl) (fun c11 => ?_) (fun c11 => ?_)
       · have kc11 := jle c11 rfl rfl
         refine lv_iload_n hx hb dX6_turnOn_31 rfl (lv_at hl 0 rfl) ?_
         refine lv_iload_n hx hb dX6_turnOn_32 rfl (lv_at hl 1 rfl) ?_
         refine lv_icmp_lt (tgt := 38) hx hb dX6_turnOn_33 (of_decide_eq_true rfl) (fun c => absurd (jlt c rfl rfl) (by omega)) (fun c12 => ?_)
         have kc12 := jnlt c12 rfl rfl
         refine lv_iconst (v := (-1)) hx hb dX6_turnOn_36 (of_decide_eq_true rfl) ?_
         exact hret (-1) σ τ _ _ _ _ rfl ⟨rfl, (fun _ _ => rfl), trivial⟩ hP hS dX6_turnOn_37
       · exact by
          have kc11 := jnle c11 rfl rfl
          refine lv_aload_n hx hb dX6_turnOn_14 rfl (lv_at hl 2 rfl) ?_
          refine lv_iload_n hx hb dX6_turnOn_15 rfl (lv_at hl 0 rfl) ?_
          refine jald hx hb hK hP (jc_1 cI cL ad σ τ) (jin rfl (by omega) (by omega)) dX6_turnOn_16 ?_
          refine lv_topi (fun x13 ex13 => ?_)
          refine lv_aload_n hx hb dX6_turnOn_17 rfl (lv_at hl 2 rfl) ?_
          refine lv_iload_n hx hb dX6_turnOn_18 rfl (lv_at hl 0 rfl) ?_
          refine lv_iconst (v := 1) hx hb dX6_turnOn_19 (of_decide_eq_true rfl) ?_
          have g14 := jrg (rfl : x5.toInt = x5.toInt)
          exact by
           refine lv_isub hx hb dX6_turnOn_20 ?_
           refine lv_topi (fun x15 ex15 => ?_)
           have tx15 : x15.toInt = x5.toInt - 1 := (jsub ex15 rfl jz_1 (by omega) (by omega)).trans (by omega)
           refine jald hx hb hK hP (jc_1 cI cL ad σ τ) (jin tx15 (by omega) (by omega)) dX6_turnOn_21 ?_
           refine lv_topi (fun x16 ex16 => ?_)
           refine lv_icmp_lt (tgt := 31) hx hb dX6_turnOn_22 (of_decide_eq_true rfl) (fun c17 => ?_) (fun c17 => ?_)
           · have kc17 := jlt c17 rfl rfl
             refine lv_iload_n hx hb dX6_turnOn_31 rfl (lv_at hl 0 rfl) ?_
             refine lv_iload_n hx hb dX6_turnOn_32 rfl (lv_at hl 1 rfl) ?_
             exact by
              refine lv_icmp_lt (tgt := 38) hx hb dX6_turnOn_33 (of_decide_eq_true rfl) (fun c18 => ?_) (fun c => absurd (jnlt c rfl rfl) (by omega))
              have kc18 := jlt c18 rfl rfl
              refine lv_iconst (v := 0) hx hb dX6_turnOn_38 (of_decide_eq_true rfl) ?_
              refine lv_istore (lv' := [(4, .int 0), (3, .int x5), (2, .int x1), (0, .ref (ad 1)), (1, .int a2)]) hx hb dX6_turnOn_39 hl (of_decide_eq_true rfl) rfl (fun ls hl => ?_)
              have lp19 : ∀ (n20 : Nat) (x21 : Int32) (H : Heap) (locs : List Loc) (ls : Array Slot), (x5.toInt - x21.toInt : Int) < n20 → 0 ≤ x21.toInt → x21.toInt ≤ 8 → x21.toInt ≤ x5.toInt → jH D cI cL ad σ τ H → va_S (jA ad) s.heap H locs → lv_has ls 7 [(4, .int x21), (3, .int x5), (2, .int x1), (0, .ref (ad 1)), (1, .int a2)] → W p l e ({ frames := 1, cells := 0, slots := 0, locals := 23 }) s m args below meth c H locs 0 0 Q (F0 m 41 ls []) := by
                intro n20
                induction n20 with
                | zero => intro x21 H locs ls h23 h24 h25 h26; exact absurd h23 (by omega)
                | succ n20 ihlp19 =>
                  intro x21 H locs ls h23 h24 h25 h26 hP hS hl
                  exact by
                   refine lv_iload hx hb dX6_turnOn_41 (lv_at hl 0 rfl) ?_
                   refine lv_iload_n hx hb dX6_turnOn_43 rfl (lv_at hl 1 rfl) ?_
                   refine lv_icmp_ge (tgt := 63) hx hb dX6_turnOn_44 (of_decide_eq_true rfl) (fun c28 => ?_) (fun c28 => ?_)
                   · have kc28 := jle c28 rfl rfl
                     refine lv_aload_n hx hb dX6_turnOn_63 rfl (lv_at hl 3 rfl) ?_
                     refine lv_iload_n hx hb dX6_turnOn_64 rfl (lv_at hl 1 rfl) ?_
                     refine lv_iload hx hb dX6_turnOn_65 (lv_at hl 0 rfl) ?_
                     refine jcallSv (As := [.ref (ad 1), .int x5, .int x21]) (rest := []) ⟨hx, hb, hml, hown, hts⟩ hK hP hA hS hZ (c_X6_swap l D cI cL ad zz hJ σ τ x5 (x5.toInt) rfl x21 (x21.toInt) rfl (by omega) (by omega)) cw_RX6_37 ⟨Nat.le_of_ble_eq_true rfl, Nat.le_of_ble_eq_true rfl⟩ rfl rfl rfl hl.1 rfl (Nat.le_of_ble_eq_true rfl) dX6_turnOn_67 ⟨Nat.zero_le _, Nat.zero_le _⟩ (fun σ29 τ29 H locs h29 hP hS => ?_)
                     obtain ⟨rfl, f31, h29⟩ := h29
                     exact by
                      refine lv_iconst (v := 0) hx hb dX6_turnOn_70 (of_decide_eq_true rfl) ?_
                      refine lv_istore (lv' := [(5, .int 0), (4, .int x21), (3, .int x5), (2, .int x1), (0, .ref (ad 1)), (1, .int a2)]) hx hb dX6_turnOn_71 hl (of_decide_eq_true rfl) rfl (fun ls hl => ?_)
                      refine lv_iload_n hx hb dX6_turnOn_73 rfl (lv_at hl 2 rfl) ?_
                      refine lv_iconst (v := 1) hx hb dX6_turnOn_74 (of_decide_eq_true rfl) ?_
                      refine lv_isub hx hb dX6_turnOn_75 ?_
                      refine lv_topi (fun x33 ex33 => ?_)
                      have tx33 : x33.toInt = x5.toInt - 1 := (jsub ex33 rfl jz_1 (by omega) (by omega)).trans (by omega)
                      refine lv_istore (lv' := [(6, .int x33), (5, .int 0), (4, .int x21), (3, .int x5), (2, .int x1), (0, .ref (ad 1)), (1, .int a2)]) hx hb dX6_turnOn_76 hl (of_decide_eq_true rfl) rfl (fun ls hl => ?_)
                      have lp34 : ∀ (n35 : Nat) (x36 : Int32) (x37 : Int32) (σ38 : Nat → Nat → Int32) (H : Heap) (locs : List Loc) (ls : Array Slot), (-x36.toInt + 8 : Int) < n35 → 0 ≤ x36.toInt → x36.toInt ≤ 8 → (-1) ≤ x37.toInt → x37.toInt ≤ 7 → (∀ i : Nat, (i < 1 ∨ 1 < i) → σ38 i = σ29 i) → jH D cI cL ad σ38 τ H → va_S (jA ad) s.heap H locs → lv_has ls 7 [(6, .int x37), (5, .int x36), (4, .int x21), (3, .int x5), (2, .int x1), (0, .ref (ad 1)), (1, .int a2)] → W p l e ({ frames := 1, cells := 0, slots := 0, locals := 23 }) s m args below meth c H locs 0 0 Q (F0 m 78 ls []) := by
                        intro n35
                        induction n35 with
                        | zero => intro x36 x37 σ38 H locs ls h40 h41 h42 h43 h44; exact absurd h40 (by omega)
                        | succ n35 ihlp34 =>
                          intro x36 x37 σ38 H locs ls h40 h41 h42 h43 h44 f45 hP hS hl
                          exact by
                           refine lv_iload hx hb dX6_turnOn_78 (lv_at hl 1 rfl) ?_
                           refine lv_iload hx hb dX6_turnOn_80 (lv_at hl 0 rfl) ?_
                           refine lv_icmp_ge (tgt := 102) hx hb dX6_turnOn_82 (of_decide_eq_true rfl) (fun c46 => ?_) (fun c46 => ?_)
                           · have kc46 := jle c46 rfl rfl
                             refine lv_iload_n hx hb dX6_turnOn_102 rfl (lv_at hl 3 rfl) ?_
                             exact hret x5 σ38 τ _ _ _ _ rfl ⟨rfl, (fun i hi => ((f45 i hi).trans (f31 i hi))), trivial⟩ hP hS dX6_turnOn_103
                           · have kc46 := jnle c46 rfl rfl
                             refine lv_aload_n hx hb dX6_turnOn_85 rfl (lv_at hl 5 rfl) ?_
                             refine lv_iload hx hb dX6_turnOn_86 (lv_at hl 1 rfl) ?_
                             refine lv_iload hx hb dX6_turnOn_88 (lv_at hl 0 rfl) ?_
                             exact by
                              refine jcallSv (As := [.ref (ad 1), .int x36, .int x37]) (rest := []) ⟨hx, hb, hml, hown, hts⟩ hK hP hA hS hZ (c_X6_swap l D cI cL ad zz hJ σ38 τ x36 (x36.toInt) rfl x37 (x37.toInt) rfl (by omega) (by omega)) cw_RX6_37 ⟨Nat.le_of_ble_eq_true rfl, Nat.le_of_ble_eq_true rfl⟩ rfl rfl rfl hl.1 rfl (Nat.le_of_ble_eq_true rfl) dX6_turnOn_90 ⟨Nat.zero_le _, Nat.zero_le _⟩ (fun σ47 τ47 H locs h47 hP hS => ?_)
                              obtain ⟨rfl, f49, h47⟩ := h47
                              obtain ⟨x51, ex51⟩ : ∃ y : Int32, y = x36 + 1 := ⟨_, rfl⟩
                              have tx51 : x51.toInt = x36.toInt + 1 := (jadd ex51 rfl jz_1 (by omega) (by omega)).trans (by omega)
                              refine lv_iinc (v := x51) (lv' := [(5, .int x51), (6, .int x37), (4, .int x21), (3, .int x5), (2, .int x1), (0, .ref (ad 1)), (1, .int a2)]) hx hb dX6_turnOn_93 hl (k := 1) rfl (by rw [ex51]; rfl) (of_decide_eq_true rfl) rfl (fun ls hl => ?_)
                              obtain ⟨x52, ex52⟩ : ∃ y : Int32, y = x37 + (-1) := ⟨_, rfl⟩
                              have tx52 : x52.toInt = x37.toInt - 1 := (jadd ex52 rfl jz_m1 (by omega) (by omega)).trans (by omega)
                              refine lv_iinc (v := x52) (lv' := [(6, .int x52), (5, .int x51), (4, .int x21), (3, .int x5), (2, .int x1), (0, .ref (ad 1)), (1, .int a2)]) hx hb dX6_turnOn_96 hl (k := 1) rfl (by rw [ex52]; rfl) (of_decide_eq_true rfl) rfl (fun ls hl => ?_)
                              refine lv_goto (tgt := 78) hx hb dX6_turnOn_99 (of_decide_eq_true rfl) ?_
                              exact by exact ihlp34 x51 x52 σ47 _ _ ls (by have h90 := tx51; have h91 := tx52; omega) (by have h90 := tx51; have h91 := tx52; omega) (by have h90 := tx51; have h91 := tx52; omega) (by have h90 := tx51; have h91 := tx52; omega) (by have h90 := tx51; have h91 := tx52; omega) (fun i hi => ((f49 i hi).trans (f45 i hi)))    hP hS (lv_sub hl [0, 1, 2, 3, 4, 5, 6] rfl)
                      exact by exact lp34 1000000 0 x33 σ29 _ _ ls (by have h90 := jz_0; have h91 := tx33; omega) (by have h90 := jz_0; have h91 := tx33; omega) (by have h90 := jz_0; have h91 := tx33; omega) (by have h90 := jz_0; have h91 := tx33; omega) (by have h90 := jz_0; have h91 := tx33; omega) (fun _ _ => rfl)   hP hS hl
                   · exact by
                      have kc28 := jnle c28 rfl rfl
                      refine lv_aload_n hx hb dX6_turnOn_47 rfl (lv_at hl 3 rfl) ?_
                      refine lv_iload hx hb dX6_turnOn_48 (lv_at hl 0 rfl) ?_
                      refine jald hx hb hK hP (jc_1 cI cL ad σ τ) (jin rfl (by omega) (by omega)) dX6_turnOn_50 ?_
                      refine lv_topi (fun x53 ex53 => ?_)
                      refine lv_aload_n hx hb dX6_turnOn_51 rfl (lv_at hl 3 rfl) ?_
                      refine lv_iload_n hx hb dX6_turnOn_52 rfl (lv_at hl 1 rfl) ?_
                      refine jald hx hb hK hP (jc_1 cI cL ad σ τ) (jin rfl (by omega) (by omega)) dX6_turnOn_53 ?_
                      refine lv_topi (fun x54 ex54 => ?_)
                      exact by
                       refine lv_icmp_gt (tgt := 63) hx hb dX6_turnOn_54 (of_decide_eq_true rfl) (fun c55 => ?_) (fun c55 => ?_)
                       · have kc55 := jlt c55 rfl rfl
                         refine lv_aload_n hx hb dX6_turnOn_63 rfl (lv_at hl 3 rfl) ?_
                         refine lv_iload_n hx hb dX6_turnOn_64 rfl (lv_at hl 1 rfl) ?_
                         refine lv_iload hx hb dX6_turnOn_65 (lv_at hl 0 rfl) ?_
                         refine jcallSv (As := [.ref (ad 1), .int x5, .int x21]) (rest := []) ⟨hx, hb, hml, hown, hts⟩ hK hP hA hS hZ (c_X6_swap l D cI cL ad zz hJ σ τ x5 (x5.toInt) rfl x21 (x21.toInt) rfl (by omega) (by omega)) cw_RX6_37 ⟨Nat.le_of_ble_eq_true rfl, Nat.le_of_ble_eq_true rfl⟩ rfl rfl rfl hl.1 rfl (Nat.le_of_ble_eq_true rfl) dX6_turnOn_67 ⟨Nat.zero_le _, Nat.zero_le _⟩ (fun σ56 τ56 H locs h56 hP hS => ?_)
                         obtain ⟨rfl, f58, h56⟩ := h56
                         refine lv_iconst (v := 0) hx hb dX6_turnOn_70 (of_decide_eq_true rfl) ?_
                         refine lv_istore (lv' := [(5, .int 0), (4, .int x21), (3, .int x5), (2, .int x1), (0, .ref (ad 1)), (1, .int a2)]) hx hb dX6_turnOn_71 hl (of_decide_eq_true rfl) rfl (fun ls hl => ?_)
                         exact by
                          refine lv_iload_n hx hb dX6_turnOn_73 rfl (lv_at hl 2 rfl) ?_
                          refine lv_iconst (v := 1) hx hb dX6_turnOn_74 (of_decide_eq_true rfl) ?_
                          refine lv_isub hx hb dX6_turnOn_75 ?_
                          refine lv_topi (fun x60 ex60 => ?_)
                          have tx60 : x60.toInt = x5.toInt - 1 := (jsub ex60 rfl jz_1 (by omega) (by omega)).trans (by omega)
                          refine lv_istore (lv' := [(6, .int x60), (5, .int 0), (4, .int x21), (3, .int x5), (2, .int x1), (0, .ref (ad 1)), (1, .int a2)]) hx hb dX6_turnOn_76 hl (of_decide_eq_true rfl) rfl (fun ls hl => ?_)
                          have lp61 : ∀ (n62 : Nat) (x63 : Int32) (x64 : Int32) (σ65 : Nat → Nat → Int32) (H : Heap) (locs : List Loc) (ls : Array Slot), (-x63.toInt + 8 : Int) < n62 → 0 ≤ x63.toInt → x63.toInt ≤ 8 → (-1) ≤ x64.toInt → x64.toInt ≤ 7 → (∀ i : Nat, (i < 1 ∨ 1 < i) → σ65 i = σ56 i) → jH D cI cL ad σ65 τ H → va_S (jA ad) s.heap H locs → lv_has ls 7 [(6, .int x64), (5, .int x63), (4, .int x21), (3, .int x5), (2, .int x1), (0, .ref (ad 1)), (1, .int a2)] → W p l e ({ frames := 1, cells := 0, slots := 0, locals := 23 }) s m args below meth c H locs 0 0 Q (F0 m 78 ls []) := by
                            intro n62
                            induction n62 with
                            | zero => intro x63 x64 σ65 H locs ls h67 h68 h69 h70 h71; exact absurd h67 (by omega)
                            | succ n62 ihlp61 =>
                              intro x63 x64 σ65 H locs ls h67 h68 h69 h70 h71 f72 hP hS hl
                              exact by
                               refine lv_iload hx hb dX6_turnOn_78 (lv_at hl 1 rfl) ?_
                               refine lv_iload hx hb dX6_turnOn_80 (lv_at hl 0 rfl) ?_
                               refine lv_icmp_ge (tgt := 102) hx hb dX6_turnOn_82 (of_decide_eq_true rfl) (fun c73 => ?_) (fun c73 => ?_)
                               · have kc73 := jle c73 rfl rfl
                                 refine lv_iload_n hx hb dX6_turnOn_102 rfl (lv_at hl 3 rfl) ?_
                                 exact hret x5 σ65 τ _ _ _ _ rfl ⟨rfl, (fun i hi => ((f72 i hi).trans (f58 i hi))), trivial⟩ hP hS dX6_turnOn_103
                               · have kc73 := jnle c73 rfl rfl
                                 refine lv_aload_n hx hb dX6_turnOn_85 rfl (lv_at hl 5 rfl) ?_
                                 refine lv_iload hx hb dX6_turnOn_86 (lv_at hl 1 rfl) ?_
                                 refine lv_iload hx hb dX6_turnOn_88 (lv_at hl 0 rfl) ?_
                                 exact by
                                  refine jcallSv (As := [.ref (ad 1), .int x63, .int x64]) (rest := []) ⟨hx, hb, hml, hown, hts⟩ hK hP hA hS hZ (c_X6_swap l D cI cL ad zz hJ σ65 τ x63 (x63.toInt) rfl x64 (x64.toInt) rfl (by omega) (by omega)) cw_RX6_37 ⟨Nat.le_of_ble_eq_true rfl, Nat.le_of_ble_eq_true rfl⟩ rfl rfl rfl hl.1 rfl (Nat.le_of_ble_eq_true rfl) dX6_turnOn_90 ⟨Nat.zero_le _, Nat.zero_le _⟩ (fun σ74 τ74 H locs h74 hP hS => ?_)
                                  obtain ⟨rfl, f76, h74⟩ := h74
                                  obtain ⟨x78, ex78⟩ : ∃ y : Int32, y = x63 + 1 := ⟨_, rfl⟩
                                  have tx78 : x78.toInt = x63.toInt + 1 := (jadd ex78 rfl jz_1 (by omega) (by omega)).trans (by omega)
                                  refine lv_iinc (v := x78) (lv' := [(5, .int x78), (6, .int x64), (4, .int x21), (3, .int x5), (2, .int x1), (0, .ref (ad 1)), (1, .int a2)]) hx hb dX6_turnOn_93 hl (k := 1) rfl (by rw [ex78]; rfl) (of_decide_eq_true rfl) rfl (fun ls hl => ?_)
                                  obtain ⟨x79, ex79⟩ : ∃ y : Int32, y = x64 + (-1) := ⟨_, rfl⟩
                                  have tx79 : x79.toInt = x64.toInt - 1 := (jadd ex79 rfl jz_m1 (by omega) (by omega)).trans (by omega)
                                  refine lv_iinc (v := x79) (lv' := [(6, .int x79), (5, .int x78), (4, .int x21), (3, .int x5), (2, .int x1), (0, .ref (ad 1)), (1, .int a2)]) hx hb dX6_turnOn_96 hl (k := 1) rfl (by rw [ex79]; rfl) (of_decide_eq_true rfl) rfl (fun ls hl => ?_)
                                  refine lv_goto (tgt := 78) hx hb dX6_turnOn_99 (of_decide_eq_true rfl) ?_
                                  exact by exact ihlp61 x78 x79 σ74 _ _ ls (by have h90 := tx78; have h91 := tx79; omega) (by have h90 := tx78; have h91 := tx79; omega) (by have h90 := tx78; have h91 := tx79; omega) (by have h90 := tx78; have h91 := tx79; omega) (by have h90 := tx78; have h91 := tx79; omega) (fun i hi => ((f76 i hi).trans (f72 i hi)))    hP hS (lv_sub hl [0, 1, 2, 3, 4, 5, 6] rfl)
                          exact by exact lp61 1000000 0 x60 σ56 _ _ ls (by have h90 := jz_0; have h91 := tx60; omega) (by have h90 := jz_0; have h91 := tx60; omega) (by have h90 := jz_0; have h91 := tx60; omega) (by have h90 := jz_0; have h91 := tx60; omega) (by have h90 := jz_0; have h91 := tx60; omega) (fun _ _ => rfl)   hP hS hl
                       · exact by
                          have kc55 := jnlt c55 rfl rfl
                          obtain ⟨x80, ex80⟩ : ∃ y : Int32, y = x21 + 1 := ⟨_, rfl⟩
                          have tx80 : x80.toInt = x21.toInt + 1 := (jadd ex80 rfl jz_1 (by omega) (by omega)).trans (by omega)
                          refine lv_iinc (v := x80) (lv' := [(4, .int x80), (3, .int x5), (2, .int x1), (0, .ref (ad 1)), (1, .int a2)]) hx hb dX6_turnOn_57 hl (k := 0) rfl (by rw [ex80]; rfl) (of_decide_eq_true rfl) rfl (fun ls hl => ?_)
                          refine lv_goto (tgt := 41) hx hb dX6_turnOn_60 (of_decide_eq_true rfl) ?_
                          exact by exact ihlp19 x80 _ _ ls (by have h90 := tx80; omega) (by have h90 := tx80; omega) (by have h90 := tx80; omega) (by have h90 := tx80; omega)    hP hS (lv_sub hl [0, 1, 2, 3, 4] rfl)
              exact by exact lp19 1000000 0 _ _ ls (by have h90 := jz_0; omega) (by have h90 := jz_0; omega) (by have h90 := jz_0; omega) (by have h90 := jz_0; omega)   hP hS hl
           · have kc17 := jnlt c17 rfl rfl
             obtain ⟨x81, ex81⟩ : ∃ y : Int32, y = x5 + 1 := ⟨_, rfl⟩
             exact by
              have tx81 : x81.toInt = x5.toInt + 1 := (jadd ex81 rfl jz_1 (by omega) (by omega)).trans (by omega)
              refine lv_iinc (v := x81) (lv' := [(3, .int x81), (2, .int x1), (0, .ref (ad 1)), (1, .int a2)]) hx hb dX6_turnOn_25 hl (k := 0) rfl (by rw [ex81]; rfl) (of_decide_eq_true rfl) rfl (fun ls hl => ?_)
              refine lv_goto (tgt := 9) hx hb dX6_turnOn_28 (of_decide_eq_true rfl) ?_
              exact by exact ihlp3 x81 _ _ ls (by have h90 := tx81; omega) (by have h90 := tx81; omega) (by have h90 := tx81; omega)    hP hS (lv_sub hl [0, 1, 2, 3] rfl)
  exact by exact lp3 1000000 1 _ _ ls (by have h90 := jz_1; omega) (by have h90 := jz_1; omega) (by have h90 := jz_1; omega)   hP hS hl
set_option maxHeartbeats 4000000 in
set_option maxRecDepth 100000 in
theorem c_X5_lay_26 (l : Launch) (D : va_G) (cI cL : ClassId) (ad zz : Nat → Nat) (hJ : jD ad) (σ : Nat → Nat → Int32) (τ : Nat → Nat → Int64) (a1 : Int32) (A1 : Int) (t1 : a1.toInt = A1) : jMv l yX5_lay cX5_lay 7 none ({ frames := 2, cells := 0, slots := 0, locals := 44 }) D cI cL ad zz [.ref (ad 26), .int a1] σ τ (fun σ' τ' => τ = τ' ∧ (∀ i : Nat, (i < 27 ∨ 28 < i) → σ' i = σ i) ∧ True) := by
  refine jMv.of hJ (by decide +kernel) rfl (Nat.le_of_ble_eq_true rfl) ?_
  intro p e s m args below meth c Q ls hC hret hl hP
  obtain ⟨hx, hb, hr, hml, hown, hts, hK, -, hlocks, hZ⟩ := hC
  have hown : s.vm.findClass RX5 = some m.cls := hown
  have hS : va_S (jA ad) s.heap s.heap [] := va_S.rf
  have hA : ∀ q, jA ad q → jA ad q := fun _ h => h
  have hl : lv_has ls 7 [(0, .ref (ad 26)), (1, .int a1)] := hl
  have g1 := jrg t1
  refine lv_iconst (v := 0) hx hb dX5_lay_0 (of_decide_eq_true rfl) ?_
  refine lv_istore_n (lv' := [(2, .int 0), (0, .ref (ad 26)), (1, .int a1)]) hx hb dX5_lay_1 rfl hl (of_decide_eq_true rfl) rfl (fun ls hl => ?_)
  have lp1 : ∀ (n2 : Nat) (x3 : Int32) (σ8 : Nat → Nat → Int32) (H : Heap) (locs : List Loc) (ls : Array Slot), (-x3.toInt + 4 : Int) < n2 → 0 ≤ x3.toInt → x3.toInt ≤ 4 → (∀ i : Nat, (i < 27 ∨ 28 < i) → σ8 i = σ i) → jH D cI cL ad σ8 τ H → va_S (jA ad) s.heap H locs → lv_has ls 7 [(2, .int x3), (0, .ref (ad 26)), (1, .int a1)] → W p l e ({ frames := 2, cells := 0, slots := 0, locals := 44 }) s m args below meth c H locs 0 0 Q (F0 m 2 ls []) := by
    intro n2
    induction n2 with
    | zero => intro x3 σ8 H locs ls h10 h11 h12; exact absurd h10 (by omega)
    | succ n2 ihlp1 =>
      intro x3 σ8 H locs ls h10 h11 h12 f13 hP hS hl
      exact by
       refine lv_iload_n hx hb dX5_lay_2 rfl (lv_at hl 0 rfl) ?_
       refine lv_iconst (v := 4) hx hb dX5_lay_3 (of_decide_eq_true rfl) ?_
       refine lv_icmp_ge (tgt := 120) hx hb dX5_lay_4 (of_decide_eq_true rfl) (fun c14 => ?_) (fun c14 => ?_)
       · have kc14 := jle c14 jz_4 rfl
         exact hret σ8 τ _ _ _ _ ⟨rfl, (fun i hi => (f13 i hi)), trivial⟩ hP hS dX5_lay_120
       · have kc14 := jnle c14 jz_4 rfl
         refine lv_iconst (v := 0) hx hb dX5_lay_7 (of_decide_eq_true rfl) ?_
         refine lv_istore_n (lv' := [(3, .int 0), (2, .int x3), (0, .ref (ad 26)), (1, .int a1)]) hx hb dX5_lay_8 rfl hl (of_decide_eq_true rfl) rfl (fun ls hl => ?_)
         have lp15 : ∀ (n16 : Nat) (x17 : Int32) (σ21 : Nat → Nat → Int32) (H : Heap) (locs : List Loc) (ls : Array Slot), (-x17.toInt + 4 : Int) < n16 → 0 ≤ x17.toInt → x17.toInt ≤ 4 → (∀ i : Nat, (i < 27 ∨ 28 < i) → σ21 i = σ8 i) → jH D cI cL ad σ21 τ H → va_S (jA ad) s.heap H locs → lv_has ls 7 [(3, .int x17), (2, .int x3), (0, .ref (ad 26)), (1, .int a1)] → W p l e ({ frames := 2, cells := 0, slots := 0, locals := 44 }) s m args below meth c H locs 0 0 Q (F0 m 9 ls []) := by
           intro n16
           induction n16 with
           | zero => intro x17 σ21 H locs ls h23 h24 h25; exact absurd h23 (by omega)
           | succ n16 ihlp15 =>
             intro x17 σ21 H locs ls h23 h24 h25 f26 hP hS hl
             exact by
              refine lv_iload_n hx hb dX5_lay_9 rfl (lv_at hl 0 rfl) ?_
              refine lv_iconst (v := 4) hx hb dX5_lay_10 (of_decide_eq_true rfl) ?_
              refine lv_icmp_ge (tgt := 114) hx hb dX5_lay_11 (of_decide_eq_true rfl) (fun c27 => ?_) (fun c27 => ?_)
              · have kc27 := jle c27 jz_4 rfl
                obtain ⟨x28, ex28⟩ : ∃ y : Int32, y = x3 + 1 := ⟨_, rfl⟩
                have tx28 : x28.toInt = x3.toInt + 1 := (jadd ex28 rfl jz_1 (by omega) (by omega)).trans (by omega)
                refine lv_iinc (v := x28) (lv' := [(2, .int x28), (3, .int x17), (0, .ref (ad 26)), (1, .int a1)]) hx hb dX5_lay_114 hl (k := 1) rfl (by rw [ex28]; rfl) (of_decide_eq_true rfl) rfl (fun ls hl => ?_)
                refine lv_goto (tgt := 2) hx hb dX5_lay_117 (of_decide_eq_true rfl) ?_
                exact by exact ihlp1 x28 σ21 _ _ ls (by have h90 := tx28; omega) (by have h90 := tx28; omega) (by have h90 := tx28; omega) (fun i hi => ((f26 i hi).trans (f13 i hi)))    hP hS (lv_sub hl [0, 2, 3] rfl)
              · exact by
                 have kc27 := jnle c27 jz_4 rfl
                 refine lv_aload_n hx hb dX5_lay_14 rfl (lv_at hl 2 rfl) ?_
                 refine va_get (D := D) hx hb hts inlX5 hown hK hP 26 (jc_26 cI cL ad σ21 τ) rfl 1 (of_decide_eq_true rfl) (hts _ kw_4_21) (fun _ h9 => h9) rfl dX5_lay_15 ?_
                 refine lv_iload_n hx hb dX5_lay_18 rfl (lv_at hl 3 rfl) ?_
                 refine lv_iload_n hx hb dX5_lay_19 rfl (lv_at hl 1 rfl) ?_
                 refine lv_iload_n hx hb dX5_lay_20 rfl (lv_at hl 0 rfl) ?_
                 refine jcallV (As := [.int a1, .int x3, .int x17]) (rest := []) ⟨hx, hb, hml, hown, hts⟩ hK hP hA hS hZ (c_X4_edgeIn_2 l D cI cL ad zz hJ σ21 τ a1 (A1) t1 x3 (x3.toInt) rfl x17 (x17.toInt) rfl) cw_RX5_36 (jc_2 cI cL ad σ21 τ) rfl ⟨Nat.le_of_ble_eq_true rfl, Nat.le_of_ble_eq_true rfl⟩ rfl rfl rfl hl.1 rfl (Nat.le_of_ble_eq_true rfl) dX5_lay_21 ⟨Nat.zero_le _, Nat.zero_le _⟩ (fun r30 σ29 τ29 H locs h29 hP hS => ?_)
                 obtain ⟨⟨rfl, rfl⟩, h29⟩ := h29
                 refine lv_istore (lv' := [(4, .int r30), (3, .int x17), (2, .int x3), (0, .ref (ad 26)), (1, .int a1)]) hx hb dX5_lay_24 hl (of_decide_eq_true rfl) rfl (fun ls hl => ?_)
                 refine lv_aload_n hx hb dX5_lay_26 rfl (lv_at hl 3 rfl) ?_
                 refine va_get (D := D) hx hb hts inlX5 hown hK hP 26 (jc_26 cI cL ad σ21 τ) rfl 1 (of_decide_eq_true rfl) (hts _ kw_4_21) (fun _ h9 => h9) rfl dX5_lay_27 ?_
                 refine lv_iload_n hx hb dX5_lay_30 rfl (lv_at hl 4 rfl) ?_
                 refine lv_iload_n hx hb dX5_lay_31 rfl (lv_at hl 2 rfl) ?_
                 refine lv_iload_n hx hb dX5_lay_32 rfl (lv_at hl 1 rfl) ?_
                 refine jcallV (As := [.int a1, .int x3, .int x17]) (rest := []) ⟨hx, hb, hml, hown, hts⟩ hK hP hA hS hZ (c_X4_runsIn_2 l D cI cL ad zz hJ σ21 τ a1 (A1) t1 x3 (x3.toInt) rfl x17 (x17.toInt) rfl) cw_RX5_42 (jc_2 cI cL ad σ21 τ) rfl ⟨Nat.le_of_ble_eq_true rfl, Nat.le_of_ble_eq_true rfl⟩ rfl rfl rfl hl.1 rfl (Nat.le_of_ble_eq_true rfl) dX5_lay_33 ⟨Nat.zero_le _, Nat.zero_le _⟩ (fun r32 σ31 τ31 H locs h31 hP hS => ?_)
                 obtain ⟨⟨rfl, rfl⟩, h31⟩ := h31
                 refine lv_istore (lv' := [(5, .int r32), (4, .int r30), (3, .int x17), (2, .int x3), (0, .ref (ad 26)), (1, .int a1)]) hx hb dX5_lay_36 hl (of_decide_eq_true rfl) rfl (fun ls hl => ?_)
                 refine lv_iconst (v := 0) hx hb dX5_lay_38 (of_decide_eq_true rfl) ?_
                 refine lv_istore (lv' := [(6, .int 0), (5, .int r32), (4, .int r30), (3, .int x17), (2, .int x3), (0, .ref (ad 26)), (1, .int a1)]) hx hb dX5_lay_39 hl (of_decide_eq_true rfl) rfl (fun ls hl => ?_)
                 have lp33 : ∀ (n34 : Nat) (x35 : Int32) (σ36 : Nat → Nat → Int32) (H : Heap) (locs : List Loc) (ls : Array Slot), (-x35.toInt + 4 : Int) < n34 → 0 ≤ x35.toInt → x35.toInt ≤ 4 → (∀ i : Nat, (i < 27 ∨ 28 < i) → σ36 i = σ21 i) → jH D cI cL ad σ36 τ H → va_S (jA ad) s.heap H locs → lv_has ls 7 [(6, .int x35), (5, .int r32), (4, .int r30), (3, .int x17), (2, .int x3), (0, .ref (ad 26)), (1, .int a1)] → W p l e ({ frames := 2, cells := 0, slots := 0, locals := 44 }) s m args below meth c H locs 0 0 Q (F0 m 41 ls []) := by
                   intro n34
                   induction n34 with
                   | zero => intro x35 σ36 H locs ls h38 h39 h40; exact absurd h38 (by omega)
                   | succ n34 ihlp33 =>
                     intro x35 σ36 H locs ls h38 h39 h40 f41 hP hS hl
                     exact by
                      refine lv_iload hx hb dX5_lay_41 (lv_at hl 0 rfl) ?_
                      refine lv_iconst (v := 4) hx hb dX5_lay_43 (of_decide_eq_true rfl) ?_
                      refine lv_icmp_ge (tgt := 108) hx hb dX5_lay_44 (of_decide_eq_true rfl) (fun c42 => ?_) (fun c42 => ?_)
                      · have kc42 := jle c42 jz_4 rfl
                        obtain ⟨x43, ex43⟩ : ∃ y : Int32, y = x17 + 1 := ⟨_, rfl⟩
                        have tx43 : x43.toInt = x17.toInt + 1 := (jadd ex43 rfl jz_1 (by omega) (by omega)).trans (by omega)
                        refine lv_iinc (v := x43) (lv' := [(3, .int x43), (6, .int x35), (5, .int r32), (4, .int r30), (2, .int x3), (0, .ref (ad 26)), (1, .int a1)]) hx hb dX5_lay_108 hl (k := 3) rfl (by rw [ex43]; rfl) (of_decide_eq_true rfl) rfl (fun ls hl => ?_)
                        refine lv_goto (tgt := 9) hx hb dX5_lay_111 (of_decide_eq_true rfl) ?_
                        exact by exact ihlp15 x43 σ36 _ _ ls (by have h90 := tx43; omega) (by have h90 := tx43; omega) (by have h90 := tx43; omega) (fun i hi => ((f41 i hi).trans (f26 i hi)))    hP hS (lv_sub hl [0, 4, 5, 6] rfl)
                      · exact by
                         have kc42 := jnle c42 jz_4 rfl
                         refine lv_aload_n hx hb dX5_lay_47 rfl (lv_at hl 5 rfl) ?_
                         refine va_get (D := D) hx hb hts inlX5 hown hK hP 26 (jc_26 cI cL ad σ36 τ) rfl 2 (of_decide_eq_true rfl) (hts _ kw_4_16) (fun _ h9 => h9) rfl dX5_lay_48 ?_
                         refine lv_iload_n hx hb dX5_lay_51 rfl (lv_at hl 4 rfl) ?_
                         refine lv_iconst (v := 4) hx hb dX5_lay_52 (of_decide_eq_true rfl) ?_
                         have g44 := jrg (rfl : x3.toInt = x3.toInt)
                         refine lv_imul hx hb dX5_lay_53 ?_
                         refine lv_topi (fun x45 ex45 => ?_)
                         have tx45 : x45.toInt = 4 * x3.toInt := (jmul ex45 rfl jz_4 (by omega) (by omega)).trans (by omega)
                         exact by
                          refine lv_iload_n hx hb dX5_lay_54 rfl (lv_at hl 3 rfl) ?_
                          have g46 := jrg (rfl : x17.toInt = x17.toInt)
                          refine lv_iadd hx hb dX5_lay_55 ?_
                          refine lv_topi (fun x47 ex47 => ?_)
                          have tx47 : x47.toInt = 4 * x3.toInt + x17.toInt := (jadd ex47 tx45 rfl (by omega) (by omega)).trans (by omega)
                          refine lv_iconst (v := 4) hx hb dX5_lay_56 (of_decide_eq_true rfl) ?_
                          refine lv_imul hx hb dX5_lay_57 ?_
                          refine lv_topi (fun x48 ex48 => ?_)
                          have tx48 : x48.toInt = 16 * x3.toInt + 4 * x17.toInt := (jmul ex48 tx47 jz_4 (by omega) (by omega)).trans (by omega)
                          exact by
                           refine lv_iload hx hb dX5_lay_58 (lv_at hl 0 rfl) ?_
                           have g49 := jrg (rfl : x35.toInt = x35.toInt)
                           refine lv_iadd hx hb dX5_lay_60 ?_
                           refine lv_topi (fun x50 ex50 => ?_)
                           have tx50 : x50.toInt = 16 * x3.toInt + 4 * x17.toInt + x35.toInt := (jadd ex50 tx48 rfl (by omega) (by omega)).trans (by omega)
                           refine lv_iload hx hb dX5_lay_61 (lv_at hl 2 rfl) ?_
                           refine lv_aload_n hx hb dX5_lay_63 rfl (lv_at hl 5 rfl) ?_
                           refine va_get (D := D) hx hb hts inlX5 hown hK hP 26 (jc_26 cI cL ad σ36 τ) rfl 1 (of_decide_eq_true rfl) (hts _ kw_4_21) (fun _ h9 => h9) rfl dX5_lay_64 ?_
                           refine lv_iload_n hx hb dX5_lay_67 rfl (lv_at hl 4 rfl) ?_
                           exact by
                            refine lv_iload hx hb dX5_lay_68 (lv_at hl 0 rfl) ?_
                            refine jcallV (As := [.int x3, .int x35]) (rest := [.int r30, .int x50, .ref (ad 27)]) ⟨hx, hb, hml, hown, hts⟩ hK hP hA hS hZ (c_X4_freshness_2 l D cI cL ad zz hJ σ36 τ x3 (x3.toInt) rfl x35 (x35.toInt) rfl) cw_RX5_45 (jc_2 cI cL ad σ36 τ) rfl ⟨Nat.le_of_ble_eq_true rfl, Nat.le_of_ble_eq_true rfl⟩ rfl rfl rfl hl.1 rfl (Nat.le_of_ble_eq_true rfl) dX5_lay_70 ⟨Nat.zero_le _, Nat.zero_le _⟩ (fun r52 σ51 τ51 H locs h51 hP hS => ?_)
                            obtain ⟨⟨rfl, rfl⟩, h51⟩ := h51
                            have g53 := jrg (rfl : r30.toInt = r30.toInt)
                            have g54 := jrg (rfl : r52.toInt = r52.toInt)
                            refine lv_imul hx hb dX5_lay_73 ?_
                            refine lv_topi (fun x55 ex55 => ?_)
                            have gx55 := jrg (rfl : x55.toInt = x55.toInt)
                            refine lv_bipush (v := 100) hx hb dX5_lay_74 (of_decide_eq_true rfl) ?_
                            refine lv_idiv hx hb dX5_lay_76 (of_decide_eq_true rfl) ?_
                            refine lv_topi (fun x56 ex56 => ?_)
                            have gx56 := jrg (rfl : x56.toInt = x56.toInt)
                            exact by
                             refine jast hx hb hK hP hJ hA hS (jc_27 cI cL ad σ36 τ) (ja_27 cI cL ad σ36 τ _ _) (jin tx50 (by omega) (by omega)) dX5_lay_77 (fun σ57 H locs eσ57 hP hS => ?_)
                             refine lv_aload_n hx hb dX5_lay_78 rfl (lv_at hl 5 rfl) ?_
                             refine va_get (D := D) hx hb hts inlX5 hown hK hP 26 (jc_26 cI cL ad σ57 τ) rfl 3 (of_decide_eq_true rfl) (hts _ kw_4_17) (fun _ h9 => h9) rfl dX5_lay_79 ?_
                             refine lv_iload_n hx hb dX5_lay_82 rfl (lv_at hl 4 rfl) ?_
                             refine lv_iconst (v := 4) hx hb dX5_lay_83 (of_decide_eq_true rfl) ?_
                             refine lv_imul hx hb dX5_lay_84 ?_
                             refine lv_topi (fun x58 ex58 => ?_)
                             have tx58 : x58.toInt = 4 * x3.toInt := (jmul ex58 rfl jz_4 (by omega) (by omega)).trans (by omega)
                             refine lv_iload_n hx hb dX5_lay_85 rfl (lv_at hl 3 rfl) ?_
                             exact by
                              refine lv_iadd hx hb dX5_lay_86 ?_
                              refine lv_topi (fun x59 ex59 => ?_)
                              have tx59 : x59.toInt = 4 * x3.toInt + x17.toInt := (jadd ex59 tx58 rfl (by omega) (by omega)).trans (by omega)
                              refine lv_iconst (v := 4) hx hb dX5_lay_87 (of_decide_eq_true rfl) ?_
                              refine lv_imul hx hb dX5_lay_88 ?_
                              refine lv_topi (fun x60 ex60 => ?_)
                              have tx60 : x60.toInt = 16 * x3.toInt + 4 * x17.toInt := (jmul ex60 tx59 jz_4 (by omega) (by omega)).trans (by omega)
                              refine lv_iload hx hb dX5_lay_89 (lv_at hl 0 rfl) ?_
                              refine lv_iadd hx hb dX5_lay_91 ?_
                              exact by
                               refine lv_topi (fun x61 ex61 => ?_)
                               have tx61 : x61.toInt = 16 * x3.toInt + 4 * x17.toInt + x35.toInt := (jadd ex61 tx60 rfl (by omega) (by omega)).trans (by omega)
                               refine lv_iconst (v := 0) hx hb dX5_lay_92 (of_decide_eq_true rfl) ?_
                               refine lv_iload hx hb dX5_lay_93 (lv_at hl 1 rfl) ?_
                               refine lv_iload hx hb dX5_lay_95 (lv_at hl 0 rfl) ?_
                               have g62 := jrg (rfl : r32.toInt = r32.toInt)
                               refine lv_iadd hx hb dX5_lay_97 ?_
                               refine lv_topi (fun x63 ex63 => ?_)
                               have gx63 := jrg (rfl : x63.toInt = x63.toInt)
                               exact by
                                refine va_mmax hx hb (hml.trans hl.1.symm) hown (hts _ kw_20_23) (hts _ kw_21_0) (hts _ kw_21_1) (hts _ kw_21_2) (Nat.le_of_ble_eq_true rfl) (Nat.le_of_ble_eq_true rfl) (Nat.le_of_ble_eq_true rfl) (Nat.le_of_ble_eq_true rfl) dX5_lay_98 ?_
                                refine lv_topi (fun x64 ex64 => ?_)
                                have g65 := jmax ex64 jz_0 rfl
                                refine jast hx hb hK hP hJ hA hS (jc_28 cI cL ad σ57 τ) (ja_28 cI cL ad σ57 τ _ _) (jin tx61 (by omega) (by omega)) dX5_lay_101 (fun σ66 H locs eσ66 hP hS => ?_)
                                obtain ⟨x67, ex67⟩ : ∃ y : Int32, y = x35 + 1 := ⟨_, rfl⟩
                                have tx67 : x67.toInt = x35.toInt + 1 := (jadd ex67 rfl jz_1 (by omega) (by omega)).trans (by omega)
                                refine lv_iinc (v := x67) (lv' := [(6, .int x67), (5, .int r32), (4, .int r30), (3, .int x17), (2, .int x3), (0, .ref (ad 26)), (1, .int a1)]) hx hb dX5_lay_102 hl (k := 0) rfl (by rw [ex67]; rfl) (of_decide_eq_true rfl) rfl (fun ls hl => ?_)
                                refine lv_goto (tgt := 41) hx hb dX5_lay_105 (of_decide_eq_true rfl) ?_
                                exact by exact ihlp33 x67 σ66 _ _ ls (by have h90 := tx67; omega) (by have h90 := tx67; omega) (by have h90 := tx67; omega) (fun i hi => ((jnp i eσ66 (imp_70 i hi)).trans ((jnp i eσ57 (imp_71 i hi)).trans (f41 i hi))))    hP hS (lv_sub hl [0, 1, 2, 3, 4, 5, 6] rfl)
                 exact by exact lp33 1000000 0 σ21 _ _ ls (by have h90 := jz_0; omega) (by have h90 := jz_0; omega) (by have h90 := jz_0; omega) (fun _ _ => rfl)   hP hS hl
         exact by exact lp15 1000000 0 σ8 _ _ ls (by have h90 := jz_0; omega) (by have h90 := jz_0; omega) (by have h90 := jz_0; omega) (fun _ _ => rfl)   hP hS hl
  exact by exact lp1 1000000 0 σ _ _ ls (by have h90 := jz_0; omega) (by have h90 := jz_0; omega) (by have h90 := jz_0; omega) (fun _ _ => rfl)   hP hS hl
set_option maxHeartbeats 4000000 in
set_option maxRecDepth 100000 in
theorem c_X5_forget_26 (l : Launch) (D : va_G) (cI cL : ClassId) (ad zz : Nat → Nat) (hJ : jD ad) (σ : Nat → Nat → Int32) (τ : Nat → Nat → Int64) : jMv l yX5_forget cX5_forget 2 none ({ frames := 1, cells := 0, slots := 0, locals := 21 }) D cI cL ad zz [.ref (ad 26)] σ τ (fun σ' τ' => τ = τ' ∧ (∀ i : Nat, (i < 26 ∨ 26 < i) → σ' i = σ i) ∧ (∀ k : Nat, (k < 6 ∨ 6 < k) ∧ (k < 7 ∨ 7 < k) → σ' 26 k = σ 26 k) ∧ True) := by
  refine jMv.of hJ (by decide +kernel) rfl (Nat.le_of_ble_eq_true rfl) ?_
  intro p e s m args below meth c Q ls hC hret hl hP
  obtain ⟨hx, hb, hr, hml, hown, hts, hK, -, hlocks, hZ⟩ := hC
  have hown : s.vm.findClass RX5 = some m.cls := hown
  have hS : va_S (jA ad) s.heap s.heap [] := va_S.rf
  have hA : ∀ q, jA ad q → jA ad q := fun _ h => h
  have hl : lv_has ls 2 [(0, .ref (ad 26))] := hl
  refine lv_aload_n hx hb dX5_forget_0 rfl (lv_at hl 0 rfl) ?_
  refine lv_dup hx hb dX5_forget_1 rfl ?_
  refine va_get (D := D) hx hb hts inlX5 hown hK hP 26 (jc_26 cI cL ad σ τ) rfl 6 (of_decide_eq_true rfl) (hts _ kw_4_20) (fun _ h9 => h9) rfl dX5_forget_2 ?_
  refine lv_iconst (v := 1) hx hb dX5_forget_5 (of_decide_eq_true rfl) ?_
  have g1 := jrg (rfl : (σ 26 6).toInt = (σ 26 6).toInt)
  refine lv_iadd hx hb dX5_forget_6 ?_
  refine lv_topi (fun x2 ex2 => ?_)
  have gx2 := jrg (rfl : x2.toInt = x2.toInt)
  refine jput (ty := .int) hx hb hts inlX5 tyX5 tyX5_ok nmX5 hown hK hP hJ hA hS (jc_26 cI cL ad σ τ) rfl (k := 6) (of_decide_eq_true rfl) (Nat.le_of_ble_eq_true rfl) (jp_26_6 cI cL ad σ τ x2) (hts _ kw_4_20) (fun _ h9 => h9) rfl (by decide +kernel) rfl rfl dX5_forget_7 (fun σ3 H locs eσ3 hP hS => ?_)
  refine lv_aload_n hx hb dX5_forget_10 rfl (lv_at hl 0 rfl) ?_
  refine lv_iconst (v := 0) hx hb dX5_forget_11 (of_decide_eq_true rfl) ?_
  refine jput (ty := .int) hx hb hts inlX5 tyX5 tyX5_ok nmX5 hown hK hP hJ hA hS (jc_26 cI cL ad σ3 τ) rfl (k := 7) (of_decide_eq_true rfl) (Nat.le_of_ble_eq_true rfl) (jp_26_7 cI cL ad σ3 τ 0) (hts _ kw_18_7) (fun _ h9 => h9) rfl (by decide +kernel) rfl rfl dX5_forget_12 (fun σ4 H locs eσ4 hP hS => ?_)
  refine lv_iconst (v := 0) hx hb dX5_forget_15 (of_decide_eq_true rfl) ?_
  refine lv_istore_n (lv' := [(1, .int 0), (0, .ref (ad 26))]) hx hb dX5_forget_16 rfl hl (of_decide_eq_true rfl) rfl (fun ls hl => ?_)
  have lp5 : ∀ (n6 : Nat) (x7 : Int32) (σ8 : Nat → Nat → Int32) (H : Heap) (locs : List Loc) (ls : Array Slot), (-x7.toInt + 6 : Int) < n6 → 0 ≤ x7.toInt → x7.toInt ≤ 6 → (∀ i : Nat, (i < 26 ∨ 26 < i) → σ8 i = σ4 i) → (∀ k : Nat, (k < 7 ∨ 7 < k) → σ8 26 k = σ4 26 k) → jH D cI cL ad σ8 τ H → va_S (jA ad) s.heap H locs → lv_has ls 2 [(1, .int x7), (0, .ref (ad 26))] → W p l e ({ frames := 1, cells := 0, slots := 0, locals := 21 }) s m args below meth c H locs 0 0 Q (F0 m 17 ls []) := by
    intro n6
    induction n6 with
    | zero => intro x7 σ8 H locs ls h10 h11 h12; exact absurd h10 (by omega)
    | succ n6 ihlp5 =>
      intro x7 σ8 H locs ls h10 h11 h12 f13 f14 hP hS hl
      exact by
       refine lv_iload_n hx hb dX5_forget_17 rfl (lv_at hl 0 rfl) ?_
       refine va_gets hx hb hZ.1.1 hS hown (hts _ kw_18_8) (fun _ h9 => h9) dX5_forget_18 ?_
       refine va_tlen (v := 6) hx hb hZ.1.2 hS (of_decide_eq_true rfl) dX5_forget_21 ?_
       refine lv_icmp_ge (tgt := 56) hx hb dX5_forget_22 (of_decide_eq_true rfl) (fun c15 => ?_) (fun c15 => ?_)
       · have kc15 := jle c15 jz_6 rfl
         exact hret σ8 τ _ _ _ _ ⟨rfl, (fun i hi => ((f13 i hi).trans ((jnp i eσ4 (imp_72 i hi)).trans (jnp i eσ3 (imp_72 i hi))))), (fun i hi => ((f14 i (imp_73 i hi)).trans ((jkp i eσ4 (imp_74 i hi)).trans (jkp i eσ3 (imp_75 i hi))))), trivial⟩ hP hS dX5_forget_56
       · have kc15 := jnle c15 jz_6 rfl
         refine lv_aload_n hx hb dX5_forget_25 rfl (lv_at hl 1 rfl) ?_
         refine va_get (D := D) hx hb hts inlX5 hown hK hP 26 (jc_26 cI cL ad σ8 τ) rfl 0 (of_decide_eq_true rfl) (hts _ kw_4_22) (fun _ h9 => h9) rfl dX5_forget_26 ?_
         refine lv_iload_n hx hb dX5_forget_29 rfl (lv_at hl 0 rfl) ?_
         refine jcallV (As := [.int x7]) (rest := []) ⟨hx, hb, hml, hown, hts⟩ hK hP hA hS hZ (c_X10_uses_22 l D cI cL ad zz hJ σ8 τ x7 (x7.toInt) rfl) cw_RX5_60 (jc_22 cI cL ad σ8 τ) rfl ⟨Nat.le_of_ble_eq_true rfl, Nat.le_of_ble_eq_true rfl⟩ rfl rfl rfl hl.1 rfl (Nat.le_of_ble_eq_true rfl) dX5_forget_30 ⟨Nat.zero_le _, Nat.zero_le _⟩ (fun r17 σ16 τ16 H locs h16 hP hS => ?_)
         obtain ⟨⟨rfl, rfl⟩, h16⟩ := h16
         refine lv_if_eq (tgt := 50) hx hb dX5_forget_33 (of_decide_eq_true rfl) (fun c18 => ?_) (fun c18 => ?_)
         · have kc18 := jeq c18 rfl jz_0
           obtain ⟨x19, ex19⟩ : ∃ y : Int32, y = x7 + 1 := ⟨_, rfl⟩
           exact by
            have tx19 : x19.toInt = x7.toInt + 1 := (jadd ex19 rfl jz_1 (by omega) (by omega)).trans (by omega)
            refine lv_iinc (v := x19) (lv' := [(1, .int x19), (0, .ref (ad 26))]) hx hb dX5_forget_50 hl (k := 0) rfl (by rw [ex19]; rfl) (of_decide_eq_true rfl) rfl (fun ls hl => ?_)
            refine lv_goto (tgt := 17) hx hb dX5_forget_53 (of_decide_eq_true rfl) ?_
            exact by exact ihlp5 x19 σ8 _ _ ls (by have h90 := tx19; omega) (by have h90 := tx19; omega) (by have h90 := tx19; omega) (fun i hi => (f13 i hi)) (fun i hi => (f14 i hi))   hP hS (lv_sub hl [0, 1] rfl)
         · have kc18 := jne c18 rfl jz_0
           refine lv_aload_n hx hb dX5_forget_36 rfl (lv_at hl 1 rfl) ?_
           refine lv_dup hx hb dX5_forget_37 rfl ?_
           refine va_get (D := D) hx hb hts inlX5 hown hK hP 26 (jc_26 cI cL ad σ8 τ) rfl 7 (of_decide_eq_true rfl) (hts _ kw_18_7) (fun _ h9 => h9) rfl dX5_forget_38 ?_
           refine va_gets hx hb hZ.1.1 hS hown (hts _ kw_18_8) (fun _ h9 => h9) dX5_forget_41 ?_
           exact by
            refine lv_iload_n hx hb dX5_forget_44 rfl (lv_at hl 0 rfl) ?_
            refine va_ti (v := .int (js0 x7.toNatClampNeg)) hx hb hZ.1.2 hS (jin rfl (by omega) (by omega)) rfl dX5_forget_45 ?_
            have g21 := js0_r x7.toNatClampNeg
            refine lv_topi (fun x20 ex20 => ?_)
            rw [← ex20] at g21
            refine lv_ior hx hb dX5_forget_46 ?_
            refine lv_topi (fun x22 ex22 => ?_)
            have gx22 := jrg (rfl : x22.toInt = x22.toInt)
            refine jput (ty := .int) hx hb hts inlX5 tyX5 tyX5_ok nmX5 hown hK hP hJ hA hS (jc_26 cI cL ad σ8 τ) rfl (k := 7) (of_decide_eq_true rfl) (Nat.le_of_ble_eq_true rfl) (jp_26_7 cI cL ad σ8 τ x22) (hts _ kw_18_7) (fun _ h9 => h9) rfl (by decide +kernel) rfl rfl dX5_forget_47 (fun σ23 H locs eσ23 hP hS => ?_)
            exact by
             obtain ⟨x24, ex24⟩ : ∃ y : Int32, y = x7 + 1 := ⟨_, rfl⟩
             have tx24 : x24.toInt = x7.toInt + 1 := (jadd ex24 rfl jz_1 (by omega) (by omega)).trans (by omega)
             refine lv_iinc (v := x24) (lv' := [(1, .int x24), (0, .ref (ad 26))]) hx hb dX5_forget_50 hl (k := 0) rfl (by rw [ex24]; rfl) (of_decide_eq_true rfl) rfl (fun ls hl => ?_)
             refine lv_goto (tgt := 17) hx hb dX5_forget_53 (of_decide_eq_true rfl) ?_
             exact by exact ihlp5 x24 σ23 _ _ ls (by have h90 := tx24; omega) (by have h90 := tx24; omega) (by have h90 := tx24; omega) (fun i hi => ((jnp i eσ23 (imp_72 i hi)).trans (f13 i hi))) (fun i hi => ((jkp i eσ23 (imp_76 i hi)).trans (f14 i hi)))   hP hS (lv_sub hl [0, 1] rfl)
  exact by exact lp5 1000000 0 σ4 _ _ ls (by have h90 := jz_0; omega) (by have h90 := jz_0; omega) (by have h90 := jz_0; omega) (fun _ _ => rfl) (fun _ _ => rfl)   hP hS hl
set_option maxHeartbeats 4000000 in
set_option maxRecDepth 100000 in
theorem c_X5_runsOf_26 (l : Launch) (D : va_G) (cI cL : ClassId) (ad zz : Nat → Nat) (hJ : jD ad) (σ : Nat → Nat → Int32) (τ : Nat → Nat → Int64) (a1 : Int32) (A1 : Int) (t1 : a1.toInt = A1) (a2 : Int32) (A2 : Int) (t2 : a2.toInt = A2) (a3 : Int32) (A3 : Int) (t3 : a3.toInt = A3) : jM l yX5_runsOf cX5_runsOf 5 (some .int) ({ frames := 0, cells := 0, slots := 0, locals := 0 }) D cI cL ad zz [.ref (ad 26), .int a1, .int a2, .int a3] σ τ (fun r σ' τ' => (σ = σ' ∧ τ = τ') ∧ True) := by
  refine jM.of hJ (by decide +kernel) (nt := .int) rfl (Nat.le_of_ble_eq_true rfl) ?_
  intro p e s m args below meth c Q ls hC hret hl hP
  obtain ⟨hx, hb, hr, hml, hown, hts, hK, -, hlocks, hZ⟩ := hC
  have hown : s.vm.findClass RX5 = some m.cls := hown
  have hS : va_S (jA ad) s.heap s.heap [] := va_S.rf
  have hA : ∀ q, jA ad q → jA ad q := fun _ h => h
  have hl : lv_has ls 5 [(0, .ref (ad 26)), (1, .int a1), (2, .int a2), (3, .int a3)] := hl
  have g1 := jrg t1
  have g2 := jrg t2
  have g3 := jrg t3
  refine lv_iload_n hx hb dX5_runsOf_0 rfl (lv_at hl 1 rfl) ?_
  refine lv_iconst (v := 4) hx hb dX5_runsOf_1 (of_decide_eq_true rfl) ?_
  refine lv_imul hx hb dX5_runsOf_2 ?_
  refine lv_topi (fun x1 ex1 => ?_)
  have gx1 := jrg (rfl : x1.toInt = x1.toInt)
  refine lv_iload_n hx hb dX5_runsOf_3 rfl (lv_at hl 2 rfl) ?_
  have g2 := jrg (rfl : x1.toInt = x1.toInt)
  refine lv_iadd hx hb dX5_runsOf_4 ?_
  refine lv_topi (fun x3 ex3 => ?_)
  have gx3 := jrg (rfl : x3.toInt = x3.toInt)
  refine lv_iconst (v := 4) hx hb dX5_runsOf_5 (of_decide_eq_true rfl) ?_
  have g4 := jrg (rfl : x3.toInt = x3.toInt)
  refine lv_imul hx hb dX5_runsOf_6 ?_
  refine lv_topi (fun x5 ex5 => ?_)
  have gx5 := jrg (rfl : x5.toInt = x5.toInt)
  refine lv_iload_n hx hb dX5_runsOf_7 rfl (lv_at hl 3 rfl) ?_
  have g6 := jrg (rfl : x5.toInt = x5.toInt)
  refine lv_iadd hx hb dX5_runsOf_8 ?_
  refine lv_topi (fun x7 ex7 => ?_)
  have gx7 := jrg (rfl : x7.toInt = x7.toInt)
  refine lv_istore (lv' := [(4, .int x7), (0, .ref (ad 26)), (1, .int a1), (2, .int a2), (3, .int a3)]) hx hb dX5_runsOf_9 hl (of_decide_eq_true rfl) rfl (fun ls hl => ?_)
  refine lv_iload hx hb dX5_runsOf_11 (lv_at hl 0 rfl) ?_
  refine lv_if_lt (tgt := 23) hx hb dX5_runsOf_13 (of_decide_eq_true rfl) (fun c8 => ?_) (fun c8 => ?_)
  · have kc8 := jlt c8 rfl jz_0
    refine lv_iconst (v := 0) hx hb dX5_runsOf_23 (of_decide_eq_true rfl) ?_
    refine lv_goto (tgt := 34) hx hb dX5_runsOf_24 (of_decide_eq_true rfl) ?_
    exact hret 0 σ τ _ _ _ _ rfl ⟨⟨rfl, rfl⟩, trivial⟩ hP hS dX5_runsOf_34
  · have kc8 := jnlt c8 rfl jz_0
    refine lv_iload hx hb dX5_runsOf_16 (lv_at hl 0 rfl) ?_
    refine lv_bipush (v := 64) hx hb dX5_runsOf_18 (of_decide_eq_true rfl) ?_
    refine lv_icmp_lt (tgt := 27) hx hb dX5_runsOf_20 (of_decide_eq_true rfl) (fun c9 => ?_) (fun c9 => ?_)
    · have kc9 := jlt c9 rfl jz_64
      refine lv_aload_n hx hb dX5_runsOf_27 rfl (lv_at hl 1 rfl) ?_
      refine va_get (D := D) hx hb hts inlX5 hown hK hP 26 (jc_26 cI cL ad σ τ) rfl 3 (of_decide_eq_true rfl) (hts _ kw_4_17) (fun _ h9 => h9) rfl dX5_runsOf_28 ?_
      refine lv_iload hx hb dX5_runsOf_31 (lv_at hl 0 rfl) ?_
      exact by
       refine jald hx hb hK hP (jc_28 cI cL ad σ τ) (jin rfl (by omega) (by omega)) dX5_runsOf_33 ?_
       refine lv_topi (fun x10 ex10 => ?_)
       exact hret x10 σ τ _ _ _ _ rfl ⟨⟨rfl, rfl⟩, trivial⟩ hP hS dX5_runsOf_34
    · have kc9 := jnlt c9 rfl jz_64
      refine lv_iconst (v := 0) hx hb dX5_runsOf_23 (of_decide_eq_true rfl) ?_
      refine lv_goto (tgt := 34) hx hb dX5_runsOf_24 (of_decide_eq_true rfl) ?_
      exact hret 0 σ τ _ _ _ _ rfl ⟨⟨rfl, rfl⟩, trivial⟩ hP hS dX5_runsOf_34
set_option maxHeartbeats 4000000 in
set_option maxRecDepth 100000 in
theorem c_X5_outOf_26 (l : Launch) (D : va_G) (cI cL : ClassId) (ad zz : Nat → Nat) (hJ : jD ad) (σ : Nat → Nat → Int32) (τ : Nat → Nat → Int64) (a1 : Int32) (A1 : Int) (t1 : a1.toInt = A1) (a2 : Int32) (A2 : Int) (t2 : a2.toInt = A2) (a3 : Int32) (A3 : Int) (t3 : a3.toInt = A3) (a4 : Int32) (A4 : Int) (t4 : a4.toInt = A4) (a5 : Int32) (A5 : Int) (t5 : a5.toInt = A5) (a6 : Int32) (A6 : Int) (t6 : a6.toInt = A6) (hI22 : jI22 σ) : jM l yX5_outOf cX5_outOf 11 (some .int) ({ frames := 2, cells := 0, slots := 0, locals := 46 }) D cI cL ad zz [.ref (ad 26), .int a1, .int a2, .int a3, .int a4, .int a5, .int a6] σ τ (fun r σ' τ' => τ = τ' ∧ (∀ i : Nat, (i < 24 ∨ 25 < i) ∧ (i < 29 ∨ 30 < i) → σ' i = σ i) ∧ True) := by
  refine jM.of hJ (by decide +kernel) (nt := .int) rfl (Nat.le_of_ble_eq_true rfl) ?_
  intro p e s m args below meth c Q ls hC hret hl hP
  obtain ⟨hx, hb, hr, hml, hown, hts, hK, -, hlocks, hZ⟩ := hC
  have hown : s.vm.findClass RX5 = some m.cls := hown
  have hS : va_S (jA ad) s.heap s.heap [] := va_S.rf
  have hA : ∀ q, jA ad q → jA ad q := fun _ h => h
  have hl : lv_has ls 11 [(0, .ref (ad 26)), (1, .int a1), (2, .int a2), (3, .int a3), (4, .int a4), (5, .int a5), (6, .int a6)] := hl
  have g1 := jrg t1
  have g2 := jrg t2
  have g3 := jrg t3
  have g4 := jrg t4
  have g5 := jrg t5
  have g6 := jrg t6
  obtain ⟨i1, w2⟩ : (0 ≤ (σ 22 0).toInt ∧ (σ 22 0).toInt ≤ 160) ∧ (∀ k : Nat, k < 160 → 0 ≤ (σ 23 k).toInt ∧ (σ 23 k).toInt ≤ 30000) := id hI22
  refine lv_iload_n hx hb dX5_outOf_0 rfl (lv_at hl 1 rfl) ?_
  refine lv_iconst (v := 4) hx hb dX5_outOf_1 (of_decide_eq_true rfl) ?_
  refine lv_imul hx hb dX5_outOf_2 ?_
  refine lv_topi (fun x3 ex3 => ?_)
  have gx3 := jrg (rfl : x3.toInt = x3.toInt)
  refine lv_iload_n hx hb dX5_outOf_3 rfl (lv_at hl 2 rfl) ?_
  have g4 := jrg (rfl : x3.toInt = x3.toInt)
  refine lv_iadd hx hb dX5_outOf_4 ?_
  refine lv_topi (fun x5 ex5 => ?_)
  have gx5 := jrg (rfl : x5.toInt = x5.toInt)
  refine lv_iconst (v := 4) hx hb dX5_outOf_5 (of_decide_eq_true rfl) ?_
  have g6 := jrg (rfl : x5.toInt = x5.toInt)
  refine lv_imul hx hb dX5_outOf_6 ?_
  refine lv_topi (fun x7 ex7 => ?_)
  have gx7 := jrg (rfl : x7.toInt = x7.toInt)
  refine lv_iload_n hx hb dX5_outOf_7 rfl (lv_at hl 3 rfl) ?_
  have g8 := jrg (rfl : x7.toInt = x7.toInt)
  refine lv_iadd hx hb dX5_outOf_8 ?_
  refine lv_topi (fun x9 ex9 => ?_)
  have gx9 := jrg (rfl : x9.toInt = x9.toInt)
  refine lv_istore (lv' := [(7, .int x9), (0, .ref (ad 26)), (1, .int a1), (2, .int a2), (3, .int a3), (4, .int a4), (5, .int a5), (6, .int a6)]) hx hb dX5_outOf_9 hl (of_decide_eq_true rfl) rfl (fun ls hl => ?_)
  refine lv_iload hx hb dX5_outOf_11 (lv_at hl 0 rfl) ?_
  refine lv_if_lt (tgt := 23) hx hb dX5_outOf_13 (of_decide_eq_true rfl) (fun c10 => ?_) (fun c10 => ?_)
  · have kc10 := jlt c10 rfl jz_0
    refine lv_iconst (v := 0) hx hb dX5_outOf_23 (of_decide_eq_true rfl) ?_
    exact hret 0 σ τ _ _ _ _ rfl ⟨rfl, (fun _ _ => rfl), trivial⟩ hP hS dX5_outOf_24
  · have kc10 := jnlt c10 rfl jz_0
    refine lv_iload hx hb dX5_outOf_16 (lv_at hl 0 rfl) ?_
    refine lv_bipush (v := 64) hx hb dX5_outOf_18 (of_decide_eq_true rfl) ?_
    refine lv_icmp_lt (tgt := 25) hx hb dX5_outOf_20 (of_decide_eq_true rfl) (fun c11 => ?_) (fun c11 => ?_)
    · have kc11 := jlt c11 rfl jz_64
      refine lv_aload_n hx hb dX5_outOf_25 rfl (lv_at hl 1 rfl) ?_
      refine va_get (D := D) hx hb hts inlX5 hown hK hP 26 (jc_26 cI cL ad σ τ) rfl 2 (of_decide_eq_true rfl) (hts _ kw_4_16) (fun _ h9 => h9) rfl dX5_outOf_26 ?_
      refine lv_iload hx hb dX5_outOf_29 (lv_at hl 0 rfl) ?_
      exact by
       refine jald hx hb hK hP (jc_27 cI cL ad σ τ) (jin rfl (by omega) (by omega)) dX5_outOf_31 ?_
       refine lv_topi (fun x12 ex12 => ?_)
       refine lv_istore (lv' := [(8, .int x12), (7, .int x9), (0, .ref (ad 26)), (1, .int a1), (2, .int a2), (3, .int a3), (4, .int a4), (5, .int a5), (6, .int a6)]) hx hb dX5_outOf_32 hl (of_decide_eq_true rfl) rfl (fun ls hl => ?_)
       refine lv_aload_n hx hb dX5_outOf_34 rfl (lv_at hl 2 rfl) ?_
       refine va_get (D := D) hx hb hts inlX5 hown hK hP 26 (jc_26 cI cL ad σ τ) rfl 0 (of_decide_eq_true rfl) (hts _ kw_4_22) (fun _ h9 => h9) rfl dX5_outOf_35 ?_
       refine va_get (D := D) hx hb hts inlX10 hown hK hP 22 (jc_22 cI cL ad σ τ) rfl 0 (of_decide_eq_true rfl) (hts _ kw_22_8) (fun _ h9 => h9) rfl dX5_outOf_38 ?_
       refine lv_if_le (tgt := 160) hx hb dX5_outOf_41 (of_decide_eq_true rfl) (fun c13 => ?_) (fun c13 => ?_)
       · have kc13 := jle c13 rfl jz_0
         refine lv_iload hx hb dX5_outOf_160 (lv_at hl 0 rfl) ?_
         refine lv_if_ge (tgt := 169) hx hb dX5_outOf_162 (of_decide_eq_true rfl) (fun c14 => ?_) (fun c14 => ?_)
         · have kc14 := jle c14 jz_0 rfl
           refine lv_iload hx hb dX5_outOf_169 (lv_at hl 0 rfl) ?_
           refine lv_sipush (v := 1000) hx hb dX5_outOf_171 (of_decide_eq_true rfl) ?_
           refine va_mmin hx hb (hml.trans hl.1.symm) hown (hts _ kw_22_10) (hts _ kw_22_11) (hts _ kw_21_1) (hts _ kw_22_12) (Nat.le_of_ble_eq_true rfl) (Nat.le_of_ble_eq_true rfl) (Nat.le_of_ble_eq_true rfl) (Nat.le_of_ble_eq_true rfl) dX5_outOf_174 ?_
           refine lv_topi (fun x15 ex15 => ?_)
           have g16 := jmin ex15 rfl jz_1000
           exact hret x15 σ τ _ _ _ _ rfl ⟨rfl, (fun _ _ => rfl), trivial⟩ hP hS dX5_outOf_177
         · have kc14 := jnle c14 jz_0 rfl
           refine lv_iconst (v := 0) hx hb dX5_outOf_165 (of_decide_eq_true rfl) ?_
           refine lv_goto (tgt := 177) hx hb dX5_outOf_166 (of_decide_eq_true rfl) ?_
           exact hret 0 σ τ _ _ _ _ rfl ⟨rfl, (fun _ _ => rfl), trivial⟩ hP hS dX5_outOf_177
       · have kc13 := jnle c13 rfl jz_0
         refine lv_aload_n hx hb dX5_outOf_44 rfl (lv_at hl 2 rfl) ?_
         refine va_get (D := D) hx hb hts inlX5 hown hK hP 26 (jc_26 cI cL ad σ τ) rfl 6 (of_decide_eq_true rfl) (hts _ kw_4_20) (fun _ h9 => h9) rfl dX5_outOf_45 ?_
         refine lv_bipush (v := 19) hx hb dX5_outOf_48 (of_decide_eq_true rfl) ?_
         refine lv_ishl hx hb dX5_outOf_50 ?_
         refine lv_topi (fun x17 ex17 => ?_)
         have gx17 := jrg (rfl : x17.toInt = x17.toInt)
         refine lv_iload hx hb dX5_outOf_51 (lv_at hl 6 rfl) ?_
         refine lv_bipush (v := 31) hx hb dX5_outOf_53 (of_decide_eq_true rfl) ?_
         refine lv_iand hx hb dX5_outOf_55 ?_
         refine lv_topi (fun x18 ex18 => ?_)
         have gx18 := jrg (rfl : x18.toInt = x18.toInt)
         have g19 : 0 ≤ x18.toInt ∧ x18.toInt ≤ 31 := jmask ex18 5 (of_decide_eq_true rfl) (of_decide_eq_true rfl)
         refine lv_bipush (v := 14) hx hb dX5_outOf_56 (of_decide_eq_true rfl) ?_
         refine lv_ishl hx hb dX5_outOf_58 ?_
         refine lv_topi (fun x20 ex20 => ?_)
         have gx20 := jrg (rfl : x20.toInt = x20.toInt)
         refine lv_iload hx hb dX5_outOf_59 (lv_at hl 1 rfl) ?_
         refine lv_bipush (v := 8) hx hb dX5_outOf_61 (of_decide_eq_true rfl) ?_
         refine lv_ishl hx hb dX5_outOf_63 ?_
         refine lv_topi (fun x21 ex21 => ?_)
         have gx21 := jrg (rfl : x21.toInt = x21.toInt)
         refine lv_ior hx hb dX5_outOf_64 ?_
         refine lv_topi (fun x22 ex22 => ?_)
         have gx22 := jrg (rfl : x22.toInt = x22.toInt)
         refine lv_iload hx hb dX5_outOf_65 (lv_at hl 7 rfl) ?_
         refine lv_bipush (v := 15) hx hb dX5_outOf_67 (of_decide_eq_true rfl) ?_
         refine lv_iand hx hb dX5_outOf_69 ?_
         refine lv_topi (fun x23 ex23 => ?_)
         have gx23 := jrg (rfl : x23.toInt = x23.toInt)
         have g24 : 0 ≤ x23.toInt ∧ x23.toInt ≤ 15 := jmask ex23 4 (of_decide_eq_true rfl) (of_decide_eq_true rfl)
         refine lv_iconst (v := 4) hx hb dX5_outOf_70 (of_decide_eq_true rfl) ?_
         refine lv_ishl hx hb dX5_outOf_71 ?_
         refine lv_topi (fun x25 ex25 => ?_)
         have gx25 := jrg (rfl : x25.toInt = x25.toInt)
         refine lv_ior hx hb dX5_outOf_72 ?_
         refine lv_topi (fun x26 ex26 => ?_)
         have gx26 := jrg (rfl : x26.toInt = x26.toInt)
         refine lv_iload hx hb dX5_outOf_73 (lv_at hl 8 rfl) ?_
         refine lv_bipush (v := 15) hx hb dX5_outOf_75 (of_decide_eq_true rfl) ?_
         refine lv_iand hx hb dX5_outOf_77 ?_
         refine lv_topi (fun x27 ex27 => ?_)
         have gx27 := jrg (rfl : x27.toInt = x27.toInt)
         have g28 : 0 ≤ x27.toInt ∧ x27.toInt ≤ 15 := jmask ex27 4 (of_decide_eq_true rfl) (of_decide_eq_true rfl)
         refine lv_ior hx hb dX5_outOf_78 ?_
         refine lv_topi (fun x29 ex29 => ?_)
         have gx29 := jrg (rfl : x29.toInt = x29.toInt)
         refine lv_aload_n hx hb dX5_outOf_79 rfl (lv_at hl 2 rfl) ?_
         refine va_get (D := D) hx hb hts inlX5 hown hK hP 26 (jc_26 cI cL ad σ τ) rfl 7 (of_decide_eq_true rfl) (hts _ kw_18_7) (fun _ h9 => h9) rfl dX5_outOf_80 ?_
         refine lv_iand hx hb dX5_outOf_83 ?_
         refine lv_topi (fun x30 ex30 => ?_)
         have gx30 := jrg (rfl : x30.toInt = x30.toInt)
         refine lv_ior hx hb dX5_outOf_84 ?_
         refine lv_topi (fun x31 ex31 => ?_)
         have gx31 := jrg (rfl : x31.toInt = x31.toInt)
         refine lv_istore (lv' := [(9, .int x31), (8, .int x12), (7, .int x9), (0, .ref (ad 26)), (1, .int a1), (2, .int a2), (3, .int a3), (4, .int a4), (5, .int a5), (6, .int a6)]) hx hb dX5_outOf_85 hl (of_decide_eq_true rfl) rfl (fun ls hl => ?_)
         refine lv_iload hx hb dX5_outOf_87 (lv_at hl 0 rfl) ?_
         refine lv_ldc (v := (-1640531527)) hx hb hown (hts _ kw_22_9) dX5_outOf_89 ?_
         have g32 := jrg (rfl : x31.toInt = x31.toInt)
         refine lv_imul hx hb dX5_outOf_91 ?_
         refine lv_topi (fun x33 ex33 => ?_)
         have gx33 := jrg (rfl : x33.toInt = x33.toInt)
         refine lv_bipush (v := 20) hx hb dX5_outOf_92 (of_decide_eq_true rfl) ?_
         refine lv_iushr hx hb dX5_outOf_94 rfl ?_
         refine lv_topi (fun x34 ex34 => ?_)
         have gx34 := jrg (rfl : x34.toInt = x34.toInt)
         have g35 : 0 ≤ x34.toInt ∧ x34.toInt ≤ 4095 := jushr20 ex34
         refine lv_istore (lv' := [(10, .int x34), (9, .int x31), (8, .int x12), (7, .int x9), (0, .ref (ad 26)), (1, .int a1), (2, .int a2), (3, .int a3), (4, .int a4), (5, .int a5), (6, .int a6)]) hx hb dX5_outOf_95 hl (of_decide_eq_true rfl) rfl (fun ls hl => ?_)
         refine lv_aload_n hx hb dX5_outOf_97 rfl (lv_at hl 4 rfl) ?_
         refine va_get (D := D) hx hb hts inlX5 hown hK hP 26 (jc_26 cI cL ad σ τ) rfl 4 (of_decide_eq_true rfl) (hts _ kw_4_18) (fun _ h9 => h9) rfl dX5_outOf_98 ?_
         refine lv_iload hx hb dX5_outOf_101 (lv_at hl 0 rfl) ?_
         exact by
          refine jald hx hb hK hP (jc_29 cI cL ad σ τ) (jin rfl (by omega) (by omega)) dX5_outOf_103 ?_
          refine lv_topi (fun x36 ex36 => ?_)
          refine lv_iload hx hb dX5_outOf_104 (lv_at hl 1 rfl) ?_
          refine lv_icmp_eq (tgt := 148) hx hb dX5_outOf_106 (of_decide_eq_true rfl) (fun c37 => ?_) (fun c37 => ?_)
          · have kc37 := jeq c37 rfl rfl
            refine lv_iload hx hb dX5_outOf_148 (lv_at hl 2 rfl) ?_
            refine lv_aload_n hx hb dX5_outOf_150 rfl (lv_at hl 4 rfl) ?_
            refine va_get (D := D) hx hb hts inlX5 hown hK hP 26 (jc_26 cI cL ad σ τ) rfl 5 (of_decide_eq_true rfl) (hts _ kw_4_19) (fun _ h9 => h9) rfl dX5_outOf_151 ?_
            refine lv_iload hx hb dX5_outOf_154 (lv_at hl 0 rfl) ?_
            exact by
             refine jald hx hb hK hP (jc_30 cI cL ad σ τ) (jin rfl (by omega) (by omega)) dX5_outOf_156 ?_
             refine lv_topi (fun x38 ex38 => ?_)
             have g39 := jrg (rfl : x12.toInt = x12.toInt)
             have g40 := jrg (rfl : x38.toInt = x38.toInt)
             refine lv_iadd hx hb dX5_outOf_157 ?_
             refine lv_topi (fun x41 ex41 => ?_)
             have gx41 := jrg (rfl : x41.toInt = x41.toInt)
             refine lv_istore (lv' := [(8, .int x41), (10, .int x34), (9, .int x31), (7, .int x9), (0, .ref (ad 26)), (1, .int a1), (2, .int a2), (3, .int a3), (4, .int a4), (5, .int a5), (6, .int a6)]) hx hb dX5_outOf_158 hl (of_decide_eq_true rfl) rfl (fun ls hl => ?_)
             refine lv_iload hx hb dX5_outOf_160 (lv_at hl 0 rfl) ?_
             refine lv_if_ge (tgt := 169) hx hb dX5_outOf_162 (of_decide_eq_true rfl) (fun c42 => ?_) (fun c42 => ?_)
             · have kc42 := jle c42 jz_0 rfl
               refine lv_iload hx hb dX5_outOf_169 (lv_at hl 0 rfl) ?_
               refine lv_sipush (v := 1000) hx hb dX5_outOf_171 (of_decide_eq_true rfl) ?_
               refine va_mmin hx hb (hml.trans hl.1.symm) hown (hts _ kw_22_10) (hts _ kw_22_11) (hts _ kw_21_1) (hts _ kw_22_12) (Nat.le_of_ble_eq_true rfl) (Nat.le_of_ble_eq_true rfl) (Nat.le_of_ble_eq_true rfl) (Nat.le_of_ble_eq_true rfl) dX5_outOf_174 ?_
               refine lv_topi (fun x43 ex43 => ?_)
               have g44 := jmin ex43 rfl jz_1000
               exact hret x43 σ τ _ _ _ _ rfl ⟨rfl, (fun _ _ => rfl), trivial⟩ hP hS dX5_outOf_177
             · have kc42 := jnle c42 jz_0 rfl
               refine lv_iconst (v := 0) hx hb dX5_outOf_165 (of_decide_eq_true rfl) ?_
               refine lv_goto (tgt := 177) hx hb dX5_outOf_166 (of_decide_eq_true rfl) ?_
               exact hret 0 σ τ _ _ _ _ rfl ⟨rfl, (fun _ _ => rfl), trivial⟩ hP hS dX5_outOf_177
          · have kc37 := jne c37 rfl rfl
            refine lv_aload_n hx hb dX5_outOf_109 rfl (lv_at hl 4 rfl) ?_
            refine va_get (D := D) hx hb hts inlX5 hown hK hP 26 (jc_26 cI cL ad σ τ) rfl 0 (of_decide_eq_true rfl) (hts _ kw_4_22) (fun _ h9 => h9) rfl dX5_outOf_110 ?_
            refine lv_iload hx hb dX5_outOf_113 (lv_at hl 9 rfl) ?_
            refine lv_iload hx hb dX5_outOf_115 (lv_at hl 10 rfl) ?_
            refine lv_iload_n hx hb dX5_outOf_117 rfl (lv_at hl 6 rfl) ?_
            refine lv_iload_n hx hb dX5_outOf_118 rfl (lv_at hl 5 rfl) ?_
            refine lv_iload_n hx hb dX5_outOf_119 rfl (lv_at hl 7 rfl) ?_
            refine lv_iload hx hb dX5_outOf_120 (lv_at hl 8 rfl) ?_
            refine jcallVv (As := [.int a5, .int a6, .int a2, .int a1, .int a3, .int a4]) (rest := []) ⟨hx, hb, hml, hown, hts⟩ hK hP hA hS hZ (c_X10_say_22 l D cI cL ad zz hJ σ τ a5 (A5) t5 a6 (A6) t6 a2 (A2) t2 a1 (A1) t1 a3 (A3) t3 a4 (A4) t4) cw_RX5_70 (jc_22 cI cL ad σ τ) rfl ⟨Nat.le_of_ble_eq_true rfl, Nat.le_of_ble_eq_true rfl⟩ rfl rfl rfl hl.1 rfl (Nat.le_of_ble_eq_true rfl) dX5_outOf_122 ⟨Nat.zero_le _, Nat.zero_le _⟩ (fun σ45 τ45 H locs h45 hP hS => ?_)
            obtain ⟨rfl, f47, h45⟩ := h45
            refine lv_aload_n hx hb dX5_outOf_125 rfl (lv_at hl 4 rfl) ?_
            refine va_get (D := D) hx hb hts inlX5 hown hK hP 26 (jc_26 cI cL ad σ45 τ) rfl 5 (of_decide_eq_true rfl) (hts _ kw_4_19) (fun _ h9 => h9) rfl dX5_outOf_126 ?_
            refine lv_iload hx hb dX5_outOf_129 (lv_at hl 0 rfl) ?_
            refine lv_aload_n hx hb dX5_outOf_131 rfl (lv_at hl 4 rfl) ?_
            refine va_get (D := D) hx hb hts inlX5 hown hK hP 26 (jc_26 cI cL ad σ45 τ) rfl 0 (of_decide_eq_true rfl) (hts _ kw_4_22) (fun _ h9 => h9) rfl dX5_outOf_132 ?_
            have I49 : jI22 σ45 := jI22_fr (congrFun (f47 22 (of_decide_eq_true rfl)) 0) (f47 23 (of_decide_eq_true rfl)) hI22
            refine jcallV (As := []) (rest := [.int x34, .ref (ad 30)]) ⟨hx, hb, hml, hown, hts⟩ hK hP hA hS hZ (c_X10_worked_22 l D cI cL ad zz hJ σ45 τ I49) cw_RX5_74 (jc_22 cI cL ad σ45 τ) rfl ⟨Nat.le_of_ble_eq_true rfl, Nat.le_of_ble_eq_true rfl⟩ rfl rfl rfl hl.1 rfl (Nat.le_of_ble_eq_true rfl) dX5_outOf_135 ⟨Nat.zero_le _, Nat.zero_le _⟩ (fun r51 σ50 τ50 H locs h50 hP hS => ?_)
            obtain ⟨rfl, f52, h50⟩ := h50
            exact by
             refine jast hx hb hK hP hJ hA hS (jc_30 cI cL ad σ50 τ) (ja_30 cI cL ad σ50 τ _ _) (jin rfl (by omega) (by omega)) dX5_outOf_138 (fun σ54 H locs eσ54 hP hS => ?_)
             refine lv_aload_n hx hb dX5_outOf_139 rfl (lv_at hl 4 rfl) ?_
             refine va_get (D := D) hx hb hts inlX5 hown hK hP 26 (jc_26 cI cL ad σ54 τ) rfl 4 (of_decide_eq_true rfl) (hts _ kw_4_18) (fun _ h9 => h9) rfl dX5_outOf_140 ?_
             refine lv_iload hx hb dX5_outOf_143 (lv_at hl 0 rfl) ?_
             refine lv_iload hx hb dX5_outOf_145 (lv_at hl 1 rfl) ?_
             refine jast hx hb hK hP hJ hA hS (jc_29 cI cL ad σ54 τ) (ja_29 cI cL ad σ54 τ _ _) (jin rfl (by omega) (by omega)) dX5_outOf_147 (fun σ55 H locs eσ55 hP hS => ?_)
             refine lv_iload hx hb dX5_outOf_148 (lv_at hl 2 rfl) ?_
             refine lv_aload_n hx hb dX5_outOf_150 rfl (lv_at hl 4 rfl) ?_
             refine va_get (D := D) hx hb hts inlX5 hown hK hP 26 (jc_26 cI cL ad σ55 τ) rfl 5 (of_decide_eq_true rfl) (hts _ kw_4_19) (fun _ h9 => h9) rfl dX5_outOf_151 ?_
             exact by
              refine lv_iload hx hb dX5_outOf_154 (lv_at hl 0 rfl) ?_
              refine jald hx hb hK hP (jc_30 cI cL ad σ55 τ) (jin rfl (by omega) (by omega)) dX5_outOf_156 ?_
              refine lv_topi (fun x56 ex56 => ?_)
              have g57 := jrg (rfl : x12.toInt = x12.toInt)
              have g58 := jrg (rfl : x56.toInt = x56.toInt)
              refine lv_iadd hx hb dX5_outOf_157 ?_
              refine lv_topi (fun x59 ex59 => ?_)
              have gx59 := jrg (rfl : x59.toInt = x59.toInt)
              refine lv_istore (lv' := [(8, .int x59), (10, .int x34), (9, .int x31), (7, .int x9), (0, .ref (ad 26)), (1, .int a1), (2, .int a2), (3, .int a3), (4, .int a4), (5, .int a5), (6, .int a6)]) hx hb dX5_outOf_158 hl (of_decide_eq_true rfl) rfl (fun ls hl => ?_)
              exact by
               refine lv_iload hx hb dX5_outOf_160 (lv_at hl 0 rfl) ?_
               refine lv_if_ge (tgt := 169) hx hb dX5_outOf_162 (of_decide_eq_true rfl) (fun c60 => ?_) (fun c60 => ?_)
               · have kc60 := jle c60 jz_0 rfl
                 refine lv_iload hx hb dX5_outOf_169 (lv_at hl 0 rfl) ?_
                 refine lv_sipush (v := 1000) hx hb dX5_outOf_171 (of_decide_eq_true rfl) ?_
                 refine va_mmin hx hb (hml.trans hl.1.symm) hown (hts _ kw_22_10) (hts _ kw_22_11) (hts _ kw_21_1) (hts _ kw_22_12) (Nat.le_of_ble_eq_true rfl) (Nat.le_of_ble_eq_true rfl) (Nat.le_of_ble_eq_true rfl) (Nat.le_of_ble_eq_true rfl) dX5_outOf_174 ?_
                 refine lv_topi (fun x61 ex61 => ?_)
                 have g62 := jmin ex61 rfl jz_1000
                 exact hret x61 σ55 τ _ _ _ _ rfl ⟨rfl, (fun i hi => ((jnp i eσ55 (imp_77 i hi)).trans ((jnp i eσ54 (imp_78 i hi)).trans ((f52 i (imp_79 i hi)).trans (f47 i (imp_80 i hi)))))), trivial⟩ hP hS dX5_outOf_177
               · have kc60 := jnle c60 jz_0 rfl
                 refine lv_iconst (v := 0) hx hb dX5_outOf_165 (of_decide_eq_true rfl) ?_
                 refine lv_goto (tgt := 177) hx hb dX5_outOf_166 (of_decide_eq_true rfl) ?_
                 exact hret 0 σ55 τ _ _ _ _ rfl ⟨rfl, (fun i hi => ((jnp i eσ55 (imp_77 i hi)).trans ((jnp i eσ54 (imp_78 i hi)).trans ((f52 i (imp_79 i hi)).trans (f47 i (imp_80 i hi)))))), trivial⟩ hP hS dX5_outOf_177
    · have kc11 := jnlt c11 rfl jz_64
      refine lv_iconst (v := 0) hx hb dX5_outOf_23 (of_decide_eq_true rfl) ?_
      exact hret 0 σ τ _ _ _ _ rfl ⟨rfl, (fun _ _ => rfl), trivial⟩ hP hS dX5_outOf_24
