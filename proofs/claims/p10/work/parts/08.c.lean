set_option maxHeartbeats 4000000 in
set_option maxRecDepth 100000 in
theorem c_X12_mixed_b (l : Launch) (D : va_G) (cI cL : ClassId) (ad zz : Nat → Nat) (hJ : jD ad) (σ : Nat → Nat → Int32) (τ : Nat → Nat → Int64) (a1 : Int32) (A1 : Int) (t1 : a1.toInt = A1) (a2 : Int32) (A2 : Int) (t2 : a2.toInt = A2) (a3 : Int32) (A3 : Int) (t3 : a3.toInt = A3) (hp0 : 0 ≤ A1 ∧ A1 ≤ 2000000000) (hp1 : 0 ≤ A2 ∧ A2 ≤ 2000000000) (hp2 : 0 ≤ A3 ∧ A3 ≤ 1000) : jM l yX12_mixed cX12_mixed 3 (some .int) ({ frames := 0, cells := 0, slots := 0, locals := 0 }) D cI cL ad zz [.int a1, .int a2, .int a3] σ τ (fun r σ' τ' => (σ = σ' ∧ τ = τ') ∧ (r.toInt = jMx (A3) (A1) (A2)) ∧ ((True ∧ (0 ≤ r.toInt) ∧ ((r.toInt ≤ A1) ∨ (r.toInt ≤ A2))))) := by
  refine jM.of hJ (by decide +kernel) (nt := .int) rfl (Nat.le_of_ble_eq_true rfl) ?_
  intro p e s m args below meth c Q ls hC hret hl hP
  obtain ⟨hx, hb, hr, hml, hown, hts, hK, -, hlocks, hZ⟩ := hC
  have hown : s.vm.findClass RX12 = some m.cls := hown
  have hS : va_S (jA ad) s.heap s.heap [] := va_S.rf
  have hA : ∀ q, jA ad q → jA ad q := fun _ h => h
  have hl : lv_has ls 3 [(0, .int a1), (1, .int a2), (2, .int a3)] := hl
  have g1 := jrg t1
  have g2 := jrg t2
  have g3 := jrg t3
  refine lv_iload_n hx hb dX12_mixed_0 rfl (lv_at hl 2 rfl) ?_
  refine lv_i2l (v := a3.toInt64) hx hb dX12_mixed_1 rfl ?_
  refine lv_iload_n hx hb dX12_mixed_2 rfl (lv_at hl 0 rfl) ?_
  refine lv_i2l (v := a1.toInt64) hx hb dX12_mixed_3 rfl ?_
  refine lv_lmul hx hb dX12_mixed_4 ?_
  refine lv_topl (fun lx1 elx1 => ?_)
  exact by
   have g2 := jprod (a := 1000) (b := 2000000000) (jtoL t3) (jtoL t1) (by omega) (by omega) (by omega) (by omega)
   have tlx1 : lx1.toInt = (A3 * A1) := jlmul elx1 (jtoL t3) (jtoL t1) (by omega) (by omega)
   refine lv_sipush (v := 1000) hx hb dX12_mixed_5 (of_decide_eq_true rfl) ?_
   refine lv_iload_n hx hb dX12_mixed_8 rfl (lv_at hl 2 rfl) ?_
   refine lv_isub hx hb dX12_mixed_9 ?_
   refine lv_topi (fun x3 ex3 => ?_)
   have tx3 : x3.toInt = -A3 + 1000 := (jsub ex3 jz_1000 t3 (by omega) (by omega)).trans (by omega)
   refine lv_i2l (v := x3.toInt64) hx hb dX12_mixed_10 rfl ?_
   refine lv_iload_n hx hb dX12_mixed_11 rfl (lv_at hl 1 rfl) ?_
   exact by
    refine lv_i2l (v := a2.toInt64) hx hb dX12_mixed_12 rfl ?_
    refine lv_lmul hx hb dX12_mixed_13 ?_
    refine lv_topl (fun lx4 elx4 => ?_)
    have g5 := jprod (a := 1000) (b := 2000000000) (jtoL tx3) (jtoL t2) (by omega) (by omega) (by omega) (by omega)
    have tlx4 : lx4.toInt = ((-A3 + 1000) * A2) := jlmul elx4 (jtoL tx3) (jtoL t2) (by omega) (by omega)
    refine lv_ladd hx hb dX12_mixed_14 ?_
    refine lv_topl (fun lx6 elx6 => ?_)
    have tlx6 : lx6.toInt = (A3 * A1) + ((-A3 + 1000) * A2) := (jladd elx6 tlx1 tlx4 (by omega) (by omega)).trans (by omega)
    have g7 := jmix (c := A3) (p := A1) (q := A2) (by omega) (by omega) (by omega) (by omega)
    exact by
     refine lv_ldc2 (v := 1000) hx hb hown (hts _ kw_34_19) dX12_mixed_15 ?_
     refine lv_ldiv hx hb dX12_mixed_18 (of_decide_eq_true rfl) ?_
     refine lv_topl (fun lx8 elx8 => ?_)
     have tlx8 : lx8.toInt = (((A3 * A1) + ((-A3 + 1000) * A2)) / 1000) := jldiv elx8 tlx6 jzl_1000 (by omega) (by omega)
     have g9 : (((A3 * A1) + ((-A3 + 1000) * A2)) / 1000) ≤ 2000000000 := by omega
     refine lv_l2i hx hb dX12_mixed_19 rfl ?_
     refine lv_topi (fun x10 ex10 => ?_)
     have tx10 : x10.toInt = (((A3 * A1) + ((-A3 + 1000) * A2)) / 1000) := jtoI ex10 tlx8 (by omega) (by omega)
     exact by exact hret x10 σ τ _ _ _ _ rfl ⟨⟨rfl, rfl⟩, (by unfold jMx; rw [show 1000 - A3 = -A3 + 1000 from by omega]; exact tx10), ⟨trivial, (by have h9 := tx10; omega), (by have h9 := tx10; omega)⟩⟩ hP hS dX12_mixed_20
set_option maxHeartbeats 4000000 in
set_option maxRecDepth 100000 in
theorem c_X12_mixed (l : Launch) (D : va_G) (cI cL : ClassId) (ad zz : Nat → Nat) (hJ : jD ad) (σ : Nat → Nat → Int32) (τ : Nat → Nat → Int64) (a1 : Int32) (A1 : Int) (t1 : a1.toInt = A1) (a2 : Int32) (A2 : Int) (t2 : a2.toInt = A2) (a3 : Int32) (A3 : Int) (t3 : a3.toInt = A3) : jM l yX12_mixed cX12_mixed 3 (some .int) ({ frames := 0, cells := 0, slots := 0, locals := 0 }) D cI cL ad zz [.int a1, .int a2, .int a3] σ τ (fun r σ' τ' => (σ = σ' ∧ τ = τ') ∧ True) := by
  refine jM.of hJ (by decide +kernel) (nt := .int) rfl (Nat.le_of_ble_eq_true rfl) ?_
  intro p e s m args below meth c Q ls hC hret hl hP
  obtain ⟨hx, hb, hr, hml, hown, hts, hK, -, hlocks, hZ⟩ := hC
  have hown : s.vm.findClass RX12 = some m.cls := hown
  have hS : va_S (jA ad) s.heap s.heap [] := va_S.rf
  have hA : ∀ q, jA ad q → jA ad q := fun _ h => h
  have hl : lv_has ls 3 [(0, .int a1), (1, .int a2), (2, .int a3)] := hl
  have g1 := jrg t1
  have g2 := jrg t2
  have g3 := jrg t3
  refine lv_iload_n hx hb dX12_mixed_0 rfl (lv_at hl 2 rfl) ?_
  refine lv_i2l (v := a3.toInt64) hx hb dX12_mixed_1 rfl ?_
  refine lv_iload_n hx hb dX12_mixed_2 rfl (lv_at hl 0 rfl) ?_
  refine lv_i2l (v := a1.toInt64) hx hb dX12_mixed_3 rfl ?_
  refine lv_lmul hx hb dX12_mixed_4 ?_
  refine lv_topl (fun lx1 elx1 => ?_)
  refine lv_sipush (v := 1000) hx hb dX12_mixed_5 (of_decide_eq_true rfl) ?_
  refine lv_iload_n hx hb dX12_mixed_8 rfl (lv_at hl 2 rfl) ?_
  refine lv_isub hx hb dX12_mixed_9 ?_
  refine lv_topi (fun x2 ex2 => ?_)
  have gx2 := jrg (rfl : x2.toInt = x2.toInt)
  refine lv_i2l (v := x2.toInt64) hx hb dX12_mixed_10 rfl ?_
  refine lv_iload_n hx hb dX12_mixed_11 rfl (lv_at hl 1 rfl) ?_
  refine lv_i2l (v := a2.toInt64) hx hb dX12_mixed_12 rfl ?_
  refine lv_lmul hx hb dX12_mixed_13 ?_
  refine lv_topl (fun lx3 elx3 => ?_)
  refine lv_ladd hx hb dX12_mixed_14 ?_
  refine lv_topl (fun lx4 elx4 => ?_)
  refine lv_ldc2 (v := 1000) hx hb hown (hts _ kw_34_19) dX12_mixed_15 ?_
  refine lv_ldiv hx hb dX12_mixed_18 (of_decide_eq_true rfl) ?_
  refine lv_topl (fun lx5 elx5 => ?_)
  refine lv_l2i hx hb dX12_mixed_19 rfl ?_
  refine lv_topi (fun x6 ex6 => ?_)
  have gx6 := jrg (rfl : x6.toInt = x6.toInt)
  exact hret x6 σ τ _ _ _ _ rfl ⟨⟨rfl, rfl⟩, trivial⟩ hP hS dX12_mixed_20
set_option maxHeartbeats 4000000 in
set_option maxRecDepth 100000 in
theorem c_X12_forgets (l : Launch) (D : va_G) (cI cL : ClassId) (ad zz : Nat → Nat) (hJ : jD ad) (σ : Nat → Nat → Int32) (τ : Nat → Nat → Int64) (hs_jqSt : jqSt σ) (hp0 : 0 ≤ (σ 55 42).toInt ∧ (σ 55 42).toInt ≤ 1000000000) : jMv l yX12_forgets cX12_forgets 1 none ({ frames := 0, cells := 0, slots := 0, locals := 0 }) D cI cL ad zz [.ref (ad 55)] σ τ (fun σ' τ' => τ = τ' ∧ (∀ i : Nat, (i < 55 ∨ 55 < i) → σ' i = σ i) ∧ (∀ k : Nat, (k < 42 ∨ 42 < k) → σ' 55 k = σ 55 k) ∧ (jqSt σ') ∧ (jrM σ') ∧ ((σ' 55 42).toInt = (σ 55 42).toInt + 1) ∧ True) := by
  refine jMv.of hJ (by decide +kernel) rfl (Nat.le_of_ble_eq_true rfl) ?_
  intro p e s m args below meth c Q ls hC hret hl hP
  obtain ⟨hx, hb, hr, hml, hown, hts, hK, -, hlocks, hZ⟩ := hC
  have hown : s.vm.findClass RX12 = some m.cls := hown
  have hS : va_S (jA ad) s.heap s.heap [] := va_S.rf
  have hA : ∀ q, jA ad q → jA ad q := fun _ h => h
  have hl : lv_has ls 1 [(0, .ref (ad 55))] := hl
  refine lv_aload_n hx hb dX12_forgets_0 rfl (lv_at hl 0 rfl) ?_
  refine lv_dup hx hb dX12_forgets_1 rfl ?_
  refine va_get (D := D) hx hb hts inlX12 hown hK hP 55 (jc_55 cI cL ad σ τ) rfl 42 (of_decide_eq_true rfl) (hts _ kw_33_10) (fun _ h9 => h9) rfl dX12_forgets_2 ?_
  refine lv_iconst (v := 1) hx hb dX12_forgets_5 (of_decide_eq_true rfl) ?_
  have g1 := jrg (rfl : (σ 55 42).toInt = (σ 55 42).toInt)
  refine lv_iadd hx hb dX12_forgets_6 ?_
  refine lv_topi (fun x2 ex2 => ?_)
  exact by
   have tx2 : x2.toInt = (σ 55 42).toInt + 1 := (jadd ex2 rfl jz_1 (by omega) (by omega)).trans (by omega)
   refine jput (ty := .int) hx hb hts inlX12 tyX12 tyX12_ok nmX12 hown hK hP hJ hA hS (jc_55 cI cL ad σ τ) rfl (k := 42) (of_decide_eq_true rfl) (Nat.le_of_ble_eq_true rfl) (jp_55_42 cI cL ad σ τ x2) (hts _ kw_33_10) (fun _ h9 => h9) rfl (by decide +kernel) rfl rfl dX12_forgets_7 (fun σ3 H locs eσ3 hP hS => ?_)
   have z4 : (σ3 55 42).toInt = (σ 55 42).toInt + 1 := ((congrArg Int32.toInt (show σ3 55 42 = x2 from (jsp eσ3))).trans tx2)
   have p5 : jqSt σ3 := (jqSt.on hs_jqSt (jnp 78 eσ3 (of_decide_eq_true rfl)) (show (σ3 55 42).toInt = (σ 55 42).toInt + 1 by omega)).1
   exact hret σ3 τ _ _ _ _ ⟨rfl, (fun i hi => (jnp i eσ3 (imp_165 i hi))), (fun i hi => (jkp i eσ3 (imp_199 i hi))), p5, (jqSt.on hs_jqSt (jnp 78 eσ3 (of_decide_eq_true rfl)) (show (σ3 55 42).toInt = (σ 55 42).toInt + 1 by omega)).2, (by omega), trivial⟩ hP hS dX12_forgets_10
set_option maxHeartbeats 4000000 in
set_option maxRecDepth 100000 in
theorem c_X12_stateNumber (l : Launch) (D : va_G) (cI cL : ClassId) (ad zz : Nat → Nat) (hJ : jD ad) (σ : Nat → Nat → Int32) (τ : Nat → Nat → Int64) (hI102 : jI102 σ) (hI120 : jI120 σ) : jM l yX12_stateNumber cX12_stateNumber 3 (some .int) ({ frames := 0, cells := 0, slots := 0, locals := 0 }) D cI cL ad zz [.ref (ad 55)] σ τ (fun r σ' τ' => (σ = σ' ∧ τ = τ') ∧ ((jrW0 σ → r.toInt = jNum (σ 55 6).toInt (σ 55 27).toInt (jrS σ) (jrW σ))) ∧ True) := by
  refine jM.of hJ (by decide +kernel) (nt := .int) rfl (Nat.le_of_ble_eq_true rfl) ?_
  intro p e s m args below meth c Q ls hC hret hl hP
  obtain ⟨hx, hb, hr, hml, hown, hts, hK, -, hlocks, hZ⟩ := hC
  have hown : s.vm.findClass RX12 = some m.cls := hown
  have hS : va_S (jA ad) s.heap s.heap [] := va_S.rf
  have hA : ∀ q, jA ad q → jA ad q := fun _ h => h
  have hl : lv_has ls 3 [(0, .ref (ad 55))] := hl
  obtain ⟨i1, w2, w3⟩ : (0 ≤ (σ 55 6).toInt ∧ (σ 55 6).toInt ≤ 4) ∧ (∀ k : Nat, k < 4 → 0 ≤ (σ 60 k).toInt ∧ (σ 60 k).toInt ≤ 50) ∧ (∀ k : Nat, k < 4 → 0 ≤ (σ 61 k).toInt ∧ (σ 61 k).toInt ≤ 20) := id hI102
  obtain ⟨i4, i5, i6, i7, i8, w9⟩ : (0 ≤ (σ 55 25).toInt) ∧ ((σ 55 25).toInt ≤ (σ 55 10).toInt) ∧ (0 ≤ (σ 55 26).toInt) ∧ ((σ 55 26).toInt ≤ (σ 55 12).toInt) ∧ ((-1) ≤ (σ 55 27).toInt ∧ (σ 55 27).toInt ≤ 3) ∧ (∀ k : Nat, k < 4 → 0 ≤ (σ 68 k).toInt ∧ (σ 68 k).toInt ≤ 3) := id hI120
  refine lv_aload_n hx hb dX12_stateNumber_0 rfl (lv_at hl 0 rfl) ?_
  refine va_get (D := D) hx hb hts inlX12 hown hK hP 55 (jc_55 cI cL ad σ τ) rfl 27 (of_decide_eq_true rfl) (hts _ kw_23_11) (fun _ h9 => h9) rfl dX12_stateNumber_1 ?_
  refine lv_iconst (v := 1) hx hb dX12_stateNumber_4 (of_decide_eq_true rfl) ?_
  have g10 := jrg (rfl : (σ 55 27).toInt = (σ 55 27).toInt)
  refine lv_iadd hx hb dX12_stateNumber_5 ?_
  refine lv_topi (fun x11 ex11 => ?_)
  exact by
   have tx11 : x11.toInt = (σ 55 27).toInt + 1 := (jadd ex11 rfl jz_1 (by omega) (by omega)).trans (by omega)
   refine lv_istore_n (lv' := [(1, .int x11), (0, .ref (ad 55))]) hx hb dX12_stateNumber_6 rfl hl (of_decide_eq_true rfl) rfl (fun ls hl => ?_)
   refine lv_iconst (v := 0) hx hb dX12_stateNumber_7 (of_decide_eq_true rfl) ?_
   refine lv_istore_n (lv' := [(2, .int 0), (1, .int x11), (0, .ref (ad 55))]) hx hb dX12_stateNumber_8 rfl hl (of_decide_eq_true rfl) rfl (fun ls hl => ?_)
   have lp12 : ∀ (n13 : Nat) (x14 : Int32) (x15 : Int32) (H : Heap) (locs : List Loc) (ls : Array Slot), (-x15.toInt + 4 : Int) < n13 → 0 ≤ x15.toInt → x15.toInt ≤ 4 → ((x15.toInt = 0 ∧ 0 ≤ x14.toInt ∧ x14.toInt ≤ 4) ∨ (x15.toInt = 1 ∧ 0 ≤ x14.toInt ∧ x14.toInt ≤ 19) ∨ (x15.toInt = 2 ∧ 0 ≤ x14.toInt ∧ x14.toInt ≤ 79) ∨ (x15.toInt = 3 ∧ 0 ≤ x14.toInt ∧ x14.toInt ≤ 319) ∨ (x15.toInt = 4 ∧ 0 ≤ x14.toInt ∧ x14.toInt ≤ 1279)) → x15.toInt ≤ (σ 55 6).toInt → ((x14 : Int32).toInt = jn4 (σ 55 27).toInt (jrS σ) (x15 : Int32).toInt.toNat) → jH D cI cL ad σ τ H → va_S (jA ad) s.heap H locs → lv_has ls 3 [(2, .int x15), (1, .int x14), (0, .ref (ad 55))] → W p l e ({ frames := 0, cells := 0, slots := 0, locals := 0 }) s m args below meth c H locs 0 0 Q (F0 m 9 ls []) := by
     intro n13
     induction n13 with
     | zero => intro x14 x15 H locs ls h17 h18 h19 h20 h21; have gx14 := jrg (rfl : x14.toInt = x14.toInt); exact absurd h17 (by omega)
     | succ n13 ihlp12 =>
       intro x14 x15 H locs ls h17 h18 h19 h20 h21 q23 hP hS hl
       exact by
        have gx14 := jrg (rfl : x14.toInt = x14.toInt)
        refine lv_iload_n hx hb dX12_stateNumber_9 rfl (lv_at hl 0 rfl) ?_
        refine lv_aload_n hx hb dX12_stateNumber_10 rfl (lv_at hl 2 rfl) ?_
        refine va_get (D := D) hx hb hts inlX12 hown hK hP 55 (jc_55 cI cL ad σ τ) rfl 6 (of_decide_eq_true rfl) (hts _ kw_9_13) (fun _ h9 => h9) rfl dX12_stateNumber_11 ?_
        refine lv_icmp_ge (tgt := 34) hx hb dX12_stateNumber_14 (of_decide_eq_true rfl) (fun c24 => ?_) (fun c24 => ?_)
        · have kc24 := jle c24 rfl rfl
          refine lv_iconst (v := 0) hx hb dX12_stateNumber_34 (of_decide_eq_true rfl) ?_
          refine lv_istore_n (lv' := [(2, .int 0), (1, .int x14), (0, .ref (ad 55))]) hx hb dX12_stateNumber_35 rfl hl (of_decide_eq_true rfl) rfl (fun ls hl => ?_)
          have lp25 : ∀ (n26 : Nat) (x27 : Int32) (x28 : Int32) (H : Heap) (locs : List Loc) (ls : Array Slot), (-x28.toInt + 4 : Int) < n26 → 0 ≤ x28.toInt → x28.toInt ≤ 4 → x28.toInt ≤ (σ 55 6).toInt → (jrW0 σ → (x27 : Int32).toInt = jn9 (jn4 (σ 55 27).toInt (jrS σ) (σ 55 6).toInt.toNat) (jrW σ) (x28 : Int32).toInt.toNat) → jH D cI cL ad σ τ H → va_S (jA ad) s.heap H locs → lv_has ls 3 [(2, .int x28), (1, .int x27), (0, .ref (ad 55))] → W p l e ({ frames := 0, cells := 0, slots := 0, locals := 0 }) s m args below meth c H locs 0 0 Q (F0 m 36 ls []) := by
            intro n26
            induction n26 with
            | zero => intro x27 x28 H locs ls h30 h31 h32 h33; have gx27 := jrg (rfl : x27.toInt = x27.toInt); exact absurd h30 (by omega)
            | succ n26 ihlp25 =>
              intro x27 x28 H locs ls h30 h31 h32 h33 q35 hP hS hl
              exact by
               have gx27 := jrg (rfl : x27.toInt = x27.toInt)
               refine lv_iload_n hx hb dX12_stateNumber_36 rfl (lv_at hl 0 rfl) ?_
               refine lv_aload_n hx hb dX12_stateNumber_37 rfl (lv_at hl 2 rfl) ?_
               refine va_get (D := D) hx hb hts inlX12 hown hK hP 55 (jc_55 cI cL ad σ τ) rfl 6 (of_decide_eq_true rfl) (hts _ kw_9_13) (fun _ h9 => h9) rfl dX12_stateNumber_38 ?_
               refine lv_icmp_ge (tgt := 78) hx hb dX12_stateNumber_41 (of_decide_eq_true rfl) (fun c36 => ?_) (fun c36 => ?_)
               · have kc36 := jle c36 rfl rfl
                 refine lv_iload_n hx hb dX12_stateNumber_78 rfl (lv_at hl 1 rfl) ?_
                 exact hret x27 σ τ _ _ _ _ rfl ⟨⟨rfl, rfl⟩, (fun w0 => by have w := q35 w0; rw [show (x28 : Int32).toInt.toNat = (σ 55 6).toInt.toNat from by omega] at w; exact w), trivial⟩ hP hS dX12_stateNumber_79
               · have kc36 := jnle c36 rfl rfl
                 refine lv_bipush (v := 9) hx hb dX12_stateNumber_44 (of_decide_eq_true rfl) ?_
                 refine lv_iload_n hx hb dX12_stateNumber_46 rfl (lv_at hl 1 rfl) ?_
                 have g37 := jrg (rfl : x27.toInt = x27.toInt)
                 refine lv_imul hx hb dX12_stateNumber_47 ?_
                 refine lv_topi (fun x38 ex38 => ?_)
                 have gx38 := jrg (rfl : x38.toInt = x38.toInt)
                 refine lv_aload_n hx hb dX12_stateNumber_48 rfl (lv_at hl 2 rfl) ?_
                 refine va_get (D := D) hx hb hts inlX12 hown hK hP 55 (jc_55 cI cL ad σ τ) rfl 29 (of_decide_eq_true rfl) (hts _ kw_7_15) (fun _ h9 => h9) rfl dX12_stateNumber_49 ?_
                 refine lv_iload_n hx hb dX12_stateNumber_52 rfl (lv_at hl 0 rfl) ?_
                 exact by
                  refine jald hx hb hK hP (jc_69 cI cL ad σ τ) (jin rfl (by omega) (by omega)) dX12_stateNumber_53 ?_
                  refine jtopr (y := (σ 69 x28.toNatClampNeg)) rfl ?_
                  refine lv_bipush (v := 8) hx hb dX12_stateNumber_54 (of_decide_eq_true rfl) ?_
                  refine lv_icmp_le (tgt := 64) hx hb dX12_stateNumber_56 (of_decide_eq_true rfl) (fun c39 => ?_) (fun c39 => ?_)
                  · have kc39 := jle c39 rfl jz_8
                    refine lv_aload_n hx hb dX12_stateNumber_64 rfl (lv_at hl 2 rfl) ?_
                    refine va_get (D := D) hx hb hts inlX12 hown hK hP 55 (jc_55 cI cL ad σ τ) rfl 29 (of_decide_eq_true rfl) (hts _ kw_7_15) (fun _ h9 => h9) rfl dX12_stateNumber_65 ?_
                    refine lv_iload_n hx hb dX12_stateNumber_68 rfl (lv_at hl 0 rfl) ?_
                    refine jald hx hb hK hP (jc_69 cI cL ad σ τ) (jin rfl (by omega) (by omega)) dX12_stateNumber_69 ?_
                    exact by
                     refine jtopr (y := (σ 69 x28.toNatClampNeg)) rfl ?_
                     have g40 := jrg (rfl : x38.toInt = x38.toInt)
                     have g41 := jrg (rfl : (σ 69 x28.toNatClampNeg).toInt = (σ 69 x28.toNatClampNeg).toInt)
                     refine lv_iadd hx hb dX12_stateNumber_70 ?_
                     refine lv_topi (fun x42 ex42 => ?_)
                     have gx42 := jrg (rfl : x42.toInt = x42.toInt)
                     refine lv_istore_n (lv' := [(1, .int x42), (2, .int x28), (0, .ref (ad 55))]) hx hb dX12_stateNumber_71 rfl hl (of_decide_eq_true rfl) rfl (fun ls hl => ?_)
                     obtain ⟨x43, ex43⟩ : ∃ y : Int32, y = x28 + 1 := ⟨_, rfl⟩
                     have tx43 : x43.toInt = x28.toInt + 1 := (jadd ex43 rfl jz_1 (by omega) (by omega)).trans (by omega)
                     exact by
                      refine lv_iinc (v := x43) (lv' := [(2, .int x43), (1, .int x42), (0, .ref (ad 55))]) hx hb dX12_stateNumber_72 hl (k := 1) rfl (by rw [ex43]; rfl) (of_decide_eq_true rfl) rfl (fun ls hl => ?_)
                      refine lv_goto (tgt := 36) hx hb dX12_stateNumber_75 (of_decide_eq_true rfl) ?_
                      exact by exact ihlp25 x42 x43 _ _ ls (by have h91 := tx43; omega) (by have h91 := tx43; omega) (by have h91 := tx43; omega) (by have h91 := tx43; omega)   (fun w0 => jn9_step (x := x38) (y := (σ 69 x28.toNatClampNeg)) (q35 w0) (jn4_b (L := (σ 55 27).toInt) (S := jrS σ) (by omega) (fun c hc => w9 c hc) (by omega)) (by omega) w0 (by rw [ex38]) (by rw [ex42]) (Or.inr ⟨rfl, (show (σ 69 x28.toNatClampNeg).toInt ≤ 8 by omega)⟩) (show (x43 : Int32).toInt.toNat = (x28 : Int32).toInt.toNat + 1 by have h9 := tx43; omega)) hP hS (lv_sub hl [0, 1, 2] rfl)
                  · have kc39 := jnle c39 rfl jz_8
                    refine lv_bipush (v := 8) hx hb dX12_stateNumber_59 (of_decide_eq_true rfl) ?_
                    refine lv_goto (tgt := 70) hx hb dX12_stateNumber_61 (of_decide_eq_true rfl) ?_
                    have g44 := jrg (rfl : x38.toInt = x38.toInt)
                    refine lv_iadd hx hb dX12_stateNumber_70 ?_
                    refine lv_topi (fun x45 ex45 => ?_)
                    have gx45 := jrg (rfl : x45.toInt = x45.toInt)
                    refine lv_istore_n (lv' := [(1, .int x45), (2, .int x28), (0, .ref (ad 55))]) hx hb dX12_stateNumber_71 rfl hl (of_decide_eq_true rfl) rfl (fun ls hl => ?_)
                    obtain ⟨x46, ex46⟩ : ∃ y : Int32, y = x28 + 1 := ⟨_, rfl⟩
                    exact by
                     have tx46 : x46.toInt = x28.toInt + 1 := (jadd ex46 rfl jz_1 (by omega) (by omega)).trans (by omega)
                     refine lv_iinc (v := x46) (lv' := [(2, .int x46), (1, .int x45), (0, .ref (ad 55))]) hx hb dX12_stateNumber_72 hl (k := 1) rfl (by rw [ex46]; rfl) (of_decide_eq_true rfl) rfl (fun ls hl => ?_)
                     refine lv_goto (tgt := 36) hx hb dX12_stateNumber_75 (of_decide_eq_true rfl) ?_
                     exact by exact ihlp25 x45 x46 _ _ ls (by have h91 := tx46; omega) (by have h91 := tx46; omega) (by have h91 := tx46; omega) (by have h91 := tx46; omega)   (fun w0 => jn9_step (x := x38) (y := 8) (q35 w0) (jn4_b (L := (σ 55 27).toInt) (S := jrS σ) (by omega) (fun c hc => w9 c hc) (by omega)) (by omega) w0 (by rw [ex38]) (by rw [ex45]) (Or.inl ⟨by decide, (show 8 < (σ 69 x28.toNatClampNeg).toInt by omega)⟩) (show (x46 : Int32).toInt.toNat = (x28 : Int32).toInt.toNat + 1 by have h9 := tx46; omega)) hP hS (lv_sub hl [0, 1, 2] rfl)
          exact by exact lp25 1000000 x14 0 _ _ ls (by have h91 := jz_0; omega) (by have h91 := jz_0; omega) (by have h91 := jz_0; omega) (by have h91 := jz_0; omega)  (fun _ => by rw [show (0 : Int32).toInt.toNat = 0 from by have h9 := jz_0; omega]; show (x14 : Int32).toInt = (jn4 (σ 55 27).toInt (jrS σ) (σ 55 6).toInt.toNat); rw [show (σ 55 6).toInt.toNat = (x15 : Int32).toInt.toNat from by omega]; exact q23) hP hS hl
        · have kc24 := jnle c24 rfl rfl
          refine lv_iconst (v := 4) hx hb dX12_stateNumber_17 (of_decide_eq_true rfl) ?_
          refine lv_iload_n hx hb dX12_stateNumber_18 rfl (lv_at hl 1 rfl) ?_
          have g47 := jrg (rfl : x14.toInt = x14.toInt)
          exact by
           refine lv_imul hx hb dX12_stateNumber_19 ?_
           refine lv_topi (fun x48 ex48 => ?_)
           have tx48 : x48.toInt = 4 * x14.toInt := (jmul ex48 jz_4 rfl (by omega) (by omega)).trans (by omega)
           refine lv_aload_n hx hb dX12_stateNumber_20 rfl (lv_at hl 2 rfl) ?_
           refine va_get (D := D) hx hb hts inlX12 hown hK hP 55 (jc_55 cI cL ad σ τ) rfl 28 (of_decide_eq_true rfl) (hts _ kw_7_14) (fun _ h9 => h9) rfl dX12_stateNumber_21 ?_
           refine lv_iload_n hx hb dX12_stateNumber_24 rfl (lv_at hl 0 rfl) ?_
           refine jald hx hb hK hP (jc_68 cI cL ad σ τ) (jin rfl (by omega) (by omega)) dX12_stateNumber_25 ?_
           have g49 := w9 _ (jnat (x := x15) rfl (n := 4) (by omega) (of_decide_eq_true rfl))
           refine jtopr (y := (σ 68 x15.toNatClampNeg)) rfl ?_
           exact by
            have g50 := jrg (rfl : (σ 68 x15.toNatClampNeg).toInt = (σ 68 x15.toNatClampNeg).toInt)
            refine lv_iadd hx hb dX12_stateNumber_26 ?_
            refine lv_topi (fun x51 ex51 => ?_)
            have tx51 : x51.toInt = 4 * x14.toInt + (σ 68 x15.toNatClampNeg).toInt := (jadd ex51 tx48 rfl (by omega) (by omega)).trans (by omega)
            refine lv_istore_n (lv' := [(1, .int x51), (2, .int x15), (0, .ref (ad 55))]) hx hb dX12_stateNumber_27 rfl hl (of_decide_eq_true rfl) rfl (fun ls hl => ?_)
            obtain ⟨x52, ex52⟩ : ∃ y : Int32, y = x15 + 1 := ⟨_, rfl⟩
            have tx52 : x52.toInt = x15.toInt + 1 := (jadd ex52 rfl jz_1 (by omega) (by omega)).trans (by omega)
            refine lv_iinc (v := x52) (lv' := [(2, .int x52), (1, .int x51), (0, .ref (ad 55))]) hx hb dX12_stateNumber_28 hl (k := 1) rfl (by rw [ex52]; rfl) (of_decide_eq_true rfl) rfl (fun ls hl => ?_)
            refine lv_goto (tgt := 9) hx hb dX12_stateNumber_31 (of_decide_eq_true rfl) ?_
            exact by exact ihlp12 x51 x52 _ _ ls (by have h90 := tx51; have h91 := tx52; omega) (by have h90 := tx51; have h91 := tx52; omega) (by have h90 := tx51; have h91 := tx52; omega) (by have h90 := tx51; have h91 := tx52; omega) (by have h90 := tx51; have h91 := tx52; omega)   (by rw [show (x52 : Int32).toInt.toNat = (x15 : Int32).toInt.toNat + 1 from by have h9 := tx52; omega]; show (x51 : Int32).toInt = 4 * jn4 (σ 55 27).toInt (jrS σ) (x15 : Int32).toInt.toNat + (σ 68 x15.toNatClampNeg).toInt; rw [← q23]; have h9 := tx51; omega) hP hS (lv_sub hl [0, 1, 2] rfl)
   exact by exact lp12 1000000 x11 0 _ _ ls (by have h90 := tx11; have h91 := jz_0; omega) (by have h90 := tx11; have h91 := jz_0; omega) (by have h90 := tx11; have h91 := jz_0; omega) (by have h90 := tx11; have h91 := jz_0; omega) (by have h90 := tx11; have h91 := jz_0; omega)  (by have h9 := tx11; rw [show (0 : Int32).toInt.toNat = 0 from by have h9 := jz_0; omega]; show (x11 : Int32).toInt = (σ 55 27).toInt + 1; omega) hP hS hl
set_option maxHeartbeats 4000000 in
set_option maxRecDepth 100000 in
theorem c_X12_spot (l : Launch) (D : va_G) (cI cL : ClassId) (ad zz : Nat → Nat) (hJ : jD ad) (σ : Nat → Nat → Int32) (τ : Nat → Nat → Int64) (a1 : Int32) (A1 : Int) (t1 : a1.toInt = A1) (a2 : Int32) (A2 : Int) (t2 : a2.toInt = A2) : jM l yX12_spot cX12_spot 5 (some .int) ({ frames := 0, cells := 0, slots := 0, locals := 0 }) D cI cL ad zz [.ref (ad 55), .int a1, .int a2] σ τ (fun r σ' τ' => (σ = σ' ∧ τ = τ') ∧ ((True ∧ (0 ≤ r.toInt ∧ r.toInt ≤ 65535) ∧ ((σ 78 r.toNatClampNeg) ≠ σ 55 42 ∨ ((σ 74 r.toNatClampNeg) = a1 ∧ (σ 75 r.toNatClampNeg) = a2))) ∨ (r = (-1) ∧ True))) := by
  refine jM.of hJ (by decide +kernel) (nt := .int) rfl (Nat.le_of_ble_eq_true rfl) ?_
  intro p e s m args below meth c Q ls hC hret hl hP
  obtain ⟨hx, hb, hr, hml, hown, hts, hK, -, hlocks, hZ⟩ := hC
  have hown : s.vm.findClass RX12 = some m.cls := hown
  have hS : va_S (jA ad) s.heap s.heap [] := va_S.rf
  have hA : ∀ q, jA ad q → jA ad q := fun _ h => h
  have hl : lv_has ls 5 [(0, .ref (ad 55)), (1, .int a1), (2, .int a2)] := hl
  have g1 := jrg t1
  have g2 := jrg t2
  refine lv_iload_n hx hb dX12_spot_0 rfl (lv_at hl 1 rfl) ?_
  refine lv_bipush (v := 31) hx hb dX12_spot_1 (of_decide_eq_true rfl) ?_
  refine lv_imul hx hb dX12_spot_3 ?_
  refine lv_topi (fun x1 ex1 => ?_)
  have gx1 := jrg (rfl : x1.toInt = x1.toInt)
  refine lv_iload_n hx hb dX12_spot_4 rfl (lv_at hl 2 rfl) ?_
  have g2 := jrg (rfl : x1.toInt = x1.toInt)
  refine lv_iadd hx hb dX12_spot_5 ?_
  refine lv_topi (fun x3 ex3 => ?_)
  have gx3 := jrg (rfl : x3.toInt = x3.toInt)
  refine lv_ldcw (v := 40503) hx hb hown (hts _ kw_34_13) dX12_spot_6 ?_
  have g4 := jrg (rfl : x3.toInt = x3.toInt)
  refine lv_imul hx hb dX12_spot_9 ?_
  refine lv_topi (fun x5 ex5 => ?_)
  have gx5 := jrg (rfl : x5.toInt = x5.toInt)
  refine lv_ldcw (v := 65535) hx hb hown (hts _ kw_34_14) dX12_spot_10 ?_
  refine lv_iand hx hb dX12_spot_13 ?_
  refine lv_topi (fun x6 ex6 => ?_)
  have gx6 := jrg (rfl : x6.toInt = x6.toInt)
  have g7 : 0 ≤ x6.toInt ∧ x6.toInt ≤ 65535 := jmask ex6 16 (of_decide_eq_true rfl) (of_decide_eq_true rfl)
  refine lv_istore_n (lv' := [(3, .int x6), (0, .ref (ad 55)), (1, .int a1), (2, .int a2)]) hx hb dX12_spot_14 rfl hl (of_decide_eq_true rfl) rfl (fun ls hl => ?_)
  refine lv_iconst (v := 0) hx hb dX12_spot_15 (of_decide_eq_true rfl) ?_
  refine lv_istore (lv' := [(4, .int 0), (3, .int x6), (0, .ref (ad 55)), (1, .int a1), (2, .int a2)]) hx hb dX12_spot_16 hl (of_decide_eq_true rfl) rfl (fun ls hl => ?_)
  have lp8 : ∀ (n9 : Nat) (x10 : Int32) (x11 : Int32) (H : Heap) (locs : List Loc) (ls : Array Slot), (-x11.toInt + 65536 : Int) < n9 → 0 ≤ x10.toInt → x10.toInt ≤ 65535 → 0 ≤ x11.toInt → x11.toInt ≤ 65536 → jH D cI cL ad σ τ H → va_S (jA ad) s.heap H locs → lv_has ls 5 [(4, .int x11), (3, .int x10), (0, .ref (ad 55)), (1, .int a1), (2, .int a2)] → W p l e ({ frames := 0, cells := 0, slots := 0, locals := 0 }) s m args below meth c H locs 0 0 Q (F0 m 18 ls []) := by
    intro n9
    induction n9 with
    | zero => intro x10 x11 H locs ls h13 h14 h15 h16 h17; exact absurd h13 (by omega)
    | succ n9 ihlp8 =>
      intro x10 x11 H locs ls h13 h14 h15 h16 h17 hP hS hl
      exact by
       refine lv_iload hx hb dX12_spot_18 (lv_at hl 0 rfl) ?_
       refine lv_ldc (v := 65536) hx hb hown (hts _ kw_7_22) dX12_spot_20 ?_
       refine lv_icmp_ge (tgt := 74) hx hb dX12_spot_22 (of_decide_eq_true rfl) (fun c19 => ?_) (fun c19 => ?_)
       · have kc19 := jle c19 jz_65536 rfl
         refine lv_iconst (v := (-1)) hx hb dX12_spot_74 (of_decide_eq_true rfl) ?_
         exact hret (-1) σ τ _ _ _ _ rfl ⟨⟨rfl, rfl⟩, Or.inr (⟨rfl, trivial⟩)⟩ hP hS dX12_spot_75
       · have kc19 := jnle c19 jz_65536 rfl
         refine lv_aload_n hx hb dX12_spot_25 rfl (lv_at hl 2 rfl) ?_
         refine va_get (D := D) hx hb hts inlX12 hown hK hP 55 (jc_55 cI cL ad σ τ) rfl 43 (of_decide_eq_true rfl) (hts _ kw_8_3) (fun _ h9 => h9) rfl dX12_spot_26 ?_
         refine lv_iload_n hx hb dX12_spot_29 rfl (lv_at hl 1 rfl) ?_
         exact by
          refine jald hx hb hK hP (jc_78 cI cL ad σ τ) (jin rfl (by omega) (by omega)) dX12_spot_30 ?_
          refine jtopr (y := (σ 78 x10.toNatClampNeg)) rfl ?_
          refine lv_aload_n hx hb dX12_spot_31 rfl (lv_at hl 2 rfl) ?_
          refine va_get (D := D) hx hb hts inlX12 hown hK hP 55 (jc_55 cI cL ad σ τ) rfl 42 (of_decide_eq_true rfl) (hts _ kw_33_10) (fun _ h9 => h9) rfl dX12_spot_32 ?_
          refine lv_icmp_ne (tgt := 58) hx hb dX12_spot_35 (of_decide_eq_true rfl) (fun c20 => ?_) (fun c20 => ?_)
          · have kc20 := jne c20 rfl rfl
            refine lv_iload_n hx hb dX12_spot_58 rfl (lv_at hl 1 rfl) ?_
            exact hret x10 σ τ _ _ _ _ rfl ⟨⟨rfl, rfl⟩, Or.inl ⟨trivial, (by omega), (Or.inl c20)⟩⟩ hP hS dX12_spot_59
          · have kc20 := jeq c20 rfl rfl
            refine lv_aload_n hx hb dX12_spot_38 rfl (lv_at hl 2 rfl) ?_
            refine va_get (D := D) hx hb hts inlX12 hown hK hP 55 (jc_55 cI cL ad σ τ) rfl 38 (of_decide_eq_true rfl) (hts _ kw_7_23) (fun _ h9 => h9) rfl dX12_spot_39 ?_
            refine lv_iload_n hx hb dX12_spot_42 rfl (lv_at hl 1 rfl) ?_
            exact by
             refine jald hx hb hK hP (jc_74 cI cL ad σ τ) (jin rfl (by omega) (by omega)) dX12_spot_43 ?_
             refine jtopr (y := (σ 74 x10.toNatClampNeg)) rfl ?_
             refine lv_iload_n hx hb dX12_spot_44 rfl (lv_at hl 3 rfl) ?_
             refine lv_icmp_ne (tgt := 60) hx hb dX12_spot_45 (of_decide_eq_true rfl) (fun c21 => ?_) (fun c21 => ?_)
             · have kc21 := jne c21 rfl t1
               refine lv_iload_n hx hb dX12_spot_60 rfl (lv_at hl 1 rfl) ?_
               refine lv_iconst (v := 1) hx hb dX12_spot_61 (of_decide_eq_true rfl) ?_
               have g22 := jrg (rfl : x10.toInt = x10.toInt)
               refine lv_iadd hx hb dX12_spot_62 ?_
               refine lv_topi (fun x23 ex23 => ?_)
               exact by
                have tx23 : x23.toInt = x10.toInt + 1 := (jadd ex23 rfl jz_1 (by omega) (by omega)).trans (by omega)
                refine lv_ldcw (v := 65535) hx hb hown (hts _ kw_34_14) dX12_spot_63 ?_
                refine lv_iand hx hb dX12_spot_66 ?_
                refine lv_topi (fun x24 ex24 => ?_)
                have gx24 := jrg (rfl : x24.toInt = x24.toInt)
                have g25 : 0 ≤ x24.toInt ∧ x24.toInt ≤ 65535 := jmask ex24 16 (of_decide_eq_true rfl) (of_decide_eq_true rfl)
                refine lv_istore_n (lv' := [(3, .int x24), (4, .int x11), (0, .ref (ad 55)), (1, .int a1), (2, .int a2)]) hx hb dX12_spot_67 rfl hl (of_decide_eq_true rfl) rfl (fun ls hl => ?_)
                obtain ⟨x26, ex26⟩ : ∃ y : Int32, y = x11 + 1 := ⟨_, rfl⟩
                have tx26 : x26.toInt = x11.toInt + 1 := (jadd ex26 rfl jz_1 (by omega) (by omega)).trans (by omega)
                exact by
                 refine lv_iinc (v := x26) (lv' := [(4, .int x26), (3, .int x24), (0, .ref (ad 55)), (1, .int a1), (2, .int a2)]) hx hb dX12_spot_68 hl (k := 1) rfl (by rw [ex26]; rfl) (of_decide_eq_true rfl) rfl (fun ls hl => ?_)
                 refine lv_goto (tgt := 18) hx hb dX12_spot_71 (of_decide_eq_true rfl) ?_
                 exact by exact ihlp8 x24 x26 _ _ ls (by have h91 := tx26; omega) (by have h91 := tx26; omega) (by have h91 := tx26; omega) (by have h91 := tx26; omega) (by have h91 := tx26; omega)    hP hS (lv_sub hl [0, 1, 2, 3, 4] rfl)
             · have kc21 := jeq c21 rfl t1
               refine lv_aload_n hx hb dX12_spot_48 rfl (lv_at hl 2 rfl) ?_
               refine va_get (D := D) hx hb hts inlX12 hown hK hP 55 (jc_55 cI cL ad σ τ) rfl 39 (of_decide_eq_true rfl) (hts _ kw_8_0) (fun _ h9 => h9) rfl dX12_spot_49 ?_
               refine lv_iload_n hx hb dX12_spot_52 rfl (lv_at hl 1 rfl) ?_
               refine jald hx hb hK hP (jc_75 cI cL ad σ τ) (jin rfl (by omega) (by omega)) dX12_spot_53 ?_
               refine jtopr (y := (σ 75 x10.toNatClampNeg)) rfl ?_
               exact by
                refine lv_iload_n hx hb dX12_spot_54 rfl (lv_at hl 4 rfl) ?_
                refine lv_icmp_ne (tgt := 60) hx hb dX12_spot_55 (of_decide_eq_true rfl) (fun c27 => ?_) (fun c27 => ?_)
                · have kc27 := jne c27 rfl t2
                  refine lv_iload_n hx hb dX12_spot_60 rfl (lv_at hl 1 rfl) ?_
                  refine lv_iconst (v := 1) hx hb dX12_spot_61 (of_decide_eq_true rfl) ?_
                  have g28 := jrg (rfl : x10.toInt = x10.toInt)
                  refine lv_iadd hx hb dX12_spot_62 ?_
                  refine lv_topi (fun x29 ex29 => ?_)
                  have tx29 : x29.toInt = x10.toInt + 1 := (jadd ex29 rfl jz_1 (by omega) (by omega)).trans (by omega)
                  exact by
                   refine lv_ldcw (v := 65535) hx hb hown (hts _ kw_34_14) dX12_spot_63 ?_
                   refine lv_iand hx hb dX12_spot_66 ?_
                   refine lv_topi (fun x30 ex30 => ?_)
                   have gx30 := jrg (rfl : x30.toInt = x30.toInt)
                   have g31 : 0 ≤ x30.toInt ∧ x30.toInt ≤ 65535 := jmask ex30 16 (of_decide_eq_true rfl) (of_decide_eq_true rfl)
                   refine lv_istore_n (lv' := [(3, .int x30), (4, .int x11), (0, .ref (ad 55)), (1, .int a1), (2, .int a2)]) hx hb dX12_spot_67 rfl hl (of_decide_eq_true rfl) rfl (fun ls hl => ?_)
                   obtain ⟨x32, ex32⟩ : ∃ y : Int32, y = x11 + 1 := ⟨_, rfl⟩
                   have tx32 : x32.toInt = x11.toInt + 1 := (jadd ex32 rfl jz_1 (by omega) (by omega)).trans (by omega)
                   refine lv_iinc (v := x32) (lv' := [(4, .int x32), (3, .int x30), (0, .ref (ad 55)), (1, .int a1), (2, .int a2)]) hx hb dX12_spot_68 hl (k := 1) rfl (by rw [ex32]; rfl) (of_decide_eq_true rfl) rfl (fun ls hl => ?_)
                   exact by
                    refine lv_goto (tgt := 18) hx hb dX12_spot_71 (of_decide_eq_true rfl) ?_
                    exact by exact ihlp8 x30 x32 _ _ ls (by have h91 := tx32; omega) (by have h91 := tx32; omega) (by have h91 := tx32; omega) (by have h91 := tx32; omega) (by have h91 := tx32; omega)    hP hS (lv_sub hl [0, 1, 2, 3, 4] rfl)
                · have kc27 := jeq c27 rfl t2
                  refine lv_iload_n hx hb dX12_spot_58 rfl (lv_at hl 1 rfl) ?_
                  exact hret x10 σ τ _ _ _ _ rfl ⟨⟨rfl, rfl⟩, Or.inl ⟨trivial, (by omega), (Or.inr ⟨c21, c27⟩)⟩⟩ hP hS dX12_spot_59
  exact by exact lp8 1000000 x6 0 _ _ ls (by have h91 := jz_0; omega) (by have h91 := jz_0; omega) (by have h91 := jz_0; omega) (by have h91 := jz_0; omega) (by have h91 := jz_0; omega)   hP hS hl
set_option maxHeartbeats 4000000 in
set_option maxRecDepth 100000 in
theorem c_X12_worthBy (l : Launch) (D : va_G) (cI cL : ClassId) (ad zz : Nat → Nat) (hJ : jD ad) (σ : Nat → Nat → Int32) (τ : Nat → Nat → Int64) (a1 : Int32) (A1 : Int) (t1 : a1.toInt = A1) (a2 : Int32) (A2 : Int) (t2 : a2.toInt = A2) (hI101 : jI101 σ) (hI102 : jI102 σ) (hI103 : jI103 σ) (hI104 : jI104 σ) (hI105 : jI105 σ) (hI106 : jI106 σ) (hw68 : ∀ k : Nat, k < 4 → 0 ≤ (σ 68 k).toInt ∧ (σ 68 k).toInt ≤ 3) (hs_jTR : jTR σ) (hp0 : 0 ≤ A1 ∧ A1 ≤ 19) (hp1 : 0 ≤ A2 ∧ A2 ≤ 3) (hp2 : 0 ≤ (σ 55 25).toInt ∧ (σ 55 25).toInt ≤ 7) : jM l yX12_worthBy cX12_worthBy 4 (some .int) ({ frames := 67, cells := 0, slots := 0, locals := 2858 }) D cI cL ad zz [.ref (ad 55), .int a1, .int a2] σ τ (fun r σ' τ' => τ = τ' ∧ (∀ i : Nat, (i < 55 ∨ 55 < i) ∧ (i < 66 ∨ 66 < i) → σ' i = σ i) ∧ (∀ k : Nat, (k < 18 ∨ 18 < k) ∧ (k < 19 ∨ 19 < k) ∧ (k < 20 ∨ 20 < k) ∧ (k < 21 ∨ 21 < k) ∧ (k < 22 ∨ 22 < k) → σ' 55 k = σ 55 k) ∧ (jTR σ') ∧ True) := by
  refine jM.of hJ (by decide +kernel) (nt := .int) rfl (Nat.le_of_ble_eq_true rfl) ?_
  intro p e s m args below meth c Q ls hC hret hl hP
  obtain ⟨hx, hb, hr, hml, hown, hts, hK, -, hlocks, hZ⟩ := hC
  have hown : s.vm.findClass RX12 = some m.cls := hown
  have hS : va_S (jA ad) s.heap s.heap [] := va_S.rf
  have hA : ∀ q, jA ad q → jA ad q := fun _ h => h
  have hl : lv_has ls 4 [(0, .ref (ad 55)), (1, .int a1), (2, .int a2)] := hl
  have g1 := jrg t1
  have g2 := jrg t2
  obtain ⟨i1, i2, i3, w4, w5⟩ : (1 ≤ (σ 55 10).toInt ∧ (σ 55 10).toInt ≤ 8) ∧ (1 ≤ (σ 55 12).toInt ∧ (σ 55 12).toInt ≤ 12) ∧ (0 ≤ (σ 55 13).toInt ∧ (σ 55 13).toInt ≤ 999) ∧ (∀ k : Nat, k < 8 → 0 ≤ (σ 62 k).toInt ∧ (σ 62 k).toInt ≤ 3) ∧ (∀ k : Nat, k < 8 → 0 ≤ (σ 67 k).toInt ∧ (σ 67 k).toInt ≤ 3) := id hI104
  obtain ⟨i6, w7, w8, w9⟩ : (0 ≤ (σ 55 32).toInt ∧ (σ 55 32).toInt ≤ 20) ∧ (∀ k : Nat, k < 20 → 0 ≤ (σ 70 k).toInt ∧ (σ 70 k).toInt ≤ 6) ∧ (∀ k : Nat, k < 20 → 0 ≤ (σ 71 k).toInt ∧ (σ 71 k).toInt ≤ 8) ∧ (∀ k : Nat, k < 160 → 0 ≤ (σ 72 k).toInt ∧ (σ 72 k).toInt ≤ 3) := id hI106
  refine lv_aload_n hx hb dX12_worthBy_0 rfl (lv_at hl 0 rfl) ?_
  refine va_get (D := D) hx hb hts inlX12 hown hK hP 55 (jc_55 cI cL ad σ τ) rfl 11 (of_decide_eq_true rfl) (hts _ kw_7_8) (fun _ h9 => h9) rfl dX12_worthBy_1 ?_
  refine lv_aload_n hx hb dX12_worthBy_4 rfl (lv_at hl 0 rfl) ?_
  refine va_get (D := D) hx hb hts inlX12 hown hK hP 55 (jc_55 cI cL ad σ τ) rfl 25 (of_decide_eq_true rfl) (hts _ kw_23_6) (fun _ h9 => h9) rfl dX12_worthBy_5 ?_
  exact by
   refine jald hx hb hK hP (jc_62 cI cL ad σ τ) (jin rfl (by omega) (by omega)) dX12_worthBy_8 ?_
   have g10 := w4 _ (jnat (x := (σ 55 25)) rfl (n := 8) (by omega) (of_decide_eq_true rfl))
   refine lv_topi (fun x11 ex11 => ?_)
   rw [← ex11] at g10
   refine lv_istore_n (lv' := [(3, .int x11), (0, .ref (ad 55)), (1, .int a1), (2, .int a2)]) hx hb dX12_worthBy_9 rfl hl (of_decide_eq_true rfl) rfl (fun ls hl => ?_)
   refine lv_aload_n hx hb dX12_worthBy_10 rfl (lv_at hl 1 rfl) ?_
   refine va_get (D := D) hx hb hts inlX12 hown hK hP 55 (jc_55 cI cL ad σ τ) rfl 33 (of_decide_eq_true rfl) (hts _ kw_7_18) (fun _ h9 => h9) rfl dX12_worthBy_11 ?_
   refine lv_iload_n hx hb dX12_worthBy_14 rfl (lv_at hl 2 rfl) ?_
   refine jald hx hb hK hP (jc_70 cI cL ad σ τ) (jin t1 (by omega) (by omega)) dX12_worthBy_15 ?_
   exact by
    have g12 := w7 _ (jnat (x := a1) t1 (n := 20) (by omega) (of_decide_eq_true rfl))
    refine lv_topi (fun x13 ex13 => ?_)
    rw [← ex13] at g12
    refine lv_iconst (v := 3) hx hb dX12_worthBy_16 (of_decide_eq_true rfl) ?_
    refine lv_icmp_ne (tgt := 38) hx hb dX12_worthBy_17 (of_decide_eq_true rfl) (fun c14 => ?_) (fun c14 => ?_)
    · have kc14 := jne c14 rfl jz_3
      refine lv_aload_n hx hb dX12_worthBy_38 rfl (lv_at hl 1 rfl) ?_
      refine va_get (D := D) hx hb hts inlX12 hown hK hP 55 (jc_55 cI cL ad σ τ) rfl 33 (of_decide_eq_true rfl) (hts _ kw_7_18) (fun _ h9 => h9) rfl dX12_worthBy_39 ?_
      refine lv_iload_n hx hb dX12_worthBy_42 rfl (lv_at hl 2 rfl) ?_
      exact by
       refine jald hx hb hK hP (jc_70 cI cL ad σ τ) (jin t1 (by omega) (by omega)) dX12_worthBy_43 ?_
       have g15 := w7 _ (jnat (x := a1) t1 (n := 20) (by omega) (of_decide_eq_true rfl))
       refine lv_topi (fun x16 ex16 => ?_)
       rw [← ex16] at g15
       refine lv_iconst (v := 5) hx hb dX12_worthBy_44 (of_decide_eq_true rfl) ?_
       refine lv_icmp_ne (tgt := 56) hx hb dX12_worthBy_45 (of_decide_eq_true rfl) (fun c17 => ?_) (fun c17 => ?_)
       · have kc17 := jne c17 rfl jz_5
         refine lv_iconst (v := 0) hx hb dX12_worthBy_56 (of_decide_eq_true rfl) ?_
         exact hret 0 σ τ _ _ _ _ rfl ⟨rfl, (fun _ _ => rfl), (fun _ _ => rfl), hs_jTR, trivial⟩ hP hS dX12_worthBy_57
       · exact by
          have kc17 := jeq c17 rfl jz_5
          refine lv_aload_n hx hb dX12_worthBy_48 rfl (lv_at hl 1 rfl) ?_
          refine lv_iload_n hx hb dX12_worthBy_49 rfl (lv_at hl 3 rfl) ?_
          refine lv_iload_n hx hb dX12_worthBy_50 rfl (lv_at hl 0 rfl) ?_
          refine jcallV (As := [.int a2, .int x11]) (rest := []) ⟨hx, hb, hml, hown, hts⟩ hK hP hA hS hZ (c_X12_outBy l D cI cL ad zz hJ σ τ a2 (A2) t2 x11 (x11.toInt) rfl hI101 hI102 hI103 hI105 hw68 hs_jTR (by omega) (by omega)) cw_RX12_259 (jc_55 cI cL ad σ τ) rfl ⟨Nat.le_of_ble_eq_true rfl, Nat.le_of_ble_eq_true rfl⟩ rfl rfl rfl hl.1 rfl (Nat.le_of_ble_eq_true rfl) dX12_worthBy_51 ⟨Nat.zero_le _, Nat.zero_le _⟩ (fun r19 σ18 τ18 H locs h18 hP hS => ?_)
          obtain ⟨rfl, f20, f21, p22, w23, h18⟩ := h18
          have h25 := h18
          obtain ⟨q27, k26⟩ := h25
          refine lv_ineg hx hb dX12_worthBy_54 ?_
          exact by
           refine lv_topi (fun x28 ex28 => ?_)
           have tx28 : x28.toInt = -r19.toInt := (jneg ex28 rfl (by omega)).trans (by omega)
           exact hret x28 σ18 τ _ _ _ _ rfl ⟨rfl, (fun i hi => (f20 i hi)), (fun i hi => (f21 i hi)), p22, trivial⟩ hP hS dX12_worthBy_55
    · have kc14 := jeq c14 rfl jz_3
      refine lv_sipush (v := 1000) hx hb dX12_worthBy_20 (of_decide_eq_true rfl) ?_
      refine lv_aload_n hx hb dX12_worthBy_23 rfl (lv_at hl 1 rfl) ?_
      refine lv_iload_n hx hb dX12_worthBy_24 rfl (lv_at hl 3 rfl) ?_
      refine lv_iload_n hx hb dX12_worthBy_25 rfl (lv_at hl 0 rfl) ?_
      refine jcallV (As := [.int a2, .int x11]) (rest := [.int 1000]) ⟨hx, hb, hml, hown, hts⟩ hK hP hA hS hZ (c_X12_runsBy l D cI cL ad zz hJ σ τ a2 (A2) t2 x11 (x11.toInt) rfl hI101 hI102 hI103 hw68 (by omega) (by omega)) cw_RX12_262 (jc_55 cI cL ad σ τ) rfl ⟨Nat.le_of_ble_eq_true rfl, Nat.le_of_ble_eq_true rfl⟩ rfl rfl rfl hl.1 rfl (Nat.le_of_ble_eq_true rfl) dX12_worthBy_26 ⟨Nat.zero_le _, Nat.zero_le _⟩ (fun r30 σ29 τ29 H locs h29 hP hS => ?_)
      exact by
       obtain ⟨⟨rfl, rfl⟩, w31, h29⟩ := h29
       have h32 := h29
       obtain ⟨q34, k33⟩ := h32
       have g35 := jrg (rfl : r30.toInt = r30.toInt)
       refine lv_imul hx hb dX12_worthBy_29 ?_
       refine lv_topi (fun x36 ex36 => ?_)
       have tx36 : x36.toInt = 1000 * r30.toInt := (jmul ex36 jz_1000 rfl (by omega) (by omega)).trans (by omega)
       refine lv_aload_n hx hb dX12_worthBy_30 rfl (lv_at hl 1 rfl) ?_
       refine lv_iload_n hx hb dX12_worthBy_31 rfl (lv_at hl 3 rfl) ?_
       exact by
        refine lv_iload_n hx hb dX12_worthBy_32 rfl (lv_at hl 0 rfl) ?_
        refine jcallV (As := [.int a2, .int x11]) (rest := [.int x36]) ⟨hx, hb, hml, hown, hts⟩ hK hP hA hS hZ (c_X12_outBy l D cI cL ad zz hJ σ τ a2 (A2) t2 x11 (x11.toInt) rfl hI101 hI102 hI103 hI105 hw68 hs_jTR (by omega) (by omega)) cw_RX12_259 (jc_55 cI cL ad σ τ) rfl ⟨Nat.le_of_ble_eq_true rfl, Nat.le_of_ble_eq_true rfl⟩ rfl rfl rfl hl.1 rfl (Nat.le_of_ble_eq_true rfl) dX12_worthBy_33 ⟨Nat.zero_le _, Nat.zero_le _⟩ (fun r38 σ37 τ37 H locs h37 hP hS => ?_)
        obtain ⟨rfl, f39, f40, p41, w42, h37⟩ := h37
        have h44 := h37
        obtain ⟨q46, k45⟩ := h44
        have g47 := jrg (rfl : r38.toInt = r38.toInt)
        refine lv_isub hx hb dX12_worthBy_36 ?_
        refine lv_topi (fun x48 ex48 => ?_)
        have tx48 : x48.toInt = 1000 * r30.toInt - r38.toInt := (jsub ex48 tx36 rfl (by omega) (by omega)).trans (by omega)
        exact hret x48 σ37 τ _ _ _ _ rfl ⟨rfl, (fun i hi => (f39 i hi)), (fun i hi => (f40 i hi)), p41, trivial⟩ hP hS dX12_worthBy_37
set_option maxHeartbeats 4000000 in
set_option maxRecDepth 100000 in
theorem c_X12_bests_mean_g (l : Launch) (D : va_G) (cI cL : ClassId) (ad zz : Nat → Nat) (hJ : jD ad) (n : Nat) (h_bf : ∀ (σ : Nat → Nat → Int32) (τ : Nat → Nat → Int64) (hI101 : jI101 σ) (hI102 : jI102 σ) (hI103 : jI103 σ) (hI104 : jI104 σ) (hI105 : jI105 σ) (hI106 : jI106 σ) (hI120 : jI120 σ) (hs_jKept : jKept σ) (hs_jTR : jTR σ) (hs_jqSt : jqSt σ) (hp0 : (σ 55 12).toInt - (σ 55 26).toInt ≤ (((n) : Nat) : Int)), jM l yX12_bestFrom cX12_bestFrom 8 (some .int) ({ frames := (70 + 4 * (n)), cells := 0, slots := 0, locals := (3114 + 240 * (n)) }) D cI cL ad zz [.ref (ad 55)] σ τ (fun r σ' τ' => τ = τ' ∧ (∀ i : Nat, (i < 55 ∨ 55 < i) ∧ (i < 66 ∨ 66 < i) ∧ (i < 74 ∨ 78 < i) → σ' i = σ i) ∧ (∀ k : Nat, (k < 18 ∨ 18 < k) ∧ (k < 19 ∨ 19 < k) ∧ (k < 20 ∨ 20 < k) ∧ (k < 21 ∨ 21 < k) ∧ (k < 22 ∨ 22 < k) ∧ (k < 37 ∨ 37 < k) → σ' 55 k = σ 55 k) ∧ (jKept σ') ∧ (jTR σ') ∧ (jqSt σ') ∧ ((jrP σ → jrM σ → ((σ' 55 37).toInt = (if (jrV σ).1 < 0 then -2 else (jrV σ).1) ∧ r.toInt = (jrV σ).2) ∧ jrM σ')) ∧ ((-2) ≤ (σ' 55 37).toInt ∧ (σ' 55 37).toInt ≤ 3) ∧ ((True ∧ (0 ≤ r.toInt ∧ r.toInt ≤ -(1023000 * (σ 55 26).toInt) + 12276000))))) (σ : Nat → Nat → Int32) (τ : Nat → Nat → Int64) (a1 : Int32) (A1 : Int) (t1 : a1.toInt = A1) (hI101 : jI101 σ) (hI102 : jI102 σ) (hI103 : jI103 σ) (hI104 : jI104 σ) (hI105 : jI105 σ) (hI106 : jI106 σ) (hI120 : jI120 σ) (hs_jKept : jKept σ) (hs_jTR : jTR σ) (hs_jqSt : jqSt σ) (hp0 : 0 ≤ A1 ∧ A1 ≤ 3) (hp1 : (σ 55 25).toInt < (σ 55 10).toInt) (hp2 : (σ 55 26).toInt < (σ 55 12).toInt) (hp3 : (σ 55 12).toInt - (σ 55 26).toInt ≤ (((n + 1) : Nat) : Int)) : jM l yX12_meanWith cX12_meanWith 8 (some .int) ({ frames := (69 + 4 * (n + 1)), cells := 0, slots := 0, locals := (3034 + 240 * (n + 1)) }) D cI cL ad zz [.ref (ad 55), .int a1] σ τ (fun r σ' τ' => τ = τ' ∧ (∀ i : Nat, (i < 55 ∨ 55 < i) ∧ (i < 66 ∨ 66 < i) ∧ (i < 74 ∨ 78 < i) → σ' i = σ i) ∧ (∀ k : Nat, (k < 18 ∨ 18 < k) ∧ (k < 19 ∨ 19 < k) ∧ (k < 20 ∨ 20 < k) ∧ (k < 21 ∨ 21 < k) ∧ (k < 22 ∨ 22 < k) ∧ (k < 37 ∨ 37 < k) → σ' 55 k = σ 55 k) ∧ (jKept σ') ∧ (jTR σ') ∧ (jqSt σ') ∧ ((jrP σ → jrM σ → jmb σ a1 = 1 → A1 < (σ 55 6).toInt → r.toInt = jrG σ (A1).toNat ∧ jrM σ')) ∧ ((True ∧ (0 ≤ r.toInt ∧ r.toInt ≤ -(1023000 * (σ 55 26).toInt) + 12276000)))) := by
  refine jM.of hJ (by decide +kernel) (nt := .int) rfl (Nat.le_of_ble_eq_true rfl) ?_
  intro p e s m args below meth c Q ls hC hret hl hP
  obtain ⟨hx, hb, hr, hml, hown, hts, hK, -, hlocks, hZ⟩ := hC
  have hown : s.vm.findClass RX12 = some m.cls := hown
  have hS : va_S (jA ad) s.heap s.heap [] := va_S.rf
  have hA : ∀ q, jA ad q → jA ad q := fun _ h => h
  have hl : lv_has ls 8 [(0, .ref (ad 55)), (1, .int a1)] := hl
  have g1 := jrg t1
  obtain ⟨i1, w2, w3⟩ : (0 ≤ (σ 55 6).toInt ∧ (σ 55 6).toInt ≤ 4) ∧ (∀ k : Nat, k < 4 → 0 ≤ (σ 60 k).toInt ∧ (σ 60 k).toInt ≤ 50) ∧ (∀ k : Nat, k < 4 → 0 ≤ (σ 61 k).toInt ∧ (σ 61 k).toInt ≤ 20) := id hI102
  obtain ⟨i4, i5, i6, w7, w8⟩ : (1 ≤ (σ 55 10).toInt ∧ (σ 55 10).toInt ≤ 8) ∧ (1 ≤ (σ 55 12).toInt ∧ (σ 55 12).toInt ≤ 12) ∧ (0 ≤ (σ 55 13).toInt ∧ (σ 55 13).toInt ≤ 999) ∧ (∀ k : Nat, k < 8 → 0 ≤ (σ 62 k).toInt ∧ (σ 62 k).toInt ≤ 3) ∧ (∀ k : Nat, k < 8 → 0 ≤ (σ 67 k).toInt ∧ (σ 67 k).toInt ≤ 3) := id hI104
  obtain ⟨i9, i10, i11, i12, i13, w14⟩ : (0 ≤ (σ 55 25).toInt) ∧ ((σ 55 25).toInt ≤ (σ 55 10).toInt) ∧ (0 ≤ (σ 55 26).toInt) ∧ ((σ 55 26).toInt ≤ (σ 55 12).toInt) ∧ ((-1) ≤ (σ 55 27).toInt ∧ (σ 55 27).toInt ≤ 3) ∧ (∀ k : Nat, k < 4 → 0 ≤ (σ 68 k).toInt ∧ (σ 68 k).toInt ≤ 3) := id hI120
  refine lv_aload_n hx hb dX12_meanWith_0 rfl (lv_at hl 0 rfl) ?_
  refine va_get (D := D) hx hb hts inlX12 hown hK hP 55 (jc_55 cI cL ad σ τ) rfl 11 (of_decide_eq_true rfl) (hts _ kw_7_8) (fun _ h9 => h9) rfl dX12_meanWith_1 ?_
  refine lv_aload_n hx hb dX12_meanWith_4 rfl (lv_at hl 0 rfl) ?_
  refine va_get (D := D) hx hb hts inlX12 hown hK hP 55 (jc_55 cI cL ad σ τ) rfl 25 (of_decide_eq_true rfl) (hts _ kw_23_6) (fun _ h9 => h9) rfl dX12_meanWith_5 ?_
  exact by
   refine jald hx hb hK hP (jc_62 cI cL ad σ τ) (jin rfl (by omega) (by omega)) dX12_meanWith_8 ?_
   have g15 := w7 _ (jnat (x := (σ 55 25)) rfl (n := 8) (by omega) (of_decide_eq_true rfl))
   refine jtopr (y := (σ 62 (σ 55 25).toNatClampNeg)) rfl ?_
   refine lv_istore_n (lv' := [(2, .int (σ 62 (σ 55 25).toNatClampNeg)), (0, .ref (ad 55)), (1, .int a1)]) hx hb dX12_meanWith_9 rfl hl (of_decide_eq_true rfl) rfl (fun ls hl => ?_)
   refine lv_aload_n hx hb dX12_meanWith_10 rfl (lv_at hl 1 rfl) ?_
   refine lv_iload_n hx hb dX12_meanWith_11 rfl (lv_at hl 2 rfl) ?_
   refine lv_iload_n hx hb dX12_meanWith_12 rfl (lv_at hl 0 rfl) ?_
   refine jcallV (As := [.int a1, .int (σ 62 (σ 55 25).toNatClampNeg)]) (rest := []) ⟨hx, hb, hml, hown, hts⟩ hK hP hA hS hZ (c_X12_outBy l D cI cL ad zz hJ σ τ a1 (A1) t1 (σ 62 (σ 55 25).toNatClampNeg) ((σ 62 (σ 55 25).toNatClampNeg).toInt) rfl hI101 hI102 hI103 hI105 w14 hs_jTR (by omega) (by omega)) cw_RX12_259 (jc_55 cI cL ad σ τ) rfl ⟨by dsimp only; omega, by dsimp only; omega⟩ rfl rfl rfl hl.1 rfl (Nat.le_of_ble_eq_true rfl) dX12_meanWith_13 ⟨Nat.zero_le _, Nat.zero_le _⟩ (fun r17 σ16 τ16 H locs h16 hP hS => ?_)
   obtain ⟨rfl, f18, f19, p20, w21, h16⟩ := h16
   exact by
    have h23 := h16
    obtain ⟨q25, k24⟩ := h23
    refine lv_istore_n (lv' := [(3, .int r17), (2, .int (σ 62 (σ 55 25).toNatClampNeg)), (0, .ref (ad 55)), (1, .int a1)]) hx hb dX12_meanWith_16 rfl hl (of_decide_eq_true rfl) rfl (fun ls hl => ?_)
    refine lv_sipush (v := 1000) hx hb dX12_meanWith_17 (of_decide_eq_true rfl) ?_
    refine lv_aload_n hx hb dX12_meanWith_20 rfl (lv_at hl 2 rfl) ?_
    refine lv_iload_n hx hb dX12_meanWith_21 rfl (lv_at hl 3 rfl) ?_
    refine lv_iload_n hx hb dX12_meanWith_22 rfl (lv_at hl 1 rfl) ?_
    have I26 : jI101 σ16 := jI101_fr (f19 4 (of_decide_eq_true rfl)) (f19 5 (of_decide_eq_true rfl)) (f18 56 (of_decide_eq_true rfl)) (f18 57 (of_decide_eq_true rfl)) (f18 58 (of_decide_eq_true rfl)) (f18 59 (of_decide_eq_true rfl)) hI101
    have I27 : jI102 σ16 := jI102_fr (f19 6 (of_decide_eq_true rfl)) (f18 60 (of_decide_eq_true rfl)) (f18 61 (of_decide_eq_true rfl)) hI102
    have I28 : jI103 σ16 := jI103_fr (f19 9 (of_decide_eq_true rfl)) hI103
    have w29 : ∀ k : Nat, k < 4 → 0 ≤ (σ16 68 k).toInt ∧ (σ16 68 k).toInt ≤ 3 := (jrr_fr (f18 68 (of_decide_eq_true rfl)) w14)
    exact by
     refine jcallV (As := [.int a1, .int (σ 62 (σ 55 25).toNatClampNeg)]) (rest := [.int 1000]) ⟨hx, hb, hml, hown, hts⟩ hK hP hA hS hZ (c_X12_runsBy l D cI cL ad zz hJ σ16 τ a1 (A1) t1 (σ 62 (σ 55 25).toNatClampNeg) ((σ 62 (σ 55 25).toNatClampNeg).toInt) rfl I26 I27 I28 w29 (by omega) (by omega)) cw_RX12_262 (jc_55 cI cL ad σ16 τ) rfl ⟨by dsimp only; omega, by dsimp only; omega⟩ rfl rfl rfl hl.1 rfl (Nat.le_of_ble_eq_true rfl) dX12_meanWith_23 ⟨Nat.zero_le _, Nat.zero_le _⟩ (fun r31 σ30 τ30 H locs h30 hP hS => ?_)
     obtain ⟨⟨rfl, rfl⟩, w32, h30⟩ := h30
     have h33 := h30
     obtain ⟨q35, k34⟩ := h33
     have g36 := jrg (rfl : r31.toInt = r31.toInt)
     refine lv_imul hx hb dX12_meanWith_26 ?_
     refine lv_topi (fun x37 ex37 => ?_)
     have tx37 : x37.toInt = 1000 * r31.toInt := (jmul ex37 jz_1000 rfl (by omega) (by omega)).trans (by omega)
     refine lv_istore (lv' := [(4, .int x37), (3, .int r17), (2, .int (σ 62 (σ 55 25).toNatClampNeg)), (0, .ref (ad 55)), (1, .int a1)]) hx hb dX12_meanWith_27 hl (of_decide_eq_true rfl) rfl (fun ls hl => ?_)
     exact by
      refine lv_aload_n hx hb dX12_meanWith_29 rfl (lv_at hl 3 rfl) ?_
      refine lv_iload_n hx hb dX12_meanWith_30 rfl (lv_at hl 4 rfl) ?_
      refine lv_iconst (v := 1) hx hb dX12_meanWith_31 (of_decide_eq_true rfl) ?_
      have z38 : (σ16 55 6).toInt = (σ 55 6).toInt := (congrArg Int32.toInt (show σ16 55 6 = (σ 55 6) from (f19 6 (of_decide_eq_true rfl))))
      have z39 : (σ16 55 27).toInt = (σ 55 27).toInt := (congrArg Int32.toInt (show σ16 55 27 = (σ 55 27) from (f19 27 (of_decide_eq_true rfl))))
      have z40 : (σ16 55 25).toInt = (σ 55 25).toInt := (congrArg Int32.toInt (show σ16 55 25 = (σ 55 25) from (f19 25 (of_decide_eq_true rfl))))
      have z41 : (σ16 55 26).toInt = (σ 55 26).toInt := (congrArg Int32.toInt (show σ16 55 26 = (σ 55 26) from (f19 26 (of_decide_eq_true rfl))))
      have z42 : (σ16 68 0).toInt = (σ 68 0).toInt := (congrArg Int32.toInt (show σ16 68 0 = (σ 68 0) from (congrFun (f18 68 (of_decide_eq_true rfl)) 0)))
      have z43 : (σ16 68 1).toInt = (σ 68 1).toInt := (congrArg Int32.toInt (show σ16 68 1 = (σ 68 1) from (congrFun (f18 68 (of_decide_eq_true rfl)) 1)))
      have z44 : (σ16 68 2).toInt = (σ 68 2).toInt := (congrArg Int32.toInt (show σ16 68 2 = (σ 68 2) from (congrFun (f18 68 (of_decide_eq_true rfl)) 2)))
      have z45 : (σ16 68 3).toInt = (σ 68 3).toInt := (congrArg Int32.toInt (show σ16 68 3 = (σ 68 3) from (congrFun (f18 68 (of_decide_eq_true rfl)) 3)))
      exact by
       refine jcallV (As := [.int a1, .int 1]) (rest := []) ⟨hx, hb, hml, hown, hts⟩ hK hP hA hS hZ (c_X12_goes_1 l D cI cL ad zz hJ σ16 τ a1 (A1) t1 w29 (by omega) (by omega) (by omega) (by omega) (by omega)) cw_RX12_296 (jc_55 cI cL ad σ16 τ) rfl ⟨by dsimp only; omega, by dsimp only; omega⟩ rfl rfl rfl hl.1 rfl (Nat.le_of_ble_eq_true rfl) dX12_meanWith_32 ⟨Nat.zero_le _, Nat.zero_le _⟩ (fun r47 σ46 τ46 H locs h46 hP hS => ?_)
       obtain ⟨rfl, f48, f49, w50, w51, w52, w53, h46⟩ := h46
       obtain ⟨k55, k56, k57, h46⟩ := h46
       have h58 := h46
       obtain ⟨q64, k59, k60, k61, k62, k63⟩ := h58
       refine lv_istore (lv' := [(5, .int r47), (4, .int x37), (3, .int r17), (2, .int (σ 62 (σ 55 25).toNatClampNeg)), (0, .ref (ad 55)), (1, .int a1)]) hx hb dX12_meanWith_35 hl (of_decide_eq_true rfl) rfl (fun ls hl => ?_)
       refine lv_aload_n hx hb dX12_meanWith_37 rfl (lv_at hl 4 rfl) ?_
       have I65 : jI101 σ46 := jI101_fr (f49 4 (of_decide_eq_true rfl)) (f49 5 (of_decide_eq_true rfl)) (f48 56 (of_decide_eq_true rfl)) (f48 57 (of_decide_eq_true rfl)) (f48 58 (of_decide_eq_true rfl)) (f48 59 (of_decide_eq_true rfl)) I26
       have I66 : jI102 σ46 := jI102_fr (f49 6 (of_decide_eq_true rfl)) (f48 60 (of_decide_eq_true rfl)) (f48 61 (of_decide_eq_true rfl)) I27
       have I67 : jI103 σ46 := jI103_fr (f49 9 (of_decide_eq_true rfl)) I28
       have I68 : jI104 σ46 := jI104_fr ((f49 10 (of_decide_eq_true rfl)).trans (f19 10 (of_decide_eq_true rfl))) ((f49 12 (of_decide_eq_true rfl)).trans (f19 12 (of_decide_eq_true rfl))) ((f49 13 (of_decide_eq_true rfl)).trans (f19 13 (of_decide_eq_true rfl))) ((f48 62 (of_decide_eq_true rfl)).trans (f18 62 (of_decide_eq_true rfl))) ((f48 67 (of_decide_eq_true rfl)).trans (f18 67 (of_decide_eq_true rfl))) hI104
       have I69 : jI105 σ46 := jI105_fr ((f49 15 (of_decide_eq_true rfl)).trans (f19 15 (of_decide_eq_true rfl))) ((f48 65 (of_decide_eq_true rfl)).trans (f18 65 (of_decide_eq_true rfl))) hI105
       have I70 : jI106 σ46 := jI106_fr ((f49 32 (of_decide_eq_true rfl)).trans (f19 32 (of_decide_eq_true rfl))) ((f48 70 (of_decide_eq_true rfl)).trans (f18 70 (of_decide_eq_true rfl))) ((f48 71 (of_decide_eq_true rfl)).trans (f18 71 (of_decide_eq_true rfl))) ((f48 72 (of_decide_eq_true rfl)).trans (f18 72 (of_decide_eq_true rfl))) hI106
       have z71 : (σ46 55 10).toInt = (σ 55 10).toInt := (congrArg Int32.toInt (show σ46 55 10 = (σ 55 10) from ((f49 10 (of_decide_eq_true rfl)).trans (f19 10 (of_decide_eq_true rfl)))))
       have z72 : (σ46 55 12).toInt = (σ 55 12).toInt := (congrArg Int32.toInt (show σ46 55 12 = (σ 55 12) from ((f49 12 (of_decide_eq_true rfl)).trans (f19 12 (of_decide_eq_true rfl)))))
       exact by
        have I73 : jI120 σ46 := ⟨(by omega), (by omega), (by omega), (by omega), (by omega), w50⟩
        have p74 : jKept σ46 := jKept.fr ((f48 75 (of_decide_eq_true rfl)).trans (f18 75 (of_decide_eq_true rfl))) ((f48 76 (of_decide_eq_true rfl)).trans (f18 76 (of_decide_eq_true rfl))) ((f48 77 (of_decide_eq_true rfl)).trans (f18 77 (of_decide_eq_true rfl))) hs_jKept
        have p75 : jTR σ46 := jTR.fr (f48 64 (of_decide_eq_true rfl)) (f48 65 (of_decide_eq_true rfl)) p20
        have p76 : jqSt σ46 := jqSt.fr ((f48 78 (of_decide_eq_true rfl)).trans (f18 78 (of_decide_eq_true rfl))) ((f49 42 (of_decide_eq_true rfl)).trans (f19 42 (of_decide_eq_true rfl))) hs_jqSt
        refine jcallV (As := []) (rest := []) ⟨hx, hb, hml, hown, hts⟩ hK hP hA hS hZ (h_bf σ46 τ I65 I66 I67 I68 I69 I70 I73 p74 p75 p76 (by omega)) cw_RX12_280 (jc_55 cI cL ad σ46 τ) rfl ⟨by dsimp only; omega, by dsimp only; omega⟩ rfl rfl rfl hl.1 rfl (Nat.le_of_ble_eq_true rfl) dX12_meanWith_38 ⟨Nat.zero_le _, Nat.zero_le _⟩ (fun r78 σ77 τ77 H locs h77 hP hS => ?_)
        obtain ⟨rfl, f79, f80, p81, p82, p83, w84, h77⟩ := h77
        have R86 : jrP σ16 → jrM σ16 → jmb σ16 a1 = 1 → (a1 : Int32).toInt < (σ16 55 6).toInt → r78.toInt = (jrNx σ16 (a1 : Int32).toInt.toNat 1).2 ∧ jrM σ77 := fun pr mm mb lb => by
          have g := jrP.goes (σ := σ16) (σ' := σ46) (b := a1) ⟨⟨(f48 56 (of_decide_eq_true rfl)), (f48 60 (of_decide_eq_true rfl)), (f48 61 (of_decide_eq_true rfl)), (f48 62 (of_decide_eq_true rfl)), (f48 64 (of_decide_eq_true rfl)), (f48 65 (of_decide_eq_true rfl))⟩, (f49 6 (of_decide_eq_true rfl)), (f49 9 (of_decide_eq_true rfl)), (f49 10 (of_decide_eq_true rfl)), (f49 12 (of_decide_eq_true rfl)), (f49 13 (of_decide_eq_true rfl)), (f49 30 (of_decide_eq_true rfl)), (f49 31 (of_decide_eq_true rfl)), (f49 42 (of_decide_eq_true rfl))⟩ pr mb (by have h9 := t1; omega) lb w51 (fun c hc => by have w := w53 c hc; rw [show A1 = (a1 : Int32).toInt from by have h9 := t1; omega] at w; exact w) w52 (by have h9 := t1; omega) (by omega) (by omega) ((σ16 55 25).toInt + 1) (by omega)
          have z := w84 g.1 (jrEq.m (σ := σ16) (σ' := σ46) ⟨⟨(f48 56 (of_decide_eq_true rfl)), (f48 60 (of_decide_eq_true rfl)), (f48 61 (of_decide_eq_true rfl)), (f48 62 (of_decide_eq_true rfl)), (f48 64 (of_decide_eq_true rfl)), (f48 65 (of_decide_eq_true rfl))⟩, (f49 6 (of_decide_eq_true rfl)), (f49 9 (of_decide_eq_true rfl)), (f49 10 (of_decide_eq_true rfl)), (f49 12 (of_decide_eq_true rfl)), (f49 13 (of_decide_eq_true rfl)), (f49 30 (of_decide_eq_true rfl)), (f49 31 (of_decide_eq_true rfl)), (f49 42 (of_decide_eq_true rfl))⟩ (f48 78 (of_decide_eq_true rfl)) (f48 74 (of_decide_eq_true rfl)) (f48 75 (of_decide_eq_true rfl)) (f48 76 (of_decide_eq_true rfl)) (f48 77 (of_decide_eq_true rfl)) mm)
          rw [g.2] at z; refine ⟨?_, z.2⟩; rw [z.1.2]; unfold jrNx; rw [show (((a1 : Int32).toInt.toNat : Nat) : Int) = (a1 : Int32).toInt from by have h9 := t1; omega]
        exact by
         obtain ⟨k87, h77⟩ := h77
         have h88 := h77
         obtain ⟨q90, k89⟩ := h88
         refine lv_istore (lv' := [(6, .int r78), (5, .int r47), (4, .int x37), (3, .int r17), (2, .int (σ 62 (σ 55 25).toNatClampNeg)), (0, .ref (ad 55)), (1, .int a1)]) hx hb dX12_meanWith_41 hl (of_decide_eq_true rfl) rfl (fun ls hl => ?_)
         refine lv_aload_n hx hb dX12_meanWith_43 rfl (lv_at hl 5 rfl) ?_
         refine lv_iload_n hx hb dX12_meanWith_44 rfl (lv_at hl 6 rfl) ?_
         refine lv_iconst (v := 1) hx hb dX12_meanWith_45 (of_decide_eq_true rfl) ?_
         refine lv_iload hx hb dX12_meanWith_46 (lv_at hl 1 rfl) ?_
         have w91 : ∀ k : Nat, k < 4 → 0 ≤ (σ77 68 k).toInt ∧ (σ77 68 k).toInt ≤ 3 := (jrr_fr (f79 68 (of_decide_eq_true rfl)) w50)
         have z92 : (σ77 55 25).toInt = (σ46 55 25).toInt := (congrArg Int32.toInt (show σ77 55 25 = (σ46 55 25) from (f80 25 (of_decide_eq_true rfl))))
         have z93 : (σ77 55 26).toInt = (σ46 55 26).toInt := (congrArg Int32.toInt (show σ77 55 26 = (σ46 55 26) from (f80 26 (of_decide_eq_true rfl))))
         have z94 : (σ77 55 6).toInt = (σ 55 6).toInt := (congrArg Int32.toInt (show σ77 55 6 = (σ 55 6) from ((f80 6 (of_decide_eq_true rfl)).trans ((f49 6 (of_decide_eq_true rfl)).trans (f19 6 (of_decide_eq_true rfl))))))
         have w95 : ∀ k : Nat, k < 4 → 0 ≤ (σ16 68 k).toInt ∧ (σ16 68 k).toInt ≤ 3 := w29
         have z97 : (σ16 55 27).toInt = (σ 55 27).toInt := (congrArg Int32.toInt (show σ16 55 27 = (σ 55 27) from (f19 27 (of_decide_eq_true rfl))))
         exact by
          have k96 := jwas (by omega) (w95 0 (of_decide_eq_true rfl)) (w95 1 (of_decide_eq_true rfl)) (w95 2 (of_decide_eq_true rfl)) (w95 3 (of_decide_eq_true rfl)) k59
          rw [← (show σ77 55 6 = σ16 55 6 from ((f80 6 (of_decide_eq_true rfl)).trans (f49 6 (of_decide_eq_true rfl))))] at k96
          refine jcallVv (As := [.int a1, .int 1, .int r47]) (rest := []) ⟨hx, hb, hml, hown, hts⟩ hK hP hA hS hZ (c_X12_goesBack_1 l D cI cL ad zz hJ σ77 τ a1 (A1) t1 r47 (r47.toInt) rfl w91 (by omega) (by omega) (by omega) k96) cw_RX12_300 (jc_55 cI cL ad σ77 τ) rfl ⟨by dsimp only; omega, by dsimp only; omega⟩ rfl rfl rfl hl.1 rfl (Nat.le_of_ble_eq_true rfl) dX12_meanWith_48 ⟨Nat.zero_le _, Nat.zero_le _⟩ (fun σ98 τ98 H locs h98 hP hS => ?_)
          obtain ⟨rfl, f100, f101, w102, w103, w104, h98⟩ := h98
          obtain ⟨k106, k107, k108, k109, h98⟩ := h98
          have p110 : jKept σ98 := jKept.fr (f100 75 (of_decide_eq_true rfl)) (f100 76 (of_decide_eq_true rfl)) (f100 77 (of_decide_eq_true rfl)) p81
          have p111 : jTR σ98 := jTR.fr (f100 64 (of_decide_eq_true rfl)) (f100 65 (of_decide_eq_true rfl)) p82
          have p112 : jqSt σ98 := jqSt.fr (f100 78 (of_decide_eq_true rfl)) (f101 42 (of_decide_eq_true rfl)) p83
          have M113 : jrM σ77 → jrM σ98 := fun q => (jrEq.m (σ := σ77) (σ' := σ98) ⟨⟨(f100 56 (of_decide_eq_true rfl)), (f100 60 (of_decide_eq_true rfl)), (f100 61 (of_decide_eq_true rfl)), (f100 62 (of_decide_eq_true rfl)), (f100 64 (of_decide_eq_true rfl)), (f100 65 (of_decide_eq_true rfl))⟩, (f101 6 (of_decide_eq_true rfl)), (f101 9 (of_decide_eq_true rfl)), (f101 10 (of_decide_eq_true rfl)), (f101 12 (of_decide_eq_true rfl)), (f101 13 (of_decide_eq_true rfl)), (f101 30 (of_decide_eq_true rfl)), (f101 31 (of_decide_eq_true rfl)), (f101 42 (of_decide_eq_true rfl))⟩ (f100 78 (of_decide_eq_true rfl)) (f100 74 (of_decide_eq_true rfl)) (f100 75 (of_decide_eq_true rfl)) (f100 76 (of_decide_eq_true rfl)) (f100 77 (of_decide_eq_true rfl)) q)
          exact by
           have e114 : σ77 69 = σ46 69 := (f79 69 (of_decide_eq_true rfl))
           have e115 : σ98 69 = σ16 69 := jback69 w51 e114 w103
           have e116 : σ77 68 = σ46 68 := (f79 68 (of_decide_eq_true rfl))
           have e117 : σ77 55 6 = σ16 55 6 := ((f80 6 (of_decide_eq_true rfl)).trans (f49 6 (of_decide_eq_true rfl)))
           have w125 : ∀ k : Nat, k < 4 → 0 ≤ (σ16 68 k).toInt ∧ (σ16 68 k).toInt ≤ 3 := w29
           have w126 : ∀ k : Nat, k < 4 → 0 ≤ (σ98 68 k).toInt ∧ (σ98 68 k).toInt ≤ 3 := w102
           have k127 := k109
           rw [e117] at k127
           have D118 := jdig (w125 0 (of_decide_eq_true rfl)) (w125 1 (of_decide_eq_true rfl)) (w125 2 (of_decide_eq_true rfl)) (w125 3 (of_decide_eq_true rfl)) (w126 0 (of_decide_eq_true rfl)) (w126 1 (of_decide_eq_true rfl)) (w126 2 (of_decide_eq_true rfl)) (w126 3 (of_decide_eq_true rfl)) k59 k127
           exact by
            have e119 : σ98 55 27 = σ16 55 27 := Int32.toInt_inj.mp (by have h9 := D118.1; omega)
            have z128 : (σ77 55 26).toInt = (σ46 55 26).toInt := (congrArg Int32.toInt (show σ77 55 26 = (σ46 55 26) from (f80 26 (of_decide_eq_true rfl))))
            have z129 : (σ16 55 26).toInt = (σ 55 26).toInt := (congrArg Int32.toInt (show σ16 55 26 = (σ 55 26) from (f19 26 (of_decide_eq_true rfl))))
            have z130 : (σ77 55 25).toInt = (σ46 55 25).toInt := (congrArg Int32.toInt (show σ77 55 25 = (σ46 55 25) from (f80 25 (of_decide_eq_true rfl))))
            have z131 : (σ16 55 25).toInt = (σ 55 25).toInt := (congrArg Int32.toInt (show σ16 55 25 = (σ 55 25) from (f19 25 (of_decide_eq_true rfl))))
            have e120 : σ98 55 26 = σ16 55 26 := Int32.toInt_inj.mp (by omega)
            have e121 : σ98 55 25 = σ16 55 25 := Int32.toInt_inj.mp (by omega)
            have z132 : (σ16 55 6).toInt = (σ 55 6).toInt := (congrArg Int32.toInt (show σ16 55 6 = (σ 55 6) from (f19 6 (of_decide_eq_true rfl))))
            have e122 : σ98 68 = σ16 68 := jback68 (nb := (σ16 55 6).toInt) (by omega) w52 e116 (fun k hk => w104 k (by rw [e117]; exact hk)) D118.2
            exact by
             have f123 : (∀ i : Nat, (i < 55 ∨ 55 < i) ∧ (i < 66 ∨ 66 < i) ∧ (i < 74 ∨ 78 < i) → σ98 i = σ16 i) := fun i hi0 => by
               by_cases h8 : i = 68
               · rw [h8]; exact e122
               by_cases h9 : i = 69
               · rw [h9]; exact e115
               have hi : ((i < 55 ∨ 55 < i) ∧ (i < 66 ∨ 66 < i) ∧ (i < 74 ∨ 78 < i)) ∧ i ≠ 68 ∧ i ≠ 69 := ⟨hi0, h8, h9⟩
               exact ((f100 i (imp_200 i hi)).trans ((f79 i (imp_201 i hi)).trans (f48 i (imp_200 i hi))))
             have f124 : ∀ i : Nat, (i < 18 ∨ 18 < i) ∧ (i < 19 ∨ 19 < i) ∧ (i < 20 ∨ 20 < i) ∧ (i < 21 ∨ 21 < i) ∧ (i < 22 ∨ 22 < i) ∧ (i < 37 ∨ 37 < i) → σ98 55 i = σ16 55 i := fun i hi0 => by
               by_cases h25 : i = 25
               · rw [h25]; exact e121
               by_cases h26 : i = 26
               · rw [h26]; exact e120
               by_cases h27 : i = 27
               · rw [h27]; exact e119
               have hi : ((i < 18 ∨ 18 < i) ∧ (i < 19 ∨ 19 < i) ∧ (i < 20 ∨ 20 < i) ∧ (i < 21 ∨ 21 < i) ∧ (i < 22 ∨ 22 < i) ∧ (i < 37 ∨ 37 < i)) ∧ i ≠ 25 ∧ i ≠ 26 ∧ i ≠ 27 := ⟨hi0, h25, h26, h27⟩
               exact ((f101 i (imp_202 i hi)).trans ((f80 i (imp_203 i hi)).trans (f49 i (imp_202 i hi))))
             clear k127 k109 k59
             refine lv_aload_n hx hb dX12_meanWith_51 rfl (lv_at hl 5 rfl) ?_
             refine lv_iload_n hx hb dX12_meanWith_52 rfl (lv_at hl 6 rfl) ?_
             refine lv_iconst (v := 0) hx hb dX12_meanWith_53 (of_decide_eq_true rfl) ?_
             have w133 : ∀ k : Nat, k < 4 → 0 ≤ (σ98 68 k).toInt ∧ (σ98 68 k).toInt ≤ 3 := (jrr_fr (f123 68 (of_decide_eq_true rfl)) w29)
             have z134 : (σ98 55 6).toInt = (σ 55 6).toInt := (congrArg Int32.toInt (show σ98 55 6 = (σ 55 6) from ((f124 6 (of_decide_eq_true rfl)).trans (f19 6 (of_decide_eq_true rfl)))))
             have z135 : (σ98 55 27).toInt = (σ 55 27).toInt := (congrArg Int32.toInt (show σ98 55 27 = (σ 55 27) from ((f124 27 (of_decide_eq_true rfl)).trans (f19 27 (of_decide_eq_true rfl)))))
             have z136 : (σ98 55 25).toInt = (σ 55 25).toInt := (congrArg Int32.toInt (show σ98 55 25 = (σ 55 25) from ((f124 25 (of_decide_eq_true rfl)).trans (f19 25 (of_decide_eq_true rfl)))))
             have z137 : (σ98 55 26).toInt = (σ 55 26).toInt := (congrArg Int32.toInt (show σ98 55 26 = (σ 55 26) from ((f124 26 (of_decide_eq_true rfl)).trans (f19 26 (of_decide_eq_true rfl)))))
             have z138 : (σ98 68 0).toInt = (σ 68 0).toInt := (congrArg Int32.toInt (show σ98 68 0 = (σ 68 0) from ((congrFun (f123 68 (of_decide_eq_true rfl)) 0).trans (congrFun (f18 68 (of_decide_eq_true rfl)) 0))))
             have z139 : (σ98 68 1).toInt = (σ 68 1).toInt := (congrArg Int32.toInt (show σ98 68 1 = (σ 68 1) from ((congrFun (f123 68 (of_decide_eq_true rfl)) 1).trans (congrFun (f18 68 (of_decide_eq_true rfl)) 1))))
             have z140 : (σ98 68 2).toInt = (σ 68 2).toInt := (congrArg Int32.toInt (show σ98 68 2 = (σ 68 2) from ((congrFun (f123 68 (of_decide_eq_true rfl)) 2).trans (congrFun (f18 68 (of_decide_eq_true rfl)) 2))))
             have z141 : (σ98 68 3).toInt = (σ 68 3).toInt := (congrArg Int32.toInt (show σ98 68 3 = (σ 68 3) from ((congrFun (f123 68 (of_decide_eq_true rfl)) 3).trans (congrFun (f18 68 (of_decide_eq_true rfl)) 3))))
             exact by
              refine jcallV (As := [.int a1, .int 0]) (rest := []) ⟨hx, hb, hml, hown, hts⟩ hK hP hA hS hZ (c_X12_goes_0 l D cI cL ad zz hJ σ98 τ a1 (A1) t1 w133 (by omega) (by omega) (by omega) (by omega) (by omega)) cw_RX12_296 (jc_55 cI cL ad σ98 τ) rfl ⟨by dsimp only; omega, by dsimp only; omega⟩ rfl rfl rfl hl.1 rfl (Nat.le_of_ble_eq_true rfl) dX12_meanWith_54 ⟨Nat.zero_le _, Nat.zero_le _⟩ (fun r143 σ142 τ142 H locs h142 hP hS => ?_)
              obtain ⟨rfl, f144, f145, w146, w147, w148, w149, h142⟩ := h142
              obtain ⟨k151, k152, k153, h142⟩ := h142
              have h154 := h142
              obtain ⟨q160, k155, k156, k157, k158, k159⟩ := h154
              refine lv_istore (lv' := [(5, .int r143), (6, .int r78), (4, .int x37), (3, .int r17), (2, .int (σ 62 (σ 55 25).toNatClampNeg)), (0, .ref (ad 55)), (1, .int a1)]) hx hb dX12_meanWith_57 hl (of_decide_eq_true rfl) rfl (fun ls hl => ?_)
              refine lv_aload_n hx hb dX12_meanWith_59 rfl (lv_at hl 5 rfl) ?_
              have I161 : jI101 σ142 := jI101_fr ((f145 4 (of_decide_eq_true rfl)).trans (f124 4 (of_decide_eq_true rfl))) ((f145 5 (of_decide_eq_true rfl)).trans (f124 5 (of_decide_eq_true rfl))) ((f144 56 (of_decide_eq_true rfl)).trans (f123 56 (of_decide_eq_true rfl))) ((f144 57 (of_decide_eq_true rfl)).trans (f123 57 (of_decide_eq_true rfl))) ((f144 58 (of_decide_eq_true rfl)).trans (f123 58 (of_decide_eq_true rfl))) ((f144 59 (of_decide_eq_true rfl)).trans (f123 59 (of_decide_eq_true rfl))) I26
              have I162 : jI102 σ142 := jI102_fr ((f145 6 (of_decide_eq_true rfl)).trans (f124 6 (of_decide_eq_true rfl))) ((f144 60 (of_decide_eq_true rfl)).trans (f123 60 (of_decide_eq_true rfl))) ((f144 61 (of_decide_eq_true rfl)).trans (f123 61 (of_decide_eq_true rfl))) I27
              have I163 : jI103 σ142 := jI103_fr ((f145 9 (of_decide_eq_true rfl)).trans (f124 9 (of_decide_eq_true rfl))) I28
              have I164 : jI104 σ142 := jI104_fr ((f145 10 (of_decide_eq_true rfl)).trans ((f124 10 (of_decide_eq_true rfl)).trans (f19 10 (of_decide_eq_true rfl)))) ((f145 12 (of_decide_eq_true rfl)).trans ((f124 12 (of_decide_eq_true rfl)).trans (f19 12 (of_decide_eq_true rfl)))) ((f145 13 (of_decide_eq_true rfl)).trans ((f124 13 (of_decide_eq_true rfl)).trans (f19 13 (of_decide_eq_true rfl)))) ((f144 62 (of_decide_eq_true rfl)).trans ((f123 62 (of_decide_eq_true rfl)).trans (f18 62 (of_decide_eq_true rfl)))) ((f144 67 (of_decide_eq_true rfl)).trans ((f123 67 (of_decide_eq_true rfl)).trans (f18 67 (of_decide_eq_true rfl)))) hI104
              have I165 : jI105 σ142 := jI105_fr ((f145 15 (of_decide_eq_true rfl)).trans ((f124 15 (of_decide_eq_true rfl)).trans (f19 15 (of_decide_eq_true rfl)))) ((f144 65 (of_decide_eq_true rfl)).trans ((f123 65 (of_decide_eq_true rfl)).trans (f18 65 (of_decide_eq_true rfl)))) hI105
              have I166 : jI106 σ142 := jI106_fr ((f145 32 (of_decide_eq_true rfl)).trans ((f124 32 (of_decide_eq_true rfl)).trans (f19 32 (of_decide_eq_true rfl)))) ((f144 70 (of_decide_eq_true rfl)).trans ((f123 70 (of_decide_eq_true rfl)).trans (f18 70 (of_decide_eq_true rfl)))) ((f144 71 (of_decide_eq_true rfl)).trans ((f123 71 (of_decide_eq_true rfl)).trans (f18 71 (of_decide_eq_true rfl)))) ((f144 72 (of_decide_eq_true rfl)).trans ((f123 72 (of_decide_eq_true rfl)).trans (f18 72 (of_decide_eq_true rfl)))) hI106
              have z167 : (σ142 55 10).toInt = (σ 55 10).toInt := (congrArg Int32.toInt (show σ142 55 10 = (σ 55 10) from ((f145 10 (of_decide_eq_true rfl)).trans ((f124 10 (of_decide_eq_true rfl)).trans (f19 10 (of_decide_eq_true rfl))))))
              have z168 : (σ142 55 12).toInt = (σ 55 12).toInt := (congrArg Int32.toInt (show σ142 55 12 = (σ 55 12) from ((f145 12 (of_decide_eq_true rfl)).trans ((f124 12 (of_decide_eq_true rfl)).trans (f19 12 (of_decide_eq_true rfl))))))
              exact by
               have I169 : jI120 σ142 := ⟨(by omega), (by omega), (by omega), (by omega), (by omega), w146⟩
               have p170 : jKept σ142 := jKept.fr (f144 75 (of_decide_eq_true rfl)) (f144 76 (of_decide_eq_true rfl)) (f144 77 (of_decide_eq_true rfl)) p110
               have p171 : jTR σ142 := jTR.fr (f144 64 (of_decide_eq_true rfl)) (f144 65 (of_decide_eq_true rfl)) p111
               have p172 : jqSt σ142 := jqSt.fr (f144 78 (of_decide_eq_true rfl)) (f145 42 (of_decide_eq_true rfl)) p112
               refine jcallV (As := []) (rest := []) ⟨hx, hb, hml, hown, hts⟩ hK hP hA hS hZ (h_bf σ142 τ I161 I162 I163 I164 I165 I166 I169 p170 p171 p172 (by omega)) cw_RX12_280 (jc_55 cI cL ad σ142 τ) rfl ⟨by dsimp only; omega, by dsimp only; omega⟩ rfl rfl rfl hl.1 rfl (Nat.le_of_ble_eq_true rfl) dX12_meanWith_60 ⟨Nat.zero_le _, Nat.zero_le _⟩ (fun r174 σ173 τ173 H locs h173 hP hS => ?_)
               obtain ⟨rfl, f175, f176, p177, p178, p179, w180, h173⟩ := h173
               have R182 : jrP σ98 → jrM σ98 → jmb σ98 a1 = 1 → (a1 : Int32).toInt < (σ98 55 6).toInt → r174.toInt = (jrNx σ98 (a1 : Int32).toInt.toNat 0).2 ∧ jrM σ173 := fun pr mm mb lb => by
                 have g := jrP.goes (σ := σ98) (σ' := σ142) (b := a1) ⟨⟨(f144 56 (of_decide_eq_true rfl)), (f144 60 (of_decide_eq_true rfl)), (f144 61 (of_decide_eq_true rfl)), (f144 62 (of_decide_eq_true rfl)), (f144 64 (of_decide_eq_true rfl)), (f144 65 (of_decide_eq_true rfl))⟩, (f145 6 (of_decide_eq_true rfl)), (f145 9 (of_decide_eq_true rfl)), (f145 10 (of_decide_eq_true rfl)), (f145 12 (of_decide_eq_true rfl)), (f145 13 (of_decide_eq_true rfl)), (f145 30 (of_decide_eq_true rfl)), (f145 31 (of_decide_eq_true rfl)), (f145 42 (of_decide_eq_true rfl))⟩ pr mb (by have h9 := t1; omega) lb w147 (fun c hc => by have w := w149 c hc; rw [show A1 = (a1 : Int32).toInt from by have h9 := t1; omega] at w; exact w) w148 (by have h9 := t1; omega) (by omega) (by omega) ((σ98 55 25).toInt + 0) (by omega)
                 have z := w180 g.1 (jrEq.m (σ := σ98) (σ' := σ142) ⟨⟨(f144 56 (of_decide_eq_true rfl)), (f144 60 (of_decide_eq_true rfl)), (f144 61 (of_decide_eq_true rfl)), (f144 62 (of_decide_eq_true rfl)), (f144 64 (of_decide_eq_true rfl)), (f144 65 (of_decide_eq_true rfl))⟩, (f145 6 (of_decide_eq_true rfl)), (f145 9 (of_decide_eq_true rfl)), (f145 10 (of_decide_eq_true rfl)), (f145 12 (of_decide_eq_true rfl)), (f145 13 (of_decide_eq_true rfl)), (f145 30 (of_decide_eq_true rfl)), (f145 31 (of_decide_eq_true rfl)), (f145 42 (of_decide_eq_true rfl))⟩ (f144 78 (of_decide_eq_true rfl)) (f144 74 (of_decide_eq_true rfl)) (f144 75 (of_decide_eq_true rfl)) (f144 76 (of_decide_eq_true rfl)) (f144 77 (of_decide_eq_true rfl)) mm)
                 rw [g.2] at z; refine ⟨?_, z.2⟩; rw [z.1.2]; unfold jrNx; rw [show (((a1 : Int32).toInt.toNat : Nat) : Int) = (a1 : Int32).toInt from by have h9 := t1; omega]
               exact by
                obtain ⟨k183, h173⟩ := h173
                have h184 := h173
                obtain ⟨q186, k185⟩ := h184
                refine lv_istore (lv' := [(7, .int r174), (5, .int r143), (6, .int r78), (4, .int x37), (3, .int r17), (2, .int (σ 62 (σ 55 25).toNatClampNeg)), (0, .ref (ad 55)), (1, .int a1)]) hx hb dX12_meanWith_63 hl (of_decide_eq_true rfl) rfl (fun ls hl => ?_)
                refine lv_aload_n hx hb dX12_meanWith_65 rfl (lv_at hl 6 rfl) ?_
                refine lv_iload_n hx hb dX12_meanWith_66 rfl (lv_at hl 7 rfl) ?_
                refine lv_iconst (v := 0) hx hb dX12_meanWith_67 (of_decide_eq_true rfl) ?_
                refine lv_iload hx hb dX12_meanWith_68 (lv_at hl 1 rfl) ?_
                have w187 : ∀ k : Nat, k < 4 → 0 ≤ (σ173 68 k).toInt ∧ (σ173 68 k).toInt ≤ 3 := (jrr_fr (f175 68 (of_decide_eq_true rfl)) w146)
                have z188 : (σ173 55 25).toInt = (σ142 55 25).toInt := (congrArg Int32.toInt (show σ173 55 25 = (σ142 55 25) from (f176 25 (of_decide_eq_true rfl))))
                have z189 : (σ173 55 26).toInt = (σ142 55 26).toInt := (congrArg Int32.toInt (show σ173 55 26 = (σ142 55 26) from (f176 26 (of_decide_eq_true rfl))))
                have z190 : (σ173 55 6).toInt = (σ 55 6).toInt := (congrArg Int32.toInt (show σ173 55 6 = (σ 55 6) from ((f176 6 (of_decide_eq_true rfl)).trans ((f145 6 (of_decide_eq_true rfl)).trans ((f124 6 (of_decide_eq_true rfl)).trans (f19 6 (of_decide_eq_true rfl)))))))
                have w191 : ∀ k : Nat, k < 4 → 0 ≤ (σ98 68 k).toInt ∧ (σ98 68 k).toInt ≤ 3 := w133
                have z193 : (σ98 55 27).toInt = (σ 55 27).toInt := (congrArg Int32.toInt (show σ98 55 27 = (σ 55 27) from ((f124 27 (of_decide_eq_true rfl)).trans (f19 27 (of_decide_eq_true rfl)))))
                exact by
                 have k192 := jwas (by omega) (w191 0 (of_decide_eq_true rfl)) (w191 1 (of_decide_eq_true rfl)) (w191 2 (of_decide_eq_true rfl)) (w191 3 (of_decide_eq_true rfl)) k155
                 rw [← (show σ173 55 6 = σ98 55 6 from ((f176 6 (of_decide_eq_true rfl)).trans (f145 6 (of_decide_eq_true rfl))))] at k192
                 refine jcallVv (As := [.int a1, .int 0, .int r143]) (rest := []) ⟨hx, hb, hml, hown, hts⟩ hK hP hA hS hZ (c_X12_goesBack_0 l D cI cL ad zz hJ σ173 τ a1 (A1) t1 r143 (r143.toInt) rfl w187 (by omega) (by omega) (by omega) k192) cw_RX12_300 (jc_55 cI cL ad σ173 τ) rfl ⟨by dsimp only; omega, by dsimp only; omega⟩ rfl rfl rfl hl.1 rfl (Nat.le_of_ble_eq_true rfl) dX12_meanWith_70 ⟨Nat.zero_le _, Nat.zero_le _⟩ (fun σ194 τ194 H locs h194 hP hS => ?_)
                 obtain ⟨rfl, f196, f197, w198, w199, w200, h194⟩ := h194
                 obtain ⟨k202, k203, k204, k205, h194⟩ := h194
                 have p206 : jKept σ194 := jKept.fr (f196 75 (of_decide_eq_true rfl)) (f196 76 (of_decide_eq_true rfl)) (f196 77 (of_decide_eq_true rfl)) p177
                 have p207 : jTR σ194 := jTR.fr (f196 64 (of_decide_eq_true rfl)) (f196 65 (of_decide_eq_true rfl)) p178
                 have p208 : jqSt σ194 := jqSt.fr (f196 78 (of_decide_eq_true rfl)) (f197 42 (of_decide_eq_true rfl)) p179
                 have M209 : jrM σ173 → jrM σ194 := fun q => (jrEq.m (σ := σ173) (σ' := σ194) ⟨⟨(f196 56 (of_decide_eq_true rfl)), (f196 60 (of_decide_eq_true rfl)), (f196 61 (of_decide_eq_true rfl)), (f196 62 (of_decide_eq_true rfl)), (f196 64 (of_decide_eq_true rfl)), (f196 65 (of_decide_eq_true rfl))⟩, (f197 6 (of_decide_eq_true rfl)), (f197 9 (of_decide_eq_true rfl)), (f197 10 (of_decide_eq_true rfl)), (f197 12 (of_decide_eq_true rfl)), (f197 13 (of_decide_eq_true rfl)), (f197 30 (of_decide_eq_true rfl)), (f197 31 (of_decide_eq_true rfl)), (f197 42 (of_decide_eq_true rfl))⟩ (f196 78 (of_decide_eq_true rfl)) (f196 74 (of_decide_eq_true rfl)) (f196 75 (of_decide_eq_true rfl)) (f196 76 (of_decide_eq_true rfl)) (f196 77 (of_decide_eq_true rfl)) q)
                 exact by
                  have e210 : σ173 69 = σ142 69 := (f175 69 (of_decide_eq_true rfl))
                  have e211 : σ194 69 = σ98 69 := jback69 w147 e210 w199
                  have e212 : σ173 68 = σ142 68 := (f175 68 (of_decide_eq_true rfl))
                  have e213 : σ173 55 6 = σ98 55 6 := ((f176 6 (of_decide_eq_true rfl)).trans (f145 6 (of_decide_eq_true rfl)))
                  have w221 : ∀ k : Nat, k < 4 → 0 ≤ (σ98 68 k).toInt ∧ (σ98 68 k).toInt ≤ 3 := w133
                  have w222 : ∀ k : Nat, k < 4 → 0 ≤ (σ194 68 k).toInt ∧ (σ194 68 k).toInt ≤ 3 := w198
                  have k223 := k205
                  rw [e213] at k223
                  have D214 := jdig (w221 0 (of_decide_eq_true rfl)) (w221 1 (of_decide_eq_true rfl)) (w221 2 (of_decide_eq_true rfl)) (w221 3 (of_decide_eq_true rfl)) (w222 0 (of_decide_eq_true rfl)) (w222 1 (of_decide_eq_true rfl)) (w222 2 (of_decide_eq_true rfl)) (w222 3 (of_decide_eq_true rfl)) k155 k223
                  exact by
                   have e215 : σ194 55 27 = σ98 55 27 := Int32.toInt_inj.mp (by have h9 := D214.1; omega)
                   have z224 : (σ173 55 26).toInt = (σ142 55 26).toInt := (congrArg Int32.toInt (show σ173 55 26 = (σ142 55 26) from (f176 26 (of_decide_eq_true rfl))))
                   have z225 : (σ98 55 26).toInt = (σ 55 26).toInt := (congrArg Int32.toInt (show σ98 55 26 = (σ 55 26) from ((f124 26 (of_decide_eq_true rfl)).trans (f19 26 (of_decide_eq_true rfl)))))
                   have z226 : (σ173 55 25).toInt = (σ142 55 25).toInt := (congrArg Int32.toInt (show σ173 55 25 = (σ142 55 25) from (f176 25 (of_decide_eq_true rfl))))
                   have z227 : (σ98 55 25).toInt = (σ 55 25).toInt := (congrArg Int32.toInt (show σ98 55 25 = (σ 55 25) from ((f124 25 (of_decide_eq_true rfl)).trans (f19 25 (of_decide_eq_true rfl)))))
                   have e216 : σ194 55 26 = σ98 55 26 := Int32.toInt_inj.mp (by omega)
                   have e217 : σ194 55 25 = σ98 55 25 := Int32.toInt_inj.mp (by omega)
                   have z228 : (σ98 55 6).toInt = (σ 55 6).toInt := (congrArg Int32.toInt (show σ98 55 6 = (σ 55 6) from ((f124 6 (of_decide_eq_true rfl)).trans (f19 6 (of_decide_eq_true rfl)))))
                   have e218 : σ194 68 = σ98 68 := jback68 (nb := (σ98 55 6).toInt) (by omega) w148 e212 (fun k hk => w200 k (by rw [e213]; exact hk)) D214.2
                   exact by
                    have f219 : (∀ i : Nat, (i < 55 ∨ 55 < i) ∧ (i < 66 ∨ 66 < i) ∧ (i < 74 ∨ 78 < i) → σ194 i = σ98 i) := fun i hi0 => by
                      by_cases h8 : i = 68
                      · rw [h8]; exact e218
                      by_cases h9 : i = 69
                      · rw [h9]; exact e211
                      have hi : ((i < 55 ∨ 55 < i) ∧ (i < 66 ∨ 66 < i) ∧ (i < 74 ∨ 78 < i)) ∧ i ≠ 68 ∧ i ≠ 69 := ⟨hi0, h8, h9⟩
                      exact ((f196 i (imp_200 i hi)).trans ((f175 i (imp_201 i hi)).trans (f144 i (imp_200 i hi))))
                    have f220 : ∀ i : Nat, (i < 18 ∨ 18 < i) ∧ (i < 19 ∨ 19 < i) ∧ (i < 20 ∨ 20 < i) ∧ (i < 21 ∨ 21 < i) ∧ (i < 22 ∨ 22 < i) ∧ (i < 37 ∨ 37 < i) → σ194 55 i = σ98 55 i := fun i hi0 => by
                      by_cases h25 : i = 25
                      · rw [h25]; exact e217
                      by_cases h26 : i = 26
                      · rw [h26]; exact e216
                      by_cases h27 : i = 27
                      · rw [h27]; exact e215
                      have hi : ((i < 18 ∨ 18 < i) ∧ (i < 19 ∨ 19 < i) ∧ (i < 20 ∨ 20 < i) ∧ (i < 21 ∨ 21 < i) ∧ (i < 22 ∨ 22 < i) ∧ (i < 37 ∨ 37 < i)) ∧ i ≠ 25 ∧ i ≠ 26 ∧ i ≠ 27 := ⟨hi0, h25, h26, h27⟩
                      exact ((f197 i (imp_202 i hi)).trans ((f176 i (imp_203 i hi)).trans (f145 i (imp_202 i hi))))
                    clear k223 k205 k155
                    refine lv_iload hx hb dX12_meanWith_73 (lv_at hl 3 rfl) ?_
                    refine lv_sipush (v := 1000) hx hb dX12_meanWith_75 (of_decide_eq_true rfl) ?_
                    refine lv_aload_n hx hb dX12_meanWith_78 rfl (lv_at hl 6 rfl) ?_
                    refine va_get (D := D) hx hb hts inlX12 hown hK hP 55 (jc_55 cI cL ad σ194 τ) rfl 13 (of_decide_eq_true rfl) (hts _ kw_15_14) (fun _ h9 => h9) rfl dX12_meanWith_79 ?_
                    have m229 : σ194 55 13 = (σ 55 13) := ((f220 13 (of_decide_eq_true rfl)).trans ((f124 13 (of_decide_eq_true rfl)).trans (f19 13 (of_decide_eq_true rfl))))
                    refine jtopr m229 ?_
                    have g230 := jrg (rfl : (σ 55 13).toInt = (σ 55 13).toInt)
                    refine lv_isub hx hb dX12_meanWith_82 ?_
                    refine lv_topi (fun x231 ex231 => ?_)
                    exact by
                     have tx231 : x231.toInt = -(σ 55 13).toInt + 1000 := (jsub ex231 jz_1000 rfl (by omega) (by omega)).trans (by omega)
                     refine lv_i2l (v := x231.toInt64) hx hb dX12_meanWith_83 rfl ?_
                     refine lv_iload hx hb dX12_meanWith_84 (lv_at hl 2 rfl) ?_
                     refine lv_iload hx hb dX12_meanWith_86 (lv_at hl 0 rfl) ?_
                     refine lv_iload_n hx hb dX12_meanWith_88 rfl (lv_at hl 4 rfl) ?_
                     refine jcallS (As := [.int r78, .int r174, .int r17]) (rest := [.long x231.toInt64, .int x37]) ⟨hx, hb, hml, hown, hts⟩ hK hP hA hS hZ (c_X12_mixed_b l D cI cL ad zz hJ σ194 τ r78 (r78.toInt) rfl r174 (r174.toInt) rfl r17 (r17.toInt) rfl (by omega) (by omega) (by omega)) cw_RX12_304 ⟨by dsimp only; omega, by dsimp only; omega⟩ rfl rfl rfl hl.1 rfl (Nat.le_of_ble_eq_true rfl) dX12_meanWith_89 ⟨Nat.zero_le _, Nat.zero_le _⟩ (fun r233 σ232 τ232 H locs h232 hP hS => ?_)
                     obtain ⟨⟨rfl, rfl⟩, w234, h232⟩ := h232
                     have h235 := h232
                     obtain ⟨q238, k236, k237⟩ := h235
                     exact by
                      refine lv_i2l (v := r233.toInt64) hx hb dX12_meanWith_92 rfl ?_
                      refine lv_lmul hx hb dX12_meanWith_93 ?_
                      refine lv_topl (fun lx239 elx239 => ?_)
                      have g240 := jprod (a := 1000) (b := 11253000) (jtoL tx231) (jtoL rfl) (by omega) (by omega) (by omega) (by omega)
                      have tlx239 : lx239.toInt = ((-(σ 55 13).toInt + 1000) * r233.toInt) := jlmul elx239 (jtoL tx231) (jtoL rfl) (by omega) (by omega)
                      refine lv_ldc2 (v := 1000) hx hb hown (hts _ kw_34_19) dX12_meanWith_94 ?_
                      refine lv_ldiv hx hb dX12_meanWith_97 (of_decide_eq_true rfl) ?_
                      refine lv_topl (fun lx241 elx241 => ?_)
                      have tlx241 : lx241.toInt = ((((-(σ 55 13).toInt + 1000) * r233.toInt)) / 1000) := jldiv elx241 tlx239 jzl_1000 (by omega) (by omega)
                      exact by
                       refine lv_l2i hx hb dX12_meanWith_98 rfl ?_
                       refine lv_topi (fun x242 ex242 => ?_)
                       have tx242 : x242.toInt = ((((-(σ 55 13).toInt + 1000) * r233.toInt)) / 1000) := jtoI ex242 tlx241 (by omega) (by omega)
                       refine lv_iadd hx hb dX12_meanWith_99 ?_
                       refine lv_topi (fun x243 ex243 => ?_)
                       have tx243 : x243.toInt = 1000 * r31.toInt + ((((-(σ 55 13).toInt + 1000) * r233.toInt)) / 1000) := (jadd ex243 tx37 tx242 (by omega) (by omega)).trans (by omega)
                       exact by exact hret x243 σ194 τ _ _ _ _ rfl ⟨rfl, (fun i hi => ((f219 i hi).trans ((f123 i hi).trans (f18 i (imp_204 i hi))))), (fun i hi => ((f220 i hi).trans ((f124 i hi).trans (f19 i (imp_205 i hi))))), p206, p207, p208, (fun pr mm mb lb => by have hb : (a1 : Int32).toInt = A1 := t1; have p1 : jrP σ16 := ((jrEq.v (σ := σ) (σ' := σ16) ⟨⟨(f18 56 (of_decide_eq_true rfl)), (f18 60 (of_decide_eq_true rfl)), (f18 61 (of_decide_eq_true rfl)), (f18 62 (of_decide_eq_true rfl)), (f18 64 (of_decide_eq_true rfl)), (f18 65 (of_decide_eq_true rfl))⟩, (f19 6 (of_decide_eq_true rfl)), (f19 9 (of_decide_eq_true rfl)), (f19 10 (of_decide_eq_true rfl)), (f19 12 (of_decide_eq_true rfl)), (f19 13 (of_decide_eq_true rfl)), (f19 30 (of_decide_eq_true rfl)), (f19 31 (of_decide_eq_true rfl)), (f19 42 (of_decide_eq_true rfl))⟩ (f18 68 (of_decide_eq_true rfl)) (f18 69 (of_decide_eq_true rfl)) (f19 25 (of_decide_eq_true rfl)) (f19 26 (of_decide_eq_true rfl)) (f19 27 (of_decide_eq_true rfl))).2 pr); have r1 := R86 p1 (jrEq.m (σ := σ) (σ' := σ16) ⟨⟨(f18 56 (of_decide_eq_true rfl)), (f18 60 (of_decide_eq_true rfl)), (f18 61 (of_decide_eq_true rfl)), (f18 62 (of_decide_eq_true rfl)), (f18 64 (of_decide_eq_true rfl)), (f18 65 (of_decide_eq_true rfl))⟩, (f19 6 (of_decide_eq_true rfl)), (f19 9 (of_decide_eq_true rfl)), (f19 10 (of_decide_eq_true rfl)), (f19 12 (of_decide_eq_true rfl)), (f19 13 (of_decide_eq_true rfl)), (f19 30 (of_decide_eq_true rfl)), (f19 31 (of_decide_eq_true rfl)), (f19 42 (of_decide_eq_true rfl))⟩ (f18 78 (of_decide_eq_true rfl)) (f18 74 (of_decide_eq_true rfl)) (f18 75 (of_decide_eq_true rfl)) (f18 76 (of_decide_eq_true rfl)) (f18 77 (of_decide_eq_true rfl)) mm) ((jmb_fr (f19 27 (of_decide_eq_true rfl)) (f19 30 (of_decide_eq_true rfl)) (f19 31 (of_decide_eq_true rfl)) (f18 56 (of_decide_eq_true rfl)) (f18 69 (of_decide_eq_true rfl)) a1).trans mb) (by have h9 := t1; omega); have m1 := M113 r1.2; have p2 : jrP σ98 := ((jrEq.v (σ := σ) (σ' := σ98) ⟨⟨((f123 56 (of_decide_eq_true rfl)).trans (f18 56 (of_decide_eq_true rfl))), ((f123 60 (of_decide_eq_true rfl)).trans (f18 60 (of_decide_eq_true rfl))), ((f123 61 (of_decide_eq_true rfl)).trans (f18 61 (of_decide_eq_true rfl))), ((f123 62 (of_decide_eq_true rfl)).trans (f18 62 (of_decide_eq_true rfl))), ((f123 64 (of_decide_eq_true rfl)).trans (f18 64 (of_decide_eq_true rfl))), ((f123 65 (of_decide_eq_true rfl)).trans (f18 65 (of_decide_eq_true rfl)))⟩, ((f124 6 (of_decide_eq_true rfl)).trans (f19 6 (of_decide_eq_true rfl))), ((f124 9 (of_decide_eq_true rfl)).trans (f19 9 (of_decide_eq_true rfl))), ((f124 10 (of_decide_eq_true rfl)).trans (f19 10 (of_decide_eq_true rfl))), ((f124 12 (of_decide_eq_true rfl)).trans (f19 12 (of_decide_eq_true rfl))), ((f124 13 (of_decide_eq_true rfl)).trans (f19 13 (of_decide_eq_true rfl))), ((f124 30 (of_decide_eq_true rfl)).trans (f19 30 (of_decide_eq_true rfl))), ((f124 31 (of_decide_eq_true rfl)).trans (f19 31 (of_decide_eq_true rfl))), ((f124 42 (of_decide_eq_true rfl)).trans (f19 42 (of_decide_eq_true rfl)))⟩ ((f123 68 (of_decide_eq_true rfl)).trans (f18 68 (of_decide_eq_true rfl))) ((f123 69 (of_decide_eq_true rfl)).trans (f18 69 (of_decide_eq_true rfl))) ((f124 25 (of_decide_eq_true rfl)).trans (f19 25 (of_decide_eq_true rfl))) ((f124 26 (of_decide_eq_true rfl)).trans (f19 26 (of_decide_eq_true rfl))) ((f124 27 (of_decide_eq_true rfl)).trans (f19 27 (of_decide_eq_true rfl)))).2 pr); have r2 := R182 p2 m1 ((jmb_fr ((f124 27 (of_decide_eq_true rfl)).trans (f19 27 (of_decide_eq_true rfl))) ((f124 30 (of_decide_eq_true rfl)).trans (f19 30 (of_decide_eq_true rfl))) ((f124 31 (of_decide_eq_true rfl)).trans (f19 31 (of_decide_eq_true rfl))) ((f123 56 (of_decide_eq_true rfl)).trans (f18 56 (of_decide_eq_true rfl))) ((f123 69 (of_decide_eq_true rfl)).trans (f18 69 (of_decide_eq_true rfl))) a1).trans mb) (by have h9 := t1; omega); have m2 := M209 r2.2; rw [hb, (jrEq.nx (σ := σ) (σ' := σ16) ⟨⟨(f18 56 (of_decide_eq_true rfl)), (f18 60 (of_decide_eq_true rfl)), (f18 61 (of_decide_eq_true rfl)), (f18 62 (of_decide_eq_true rfl)), (f18 64 (of_decide_eq_true rfl)), (f18 65 (of_decide_eq_true rfl))⟩, (f19 6 (of_decide_eq_true rfl)), (f19 9 (of_decide_eq_true rfl)), (f19 10 (of_decide_eq_true rfl)), (f19 12 (of_decide_eq_true rfl)), (f19 13 (of_decide_eq_true rfl)), (f19 30 (of_decide_eq_true rfl)), (f19 31 (of_decide_eq_true rfl)), (f19 42 (of_decide_eq_true rfl))⟩ (f18 68 (of_decide_eq_true rfl)) (f18 69 (of_decide_eq_true rfl)) (f19 25 (of_decide_eq_true rfl)) (f19 26 (of_decide_eq_true rfl)))] at r1; rw [hb, (jrEq.nx (σ := σ) (σ' := σ98) ⟨⟨((f123 56 (of_decide_eq_true rfl)).trans (f18 56 (of_decide_eq_true rfl))), ((f123 60 (of_decide_eq_true rfl)).trans (f18 60 (of_decide_eq_true rfl))), ((f123 61 (of_decide_eq_true rfl)).trans (f18 61 (of_decide_eq_true rfl))), ((f123 62 (of_decide_eq_true rfl)).trans (f18 62 (of_decide_eq_true rfl))), ((f123 64 (of_decide_eq_true rfl)).trans (f18 64 (of_decide_eq_true rfl))), ((f123 65 (of_decide_eq_true rfl)).trans (f18 65 (of_decide_eq_true rfl)))⟩, ((f124 6 (of_decide_eq_true rfl)).trans (f19 6 (of_decide_eq_true rfl))), ((f124 9 (of_decide_eq_true rfl)).trans (f19 9 (of_decide_eq_true rfl))), ((f124 10 (of_decide_eq_true rfl)).trans (f19 10 (of_decide_eq_true rfl))), ((f124 12 (of_decide_eq_true rfl)).trans (f19 12 (of_decide_eq_true rfl))), ((f124 13 (of_decide_eq_true rfl)).trans (f19 13 (of_decide_eq_true rfl))), ((f124 30 (of_decide_eq_true rfl)).trans (f19 30 (of_decide_eq_true rfl))), ((f124 31 (of_decide_eq_true rfl)).trans (f19 31 (of_decide_eq_true rfl))), ((f124 42 (of_decide_eq_true rfl)).trans (f19 42 (of_decide_eq_true rfl)))⟩ ((f123 68 (of_decide_eq_true rfl)).trans (f18 68 (of_decide_eq_true rfl))) ((f123 69 (of_decide_eq_true rfl)).trans (f18 69 (of_decide_eq_true rfl))) ((f124 25 (of_decide_eq_true rfl)).trans (f19 25 (of_decide_eq_true rfl))) ((f124 26 (of_decide_eq_true rfl)).trans (f19 26 (of_decide_eq_true rfl))))] at r2; have c := jrCh_of (c := (A1).toNat) (X := (σ 62 (σ 55 25).toInt.toNat).toInt) w21 pr (by omega) (by have h9 := t1; omega) (by omega) rfl (w7 _ (by omega)) (by omega) (by omega) ((jmb_fr rfl rfl rfl rfl rfl a1).trans mb); have n := jrRn_of (c := (A1).toNat) (X := (σ 62 (σ 55 25).toInt.toNat).toInt) w32 ((jrEq.v (σ := σ) (σ' := σ16) ⟨⟨(f18 56 (of_decide_eq_true rfl)), (f18 60 (of_decide_eq_true rfl)), (f18 61 (of_decide_eq_true rfl)), (f18 62 (of_decide_eq_true rfl)), (f18 64 (of_decide_eq_true rfl)), (f18 65 (of_decide_eq_true rfl))⟩, (f19 6 (of_decide_eq_true rfl)), (f19 9 (of_decide_eq_true rfl)), (f19 10 (of_decide_eq_true rfl)), (f19 12 (of_decide_eq_true rfl)), (f19 13 (of_decide_eq_true rfl)), (f19 30 (of_decide_eq_true rfl)), (f19 31 (of_decide_eq_true rfl)), (f19 42 (of_decide_eq_true rfl))⟩ (f18 68 (of_decide_eq_true rfl)) (f18 69 (of_decide_eq_true rfl)) (f19 25 (of_decide_eq_true rfl)) (f19 26 (of_decide_eq_true rfl)) (f19 27 (of_decide_eq_true rfl))).2 pr) (by omega) (by omega); have q := (jrEq.ch (σ := σ) (σ' := σ16) ⟨⟨(f18 56 (of_decide_eq_true rfl)), (f18 60 (of_decide_eq_true rfl)), (f18 61 (of_decide_eq_true rfl)), (f18 62 (of_decide_eq_true rfl)), (f18 64 (of_decide_eq_true rfl)), (f18 65 (of_decide_eq_true rfl))⟩, (f19 6 (of_decide_eq_true rfl)), (f19 9 (of_decide_eq_true rfl)), (f19 10 (of_decide_eq_true rfl)), (f19 12 (of_decide_eq_true rfl)), (f19 13 (of_decide_eq_true rfl)), (f19 30 (of_decide_eq_true rfl)), (f19 31 (of_decide_eq_true rfl)), (f19 42 (of_decide_eq_true rfl))⟩ (f18 68 (of_decide_eq_true rfl)) (f18 69 (of_decide_eq_true rfl)) (f19 25 (of_decide_eq_true rfl)) (f19 26 (of_decide_eq_true rfl))); rw [q.2.1, q.2.2.1] at n; have z := jMo_of2 (R := (σ 55 13).toInt) (r := (r31 : Int32).toInt) (C := (r17 : Int32).toInt) (p := (r78 : Int32).toInt) (q := (r174 : Int32).toInt) (z := (x243 : Int32).toInt) w234 (by have h9 := tx243; omega); refine ⟨?_, m2⟩; unfold jrG; rw [← c, ← n, ← r1.1, ← r2.1]; exact z), ⟨trivial, (by have h9 := tx243; omega)⟩⟩ hP hS dX12_meanWith_100
set_option maxHeartbeats 4000000 in
set_option maxRecDepth 100000 in
theorem c_X12_bests_mean_z (l : Launch) (D : va_G) (cI cL : ClassId) (ad zz : Nat → Nat) (hJ : jD ad) (σ : Nat → Nat → Int32) (τ : Nat → Nat → Int64) (a1 : Int32) (A1 : Int) (t1 : a1.toInt = A1) (hI101 : jI101 σ) (hI102 : jI102 σ) (hI103 : jI103 σ) (hI104 : jI104 σ) (hI105 : jI105 σ) (hI106 : jI106 σ) (hI120 : jI120 σ) (hs_jKept : jKept σ) (hs_jTR : jTR σ) (hs_jqSt : jqSt σ) (hp0 : 0 ≤ A1 ∧ A1 ≤ 3) (hp1 : (σ 55 25).toInt < (σ 55 10).toInt) (hp2 : (σ 55 26).toInt < (σ 55 12).toInt) (hp3 : (σ 55 12).toInt - (σ 55 26).toInt ≤ (((0) : Nat) : Int)) : jM l yX12_meanWith cX12_meanWith 8 (some .int) ({ frames := (69 + 4 * (0)), cells := 0, slots := 0, locals := (3034 + 240 * (0)) }) D cI cL ad zz [.ref (ad 55), .int a1] σ τ (fun r σ' τ' => τ = τ' ∧ (∀ i : Nat, (i < 55 ∨ 55 < i) ∧ (i < 66 ∨ 66 < i) ∧ (i < 74 ∨ 78 < i) → σ' i = σ i) ∧ (∀ k : Nat, (k < 18 ∨ 18 < k) ∧ (k < 19 ∨ 19 < k) ∧ (k < 20 ∨ 20 < k) ∧ (k < 21 ∨ 21 < k) ∧ (k < 22 ∨ 22 < k) ∧ (k < 37 ∨ 37 < k) → σ' 55 k = σ 55 k) ∧ (jKept σ') ∧ (jTR σ') ∧ (jqSt σ') ∧ ((jrP σ → jrM σ → jmb σ a1 = 1 → A1 < (σ 55 6).toInt → r.toInt = jrG σ (A1).toNat ∧ jrM σ')) ∧ ((True ∧ (0 ≤ r.toInt ∧ r.toInt ≤ -(1023000 * (σ 55 26).toInt) + 12276000)))) := by
  refine jM.of hJ (by decide +kernel) (nt := .int) rfl (Nat.le_of_ble_eq_true rfl) ?_
  intro p e s m args below meth c Q ls hC hret hl hP
  obtain ⟨hx, hb, hr, hml, hown, hts, hK, -, hlocks, hZ⟩ := hC
  have hown : s.vm.findClass RX12 = some m.cls := hown
  have hS : va_S (jA ad) s.heap s.heap [] := va_S.rf
  have hA : ∀ q, jA ad q → jA ad q := fun _ h => h
  have hl : lv_has ls 8 [(0, .ref (ad 55)), (1, .int a1)] := hl
  have g1 := jrg t1
  obtain ⟨i1, w2, w3⟩ : (0 ≤ (σ 55 6).toInt ∧ (σ 55 6).toInt ≤ 4) ∧ (∀ k : Nat, k < 4 → 0 ≤ (σ 60 k).toInt ∧ (σ 60 k).toInt ≤ 50) ∧ (∀ k : Nat, k < 4 → 0 ≤ (σ 61 k).toInt ∧ (σ 61 k).toInt ≤ 20) := id hI102
  obtain ⟨i4, i5, i6, w7, w8⟩ : (1 ≤ (σ 55 10).toInt ∧ (σ 55 10).toInt ≤ 8) ∧ (1 ≤ (σ 55 12).toInt ∧ (σ 55 12).toInt ≤ 12) ∧ (0 ≤ (σ 55 13).toInt ∧ (σ 55 13).toInt ≤ 999) ∧ (∀ k : Nat, k < 8 → 0 ≤ (σ 62 k).toInt ∧ (σ 62 k).toInt ≤ 3) ∧ (∀ k : Nat, k < 8 → 0 ≤ (σ 67 k).toInt ∧ (σ 67 k).toInt ≤ 3) := id hI104
  obtain ⟨i9, i10, i11, i12, i13, w14⟩ : (0 ≤ (σ 55 25).toInt) ∧ ((σ 55 25).toInt ≤ (σ 55 10).toInt) ∧ (0 ≤ (σ 55 26).toInt) ∧ ((σ 55 26).toInt ≤ (σ 55 12).toInt) ∧ ((-1) ≤ (σ 55 27).toInt ∧ (σ 55 27).toInt ≤ 3) ∧ (∀ k : Nat, k < 4 → 0 ≤ (σ 68 k).toInt ∧ (σ 68 k).toInt ≤ 3) := id hI120
  exact absurd (by omega : False) id
set_option maxHeartbeats 4000000 in
set_option maxRecDepth 100000 in
theorem c_X12_bests_bf_g (l : Launch) (D : va_G) (cI cL : ClassId) (ad zz : Nat → Nat) (hJ : jD ad) (n : Nat) (h_mean : ∀ (σ : Nat → Nat → Int32) (τ : Nat → Nat → Int64) (a1 : Int32) (A1 : Int) (t1 : a1.toInt = A1) (hI101 : jI101 σ) (hI102 : jI102 σ) (hI103 : jI103 σ) (hI104 : jI104 σ) (hI105 : jI105 σ) (hI106 : jI106 σ) (hI120 : jI120 σ) (hs_jKept : jKept σ) (hs_jTR : jTR σ) (hs_jqSt : jqSt σ) (hp0 : 0 ≤ A1 ∧ A1 ≤ 3) (hp1 : (σ 55 25).toInt < (σ 55 10).toInt) (hp2 : (σ 55 26).toInt < (σ 55 12).toInt) (hp3 : (σ 55 12).toInt - (σ 55 26).toInt ≤ (((n) : Nat) : Int)), jM l yX12_meanWith cX12_meanWith 8 (some .int) ({ frames := (69 + 4 * (n)), cells := 0, slots := 0, locals := (3034 + 240 * (n)) }) D cI cL ad zz [.ref (ad 55), .int a1] σ τ (fun r σ' τ' => τ = τ' ∧ (∀ i : Nat, (i < 55 ∨ 55 < i) ∧ (i < 66 ∨ 66 < i) ∧ (i < 74 ∨ 78 < i) → σ' i = σ i) ∧ (∀ k : Nat, (k < 18 ∨ 18 < k) ∧ (k < 19 ∨ 19 < k) ∧ (k < 20 ∨ 20 < k) ∧ (k < 21 ∨ 21 < k) ∧ (k < 22 ∨ 22 < k) ∧ (k < 37 ∨ 37 < k) → σ' 55 k = σ 55 k) ∧ (jKept σ') ∧ (jTR σ') ∧ (jqSt σ') ∧ ((jrP σ → jrM σ → jmb σ a1 = 1 → A1 < (σ 55 6).toInt → r.toInt = jrG σ (A1).toNat ∧ jrM σ')) ∧ ((True ∧ (0 ≤ r.toInt ∧ r.toInt ≤ -(1023000 * (σ 55 26).toInt) + 12276000))))) (σ : Nat → Nat → Int32) (τ : Nat → Nat → Int64) (hI101 : jI101 σ) (hI102 : jI102 σ) (hI103 : jI103 σ) (hI104 : jI104 σ) (hI105 : jI105 σ) (hI106 : jI106 σ) (hI120 : jI120 σ) (hs_jKept : jKept σ) (hs_jTR : jTR σ) (hs_jqSt : jqSt σ) (hp0 : (σ 55 12).toInt - (σ 55 26).toInt ≤ (((n) : Nat) : Int)) : jM l yX12_bestFrom cX12_bestFrom 8 (some .int) ({ frames := (70 + 4 * (n)), cells := 0, slots := 0, locals := (3114 + 240 * (n)) }) D cI cL ad zz [.ref (ad 55)] σ τ (fun r σ' τ' => τ = τ' ∧ (∀ i : Nat, (i < 55 ∨ 55 < i) ∧ (i < 66 ∨ 66 < i) ∧ (i < 74 ∨ 78 < i) → σ' i = σ i) ∧ (∀ k : Nat, (k < 18 ∨ 18 < k) ∧ (k < 19 ∨ 19 < k) ∧ (k < 20 ∨ 20 < k) ∧ (k < 21 ∨ 21 < k) ∧ (k < 22 ∨ 22 < k) ∧ (k < 37 ∨ 37 < k) → σ' 55 k = σ 55 k) ∧ (jKept σ') ∧ (jTR σ') ∧ (jqSt σ') ∧ ((jrP σ → jrM σ → ((σ' 55 37).toInt = (if (jrV σ).1 < 0 then -2 else (jrV σ).1) ∧ r.toInt = (jrV σ).2) ∧ jrM σ')) ∧ ((-2) ≤ (σ' 55 37).toInt ∧ (σ' 55 37).toInt ≤ 3) ∧ ((True ∧ (0 ≤ r.toInt ∧ r.toInt ≤ -(1023000 * (σ 55 26).toInt) + 12276000)))) := by
  refine jM.of hJ (by decide +kernel) (nt := .int) rfl (Nat.le_of_ble_eq_true rfl) ?_
  intro p e s m args below meth c Q ls hC hret hl hP
  obtain ⟨hx, hb, hr, hml, hown, hts, hK, -, hlocks, hZ⟩ := hC
  have hown : s.vm.findClass RX12 = some m.cls := hown
  have hS : va_S (jA ad) s.heap s.heap [] := va_S.rf
  have hA : ∀ q, jA ad q → jA ad q := fun _ h => h
  have hl : lv_has ls 8 [(0, .ref (ad 55))] := hl
  obtain ⟨i1, w2, w3⟩ : (0 ≤ (σ 55 6).toInt ∧ (σ 55 6).toInt ≤ 4) ∧ (∀ k : Nat, k < 4 → 0 ≤ (σ 60 k).toInt ∧ (σ 60 k).toInt ≤ 50) ∧ (∀ k : Nat, k < 4 → 0 ≤ (σ 61 k).toInt ∧ (σ 61 k).toInt ≤ 20) := id hI102
  obtain ⟨i4, i5, i6, w7, w8⟩ : (1 ≤ (σ 55 10).toInt ∧ (σ 55 10).toInt ≤ 8) ∧ (1 ≤ (σ 55 12).toInt ∧ (σ 55 12).toInt ≤ 12) ∧ (0 ≤ (σ 55 13).toInt ∧ (σ 55 13).toInt ≤ 999) ∧ (∀ k : Nat, k < 8 → 0 ≤ (σ 62 k).toInt ∧ (σ 62 k).toInt ≤ 3) ∧ (∀ k : Nat, k < 8 → 0 ≤ (σ 67 k).toInt ∧ (σ 67 k).toInt ≤ 3) := id hI104
  obtain ⟨i9, i10, i11, i12, i13, w14⟩ : (0 ≤ (σ 55 25).toInt) ∧ ((σ 55 25).toInt ≤ (σ 55 10).toInt) ∧ (0 ≤ (σ 55 26).toInt) ∧ ((σ 55 26).toInt ≤ (σ 55 12).toInt) ∧ ((-1) ≤ (σ 55 27).toInt ∧ (σ 55 27).toInt ≤ 3) ∧ (∀ k : Nat, k < 4 → 0 ≤ (σ 68 k).toInt ∧ (σ 68 k).toInt ≤ 3) := id hI120
  refine lv_aload_n hx hb dX12_bestFrom_0 rfl (lv_at hl 0 rfl) ?_
  refine jcallV (As := []) (rest := []) ⟨hx, hb, hml, hown, hts⟩ hK hP hA hS hZ (c_X12_isEnded l D cI cL ad zz hJ σ τ hI102 hI104 hI120) cw_RX12_307 (jc_55 cI cL ad σ τ) rfl ⟨by dsimp only; omega, by dsimp only; omega⟩ rfl rfl rfl hl.1 rfl (Nat.le_of_ble_eq_true rfl) dX12_bestFrom_1 ⟨Nat.zero_le _, Nat.zero_le _⟩ (fun r16 σ15 τ15 H locs h15 hP hS => ?_)
  obtain ⟨⟨rfl, rfl⟩, h15⟩ := h15
  rcases h15 with h17 | h18
  · obtain ⟨q20, k19⟩ := h17
    have q20 := q20.symm
    subst q20
    refine lv_if_eq (tgt := 15) hx hb dX12_bestFrom_4 (of_decide_eq_true rfl) (fun c => absurd c (of_decide_eq_true rfl)) (fun _ => ?_)
    refine lv_aload_n hx hb dX12_bestFrom_7 rfl (lv_at hl 0 rfl) ?_
    refine lv_bipush (v := (-2)) hx hb dX12_bestFrom_8 (of_decide_eq_true rfl) ?_
    refine jput (ty := .int) hx hb hts inlX12 tyX12 tyX12_ok nmX12 hown hK hP hJ hA hS (jc_55 cI cL ad σ τ) rfl (k := 37) (of_decide_eq_true rfl) (Nat.le_of_ble_eq_true rfl) (jp_55_37 cI cL ad σ τ (-2)) (hts _ kw_33_15) (fun _ h9 => h9) rfl (by decide +kernel) rfl rfl dX12_bestFrom_10 (fun σ21 H locs eσ21 hP hS => ?_)
    refine lv_iconst (v := 0) hx hb dX12_bestFrom_13 (of_decide_eq_true rfl) ?_
    have p22 : jKept σ21 := jKept.fr (jnp 75 eσ21 (of_decide_eq_true rfl)) (jnp 76 eσ21 (of_decide_eq_true rfl)) (jnp 77 eσ21 (of_decide_eq_true rfl)) hs_jKept
    have p23 : jTR σ21 := jTR.fr (jnp 64 eσ21 (of_decide_eq_true rfl)) (jnp 65 eσ21 (of_decide_eq_true rfl)) hs_jTR
    have p24 : jqSt σ21 := jqSt.fr (jnp 78 eσ21 (of_decide_eq_true rfl)) (jkp 42 eσ21 (of_decide_eq_true rfl)) hs_jqSt
    have z25 : (σ21 55 37).toInt = (-2) := ((congrArg Int32.toInt (show σ21 55 37 = (-2) from (jsp eσ21))).trans jz_m2)
    have z26 : (σ21 55 25).toInt = (σ 55 25).toInt := (congrArg Int32.toInt (show σ21 55 25 = (σ 55 25) from (jkp 25 eσ21 (of_decide_eq_true rfl))))
    have z27 : (σ21 55 26).toInt = (σ 55 26).toInt := (congrArg Int32.toInt (show σ21 55 26 = (σ 55 26) from (jkp 26 eσ21 (of_decide_eq_true rfl))))
    have z28 : (σ21 55 27).toInt = (σ 55 27).toInt := (congrArg Int32.toInt (show σ21 55 27 = (σ 55 27) from (jkp 27 eσ21 (of_decide_eq_true rfl))))
    exact by exact hret 0 σ21 τ _ _ _ _ rfl ⟨rfl, (fun i hi => (jnp i eσ21 (imp_206 i hi))), (fun i hi => (jkp i eσ21 (imp_207 i hi))), p22, p23, p24, (fun pr mm => by rw [pr.fin (by omega) k19]; exact ⟨⟨by show (σ21 55 37).toInt = if (-1 : Int) < 0 then -2 else -1; rw [if_pos (of_decide_eq_true rfl)]; omega, by decide⟩, (jrEq.m (σ := σ) (σ' := σ21) ⟨⟨(jnp 56 eσ21 (of_decide_eq_true rfl)), (jnp 60 eσ21 (of_decide_eq_true rfl)), (jnp 61 eσ21 (of_decide_eq_true rfl)), (jnp 62 eσ21 (of_decide_eq_true rfl)), (jnp 64 eσ21 (of_decide_eq_true rfl)), (jnp 65 eσ21 (of_decide_eq_true rfl))⟩, (jkp 6 eσ21 (of_decide_eq_true rfl)), (jkp 9 eσ21 (of_decide_eq_true rfl)), (jkp 10 eσ21 (of_decide_eq_true rfl)), (jkp 12 eσ21 (of_decide_eq_true rfl)), (jkp 13 eσ21 (of_decide_eq_true rfl)), (jkp 30 eσ21 (of_decide_eq_true rfl)), (jkp 31 eσ21 (of_decide_eq_true rfl)), (jkp 42 eσ21 (of_decide_eq_true rfl))⟩ (jnp 78 eσ21 (of_decide_eq_true rfl)) (jnp 74 eσ21 (of_decide_eq_true rfl)) (jnp 75 eσ21 (of_decide_eq_true rfl)) (jnp 76 eσ21 (of_decide_eq_true rfl)) (jnp 77 eσ21 (of_decide_eq_true rfl)) mm)⟩), (by omega), ⟨trivial, (by have h9 := jz_0; omega)⟩⟩ hP hS dX12_bestFrom_14
  · obtain ⟨q32, k29, k30, k31⟩ := h18
    have q32 := q32.symm
    subst q32
    obtain ⟨B33, k34, k35, w36⟩ := k31
    refine lv_if_eq (tgt := 15) hx hb dX12_bestFrom_4 (of_decide_eq_true rfl) (fun _ => ?_) (fun c => absurd (of_decide_eq_true rfl) c)
    refine lv_aload_n hx hb dX12_bestFrom_15 rfl (lv_at hl 0 rfl) ?_
    refine jcallV (As := []) (rest := []) ⟨hx, hb, hml, hown, hts⟩ hK hP hA hS hZ (c_X12_stateNumber l D cI cL ad zz hJ σ τ hI102 hI120) cw_RX12_311 (jc_55 cI cL ad σ τ) rfl ⟨by dsimp only; omega, by dsimp only; omega⟩ rfl rfl rfl hl.1 rfl (Nat.le_of_ble_eq_true rfl) dX12_bestFrom_16 ⟨Nat.zero_le _, Nat.zero_le _⟩ (fun r38 σ37 τ37 H locs h37 hP hS => ?_)
    obtain ⟨⟨rfl, rfl⟩, w39, h37⟩ := h37
    refine lv_istore_n (lv' := [(1, .int r38), (0, .ref (ad 55))]) hx hb dX12_bestFrom_19 rfl hl (of_decide_eq_true rfl) rfl (fun ls hl => ?_)
    refine lv_bipush (v := 16) hx hb dX12_bestFrom_20 (of_decide_eq_true rfl) ?_
    refine lv_aload_n hx hb dX12_bestFrom_22 rfl (lv_at hl 1 rfl) ?_
    refine va_get (D := D) hx hb hts inlX12 hown hK hP 55 (jc_55 cI cL ad σ τ) rfl 26 (of_decide_eq_true rfl) (hts _ kw_23_5) (fun _ h9 => h9) rfl dX12_bestFrom_23 ?_
    have g40 := jrg (rfl : (σ 55 26).toInt = (σ 55 26).toInt)
    refine lv_imul hx hb dX12_bestFrom_26 ?_
    refine lv_topi (fun x41 ex41 => ?_)
    exact by
     have tx41 : x41.toInt = 16 * (σ 55 26).toInt := (jmul ex41 jz_16 rfl (by omega) (by omega)).trans (by omega)
     refine lv_aload_n hx hb dX12_bestFrom_27 rfl (lv_at hl 1 rfl) ?_
     refine va_get (D := D) hx hb hts inlX12 hown hK hP 55 (jc_55 cI cL ad σ τ) rfl 25 (of_decide_eq_true rfl) (hts _ kw_23_6) (fun _ h9 => h9) rfl dX12_bestFrom_28 ?_
     have g42 := jrg (rfl : (σ 55 25).toInt = (σ 55 25).toInt)
     refine lv_iadd hx hb dX12_bestFrom_31 ?_
     refine lv_topi (fun x43 ex43 => ?_)
     have tx43 : x43.toInt = 16 * (σ 55 26).toInt + (σ 55 25).toInt := (jadd ex43 tx41 rfl (by omega) (by omega)).trans (by omega)
     refine lv_istore_n (lv' := [(2, .int x43), (1, .int r38), (0, .ref (ad 55))]) hx hb dX12_bestFrom_32 rfl hl (of_decide_eq_true rfl) rfl (fun ls hl => ?_)
     refine lv_aload_n hx hb dX12_bestFrom_33 rfl (lv_at hl 2 rfl) ?_
     exact by
      refine lv_iload_n hx hb dX12_bestFrom_34 rfl (lv_at hl 1 rfl) ?_
      refine lv_iload_n hx hb dX12_bestFrom_35 rfl (lv_at hl 0 rfl) ?_
      refine jcallV (As := [.int r38, .int x43]) (rest := []) ⟨hx, hb, hml, hown, hts⟩ hK hP hA hS hZ (c_X12_spot l D cI cL ad zz hJ σ τ r38 (r38.toInt) rfl x43 (16 * (σ 55 26).toInt + (σ 55 25).toInt) tx43) cw_RX12_314 (jc_55 cI cL ad σ τ) rfl ⟨by dsimp only; omega, by dsimp only; omega⟩ rfl rfl rfl hl.1 rfl (Nat.le_of_ble_eq_true rfl) dX12_bestFrom_36 ⟨Nat.zero_le _, Nat.zero_le _⟩ (fun r45 σ44 τ44 H locs h44 hP hS => ?_)
      obtain ⟨⟨rfl, rfl⟩, h44⟩ := h44
      rcases h44 with h46 | h47
      · obtain ⟨q50, k48, k49⟩ := h46
        have k51 : (σ 78 r45.toNatClampNeg).toInt ≠ (σ 55 42).toInt ∨ (σ 75 r45.toNatClampNeg).toInt = 16 * (σ 55 26).toInt + (σ 55 25).toInt := k49.imp (fun q => jne q rfl rfl) (fun q => jeq q.2 rfl tx43)
        refine lv_istore_n (lv' := [(3, .int r45), (2, .int x43), (1, .int r38), (0, .ref (ad 55))]) hx hb dX12_bestFrom_39 rfl hl (of_decide_eq_true rfl) rfl (fun ls hl => ?_)
        refine lv_iload_n hx hb dX12_bestFrom_40 rfl (lv_at hl 0 rfl) ?_
        exact by
         refine lv_if_lt (tgt := 74) hx hb dX12_bestFrom_41 (of_decide_eq_true rfl) (fun c => absurd (jlt c rfl jz_0) (by omega)) (fun c52 => ?_)
         have kc52 := jnlt c52 rfl jz_0
         refine lv_aload_n hx hb dX12_bestFrom_44 rfl (lv_at hl 3 rfl) ?_
         refine va_get (D := D) hx hb hts inlX12 hown hK hP 55 (jc_55 cI cL ad σ τ) rfl 43 (of_decide_eq_true rfl) (hts _ kw_8_3) (fun _ h9 => h9) rfl dX12_bestFrom_45 ?_
         refine lv_iload_n hx hb dX12_bestFrom_48 rfl (lv_at hl 0 rfl) ?_
         refine jald hx hb hK hP (jc_78 cI cL ad σ τ) (jin rfl (by omega) (by omega)) dX12_bestFrom_49 ?_
         refine jtopr (y := (σ 78 r45.toNatClampNeg)) rfl ?_
         refine lv_aload_n hx hb dX12_bestFrom_50 rfl (lv_at hl 3 rfl) ?_
         refine va_get (D := D) hx hb hts inlX12 hown hK hP 55 (jc_55 cI cL ad σ τ) rfl 42 (of_decide_eq_true rfl) (hts _ kw_33_10) (fun _ h9 => h9) rfl dX12_bestFrom_51 ?_
         exact by
          refine lv_icmp_ne (tgt := 74) hx hb dX12_bestFrom_54 (of_decide_eq_true rfl) (fun c53 => ?_) (fun c53 => ?_)
          · have kc53 := jne c53 rfl rfl
            refine lv_iconst (v := (-1)) hx hb dX12_bestFrom_74 (of_decide_eq_true rfl) ?_
            refine lv_istore (lv' := [(4, .int (-1)), (3, .int r45), (2, .int x43), (1, .int r38), (0, .ref (ad 55))]) hx hb dX12_bestFrom_75 hl (of_decide_eq_true rfl) rfl (fun ls hl => ?_)
            refine lv_ldcw (v := 2000000000) hx hb hown (hts _ kw_34_4) dX12_bestFrom_77 ?_
            refine lv_istore (lv' := [(5, .int 2000000000), (4, .int (-1)), (3, .int r45), (2, .int x43), (1, .int r38), (0, .ref (ad 55))]) hx hb dX12_bestFrom_80 hl (of_decide_eq_true rfl) rfl (fun ls hl => ?_)
            refine lv_iconst (v := 0) hx hb dX12_bestFrom_82 (of_decide_eq_true rfl) ?_
            refine lv_istore (lv' := [(6, .int 0), (5, .int 2000000000), (4, .int (-1)), (3, .int r45), (2, .int x43), (1, .int r38), (0, .ref (ad 55))]) hx hb dX12_bestFrom_83 hl (of_decide_eq_true rfl) rfl (fun ls hl => ?_)
            have lp54 : ∀ (n55 : Nat) (x56 : Int32) (x57 : Int32) (x58 : Int32) (σ60 : Nat → Nat → Int32) (H : Heap) (locs : List Loc) (ls : Array Slot), (-x58.toInt + 4 : Int) < n55 → (-1) ≤ x56.toInt → x56.toInt ≤ 3 → 0 ≤ x58.toInt → x58.toInt ≤ 4 → ((0 ≤ x56.toInt ∧ 0 ≤ x57.toInt ∧ x57.toInt ≤ -(1023000 * (σ60 55 26).toInt) + 12276000) ∨ (x56.toInt = (-1) ∧ x57.toInt = 2000000000 ∧ x58.toInt ≤ B33.toInt)) → x58.toInt ≤ (σ60 55 6).toInt → (∀ i : Nat, (i < 55 ∨ 55 < i) ∧ (i < 66 ∨ 66 < i) ∧ (i < 74 ∨ 78 < i) → σ60 i = σ i) → (∀ k : Nat, (k < 18 ∨ 18 < k) ∧ (k < 19 ∨ 19 < k) ∧ (k < 20 ∨ 20 < k) ∧ (k < 21 ∨ 21 < k) ∧ (k < 22 ∨ 22 < k) ∧ (k < 37 ∨ 37 < k) → σ60 55 k = σ 55 k) → jKept σ60 → jqSt σ60 → ((jrP σ → jrM σ → jrB σ (x58 : Int32).toInt (x56 : Int32).toInt (x57 : Int32).toInt ∧ jrM σ60)) → jH D cI cL ad σ60 τ H → va_S (jA ad) s.heap H locs → lv_has ls 8 [(6, .int x58), (5, .int x57), (4, .int x56), (3, .int r45), (2, .int x43), (1, .int r38), (0, .ref (ad 55))] → W p l e ({ frames := (70 + 4 * (n)), cells := 0, slots := 0, locals := (3114 + 240 * (n)) }) s m args below meth c H locs 0 0 Q (F0 m 85 ls []) := by
              intro n55
              induction n55 with
              | zero => intro x56 x57 x58 σ60 H locs ls h62 h63 h64 h65 h66 h67 h68; have gx57 := jrg (rfl : x57.toInt = x57.toInt); exact absurd h62 (by omega)
              | succ n55 ihlp54 =>
                intro x56 x57 x58 σ60 H locs ls h62 h63 h64 h65 h66 h67 h68 f69 f70 p71 p72 q73 hP hS hl
                exact by
                 have gx57 := jrg (rfl : x57.toInt = x57.toInt)
                 have z74 : (σ60 55 26).toInt = (σ 55 26).toInt := (congrArg Int32.toInt (show σ60 55 26 = (σ 55 26) from (f70 26 (of_decide_eq_true rfl))))
                 have z75 : (σ60 55 6).toInt = (σ 55 6).toInt := (congrArg Int32.toInt (show σ60 55 6 = (σ 55 6) from (f70 6 (of_decide_eq_true rfl))))
                 refine lv_iload hx hb dX12_bestFrom_85 (lv_at hl 0 rfl) ?_
                 refine lv_aload_n hx hb dX12_bestFrom_87 rfl (lv_at hl 6 rfl) ?_
                 refine va_get (D := D) hx hb hts inlX12 hown hK hP 55 (jc_55 cI cL ad σ60 τ) rfl 6 (of_decide_eq_true rfl) (hts _ kw_9_13) (fun _ h9 => h9) rfl dX12_bestFrom_88 ?_
                 have m76 : σ60 55 6 = (σ 55 6) := (f70 6 (of_decide_eq_true rfl))
                 refine jtopr m76 ?_
                 refine lv_icmp_ge (tgt := 135) hx hb dX12_bestFrom_91 (of_decide_eq_true rfl) (fun c77 => ?_) (fun c77 => ?_)
                 · have kc77 := jle c77 rfl rfl
                   refine lv_aload_n hx hb dX12_bestFrom_135 rfl (lv_at hl 6 rfl) ?_
                   refine lv_iload_n hx hb dX12_bestFrom_136 rfl (lv_at hl 5 rfl) ?_
                   refine lv_iload_n hx hb dX12_bestFrom_137 rfl (lv_at hl 4 rfl) ?_
                   refine jcallV (As := [.int r38, .int x43]) (rest := []) ⟨hx, hb, hml, hown, hts⟩ hK hP hA hS hZ (c_X12_spot l D cI cL ad zz hJ σ60 τ r38 (r38.toInt) rfl x43 (16 * (σ 55 26).toInt + (σ 55 25).toInt) tx43) cw_RX12_314 (jc_55 cI cL ad σ60 τ) rfl ⟨by dsimp only; omega, by dsimp only; omega⟩ rfl rfl rfl hl.1 rfl (Nat.le_of_ble_eq_true rfl) dX12_bestFrom_138 ⟨Nat.zero_le _, Nat.zero_le _⟩ (fun r79 σ78 τ78 H locs h78 hP hS => ?_)
                   obtain ⟨⟨rfl, rfl⟩, h78⟩ := h78
                   rcases h78 with h80 | h81
                   · obtain ⟨q84, k82, k83⟩ := h80
                     have z86 : (σ60 55 42).toInt = (σ 55 42).toInt := (congrArg Int32.toInt (show σ60 55 42 = (σ 55 42) from (f70 42 (of_decide_eq_true rfl))))
                     have k85 : (σ60 78 r79.toNatClampNeg).toInt ≠ (σ60 55 42).toInt ∨ (σ60 75 r79.toNatClampNeg).toInt = 16 * (σ 55 26).toInt + (σ 55 25).toInt := k83.imp (fun q => jne q rfl rfl) (fun q => jeq q.2 rfl tx43)
                     refine lv_istore_n (lv' := [(3, .int r79), (6, .int x58), (5, .int x57), (4, .int x56), (2, .int x43), (1, .int r38), (0, .ref (ad 55))]) hx hb dX12_bestFrom_141 rfl hl (of_decide_eq_true rfl) rfl (fun ls hl => ?_)
                     refine lv_iload_n hx hb dX12_bestFrom_142 rfl (lv_at hl 0 rfl) ?_
                     exact by
                      refine lv_if_lt (tgt := 186) hx hb dX12_bestFrom_143 (of_decide_eq_true rfl) (fun c => absurd (jlt c rfl jz_0) (by omega)) (fun c87 => ?_)
                      have kc87 := jnlt c87 rfl jz_0
                      refine lv_aload_n hx hb dX12_bestFrom_146 rfl (lv_at hl 6 rfl) ?_
                      refine va_get (D := D) hx hb hts inlX12 hown hK hP 55 (jc_55 cI cL ad σ60 τ) rfl 43 (of_decide_eq_true rfl) (hts _ kw_8_3) (fun _ h9 => h9) rfl dX12_bestFrom_147 ?_
                      refine lv_iload_n hx hb dX12_bestFrom_150 rfl (lv_at hl 0 rfl) ?_
                      refine lv_aload_n hx hb dX12_bestFrom_151 rfl (lv_at hl 6 rfl) ?_
                      refine va_get (D := D) hx hb hts inlX12 hown hK hP 55 (jc_55 cI cL ad σ60 τ) rfl 42 (of_decide_eq_true rfl) (hts _ kw_33_10) (fun _ h9 => h9) rfl dX12_bestFrom_152 ?_
                      have m88 : σ60 55 42 = (σ 55 42) := (f70 42 (of_decide_eq_true rfl))
                      refine jtopr m88 ?_
                      exact by
                       refine jast hx hb hK hP hJ hA hS (jc_78 cI cL ad σ60 τ) (ja_78 cI cL ad σ60 τ _ _) (jin rfl (by omega) (by omega)) dX12_bestFrom_155 (fun σ89 H locs eσ89 hP hS => ?_)
                       have p90 : jqSt σ89 := (jqSt.put p72 eσ89 (show (σ 55 42) = σ60 55 42 from (m88).symm))
                       refine lv_aload_n hx hb dX12_bestFrom_156 rfl (lv_at hl 6 rfl) ?_
                       refine va_get (D := D) hx hb hts inlX12 hown hK hP 55 (jc_55 cI cL ad σ89 τ) rfl 38 (of_decide_eq_true rfl) (hts _ kw_7_23) (fun _ h9 => h9) rfl dX12_bestFrom_157 ?_
                       refine lv_iload_n hx hb dX12_bestFrom_160 rfl (lv_at hl 0 rfl) ?_
                       refine lv_iload_n hx hb dX12_bestFrom_161 rfl (lv_at hl 5 rfl) ?_
                       refine jast hx hb hK hP hJ hA hS (jc_74 cI cL ad σ89 τ) (ja_74 cI cL ad σ89 τ _ _) (jin rfl (by omega) (by omega)) dX12_bestFrom_162 (fun σ91 H locs eσ91 hP hS => ?_)
                       refine lv_aload_n hx hb dX12_bestFrom_163 rfl (lv_at hl 6 rfl) ?_
                       refine va_get (D := D) hx hb hts inlX12 hown hK hP 55 (jc_55 cI cL ad σ91 τ) rfl 39 (of_decide_eq_true rfl) (hts _ kw_8_0) (fun _ h9 => h9) rfl dX12_bestFrom_164 ?_
                       exact by
                        refine lv_iload_n hx hb dX12_bestFrom_167 rfl (lv_at hl 0 rfl) ?_
                        refine lv_iload_n hx hb dX12_bestFrom_168 rfl (lv_at hl 4 rfl) ?_
                        refine jast hx hb hK hP hJ hA hS (jc_75 cI cL ad σ91 τ) (ja_75 cI cL ad σ91 τ _ _) (jin rfl (by omega) (by omega)) dX12_bestFrom_169 (fun σ92 H locs eσ92 hP hS => ?_)
                        refine lv_aload_n hx hb dX12_bestFrom_170 rfl (lv_at hl 6 rfl) ?_
                        refine va_get (D := D) hx hb hts inlX12 hown hK hP 55 (jc_55 cI cL ad σ92 τ) rfl 40 (of_decide_eq_true rfl) (hts _ kw_8_1) (fun _ h9 => h9) rfl dX12_bestFrom_171 ?_
                        refine lv_iload_n hx hb dX12_bestFrom_174 rfl (lv_at hl 0 rfl) ?_
                        refine lv_iload hx hb dX12_bestFrom_175 (lv_at hl 2 rfl) ?_
                        refine jast hx hb hK hP hJ hA hS (jc_76 cI cL ad σ92 τ) (ja_76 cI cL ad σ92 τ _ _) (jin rfl (by omega) (by omega)) dX12_bestFrom_177 (fun σ93 H locs eσ93 hP hS => ?_)
                        refine lv_aload_n hx hb dX12_bestFrom_178 rfl (lv_at hl 6 rfl) ?_
                        exact by
                         refine va_get (D := D) hx hb hts inlX12 hown hK hP 55 (jc_55 cI cL ad σ93 τ) rfl 41 (of_decide_eq_true rfl) (hts _ kw_8_2) (fun _ h9 => h9) rfl dX12_bestFrom_179 ?_
                         refine lv_iload_n hx hb dX12_bestFrom_182 rfl (lv_at hl 0 rfl) ?_
                         refine lv_iload hx hb dX12_bestFrom_183 (lv_at hl 3 rfl) ?_
                         refine jast hx hb hK hP hJ hA hS (jc_77 cI cL ad σ93 τ) (ja_77 cI cL ad σ93 τ _ _) (jin rfl (by omega) (by omega)) dX12_bestFrom_185 (fun σ94 H locs eσ94 hP hS => ?_)
                         have e95 : σ94 75 = jupd (σ60 75) r79.toNatClampNeg x43 := by rw [eσ94, jup_n (of_decide_eq_true rfl), eσ93, jup_n (of_decide_eq_true rfl), eσ92, jup_row, eσ91, jup_n (of_decide_eq_true rfl), eσ89, jup_n (of_decide_eq_true rfl)]
                         have e96 : σ94 76 = jupd (σ60 76) r79.toNatClampNeg x57 := by rw [eσ94, jup_n (of_decide_eq_true rfl), eσ93, jup_row, eσ92, jup_n (of_decide_eq_true rfl), eσ91, jup_n (of_decide_eq_true rfl), eσ89, jup_n (of_decide_eq_true rfl)]
                         have e97 : σ94 77 = jupd (σ60 77) r79.toNatClampNeg x56 := by rw [eσ94, jup_row, eσ93, jup_n (of_decide_eq_true rfl), eσ92, jup_n (of_decide_eq_true rfl), eσ91, jup_n (of_decide_eq_true rfl), eσ89, jup_n (of_decide_eq_true rfl)]
                         have z98 : (σ94 55 26).toInt = (σ 55 26).toInt := (congrArg Int32.toInt (show σ94 55 26 = (σ 55 26) from ((congrFun (jnp 55 eσ94 (of_decide_eq_true rfl)) 26).trans ((congrFun (jnp 55 eσ93 (of_decide_eq_true rfl)) 26).trans ((congrFun (jnp 55 eσ92 (of_decide_eq_true rfl)) 26).trans ((congrFun (jnp 55 eσ91 (of_decide_eq_true rfl)) 26).trans ((congrFun (jnp 55 eσ89 (of_decide_eq_true rfl)) 26).trans (f70 26 (of_decide_eq_true rfl)))))))))
                         have p99 : jKept σ94 := p71.on e95 e96 e97 (by have h91 := tx43; omega) (by have h91 := tx43; omega) (by have h91 := tx43; omega) (by have h91 := tx43; omega)
                         exact by
                          refine lv_aload_n hx hb dX12_bestFrom_186 rfl (lv_at hl 6 rfl) ?_
                          refine lv_iload hx hb dX12_bestFrom_187 (lv_at hl 3 rfl) ?_
                          refine jput (ty := .int) hx hb hts inlX12 tyX12 tyX12_ok nmX12 hown hK hP hJ hA hS (jc_55 cI cL ad σ94 τ) rfl (k := 37) (of_decide_eq_true rfl) (Nat.le_of_ble_eq_true rfl) (jp_55_37 cI cL ad σ94 τ x56) (hts _ kw_33_15) (fun _ h9 => h9) rfl (by decide +kernel) rfl rfl dX12_bestFrom_189 (fun σ100 H locs eσ100 hP hS => ?_)
                          refine lv_iload hx hb dX12_bestFrom_192 (lv_at hl 2 rfl) ?_
                          have p101 : jKept σ100 := jKept.fr (jnp 75 eσ100 (of_decide_eq_true rfl)) (jnp 76 eσ100 (of_decide_eq_true rfl)) (jnp 77 eσ100 (of_decide_eq_true rfl)) p99
                          have p102 : jTR σ100 := jTR.fr ((jnp 64 eσ100 (of_decide_eq_true rfl)).trans ((jnp 64 eσ94 (of_decide_eq_true rfl)).trans ((jnp 64 eσ93 (of_decide_eq_true rfl)).trans ((jnp 64 eσ92 (of_decide_eq_true rfl)).trans ((jnp 64 eσ91 (of_decide_eq_true rfl)).trans ((jnp 64 eσ89 (of_decide_eq_true rfl)).trans (f69 64 (of_decide_eq_true rfl)))))))) ((jnp 65 eσ100 (of_decide_eq_true rfl)).trans ((jnp 65 eσ94 (of_decide_eq_true rfl)).trans ((jnp 65 eσ93 (of_decide_eq_true rfl)).trans ((jnp 65 eσ92 (of_decide_eq_true rfl)).trans ((jnp 65 eσ91 (of_decide_eq_true rfl)).trans ((jnp 65 eσ89 (of_decide_eq_true rfl)).trans (f69 65 (of_decide_eq_true rfl)))))))) hs_jTR
                          have p103 : jqSt σ100 := jqSt.fr ((jnp 78 eσ100 (of_decide_eq_true rfl)).trans ((jnp 78 eσ94 (of_decide_eq_true rfl)).trans ((jnp 78 eσ93 (of_decide_eq_true rfl)).trans ((jnp 78 eσ92 (of_decide_eq_true rfl)).trans (jnp 78 eσ91 (of_decide_eq_true rfl)))))) ((jkp 42 eσ100 (of_decide_eq_true rfl)).trans ((congrFun (jnp 55 eσ94 (of_decide_eq_true rfl)) 42).trans ((congrFun (jnp 55 eσ93 (of_decide_eq_true rfl)) 42).trans ((congrFun (jnp 55 eσ92 (of_decide_eq_true rfl)) 42).trans (congrFun (jnp 55 eσ91 (of_decide_eq_true rfl)) 42))))) p90
                          have z104 : (σ100 55 37).toInt = x56.toInt := (congrArg Int32.toInt (show σ100 55 37 = x56 from (jsp eσ100)))
                          have z105 : (σ100 55 25).toInt = (σ 55 25).toInt := (congrArg Int32.toInt (show σ100 55 25 = (σ 55 25) from ((jkp 25 eσ100 (of_decide_eq_true rfl)).trans ((congrFun (jnp 55 eσ94 (of_decide_eq_true rfl)) 25).trans ((congrFun (jnp 55 eσ93 (of_decide_eq_true rfl)) 25).trans ((congrFun (jnp 55 eσ92 (of_decide_eq_true rfl)) 25).trans ((congrFun (jnp 55 eσ91 (of_decide_eq_true rfl)) 25).trans ((congrFun (jnp 55 eσ89 (of_decide_eq_true rfl)) 25).trans (f70 25 (of_decide_eq_true rfl))))))))))
                          have z106 : (σ100 55 26).toInt = (σ 55 26).toInt := (congrArg Int32.toInt (show σ100 55 26 = (σ 55 26) from ((jkp 26 eσ100 (of_decide_eq_true rfl)).trans ((congrFun (jnp 55 eσ94 (of_decide_eq_true rfl)) 26).trans ((congrFun (jnp 55 eσ93 (of_decide_eq_true rfl)) 26).trans ((congrFun (jnp 55 eσ92 (of_decide_eq_true rfl)) 26).trans ((congrFun (jnp 55 eσ91 (of_decide_eq_true rfl)) 26).trans ((congrFun (jnp 55 eσ89 (of_decide_eq_true rfl)) 26).trans (f70 26 (of_decide_eq_true rfl))))))))))
                          have z107 : (σ100 55 27).toInt = (σ 55 27).toInt := (congrArg Int32.toInt (show σ100 55 27 = (σ 55 27) from ((jkp 27 eσ100 (of_decide_eq_true rfl)).trans ((congrFun (jnp 55 eσ94 (of_decide_eq_true rfl)) 27).trans ((congrFun (jnp 55 eσ93 (of_decide_eq_true rfl)) 27).trans ((congrFun (jnp 55 eσ92 (of_decide_eq_true rfl)) 27).trans ((congrFun (jnp 55 eσ91 (of_decide_eq_true rfl)) 27).trans ((congrFun (jnp 55 eσ89 (of_decide_eq_true rfl)) 27).trans (f70 27 (of_decide_eq_true rfl))))))))))
                          exact by
                           have k108 : jrP σ → jrM σ → ((x56 : Int32).toInt, (x57 : Int32).toInt) = jrV σ := fun pr mm => (q73 pr mm).1.fin (by omega) (by omega) (by omega) (by omega) (by omega) (by omega)
                           exact by exact hret x57 σ100 τ _ _ _ _ rfl ⟨rfl, (fun i hi => ((jnp i eσ100 (imp_206 i hi)).trans ((jnp i eσ94 (imp_208 i hi)).trans ((jnp i eσ93 (imp_209 i hi)).trans ((jnp i eσ92 (imp_210 i hi)).trans ((jnp i eσ91 (imp_211 i hi)).trans ((jnp i eσ89 (imp_212 i hi)).trans (f69 i hi)))))))), (fun i hi => ((jkp i eσ100 (imp_207 i hi)).trans ((congrFun (jnp 55 eσ94 (of_decide_eq_true rfl)) i).trans ((congrFun (jnp 55 eσ93 (of_decide_eq_true rfl)) i).trans ((congrFun (jnp 55 eσ92 (of_decide_eq_true rfl)) i).trans ((congrFun (jnp 55 eσ91 (of_decide_eq_true rfl)) i).trans ((congrFun (jnp 55 eσ89 (of_decide_eq_true rfl)) i).trans (f70 i hi)))))))), p101, p102, p103, (fun pr mm => ⟨by rw [← k108 pr mm]; exact ⟨by show (σ100 55 37).toInt = if (x56 : Int32).toInt < 0 then -2 else (x56 : Int32).toInt; rw [if_neg (by omega)]; omega, rfl⟩, jrM.store (σ := σ) (σ1 := σ60) (k := r79.toNatClampNeg) (t := (σ 55 42)) (a := r38) (o := x43) (v := x57) (x := x56) ⟨⟨((jnp 56 eσ100 (of_decide_eq_true rfl)).trans ((jnp 56 eσ94 (of_decide_eq_true rfl)).trans ((jnp 56 eσ93 (of_decide_eq_true rfl)).trans ((jnp 56 eσ92 (of_decide_eq_true rfl)).trans ((jnp 56 eσ91 (of_decide_eq_true rfl)).trans ((jnp 56 eσ89 (of_decide_eq_true rfl)).trans (f69 56 (of_decide_eq_true rfl)))))))), ((jnp 60 eσ100 (of_decide_eq_true rfl)).trans ((jnp 60 eσ94 (of_decide_eq_true rfl)).trans ((jnp 60 eσ93 (of_decide_eq_true rfl)).trans ((jnp 60 eσ92 (of_decide_eq_true rfl)).trans ((jnp 60 eσ91 (of_decide_eq_true rfl)).trans ((jnp 60 eσ89 (of_decide_eq_true rfl)).trans (f69 60 (of_decide_eq_true rfl)))))))), ((jnp 61 eσ100 (of_decide_eq_true rfl)).trans ((jnp 61 eσ94 (of_decide_eq_true rfl)).trans ((jnp 61 eσ93 (of_decide_eq_true rfl)).trans ((jnp 61 eσ92 (of_decide_eq_true rfl)).trans ((jnp 61 eσ91 (of_decide_eq_true rfl)).trans ((jnp 61 eσ89 (of_decide_eq_true rfl)).trans (f69 61 (of_decide_eq_true rfl)))))))), ((jnp 62 eσ100 (of_decide_eq_true rfl)).trans ((jnp 62 eσ94 (of_decide_eq_true rfl)).trans ((jnp 62 eσ93 (of_decide_eq_true rfl)).trans ((jnp 62 eσ92 (of_decide_eq_true rfl)).trans ((jnp 62 eσ91 (of_decide_eq_true rfl)).trans ((jnp 62 eσ89 (of_decide_eq_true rfl)).trans (f69 62 (of_decide_eq_true rfl)))))))), ((jnp 64 eσ100 (of_decide_eq_true rfl)).trans ((jnp 64 eσ94 (of_decide_eq_true rfl)).trans ((jnp 64 eσ93 (of_decide_eq_true rfl)).trans ((jnp 64 eσ92 (of_decide_eq_true rfl)).trans ((jnp 64 eσ91 (of_decide_eq_true rfl)).trans ((jnp 64 eσ89 (of_decide_eq_true rfl)).trans (f69 64 (of_decide_eq_true rfl)))))))), ((jnp 65 eσ100 (of_decide_eq_true rfl)).trans ((jnp 65 eσ94 (of_decide_eq_true rfl)).trans ((jnp 65 eσ93 (of_decide_eq_true rfl)).trans ((jnp 65 eσ92 (of_decide_eq_true rfl)).trans ((jnp 65 eσ91 (of_decide_eq_true rfl)).trans ((jnp 65 eσ89 (of_decide_eq_true rfl)).trans (f69 65 (of_decide_eq_true rfl))))))))⟩, ((jkp 6 eσ100 (of_decide_eq_true rfl)).trans ((congrFun (jnp 55 eσ94 (of_decide_eq_true rfl)) 6).trans ((congrFun (jnp 55 eσ93 (of_decide_eq_true rfl)) 6).trans ((congrFun (jnp 55 eσ92 (of_decide_eq_true rfl)) 6).trans ((congrFun (jnp 55 eσ91 (of_decide_eq_true rfl)) 6).trans ((congrFun (jnp 55 eσ89 (of_decide_eq_true rfl)) 6).trans (f70 6 (of_decide_eq_true rfl)))))))), ((jkp 9 eσ100 (of_decide_eq_true rfl)).trans ((congrFun (jnp 55 eσ94 (of_decide_eq_true rfl)) 9).trans ((congrFun (jnp 55 eσ93 (of_decide_eq_true rfl)) 9).trans ((congrFun (jnp 55 eσ92 (of_decide_eq_true rfl)) 9).trans ((congrFun (jnp 55 eσ91 (of_decide_eq_true rfl)) 9).trans ((congrFun (jnp 55 eσ89 (of_decide_eq_true rfl)) 9).trans (f70 9 (of_decide_eq_true rfl)))))))), ((jkp 10 eσ100 (of_decide_eq_true rfl)).trans ((congrFun (jnp 55 eσ94 (of_decide_eq_true rfl)) 10).trans ((congrFun (jnp 55 eσ93 (of_decide_eq_true rfl)) 10).trans ((congrFun (jnp 55 eσ92 (of_decide_eq_true rfl)) 10).trans ((congrFun (jnp 55 eσ91 (of_decide_eq_true rfl)) 10).trans ((congrFun (jnp 55 eσ89 (of_decide_eq_true rfl)) 10).trans (f70 10 (of_decide_eq_true rfl)))))))), ((jkp 12 eσ100 (of_decide_eq_true rfl)).trans ((congrFun (jnp 55 eσ94 (of_decide_eq_true rfl)) 12).trans ((congrFun (jnp 55 eσ93 (of_decide_eq_true rfl)) 12).trans ((congrFun (jnp 55 eσ92 (of_decide_eq_true rfl)) 12).trans ((congrFun (jnp 55 eσ91 (of_decide_eq_true rfl)) 12).trans ((congrFun (jnp 55 eσ89 (of_decide_eq_true rfl)) 12).trans (f70 12 (of_decide_eq_true rfl)))))))), ((jkp 13 eσ100 (of_decide_eq_true rfl)).trans ((congrFun (jnp 55 eσ94 (of_decide_eq_true rfl)) 13).trans ((congrFun (jnp 55 eσ93 (of_decide_eq_true rfl)) 13).trans ((congrFun (jnp 55 eσ92 (of_decide_eq_true rfl)) 13).trans ((congrFun (jnp 55 eσ91 (of_decide_eq_true rfl)) 13).trans ((congrFun (jnp 55 eσ89 (of_decide_eq_true rfl)) 13).trans (f70 13 (of_decide_eq_true rfl)))))))), ((jkp 30 eσ100 (of_decide_eq_true rfl)).trans ((congrFun (jnp 55 eσ94 (of_decide_eq_true rfl)) 30).trans ((congrFun (jnp 55 eσ93 (of_decide_eq_true rfl)) 30).trans ((congrFun (jnp 55 eσ92 (of_decide_eq_true rfl)) 30).trans ((congrFun (jnp 55 eσ91 (of_decide_eq_true rfl)) 30).trans ((congrFun (jnp 55 eσ89 (of_decide_eq_true rfl)) 30).trans (f70 30 (of_decide_eq_true rfl)))))))), ((jkp 31 eσ100 (of_decide_eq_true rfl)).trans ((congrFun (jnp 55 eσ94 (of_decide_eq_true rfl)) 31).trans ((congrFun (jnp 55 eσ93 (of_decide_eq_true rfl)) 31).trans ((congrFun (jnp 55 eσ92 (of_decide_eq_true rfl)) 31).trans ((congrFun (jnp 55 eσ91 (of_decide_eq_true rfl)) 31).trans ((congrFun (jnp 55 eσ89 (of_decide_eq_true rfl)) 31).trans (f70 31 (of_decide_eq_true rfl)))))))), ((jkp 42 eσ100 (of_decide_eq_true rfl)).trans ((congrFun (jnp 55 eσ94 (of_decide_eq_true rfl)) 42).trans ((congrFun (jnp 55 eσ93 (of_decide_eq_true rfl)) 42).trans ((congrFun (jnp 55 eσ92 (of_decide_eq_true rfl)) 42).trans ((congrFun (jnp 55 eσ91 (of_decide_eq_true rfl)) 42).trans ((congrFun (jnp 55 eσ89 (of_decide_eq_true rfl)) 42).trans (f70 42 (of_decide_eq_true rfl))))))))⟩ pr (q73 pr mm).2 ⟨⟨(f69 56 (of_decide_eq_true rfl)), (f69 60 (of_decide_eq_true rfl)), (f69 61 (of_decide_eq_true rfl)), (f69 62 (of_decide_eq_true rfl)), (f69 64 (of_decide_eq_true rfl)), (f69 65 (of_decide_eq_true rfl))⟩, (f70 6 (of_decide_eq_true rfl)), (f70 9 (of_decide_eq_true rfl)), (f70 10 (of_decide_eq_true rfl)), (f70 12 (of_decide_eq_true rfl)), (f70 13 (of_decide_eq_true rfl)), (f70 30 (of_decide_eq_true rfl)), (f70 31 (of_decide_eq_true rfl)), (f70 42 (of_decide_eq_true rfl))⟩ (by rw [eσ100, jup_n (of_decide_eq_true rfl), eσ94, jup_n (of_decide_eq_true rfl), eσ93, jup_n (of_decide_eq_true rfl), eσ92, jup_n (of_decide_eq_true rfl), eσ91, jup_n (of_decide_eq_true rfl), eσ89, jup_row]) (by rw [eσ100, jup_n (of_decide_eq_true rfl), eσ94, jup_n (of_decide_eq_true rfl), eσ93, jup_n (of_decide_eq_true rfl), eσ92, jup_n (of_decide_eq_true rfl), eσ91, jup_row, eσ89, jup_n (of_decide_eq_true rfl)]) (by rw [eσ100, jup_n (of_decide_eq_true rfl), eσ94, jup_n (of_decide_eq_true rfl), eσ93, jup_n (of_decide_eq_true rfl), eσ92, jup_row, eσ91, jup_n (of_decide_eq_true rfl), eσ89, jup_n (of_decide_eq_true rfl)]) (by rw [eσ100, jup_n (of_decide_eq_true rfl), eσ94, jup_n (of_decide_eq_true rfl), eσ93, jup_row, eσ92, jup_n (of_decide_eq_true rfl), eσ91, jup_n (of_decide_eq_true rfl), eσ89, jup_n (of_decide_eq_true rfl)]) (by rw [eσ100, jup_n (of_decide_eq_true rfl), eσ94, jup_row, eσ93, jup_n (of_decide_eq_true rfl), eσ92, jup_n (of_decide_eq_true rfl), eσ91, jup_n (of_decide_eq_true rfl), eσ89, jup_n (of_decide_eq_true rfl)]) (w39 pr.w0) (by have h9 := tx43; omega) (k108 pr mm) (by omega) (by omega) (by omega)⟩), (by omega), ⟨trivial, (by omega)⟩⟩ hP hS dX12_bestFrom_194
                   · obtain ⟨q110, k109⟩ := h81
                     have q110 := q110.symm
                     subst q110
                     refine lv_istore_n (lv' := [(3, .int (-1)), (6, .int x58), (5, .int x57), (4, .int x56), (2, .int x43), (1, .int r38), (0, .ref (ad 55))]) hx hb dX12_bestFrom_141 rfl hl (of_decide_eq_true rfl) rfl (fun ls hl => ?_)
                     refine lv_iload_n hx hb dX12_bestFrom_142 rfl (lv_at hl 0 rfl) ?_
                     refine lv_if_lt (tgt := 186) hx hb dX12_bestFrom_143 (of_decide_eq_true rfl) (fun _ => ?_) (fun c => absurd (of_decide_eq_true rfl) c)
                     refine lv_aload_n hx hb dX12_bestFrom_186 rfl (lv_at hl 6 rfl) ?_
                     refine lv_iload hx hb dX12_bestFrom_187 (lv_at hl 3 rfl) ?_
                     refine jput (ty := .int) hx hb hts inlX12 tyX12 tyX12_ok nmX12 hown hK hP hJ hA hS (jc_55 cI cL ad σ60 τ) rfl (k := 37) (of_decide_eq_true rfl) (Nat.le_of_ble_eq_true rfl) (jp_55_37 cI cL ad σ60 τ x56) (hts _ kw_33_15) (fun _ h9 => h9) rfl (by decide +kernel) rfl rfl dX12_bestFrom_189 (fun σ111 H locs eσ111 hP hS => ?_)
                     refine lv_iload hx hb dX12_bestFrom_192 (lv_at hl 2 rfl) ?_
                     have p112 : jKept σ111 := jKept.fr (jnp 75 eσ111 (of_decide_eq_true rfl)) (jnp 76 eσ111 (of_decide_eq_true rfl)) (jnp 77 eσ111 (of_decide_eq_true rfl)) p71
                     have p113 : jTR σ111 := jTR.fr ((jnp 64 eσ111 (of_decide_eq_true rfl)).trans (f69 64 (of_decide_eq_true rfl))) ((jnp 65 eσ111 (of_decide_eq_true rfl)).trans (f69 65 (of_decide_eq_true rfl))) hs_jTR
                     have p114 : jqSt σ111 := jqSt.fr (jnp 78 eσ111 (of_decide_eq_true rfl)) (jkp 42 eσ111 (of_decide_eq_true rfl)) p72
                     have z115 : (σ111 55 37).toInt = x56.toInt := (congrArg Int32.toInt (show σ111 55 37 = x56 from (jsp eσ111)))
                     have z116 : (σ111 55 25).toInt = (σ 55 25).toInt := (congrArg Int32.toInt (show σ111 55 25 = (σ 55 25) from ((jkp 25 eσ111 (of_decide_eq_true rfl)).trans (f70 25 (of_decide_eq_true rfl)))))
                     have z117 : (σ111 55 26).toInt = (σ 55 26).toInt := (congrArg Int32.toInt (show σ111 55 26 = (σ 55 26) from ((jkp 26 eσ111 (of_decide_eq_true rfl)).trans (f70 26 (of_decide_eq_true rfl)))))
                     have z118 : (σ111 55 27).toInt = (σ 55 27).toInt := (congrArg Int32.toInt (show σ111 55 27 = (σ 55 27) from ((jkp 27 eσ111 (of_decide_eq_true rfl)).trans (f70 27 (of_decide_eq_true rfl)))))
                     exact by
                      have k119 : jrP σ → jrM σ → ((x56 : Int32).toInt, (x57 : Int32).toInt) = jrV σ := fun pr mm => (q73 pr mm).1.fin (by omega) (by omega) (by omega) (by omega) (by omega) (by omega)
                      exact by exact hret x57 σ111 τ _ _ _ _ rfl ⟨rfl, (fun i hi => ((jnp i eσ111 (imp_206 i hi)).trans (f69 i hi))), (fun i hi => ((jkp i eσ111 (imp_207 i hi)).trans (f70 i hi))), p112, p113, p114, (fun pr mm => ⟨by rw [← k119 pr mm]; exact ⟨by show (σ111 55 37).toInt = if (x56 : Int32).toInt < 0 then -2 else (x56 : Int32).toInt; rw [if_neg (by omega)]; omega, rfl⟩, (jrEq.m (σ := σ60) (σ' := σ111) ⟨⟨(jnp 56 eσ111 (of_decide_eq_true rfl)), (jnp 60 eσ111 (of_decide_eq_true rfl)), (jnp 61 eσ111 (of_decide_eq_true rfl)), (jnp 62 eσ111 (of_decide_eq_true rfl)), (jnp 64 eσ111 (of_decide_eq_true rfl)), (jnp 65 eσ111 (of_decide_eq_true rfl))⟩, (jkp 6 eσ111 (of_decide_eq_true rfl)), (jkp 9 eσ111 (of_decide_eq_true rfl)), (jkp 10 eσ111 (of_decide_eq_true rfl)), (jkp 12 eσ111 (of_decide_eq_true rfl)), (jkp 13 eσ111 (of_decide_eq_true rfl)), (jkp 30 eσ111 (of_decide_eq_true rfl)), (jkp 31 eσ111 (of_decide_eq_true rfl)), (jkp 42 eσ111 (of_decide_eq_true rfl))⟩ (jnp 78 eσ111 (of_decide_eq_true rfl)) (jnp 74 eσ111 (of_decide_eq_true rfl)) (jnp 75 eσ111 (of_decide_eq_true rfl)) (jnp 76 eσ111 (of_decide_eq_true rfl)) (jnp 77 eσ111 (of_decide_eq_true rfl)) (q73 pr mm).2)⟩), (by omega), ⟨trivial, (by omega)⟩⟩ hP hS dX12_bestFrom_194
                 · have kc77 := jnle c77 rfl rfl
                   refine lv_aload_n hx hb dX12_bestFrom_94 rfl (lv_at hl 6 rfl) ?_
                   refine lv_iload hx hb dX12_bestFrom_95 (lv_at hl 0 rfl) ?_
                   refine jcallV (As := [.int x58]) (rest := []) ⟨hx, hb, hml, hown, hts⟩ hK hP hA hS hZ (c_X12_mayBowl l D cI cL ad zz hJ σ60 τ x58 (x58.toInt) rfl (by omega)) cw_RX12_249 (jc_55 cI cL ad σ60 τ) rfl ⟨by dsimp only; omega, by dsimp only; omega⟩ rfl rfl rfl hl.1 rfl (Nat.le_of_ble_eq_true rfl) dX12_bestFrom_97 ⟨Nat.zero_le _, Nat.zero_le _⟩ (fun r121 σ120 τ120 H locs h120 hP hS => ?_)
                   obtain ⟨⟨rfl, rfl⟩, h120⟩ := h120
                   rcases h120 with h122 | h123
                   · obtain ⟨q125, k124⟩ := h122
                     exact by
                      have q125 := q125.symm
                      subst q125
                      refine lv_if_ne (tgt := 106) hx hb dX12_bestFrom_100 (of_decide_eq_true rfl) (fun _ => ?_) (fun c => absurd c (of_decide_eq_true rfl))
                      refine lv_aload_n hx hb dX12_bestFrom_106 rfl (lv_at hl 6 rfl) ?_
                      refine lv_iload hx hb dX12_bestFrom_107 (lv_at hl 0 rfl) ?_
                      have I126 : jI101 σ60 := jI101_fr (f70 4 (of_decide_eq_true rfl)) (f70 5 (of_decide_eq_true rfl)) (f69 56 (of_decide_eq_true rfl)) (f69 57 (of_decide_eq_true rfl)) (f69 58 (of_decide_eq_true rfl)) (f69 59 (of_decide_eq_true rfl)) hI101
                      have I127 : jI102 σ60 := jI102_fr (f70 6 (of_decide_eq_true rfl)) (f69 60 (of_decide_eq_true rfl)) (f69 61 (of_decide_eq_true rfl)) hI102
                      have I128 : jI103 σ60 := jI103_fr (f70 9 (of_decide_eq_true rfl)) hI103
                      have I129 : jI104 σ60 := jI104_fr (f70 10 (of_decide_eq_true rfl)) (f70 12 (of_decide_eq_true rfl)) (f70 13 (of_decide_eq_true rfl)) (f69 62 (of_decide_eq_true rfl)) (f69 67 (of_decide_eq_true rfl)) hI104
                      have I130 : jI105 σ60 := jI105_fr (f70 15 (of_decide_eq_true rfl)) (f69 65 (of_decide_eq_true rfl)) hI105
                      have I131 : jI106 σ60 := jI106_fr (f70 32 (of_decide_eq_true rfl)) (f69 70 (of_decide_eq_true rfl)) (f69 71 (of_decide_eq_true rfl)) (f69 72 (of_decide_eq_true rfl)) hI106
                      have I132 : jI120 σ60 := jI120_fr (f70 10 (of_decide_eq_true rfl)) (f70 12 (of_decide_eq_true rfl)) (f70 25 (of_decide_eq_true rfl)) (f70 26 (of_decide_eq_true rfl)) (f70 27 (of_decide_eq_true rfl)) (f69 68 (of_decide_eq_true rfl)) hI120
                      have p133 : jTR σ60 := jTR.fr (f69 64 (of_decide_eq_true rfl)) (f69 65 (of_decide_eq_true rfl)) hs_jTR
                      have z134 : (σ60 55 25).toInt = (σ 55 25).toInt := (congrArg Int32.toInt (show σ60 55 25 = (σ 55 25) from (f70 25 (of_decide_eq_true rfl))))
                      have z135 : (σ60 55 10).toInt = (σ 55 10).toInt := (congrArg Int32.toInt (show σ60 55 10 = (σ 55 10) from (f70 10 (of_decide_eq_true rfl))))
                      have z136 : (σ60 55 12).toInt = (σ 55 12).toInt := (congrArg Int32.toInt (show σ60 55 12 = (σ 55 12) from (f70 12 (of_decide_eq_true rfl))))
                      exact by
                       refine jcallV (As := [.int x58]) (rest := []) ⟨hx, hb, hml, hown, hts⟩ hK hP hA hS hZ (h_mean σ60 τ x58 (x58.toInt) rfl I126 I127 I128 I129 I130 I131 I132 p71 p133 p72 (by omega) (by omega) (by omega) (by omega)) cw_RX12_318 (jc_55 cI cL ad σ60 τ) rfl ⟨by dsimp only; omega, by dsimp only; omega⟩ rfl rfl rfl hl.1 rfl (Nat.le_of_ble_eq_true rfl) dX12_bestFrom_109 ⟨Nat.zero_le _, Nat.zero_le _⟩ (fun r138 σ137 τ137 H locs h137 hP hS => ?_)
                       obtain ⟨rfl, f139, f140, p141, p142, p143, w144, h137⟩ := h137
                       have h146 := h137
                       obtain ⟨q148, k147⟩ := h146
                       refine lv_istore (lv' := [(7, .int r138), (6, .int x58), (5, .int x57), (4, .int x56), (3, .int r45), (2, .int x43), (1, .int r38), (0, .ref (ad 55))]) hx hb dX12_bestFrom_112 hl (of_decide_eq_true rfl) rfl (fun ls hl => ?_)
                       refine lv_iload hx hb dX12_bestFrom_114 (lv_at hl 0 rfl) ?_
                       refine lv_iload hx hb dX12_bestFrom_116 (lv_at hl 2 rfl) ?_
                       refine lv_icmp_ge (tgt := 129) hx hb dX12_bestFrom_118 (of_decide_eq_true rfl) (fun c149 => ?_) (fun c149 => ?_)
                       · have kc149 := jle c149 rfl rfl
                         obtain ⟨x150, ex150⟩ : ∃ y : Int32, y = x58 + 1 := ⟨_, rfl⟩
                         exact by
                          have tx150 : x150.toInt = x58.toInt + 1 := (jadd ex150 rfl jz_1 (by omega) (by omega)).trans (by omega)
                          refine lv_iinc (v := x150) (lv' := [(6, .int x150), (7, .int r138), (5, .int x57), (4, .int x56), (3, .int r45), (2, .int x43), (1, .int r38), (0, .ref (ad 55))]) hx hb dX12_bestFrom_129 hl (k := 1) rfl (by rw [ex150]; rfl) (of_decide_eq_true rfl) rfl (fun ls hl => ?_)
                          refine lv_goto (tgt := 85) hx hb dX12_bestFrom_132 (of_decide_eq_true rfl) ?_
                          have z151 : (σ137 55 26).toInt = (σ 55 26).toInt := (congrArg Int32.toInt (show σ137 55 26 = (σ 55 26) from ((f140 26 (of_decide_eq_true rfl)).trans (f70 26 (of_decide_eq_true rfl)))))
                          have z152 : (σ137 55 6).toInt = (σ 55 6).toInt := (congrArg Int32.toInt (show σ137 55 6 = (σ 55 6) from ((f140 6 (of_decide_eq_true rfl)).trans m76)))
                          have z153 : (σ60 55 27).toInt = (σ 55 27).toInt := (congrArg Int32.toInt (show σ60 55 27 = (σ 55 27) from (f70 27 (of_decide_eq_true rfl))))
                          exact by exact ihlp54 x56 x57 x150 σ137 _ _ ls (by have h92 := tx150; omega) (by have h92 := tx150; omega) (by have h92 := tx150; omega) (by have h92 := tx150; omega) (by have h92 := tx150; omega) (by have h92 := tx150; omega) (by have h92 := tx150; omega) (fun i hi => ((f139 i hi).trans (f69 i hi))) (fun i hi => ((f140 i hi).trans (f70 i hi)))  p141 p143 (fun pr mm => by have prh : jrP σ60 := ((jrEq.v (σ := σ) (σ' := σ60) ⟨⟨(f69 56 (of_decide_eq_true rfl)), (f69 60 (of_decide_eq_true rfl)), (f69 61 (of_decide_eq_true rfl)), (f69 62 (of_decide_eq_true rfl)), (f69 64 (of_decide_eq_true rfl)), (f69 65 (of_decide_eq_true rfl))⟩, (f70 6 (of_decide_eq_true rfl)), (f70 9 (of_decide_eq_true rfl)), (f70 10 (of_decide_eq_true rfl)), (f70 12 (of_decide_eq_true rfl)), (f70 13 (of_decide_eq_true rfl)), (f70 30 (of_decide_eq_true rfl)), (f70 31 (of_decide_eq_true rfl)), (f70 42 (of_decide_eq_true rfl))⟩ (f69 68 (of_decide_eq_true rfl)) (f69 69 (of_decide_eq_true rfl)) (f70 25 (of_decide_eq_true rfl)) (f70 26 (of_decide_eq_true rfl)) (f70 27 (of_decide_eq_true rfl))).2 pr); have q := q73 pr mm; have r := w144 prh q.2 k124 (by omega); have my := (prh.my (by omega) (by omega) (by omega)).mp k124; rw [show σ60 55 27 = σ 55 27 from (f70 27 (of_decide_eq_true rfl)), (show jrLf σ60 = jrLf σ from by unfold jrLf; rw [(show jrEq σ σ60 from ⟨⟨(f69 56 (of_decide_eq_true rfl)), (f69 60 (of_decide_eq_true rfl)), (f69 61 (of_decide_eq_true rfl)), (f69 62 (of_decide_eq_true rfl)), (f69 64 (of_decide_eq_true rfl)), (f69 65 (of_decide_eq_true rfl))⟩, (f70 6 (of_decide_eq_true rfl)), (f70 9 (of_decide_eq_true rfl)), (f70 10 (of_decide_eq_true rfl)), (f70 12 (of_decide_eq_true rfl)), (f70 13 (of_decide_eq_true rfl)), (f70 30 (of_decide_eq_true rfl)), (f70 31 (of_decide_eq_true rfl)), (f70 42 (of_decide_eq_true rfl))⟩).ov, show σ60 55 6 = σ 55 6 from (f70 6 (of_decide_eq_true rfl)), show jrW σ60 = jrW σ from by funext c; unfold jrW; rw [show σ60 69 = σ 69 from (f69 69 (of_decide_eq_true rfl))]])] at my; have ge : (r138 : Int32).toInt = jrG σ (x58 : Int32).toInt.toNat := (by rw [r.1, (show jrEq σ σ60 from ⟨⟨(f69 56 (of_decide_eq_true rfl)), (f69 60 (of_decide_eq_true rfl)), (f69 61 (of_decide_eq_true rfl)), (f69 62 (of_decide_eq_true rfl)), (f69 64 (of_decide_eq_true rfl)), (f69 65 (of_decide_eq_true rfl))⟩, (f70 6 (of_decide_eq_true rfl)), (f70 9 (of_decide_eq_true rfl)), (f70 10 (of_decide_eq_true rfl)), (f70 12 (of_decide_eq_true rfl)), (f70 13 (of_decide_eq_true rfl)), (f70 30 (of_decide_eq_true rfl)), (f70 31 (of_decide_eq_true rfl)), (f70 42 (of_decide_eq_true rfl))⟩).g (f69 68 (of_decide_eq_true rfl)) (f69 69 (of_decide_eq_true rfl)) (f70 25 (of_decide_eq_true rfl)) (f70 26 (of_decide_eq_true rfl))]); exact ⟨q.1.keep (by omega) ge (by omega) (by omega) (by have h9 := tx150; omega), r.2⟩) hP hS (lv_sub hl [0, 2, 3, 4, 5, 6, 7] rfl)
                       · have kc149 := jnle c149 rfl rfl
                         refine lv_iload hx hb dX12_bestFrom_121 (lv_at hl 0 rfl) ?_
                         exact by
                          refine lv_istore (lv' := [(5, .int r138), (7, .int r138), (6, .int x58), (4, .int x56), (3, .int r45), (2, .int x43), (1, .int r38), (0, .ref (ad 55))]) hx hb dX12_bestFrom_123 hl (of_decide_eq_true rfl) rfl (fun ls hl => ?_)
                          refine lv_iload hx hb dX12_bestFrom_125 (lv_at hl 2 rfl) ?_
                          refine lv_istore (lv' := [(4, .int x58), (5, .int r138), (7, .int r138), (6, .int x58), (3, .int r45), (2, .int x43), (1, .int r38), (0, .ref (ad 55))]) hx hb dX12_bestFrom_127 hl (of_decide_eq_true rfl) rfl (fun ls hl => ?_)
                          obtain ⟨x154, ex154⟩ : ∃ y : Int32, y = x58 + 1 := ⟨_, rfl⟩
                          have tx154 : x154.toInt = x58.toInt + 1 := (jadd ex154 rfl jz_1 (by omega) (by omega)).trans (by omega)
                          refine lv_iinc (v := x154) (lv' := [(6, .int x154), (4, .int x58), (5, .int r138), (7, .int r138), (3, .int r45), (2, .int x43), (1, .int r38), (0, .ref (ad 55))]) hx hb dX12_bestFrom_129 hl (k := 3) rfl (by rw [ex154]; rfl) (of_decide_eq_true rfl) rfl (fun ls hl => ?_)
                          refine lv_goto (tgt := 85) hx hb dX12_bestFrom_132 (of_decide_eq_true rfl) ?_
                          have z155 : (σ137 55 26).toInt = (σ 55 26).toInt := (congrArg Int32.toInt (show σ137 55 26 = (σ 55 26) from ((f140 26 (of_decide_eq_true rfl)).trans (f70 26 (of_decide_eq_true rfl)))))
                          have z156 : (σ137 55 6).toInt = (σ 55 6).toInt := (congrArg Int32.toInt (show σ137 55 6 = (σ 55 6) from ((f140 6 (of_decide_eq_true rfl)).trans m76)))
                          exact by
                           have z157 : (σ60 55 27).toInt = (σ 55 27).toInt := (congrArg Int32.toInt (show σ60 55 27 = (σ 55 27) from (f70 27 (of_decide_eq_true rfl))))
                           exact by exact ihlp54 x58 r138 x154 σ137 _ _ ls (by have h92 := tx154; omega) (by have h92 := tx154; omega) (by have h92 := tx154; omega) (by have h92 := tx154; omega) (by have h92 := tx154; omega) (by have h92 := tx154; omega) (by have h92 := tx154; omega) (fun i hi => ((f139 i hi).trans (f69 i hi))) (fun i hi => ((f140 i hi).trans (f70 i hi)))  p141 p143 (fun pr mm => by have prh : jrP σ60 := ((jrEq.v (σ := σ) (σ' := σ60) ⟨⟨(f69 56 (of_decide_eq_true rfl)), (f69 60 (of_decide_eq_true rfl)), (f69 61 (of_decide_eq_true rfl)), (f69 62 (of_decide_eq_true rfl)), (f69 64 (of_decide_eq_true rfl)), (f69 65 (of_decide_eq_true rfl))⟩, (f70 6 (of_decide_eq_true rfl)), (f70 9 (of_decide_eq_true rfl)), (f70 10 (of_decide_eq_true rfl)), (f70 12 (of_decide_eq_true rfl)), (f70 13 (of_decide_eq_true rfl)), (f70 30 (of_decide_eq_true rfl)), (f70 31 (of_decide_eq_true rfl)), (f70 42 (of_decide_eq_true rfl))⟩ (f69 68 (of_decide_eq_true rfl)) (f69 69 (of_decide_eq_true rfl)) (f70 25 (of_decide_eq_true rfl)) (f70 26 (of_decide_eq_true rfl)) (f70 27 (of_decide_eq_true rfl))).2 pr); have q := q73 pr mm; have r := w144 prh q.2 k124 (by omega); have my := (prh.my (by omega) (by omega) (by omega)).mp k124; rw [show σ60 55 27 = σ 55 27 from (f70 27 (of_decide_eq_true rfl)), (show jrLf σ60 = jrLf σ from by unfold jrLf; rw [(show jrEq σ σ60 from ⟨⟨(f69 56 (of_decide_eq_true rfl)), (f69 60 (of_decide_eq_true rfl)), (f69 61 (of_decide_eq_true rfl)), (f69 62 (of_decide_eq_true rfl)), (f69 64 (of_decide_eq_true rfl)), (f69 65 (of_decide_eq_true rfl))⟩, (f70 6 (of_decide_eq_true rfl)), (f70 9 (of_decide_eq_true rfl)), (f70 10 (of_decide_eq_true rfl)), (f70 12 (of_decide_eq_true rfl)), (f70 13 (of_decide_eq_true rfl)), (f70 30 (of_decide_eq_true rfl)), (f70 31 (of_decide_eq_true rfl)), (f70 42 (of_decide_eq_true rfl))⟩).ov, show σ60 55 6 = σ 55 6 from (f70 6 (of_decide_eq_true rfl)), show jrW σ60 = jrW σ from by funext c; unfold jrW; rw [show σ60 69 = σ 69 from (f69 69 (of_decide_eq_true rfl))]])] at my; have ge : (r138 : Int32).toInt = jrG σ (x58 : Int32).toInt.toNat := (by rw [r.1, (show jrEq σ σ60 from ⟨⟨(f69 56 (of_decide_eq_true rfl)), (f69 60 (of_decide_eq_true rfl)), (f69 61 (of_decide_eq_true rfl)), (f69 62 (of_decide_eq_true rfl)), (f69 64 (of_decide_eq_true rfl)), (f69 65 (of_decide_eq_true rfl))⟩, (f70 6 (of_decide_eq_true rfl)), (f70 9 (of_decide_eq_true rfl)), (f70 10 (of_decide_eq_true rfl)), (f70 12 (of_decide_eq_true rfl)), (f70 13 (of_decide_eq_true rfl)), (f70 30 (of_decide_eq_true rfl)), (f70 31 (of_decide_eq_true rfl)), (f70 42 (of_decide_eq_true rfl))⟩).g (f69 68 (of_decide_eq_true rfl)) (f69 69 (of_decide_eq_true rfl)) (f70 25 (of_decide_eq_true rfl)) (f70 26 (of_decide_eq_true rfl))]); exact ⟨q.1.take (by omega) my ge (by omega) (by omega) (by omega) (by have h9 := tx154; omega), r.2⟩) hP hS (lv_sub hl [0, 2, 1, 4, 5, 6, 7] rfl)
                   · obtain ⟨q159, k158⟩ := h123
                     have q159 := q159.symm
                     subst q159
                     have e160 : jmb σ60 x58 = jmb σ x58 := (jmb_fr (f70 27 (of_decide_eq_true rfl)) (f70 30 (of_decide_eq_true rfl)) (f70 31 (of_decide_eq_true rfl)) (f69 56 (of_decide_eq_true rfl)) (f69 69 (of_decide_eq_true rfl)) x58)
                     have n161 : ¬ x58 = B33 := fun h => absurd ((w36).symm.trans (by rw [← h]; exact e160.symm.trans k158) : (1 : Int32) = 0) (of_decide_eq_true rfl)
                     have k162 := jne n161 rfl rfl
                     refine lv_if_ne (tgt := 106) hx hb dX12_bestFrom_100 (of_decide_eq_true rfl) (fun c => absurd (of_decide_eq_true rfl) c) (fun _ => ?_)
                     exact by
                      refine lv_goto (tgt := 129) hx hb dX12_bestFrom_103 (of_decide_eq_true rfl) ?_
                      obtain ⟨x163, ex163⟩ : ∃ y : Int32, y = x58 + 1 := ⟨_, rfl⟩
                      have tx163 : x163.toInt = x58.toInt + 1 := (jadd ex163 rfl jz_1 (by omega) (by omega)).trans (by omega)
                      refine lv_iinc (v := x163) (lv' := [(6, .int x163), (5, .int x57), (4, .int x56), (3, .int r45), (2, .int x43), (1, .int r38), (0, .ref (ad 55))]) hx hb dX12_bestFrom_129 hl (k := 0) rfl (by rw [ex163]; rfl) (of_decide_eq_true rfl) rfl (fun ls hl => ?_)
                      refine lv_goto (tgt := 85) hx hb dX12_bestFrom_132 (of_decide_eq_true rfl) ?_
                      have z164 : (σ60 55 25).toInt = (σ 55 25).toInt := (congrArg Int32.toInt (show σ60 55 25 = (σ 55 25) from (f70 25 (of_decide_eq_true rfl))))
                      have z165 : (σ60 55 27).toInt = (σ 55 27).toInt := (congrArg Int32.toInt (show σ60 55 27 = (σ 55 27) from (f70 27 (of_decide_eq_true rfl))))
                      exact by exact ihlp54 x56 x57 x163 σ60 _ _ ls (by have h92 := tx163; omega) (by have h92 := tx163; omega) (by have h92 := tx163; omega) (by have h92 := tx163; omega) (by have h92 := tx163; omega) (by have h92 := tx163; omega) (by have h92 := tx163; omega) (fun i hi => (f69 i hi)) (fun i hi => (f70 i hi))  p71 p72 (fun pr mm => by have prh : jrP σ60 := ((jrEq.v (σ := σ) (σ' := σ60) ⟨⟨(f69 56 (of_decide_eq_true rfl)), (f69 60 (of_decide_eq_true rfl)), (f69 61 (of_decide_eq_true rfl)), (f69 62 (of_decide_eq_true rfl)), (f69 64 (of_decide_eq_true rfl)), (f69 65 (of_decide_eq_true rfl))⟩, (f70 6 (of_decide_eq_true rfl)), (f70 9 (of_decide_eq_true rfl)), (f70 10 (of_decide_eq_true rfl)), (f70 12 (of_decide_eq_true rfl)), (f70 13 (of_decide_eq_true rfl)), (f70 30 (of_decide_eq_true rfl)), (f70 31 (of_decide_eq_true rfl)), (f70 42 (of_decide_eq_true rfl))⟩ (f69 68 (of_decide_eq_true rfl)) (f69 69 (of_decide_eq_true rfl)) (f70 25 (of_decide_eq_true rfl)) (f70 26 (of_decide_eq_true rfl)) (f70 27 (of_decide_eq_true rfl))).2 pr); have q := q73 pr mm; have my : ¬ jMy4 (σ60 55 27).toInt (jrLf σ60) (x58 : Int32).toInt.toNat = true := fun z => absurd ((prh.my (by omega) (by omega) (by omega)).mpr z) (by rw [k158]; decide); rw [show σ60 55 27 = σ 55 27 from (f70 27 (of_decide_eq_true rfl)), (show jrLf σ60 = jrLf σ from by unfold jrLf; rw [(show jrEq σ σ60 from ⟨⟨(f69 56 (of_decide_eq_true rfl)), (f69 60 (of_decide_eq_true rfl)), (f69 61 (of_decide_eq_true rfl)), (f69 62 (of_decide_eq_true rfl)), (f69 64 (of_decide_eq_true rfl)), (f69 65 (of_decide_eq_true rfl))⟩, (f70 6 (of_decide_eq_true rfl)), (f70 9 (of_decide_eq_true rfl)), (f70 10 (of_decide_eq_true rfl)), (f70 12 (of_decide_eq_true rfl)), (f70 13 (of_decide_eq_true rfl)), (f70 30 (of_decide_eq_true rfl)), (f70 31 (of_decide_eq_true rfl)), (f70 42 (of_decide_eq_true rfl))⟩).ov, show σ60 55 6 = σ 55 6 from (f70 6 (of_decide_eq_true rfl)), show jrW σ60 = jrW σ from by funext c; unfold jrW; rw [show σ60 69 = σ 69 from (f69 69 (of_decide_eq_true rfl))]])] at my; exact ⟨q.1.skip (by omega) my (by have h9 := tx163; omega), q.2⟩) hP hS (lv_sub hl [0, 1, 2, 3, 4, 5, 6] rfl)
            exact by exact lp54 1000000 (-1) 2000000000 0 σ _ _ ls (by have h90 := jz_m1; have h91 := jz_2000000000; have h92 := jz_0; omega) (by have h90 := jz_m1; have h91 := jz_2000000000; have h92 := jz_0; omega) (by have h90 := jz_m1; have h91 := jz_2000000000; have h92 := jz_0; omega) (by have h90 := jz_m1; have h91 := jz_2000000000; have h92 := jz_0; omega) (by have h90 := jz_m1; have h91 := jz_2000000000; have h92 := jz_0; omega) (by have h90 := jz_m1; have h91 := jz_2000000000; have h92 := jz_0; omega) (by have h90 := jz_m1; have h91 := jz_2000000000; have h92 := jz_0; omega) (fun _ _ => rfl) (fun _ _ => rfl)  hs_jKept hs_jqSt (fun pr mm => ⟨jrB.first (by have h9 := jz_0; omega) (by have h9 := jz_m1; omega) (by have h9 := jz_2000000000; omega), mm⟩) hP hS hl
          · exact by
             have kc53 := jeq c53 rfl rfl
             have g166 := hs_jKept r45.toNatClampNeg (jnat (x := r45) rfl (n := 65536) (by omega) (of_decide_eq_true rfl))
             refine lv_aload_n hx hb dX12_bestFrom_57 rfl (lv_at hl 3 rfl) ?_
             refine lv_aload_n hx hb dX12_bestFrom_58 rfl (lv_at hl 3 rfl) ?_
             refine va_get (D := D) hx hb hts inlX12 hown hK hP 55 (jc_55 cI cL ad σ τ) rfl 41 (of_decide_eq_true rfl) (hts _ kw_8_2) (fun _ h9 => h9) rfl dX12_bestFrom_59 ?_
             refine lv_iload_n hx hb dX12_bestFrom_62 rfl (lv_at hl 0 rfl) ?_
             refine jald hx hb hK hP (jc_77 cI cL ad σ τ) (jin rfl (by omega) (by omega)) dX12_bestFrom_63 ?_
             refine jtopr (y := (σ 77 r45.toNatClampNeg)) rfl ?_
             refine jput (ty := .int) hx hb hts inlX12 tyX12 tyX12_ok nmX12 hown hK hP hJ hA hS (jc_55 cI cL ad σ τ) rfl (k := 37) (of_decide_eq_true rfl) (Nat.le_of_ble_eq_true rfl) (jp_55_37 cI cL ad σ τ (σ 77 r45.toNatClampNeg)) (hts _ kw_33_15) (fun _ h9 => h9) rfl (by decide +kernel) rfl rfl dX12_bestFrom_64 (fun σ168 H locs eσ168 hP hS => ?_)
             exact by
              refine lv_aload_n hx hb dX12_bestFrom_67 rfl (lv_at hl 3 rfl) ?_
              refine va_get (D := D) hx hb hts inlX12 hown hK hP 55 (jc_55 cI cL ad σ168 τ) rfl 40 (of_decide_eq_true rfl) (hts _ kw_8_1) (fun _ h9 => h9) rfl dX12_bestFrom_68 ?_
              refine lv_iload_n hx hb dX12_bestFrom_71 rfl (lv_at hl 0 rfl) ?_
              refine jald hx hb hK hP (jc_76 cI cL ad σ168 τ) (jin rfl (by omega) (by omega)) dX12_bestFrom_72 ?_
              refine jtopr (y := (σ 76 r45.toNatClampNeg)) (by rw [jnp 76 eσ168 (of_decide_eq_true rfl)]) ?_
              have p169 : jKept σ168 := jKept.fr (jnp 75 eσ168 (of_decide_eq_true rfl)) (jnp 76 eσ168 (of_decide_eq_true rfl)) (jnp 77 eσ168 (of_decide_eq_true rfl)) hs_jKept
              have p170 : jTR σ168 := jTR.fr (jnp 64 eσ168 (of_decide_eq_true rfl)) (jnp 65 eσ168 (of_decide_eq_true rfl)) hs_jTR
              have p171 : jqSt σ168 := jqSt.fr (jnp 78 eσ168 (of_decide_eq_true rfl)) (jkp 42 eσ168 (of_decide_eq_true rfl)) hs_jqSt
              have z172 : (σ168 55 37).toInt = (σ 77 r45.toNatClampNeg).toInt := (congrArg Int32.toInt (show σ168 55 37 = (σ 77 r45.toNatClampNeg) from (jsp eσ168)))
              exact by
               have z173 : (σ168 55 25).toInt = (σ 55 25).toInt := (congrArg Int32.toInt (show σ168 55 25 = (σ 55 25) from (jkp 25 eσ168 (of_decide_eq_true rfl))))
               have z174 : (σ168 55 26).toInt = (σ 55 26).toInt := (congrArg Int32.toInt (show σ168 55 26 = (σ 55 26) from (jkp 26 eσ168 (of_decide_eq_true rfl))))
               have z175 : (σ168 55 27).toInt = (σ 55 27).toInt := (congrArg Int32.toInt (show σ168 55 27 = (σ 55 27) from (jkp 27 eσ168 (of_decide_eq_true rfl))))
               have k167 : jrP σ → jrM σ → ((σ 77 r45.toNatClampNeg).toInt, (σ 76 r45.toNatClampNeg).toInt) = jrV σ := fun pr mm => jrM.hit (k := r45.toNatClampNeg) pr mm (jnat (x := r45) rfl (n := 65536) (by omega) (of_decide_eq_true rfl)) c53 (by have w := w39 pr.w0; have w2 := k49.elim (fun z => absurd c53 z) (fun z => z); rw [w2.1]; exact w) (by have w2 := k49.elim (fun z => absurd c53 z) (fun z => z); rw [w2.2]; have h9 := tx43; omega) (by omega) (by omega) (by omega)
               exact by exact hret (σ 76 r45.toNatClampNeg) σ168 τ _ _ _ _ rfl ⟨rfl, (fun i hi => (jnp i eσ168 (imp_206 i hi))), (fun i hi => (jkp i eσ168 (imp_207 i hi))), p169, p170, p171, (fun pr mm => by have z := k167 pr mm; have z1 := congrArg Prod.fst z; have z2 := congrArg Prod.snd z; exact ⟨⟨by rw [← z1]; show (σ168 55 37).toInt = if (σ 77 r45.toNatClampNeg).toInt < 0 then -2 else (σ 77 r45.toNatClampNeg).toInt; rw [if_neg (by omega)]; omega, z2⟩, (jrEq.m (σ := σ) (σ' := σ168) ⟨⟨(jnp 56 eσ168 (of_decide_eq_true rfl)), (jnp 60 eσ168 (of_decide_eq_true rfl)), (jnp 61 eσ168 (of_decide_eq_true rfl)), (jnp 62 eσ168 (of_decide_eq_true rfl)), (jnp 64 eσ168 (of_decide_eq_true rfl)), (jnp 65 eσ168 (of_decide_eq_true rfl))⟩, (jkp 6 eσ168 (of_decide_eq_true rfl)), (jkp 9 eσ168 (of_decide_eq_true rfl)), (jkp 10 eσ168 (of_decide_eq_true rfl)), (jkp 12 eσ168 (of_decide_eq_true rfl)), (jkp 13 eσ168 (of_decide_eq_true rfl)), (jkp 30 eσ168 (of_decide_eq_true rfl)), (jkp 31 eσ168 (of_decide_eq_true rfl)), (jkp 42 eσ168 (of_decide_eq_true rfl))⟩ (jnp 78 eσ168 (of_decide_eq_true rfl)) (jnp 74 eσ168 (of_decide_eq_true rfl)) (jnp 75 eσ168 (of_decide_eq_true rfl)) (jnp 76 eσ168 (of_decide_eq_true rfl)) (jnp 77 eσ168 (of_decide_eq_true rfl)) mm)⟩), (by omega), ⟨trivial, (by omega)⟩⟩ hP hS dX12_bestFrom_73
      · obtain ⟨q177, k176⟩ := h47
        have q177 := q177.symm
        subst q177
        refine lv_istore_n (lv' := [(3, .int (-1)), (2, .int x43), (1, .int r38), (0, .ref (ad 55))]) hx hb dX12_bestFrom_39 rfl hl (of_decide_eq_true rfl) rfl (fun ls hl => ?_)
        exact by
         refine lv_iload_n hx hb dX12_bestFrom_40 rfl (lv_at hl 0 rfl) ?_
         refine lv_if_lt (tgt := 74) hx hb dX12_bestFrom_41 (of_decide_eq_true rfl) (fun _ => ?_) (fun c => absurd (of_decide_eq_true rfl) c)
         refine lv_iconst (v := (-1)) hx hb dX12_bestFrom_74 (of_decide_eq_true rfl) ?_
         refine lv_istore (lv' := [(4, .int (-1)), (3, .int (-1)), (2, .int x43), (1, .int r38), (0, .ref (ad 55))]) hx hb dX12_bestFrom_75 hl (of_decide_eq_true rfl) rfl (fun ls hl => ?_)
         refine lv_ldcw (v := 2000000000) hx hb hown (hts _ kw_34_4) dX12_bestFrom_77 ?_
         refine lv_istore (lv' := [(5, .int 2000000000), (4, .int (-1)), (3, .int (-1)), (2, .int x43), (1, .int r38), (0, .ref (ad 55))]) hx hb dX12_bestFrom_80 hl (of_decide_eq_true rfl) rfl (fun ls hl => ?_)
         refine lv_iconst (v := 0) hx hb dX12_bestFrom_82 (of_decide_eq_true rfl) ?_
         refine lv_istore (lv' := [(6, .int 0), (5, .int 2000000000), (4, .int (-1)), (3, .int (-1)), (2, .int x43), (1, .int r38), (0, .ref (ad 55))]) hx hb dX12_bestFrom_83 hl (of_decide_eq_true rfl) rfl (fun ls hl => ?_)
         have lp178 : ∀ (n179 : Nat) (x180 : Int32) (x181 : Int32) (x182 : Int32) (σ184 : Nat → Nat → Int32) (H : Heap) (locs : List Loc) (ls : Array Slot), (-x182.toInt + 4 : Int) < n179 → (-1) ≤ x180.toInt → x180.toInt ≤ 3 → 0 ≤ x182.toInt → x182.toInt ≤ 4 → ((0 ≤ x180.toInt ∧ 0 ≤ x181.toInt ∧ x181.toInt ≤ -(1023000 * (σ184 55 26).toInt) + 12276000) ∨ (x180.toInt = (-1) ∧ x181.toInt = 2000000000 ∧ x182.toInt ≤ B33.toInt)) → x182.toInt ≤ (σ184 55 6).toInt → (∀ i : Nat, (i < 55 ∨ 55 < i) ∧ (i < 66 ∨ 66 < i) ∧ (i < 74 ∨ 78 < i) → σ184 i = σ i) → (∀ k : Nat, (k < 18 ∨ 18 < k) ∧ (k < 19 ∨ 19 < k) ∧ (k < 20 ∨ 20 < k) ∧ (k < 21 ∨ 21 < k) ∧ (k < 22 ∨ 22 < k) ∧ (k < 37 ∨ 37 < k) → σ184 55 k = σ 55 k) → jKept σ184 → jqSt σ184 → ((jrP σ → jrM σ → jrB σ (x182 : Int32).toInt (x180 : Int32).toInt (x181 : Int32).toInt ∧ jrM σ184)) → jH D cI cL ad σ184 τ H → va_S (jA ad) s.heap H locs → lv_has ls 8 [(6, .int x182), (5, .int x181), (4, .int x180), (3, .int (-1)), (2, .int x43), (1, .int r38), (0, .ref (ad 55))] → W p l e ({ frames := (70 + 4 * (n)), cells := 0, slots := 0, locals := (3114 + 240 * (n)) }) s m args below meth c H locs 0 0 Q (F0 m 85 ls []) := by
           intro n179
           induction n179 with
           | zero => intro x180 x181 x182 σ184 H locs ls h186 h187 h188 h189 h190 h191 h192; have gx181 := jrg (rfl : x181.toInt = x181.toInt); exact absurd h186 (by omega)
           | succ n179 ihlp178 =>
             intro x180 x181 x182 σ184 H locs ls h186 h187 h188 h189 h190 h191 h192 f193 f194 p195 p196 q197 hP hS hl
             exact by
              have gx181 := jrg (rfl : x181.toInt = x181.toInt)
              have z198 : (σ184 55 26).toInt = (σ 55 26).toInt := (congrArg Int32.toInt (show σ184 55 26 = (σ 55 26) from (f194 26 (of_decide_eq_true rfl))))
              have z199 : (σ184 55 6).toInt = (σ 55 6).toInt := (congrArg Int32.toInt (show σ184 55 6 = (σ 55 6) from (f194 6 (of_decide_eq_true rfl))))
              refine lv_iload hx hb dX12_bestFrom_85 (lv_at hl 0 rfl) ?_
              refine lv_aload_n hx hb dX12_bestFrom_87 rfl (lv_at hl 6 rfl) ?_
              refine va_get (D := D) hx hb hts inlX12 hown hK hP 55 (jc_55 cI cL ad σ184 τ) rfl 6 (of_decide_eq_true rfl) (hts _ kw_9_13) (fun _ h9 => h9) rfl dX12_bestFrom_88 ?_
              have m200 : σ184 55 6 = (σ 55 6) := (f194 6 (of_decide_eq_true rfl))
              refine jtopr m200 ?_
              refine lv_icmp_ge (tgt := 135) hx hb dX12_bestFrom_91 (of_decide_eq_true rfl) (fun c201 => ?_) (fun c201 => ?_)
              · have kc201 := jle c201 rfl rfl
                refine lv_aload_n hx hb dX12_bestFrom_135 rfl (lv_at hl 6 rfl) ?_
                refine lv_iload_n hx hb dX12_bestFrom_136 rfl (lv_at hl 5 rfl) ?_
                refine lv_iload_n hx hb dX12_bestFrom_137 rfl (lv_at hl 4 rfl) ?_
                refine jcallV (As := [.int r38, .int x43]) (rest := []) ⟨hx, hb, hml, hown, hts⟩ hK hP hA hS hZ (c_X12_spot l D cI cL ad zz hJ σ184 τ r38 (r38.toInt) rfl x43 (16 * (σ 55 26).toInt + (σ 55 25).toInt) tx43) cw_RX12_314 (jc_55 cI cL ad σ184 τ) rfl ⟨by dsimp only; omega, by dsimp only; omega⟩ rfl rfl rfl hl.1 rfl (Nat.le_of_ble_eq_true rfl) dX12_bestFrom_138 ⟨Nat.zero_le _, Nat.zero_le _⟩ (fun r203 σ202 τ202 H locs h202 hP hS => ?_)
                obtain ⟨⟨rfl, rfl⟩, h202⟩ := h202
                rcases h202 with h204 | h205
                · obtain ⟨q208, k206, k207⟩ := h204
                  have z210 : (σ184 55 42).toInt = (σ 55 42).toInt := (congrArg Int32.toInt (show σ184 55 42 = (σ 55 42) from (f194 42 (of_decide_eq_true rfl))))
                  have k209 : (σ184 78 r203.toNatClampNeg).toInt ≠ (σ184 55 42).toInt ∨ (σ184 75 r203.toNatClampNeg).toInt = 16 * (σ 55 26).toInt + (σ 55 25).toInt := k207.imp (fun q => jne q rfl rfl) (fun q => jeq q.2 rfl tx43)
                  refine lv_istore_n (lv' := [(3, .int r203), (6, .int x182), (5, .int x181), (4, .int x180), (2, .int x43), (1, .int r38), (0, .ref (ad 55))]) hx hb dX12_bestFrom_141 rfl hl (of_decide_eq_true rfl) rfl (fun ls hl => ?_)
                  refine lv_iload_n hx hb dX12_bestFrom_142 rfl (lv_at hl 0 rfl) ?_
                  exact by
                   refine lv_if_lt (tgt := 186) hx hb dX12_bestFrom_143 (of_decide_eq_true rfl) (fun c => absurd (jlt c rfl jz_0) (by omega)) (fun c211 => ?_)
                   have kc211 := jnlt c211 rfl jz_0
                   refine lv_aload_n hx hb dX12_bestFrom_146 rfl (lv_at hl 6 rfl) ?_
                   refine va_get (D := D) hx hb hts inlX12 hown hK hP 55 (jc_55 cI cL ad σ184 τ) rfl 43 (of_decide_eq_true rfl) (hts _ kw_8_3) (fun _ h9 => h9) rfl dX12_bestFrom_147 ?_
                   refine lv_iload_n hx hb dX12_bestFrom_150 rfl (lv_at hl 0 rfl) ?_
                   refine lv_aload_n hx hb dX12_bestFrom_151 rfl (lv_at hl 6 rfl) ?_
                   refine va_get (D := D) hx hb hts inlX12 hown hK hP 55 (jc_55 cI cL ad σ184 τ) rfl 42 (of_decide_eq_true rfl) (hts _ kw_33_10) (fun _ h9 => h9) rfl dX12_bestFrom_152 ?_
                   have m212 : σ184 55 42 = (σ 55 42) := (f194 42 (of_decide_eq_true rfl))
                   refine jtopr m212 ?_
                   exact by
                    refine jast hx hb hK hP hJ hA hS (jc_78 cI cL ad σ184 τ) (ja_78 cI cL ad σ184 τ _ _) (jin rfl (by omega) (by omega)) dX12_bestFrom_155 (fun σ213 H locs eσ213 hP hS => ?_)
                    have p214 : jqSt σ213 := (jqSt.put p196 eσ213 (show (σ 55 42) = σ184 55 42 from (m212).symm))
                    refine lv_aload_n hx hb dX12_bestFrom_156 rfl (lv_at hl 6 rfl) ?_
                    refine va_get (D := D) hx hb hts inlX12 hown hK hP 55 (jc_55 cI cL ad σ213 τ) rfl 38 (of_decide_eq_true rfl) (hts _ kw_7_23) (fun _ h9 => h9) rfl dX12_bestFrom_157 ?_
                    refine lv_iload_n hx hb dX12_bestFrom_160 rfl (lv_at hl 0 rfl) ?_
                    refine lv_iload_n hx hb dX12_bestFrom_161 rfl (lv_at hl 5 rfl) ?_
                    refine jast hx hb hK hP hJ hA hS (jc_74 cI cL ad σ213 τ) (ja_74 cI cL ad σ213 τ _ _) (jin rfl (by omega) (by omega)) dX12_bestFrom_162 (fun σ215 H locs eσ215 hP hS => ?_)
                    refine lv_aload_n hx hb dX12_bestFrom_163 rfl (lv_at hl 6 rfl) ?_
                    refine va_get (D := D) hx hb hts inlX12 hown hK hP 55 (jc_55 cI cL ad σ215 τ) rfl 39 (of_decide_eq_true rfl) (hts _ kw_8_0) (fun _ h9 => h9) rfl dX12_bestFrom_164 ?_
                    exact by
                     refine lv_iload_n hx hb dX12_bestFrom_167 rfl (lv_at hl 0 rfl) ?_
                     refine lv_iload_n hx hb dX12_bestFrom_168 rfl (lv_at hl 4 rfl) ?_
                     refine jast hx hb hK hP hJ hA hS (jc_75 cI cL ad σ215 τ) (ja_75 cI cL ad σ215 τ _ _) (jin rfl (by omega) (by omega)) dX12_bestFrom_169 (fun σ216 H locs eσ216 hP hS => ?_)
                     refine lv_aload_n hx hb dX12_bestFrom_170 rfl (lv_at hl 6 rfl) ?_
                     refine va_get (D := D) hx hb hts inlX12 hown hK hP 55 (jc_55 cI cL ad σ216 τ) rfl 40 (of_decide_eq_true rfl) (hts _ kw_8_1) (fun _ h9 => h9) rfl dX12_bestFrom_171 ?_
                     refine lv_iload_n hx hb dX12_bestFrom_174 rfl (lv_at hl 0 rfl) ?_
                     refine lv_iload hx hb dX12_bestFrom_175 (lv_at hl 2 rfl) ?_
                     refine jast hx hb hK hP hJ hA hS (jc_76 cI cL ad σ216 τ) (ja_76 cI cL ad σ216 τ _ _) (jin rfl (by omega) (by omega)) dX12_bestFrom_177 (fun σ217 H locs eσ217 hP hS => ?_)
                     refine lv_aload_n hx hb dX12_bestFrom_178 rfl (lv_at hl 6 rfl) ?_
                     exact by
                      refine va_get (D := D) hx hb hts inlX12 hown hK hP 55 (jc_55 cI cL ad σ217 τ) rfl 41 (of_decide_eq_true rfl) (hts _ kw_8_2) (fun _ h9 => h9) rfl dX12_bestFrom_179 ?_
                      refine lv_iload_n hx hb dX12_bestFrom_182 rfl (lv_at hl 0 rfl) ?_
                      refine lv_iload hx hb dX12_bestFrom_183 (lv_at hl 3 rfl) ?_
                      refine jast hx hb hK hP hJ hA hS (jc_77 cI cL ad σ217 τ) (ja_77 cI cL ad σ217 τ _ _) (jin rfl (by omega) (by omega)) dX12_bestFrom_185 (fun σ218 H locs eσ218 hP hS => ?_)
                      have e219 : σ218 75 = jupd (σ184 75) r203.toNatClampNeg x43 := by rw [eσ218, jup_n (of_decide_eq_true rfl), eσ217, jup_n (of_decide_eq_true rfl), eσ216, jup_row, eσ215, jup_n (of_decide_eq_true rfl), eσ213, jup_n (of_decide_eq_true rfl)]
                      have e220 : σ218 76 = jupd (σ184 76) r203.toNatClampNeg x181 := by rw [eσ218, jup_n (of_decide_eq_true rfl), eσ217, jup_row, eσ216, jup_n (of_decide_eq_true rfl), eσ215, jup_n (of_decide_eq_true rfl), eσ213, jup_n (of_decide_eq_true rfl)]
                      have e221 : σ218 77 = jupd (σ184 77) r203.toNatClampNeg x180 := by rw [eσ218, jup_row, eσ217, jup_n (of_decide_eq_true rfl), eσ216, jup_n (of_decide_eq_true rfl), eσ215, jup_n (of_decide_eq_true rfl), eσ213, jup_n (of_decide_eq_true rfl)]
                      have z222 : (σ218 55 26).toInt = (σ 55 26).toInt := (congrArg Int32.toInt (show σ218 55 26 = (σ 55 26) from ((congrFun (jnp 55 eσ218 (of_decide_eq_true rfl)) 26).trans ((congrFun (jnp 55 eσ217 (of_decide_eq_true rfl)) 26).trans ((congrFun (jnp 55 eσ216 (of_decide_eq_true rfl)) 26).trans ((congrFun (jnp 55 eσ215 (of_decide_eq_true rfl)) 26).trans ((congrFun (jnp 55 eσ213 (of_decide_eq_true rfl)) 26).trans (f194 26 (of_decide_eq_true rfl)))))))))
                      have p223 : jKept σ218 := p195.on e219 e220 e221 (by have h91 := tx43; omega) (by have h91 := tx43; omega) (by have h91 := tx43; omega) (by have h91 := tx43; omega)
                      exact by
                       refine lv_aload_n hx hb dX12_bestFrom_186 rfl (lv_at hl 6 rfl) ?_
                       refine lv_iload hx hb dX12_bestFrom_187 (lv_at hl 3 rfl) ?_
                       refine jput (ty := .int) hx hb hts inlX12 tyX12 tyX12_ok nmX12 hown hK hP hJ hA hS (jc_55 cI cL ad σ218 τ) rfl (k := 37) (of_decide_eq_true rfl) (Nat.le_of_ble_eq_true rfl) (jp_55_37 cI cL ad σ218 τ x180) (hts _ kw_33_15) (fun _ h9 => h9) rfl (by decide +kernel) rfl rfl dX12_bestFrom_189 (fun σ224 H locs eσ224 hP hS => ?_)
                       refine lv_iload hx hb dX12_bestFrom_192 (lv_at hl 2 rfl) ?_
                       have p225 : jKept σ224 := jKept.fr (jnp 75 eσ224 (of_decide_eq_true rfl)) (jnp 76 eσ224 (of_decide_eq_true rfl)) (jnp 77 eσ224 (of_decide_eq_true rfl)) p223
                       have p226 : jTR σ224 := jTR.fr ((jnp 64 eσ224 (of_decide_eq_true rfl)).trans ((jnp 64 eσ218 (of_decide_eq_true rfl)).trans ((jnp 64 eσ217 (of_decide_eq_true rfl)).trans ((jnp 64 eσ216 (of_decide_eq_true rfl)).trans ((jnp 64 eσ215 (of_decide_eq_true rfl)).trans ((jnp 64 eσ213 (of_decide_eq_true rfl)).trans (f193 64 (of_decide_eq_true rfl)))))))) ((jnp 65 eσ224 (of_decide_eq_true rfl)).trans ((jnp 65 eσ218 (of_decide_eq_true rfl)).trans ((jnp 65 eσ217 (of_decide_eq_true rfl)).trans ((jnp 65 eσ216 (of_decide_eq_true rfl)).trans ((jnp 65 eσ215 (of_decide_eq_true rfl)).trans ((jnp 65 eσ213 (of_decide_eq_true rfl)).trans (f193 65 (of_decide_eq_true rfl)))))))) hs_jTR
                       have p227 : jqSt σ224 := jqSt.fr ((jnp 78 eσ224 (of_decide_eq_true rfl)).trans ((jnp 78 eσ218 (of_decide_eq_true rfl)).trans ((jnp 78 eσ217 (of_decide_eq_true rfl)).trans ((jnp 78 eσ216 (of_decide_eq_true rfl)).trans (jnp 78 eσ215 (of_decide_eq_true rfl)))))) ((jkp 42 eσ224 (of_decide_eq_true rfl)).trans ((congrFun (jnp 55 eσ218 (of_decide_eq_true rfl)) 42).trans ((congrFun (jnp 55 eσ217 (of_decide_eq_true rfl)) 42).trans ((congrFun (jnp 55 eσ216 (of_decide_eq_true rfl)) 42).trans (congrFun (jnp 55 eσ215 (of_decide_eq_true rfl)) 42))))) p214
                       have z228 : (σ224 55 37).toInt = x180.toInt := (congrArg Int32.toInt (show σ224 55 37 = x180 from (jsp eσ224)))
                       have z229 : (σ224 55 25).toInt = (σ 55 25).toInt := (congrArg Int32.toInt (show σ224 55 25 = (σ 55 25) from ((jkp 25 eσ224 (of_decide_eq_true rfl)).trans ((congrFun (jnp 55 eσ218 (of_decide_eq_true rfl)) 25).trans ((congrFun (jnp 55 eσ217 (of_decide_eq_true rfl)) 25).trans ((congrFun (jnp 55 eσ216 (of_decide_eq_true rfl)) 25).trans ((congrFun (jnp 55 eσ215 (of_decide_eq_true rfl)) 25).trans ((congrFun (jnp 55 eσ213 (of_decide_eq_true rfl)) 25).trans (f194 25 (of_decide_eq_true rfl))))))))))
                       have z230 : (σ224 55 26).toInt = (σ 55 26).toInt := (congrArg Int32.toInt (show σ224 55 26 = (σ 55 26) from ((jkp 26 eσ224 (of_decide_eq_true rfl)).trans ((congrFun (jnp 55 eσ218 (of_decide_eq_true rfl)) 26).trans ((congrFun (jnp 55 eσ217 (of_decide_eq_true rfl)) 26).trans ((congrFun (jnp 55 eσ216 (of_decide_eq_true rfl)) 26).trans ((congrFun (jnp 55 eσ215 (of_decide_eq_true rfl)) 26).trans ((congrFun (jnp 55 eσ213 (of_decide_eq_true rfl)) 26).trans (f194 26 (of_decide_eq_true rfl))))))))))
                       have z231 : (σ224 55 27).toInt = (σ 55 27).toInt := (congrArg Int32.toInt (show σ224 55 27 = (σ 55 27) from ((jkp 27 eσ224 (of_decide_eq_true rfl)).trans ((congrFun (jnp 55 eσ218 (of_decide_eq_true rfl)) 27).trans ((congrFun (jnp 55 eσ217 (of_decide_eq_true rfl)) 27).trans ((congrFun (jnp 55 eσ216 (of_decide_eq_true rfl)) 27).trans ((congrFun (jnp 55 eσ215 (of_decide_eq_true rfl)) 27).trans ((congrFun (jnp 55 eσ213 (of_decide_eq_true rfl)) 27).trans (f194 27 (of_decide_eq_true rfl))))))))))
                       exact by
                        have k232 : jrP σ → jrM σ → ((x180 : Int32).toInt, (x181 : Int32).toInt) = jrV σ := fun pr mm => (q197 pr mm).1.fin (by omega) (by omega) (by omega) (by omega) (by omega) (by omega)
                        exact by exact hret x181 σ224 τ _ _ _ _ rfl ⟨rfl, (fun i hi => ((jnp i eσ224 (imp_206 i hi)).trans ((jnp i eσ218 (imp_208 i hi)).trans ((jnp i eσ217 (imp_209 i hi)).trans ((jnp i eσ216 (imp_210 i hi)).trans ((jnp i eσ215 (imp_211 i hi)).trans ((jnp i eσ213 (imp_212 i hi)).trans (f193 i hi)))))))), (fun i hi => ((jkp i eσ224 (imp_207 i hi)).trans ((congrFun (jnp 55 eσ218 (of_decide_eq_true rfl)) i).trans ((congrFun (jnp 55 eσ217 (of_decide_eq_true rfl)) i).trans ((congrFun (jnp 55 eσ216 (of_decide_eq_true rfl)) i).trans ((congrFun (jnp 55 eσ215 (of_decide_eq_true rfl)) i).trans ((congrFun (jnp 55 eσ213 (of_decide_eq_true rfl)) i).trans (f194 i hi)))))))), p225, p226, p227, (fun pr mm => ⟨by rw [← k232 pr mm]; exact ⟨by show (σ224 55 37).toInt = if (x180 : Int32).toInt < 0 then -2 else (x180 : Int32).toInt; rw [if_neg (by omega)]; omega, rfl⟩, jrM.store (σ := σ) (σ1 := σ184) (k := r203.toNatClampNeg) (t := (σ 55 42)) (a := r38) (o := x43) (v := x181) (x := x180) ⟨⟨((jnp 56 eσ224 (of_decide_eq_true rfl)).trans ((jnp 56 eσ218 (of_decide_eq_true rfl)).trans ((jnp 56 eσ217 (of_decide_eq_true rfl)).trans ((jnp 56 eσ216 (of_decide_eq_true rfl)).trans ((jnp 56 eσ215 (of_decide_eq_true rfl)).trans ((jnp 56 eσ213 (of_decide_eq_true rfl)).trans (f193 56 (of_decide_eq_true rfl)))))))), ((jnp 60 eσ224 (of_decide_eq_true rfl)).trans ((jnp 60 eσ218 (of_decide_eq_true rfl)).trans ((jnp 60 eσ217 (of_decide_eq_true rfl)).trans ((jnp 60 eσ216 (of_decide_eq_true rfl)).trans ((jnp 60 eσ215 (of_decide_eq_true rfl)).trans ((jnp 60 eσ213 (of_decide_eq_true rfl)).trans (f193 60 (of_decide_eq_true rfl)))))))), ((jnp 61 eσ224 (of_decide_eq_true rfl)).trans ((jnp 61 eσ218 (of_decide_eq_true rfl)).trans ((jnp 61 eσ217 (of_decide_eq_true rfl)).trans ((jnp 61 eσ216 (of_decide_eq_true rfl)).trans ((jnp 61 eσ215 (of_decide_eq_true rfl)).trans ((jnp 61 eσ213 (of_decide_eq_true rfl)).trans (f193 61 (of_decide_eq_true rfl)))))))), ((jnp 62 eσ224 (of_decide_eq_true rfl)).trans ((jnp 62 eσ218 (of_decide_eq_true rfl)).trans ((jnp 62 eσ217 (of_decide_eq_true rfl)).trans ((jnp 62 eσ216 (of_decide_eq_true rfl)).trans ((jnp 62 eσ215 (of_decide_eq_true rfl)).trans ((jnp 62 eσ213 (of_decide_eq_true rfl)).trans (f193 62 (of_decide_eq_true rfl)))))))), ((jnp 64 eσ224 (of_decide_eq_true rfl)).trans ((jnp 64 eσ218 (of_decide_eq_true rfl)).trans ((jnp 64 eσ217 (of_decide_eq_true rfl)).trans ((jnp 64 eσ216 (of_decide_eq_true rfl)).trans ((jnp 64 eσ215 (of_decide_eq_true rfl)).trans ((jnp 64 eσ213 (of_decide_eq_true rfl)).trans (f193 64 (of_decide_eq_true rfl)))))))), ((jnp 65 eσ224 (of_decide_eq_true rfl)).trans ((jnp 65 eσ218 (of_decide_eq_true rfl)).trans ((jnp 65 eσ217 (of_decide_eq_true rfl)).trans ((jnp 65 eσ216 (of_decide_eq_true rfl)).trans ((jnp 65 eσ215 (of_decide_eq_true rfl)).trans ((jnp 65 eσ213 (of_decide_eq_true rfl)).trans (f193 65 (of_decide_eq_true rfl))))))))⟩, ((jkp 6 eσ224 (of_decide_eq_true rfl)).trans ((congrFun (jnp 55 eσ218 (of_decide_eq_true rfl)) 6).trans ((congrFun (jnp 55 eσ217 (of_decide_eq_true rfl)) 6).trans ((congrFun (jnp 55 eσ216 (of_decide_eq_true rfl)) 6).trans ((congrFun (jnp 55 eσ215 (of_decide_eq_true rfl)) 6).trans ((congrFun (jnp 55 eσ213 (of_decide_eq_true rfl)) 6).trans (f194 6 (of_decide_eq_true rfl)))))))), ((jkp 9 eσ224 (of_decide_eq_true rfl)).trans ((congrFun (jnp 55 eσ218 (of_decide_eq_true rfl)) 9).trans ((congrFun (jnp 55 eσ217 (of_decide_eq_true rfl)) 9).trans ((congrFun (jnp 55 eσ216 (of_decide_eq_true rfl)) 9).trans ((congrFun (jnp 55 eσ215 (of_decide_eq_true rfl)) 9).trans ((congrFun (jnp 55 eσ213 (of_decide_eq_true rfl)) 9).trans (f194 9 (of_decide_eq_true rfl)))))))), ((jkp 10 eσ224 (of_decide_eq_true rfl)).trans ((congrFun (jnp 55 eσ218 (of_decide_eq_true rfl)) 10).trans ((congrFun (jnp 55 eσ217 (of_decide_eq_true rfl)) 10).trans ((congrFun (jnp 55 eσ216 (of_decide_eq_true rfl)) 10).trans ((congrFun (jnp 55 eσ215 (of_decide_eq_true rfl)) 10).trans ((congrFun (jnp 55 eσ213 (of_decide_eq_true rfl)) 10).trans (f194 10 (of_decide_eq_true rfl)))))))), ((jkp 12 eσ224 (of_decide_eq_true rfl)).trans ((congrFun (jnp 55 eσ218 (of_decide_eq_true rfl)) 12).trans ((congrFun (jnp 55 eσ217 (of_decide_eq_true rfl)) 12).trans ((congrFun (jnp 55 eσ216 (of_decide_eq_true rfl)) 12).trans ((congrFun (jnp 55 eσ215 (of_decide_eq_true rfl)) 12).trans ((congrFun (jnp 55 eσ213 (of_decide_eq_true rfl)) 12).trans (f194 12 (of_decide_eq_true rfl)))))))), ((jkp 13 eσ224 (of_decide_eq_true rfl)).trans ((congrFun (jnp 55 eσ218 (of_decide_eq_true rfl)) 13).trans ((congrFun (jnp 55 eσ217 (of_decide_eq_true rfl)) 13).trans ((congrFun (jnp 55 eσ216 (of_decide_eq_true rfl)) 13).trans ((congrFun (jnp 55 eσ215 (of_decide_eq_true rfl)) 13).trans ((congrFun (jnp 55 eσ213 (of_decide_eq_true rfl)) 13).trans (f194 13 (of_decide_eq_true rfl)))))))), ((jkp 30 eσ224 (of_decide_eq_true rfl)).trans ((congrFun (jnp 55 eσ218 (of_decide_eq_true rfl)) 30).trans ((congrFun (jnp 55 eσ217 (of_decide_eq_true rfl)) 30).trans ((congrFun (jnp 55 eσ216 (of_decide_eq_true rfl)) 30).trans ((congrFun (jnp 55 eσ215 (of_decide_eq_true rfl)) 30).trans ((congrFun (jnp 55 eσ213 (of_decide_eq_true rfl)) 30).trans (f194 30 (of_decide_eq_true rfl)))))))), ((jkp 31 eσ224 (of_decide_eq_true rfl)).trans ((congrFun (jnp 55 eσ218 (of_decide_eq_true rfl)) 31).trans ((congrFun (jnp 55 eσ217 (of_decide_eq_true rfl)) 31).trans ((congrFun (jnp 55 eσ216 (of_decide_eq_true rfl)) 31).trans ((congrFun (jnp 55 eσ215 (of_decide_eq_true rfl)) 31).trans ((congrFun (jnp 55 eσ213 (of_decide_eq_true rfl)) 31).trans (f194 31 (of_decide_eq_true rfl)))))))), ((jkp 42 eσ224 (of_decide_eq_true rfl)).trans ((congrFun (jnp 55 eσ218 (of_decide_eq_true rfl)) 42).trans ((congrFun (jnp 55 eσ217 (of_decide_eq_true rfl)) 42).trans ((congrFun (jnp 55 eσ216 (of_decide_eq_true rfl)) 42).trans ((congrFun (jnp 55 eσ215 (of_decide_eq_true rfl)) 42).trans ((congrFun (jnp 55 eσ213 (of_decide_eq_true rfl)) 42).trans (f194 42 (of_decide_eq_true rfl))))))))⟩ pr (q197 pr mm).2 ⟨⟨(f193 56 (of_decide_eq_true rfl)), (f193 60 (of_decide_eq_true rfl)), (f193 61 (of_decide_eq_true rfl)), (f193 62 (of_decide_eq_true rfl)), (f193 64 (of_decide_eq_true rfl)), (f193 65 (of_decide_eq_true rfl))⟩, (f194 6 (of_decide_eq_true rfl)), (f194 9 (of_decide_eq_true rfl)), (f194 10 (of_decide_eq_true rfl)), (f194 12 (of_decide_eq_true rfl)), (f194 13 (of_decide_eq_true rfl)), (f194 30 (of_decide_eq_true rfl)), (f194 31 (of_decide_eq_true rfl)), (f194 42 (of_decide_eq_true rfl))⟩ (by rw [eσ224, jup_n (of_decide_eq_true rfl), eσ218, jup_n (of_decide_eq_true rfl), eσ217, jup_n (of_decide_eq_true rfl), eσ216, jup_n (of_decide_eq_true rfl), eσ215, jup_n (of_decide_eq_true rfl), eσ213, jup_row]) (by rw [eσ224, jup_n (of_decide_eq_true rfl), eσ218, jup_n (of_decide_eq_true rfl), eσ217, jup_n (of_decide_eq_true rfl), eσ216, jup_n (of_decide_eq_true rfl), eσ215, jup_row, eσ213, jup_n (of_decide_eq_true rfl)]) (by rw [eσ224, jup_n (of_decide_eq_true rfl), eσ218, jup_n (of_decide_eq_true rfl), eσ217, jup_n (of_decide_eq_true rfl), eσ216, jup_row, eσ215, jup_n (of_decide_eq_true rfl), eσ213, jup_n (of_decide_eq_true rfl)]) (by rw [eσ224, jup_n (of_decide_eq_true rfl), eσ218, jup_n (of_decide_eq_true rfl), eσ217, jup_row, eσ216, jup_n (of_decide_eq_true rfl), eσ215, jup_n (of_decide_eq_true rfl), eσ213, jup_n (of_decide_eq_true rfl)]) (by rw [eσ224, jup_n (of_decide_eq_true rfl), eσ218, jup_row, eσ217, jup_n (of_decide_eq_true rfl), eσ216, jup_n (of_decide_eq_true rfl), eσ215, jup_n (of_decide_eq_true rfl), eσ213, jup_n (of_decide_eq_true rfl)]) (w39 pr.w0) (by have h9 := tx43; omega) (k232 pr mm) (by omega) (by omega) (by omega)⟩), (by omega), ⟨trivial, (by omega)⟩⟩ hP hS dX12_bestFrom_194
                · obtain ⟨q234, k233⟩ := h205
                  have q234 := q234.symm
                  subst q234
                  refine lv_istore_n (lv' := [(3, .int (-1)), (6, .int x182), (5, .int x181), (4, .int x180), (2, .int x43), (1, .int r38), (0, .ref (ad 55))]) hx hb dX12_bestFrom_141 rfl hl (of_decide_eq_true rfl) rfl (fun ls hl => ?_)
                  refine lv_iload_n hx hb dX12_bestFrom_142 rfl (lv_at hl 0 rfl) ?_
                  refine lv_if_lt (tgt := 186) hx hb dX12_bestFrom_143 (of_decide_eq_true rfl) (fun _ => ?_) (fun c => absurd (of_decide_eq_true rfl) c)
                  refine lv_aload_n hx hb dX12_bestFrom_186 rfl (lv_at hl 6 rfl) ?_
                  refine lv_iload hx hb dX12_bestFrom_187 (lv_at hl 3 rfl) ?_
                  refine jput (ty := .int) hx hb hts inlX12 tyX12 tyX12_ok nmX12 hown hK hP hJ hA hS (jc_55 cI cL ad σ184 τ) rfl (k := 37) (of_decide_eq_true rfl) (Nat.le_of_ble_eq_true rfl) (jp_55_37 cI cL ad σ184 τ x180) (hts _ kw_33_15) (fun _ h9 => h9) rfl (by decide +kernel) rfl rfl dX12_bestFrom_189 (fun σ235 H locs eσ235 hP hS => ?_)
                  refine lv_iload hx hb dX12_bestFrom_192 (lv_at hl 2 rfl) ?_
                  have p236 : jKept σ235 := jKept.fr (jnp 75 eσ235 (of_decide_eq_true rfl)) (jnp 76 eσ235 (of_decide_eq_true rfl)) (jnp 77 eσ235 (of_decide_eq_true rfl)) p195
                  have p237 : jTR σ235 := jTR.fr ((jnp 64 eσ235 (of_decide_eq_true rfl)).trans (f193 64 (of_decide_eq_true rfl))) ((jnp 65 eσ235 (of_decide_eq_true rfl)).trans (f193 65 (of_decide_eq_true rfl))) hs_jTR
                  have p238 : jqSt σ235 := jqSt.fr (jnp 78 eσ235 (of_decide_eq_true rfl)) (jkp 42 eσ235 (of_decide_eq_true rfl)) p196
                  have z239 : (σ235 55 37).toInt = x180.toInt := (congrArg Int32.toInt (show σ235 55 37 = x180 from (jsp eσ235)))
                  have z240 : (σ235 55 25).toInt = (σ 55 25).toInt := (congrArg Int32.toInt (show σ235 55 25 = (σ 55 25) from ((jkp 25 eσ235 (of_decide_eq_true rfl)).trans (f194 25 (of_decide_eq_true rfl)))))
                  have z241 : (σ235 55 26).toInt = (σ 55 26).toInt := (congrArg Int32.toInt (show σ235 55 26 = (σ 55 26) from ((jkp 26 eσ235 (of_decide_eq_true rfl)).trans (f194 26 (of_decide_eq_true rfl)))))
                  have z242 : (σ235 55 27).toInt = (σ 55 27).toInt := (congrArg Int32.toInt (show σ235 55 27 = (σ 55 27) from ((jkp 27 eσ235 (of_decide_eq_true rfl)).trans (f194 27 (of_decide_eq_true rfl)))))
                  exact by
                   have k243 : jrP σ → jrM σ → ((x180 : Int32).toInt, (x181 : Int32).toInt) = jrV σ := fun pr mm => (q197 pr mm).1.fin (by omega) (by omega) (by omega) (by omega) (by omega) (by omega)
                   exact by exact hret x181 σ235 τ _ _ _ _ rfl ⟨rfl, (fun i hi => ((jnp i eσ235 (imp_206 i hi)).trans (f193 i hi))), (fun i hi => ((jkp i eσ235 (imp_207 i hi)).trans (f194 i hi))), p236, p237, p238, (fun pr mm => ⟨by rw [← k243 pr mm]; exact ⟨by show (σ235 55 37).toInt = if (x180 : Int32).toInt < 0 then -2 else (x180 : Int32).toInt; rw [if_neg (by omega)]; omega, rfl⟩, (jrEq.m (σ := σ184) (σ' := σ235) ⟨⟨(jnp 56 eσ235 (of_decide_eq_true rfl)), (jnp 60 eσ235 (of_decide_eq_true rfl)), (jnp 61 eσ235 (of_decide_eq_true rfl)), (jnp 62 eσ235 (of_decide_eq_true rfl)), (jnp 64 eσ235 (of_decide_eq_true rfl)), (jnp 65 eσ235 (of_decide_eq_true rfl))⟩, (jkp 6 eσ235 (of_decide_eq_true rfl)), (jkp 9 eσ235 (of_decide_eq_true rfl)), (jkp 10 eσ235 (of_decide_eq_true rfl)), (jkp 12 eσ235 (of_decide_eq_true rfl)), (jkp 13 eσ235 (of_decide_eq_true rfl)), (jkp 30 eσ235 (of_decide_eq_true rfl)), (jkp 31 eσ235 (of_decide_eq_true rfl)), (jkp 42 eσ235 (of_decide_eq_true rfl))⟩ (jnp 78 eσ235 (of_decide_eq_true rfl)) (jnp 74 eσ235 (of_decide_eq_true rfl)) (jnp 75 eσ235 (of_decide_eq_true rfl)) (jnp 76 eσ235 (of_decide_eq_true rfl)) (jnp 77 eσ235 (of_decide_eq_true rfl)) (q197 pr mm).2)⟩), (by omega), ⟨trivial, (by omega)⟩⟩ hP hS dX12_bestFrom_194
              · have kc201 := jnle c201 rfl rfl
                refine lv_aload_n hx hb dX12_bestFrom_94 rfl (lv_at hl 6 rfl) ?_
                refine lv_iload hx hb dX12_bestFrom_95 (lv_at hl 0 rfl) ?_
                refine jcallV (As := [.int x182]) (rest := []) ⟨hx, hb, hml, hown, hts⟩ hK hP hA hS hZ (c_X12_mayBowl l D cI cL ad zz hJ σ184 τ x182 (x182.toInt) rfl (by omega)) cw_RX12_249 (jc_55 cI cL ad σ184 τ) rfl ⟨by dsimp only; omega, by dsimp only; omega⟩ rfl rfl rfl hl.1 rfl (Nat.le_of_ble_eq_true rfl) dX12_bestFrom_97 ⟨Nat.zero_le _, Nat.zero_le _⟩ (fun r245 σ244 τ244 H locs h244 hP hS => ?_)
                obtain ⟨⟨rfl, rfl⟩, h244⟩ := h244
                rcases h244 with h246 | h247
                · obtain ⟨q249, k248⟩ := h246
                  exact by
                   have q249 := q249.symm
                   subst q249
                   refine lv_if_ne (tgt := 106) hx hb dX12_bestFrom_100 (of_decide_eq_true rfl) (fun _ => ?_) (fun c => absurd c (of_decide_eq_true rfl))
                   refine lv_aload_n hx hb dX12_bestFrom_106 rfl (lv_at hl 6 rfl) ?_
                   refine lv_iload hx hb dX12_bestFrom_107 (lv_at hl 0 rfl) ?_
                   have I250 : jI101 σ184 := jI101_fr (f194 4 (of_decide_eq_true rfl)) (f194 5 (of_decide_eq_true rfl)) (f193 56 (of_decide_eq_true rfl)) (f193 57 (of_decide_eq_true rfl)) (f193 58 (of_decide_eq_true rfl)) (f193 59 (of_decide_eq_true rfl)) hI101
                   have I251 : jI102 σ184 := jI102_fr (f194 6 (of_decide_eq_true rfl)) (f193 60 (of_decide_eq_true rfl)) (f193 61 (of_decide_eq_true rfl)) hI102
                   have I252 : jI103 σ184 := jI103_fr (f194 9 (of_decide_eq_true rfl)) hI103
                   have I253 : jI104 σ184 := jI104_fr (f194 10 (of_decide_eq_true rfl)) (f194 12 (of_decide_eq_true rfl)) (f194 13 (of_decide_eq_true rfl)) (f193 62 (of_decide_eq_true rfl)) (f193 67 (of_decide_eq_true rfl)) hI104
                   have I254 : jI105 σ184 := jI105_fr (f194 15 (of_decide_eq_true rfl)) (f193 65 (of_decide_eq_true rfl)) hI105
                   have I255 : jI106 σ184 := jI106_fr (f194 32 (of_decide_eq_true rfl)) (f193 70 (of_decide_eq_true rfl)) (f193 71 (of_decide_eq_true rfl)) (f193 72 (of_decide_eq_true rfl)) hI106
                   have I256 : jI120 σ184 := jI120_fr (f194 10 (of_decide_eq_true rfl)) (f194 12 (of_decide_eq_true rfl)) (f194 25 (of_decide_eq_true rfl)) (f194 26 (of_decide_eq_true rfl)) (f194 27 (of_decide_eq_true rfl)) (f193 68 (of_decide_eq_true rfl)) hI120
                   have p257 : jTR σ184 := jTR.fr (f193 64 (of_decide_eq_true rfl)) (f193 65 (of_decide_eq_true rfl)) hs_jTR
                   have z258 : (σ184 55 25).toInt = (σ 55 25).toInt := (congrArg Int32.toInt (show σ184 55 25 = (σ 55 25) from (f194 25 (of_decide_eq_true rfl))))
                   have z259 : (σ184 55 10).toInt = (σ 55 10).toInt := (congrArg Int32.toInt (show σ184 55 10 = (σ 55 10) from (f194 10 (of_decide_eq_true rfl))))
                   have z260 : (σ184 55 12).toInt = (σ 55 12).toInt := (congrArg Int32.toInt (show σ184 55 12 = (σ 55 12) from (f194 12 (of_decide_eq_true rfl))))
                   exact by
                    refine jcallV (As := [.int x182]) (rest := []) ⟨hx, hb, hml, hown, hts⟩ hK hP hA hS hZ (h_mean σ184 τ x182 (x182.toInt) rfl I250 I251 I252 I253 I254 I255 I256 p195 p257 p196 (by omega) (by omega) (by omega) (by omega)) cw_RX12_318 (jc_55 cI cL ad σ184 τ) rfl ⟨by dsimp only; omega, by dsimp only; omega⟩ rfl rfl rfl hl.1 rfl (Nat.le_of_ble_eq_true rfl) dX12_bestFrom_109 ⟨Nat.zero_le _, Nat.zero_le _⟩ (fun r262 σ261 τ261 H locs h261 hP hS => ?_)
                    obtain ⟨rfl, f263, f264, p265, p266, p267, w268, h261⟩ := h261
                    have h270 := h261
                    obtain ⟨q272, k271⟩ := h270
                    refine lv_istore (lv' := [(7, .int r262), (6, .int x182), (5, .int x181), (4, .int x180), (3, .int (-1)), (2, .int x43), (1, .int r38), (0, .ref (ad 55))]) hx hb dX12_bestFrom_112 hl (of_decide_eq_true rfl) rfl (fun ls hl => ?_)
                    refine lv_iload hx hb dX12_bestFrom_114 (lv_at hl 0 rfl) ?_
                    refine lv_iload hx hb dX12_bestFrom_116 (lv_at hl 2 rfl) ?_
                    refine lv_icmp_ge (tgt := 129) hx hb dX12_bestFrom_118 (of_decide_eq_true rfl) (fun c273 => ?_) (fun c273 => ?_)
                    · have kc273 := jle c273 rfl rfl
                      obtain ⟨x274, ex274⟩ : ∃ y : Int32, y = x182 + 1 := ⟨_, rfl⟩
                      exact by
                       have tx274 : x274.toInt = x182.toInt + 1 := (jadd ex274 rfl jz_1 (by omega) (by omega)).trans (by omega)
                       refine lv_iinc (v := x274) (lv' := [(6, .int x274), (7, .int r262), (5, .int x181), (4, .int x180), (3, .int (-1)), (2, .int x43), (1, .int r38), (0, .ref (ad 55))]) hx hb dX12_bestFrom_129 hl (k := 1) rfl (by rw [ex274]; rfl) (of_decide_eq_true rfl) rfl (fun ls hl => ?_)
                       refine lv_goto (tgt := 85) hx hb dX12_bestFrom_132 (of_decide_eq_true rfl) ?_
                       have z275 : (σ261 55 26).toInt = (σ 55 26).toInt := (congrArg Int32.toInt (show σ261 55 26 = (σ 55 26) from ((f264 26 (of_decide_eq_true rfl)).trans (f194 26 (of_decide_eq_true rfl)))))
                       have z276 : (σ261 55 6).toInt = (σ 55 6).toInt := (congrArg Int32.toInt (show σ261 55 6 = (σ 55 6) from ((f264 6 (of_decide_eq_true rfl)).trans m200)))
                       have z277 : (σ184 55 27).toInt = (σ 55 27).toInt := (congrArg Int32.toInt (show σ184 55 27 = (σ 55 27) from (f194 27 (of_decide_eq_true rfl))))
                       exact by exact ihlp178 x180 x181 x274 σ261 _ _ ls (by have h92 := tx274; omega) (by have h92 := tx274; omega) (by have h92 := tx274; omega) (by have h92 := tx274; omega) (by have h92 := tx274; omega) (by have h92 := tx274; omega) (by have h92 := tx274; omega) (fun i hi => ((f263 i hi).trans (f193 i hi))) (fun i hi => ((f264 i hi).trans (f194 i hi)))  p265 p267 (fun pr mm => by have prh : jrP σ184 := ((jrEq.v (σ := σ) (σ' := σ184) ⟨⟨(f193 56 (of_decide_eq_true rfl)), (f193 60 (of_decide_eq_true rfl)), (f193 61 (of_decide_eq_true rfl)), (f193 62 (of_decide_eq_true rfl)), (f193 64 (of_decide_eq_true rfl)), (f193 65 (of_decide_eq_true rfl))⟩, (f194 6 (of_decide_eq_true rfl)), (f194 9 (of_decide_eq_true rfl)), (f194 10 (of_decide_eq_true rfl)), (f194 12 (of_decide_eq_true rfl)), (f194 13 (of_decide_eq_true rfl)), (f194 30 (of_decide_eq_true rfl)), (f194 31 (of_decide_eq_true rfl)), (f194 42 (of_decide_eq_true rfl))⟩ (f193 68 (of_decide_eq_true rfl)) (f193 69 (of_decide_eq_true rfl)) (f194 25 (of_decide_eq_true rfl)) (f194 26 (of_decide_eq_true rfl)) (f194 27 (of_decide_eq_true rfl))).2 pr); have q := q197 pr mm; have r := w268 prh q.2 k248 (by omega); have my := (prh.my (by omega) (by omega) (by omega)).mp k248; rw [show σ184 55 27 = σ 55 27 from (f194 27 (of_decide_eq_true rfl)), (show jrLf σ184 = jrLf σ from by unfold jrLf; rw [(show jrEq σ σ184 from ⟨⟨(f193 56 (of_decide_eq_true rfl)), (f193 60 (of_decide_eq_true rfl)), (f193 61 (of_decide_eq_true rfl)), (f193 62 (of_decide_eq_true rfl)), (f193 64 (of_decide_eq_true rfl)), (f193 65 (of_decide_eq_true rfl))⟩, (f194 6 (of_decide_eq_true rfl)), (f194 9 (of_decide_eq_true rfl)), (f194 10 (of_decide_eq_true rfl)), (f194 12 (of_decide_eq_true rfl)), (f194 13 (of_decide_eq_true rfl)), (f194 30 (of_decide_eq_true rfl)), (f194 31 (of_decide_eq_true rfl)), (f194 42 (of_decide_eq_true rfl))⟩).ov, show σ184 55 6 = σ 55 6 from (f194 6 (of_decide_eq_true rfl)), show jrW σ184 = jrW σ from by funext c; unfold jrW; rw [show σ184 69 = σ 69 from (f193 69 (of_decide_eq_true rfl))]])] at my; have ge : (r262 : Int32).toInt = jrG σ (x182 : Int32).toInt.toNat := (by rw [r.1, (show jrEq σ σ184 from ⟨⟨(f193 56 (of_decide_eq_true rfl)), (f193 60 (of_decide_eq_true rfl)), (f193 61 (of_decide_eq_true rfl)), (f193 62 (of_decide_eq_true rfl)), (f193 64 (of_decide_eq_true rfl)), (f193 65 (of_decide_eq_true rfl))⟩, (f194 6 (of_decide_eq_true rfl)), (f194 9 (of_decide_eq_true rfl)), (f194 10 (of_decide_eq_true rfl)), (f194 12 (of_decide_eq_true rfl)), (f194 13 (of_decide_eq_true rfl)), (f194 30 (of_decide_eq_true rfl)), (f194 31 (of_decide_eq_true rfl)), (f194 42 (of_decide_eq_true rfl))⟩).g (f193 68 (of_decide_eq_true rfl)) (f193 69 (of_decide_eq_true rfl)) (f194 25 (of_decide_eq_true rfl)) (f194 26 (of_decide_eq_true rfl))]); exact ⟨q.1.keep (by omega) ge (by omega) (by omega) (by have h9 := tx274; omega), r.2⟩) hP hS (lv_sub hl [0, 2, 3, 4, 5, 6, 7] rfl)
                    · have kc273 := jnle c273 rfl rfl
                      refine lv_iload hx hb dX12_bestFrom_121 (lv_at hl 0 rfl) ?_
                      exact by
                       refine lv_istore (lv' := [(5, .int r262), (7, .int r262), (6, .int x182), (4, .int x180), (3, .int (-1)), (2, .int x43), (1, .int r38), (0, .ref (ad 55))]) hx hb dX12_bestFrom_123 hl (of_decide_eq_true rfl) rfl (fun ls hl => ?_)
                       refine lv_iload hx hb dX12_bestFrom_125 (lv_at hl 2 rfl) ?_
                       refine lv_istore (lv' := [(4, .int x182), (5, .int r262), (7, .int r262), (6, .int x182), (3, .int (-1)), (2, .int x43), (1, .int r38), (0, .ref (ad 55))]) hx hb dX12_bestFrom_127 hl (of_decide_eq_true rfl) rfl (fun ls hl => ?_)
                       obtain ⟨x278, ex278⟩ : ∃ y : Int32, y = x182 + 1 := ⟨_, rfl⟩
                       have tx278 : x278.toInt = x182.toInt + 1 := (jadd ex278 rfl jz_1 (by omega) (by omega)).trans (by omega)
                       refine lv_iinc (v := x278) (lv' := [(6, .int x278), (4, .int x182), (5, .int r262), (7, .int r262), (3, .int (-1)), (2, .int x43), (1, .int r38), (0, .ref (ad 55))]) hx hb dX12_bestFrom_129 hl (k := 3) rfl (by rw [ex278]; rfl) (of_decide_eq_true rfl) rfl (fun ls hl => ?_)
                       refine lv_goto (tgt := 85) hx hb dX12_bestFrom_132 (of_decide_eq_true rfl) ?_
                       have z279 : (σ261 55 26).toInt = (σ 55 26).toInt := (congrArg Int32.toInt (show σ261 55 26 = (σ 55 26) from ((f264 26 (of_decide_eq_true rfl)).trans (f194 26 (of_decide_eq_true rfl)))))
                       have z280 : (σ261 55 6).toInt = (σ 55 6).toInt := (congrArg Int32.toInt (show σ261 55 6 = (σ 55 6) from ((f264 6 (of_decide_eq_true rfl)).trans m200)))
                       exact by
                        have z281 : (σ184 55 27).toInt = (σ 55 27).toInt := (congrArg Int32.toInt (show σ184 55 27 = (σ 55 27) from (f194 27 (of_decide_eq_true rfl))))
                        exact by exact ihlp178 x182 r262 x278 σ261 _ _ ls (by have h92 := tx278; omega) (by have h92 := tx278; omega) (by have h92 := tx278; omega) (by have h92 := tx278; omega) (by have h92 := tx278; omega) (by have h92 := tx278; omega) (by have h92 := tx278; omega) (fun i hi => ((f263 i hi).trans (f193 i hi))) (fun i hi => ((f264 i hi).trans (f194 i hi)))  p265 p267 (fun pr mm => by have prh : jrP σ184 := ((jrEq.v (σ := σ) (σ' := σ184) ⟨⟨(f193 56 (of_decide_eq_true rfl)), (f193 60 (of_decide_eq_true rfl)), (f193 61 (of_decide_eq_true rfl)), (f193 62 (of_decide_eq_true rfl)), (f193 64 (of_decide_eq_true rfl)), (f193 65 (of_decide_eq_true rfl))⟩, (f194 6 (of_decide_eq_true rfl)), (f194 9 (of_decide_eq_true rfl)), (f194 10 (of_decide_eq_true rfl)), (f194 12 (of_decide_eq_true rfl)), (f194 13 (of_decide_eq_true rfl)), (f194 30 (of_decide_eq_true rfl)), (f194 31 (of_decide_eq_true rfl)), (f194 42 (of_decide_eq_true rfl))⟩ (f193 68 (of_decide_eq_true rfl)) (f193 69 (of_decide_eq_true rfl)) (f194 25 (of_decide_eq_true rfl)) (f194 26 (of_decide_eq_true rfl)) (f194 27 (of_decide_eq_true rfl))).2 pr); have q := q197 pr mm; have r := w268 prh q.2 k248 (by omega); have my := (prh.my (by omega) (by omega) (by omega)).mp k248; rw [show σ184 55 27 = σ 55 27 from (f194 27 (of_decide_eq_true rfl)), (show jrLf σ184 = jrLf σ from by unfold jrLf; rw [(show jrEq σ σ184 from ⟨⟨(f193 56 (of_decide_eq_true rfl)), (f193 60 (of_decide_eq_true rfl)), (f193 61 (of_decide_eq_true rfl)), (f193 62 (of_decide_eq_true rfl)), (f193 64 (of_decide_eq_true rfl)), (f193 65 (of_decide_eq_true rfl))⟩, (f194 6 (of_decide_eq_true rfl)), (f194 9 (of_decide_eq_true rfl)), (f194 10 (of_decide_eq_true rfl)), (f194 12 (of_decide_eq_true rfl)), (f194 13 (of_decide_eq_true rfl)), (f194 30 (of_decide_eq_true rfl)), (f194 31 (of_decide_eq_true rfl)), (f194 42 (of_decide_eq_true rfl))⟩).ov, show σ184 55 6 = σ 55 6 from (f194 6 (of_decide_eq_true rfl)), show jrW σ184 = jrW σ from by funext c; unfold jrW; rw [show σ184 69 = σ 69 from (f193 69 (of_decide_eq_true rfl))]])] at my; have ge : (r262 : Int32).toInt = jrG σ (x182 : Int32).toInt.toNat := (by rw [r.1, (show jrEq σ σ184 from ⟨⟨(f193 56 (of_decide_eq_true rfl)), (f193 60 (of_decide_eq_true rfl)), (f193 61 (of_decide_eq_true rfl)), (f193 62 (of_decide_eq_true rfl)), (f193 64 (of_decide_eq_true rfl)), (f193 65 (of_decide_eq_true rfl))⟩, (f194 6 (of_decide_eq_true rfl)), (f194 9 (of_decide_eq_true rfl)), (f194 10 (of_decide_eq_true rfl)), (f194 12 (of_decide_eq_true rfl)), (f194 13 (of_decide_eq_true rfl)), (f194 30 (of_decide_eq_true rfl)), (f194 31 (of_decide_eq_true rfl)), (f194 42 (of_decide_eq_true rfl))⟩).g (f193 68 (of_decide_eq_true rfl)) (f193 69 (of_decide_eq_true rfl)) (f194 25 (of_decide_eq_true rfl)) (f194 26 (of_decide_eq_true rfl))]); exact ⟨q.1.take (by omega) my ge (by omega) (by omega) (by omega) (by have h9 := tx278; omega), r.2⟩) hP hS (lv_sub hl [0, 2, 1, 4, 5, 6, 7] rfl)
                · obtain ⟨q283, k282⟩ := h247
                  have q283 := q283.symm
                  subst q283
                  have e284 : jmb σ184 x182 = jmb σ x182 := (jmb_fr (f194 27 (of_decide_eq_true rfl)) (f194 30 (of_decide_eq_true rfl)) (f194 31 (of_decide_eq_true rfl)) (f193 56 (of_decide_eq_true rfl)) (f193 69 (of_decide_eq_true rfl)) x182)
                  have n285 : ¬ x182 = B33 := fun h => absurd ((w36).symm.trans (by rw [← h]; exact e284.symm.trans k282) : (1 : Int32) = 0) (of_decide_eq_true rfl)
                  have k286 := jne n285 rfl rfl
                  refine lv_if_ne (tgt := 106) hx hb dX12_bestFrom_100 (of_decide_eq_true rfl) (fun c => absurd (of_decide_eq_true rfl) c) (fun _ => ?_)
                  exact by
                   refine lv_goto (tgt := 129) hx hb dX12_bestFrom_103 (of_decide_eq_true rfl) ?_
                   obtain ⟨x287, ex287⟩ : ∃ y : Int32, y = x182 + 1 := ⟨_, rfl⟩
                   have tx287 : x287.toInt = x182.toInt + 1 := (jadd ex287 rfl jz_1 (by omega) (by omega)).trans (by omega)
                   refine lv_iinc (v := x287) (lv' := [(6, .int x287), (5, .int x181), (4, .int x180), (3, .int (-1)), (2, .int x43), (1, .int r38), (0, .ref (ad 55))]) hx hb dX12_bestFrom_129 hl (k := 0) rfl (by rw [ex287]; rfl) (of_decide_eq_true rfl) rfl (fun ls hl => ?_)
                   refine lv_goto (tgt := 85) hx hb dX12_bestFrom_132 (of_decide_eq_true rfl) ?_
                   have z288 : (σ184 55 25).toInt = (σ 55 25).toInt := (congrArg Int32.toInt (show σ184 55 25 = (σ 55 25) from (f194 25 (of_decide_eq_true rfl))))
                   have z289 : (σ184 55 27).toInt = (σ 55 27).toInt := (congrArg Int32.toInt (show σ184 55 27 = (σ 55 27) from (f194 27 (of_decide_eq_true rfl))))
                   exact by exact ihlp178 x180 x181 x287 σ184 _ _ ls (by have h92 := tx287; omega) (by have h92 := tx287; omega) (by have h92 := tx287; omega) (by have h92 := tx287; omega) (by have h92 := tx287; omega) (by have h92 := tx287; omega) (by have h92 := tx287; omega) (fun i hi => (f193 i hi)) (fun i hi => (f194 i hi))  p195 p196 (fun pr mm => by have prh : jrP σ184 := ((jrEq.v (σ := σ) (σ' := σ184) ⟨⟨(f193 56 (of_decide_eq_true rfl)), (f193 60 (of_decide_eq_true rfl)), (f193 61 (of_decide_eq_true rfl)), (f193 62 (of_decide_eq_true rfl)), (f193 64 (of_decide_eq_true rfl)), (f193 65 (of_decide_eq_true rfl))⟩, (f194 6 (of_decide_eq_true rfl)), (f194 9 (of_decide_eq_true rfl)), (f194 10 (of_decide_eq_true rfl)), (f194 12 (of_decide_eq_true rfl)), (f194 13 (of_decide_eq_true rfl)), (f194 30 (of_decide_eq_true rfl)), (f194 31 (of_decide_eq_true rfl)), (f194 42 (of_decide_eq_true rfl))⟩ (f193 68 (of_decide_eq_true rfl)) (f193 69 (of_decide_eq_true rfl)) (f194 25 (of_decide_eq_true rfl)) (f194 26 (of_decide_eq_true rfl)) (f194 27 (of_decide_eq_true rfl))).2 pr); have q := q197 pr mm; have my : ¬ jMy4 (σ184 55 27).toInt (jrLf σ184) (x182 : Int32).toInt.toNat = true := fun z => absurd ((prh.my (by omega) (by omega) (by omega)).mpr z) (by rw [k282]; decide); rw [show σ184 55 27 = σ 55 27 from (f194 27 (of_decide_eq_true rfl)), (show jrLf σ184 = jrLf σ from by unfold jrLf; rw [(show jrEq σ σ184 from ⟨⟨(f193 56 (of_decide_eq_true rfl)), (f193 60 (of_decide_eq_true rfl)), (f193 61 (of_decide_eq_true rfl)), (f193 62 (of_decide_eq_true rfl)), (f193 64 (of_decide_eq_true rfl)), (f193 65 (of_decide_eq_true rfl))⟩, (f194 6 (of_decide_eq_true rfl)), (f194 9 (of_decide_eq_true rfl)), (f194 10 (of_decide_eq_true rfl)), (f194 12 (of_decide_eq_true rfl)), (f194 13 (of_decide_eq_true rfl)), (f194 30 (of_decide_eq_true rfl)), (f194 31 (of_decide_eq_true rfl)), (f194 42 (of_decide_eq_true rfl))⟩).ov, show σ184 55 6 = σ 55 6 from (f194 6 (of_decide_eq_true rfl)), show jrW σ184 = jrW σ from by funext c; unfold jrW; rw [show σ184 69 = σ 69 from (f193 69 (of_decide_eq_true rfl))]])] at my; exact ⟨q.1.skip (by omega) my (by have h9 := tx287; omega), q.2⟩) hP hS (lv_sub hl [0, 1, 2, 3, 4, 5, 6] rfl)
         exact by exact lp178 1000000 (-1) 2000000000 0 σ _ _ ls (by have h90 := jz_m1; have h91 := jz_2000000000; have h92 := jz_0; omega) (by have h90 := jz_m1; have h91 := jz_2000000000; have h92 := jz_0; omega) (by have h90 := jz_m1; have h91 := jz_2000000000; have h92 := jz_0; omega) (by have h90 := jz_m1; have h91 := jz_2000000000; have h92 := jz_0; omega) (by have h90 := jz_m1; have h91 := jz_2000000000; have h92 := jz_0; omega) (by have h90 := jz_m1; have h91 := jz_2000000000; have h92 := jz_0; omega) (by have h90 := jz_m1; have h91 := jz_2000000000; have h92 := jz_0; omega) (fun _ _ => rfl) (fun _ _ => rfl)  hs_jKept hs_jqSt (fun pr mm => ⟨jrB.first (by have h9 := jz_0; omega) (by have h9 := jz_m1; omega) (by have h9 := jz_2000000000; omega), mm⟩) hP hS hl
set_option maxHeartbeats 4000000 in
set_option maxRecDepth 100000 in
theorem c_X12_bests_bw_g (l : Launch) (D : va_G) (cI cL : ClassId) (ad zz : Nat → Nat) (hJ : jD ad) (n : Nat) (h_mean : ∀ (σ : Nat → Nat → Int32) (τ : Nat → Nat → Int64) (a1 : Int32) (A1 : Int) (t1 : a1.toInt = A1) (hI101 : jI101 σ) (hI102 : jI102 σ) (hI103 : jI103 σ) (hI104 : jI104 σ) (hI105 : jI105 σ) (hI106 : jI106 σ) (hI120 : jI120 σ) (hs_jKept : jKept σ) (hs_jTR : jTR σ) (hs_jqSt : jqSt σ) (hp0 : 0 ≤ A1 ∧ A1 ≤ 3) (hp1 : (σ 55 25).toInt < (σ 55 10).toInt) (hp2 : (σ 55 26).toInt < (σ 55 12).toInt) (hp3 : (σ 55 12).toInt - (σ 55 26).toInt ≤ (((n) : Nat) : Int)), jM l yX12_meanWith cX12_meanWith 8 (some .int) ({ frames := (69 + 4 * (n)), cells := 0, slots := 0, locals := (3034 + 240 * (n)) }) D cI cL ad zz [.ref (ad 55), .int a1] σ τ (fun r σ' τ' => τ = τ' ∧ (∀ i : Nat, (i < 55 ∨ 55 < i) ∧ (i < 66 ∨ 66 < i) ∧ (i < 74 ∨ 78 < i) → σ' i = σ i) ∧ (∀ k : Nat, (k < 18 ∨ 18 < k) ∧ (k < 19 ∨ 19 < k) ∧ (k < 20 ∨ 20 < k) ∧ (k < 21 ∨ 21 < k) ∧ (k < 22 ∨ 22 < k) ∧ (k < 37 ∨ 37 < k) → σ' 55 k = σ 55 k) ∧ (jKept σ') ∧ (jTR σ') ∧ (jqSt σ') ∧ ((jrP σ → jrM σ → jmb σ a1 = 1 → A1 < (σ 55 6).toInt → r.toInt = jrG σ (A1).toNat ∧ jrM σ')) ∧ ((True ∧ (0 ≤ r.toInt ∧ r.toInt ≤ -(1023000 * (σ 55 26).toInt) + 12276000))))) (σ : Nat → Nat → Int32) (τ : Nat → Nat → Int64) (B0 : Int32) (hB0 : jmb σ B0 = 1) (hI101 : jI101 σ) (hI102 : jI102 σ) (hI103 : jI103 σ) (hI104 : jI104 σ) (hI105 : jI105 σ) (hI106 : jI106 σ) (hI120 : jI120 σ) (hs_jKept : jKept σ) (hs_jTR : jTR σ) (hs_jqSt : jqSt σ) (hp0 : 0 ≤ B0.toInt ∧ B0.toInt < (σ 55 6).toInt) (hp1 : (σ 55 25).toInt < (σ 55 10).toInt) (hp2 : (σ 55 26).toInt < (σ 55 12).toInt) (hp3 : (σ 55 12).toInt - (σ 55 26).toInt ≤ (((n) : Nat) : Int)) : jM l yX12_bestFrom cX12_bestFrom 8 (some .int) ({ frames := (70 + 4 * (n)), cells := 0, slots := 0, locals := (3114 + 240 * (n)) }) D cI cL ad zz [.ref (ad 55)] σ τ (fun r σ' τ' => τ = τ' ∧ (∀ i : Nat, (i < 55 ∨ 55 < i) ∧ (i < 66 ∨ 66 < i) ∧ (i < 74 ∨ 78 < i) → σ' i = σ i) ∧ (∀ k : Nat, (k < 18 ∨ 18 < k) ∧ (k < 19 ∨ 19 < k) ∧ (k < 20 ∨ 20 < k) ∧ (k < 21 ∨ 21 < k) ∧ (k < 22 ∨ 22 < k) ∧ (k < 37 ∨ 37 < k) → σ' 55 k = σ 55 k) ∧ (jKept σ') ∧ (jTR σ') ∧ (jqSt σ') ∧ ((jrP σ → jrM σ → ((σ' 55 37).toInt = (if (jrV σ).1 < 0 then -2 else (jrV σ).1) ∧ r.toInt = (jrV σ).2) ∧ jrM σ')) ∧ (0 ≤ (σ' 55 37).toInt ∧ (σ' 55 37).toInt ≤ 3) ∧ ((True ∧ (0 ≤ r.toInt ∧ r.toInt ≤ -(1023000 * (σ 55 26).toInt) + 12276000)))) := by
  refine jM.of hJ (by decide +kernel) (nt := .int) rfl (Nat.le_of_ble_eq_true rfl) ?_
  intro p e s m args below meth c Q ls hC hret hl hP
  obtain ⟨hx, hb, hr, hml, hown, hts, hK, -, hlocks, hZ⟩ := hC
  have hown : s.vm.findClass RX12 = some m.cls := hown
  have hS : va_S (jA ad) s.heap s.heap [] := va_S.rf
  have hA : ∀ q, jA ad q → jA ad q := fun _ h => h
  have hl : lv_has ls 8 [(0, .ref (ad 55))] := hl
  obtain ⟨i1, w2, w3⟩ : (0 ≤ (σ 55 6).toInt ∧ (σ 55 6).toInt ≤ 4) ∧ (∀ k : Nat, k < 4 → 0 ≤ (σ 60 k).toInt ∧ (σ 60 k).toInt ≤ 50) ∧ (∀ k : Nat, k < 4 → 0 ≤ (σ 61 k).toInt ∧ (σ 61 k).toInt ≤ 20) := id hI102
  obtain ⟨i4, i5, i6, w7, w8⟩ : (1 ≤ (σ 55 10).toInt ∧ (σ 55 10).toInt ≤ 8) ∧ (1 ≤ (σ 55 12).toInt ∧ (σ 55 12).toInt ≤ 12) ∧ (0 ≤ (σ 55 13).toInt ∧ (σ 55 13).toInt ≤ 999) ∧ (∀ k : Nat, k < 8 → 0 ≤ (σ 62 k).toInt ∧ (σ 62 k).toInt ≤ 3) ∧ (∀ k : Nat, k < 8 → 0 ≤ (σ 67 k).toInt ∧ (σ 67 k).toInt ≤ 3) := id hI104
  obtain ⟨i9, i10, i11, i12, i13, w14⟩ : (0 ≤ (σ 55 25).toInt) ∧ ((σ 55 25).toInt ≤ (σ 55 10).toInt) ∧ (0 ≤ (σ 55 26).toInt) ∧ ((σ 55 26).toInt ≤ (σ 55 12).toInt) ∧ ((-1) ≤ (σ 55 27).toInt ∧ (σ 55 27).toInt ≤ 3) ∧ (∀ k : Nat, k < 4 → 0 ≤ (σ 68 k).toInt ∧ (σ 68 k).toInt ≤ 3) := id hI120
  refine lv_aload_n hx hb dX12_bestFrom_0 rfl (lv_at hl 0 rfl) ?_
  have p15 : jmb σ B0 = 1 := (jmb_fr rfl rfl rfl rfl rfl B0).trans hB0
  exact by
   refine jcallV (As := []) (rest := []) ⟨hx, hb, hml, hown, hts⟩ hK hP hA hS hZ (c_X12_isEnded_w l D cI cL ad zz hJ σ τ B0 p15 hI102 hI104 hI120 (by omega) (by omega) (by omega)) cw_RX12_307 (jc_55 cI cL ad σ τ) rfl ⟨by dsimp only; omega, by dsimp only; omega⟩ rfl rfl rfl hl.1 rfl (Nat.le_of_ble_eq_true rfl) dX12_bestFrom_1 ⟨Nat.zero_le _, Nat.zero_le _⟩ (fun r17 σ16 τ16 H locs h16 hP hS => ?_)
   obtain ⟨⟨rfl, rfl⟩, h16⟩ := h16
   have h18 := h16
   obtain ⟨q20, k19⟩ := h18
   have q20 := q20.symm
   subst q20
   refine lv_if_eq (tgt := 15) hx hb dX12_bestFrom_4 (of_decide_eq_true rfl) (fun _ => ?_) (fun c => absurd (of_decide_eq_true rfl) c)
   refine lv_aload_n hx hb dX12_bestFrom_15 rfl (lv_at hl 0 rfl) ?_
   refine jcallV (As := []) (rest := []) ⟨hx, hb, hml, hown, hts⟩ hK hP hA hS hZ (c_X12_stateNumber l D cI cL ad zz hJ σ τ hI102 hI120) cw_RX12_311 (jc_55 cI cL ad σ τ) rfl ⟨by dsimp only; omega, by dsimp only; omega⟩ rfl rfl rfl hl.1 rfl (Nat.le_of_ble_eq_true rfl) dX12_bestFrom_16 ⟨Nat.zero_le _, Nat.zero_le _⟩ (fun r22 σ21 τ21 H locs h21 hP hS => ?_)
   obtain ⟨⟨rfl, rfl⟩, w23, h21⟩ := h21
   refine lv_istore_n (lv' := [(1, .int r22), (0, .ref (ad 55))]) hx hb dX12_bestFrom_19 rfl hl (of_decide_eq_true rfl) rfl (fun ls hl => ?_)
   refine lv_bipush (v := 16) hx hb dX12_bestFrom_20 (of_decide_eq_true rfl) ?_
   refine lv_aload_n hx hb dX12_bestFrom_22 rfl (lv_at hl 1 rfl) ?_
   refine va_get (D := D) hx hb hts inlX12 hown hK hP 55 (jc_55 cI cL ad σ τ) rfl 26 (of_decide_eq_true rfl) (hts _ kw_23_5) (fun _ h9 => h9) rfl dX12_bestFrom_23 ?_
   have g24 := jrg (rfl : (σ 55 26).toInt = (σ 55 26).toInt)
   refine lv_imul hx hb dX12_bestFrom_26 ?_
   refine lv_topi (fun x25 ex25 => ?_)
   exact by
    have tx25 : x25.toInt = 16 * (σ 55 26).toInt := (jmul ex25 jz_16 rfl (by omega) (by omega)).trans (by omega)
    refine lv_aload_n hx hb dX12_bestFrom_27 rfl (lv_at hl 1 rfl) ?_
    refine va_get (D := D) hx hb hts inlX12 hown hK hP 55 (jc_55 cI cL ad σ τ) rfl 25 (of_decide_eq_true rfl) (hts _ kw_23_6) (fun _ h9 => h9) rfl dX12_bestFrom_28 ?_
    have g26 := jrg (rfl : (σ 55 25).toInt = (σ 55 25).toInt)
    refine lv_iadd hx hb dX12_bestFrom_31 ?_
    refine lv_topi (fun x27 ex27 => ?_)
    have tx27 : x27.toInt = 16 * (σ 55 26).toInt + (σ 55 25).toInt := (jadd ex27 tx25 rfl (by omega) (by omega)).trans (by omega)
    refine lv_istore_n (lv' := [(2, .int x27), (1, .int r22), (0, .ref (ad 55))]) hx hb dX12_bestFrom_32 rfl hl (of_decide_eq_true rfl) rfl (fun ls hl => ?_)
    refine lv_aload_n hx hb dX12_bestFrom_33 rfl (lv_at hl 2 rfl) ?_
    exact by
     refine lv_iload_n hx hb dX12_bestFrom_34 rfl (lv_at hl 1 rfl) ?_
     refine lv_iload_n hx hb dX12_bestFrom_35 rfl (lv_at hl 0 rfl) ?_
     refine jcallV (As := [.int r22, .int x27]) (rest := []) ⟨hx, hb, hml, hown, hts⟩ hK hP hA hS hZ (c_X12_spot l D cI cL ad zz hJ σ τ r22 (r22.toInt) rfl x27 (16 * (σ 55 26).toInt + (σ 55 25).toInt) tx27) cw_RX12_314 (jc_55 cI cL ad σ τ) rfl ⟨by dsimp only; omega, by dsimp only; omega⟩ rfl rfl rfl hl.1 rfl (Nat.le_of_ble_eq_true rfl) dX12_bestFrom_36 ⟨Nat.zero_le _, Nat.zero_le _⟩ (fun r29 σ28 τ28 H locs h28 hP hS => ?_)
     obtain ⟨⟨rfl, rfl⟩, h28⟩ := h28
     rcases h28 with h30 | h31
     · obtain ⟨q34, k32, k33⟩ := h30
       have k35 : (σ 78 r29.toNatClampNeg).toInt ≠ (σ 55 42).toInt ∨ (σ 75 r29.toNatClampNeg).toInt = 16 * (σ 55 26).toInt + (σ 55 25).toInt := k33.imp (fun q => jne q rfl rfl) (fun q => jeq q.2 rfl tx27)
       refine lv_istore_n (lv' := [(3, .int r29), (2, .int x27), (1, .int r22), (0, .ref (ad 55))]) hx hb dX12_bestFrom_39 rfl hl (of_decide_eq_true rfl) rfl (fun ls hl => ?_)
       refine lv_iload_n hx hb dX12_bestFrom_40 rfl (lv_at hl 0 rfl) ?_
       exact by
        refine lv_if_lt (tgt := 74) hx hb dX12_bestFrom_41 (of_decide_eq_true rfl) (fun c => absurd (jlt c rfl jz_0) (by omega)) (fun c36 => ?_)
        have kc36 := jnlt c36 rfl jz_0
        refine lv_aload_n hx hb dX12_bestFrom_44 rfl (lv_at hl 3 rfl) ?_
        refine va_get (D := D) hx hb hts inlX12 hown hK hP 55 (jc_55 cI cL ad σ τ) rfl 43 (of_decide_eq_true rfl) (hts _ kw_8_3) (fun _ h9 => h9) rfl dX12_bestFrom_45 ?_
        refine lv_iload_n hx hb dX12_bestFrom_48 rfl (lv_at hl 0 rfl) ?_
        refine jald hx hb hK hP (jc_78 cI cL ad σ τ) (jin rfl (by omega) (by omega)) dX12_bestFrom_49 ?_
        refine jtopr (y := (σ 78 r29.toNatClampNeg)) rfl ?_
        refine lv_aload_n hx hb dX12_bestFrom_50 rfl (lv_at hl 3 rfl) ?_
        refine va_get (D := D) hx hb hts inlX12 hown hK hP 55 (jc_55 cI cL ad σ τ) rfl 42 (of_decide_eq_true rfl) (hts _ kw_33_10) (fun _ h9 => h9) rfl dX12_bestFrom_51 ?_
        exact by
         refine lv_icmp_ne (tgt := 74) hx hb dX12_bestFrom_54 (of_decide_eq_true rfl) (fun c37 => ?_) (fun c37 => ?_)
         · have kc37 := jne c37 rfl rfl
           refine lv_iconst (v := (-1)) hx hb dX12_bestFrom_74 (of_decide_eq_true rfl) ?_
           refine lv_istore (lv' := [(4, .int (-1)), (3, .int r29), (2, .int x27), (1, .int r22), (0, .ref (ad 55))]) hx hb dX12_bestFrom_75 hl (of_decide_eq_true rfl) rfl (fun ls hl => ?_)
           refine lv_ldcw (v := 2000000000) hx hb hown (hts _ kw_34_4) dX12_bestFrom_77 ?_
           refine lv_istore (lv' := [(5, .int 2000000000), (4, .int (-1)), (3, .int r29), (2, .int x27), (1, .int r22), (0, .ref (ad 55))]) hx hb dX12_bestFrom_80 hl (of_decide_eq_true rfl) rfl (fun ls hl => ?_)
           refine lv_iconst (v := 0) hx hb dX12_bestFrom_82 (of_decide_eq_true rfl) ?_
           refine lv_istore (lv' := [(6, .int 0), (5, .int 2000000000), (4, .int (-1)), (3, .int r29), (2, .int x27), (1, .int r22), (0, .ref (ad 55))]) hx hb dX12_bestFrom_83 hl (of_decide_eq_true rfl) rfl (fun ls hl => ?_)
           have lp38 : ∀ (n39 : Nat) (x40 : Int32) (x41 : Int32) (x42 : Int32) (σ44 : Nat → Nat → Int32) (H : Heap) (locs : List Loc) (ls : Array Slot), (-x42.toInt + 4 : Int) < n39 → (-1) ≤ x40.toInt → x40.toInt ≤ 3 → 0 ≤ x42.toInt → x42.toInt ≤ 4 → ((0 ≤ x40.toInt ∧ 0 ≤ x41.toInt ∧ x41.toInt ≤ -(1023000 * (σ44 55 26).toInt) + 12276000) ∨ (x40.toInt = (-1) ∧ x41.toInt = 2000000000 ∧ x42.toInt ≤ B0.toInt)) → x42.toInt ≤ (σ44 55 6).toInt → (∀ i : Nat, (i < 55 ∨ 55 < i) ∧ (i < 66 ∨ 66 < i) ∧ (i < 74 ∨ 78 < i) → σ44 i = σ i) → (∀ k : Nat, (k < 18 ∨ 18 < k) ∧ (k < 19 ∨ 19 < k) ∧ (k < 20 ∨ 20 < k) ∧ (k < 21 ∨ 21 < k) ∧ (k < 22 ∨ 22 < k) ∧ (k < 37 ∨ 37 < k) → σ44 55 k = σ 55 k) → jKept σ44 → jqSt σ44 → ((jrP σ → jrM σ → jrB σ (x42 : Int32).toInt (x40 : Int32).toInt (x41 : Int32).toInt ∧ jrM σ44)) → jH D cI cL ad σ44 τ H → va_S (jA ad) s.heap H locs → lv_has ls 8 [(6, .int x42), (5, .int x41), (4, .int x40), (3, .int r29), (2, .int x27), (1, .int r22), (0, .ref (ad 55))] → W p l e ({ frames := (70 + 4 * (n)), cells := 0, slots := 0, locals := (3114 + 240 * (n)) }) s m args below meth c H locs 0 0 Q (F0 m 85 ls []) := by
             intro n39
             induction n39 with
             | zero => intro x40 x41 x42 σ44 H locs ls h46 h47 h48 h49 h50 h51 h52; have gx41 := jrg (rfl : x41.toInt = x41.toInt); exact absurd h46 (by omega)
             | succ n39 ihlp38 =>
               intro x40 x41 x42 σ44 H locs ls h46 h47 h48 h49 h50 h51 h52 f53 f54 p55 p56 q57 hP hS hl
               exact by
                have gx41 := jrg (rfl : x41.toInt = x41.toInt)
                have z58 : (σ44 55 26).toInt = (σ 55 26).toInt := (congrArg Int32.toInt (show σ44 55 26 = (σ 55 26) from (f54 26 (of_decide_eq_true rfl))))
                have z59 : (σ44 55 6).toInt = (σ 55 6).toInt := (congrArg Int32.toInt (show σ44 55 6 = (σ 55 6) from (f54 6 (of_decide_eq_true rfl))))
                refine lv_iload hx hb dX12_bestFrom_85 (lv_at hl 0 rfl) ?_
                refine lv_aload_n hx hb dX12_bestFrom_87 rfl (lv_at hl 6 rfl) ?_
                refine va_get (D := D) hx hb hts inlX12 hown hK hP 55 (jc_55 cI cL ad σ44 τ) rfl 6 (of_decide_eq_true rfl) (hts _ kw_9_13) (fun _ h9 => h9) rfl dX12_bestFrom_88 ?_
                have m60 : σ44 55 6 = (σ 55 6) := (f54 6 (of_decide_eq_true rfl))
                refine jtopr m60 ?_
                refine lv_icmp_ge (tgt := 135) hx hb dX12_bestFrom_91 (of_decide_eq_true rfl) (fun c61 => ?_) (fun c61 => ?_)
                · have kc61 := jle c61 rfl rfl
                  refine lv_aload_n hx hb dX12_bestFrom_135 rfl (lv_at hl 6 rfl) ?_
                  refine lv_iload_n hx hb dX12_bestFrom_136 rfl (lv_at hl 5 rfl) ?_
                  refine lv_iload_n hx hb dX12_bestFrom_137 rfl (lv_at hl 4 rfl) ?_
                  refine jcallV (As := [.int r22, .int x27]) (rest := []) ⟨hx, hb, hml, hown, hts⟩ hK hP hA hS hZ (c_X12_spot l D cI cL ad zz hJ σ44 τ r22 (r22.toInt) rfl x27 (16 * (σ 55 26).toInt + (σ 55 25).toInt) tx27) cw_RX12_314 (jc_55 cI cL ad σ44 τ) rfl ⟨by dsimp only; omega, by dsimp only; omega⟩ rfl rfl rfl hl.1 rfl (Nat.le_of_ble_eq_true rfl) dX12_bestFrom_138 ⟨Nat.zero_le _, Nat.zero_le _⟩ (fun r63 σ62 τ62 H locs h62 hP hS => ?_)
                  obtain ⟨⟨rfl, rfl⟩, h62⟩ := h62
                  rcases h62 with h64 | h65
                  · obtain ⟨q68, k66, k67⟩ := h64
                    have z70 : (σ44 55 42).toInt = (σ 55 42).toInt := (congrArg Int32.toInt (show σ44 55 42 = (σ 55 42) from (f54 42 (of_decide_eq_true rfl))))
                    have k69 : (σ44 78 r63.toNatClampNeg).toInt ≠ (σ44 55 42).toInt ∨ (σ44 75 r63.toNatClampNeg).toInt = 16 * (σ 55 26).toInt + (σ 55 25).toInt := k67.imp (fun q => jne q rfl rfl) (fun q => jeq q.2 rfl tx27)
                    refine lv_istore_n (lv' := [(3, .int r63), (6, .int x42), (5, .int x41), (4, .int x40), (2, .int x27), (1, .int r22), (0, .ref (ad 55))]) hx hb dX12_bestFrom_141 rfl hl (of_decide_eq_true rfl) rfl (fun ls hl => ?_)
                    refine lv_iload_n hx hb dX12_bestFrom_142 rfl (lv_at hl 0 rfl) ?_
                    exact by
                     refine lv_if_lt (tgt := 186) hx hb dX12_bestFrom_143 (of_decide_eq_true rfl) (fun c => absurd (jlt c rfl jz_0) (by omega)) (fun c71 => ?_)
                     have kc71 := jnlt c71 rfl jz_0
                     refine lv_aload_n hx hb dX12_bestFrom_146 rfl (lv_at hl 6 rfl) ?_
                     refine va_get (D := D) hx hb hts inlX12 hown hK hP 55 (jc_55 cI cL ad σ44 τ) rfl 43 (of_decide_eq_true rfl) (hts _ kw_8_3) (fun _ h9 => h9) rfl dX12_bestFrom_147 ?_
                     refine lv_iload_n hx hb dX12_bestFrom_150 rfl (lv_at hl 0 rfl) ?_
                     refine lv_aload_n hx hb dX12_bestFrom_151 rfl (lv_at hl 6 rfl) ?_
                     refine va_get (D := D) hx hb hts inlX12 hown hK hP 55 (jc_55 cI cL ad σ44 τ) rfl 42 (of_decide_eq_true rfl) (hts _ kw_33_10) (fun _ h9 => h9) rfl dX12_bestFrom_152 ?_
                     have m72 : σ44 55 42 = (σ 55 42) := (f54 42 (of_decide_eq_true rfl))
                     refine jtopr m72 ?_
                     exact by
                      refine jast hx hb hK hP hJ hA hS (jc_78 cI cL ad σ44 τ) (ja_78 cI cL ad σ44 τ _ _) (jin rfl (by omega) (by omega)) dX12_bestFrom_155 (fun σ73 H locs eσ73 hP hS => ?_)
                      have p74 : jqSt σ73 := (jqSt.put p56 eσ73 (show (σ 55 42) = σ44 55 42 from (m72).symm))
                      refine lv_aload_n hx hb dX12_bestFrom_156 rfl (lv_at hl 6 rfl) ?_
                      refine va_get (D := D) hx hb hts inlX12 hown hK hP 55 (jc_55 cI cL ad σ73 τ) rfl 38 (of_decide_eq_true rfl) (hts _ kw_7_23) (fun _ h9 => h9) rfl dX12_bestFrom_157 ?_
                      refine lv_iload_n hx hb dX12_bestFrom_160 rfl (lv_at hl 0 rfl) ?_
                      refine lv_iload_n hx hb dX12_bestFrom_161 rfl (lv_at hl 5 rfl) ?_
                      refine jast hx hb hK hP hJ hA hS (jc_74 cI cL ad σ73 τ) (ja_74 cI cL ad σ73 τ _ _) (jin rfl (by omega) (by omega)) dX12_bestFrom_162 (fun σ75 H locs eσ75 hP hS => ?_)
                      refine lv_aload_n hx hb dX12_bestFrom_163 rfl (lv_at hl 6 rfl) ?_
                      refine va_get (D := D) hx hb hts inlX12 hown hK hP 55 (jc_55 cI cL ad σ75 τ) rfl 39 (of_decide_eq_true rfl) (hts _ kw_8_0) (fun _ h9 => h9) rfl dX12_bestFrom_164 ?_
                      exact by
                       refine lv_iload_n hx hb dX12_bestFrom_167 rfl (lv_at hl 0 rfl) ?_
                       refine lv_iload_n hx hb dX12_bestFrom_168 rfl (lv_at hl 4 rfl) ?_
                       refine jast hx hb hK hP hJ hA hS (jc_75 cI cL ad σ75 τ) (ja_75 cI cL ad σ75 τ _ _) (jin rfl (by omega) (by omega)) dX12_bestFrom_169 (fun σ76 H locs eσ76 hP hS => ?_)
                       refine lv_aload_n hx hb dX12_bestFrom_170 rfl (lv_at hl 6 rfl) ?_
                       refine va_get (D := D) hx hb hts inlX12 hown hK hP 55 (jc_55 cI cL ad σ76 τ) rfl 40 (of_decide_eq_true rfl) (hts _ kw_8_1) (fun _ h9 => h9) rfl dX12_bestFrom_171 ?_
                       refine lv_iload_n hx hb dX12_bestFrom_174 rfl (lv_at hl 0 rfl) ?_
                       refine lv_iload hx hb dX12_bestFrom_175 (lv_at hl 2 rfl) ?_
                       refine jast hx hb hK hP hJ hA hS (jc_76 cI cL ad σ76 τ) (ja_76 cI cL ad σ76 τ _ _) (jin rfl (by omega) (by omega)) dX12_bestFrom_177 (fun σ77 H locs eσ77 hP hS => ?_)
                       refine lv_aload_n hx hb dX12_bestFrom_178 rfl (lv_at hl 6 rfl) ?_
                       exact by
                        refine va_get (D := D) hx hb hts inlX12 hown hK hP 55 (jc_55 cI cL ad σ77 τ) rfl 41 (of_decide_eq_true rfl) (hts _ kw_8_2) (fun _ h9 => h9) rfl dX12_bestFrom_179 ?_
                        refine lv_iload_n hx hb dX12_bestFrom_182 rfl (lv_at hl 0 rfl) ?_
                        refine lv_iload hx hb dX12_bestFrom_183 (lv_at hl 3 rfl) ?_
                        refine jast hx hb hK hP hJ hA hS (jc_77 cI cL ad σ77 τ) (ja_77 cI cL ad σ77 τ _ _) (jin rfl (by omega) (by omega)) dX12_bestFrom_185 (fun σ78 H locs eσ78 hP hS => ?_)
                        have e79 : σ78 75 = jupd (σ44 75) r63.toNatClampNeg x27 := by rw [eσ78, jup_n (of_decide_eq_true rfl), eσ77, jup_n (of_decide_eq_true rfl), eσ76, jup_row, eσ75, jup_n (of_decide_eq_true rfl), eσ73, jup_n (of_decide_eq_true rfl)]
                        have e80 : σ78 76 = jupd (σ44 76) r63.toNatClampNeg x41 := by rw [eσ78, jup_n (of_decide_eq_true rfl), eσ77, jup_row, eσ76, jup_n (of_decide_eq_true rfl), eσ75, jup_n (of_decide_eq_true rfl), eσ73, jup_n (of_decide_eq_true rfl)]
                        have e81 : σ78 77 = jupd (σ44 77) r63.toNatClampNeg x40 := by rw [eσ78, jup_row, eσ77, jup_n (of_decide_eq_true rfl), eσ76, jup_n (of_decide_eq_true rfl), eσ75, jup_n (of_decide_eq_true rfl), eσ73, jup_n (of_decide_eq_true rfl)]
                        have z82 : (σ78 55 26).toInt = (σ 55 26).toInt := (congrArg Int32.toInt (show σ78 55 26 = (σ 55 26) from ((congrFun (jnp 55 eσ78 (of_decide_eq_true rfl)) 26).trans ((congrFun (jnp 55 eσ77 (of_decide_eq_true rfl)) 26).trans ((congrFun (jnp 55 eσ76 (of_decide_eq_true rfl)) 26).trans ((congrFun (jnp 55 eσ75 (of_decide_eq_true rfl)) 26).trans ((congrFun (jnp 55 eσ73 (of_decide_eq_true rfl)) 26).trans (f54 26 (of_decide_eq_true rfl)))))))))
                        have p83 : jKept σ78 := p55.on e79 e80 e81 (by have h91 := tx27; omega) (by have h91 := tx27; omega) (by have h91 := tx27; omega) (by have h91 := tx27; omega)
                        exact by
                         refine lv_aload_n hx hb dX12_bestFrom_186 rfl (lv_at hl 6 rfl) ?_
                         refine lv_iload hx hb dX12_bestFrom_187 (lv_at hl 3 rfl) ?_
                         refine jput (ty := .int) hx hb hts inlX12 tyX12 tyX12_ok nmX12 hown hK hP hJ hA hS (jc_55 cI cL ad σ78 τ) rfl (k := 37) (of_decide_eq_true rfl) (Nat.le_of_ble_eq_true rfl) (jp_55_37 cI cL ad σ78 τ x40) (hts _ kw_33_15) (fun _ h9 => h9) rfl (by decide +kernel) rfl rfl dX12_bestFrom_189 (fun σ84 H locs eσ84 hP hS => ?_)
                         refine lv_iload hx hb dX12_bestFrom_192 (lv_at hl 2 rfl) ?_
                         have p85 : jKept σ84 := jKept.fr (jnp 75 eσ84 (of_decide_eq_true rfl)) (jnp 76 eσ84 (of_decide_eq_true rfl)) (jnp 77 eσ84 (of_decide_eq_true rfl)) p83
                         have p86 : jTR σ84 := jTR.fr ((jnp 64 eσ84 (of_decide_eq_true rfl)).trans ((jnp 64 eσ78 (of_decide_eq_true rfl)).trans ((jnp 64 eσ77 (of_decide_eq_true rfl)).trans ((jnp 64 eσ76 (of_decide_eq_true rfl)).trans ((jnp 64 eσ75 (of_decide_eq_true rfl)).trans ((jnp 64 eσ73 (of_decide_eq_true rfl)).trans (f53 64 (of_decide_eq_true rfl)))))))) ((jnp 65 eσ84 (of_decide_eq_true rfl)).trans ((jnp 65 eσ78 (of_decide_eq_true rfl)).trans ((jnp 65 eσ77 (of_decide_eq_true rfl)).trans ((jnp 65 eσ76 (of_decide_eq_true rfl)).trans ((jnp 65 eσ75 (of_decide_eq_true rfl)).trans ((jnp 65 eσ73 (of_decide_eq_true rfl)).trans (f53 65 (of_decide_eq_true rfl)))))))) hs_jTR
                         have p87 : jqSt σ84 := jqSt.fr ((jnp 78 eσ84 (of_decide_eq_true rfl)).trans ((jnp 78 eσ78 (of_decide_eq_true rfl)).trans ((jnp 78 eσ77 (of_decide_eq_true rfl)).trans ((jnp 78 eσ76 (of_decide_eq_true rfl)).trans (jnp 78 eσ75 (of_decide_eq_true rfl)))))) ((jkp 42 eσ84 (of_decide_eq_true rfl)).trans ((congrFun (jnp 55 eσ78 (of_decide_eq_true rfl)) 42).trans ((congrFun (jnp 55 eσ77 (of_decide_eq_true rfl)) 42).trans ((congrFun (jnp 55 eσ76 (of_decide_eq_true rfl)) 42).trans (congrFun (jnp 55 eσ75 (of_decide_eq_true rfl)) 42))))) p74
                         have z88 : (σ84 55 37).toInt = x40.toInt := (congrArg Int32.toInt (show σ84 55 37 = x40 from (jsp eσ84)))
                         have z89 : (σ84 55 25).toInt = (σ 55 25).toInt := (congrArg Int32.toInt (show σ84 55 25 = (σ 55 25) from ((jkp 25 eσ84 (of_decide_eq_true rfl)).trans ((congrFun (jnp 55 eσ78 (of_decide_eq_true rfl)) 25).trans ((congrFun (jnp 55 eσ77 (of_decide_eq_true rfl)) 25).trans ((congrFun (jnp 55 eσ76 (of_decide_eq_true rfl)) 25).trans ((congrFun (jnp 55 eσ75 (of_decide_eq_true rfl)) 25).trans ((congrFun (jnp 55 eσ73 (of_decide_eq_true rfl)) 25).trans (f54 25 (of_decide_eq_true rfl))))))))))
                         have z90 : (σ84 55 26).toInt = (σ 55 26).toInt := (congrArg Int32.toInt (show σ84 55 26 = (σ 55 26) from ((jkp 26 eσ84 (of_decide_eq_true rfl)).trans ((congrFun (jnp 55 eσ78 (of_decide_eq_true rfl)) 26).trans ((congrFun (jnp 55 eσ77 (of_decide_eq_true rfl)) 26).trans ((congrFun (jnp 55 eσ76 (of_decide_eq_true rfl)) 26).trans ((congrFun (jnp 55 eσ75 (of_decide_eq_true rfl)) 26).trans ((congrFun (jnp 55 eσ73 (of_decide_eq_true rfl)) 26).trans (f54 26 (of_decide_eq_true rfl))))))))))
                         have z91 : (σ84 55 27).toInt = (σ 55 27).toInt := (congrArg Int32.toInt (show σ84 55 27 = (σ 55 27) from ((jkp 27 eσ84 (of_decide_eq_true rfl)).trans ((congrFun (jnp 55 eσ78 (of_decide_eq_true rfl)) 27).trans ((congrFun (jnp 55 eσ77 (of_decide_eq_true rfl)) 27).trans ((congrFun (jnp 55 eσ76 (of_decide_eq_true rfl)) 27).trans ((congrFun (jnp 55 eσ75 (of_decide_eq_true rfl)) 27).trans ((congrFun (jnp 55 eσ73 (of_decide_eq_true rfl)) 27).trans (f54 27 (of_decide_eq_true rfl))))))))))
                         exact by
                          have k92 : jrP σ → jrM σ → ((x40 : Int32).toInt, (x41 : Int32).toInt) = jrV σ := fun pr mm => (q57 pr mm).1.fin (by omega) (by omega) (by omega) (by omega) (by omega) (by omega)
                          exact by exact hret x41 σ84 τ _ _ _ _ rfl ⟨rfl, (fun i hi => ((jnp i eσ84 (imp_206 i hi)).trans ((jnp i eσ78 (imp_208 i hi)).trans ((jnp i eσ77 (imp_209 i hi)).trans ((jnp i eσ76 (imp_210 i hi)).trans ((jnp i eσ75 (imp_211 i hi)).trans ((jnp i eσ73 (imp_212 i hi)).trans (f53 i hi)))))))), (fun i hi => ((jkp i eσ84 (imp_207 i hi)).trans ((congrFun (jnp 55 eσ78 (of_decide_eq_true rfl)) i).trans ((congrFun (jnp 55 eσ77 (of_decide_eq_true rfl)) i).trans ((congrFun (jnp 55 eσ76 (of_decide_eq_true rfl)) i).trans ((congrFun (jnp 55 eσ75 (of_decide_eq_true rfl)) i).trans ((congrFun (jnp 55 eσ73 (of_decide_eq_true rfl)) i).trans (f54 i hi)))))))), p85, p86, p87, (fun pr mm => ⟨by rw [← k92 pr mm]; exact ⟨by show (σ84 55 37).toInt = if (x40 : Int32).toInt < 0 then -2 else (x40 : Int32).toInt; rw [if_neg (by omega)]; omega, rfl⟩, jrM.store (σ := σ) (σ1 := σ44) (k := r63.toNatClampNeg) (t := (σ 55 42)) (a := r22) (o := x27) (v := x41) (x := x40) ⟨⟨((jnp 56 eσ84 (of_decide_eq_true rfl)).trans ((jnp 56 eσ78 (of_decide_eq_true rfl)).trans ((jnp 56 eσ77 (of_decide_eq_true rfl)).trans ((jnp 56 eσ76 (of_decide_eq_true rfl)).trans ((jnp 56 eσ75 (of_decide_eq_true rfl)).trans ((jnp 56 eσ73 (of_decide_eq_true rfl)).trans (f53 56 (of_decide_eq_true rfl)))))))), ((jnp 60 eσ84 (of_decide_eq_true rfl)).trans ((jnp 60 eσ78 (of_decide_eq_true rfl)).trans ((jnp 60 eσ77 (of_decide_eq_true rfl)).trans ((jnp 60 eσ76 (of_decide_eq_true rfl)).trans ((jnp 60 eσ75 (of_decide_eq_true rfl)).trans ((jnp 60 eσ73 (of_decide_eq_true rfl)).trans (f53 60 (of_decide_eq_true rfl)))))))), ((jnp 61 eσ84 (of_decide_eq_true rfl)).trans ((jnp 61 eσ78 (of_decide_eq_true rfl)).trans ((jnp 61 eσ77 (of_decide_eq_true rfl)).trans ((jnp 61 eσ76 (of_decide_eq_true rfl)).trans ((jnp 61 eσ75 (of_decide_eq_true rfl)).trans ((jnp 61 eσ73 (of_decide_eq_true rfl)).trans (f53 61 (of_decide_eq_true rfl)))))))), ((jnp 62 eσ84 (of_decide_eq_true rfl)).trans ((jnp 62 eσ78 (of_decide_eq_true rfl)).trans ((jnp 62 eσ77 (of_decide_eq_true rfl)).trans ((jnp 62 eσ76 (of_decide_eq_true rfl)).trans ((jnp 62 eσ75 (of_decide_eq_true rfl)).trans ((jnp 62 eσ73 (of_decide_eq_true rfl)).trans (f53 62 (of_decide_eq_true rfl)))))))), ((jnp 64 eσ84 (of_decide_eq_true rfl)).trans ((jnp 64 eσ78 (of_decide_eq_true rfl)).trans ((jnp 64 eσ77 (of_decide_eq_true rfl)).trans ((jnp 64 eσ76 (of_decide_eq_true rfl)).trans ((jnp 64 eσ75 (of_decide_eq_true rfl)).trans ((jnp 64 eσ73 (of_decide_eq_true rfl)).trans (f53 64 (of_decide_eq_true rfl)))))))), ((jnp 65 eσ84 (of_decide_eq_true rfl)).trans ((jnp 65 eσ78 (of_decide_eq_true rfl)).trans ((jnp 65 eσ77 (of_decide_eq_true rfl)).trans ((jnp 65 eσ76 (of_decide_eq_true rfl)).trans ((jnp 65 eσ75 (of_decide_eq_true rfl)).trans ((jnp 65 eσ73 (of_decide_eq_true rfl)).trans (f53 65 (of_decide_eq_true rfl))))))))⟩, ((jkp 6 eσ84 (of_decide_eq_true rfl)).trans ((congrFun (jnp 55 eσ78 (of_decide_eq_true rfl)) 6).trans ((congrFun (jnp 55 eσ77 (of_decide_eq_true rfl)) 6).trans ((congrFun (jnp 55 eσ76 (of_decide_eq_true rfl)) 6).trans ((congrFun (jnp 55 eσ75 (of_decide_eq_true rfl)) 6).trans ((congrFun (jnp 55 eσ73 (of_decide_eq_true rfl)) 6).trans (f54 6 (of_decide_eq_true rfl)))))))), ((jkp 9 eσ84 (of_decide_eq_true rfl)).trans ((congrFun (jnp 55 eσ78 (of_decide_eq_true rfl)) 9).trans ((congrFun (jnp 55 eσ77 (of_decide_eq_true rfl)) 9).trans ((congrFun (jnp 55 eσ76 (of_decide_eq_true rfl)) 9).trans ((congrFun (jnp 55 eσ75 (of_decide_eq_true rfl)) 9).trans ((congrFun (jnp 55 eσ73 (of_decide_eq_true rfl)) 9).trans (f54 9 (of_decide_eq_true rfl)))))))), ((jkp 10 eσ84 (of_decide_eq_true rfl)).trans ((congrFun (jnp 55 eσ78 (of_decide_eq_true rfl)) 10).trans ((congrFun (jnp 55 eσ77 (of_decide_eq_true rfl)) 10).trans ((congrFun (jnp 55 eσ76 (of_decide_eq_true rfl)) 10).trans ((congrFun (jnp 55 eσ75 (of_decide_eq_true rfl)) 10).trans ((congrFun (jnp 55 eσ73 (of_decide_eq_true rfl)) 10).trans (f54 10 (of_decide_eq_true rfl)))))))), ((jkp 12 eσ84 (of_decide_eq_true rfl)).trans ((congrFun (jnp 55 eσ78 (of_decide_eq_true rfl)) 12).trans ((congrFun (jnp 55 eσ77 (of_decide_eq_true rfl)) 12).trans ((congrFun (jnp 55 eσ76 (of_decide_eq_true rfl)) 12).trans ((congrFun (jnp 55 eσ75 (of_decide_eq_true rfl)) 12).trans ((congrFun (jnp 55 eσ73 (of_decide_eq_true rfl)) 12).trans (f54 12 (of_decide_eq_true rfl)))))))), ((jkp 13 eσ84 (of_decide_eq_true rfl)).trans ((congrFun (jnp 55 eσ78 (of_decide_eq_true rfl)) 13).trans ((congrFun (jnp 55 eσ77 (of_decide_eq_true rfl)) 13).trans ((congrFun (jnp 55 eσ76 (of_decide_eq_true rfl)) 13).trans ((congrFun (jnp 55 eσ75 (of_decide_eq_true rfl)) 13).trans ((congrFun (jnp 55 eσ73 (of_decide_eq_true rfl)) 13).trans (f54 13 (of_decide_eq_true rfl)))))))), ((jkp 30 eσ84 (of_decide_eq_true rfl)).trans ((congrFun (jnp 55 eσ78 (of_decide_eq_true rfl)) 30).trans ((congrFun (jnp 55 eσ77 (of_decide_eq_true rfl)) 30).trans ((congrFun (jnp 55 eσ76 (of_decide_eq_true rfl)) 30).trans ((congrFun (jnp 55 eσ75 (of_decide_eq_true rfl)) 30).trans ((congrFun (jnp 55 eσ73 (of_decide_eq_true rfl)) 30).trans (f54 30 (of_decide_eq_true rfl)))))))), ((jkp 31 eσ84 (of_decide_eq_true rfl)).trans ((congrFun (jnp 55 eσ78 (of_decide_eq_true rfl)) 31).trans ((congrFun (jnp 55 eσ77 (of_decide_eq_true rfl)) 31).trans ((congrFun (jnp 55 eσ76 (of_decide_eq_true rfl)) 31).trans ((congrFun (jnp 55 eσ75 (of_decide_eq_true rfl)) 31).trans ((congrFun (jnp 55 eσ73 (of_decide_eq_true rfl)) 31).trans (f54 31 (of_decide_eq_true rfl)))))))), ((jkp 42 eσ84 (of_decide_eq_true rfl)).trans ((congrFun (jnp 55 eσ78 (of_decide_eq_true rfl)) 42).trans ((congrFun (jnp 55 eσ77 (of_decide_eq_true rfl)) 42).trans ((congrFun (jnp 55 eσ76 (of_decide_eq_true rfl)) 42).trans ((congrFun (jnp 55 eσ75 (of_decide_eq_true rfl)) 42).trans ((congrFun (jnp 55 eσ73 (of_decide_eq_true rfl)) 42).trans (f54 42 (of_decide_eq_true rfl))))))))⟩ pr (q57 pr mm).2 ⟨⟨(f53 56 (of_decide_eq_true rfl)), (f53 60 (of_decide_eq_true rfl)), (f53 61 (of_decide_eq_true rfl)), (f53 62 (of_decide_eq_true rfl)), (f53 64 (of_decide_eq_true rfl)), (f53 65 (of_decide_eq_true rfl))⟩, (f54 6 (of_decide_eq_true rfl)), (f54 9 (of_decide_eq_true rfl)), (f54 10 (of_decide_eq_true rfl)), (f54 12 (of_decide_eq_true rfl)), (f54 13 (of_decide_eq_true rfl)), (f54 30 (of_decide_eq_true rfl)), (f54 31 (of_decide_eq_true rfl)), (f54 42 (of_decide_eq_true rfl))⟩ (by rw [eσ84, jup_n (of_decide_eq_true rfl), eσ78, jup_n (of_decide_eq_true rfl), eσ77, jup_n (of_decide_eq_true rfl), eσ76, jup_n (of_decide_eq_true rfl), eσ75, jup_n (of_decide_eq_true rfl), eσ73, jup_row]) (by rw [eσ84, jup_n (of_decide_eq_true rfl), eσ78, jup_n (of_decide_eq_true rfl), eσ77, jup_n (of_decide_eq_true rfl), eσ76, jup_n (of_decide_eq_true rfl), eσ75, jup_row, eσ73, jup_n (of_decide_eq_true rfl)]) (by rw [eσ84, jup_n (of_decide_eq_true rfl), eσ78, jup_n (of_decide_eq_true rfl), eσ77, jup_n (of_decide_eq_true rfl), eσ76, jup_row, eσ75, jup_n (of_decide_eq_true rfl), eσ73, jup_n (of_decide_eq_true rfl)]) (by rw [eσ84, jup_n (of_decide_eq_true rfl), eσ78, jup_n (of_decide_eq_true rfl), eσ77, jup_row, eσ76, jup_n (of_decide_eq_true rfl), eσ75, jup_n (of_decide_eq_true rfl), eσ73, jup_n (of_decide_eq_true rfl)]) (by rw [eσ84, jup_n (of_decide_eq_true rfl), eσ78, jup_row, eσ77, jup_n (of_decide_eq_true rfl), eσ76, jup_n (of_decide_eq_true rfl), eσ75, jup_n (of_decide_eq_true rfl), eσ73, jup_n (of_decide_eq_true rfl)]) (w23 pr.w0) (by have h9 := tx27; omega) (k92 pr mm) (by omega) (by omega) (by omega)⟩), (by omega), ⟨trivial, (by omega)⟩⟩ hP hS dX12_bestFrom_194
                  · obtain ⟨q94, k93⟩ := h65
                    have q94 := q94.symm
                    subst q94
                    refine lv_istore_n (lv' := [(3, .int (-1)), (6, .int x42), (5, .int x41), (4, .int x40), (2, .int x27), (1, .int r22), (0, .ref (ad 55))]) hx hb dX12_bestFrom_141 rfl hl (of_decide_eq_true rfl) rfl (fun ls hl => ?_)
                    refine lv_iload_n hx hb dX12_bestFrom_142 rfl (lv_at hl 0 rfl) ?_
                    refine lv_if_lt (tgt := 186) hx hb dX12_bestFrom_143 (of_decide_eq_true rfl) (fun _ => ?_) (fun c => absurd (of_decide_eq_true rfl) c)
                    refine lv_aload_n hx hb dX12_bestFrom_186 rfl (lv_at hl 6 rfl) ?_
                    refine lv_iload hx hb dX12_bestFrom_187 (lv_at hl 3 rfl) ?_
                    refine jput (ty := .int) hx hb hts inlX12 tyX12 tyX12_ok nmX12 hown hK hP hJ hA hS (jc_55 cI cL ad σ44 τ) rfl (k := 37) (of_decide_eq_true rfl) (Nat.le_of_ble_eq_true rfl) (jp_55_37 cI cL ad σ44 τ x40) (hts _ kw_33_15) (fun _ h9 => h9) rfl (by decide +kernel) rfl rfl dX12_bestFrom_189 (fun σ95 H locs eσ95 hP hS => ?_)
                    refine lv_iload hx hb dX12_bestFrom_192 (lv_at hl 2 rfl) ?_
                    have p96 : jKept σ95 := jKept.fr (jnp 75 eσ95 (of_decide_eq_true rfl)) (jnp 76 eσ95 (of_decide_eq_true rfl)) (jnp 77 eσ95 (of_decide_eq_true rfl)) p55
                    have p97 : jTR σ95 := jTR.fr ((jnp 64 eσ95 (of_decide_eq_true rfl)).trans (f53 64 (of_decide_eq_true rfl))) ((jnp 65 eσ95 (of_decide_eq_true rfl)).trans (f53 65 (of_decide_eq_true rfl))) hs_jTR
                    have p98 : jqSt σ95 := jqSt.fr (jnp 78 eσ95 (of_decide_eq_true rfl)) (jkp 42 eσ95 (of_decide_eq_true rfl)) p56
                    have z99 : (σ95 55 37).toInt = x40.toInt := (congrArg Int32.toInt (show σ95 55 37 = x40 from (jsp eσ95)))
                    have z100 : (σ95 55 25).toInt = (σ 55 25).toInt := (congrArg Int32.toInt (show σ95 55 25 = (σ 55 25) from ((jkp 25 eσ95 (of_decide_eq_true rfl)).trans (f54 25 (of_decide_eq_true rfl)))))
                    have z101 : (σ95 55 26).toInt = (σ 55 26).toInt := (congrArg Int32.toInt (show σ95 55 26 = (σ 55 26) from ((jkp 26 eσ95 (of_decide_eq_true rfl)).trans (f54 26 (of_decide_eq_true rfl)))))
                    have z102 : (σ95 55 27).toInt = (σ 55 27).toInt := (congrArg Int32.toInt (show σ95 55 27 = (σ 55 27) from ((jkp 27 eσ95 (of_decide_eq_true rfl)).trans (f54 27 (of_decide_eq_true rfl)))))
                    exact by
                     have k103 : jrP σ → jrM σ → ((x40 : Int32).toInt, (x41 : Int32).toInt) = jrV σ := fun pr mm => (q57 pr mm).1.fin (by omega) (by omega) (by omega) (by omega) (by omega) (by omega)
                     exact by exact hret x41 σ95 τ _ _ _ _ rfl ⟨rfl, (fun i hi => ((jnp i eσ95 (imp_206 i hi)).trans (f53 i hi))), (fun i hi => ((jkp i eσ95 (imp_207 i hi)).trans (f54 i hi))), p96, p97, p98, (fun pr mm => ⟨by rw [← k103 pr mm]; exact ⟨by show (σ95 55 37).toInt = if (x40 : Int32).toInt < 0 then -2 else (x40 : Int32).toInt; rw [if_neg (by omega)]; omega, rfl⟩, (jrEq.m (σ := σ44) (σ' := σ95) ⟨⟨(jnp 56 eσ95 (of_decide_eq_true rfl)), (jnp 60 eσ95 (of_decide_eq_true rfl)), (jnp 61 eσ95 (of_decide_eq_true rfl)), (jnp 62 eσ95 (of_decide_eq_true rfl)), (jnp 64 eσ95 (of_decide_eq_true rfl)), (jnp 65 eσ95 (of_decide_eq_true rfl))⟩, (jkp 6 eσ95 (of_decide_eq_true rfl)), (jkp 9 eσ95 (of_decide_eq_true rfl)), (jkp 10 eσ95 (of_decide_eq_true rfl)), (jkp 12 eσ95 (of_decide_eq_true rfl)), (jkp 13 eσ95 (of_decide_eq_true rfl)), (jkp 30 eσ95 (of_decide_eq_true rfl)), (jkp 31 eσ95 (of_decide_eq_true rfl)), (jkp 42 eσ95 (of_decide_eq_true rfl))⟩ (jnp 78 eσ95 (of_decide_eq_true rfl)) (jnp 74 eσ95 (of_decide_eq_true rfl)) (jnp 75 eσ95 (of_decide_eq_true rfl)) (jnp 76 eσ95 (of_decide_eq_true rfl)) (jnp 77 eσ95 (of_decide_eq_true rfl)) (q57 pr mm).2)⟩), (by omega), ⟨trivial, (by omega)⟩⟩ hP hS dX12_bestFrom_194
                · have kc61 := jnle c61 rfl rfl
                  refine lv_aload_n hx hb dX12_bestFrom_94 rfl (lv_at hl 6 rfl) ?_
                  refine lv_iload hx hb dX12_bestFrom_95 (lv_at hl 0 rfl) ?_
                  refine jcallV (As := [.int x42]) (rest := []) ⟨hx, hb, hml, hown, hts⟩ hK hP hA hS hZ (c_X12_mayBowl l D cI cL ad zz hJ σ44 τ x42 (x42.toInt) rfl (by omega)) cw_RX12_249 (jc_55 cI cL ad σ44 τ) rfl ⟨by dsimp only; omega, by dsimp only; omega⟩ rfl rfl rfl hl.1 rfl (Nat.le_of_ble_eq_true rfl) dX12_bestFrom_97 ⟨Nat.zero_le _, Nat.zero_le _⟩ (fun r105 σ104 τ104 H locs h104 hP hS => ?_)
                  obtain ⟨⟨rfl, rfl⟩, h104⟩ := h104
                  rcases h104 with h106 | h107
                  · obtain ⟨q109, k108⟩ := h106
                    exact by
                     have q109 := q109.symm
                     subst q109
                     refine lv_if_ne (tgt := 106) hx hb dX12_bestFrom_100 (of_decide_eq_true rfl) (fun _ => ?_) (fun c => absurd c (of_decide_eq_true rfl))
                     refine lv_aload_n hx hb dX12_bestFrom_106 rfl (lv_at hl 6 rfl) ?_
                     refine lv_iload hx hb dX12_bestFrom_107 (lv_at hl 0 rfl) ?_
                     have I110 : jI101 σ44 := jI101_fr (f54 4 (of_decide_eq_true rfl)) (f54 5 (of_decide_eq_true rfl)) (f53 56 (of_decide_eq_true rfl)) (f53 57 (of_decide_eq_true rfl)) (f53 58 (of_decide_eq_true rfl)) (f53 59 (of_decide_eq_true rfl)) hI101
                     have I111 : jI102 σ44 := jI102_fr (f54 6 (of_decide_eq_true rfl)) (f53 60 (of_decide_eq_true rfl)) (f53 61 (of_decide_eq_true rfl)) hI102
                     have I112 : jI103 σ44 := jI103_fr (f54 9 (of_decide_eq_true rfl)) hI103
                     have I113 : jI104 σ44 := jI104_fr (f54 10 (of_decide_eq_true rfl)) (f54 12 (of_decide_eq_true rfl)) (f54 13 (of_decide_eq_true rfl)) (f53 62 (of_decide_eq_true rfl)) (f53 67 (of_decide_eq_true rfl)) hI104
                     have I114 : jI105 σ44 := jI105_fr (f54 15 (of_decide_eq_true rfl)) (f53 65 (of_decide_eq_true rfl)) hI105
                     have I115 : jI106 σ44 := jI106_fr (f54 32 (of_decide_eq_true rfl)) (f53 70 (of_decide_eq_true rfl)) (f53 71 (of_decide_eq_true rfl)) (f53 72 (of_decide_eq_true rfl)) hI106
                     have I116 : jI120 σ44 := jI120_fr (f54 10 (of_decide_eq_true rfl)) (f54 12 (of_decide_eq_true rfl)) (f54 25 (of_decide_eq_true rfl)) (f54 26 (of_decide_eq_true rfl)) (f54 27 (of_decide_eq_true rfl)) (f53 68 (of_decide_eq_true rfl)) hI120
                     have p117 : jTR σ44 := jTR.fr (f53 64 (of_decide_eq_true rfl)) (f53 65 (of_decide_eq_true rfl)) hs_jTR
                     have z118 : (σ44 55 25).toInt = (σ 55 25).toInt := (congrArg Int32.toInt (show σ44 55 25 = (σ 55 25) from (f54 25 (of_decide_eq_true rfl))))
                     have z119 : (σ44 55 10).toInt = (σ 55 10).toInt := (congrArg Int32.toInt (show σ44 55 10 = (σ 55 10) from (f54 10 (of_decide_eq_true rfl))))
                     have z120 : (σ44 55 12).toInt = (σ 55 12).toInt := (congrArg Int32.toInt (show σ44 55 12 = (σ 55 12) from (f54 12 (of_decide_eq_true rfl))))
                     exact by
                      refine jcallV (As := [.int x42]) (rest := []) ⟨hx, hb, hml, hown, hts⟩ hK hP hA hS hZ (h_mean σ44 τ x42 (x42.toInt) rfl I110 I111 I112 I113 I114 I115 I116 p55 p117 p56 (by omega) (by omega) (by omega) (by omega)) cw_RX12_318 (jc_55 cI cL ad σ44 τ) rfl ⟨by dsimp only; omega, by dsimp only; omega⟩ rfl rfl rfl hl.1 rfl (Nat.le_of_ble_eq_true rfl) dX12_bestFrom_109 ⟨Nat.zero_le _, Nat.zero_le _⟩ (fun r122 σ121 τ121 H locs h121 hP hS => ?_)
                      obtain ⟨rfl, f123, f124, p125, p126, p127, w128, h121⟩ := h121
                      have h130 := h121
                      obtain ⟨q132, k131⟩ := h130
                      refine lv_istore (lv' := [(7, .int r122), (6, .int x42), (5, .int x41), (4, .int x40), (3, .int r29), (2, .int x27), (1, .int r22), (0, .ref (ad 55))]) hx hb dX12_bestFrom_112 hl (of_decide_eq_true rfl) rfl (fun ls hl => ?_)
                      refine lv_iload hx hb dX12_bestFrom_114 (lv_at hl 0 rfl) ?_
                      refine lv_iload hx hb dX12_bestFrom_116 (lv_at hl 2 rfl) ?_
                      refine lv_icmp_ge (tgt := 129) hx hb dX12_bestFrom_118 (of_decide_eq_true rfl) (fun c133 => ?_) (fun c133 => ?_)
                      · have kc133 := jle c133 rfl rfl
                        obtain ⟨x134, ex134⟩ : ∃ y : Int32, y = x42 + 1 := ⟨_, rfl⟩
                        exact by
                         have tx134 : x134.toInt = x42.toInt + 1 := (jadd ex134 rfl jz_1 (by omega) (by omega)).trans (by omega)
                         refine lv_iinc (v := x134) (lv' := [(6, .int x134), (7, .int r122), (5, .int x41), (4, .int x40), (3, .int r29), (2, .int x27), (1, .int r22), (0, .ref (ad 55))]) hx hb dX12_bestFrom_129 hl (k := 1) rfl (by rw [ex134]; rfl) (of_decide_eq_true rfl) rfl (fun ls hl => ?_)
                         refine lv_goto (tgt := 85) hx hb dX12_bestFrom_132 (of_decide_eq_true rfl) ?_
                         have z135 : (σ121 55 26).toInt = (σ 55 26).toInt := (congrArg Int32.toInt (show σ121 55 26 = (σ 55 26) from ((f124 26 (of_decide_eq_true rfl)).trans (f54 26 (of_decide_eq_true rfl)))))
                         have z136 : (σ121 55 6).toInt = (σ 55 6).toInt := (congrArg Int32.toInt (show σ121 55 6 = (σ 55 6) from ((f124 6 (of_decide_eq_true rfl)).trans m60)))
                         have z137 : (σ44 55 27).toInt = (σ 55 27).toInt := (congrArg Int32.toInt (show σ44 55 27 = (σ 55 27) from (f54 27 (of_decide_eq_true rfl))))
                         exact by exact ihlp38 x40 x41 x134 σ121 _ _ ls (by have h92 := tx134; omega) (by have h92 := tx134; omega) (by have h92 := tx134; omega) (by have h92 := tx134; omega) (by have h92 := tx134; omega) (by have h92 := tx134; omega) (by have h92 := tx134; omega) (fun i hi => ((f123 i hi).trans (f53 i hi))) (fun i hi => ((f124 i hi).trans (f54 i hi)))  p125 p127 (fun pr mm => by have prh : jrP σ44 := ((jrEq.v (σ := σ) (σ' := σ44) ⟨⟨(f53 56 (of_decide_eq_true rfl)), (f53 60 (of_decide_eq_true rfl)), (f53 61 (of_decide_eq_true rfl)), (f53 62 (of_decide_eq_true rfl)), (f53 64 (of_decide_eq_true rfl)), (f53 65 (of_decide_eq_true rfl))⟩, (f54 6 (of_decide_eq_true rfl)), (f54 9 (of_decide_eq_true rfl)), (f54 10 (of_decide_eq_true rfl)), (f54 12 (of_decide_eq_true rfl)), (f54 13 (of_decide_eq_true rfl)), (f54 30 (of_decide_eq_true rfl)), (f54 31 (of_decide_eq_true rfl)), (f54 42 (of_decide_eq_true rfl))⟩ (f53 68 (of_decide_eq_true rfl)) (f53 69 (of_decide_eq_true rfl)) (f54 25 (of_decide_eq_true rfl)) (f54 26 (of_decide_eq_true rfl)) (f54 27 (of_decide_eq_true rfl))).2 pr); have q := q57 pr mm; have r := w128 prh q.2 k108 (by omega); have my := (prh.my (by omega) (by omega) (by omega)).mp k108; rw [show σ44 55 27 = σ 55 27 from (f54 27 (of_decide_eq_true rfl)), (show jrLf σ44 = jrLf σ from by unfold jrLf; rw [(show jrEq σ σ44 from ⟨⟨(f53 56 (of_decide_eq_true rfl)), (f53 60 (of_decide_eq_true rfl)), (f53 61 (of_decide_eq_true rfl)), (f53 62 (of_decide_eq_true rfl)), (f53 64 (of_decide_eq_true rfl)), (f53 65 (of_decide_eq_true rfl))⟩, (f54 6 (of_decide_eq_true rfl)), (f54 9 (of_decide_eq_true rfl)), (f54 10 (of_decide_eq_true rfl)), (f54 12 (of_decide_eq_true rfl)), (f54 13 (of_decide_eq_true rfl)), (f54 30 (of_decide_eq_true rfl)), (f54 31 (of_decide_eq_true rfl)), (f54 42 (of_decide_eq_true rfl))⟩).ov, show σ44 55 6 = σ 55 6 from (f54 6 (of_decide_eq_true rfl)), show jrW σ44 = jrW σ from by funext c; unfold jrW; rw [show σ44 69 = σ 69 from (f53 69 (of_decide_eq_true rfl))]])] at my; have ge : (r122 : Int32).toInt = jrG σ (x42 : Int32).toInt.toNat := (by rw [r.1, (show jrEq σ σ44 from ⟨⟨(f53 56 (of_decide_eq_true rfl)), (f53 60 (of_decide_eq_true rfl)), (f53 61 (of_decide_eq_true rfl)), (f53 62 (of_decide_eq_true rfl)), (f53 64 (of_decide_eq_true rfl)), (f53 65 (of_decide_eq_true rfl))⟩, (f54 6 (of_decide_eq_true rfl)), (f54 9 (of_decide_eq_true rfl)), (f54 10 (of_decide_eq_true rfl)), (f54 12 (of_decide_eq_true rfl)), (f54 13 (of_decide_eq_true rfl)), (f54 30 (of_decide_eq_true rfl)), (f54 31 (of_decide_eq_true rfl)), (f54 42 (of_decide_eq_true rfl))⟩).g (f53 68 (of_decide_eq_true rfl)) (f53 69 (of_decide_eq_true rfl)) (f54 25 (of_decide_eq_true rfl)) (f54 26 (of_decide_eq_true rfl))]); exact ⟨q.1.keep (by omega) ge (by omega) (by omega) (by have h9 := tx134; omega), r.2⟩) hP hS (lv_sub hl [0, 2, 3, 4, 5, 6, 7] rfl)
                      · have kc133 := jnle c133 rfl rfl
                        refine lv_iload hx hb dX12_bestFrom_121 (lv_at hl 0 rfl) ?_
                        exact by
                         refine lv_istore (lv' := [(5, .int r122), (7, .int r122), (6, .int x42), (4, .int x40), (3, .int r29), (2, .int x27), (1, .int r22), (0, .ref (ad 55))]) hx hb dX12_bestFrom_123 hl (of_decide_eq_true rfl) rfl (fun ls hl => ?_)
                         refine lv_iload hx hb dX12_bestFrom_125 (lv_at hl 2 rfl) ?_
                         refine lv_istore (lv' := [(4, .int x42), (5, .int r122), (7, .int r122), (6, .int x42), (3, .int r29), (2, .int x27), (1, .int r22), (0, .ref (ad 55))]) hx hb dX12_bestFrom_127 hl (of_decide_eq_true rfl) rfl (fun ls hl => ?_)
                         obtain ⟨x138, ex138⟩ : ∃ y : Int32, y = x42 + 1 := ⟨_, rfl⟩
                         have tx138 : x138.toInt = x42.toInt + 1 := (jadd ex138 rfl jz_1 (by omega) (by omega)).trans (by omega)
                         refine lv_iinc (v := x138) (lv' := [(6, .int x138), (4, .int x42), (5, .int r122), (7, .int r122), (3, .int r29), (2, .int x27), (1, .int r22), (0, .ref (ad 55))]) hx hb dX12_bestFrom_129 hl (k := 3) rfl (by rw [ex138]; rfl) (of_decide_eq_true rfl) rfl (fun ls hl => ?_)
                         refine lv_goto (tgt := 85) hx hb dX12_bestFrom_132 (of_decide_eq_true rfl) ?_
                         have z139 : (σ121 55 26).toInt = (σ 55 26).toInt := (congrArg Int32.toInt (show σ121 55 26 = (σ 55 26) from ((f124 26 (of_decide_eq_true rfl)).trans (f54 26 (of_decide_eq_true rfl)))))
                         have z140 : (σ121 55 6).toInt = (σ 55 6).toInt := (congrArg Int32.toInt (show σ121 55 6 = (σ 55 6) from ((f124 6 (of_decide_eq_true rfl)).trans m60)))
                         exact by
                          have z141 : (σ44 55 27).toInt = (σ 55 27).toInt := (congrArg Int32.toInt (show σ44 55 27 = (σ 55 27) from (f54 27 (of_decide_eq_true rfl))))
                          exact by exact ihlp38 x42 r122 x138 σ121 _ _ ls (by have h92 := tx138; omega) (by have h92 := tx138; omega) (by have h92 := tx138; omega) (by have h92 := tx138; omega) (by have h92 := tx138; omega) (by have h92 := tx138; omega) (by have h92 := tx138; omega) (fun i hi => ((f123 i hi).trans (f53 i hi))) (fun i hi => ((f124 i hi).trans (f54 i hi)))  p125 p127 (fun pr mm => by have prh : jrP σ44 := ((jrEq.v (σ := σ) (σ' := σ44) ⟨⟨(f53 56 (of_decide_eq_true rfl)), (f53 60 (of_decide_eq_true rfl)), (f53 61 (of_decide_eq_true rfl)), (f53 62 (of_decide_eq_true rfl)), (f53 64 (of_decide_eq_true rfl)), (f53 65 (of_decide_eq_true rfl))⟩, (f54 6 (of_decide_eq_true rfl)), (f54 9 (of_decide_eq_true rfl)), (f54 10 (of_decide_eq_true rfl)), (f54 12 (of_decide_eq_true rfl)), (f54 13 (of_decide_eq_true rfl)), (f54 30 (of_decide_eq_true rfl)), (f54 31 (of_decide_eq_true rfl)), (f54 42 (of_decide_eq_true rfl))⟩ (f53 68 (of_decide_eq_true rfl)) (f53 69 (of_decide_eq_true rfl)) (f54 25 (of_decide_eq_true rfl)) (f54 26 (of_decide_eq_true rfl)) (f54 27 (of_decide_eq_true rfl))).2 pr); have q := q57 pr mm; have r := w128 prh q.2 k108 (by omega); have my := (prh.my (by omega) (by omega) (by omega)).mp k108; rw [show σ44 55 27 = σ 55 27 from (f54 27 (of_decide_eq_true rfl)), (show jrLf σ44 = jrLf σ from by unfold jrLf; rw [(show jrEq σ σ44 from ⟨⟨(f53 56 (of_decide_eq_true rfl)), (f53 60 (of_decide_eq_true rfl)), (f53 61 (of_decide_eq_true rfl)), (f53 62 (of_decide_eq_true rfl)), (f53 64 (of_decide_eq_true rfl)), (f53 65 (of_decide_eq_true rfl))⟩, (f54 6 (of_decide_eq_true rfl)), (f54 9 (of_decide_eq_true rfl)), (f54 10 (of_decide_eq_true rfl)), (f54 12 (of_decide_eq_true rfl)), (f54 13 (of_decide_eq_true rfl)), (f54 30 (of_decide_eq_true rfl)), (f54 31 (of_decide_eq_true rfl)), (f54 42 (of_decide_eq_true rfl))⟩).ov, show σ44 55 6 = σ 55 6 from (f54 6 (of_decide_eq_true rfl)), show jrW σ44 = jrW σ from by funext c; unfold jrW; rw [show σ44 69 = σ 69 from (f53 69 (of_decide_eq_true rfl))]])] at my; have ge : (r122 : Int32).toInt = jrG σ (x42 : Int32).toInt.toNat := (by rw [r.1, (show jrEq σ σ44 from ⟨⟨(f53 56 (of_decide_eq_true rfl)), (f53 60 (of_decide_eq_true rfl)), (f53 61 (of_decide_eq_true rfl)), (f53 62 (of_decide_eq_true rfl)), (f53 64 (of_decide_eq_true rfl)), (f53 65 (of_decide_eq_true rfl))⟩, (f54 6 (of_decide_eq_true rfl)), (f54 9 (of_decide_eq_true rfl)), (f54 10 (of_decide_eq_true rfl)), (f54 12 (of_decide_eq_true rfl)), (f54 13 (of_decide_eq_true rfl)), (f54 30 (of_decide_eq_true rfl)), (f54 31 (of_decide_eq_true rfl)), (f54 42 (of_decide_eq_true rfl))⟩).g (f53 68 (of_decide_eq_true rfl)) (f53 69 (of_decide_eq_true rfl)) (f54 25 (of_decide_eq_true rfl)) (f54 26 (of_decide_eq_true rfl))]); exact ⟨q.1.take (by omega) my ge (by omega) (by omega) (by omega) (by have h9 := tx138; omega), r.2⟩) hP hS (lv_sub hl [0, 2, 1, 4, 5, 6, 7] rfl)
                  · obtain ⟨q143, k142⟩ := h107
                    have q143 := q143.symm
                    subst q143
                    have e144 : jmb σ44 x42 = jmb σ x42 := (jmb_fr (f54 27 (of_decide_eq_true rfl)) (f54 30 (of_decide_eq_true rfl)) (f54 31 (of_decide_eq_true rfl)) (f53 56 (of_decide_eq_true rfl)) (f53 69 (of_decide_eq_true rfl)) x42)
                    have n145 : ¬ x42 = B0 := fun h => absurd ((hB0).symm.trans (by rw [← h]; exact e144.symm.trans k142) : (1 : Int32) = 0) (of_decide_eq_true rfl)
                    have k146 := jne n145 rfl rfl
                    refine lv_if_ne (tgt := 106) hx hb dX12_bestFrom_100 (of_decide_eq_true rfl) (fun c => absurd (of_decide_eq_true rfl) c) (fun _ => ?_)
                    exact by
                     refine lv_goto (tgt := 129) hx hb dX12_bestFrom_103 (of_decide_eq_true rfl) ?_
                     obtain ⟨x147, ex147⟩ : ∃ y : Int32, y = x42 + 1 := ⟨_, rfl⟩
                     have tx147 : x147.toInt = x42.toInt + 1 := (jadd ex147 rfl jz_1 (by omega) (by omega)).trans (by omega)
                     refine lv_iinc (v := x147) (lv' := [(6, .int x147), (5, .int x41), (4, .int x40), (3, .int r29), (2, .int x27), (1, .int r22), (0, .ref (ad 55))]) hx hb dX12_bestFrom_129 hl (k := 0) rfl (by rw [ex147]; rfl) (of_decide_eq_true rfl) rfl (fun ls hl => ?_)
                     refine lv_goto (tgt := 85) hx hb dX12_bestFrom_132 (of_decide_eq_true rfl) ?_
                     have z148 : (σ44 55 25).toInt = (σ 55 25).toInt := (congrArg Int32.toInt (show σ44 55 25 = (σ 55 25) from (f54 25 (of_decide_eq_true rfl))))
                     have z149 : (σ44 55 27).toInt = (σ 55 27).toInt := (congrArg Int32.toInt (show σ44 55 27 = (σ 55 27) from (f54 27 (of_decide_eq_true rfl))))
                     exact by exact ihlp38 x40 x41 x147 σ44 _ _ ls (by have h92 := tx147; omega) (by have h92 := tx147; omega) (by have h92 := tx147; omega) (by have h92 := tx147; omega) (by have h92 := tx147; omega) (by have h92 := tx147; omega) (by have h92 := tx147; omega) (fun i hi => (f53 i hi)) (fun i hi => (f54 i hi))  p55 p56 (fun pr mm => by have prh : jrP σ44 := ((jrEq.v (σ := σ) (σ' := σ44) ⟨⟨(f53 56 (of_decide_eq_true rfl)), (f53 60 (of_decide_eq_true rfl)), (f53 61 (of_decide_eq_true rfl)), (f53 62 (of_decide_eq_true rfl)), (f53 64 (of_decide_eq_true rfl)), (f53 65 (of_decide_eq_true rfl))⟩, (f54 6 (of_decide_eq_true rfl)), (f54 9 (of_decide_eq_true rfl)), (f54 10 (of_decide_eq_true rfl)), (f54 12 (of_decide_eq_true rfl)), (f54 13 (of_decide_eq_true rfl)), (f54 30 (of_decide_eq_true rfl)), (f54 31 (of_decide_eq_true rfl)), (f54 42 (of_decide_eq_true rfl))⟩ (f53 68 (of_decide_eq_true rfl)) (f53 69 (of_decide_eq_true rfl)) (f54 25 (of_decide_eq_true rfl)) (f54 26 (of_decide_eq_true rfl)) (f54 27 (of_decide_eq_true rfl))).2 pr); have q := q57 pr mm; have my : ¬ jMy4 (σ44 55 27).toInt (jrLf σ44) (x42 : Int32).toInt.toNat = true := fun z => absurd ((prh.my (by omega) (by omega) (by omega)).mpr z) (by rw [k142]; decide); rw [show σ44 55 27 = σ 55 27 from (f54 27 (of_decide_eq_true rfl)), (show jrLf σ44 = jrLf σ from by unfold jrLf; rw [(show jrEq σ σ44 from ⟨⟨(f53 56 (of_decide_eq_true rfl)), (f53 60 (of_decide_eq_true rfl)), (f53 61 (of_decide_eq_true rfl)), (f53 62 (of_decide_eq_true rfl)), (f53 64 (of_decide_eq_true rfl)), (f53 65 (of_decide_eq_true rfl))⟩, (f54 6 (of_decide_eq_true rfl)), (f54 9 (of_decide_eq_true rfl)), (f54 10 (of_decide_eq_true rfl)), (f54 12 (of_decide_eq_true rfl)), (f54 13 (of_decide_eq_true rfl)), (f54 30 (of_decide_eq_true rfl)), (f54 31 (of_decide_eq_true rfl)), (f54 42 (of_decide_eq_true rfl))⟩).ov, show σ44 55 6 = σ 55 6 from (f54 6 (of_decide_eq_true rfl)), show jrW σ44 = jrW σ from by funext c; unfold jrW; rw [show σ44 69 = σ 69 from (f53 69 (of_decide_eq_true rfl))]])] at my; exact ⟨q.1.skip (by omega) my (by have h9 := tx147; omega), q.2⟩) hP hS (lv_sub hl [0, 1, 2, 3, 4, 5, 6] rfl)
           exact by exact lp38 1000000 (-1) 2000000000 0 σ _ _ ls (by have h90 := jz_m1; have h91 := jz_2000000000; have h92 := jz_0; omega) (by have h90 := jz_m1; have h91 := jz_2000000000; have h92 := jz_0; omega) (by have h90 := jz_m1; have h91 := jz_2000000000; have h92 := jz_0; omega) (by have h90 := jz_m1; have h91 := jz_2000000000; have h92 := jz_0; omega) (by have h90 := jz_m1; have h91 := jz_2000000000; have h92 := jz_0; omega) (by have h90 := jz_m1; have h91 := jz_2000000000; have h92 := jz_0; omega) (by have h90 := jz_m1; have h91 := jz_2000000000; have h92 := jz_0; omega) (fun _ _ => rfl) (fun _ _ => rfl)  hs_jKept hs_jqSt (fun pr mm => ⟨jrB.first (by have h9 := jz_0; omega) (by have h9 := jz_m1; omega) (by have h9 := jz_2000000000; omega), mm⟩) hP hS hl
         · exact by
            have kc37 := jeq c37 rfl rfl
            have g150 := hs_jKept r29.toNatClampNeg (jnat (x := r29) rfl (n := 65536) (by omega) (of_decide_eq_true rfl))
            refine lv_aload_n hx hb dX12_bestFrom_57 rfl (lv_at hl 3 rfl) ?_
            refine lv_aload_n hx hb dX12_bestFrom_58 rfl (lv_at hl 3 rfl) ?_
            refine va_get (D := D) hx hb hts inlX12 hown hK hP 55 (jc_55 cI cL ad σ τ) rfl 41 (of_decide_eq_true rfl) (hts _ kw_8_2) (fun _ h9 => h9) rfl dX12_bestFrom_59 ?_
            refine lv_iload_n hx hb dX12_bestFrom_62 rfl (lv_at hl 0 rfl) ?_
            refine jald hx hb hK hP (jc_77 cI cL ad σ τ) (jin rfl (by omega) (by omega)) dX12_bestFrom_63 ?_
            refine jtopr (y := (σ 77 r29.toNatClampNeg)) rfl ?_
            refine jput (ty := .int) hx hb hts inlX12 tyX12 tyX12_ok nmX12 hown hK hP hJ hA hS (jc_55 cI cL ad σ τ) rfl (k := 37) (of_decide_eq_true rfl) (Nat.le_of_ble_eq_true rfl) (jp_55_37 cI cL ad σ τ (σ 77 r29.toNatClampNeg)) (hts _ kw_33_15) (fun _ h9 => h9) rfl (by decide +kernel) rfl rfl dX12_bestFrom_64 (fun σ152 H locs eσ152 hP hS => ?_)
            exact by
             refine lv_aload_n hx hb dX12_bestFrom_67 rfl (lv_at hl 3 rfl) ?_
             refine va_get (D := D) hx hb hts inlX12 hown hK hP 55 (jc_55 cI cL ad σ152 τ) rfl 40 (of_decide_eq_true rfl) (hts _ kw_8_1) (fun _ h9 => h9) rfl dX12_bestFrom_68 ?_
             refine lv_iload_n hx hb dX12_bestFrom_71 rfl (lv_at hl 0 rfl) ?_
             refine jald hx hb hK hP (jc_76 cI cL ad σ152 τ) (jin rfl (by omega) (by omega)) dX12_bestFrom_72 ?_
             refine jtopr (y := (σ 76 r29.toNatClampNeg)) (by rw [jnp 76 eσ152 (of_decide_eq_true rfl)]) ?_
             have p153 : jKept σ152 := jKept.fr (jnp 75 eσ152 (of_decide_eq_true rfl)) (jnp 76 eσ152 (of_decide_eq_true rfl)) (jnp 77 eσ152 (of_decide_eq_true rfl)) hs_jKept
             have p154 : jTR σ152 := jTR.fr (jnp 64 eσ152 (of_decide_eq_true rfl)) (jnp 65 eσ152 (of_decide_eq_true rfl)) hs_jTR
             have p155 : jqSt σ152 := jqSt.fr (jnp 78 eσ152 (of_decide_eq_true rfl)) (jkp 42 eσ152 (of_decide_eq_true rfl)) hs_jqSt
             have z156 : (σ152 55 37).toInt = (σ 77 r29.toNatClampNeg).toInt := (congrArg Int32.toInt (show σ152 55 37 = (σ 77 r29.toNatClampNeg) from (jsp eσ152)))
             exact by
              have z157 : (σ152 55 25).toInt = (σ 55 25).toInt := (congrArg Int32.toInt (show σ152 55 25 = (σ 55 25) from (jkp 25 eσ152 (of_decide_eq_true rfl))))
              have z158 : (σ152 55 26).toInt = (σ 55 26).toInt := (congrArg Int32.toInt (show σ152 55 26 = (σ 55 26) from (jkp 26 eσ152 (of_decide_eq_true rfl))))
              have z159 : (σ152 55 27).toInt = (σ 55 27).toInt := (congrArg Int32.toInt (show σ152 55 27 = (σ 55 27) from (jkp 27 eσ152 (of_decide_eq_true rfl))))
              have k151 : jrP σ → jrM σ → ((σ 77 r29.toNatClampNeg).toInt, (σ 76 r29.toNatClampNeg).toInt) = jrV σ := fun pr mm => jrM.hit (k := r29.toNatClampNeg) pr mm (jnat (x := r29) rfl (n := 65536) (by omega) (of_decide_eq_true rfl)) c37 (by have w := w23 pr.w0; have w2 := k33.elim (fun z => absurd c37 z) (fun z => z); rw [w2.1]; exact w) (by have w2 := k33.elim (fun z => absurd c37 z) (fun z => z); rw [w2.2]; have h9 := tx27; omega) (by omega) (by omega) (by omega)
              exact by exact hret (σ 76 r29.toNatClampNeg) σ152 τ _ _ _ _ rfl ⟨rfl, (fun i hi => (jnp i eσ152 (imp_206 i hi))), (fun i hi => (jkp i eσ152 (imp_207 i hi))), p153, p154, p155, (fun pr mm => by have z := k151 pr mm; have z1 := congrArg Prod.fst z; have z2 := congrArg Prod.snd z; exact ⟨⟨by rw [← z1]; show (σ152 55 37).toInt = if (σ 77 r29.toNatClampNeg).toInt < 0 then -2 else (σ 77 r29.toNatClampNeg).toInt; rw [if_neg (by omega)]; omega, z2⟩, (jrEq.m (σ := σ) (σ' := σ152) ⟨⟨(jnp 56 eσ152 (of_decide_eq_true rfl)), (jnp 60 eσ152 (of_decide_eq_true rfl)), (jnp 61 eσ152 (of_decide_eq_true rfl)), (jnp 62 eσ152 (of_decide_eq_true rfl)), (jnp 64 eσ152 (of_decide_eq_true rfl)), (jnp 65 eσ152 (of_decide_eq_true rfl))⟩, (jkp 6 eσ152 (of_decide_eq_true rfl)), (jkp 9 eσ152 (of_decide_eq_true rfl)), (jkp 10 eσ152 (of_decide_eq_true rfl)), (jkp 12 eσ152 (of_decide_eq_true rfl)), (jkp 13 eσ152 (of_decide_eq_true rfl)), (jkp 30 eσ152 (of_decide_eq_true rfl)), (jkp 31 eσ152 (of_decide_eq_true rfl)), (jkp 42 eσ152 (of_decide_eq_true rfl))⟩ (jnp 78 eσ152 (of_decide_eq_true rfl)) (jnp 74 eσ152 (of_decide_eq_true rfl)) (jnp 75 eσ152 (of_decide_eq_true rfl)) (jnp 76 eσ152 (of_decide_eq_true rfl)) (jnp 77 eσ152 (of_decide_eq_true rfl)) mm)⟩), (by omega), ⟨trivial, (by omega)⟩⟩ hP hS dX12_bestFrom_73
     · obtain ⟨q161, k160⟩ := h31
       have q161 := q161.symm
       subst q161
       refine lv_istore_n (lv' := [(3, .int (-1)), (2, .int x27), (1, .int r22), (0, .ref (ad 55))]) hx hb dX12_bestFrom_39 rfl hl (of_decide_eq_true rfl) rfl (fun ls hl => ?_)
       exact by
        refine lv_iload_n hx hb dX12_bestFrom_40 rfl (lv_at hl 0 rfl) ?_
        refine lv_if_lt (tgt := 74) hx hb dX12_bestFrom_41 (of_decide_eq_true rfl) (fun _ => ?_) (fun c => absurd (of_decide_eq_true rfl) c)
        refine lv_iconst (v := (-1)) hx hb dX12_bestFrom_74 (of_decide_eq_true rfl) ?_
        refine lv_istore (lv' := [(4, .int (-1)), (3, .int (-1)), (2, .int x27), (1, .int r22), (0, .ref (ad 55))]) hx hb dX12_bestFrom_75 hl (of_decide_eq_true rfl) rfl (fun ls hl => ?_)
        refine lv_ldcw (v := 2000000000) hx hb hown (hts _ kw_34_4) dX12_bestFrom_77 ?_
        refine lv_istore (lv' := [(5, .int 2000000000), (4, .int (-1)), (3, .int (-1)), (2, .int x27), (1, .int r22), (0, .ref (ad 55))]) hx hb dX12_bestFrom_80 hl (of_decide_eq_true rfl) rfl (fun ls hl => ?_)
        refine lv_iconst (v := 0) hx hb dX12_bestFrom_82 (of_decide_eq_true rfl) ?_
        refine lv_istore (lv' := [(6, .int 0), (5, .int 2000000000), (4, .int (-1)), (3, .int (-1)), (2, .int x27), (1, .int r22), (0, .ref (ad 55))]) hx hb dX12_bestFrom_83 hl (of_decide_eq_true rfl) rfl (fun ls hl => ?_)
        have lp162 : ∀ (n163 : Nat) (x164 : Int32) (x165 : Int32) (x166 : Int32) (σ168 : Nat → Nat → Int32) (H : Heap) (locs : List Loc) (ls : Array Slot), (-x166.toInt + 4 : Int) < n163 → (-1) ≤ x164.toInt → x164.toInt ≤ 3 → 0 ≤ x166.toInt → x166.toInt ≤ 4 → ((0 ≤ x164.toInt ∧ 0 ≤ x165.toInt ∧ x165.toInt ≤ -(1023000 * (σ168 55 26).toInt) + 12276000) ∨ (x164.toInt = (-1) ∧ x165.toInt = 2000000000 ∧ x166.toInt ≤ B0.toInt)) → x166.toInt ≤ (σ168 55 6).toInt → (∀ i : Nat, (i < 55 ∨ 55 < i) ∧ (i < 66 ∨ 66 < i) ∧ (i < 74 ∨ 78 < i) → σ168 i = σ i) → (∀ k : Nat, (k < 18 ∨ 18 < k) ∧ (k < 19 ∨ 19 < k) ∧ (k < 20 ∨ 20 < k) ∧ (k < 21 ∨ 21 < k) ∧ (k < 22 ∨ 22 < k) ∧ (k < 37 ∨ 37 < k) → σ168 55 k = σ 55 k) → jKept σ168 → jqSt σ168 → ((jrP σ → jrM σ → jrB σ (x166 : Int32).toInt (x164 : Int32).toInt (x165 : Int32).toInt ∧ jrM σ168)) → jH D cI cL ad σ168 τ H → va_S (jA ad) s.heap H locs → lv_has ls 8 [(6, .int x166), (5, .int x165), (4, .int x164), (3, .int (-1)), (2, .int x27), (1, .int r22), (0, .ref (ad 55))] → W p l e ({ frames := (70 + 4 * (n)), cells := 0, slots := 0, locals := (3114 + 240 * (n)) }) s m args below meth c H locs 0 0 Q (F0 m 85 ls []) := by
          intro n163
          induction n163 with
          | zero => intro x164 x165 x166 σ168 H locs ls h170 h171 h172 h173 h174 h175 h176; have gx165 := jrg (rfl : x165.toInt = x165.toInt); exact absurd h170 (by omega)
          | succ n163 ihlp162 =>
            intro x164 x165 x166 σ168 H locs ls h170 h171 h172 h173 h174 h175 h176 f177 f178 p179 p180 q181 hP hS hl
            exact by
             have gx165 := jrg (rfl : x165.toInt = x165.toInt)
             have z182 : (σ168 55 26).toInt = (σ 55 26).toInt := (congrArg Int32.toInt (show σ168 55 26 = (σ 55 26) from (f178 26 (of_decide_eq_true rfl))))
             have z183 : (σ168 55 6).toInt = (σ 55 6).toInt := (congrArg Int32.toInt (show σ168 55 6 = (σ 55 6) from (f178 6 (of_decide_eq_true rfl))))
             refine lv_iload hx hb dX12_bestFrom_85 (lv_at hl 0 rfl) ?_
             refine lv_aload_n hx hb dX12_bestFrom_87 rfl (lv_at hl 6 rfl) ?_
             refine va_get (D := D) hx hb hts inlX12 hown hK hP 55 (jc_55 cI cL ad σ168 τ) rfl 6 (of_decide_eq_true rfl) (hts _ kw_9_13) (fun _ h9 => h9) rfl dX12_bestFrom_88 ?_
             have m184 : σ168 55 6 = (σ 55 6) := (f178 6 (of_decide_eq_true rfl))
             refine jtopr m184 ?_
             refine lv_icmp_ge (tgt := 135) hx hb dX12_bestFrom_91 (of_decide_eq_true rfl) (fun c185 => ?_) (fun c185 => ?_)
             · have kc185 := jle c185 rfl rfl
               refine lv_aload_n hx hb dX12_bestFrom_135 rfl (lv_at hl 6 rfl) ?_
               refine lv_iload_n hx hb dX12_bestFrom_136 rfl (lv_at hl 5 rfl) ?_
               refine lv_iload_n hx hb dX12_bestFrom_137 rfl (lv_at hl 4 rfl) ?_
               refine jcallV (As := [.int r22, .int x27]) (rest := []) ⟨hx, hb, hml, hown, hts⟩ hK hP hA hS hZ (c_X12_spot l D cI cL ad zz hJ σ168 τ r22 (r22.toInt) rfl x27 (16 * (σ 55 26).toInt + (σ 55 25).toInt) tx27) cw_RX12_314 (jc_55 cI cL ad σ168 τ) rfl ⟨by dsimp only; omega, by dsimp only; omega⟩ rfl rfl rfl hl.1 rfl (Nat.le_of_ble_eq_true rfl) dX12_bestFrom_138 ⟨Nat.zero_le _, Nat.zero_le _⟩ (fun r187 σ186 τ186 H locs h186 hP hS => ?_)
               obtain ⟨⟨rfl, rfl⟩, h186⟩ := h186
               rcases h186 with h188 | h189
               · obtain ⟨q192, k190, k191⟩ := h188
                 have z194 : (σ168 55 42).toInt = (σ 55 42).toInt := (congrArg Int32.toInt (show σ168 55 42 = (σ 55 42) from (f178 42 (of_decide_eq_true rfl))))
                 have k193 : (σ168 78 r187.toNatClampNeg).toInt ≠ (σ168 55 42).toInt ∨ (σ168 75 r187.toNatClampNeg).toInt = 16 * (σ 55 26).toInt + (σ 55 25).toInt := k191.imp (fun q => jne q rfl rfl) (fun q => jeq q.2 rfl tx27)
                 refine lv_istore_n (lv' := [(3, .int r187), (6, .int x166), (5, .int x165), (4, .int x164), (2, .int x27), (1, .int r22), (0, .ref (ad 55))]) hx hb dX12_bestFrom_141 rfl hl (of_decide_eq_true rfl) rfl (fun ls hl => ?_)
                 refine lv_iload_n hx hb dX12_bestFrom_142 rfl (lv_at hl 0 rfl) ?_
                 exact by
                  refine lv_if_lt (tgt := 186) hx hb dX12_bestFrom_143 (of_decide_eq_true rfl) (fun c => absurd (jlt c rfl jz_0) (by omega)) (fun c195 => ?_)
                  have kc195 := jnlt c195 rfl jz_0
                  refine lv_aload_n hx hb dX12_bestFrom_146 rfl (lv_at hl 6 rfl) ?_
                  refine va_get (D := D) hx hb hts inlX12 hown hK hP 55 (jc_55 cI cL ad σ168 τ) rfl 43 (of_decide_eq_true rfl) (hts _ kw_8_3) (fun _ h9 => h9) rfl dX12_bestFrom_147 ?_
                  refine lv_iload_n hx hb dX12_bestFrom_150 rfl (lv_at hl 0 rfl) ?_
                  refine lv_aload_n hx hb dX12_bestFrom_151 rfl (lv_at hl 6 rfl) ?_
                  refine va_get (D := D) hx hb hts inlX12 hown hK hP 55 (jc_55 cI cL ad σ168 τ) rfl 42 (of_decide_eq_true rfl) (hts _ kw_33_10) (fun _ h9 => h9) rfl dX12_bestFrom_152 ?_
                  have m196 : σ168 55 42 = (σ 55 42) := (f178 42 (of_decide_eq_true rfl))
                  refine jtopr m196 ?_
                  exact by
                   refine jast hx hb hK hP hJ hA hS (jc_78 cI cL ad σ168 τ) (ja_78 cI cL ad σ168 τ _ _) (jin rfl (by omega) (by omega)) dX12_bestFrom_155 (fun σ197 H locs eσ197 hP hS => ?_)
                   have p198 : jqSt σ197 := (jqSt.put p180 eσ197 (show (σ 55 42) = σ168 55 42 from (m196).symm))
                   refine lv_aload_n hx hb dX12_bestFrom_156 rfl (lv_at hl 6 rfl) ?_
                   refine va_get (D := D) hx hb hts inlX12 hown hK hP 55 (jc_55 cI cL ad σ197 τ) rfl 38 (of_decide_eq_true rfl) (hts _ kw_7_23) (fun _ h9 => h9) rfl dX12_bestFrom_157 ?_
                   refine lv_iload_n hx hb dX12_bestFrom_160 rfl (lv_at hl 0 rfl) ?_
                   refine lv_iload_n hx hb dX12_bestFrom_161 rfl (lv_at hl 5 rfl) ?_
                   refine jast hx hb hK hP hJ hA hS (jc_74 cI cL ad σ197 τ) (ja_74 cI cL ad σ197 τ _ _) (jin rfl (by omega) (by omega)) dX12_bestFrom_162 (fun σ199 H locs eσ199 hP hS => ?_)
                   refine lv_aload_n hx hb dX12_bestFrom_163 rfl (lv_at hl 6 rfl) ?_
                   refine va_get (D := D) hx hb hts inlX12 hown hK hP 55 (jc_55 cI cL ad σ199 τ) rfl 39 (of_decide_eq_true rfl) (hts _ kw_8_0) (fun _ h9 => h9) rfl dX12_bestFrom_164 ?_
                   exact by
                    refine lv_iload_n hx hb dX12_bestFrom_167 rfl (lv_at hl 0 rfl) ?_
                    refine lv_iload_n hx hb dX12_bestFrom_168 rfl (lv_at hl 4 rfl) ?_
                    refine jast hx hb hK hP hJ hA hS (jc_75 cI cL ad σ199 τ) (ja_75 cI cL ad σ199 τ _ _) (jin rfl (by omega) (by omega)) dX12_bestFrom_169 (fun σ200 H locs eσ200 hP hS => ?_)
                    refine lv_aload_n hx hb dX12_bestFrom_170 rfl (lv_at hl 6 rfl) ?_
                    refine va_get (D := D) hx hb hts inlX12 hown hK hP 55 (jc_55 cI cL ad σ200 τ) rfl 40 (of_decide_eq_true rfl) (hts _ kw_8_1) (fun _ h9 => h9) rfl dX12_bestFrom_171 ?_
                    refine lv_iload_n hx hb dX12_bestFrom_174 rfl (lv_at hl 0 rfl) ?_
                    refine lv_iload hx hb dX12_bestFrom_175 (lv_at hl 2 rfl) ?_
                    refine jast hx hb hK hP hJ hA hS (jc_76 cI cL ad σ200 τ) (ja_76 cI cL ad σ200 τ _ _) (jin rfl (by omega) (by omega)) dX12_bestFrom_177 (fun σ201 H locs eσ201 hP hS => ?_)
                    refine lv_aload_n hx hb dX12_bestFrom_178 rfl (lv_at hl 6 rfl) ?_
                    exact by
                     refine va_get (D := D) hx hb hts inlX12 hown hK hP 55 (jc_55 cI cL ad σ201 τ) rfl 41 (of_decide_eq_true rfl) (hts _ kw_8_2) (fun _ h9 => h9) rfl dX12_bestFrom_179 ?_
                     refine lv_iload_n hx hb dX12_bestFrom_182 rfl (lv_at hl 0 rfl) ?_
                     refine lv_iload hx hb dX12_bestFrom_183 (lv_at hl 3 rfl) ?_
                     refine jast hx hb hK hP hJ hA hS (jc_77 cI cL ad σ201 τ) (ja_77 cI cL ad σ201 τ _ _) (jin rfl (by omega) (by omega)) dX12_bestFrom_185 (fun σ202 H locs eσ202 hP hS => ?_)
                     have e203 : σ202 75 = jupd (σ168 75) r187.toNatClampNeg x27 := by rw [eσ202, jup_n (of_decide_eq_true rfl), eσ201, jup_n (of_decide_eq_true rfl), eσ200, jup_row, eσ199, jup_n (of_decide_eq_true rfl), eσ197, jup_n (of_decide_eq_true rfl)]
                     have e204 : σ202 76 = jupd (σ168 76) r187.toNatClampNeg x165 := by rw [eσ202, jup_n (of_decide_eq_true rfl), eσ201, jup_row, eσ200, jup_n (of_decide_eq_true rfl), eσ199, jup_n (of_decide_eq_true rfl), eσ197, jup_n (of_decide_eq_true rfl)]
                     have e205 : σ202 77 = jupd (σ168 77) r187.toNatClampNeg x164 := by rw [eσ202, jup_row, eσ201, jup_n (of_decide_eq_true rfl), eσ200, jup_n (of_decide_eq_true rfl), eσ199, jup_n (of_decide_eq_true rfl), eσ197, jup_n (of_decide_eq_true rfl)]
                     have z206 : (σ202 55 26).toInt = (σ 55 26).toInt := (congrArg Int32.toInt (show σ202 55 26 = (σ 55 26) from ((congrFun (jnp 55 eσ202 (of_decide_eq_true rfl)) 26).trans ((congrFun (jnp 55 eσ201 (of_decide_eq_true rfl)) 26).trans ((congrFun (jnp 55 eσ200 (of_decide_eq_true rfl)) 26).trans ((congrFun (jnp 55 eσ199 (of_decide_eq_true rfl)) 26).trans ((congrFun (jnp 55 eσ197 (of_decide_eq_true rfl)) 26).trans (f178 26 (of_decide_eq_true rfl)))))))))
                     have p207 : jKept σ202 := p179.on e203 e204 e205 (by have h91 := tx27; omega) (by have h91 := tx27; omega) (by have h91 := tx27; omega) (by have h91 := tx27; omega)
                     exact by
                      refine lv_aload_n hx hb dX12_bestFrom_186 rfl (lv_at hl 6 rfl) ?_
                      refine lv_iload hx hb dX12_bestFrom_187 (lv_at hl 3 rfl) ?_
                      refine jput (ty := .int) hx hb hts inlX12 tyX12 tyX12_ok nmX12 hown hK hP hJ hA hS (jc_55 cI cL ad σ202 τ) rfl (k := 37) (of_decide_eq_true rfl) (Nat.le_of_ble_eq_true rfl) (jp_55_37 cI cL ad σ202 τ x164) (hts _ kw_33_15) (fun _ h9 => h9) rfl (by decide +kernel) rfl rfl dX12_bestFrom_189 (fun σ208 H locs eσ208 hP hS => ?_)
                      refine lv_iload hx hb dX12_bestFrom_192 (lv_at hl 2 rfl) ?_
                      have p209 : jKept σ208 := jKept.fr (jnp 75 eσ208 (of_decide_eq_true rfl)) (jnp 76 eσ208 (of_decide_eq_true rfl)) (jnp 77 eσ208 (of_decide_eq_true rfl)) p207
                      have p210 : jTR σ208 := jTR.fr ((jnp 64 eσ208 (of_decide_eq_true rfl)).trans ((jnp 64 eσ202 (of_decide_eq_true rfl)).trans ((jnp 64 eσ201 (of_decide_eq_true rfl)).trans ((jnp 64 eσ200 (of_decide_eq_true rfl)).trans ((jnp 64 eσ199 (of_decide_eq_true rfl)).trans ((jnp 64 eσ197 (of_decide_eq_true rfl)).trans (f177 64 (of_decide_eq_true rfl)))))))) ((jnp 65 eσ208 (of_decide_eq_true rfl)).trans ((jnp 65 eσ202 (of_decide_eq_true rfl)).trans ((jnp 65 eσ201 (of_decide_eq_true rfl)).trans ((jnp 65 eσ200 (of_decide_eq_true rfl)).trans ((jnp 65 eσ199 (of_decide_eq_true rfl)).trans ((jnp 65 eσ197 (of_decide_eq_true rfl)).trans (f177 65 (of_decide_eq_true rfl)))))))) hs_jTR
                      have p211 : jqSt σ208 := jqSt.fr ((jnp 78 eσ208 (of_decide_eq_true rfl)).trans ((jnp 78 eσ202 (of_decide_eq_true rfl)).trans ((jnp 78 eσ201 (of_decide_eq_true rfl)).trans ((jnp 78 eσ200 (of_decide_eq_true rfl)).trans (jnp 78 eσ199 (of_decide_eq_true rfl)))))) ((jkp 42 eσ208 (of_decide_eq_true rfl)).trans ((congrFun (jnp 55 eσ202 (of_decide_eq_true rfl)) 42).trans ((congrFun (jnp 55 eσ201 (of_decide_eq_true rfl)) 42).trans ((congrFun (jnp 55 eσ200 (of_decide_eq_true rfl)) 42).trans (congrFun (jnp 55 eσ199 (of_decide_eq_true rfl)) 42))))) p198
                      have z212 : (σ208 55 37).toInt = x164.toInt := (congrArg Int32.toInt (show σ208 55 37 = x164 from (jsp eσ208)))
                      have z213 : (σ208 55 25).toInt = (σ 55 25).toInt := (congrArg Int32.toInt (show σ208 55 25 = (σ 55 25) from ((jkp 25 eσ208 (of_decide_eq_true rfl)).trans ((congrFun (jnp 55 eσ202 (of_decide_eq_true rfl)) 25).trans ((congrFun (jnp 55 eσ201 (of_decide_eq_true rfl)) 25).trans ((congrFun (jnp 55 eσ200 (of_decide_eq_true rfl)) 25).trans ((congrFun (jnp 55 eσ199 (of_decide_eq_true rfl)) 25).trans ((congrFun (jnp 55 eσ197 (of_decide_eq_true rfl)) 25).trans (f178 25 (of_decide_eq_true rfl))))))))))
                      have z214 : (σ208 55 26).toInt = (σ 55 26).toInt := (congrArg Int32.toInt (show σ208 55 26 = (σ 55 26) from ((jkp 26 eσ208 (of_decide_eq_true rfl)).trans ((congrFun (jnp 55 eσ202 (of_decide_eq_true rfl)) 26).trans ((congrFun (jnp 55 eσ201 (of_decide_eq_true rfl)) 26).trans ((congrFun (jnp 55 eσ200 (of_decide_eq_true rfl)) 26).trans ((congrFun (jnp 55 eσ199 (of_decide_eq_true rfl)) 26).trans ((congrFun (jnp 55 eσ197 (of_decide_eq_true rfl)) 26).trans (f178 26 (of_decide_eq_true rfl))))))))))
                      have z215 : (σ208 55 27).toInt = (σ 55 27).toInt := (congrArg Int32.toInt (show σ208 55 27 = (σ 55 27) from ((jkp 27 eσ208 (of_decide_eq_true rfl)).trans ((congrFun (jnp 55 eσ202 (of_decide_eq_true rfl)) 27).trans ((congrFun (jnp 55 eσ201 (of_decide_eq_true rfl)) 27).trans ((congrFun (jnp 55 eσ200 (of_decide_eq_true rfl)) 27).trans ((congrFun (jnp 55 eσ199 (of_decide_eq_true rfl)) 27).trans ((congrFun (jnp 55 eσ197 (of_decide_eq_true rfl)) 27).trans (f178 27 (of_decide_eq_true rfl))))))))))
                      exact by
                       have k216 : jrP σ → jrM σ → ((x164 : Int32).toInt, (x165 : Int32).toInt) = jrV σ := fun pr mm => (q181 pr mm).1.fin (by omega) (by omega) (by omega) (by omega) (by omega) (by omega)
                       exact by exact hret x165 σ208 τ _ _ _ _ rfl ⟨rfl, (fun i hi => ((jnp i eσ208 (imp_206 i hi)).trans ((jnp i eσ202 (imp_208 i hi)).trans ((jnp i eσ201 (imp_209 i hi)).trans ((jnp i eσ200 (imp_210 i hi)).trans ((jnp i eσ199 (imp_211 i hi)).trans ((jnp i eσ197 (imp_212 i hi)).trans (f177 i hi)))))))), (fun i hi => ((jkp i eσ208 (imp_207 i hi)).trans ((congrFun (jnp 55 eσ202 (of_decide_eq_true rfl)) i).trans ((congrFun (jnp 55 eσ201 (of_decide_eq_true rfl)) i).trans ((congrFun (jnp 55 eσ200 (of_decide_eq_true rfl)) i).trans ((congrFun (jnp 55 eσ199 (of_decide_eq_true rfl)) i).trans ((congrFun (jnp 55 eσ197 (of_decide_eq_true rfl)) i).trans (f178 i hi)))))))), p209, p210, p211, (fun pr mm => ⟨by rw [← k216 pr mm]; exact ⟨by show (σ208 55 37).toInt = if (x164 : Int32).toInt < 0 then -2 else (x164 : Int32).toInt; rw [if_neg (by omega)]; omega, rfl⟩, jrM.store (σ := σ) (σ1 := σ168) (k := r187.toNatClampNeg) (t := (σ 55 42)) (a := r22) (o := x27) (v := x165) (x := x164) ⟨⟨((jnp 56 eσ208 (of_decide_eq_true rfl)).trans ((jnp 56 eσ202 (of_decide_eq_true rfl)).trans ((jnp 56 eσ201 (of_decide_eq_true rfl)).trans ((jnp 56 eσ200 (of_decide_eq_true rfl)).trans ((jnp 56 eσ199 (of_decide_eq_true rfl)).trans ((jnp 56 eσ197 (of_decide_eq_true rfl)).trans (f177 56 (of_decide_eq_true rfl)))))))), ((jnp 60 eσ208 (of_decide_eq_true rfl)).trans ((jnp 60 eσ202 (of_decide_eq_true rfl)).trans ((jnp 60 eσ201 (of_decide_eq_true rfl)).trans ((jnp 60 eσ200 (of_decide_eq_true rfl)).trans ((jnp 60 eσ199 (of_decide_eq_true rfl)).trans ((jnp 60 eσ197 (of_decide_eq_true rfl)).trans (f177 60 (of_decide_eq_true rfl)))))))), ((jnp 61 eσ208 (of_decide_eq_true rfl)).trans ((jnp 61 eσ202 (of_decide_eq_true rfl)).trans ((jnp 61 eσ201 (of_decide_eq_true rfl)).trans ((jnp 61 eσ200 (of_decide_eq_true rfl)).trans ((jnp 61 eσ199 (of_decide_eq_true rfl)).trans ((jnp 61 eσ197 (of_decide_eq_true rfl)).trans (f177 61 (of_decide_eq_true rfl)))))))), ((jnp 62 eσ208 (of_decide_eq_true rfl)).trans ((jnp 62 eσ202 (of_decide_eq_true rfl)).trans ((jnp 62 eσ201 (of_decide_eq_true rfl)).trans ((jnp 62 eσ200 (of_decide_eq_true rfl)).trans ((jnp 62 eσ199 (of_decide_eq_true rfl)).trans ((jnp 62 eσ197 (of_decide_eq_true rfl)).trans (f177 62 (of_decide_eq_true rfl)))))))), ((jnp 64 eσ208 (of_decide_eq_true rfl)).trans ((jnp 64 eσ202 (of_decide_eq_true rfl)).trans ((jnp 64 eσ201 (of_decide_eq_true rfl)).trans ((jnp 64 eσ200 (of_decide_eq_true rfl)).trans ((jnp 64 eσ199 (of_decide_eq_true rfl)).trans ((jnp 64 eσ197 (of_decide_eq_true rfl)).trans (f177 64 (of_decide_eq_true rfl)))))))), ((jnp 65 eσ208 (of_decide_eq_true rfl)).trans ((jnp 65 eσ202 (of_decide_eq_true rfl)).trans ((jnp 65 eσ201 (of_decide_eq_true rfl)).trans ((jnp 65 eσ200 (of_decide_eq_true rfl)).trans ((jnp 65 eσ199 (of_decide_eq_true rfl)).trans ((jnp 65 eσ197 (of_decide_eq_true rfl)).trans (f177 65 (of_decide_eq_true rfl))))))))⟩, ((jkp 6 eσ208 (of_decide_eq_true rfl)).trans ((congrFun (jnp 55 eσ202 (of_decide_eq_true rfl)) 6).trans ((congrFun (jnp 55 eσ201 (of_decide_eq_true rfl)) 6).trans ((congrFun (jnp 55 eσ200 (of_decide_eq_true rfl)) 6).trans ((congrFun (jnp 55 eσ199 (of_decide_eq_true rfl)) 6).trans ((congrFun (jnp 55 eσ197 (of_decide_eq_true rfl)) 6).trans (f178 6 (of_decide_eq_true rfl)))))))), ((jkp 9 eσ208 (of_decide_eq_true rfl)).trans ((congrFun (jnp 55 eσ202 (of_decide_eq_true rfl)) 9).trans ((congrFun (jnp 55 eσ201 (of_decide_eq_true rfl)) 9).trans ((congrFun (jnp 55 eσ200 (of_decide_eq_true rfl)) 9).trans ((congrFun (jnp 55 eσ199 (of_decide_eq_true rfl)) 9).trans ((congrFun (jnp 55 eσ197 (of_decide_eq_true rfl)) 9).trans (f178 9 (of_decide_eq_true rfl)))))))), ((jkp 10 eσ208 (of_decide_eq_true rfl)).trans ((congrFun (jnp 55 eσ202 (of_decide_eq_true rfl)) 10).trans ((congrFun (jnp 55 eσ201 (of_decide_eq_true rfl)) 10).trans ((congrFun (jnp 55 eσ200 (of_decide_eq_true rfl)) 10).trans ((congrFun (jnp 55 eσ199 (of_decide_eq_true rfl)) 10).trans ((congrFun (jnp 55 eσ197 (of_decide_eq_true rfl)) 10).trans (f178 10 (of_decide_eq_true rfl)))))))), ((jkp 12 eσ208 (of_decide_eq_true rfl)).trans ((congrFun (jnp 55 eσ202 (of_decide_eq_true rfl)) 12).trans ((congrFun (jnp 55 eσ201 (of_decide_eq_true rfl)) 12).trans ((congrFun (jnp 55 eσ200 (of_decide_eq_true rfl)) 12).trans ((congrFun (jnp 55 eσ199 (of_decide_eq_true rfl)) 12).trans ((congrFun (jnp 55 eσ197 (of_decide_eq_true rfl)) 12).trans (f178 12 (of_decide_eq_true rfl)))))))), ((jkp 13 eσ208 (of_decide_eq_true rfl)).trans ((congrFun (jnp 55 eσ202 (of_decide_eq_true rfl)) 13).trans ((congrFun (jnp 55 eσ201 (of_decide_eq_true rfl)) 13).trans ((congrFun (jnp 55 eσ200 (of_decide_eq_true rfl)) 13).trans ((congrFun (jnp 55 eσ199 (of_decide_eq_true rfl)) 13).trans ((congrFun (jnp 55 eσ197 (of_decide_eq_true rfl)) 13).trans (f178 13 (of_decide_eq_true rfl)))))))), ((jkp 30 eσ208 (of_decide_eq_true rfl)).trans ((congrFun (jnp 55 eσ202 (of_decide_eq_true rfl)) 30).trans ((congrFun (jnp 55 eσ201 (of_decide_eq_true rfl)) 30).trans ((congrFun (jnp 55 eσ200 (of_decide_eq_true rfl)) 30).trans ((congrFun (jnp 55 eσ199 (of_decide_eq_true rfl)) 30).trans ((congrFun (jnp 55 eσ197 (of_decide_eq_true rfl)) 30).trans (f178 30 (of_decide_eq_true rfl)))))))), ((jkp 31 eσ208 (of_decide_eq_true rfl)).trans ((congrFun (jnp 55 eσ202 (of_decide_eq_true rfl)) 31).trans ((congrFun (jnp 55 eσ201 (of_decide_eq_true rfl)) 31).trans ((congrFun (jnp 55 eσ200 (of_decide_eq_true rfl)) 31).trans ((congrFun (jnp 55 eσ199 (of_decide_eq_true rfl)) 31).trans ((congrFun (jnp 55 eσ197 (of_decide_eq_true rfl)) 31).trans (f178 31 (of_decide_eq_true rfl)))))))), ((jkp 42 eσ208 (of_decide_eq_true rfl)).trans ((congrFun (jnp 55 eσ202 (of_decide_eq_true rfl)) 42).trans ((congrFun (jnp 55 eσ201 (of_decide_eq_true rfl)) 42).trans ((congrFun (jnp 55 eσ200 (of_decide_eq_true rfl)) 42).trans ((congrFun (jnp 55 eσ199 (of_decide_eq_true rfl)) 42).trans ((congrFun (jnp 55 eσ197 (of_decide_eq_true rfl)) 42).trans (f178 42 (of_decide_eq_true rfl))))))))⟩ pr (q181 pr mm).2 ⟨⟨(f177 56 (of_decide_eq_true rfl)), (f177 60 (of_decide_eq_true rfl)), (f177 61 (of_decide_eq_true rfl)), (f177 62 (of_decide_eq_true rfl)), (f177 64 (of_decide_eq_true rfl)), (f177 65 (of_decide_eq_true rfl))⟩, (f178 6 (of_decide_eq_true rfl)), (f178 9 (of_decide_eq_true rfl)), (f178 10 (of_decide_eq_true rfl)), (f178 12 (of_decide_eq_true rfl)), (f178 13 (of_decide_eq_true rfl)), (f178 30 (of_decide_eq_true rfl)), (f178 31 (of_decide_eq_true rfl)), (f178 42 (of_decide_eq_true rfl))⟩ (by rw [eσ208, jup_n (of_decide_eq_true rfl), eσ202, jup_n (of_decide_eq_true rfl), eσ201, jup_n (of_decide_eq_true rfl), eσ200, jup_n (of_decide_eq_true rfl), eσ199, jup_n (of_decide_eq_true rfl), eσ197, jup_row]) (by rw [eσ208, jup_n (of_decide_eq_true rfl), eσ202, jup_n (of_decide_eq_true rfl), eσ201, jup_n (of_decide_eq_true rfl), eσ200, jup_n (of_decide_eq_true rfl), eσ199, jup_row, eσ197, jup_n (of_decide_eq_true rfl)]) (by rw [eσ208, jup_n (of_decide_eq_true rfl), eσ202, jup_n (of_decide_eq_true rfl), eσ201, jup_n (of_decide_eq_true rfl), eσ200, jup_row, eσ199, jup_n (of_decide_eq_true rfl), eσ197, jup_n (of_decide_eq_true rfl)]) (by rw [eσ208, jup_n (of_decide_eq_true rfl), eσ202, jup_n (of_decide_eq_true rfl), eσ201, jup_row, eσ200, jup_n (of_decide_eq_true rfl), eσ199, jup_n (of_decide_eq_true rfl), eσ197, jup_n (of_decide_eq_true rfl)]) (by rw [eσ208, jup_n (of_decide_eq_true rfl), eσ202, jup_row, eσ201, jup_n (of_decide_eq_true rfl), eσ200, jup_n (of_decide_eq_true rfl), eσ199, jup_n (of_decide_eq_true rfl), eσ197, jup_n (of_decide_eq_true rfl)]) (w23 pr.w0) (by have h9 := tx27; omega) (k216 pr mm) (by omega) (by omega) (by omega)⟩), (by omega), ⟨trivial, (by omega)⟩⟩ hP hS dX12_bestFrom_194
               · obtain ⟨q218, k217⟩ := h189
                 have q218 := q218.symm
                 subst q218
                 refine lv_istore_n (lv' := [(3, .int (-1)), (6, .int x166), (5, .int x165), (4, .int x164), (2, .int x27), (1, .int r22), (0, .ref (ad 55))]) hx hb dX12_bestFrom_141 rfl hl (of_decide_eq_true rfl) rfl (fun ls hl => ?_)
                 refine lv_iload_n hx hb dX12_bestFrom_142 rfl (lv_at hl 0 rfl) ?_
                 refine lv_if_lt (tgt := 186) hx hb dX12_bestFrom_143 (of_decide_eq_true rfl) (fun _ => ?_) (fun c => absurd (of_decide_eq_true rfl) c)
                 refine lv_aload_n hx hb dX12_bestFrom_186 rfl (lv_at hl 6 rfl) ?_
                 refine lv_iload hx hb dX12_bestFrom_187 (lv_at hl 3 rfl) ?_
                 refine jput (ty := .int) hx hb hts inlX12 tyX12 tyX12_ok nmX12 hown hK hP hJ hA hS (jc_55 cI cL ad σ168 τ) rfl (k := 37) (of_decide_eq_true rfl) (Nat.le_of_ble_eq_true rfl) (jp_55_37 cI cL ad σ168 τ x164) (hts _ kw_33_15) (fun _ h9 => h9) rfl (by decide +kernel) rfl rfl dX12_bestFrom_189 (fun σ219 H locs eσ219 hP hS => ?_)
                 refine lv_iload hx hb dX12_bestFrom_192 (lv_at hl 2 rfl) ?_
                 have p220 : jKept σ219 := jKept.fr (jnp 75 eσ219 (of_decide_eq_true rfl)) (jnp 76 eσ219 (of_decide_eq_true rfl)) (jnp 77 eσ219 (of_decide_eq_true rfl)) p179
                 have p221 : jTR σ219 := jTR.fr ((jnp 64 eσ219 (of_decide_eq_true rfl)).trans (f177 64 (of_decide_eq_true rfl))) ((jnp 65 eσ219 (of_decide_eq_true rfl)).trans (f177 65 (of_decide_eq_true rfl))) hs_jTR
                 have p222 : jqSt σ219 := jqSt.fr (jnp 78 eσ219 (of_decide_eq_true rfl)) (jkp 42 eσ219 (of_decide_eq_true rfl)) p180
                 have z223 : (σ219 55 37).toInt = x164.toInt := (congrArg Int32.toInt (show σ219 55 37 = x164 from (jsp eσ219)))
                 have z224 : (σ219 55 25).toInt = (σ 55 25).toInt := (congrArg Int32.toInt (show σ219 55 25 = (σ 55 25) from ((jkp 25 eσ219 (of_decide_eq_true rfl)).trans (f178 25 (of_decide_eq_true rfl)))))
                 have z225 : (σ219 55 26).toInt = (σ 55 26).toInt := (congrArg Int32.toInt (show σ219 55 26 = (σ 55 26) from ((jkp 26 eσ219 (of_decide_eq_true rfl)).trans (f178 26 (of_decide_eq_true rfl)))))
                 have z226 : (σ219 55 27).toInt = (σ 55 27).toInt := (congrArg Int32.toInt (show σ219 55 27 = (σ 55 27) from ((jkp 27 eσ219 (of_decide_eq_true rfl)).trans (f178 27 (of_decide_eq_true rfl)))))
                 exact by
                  have k227 : jrP σ → jrM σ → ((x164 : Int32).toInt, (x165 : Int32).toInt) = jrV σ := fun pr mm => (q181 pr mm).1.fin (by omega) (by omega) (by omega) (by omega) (by omega) (by omega)
                  exact by exact hret x165 σ219 τ _ _ _ _ rfl ⟨rfl, (fun i hi => ((jnp i eσ219 (imp_206 i hi)).trans (f177 i hi))), (fun i hi => ((jkp i eσ219 (imp_207 i hi)).trans (f178 i hi))), p220, p221, p222, (fun pr mm => ⟨by rw [← k227 pr mm]; exact ⟨by show (σ219 55 37).toInt = if (x164 : Int32).toInt < 0 then -2 else (x164 : Int32).toInt; rw [if_neg (by omega)]; omega, rfl⟩, (jrEq.m (σ := σ168) (σ' := σ219) ⟨⟨(jnp 56 eσ219 (of_decide_eq_true rfl)), (jnp 60 eσ219 (of_decide_eq_true rfl)), (jnp 61 eσ219 (of_decide_eq_true rfl)), (jnp 62 eσ219 (of_decide_eq_true rfl)), (jnp 64 eσ219 (of_decide_eq_true rfl)), (jnp 65 eσ219 (of_decide_eq_true rfl))⟩, (jkp 6 eσ219 (of_decide_eq_true rfl)), (jkp 9 eσ219 (of_decide_eq_true rfl)), (jkp 10 eσ219 (of_decide_eq_true rfl)), (jkp 12 eσ219 (of_decide_eq_true rfl)), (jkp 13 eσ219 (of_decide_eq_true rfl)), (jkp 30 eσ219 (of_decide_eq_true rfl)), (jkp 31 eσ219 (of_decide_eq_true rfl)), (jkp 42 eσ219 (of_decide_eq_true rfl))⟩ (jnp 78 eσ219 (of_decide_eq_true rfl)) (jnp 74 eσ219 (of_decide_eq_true rfl)) (jnp 75 eσ219 (of_decide_eq_true rfl)) (jnp 76 eσ219 (of_decide_eq_true rfl)) (jnp 77 eσ219 (of_decide_eq_true rfl)) (q181 pr mm).2)⟩), (by omega), ⟨trivial, (by omega)⟩⟩ hP hS dX12_bestFrom_194
             · have kc185 := jnle c185 rfl rfl
               refine lv_aload_n hx hb dX12_bestFrom_94 rfl (lv_at hl 6 rfl) ?_
               refine lv_iload hx hb dX12_bestFrom_95 (lv_at hl 0 rfl) ?_
               refine jcallV (As := [.int x166]) (rest := []) ⟨hx, hb, hml, hown, hts⟩ hK hP hA hS hZ (c_X12_mayBowl l D cI cL ad zz hJ σ168 τ x166 (x166.toInt) rfl (by omega)) cw_RX12_249 (jc_55 cI cL ad σ168 τ) rfl ⟨by dsimp only; omega, by dsimp only; omega⟩ rfl rfl rfl hl.1 rfl (Nat.le_of_ble_eq_true rfl) dX12_bestFrom_97 ⟨Nat.zero_le _, Nat.zero_le _⟩ (fun r229 σ228 τ228 H locs h228 hP hS => ?_)
               obtain ⟨⟨rfl, rfl⟩, h228⟩ := h228
               rcases h228 with h230 | h231
               · obtain ⟨q233, k232⟩ := h230
                 exact by
                  have q233 := q233.symm
                  subst q233
                  refine lv_if_ne (tgt := 106) hx hb dX12_bestFrom_100 (of_decide_eq_true rfl) (fun _ => ?_) (fun c => absurd c (of_decide_eq_true rfl))
                  refine lv_aload_n hx hb dX12_bestFrom_106 rfl (lv_at hl 6 rfl) ?_
                  refine lv_iload hx hb dX12_bestFrom_107 (lv_at hl 0 rfl) ?_
                  have I234 : jI101 σ168 := jI101_fr (f178 4 (of_decide_eq_true rfl)) (f178 5 (of_decide_eq_true rfl)) (f177 56 (of_decide_eq_true rfl)) (f177 57 (of_decide_eq_true rfl)) (f177 58 (of_decide_eq_true rfl)) (f177 59 (of_decide_eq_true rfl)) hI101
                  have I235 : jI102 σ168 := jI102_fr (f178 6 (of_decide_eq_true rfl)) (f177 60 (of_decide_eq_true rfl)) (f177 61 (of_decide_eq_true rfl)) hI102
                  have I236 : jI103 σ168 := jI103_fr (f178 9 (of_decide_eq_true rfl)) hI103
                  have I237 : jI104 σ168 := jI104_fr (f178 10 (of_decide_eq_true rfl)) (f178 12 (of_decide_eq_true rfl)) (f178 13 (of_decide_eq_true rfl)) (f177 62 (of_decide_eq_true rfl)) (f177 67 (of_decide_eq_true rfl)) hI104
                  have I238 : jI105 σ168 := jI105_fr (f178 15 (of_decide_eq_true rfl)) (f177 65 (of_decide_eq_true rfl)) hI105
                  have I239 : jI106 σ168 := jI106_fr (f178 32 (of_decide_eq_true rfl)) (f177 70 (of_decide_eq_true rfl)) (f177 71 (of_decide_eq_true rfl)) (f177 72 (of_decide_eq_true rfl)) hI106
                  have I240 : jI120 σ168 := jI120_fr (f178 10 (of_decide_eq_true rfl)) (f178 12 (of_decide_eq_true rfl)) (f178 25 (of_decide_eq_true rfl)) (f178 26 (of_decide_eq_true rfl)) (f178 27 (of_decide_eq_true rfl)) (f177 68 (of_decide_eq_true rfl)) hI120
                  have p241 : jTR σ168 := jTR.fr (f177 64 (of_decide_eq_true rfl)) (f177 65 (of_decide_eq_true rfl)) hs_jTR
                  have z242 : (σ168 55 25).toInt = (σ 55 25).toInt := (congrArg Int32.toInt (show σ168 55 25 = (σ 55 25) from (f178 25 (of_decide_eq_true rfl))))
                  have z243 : (σ168 55 10).toInt = (σ 55 10).toInt := (congrArg Int32.toInt (show σ168 55 10 = (σ 55 10) from (f178 10 (of_decide_eq_true rfl))))
                  have z244 : (σ168 55 12).toInt = (σ 55 12).toInt := (congrArg Int32.toInt (show σ168 55 12 = (σ 55 12) from (f178 12 (of_decide_eq_true rfl))))
                  exact by
                   refine jcallV (As := [.int x166]) (rest := []) ⟨hx, hb, hml, hown, hts⟩ hK hP hA hS hZ (h_mean σ168 τ x166 (x166.toInt) rfl I234 I235 I236 I237 I238 I239 I240 p179 p241 p180 (by omega) (by omega) (by omega) (by omega)) cw_RX12_318 (jc_55 cI cL ad σ168 τ) rfl ⟨by dsimp only; omega, by dsimp only; omega⟩ rfl rfl rfl hl.1 rfl (Nat.le_of_ble_eq_true rfl) dX12_bestFrom_109 ⟨Nat.zero_le _, Nat.zero_le _⟩ (fun r246 σ245 τ245 H locs h245 hP hS => ?_)
                   obtain ⟨rfl, f247, f248, p249, p250, p251, w252, h245⟩ := h245
                   have h254 := h245
                   obtain ⟨q256, k255⟩ := h254
                   refine lv_istore (lv' := [(7, .int r246), (6, .int x166), (5, .int x165), (4, .int x164), (3, .int (-1)), (2, .int x27), (1, .int r22), (0, .ref (ad 55))]) hx hb dX12_bestFrom_112 hl (of_decide_eq_true rfl) rfl (fun ls hl => ?_)
                   refine lv_iload hx hb dX12_bestFrom_114 (lv_at hl 0 rfl) ?_
                   refine lv_iload hx hb dX12_bestFrom_116 (lv_at hl 2 rfl) ?_
                   refine lv_icmp_ge (tgt := 129) hx hb dX12_bestFrom_118 (of_decide_eq_true rfl) (fun c257 => ?_) (fun c257 => ?_)
                   · have kc257 := jle c257 rfl rfl
                     obtain ⟨x258, ex258⟩ : ∃ y : Int32, y = x166 + 1 := ⟨_, rfl⟩
                     exact by
                      have tx258 : x258.toInt = x166.toInt + 1 := (jadd ex258 rfl jz_1 (by omega) (by omega)).trans (by omega)
                      refine lv_iinc (v := x258) (lv' := [(6, .int x258), (7, .int r246), (5, .int x165), (4, .int x164), (3, .int (-1)), (2, .int x27), (1, .int r22), (0, .ref (ad 55))]) hx hb dX12_bestFrom_129 hl (k := 1) rfl (by rw [ex258]; rfl) (of_decide_eq_true rfl) rfl (fun ls hl => ?_)
                      refine lv_goto (tgt := 85) hx hb dX12_bestFrom_132 (of_decide_eq_true rfl) ?_
                      have z259 : (σ245 55 26).toInt = (σ 55 26).toInt := (congrArg Int32.toInt (show σ245 55 26 = (σ 55 26) from ((f248 26 (of_decide_eq_true rfl)).trans (f178 26 (of_decide_eq_true rfl)))))
                      have z260 : (σ245 55 6).toInt = (σ 55 6).toInt := (congrArg Int32.toInt (show σ245 55 6 = (σ 55 6) from ((f248 6 (of_decide_eq_true rfl)).trans m184)))
                      have z261 : (σ168 55 27).toInt = (σ 55 27).toInt := (congrArg Int32.toInt (show σ168 55 27 = (σ 55 27) from (f178 27 (of_decide_eq_true rfl))))
                      exact by exact ihlp162 x164 x165 x258 σ245 _ _ ls (by have h92 := tx258; omega) (by have h92 := tx258; omega) (by have h92 := tx258; omega) (by have h92 := tx258; omega) (by have h92 := tx258; omega) (by have h92 := tx258; omega) (by have h92 := tx258; omega) (fun i hi => ((f247 i hi).trans (f177 i hi))) (fun i hi => ((f248 i hi).trans (f178 i hi)))  p249 p251 (fun pr mm => by have prh : jrP σ168 := ((jrEq.v (σ := σ) (σ' := σ168) ⟨⟨(f177 56 (of_decide_eq_true rfl)), (f177 60 (of_decide_eq_true rfl)), (f177 61 (of_decide_eq_true rfl)), (f177 62 (of_decide_eq_true rfl)), (f177 64 (of_decide_eq_true rfl)), (f177 65 (of_decide_eq_true rfl))⟩, (f178 6 (of_decide_eq_true rfl)), (f178 9 (of_decide_eq_true rfl)), (f178 10 (of_decide_eq_true rfl)), (f178 12 (of_decide_eq_true rfl)), (f178 13 (of_decide_eq_true rfl)), (f178 30 (of_decide_eq_true rfl)), (f178 31 (of_decide_eq_true rfl)), (f178 42 (of_decide_eq_true rfl))⟩ (f177 68 (of_decide_eq_true rfl)) (f177 69 (of_decide_eq_true rfl)) (f178 25 (of_decide_eq_true rfl)) (f178 26 (of_decide_eq_true rfl)) (f178 27 (of_decide_eq_true rfl))).2 pr); have q := q181 pr mm; have r := w252 prh q.2 k232 (by omega); have my := (prh.my (by omega) (by omega) (by omega)).mp k232; rw [show σ168 55 27 = σ 55 27 from (f178 27 (of_decide_eq_true rfl)), (show jrLf σ168 = jrLf σ from by unfold jrLf; rw [(show jrEq σ σ168 from ⟨⟨(f177 56 (of_decide_eq_true rfl)), (f177 60 (of_decide_eq_true rfl)), (f177 61 (of_decide_eq_true rfl)), (f177 62 (of_decide_eq_true rfl)), (f177 64 (of_decide_eq_true rfl)), (f177 65 (of_decide_eq_true rfl))⟩, (f178 6 (of_decide_eq_true rfl)), (f178 9 (of_decide_eq_true rfl)), (f178 10 (of_decide_eq_true rfl)), (f178 12 (of_decide_eq_true rfl)), (f178 13 (of_decide_eq_true rfl)), (f178 30 (of_decide_eq_true rfl)), (f178 31 (of_decide_eq_true rfl)), (f178 42 (of_decide_eq_true rfl))⟩).ov, show σ168 55 6 = σ 55 6 from (f178 6 (of_decide_eq_true rfl)), show jrW σ168 = jrW σ from by funext c; unfold jrW; rw [show σ168 69 = σ 69 from (f177 69 (of_decide_eq_true rfl))]])] at my; have ge : (r246 : Int32).toInt = jrG σ (x166 : Int32).toInt.toNat := (by rw [r.1, (show jrEq σ σ168 from ⟨⟨(f177 56 (of_decide_eq_true rfl)), (f177 60 (of_decide_eq_true rfl)), (f177 61 (of_decide_eq_true rfl)), (f177 62 (of_decide_eq_true rfl)), (f177 64 (of_decide_eq_true rfl)), (f177 65 (of_decide_eq_true rfl))⟩, (f178 6 (of_decide_eq_true rfl)), (f178 9 (of_decide_eq_true rfl)), (f178 10 (of_decide_eq_true rfl)), (f178 12 (of_decide_eq_true rfl)), (f178 13 (of_decide_eq_true rfl)), (f178 30 (of_decide_eq_true rfl)), (f178 31 (of_decide_eq_true rfl)), (f178 42 (of_decide_eq_true rfl))⟩).g (f177 68 (of_decide_eq_true rfl)) (f177 69 (of_decide_eq_true rfl)) (f178 25 (of_decide_eq_true rfl)) (f178 26 (of_decide_eq_true rfl))]); exact ⟨q.1.keep (by omega) ge (by omega) (by omega) (by have h9 := tx258; omega), r.2⟩) hP hS (lv_sub hl [0, 2, 3, 4, 5, 6, 7] rfl)
                   · have kc257 := jnle c257 rfl rfl
                     refine lv_iload hx hb dX12_bestFrom_121 (lv_at hl 0 rfl) ?_
                     exact by
                      refine lv_istore (lv' := [(5, .int r246), (7, .int r246), (6, .int x166), (4, .int x164), (3, .int (-1)), (2, .int x27), (1, .int r22), (0, .ref (ad 55))]) hx hb dX12_bestFrom_123 hl (of_decide_eq_true rfl) rfl (fun ls hl => ?_)
                      refine lv_iload hx hb dX12_bestFrom_125 (lv_at hl 2 rfl) ?_
                      refine lv_istore (lv' := [(4, .int x166), (5, .int r246), (7, .int r246), (6, .int x166), (3, .int (-1)), (2, .int x27), (1, .int r22), (0, .ref (ad 55))]) hx hb dX12_bestFrom_127 hl (of_decide_eq_true rfl) rfl (fun ls hl => ?_)
                      obtain ⟨x262, ex262⟩ : ∃ y : Int32, y = x166 + 1 := ⟨_, rfl⟩
                      have tx262 : x262.toInt = x166.toInt + 1 := (jadd ex262 rfl jz_1 (by omega) (by omega)).trans (by omega)
                      refine lv_iinc (v := x262) (lv' := [(6, .int x262), (4, .int x166), (5, .int r246), (7, .int r246), (3, .int (-1)), (2, .int x27), (1, .int r22), (0, .ref (ad 55))]) hx hb dX12_bestFrom_129 hl (k := 3) rfl (by rw [ex262]; rfl) (of_decide_eq_true rfl) rfl (fun ls hl => ?_)
                      refine lv_goto (tgt := 85) hx hb dX12_bestFrom_132 (of_decide_eq_true rfl) ?_
                      have z263 : (σ245 55 26).toInt = (σ 55 26).toInt := (congrArg Int32.toInt (show σ245 55 26 = (σ 55 26) from ((f248 26 (of_decide_eq_true rfl)).trans (f178 26 (of_decide_eq_true rfl)))))
                      have z264 : (σ245 55 6).toInt = (σ 55 6).toInt := (congrArg Int32.toInt (show σ245 55 6 = (σ 55 6) from ((f248 6 (of_decide_eq_true rfl)).trans m184)))
                      exact by
                       have z265 : (σ168 55 27).toInt = (σ 55 27).toInt := (congrArg Int32.toInt (show σ168 55 27 = (σ 55 27) from (f178 27 (of_decide_eq_true rfl))))
                       exact by exact ihlp162 x166 r246 x262 σ245 _ _ ls (by have h92 := tx262; omega) (by have h92 := tx262; omega) (by have h92 := tx262; omega) (by have h92 := tx262; omega) (by have h92 := tx262; omega) (by have h92 := tx262; omega) (by have h92 := tx262; omega) (fun i hi => ((f247 i hi).trans (f177 i hi))) (fun i hi => ((f248 i hi).trans (f178 i hi)))  p249 p251 (fun pr mm => by have prh : jrP σ168 := ((jrEq.v (σ := σ) (σ' := σ168) ⟨⟨(f177 56 (of_decide_eq_true rfl)), (f177 60 (of_decide_eq_true rfl)), (f177 61 (of_decide_eq_true rfl)), (f177 62 (of_decide_eq_true rfl)), (f177 64 (of_decide_eq_true rfl)), (f177 65 (of_decide_eq_true rfl))⟩, (f178 6 (of_decide_eq_true rfl)), (f178 9 (of_decide_eq_true rfl)), (f178 10 (of_decide_eq_true rfl)), (f178 12 (of_decide_eq_true rfl)), (f178 13 (of_decide_eq_true rfl)), (f178 30 (of_decide_eq_true rfl)), (f178 31 (of_decide_eq_true rfl)), (f178 42 (of_decide_eq_true rfl))⟩ (f177 68 (of_decide_eq_true rfl)) (f177 69 (of_decide_eq_true rfl)) (f178 25 (of_decide_eq_true rfl)) (f178 26 (of_decide_eq_true rfl)) (f178 27 (of_decide_eq_true rfl))).2 pr); have q := q181 pr mm; have r := w252 prh q.2 k232 (by omega); have my := (prh.my (by omega) (by omega) (by omega)).mp k232; rw [show σ168 55 27 = σ 55 27 from (f178 27 (of_decide_eq_true rfl)), (show jrLf σ168 = jrLf σ from by unfold jrLf; rw [(show jrEq σ σ168 from ⟨⟨(f177 56 (of_decide_eq_true rfl)), (f177 60 (of_decide_eq_true rfl)), (f177 61 (of_decide_eq_true rfl)), (f177 62 (of_decide_eq_true rfl)), (f177 64 (of_decide_eq_true rfl)), (f177 65 (of_decide_eq_true rfl))⟩, (f178 6 (of_decide_eq_true rfl)), (f178 9 (of_decide_eq_true rfl)), (f178 10 (of_decide_eq_true rfl)), (f178 12 (of_decide_eq_true rfl)), (f178 13 (of_decide_eq_true rfl)), (f178 30 (of_decide_eq_true rfl)), (f178 31 (of_decide_eq_true rfl)), (f178 42 (of_decide_eq_true rfl))⟩).ov, show σ168 55 6 = σ 55 6 from (f178 6 (of_decide_eq_true rfl)), show jrW σ168 = jrW σ from by funext c; unfold jrW; rw [show σ168 69 = σ 69 from (f177 69 (of_decide_eq_true rfl))]])] at my; have ge : (r246 : Int32).toInt = jrG σ (x166 : Int32).toInt.toNat := (by rw [r.1, (show jrEq σ σ168 from ⟨⟨(f177 56 (of_decide_eq_true rfl)), (f177 60 (of_decide_eq_true rfl)), (f177 61 (of_decide_eq_true rfl)), (f177 62 (of_decide_eq_true rfl)), (f177 64 (of_decide_eq_true rfl)), (f177 65 (of_decide_eq_true rfl))⟩, (f178 6 (of_decide_eq_true rfl)), (f178 9 (of_decide_eq_true rfl)), (f178 10 (of_decide_eq_true rfl)), (f178 12 (of_decide_eq_true rfl)), (f178 13 (of_decide_eq_true rfl)), (f178 30 (of_decide_eq_true rfl)), (f178 31 (of_decide_eq_true rfl)), (f178 42 (of_decide_eq_true rfl))⟩).g (f177 68 (of_decide_eq_true rfl)) (f177 69 (of_decide_eq_true rfl)) (f178 25 (of_decide_eq_true rfl)) (f178 26 (of_decide_eq_true rfl))]); exact ⟨q.1.take (by omega) my ge (by omega) (by omega) (by omega) (by have h9 := tx262; omega), r.2⟩) hP hS (lv_sub hl [0, 2, 1, 4, 5, 6, 7] rfl)
               · obtain ⟨q267, k266⟩ := h231
                 have q267 := q267.symm
                 subst q267
                 have e268 : jmb σ168 x166 = jmb σ x166 := (jmb_fr (f178 27 (of_decide_eq_true rfl)) (f178 30 (of_decide_eq_true rfl)) (f178 31 (of_decide_eq_true rfl)) (f177 56 (of_decide_eq_true rfl)) (f177 69 (of_decide_eq_true rfl)) x166)
                 have n269 : ¬ x166 = B0 := fun h => absurd ((hB0).symm.trans (by rw [← h]; exact e268.symm.trans k266) : (1 : Int32) = 0) (of_decide_eq_true rfl)
                 have k270 := jne n269 rfl rfl
                 refine lv_if_ne (tgt := 106) hx hb dX12_bestFrom_100 (of_decide_eq_true rfl) (fun c => absurd (of_decide_eq_true rfl) c) (fun _ => ?_)
                 exact by
                  refine lv_goto (tgt := 129) hx hb dX12_bestFrom_103 (of_decide_eq_true rfl) ?_
                  obtain ⟨x271, ex271⟩ : ∃ y : Int32, y = x166 + 1 := ⟨_, rfl⟩
                  have tx271 : x271.toInt = x166.toInt + 1 := (jadd ex271 rfl jz_1 (by omega) (by omega)).trans (by omega)
                  refine lv_iinc (v := x271) (lv' := [(6, .int x271), (5, .int x165), (4, .int x164), (3, .int (-1)), (2, .int x27), (1, .int r22), (0, .ref (ad 55))]) hx hb dX12_bestFrom_129 hl (k := 0) rfl (by rw [ex271]; rfl) (of_decide_eq_true rfl) rfl (fun ls hl => ?_)
                  refine lv_goto (tgt := 85) hx hb dX12_bestFrom_132 (of_decide_eq_true rfl) ?_
                  have z272 : (σ168 55 25).toInt = (σ 55 25).toInt := (congrArg Int32.toInt (show σ168 55 25 = (σ 55 25) from (f178 25 (of_decide_eq_true rfl))))
                  have z273 : (σ168 55 27).toInt = (σ 55 27).toInt := (congrArg Int32.toInt (show σ168 55 27 = (σ 55 27) from (f178 27 (of_decide_eq_true rfl))))
                  exact by exact ihlp162 x164 x165 x271 σ168 _ _ ls (by have h92 := tx271; omega) (by have h92 := tx271; omega) (by have h92 := tx271; omega) (by have h92 := tx271; omega) (by have h92 := tx271; omega) (by have h92 := tx271; omega) (by have h92 := tx271; omega) (fun i hi => (f177 i hi)) (fun i hi => (f178 i hi))  p179 p180 (fun pr mm => by have prh : jrP σ168 := ((jrEq.v (σ := σ) (σ' := σ168) ⟨⟨(f177 56 (of_decide_eq_true rfl)), (f177 60 (of_decide_eq_true rfl)), (f177 61 (of_decide_eq_true rfl)), (f177 62 (of_decide_eq_true rfl)), (f177 64 (of_decide_eq_true rfl)), (f177 65 (of_decide_eq_true rfl))⟩, (f178 6 (of_decide_eq_true rfl)), (f178 9 (of_decide_eq_true rfl)), (f178 10 (of_decide_eq_true rfl)), (f178 12 (of_decide_eq_true rfl)), (f178 13 (of_decide_eq_true rfl)), (f178 30 (of_decide_eq_true rfl)), (f178 31 (of_decide_eq_true rfl)), (f178 42 (of_decide_eq_true rfl))⟩ (f177 68 (of_decide_eq_true rfl)) (f177 69 (of_decide_eq_true rfl)) (f178 25 (of_decide_eq_true rfl)) (f178 26 (of_decide_eq_true rfl)) (f178 27 (of_decide_eq_true rfl))).2 pr); have q := q181 pr mm; have my : ¬ jMy4 (σ168 55 27).toInt (jrLf σ168) (x166 : Int32).toInt.toNat = true := fun z => absurd ((prh.my (by omega) (by omega) (by omega)).mpr z) (by rw [k266]; decide); rw [show σ168 55 27 = σ 55 27 from (f178 27 (of_decide_eq_true rfl)), (show jrLf σ168 = jrLf σ from by unfold jrLf; rw [(show jrEq σ σ168 from ⟨⟨(f177 56 (of_decide_eq_true rfl)), (f177 60 (of_decide_eq_true rfl)), (f177 61 (of_decide_eq_true rfl)), (f177 62 (of_decide_eq_true rfl)), (f177 64 (of_decide_eq_true rfl)), (f177 65 (of_decide_eq_true rfl))⟩, (f178 6 (of_decide_eq_true rfl)), (f178 9 (of_decide_eq_true rfl)), (f178 10 (of_decide_eq_true rfl)), (f178 12 (of_decide_eq_true rfl)), (f178 13 (of_decide_eq_true rfl)), (f178 30 (of_decide_eq_true rfl)), (f178 31 (of_decide_eq_true rfl)), (f178 42 (of_decide_eq_true rfl))⟩).ov, show σ168 55 6 = σ 55 6 from (f178 6 (of_decide_eq_true rfl)), show jrW σ168 = jrW σ from by funext c; unfold jrW; rw [show σ168 69 = σ 69 from (f177 69 (of_decide_eq_true rfl))]])] at my; exact ⟨q.1.skip (by omega) my (by have h9 := tx271; omega), q.2⟩) hP hS (lv_sub hl [0, 1, 2, 3, 4, 5, 6] rfl)
        exact by exact lp162 1000000 (-1) 2000000000 0 σ _ _ ls (by have h90 := jz_m1; have h91 := jz_2000000000; have h92 := jz_0; omega) (by have h90 := jz_m1; have h91 := jz_2000000000; have h92 := jz_0; omega) (by have h90 := jz_m1; have h91 := jz_2000000000; have h92 := jz_0; omega) (by have h90 := jz_m1; have h91 := jz_2000000000; have h92 := jz_0; omega) (by have h90 := jz_m1; have h91 := jz_2000000000; have h92 := jz_0; omega) (by have h90 := jz_m1; have h91 := jz_2000000000; have h92 := jz_0; omega) (by have h90 := jz_m1; have h91 := jz_2000000000; have h92 := jz_0; omega) (fun _ _ => rfl) (fun _ _ => rfl)  hs_jKept hs_jqSt (fun pr mm => ⟨jrB.first (by have h9 := jz_0; omega) (by have h9 := jz_m1; omega) (by have h9 := jz_2000000000; omega), mm⟩) hP hS hl
set_option maxHeartbeats 4000000 in
set_option maxRecDepth 100000 in
theorem c_X12_bests (l : Launch) (D : va_G) (cI cL : ClassId) (ad zz : Nat → Nat) (hJ : jD ad) (n : Nat) : (∀ (σ : Nat → Nat → Int32) (τ : Nat → Nat → Int64) (a1 : Int32) (A1 : Int) (t1 : a1.toInt = A1) (hI101 : jI101 σ) (hI102 : jI102 σ) (hI103 : jI103 σ) (hI104 : jI104 σ) (hI105 : jI105 σ) (hI106 : jI106 σ) (hI120 : jI120 σ) (hs_jKept : jKept σ) (hs_jTR : jTR σ) (hs_jqSt : jqSt σ) (hp0 : 0 ≤ A1 ∧ A1 ≤ 3) (hp1 : (σ 55 25).toInt < (σ 55 10).toInt) (hp2 : (σ 55 26).toInt < (σ 55 12).toInt) (hp3 : (σ 55 12).toInt - (σ 55 26).toInt ≤ (((n) : Nat) : Int)), jM l yX12_meanWith cX12_meanWith 8 (some .int) ({ frames := (69 + 4 * (n)), cells := 0, slots := 0, locals := (3034 + 240 * (n)) }) D cI cL ad zz [.ref (ad 55), .int a1] σ τ (fun r σ' τ' => τ = τ' ∧ (∀ i : Nat, (i < 55 ∨ 55 < i) ∧ (i < 66 ∨ 66 < i) ∧ (i < 74 ∨ 78 < i) → σ' i = σ i) ∧ (∀ k : Nat, (k < 18 ∨ 18 < k) ∧ (k < 19 ∨ 19 < k) ∧ (k < 20 ∨ 20 < k) ∧ (k < 21 ∨ 21 < k) ∧ (k < 22 ∨ 22 < k) ∧ (k < 37 ∨ 37 < k) → σ' 55 k = σ 55 k) ∧ (jKept σ') ∧ (jTR σ') ∧ (jqSt σ') ∧ ((jrP σ → jrM σ → jmb σ a1 = 1 → A1 < (σ 55 6).toInt → r.toInt = jrG σ (A1).toNat ∧ jrM σ')) ∧ ((True ∧ (0 ≤ r.toInt ∧ r.toInt ≤ -(1023000 * (σ 55 26).toInt) + 12276000))))) ∧ (∀ (σ : Nat → Nat → Int32) (τ : Nat → Nat → Int64) (hI101 : jI101 σ) (hI102 : jI102 σ) (hI103 : jI103 σ) (hI104 : jI104 σ) (hI105 : jI105 σ) (hI106 : jI106 σ) (hI120 : jI120 σ) (hs_jKept : jKept σ) (hs_jTR : jTR σ) (hs_jqSt : jqSt σ) (hp0 : (σ 55 12).toInt - (σ 55 26).toInt ≤ (((n) : Nat) : Int)), jM l yX12_bestFrom cX12_bestFrom 8 (some .int) ({ frames := (70 + 4 * (n)), cells := 0, slots := 0, locals := (3114 + 240 * (n)) }) D cI cL ad zz [.ref (ad 55)] σ τ (fun r σ' τ' => τ = τ' ∧ (∀ i : Nat, (i < 55 ∨ 55 < i) ∧ (i < 66 ∨ 66 < i) ∧ (i < 74 ∨ 78 < i) → σ' i = σ i) ∧ (∀ k : Nat, (k < 18 ∨ 18 < k) ∧ (k < 19 ∨ 19 < k) ∧ (k < 20 ∨ 20 < k) ∧ (k < 21 ∨ 21 < k) ∧ (k < 22 ∨ 22 < k) ∧ (k < 37 ∨ 37 < k) → σ' 55 k = σ 55 k) ∧ (jKept σ') ∧ (jTR σ') ∧ (jqSt σ') ∧ ((jrP σ → jrM σ → ((σ' 55 37).toInt = (if (jrV σ).1 < 0 then -2 else (jrV σ).1) ∧ r.toInt = (jrV σ).2) ∧ jrM σ')) ∧ ((-2) ≤ (σ' 55 37).toInt ∧ (σ' 55 37).toInt ≤ 3) ∧ ((True ∧ (0 ≤ r.toInt ∧ r.toInt ≤ -(1023000 * (σ 55 26).toInt) + 12276000))))) ∧ (∀ (σ : Nat → Nat → Int32) (τ : Nat → Nat → Int64) (B0 : Int32) (hB0 : jmb σ B0 = 1) (hI101 : jI101 σ) (hI102 : jI102 σ) (hI103 : jI103 σ) (hI104 : jI104 σ) (hI105 : jI105 σ) (hI106 : jI106 σ) (hI120 : jI120 σ) (hs_jKept : jKept σ) (hs_jTR : jTR σ) (hs_jqSt : jqSt σ) (hp0 : 0 ≤ B0.toInt ∧ B0.toInt < (σ 55 6).toInt) (hp1 : (σ 55 25).toInt < (σ 55 10).toInt) (hp2 : (σ 55 26).toInt < (σ 55 12).toInt) (hp3 : (σ 55 12).toInt - (σ 55 26).toInt ≤ (((n) : Nat) : Int)), jM l yX12_bestFrom cX12_bestFrom 8 (some .int) ({ frames := (70 + 4 * (n)), cells := 0, slots := 0, locals := (3114 + 240 * (n)) }) D cI cL ad zz [.ref (ad 55)] σ τ (fun r σ' τ' => τ = τ' ∧ (∀ i : Nat, (i < 55 ∨ 55 < i) ∧ (i < 66 ∨ 66 < i) ∧ (i < 74 ∨ 78 < i) → σ' i = σ i) ∧ (∀ k : Nat, (k < 18 ∨ 18 < k) ∧ (k < 19 ∨ 19 < k) ∧ (k < 20 ∨ 20 < k) ∧ (k < 21 ∨ 21 < k) ∧ (k < 22 ∨ 22 < k) ∧ (k < 37 ∨ 37 < k) → σ' 55 k = σ 55 k) ∧ (jKept σ') ∧ (jTR σ') ∧ (jqSt σ') ∧ ((jrP σ → jrM σ → ((σ' 55 37).toInt = (if (jrV σ).1 < 0 then -2 else (jrV σ).1) ∧ r.toInt = (jrV σ).2) ∧ jrM σ')) ∧ (0 ≤ (σ' 55 37).toInt ∧ (σ' 55 37).toInt ≤ 3) ∧ ((True ∧ (0 ≤ r.toInt ∧ r.toInt ≤ -(1023000 * (σ 55 26).toInt) + 12276000))))) := by
  induction n with
  | zero =>
    have h_mean := c_X12_bests_mean_z l D cI cL ad zz hJ
    have h_bf := c_X12_bests_bf_g l D cI cL ad zz hJ 0 h_mean
    have h_bw := c_X12_bests_bw_g l D cI cL ad zz hJ 0 h_mean
    exact ⟨h_mean, h_bf, h_bw⟩
  | succ n ih =>
    obtain ⟨g_mean, g_bf, g_bw⟩ := ih
    have h_mean := c_X12_bests_mean_g l D cI cL ad zz hJ n g_bf
    have h_bf := c_X12_bests_bf_g l D cI cL ad zz hJ (n + 1) h_mean
    have h_bw := c_X12_bests_bw_g l D cI cL ad zz hJ (n + 1) h_mean
    exact ⟨h_mean, h_bf, h_bw⟩
