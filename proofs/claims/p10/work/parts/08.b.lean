set_option maxHeartbeats 4000000 in
set_option maxRecDepth 100000 in
theorem c_X12_begin (l : Launch) (D : va_G) (cI cL : ClassId) (ad zz : Nat → Nat) (hJ : jD ad) (σ : Nat → Nat → Int32) (τ : Nat → Nat → Int64) (hI104 : jI104 σ) (hw68 : ∀ k : Nat, k < 4 → 0 ≤ (σ 68 k).toInt ∧ (σ 68 k).toInt ≤ 3) : jMv l yX12_begin cX12_begin 2 none ({ frames := 0, cells := 0, slots := 0, locals := 0 }) D cI cL ad zz [.ref (ad 55)] σ τ (fun σ' τ' => τ = τ' ∧ (∀ i : Nat, (i < 55 ∨ 55 < i) ∧ (i < 68 ∨ 69 < i) → σ' i = σ i) ∧ (∀ k : Nat, (k < 25 ∨ 25 < k) ∧ (k < 26 ∨ 26 < k) ∧ (k < 27 ∨ 27 < k) → σ' 55 k = σ 55 k) ∧ (jI120 σ') ∧ (jZr (σ' 69) 4) ∧ (jZr (σ' 68) 4) ∧ ((σ' 55 25).toInt = 0) ∧ ((σ' 55 26).toInt = 0) ∧ ((σ' 55 27).toInt = (-1)) ∧ True) := by
  refine jMv.of hJ (by decide +kernel) rfl (Nat.le_of_ble_eq_true rfl) ?_
  intro p e s m args below meth c Q ls hC hret hl hP
  obtain ⟨hx, hb, hr, hml, hown, hts, hK, -, hlocks, hZ⟩ := hC
  have hown : s.vm.findClass RX12 = some m.cls := hown
  have hS : va_S (jA ad) s.heap s.heap [] := va_S.rf
  have hA : ∀ q, jA ad q → jA ad q := fun _ h => h
  have hl : lv_has ls 2 [(0, .ref (ad 55))] := hl
  obtain ⟨i1, i2, i3, w4, w5⟩ : (1 ≤ (σ 55 10).toInt ∧ (σ 55 10).toInt ≤ 8) ∧ (1 ≤ (σ 55 12).toInt ∧ (σ 55 12).toInt ≤ 12) ∧ (0 ≤ (σ 55 13).toInt ∧ (σ 55 13).toInt ≤ 999) ∧ (∀ k : Nat, k < 8 → 0 ≤ (σ 62 k).toInt ∧ (σ 62 k).toInt ≤ 3) ∧ (∀ k : Nat, k < 8 → 0 ≤ (σ 67 k).toInt ∧ (σ 67 k).toInt ≤ 3) := id hI104
  refine lv_aload_n hx hb dX12_begin_0 rfl (lv_at hl 0 rfl) ?_
  refine lv_iconst (v := 0) hx hb dX12_begin_1 (of_decide_eq_true rfl) ?_
  refine jput (ty := .int) hx hb hts inlX12 tyX12 tyX12_ok nmX12 hown hK hP hJ hA hS (jc_55 cI cL ad σ τ) rfl (k := 25) (of_decide_eq_true rfl) (Nat.le_of_ble_eq_true rfl) (jp_55_25 cI cL ad σ τ 0) (hts _ kw_23_6) (fun _ h9 => h9) rfl (by decide +kernel) rfl rfl dX12_begin_2 (fun σ6 H locs eσ6 hP hS => ?_)
  refine lv_aload_n hx hb dX12_begin_5 rfl (lv_at hl 0 rfl) ?_
  refine lv_iconst (v := 0) hx hb dX12_begin_6 (of_decide_eq_true rfl) ?_
  refine jput (ty := .int) hx hb hts inlX12 tyX12 tyX12_ok nmX12 hown hK hP hJ hA hS (jc_55 cI cL ad σ6 τ) rfl (k := 26) (of_decide_eq_true rfl) (Nat.le_of_ble_eq_true rfl) (jp_55_26 cI cL ad σ6 τ 0) (hts _ kw_23_5) (fun _ h9 => h9) rfl (by decide +kernel) rfl rfl dX12_begin_7 (fun σ7 H locs eσ7 hP hS => ?_)
  refine lv_aload_n hx hb dX12_begin_10 rfl (lv_at hl 0 rfl) ?_
  refine lv_iconst (v := (-1)) hx hb dX12_begin_11 (of_decide_eq_true rfl) ?_
  refine jput (ty := .int) hx hb hts inlX12 tyX12 tyX12_ok nmX12 hown hK hP hJ hA hS (jc_55 cI cL ad σ7 τ) rfl (k := 27) (of_decide_eq_true rfl) (Nat.le_of_ble_eq_true rfl) (jp_55_27 cI cL ad σ7 τ (-1)) (hts _ kw_23_11) (fun _ h9 => h9) rfl (by decide +kernel) rfl rfl dX12_begin_12 (fun σ8 H locs eσ8 hP hS => ?_)
  refine lv_iconst (v := 0) hx hb dX12_begin_15 (of_decide_eq_true rfl) ?_
  refine lv_istore_n (lv' := [(1, .int 0), (0, .ref (ad 55))]) hx hb dX12_begin_16 rfl hl (of_decide_eq_true rfl) rfl (fun ls hl => ?_)
  have w13 : ∀ k : Nat, k < 4 → 0 ≤ (σ8 68 k).toInt ∧ (σ8 68 k).toInt ≤ 3 := (jrr_fr (jnp 68 eσ8 (of_decide_eq_true rfl)) (jrr_fr (jnp 68 eσ7 (of_decide_eq_true rfl)) (jrr_fr (jnp 68 eσ6 (of_decide_eq_true rfl)) hw68)))
  have lp9 : ∀ (n10 : Nat) (x11 : Int32) (σ12 : Nat → Nat → Int32) (H : Heap) (locs : List Loc) (ls : Array Slot), (-x11.toInt + 4 : Int) < n10 → 0 ≤ x11.toInt → x11.toInt ≤ 4 → (∀ i : Nat, (i < 68 ∨ 69 < i) → σ12 i = σ8 i) → (∀ k : Nat, k < 4 → 0 ≤ (σ12 68 k).toInt ∧ (σ12 68 k).toInt ≤ 3) → (jZr (σ12 69) (x11.toInt)) → (jZr (σ12 68) (x11.toInt)) → jH D cI cL ad σ12 τ H → va_S (jA ad) s.heap H locs → lv_has ls 2 [(1, .int x11), (0, .ref (ad 55))] → W p l e ({ frames := 0, cells := 0, slots := 0, locals := 0 }) s m args below meth c H locs 0 0 Q (F0 m 17 ls []) := by
    intro n10
    induction n10 with
    | zero => intro x11 σ12 H locs ls h15 h16 h17; exact absurd h15 (by omega)
    | succ n10 ihlp9 =>
      intro x11 σ12 H locs ls h15 h16 h17 f18 w19 q20 q21 hP hS hl
      exact by
       refine lv_iload_n hx hb dX12_begin_17 rfl (lv_at hl 0 rfl) ?_
       refine lv_iconst (v := 4) hx hb dX12_begin_18 (of_decide_eq_true rfl) ?_
       refine lv_icmp_ge (tgt := 42) hx hb dX12_begin_19 (of_decide_eq_true rfl) (fun c22 => ?_) (fun c22 => ?_)
       · have kc22 := jle c22 jz_4 rfl
         have z23 : (σ12 55 25).toInt = 0 := ((congrArg Int32.toInt (show σ12 55 25 = 0 from ((congrFun (f18 55 (of_decide_eq_true rfl)) 25).trans ((jkp 25 eσ8 (of_decide_eq_true rfl)).trans ((jkp 25 eσ7 (of_decide_eq_true rfl)).trans (jsp eσ6)))))).trans jz_0)
         have z24 : (σ12 55 10).toInt = (σ 55 10).toInt := (congrArg Int32.toInt (show σ12 55 10 = (σ 55 10) from ((congrFun (f18 55 (of_decide_eq_true rfl)) 10).trans ((jkp 10 eσ8 (of_decide_eq_true rfl)).trans ((jkp 10 eσ7 (of_decide_eq_true rfl)).trans (jkp 10 eσ6 (of_decide_eq_true rfl)))))))
         have z25 : (σ12 55 26).toInt = 0 := ((congrArg Int32.toInt (show σ12 55 26 = 0 from ((congrFun (f18 55 (of_decide_eq_true rfl)) 26).trans ((jkp 26 eσ8 (of_decide_eq_true rfl)).trans (jsp eσ7))))).trans jz_0)
         have z26 : (σ12 55 12).toInt = (σ 55 12).toInt := (congrArg Int32.toInt (show σ12 55 12 = (σ 55 12) from ((congrFun (f18 55 (of_decide_eq_true rfl)) 12).trans ((jkp 12 eσ8 (of_decide_eq_true rfl)).trans ((jkp 12 eσ7 (of_decide_eq_true rfl)).trans (jkp 12 eσ6 (of_decide_eq_true rfl)))))))
         have z27 : (σ12 55 27).toInt = (-1) := ((congrArg Int32.toInt (show σ12 55 27 = (-1) from ((congrFun (f18 55 (of_decide_eq_true rfl)) 27).trans (jsp eσ8)))).trans jz_m1)
         exact by
          have I28 : jI120 σ12 := ⟨(by omega), (by omega), (by omega), (by omega), (by omega), w19⟩
          exact by exact hret σ12 τ _ _ _ _ ⟨rfl, (fun i hi => ((f18 i (imp_188 i hi)).trans ((jnp i eσ8 (imp_189 i hi)).trans ((jnp i eσ7 (imp_189 i hi)).trans (jnp i eσ6 (imp_189 i hi)))))), (fun i hi => ((congrFun (f18 55 (of_decide_eq_true rfl)) i).trans ((jkp i eσ8 (imp_190 i hi)).trans ((jkp i eσ7 (imp_191 i hi)).trans (jkp i eσ6 (imp_192 i hi)))))), I28, (by rw [show (4 : Int) = x11.toInt by omega]; exact q20), (by rw [show (4 : Int) = x11.toInt by omega]; exact q21), (by omega), (by omega), (by omega), trivial⟩ hP hS dX12_begin_42
       · have kc22 := jnle c22 jz_4 rfl
         refine lv_aload_n hx hb dX12_begin_22 rfl (lv_at hl 1 rfl) ?_
         refine va_get (D := D) hx hb hts inlX12 hown hK hP 55 (jc_55 cI cL ad σ12 τ) rfl 28 (of_decide_eq_true rfl) (hts _ kw_7_14) (fun _ h9 => h9) rfl dX12_begin_23 ?_
         refine lv_iload_n hx hb dX12_begin_26 rfl (lv_at hl 0 rfl) ?_
         refine lv_iconst (v := 0) hx hb dX12_begin_27 (of_decide_eq_true rfl) ?_
         refine jast hx hb hK hP hJ hA hS (jc_68 cI cL ad σ12 τ) (ja_68 cI cL ad σ12 τ _ _) (jin rfl (by omega) (by omega)) dX12_begin_28 (fun σ29 H locs eσ29 hP hS => ?_)
         refine lv_aload_n hx hb dX12_begin_29 rfl (lv_at hl 1 rfl) ?_
         exact by
          refine va_get (D := D) hx hb hts inlX12 hown hK hP 55 (jc_55 cI cL ad σ29 τ) rfl 29 (of_decide_eq_true rfl) (hts _ kw_7_15) (fun _ h9 => h9) rfl dX12_begin_30 ?_
          refine lv_iload_n hx hb dX12_begin_33 rfl (lv_at hl 0 rfl) ?_
          refine lv_iconst (v := 0) hx hb dX12_begin_34 (of_decide_eq_true rfl) ?_
          refine jast hx hb hK hP hJ hA hS (jc_69 cI cL ad σ29 τ) (ja_69 cI cL ad σ29 τ _ _) (jin rfl (by omega) (by omega)) dX12_begin_35 (fun σ30 H locs eσ30 hP hS => ?_)
          obtain ⟨x31, ex31⟩ : ∃ y : Int32, y = x11 + 1 := ⟨_, rfl⟩
          have tx31 : x31.toInt = x11.toInt + 1 := (jadd ex31 rfl jz_1 (by omega) (by omega)).trans (by omega)
          refine lv_iinc (v := x31) (lv' := [(1, .int x31), (0, .ref (ad 55))]) hx hb dX12_begin_36 hl (k := 0) rfl (by rw [ex31]; rfl) (of_decide_eq_true rfl) rfl (fun ls hl => ?_)
          refine lv_goto (tgt := 17) hx hb dX12_begin_39 (of_decide_eq_true rfl) ?_
          have w32 : ∀ k : Nat, k < 4 → 0 ≤ (σ30 68 k).toInt ∧ (σ30 68 k).toInt ≤ 3 := (jrr_fr (jnp 68 eσ30 (of_decide_eq_true rfl)) (by rw [eσ29]; exact jrr_up w19 (by have h9 := jz_0; omega) (by have h9 := jz_0; omega)))
          exact by exact ihlp9 x31 σ30 _ _ ls (by have h90 := tx31; omega) (by have h90 := tx31; omega) (by have h90 := tx31; omega) (fun i hi => ((jnp i eσ30 (imp_193 i hi)).trans ((jnp i eσ29 (imp_194 i hi)).trans (f18 i hi))))   w32 (q20.step (by omega) (by rw [eσ30, jup_row, eσ29, jup_n (of_decide_eq_true rfl), jnc (rfl : x11.toInt = x11.toInt)]) (by omega) (by have h9 := tx31; omega)) (q21.step (by omega) (by rw [eσ30, jup_n (of_decide_eq_true rfl), eσ29, jup_row, jnc (rfl : x11.toInt = x11.toInt)]) (by omega) (by have h9 := tx31; omega)) hP hS (lv_sub hl [0, 1] rfl)
  exact by exact lp9 1000000 0 σ8 _ _ ls (by have h90 := jz_0; omega) (by have h90 := jz_0; omega) (by have h90 := jz_0; omega) (fun _ _ => rfl)  w13 (jZr.first (by have h9 := jz_0; omega)) (jZr.first (by have h9 := jz_0; omega)) hP hS hl
set_option maxHeartbeats 4000000 in
set_option maxRecDepth 100000 in
theorem c_X12_leftOf (l : Launch) (D : va_G) (cI cL : ClassId) (ad zz : Nat → Nat) (hJ : jD ad) (σ : Nat → Nat → Int32) (τ : Nat → Nat → Int64) (a1 : Int32) (A1 : Int) (t1 : a1.toInt = A1) (hp0 : 0 ≤ A1 ∧ A1 ≤ 3) : jM l yX12_leftOf cX12_leftOf 2 (some .int) ({ frames := 0, cells := 0, slots := 0, locals := 0 }) D cI cL ad zz [.ref (ad 55), .int a1] σ τ (fun r σ' τ' => (σ = σ' ∧ τ = τ') ∧ ((r = (jleft σ a1) ∧ True))) := by
  refine jM.of hJ (by decide +kernel) (nt := .int) rfl (Nat.le_of_ble_eq_true rfl) ?_
  intro p e s m args below meth c Q ls hC hret hl hP
  obtain ⟨hx, hb, hr, hml, hown, hts, hK, -, hlocks, hZ⟩ := hC
  have hown : s.vm.findClass RX12 = some m.cls := hown
  have hS : va_S (jA ad) s.heap s.heap [] := va_S.rf
  have hA : ∀ q, jA ad q → jA ad q := fun _ h => h
  have hl : lv_has ls 2 [(0, .ref (ad 55)), (1, .int a1)] := hl
  have g1 := jrg t1
  refine lv_iload_n hx hb dX12_leftOf_0 rfl (lv_at hl 1 rfl) ?_
  refine lv_aload_n hx hb dX12_leftOf_1 rfl (lv_at hl 0 rfl) ?_
  refine va_get (D := D) hx hb hts inlX12 hown hK hP 55 (jc_55 cI cL ad σ τ) rfl 30 (of_decide_eq_true rfl) (hts _ kw_7_16) (fun _ h9 => h9) rfl dX12_leftOf_2 ?_
  refine lv_icmp_ne (tgt := 12) hx hb dX12_leftOf_5 (of_decide_eq_true rfl) (fun c1 => ?_) (fun c1 => ?_)
  · have kc1 := jne c1 t1 rfl
    refine lv_aload_n hx hb dX12_leftOf_12 rfl (lv_at hl 0 rfl) ?_
    refine va_get (D := D) hx hb hts inlX12 hown hK hP 55 (jc_55 cI cL ad σ τ) rfl 0 (of_decide_eq_true rfl) (hts _ kw_7_2) (fun _ h9 => h9) rfl dX12_leftOf_13 ?_
    refine lv_bipush (v := 32) hx hb dX12_leftOf_16 (of_decide_eq_true rfl) ?_
    refine lv_iload_n hx hb dX12_leftOf_18 rfl (lv_at hl 1 rfl) ?_
    refine lv_iadd hx hb dX12_leftOf_19 ?_
    refine lv_topi (fun x2 ex2 => ?_)
    exact by
     have tx2 : x2.toInt = A1 + 32 := (jadd ex2 jz_32 t1 (by omega) (by omega)).trans (by omega)
     refine jald hx hb hK hP (jc_56 cI cL ad σ τ) (jin tx2 (by omega) (by omega)) dX12_leftOf_20 ?_
     refine lv_topi (fun x3 ex3 => ?_)
     refine lv_iload_n hx hb dX12_leftOf_21 rfl (lv_at hl 1 rfl) ?_
     refine lv_aload_n hx hb dX12_leftOf_22 rfl (lv_at hl 0 rfl) ?_
     refine va_get (D := D) hx hb hts inlX12 hown hK hP 55 (jc_55 cI cL ad σ τ) rfl 31 (of_decide_eq_true rfl) (hts _ kw_7_17) (fun _ h9 => h9) rfl dX12_leftOf_23 ?_
     refine lv_icmp_ne (tgt := 33) hx hb dX12_leftOf_26 (of_decide_eq_true rfl) (fun c4 => ?_) (fun c4 => ?_)
     · have kc4 := jne c4 t1 rfl
       refine lv_iconst (v := 0) hx hb dX12_leftOf_33 (of_decide_eq_true rfl) ?_
       exact by
        refine lv_iadd hx hb dX12_leftOf_34 ?_
        refine jtopr (y := x3) (by rw [Int32.add_zero]) ?_
        refine lv_aload_n hx hb dX12_leftOf_35 rfl (lv_at hl 0 rfl) ?_
        refine va_get (D := D) hx hb hts inlX12 hown hK hP 55 (jc_55 cI cL ad σ τ) rfl 29 (of_decide_eq_true rfl) (hts _ kw_7_15) (fun _ h9 => h9) rfl dX12_leftOf_36 ?_
        refine lv_iload_n hx hb dX12_leftOf_39 rfl (lv_at hl 1 rfl) ?_
        refine jald hx hb hK hP (jc_69 cI cL ad σ τ) (jin t1 (by omega) (by omega)) dX12_leftOf_40 ?_
        refine lv_topi (fun x5 ex5 => ?_)
        have g6 := jrg (rfl : x3.toInt = x3.toInt)
        have g7 := jrg (rfl : x5.toInt = x5.toInt)
        exact by
         refine lv_isub hx hb dX12_leftOf_41 ?_
         refine lv_topi (fun x8 ex8 => ?_)
         have gx8 := jrg (rfl : x8.toInt = x8.toInt)
         exact hret x8 σ τ _ _ _ _ rfl ⟨⟨rfl, rfl⟩, ⟨(by unfold jleft; rw [if_neg c1, if_neg c4]; rw [ex8, ex3, ex2, ex5]), trivial⟩⟩ hP hS dX12_leftOf_42
     · have kc4 := jeq c4 t1 rfl
       refine lv_iconst (v := 1) hx hb dX12_leftOf_29 (of_decide_eq_true rfl) ?_
       refine lv_goto (tgt := 34) hx hb dX12_leftOf_30 (of_decide_eq_true rfl) ?_
       have g9 := jrg (rfl : x3.toInt = x3.toInt)
       refine lv_iadd hx hb dX12_leftOf_34 ?_
       refine lv_topi (fun x10 ex10 => ?_)
       have gx10 := jrg (rfl : x10.toInt = x10.toInt)
       refine lv_aload_n hx hb dX12_leftOf_35 rfl (lv_at hl 0 rfl) ?_
       refine va_get (D := D) hx hb hts inlX12 hown hK hP 55 (jc_55 cI cL ad σ τ) rfl 29 (of_decide_eq_true rfl) (hts _ kw_7_15) (fun _ h9 => h9) rfl dX12_leftOf_36 ?_
       refine lv_iload_n hx hb dX12_leftOf_39 rfl (lv_at hl 1 rfl) ?_
       exact by
        refine jald hx hb hK hP (jc_69 cI cL ad σ τ) (jin t1 (by omega) (by omega)) dX12_leftOf_40 ?_
        refine lv_topi (fun x11 ex11 => ?_)
        have g12 := jrg (rfl : x10.toInt = x10.toInt)
        have g13 := jrg (rfl : x11.toInt = x11.toInt)
        refine lv_isub hx hb dX12_leftOf_41 ?_
        refine lv_topi (fun x14 ex14 => ?_)
        have gx14 := jrg (rfl : x14.toInt = x14.toInt)
        exact hret x14 σ τ _ _ _ _ rfl ⟨⟨rfl, rfl⟩, ⟨(by unfold jleft; rw [if_neg c1, if_pos c4]; rw [ex14, ex10, ex3, ex2, ex11]), trivial⟩⟩ hP hS dX12_leftOf_42
  · have kc1 := jeq c1 t1 rfl
    refine lv_iconst (v := 0) hx hb dX12_leftOf_8 (of_decide_eq_true rfl) ?_
    refine lv_goto (tgt := 35) hx hb dX12_leftOf_9 (of_decide_eq_true rfl) ?_
    refine lv_aload_n hx hb dX12_leftOf_35 rfl (lv_at hl 0 rfl) ?_
    refine va_get (D := D) hx hb hts inlX12 hown hK hP 55 (jc_55 cI cL ad σ τ) rfl 29 (of_decide_eq_true rfl) (hts _ kw_7_15) (fun _ h9 => h9) rfl dX12_leftOf_36 ?_
    refine lv_iload_n hx hb dX12_leftOf_39 rfl (lv_at hl 1 rfl) ?_
    exact by
     refine jald hx hb hK hP (jc_69 cI cL ad σ τ) (jin t1 (by omega) (by omega)) dX12_leftOf_40 ?_
     refine lv_topi (fun x15 ex15 => ?_)
     refine lv_isub hx hb dX12_leftOf_41 ?_
     refine lv_topi (fun x16 ex16 => ?_)
     have gx16 := jrg (rfl : x16.toInt = x16.toInt)
     exact hret x16 σ τ _ _ _ _ rfl ⟨⟨rfl, rfl⟩, ⟨(by unfold jleft; rw [if_pos c1]; rw [ex16, ex15]), trivial⟩⟩ hP hS dX12_leftOf_42
set_option maxHeartbeats 4000000 in
set_option maxRecDepth 100000 in
theorem c_X12_mayBowl (l : Launch) (D : va_G) (cI cL : ClassId) (ad zz : Nat → Nat) (hJ : jD ad) (σ : Nat → Nat → Int32) (τ : Nat → Nat → Int64) (a1 : Int32) (A1 : Int) (t1 : a1.toInt = A1) (hp0 : 0 ≤ A1 ∧ A1 ≤ 3) : jM l yX12_mayBowl cX12_mayBowl 2 (some .boolean) ({ frames := 1, cells := 0, slots := 0, locals := 21 }) D cI cL ad zz [.ref (ad 55), .int a1] σ τ (fun r σ' τ' => (σ = σ' ∧ τ = τ') ∧ ((r = 1 ∧ (jmb σ a1 = 1)) ∨ (r = 0 ∧ (jmb σ a1 = 0)))) := by
  refine jM.of hJ (by decide +kernel) (nt := .boolean) rfl (Nat.le_of_ble_eq_true rfl) ?_
  intro p e s m args below meth c Q ls hC hret hl hP
  obtain ⟨hx, hb, hr, hml, hown, hts, hK, -, hlocks, hZ⟩ := hC
  have hown : s.vm.findClass RX12 = some m.cls := hown
  have hS : va_S (jA ad) s.heap s.heap [] := va_S.rf
  have hA : ∀ q, jA ad q → jA ad q := fun _ h => h
  have hl : lv_has ls 2 [(0, .ref (ad 55)), (1, .int a1)] := hl
  have g1 := jrg t1
  refine lv_iload_n hx hb dX12_mayBowl_0 rfl (lv_at hl 1 rfl) ?_
  refine lv_aload_n hx hb dX12_mayBowl_1 rfl (lv_at hl 0 rfl) ?_
  refine va_get (D := D) hx hb hts inlX12 hown hK hP 55 (jc_55 cI cL ad σ τ) rfl 27 (of_decide_eq_true rfl) (hts _ kw_23_11) (fun _ h9 => h9) rfl dX12_mayBowl_2 ?_
  refine lv_icmp_eq (tgt := 20) hx hb dX12_mayBowl_5 (of_decide_eq_true rfl) (fun c1 => ?_) (fun c1 => ?_)
  · have kc1 := jeq c1 t1 rfl
    refine lv_iconst (v := 0) hx hb dX12_mayBowl_20 (of_decide_eq_true rfl) ?_
    exact hret 0 σ τ _ _ _ _ rfl ⟨⟨rfl, rfl⟩, Or.inr (⟨rfl, (by unfold jmb; rw [if_pos c1])⟩)⟩ hP hS dX12_mayBowl_21
  · have kc1 := jne c1 t1 rfl
    refine lv_aload_n hx hb dX12_mayBowl_8 rfl (lv_at hl 0 rfl) ?_
    refine lv_iload_n hx hb dX12_mayBowl_9 rfl (lv_at hl 1 rfl) ?_
    exact by
     refine jcallV (As := [.int a1]) (rest := []) ⟨hx, hb, hml, hown, hts⟩ hK hP hA hS hZ (c_X12_leftOf l D cI cL ad zz hJ σ τ a1 (A1) t1 (by omega)) cw_RX12_246 (jc_55 cI cL ad σ τ) rfl ⟨Nat.le_of_ble_eq_true rfl, Nat.le_of_ble_eq_true rfl⟩ rfl rfl rfl hl.1 rfl (Nat.le_of_ble_eq_true rfl) dX12_mayBowl_10 ⟨Nat.zero_le _, Nat.zero_le _⟩ (fun r3 σ2 τ2 H locs h2 hP hS => ?_)
     obtain ⟨⟨rfl, rfl⟩, h2⟩ := h2
     have h4 := h2
     obtain ⟨q6, k5⟩ := h4
     have q6 := q6.symm
     subst q6
     refine lv_if_le (tgt := 20) hx hb dX12_mayBowl_13 (of_decide_eq_true rfl) (fun c7 => ?_) (fun c7 => ?_)
     · have kc7 := jle c7 rfl jz_0
       refine lv_iconst (v := 0) hx hb dX12_mayBowl_20 (of_decide_eq_true rfl) ?_
       exact hret 0 σ τ _ _ _ _ rfl ⟨⟨rfl, rfl⟩, Or.inr (⟨rfl, (by unfold jmb; rw [if_neg c1, if_pos c7])⟩)⟩ hP hS dX12_mayBowl_21
     · have kc7 := jnle c7 rfl jz_0
       refine lv_iconst (v := 1) hx hb dX12_mayBowl_16 (of_decide_eq_true rfl) ?_
       refine lv_goto (tgt := 21) hx hb dX12_mayBowl_17 (of_decide_eq_true rfl) ?_
       exact hret 1 σ τ _ _ _ _ rfl ⟨⟨rfl, rfl⟩, Or.inl ⟨rfl, (by unfold jmb; rw [if_neg c1, if_neg c7])⟩⟩ hP hS dX12_mayBowl_21
set_option maxHeartbeats 4000000 in
set_option maxRecDepth 100000 in
theorem c_X12_isEnded (l : Launch) (D : va_G) (cI cL : ClassId) (ad zz : Nat → Nat) (hJ : jD ad) (σ : Nat → Nat → Int32) (τ : Nat → Nat → Int64) (hI102 : jI102 σ) (hI104 : jI104 σ) (hI120 : jI120 σ) : jM l yX12_isEnded cX12_isEnded 2 (some .boolean) ({ frames := 2, cells := 0, slots := 0, locals := 42 }) D cI cL ad zz [.ref (ad 55)] σ τ (fun r σ' τ' => (σ = σ' ∧ τ = τ') ∧ ((r = 1 ∧ (¬ ((σ 55 25).toInt < (σ 55 10).toInt ∧ (σ 55 26).toInt < (σ 55 12).toInt ∧ ∃ b : Int32, 0 ≤ b.toInt ∧ b.toInt < (σ 55 6).toInt ∧ jmb σ b = 1))) ∨ (r = 0 ∧ ((σ 55 25).toInt < (σ 55 10).toInt) ∧ ((σ 55 26).toInt < (σ 55 12).toInt) ∧ (∃ B0 : Int32, 0 ≤ B0.toInt ∧ B0.toInt < (σ 55 6).toInt ∧ jmb σ B0 = 1)))) := by
  refine jM.of hJ (by decide +kernel) (nt := .boolean) rfl (Nat.le_of_ble_eq_true rfl) ?_
  intro p e s m args below meth c Q ls hC hret hl hP
  obtain ⟨hx, hb, hr, hml, hown, hts, hK, -, hlocks, hZ⟩ := hC
  have hown : s.vm.findClass RX12 = some m.cls := hown
  have hS : va_S (jA ad) s.heap s.heap [] := va_S.rf
  have hA : ∀ q, jA ad q → jA ad q := fun _ h => h
  have hl : lv_has ls 2 [(0, .ref (ad 55))] := hl
  obtain ⟨i1, w2, w3⟩ : (0 ≤ (σ 55 6).toInt ∧ (σ 55 6).toInt ≤ 4) ∧ (∀ k : Nat, k < 4 → 0 ≤ (σ 60 k).toInt ∧ (σ 60 k).toInt ≤ 50) ∧ (∀ k : Nat, k < 4 → 0 ≤ (σ 61 k).toInt ∧ (σ 61 k).toInt ≤ 20) := id hI102
  obtain ⟨i4, i5, i6, w7, w8⟩ : (1 ≤ (σ 55 10).toInt ∧ (σ 55 10).toInt ≤ 8) ∧ (1 ≤ (σ 55 12).toInt ∧ (σ 55 12).toInt ≤ 12) ∧ (0 ≤ (σ 55 13).toInt ∧ (σ 55 13).toInt ≤ 999) ∧ (∀ k : Nat, k < 8 → 0 ≤ (σ 62 k).toInt ∧ (σ 62 k).toInt ≤ 3) ∧ (∀ k : Nat, k < 8 → 0 ≤ (σ 67 k).toInt ∧ (σ 67 k).toInt ≤ 3) := id hI104
  obtain ⟨i9, i10, i11, i12, i13, w14⟩ : (0 ≤ (σ 55 25).toInt) ∧ ((σ 55 25).toInt ≤ (σ 55 10).toInt) ∧ (0 ≤ (σ 55 26).toInt) ∧ ((σ 55 26).toInt ≤ (σ 55 12).toInt) ∧ ((-1) ≤ (σ 55 27).toInt ∧ (σ 55 27).toInt ≤ 3) ∧ (∀ k : Nat, k < 4 → 0 ≤ (σ 68 k).toInt ∧ (σ 68 k).toInt ≤ 3) := id hI120
  refine lv_aload_n hx hb dX12_isEnded_0 rfl (lv_at hl 0 rfl) ?_
  refine va_get (D := D) hx hb hts inlX12 hown hK hP 55 (jc_55 cI cL ad σ τ) rfl 25 (of_decide_eq_true rfl) (hts _ kw_23_6) (fun _ h9 => h9) rfl dX12_isEnded_1 ?_
  refine lv_aload_n hx hb dX12_isEnded_4 rfl (lv_at hl 0 rfl) ?_
  refine va_get (D := D) hx hb hts inlX12 hown hK hP 55 (jc_55 cI cL ad σ τ) rfl 10 (of_decide_eq_true rfl) (hts _ kw_8_15) (fun _ h9 => h9) rfl dX12_isEnded_5 ?_
  refine lv_icmp_eq (tgt := 22) hx hb dX12_isEnded_8 (of_decide_eq_true rfl) (fun c15 => ?_) (fun c15 => ?_)
  · have kc15 := jeq c15 rfl rfl
    refine lv_iconst (v := 1) hx hb dX12_isEnded_22 (of_decide_eq_true rfl) ?_
    exact hret 1 σ τ _ _ _ _ rfl ⟨⟨rfl, rfl⟩, Or.inl ⟨rfl, (fun w => by have e1 := w.1; have e2 := w.2.1; omega)⟩⟩ hP hS dX12_isEnded_23
  · have kc15 := jne c15 rfl rfl
    refine lv_aload_n hx hb dX12_isEnded_11 rfl (lv_at hl 0 rfl) ?_
    refine va_get (D := D) hx hb hts inlX12 hown hK hP 55 (jc_55 cI cL ad σ τ) rfl 26 (of_decide_eq_true rfl) (hts _ kw_23_5) (fun _ h9 => h9) rfl dX12_isEnded_12 ?_
    refine lv_aload_n hx hb dX12_isEnded_15 rfl (lv_at hl 0 rfl) ?_
    refine va_get (D := D) hx hb hts inlX12 hown hK hP 55 (jc_55 cI cL ad σ τ) rfl 12 (of_decide_eq_true rfl) (hts _ kw_8_16) (fun _ h9 => h9) rfl dX12_isEnded_16 ?_
    refine lv_icmp_ne (tgt := 24) hx hb dX12_isEnded_19 (of_decide_eq_true rfl) (fun c16 => ?_) (fun c16 => ?_)
    · have kc16 := jne c16 rfl rfl
      refine lv_iconst (v := 0) hx hb dX12_isEnded_24 (of_decide_eq_true rfl) ?_
      refine lv_istore_n (lv' := [(1, .int 0), (0, .ref (ad 55))]) hx hb dX12_isEnded_25 rfl hl (of_decide_eq_true rfl) rfl (fun ls hl => ?_)
      have lp17 : ∀ (n18 : Nat) (x19 : Int32) (H : Heap) (locs : List Loc) (ls : Array Slot), (-x19.toInt + 4 : Int) < n18 → 0 ≤ x19.toInt → x19.toInt ≤ 4 → ((∀ b : Int32, 0 ≤ b.toInt → b.toInt < x19.toInt → ¬ jmb σ b = 1)) → jH D cI cL ad σ τ H → va_S (jA ad) s.heap H locs → lv_has ls 2 [(1, .int x19), (0, .ref (ad 55))] → W p l e ({ frames := 2, cells := 0, slots := 0, locals := 42 }) s m args below meth c H locs 0 0 Q (F0 m 26 ls []) := by
        intro n18
        induction n18 with
        | zero => intro x19 H locs ls h21 h22 h23; exact absurd h21 (by omega)
        | succ n18 ihlp17 =>
          intro x19 H locs ls h21 h22 h23 q25 hP hS hl
          exact by
           refine lv_iload_n hx hb dX12_isEnded_26 rfl (lv_at hl 0 rfl) ?_
           refine lv_aload_n hx hb dX12_isEnded_27 rfl (lv_at hl 1 rfl) ?_
           refine va_get (D := D) hx hb hts inlX12 hown hK hP 55 (jc_55 cI cL ad σ τ) rfl 6 (of_decide_eq_true rfl) (hts _ kw_9_13) (fun _ h9 => h9) rfl dX12_isEnded_28 ?_
           refine lv_icmp_ge (tgt := 50) hx hb dX12_isEnded_31 (of_decide_eq_true rfl) (fun c26 => ?_) (fun c26 => ?_)
           · have kc26 := jle c26 rfl rfl
             refine lv_iconst (v := 1) hx hb dX12_isEnded_50 (of_decide_eq_true rfl) ?_
             exact hret 1 σ τ _ _ _ _ rfl ⟨⟨rfl, rfl⟩, Or.inl ⟨rfl, (fun w => by
               obtain ⟨_, _, b, b0, b1, b2⟩ := w
               exact q25 b b0 (by omega) b2)⟩⟩ hP hS dX12_isEnded_51
           · have kc26 := jnle c26 rfl rfl
             refine lv_aload_n hx hb dX12_isEnded_34 rfl (lv_at hl 1 rfl) ?_
             refine lv_iload_n hx hb dX12_isEnded_35 rfl (lv_at hl 0 rfl) ?_
             exact by
              refine jcallV (As := [.int x19]) (rest := []) ⟨hx, hb, hml, hown, hts⟩ hK hP hA hS hZ (c_X12_mayBowl l D cI cL ad zz hJ σ τ x19 (x19.toInt) rfl (by omega)) cw_RX12_249 (jc_55 cI cL ad σ τ) rfl ⟨Nat.le_of_ble_eq_true rfl, Nat.le_of_ble_eq_true rfl⟩ rfl rfl rfl hl.1 rfl (Nat.le_of_ble_eq_true rfl) dX12_isEnded_36 ⟨Nat.zero_le _, Nat.zero_le _⟩ (fun r28 σ27 τ27 H locs h27 hP hS => ?_)
              obtain ⟨⟨rfl, rfl⟩, h27⟩ := h27
              rcases h27 with h29 | h30
              · obtain ⟨q32, k31⟩ := h29
                have q32 := q32.symm
                subst q32
                refine lv_if_eq (tgt := 44) hx hb dX12_isEnded_39 (of_decide_eq_true rfl) (fun c => absurd c (of_decide_eq_true rfl)) (fun _ => ?_)
                refine lv_iconst (v := 0) hx hb dX12_isEnded_42 (of_decide_eq_true rfl) ?_
                exact by exact hret 0 σ τ _ _ _ _ rfl ⟨⟨rfl, rfl⟩, Or.inr (⟨rfl, (by have h9 := jz_0; omega), (by have h9 := jz_0; omega), ⟨x19, (by omega), (by omega), k31⟩⟩)⟩ hP hS dX12_isEnded_43
              · obtain ⟨q34, k33⟩ := h30
                have q34 := q34.symm
                subst q34
                refine lv_if_eq (tgt := 44) hx hb dX12_isEnded_39 (of_decide_eq_true rfl) (fun _ => ?_) (fun c => absurd (of_decide_eq_true rfl) c)
                obtain ⟨x35, ex35⟩ : ∃ y : Int32, y = x19 + 1 := ⟨_, rfl⟩
                exact by
                 have tx35 : x35.toInt = x19.toInt + 1 := (jadd ex35 rfl jz_1 (by omega) (by omega)).trans (by omega)
                 refine lv_iinc (v := x35) (lv' := [(1, .int x35), (0, .ref (ad 55))]) hx hb dX12_isEnded_44 hl (k := 0) rfl (by rw [ex35]; rfl) (of_decide_eq_true rfl) rfl (fun ls hl => ?_)
                 refine lv_goto (tgt := 26) hx hb dX12_isEnded_47 (of_decide_eq_true rfl) ?_
                 exact by exact ihlp17 x35 _ _ ls (by have h90 := tx35; omega) (by have h90 := tx35; omega) (by have h90 := tx35; omega)   (fun b b0 b1 => by
                   by_cases e : b.toInt = x19.toInt
                   · rw [Int32.toInt_inj.mp e, k33]; decide
                   · exact q25 b b0 (by have h9 := tx35; omega)) hP hS (lv_sub hl [0, 1] rfl)
      exact by exact lp17 1000000 0 _ _ ls (by have h90 := jz_0; omega) (by have h90 := jz_0; omega) (by have h90 := jz_0; omega)  (fun b b0 b1 => absurd b1 (by have h9 := jz_0; omega)) hP hS hl
    · have kc16 := jeq c16 rfl rfl
      exact by
       refine lv_iconst (v := 1) hx hb dX12_isEnded_22 (of_decide_eq_true rfl) ?_
       exact hret 1 σ τ _ _ _ _ rfl ⟨⟨rfl, rfl⟩, Or.inl ⟨rfl, (fun w => by have e1 := w.1; have e2 := w.2.1; omega)⟩⟩ hP hS dX12_isEnded_23
set_option maxHeartbeats 4000000 in
set_option maxRecDepth 100000 in
theorem c_X12_isEnded_w (l : Launch) (D : va_G) (cI cL : ClassId) (ad zz : Nat → Nat) (hJ : jD ad) (σ : Nat → Nat → Int32) (τ : Nat → Nat → Int64) (B0 : Int32) (hB0 : jmb σ B0 = 1) (hI102 : jI102 σ) (hI104 : jI104 σ) (hI120 : jI120 σ) (hp0 : 0 ≤ B0.toInt ∧ B0.toInt < (σ 55 6).toInt) (hp1 : (σ 55 25).toInt < (σ 55 10).toInt) (hp2 : (σ 55 26).toInt < (σ 55 12).toInt) : jM l yX12_isEnded cX12_isEnded 2 (some .boolean) ({ frames := 2, cells := 0, slots := 0, locals := 42 }) D cI cL ad zz [.ref (ad 55)] σ τ (fun r σ' τ' => (σ = σ' ∧ τ = τ') ∧ ((r = 0 ∧ True))) := by
  refine jM.of hJ (by decide +kernel) (nt := .boolean) rfl (Nat.le_of_ble_eq_true rfl) ?_
  intro p e s m args below meth c Q ls hC hret hl hP
  obtain ⟨hx, hb, hr, hml, hown, hts, hK, -, hlocks, hZ⟩ := hC
  have hown : s.vm.findClass RX12 = some m.cls := hown
  have hS : va_S (jA ad) s.heap s.heap [] := va_S.rf
  have hA : ∀ q, jA ad q → jA ad q := fun _ h => h
  have hl : lv_has ls 2 [(0, .ref (ad 55))] := hl
  obtain ⟨i1, w2, w3⟩ : (0 ≤ (σ 55 6).toInt ∧ (σ 55 6).toInt ≤ 4) ∧ (∀ k : Nat, k < 4 → 0 ≤ (σ 60 k).toInt ∧ (σ 60 k).toInt ≤ 50) ∧ (∀ k : Nat, k < 4 → 0 ≤ (σ 61 k).toInt ∧ (σ 61 k).toInt ≤ 20) := id hI102
  obtain ⟨i4, i5, i6, w7, w8⟩ : (1 ≤ (σ 55 10).toInt ∧ (σ 55 10).toInt ≤ 8) ∧ (1 ≤ (σ 55 12).toInt ∧ (σ 55 12).toInt ≤ 12) ∧ (0 ≤ (σ 55 13).toInt ∧ (σ 55 13).toInt ≤ 999) ∧ (∀ k : Nat, k < 8 → 0 ≤ (σ 62 k).toInt ∧ (σ 62 k).toInt ≤ 3) ∧ (∀ k : Nat, k < 8 → 0 ≤ (σ 67 k).toInt ∧ (σ 67 k).toInt ≤ 3) := id hI104
  obtain ⟨i9, i10, i11, i12, i13, w14⟩ : (0 ≤ (σ 55 25).toInt) ∧ ((σ 55 25).toInt ≤ (σ 55 10).toInt) ∧ (0 ≤ (σ 55 26).toInt) ∧ ((σ 55 26).toInt ≤ (σ 55 12).toInt) ∧ ((-1) ≤ (σ 55 27).toInt ∧ (σ 55 27).toInt ≤ 3) ∧ (∀ k : Nat, k < 4 → 0 ≤ (σ 68 k).toInt ∧ (σ 68 k).toInt ≤ 3) := id hI120
  refine lv_aload_n hx hb dX12_isEnded_0 rfl (lv_at hl 0 rfl) ?_
  refine va_get (D := D) hx hb hts inlX12 hown hK hP 55 (jc_55 cI cL ad σ τ) rfl 25 (of_decide_eq_true rfl) (hts _ kw_23_6) (fun _ h9 => h9) rfl dX12_isEnded_1 ?_
  refine lv_aload_n hx hb dX12_isEnded_4 rfl (lv_at hl 0 rfl) ?_
  refine va_get (D := D) hx hb hts inlX12 hown hK hP 55 (jc_55 cI cL ad σ τ) rfl 10 (of_decide_eq_true rfl) (hts _ kw_8_15) (fun _ h9 => h9) rfl dX12_isEnded_5 ?_
  exact by
   refine lv_icmp_eq (tgt := 22) hx hb dX12_isEnded_8 (of_decide_eq_true rfl) (fun c => absurd (jeq c rfl rfl) (by omega)) (fun c15 => ?_)
   have kc15 := jne c15 rfl rfl
   refine lv_aload_n hx hb dX12_isEnded_11 rfl (lv_at hl 0 rfl) ?_
   refine va_get (D := D) hx hb hts inlX12 hown hK hP 55 (jc_55 cI cL ad σ τ) rfl 26 (of_decide_eq_true rfl) (hts _ kw_23_5) (fun _ h9 => h9) rfl dX12_isEnded_12 ?_
   refine lv_aload_n hx hb dX12_isEnded_15 rfl (lv_at hl 0 rfl) ?_
   refine va_get (D := D) hx hb hts inlX12 hown hK hP 55 (jc_55 cI cL ad σ τ) rfl 12 (of_decide_eq_true rfl) (hts _ kw_8_16) (fun _ h9 => h9) rfl dX12_isEnded_16 ?_
   refine lv_icmp_ne (tgt := 24) hx hb dX12_isEnded_19 (of_decide_eq_true rfl) (fun c16 => ?_) (fun c => absurd (jeq c rfl rfl) (by omega))
   have kc16 := jne c16 rfl rfl
   refine lv_iconst (v := 0) hx hb dX12_isEnded_24 (of_decide_eq_true rfl) ?_
   exact by
    refine lv_istore_n (lv' := [(1, .int 0), (0, .ref (ad 55))]) hx hb dX12_isEnded_25 rfl hl (of_decide_eq_true rfl) rfl (fun ls hl => ?_)
    have lp17 : ∀ (n18 : Nat) (x19 : Int32) (H : Heap) (locs : List Loc) (ls : Array Slot), (-x19.toInt + 4 : Int) < n18 → 0 ≤ x19.toInt → x19.toInt ≤ 4 → x19.toInt ≤ B0.toInt → jH D cI cL ad σ τ H → va_S (jA ad) s.heap H locs → lv_has ls 2 [(1, .int x19), (0, .ref (ad 55))] → W p l e ({ frames := 2, cells := 0, slots := 0, locals := 42 }) s m args below meth c H locs 0 0 Q (F0 m 26 ls []) := by
      intro n18
      induction n18 with
      | zero => intro x19 H locs ls h21 h22 h23 h24; exact absurd h21 (by omega)
      | succ n18 ihlp17 =>
        intro x19 H locs ls h21 h22 h23 h24 hP hS hl
        refine lv_iload_n hx hb dX12_isEnded_26 rfl (lv_at hl 0 rfl) ?_
        refine lv_aload_n hx hb dX12_isEnded_27 rfl (lv_at hl 1 rfl) ?_
        exact by
         refine va_get (D := D) hx hb hts inlX12 hown hK hP 55 (jc_55 cI cL ad σ τ) rfl 6 (of_decide_eq_true rfl) (hts _ kw_9_13) (fun _ h9 => h9) rfl dX12_isEnded_28 ?_
         refine lv_icmp_ge (tgt := 50) hx hb dX12_isEnded_31 (of_decide_eq_true rfl) (fun c => absurd (jle c rfl rfl) (by omega)) (fun c26 => ?_)
         have kc26 := jnle c26 rfl rfl
         refine lv_aload_n hx hb dX12_isEnded_34 rfl (lv_at hl 1 rfl) ?_
         refine lv_iload_n hx hb dX12_isEnded_35 rfl (lv_at hl 0 rfl) ?_
         refine jcallV (As := [.int x19]) (rest := []) ⟨hx, hb, hml, hown, hts⟩ hK hP hA hS hZ (c_X12_mayBowl l D cI cL ad zz hJ σ τ x19 (x19.toInt) rfl (by omega)) cw_RX12_249 (jc_55 cI cL ad σ τ) rfl ⟨Nat.le_of_ble_eq_true rfl, Nat.le_of_ble_eq_true rfl⟩ rfl rfl rfl hl.1 rfl (Nat.le_of_ble_eq_true rfl) dX12_isEnded_36 ⟨Nat.zero_le _, Nat.zero_le _⟩ (fun r28 σ27 τ27 H locs h27 hP hS => ?_)
         obtain ⟨⟨rfl, rfl⟩, h27⟩ := h27
         rcases h27 with h29 | h30
         · obtain ⟨q32, k31⟩ := h29
           exact by
            have q32 := q32.symm
            subst q32
            refine lv_if_eq (tgt := 44) hx hb dX12_isEnded_39 (of_decide_eq_true rfl) (fun c => absurd c (of_decide_eq_true rfl)) (fun _ => ?_)
            refine lv_iconst (v := 0) hx hb dX12_isEnded_42 (of_decide_eq_true rfl) ?_
            exact hret 0 σ τ _ _ _ _ rfl ⟨⟨rfl, rfl⟩, ⟨rfl, trivial⟩⟩ hP hS dX12_isEnded_43
         · obtain ⟨q34, k33⟩ := h30
           have q34 := q34.symm
           subst q34
           have e35 : jmb σ x19 = jmb σ x19 := (jmb_fr rfl rfl rfl rfl rfl x19)
           exact by
            have n36 : ¬ x19 = B0 := fun h => absurd ((hB0).symm.trans (by rw [← h]; exact e35.symm.trans k33) : (1 : Int32) = 0) (of_decide_eq_true rfl)
            have k37 := jne n36 rfl rfl
            refine lv_if_eq (tgt := 44) hx hb dX12_isEnded_39 (of_decide_eq_true rfl) (fun _ => ?_) (fun c => absurd (of_decide_eq_true rfl) c)
            obtain ⟨x38, ex38⟩ : ∃ y : Int32, y = x19 + 1 := ⟨_, rfl⟩
            have tx38 : x38.toInt = x19.toInt + 1 := (jadd ex38 rfl jz_1 (by omega) (by omega)).trans (by omega)
            refine lv_iinc (v := x38) (lv' := [(1, .int x38), (0, .ref (ad 55))]) hx hb dX12_isEnded_44 hl (k := 0) rfl (by rw [ex38]; rfl) (of_decide_eq_true rfl) rfl (fun ls hl => ?_)
            refine lv_goto (tgt := 26) hx hb dX12_isEnded_47 (of_decide_eq_true rfl) ?_
            exact by exact ihlp17 x38 _ _ ls (by have h90 := tx38; omega) (by have h90 := tx38; omega) (by have h90 := tx38; omega) (by have h90 := tx38; omega)    hP hS (lv_sub hl [0, 1] rfl)
    exact by exact lp17 1000000 0 _ _ ls (by have h90 := jz_0; omega) (by have h90 := jz_0; omega) (by have h90 := jz_0; omega) (by have h90 := jz_0; omega)   hP hS hl
set_option maxHeartbeats 4000000 in
set_option maxRecDepth 100000 in
theorem c_X12_leastBut (l : Launch) (D : va_G) (cI cL : ClassId) (ad zz : Nat → Nat) (hJ : jD ad) (σ : Nat → Nat → Int32) (τ : Nat → Nat → Int64) (a1 : Int32) (A1 : Int) (t1 : a1.toInt = A1) (hI102 : jI102 σ) : jM l yX12_leastBut cX12_leastBut 3 (some .int) ({ frames := 2, cells := 0, slots := 0, locals := 42 }) D cI cL ad zz [.ref (ad 55), .int a1] σ τ (fun r σ' τ' => (σ = σ' ∧ τ = τ') ∧ ((True ∧ (0 ≤ r.toInt ∧ r.toInt ≤ 3) ∧ (r.toInt < (σ 55 6).toInt) ∧ (r.toInt ≠ A1) ∧ (jmb σ r = 1)) ∨ (r = (-1) ∧ True))) := by
  refine jM.of hJ (by decide +kernel) (nt := .int) rfl (Nat.le_of_ble_eq_true rfl) ?_
  intro p e s m args below meth c Q ls hC hret hl hP
  obtain ⟨hx, hb, hr, hml, hown, hts, hK, -, hlocks, hZ⟩ := hC
  have hown : s.vm.findClass RX12 = some m.cls := hown
  have hS : va_S (jA ad) s.heap s.heap [] := va_S.rf
  have hA : ∀ q, jA ad q → jA ad q := fun _ h => h
  have hl : lv_has ls 3 [(0, .ref (ad 55)), (1, .int a1)] := hl
  have g1 := jrg t1
  obtain ⟨i1, w2, w3⟩ : (0 ≤ (σ 55 6).toInt ∧ (σ 55 6).toInt ≤ 4) ∧ (∀ k : Nat, k < 4 → 0 ≤ (σ 60 k).toInt ∧ (σ 60 k).toInt ≤ 50) ∧ (∀ k : Nat, k < 4 → 0 ≤ (σ 61 k).toInt ∧ (σ 61 k).toInt ≤ 20) := id hI102
  refine lv_iconst (v := 0) hx hb dX12_leastBut_0 (of_decide_eq_true rfl) ?_
  refine lv_istore_n (lv' := [(2, .int 0), (0, .ref (ad 55)), (1, .int a1)]) hx hb dX12_leastBut_1 rfl hl (of_decide_eq_true rfl) rfl (fun ls hl => ?_)
  have lp4 : ∀ (n5 : Nat) (x6 : Int32) (H : Heap) (locs : List Loc) (ls : Array Slot), (-x6.toInt + 4 : Int) < n5 → 0 ≤ x6.toInt → x6.toInt ≤ 4 → jH D cI cL ad σ τ H → va_S (jA ad) s.heap H locs → lv_has ls 3 [(2, .int x6), (0, .ref (ad 55)), (1, .int a1)] → W p l e ({ frames := 2, cells := 0, slots := 0, locals := 42 }) s m args below meth c H locs 0 0 Q (F0 m 2 ls []) := by
    intro n5
    induction n5 with
    | zero => intro x6 H locs ls h8 h9 h10; exact absurd h8 (by omega)
    | succ n5 ihlp4 =>
      intro x6 H locs ls h8 h9 h10 hP hS hl
      exact by
       refine lv_iload_n hx hb dX12_leastBut_2 rfl (lv_at hl 0 rfl) ?_
       refine lv_aload_n hx hb dX12_leastBut_3 rfl (lv_at hl 1 rfl) ?_
       refine va_get (D := D) hx hb hts inlX12 hown hK hP 55 (jc_55 cI cL ad σ τ) rfl 6 (of_decide_eq_true rfl) (hts _ kw_9_13) (fun _ h9 => h9) rfl dX12_leastBut_4 ?_
       refine lv_icmp_ge (tgt := 31) hx hb dX12_leastBut_7 (of_decide_eq_true rfl) (fun c12 => ?_) (fun c12 => ?_)
       · have kc12 := jle c12 rfl rfl
         refine lv_iconst (v := (-1)) hx hb dX12_leastBut_31 (of_decide_eq_true rfl) ?_
         exact hret (-1) σ τ _ _ _ _ rfl ⟨⟨rfl, rfl⟩, Or.inr (⟨rfl, trivial⟩)⟩ hP hS dX12_leastBut_32
       · have kc12 := jnle c12 rfl rfl
         refine lv_iload_n hx hb dX12_leastBut_10 rfl (lv_at hl 0 rfl) ?_
         refine lv_iload_n hx hb dX12_leastBut_11 rfl (lv_at hl 2 rfl) ?_
         refine lv_icmp_eq (tgt := 25) hx hb dX12_leastBut_12 (of_decide_eq_true rfl) (fun c13 => ?_) (fun c13 => ?_)
         · have kc13 := jeq c13 rfl t1
           obtain ⟨x14, ex14⟩ : ∃ y : Int32, y = x6 + 1 := ⟨_, rfl⟩
           exact by
            have tx14 : x14.toInt = x6.toInt + 1 := (jadd ex14 rfl jz_1 (by omega) (by omega)).trans (by omega)
            refine lv_iinc (v := x14) (lv' := [(2, .int x14), (0, .ref (ad 55)), (1, .int a1)]) hx hb dX12_leastBut_25 hl (k := 0) rfl (by rw [ex14]; rfl) (of_decide_eq_true rfl) rfl (fun ls hl => ?_)
            refine lv_goto (tgt := 2) hx hb dX12_leastBut_28 (of_decide_eq_true rfl) ?_
            exact by exact ihlp4 x14 _ _ ls (by have h90 := tx14; omega) (by have h90 := tx14; omega) (by have h90 := tx14; omega)    hP hS (lv_sub hl [0, 1, 2] rfl)
         · have kc13 := jne c13 rfl t1
           refine lv_aload_n hx hb dX12_leastBut_15 rfl (lv_at hl 1 rfl) ?_
           refine lv_iload_n hx hb dX12_leastBut_16 rfl (lv_at hl 0 rfl) ?_
           refine jcallV (As := [.int x6]) (rest := []) ⟨hx, hb, hml, hown, hts⟩ hK hP hA hS hZ (c_X12_mayBowl l D cI cL ad zz hJ σ τ x6 (x6.toInt) rfl (by omega)) cw_RX12_249 (jc_55 cI cL ad σ τ) rfl ⟨Nat.le_of_ble_eq_true rfl, Nat.le_of_ble_eq_true rfl⟩ rfl rfl rfl hl.1 rfl (Nat.le_of_ble_eq_true rfl) dX12_leastBut_17 ⟨Nat.zero_le _, Nat.zero_le _⟩ (fun r16 σ15 τ15 H locs h15 hP hS => ?_)
           obtain ⟨⟨rfl, rfl⟩, h15⟩ := h15
           exact by
            rcases h15 with h17 | h18
            · obtain ⟨q20, k19⟩ := h17
              have q20 := q20.symm
              subst q20
              refine lv_if_eq (tgt := 25) hx hb dX12_leastBut_20 (of_decide_eq_true rfl) (fun c => absurd c (of_decide_eq_true rfl)) (fun _ => ?_)
              refine lv_iload_n hx hb dX12_leastBut_23 rfl (lv_at hl 0 rfl) ?_
              exact by exact hret x6 σ τ _ _ _ _ rfl ⟨⟨rfl, rfl⟩, Or.inl ⟨trivial, (by omega), (by omega), (by omega), k19⟩⟩ hP hS dX12_leastBut_24
            · obtain ⟨q22, k21⟩ := h18
              have q22 := q22.symm
              subst q22
              refine lv_if_eq (tgt := 25) hx hb dX12_leastBut_20 (of_decide_eq_true rfl) (fun _ => ?_) (fun c => absurd (of_decide_eq_true rfl) c)
              obtain ⟨x23, ex23⟩ : ∃ y : Int32, y = x6 + 1 := ⟨_, rfl⟩
              exact by
               have tx23 : x23.toInt = x6.toInt + 1 := (jadd ex23 rfl jz_1 (by omega) (by omega)).trans (by omega)
               refine lv_iinc (v := x23) (lv' := [(2, .int x23), (0, .ref (ad 55)), (1, .int a1)]) hx hb dX12_leastBut_25 hl (k := 0) rfl (by rw [ex23]; rfl) (of_decide_eq_true rfl) rfl (fun ls hl => ?_)
               refine lv_goto (tgt := 2) hx hb dX12_leastBut_28 (of_decide_eq_true rfl) ?_
               exact by exact ihlp4 x23 _ _ ls (by have h90 := tx23; omega) (by have h90 := tx23; omega) (by have h90 := tx23; omega)    hP hS (lv_sub hl [0, 1, 2] rfl)
  exact by exact lp4 1000000 0 _ _ ls (by have h90 := jz_0; omega) (by have h90 := jz_0; omega) (by have h90 := jz_0; omega)   hP hS hl
set_option maxHeartbeats 4000000 in
set_option maxRecDepth 100000 in
theorem c_X12_leastBut_w (l : Launch) (D : va_G) (cI cL : ClassId) (ad zz : Nat → Nat) (hJ : jD ad) (σ : Nat → Nat → Int32) (τ : Nat → Nat → Int64) (B0 : Int32) (hB0 : jmb σ B0 = 1) (a1 : Int32) (A1 : Int) (t1 : a1.toInt = A1) (hI102 : jI102 σ) (hp0 : 0 ≤ B0.toInt ∧ B0.toInt < (σ 55 6).toInt) (hp1 : B0.toInt ≠ A1) : jM l yX12_leastBut cX12_leastBut 3 (some .int) ({ frames := 2, cells := 0, slots := 0, locals := 42 }) D cI cL ad zz [.ref (ad 55), .int a1] σ τ (fun r σ' τ' => (σ = σ' ∧ τ = τ') ∧ ((True ∧ (0 ≤ r.toInt ∧ r.toInt ≤ 3)))) := by
  refine jM.of hJ (by decide +kernel) (nt := .int) rfl (Nat.le_of_ble_eq_true rfl) ?_
  intro p e s m args below meth c Q ls hC hret hl hP
  obtain ⟨hx, hb, hr, hml, hown, hts, hK, -, hlocks, hZ⟩ := hC
  have hown : s.vm.findClass RX12 = some m.cls := hown
  have hS : va_S (jA ad) s.heap s.heap [] := va_S.rf
  have hA : ∀ q, jA ad q → jA ad q := fun _ h => h
  have hl : lv_has ls 3 [(0, .ref (ad 55)), (1, .int a1)] := hl
  have g1 := jrg t1
  obtain ⟨i1, w2, w3⟩ : (0 ≤ (σ 55 6).toInt ∧ (σ 55 6).toInt ≤ 4) ∧ (∀ k : Nat, k < 4 → 0 ≤ (σ 60 k).toInt ∧ (σ 60 k).toInt ≤ 50) ∧ (∀ k : Nat, k < 4 → 0 ≤ (σ 61 k).toInt ∧ (σ 61 k).toInt ≤ 20) := id hI102
  refine lv_iconst (v := 0) hx hb dX12_leastBut_0 (of_decide_eq_true rfl) ?_
  refine lv_istore_n (lv' := [(2, .int 0), (0, .ref (ad 55)), (1, .int a1)]) hx hb dX12_leastBut_1 rfl hl (of_decide_eq_true rfl) rfl (fun ls hl => ?_)
  have lp4 : ∀ (n5 : Nat) (x6 : Int32) (H : Heap) (locs : List Loc) (ls : Array Slot), (-x6.toInt + 4 : Int) < n5 → 0 ≤ x6.toInt → x6.toInt ≤ 4 → x6.toInt ≤ B0.toInt → jH D cI cL ad σ τ H → va_S (jA ad) s.heap H locs → lv_has ls 3 [(2, .int x6), (0, .ref (ad 55)), (1, .int a1)] → W p l e ({ frames := 2, cells := 0, slots := 0, locals := 42 }) s m args below meth c H locs 0 0 Q (F0 m 2 ls []) := by
    intro n5
    induction n5 with
    | zero => intro x6 H locs ls h8 h9 h10 h11; exact absurd h8 (by omega)
    | succ n5 ihlp4 =>
      intro x6 H locs ls h8 h9 h10 h11 hP hS hl
      exact by
       refine lv_iload_n hx hb dX12_leastBut_2 rfl (lv_at hl 0 rfl) ?_
       refine lv_aload_n hx hb dX12_leastBut_3 rfl (lv_at hl 1 rfl) ?_
       refine va_get (D := D) hx hb hts inlX12 hown hK hP 55 (jc_55 cI cL ad σ τ) rfl 6 (of_decide_eq_true rfl) (hts _ kw_9_13) (fun _ h9 => h9) rfl dX12_leastBut_4 ?_
       refine lv_icmp_ge (tgt := 31) hx hb dX12_leastBut_7 (of_decide_eq_true rfl) (fun c => absurd (jle c rfl rfl) (by omega)) (fun c13 => ?_)
       have kc13 := jnle c13 rfl rfl
       refine lv_iload_n hx hb dX12_leastBut_10 rfl (lv_at hl 0 rfl) ?_
       refine lv_iload_n hx hb dX12_leastBut_11 rfl (lv_at hl 2 rfl) ?_
       refine lv_icmp_eq (tgt := 25) hx hb dX12_leastBut_12 (of_decide_eq_true rfl) (fun c14 => ?_) (fun c14 => ?_)
       · have kc14 := jeq c14 rfl t1
         exact by
          obtain ⟨x15, ex15⟩ : ∃ y : Int32, y = x6 + 1 := ⟨_, rfl⟩
          have tx15 : x15.toInt = x6.toInt + 1 := (jadd ex15 rfl jz_1 (by omega) (by omega)).trans (by omega)
          refine lv_iinc (v := x15) (lv' := [(2, .int x15), (0, .ref (ad 55)), (1, .int a1)]) hx hb dX12_leastBut_25 hl (k := 0) rfl (by rw [ex15]; rfl) (of_decide_eq_true rfl) rfl (fun ls hl => ?_)
          refine lv_goto (tgt := 2) hx hb dX12_leastBut_28 (of_decide_eq_true rfl) ?_
          exact by exact ihlp4 x15 _ _ ls (by have h90 := tx15; omega) (by have h90 := tx15; omega) (by have h90 := tx15; omega) (by have h90 := tx15; omega)    hP hS (lv_sub hl [0, 1, 2] rfl)
       · have kc14 := jne c14 rfl t1
         refine lv_aload_n hx hb dX12_leastBut_15 rfl (lv_at hl 1 rfl) ?_
         refine lv_iload_n hx hb dX12_leastBut_16 rfl (lv_at hl 0 rfl) ?_
         refine jcallV (As := [.int x6]) (rest := []) ⟨hx, hb, hml, hown, hts⟩ hK hP hA hS hZ (c_X12_mayBowl l D cI cL ad zz hJ σ τ x6 (x6.toInt) rfl (by omega)) cw_RX12_249 (jc_55 cI cL ad σ τ) rfl ⟨Nat.le_of_ble_eq_true rfl, Nat.le_of_ble_eq_true rfl⟩ rfl rfl rfl hl.1 rfl (Nat.le_of_ble_eq_true rfl) dX12_leastBut_17 ⟨Nat.zero_le _, Nat.zero_le _⟩ (fun r17 σ16 τ16 H locs h16 hP hS => ?_)
         exact by
          obtain ⟨⟨rfl, rfl⟩, h16⟩ := h16
          rcases h16 with h18 | h19
          · obtain ⟨q21, k20⟩ := h18
            have q21 := q21.symm
            subst q21
            refine lv_if_eq (tgt := 25) hx hb dX12_leastBut_20 (of_decide_eq_true rfl) (fun c => absurd c (of_decide_eq_true rfl)) (fun _ => ?_)
            refine lv_iload_n hx hb dX12_leastBut_23 rfl (lv_at hl 0 rfl) ?_
            exact hret x6 σ τ _ _ _ _ rfl ⟨⟨rfl, rfl⟩, ⟨trivial, (by omega)⟩⟩ hP hS dX12_leastBut_24
          · obtain ⟨q23, k22⟩ := h19
            have q23 := q23.symm
            subst q23
            have e24 : jmb σ x6 = jmb σ x6 := (jmb_fr rfl rfl rfl rfl rfl x6)
            exact by
             have n25 : ¬ x6 = B0 := fun h => absurd ((hB0).symm.trans (by rw [← h]; exact e24.symm.trans k22) : (1 : Int32) = 0) (of_decide_eq_true rfl)
             have k26 := jne n25 rfl rfl
             refine lv_if_eq (tgt := 25) hx hb dX12_leastBut_20 (of_decide_eq_true rfl) (fun _ => ?_) (fun c => absurd (of_decide_eq_true rfl) c)
             obtain ⟨x27, ex27⟩ : ∃ y : Int32, y = x6 + 1 := ⟨_, rfl⟩
             have tx27 : x27.toInt = x6.toInt + 1 := (jadd ex27 rfl jz_1 (by omega) (by omega)).trans (by omega)
             refine lv_iinc (v := x27) (lv' := [(2, .int x27), (0, .ref (ad 55)), (1, .int a1)]) hx hb dX12_leastBut_25 hl (k := 0) rfl (by rw [ex27]; rfl) (of_decide_eq_true rfl) rfl (fun ls hl => ?_)
             refine lv_goto (tgt := 2) hx hb dX12_leastBut_28 (of_decide_eq_true rfl) ?_
             exact by exact ihlp4 x27 _ _ ls (by have h90 := tx27; omega) (by have h90 := tx27; omega) (by have h90 := tx27; omega) (by have h90 := tx27; omega)    hP hS (lv_sub hl [0, 1, 2] rfl)
  exact by exact lp4 1000000 0 _ _ ls (by have h90 := jz_0; omega) (by have h90 := jz_0; omega) (by have h90 := jz_0; omega) (by have h90 := jz_0; omega)   hP hS hl
set_option maxHeartbeats 4000000 in
set_option maxRecDepth 100000 in
theorem c_X12_turnOf (l : Launch) (D : va_G) (cI cL : ClassId) (ad zz : Nat → Nat) (hJ : jD ad) (σ : Nat → Nat → Int32) (τ : Nat → Nat → Int64) (B0 : Int32) (hB0 : jmb σ B0 = 1) (a1 : Int32) (A1 : Int) (t1 : a1.toInt = A1) (a2 : Int32) (A2 : Int) (t2 : a2.toInt = A2) (hI102 : jI102 σ) (hI106 : jI106 σ) (hp0 : 0 ≤ B0.toInt ∧ B0.toInt < (σ 55 6).toInt) (hp1 : 0 ≤ A1 ∧ A1 ≤ 19) (hp2 : 0 ≤ (σ 55 26).toInt) (hp3 : B0.toInt ≠ A2) : jM l yX12_turnOf cX12_turnOf 4 (some .int) ({ frames := 3, cells := 0, slots := 0, locals := 64 }) D cI cL ad zz [.ref (ad 55), .int a1, .int a2] σ τ (fun r σ' τ' => (σ = σ' ∧ τ = τ') ∧ ((True ∧ (0 ≤ r.toInt ∧ r.toInt ≤ 3)))) := by
  refine jM.of hJ (by decide +kernel) (nt := .int) rfl (Nat.le_of_ble_eq_true rfl) ?_
  intro p e s m args below meth c Q ls hC hret hl hP
  obtain ⟨hx, hb, hr, hml, hown, hts, hK, -, hlocks, hZ⟩ := hC
  have hown : s.vm.findClass RX12 = some m.cls := hown
  have hS : va_S (jA ad) s.heap s.heap [] := va_S.rf
  have hA : ∀ q, jA ad q → jA ad q := fun _ h => h
  have hl : lv_has ls 4 [(0, .ref (ad 55)), (1, .int a1), (2, .int a2)] := hl
  have g1 := jrg t1
  have g2 := jrg t2
  obtain ⟨i1, w2, w3⟩ : (0 ≤ (σ 55 6).toInt ∧ (σ 55 6).toInt ≤ 4) ∧ (∀ k : Nat, k < 4 → 0 ≤ (σ 60 k).toInt ∧ (σ 60 k).toInt ≤ 50) ∧ (∀ k : Nat, k < 4 → 0 ≤ (σ 61 k).toInt ∧ (σ 61 k).toInt ≤ 20) := id hI102
  obtain ⟨i4, w5, w6, w7⟩ : (0 ≤ (σ 55 32).toInt ∧ (σ 55 32).toInt ≤ 20) ∧ (∀ k : Nat, k < 20 → 0 ≤ (σ 70 k).toInt ∧ (σ 70 k).toInt ≤ 6) ∧ (∀ k : Nat, k < 20 → 0 ≤ (σ 71 k).toInt ∧ (σ 71 k).toInt ≤ 8) ∧ (∀ k : Nat, k < 160 → 0 ≤ (σ 72 k).toInt ∧ (σ 72 k).toInt ≤ 3) := id hI106
  refine lv_aload_n hx hb dX12_turnOf_0 rfl (lv_at hl 0 rfl) ?_
  refine va_get (D := D) hx hb hts inlX12 hown hK hP 55 (jc_55 cI cL ad σ τ) rfl 34 (of_decide_eq_true rfl) (hts _ kw_7_19) (fun _ h9 => h9) rfl dX12_turnOf_1 ?_
  refine lv_iload_n hx hb dX12_turnOf_4 rfl (lv_at hl 1 rfl) ?_
  exact by
   refine jald hx hb hK hP (jc_71 cI cL ad σ τ) (jin t1 (by omega) (by omega)) dX12_turnOf_5 ?_
   have g8 := w6 _ (jnat (x := a1) t1 (n := 20) (by omega) (of_decide_eq_true rfl))
   refine jtopr (y := (σ 71 a1.toNatClampNeg)) rfl ?_
   refine lv_if_ne (tgt := 15) hx hb dX12_turnOf_6 (of_decide_eq_true rfl) (fun c9 => ?_) (fun c9 => ?_)
   · have kc9 := jne c9 rfl jz_0
     refine lv_aload_n hx hb dX12_turnOf_15 rfl (lv_at hl 0 rfl) ?_
     refine va_get (D := D) hx hb hts inlX12 hown hK hP 55 (jc_55 cI cL ad σ τ) rfl 35 (of_decide_eq_true rfl) (hts _ kw_7_20) (fun _ h9 => h9) rfl dX12_turnOf_16 ?_
     refine lv_bipush (v := 8) hx hb dX12_turnOf_19 (of_decide_eq_true rfl) ?_
     refine lv_iload_n hx hb dX12_turnOf_21 rfl (lv_at hl 1 rfl) ?_
     exact by
      refine lv_imul hx hb dX12_turnOf_22 ?_
      refine lv_topi (fun x10 ex10 => ?_)
      have tx10 : x10.toInt = 8 * A1 := (jmul ex10 jz_8 t1 (by omega) (by omega)).trans (by omega)
      refine lv_aload_n hx hb dX12_turnOf_23 rfl (lv_at hl 0 rfl) ?_
      refine va_get (D := D) hx hb hts inlX12 hown hK hP 55 (jc_55 cI cL ad σ τ) rfl 26 (of_decide_eq_true rfl) (hts _ kw_23_5) (fun _ h9 => h9) rfl dX12_turnOf_24 ?_
      refine lv_aload_n hx hb dX12_turnOf_27 rfl (lv_at hl 0 rfl) ?_
      refine va_get (D := D) hx hb hts inlX12 hown hK hP 55 (jc_55 cI cL ad σ τ) rfl 34 (of_decide_eq_true rfl) (hts _ kw_7_19) (fun _ h9 => h9) rfl dX12_turnOf_28 ?_
      refine lv_iload_n hx hb dX12_turnOf_31 rfl (lv_at hl 1 rfl) ?_
      refine jald hx hb hK hP (jc_71 cI cL ad σ τ) (jin t1 (by omega) (by omega)) dX12_turnOf_32 ?_
      exact by
       have g11 := w6 _ (jnat (x := a1) t1 (n := 20) (by omega) (of_decide_eq_true rfl))
       refine jtopr (y := (σ 71 a1.toNatClampNeg)) rfl ?_
       refine lv_irem hx hb dX12_turnOf_33 (fun h => absurd (jeq h rfl jz_0) (by omega)) ?_
       have g12 := jremv (a := (σ 55 26)) (b := (σ 71 a1.toNatClampNeg)) rfl rfl (by omega) (by omega)
       refine lv_topi (fun x13 ex13 => ?_)
       have tx13 : x13.toInt = (((σ 55 26).toInt) % ((σ 71 a1.toNatClampNeg).toInt)) := jrem ex13 rfl rfl (by omega)
       refine lv_iadd hx hb dX12_turnOf_34 ?_
       refine lv_topi (fun x14 ex14 => ?_)
       have tx14 : x14.toInt = 8 * A1 + (((σ 55 26).toInt) % ((σ 71 a1.toNatClampNeg).toInt)) := (jadd ex14 tx10 tx13 (by omega) (by omega)).trans (by omega)
       exact by
        refine jald hx hb hK hP (jc_72 cI cL ad σ τ) (jin tx14 (by omega) (by omega)) dX12_turnOf_35 ?_
        have g15 := w7 _ (jnat (x := x14) tx14 (n := 160) (by omega) (of_decide_eq_true rfl))
        refine jtopr (y := (σ 72 x14.toNatClampNeg)) rfl ?_
        refine lv_istore_n (lv' := [(3, .int (σ 72 x14.toNatClampNeg)), (0, .ref (ad 55)), (1, .int a1), (2, .int a2)]) hx hb dX12_turnOf_36 rfl hl (of_decide_eq_true rfl) rfl (fun ls hl => ?_)
        refine lv_iload_n hx hb dX12_turnOf_37 rfl (lv_at hl 0 rfl) ?_
        refine lv_aload_n hx hb dX12_turnOf_38 rfl (lv_at hl 1 rfl) ?_
        refine va_get (D := D) hx hb hts inlX12 hown hK hP 55 (jc_55 cI cL ad σ τ) rfl 6 (of_decide_eq_true rfl) (hts _ kw_9_13) (fun _ h9 => h9) rfl dX12_turnOf_39 ?_
        refine lv_icmp_ge (tgt := 62) hx hb dX12_turnOf_42 (of_decide_eq_true rfl) (fun c16 => ?_) (fun c16 => ?_)
        · have kc16 := jle c16 rfl rfl
          exact by
           refine lv_aload_n hx hb dX12_turnOf_62 rfl (lv_at hl 1 rfl) ?_
           refine lv_iload_n hx hb dX12_turnOf_63 rfl (lv_at hl 3 rfl) ?_
           have p17 : jmb σ B0 = 1 := (jmb_fr rfl rfl rfl rfl rfl B0).trans hB0
           refine jcallV (As := [.int a2]) (rest := []) ⟨hx, hb, hml, hown, hts⟩ hK hP hA hS hZ (c_X12_leastBut_w l D cI cL ad zz hJ σ τ B0 p17 a2 (A2) t2 hI102 (by omega) (by omega)) cw_RX12_274 (jc_55 cI cL ad σ τ) rfl ⟨Nat.le_of_ble_eq_true rfl, Nat.le_of_ble_eq_true rfl⟩ rfl rfl rfl hl.1 rfl (Nat.le_of_ble_eq_true rfl) dX12_turnOf_64 ⟨Nat.zero_le _, Nat.zero_le _⟩ (fun r19 σ18 τ18 H locs h18 hP hS => ?_)
           obtain ⟨⟨rfl, rfl⟩, h18⟩ := h18
           have h20 := h18
           obtain ⟨q22, k21⟩ := h20
           exact hret r19 σ τ _ _ _ _ rfl ⟨⟨rfl, rfl⟩, ⟨trivial, (by omega)⟩⟩ hP hS dX12_turnOf_67
        · have kc16 := jnle c16 rfl rfl
          exact by
           refine lv_iload_n hx hb dX12_turnOf_45 rfl (lv_at hl 0 rfl) ?_
           refine lv_iload_n hx hb dX12_turnOf_46 rfl (lv_at hl 3 rfl) ?_
           refine lv_icmp_eq (tgt := 62) hx hb dX12_turnOf_47 (of_decide_eq_true rfl) (fun c23 => ?_) (fun c23 => ?_)
           · have kc23 := jeq c23 rfl t2
             refine lv_aload_n hx hb dX12_turnOf_62 rfl (lv_at hl 1 rfl) ?_
             refine lv_iload_n hx hb dX12_turnOf_63 rfl (lv_at hl 3 rfl) ?_
             have p24 : jmb σ B0 = 1 := (jmb_fr rfl rfl rfl rfl rfl B0).trans hB0
             refine jcallV (As := [.int a2]) (rest := []) ⟨hx, hb, hml, hown, hts⟩ hK hP hA hS hZ (c_X12_leastBut_w l D cI cL ad zz hJ σ τ B0 p24 a2 (A2) t2 hI102 (by omega) (by omega)) cw_RX12_274 (jc_55 cI cL ad σ τ) rfl ⟨Nat.le_of_ble_eq_true rfl, Nat.le_of_ble_eq_true rfl⟩ rfl rfl rfl hl.1 rfl (Nat.le_of_ble_eq_true rfl) dX12_turnOf_64 ⟨Nat.zero_le _, Nat.zero_le _⟩ (fun r26 σ25 τ25 H locs h25 hP hS => ?_)
             obtain ⟨⟨rfl, rfl⟩, h25⟩ := h25
             exact by
              have h27 := h25
              obtain ⟨q29, k28⟩ := h27
              exact hret r26 σ τ _ _ _ _ rfl ⟨⟨rfl, rfl⟩, ⟨trivial, (by omega)⟩⟩ hP hS dX12_turnOf_67
           · have kc23 := jne c23 rfl t2
             refine lv_aload_n hx hb dX12_turnOf_50 rfl (lv_at hl 1 rfl) ?_
             refine lv_iload_n hx hb dX12_turnOf_51 rfl (lv_at hl 0 rfl) ?_
             refine jcallV (As := [.int (σ 72 x14.toNatClampNeg)]) (rest := []) ⟨hx, hb, hml, hown, hts⟩ hK hP hA hS hZ (c_X12_mayBowl l D cI cL ad zz hJ σ τ (σ 72 x14.toNatClampNeg) ((σ 72 x14.toNatClampNeg).toInt) rfl (by omega)) cw_RX12_249 (jc_55 cI cL ad σ τ) rfl ⟨Nat.le_of_ble_eq_true rfl, Nat.le_of_ble_eq_true rfl⟩ rfl rfl rfl hl.1 rfl (Nat.le_of_ble_eq_true rfl) dX12_turnOf_52 ⟨Nat.zero_le _, Nat.zero_le _⟩ (fun r31 σ30 τ30 H locs h30 hP hS => ?_)
             obtain ⟨⟨rfl, rfl⟩, h30⟩ := h30
             rcases h30 with h32 | h33
             · exact by
                obtain ⟨q35, k34⟩ := h32
                have q35 := q35.symm
                subst q35
                refine lv_if_eq (tgt := 62) hx hb dX12_turnOf_55 (of_decide_eq_true rfl) (fun c => absurd c (of_decide_eq_true rfl)) (fun _ => ?_)
                refine lv_iload_n hx hb dX12_turnOf_58 rfl (lv_at hl 0 rfl) ?_
                refine lv_goto (tgt := 67) hx hb dX12_turnOf_59 (of_decide_eq_true rfl) ?_
                exact hret (σ 72 x14.toNatClampNeg) σ τ _ _ _ _ rfl ⟨⟨rfl, rfl⟩, ⟨trivial, (by omega)⟩⟩ hP hS dX12_turnOf_67
             · obtain ⟨q37, k36⟩ := h33
               have q37 := q37.symm
               subst q37
               have e38 : jmb σ (σ 72 x14.toNatClampNeg) = jmb σ (σ 72 x14.toNatClampNeg) := (jmb_fr rfl rfl rfl rfl rfl (σ 72 x14.toNatClampNeg))
               exact by
                have n39 : ¬ (σ 72 x14.toNatClampNeg) = B0 := fun h => absurd ((hB0).symm.trans (by rw [← h]; exact e38.symm.trans k36) : (1 : Int32) = 0) (of_decide_eq_true rfl)
                have k40 := jne n39 rfl rfl
                refine lv_if_eq (tgt := 62) hx hb dX12_turnOf_55 (of_decide_eq_true rfl) (fun _ => ?_) (fun c => absurd (of_decide_eq_true rfl) c)
                refine lv_aload_n hx hb dX12_turnOf_62 rfl (lv_at hl 1 rfl) ?_
                refine lv_iload_n hx hb dX12_turnOf_63 rfl (lv_at hl 3 rfl) ?_
                have p41 : jmb σ B0 = 1 := (jmb_fr rfl rfl rfl rfl rfl B0).trans hB0
                refine jcallV (As := [.int a2]) (rest := []) ⟨hx, hb, hml, hown, hts⟩ hK hP hA hS hZ (c_X12_leastBut_w l D cI cL ad zz hJ σ τ B0 p41 a2 (A2) t2 hI102 (by omega) (by omega)) cw_RX12_274 (jc_55 cI cL ad σ τ) rfl ⟨Nat.le_of_ble_eq_true rfl, Nat.le_of_ble_eq_true rfl⟩ rfl rfl rfl hl.1 rfl (Nat.le_of_ble_eq_true rfl) dX12_turnOf_64 ⟨Nat.zero_le _, Nat.zero_le _⟩ (fun r43 σ42 τ42 H locs h42 hP hS => ?_)
                obtain ⟨⟨rfl, rfl⟩, h42⟩ := h42
                have h44 := h42
                exact by
                 obtain ⟨q46, k45⟩ := h44
                 exact hret r43 σ τ _ _ _ _ rfl ⟨⟨rfl, rfl⟩, ⟨trivial, (by omega)⟩⟩ hP hS dX12_turnOf_67
   · have kc9 := jeq c9 rfl jz_0
     refine lv_aload_n hx hb dX12_turnOf_9 rfl (lv_at hl 0 rfl) ?_
     refine lv_iload_n hx hb dX12_turnOf_10 rfl (lv_at hl 2 rfl) ?_
     have p47 : jmb σ B0 = 1 := (jmb_fr rfl rfl rfl rfl rfl B0).trans hB0
     refine jcallV (As := [.int a2]) (rest := []) ⟨hx, hb, hml, hown, hts⟩ hK hP hA hS hZ (c_X12_leastBut_w l D cI cL ad zz hJ σ τ B0 p47 a2 (A2) t2 hI102 (by omega) (by omega)) cw_RX12_274 (jc_55 cI cL ad σ τ) rfl ⟨Nat.le_of_ble_eq_true rfl, Nat.le_of_ble_eq_true rfl⟩ rfl rfl rfl hl.1 rfl (Nat.le_of_ble_eq_true rfl) dX12_turnOf_11 ⟨Nat.zero_le _, Nat.zero_le _⟩ (fun r49 σ48 τ48 H locs h48 hP hS => ?_)
     obtain ⟨⟨rfl, rfl⟩, h48⟩ := h48
     have h50 := h48
     exact by
      obtain ⟨q52, k51⟩ := h50
      exact hret r49 σ τ _ _ _ _ rfl ⟨⟨rfl, rfl⟩, ⟨trivial, (by omega)⟩⟩ hP hS dX12_turnOf_14
set_option maxHeartbeats 4000000 in
set_option maxRecDepth 100000 in
theorem c_X12_textGives_0 (l : Launch) (D : va_G) (cI cL : ClassId) (ad zz : Nat → Nat) (hJ : jD ad) (σ : Nat → Nat → Int32) (τ : Nat → Nat → Int64) (a2 : Int32) (A2 : Int) (t2 : a2.toInt = A2) (a3 : Int32) (A3 : Int) (t3 : a3.toInt = A3) (a4 : Int32) (A4 : Int) (t4 : a4.toInt = A4) (a5 : Int32) (A5 : Int) (t5 : a5.toInt = A5) (hI105 : jI105 σ) (hs_jTR : jTR σ) (hp0 : 0 ≤ A2 ∧ A2 ≤ 3) (hp1 : 0 ≤ (σ 65 0).toInt) : jM l yX12_textGives cX12_textGives 6 (some .int) ({ frames := 65, cells := 0, slots := 0, locals := 2809 }) D cI cL ad zz [.ref (ad 55), .int 0, .int a2, .int a3, .int a4, .int a5] σ τ (fun r σ' τ' => τ = τ' ∧ (∀ i : Nat, (i < 55 ∨ 55 < i) ∧ (i < 66 ∨ 66 < i) → σ' i = σ i) ∧ (∀ k : Nat, (k < 18 ∨ 18 < k) ∧ (k < 19 ∨ 19 < k) ∧ (k < 20 ∨ 20 < k) ∧ (k < 21 ∨ 21 < k) ∧ (k < 22 ∨ 22 < k) → σ' 55 k = σ 55 k) ∧ (jTR σ') ∧ (r = jGr (fun k : Nat => σ 64 (80 * 0 + k)) (σ 65 0).toInt (jN8 (σ 55 26) (σ 55 25) a3 a2 (σ 68 (A2).toNat) (jleft σ a2) a4 a5)) ∧ True) := by
  refine jM.of hJ (by decide +kernel) (nt := .int) rfl (Nat.le_of_ble_eq_true rfl) ?_
  intro p e s m args below meth c Q ls hC hret hl hP
  obtain ⟨hx, hb, hr, hml, hown, hts, hK, -, hlocks, hZ⟩ := hC
  have hown : s.vm.findClass RX12 = some m.cls := hown
  have hS : va_S (jA ad) s.heap s.heap [] := va_S.rf
  have hA : ∀ q, jA ad q → jA ad q := fun _ h => h
  have hl : lv_has ls 6 [(0, .ref (ad 55)), (1, .int 0), (2, .int a2), (3, .int a3), (4, .int a4), (5, .int a5)] := hl
  have g2 := jrg t2
  have g3 := jrg t3
  have g4 := jrg t4
  have g5 := jrg t5
  obtain ⟨i1, w2⟩ : (0 ≤ (σ 55 15).toInt ∧ (σ 55 15).toInt ≤ 80) ∧ (∀ k : Nat, k < 2 → (-1) ≤ (σ 65 k).toInt ∧ (σ 65 k).toInt ≤ 80) := id hI105
  refine lv_aload_n hx hb dX12_textGives_0 rfl (lv_at hl 0 rfl) ?_
  refine va_get (D := D) hx hb hts inlX12 hown hK hP 55 (jc_55 cI cL ad σ τ) rfl 23 (of_decide_eq_true rfl) (hts _ kw_7_12) (fun _ h9 => h9) rfl dX12_textGives_1 ?_
  refine lv_iconst (v := 0) hx hb dX12_textGives_4 (of_decide_eq_true rfl) ?_
  refine lv_aload_n hx hb dX12_textGives_5 rfl (lv_at hl 0 rfl) ?_
  refine va_get (D := D) hx hb hts inlX12 hown hK hP 55 (jc_55 cI cL ad σ τ) rfl 26 (of_decide_eq_true rfl) (hts _ kw_23_5) (fun _ h9 => h9) rfl dX12_textGives_6 ?_
  exact by
   refine jast hx hb hK hP hJ hA hS (jc_66 cI cL ad σ τ) (ja_66 cI cL ad σ τ _ _) (jin jz_0 (by omega) (by omega)) dX12_textGives_9 (fun σ3 H locs eσ3 hP hS => ?_)
   have eσ3 : σ3 = jup σ 66 0 (σ 55 26) := eσ3
   refine lv_aload_n hx hb dX12_textGives_10 rfl (lv_at hl 0 rfl) ?_
   refine va_get (D := D) hx hb hts inlX12 hown hK hP 55 (jc_55 cI cL ad σ3 τ) rfl 23 (of_decide_eq_true rfl) (hts _ kw_7_12) (fun _ h9 => h9) rfl dX12_textGives_11 ?_
   refine lv_iconst (v := 1) hx hb dX12_textGives_14 (of_decide_eq_true rfl) ?_
   refine lv_aload_n hx hb dX12_textGives_15 rfl (lv_at hl 0 rfl) ?_
   refine va_get (D := D) hx hb hts inlX12 hown hK hP 55 (jc_55 cI cL ad σ3 τ) rfl 25 (of_decide_eq_true rfl) (hts _ kw_23_6) (fun _ h9 => h9) rfl dX12_textGives_16 ?_
   have m4 : σ3 55 25 = (σ 55 25) := (congrFun (jnp 55 eσ3 (of_decide_eq_true rfl)) 25)
   refine jtopr m4 ?_
   exact by
    refine jast hx hb hK hP hJ hA hS (jc_66 cI cL ad σ3 τ) (ja_66 cI cL ad σ3 τ _ _) (jin jz_1 (by omega) (by omega)) dX12_textGives_19 (fun σ5 H locs eσ5 hP hS => ?_)
    have eσ5 : σ5 = jup σ3 66 1 (σ 55 25) := eσ5
    refine lv_aload_n hx hb dX12_textGives_20 rfl (lv_at hl 0 rfl) ?_
    refine va_get (D := D) hx hb hts inlX12 hown hK hP 55 (jc_55 cI cL ad σ5 τ) rfl 23 (of_decide_eq_true rfl) (hts _ kw_7_12) (fun _ h9 => h9) rfl dX12_textGives_21 ?_
    refine lv_iconst (v := 2) hx hb dX12_textGives_24 (of_decide_eq_true rfl) ?_
    refine lv_iload_n hx hb dX12_textGives_25 rfl (lv_at hl 3 rfl) ?_
    refine jast hx hb hK hP hJ hA hS (jc_66 cI cL ad σ5 τ) (ja_66 cI cL ad σ5 τ _ _) (jin jz_2 (by omega) (by omega)) dX12_textGives_26 (fun σ6 H locs eσ6 hP hS => ?_)
    have eσ6 : σ6 = jup σ5 66 2 a3 := eσ6
    refine lv_aload_n hx hb dX12_textGives_27 rfl (lv_at hl 0 rfl) ?_
    exact by
     refine va_get (D := D) hx hb hts inlX12 hown hK hP 55 (jc_55 cI cL ad σ6 τ) rfl 23 (of_decide_eq_true rfl) (hts _ kw_7_12) (fun _ h9 => h9) rfl dX12_textGives_28 ?_
     refine lv_iconst (v := 3) hx hb dX12_textGives_31 (of_decide_eq_true rfl) ?_
     refine lv_iload_n hx hb dX12_textGives_32 rfl (lv_at hl 2 rfl) ?_
     refine jast hx hb hK hP hJ hA hS (jc_66 cI cL ad σ6 τ) (ja_66 cI cL ad σ6 τ _ _) (jin jz_3 (by omega) (by omega)) dX12_textGives_33 (fun σ7 H locs eσ7 hP hS => ?_)
     have eσ7 : σ7 = jup σ6 66 3 a2 := eσ7
     refine lv_aload_n hx hb dX12_textGives_34 rfl (lv_at hl 0 rfl) ?_
     refine va_get (D := D) hx hb hts inlX12 hown hK hP 55 (jc_55 cI cL ad σ7 τ) rfl 23 (of_decide_eq_true rfl) (hts _ kw_7_12) (fun _ h9 => h9) rfl dX12_textGives_35 ?_
     refine lv_iconst (v := 4) hx hb dX12_textGives_38 (of_decide_eq_true rfl) ?_
     refine lv_aload_n hx hb dX12_textGives_39 rfl (lv_at hl 0 rfl) ?_
     exact by
      refine va_get (D := D) hx hb hts inlX12 hown hK hP 55 (jc_55 cI cL ad σ7 τ) rfl 28 (of_decide_eq_true rfl) (hts _ kw_7_14) (fun _ h9 => h9) rfl dX12_textGives_40 ?_
      refine lv_iload_n hx hb dX12_textGives_43 rfl (lv_at hl 2 rfl) ?_
      refine jald hx hb hK hP (jc_68 cI cL ad σ7 τ) (jin t2 (by omega) (by omega)) dX12_textGives_44 ?_
      refine jtopr (y := (σ 68 a2.toNatClampNeg)) (by rw [jnp 68 eσ7 (of_decide_eq_true rfl), jnp 68 eσ6 (of_decide_eq_true rfl), jnp 68 eσ5 (of_decide_eq_true rfl), jnp 68 eσ3 (of_decide_eq_true rfl)]) ?_
      refine jast hx hb hK hP hJ hA hS (jc_66 cI cL ad σ7 τ) (ja_66 cI cL ad σ7 τ _ _) (jin jz_4 (by omega) (by omega)) dX12_textGives_45 (fun σ8 H locs eσ8 hP hS => ?_)
      have eσ8 : σ8 = jup σ7 66 4 (σ 68 a2.toNatClampNeg) := eσ8
      refine lv_aload_n hx hb dX12_textGives_46 rfl (lv_at hl 0 rfl) ?_
      refine va_get (D := D) hx hb hts inlX12 hown hK hP 55 (jc_55 cI cL ad σ8 τ) rfl 23 (of_decide_eq_true rfl) (hts _ kw_7_12) (fun _ h9 => h9) rfl dX12_textGives_47 ?_
      refine lv_iconst (v := 5) hx hb dX12_textGives_50 (of_decide_eq_true rfl) ?_
      exact by
       refine lv_aload_n hx hb dX12_textGives_51 rfl (lv_at hl 0 rfl) ?_
       refine lv_iload_n hx hb dX12_textGives_52 rfl (lv_at hl 2 rfl) ?_
       refine jcallV (As := [.int a2]) (rest := [.int 5, .ref (ad 66)]) ⟨hx, hb, hml, hown, hts⟩ hK hP hA hS hZ (c_X12_leftOf l D cI cL ad zz hJ σ8 τ a2 (A2) t2 (by omega)) cw_RX12_246 (jc_55 cI cL ad σ8 τ) rfl ⟨Nat.le_of_ble_eq_true rfl, Nat.le_of_ble_eq_true rfl⟩ rfl rfl rfl hl.1 rfl (Nat.le_of_ble_eq_true rfl) dX12_textGives_53 ⟨Nat.zero_le _, Nat.zero_le _⟩ (fun r10 σ9 τ9 H locs h9 hP hS => ?_)
       obtain ⟨⟨rfl, rfl⟩, h9⟩ := h9
       have h11 := h9
       obtain ⟨q13, k12⟩ := h11
       have q13 := q13.symm
       subst q13
       refine jast hx hb hK hP hJ hA hS (jc_66 cI cL ad σ8 τ) (ja_66 cI cL ad σ8 τ _ _) (jin jz_5 (by omega) (by omega)) dX12_textGives_56 (fun σ14 H locs eσ14 hP hS => ?_)
       exact by
        have eσ14 : σ14 = jup σ8 66 5 (jleft σ8 a2) := eσ14
        refine lv_aload_n hx hb dX12_textGives_57 rfl (lv_at hl 0 rfl) ?_
        refine va_get (D := D) hx hb hts inlX12 hown hK hP 55 (jc_55 cI cL ad σ14 τ) rfl 23 (of_decide_eq_true rfl) (hts _ kw_7_12) (fun _ h9 => h9) rfl dX12_textGives_58 ?_
        refine lv_bipush (v := 6) hx hb dX12_textGives_61 (of_decide_eq_true rfl) ?_
        refine lv_iload hx hb dX12_textGives_63 (lv_at hl 4 rfl) ?_
        refine jast hx hb hK hP hJ hA hS (jc_66 cI cL ad σ14 τ) (ja_66 cI cL ad σ14 τ _ _) (jin jz_6 (by omega) (by omega)) dX12_textGives_65 (fun σ15 H locs eσ15 hP hS => ?_)
        have eσ15 : σ15 = jup σ14 66 6 a4 := eσ15
        refine lv_aload_n hx hb dX12_textGives_66 rfl (lv_at hl 0 rfl) ?_
        refine va_get (D := D) hx hb hts inlX12 hown hK hP 55 (jc_55 cI cL ad σ15 τ) rfl 23 (of_decide_eq_true rfl) (hts _ kw_7_12) (fun _ h9 => h9) rfl dX12_textGives_67 ?_
        exact by
         refine lv_bipush (v := 7) hx hb dX12_textGives_70 (of_decide_eq_true rfl) ?_
         refine lv_iload hx hb dX12_textGives_72 (lv_at hl 5 rfl) ?_
         refine jast hx hb hK hP hJ hA hS (jc_66 cI cL ad σ15 τ) (ja_66 cI cL ad σ15 τ _ _) (jin jz_7 (by omega) (by omega)) dX12_textGives_74 (fun σ16 H locs eσ16 hP hS => ?_)
         have eσ16 : σ16 = jup σ15 66 7 a5 := eσ16
         refine lv_aload_n hx hb dX12_textGives_75 rfl (lv_at hl 0 rfl) ?_
         refine lv_bipush (v := 80) hx hb dX12_textGives_76 (of_decide_eq_true rfl) ?_
         refine lv_iload_n hx hb dX12_textGives_78 rfl (lv_at hl 1 rfl) ?_
         refine lv_imul hx hb dX12_textGives_79 ?_
         refine jtopr (y := 0) (of_decide_eq_true rfl) ?_
         exact by
          refine lv_aload_n hx hb dX12_textGives_80 rfl (lv_at hl 0 rfl) ?_
          refine va_get (D := D) hx hb hts inlX12 hown hK hP 55 (jc_55 cI cL ad σ16 τ) rfl 17 (of_decide_eq_true rfl) (hts _ kw_7_11) (fun _ h9 => h9) rfl dX12_textGives_81 ?_
          refine lv_iload_n hx hb dX12_textGives_84 rfl (lv_at hl 1 rfl) ?_
          refine jald hx hb hK hP (jc_65 cI cL ad σ16 τ) (jin jz_0 (by omega) (by omega)) dX12_textGives_85 ?_
          refine jtopr (y := σ16 65 0) rfl ?_
          have m17 : σ16 65 0 = (σ 65 0) := ((congrFun (jnp 65 eσ16 (of_decide_eq_true rfl)) 0).trans ((congrFun (jnp 65 eσ15 (of_decide_eq_true rfl)) 0).trans ((congrFun (jnp 65 eσ14 (of_decide_eq_true rfl)) 0).trans ((congrFun (jnp 65 eσ8 (of_decide_eq_true rfl)) 0).trans ((congrFun (jnp 65 eσ7 (of_decide_eq_true rfl)) 0).trans ((congrFun (jnp 65 eσ6 (of_decide_eq_true rfl)) 0).trans ((congrFun (jnp 65 eσ5 (of_decide_eq_true rfl)) 0).trans (congrFun (jnp 65 eσ3 (of_decide_eq_true rfl)) 0))))))))
          refine jtopr m17 ?_
          have w18 : ∀ k : Nat, k < 2 → (-1) ≤ (σ16 65 k).toInt ∧ (σ16 65 k).toInt ≤ 80 := (jrr_fr (jnp 65 eσ16 (of_decide_eq_true rfl)) (jrr_fr (jnp 65 eσ15 (of_decide_eq_true rfl)) (jrr_fr (jnp 65 eσ14 (of_decide_eq_true rfl)) (jrr_fr (jnp 65 eσ8 (of_decide_eq_true rfl)) (jrr_fr (jnp 65 eσ7 (of_decide_eq_true rfl)) (jrr_fr (jnp 65 eσ6 (of_decide_eq_true rfl)) (jrr_fr (jnp 65 eσ5 (of_decide_eq_true rfl)) (jrr_fr (jnp 65 eσ3 (of_decide_eq_true rfl)) w2))))))))
          have g19 := w18 0 (of_decide_eq_true rfl)
          rw [m17] at g19
          exact by
           refine jcallV (As := [.int 0, .int (σ 65 0)]) (rest := []) ⟨hx, hb, hml, hown, hts⟩ hK hP hA hS hZ (c_X12_workOut l D cI cL ad zz hJ σ16 τ 0 (0) jz_0 (σ 65 0) ((σ 65 0).toInt) rfl (by omega) (by omega)) cw_RX12_224 (jc_55 cI cL ad σ16 τ) rfl ⟨Nat.le_of_ble_eq_true rfl, Nat.le_of_ble_eq_true rfl⟩ rfl rfl rfl hl.1 rfl (Nat.le_of_ble_eq_true rfl) dX12_textGives_86 ⟨Nat.zero_le _, Nat.zero_le _⟩ (fun r21 σ20 τ20 H locs h20 hP hS => ?_)
           obtain ⟨rfl, f22, f23, I24, w25, h20⟩ := h20
           obtain ⟨i27, i28, i29, i30, i31⟩ : ((-1) ≤ (σ20 55 18).toInt ∧ (σ20 55 18).toInt ≤ 80) ∧ (0 ≤ (σ20 55 19).toInt) ∧ ((σ20 55 19).toInt ≤ (σ20 55 20).toInt) ∧ ((σ20 55 20).toInt ≤ 80) ∧ ((-1) ≤ (σ20 55 21).toInt ∧ (σ20 55 21).toInt ≤ 80) := id I24
           rw [show σ16 63 = σ 63 from ((jnp 63 eσ16 (of_decide_eq_true rfl)).trans ((jnp 63 eσ15 (of_decide_eq_true rfl)).trans ((jnp 63 eσ14 (of_decide_eq_true rfl)).trans ((jnp 63 eσ8 (of_decide_eq_true rfl)).trans ((jnp 63 eσ7 (of_decide_eq_true rfl)).trans ((jnp 63 eσ6 (of_decide_eq_true rfl)).trans ((jnp 63 eσ5 (of_decide_eq_true rfl)).trans (jnp 63 eσ3 (of_decide_eq_true rfl))))))))), show σ16 64 = σ 64 from ((jnp 64 eσ16 (of_decide_eq_true rfl)).trans ((jnp 64 eσ15 (of_decide_eq_true rfl)).trans ((jnp 64 eσ14 (of_decide_eq_true rfl)).trans ((jnp 64 eσ8 (of_decide_eq_true rfl)).trans ((jnp 64 eσ7 (of_decide_eq_true rfl)).trans ((jnp 64 eσ6 (of_decide_eq_true rfl)).trans ((jnp 64 eσ5 (of_decide_eq_true rfl)).trans (jnp 64 eσ3 (of_decide_eq_true rfl)))))))))] at w25
           have p32 : jTR σ20 := jTR.fr ((f22 64 (of_decide_eq_true rfl)).trans ((jnp 64 eσ16 (of_decide_eq_true rfl)).trans ((jnp 64 eσ15 (of_decide_eq_true rfl)).trans ((jnp 64 eσ14 (of_decide_eq_true rfl)).trans ((jnp 64 eσ8 (of_decide_eq_true rfl)).trans ((jnp 64 eσ7 (of_decide_eq_true rfl)).trans ((jnp 64 eσ6 (of_decide_eq_true rfl)).trans ((jnp 64 eσ5 (of_decide_eq_true rfl)).trans (jnp 64 eσ3 (of_decide_eq_true rfl)))))))))) ((f22 65 (of_decide_eq_true rfl)).trans ((jnp 65 eσ16 (of_decide_eq_true rfl)).trans ((jnp 65 eσ15 (of_decide_eq_true rfl)).trans ((jnp 65 eσ14 (of_decide_eq_true rfl)).trans ((jnp 65 eσ8 (of_decide_eq_true rfl)).trans ((jnp 65 eσ7 (of_decide_eq_true rfl)).trans ((jnp 65 eσ6 (of_decide_eq_true rfl)).trans ((jnp 65 eσ5 (of_decide_eq_true rfl)).trans (jnp 65 eσ3 (of_decide_eq_true rfl)))))))))) hs_jTR
           exact by exact hret r21 σ20 τ _ _ _ _ rfl ⟨rfl, (fun i hi => ((f22 i (imp_195 i hi)).trans ((jnp i eσ16 (imp_196 i hi)).trans ((jnp i eσ15 (imp_196 i hi)).trans ((jnp i eσ14 (imp_196 i hi)).trans ((jnp i eσ8 (imp_196 i hi)).trans ((jnp i eσ7 (imp_196 i hi)).trans ((jnp i eσ6 (imp_196 i hi)).trans ((jnp i eσ5 (imp_196 i hi)).trans (jnp i eσ3 (imp_196 i hi))))))))))), (fun i hi => ((f23 i hi).trans ((congrFun (jnp 55 eσ16 (of_decide_eq_true rfl)) i).trans ((congrFun (jnp 55 eσ15 (of_decide_eq_true rfl)) i).trans ((congrFun (jnp 55 eσ14 (of_decide_eq_true rfl)) i).trans ((congrFun (jnp 55 eσ8 (of_decide_eq_true rfl)) i).trans ((congrFun (jnp 55 eσ7 (of_decide_eq_true rfl)) i).trans ((congrFun (jnp 55 eσ6 (of_decide_eq_true rfl)) i).trans ((congrFun (jnp 55 eσ5 (of_decide_eq_true rfl)) i).trans (congrFun (jnp 55 eσ3 (of_decide_eq_true rfl)) i)))))))))), p32, (hs_jTR.gives (u := 0) (of_decide_eq_true rfl) w25 (by omega) rfl (by omega) (jN8_of (show σ16 66 0 = (σ 55 26) from ((jkp 0 eσ16 (of_decide_eq_true rfl)).trans ((jkp 0 eσ15 (of_decide_eq_true rfl)).trans ((jkp 0 eσ14 (of_decide_eq_true rfl)).trans ((jkp 0 eσ8 (of_decide_eq_true rfl)).trans ((jkp 0 eσ7 (of_decide_eq_true rfl)).trans ((jkp 0 eσ6 (of_decide_eq_true rfl)).trans ((jkp 0 eσ5 (of_decide_eq_true rfl)).trans (jsp eσ3))))))))) (show σ16 66 1 = (σ 55 25) from ((jkp 1 eσ16 (of_decide_eq_true rfl)).trans ((jkp 1 eσ15 (of_decide_eq_true rfl)).trans ((jkp 1 eσ14 (of_decide_eq_true rfl)).trans ((jkp 1 eσ8 (of_decide_eq_true rfl)).trans ((jkp 1 eσ7 (of_decide_eq_true rfl)).trans ((jkp 1 eσ6 (of_decide_eq_true rfl)).trans (jsp eσ5)))))))) (show σ16 66 2 = a3 from ((jkp 2 eσ16 (of_decide_eq_true rfl)).trans ((jkp 2 eσ15 (of_decide_eq_true rfl)).trans ((jkp 2 eσ14 (of_decide_eq_true rfl)).trans ((jkp 2 eσ8 (of_decide_eq_true rfl)).trans ((jkp 2 eσ7 (of_decide_eq_true rfl)).trans (jsp eσ6))))))) (show σ16 66 3 = a2 from ((jkp 3 eσ16 (of_decide_eq_true rfl)).trans ((jkp 3 eσ15 (of_decide_eq_true rfl)).trans ((jkp 3 eσ14 (of_decide_eq_true rfl)).trans ((jkp 3 eσ8 (of_decide_eq_true rfl)).trans (jsp eσ7)))))) ((show σ16 66 4 = (σ 68 a2.toNatClampNeg) from ((jkp 4 eσ16 (of_decide_eq_true rfl)).trans ((jkp 4 eσ15 (of_decide_eq_true rfl)).trans ((jkp 4 eσ14 (of_decide_eq_true rfl)).trans (jsp eσ8))))).trans (by rw [jnc (show a2.toInt = A2 by have h9 := t2; omega)])) ((show σ16 66 5 = (jleft σ8 a2) from ((jkp 5 eσ16 (of_decide_eq_true rfl)).trans ((jkp 5 eσ15 (of_decide_eq_true rfl)).trans (jsp eσ14)))).trans (jleft_fr ((congrFun (jnp 55 eσ8 (of_decide_eq_true rfl)) 30).trans ((congrFun (jnp 55 eσ7 (of_decide_eq_true rfl)) 30).trans ((congrFun (jnp 55 eσ6 (of_decide_eq_true rfl)) 30).trans ((congrFun (jnp 55 eσ5 (of_decide_eq_true rfl)) 30).trans (congrFun (jnp 55 eσ3 (of_decide_eq_true rfl)) 30))))) ((congrFun (jnp 55 eσ8 (of_decide_eq_true rfl)) 31).trans ((congrFun (jnp 55 eσ7 (of_decide_eq_true rfl)) 31).trans ((congrFun (jnp 55 eσ6 (of_decide_eq_true rfl)) 31).trans ((congrFun (jnp 55 eσ5 (of_decide_eq_true rfl)) 31).trans (congrFun (jnp 55 eσ3 (of_decide_eq_true rfl)) 31))))) ((jnp 56 eσ8 (of_decide_eq_true rfl)).trans ((jnp 56 eσ7 (of_decide_eq_true rfl)).trans ((jnp 56 eσ6 (of_decide_eq_true rfl)).trans ((jnp 56 eσ5 (of_decide_eq_true rfl)).trans (jnp 56 eσ3 (of_decide_eq_true rfl)))))) ((jnp 69 eσ8 (of_decide_eq_true rfl)).trans ((jnp 69 eσ7 (of_decide_eq_true rfl)).trans ((jnp 69 eσ6 (of_decide_eq_true rfl)).trans ((jnp 69 eσ5 (of_decide_eq_true rfl)).trans (jnp 69 eσ3 (of_decide_eq_true rfl)))))) _)) (show σ16 66 6 = a4 from ((jkp 6 eσ16 (of_decide_eq_true rfl)).trans (jsp eσ15))) (show σ16 66 7 = a5 from (jsp eσ16)))), trivial⟩ hP hS dX12_textGives_89
set_option maxHeartbeats 4000000 in
set_option maxRecDepth 100000 in
theorem c_X12_textGives_1 (l : Launch) (D : va_G) (cI cL : ClassId) (ad zz : Nat → Nat) (hJ : jD ad) (σ : Nat → Nat → Int32) (τ : Nat → Nat → Int64) (a2 : Int32) (A2 : Int) (t2 : a2.toInt = A2) (a3 : Int32) (A3 : Int) (t3 : a3.toInt = A3) (a4 : Int32) (A4 : Int) (t4 : a4.toInt = A4) (a5 : Int32) (A5 : Int) (t5 : a5.toInt = A5) (hI105 : jI105 σ) (hs_jTR : jTR σ) (hp0 : 0 ≤ A2 ∧ A2 ≤ 3) (hp1 : 0 ≤ (σ 65 1).toInt) : jM l yX12_textGives cX12_textGives 6 (some .int) ({ frames := 65, cells := 0, slots := 0, locals := 2809 }) D cI cL ad zz [.ref (ad 55), .int 1, .int a2, .int a3, .int a4, .int a5] σ τ (fun r σ' τ' => τ = τ' ∧ (∀ i : Nat, (i < 55 ∨ 55 < i) ∧ (i < 66 ∨ 66 < i) → σ' i = σ i) ∧ (∀ k : Nat, (k < 18 ∨ 18 < k) ∧ (k < 19 ∨ 19 < k) ∧ (k < 20 ∨ 20 < k) ∧ (k < 21 ∨ 21 < k) ∧ (k < 22 ∨ 22 < k) → σ' 55 k = σ 55 k) ∧ (jTR σ') ∧ (r = jGr (fun k : Nat => σ 64 (80 * 1 + k)) (σ 65 1).toInt (jN8 (σ 55 26) (σ 55 25) a3 a2 (σ 68 (A2).toNat) (jleft σ a2) a4 a5)) ∧ True) := by
  refine jM.of hJ (by decide +kernel) (nt := .int) rfl (Nat.le_of_ble_eq_true rfl) ?_
  intro p e s m args below meth c Q ls hC hret hl hP
  obtain ⟨hx, hb, hr, hml, hown, hts, hK, -, hlocks, hZ⟩ := hC
  have hown : s.vm.findClass RX12 = some m.cls := hown
  have hS : va_S (jA ad) s.heap s.heap [] := va_S.rf
  have hA : ∀ q, jA ad q → jA ad q := fun _ h => h
  have hl : lv_has ls 6 [(0, .ref (ad 55)), (1, .int 1), (2, .int a2), (3, .int a3), (4, .int a4), (5, .int a5)] := hl
  have g2 := jrg t2
  have g3 := jrg t3
  have g4 := jrg t4
  have g5 := jrg t5
  obtain ⟨i1, w2⟩ : (0 ≤ (σ 55 15).toInt ∧ (σ 55 15).toInt ≤ 80) ∧ (∀ k : Nat, k < 2 → (-1) ≤ (σ 65 k).toInt ∧ (σ 65 k).toInt ≤ 80) := id hI105
  refine lv_aload_n hx hb dX12_textGives_0 rfl (lv_at hl 0 rfl) ?_
  refine va_get (D := D) hx hb hts inlX12 hown hK hP 55 (jc_55 cI cL ad σ τ) rfl 23 (of_decide_eq_true rfl) (hts _ kw_7_12) (fun _ h9 => h9) rfl dX12_textGives_1 ?_
  refine lv_iconst (v := 0) hx hb dX12_textGives_4 (of_decide_eq_true rfl) ?_
  refine lv_aload_n hx hb dX12_textGives_5 rfl (lv_at hl 0 rfl) ?_
  refine va_get (D := D) hx hb hts inlX12 hown hK hP 55 (jc_55 cI cL ad σ τ) rfl 26 (of_decide_eq_true rfl) (hts _ kw_23_5) (fun _ h9 => h9) rfl dX12_textGives_6 ?_
  exact by
   refine jast hx hb hK hP hJ hA hS (jc_66 cI cL ad σ τ) (ja_66 cI cL ad σ τ _ _) (jin jz_0 (by omega) (by omega)) dX12_textGives_9 (fun σ3 H locs eσ3 hP hS => ?_)
   have eσ3 : σ3 = jup σ 66 0 (σ 55 26) := eσ3
   refine lv_aload_n hx hb dX12_textGives_10 rfl (lv_at hl 0 rfl) ?_
   refine va_get (D := D) hx hb hts inlX12 hown hK hP 55 (jc_55 cI cL ad σ3 τ) rfl 23 (of_decide_eq_true rfl) (hts _ kw_7_12) (fun _ h9 => h9) rfl dX12_textGives_11 ?_
   refine lv_iconst (v := 1) hx hb dX12_textGives_14 (of_decide_eq_true rfl) ?_
   refine lv_aload_n hx hb dX12_textGives_15 rfl (lv_at hl 0 rfl) ?_
   refine va_get (D := D) hx hb hts inlX12 hown hK hP 55 (jc_55 cI cL ad σ3 τ) rfl 25 (of_decide_eq_true rfl) (hts _ kw_23_6) (fun _ h9 => h9) rfl dX12_textGives_16 ?_
   have m4 : σ3 55 25 = (σ 55 25) := (congrFun (jnp 55 eσ3 (of_decide_eq_true rfl)) 25)
   refine jtopr m4 ?_
   exact by
    refine jast hx hb hK hP hJ hA hS (jc_66 cI cL ad σ3 τ) (ja_66 cI cL ad σ3 τ _ _) (jin jz_1 (by omega) (by omega)) dX12_textGives_19 (fun σ5 H locs eσ5 hP hS => ?_)
    have eσ5 : σ5 = jup σ3 66 1 (σ 55 25) := eσ5
    refine lv_aload_n hx hb dX12_textGives_20 rfl (lv_at hl 0 rfl) ?_
    refine va_get (D := D) hx hb hts inlX12 hown hK hP 55 (jc_55 cI cL ad σ5 τ) rfl 23 (of_decide_eq_true rfl) (hts _ kw_7_12) (fun _ h9 => h9) rfl dX12_textGives_21 ?_
    refine lv_iconst (v := 2) hx hb dX12_textGives_24 (of_decide_eq_true rfl) ?_
    refine lv_iload_n hx hb dX12_textGives_25 rfl (lv_at hl 3 rfl) ?_
    refine jast hx hb hK hP hJ hA hS (jc_66 cI cL ad σ5 τ) (ja_66 cI cL ad σ5 τ _ _) (jin jz_2 (by omega) (by omega)) dX12_textGives_26 (fun σ6 H locs eσ6 hP hS => ?_)
    have eσ6 : σ6 = jup σ5 66 2 a3 := eσ6
    refine lv_aload_n hx hb dX12_textGives_27 rfl (lv_at hl 0 rfl) ?_
    exact by
     refine va_get (D := D) hx hb hts inlX12 hown hK hP 55 (jc_55 cI cL ad σ6 τ) rfl 23 (of_decide_eq_true rfl) (hts _ kw_7_12) (fun _ h9 => h9) rfl dX12_textGives_28 ?_
     refine lv_iconst (v := 3) hx hb dX12_textGives_31 (of_decide_eq_true rfl) ?_
     refine lv_iload_n hx hb dX12_textGives_32 rfl (lv_at hl 2 rfl) ?_
     refine jast hx hb hK hP hJ hA hS (jc_66 cI cL ad σ6 τ) (ja_66 cI cL ad σ6 τ _ _) (jin jz_3 (by omega) (by omega)) dX12_textGives_33 (fun σ7 H locs eσ7 hP hS => ?_)
     have eσ7 : σ7 = jup σ6 66 3 a2 := eσ7
     refine lv_aload_n hx hb dX12_textGives_34 rfl (lv_at hl 0 rfl) ?_
     refine va_get (D := D) hx hb hts inlX12 hown hK hP 55 (jc_55 cI cL ad σ7 τ) rfl 23 (of_decide_eq_true rfl) (hts _ kw_7_12) (fun _ h9 => h9) rfl dX12_textGives_35 ?_
     refine lv_iconst (v := 4) hx hb dX12_textGives_38 (of_decide_eq_true rfl) ?_
     refine lv_aload_n hx hb dX12_textGives_39 rfl (lv_at hl 0 rfl) ?_
     exact by
      refine va_get (D := D) hx hb hts inlX12 hown hK hP 55 (jc_55 cI cL ad σ7 τ) rfl 28 (of_decide_eq_true rfl) (hts _ kw_7_14) (fun _ h9 => h9) rfl dX12_textGives_40 ?_
      refine lv_iload_n hx hb dX12_textGives_43 rfl (lv_at hl 2 rfl) ?_
      refine jald hx hb hK hP (jc_68 cI cL ad σ7 τ) (jin t2 (by omega) (by omega)) dX12_textGives_44 ?_
      refine jtopr (y := (σ 68 a2.toNatClampNeg)) (by rw [jnp 68 eσ7 (of_decide_eq_true rfl), jnp 68 eσ6 (of_decide_eq_true rfl), jnp 68 eσ5 (of_decide_eq_true rfl), jnp 68 eσ3 (of_decide_eq_true rfl)]) ?_
      refine jast hx hb hK hP hJ hA hS (jc_66 cI cL ad σ7 τ) (ja_66 cI cL ad σ7 τ _ _) (jin jz_4 (by omega) (by omega)) dX12_textGives_45 (fun σ8 H locs eσ8 hP hS => ?_)
      have eσ8 : σ8 = jup σ7 66 4 (σ 68 a2.toNatClampNeg) := eσ8
      refine lv_aload_n hx hb dX12_textGives_46 rfl (lv_at hl 0 rfl) ?_
      refine va_get (D := D) hx hb hts inlX12 hown hK hP 55 (jc_55 cI cL ad σ8 τ) rfl 23 (of_decide_eq_true rfl) (hts _ kw_7_12) (fun _ h9 => h9) rfl dX12_textGives_47 ?_
      refine lv_iconst (v := 5) hx hb dX12_textGives_50 (of_decide_eq_true rfl) ?_
      exact by
       refine lv_aload_n hx hb dX12_textGives_51 rfl (lv_at hl 0 rfl) ?_
       refine lv_iload_n hx hb dX12_textGives_52 rfl (lv_at hl 2 rfl) ?_
       refine jcallV (As := [.int a2]) (rest := [.int 5, .ref (ad 66)]) ⟨hx, hb, hml, hown, hts⟩ hK hP hA hS hZ (c_X12_leftOf l D cI cL ad zz hJ σ8 τ a2 (A2) t2 (by omega)) cw_RX12_246 (jc_55 cI cL ad σ8 τ) rfl ⟨Nat.le_of_ble_eq_true rfl, Nat.le_of_ble_eq_true rfl⟩ rfl rfl rfl hl.1 rfl (Nat.le_of_ble_eq_true rfl) dX12_textGives_53 ⟨Nat.zero_le _, Nat.zero_le _⟩ (fun r10 σ9 τ9 H locs h9 hP hS => ?_)
       obtain ⟨⟨rfl, rfl⟩, h9⟩ := h9
       have h11 := h9
       obtain ⟨q13, k12⟩ := h11
       have q13 := q13.symm
       subst q13
       refine jast hx hb hK hP hJ hA hS (jc_66 cI cL ad σ8 τ) (ja_66 cI cL ad σ8 τ _ _) (jin jz_5 (by omega) (by omega)) dX12_textGives_56 (fun σ14 H locs eσ14 hP hS => ?_)
       exact by
        have eσ14 : σ14 = jup σ8 66 5 (jleft σ8 a2) := eσ14
        refine lv_aload_n hx hb dX12_textGives_57 rfl (lv_at hl 0 rfl) ?_
        refine va_get (D := D) hx hb hts inlX12 hown hK hP 55 (jc_55 cI cL ad σ14 τ) rfl 23 (of_decide_eq_true rfl) (hts _ kw_7_12) (fun _ h9 => h9) rfl dX12_textGives_58 ?_
        refine lv_bipush (v := 6) hx hb dX12_textGives_61 (of_decide_eq_true rfl) ?_
        refine lv_iload hx hb dX12_textGives_63 (lv_at hl 4 rfl) ?_
        refine jast hx hb hK hP hJ hA hS (jc_66 cI cL ad σ14 τ) (ja_66 cI cL ad σ14 τ _ _) (jin jz_6 (by omega) (by omega)) dX12_textGives_65 (fun σ15 H locs eσ15 hP hS => ?_)
        have eσ15 : σ15 = jup σ14 66 6 a4 := eσ15
        refine lv_aload_n hx hb dX12_textGives_66 rfl (lv_at hl 0 rfl) ?_
        refine va_get (D := D) hx hb hts inlX12 hown hK hP 55 (jc_55 cI cL ad σ15 τ) rfl 23 (of_decide_eq_true rfl) (hts _ kw_7_12) (fun _ h9 => h9) rfl dX12_textGives_67 ?_
        exact by
         refine lv_bipush (v := 7) hx hb dX12_textGives_70 (of_decide_eq_true rfl) ?_
         refine lv_iload hx hb dX12_textGives_72 (lv_at hl 5 rfl) ?_
         refine jast hx hb hK hP hJ hA hS (jc_66 cI cL ad σ15 τ) (ja_66 cI cL ad σ15 τ _ _) (jin jz_7 (by omega) (by omega)) dX12_textGives_74 (fun σ16 H locs eσ16 hP hS => ?_)
         have eσ16 : σ16 = jup σ15 66 7 a5 := eσ16
         refine lv_aload_n hx hb dX12_textGives_75 rfl (lv_at hl 0 rfl) ?_
         refine lv_bipush (v := 80) hx hb dX12_textGives_76 (of_decide_eq_true rfl) ?_
         refine lv_iload_n hx hb dX12_textGives_78 rfl (lv_at hl 1 rfl) ?_
         refine lv_imul hx hb dX12_textGives_79 ?_
         refine jtopr (y := 80) (of_decide_eq_true rfl) ?_
         exact by
          refine lv_aload_n hx hb dX12_textGives_80 rfl (lv_at hl 0 rfl) ?_
          refine va_get (D := D) hx hb hts inlX12 hown hK hP 55 (jc_55 cI cL ad σ16 τ) rfl 17 (of_decide_eq_true rfl) (hts _ kw_7_11) (fun _ h9 => h9) rfl dX12_textGives_81 ?_
          refine lv_iload_n hx hb dX12_textGives_84 rfl (lv_at hl 1 rfl) ?_
          refine jald hx hb hK hP (jc_65 cI cL ad σ16 τ) (jin jz_1 (by omega) (by omega)) dX12_textGives_85 ?_
          refine jtopr (y := σ16 65 1) rfl ?_
          have m17 : σ16 65 1 = (σ 65 1) := ((congrFun (jnp 65 eσ16 (of_decide_eq_true rfl)) 1).trans ((congrFun (jnp 65 eσ15 (of_decide_eq_true rfl)) 1).trans ((congrFun (jnp 65 eσ14 (of_decide_eq_true rfl)) 1).trans ((congrFun (jnp 65 eσ8 (of_decide_eq_true rfl)) 1).trans ((congrFun (jnp 65 eσ7 (of_decide_eq_true rfl)) 1).trans ((congrFun (jnp 65 eσ6 (of_decide_eq_true rfl)) 1).trans ((congrFun (jnp 65 eσ5 (of_decide_eq_true rfl)) 1).trans (congrFun (jnp 65 eσ3 (of_decide_eq_true rfl)) 1))))))))
          refine jtopr m17 ?_
          have w18 : ∀ k : Nat, k < 2 → (-1) ≤ (σ16 65 k).toInt ∧ (σ16 65 k).toInt ≤ 80 := (jrr_fr (jnp 65 eσ16 (of_decide_eq_true rfl)) (jrr_fr (jnp 65 eσ15 (of_decide_eq_true rfl)) (jrr_fr (jnp 65 eσ14 (of_decide_eq_true rfl)) (jrr_fr (jnp 65 eσ8 (of_decide_eq_true rfl)) (jrr_fr (jnp 65 eσ7 (of_decide_eq_true rfl)) (jrr_fr (jnp 65 eσ6 (of_decide_eq_true rfl)) (jrr_fr (jnp 65 eσ5 (of_decide_eq_true rfl)) (jrr_fr (jnp 65 eσ3 (of_decide_eq_true rfl)) w2))))))))
          have g19 := w18 1 (of_decide_eq_true rfl)
          rw [m17] at g19
          exact by
           refine jcallV (As := [.int 80, .int (σ 65 1)]) (rest := []) ⟨hx, hb, hml, hown, hts⟩ hK hP hA hS hZ (c_X12_workOut l D cI cL ad zz hJ σ16 τ 80 (80) jz_80 (σ 65 1) ((σ 65 1).toInt) rfl (by omega) (by omega)) cw_RX12_224 (jc_55 cI cL ad σ16 τ) rfl ⟨Nat.le_of_ble_eq_true rfl, Nat.le_of_ble_eq_true rfl⟩ rfl rfl rfl hl.1 rfl (Nat.le_of_ble_eq_true rfl) dX12_textGives_86 ⟨Nat.zero_le _, Nat.zero_le _⟩ (fun r21 σ20 τ20 H locs h20 hP hS => ?_)
           obtain ⟨rfl, f22, f23, I24, w25, h20⟩ := h20
           obtain ⟨i27, i28, i29, i30, i31⟩ : ((-1) ≤ (σ20 55 18).toInt ∧ (σ20 55 18).toInt ≤ 80) ∧ (0 ≤ (σ20 55 19).toInt) ∧ ((σ20 55 19).toInt ≤ (σ20 55 20).toInt) ∧ ((σ20 55 20).toInt ≤ 80) ∧ ((-1) ≤ (σ20 55 21).toInt ∧ (σ20 55 21).toInt ≤ 80) := id I24
           rw [show σ16 63 = σ 63 from ((jnp 63 eσ16 (of_decide_eq_true rfl)).trans ((jnp 63 eσ15 (of_decide_eq_true rfl)).trans ((jnp 63 eσ14 (of_decide_eq_true rfl)).trans ((jnp 63 eσ8 (of_decide_eq_true rfl)).trans ((jnp 63 eσ7 (of_decide_eq_true rfl)).trans ((jnp 63 eσ6 (of_decide_eq_true rfl)).trans ((jnp 63 eσ5 (of_decide_eq_true rfl)).trans (jnp 63 eσ3 (of_decide_eq_true rfl))))))))), show σ16 64 = σ 64 from ((jnp 64 eσ16 (of_decide_eq_true rfl)).trans ((jnp 64 eσ15 (of_decide_eq_true rfl)).trans ((jnp 64 eσ14 (of_decide_eq_true rfl)).trans ((jnp 64 eσ8 (of_decide_eq_true rfl)).trans ((jnp 64 eσ7 (of_decide_eq_true rfl)).trans ((jnp 64 eσ6 (of_decide_eq_true rfl)).trans ((jnp 64 eσ5 (of_decide_eq_true rfl)).trans (jnp 64 eσ3 (of_decide_eq_true rfl)))))))))] at w25
           have p32 : jTR σ20 := jTR.fr ((f22 64 (of_decide_eq_true rfl)).trans ((jnp 64 eσ16 (of_decide_eq_true rfl)).trans ((jnp 64 eσ15 (of_decide_eq_true rfl)).trans ((jnp 64 eσ14 (of_decide_eq_true rfl)).trans ((jnp 64 eσ8 (of_decide_eq_true rfl)).trans ((jnp 64 eσ7 (of_decide_eq_true rfl)).trans ((jnp 64 eσ6 (of_decide_eq_true rfl)).trans ((jnp 64 eσ5 (of_decide_eq_true rfl)).trans (jnp 64 eσ3 (of_decide_eq_true rfl)))))))))) ((f22 65 (of_decide_eq_true rfl)).trans ((jnp 65 eσ16 (of_decide_eq_true rfl)).trans ((jnp 65 eσ15 (of_decide_eq_true rfl)).trans ((jnp 65 eσ14 (of_decide_eq_true rfl)).trans ((jnp 65 eσ8 (of_decide_eq_true rfl)).trans ((jnp 65 eσ7 (of_decide_eq_true rfl)).trans ((jnp 65 eσ6 (of_decide_eq_true rfl)).trans ((jnp 65 eσ5 (of_decide_eq_true rfl)).trans (jnp 65 eσ3 (of_decide_eq_true rfl)))))))))) hs_jTR
           exact by exact hret r21 σ20 τ _ _ _ _ rfl ⟨rfl, (fun i hi => ((f22 i (imp_195 i hi)).trans ((jnp i eσ16 (imp_196 i hi)).trans ((jnp i eσ15 (imp_196 i hi)).trans ((jnp i eσ14 (imp_196 i hi)).trans ((jnp i eσ8 (imp_196 i hi)).trans ((jnp i eσ7 (imp_196 i hi)).trans ((jnp i eσ6 (imp_196 i hi)).trans ((jnp i eσ5 (imp_196 i hi)).trans (jnp i eσ3 (imp_196 i hi))))))))))), (fun i hi => ((f23 i hi).trans ((congrFun (jnp 55 eσ16 (of_decide_eq_true rfl)) i).trans ((congrFun (jnp 55 eσ15 (of_decide_eq_true rfl)) i).trans ((congrFun (jnp 55 eσ14 (of_decide_eq_true rfl)) i).trans ((congrFun (jnp 55 eσ8 (of_decide_eq_true rfl)) i).trans ((congrFun (jnp 55 eσ7 (of_decide_eq_true rfl)) i).trans ((congrFun (jnp 55 eσ6 (of_decide_eq_true rfl)) i).trans ((congrFun (jnp 55 eσ5 (of_decide_eq_true rfl)) i).trans (congrFun (jnp 55 eσ3 (of_decide_eq_true rfl)) i)))))))))), p32, (hs_jTR.gives (u := 1) (of_decide_eq_true rfl) w25 (by omega) rfl (by omega) (jN8_of (show σ16 66 0 = (σ 55 26) from ((jkp 0 eσ16 (of_decide_eq_true rfl)).trans ((jkp 0 eσ15 (of_decide_eq_true rfl)).trans ((jkp 0 eσ14 (of_decide_eq_true rfl)).trans ((jkp 0 eσ8 (of_decide_eq_true rfl)).trans ((jkp 0 eσ7 (of_decide_eq_true rfl)).trans ((jkp 0 eσ6 (of_decide_eq_true rfl)).trans ((jkp 0 eσ5 (of_decide_eq_true rfl)).trans (jsp eσ3))))))))) (show σ16 66 1 = (σ 55 25) from ((jkp 1 eσ16 (of_decide_eq_true rfl)).trans ((jkp 1 eσ15 (of_decide_eq_true rfl)).trans ((jkp 1 eσ14 (of_decide_eq_true rfl)).trans ((jkp 1 eσ8 (of_decide_eq_true rfl)).trans ((jkp 1 eσ7 (of_decide_eq_true rfl)).trans ((jkp 1 eσ6 (of_decide_eq_true rfl)).trans (jsp eσ5)))))))) (show σ16 66 2 = a3 from ((jkp 2 eσ16 (of_decide_eq_true rfl)).trans ((jkp 2 eσ15 (of_decide_eq_true rfl)).trans ((jkp 2 eσ14 (of_decide_eq_true rfl)).trans ((jkp 2 eσ8 (of_decide_eq_true rfl)).trans ((jkp 2 eσ7 (of_decide_eq_true rfl)).trans (jsp eσ6))))))) (show σ16 66 3 = a2 from ((jkp 3 eσ16 (of_decide_eq_true rfl)).trans ((jkp 3 eσ15 (of_decide_eq_true rfl)).trans ((jkp 3 eσ14 (of_decide_eq_true rfl)).trans ((jkp 3 eσ8 (of_decide_eq_true rfl)).trans (jsp eσ7)))))) ((show σ16 66 4 = (σ 68 a2.toNatClampNeg) from ((jkp 4 eσ16 (of_decide_eq_true rfl)).trans ((jkp 4 eσ15 (of_decide_eq_true rfl)).trans ((jkp 4 eσ14 (of_decide_eq_true rfl)).trans (jsp eσ8))))).trans (by rw [jnc (show a2.toInt = A2 by have h9 := t2; omega)])) ((show σ16 66 5 = (jleft σ8 a2) from ((jkp 5 eσ16 (of_decide_eq_true rfl)).trans ((jkp 5 eσ15 (of_decide_eq_true rfl)).trans (jsp eσ14)))).trans (jleft_fr ((congrFun (jnp 55 eσ8 (of_decide_eq_true rfl)) 30).trans ((congrFun (jnp 55 eσ7 (of_decide_eq_true rfl)) 30).trans ((congrFun (jnp 55 eσ6 (of_decide_eq_true rfl)) 30).trans ((congrFun (jnp 55 eσ5 (of_decide_eq_true rfl)) 30).trans (congrFun (jnp 55 eσ3 (of_decide_eq_true rfl)) 30))))) ((congrFun (jnp 55 eσ8 (of_decide_eq_true rfl)) 31).trans ((congrFun (jnp 55 eσ7 (of_decide_eq_true rfl)) 31).trans ((congrFun (jnp 55 eσ6 (of_decide_eq_true rfl)) 31).trans ((congrFun (jnp 55 eσ5 (of_decide_eq_true rfl)) 31).trans (congrFun (jnp 55 eσ3 (of_decide_eq_true rfl)) 31))))) ((jnp 56 eσ8 (of_decide_eq_true rfl)).trans ((jnp 56 eσ7 (of_decide_eq_true rfl)).trans ((jnp 56 eσ6 (of_decide_eq_true rfl)).trans ((jnp 56 eσ5 (of_decide_eq_true rfl)).trans (jnp 56 eσ3 (of_decide_eq_true rfl)))))) ((jnp 69 eσ8 (of_decide_eq_true rfl)).trans ((jnp 69 eσ7 (of_decide_eq_true rfl)).trans ((jnp 69 eσ6 (of_decide_eq_true rfl)).trans ((jnp 69 eσ5 (of_decide_eq_true rfl)).trans (jnp 69 eσ3 (of_decide_eq_true rfl)))))) _)) (show σ16 66 6 = a4 from ((jkp 6 eσ16 (of_decide_eq_true rfl)).trans (jsp eσ15))) (show σ16 66 7 = a5 from (jsp eσ16)))), trivial⟩ hP hS dX12_textGives_89
set_option maxHeartbeats 4000000 in
set_option maxRecDepth 100000 in
theorem c_X12_runsBy (l : Launch) (D : va_G) (cI cL : ClassId) (ad zz : Nat → Nat) (hJ : jD ad) (σ : Nat → Nat → Int32) (τ : Nat → Nat → Int64) (a1 : Int32) (A1 : Int) (t1 : a1.toInt = A1) (a2 : Int32) (A2 : Int) (t2 : a2.toInt = A2) (hI101 : jI101 σ) (hI102 : jI102 σ) (hI103 : jI103 σ) (hw68 : ∀ k : Nat, k < 4 → 0 ≤ (σ 68 k).toInt ∧ (σ 68 k).toInt ≤ 3) (hp0 : 0 ≤ A1 ∧ A1 ≤ 3) (hp1 : 0 ≤ A2 ∧ A2 ≤ 3) : jM l yX12_runsBy cX12_runsBy 4 (some .int) ({ frames := 0, cells := 0, slots := 0, locals := 0 }) D cI cL ad zz [.ref (ad 55), .int a1, .int a2] σ τ (fun r σ' τ' => (σ = σ' ∧ τ = τ') ∧ (r = jRn (σ 61 (A1).toNat) (σ 56 (16 + 4 * (A1) + (A2)).toNat) (σ 56 (52 + 4 * (σ 55 9).toInt + (A2)).toNat) (σ 68 (A1).toNat)) ∧ ((True ∧ (0 ≤ r.toInt ∧ r.toInt ≤ 1023)))) := by
  refine jM.of hJ (by decide +kernel) (nt := .int) rfl (Nat.le_of_ble_eq_true rfl) ?_
  intro p e s m args below meth c Q ls hC hret hl hP
  obtain ⟨hx, hb, hr, hml, hown, hts, hK, -, hlocks, hZ⟩ := hC
  have hown : s.vm.findClass RX12 = some m.cls := hown
  have hS : va_S (jA ad) s.heap s.heap [] := va_S.rf
  have hA : ∀ q, jA ad q → jA ad q := fun _ h => h
  have hl : lv_has ls 4 [(0, .ref (ad 55)), (1, .int a1), (2, .int a2)] := hl
  have g1 := jrg t1
  have g2 := jrg t2
  obtain ⟨i1, i2, i3, w4, w5, w6, w7⟩ : (0 ≤ (σ 55 5).toInt) ∧ ((σ 55 5).toInt ≤ (σ 55 4).toInt) ∧ ((σ 55 4).toInt ≤ 40) ∧ (∀ k : Nat, k < 68 → (-200) ≤ (σ 56 k).toInt ∧ (σ 56 k).toInt ≤ 500) ∧ (∀ k : Nat, k < 40 → 0 ≤ (σ 57 k).toInt ∧ (σ 57 k).toInt ≤ 67) ∧ (∀ k : Nat, k < 40 → (-200) ≤ (σ 58 k).toInt ∧ (σ 58 k).toInt ≤ 500) ∧ (∀ k : Nat, k < 40 → (-200) ≤ (σ 59 k).toInt ∧ (σ 59 k).toInt ≤ 500) := id hI101
  obtain ⟨i8, w9, w10⟩ : (0 ≤ (σ 55 6).toInt ∧ (σ 55 6).toInt ≤ 4) ∧ (∀ k : Nat, k < 4 → 0 ≤ (σ 60 k).toInt ∧ (σ 60 k).toInt ≤ 50) ∧ (∀ k : Nat, k < 4 → 0 ≤ (σ 61 k).toInt ∧ (σ 61 k).toInt ≤ 20) := id hI102
  have i11 : 0 ≤ (σ 55 9).toInt ∧ (σ 55 9).toInt ≤ 3 := hI103
  refine lv_aload_n hx hb dX12_runsBy_0 rfl (lv_at hl 0 rfl) ?_
  refine va_get (D := D) hx hb hts inlX12 hown hK hP 55 (jc_55 cI cL ad σ τ) rfl 8 (of_decide_eq_true rfl) (hts _ kw_7_7) (fun _ h9 => h9) rfl dX12_runsBy_1 ?_
  refine lv_iload_n hx hb dX12_runsBy_4 rfl (lv_at hl 1 rfl) ?_
  exact by
   refine jald hx hb hK hP (jc_61 cI cL ad σ τ) (jin t1 (by omega) (by omega)) dX12_runsBy_5 ?_
   have g12 := w10 _ (jnat (x := a1) t1 (n := 4) (by omega) (of_decide_eq_true rfl))
   refine jtopr (y := (σ 61 a1.toNatClampNeg)) rfl ?_
   refine lv_aload_n hx hb dX12_runsBy_6 rfl (lv_at hl 0 rfl) ?_
   refine va_get (D := D) hx hb hts inlX12 hown hK hP 55 (jc_55 cI cL ad σ τ) rfl 0 (of_decide_eq_true rfl) (hts _ kw_7_2) (fun _ h9 => h9) rfl dX12_runsBy_7 ?_
   refine lv_bipush (v := 16) hx hb dX12_runsBy_10 (of_decide_eq_true rfl) ?_
   refine lv_iconst (v := 4) hx hb dX12_runsBy_12 (of_decide_eq_true rfl) ?_
   refine lv_iload_n hx hb dX12_runsBy_13 rfl (lv_at hl 1 rfl) ?_
   refine lv_imul hx hb dX12_runsBy_14 ?_
   exact by
    refine lv_topi (fun x13 ex13 => ?_)
    have tx13 : x13.toInt = 4 * A1 := (jmul ex13 jz_4 t1 (by omega) (by omega)).trans (by omega)
    refine lv_iadd hx hb dX12_runsBy_15 ?_
    refine lv_topi (fun x14 ex14 => ?_)
    have tx14 : x14.toInt = 4 * A1 + 16 := (jadd ex14 jz_16 tx13 (by omega) (by omega)).trans (by omega)
    refine lv_iload_n hx hb dX12_runsBy_16 rfl (lv_at hl 2 rfl) ?_
    refine lv_iadd hx hb dX12_runsBy_17 ?_
    refine lv_topi (fun x15 ex15 => ?_)
    have tx15 : x15.toInt = 4 * A1 + A2 + 16 := (jadd ex15 tx14 t2 (by omega) (by omega)).trans (by omega)
    exact by
     refine jald hx hb hK hP (jc_56 cI cL ad σ τ) (jin tx15 (by omega) (by omega)) dX12_runsBy_18 ?_
     have g16 := w4 _ (jnat (x := x15) tx15 (n := 68) (by omega) (of_decide_eq_true rfl))
     refine jtopr (y := (σ 56 x15.toNatClampNeg)) rfl ?_
     have g17 := jrg (rfl : (σ 61 a1.toNatClampNeg).toInt = (σ 61 a1.toNatClampNeg).toInt)
     have g18 := jrg (rfl : (σ 56 x15.toNatClampNeg).toInt = (σ 56 x15.toNatClampNeg).toInt)
     refine lv_iadd hx hb dX12_runsBy_19 ?_
     refine lv_topi (fun x19 ex19 => ?_)
     have tx19 : x19.toInt = (σ 61 a1.toNatClampNeg).toInt + (σ 56 x15.toNatClampNeg).toInt := (jadd ex19 rfl rfl (by omega) (by omega)).trans (by omega)
     refine lv_aload_n hx hb dX12_runsBy_20 rfl (lv_at hl 0 rfl) ?_
     exact by
      refine va_get (D := D) hx hb hts inlX12 hown hK hP 55 (jc_55 cI cL ad σ τ) rfl 0 (of_decide_eq_true rfl) (hts _ kw_7_2) (fun _ h9 => h9) rfl dX12_runsBy_21 ?_
      refine lv_bipush (v := 52) hx hb dX12_runsBy_24 (of_decide_eq_true rfl) ?_
      refine lv_iconst (v := 4) hx hb dX12_runsBy_26 (of_decide_eq_true rfl) ?_
      refine lv_aload_n hx hb dX12_runsBy_27 rfl (lv_at hl 0 rfl) ?_
      refine va_get (D := D) hx hb hts inlX12 hown hK hP 55 (jc_55 cI cL ad σ τ) rfl 9 (of_decide_eq_true rfl) (hts _ kw_12_14) (fun _ h9 => h9) rfl dX12_runsBy_28 ?_
      have g20 := jrg (rfl : (σ 55 9).toInt = (σ 55 9).toInt)
      refine lv_imul hx hb dX12_runsBy_31 ?_
      refine lv_topi (fun x21 ex21 => ?_)
      have tx21 : x21.toInt = 4 * (σ 55 9).toInt := (jmul ex21 jz_4 rfl (by omega) (by omega)).trans (by omega)
      exact by
       refine lv_iadd hx hb dX12_runsBy_32 ?_
       refine lv_topi (fun x22 ex22 => ?_)
       have tx22 : x22.toInt = 4 * (σ 55 9).toInt + 52 := (jadd ex22 jz_52 tx21 (by omega) (by omega)).trans (by omega)
       refine lv_iload_n hx hb dX12_runsBy_33 rfl (lv_at hl 2 rfl) ?_
       refine lv_iadd hx hb dX12_runsBy_34 ?_
       refine lv_topi (fun x23 ex23 => ?_)
       have tx23 : x23.toInt = 4 * (σ 55 9).toInt + A2 + 52 := (jadd ex23 tx22 t2 (by omega) (by omega)).trans (by omega)
       refine jald hx hb hK hP (jc_56 cI cL ad σ τ) (jin tx23 (by omega) (by omega)) dX12_runsBy_35 ?_
       have g24 := w4 _ (jnat (x := x23) tx23 (n := 68) (by omega) (of_decide_eq_true rfl))
       exact by
        refine jtopr (y := (σ 56 x23.toNatClampNeg)) rfl ?_
        have g25 := jrg (rfl : (σ 56 x23.toNatClampNeg).toInt = (σ 56 x23.toNatClampNeg).toInt)
        refine lv_iadd hx hb dX12_runsBy_36 ?_
        refine lv_topi (fun x26 ex26 => ?_)
        have tx26 : x26.toInt = (σ 61 a1.toNatClampNeg).toInt + (σ 56 x15.toNatClampNeg).toInt + (σ 56 x23.toNatClampNeg).toInt := (jadd ex26 tx19 rfl (by omega) (by omega)).trans (by omega)
        refine lv_aload_n hx hb dX12_runsBy_37 rfl (lv_at hl 0 rfl) ?_
        refine va_get (D := D) hx hb hts inlX12 hown hK hP 55 (jc_55 cI cL ad σ τ) rfl 28 (of_decide_eq_true rfl) (hts _ kw_7_14) (fun _ h9 => h9) rfl dX12_runsBy_38 ?_
        refine lv_iload_n hx hb dX12_runsBy_41 rfl (lv_at hl 1 rfl) ?_
        refine jald hx hb hK hP (jc_68 cI cL ad σ τ) (jin t1 (by omega) (by omega)) dX12_runsBy_42 ?_
        exact by
         have g27 := hw68 _ (jnat (x := a1) t1 (n := 4) (by omega) (of_decide_eq_true rfl))
         refine jtopr (y := (σ 68 a1.toNatClampNeg)) rfl ?_
         have g28 := jrg (rfl : (σ 68 a1.toNatClampNeg).toInt = (σ 68 a1.toNatClampNeg).toInt)
         refine lv_iadd hx hb dX12_runsBy_43 ?_
         refine lv_topi (fun x29 ex29 => ?_)
         have tx29 : x29.toInt = (σ 61 a1.toNatClampNeg).toInt + (σ 56 x15.toNatClampNeg).toInt + (σ 56 x23.toNatClampNeg).toInt + (σ 68 a1.toNatClampNeg).toInt := (jadd ex29 tx26 rfl (by omega) (by omega)).trans (by omega)
         refine lv_istore_n (lv' := [(3, .int x29), (0, .ref (ad 55)), (1, .int a1), (2, .int a2)]) hx hb dX12_runsBy_44 rfl hl (of_decide_eq_true rfl) rfl (fun ls hl => ?_)
         refine lv_iload_n hx hb dX12_runsBy_45 rfl (lv_at hl 0 rfl) ?_
         refine lv_if_ge (tgt := 53) hx hb dX12_runsBy_46 (of_decide_eq_true rfl) (fun c30 => ?_) (fun c30 => ?_)
         · exact by
            have kc30 := jle c30 jz_0 tx29
            refine lv_iload_n hx hb dX12_runsBy_53 rfl (lv_at hl 0 rfl) ?_
            exact by exact hret x29 σ τ _ _ _ _ rfl ⟨⟨rfl, rfl⟩, (by have w : σ 61 (A1).toNat + σ 56 (16 + 4 * (A1) + (A2)).toNat + σ 56 (52 + 4 * (σ 55 9).toInt + (A2)).toNat + σ 68 (A1).toNat = x29 := (by rw [ex29, ex26, ex19, jnc (show a1.toInt = A1 by have h9 := t1; omega), jnc (show x15.toInt = 16 + 4 * (A1) + (A2) by omega), jnc (show x23.toInt = 52 + 4 * (σ 55 9).toInt + (A2) by omega)]); unfold jRn; rw [w]; exact Int32.toInt_inj.mp (by split <;> first | (rw [jz_0]; have h9 := tx29; omega) | (have h9 := tx29; omega))), ⟨trivial, (by have h9 := tx29; omega)⟩⟩ hP hS dX12_runsBy_54
         · have kc30 := jnle c30 jz_0 tx29
           refine lv_iconst (v := 0) hx hb dX12_runsBy_49 (of_decide_eq_true rfl) ?_
           refine lv_goto (tgt := 54) hx hb dX12_runsBy_50 (of_decide_eq_true rfl) ?_
           exact by exact hret 0 σ τ _ _ _ _ rfl ⟨⟨rfl, rfl⟩, (by have w : σ 61 (A1).toNat + σ 56 (16 + 4 * (A1) + (A2)).toNat + σ 56 (52 + 4 * (σ 55 9).toInt + (A2)).toNat + σ 68 (A1).toNat = x29 := (by rw [ex29, ex26, ex19, jnc (show a1.toInt = A1 by have h9 := t1; omega), jnc (show x15.toInt = 16 + 4 * (A1) + (A2) by omega), jnc (show x23.toInt = 52 + 4 * (σ 55 9).toInt + (A2) by omega)]); unfold jRn; rw [w]; exact Int32.toInt_inj.mp (by split <;> first | (rw [jz_0]; have h9 := jz_0; omega) | (have h9 := jz_0; omega))), ⟨trivial, (by have h9 := jz_0; omega)⟩⟩ hP hS dX12_runsBy_54
set_option maxHeartbeats 4000000 in
set_option maxRecDepth 100000 in
theorem c_X12_outBy (l : Launch) (D : va_G) (cI cL : ClassId) (ad zz : Nat → Nat) (hJ : jD ad) (σ : Nat → Nat → Int32) (τ : Nat → Nat → Int64) (a1 : Int32) (A1 : Int) (t1 : a1.toInt = A1) (a2 : Int32) (A2 : Int) (t2 : a2.toInt = A2) (hI101 : jI101 σ) (hI102 : jI102 σ) (hI103 : jI103 σ) (hI105 : jI105 σ) (hw68 : ∀ k : Nat, k < 4 → 0 ≤ (σ 68 k).toInt ∧ (σ 68 k).toInt ≤ 3) (hs_jTR : jTR σ) (hp0 : 0 ≤ A1 ∧ A1 ≤ 3) (hp1 : 0 ≤ A2 ∧ A2 ≤ 3) : jM l yX12_outBy cX12_outBy 5 (some .int) ({ frames := 66, cells := 0, slots := 0, locals := 2834 }) D cI cL ad zz [.ref (ad 55), .int a1, .int a2] σ τ (fun r σ' τ' => τ = τ' ∧ (∀ i : Nat, (i < 55 ∨ 55 < i) ∧ (i < 66 ∨ 66 < i) → σ' i = σ i) ∧ (∀ k : Nat, (k < 18 ∨ 18 < k) ∧ (k < 19 ∨ 19 < k) ∧ (k < 20 ∨ 20 < k) ∧ (k < 21 ∨ 21 < k) ∧ (k < 22 ∨ 22 < k) → σ' 55 k = σ 55 k) ∧ (jTR σ') ∧ (r = jClp (jB0 (σ 56 (4 * (A1) + (A2)).toNat) (σ 56 (36 + 4 * (σ 55 9).toInt + (A2)).toNat) (jFr (σ 60 (A1).toNat) (σ 68 (A1).toNat)) + jGr (fun k : Nat => σ 64 (80 * 1 + k)) (σ 65 1).toInt (jN8 (σ 55 26) (σ 55 25) a2 a1 (σ 68 (A1).toNat) (jleft σ a1) 0 0))) ∧ ((True ∧ (0 ≤ r.toInt ∧ r.toInt ≤ 1000)))) := by
  refine jM.of hJ (by decide +kernel) (nt := .int) rfl (Nat.le_of_ble_eq_true rfl) ?_
  intro p e s m args below meth c Q ls hC hret hl hP
  obtain ⟨hx, hb, hr, hml, hown, hts, hK, -, hlocks, hZ⟩ := hC
  have hown : s.vm.findClass RX12 = some m.cls := hown
  have hS : va_S (jA ad) s.heap s.heap [] := va_S.rf
  have hA : ∀ q, jA ad q → jA ad q := fun _ h => h
  have hl : lv_has ls 5 [(0, .ref (ad 55)), (1, .int a1), (2, .int a2)] := hl
  have g1 := jrg t1
  have g2 := jrg t2
  obtain ⟨i1, i2, i3, w4, w5, w6, w7⟩ : (0 ≤ (σ 55 5).toInt) ∧ ((σ 55 5).toInt ≤ (σ 55 4).toInt) ∧ ((σ 55 4).toInt ≤ 40) ∧ (∀ k : Nat, k < 68 → (-200) ≤ (σ 56 k).toInt ∧ (σ 56 k).toInt ≤ 500) ∧ (∀ k : Nat, k < 40 → 0 ≤ (σ 57 k).toInt ∧ (σ 57 k).toInt ≤ 67) ∧ (∀ k : Nat, k < 40 → (-200) ≤ (σ 58 k).toInt ∧ (σ 58 k).toInt ≤ 500) ∧ (∀ k : Nat, k < 40 → (-200) ≤ (σ 59 k).toInt ∧ (σ 59 k).toInt ≤ 500) := id hI101
  obtain ⟨i8, w9, w10⟩ : (0 ≤ (σ 55 6).toInt ∧ (σ 55 6).toInt ≤ 4) ∧ (∀ k : Nat, k < 4 → 0 ≤ (σ 60 k).toInt ∧ (σ 60 k).toInt ≤ 50) ∧ (∀ k : Nat, k < 4 → 0 ≤ (σ 61 k).toInt ∧ (σ 61 k).toInt ≤ 20) := id hI102
  have i11 : 0 ≤ (σ 55 9).toInt ∧ (σ 55 9).toInt ≤ 3 := hI103
  obtain ⟨i12, w13⟩ : (0 ≤ (σ 55 15).toInt ∧ (σ 55 15).toInt ≤ 80) ∧ (∀ k : Nat, k < 2 → (-1) ≤ (σ 65 k).toInt ∧ (σ 65 k).toInt ≤ 80) := id hI105
  refine lv_bipush (v := 100) hx hb dX12_outBy_0 (of_decide_eq_true rfl) ?_
  refine lv_aload_n hx hb dX12_outBy_2 rfl (lv_at hl 0 rfl) ?_
  refine va_get (D := D) hx hb hts inlX12 hown hK hP 55 (jc_55 cI cL ad σ τ) rfl 7 (of_decide_eq_true rfl) (hts _ kw_7_6) (fun _ h9 => h9) rfl dX12_outBy_3 ?_
  refine lv_iload_n hx hb dX12_outBy_6 rfl (lv_at hl 1 rfl) ?_
  exact by
   refine jald hx hb hK hP (jc_60 cI cL ad σ τ) (jin t1 (by omega) (by omega)) dX12_outBy_7 ?_
   have g14 := w9 _ (jnat (x := a1) t1 (n := 4) (by omega) (of_decide_eq_true rfl))
   refine jtopr (y := (σ 60 a1.toNatClampNeg)) rfl ?_
   refine lv_aload_n hx hb dX12_outBy_8 rfl (lv_at hl 0 rfl) ?_
   refine va_get (D := D) hx hb hts inlX12 hown hK hP 55 (jc_55 cI cL ad σ τ) rfl 28 (of_decide_eq_true rfl) (hts _ kw_7_14) (fun _ h9 => h9) rfl dX12_outBy_9 ?_
   refine lv_iload_n hx hb dX12_outBy_12 rfl (lv_at hl 1 rfl) ?_
   refine jald hx hb hK hP (jc_68 cI cL ad σ τ) (jin t1 (by omega) (by omega)) dX12_outBy_13 ?_
   have g15 := hw68 _ (jnat (x := a1) t1 (n := 4) (by omega) (of_decide_eq_true rfl))
   refine jtopr (y := (σ 68 a1.toNatClampNeg)) rfl ?_
   exact by
    have g16 := jrg (rfl : (σ 60 a1.toNatClampNeg).toInt = (σ 60 a1.toNatClampNeg).toInt)
    have g17 := jrg (rfl : (σ 68 a1.toNatClampNeg).toInt = (σ 68 a1.toNatClampNeg).toInt)
    refine lv_imul hx hb dX12_outBy_14 ?_
    refine lv_topi (fun x18 ex18 => ?_)
    have gx18 := jrg (rfl : x18.toInt = x18.toInt)
    have g19 := jrg (rfl : x18.toInt = x18.toInt)
    refine lv_isub hx hb dX12_outBy_15 ?_
    refine lv_topi (fun x20 ex20 => ?_)
    have gx20 := jrg (rfl : x20.toInt = x20.toInt)
    refine lv_istore_n (lv' := [(3, .int x20), (0, .ref (ad 55)), (1, .int a1), (2, .int a2)]) hx hb dX12_outBy_16 rfl hl (of_decide_eq_true rfl) rfl (fun ls hl => ?_)
    refine lv_aload_n hx hb dX12_outBy_17 rfl (lv_at hl 1 rfl) ?_
    refine va_get (D := D) hx hb hts inlX12 hown hK hP 55 (jc_55 cI cL ad σ τ) rfl 0 (of_decide_eq_true rfl) (hts _ kw_7_2) (fun _ h9 => h9) rfl dX12_outBy_18 ?_
    refine lv_iconst (v := 4) hx hb dX12_outBy_21 (of_decide_eq_true rfl) ?_
    refine lv_iload_n hx hb dX12_outBy_22 rfl (lv_at hl 2 rfl) ?_
    refine lv_imul hx hb dX12_outBy_23 ?_
    refine lv_topi (fun x21 ex21 => ?_)
    exact by
     have tx21 : x21.toInt = 4 * A1 := (jmul ex21 jz_4 t1 (by omega) (by omega)).trans (by omega)
     refine lv_iload_n hx hb dX12_outBy_24 rfl (lv_at hl 3 rfl) ?_
     refine lv_iadd hx hb dX12_outBy_25 ?_
     refine lv_topi (fun x22 ex22 => ?_)
     have tx22 : x22.toInt = 4 * A1 + A2 := (jadd ex22 tx21 t2 (by omega) (by omega)).trans (by omega)
     refine jald hx hb hK hP (jc_56 cI cL ad σ τ) (jin tx22 (by omega) (by omega)) dX12_outBy_26 ?_
     have g23 := w4 _ (jnat (x := x22) tx22 (n := 68) (by omega) (of_decide_eq_true rfl))
     refine jtopr (y := (σ 56 x22.toNatClampNeg)) rfl ?_
     refine lv_aload_n hx hb dX12_outBy_27 rfl (lv_at hl 1 rfl) ?_
     exact by
      refine va_get (D := D) hx hb hts inlX12 hown hK hP 55 (jc_55 cI cL ad σ τ) rfl 0 (of_decide_eq_true rfl) (hts _ kw_7_2) (fun _ h9 => h9) rfl dX12_outBy_28 ?_
      refine lv_bipush (v := 36) hx hb dX12_outBy_31 (of_decide_eq_true rfl) ?_
      refine lv_iconst (v := 4) hx hb dX12_outBy_33 (of_decide_eq_true rfl) ?_
      refine lv_aload_n hx hb dX12_outBy_34 rfl (lv_at hl 1 rfl) ?_
      refine va_get (D := D) hx hb hts inlX12 hown hK hP 55 (jc_55 cI cL ad σ τ) rfl 9 (of_decide_eq_true rfl) (hts _ kw_12_14) (fun _ h9 => h9) rfl dX12_outBy_35 ?_
      have g24 := jrg (rfl : (σ 55 9).toInt = (σ 55 9).toInt)
      refine lv_imul hx hb dX12_outBy_38 ?_
      refine lv_topi (fun x25 ex25 => ?_)
      have tx25 : x25.toInt = 4 * (σ 55 9).toInt := (jmul ex25 jz_4 rfl (by omega) (by omega)).trans (by omega)
      exact by
       refine lv_iadd hx hb dX12_outBy_39 ?_
       refine lv_topi (fun x26 ex26 => ?_)
       have tx26 : x26.toInt = 4 * (σ 55 9).toInt + 36 := (jadd ex26 jz_36 tx25 (by omega) (by omega)).trans (by omega)
       refine lv_iload_n hx hb dX12_outBy_40 rfl (lv_at hl 3 rfl) ?_
       refine lv_iadd hx hb dX12_outBy_41 ?_
       refine lv_topi (fun x27 ex27 => ?_)
       have tx27 : x27.toInt = 4 * (σ 55 9).toInt + A2 + 36 := (jadd ex27 tx26 t2 (by omega) (by omega)).trans (by omega)
       refine jald hx hb hK hP (jc_56 cI cL ad σ τ) (jin tx27 (by omega) (by omega)) dX12_outBy_42 ?_
       have g28 := w4 _ (jnat (x := x27) tx27 (n := 68) (by omega) (of_decide_eq_true rfl))
       exact by
        refine jtopr (y := (σ 56 x27.toNatClampNeg)) rfl ?_
        have g29 := jrg (rfl : (σ 56 x22.toNatClampNeg).toInt = (σ 56 x22.toNatClampNeg).toInt)
        have g30 := jrg (rfl : (σ 56 x27.toNatClampNeg).toInt = (σ 56 x27.toNatClampNeg).toInt)
        refine lv_iadd hx hb dX12_outBy_43 ?_
        refine lv_topi (fun x31 ex31 => ?_)
        have tx31 : x31.toInt = (σ 56 x22.toNatClampNeg).toInt + (σ 56 x27.toNatClampNeg).toInt := (jadd ex31 rfl rfl (by omega) (by omega)).trans (by omega)
        refine lv_iload_n hx hb dX12_outBy_44 rfl (lv_at hl 0 rfl) ?_
        refine lv_if_ge (tgt := 52) hx hb dX12_outBy_45 (of_decide_eq_true rfl) (fun c32 => ?_) (fun c32 => ?_)
        · have kc32 := jle c32 jz_0 rfl
          exact by
           refine lv_iload_n hx hb dX12_outBy_52 rfl (lv_at hl 0 rfl) ?_
           have g33 := jrg (rfl : x20.toInt = x20.toInt)
           refine lv_imul hx hb dX12_outBy_53 ?_
           refine lv_topi (fun x34 ex34 => ?_)
           have gx34 := jrg (rfl : x34.toInt = x34.toInt)
           refine lv_bipush (v := 100) hx hb dX12_outBy_54 (of_decide_eq_true rfl) ?_
           refine lv_idiv hx hb dX12_outBy_56 (of_decide_eq_true rfl) ?_
           refine lv_topi (fun x35 ex35 => ?_)
           have gx35 := jrg (rfl : x35.toInt = x35.toInt)
           refine lv_istore (lv' := [(4, .int x35), (3, .int x20), (0, .ref (ad 55)), (1, .int a1), (2, .int a2)]) hx hb dX12_outBy_57 hl (of_decide_eq_true rfl) rfl (fun ls hl => ?_)
           refine lv_iload hx hb dX12_outBy_59 (lv_at hl 0 rfl) ?_
           refine lv_aload_n hx hb dX12_outBy_61 rfl (lv_at hl 2 rfl) ?_
           refine va_get (D := D) hx hb hts inlX12 hown hK hP 55 (jc_55 cI cL ad σ τ) rfl 17 (of_decide_eq_true rfl) (hts _ kw_7_11) (fun _ h9 => h9) rfl dX12_outBy_62 ?_
           refine lv_iconst (v := 1) hx hb dX12_outBy_65 (of_decide_eq_true rfl) ?_
           exact by
            refine jald hx hb hK hP (jc_65 cI cL ad σ τ) (jin jz_1 (by omega) (by omega)) dX12_outBy_66 ?_
            refine jtopr (y := σ 65 1) rfl ?_
            have g36 := w13 1 (of_decide_eq_true rfl)
            refine lv_if_ge (tgt := 74) hx hb dX12_outBy_67 (of_decide_eq_true rfl) (fun c37 => ?_) (fun c37 => ?_)
            · have kc37 := jle c37 jz_0 rfl
              refine lv_aload_n hx hb dX12_outBy_74 rfl (lv_at hl 2 rfl) ?_
              refine lv_iconst (v := 1) hx hb dX12_outBy_75 (of_decide_eq_true rfl) ?_
              refine lv_iload_n hx hb dX12_outBy_76 rfl (lv_at hl 3 rfl) ?_
              refine lv_iload_n hx hb dX12_outBy_77 rfl (lv_at hl 4 rfl) ?_
              refine lv_iconst (v := 0) hx hb dX12_outBy_78 (of_decide_eq_true rfl) ?_
              refine lv_iconst (v := 0) hx hb dX12_outBy_79 (of_decide_eq_true rfl) ?_
              exact by
               refine jcallV (As := [.int 1, .int a1, .int a2, .int 0, .int 0]) (rest := [.int x35]) ⟨hx, hb, hml, hown, hts⟩ hK hP hA hS hZ (c_X12_textGives_1 l D cI cL ad zz hJ σ τ a1 (A1) t1 a2 (A2) t2 0 (0) jz_0 0 (0) jz_0 hI105 hs_jTR (by omega) (by omega)) cw_RX12_252 (jc_55 cI cL ad σ τ) rfl ⟨Nat.le_of_ble_eq_true rfl, Nat.le_of_ble_eq_true rfl⟩ rfl rfl rfl hl.1 rfl (Nat.le_of_ble_eq_true rfl) dX12_outBy_80 ⟨Nat.zero_le _, Nat.zero_le _⟩ (fun r39 σ38 τ38 H locs h38 hP hS => ?_)
               obtain ⟨rfl, f40, f41, p42, w43, h38⟩ := h38
               have g45 := jrg (rfl : x35.toInt = x35.toInt)
               have g46 := jrg (rfl : r39.toInt = r39.toInt)
               refine lv_iadd hx hb dX12_outBy_83 ?_
               refine lv_topi (fun x47 ex47 => ?_)
               have gx47 := jrg (rfl : x47.toInt = x47.toInt)
               refine lv_istore (lv' := [(4, .int x47), (3, .int x20), (0, .ref (ad 55)), (1, .int a1), (2, .int a2)]) hx hb dX12_outBy_84 hl (of_decide_eq_true rfl) rfl (fun ls hl => ?_)
               refine lv_iload hx hb dX12_outBy_86 (lv_at hl 0 rfl) ?_
               refine lv_if_ge (tgt := 95) hx hb dX12_outBy_88 (of_decide_eq_true rfl) (fun c48 => ?_) (fun c48 => ?_)
               · have kc48 := jle c48 jz_0 rfl
                 refine lv_iload hx hb dX12_outBy_95 (lv_at hl 0 rfl) ?_
                 refine lv_sipush (v := 1000) hx hb dX12_outBy_97 (of_decide_eq_true rfl) ?_
                 refine lv_icmp_le (tgt := 109) hx hb dX12_outBy_100 (of_decide_eq_true rfl) (fun c49 => ?_) (fun c49 => ?_)
                 · have kc49 := jle c49 rfl jz_1000
                   refine lv_iload hx hb dX12_outBy_109 (lv_at hl 0 rfl) ?_
                   have f50 : jFr (σ 60 (A1).toNat) (σ 68 (A1).toNat) = x20 := by
                     have w : 100 - σ 60 (A1).toNat * (σ 68 (A1).toNat) = x20 := by rw [ex20, ex18, jnc (show a1.toInt = A1 by have h9 := t1; omega)]
                     unfold jFr; rw [w, if_neg (by omega)]
                   exact by
                    have q51 : jB0 (σ 56 (4 * (A1) + (A2)).toNat) (σ 56 (36 + 4 * (σ 55 9).toInt + (A2)).toNat) (jFr (σ 60 (A1).toNat) (σ 68 (A1).toNat)) = x35 := by
                      rw [f50]; unfold jB0; rw [ex35, ex34, ex31, jnc (show x22.toInt = 4 * (A1) + (A2) by omega), jnc (show x27.toInt = 36 + 4 * (σ 55 9).toInt + (A2) by omega)]
                    exact by exact hret x47 σ38 τ _ _ _ _ rfl ⟨rfl, (fun i hi => (f40 i hi)), (fun i hi => (f41 i hi)), p42, (by rw [q51, (show x35 + jGr (fun k : Nat => σ 64 (80 * 1 + k)) (σ 65 1).toInt (jN8 (σ 55 26) (σ 55 25) a2 a1 (σ 68 (A1).toNat) (jleft σ a1) 0 0) = x47 from by rw [ex47, ← w43])]; exact jClp_m (c := 1000) (by omega) (of_decide_eq_true rfl) (by omega)), ⟨trivial, (by omega)⟩⟩ hP hS dX12_outBy_111
                 · have kc49 := jnle c49 rfl jz_1000
                   refine lv_sipush (v := 1000) hx hb dX12_outBy_103 (of_decide_eq_true rfl) ?_
                   refine lv_goto (tgt := 111) hx hb dX12_outBy_106 (of_decide_eq_true rfl) ?_
                   have f53 : jFr (σ 60 (A1).toNat) (σ 68 (A1).toNat) = x20 := by
                     have w : 100 - σ 60 (A1).toNat * (σ 68 (A1).toNat) = x20 := by rw [ex20, ex18, jnc (show a1.toInt = A1 by have h9 := t1; omega)]
                     unfold jFr; rw [w, if_neg (by omega)]
                   exact by
                    have q54 : jB0 (σ 56 (4 * (A1) + (A2)).toNat) (σ 56 (36 + 4 * (σ 55 9).toInt + (A2)).toNat) (jFr (σ 60 (A1).toNat) (σ 68 (A1).toNat)) = x35 := by
                      rw [f53]; unfold jB0; rw [ex35, ex34, ex31, jnc (show x22.toInt = 4 * (A1) + (A2) by omega), jnc (show x27.toInt = 36 + 4 * (σ 55 9).toInt + (A2) by omega)]
                    exact by exact hret 1000 σ38 τ _ _ _ _ rfl ⟨rfl, (fun i hi => (f40 i hi)), (fun i hi => (f41 i hi)), p42, (by rw [q54, (show x35 + jGr (fun k : Nat => σ 64 (80 * 1 + k)) (σ 65 1).toInt (jN8 (σ 55 26) (σ 55 25) a2 a1 (σ 68 (A1).toNat) (jleft σ a1) 0 0) = x47 from by rw [ex47, ← w43])]; exact jClp_m (c := 1000) (by omega) (of_decide_eq_true rfl) (by have h9 := jz_1000; omega)), ⟨trivial, (by have h9 := jz_1000; omega)⟩⟩ hP hS dX12_outBy_111
               · have kc48 := jnle c48 jz_0 rfl
                 refine lv_iconst (v := 0) hx hb dX12_outBy_91 (of_decide_eq_true rfl) ?_
                 refine lv_goto (tgt := 111) hx hb dX12_outBy_92 (of_decide_eq_true rfl) ?_
                 have f56 : jFr (σ 60 (A1).toNat) (σ 68 (A1).toNat) = x20 := by
                   have w : 100 - σ 60 (A1).toNat * (σ 68 (A1).toNat) = x20 := by rw [ex20, ex18, jnc (show a1.toInt = A1 by have h9 := t1; omega)]
                   unfold jFr; rw [w, if_neg (by omega)]
                 exact by
                  have q57 : jB0 (σ 56 (4 * (A1) + (A2)).toNat) (σ 56 (36 + 4 * (σ 55 9).toInt + (A2)).toNat) (jFr (σ 60 (A1).toNat) (σ 68 (A1).toNat)) = x35 := by
                    rw [f56]; unfold jB0; rw [ex35, ex34, ex31, jnc (show x22.toInt = 4 * (A1) + (A2) by omega), jnc (show x27.toInt = 36 + 4 * (σ 55 9).toInt + (A2) by omega)]
                  exact by exact hret 0 σ38 τ _ _ _ _ rfl ⟨rfl, (fun i hi => (f40 i hi)), (fun i hi => (f41 i hi)), p42, (by rw [q57, (show x35 + jGr (fun k : Nat => σ 64 (80 * 1 + k)) (σ 65 1).toInt (jN8 (σ 55 26) (σ 55 25) a2 a1 (σ 68 (A1).toNat) (jleft σ a1) 0 0) = x47 from by rw [ex47, ← w43])]; exact jClp_0 (by omega)), ⟨trivial, (by have h9 := jz_0; omega)⟩⟩ hP hS dX12_outBy_111
            · have kc37 := jnle c37 jz_0 rfl
              refine lv_iconst (v := 0) hx hb dX12_outBy_70 (of_decide_eq_true rfl) ?_
              refine lv_goto (tgt := 83) hx hb dX12_outBy_71 (of_decide_eq_true rfl) ?_
              refine lv_iadd hx hb dX12_outBy_83 ?_
              refine jtopr (y := x35) (by rw [Int32.add_zero]) ?_
              refine lv_istore (lv' := [(4, .int x35), (3, .int x20), (0, .ref (ad 55)), (1, .int a1), (2, .int a2)]) hx hb dX12_outBy_84 hl (of_decide_eq_true rfl) rfl (fun ls hl => ?_)
              exact by
               refine lv_iload hx hb dX12_outBy_86 (lv_at hl 0 rfl) ?_
               refine lv_if_ge (tgt := 95) hx hb dX12_outBy_88 (of_decide_eq_true rfl) (fun c59 => ?_) (fun c59 => ?_)
               · have kc59 := jle c59 jz_0 rfl
                 refine lv_iload hx hb dX12_outBy_95 (lv_at hl 0 rfl) ?_
                 refine lv_sipush (v := 1000) hx hb dX12_outBy_97 (of_decide_eq_true rfl) ?_
                 refine lv_icmp_le (tgt := 109) hx hb dX12_outBy_100 (of_decide_eq_true rfl) (fun c60 => ?_) (fun c60 => ?_)
                 · have kc60 := jle c60 rfl jz_1000
                   refine lv_iload hx hb dX12_outBy_109 (lv_at hl 0 rfl) ?_
                   have f61 : jFr (σ 60 (A1).toNat) (σ 68 (A1).toNat) = x20 := by
                     have w : 100 - σ 60 (A1).toNat * (σ 68 (A1).toNat) = x20 := by rw [ex20, ex18, jnc (show a1.toInt = A1 by have h9 := t1; omega)]
                     unfold jFr; rw [w, if_neg (by omega)]
                   exact by
                    have q62 : jB0 (σ 56 (4 * (A1) + (A2)).toNat) (σ 56 (36 + 4 * (σ 55 9).toInt + (A2)).toNat) (jFr (σ 60 (A1).toNat) (σ 68 (A1).toNat)) = x35 := by
                      rw [f61]; unfold jB0; rw [ex35, ex34, ex31, jnc (show x22.toInt = 4 * (A1) + (A2) by omega), jnc (show x27.toInt = 36 + 4 * (σ 55 9).toInt + (A2) by omega)]
                    exact by exact hret x35 σ τ _ _ _ _ rfl ⟨rfl, (fun _ _ => rfl), (fun _ _ => rfl), hs_jTR, (by rw [q62, (show x35 + jGr (fun k : Nat => σ 64 (80 * 1 + k)) (σ 65 1).toInt (jN8 (σ 55 26) (σ 55 25) a2 a1 (σ 68 (A1).toNat) (jleft σ a1) 0 0) = x35 from by rw [jGr_no (by omega), Int32.add_zero])]; exact jClp_m (c := 1000) (by omega) (of_decide_eq_true rfl) (by omega)), ⟨trivial, (by omega)⟩⟩ hP hS dX12_outBy_111
                 · have kc60 := jnle c60 rfl jz_1000
                   refine lv_sipush (v := 1000) hx hb dX12_outBy_103 (of_decide_eq_true rfl) ?_
                   refine lv_goto (tgt := 111) hx hb dX12_outBy_106 (of_decide_eq_true rfl) ?_
                   have f64 : jFr (σ 60 (A1).toNat) (σ 68 (A1).toNat) = x20 := by
                     have w : 100 - σ 60 (A1).toNat * (σ 68 (A1).toNat) = x20 := by rw [ex20, ex18, jnc (show a1.toInt = A1 by have h9 := t1; omega)]
                     unfold jFr; rw [w, if_neg (by omega)]
                   exact by
                    have q65 : jB0 (σ 56 (4 * (A1) + (A2)).toNat) (σ 56 (36 + 4 * (σ 55 9).toInt + (A2)).toNat) (jFr (σ 60 (A1).toNat) (σ 68 (A1).toNat)) = x35 := by
                      rw [f64]; unfold jB0; rw [ex35, ex34, ex31, jnc (show x22.toInt = 4 * (A1) + (A2) by omega), jnc (show x27.toInt = 36 + 4 * (σ 55 9).toInt + (A2) by omega)]
                    exact by exact hret 1000 σ τ _ _ _ _ rfl ⟨rfl, (fun _ _ => rfl), (fun _ _ => rfl), hs_jTR, (by rw [q65, (show x35 + jGr (fun k : Nat => σ 64 (80 * 1 + k)) (σ 65 1).toInt (jN8 (σ 55 26) (σ 55 25) a2 a1 (σ 68 (A1).toNat) (jleft σ a1) 0 0) = x35 from by rw [jGr_no (by omega), Int32.add_zero])]; exact jClp_m (c := 1000) (by omega) (of_decide_eq_true rfl) (by have h9 := jz_1000; omega)), ⟨trivial, (by have h9 := jz_1000; omega)⟩⟩ hP hS dX12_outBy_111
               · have kc59 := jnle c59 jz_0 rfl
                 refine lv_iconst (v := 0) hx hb dX12_outBy_91 (of_decide_eq_true rfl) ?_
                 refine lv_goto (tgt := 111) hx hb dX12_outBy_92 (of_decide_eq_true rfl) ?_
                 have f67 : jFr (σ 60 (A1).toNat) (σ 68 (A1).toNat) = x20 := by
                   have w : 100 - σ 60 (A1).toNat * (σ 68 (A1).toNat) = x20 := by rw [ex20, ex18, jnc (show a1.toInt = A1 by have h9 := t1; omega)]
                   unfold jFr; rw [w, if_neg (by omega)]
                 exact by
                  have q68 : jB0 (σ 56 (4 * (A1) + (A2)).toNat) (σ 56 (36 + 4 * (σ 55 9).toInt + (A2)).toNat) (jFr (σ 60 (A1).toNat) (σ 68 (A1).toNat)) = x35 := by
                    rw [f67]; unfold jB0; rw [ex35, ex34, ex31, jnc (show x22.toInt = 4 * (A1) + (A2) by omega), jnc (show x27.toInt = 36 + 4 * (σ 55 9).toInt + (A2) by omega)]
                  exact by exact hret 0 σ τ _ _ _ _ rfl ⟨rfl, (fun _ _ => rfl), (fun _ _ => rfl), hs_jTR, (by rw [q68, (show x35 + jGr (fun k : Nat => σ 64 (80 * 1 + k)) (σ 65 1).toInt (jN8 (σ 55 26) (σ 55 25) a2 a1 (σ 68 (A1).toNat) (jleft σ a1) 0 0) = x35 from by rw [jGr_no (by omega), Int32.add_zero])]; exact jClp_0 (by omega)), ⟨trivial, (by have h9 := jz_0; omega)⟩⟩ hP hS dX12_outBy_111
        · have kc32 := jnle c32 jz_0 rfl
          refine lv_iconst (v := 0) hx hb dX12_outBy_48 (of_decide_eq_true rfl) ?_
          refine lv_goto (tgt := 53) hx hb dX12_outBy_49 (of_decide_eq_true rfl) ?_
          refine lv_imul hx hb dX12_outBy_53 ?_
          refine lv_topi (fun x70 ex70 => ?_)
          have tx70 : x70.toInt = 0 := (jmul ex70 tx31 jz_0 (by omega) (by omega)).trans (by omega)
          exact by
           refine lv_bipush (v := 100) hx hb dX12_outBy_54 (of_decide_eq_true rfl) ?_
           refine lv_idiv hx hb dX12_outBy_56 (of_decide_eq_true rfl) ?_
           refine lv_topi (fun x71 ex71 => ?_)
           have tx71 : x71.toInt = (0 / 100) := jdiv ex71 tx70 jz_100 (by omega) (by omega)
           refine lv_istore (lv' := [(4, .int x71), (3, .int x20), (0, .ref (ad 55)), (1, .int a1), (2, .int a2)]) hx hb dX12_outBy_57 hl (of_decide_eq_true rfl) rfl (fun ls hl => ?_)
           refine lv_iload hx hb dX12_outBy_59 (lv_at hl 0 rfl) ?_
           refine lv_aload_n hx hb dX12_outBy_61 rfl (lv_at hl 2 rfl) ?_
           refine va_get (D := D) hx hb hts inlX12 hown hK hP 55 (jc_55 cI cL ad σ τ) rfl 17 (of_decide_eq_true rfl) (hts _ kw_7_11) (fun _ h9 => h9) rfl dX12_outBy_62 ?_
           refine lv_iconst (v := 1) hx hb dX12_outBy_65 (of_decide_eq_true rfl) ?_
           exact by
            refine jald hx hb hK hP (jc_65 cI cL ad σ τ) (jin jz_1 (by omega) (by omega)) dX12_outBy_66 ?_
            refine jtopr (y := σ 65 1) rfl ?_
            have g72 := w13 1 (of_decide_eq_true rfl)
            refine lv_if_ge (tgt := 74) hx hb dX12_outBy_67 (of_decide_eq_true rfl) (fun c73 => ?_) (fun c73 => ?_)
            · have kc73 := jle c73 jz_0 rfl
              refine lv_aload_n hx hb dX12_outBy_74 rfl (lv_at hl 2 rfl) ?_
              refine lv_iconst (v := 1) hx hb dX12_outBy_75 (of_decide_eq_true rfl) ?_
              refine lv_iload_n hx hb dX12_outBy_76 rfl (lv_at hl 3 rfl) ?_
              refine lv_iload_n hx hb dX12_outBy_77 rfl (lv_at hl 4 rfl) ?_
              refine lv_iconst (v := 0) hx hb dX12_outBy_78 (of_decide_eq_true rfl) ?_
              refine lv_iconst (v := 0) hx hb dX12_outBy_79 (of_decide_eq_true rfl) ?_
              exact by
               refine jcallV (As := [.int 1, .int a1, .int a2, .int 0, .int 0]) (rest := [.int x71]) ⟨hx, hb, hml, hown, hts⟩ hK hP hA hS hZ (c_X12_textGives_1 l D cI cL ad zz hJ σ τ a1 (A1) t1 a2 (A2) t2 0 (0) jz_0 0 (0) jz_0 hI105 hs_jTR (by omega) (by omega)) cw_RX12_252 (jc_55 cI cL ad σ τ) rfl ⟨Nat.le_of_ble_eq_true rfl, Nat.le_of_ble_eq_true rfl⟩ rfl rfl rfl hl.1 rfl (Nat.le_of_ble_eq_true rfl) dX12_outBy_80 ⟨Nat.zero_le _, Nat.zero_le _⟩ (fun r75 σ74 τ74 H locs h74 hP hS => ?_)
               obtain ⟨rfl, f76, f77, p78, w79, h74⟩ := h74
               have g81 := jrg (rfl : r75.toInt = r75.toInt)
               refine lv_iadd hx hb dX12_outBy_83 ?_
               refine lv_topi (fun x82 ex82 => ?_)
               have tx82 : x82.toInt = (0 / 100) + r75.toInt := (jadd ex82 tx71 rfl (by omega) (by omega)).trans (by omega)
               refine lv_istore (lv' := [(4, .int x82), (3, .int x20), (0, .ref (ad 55)), (1, .int a1), (2, .int a2)]) hx hb dX12_outBy_84 hl (of_decide_eq_true rfl) rfl (fun ls hl => ?_)
               refine lv_iload hx hb dX12_outBy_86 (lv_at hl 0 rfl) ?_
               refine lv_if_ge (tgt := 95) hx hb dX12_outBy_88 (of_decide_eq_true rfl) (fun c83 => ?_) (fun c83 => ?_)
               · exact by
                  have kc83 := jle c83 jz_0 tx82
                  refine lv_iload hx hb dX12_outBy_95 (lv_at hl 0 rfl) ?_
                  refine lv_sipush (v := 1000) hx hb dX12_outBy_97 (of_decide_eq_true rfl) ?_
                  refine lv_icmp_le (tgt := 109) hx hb dX12_outBy_100 (of_decide_eq_true rfl) (fun c84 => ?_) (fun c84 => ?_)
                  · have kc84 := jle c84 tx82 jz_1000
                    refine lv_iload hx hb dX12_outBy_109 (lv_at hl 0 rfl) ?_
                    have f85 : jFr (σ 60 (A1).toNat) (σ 68 (A1).toNat) = 0 := by
                      have w : 100 - σ 60 (A1).toNat * (σ 68 (A1).toNat) = x20 := by rw [ex20, ex18, jnc (show a1.toInt = A1 by have h9 := t1; omega)]
                      unfold jFr; rw [w, if_pos (by omega)]
                    exact by
                     have q86 : jB0 (σ 56 (4 * (A1) + (A2)).toNat) (σ 56 (36 + 4 * (σ 55 9).toInt + (A2)).toNat) (jFr (σ 60 (A1).toNat) (σ 68 (A1).toNat)) = x71 := by
                       rw [f85]; unfold jB0; rw [ex71, ex70, ex31, jnc (show x22.toInt = 4 * (A1) + (A2) by omega), jnc (show x27.toInt = 36 + 4 * (σ 55 9).toInt + (A2) by omega)]
                     exact by exact hret x82 σ74 τ _ _ _ _ rfl ⟨rfl, (fun i hi => (f76 i hi)), (fun i hi => (f77 i hi)), p78, (by rw [q86, (show x71 + jGr (fun k : Nat => σ 64 (80 * 1 + k)) (σ 65 1).toInt (jN8 (σ 55 26) (σ 55 25) a2 a1 (σ 68 (A1).toNat) (jleft σ a1) 0 0) = x82 from by rw [ex82, ← w79])]; exact jClp_m (c := 1000) (by omega) (of_decide_eq_true rfl) (by have h9 := tx82; omega)), ⟨trivial, (by have h9 := tx82; omega)⟩⟩ hP hS dX12_outBy_111
                  · have kc84 := jnle c84 tx82 jz_1000
                    refine lv_sipush (v := 1000) hx hb dX12_outBy_103 (of_decide_eq_true rfl) ?_
                    refine lv_goto (tgt := 111) hx hb dX12_outBy_106 (of_decide_eq_true rfl) ?_
                    have f88 : jFr (σ 60 (A1).toNat) (σ 68 (A1).toNat) = 0 := by
                      have w : 100 - σ 60 (A1).toNat * (σ 68 (A1).toNat) = x20 := by rw [ex20, ex18, jnc (show a1.toInt = A1 by have h9 := t1; omega)]
                      unfold jFr; rw [w, if_pos (by omega)]
                    exact by
                     have q89 : jB0 (σ 56 (4 * (A1) + (A2)).toNat) (σ 56 (36 + 4 * (σ 55 9).toInt + (A2)).toNat) (jFr (σ 60 (A1).toNat) (σ 68 (A1).toNat)) = x71 := by
                       rw [f88]; unfold jB0; rw [ex71, ex70, ex31, jnc (show x22.toInt = 4 * (A1) + (A2) by omega), jnc (show x27.toInt = 36 + 4 * (σ 55 9).toInt + (A2) by omega)]
                     exact by exact hret 1000 σ74 τ _ _ _ _ rfl ⟨rfl, (fun i hi => (f76 i hi)), (fun i hi => (f77 i hi)), p78, (by rw [q89, (show x71 + jGr (fun k : Nat => σ 64 (80 * 1 + k)) (σ 65 1).toInt (jN8 (σ 55 26) (σ 55 25) a2 a1 (σ 68 (A1).toNat) (jleft σ a1) 0 0) = x82 from by rw [ex82, ← w79])]; exact jClp_m (c := 1000) (by omega) (of_decide_eq_true rfl) (by have h9 := jz_1000; omega)), ⟨trivial, (by have h9 := jz_1000; omega)⟩⟩ hP hS dX12_outBy_111
               · have kc83 := jnle c83 jz_0 tx82
                 refine lv_iconst (v := 0) hx hb dX12_outBy_91 (of_decide_eq_true rfl) ?_
                 refine lv_goto (tgt := 111) hx hb dX12_outBy_92 (of_decide_eq_true rfl) ?_
                 have f91 : jFr (σ 60 (A1).toNat) (σ 68 (A1).toNat) = 0 := by
                   have w : 100 - σ 60 (A1).toNat * (σ 68 (A1).toNat) = x20 := by rw [ex20, ex18, jnc (show a1.toInt = A1 by have h9 := t1; omega)]
                   unfold jFr; rw [w, if_pos (by omega)]
                 exact by
                  have q92 : jB0 (σ 56 (4 * (A1) + (A2)).toNat) (σ 56 (36 + 4 * (σ 55 9).toInt + (A2)).toNat) (jFr (σ 60 (A1).toNat) (σ 68 (A1).toNat)) = x71 := by
                    rw [f91]; unfold jB0; rw [ex71, ex70, ex31, jnc (show x22.toInt = 4 * (A1) + (A2) by omega), jnc (show x27.toInt = 36 + 4 * (σ 55 9).toInt + (A2) by omega)]
                  exact by exact hret 0 σ74 τ _ _ _ _ rfl ⟨rfl, (fun i hi => (f76 i hi)), (fun i hi => (f77 i hi)), p78, (by rw [q92, (show x71 + jGr (fun k : Nat => σ 64 (80 * 1 + k)) (σ 65 1).toInt (jN8 (σ 55 26) (σ 55 25) a2 a1 (σ 68 (A1).toNat) (jleft σ a1) 0 0) = x82 from by rw [ex82, ← w79])]; exact jClp_0 (by omega)), ⟨trivial, (by have h9 := jz_0; omega)⟩⟩ hP hS dX12_outBy_111
            · have kc73 := jnle c73 jz_0 rfl
              refine lv_iconst (v := 0) hx hb dX12_outBy_70 (of_decide_eq_true rfl) ?_
              refine lv_goto (tgt := 83) hx hb dX12_outBy_71 (of_decide_eq_true rfl) ?_
              refine lv_iadd hx hb dX12_outBy_83 ?_
              refine jtopr (y := x71) (by rw [Int32.add_zero]) ?_
              refine lv_istore (lv' := [(4, .int x71), (3, .int x20), (0, .ref (ad 55)), (1, .int a1), (2, .int a2)]) hx hb dX12_outBy_84 hl (of_decide_eq_true rfl) rfl (fun ls hl => ?_)
              exact by
               refine lv_iload hx hb dX12_outBy_86 (lv_at hl 0 rfl) ?_
               refine lv_if_ge (tgt := 95) hx hb dX12_outBy_88 (of_decide_eq_true rfl) (fun c94 => ?_) (fun c => absurd (jnle c jz_0 tx71) (by omega))
               have kc94 := jle c94 jz_0 tx71
               refine lv_iload hx hb dX12_outBy_95 (lv_at hl 0 rfl) ?_
               refine lv_sipush (v := 1000) hx hb dX12_outBy_97 (of_decide_eq_true rfl) ?_
               refine lv_icmp_le (tgt := 109) hx hb dX12_outBy_100 (of_decide_eq_true rfl) (fun c95 => ?_) (fun c => absurd (jnle c tx71 jz_1000) (by omega))
               have kc95 := jle c95 tx71 jz_1000
               refine lv_iload hx hb dX12_outBy_109 (lv_at hl 0 rfl) ?_
               have f96 : jFr (σ 60 (A1).toNat) (σ 68 (A1).toNat) = 0 := by
                 exact by
                  have w : 100 - σ 60 (A1).toNat * (σ 68 (A1).toNat) = x20 := by rw [ex20, ex18, jnc (show a1.toInt = A1 by have h9 := t1; omega)]
                  unfold jFr; rw [w, if_pos (by omega)]
               have q97 : jB0 (σ 56 (4 * (A1) + (A2)).toNat) (σ 56 (36 + 4 * (σ 55 9).toInt + (A2)).toNat) (jFr (σ 60 (A1).toNat) (σ 68 (A1).toNat)) = x71 := by
                 rw [f96]; unfold jB0; rw [ex71, ex70, ex31, jnc (show x22.toInt = 4 * (A1) + (A2) by omega), jnc (show x27.toInt = 36 + 4 * (σ 55 9).toInt + (A2) by omega)]
               exact by exact hret x71 σ τ _ _ _ _ rfl ⟨rfl, (fun _ _ => rfl), (fun _ _ => rfl), hs_jTR, (by rw [q97, (show x71 + jGr (fun k : Nat => σ 64 (80 * 1 + k)) (σ 65 1).toInt (jN8 (σ 55 26) (σ 55 25) a2 a1 (σ 68 (A1).toNat) (jleft σ a1) 0 0) = x71 from by rw [jGr_no (by omega), Int32.add_zero])]; exact jClp_m (c := 1000) (by omega) (of_decide_eq_true rfl) (by have h9 := tx71; omega)), ⟨trivial, (by have h9 := tx71; omega)⟩⟩ hP hS dX12_outBy_111
set_option maxHeartbeats 4000000 in
set_option maxRecDepth 100000 in
theorem c_X12_goes_0 (l : Launch) (D : va_G) (cI cL : ClassId) (ad zz : Nat → Nat) (hJ : jD ad) (σ : Nat → Nat → Int32) (τ : Nat → Nat → Int64) (a1 : Int32) (A1 : Int) (t1 : a1.toInt = A1) (hw68 : ∀ k : Nat, k < 4 → 0 ≤ (σ 68 k).toInt ∧ (σ 68 k).toInt ≤ 3) (hp0 : 0 ≤ A1 ∧ A1 ≤ 3) (hp1 : 0 ≤ (σ 55 6).toInt ∧ (σ 55 6).toInt ≤ 4) (hp2 : (-1) ≤ (σ 55 27).toInt ∧ (σ 55 27).toInt ≤ 3) (hp3 : 0 ≤ (σ 55 25).toInt ∧ (σ 55 25).toInt ≤ 12) (hp4 : 0 ≤ (σ 55 26).toInt ∧ (σ 55 26).toInt ≤ 12) : jM l yX12_goes cX12_goes 5 (some .int) ({ frames := 0, cells := 0, slots := 0, locals := 0 }) D cI cL ad zz [.ref (ad 55), .int a1, .int 0] σ τ (fun r σ' τ' => τ = τ' ∧ (∀ i : Nat, (i < 55 ∨ 55 < i) ∧ (i < 68 ∨ 69 < i) → σ' i = σ i) ∧ (∀ k : Nat, (k < 25 ∨ 25 < k) ∧ (k < 26 ∨ 26 < k) ∧ (k < 27 ∨ 27 < k) → σ' 55 k = σ 55 k) ∧ (∀ k : Nat, k < 4 → 0 ≤ (σ' 68 k).toInt ∧ (σ' 68 k).toInt ≤ 3) ∧ (σ' 69 = jupd (σ 69) a1.toNatClampNeg (σ 69 a1.toNatClampNeg + 1)) ∧ (∀ k : Nat, (σ 55 6).toInt ≤ k → σ' 68 k = σ 68 k) ∧ ((∀ c : Nat, (c : Int) < (σ 55 6).toInt → jrS σ' c = jSn (jrS σ) (A1).toNat c)) ∧ ((σ' 55 25).toInt = (σ 55 25).toInt) ∧ ((σ' 55 26).toInt = (σ 55 26).toInt + 1) ∧ ((σ' 55 27).toInt = A1) ∧ ((True ∧ (((σ 55 6).toInt = 0 ∧ r.toInt = (σ 55 27).toInt + 1) ∨ ((σ 55 6).toInt = 1 ∧ r.toInt = 4 * (σ 55 27).toInt + (σ 68 0).toInt + 4) ∨ ((σ 55 6).toInt = 2 ∧ r.toInt = 16 * (σ 55 27).toInt + 4 * (σ 68 0).toInt + (σ 68 1).toInt + 16) ∨ ((σ 55 6).toInt = 3 ∧ r.toInt = 64 * (σ 55 27).toInt + 16 * (σ 68 0).toInt + 4 * (σ 68 1).toInt + (σ 68 2).toInt + 64) ∨ ((σ 55 6).toInt = 4 ∧ r.toInt = 256 * (σ 55 27).toInt + 64 * (σ 68 0).toInt + 16 * (σ 68 1).toInt + 4 * (σ 68 2).toInt + (σ 68 3).toInt + 256)) ∧ (0 ≤ (σ 68 0).toInt ∧ (σ 68 0).toInt ≤ 3) ∧ (0 ≤ (σ 68 1).toInt ∧ (σ 68 1).toInt ≤ 3) ∧ (0 ≤ (σ 68 2).toInt ∧ (σ 68 2).toInt ≤ 3) ∧ (0 ≤ (σ 68 3).toInt ∧ (σ 68 3).toInt ≤ 3)))) := by
  refine jM.of hJ (by decide +kernel) (nt := .int) rfl (Nat.le_of_ble_eq_true rfl) ?_
  intro p e s m args below meth c Q ls hC hret hl hP
  obtain ⟨hx, hb, hr, hml, hown, hts, hK, -, hlocks, hZ⟩ := hC
  have hown : s.vm.findClass RX12 = some m.cls := hown
  have hS : va_S (jA ad) s.heap s.heap [] := va_S.rf
  have hA : ∀ q, jA ad q → jA ad q := fun _ h => h
  have hl : lv_has ls 5 [(0, .ref (ad 55)), (1, .int a1), (2, .int 0)] := hl
  have g1 := jrg t1
  have s0 := hw68 0 (of_decide_eq_true rfl)
  have s1 := hw68 1 (of_decide_eq_true rfl)
  have s2 := hw68 2 (of_decide_eq_true rfl)
  have s3 := hw68 3 (of_decide_eq_true rfl)
  by_cases c1 : σ 55 6 = 0
  · have kc1 := jeq c1 (rfl : (σ 55 6).toInt = (σ 55 6).toInt) jz_0
    refine lv_aload_n hx hb dX12_goes_0 rfl (lv_at hl 0 rfl) ?_
    refine va_get (D := D) hx hb hts inlX12 hown hK hP 55 (jc_55 cI cL ad σ τ) rfl 27 (of_decide_eq_true rfl) (hts _ kw_23_11) (fun _ h9 => h9) rfl dX12_goes_1 ?_
    refine lv_iconst (v := 1) hx hb dX12_goes_4 (of_decide_eq_true rfl) ?_
    have g2 := jrg (rfl : (σ 55 27).toInt = (σ 55 27).toInt)
    refine lv_iadd hx hb dX12_goes_5 ?_
    refine lv_topi (fun x3 ex3 => ?_)
    exact by
     have tx3 : x3.toInt = (σ 55 27).toInt + 1 := (jadd ex3 rfl jz_1 (by omega) (by omega)).trans (by omega)
     refine lv_istore_n (lv' := [(3, .int x3), (0, .ref (ad 55)), (1, .int a1), (2, .int 0)]) hx hb dX12_goes_6 rfl hl (of_decide_eq_true rfl) rfl (fun ls hl => ?_)
     refine lv_iconst (v := 0) hx hb dX12_goes_7 (of_decide_eq_true rfl) ?_
     refine lv_istore (lv' := [(4, .int 0), (3, .int x3), (0, .ref (ad 55)), (1, .int a1), (2, .int 0)]) hx hb dX12_goes_8 hl (of_decide_eq_true rfl) rfl (fun ls hl => ?_)
     refine lv_iload hx hb dX12_goes_10 (lv_at hl 0 rfl) ?_
     refine lv_aload_n hx hb dX12_goes_12 rfl (lv_at hl 2 rfl) ?_
     refine va_get (D := D) hx hb hts inlX12 hown hK hP 55 (jc_55 cI cL ad σ τ) rfl 6 (of_decide_eq_true rfl) (hts _ kw_9_13) (fun _ h9 => h9) rfl dX12_goes_13 ?_
     refine jtopr c1 ?_
     refine lv_icmp_ge (tgt := 100) hx hb dX12_goes_16 (of_decide_eq_true rfl) (fun _ => ?_) (fun c => absurd (of_decide_eq_true rfl) c)
     refine lv_aload_n hx hb dX12_goes_100 rfl (lv_at hl 2 rfl) ?_
     refine va_get (D := D) hx hb hts inlX12 hown hK hP 55 (jc_55 cI cL ad σ τ) rfl 29 (of_decide_eq_true rfl) (hts _ kw_7_15) (fun _ h9 => h9) rfl dX12_goes_101 ?_
     refine lv_iload_n hx hb dX12_goes_104 rfl (lv_at hl 3 rfl) ?_
     refine lv_dup2_11 hx hb dX12_goes_105 rfl rfl ?_
     exact by
      refine jald hx hb hK hP (jc_69 cI cL ad σ τ) (jin t1 (by omega) (by omega)) dX12_goes_106 ?_
      refine lv_topi (fun x4 ex4 => ?_)
      refine lv_iconst (v := 1) hx hb dX12_goes_107 (of_decide_eq_true rfl) ?_
      have g5 := jrg (rfl : x4.toInt = x4.toInt)
      refine lv_iadd hx hb dX12_goes_108 ?_
      refine lv_topi (fun x6 ex6 => ?_)
      have gx6 := jrg (rfl : x6.toInt = x6.toInt)
      refine jast hx hb hK hP hJ hA hS (jc_69 cI cL ad σ τ) (ja_69 cI cL ad σ τ _ _) (jin t1 (by omega) (by omega)) dX12_goes_109 (fun σ7 H locs eσ7 hP hS => ?_)
      refine lv_aload_n hx hb dX12_goes_110 rfl (lv_at hl 2 rfl) ?_
      exact by
       refine lv_iload_n hx hb dX12_goes_111 rfl (lv_at hl 3 rfl) ?_
       refine jput (ty := .int) hx hb hts inlX12 tyX12 tyX12_ok nmX12 hown hK hP hJ hA hS (jc_55 cI cL ad σ7 τ) rfl (k := 27) (of_decide_eq_true rfl) (Nat.le_of_ble_eq_true rfl) (jp_55_27 cI cL ad σ7 τ a1) (hts _ kw_23_11) (fun _ h9 => h9) rfl (by decide +kernel) rfl rfl dX12_goes_112 (fun σ8 H locs eσ8 hP hS => ?_)
       refine lv_aload_n hx hb dX12_goes_115 rfl (lv_at hl 2 rfl) ?_
       refine lv_dup hx hb dX12_goes_116 rfl ?_
       refine va_get (D := D) hx hb hts inlX12 hown hK hP 55 (jc_55 cI cL ad σ8 τ) rfl 26 (of_decide_eq_true rfl) (hts _ kw_23_5) (fun _ h9 => h9) rfl dX12_goes_117 ?_
       have m9 : σ8 55 26 = (σ 55 26) := ((jkp 26 eσ8 (of_decide_eq_true rfl)).trans (congrFun (jnp 55 eσ7 (of_decide_eq_true rfl)) 26))
       refine jtopr m9 ?_
       refine lv_iconst (v := 1) hx hb dX12_goes_120 (of_decide_eq_true rfl) ?_
       have g10 := jrg (rfl : (σ 55 26).toInt = (σ 55 26).toInt)
       refine lv_iadd hx hb dX12_goes_121 ?_
       refine lv_topi (fun x11 ex11 => ?_)
       exact by
        have tx11 : x11.toInt = (σ 55 26).toInt + 1 := (jadd ex11 rfl jz_1 (by omega) (by omega)).trans (by omega)
        refine jput (ty := .int) hx hb hts inlX12 tyX12 tyX12_ok nmX12 hown hK hP hJ hA hS (jc_55 cI cL ad σ8 τ) rfl (k := 26) (of_decide_eq_true rfl) (Nat.le_of_ble_eq_true rfl) (jp_55_26 cI cL ad σ8 τ x11) (hts _ kw_23_5) (fun _ h9 => h9) rfl (by decide +kernel) rfl rfl dX12_goes_122 (fun σ12 H locs eσ12 hP hS => ?_)
        refine lv_aload_n hx hb dX12_goes_125 rfl (lv_at hl 2 rfl) ?_
        refine lv_dup hx hb dX12_goes_126 rfl ?_
        refine va_get (D := D) hx hb hts inlX12 hown hK hP 55 (jc_55 cI cL ad σ12 τ) rfl 25 (of_decide_eq_true rfl) (hts _ kw_23_6) (fun _ h9 => h9) rfl dX12_goes_127 ?_
        have m13 : σ12 55 25 = (σ 55 25) := ((jkp 25 eσ12 (of_decide_eq_true rfl)).trans ((jkp 25 eσ8 (of_decide_eq_true rfl)).trans (congrFun (jnp 55 eσ7 (of_decide_eq_true rfl)) 25)))
        refine jtopr m13 ?_
        refine lv_iload_n hx hb dX12_goes_130 rfl (lv_at hl 4 rfl) ?_
        refine lv_if_eq (tgt := 138) hx hb dX12_goes_131 (of_decide_eq_true rfl) (fun _ => ?_) (fun c => absurd (of_decide_eq_true rfl) c)
        refine lv_iconst (v := 0) hx hb dX12_goes_138 (of_decide_eq_true rfl) ?_
        refine lv_iadd hx hb dX12_goes_139 ?_
        exact by
         refine jtopr (y := (σ 55 25)) (by rw [Int32.add_zero]) ?_
         refine jput (ty := .int) hx hb hts inlX12 tyX12 tyX12_ok nmX12 hown hK hP hJ hA hS (jc_55 cI cL ad σ12 τ) rfl (k := 25) (of_decide_eq_true rfl) (Nat.le_of_ble_eq_true rfl) (jp_55_25 cI cL ad σ12 τ (σ 55 25)) (hts _ kw_23_6) (fun _ h9 => h9) rfl (by decide +kernel) rfl rfl dX12_goes_140 (fun σ14 H locs eσ14 hP hS => ?_)
         refine lv_iload_n hx hb dX12_goes_143 rfl (lv_at hl 1 rfl) ?_
         have w15 : ∀ k : Nat, k < 4 → 0 ≤ (σ14 68 k).toInt ∧ (σ14 68 k).toInt ≤ 3 := (jrr_fr (jnp 68 eσ14 (of_decide_eq_true rfl)) (jrr_fr (jnp 68 eσ12 (of_decide_eq_true rfl)) (jrr_fr (jnp 68 eσ8 (of_decide_eq_true rfl)) (jrr_fr (jnp 68 eσ7 (of_decide_eq_true rfl)) hw68))))
         have z16 : (σ14 55 25).toInt = (σ 55 25).toInt := (congrArg Int32.toInt (show σ14 55 25 = (σ 55 25) from (jsp eσ14)))
         have z17 : (σ14 55 26).toInt = (σ 55 26).toInt + 1 := ((congrArg Int32.toInt (show σ14 55 26 = x11 from ((jkp 26 eσ14 (of_decide_eq_true rfl)).trans (jsp eσ12)))).trans tx11)
         have z18 : (σ14 55 27).toInt = A1 := ((congrArg Int32.toInt (show σ14 55 27 = a1 from ((jkp 27 eσ14 (of_decide_eq_true rfl)).trans ((jkp 27 eσ12 (of_decide_eq_true rfl)).trans (jsp eσ8))))).trans t1)
         exact by exact hret x3 σ14 τ _ _ _ _ rfl ⟨rfl, (fun i hi => ((jnp i eσ14 (imp_189 i hi)).trans ((jnp i eσ12 (imp_189 i hi)).trans ((jnp i eσ8 (imp_189 i hi)).trans (jnp i eσ7 (imp_197 i hi)))))), (fun i hi => ((jkp i eσ14 (imp_192 i hi)).trans ((jkp i eσ12 (imp_191 i hi)).trans ((jkp i eσ8 (imp_190 i hi)).trans (congrFun (jnp 55 eσ7 (of_decide_eq_true rfl)) i))))), w15, (by rw [eσ14, jup_n (of_decide_eq_true rfl), eσ12, jup_n (of_decide_eq_true rfl), eσ8, jup_n (of_decide_eq_true rfl), eσ7, jup_row, ex6, ex4]), (fun k hk => by rw [eσ14, jup_n (of_decide_eq_true rfl), eσ12, jup_n (of_decide_eq_true rfl), eσ8, jup_n (of_decide_eq_true rfl), eσ7, jup_n (of_decide_eq_true rfl)]), (fun c hc => absurd hc (by omega)), (by omega), (by omega), (by omega), ⟨trivial, (by have h9 := tx3; omega), (by have h9 := tx3; omega), (by have h9 := tx3; omega), (by have h9 := tx3; omega), (by have h9 := tx3; omega)⟩⟩ hP hS dX12_goes_144
  have kc1 := jne c1 (rfl : (σ 55 6).toInt = (σ 55 6).toInt) jz_0
  by_cases c19 : σ 55 6 = 1
  · have kc19 := jeq c19 (rfl : (σ 55 6).toInt = (σ 55 6).toInt) jz_1
    refine lv_aload_n hx hb dX12_goes_0 rfl (lv_at hl 0 rfl) ?_
    refine va_get (D := D) hx hb hts inlX12 hown hK hP 55 (jc_55 cI cL ad σ τ) rfl 27 (of_decide_eq_true rfl) (hts _ kw_23_11) (fun _ h9 => h9) rfl dX12_goes_1 ?_
    refine lv_iconst (v := 1) hx hb dX12_goes_4 (of_decide_eq_true rfl) ?_
    have g20 := jrg (rfl : (σ 55 27).toInt = (σ 55 27).toInt)
    refine lv_iadd hx hb dX12_goes_5 ?_
    refine lv_topi (fun x21 ex21 => ?_)
    exact by
     have tx21 : x21.toInt = (σ 55 27).toInt + 1 := (jadd ex21 rfl jz_1 (by omega) (by omega)).trans (by omega)
     refine lv_istore_n (lv' := [(3, .int x21), (0, .ref (ad 55)), (1, .int a1), (2, .int 0)]) hx hb dX12_goes_6 rfl hl (of_decide_eq_true rfl) rfl (fun ls hl => ?_)
     refine lv_iconst (v := 0) hx hb dX12_goes_7 (of_decide_eq_true rfl) ?_
     refine lv_istore (lv' := [(4, .int 0), (3, .int x21), (0, .ref (ad 55)), (1, .int a1), (2, .int 0)]) hx hb dX12_goes_8 hl (of_decide_eq_true rfl) rfl (fun ls hl => ?_)
     refine lv_iload hx hb dX12_goes_10 (lv_at hl 0 rfl) ?_
     refine lv_aload_n hx hb dX12_goes_12 rfl (lv_at hl 2 rfl) ?_
     refine va_get (D := D) hx hb hts inlX12 hown hK hP 55 (jc_55 cI cL ad σ τ) rfl 6 (of_decide_eq_true rfl) (hts _ kw_9_13) (fun _ h9 => h9) rfl dX12_goes_13 ?_
     refine jtopr c19 ?_
     refine lv_icmp_ge (tgt := 100) hx hb dX12_goes_16 (of_decide_eq_true rfl) (fun c => absurd c (of_decide_eq_true rfl)) (fun _ => ?_)
     refine lv_iconst (v := 4) hx hb dX12_goes_19 (of_decide_eq_true rfl) ?_
     refine lv_iload_n hx hb dX12_goes_20 rfl (lv_at hl 1 rfl) ?_
     refine lv_imul hx hb dX12_goes_21 ?_
     refine lv_topi (fun x22 ex22 => ?_)
     exact by
      have tx22 : x22.toInt = 4 * (σ 55 27).toInt + 4 := (jmul ex22 jz_4 tx21 (by omega) (by omega)).trans (by omega)
      refine lv_aload_n hx hb dX12_goes_22 rfl (lv_at hl 2 rfl) ?_
      refine va_get (D := D) hx hb hts inlX12 hown hK hP 55 (jc_55 cI cL ad σ τ) rfl 28 (of_decide_eq_true rfl) (hts _ kw_7_14) (fun _ h9 => h9) rfl dX12_goes_23 ?_
      refine lv_iload hx hb dX12_goes_26 (lv_at hl 0 rfl) ?_
      refine jald hx hb hK hP (jc_68 cI cL ad σ τ) (jin jz_0 (by omega) (by omega)) dX12_goes_28 ?_
      refine jtopr (y := σ 68 0) rfl ?_
      have g23 := hw68 0 (of_decide_eq_true rfl)
      have g24 := jrg (rfl : (σ 68 0).toInt = (σ 68 0).toInt)
      refine lv_iadd hx hb dX12_goes_29 ?_
      exact by
       refine lv_topi (fun x25 ex25 => ?_)
       have tx25 : x25.toInt = 4 * (σ 55 27).toInt + (σ 68 0).toInt + 4 := (jadd ex25 tx22 rfl (by omega) (by omega)).trans (by omega)
       refine lv_istore_n (lv' := [(3, .int x25), (4, .int 0), (0, .ref (ad 55)), (1, .int a1), (2, .int 0)]) hx hb dX12_goes_30 rfl hl (of_decide_eq_true rfl) rfl (fun ls hl => ?_)
       refine lv_aload_n hx hb dX12_goes_31 rfl (lv_at hl 2 rfl) ?_
       refine va_get (D := D) hx hb hts inlX12 hown hK hP 55 (jc_55 cI cL ad σ τ) rfl 28 (of_decide_eq_true rfl) (hts _ kw_7_14) (fun _ h9 => h9) rfl dX12_goes_32 ?_
       refine lv_iload hx hb dX12_goes_35 (lv_at hl 1 rfl) ?_
       have jn26 : ∀ (x27 : Int32), (0 ≤ x27.toInt ∧ x27.toInt ≤ 3) → (x27.toInt = jSn (jrS σ) (A1).toNat 0) → W p l e ({ frames := 0, cells := 0, slots := 0, locals := 0 }) s m args below meth c s.heap [] 0 0 Q (F0 m 93 ls [.int x27, .int 0, .ref (ad 68)]) := by
         intro x27 k28 k29
         refine jast hx hb hK hP hJ hA hS (jc_68 cI cL ad σ τ) (ja_68 cI cL ad σ τ _ _) (jin jz_0 (by omega) (by omega)) dX12_goes_93 (fun σ30 H locs eσ30 hP hS => ?_)
         exact by
          have eσ30 : σ30 = jup σ 68 0 x27 := eσ30
          refine lv_iinc (v := 1) (lv' := [(4, .int 1), (3, .int x25), (0, .ref (ad 55)), (1, .int a1), (2, .int 0)]) hx hb dX12_goes_94 hl (k := 1) rfl (of_decide_eq_true rfl) (of_decide_eq_true rfl) rfl (fun ls hl => ?_)
          refine lv_goto (tgt := 10) hx hb dX12_goes_97 (of_decide_eq_true rfl) ?_
          refine lv_iload hx hb dX12_goes_10 (lv_at hl 0 rfl) ?_
          refine lv_aload_n hx hb dX12_goes_12 rfl (lv_at hl 2 rfl) ?_
          refine va_get (D := D) hx hb hts inlX12 hown hK hP 55 (jc_55 cI cL ad σ30 τ) rfl 6 (of_decide_eq_true rfl) (hts _ kw_9_13) (fun _ h9 => h9) rfl dX12_goes_13 ?_
          have m31 : σ30 55 6 = 1 := ((congrFun (jnp 55 eσ30 (of_decide_eq_true rfl)) 6).trans c19)
          refine jtopr m31 ?_
          refine lv_icmp_ge (tgt := 100) hx hb dX12_goes_16 (of_decide_eq_true rfl) (fun _ => ?_) (fun c => absurd (of_decide_eq_true rfl) c)
          refine lv_aload_n hx hb dX12_goes_100 rfl (lv_at hl 2 rfl) ?_
          refine va_get (D := D) hx hb hts inlX12 hown hK hP 55 (jc_55 cI cL ad σ30 τ) rfl 29 (of_decide_eq_true rfl) (hts _ kw_7_15) (fun _ h9 => h9) rfl dX12_goes_101 ?_
          refine lv_iload_n hx hb dX12_goes_104 rfl (lv_at hl 3 rfl) ?_
          refine lv_dup2_11 hx hb dX12_goes_105 rfl rfl ?_
          exact by
           refine jald hx hb hK hP (jc_69 cI cL ad σ30 τ) (jin t1 (by omega) (by omega)) dX12_goes_106 ?_
           refine lv_topi (fun x32 ex32 => ?_)
           refine lv_iconst (v := 1) hx hb dX12_goes_107 (of_decide_eq_true rfl) ?_
           have g33 := jrg (rfl : x32.toInt = x32.toInt)
           refine lv_iadd hx hb dX12_goes_108 ?_
           refine lv_topi (fun x34 ex34 => ?_)
           have gx34 := jrg (rfl : x34.toInt = x34.toInt)
           refine jast hx hb hK hP hJ hA hS (jc_69 cI cL ad σ30 τ) (ja_69 cI cL ad σ30 τ _ _) (jin t1 (by omega) (by omega)) dX12_goes_109 (fun σ35 H locs eσ35 hP hS => ?_)
           refine lv_aload_n hx hb dX12_goes_110 rfl (lv_at hl 2 rfl) ?_
           exact by
            refine lv_iload_n hx hb dX12_goes_111 rfl (lv_at hl 3 rfl) ?_
            refine jput (ty := .int) hx hb hts inlX12 tyX12 tyX12_ok nmX12 hown hK hP hJ hA hS (jc_55 cI cL ad σ35 τ) rfl (k := 27) (of_decide_eq_true rfl) (Nat.le_of_ble_eq_true rfl) (jp_55_27 cI cL ad σ35 τ a1) (hts _ kw_23_11) (fun _ h9 => h9) rfl (by decide +kernel) rfl rfl dX12_goes_112 (fun σ36 H locs eσ36 hP hS => ?_)
            refine lv_aload_n hx hb dX12_goes_115 rfl (lv_at hl 2 rfl) ?_
            refine lv_dup hx hb dX12_goes_116 rfl ?_
            refine va_get (D := D) hx hb hts inlX12 hown hK hP 55 (jc_55 cI cL ad σ36 τ) rfl 26 (of_decide_eq_true rfl) (hts _ kw_23_5) (fun _ h9 => h9) rfl dX12_goes_117 ?_
            have m37 : σ36 55 26 = (σ 55 26) := ((jkp 26 eσ36 (of_decide_eq_true rfl)).trans ((congrFun (jnp 55 eσ35 (of_decide_eq_true rfl)) 26).trans (congrFun (jnp 55 eσ30 (of_decide_eq_true rfl)) 26)))
            refine jtopr m37 ?_
            refine lv_iconst (v := 1) hx hb dX12_goes_120 (of_decide_eq_true rfl) ?_
            have g38 := jrg (rfl : (σ 55 26).toInt = (σ 55 26).toInt)
            refine lv_iadd hx hb dX12_goes_121 ?_
            refine lv_topi (fun x39 ex39 => ?_)
            exact by
             have tx39 : x39.toInt = (σ 55 26).toInt + 1 := (jadd ex39 rfl jz_1 (by omega) (by omega)).trans (by omega)
             refine jput (ty := .int) hx hb hts inlX12 tyX12 tyX12_ok nmX12 hown hK hP hJ hA hS (jc_55 cI cL ad σ36 τ) rfl (k := 26) (of_decide_eq_true rfl) (Nat.le_of_ble_eq_true rfl) (jp_55_26 cI cL ad σ36 τ x39) (hts _ kw_23_5) (fun _ h9 => h9) rfl (by decide +kernel) rfl rfl dX12_goes_122 (fun σ40 H locs eσ40 hP hS => ?_)
             refine lv_aload_n hx hb dX12_goes_125 rfl (lv_at hl 2 rfl) ?_
             refine lv_dup hx hb dX12_goes_126 rfl ?_
             refine va_get (D := D) hx hb hts inlX12 hown hK hP 55 (jc_55 cI cL ad σ40 τ) rfl 25 (of_decide_eq_true rfl) (hts _ kw_23_6) (fun _ h9 => h9) rfl dX12_goes_127 ?_
             have m41 : σ40 55 25 = (σ 55 25) := ((jkp 25 eσ40 (of_decide_eq_true rfl)).trans ((jkp 25 eσ36 (of_decide_eq_true rfl)).trans ((congrFun (jnp 55 eσ35 (of_decide_eq_true rfl)) 25).trans (congrFun (jnp 55 eσ30 (of_decide_eq_true rfl)) 25))))
             refine jtopr m41 ?_
             refine lv_iload_n hx hb dX12_goes_130 rfl (lv_at hl 4 rfl) ?_
             refine lv_if_eq (tgt := 138) hx hb dX12_goes_131 (of_decide_eq_true rfl) (fun _ => ?_) (fun c => absurd (of_decide_eq_true rfl) c)
             refine lv_iconst (v := 0) hx hb dX12_goes_138 (of_decide_eq_true rfl) ?_
             refine lv_iadd hx hb dX12_goes_139 ?_
             exact by
              refine jtopr (y := (σ 55 25)) (by rw [Int32.add_zero]) ?_
              refine jput (ty := .int) hx hb hts inlX12 tyX12 tyX12_ok nmX12 hown hK hP hJ hA hS (jc_55 cI cL ad σ40 τ) rfl (k := 25) (of_decide_eq_true rfl) (Nat.le_of_ble_eq_true rfl) (jp_55_25 cI cL ad σ40 τ (σ 55 25)) (hts _ kw_23_6) (fun _ h9 => h9) rfl (by decide +kernel) rfl rfl dX12_goes_140 (fun σ42 H locs eσ42 hP hS => ?_)
              refine lv_iload_n hx hb dX12_goes_143 rfl (lv_at hl 1 rfl) ?_
              have w43 : ∀ k : Nat, k < 4 → 0 ≤ (σ42 68 k).toInt ∧ (σ42 68 k).toInt ≤ 3 := (jrr_fr (jnp 68 eσ42 (of_decide_eq_true rfl)) (jrr_fr (jnp 68 eσ40 (of_decide_eq_true rfl)) (jrr_fr (jnp 68 eσ36 (of_decide_eq_true rfl)) (jrr_fr (jnp 68 eσ35 (of_decide_eq_true rfl)) (by rw [eσ30]; exact jrr_up hw68 (by omega) (by omega))))))
              have z44 : (σ42 55 25).toInt = (σ 55 25).toInt := (congrArg Int32.toInt (show σ42 55 25 = (σ 55 25) from (jsp eσ42)))
              have z45 : (σ42 55 26).toInt = (σ 55 26).toInt + 1 := ((congrArg Int32.toInt (show σ42 55 26 = x39 from ((jkp 26 eσ42 (of_decide_eq_true rfl)).trans (jsp eσ40)))).trans tx39)
              have z46 : (σ42 55 27).toInt = A1 := ((congrArg Int32.toInt (show σ42 55 27 = a1 from ((jkp 27 eσ42 (of_decide_eq_true rfl)).trans ((jkp 27 eσ40 (of_decide_eq_true rfl)).trans (jsp eσ36))))).trans t1)
              exact by exact hret x25 σ42 τ _ _ _ _ rfl ⟨rfl, (fun i hi => ((jnp i eσ42 (imp_189 i hi)).trans ((jnp i eσ40 (imp_189 i hi)).trans ((jnp i eσ36 (imp_189 i hi)).trans ((jnp i eσ35 (imp_197 i hi)).trans (jnp i eσ30 (imp_198 i hi))))))), (fun i hi => ((jkp i eσ42 (imp_192 i hi)).trans ((jkp i eσ40 (imp_191 i hi)).trans ((jkp i eσ36 (imp_190 i hi)).trans ((congrFun (jnp 55 eσ35 (of_decide_eq_true rfl)) i).trans (congrFun (jnp 55 eσ30 (of_decide_eq_true rfl)) i)))))), w43, (by rw [eσ42, jup_n (of_decide_eq_true rfl), eσ40, jup_n (of_decide_eq_true rfl), eσ36, jup_n (of_decide_eq_true rfl), eσ35, jup_row, ex34, ex32, eσ30, jup_n (of_decide_eq_true rfl)]), (fun k hk => by rw [eσ42, jup_n (of_decide_eq_true rfl), eσ40, jup_n (of_decide_eq_true rfl), eσ36, jup_n (of_decide_eq_true rfl), eσ35, jup_n (of_decide_eq_true rfl), eσ30, jup_k (by omega)]), (fun c hc => jqll1 (p := fun c => jrS σ42 c = jSn (jrS σ) (A1).toNat c) ((congrArg Int32.toInt (show σ42 68 0 = x27 from ((congrFun (jnp 68 eσ42 (of_decide_eq_true rfl)) 0).trans ((congrFun (jnp 68 eσ40 (of_decide_eq_true rfl)) 0).trans ((congrFun (jnp 68 eσ36 (of_decide_eq_true rfl)) 0).trans ((congrFun (jnp 68 eσ35 (of_decide_eq_true rfl)) 0).trans (jsp eσ30))))))).trans k29) c (by omega)), (by omega), (by omega), (by omega), ⟨trivial, (by have h9 := tx25; omega), (by have h9 := tx25; omega), (by have h9 := tx25; omega), (by have h9 := tx25; omega), (by have h9 := tx25; omega)⟩⟩ hP hS dX12_goes_144
       refine lv_iload hx hb dX12_goes_37 (lv_at hl 1 rfl) ?_
       exact by
        refine lv_iload_n hx hb dX12_goes_39 rfl (lv_at hl 3 rfl) ?_
        refine lv_icmp_ne (tgt := 70) hx hb dX12_goes_40 (of_decide_eq_true rfl) (fun c47 => ?_) (fun c47 => ?_)
        · have kc47 := jne c47 jz_0 t1
          refine lv_aload_n hx hb dX12_goes_70 rfl (lv_at hl 2 rfl) ?_
          refine va_get (D := D) hx hb hts inlX12 hown hK hP 55 (jc_55 cI cL ad σ τ) rfl 28 (of_decide_eq_true rfl) (hts _ kw_7_14) (fun _ h9 => h9) rfl dX12_goes_71 ?_
          refine lv_iload hx hb dX12_goes_74 (lv_at hl 1 rfl) ?_
          refine jald hx hb hK hP (jc_68 cI cL ad σ τ) (jin jz_0 (by omega) (by omega)) dX12_goes_76 ?_
          refine jtopr (y := σ 68 0) rfl ?_
          refine lv_if_le (tgt := 92) hx hb dX12_goes_77 (of_decide_eq_true rfl) (fun c48 => ?_) (fun c48 => ?_)
          · exact by
             have kc48 := jle c48 rfl jz_0
             refine lv_iconst (v := 0) hx hb dX12_goes_92 (of_decide_eq_true rfl) ?_
             exact by exact jn26 0 (by have h9 := jz_0; omega) (jSn_r (σ := σ) (k := 0) (by have h9 := jz_0; omega))
          · have kc48 := jnle c48 rfl jz_0
            refine lv_aload_n hx hb dX12_goes_80 rfl (lv_at hl 2 rfl) ?_
            refine va_get (D := D) hx hb hts inlX12 hown hK hP 55 (jc_55 cI cL ad σ τ) rfl 28 (of_decide_eq_true rfl) (hts _ kw_7_14) (fun _ h9 => h9) rfl dX12_goes_81 ?_
            refine lv_iload hx hb dX12_goes_84 (lv_at hl 1 rfl) ?_
            refine jald hx hb hK hP (jc_68 cI cL ad σ τ) (jin jz_0 (by omega) (by omega)) dX12_goes_86 ?_
            refine jtopr (y := σ 68 0) rfl ?_
            exact by
             refine lv_iconst (v := 1) hx hb dX12_goes_87 (of_decide_eq_true rfl) ?_
             refine lv_isub hx hb dX12_goes_88 ?_
             refine lv_topi (fun x49 ex49 => ?_)
             have tx49 : x49.toInt = (σ 68 0).toInt - 1 := (jsub ex49 rfl jz_1 (by omega) (by omega)).trans (by omega)
             refine lv_goto (tgt := 93) hx hb dX12_goes_89 (of_decide_eq_true rfl) ?_
             exact by exact jn26 x49 (by have h9 := tx49; omega) (jSn_r (σ := σ) (k := 0) (by have h9 := tx49; omega))
        · have kc47 := jeq c47 jz_0 t1
          refine lv_aload_n hx hb dX12_goes_43 rfl (lv_at hl 2 rfl) ?_
          refine va_get (D := D) hx hb hts inlX12 hown hK hP 55 (jc_55 cI cL ad σ τ) rfl 28 (of_decide_eq_true rfl) (hts _ kw_7_14) (fun _ h9 => h9) rfl dX12_goes_44 ?_
          exact by
           refine lv_iload hx hb dX12_goes_47 (lv_at hl 1 rfl) ?_
           refine jald hx hb hK hP (jc_68 cI cL ad σ τ) (jin jz_0 (by omega) (by omega)) dX12_goes_49 ?_
           refine jtopr (y := σ 68 0) rfl ?_
           refine lv_iconst (v := 3) hx hb dX12_goes_50 (of_decide_eq_true rfl) ?_
           refine lv_icmp_ge (tgt := 66) hx hb dX12_goes_51 (of_decide_eq_true rfl) (fun c50 => ?_) (fun c50 => ?_)
           · have kc50 := jle c50 jz_3 rfl
             refine lv_iconst (v := 3) hx hb dX12_goes_66 (of_decide_eq_true rfl) ?_
             refine lv_goto (tgt := 93) hx hb dX12_goes_67 (of_decide_eq_true rfl) ?_
             exact by exact jn26 3 (by have h9 := jz_3; omega) (jSn_r (σ := σ) (k := 0) (by have h9 := jz_3; omega))
           · exact by
              have kc50 := jnle c50 jz_3 rfl
              refine lv_aload_n hx hb dX12_goes_54 rfl (lv_at hl 2 rfl) ?_
              refine va_get (D := D) hx hb hts inlX12 hown hK hP 55 (jc_55 cI cL ad σ τ) rfl 28 (of_decide_eq_true rfl) (hts _ kw_7_14) (fun _ h9 => h9) rfl dX12_goes_55 ?_
              refine lv_iload hx hb dX12_goes_58 (lv_at hl 1 rfl) ?_
              refine jald hx hb hK hP (jc_68 cI cL ad σ τ) (jin jz_0 (by omega) (by omega)) dX12_goes_60 ?_
              refine jtopr (y := σ 68 0) rfl ?_
              refine lv_iconst (v := 1) hx hb dX12_goes_61 (of_decide_eq_true rfl) ?_
              refine lv_iadd hx hb dX12_goes_62 ?_
              refine lv_topi (fun x51 ex51 => ?_)
              exact by
               have tx51 : x51.toInt = (σ 68 0).toInt + 1 := (jadd ex51 rfl jz_1 (by omega) (by omega)).trans (by omega)
               refine lv_goto (tgt := 93) hx hb dX12_goes_63 (of_decide_eq_true rfl) ?_
               exact by exact jn26 x51 (by have h9 := tx51; omega) (jSn_r (σ := σ) (k := 0) (by have h9 := tx51; omega))
  have kc19 := jne c19 (rfl : (σ 55 6).toInt = (σ 55 6).toInt) jz_1
  by_cases c52 : σ 55 6 = 2
  · have kc52 := jeq c52 (rfl : (σ 55 6).toInt = (σ 55 6).toInt) jz_2
    refine lv_aload_n hx hb dX12_goes_0 rfl (lv_at hl 0 rfl) ?_
    refine va_get (D := D) hx hb hts inlX12 hown hK hP 55 (jc_55 cI cL ad σ τ) rfl 27 (of_decide_eq_true rfl) (hts _ kw_23_11) (fun _ h9 => h9) rfl dX12_goes_1 ?_
    refine lv_iconst (v := 1) hx hb dX12_goes_4 (of_decide_eq_true rfl) ?_
    have g53 := jrg (rfl : (σ 55 27).toInt = (σ 55 27).toInt)
    refine lv_iadd hx hb dX12_goes_5 ?_
    refine lv_topi (fun x54 ex54 => ?_)
    exact by
     have tx54 : x54.toInt = (σ 55 27).toInt + 1 := (jadd ex54 rfl jz_1 (by omega) (by omega)).trans (by omega)
     refine lv_istore_n (lv' := [(3, .int x54), (0, .ref (ad 55)), (1, .int a1), (2, .int 0)]) hx hb dX12_goes_6 rfl hl (of_decide_eq_true rfl) rfl (fun ls hl => ?_)
     refine lv_iconst (v := 0) hx hb dX12_goes_7 (of_decide_eq_true rfl) ?_
     refine lv_istore (lv' := [(4, .int 0), (3, .int x54), (0, .ref (ad 55)), (1, .int a1), (2, .int 0)]) hx hb dX12_goes_8 hl (of_decide_eq_true rfl) rfl (fun ls hl => ?_)
     refine lv_iload hx hb dX12_goes_10 (lv_at hl 0 rfl) ?_
     refine lv_aload_n hx hb dX12_goes_12 rfl (lv_at hl 2 rfl) ?_
     refine va_get (D := D) hx hb hts inlX12 hown hK hP 55 (jc_55 cI cL ad σ τ) rfl 6 (of_decide_eq_true rfl) (hts _ kw_9_13) (fun _ h9 => h9) rfl dX12_goes_13 ?_
     refine jtopr c52 ?_
     refine lv_icmp_ge (tgt := 100) hx hb dX12_goes_16 (of_decide_eq_true rfl) (fun c => absurd c (of_decide_eq_true rfl)) (fun _ => ?_)
     refine lv_iconst (v := 4) hx hb dX12_goes_19 (of_decide_eq_true rfl) ?_
     refine lv_iload_n hx hb dX12_goes_20 rfl (lv_at hl 1 rfl) ?_
     refine lv_imul hx hb dX12_goes_21 ?_
     refine lv_topi (fun x55 ex55 => ?_)
     exact by
      have tx55 : x55.toInt = 4 * (σ 55 27).toInt + 4 := (jmul ex55 jz_4 tx54 (by omega) (by omega)).trans (by omega)
      refine lv_aload_n hx hb dX12_goes_22 rfl (lv_at hl 2 rfl) ?_
      refine va_get (D := D) hx hb hts inlX12 hown hK hP 55 (jc_55 cI cL ad σ τ) rfl 28 (of_decide_eq_true rfl) (hts _ kw_7_14) (fun _ h9 => h9) rfl dX12_goes_23 ?_
      refine lv_iload hx hb dX12_goes_26 (lv_at hl 0 rfl) ?_
      refine jald hx hb hK hP (jc_68 cI cL ad σ τ) (jin jz_0 (by omega) (by omega)) dX12_goes_28 ?_
      refine jtopr (y := σ 68 0) rfl ?_
      have g56 := hw68 0 (of_decide_eq_true rfl)
      have g57 := jrg (rfl : (σ 68 0).toInt = (σ 68 0).toInt)
      refine lv_iadd hx hb dX12_goes_29 ?_
      exact by
       refine lv_topi (fun x58 ex58 => ?_)
       have tx58 : x58.toInt = 4 * (σ 55 27).toInt + (σ 68 0).toInt + 4 := (jadd ex58 tx55 rfl (by omega) (by omega)).trans (by omega)
       refine lv_istore_n (lv' := [(3, .int x58), (4, .int 0), (0, .ref (ad 55)), (1, .int a1), (2, .int 0)]) hx hb dX12_goes_30 rfl hl (of_decide_eq_true rfl) rfl (fun ls hl => ?_)
       refine lv_aload_n hx hb dX12_goes_31 rfl (lv_at hl 2 rfl) ?_
       refine va_get (D := D) hx hb hts inlX12 hown hK hP 55 (jc_55 cI cL ad σ τ) rfl 28 (of_decide_eq_true rfl) (hts _ kw_7_14) (fun _ h9 => h9) rfl dX12_goes_32 ?_
       refine lv_iload hx hb dX12_goes_35 (lv_at hl 1 rfl) ?_
       have jn59 : ∀ (x60 : Int32), (0 ≤ x60.toInt ∧ x60.toInt ≤ 3) → (x60.toInt = jSn (jrS σ) (A1).toNat 0) → W p l e ({ frames := 0, cells := 0, slots := 0, locals := 0 }) s m args below meth c s.heap [] 0 0 Q (F0 m 93 ls [.int x60, .int 0, .ref (ad 68)]) := by
         intro x60 k61 k62
         refine jast hx hb hK hP hJ hA hS (jc_68 cI cL ad σ τ) (ja_68 cI cL ad σ τ _ _) (jin jz_0 (by omega) (by omega)) dX12_goes_93 (fun σ63 H locs eσ63 hP hS => ?_)
         exact by
          have eσ63 : σ63 = jup σ 68 0 x60 := eσ63
          refine lv_iinc (v := 1) (lv' := [(4, .int 1), (3, .int x58), (0, .ref (ad 55)), (1, .int a1), (2, .int 0)]) hx hb dX12_goes_94 hl (k := 1) rfl (of_decide_eq_true rfl) (of_decide_eq_true rfl) rfl (fun ls hl => ?_)
          refine lv_goto (tgt := 10) hx hb dX12_goes_97 (of_decide_eq_true rfl) ?_
          refine lv_iload hx hb dX12_goes_10 (lv_at hl 0 rfl) ?_
          refine lv_aload_n hx hb dX12_goes_12 rfl (lv_at hl 2 rfl) ?_
          refine va_get (D := D) hx hb hts inlX12 hown hK hP 55 (jc_55 cI cL ad σ63 τ) rfl 6 (of_decide_eq_true rfl) (hts _ kw_9_13) (fun _ h9 => h9) rfl dX12_goes_13 ?_
          have m64 : σ63 55 6 = 2 := ((congrFun (jnp 55 eσ63 (of_decide_eq_true rfl)) 6).trans c52)
          refine jtopr m64 ?_
          refine lv_icmp_ge (tgt := 100) hx hb dX12_goes_16 (of_decide_eq_true rfl) (fun c => absurd c (of_decide_eq_true rfl)) (fun _ => ?_)
          refine lv_iconst (v := 4) hx hb dX12_goes_19 (of_decide_eq_true rfl) ?_
          refine lv_iload_n hx hb dX12_goes_20 rfl (lv_at hl 1 rfl) ?_
          refine lv_imul hx hb dX12_goes_21 ?_
          refine lv_topi (fun x65 ex65 => ?_)
          exact by
           have tx65 : x65.toInt = 16 * (σ 55 27).toInt + 4 * (σ 68 0).toInt + 16 := (jmul ex65 jz_4 tx58 (by omega) (by omega)).trans (by omega)
           refine lv_aload_n hx hb dX12_goes_22 rfl (lv_at hl 2 rfl) ?_
           refine va_get (D := D) hx hb hts inlX12 hown hK hP 55 (jc_55 cI cL ad σ63 τ) rfl 28 (of_decide_eq_true rfl) (hts _ kw_7_14) (fun _ h9 => h9) rfl dX12_goes_23 ?_
           refine lv_iload hx hb dX12_goes_26 (lv_at hl 0 rfl) ?_
           refine jald hx hb hK hP (jc_68 cI cL ad σ63 τ) (jin jz_1 (by omega) (by omega)) dX12_goes_28 ?_
           refine jtopr (y := σ63 68 1) rfl ?_
           have m66 : σ63 68 1 = (σ 68 1) := (jkp 1 eσ63 (of_decide_eq_true rfl))
           refine jtopr m66 ?_
           have w67 : ∀ k : Nat, k < 4 → 0 ≤ (σ63 68 k).toInt ∧ (σ63 68 k).toInt ≤ 3 := (by rw [eσ63]; exact jrr_up hw68 (by omega) (by omega))
           exact by
            have g68 := w67 1 (of_decide_eq_true rfl)
            rw [m66] at g68
            have g69 := jrg (rfl : (σ 68 1).toInt = (σ 68 1).toInt)
            refine lv_iadd hx hb dX12_goes_29 ?_
            refine lv_topi (fun x70 ex70 => ?_)
            have tx70 : x70.toInt = 16 * (σ 55 27).toInt + 4 * (σ 68 0).toInt + (σ 68 1).toInt + 16 := (jadd ex70 tx65 rfl (by omega) (by omega)).trans (by omega)
            refine lv_istore_n (lv' := [(3, .int x70), (4, .int 1), (0, .ref (ad 55)), (1, .int a1), (2, .int 0)]) hx hb dX12_goes_30 rfl hl (of_decide_eq_true rfl) rfl (fun ls hl => ?_)
            refine lv_aload_n hx hb dX12_goes_31 rfl (lv_at hl 2 rfl) ?_
            refine va_get (D := D) hx hb hts inlX12 hown hK hP 55 (jc_55 cI cL ad σ63 τ) rfl 28 (of_decide_eq_true rfl) (hts _ kw_7_14) (fun _ h9 => h9) rfl dX12_goes_32 ?_
            exact by
             refine lv_iload hx hb dX12_goes_35 (lv_at hl 1 rfl) ?_
             have jn71 : ∀ (x72 : Int32), (0 ≤ x72.toInt ∧ x72.toInt ≤ 3) → (x72.toInt = jSn (jrS σ) (A1).toNat 1) → W p l e ({ frames := 0, cells := 0, slots := 0, locals := 0 }) s m args below meth c H locs 0 0 Q (F0 m 93 ls [.int x72, .int 1, .ref (ad 68)]) := by
               intro x72 k73 k74
               refine jast hx hb hK hP hJ hA hS (jc_68 cI cL ad σ63 τ) (ja_68 cI cL ad σ63 τ _ _) (jin jz_1 (by omega) (by omega)) dX12_goes_93 (fun σ75 H locs eσ75 hP hS => ?_)
               have eσ75 : σ75 = jup σ63 68 1 x72 := eσ75
               refine lv_iinc (v := 2) (lv' := [(4, .int 2), (3, .int x70), (0, .ref (ad 55)), (1, .int a1), (2, .int 0)]) hx hb dX12_goes_94 hl (k := 1) rfl (of_decide_eq_true rfl) (of_decide_eq_true rfl) rfl (fun ls hl => ?_)
               refine lv_goto (tgt := 10) hx hb dX12_goes_97 (of_decide_eq_true rfl) ?_
               refine lv_iload hx hb dX12_goes_10 (lv_at hl 0 rfl) ?_
               refine lv_aload_n hx hb dX12_goes_12 rfl (lv_at hl 2 rfl) ?_
               exact by
                refine va_get (D := D) hx hb hts inlX12 hown hK hP 55 (jc_55 cI cL ad σ75 τ) rfl 6 (of_decide_eq_true rfl) (hts _ kw_9_13) (fun _ h9 => h9) rfl dX12_goes_13 ?_
                have m76 : σ75 55 6 = 2 := ((congrFun (jnp 55 eσ75 (of_decide_eq_true rfl)) 6).trans m64)
                refine jtopr m76 ?_
                refine lv_icmp_ge (tgt := 100) hx hb dX12_goes_16 (of_decide_eq_true rfl) (fun _ => ?_) (fun c => absurd (of_decide_eq_true rfl) c)
                refine lv_aload_n hx hb dX12_goes_100 rfl (lv_at hl 2 rfl) ?_
                refine va_get (D := D) hx hb hts inlX12 hown hK hP 55 (jc_55 cI cL ad σ75 τ) rfl 29 (of_decide_eq_true rfl) (hts _ kw_7_15) (fun _ h9 => h9) rfl dX12_goes_101 ?_
                refine lv_iload_n hx hb dX12_goes_104 rfl (lv_at hl 3 rfl) ?_
                refine lv_dup2_11 hx hb dX12_goes_105 rfl rfl ?_
                refine jald hx hb hK hP (jc_69 cI cL ad σ75 τ) (jin t1 (by omega) (by omega)) dX12_goes_106 ?_
                exact by
                 refine lv_topi (fun x77 ex77 => ?_)
                 refine lv_iconst (v := 1) hx hb dX12_goes_107 (of_decide_eq_true rfl) ?_
                 have g78 := jrg (rfl : x77.toInt = x77.toInt)
                 refine lv_iadd hx hb dX12_goes_108 ?_
                 refine lv_topi (fun x79 ex79 => ?_)
                 have gx79 := jrg (rfl : x79.toInt = x79.toInt)
                 refine jast hx hb hK hP hJ hA hS (jc_69 cI cL ad σ75 τ) (ja_69 cI cL ad σ75 τ _ _) (jin t1 (by omega) (by omega)) dX12_goes_109 (fun σ80 H locs eσ80 hP hS => ?_)
                 refine lv_aload_n hx hb dX12_goes_110 rfl (lv_at hl 2 rfl) ?_
                 refine lv_iload_n hx hb dX12_goes_111 rfl (lv_at hl 3 rfl) ?_
                 exact by
                  refine jput (ty := .int) hx hb hts inlX12 tyX12 tyX12_ok nmX12 hown hK hP hJ hA hS (jc_55 cI cL ad σ80 τ) rfl (k := 27) (of_decide_eq_true rfl) (Nat.le_of_ble_eq_true rfl) (jp_55_27 cI cL ad σ80 τ a1) (hts _ kw_23_11) (fun _ h9 => h9) rfl (by decide +kernel) rfl rfl dX12_goes_112 (fun σ81 H locs eσ81 hP hS => ?_)
                  refine lv_aload_n hx hb dX12_goes_115 rfl (lv_at hl 2 rfl) ?_
                  refine lv_dup hx hb dX12_goes_116 rfl ?_
                  refine va_get (D := D) hx hb hts inlX12 hown hK hP 55 (jc_55 cI cL ad σ81 τ) rfl 26 (of_decide_eq_true rfl) (hts _ kw_23_5) (fun _ h9 => h9) rfl dX12_goes_117 ?_
                  have m82 : σ81 55 26 = (σ 55 26) := ((jkp 26 eσ81 (of_decide_eq_true rfl)).trans ((congrFun (jnp 55 eσ80 (of_decide_eq_true rfl)) 26).trans ((congrFun (jnp 55 eσ75 (of_decide_eq_true rfl)) 26).trans (congrFun (jnp 55 eσ63 (of_decide_eq_true rfl)) 26))))
                  refine jtopr m82 ?_
                  refine lv_iconst (v := 1) hx hb dX12_goes_120 (of_decide_eq_true rfl) ?_
                  have g83 := jrg (rfl : (σ 55 26).toInt = (σ 55 26).toInt)
                  refine lv_iadd hx hb dX12_goes_121 ?_
                  refine lv_topi (fun x84 ex84 => ?_)
                  exact by
                   have tx84 : x84.toInt = (σ 55 26).toInt + 1 := (jadd ex84 rfl jz_1 (by omega) (by omega)).trans (by omega)
                   refine jput (ty := .int) hx hb hts inlX12 tyX12 tyX12_ok nmX12 hown hK hP hJ hA hS (jc_55 cI cL ad σ81 τ) rfl (k := 26) (of_decide_eq_true rfl) (Nat.le_of_ble_eq_true rfl) (jp_55_26 cI cL ad σ81 τ x84) (hts _ kw_23_5) (fun _ h9 => h9) rfl (by decide +kernel) rfl rfl dX12_goes_122 (fun σ85 H locs eσ85 hP hS => ?_)
                   refine lv_aload_n hx hb dX12_goes_125 rfl (lv_at hl 2 rfl) ?_
                   refine lv_dup hx hb dX12_goes_126 rfl ?_
                   refine va_get (D := D) hx hb hts inlX12 hown hK hP 55 (jc_55 cI cL ad σ85 τ) rfl 25 (of_decide_eq_true rfl) (hts _ kw_23_6) (fun _ h9 => h9) rfl dX12_goes_127 ?_
                   have m86 : σ85 55 25 = (σ 55 25) := ((jkp 25 eσ85 (of_decide_eq_true rfl)).trans ((jkp 25 eσ81 (of_decide_eq_true rfl)).trans ((congrFun (jnp 55 eσ80 (of_decide_eq_true rfl)) 25).trans ((congrFun (jnp 55 eσ75 (of_decide_eq_true rfl)) 25).trans (congrFun (jnp 55 eσ63 (of_decide_eq_true rfl)) 25)))))
                   refine jtopr m86 ?_
                   refine lv_iload_n hx hb dX12_goes_130 rfl (lv_at hl 4 rfl) ?_
                   refine lv_if_eq (tgt := 138) hx hb dX12_goes_131 (of_decide_eq_true rfl) (fun _ => ?_) (fun c => absurd (of_decide_eq_true rfl) c)
                   refine lv_iconst (v := 0) hx hb dX12_goes_138 (of_decide_eq_true rfl) ?_
                   refine lv_iadd hx hb dX12_goes_139 ?_
                   exact by
                    refine jtopr (y := (σ 55 25)) (by rw [Int32.add_zero]) ?_
                    refine jput (ty := .int) hx hb hts inlX12 tyX12 tyX12_ok nmX12 hown hK hP hJ hA hS (jc_55 cI cL ad σ85 τ) rfl (k := 25) (of_decide_eq_true rfl) (Nat.le_of_ble_eq_true rfl) (jp_55_25 cI cL ad σ85 τ (σ 55 25)) (hts _ kw_23_6) (fun _ h9 => h9) rfl (by decide +kernel) rfl rfl dX12_goes_140 (fun σ87 H locs eσ87 hP hS => ?_)
                    refine lv_iload_n hx hb dX12_goes_143 rfl (lv_at hl 1 rfl) ?_
                    have w88 : ∀ k : Nat, k < 4 → 0 ≤ (σ87 68 k).toInt ∧ (σ87 68 k).toInt ≤ 3 := (jrr_fr (jnp 68 eσ87 (of_decide_eq_true rfl)) (jrr_fr (jnp 68 eσ85 (of_decide_eq_true rfl)) (jrr_fr (jnp 68 eσ81 (of_decide_eq_true rfl)) (jrr_fr (jnp 68 eσ80 (of_decide_eq_true rfl)) (by rw [eσ75]; exact jrr_up w67 (by omega) (by omega))))))
                    have z89 : (σ87 55 25).toInt = (σ 55 25).toInt := (congrArg Int32.toInt (show σ87 55 25 = (σ 55 25) from (jsp eσ87)))
                    have z90 : (σ87 55 26).toInt = (σ 55 26).toInt + 1 := ((congrArg Int32.toInt (show σ87 55 26 = x84 from ((jkp 26 eσ87 (of_decide_eq_true rfl)).trans (jsp eσ85)))).trans tx84)
                    have z91 : (σ87 55 27).toInt = A1 := ((congrArg Int32.toInt (show σ87 55 27 = a1 from ((jkp 27 eσ87 (of_decide_eq_true rfl)).trans ((jkp 27 eσ85 (of_decide_eq_true rfl)).trans (jsp eσ81))))).trans t1)
                    exact by exact hret x70 σ87 τ _ _ _ _ rfl ⟨rfl, (fun i hi => ((jnp i eσ87 (imp_189 i hi)).trans ((jnp i eσ85 (imp_189 i hi)).trans ((jnp i eσ81 (imp_189 i hi)).trans ((jnp i eσ80 (imp_197 i hi)).trans ((jnp i eσ75 (imp_198 i hi)).trans (jnp i eσ63 (imp_198 i hi)))))))), (fun i hi => ((jkp i eσ87 (imp_192 i hi)).trans ((jkp i eσ85 (imp_191 i hi)).trans ((jkp i eσ81 (imp_190 i hi)).trans ((congrFun (jnp 55 eσ80 (of_decide_eq_true rfl)) i).trans ((congrFun (jnp 55 eσ75 (of_decide_eq_true rfl)) i).trans (congrFun (jnp 55 eσ63 (of_decide_eq_true rfl)) i))))))), w88, (by rw [eσ87, jup_n (of_decide_eq_true rfl), eσ85, jup_n (of_decide_eq_true rfl), eσ81, jup_n (of_decide_eq_true rfl), eσ80, jup_row, ex79, ex77, eσ75, jup_n (of_decide_eq_true rfl), eσ63, jup_n (of_decide_eq_true rfl)]), (fun k hk => by rw [eσ87, jup_n (of_decide_eq_true rfl), eσ85, jup_n (of_decide_eq_true rfl), eσ81, jup_n (of_decide_eq_true rfl), eσ80, jup_n (of_decide_eq_true rfl), eσ75, jup_k (by omega), eσ63, jup_k (by omega)]), (fun c hc => jqll2 (p := fun c => jrS σ87 c = jSn (jrS σ) (A1).toNat c) ((congrArg Int32.toInt (show σ87 68 0 = x60 from ((congrFun (jnp 68 eσ87 (of_decide_eq_true rfl)) 0).trans ((congrFun (jnp 68 eσ85 (of_decide_eq_true rfl)) 0).trans ((congrFun (jnp 68 eσ81 (of_decide_eq_true rfl)) 0).trans ((congrFun (jnp 68 eσ80 (of_decide_eq_true rfl)) 0).trans ((jkp 0 eσ75 (of_decide_eq_true rfl)).trans (jsp eσ63)))))))).trans k62) ((congrArg Int32.toInt (show σ87 68 1 = x72 from ((congrFun (jnp 68 eσ87 (of_decide_eq_true rfl)) 1).trans ((congrFun (jnp 68 eσ85 (of_decide_eq_true rfl)) 1).trans ((congrFun (jnp 68 eσ81 (of_decide_eq_true rfl)) 1).trans ((congrFun (jnp 68 eσ80 (of_decide_eq_true rfl)) 1).trans (jsp eσ75))))))).trans k74) c (by omega)), (by omega), (by omega), (by omega), ⟨trivial, (by have h9 := tx70; omega), (by have h9 := tx70; omega), (by have h9 := tx70; omega), (by have h9 := tx70; omega), (by have h9 := tx70; omega)⟩⟩ hP hS dX12_goes_144
             refine lv_iload hx hb dX12_goes_37 (lv_at hl 1 rfl) ?_
             exact by
              refine lv_iload_n hx hb dX12_goes_39 rfl (lv_at hl 3 rfl) ?_
              refine lv_icmp_ne (tgt := 70) hx hb dX12_goes_40 (of_decide_eq_true rfl) (fun c92 => ?_) (fun c92 => ?_)
              · have kc92 := jne c92 jz_1 t1
                refine lv_aload_n hx hb dX12_goes_70 rfl (lv_at hl 2 rfl) ?_
                refine va_get (D := D) hx hb hts inlX12 hown hK hP 55 (jc_55 cI cL ad σ63 τ) rfl 28 (of_decide_eq_true rfl) (hts _ kw_7_14) (fun _ h9 => h9) rfl dX12_goes_71 ?_
                refine lv_iload hx hb dX12_goes_74 (lv_at hl 1 rfl) ?_
                refine jald hx hb hK hP (jc_68 cI cL ad σ63 τ) (jin jz_1 (by omega) (by omega)) dX12_goes_76 ?_
                refine jtopr (y := σ63 68 1) rfl ?_
                refine jtopr m66 ?_
                exact by
                 refine lv_if_le (tgt := 92) hx hb dX12_goes_77 (of_decide_eq_true rfl) (fun c93 => ?_) (fun c93 => ?_)
                 · have kc93 := jle c93 rfl jz_0
                   refine lv_iconst (v := 0) hx hb dX12_goes_92 (of_decide_eq_true rfl) ?_
                   exact by exact jn71 0 (by have h9 := jz_0; omega) (jSn_r (σ := σ) (k := 1) (by have h9 := jz_0; omega))
                 · have kc93 := jnle c93 rfl jz_0
                   refine lv_aload_n hx hb dX12_goes_80 rfl (lv_at hl 2 rfl) ?_
                   refine va_get (D := D) hx hb hts inlX12 hown hK hP 55 (jc_55 cI cL ad σ63 τ) rfl 28 (of_decide_eq_true rfl) (hts _ kw_7_14) (fun _ h9 => h9) rfl dX12_goes_81 ?_
                   refine lv_iload hx hb dX12_goes_84 (lv_at hl 1 rfl) ?_
                   refine jald hx hb hK hP (jc_68 cI cL ad σ63 τ) (jin jz_1 (by omega) (by omega)) dX12_goes_86 ?_
                   exact by
                    refine jtopr (y := σ63 68 1) rfl ?_
                    refine jtopr m66 ?_
                    refine lv_iconst (v := 1) hx hb dX12_goes_87 (of_decide_eq_true rfl) ?_
                    refine lv_isub hx hb dX12_goes_88 ?_
                    refine lv_topi (fun x94 ex94 => ?_)
                    have tx94 : x94.toInt = (σ 68 1).toInt - 1 := (jsub ex94 rfl jz_1 (by omega) (by omega)).trans (by omega)
                    refine lv_goto (tgt := 93) hx hb dX12_goes_89 (of_decide_eq_true rfl) ?_
                    exact by exact jn71 x94 (by have h9 := tx94; omega) (jSn_r (σ := σ) (k := 1) (by have h9 := tx94; omega))
              · have kc92 := jeq c92 jz_1 t1
                exact by
                 refine lv_aload_n hx hb dX12_goes_43 rfl (lv_at hl 2 rfl) ?_
                 refine va_get (D := D) hx hb hts inlX12 hown hK hP 55 (jc_55 cI cL ad σ63 τ) rfl 28 (of_decide_eq_true rfl) (hts _ kw_7_14) (fun _ h9 => h9) rfl dX12_goes_44 ?_
                 refine lv_iload hx hb dX12_goes_47 (lv_at hl 1 rfl) ?_
                 refine jald hx hb hK hP (jc_68 cI cL ad σ63 τ) (jin jz_1 (by omega) (by omega)) dX12_goes_49 ?_
                 refine jtopr (y := σ63 68 1) rfl ?_
                 refine jtopr m66 ?_
                 refine lv_iconst (v := 3) hx hb dX12_goes_50 (of_decide_eq_true rfl) ?_
                 refine lv_icmp_ge (tgt := 66) hx hb dX12_goes_51 (of_decide_eq_true rfl) (fun c95 => ?_) (fun c95 => ?_)
                 · have kc95 := jle c95 jz_3 rfl
                   exact by
                    refine lv_iconst (v := 3) hx hb dX12_goes_66 (of_decide_eq_true rfl) ?_
                    refine lv_goto (tgt := 93) hx hb dX12_goes_67 (of_decide_eq_true rfl) ?_
                    exact by exact jn71 3 (by have h9 := jz_3; omega) (jSn_r (σ := σ) (k := 1) (by have h9 := jz_3; omega))
                 · have kc95 := jnle c95 jz_3 rfl
                   refine lv_aload_n hx hb dX12_goes_54 rfl (lv_at hl 2 rfl) ?_
                   refine va_get (D := D) hx hb hts inlX12 hown hK hP 55 (jc_55 cI cL ad σ63 τ) rfl 28 (of_decide_eq_true rfl) (hts _ kw_7_14) (fun _ h9 => h9) rfl dX12_goes_55 ?_
                   refine lv_iload hx hb dX12_goes_58 (lv_at hl 1 rfl) ?_
                   refine jald hx hb hK hP (jc_68 cI cL ad σ63 τ) (jin jz_1 (by omega) (by omega)) dX12_goes_60 ?_
                   refine jtopr (y := σ63 68 1) rfl ?_
                   exact by
                    refine jtopr m66 ?_
                    refine lv_iconst (v := 1) hx hb dX12_goes_61 (of_decide_eq_true rfl) ?_
                    refine lv_iadd hx hb dX12_goes_62 ?_
                    refine lv_topi (fun x96 ex96 => ?_)
                    have tx96 : x96.toInt = (σ 68 1).toInt + 1 := (jadd ex96 rfl jz_1 (by omega) (by omega)).trans (by omega)
                    refine lv_goto (tgt := 93) hx hb dX12_goes_63 (of_decide_eq_true rfl) ?_
                    exact by exact jn71 x96 (by have h9 := tx96; omega) (jSn_r (σ := σ) (k := 1) (by have h9 := tx96; omega))
       refine lv_iload hx hb dX12_goes_37 (lv_at hl 1 rfl) ?_
       refine lv_iload_n hx hb dX12_goes_39 rfl (lv_at hl 3 rfl) ?_
       exact by
        refine lv_icmp_ne (tgt := 70) hx hb dX12_goes_40 (of_decide_eq_true rfl) (fun c97 => ?_) (fun c97 => ?_)
        · have kc97 := jne c97 jz_0 t1
          refine lv_aload_n hx hb dX12_goes_70 rfl (lv_at hl 2 rfl) ?_
          refine va_get (D := D) hx hb hts inlX12 hown hK hP 55 (jc_55 cI cL ad σ τ) rfl 28 (of_decide_eq_true rfl) (hts _ kw_7_14) (fun _ h9 => h9) rfl dX12_goes_71 ?_
          refine lv_iload hx hb dX12_goes_74 (lv_at hl 1 rfl) ?_
          refine jald hx hb hK hP (jc_68 cI cL ad σ τ) (jin jz_0 (by omega) (by omega)) dX12_goes_76 ?_
          refine jtopr (y := σ 68 0) rfl ?_
          refine lv_if_le (tgt := 92) hx hb dX12_goes_77 (of_decide_eq_true rfl) (fun c98 => ?_) (fun c98 => ?_)
          · have kc98 := jle c98 rfl jz_0
            exact by
             refine lv_iconst (v := 0) hx hb dX12_goes_92 (of_decide_eq_true rfl) ?_
             exact by exact jn59 0 (by have h9 := jz_0; omega) (jSn_r (σ := σ) (k := 0) (by have h9 := jz_0; omega))
          · have kc98 := jnle c98 rfl jz_0
            refine lv_aload_n hx hb dX12_goes_80 rfl (lv_at hl 2 rfl) ?_
            refine va_get (D := D) hx hb hts inlX12 hown hK hP 55 (jc_55 cI cL ad σ τ) rfl 28 (of_decide_eq_true rfl) (hts _ kw_7_14) (fun _ h9 => h9) rfl dX12_goes_81 ?_
            refine lv_iload hx hb dX12_goes_84 (lv_at hl 1 rfl) ?_
            refine jald hx hb hK hP (jc_68 cI cL ad σ τ) (jin jz_0 (by omega) (by omega)) dX12_goes_86 ?_
            refine jtopr (y := σ 68 0) rfl ?_
            refine lv_iconst (v := 1) hx hb dX12_goes_87 (of_decide_eq_true rfl) ?_
            exact by
             refine lv_isub hx hb dX12_goes_88 ?_
             refine lv_topi (fun x99 ex99 => ?_)
             have tx99 : x99.toInt = (σ 68 0).toInt - 1 := (jsub ex99 rfl jz_1 (by omega) (by omega)).trans (by omega)
             refine lv_goto (tgt := 93) hx hb dX12_goes_89 (of_decide_eq_true rfl) ?_
             exact by exact jn59 x99 (by have h9 := tx99; omega) (jSn_r (σ := σ) (k := 0) (by have h9 := tx99; omega))
        · have kc97 := jeq c97 jz_0 t1
          refine lv_aload_n hx hb dX12_goes_43 rfl (lv_at hl 2 rfl) ?_
          refine va_get (D := D) hx hb hts inlX12 hown hK hP 55 (jc_55 cI cL ad σ τ) rfl 28 (of_decide_eq_true rfl) (hts _ kw_7_14) (fun _ h9 => h9) rfl dX12_goes_44 ?_
          refine lv_iload hx hb dX12_goes_47 (lv_at hl 1 rfl) ?_
          exact by
           refine jald hx hb hK hP (jc_68 cI cL ad σ τ) (jin jz_0 (by omega) (by omega)) dX12_goes_49 ?_
           refine jtopr (y := σ 68 0) rfl ?_
           refine lv_iconst (v := 3) hx hb dX12_goes_50 (of_decide_eq_true rfl) ?_
           refine lv_icmp_ge (tgt := 66) hx hb dX12_goes_51 (of_decide_eq_true rfl) (fun c100 => ?_) (fun c100 => ?_)
           · have kc100 := jle c100 jz_3 rfl
             refine lv_iconst (v := 3) hx hb dX12_goes_66 (of_decide_eq_true rfl) ?_
             refine lv_goto (tgt := 93) hx hb dX12_goes_67 (of_decide_eq_true rfl) ?_
             exact by exact jn59 3 (by have h9 := jz_3; omega) (jSn_r (σ := σ) (k := 0) (by have h9 := jz_3; omega))
           · have kc100 := jnle c100 jz_3 rfl
             refine lv_aload_n hx hb dX12_goes_54 rfl (lv_at hl 2 rfl) ?_
             refine va_get (D := D) hx hb hts inlX12 hown hK hP 55 (jc_55 cI cL ad σ τ) rfl 28 (of_decide_eq_true rfl) (hts _ kw_7_14) (fun _ h9 => h9) rfl dX12_goes_55 ?_
             refine lv_iload hx hb dX12_goes_58 (lv_at hl 1 rfl) ?_
             exact by
              refine jald hx hb hK hP (jc_68 cI cL ad σ τ) (jin jz_0 (by omega) (by omega)) dX12_goes_60 ?_
              refine jtopr (y := σ 68 0) rfl ?_
              refine lv_iconst (v := 1) hx hb dX12_goes_61 (of_decide_eq_true rfl) ?_
              refine lv_iadd hx hb dX12_goes_62 ?_
              refine lv_topi (fun x101 ex101 => ?_)
              have tx101 : x101.toInt = (σ 68 0).toInt + 1 := (jadd ex101 rfl jz_1 (by omega) (by omega)).trans (by omega)
              refine lv_goto (tgt := 93) hx hb dX12_goes_63 (of_decide_eq_true rfl) ?_
              exact by exact jn59 x101 (by have h9 := tx101; omega) (jSn_r (σ := σ) (k := 0) (by have h9 := tx101; omega))
  have kc52 := jne c52 (rfl : (σ 55 6).toInt = (σ 55 6).toInt) jz_2
  by_cases c102 : σ 55 6 = 3
  · exact by
     have kc102 := jeq c102 (rfl : (σ 55 6).toInt = (σ 55 6).toInt) jz_3
     refine lv_aload_n hx hb dX12_goes_0 rfl (lv_at hl 0 rfl) ?_
     refine va_get (D := D) hx hb hts inlX12 hown hK hP 55 (jc_55 cI cL ad σ τ) rfl 27 (of_decide_eq_true rfl) (hts _ kw_23_11) (fun _ h9 => h9) rfl dX12_goes_1 ?_
     refine lv_iconst (v := 1) hx hb dX12_goes_4 (of_decide_eq_true rfl) ?_
     have g103 := jrg (rfl : (σ 55 27).toInt = (σ 55 27).toInt)
     refine lv_iadd hx hb dX12_goes_5 ?_
     refine lv_topi (fun x104 ex104 => ?_)
     have tx104 : x104.toInt = (σ 55 27).toInt + 1 := (jadd ex104 rfl jz_1 (by omega) (by omega)).trans (by omega)
     refine lv_istore_n (lv' := [(3, .int x104), (0, .ref (ad 55)), (1, .int a1), (2, .int 0)]) hx hb dX12_goes_6 rfl hl (of_decide_eq_true rfl) rfl (fun ls hl => ?_)
     exact by
      refine lv_iconst (v := 0) hx hb dX12_goes_7 (of_decide_eq_true rfl) ?_
      refine lv_istore (lv' := [(4, .int 0), (3, .int x104), (0, .ref (ad 55)), (1, .int a1), (2, .int 0)]) hx hb dX12_goes_8 hl (of_decide_eq_true rfl) rfl (fun ls hl => ?_)
      refine lv_iload hx hb dX12_goes_10 (lv_at hl 0 rfl) ?_
      refine lv_aload_n hx hb dX12_goes_12 rfl (lv_at hl 2 rfl) ?_
      refine va_get (D := D) hx hb hts inlX12 hown hK hP 55 (jc_55 cI cL ad σ τ) rfl 6 (of_decide_eq_true rfl) (hts _ kw_9_13) (fun _ h9 => h9) rfl dX12_goes_13 ?_
      refine jtopr c102 ?_
      refine lv_icmp_ge (tgt := 100) hx hb dX12_goes_16 (of_decide_eq_true rfl) (fun c => absurd c (of_decide_eq_true rfl)) (fun _ => ?_)
      refine lv_iconst (v := 4) hx hb dX12_goes_19 (of_decide_eq_true rfl) ?_
      refine lv_iload_n hx hb dX12_goes_20 rfl (lv_at hl 1 rfl) ?_
      refine lv_imul hx hb dX12_goes_21 ?_
      refine lv_topi (fun x105 ex105 => ?_)
      exact by
       have tx105 : x105.toInt = 4 * (σ 55 27).toInt + 4 := (jmul ex105 jz_4 tx104 (by omega) (by omega)).trans (by omega)
       refine lv_aload_n hx hb dX12_goes_22 rfl (lv_at hl 2 rfl) ?_
       refine va_get (D := D) hx hb hts inlX12 hown hK hP 55 (jc_55 cI cL ad σ τ) rfl 28 (of_decide_eq_true rfl) (hts _ kw_7_14) (fun _ h9 => h9) rfl dX12_goes_23 ?_
       refine lv_iload hx hb dX12_goes_26 (lv_at hl 0 rfl) ?_
       refine jald hx hb hK hP (jc_68 cI cL ad σ τ) (jin jz_0 (by omega) (by omega)) dX12_goes_28 ?_
       refine jtopr (y := σ 68 0) rfl ?_
       have g106 := hw68 0 (of_decide_eq_true rfl)
       have g107 := jrg (rfl : (σ 68 0).toInt = (σ 68 0).toInt)
       refine lv_iadd hx hb dX12_goes_29 ?_
       exact by
        refine lv_topi (fun x108 ex108 => ?_)
        have tx108 : x108.toInt = 4 * (σ 55 27).toInt + (σ 68 0).toInt + 4 := (jadd ex108 tx105 rfl (by omega) (by omega)).trans (by omega)
        refine lv_istore_n (lv' := [(3, .int x108), (4, .int 0), (0, .ref (ad 55)), (1, .int a1), (2, .int 0)]) hx hb dX12_goes_30 rfl hl (of_decide_eq_true rfl) rfl (fun ls hl => ?_)
        refine lv_aload_n hx hb dX12_goes_31 rfl (lv_at hl 2 rfl) ?_
        refine va_get (D := D) hx hb hts inlX12 hown hK hP 55 (jc_55 cI cL ad σ τ) rfl 28 (of_decide_eq_true rfl) (hts _ kw_7_14) (fun _ h9 => h9) rfl dX12_goes_32 ?_
        refine lv_iload hx hb dX12_goes_35 (lv_at hl 1 rfl) ?_
        have jn109 : ∀ (x110 : Int32), (0 ≤ x110.toInt ∧ x110.toInt ≤ 3) → (x110.toInt = jSn (jrS σ) (A1).toNat 0) → W p l e ({ frames := 0, cells := 0, slots := 0, locals := 0 }) s m args below meth c s.heap [] 0 0 Q (F0 m 93 ls [.int x110, .int 0, .ref (ad 68)]) := by
          intro x110 k111 k112
          refine jast hx hb hK hP hJ hA hS (jc_68 cI cL ad σ τ) (ja_68 cI cL ad σ τ _ _) (jin jz_0 (by omega) (by omega)) dX12_goes_93 (fun σ113 H locs eσ113 hP hS => ?_)
          exact by
           have eσ113 : σ113 = jup σ 68 0 x110 := eσ113
           refine lv_iinc (v := 1) (lv' := [(4, .int 1), (3, .int x108), (0, .ref (ad 55)), (1, .int a1), (2, .int 0)]) hx hb dX12_goes_94 hl (k := 1) rfl (of_decide_eq_true rfl) (of_decide_eq_true rfl) rfl (fun ls hl => ?_)
           refine lv_goto (tgt := 10) hx hb dX12_goes_97 (of_decide_eq_true rfl) ?_
           refine lv_iload hx hb dX12_goes_10 (lv_at hl 0 rfl) ?_
           refine lv_aload_n hx hb dX12_goes_12 rfl (lv_at hl 2 rfl) ?_
           refine va_get (D := D) hx hb hts inlX12 hown hK hP 55 (jc_55 cI cL ad σ113 τ) rfl 6 (of_decide_eq_true rfl) (hts _ kw_9_13) (fun _ h9 => h9) rfl dX12_goes_13 ?_
           have m114 : σ113 55 6 = 3 := ((congrFun (jnp 55 eσ113 (of_decide_eq_true rfl)) 6).trans c102)
           refine jtopr m114 ?_
           refine lv_icmp_ge (tgt := 100) hx hb dX12_goes_16 (of_decide_eq_true rfl) (fun c => absurd c (of_decide_eq_true rfl)) (fun _ => ?_)
           refine lv_iconst (v := 4) hx hb dX12_goes_19 (of_decide_eq_true rfl) ?_
           refine lv_iload_n hx hb dX12_goes_20 rfl (lv_at hl 1 rfl) ?_
           refine lv_imul hx hb dX12_goes_21 ?_
           refine lv_topi (fun x115 ex115 => ?_)
           exact by
            have tx115 : x115.toInt = 16 * (σ 55 27).toInt + 4 * (σ 68 0).toInt + 16 := (jmul ex115 jz_4 tx108 (by omega) (by omega)).trans (by omega)
            refine lv_aload_n hx hb dX12_goes_22 rfl (lv_at hl 2 rfl) ?_
            refine va_get (D := D) hx hb hts inlX12 hown hK hP 55 (jc_55 cI cL ad σ113 τ) rfl 28 (of_decide_eq_true rfl) (hts _ kw_7_14) (fun _ h9 => h9) rfl dX12_goes_23 ?_
            refine lv_iload hx hb dX12_goes_26 (lv_at hl 0 rfl) ?_
            refine jald hx hb hK hP (jc_68 cI cL ad σ113 τ) (jin jz_1 (by omega) (by omega)) dX12_goes_28 ?_
            refine jtopr (y := σ113 68 1) rfl ?_
            have m116 : σ113 68 1 = (σ 68 1) := (jkp 1 eσ113 (of_decide_eq_true rfl))
            refine jtopr m116 ?_
            have w117 : ∀ k : Nat, k < 4 → 0 ≤ (σ113 68 k).toInt ∧ (σ113 68 k).toInt ≤ 3 := (by rw [eσ113]; exact jrr_up hw68 (by omega) (by omega))
            exact by
             have g118 := w117 1 (of_decide_eq_true rfl)
             rw [m116] at g118
             have g119 := jrg (rfl : (σ 68 1).toInt = (σ 68 1).toInt)
             refine lv_iadd hx hb dX12_goes_29 ?_
             refine lv_topi (fun x120 ex120 => ?_)
             have tx120 : x120.toInt = 16 * (σ 55 27).toInt + 4 * (σ 68 0).toInt + (σ 68 1).toInt + 16 := (jadd ex120 tx115 rfl (by omega) (by omega)).trans (by omega)
             refine lv_istore_n (lv' := [(3, .int x120), (4, .int 1), (0, .ref (ad 55)), (1, .int a1), (2, .int 0)]) hx hb dX12_goes_30 rfl hl (of_decide_eq_true rfl) rfl (fun ls hl => ?_)
             refine lv_aload_n hx hb dX12_goes_31 rfl (lv_at hl 2 rfl) ?_
             refine va_get (D := D) hx hb hts inlX12 hown hK hP 55 (jc_55 cI cL ad σ113 τ) rfl 28 (of_decide_eq_true rfl) (hts _ kw_7_14) (fun _ h9 => h9) rfl dX12_goes_32 ?_
             exact by
              refine lv_iload hx hb dX12_goes_35 (lv_at hl 1 rfl) ?_
              have jn121 : ∀ (x122 : Int32), (0 ≤ x122.toInt ∧ x122.toInt ≤ 3) → (x122.toInt = jSn (jrS σ) (A1).toNat 1) → W p l e ({ frames := 0, cells := 0, slots := 0, locals := 0 }) s m args below meth c H locs 0 0 Q (F0 m 93 ls [.int x122, .int 1, .ref (ad 68)]) := by
                intro x122 k123 k124
                refine jast hx hb hK hP hJ hA hS (jc_68 cI cL ad σ113 τ) (ja_68 cI cL ad σ113 τ _ _) (jin jz_1 (by omega) (by omega)) dX12_goes_93 (fun σ125 H locs eσ125 hP hS => ?_)
                have eσ125 : σ125 = jup σ113 68 1 x122 := eσ125
                refine lv_iinc (v := 2) (lv' := [(4, .int 2), (3, .int x120), (0, .ref (ad 55)), (1, .int a1), (2, .int 0)]) hx hb dX12_goes_94 hl (k := 1) rfl (of_decide_eq_true rfl) (of_decide_eq_true rfl) rfl (fun ls hl => ?_)
                refine lv_goto (tgt := 10) hx hb dX12_goes_97 (of_decide_eq_true rfl) ?_
                refine lv_iload hx hb dX12_goes_10 (lv_at hl 0 rfl) ?_
                refine lv_aload_n hx hb dX12_goes_12 rfl (lv_at hl 2 rfl) ?_
                exact by
                 refine va_get (D := D) hx hb hts inlX12 hown hK hP 55 (jc_55 cI cL ad σ125 τ) rfl 6 (of_decide_eq_true rfl) (hts _ kw_9_13) (fun _ h9 => h9) rfl dX12_goes_13 ?_
                 have m126 : σ125 55 6 = 3 := ((congrFun (jnp 55 eσ125 (of_decide_eq_true rfl)) 6).trans m114)
                 refine jtopr m126 ?_
                 refine lv_icmp_ge (tgt := 100) hx hb dX12_goes_16 (of_decide_eq_true rfl) (fun c => absurd c (of_decide_eq_true rfl)) (fun _ => ?_)
                 refine lv_iconst (v := 4) hx hb dX12_goes_19 (of_decide_eq_true rfl) ?_
                 refine lv_iload_n hx hb dX12_goes_20 rfl (lv_at hl 1 rfl) ?_
                 refine lv_imul hx hb dX12_goes_21 ?_
                 refine lv_topi (fun x127 ex127 => ?_)
                 have tx127 : x127.toInt = 64 * (σ 55 27).toInt + 16 * (σ 68 0).toInt + 4 * (σ 68 1).toInt + 64 := (jmul ex127 jz_4 tx120 (by omega) (by omega)).trans (by omega)
                 exact by
                  refine lv_aload_n hx hb dX12_goes_22 rfl (lv_at hl 2 rfl) ?_
                  refine va_get (D := D) hx hb hts inlX12 hown hK hP 55 (jc_55 cI cL ad σ125 τ) rfl 28 (of_decide_eq_true rfl) (hts _ kw_7_14) (fun _ h9 => h9) rfl dX12_goes_23 ?_
                  refine lv_iload hx hb dX12_goes_26 (lv_at hl 0 rfl) ?_
                  refine jald hx hb hK hP (jc_68 cI cL ad σ125 τ) (jin jz_2 (by omega) (by omega)) dX12_goes_28 ?_
                  refine jtopr (y := σ125 68 2) rfl ?_
                  have m128 : σ125 68 2 = (σ 68 2) := ((jkp 2 eσ125 (of_decide_eq_true rfl)).trans (jkp 2 eσ113 (of_decide_eq_true rfl)))
                  refine jtopr m128 ?_
                  have w129 : ∀ k : Nat, k < 4 → 0 ≤ (σ125 68 k).toInt ∧ (σ125 68 k).toInt ≤ 3 := (by rw [eσ125]; exact jrr_up w117 (by omega) (by omega))
                  have g130 := w129 2 (of_decide_eq_true rfl)
                  rw [m128] at g130
                  exact by
                   have g131 := jrg (rfl : (σ 68 2).toInt = (σ 68 2).toInt)
                   refine lv_iadd hx hb dX12_goes_29 ?_
                   refine lv_topi (fun x132 ex132 => ?_)
                   have tx132 : x132.toInt = 64 * (σ 55 27).toInt + 16 * (σ 68 0).toInt + 4 * (σ 68 1).toInt + (σ 68 2).toInt + 64 := (jadd ex132 tx127 rfl (by omega) (by omega)).trans (by omega)
                   refine lv_istore_n (lv' := [(3, .int x132), (4, .int 2), (0, .ref (ad 55)), (1, .int a1), (2, .int 0)]) hx hb dX12_goes_30 rfl hl (of_decide_eq_true rfl) rfl (fun ls hl => ?_)
                   refine lv_aload_n hx hb dX12_goes_31 rfl (lv_at hl 2 rfl) ?_
                   refine va_get (D := D) hx hb hts inlX12 hown hK hP 55 (jc_55 cI cL ad σ125 τ) rfl 28 (of_decide_eq_true rfl) (hts _ kw_7_14) (fun _ h9 => h9) rfl dX12_goes_32 ?_
                   refine lv_iload hx hb dX12_goes_35 (lv_at hl 1 rfl) ?_
                   have jn133 : ∀ (x134 : Int32), (0 ≤ x134.toInt ∧ x134.toInt ≤ 3) → (x134.toInt = jSn (jrS σ) (A1).toNat 2) → W p l e ({ frames := 0, cells := 0, slots := 0, locals := 0 }) s m args below meth c H locs 0 0 Q (F0 m 93 ls [.int x134, .int 2, .ref (ad 68)]) := by
                     intro x134 k135 k136
                     exact by
                      refine jast hx hb hK hP hJ hA hS (jc_68 cI cL ad σ125 τ) (ja_68 cI cL ad σ125 τ _ _) (jin jz_2 (by omega) (by omega)) dX12_goes_93 (fun σ137 H locs eσ137 hP hS => ?_)
                      have eσ137 : σ137 = jup σ125 68 2 x134 := eσ137
                      refine lv_iinc (v := 3) (lv' := [(4, .int 3), (3, .int x132), (0, .ref (ad 55)), (1, .int a1), (2, .int 0)]) hx hb dX12_goes_94 hl (k := 1) rfl (of_decide_eq_true rfl) (of_decide_eq_true rfl) rfl (fun ls hl => ?_)
                      refine lv_goto (tgt := 10) hx hb dX12_goes_97 (of_decide_eq_true rfl) ?_
                      refine lv_iload hx hb dX12_goes_10 (lv_at hl 0 rfl) ?_
                      refine lv_aload_n hx hb dX12_goes_12 rfl (lv_at hl 2 rfl) ?_
                      refine va_get (D := D) hx hb hts inlX12 hown hK hP 55 (jc_55 cI cL ad σ137 τ) rfl 6 (of_decide_eq_true rfl) (hts _ kw_9_13) (fun _ h9 => h9) rfl dX12_goes_13 ?_
                      have m138 : σ137 55 6 = 3 := ((congrFun (jnp 55 eσ137 (of_decide_eq_true rfl)) 6).trans m126)
                      refine jtopr m138 ?_
                      refine lv_icmp_ge (tgt := 100) hx hb dX12_goes_16 (of_decide_eq_true rfl) (fun _ => ?_) (fun c => absurd (of_decide_eq_true rfl) c)
                      refine lv_aload_n hx hb dX12_goes_100 rfl (lv_at hl 2 rfl) ?_
                      refine va_get (D := D) hx hb hts inlX12 hown hK hP 55 (jc_55 cI cL ad σ137 τ) rfl 29 (of_decide_eq_true rfl) (hts _ kw_7_15) (fun _ h9 => h9) rfl dX12_goes_101 ?_
                      refine lv_iload_n hx hb dX12_goes_104 rfl (lv_at hl 3 rfl) ?_
                      refine lv_dup2_11 hx hb dX12_goes_105 rfl rfl ?_
                      exact by
                       refine jald hx hb hK hP (jc_69 cI cL ad σ137 τ) (jin t1 (by omega) (by omega)) dX12_goes_106 ?_
                       refine lv_topi (fun x139 ex139 => ?_)
                       refine lv_iconst (v := 1) hx hb dX12_goes_107 (of_decide_eq_true rfl) ?_
                       have g140 := jrg (rfl : x139.toInt = x139.toInt)
                       refine lv_iadd hx hb dX12_goes_108 ?_
                       refine lv_topi (fun x141 ex141 => ?_)
                       have gx141 := jrg (rfl : x141.toInt = x141.toInt)
                       refine jast hx hb hK hP hJ hA hS (jc_69 cI cL ad σ137 τ) (ja_69 cI cL ad σ137 τ _ _) (jin t1 (by omega) (by omega)) dX12_goes_109 (fun σ142 H locs eσ142 hP hS => ?_)
                       refine lv_aload_n hx hb dX12_goes_110 rfl (lv_at hl 2 rfl) ?_
                       exact by
                        refine lv_iload_n hx hb dX12_goes_111 rfl (lv_at hl 3 rfl) ?_
                        refine jput (ty := .int) hx hb hts inlX12 tyX12 tyX12_ok nmX12 hown hK hP hJ hA hS (jc_55 cI cL ad σ142 τ) rfl (k := 27) (of_decide_eq_true rfl) (Nat.le_of_ble_eq_true rfl) (jp_55_27 cI cL ad σ142 τ a1) (hts _ kw_23_11) (fun _ h9 => h9) rfl (by decide +kernel) rfl rfl dX12_goes_112 (fun σ143 H locs eσ143 hP hS => ?_)
                        refine lv_aload_n hx hb dX12_goes_115 rfl (lv_at hl 2 rfl) ?_
                        refine lv_dup hx hb dX12_goes_116 rfl ?_
                        refine va_get (D := D) hx hb hts inlX12 hown hK hP 55 (jc_55 cI cL ad σ143 τ) rfl 26 (of_decide_eq_true rfl) (hts _ kw_23_5) (fun _ h9 => h9) rfl dX12_goes_117 ?_
                        have m144 : σ143 55 26 = (σ 55 26) := ((jkp 26 eσ143 (of_decide_eq_true rfl)).trans ((congrFun (jnp 55 eσ142 (of_decide_eq_true rfl)) 26).trans ((congrFun (jnp 55 eσ137 (of_decide_eq_true rfl)) 26).trans ((congrFun (jnp 55 eσ125 (of_decide_eq_true rfl)) 26).trans (congrFun (jnp 55 eσ113 (of_decide_eq_true rfl)) 26)))))
                        refine jtopr m144 ?_
                        refine lv_iconst (v := 1) hx hb dX12_goes_120 (of_decide_eq_true rfl) ?_
                        have g145 := jrg (rfl : (σ 55 26).toInt = (σ 55 26).toInt)
                        refine lv_iadd hx hb dX12_goes_121 ?_
                        refine lv_topi (fun x146 ex146 => ?_)
                        exact by
                         have tx146 : x146.toInt = (σ 55 26).toInt + 1 := (jadd ex146 rfl jz_1 (by omega) (by omega)).trans (by omega)
                         refine jput (ty := .int) hx hb hts inlX12 tyX12 tyX12_ok nmX12 hown hK hP hJ hA hS (jc_55 cI cL ad σ143 τ) rfl (k := 26) (of_decide_eq_true rfl) (Nat.le_of_ble_eq_true rfl) (jp_55_26 cI cL ad σ143 τ x146) (hts _ kw_23_5) (fun _ h9 => h9) rfl (by decide +kernel) rfl rfl dX12_goes_122 (fun σ147 H locs eσ147 hP hS => ?_)
                         refine lv_aload_n hx hb dX12_goes_125 rfl (lv_at hl 2 rfl) ?_
                         refine lv_dup hx hb dX12_goes_126 rfl ?_
                         refine va_get (D := D) hx hb hts inlX12 hown hK hP 55 (jc_55 cI cL ad σ147 τ) rfl 25 (of_decide_eq_true rfl) (hts _ kw_23_6) (fun _ h9 => h9) rfl dX12_goes_127 ?_
                         have m148 : σ147 55 25 = (σ 55 25) := ((jkp 25 eσ147 (of_decide_eq_true rfl)).trans ((jkp 25 eσ143 (of_decide_eq_true rfl)).trans ((congrFun (jnp 55 eσ142 (of_decide_eq_true rfl)) 25).trans ((congrFun (jnp 55 eσ137 (of_decide_eq_true rfl)) 25).trans ((congrFun (jnp 55 eσ125 (of_decide_eq_true rfl)) 25).trans (congrFun (jnp 55 eσ113 (of_decide_eq_true rfl)) 25))))))
                         refine jtopr m148 ?_
                         refine lv_iload_n hx hb dX12_goes_130 rfl (lv_at hl 4 rfl) ?_
                         refine lv_if_eq (tgt := 138) hx hb dX12_goes_131 (of_decide_eq_true rfl) (fun _ => ?_) (fun c => absurd (of_decide_eq_true rfl) c)
                         refine lv_iconst (v := 0) hx hb dX12_goes_138 (of_decide_eq_true rfl) ?_
                         refine lv_iadd hx hb dX12_goes_139 ?_
                         exact by
                          refine jtopr (y := (σ 55 25)) (by rw [Int32.add_zero]) ?_
                          refine jput (ty := .int) hx hb hts inlX12 tyX12 tyX12_ok nmX12 hown hK hP hJ hA hS (jc_55 cI cL ad σ147 τ) rfl (k := 25) (of_decide_eq_true rfl) (Nat.le_of_ble_eq_true rfl) (jp_55_25 cI cL ad σ147 τ (σ 55 25)) (hts _ kw_23_6) (fun _ h9 => h9) rfl (by decide +kernel) rfl rfl dX12_goes_140 (fun σ149 H locs eσ149 hP hS => ?_)
                          refine lv_iload_n hx hb dX12_goes_143 rfl (lv_at hl 1 rfl) ?_
                          have w150 : ∀ k : Nat, k < 4 → 0 ≤ (σ149 68 k).toInt ∧ (σ149 68 k).toInt ≤ 3 := (jrr_fr (jnp 68 eσ149 (of_decide_eq_true rfl)) (jrr_fr (jnp 68 eσ147 (of_decide_eq_true rfl)) (jrr_fr (jnp 68 eσ143 (of_decide_eq_true rfl)) (jrr_fr (jnp 68 eσ142 (of_decide_eq_true rfl)) (by rw [eσ137]; exact jrr_up w129 (by omega) (by omega))))))
                          have z151 : (σ149 55 25).toInt = (σ 55 25).toInt := (congrArg Int32.toInt (show σ149 55 25 = (σ 55 25) from (jsp eσ149)))
                          have z152 : (σ149 55 26).toInt = (σ 55 26).toInt + 1 := ((congrArg Int32.toInt (show σ149 55 26 = x146 from ((jkp 26 eσ149 (of_decide_eq_true rfl)).trans (jsp eσ147)))).trans tx146)
                          have z153 : (σ149 55 27).toInt = A1 := ((congrArg Int32.toInt (show σ149 55 27 = a1 from ((jkp 27 eσ149 (of_decide_eq_true rfl)).trans ((jkp 27 eσ147 (of_decide_eq_true rfl)).trans (jsp eσ143))))).trans t1)
                          exact by exact hret x132 σ149 τ _ _ _ _ rfl ⟨rfl, (fun i hi => ((jnp i eσ149 (imp_189 i hi)).trans ((jnp i eσ147 (imp_189 i hi)).trans ((jnp i eσ143 (imp_189 i hi)).trans ((jnp i eσ142 (imp_197 i hi)).trans ((jnp i eσ137 (imp_198 i hi)).trans ((jnp i eσ125 (imp_198 i hi)).trans (jnp i eσ113 (imp_198 i hi))))))))), (fun i hi => ((jkp i eσ149 (imp_192 i hi)).trans ((jkp i eσ147 (imp_191 i hi)).trans ((jkp i eσ143 (imp_190 i hi)).trans ((congrFun (jnp 55 eσ142 (of_decide_eq_true rfl)) i).trans ((congrFun (jnp 55 eσ137 (of_decide_eq_true rfl)) i).trans ((congrFun (jnp 55 eσ125 (of_decide_eq_true rfl)) i).trans (congrFun (jnp 55 eσ113 (of_decide_eq_true rfl)) i)))))))), w150, (by rw [eσ149, jup_n (of_decide_eq_true rfl), eσ147, jup_n (of_decide_eq_true rfl), eσ143, jup_n (of_decide_eq_true rfl), eσ142, jup_row, ex141, ex139, eσ137, jup_n (of_decide_eq_true rfl), eσ125, jup_n (of_decide_eq_true rfl), eσ113, jup_n (of_decide_eq_true rfl)]), (fun k hk => by rw [eσ149, jup_n (of_decide_eq_true rfl), eσ147, jup_n (of_decide_eq_true rfl), eσ143, jup_n (of_decide_eq_true rfl), eσ142, jup_n (of_decide_eq_true rfl), eσ137, jup_k (by omega), eσ125, jup_k (by omega), eσ113, jup_k (by omega)]), (fun c hc => jqll3 (p := fun c => jrS σ149 c = jSn (jrS σ) (A1).toNat c) ((congrArg Int32.toInt (show σ149 68 0 = x110 from ((congrFun (jnp 68 eσ149 (of_decide_eq_true rfl)) 0).trans ((congrFun (jnp 68 eσ147 (of_decide_eq_true rfl)) 0).trans ((congrFun (jnp 68 eσ143 (of_decide_eq_true rfl)) 0).trans ((congrFun (jnp 68 eσ142 (of_decide_eq_true rfl)) 0).trans ((jkp 0 eσ137 (of_decide_eq_true rfl)).trans ((jkp 0 eσ125 (of_decide_eq_true rfl)).trans (jsp eσ113))))))))).trans k112) ((congrArg Int32.toInt (show σ149 68 1 = x122 from ((congrFun (jnp 68 eσ149 (of_decide_eq_true rfl)) 1).trans ((congrFun (jnp 68 eσ147 (of_decide_eq_true rfl)) 1).trans ((congrFun (jnp 68 eσ143 (of_decide_eq_true rfl)) 1).trans ((congrFun (jnp 68 eσ142 (of_decide_eq_true rfl)) 1).trans ((jkp 1 eσ137 (of_decide_eq_true rfl)).trans (jsp eσ125)))))))).trans k124) ((congrArg Int32.toInt (show σ149 68 2 = x134 from ((congrFun (jnp 68 eσ149 (of_decide_eq_true rfl)) 2).trans ((congrFun (jnp 68 eσ147 (of_decide_eq_true rfl)) 2).trans ((congrFun (jnp 68 eσ143 (of_decide_eq_true rfl)) 2).trans ((congrFun (jnp 68 eσ142 (of_decide_eq_true rfl)) 2).trans (jsp eσ137))))))).trans k136) c (by omega)), (by omega), (by omega), (by omega), ⟨trivial, (by have h9 := tx132; omega), (by have h9 := tx132; omega), (by have h9 := tx132; omega), (by have h9 := tx132; omega), (by have h9 := tx132; omega)⟩⟩ hP hS dX12_goes_144
                   refine lv_iload hx hb dX12_goes_37 (lv_at hl 1 rfl) ?_
                   exact by
                    refine lv_iload_n hx hb dX12_goes_39 rfl (lv_at hl 3 rfl) ?_
                    refine lv_icmp_ne (tgt := 70) hx hb dX12_goes_40 (of_decide_eq_true rfl) (fun c154 => ?_) (fun c154 => ?_)
                    · have kc154 := jne c154 jz_2 t1
                      refine lv_aload_n hx hb dX12_goes_70 rfl (lv_at hl 2 rfl) ?_
                      refine va_get (D := D) hx hb hts inlX12 hown hK hP 55 (jc_55 cI cL ad σ125 τ) rfl 28 (of_decide_eq_true rfl) (hts _ kw_7_14) (fun _ h9 => h9) rfl dX12_goes_71 ?_
                      refine lv_iload hx hb dX12_goes_74 (lv_at hl 1 rfl) ?_
                      refine jald hx hb hK hP (jc_68 cI cL ad σ125 τ) (jin jz_2 (by omega) (by omega)) dX12_goes_76 ?_
                      refine jtopr (y := σ125 68 2) rfl ?_
                      refine jtopr m128 ?_
                      exact by
                       refine lv_if_le (tgt := 92) hx hb dX12_goes_77 (of_decide_eq_true rfl) (fun c155 => ?_) (fun c155 => ?_)
                       · have kc155 := jle c155 rfl jz_0
                         refine lv_iconst (v := 0) hx hb dX12_goes_92 (of_decide_eq_true rfl) ?_
                         exact by exact jn133 0 (by have h9 := jz_0; omega) (jSn_r (σ := σ) (k := 2) (by have h9 := jz_0; omega))
                       · have kc155 := jnle c155 rfl jz_0
                         refine lv_aload_n hx hb dX12_goes_80 rfl (lv_at hl 2 rfl) ?_
                         refine va_get (D := D) hx hb hts inlX12 hown hK hP 55 (jc_55 cI cL ad σ125 τ) rfl 28 (of_decide_eq_true rfl) (hts _ kw_7_14) (fun _ h9 => h9) rfl dX12_goes_81 ?_
                         refine lv_iload hx hb dX12_goes_84 (lv_at hl 1 rfl) ?_
                         refine jald hx hb hK hP (jc_68 cI cL ad σ125 τ) (jin jz_2 (by omega) (by omega)) dX12_goes_86 ?_
                         exact by
                          refine jtopr (y := σ125 68 2) rfl ?_
                          refine jtopr m128 ?_
                          refine lv_iconst (v := 1) hx hb dX12_goes_87 (of_decide_eq_true rfl) ?_
                          refine lv_isub hx hb dX12_goes_88 ?_
                          refine lv_topi (fun x156 ex156 => ?_)
                          have tx156 : x156.toInt = (σ 68 2).toInt - 1 := (jsub ex156 rfl jz_1 (by omega) (by omega)).trans (by omega)
                          refine lv_goto (tgt := 93) hx hb dX12_goes_89 (of_decide_eq_true rfl) ?_
                          exact by exact jn133 x156 (by have h9 := tx156; omega) (jSn_r (σ := σ) (k := 2) (by have h9 := tx156; omega))
                    · have kc154 := jeq c154 jz_2 t1
                      exact by
                       refine lv_aload_n hx hb dX12_goes_43 rfl (lv_at hl 2 rfl) ?_
                       refine va_get (D := D) hx hb hts inlX12 hown hK hP 55 (jc_55 cI cL ad σ125 τ) rfl 28 (of_decide_eq_true rfl) (hts _ kw_7_14) (fun _ h9 => h9) rfl dX12_goes_44 ?_
                       refine lv_iload hx hb dX12_goes_47 (lv_at hl 1 rfl) ?_
                       refine jald hx hb hK hP (jc_68 cI cL ad σ125 τ) (jin jz_2 (by omega) (by omega)) dX12_goes_49 ?_
                       refine jtopr (y := σ125 68 2) rfl ?_
                       refine jtopr m128 ?_
                       refine lv_iconst (v := 3) hx hb dX12_goes_50 (of_decide_eq_true rfl) ?_
                       refine lv_icmp_ge (tgt := 66) hx hb dX12_goes_51 (of_decide_eq_true rfl) (fun c157 => ?_) (fun c157 => ?_)
                       · have kc157 := jle c157 jz_3 rfl
                         exact by
                          refine lv_iconst (v := 3) hx hb dX12_goes_66 (of_decide_eq_true rfl) ?_
                          refine lv_goto (tgt := 93) hx hb dX12_goes_67 (of_decide_eq_true rfl) ?_
                          exact by exact jn133 3 (by have h9 := jz_3; omega) (jSn_r (σ := σ) (k := 2) (by have h9 := jz_3; omega))
                       · have kc157 := jnle c157 jz_3 rfl
                         refine lv_aload_n hx hb dX12_goes_54 rfl (lv_at hl 2 rfl) ?_
                         refine va_get (D := D) hx hb hts inlX12 hown hK hP 55 (jc_55 cI cL ad σ125 τ) rfl 28 (of_decide_eq_true rfl) (hts _ kw_7_14) (fun _ h9 => h9) rfl dX12_goes_55 ?_
                         refine lv_iload hx hb dX12_goes_58 (lv_at hl 1 rfl) ?_
                         refine jald hx hb hK hP (jc_68 cI cL ad σ125 τ) (jin jz_2 (by omega) (by omega)) dX12_goes_60 ?_
                         refine jtopr (y := σ125 68 2) rfl ?_
                         exact by
                          refine jtopr m128 ?_
                          refine lv_iconst (v := 1) hx hb dX12_goes_61 (of_decide_eq_true rfl) ?_
                          refine lv_iadd hx hb dX12_goes_62 ?_
                          refine lv_topi (fun x158 ex158 => ?_)
                          have tx158 : x158.toInt = (σ 68 2).toInt + 1 := (jadd ex158 rfl jz_1 (by omega) (by omega)).trans (by omega)
                          refine lv_goto (tgt := 93) hx hb dX12_goes_63 (of_decide_eq_true rfl) ?_
                          exact by exact jn133 x158 (by have h9 := tx158; omega) (jSn_r (σ := σ) (k := 2) (by have h9 := tx158; omega))
              refine lv_iload hx hb dX12_goes_37 (lv_at hl 1 rfl) ?_
              refine lv_iload_n hx hb dX12_goes_39 rfl (lv_at hl 3 rfl) ?_
              exact by
               refine lv_icmp_ne (tgt := 70) hx hb dX12_goes_40 (of_decide_eq_true rfl) (fun c159 => ?_) (fun c159 => ?_)
               · have kc159 := jne c159 jz_1 t1
                 refine lv_aload_n hx hb dX12_goes_70 rfl (lv_at hl 2 rfl) ?_
                 refine va_get (D := D) hx hb hts inlX12 hown hK hP 55 (jc_55 cI cL ad σ113 τ) rfl 28 (of_decide_eq_true rfl) (hts _ kw_7_14) (fun _ h9 => h9) rfl dX12_goes_71 ?_
                 refine lv_iload hx hb dX12_goes_74 (lv_at hl 1 rfl) ?_
                 refine jald hx hb hK hP (jc_68 cI cL ad σ113 τ) (jin jz_1 (by omega) (by omega)) dX12_goes_76 ?_
                 refine jtopr (y := σ113 68 1) rfl ?_
                 refine jtopr m116 ?_
                 refine lv_if_le (tgt := 92) hx hb dX12_goes_77 (of_decide_eq_true rfl) (fun c160 => ?_) (fun c160 => ?_)
                 · exact by
                    have kc160 := jle c160 rfl jz_0
                    refine lv_iconst (v := 0) hx hb dX12_goes_92 (of_decide_eq_true rfl) ?_
                    exact by exact jn121 0 (by have h9 := jz_0; omega) (jSn_r (σ := σ) (k := 1) (by have h9 := jz_0; omega))
                 · have kc160 := jnle c160 rfl jz_0
                   refine lv_aload_n hx hb dX12_goes_80 rfl (lv_at hl 2 rfl) ?_
                   refine va_get (D := D) hx hb hts inlX12 hown hK hP 55 (jc_55 cI cL ad σ113 τ) rfl 28 (of_decide_eq_true rfl) (hts _ kw_7_14) (fun _ h9 => h9) rfl dX12_goes_81 ?_
                   refine lv_iload hx hb dX12_goes_84 (lv_at hl 1 rfl) ?_
                   refine jald hx hb hK hP (jc_68 cI cL ad σ113 τ) (jin jz_1 (by omega) (by omega)) dX12_goes_86 ?_
                   refine jtopr (y := σ113 68 1) rfl ?_
                   exact by
                    refine jtopr m116 ?_
                    refine lv_iconst (v := 1) hx hb dX12_goes_87 (of_decide_eq_true rfl) ?_
                    refine lv_isub hx hb dX12_goes_88 ?_
                    refine lv_topi (fun x161 ex161 => ?_)
                    have tx161 : x161.toInt = (σ 68 1).toInt - 1 := (jsub ex161 rfl jz_1 (by omega) (by omega)).trans (by omega)
                    refine lv_goto (tgt := 93) hx hb dX12_goes_89 (of_decide_eq_true rfl) ?_
                    exact by exact jn121 x161 (by have h9 := tx161; omega) (jSn_r (σ := σ) (k := 1) (by have h9 := tx161; omega))
               · have kc159 := jeq c159 jz_1 t1
                 refine lv_aload_n hx hb dX12_goes_43 rfl (lv_at hl 2 rfl) ?_
                 exact by
                  refine va_get (D := D) hx hb hts inlX12 hown hK hP 55 (jc_55 cI cL ad σ113 τ) rfl 28 (of_decide_eq_true rfl) (hts _ kw_7_14) (fun _ h9 => h9) rfl dX12_goes_44 ?_
                  refine lv_iload hx hb dX12_goes_47 (lv_at hl 1 rfl) ?_
                  refine jald hx hb hK hP (jc_68 cI cL ad σ113 τ) (jin jz_1 (by omega) (by omega)) dX12_goes_49 ?_
                  refine jtopr (y := σ113 68 1) rfl ?_
                  refine jtopr m116 ?_
                  refine lv_iconst (v := 3) hx hb dX12_goes_50 (of_decide_eq_true rfl) ?_
                  refine lv_icmp_ge (tgt := 66) hx hb dX12_goes_51 (of_decide_eq_true rfl) (fun c162 => ?_) (fun c162 => ?_)
                  · have kc162 := jle c162 jz_3 rfl
                    refine lv_iconst (v := 3) hx hb dX12_goes_66 (of_decide_eq_true rfl) ?_
                    exact by
                     refine lv_goto (tgt := 93) hx hb dX12_goes_67 (of_decide_eq_true rfl) ?_
                     exact by exact jn121 3 (by have h9 := jz_3; omega) (jSn_r (σ := σ) (k := 1) (by have h9 := jz_3; omega))
                  · have kc162 := jnle c162 jz_3 rfl
                    refine lv_aload_n hx hb dX12_goes_54 rfl (lv_at hl 2 rfl) ?_
                    refine va_get (D := D) hx hb hts inlX12 hown hK hP 55 (jc_55 cI cL ad σ113 τ) rfl 28 (of_decide_eq_true rfl) (hts _ kw_7_14) (fun _ h9 => h9) rfl dX12_goes_55 ?_
                    refine lv_iload hx hb dX12_goes_58 (lv_at hl 1 rfl) ?_
                    refine jald hx hb hK hP (jc_68 cI cL ad σ113 τ) (jin jz_1 (by omega) (by omega)) dX12_goes_60 ?_
                    refine jtopr (y := σ113 68 1) rfl ?_
                    refine jtopr m116 ?_
                    exact by
                     refine lv_iconst (v := 1) hx hb dX12_goes_61 (of_decide_eq_true rfl) ?_
                     refine lv_iadd hx hb dX12_goes_62 ?_
                     refine lv_topi (fun x163 ex163 => ?_)
                     have tx163 : x163.toInt = (σ 68 1).toInt + 1 := (jadd ex163 rfl jz_1 (by omega) (by omega)).trans (by omega)
                     refine lv_goto (tgt := 93) hx hb dX12_goes_63 (of_decide_eq_true rfl) ?_
                     exact by exact jn121 x163 (by have h9 := tx163; omega) (jSn_r (σ := σ) (k := 1) (by have h9 := tx163; omega))
        refine lv_iload hx hb dX12_goes_37 (lv_at hl 1 rfl) ?_
        refine lv_iload_n hx hb dX12_goes_39 rfl (lv_at hl 3 rfl) ?_
        refine lv_icmp_ne (tgt := 70) hx hb dX12_goes_40 (of_decide_eq_true rfl) (fun c164 => ?_) (fun c164 => ?_)
        · exact by
           have kc164 := jne c164 jz_0 t1
           refine lv_aload_n hx hb dX12_goes_70 rfl (lv_at hl 2 rfl) ?_
           refine va_get (D := D) hx hb hts inlX12 hown hK hP 55 (jc_55 cI cL ad σ τ) rfl 28 (of_decide_eq_true rfl) (hts _ kw_7_14) (fun _ h9 => h9) rfl dX12_goes_71 ?_
           refine lv_iload hx hb dX12_goes_74 (lv_at hl 1 rfl) ?_
           refine jald hx hb hK hP (jc_68 cI cL ad σ τ) (jin jz_0 (by omega) (by omega)) dX12_goes_76 ?_
           refine jtopr (y := σ 68 0) rfl ?_
           refine lv_if_le (tgt := 92) hx hb dX12_goes_77 (of_decide_eq_true rfl) (fun c165 => ?_) (fun c165 => ?_)
           · have kc165 := jle c165 rfl jz_0
             refine lv_iconst (v := 0) hx hb dX12_goes_92 (of_decide_eq_true rfl) ?_
             exact by exact jn109 0 (by have h9 := jz_0; omega) (jSn_r (σ := σ) (k := 0) (by have h9 := jz_0; omega))
           · exact by
              have kc165 := jnle c165 rfl jz_0
              refine lv_aload_n hx hb dX12_goes_80 rfl (lv_at hl 2 rfl) ?_
              refine va_get (D := D) hx hb hts inlX12 hown hK hP 55 (jc_55 cI cL ad σ τ) rfl 28 (of_decide_eq_true rfl) (hts _ kw_7_14) (fun _ h9 => h9) rfl dX12_goes_81 ?_
              refine lv_iload hx hb dX12_goes_84 (lv_at hl 1 rfl) ?_
              refine jald hx hb hK hP (jc_68 cI cL ad σ τ) (jin jz_0 (by omega) (by omega)) dX12_goes_86 ?_
              refine jtopr (y := σ 68 0) rfl ?_
              refine lv_iconst (v := 1) hx hb dX12_goes_87 (of_decide_eq_true rfl) ?_
              refine lv_isub hx hb dX12_goes_88 ?_
              refine lv_topi (fun x166 ex166 => ?_)
              exact by
               have tx166 : x166.toInt = (σ 68 0).toInt - 1 := (jsub ex166 rfl jz_1 (by omega) (by omega)).trans (by omega)
               refine lv_goto (tgt := 93) hx hb dX12_goes_89 (of_decide_eq_true rfl) ?_
               exact by exact jn109 x166 (by have h9 := tx166; omega) (jSn_r (σ := σ) (k := 0) (by have h9 := tx166; omega))
        · have kc164 := jeq c164 jz_0 t1
          refine lv_aload_n hx hb dX12_goes_43 rfl (lv_at hl 2 rfl) ?_
          refine va_get (D := D) hx hb hts inlX12 hown hK hP 55 (jc_55 cI cL ad σ τ) rfl 28 (of_decide_eq_true rfl) (hts _ kw_7_14) (fun _ h9 => h9) rfl dX12_goes_44 ?_
          refine lv_iload hx hb dX12_goes_47 (lv_at hl 1 rfl) ?_
          refine jald hx hb hK hP (jc_68 cI cL ad σ τ) (jin jz_0 (by omega) (by omega)) dX12_goes_49 ?_
          refine jtopr (y := σ 68 0) rfl ?_
          exact by
           refine lv_iconst (v := 3) hx hb dX12_goes_50 (of_decide_eq_true rfl) ?_
           refine lv_icmp_ge (tgt := 66) hx hb dX12_goes_51 (of_decide_eq_true rfl) (fun c167 => ?_) (fun c167 => ?_)
           · have kc167 := jle c167 jz_3 rfl
             refine lv_iconst (v := 3) hx hb dX12_goes_66 (of_decide_eq_true rfl) ?_
             refine lv_goto (tgt := 93) hx hb dX12_goes_67 (of_decide_eq_true rfl) ?_
             exact by exact jn109 3 (by have h9 := jz_3; omega) (jSn_r (σ := σ) (k := 0) (by have h9 := jz_3; omega))
           · have kc167 := jnle c167 jz_3 rfl
             refine lv_aload_n hx hb dX12_goes_54 rfl (lv_at hl 2 rfl) ?_
             refine va_get (D := D) hx hb hts inlX12 hown hK hP 55 (jc_55 cI cL ad σ τ) rfl 28 (of_decide_eq_true rfl) (hts _ kw_7_14) (fun _ h9 => h9) rfl dX12_goes_55 ?_
             refine lv_iload hx hb dX12_goes_58 (lv_at hl 1 rfl) ?_
             exact by
              refine jald hx hb hK hP (jc_68 cI cL ad σ τ) (jin jz_0 (by omega) (by omega)) dX12_goes_60 ?_
              refine jtopr (y := σ 68 0) rfl ?_
              refine lv_iconst (v := 1) hx hb dX12_goes_61 (of_decide_eq_true rfl) ?_
              refine lv_iadd hx hb dX12_goes_62 ?_
              refine lv_topi (fun x168 ex168 => ?_)
              have tx168 : x168.toInt = (σ 68 0).toInt + 1 := (jadd ex168 rfl jz_1 (by omega) (by omega)).trans (by omega)
              refine lv_goto (tgt := 93) hx hb dX12_goes_63 (of_decide_eq_true rfl) ?_
              exact by exact jn109 x168 (by have h9 := tx168; omega) (jSn_r (σ := σ) (k := 0) (by have h9 := tx168; omega))
  have kc102 := jne c102 (rfl : (σ 55 6).toInt = (σ 55 6).toInt) jz_3
  by_cases c169 : σ 55 6 = 4
  · exact by
     have kc169 := jeq c169 (rfl : (σ 55 6).toInt = (σ 55 6).toInt) jz_4
     refine lv_aload_n hx hb dX12_goes_0 rfl (lv_at hl 0 rfl) ?_
     refine va_get (D := D) hx hb hts inlX12 hown hK hP 55 (jc_55 cI cL ad σ τ) rfl 27 (of_decide_eq_true rfl) (hts _ kw_23_11) (fun _ h9 => h9) rfl dX12_goes_1 ?_
     refine lv_iconst (v := 1) hx hb dX12_goes_4 (of_decide_eq_true rfl) ?_
     have g170 := jrg (rfl : (σ 55 27).toInt = (σ 55 27).toInt)
     refine lv_iadd hx hb dX12_goes_5 ?_
     refine lv_topi (fun x171 ex171 => ?_)
     have tx171 : x171.toInt = (σ 55 27).toInt + 1 := (jadd ex171 rfl jz_1 (by omega) (by omega)).trans (by omega)
     refine lv_istore_n (lv' := [(3, .int x171), (0, .ref (ad 55)), (1, .int a1), (2, .int 0)]) hx hb dX12_goes_6 rfl hl (of_decide_eq_true rfl) rfl (fun ls hl => ?_)
     exact by
      refine lv_iconst (v := 0) hx hb dX12_goes_7 (of_decide_eq_true rfl) ?_
      refine lv_istore (lv' := [(4, .int 0), (3, .int x171), (0, .ref (ad 55)), (1, .int a1), (2, .int 0)]) hx hb dX12_goes_8 hl (of_decide_eq_true rfl) rfl (fun ls hl => ?_)
      refine lv_iload hx hb dX12_goes_10 (lv_at hl 0 rfl) ?_
      refine lv_aload_n hx hb dX12_goes_12 rfl (lv_at hl 2 rfl) ?_
      refine va_get (D := D) hx hb hts inlX12 hown hK hP 55 (jc_55 cI cL ad σ τ) rfl 6 (of_decide_eq_true rfl) (hts _ kw_9_13) (fun _ h9 => h9) rfl dX12_goes_13 ?_
      refine jtopr c169 ?_
      refine lv_icmp_ge (tgt := 100) hx hb dX12_goes_16 (of_decide_eq_true rfl) (fun c => absurd c (of_decide_eq_true rfl)) (fun _ => ?_)
      refine lv_iconst (v := 4) hx hb dX12_goes_19 (of_decide_eq_true rfl) ?_
      refine lv_iload_n hx hb dX12_goes_20 rfl (lv_at hl 1 rfl) ?_
      refine lv_imul hx hb dX12_goes_21 ?_
      refine lv_topi (fun x172 ex172 => ?_)
      exact by
       have tx172 : x172.toInt = 4 * (σ 55 27).toInt + 4 := (jmul ex172 jz_4 tx171 (by omega) (by omega)).trans (by omega)
       refine lv_aload_n hx hb dX12_goes_22 rfl (lv_at hl 2 rfl) ?_
       refine va_get (D := D) hx hb hts inlX12 hown hK hP 55 (jc_55 cI cL ad σ τ) rfl 28 (of_decide_eq_true rfl) (hts _ kw_7_14) (fun _ h9 => h9) rfl dX12_goes_23 ?_
       refine lv_iload hx hb dX12_goes_26 (lv_at hl 0 rfl) ?_
       refine jald hx hb hK hP (jc_68 cI cL ad σ τ) (jin jz_0 (by omega) (by omega)) dX12_goes_28 ?_
       refine jtopr (y := σ 68 0) rfl ?_
       have g173 := hw68 0 (of_decide_eq_true rfl)
       have g174 := jrg (rfl : (σ 68 0).toInt = (σ 68 0).toInt)
       refine lv_iadd hx hb dX12_goes_29 ?_
       exact by
        refine lv_topi (fun x175 ex175 => ?_)
        have tx175 : x175.toInt = 4 * (σ 55 27).toInt + (σ 68 0).toInt + 4 := (jadd ex175 tx172 rfl (by omega) (by omega)).trans (by omega)
        refine lv_istore_n (lv' := [(3, .int x175), (4, .int 0), (0, .ref (ad 55)), (1, .int a1), (2, .int 0)]) hx hb dX12_goes_30 rfl hl (of_decide_eq_true rfl) rfl (fun ls hl => ?_)
        refine lv_aload_n hx hb dX12_goes_31 rfl (lv_at hl 2 rfl) ?_
        refine va_get (D := D) hx hb hts inlX12 hown hK hP 55 (jc_55 cI cL ad σ τ) rfl 28 (of_decide_eq_true rfl) (hts _ kw_7_14) (fun _ h9 => h9) rfl dX12_goes_32 ?_
        refine lv_iload hx hb dX12_goes_35 (lv_at hl 1 rfl) ?_
        have jn176 : ∀ (x177 : Int32), (0 ≤ x177.toInt ∧ x177.toInt ≤ 3) → (x177.toInt = jSn (jrS σ) (A1).toNat 0) → W p l e ({ frames := 0, cells := 0, slots := 0, locals := 0 }) s m args below meth c s.heap [] 0 0 Q (F0 m 93 ls [.int x177, .int 0, .ref (ad 68)]) := by
          intro x177 k178 k179
          refine jast hx hb hK hP hJ hA hS (jc_68 cI cL ad σ τ) (ja_68 cI cL ad σ τ _ _) (jin jz_0 (by omega) (by omega)) dX12_goes_93 (fun σ180 H locs eσ180 hP hS => ?_)
          exact by
           have eσ180 : σ180 = jup σ 68 0 x177 := eσ180
           refine lv_iinc (v := 1) (lv' := [(4, .int 1), (3, .int x175), (0, .ref (ad 55)), (1, .int a1), (2, .int 0)]) hx hb dX12_goes_94 hl (k := 1) rfl (of_decide_eq_true rfl) (of_decide_eq_true rfl) rfl (fun ls hl => ?_)
           refine lv_goto (tgt := 10) hx hb dX12_goes_97 (of_decide_eq_true rfl) ?_
           refine lv_iload hx hb dX12_goes_10 (lv_at hl 0 rfl) ?_
           refine lv_aload_n hx hb dX12_goes_12 rfl (lv_at hl 2 rfl) ?_
           refine va_get (D := D) hx hb hts inlX12 hown hK hP 55 (jc_55 cI cL ad σ180 τ) rfl 6 (of_decide_eq_true rfl) (hts _ kw_9_13) (fun _ h9 => h9) rfl dX12_goes_13 ?_
           have m181 : σ180 55 6 = 4 := ((congrFun (jnp 55 eσ180 (of_decide_eq_true rfl)) 6).trans c169)
           refine jtopr m181 ?_
           refine lv_icmp_ge (tgt := 100) hx hb dX12_goes_16 (of_decide_eq_true rfl) (fun c => absurd c (of_decide_eq_true rfl)) (fun _ => ?_)
           refine lv_iconst (v := 4) hx hb dX12_goes_19 (of_decide_eq_true rfl) ?_
           refine lv_iload_n hx hb dX12_goes_20 rfl (lv_at hl 1 rfl) ?_
           refine lv_imul hx hb dX12_goes_21 ?_
           refine lv_topi (fun x182 ex182 => ?_)
           exact by
            have tx182 : x182.toInt = 16 * (σ 55 27).toInt + 4 * (σ 68 0).toInt + 16 := (jmul ex182 jz_4 tx175 (by omega) (by omega)).trans (by omega)
            refine lv_aload_n hx hb dX12_goes_22 rfl (lv_at hl 2 rfl) ?_
            refine va_get (D := D) hx hb hts inlX12 hown hK hP 55 (jc_55 cI cL ad σ180 τ) rfl 28 (of_decide_eq_true rfl) (hts _ kw_7_14) (fun _ h9 => h9) rfl dX12_goes_23 ?_
            refine lv_iload hx hb dX12_goes_26 (lv_at hl 0 rfl) ?_
            refine jald hx hb hK hP (jc_68 cI cL ad σ180 τ) (jin jz_1 (by omega) (by omega)) dX12_goes_28 ?_
            refine jtopr (y := σ180 68 1) rfl ?_
            have m183 : σ180 68 1 = (σ 68 1) := (jkp 1 eσ180 (of_decide_eq_true rfl))
            refine jtopr m183 ?_
            have w184 : ∀ k : Nat, k < 4 → 0 ≤ (σ180 68 k).toInt ∧ (σ180 68 k).toInt ≤ 3 := (by rw [eσ180]; exact jrr_up hw68 (by omega) (by omega))
            exact by
             have g185 := w184 1 (of_decide_eq_true rfl)
             rw [m183] at g185
             have g186 := jrg (rfl : (σ 68 1).toInt = (σ 68 1).toInt)
             refine lv_iadd hx hb dX12_goes_29 ?_
             refine lv_topi (fun x187 ex187 => ?_)
             have tx187 : x187.toInt = 16 * (σ 55 27).toInt + 4 * (σ 68 0).toInt + (σ 68 1).toInt + 16 := (jadd ex187 tx182 rfl (by omega) (by omega)).trans (by omega)
             refine lv_istore_n (lv' := [(3, .int x187), (4, .int 1), (0, .ref (ad 55)), (1, .int a1), (2, .int 0)]) hx hb dX12_goes_30 rfl hl (of_decide_eq_true rfl) rfl (fun ls hl => ?_)
             refine lv_aload_n hx hb dX12_goes_31 rfl (lv_at hl 2 rfl) ?_
             refine va_get (D := D) hx hb hts inlX12 hown hK hP 55 (jc_55 cI cL ad σ180 τ) rfl 28 (of_decide_eq_true rfl) (hts _ kw_7_14) (fun _ h9 => h9) rfl dX12_goes_32 ?_
             exact by
              refine lv_iload hx hb dX12_goes_35 (lv_at hl 1 rfl) ?_
              have jn188 : ∀ (x189 : Int32), (0 ≤ x189.toInt ∧ x189.toInt ≤ 3) → (x189.toInt = jSn (jrS σ) (A1).toNat 1) → W p l e ({ frames := 0, cells := 0, slots := 0, locals := 0 }) s m args below meth c H locs 0 0 Q (F0 m 93 ls [.int x189, .int 1, .ref (ad 68)]) := by
                intro x189 k190 k191
                refine jast hx hb hK hP hJ hA hS (jc_68 cI cL ad σ180 τ) (ja_68 cI cL ad σ180 τ _ _) (jin jz_1 (by omega) (by omega)) dX12_goes_93 (fun σ192 H locs eσ192 hP hS => ?_)
                have eσ192 : σ192 = jup σ180 68 1 x189 := eσ192
                refine lv_iinc (v := 2) (lv' := [(4, .int 2), (3, .int x187), (0, .ref (ad 55)), (1, .int a1), (2, .int 0)]) hx hb dX12_goes_94 hl (k := 1) rfl (of_decide_eq_true rfl) (of_decide_eq_true rfl) rfl (fun ls hl => ?_)
                refine lv_goto (tgt := 10) hx hb dX12_goes_97 (of_decide_eq_true rfl) ?_
                refine lv_iload hx hb dX12_goes_10 (lv_at hl 0 rfl) ?_
                refine lv_aload_n hx hb dX12_goes_12 rfl (lv_at hl 2 rfl) ?_
                exact by
                 refine va_get (D := D) hx hb hts inlX12 hown hK hP 55 (jc_55 cI cL ad σ192 τ) rfl 6 (of_decide_eq_true rfl) (hts _ kw_9_13) (fun _ h9 => h9) rfl dX12_goes_13 ?_
                 have m193 : σ192 55 6 = 4 := ((congrFun (jnp 55 eσ192 (of_decide_eq_true rfl)) 6).trans m181)
                 refine jtopr m193 ?_
                 refine lv_icmp_ge (tgt := 100) hx hb dX12_goes_16 (of_decide_eq_true rfl) (fun c => absurd c (of_decide_eq_true rfl)) (fun _ => ?_)
                 refine lv_iconst (v := 4) hx hb dX12_goes_19 (of_decide_eq_true rfl) ?_
                 refine lv_iload_n hx hb dX12_goes_20 rfl (lv_at hl 1 rfl) ?_
                 refine lv_imul hx hb dX12_goes_21 ?_
                 refine lv_topi (fun x194 ex194 => ?_)
                 have tx194 : x194.toInt = 64 * (σ 55 27).toInt + 16 * (σ 68 0).toInt + 4 * (σ 68 1).toInt + 64 := (jmul ex194 jz_4 tx187 (by omega) (by omega)).trans (by omega)
                 exact by
                  refine lv_aload_n hx hb dX12_goes_22 rfl (lv_at hl 2 rfl) ?_
                  refine va_get (D := D) hx hb hts inlX12 hown hK hP 55 (jc_55 cI cL ad σ192 τ) rfl 28 (of_decide_eq_true rfl) (hts _ kw_7_14) (fun _ h9 => h9) rfl dX12_goes_23 ?_
                  refine lv_iload hx hb dX12_goes_26 (lv_at hl 0 rfl) ?_
                  refine jald hx hb hK hP (jc_68 cI cL ad σ192 τ) (jin jz_2 (by omega) (by omega)) dX12_goes_28 ?_
                  refine jtopr (y := σ192 68 2) rfl ?_
                  have m195 : σ192 68 2 = (σ 68 2) := ((jkp 2 eσ192 (of_decide_eq_true rfl)).trans (jkp 2 eσ180 (of_decide_eq_true rfl)))
                  refine jtopr m195 ?_
                  have w196 : ∀ k : Nat, k < 4 → 0 ≤ (σ192 68 k).toInt ∧ (σ192 68 k).toInt ≤ 3 := (by rw [eσ192]; exact jrr_up w184 (by omega) (by omega))
                  have g197 := w196 2 (of_decide_eq_true rfl)
                  rw [m195] at g197
                  exact by
                   have g198 := jrg (rfl : (σ 68 2).toInt = (σ 68 2).toInt)
                   refine lv_iadd hx hb dX12_goes_29 ?_
                   refine lv_topi (fun x199 ex199 => ?_)
                   have tx199 : x199.toInt = 64 * (σ 55 27).toInt + 16 * (σ 68 0).toInt + 4 * (σ 68 1).toInt + (σ 68 2).toInt + 64 := (jadd ex199 tx194 rfl (by omega) (by omega)).trans (by omega)
                   refine lv_istore_n (lv' := [(3, .int x199), (4, .int 2), (0, .ref (ad 55)), (1, .int a1), (2, .int 0)]) hx hb dX12_goes_30 rfl hl (of_decide_eq_true rfl) rfl (fun ls hl => ?_)
                   refine lv_aload_n hx hb dX12_goes_31 rfl (lv_at hl 2 rfl) ?_
                   refine va_get (D := D) hx hb hts inlX12 hown hK hP 55 (jc_55 cI cL ad σ192 τ) rfl 28 (of_decide_eq_true rfl) (hts _ kw_7_14) (fun _ h9 => h9) rfl dX12_goes_32 ?_
                   refine lv_iload hx hb dX12_goes_35 (lv_at hl 1 rfl) ?_
                   have jn200 : ∀ (x201 : Int32), (0 ≤ x201.toInt ∧ x201.toInt ≤ 3) → (x201.toInt = jSn (jrS σ) (A1).toNat 2) → W p l e ({ frames := 0, cells := 0, slots := 0, locals := 0 }) s m args below meth c H locs 0 0 Q (F0 m 93 ls [.int x201, .int 2, .ref (ad 68)]) := by
                     intro x201 k202 k203
                     exact by
                      refine jast hx hb hK hP hJ hA hS (jc_68 cI cL ad σ192 τ) (ja_68 cI cL ad σ192 τ _ _) (jin jz_2 (by omega) (by omega)) dX12_goes_93 (fun σ204 H locs eσ204 hP hS => ?_)
                      have eσ204 : σ204 = jup σ192 68 2 x201 := eσ204
                      refine lv_iinc (v := 3) (lv' := [(4, .int 3), (3, .int x199), (0, .ref (ad 55)), (1, .int a1), (2, .int 0)]) hx hb dX12_goes_94 hl (k := 1) rfl (of_decide_eq_true rfl) (of_decide_eq_true rfl) rfl (fun ls hl => ?_)
                      refine lv_goto (tgt := 10) hx hb dX12_goes_97 (of_decide_eq_true rfl) ?_
                      refine lv_iload hx hb dX12_goes_10 (lv_at hl 0 rfl) ?_
                      refine lv_aload_n hx hb dX12_goes_12 rfl (lv_at hl 2 rfl) ?_
                      refine va_get (D := D) hx hb hts inlX12 hown hK hP 55 (jc_55 cI cL ad σ204 τ) rfl 6 (of_decide_eq_true rfl) (hts _ kw_9_13) (fun _ h9 => h9) rfl dX12_goes_13 ?_
                      have m205 : σ204 55 6 = 4 := ((congrFun (jnp 55 eσ204 (of_decide_eq_true rfl)) 6).trans m193)
                      refine jtopr m205 ?_
                      refine lv_icmp_ge (tgt := 100) hx hb dX12_goes_16 (of_decide_eq_true rfl) (fun c => absurd c (of_decide_eq_true rfl)) (fun _ => ?_)
                      refine lv_iconst (v := 4) hx hb dX12_goes_19 (of_decide_eq_true rfl) ?_
                      refine lv_iload_n hx hb dX12_goes_20 rfl (lv_at hl 1 rfl) ?_
                      refine lv_imul hx hb dX12_goes_21 ?_
                      refine lv_topi (fun x206 ex206 => ?_)
                      exact by
                       have tx206 : x206.toInt = 256 * (σ 55 27).toInt + 64 * (σ 68 0).toInt + 16 * (σ 68 1).toInt + 4 * (σ 68 2).toInt + 256 := (jmul ex206 jz_4 tx199 (by omega) (by omega)).trans (by omega)
                       refine lv_aload_n hx hb dX12_goes_22 rfl (lv_at hl 2 rfl) ?_
                       refine va_get (D := D) hx hb hts inlX12 hown hK hP 55 (jc_55 cI cL ad σ204 τ) rfl 28 (of_decide_eq_true rfl) (hts _ kw_7_14) (fun _ h9 => h9) rfl dX12_goes_23 ?_
                       refine lv_iload hx hb dX12_goes_26 (lv_at hl 0 rfl) ?_
                       refine jald hx hb hK hP (jc_68 cI cL ad σ204 τ) (jin jz_3 (by omega) (by omega)) dX12_goes_28 ?_
                       refine jtopr (y := σ204 68 3) rfl ?_
                       have m207 : σ204 68 3 = (σ 68 3) := ((jkp 3 eσ204 (of_decide_eq_true rfl)).trans ((jkp 3 eσ192 (of_decide_eq_true rfl)).trans (jkp 3 eσ180 (of_decide_eq_true rfl))))
                       refine jtopr m207 ?_
                       have w208 : ∀ k : Nat, k < 4 → 0 ≤ (σ204 68 k).toInt ∧ (σ204 68 k).toInt ≤ 3 := (by rw [eσ204]; exact jrr_up w196 (by omega) (by omega))
                       exact by
                        have g209 := w208 3 (of_decide_eq_true rfl)
                        rw [m207] at g209
                        have g210 := jrg (rfl : (σ 68 3).toInt = (σ 68 3).toInt)
                        refine lv_iadd hx hb dX12_goes_29 ?_
                        refine lv_topi (fun x211 ex211 => ?_)
                        have tx211 : x211.toInt = 256 * (σ 55 27).toInt + 64 * (σ 68 0).toInt + 16 * (σ 68 1).toInt + 4 * (σ 68 2).toInt + (σ 68 3).toInt + 256 := (jadd ex211 tx206 rfl (by omega) (by omega)).trans (by omega)
                        refine lv_istore_n (lv' := [(3, .int x211), (4, .int 3), (0, .ref (ad 55)), (1, .int a1), (2, .int 0)]) hx hb dX12_goes_30 rfl hl (of_decide_eq_true rfl) rfl (fun ls hl => ?_)
                        refine lv_aload_n hx hb dX12_goes_31 rfl (lv_at hl 2 rfl) ?_
                        refine va_get (D := D) hx hb hts inlX12 hown hK hP 55 (jc_55 cI cL ad σ204 τ) rfl 28 (of_decide_eq_true rfl) (hts _ kw_7_14) (fun _ h9 => h9) rfl dX12_goes_32 ?_
                        exact by
                         refine lv_iload hx hb dX12_goes_35 (lv_at hl 1 rfl) ?_
                         have jn212 : ∀ (x213 : Int32), (0 ≤ x213.toInt ∧ x213.toInt ≤ 3) → (x213.toInt = jSn (jrS σ) (A1).toNat 3) → W p l e ({ frames := 0, cells := 0, slots := 0, locals := 0 }) s m args below meth c H locs 0 0 Q (F0 m 93 ls [.int x213, .int 3, .ref (ad 68)]) := by
                           intro x213 k214 k215
                           refine jast hx hb hK hP hJ hA hS (jc_68 cI cL ad σ204 τ) (ja_68 cI cL ad σ204 τ _ _) (jin jz_3 (by omega) (by omega)) dX12_goes_93 (fun σ216 H locs eσ216 hP hS => ?_)
                           have eσ216 : σ216 = jup σ204 68 3 x213 := eσ216
                           refine lv_iinc (v := 4) (lv' := [(4, .int 4), (3, .int x211), (0, .ref (ad 55)), (1, .int a1), (2, .int 0)]) hx hb dX12_goes_94 hl (k := 1) rfl (of_decide_eq_true rfl) (of_decide_eq_true rfl) rfl (fun ls hl => ?_)
                           refine lv_goto (tgt := 10) hx hb dX12_goes_97 (of_decide_eq_true rfl) ?_
                           refine lv_iload hx hb dX12_goes_10 (lv_at hl 0 rfl) ?_
                           refine lv_aload_n hx hb dX12_goes_12 rfl (lv_at hl 2 rfl) ?_
                           exact by
                            refine va_get (D := D) hx hb hts inlX12 hown hK hP 55 (jc_55 cI cL ad σ216 τ) rfl 6 (of_decide_eq_true rfl) (hts _ kw_9_13) (fun _ h9 => h9) rfl dX12_goes_13 ?_
                            have m217 : σ216 55 6 = 4 := ((congrFun (jnp 55 eσ216 (of_decide_eq_true rfl)) 6).trans m205)
                            refine jtopr m217 ?_
                            refine lv_icmp_ge (tgt := 100) hx hb dX12_goes_16 (of_decide_eq_true rfl) (fun _ => ?_) (fun c => absurd (of_decide_eq_true rfl) c)
                            refine lv_aload_n hx hb dX12_goes_100 rfl (lv_at hl 2 rfl) ?_
                            refine va_get (D := D) hx hb hts inlX12 hown hK hP 55 (jc_55 cI cL ad σ216 τ) rfl 29 (of_decide_eq_true rfl) (hts _ kw_7_15) (fun _ h9 => h9) rfl dX12_goes_101 ?_
                            refine lv_iload_n hx hb dX12_goes_104 rfl (lv_at hl 3 rfl) ?_
                            refine lv_dup2_11 hx hb dX12_goes_105 rfl rfl ?_
                            refine jald hx hb hK hP (jc_69 cI cL ad σ216 τ) (jin t1 (by omega) (by omega)) dX12_goes_106 ?_
                            exact by
                             refine lv_topi (fun x218 ex218 => ?_)
                             refine lv_iconst (v := 1) hx hb dX12_goes_107 (of_decide_eq_true rfl) ?_
                             have g219 := jrg (rfl : x218.toInt = x218.toInt)
                             refine lv_iadd hx hb dX12_goes_108 ?_
                             refine lv_topi (fun x220 ex220 => ?_)
                             have gx220 := jrg (rfl : x220.toInt = x220.toInt)
                             refine jast hx hb hK hP hJ hA hS (jc_69 cI cL ad σ216 τ) (ja_69 cI cL ad σ216 τ _ _) (jin t1 (by omega) (by omega)) dX12_goes_109 (fun σ221 H locs eσ221 hP hS => ?_)
                             refine lv_aload_n hx hb dX12_goes_110 rfl (lv_at hl 2 rfl) ?_
                             refine lv_iload_n hx hb dX12_goes_111 rfl (lv_at hl 3 rfl) ?_
                             exact by
                              refine jput (ty := .int) hx hb hts inlX12 tyX12 tyX12_ok nmX12 hown hK hP hJ hA hS (jc_55 cI cL ad σ221 τ) rfl (k := 27) (of_decide_eq_true rfl) (Nat.le_of_ble_eq_true rfl) (jp_55_27 cI cL ad σ221 τ a1) (hts _ kw_23_11) (fun _ h9 => h9) rfl (by decide +kernel) rfl rfl dX12_goes_112 (fun σ222 H locs eσ222 hP hS => ?_)
                              refine lv_aload_n hx hb dX12_goes_115 rfl (lv_at hl 2 rfl) ?_
                              refine lv_dup hx hb dX12_goes_116 rfl ?_
                              refine va_get (D := D) hx hb hts inlX12 hown hK hP 55 (jc_55 cI cL ad σ222 τ) rfl 26 (of_decide_eq_true rfl) (hts _ kw_23_5) (fun _ h9 => h9) rfl dX12_goes_117 ?_
                              have m223 : σ222 55 26 = (σ 55 26) := ((jkp 26 eσ222 (of_decide_eq_true rfl)).trans ((congrFun (jnp 55 eσ221 (of_decide_eq_true rfl)) 26).trans ((congrFun (jnp 55 eσ216 (of_decide_eq_true rfl)) 26).trans ((congrFun (jnp 55 eσ204 (of_decide_eq_true rfl)) 26).trans ((congrFun (jnp 55 eσ192 (of_decide_eq_true rfl)) 26).trans (congrFun (jnp 55 eσ180 (of_decide_eq_true rfl)) 26))))))
                              refine jtopr m223 ?_
                              refine lv_iconst (v := 1) hx hb dX12_goes_120 (of_decide_eq_true rfl) ?_
                              have g224 := jrg (rfl : (σ 55 26).toInt = (σ 55 26).toInt)
                              refine lv_iadd hx hb dX12_goes_121 ?_
                              refine lv_topi (fun x225 ex225 => ?_)
                              exact by
                               have tx225 : x225.toInt = (σ 55 26).toInt + 1 := (jadd ex225 rfl jz_1 (by omega) (by omega)).trans (by omega)
                               refine jput (ty := .int) hx hb hts inlX12 tyX12 tyX12_ok nmX12 hown hK hP hJ hA hS (jc_55 cI cL ad σ222 τ) rfl (k := 26) (of_decide_eq_true rfl) (Nat.le_of_ble_eq_true rfl) (jp_55_26 cI cL ad σ222 τ x225) (hts _ kw_23_5) (fun _ h9 => h9) rfl (by decide +kernel) rfl rfl dX12_goes_122 (fun σ226 H locs eσ226 hP hS => ?_)
                               refine lv_aload_n hx hb dX12_goes_125 rfl (lv_at hl 2 rfl) ?_
                               refine lv_dup hx hb dX12_goes_126 rfl ?_
                               refine va_get (D := D) hx hb hts inlX12 hown hK hP 55 (jc_55 cI cL ad σ226 τ) rfl 25 (of_decide_eq_true rfl) (hts _ kw_23_6) (fun _ h9 => h9) rfl dX12_goes_127 ?_
                               have m227 : σ226 55 25 = (σ 55 25) := ((jkp 25 eσ226 (of_decide_eq_true rfl)).trans ((jkp 25 eσ222 (of_decide_eq_true rfl)).trans ((congrFun (jnp 55 eσ221 (of_decide_eq_true rfl)) 25).trans ((congrFun (jnp 55 eσ216 (of_decide_eq_true rfl)) 25).trans ((congrFun (jnp 55 eσ204 (of_decide_eq_true rfl)) 25).trans ((congrFun (jnp 55 eσ192 (of_decide_eq_true rfl)) 25).trans (congrFun (jnp 55 eσ180 (of_decide_eq_true rfl)) 25)))))))
                               refine jtopr m227 ?_
                               refine lv_iload_n hx hb dX12_goes_130 rfl (lv_at hl 4 rfl) ?_
                               refine lv_if_eq (tgt := 138) hx hb dX12_goes_131 (of_decide_eq_true rfl) (fun _ => ?_) (fun c => absurd (of_decide_eq_true rfl) c)
                               refine lv_iconst (v := 0) hx hb dX12_goes_138 (of_decide_eq_true rfl) ?_
                               refine lv_iadd hx hb dX12_goes_139 ?_
                               exact by
                                refine jtopr (y := (σ 55 25)) (by rw [Int32.add_zero]) ?_
                                refine jput (ty := .int) hx hb hts inlX12 tyX12 tyX12_ok nmX12 hown hK hP hJ hA hS (jc_55 cI cL ad σ226 τ) rfl (k := 25) (of_decide_eq_true rfl) (Nat.le_of_ble_eq_true rfl) (jp_55_25 cI cL ad σ226 τ (σ 55 25)) (hts _ kw_23_6) (fun _ h9 => h9) rfl (by decide +kernel) rfl rfl dX12_goes_140 (fun σ228 H locs eσ228 hP hS => ?_)
                                refine lv_iload_n hx hb dX12_goes_143 rfl (lv_at hl 1 rfl) ?_
                                have w229 : ∀ k : Nat, k < 4 → 0 ≤ (σ228 68 k).toInt ∧ (σ228 68 k).toInt ≤ 3 := (jrr_fr (jnp 68 eσ228 (of_decide_eq_true rfl)) (jrr_fr (jnp 68 eσ226 (of_decide_eq_true rfl)) (jrr_fr (jnp 68 eσ222 (of_decide_eq_true rfl)) (jrr_fr (jnp 68 eσ221 (of_decide_eq_true rfl)) (by rw [eσ216]; exact jrr_up w208 (by omega) (by omega))))))
                                have z230 : (σ228 55 25).toInt = (σ 55 25).toInt := (congrArg Int32.toInt (show σ228 55 25 = (σ 55 25) from (jsp eσ228)))
                                have z231 : (σ228 55 26).toInt = (σ 55 26).toInt + 1 := ((congrArg Int32.toInt (show σ228 55 26 = x225 from ((jkp 26 eσ228 (of_decide_eq_true rfl)).trans (jsp eσ226)))).trans tx225)
                                have z232 : (σ228 55 27).toInt = A1 := ((congrArg Int32.toInt (show σ228 55 27 = a1 from ((jkp 27 eσ228 (of_decide_eq_true rfl)).trans ((jkp 27 eσ226 (of_decide_eq_true rfl)).trans (jsp eσ222))))).trans t1)
                                exact by exact hret x211 σ228 τ _ _ _ _ rfl ⟨rfl, (fun i hi => ((jnp i eσ228 (imp_189 i hi)).trans ((jnp i eσ226 (imp_189 i hi)).trans ((jnp i eσ222 (imp_189 i hi)).trans ((jnp i eσ221 (imp_197 i hi)).trans ((jnp i eσ216 (imp_198 i hi)).trans ((jnp i eσ204 (imp_198 i hi)).trans ((jnp i eσ192 (imp_198 i hi)).trans (jnp i eσ180 (imp_198 i hi)))))))))), (fun i hi => ((jkp i eσ228 (imp_192 i hi)).trans ((jkp i eσ226 (imp_191 i hi)).trans ((jkp i eσ222 (imp_190 i hi)).trans ((congrFun (jnp 55 eσ221 (of_decide_eq_true rfl)) i).trans ((congrFun (jnp 55 eσ216 (of_decide_eq_true rfl)) i).trans ((congrFun (jnp 55 eσ204 (of_decide_eq_true rfl)) i).trans ((congrFun (jnp 55 eσ192 (of_decide_eq_true rfl)) i).trans (congrFun (jnp 55 eσ180 (of_decide_eq_true rfl)) i))))))))), w229, (by rw [eσ228, jup_n (of_decide_eq_true rfl), eσ226, jup_n (of_decide_eq_true rfl), eσ222, jup_n (of_decide_eq_true rfl), eσ221, jup_row, ex220, ex218, eσ216, jup_n (of_decide_eq_true rfl), eσ204, jup_n (of_decide_eq_true rfl), eσ192, jup_n (of_decide_eq_true rfl), eσ180, jup_n (of_decide_eq_true rfl)]), (fun k hk => by rw [eσ228, jup_n (of_decide_eq_true rfl), eσ226, jup_n (of_decide_eq_true rfl), eσ222, jup_n (of_decide_eq_true rfl), eσ221, jup_n (of_decide_eq_true rfl), eσ216, jup_k (by omega), eσ204, jup_k (by omega), eσ192, jup_k (by omega), eσ180, jup_k (by omega)]), (fun c hc => jqll4 (p := fun c => jrS σ228 c = jSn (jrS σ) (A1).toNat c) ((congrArg Int32.toInt (show σ228 68 0 = x177 from ((congrFun (jnp 68 eσ228 (of_decide_eq_true rfl)) 0).trans ((congrFun (jnp 68 eσ226 (of_decide_eq_true rfl)) 0).trans ((congrFun (jnp 68 eσ222 (of_decide_eq_true rfl)) 0).trans ((congrFun (jnp 68 eσ221 (of_decide_eq_true rfl)) 0).trans ((jkp 0 eσ216 (of_decide_eq_true rfl)).trans ((jkp 0 eσ204 (of_decide_eq_true rfl)).trans ((jkp 0 eσ192 (of_decide_eq_true rfl)).trans (jsp eσ180)))))))))).trans k179) ((congrArg Int32.toInt (show σ228 68 1 = x189 from ((congrFun (jnp 68 eσ228 (of_decide_eq_true rfl)) 1).trans ((congrFun (jnp 68 eσ226 (of_decide_eq_true rfl)) 1).trans ((congrFun (jnp 68 eσ222 (of_decide_eq_true rfl)) 1).trans ((congrFun (jnp 68 eσ221 (of_decide_eq_true rfl)) 1).trans ((jkp 1 eσ216 (of_decide_eq_true rfl)).trans ((jkp 1 eσ204 (of_decide_eq_true rfl)).trans (jsp eσ192))))))))).trans k191) ((congrArg Int32.toInt (show σ228 68 2 = x201 from ((congrFun (jnp 68 eσ228 (of_decide_eq_true rfl)) 2).trans ((congrFun (jnp 68 eσ226 (of_decide_eq_true rfl)) 2).trans ((congrFun (jnp 68 eσ222 (of_decide_eq_true rfl)) 2).trans ((congrFun (jnp 68 eσ221 (of_decide_eq_true rfl)) 2).trans ((jkp 2 eσ216 (of_decide_eq_true rfl)).trans (jsp eσ204)))))))).trans k203) ((congrArg Int32.toInt (show σ228 68 3 = x213 from ((congrFun (jnp 68 eσ228 (of_decide_eq_true rfl)) 3).trans ((congrFun (jnp 68 eσ226 (of_decide_eq_true rfl)) 3).trans ((congrFun (jnp 68 eσ222 (of_decide_eq_true rfl)) 3).trans ((congrFun (jnp 68 eσ221 (of_decide_eq_true rfl)) 3).trans (jsp eσ216))))))).trans k215) c (by omega)), (by omega), (by omega), (by omega), ⟨trivial, (by have h9 := tx211; omega), (by have h9 := tx211; omega), (by have h9 := tx211; omega), (by have h9 := tx211; omega), (by have h9 := tx211; omega)⟩⟩ hP hS dX12_goes_144
                         refine lv_iload hx hb dX12_goes_37 (lv_at hl 1 rfl) ?_
                         exact by
                          refine lv_iload_n hx hb dX12_goes_39 rfl (lv_at hl 3 rfl) ?_
                          refine lv_icmp_ne (tgt := 70) hx hb dX12_goes_40 (of_decide_eq_true rfl) (fun c233 => ?_) (fun c233 => ?_)
                          · have kc233 := jne c233 jz_3 t1
                            refine lv_aload_n hx hb dX12_goes_70 rfl (lv_at hl 2 rfl) ?_
                            refine va_get (D := D) hx hb hts inlX12 hown hK hP 55 (jc_55 cI cL ad σ204 τ) rfl 28 (of_decide_eq_true rfl) (hts _ kw_7_14) (fun _ h9 => h9) rfl dX12_goes_71 ?_
                            refine lv_iload hx hb dX12_goes_74 (lv_at hl 1 rfl) ?_
                            refine jald hx hb hK hP (jc_68 cI cL ad σ204 τ) (jin jz_3 (by omega) (by omega)) dX12_goes_76 ?_
                            refine jtopr (y := σ204 68 3) rfl ?_
                            refine jtopr m207 ?_
                            exact by
                             refine lv_if_le (tgt := 92) hx hb dX12_goes_77 (of_decide_eq_true rfl) (fun c234 => ?_) (fun c234 => ?_)
                             · have kc234 := jle c234 rfl jz_0
                               refine lv_iconst (v := 0) hx hb dX12_goes_92 (of_decide_eq_true rfl) ?_
                               exact by exact jn212 0 (by have h9 := jz_0; omega) (jSn_r (σ := σ) (k := 3) (by have h9 := jz_0; omega))
                             · have kc234 := jnle c234 rfl jz_0
                               refine lv_aload_n hx hb dX12_goes_80 rfl (lv_at hl 2 rfl) ?_
                               refine va_get (D := D) hx hb hts inlX12 hown hK hP 55 (jc_55 cI cL ad σ204 τ) rfl 28 (of_decide_eq_true rfl) (hts _ kw_7_14) (fun _ h9 => h9) rfl dX12_goes_81 ?_
                               refine lv_iload hx hb dX12_goes_84 (lv_at hl 1 rfl) ?_
                               refine jald hx hb hK hP (jc_68 cI cL ad σ204 τ) (jin jz_3 (by omega) (by omega)) dX12_goes_86 ?_
                               exact by
                                refine jtopr (y := σ204 68 3) rfl ?_
                                refine jtopr m207 ?_
                                refine lv_iconst (v := 1) hx hb dX12_goes_87 (of_decide_eq_true rfl) ?_
                                refine lv_isub hx hb dX12_goes_88 ?_
                                refine lv_topi (fun x235 ex235 => ?_)
                                have tx235 : x235.toInt = (σ 68 3).toInt - 1 := (jsub ex235 rfl jz_1 (by omega) (by omega)).trans (by omega)
                                refine lv_goto (tgt := 93) hx hb dX12_goes_89 (of_decide_eq_true rfl) ?_
                                exact by exact jn212 x235 (by have h9 := tx235; omega) (jSn_r (σ := σ) (k := 3) (by have h9 := tx235; omega))
                          · have kc233 := jeq c233 jz_3 t1
                            exact by
                             refine lv_aload_n hx hb dX12_goes_43 rfl (lv_at hl 2 rfl) ?_
                             refine va_get (D := D) hx hb hts inlX12 hown hK hP 55 (jc_55 cI cL ad σ204 τ) rfl 28 (of_decide_eq_true rfl) (hts _ kw_7_14) (fun _ h9 => h9) rfl dX12_goes_44 ?_
                             refine lv_iload hx hb dX12_goes_47 (lv_at hl 1 rfl) ?_
                             refine jald hx hb hK hP (jc_68 cI cL ad σ204 τ) (jin jz_3 (by omega) (by omega)) dX12_goes_49 ?_
                             refine jtopr (y := σ204 68 3) rfl ?_
                             refine jtopr m207 ?_
                             refine lv_iconst (v := 3) hx hb dX12_goes_50 (of_decide_eq_true rfl) ?_
                             refine lv_icmp_ge (tgt := 66) hx hb dX12_goes_51 (of_decide_eq_true rfl) (fun c236 => ?_) (fun c236 => ?_)
                             · have kc236 := jle c236 jz_3 rfl
                               exact by
                                refine lv_iconst (v := 3) hx hb dX12_goes_66 (of_decide_eq_true rfl) ?_
                                refine lv_goto (tgt := 93) hx hb dX12_goes_67 (of_decide_eq_true rfl) ?_
                                exact by exact jn212 3 (by have h9 := jz_3; omega) (jSn_r (σ := σ) (k := 3) (by have h9 := jz_3; omega))
                             · have kc236 := jnle c236 jz_3 rfl
                               refine lv_aload_n hx hb dX12_goes_54 rfl (lv_at hl 2 rfl) ?_
                               refine va_get (D := D) hx hb hts inlX12 hown hK hP 55 (jc_55 cI cL ad σ204 τ) rfl 28 (of_decide_eq_true rfl) (hts _ kw_7_14) (fun _ h9 => h9) rfl dX12_goes_55 ?_
                               refine lv_iload hx hb dX12_goes_58 (lv_at hl 1 rfl) ?_
                               refine jald hx hb hK hP (jc_68 cI cL ad σ204 τ) (jin jz_3 (by omega) (by omega)) dX12_goes_60 ?_
                               refine jtopr (y := σ204 68 3) rfl ?_
                               exact by
                                refine jtopr m207 ?_
                                refine lv_iconst (v := 1) hx hb dX12_goes_61 (of_decide_eq_true rfl) ?_
                                refine lv_iadd hx hb dX12_goes_62 ?_
                                refine lv_topi (fun x237 ex237 => ?_)
                                have tx237 : x237.toInt = (σ 68 3).toInt + 1 := (jadd ex237 rfl jz_1 (by omega) (by omega)).trans (by omega)
                                refine lv_goto (tgt := 93) hx hb dX12_goes_63 (of_decide_eq_true rfl) ?_
                                exact by exact jn212 x237 (by have h9 := tx237; omega) (jSn_r (σ := σ) (k := 3) (by have h9 := tx237; omega))
                   refine lv_iload hx hb dX12_goes_37 (lv_at hl 1 rfl) ?_
                   refine lv_iload_n hx hb dX12_goes_39 rfl (lv_at hl 3 rfl) ?_
                   exact by
                    refine lv_icmp_ne (tgt := 70) hx hb dX12_goes_40 (of_decide_eq_true rfl) (fun c238 => ?_) (fun c238 => ?_)
                    · have kc238 := jne c238 jz_2 t1
                      refine lv_aload_n hx hb dX12_goes_70 rfl (lv_at hl 2 rfl) ?_
                      refine va_get (D := D) hx hb hts inlX12 hown hK hP 55 (jc_55 cI cL ad σ192 τ) rfl 28 (of_decide_eq_true rfl) (hts _ kw_7_14) (fun _ h9 => h9) rfl dX12_goes_71 ?_
                      refine lv_iload hx hb dX12_goes_74 (lv_at hl 1 rfl) ?_
                      refine jald hx hb hK hP (jc_68 cI cL ad σ192 τ) (jin jz_2 (by omega) (by omega)) dX12_goes_76 ?_
                      refine jtopr (y := σ192 68 2) rfl ?_
                      refine jtopr m195 ?_
                      refine lv_if_le (tgt := 92) hx hb dX12_goes_77 (of_decide_eq_true rfl) (fun c239 => ?_) (fun c239 => ?_)
                      · exact by
                         have kc239 := jle c239 rfl jz_0
                         refine lv_iconst (v := 0) hx hb dX12_goes_92 (of_decide_eq_true rfl) ?_
                         exact by exact jn200 0 (by have h9 := jz_0; omega) (jSn_r (σ := σ) (k := 2) (by have h9 := jz_0; omega))
                      · have kc239 := jnle c239 rfl jz_0
                        refine lv_aload_n hx hb dX12_goes_80 rfl (lv_at hl 2 rfl) ?_
                        refine va_get (D := D) hx hb hts inlX12 hown hK hP 55 (jc_55 cI cL ad σ192 τ) rfl 28 (of_decide_eq_true rfl) (hts _ kw_7_14) (fun _ h9 => h9) rfl dX12_goes_81 ?_
                        refine lv_iload hx hb dX12_goes_84 (lv_at hl 1 rfl) ?_
                        refine jald hx hb hK hP (jc_68 cI cL ad σ192 τ) (jin jz_2 (by omega) (by omega)) dX12_goes_86 ?_
                        refine jtopr (y := σ192 68 2) rfl ?_
                        exact by
                         refine jtopr m195 ?_
                         refine lv_iconst (v := 1) hx hb dX12_goes_87 (of_decide_eq_true rfl) ?_
                         refine lv_isub hx hb dX12_goes_88 ?_
                         refine lv_topi (fun x240 ex240 => ?_)
                         have tx240 : x240.toInt = (σ 68 2).toInt - 1 := (jsub ex240 rfl jz_1 (by omega) (by omega)).trans (by omega)
                         refine lv_goto (tgt := 93) hx hb dX12_goes_89 (of_decide_eq_true rfl) ?_
                         exact by exact jn200 x240 (by have h9 := tx240; omega) (jSn_r (σ := σ) (k := 2) (by have h9 := tx240; omega))
                    · have kc238 := jeq c238 jz_2 t1
                      refine lv_aload_n hx hb dX12_goes_43 rfl (lv_at hl 2 rfl) ?_
                      exact by
                       refine va_get (D := D) hx hb hts inlX12 hown hK hP 55 (jc_55 cI cL ad σ192 τ) rfl 28 (of_decide_eq_true rfl) (hts _ kw_7_14) (fun _ h9 => h9) rfl dX12_goes_44 ?_
                       refine lv_iload hx hb dX12_goes_47 (lv_at hl 1 rfl) ?_
                       refine jald hx hb hK hP (jc_68 cI cL ad σ192 τ) (jin jz_2 (by omega) (by omega)) dX12_goes_49 ?_
                       refine jtopr (y := σ192 68 2) rfl ?_
                       refine jtopr m195 ?_
                       refine lv_iconst (v := 3) hx hb dX12_goes_50 (of_decide_eq_true rfl) ?_
                       refine lv_icmp_ge (tgt := 66) hx hb dX12_goes_51 (of_decide_eq_true rfl) (fun c241 => ?_) (fun c241 => ?_)
                       · have kc241 := jle c241 jz_3 rfl
                         refine lv_iconst (v := 3) hx hb dX12_goes_66 (of_decide_eq_true rfl) ?_
                         exact by
                          refine lv_goto (tgt := 93) hx hb dX12_goes_67 (of_decide_eq_true rfl) ?_
                          exact by exact jn200 3 (by have h9 := jz_3; omega) (jSn_r (σ := σ) (k := 2) (by have h9 := jz_3; omega))
                       · have kc241 := jnle c241 jz_3 rfl
                         refine lv_aload_n hx hb dX12_goes_54 rfl (lv_at hl 2 rfl) ?_
                         refine va_get (D := D) hx hb hts inlX12 hown hK hP 55 (jc_55 cI cL ad σ192 τ) rfl 28 (of_decide_eq_true rfl) (hts _ kw_7_14) (fun _ h9 => h9) rfl dX12_goes_55 ?_
                         refine lv_iload hx hb dX12_goes_58 (lv_at hl 1 rfl) ?_
                         refine jald hx hb hK hP (jc_68 cI cL ad σ192 τ) (jin jz_2 (by omega) (by omega)) dX12_goes_60 ?_
                         refine jtopr (y := σ192 68 2) rfl ?_
                         refine jtopr m195 ?_
                         exact by
                          refine lv_iconst (v := 1) hx hb dX12_goes_61 (of_decide_eq_true rfl) ?_
                          refine lv_iadd hx hb dX12_goes_62 ?_
                          refine lv_topi (fun x242 ex242 => ?_)
                          have tx242 : x242.toInt = (σ 68 2).toInt + 1 := (jadd ex242 rfl jz_1 (by omega) (by omega)).trans (by omega)
                          refine lv_goto (tgt := 93) hx hb dX12_goes_63 (of_decide_eq_true rfl) ?_
                          exact by exact jn200 x242 (by have h9 := tx242; omega) (jSn_r (σ := σ) (k := 2) (by have h9 := tx242; omega))
              refine lv_iload hx hb dX12_goes_37 (lv_at hl 1 rfl) ?_
              refine lv_iload_n hx hb dX12_goes_39 rfl (lv_at hl 3 rfl) ?_
              refine lv_icmp_ne (tgt := 70) hx hb dX12_goes_40 (of_decide_eq_true rfl) (fun c243 => ?_) (fun c243 => ?_)
              · exact by
                 have kc243 := jne c243 jz_1 t1
                 refine lv_aload_n hx hb dX12_goes_70 rfl (lv_at hl 2 rfl) ?_
                 refine va_get (D := D) hx hb hts inlX12 hown hK hP 55 (jc_55 cI cL ad σ180 τ) rfl 28 (of_decide_eq_true rfl) (hts _ kw_7_14) (fun _ h9 => h9) rfl dX12_goes_71 ?_
                 refine lv_iload hx hb dX12_goes_74 (lv_at hl 1 rfl) ?_
                 refine jald hx hb hK hP (jc_68 cI cL ad σ180 τ) (jin jz_1 (by omega) (by omega)) dX12_goes_76 ?_
                 refine jtopr (y := σ180 68 1) rfl ?_
                 refine jtopr m183 ?_
                 refine lv_if_le (tgt := 92) hx hb dX12_goes_77 (of_decide_eq_true rfl) (fun c244 => ?_) (fun c244 => ?_)
                 · have kc244 := jle c244 rfl jz_0
                   exact by
                    refine lv_iconst (v := 0) hx hb dX12_goes_92 (of_decide_eq_true rfl) ?_
                    exact by exact jn188 0 (by have h9 := jz_0; omega) (jSn_r (σ := σ) (k := 1) (by have h9 := jz_0; omega))
                 · have kc244 := jnle c244 rfl jz_0
                   refine lv_aload_n hx hb dX12_goes_80 rfl (lv_at hl 2 rfl) ?_
                   refine va_get (D := D) hx hb hts inlX12 hown hK hP 55 (jc_55 cI cL ad σ180 τ) rfl 28 (of_decide_eq_true rfl) (hts _ kw_7_14) (fun _ h9 => h9) rfl dX12_goes_81 ?_
                   refine lv_iload hx hb dX12_goes_84 (lv_at hl 1 rfl) ?_
                   refine jald hx hb hK hP (jc_68 cI cL ad σ180 τ) (jin jz_1 (by omega) (by omega)) dX12_goes_86 ?_
                   refine jtopr (y := σ180 68 1) rfl ?_
                   refine jtopr m183 ?_
                   exact by
                    refine lv_iconst (v := 1) hx hb dX12_goes_87 (of_decide_eq_true rfl) ?_
                    refine lv_isub hx hb dX12_goes_88 ?_
                    refine lv_topi (fun x245 ex245 => ?_)
                    have tx245 : x245.toInt = (σ 68 1).toInt - 1 := (jsub ex245 rfl jz_1 (by omega) (by omega)).trans (by omega)
                    refine lv_goto (tgt := 93) hx hb dX12_goes_89 (of_decide_eq_true rfl) ?_
                    exact by exact jn188 x245 (by have h9 := tx245; omega) (jSn_r (σ := σ) (k := 1) (by have h9 := tx245; omega))
              · have kc243 := jeq c243 jz_1 t1
                refine lv_aload_n hx hb dX12_goes_43 rfl (lv_at hl 2 rfl) ?_
                refine va_get (D := D) hx hb hts inlX12 hown hK hP 55 (jc_55 cI cL ad σ180 τ) rfl 28 (of_decide_eq_true rfl) (hts _ kw_7_14) (fun _ h9 => h9) rfl dX12_goes_44 ?_
                exact by
                 refine lv_iload hx hb dX12_goes_47 (lv_at hl 1 rfl) ?_
                 refine jald hx hb hK hP (jc_68 cI cL ad σ180 τ) (jin jz_1 (by omega) (by omega)) dX12_goes_49 ?_
                 refine jtopr (y := σ180 68 1) rfl ?_
                 refine jtopr m183 ?_
                 refine lv_iconst (v := 3) hx hb dX12_goes_50 (of_decide_eq_true rfl) ?_
                 refine lv_icmp_ge (tgt := 66) hx hb dX12_goes_51 (of_decide_eq_true rfl) (fun c246 => ?_) (fun c246 => ?_)
                 · have kc246 := jle c246 jz_3 rfl
                   refine lv_iconst (v := 3) hx hb dX12_goes_66 (of_decide_eq_true rfl) ?_
                   refine lv_goto (tgt := 93) hx hb dX12_goes_67 (of_decide_eq_true rfl) ?_
                   exact by exact jn188 3 (by have h9 := jz_3; omega) (jSn_r (σ := σ) (k := 1) (by have h9 := jz_3; omega))
                 · exact by
                    have kc246 := jnle c246 jz_3 rfl
                    refine lv_aload_n hx hb dX12_goes_54 rfl (lv_at hl 2 rfl) ?_
                    refine va_get (D := D) hx hb hts inlX12 hown hK hP 55 (jc_55 cI cL ad σ180 τ) rfl 28 (of_decide_eq_true rfl) (hts _ kw_7_14) (fun _ h9 => h9) rfl dX12_goes_55 ?_
                    refine lv_iload hx hb dX12_goes_58 (lv_at hl 1 rfl) ?_
                    refine jald hx hb hK hP (jc_68 cI cL ad σ180 τ) (jin jz_1 (by omega) (by omega)) dX12_goes_60 ?_
                    refine jtopr (y := σ180 68 1) rfl ?_
                    refine jtopr m183 ?_
                    refine lv_iconst (v := 1) hx hb dX12_goes_61 (of_decide_eq_true rfl) ?_
                    refine lv_iadd hx hb dX12_goes_62 ?_
                    exact by
                     refine lv_topi (fun x247 ex247 => ?_)
                     have tx247 : x247.toInt = (σ 68 1).toInt + 1 := (jadd ex247 rfl jz_1 (by omega) (by omega)).trans (by omega)
                     refine lv_goto (tgt := 93) hx hb dX12_goes_63 (of_decide_eq_true rfl) ?_
                     exact by exact jn188 x247 (by have h9 := tx247; omega) (jSn_r (σ := σ) (k := 1) (by have h9 := tx247; omega))
        refine lv_iload hx hb dX12_goes_37 (lv_at hl 1 rfl) ?_
        refine lv_iload_n hx hb dX12_goes_39 rfl (lv_at hl 3 rfl) ?_
        refine lv_icmp_ne (tgt := 70) hx hb dX12_goes_40 (of_decide_eq_true rfl) (fun c248 => ?_) (fun c248 => ?_)
        · have kc248 := jne c248 jz_0 t1
          refine lv_aload_n hx hb dX12_goes_70 rfl (lv_at hl 2 rfl) ?_
          exact by
           refine va_get (D := D) hx hb hts inlX12 hown hK hP 55 (jc_55 cI cL ad σ τ) rfl 28 (of_decide_eq_true rfl) (hts _ kw_7_14) (fun _ h9 => h9) rfl dX12_goes_71 ?_
           refine lv_iload hx hb dX12_goes_74 (lv_at hl 1 rfl) ?_
           refine jald hx hb hK hP (jc_68 cI cL ad σ τ) (jin jz_0 (by omega) (by omega)) dX12_goes_76 ?_
           refine jtopr (y := σ 68 0) rfl ?_
           refine lv_if_le (tgt := 92) hx hb dX12_goes_77 (of_decide_eq_true rfl) (fun c249 => ?_) (fun c249 => ?_)
           · have kc249 := jle c249 rfl jz_0
             refine lv_iconst (v := 0) hx hb dX12_goes_92 (of_decide_eq_true rfl) ?_
             exact by exact jn176 0 (by have h9 := jz_0; omega) (jSn_r (σ := σ) (k := 0) (by have h9 := jz_0; omega))
           · have kc249 := jnle c249 rfl jz_0
             exact by
              refine lv_aload_n hx hb dX12_goes_80 rfl (lv_at hl 2 rfl) ?_
              refine va_get (D := D) hx hb hts inlX12 hown hK hP 55 (jc_55 cI cL ad σ τ) rfl 28 (of_decide_eq_true rfl) (hts _ kw_7_14) (fun _ h9 => h9) rfl dX12_goes_81 ?_
              refine lv_iload hx hb dX12_goes_84 (lv_at hl 1 rfl) ?_
              refine jald hx hb hK hP (jc_68 cI cL ad σ τ) (jin jz_0 (by omega) (by omega)) dX12_goes_86 ?_
              refine jtopr (y := σ 68 0) rfl ?_
              refine lv_iconst (v := 1) hx hb dX12_goes_87 (of_decide_eq_true rfl) ?_
              refine lv_isub hx hb dX12_goes_88 ?_
              refine lv_topi (fun x250 ex250 => ?_)
              have tx250 : x250.toInt = (σ 68 0).toInt - 1 := (jsub ex250 rfl jz_1 (by omega) (by omega)).trans (by omega)
              exact by
               refine lv_goto (tgt := 93) hx hb dX12_goes_89 (of_decide_eq_true rfl) ?_
               exact by exact jn176 x250 (by have h9 := tx250; omega) (jSn_r (σ := σ) (k := 0) (by have h9 := tx250; omega))
        · have kc248 := jeq c248 jz_0 t1
          refine lv_aload_n hx hb dX12_goes_43 rfl (lv_at hl 2 rfl) ?_
          refine va_get (D := D) hx hb hts inlX12 hown hK hP 55 (jc_55 cI cL ad σ τ) rfl 28 (of_decide_eq_true rfl) (hts _ kw_7_14) (fun _ h9 => h9) rfl dX12_goes_44 ?_
          refine lv_iload hx hb dX12_goes_47 (lv_at hl 1 rfl) ?_
          refine jald hx hb hK hP (jc_68 cI cL ad σ τ) (jin jz_0 (by omega) (by omega)) dX12_goes_49 ?_
          refine jtopr (y := σ 68 0) rfl ?_
          refine lv_iconst (v := 3) hx hb dX12_goes_50 (of_decide_eq_true rfl) ?_
          exact by
           refine lv_icmp_ge (tgt := 66) hx hb dX12_goes_51 (of_decide_eq_true rfl) (fun c251 => ?_) (fun c251 => ?_)
           · have kc251 := jle c251 jz_3 rfl
             refine lv_iconst (v := 3) hx hb dX12_goes_66 (of_decide_eq_true rfl) ?_
             refine lv_goto (tgt := 93) hx hb dX12_goes_67 (of_decide_eq_true rfl) ?_
             exact by exact jn176 3 (by have h9 := jz_3; omega) (jSn_r (σ := σ) (k := 0) (by have h9 := jz_3; omega))
           · have kc251 := jnle c251 jz_3 rfl
             refine lv_aload_n hx hb dX12_goes_54 rfl (lv_at hl 2 rfl) ?_
             refine va_get (D := D) hx hb hts inlX12 hown hK hP 55 (jc_55 cI cL ad σ τ) rfl 28 (of_decide_eq_true rfl) (hts _ kw_7_14) (fun _ h9 => h9) rfl dX12_goes_55 ?_
             refine lv_iload hx hb dX12_goes_58 (lv_at hl 1 rfl) ?_
             exact by
              refine jald hx hb hK hP (jc_68 cI cL ad σ τ) (jin jz_0 (by omega) (by omega)) dX12_goes_60 ?_
              refine jtopr (y := σ 68 0) rfl ?_
              refine lv_iconst (v := 1) hx hb dX12_goes_61 (of_decide_eq_true rfl) ?_
              refine lv_iadd hx hb dX12_goes_62 ?_
              refine lv_topi (fun x252 ex252 => ?_)
              have tx252 : x252.toInt = (σ 68 0).toInt + 1 := (jadd ex252 rfl jz_1 (by omega) (by omega)).trans (by omega)
              refine lv_goto (tgt := 93) hx hb dX12_goes_63 (of_decide_eq_true rfl) ?_
              exact by exact jn176 x252 (by have h9 := tx252; omega) (jSn_r (σ := σ) (k := 0) (by have h9 := tx252; omega))
  have kc169 := jne c169 (rfl : (σ 55 6).toInt = (σ 55 6).toInt) jz_4
  exact absurd (by omega : False) id
set_option maxHeartbeats 4000000 in
set_option maxRecDepth 100000 in
theorem c_X12_goesBack_0 (l : Launch) (D : va_G) (cI cL : ClassId) (ad zz : Nat → Nat) (hJ : jD ad) (σ : Nat → Nat → Int32) (τ : Nat → Nat → Int64) (a1 : Int32) (A1 : Int) (t1 : a1.toInt = A1) (a3 : Int32) (A3 : Int) (t3 : a3.toInt = A3) (hw68 : ∀ k : Nat, k < 4 → 0 ≤ (σ 68 k).toInt ∧ (σ 68 k).toInt ≤ 3) (hp0 : 0 ≤ A1 ∧ A1 ≤ 3) (hp1 : (-1) ≤ (σ 55 25).toInt ∧ (σ 55 25).toInt ≤ 20) (hp2 : (-1) ≤ (σ 55 26).toInt ∧ (σ 55 26).toInt ≤ 20) (hp3 : ((σ 55 6).toInt = 0 ∧ 0 ≤ A3 ∧ A3 < 5) ∨ ((σ 55 6).toInt = 1 ∧ 0 ≤ A3 ∧ A3 < 20) ∨ ((σ 55 6).toInt = 2 ∧ 0 ≤ A3 ∧ A3 < 80) ∨ ((σ 55 6).toInt = 3 ∧ 0 ≤ A3 ∧ A3 < 320) ∨ ((σ 55 6).toInt = 4 ∧ 0 ≤ A3 ∧ A3 < 1280)) : jMv l yX12_goesBack cX12_goesBack 6 none ({ frames := 0, cells := 0, slots := 0, locals := 0 }) D cI cL ad zz [.ref (ad 55), .int a1, .int 0, .int a3] σ τ (fun σ' τ' => τ = τ' ∧ (∀ i : Nat, (i < 55 ∨ 55 < i) ∧ (i < 68 ∨ 69 < i) → σ' i = σ i) ∧ (∀ k : Nat, (k < 25 ∨ 25 < k) ∧ (k < 26 ∨ 26 < k) ∧ (k < 27 ∨ 27 < k) → σ' 55 k = σ 55 k) ∧ (∀ k : Nat, k < 4 → 0 ≤ (σ' 68 k).toInt ∧ (σ' 68 k).toInt ≤ 3) ∧ (σ' 69 = jupd (σ 69) a1.toNatClampNeg (σ 69 a1.toNatClampNeg - 1)) ∧ (∀ k : Nat, (σ 55 6).toInt ≤ k → σ' 68 k = σ 68 k) ∧ ((σ' 55 25).toInt = (σ 55 25).toInt) ∧ ((σ' 55 26).toInt = (σ 55 26).toInt - 1) ∧ ((-1) ≤ (σ' 55 27).toInt ∧ (σ' 55 27).toInt ≤ 3) ∧ (((σ 55 6).toInt = 0 ∧ A3 = (σ' 55 27).toInt + 1) ∨ ((σ 55 6).toInt = 1 ∧ A3 = 4 * (σ' 55 27).toInt + (σ' 68 0).toInt + 4) ∨ ((σ 55 6).toInt = 2 ∧ A3 = 16 * (σ' 55 27).toInt + 4 * (σ' 68 0).toInt + (σ' 68 1).toInt + 16) ∨ ((σ 55 6).toInt = 3 ∧ A3 = 64 * (σ' 55 27).toInt + 16 * (σ' 68 0).toInt + 4 * (σ' 68 1).toInt + (σ' 68 2).toInt + 64) ∨ ((σ 55 6).toInt = 4 ∧ A3 = 256 * (σ' 55 27).toInt + 64 * (σ' 68 0).toInt + 16 * (σ' 68 1).toInt + 4 * (σ' 68 2).toInt + (σ' 68 3).toInt + 256)) ∧ True) := by
  refine jMv.of hJ (by decide +kernel) rfl (Nat.le_of_ble_eq_true rfl) ?_
  intro p e s m args below meth c Q ls hC hret hl hP
  obtain ⟨hx, hb, hr, hml, hown, hts, hK, -, hlocks, hZ⟩ := hC
  have hown : s.vm.findClass RX12 = some m.cls := hown
  have hS : va_S (jA ad) s.heap s.heap [] := va_S.rf
  have hA : ∀ q, jA ad q → jA ad q := fun _ h => h
  have hl : lv_has ls 6 [(0, .ref (ad 55)), (1, .int a1), (2, .int 0), (3, .int a3)] := hl
  have g1 := jrg t1
  have g3 := jrg t3
  by_cases c1 : σ 55 6 = 0
  · have kc1 := jeq c1 (rfl : (σ 55 6).toInt = (σ 55 6).toInt) jz_0
    refine lv_iload_n hx hb dX12_goesBack_0 rfl (lv_at hl 3 rfl) ?_
    refine lv_istore (lv' := [(4, .int a3), (0, .ref (ad 55)), (1, .int a1), (2, .int 0), (3, .int a3)]) hx hb dX12_goesBack_1 hl (of_decide_eq_true rfl) rfl (fun ls hl => ?_)
    refine lv_aload_n hx hb dX12_goesBack_3 rfl (lv_at hl 1 rfl) ?_
    refine va_get (D := D) hx hb hts inlX12 hown hK hP 55 (jc_55 cI cL ad σ τ) rfl 6 (of_decide_eq_true rfl) (hts _ kw_9_13) (fun _ h9 => h9) rfl dX12_goesBack_4 ?_
    refine jtopr c1 ?_
    refine lv_iconst (v := 1) hx hb dX12_goesBack_7 (of_decide_eq_true rfl) ?_
    refine lv_isub hx hb dX12_goesBack_8 ?_
    refine jtopr (y := (-1)) (of_decide_eq_true rfl) ?_
    refine lv_istore (lv' := [(5, .int (-1)), (4, .int a3), (0, .ref (ad 55)), (1, .int a1), (2, .int 0), (3, .int a3)]) hx hb dX12_goesBack_9 hl (of_decide_eq_true rfl) rfl (fun ls hl => ?_)
    refine lv_iload hx hb dX12_goesBack_11 (lv_at hl 0 rfl) ?_
    refine lv_if_lt (tgt := 39) hx hb dX12_goesBack_13 (of_decide_eq_true rfl) (fun _ => ?_) (fun c => absurd (of_decide_eq_true rfl) c)
    refine lv_aload_n hx hb dX12_goesBack_39 rfl (lv_at hl 2 rfl) ?_
    refine lv_iload hx hb dX12_goesBack_40 (lv_at hl 1 rfl) ?_
    refine lv_iconst (v := 1) hx hb dX12_goesBack_42 (of_decide_eq_true rfl) ?_
    refine lv_isub hx hb dX12_goesBack_43 ?_
    refine lv_topi (fun x2 ex2 => ?_)
    exact by
     have tx2 : x2.toInt = A3 - 1 := (jsub ex2 t3 jz_1 (by omega) (by omega)).trans (by omega)
     refine jput (ty := .int) hx hb hts inlX12 tyX12 tyX12_ok nmX12 hown hK hP hJ hA hS (jc_55 cI cL ad σ τ) rfl (k := 27) (of_decide_eq_true rfl) (Nat.le_of_ble_eq_true rfl) (jp_55_27 cI cL ad σ τ x2) (hts _ kw_23_11) (fun _ h9 => h9) rfl (by decide +kernel) rfl rfl dX12_goesBack_44 (fun σ3 H locs eσ3 hP hS => ?_)
     refine lv_aload_n hx hb dX12_goesBack_47 rfl (lv_at hl 2 rfl) ?_
     refine va_get (D := D) hx hb hts inlX12 hown hK hP 55 (jc_55 cI cL ad σ3 τ) rfl 29 (of_decide_eq_true rfl) (hts _ kw_7_15) (fun _ h9 => h9) rfl dX12_goesBack_48 ?_
     refine lv_iload_n hx hb dX12_goesBack_51 rfl (lv_at hl 3 rfl) ?_
     refine lv_dup2_11 hx hb dX12_goesBack_52 rfl rfl ?_
     refine jald hx hb hK hP (jc_69 cI cL ad σ3 τ) (jin t1 (by omega) (by omega)) dX12_goesBack_53 ?_
     refine lv_topi (fun x4 ex4 => ?_)
     refine lv_iconst (v := 1) hx hb dX12_goesBack_54 (of_decide_eq_true rfl) ?_
     exact by
      have g5 := jrg (rfl : x4.toInt = x4.toInt)
      refine lv_isub hx hb dX12_goesBack_55 ?_
      refine lv_topi (fun x6 ex6 => ?_)
      have gx6 := jrg (rfl : x6.toInt = x6.toInt)
      refine jast hx hb hK hP hJ hA hS (jc_69 cI cL ad σ3 τ) (ja_69 cI cL ad σ3 τ _ _) (jin t1 (by omega) (by omega)) dX12_goesBack_56 (fun σ7 H locs eσ7 hP hS => ?_)
      refine lv_aload_n hx hb dX12_goesBack_57 rfl (lv_at hl 2 rfl) ?_
      refine lv_dup hx hb dX12_goesBack_58 rfl ?_
      refine va_get (D := D) hx hb hts inlX12 hown hK hP 55 (jc_55 cI cL ad σ7 τ) rfl 26 (of_decide_eq_true rfl) (hts _ kw_23_5) (fun _ h9 => h9) rfl dX12_goesBack_59 ?_
      have m8 : σ7 55 26 = (σ 55 26) := ((congrFun (jnp 55 eσ7 (of_decide_eq_true rfl)) 26).trans (jkp 26 eσ3 (of_decide_eq_true rfl)))
      exact by
       refine jtopr m8 ?_
       refine lv_iconst (v := 1) hx hb dX12_goesBack_62 (of_decide_eq_true rfl) ?_
       have g9 := jrg (rfl : (σ 55 26).toInt = (σ 55 26).toInt)
       refine lv_isub hx hb dX12_goesBack_63 ?_
       refine lv_topi (fun x10 ex10 => ?_)
       have tx10 : x10.toInt = (σ 55 26).toInt - 1 := (jsub ex10 rfl jz_1 (by omega) (by omega)).trans (by omega)
       refine jput (ty := .int) hx hb hts inlX12 tyX12 tyX12_ok nmX12 hown hK hP hJ hA hS (jc_55 cI cL ad σ7 τ) rfl (k := 26) (of_decide_eq_true rfl) (Nat.le_of_ble_eq_true rfl) (jp_55_26 cI cL ad σ7 τ x10) (hts _ kw_23_5) (fun _ h9 => h9) rfl (by decide +kernel) rfl rfl dX12_goesBack_64 (fun σ11 H locs eσ11 hP hS => ?_)
       refine lv_aload_n hx hb dX12_goesBack_67 rfl (lv_at hl 2 rfl) ?_
       refine lv_dup hx hb dX12_goesBack_68 rfl ?_
       exact by
        refine va_get (D := D) hx hb hts inlX12 hown hK hP 55 (jc_55 cI cL ad σ11 τ) rfl 25 (of_decide_eq_true rfl) (hts _ kw_23_6) (fun _ h9 => h9) rfl dX12_goesBack_69 ?_
        have m12 : σ11 55 25 = (σ 55 25) := ((jkp 25 eσ11 (of_decide_eq_true rfl)).trans ((congrFun (jnp 55 eσ7 (of_decide_eq_true rfl)) 25).trans (jkp 25 eσ3 (of_decide_eq_true rfl))))
        refine jtopr m12 ?_
        refine lv_iload_n hx hb dX12_goesBack_72 rfl (lv_at hl 4 rfl) ?_
        refine lv_if_eq (tgt := 80) hx hb dX12_goesBack_73 (of_decide_eq_true rfl) (fun _ => ?_) (fun c => absurd (of_decide_eq_true rfl) c)
        refine lv_iconst (v := 0) hx hb dX12_goesBack_80 (of_decide_eq_true rfl) ?_
        refine lv_isub hx hb dX12_goesBack_81 ?_
        refine jtopr (y := (σ 55 25)) (by rw [Int32.sub_zero]) ?_
        refine jput (ty := .int) hx hb hts inlX12 tyX12 tyX12_ok nmX12 hown hK hP hJ hA hS (jc_55 cI cL ad σ11 τ) rfl (k := 25) (of_decide_eq_true rfl) (Nat.le_of_ble_eq_true rfl) (jp_55_25 cI cL ad σ11 τ (σ 55 25)) (hts _ kw_23_6) (fun _ h9 => h9) rfl (by decide +kernel) rfl rfl dX12_goesBack_82 (fun σ13 H locs eσ13 hP hS => ?_)
        exact by
         have w14 : ∀ k : Nat, k < 4 → 0 ≤ (σ13 68 k).toInt ∧ (σ13 68 k).toInt ≤ 3 := (jrr_fr (jnp 68 eσ13 (of_decide_eq_true rfl)) (jrr_fr (jnp 68 eσ11 (of_decide_eq_true rfl)) (jrr_fr (jnp 68 eσ7 (of_decide_eq_true rfl)) (jrr_fr (jnp 68 eσ3 (of_decide_eq_true rfl)) hw68))))
         have z15 : (σ13 55 25).toInt = (σ 55 25).toInt := (congrArg Int32.toInt (show σ13 55 25 = (σ 55 25) from (jsp eσ13)))
         have z16 : (σ13 55 26).toInt = (σ 55 26).toInt - 1 := ((congrArg Int32.toInt (show σ13 55 26 = x10 from ((jkp 26 eσ13 (of_decide_eq_true rfl)).trans (jsp eσ11)))).trans tx10)
         have z17 : (σ13 55 27).toInt = A3 - 1 := ((congrArg Int32.toInt (show σ13 55 27 = x2 from ((jkp 27 eσ13 (of_decide_eq_true rfl)).trans ((jkp 27 eσ11 (of_decide_eq_true rfl)).trans ((congrFun (jnp 55 eσ7 (of_decide_eq_true rfl)) 27).trans (jsp eσ3)))))).trans tx2)
         have z18 : (σ13 68 0).toInt = (σ 68 0).toInt := (congrArg Int32.toInt (show σ13 68 0 = (σ 68 0) from ((congrFun (jnp 68 eσ13 (of_decide_eq_true rfl)) 0).trans ((congrFun (jnp 68 eσ11 (of_decide_eq_true rfl)) 0).trans ((congrFun (jnp 68 eσ7 (of_decide_eq_true rfl)) 0).trans (congrFun (jnp 68 eσ3 (of_decide_eq_true rfl)) 0))))))
         have z19 : (σ13 68 1).toInt = (σ 68 1).toInt := (congrArg Int32.toInt (show σ13 68 1 = (σ 68 1) from ((congrFun (jnp 68 eσ13 (of_decide_eq_true rfl)) 1).trans ((congrFun (jnp 68 eσ11 (of_decide_eq_true rfl)) 1).trans ((congrFun (jnp 68 eσ7 (of_decide_eq_true rfl)) 1).trans (congrFun (jnp 68 eσ3 (of_decide_eq_true rfl)) 1))))))
         have z20 : (σ13 68 2).toInt = (σ 68 2).toInt := (congrArg Int32.toInt (show σ13 68 2 = (σ 68 2) from ((congrFun (jnp 68 eσ13 (of_decide_eq_true rfl)) 2).trans ((congrFun (jnp 68 eσ11 (of_decide_eq_true rfl)) 2).trans ((congrFun (jnp 68 eσ7 (of_decide_eq_true rfl)) 2).trans (congrFun (jnp 68 eσ3 (of_decide_eq_true rfl)) 2))))))
         have z21 : (σ13 68 3).toInt = (σ 68 3).toInt := (congrArg Int32.toInt (show σ13 68 3 = (σ 68 3) from ((congrFun (jnp 68 eσ13 (of_decide_eq_true rfl)) 3).trans ((congrFun (jnp 68 eσ11 (of_decide_eq_true rfl)) 3).trans ((congrFun (jnp 68 eσ7 (of_decide_eq_true rfl)) 3).trans (congrFun (jnp 68 eσ3 (of_decide_eq_true rfl)) 3))))))
         exact by exact hret σ13 τ _ _ _ _ ⟨rfl, (fun i hi => ((jnp i eσ13 (imp_189 i hi)).trans ((jnp i eσ11 (imp_189 i hi)).trans ((jnp i eσ7 (imp_197 i hi)).trans (jnp i eσ3 (imp_189 i hi)))))), (fun i hi => ((jkp i eσ13 (imp_192 i hi)).trans ((jkp i eσ11 (imp_191 i hi)).trans ((congrFun (jnp 55 eσ7 (of_decide_eq_true rfl)) i).trans (jkp i eσ3 (imp_190 i hi)))))), w14, (by rw [eσ13, jup_n (of_decide_eq_true rfl), eσ11, jup_n (of_decide_eq_true rfl), eσ7, jup_row, ex6, ex4, eσ3, jup_n (of_decide_eq_true rfl)]), (fun k hk => by rw [eσ13, jup_n (of_decide_eq_true rfl), eσ11, jup_n (of_decide_eq_true rfl), eσ7, jup_n (of_decide_eq_true rfl), eσ3, jup_n (of_decide_eq_true rfl)]), (by omega), (by omega), (by omega), (by omega), trivial⟩ hP hS dX12_goesBack_85
  have kc1 := jne c1 (rfl : (σ 55 6).toInt = (σ 55 6).toInt) jz_0
  by_cases c22 : σ 55 6 = 1
  · have kc22 := jeq c22 (rfl : (σ 55 6).toInt = (σ 55 6).toInt) jz_1
    refine lv_iload_n hx hb dX12_goesBack_0 rfl (lv_at hl 3 rfl) ?_
    refine lv_istore (lv' := [(4, .int a3), (0, .ref (ad 55)), (1, .int a1), (2, .int 0), (3, .int a3)]) hx hb dX12_goesBack_1 hl (of_decide_eq_true rfl) rfl (fun ls hl => ?_)
    refine lv_aload_n hx hb dX12_goesBack_3 rfl (lv_at hl 1 rfl) ?_
    refine va_get (D := D) hx hb hts inlX12 hown hK hP 55 (jc_55 cI cL ad σ τ) rfl 6 (of_decide_eq_true rfl) (hts _ kw_9_13) (fun _ h9 => h9) rfl dX12_goesBack_4 ?_
    refine jtopr c22 ?_
    refine lv_iconst (v := 1) hx hb dX12_goesBack_7 (of_decide_eq_true rfl) ?_
    refine lv_isub hx hb dX12_goesBack_8 ?_
    refine jtopr (y := 0) (of_decide_eq_true rfl) ?_
    refine lv_istore (lv' := [(5, .int 0), (4, .int a3), (0, .ref (ad 55)), (1, .int a1), (2, .int 0), (3, .int a3)]) hx hb dX12_goesBack_9 hl (of_decide_eq_true rfl) rfl (fun ls hl => ?_)
    refine lv_iload hx hb dX12_goesBack_11 (lv_at hl 0 rfl) ?_
    refine lv_if_lt (tgt := 39) hx hb dX12_goesBack_13 (of_decide_eq_true rfl) (fun c => absurd c (of_decide_eq_true rfl)) (fun _ => ?_)
    refine lv_aload_n hx hb dX12_goesBack_16 rfl (lv_at hl 2 rfl) ?_
    refine va_get (D := D) hx hb hts inlX12 hown hK hP 55 (jc_55 cI cL ad σ τ) rfl 28 (of_decide_eq_true rfl) (hts _ kw_7_14) (fun _ h9 => h9) rfl dX12_goesBack_17 ?_
    refine lv_iload hx hb dX12_goesBack_20 (lv_at hl 0 rfl) ?_
    refine lv_iload hx hb dX12_goesBack_22 (lv_at hl 1 rfl) ?_
    refine lv_iconst (v := 4) hx hb dX12_goesBack_24 (of_decide_eq_true rfl) ?_
    refine lv_irem hx hb dX12_goesBack_25 (of_decide_eq_true rfl) ?_
    refine lv_topi (fun x23 ex23 => ?_)
    exact by
     have tx23 : x23.toInt = (A3 % 4) := jrem ex23 t3 jz_4 (by omega)
     refine jast hx hb hK hP hJ hA hS (jc_68 cI cL ad σ τ) (ja_68 cI cL ad σ τ _ _) (jin jz_0 (by omega) (by omega)) dX12_goesBack_26 (fun σ24 H locs eσ24 hP hS => ?_)
     have eσ24 : σ24 = jup σ 68 0 x23 := eσ24
     refine lv_iload hx hb dX12_goesBack_27 (lv_at hl 1 rfl) ?_
     refine lv_iconst (v := 4) hx hb dX12_goesBack_29 (of_decide_eq_true rfl) ?_
     refine lv_idiv hx hb dX12_goesBack_30 (of_decide_eq_true rfl) ?_
     refine lv_topi (fun x25 ex25 => ?_)
     have tx25 : x25.toInt = (A3 / 4) := jdiv ex25 t3 jz_4 (by omega) (by omega)
     refine lv_istore (lv' := [(4, .int x25), (5, .int 0), (0, .ref (ad 55)), (1, .int a1), (2, .int 0), (3, .int a3)]) hx hb dX12_goesBack_31 hl (of_decide_eq_true rfl) rfl (fun ls hl => ?_)
     exact by
      refine lv_iinc (v := (-1)) (lv' := [(5, .int (-1)), (4, .int x25), (0, .ref (ad 55)), (1, .int a1), (2, .int 0), (3, .int a3)]) hx hb dX12_goesBack_33 hl (k := 1) rfl (of_decide_eq_true rfl) (of_decide_eq_true rfl) rfl (fun ls hl => ?_)
      refine lv_goto (tgt := 11) hx hb dX12_goesBack_36 (of_decide_eq_true rfl) ?_
      refine lv_iload hx hb dX12_goesBack_11 (lv_at hl 0 rfl) ?_
      refine lv_if_lt (tgt := 39) hx hb dX12_goesBack_13 (of_decide_eq_true rfl) (fun _ => ?_) (fun c => absurd (of_decide_eq_true rfl) c)
      refine lv_aload_n hx hb dX12_goesBack_39 rfl (lv_at hl 2 rfl) ?_
      refine lv_iload hx hb dX12_goesBack_40 (lv_at hl 1 rfl) ?_
      refine lv_iconst (v := 1) hx hb dX12_goesBack_42 (of_decide_eq_true rfl) ?_
      refine lv_isub hx hb dX12_goesBack_43 ?_
      refine lv_topi (fun x26 ex26 => ?_)
      exact by
       have tx26 : x26.toInt = (A3 / 4) - 1 := (jsub ex26 tx25 jz_1 (by omega) (by omega)).trans (by omega)
       refine jput (ty := .int) hx hb hts inlX12 tyX12 tyX12_ok nmX12 hown hK hP hJ hA hS (jc_55 cI cL ad σ24 τ) rfl (k := 27) (of_decide_eq_true rfl) (Nat.le_of_ble_eq_true rfl) (jp_55_27 cI cL ad σ24 τ x26) (hts _ kw_23_11) (fun _ h9 => h9) rfl (by decide +kernel) rfl rfl dX12_goesBack_44 (fun σ27 H locs eσ27 hP hS => ?_)
       refine lv_aload_n hx hb dX12_goesBack_47 rfl (lv_at hl 2 rfl) ?_
       refine va_get (D := D) hx hb hts inlX12 hown hK hP 55 (jc_55 cI cL ad σ27 τ) rfl 29 (of_decide_eq_true rfl) (hts _ kw_7_15) (fun _ h9 => h9) rfl dX12_goesBack_48 ?_
       refine lv_iload_n hx hb dX12_goesBack_51 rfl (lv_at hl 3 rfl) ?_
       refine lv_dup2_11 hx hb dX12_goesBack_52 rfl rfl ?_
       refine jald hx hb hK hP (jc_69 cI cL ad σ27 τ) (jin t1 (by omega) (by omega)) dX12_goesBack_53 ?_
       refine lv_topi (fun x28 ex28 => ?_)
       refine lv_iconst (v := 1) hx hb dX12_goesBack_54 (of_decide_eq_true rfl) ?_
       exact by
        have g29 := jrg (rfl : x28.toInt = x28.toInt)
        refine lv_isub hx hb dX12_goesBack_55 ?_
        refine lv_topi (fun x30 ex30 => ?_)
        have gx30 := jrg (rfl : x30.toInt = x30.toInt)
        refine jast hx hb hK hP hJ hA hS (jc_69 cI cL ad σ27 τ) (ja_69 cI cL ad σ27 τ _ _) (jin t1 (by omega) (by omega)) dX12_goesBack_56 (fun σ31 H locs eσ31 hP hS => ?_)
        refine lv_aload_n hx hb dX12_goesBack_57 rfl (lv_at hl 2 rfl) ?_
        refine lv_dup hx hb dX12_goesBack_58 rfl ?_
        refine va_get (D := D) hx hb hts inlX12 hown hK hP 55 (jc_55 cI cL ad σ31 τ) rfl 26 (of_decide_eq_true rfl) (hts _ kw_23_5) (fun _ h9 => h9) rfl dX12_goesBack_59 ?_
        have m32 : σ31 55 26 = (σ 55 26) := ((congrFun (jnp 55 eσ31 (of_decide_eq_true rfl)) 26).trans ((jkp 26 eσ27 (of_decide_eq_true rfl)).trans (congrFun (jnp 55 eσ24 (of_decide_eq_true rfl)) 26)))
        exact by
         refine jtopr m32 ?_
         refine lv_iconst (v := 1) hx hb dX12_goesBack_62 (of_decide_eq_true rfl) ?_
         have g33 := jrg (rfl : (σ 55 26).toInt = (σ 55 26).toInt)
         refine lv_isub hx hb dX12_goesBack_63 ?_
         refine lv_topi (fun x34 ex34 => ?_)
         have tx34 : x34.toInt = (σ 55 26).toInt - 1 := (jsub ex34 rfl jz_1 (by omega) (by omega)).trans (by omega)
         refine jput (ty := .int) hx hb hts inlX12 tyX12 tyX12_ok nmX12 hown hK hP hJ hA hS (jc_55 cI cL ad σ31 τ) rfl (k := 26) (of_decide_eq_true rfl) (Nat.le_of_ble_eq_true rfl) (jp_55_26 cI cL ad σ31 τ x34) (hts _ kw_23_5) (fun _ h9 => h9) rfl (by decide +kernel) rfl rfl dX12_goesBack_64 (fun σ35 H locs eσ35 hP hS => ?_)
         refine lv_aload_n hx hb dX12_goesBack_67 rfl (lv_at hl 2 rfl) ?_
         refine lv_dup hx hb dX12_goesBack_68 rfl ?_
         exact by
          refine va_get (D := D) hx hb hts inlX12 hown hK hP 55 (jc_55 cI cL ad σ35 τ) rfl 25 (of_decide_eq_true rfl) (hts _ kw_23_6) (fun _ h9 => h9) rfl dX12_goesBack_69 ?_
          have m36 : σ35 55 25 = (σ 55 25) := ((jkp 25 eσ35 (of_decide_eq_true rfl)).trans ((congrFun (jnp 55 eσ31 (of_decide_eq_true rfl)) 25).trans ((jkp 25 eσ27 (of_decide_eq_true rfl)).trans (congrFun (jnp 55 eσ24 (of_decide_eq_true rfl)) 25))))
          refine jtopr m36 ?_
          refine lv_iload_n hx hb dX12_goesBack_72 rfl (lv_at hl 4 rfl) ?_
          refine lv_if_eq (tgt := 80) hx hb dX12_goesBack_73 (of_decide_eq_true rfl) (fun _ => ?_) (fun c => absurd (of_decide_eq_true rfl) c)
          refine lv_iconst (v := 0) hx hb dX12_goesBack_80 (of_decide_eq_true rfl) ?_
          refine lv_isub hx hb dX12_goesBack_81 ?_
          refine jtopr (y := (σ 55 25)) (by rw [Int32.sub_zero]) ?_
          refine jput (ty := .int) hx hb hts inlX12 tyX12 tyX12_ok nmX12 hown hK hP hJ hA hS (jc_55 cI cL ad σ35 τ) rfl (k := 25) (of_decide_eq_true rfl) (Nat.le_of_ble_eq_true rfl) (jp_55_25 cI cL ad σ35 τ (σ 55 25)) (hts _ kw_23_6) (fun _ h9 => h9) rfl (by decide +kernel) rfl rfl dX12_goesBack_82 (fun σ37 H locs eσ37 hP hS => ?_)
          exact by
           have w38 : ∀ k : Nat, k < 4 → 0 ≤ (σ37 68 k).toInt ∧ (σ37 68 k).toInt ≤ 3 := (jrr_fr (jnp 68 eσ37 (of_decide_eq_true rfl)) (jrr_fr (jnp 68 eσ35 (of_decide_eq_true rfl)) (jrr_fr (jnp 68 eσ31 (of_decide_eq_true rfl)) (jrr_fr (jnp 68 eσ27 (of_decide_eq_true rfl)) (by rw [eσ24]; exact jrr_up hw68 (by have h9 := tx23; omega) (by have h9 := tx23; omega))))))
           have z39 : (σ37 55 25).toInt = (σ 55 25).toInt := (congrArg Int32.toInt (show σ37 55 25 = (σ 55 25) from (jsp eσ37)))
           have z40 : (σ37 55 26).toInt = (σ 55 26).toInt - 1 := ((congrArg Int32.toInt (show σ37 55 26 = x34 from ((jkp 26 eσ37 (of_decide_eq_true rfl)).trans (jsp eσ35)))).trans tx34)
           have z41 : (σ37 55 27).toInt = (A3 / 4) - 1 := ((congrArg Int32.toInt (show σ37 55 27 = x26 from ((jkp 27 eσ37 (of_decide_eq_true rfl)).trans ((jkp 27 eσ35 (of_decide_eq_true rfl)).trans ((congrFun (jnp 55 eσ31 (of_decide_eq_true rfl)) 27).trans (jsp eσ27)))))).trans tx26)
           have z42 : (σ37 68 0).toInt = (A3 % 4) := ((congrArg Int32.toInt (show σ37 68 0 = x23 from ((congrFun (jnp 68 eσ37 (of_decide_eq_true rfl)) 0).trans ((congrFun (jnp 68 eσ35 (of_decide_eq_true rfl)) 0).trans ((congrFun (jnp 68 eσ31 (of_decide_eq_true rfl)) 0).trans ((congrFun (jnp 68 eσ27 (of_decide_eq_true rfl)) 0).trans (jsp eσ24))))))).trans tx23)
           have z43 : (σ37 68 1).toInt = (σ 68 1).toInt := (congrArg Int32.toInt (show σ37 68 1 = (σ 68 1) from ((congrFun (jnp 68 eσ37 (of_decide_eq_true rfl)) 1).trans ((congrFun (jnp 68 eσ35 (of_decide_eq_true rfl)) 1).trans ((congrFun (jnp 68 eσ31 (of_decide_eq_true rfl)) 1).trans ((congrFun (jnp 68 eσ27 (of_decide_eq_true rfl)) 1).trans (jkp 1 eσ24 (of_decide_eq_true rfl))))))))
           have z44 : (σ37 68 2).toInt = (σ 68 2).toInt := (congrArg Int32.toInt (show σ37 68 2 = (σ 68 2) from ((congrFun (jnp 68 eσ37 (of_decide_eq_true rfl)) 2).trans ((congrFun (jnp 68 eσ35 (of_decide_eq_true rfl)) 2).trans ((congrFun (jnp 68 eσ31 (of_decide_eq_true rfl)) 2).trans ((congrFun (jnp 68 eσ27 (of_decide_eq_true rfl)) 2).trans (jkp 2 eσ24 (of_decide_eq_true rfl))))))))
           have z45 : (σ37 68 3).toInt = (σ 68 3).toInt := (congrArg Int32.toInt (show σ37 68 3 = (σ 68 3) from ((congrFun (jnp 68 eσ37 (of_decide_eq_true rfl)) 3).trans ((congrFun (jnp 68 eσ35 (of_decide_eq_true rfl)) 3).trans ((congrFun (jnp 68 eσ31 (of_decide_eq_true rfl)) 3).trans ((congrFun (jnp 68 eσ27 (of_decide_eq_true rfl)) 3).trans (jkp 3 eσ24 (of_decide_eq_true rfl))))))))
           exact by exact hret σ37 τ _ _ _ _ ⟨rfl, (fun i hi => ((jnp i eσ37 (imp_189 i hi)).trans ((jnp i eσ35 (imp_189 i hi)).trans ((jnp i eσ31 (imp_197 i hi)).trans ((jnp i eσ27 (imp_189 i hi)).trans (jnp i eσ24 (imp_198 i hi))))))), (fun i hi => ((jkp i eσ37 (imp_192 i hi)).trans ((jkp i eσ35 (imp_191 i hi)).trans ((congrFun (jnp 55 eσ31 (of_decide_eq_true rfl)) i).trans ((jkp i eσ27 (imp_190 i hi)).trans (congrFun (jnp 55 eσ24 (of_decide_eq_true rfl)) i)))))), w38, (by rw [eσ37, jup_n (of_decide_eq_true rfl), eσ35, jup_n (of_decide_eq_true rfl), eσ31, jup_row, ex30, ex28, eσ27, jup_n (of_decide_eq_true rfl), eσ24, jup_n (of_decide_eq_true rfl)]), (fun k hk => by rw [eσ37, jup_n (of_decide_eq_true rfl), eσ35, jup_n (of_decide_eq_true rfl), eσ31, jup_n (of_decide_eq_true rfl), eσ27, jup_n (of_decide_eq_true rfl), eσ24, jup_k (by omega)]), (by omega), (by omega), (by omega), (by omega), trivial⟩ hP hS dX12_goesBack_85
  have kc22 := jne c22 (rfl : (σ 55 6).toInt = (σ 55 6).toInt) jz_1
  by_cases c46 : σ 55 6 = 2
  · have kc46 := jeq c46 (rfl : (σ 55 6).toInt = (σ 55 6).toInt) jz_2
    refine lv_iload_n hx hb dX12_goesBack_0 rfl (lv_at hl 3 rfl) ?_
    refine lv_istore (lv' := [(4, .int a3), (0, .ref (ad 55)), (1, .int a1), (2, .int 0), (3, .int a3)]) hx hb dX12_goesBack_1 hl (of_decide_eq_true rfl) rfl (fun ls hl => ?_)
    refine lv_aload_n hx hb dX12_goesBack_3 rfl (lv_at hl 1 rfl) ?_
    refine va_get (D := D) hx hb hts inlX12 hown hK hP 55 (jc_55 cI cL ad σ τ) rfl 6 (of_decide_eq_true rfl) (hts _ kw_9_13) (fun _ h9 => h9) rfl dX12_goesBack_4 ?_
    refine jtopr c46 ?_
    refine lv_iconst (v := 1) hx hb dX12_goesBack_7 (of_decide_eq_true rfl) ?_
    refine lv_isub hx hb dX12_goesBack_8 ?_
    refine jtopr (y := 1) (of_decide_eq_true rfl) ?_
    refine lv_istore (lv' := [(5, .int 1), (4, .int a3), (0, .ref (ad 55)), (1, .int a1), (2, .int 0), (3, .int a3)]) hx hb dX12_goesBack_9 hl (of_decide_eq_true rfl) rfl (fun ls hl => ?_)
    refine lv_iload hx hb dX12_goesBack_11 (lv_at hl 0 rfl) ?_
    refine lv_if_lt (tgt := 39) hx hb dX12_goesBack_13 (of_decide_eq_true rfl) (fun c => absurd c (of_decide_eq_true rfl)) (fun _ => ?_)
    refine lv_aload_n hx hb dX12_goesBack_16 rfl (lv_at hl 2 rfl) ?_
    refine va_get (D := D) hx hb hts inlX12 hown hK hP 55 (jc_55 cI cL ad σ τ) rfl 28 (of_decide_eq_true rfl) (hts _ kw_7_14) (fun _ h9 => h9) rfl dX12_goesBack_17 ?_
    refine lv_iload hx hb dX12_goesBack_20 (lv_at hl 0 rfl) ?_
    refine lv_iload hx hb dX12_goesBack_22 (lv_at hl 1 rfl) ?_
    refine lv_iconst (v := 4) hx hb dX12_goesBack_24 (of_decide_eq_true rfl) ?_
    refine lv_irem hx hb dX12_goesBack_25 (of_decide_eq_true rfl) ?_
    refine lv_topi (fun x47 ex47 => ?_)
    exact by
     have tx47 : x47.toInt = (A3 % 4) := jrem ex47 t3 jz_4 (by omega)
     refine jast hx hb hK hP hJ hA hS (jc_68 cI cL ad σ τ) (ja_68 cI cL ad σ τ _ _) (jin jz_1 (by omega) (by omega)) dX12_goesBack_26 (fun σ48 H locs eσ48 hP hS => ?_)
     have eσ48 : σ48 = jup σ 68 1 x47 := eσ48
     refine lv_iload hx hb dX12_goesBack_27 (lv_at hl 1 rfl) ?_
     refine lv_iconst (v := 4) hx hb dX12_goesBack_29 (of_decide_eq_true rfl) ?_
     refine lv_idiv hx hb dX12_goesBack_30 (of_decide_eq_true rfl) ?_
     refine lv_topi (fun x49 ex49 => ?_)
     have tx49 : x49.toInt = (A3 / 4) := jdiv ex49 t3 jz_4 (by omega) (by omega)
     refine lv_istore (lv' := [(4, .int x49), (5, .int 1), (0, .ref (ad 55)), (1, .int a1), (2, .int 0), (3, .int a3)]) hx hb dX12_goesBack_31 hl (of_decide_eq_true rfl) rfl (fun ls hl => ?_)
     exact by
      refine lv_iinc (v := 0) (lv' := [(5, .int 0), (4, .int x49), (0, .ref (ad 55)), (1, .int a1), (2, .int 0), (3, .int a3)]) hx hb dX12_goesBack_33 hl (k := 1) rfl (of_decide_eq_true rfl) (of_decide_eq_true rfl) rfl (fun ls hl => ?_)
      refine lv_goto (tgt := 11) hx hb dX12_goesBack_36 (of_decide_eq_true rfl) ?_
      refine lv_iload hx hb dX12_goesBack_11 (lv_at hl 0 rfl) ?_
      refine lv_if_lt (tgt := 39) hx hb dX12_goesBack_13 (of_decide_eq_true rfl) (fun c => absurd c (of_decide_eq_true rfl)) (fun _ => ?_)
      refine lv_aload_n hx hb dX12_goesBack_16 rfl (lv_at hl 2 rfl) ?_
      refine va_get (D := D) hx hb hts inlX12 hown hK hP 55 (jc_55 cI cL ad σ48 τ) rfl 28 (of_decide_eq_true rfl) (hts _ kw_7_14) (fun _ h9 => h9) rfl dX12_goesBack_17 ?_
      refine lv_iload hx hb dX12_goesBack_20 (lv_at hl 0 rfl) ?_
      refine lv_iload hx hb dX12_goesBack_22 (lv_at hl 1 rfl) ?_
      refine lv_iconst (v := 4) hx hb dX12_goesBack_24 (of_decide_eq_true rfl) ?_
      refine lv_irem hx hb dX12_goesBack_25 (of_decide_eq_true rfl) ?_
      refine lv_topi (fun x50 ex50 => ?_)
      exact by
       have tx50 : x50.toInt = (((A3 / 4)) % 4) := jrem ex50 tx49 jz_4 (by omega)
       refine jast hx hb hK hP hJ hA hS (jc_68 cI cL ad σ48 τ) (ja_68 cI cL ad σ48 τ _ _) (jin jz_0 (by omega) (by omega)) dX12_goesBack_26 (fun σ51 H locs eσ51 hP hS => ?_)
       have eσ51 : σ51 = jup σ48 68 0 x50 := eσ51
       refine lv_iload hx hb dX12_goesBack_27 (lv_at hl 1 rfl) ?_
       refine lv_iconst (v := 4) hx hb dX12_goesBack_29 (of_decide_eq_true rfl) ?_
       refine lv_idiv hx hb dX12_goesBack_30 (of_decide_eq_true rfl) ?_
       refine lv_topi (fun x52 ex52 => ?_)
       have tx52 : x52.toInt = (((A3 / 4)) / 4) := jdiv ex52 tx49 jz_4 (by omega) (by omega)
       refine lv_istore (lv' := [(4, .int x52), (5, .int 0), (0, .ref (ad 55)), (1, .int a1), (2, .int 0), (3, .int a3)]) hx hb dX12_goesBack_31 hl (of_decide_eq_true rfl) rfl (fun ls hl => ?_)
       exact by
        refine lv_iinc (v := (-1)) (lv' := [(5, .int (-1)), (4, .int x52), (0, .ref (ad 55)), (1, .int a1), (2, .int 0), (3, .int a3)]) hx hb dX12_goesBack_33 hl (k := 1) rfl (of_decide_eq_true rfl) (of_decide_eq_true rfl) rfl (fun ls hl => ?_)
        refine lv_goto (tgt := 11) hx hb dX12_goesBack_36 (of_decide_eq_true rfl) ?_
        refine lv_iload hx hb dX12_goesBack_11 (lv_at hl 0 rfl) ?_
        refine lv_if_lt (tgt := 39) hx hb dX12_goesBack_13 (of_decide_eq_true rfl) (fun _ => ?_) (fun c => absurd (of_decide_eq_true rfl) c)
        refine lv_aload_n hx hb dX12_goesBack_39 rfl (lv_at hl 2 rfl) ?_
        refine lv_iload hx hb dX12_goesBack_40 (lv_at hl 1 rfl) ?_
        refine lv_iconst (v := 1) hx hb dX12_goesBack_42 (of_decide_eq_true rfl) ?_
        refine lv_isub hx hb dX12_goesBack_43 ?_
        refine lv_topi (fun x53 ex53 => ?_)
        exact by
         have tx53 : x53.toInt = (((A3 / 4)) / 4) - 1 := (jsub ex53 tx52 jz_1 (by omega) (by omega)).trans (by omega)
         refine jput (ty := .int) hx hb hts inlX12 tyX12 tyX12_ok nmX12 hown hK hP hJ hA hS (jc_55 cI cL ad σ51 τ) rfl (k := 27) (of_decide_eq_true rfl) (Nat.le_of_ble_eq_true rfl) (jp_55_27 cI cL ad σ51 τ x53) (hts _ kw_23_11) (fun _ h9 => h9) rfl (by decide +kernel) rfl rfl dX12_goesBack_44 (fun σ54 H locs eσ54 hP hS => ?_)
         refine lv_aload_n hx hb dX12_goesBack_47 rfl (lv_at hl 2 rfl) ?_
         refine va_get (D := D) hx hb hts inlX12 hown hK hP 55 (jc_55 cI cL ad σ54 τ) rfl 29 (of_decide_eq_true rfl) (hts _ kw_7_15) (fun _ h9 => h9) rfl dX12_goesBack_48 ?_
         refine lv_iload_n hx hb dX12_goesBack_51 rfl (lv_at hl 3 rfl) ?_
         refine lv_dup2_11 hx hb dX12_goesBack_52 rfl rfl ?_
         refine jald hx hb hK hP (jc_69 cI cL ad σ54 τ) (jin t1 (by omega) (by omega)) dX12_goesBack_53 ?_
         refine lv_topi (fun x55 ex55 => ?_)
         refine lv_iconst (v := 1) hx hb dX12_goesBack_54 (of_decide_eq_true rfl) ?_
         exact by
          have g56 := jrg (rfl : x55.toInt = x55.toInt)
          refine lv_isub hx hb dX12_goesBack_55 ?_
          refine lv_topi (fun x57 ex57 => ?_)
          have gx57 := jrg (rfl : x57.toInt = x57.toInt)
          refine jast hx hb hK hP hJ hA hS (jc_69 cI cL ad σ54 τ) (ja_69 cI cL ad σ54 τ _ _) (jin t1 (by omega) (by omega)) dX12_goesBack_56 (fun σ58 H locs eσ58 hP hS => ?_)
          refine lv_aload_n hx hb dX12_goesBack_57 rfl (lv_at hl 2 rfl) ?_
          refine lv_dup hx hb dX12_goesBack_58 rfl ?_
          refine va_get (D := D) hx hb hts inlX12 hown hK hP 55 (jc_55 cI cL ad σ58 τ) rfl 26 (of_decide_eq_true rfl) (hts _ kw_23_5) (fun _ h9 => h9) rfl dX12_goesBack_59 ?_
          have m59 : σ58 55 26 = (σ 55 26) := ((congrFun (jnp 55 eσ58 (of_decide_eq_true rfl)) 26).trans ((jkp 26 eσ54 (of_decide_eq_true rfl)).trans ((congrFun (jnp 55 eσ51 (of_decide_eq_true rfl)) 26).trans (congrFun (jnp 55 eσ48 (of_decide_eq_true rfl)) 26))))
          exact by
           refine jtopr m59 ?_
           refine lv_iconst (v := 1) hx hb dX12_goesBack_62 (of_decide_eq_true rfl) ?_
           have g60 := jrg (rfl : (σ 55 26).toInt = (σ 55 26).toInt)
           refine lv_isub hx hb dX12_goesBack_63 ?_
           refine lv_topi (fun x61 ex61 => ?_)
           have tx61 : x61.toInt = (σ 55 26).toInt - 1 := (jsub ex61 rfl jz_1 (by omega) (by omega)).trans (by omega)
           refine jput (ty := .int) hx hb hts inlX12 tyX12 tyX12_ok nmX12 hown hK hP hJ hA hS (jc_55 cI cL ad σ58 τ) rfl (k := 26) (of_decide_eq_true rfl) (Nat.le_of_ble_eq_true rfl) (jp_55_26 cI cL ad σ58 τ x61) (hts _ kw_23_5) (fun _ h9 => h9) rfl (by decide +kernel) rfl rfl dX12_goesBack_64 (fun σ62 H locs eσ62 hP hS => ?_)
           refine lv_aload_n hx hb dX12_goesBack_67 rfl (lv_at hl 2 rfl) ?_
           refine lv_dup hx hb dX12_goesBack_68 rfl ?_
           exact by
            refine va_get (D := D) hx hb hts inlX12 hown hK hP 55 (jc_55 cI cL ad σ62 τ) rfl 25 (of_decide_eq_true rfl) (hts _ kw_23_6) (fun _ h9 => h9) rfl dX12_goesBack_69 ?_
            have m63 : σ62 55 25 = (σ 55 25) := ((jkp 25 eσ62 (of_decide_eq_true rfl)).trans ((congrFun (jnp 55 eσ58 (of_decide_eq_true rfl)) 25).trans ((jkp 25 eσ54 (of_decide_eq_true rfl)).trans ((congrFun (jnp 55 eσ51 (of_decide_eq_true rfl)) 25).trans (congrFun (jnp 55 eσ48 (of_decide_eq_true rfl)) 25)))))
            refine jtopr m63 ?_
            refine lv_iload_n hx hb dX12_goesBack_72 rfl (lv_at hl 4 rfl) ?_
            refine lv_if_eq (tgt := 80) hx hb dX12_goesBack_73 (of_decide_eq_true rfl) (fun _ => ?_) (fun c => absurd (of_decide_eq_true rfl) c)
            refine lv_iconst (v := 0) hx hb dX12_goesBack_80 (of_decide_eq_true rfl) ?_
            refine lv_isub hx hb dX12_goesBack_81 ?_
            refine jtopr (y := (σ 55 25)) (by rw [Int32.sub_zero]) ?_
            refine jput (ty := .int) hx hb hts inlX12 tyX12 tyX12_ok nmX12 hown hK hP hJ hA hS (jc_55 cI cL ad σ62 τ) rfl (k := 25) (of_decide_eq_true rfl) (Nat.le_of_ble_eq_true rfl) (jp_55_25 cI cL ad σ62 τ (σ 55 25)) (hts _ kw_23_6) (fun _ h9 => h9) rfl (by decide +kernel) rfl rfl dX12_goesBack_82 (fun σ64 H locs eσ64 hP hS => ?_)
            exact by
             have w65 : ∀ k : Nat, k < 4 → 0 ≤ (σ64 68 k).toInt ∧ (σ64 68 k).toInt ≤ 3 := (jrr_fr (jnp 68 eσ64 (of_decide_eq_true rfl)) (jrr_fr (jnp 68 eσ62 (of_decide_eq_true rfl)) (jrr_fr (jnp 68 eσ58 (of_decide_eq_true rfl)) (jrr_fr (jnp 68 eσ54 (of_decide_eq_true rfl)) (by rw [eσ51]; exact jrr_up (by rw [eσ48]; exact jrr_up hw68 (by have h9 := tx47; omega) (by have h9 := tx47; omega)) (by have h9 := tx50; omega) (by have h9 := tx50; omega))))))
             have z66 : (σ64 55 25).toInt = (σ 55 25).toInt := (congrArg Int32.toInt (show σ64 55 25 = (σ 55 25) from (jsp eσ64)))
             have z67 : (σ64 55 26).toInt = (σ 55 26).toInt - 1 := ((congrArg Int32.toInt (show σ64 55 26 = x61 from ((jkp 26 eσ64 (of_decide_eq_true rfl)).trans (jsp eσ62)))).trans tx61)
             have z68 : (σ64 55 27).toInt = (((A3 / 4)) / 4) - 1 := ((congrArg Int32.toInt (show σ64 55 27 = x53 from ((jkp 27 eσ64 (of_decide_eq_true rfl)).trans ((jkp 27 eσ62 (of_decide_eq_true rfl)).trans ((congrFun (jnp 55 eσ58 (of_decide_eq_true rfl)) 27).trans (jsp eσ54)))))).trans tx53)
             have z69 : (σ64 68 0).toInt = (((A3 / 4)) % 4) := ((congrArg Int32.toInt (show σ64 68 0 = x50 from ((congrFun (jnp 68 eσ64 (of_decide_eq_true rfl)) 0).trans ((congrFun (jnp 68 eσ62 (of_decide_eq_true rfl)) 0).trans ((congrFun (jnp 68 eσ58 (of_decide_eq_true rfl)) 0).trans ((congrFun (jnp 68 eσ54 (of_decide_eq_true rfl)) 0).trans (jsp eσ51))))))).trans tx50)
             have z70 : (σ64 68 1).toInt = (A3 % 4) := ((congrArg Int32.toInt (show σ64 68 1 = x47 from ((congrFun (jnp 68 eσ64 (of_decide_eq_true rfl)) 1).trans ((congrFun (jnp 68 eσ62 (of_decide_eq_true rfl)) 1).trans ((congrFun (jnp 68 eσ58 (of_decide_eq_true rfl)) 1).trans ((congrFun (jnp 68 eσ54 (of_decide_eq_true rfl)) 1).trans ((jkp 1 eσ51 (of_decide_eq_true rfl)).trans (jsp eσ48)))))))).trans tx47)
             have z71 : (σ64 68 2).toInt = (σ 68 2).toInt := (congrArg Int32.toInt (show σ64 68 2 = (σ 68 2) from ((congrFun (jnp 68 eσ64 (of_decide_eq_true rfl)) 2).trans ((congrFun (jnp 68 eσ62 (of_decide_eq_true rfl)) 2).trans ((congrFun (jnp 68 eσ58 (of_decide_eq_true rfl)) 2).trans ((congrFun (jnp 68 eσ54 (of_decide_eq_true rfl)) 2).trans ((jkp 2 eσ51 (of_decide_eq_true rfl)).trans (jkp 2 eσ48 (of_decide_eq_true rfl)))))))))
             have z72 : (σ64 68 3).toInt = (σ 68 3).toInt := (congrArg Int32.toInt (show σ64 68 3 = (σ 68 3) from ((congrFun (jnp 68 eσ64 (of_decide_eq_true rfl)) 3).trans ((congrFun (jnp 68 eσ62 (of_decide_eq_true rfl)) 3).trans ((congrFun (jnp 68 eσ58 (of_decide_eq_true rfl)) 3).trans ((congrFun (jnp 68 eσ54 (of_decide_eq_true rfl)) 3).trans ((jkp 3 eσ51 (of_decide_eq_true rfl)).trans (jkp 3 eσ48 (of_decide_eq_true rfl)))))))))
             exact by exact hret σ64 τ _ _ _ _ ⟨rfl, (fun i hi => ((jnp i eσ64 (imp_189 i hi)).trans ((jnp i eσ62 (imp_189 i hi)).trans ((jnp i eσ58 (imp_197 i hi)).trans ((jnp i eσ54 (imp_189 i hi)).trans ((jnp i eσ51 (imp_198 i hi)).trans (jnp i eσ48 (imp_198 i hi)))))))), (fun i hi => ((jkp i eσ64 (imp_192 i hi)).trans ((jkp i eσ62 (imp_191 i hi)).trans ((congrFun (jnp 55 eσ58 (of_decide_eq_true rfl)) i).trans ((jkp i eσ54 (imp_190 i hi)).trans ((congrFun (jnp 55 eσ51 (of_decide_eq_true rfl)) i).trans (congrFun (jnp 55 eσ48 (of_decide_eq_true rfl)) i))))))), w65, (by rw [eσ64, jup_n (of_decide_eq_true rfl), eσ62, jup_n (of_decide_eq_true rfl), eσ58, jup_row, ex57, ex55, eσ54, jup_n (of_decide_eq_true rfl), eσ51, jup_n (of_decide_eq_true rfl), eσ48, jup_n (of_decide_eq_true rfl)]), (fun k hk => by rw [eσ64, jup_n (of_decide_eq_true rfl), eσ62, jup_n (of_decide_eq_true rfl), eσ58, jup_n (of_decide_eq_true rfl), eσ54, jup_n (of_decide_eq_true rfl), eσ51, jup_k (by omega), eσ48, jup_k (by omega)]), (by omega), (by omega), (by omega), (by omega), trivial⟩ hP hS dX12_goesBack_85
  have kc46 := jne c46 (rfl : (σ 55 6).toInt = (σ 55 6).toInt) jz_2
  by_cases c73 : σ 55 6 = 3
  · have kc73 := jeq c73 (rfl : (σ 55 6).toInt = (σ 55 6).toInt) jz_3
    refine lv_iload_n hx hb dX12_goesBack_0 rfl (lv_at hl 3 rfl) ?_
    refine lv_istore (lv' := [(4, .int a3), (0, .ref (ad 55)), (1, .int a1), (2, .int 0), (3, .int a3)]) hx hb dX12_goesBack_1 hl (of_decide_eq_true rfl) rfl (fun ls hl => ?_)
    refine lv_aload_n hx hb dX12_goesBack_3 rfl (lv_at hl 1 rfl) ?_
    refine va_get (D := D) hx hb hts inlX12 hown hK hP 55 (jc_55 cI cL ad σ τ) rfl 6 (of_decide_eq_true rfl) (hts _ kw_9_13) (fun _ h9 => h9) rfl dX12_goesBack_4 ?_
    refine jtopr c73 ?_
    refine lv_iconst (v := 1) hx hb dX12_goesBack_7 (of_decide_eq_true rfl) ?_
    refine lv_isub hx hb dX12_goesBack_8 ?_
    refine jtopr (y := 2) (of_decide_eq_true rfl) ?_
    refine lv_istore (lv' := [(5, .int 2), (4, .int a3), (0, .ref (ad 55)), (1, .int a1), (2, .int 0), (3, .int a3)]) hx hb dX12_goesBack_9 hl (of_decide_eq_true rfl) rfl (fun ls hl => ?_)
    refine lv_iload hx hb dX12_goesBack_11 (lv_at hl 0 rfl) ?_
    refine lv_if_lt (tgt := 39) hx hb dX12_goesBack_13 (of_decide_eq_true rfl) (fun c => absurd c (of_decide_eq_true rfl)) (fun _ => ?_)
    refine lv_aload_n hx hb dX12_goesBack_16 rfl (lv_at hl 2 rfl) ?_
    refine va_get (D := D) hx hb hts inlX12 hown hK hP 55 (jc_55 cI cL ad σ τ) rfl 28 (of_decide_eq_true rfl) (hts _ kw_7_14) (fun _ h9 => h9) rfl dX12_goesBack_17 ?_
    refine lv_iload hx hb dX12_goesBack_20 (lv_at hl 0 rfl) ?_
    refine lv_iload hx hb dX12_goesBack_22 (lv_at hl 1 rfl) ?_
    refine lv_iconst (v := 4) hx hb dX12_goesBack_24 (of_decide_eq_true rfl) ?_
    refine lv_irem hx hb dX12_goesBack_25 (of_decide_eq_true rfl) ?_
    refine lv_topi (fun x74 ex74 => ?_)
    exact by
     have tx74 : x74.toInt = (A3 % 4) := jrem ex74 t3 jz_4 (by omega)
     refine jast hx hb hK hP hJ hA hS (jc_68 cI cL ad σ τ) (ja_68 cI cL ad σ τ _ _) (jin jz_2 (by omega) (by omega)) dX12_goesBack_26 (fun σ75 H locs eσ75 hP hS => ?_)
     have eσ75 : σ75 = jup σ 68 2 x74 := eσ75
     refine lv_iload hx hb dX12_goesBack_27 (lv_at hl 1 rfl) ?_
     refine lv_iconst (v := 4) hx hb dX12_goesBack_29 (of_decide_eq_true rfl) ?_
     refine lv_idiv hx hb dX12_goesBack_30 (of_decide_eq_true rfl) ?_
     refine lv_topi (fun x76 ex76 => ?_)
     have tx76 : x76.toInt = (A3 / 4) := jdiv ex76 t3 jz_4 (by omega) (by omega)
     refine lv_istore (lv' := [(4, .int x76), (5, .int 2), (0, .ref (ad 55)), (1, .int a1), (2, .int 0), (3, .int a3)]) hx hb dX12_goesBack_31 hl (of_decide_eq_true rfl) rfl (fun ls hl => ?_)
     exact by
      refine lv_iinc (v := 1) (lv' := [(5, .int 1), (4, .int x76), (0, .ref (ad 55)), (1, .int a1), (2, .int 0), (3, .int a3)]) hx hb dX12_goesBack_33 hl (k := 1) rfl (of_decide_eq_true rfl) (of_decide_eq_true rfl) rfl (fun ls hl => ?_)
      refine lv_goto (tgt := 11) hx hb dX12_goesBack_36 (of_decide_eq_true rfl) ?_
      refine lv_iload hx hb dX12_goesBack_11 (lv_at hl 0 rfl) ?_
      refine lv_if_lt (tgt := 39) hx hb dX12_goesBack_13 (of_decide_eq_true rfl) (fun c => absurd c (of_decide_eq_true rfl)) (fun _ => ?_)
      refine lv_aload_n hx hb dX12_goesBack_16 rfl (lv_at hl 2 rfl) ?_
      refine va_get (D := D) hx hb hts inlX12 hown hK hP 55 (jc_55 cI cL ad σ75 τ) rfl 28 (of_decide_eq_true rfl) (hts _ kw_7_14) (fun _ h9 => h9) rfl dX12_goesBack_17 ?_
      refine lv_iload hx hb dX12_goesBack_20 (lv_at hl 0 rfl) ?_
      refine lv_iload hx hb dX12_goesBack_22 (lv_at hl 1 rfl) ?_
      refine lv_iconst (v := 4) hx hb dX12_goesBack_24 (of_decide_eq_true rfl) ?_
      refine lv_irem hx hb dX12_goesBack_25 (of_decide_eq_true rfl) ?_
      refine lv_topi (fun x77 ex77 => ?_)
      exact by
       have tx77 : x77.toInt = (((A3 / 4)) % 4) := jrem ex77 tx76 jz_4 (by omega)
       refine jast hx hb hK hP hJ hA hS (jc_68 cI cL ad σ75 τ) (ja_68 cI cL ad σ75 τ _ _) (jin jz_1 (by omega) (by omega)) dX12_goesBack_26 (fun σ78 H locs eσ78 hP hS => ?_)
       have eσ78 : σ78 = jup σ75 68 1 x77 := eσ78
       refine lv_iload hx hb dX12_goesBack_27 (lv_at hl 1 rfl) ?_
       refine lv_iconst (v := 4) hx hb dX12_goesBack_29 (of_decide_eq_true rfl) ?_
       refine lv_idiv hx hb dX12_goesBack_30 (of_decide_eq_true rfl) ?_
       refine lv_topi (fun x79 ex79 => ?_)
       have tx79 : x79.toInt = (((A3 / 4)) / 4) := jdiv ex79 tx76 jz_4 (by omega) (by omega)
       refine lv_istore (lv' := [(4, .int x79), (5, .int 1), (0, .ref (ad 55)), (1, .int a1), (2, .int 0), (3, .int a3)]) hx hb dX12_goesBack_31 hl (of_decide_eq_true rfl) rfl (fun ls hl => ?_)
       exact by
        refine lv_iinc (v := 0) (lv' := [(5, .int 0), (4, .int x79), (0, .ref (ad 55)), (1, .int a1), (2, .int 0), (3, .int a3)]) hx hb dX12_goesBack_33 hl (k := 1) rfl (of_decide_eq_true rfl) (of_decide_eq_true rfl) rfl (fun ls hl => ?_)
        refine lv_goto (tgt := 11) hx hb dX12_goesBack_36 (of_decide_eq_true rfl) ?_
        refine lv_iload hx hb dX12_goesBack_11 (lv_at hl 0 rfl) ?_
        refine lv_if_lt (tgt := 39) hx hb dX12_goesBack_13 (of_decide_eq_true rfl) (fun c => absurd c (of_decide_eq_true rfl)) (fun _ => ?_)
        refine lv_aload_n hx hb dX12_goesBack_16 rfl (lv_at hl 2 rfl) ?_
        refine va_get (D := D) hx hb hts inlX12 hown hK hP 55 (jc_55 cI cL ad σ78 τ) rfl 28 (of_decide_eq_true rfl) (hts _ kw_7_14) (fun _ h9 => h9) rfl dX12_goesBack_17 ?_
        refine lv_iload hx hb dX12_goesBack_20 (lv_at hl 0 rfl) ?_
        refine lv_iload hx hb dX12_goesBack_22 (lv_at hl 1 rfl) ?_
        refine lv_iconst (v := 4) hx hb dX12_goesBack_24 (of_decide_eq_true rfl) ?_
        refine lv_irem hx hb dX12_goesBack_25 (of_decide_eq_true rfl) ?_
        refine lv_topi (fun x80 ex80 => ?_)
        exact by
         have tx80 : x80.toInt = (((((A3 / 4)) / 4)) % 4) := jrem ex80 tx79 jz_4 (by omega)
         refine jast hx hb hK hP hJ hA hS (jc_68 cI cL ad σ78 τ) (ja_68 cI cL ad σ78 τ _ _) (jin jz_0 (by omega) (by omega)) dX12_goesBack_26 (fun σ81 H locs eσ81 hP hS => ?_)
         have eσ81 : σ81 = jup σ78 68 0 x80 := eσ81
         refine lv_iload hx hb dX12_goesBack_27 (lv_at hl 1 rfl) ?_
         refine lv_iconst (v := 4) hx hb dX12_goesBack_29 (of_decide_eq_true rfl) ?_
         refine lv_idiv hx hb dX12_goesBack_30 (of_decide_eq_true rfl) ?_
         refine lv_topi (fun x82 ex82 => ?_)
         have tx82 : x82.toInt = (((((A3 / 4)) / 4)) / 4) := jdiv ex82 tx79 jz_4 (by omega) (by omega)
         refine lv_istore (lv' := [(4, .int x82), (5, .int 0), (0, .ref (ad 55)), (1, .int a1), (2, .int 0), (3, .int a3)]) hx hb dX12_goesBack_31 hl (of_decide_eq_true rfl) rfl (fun ls hl => ?_)
         exact by
          refine lv_iinc (v := (-1)) (lv' := [(5, .int (-1)), (4, .int x82), (0, .ref (ad 55)), (1, .int a1), (2, .int 0), (3, .int a3)]) hx hb dX12_goesBack_33 hl (k := 1) rfl (of_decide_eq_true rfl) (of_decide_eq_true rfl) rfl (fun ls hl => ?_)
          refine lv_goto (tgt := 11) hx hb dX12_goesBack_36 (of_decide_eq_true rfl) ?_
          refine lv_iload hx hb dX12_goesBack_11 (lv_at hl 0 rfl) ?_
          refine lv_if_lt (tgt := 39) hx hb dX12_goesBack_13 (of_decide_eq_true rfl) (fun _ => ?_) (fun c => absurd (of_decide_eq_true rfl) c)
          refine lv_aload_n hx hb dX12_goesBack_39 rfl (lv_at hl 2 rfl) ?_
          refine lv_iload hx hb dX12_goesBack_40 (lv_at hl 1 rfl) ?_
          refine lv_iconst (v := 1) hx hb dX12_goesBack_42 (of_decide_eq_true rfl) ?_
          refine lv_isub hx hb dX12_goesBack_43 ?_
          refine lv_topi (fun x83 ex83 => ?_)
          exact by
           have tx83 : x83.toInt = (((((A3 / 4)) / 4)) / 4) - 1 := (jsub ex83 tx82 jz_1 (by omega) (by omega)).trans (by omega)
           refine jput (ty := .int) hx hb hts inlX12 tyX12 tyX12_ok nmX12 hown hK hP hJ hA hS (jc_55 cI cL ad σ81 τ) rfl (k := 27) (of_decide_eq_true rfl) (Nat.le_of_ble_eq_true rfl) (jp_55_27 cI cL ad σ81 τ x83) (hts _ kw_23_11) (fun _ h9 => h9) rfl (by decide +kernel) rfl rfl dX12_goesBack_44 (fun σ84 H locs eσ84 hP hS => ?_)
           refine lv_aload_n hx hb dX12_goesBack_47 rfl (lv_at hl 2 rfl) ?_
           refine va_get (D := D) hx hb hts inlX12 hown hK hP 55 (jc_55 cI cL ad σ84 τ) rfl 29 (of_decide_eq_true rfl) (hts _ kw_7_15) (fun _ h9 => h9) rfl dX12_goesBack_48 ?_
           refine lv_iload_n hx hb dX12_goesBack_51 rfl (lv_at hl 3 rfl) ?_
           refine lv_dup2_11 hx hb dX12_goesBack_52 rfl rfl ?_
           refine jald hx hb hK hP (jc_69 cI cL ad σ84 τ) (jin t1 (by omega) (by omega)) dX12_goesBack_53 ?_
           refine lv_topi (fun x85 ex85 => ?_)
           refine lv_iconst (v := 1) hx hb dX12_goesBack_54 (of_decide_eq_true rfl) ?_
           exact by
            have g86 := jrg (rfl : x85.toInt = x85.toInt)
            refine lv_isub hx hb dX12_goesBack_55 ?_
            refine lv_topi (fun x87 ex87 => ?_)
            have gx87 := jrg (rfl : x87.toInt = x87.toInt)
            refine jast hx hb hK hP hJ hA hS (jc_69 cI cL ad σ84 τ) (ja_69 cI cL ad σ84 τ _ _) (jin t1 (by omega) (by omega)) dX12_goesBack_56 (fun σ88 H locs eσ88 hP hS => ?_)
            refine lv_aload_n hx hb dX12_goesBack_57 rfl (lv_at hl 2 rfl) ?_
            refine lv_dup hx hb dX12_goesBack_58 rfl ?_
            refine va_get (D := D) hx hb hts inlX12 hown hK hP 55 (jc_55 cI cL ad σ88 τ) rfl 26 (of_decide_eq_true rfl) (hts _ kw_23_5) (fun _ h9 => h9) rfl dX12_goesBack_59 ?_
            have m89 : σ88 55 26 = (σ 55 26) := ((congrFun (jnp 55 eσ88 (of_decide_eq_true rfl)) 26).trans ((jkp 26 eσ84 (of_decide_eq_true rfl)).trans ((congrFun (jnp 55 eσ81 (of_decide_eq_true rfl)) 26).trans ((congrFun (jnp 55 eσ78 (of_decide_eq_true rfl)) 26).trans (congrFun (jnp 55 eσ75 (of_decide_eq_true rfl)) 26)))))
            exact by
             refine jtopr m89 ?_
             refine lv_iconst (v := 1) hx hb dX12_goesBack_62 (of_decide_eq_true rfl) ?_
             have g90 := jrg (rfl : (σ 55 26).toInt = (σ 55 26).toInt)
             refine lv_isub hx hb dX12_goesBack_63 ?_
             refine lv_topi (fun x91 ex91 => ?_)
             have tx91 : x91.toInt = (σ 55 26).toInt - 1 := (jsub ex91 rfl jz_1 (by omega) (by omega)).trans (by omega)
             refine jput (ty := .int) hx hb hts inlX12 tyX12 tyX12_ok nmX12 hown hK hP hJ hA hS (jc_55 cI cL ad σ88 τ) rfl (k := 26) (of_decide_eq_true rfl) (Nat.le_of_ble_eq_true rfl) (jp_55_26 cI cL ad σ88 τ x91) (hts _ kw_23_5) (fun _ h9 => h9) rfl (by decide +kernel) rfl rfl dX12_goesBack_64 (fun σ92 H locs eσ92 hP hS => ?_)
             refine lv_aload_n hx hb dX12_goesBack_67 rfl (lv_at hl 2 rfl) ?_
             refine lv_dup hx hb dX12_goesBack_68 rfl ?_
             exact by
              refine va_get (D := D) hx hb hts inlX12 hown hK hP 55 (jc_55 cI cL ad σ92 τ) rfl 25 (of_decide_eq_true rfl) (hts _ kw_23_6) (fun _ h9 => h9) rfl dX12_goesBack_69 ?_
              have m93 : σ92 55 25 = (σ 55 25) := ((jkp 25 eσ92 (of_decide_eq_true rfl)).trans ((congrFun (jnp 55 eσ88 (of_decide_eq_true rfl)) 25).trans ((jkp 25 eσ84 (of_decide_eq_true rfl)).trans ((congrFun (jnp 55 eσ81 (of_decide_eq_true rfl)) 25).trans ((congrFun (jnp 55 eσ78 (of_decide_eq_true rfl)) 25).trans (congrFun (jnp 55 eσ75 (of_decide_eq_true rfl)) 25))))))
              refine jtopr m93 ?_
              refine lv_iload_n hx hb dX12_goesBack_72 rfl (lv_at hl 4 rfl) ?_
              refine lv_if_eq (tgt := 80) hx hb dX12_goesBack_73 (of_decide_eq_true rfl) (fun _ => ?_) (fun c => absurd (of_decide_eq_true rfl) c)
              refine lv_iconst (v := 0) hx hb dX12_goesBack_80 (of_decide_eq_true rfl) ?_
              refine lv_isub hx hb dX12_goesBack_81 ?_
              refine jtopr (y := (σ 55 25)) (by rw [Int32.sub_zero]) ?_
              refine jput (ty := .int) hx hb hts inlX12 tyX12 tyX12_ok nmX12 hown hK hP hJ hA hS (jc_55 cI cL ad σ92 τ) rfl (k := 25) (of_decide_eq_true rfl) (Nat.le_of_ble_eq_true rfl) (jp_55_25 cI cL ad σ92 τ (σ 55 25)) (hts _ kw_23_6) (fun _ h9 => h9) rfl (by decide +kernel) rfl rfl dX12_goesBack_82 (fun σ94 H locs eσ94 hP hS => ?_)
              exact by
               have w95 : ∀ k : Nat, k < 4 → 0 ≤ (σ94 68 k).toInt ∧ (σ94 68 k).toInt ≤ 3 := (jrr_fr (jnp 68 eσ94 (of_decide_eq_true rfl)) (jrr_fr (jnp 68 eσ92 (of_decide_eq_true rfl)) (jrr_fr (jnp 68 eσ88 (of_decide_eq_true rfl)) (jrr_fr (jnp 68 eσ84 (of_decide_eq_true rfl)) (by rw [eσ81]; exact jrr_up (by rw [eσ78]; exact jrr_up (by rw [eσ75]; exact jrr_up hw68 (by have h9 := tx74; omega) (by have h9 := tx74; omega)) (by have h9 := tx77; omega) (by have h9 := tx77; omega)) (by have h9 := tx80; omega) (by have h9 := tx80; omega))))))
               have z96 : (σ94 55 25).toInt = (σ 55 25).toInt := (congrArg Int32.toInt (show σ94 55 25 = (σ 55 25) from (jsp eσ94)))
               have z97 : (σ94 55 26).toInt = (σ 55 26).toInt - 1 := ((congrArg Int32.toInt (show σ94 55 26 = x91 from ((jkp 26 eσ94 (of_decide_eq_true rfl)).trans (jsp eσ92)))).trans tx91)
               have z98 : (σ94 55 27).toInt = (((((A3 / 4)) / 4)) / 4) - 1 := ((congrArg Int32.toInt (show σ94 55 27 = x83 from ((jkp 27 eσ94 (of_decide_eq_true rfl)).trans ((jkp 27 eσ92 (of_decide_eq_true rfl)).trans ((congrFun (jnp 55 eσ88 (of_decide_eq_true rfl)) 27).trans (jsp eσ84)))))).trans tx83)
               have z99 : (σ94 68 0).toInt = (((((A3 / 4)) / 4)) % 4) := ((congrArg Int32.toInt (show σ94 68 0 = x80 from ((congrFun (jnp 68 eσ94 (of_decide_eq_true rfl)) 0).trans ((congrFun (jnp 68 eσ92 (of_decide_eq_true rfl)) 0).trans ((congrFun (jnp 68 eσ88 (of_decide_eq_true rfl)) 0).trans ((congrFun (jnp 68 eσ84 (of_decide_eq_true rfl)) 0).trans (jsp eσ81))))))).trans tx80)
               have z100 : (σ94 68 1).toInt = (((A3 / 4)) % 4) := ((congrArg Int32.toInt (show σ94 68 1 = x77 from ((congrFun (jnp 68 eσ94 (of_decide_eq_true rfl)) 1).trans ((congrFun (jnp 68 eσ92 (of_decide_eq_true rfl)) 1).trans ((congrFun (jnp 68 eσ88 (of_decide_eq_true rfl)) 1).trans ((congrFun (jnp 68 eσ84 (of_decide_eq_true rfl)) 1).trans ((jkp 1 eσ81 (of_decide_eq_true rfl)).trans (jsp eσ78)))))))).trans tx77)
               have z101 : (σ94 68 2).toInt = (A3 % 4) := ((congrArg Int32.toInt (show σ94 68 2 = x74 from ((congrFun (jnp 68 eσ94 (of_decide_eq_true rfl)) 2).trans ((congrFun (jnp 68 eσ92 (of_decide_eq_true rfl)) 2).trans ((congrFun (jnp 68 eσ88 (of_decide_eq_true rfl)) 2).trans ((congrFun (jnp 68 eσ84 (of_decide_eq_true rfl)) 2).trans ((jkp 2 eσ81 (of_decide_eq_true rfl)).trans ((jkp 2 eσ78 (of_decide_eq_true rfl)).trans (jsp eσ75))))))))).trans tx74)
               have z102 : (σ94 68 3).toInt = (σ 68 3).toInt := (congrArg Int32.toInt (show σ94 68 3 = (σ 68 3) from ((congrFun (jnp 68 eσ94 (of_decide_eq_true rfl)) 3).trans ((congrFun (jnp 68 eσ92 (of_decide_eq_true rfl)) 3).trans ((congrFun (jnp 68 eσ88 (of_decide_eq_true rfl)) 3).trans ((congrFun (jnp 68 eσ84 (of_decide_eq_true rfl)) 3).trans ((jkp 3 eσ81 (of_decide_eq_true rfl)).trans ((jkp 3 eσ78 (of_decide_eq_true rfl)).trans (jkp 3 eσ75 (of_decide_eq_true rfl))))))))))
               exact by exact hret σ94 τ _ _ _ _ ⟨rfl, (fun i hi => ((jnp i eσ94 (imp_189 i hi)).trans ((jnp i eσ92 (imp_189 i hi)).trans ((jnp i eσ88 (imp_197 i hi)).trans ((jnp i eσ84 (imp_189 i hi)).trans ((jnp i eσ81 (imp_198 i hi)).trans ((jnp i eσ78 (imp_198 i hi)).trans (jnp i eσ75 (imp_198 i hi))))))))), (fun i hi => ((jkp i eσ94 (imp_192 i hi)).trans ((jkp i eσ92 (imp_191 i hi)).trans ((congrFun (jnp 55 eσ88 (of_decide_eq_true rfl)) i).trans ((jkp i eσ84 (imp_190 i hi)).trans ((congrFun (jnp 55 eσ81 (of_decide_eq_true rfl)) i).trans ((congrFun (jnp 55 eσ78 (of_decide_eq_true rfl)) i).trans (congrFun (jnp 55 eσ75 (of_decide_eq_true rfl)) i)))))))), w95, (by rw [eσ94, jup_n (of_decide_eq_true rfl), eσ92, jup_n (of_decide_eq_true rfl), eσ88, jup_row, ex87, ex85, eσ84, jup_n (of_decide_eq_true rfl), eσ81, jup_n (of_decide_eq_true rfl), eσ78, jup_n (of_decide_eq_true rfl), eσ75, jup_n (of_decide_eq_true rfl)]), (fun k hk => by rw [eσ94, jup_n (of_decide_eq_true rfl), eσ92, jup_n (of_decide_eq_true rfl), eσ88, jup_n (of_decide_eq_true rfl), eσ84, jup_n (of_decide_eq_true rfl), eσ81, jup_k (by omega), eσ78, jup_k (by omega), eσ75, jup_k (by omega)]), (by omega), (by omega), (by omega), (by omega), trivial⟩ hP hS dX12_goesBack_85
  have kc73 := jne c73 (rfl : (σ 55 6).toInt = (σ 55 6).toInt) jz_3
  by_cases c103 : σ 55 6 = 4
  · have kc103 := jeq c103 (rfl : (σ 55 6).toInt = (σ 55 6).toInt) jz_4
    refine lv_iload_n hx hb dX12_goesBack_0 rfl (lv_at hl 3 rfl) ?_
    refine lv_istore (lv' := [(4, .int a3), (0, .ref (ad 55)), (1, .int a1), (2, .int 0), (3, .int a3)]) hx hb dX12_goesBack_1 hl (of_decide_eq_true rfl) rfl (fun ls hl => ?_)
    refine lv_aload_n hx hb dX12_goesBack_3 rfl (lv_at hl 1 rfl) ?_
    refine va_get (D := D) hx hb hts inlX12 hown hK hP 55 (jc_55 cI cL ad σ τ) rfl 6 (of_decide_eq_true rfl) (hts _ kw_9_13) (fun _ h9 => h9) rfl dX12_goesBack_4 ?_
    refine jtopr c103 ?_
    refine lv_iconst (v := 1) hx hb dX12_goesBack_7 (of_decide_eq_true rfl) ?_
    refine lv_isub hx hb dX12_goesBack_8 ?_
    refine jtopr (y := 3) (of_decide_eq_true rfl) ?_
    refine lv_istore (lv' := [(5, .int 3), (4, .int a3), (0, .ref (ad 55)), (1, .int a1), (2, .int 0), (3, .int a3)]) hx hb dX12_goesBack_9 hl (of_decide_eq_true rfl) rfl (fun ls hl => ?_)
    refine lv_iload hx hb dX12_goesBack_11 (lv_at hl 0 rfl) ?_
    refine lv_if_lt (tgt := 39) hx hb dX12_goesBack_13 (of_decide_eq_true rfl) (fun c => absurd c (of_decide_eq_true rfl)) (fun _ => ?_)
    refine lv_aload_n hx hb dX12_goesBack_16 rfl (lv_at hl 2 rfl) ?_
    refine va_get (D := D) hx hb hts inlX12 hown hK hP 55 (jc_55 cI cL ad σ τ) rfl 28 (of_decide_eq_true rfl) (hts _ kw_7_14) (fun _ h9 => h9) rfl dX12_goesBack_17 ?_
    refine lv_iload hx hb dX12_goesBack_20 (lv_at hl 0 rfl) ?_
    refine lv_iload hx hb dX12_goesBack_22 (lv_at hl 1 rfl) ?_
    refine lv_iconst (v := 4) hx hb dX12_goesBack_24 (of_decide_eq_true rfl) ?_
    refine lv_irem hx hb dX12_goesBack_25 (of_decide_eq_true rfl) ?_
    refine lv_topi (fun x104 ex104 => ?_)
    exact by
     have tx104 : x104.toInt = (A3 % 4) := jrem ex104 t3 jz_4 (by omega)
     refine jast hx hb hK hP hJ hA hS (jc_68 cI cL ad σ τ) (ja_68 cI cL ad σ τ _ _) (jin jz_3 (by omega) (by omega)) dX12_goesBack_26 (fun σ105 H locs eσ105 hP hS => ?_)
     have eσ105 : σ105 = jup σ 68 3 x104 := eσ105
     refine lv_iload hx hb dX12_goesBack_27 (lv_at hl 1 rfl) ?_
     refine lv_iconst (v := 4) hx hb dX12_goesBack_29 (of_decide_eq_true rfl) ?_
     refine lv_idiv hx hb dX12_goesBack_30 (of_decide_eq_true rfl) ?_
     refine lv_topi (fun x106 ex106 => ?_)
     have tx106 : x106.toInt = (A3 / 4) := jdiv ex106 t3 jz_4 (by omega) (by omega)
     refine lv_istore (lv' := [(4, .int x106), (5, .int 3), (0, .ref (ad 55)), (1, .int a1), (2, .int 0), (3, .int a3)]) hx hb dX12_goesBack_31 hl (of_decide_eq_true rfl) rfl (fun ls hl => ?_)
     exact by
      refine lv_iinc (v := 2) (lv' := [(5, .int 2), (4, .int x106), (0, .ref (ad 55)), (1, .int a1), (2, .int 0), (3, .int a3)]) hx hb dX12_goesBack_33 hl (k := 1) rfl (of_decide_eq_true rfl) (of_decide_eq_true rfl) rfl (fun ls hl => ?_)
      refine lv_goto (tgt := 11) hx hb dX12_goesBack_36 (of_decide_eq_true rfl) ?_
      refine lv_iload hx hb dX12_goesBack_11 (lv_at hl 0 rfl) ?_
      refine lv_if_lt (tgt := 39) hx hb dX12_goesBack_13 (of_decide_eq_true rfl) (fun c => absurd c (of_decide_eq_true rfl)) (fun _ => ?_)
      refine lv_aload_n hx hb dX12_goesBack_16 rfl (lv_at hl 2 rfl) ?_
      refine va_get (D := D) hx hb hts inlX12 hown hK hP 55 (jc_55 cI cL ad σ105 τ) rfl 28 (of_decide_eq_true rfl) (hts _ kw_7_14) (fun _ h9 => h9) rfl dX12_goesBack_17 ?_
      refine lv_iload hx hb dX12_goesBack_20 (lv_at hl 0 rfl) ?_
      refine lv_iload hx hb dX12_goesBack_22 (lv_at hl 1 rfl) ?_
      refine lv_iconst (v := 4) hx hb dX12_goesBack_24 (of_decide_eq_true rfl) ?_
      refine lv_irem hx hb dX12_goesBack_25 (of_decide_eq_true rfl) ?_
      refine lv_topi (fun x107 ex107 => ?_)
      exact by
       have tx107 : x107.toInt = (((A3 / 4)) % 4) := jrem ex107 tx106 jz_4 (by omega)
       refine jast hx hb hK hP hJ hA hS (jc_68 cI cL ad σ105 τ) (ja_68 cI cL ad σ105 τ _ _) (jin jz_2 (by omega) (by omega)) dX12_goesBack_26 (fun σ108 H locs eσ108 hP hS => ?_)
       have eσ108 : σ108 = jup σ105 68 2 x107 := eσ108
       refine lv_iload hx hb dX12_goesBack_27 (lv_at hl 1 rfl) ?_
       refine lv_iconst (v := 4) hx hb dX12_goesBack_29 (of_decide_eq_true rfl) ?_
       refine lv_idiv hx hb dX12_goesBack_30 (of_decide_eq_true rfl) ?_
       refine lv_topi (fun x109 ex109 => ?_)
       have tx109 : x109.toInt = (((A3 / 4)) / 4) := jdiv ex109 tx106 jz_4 (by omega) (by omega)
       refine lv_istore (lv' := [(4, .int x109), (5, .int 2), (0, .ref (ad 55)), (1, .int a1), (2, .int 0), (3, .int a3)]) hx hb dX12_goesBack_31 hl (of_decide_eq_true rfl) rfl (fun ls hl => ?_)
       exact by
        refine lv_iinc (v := 1) (lv' := [(5, .int 1), (4, .int x109), (0, .ref (ad 55)), (1, .int a1), (2, .int 0), (3, .int a3)]) hx hb dX12_goesBack_33 hl (k := 1) rfl (of_decide_eq_true rfl) (of_decide_eq_true rfl) rfl (fun ls hl => ?_)
        refine lv_goto (tgt := 11) hx hb dX12_goesBack_36 (of_decide_eq_true rfl) ?_
        refine lv_iload hx hb dX12_goesBack_11 (lv_at hl 0 rfl) ?_
        refine lv_if_lt (tgt := 39) hx hb dX12_goesBack_13 (of_decide_eq_true rfl) (fun c => absurd c (of_decide_eq_true rfl)) (fun _ => ?_)
        refine lv_aload_n hx hb dX12_goesBack_16 rfl (lv_at hl 2 rfl) ?_
        refine va_get (D := D) hx hb hts inlX12 hown hK hP 55 (jc_55 cI cL ad σ108 τ) rfl 28 (of_decide_eq_true rfl) (hts _ kw_7_14) (fun _ h9 => h9) rfl dX12_goesBack_17 ?_
        refine lv_iload hx hb dX12_goesBack_20 (lv_at hl 0 rfl) ?_
        refine lv_iload hx hb dX12_goesBack_22 (lv_at hl 1 rfl) ?_
        refine lv_iconst (v := 4) hx hb dX12_goesBack_24 (of_decide_eq_true rfl) ?_
        refine lv_irem hx hb dX12_goesBack_25 (of_decide_eq_true rfl) ?_
        refine lv_topi (fun x110 ex110 => ?_)
        exact by
         have tx110 : x110.toInt = (((((A3 / 4)) / 4)) % 4) := jrem ex110 tx109 jz_4 (by omega)
         refine jast hx hb hK hP hJ hA hS (jc_68 cI cL ad σ108 τ) (ja_68 cI cL ad σ108 τ _ _) (jin jz_1 (by omega) (by omega)) dX12_goesBack_26 (fun σ111 H locs eσ111 hP hS => ?_)
         have eσ111 : σ111 = jup σ108 68 1 x110 := eσ111
         refine lv_iload hx hb dX12_goesBack_27 (lv_at hl 1 rfl) ?_
         refine lv_iconst (v := 4) hx hb dX12_goesBack_29 (of_decide_eq_true rfl) ?_
         refine lv_idiv hx hb dX12_goesBack_30 (of_decide_eq_true rfl) ?_
         refine lv_topi (fun x112 ex112 => ?_)
         have tx112 : x112.toInt = (((((A3 / 4)) / 4)) / 4) := jdiv ex112 tx109 jz_4 (by omega) (by omega)
         refine lv_istore (lv' := [(4, .int x112), (5, .int 1), (0, .ref (ad 55)), (1, .int a1), (2, .int 0), (3, .int a3)]) hx hb dX12_goesBack_31 hl (of_decide_eq_true rfl) rfl (fun ls hl => ?_)
         exact by
          refine lv_iinc (v := 0) (lv' := [(5, .int 0), (4, .int x112), (0, .ref (ad 55)), (1, .int a1), (2, .int 0), (3, .int a3)]) hx hb dX12_goesBack_33 hl (k := 1) rfl (of_decide_eq_true rfl) (of_decide_eq_true rfl) rfl (fun ls hl => ?_)
          refine lv_goto (tgt := 11) hx hb dX12_goesBack_36 (of_decide_eq_true rfl) ?_
          refine lv_iload hx hb dX12_goesBack_11 (lv_at hl 0 rfl) ?_
          refine lv_if_lt (tgt := 39) hx hb dX12_goesBack_13 (of_decide_eq_true rfl) (fun c => absurd c (of_decide_eq_true rfl)) (fun _ => ?_)
          refine lv_aload_n hx hb dX12_goesBack_16 rfl (lv_at hl 2 rfl) ?_
          refine va_get (D := D) hx hb hts inlX12 hown hK hP 55 (jc_55 cI cL ad σ111 τ) rfl 28 (of_decide_eq_true rfl) (hts _ kw_7_14) (fun _ h9 => h9) rfl dX12_goesBack_17 ?_
          refine lv_iload hx hb dX12_goesBack_20 (lv_at hl 0 rfl) ?_
          refine lv_iload hx hb dX12_goesBack_22 (lv_at hl 1 rfl) ?_
          refine lv_iconst (v := 4) hx hb dX12_goesBack_24 (of_decide_eq_true rfl) ?_
          refine lv_irem hx hb dX12_goesBack_25 (of_decide_eq_true rfl) ?_
          refine lv_topi (fun x113 ex113 => ?_)
          exact by
           have tx113 : x113.toInt = (((((((A3 / 4)) / 4)) / 4)) % 4) := jrem ex113 tx112 jz_4 (by omega)
           refine jast hx hb hK hP hJ hA hS (jc_68 cI cL ad σ111 τ) (ja_68 cI cL ad σ111 τ _ _) (jin jz_0 (by omega) (by omega)) dX12_goesBack_26 (fun σ114 H locs eσ114 hP hS => ?_)
           have eσ114 : σ114 = jup σ111 68 0 x113 := eσ114
           refine lv_iload hx hb dX12_goesBack_27 (lv_at hl 1 rfl) ?_
           refine lv_iconst (v := 4) hx hb dX12_goesBack_29 (of_decide_eq_true rfl) ?_
           refine lv_idiv hx hb dX12_goesBack_30 (of_decide_eq_true rfl) ?_
           refine lv_topi (fun x115 ex115 => ?_)
           have tx115 : x115.toInt = (((((((A3 / 4)) / 4)) / 4)) / 4) := jdiv ex115 tx112 jz_4 (by omega) (by omega)
           refine lv_istore (lv' := [(4, .int x115), (5, .int 0), (0, .ref (ad 55)), (1, .int a1), (2, .int 0), (3, .int a3)]) hx hb dX12_goesBack_31 hl (of_decide_eq_true rfl) rfl (fun ls hl => ?_)
           exact by
            refine lv_iinc (v := (-1)) (lv' := [(5, .int (-1)), (4, .int x115), (0, .ref (ad 55)), (1, .int a1), (2, .int 0), (3, .int a3)]) hx hb dX12_goesBack_33 hl (k := 1) rfl (of_decide_eq_true rfl) (of_decide_eq_true rfl) rfl (fun ls hl => ?_)
            refine lv_goto (tgt := 11) hx hb dX12_goesBack_36 (of_decide_eq_true rfl) ?_
            refine lv_iload hx hb dX12_goesBack_11 (lv_at hl 0 rfl) ?_
            refine lv_if_lt (tgt := 39) hx hb dX12_goesBack_13 (of_decide_eq_true rfl) (fun _ => ?_) (fun c => absurd (of_decide_eq_true rfl) c)
            refine lv_aload_n hx hb dX12_goesBack_39 rfl (lv_at hl 2 rfl) ?_
            refine lv_iload hx hb dX12_goesBack_40 (lv_at hl 1 rfl) ?_
            refine lv_iconst (v := 1) hx hb dX12_goesBack_42 (of_decide_eq_true rfl) ?_
            refine lv_isub hx hb dX12_goesBack_43 ?_
            refine lv_topi (fun x116 ex116 => ?_)
            exact by
             have tx116 : x116.toInt = (((((((A3 / 4)) / 4)) / 4)) / 4) - 1 := (jsub ex116 tx115 jz_1 (by omega) (by omega)).trans (by omega)
             refine jput (ty := .int) hx hb hts inlX12 tyX12 tyX12_ok nmX12 hown hK hP hJ hA hS (jc_55 cI cL ad σ114 τ) rfl (k := 27) (of_decide_eq_true rfl) (Nat.le_of_ble_eq_true rfl) (jp_55_27 cI cL ad σ114 τ x116) (hts _ kw_23_11) (fun _ h9 => h9) rfl (by decide +kernel) rfl rfl dX12_goesBack_44 (fun σ117 H locs eσ117 hP hS => ?_)
             refine lv_aload_n hx hb dX12_goesBack_47 rfl (lv_at hl 2 rfl) ?_
             refine va_get (D := D) hx hb hts inlX12 hown hK hP 55 (jc_55 cI cL ad σ117 τ) rfl 29 (of_decide_eq_true rfl) (hts _ kw_7_15) (fun _ h9 => h9) rfl dX12_goesBack_48 ?_
             refine lv_iload_n hx hb dX12_goesBack_51 rfl (lv_at hl 3 rfl) ?_
             refine lv_dup2_11 hx hb dX12_goesBack_52 rfl rfl ?_
             refine jald hx hb hK hP (jc_69 cI cL ad σ117 τ) (jin t1 (by omega) (by omega)) dX12_goesBack_53 ?_
             refine lv_topi (fun x118 ex118 => ?_)
             refine lv_iconst (v := 1) hx hb dX12_goesBack_54 (of_decide_eq_true rfl) ?_
             exact by
              have g119 := jrg (rfl : x118.toInt = x118.toInt)
              refine lv_isub hx hb dX12_goesBack_55 ?_
              refine lv_topi (fun x120 ex120 => ?_)
              have gx120 := jrg (rfl : x120.toInt = x120.toInt)
              refine jast hx hb hK hP hJ hA hS (jc_69 cI cL ad σ117 τ) (ja_69 cI cL ad σ117 τ _ _) (jin t1 (by omega) (by omega)) dX12_goesBack_56 (fun σ121 H locs eσ121 hP hS => ?_)
              refine lv_aload_n hx hb dX12_goesBack_57 rfl (lv_at hl 2 rfl) ?_
              refine lv_dup hx hb dX12_goesBack_58 rfl ?_
              refine va_get (D := D) hx hb hts inlX12 hown hK hP 55 (jc_55 cI cL ad σ121 τ) rfl 26 (of_decide_eq_true rfl) (hts _ kw_23_5) (fun _ h9 => h9) rfl dX12_goesBack_59 ?_
              have m122 : σ121 55 26 = (σ 55 26) := ((congrFun (jnp 55 eσ121 (of_decide_eq_true rfl)) 26).trans ((jkp 26 eσ117 (of_decide_eq_true rfl)).trans ((congrFun (jnp 55 eσ114 (of_decide_eq_true rfl)) 26).trans ((congrFun (jnp 55 eσ111 (of_decide_eq_true rfl)) 26).trans ((congrFun (jnp 55 eσ108 (of_decide_eq_true rfl)) 26).trans (congrFun (jnp 55 eσ105 (of_decide_eq_true rfl)) 26))))))
              exact by
               refine jtopr m122 ?_
               refine lv_iconst (v := 1) hx hb dX12_goesBack_62 (of_decide_eq_true rfl) ?_
               have g123 := jrg (rfl : (σ 55 26).toInt = (σ 55 26).toInt)
               refine lv_isub hx hb dX12_goesBack_63 ?_
               refine lv_topi (fun x124 ex124 => ?_)
               have tx124 : x124.toInt = (σ 55 26).toInt - 1 := (jsub ex124 rfl jz_1 (by omega) (by omega)).trans (by omega)
               refine jput (ty := .int) hx hb hts inlX12 tyX12 tyX12_ok nmX12 hown hK hP hJ hA hS (jc_55 cI cL ad σ121 τ) rfl (k := 26) (of_decide_eq_true rfl) (Nat.le_of_ble_eq_true rfl) (jp_55_26 cI cL ad σ121 τ x124) (hts _ kw_23_5) (fun _ h9 => h9) rfl (by decide +kernel) rfl rfl dX12_goesBack_64 (fun σ125 H locs eσ125 hP hS => ?_)
               refine lv_aload_n hx hb dX12_goesBack_67 rfl (lv_at hl 2 rfl) ?_
               refine lv_dup hx hb dX12_goesBack_68 rfl ?_
               exact by
                refine va_get (D := D) hx hb hts inlX12 hown hK hP 55 (jc_55 cI cL ad σ125 τ) rfl 25 (of_decide_eq_true rfl) (hts _ kw_23_6) (fun _ h9 => h9) rfl dX12_goesBack_69 ?_
                have m126 : σ125 55 25 = (σ 55 25) := ((jkp 25 eσ125 (of_decide_eq_true rfl)).trans ((congrFun (jnp 55 eσ121 (of_decide_eq_true rfl)) 25).trans ((jkp 25 eσ117 (of_decide_eq_true rfl)).trans ((congrFun (jnp 55 eσ114 (of_decide_eq_true rfl)) 25).trans ((congrFun (jnp 55 eσ111 (of_decide_eq_true rfl)) 25).trans ((congrFun (jnp 55 eσ108 (of_decide_eq_true rfl)) 25).trans (congrFun (jnp 55 eσ105 (of_decide_eq_true rfl)) 25)))))))
                refine jtopr m126 ?_
                refine lv_iload_n hx hb dX12_goesBack_72 rfl (lv_at hl 4 rfl) ?_
                refine lv_if_eq (tgt := 80) hx hb dX12_goesBack_73 (of_decide_eq_true rfl) (fun _ => ?_) (fun c => absurd (of_decide_eq_true rfl) c)
                refine lv_iconst (v := 0) hx hb dX12_goesBack_80 (of_decide_eq_true rfl) ?_
                refine lv_isub hx hb dX12_goesBack_81 ?_
                refine jtopr (y := (σ 55 25)) (by rw [Int32.sub_zero]) ?_
                refine jput (ty := .int) hx hb hts inlX12 tyX12 tyX12_ok nmX12 hown hK hP hJ hA hS (jc_55 cI cL ad σ125 τ) rfl (k := 25) (of_decide_eq_true rfl) (Nat.le_of_ble_eq_true rfl) (jp_55_25 cI cL ad σ125 τ (σ 55 25)) (hts _ kw_23_6) (fun _ h9 => h9) rfl (by decide +kernel) rfl rfl dX12_goesBack_82 (fun σ127 H locs eσ127 hP hS => ?_)
                exact by
                 have w128 : ∀ k : Nat, k < 4 → 0 ≤ (σ127 68 k).toInt ∧ (σ127 68 k).toInt ≤ 3 := (jrr_fr (jnp 68 eσ127 (of_decide_eq_true rfl)) (jrr_fr (jnp 68 eσ125 (of_decide_eq_true rfl)) (jrr_fr (jnp 68 eσ121 (of_decide_eq_true rfl)) (jrr_fr (jnp 68 eσ117 (of_decide_eq_true rfl)) (by rw [eσ114]; exact jrr_up (by rw [eσ111]; exact jrr_up (by rw [eσ108]; exact jrr_up (by rw [eσ105]; exact jrr_up hw68 (by have h9 := tx104; omega) (by have h9 := tx104; omega)) (by have h9 := tx107; omega) (by have h9 := tx107; omega)) (by have h9 := tx110; omega) (by have h9 := tx110; omega)) (by have h9 := tx113; omega) (by have h9 := tx113; omega))))))
                 have z129 : (σ127 55 25).toInt = (σ 55 25).toInt := (congrArg Int32.toInt (show σ127 55 25 = (σ 55 25) from (jsp eσ127)))
                 have z130 : (σ127 55 26).toInt = (σ 55 26).toInt - 1 := ((congrArg Int32.toInt (show σ127 55 26 = x124 from ((jkp 26 eσ127 (of_decide_eq_true rfl)).trans (jsp eσ125)))).trans tx124)
                 have z131 : (σ127 55 27).toInt = (((((((A3 / 4)) / 4)) / 4)) / 4) - 1 := ((congrArg Int32.toInt (show σ127 55 27 = x116 from ((jkp 27 eσ127 (of_decide_eq_true rfl)).trans ((jkp 27 eσ125 (of_decide_eq_true rfl)).trans ((congrFun (jnp 55 eσ121 (of_decide_eq_true rfl)) 27).trans (jsp eσ117)))))).trans tx116)
                 have z132 : (σ127 68 0).toInt = (((((((A3 / 4)) / 4)) / 4)) % 4) := ((congrArg Int32.toInt (show σ127 68 0 = x113 from ((congrFun (jnp 68 eσ127 (of_decide_eq_true rfl)) 0).trans ((congrFun (jnp 68 eσ125 (of_decide_eq_true rfl)) 0).trans ((congrFun (jnp 68 eσ121 (of_decide_eq_true rfl)) 0).trans ((congrFun (jnp 68 eσ117 (of_decide_eq_true rfl)) 0).trans (jsp eσ114))))))).trans tx113)
                 have z133 : (σ127 68 1).toInt = (((((A3 / 4)) / 4)) % 4) := ((congrArg Int32.toInt (show σ127 68 1 = x110 from ((congrFun (jnp 68 eσ127 (of_decide_eq_true rfl)) 1).trans ((congrFun (jnp 68 eσ125 (of_decide_eq_true rfl)) 1).trans ((congrFun (jnp 68 eσ121 (of_decide_eq_true rfl)) 1).trans ((congrFun (jnp 68 eσ117 (of_decide_eq_true rfl)) 1).trans ((jkp 1 eσ114 (of_decide_eq_true rfl)).trans (jsp eσ111)))))))).trans tx110)
                 have z134 : (σ127 68 2).toInt = (((A3 / 4)) % 4) := ((congrArg Int32.toInt (show σ127 68 2 = x107 from ((congrFun (jnp 68 eσ127 (of_decide_eq_true rfl)) 2).trans ((congrFun (jnp 68 eσ125 (of_decide_eq_true rfl)) 2).trans ((congrFun (jnp 68 eσ121 (of_decide_eq_true rfl)) 2).trans ((congrFun (jnp 68 eσ117 (of_decide_eq_true rfl)) 2).trans ((jkp 2 eσ114 (of_decide_eq_true rfl)).trans ((jkp 2 eσ111 (of_decide_eq_true rfl)).trans (jsp eσ108))))))))).trans tx107)
                 have z135 : (σ127 68 3).toInt = (A3 % 4) := ((congrArg Int32.toInt (show σ127 68 3 = x104 from ((congrFun (jnp 68 eσ127 (of_decide_eq_true rfl)) 3).trans ((congrFun (jnp 68 eσ125 (of_decide_eq_true rfl)) 3).trans ((congrFun (jnp 68 eσ121 (of_decide_eq_true rfl)) 3).trans ((congrFun (jnp 68 eσ117 (of_decide_eq_true rfl)) 3).trans ((jkp 3 eσ114 (of_decide_eq_true rfl)).trans ((jkp 3 eσ111 (of_decide_eq_true rfl)).trans ((jkp 3 eσ108 (of_decide_eq_true rfl)).trans (jsp eσ105)))))))))).trans tx104)
                 exact by exact hret σ127 τ _ _ _ _ ⟨rfl, (fun i hi => ((jnp i eσ127 (imp_189 i hi)).trans ((jnp i eσ125 (imp_189 i hi)).trans ((jnp i eσ121 (imp_197 i hi)).trans ((jnp i eσ117 (imp_189 i hi)).trans ((jnp i eσ114 (imp_198 i hi)).trans ((jnp i eσ111 (imp_198 i hi)).trans ((jnp i eσ108 (imp_198 i hi)).trans (jnp i eσ105 (imp_198 i hi)))))))))), (fun i hi => ((jkp i eσ127 (imp_192 i hi)).trans ((jkp i eσ125 (imp_191 i hi)).trans ((congrFun (jnp 55 eσ121 (of_decide_eq_true rfl)) i).trans ((jkp i eσ117 (imp_190 i hi)).trans ((congrFun (jnp 55 eσ114 (of_decide_eq_true rfl)) i).trans ((congrFun (jnp 55 eσ111 (of_decide_eq_true rfl)) i).trans ((congrFun (jnp 55 eσ108 (of_decide_eq_true rfl)) i).trans (congrFun (jnp 55 eσ105 (of_decide_eq_true rfl)) i))))))))), w128, (by rw [eσ127, jup_n (of_decide_eq_true rfl), eσ125, jup_n (of_decide_eq_true rfl), eσ121, jup_row, ex120, ex118, eσ117, jup_n (of_decide_eq_true rfl), eσ114, jup_n (of_decide_eq_true rfl), eσ111, jup_n (of_decide_eq_true rfl), eσ108, jup_n (of_decide_eq_true rfl), eσ105, jup_n (of_decide_eq_true rfl)]), (fun k hk => by rw [eσ127, jup_n (of_decide_eq_true rfl), eσ125, jup_n (of_decide_eq_true rfl), eσ121, jup_n (of_decide_eq_true rfl), eσ117, jup_n (of_decide_eq_true rfl), eσ114, jup_k (by omega), eσ111, jup_k (by omega), eσ108, jup_k (by omega), eσ105, jup_k (by omega)]), (by omega), (by omega), (by omega), (by omega), trivial⟩ hP hS dX12_goesBack_85
  have kc103 := jne c103 (rfl : (σ 55 6).toInt = (σ 55 6).toInt) jz_4
  exact absurd (by omega : False) id
set_option maxHeartbeats 4000000 in
set_option maxRecDepth 100000 in
theorem c_X12_goes_1 (l : Launch) (D : va_G) (cI cL : ClassId) (ad zz : Nat → Nat) (hJ : jD ad) (σ : Nat → Nat → Int32) (τ : Nat → Nat → Int64) (a1 : Int32) (A1 : Int) (t1 : a1.toInt = A1) (hw68 : ∀ k : Nat, k < 4 → 0 ≤ (σ 68 k).toInt ∧ (σ 68 k).toInt ≤ 3) (hp0 : 0 ≤ A1 ∧ A1 ≤ 3) (hp1 : 0 ≤ (σ 55 6).toInt ∧ (σ 55 6).toInt ≤ 4) (hp2 : (-1) ≤ (σ 55 27).toInt ∧ (σ 55 27).toInt ≤ 3) (hp3 : 0 ≤ (σ 55 25).toInt ∧ (σ 55 25).toInt ≤ 12) (hp4 : 0 ≤ (σ 55 26).toInt ∧ (σ 55 26).toInt ≤ 12) : jM l yX12_goes cX12_goes 5 (some .int) ({ frames := 0, cells := 0, slots := 0, locals := 0 }) D cI cL ad zz [.ref (ad 55), .int a1, .int 1] σ τ (fun r σ' τ' => τ = τ' ∧ (∀ i : Nat, (i < 55 ∨ 55 < i) ∧ (i < 68 ∨ 69 < i) → σ' i = σ i) ∧ (∀ k : Nat, (k < 25 ∨ 25 < k) ∧ (k < 26 ∨ 26 < k) ∧ (k < 27 ∨ 27 < k) → σ' 55 k = σ 55 k) ∧ (∀ k : Nat, k < 4 → 0 ≤ (σ' 68 k).toInt ∧ (σ' 68 k).toInt ≤ 3) ∧ (σ' 69 = jupd (σ 69) a1.toNatClampNeg (σ 69 a1.toNatClampNeg + 1)) ∧ (∀ k : Nat, (σ 55 6).toInt ≤ k → σ' 68 k = σ 68 k) ∧ ((∀ c : Nat, (c : Int) < (σ 55 6).toInt → jrS σ' c = jSn (jrS σ) (A1).toNat c)) ∧ ((σ' 55 25).toInt = (σ 55 25).toInt + 1) ∧ ((σ' 55 26).toInt = (σ 55 26).toInt + 1) ∧ ((σ' 55 27).toInt = A1) ∧ ((True ∧ (((σ 55 6).toInt = 0 ∧ r.toInt = (σ 55 27).toInt + 1) ∨ ((σ 55 6).toInt = 1 ∧ r.toInt = 4 * (σ 55 27).toInt + (σ 68 0).toInt + 4) ∨ ((σ 55 6).toInt = 2 ∧ r.toInt = 16 * (σ 55 27).toInt + 4 * (σ 68 0).toInt + (σ 68 1).toInt + 16) ∨ ((σ 55 6).toInt = 3 ∧ r.toInt = 64 * (σ 55 27).toInt + 16 * (σ 68 0).toInt + 4 * (σ 68 1).toInt + (σ 68 2).toInt + 64) ∨ ((σ 55 6).toInt = 4 ∧ r.toInt = 256 * (σ 55 27).toInt + 64 * (σ 68 0).toInt + 16 * (σ 68 1).toInt + 4 * (σ 68 2).toInt + (σ 68 3).toInt + 256)) ∧ (0 ≤ (σ 68 0).toInt ∧ (σ 68 0).toInt ≤ 3) ∧ (0 ≤ (σ 68 1).toInt ∧ (σ 68 1).toInt ≤ 3) ∧ (0 ≤ (σ 68 2).toInt ∧ (σ 68 2).toInt ≤ 3) ∧ (0 ≤ (σ 68 3).toInt ∧ (σ 68 3).toInt ≤ 3)))) := by
  refine jM.of hJ (by decide +kernel) (nt := .int) rfl (Nat.le_of_ble_eq_true rfl) ?_
  intro p e s m args below meth c Q ls hC hret hl hP
  obtain ⟨hx, hb, hr, hml, hown, hts, hK, -, hlocks, hZ⟩ := hC
  have hown : s.vm.findClass RX12 = some m.cls := hown
  have hS : va_S (jA ad) s.heap s.heap [] := va_S.rf
  have hA : ∀ q, jA ad q → jA ad q := fun _ h => h
  have hl : lv_has ls 5 [(0, .ref (ad 55)), (1, .int a1), (2, .int 1)] := hl
  have g1 := jrg t1
  have s0 := hw68 0 (of_decide_eq_true rfl)
  have s1 := hw68 1 (of_decide_eq_true rfl)
  have s2 := hw68 2 (of_decide_eq_true rfl)
  have s3 := hw68 3 (of_decide_eq_true rfl)
  by_cases c1 : σ 55 6 = 0
  · have kc1 := jeq c1 (rfl : (σ 55 6).toInt = (σ 55 6).toInt) jz_0
    refine lv_aload_n hx hb dX12_goes_0 rfl (lv_at hl 0 rfl) ?_
    refine va_get (D := D) hx hb hts inlX12 hown hK hP 55 (jc_55 cI cL ad σ τ) rfl 27 (of_decide_eq_true rfl) (hts _ kw_23_11) (fun _ h9 => h9) rfl dX12_goes_1 ?_
    refine lv_iconst (v := 1) hx hb dX12_goes_4 (of_decide_eq_true rfl) ?_
    have g2 := jrg (rfl : (σ 55 27).toInt = (σ 55 27).toInt)
    refine lv_iadd hx hb dX12_goes_5 ?_
    refine lv_topi (fun x3 ex3 => ?_)
    exact by
     have tx3 : x3.toInt = (σ 55 27).toInt + 1 := (jadd ex3 rfl jz_1 (by omega) (by omega)).trans (by omega)
     refine lv_istore_n (lv' := [(3, .int x3), (0, .ref (ad 55)), (1, .int a1), (2, .int 1)]) hx hb dX12_goes_6 rfl hl (of_decide_eq_true rfl) rfl (fun ls hl => ?_)
     refine lv_iconst (v := 0) hx hb dX12_goes_7 (of_decide_eq_true rfl) ?_
     refine lv_istore (lv' := [(4, .int 0), (3, .int x3), (0, .ref (ad 55)), (1, .int a1), (2, .int 1)]) hx hb dX12_goes_8 hl (of_decide_eq_true rfl) rfl (fun ls hl => ?_)
     refine lv_iload hx hb dX12_goes_10 (lv_at hl 0 rfl) ?_
     refine lv_aload_n hx hb dX12_goes_12 rfl (lv_at hl 2 rfl) ?_
     refine va_get (D := D) hx hb hts inlX12 hown hK hP 55 (jc_55 cI cL ad σ τ) rfl 6 (of_decide_eq_true rfl) (hts _ kw_9_13) (fun _ h9 => h9) rfl dX12_goes_13 ?_
     refine jtopr c1 ?_
     refine lv_icmp_ge (tgt := 100) hx hb dX12_goes_16 (of_decide_eq_true rfl) (fun _ => ?_) (fun c => absurd (of_decide_eq_true rfl) c)
     refine lv_aload_n hx hb dX12_goes_100 rfl (lv_at hl 2 rfl) ?_
     refine va_get (D := D) hx hb hts inlX12 hown hK hP 55 (jc_55 cI cL ad σ τ) rfl 29 (of_decide_eq_true rfl) (hts _ kw_7_15) (fun _ h9 => h9) rfl dX12_goes_101 ?_
     refine lv_iload_n hx hb dX12_goes_104 rfl (lv_at hl 3 rfl) ?_
     refine lv_dup2_11 hx hb dX12_goes_105 rfl rfl ?_
     exact by
      refine jald hx hb hK hP (jc_69 cI cL ad σ τ) (jin t1 (by omega) (by omega)) dX12_goes_106 ?_
      refine lv_topi (fun x4 ex4 => ?_)
      refine lv_iconst (v := 1) hx hb dX12_goes_107 (of_decide_eq_true rfl) ?_
      have g5 := jrg (rfl : x4.toInt = x4.toInt)
      refine lv_iadd hx hb dX12_goes_108 ?_
      refine lv_topi (fun x6 ex6 => ?_)
      have gx6 := jrg (rfl : x6.toInt = x6.toInt)
      refine jast hx hb hK hP hJ hA hS (jc_69 cI cL ad σ τ) (ja_69 cI cL ad σ τ _ _) (jin t1 (by omega) (by omega)) dX12_goes_109 (fun σ7 H locs eσ7 hP hS => ?_)
      refine lv_aload_n hx hb dX12_goes_110 rfl (lv_at hl 2 rfl) ?_
      exact by
       refine lv_iload_n hx hb dX12_goes_111 rfl (lv_at hl 3 rfl) ?_
       refine jput (ty := .int) hx hb hts inlX12 tyX12 tyX12_ok nmX12 hown hK hP hJ hA hS (jc_55 cI cL ad σ7 τ) rfl (k := 27) (of_decide_eq_true rfl) (Nat.le_of_ble_eq_true rfl) (jp_55_27 cI cL ad σ7 τ a1) (hts _ kw_23_11) (fun _ h9 => h9) rfl (by decide +kernel) rfl rfl dX12_goes_112 (fun σ8 H locs eσ8 hP hS => ?_)
       refine lv_aload_n hx hb dX12_goes_115 rfl (lv_at hl 2 rfl) ?_
       refine lv_dup hx hb dX12_goes_116 rfl ?_
       refine va_get (D := D) hx hb hts inlX12 hown hK hP 55 (jc_55 cI cL ad σ8 τ) rfl 26 (of_decide_eq_true rfl) (hts _ kw_23_5) (fun _ h9 => h9) rfl dX12_goes_117 ?_
       have m9 : σ8 55 26 = (σ 55 26) := ((jkp 26 eσ8 (of_decide_eq_true rfl)).trans (congrFun (jnp 55 eσ7 (of_decide_eq_true rfl)) 26))
       refine jtopr m9 ?_
       refine lv_iconst (v := 1) hx hb dX12_goes_120 (of_decide_eq_true rfl) ?_
       have g10 := jrg (rfl : (σ 55 26).toInt = (σ 55 26).toInt)
       refine lv_iadd hx hb dX12_goes_121 ?_
       refine lv_topi (fun x11 ex11 => ?_)
       exact by
        have tx11 : x11.toInt = (σ 55 26).toInt + 1 := (jadd ex11 rfl jz_1 (by omega) (by omega)).trans (by omega)
        refine jput (ty := .int) hx hb hts inlX12 tyX12 tyX12_ok nmX12 hown hK hP hJ hA hS (jc_55 cI cL ad σ8 τ) rfl (k := 26) (of_decide_eq_true rfl) (Nat.le_of_ble_eq_true rfl) (jp_55_26 cI cL ad σ8 τ x11) (hts _ kw_23_5) (fun _ h9 => h9) rfl (by decide +kernel) rfl rfl dX12_goes_122 (fun σ12 H locs eσ12 hP hS => ?_)
        refine lv_aload_n hx hb dX12_goes_125 rfl (lv_at hl 2 rfl) ?_
        refine lv_dup hx hb dX12_goes_126 rfl ?_
        refine va_get (D := D) hx hb hts inlX12 hown hK hP 55 (jc_55 cI cL ad σ12 τ) rfl 25 (of_decide_eq_true rfl) (hts _ kw_23_6) (fun _ h9 => h9) rfl dX12_goes_127 ?_
        have m13 : σ12 55 25 = (σ 55 25) := ((jkp 25 eσ12 (of_decide_eq_true rfl)).trans ((jkp 25 eσ8 (of_decide_eq_true rfl)).trans (congrFun (jnp 55 eσ7 (of_decide_eq_true rfl)) 25)))
        refine jtopr m13 ?_
        refine lv_iload_n hx hb dX12_goes_130 rfl (lv_at hl 4 rfl) ?_
        refine lv_if_eq (tgt := 138) hx hb dX12_goes_131 (of_decide_eq_true rfl) (fun c => absurd c (of_decide_eq_true rfl)) (fun _ => ?_)
        refine lv_iconst (v := 1) hx hb dX12_goes_134 (of_decide_eq_true rfl) ?_
        refine lv_goto (tgt := 139) hx hb dX12_goes_135 (of_decide_eq_true rfl) ?_
        have g14 := jrg (rfl : (σ 55 25).toInt = (σ 55 25).toInt)
        refine lv_iadd hx hb dX12_goes_139 ?_
        refine lv_topi (fun x15 ex15 => ?_)
        exact by
         have tx15 : x15.toInt = (σ 55 25).toInt + 1 := (jadd ex15 rfl jz_1 (by omega) (by omega)).trans (by omega)
         refine jput (ty := .int) hx hb hts inlX12 tyX12 tyX12_ok nmX12 hown hK hP hJ hA hS (jc_55 cI cL ad σ12 τ) rfl (k := 25) (of_decide_eq_true rfl) (Nat.le_of_ble_eq_true rfl) (jp_55_25 cI cL ad σ12 τ x15) (hts _ kw_23_6) (fun _ h9 => h9) rfl (by decide +kernel) rfl rfl dX12_goes_140 (fun σ16 H locs eσ16 hP hS => ?_)
         refine lv_iload_n hx hb dX12_goes_143 rfl (lv_at hl 1 rfl) ?_
         have w17 : ∀ k : Nat, k < 4 → 0 ≤ (σ16 68 k).toInt ∧ (σ16 68 k).toInt ≤ 3 := (jrr_fr (jnp 68 eσ16 (of_decide_eq_true rfl)) (jrr_fr (jnp 68 eσ12 (of_decide_eq_true rfl)) (jrr_fr (jnp 68 eσ8 (of_decide_eq_true rfl)) (jrr_fr (jnp 68 eσ7 (of_decide_eq_true rfl)) hw68))))
         have z18 : (σ16 55 25).toInt = (σ 55 25).toInt + 1 := ((congrArg Int32.toInt (show σ16 55 25 = x15 from (jsp eσ16))).trans tx15)
         have z19 : (σ16 55 26).toInt = (σ 55 26).toInt + 1 := ((congrArg Int32.toInt (show σ16 55 26 = x11 from ((jkp 26 eσ16 (of_decide_eq_true rfl)).trans (jsp eσ12)))).trans tx11)
         have z20 : (σ16 55 27).toInt = A1 := ((congrArg Int32.toInt (show σ16 55 27 = a1 from ((jkp 27 eσ16 (of_decide_eq_true rfl)).trans ((jkp 27 eσ12 (of_decide_eq_true rfl)).trans (jsp eσ8))))).trans t1)
         exact by exact hret x3 σ16 τ _ _ _ _ rfl ⟨rfl, (fun i hi => ((jnp i eσ16 (imp_189 i hi)).trans ((jnp i eσ12 (imp_189 i hi)).trans ((jnp i eσ8 (imp_189 i hi)).trans (jnp i eσ7 (imp_197 i hi)))))), (fun i hi => ((jkp i eσ16 (imp_192 i hi)).trans ((jkp i eσ12 (imp_191 i hi)).trans ((jkp i eσ8 (imp_190 i hi)).trans (congrFun (jnp 55 eσ7 (of_decide_eq_true rfl)) i))))), w17, (by rw [eσ16, jup_n (of_decide_eq_true rfl), eσ12, jup_n (of_decide_eq_true rfl), eσ8, jup_n (of_decide_eq_true rfl), eσ7, jup_row, ex6, ex4]), (fun k hk => by rw [eσ16, jup_n (of_decide_eq_true rfl), eσ12, jup_n (of_decide_eq_true rfl), eσ8, jup_n (of_decide_eq_true rfl), eσ7, jup_n (of_decide_eq_true rfl)]), (fun c hc => absurd hc (by omega)), (by omega), (by omega), (by omega), ⟨trivial, (by have h9 := tx3; omega), (by have h9 := tx3; omega), (by have h9 := tx3; omega), (by have h9 := tx3; omega), (by have h9 := tx3; omega)⟩⟩ hP hS dX12_goes_144
  have kc1 := jne c1 (rfl : (σ 55 6).toInt = (σ 55 6).toInt) jz_0
  by_cases c21 : σ 55 6 = 1
  · have kc21 := jeq c21 (rfl : (σ 55 6).toInt = (σ 55 6).toInt) jz_1
    refine lv_aload_n hx hb dX12_goes_0 rfl (lv_at hl 0 rfl) ?_
    refine va_get (D := D) hx hb hts inlX12 hown hK hP 55 (jc_55 cI cL ad σ τ) rfl 27 (of_decide_eq_true rfl) (hts _ kw_23_11) (fun _ h9 => h9) rfl dX12_goes_1 ?_
    refine lv_iconst (v := 1) hx hb dX12_goes_4 (of_decide_eq_true rfl) ?_
    have g22 := jrg (rfl : (σ 55 27).toInt = (σ 55 27).toInt)
    refine lv_iadd hx hb dX12_goes_5 ?_
    refine lv_topi (fun x23 ex23 => ?_)
    exact by
     have tx23 : x23.toInt = (σ 55 27).toInt + 1 := (jadd ex23 rfl jz_1 (by omega) (by omega)).trans (by omega)
     refine lv_istore_n (lv' := [(3, .int x23), (0, .ref (ad 55)), (1, .int a1), (2, .int 1)]) hx hb dX12_goes_6 rfl hl (of_decide_eq_true rfl) rfl (fun ls hl => ?_)
     refine lv_iconst (v := 0) hx hb dX12_goes_7 (of_decide_eq_true rfl) ?_
     refine lv_istore (lv' := [(4, .int 0), (3, .int x23), (0, .ref (ad 55)), (1, .int a1), (2, .int 1)]) hx hb dX12_goes_8 hl (of_decide_eq_true rfl) rfl (fun ls hl => ?_)
     refine lv_iload hx hb dX12_goes_10 (lv_at hl 0 rfl) ?_
     refine lv_aload_n hx hb dX12_goes_12 rfl (lv_at hl 2 rfl) ?_
     refine va_get (D := D) hx hb hts inlX12 hown hK hP 55 (jc_55 cI cL ad σ τ) rfl 6 (of_decide_eq_true rfl) (hts _ kw_9_13) (fun _ h9 => h9) rfl dX12_goes_13 ?_
     refine jtopr c21 ?_
     refine lv_icmp_ge (tgt := 100) hx hb dX12_goes_16 (of_decide_eq_true rfl) (fun c => absurd c (of_decide_eq_true rfl)) (fun _ => ?_)
     refine lv_iconst (v := 4) hx hb dX12_goes_19 (of_decide_eq_true rfl) ?_
     refine lv_iload_n hx hb dX12_goes_20 rfl (lv_at hl 1 rfl) ?_
     refine lv_imul hx hb dX12_goes_21 ?_
     refine lv_topi (fun x24 ex24 => ?_)
     exact by
      have tx24 : x24.toInt = 4 * (σ 55 27).toInt + 4 := (jmul ex24 jz_4 tx23 (by omega) (by omega)).trans (by omega)
      refine lv_aload_n hx hb dX12_goes_22 rfl (lv_at hl 2 rfl) ?_
      refine va_get (D := D) hx hb hts inlX12 hown hK hP 55 (jc_55 cI cL ad σ τ) rfl 28 (of_decide_eq_true rfl) (hts _ kw_7_14) (fun _ h9 => h9) rfl dX12_goes_23 ?_
      refine lv_iload hx hb dX12_goes_26 (lv_at hl 0 rfl) ?_
      refine jald hx hb hK hP (jc_68 cI cL ad σ τ) (jin jz_0 (by omega) (by omega)) dX12_goes_28 ?_
      refine jtopr (y := σ 68 0) rfl ?_
      have g25 := hw68 0 (of_decide_eq_true rfl)
      have g26 := jrg (rfl : (σ 68 0).toInt = (σ 68 0).toInt)
      refine lv_iadd hx hb dX12_goes_29 ?_
      exact by
       refine lv_topi (fun x27 ex27 => ?_)
       have tx27 : x27.toInt = 4 * (σ 55 27).toInt + (σ 68 0).toInt + 4 := (jadd ex27 tx24 rfl (by omega) (by omega)).trans (by omega)
       refine lv_istore_n (lv' := [(3, .int x27), (4, .int 0), (0, .ref (ad 55)), (1, .int a1), (2, .int 1)]) hx hb dX12_goes_30 rfl hl (of_decide_eq_true rfl) rfl (fun ls hl => ?_)
       refine lv_aload_n hx hb dX12_goes_31 rfl (lv_at hl 2 rfl) ?_
       refine va_get (D := D) hx hb hts inlX12 hown hK hP 55 (jc_55 cI cL ad σ τ) rfl 28 (of_decide_eq_true rfl) (hts _ kw_7_14) (fun _ h9 => h9) rfl dX12_goes_32 ?_
       refine lv_iload hx hb dX12_goes_35 (lv_at hl 1 rfl) ?_
       have jn28 : ∀ (x29 : Int32), (0 ≤ x29.toInt ∧ x29.toInt ≤ 3) → (x29.toInt = jSn (jrS σ) (A1).toNat 0) → W p l e ({ frames := 0, cells := 0, slots := 0, locals := 0 }) s m args below meth c s.heap [] 0 0 Q (F0 m 93 ls [.int x29, .int 0, .ref (ad 68)]) := by
         intro x29 k30 k31
         refine jast hx hb hK hP hJ hA hS (jc_68 cI cL ad σ τ) (ja_68 cI cL ad σ τ _ _) (jin jz_0 (by omega) (by omega)) dX12_goes_93 (fun σ32 H locs eσ32 hP hS => ?_)
         exact by
          have eσ32 : σ32 = jup σ 68 0 x29 := eσ32
          refine lv_iinc (v := 1) (lv' := [(4, .int 1), (3, .int x27), (0, .ref (ad 55)), (1, .int a1), (2, .int 1)]) hx hb dX12_goes_94 hl (k := 1) rfl (of_decide_eq_true rfl) (of_decide_eq_true rfl) rfl (fun ls hl => ?_)
          refine lv_goto (tgt := 10) hx hb dX12_goes_97 (of_decide_eq_true rfl) ?_
          refine lv_iload hx hb dX12_goes_10 (lv_at hl 0 rfl) ?_
          refine lv_aload_n hx hb dX12_goes_12 rfl (lv_at hl 2 rfl) ?_
          refine va_get (D := D) hx hb hts inlX12 hown hK hP 55 (jc_55 cI cL ad σ32 τ) rfl 6 (of_decide_eq_true rfl) (hts _ kw_9_13) (fun _ h9 => h9) rfl dX12_goes_13 ?_
          have m33 : σ32 55 6 = 1 := ((congrFun (jnp 55 eσ32 (of_decide_eq_true rfl)) 6).trans c21)
          refine jtopr m33 ?_
          refine lv_icmp_ge (tgt := 100) hx hb dX12_goes_16 (of_decide_eq_true rfl) (fun _ => ?_) (fun c => absurd (of_decide_eq_true rfl) c)
          refine lv_aload_n hx hb dX12_goes_100 rfl (lv_at hl 2 rfl) ?_
          refine va_get (D := D) hx hb hts inlX12 hown hK hP 55 (jc_55 cI cL ad σ32 τ) rfl 29 (of_decide_eq_true rfl) (hts _ kw_7_15) (fun _ h9 => h9) rfl dX12_goes_101 ?_
          refine lv_iload_n hx hb dX12_goes_104 rfl (lv_at hl 3 rfl) ?_
          refine lv_dup2_11 hx hb dX12_goes_105 rfl rfl ?_
          exact by
           refine jald hx hb hK hP (jc_69 cI cL ad σ32 τ) (jin t1 (by omega) (by omega)) dX12_goes_106 ?_
           refine lv_topi (fun x34 ex34 => ?_)
           refine lv_iconst (v := 1) hx hb dX12_goes_107 (of_decide_eq_true rfl) ?_
           have g35 := jrg (rfl : x34.toInt = x34.toInt)
           refine lv_iadd hx hb dX12_goes_108 ?_
           refine lv_topi (fun x36 ex36 => ?_)
           have gx36 := jrg (rfl : x36.toInt = x36.toInt)
           refine jast hx hb hK hP hJ hA hS (jc_69 cI cL ad σ32 τ) (ja_69 cI cL ad σ32 τ _ _) (jin t1 (by omega) (by omega)) dX12_goes_109 (fun σ37 H locs eσ37 hP hS => ?_)
           refine lv_aload_n hx hb dX12_goes_110 rfl (lv_at hl 2 rfl) ?_
           exact by
            refine lv_iload_n hx hb dX12_goes_111 rfl (lv_at hl 3 rfl) ?_
            refine jput (ty := .int) hx hb hts inlX12 tyX12 tyX12_ok nmX12 hown hK hP hJ hA hS (jc_55 cI cL ad σ37 τ) rfl (k := 27) (of_decide_eq_true rfl) (Nat.le_of_ble_eq_true rfl) (jp_55_27 cI cL ad σ37 τ a1) (hts _ kw_23_11) (fun _ h9 => h9) rfl (by decide +kernel) rfl rfl dX12_goes_112 (fun σ38 H locs eσ38 hP hS => ?_)
            refine lv_aload_n hx hb dX12_goes_115 rfl (lv_at hl 2 rfl) ?_
            refine lv_dup hx hb dX12_goes_116 rfl ?_
            refine va_get (D := D) hx hb hts inlX12 hown hK hP 55 (jc_55 cI cL ad σ38 τ) rfl 26 (of_decide_eq_true rfl) (hts _ kw_23_5) (fun _ h9 => h9) rfl dX12_goes_117 ?_
            have m39 : σ38 55 26 = (σ 55 26) := ((jkp 26 eσ38 (of_decide_eq_true rfl)).trans ((congrFun (jnp 55 eσ37 (of_decide_eq_true rfl)) 26).trans (congrFun (jnp 55 eσ32 (of_decide_eq_true rfl)) 26)))
            refine jtopr m39 ?_
            refine lv_iconst (v := 1) hx hb dX12_goes_120 (of_decide_eq_true rfl) ?_
            have g40 := jrg (rfl : (σ 55 26).toInt = (σ 55 26).toInt)
            refine lv_iadd hx hb dX12_goes_121 ?_
            refine lv_topi (fun x41 ex41 => ?_)
            exact by
             have tx41 : x41.toInt = (σ 55 26).toInt + 1 := (jadd ex41 rfl jz_1 (by omega) (by omega)).trans (by omega)
             refine jput (ty := .int) hx hb hts inlX12 tyX12 tyX12_ok nmX12 hown hK hP hJ hA hS (jc_55 cI cL ad σ38 τ) rfl (k := 26) (of_decide_eq_true rfl) (Nat.le_of_ble_eq_true rfl) (jp_55_26 cI cL ad σ38 τ x41) (hts _ kw_23_5) (fun _ h9 => h9) rfl (by decide +kernel) rfl rfl dX12_goes_122 (fun σ42 H locs eσ42 hP hS => ?_)
             refine lv_aload_n hx hb dX12_goes_125 rfl (lv_at hl 2 rfl) ?_
             refine lv_dup hx hb dX12_goes_126 rfl ?_
             refine va_get (D := D) hx hb hts inlX12 hown hK hP 55 (jc_55 cI cL ad σ42 τ) rfl 25 (of_decide_eq_true rfl) (hts _ kw_23_6) (fun _ h9 => h9) rfl dX12_goes_127 ?_
             have m43 : σ42 55 25 = (σ 55 25) := ((jkp 25 eσ42 (of_decide_eq_true rfl)).trans ((jkp 25 eσ38 (of_decide_eq_true rfl)).trans ((congrFun (jnp 55 eσ37 (of_decide_eq_true rfl)) 25).trans (congrFun (jnp 55 eσ32 (of_decide_eq_true rfl)) 25))))
             refine jtopr m43 ?_
             refine lv_iload_n hx hb dX12_goes_130 rfl (lv_at hl 4 rfl) ?_
             refine lv_if_eq (tgt := 138) hx hb dX12_goes_131 (of_decide_eq_true rfl) (fun c => absurd c (of_decide_eq_true rfl)) (fun _ => ?_)
             refine lv_iconst (v := 1) hx hb dX12_goes_134 (of_decide_eq_true rfl) ?_
             refine lv_goto (tgt := 139) hx hb dX12_goes_135 (of_decide_eq_true rfl) ?_
             have g44 := jrg (rfl : (σ 55 25).toInt = (σ 55 25).toInt)
             refine lv_iadd hx hb dX12_goes_139 ?_
             refine lv_topi (fun x45 ex45 => ?_)
             exact by
              have tx45 : x45.toInt = (σ 55 25).toInt + 1 := (jadd ex45 rfl jz_1 (by omega) (by omega)).trans (by omega)
              refine jput (ty := .int) hx hb hts inlX12 tyX12 tyX12_ok nmX12 hown hK hP hJ hA hS (jc_55 cI cL ad σ42 τ) rfl (k := 25) (of_decide_eq_true rfl) (Nat.le_of_ble_eq_true rfl) (jp_55_25 cI cL ad σ42 τ x45) (hts _ kw_23_6) (fun _ h9 => h9) rfl (by decide +kernel) rfl rfl dX12_goes_140 (fun σ46 H locs eσ46 hP hS => ?_)
              refine lv_iload_n hx hb dX12_goes_143 rfl (lv_at hl 1 rfl) ?_
              have w47 : ∀ k : Nat, k < 4 → 0 ≤ (σ46 68 k).toInt ∧ (σ46 68 k).toInt ≤ 3 := (jrr_fr (jnp 68 eσ46 (of_decide_eq_true rfl)) (jrr_fr (jnp 68 eσ42 (of_decide_eq_true rfl)) (jrr_fr (jnp 68 eσ38 (of_decide_eq_true rfl)) (jrr_fr (jnp 68 eσ37 (of_decide_eq_true rfl)) (by rw [eσ32]; exact jrr_up hw68 (by omega) (by omega))))))
              have z48 : (σ46 55 25).toInt = (σ 55 25).toInt + 1 := ((congrArg Int32.toInt (show σ46 55 25 = x45 from (jsp eσ46))).trans tx45)
              have z49 : (σ46 55 26).toInt = (σ 55 26).toInt + 1 := ((congrArg Int32.toInt (show σ46 55 26 = x41 from ((jkp 26 eσ46 (of_decide_eq_true rfl)).trans (jsp eσ42)))).trans tx41)
              have z50 : (σ46 55 27).toInt = A1 := ((congrArg Int32.toInt (show σ46 55 27 = a1 from ((jkp 27 eσ46 (of_decide_eq_true rfl)).trans ((jkp 27 eσ42 (of_decide_eq_true rfl)).trans (jsp eσ38))))).trans t1)
              exact by exact hret x27 σ46 τ _ _ _ _ rfl ⟨rfl, (fun i hi => ((jnp i eσ46 (imp_189 i hi)).trans ((jnp i eσ42 (imp_189 i hi)).trans ((jnp i eσ38 (imp_189 i hi)).trans ((jnp i eσ37 (imp_197 i hi)).trans (jnp i eσ32 (imp_198 i hi))))))), (fun i hi => ((jkp i eσ46 (imp_192 i hi)).trans ((jkp i eσ42 (imp_191 i hi)).trans ((jkp i eσ38 (imp_190 i hi)).trans ((congrFun (jnp 55 eσ37 (of_decide_eq_true rfl)) i).trans (congrFun (jnp 55 eσ32 (of_decide_eq_true rfl)) i)))))), w47, (by rw [eσ46, jup_n (of_decide_eq_true rfl), eσ42, jup_n (of_decide_eq_true rfl), eσ38, jup_n (of_decide_eq_true rfl), eσ37, jup_row, ex36, ex34, eσ32, jup_n (of_decide_eq_true rfl)]), (fun k hk => by rw [eσ46, jup_n (of_decide_eq_true rfl), eσ42, jup_n (of_decide_eq_true rfl), eσ38, jup_n (of_decide_eq_true rfl), eσ37, jup_n (of_decide_eq_true rfl), eσ32, jup_k (by omega)]), (fun c hc => jqll1 (p := fun c => jrS σ46 c = jSn (jrS σ) (A1).toNat c) ((congrArg Int32.toInt (show σ46 68 0 = x29 from ((congrFun (jnp 68 eσ46 (of_decide_eq_true rfl)) 0).trans ((congrFun (jnp 68 eσ42 (of_decide_eq_true rfl)) 0).trans ((congrFun (jnp 68 eσ38 (of_decide_eq_true rfl)) 0).trans ((congrFun (jnp 68 eσ37 (of_decide_eq_true rfl)) 0).trans (jsp eσ32))))))).trans k31) c (by omega)), (by omega), (by omega), (by omega), ⟨trivial, (by have h9 := tx27; omega), (by have h9 := tx27; omega), (by have h9 := tx27; omega), (by have h9 := tx27; omega), (by have h9 := tx27; omega)⟩⟩ hP hS dX12_goes_144
       refine lv_iload hx hb dX12_goes_37 (lv_at hl 1 rfl) ?_
       exact by
        refine lv_iload_n hx hb dX12_goes_39 rfl (lv_at hl 3 rfl) ?_
        refine lv_icmp_ne (tgt := 70) hx hb dX12_goes_40 (of_decide_eq_true rfl) (fun c51 => ?_) (fun c51 => ?_)
        · have kc51 := jne c51 jz_0 t1
          refine lv_aload_n hx hb dX12_goes_70 rfl (lv_at hl 2 rfl) ?_
          refine va_get (D := D) hx hb hts inlX12 hown hK hP 55 (jc_55 cI cL ad σ τ) rfl 28 (of_decide_eq_true rfl) (hts _ kw_7_14) (fun _ h9 => h9) rfl dX12_goes_71 ?_
          refine lv_iload hx hb dX12_goes_74 (lv_at hl 1 rfl) ?_
          refine jald hx hb hK hP (jc_68 cI cL ad σ τ) (jin jz_0 (by omega) (by omega)) dX12_goes_76 ?_
          refine jtopr (y := σ 68 0) rfl ?_
          refine lv_if_le (tgt := 92) hx hb dX12_goes_77 (of_decide_eq_true rfl) (fun c52 => ?_) (fun c52 => ?_)
          · exact by
             have kc52 := jle c52 rfl jz_0
             refine lv_iconst (v := 0) hx hb dX12_goes_92 (of_decide_eq_true rfl) ?_
             exact by exact jn28 0 (by have h9 := jz_0; omega) (jSn_r (σ := σ) (k := 0) (by have h9 := jz_0; omega))
          · have kc52 := jnle c52 rfl jz_0
            refine lv_aload_n hx hb dX12_goes_80 rfl (lv_at hl 2 rfl) ?_
            refine va_get (D := D) hx hb hts inlX12 hown hK hP 55 (jc_55 cI cL ad σ τ) rfl 28 (of_decide_eq_true rfl) (hts _ kw_7_14) (fun _ h9 => h9) rfl dX12_goes_81 ?_
            refine lv_iload hx hb dX12_goes_84 (lv_at hl 1 rfl) ?_
            refine jald hx hb hK hP (jc_68 cI cL ad σ τ) (jin jz_0 (by omega) (by omega)) dX12_goes_86 ?_
            refine jtopr (y := σ 68 0) rfl ?_
            exact by
             refine lv_iconst (v := 1) hx hb dX12_goes_87 (of_decide_eq_true rfl) ?_
             refine lv_isub hx hb dX12_goes_88 ?_
             refine lv_topi (fun x53 ex53 => ?_)
             have tx53 : x53.toInt = (σ 68 0).toInt - 1 := (jsub ex53 rfl jz_1 (by omega) (by omega)).trans (by omega)
             refine lv_goto (tgt := 93) hx hb dX12_goes_89 (of_decide_eq_true rfl) ?_
             exact by exact jn28 x53 (by have h9 := tx53; omega) (jSn_r (σ := σ) (k := 0) (by have h9 := tx53; omega))
        · have kc51 := jeq c51 jz_0 t1
          refine lv_aload_n hx hb dX12_goes_43 rfl (lv_at hl 2 rfl) ?_
          refine va_get (D := D) hx hb hts inlX12 hown hK hP 55 (jc_55 cI cL ad σ τ) rfl 28 (of_decide_eq_true rfl) (hts _ kw_7_14) (fun _ h9 => h9) rfl dX12_goes_44 ?_
          exact by
           refine lv_iload hx hb dX12_goes_47 (lv_at hl 1 rfl) ?_
           refine jald hx hb hK hP (jc_68 cI cL ad σ τ) (jin jz_0 (by omega) (by omega)) dX12_goes_49 ?_
           refine jtopr (y := σ 68 0) rfl ?_
           refine lv_iconst (v := 3) hx hb dX12_goes_50 (of_decide_eq_true rfl) ?_
           refine lv_icmp_ge (tgt := 66) hx hb dX12_goes_51 (of_decide_eq_true rfl) (fun c54 => ?_) (fun c54 => ?_)
           · have kc54 := jle c54 jz_3 rfl
             refine lv_iconst (v := 3) hx hb dX12_goes_66 (of_decide_eq_true rfl) ?_
             refine lv_goto (tgt := 93) hx hb dX12_goes_67 (of_decide_eq_true rfl) ?_
             exact by exact jn28 3 (by have h9 := jz_3; omega) (jSn_r (σ := σ) (k := 0) (by have h9 := jz_3; omega))
           · exact by
              have kc54 := jnle c54 jz_3 rfl
              refine lv_aload_n hx hb dX12_goes_54 rfl (lv_at hl 2 rfl) ?_
              refine va_get (D := D) hx hb hts inlX12 hown hK hP 55 (jc_55 cI cL ad σ τ) rfl 28 (of_decide_eq_true rfl) (hts _ kw_7_14) (fun _ h9 => h9) rfl dX12_goes_55 ?_
              refine lv_iload hx hb dX12_goes_58 (lv_at hl 1 rfl) ?_
              refine jald hx hb hK hP (jc_68 cI cL ad σ τ) (jin jz_0 (by omega) (by omega)) dX12_goes_60 ?_
              refine jtopr (y := σ 68 0) rfl ?_
              refine lv_iconst (v := 1) hx hb dX12_goes_61 (of_decide_eq_true rfl) ?_
              refine lv_iadd hx hb dX12_goes_62 ?_
              refine lv_topi (fun x55 ex55 => ?_)
              exact by
               have tx55 : x55.toInt = (σ 68 0).toInt + 1 := (jadd ex55 rfl jz_1 (by omega) (by omega)).trans (by omega)
               refine lv_goto (tgt := 93) hx hb dX12_goes_63 (of_decide_eq_true rfl) ?_
               exact by exact jn28 x55 (by have h9 := tx55; omega) (jSn_r (σ := σ) (k := 0) (by have h9 := tx55; omega))
  have kc21 := jne c21 (rfl : (σ 55 6).toInt = (σ 55 6).toInt) jz_1
  by_cases c56 : σ 55 6 = 2
  · have kc56 := jeq c56 (rfl : (σ 55 6).toInt = (σ 55 6).toInt) jz_2
    refine lv_aload_n hx hb dX12_goes_0 rfl (lv_at hl 0 rfl) ?_
    refine va_get (D := D) hx hb hts inlX12 hown hK hP 55 (jc_55 cI cL ad σ τ) rfl 27 (of_decide_eq_true rfl) (hts _ kw_23_11) (fun _ h9 => h9) rfl dX12_goes_1 ?_
    refine lv_iconst (v := 1) hx hb dX12_goes_4 (of_decide_eq_true rfl) ?_
    have g57 := jrg (rfl : (σ 55 27).toInt = (σ 55 27).toInt)
    refine lv_iadd hx hb dX12_goes_5 ?_
    refine lv_topi (fun x58 ex58 => ?_)
    exact by
     have tx58 : x58.toInt = (σ 55 27).toInt + 1 := (jadd ex58 rfl jz_1 (by omega) (by omega)).trans (by omega)
     refine lv_istore_n (lv' := [(3, .int x58), (0, .ref (ad 55)), (1, .int a1), (2, .int 1)]) hx hb dX12_goes_6 rfl hl (of_decide_eq_true rfl) rfl (fun ls hl => ?_)
     refine lv_iconst (v := 0) hx hb dX12_goes_7 (of_decide_eq_true rfl) ?_
     refine lv_istore (lv' := [(4, .int 0), (3, .int x58), (0, .ref (ad 55)), (1, .int a1), (2, .int 1)]) hx hb dX12_goes_8 hl (of_decide_eq_true rfl) rfl (fun ls hl => ?_)
     refine lv_iload hx hb dX12_goes_10 (lv_at hl 0 rfl) ?_
     refine lv_aload_n hx hb dX12_goes_12 rfl (lv_at hl 2 rfl) ?_
     refine va_get (D := D) hx hb hts inlX12 hown hK hP 55 (jc_55 cI cL ad σ τ) rfl 6 (of_decide_eq_true rfl) (hts _ kw_9_13) (fun _ h9 => h9) rfl dX12_goes_13 ?_
     refine jtopr c56 ?_
     refine lv_icmp_ge (tgt := 100) hx hb dX12_goes_16 (of_decide_eq_true rfl) (fun c => absurd c (of_decide_eq_true rfl)) (fun _ => ?_)
     refine lv_iconst (v := 4) hx hb dX12_goes_19 (of_decide_eq_true rfl) ?_
     refine lv_iload_n hx hb dX12_goes_20 rfl (lv_at hl 1 rfl) ?_
     refine lv_imul hx hb dX12_goes_21 ?_
     refine lv_topi (fun x59 ex59 => ?_)
     exact by
      have tx59 : x59.toInt = 4 * (σ 55 27).toInt + 4 := (jmul ex59 jz_4 tx58 (by omega) (by omega)).trans (by omega)
      refine lv_aload_n hx hb dX12_goes_22 rfl (lv_at hl 2 rfl) ?_
      refine va_get (D := D) hx hb hts inlX12 hown hK hP 55 (jc_55 cI cL ad σ τ) rfl 28 (of_decide_eq_true rfl) (hts _ kw_7_14) (fun _ h9 => h9) rfl dX12_goes_23 ?_
      refine lv_iload hx hb dX12_goes_26 (lv_at hl 0 rfl) ?_
      refine jald hx hb hK hP (jc_68 cI cL ad σ τ) (jin jz_0 (by omega) (by omega)) dX12_goes_28 ?_
      refine jtopr (y := σ 68 0) rfl ?_
      have g60 := hw68 0 (of_decide_eq_true rfl)
      have g61 := jrg (rfl : (σ 68 0).toInt = (σ 68 0).toInt)
      refine lv_iadd hx hb dX12_goes_29 ?_
      exact by
       refine lv_topi (fun x62 ex62 => ?_)
       have tx62 : x62.toInt = 4 * (σ 55 27).toInt + (σ 68 0).toInt + 4 := (jadd ex62 tx59 rfl (by omega) (by omega)).trans (by omega)
       refine lv_istore_n (lv' := [(3, .int x62), (4, .int 0), (0, .ref (ad 55)), (1, .int a1), (2, .int 1)]) hx hb dX12_goes_30 rfl hl (of_decide_eq_true rfl) rfl (fun ls hl => ?_)
       refine lv_aload_n hx hb dX12_goes_31 rfl (lv_at hl 2 rfl) ?_
       refine va_get (D := D) hx hb hts inlX12 hown hK hP 55 (jc_55 cI cL ad σ τ) rfl 28 (of_decide_eq_true rfl) (hts _ kw_7_14) (fun _ h9 => h9) rfl dX12_goes_32 ?_
       refine lv_iload hx hb dX12_goes_35 (lv_at hl 1 rfl) ?_
       have jn63 : ∀ (x64 : Int32), (0 ≤ x64.toInt ∧ x64.toInt ≤ 3) → (x64.toInt = jSn (jrS σ) (A1).toNat 0) → W p l e ({ frames := 0, cells := 0, slots := 0, locals := 0 }) s m args below meth c s.heap [] 0 0 Q (F0 m 93 ls [.int x64, .int 0, .ref (ad 68)]) := by
         intro x64 k65 k66
         refine jast hx hb hK hP hJ hA hS (jc_68 cI cL ad σ τ) (ja_68 cI cL ad σ τ _ _) (jin jz_0 (by omega) (by omega)) dX12_goes_93 (fun σ67 H locs eσ67 hP hS => ?_)
         exact by
          have eσ67 : σ67 = jup σ 68 0 x64 := eσ67
          refine lv_iinc (v := 1) (lv' := [(4, .int 1), (3, .int x62), (0, .ref (ad 55)), (1, .int a1), (2, .int 1)]) hx hb dX12_goes_94 hl (k := 1) rfl (of_decide_eq_true rfl) (of_decide_eq_true rfl) rfl (fun ls hl => ?_)
          refine lv_goto (tgt := 10) hx hb dX12_goes_97 (of_decide_eq_true rfl) ?_
          refine lv_iload hx hb dX12_goes_10 (lv_at hl 0 rfl) ?_
          refine lv_aload_n hx hb dX12_goes_12 rfl (lv_at hl 2 rfl) ?_
          refine va_get (D := D) hx hb hts inlX12 hown hK hP 55 (jc_55 cI cL ad σ67 τ) rfl 6 (of_decide_eq_true rfl) (hts _ kw_9_13) (fun _ h9 => h9) rfl dX12_goes_13 ?_
          have m68 : σ67 55 6 = 2 := ((congrFun (jnp 55 eσ67 (of_decide_eq_true rfl)) 6).trans c56)
          refine jtopr m68 ?_
          refine lv_icmp_ge (tgt := 100) hx hb dX12_goes_16 (of_decide_eq_true rfl) (fun c => absurd c (of_decide_eq_true rfl)) (fun _ => ?_)
          refine lv_iconst (v := 4) hx hb dX12_goes_19 (of_decide_eq_true rfl) ?_
          refine lv_iload_n hx hb dX12_goes_20 rfl (lv_at hl 1 rfl) ?_
          refine lv_imul hx hb dX12_goes_21 ?_
          refine lv_topi (fun x69 ex69 => ?_)
          exact by
           have tx69 : x69.toInt = 16 * (σ 55 27).toInt + 4 * (σ 68 0).toInt + 16 := (jmul ex69 jz_4 tx62 (by omega) (by omega)).trans (by omega)
           refine lv_aload_n hx hb dX12_goes_22 rfl (lv_at hl 2 rfl) ?_
           refine va_get (D := D) hx hb hts inlX12 hown hK hP 55 (jc_55 cI cL ad σ67 τ) rfl 28 (of_decide_eq_true rfl) (hts _ kw_7_14) (fun _ h9 => h9) rfl dX12_goes_23 ?_
           refine lv_iload hx hb dX12_goes_26 (lv_at hl 0 rfl) ?_
           refine jald hx hb hK hP (jc_68 cI cL ad σ67 τ) (jin jz_1 (by omega) (by omega)) dX12_goes_28 ?_
           refine jtopr (y := σ67 68 1) rfl ?_
           have m70 : σ67 68 1 = (σ 68 1) := (jkp 1 eσ67 (of_decide_eq_true rfl))
           refine jtopr m70 ?_
           have w71 : ∀ k : Nat, k < 4 → 0 ≤ (σ67 68 k).toInt ∧ (σ67 68 k).toInt ≤ 3 := (by rw [eσ67]; exact jrr_up hw68 (by omega) (by omega))
           exact by
            have g72 := w71 1 (of_decide_eq_true rfl)
            rw [m70] at g72
            have g73 := jrg (rfl : (σ 68 1).toInt = (σ 68 1).toInt)
            refine lv_iadd hx hb dX12_goes_29 ?_
            refine lv_topi (fun x74 ex74 => ?_)
            have tx74 : x74.toInt = 16 * (σ 55 27).toInt + 4 * (σ 68 0).toInt + (σ 68 1).toInt + 16 := (jadd ex74 tx69 rfl (by omega) (by omega)).trans (by omega)
            refine lv_istore_n (lv' := [(3, .int x74), (4, .int 1), (0, .ref (ad 55)), (1, .int a1), (2, .int 1)]) hx hb dX12_goes_30 rfl hl (of_decide_eq_true rfl) rfl (fun ls hl => ?_)
            refine lv_aload_n hx hb dX12_goes_31 rfl (lv_at hl 2 rfl) ?_
            refine va_get (D := D) hx hb hts inlX12 hown hK hP 55 (jc_55 cI cL ad σ67 τ) rfl 28 (of_decide_eq_true rfl) (hts _ kw_7_14) (fun _ h9 => h9) rfl dX12_goes_32 ?_
            exact by
             refine lv_iload hx hb dX12_goes_35 (lv_at hl 1 rfl) ?_
             have jn75 : ∀ (x76 : Int32), (0 ≤ x76.toInt ∧ x76.toInt ≤ 3) → (x76.toInt = jSn (jrS σ) (A1).toNat 1) → W p l e ({ frames := 0, cells := 0, slots := 0, locals := 0 }) s m args below meth c H locs 0 0 Q (F0 m 93 ls [.int x76, .int 1, .ref (ad 68)]) := by
               intro x76 k77 k78
               refine jast hx hb hK hP hJ hA hS (jc_68 cI cL ad σ67 τ) (ja_68 cI cL ad σ67 τ _ _) (jin jz_1 (by omega) (by omega)) dX12_goes_93 (fun σ79 H locs eσ79 hP hS => ?_)
               have eσ79 : σ79 = jup σ67 68 1 x76 := eσ79
               refine lv_iinc (v := 2) (lv' := [(4, .int 2), (3, .int x74), (0, .ref (ad 55)), (1, .int a1), (2, .int 1)]) hx hb dX12_goes_94 hl (k := 1) rfl (of_decide_eq_true rfl) (of_decide_eq_true rfl) rfl (fun ls hl => ?_)
               refine lv_goto (tgt := 10) hx hb dX12_goes_97 (of_decide_eq_true rfl) ?_
               refine lv_iload hx hb dX12_goes_10 (lv_at hl 0 rfl) ?_
               refine lv_aload_n hx hb dX12_goes_12 rfl (lv_at hl 2 rfl) ?_
               exact by
                refine va_get (D := D) hx hb hts inlX12 hown hK hP 55 (jc_55 cI cL ad σ79 τ) rfl 6 (of_decide_eq_true rfl) (hts _ kw_9_13) (fun _ h9 => h9) rfl dX12_goes_13 ?_
                have m80 : σ79 55 6 = 2 := ((congrFun (jnp 55 eσ79 (of_decide_eq_true rfl)) 6).trans m68)
                refine jtopr m80 ?_
                refine lv_icmp_ge (tgt := 100) hx hb dX12_goes_16 (of_decide_eq_true rfl) (fun _ => ?_) (fun c => absurd (of_decide_eq_true rfl) c)
                refine lv_aload_n hx hb dX12_goes_100 rfl (lv_at hl 2 rfl) ?_
                refine va_get (D := D) hx hb hts inlX12 hown hK hP 55 (jc_55 cI cL ad σ79 τ) rfl 29 (of_decide_eq_true rfl) (hts _ kw_7_15) (fun _ h9 => h9) rfl dX12_goes_101 ?_
                refine lv_iload_n hx hb dX12_goes_104 rfl (lv_at hl 3 rfl) ?_
                refine lv_dup2_11 hx hb dX12_goes_105 rfl rfl ?_
                refine jald hx hb hK hP (jc_69 cI cL ad σ79 τ) (jin t1 (by omega) (by omega)) dX12_goes_106 ?_
                exact by
                 refine lv_topi (fun x81 ex81 => ?_)
                 refine lv_iconst (v := 1) hx hb dX12_goes_107 (of_decide_eq_true rfl) ?_
                 have g82 := jrg (rfl : x81.toInt = x81.toInt)
                 refine lv_iadd hx hb dX12_goes_108 ?_
                 refine lv_topi (fun x83 ex83 => ?_)
                 have gx83 := jrg (rfl : x83.toInt = x83.toInt)
                 refine jast hx hb hK hP hJ hA hS (jc_69 cI cL ad σ79 τ) (ja_69 cI cL ad σ79 τ _ _) (jin t1 (by omega) (by omega)) dX12_goes_109 (fun σ84 H locs eσ84 hP hS => ?_)
                 refine lv_aload_n hx hb dX12_goes_110 rfl (lv_at hl 2 rfl) ?_
                 refine lv_iload_n hx hb dX12_goes_111 rfl (lv_at hl 3 rfl) ?_
                 exact by
                  refine jput (ty := .int) hx hb hts inlX12 tyX12 tyX12_ok nmX12 hown hK hP hJ hA hS (jc_55 cI cL ad σ84 τ) rfl (k := 27) (of_decide_eq_true rfl) (Nat.le_of_ble_eq_true rfl) (jp_55_27 cI cL ad σ84 τ a1) (hts _ kw_23_11) (fun _ h9 => h9) rfl (by decide +kernel) rfl rfl dX12_goes_112 (fun σ85 H locs eσ85 hP hS => ?_)
                  refine lv_aload_n hx hb dX12_goes_115 rfl (lv_at hl 2 rfl) ?_
                  refine lv_dup hx hb dX12_goes_116 rfl ?_
                  refine va_get (D := D) hx hb hts inlX12 hown hK hP 55 (jc_55 cI cL ad σ85 τ) rfl 26 (of_decide_eq_true rfl) (hts _ kw_23_5) (fun _ h9 => h9) rfl dX12_goes_117 ?_
                  have m86 : σ85 55 26 = (σ 55 26) := ((jkp 26 eσ85 (of_decide_eq_true rfl)).trans ((congrFun (jnp 55 eσ84 (of_decide_eq_true rfl)) 26).trans ((congrFun (jnp 55 eσ79 (of_decide_eq_true rfl)) 26).trans (congrFun (jnp 55 eσ67 (of_decide_eq_true rfl)) 26))))
                  refine jtopr m86 ?_
                  refine lv_iconst (v := 1) hx hb dX12_goes_120 (of_decide_eq_true rfl) ?_
                  have g87 := jrg (rfl : (σ 55 26).toInt = (σ 55 26).toInt)
                  refine lv_iadd hx hb dX12_goes_121 ?_
                  refine lv_topi (fun x88 ex88 => ?_)
                  exact by
                   have tx88 : x88.toInt = (σ 55 26).toInt + 1 := (jadd ex88 rfl jz_1 (by omega) (by omega)).trans (by omega)
                   refine jput (ty := .int) hx hb hts inlX12 tyX12 tyX12_ok nmX12 hown hK hP hJ hA hS (jc_55 cI cL ad σ85 τ) rfl (k := 26) (of_decide_eq_true rfl) (Nat.le_of_ble_eq_true rfl) (jp_55_26 cI cL ad σ85 τ x88) (hts _ kw_23_5) (fun _ h9 => h9) rfl (by decide +kernel) rfl rfl dX12_goes_122 (fun σ89 H locs eσ89 hP hS => ?_)
                   refine lv_aload_n hx hb dX12_goes_125 rfl (lv_at hl 2 rfl) ?_
                   refine lv_dup hx hb dX12_goes_126 rfl ?_
                   refine va_get (D := D) hx hb hts inlX12 hown hK hP 55 (jc_55 cI cL ad σ89 τ) rfl 25 (of_decide_eq_true rfl) (hts _ kw_23_6) (fun _ h9 => h9) rfl dX12_goes_127 ?_
                   have m90 : σ89 55 25 = (σ 55 25) := ((jkp 25 eσ89 (of_decide_eq_true rfl)).trans ((jkp 25 eσ85 (of_decide_eq_true rfl)).trans ((congrFun (jnp 55 eσ84 (of_decide_eq_true rfl)) 25).trans ((congrFun (jnp 55 eσ79 (of_decide_eq_true rfl)) 25).trans (congrFun (jnp 55 eσ67 (of_decide_eq_true rfl)) 25)))))
                   refine jtopr m90 ?_
                   refine lv_iload_n hx hb dX12_goes_130 rfl (lv_at hl 4 rfl) ?_
                   refine lv_if_eq (tgt := 138) hx hb dX12_goes_131 (of_decide_eq_true rfl) (fun c => absurd c (of_decide_eq_true rfl)) (fun _ => ?_)
                   refine lv_iconst (v := 1) hx hb dX12_goes_134 (of_decide_eq_true rfl) ?_
                   refine lv_goto (tgt := 139) hx hb dX12_goes_135 (of_decide_eq_true rfl) ?_
                   have g91 := jrg (rfl : (σ 55 25).toInt = (σ 55 25).toInt)
                   refine lv_iadd hx hb dX12_goes_139 ?_
                   refine lv_topi (fun x92 ex92 => ?_)
                   exact by
                    have tx92 : x92.toInt = (σ 55 25).toInt + 1 := (jadd ex92 rfl jz_1 (by omega) (by omega)).trans (by omega)
                    refine jput (ty := .int) hx hb hts inlX12 tyX12 tyX12_ok nmX12 hown hK hP hJ hA hS (jc_55 cI cL ad σ89 τ) rfl (k := 25) (of_decide_eq_true rfl) (Nat.le_of_ble_eq_true rfl) (jp_55_25 cI cL ad σ89 τ x92) (hts _ kw_23_6) (fun _ h9 => h9) rfl (by decide +kernel) rfl rfl dX12_goes_140 (fun σ93 H locs eσ93 hP hS => ?_)
                    refine lv_iload_n hx hb dX12_goes_143 rfl (lv_at hl 1 rfl) ?_
                    have w94 : ∀ k : Nat, k < 4 → 0 ≤ (σ93 68 k).toInt ∧ (σ93 68 k).toInt ≤ 3 := (jrr_fr (jnp 68 eσ93 (of_decide_eq_true rfl)) (jrr_fr (jnp 68 eσ89 (of_decide_eq_true rfl)) (jrr_fr (jnp 68 eσ85 (of_decide_eq_true rfl)) (jrr_fr (jnp 68 eσ84 (of_decide_eq_true rfl)) (by rw [eσ79]; exact jrr_up w71 (by omega) (by omega))))))
                    have z95 : (σ93 55 25).toInt = (σ 55 25).toInt + 1 := ((congrArg Int32.toInt (show σ93 55 25 = x92 from (jsp eσ93))).trans tx92)
                    have z96 : (σ93 55 26).toInt = (σ 55 26).toInt + 1 := ((congrArg Int32.toInt (show σ93 55 26 = x88 from ((jkp 26 eσ93 (of_decide_eq_true rfl)).trans (jsp eσ89)))).trans tx88)
                    have z97 : (σ93 55 27).toInt = A1 := ((congrArg Int32.toInt (show σ93 55 27 = a1 from ((jkp 27 eσ93 (of_decide_eq_true rfl)).trans ((jkp 27 eσ89 (of_decide_eq_true rfl)).trans (jsp eσ85))))).trans t1)
                    exact by exact hret x74 σ93 τ _ _ _ _ rfl ⟨rfl, (fun i hi => ((jnp i eσ93 (imp_189 i hi)).trans ((jnp i eσ89 (imp_189 i hi)).trans ((jnp i eσ85 (imp_189 i hi)).trans ((jnp i eσ84 (imp_197 i hi)).trans ((jnp i eσ79 (imp_198 i hi)).trans (jnp i eσ67 (imp_198 i hi)))))))), (fun i hi => ((jkp i eσ93 (imp_192 i hi)).trans ((jkp i eσ89 (imp_191 i hi)).trans ((jkp i eσ85 (imp_190 i hi)).trans ((congrFun (jnp 55 eσ84 (of_decide_eq_true rfl)) i).trans ((congrFun (jnp 55 eσ79 (of_decide_eq_true rfl)) i).trans (congrFun (jnp 55 eσ67 (of_decide_eq_true rfl)) i))))))), w94, (by rw [eσ93, jup_n (of_decide_eq_true rfl), eσ89, jup_n (of_decide_eq_true rfl), eσ85, jup_n (of_decide_eq_true rfl), eσ84, jup_row, ex83, ex81, eσ79, jup_n (of_decide_eq_true rfl), eσ67, jup_n (of_decide_eq_true rfl)]), (fun k hk => by rw [eσ93, jup_n (of_decide_eq_true rfl), eσ89, jup_n (of_decide_eq_true rfl), eσ85, jup_n (of_decide_eq_true rfl), eσ84, jup_n (of_decide_eq_true rfl), eσ79, jup_k (by omega), eσ67, jup_k (by omega)]), (fun c hc => jqll2 (p := fun c => jrS σ93 c = jSn (jrS σ) (A1).toNat c) ((congrArg Int32.toInt (show σ93 68 0 = x64 from ((congrFun (jnp 68 eσ93 (of_decide_eq_true rfl)) 0).trans ((congrFun (jnp 68 eσ89 (of_decide_eq_true rfl)) 0).trans ((congrFun (jnp 68 eσ85 (of_decide_eq_true rfl)) 0).trans ((congrFun (jnp 68 eσ84 (of_decide_eq_true rfl)) 0).trans ((jkp 0 eσ79 (of_decide_eq_true rfl)).trans (jsp eσ67)))))))).trans k66) ((congrArg Int32.toInt (show σ93 68 1 = x76 from ((congrFun (jnp 68 eσ93 (of_decide_eq_true rfl)) 1).trans ((congrFun (jnp 68 eσ89 (of_decide_eq_true rfl)) 1).trans ((congrFun (jnp 68 eσ85 (of_decide_eq_true rfl)) 1).trans ((congrFun (jnp 68 eσ84 (of_decide_eq_true rfl)) 1).trans (jsp eσ79))))))).trans k78) c (by omega)), (by omega), (by omega), (by omega), ⟨trivial, (by have h9 := tx74; omega), (by have h9 := tx74; omega), (by have h9 := tx74; omega), (by have h9 := tx74; omega), (by have h9 := tx74; omega)⟩⟩ hP hS dX12_goes_144
             refine lv_iload hx hb dX12_goes_37 (lv_at hl 1 rfl) ?_
             exact by
              refine lv_iload_n hx hb dX12_goes_39 rfl (lv_at hl 3 rfl) ?_
              refine lv_icmp_ne (tgt := 70) hx hb dX12_goes_40 (of_decide_eq_true rfl) (fun c98 => ?_) (fun c98 => ?_)
              · have kc98 := jne c98 jz_1 t1
                refine lv_aload_n hx hb dX12_goes_70 rfl (lv_at hl 2 rfl) ?_
                refine va_get (D := D) hx hb hts inlX12 hown hK hP 55 (jc_55 cI cL ad σ67 τ) rfl 28 (of_decide_eq_true rfl) (hts _ kw_7_14) (fun _ h9 => h9) rfl dX12_goes_71 ?_
                refine lv_iload hx hb dX12_goes_74 (lv_at hl 1 rfl) ?_
                refine jald hx hb hK hP (jc_68 cI cL ad σ67 τ) (jin jz_1 (by omega) (by omega)) dX12_goes_76 ?_
                refine jtopr (y := σ67 68 1) rfl ?_
                refine jtopr m70 ?_
                exact by
                 refine lv_if_le (tgt := 92) hx hb dX12_goes_77 (of_decide_eq_true rfl) (fun c99 => ?_) (fun c99 => ?_)
                 · have kc99 := jle c99 rfl jz_0
                   refine lv_iconst (v := 0) hx hb dX12_goes_92 (of_decide_eq_true rfl) ?_
                   exact by exact jn75 0 (by have h9 := jz_0; omega) (jSn_r (σ := σ) (k := 1) (by have h9 := jz_0; omega))
                 · have kc99 := jnle c99 rfl jz_0
                   refine lv_aload_n hx hb dX12_goes_80 rfl (lv_at hl 2 rfl) ?_
                   refine va_get (D := D) hx hb hts inlX12 hown hK hP 55 (jc_55 cI cL ad σ67 τ) rfl 28 (of_decide_eq_true rfl) (hts _ kw_7_14) (fun _ h9 => h9) rfl dX12_goes_81 ?_
                   refine lv_iload hx hb dX12_goes_84 (lv_at hl 1 rfl) ?_
                   refine jald hx hb hK hP (jc_68 cI cL ad σ67 τ) (jin jz_1 (by omega) (by omega)) dX12_goes_86 ?_
                   exact by
                    refine jtopr (y := σ67 68 1) rfl ?_
                    refine jtopr m70 ?_
                    refine lv_iconst (v := 1) hx hb dX12_goes_87 (of_decide_eq_true rfl) ?_
                    refine lv_isub hx hb dX12_goes_88 ?_
                    refine lv_topi (fun x100 ex100 => ?_)
                    have tx100 : x100.toInt = (σ 68 1).toInt - 1 := (jsub ex100 rfl jz_1 (by omega) (by omega)).trans (by omega)
                    refine lv_goto (tgt := 93) hx hb dX12_goes_89 (of_decide_eq_true rfl) ?_
                    exact by exact jn75 x100 (by have h9 := tx100; omega) (jSn_r (σ := σ) (k := 1) (by have h9 := tx100; omega))
              · have kc98 := jeq c98 jz_1 t1
                exact by
                 refine lv_aload_n hx hb dX12_goes_43 rfl (lv_at hl 2 rfl) ?_
                 refine va_get (D := D) hx hb hts inlX12 hown hK hP 55 (jc_55 cI cL ad σ67 τ) rfl 28 (of_decide_eq_true rfl) (hts _ kw_7_14) (fun _ h9 => h9) rfl dX12_goes_44 ?_
                 refine lv_iload hx hb dX12_goes_47 (lv_at hl 1 rfl) ?_
                 refine jald hx hb hK hP (jc_68 cI cL ad σ67 τ) (jin jz_1 (by omega) (by omega)) dX12_goes_49 ?_
                 refine jtopr (y := σ67 68 1) rfl ?_
                 refine jtopr m70 ?_
                 refine lv_iconst (v := 3) hx hb dX12_goes_50 (of_decide_eq_true rfl) ?_
                 refine lv_icmp_ge (tgt := 66) hx hb dX12_goes_51 (of_decide_eq_true rfl) (fun c101 => ?_) (fun c101 => ?_)
                 · have kc101 := jle c101 jz_3 rfl
                   exact by
                    refine lv_iconst (v := 3) hx hb dX12_goes_66 (of_decide_eq_true rfl) ?_
                    refine lv_goto (tgt := 93) hx hb dX12_goes_67 (of_decide_eq_true rfl) ?_
                    exact by exact jn75 3 (by have h9 := jz_3; omega) (jSn_r (σ := σ) (k := 1) (by have h9 := jz_3; omega))
                 · have kc101 := jnle c101 jz_3 rfl
                   refine lv_aload_n hx hb dX12_goes_54 rfl (lv_at hl 2 rfl) ?_
                   refine va_get (D := D) hx hb hts inlX12 hown hK hP 55 (jc_55 cI cL ad σ67 τ) rfl 28 (of_decide_eq_true rfl) (hts _ kw_7_14) (fun _ h9 => h9) rfl dX12_goes_55 ?_
                   refine lv_iload hx hb dX12_goes_58 (lv_at hl 1 rfl) ?_
                   refine jald hx hb hK hP (jc_68 cI cL ad σ67 τ) (jin jz_1 (by omega) (by omega)) dX12_goes_60 ?_
                   refine jtopr (y := σ67 68 1) rfl ?_
                   exact by
                    refine jtopr m70 ?_
                    refine lv_iconst (v := 1) hx hb dX12_goes_61 (of_decide_eq_true rfl) ?_
                    refine lv_iadd hx hb dX12_goes_62 ?_
                    refine lv_topi (fun x102 ex102 => ?_)
                    have tx102 : x102.toInt = (σ 68 1).toInt + 1 := (jadd ex102 rfl jz_1 (by omega) (by omega)).trans (by omega)
                    refine lv_goto (tgt := 93) hx hb dX12_goes_63 (of_decide_eq_true rfl) ?_
                    exact by exact jn75 x102 (by have h9 := tx102; omega) (jSn_r (σ := σ) (k := 1) (by have h9 := tx102; omega))
       refine lv_iload hx hb dX12_goes_37 (lv_at hl 1 rfl) ?_
       refine lv_iload_n hx hb dX12_goes_39 rfl (lv_at hl 3 rfl) ?_
       exact by
        refine lv_icmp_ne (tgt := 70) hx hb dX12_goes_40 (of_decide_eq_true rfl) (fun c103 => ?_) (fun c103 => ?_)
        · have kc103 := jne c103 jz_0 t1
          refine lv_aload_n hx hb dX12_goes_70 rfl (lv_at hl 2 rfl) ?_
          refine va_get (D := D) hx hb hts inlX12 hown hK hP 55 (jc_55 cI cL ad σ τ) rfl 28 (of_decide_eq_true rfl) (hts _ kw_7_14) (fun _ h9 => h9) rfl dX12_goes_71 ?_
          refine lv_iload hx hb dX12_goes_74 (lv_at hl 1 rfl) ?_
          refine jald hx hb hK hP (jc_68 cI cL ad σ τ) (jin jz_0 (by omega) (by omega)) dX12_goes_76 ?_
          refine jtopr (y := σ 68 0) rfl ?_
          refine lv_if_le (tgt := 92) hx hb dX12_goes_77 (of_decide_eq_true rfl) (fun c104 => ?_) (fun c104 => ?_)
          · have kc104 := jle c104 rfl jz_0
            exact by
             refine lv_iconst (v := 0) hx hb dX12_goes_92 (of_decide_eq_true rfl) ?_
             exact by exact jn63 0 (by have h9 := jz_0; omega) (jSn_r (σ := σ) (k := 0) (by have h9 := jz_0; omega))
          · have kc104 := jnle c104 rfl jz_0
            refine lv_aload_n hx hb dX12_goes_80 rfl (lv_at hl 2 rfl) ?_
            refine va_get (D := D) hx hb hts inlX12 hown hK hP 55 (jc_55 cI cL ad σ τ) rfl 28 (of_decide_eq_true rfl) (hts _ kw_7_14) (fun _ h9 => h9) rfl dX12_goes_81 ?_
            refine lv_iload hx hb dX12_goes_84 (lv_at hl 1 rfl) ?_
            refine jald hx hb hK hP (jc_68 cI cL ad σ τ) (jin jz_0 (by omega) (by omega)) dX12_goes_86 ?_
            refine jtopr (y := σ 68 0) rfl ?_
            refine lv_iconst (v := 1) hx hb dX12_goes_87 (of_decide_eq_true rfl) ?_
            exact by
             refine lv_isub hx hb dX12_goes_88 ?_
             refine lv_topi (fun x105 ex105 => ?_)
             have tx105 : x105.toInt = (σ 68 0).toInt - 1 := (jsub ex105 rfl jz_1 (by omega) (by omega)).trans (by omega)
             refine lv_goto (tgt := 93) hx hb dX12_goes_89 (of_decide_eq_true rfl) ?_
             exact by exact jn63 x105 (by have h9 := tx105; omega) (jSn_r (σ := σ) (k := 0) (by have h9 := tx105; omega))
        · have kc103 := jeq c103 jz_0 t1
          refine lv_aload_n hx hb dX12_goes_43 rfl (lv_at hl 2 rfl) ?_
          refine va_get (D := D) hx hb hts inlX12 hown hK hP 55 (jc_55 cI cL ad σ τ) rfl 28 (of_decide_eq_true rfl) (hts _ kw_7_14) (fun _ h9 => h9) rfl dX12_goes_44 ?_
          refine lv_iload hx hb dX12_goes_47 (lv_at hl 1 rfl) ?_
          exact by
           refine jald hx hb hK hP (jc_68 cI cL ad σ τ) (jin jz_0 (by omega) (by omega)) dX12_goes_49 ?_
           refine jtopr (y := σ 68 0) rfl ?_
           refine lv_iconst (v := 3) hx hb dX12_goes_50 (of_decide_eq_true rfl) ?_
           refine lv_icmp_ge (tgt := 66) hx hb dX12_goes_51 (of_decide_eq_true rfl) (fun c106 => ?_) (fun c106 => ?_)
           · have kc106 := jle c106 jz_3 rfl
             refine lv_iconst (v := 3) hx hb dX12_goes_66 (of_decide_eq_true rfl) ?_
             refine lv_goto (tgt := 93) hx hb dX12_goes_67 (of_decide_eq_true rfl) ?_
             exact by exact jn63 3 (by have h9 := jz_3; omega) (jSn_r (σ := σ) (k := 0) (by have h9 := jz_3; omega))
           · have kc106 := jnle c106 jz_3 rfl
             refine lv_aload_n hx hb dX12_goes_54 rfl (lv_at hl 2 rfl) ?_
             refine va_get (D := D) hx hb hts inlX12 hown hK hP 55 (jc_55 cI cL ad σ τ) rfl 28 (of_decide_eq_true rfl) (hts _ kw_7_14) (fun _ h9 => h9) rfl dX12_goes_55 ?_
             refine lv_iload hx hb dX12_goes_58 (lv_at hl 1 rfl) ?_
             exact by
              refine jald hx hb hK hP (jc_68 cI cL ad σ τ) (jin jz_0 (by omega) (by omega)) dX12_goes_60 ?_
              refine jtopr (y := σ 68 0) rfl ?_
              refine lv_iconst (v := 1) hx hb dX12_goes_61 (of_decide_eq_true rfl) ?_
              refine lv_iadd hx hb dX12_goes_62 ?_
              refine lv_topi (fun x107 ex107 => ?_)
              have tx107 : x107.toInt = (σ 68 0).toInt + 1 := (jadd ex107 rfl jz_1 (by omega) (by omega)).trans (by omega)
              refine lv_goto (tgt := 93) hx hb dX12_goes_63 (of_decide_eq_true rfl) ?_
              exact by exact jn63 x107 (by have h9 := tx107; omega) (jSn_r (σ := σ) (k := 0) (by have h9 := tx107; omega))
  have kc56 := jne c56 (rfl : (σ 55 6).toInt = (σ 55 6).toInt) jz_2
  by_cases c108 : σ 55 6 = 3
  · exact by
     have kc108 := jeq c108 (rfl : (σ 55 6).toInt = (σ 55 6).toInt) jz_3
     refine lv_aload_n hx hb dX12_goes_0 rfl (lv_at hl 0 rfl) ?_
     refine va_get (D := D) hx hb hts inlX12 hown hK hP 55 (jc_55 cI cL ad σ τ) rfl 27 (of_decide_eq_true rfl) (hts _ kw_23_11) (fun _ h9 => h9) rfl dX12_goes_1 ?_
     refine lv_iconst (v := 1) hx hb dX12_goes_4 (of_decide_eq_true rfl) ?_
     have g109 := jrg (rfl : (σ 55 27).toInt = (σ 55 27).toInt)
     refine lv_iadd hx hb dX12_goes_5 ?_
     refine lv_topi (fun x110 ex110 => ?_)
     have tx110 : x110.toInt = (σ 55 27).toInt + 1 := (jadd ex110 rfl jz_1 (by omega) (by omega)).trans (by omega)
     refine lv_istore_n (lv' := [(3, .int x110), (0, .ref (ad 55)), (1, .int a1), (2, .int 1)]) hx hb dX12_goes_6 rfl hl (of_decide_eq_true rfl) rfl (fun ls hl => ?_)
     exact by
      refine lv_iconst (v := 0) hx hb dX12_goes_7 (of_decide_eq_true rfl) ?_
      refine lv_istore (lv' := [(4, .int 0), (3, .int x110), (0, .ref (ad 55)), (1, .int a1), (2, .int 1)]) hx hb dX12_goes_8 hl (of_decide_eq_true rfl) rfl (fun ls hl => ?_)
      refine lv_iload hx hb dX12_goes_10 (lv_at hl 0 rfl) ?_
      refine lv_aload_n hx hb dX12_goes_12 rfl (lv_at hl 2 rfl) ?_
      refine va_get (D := D) hx hb hts inlX12 hown hK hP 55 (jc_55 cI cL ad σ τ) rfl 6 (of_decide_eq_true rfl) (hts _ kw_9_13) (fun _ h9 => h9) rfl dX12_goes_13 ?_
      refine jtopr c108 ?_
      refine lv_icmp_ge (tgt := 100) hx hb dX12_goes_16 (of_decide_eq_true rfl) (fun c => absurd c (of_decide_eq_true rfl)) (fun _ => ?_)
      refine lv_iconst (v := 4) hx hb dX12_goes_19 (of_decide_eq_true rfl) ?_
      refine lv_iload_n hx hb dX12_goes_20 rfl (lv_at hl 1 rfl) ?_
      refine lv_imul hx hb dX12_goes_21 ?_
      refine lv_topi (fun x111 ex111 => ?_)
      exact by
       have tx111 : x111.toInt = 4 * (σ 55 27).toInt + 4 := (jmul ex111 jz_4 tx110 (by omega) (by omega)).trans (by omega)
       refine lv_aload_n hx hb dX12_goes_22 rfl (lv_at hl 2 rfl) ?_
       refine va_get (D := D) hx hb hts inlX12 hown hK hP 55 (jc_55 cI cL ad σ τ) rfl 28 (of_decide_eq_true rfl) (hts _ kw_7_14) (fun _ h9 => h9) rfl dX12_goes_23 ?_
       refine lv_iload hx hb dX12_goes_26 (lv_at hl 0 rfl) ?_
       refine jald hx hb hK hP (jc_68 cI cL ad σ τ) (jin jz_0 (by omega) (by omega)) dX12_goes_28 ?_
       refine jtopr (y := σ 68 0) rfl ?_
       have g112 := hw68 0 (of_decide_eq_true rfl)
       have g113 := jrg (rfl : (σ 68 0).toInt = (σ 68 0).toInt)
       refine lv_iadd hx hb dX12_goes_29 ?_
       exact by
        refine lv_topi (fun x114 ex114 => ?_)
        have tx114 : x114.toInt = 4 * (σ 55 27).toInt + (σ 68 0).toInt + 4 := (jadd ex114 tx111 rfl (by omega) (by omega)).trans (by omega)
        refine lv_istore_n (lv' := [(3, .int x114), (4, .int 0), (0, .ref (ad 55)), (1, .int a1), (2, .int 1)]) hx hb dX12_goes_30 rfl hl (of_decide_eq_true rfl) rfl (fun ls hl => ?_)
        refine lv_aload_n hx hb dX12_goes_31 rfl (lv_at hl 2 rfl) ?_
        refine va_get (D := D) hx hb hts inlX12 hown hK hP 55 (jc_55 cI cL ad σ τ) rfl 28 (of_decide_eq_true rfl) (hts _ kw_7_14) (fun _ h9 => h9) rfl dX12_goes_32 ?_
        refine lv_iload hx hb dX12_goes_35 (lv_at hl 1 rfl) ?_
        have jn115 : ∀ (x116 : Int32), (0 ≤ x116.toInt ∧ x116.toInt ≤ 3) → (x116.toInt = jSn (jrS σ) (A1).toNat 0) → W p l e ({ frames := 0, cells := 0, slots := 0, locals := 0 }) s m args below meth c s.heap [] 0 0 Q (F0 m 93 ls [.int x116, .int 0, .ref (ad 68)]) := by
          intro x116 k117 k118
          refine jast hx hb hK hP hJ hA hS (jc_68 cI cL ad σ τ) (ja_68 cI cL ad σ τ _ _) (jin jz_0 (by omega) (by omega)) dX12_goes_93 (fun σ119 H locs eσ119 hP hS => ?_)
          exact by
           have eσ119 : σ119 = jup σ 68 0 x116 := eσ119
           refine lv_iinc (v := 1) (lv' := [(4, .int 1), (3, .int x114), (0, .ref (ad 55)), (1, .int a1), (2, .int 1)]) hx hb dX12_goes_94 hl (k := 1) rfl (of_decide_eq_true rfl) (of_decide_eq_true rfl) rfl (fun ls hl => ?_)
           refine lv_goto (tgt := 10) hx hb dX12_goes_97 (of_decide_eq_true rfl) ?_
           refine lv_iload hx hb dX12_goes_10 (lv_at hl 0 rfl) ?_
           refine lv_aload_n hx hb dX12_goes_12 rfl (lv_at hl 2 rfl) ?_
           refine va_get (D := D) hx hb hts inlX12 hown hK hP 55 (jc_55 cI cL ad σ119 τ) rfl 6 (of_decide_eq_true rfl) (hts _ kw_9_13) (fun _ h9 => h9) rfl dX12_goes_13 ?_
           have m120 : σ119 55 6 = 3 := ((congrFun (jnp 55 eσ119 (of_decide_eq_true rfl)) 6).trans c108)
           refine jtopr m120 ?_
           refine lv_icmp_ge (tgt := 100) hx hb dX12_goes_16 (of_decide_eq_true rfl) (fun c => absurd c (of_decide_eq_true rfl)) (fun _ => ?_)
           refine lv_iconst (v := 4) hx hb dX12_goes_19 (of_decide_eq_true rfl) ?_
           refine lv_iload_n hx hb dX12_goes_20 rfl (lv_at hl 1 rfl) ?_
           refine lv_imul hx hb dX12_goes_21 ?_
           refine lv_topi (fun x121 ex121 => ?_)
           exact by
            have tx121 : x121.toInt = 16 * (σ 55 27).toInt + 4 * (σ 68 0).toInt + 16 := (jmul ex121 jz_4 tx114 (by omega) (by omega)).trans (by omega)
            refine lv_aload_n hx hb dX12_goes_22 rfl (lv_at hl 2 rfl) ?_
            refine va_get (D := D) hx hb hts inlX12 hown hK hP 55 (jc_55 cI cL ad σ119 τ) rfl 28 (of_decide_eq_true rfl) (hts _ kw_7_14) (fun _ h9 => h9) rfl dX12_goes_23 ?_
            refine lv_iload hx hb dX12_goes_26 (lv_at hl 0 rfl) ?_
            refine jald hx hb hK hP (jc_68 cI cL ad σ119 τ) (jin jz_1 (by omega) (by omega)) dX12_goes_28 ?_
            refine jtopr (y := σ119 68 1) rfl ?_
            have m122 : σ119 68 1 = (σ 68 1) := (jkp 1 eσ119 (of_decide_eq_true rfl))
            refine jtopr m122 ?_
            have w123 : ∀ k : Nat, k < 4 → 0 ≤ (σ119 68 k).toInt ∧ (σ119 68 k).toInt ≤ 3 := (by rw [eσ119]; exact jrr_up hw68 (by omega) (by omega))
            exact by
             have g124 := w123 1 (of_decide_eq_true rfl)
             rw [m122] at g124
             have g125 := jrg (rfl : (σ 68 1).toInt = (σ 68 1).toInt)
             refine lv_iadd hx hb dX12_goes_29 ?_
             refine lv_topi (fun x126 ex126 => ?_)
             have tx126 : x126.toInt = 16 * (σ 55 27).toInt + 4 * (σ 68 0).toInt + (σ 68 1).toInt + 16 := (jadd ex126 tx121 rfl (by omega) (by omega)).trans (by omega)
             refine lv_istore_n (lv' := [(3, .int x126), (4, .int 1), (0, .ref (ad 55)), (1, .int a1), (2, .int 1)]) hx hb dX12_goes_30 rfl hl (of_decide_eq_true rfl) rfl (fun ls hl => ?_)
             refine lv_aload_n hx hb dX12_goes_31 rfl (lv_at hl 2 rfl) ?_
             refine va_get (D := D) hx hb hts inlX12 hown hK hP 55 (jc_55 cI cL ad σ119 τ) rfl 28 (of_decide_eq_true rfl) (hts _ kw_7_14) (fun _ h9 => h9) rfl dX12_goes_32 ?_
             exact by
              refine lv_iload hx hb dX12_goes_35 (lv_at hl 1 rfl) ?_
              have jn127 : ∀ (x128 : Int32), (0 ≤ x128.toInt ∧ x128.toInt ≤ 3) → (x128.toInt = jSn (jrS σ) (A1).toNat 1) → W p l e ({ frames := 0, cells := 0, slots := 0, locals := 0 }) s m args below meth c H locs 0 0 Q (F0 m 93 ls [.int x128, .int 1, .ref (ad 68)]) := by
                intro x128 k129 k130
                refine jast hx hb hK hP hJ hA hS (jc_68 cI cL ad σ119 τ) (ja_68 cI cL ad σ119 τ _ _) (jin jz_1 (by omega) (by omega)) dX12_goes_93 (fun σ131 H locs eσ131 hP hS => ?_)
                have eσ131 : σ131 = jup σ119 68 1 x128 := eσ131
                refine lv_iinc (v := 2) (lv' := [(4, .int 2), (3, .int x126), (0, .ref (ad 55)), (1, .int a1), (2, .int 1)]) hx hb dX12_goes_94 hl (k := 1) rfl (of_decide_eq_true rfl) (of_decide_eq_true rfl) rfl (fun ls hl => ?_)
                refine lv_goto (tgt := 10) hx hb dX12_goes_97 (of_decide_eq_true rfl) ?_
                refine lv_iload hx hb dX12_goes_10 (lv_at hl 0 rfl) ?_
                refine lv_aload_n hx hb dX12_goes_12 rfl (lv_at hl 2 rfl) ?_
                exact by
                 refine va_get (D := D) hx hb hts inlX12 hown hK hP 55 (jc_55 cI cL ad σ131 τ) rfl 6 (of_decide_eq_true rfl) (hts _ kw_9_13) (fun _ h9 => h9) rfl dX12_goes_13 ?_
                 have m132 : σ131 55 6 = 3 := ((congrFun (jnp 55 eσ131 (of_decide_eq_true rfl)) 6).trans m120)
                 refine jtopr m132 ?_
                 refine lv_icmp_ge (tgt := 100) hx hb dX12_goes_16 (of_decide_eq_true rfl) (fun c => absurd c (of_decide_eq_true rfl)) (fun _ => ?_)
                 refine lv_iconst (v := 4) hx hb dX12_goes_19 (of_decide_eq_true rfl) ?_
                 refine lv_iload_n hx hb dX12_goes_20 rfl (lv_at hl 1 rfl) ?_
                 refine lv_imul hx hb dX12_goes_21 ?_
                 refine lv_topi (fun x133 ex133 => ?_)
                 have tx133 : x133.toInt = 64 * (σ 55 27).toInt + 16 * (σ 68 0).toInt + 4 * (σ 68 1).toInt + 64 := (jmul ex133 jz_4 tx126 (by omega) (by omega)).trans (by omega)
                 exact by
                  refine lv_aload_n hx hb dX12_goes_22 rfl (lv_at hl 2 rfl) ?_
                  refine va_get (D := D) hx hb hts inlX12 hown hK hP 55 (jc_55 cI cL ad σ131 τ) rfl 28 (of_decide_eq_true rfl) (hts _ kw_7_14) (fun _ h9 => h9) rfl dX12_goes_23 ?_
                  refine lv_iload hx hb dX12_goes_26 (lv_at hl 0 rfl) ?_
                  refine jald hx hb hK hP (jc_68 cI cL ad σ131 τ) (jin jz_2 (by omega) (by omega)) dX12_goes_28 ?_
                  refine jtopr (y := σ131 68 2) rfl ?_
                  have m134 : σ131 68 2 = (σ 68 2) := ((jkp 2 eσ131 (of_decide_eq_true rfl)).trans (jkp 2 eσ119 (of_decide_eq_true rfl)))
                  refine jtopr m134 ?_
                  have w135 : ∀ k : Nat, k < 4 → 0 ≤ (σ131 68 k).toInt ∧ (σ131 68 k).toInt ≤ 3 := (by rw [eσ131]; exact jrr_up w123 (by omega) (by omega))
                  have g136 := w135 2 (of_decide_eq_true rfl)
                  rw [m134] at g136
                  exact by
                   have g137 := jrg (rfl : (σ 68 2).toInt = (σ 68 2).toInt)
                   refine lv_iadd hx hb dX12_goes_29 ?_
                   refine lv_topi (fun x138 ex138 => ?_)
                   have tx138 : x138.toInt = 64 * (σ 55 27).toInt + 16 * (σ 68 0).toInt + 4 * (σ 68 1).toInt + (σ 68 2).toInt + 64 := (jadd ex138 tx133 rfl (by omega) (by omega)).trans (by omega)
                   refine lv_istore_n (lv' := [(3, .int x138), (4, .int 2), (0, .ref (ad 55)), (1, .int a1), (2, .int 1)]) hx hb dX12_goes_30 rfl hl (of_decide_eq_true rfl) rfl (fun ls hl => ?_)
                   refine lv_aload_n hx hb dX12_goes_31 rfl (lv_at hl 2 rfl) ?_
                   refine va_get (D := D) hx hb hts inlX12 hown hK hP 55 (jc_55 cI cL ad σ131 τ) rfl 28 (of_decide_eq_true rfl) (hts _ kw_7_14) (fun _ h9 => h9) rfl dX12_goes_32 ?_
                   refine lv_iload hx hb dX12_goes_35 (lv_at hl 1 rfl) ?_
                   have jn139 : ∀ (x140 : Int32), (0 ≤ x140.toInt ∧ x140.toInt ≤ 3) → (x140.toInt = jSn (jrS σ) (A1).toNat 2) → W p l e ({ frames := 0, cells := 0, slots := 0, locals := 0 }) s m args below meth c H locs 0 0 Q (F0 m 93 ls [.int x140, .int 2, .ref (ad 68)]) := by
                     intro x140 k141 k142
                     exact by
                      refine jast hx hb hK hP hJ hA hS (jc_68 cI cL ad σ131 τ) (ja_68 cI cL ad σ131 τ _ _) (jin jz_2 (by omega) (by omega)) dX12_goes_93 (fun σ143 H locs eσ143 hP hS => ?_)
                      have eσ143 : σ143 = jup σ131 68 2 x140 := eσ143
                      refine lv_iinc (v := 3) (lv' := [(4, .int 3), (3, .int x138), (0, .ref (ad 55)), (1, .int a1), (2, .int 1)]) hx hb dX12_goes_94 hl (k := 1) rfl (of_decide_eq_true rfl) (of_decide_eq_true rfl) rfl (fun ls hl => ?_)
                      refine lv_goto (tgt := 10) hx hb dX12_goes_97 (of_decide_eq_true rfl) ?_
                      refine lv_iload hx hb dX12_goes_10 (lv_at hl 0 rfl) ?_
                      refine lv_aload_n hx hb dX12_goes_12 rfl (lv_at hl 2 rfl) ?_
                      refine va_get (D := D) hx hb hts inlX12 hown hK hP 55 (jc_55 cI cL ad σ143 τ) rfl 6 (of_decide_eq_true rfl) (hts _ kw_9_13) (fun _ h9 => h9) rfl dX12_goes_13 ?_
                      have m144 : σ143 55 6 = 3 := ((congrFun (jnp 55 eσ143 (of_decide_eq_true rfl)) 6).trans m132)
                      refine jtopr m144 ?_
                      refine lv_icmp_ge (tgt := 100) hx hb dX12_goes_16 (of_decide_eq_true rfl) (fun _ => ?_) (fun c => absurd (of_decide_eq_true rfl) c)
                      refine lv_aload_n hx hb dX12_goes_100 rfl (lv_at hl 2 rfl) ?_
                      refine va_get (D := D) hx hb hts inlX12 hown hK hP 55 (jc_55 cI cL ad σ143 τ) rfl 29 (of_decide_eq_true rfl) (hts _ kw_7_15) (fun _ h9 => h9) rfl dX12_goes_101 ?_
                      refine lv_iload_n hx hb dX12_goes_104 rfl (lv_at hl 3 rfl) ?_
                      refine lv_dup2_11 hx hb dX12_goes_105 rfl rfl ?_
                      exact by
                       refine jald hx hb hK hP (jc_69 cI cL ad σ143 τ) (jin t1 (by omega) (by omega)) dX12_goes_106 ?_
                       refine lv_topi (fun x145 ex145 => ?_)
                       refine lv_iconst (v := 1) hx hb dX12_goes_107 (of_decide_eq_true rfl) ?_
                       have g146 := jrg (rfl : x145.toInt = x145.toInt)
                       refine lv_iadd hx hb dX12_goes_108 ?_
                       refine lv_topi (fun x147 ex147 => ?_)
                       have gx147 := jrg (rfl : x147.toInt = x147.toInt)
                       refine jast hx hb hK hP hJ hA hS (jc_69 cI cL ad σ143 τ) (ja_69 cI cL ad σ143 τ _ _) (jin t1 (by omega) (by omega)) dX12_goes_109 (fun σ148 H locs eσ148 hP hS => ?_)
                       refine lv_aload_n hx hb dX12_goes_110 rfl (lv_at hl 2 rfl) ?_
                       exact by
                        refine lv_iload_n hx hb dX12_goes_111 rfl (lv_at hl 3 rfl) ?_
                        refine jput (ty := .int) hx hb hts inlX12 tyX12 tyX12_ok nmX12 hown hK hP hJ hA hS (jc_55 cI cL ad σ148 τ) rfl (k := 27) (of_decide_eq_true rfl) (Nat.le_of_ble_eq_true rfl) (jp_55_27 cI cL ad σ148 τ a1) (hts _ kw_23_11) (fun _ h9 => h9) rfl (by decide +kernel) rfl rfl dX12_goes_112 (fun σ149 H locs eσ149 hP hS => ?_)
                        refine lv_aload_n hx hb dX12_goes_115 rfl (lv_at hl 2 rfl) ?_
                        refine lv_dup hx hb dX12_goes_116 rfl ?_
                        refine va_get (D := D) hx hb hts inlX12 hown hK hP 55 (jc_55 cI cL ad σ149 τ) rfl 26 (of_decide_eq_true rfl) (hts _ kw_23_5) (fun _ h9 => h9) rfl dX12_goes_117 ?_
                        have m150 : σ149 55 26 = (σ 55 26) := ((jkp 26 eσ149 (of_decide_eq_true rfl)).trans ((congrFun (jnp 55 eσ148 (of_decide_eq_true rfl)) 26).trans ((congrFun (jnp 55 eσ143 (of_decide_eq_true rfl)) 26).trans ((congrFun (jnp 55 eσ131 (of_decide_eq_true rfl)) 26).trans (congrFun (jnp 55 eσ119 (of_decide_eq_true rfl)) 26)))))
                        refine jtopr m150 ?_
                        refine lv_iconst (v := 1) hx hb dX12_goes_120 (of_decide_eq_true rfl) ?_
                        have g151 := jrg (rfl : (σ 55 26).toInt = (σ 55 26).toInt)
                        refine lv_iadd hx hb dX12_goes_121 ?_
                        refine lv_topi (fun x152 ex152 => ?_)
                        exact by
                         have tx152 : x152.toInt = (σ 55 26).toInt + 1 := (jadd ex152 rfl jz_1 (by omega) (by omega)).trans (by omega)
                         refine jput (ty := .int) hx hb hts inlX12 tyX12 tyX12_ok nmX12 hown hK hP hJ hA hS (jc_55 cI cL ad σ149 τ) rfl (k := 26) (of_decide_eq_true rfl) (Nat.le_of_ble_eq_true rfl) (jp_55_26 cI cL ad σ149 τ x152) (hts _ kw_23_5) (fun _ h9 => h9) rfl (by decide +kernel) rfl rfl dX12_goes_122 (fun σ153 H locs eσ153 hP hS => ?_)
                         refine lv_aload_n hx hb dX12_goes_125 rfl (lv_at hl 2 rfl) ?_
                         refine lv_dup hx hb dX12_goes_126 rfl ?_
                         refine va_get (D := D) hx hb hts inlX12 hown hK hP 55 (jc_55 cI cL ad σ153 τ) rfl 25 (of_decide_eq_true rfl) (hts _ kw_23_6) (fun _ h9 => h9) rfl dX12_goes_127 ?_
                         have m154 : σ153 55 25 = (σ 55 25) := ((jkp 25 eσ153 (of_decide_eq_true rfl)).trans ((jkp 25 eσ149 (of_decide_eq_true rfl)).trans ((congrFun (jnp 55 eσ148 (of_decide_eq_true rfl)) 25).trans ((congrFun (jnp 55 eσ143 (of_decide_eq_true rfl)) 25).trans ((congrFun (jnp 55 eσ131 (of_decide_eq_true rfl)) 25).trans (congrFun (jnp 55 eσ119 (of_decide_eq_true rfl)) 25))))))
                         refine jtopr m154 ?_
                         refine lv_iload_n hx hb dX12_goes_130 rfl (lv_at hl 4 rfl) ?_
                         refine lv_if_eq (tgt := 138) hx hb dX12_goes_131 (of_decide_eq_true rfl) (fun c => absurd c (of_decide_eq_true rfl)) (fun _ => ?_)
                         refine lv_iconst (v := 1) hx hb dX12_goes_134 (of_decide_eq_true rfl) ?_
                         refine lv_goto (tgt := 139) hx hb dX12_goes_135 (of_decide_eq_true rfl) ?_
                         have g155 := jrg (rfl : (σ 55 25).toInt = (σ 55 25).toInt)
                         refine lv_iadd hx hb dX12_goes_139 ?_
                         refine lv_topi (fun x156 ex156 => ?_)
                         exact by
                          have tx156 : x156.toInt = (σ 55 25).toInt + 1 := (jadd ex156 rfl jz_1 (by omega) (by omega)).trans (by omega)
                          refine jput (ty := .int) hx hb hts inlX12 tyX12 tyX12_ok nmX12 hown hK hP hJ hA hS (jc_55 cI cL ad σ153 τ) rfl (k := 25) (of_decide_eq_true rfl) (Nat.le_of_ble_eq_true rfl) (jp_55_25 cI cL ad σ153 τ x156) (hts _ kw_23_6) (fun _ h9 => h9) rfl (by decide +kernel) rfl rfl dX12_goes_140 (fun σ157 H locs eσ157 hP hS => ?_)
                          refine lv_iload_n hx hb dX12_goes_143 rfl (lv_at hl 1 rfl) ?_
                          have w158 : ∀ k : Nat, k < 4 → 0 ≤ (σ157 68 k).toInt ∧ (σ157 68 k).toInt ≤ 3 := (jrr_fr (jnp 68 eσ157 (of_decide_eq_true rfl)) (jrr_fr (jnp 68 eσ153 (of_decide_eq_true rfl)) (jrr_fr (jnp 68 eσ149 (of_decide_eq_true rfl)) (jrr_fr (jnp 68 eσ148 (of_decide_eq_true rfl)) (by rw [eσ143]; exact jrr_up w135 (by omega) (by omega))))))
                          have z159 : (σ157 55 25).toInt = (σ 55 25).toInt + 1 := ((congrArg Int32.toInt (show σ157 55 25 = x156 from (jsp eσ157))).trans tx156)
                          have z160 : (σ157 55 26).toInt = (σ 55 26).toInt + 1 := ((congrArg Int32.toInt (show σ157 55 26 = x152 from ((jkp 26 eσ157 (of_decide_eq_true rfl)).trans (jsp eσ153)))).trans tx152)
                          have z161 : (σ157 55 27).toInt = A1 := ((congrArg Int32.toInt (show σ157 55 27 = a1 from ((jkp 27 eσ157 (of_decide_eq_true rfl)).trans ((jkp 27 eσ153 (of_decide_eq_true rfl)).trans (jsp eσ149))))).trans t1)
                          exact by exact hret x138 σ157 τ _ _ _ _ rfl ⟨rfl, (fun i hi => ((jnp i eσ157 (imp_189 i hi)).trans ((jnp i eσ153 (imp_189 i hi)).trans ((jnp i eσ149 (imp_189 i hi)).trans ((jnp i eσ148 (imp_197 i hi)).trans ((jnp i eσ143 (imp_198 i hi)).trans ((jnp i eσ131 (imp_198 i hi)).trans (jnp i eσ119 (imp_198 i hi))))))))), (fun i hi => ((jkp i eσ157 (imp_192 i hi)).trans ((jkp i eσ153 (imp_191 i hi)).trans ((jkp i eσ149 (imp_190 i hi)).trans ((congrFun (jnp 55 eσ148 (of_decide_eq_true rfl)) i).trans ((congrFun (jnp 55 eσ143 (of_decide_eq_true rfl)) i).trans ((congrFun (jnp 55 eσ131 (of_decide_eq_true rfl)) i).trans (congrFun (jnp 55 eσ119 (of_decide_eq_true rfl)) i)))))))), w158, (by rw [eσ157, jup_n (of_decide_eq_true rfl), eσ153, jup_n (of_decide_eq_true rfl), eσ149, jup_n (of_decide_eq_true rfl), eσ148, jup_row, ex147, ex145, eσ143, jup_n (of_decide_eq_true rfl), eσ131, jup_n (of_decide_eq_true rfl), eσ119, jup_n (of_decide_eq_true rfl)]), (fun k hk => by rw [eσ157, jup_n (of_decide_eq_true rfl), eσ153, jup_n (of_decide_eq_true rfl), eσ149, jup_n (of_decide_eq_true rfl), eσ148, jup_n (of_decide_eq_true rfl), eσ143, jup_k (by omega), eσ131, jup_k (by omega), eσ119, jup_k (by omega)]), (fun c hc => jqll3 (p := fun c => jrS σ157 c = jSn (jrS σ) (A1).toNat c) ((congrArg Int32.toInt (show σ157 68 0 = x116 from ((congrFun (jnp 68 eσ157 (of_decide_eq_true rfl)) 0).trans ((congrFun (jnp 68 eσ153 (of_decide_eq_true rfl)) 0).trans ((congrFun (jnp 68 eσ149 (of_decide_eq_true rfl)) 0).trans ((congrFun (jnp 68 eσ148 (of_decide_eq_true rfl)) 0).trans ((jkp 0 eσ143 (of_decide_eq_true rfl)).trans ((jkp 0 eσ131 (of_decide_eq_true rfl)).trans (jsp eσ119))))))))).trans k118) ((congrArg Int32.toInt (show σ157 68 1 = x128 from ((congrFun (jnp 68 eσ157 (of_decide_eq_true rfl)) 1).trans ((congrFun (jnp 68 eσ153 (of_decide_eq_true rfl)) 1).trans ((congrFun (jnp 68 eσ149 (of_decide_eq_true rfl)) 1).trans ((congrFun (jnp 68 eσ148 (of_decide_eq_true rfl)) 1).trans ((jkp 1 eσ143 (of_decide_eq_true rfl)).trans (jsp eσ131)))))))).trans k130) ((congrArg Int32.toInt (show σ157 68 2 = x140 from ((congrFun (jnp 68 eσ157 (of_decide_eq_true rfl)) 2).trans ((congrFun (jnp 68 eσ153 (of_decide_eq_true rfl)) 2).trans ((congrFun (jnp 68 eσ149 (of_decide_eq_true rfl)) 2).trans ((congrFun (jnp 68 eσ148 (of_decide_eq_true rfl)) 2).trans (jsp eσ143))))))).trans k142) c (by omega)), (by omega), (by omega), (by omega), ⟨trivial, (by have h9 := tx138; omega), (by have h9 := tx138; omega), (by have h9 := tx138; omega), (by have h9 := tx138; omega), (by have h9 := tx138; omega)⟩⟩ hP hS dX12_goes_144
                   refine lv_iload hx hb dX12_goes_37 (lv_at hl 1 rfl) ?_
                   exact by
                    refine lv_iload_n hx hb dX12_goes_39 rfl (lv_at hl 3 rfl) ?_
                    refine lv_icmp_ne (tgt := 70) hx hb dX12_goes_40 (of_decide_eq_true rfl) (fun c162 => ?_) (fun c162 => ?_)
                    · have kc162 := jne c162 jz_2 t1
                      refine lv_aload_n hx hb dX12_goes_70 rfl (lv_at hl 2 rfl) ?_
                      refine va_get (D := D) hx hb hts inlX12 hown hK hP 55 (jc_55 cI cL ad σ131 τ) rfl 28 (of_decide_eq_true rfl) (hts _ kw_7_14) (fun _ h9 => h9) rfl dX12_goes_71 ?_
                      refine lv_iload hx hb dX12_goes_74 (lv_at hl 1 rfl) ?_
                      refine jald hx hb hK hP (jc_68 cI cL ad σ131 τ) (jin jz_2 (by omega) (by omega)) dX12_goes_76 ?_
                      refine jtopr (y := σ131 68 2) rfl ?_
                      refine jtopr m134 ?_
                      exact by
                       refine lv_if_le (tgt := 92) hx hb dX12_goes_77 (of_decide_eq_true rfl) (fun c163 => ?_) (fun c163 => ?_)
                       · have kc163 := jle c163 rfl jz_0
                         refine lv_iconst (v := 0) hx hb dX12_goes_92 (of_decide_eq_true rfl) ?_
                         exact by exact jn139 0 (by have h9 := jz_0; omega) (jSn_r (σ := σ) (k := 2) (by have h9 := jz_0; omega))
                       · have kc163 := jnle c163 rfl jz_0
                         refine lv_aload_n hx hb dX12_goes_80 rfl (lv_at hl 2 rfl) ?_
                         refine va_get (D := D) hx hb hts inlX12 hown hK hP 55 (jc_55 cI cL ad σ131 τ) rfl 28 (of_decide_eq_true rfl) (hts _ kw_7_14) (fun _ h9 => h9) rfl dX12_goes_81 ?_
                         refine lv_iload hx hb dX12_goes_84 (lv_at hl 1 rfl) ?_
                         refine jald hx hb hK hP (jc_68 cI cL ad σ131 τ) (jin jz_2 (by omega) (by omega)) dX12_goes_86 ?_
                         exact by
                          refine jtopr (y := σ131 68 2) rfl ?_
                          refine jtopr m134 ?_
                          refine lv_iconst (v := 1) hx hb dX12_goes_87 (of_decide_eq_true rfl) ?_
                          refine lv_isub hx hb dX12_goes_88 ?_
                          refine lv_topi (fun x164 ex164 => ?_)
                          have tx164 : x164.toInt = (σ 68 2).toInt - 1 := (jsub ex164 rfl jz_1 (by omega) (by omega)).trans (by omega)
                          refine lv_goto (tgt := 93) hx hb dX12_goes_89 (of_decide_eq_true rfl) ?_
                          exact by exact jn139 x164 (by have h9 := tx164; omega) (jSn_r (σ := σ) (k := 2) (by have h9 := tx164; omega))
                    · have kc162 := jeq c162 jz_2 t1
                      exact by
                       refine lv_aload_n hx hb dX12_goes_43 rfl (lv_at hl 2 rfl) ?_
                       refine va_get (D := D) hx hb hts inlX12 hown hK hP 55 (jc_55 cI cL ad σ131 τ) rfl 28 (of_decide_eq_true rfl) (hts _ kw_7_14) (fun _ h9 => h9) rfl dX12_goes_44 ?_
                       refine lv_iload hx hb dX12_goes_47 (lv_at hl 1 rfl) ?_
                       refine jald hx hb hK hP (jc_68 cI cL ad σ131 τ) (jin jz_2 (by omega) (by omega)) dX12_goes_49 ?_
                       refine jtopr (y := σ131 68 2) rfl ?_
                       refine jtopr m134 ?_
                       refine lv_iconst (v := 3) hx hb dX12_goes_50 (of_decide_eq_true rfl) ?_
                       refine lv_icmp_ge (tgt := 66) hx hb dX12_goes_51 (of_decide_eq_true rfl) (fun c165 => ?_) (fun c165 => ?_)
                       · have kc165 := jle c165 jz_3 rfl
                         exact by
                          refine lv_iconst (v := 3) hx hb dX12_goes_66 (of_decide_eq_true rfl) ?_
                          refine lv_goto (tgt := 93) hx hb dX12_goes_67 (of_decide_eq_true rfl) ?_
                          exact by exact jn139 3 (by have h9 := jz_3; omega) (jSn_r (σ := σ) (k := 2) (by have h9 := jz_3; omega))
                       · have kc165 := jnle c165 jz_3 rfl
                         refine lv_aload_n hx hb dX12_goes_54 rfl (lv_at hl 2 rfl) ?_
                         refine va_get (D := D) hx hb hts inlX12 hown hK hP 55 (jc_55 cI cL ad σ131 τ) rfl 28 (of_decide_eq_true rfl) (hts _ kw_7_14) (fun _ h9 => h9) rfl dX12_goes_55 ?_
                         refine lv_iload hx hb dX12_goes_58 (lv_at hl 1 rfl) ?_
                         refine jald hx hb hK hP (jc_68 cI cL ad σ131 τ) (jin jz_2 (by omega) (by omega)) dX12_goes_60 ?_
                         refine jtopr (y := σ131 68 2) rfl ?_
                         exact by
                          refine jtopr m134 ?_
                          refine lv_iconst (v := 1) hx hb dX12_goes_61 (of_decide_eq_true rfl) ?_
                          refine lv_iadd hx hb dX12_goes_62 ?_
                          refine lv_topi (fun x166 ex166 => ?_)
                          have tx166 : x166.toInt = (σ 68 2).toInt + 1 := (jadd ex166 rfl jz_1 (by omega) (by omega)).trans (by omega)
                          refine lv_goto (tgt := 93) hx hb dX12_goes_63 (of_decide_eq_true rfl) ?_
                          exact by exact jn139 x166 (by have h9 := tx166; omega) (jSn_r (σ := σ) (k := 2) (by have h9 := tx166; omega))
              refine lv_iload hx hb dX12_goes_37 (lv_at hl 1 rfl) ?_
              refine lv_iload_n hx hb dX12_goes_39 rfl (lv_at hl 3 rfl) ?_
              exact by
               refine lv_icmp_ne (tgt := 70) hx hb dX12_goes_40 (of_decide_eq_true rfl) (fun c167 => ?_) (fun c167 => ?_)
               · have kc167 := jne c167 jz_1 t1
                 refine lv_aload_n hx hb dX12_goes_70 rfl (lv_at hl 2 rfl) ?_
                 refine va_get (D := D) hx hb hts inlX12 hown hK hP 55 (jc_55 cI cL ad σ119 τ) rfl 28 (of_decide_eq_true rfl) (hts _ kw_7_14) (fun _ h9 => h9) rfl dX12_goes_71 ?_
                 refine lv_iload hx hb dX12_goes_74 (lv_at hl 1 rfl) ?_
                 refine jald hx hb hK hP (jc_68 cI cL ad σ119 τ) (jin jz_1 (by omega) (by omega)) dX12_goes_76 ?_
                 refine jtopr (y := σ119 68 1) rfl ?_
                 refine jtopr m122 ?_
                 refine lv_if_le (tgt := 92) hx hb dX12_goes_77 (of_decide_eq_true rfl) (fun c168 => ?_) (fun c168 => ?_)
                 · exact by
                    have kc168 := jle c168 rfl jz_0
                    refine lv_iconst (v := 0) hx hb dX12_goes_92 (of_decide_eq_true rfl) ?_
                    exact by exact jn127 0 (by have h9 := jz_0; omega) (jSn_r (σ := σ) (k := 1) (by have h9 := jz_0; omega))
                 · have kc168 := jnle c168 rfl jz_0
                   refine lv_aload_n hx hb dX12_goes_80 rfl (lv_at hl 2 rfl) ?_
                   refine va_get (D := D) hx hb hts inlX12 hown hK hP 55 (jc_55 cI cL ad σ119 τ) rfl 28 (of_decide_eq_true rfl) (hts _ kw_7_14) (fun _ h9 => h9) rfl dX12_goes_81 ?_
                   refine lv_iload hx hb dX12_goes_84 (lv_at hl 1 rfl) ?_
                   refine jald hx hb hK hP (jc_68 cI cL ad σ119 τ) (jin jz_1 (by omega) (by omega)) dX12_goes_86 ?_
                   refine jtopr (y := σ119 68 1) rfl ?_
                   exact by
                    refine jtopr m122 ?_
                    refine lv_iconst (v := 1) hx hb dX12_goes_87 (of_decide_eq_true rfl) ?_
                    refine lv_isub hx hb dX12_goes_88 ?_
                    refine lv_topi (fun x169 ex169 => ?_)
                    have tx169 : x169.toInt = (σ 68 1).toInt - 1 := (jsub ex169 rfl jz_1 (by omega) (by omega)).trans (by omega)
                    refine lv_goto (tgt := 93) hx hb dX12_goes_89 (of_decide_eq_true rfl) ?_
                    exact by exact jn127 x169 (by have h9 := tx169; omega) (jSn_r (σ := σ) (k := 1) (by have h9 := tx169; omega))
               · have kc167 := jeq c167 jz_1 t1
                 refine lv_aload_n hx hb dX12_goes_43 rfl (lv_at hl 2 rfl) ?_
                 exact by
                  refine va_get (D := D) hx hb hts inlX12 hown hK hP 55 (jc_55 cI cL ad σ119 τ) rfl 28 (of_decide_eq_true rfl) (hts _ kw_7_14) (fun _ h9 => h9) rfl dX12_goes_44 ?_
                  refine lv_iload hx hb dX12_goes_47 (lv_at hl 1 rfl) ?_
                  refine jald hx hb hK hP (jc_68 cI cL ad σ119 τ) (jin jz_1 (by omega) (by omega)) dX12_goes_49 ?_
                  refine jtopr (y := σ119 68 1) rfl ?_
                  refine jtopr m122 ?_
                  refine lv_iconst (v := 3) hx hb dX12_goes_50 (of_decide_eq_true rfl) ?_
                  refine lv_icmp_ge (tgt := 66) hx hb dX12_goes_51 (of_decide_eq_true rfl) (fun c170 => ?_) (fun c170 => ?_)
                  · have kc170 := jle c170 jz_3 rfl
                    refine lv_iconst (v := 3) hx hb dX12_goes_66 (of_decide_eq_true rfl) ?_
                    exact by
                     refine lv_goto (tgt := 93) hx hb dX12_goes_67 (of_decide_eq_true rfl) ?_
                     exact by exact jn127 3 (by have h9 := jz_3; omega) (jSn_r (σ := σ) (k := 1) (by have h9 := jz_3; omega))
                  · have kc170 := jnle c170 jz_3 rfl
                    refine lv_aload_n hx hb dX12_goes_54 rfl (lv_at hl 2 rfl) ?_
                    refine va_get (D := D) hx hb hts inlX12 hown hK hP 55 (jc_55 cI cL ad σ119 τ) rfl 28 (of_decide_eq_true rfl) (hts _ kw_7_14) (fun _ h9 => h9) rfl dX12_goes_55 ?_
                    refine lv_iload hx hb dX12_goes_58 (lv_at hl 1 rfl) ?_
                    refine jald hx hb hK hP (jc_68 cI cL ad σ119 τ) (jin jz_1 (by omega) (by omega)) dX12_goes_60 ?_
                    refine jtopr (y := σ119 68 1) rfl ?_
                    refine jtopr m122 ?_
                    exact by
                     refine lv_iconst (v := 1) hx hb dX12_goes_61 (of_decide_eq_true rfl) ?_
                     refine lv_iadd hx hb dX12_goes_62 ?_
                     refine lv_topi (fun x171 ex171 => ?_)
                     have tx171 : x171.toInt = (σ 68 1).toInt + 1 := (jadd ex171 rfl jz_1 (by omega) (by omega)).trans (by omega)
                     refine lv_goto (tgt := 93) hx hb dX12_goes_63 (of_decide_eq_true rfl) ?_
                     exact by exact jn127 x171 (by have h9 := tx171; omega) (jSn_r (σ := σ) (k := 1) (by have h9 := tx171; omega))
        refine lv_iload hx hb dX12_goes_37 (lv_at hl 1 rfl) ?_
        refine lv_iload_n hx hb dX12_goes_39 rfl (lv_at hl 3 rfl) ?_
        refine lv_icmp_ne (tgt := 70) hx hb dX12_goes_40 (of_decide_eq_true rfl) (fun c172 => ?_) (fun c172 => ?_)
        · exact by
           have kc172 := jne c172 jz_0 t1
           refine lv_aload_n hx hb dX12_goes_70 rfl (lv_at hl 2 rfl) ?_
           refine va_get (D := D) hx hb hts inlX12 hown hK hP 55 (jc_55 cI cL ad σ τ) rfl 28 (of_decide_eq_true rfl) (hts _ kw_7_14) (fun _ h9 => h9) rfl dX12_goes_71 ?_
           refine lv_iload hx hb dX12_goes_74 (lv_at hl 1 rfl) ?_
           refine jald hx hb hK hP (jc_68 cI cL ad σ τ) (jin jz_0 (by omega) (by omega)) dX12_goes_76 ?_
           refine jtopr (y := σ 68 0) rfl ?_
           refine lv_if_le (tgt := 92) hx hb dX12_goes_77 (of_decide_eq_true rfl) (fun c173 => ?_) (fun c173 => ?_)
           · have kc173 := jle c173 rfl jz_0
             refine lv_iconst (v := 0) hx hb dX12_goes_92 (of_decide_eq_true rfl) ?_
             exact by exact jn115 0 (by have h9 := jz_0; omega) (jSn_r (σ := σ) (k := 0) (by have h9 := jz_0; omega))
           · exact by
              have kc173 := jnle c173 rfl jz_0
              refine lv_aload_n hx hb dX12_goes_80 rfl (lv_at hl 2 rfl) ?_
              refine va_get (D := D) hx hb hts inlX12 hown hK hP 55 (jc_55 cI cL ad σ τ) rfl 28 (of_decide_eq_true rfl) (hts _ kw_7_14) (fun _ h9 => h9) rfl dX12_goes_81 ?_
              refine lv_iload hx hb dX12_goes_84 (lv_at hl 1 rfl) ?_
              refine jald hx hb hK hP (jc_68 cI cL ad σ τ) (jin jz_0 (by omega) (by omega)) dX12_goes_86 ?_
              refine jtopr (y := σ 68 0) rfl ?_
              refine lv_iconst (v := 1) hx hb dX12_goes_87 (of_decide_eq_true rfl) ?_
              refine lv_isub hx hb dX12_goes_88 ?_
              refine lv_topi (fun x174 ex174 => ?_)
              exact by
               have tx174 : x174.toInt = (σ 68 0).toInt - 1 := (jsub ex174 rfl jz_1 (by omega) (by omega)).trans (by omega)
               refine lv_goto (tgt := 93) hx hb dX12_goes_89 (of_decide_eq_true rfl) ?_
               exact by exact jn115 x174 (by have h9 := tx174; omega) (jSn_r (σ := σ) (k := 0) (by have h9 := tx174; omega))
        · have kc172 := jeq c172 jz_0 t1
          refine lv_aload_n hx hb dX12_goes_43 rfl (lv_at hl 2 rfl) ?_
          refine va_get (D := D) hx hb hts inlX12 hown hK hP 55 (jc_55 cI cL ad σ τ) rfl 28 (of_decide_eq_true rfl) (hts _ kw_7_14) (fun _ h9 => h9) rfl dX12_goes_44 ?_
          refine lv_iload hx hb dX12_goes_47 (lv_at hl 1 rfl) ?_
          refine jald hx hb hK hP (jc_68 cI cL ad σ τ) (jin jz_0 (by omega) (by omega)) dX12_goes_49 ?_
          refine jtopr (y := σ 68 0) rfl ?_
          exact by
           refine lv_iconst (v := 3) hx hb dX12_goes_50 (of_decide_eq_true rfl) ?_
           refine lv_icmp_ge (tgt := 66) hx hb dX12_goes_51 (of_decide_eq_true rfl) (fun c175 => ?_) (fun c175 => ?_)
           · have kc175 := jle c175 jz_3 rfl
             refine lv_iconst (v := 3) hx hb dX12_goes_66 (of_decide_eq_true rfl) ?_
             refine lv_goto (tgt := 93) hx hb dX12_goes_67 (of_decide_eq_true rfl) ?_
             exact by exact jn115 3 (by have h9 := jz_3; omega) (jSn_r (σ := σ) (k := 0) (by have h9 := jz_3; omega))
           · have kc175 := jnle c175 jz_3 rfl
             refine lv_aload_n hx hb dX12_goes_54 rfl (lv_at hl 2 rfl) ?_
             refine va_get (D := D) hx hb hts inlX12 hown hK hP 55 (jc_55 cI cL ad σ τ) rfl 28 (of_decide_eq_true rfl) (hts _ kw_7_14) (fun _ h9 => h9) rfl dX12_goes_55 ?_
             refine lv_iload hx hb dX12_goes_58 (lv_at hl 1 rfl) ?_
             exact by
              refine jald hx hb hK hP (jc_68 cI cL ad σ τ) (jin jz_0 (by omega) (by omega)) dX12_goes_60 ?_
              refine jtopr (y := σ 68 0) rfl ?_
              refine lv_iconst (v := 1) hx hb dX12_goes_61 (of_decide_eq_true rfl) ?_
              refine lv_iadd hx hb dX12_goes_62 ?_
              refine lv_topi (fun x176 ex176 => ?_)
              have tx176 : x176.toInt = (σ 68 0).toInt + 1 := (jadd ex176 rfl jz_1 (by omega) (by omega)).trans (by omega)
              refine lv_goto (tgt := 93) hx hb dX12_goes_63 (of_decide_eq_true rfl) ?_
              exact by exact jn115 x176 (by have h9 := tx176; omega) (jSn_r (σ := σ) (k := 0) (by have h9 := tx176; omega))
  have kc108 := jne c108 (rfl : (σ 55 6).toInt = (σ 55 6).toInt) jz_3
  by_cases c177 : σ 55 6 = 4
  · exact by
     have kc177 := jeq c177 (rfl : (σ 55 6).toInt = (σ 55 6).toInt) jz_4
     refine lv_aload_n hx hb dX12_goes_0 rfl (lv_at hl 0 rfl) ?_
     refine va_get (D := D) hx hb hts inlX12 hown hK hP 55 (jc_55 cI cL ad σ τ) rfl 27 (of_decide_eq_true rfl) (hts _ kw_23_11) (fun _ h9 => h9) rfl dX12_goes_1 ?_
     refine lv_iconst (v := 1) hx hb dX12_goes_4 (of_decide_eq_true rfl) ?_
     have g178 := jrg (rfl : (σ 55 27).toInt = (σ 55 27).toInt)
     refine lv_iadd hx hb dX12_goes_5 ?_
     refine lv_topi (fun x179 ex179 => ?_)
     have tx179 : x179.toInt = (σ 55 27).toInt + 1 := (jadd ex179 rfl jz_1 (by omega) (by omega)).trans (by omega)
     refine lv_istore_n (lv' := [(3, .int x179), (0, .ref (ad 55)), (1, .int a1), (2, .int 1)]) hx hb dX12_goes_6 rfl hl (of_decide_eq_true rfl) rfl (fun ls hl => ?_)
     exact by
      refine lv_iconst (v := 0) hx hb dX12_goes_7 (of_decide_eq_true rfl) ?_
      refine lv_istore (lv' := [(4, .int 0), (3, .int x179), (0, .ref (ad 55)), (1, .int a1), (2, .int 1)]) hx hb dX12_goes_8 hl (of_decide_eq_true rfl) rfl (fun ls hl => ?_)
      refine lv_iload hx hb dX12_goes_10 (lv_at hl 0 rfl) ?_
      refine lv_aload_n hx hb dX12_goes_12 rfl (lv_at hl 2 rfl) ?_
      refine va_get (D := D) hx hb hts inlX12 hown hK hP 55 (jc_55 cI cL ad σ τ) rfl 6 (of_decide_eq_true rfl) (hts _ kw_9_13) (fun _ h9 => h9) rfl dX12_goes_13 ?_
      refine jtopr c177 ?_
      refine lv_icmp_ge (tgt := 100) hx hb dX12_goes_16 (of_decide_eq_true rfl) (fun c => absurd c (of_decide_eq_true rfl)) (fun _ => ?_)
      refine lv_iconst (v := 4) hx hb dX12_goes_19 (of_decide_eq_true rfl) ?_
      refine lv_iload_n hx hb dX12_goes_20 rfl (lv_at hl 1 rfl) ?_
      refine lv_imul hx hb dX12_goes_21 ?_
      refine lv_topi (fun x180 ex180 => ?_)
      exact by
       have tx180 : x180.toInt = 4 * (σ 55 27).toInt + 4 := (jmul ex180 jz_4 tx179 (by omega) (by omega)).trans (by omega)
       refine lv_aload_n hx hb dX12_goes_22 rfl (lv_at hl 2 rfl) ?_
       refine va_get (D := D) hx hb hts inlX12 hown hK hP 55 (jc_55 cI cL ad σ τ) rfl 28 (of_decide_eq_true rfl) (hts _ kw_7_14) (fun _ h9 => h9) rfl dX12_goes_23 ?_
       refine lv_iload hx hb dX12_goes_26 (lv_at hl 0 rfl) ?_
       refine jald hx hb hK hP (jc_68 cI cL ad σ τ) (jin jz_0 (by omega) (by omega)) dX12_goes_28 ?_
       refine jtopr (y := σ 68 0) rfl ?_
       have g181 := hw68 0 (of_decide_eq_true rfl)
       have g182 := jrg (rfl : (σ 68 0).toInt = (σ 68 0).toInt)
       refine lv_iadd hx hb dX12_goes_29 ?_
       exact by
        refine lv_topi (fun x183 ex183 => ?_)
        have tx183 : x183.toInt = 4 * (σ 55 27).toInt + (σ 68 0).toInt + 4 := (jadd ex183 tx180 rfl (by omega) (by omega)).trans (by omega)
        refine lv_istore_n (lv' := [(3, .int x183), (4, .int 0), (0, .ref (ad 55)), (1, .int a1), (2, .int 1)]) hx hb dX12_goes_30 rfl hl (of_decide_eq_true rfl) rfl (fun ls hl => ?_)
        refine lv_aload_n hx hb dX12_goes_31 rfl (lv_at hl 2 rfl) ?_
        refine va_get (D := D) hx hb hts inlX12 hown hK hP 55 (jc_55 cI cL ad σ τ) rfl 28 (of_decide_eq_true rfl) (hts _ kw_7_14) (fun _ h9 => h9) rfl dX12_goes_32 ?_
        refine lv_iload hx hb dX12_goes_35 (lv_at hl 1 rfl) ?_
        have jn184 : ∀ (x185 : Int32), (0 ≤ x185.toInt ∧ x185.toInt ≤ 3) → (x185.toInt = jSn (jrS σ) (A1).toNat 0) → W p l e ({ frames := 0, cells := 0, slots := 0, locals := 0 }) s m args below meth c s.heap [] 0 0 Q (F0 m 93 ls [.int x185, .int 0, .ref (ad 68)]) := by
          intro x185 k186 k187
          refine jast hx hb hK hP hJ hA hS (jc_68 cI cL ad σ τ) (ja_68 cI cL ad σ τ _ _) (jin jz_0 (by omega) (by omega)) dX12_goes_93 (fun σ188 H locs eσ188 hP hS => ?_)
          exact by
           have eσ188 : σ188 = jup σ 68 0 x185 := eσ188
           refine lv_iinc (v := 1) (lv' := [(4, .int 1), (3, .int x183), (0, .ref (ad 55)), (1, .int a1), (2, .int 1)]) hx hb dX12_goes_94 hl (k := 1) rfl (of_decide_eq_true rfl) (of_decide_eq_true rfl) rfl (fun ls hl => ?_)
           refine lv_goto (tgt := 10) hx hb dX12_goes_97 (of_decide_eq_true rfl) ?_
           refine lv_iload hx hb dX12_goes_10 (lv_at hl 0 rfl) ?_
           refine lv_aload_n hx hb dX12_goes_12 rfl (lv_at hl 2 rfl) ?_
           refine va_get (D := D) hx hb hts inlX12 hown hK hP 55 (jc_55 cI cL ad σ188 τ) rfl 6 (of_decide_eq_true rfl) (hts _ kw_9_13) (fun _ h9 => h9) rfl dX12_goes_13 ?_
           have m189 : σ188 55 6 = 4 := ((congrFun (jnp 55 eσ188 (of_decide_eq_true rfl)) 6).trans c177)
           refine jtopr m189 ?_
           refine lv_icmp_ge (tgt := 100) hx hb dX12_goes_16 (of_decide_eq_true rfl) (fun c => absurd c (of_decide_eq_true rfl)) (fun _ => ?_)
           refine lv_iconst (v := 4) hx hb dX12_goes_19 (of_decide_eq_true rfl) ?_
           refine lv_iload_n hx hb dX12_goes_20 rfl (lv_at hl 1 rfl) ?_
           refine lv_imul hx hb dX12_goes_21 ?_
           refine lv_topi (fun x190 ex190 => ?_)
           exact by
            have tx190 : x190.toInt = 16 * (σ 55 27).toInt + 4 * (σ 68 0).toInt + 16 := (jmul ex190 jz_4 tx183 (by omega) (by omega)).trans (by omega)
            refine lv_aload_n hx hb dX12_goes_22 rfl (lv_at hl 2 rfl) ?_
            refine va_get (D := D) hx hb hts inlX12 hown hK hP 55 (jc_55 cI cL ad σ188 τ) rfl 28 (of_decide_eq_true rfl) (hts _ kw_7_14) (fun _ h9 => h9) rfl dX12_goes_23 ?_
            refine lv_iload hx hb dX12_goes_26 (lv_at hl 0 rfl) ?_
            refine jald hx hb hK hP (jc_68 cI cL ad σ188 τ) (jin jz_1 (by omega) (by omega)) dX12_goes_28 ?_
            refine jtopr (y := σ188 68 1) rfl ?_
            have m191 : σ188 68 1 = (σ 68 1) := (jkp 1 eσ188 (of_decide_eq_true rfl))
            refine jtopr m191 ?_
            have w192 : ∀ k : Nat, k < 4 → 0 ≤ (σ188 68 k).toInt ∧ (σ188 68 k).toInt ≤ 3 := (by rw [eσ188]; exact jrr_up hw68 (by omega) (by omega))
            exact by
             have g193 := w192 1 (of_decide_eq_true rfl)
             rw [m191] at g193
             have g194 := jrg (rfl : (σ 68 1).toInt = (σ 68 1).toInt)
             refine lv_iadd hx hb dX12_goes_29 ?_
             refine lv_topi (fun x195 ex195 => ?_)
             have tx195 : x195.toInt = 16 * (σ 55 27).toInt + 4 * (σ 68 0).toInt + (σ 68 1).toInt + 16 := (jadd ex195 tx190 rfl (by omega) (by omega)).trans (by omega)
             refine lv_istore_n (lv' := [(3, .int x195), (4, .int 1), (0, .ref (ad 55)), (1, .int a1), (2, .int 1)]) hx hb dX12_goes_30 rfl hl (of_decide_eq_true rfl) rfl (fun ls hl => ?_)
             refine lv_aload_n hx hb dX12_goes_31 rfl (lv_at hl 2 rfl) ?_
             refine va_get (D := D) hx hb hts inlX12 hown hK hP 55 (jc_55 cI cL ad σ188 τ) rfl 28 (of_decide_eq_true rfl) (hts _ kw_7_14) (fun _ h9 => h9) rfl dX12_goes_32 ?_
             exact by
              refine lv_iload hx hb dX12_goes_35 (lv_at hl 1 rfl) ?_
              have jn196 : ∀ (x197 : Int32), (0 ≤ x197.toInt ∧ x197.toInt ≤ 3) → (x197.toInt = jSn (jrS σ) (A1).toNat 1) → W p l e ({ frames := 0, cells := 0, slots := 0, locals := 0 }) s m args below meth c H locs 0 0 Q (F0 m 93 ls [.int x197, .int 1, .ref (ad 68)]) := by
                intro x197 k198 k199
                refine jast hx hb hK hP hJ hA hS (jc_68 cI cL ad σ188 τ) (ja_68 cI cL ad σ188 τ _ _) (jin jz_1 (by omega) (by omega)) dX12_goes_93 (fun σ200 H locs eσ200 hP hS => ?_)
                have eσ200 : σ200 = jup σ188 68 1 x197 := eσ200
                refine lv_iinc (v := 2) (lv' := [(4, .int 2), (3, .int x195), (0, .ref (ad 55)), (1, .int a1), (2, .int 1)]) hx hb dX12_goes_94 hl (k := 1) rfl (of_decide_eq_true rfl) (of_decide_eq_true rfl) rfl (fun ls hl => ?_)
                refine lv_goto (tgt := 10) hx hb dX12_goes_97 (of_decide_eq_true rfl) ?_
                refine lv_iload hx hb dX12_goes_10 (lv_at hl 0 rfl) ?_
                refine lv_aload_n hx hb dX12_goes_12 rfl (lv_at hl 2 rfl) ?_
                exact by
                 refine va_get (D := D) hx hb hts inlX12 hown hK hP 55 (jc_55 cI cL ad σ200 τ) rfl 6 (of_decide_eq_true rfl) (hts _ kw_9_13) (fun _ h9 => h9) rfl dX12_goes_13 ?_
                 have m201 : σ200 55 6 = 4 := ((congrFun (jnp 55 eσ200 (of_decide_eq_true rfl)) 6).trans m189)
                 refine jtopr m201 ?_
                 refine lv_icmp_ge (tgt := 100) hx hb dX12_goes_16 (of_decide_eq_true rfl) (fun c => absurd c (of_decide_eq_true rfl)) (fun _ => ?_)
                 refine lv_iconst (v := 4) hx hb dX12_goes_19 (of_decide_eq_true rfl) ?_
                 refine lv_iload_n hx hb dX12_goes_20 rfl (lv_at hl 1 rfl) ?_
                 refine lv_imul hx hb dX12_goes_21 ?_
                 refine lv_topi (fun x202 ex202 => ?_)
                 have tx202 : x202.toInt = 64 * (σ 55 27).toInt + 16 * (σ 68 0).toInt + 4 * (σ 68 1).toInt + 64 := (jmul ex202 jz_4 tx195 (by omega) (by omega)).trans (by omega)
                 exact by
                  refine lv_aload_n hx hb dX12_goes_22 rfl (lv_at hl 2 rfl) ?_
                  refine va_get (D := D) hx hb hts inlX12 hown hK hP 55 (jc_55 cI cL ad σ200 τ) rfl 28 (of_decide_eq_true rfl) (hts _ kw_7_14) (fun _ h9 => h9) rfl dX12_goes_23 ?_
                  refine lv_iload hx hb dX12_goes_26 (lv_at hl 0 rfl) ?_
                  refine jald hx hb hK hP (jc_68 cI cL ad σ200 τ) (jin jz_2 (by omega) (by omega)) dX12_goes_28 ?_
                  refine jtopr (y := σ200 68 2) rfl ?_
                  have m203 : σ200 68 2 = (σ 68 2) := ((jkp 2 eσ200 (of_decide_eq_true rfl)).trans (jkp 2 eσ188 (of_decide_eq_true rfl)))
                  refine jtopr m203 ?_
                  have w204 : ∀ k : Nat, k < 4 → 0 ≤ (σ200 68 k).toInt ∧ (σ200 68 k).toInt ≤ 3 := (by rw [eσ200]; exact jrr_up w192 (by omega) (by omega))
                  have g205 := w204 2 (of_decide_eq_true rfl)
                  rw [m203] at g205
                  exact by
                   have g206 := jrg (rfl : (σ 68 2).toInt = (σ 68 2).toInt)
                   refine lv_iadd hx hb dX12_goes_29 ?_
                   refine lv_topi (fun x207 ex207 => ?_)
                   have tx207 : x207.toInt = 64 * (σ 55 27).toInt + 16 * (σ 68 0).toInt + 4 * (σ 68 1).toInt + (σ 68 2).toInt + 64 := (jadd ex207 tx202 rfl (by omega) (by omega)).trans (by omega)
                   refine lv_istore_n (lv' := [(3, .int x207), (4, .int 2), (0, .ref (ad 55)), (1, .int a1), (2, .int 1)]) hx hb dX12_goes_30 rfl hl (of_decide_eq_true rfl) rfl (fun ls hl => ?_)
                   refine lv_aload_n hx hb dX12_goes_31 rfl (lv_at hl 2 rfl) ?_
                   refine va_get (D := D) hx hb hts inlX12 hown hK hP 55 (jc_55 cI cL ad σ200 τ) rfl 28 (of_decide_eq_true rfl) (hts _ kw_7_14) (fun _ h9 => h9) rfl dX12_goes_32 ?_
                   refine lv_iload hx hb dX12_goes_35 (lv_at hl 1 rfl) ?_
                   have jn208 : ∀ (x209 : Int32), (0 ≤ x209.toInt ∧ x209.toInt ≤ 3) → (x209.toInt = jSn (jrS σ) (A1).toNat 2) → W p l e ({ frames := 0, cells := 0, slots := 0, locals := 0 }) s m args below meth c H locs 0 0 Q (F0 m 93 ls [.int x209, .int 2, .ref (ad 68)]) := by
                     intro x209 k210 k211
                     exact by
                      refine jast hx hb hK hP hJ hA hS (jc_68 cI cL ad σ200 τ) (ja_68 cI cL ad σ200 τ _ _) (jin jz_2 (by omega) (by omega)) dX12_goes_93 (fun σ212 H locs eσ212 hP hS => ?_)
                      have eσ212 : σ212 = jup σ200 68 2 x209 := eσ212
                      refine lv_iinc (v := 3) (lv' := [(4, .int 3), (3, .int x207), (0, .ref (ad 55)), (1, .int a1), (2, .int 1)]) hx hb dX12_goes_94 hl (k := 1) rfl (of_decide_eq_true rfl) (of_decide_eq_true rfl) rfl (fun ls hl => ?_)
                      refine lv_goto (tgt := 10) hx hb dX12_goes_97 (of_decide_eq_true rfl) ?_
                      refine lv_iload hx hb dX12_goes_10 (lv_at hl 0 rfl) ?_
                      refine lv_aload_n hx hb dX12_goes_12 rfl (lv_at hl 2 rfl) ?_
                      refine va_get (D := D) hx hb hts inlX12 hown hK hP 55 (jc_55 cI cL ad σ212 τ) rfl 6 (of_decide_eq_true rfl) (hts _ kw_9_13) (fun _ h9 => h9) rfl dX12_goes_13 ?_
                      have m213 : σ212 55 6 = 4 := ((congrFun (jnp 55 eσ212 (of_decide_eq_true rfl)) 6).trans m201)
                      refine jtopr m213 ?_
                      refine lv_icmp_ge (tgt := 100) hx hb dX12_goes_16 (of_decide_eq_true rfl) (fun c => absurd c (of_decide_eq_true rfl)) (fun _ => ?_)
                      refine lv_iconst (v := 4) hx hb dX12_goes_19 (of_decide_eq_true rfl) ?_
                      refine lv_iload_n hx hb dX12_goes_20 rfl (lv_at hl 1 rfl) ?_
                      refine lv_imul hx hb dX12_goes_21 ?_
                      refine lv_topi (fun x214 ex214 => ?_)
                      exact by
                       have tx214 : x214.toInt = 256 * (σ 55 27).toInt + 64 * (σ 68 0).toInt + 16 * (σ 68 1).toInt + 4 * (σ 68 2).toInt + 256 := (jmul ex214 jz_4 tx207 (by omega) (by omega)).trans (by omega)
                       refine lv_aload_n hx hb dX12_goes_22 rfl (lv_at hl 2 rfl) ?_
                       refine va_get (D := D) hx hb hts inlX12 hown hK hP 55 (jc_55 cI cL ad σ212 τ) rfl 28 (of_decide_eq_true rfl) (hts _ kw_7_14) (fun _ h9 => h9) rfl dX12_goes_23 ?_
                       refine lv_iload hx hb dX12_goes_26 (lv_at hl 0 rfl) ?_
                       refine jald hx hb hK hP (jc_68 cI cL ad σ212 τ) (jin jz_3 (by omega) (by omega)) dX12_goes_28 ?_
                       refine jtopr (y := σ212 68 3) rfl ?_
                       have m215 : σ212 68 3 = (σ 68 3) := ((jkp 3 eσ212 (of_decide_eq_true rfl)).trans ((jkp 3 eσ200 (of_decide_eq_true rfl)).trans (jkp 3 eσ188 (of_decide_eq_true rfl))))
                       refine jtopr m215 ?_
                       have w216 : ∀ k : Nat, k < 4 → 0 ≤ (σ212 68 k).toInt ∧ (σ212 68 k).toInt ≤ 3 := (by rw [eσ212]; exact jrr_up w204 (by omega) (by omega))
                       exact by
                        have g217 := w216 3 (of_decide_eq_true rfl)
                        rw [m215] at g217
                        have g218 := jrg (rfl : (σ 68 3).toInt = (σ 68 3).toInt)
                        refine lv_iadd hx hb dX12_goes_29 ?_
                        refine lv_topi (fun x219 ex219 => ?_)
                        have tx219 : x219.toInt = 256 * (σ 55 27).toInt + 64 * (σ 68 0).toInt + 16 * (σ 68 1).toInt + 4 * (σ 68 2).toInt + (σ 68 3).toInt + 256 := (jadd ex219 tx214 rfl (by omega) (by omega)).trans (by omega)
                        refine lv_istore_n (lv' := [(3, .int x219), (4, .int 3), (0, .ref (ad 55)), (1, .int a1), (2, .int 1)]) hx hb dX12_goes_30 rfl hl (of_decide_eq_true rfl) rfl (fun ls hl => ?_)
                        refine lv_aload_n hx hb dX12_goes_31 rfl (lv_at hl 2 rfl) ?_
                        refine va_get (D := D) hx hb hts inlX12 hown hK hP 55 (jc_55 cI cL ad σ212 τ) rfl 28 (of_decide_eq_true rfl) (hts _ kw_7_14) (fun _ h9 => h9) rfl dX12_goes_32 ?_
                        exact by
                         refine lv_iload hx hb dX12_goes_35 (lv_at hl 1 rfl) ?_
                         have jn220 : ∀ (x221 : Int32), (0 ≤ x221.toInt ∧ x221.toInt ≤ 3) → (x221.toInt = jSn (jrS σ) (A1).toNat 3) → W p l e ({ frames := 0, cells := 0, slots := 0, locals := 0 }) s m args below meth c H locs 0 0 Q (F0 m 93 ls [.int x221, .int 3, .ref (ad 68)]) := by
                           intro x221 k222 k223
                           refine jast hx hb hK hP hJ hA hS (jc_68 cI cL ad σ212 τ) (ja_68 cI cL ad σ212 τ _ _) (jin jz_3 (by omega) (by omega)) dX12_goes_93 (fun σ224 H locs eσ224 hP hS => ?_)
                           have eσ224 : σ224 = jup σ212 68 3 x221 := eσ224
                           refine lv_iinc (v := 4) (lv' := [(4, .int 4), (3, .int x219), (0, .ref (ad 55)), (1, .int a1), (2, .int 1)]) hx hb dX12_goes_94 hl (k := 1) rfl (of_decide_eq_true rfl) (of_decide_eq_true rfl) rfl (fun ls hl => ?_)
                           refine lv_goto (tgt := 10) hx hb dX12_goes_97 (of_decide_eq_true rfl) ?_
                           refine lv_iload hx hb dX12_goes_10 (lv_at hl 0 rfl) ?_
                           refine lv_aload_n hx hb dX12_goes_12 rfl (lv_at hl 2 rfl) ?_
                           exact by
                            refine va_get (D := D) hx hb hts inlX12 hown hK hP 55 (jc_55 cI cL ad σ224 τ) rfl 6 (of_decide_eq_true rfl) (hts _ kw_9_13) (fun _ h9 => h9) rfl dX12_goes_13 ?_
                            have m225 : σ224 55 6 = 4 := ((congrFun (jnp 55 eσ224 (of_decide_eq_true rfl)) 6).trans m213)
                            refine jtopr m225 ?_
                            refine lv_icmp_ge (tgt := 100) hx hb dX12_goes_16 (of_decide_eq_true rfl) (fun _ => ?_) (fun c => absurd (of_decide_eq_true rfl) c)
                            refine lv_aload_n hx hb dX12_goes_100 rfl (lv_at hl 2 rfl) ?_
                            refine va_get (D := D) hx hb hts inlX12 hown hK hP 55 (jc_55 cI cL ad σ224 τ) rfl 29 (of_decide_eq_true rfl) (hts _ kw_7_15) (fun _ h9 => h9) rfl dX12_goes_101 ?_
                            refine lv_iload_n hx hb dX12_goes_104 rfl (lv_at hl 3 rfl) ?_
                            refine lv_dup2_11 hx hb dX12_goes_105 rfl rfl ?_
                            refine jald hx hb hK hP (jc_69 cI cL ad σ224 τ) (jin t1 (by omega) (by omega)) dX12_goes_106 ?_
                            exact by
                             refine lv_topi (fun x226 ex226 => ?_)
                             refine lv_iconst (v := 1) hx hb dX12_goes_107 (of_decide_eq_true rfl) ?_
                             have g227 := jrg (rfl : x226.toInt = x226.toInt)
                             refine lv_iadd hx hb dX12_goes_108 ?_
                             refine lv_topi (fun x228 ex228 => ?_)
                             have gx228 := jrg (rfl : x228.toInt = x228.toInt)
                             refine jast hx hb hK hP hJ hA hS (jc_69 cI cL ad σ224 τ) (ja_69 cI cL ad σ224 τ _ _) (jin t1 (by omega) (by omega)) dX12_goes_109 (fun σ229 H locs eσ229 hP hS => ?_)
                             refine lv_aload_n hx hb dX12_goes_110 rfl (lv_at hl 2 rfl) ?_
                             refine lv_iload_n hx hb dX12_goes_111 rfl (lv_at hl 3 rfl) ?_
                             exact by
                              refine jput (ty := .int) hx hb hts inlX12 tyX12 tyX12_ok nmX12 hown hK hP hJ hA hS (jc_55 cI cL ad σ229 τ) rfl (k := 27) (of_decide_eq_true rfl) (Nat.le_of_ble_eq_true rfl) (jp_55_27 cI cL ad σ229 τ a1) (hts _ kw_23_11) (fun _ h9 => h9) rfl (by decide +kernel) rfl rfl dX12_goes_112 (fun σ230 H locs eσ230 hP hS => ?_)
                              refine lv_aload_n hx hb dX12_goes_115 rfl (lv_at hl 2 rfl) ?_
                              refine lv_dup hx hb dX12_goes_116 rfl ?_
                              refine va_get (D := D) hx hb hts inlX12 hown hK hP 55 (jc_55 cI cL ad σ230 τ) rfl 26 (of_decide_eq_true rfl) (hts _ kw_23_5) (fun _ h9 => h9) rfl dX12_goes_117 ?_
                              have m231 : σ230 55 26 = (σ 55 26) := ((jkp 26 eσ230 (of_decide_eq_true rfl)).trans ((congrFun (jnp 55 eσ229 (of_decide_eq_true rfl)) 26).trans ((congrFun (jnp 55 eσ224 (of_decide_eq_true rfl)) 26).trans ((congrFun (jnp 55 eσ212 (of_decide_eq_true rfl)) 26).trans ((congrFun (jnp 55 eσ200 (of_decide_eq_true rfl)) 26).trans (congrFun (jnp 55 eσ188 (of_decide_eq_true rfl)) 26))))))
                              refine jtopr m231 ?_
                              refine lv_iconst (v := 1) hx hb dX12_goes_120 (of_decide_eq_true rfl) ?_
                              have g232 := jrg (rfl : (σ 55 26).toInt = (σ 55 26).toInt)
                              refine lv_iadd hx hb dX12_goes_121 ?_
                              refine lv_topi (fun x233 ex233 => ?_)
                              exact by
                               have tx233 : x233.toInt = (σ 55 26).toInt + 1 := (jadd ex233 rfl jz_1 (by omega) (by omega)).trans (by omega)
                               refine jput (ty := .int) hx hb hts inlX12 tyX12 tyX12_ok nmX12 hown hK hP hJ hA hS (jc_55 cI cL ad σ230 τ) rfl (k := 26) (of_decide_eq_true rfl) (Nat.le_of_ble_eq_true rfl) (jp_55_26 cI cL ad σ230 τ x233) (hts _ kw_23_5) (fun _ h9 => h9) rfl (by decide +kernel) rfl rfl dX12_goes_122 (fun σ234 H locs eσ234 hP hS => ?_)
                               refine lv_aload_n hx hb dX12_goes_125 rfl (lv_at hl 2 rfl) ?_
                               refine lv_dup hx hb dX12_goes_126 rfl ?_
                               refine va_get (D := D) hx hb hts inlX12 hown hK hP 55 (jc_55 cI cL ad σ234 τ) rfl 25 (of_decide_eq_true rfl) (hts _ kw_23_6) (fun _ h9 => h9) rfl dX12_goes_127 ?_
                               have m235 : σ234 55 25 = (σ 55 25) := ((jkp 25 eσ234 (of_decide_eq_true rfl)).trans ((jkp 25 eσ230 (of_decide_eq_true rfl)).trans ((congrFun (jnp 55 eσ229 (of_decide_eq_true rfl)) 25).trans ((congrFun (jnp 55 eσ224 (of_decide_eq_true rfl)) 25).trans ((congrFun (jnp 55 eσ212 (of_decide_eq_true rfl)) 25).trans ((congrFun (jnp 55 eσ200 (of_decide_eq_true rfl)) 25).trans (congrFun (jnp 55 eσ188 (of_decide_eq_true rfl)) 25)))))))
                               refine jtopr m235 ?_
                               refine lv_iload_n hx hb dX12_goes_130 rfl (lv_at hl 4 rfl) ?_
                               refine lv_if_eq (tgt := 138) hx hb dX12_goes_131 (of_decide_eq_true rfl) (fun c => absurd c (of_decide_eq_true rfl)) (fun _ => ?_)
                               refine lv_iconst (v := 1) hx hb dX12_goes_134 (of_decide_eq_true rfl) ?_
                               refine lv_goto (tgt := 139) hx hb dX12_goes_135 (of_decide_eq_true rfl) ?_
                               have g236 := jrg (rfl : (σ 55 25).toInt = (σ 55 25).toInt)
                               refine lv_iadd hx hb dX12_goes_139 ?_
                               refine lv_topi (fun x237 ex237 => ?_)
                               exact by
                                have tx237 : x237.toInt = (σ 55 25).toInt + 1 := (jadd ex237 rfl jz_1 (by omega) (by omega)).trans (by omega)
                                refine jput (ty := .int) hx hb hts inlX12 tyX12 tyX12_ok nmX12 hown hK hP hJ hA hS (jc_55 cI cL ad σ234 τ) rfl (k := 25) (of_decide_eq_true rfl) (Nat.le_of_ble_eq_true rfl) (jp_55_25 cI cL ad σ234 τ x237) (hts _ kw_23_6) (fun _ h9 => h9) rfl (by decide +kernel) rfl rfl dX12_goes_140 (fun σ238 H locs eσ238 hP hS => ?_)
                                refine lv_iload_n hx hb dX12_goes_143 rfl (lv_at hl 1 rfl) ?_
                                have w239 : ∀ k : Nat, k < 4 → 0 ≤ (σ238 68 k).toInt ∧ (σ238 68 k).toInt ≤ 3 := (jrr_fr (jnp 68 eσ238 (of_decide_eq_true rfl)) (jrr_fr (jnp 68 eσ234 (of_decide_eq_true rfl)) (jrr_fr (jnp 68 eσ230 (of_decide_eq_true rfl)) (jrr_fr (jnp 68 eσ229 (of_decide_eq_true rfl)) (by rw [eσ224]; exact jrr_up w216 (by omega) (by omega))))))
                                have z240 : (σ238 55 25).toInt = (σ 55 25).toInt + 1 := ((congrArg Int32.toInt (show σ238 55 25 = x237 from (jsp eσ238))).trans tx237)
                                have z241 : (σ238 55 26).toInt = (σ 55 26).toInt + 1 := ((congrArg Int32.toInt (show σ238 55 26 = x233 from ((jkp 26 eσ238 (of_decide_eq_true rfl)).trans (jsp eσ234)))).trans tx233)
                                have z242 : (σ238 55 27).toInt = A1 := ((congrArg Int32.toInt (show σ238 55 27 = a1 from ((jkp 27 eσ238 (of_decide_eq_true rfl)).trans ((jkp 27 eσ234 (of_decide_eq_true rfl)).trans (jsp eσ230))))).trans t1)
                                exact by exact hret x219 σ238 τ _ _ _ _ rfl ⟨rfl, (fun i hi => ((jnp i eσ238 (imp_189 i hi)).trans ((jnp i eσ234 (imp_189 i hi)).trans ((jnp i eσ230 (imp_189 i hi)).trans ((jnp i eσ229 (imp_197 i hi)).trans ((jnp i eσ224 (imp_198 i hi)).trans ((jnp i eσ212 (imp_198 i hi)).trans ((jnp i eσ200 (imp_198 i hi)).trans (jnp i eσ188 (imp_198 i hi)))))))))), (fun i hi => ((jkp i eσ238 (imp_192 i hi)).trans ((jkp i eσ234 (imp_191 i hi)).trans ((jkp i eσ230 (imp_190 i hi)).trans ((congrFun (jnp 55 eσ229 (of_decide_eq_true rfl)) i).trans ((congrFun (jnp 55 eσ224 (of_decide_eq_true rfl)) i).trans ((congrFun (jnp 55 eσ212 (of_decide_eq_true rfl)) i).trans ((congrFun (jnp 55 eσ200 (of_decide_eq_true rfl)) i).trans (congrFun (jnp 55 eσ188 (of_decide_eq_true rfl)) i))))))))), w239, (by rw [eσ238, jup_n (of_decide_eq_true rfl), eσ234, jup_n (of_decide_eq_true rfl), eσ230, jup_n (of_decide_eq_true rfl), eσ229, jup_row, ex228, ex226, eσ224, jup_n (of_decide_eq_true rfl), eσ212, jup_n (of_decide_eq_true rfl), eσ200, jup_n (of_decide_eq_true rfl), eσ188, jup_n (of_decide_eq_true rfl)]), (fun k hk => by rw [eσ238, jup_n (of_decide_eq_true rfl), eσ234, jup_n (of_decide_eq_true rfl), eσ230, jup_n (of_decide_eq_true rfl), eσ229, jup_n (of_decide_eq_true rfl), eσ224, jup_k (by omega), eσ212, jup_k (by omega), eσ200, jup_k (by omega), eσ188, jup_k (by omega)]), (fun c hc => jqll4 (p := fun c => jrS σ238 c = jSn (jrS σ) (A1).toNat c) ((congrArg Int32.toInt (show σ238 68 0 = x185 from ((congrFun (jnp 68 eσ238 (of_decide_eq_true rfl)) 0).trans ((congrFun (jnp 68 eσ234 (of_decide_eq_true rfl)) 0).trans ((congrFun (jnp 68 eσ230 (of_decide_eq_true rfl)) 0).trans ((congrFun (jnp 68 eσ229 (of_decide_eq_true rfl)) 0).trans ((jkp 0 eσ224 (of_decide_eq_true rfl)).trans ((jkp 0 eσ212 (of_decide_eq_true rfl)).trans ((jkp 0 eσ200 (of_decide_eq_true rfl)).trans (jsp eσ188)))))))))).trans k187) ((congrArg Int32.toInt (show σ238 68 1 = x197 from ((congrFun (jnp 68 eσ238 (of_decide_eq_true rfl)) 1).trans ((congrFun (jnp 68 eσ234 (of_decide_eq_true rfl)) 1).trans ((congrFun (jnp 68 eσ230 (of_decide_eq_true rfl)) 1).trans ((congrFun (jnp 68 eσ229 (of_decide_eq_true rfl)) 1).trans ((jkp 1 eσ224 (of_decide_eq_true rfl)).trans ((jkp 1 eσ212 (of_decide_eq_true rfl)).trans (jsp eσ200))))))))).trans k199) ((congrArg Int32.toInt (show σ238 68 2 = x209 from ((congrFun (jnp 68 eσ238 (of_decide_eq_true rfl)) 2).trans ((congrFun (jnp 68 eσ234 (of_decide_eq_true rfl)) 2).trans ((congrFun (jnp 68 eσ230 (of_decide_eq_true rfl)) 2).trans ((congrFun (jnp 68 eσ229 (of_decide_eq_true rfl)) 2).trans ((jkp 2 eσ224 (of_decide_eq_true rfl)).trans (jsp eσ212)))))))).trans k211) ((congrArg Int32.toInt (show σ238 68 3 = x221 from ((congrFun (jnp 68 eσ238 (of_decide_eq_true rfl)) 3).trans ((congrFun (jnp 68 eσ234 (of_decide_eq_true rfl)) 3).trans ((congrFun (jnp 68 eσ230 (of_decide_eq_true rfl)) 3).trans ((congrFun (jnp 68 eσ229 (of_decide_eq_true rfl)) 3).trans (jsp eσ224))))))).trans k223) c (by omega)), (by omega), (by omega), (by omega), ⟨trivial, (by have h9 := tx219; omega), (by have h9 := tx219; omega), (by have h9 := tx219; omega), (by have h9 := tx219; omega), (by have h9 := tx219; omega)⟩⟩ hP hS dX12_goes_144
                         refine lv_iload hx hb dX12_goes_37 (lv_at hl 1 rfl) ?_
                         exact by
                          refine lv_iload_n hx hb dX12_goes_39 rfl (lv_at hl 3 rfl) ?_
                          refine lv_icmp_ne (tgt := 70) hx hb dX12_goes_40 (of_decide_eq_true rfl) (fun c243 => ?_) (fun c243 => ?_)
                          · have kc243 := jne c243 jz_3 t1
                            refine lv_aload_n hx hb dX12_goes_70 rfl (lv_at hl 2 rfl) ?_
                            refine va_get (D := D) hx hb hts inlX12 hown hK hP 55 (jc_55 cI cL ad σ212 τ) rfl 28 (of_decide_eq_true rfl) (hts _ kw_7_14) (fun _ h9 => h9) rfl dX12_goes_71 ?_
                            refine lv_iload hx hb dX12_goes_74 (lv_at hl 1 rfl) ?_
                            refine jald hx hb hK hP (jc_68 cI cL ad σ212 τ) (jin jz_3 (by omega) (by omega)) dX12_goes_76 ?_
                            refine jtopr (y := σ212 68 3) rfl ?_
                            refine jtopr m215 ?_
                            exact by
                             refine lv_if_le (tgt := 92) hx hb dX12_goes_77 (of_decide_eq_true rfl) (fun c244 => ?_) (fun c244 => ?_)
                             · have kc244 := jle c244 rfl jz_0
                               refine lv_iconst (v := 0) hx hb dX12_goes_92 (of_decide_eq_true rfl) ?_
                               exact by exact jn220 0 (by have h9 := jz_0; omega) (jSn_r (σ := σ) (k := 3) (by have h9 := jz_0; omega))
                             · have kc244 := jnle c244 rfl jz_0
                               refine lv_aload_n hx hb dX12_goes_80 rfl (lv_at hl 2 rfl) ?_
                               refine va_get (D := D) hx hb hts inlX12 hown hK hP 55 (jc_55 cI cL ad σ212 τ) rfl 28 (of_decide_eq_true rfl) (hts _ kw_7_14) (fun _ h9 => h9) rfl dX12_goes_81 ?_
                               refine lv_iload hx hb dX12_goes_84 (lv_at hl 1 rfl) ?_
                               refine jald hx hb hK hP (jc_68 cI cL ad σ212 τ) (jin jz_3 (by omega) (by omega)) dX12_goes_86 ?_
                               exact by
                                refine jtopr (y := σ212 68 3) rfl ?_
                                refine jtopr m215 ?_
                                refine lv_iconst (v := 1) hx hb dX12_goes_87 (of_decide_eq_true rfl) ?_
                                refine lv_isub hx hb dX12_goes_88 ?_
                                refine lv_topi (fun x245 ex245 => ?_)
                                have tx245 : x245.toInt = (σ 68 3).toInt - 1 := (jsub ex245 rfl jz_1 (by omega) (by omega)).trans (by omega)
                                refine lv_goto (tgt := 93) hx hb dX12_goes_89 (of_decide_eq_true rfl) ?_
                                exact by exact jn220 x245 (by have h9 := tx245; omega) (jSn_r (σ := σ) (k := 3) (by have h9 := tx245; omega))
                          · have kc243 := jeq c243 jz_3 t1
                            exact by
                             refine lv_aload_n hx hb dX12_goes_43 rfl (lv_at hl 2 rfl) ?_
                             refine va_get (D := D) hx hb hts inlX12 hown hK hP 55 (jc_55 cI cL ad σ212 τ) rfl 28 (of_decide_eq_true rfl) (hts _ kw_7_14) (fun _ h9 => h9) rfl dX12_goes_44 ?_
                             refine lv_iload hx hb dX12_goes_47 (lv_at hl 1 rfl) ?_
                             refine jald hx hb hK hP (jc_68 cI cL ad σ212 τ) (jin jz_3 (by omega) (by omega)) dX12_goes_49 ?_
                             refine jtopr (y := σ212 68 3) rfl ?_
                             refine jtopr m215 ?_
                             refine lv_iconst (v := 3) hx hb dX12_goes_50 (of_decide_eq_true rfl) ?_
                             refine lv_icmp_ge (tgt := 66) hx hb dX12_goes_51 (of_decide_eq_true rfl) (fun c246 => ?_) (fun c246 => ?_)
                             · have kc246 := jle c246 jz_3 rfl
                               exact by
                                refine lv_iconst (v := 3) hx hb dX12_goes_66 (of_decide_eq_true rfl) ?_
                                refine lv_goto (tgt := 93) hx hb dX12_goes_67 (of_decide_eq_true rfl) ?_
                                exact by exact jn220 3 (by have h9 := jz_3; omega) (jSn_r (σ := σ) (k := 3) (by have h9 := jz_3; omega))
                             · have kc246 := jnle c246 jz_3 rfl
                               refine lv_aload_n hx hb dX12_goes_54 rfl (lv_at hl 2 rfl) ?_
                               refine va_get (D := D) hx hb hts inlX12 hown hK hP 55 (jc_55 cI cL ad σ212 τ) rfl 28 (of_decide_eq_true rfl) (hts _ kw_7_14) (fun _ h9 => h9) rfl dX12_goes_55 ?_
                               refine lv_iload hx hb dX12_goes_58 (lv_at hl 1 rfl) ?_
                               refine jald hx hb hK hP (jc_68 cI cL ad σ212 τ) (jin jz_3 (by omega) (by omega)) dX12_goes_60 ?_
                               refine jtopr (y := σ212 68 3) rfl ?_
                               exact by
                                refine jtopr m215 ?_
                                refine lv_iconst (v := 1) hx hb dX12_goes_61 (of_decide_eq_true rfl) ?_
                                refine lv_iadd hx hb dX12_goes_62 ?_
                                refine lv_topi (fun x247 ex247 => ?_)
                                have tx247 : x247.toInt = (σ 68 3).toInt + 1 := (jadd ex247 rfl jz_1 (by omega) (by omega)).trans (by omega)
                                refine lv_goto (tgt := 93) hx hb dX12_goes_63 (of_decide_eq_true rfl) ?_
                                exact by exact jn220 x247 (by have h9 := tx247; omega) (jSn_r (σ := σ) (k := 3) (by have h9 := tx247; omega))
                   refine lv_iload hx hb dX12_goes_37 (lv_at hl 1 rfl) ?_
                   refine lv_iload_n hx hb dX12_goes_39 rfl (lv_at hl 3 rfl) ?_
                   exact by
                    refine lv_icmp_ne (tgt := 70) hx hb dX12_goes_40 (of_decide_eq_true rfl) (fun c248 => ?_) (fun c248 => ?_)
                    · have kc248 := jne c248 jz_2 t1
                      refine lv_aload_n hx hb dX12_goes_70 rfl (lv_at hl 2 rfl) ?_
                      refine va_get (D := D) hx hb hts inlX12 hown hK hP 55 (jc_55 cI cL ad σ200 τ) rfl 28 (of_decide_eq_true rfl) (hts _ kw_7_14) (fun _ h9 => h9) rfl dX12_goes_71 ?_
                      refine lv_iload hx hb dX12_goes_74 (lv_at hl 1 rfl) ?_
                      refine jald hx hb hK hP (jc_68 cI cL ad σ200 τ) (jin jz_2 (by omega) (by omega)) dX12_goes_76 ?_
                      refine jtopr (y := σ200 68 2) rfl ?_
                      refine jtopr m203 ?_
                      refine lv_if_le (tgt := 92) hx hb dX12_goes_77 (of_decide_eq_true rfl) (fun c249 => ?_) (fun c249 => ?_)
                      · exact by
                         have kc249 := jle c249 rfl jz_0
                         refine lv_iconst (v := 0) hx hb dX12_goes_92 (of_decide_eq_true rfl) ?_
                         exact by exact jn208 0 (by have h9 := jz_0; omega) (jSn_r (σ := σ) (k := 2) (by have h9 := jz_0; omega))
                      · have kc249 := jnle c249 rfl jz_0
                        refine lv_aload_n hx hb dX12_goes_80 rfl (lv_at hl 2 rfl) ?_
                        refine va_get (D := D) hx hb hts inlX12 hown hK hP 55 (jc_55 cI cL ad σ200 τ) rfl 28 (of_decide_eq_true rfl) (hts _ kw_7_14) (fun _ h9 => h9) rfl dX12_goes_81 ?_
                        refine lv_iload hx hb dX12_goes_84 (lv_at hl 1 rfl) ?_
                        refine jald hx hb hK hP (jc_68 cI cL ad σ200 τ) (jin jz_2 (by omega) (by omega)) dX12_goes_86 ?_
                        refine jtopr (y := σ200 68 2) rfl ?_
                        exact by
                         refine jtopr m203 ?_
                         refine lv_iconst (v := 1) hx hb dX12_goes_87 (of_decide_eq_true rfl) ?_
                         refine lv_isub hx hb dX12_goes_88 ?_
                         refine lv_topi (fun x250 ex250 => ?_)
                         have tx250 : x250.toInt = (σ 68 2).toInt - 1 := (jsub ex250 rfl jz_1 (by omega) (by omega)).trans (by omega)
                         refine lv_goto (tgt := 93) hx hb dX12_goes_89 (of_decide_eq_true rfl) ?_
                         exact by exact jn208 x250 (by have h9 := tx250; omega) (jSn_r (σ := σ) (k := 2) (by have h9 := tx250; omega))
                    · have kc248 := jeq c248 jz_2 t1
                      refine lv_aload_n hx hb dX12_goes_43 rfl (lv_at hl 2 rfl) ?_
                      exact by
                       refine va_get (D := D) hx hb hts inlX12 hown hK hP 55 (jc_55 cI cL ad σ200 τ) rfl 28 (of_decide_eq_true rfl) (hts _ kw_7_14) (fun _ h9 => h9) rfl dX12_goes_44 ?_
                       refine lv_iload hx hb dX12_goes_47 (lv_at hl 1 rfl) ?_
                       refine jald hx hb hK hP (jc_68 cI cL ad σ200 τ) (jin jz_2 (by omega) (by omega)) dX12_goes_49 ?_
                       refine jtopr (y := σ200 68 2) rfl ?_
                       refine jtopr m203 ?_
                       refine lv_iconst (v := 3) hx hb dX12_goes_50 (of_decide_eq_true rfl) ?_
                       refine lv_icmp_ge (tgt := 66) hx hb dX12_goes_51 (of_decide_eq_true rfl) (fun c251 => ?_) (fun c251 => ?_)
                       · have kc251 := jle c251 jz_3 rfl
                         refine lv_iconst (v := 3) hx hb dX12_goes_66 (of_decide_eq_true rfl) ?_
                         exact by
                          refine lv_goto (tgt := 93) hx hb dX12_goes_67 (of_decide_eq_true rfl) ?_
                          exact by exact jn208 3 (by have h9 := jz_3; omega) (jSn_r (σ := σ) (k := 2) (by have h9 := jz_3; omega))
                       · have kc251 := jnle c251 jz_3 rfl
                         refine lv_aload_n hx hb dX12_goes_54 rfl (lv_at hl 2 rfl) ?_
                         refine va_get (D := D) hx hb hts inlX12 hown hK hP 55 (jc_55 cI cL ad σ200 τ) rfl 28 (of_decide_eq_true rfl) (hts _ kw_7_14) (fun _ h9 => h9) rfl dX12_goes_55 ?_
                         refine lv_iload hx hb dX12_goes_58 (lv_at hl 1 rfl) ?_
                         refine jald hx hb hK hP (jc_68 cI cL ad σ200 τ) (jin jz_2 (by omega) (by omega)) dX12_goes_60 ?_
                         refine jtopr (y := σ200 68 2) rfl ?_
                         refine jtopr m203 ?_
                         exact by
                          refine lv_iconst (v := 1) hx hb dX12_goes_61 (of_decide_eq_true rfl) ?_
                          refine lv_iadd hx hb dX12_goes_62 ?_
                          refine lv_topi (fun x252 ex252 => ?_)
                          have tx252 : x252.toInt = (σ 68 2).toInt + 1 := (jadd ex252 rfl jz_1 (by omega) (by omega)).trans (by omega)
                          refine lv_goto (tgt := 93) hx hb dX12_goes_63 (of_decide_eq_true rfl) ?_
                          exact by exact jn208 x252 (by have h9 := tx252; omega) (jSn_r (σ := σ) (k := 2) (by have h9 := tx252; omega))
              refine lv_iload hx hb dX12_goes_37 (lv_at hl 1 rfl) ?_
              refine lv_iload_n hx hb dX12_goes_39 rfl (lv_at hl 3 rfl) ?_
              refine lv_icmp_ne (tgt := 70) hx hb dX12_goes_40 (of_decide_eq_true rfl) (fun c253 => ?_) (fun c253 => ?_)
              · exact by
                 have kc253 := jne c253 jz_1 t1
                 refine lv_aload_n hx hb dX12_goes_70 rfl (lv_at hl 2 rfl) ?_
                 refine va_get (D := D) hx hb hts inlX12 hown hK hP 55 (jc_55 cI cL ad σ188 τ) rfl 28 (of_decide_eq_true rfl) (hts _ kw_7_14) (fun _ h9 => h9) rfl dX12_goes_71 ?_
                 refine lv_iload hx hb dX12_goes_74 (lv_at hl 1 rfl) ?_
                 refine jald hx hb hK hP (jc_68 cI cL ad σ188 τ) (jin jz_1 (by omega) (by omega)) dX12_goes_76 ?_
                 refine jtopr (y := σ188 68 1) rfl ?_
                 refine jtopr m191 ?_
                 refine lv_if_le (tgt := 92) hx hb dX12_goes_77 (of_decide_eq_true rfl) (fun c254 => ?_) (fun c254 => ?_)
                 · have kc254 := jle c254 rfl jz_0
                   exact by
                    refine lv_iconst (v := 0) hx hb dX12_goes_92 (of_decide_eq_true rfl) ?_
                    exact by exact jn196 0 (by have h9 := jz_0; omega) (jSn_r (σ := σ) (k := 1) (by have h9 := jz_0; omega))
                 · have kc254 := jnle c254 rfl jz_0
                   refine lv_aload_n hx hb dX12_goes_80 rfl (lv_at hl 2 rfl) ?_
                   refine va_get (D := D) hx hb hts inlX12 hown hK hP 55 (jc_55 cI cL ad σ188 τ) rfl 28 (of_decide_eq_true rfl) (hts _ kw_7_14) (fun _ h9 => h9) rfl dX12_goes_81 ?_
                   refine lv_iload hx hb dX12_goes_84 (lv_at hl 1 rfl) ?_
                   refine jald hx hb hK hP (jc_68 cI cL ad σ188 τ) (jin jz_1 (by omega) (by omega)) dX12_goes_86 ?_
                   refine jtopr (y := σ188 68 1) rfl ?_
                   refine jtopr m191 ?_
                   exact by
                    refine lv_iconst (v := 1) hx hb dX12_goes_87 (of_decide_eq_true rfl) ?_
                    refine lv_isub hx hb dX12_goes_88 ?_
                    refine lv_topi (fun x255 ex255 => ?_)
                    have tx255 : x255.toInt = (σ 68 1).toInt - 1 := (jsub ex255 rfl jz_1 (by omega) (by omega)).trans (by omega)
                    refine lv_goto (tgt := 93) hx hb dX12_goes_89 (of_decide_eq_true rfl) ?_
                    exact by exact jn196 x255 (by have h9 := tx255; omega) (jSn_r (σ := σ) (k := 1) (by have h9 := tx255; omega))
              · have kc253 := jeq c253 jz_1 t1
                refine lv_aload_n hx hb dX12_goes_43 rfl (lv_at hl 2 rfl) ?_
                refine va_get (D := D) hx hb hts inlX12 hown hK hP 55 (jc_55 cI cL ad σ188 τ) rfl 28 (of_decide_eq_true rfl) (hts _ kw_7_14) (fun _ h9 => h9) rfl dX12_goes_44 ?_
                exact by
                 refine lv_iload hx hb dX12_goes_47 (lv_at hl 1 rfl) ?_
                 refine jald hx hb hK hP (jc_68 cI cL ad σ188 τ) (jin jz_1 (by omega) (by omega)) dX12_goes_49 ?_
                 refine jtopr (y := σ188 68 1) rfl ?_
                 refine jtopr m191 ?_
                 refine lv_iconst (v := 3) hx hb dX12_goes_50 (of_decide_eq_true rfl) ?_
                 refine lv_icmp_ge (tgt := 66) hx hb dX12_goes_51 (of_decide_eq_true rfl) (fun c256 => ?_) (fun c256 => ?_)
                 · have kc256 := jle c256 jz_3 rfl
                   refine lv_iconst (v := 3) hx hb dX12_goes_66 (of_decide_eq_true rfl) ?_
                   refine lv_goto (tgt := 93) hx hb dX12_goes_67 (of_decide_eq_true rfl) ?_
                   exact by exact jn196 3 (by have h9 := jz_3; omega) (jSn_r (σ := σ) (k := 1) (by have h9 := jz_3; omega))
                 · exact by
                    have kc256 := jnle c256 jz_3 rfl
                    refine lv_aload_n hx hb dX12_goes_54 rfl (lv_at hl 2 rfl) ?_
                    refine va_get (D := D) hx hb hts inlX12 hown hK hP 55 (jc_55 cI cL ad σ188 τ) rfl 28 (of_decide_eq_true rfl) (hts _ kw_7_14) (fun _ h9 => h9) rfl dX12_goes_55 ?_
                    refine lv_iload hx hb dX12_goes_58 (lv_at hl 1 rfl) ?_
                    refine jald hx hb hK hP (jc_68 cI cL ad σ188 τ) (jin jz_1 (by omega) (by omega)) dX12_goes_60 ?_
                    refine jtopr (y := σ188 68 1) rfl ?_
                    refine jtopr m191 ?_
                    refine lv_iconst (v := 1) hx hb dX12_goes_61 (of_decide_eq_true rfl) ?_
                    refine lv_iadd hx hb dX12_goes_62 ?_
                    exact by
                     refine lv_topi (fun x257 ex257 => ?_)
                     have tx257 : x257.toInt = (σ 68 1).toInt + 1 := (jadd ex257 rfl jz_1 (by omega) (by omega)).trans (by omega)
                     refine lv_goto (tgt := 93) hx hb dX12_goes_63 (of_decide_eq_true rfl) ?_
                     exact by exact jn196 x257 (by have h9 := tx257; omega) (jSn_r (σ := σ) (k := 1) (by have h9 := tx257; omega))
        refine lv_iload hx hb dX12_goes_37 (lv_at hl 1 rfl) ?_
        refine lv_iload_n hx hb dX12_goes_39 rfl (lv_at hl 3 rfl) ?_
        refine lv_icmp_ne (tgt := 70) hx hb dX12_goes_40 (of_decide_eq_true rfl) (fun c258 => ?_) (fun c258 => ?_)
        · have kc258 := jne c258 jz_0 t1
          refine lv_aload_n hx hb dX12_goes_70 rfl (lv_at hl 2 rfl) ?_
          exact by
           refine va_get (D := D) hx hb hts inlX12 hown hK hP 55 (jc_55 cI cL ad σ τ) rfl 28 (of_decide_eq_true rfl) (hts _ kw_7_14) (fun _ h9 => h9) rfl dX12_goes_71 ?_
           refine lv_iload hx hb dX12_goes_74 (lv_at hl 1 rfl) ?_
           refine jald hx hb hK hP (jc_68 cI cL ad σ τ) (jin jz_0 (by omega) (by omega)) dX12_goes_76 ?_
           refine jtopr (y := σ 68 0) rfl ?_
           refine lv_if_le (tgt := 92) hx hb dX12_goes_77 (of_decide_eq_true rfl) (fun c259 => ?_) (fun c259 => ?_)
           · have kc259 := jle c259 rfl jz_0
             refine lv_iconst (v := 0) hx hb dX12_goes_92 (of_decide_eq_true rfl) ?_
             exact by exact jn184 0 (by have h9 := jz_0; omega) (jSn_r (σ := σ) (k := 0) (by have h9 := jz_0; omega))
           · have kc259 := jnle c259 rfl jz_0
             exact by
              refine lv_aload_n hx hb dX12_goes_80 rfl (lv_at hl 2 rfl) ?_
              refine va_get (D := D) hx hb hts inlX12 hown hK hP 55 (jc_55 cI cL ad σ τ) rfl 28 (of_decide_eq_true rfl) (hts _ kw_7_14) (fun _ h9 => h9) rfl dX12_goes_81 ?_
              refine lv_iload hx hb dX12_goes_84 (lv_at hl 1 rfl) ?_
              refine jald hx hb hK hP (jc_68 cI cL ad σ τ) (jin jz_0 (by omega) (by omega)) dX12_goes_86 ?_
              refine jtopr (y := σ 68 0) rfl ?_
              refine lv_iconst (v := 1) hx hb dX12_goes_87 (of_decide_eq_true rfl) ?_
              refine lv_isub hx hb dX12_goes_88 ?_
              refine lv_topi (fun x260 ex260 => ?_)
              have tx260 : x260.toInt = (σ 68 0).toInt - 1 := (jsub ex260 rfl jz_1 (by omega) (by omega)).trans (by omega)
              exact by
               refine lv_goto (tgt := 93) hx hb dX12_goes_89 (of_decide_eq_true rfl) ?_
               exact by exact jn184 x260 (by have h9 := tx260; omega) (jSn_r (σ := σ) (k := 0) (by have h9 := tx260; omega))
        · have kc258 := jeq c258 jz_0 t1
          refine lv_aload_n hx hb dX12_goes_43 rfl (lv_at hl 2 rfl) ?_
          refine va_get (D := D) hx hb hts inlX12 hown hK hP 55 (jc_55 cI cL ad σ τ) rfl 28 (of_decide_eq_true rfl) (hts _ kw_7_14) (fun _ h9 => h9) rfl dX12_goes_44 ?_
          refine lv_iload hx hb dX12_goes_47 (lv_at hl 1 rfl) ?_
          refine jald hx hb hK hP (jc_68 cI cL ad σ τ) (jin jz_0 (by omega) (by omega)) dX12_goes_49 ?_
          refine jtopr (y := σ 68 0) rfl ?_
          refine lv_iconst (v := 3) hx hb dX12_goes_50 (of_decide_eq_true rfl) ?_
          exact by
           refine lv_icmp_ge (tgt := 66) hx hb dX12_goes_51 (of_decide_eq_true rfl) (fun c261 => ?_) (fun c261 => ?_)
           · have kc261 := jle c261 jz_3 rfl
             refine lv_iconst (v := 3) hx hb dX12_goes_66 (of_decide_eq_true rfl) ?_
             refine lv_goto (tgt := 93) hx hb dX12_goes_67 (of_decide_eq_true rfl) ?_
             exact by exact jn184 3 (by have h9 := jz_3; omega) (jSn_r (σ := σ) (k := 0) (by have h9 := jz_3; omega))
           · have kc261 := jnle c261 jz_3 rfl
             refine lv_aload_n hx hb dX12_goes_54 rfl (lv_at hl 2 rfl) ?_
             refine va_get (D := D) hx hb hts inlX12 hown hK hP 55 (jc_55 cI cL ad σ τ) rfl 28 (of_decide_eq_true rfl) (hts _ kw_7_14) (fun _ h9 => h9) rfl dX12_goes_55 ?_
             refine lv_iload hx hb dX12_goes_58 (lv_at hl 1 rfl) ?_
             exact by
              refine jald hx hb hK hP (jc_68 cI cL ad σ τ) (jin jz_0 (by omega) (by omega)) dX12_goes_60 ?_
              refine jtopr (y := σ 68 0) rfl ?_
              refine lv_iconst (v := 1) hx hb dX12_goes_61 (of_decide_eq_true rfl) ?_
              refine lv_iadd hx hb dX12_goes_62 ?_
              refine lv_topi (fun x262 ex262 => ?_)
              have tx262 : x262.toInt = (σ 68 0).toInt + 1 := (jadd ex262 rfl jz_1 (by omega) (by omega)).trans (by omega)
              refine lv_goto (tgt := 93) hx hb dX12_goes_63 (of_decide_eq_true rfl) ?_
              exact by exact jn184 x262 (by have h9 := tx262; omega) (jSn_r (σ := σ) (k := 0) (by have h9 := tx262; omega))
  have kc177 := jne c177 (rfl : (σ 55 6).toInt = (σ 55 6).toInt) jz_4
  exact absurd (by omega : False) id
set_option maxHeartbeats 4000000 in
set_option maxRecDepth 100000 in
theorem c_X12_goesBack_1 (l : Launch) (D : va_G) (cI cL : ClassId) (ad zz : Nat → Nat) (hJ : jD ad) (σ : Nat → Nat → Int32) (τ : Nat → Nat → Int64) (a1 : Int32) (A1 : Int) (t1 : a1.toInt = A1) (a3 : Int32) (A3 : Int) (t3 : a3.toInt = A3) (hw68 : ∀ k : Nat, k < 4 → 0 ≤ (σ 68 k).toInt ∧ (σ 68 k).toInt ≤ 3) (hp0 : 0 ≤ A1 ∧ A1 ≤ 3) (hp1 : (-1) ≤ (σ 55 25).toInt ∧ (σ 55 25).toInt ≤ 20) (hp2 : (-1) ≤ (σ 55 26).toInt ∧ (σ 55 26).toInt ≤ 20) (hp3 : ((σ 55 6).toInt = 0 ∧ 0 ≤ A3 ∧ A3 < 5) ∨ ((σ 55 6).toInt = 1 ∧ 0 ≤ A3 ∧ A3 < 20) ∨ ((σ 55 6).toInt = 2 ∧ 0 ≤ A3 ∧ A3 < 80) ∨ ((σ 55 6).toInt = 3 ∧ 0 ≤ A3 ∧ A3 < 320) ∨ ((σ 55 6).toInt = 4 ∧ 0 ≤ A3 ∧ A3 < 1280)) : jMv l yX12_goesBack cX12_goesBack 6 none ({ frames := 0, cells := 0, slots := 0, locals := 0 }) D cI cL ad zz [.ref (ad 55), .int a1, .int 1, .int a3] σ τ (fun σ' τ' => τ = τ' ∧ (∀ i : Nat, (i < 55 ∨ 55 < i) ∧ (i < 68 ∨ 69 < i) → σ' i = σ i) ∧ (∀ k : Nat, (k < 25 ∨ 25 < k) ∧ (k < 26 ∨ 26 < k) ∧ (k < 27 ∨ 27 < k) → σ' 55 k = σ 55 k) ∧ (∀ k : Nat, k < 4 → 0 ≤ (σ' 68 k).toInt ∧ (σ' 68 k).toInt ≤ 3) ∧ (σ' 69 = jupd (σ 69) a1.toNatClampNeg (σ 69 a1.toNatClampNeg - 1)) ∧ (∀ k : Nat, (σ 55 6).toInt ≤ k → σ' 68 k = σ 68 k) ∧ ((σ' 55 25).toInt = (σ 55 25).toInt - 1) ∧ ((σ' 55 26).toInt = (σ 55 26).toInt - 1) ∧ ((-1) ≤ (σ' 55 27).toInt ∧ (σ' 55 27).toInt ≤ 3) ∧ (((σ 55 6).toInt = 0 ∧ A3 = (σ' 55 27).toInt + 1) ∨ ((σ 55 6).toInt = 1 ∧ A3 = 4 * (σ' 55 27).toInt + (σ' 68 0).toInt + 4) ∨ ((σ 55 6).toInt = 2 ∧ A3 = 16 * (σ' 55 27).toInt + 4 * (σ' 68 0).toInt + (σ' 68 1).toInt + 16) ∨ ((σ 55 6).toInt = 3 ∧ A3 = 64 * (σ' 55 27).toInt + 16 * (σ' 68 0).toInt + 4 * (σ' 68 1).toInt + (σ' 68 2).toInt + 64) ∨ ((σ 55 6).toInt = 4 ∧ A3 = 256 * (σ' 55 27).toInt + 64 * (σ' 68 0).toInt + 16 * (σ' 68 1).toInt + 4 * (σ' 68 2).toInt + (σ' 68 3).toInt + 256)) ∧ True) := by
  refine jMv.of hJ (by decide +kernel) rfl (Nat.le_of_ble_eq_true rfl) ?_
  intro p e s m args below meth c Q ls hC hret hl hP
  obtain ⟨hx, hb, hr, hml, hown, hts, hK, -, hlocks, hZ⟩ := hC
  have hown : s.vm.findClass RX12 = some m.cls := hown
  have hS : va_S (jA ad) s.heap s.heap [] := va_S.rf
  have hA : ∀ q, jA ad q → jA ad q := fun _ h => h
  have hl : lv_has ls 6 [(0, .ref (ad 55)), (1, .int a1), (2, .int 1), (3, .int a3)] := hl
  have g1 := jrg t1
  have g3 := jrg t3
  by_cases c1 : σ 55 6 = 0
  · have kc1 := jeq c1 (rfl : (σ 55 6).toInt = (σ 55 6).toInt) jz_0
    refine lv_iload_n hx hb dX12_goesBack_0 rfl (lv_at hl 3 rfl) ?_
    refine lv_istore (lv' := [(4, .int a3), (0, .ref (ad 55)), (1, .int a1), (2, .int 1), (3, .int a3)]) hx hb dX12_goesBack_1 hl (of_decide_eq_true rfl) rfl (fun ls hl => ?_)
    refine lv_aload_n hx hb dX12_goesBack_3 rfl (lv_at hl 1 rfl) ?_
    refine va_get (D := D) hx hb hts inlX12 hown hK hP 55 (jc_55 cI cL ad σ τ) rfl 6 (of_decide_eq_true rfl) (hts _ kw_9_13) (fun _ h9 => h9) rfl dX12_goesBack_4 ?_
    refine jtopr c1 ?_
    refine lv_iconst (v := 1) hx hb dX12_goesBack_7 (of_decide_eq_true rfl) ?_
    refine lv_isub hx hb dX12_goesBack_8 ?_
    refine jtopr (y := (-1)) (of_decide_eq_true rfl) ?_
    refine lv_istore (lv' := [(5, .int (-1)), (4, .int a3), (0, .ref (ad 55)), (1, .int a1), (2, .int 1), (3, .int a3)]) hx hb dX12_goesBack_9 hl (of_decide_eq_true rfl) rfl (fun ls hl => ?_)
    refine lv_iload hx hb dX12_goesBack_11 (lv_at hl 0 rfl) ?_
    refine lv_if_lt (tgt := 39) hx hb dX12_goesBack_13 (of_decide_eq_true rfl) (fun _ => ?_) (fun c => absurd (of_decide_eq_true rfl) c)
    refine lv_aload_n hx hb dX12_goesBack_39 rfl (lv_at hl 2 rfl) ?_
    refine lv_iload hx hb dX12_goesBack_40 (lv_at hl 1 rfl) ?_
    refine lv_iconst (v := 1) hx hb dX12_goesBack_42 (of_decide_eq_true rfl) ?_
    refine lv_isub hx hb dX12_goesBack_43 ?_
    refine lv_topi (fun x2 ex2 => ?_)
    exact by
     have tx2 : x2.toInt = A3 - 1 := (jsub ex2 t3 jz_1 (by omega) (by omega)).trans (by omega)
     refine jput (ty := .int) hx hb hts inlX12 tyX12 tyX12_ok nmX12 hown hK hP hJ hA hS (jc_55 cI cL ad σ τ) rfl (k := 27) (of_decide_eq_true rfl) (Nat.le_of_ble_eq_true rfl) (jp_55_27 cI cL ad σ τ x2) (hts _ kw_23_11) (fun _ h9 => h9) rfl (by decide +kernel) rfl rfl dX12_goesBack_44 (fun σ3 H locs eσ3 hP hS => ?_)
     refine lv_aload_n hx hb dX12_goesBack_47 rfl (lv_at hl 2 rfl) ?_
     refine va_get (D := D) hx hb hts inlX12 hown hK hP 55 (jc_55 cI cL ad σ3 τ) rfl 29 (of_decide_eq_true rfl) (hts _ kw_7_15) (fun _ h9 => h9) rfl dX12_goesBack_48 ?_
     refine lv_iload_n hx hb dX12_goesBack_51 rfl (lv_at hl 3 rfl) ?_
     refine lv_dup2_11 hx hb dX12_goesBack_52 rfl rfl ?_
     refine jald hx hb hK hP (jc_69 cI cL ad σ3 τ) (jin t1 (by omega) (by omega)) dX12_goesBack_53 ?_
     refine lv_topi (fun x4 ex4 => ?_)
     refine lv_iconst (v := 1) hx hb dX12_goesBack_54 (of_decide_eq_true rfl) ?_
     exact by
      have g5 := jrg (rfl : x4.toInt = x4.toInt)
      refine lv_isub hx hb dX12_goesBack_55 ?_
      refine lv_topi (fun x6 ex6 => ?_)
      have gx6 := jrg (rfl : x6.toInt = x6.toInt)
      refine jast hx hb hK hP hJ hA hS (jc_69 cI cL ad σ3 τ) (ja_69 cI cL ad σ3 τ _ _) (jin t1 (by omega) (by omega)) dX12_goesBack_56 (fun σ7 H locs eσ7 hP hS => ?_)
      refine lv_aload_n hx hb dX12_goesBack_57 rfl (lv_at hl 2 rfl) ?_
      refine lv_dup hx hb dX12_goesBack_58 rfl ?_
      refine va_get (D := D) hx hb hts inlX12 hown hK hP 55 (jc_55 cI cL ad σ7 τ) rfl 26 (of_decide_eq_true rfl) (hts _ kw_23_5) (fun _ h9 => h9) rfl dX12_goesBack_59 ?_
      have m8 : σ7 55 26 = (σ 55 26) := ((congrFun (jnp 55 eσ7 (of_decide_eq_true rfl)) 26).trans (jkp 26 eσ3 (of_decide_eq_true rfl)))
      exact by
       refine jtopr m8 ?_
       refine lv_iconst (v := 1) hx hb dX12_goesBack_62 (of_decide_eq_true rfl) ?_
       have g9 := jrg (rfl : (σ 55 26).toInt = (σ 55 26).toInt)
       refine lv_isub hx hb dX12_goesBack_63 ?_
       refine lv_topi (fun x10 ex10 => ?_)
       have tx10 : x10.toInt = (σ 55 26).toInt - 1 := (jsub ex10 rfl jz_1 (by omega) (by omega)).trans (by omega)
       refine jput (ty := .int) hx hb hts inlX12 tyX12 tyX12_ok nmX12 hown hK hP hJ hA hS (jc_55 cI cL ad σ7 τ) rfl (k := 26) (of_decide_eq_true rfl) (Nat.le_of_ble_eq_true rfl) (jp_55_26 cI cL ad σ7 τ x10) (hts _ kw_23_5) (fun _ h9 => h9) rfl (by decide +kernel) rfl rfl dX12_goesBack_64 (fun σ11 H locs eσ11 hP hS => ?_)
       refine lv_aload_n hx hb dX12_goesBack_67 rfl (lv_at hl 2 rfl) ?_
       refine lv_dup hx hb dX12_goesBack_68 rfl ?_
       exact by
        refine va_get (D := D) hx hb hts inlX12 hown hK hP 55 (jc_55 cI cL ad σ11 τ) rfl 25 (of_decide_eq_true rfl) (hts _ kw_23_6) (fun _ h9 => h9) rfl dX12_goesBack_69 ?_
        have m12 : σ11 55 25 = (σ 55 25) := ((jkp 25 eσ11 (of_decide_eq_true rfl)).trans ((congrFun (jnp 55 eσ7 (of_decide_eq_true rfl)) 25).trans (jkp 25 eσ3 (of_decide_eq_true rfl))))
        refine jtopr m12 ?_
        refine lv_iload_n hx hb dX12_goesBack_72 rfl (lv_at hl 4 rfl) ?_
        refine lv_if_eq (tgt := 80) hx hb dX12_goesBack_73 (of_decide_eq_true rfl) (fun c => absurd c (of_decide_eq_true rfl)) (fun _ => ?_)
        refine lv_iconst (v := 1) hx hb dX12_goesBack_76 (of_decide_eq_true rfl) ?_
        refine lv_goto (tgt := 81) hx hb dX12_goesBack_77 (of_decide_eq_true rfl) ?_
        have g13 := jrg (rfl : (σ 55 25).toInt = (σ 55 25).toInt)
        refine lv_isub hx hb dX12_goesBack_81 ?_
        refine lv_topi (fun x14 ex14 => ?_)
        exact by
         have tx14 : x14.toInt = (σ 55 25).toInt - 1 := (jsub ex14 rfl jz_1 (by omega) (by omega)).trans (by omega)
         refine jput (ty := .int) hx hb hts inlX12 tyX12 tyX12_ok nmX12 hown hK hP hJ hA hS (jc_55 cI cL ad σ11 τ) rfl (k := 25) (of_decide_eq_true rfl) (Nat.le_of_ble_eq_true rfl) (jp_55_25 cI cL ad σ11 τ x14) (hts _ kw_23_6) (fun _ h9 => h9) rfl (by decide +kernel) rfl rfl dX12_goesBack_82 (fun σ15 H locs eσ15 hP hS => ?_)
         have w16 : ∀ k : Nat, k < 4 → 0 ≤ (σ15 68 k).toInt ∧ (σ15 68 k).toInt ≤ 3 := (jrr_fr (jnp 68 eσ15 (of_decide_eq_true rfl)) (jrr_fr (jnp 68 eσ11 (of_decide_eq_true rfl)) (jrr_fr (jnp 68 eσ7 (of_decide_eq_true rfl)) (jrr_fr (jnp 68 eσ3 (of_decide_eq_true rfl)) hw68))))
         have z17 : (σ15 55 25).toInt = (σ 55 25).toInt - 1 := ((congrArg Int32.toInt (show σ15 55 25 = x14 from (jsp eσ15))).trans tx14)
         have z18 : (σ15 55 26).toInt = (σ 55 26).toInt - 1 := ((congrArg Int32.toInt (show σ15 55 26 = x10 from ((jkp 26 eσ15 (of_decide_eq_true rfl)).trans (jsp eσ11)))).trans tx10)
         have z19 : (σ15 55 27).toInt = A3 - 1 := ((congrArg Int32.toInt (show σ15 55 27 = x2 from ((jkp 27 eσ15 (of_decide_eq_true rfl)).trans ((jkp 27 eσ11 (of_decide_eq_true rfl)).trans ((congrFun (jnp 55 eσ7 (of_decide_eq_true rfl)) 27).trans (jsp eσ3)))))).trans tx2)
         have z20 : (σ15 68 0).toInt = (σ 68 0).toInt := (congrArg Int32.toInt (show σ15 68 0 = (σ 68 0) from ((congrFun (jnp 68 eσ15 (of_decide_eq_true rfl)) 0).trans ((congrFun (jnp 68 eσ11 (of_decide_eq_true rfl)) 0).trans ((congrFun (jnp 68 eσ7 (of_decide_eq_true rfl)) 0).trans (congrFun (jnp 68 eσ3 (of_decide_eq_true rfl)) 0))))))
         have z21 : (σ15 68 1).toInt = (σ 68 1).toInt := (congrArg Int32.toInt (show σ15 68 1 = (σ 68 1) from ((congrFun (jnp 68 eσ15 (of_decide_eq_true rfl)) 1).trans ((congrFun (jnp 68 eσ11 (of_decide_eq_true rfl)) 1).trans ((congrFun (jnp 68 eσ7 (of_decide_eq_true rfl)) 1).trans (congrFun (jnp 68 eσ3 (of_decide_eq_true rfl)) 1))))))
         have z22 : (σ15 68 2).toInt = (σ 68 2).toInt := (congrArg Int32.toInt (show σ15 68 2 = (σ 68 2) from ((congrFun (jnp 68 eσ15 (of_decide_eq_true rfl)) 2).trans ((congrFun (jnp 68 eσ11 (of_decide_eq_true rfl)) 2).trans ((congrFun (jnp 68 eσ7 (of_decide_eq_true rfl)) 2).trans (congrFun (jnp 68 eσ3 (of_decide_eq_true rfl)) 2))))))
         have z23 : (σ15 68 3).toInt = (σ 68 3).toInt := (congrArg Int32.toInt (show σ15 68 3 = (σ 68 3) from ((congrFun (jnp 68 eσ15 (of_decide_eq_true rfl)) 3).trans ((congrFun (jnp 68 eσ11 (of_decide_eq_true rfl)) 3).trans ((congrFun (jnp 68 eσ7 (of_decide_eq_true rfl)) 3).trans (congrFun (jnp 68 eσ3 (of_decide_eq_true rfl)) 3))))))
         exact by exact hret σ15 τ _ _ _ _ ⟨rfl, (fun i hi => ((jnp i eσ15 (imp_189 i hi)).trans ((jnp i eσ11 (imp_189 i hi)).trans ((jnp i eσ7 (imp_197 i hi)).trans (jnp i eσ3 (imp_189 i hi)))))), (fun i hi => ((jkp i eσ15 (imp_192 i hi)).trans ((jkp i eσ11 (imp_191 i hi)).trans ((congrFun (jnp 55 eσ7 (of_decide_eq_true rfl)) i).trans (jkp i eσ3 (imp_190 i hi)))))), w16, (by rw [eσ15, jup_n (of_decide_eq_true rfl), eσ11, jup_n (of_decide_eq_true rfl), eσ7, jup_row, ex6, ex4, eσ3, jup_n (of_decide_eq_true rfl)]), (fun k hk => by rw [eσ15, jup_n (of_decide_eq_true rfl), eσ11, jup_n (of_decide_eq_true rfl), eσ7, jup_n (of_decide_eq_true rfl), eσ3, jup_n (of_decide_eq_true rfl)]), (by omega), (by omega), (by omega), (by omega), trivial⟩ hP hS dX12_goesBack_85
  have kc1 := jne c1 (rfl : (σ 55 6).toInt = (σ 55 6).toInt) jz_0
  by_cases c24 : σ 55 6 = 1
  · have kc24 := jeq c24 (rfl : (σ 55 6).toInt = (σ 55 6).toInt) jz_1
    refine lv_iload_n hx hb dX12_goesBack_0 rfl (lv_at hl 3 rfl) ?_
    refine lv_istore (lv' := [(4, .int a3), (0, .ref (ad 55)), (1, .int a1), (2, .int 1), (3, .int a3)]) hx hb dX12_goesBack_1 hl (of_decide_eq_true rfl) rfl (fun ls hl => ?_)
    refine lv_aload_n hx hb dX12_goesBack_3 rfl (lv_at hl 1 rfl) ?_
    refine va_get (D := D) hx hb hts inlX12 hown hK hP 55 (jc_55 cI cL ad σ τ) rfl 6 (of_decide_eq_true rfl) (hts _ kw_9_13) (fun _ h9 => h9) rfl dX12_goesBack_4 ?_
    refine jtopr c24 ?_
    refine lv_iconst (v := 1) hx hb dX12_goesBack_7 (of_decide_eq_true rfl) ?_
    refine lv_isub hx hb dX12_goesBack_8 ?_
    refine jtopr (y := 0) (of_decide_eq_true rfl) ?_
    refine lv_istore (lv' := [(5, .int 0), (4, .int a3), (0, .ref (ad 55)), (1, .int a1), (2, .int 1), (3, .int a3)]) hx hb dX12_goesBack_9 hl (of_decide_eq_true rfl) rfl (fun ls hl => ?_)
    refine lv_iload hx hb dX12_goesBack_11 (lv_at hl 0 rfl) ?_
    refine lv_if_lt (tgt := 39) hx hb dX12_goesBack_13 (of_decide_eq_true rfl) (fun c => absurd c (of_decide_eq_true rfl)) (fun _ => ?_)
    refine lv_aload_n hx hb dX12_goesBack_16 rfl (lv_at hl 2 rfl) ?_
    refine va_get (D := D) hx hb hts inlX12 hown hK hP 55 (jc_55 cI cL ad σ τ) rfl 28 (of_decide_eq_true rfl) (hts _ kw_7_14) (fun _ h9 => h9) rfl dX12_goesBack_17 ?_
    refine lv_iload hx hb dX12_goesBack_20 (lv_at hl 0 rfl) ?_
    refine lv_iload hx hb dX12_goesBack_22 (lv_at hl 1 rfl) ?_
    refine lv_iconst (v := 4) hx hb dX12_goesBack_24 (of_decide_eq_true rfl) ?_
    refine lv_irem hx hb dX12_goesBack_25 (of_decide_eq_true rfl) ?_
    refine lv_topi (fun x25 ex25 => ?_)
    exact by
     have tx25 : x25.toInt = (A3 % 4) := jrem ex25 t3 jz_4 (by omega)
     refine jast hx hb hK hP hJ hA hS (jc_68 cI cL ad σ τ) (ja_68 cI cL ad σ τ _ _) (jin jz_0 (by omega) (by omega)) dX12_goesBack_26 (fun σ26 H locs eσ26 hP hS => ?_)
     have eσ26 : σ26 = jup σ 68 0 x25 := eσ26
     refine lv_iload hx hb dX12_goesBack_27 (lv_at hl 1 rfl) ?_
     refine lv_iconst (v := 4) hx hb dX12_goesBack_29 (of_decide_eq_true rfl) ?_
     refine lv_idiv hx hb dX12_goesBack_30 (of_decide_eq_true rfl) ?_
     refine lv_topi (fun x27 ex27 => ?_)
     have tx27 : x27.toInt = (A3 / 4) := jdiv ex27 t3 jz_4 (by omega) (by omega)
     refine lv_istore (lv' := [(4, .int x27), (5, .int 0), (0, .ref (ad 55)), (1, .int a1), (2, .int 1), (3, .int a3)]) hx hb dX12_goesBack_31 hl (of_decide_eq_true rfl) rfl (fun ls hl => ?_)
     exact by
      refine lv_iinc (v := (-1)) (lv' := [(5, .int (-1)), (4, .int x27), (0, .ref (ad 55)), (1, .int a1), (2, .int 1), (3, .int a3)]) hx hb dX12_goesBack_33 hl (k := 1) rfl (of_decide_eq_true rfl) (of_decide_eq_true rfl) rfl (fun ls hl => ?_)
      refine lv_goto (tgt := 11) hx hb dX12_goesBack_36 (of_decide_eq_true rfl) ?_
      refine lv_iload hx hb dX12_goesBack_11 (lv_at hl 0 rfl) ?_
      refine lv_if_lt (tgt := 39) hx hb dX12_goesBack_13 (of_decide_eq_true rfl) (fun _ => ?_) (fun c => absurd (of_decide_eq_true rfl) c)
      refine lv_aload_n hx hb dX12_goesBack_39 rfl (lv_at hl 2 rfl) ?_
      refine lv_iload hx hb dX12_goesBack_40 (lv_at hl 1 rfl) ?_
      refine lv_iconst (v := 1) hx hb dX12_goesBack_42 (of_decide_eq_true rfl) ?_
      refine lv_isub hx hb dX12_goesBack_43 ?_
      refine lv_topi (fun x28 ex28 => ?_)
      exact by
       have tx28 : x28.toInt = (A3 / 4) - 1 := (jsub ex28 tx27 jz_1 (by omega) (by omega)).trans (by omega)
       refine jput (ty := .int) hx hb hts inlX12 tyX12 tyX12_ok nmX12 hown hK hP hJ hA hS (jc_55 cI cL ad σ26 τ) rfl (k := 27) (of_decide_eq_true rfl) (Nat.le_of_ble_eq_true rfl) (jp_55_27 cI cL ad σ26 τ x28) (hts _ kw_23_11) (fun _ h9 => h9) rfl (by decide +kernel) rfl rfl dX12_goesBack_44 (fun σ29 H locs eσ29 hP hS => ?_)
       refine lv_aload_n hx hb dX12_goesBack_47 rfl (lv_at hl 2 rfl) ?_
       refine va_get (D := D) hx hb hts inlX12 hown hK hP 55 (jc_55 cI cL ad σ29 τ) rfl 29 (of_decide_eq_true rfl) (hts _ kw_7_15) (fun _ h9 => h9) rfl dX12_goesBack_48 ?_
       refine lv_iload_n hx hb dX12_goesBack_51 rfl (lv_at hl 3 rfl) ?_
       refine lv_dup2_11 hx hb dX12_goesBack_52 rfl rfl ?_
       refine jald hx hb hK hP (jc_69 cI cL ad σ29 τ) (jin t1 (by omega) (by omega)) dX12_goesBack_53 ?_
       refine lv_topi (fun x30 ex30 => ?_)
       refine lv_iconst (v := 1) hx hb dX12_goesBack_54 (of_decide_eq_true rfl) ?_
       exact by
        have g31 := jrg (rfl : x30.toInt = x30.toInt)
        refine lv_isub hx hb dX12_goesBack_55 ?_
        refine lv_topi (fun x32 ex32 => ?_)
        have gx32 := jrg (rfl : x32.toInt = x32.toInt)
        refine jast hx hb hK hP hJ hA hS (jc_69 cI cL ad σ29 τ) (ja_69 cI cL ad σ29 τ _ _) (jin t1 (by omega) (by omega)) dX12_goesBack_56 (fun σ33 H locs eσ33 hP hS => ?_)
        refine lv_aload_n hx hb dX12_goesBack_57 rfl (lv_at hl 2 rfl) ?_
        refine lv_dup hx hb dX12_goesBack_58 rfl ?_
        refine va_get (D := D) hx hb hts inlX12 hown hK hP 55 (jc_55 cI cL ad σ33 τ) rfl 26 (of_decide_eq_true rfl) (hts _ kw_23_5) (fun _ h9 => h9) rfl dX12_goesBack_59 ?_
        have m34 : σ33 55 26 = (σ 55 26) := ((congrFun (jnp 55 eσ33 (of_decide_eq_true rfl)) 26).trans ((jkp 26 eσ29 (of_decide_eq_true rfl)).trans (congrFun (jnp 55 eσ26 (of_decide_eq_true rfl)) 26)))
        exact by
         refine jtopr m34 ?_
         refine lv_iconst (v := 1) hx hb dX12_goesBack_62 (of_decide_eq_true rfl) ?_
         have g35 := jrg (rfl : (σ 55 26).toInt = (σ 55 26).toInt)
         refine lv_isub hx hb dX12_goesBack_63 ?_
         refine lv_topi (fun x36 ex36 => ?_)
         have tx36 : x36.toInt = (σ 55 26).toInt - 1 := (jsub ex36 rfl jz_1 (by omega) (by omega)).trans (by omega)
         refine jput (ty := .int) hx hb hts inlX12 tyX12 tyX12_ok nmX12 hown hK hP hJ hA hS (jc_55 cI cL ad σ33 τ) rfl (k := 26) (of_decide_eq_true rfl) (Nat.le_of_ble_eq_true rfl) (jp_55_26 cI cL ad σ33 τ x36) (hts _ kw_23_5) (fun _ h9 => h9) rfl (by decide +kernel) rfl rfl dX12_goesBack_64 (fun σ37 H locs eσ37 hP hS => ?_)
         refine lv_aload_n hx hb dX12_goesBack_67 rfl (lv_at hl 2 rfl) ?_
         refine lv_dup hx hb dX12_goesBack_68 rfl ?_
         exact by
          refine va_get (D := D) hx hb hts inlX12 hown hK hP 55 (jc_55 cI cL ad σ37 τ) rfl 25 (of_decide_eq_true rfl) (hts _ kw_23_6) (fun _ h9 => h9) rfl dX12_goesBack_69 ?_
          have m38 : σ37 55 25 = (σ 55 25) := ((jkp 25 eσ37 (of_decide_eq_true rfl)).trans ((congrFun (jnp 55 eσ33 (of_decide_eq_true rfl)) 25).trans ((jkp 25 eσ29 (of_decide_eq_true rfl)).trans (congrFun (jnp 55 eσ26 (of_decide_eq_true rfl)) 25))))
          refine jtopr m38 ?_
          refine lv_iload_n hx hb dX12_goesBack_72 rfl (lv_at hl 4 rfl) ?_
          refine lv_if_eq (tgt := 80) hx hb dX12_goesBack_73 (of_decide_eq_true rfl) (fun c => absurd c (of_decide_eq_true rfl)) (fun _ => ?_)
          refine lv_iconst (v := 1) hx hb dX12_goesBack_76 (of_decide_eq_true rfl) ?_
          refine lv_goto (tgt := 81) hx hb dX12_goesBack_77 (of_decide_eq_true rfl) ?_
          have g39 := jrg (rfl : (σ 55 25).toInt = (σ 55 25).toInt)
          refine lv_isub hx hb dX12_goesBack_81 ?_
          refine lv_topi (fun x40 ex40 => ?_)
          exact by
           have tx40 : x40.toInt = (σ 55 25).toInt - 1 := (jsub ex40 rfl jz_1 (by omega) (by omega)).trans (by omega)
           refine jput (ty := .int) hx hb hts inlX12 tyX12 tyX12_ok nmX12 hown hK hP hJ hA hS (jc_55 cI cL ad σ37 τ) rfl (k := 25) (of_decide_eq_true rfl) (Nat.le_of_ble_eq_true rfl) (jp_55_25 cI cL ad σ37 τ x40) (hts _ kw_23_6) (fun _ h9 => h9) rfl (by decide +kernel) rfl rfl dX12_goesBack_82 (fun σ41 H locs eσ41 hP hS => ?_)
           have w42 : ∀ k : Nat, k < 4 → 0 ≤ (σ41 68 k).toInt ∧ (σ41 68 k).toInt ≤ 3 := (jrr_fr (jnp 68 eσ41 (of_decide_eq_true rfl)) (jrr_fr (jnp 68 eσ37 (of_decide_eq_true rfl)) (jrr_fr (jnp 68 eσ33 (of_decide_eq_true rfl)) (jrr_fr (jnp 68 eσ29 (of_decide_eq_true rfl)) (by rw [eσ26]; exact jrr_up hw68 (by have h9 := tx25; omega) (by have h9 := tx25; omega))))))
           have z43 : (σ41 55 25).toInt = (σ 55 25).toInt - 1 := ((congrArg Int32.toInt (show σ41 55 25 = x40 from (jsp eσ41))).trans tx40)
           have z44 : (σ41 55 26).toInt = (σ 55 26).toInt - 1 := ((congrArg Int32.toInt (show σ41 55 26 = x36 from ((jkp 26 eσ41 (of_decide_eq_true rfl)).trans (jsp eσ37)))).trans tx36)
           have z45 : (σ41 55 27).toInt = (A3 / 4) - 1 := ((congrArg Int32.toInt (show σ41 55 27 = x28 from ((jkp 27 eσ41 (of_decide_eq_true rfl)).trans ((jkp 27 eσ37 (of_decide_eq_true rfl)).trans ((congrFun (jnp 55 eσ33 (of_decide_eq_true rfl)) 27).trans (jsp eσ29)))))).trans tx28)
           have z46 : (σ41 68 0).toInt = (A3 % 4) := ((congrArg Int32.toInt (show σ41 68 0 = x25 from ((congrFun (jnp 68 eσ41 (of_decide_eq_true rfl)) 0).trans ((congrFun (jnp 68 eσ37 (of_decide_eq_true rfl)) 0).trans ((congrFun (jnp 68 eσ33 (of_decide_eq_true rfl)) 0).trans ((congrFun (jnp 68 eσ29 (of_decide_eq_true rfl)) 0).trans (jsp eσ26))))))).trans tx25)
           have z47 : (σ41 68 1).toInt = (σ 68 1).toInt := (congrArg Int32.toInt (show σ41 68 1 = (σ 68 1) from ((congrFun (jnp 68 eσ41 (of_decide_eq_true rfl)) 1).trans ((congrFun (jnp 68 eσ37 (of_decide_eq_true rfl)) 1).trans ((congrFun (jnp 68 eσ33 (of_decide_eq_true rfl)) 1).trans ((congrFun (jnp 68 eσ29 (of_decide_eq_true rfl)) 1).trans (jkp 1 eσ26 (of_decide_eq_true rfl))))))))
           have z48 : (σ41 68 2).toInt = (σ 68 2).toInt := (congrArg Int32.toInt (show σ41 68 2 = (σ 68 2) from ((congrFun (jnp 68 eσ41 (of_decide_eq_true rfl)) 2).trans ((congrFun (jnp 68 eσ37 (of_decide_eq_true rfl)) 2).trans ((congrFun (jnp 68 eσ33 (of_decide_eq_true rfl)) 2).trans ((congrFun (jnp 68 eσ29 (of_decide_eq_true rfl)) 2).trans (jkp 2 eσ26 (of_decide_eq_true rfl))))))))
           exact by
            have z49 : (σ41 68 3).toInt = (σ 68 3).toInt := (congrArg Int32.toInt (show σ41 68 3 = (σ 68 3) from ((congrFun (jnp 68 eσ41 (of_decide_eq_true rfl)) 3).trans ((congrFun (jnp 68 eσ37 (of_decide_eq_true rfl)) 3).trans ((congrFun (jnp 68 eσ33 (of_decide_eq_true rfl)) 3).trans ((congrFun (jnp 68 eσ29 (of_decide_eq_true rfl)) 3).trans (jkp 3 eσ26 (of_decide_eq_true rfl))))))))
            exact by exact hret σ41 τ _ _ _ _ ⟨rfl, (fun i hi => ((jnp i eσ41 (imp_189 i hi)).trans ((jnp i eσ37 (imp_189 i hi)).trans ((jnp i eσ33 (imp_197 i hi)).trans ((jnp i eσ29 (imp_189 i hi)).trans (jnp i eσ26 (imp_198 i hi))))))), (fun i hi => ((jkp i eσ41 (imp_192 i hi)).trans ((jkp i eσ37 (imp_191 i hi)).trans ((congrFun (jnp 55 eσ33 (of_decide_eq_true rfl)) i).trans ((jkp i eσ29 (imp_190 i hi)).trans (congrFun (jnp 55 eσ26 (of_decide_eq_true rfl)) i)))))), w42, (by rw [eσ41, jup_n (of_decide_eq_true rfl), eσ37, jup_n (of_decide_eq_true rfl), eσ33, jup_row, ex32, ex30, eσ29, jup_n (of_decide_eq_true rfl), eσ26, jup_n (of_decide_eq_true rfl)]), (fun k hk => by rw [eσ41, jup_n (of_decide_eq_true rfl), eσ37, jup_n (of_decide_eq_true rfl), eσ33, jup_n (of_decide_eq_true rfl), eσ29, jup_n (of_decide_eq_true rfl), eσ26, jup_k (by omega)]), (by omega), (by omega), (by omega), (by omega), trivial⟩ hP hS dX12_goesBack_85
  have kc24 := jne c24 (rfl : (σ 55 6).toInt = (σ 55 6).toInt) jz_1
  by_cases c50 : σ 55 6 = 2
  · have kc50 := jeq c50 (rfl : (σ 55 6).toInt = (σ 55 6).toInt) jz_2
    refine lv_iload_n hx hb dX12_goesBack_0 rfl (lv_at hl 3 rfl) ?_
    refine lv_istore (lv' := [(4, .int a3), (0, .ref (ad 55)), (1, .int a1), (2, .int 1), (3, .int a3)]) hx hb dX12_goesBack_1 hl (of_decide_eq_true rfl) rfl (fun ls hl => ?_)
    refine lv_aload_n hx hb dX12_goesBack_3 rfl (lv_at hl 1 rfl) ?_
    refine va_get (D := D) hx hb hts inlX12 hown hK hP 55 (jc_55 cI cL ad σ τ) rfl 6 (of_decide_eq_true rfl) (hts _ kw_9_13) (fun _ h9 => h9) rfl dX12_goesBack_4 ?_
    refine jtopr c50 ?_
    refine lv_iconst (v := 1) hx hb dX12_goesBack_7 (of_decide_eq_true rfl) ?_
    refine lv_isub hx hb dX12_goesBack_8 ?_
    refine jtopr (y := 1) (of_decide_eq_true rfl) ?_
    refine lv_istore (lv' := [(5, .int 1), (4, .int a3), (0, .ref (ad 55)), (1, .int a1), (2, .int 1), (3, .int a3)]) hx hb dX12_goesBack_9 hl (of_decide_eq_true rfl) rfl (fun ls hl => ?_)
    refine lv_iload hx hb dX12_goesBack_11 (lv_at hl 0 rfl) ?_
    refine lv_if_lt (tgt := 39) hx hb dX12_goesBack_13 (of_decide_eq_true rfl) (fun c => absurd c (of_decide_eq_true rfl)) (fun _ => ?_)
    refine lv_aload_n hx hb dX12_goesBack_16 rfl (lv_at hl 2 rfl) ?_
    refine va_get (D := D) hx hb hts inlX12 hown hK hP 55 (jc_55 cI cL ad σ τ) rfl 28 (of_decide_eq_true rfl) (hts _ kw_7_14) (fun _ h9 => h9) rfl dX12_goesBack_17 ?_
    refine lv_iload hx hb dX12_goesBack_20 (lv_at hl 0 rfl) ?_
    refine lv_iload hx hb dX12_goesBack_22 (lv_at hl 1 rfl) ?_
    refine lv_iconst (v := 4) hx hb dX12_goesBack_24 (of_decide_eq_true rfl) ?_
    refine lv_irem hx hb dX12_goesBack_25 (of_decide_eq_true rfl) ?_
    refine lv_topi (fun x51 ex51 => ?_)
    exact by
     have tx51 : x51.toInt = (A3 % 4) := jrem ex51 t3 jz_4 (by omega)
     refine jast hx hb hK hP hJ hA hS (jc_68 cI cL ad σ τ) (ja_68 cI cL ad σ τ _ _) (jin jz_1 (by omega) (by omega)) dX12_goesBack_26 (fun σ52 H locs eσ52 hP hS => ?_)
     have eσ52 : σ52 = jup σ 68 1 x51 := eσ52
     refine lv_iload hx hb dX12_goesBack_27 (lv_at hl 1 rfl) ?_
     refine lv_iconst (v := 4) hx hb dX12_goesBack_29 (of_decide_eq_true rfl) ?_
     refine lv_idiv hx hb dX12_goesBack_30 (of_decide_eq_true rfl) ?_
     refine lv_topi (fun x53 ex53 => ?_)
     have tx53 : x53.toInt = (A3 / 4) := jdiv ex53 t3 jz_4 (by omega) (by omega)
     refine lv_istore (lv' := [(4, .int x53), (5, .int 1), (0, .ref (ad 55)), (1, .int a1), (2, .int 1), (3, .int a3)]) hx hb dX12_goesBack_31 hl (of_decide_eq_true rfl) rfl (fun ls hl => ?_)
     exact by
      refine lv_iinc (v := 0) (lv' := [(5, .int 0), (4, .int x53), (0, .ref (ad 55)), (1, .int a1), (2, .int 1), (3, .int a3)]) hx hb dX12_goesBack_33 hl (k := 1) rfl (of_decide_eq_true rfl) (of_decide_eq_true rfl) rfl (fun ls hl => ?_)
      refine lv_goto (tgt := 11) hx hb dX12_goesBack_36 (of_decide_eq_true rfl) ?_
      refine lv_iload hx hb dX12_goesBack_11 (lv_at hl 0 rfl) ?_
      refine lv_if_lt (tgt := 39) hx hb dX12_goesBack_13 (of_decide_eq_true rfl) (fun c => absurd c (of_decide_eq_true rfl)) (fun _ => ?_)
      refine lv_aload_n hx hb dX12_goesBack_16 rfl (lv_at hl 2 rfl) ?_
      refine va_get (D := D) hx hb hts inlX12 hown hK hP 55 (jc_55 cI cL ad σ52 τ) rfl 28 (of_decide_eq_true rfl) (hts _ kw_7_14) (fun _ h9 => h9) rfl dX12_goesBack_17 ?_
      refine lv_iload hx hb dX12_goesBack_20 (lv_at hl 0 rfl) ?_
      refine lv_iload hx hb dX12_goesBack_22 (lv_at hl 1 rfl) ?_
      refine lv_iconst (v := 4) hx hb dX12_goesBack_24 (of_decide_eq_true rfl) ?_
      refine lv_irem hx hb dX12_goesBack_25 (of_decide_eq_true rfl) ?_
      refine lv_topi (fun x54 ex54 => ?_)
      exact by
       have tx54 : x54.toInt = (((A3 / 4)) % 4) := jrem ex54 tx53 jz_4 (by omega)
       refine jast hx hb hK hP hJ hA hS (jc_68 cI cL ad σ52 τ) (ja_68 cI cL ad σ52 τ _ _) (jin jz_0 (by omega) (by omega)) dX12_goesBack_26 (fun σ55 H locs eσ55 hP hS => ?_)
       have eσ55 : σ55 = jup σ52 68 0 x54 := eσ55
       refine lv_iload hx hb dX12_goesBack_27 (lv_at hl 1 rfl) ?_
       refine lv_iconst (v := 4) hx hb dX12_goesBack_29 (of_decide_eq_true rfl) ?_
       refine lv_idiv hx hb dX12_goesBack_30 (of_decide_eq_true rfl) ?_
       refine lv_topi (fun x56 ex56 => ?_)
       have tx56 : x56.toInt = (((A3 / 4)) / 4) := jdiv ex56 tx53 jz_4 (by omega) (by omega)
       refine lv_istore (lv' := [(4, .int x56), (5, .int 0), (0, .ref (ad 55)), (1, .int a1), (2, .int 1), (3, .int a3)]) hx hb dX12_goesBack_31 hl (of_decide_eq_true rfl) rfl (fun ls hl => ?_)
       exact by
        refine lv_iinc (v := (-1)) (lv' := [(5, .int (-1)), (4, .int x56), (0, .ref (ad 55)), (1, .int a1), (2, .int 1), (3, .int a3)]) hx hb dX12_goesBack_33 hl (k := 1) rfl (of_decide_eq_true rfl) (of_decide_eq_true rfl) rfl (fun ls hl => ?_)
        refine lv_goto (tgt := 11) hx hb dX12_goesBack_36 (of_decide_eq_true rfl) ?_
        refine lv_iload hx hb dX12_goesBack_11 (lv_at hl 0 rfl) ?_
        refine lv_if_lt (tgt := 39) hx hb dX12_goesBack_13 (of_decide_eq_true rfl) (fun _ => ?_) (fun c => absurd (of_decide_eq_true rfl) c)
        refine lv_aload_n hx hb dX12_goesBack_39 rfl (lv_at hl 2 rfl) ?_
        refine lv_iload hx hb dX12_goesBack_40 (lv_at hl 1 rfl) ?_
        refine lv_iconst (v := 1) hx hb dX12_goesBack_42 (of_decide_eq_true rfl) ?_
        refine lv_isub hx hb dX12_goesBack_43 ?_
        refine lv_topi (fun x57 ex57 => ?_)
        exact by
         have tx57 : x57.toInt = (((A3 / 4)) / 4) - 1 := (jsub ex57 tx56 jz_1 (by omega) (by omega)).trans (by omega)
         refine jput (ty := .int) hx hb hts inlX12 tyX12 tyX12_ok nmX12 hown hK hP hJ hA hS (jc_55 cI cL ad σ55 τ) rfl (k := 27) (of_decide_eq_true rfl) (Nat.le_of_ble_eq_true rfl) (jp_55_27 cI cL ad σ55 τ x57) (hts _ kw_23_11) (fun _ h9 => h9) rfl (by decide +kernel) rfl rfl dX12_goesBack_44 (fun σ58 H locs eσ58 hP hS => ?_)
         refine lv_aload_n hx hb dX12_goesBack_47 rfl (lv_at hl 2 rfl) ?_
         refine va_get (D := D) hx hb hts inlX12 hown hK hP 55 (jc_55 cI cL ad σ58 τ) rfl 29 (of_decide_eq_true rfl) (hts _ kw_7_15) (fun _ h9 => h9) rfl dX12_goesBack_48 ?_
         refine lv_iload_n hx hb dX12_goesBack_51 rfl (lv_at hl 3 rfl) ?_
         refine lv_dup2_11 hx hb dX12_goesBack_52 rfl rfl ?_
         refine jald hx hb hK hP (jc_69 cI cL ad σ58 τ) (jin t1 (by omega) (by omega)) dX12_goesBack_53 ?_
         refine lv_topi (fun x59 ex59 => ?_)
         refine lv_iconst (v := 1) hx hb dX12_goesBack_54 (of_decide_eq_true rfl) ?_
         exact by
          have g60 := jrg (rfl : x59.toInt = x59.toInt)
          refine lv_isub hx hb dX12_goesBack_55 ?_
          refine lv_topi (fun x61 ex61 => ?_)
          have gx61 := jrg (rfl : x61.toInt = x61.toInt)
          refine jast hx hb hK hP hJ hA hS (jc_69 cI cL ad σ58 τ) (ja_69 cI cL ad σ58 τ _ _) (jin t1 (by omega) (by omega)) dX12_goesBack_56 (fun σ62 H locs eσ62 hP hS => ?_)
          refine lv_aload_n hx hb dX12_goesBack_57 rfl (lv_at hl 2 rfl) ?_
          refine lv_dup hx hb dX12_goesBack_58 rfl ?_
          refine va_get (D := D) hx hb hts inlX12 hown hK hP 55 (jc_55 cI cL ad σ62 τ) rfl 26 (of_decide_eq_true rfl) (hts _ kw_23_5) (fun _ h9 => h9) rfl dX12_goesBack_59 ?_
          have m63 : σ62 55 26 = (σ 55 26) := ((congrFun (jnp 55 eσ62 (of_decide_eq_true rfl)) 26).trans ((jkp 26 eσ58 (of_decide_eq_true rfl)).trans ((congrFun (jnp 55 eσ55 (of_decide_eq_true rfl)) 26).trans (congrFun (jnp 55 eσ52 (of_decide_eq_true rfl)) 26))))
          exact by
           refine jtopr m63 ?_
           refine lv_iconst (v := 1) hx hb dX12_goesBack_62 (of_decide_eq_true rfl) ?_
           have g64 := jrg (rfl : (σ 55 26).toInt = (σ 55 26).toInt)
           refine lv_isub hx hb dX12_goesBack_63 ?_
           refine lv_topi (fun x65 ex65 => ?_)
           have tx65 : x65.toInt = (σ 55 26).toInt - 1 := (jsub ex65 rfl jz_1 (by omega) (by omega)).trans (by omega)
           refine jput (ty := .int) hx hb hts inlX12 tyX12 tyX12_ok nmX12 hown hK hP hJ hA hS (jc_55 cI cL ad σ62 τ) rfl (k := 26) (of_decide_eq_true rfl) (Nat.le_of_ble_eq_true rfl) (jp_55_26 cI cL ad σ62 τ x65) (hts _ kw_23_5) (fun _ h9 => h9) rfl (by decide +kernel) rfl rfl dX12_goesBack_64 (fun σ66 H locs eσ66 hP hS => ?_)
           refine lv_aload_n hx hb dX12_goesBack_67 rfl (lv_at hl 2 rfl) ?_
           refine lv_dup hx hb dX12_goesBack_68 rfl ?_
           exact by
            refine va_get (D := D) hx hb hts inlX12 hown hK hP 55 (jc_55 cI cL ad σ66 τ) rfl 25 (of_decide_eq_true rfl) (hts _ kw_23_6) (fun _ h9 => h9) rfl dX12_goesBack_69 ?_
            have m67 : σ66 55 25 = (σ 55 25) := ((jkp 25 eσ66 (of_decide_eq_true rfl)).trans ((congrFun (jnp 55 eσ62 (of_decide_eq_true rfl)) 25).trans ((jkp 25 eσ58 (of_decide_eq_true rfl)).trans ((congrFun (jnp 55 eσ55 (of_decide_eq_true rfl)) 25).trans (congrFun (jnp 55 eσ52 (of_decide_eq_true rfl)) 25)))))
            refine jtopr m67 ?_
            refine lv_iload_n hx hb dX12_goesBack_72 rfl (lv_at hl 4 rfl) ?_
            refine lv_if_eq (tgt := 80) hx hb dX12_goesBack_73 (of_decide_eq_true rfl) (fun c => absurd c (of_decide_eq_true rfl)) (fun _ => ?_)
            refine lv_iconst (v := 1) hx hb dX12_goesBack_76 (of_decide_eq_true rfl) ?_
            refine lv_goto (tgt := 81) hx hb dX12_goesBack_77 (of_decide_eq_true rfl) ?_
            have g68 := jrg (rfl : (σ 55 25).toInt = (σ 55 25).toInt)
            refine lv_isub hx hb dX12_goesBack_81 ?_
            refine lv_topi (fun x69 ex69 => ?_)
            exact by
             have tx69 : x69.toInt = (σ 55 25).toInt - 1 := (jsub ex69 rfl jz_1 (by omega) (by omega)).trans (by omega)
             refine jput (ty := .int) hx hb hts inlX12 tyX12 tyX12_ok nmX12 hown hK hP hJ hA hS (jc_55 cI cL ad σ66 τ) rfl (k := 25) (of_decide_eq_true rfl) (Nat.le_of_ble_eq_true rfl) (jp_55_25 cI cL ad σ66 τ x69) (hts _ kw_23_6) (fun _ h9 => h9) rfl (by decide +kernel) rfl rfl dX12_goesBack_82 (fun σ70 H locs eσ70 hP hS => ?_)
             have w71 : ∀ k : Nat, k < 4 → 0 ≤ (σ70 68 k).toInt ∧ (σ70 68 k).toInt ≤ 3 := (jrr_fr (jnp 68 eσ70 (of_decide_eq_true rfl)) (jrr_fr (jnp 68 eσ66 (of_decide_eq_true rfl)) (jrr_fr (jnp 68 eσ62 (of_decide_eq_true rfl)) (jrr_fr (jnp 68 eσ58 (of_decide_eq_true rfl)) (by rw [eσ55]; exact jrr_up (by rw [eσ52]; exact jrr_up hw68 (by have h9 := tx51; omega) (by have h9 := tx51; omega)) (by have h9 := tx54; omega) (by have h9 := tx54; omega))))))
             have z72 : (σ70 55 25).toInt = (σ 55 25).toInt - 1 := ((congrArg Int32.toInt (show σ70 55 25 = x69 from (jsp eσ70))).trans tx69)
             have z73 : (σ70 55 26).toInt = (σ 55 26).toInt - 1 := ((congrArg Int32.toInt (show σ70 55 26 = x65 from ((jkp 26 eσ70 (of_decide_eq_true rfl)).trans (jsp eσ66)))).trans tx65)
             have z74 : (σ70 55 27).toInt = (((A3 / 4)) / 4) - 1 := ((congrArg Int32.toInt (show σ70 55 27 = x57 from ((jkp 27 eσ70 (of_decide_eq_true rfl)).trans ((jkp 27 eσ66 (of_decide_eq_true rfl)).trans ((congrFun (jnp 55 eσ62 (of_decide_eq_true rfl)) 27).trans (jsp eσ58)))))).trans tx57)
             have z75 : (σ70 68 0).toInt = (((A3 / 4)) % 4) := ((congrArg Int32.toInt (show σ70 68 0 = x54 from ((congrFun (jnp 68 eσ70 (of_decide_eq_true rfl)) 0).trans ((congrFun (jnp 68 eσ66 (of_decide_eq_true rfl)) 0).trans ((congrFun (jnp 68 eσ62 (of_decide_eq_true rfl)) 0).trans ((congrFun (jnp 68 eσ58 (of_decide_eq_true rfl)) 0).trans (jsp eσ55))))))).trans tx54)
             have z76 : (σ70 68 1).toInt = (A3 % 4) := ((congrArg Int32.toInt (show σ70 68 1 = x51 from ((congrFun (jnp 68 eσ70 (of_decide_eq_true rfl)) 1).trans ((congrFun (jnp 68 eσ66 (of_decide_eq_true rfl)) 1).trans ((congrFun (jnp 68 eσ62 (of_decide_eq_true rfl)) 1).trans ((congrFun (jnp 68 eσ58 (of_decide_eq_true rfl)) 1).trans ((jkp 1 eσ55 (of_decide_eq_true rfl)).trans (jsp eσ52)))))))).trans tx51)
             have z77 : (σ70 68 2).toInt = (σ 68 2).toInt := (congrArg Int32.toInt (show σ70 68 2 = (σ 68 2) from ((congrFun (jnp 68 eσ70 (of_decide_eq_true rfl)) 2).trans ((congrFun (jnp 68 eσ66 (of_decide_eq_true rfl)) 2).trans ((congrFun (jnp 68 eσ62 (of_decide_eq_true rfl)) 2).trans ((congrFun (jnp 68 eσ58 (of_decide_eq_true rfl)) 2).trans ((jkp 2 eσ55 (of_decide_eq_true rfl)).trans (jkp 2 eσ52 (of_decide_eq_true rfl)))))))))
             exact by
              have z78 : (σ70 68 3).toInt = (σ 68 3).toInt := (congrArg Int32.toInt (show σ70 68 3 = (σ 68 3) from ((congrFun (jnp 68 eσ70 (of_decide_eq_true rfl)) 3).trans ((congrFun (jnp 68 eσ66 (of_decide_eq_true rfl)) 3).trans ((congrFun (jnp 68 eσ62 (of_decide_eq_true rfl)) 3).trans ((congrFun (jnp 68 eσ58 (of_decide_eq_true rfl)) 3).trans ((jkp 3 eσ55 (of_decide_eq_true rfl)).trans (jkp 3 eσ52 (of_decide_eq_true rfl)))))))))
              exact by exact hret σ70 τ _ _ _ _ ⟨rfl, (fun i hi => ((jnp i eσ70 (imp_189 i hi)).trans ((jnp i eσ66 (imp_189 i hi)).trans ((jnp i eσ62 (imp_197 i hi)).trans ((jnp i eσ58 (imp_189 i hi)).trans ((jnp i eσ55 (imp_198 i hi)).trans (jnp i eσ52 (imp_198 i hi)))))))), (fun i hi => ((jkp i eσ70 (imp_192 i hi)).trans ((jkp i eσ66 (imp_191 i hi)).trans ((congrFun (jnp 55 eσ62 (of_decide_eq_true rfl)) i).trans ((jkp i eσ58 (imp_190 i hi)).trans ((congrFun (jnp 55 eσ55 (of_decide_eq_true rfl)) i).trans (congrFun (jnp 55 eσ52 (of_decide_eq_true rfl)) i))))))), w71, (by rw [eσ70, jup_n (of_decide_eq_true rfl), eσ66, jup_n (of_decide_eq_true rfl), eσ62, jup_row, ex61, ex59, eσ58, jup_n (of_decide_eq_true rfl), eσ55, jup_n (of_decide_eq_true rfl), eσ52, jup_n (of_decide_eq_true rfl)]), (fun k hk => by rw [eσ70, jup_n (of_decide_eq_true rfl), eσ66, jup_n (of_decide_eq_true rfl), eσ62, jup_n (of_decide_eq_true rfl), eσ58, jup_n (of_decide_eq_true rfl), eσ55, jup_k (by omega), eσ52, jup_k (by omega)]), (by omega), (by omega), (by omega), (by omega), trivial⟩ hP hS dX12_goesBack_85
  have kc50 := jne c50 (rfl : (σ 55 6).toInt = (σ 55 6).toInt) jz_2
  by_cases c79 : σ 55 6 = 3
  · have kc79 := jeq c79 (rfl : (σ 55 6).toInt = (σ 55 6).toInt) jz_3
    refine lv_iload_n hx hb dX12_goesBack_0 rfl (lv_at hl 3 rfl) ?_
    refine lv_istore (lv' := [(4, .int a3), (0, .ref (ad 55)), (1, .int a1), (2, .int 1), (3, .int a3)]) hx hb dX12_goesBack_1 hl (of_decide_eq_true rfl) rfl (fun ls hl => ?_)
    refine lv_aload_n hx hb dX12_goesBack_3 rfl (lv_at hl 1 rfl) ?_
    refine va_get (D := D) hx hb hts inlX12 hown hK hP 55 (jc_55 cI cL ad σ τ) rfl 6 (of_decide_eq_true rfl) (hts _ kw_9_13) (fun _ h9 => h9) rfl dX12_goesBack_4 ?_
    refine jtopr c79 ?_
    refine lv_iconst (v := 1) hx hb dX12_goesBack_7 (of_decide_eq_true rfl) ?_
    refine lv_isub hx hb dX12_goesBack_8 ?_
    refine jtopr (y := 2) (of_decide_eq_true rfl) ?_
    refine lv_istore (lv' := [(5, .int 2), (4, .int a3), (0, .ref (ad 55)), (1, .int a1), (2, .int 1), (3, .int a3)]) hx hb dX12_goesBack_9 hl (of_decide_eq_true rfl) rfl (fun ls hl => ?_)
    refine lv_iload hx hb dX12_goesBack_11 (lv_at hl 0 rfl) ?_
    refine lv_if_lt (tgt := 39) hx hb dX12_goesBack_13 (of_decide_eq_true rfl) (fun c => absurd c (of_decide_eq_true rfl)) (fun _ => ?_)
    refine lv_aload_n hx hb dX12_goesBack_16 rfl (lv_at hl 2 rfl) ?_
    refine va_get (D := D) hx hb hts inlX12 hown hK hP 55 (jc_55 cI cL ad σ τ) rfl 28 (of_decide_eq_true rfl) (hts _ kw_7_14) (fun _ h9 => h9) rfl dX12_goesBack_17 ?_
    refine lv_iload hx hb dX12_goesBack_20 (lv_at hl 0 rfl) ?_
    refine lv_iload hx hb dX12_goesBack_22 (lv_at hl 1 rfl) ?_
    refine lv_iconst (v := 4) hx hb dX12_goesBack_24 (of_decide_eq_true rfl) ?_
    refine lv_irem hx hb dX12_goesBack_25 (of_decide_eq_true rfl) ?_
    refine lv_topi (fun x80 ex80 => ?_)
    exact by
     have tx80 : x80.toInt = (A3 % 4) := jrem ex80 t3 jz_4 (by omega)
     refine jast hx hb hK hP hJ hA hS (jc_68 cI cL ad σ τ) (ja_68 cI cL ad σ τ _ _) (jin jz_2 (by omega) (by omega)) dX12_goesBack_26 (fun σ81 H locs eσ81 hP hS => ?_)
     have eσ81 : σ81 = jup σ 68 2 x80 := eσ81
     refine lv_iload hx hb dX12_goesBack_27 (lv_at hl 1 rfl) ?_
     refine lv_iconst (v := 4) hx hb dX12_goesBack_29 (of_decide_eq_true rfl) ?_
     refine lv_idiv hx hb dX12_goesBack_30 (of_decide_eq_true rfl) ?_
     refine lv_topi (fun x82 ex82 => ?_)
     have tx82 : x82.toInt = (A3 / 4) := jdiv ex82 t3 jz_4 (by omega) (by omega)
     refine lv_istore (lv' := [(4, .int x82), (5, .int 2), (0, .ref (ad 55)), (1, .int a1), (2, .int 1), (3, .int a3)]) hx hb dX12_goesBack_31 hl (of_decide_eq_true rfl) rfl (fun ls hl => ?_)
     exact by
      refine lv_iinc (v := 1) (lv' := [(5, .int 1), (4, .int x82), (0, .ref (ad 55)), (1, .int a1), (2, .int 1), (3, .int a3)]) hx hb dX12_goesBack_33 hl (k := 1) rfl (of_decide_eq_true rfl) (of_decide_eq_true rfl) rfl (fun ls hl => ?_)
      refine lv_goto (tgt := 11) hx hb dX12_goesBack_36 (of_decide_eq_true rfl) ?_
      refine lv_iload hx hb dX12_goesBack_11 (lv_at hl 0 rfl) ?_
      refine lv_if_lt (tgt := 39) hx hb dX12_goesBack_13 (of_decide_eq_true rfl) (fun c => absurd c (of_decide_eq_true rfl)) (fun _ => ?_)
      refine lv_aload_n hx hb dX12_goesBack_16 rfl (lv_at hl 2 rfl) ?_
      refine va_get (D := D) hx hb hts inlX12 hown hK hP 55 (jc_55 cI cL ad σ81 τ) rfl 28 (of_decide_eq_true rfl) (hts _ kw_7_14) (fun _ h9 => h9) rfl dX12_goesBack_17 ?_
      refine lv_iload hx hb dX12_goesBack_20 (lv_at hl 0 rfl) ?_
      refine lv_iload hx hb dX12_goesBack_22 (lv_at hl 1 rfl) ?_
      refine lv_iconst (v := 4) hx hb dX12_goesBack_24 (of_decide_eq_true rfl) ?_
      refine lv_irem hx hb dX12_goesBack_25 (of_decide_eq_true rfl) ?_
      refine lv_topi (fun x83 ex83 => ?_)
      exact by
       have tx83 : x83.toInt = (((A3 / 4)) % 4) := jrem ex83 tx82 jz_4 (by omega)
       refine jast hx hb hK hP hJ hA hS (jc_68 cI cL ad σ81 τ) (ja_68 cI cL ad σ81 τ _ _) (jin jz_1 (by omega) (by omega)) dX12_goesBack_26 (fun σ84 H locs eσ84 hP hS => ?_)
       have eσ84 : σ84 = jup σ81 68 1 x83 := eσ84
       refine lv_iload hx hb dX12_goesBack_27 (lv_at hl 1 rfl) ?_
       refine lv_iconst (v := 4) hx hb dX12_goesBack_29 (of_decide_eq_true rfl) ?_
       refine lv_idiv hx hb dX12_goesBack_30 (of_decide_eq_true rfl) ?_
       refine lv_topi (fun x85 ex85 => ?_)
       have tx85 : x85.toInt = (((A3 / 4)) / 4) := jdiv ex85 tx82 jz_4 (by omega) (by omega)
       refine lv_istore (lv' := [(4, .int x85), (5, .int 1), (0, .ref (ad 55)), (1, .int a1), (2, .int 1), (3, .int a3)]) hx hb dX12_goesBack_31 hl (of_decide_eq_true rfl) rfl (fun ls hl => ?_)
       exact by
        refine lv_iinc (v := 0) (lv' := [(5, .int 0), (4, .int x85), (0, .ref (ad 55)), (1, .int a1), (2, .int 1), (3, .int a3)]) hx hb dX12_goesBack_33 hl (k := 1) rfl (of_decide_eq_true rfl) (of_decide_eq_true rfl) rfl (fun ls hl => ?_)
        refine lv_goto (tgt := 11) hx hb dX12_goesBack_36 (of_decide_eq_true rfl) ?_
        refine lv_iload hx hb dX12_goesBack_11 (lv_at hl 0 rfl) ?_
        refine lv_if_lt (tgt := 39) hx hb dX12_goesBack_13 (of_decide_eq_true rfl) (fun c => absurd c (of_decide_eq_true rfl)) (fun _ => ?_)
        refine lv_aload_n hx hb dX12_goesBack_16 rfl (lv_at hl 2 rfl) ?_
        refine va_get (D := D) hx hb hts inlX12 hown hK hP 55 (jc_55 cI cL ad σ84 τ) rfl 28 (of_decide_eq_true rfl) (hts _ kw_7_14) (fun _ h9 => h9) rfl dX12_goesBack_17 ?_
        refine lv_iload hx hb dX12_goesBack_20 (lv_at hl 0 rfl) ?_
        refine lv_iload hx hb dX12_goesBack_22 (lv_at hl 1 rfl) ?_
        refine lv_iconst (v := 4) hx hb dX12_goesBack_24 (of_decide_eq_true rfl) ?_
        refine lv_irem hx hb dX12_goesBack_25 (of_decide_eq_true rfl) ?_
        refine lv_topi (fun x86 ex86 => ?_)
        exact by
         have tx86 : x86.toInt = (((((A3 / 4)) / 4)) % 4) := jrem ex86 tx85 jz_4 (by omega)
         refine jast hx hb hK hP hJ hA hS (jc_68 cI cL ad σ84 τ) (ja_68 cI cL ad σ84 τ _ _) (jin jz_0 (by omega) (by omega)) dX12_goesBack_26 (fun σ87 H locs eσ87 hP hS => ?_)
         have eσ87 : σ87 = jup σ84 68 0 x86 := eσ87
         refine lv_iload hx hb dX12_goesBack_27 (lv_at hl 1 rfl) ?_
         refine lv_iconst (v := 4) hx hb dX12_goesBack_29 (of_decide_eq_true rfl) ?_
         refine lv_idiv hx hb dX12_goesBack_30 (of_decide_eq_true rfl) ?_
         refine lv_topi (fun x88 ex88 => ?_)
         have tx88 : x88.toInt = (((((A3 / 4)) / 4)) / 4) := jdiv ex88 tx85 jz_4 (by omega) (by omega)
         refine lv_istore (lv' := [(4, .int x88), (5, .int 0), (0, .ref (ad 55)), (1, .int a1), (2, .int 1), (3, .int a3)]) hx hb dX12_goesBack_31 hl (of_decide_eq_true rfl) rfl (fun ls hl => ?_)
         exact by
          refine lv_iinc (v := (-1)) (lv' := [(5, .int (-1)), (4, .int x88), (0, .ref (ad 55)), (1, .int a1), (2, .int 1), (3, .int a3)]) hx hb dX12_goesBack_33 hl (k := 1) rfl (of_decide_eq_true rfl) (of_decide_eq_true rfl) rfl (fun ls hl => ?_)
          refine lv_goto (tgt := 11) hx hb dX12_goesBack_36 (of_decide_eq_true rfl) ?_
          refine lv_iload hx hb dX12_goesBack_11 (lv_at hl 0 rfl) ?_
          refine lv_if_lt (tgt := 39) hx hb dX12_goesBack_13 (of_decide_eq_true rfl) (fun _ => ?_) (fun c => absurd (of_decide_eq_true rfl) c)
          refine lv_aload_n hx hb dX12_goesBack_39 rfl (lv_at hl 2 rfl) ?_
          refine lv_iload hx hb dX12_goesBack_40 (lv_at hl 1 rfl) ?_
          refine lv_iconst (v := 1) hx hb dX12_goesBack_42 (of_decide_eq_true rfl) ?_
          refine lv_isub hx hb dX12_goesBack_43 ?_
          refine lv_topi (fun x89 ex89 => ?_)
          exact by
           have tx89 : x89.toInt = (((((A3 / 4)) / 4)) / 4) - 1 := (jsub ex89 tx88 jz_1 (by omega) (by omega)).trans (by omega)
           refine jput (ty := .int) hx hb hts inlX12 tyX12 tyX12_ok nmX12 hown hK hP hJ hA hS (jc_55 cI cL ad σ87 τ) rfl (k := 27) (of_decide_eq_true rfl) (Nat.le_of_ble_eq_true rfl) (jp_55_27 cI cL ad σ87 τ x89) (hts _ kw_23_11) (fun _ h9 => h9) rfl (by decide +kernel) rfl rfl dX12_goesBack_44 (fun σ90 H locs eσ90 hP hS => ?_)
           refine lv_aload_n hx hb dX12_goesBack_47 rfl (lv_at hl 2 rfl) ?_
           refine va_get (D := D) hx hb hts inlX12 hown hK hP 55 (jc_55 cI cL ad σ90 τ) rfl 29 (of_decide_eq_true rfl) (hts _ kw_7_15) (fun _ h9 => h9) rfl dX12_goesBack_48 ?_
           refine lv_iload_n hx hb dX12_goesBack_51 rfl (lv_at hl 3 rfl) ?_
           refine lv_dup2_11 hx hb dX12_goesBack_52 rfl rfl ?_
           refine jald hx hb hK hP (jc_69 cI cL ad σ90 τ) (jin t1 (by omega) (by omega)) dX12_goesBack_53 ?_
           refine lv_topi (fun x91 ex91 => ?_)
           refine lv_iconst (v := 1) hx hb dX12_goesBack_54 (of_decide_eq_true rfl) ?_
           exact by
            have g92 := jrg (rfl : x91.toInt = x91.toInt)
            refine lv_isub hx hb dX12_goesBack_55 ?_
            refine lv_topi (fun x93 ex93 => ?_)
            have gx93 := jrg (rfl : x93.toInt = x93.toInt)
            refine jast hx hb hK hP hJ hA hS (jc_69 cI cL ad σ90 τ) (ja_69 cI cL ad σ90 τ _ _) (jin t1 (by omega) (by omega)) dX12_goesBack_56 (fun σ94 H locs eσ94 hP hS => ?_)
            refine lv_aload_n hx hb dX12_goesBack_57 rfl (lv_at hl 2 rfl) ?_
            refine lv_dup hx hb dX12_goesBack_58 rfl ?_
            refine va_get (D := D) hx hb hts inlX12 hown hK hP 55 (jc_55 cI cL ad σ94 τ) rfl 26 (of_decide_eq_true rfl) (hts _ kw_23_5) (fun _ h9 => h9) rfl dX12_goesBack_59 ?_
            have m95 : σ94 55 26 = (σ 55 26) := ((congrFun (jnp 55 eσ94 (of_decide_eq_true rfl)) 26).trans ((jkp 26 eσ90 (of_decide_eq_true rfl)).trans ((congrFun (jnp 55 eσ87 (of_decide_eq_true rfl)) 26).trans ((congrFun (jnp 55 eσ84 (of_decide_eq_true rfl)) 26).trans (congrFun (jnp 55 eσ81 (of_decide_eq_true rfl)) 26)))))
            exact by
             refine jtopr m95 ?_
             refine lv_iconst (v := 1) hx hb dX12_goesBack_62 (of_decide_eq_true rfl) ?_
             have g96 := jrg (rfl : (σ 55 26).toInt = (σ 55 26).toInt)
             refine lv_isub hx hb dX12_goesBack_63 ?_
             refine lv_topi (fun x97 ex97 => ?_)
             have tx97 : x97.toInt = (σ 55 26).toInt - 1 := (jsub ex97 rfl jz_1 (by omega) (by omega)).trans (by omega)
             refine jput (ty := .int) hx hb hts inlX12 tyX12 tyX12_ok nmX12 hown hK hP hJ hA hS (jc_55 cI cL ad σ94 τ) rfl (k := 26) (of_decide_eq_true rfl) (Nat.le_of_ble_eq_true rfl) (jp_55_26 cI cL ad σ94 τ x97) (hts _ kw_23_5) (fun _ h9 => h9) rfl (by decide +kernel) rfl rfl dX12_goesBack_64 (fun σ98 H locs eσ98 hP hS => ?_)
             refine lv_aload_n hx hb dX12_goesBack_67 rfl (lv_at hl 2 rfl) ?_
             refine lv_dup hx hb dX12_goesBack_68 rfl ?_
             exact by
              refine va_get (D := D) hx hb hts inlX12 hown hK hP 55 (jc_55 cI cL ad σ98 τ) rfl 25 (of_decide_eq_true rfl) (hts _ kw_23_6) (fun _ h9 => h9) rfl dX12_goesBack_69 ?_
              have m99 : σ98 55 25 = (σ 55 25) := ((jkp 25 eσ98 (of_decide_eq_true rfl)).trans ((congrFun (jnp 55 eσ94 (of_decide_eq_true rfl)) 25).trans ((jkp 25 eσ90 (of_decide_eq_true rfl)).trans ((congrFun (jnp 55 eσ87 (of_decide_eq_true rfl)) 25).trans ((congrFun (jnp 55 eσ84 (of_decide_eq_true rfl)) 25).trans (congrFun (jnp 55 eσ81 (of_decide_eq_true rfl)) 25))))))
              refine jtopr m99 ?_
              refine lv_iload_n hx hb dX12_goesBack_72 rfl (lv_at hl 4 rfl) ?_
              refine lv_if_eq (tgt := 80) hx hb dX12_goesBack_73 (of_decide_eq_true rfl) (fun c => absurd c (of_decide_eq_true rfl)) (fun _ => ?_)
              refine lv_iconst (v := 1) hx hb dX12_goesBack_76 (of_decide_eq_true rfl) ?_
              refine lv_goto (tgt := 81) hx hb dX12_goesBack_77 (of_decide_eq_true rfl) ?_
              have g100 := jrg (rfl : (σ 55 25).toInt = (σ 55 25).toInt)
              refine lv_isub hx hb dX12_goesBack_81 ?_
              refine lv_topi (fun x101 ex101 => ?_)
              exact by
               have tx101 : x101.toInt = (σ 55 25).toInt - 1 := (jsub ex101 rfl jz_1 (by omega) (by omega)).trans (by omega)
               refine jput (ty := .int) hx hb hts inlX12 tyX12 tyX12_ok nmX12 hown hK hP hJ hA hS (jc_55 cI cL ad σ98 τ) rfl (k := 25) (of_decide_eq_true rfl) (Nat.le_of_ble_eq_true rfl) (jp_55_25 cI cL ad σ98 τ x101) (hts _ kw_23_6) (fun _ h9 => h9) rfl (by decide +kernel) rfl rfl dX12_goesBack_82 (fun σ102 H locs eσ102 hP hS => ?_)
               have w103 : ∀ k : Nat, k < 4 → 0 ≤ (σ102 68 k).toInt ∧ (σ102 68 k).toInt ≤ 3 := (jrr_fr (jnp 68 eσ102 (of_decide_eq_true rfl)) (jrr_fr (jnp 68 eσ98 (of_decide_eq_true rfl)) (jrr_fr (jnp 68 eσ94 (of_decide_eq_true rfl)) (jrr_fr (jnp 68 eσ90 (of_decide_eq_true rfl)) (by rw [eσ87]; exact jrr_up (by rw [eσ84]; exact jrr_up (by rw [eσ81]; exact jrr_up hw68 (by have h9 := tx80; omega) (by have h9 := tx80; omega)) (by have h9 := tx83; omega) (by have h9 := tx83; omega)) (by have h9 := tx86; omega) (by have h9 := tx86; omega))))))
               have z104 : (σ102 55 25).toInt = (σ 55 25).toInt - 1 := ((congrArg Int32.toInt (show σ102 55 25 = x101 from (jsp eσ102))).trans tx101)
               have z105 : (σ102 55 26).toInt = (σ 55 26).toInt - 1 := ((congrArg Int32.toInt (show σ102 55 26 = x97 from ((jkp 26 eσ102 (of_decide_eq_true rfl)).trans (jsp eσ98)))).trans tx97)
               have z106 : (σ102 55 27).toInt = (((((A3 / 4)) / 4)) / 4) - 1 := ((congrArg Int32.toInt (show σ102 55 27 = x89 from ((jkp 27 eσ102 (of_decide_eq_true rfl)).trans ((jkp 27 eσ98 (of_decide_eq_true rfl)).trans ((congrFun (jnp 55 eσ94 (of_decide_eq_true rfl)) 27).trans (jsp eσ90)))))).trans tx89)
               have z107 : (σ102 68 0).toInt = (((((A3 / 4)) / 4)) % 4) := ((congrArg Int32.toInt (show σ102 68 0 = x86 from ((congrFun (jnp 68 eσ102 (of_decide_eq_true rfl)) 0).trans ((congrFun (jnp 68 eσ98 (of_decide_eq_true rfl)) 0).trans ((congrFun (jnp 68 eσ94 (of_decide_eq_true rfl)) 0).trans ((congrFun (jnp 68 eσ90 (of_decide_eq_true rfl)) 0).trans (jsp eσ87))))))).trans tx86)
               have z108 : (σ102 68 1).toInt = (((A3 / 4)) % 4) := ((congrArg Int32.toInt (show σ102 68 1 = x83 from ((congrFun (jnp 68 eσ102 (of_decide_eq_true rfl)) 1).trans ((congrFun (jnp 68 eσ98 (of_decide_eq_true rfl)) 1).trans ((congrFun (jnp 68 eσ94 (of_decide_eq_true rfl)) 1).trans ((congrFun (jnp 68 eσ90 (of_decide_eq_true rfl)) 1).trans ((jkp 1 eσ87 (of_decide_eq_true rfl)).trans (jsp eσ84)))))))).trans tx83)
               have z109 : (σ102 68 2).toInt = (A3 % 4) := ((congrArg Int32.toInt (show σ102 68 2 = x80 from ((congrFun (jnp 68 eσ102 (of_decide_eq_true rfl)) 2).trans ((congrFun (jnp 68 eσ98 (of_decide_eq_true rfl)) 2).trans ((congrFun (jnp 68 eσ94 (of_decide_eq_true rfl)) 2).trans ((congrFun (jnp 68 eσ90 (of_decide_eq_true rfl)) 2).trans ((jkp 2 eσ87 (of_decide_eq_true rfl)).trans ((jkp 2 eσ84 (of_decide_eq_true rfl)).trans (jsp eσ81))))))))).trans tx80)
               exact by
                have z110 : (σ102 68 3).toInt = (σ 68 3).toInt := (congrArg Int32.toInt (show σ102 68 3 = (σ 68 3) from ((congrFun (jnp 68 eσ102 (of_decide_eq_true rfl)) 3).trans ((congrFun (jnp 68 eσ98 (of_decide_eq_true rfl)) 3).trans ((congrFun (jnp 68 eσ94 (of_decide_eq_true rfl)) 3).trans ((congrFun (jnp 68 eσ90 (of_decide_eq_true rfl)) 3).trans ((jkp 3 eσ87 (of_decide_eq_true rfl)).trans ((jkp 3 eσ84 (of_decide_eq_true rfl)).trans (jkp 3 eσ81 (of_decide_eq_true rfl))))))))))
                exact by exact hret σ102 τ _ _ _ _ ⟨rfl, (fun i hi => ((jnp i eσ102 (imp_189 i hi)).trans ((jnp i eσ98 (imp_189 i hi)).trans ((jnp i eσ94 (imp_197 i hi)).trans ((jnp i eσ90 (imp_189 i hi)).trans ((jnp i eσ87 (imp_198 i hi)).trans ((jnp i eσ84 (imp_198 i hi)).trans (jnp i eσ81 (imp_198 i hi))))))))), (fun i hi => ((jkp i eσ102 (imp_192 i hi)).trans ((jkp i eσ98 (imp_191 i hi)).trans ((congrFun (jnp 55 eσ94 (of_decide_eq_true rfl)) i).trans ((jkp i eσ90 (imp_190 i hi)).trans ((congrFun (jnp 55 eσ87 (of_decide_eq_true rfl)) i).trans ((congrFun (jnp 55 eσ84 (of_decide_eq_true rfl)) i).trans (congrFun (jnp 55 eσ81 (of_decide_eq_true rfl)) i)))))))), w103, (by rw [eσ102, jup_n (of_decide_eq_true rfl), eσ98, jup_n (of_decide_eq_true rfl), eσ94, jup_row, ex93, ex91, eσ90, jup_n (of_decide_eq_true rfl), eσ87, jup_n (of_decide_eq_true rfl), eσ84, jup_n (of_decide_eq_true rfl), eσ81, jup_n (of_decide_eq_true rfl)]), (fun k hk => by rw [eσ102, jup_n (of_decide_eq_true rfl), eσ98, jup_n (of_decide_eq_true rfl), eσ94, jup_n (of_decide_eq_true rfl), eσ90, jup_n (of_decide_eq_true rfl), eσ87, jup_k (by omega), eσ84, jup_k (by omega), eσ81, jup_k (by omega)]), (by omega), (by omega), (by omega), (by omega), trivial⟩ hP hS dX12_goesBack_85
  have kc79 := jne c79 (rfl : (σ 55 6).toInt = (σ 55 6).toInt) jz_3
  by_cases c111 : σ 55 6 = 4
  · have kc111 := jeq c111 (rfl : (σ 55 6).toInt = (σ 55 6).toInt) jz_4
    refine lv_iload_n hx hb dX12_goesBack_0 rfl (lv_at hl 3 rfl) ?_
    refine lv_istore (lv' := [(4, .int a3), (0, .ref (ad 55)), (1, .int a1), (2, .int 1), (3, .int a3)]) hx hb dX12_goesBack_1 hl (of_decide_eq_true rfl) rfl (fun ls hl => ?_)
    refine lv_aload_n hx hb dX12_goesBack_3 rfl (lv_at hl 1 rfl) ?_
    refine va_get (D := D) hx hb hts inlX12 hown hK hP 55 (jc_55 cI cL ad σ τ) rfl 6 (of_decide_eq_true rfl) (hts _ kw_9_13) (fun _ h9 => h9) rfl dX12_goesBack_4 ?_
    refine jtopr c111 ?_
    refine lv_iconst (v := 1) hx hb dX12_goesBack_7 (of_decide_eq_true rfl) ?_
    refine lv_isub hx hb dX12_goesBack_8 ?_
    refine jtopr (y := 3) (of_decide_eq_true rfl) ?_
    refine lv_istore (lv' := [(5, .int 3), (4, .int a3), (0, .ref (ad 55)), (1, .int a1), (2, .int 1), (3, .int a3)]) hx hb dX12_goesBack_9 hl (of_decide_eq_true rfl) rfl (fun ls hl => ?_)
    refine lv_iload hx hb dX12_goesBack_11 (lv_at hl 0 rfl) ?_
    refine lv_if_lt (tgt := 39) hx hb dX12_goesBack_13 (of_decide_eq_true rfl) (fun c => absurd c (of_decide_eq_true rfl)) (fun _ => ?_)
    refine lv_aload_n hx hb dX12_goesBack_16 rfl (lv_at hl 2 rfl) ?_
    refine va_get (D := D) hx hb hts inlX12 hown hK hP 55 (jc_55 cI cL ad σ τ) rfl 28 (of_decide_eq_true rfl) (hts _ kw_7_14) (fun _ h9 => h9) rfl dX12_goesBack_17 ?_
    refine lv_iload hx hb dX12_goesBack_20 (lv_at hl 0 rfl) ?_
    refine lv_iload hx hb dX12_goesBack_22 (lv_at hl 1 rfl) ?_
    refine lv_iconst (v := 4) hx hb dX12_goesBack_24 (of_decide_eq_true rfl) ?_
    refine lv_irem hx hb dX12_goesBack_25 (of_decide_eq_true rfl) ?_
    refine lv_topi (fun x112 ex112 => ?_)
    exact by
     have tx112 : x112.toInt = (A3 % 4) := jrem ex112 t3 jz_4 (by omega)
     refine jast hx hb hK hP hJ hA hS (jc_68 cI cL ad σ τ) (ja_68 cI cL ad σ τ _ _) (jin jz_3 (by omega) (by omega)) dX12_goesBack_26 (fun σ113 H locs eσ113 hP hS => ?_)
     have eσ113 : σ113 = jup σ 68 3 x112 := eσ113
     refine lv_iload hx hb dX12_goesBack_27 (lv_at hl 1 rfl) ?_
     refine lv_iconst (v := 4) hx hb dX12_goesBack_29 (of_decide_eq_true rfl) ?_
     refine lv_idiv hx hb dX12_goesBack_30 (of_decide_eq_true rfl) ?_
     refine lv_topi (fun x114 ex114 => ?_)
     have tx114 : x114.toInt = (A3 / 4) := jdiv ex114 t3 jz_4 (by omega) (by omega)
     refine lv_istore (lv' := [(4, .int x114), (5, .int 3), (0, .ref (ad 55)), (1, .int a1), (2, .int 1), (3, .int a3)]) hx hb dX12_goesBack_31 hl (of_decide_eq_true rfl) rfl (fun ls hl => ?_)
     exact by
      refine lv_iinc (v := 2) (lv' := [(5, .int 2), (4, .int x114), (0, .ref (ad 55)), (1, .int a1), (2, .int 1), (3, .int a3)]) hx hb dX12_goesBack_33 hl (k := 1) rfl (of_decide_eq_true rfl) (of_decide_eq_true rfl) rfl (fun ls hl => ?_)
      refine lv_goto (tgt := 11) hx hb dX12_goesBack_36 (of_decide_eq_true rfl) ?_
      refine lv_iload hx hb dX12_goesBack_11 (lv_at hl 0 rfl) ?_
      refine lv_if_lt (tgt := 39) hx hb dX12_goesBack_13 (of_decide_eq_true rfl) (fun c => absurd c (of_decide_eq_true rfl)) (fun _ => ?_)
      refine lv_aload_n hx hb dX12_goesBack_16 rfl (lv_at hl 2 rfl) ?_
      refine va_get (D := D) hx hb hts inlX12 hown hK hP 55 (jc_55 cI cL ad σ113 τ) rfl 28 (of_decide_eq_true rfl) (hts _ kw_7_14) (fun _ h9 => h9) rfl dX12_goesBack_17 ?_
      refine lv_iload hx hb dX12_goesBack_20 (lv_at hl 0 rfl) ?_
      refine lv_iload hx hb dX12_goesBack_22 (lv_at hl 1 rfl) ?_
      refine lv_iconst (v := 4) hx hb dX12_goesBack_24 (of_decide_eq_true rfl) ?_
      refine lv_irem hx hb dX12_goesBack_25 (of_decide_eq_true rfl) ?_
      refine lv_topi (fun x115 ex115 => ?_)
      exact by
       have tx115 : x115.toInt = (((A3 / 4)) % 4) := jrem ex115 tx114 jz_4 (by omega)
       refine jast hx hb hK hP hJ hA hS (jc_68 cI cL ad σ113 τ) (ja_68 cI cL ad σ113 τ _ _) (jin jz_2 (by omega) (by omega)) dX12_goesBack_26 (fun σ116 H locs eσ116 hP hS => ?_)
       have eσ116 : σ116 = jup σ113 68 2 x115 := eσ116
       refine lv_iload hx hb dX12_goesBack_27 (lv_at hl 1 rfl) ?_
       refine lv_iconst (v := 4) hx hb dX12_goesBack_29 (of_decide_eq_true rfl) ?_
       refine lv_idiv hx hb dX12_goesBack_30 (of_decide_eq_true rfl) ?_
       refine lv_topi (fun x117 ex117 => ?_)
       have tx117 : x117.toInt = (((A3 / 4)) / 4) := jdiv ex117 tx114 jz_4 (by omega) (by omega)
       refine lv_istore (lv' := [(4, .int x117), (5, .int 2), (0, .ref (ad 55)), (1, .int a1), (2, .int 1), (3, .int a3)]) hx hb dX12_goesBack_31 hl (of_decide_eq_true rfl) rfl (fun ls hl => ?_)
       exact by
        refine lv_iinc (v := 1) (lv' := [(5, .int 1), (4, .int x117), (0, .ref (ad 55)), (1, .int a1), (2, .int 1), (3, .int a3)]) hx hb dX12_goesBack_33 hl (k := 1) rfl (of_decide_eq_true rfl) (of_decide_eq_true rfl) rfl (fun ls hl => ?_)
        refine lv_goto (tgt := 11) hx hb dX12_goesBack_36 (of_decide_eq_true rfl) ?_
        refine lv_iload hx hb dX12_goesBack_11 (lv_at hl 0 rfl) ?_
        refine lv_if_lt (tgt := 39) hx hb dX12_goesBack_13 (of_decide_eq_true rfl) (fun c => absurd c (of_decide_eq_true rfl)) (fun _ => ?_)
        refine lv_aload_n hx hb dX12_goesBack_16 rfl (lv_at hl 2 rfl) ?_
        refine va_get (D := D) hx hb hts inlX12 hown hK hP 55 (jc_55 cI cL ad σ116 τ) rfl 28 (of_decide_eq_true rfl) (hts _ kw_7_14) (fun _ h9 => h9) rfl dX12_goesBack_17 ?_
        refine lv_iload hx hb dX12_goesBack_20 (lv_at hl 0 rfl) ?_
        refine lv_iload hx hb dX12_goesBack_22 (lv_at hl 1 rfl) ?_
        refine lv_iconst (v := 4) hx hb dX12_goesBack_24 (of_decide_eq_true rfl) ?_
        refine lv_irem hx hb dX12_goesBack_25 (of_decide_eq_true rfl) ?_
        refine lv_topi (fun x118 ex118 => ?_)
        exact by
         have tx118 : x118.toInt = (((((A3 / 4)) / 4)) % 4) := jrem ex118 tx117 jz_4 (by omega)
         refine jast hx hb hK hP hJ hA hS (jc_68 cI cL ad σ116 τ) (ja_68 cI cL ad σ116 τ _ _) (jin jz_1 (by omega) (by omega)) dX12_goesBack_26 (fun σ119 H locs eσ119 hP hS => ?_)
         have eσ119 : σ119 = jup σ116 68 1 x118 := eσ119
         refine lv_iload hx hb dX12_goesBack_27 (lv_at hl 1 rfl) ?_
         refine lv_iconst (v := 4) hx hb dX12_goesBack_29 (of_decide_eq_true rfl) ?_
         refine lv_idiv hx hb dX12_goesBack_30 (of_decide_eq_true rfl) ?_
         refine lv_topi (fun x120 ex120 => ?_)
         have tx120 : x120.toInt = (((((A3 / 4)) / 4)) / 4) := jdiv ex120 tx117 jz_4 (by omega) (by omega)
         refine lv_istore (lv' := [(4, .int x120), (5, .int 1), (0, .ref (ad 55)), (1, .int a1), (2, .int 1), (3, .int a3)]) hx hb dX12_goesBack_31 hl (of_decide_eq_true rfl) rfl (fun ls hl => ?_)
         exact by
          refine lv_iinc (v := 0) (lv' := [(5, .int 0), (4, .int x120), (0, .ref (ad 55)), (1, .int a1), (2, .int 1), (3, .int a3)]) hx hb dX12_goesBack_33 hl (k := 1) rfl (of_decide_eq_true rfl) (of_decide_eq_true rfl) rfl (fun ls hl => ?_)
          refine lv_goto (tgt := 11) hx hb dX12_goesBack_36 (of_decide_eq_true rfl) ?_
          refine lv_iload hx hb dX12_goesBack_11 (lv_at hl 0 rfl) ?_
          refine lv_if_lt (tgt := 39) hx hb dX12_goesBack_13 (of_decide_eq_true rfl) (fun c => absurd c (of_decide_eq_true rfl)) (fun _ => ?_)
          refine lv_aload_n hx hb dX12_goesBack_16 rfl (lv_at hl 2 rfl) ?_
          refine va_get (D := D) hx hb hts inlX12 hown hK hP 55 (jc_55 cI cL ad σ119 τ) rfl 28 (of_decide_eq_true rfl) (hts _ kw_7_14) (fun _ h9 => h9) rfl dX12_goesBack_17 ?_
          refine lv_iload hx hb dX12_goesBack_20 (lv_at hl 0 rfl) ?_
          refine lv_iload hx hb dX12_goesBack_22 (lv_at hl 1 rfl) ?_
          refine lv_iconst (v := 4) hx hb dX12_goesBack_24 (of_decide_eq_true rfl) ?_
          refine lv_irem hx hb dX12_goesBack_25 (of_decide_eq_true rfl) ?_
          refine lv_topi (fun x121 ex121 => ?_)
          exact by
           have tx121 : x121.toInt = (((((((A3 / 4)) / 4)) / 4)) % 4) := jrem ex121 tx120 jz_4 (by omega)
           refine jast hx hb hK hP hJ hA hS (jc_68 cI cL ad σ119 τ) (ja_68 cI cL ad σ119 τ _ _) (jin jz_0 (by omega) (by omega)) dX12_goesBack_26 (fun σ122 H locs eσ122 hP hS => ?_)
           have eσ122 : σ122 = jup σ119 68 0 x121 := eσ122
           refine lv_iload hx hb dX12_goesBack_27 (lv_at hl 1 rfl) ?_
           refine lv_iconst (v := 4) hx hb dX12_goesBack_29 (of_decide_eq_true rfl) ?_
           refine lv_idiv hx hb dX12_goesBack_30 (of_decide_eq_true rfl) ?_
           refine lv_topi (fun x123 ex123 => ?_)
           have tx123 : x123.toInt = (((((((A3 / 4)) / 4)) / 4)) / 4) := jdiv ex123 tx120 jz_4 (by omega) (by omega)
           refine lv_istore (lv' := [(4, .int x123), (5, .int 0), (0, .ref (ad 55)), (1, .int a1), (2, .int 1), (3, .int a3)]) hx hb dX12_goesBack_31 hl (of_decide_eq_true rfl) rfl (fun ls hl => ?_)
           exact by
            refine lv_iinc (v := (-1)) (lv' := [(5, .int (-1)), (4, .int x123), (0, .ref (ad 55)), (1, .int a1), (2, .int 1), (3, .int a3)]) hx hb dX12_goesBack_33 hl (k := 1) rfl (of_decide_eq_true rfl) (of_decide_eq_true rfl) rfl (fun ls hl => ?_)
            refine lv_goto (tgt := 11) hx hb dX12_goesBack_36 (of_decide_eq_true rfl) ?_
            refine lv_iload hx hb dX12_goesBack_11 (lv_at hl 0 rfl) ?_
            refine lv_if_lt (tgt := 39) hx hb dX12_goesBack_13 (of_decide_eq_true rfl) (fun _ => ?_) (fun c => absurd (of_decide_eq_true rfl) c)
            refine lv_aload_n hx hb dX12_goesBack_39 rfl (lv_at hl 2 rfl) ?_
            refine lv_iload hx hb dX12_goesBack_40 (lv_at hl 1 rfl) ?_
            refine lv_iconst (v := 1) hx hb dX12_goesBack_42 (of_decide_eq_true rfl) ?_
            refine lv_isub hx hb dX12_goesBack_43 ?_
            refine lv_topi (fun x124 ex124 => ?_)
            exact by
             have tx124 : x124.toInt = (((((((A3 / 4)) / 4)) / 4)) / 4) - 1 := (jsub ex124 tx123 jz_1 (by omega) (by omega)).trans (by omega)
             refine jput (ty := .int) hx hb hts inlX12 tyX12 tyX12_ok nmX12 hown hK hP hJ hA hS (jc_55 cI cL ad σ122 τ) rfl (k := 27) (of_decide_eq_true rfl) (Nat.le_of_ble_eq_true rfl) (jp_55_27 cI cL ad σ122 τ x124) (hts _ kw_23_11) (fun _ h9 => h9) rfl (by decide +kernel) rfl rfl dX12_goesBack_44 (fun σ125 H locs eσ125 hP hS => ?_)
             refine lv_aload_n hx hb dX12_goesBack_47 rfl (lv_at hl 2 rfl) ?_
             refine va_get (D := D) hx hb hts inlX12 hown hK hP 55 (jc_55 cI cL ad σ125 τ) rfl 29 (of_decide_eq_true rfl) (hts _ kw_7_15) (fun _ h9 => h9) rfl dX12_goesBack_48 ?_
             refine lv_iload_n hx hb dX12_goesBack_51 rfl (lv_at hl 3 rfl) ?_
             refine lv_dup2_11 hx hb dX12_goesBack_52 rfl rfl ?_
             refine jald hx hb hK hP (jc_69 cI cL ad σ125 τ) (jin t1 (by omega) (by omega)) dX12_goesBack_53 ?_
             refine lv_topi (fun x126 ex126 => ?_)
             refine lv_iconst (v := 1) hx hb dX12_goesBack_54 (of_decide_eq_true rfl) ?_
             exact by
              have g127 := jrg (rfl : x126.toInt = x126.toInt)
              refine lv_isub hx hb dX12_goesBack_55 ?_
              refine lv_topi (fun x128 ex128 => ?_)
              have gx128 := jrg (rfl : x128.toInt = x128.toInt)
              refine jast hx hb hK hP hJ hA hS (jc_69 cI cL ad σ125 τ) (ja_69 cI cL ad σ125 τ _ _) (jin t1 (by omega) (by omega)) dX12_goesBack_56 (fun σ129 H locs eσ129 hP hS => ?_)
              refine lv_aload_n hx hb dX12_goesBack_57 rfl (lv_at hl 2 rfl) ?_
              refine lv_dup hx hb dX12_goesBack_58 rfl ?_
              refine va_get (D := D) hx hb hts inlX12 hown hK hP 55 (jc_55 cI cL ad σ129 τ) rfl 26 (of_decide_eq_true rfl) (hts _ kw_23_5) (fun _ h9 => h9) rfl dX12_goesBack_59 ?_
              have m130 : σ129 55 26 = (σ 55 26) := ((congrFun (jnp 55 eσ129 (of_decide_eq_true rfl)) 26).trans ((jkp 26 eσ125 (of_decide_eq_true rfl)).trans ((congrFun (jnp 55 eσ122 (of_decide_eq_true rfl)) 26).trans ((congrFun (jnp 55 eσ119 (of_decide_eq_true rfl)) 26).trans ((congrFun (jnp 55 eσ116 (of_decide_eq_true rfl)) 26).trans (congrFun (jnp 55 eσ113 (of_decide_eq_true rfl)) 26))))))
              exact by
               refine jtopr m130 ?_
               refine lv_iconst (v := 1) hx hb dX12_goesBack_62 (of_decide_eq_true rfl) ?_
               have g131 := jrg (rfl : (σ 55 26).toInt = (σ 55 26).toInt)
               refine lv_isub hx hb dX12_goesBack_63 ?_
               refine lv_topi (fun x132 ex132 => ?_)
               have tx132 : x132.toInt = (σ 55 26).toInt - 1 := (jsub ex132 rfl jz_1 (by omega) (by omega)).trans (by omega)
               refine jput (ty := .int) hx hb hts inlX12 tyX12 tyX12_ok nmX12 hown hK hP hJ hA hS (jc_55 cI cL ad σ129 τ) rfl (k := 26) (of_decide_eq_true rfl) (Nat.le_of_ble_eq_true rfl) (jp_55_26 cI cL ad σ129 τ x132) (hts _ kw_23_5) (fun _ h9 => h9) rfl (by decide +kernel) rfl rfl dX12_goesBack_64 (fun σ133 H locs eσ133 hP hS => ?_)
               refine lv_aload_n hx hb dX12_goesBack_67 rfl (lv_at hl 2 rfl) ?_
               refine lv_dup hx hb dX12_goesBack_68 rfl ?_
               exact by
                refine va_get (D := D) hx hb hts inlX12 hown hK hP 55 (jc_55 cI cL ad σ133 τ) rfl 25 (of_decide_eq_true rfl) (hts _ kw_23_6) (fun _ h9 => h9) rfl dX12_goesBack_69 ?_
                have m134 : σ133 55 25 = (σ 55 25) := ((jkp 25 eσ133 (of_decide_eq_true rfl)).trans ((congrFun (jnp 55 eσ129 (of_decide_eq_true rfl)) 25).trans ((jkp 25 eσ125 (of_decide_eq_true rfl)).trans ((congrFun (jnp 55 eσ122 (of_decide_eq_true rfl)) 25).trans ((congrFun (jnp 55 eσ119 (of_decide_eq_true rfl)) 25).trans ((congrFun (jnp 55 eσ116 (of_decide_eq_true rfl)) 25).trans (congrFun (jnp 55 eσ113 (of_decide_eq_true rfl)) 25)))))))
                refine jtopr m134 ?_
                refine lv_iload_n hx hb dX12_goesBack_72 rfl (lv_at hl 4 rfl) ?_
                refine lv_if_eq (tgt := 80) hx hb dX12_goesBack_73 (of_decide_eq_true rfl) (fun c => absurd c (of_decide_eq_true rfl)) (fun _ => ?_)
                refine lv_iconst (v := 1) hx hb dX12_goesBack_76 (of_decide_eq_true rfl) ?_
                refine lv_goto (tgt := 81) hx hb dX12_goesBack_77 (of_decide_eq_true rfl) ?_
                have g135 := jrg (rfl : (σ 55 25).toInt = (σ 55 25).toInt)
                refine lv_isub hx hb dX12_goesBack_81 ?_
                refine lv_topi (fun x136 ex136 => ?_)
                exact by
                 have tx136 : x136.toInt = (σ 55 25).toInt - 1 := (jsub ex136 rfl jz_1 (by omega) (by omega)).trans (by omega)
                 refine jput (ty := .int) hx hb hts inlX12 tyX12 tyX12_ok nmX12 hown hK hP hJ hA hS (jc_55 cI cL ad σ133 τ) rfl (k := 25) (of_decide_eq_true rfl) (Nat.le_of_ble_eq_true rfl) (jp_55_25 cI cL ad σ133 τ x136) (hts _ kw_23_6) (fun _ h9 => h9) rfl (by decide +kernel) rfl rfl dX12_goesBack_82 (fun σ137 H locs eσ137 hP hS => ?_)
                 have w138 : ∀ k : Nat, k < 4 → 0 ≤ (σ137 68 k).toInt ∧ (σ137 68 k).toInt ≤ 3 := (jrr_fr (jnp 68 eσ137 (of_decide_eq_true rfl)) (jrr_fr (jnp 68 eσ133 (of_decide_eq_true rfl)) (jrr_fr (jnp 68 eσ129 (of_decide_eq_true rfl)) (jrr_fr (jnp 68 eσ125 (of_decide_eq_true rfl)) (by rw [eσ122]; exact jrr_up (by rw [eσ119]; exact jrr_up (by rw [eσ116]; exact jrr_up (by rw [eσ113]; exact jrr_up hw68 (by have h9 := tx112; omega) (by have h9 := tx112; omega)) (by have h9 := tx115; omega) (by have h9 := tx115; omega)) (by have h9 := tx118; omega) (by have h9 := tx118; omega)) (by have h9 := tx121; omega) (by have h9 := tx121; omega))))))
                 have z139 : (σ137 55 25).toInt = (σ 55 25).toInt - 1 := ((congrArg Int32.toInt (show σ137 55 25 = x136 from (jsp eσ137))).trans tx136)
                 have z140 : (σ137 55 26).toInt = (σ 55 26).toInt - 1 := ((congrArg Int32.toInt (show σ137 55 26 = x132 from ((jkp 26 eσ137 (of_decide_eq_true rfl)).trans (jsp eσ133)))).trans tx132)
                 have z141 : (σ137 55 27).toInt = (((((((A3 / 4)) / 4)) / 4)) / 4) - 1 := ((congrArg Int32.toInt (show σ137 55 27 = x124 from ((jkp 27 eσ137 (of_decide_eq_true rfl)).trans ((jkp 27 eσ133 (of_decide_eq_true rfl)).trans ((congrFun (jnp 55 eσ129 (of_decide_eq_true rfl)) 27).trans (jsp eσ125)))))).trans tx124)
                 have z142 : (σ137 68 0).toInt = (((((((A3 / 4)) / 4)) / 4)) % 4) := ((congrArg Int32.toInt (show σ137 68 0 = x121 from ((congrFun (jnp 68 eσ137 (of_decide_eq_true rfl)) 0).trans ((congrFun (jnp 68 eσ133 (of_decide_eq_true rfl)) 0).trans ((congrFun (jnp 68 eσ129 (of_decide_eq_true rfl)) 0).trans ((congrFun (jnp 68 eσ125 (of_decide_eq_true rfl)) 0).trans (jsp eσ122))))))).trans tx121)
                 have z143 : (σ137 68 1).toInt = (((((A3 / 4)) / 4)) % 4) := ((congrArg Int32.toInt (show σ137 68 1 = x118 from ((congrFun (jnp 68 eσ137 (of_decide_eq_true rfl)) 1).trans ((congrFun (jnp 68 eσ133 (of_decide_eq_true rfl)) 1).trans ((congrFun (jnp 68 eσ129 (of_decide_eq_true rfl)) 1).trans ((congrFun (jnp 68 eσ125 (of_decide_eq_true rfl)) 1).trans ((jkp 1 eσ122 (of_decide_eq_true rfl)).trans (jsp eσ119)))))))).trans tx118)
                 have z144 : (σ137 68 2).toInt = (((A3 / 4)) % 4) := ((congrArg Int32.toInt (show σ137 68 2 = x115 from ((congrFun (jnp 68 eσ137 (of_decide_eq_true rfl)) 2).trans ((congrFun (jnp 68 eσ133 (of_decide_eq_true rfl)) 2).trans ((congrFun (jnp 68 eσ129 (of_decide_eq_true rfl)) 2).trans ((congrFun (jnp 68 eσ125 (of_decide_eq_true rfl)) 2).trans ((jkp 2 eσ122 (of_decide_eq_true rfl)).trans ((jkp 2 eσ119 (of_decide_eq_true rfl)).trans (jsp eσ116))))))))).trans tx115)
                 exact by
                  have z145 : (σ137 68 3).toInt = (A3 % 4) := ((congrArg Int32.toInt (show σ137 68 3 = x112 from ((congrFun (jnp 68 eσ137 (of_decide_eq_true rfl)) 3).trans ((congrFun (jnp 68 eσ133 (of_decide_eq_true rfl)) 3).trans ((congrFun (jnp 68 eσ129 (of_decide_eq_true rfl)) 3).trans ((congrFun (jnp 68 eσ125 (of_decide_eq_true rfl)) 3).trans ((jkp 3 eσ122 (of_decide_eq_true rfl)).trans ((jkp 3 eσ119 (of_decide_eq_true rfl)).trans ((jkp 3 eσ116 (of_decide_eq_true rfl)).trans (jsp eσ113)))))))))).trans tx112)
                  exact by exact hret σ137 τ _ _ _ _ ⟨rfl, (fun i hi => ((jnp i eσ137 (imp_189 i hi)).trans ((jnp i eσ133 (imp_189 i hi)).trans ((jnp i eσ129 (imp_197 i hi)).trans ((jnp i eσ125 (imp_189 i hi)).trans ((jnp i eσ122 (imp_198 i hi)).trans ((jnp i eσ119 (imp_198 i hi)).trans ((jnp i eσ116 (imp_198 i hi)).trans (jnp i eσ113 (imp_198 i hi)))))))))), (fun i hi => ((jkp i eσ137 (imp_192 i hi)).trans ((jkp i eσ133 (imp_191 i hi)).trans ((congrFun (jnp 55 eσ129 (of_decide_eq_true rfl)) i).trans ((jkp i eσ125 (imp_190 i hi)).trans ((congrFun (jnp 55 eσ122 (of_decide_eq_true rfl)) i).trans ((congrFun (jnp 55 eσ119 (of_decide_eq_true rfl)) i).trans ((congrFun (jnp 55 eσ116 (of_decide_eq_true rfl)) i).trans (congrFun (jnp 55 eσ113 (of_decide_eq_true rfl)) i))))))))), w138, (by rw [eσ137, jup_n (of_decide_eq_true rfl), eσ133, jup_n (of_decide_eq_true rfl), eσ129, jup_row, ex128, ex126, eσ125, jup_n (of_decide_eq_true rfl), eσ122, jup_n (of_decide_eq_true rfl), eσ119, jup_n (of_decide_eq_true rfl), eσ116, jup_n (of_decide_eq_true rfl), eσ113, jup_n (of_decide_eq_true rfl)]), (fun k hk => by rw [eσ137, jup_n (of_decide_eq_true rfl), eσ133, jup_n (of_decide_eq_true rfl), eσ129, jup_n (of_decide_eq_true rfl), eσ125, jup_n (of_decide_eq_true rfl), eσ122, jup_k (by omega), eσ119, jup_k (by omega), eσ116, jup_k (by omega), eσ113, jup_k (by omega)]), (by omega), (by omega), (by omega), (by omega), trivial⟩ hP hS dX12_goesBack_85
  have kc111 := jne c111 (rfl : (σ 55 6).toInt = (σ 55 6).toInt) jz_4
  exact absurd (by omega : False) id
