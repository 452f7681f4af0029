set_option maxHeartbeats 4000000 in
set_option maxRecDepth 100000 in
theorem c_X12_mixed_b (l : Launch) (D : va_G) (cI cL : ClassId) (ad zz : Nat → Nat) (hJ : jD ad) (σ : Nat → Nat → Int32) (τ : Nat → Nat → Int64) (a1 : Int32) (A1 : Int) (t1 : a1.toInt = A1) (a2 : Int32) (A2 : Int) (t2 : a2.toInt = A2) (a3 : Int32) (A3 : Int) (t3 : a3.toInt = A3) (hp0 : 0 ≤ A1 ∧ A1 ≤ 2000000000) (hp1 : 0 ≤ A2 ∧ A2 ≤ 2000000000) (hp2 : 0 ≤ A3 ∧ A3 ≤ 1000) : jM l yX12_mixed cX12_mixed 3 (some .int) ({ frames := 0, cells := 0, slots := 0, locals := 0 }) D cI cL ad zz [.int a1, .int a2, .int a3] σ τ (fun r σ' τ' => (σ = σ' ∧ τ = τ') ∧ ((True ∧ (0 ≤ r.toInt) ∧ ((r.toInt ≤ A1) ∨ (r.toInt ≤ A2))))) := by
  refine jM.of hJ (by decide +kernel) (nt := .int) rfl (Nat.le_of_ble_eq_true rfl) ?_
  intro p e s m args below meth c Q ls hC hret hl hP
  obtain ⟨hx, hb, hr, hml, hown, hts, hK, -, hlocks, hZ⟩ := hC
  have hown : s.vm.findClass RX12 = some m.cls := hown
  have hS : va_S (jA ad) s.heap s.heap [] := va_S.rf
  have hA : ∀ q, jA ad q → jA ad q := fun _ h => h
  have hl : lv_has ls 3 [(0, .int a1), (1, .int a2), (2, .int a3)] := hl
  have g1 := jrg t1
  have g2 := jrg t2
  have g3 := jrg t3
  refine lv_iload_n hx hb dX12_mixed_0 rfl (lv_at hl 2 rfl) ?_
  refine lv_i2l (v := a3.toInt64) hx hb dX12_mixed_1 rfl ?_
  refine lv_iload_n hx hb dX12_mixed_2 rfl (lv_at hl 0 rfl) ?_
  refine lv_i2l (v := a1.toInt64) hx hb dX12_mixed_3 rfl ?_
  refine lv_lmul hx hb dX12_mixed_4 ?_
  refine lv_topl (fun lx1 elx1 => ?_)
  have g2 := jprod (a := 1000) (b := 2000000000) (jtoL t3) (jtoL t1) (by omega) (by omega) (by omega) (by omega)
  have tlx1 : lx1.toInt = (A3 * A1) := jlmul elx1 (jtoL t3) (jtoL t1) (by omega) (by omega)
  refine lv_sipush (v := 1000) hx hb dX12_mixed_5 (by decide) ?_
  refine lv_iload_n hx hb dX12_mixed_8 rfl (lv_at hl 2 rfl) ?_
  refine lv_isub hx hb dX12_mixed_9 ?_
  refine lv_topi (fun x3 ex3 => ?_)
  have tx3 : x3.toInt = -A3 + 1000 := (jsub ex3 jz_1000 t3 (by omega) (by omega)).trans (by omega)
  refine lv_i2l (v := x3.toInt64) hx hb dX12_mixed_10 rfl ?_
  refine lv_iload_n hx hb dX12_mixed_11 rfl (lv_at hl 1 rfl) ?_
  refine lv_i2l (v := a2.toInt64) hx hb dX12_mixed_12 rfl ?_
  refine lv_lmul hx hb dX12_mixed_13 ?_
  refine lv_topl (fun lx4 elx4 => ?_)
  have g5 := jprod (a := 1000) (b := 2000000000) (jtoL tx3) (jtoL t2) (by omega) (by omega) (by omega) (by omega)
  have tlx4 : lx4.toInt = ((-A3 + 1000) * A2) := jlmul elx4 (jtoL tx3) (jtoL t2) (by omega) (by omega)
  refine lv_ladd hx hb dX12_mixed_14 ?_
  refine lv_topl (fun lx6 elx6 => ?_)
  have tlx6 : lx6.toInt = (A3 * A1) + ((-A3 + 1000) * A2) := (jladd elx6 tlx1 tlx4 (by omega) (by omega)).trans (by omega)
  have g7 := jmix (c := A3) (p := A1) (q := A2) (by omega) (by omega) (by omega) (by omega)
  refine lv_ldc2 (v := 1000) hx hb hown (hts _ kw_34_19) dX12_mixed_15 ?_
  refine lv_ldiv hx hb dX12_mixed_18 (by decide) ?_
  refine lv_topl (fun lx8 elx8 => ?_)
  have tlx8 : lx8.toInt = (((A3 * A1) + ((-A3 + 1000) * A2)) / 1000) := jldiv elx8 tlx6 jzl_1000 (by omega) (by omega)
  have g9 : (((A3 * A1) + ((-A3 + 1000) * A2)) / 1000) ≤ 2000000000 := by omega
  refine lv_l2i hx hb dX12_mixed_19 rfl ?_
  refine lv_topi (fun x10 ex10 => ?_)
  have tx10 : x10.toInt = (((A3 * A1) + ((-A3 + 1000) * A2)) / 1000) := jtoI ex10 tlx8 (by omega) (by omega)
  exact hret x10 σ τ _ _ _ _ rfl ⟨⟨rfl, rfl⟩, ⟨trivial, (by have h9 := tx10; omega), (by have h9 := tx10; omega)⟩⟩ hP hS dX12_mixed_20
set_option maxHeartbeats 4000000 in
set_option maxRecDepth 100000 in
theorem c_X12_mixed (l : Launch) (D : va_G) (cI cL : ClassId) (ad zz : Nat → Nat) (hJ : jD ad) (σ : Nat → Nat → Int32) (τ : Nat → Nat → Int64) (a1 : Int32) (A1 : Int) (t1 : a1.toInt = A1) (a2 : Int32) (A2 : Int) (t2 : a2.toInt = A2) (a3 : Int32) (A3 : Int) (t3 : a3.toInt = A3) : jM l yX12_mixed cX12_mixed 3 (some .int) ({ frames := 0, cells := 0, slots := 0, locals := 0 }) D cI cL ad zz [.int a1, .int a2, .int a3] σ τ (fun r σ' τ' => (σ = σ' ∧ τ = τ') ∧ True) := by
  refine jM.of hJ (by decide +kernel) (nt := .int) rfl (Nat.le_of_ble_eq_true rfl) ?_
  intro p e s m args below meth c Q ls hC hret hl hP
  obtain ⟨hx, hb, hr, hml, hown, hts, hK, -, hlocks, hZ⟩ := hC
  have hown : s.vm.findClass RX12 = some m.cls := hown
  have hS : va_S (jA ad) s.heap s.heap [] := va_S.rf
  have hA : ∀ q, jA ad q → jA ad q := fun _ h => h
  have hl : lv_has ls 3 [(0, .int a1), (1, .int a2), (2, .int a3)] := hl
  have g1 := jrg t1
  have g2 := jrg t2
  have g3 := jrg t3
  refine lv_iload_n hx hb dX12_mixed_0 rfl (lv_at hl 2 rfl) ?_
  refine lv_i2l (v := a3.toInt64) hx hb dX12_mixed_1 rfl ?_
  refine lv_iload_n hx hb dX12_mixed_2 rfl (lv_at hl 0 rfl) ?_
  refine lv_i2l (v := a1.toInt64) hx hb dX12_mixed_3 rfl ?_
  refine lv_lmul hx hb dX12_mixed_4 ?_
  refine lv_topl (fun lx1 elx1 => ?_)
  refine lv_sipush (v := 1000) hx hb dX12_mixed_5 (by decide) ?_
  refine lv_iload_n hx hb dX12_mixed_8 rfl (lv_at hl 2 rfl) ?_
  refine lv_isub hx hb dX12_mixed_9 ?_
  refine lv_topi (fun x2 ex2 => ?_)
  have gx2 := jrg (rfl : x2.toInt = x2.toInt)
  refine lv_i2l (v := x2.toInt64) hx hb dX12_mixed_10 rfl ?_
  refine lv_iload_n hx hb dX12_mixed_11 rfl (lv_at hl 1 rfl) ?_
  refine lv_i2l (v := a2.toInt64) hx hb dX12_mixed_12 rfl ?_
  refine lv_lmul hx hb dX12_mixed_13 ?_
  refine lv_topl (fun lx3 elx3 => ?_)
  refine lv_ladd hx hb dX12_mixed_14 ?_
  refine lv_topl (fun lx4 elx4 => ?_)
  refine lv_ldc2 (v := 1000) hx hb hown (hts _ kw_34_19) dX12_mixed_15 ?_
  refine lv_ldiv hx hb dX12_mixed_18 (by decide) ?_
  refine lv_topl (fun lx5 elx5 => ?_)
  refine lv_l2i hx hb dX12_mixed_19 rfl ?_
  refine lv_topi (fun x6 ex6 => ?_)
  have gx6 := jrg (rfl : x6.toInt = x6.toInt)
  exact hret x6 σ τ _ _ _ _ rfl ⟨⟨rfl, rfl⟩, trivial⟩ hP hS dX12_mixed_20
set_option maxHeartbeats 4000000 in
set_option maxRecDepth 100000 in
theorem c_X12_forgets (l : Launch) (D : va_G) (cI cL : ClassId) (ad zz : Nat → Nat) (hJ : jD ad) (σ : Nat → Nat → Int32) (τ : Nat → Nat → Int64) : jMv l yX12_forgets cX12_forgets 1 none ({ frames := 0, cells := 0, slots := 0, locals := 0 }) D cI cL ad zz [.ref (ad 55)] σ τ (fun σ' τ' => τ = τ' ∧ (∀ i : Nat, (i < 55 ∨ 55 < i) → σ' i = σ i) ∧ (∀ k : Nat, (k < 42 ∨ 42 < k) → σ' 55 k = σ 55 k) ∧ True) := by
  refine jMv.of hJ (by decide +kernel) rfl (Nat.le_of_ble_eq_true rfl) ?_
  intro p e s m args below meth c Q ls hC hret hl hP
  obtain ⟨hx, hb, hr, hml, hown, hts, hK, -, hlocks, hZ⟩ := hC
  have hown : s.vm.findClass RX12 = some m.cls := hown
  have hS : va_S (jA ad) s.heap s.heap [] := va_S.rf
  have hA : ∀ q, jA ad q → jA ad q := fun _ h => h
  have hl : lv_has ls 1 [(0, .ref (ad 55))] := hl
  refine lv_aload_n hx hb dX12_forgets_0 rfl (lv_at hl 0 rfl) ?_
  refine lv_dup hx hb dX12_forgets_1 rfl ?_
  refine va_get (D := D) hx hb hts inlX12 hown hK hP 55 (jc_55 cI cL ad σ τ) rfl 42 (by decide) (hts _ kw_33_10) (fun _ h9 => h9) rfl dX12_forgets_2 ?_
  refine lv_iconst (v := 1) hx hb dX12_forgets_5 (by decide) ?_
  have g1 := jrg (rfl : (σ 55 42).toInt = (σ 55 42).toInt)
  refine lv_iadd hx hb dX12_forgets_6 ?_
  refine lv_topi (fun x2 ex2 => ?_)
  have gx2 := jrg (rfl : x2.toInt = x2.toInt)
  refine jput (ty := .int) hx hb hts inlX12 tyX12 tyX12_ok nmX12 hown hK hP hJ hA hS (jc_55 cI cL ad σ τ) rfl (k := 42) (by decide) (Nat.le_of_ble_eq_true rfl) (jp_55_42 cI cL ad σ τ x2) (hts _ kw_33_10) (fun _ h9 => h9) rfl (by decide +kernel) rfl rfl dX12_forgets_7 (fun σ3 H locs eσ3 hP hS => ?_)
  exact hret σ3 τ _ _ _ _ ⟨rfl, (fun i hi => (jnp i eσ3 (imp_164 i hi))), (fun i hi => (jkp i eσ3 (imp_198 i hi))), trivial⟩ hP hS dX12_forgets_10
set_option maxHeartbeats 4000000 in
set_option maxRecDepth 100000 in
theorem c_X12_stateNumber (l : Launch) (D : va_G) (cI cL : ClassId) (ad zz : Nat → Nat) (hJ : jD ad) (σ : Nat → Nat → Int32) (τ : Nat → Nat → Int64) (hI102 : jI102 σ) (hw68 : ∀ k : Nat, k < 4 → 0 ≤ (σ 68 k).toInt ∧ (σ 68 k).toInt ≤ 3) : jM l yX12_stateNumber cX12_stateNumber 3 (some .int) ({ frames := 0, cells := 0, slots := 0, locals := 0 }) D cI cL ad zz [.ref (ad 55)] σ τ (fun r σ' τ' => (σ = σ' ∧ τ = τ') ∧ True) := by
  refine jM.of hJ (by decide +kernel) (nt := .int) rfl (Nat.le_of_ble_eq_true rfl) ?_
  intro p e s m args below meth c Q ls hC hret hl hP
  obtain ⟨hx, hb, hr, hml, hown, hts, hK, -, hlocks, hZ⟩ := hC
  have hown : s.vm.findClass RX12 = some m.cls := hown
  have hS : va_S (jA ad) s.heap s.heap [] := va_S.rf
  have hA : ∀ q, jA ad q → jA ad q := fun _ h => h
  have hl : lv_has ls 3 [(0, .ref (ad 55))] := hl
  obtain ⟨i1, w2, w3⟩ : (0 ≤ (σ 55 6).toInt ∧ (σ 55 6).toInt ≤ 4) ∧ (∀ k : Nat, k < 4 → 0 ≤ (σ 60 k).toInt ∧ (σ 60 k).toInt ≤ 50) ∧ (∀ k : Nat, k < 4 → 0 ≤ (σ 61 k).toInt ∧ (σ 61 k).toInt ≤ 20) := id hI102
  refine lv_aload_n hx hb dX12_stateNumber_0 rfl (lv_at hl 0 rfl) ?_
  refine va_get (D := D) hx hb hts inlX12 hown hK hP 55 (jc_55 cI cL ad σ τ) rfl 27 (by decide) (hts _ kw_23_11) (fun _ h9 => h9) rfl dX12_stateNumber_1 ?_
  refine lv_iconst (v := 1) hx hb dX12_stateNumber_4 (by decide) ?_
  have g4 := jrg (rfl : (σ 55 27).toInt = (σ 55 27).toInt)
  refine lv_iadd hx hb dX12_stateNumber_5 ?_
  refine lv_topi (fun x5 ex5 => ?_)
  have gx5 := jrg (rfl : x5.toInt = x5.toInt)
  refine lv_istore_n (lv' := [(1, .int x5), (0, .ref (ad 55))]) hx hb dX12_stateNumber_6 rfl hl (by decide) rfl (fun ls hl => ?_)
  refine lv_iconst (v := 0) hx hb dX12_stateNumber_7 (by decide) ?_
  refine lv_istore_n (lv' := [(2, .int 0), (1, .int x5), (0, .ref (ad 55))]) hx hb dX12_stateNumber_8 rfl hl (by decide) rfl (fun ls hl => ?_)
  have lp6 : ∀ (n7 : Nat) (x8 : Int32) (x9 : Int32) (H : Heap) (locs : List Loc) (ls : Array Slot), (-x9.toInt + 4 : Int) < n7 → 0 ≤ x9.toInt → x9.toInt ≤ 4 → jH D cI cL ad σ τ H → va_S (jA ad) s.heap H locs → lv_has ls 3 [(2, .int x9), (1, .int x8), (0, .ref (ad 55))] → W p l e ({ frames := 0, cells := 0, slots := 0, locals := 0 }) s m args below meth c H locs 0 0 Q (F0 m 9 ls []) := by
    intro n7
    induction n7 with
    | zero => intro x8 x9 H locs ls h10 h11 h12; have gx8 := jrg (rfl : x8.toInt = x8.toInt); exact absurd h10 (by omega)
    | succ n7 ihlp6 =>
      intro x8 x9 H locs ls h10 h11 h12 hP hS hl
      have gx8 := jrg (rfl : x8.toInt = x8.toInt)
      refine lv_iload_n hx hb dX12_stateNumber_9 rfl (lv_at hl 0 rfl) ?_
      refine lv_aload_n hx hb dX12_stateNumber_10 rfl (lv_at hl 2 rfl) ?_
      refine va_get (D := D) hx hb hts inlX12 hown hK hP 55 (jc_55 cI cL ad σ τ) rfl 6 (by decide) (hts _ kw_9_13) (fun _ h9 => h9) rfl dX12_stateNumber_11 ?_
      refine lv_icmp_ge (tgt := 34) hx hb dX12_stateNumber_14 (by decide) (fun c14 => ?_) (fun c14 => ?_)
      · have kc14 := jle c14 rfl rfl
        refine lv_iconst (v := 0) hx hb dX12_stateNumber_34 (by decide) ?_
        refine lv_istore_n (lv' := [(2, .int 0), (1, .int x8), (0, .ref (ad 55))]) hx hb dX12_stateNumber_35 rfl hl (by decide) rfl (fun ls hl => ?_)
        have lp15 : ∀ (n16 : Nat) (x17 : Int32) (x18 : Int32) (H : Heap) (locs : List Loc) (ls : Array Slot), (-x18.toInt + 4 : Int) < n16 → 0 ≤ x18.toInt → x18.toInt ≤ 4 → jH D cI cL ad σ τ H → va_S (jA ad) s.heap H locs → lv_has ls 3 [(2, .int x18), (1, .int x17), (0, .ref (ad 55))] → W p l e ({ frames := 0, cells := 0, slots := 0, locals := 0 }) s m args below meth c H locs 0 0 Q (F0 m 36 ls []) := by
          intro n16
          induction n16 with
          | zero => intro x17 x18 H locs ls h19 h20 h21; have gx17 := jrg (rfl : x17.toInt = x17.toInt); exact absurd h19 (by omega)
          | succ n16 ihlp15 =>
            intro x17 x18 H locs ls h19 h20 h21 hP hS hl
            have gx17 := jrg (rfl : x17.toInt = x17.toInt)
            refine lv_iload_n hx hb dX12_stateNumber_36 rfl (lv_at hl 0 rfl) ?_
            refine lv_aload_n hx hb dX12_stateNumber_37 rfl (lv_at hl 2 rfl) ?_
            refine va_get (D := D) hx hb hts inlX12 hown hK hP 55 (jc_55 cI cL ad σ τ) rfl 6 (by decide) (hts _ kw_9_13) (fun _ h9 => h9) rfl dX12_stateNumber_38 ?_
            refine lv_icmp_ge (tgt := 78) hx hb dX12_stateNumber_41 (by decide) (fun c23 => ?_) (fun c23 => ?_)
            · have kc23 := jle c23 rfl rfl
              refine lv_iload_n hx hb dX12_stateNumber_78 rfl (lv_at hl 1 rfl) ?_
              exact hret x17 σ τ _ _ _ _ rfl ⟨⟨rfl, rfl⟩, trivial⟩ hP hS dX12_stateNumber_79
            · have kc23 := jnle c23 rfl rfl
              refine lv_bipush (v := 9) hx hb dX12_stateNumber_44 (by decide) ?_
              refine lv_iload_n hx hb dX12_stateNumber_46 rfl (lv_at hl 1 rfl) ?_
              have g24 := jrg (rfl : x17.toInt = x17.toInt)
              refine lv_imul hx hb dX12_stateNumber_47 ?_
              refine lv_topi (fun x25 ex25 => ?_)
              have gx25 := jrg (rfl : x25.toInt = x25.toInt)
              refine lv_aload_n hx hb dX12_stateNumber_48 rfl (lv_at hl 2 rfl) ?_
              refine va_get (D := D) hx hb hts inlX12 hown hK hP 55 (jc_55 cI cL ad σ τ) rfl 29 (by decide) (hts _ kw_7_15) (fun _ h9 => h9) rfl dX12_stateNumber_49 ?_
              refine lv_iload_n hx hb dX12_stateNumber_52 rfl (lv_at hl 0 rfl) ?_
              refine jald hx hb hK hP (jc_69 cI cL ad σ τ) (jin rfl (by omega) (by omega)) dX12_stateNumber_53 ?_
              refine lv_topi (fun x26 ex26 => ?_)
              refine lv_bipush (v := 8) hx hb dX12_stateNumber_54 (by decide) ?_
              refine lv_icmp_le (tgt := 64) hx hb dX12_stateNumber_56 (by decide) (fun c27 => ?_) (fun c27 => ?_)
              · have kc27 := jle c27 rfl jz_8
                refine lv_aload_n hx hb dX12_stateNumber_64 rfl (lv_at hl 2 rfl) ?_
                refine va_get (D := D) hx hb hts inlX12 hown hK hP 55 (jc_55 cI cL ad σ τ) rfl 29 (by decide) (hts _ kw_7_15) (fun _ h9 => h9) rfl dX12_stateNumber_65 ?_
                refine lv_iload_n hx hb dX12_stateNumber_68 rfl (lv_at hl 0 rfl) ?_
                refine jald hx hb hK hP (jc_69 cI cL ad σ τ) (jin rfl (by omega) (by omega)) dX12_stateNumber_69 ?_
                refine lv_topi (fun x28 ex28 => ?_)
                have g29 := jrg (rfl : x25.toInt = x25.toInt)
                have g30 := jrg (rfl : x28.toInt = x28.toInt)
                refine lv_iadd hx hb dX12_stateNumber_70 ?_
                refine lv_topi (fun x31 ex31 => ?_)
                have gx31 := jrg (rfl : x31.toInt = x31.toInt)
                refine lv_istore_n (lv' := [(1, .int x31), (2, .int x18), (0, .ref (ad 55))]) hx hb dX12_stateNumber_71 rfl hl (by decide) rfl (fun ls hl => ?_)
                obtain ⟨x32, ex32⟩ : ∃ y : Int32, y = x18 + 1 := ⟨_, rfl⟩
                have tx32 : x32.toInt = x18.toInt + 1 := (jadd ex32 rfl jz_1 (by omega) (by omega)).trans (by omega)
                refine lv_iinc (v := x32) (lv' := [(2, .int x32), (1, .int x31), (0, .ref (ad 55))]) hx hb dX12_stateNumber_72 hl (k := 1) rfl (by rw [ex32]; rfl) (by decide) rfl (fun ls hl => ?_)
                refine lv_goto (tgt := 36) hx hb dX12_stateNumber_75 (by decide) ?_
                exact ihlp15 x31 x32 _ _ ls (by have h91 := tx32; omega) (by have h91 := tx32; omega) (by have h91 := tx32; omega)    hP hS (lv_sub hl [0, 1, 2] rfl)
              · have kc27 := jnle c27 rfl jz_8
                refine lv_bipush (v := 8) hx hb dX12_stateNumber_59 (by decide) ?_
                refine lv_goto (tgt := 70) hx hb dX12_stateNumber_61 (by decide) ?_
                have g33 := jrg (rfl : x25.toInt = x25.toInt)
                refine lv_iadd hx hb dX12_stateNumber_70 ?_
                refine lv_topi (fun x34 ex34 => ?_)
                have gx34 := jrg (rfl : x34.toInt = x34.toInt)
                refine lv_istore_n (lv' := [(1, .int x34), (2, .int x18), (0, .ref (ad 55))]) hx hb dX12_stateNumber_71 rfl hl (by decide) rfl (fun ls hl => ?_)
                obtain ⟨x35, ex35⟩ : ∃ y : Int32, y = x18 + 1 := ⟨_, rfl⟩
                have tx35 : x35.toInt = x18.toInt + 1 := (jadd ex35 rfl jz_1 (by omega) (by omega)).trans (by omega)
                refine lv_iinc (v := x35) (lv' := [(2, .int x35), (1, .int x34), (0, .ref (ad 55))]) hx hb dX12_stateNumber_72 hl (k := 1) rfl (by rw [ex35]; rfl) (by decide) rfl (fun ls hl => ?_)
                refine lv_goto (tgt := 36) hx hb dX12_stateNumber_75 (by decide) ?_
                exact ihlp15 x34 x35 _ _ ls (by have h91 := tx35; omega) (by have h91 := tx35; omega) (by have h91 := tx35; omega)    hP hS (lv_sub hl [0, 1, 2] rfl)
        exact lp15 1000000 x8 0 _ _ ls (by have h91 := jz_0; omega) (by have h91 := jz_0; omega) (by have h91 := jz_0; omega)   hP hS hl
      · have kc14 := jnle c14 rfl rfl
        refine lv_iconst (v := 4) hx hb dX12_stateNumber_17 (by decide) ?_
        refine lv_iload_n hx hb dX12_stateNumber_18 rfl (lv_at hl 1 rfl) ?_
        have g36 := jrg (rfl : x8.toInt = x8.toInt)
        refine lv_imul hx hb dX12_stateNumber_19 ?_
        refine lv_topi (fun x37 ex37 => ?_)
        have gx37 := jrg (rfl : x37.toInt = x37.toInt)
        refine lv_aload_n hx hb dX12_stateNumber_20 rfl (lv_at hl 2 rfl) ?_
        refine va_get (D := D) hx hb hts inlX12 hown hK hP 55 (jc_55 cI cL ad σ τ) rfl 28 (by decide) (hts _ kw_7_14) (fun _ h9 => h9) rfl dX12_stateNumber_21 ?_
        refine lv_iload_n hx hb dX12_stateNumber_24 rfl (lv_at hl 0 rfl) ?_
        refine jald hx hb hK hP (jc_68 cI cL ad σ τ) (jin rfl (by omega) (by omega)) dX12_stateNumber_25 ?_
        have g38 := hw68 _ (jnat (x := x9) rfl (n := 4) (by omega) (by decide))
        refine lv_topi (fun x39 ex39 => ?_)
        rw [← ex39] at g38
        have g40 := jrg (rfl : x37.toInt = x37.toInt)
        have g41 := jrg (rfl : x39.toInt = x39.toInt)
        refine lv_iadd hx hb dX12_stateNumber_26 ?_
        refine lv_topi (fun x42 ex42 => ?_)
        have gx42 := jrg (rfl : x42.toInt = x42.toInt)
        refine lv_istore_n (lv' := [(1, .int x42), (2, .int x9), (0, .ref (ad 55))]) hx hb dX12_stateNumber_27 rfl hl (by decide) rfl (fun ls hl => ?_)
        obtain ⟨x43, ex43⟩ : ∃ y : Int32, y = x9 + 1 := ⟨_, rfl⟩
        have tx43 : x43.toInt = x9.toInt + 1 := (jadd ex43 rfl jz_1 (by omega) (by omega)).trans (by omega)
        refine lv_iinc (v := x43) (lv' := [(2, .int x43), (1, .int x42), (0, .ref (ad 55))]) hx hb dX12_stateNumber_28 hl (k := 1) rfl (by rw [ex43]; rfl) (by decide) rfl (fun ls hl => ?_)
        refine lv_goto (tgt := 9) hx hb dX12_stateNumber_31 (by decide) ?_
        exact ihlp6 x42 x43 _ _ ls (by have h91 := tx43; omega) (by have h91 := tx43; omega) (by have h91 := tx43; omega)    hP hS (lv_sub hl [0, 1, 2] rfl)
  exact lp6 1000000 x5 0 _ _ ls (by have h91 := jz_0; omega) (by have h91 := jz_0; omega) (by have h91 := jz_0; omega)   hP hS hl
set_option maxHeartbeats 4000000 in
set_option maxRecDepth 100000 in
theorem c_X12_spot (l : Launch) (D : va_G) (cI cL : ClassId) (ad zz : Nat → Nat) (hJ : jD ad) (σ : Nat → Nat → Int32) (τ : Nat → Nat → Int64) (a1 : Int32) (A1 : Int) (t1 : a1.toInt = A1) (a2 : Int32) (A2 : Int) (t2 : a2.toInt = A2) : jM l yX12_spot cX12_spot 5 (some .int) ({ frames := 0, cells := 0, slots := 0, locals := 0 }) D cI cL ad zz [.ref (ad 55), .int a1, .int a2] σ τ (fun r σ' τ' => (σ = σ' ∧ τ = τ') ∧ ((True ∧ (0 ≤ r.toInt ∧ r.toInt ≤ 65535) ∧ ((σ 78 r.toNatClampNeg) ≠ σ 55 42 ∨ (σ 75 r.toNatClampNeg) = a2)) ∨ (r = (-1) ∧ True))) := by
  refine jM.of hJ (by decide +kernel) (nt := .int) rfl (Nat.le_of_ble_eq_true rfl) ?_
  intro p e s m args below meth c Q ls hC hret hl hP
  obtain ⟨hx, hb, hr, hml, hown, hts, hK, -, hlocks, hZ⟩ := hC
  have hown : s.vm.findClass RX12 = some m.cls := hown
  have hS : va_S (jA ad) s.heap s.heap [] := va_S.rf
  have hA : ∀ q, jA ad q → jA ad q := fun _ h => h
  have hl : lv_has ls 5 [(0, .ref (ad 55)), (1, .int a1), (2, .int a2)] := hl
  have g1 := jrg t1
  have g2 := jrg t2
  refine lv_iload_n hx hb dX12_spot_0 rfl (lv_at hl 1 rfl) ?_
  refine lv_bipush (v := 31) hx hb dX12_spot_1 (by decide) ?_
  refine lv_imul hx hb dX12_spot_3 ?_
  refine lv_topi (fun x1 ex1 => ?_)
  have gx1 := jrg (rfl : x1.toInt = x1.toInt)
  refine lv_iload_n hx hb dX12_spot_4 rfl (lv_at hl 2 rfl) ?_
  have g2 := jrg (rfl : x1.toInt = x1.toInt)
  refine lv_iadd hx hb dX12_spot_5 ?_
  refine lv_topi (fun x3 ex3 => ?_)
  have gx3 := jrg (rfl : x3.toInt = x3.toInt)
  refine lv_ldcw (v := 40503) hx hb hown (hts _ kw_34_13) dX12_spot_6 ?_
  have g4 := jrg (rfl : x3.toInt = x3.toInt)
  refine lv_imul hx hb dX12_spot_9 ?_
  refine lv_topi (fun x5 ex5 => ?_)
  have gx5 := jrg (rfl : x5.toInt = x5.toInt)
  refine lv_ldcw (v := 65535) hx hb hown (hts _ kw_34_14) dX12_spot_10 ?_
  refine lv_iand hx hb dX12_spot_13 ?_
  refine lv_topi (fun x6 ex6 => ?_)
  have gx6 := jrg (rfl : x6.toInt = x6.toInt)
  have g7 : 0 ≤ x6.toInt ∧ x6.toInt ≤ 65535 := jmask ex6 16 (by decide) (by decide)
  refine lv_istore_n (lv' := [(3, .int x6), (0, .ref (ad 55)), (1, .int a1), (2, .int a2)]) hx hb dX12_spot_14 rfl hl (by decide) rfl (fun ls hl => ?_)
  refine lv_iconst (v := 0) hx hb dX12_spot_15 (by decide) ?_
  refine lv_istore (lv' := [(4, .int 0), (3, .int x6), (0, .ref (ad 55)), (1, .int a1), (2, .int a2)]) hx hb dX12_spot_16 hl (by decide) rfl (fun ls hl => ?_)
  have lp8 : ∀ (n9 : Nat) (x10 : Int32) (x11 : Int32) (H : Heap) (locs : List Loc) (ls : Array Slot), (-x11.toInt + 65536 : Int) < n9 → 0 ≤ x10.toInt → x10.toInt ≤ 65535 → 0 ≤ x11.toInt → x11.toInt ≤ 65536 → jH D cI cL ad σ τ H → va_S (jA ad) s.heap H locs → lv_has ls 5 [(4, .int x11), (3, .int x10), (0, .ref (ad 55)), (1, .int a1), (2, .int a2)] → W p l e ({ frames := 0, cells := 0, slots := 0, locals := 0 }) s m args below meth c H locs 0 0 Q (F0 m 18 ls []) := by
    intro n9
    induction n9 with
    | zero => intro x10 x11 H locs ls h12 h13 h14 h15 h16; exact absurd h12 (by omega)
    | succ n9 ihlp8 =>
      intro x10 x11 H locs ls h12 h13 h14 h15 h16 hP hS hl
      refine lv_iload hx hb dX12_spot_18 (lv_at hl 0 rfl) ?_
      refine lv_ldc (v := 65536) hx hb hown (hts _ kw_7_22) dX12_spot_20 ?_
      refine lv_icmp_ge (tgt := 74) hx hb dX12_spot_22 (by decide) (fun c18 => ?_) (fun c18 => ?_)
      · have kc18 := jle c18 jz_65536 rfl
        refine lv_iconst (v := (-1)) hx hb dX12_spot_74 (by decide) ?_
        exact hret (-1) σ τ _ _ _ _ rfl ⟨⟨rfl, rfl⟩, Or.inr (⟨rfl, trivial⟩)⟩ hP hS dX12_spot_75
      · have kc18 := jnle c18 jz_65536 rfl
        refine lv_aload_n hx hb dX12_spot_25 rfl (lv_at hl 2 rfl) ?_
        refine va_get (D := D) hx hb hts inlX12 hown hK hP 55 (jc_55 cI cL ad σ τ) rfl 43 (by decide) (hts _ kw_8_3) (fun _ h9 => h9) rfl dX12_spot_26 ?_
        refine lv_iload_n hx hb dX12_spot_29 rfl (lv_at hl 1 rfl) ?_
        refine jald hx hb hK hP (jc_78 cI cL ad σ τ) (jin rfl (by omega) (by omega)) dX12_spot_30 ?_
        refine jtopr (y := (σ 78 x10.toNatClampNeg)) rfl ?_
        refine lv_aload_n hx hb dX12_spot_31 rfl (lv_at hl 2 rfl) ?_
        refine va_get (D := D) hx hb hts inlX12 hown hK hP 55 (jc_55 cI cL ad σ τ) rfl 42 (by decide) (hts _ kw_33_10) (fun _ h9 => h9) rfl dX12_spot_32 ?_
        refine lv_icmp_ne (tgt := 58) hx hb dX12_spot_35 (by decide) (fun c19 => ?_) (fun c19 => ?_)
        · have kc19 := jne c19 rfl rfl
          refine lv_iload_n hx hb dX12_spot_58 rfl (lv_at hl 1 rfl) ?_
          exact hret x10 σ τ _ _ _ _ rfl ⟨⟨rfl, rfl⟩, Or.inl ⟨trivial, (by omega), (Or.inl c19)⟩⟩ hP hS dX12_spot_59
        · have kc19 := jeq c19 rfl rfl
          refine lv_aload_n hx hb dX12_spot_38 rfl (lv_at hl 2 rfl) ?_
          refine va_get (D := D) hx hb hts inlX12 hown hK hP 55 (jc_55 cI cL ad σ τ) rfl 38 (by decide) (hts _ kw_7_23) (fun _ h9 => h9) rfl dX12_spot_39 ?_
          refine lv_iload_n hx hb dX12_spot_42 rfl (lv_at hl 1 rfl) ?_
          refine jald hx hb hK hP (jc_74 cI cL ad σ τ) (jin rfl (by omega) (by omega)) dX12_spot_43 ?_
          refine jtopr (y := (σ 74 x10.toNatClampNeg)) rfl ?_
          refine lv_iload_n hx hb dX12_spot_44 rfl (lv_at hl 3 rfl) ?_
          refine lv_icmp_ne (tgt := 60) hx hb dX12_spot_45 (by decide) (fun c20 => ?_) (fun c20 => ?_)
          · have kc20 := jne c20 rfl t1
            refine lv_iload_n hx hb dX12_spot_60 rfl (lv_at hl 1 rfl) ?_
            refine lv_iconst (v := 1) hx hb dX12_spot_61 (by decide) ?_
            have g21 := jrg (rfl : x10.toInt = x10.toInt)
            refine lv_iadd hx hb dX12_spot_62 ?_
            refine lv_topi (fun x22 ex22 => ?_)
            have tx22 : x22.toInt = x10.toInt + 1 := (jadd ex22 rfl jz_1 (by omega) (by omega)).trans (by omega)
            refine lv_ldcw (v := 65535) hx hb hown (hts _ kw_34_14) dX12_spot_63 ?_
            refine lv_iand hx hb dX12_spot_66 ?_
            refine lv_topi (fun x23 ex23 => ?_)
            have gx23 := jrg (rfl : x23.toInt = x23.toInt)
            have g24 : 0 ≤ x23.toInt ∧ x23.toInt ≤ 65535 := jmask ex23 16 (by decide) (by decide)
            refine lv_istore_n (lv' := [(3, .int x23), (4, .int x11), (0, .ref (ad 55)), (1, .int a1), (2, .int a2)]) hx hb dX12_spot_67 rfl hl (by decide) rfl (fun ls hl => ?_)
            obtain ⟨x25, ex25⟩ : ∃ y : Int32, y = x11 + 1 := ⟨_, rfl⟩
            have tx25 : x25.toInt = x11.toInt + 1 := (jadd ex25 rfl jz_1 (by omega) (by omega)).trans (by omega)
            refine lv_iinc (v := x25) (lv' := [(4, .int x25), (3, .int x23), (0, .ref (ad 55)), (1, .int a1), (2, .int a2)]) hx hb dX12_spot_68 hl (k := 1) rfl (by rw [ex25]; rfl) (by decide) rfl (fun ls hl => ?_)
            refine lv_goto (tgt := 18) hx hb dX12_spot_71 (by decide) ?_
            exact ihlp8 x23 x25 _ _ ls (by have h91 := tx25; omega) (by have h91 := tx25; omega) (by have h91 := tx25; omega) (by have h91 := tx25; omega) (by have h91 := tx25; omega)    hP hS (lv_sub hl [0, 1, 2, 3, 4] rfl)
          · have kc20 := jeq c20 rfl t1
            refine lv_aload_n hx hb dX12_spot_48 rfl (lv_at hl 2 rfl) ?_
            refine va_get (D := D) hx hb hts inlX12 hown hK hP 55 (jc_55 cI cL ad σ τ) rfl 39 (by decide) (hts _ kw_8_0) (fun _ h9 => h9) rfl dX12_spot_49 ?_
            refine lv_iload_n hx hb dX12_spot_52 rfl (lv_at hl 1 rfl) ?_
            refine jald hx hb hK hP (jc_75 cI cL ad σ τ) (jin rfl (by omega) (by omega)) dX12_spot_53 ?_
            refine jtopr (y := (σ 75 x10.toNatClampNeg)) rfl ?_
            refine lv_iload_n hx hb dX12_spot_54 rfl (lv_at hl 4 rfl) ?_
            refine lv_icmp_ne (tgt := 60) hx hb dX12_spot_55 (by decide) (fun c26 => ?_) (fun c26 => ?_)
            · have kc26 := jne c26 rfl t2
              refine lv_iload_n hx hb dX12_spot_60 rfl (lv_at hl 1 rfl) ?_
              refine lv_iconst (v := 1) hx hb dX12_spot_61 (by decide) ?_
              have g27 := jrg (rfl : x10.toInt = x10.toInt)
              refine lv_iadd hx hb dX12_spot_62 ?_
              refine lv_topi (fun x28 ex28 => ?_)
              have tx28 : x28.toInt = x10.toInt + 1 := (jadd ex28 rfl jz_1 (by omega) (by omega)).trans (by omega)
              refine lv_ldcw (v := 65535) hx hb hown (hts _ kw_34_14) dX12_spot_63 ?_
              refine lv_iand hx hb dX12_spot_66 ?_
              refine lv_topi (fun x29 ex29 => ?_)
              have gx29 := jrg (rfl : x29.toInt = x29.toInt)
              have g30 : 0 ≤ x29.toInt ∧ x29.toInt ≤ 65535 := jmask ex29 16 (by decide) (by decide)
              refine lv_istore_n (lv' := [(3, .int x29), (4, .int x11), (0, .ref (ad 55)), (1, .int a1), (2, .int a2)]) hx hb dX12_spot_67 rfl hl (by decide) rfl (fun ls hl => ?_)
              obtain ⟨x31, ex31⟩ : ∃ y : Int32, y = x11 + 1 := ⟨_, rfl⟩
              have tx31 : x31.toInt = x11.toInt + 1 := (jadd ex31 rfl jz_1 (by omega) (by omega)).trans (by omega)
              refine lv_iinc (v := x31) (lv' := [(4, .int x31), (3, .int x29), (0, .ref (ad 55)), (1, .int a1), (2, .int a2)]) hx hb dX12_spot_68 hl (k := 1) rfl (by rw [ex31]; rfl) (by decide) rfl (fun ls hl => ?_)
              refine lv_goto (tgt := 18) hx hb dX12_spot_71 (by decide) ?_
              exact ihlp8 x29 x31 _ _ ls (by have h91 := tx31; omega) (by have h91 := tx31; omega) (by have h91 := tx31; omega) (by have h91 := tx31; omega) (by have h91 := tx31; omega)    hP hS (lv_sub hl [0, 1, 2, 3, 4] rfl)
            · have kc26 := jeq c26 rfl t2
              refine lv_iload_n hx hb dX12_spot_58 rfl (lv_at hl 1 rfl) ?_
              exact hret x10 σ τ _ _ _ _ rfl ⟨⟨rfl, rfl⟩, Or.inl ⟨trivial, (by omega), (Or.inr c26)⟩⟩ hP hS dX12_spot_59
  exact lp8 1000000 x6 0 _ _ ls (by have h91 := jz_0; omega) (by have h91 := jz_0; omega) (by have h91 := jz_0; omega) (by have h91 := jz_0; omega) (by have h91 := jz_0; omega)   hP hS hl
set_option maxHeartbeats 4000000 in
set_option maxRecDepth 100000 in
theorem c_X12_worthBy (l : Launch) (D : va_G) (cI cL : ClassId) (ad zz : Nat → Nat) (hJ : jD ad) (σ : Nat → Nat → Int32) (τ : Nat → Nat → Int64) (a1 : Int32) (A1 : Int) (t1 : a1.toInt = A1) (a2 : Int32) (A2 : Int) (t2 : a2.toInt = A2) (hI101 : jI101 σ) (hI102 : jI102 σ) (hI103 : jI103 σ) (hI104 : jI104 σ) (hI105 : jI105 σ) (hI106 : jI106 σ) (hw68 : ∀ k : Nat, k < 4 → 0 ≤ (σ 68 k).toInt ∧ (σ 68 k).toInt ≤ 3) (hp0 : 0 ≤ A1 ∧ A1 ≤ 19) (hp1 : 0 ≤ A2 ∧ A2 ≤ 3) (hp2 : 0 ≤ (σ 55 25).toInt ∧ (σ 55 25).toInt ≤ 7) : jM l yX12_worthBy cX12_worthBy 4 (some .int) ({ frames := 67, cells := 0, slots := 0, locals := 2858 }) D cI cL ad zz [.ref (ad 55), .int a1, .int a2] σ τ (fun r σ' τ' => τ = τ' ∧ (∀ i : Nat, (i < 55 ∨ 55 < i) ∧ (i < 66 ∨ 66 < i) → σ' i = σ i) ∧ (∀ k : Nat, (k < 18 ∨ 18 < k) ∧ (k < 19 ∨ 19 < k) ∧ (k < 20 ∨ 20 < k) ∧ (k < 21 ∨ 21 < k) ∧ (k < 22 ∨ 22 < k) → σ' 55 k = σ 55 k) ∧ True) := by
  refine jM.of hJ (by decide +kernel) (nt := .int) rfl (Nat.le_of_ble_eq_true rfl) ?_
  intro p e s m args below meth c Q ls hC hret hl hP
  obtain ⟨hx, hb, hr, hml, hown, hts, hK, -, hlocks, hZ⟩ := hC
  have hown : s.vm.findClass RX12 = some m.cls := hown
  have hS : va_S (jA ad) s.heap s.heap [] := va_S.rf
  have hA : ∀ q, jA ad q → jA ad q := fun _ h => h
  have hl : lv_has ls 4 [(0, .ref (ad 55)), (1, .int a1), (2, .int a2)] := hl
  have g1 := jrg t1
  have g2 := jrg t2
  obtain ⟨i1, i2, i3, w4, w5⟩ : (1 ≤ (σ 55 10).toInt ∧ (σ 55 10).toInt ≤ 8) ∧ (1 ≤ (σ 55 12).toInt ∧ (σ 55 12).toInt ≤ 12) ∧ (0 ≤ (σ 55 13).toInt ∧ (σ 55 13).toInt ≤ 999) ∧ (∀ k : Nat, k < 8 → 0 ≤ (σ 62 k).toInt ∧ (σ 62 k).toInt ≤ 3) ∧ (∀ k : Nat, k < 8 → 0 ≤ (σ 67 k).toInt ∧ (σ 67 k).toInt ≤ 3) := id hI104
  obtain ⟨i6, w7, w8, w9⟩ : (0 ≤ (σ 55 32).toInt ∧ (σ 55 32).toInt ≤ 20) ∧ (∀ k : Nat, k < 20 → 0 ≤ (σ 70 k).toInt ∧ (σ 70 k).toInt ≤ 6) ∧ (∀ k : Nat, k < 20 → 0 ≤ (σ 71 k).toInt ∧ (σ 71 k).toInt ≤ 8) ∧ (∀ k : Nat, k < 160 → 0 ≤ (σ 72 k).toInt ∧ (σ 72 k).toInt ≤ 3) := id hI106
  refine lv_aload_n hx hb dX12_worthBy_0 rfl (lv_at hl 0 rfl) ?_
  refine va_get (D := D) hx hb hts inlX12 hown hK hP 55 (jc_55 cI cL ad σ τ) rfl 11 (by decide) (hts _ kw_7_8) (fun _ h9 => h9) rfl dX12_worthBy_1 ?_
  refine lv_aload_n hx hb dX12_worthBy_4 rfl (lv_at hl 0 rfl) ?_
  refine va_get (D := D) hx hb hts inlX12 hown hK hP 55 (jc_55 cI cL ad σ τ) rfl 25 (by decide) (hts _ kw_23_6) (fun _ h9 => h9) rfl dX12_worthBy_5 ?_
  refine jald hx hb hK hP (jc_62 cI cL ad σ τ) (jin rfl (by omega) (by omega)) dX12_worthBy_8 ?_
  have g10 := w4 _ (jnat (x := (σ 55 25)) rfl (n := 8) (by omega) (by decide))
  refine lv_topi (fun x11 ex11 => ?_)
  rw [← ex11] at g10
  refine lv_istore_n (lv' := [(3, .int x11), (0, .ref (ad 55)), (1, .int a1), (2, .int a2)]) hx hb dX12_worthBy_9 rfl hl (by decide) rfl (fun ls hl => ?_)
  refine lv_aload_n hx hb dX12_worthBy_10 rfl (lv_at hl 1 rfl) ?_
  refine va_get (D := D) hx hb hts inlX12 hown hK hP 55 (jc_55 cI cL ad σ τ) rfl 33 (by decide) (hts _ kw_7_18) (fun _ h9 => h9) rfl dX12_worthBy_11 ?_
  refine lv_iload_n hx hb dX12_worthBy_14 rfl (lv_at hl 2 rfl) ?_
  refine jald hx hb hK hP (jc_70 cI cL ad σ τ) (jin t1 (by omega) (by omega)) dX12_worthBy_15 ?_
  have g12 := w7 _ (jnat (x := a1) t1 (n := 20) (by omega) (by decide))
  refine lv_topi (fun x13 ex13 => ?_)
  rw [← ex13] at g12
  refine lv_iconst (v := 3) hx hb dX12_worthBy_16 (by decide) ?_
  refine lv_icmp_ne (tgt := 38) hx hb dX12_worthBy_17 (by decide) (fun c14 => ?_) (fun c14 => ?_)
  · have kc14 := jne c14 rfl jz_3
    refine lv_aload_n hx hb dX12_worthBy_38 rfl (lv_at hl 1 rfl) ?_
    refine va_get (D := D) hx hb hts inlX12 hown hK hP 55 (jc_55 cI cL ad σ τ) rfl 33 (by decide) (hts _ kw_7_18) (fun _ h9 => h9) rfl dX12_worthBy_39 ?_
    refine lv_iload_n hx hb dX12_worthBy_42 rfl (lv_at hl 2 rfl) ?_
    refine jald hx hb hK hP (jc_70 cI cL ad σ τ) (jin t1 (by omega) (by omega)) dX12_worthBy_43 ?_
    have g15 := w7 _ (jnat (x := a1) t1 (n := 20) (by omega) (by decide))
    refine lv_topi (fun x16 ex16 => ?_)
    rw [← ex16] at g15
    refine lv_iconst (v := 5) hx hb dX12_worthBy_44 (by decide) ?_
    refine lv_icmp_ne (tgt := 56) hx hb dX12_worthBy_45 (by decide) (fun c17 => ?_) (fun c17 => ?_)
    · have kc17 := jne c17 rfl jz_5
      refine lv_iconst (v := 0) hx hb dX12_worthBy_56 (by decide) ?_
      exact hret 0 σ τ _ _ _ _ rfl ⟨rfl, (fun _ _ => rfl), (fun _ _ => rfl), trivial⟩ hP hS dX12_worthBy_57
    · have kc17 := jeq c17 rfl jz_5
      refine lv_aload_n hx hb dX12_worthBy_48 rfl (lv_at hl 1 rfl) ?_
      refine lv_iload_n hx hb dX12_worthBy_49 rfl (lv_at hl 3 rfl) ?_
      refine lv_iload_n hx hb dX12_worthBy_50 rfl (lv_at hl 0 rfl) ?_
      refine jcallV (As := [.int a2, .int x11]) (rest := []) ⟨hx, hb, hml, hown, hts⟩ hK hP hA hS hZ (c_X12_outBy l D cI cL ad zz hJ σ τ a2 (A2) t2 x11 (x11.toInt) rfl hI101 hI102 hI103 hI105 hw68 (by omega) (by omega)) cw_RX12_259 (jc_55 cI cL ad σ τ) rfl ⟨Nat.le_of_ble_eq_true rfl, Nat.le_of_ble_eq_true rfl⟩ rfl rfl rfl hl.1 rfl (Nat.le_of_ble_eq_true rfl) dX12_worthBy_51 ⟨Nat.zero_le _, Nat.zero_le _⟩ (fun r19 σ18 τ18 H locs h18 hP hS => ?_)
      obtain ⟨rfl, f20, f21, h18⟩ := h18
      have h22 := h18
      obtain ⟨q24, k23⟩ := h22
      refine lv_ineg hx hb dX12_worthBy_54 ?_
      refine lv_topi (fun x25 ex25 => ?_)
      have tx25 : x25.toInt = -r19.toInt := (jneg ex25 rfl (by omega)).trans (by omega)
      exact hret x25 σ18 τ _ _ _ _ rfl ⟨rfl, (fun i hi => (f20 i hi)), (fun i hi => (f21 i hi)), trivial⟩ hP hS dX12_worthBy_55
  · have kc14 := jeq c14 rfl jz_3
    refine lv_sipush (v := 1000) hx hb dX12_worthBy_20 (by decide) ?_
    refine lv_aload_n hx hb dX12_worthBy_23 rfl (lv_at hl 1 rfl) ?_
    refine lv_iload_n hx hb dX12_worthBy_24 rfl (lv_at hl 3 rfl) ?_
    refine lv_iload_n hx hb dX12_worthBy_25 rfl (lv_at hl 0 rfl) ?_
    refine jcallV (As := [.int a2, .int x11]) (rest := [.int 1000]) ⟨hx, hb, hml, hown, hts⟩ hK hP hA hS hZ (c_X12_runsBy l D cI cL ad zz hJ σ τ a2 (A2) t2 x11 (x11.toInt) rfl hI101 hI102 hI103 hw68 (by omega) (by omega)) cw_RX12_262 (jc_55 cI cL ad σ τ) rfl ⟨Nat.le_of_ble_eq_true rfl, Nat.le_of_ble_eq_true rfl⟩ rfl rfl rfl hl.1 rfl (Nat.le_of_ble_eq_true rfl) dX12_worthBy_26 ⟨Nat.zero_le _, Nat.zero_le _⟩ (fun r27 σ26 τ26 H locs h26 hP hS => ?_)
    obtain ⟨⟨rfl, rfl⟩, h26⟩ := h26
    have h28 := h26
    obtain ⟨q30, k29⟩ := h28
    have g31 := jrg (rfl : r27.toInt = r27.toInt)
    refine lv_imul hx hb dX12_worthBy_29 ?_
    refine lv_topi (fun x32 ex32 => ?_)
    have tx32 : x32.toInt = 1000 * r27.toInt := (jmul ex32 jz_1000 rfl (by omega) (by omega)).trans (by omega)
    refine lv_aload_n hx hb dX12_worthBy_30 rfl (lv_at hl 1 rfl) ?_
    refine lv_iload_n hx hb dX12_worthBy_31 rfl (lv_at hl 3 rfl) ?_
    refine lv_iload_n hx hb dX12_worthBy_32 rfl (lv_at hl 0 rfl) ?_
    refine jcallV (As := [.int a2, .int x11]) (rest := [.int x32]) ⟨hx, hb, hml, hown, hts⟩ hK hP hA hS hZ (c_X12_outBy l D cI cL ad zz hJ σ τ a2 (A2) t2 x11 (x11.toInt) rfl hI101 hI102 hI103 hI105 hw68 (by omega) (by omega)) cw_RX12_259 (jc_55 cI cL ad σ τ) rfl ⟨Nat.le_of_ble_eq_true rfl, Nat.le_of_ble_eq_true rfl⟩ rfl rfl rfl hl.1 rfl (Nat.le_of_ble_eq_true rfl) dX12_worthBy_33 ⟨Nat.zero_le _, Nat.zero_le _⟩ (fun r34 σ33 τ33 H locs h33 hP hS => ?_)
    obtain ⟨rfl, f35, f36, h33⟩ := h33
    have h37 := h33
    obtain ⟨q39, k38⟩ := h37
    have g40 := jrg (rfl : r34.toInt = r34.toInt)
    refine lv_isub hx hb dX12_worthBy_36 ?_
    refine lv_topi (fun x41 ex41 => ?_)
    have tx41 : x41.toInt = 1000 * r27.toInt - r34.toInt := (jsub ex41 tx32 rfl (by omega) (by omega)).trans (by omega)
    exact hret x41 σ33 τ _ _ _ _ rfl ⟨rfl, (fun i hi => (f35 i hi)), (fun i hi => (f36 i hi)), trivial⟩ hP hS dX12_worthBy_37
set_option maxHeartbeats 4000000 in
set_option maxRecDepth 100000 in
theorem c_X12_bests_mean_g (l : Launch) (D : va_G) (cI cL : ClassId) (ad zz : Nat → Nat) (hJ : jD ad) (n : Nat) (h_bf : ∀ (σ : Nat → Nat → Int32) (τ : Nat → Nat → Int64) (hI101 : jI101 σ) (hI102 : jI102 σ) (hI103 : jI103 σ) (hI104 : jI104 σ) (hI105 : jI105 σ) (hI106 : jI106 σ) (hI120 : jI120 σ) (hs_jKept : jKept σ) (hp0 : (σ 55 12).toInt - (σ 55 26).toInt ≤ (((n) : Nat) : Int)), jM l yX12_bestFrom cX12_bestFrom 8 (some .int) ({ frames := (70 + 4 * (n)), cells := 0, slots := 0, locals := (3114 + 240 * (n)) }) D cI cL ad zz [.ref (ad 55)] σ τ (fun r σ' τ' => τ = τ' ∧ (∀ i : Nat, (i < 55 ∨ 55 < i) ∧ (i < 66 ∨ 66 < i) ∧ (i < 74 ∨ 78 < i) → σ' i = σ i) ∧ (∀ k : Nat, (k < 18 ∨ 18 < k) ∧ (k < 19 ∨ 19 < k) ∧ (k < 20 ∨ 20 < k) ∧ (k < 21 ∨ 21 < k) ∧ (k < 22 ∨ 22 < k) ∧ (k < 37 ∨ 37 < k) → σ' 55 k = σ 55 k) ∧ (jKept σ') ∧ ((-2) ≤ (σ' 55 37).toInt ∧ (σ' 55 37).toInt ≤ 3) ∧ ((True ∧ (0 ≤ r.toInt ∧ r.toInt ≤ -(1023000 * (σ 55 26).toInt) + 12276000))))) (σ : Nat → Nat → Int32) (τ : Nat → Nat → Int64) (a1 : Int32) (A1 : Int) (t1 : a1.toInt = A1) (hI101 : jI101 σ) (hI102 : jI102 σ) (hI103 : jI103 σ) (hI104 : jI104 σ) (hI105 : jI105 σ) (hI106 : jI106 σ) (hI120 : jI120 σ) (hs_jKept : jKept σ) (hp0 : 0 ≤ A1 ∧ A1 ≤ 3) (hp1 : (σ 55 25).toInt < (σ 55 10).toInt) (hp2 : (σ 55 26).toInt < (σ 55 12).toInt) (hp3 : (σ 55 12).toInt - (σ 55 26).toInt ≤ (((n + 1) : Nat) : Int)) : jM l yX12_meanWith cX12_meanWith 8 (some .int) ({ frames := (69 + 4 * (n + 1)), cells := 0, slots := 0, locals := (3034 + 240 * (n + 1)) }) D cI cL ad zz [.ref (ad 55), .int a1] σ τ (fun r σ' τ' => τ = τ' ∧ (∀ i : Nat, (i < 55 ∨ 55 < i) ∧ (i < 66 ∨ 66 < i) ∧ (i < 74 ∨ 78 < i) → σ' i = σ i) ∧ (∀ k : Nat, (k < 18 ∨ 18 < k) ∧ (k < 19 ∨ 19 < k) ∧ (k < 20 ∨ 20 < k) ∧ (k < 21 ∨ 21 < k) ∧ (k < 22 ∨ 22 < k) ∧ (k < 37 ∨ 37 < k) → σ' 55 k = σ 55 k) ∧ (jKept σ') ∧ ((True ∧ (0 ≤ r.toInt ∧ r.toInt ≤ -(1023000 * (σ 55 26).toInt) + 12276000)))) := by
  refine jM.of hJ (by decide +kernel) (nt := .int) rfl (Nat.le_of_ble_eq_true rfl) ?_
  intro p e s m args below meth c Q ls hC hret hl hP
  obtain ⟨hx, hb, hr, hml, hown, hts, hK, -, hlocks, hZ⟩ := hC
  have hown : s.vm.findClass RX12 = some m.cls := hown
  have hS : va_S (jA ad) s.heap s.heap [] := va_S.rf
  have hA : ∀ q, jA ad q → jA ad q := fun _ h => h
  have hl : lv_has ls 8 [(0, .ref (ad 55)), (1, .int a1)] := hl
  have g1 := jrg t1
  obtain ⟨i1, w2, w3⟩ : (0 ≤ (σ 55 6).toInt ∧ (σ 55 6).toInt ≤ 4) ∧ (∀ k : Nat, k < 4 → 0 ≤ (σ 60 k).toInt ∧ (σ 60 k).toInt ≤ 50) ∧ (∀ k : Nat, k < 4 → 0 ≤ (σ 61 k).toInt ∧ (σ 61 k).toInt ≤ 20) := id hI102
  obtain ⟨i4, i5, i6, w7, w8⟩ : (1 ≤ (σ 55 10).toInt ∧ (σ 55 10).toInt ≤ 8) ∧ (1 ≤ (σ 55 12).toInt ∧ (σ 55 12).toInt ≤ 12) ∧ (0 ≤ (σ 55 13).toInt ∧ (σ 55 13).toInt ≤ 999) ∧ (∀ k : Nat, k < 8 → 0 ≤ (σ 62 k).toInt ∧ (σ 62 k).toInt ≤ 3) ∧ (∀ k : Nat, k < 8 → 0 ≤ (σ 67 k).toInt ∧ (σ 67 k).toInt ≤ 3) := id hI104
  obtain ⟨i9, i10, i11, i12, i13, w14⟩ : (0 ≤ (σ 55 25).toInt) ∧ ((σ 55 25).toInt ≤ (σ 55 10).toInt) ∧ (0 ≤ (σ 55 26).toInt) ∧ ((σ 55 26).toInt ≤ (σ 55 12).toInt) ∧ ((-1) ≤ (σ 55 27).toInt ∧ (σ 55 27).toInt ≤ 3) ∧ (∀ k : Nat, k < 4 → 0 ≤ (σ 68 k).toInt ∧ (σ 68 k).toInt ≤ 3) := id hI120
  refine lv_aload_n hx hb dX12_meanWith_0 rfl (lv_at hl 0 rfl) ?_
  refine va_get (D := D) hx hb hts inlX12 hown hK hP 55 (jc_55 cI cL ad σ τ) rfl 11 (by decide) (hts _ kw_7_8) (fun _ h9 => h9) rfl dX12_meanWith_1 ?_
  refine lv_aload_n hx hb dX12_meanWith_4 rfl (lv_at hl 0 rfl) ?_
  refine va_get (D := D) hx hb hts inlX12 hown hK hP 55 (jc_55 cI cL ad σ τ) rfl 25 (by decide) (hts _ kw_23_6) (fun _ h9 => h9) rfl dX12_meanWith_5 ?_
  refine jald hx hb hK hP (jc_62 cI cL ad σ τ) (jin rfl (by omega) (by omega)) dX12_meanWith_8 ?_
  have g15 := w7 _ (jnat (x := (σ 55 25)) rfl (n := 8) (by omega) (by decide))
  refine lv_topi (fun x16 ex16 => ?_)
  rw [← ex16] at g15
  refine lv_istore_n (lv' := [(2, .int x16), (0, .ref (ad 55)), (1, .int a1)]) hx hb dX12_meanWith_9 rfl hl (by decide) rfl (fun ls hl => ?_)
  refine lv_aload_n hx hb dX12_meanWith_10 rfl (lv_at hl 1 rfl) ?_
  refine lv_iload_n hx hb dX12_meanWith_11 rfl (lv_at hl 2 rfl) ?_
  refine lv_iload_n hx hb dX12_meanWith_12 rfl (lv_at hl 0 rfl) ?_
  refine jcallV (As := [.int a1, .int x16]) (rest := []) ⟨hx, hb, hml, hown, hts⟩ hK hP hA hS hZ (c_X12_outBy l D cI cL ad zz hJ σ τ a1 (A1) t1 x16 (x16.toInt) rfl hI101 hI102 hI103 hI105 w14 (by omega) (by omega)) cw_RX12_259 (jc_55 cI cL ad σ τ) rfl ⟨by dsimp only; omega, by dsimp only; omega⟩ rfl rfl rfl hl.1 rfl (Nat.le_of_ble_eq_true rfl) dX12_meanWith_13 ⟨Nat.zero_le _, Nat.zero_le _⟩ (fun r18 σ17 τ17 H locs h17 hP hS => ?_)
  obtain ⟨rfl, f19, f20, h17⟩ := h17
  have h21 := h17
  obtain ⟨q23, k22⟩ := h21
  refine lv_istore_n (lv' := [(3, .int r18), (2, .int x16), (0, .ref (ad 55)), (1, .int a1)]) hx hb dX12_meanWith_16 rfl hl (by decide) rfl (fun ls hl => ?_)
  refine lv_sipush (v := 1000) hx hb dX12_meanWith_17 (by decide) ?_
  refine lv_aload_n hx hb dX12_meanWith_20 rfl (lv_at hl 2 rfl) ?_
  refine lv_iload_n hx hb dX12_meanWith_21 rfl (lv_at hl 3 rfl) ?_
  refine lv_iload_n hx hb dX12_meanWith_22 rfl (lv_at hl 1 rfl) ?_
  have I24 : jI101 σ17 := jI101_fr (f20 4 (by decide)) (f20 5 (by decide)) (f19 56 (by decide)) (f19 57 (by decide)) (f19 58 (by decide)) (f19 59 (by decide)) hI101
  have I25 : jI102 σ17 := jI102_fr (f20 6 (by decide)) (f19 60 (by decide)) (f19 61 (by decide)) hI102
  have I26 : jI103 σ17 := jI103_fr (f20 9 (by decide)) hI103
  have w27 : ∀ k : Nat, k < 4 → 0 ≤ (σ17 68 k).toInt ∧ (σ17 68 k).toInt ≤ 3 := (jrr_fr (f19 68 (by decide)) w14)
  refine jcallV (As := [.int a1, .int x16]) (rest := [.int 1000]) ⟨hx, hb, hml, hown, hts⟩ hK hP hA hS hZ (c_X12_runsBy l D cI cL ad zz hJ σ17 τ a1 (A1) t1 x16 (x16.toInt) rfl I24 I25 I26 w27 (by omega) (by omega)) cw_RX12_262 (jc_55 cI cL ad σ17 τ) rfl ⟨by dsimp only; omega, by dsimp only; omega⟩ rfl rfl rfl hl.1 rfl (Nat.le_of_ble_eq_true rfl) dX12_meanWith_23 ⟨Nat.zero_le _, Nat.zero_le _⟩ (fun r29 σ28 τ28 H locs h28 hP hS => ?_)
  obtain ⟨⟨rfl, rfl⟩, h28⟩ := h28
  have h30 := h28
  obtain ⟨q32, k31⟩ := h30
  have g33 := jrg (rfl : r29.toInt = r29.toInt)
  refine lv_imul hx hb dX12_meanWith_26 ?_
  refine lv_topi (fun x34 ex34 => ?_)
  have tx34 : x34.toInt = 1000 * r29.toInt := (jmul ex34 jz_1000 rfl (by omega) (by omega)).trans (by omega)
  refine lv_istore (lv' := [(4, .int x34), (3, .int r18), (2, .int x16), (0, .ref (ad 55)), (1, .int a1)]) hx hb dX12_meanWith_27 hl (by decide) rfl (fun ls hl => ?_)
  refine lv_aload_n hx hb dX12_meanWith_29 rfl (lv_at hl 3 rfl) ?_
  refine lv_iload_n hx hb dX12_meanWith_30 rfl (lv_at hl 4 rfl) ?_
  refine lv_iconst (v := 1) hx hb dX12_meanWith_31 (by decide) ?_
  have z35 : (σ17 55 6).toInt = (σ 55 6).toInt := (congrArg Int32.toInt (show σ17 55 6 = (σ 55 6) from (f20 6 (by decide))))
  have z36 : (σ17 55 27).toInt = (σ 55 27).toInt := (congrArg Int32.toInt (show σ17 55 27 = (σ 55 27) from (f20 27 (by decide))))
  have z37 : (σ17 55 25).toInt = (σ 55 25).toInt := (congrArg Int32.toInt (show σ17 55 25 = (σ 55 25) from (f20 25 (by decide))))
  have z38 : (σ17 55 26).toInt = (σ 55 26).toInt := (congrArg Int32.toInt (show σ17 55 26 = (σ 55 26) from (f20 26 (by decide))))
  have z39 : (σ17 68 0).toInt = (σ 68 0).toInt := (congrArg Int32.toInt (show σ17 68 0 = (σ 68 0) from (congrFun (f19 68 (by decide)) 0)))
  have z40 : (σ17 68 1).toInt = (σ 68 1).toInt := (congrArg Int32.toInt (show σ17 68 1 = (σ 68 1) from (congrFun (f19 68 (by decide)) 1)))
  have z41 : (σ17 68 2).toInt = (σ 68 2).toInt := (congrArg Int32.toInt (show σ17 68 2 = (σ 68 2) from (congrFun (f19 68 (by decide)) 2)))
  have z42 : (σ17 68 3).toInt = (σ 68 3).toInt := (congrArg Int32.toInt (show σ17 68 3 = (σ 68 3) from (congrFun (f19 68 (by decide)) 3)))
  refine jcallV (As := [.int a1, .int 1]) (rest := []) ⟨hx, hb, hml, hown, hts⟩ hK hP hA hS hZ (c_X12_goes_1 l D cI cL ad zz hJ σ17 τ a1 (A1) t1 w27 (by omega) (by omega) (by omega) (by omega) (by omega)) cw_RX12_296 (jc_55 cI cL ad σ17 τ) rfl ⟨by dsimp only; omega, by dsimp only; omega⟩ rfl rfl rfl hl.1 rfl (Nat.le_of_ble_eq_true rfl) dX12_meanWith_32 ⟨Nat.zero_le _, Nat.zero_le _⟩ (fun r44 σ43 τ43 H locs h43 hP hS => ?_)
  obtain ⟨rfl, f45, f46, w47, w48, w49, h43⟩ := h43
  obtain ⟨k50, k51, k52, h43⟩ := h43
  have h53 := h43
  obtain ⟨q59, k54, k55, k56, k57, k58⟩ := h53
  refine lv_istore (lv' := [(5, .int r44), (4, .int x34), (3, .int r18), (2, .int x16), (0, .ref (ad 55)), (1, .int a1)]) hx hb dX12_meanWith_35 hl (by decide) rfl (fun ls hl => ?_)
  refine lv_aload_n hx hb dX12_meanWith_37 rfl (lv_at hl 4 rfl) ?_
  have I60 : jI101 σ43 := jI101_fr (f46 4 (by decide)) (f46 5 (by decide)) (f45 56 (by decide)) (f45 57 (by decide)) (f45 58 (by decide)) (f45 59 (by decide)) I24
  have I61 : jI102 σ43 := jI102_fr (f46 6 (by decide)) (f45 60 (by decide)) (f45 61 (by decide)) I25
  have I62 : jI103 σ43 := jI103_fr (f46 9 (by decide)) I26
  have I63 : jI104 σ43 := jI104_fr ((f46 10 (by decide)).trans (f20 10 (by decide))) ((f46 12 (by decide)).trans (f20 12 (by decide))) ((f46 13 (by decide)).trans (f20 13 (by decide))) ((f45 62 (by decide)).trans (f19 62 (by decide))) ((f45 67 (by decide)).trans (f19 67 (by decide))) hI104
  have I64 : jI105 σ43 := jI105_fr ((f46 15 (by decide)).trans (f20 15 (by decide))) ((f45 65 (by decide)).trans (f19 65 (by decide))) hI105
  have I65 : jI106 σ43 := jI106_fr ((f46 32 (by decide)).trans (f20 32 (by decide))) ((f45 70 (by decide)).trans (f19 70 (by decide))) ((f45 71 (by decide)).trans (f19 71 (by decide))) ((f45 72 (by decide)).trans (f19 72 (by decide))) hI106
  have z66 : (σ43 55 10).toInt = (σ 55 10).toInt := (congrArg Int32.toInt (show σ43 55 10 = (σ 55 10) from ((f46 10 (by decide)).trans (f20 10 (by decide)))))
  have z67 : (σ43 55 12).toInt = (σ 55 12).toInt := (congrArg Int32.toInt (show σ43 55 12 = (σ 55 12) from ((f46 12 (by decide)).trans (f20 12 (by decide)))))
  have I68 : jI120 σ43 := ⟨(by omega), (by omega), (by omega), (by omega), (by omega), w47⟩
  have p69 : jKept σ43 := jKept.fr ((f45 75 (by decide)).trans (f19 75 (by decide))) ((f45 76 (by decide)).trans (f19 76 (by decide))) ((f45 77 (by decide)).trans (f19 77 (by decide))) hs_jKept
  refine jcallV (As := []) (rest := []) ⟨hx, hb, hml, hown, hts⟩ hK hP hA hS hZ (h_bf σ43 τ I60 I61 I62 I63 I64 I65 I68 p69 (by omega)) cw_RX12_280 (jc_55 cI cL ad σ43 τ) rfl ⟨by dsimp only; omega, by dsimp only; omega⟩ rfl rfl rfl hl.1 rfl (Nat.le_of_ble_eq_true rfl) dX12_meanWith_38 ⟨Nat.zero_le _, Nat.zero_le _⟩ (fun r71 σ70 τ70 H locs h70 hP hS => ?_)
  obtain ⟨rfl, f72, f73, p74, h70⟩ := h70
  obtain ⟨k75, h70⟩ := h70
  have h76 := h70
  obtain ⟨q78, k77⟩ := h76
  refine lv_istore (lv' := [(6, .int r71), (5, .int r44), (4, .int x34), (3, .int r18), (2, .int x16), (0, .ref (ad 55)), (1, .int a1)]) hx hb dX12_meanWith_41 hl (by decide) rfl (fun ls hl => ?_)
  refine lv_aload_n hx hb dX12_meanWith_43 rfl (lv_at hl 5 rfl) ?_
  refine lv_iload_n hx hb dX12_meanWith_44 rfl (lv_at hl 6 rfl) ?_
  refine lv_iconst (v := 1) hx hb dX12_meanWith_45 (by decide) ?_
  refine lv_iload hx hb dX12_meanWith_46 (lv_at hl 1 rfl) ?_
  have w79 : ∀ k : Nat, k < 4 → 0 ≤ (σ70 68 k).toInt ∧ (σ70 68 k).toInt ≤ 3 := (jrr_fr (f72 68 (by decide)) w47)
  have z80 : (σ70 55 25).toInt = (σ43 55 25).toInt := (congrArg Int32.toInt (show σ70 55 25 = (σ43 55 25) from (f73 25 (by decide))))
  have z81 : (σ70 55 26).toInt = (σ43 55 26).toInt := (congrArg Int32.toInt (show σ70 55 26 = (σ43 55 26) from (f73 26 (by decide))))
  have z82 : (σ70 55 6).toInt = (σ 55 6).toInt := (congrArg Int32.toInt (show σ70 55 6 = (σ 55 6) from ((f73 6 (by decide)).trans ((f46 6 (by decide)).trans (f20 6 (by decide))))))
  have w83 : ∀ k : Nat, k < 4 → 0 ≤ (σ17 68 k).toInt ∧ (σ17 68 k).toInt ≤ 3 := w27
  have z85 : (σ17 55 27).toInt = (σ 55 27).toInt := (congrArg Int32.toInt (show σ17 55 27 = (σ 55 27) from (f20 27 (by decide))))
  have k84 := jwas (by omega) (w83 0 (by decide)) (w83 1 (by decide)) (w83 2 (by decide)) (w83 3 (by decide)) k54
  rw [← (show σ70 55 6 = σ17 55 6 from ((f73 6 (by decide)).trans (f46 6 (by decide))))] at k84
  refine jcallVv (As := [.int a1, .int 1, .int r44]) (rest := []) ⟨hx, hb, hml, hown, hts⟩ hK hP hA hS hZ (c_X12_goesBack_1 l D cI cL ad zz hJ σ70 τ a1 (A1) t1 r44 (r44.toInt) rfl w79 (by omega) (by omega) (by omega) k84) cw_RX12_300 (jc_55 cI cL ad σ70 τ) rfl ⟨by dsimp only; omega, by dsimp only; omega⟩ rfl rfl rfl hl.1 rfl (Nat.le_of_ble_eq_true rfl) dX12_meanWith_48 ⟨Nat.zero_le _, Nat.zero_le _⟩ (fun σ86 τ86 H locs h86 hP hS => ?_)
  obtain ⟨rfl, f88, f89, w90, w91, w92, h86⟩ := h86
  obtain ⟨k93, k94, k95, k96, h86⟩ := h86
  have p97 : jKept σ86 := jKept.fr (f88 75 (by decide)) (f88 76 (by decide)) (f88 77 (by decide)) p74
  have e98 : σ70 69 = σ43 69 := (f72 69 (by decide))
  have e99 : σ86 69 = σ17 69 := jback69 w48 e98 w91
  have e100 : σ70 68 = σ43 68 := (f72 68 (by decide))
  have e101 : σ70 55 6 = σ17 55 6 := ((f73 6 (by decide)).trans (f46 6 (by decide)))
  have w109 : ∀ k : Nat, k < 4 → 0 ≤ (σ17 68 k).toInt ∧ (σ17 68 k).toInt ≤ 3 := w27
  have w110 : ∀ k : Nat, k < 4 → 0 ≤ (σ86 68 k).toInt ∧ (σ86 68 k).toInt ≤ 3 := w90
  have k111 := k96
  rw [e101] at k111
  have D102 := jdig (w109 0 (by decide)) (w109 1 (by decide)) (w109 2 (by decide)) (w109 3 (by decide)) (w110 0 (by decide)) (w110 1 (by decide)) (w110 2 (by decide)) (w110 3 (by decide)) k54 k111
  have e103 : σ86 55 27 = σ17 55 27 := Int32.toInt_inj.mp (by have h9 := D102.1; omega)
  have z112 : (σ70 55 26).toInt = (σ43 55 26).toInt := (congrArg Int32.toInt (show σ70 55 26 = (σ43 55 26) from (f73 26 (by decide))))
  have z113 : (σ17 55 26).toInt = (σ 55 26).toInt := (congrArg Int32.toInt (show σ17 55 26 = (σ 55 26) from (f20 26 (by decide))))
  have z114 : (σ70 55 25).toInt = (σ43 55 25).toInt := (congrArg Int32.toInt (show σ70 55 25 = (σ43 55 25) from (f73 25 (by decide))))
  have z115 : (σ17 55 25).toInt = (σ 55 25).toInt := (congrArg Int32.toInt (show σ17 55 25 = (σ 55 25) from (f20 25 (by decide))))
  have e104 : σ86 55 26 = σ17 55 26 := Int32.toInt_inj.mp (by omega)
  have e105 : σ86 55 25 = σ17 55 25 := Int32.toInt_inj.mp (by omega)
  have z116 : (σ17 55 6).toInt = (σ 55 6).toInt := (congrArg Int32.toInt (show σ17 55 6 = (σ 55 6) from (f20 6 (by decide))))
  have e106 : σ86 68 = σ17 68 := jback68 (nb := (σ17 55 6).toInt) (by omega) w49 e100 (fun k hk => w92 k (by rw [e101]; exact hk)) D102.2
  have f107 : (∀ i : Nat, (i < 55 ∨ 55 < i) ∧ (i < 66 ∨ 66 < i) ∧ (i < 74 ∨ 78 < i) → σ86 i = σ17 i) := fun i hi0 => by
    by_cases h8 : i = 68
    · rw [h8]; exact e106
    by_cases h9 : i = 69
    · rw [h9]; exact e99
    have hi : ((i < 55 ∨ 55 < i) ∧ (i < 66 ∨ 66 < i) ∧ (i < 74 ∨ 78 < i)) ∧ i ≠ 68 ∧ i ≠ 69 := ⟨hi0, h8, h9⟩
    exact ((f88 i (imp_199 i hi)).trans ((f72 i (imp_200 i hi)).trans (f45 i (imp_199 i hi))))
  have f108 : ∀ i : Nat, (i < 18 ∨ 18 < i) ∧ (i < 19 ∨ 19 < i) ∧ (i < 20 ∨ 20 < i) ∧ (i < 21 ∨ 21 < i) ∧ (i < 22 ∨ 22 < i) ∧ (i < 37 ∨ 37 < i) → σ86 55 i = σ17 55 i := fun i hi0 => by
    by_cases h25 : i = 25
    · rw [h25]; exact e105
    by_cases h26 : i = 26
    · rw [h26]; exact e104
    by_cases h27 : i = 27
    · rw [h27]; exact e103
    have hi : ((i < 18 ∨ 18 < i) ∧ (i < 19 ∨ 19 < i) ∧ (i < 20 ∨ 20 < i) ∧ (i < 21 ∨ 21 < i) ∧ (i < 22 ∨ 22 < i) ∧ (i < 37 ∨ 37 < i)) ∧ i ≠ 25 ∧ i ≠ 26 ∧ i ≠ 27 := ⟨hi0, h25, h26, h27⟩
    exact ((f89 i (imp_201 i hi)).trans ((f73 i (imp_202 i hi)).trans (f46 i (imp_201 i hi))))
  clear k111 k96 k54
  refine lv_aload_n hx hb dX12_meanWith_51 rfl (lv_at hl 5 rfl) ?_
  refine lv_iload_n hx hb dX12_meanWith_52 rfl (lv_at hl 6 rfl) ?_
  refine lv_iconst (v := 0) hx hb dX12_meanWith_53 (by decide) ?_
  have w117 : ∀ k : Nat, k < 4 → 0 ≤ (σ86 68 k).toInt ∧ (σ86 68 k).toInt ≤ 3 := (jrr_fr (f107 68 (by decide)) w27)
  have z118 : (σ86 55 6).toInt = (σ 55 6).toInt := (congrArg Int32.toInt (show σ86 55 6 = (σ 55 6) from ((f108 6 (by decide)).trans (f20 6 (by decide)))))
  have z119 : (σ86 55 27).toInt = (σ 55 27).toInt := (congrArg Int32.toInt (show σ86 55 27 = (σ 55 27) from ((f108 27 (by decide)).trans (f20 27 (by decide)))))
  have z120 : (σ86 55 25).toInt = (σ 55 25).toInt := (congrArg Int32.toInt (show σ86 55 25 = (σ 55 25) from ((f108 25 (by decide)).trans (f20 25 (by decide)))))
  have z121 : (σ86 55 26).toInt = (σ 55 26).toInt := (congrArg Int32.toInt (show σ86 55 26 = (σ 55 26) from ((f108 26 (by decide)).trans (f20 26 (by decide)))))
  have z122 : (σ86 68 0).toInt = (σ 68 0).toInt := (congrArg Int32.toInt (show σ86 68 0 = (σ 68 0) from ((congrFun (f107 68 (by decide)) 0).trans (congrFun (f19 68 (by decide)) 0))))
  have z123 : (σ86 68 1).toInt = (σ 68 1).toInt := (congrArg Int32.toInt (show σ86 68 1 = (σ 68 1) from ((congrFun (f107 68 (by decide)) 1).trans (congrFun (f19 68 (by decide)) 1))))
  have z124 : (σ86 68 2).toInt = (σ 68 2).toInt := (congrArg Int32.toInt (show σ86 68 2 = (σ 68 2) from ((congrFun (f107 68 (by decide)) 2).trans (congrFun (f19 68 (by decide)) 2))))
  have z125 : (σ86 68 3).toInt = (σ 68 3).toInt := (congrArg Int32.toInt (show σ86 68 3 = (σ 68 3) from ((congrFun (f107 68 (by decide)) 3).trans (congrFun (f19 68 (by decide)) 3))))
  refine jcallV (As := [.int a1, .int 0]) (rest := []) ⟨hx, hb, hml, hown, hts⟩ hK hP hA hS hZ (c_X12_goes_0 l D cI cL ad zz hJ σ86 τ a1 (A1) t1 w117 (by omega) (by omega) (by omega) (by omega) (by omega)) cw_RX12_296 (jc_55 cI cL ad σ86 τ) rfl ⟨by dsimp only; omega, by dsimp only; omega⟩ rfl rfl rfl hl.1 rfl (Nat.le_of_ble_eq_true rfl) dX12_meanWith_54 ⟨Nat.zero_le _, Nat.zero_le _⟩ (fun r127 σ126 τ126 H locs h126 hP hS => ?_)
  obtain ⟨rfl, f128, f129, w130, w131, w132, h126⟩ := h126
  obtain ⟨k133, k134, k135, h126⟩ := h126
  have h136 := h126
  obtain ⟨q142, k137, k138, k139, k140, k141⟩ := h136
  refine lv_istore (lv' := [(5, .int r127), (6, .int r71), (4, .int x34), (3, .int r18), (2, .int x16), (0, .ref (ad 55)), (1, .int a1)]) hx hb dX12_meanWith_57 hl (by decide) rfl (fun ls hl => ?_)
  refine lv_aload_n hx hb dX12_meanWith_59 rfl (lv_at hl 5 rfl) ?_
  have I143 : jI101 σ126 := jI101_fr ((f129 4 (by decide)).trans (f108 4 (by decide))) ((f129 5 (by decide)).trans (f108 5 (by decide))) ((f128 56 (by decide)).trans (f107 56 (by decide))) ((f128 57 (by decide)).trans (f107 57 (by decide))) ((f128 58 (by decide)).trans (f107 58 (by decide))) ((f128 59 (by decide)).trans (f107 59 (by decide))) I24
  have I144 : jI102 σ126 := jI102_fr ((f129 6 (by decide)).trans (f108 6 (by decide))) ((f128 60 (by decide)).trans (f107 60 (by decide))) ((f128 61 (by decide)).trans (f107 61 (by decide))) I25
  have I145 : jI103 σ126 := jI103_fr ((f129 9 (by decide)).trans (f108 9 (by decide))) I26
  have I146 : jI104 σ126 := jI104_fr ((f129 10 (by decide)).trans ((f108 10 (by decide)).trans (f20 10 (by decide)))) ((f129 12 (by decide)).trans ((f108 12 (by decide)).trans (f20 12 (by decide)))) ((f129 13 (by decide)).trans ((f108 13 (by decide)).trans (f20 13 (by decide)))) ((f128 62 (by decide)).trans ((f107 62 (by decide)).trans (f19 62 (by decide)))) ((f128 67 (by decide)).trans ((f107 67 (by decide)).trans (f19 67 (by decide)))) hI104
  have I147 : jI105 σ126 := jI105_fr ((f129 15 (by decide)).trans ((f108 15 (by decide)).trans (f20 15 (by decide)))) ((f128 65 (by decide)).trans ((f107 65 (by decide)).trans (f19 65 (by decide)))) hI105
  have I148 : jI106 σ126 := jI106_fr ((f129 32 (by decide)).trans ((f108 32 (by decide)).trans (f20 32 (by decide)))) ((f128 70 (by decide)).trans ((f107 70 (by decide)).trans (f19 70 (by decide)))) ((f128 71 (by decide)).trans ((f107 71 (by decide)).trans (f19 71 (by decide)))) ((f128 72 (by decide)).trans ((f107 72 (by decide)).trans (f19 72 (by decide)))) hI106
  have z149 : (σ126 55 10).toInt = (σ 55 10).toInt := (congrArg Int32.toInt (show σ126 55 10 = (σ 55 10) from ((f129 10 (by decide)).trans ((f108 10 (by decide)).trans (f20 10 (by decide))))))
  have z150 : (σ126 55 12).toInt = (σ 55 12).toInt := (congrArg Int32.toInt (show σ126 55 12 = (σ 55 12) from ((f129 12 (by decide)).trans ((f108 12 (by decide)).trans (f20 12 (by decide))))))
  have I151 : jI120 σ126 := ⟨(by omega), (by omega), (by omega), (by omega), (by omega), w130⟩
  have p152 : jKept σ126 := jKept.fr (f128 75 (by decide)) (f128 76 (by decide)) (f128 77 (by decide)) p97
  refine jcallV (As := []) (rest := []) ⟨hx, hb, hml, hown, hts⟩ hK hP hA hS hZ (h_bf σ126 τ I143 I144 I145 I146 I147 I148 I151 p152 (by omega)) cw_RX12_280 (jc_55 cI cL ad σ126 τ) rfl ⟨by dsimp only; omega, by dsimp only; omega⟩ rfl rfl rfl hl.1 rfl (Nat.le_of_ble_eq_true rfl) dX12_meanWith_60 ⟨Nat.zero_le _, Nat.zero_le _⟩ (fun r154 σ153 τ153 H locs h153 hP hS => ?_)
  obtain ⟨rfl, f155, f156, p157, h153⟩ := h153
  obtain ⟨k158, h153⟩ := h153
  have h159 := h153
  obtain ⟨q161, k160⟩ := h159
  refine lv_istore (lv' := [(7, .int r154), (5, .int r127), (6, .int r71), (4, .int x34), (3, .int r18), (2, .int x16), (0, .ref (ad 55)), (1, .int a1)]) hx hb dX12_meanWith_63 hl (by decide) rfl (fun ls hl => ?_)
  refine lv_aload_n hx hb dX12_meanWith_65 rfl (lv_at hl 6 rfl) ?_
  refine lv_iload_n hx hb dX12_meanWith_66 rfl (lv_at hl 7 rfl) ?_
  refine lv_iconst (v := 0) hx hb dX12_meanWith_67 (by decide) ?_
  refine lv_iload hx hb dX12_meanWith_68 (lv_at hl 1 rfl) ?_
  have w162 : ∀ k : Nat, k < 4 → 0 ≤ (σ153 68 k).toInt ∧ (σ153 68 k).toInt ≤ 3 := (jrr_fr (f155 68 (by decide)) w130)
  have z163 : (σ153 55 25).toInt = (σ126 55 25).toInt := (congrArg Int32.toInt (show σ153 55 25 = (σ126 55 25) from (f156 25 (by decide))))
  have z164 : (σ153 55 26).toInt = (σ126 55 26).toInt := (congrArg Int32.toInt (show σ153 55 26 = (σ126 55 26) from (f156 26 (by decide))))
  have z165 : (σ153 55 6).toInt = (σ 55 6).toInt := (congrArg Int32.toInt (show σ153 55 6 = (σ 55 6) from ((f156 6 (by decide)).trans ((f129 6 (by decide)).trans ((f108 6 (by decide)).trans (f20 6 (by decide)))))))
  have w166 : ∀ k : Nat, k < 4 → 0 ≤ (σ86 68 k).toInt ∧ (σ86 68 k).toInt ≤ 3 := w117
  have z168 : (σ86 55 27).toInt = (σ 55 27).toInt := (congrArg Int32.toInt (show σ86 55 27 = (σ 55 27) from ((f108 27 (by decide)).trans (f20 27 (by decide)))))
  have k167 := jwas (by omega) (w166 0 (by decide)) (w166 1 (by decide)) (w166 2 (by decide)) (w166 3 (by decide)) k137
  rw [← (show σ153 55 6 = σ86 55 6 from ((f156 6 (by decide)).trans (f129 6 (by decide))))] at k167
  refine jcallVv (As := [.int a1, .int 0, .int r127]) (rest := []) ⟨hx, hb, hml, hown, hts⟩ hK hP hA hS hZ (c_X12_goesBack_0 l D cI cL ad zz hJ σ153 τ a1 (A1) t1 r127 (r127.toInt) rfl w162 (by omega) (by omega) (by omega) k167) cw_RX12_300 (jc_55 cI cL ad σ153 τ) rfl ⟨by dsimp only; omega, by dsimp only; omega⟩ rfl rfl rfl hl.1 rfl (Nat.le_of_ble_eq_true rfl) dX12_meanWith_70 ⟨Nat.zero_le _, Nat.zero_le _⟩ (fun σ169 τ169 H locs h169 hP hS => ?_)
  obtain ⟨rfl, f171, f172, w173, w174, w175, h169⟩ := h169
  obtain ⟨k176, k177, k178, k179, h169⟩ := h169
  have p180 : jKept σ169 := jKept.fr (f171 75 (by decide)) (f171 76 (by decide)) (f171 77 (by decide)) p157
  have e181 : σ153 69 = σ126 69 := (f155 69 (by decide))
  have e182 : σ169 69 = σ86 69 := jback69 w131 e181 w174
  have e183 : σ153 68 = σ126 68 := (f155 68 (by decide))
  have e184 : σ153 55 6 = σ86 55 6 := ((f156 6 (by decide)).trans (f129 6 (by decide)))
  have w192 : ∀ k : Nat, k < 4 → 0 ≤ (σ86 68 k).toInt ∧ (σ86 68 k).toInt ≤ 3 := w117
  have w193 : ∀ k : Nat, k < 4 → 0 ≤ (σ169 68 k).toInt ∧ (σ169 68 k).toInt ≤ 3 := w173
  have k194 := k179
  rw [e184] at k194
  have D185 := jdig (w192 0 (by decide)) (w192 1 (by decide)) (w192 2 (by decide)) (w192 3 (by decide)) (w193 0 (by decide)) (w193 1 (by decide)) (w193 2 (by decide)) (w193 3 (by decide)) k137 k194
  have e186 : σ169 55 27 = σ86 55 27 := Int32.toInt_inj.mp (by have h9 := D185.1; omega)
  have z195 : (σ153 55 26).toInt = (σ126 55 26).toInt := (congrArg Int32.toInt (show σ153 55 26 = (σ126 55 26) from (f156 26 (by decide))))
  have z196 : (σ86 55 26).toInt = (σ 55 26).toInt := (congrArg Int32.toInt (show σ86 55 26 = (σ 55 26) from ((f108 26 (by decide)).trans (f20 26 (by decide)))))
  have z197 : (σ153 55 25).toInt = (σ126 55 25).toInt := (congrArg Int32.toInt (show σ153 55 25 = (σ126 55 25) from (f156 25 (by decide))))
  have z198 : (σ86 55 25).toInt = (σ 55 25).toInt := (congrArg Int32.toInt (show σ86 55 25 = (σ 55 25) from ((f108 25 (by decide)).trans (f20 25 (by decide)))))
  have e187 : σ169 55 26 = σ86 55 26 := Int32.toInt_inj.mp (by omega)
  have e188 : σ169 55 25 = σ86 55 25 := Int32.toInt_inj.mp (by omega)
  have z199 : (σ86 55 6).toInt = (σ 55 6).toInt := (congrArg Int32.toInt (show σ86 55 6 = (σ 55 6) from ((f108 6 (by decide)).trans (f20 6 (by decide)))))
  have e189 : σ169 68 = σ86 68 := jback68 (nb := (σ86 55 6).toInt) (by omega) w132 e183 (fun k hk => w175 k (by rw [e184]; exact hk)) D185.2
  have f190 : (∀ i : Nat, (i < 55 ∨ 55 < i) ∧ (i < 66 ∨ 66 < i) ∧ (i < 74 ∨ 78 < i) → σ169 i = σ86 i) := fun i hi0 => by
    by_cases h8 : i = 68
    · rw [h8]; exact e189
    by_cases h9 : i = 69
    · rw [h9]; exact e182
    have hi : ((i < 55 ∨ 55 < i) ∧ (i < 66 ∨ 66 < i) ∧ (i < 74 ∨ 78 < i)) ∧ i ≠ 68 ∧ i ≠ 69 := ⟨hi0, h8, h9⟩
    exact ((f171 i (imp_199 i hi)).trans ((f155 i (imp_200 i hi)).trans (f128 i (imp_199 i hi))))
  have f191 : ∀ i : Nat, (i < 18 ∨ 18 < i) ∧ (i < 19 ∨ 19 < i) ∧ (i < 20 ∨ 20 < i) ∧ (i < 21 ∨ 21 < i) ∧ (i < 22 ∨ 22 < i) ∧ (i < 37 ∨ 37 < i) → σ169 55 i = σ86 55 i := fun i hi0 => by
    by_cases h25 : i = 25
    · rw [h25]; exact e188
    by_cases h26 : i = 26
    · rw [h26]; exact e187
    by_cases h27 : i = 27
    · rw [h27]; exact e186
    have hi : ((i < 18 ∨ 18 < i) ∧ (i < 19 ∨ 19 < i) ∧ (i < 20 ∨ 20 < i) ∧ (i < 21 ∨ 21 < i) ∧ (i < 22 ∨ 22 < i) ∧ (i < 37 ∨ 37 < i)) ∧ i ≠ 25 ∧ i ≠ 26 ∧ i ≠ 27 := ⟨hi0, h25, h26, h27⟩
    exact ((f172 i (imp_201 i hi)).trans ((f156 i (imp_202 i hi)).trans (f129 i (imp_201 i hi))))
  clear k194 k179 k137
  refine lv_iload hx hb dX12_meanWith_73 (lv_at hl 3 rfl) ?_
  refine lv_sipush (v := 1000) hx hb dX12_meanWith_75 (by decide) ?_
  refine lv_aload_n hx hb dX12_meanWith_78 rfl (lv_at hl 6 rfl) ?_
  refine va_get (D := D) hx hb hts inlX12 hown hK hP 55 (jc_55 cI cL ad σ169 τ) rfl 13 (by decide) (hts _ kw_15_14) (fun _ h9 => h9) rfl dX12_meanWith_79 ?_
  have m200 : σ169 55 13 = (σ 55 13) := ((f191 13 (by decide)).trans ((f108 13 (by decide)).trans (f20 13 (by decide))))
  refine jtopr m200 ?_
  have g201 := jrg (rfl : (σ 55 13).toInt = (σ 55 13).toInt)
  refine lv_isub hx hb dX12_meanWith_82 ?_
  refine lv_topi (fun x202 ex202 => ?_)
  have tx202 : x202.toInt = -(σ 55 13).toInt + 1000 := (jsub ex202 jz_1000 rfl (by omega) (by omega)).trans (by omega)
  refine lv_i2l (v := x202.toInt64) hx hb dX12_meanWith_83 rfl ?_
  refine lv_iload hx hb dX12_meanWith_84 (lv_at hl 2 rfl) ?_
  refine lv_iload hx hb dX12_meanWith_86 (lv_at hl 0 rfl) ?_
  refine lv_iload_n hx hb dX12_meanWith_88 rfl (lv_at hl 4 rfl) ?_
  refine jcallS (As := [.int r71, .int r154, .int r18]) (rest := [.long x202.toInt64, .int x34]) ⟨hx, hb, hml, hown, hts⟩ hK hP hA hS hZ (c_X12_mixed_b l D cI cL ad zz hJ σ169 τ r71 (r71.toInt) rfl r154 (r154.toInt) rfl r18 (r18.toInt) rfl (by omega) (by omega) (by omega)) cw_RX12_304 ⟨by dsimp only; omega, by dsimp only; omega⟩ rfl rfl rfl hl.1 rfl (Nat.le_of_ble_eq_true rfl) dX12_meanWith_89 ⟨Nat.zero_le _, Nat.zero_le _⟩ (fun r204 σ203 τ203 H locs h203 hP hS => ?_)
  obtain ⟨⟨rfl, rfl⟩, h203⟩ := h203
  have h205 := h203
  obtain ⟨q208, k206, k207⟩ := h205
  refine lv_i2l (v := r204.toInt64) hx hb dX12_meanWith_92 rfl ?_
  refine lv_lmul hx hb dX12_meanWith_93 ?_
  refine lv_topl (fun lx209 elx209 => ?_)
  have g210 := jprod (a := 1000) (b := 11253000) (jtoL tx202) (jtoL rfl) (by omega) (by omega) (by omega) (by omega)
  have tlx209 : lx209.toInt = ((-(σ 55 13).toInt + 1000) * r204.toInt) := jlmul elx209 (jtoL tx202) (jtoL rfl) (by omega) (by omega)
  refine lv_ldc2 (v := 1000) hx hb hown (hts _ kw_34_19) dX12_meanWith_94 ?_
  refine lv_ldiv hx hb dX12_meanWith_97 (by decide) ?_
  refine lv_topl (fun lx211 elx211 => ?_)
  have tlx211 : lx211.toInt = ((((-(σ 55 13).toInt + 1000) * r204.toInt)) / 1000) := jldiv elx211 tlx209 jzl_1000 (by omega) (by omega)
  refine lv_l2i hx hb dX12_meanWith_98 rfl ?_
  refine lv_topi (fun x212 ex212 => ?_)
  have tx212 : x212.toInt = ((((-(σ 55 13).toInt + 1000) * r204.toInt)) / 1000) := jtoI ex212 tlx211 (by omega) (by omega)
  refine lv_iadd hx hb dX12_meanWith_99 ?_
  refine lv_topi (fun x213 ex213 => ?_)
  have tx213 : x213.toInt = 1000 * r29.toInt + ((((-(σ 55 13).toInt + 1000) * r204.toInt)) / 1000) := (jadd ex213 tx34 tx212 (by omega) (by omega)).trans (by omega)
  exact hret x213 σ169 τ _ _ _ _ rfl ⟨rfl, (fun i hi => ((f190 i hi).trans ((f107 i hi).trans (f19 i (imp_203 i hi))))), (fun i hi => ((f191 i hi).trans ((f108 i hi).trans (f20 i (imp_204 i hi))))), p180, ⟨trivial, (by have h9 := tx213; omega)⟩⟩ hP hS dX12_meanWith_100
set_option maxHeartbeats 4000000 in
set_option maxRecDepth 100000 in
theorem c_X12_bests_mean_z (l : Launch) (D : va_G) (cI cL : ClassId) (ad zz : Nat → Nat) (hJ : jD ad) (σ : Nat → Nat → Int32) (τ : Nat → Nat → Int64) (a1 : Int32) (A1 : Int) (t1 : a1.toInt = A1) (hI101 : jI101 σ) (hI102 : jI102 σ) (hI103 : jI103 σ) (hI104 : jI104 σ) (hI105 : jI105 σ) (hI106 : jI106 σ) (hI120 : jI120 σ) (hs_jKept : jKept σ) (hp0 : 0 ≤ A1 ∧ A1 ≤ 3) (hp1 : (σ 55 25).toInt < (σ 55 10).toInt) (hp2 : (σ 55 26).toInt < (σ 55 12).toInt) (hp3 : (σ 55 12).toInt - (σ 55 26).toInt ≤ (((0) : Nat) : Int)) : jM l yX12_meanWith cX12_meanWith 8 (some .int) ({ frames := (69 + 4 * (0)), cells := 0, slots := 0, locals := (3034 + 240 * (0)) }) D cI cL ad zz [.ref (ad 55), .int a1] σ τ (fun r σ' τ' => τ = τ' ∧ (∀ i : Nat, (i < 55 ∨ 55 < i) ∧ (i < 66 ∨ 66 < i) ∧ (i < 74 ∨ 78 < i) → σ' i = σ i) ∧ (∀ k : Nat, (k < 18 ∨ 18 < k) ∧ (k < 19 ∨ 19 < k) ∧ (k < 20 ∨ 20 < k) ∧ (k < 21 ∨ 21 < k) ∧ (k < 22 ∨ 22 < k) ∧ (k < 37 ∨ 37 < k) → σ' 55 k = σ 55 k) ∧ (jKept σ') ∧ ((True ∧ (0 ≤ r.toInt ∧ r.toInt ≤ -(1023000 * (σ 55 26).toInt) + 12276000)))) := by
  refine jM.of hJ (by decide +kernel) (nt := .int) rfl (Nat.le_of_ble_eq_true rfl) ?_
  intro p e s m args below meth c Q ls hC hret hl hP
  obtain ⟨hx, hb, hr, hml, hown, hts, hK, -, hlocks, hZ⟩ := hC
  have hown : s.vm.findClass RX12 = some m.cls := hown
  have hS : va_S (jA ad) s.heap s.heap [] := va_S.rf
  have hA : ∀ q, jA ad q → jA ad q := fun _ h => h
  have hl : lv_has ls 8 [(0, .ref (ad 55)), (1, .int a1)] := hl
  have g1 := jrg t1
  obtain ⟨i1, w2, w3⟩ : (0 ≤ (σ 55 6).toInt ∧ (σ 55 6).toInt ≤ 4) ∧ (∀ k : Nat, k < 4 → 0 ≤ (σ 60 k).toInt ∧ (σ 60 k).toInt ≤ 50) ∧ (∀ k : Nat, k < 4 → 0 ≤ (σ 61 k).toInt ∧ (σ 61 k).toInt ≤ 20) := id hI102
  obtain ⟨i4, i5, i6, w7, w8⟩ : (1 ≤ (σ 55 10).toInt ∧ (σ 55 10).toInt ≤ 8) ∧ (1 ≤ (σ 55 12).toInt ∧ (σ 55 12).toInt ≤ 12) ∧ (0 ≤ (σ 55 13).toInt ∧ (σ 55 13).toInt ≤ 999) ∧ (∀ k : Nat, k < 8 → 0 ≤ (σ 62 k).toInt ∧ (σ 62 k).toInt ≤ 3) ∧ (∀ k : Nat, k < 8 → 0 ≤ (σ 67 k).toInt ∧ (σ 67 k).toInt ≤ 3) := id hI104
  obtain ⟨i9, i10, i11, i12, i13, w14⟩ : (0 ≤ (σ 55 25).toInt) ∧ ((σ 55 25).toInt ≤ (σ 55 10).toInt) ∧ (0 ≤ (σ 55 26).toInt) ∧ ((σ 55 26).toInt ≤ (σ 55 12).toInt) ∧ ((-1) ≤ (σ 55 27).toInt ∧ (σ 55 27).toInt ≤ 3) ∧ (∀ k : Nat, k < 4 → 0 ≤ (σ 68 k).toInt ∧ (σ 68 k).toInt ≤ 3) := id hI120
  exact absurd (by omega : False) id
set_option maxHeartbeats 4000000 in
set_option maxRecDepth 100000 in
theorem c_X12_bests_bf_g (l : Launch) (D : va_G) (cI cL : ClassId) (ad zz : Nat → Nat) (hJ : jD ad) (n : Nat) (h_mean : ∀ (σ : Nat → Nat → Int32) (τ : Nat → Nat → Int64) (a1 : Int32) (A1 : Int) (t1 : a1.toInt = A1) (hI101 : jI101 σ) (hI102 : jI102 σ) (hI103 : jI103 σ) (hI104 : jI104 σ) (hI105 : jI105 σ) (hI106 : jI106 σ) (hI120 : jI120 σ) (hs_jKept : jKept σ) (hp0 : 0 ≤ A1 ∧ A1 ≤ 3) (hp1 : (σ 55 25).toInt < (σ 55 10).toInt) (hp2 : (σ 55 26).toInt < (σ 55 12).toInt) (hp3 : (σ 55 12).toInt - (σ 55 26).toInt ≤ (((n) : Nat) : Int)), jM l yX12_meanWith cX12_meanWith 8 (some .int) ({ frames := (69 + 4 * (n)), cells := 0, slots := 0, locals := (3034 + 240 * (n)) }) D cI cL ad zz [.ref (ad 55), .int a1] σ τ (fun r σ' τ' => τ = τ' ∧ (∀ i : Nat, (i < 55 ∨ 55 < i) ∧ (i < 66 ∨ 66 < i) ∧ (i < 74 ∨ 78 < i) → σ' i = σ i) ∧ (∀ k : Nat, (k < 18 ∨ 18 < k) ∧ (k < 19 ∨ 19 < k) ∧ (k < 20 ∨ 20 < k) ∧ (k < 21 ∨ 21 < k) ∧ (k < 22 ∨ 22 < k) ∧ (k < 37 ∨ 37 < k) → σ' 55 k = σ 55 k) ∧ (jKept σ') ∧ ((True ∧ (0 ≤ r.toInt ∧ r.toInt ≤ -(1023000 * (σ 55 26).toInt) + 12276000))))) (σ : Nat → Nat → Int32) (τ : Nat → Nat → Int64) (hI101 : jI101 σ) (hI102 : jI102 σ) (hI103 : jI103 σ) (hI104 : jI104 σ) (hI105 : jI105 σ) (hI106 : jI106 σ) (hI120 : jI120 σ) (hs_jKept : jKept σ) (hp0 : (σ 55 12).toInt - (σ 55 26).toInt ≤ (((n) : Nat) : Int)) : jM l yX12_bestFrom cX12_bestFrom 8 (some .int) ({ frames := (70 + 4 * (n)), cells := 0, slots := 0, locals := (3114 + 240 * (n)) }) D cI cL ad zz [.ref (ad 55)] σ τ (fun r σ' τ' => τ = τ' ∧ (∀ i : Nat, (i < 55 ∨ 55 < i) ∧ (i < 66 ∨ 66 < i) ∧ (i < 74 ∨ 78 < i) → σ' i = σ i) ∧ (∀ k : Nat, (k < 18 ∨ 18 < k) ∧ (k < 19 ∨ 19 < k) ∧ (k < 20 ∨ 20 < k) ∧ (k < 21 ∨ 21 < k) ∧ (k < 22 ∨ 22 < k) ∧ (k < 37 ∨ 37 < k) → σ' 55 k = σ 55 k) ∧ (jKept σ') ∧ ((-2) ≤ (σ' 55 37).toInt ∧ (σ' 55 37).toInt ≤ 3) ∧ ((True ∧ (0 ≤ r.toInt ∧ r.toInt ≤ -(1023000 * (σ 55 26).toInt) + 12276000)))) := by
  refine jM.of hJ (by decide +kernel) (nt := .int) rfl (Nat.le_of_ble_eq_true rfl) ?_
  intro p e s m args below meth c Q ls hC hret hl hP
  obtain ⟨hx, hb, hr, hml, hown, hts, hK, -, hlocks, hZ⟩ := hC
  have hown : s.vm.findClass RX12 = some m.cls := hown
  have hS : va_S (jA ad) s.heap s.heap [] := va_S.rf
  have hA : ∀ q, jA ad q → jA ad q := fun _ h => h
  have hl : lv_has ls 8 [(0, .ref (ad 55))] := hl
  obtain ⟨i1, w2, w3⟩ : (0 ≤ (σ 55 6).toInt ∧ (σ 55 6).toInt ≤ 4) ∧ (∀ k : Nat, k < 4 → 0 ≤ (σ 60 k).toInt ∧ (σ 60 k).toInt ≤ 50) ∧ (∀ k : Nat, k < 4 → 0 ≤ (σ 61 k).toInt ∧ (σ 61 k).toInt ≤ 20) := id hI102
  obtain ⟨i4, i5, i6, w7, w8⟩ : (1 ≤ (σ 55 10).toInt ∧ (σ 55 10).toInt ≤ 8) ∧ (1 ≤ (σ 55 12).toInt ∧ (σ 55 12).toInt ≤ 12) ∧ (0 ≤ (σ 55 13).toInt ∧ (σ 55 13).toInt ≤ 999) ∧ (∀ k : Nat, k < 8 → 0 ≤ (σ 62 k).toInt ∧ (σ 62 k).toInt ≤ 3) ∧ (∀ k : Nat, k < 8 → 0 ≤ (σ 67 k).toInt ∧ (σ 67 k).toInt ≤ 3) := id hI104
  obtain ⟨i9, i10, i11, i12, i13, w14⟩ : (0 ≤ (σ 55 25).toInt) ∧ ((σ 55 25).toInt ≤ (σ 55 10).toInt) ∧ (0 ≤ (σ 55 26).toInt) ∧ ((σ 55 26).toInt ≤ (σ 55 12).toInt) ∧ ((-1) ≤ (σ 55 27).toInt ∧ (σ 55 27).toInt ≤ 3) ∧ (∀ k : Nat, k < 4 → 0 ≤ (σ 68 k).toInt ∧ (σ 68 k).toInt ≤ 3) := id hI120
  refine lv_aload_n hx hb dX12_bestFrom_0 rfl (lv_at hl 0 rfl) ?_
  refine jcallV (As := []) (rest := []) ⟨hx, hb, hml, hown, hts⟩ hK hP hA hS hZ (c_X12_isEnded l D cI cL ad zz hJ σ τ hI102 hI104 hI120) cw_RX12_307 (jc_55 cI cL ad σ τ) rfl ⟨by dsimp only; omega, by dsimp only; omega⟩ rfl rfl rfl hl.1 rfl (Nat.le_of_ble_eq_true rfl) dX12_bestFrom_1 ⟨Nat.zero_le _, Nat.zero_le _⟩ (fun r16 σ15 τ15 H locs h15 hP hS => ?_)
  obtain ⟨⟨rfl, rfl⟩, h15⟩ := h15
  rcases h15 with h17 | h18
  · obtain ⟨q20, k19⟩ := h17
    have q20 := q20.symm
    subst q20
    refine lv_if_eq (tgt := 15) hx hb dX12_bestFrom_4 (by decide) (fun c => absurd c (by decide)) (fun _ => ?_)
    refine lv_aload_n hx hb dX12_bestFrom_7 rfl (lv_at hl 0 rfl) ?_
    refine lv_bipush (v := (-2)) hx hb dX12_bestFrom_8 (by decide) ?_
    refine jput (ty := .int) hx hb hts inlX12 tyX12 tyX12_ok nmX12 hown hK hP hJ hA hS (jc_55 cI cL ad σ τ) rfl (k := 37) (by decide) (Nat.le_of_ble_eq_true rfl) (jp_55_37 cI cL ad σ τ (-2)) (hts _ kw_33_15) (fun _ h9 => h9) rfl (by decide +kernel) rfl rfl dX12_bestFrom_10 (fun σ21 H locs eσ21 hP hS => ?_)
    refine lv_iconst (v := 0) hx hb dX12_bestFrom_13 (by decide) ?_
    have p22 : jKept σ21 := jKept.fr (jnp 75 eσ21 (by decide)) (jnp 76 eσ21 (by decide)) (jnp 77 eσ21 (by decide)) hs_jKept
    have z23 : (σ21 55 37).toInt = (-2) := ((congrArg Int32.toInt (show σ21 55 37 = (-2) from (jsp eσ21))).trans jz_m2)
    exact hret 0 σ21 τ _ _ _ _ rfl ⟨rfl, (fun i hi => (jnp i eσ21 (imp_205 i hi))), (fun i hi => (jkp i eσ21 (imp_206 i hi))), p22, (by omega), ⟨trivial, (by have h9 := jz_0; omega)⟩⟩ hP hS dX12_bestFrom_14
  · obtain ⟨q27, k24, k25, k26⟩ := h18
    have q27 := q27.symm
    subst q27
    obtain ⟨B28, k29, k30, w31⟩ := k26
    refine lv_if_eq (tgt := 15) hx hb dX12_bestFrom_4 (by decide) (fun _ => ?_) (fun c => absurd (by decide) c)
    refine lv_aload_n hx hb dX12_bestFrom_15 rfl (lv_at hl 0 rfl) ?_
    refine jcallV (As := []) (rest := []) ⟨hx, hb, hml, hown, hts⟩ hK hP hA hS hZ (c_X12_stateNumber l D cI cL ad zz hJ σ τ hI102 w14) cw_RX12_311 (jc_55 cI cL ad σ τ) rfl ⟨by dsimp only; omega, by dsimp only; omega⟩ rfl rfl rfl hl.1 rfl (Nat.le_of_ble_eq_true rfl) dX12_bestFrom_16 ⟨Nat.zero_le _, Nat.zero_le _⟩ (fun r33 σ32 τ32 H locs h32 hP hS => ?_)
    obtain ⟨⟨rfl, rfl⟩, h32⟩ := h32
    refine lv_istore_n (lv' := [(1, .int r33), (0, .ref (ad 55))]) hx hb dX12_bestFrom_19 rfl hl (by decide) rfl (fun ls hl => ?_)
    refine lv_bipush (v := 16) hx hb dX12_bestFrom_20 (by decide) ?_
    refine lv_aload_n hx hb dX12_bestFrom_22 rfl (lv_at hl 1 rfl) ?_
    refine va_get (D := D) hx hb hts inlX12 hown hK hP 55 (jc_55 cI cL ad σ τ) rfl 26 (by decide) (hts _ kw_23_5) (fun _ h9 => h9) rfl dX12_bestFrom_23 ?_
    have g34 := jrg (rfl : (σ 55 26).toInt = (σ 55 26).toInt)
    refine lv_imul hx hb dX12_bestFrom_26 ?_
    refine lv_topi (fun x35 ex35 => ?_)
    have tx35 : x35.toInt = 16 * (σ 55 26).toInt := (jmul ex35 jz_16 rfl (by omega) (by omega)).trans (by omega)
    refine lv_aload_n hx hb dX12_bestFrom_27 rfl (lv_at hl 1 rfl) ?_
    refine va_get (D := D) hx hb hts inlX12 hown hK hP 55 (jc_55 cI cL ad σ τ) rfl 25 (by decide) (hts _ kw_23_6) (fun _ h9 => h9) rfl dX12_bestFrom_28 ?_
    have g36 := jrg (rfl : (σ 55 25).toInt = (σ 55 25).toInt)
    refine lv_iadd hx hb dX12_bestFrom_31 ?_
    refine lv_topi (fun x37 ex37 => ?_)
    have tx37 : x37.toInt = 16 * (σ 55 26).toInt + (σ 55 25).toInt := (jadd ex37 tx35 rfl (by omega) (by omega)).trans (by omega)
    refine lv_istore_n (lv' := [(2, .int x37), (1, .int r33), (0, .ref (ad 55))]) hx hb dX12_bestFrom_32 rfl hl (by decide) rfl (fun ls hl => ?_)
    refine lv_aload_n hx hb dX12_bestFrom_33 rfl (lv_at hl 2 rfl) ?_
    refine lv_iload_n hx hb dX12_bestFrom_34 rfl (lv_at hl 1 rfl) ?_
    refine lv_iload_n hx hb dX12_bestFrom_35 rfl (lv_at hl 0 rfl) ?_
    refine jcallV (As := [.int r33, .int x37]) (rest := []) ⟨hx, hb, hml, hown, hts⟩ hK hP hA hS hZ (c_X12_spot l D cI cL ad zz hJ σ τ r33 (r33.toInt) rfl x37 (16 * (σ 55 26).toInt + (σ 55 25).toInt) tx37) cw_RX12_314 (jc_55 cI cL ad σ τ) rfl ⟨by dsimp only; omega, by dsimp only; omega⟩ rfl rfl rfl hl.1 rfl (Nat.le_of_ble_eq_true rfl) dX12_bestFrom_36 ⟨Nat.zero_le _, Nat.zero_le _⟩ (fun r39 σ38 τ38 H locs h38 hP hS => ?_)
    obtain ⟨⟨rfl, rfl⟩, h38⟩ := h38
    rcases h38 with h40 | h41
    · obtain ⟨q44, k42, k43⟩ := h40
      have k45 : (σ 78 r39.toNatClampNeg).toInt ≠ (σ 55 42).toInt ∨ (σ 75 r39.toNatClampNeg).toInt = 16 * (σ 55 26).toInt + (σ 55 25).toInt := k43.imp (fun q => jne q rfl rfl) (fun q => jeq q rfl tx37)
      refine lv_istore_n (lv' := [(3, .int r39), (2, .int x37), (1, .int r33), (0, .ref (ad 55))]) hx hb dX12_bestFrom_39 rfl hl (by decide) rfl (fun ls hl => ?_)
      refine lv_iload_n hx hb dX12_bestFrom_40 rfl (lv_at hl 0 rfl) ?_
      refine lv_if_lt (tgt := 74) hx hb dX12_bestFrom_41 (by decide) (fun c => absurd (jlt c rfl jz_0) (by omega)) (fun c46 => ?_)
      have kc46 := jnlt c46 rfl jz_0
      refine lv_aload_n hx hb dX12_bestFrom_44 rfl (lv_at hl 3 rfl) ?_
      refine va_get (D := D) hx hb hts inlX12 hown hK hP 55 (jc_55 cI cL ad σ τ) rfl 43 (by decide) (hts _ kw_8_3) (fun _ h9 => h9) rfl dX12_bestFrom_45 ?_
      refine lv_iload_n hx hb dX12_bestFrom_48 rfl (lv_at hl 0 rfl) ?_
      refine jald hx hb hK hP (jc_78 cI cL ad σ τ) (jin rfl (by omega) (by omega)) dX12_bestFrom_49 ?_
      refine jtopr (y := (σ 78 r39.toNatClampNeg)) rfl ?_
      refine lv_aload_n hx hb dX12_bestFrom_50 rfl (lv_at hl 3 rfl) ?_
      refine va_get (D := D) hx hb hts inlX12 hown hK hP 55 (jc_55 cI cL ad σ τ) rfl 42 (by decide) (hts _ kw_33_10) (fun _ h9 => h9) rfl dX12_bestFrom_51 ?_
      refine lv_icmp_ne (tgt := 74) hx hb dX12_bestFrom_54 (by decide) (fun c47 => ?_) (fun c47 => ?_)
      · have kc47 := jne c47 rfl rfl
        refine lv_iconst (v := (-1)) hx hb dX12_bestFrom_74 (by decide) ?_
        refine lv_istore (lv' := [(4, .int (-1)), (3, .int r39), (2, .int x37), (1, .int r33), (0, .ref (ad 55))]) hx hb dX12_bestFrom_75 hl (by decide) rfl (fun ls hl => ?_)
        refine lv_ldcw (v := 2000000000) hx hb hown (hts _ kw_34_4) dX12_bestFrom_77 ?_
        refine lv_istore (lv' := [(5, .int 2000000000), (4, .int (-1)), (3, .int r39), (2, .int x37), (1, .int r33), (0, .ref (ad 55))]) hx hb dX12_bestFrom_80 hl (by decide) rfl (fun ls hl => ?_)
        refine lv_iconst (v := 0) hx hb dX12_bestFrom_82 (by decide) ?_
        refine lv_istore (lv' := [(6, .int 0), (5, .int 2000000000), (4, .int (-1)), (3, .int r39), (2, .int x37), (1, .int r33), (0, .ref (ad 55))]) hx hb dX12_bestFrom_83 hl (by decide) rfl (fun ls hl => ?_)
        have lp48 : ∀ (n49 : Nat) (x50 : Int32) (x51 : Int32) (x52 : Int32) (σ54 : Nat → Nat → Int32) (H : Heap) (locs : List Loc) (ls : Array Slot), (-x52.toInt + 4 : Int) < n49 → (-1) ≤ x50.toInt → x50.toInt ≤ 3 → 0 ≤ x52.toInt → x52.toInt ≤ 4 → ((0 ≤ x50.toInt ∧ 0 ≤ x51.toInt ∧ x51.toInt ≤ -(1023000 * (σ54 55 26).toInt) + 12276000) ∨ (x50.toInt = (-1) ∧ x51.toInt = 2000000000 ∧ x52.toInt ≤ B28.toInt)) → (∀ i : Nat, (i < 55 ∨ 55 < i) ∧ (i < 66 ∨ 66 < i) ∧ (i < 74 ∨ 78 < i) → σ54 i = σ i) → (∀ k : Nat, (k < 18 ∨ 18 < k) ∧ (k < 19 ∨ 19 < k) ∧ (k < 20 ∨ 20 < k) ∧ (k < 21 ∨ 21 < k) ∧ (k < 22 ∨ 22 < k) ∧ (k < 37 ∨ 37 < k) → σ54 55 k = σ 55 k) → jKept σ54 → jH D cI cL ad σ54 τ H → va_S (jA ad) s.heap H locs → lv_has ls 8 [(6, .int x52), (5, .int x51), (4, .int x50), (3, .int r39), (2, .int x37), (1, .int r33), (0, .ref (ad 55))] → W p l e ({ frames := (70 + 4 * (n)), cells := 0, slots := 0, locals := (3114 + 240 * (n)) }) s m args below meth c H locs 0 0 Q (F0 m 85 ls []) := by
          intro n49
          induction n49 with
          | zero => intro x50 x51 x52 σ54 H locs ls h55 h56 h57 h58 h59 h60; have gx51 := jrg (rfl : x51.toInt = x51.toInt); exact absurd h55 (by omega)
          | succ n49 ihlp48 =>
            intro x50 x51 x52 σ54 H locs ls h55 h56 h57 h58 h59 h60 f61 f62 p63 hP hS hl
            have gx51 := jrg (rfl : x51.toInt = x51.toInt)
            have z64 : (σ54 55 26).toInt = (σ 55 26).toInt := (congrArg Int32.toInt (show σ54 55 26 = (σ 55 26) from (f62 26 (by decide))))
            refine lv_iload hx hb dX12_bestFrom_85 (lv_at hl 0 rfl) ?_
            refine lv_aload_n hx hb dX12_bestFrom_87 rfl (lv_at hl 6 rfl) ?_
            refine va_get (D := D) hx hb hts inlX12 hown hK hP 55 (jc_55 cI cL ad σ54 τ) rfl 6 (by decide) (hts _ kw_9_13) (fun _ h9 => h9) rfl dX12_bestFrom_88 ?_
            have m65 : σ54 55 6 = (σ 55 6) := (f62 6 (by decide))
            refine jtopr m65 ?_
            refine lv_icmp_ge (tgt := 135) hx hb dX12_bestFrom_91 (by decide) (fun c66 => ?_) (fun c66 => ?_)
            · have kc66 := jle c66 rfl rfl
              refine lv_aload_n hx hb dX12_bestFrom_135 rfl (lv_at hl 6 rfl) ?_
              refine lv_iload_n hx hb dX12_bestFrom_136 rfl (lv_at hl 5 rfl) ?_
              refine lv_iload_n hx hb dX12_bestFrom_137 rfl (lv_at hl 4 rfl) ?_
              refine jcallV (As := [.int r33, .int x37]) (rest := []) ⟨hx, hb, hml, hown, hts⟩ hK hP hA hS hZ (c_X12_spot l D cI cL ad zz hJ σ54 τ r33 (r33.toInt) rfl x37 (16 * (σ 55 26).toInt + (σ 55 25).toInt) tx37) cw_RX12_314 (jc_55 cI cL ad σ54 τ) rfl ⟨by dsimp only; omega, by dsimp only; omega⟩ rfl rfl rfl hl.1 rfl (Nat.le_of_ble_eq_true rfl) dX12_bestFrom_138 ⟨Nat.zero_le _, Nat.zero_le _⟩ (fun r68 σ67 τ67 H locs h67 hP hS => ?_)
              obtain ⟨⟨rfl, rfl⟩, h67⟩ := h67
              rcases h67 with h69 | h70
              · obtain ⟨q73, k71, k72⟩ := h69
                have z75 : (σ54 55 42).toInt = (σ 55 42).toInt := (congrArg Int32.toInt (show σ54 55 42 = (σ 55 42) from (f62 42 (by decide))))
                have k74 : (σ54 78 r68.toNatClampNeg).toInt ≠ (σ54 55 42).toInt ∨ (σ54 75 r68.toNatClampNeg).toInt = 16 * (σ 55 26).toInt + (σ 55 25).toInt := k72.imp (fun q => jne q rfl rfl) (fun q => jeq q rfl tx37)
                refine lv_istore_n (lv' := [(3, .int r68), (6, .int x52), (5, .int x51), (4, .int x50), (2, .int x37), (1, .int r33), (0, .ref (ad 55))]) hx hb dX12_bestFrom_141 rfl hl (by decide) rfl (fun ls hl => ?_)
                refine lv_iload_n hx hb dX12_bestFrom_142 rfl (lv_at hl 0 rfl) ?_
                refine lv_if_lt (tgt := 186) hx hb dX12_bestFrom_143 (by decide) (fun c => absurd (jlt c rfl jz_0) (by omega)) (fun c76 => ?_)
                have kc76 := jnlt c76 rfl jz_0
                refine lv_aload_n hx hb dX12_bestFrom_146 rfl (lv_at hl 6 rfl) ?_
                refine va_get (D := D) hx hb hts inlX12 hown hK hP 55 (jc_55 cI cL ad σ54 τ) rfl 43 (by decide) (hts _ kw_8_3) (fun _ h9 => h9) rfl dX12_bestFrom_147 ?_
                refine lv_iload_n hx hb dX12_bestFrom_150 rfl (lv_at hl 0 rfl) ?_
                refine lv_aload_n hx hb dX12_bestFrom_151 rfl (lv_at hl 6 rfl) ?_
                refine va_get (D := D) hx hb hts inlX12 hown hK hP 55 (jc_55 cI cL ad σ54 τ) rfl 42 (by decide) (hts _ kw_33_10) (fun _ h9 => h9) rfl dX12_bestFrom_152 ?_
                have m77 : σ54 55 42 = (σ 55 42) := (f62 42 (by decide))
                refine jtopr m77 ?_
                refine jast hx hb hK hP hJ hA hS (jc_78 cI cL ad σ54 τ) (ja_78 cI cL ad σ54 τ _ _) (jin rfl (by omega) (by omega)) dX12_bestFrom_155 (fun σ78 H locs eσ78 hP hS => ?_)
                refine lv_aload_n hx hb dX12_bestFrom_156 rfl (lv_at hl 6 rfl) ?_
                refine va_get (D := D) hx hb hts inlX12 hown hK hP 55 (jc_55 cI cL ad σ78 τ) rfl 38 (by decide) (hts _ kw_7_23) (fun _ h9 => h9) rfl dX12_bestFrom_157 ?_
                refine lv_iload_n hx hb dX12_bestFrom_160 rfl (lv_at hl 0 rfl) ?_
                refine lv_iload_n hx hb dX12_bestFrom_161 rfl (lv_at hl 5 rfl) ?_
                refine jast hx hb hK hP hJ hA hS (jc_74 cI cL ad σ78 τ) (ja_74 cI cL ad σ78 τ _ _) (jin rfl (by omega) (by omega)) dX12_bestFrom_162 (fun σ79 H locs eσ79 hP hS => ?_)
                refine lv_aload_n hx hb dX12_bestFrom_163 rfl (lv_at hl 6 rfl) ?_
                refine va_get (D := D) hx hb hts inlX12 hown hK hP 55 (jc_55 cI cL ad σ79 τ) rfl 39 (by decide) (hts _ kw_8_0) (fun _ h9 => h9) rfl dX12_bestFrom_164 ?_
                refine lv_iload_n hx hb dX12_bestFrom_167 rfl (lv_at hl 0 rfl) ?_
                refine lv_iload_n hx hb dX12_bestFrom_168 rfl (lv_at hl 4 rfl) ?_
                refine jast hx hb hK hP hJ hA hS (jc_75 cI cL ad σ79 τ) (ja_75 cI cL ad σ79 τ _ _) (jin rfl (by omega) (by omega)) dX12_bestFrom_169 (fun σ80 H locs eσ80 hP hS => ?_)
                refine lv_aload_n hx hb dX12_bestFrom_170 rfl (lv_at hl 6 rfl) ?_
                refine va_get (D := D) hx hb hts inlX12 hown hK hP 55 (jc_55 cI cL ad σ80 τ) rfl 40 (by decide) (hts _ kw_8_1) (fun _ h9 => h9) rfl dX12_bestFrom_171 ?_
                refine lv_iload_n hx hb dX12_bestFrom_174 rfl (lv_at hl 0 rfl) ?_
                refine lv_iload hx hb dX12_bestFrom_175 (lv_at hl 2 rfl) ?_
                refine jast hx hb hK hP hJ hA hS (jc_76 cI cL ad σ80 τ) (ja_76 cI cL ad σ80 τ _ _) (jin rfl (by omega) (by omega)) dX12_bestFrom_177 (fun σ81 H locs eσ81 hP hS => ?_)
                refine lv_aload_n hx hb dX12_bestFrom_178 rfl (lv_at hl 6 rfl) ?_
                refine va_get (D := D) hx hb hts inlX12 hown hK hP 55 (jc_55 cI cL ad σ81 τ) rfl 41 (by decide) (hts _ kw_8_2) (fun _ h9 => h9) rfl dX12_bestFrom_179 ?_
                refine lv_iload_n hx hb dX12_bestFrom_182 rfl (lv_at hl 0 rfl) ?_
                refine lv_iload hx hb dX12_bestFrom_183 (lv_at hl 3 rfl) ?_
                refine jast hx hb hK hP hJ hA hS (jc_77 cI cL ad σ81 τ) (ja_77 cI cL ad σ81 τ _ _) (jin rfl (by omega) (by omega)) dX12_bestFrom_185 (fun σ82 H locs eσ82 hP hS => ?_)
                have e83 : σ82 75 = jupd (σ54 75) r68.toNatClampNeg x37 := by rw [eσ82, jup_n (by decide), eσ81, jup_n (by decide), eσ80, jup_row, eσ79, jup_n (by decide), eσ78, jup_n (by decide)]
                have e84 : σ82 76 = jupd (σ54 76) r68.toNatClampNeg x51 := by rw [eσ82, jup_n (by decide), eσ81, jup_row, eσ80, jup_n (by decide), eσ79, jup_n (by decide), eσ78, jup_n (by decide)]
                have e85 : σ82 77 = jupd (σ54 77) r68.toNatClampNeg x50 := by rw [eσ82, jup_row, eσ81, jup_n (by decide), eσ80, jup_n (by decide), eσ79, jup_n (by decide), eσ78, jup_n (by decide)]
                have z86 : (σ82 55 26).toInt = (σ 55 26).toInt := (congrArg Int32.toInt (show σ82 55 26 = (σ 55 26) from ((congrFun (jnp 55 eσ82 (by decide)) 26).trans ((congrFun (jnp 55 eσ81 (by decide)) 26).trans ((congrFun (jnp 55 eσ80 (by decide)) 26).trans ((congrFun (jnp 55 eσ79 (by decide)) 26).trans ((congrFun (jnp 55 eσ78 (by decide)) 26).trans (f62 26 (by decide)))))))))
                have p87 : jKept σ82 := p63.on e83 e84 e85 (by have h91 := tx37; omega) (by have h91 := tx37; omega) (by have h91 := tx37; omega) (by have h91 := tx37; omega)
                refine lv_aload_n hx hb dX12_bestFrom_186 rfl (lv_at hl 6 rfl) ?_
                refine lv_iload hx hb dX12_bestFrom_187 (lv_at hl 3 rfl) ?_
                refine jput (ty := .int) hx hb hts inlX12 tyX12 tyX12_ok nmX12 hown hK hP hJ hA hS (jc_55 cI cL ad σ82 τ) rfl (k := 37) (by decide) (Nat.le_of_ble_eq_true rfl) (jp_55_37 cI cL ad σ82 τ x50) (hts _ kw_33_15) (fun _ h9 => h9) rfl (by decide +kernel) rfl rfl dX12_bestFrom_189 (fun σ88 H locs eσ88 hP hS => ?_)
                refine lv_iload hx hb dX12_bestFrom_192 (lv_at hl 2 rfl) ?_
                have p89 : jKept σ88 := jKept.fr (jnp 75 eσ88 (by decide)) (jnp 76 eσ88 (by decide)) (jnp 77 eσ88 (by decide)) p87
                have z90 : (σ88 55 37).toInt = x50.toInt := (congrArg Int32.toInt (show σ88 55 37 = x50 from (jsp eσ88)))
                exact hret x51 σ88 τ _ _ _ _ rfl ⟨rfl, (fun i hi => ((jnp i eσ88 (imp_205 i hi)).trans ((jnp i eσ82 (imp_207 i hi)).trans ((jnp i eσ81 (imp_208 i hi)).trans ((jnp i eσ80 (imp_209 i hi)).trans ((jnp i eσ79 (imp_210 i hi)).trans ((jnp i eσ78 (imp_211 i hi)).trans (f61 i hi)))))))), (fun i hi => ((jkp i eσ88 (imp_206 i hi)).trans ((congrFun (jnp 55 eσ82 (by decide)) i).trans ((congrFun (jnp 55 eσ81 (by decide)) i).trans ((congrFun (jnp 55 eσ80 (by decide)) i).trans ((congrFun (jnp 55 eσ79 (by decide)) i).trans ((congrFun (jnp 55 eσ78 (by decide)) i).trans (f62 i hi)))))))), p89, (by omega), ⟨trivial, (by omega)⟩⟩ hP hS dX12_bestFrom_194
              · obtain ⟨q92, k91⟩ := h70
                have q92 := q92.symm
                subst q92
                refine lv_istore_n (lv' := [(3, .int (-1)), (6, .int x52), (5, .int x51), (4, .int x50), (2, .int x37), (1, .int r33), (0, .ref (ad 55))]) hx hb dX12_bestFrom_141 rfl hl (by decide) rfl (fun ls hl => ?_)
                refine lv_iload_n hx hb dX12_bestFrom_142 rfl (lv_at hl 0 rfl) ?_
                refine lv_if_lt (tgt := 186) hx hb dX12_bestFrom_143 (by decide) (fun _ => ?_) (fun c => absurd (by decide) c)
                refine lv_aload_n hx hb dX12_bestFrom_186 rfl (lv_at hl 6 rfl) ?_
                refine lv_iload hx hb dX12_bestFrom_187 (lv_at hl 3 rfl) ?_
                refine jput (ty := .int) hx hb hts inlX12 tyX12 tyX12_ok nmX12 hown hK hP hJ hA hS (jc_55 cI cL ad σ54 τ) rfl (k := 37) (by decide) (Nat.le_of_ble_eq_true rfl) (jp_55_37 cI cL ad σ54 τ x50) (hts _ kw_33_15) (fun _ h9 => h9) rfl (by decide +kernel) rfl rfl dX12_bestFrom_189 (fun σ93 H locs eσ93 hP hS => ?_)
                refine lv_iload hx hb dX12_bestFrom_192 (lv_at hl 2 rfl) ?_
                have p94 : jKept σ93 := jKept.fr (jnp 75 eσ93 (by decide)) (jnp 76 eσ93 (by decide)) (jnp 77 eσ93 (by decide)) p63
                have z95 : (σ93 55 37).toInt = x50.toInt := (congrArg Int32.toInt (show σ93 55 37 = x50 from (jsp eσ93)))
                exact hret x51 σ93 τ _ _ _ _ rfl ⟨rfl, (fun i hi => ((jnp i eσ93 (imp_205 i hi)).trans (f61 i hi))), (fun i hi => ((jkp i eσ93 (imp_206 i hi)).trans (f62 i hi))), p94, (by omega), ⟨trivial, (by omega)⟩⟩ hP hS dX12_bestFrom_194
            · have kc66 := jnle c66 rfl rfl
              refine lv_aload_n hx hb dX12_bestFrom_94 rfl (lv_at hl 6 rfl) ?_
              refine lv_iload hx hb dX12_bestFrom_95 (lv_at hl 0 rfl) ?_
              refine jcallV (As := [.int x52]) (rest := []) ⟨hx, hb, hml, hown, hts⟩ hK hP hA hS hZ (c_X12_mayBowl l D cI cL ad zz hJ σ54 τ x52 (x52.toInt) rfl (by omega)) cw_RX12_249 (jc_55 cI cL ad σ54 τ) rfl ⟨by dsimp only; omega, by dsimp only; omega⟩ rfl rfl rfl hl.1 rfl (Nat.le_of_ble_eq_true rfl) dX12_bestFrom_97 ⟨Nat.zero_le _, Nat.zero_le _⟩ (fun r97 σ96 τ96 H locs h96 hP hS => ?_)
              obtain ⟨⟨rfl, rfl⟩, h96⟩ := h96
              rcases h96 with h98 | h99
              · obtain ⟨q101, k100⟩ := h98
                have q101 := q101.symm
                subst q101
                refine lv_if_ne (tgt := 106) hx hb dX12_bestFrom_100 (by decide) (fun _ => ?_) (fun c => absurd c (by decide))
                refine lv_aload_n hx hb dX12_bestFrom_106 rfl (lv_at hl 6 rfl) ?_
                refine lv_iload hx hb dX12_bestFrom_107 (lv_at hl 0 rfl) ?_
                have I102 : jI101 σ54 := jI101_fr (f62 4 (by decide)) (f62 5 (by decide)) (f61 56 (by decide)) (f61 57 (by decide)) (f61 58 (by decide)) (f61 59 (by decide)) hI101
                have I103 : jI102 σ54 := jI102_fr (f62 6 (by decide)) (f61 60 (by decide)) (f61 61 (by decide)) hI102
                have I104 : jI103 σ54 := jI103_fr (f62 9 (by decide)) hI103
                have I105 : jI104 σ54 := jI104_fr (f62 10 (by decide)) (f62 12 (by decide)) (f62 13 (by decide)) (f61 62 (by decide)) (f61 67 (by decide)) hI104
                have I106 : jI105 σ54 := jI105_fr (f62 15 (by decide)) (f61 65 (by decide)) hI105
                have I107 : jI106 σ54 := jI106_fr (f62 32 (by decide)) (f61 70 (by decide)) (f61 71 (by decide)) (f61 72 (by decide)) hI106
                have I108 : jI120 σ54 := jI120_fr (f62 10 (by decide)) (f62 12 (by decide)) (f62 25 (by decide)) (f62 26 (by decide)) (f62 27 (by decide)) (f61 68 (by decide)) hI120
                have z109 : (σ54 55 25).toInt = (σ 55 25).toInt := (congrArg Int32.toInt (show σ54 55 25 = (σ 55 25) from (f62 25 (by decide))))
                have z110 : (σ54 55 10).toInt = (σ 55 10).toInt := (congrArg Int32.toInt (show σ54 55 10 = (σ 55 10) from (f62 10 (by decide))))
                have z111 : (σ54 55 12).toInt = (σ 55 12).toInt := (congrArg Int32.toInt (show σ54 55 12 = (σ 55 12) from (f62 12 (by decide))))
                refine jcallV (As := [.int x52]) (rest := []) ⟨hx, hb, hml, hown, hts⟩ hK hP hA hS hZ (h_mean σ54 τ x52 (x52.toInt) rfl I102 I103 I104 I105 I106 I107 I108 p63 (by omega) (by omega) (by omega) (by omega)) cw_RX12_318 (jc_55 cI cL ad σ54 τ) rfl ⟨by dsimp only; omega, by dsimp only; omega⟩ rfl rfl rfl hl.1 rfl (Nat.le_of_ble_eq_true rfl) dX12_bestFrom_109 ⟨Nat.zero_le _, Nat.zero_le _⟩ (fun r113 σ112 τ112 H locs h112 hP hS => ?_)
                obtain ⟨rfl, f114, f115, p116, h112⟩ := h112
                have h117 := h112
                obtain ⟨q119, k118⟩ := h117
                refine lv_istore (lv' := [(7, .int r113), (6, .int x52), (5, .int x51), (4, .int x50), (3, .int r39), (2, .int x37), (1, .int r33), (0, .ref (ad 55))]) hx hb dX12_bestFrom_112 hl (by decide) rfl (fun ls hl => ?_)
                refine lv_iload hx hb dX12_bestFrom_114 (lv_at hl 0 rfl) ?_
                refine lv_iload hx hb dX12_bestFrom_116 (lv_at hl 2 rfl) ?_
                refine lv_icmp_ge (tgt := 129) hx hb dX12_bestFrom_118 (by decide) (fun c120 => ?_) (fun c120 => ?_)
                · have kc120 := jle c120 rfl rfl
                  obtain ⟨x121, ex121⟩ : ∃ y : Int32, y = x52 + 1 := ⟨_, rfl⟩
                  have tx121 : x121.toInt = x52.toInt + 1 := (jadd ex121 rfl jz_1 (by omega) (by omega)).trans (by omega)
                  refine lv_iinc (v := x121) (lv' := [(6, .int x121), (7, .int r113), (5, .int x51), (4, .int x50), (3, .int r39), (2, .int x37), (1, .int r33), (0, .ref (ad 55))]) hx hb dX12_bestFrom_129 hl (k := 1) rfl (by rw [ex121]; rfl) (by decide) rfl (fun ls hl => ?_)
                  refine lv_goto (tgt := 85) hx hb dX12_bestFrom_132 (by decide) ?_
                  have z122 : (σ112 55 26).toInt = (σ 55 26).toInt := (congrArg Int32.toInt (show σ112 55 26 = (σ 55 26) from ((f115 26 (by decide)).trans (f62 26 (by decide)))))
                  exact ihlp48 x50 x51 x121 σ112 _ _ ls (by have h92 := tx121; omega) (by have h92 := tx121; omega) (by have h92 := tx121; omega) (by have h92 := tx121; omega) (by have h92 := tx121; omega) (by have h92 := tx121; omega) (fun i hi => ((f114 i hi).trans (f61 i hi))) (fun i hi => ((f115 i hi).trans (f62 i hi)))  p116 hP hS (lv_sub hl [0, 2, 3, 4, 5, 6, 7] rfl)
                · have kc120 := jnle c120 rfl rfl
                  refine lv_iload hx hb dX12_bestFrom_121 (lv_at hl 0 rfl) ?_
                  refine lv_istore (lv' := [(5, .int r113), (7, .int r113), (6, .int x52), (4, .int x50), (3, .int r39), (2, .int x37), (1, .int r33), (0, .ref (ad 55))]) hx hb dX12_bestFrom_123 hl (by decide) rfl (fun ls hl => ?_)
                  refine lv_iload hx hb dX12_bestFrom_125 (lv_at hl 2 rfl) ?_
                  refine lv_istore (lv' := [(4, .int x52), (5, .int r113), (7, .int r113), (6, .int x52), (3, .int r39), (2, .int x37), (1, .int r33), (0, .ref (ad 55))]) hx hb dX12_bestFrom_127 hl (by decide) rfl (fun ls hl => ?_)
                  obtain ⟨x123, ex123⟩ : ∃ y : Int32, y = x52 + 1 := ⟨_, rfl⟩
                  have tx123 : x123.toInt = x52.toInt + 1 := (jadd ex123 rfl jz_1 (by omega) (by omega)).trans (by omega)
                  refine lv_iinc (v := x123) (lv' := [(6, .int x123), (4, .int x52), (5, .int r113), (7, .int r113), (3, .int r39), (2, .int x37), (1, .int r33), (0, .ref (ad 55))]) hx hb dX12_bestFrom_129 hl (k := 3) rfl (by rw [ex123]; rfl) (by decide) rfl (fun ls hl => ?_)
                  refine lv_goto (tgt := 85) hx hb dX12_bestFrom_132 (by decide) ?_
                  have z124 : (σ112 55 26).toInt = (σ 55 26).toInt := (congrArg Int32.toInt (show σ112 55 26 = (σ 55 26) from ((f115 26 (by decide)).trans (f62 26 (by decide)))))
                  exact ihlp48 x52 r113 x123 σ112 _ _ ls (by have h92 := tx123; omega) (by have h92 := tx123; omega) (by have h92 := tx123; omega) (by have h92 := tx123; omega) (by have h92 := tx123; omega) (by have h92 := tx123; omega) (fun i hi => ((f114 i hi).trans (f61 i hi))) (fun i hi => ((f115 i hi).trans (f62 i hi)))  p116 hP hS (lv_sub hl [0, 2, 1, 4, 5, 6, 7] rfl)
              · obtain ⟨q126, k125⟩ := h99
                have q126 := q126.symm
                subst q126
                have e127 : jmb σ54 x52 = jmb σ x52 := (jmb_fr (f62 27 (by decide)) (f62 30 (by decide)) (f62 31 (by decide)) (f61 56 (by decide)) (f61 69 (by decide)) x52)
                have n128 : ¬ x52 = B28 := fun h => absurd ((w31).symm.trans (by rw [← h]; exact e127.symm.trans k125) : (1 : Int32) = 0) (by decide)
                have k129 := jne n128 rfl rfl
                refine lv_if_ne (tgt := 106) hx hb dX12_bestFrom_100 (by decide) (fun c => absurd (by decide) c) (fun _ => ?_)
                refine lv_goto (tgt := 129) hx hb dX12_bestFrom_103 (by decide) ?_
                obtain ⟨x130, ex130⟩ : ∃ y : Int32, y = x52 + 1 := ⟨_, rfl⟩
                have tx130 : x130.toInt = x52.toInt + 1 := (jadd ex130 rfl jz_1 (by omega) (by omega)).trans (by omega)
                refine lv_iinc (v := x130) (lv' := [(6, .int x130), (5, .int x51), (4, .int x50), (3, .int r39), (2, .int x37), (1, .int r33), (0, .ref (ad 55))]) hx hb dX12_bestFrom_129 hl (k := 0) rfl (by rw [ex130]; rfl) (by decide) rfl (fun ls hl => ?_)
                refine lv_goto (tgt := 85) hx hb dX12_bestFrom_132 (by decide) ?_
                exact ihlp48 x50 x51 x130 σ54 _ _ ls (by have h92 := tx130; omega) (by have h92 := tx130; omega) (by have h92 := tx130; omega) (by have h92 := tx130; omega) (by have h92 := tx130; omega) (by have h92 := tx130; omega) (fun i hi => (f61 i hi)) (fun i hi => (f62 i hi))  p63 hP hS (lv_sub hl [0, 1, 2, 3, 4, 5, 6] rfl)
        exact lp48 1000000 (-1) 2000000000 0 σ _ _ ls (by have h90 := jz_m1; have h91 := jz_2000000000; have h92 := jz_0; omega) (by have h90 := jz_m1; have h91 := jz_2000000000; have h92 := jz_0; omega) (by have h90 := jz_m1; have h91 := jz_2000000000; have h92 := jz_0; omega) (by have h90 := jz_m1; have h91 := jz_2000000000; have h92 := jz_0; omega) (by have h90 := jz_m1; have h91 := jz_2000000000; have h92 := jz_0; omega) (by have h90 := jz_m1; have h91 := jz_2000000000; have h92 := jz_0; omega) (fun _ _ => rfl) (fun _ _ => rfl)  hs_jKept hP hS hl
      · have kc47 := jeq c47 rfl rfl
        have g131 := hs_jKept r39.toNatClampNeg (jnat (x := r39) rfl (n := 65536) (by omega) (by decide))
        refine lv_aload_n hx hb dX12_bestFrom_57 rfl (lv_at hl 3 rfl) ?_
        refine lv_aload_n hx hb dX12_bestFrom_58 rfl (lv_at hl 3 rfl) ?_
        refine va_get (D := D) hx hb hts inlX12 hown hK hP 55 (jc_55 cI cL ad σ τ) rfl 41 (by decide) (hts _ kw_8_2) (fun _ h9 => h9) rfl dX12_bestFrom_59 ?_
        refine lv_iload_n hx hb dX12_bestFrom_62 rfl (lv_at hl 0 rfl) ?_
        refine jald hx hb hK hP (jc_77 cI cL ad σ τ) (jin rfl (by omega) (by omega)) dX12_bestFrom_63 ?_
        refine jtopr (y := (σ 77 r39.toNatClampNeg)) rfl ?_
        refine jput (ty := .int) hx hb hts inlX12 tyX12 tyX12_ok nmX12 hown hK hP hJ hA hS (jc_55 cI cL ad σ τ) rfl (k := 37) (by decide) (Nat.le_of_ble_eq_true rfl) (jp_55_37 cI cL ad σ τ (σ 77 r39.toNatClampNeg)) (hts _ kw_33_15) (fun _ h9 => h9) rfl (by decide +kernel) rfl rfl dX12_bestFrom_64 (fun σ132 H locs eσ132 hP hS => ?_)
        refine lv_aload_n hx hb dX12_bestFrom_67 rfl (lv_at hl 3 rfl) ?_
        refine va_get (D := D) hx hb hts inlX12 hown hK hP 55 (jc_55 cI cL ad σ132 τ) rfl 40 (by decide) (hts _ kw_8_1) (fun _ h9 => h9) rfl dX12_bestFrom_68 ?_
        refine lv_iload_n hx hb dX12_bestFrom_71 rfl (lv_at hl 0 rfl) ?_
        refine jald hx hb hK hP (jc_76 cI cL ad σ132 τ) (jin rfl (by omega) (by omega)) dX12_bestFrom_72 ?_
        refine jtopr (y := (σ 76 r39.toNatClampNeg)) (by rw [jnp 76 eσ132 (by decide)]) ?_
        have p133 : jKept σ132 := jKept.fr (jnp 75 eσ132 (by decide)) (jnp 76 eσ132 (by decide)) (jnp 77 eσ132 (by decide)) hs_jKept
        have z134 : (σ132 55 37).toInt = (σ 77 r39.toNatClampNeg).toInt := (congrArg Int32.toInt (show σ132 55 37 = (σ 77 r39.toNatClampNeg) from (jsp eσ132)))
        exact hret (σ 76 r39.toNatClampNeg) σ132 τ _ _ _ _ rfl ⟨rfl, (fun i hi => (jnp i eσ132 (imp_205 i hi))), (fun i hi => (jkp i eσ132 (imp_206 i hi))), p133, (by omega), ⟨trivial, (by omega)⟩⟩ hP hS dX12_bestFrom_73
    · obtain ⟨q136, k135⟩ := h41
      have q136 := q136.symm
      subst q136
      refine lv_istore_n (lv' := [(3, .int (-1)), (2, .int x37), (1, .int r33), (0, .ref (ad 55))]) hx hb dX12_bestFrom_39 rfl hl (by decide) rfl (fun ls hl => ?_)
      refine lv_iload_n hx hb dX12_bestFrom_40 rfl (lv_at hl 0 rfl) ?_
      refine lv_if_lt (tgt := 74) hx hb dX12_bestFrom_41 (by decide) (fun _ => ?_) (fun c => absurd (by decide) c)
      refine lv_iconst (v := (-1)) hx hb dX12_bestFrom_74 (by decide) ?_
      refine lv_istore (lv' := [(4, .int (-1)), (3, .int (-1)), (2, .int x37), (1, .int r33), (0, .ref (ad 55))]) hx hb dX12_bestFrom_75 hl (by decide) rfl (fun ls hl => ?_)
      refine lv_ldcw (v := 2000000000) hx hb hown (hts _ kw_34_4) dX12_bestFrom_77 ?_
      refine lv_istore (lv' := [(5, .int 2000000000), (4, .int (-1)), (3, .int (-1)), (2, .int x37), (1, .int r33), (0, .ref (ad 55))]) hx hb dX12_bestFrom_80 hl (by decide) rfl (fun ls hl => ?_)
      refine lv_iconst (v := 0) hx hb dX12_bestFrom_82 (by decide) ?_
      refine lv_istore (lv' := [(6, .int 0), (5, .int 2000000000), (4, .int (-1)), (3, .int (-1)), (2, .int x37), (1, .int r33), (0, .ref (ad 55))]) hx hb dX12_bestFrom_83 hl (by decide) rfl (fun ls hl => ?_)
      have lp137 : ∀ (n138 : Nat) (x139 : Int32) (x140 : Int32) (x141 : Int32) (σ143 : Nat → Nat → Int32) (H : Heap) (locs : List Loc) (ls : Array Slot), (-x141.toInt + 4 : Int) < n138 → (-1) ≤ x139.toInt → x139.toInt ≤ 3 → 0 ≤ x141.toInt → x141.toInt ≤ 4 → ((0 ≤ x139.toInt ∧ 0 ≤ x140.toInt ∧ x140.toInt ≤ -(1023000 * (σ143 55 26).toInt) + 12276000) ∨ (x139.toInt = (-1) ∧ x140.toInt = 2000000000 ∧ x141.toInt ≤ B28.toInt)) → (∀ i : Nat, (i < 55 ∨ 55 < i) ∧ (i < 66 ∨ 66 < i) ∧ (i < 74 ∨ 78 < i) → σ143 i = σ i) → (∀ k : Nat, (k < 18 ∨ 18 < k) ∧ (k < 19 ∨ 19 < k) ∧ (k < 20 ∨ 20 < k) ∧ (k < 21 ∨ 21 < k) ∧ (k < 22 ∨ 22 < k) ∧ (k < 37 ∨ 37 < k) → σ143 55 k = σ 55 k) → jKept σ143 → jH D cI cL ad σ143 τ H → va_S (jA ad) s.heap H locs → lv_has ls 8 [(6, .int x141), (5, .int x140), (4, .int x139), (3, .int (-1)), (2, .int x37), (1, .int r33), (0, .ref (ad 55))] → W p l e ({ frames := (70 + 4 * (n)), cells := 0, slots := 0, locals := (3114 + 240 * (n)) }) s m args below meth c H locs 0 0 Q (F0 m 85 ls []) := by
        intro n138
        induction n138 with
        | zero => intro x139 x140 x141 σ143 H locs ls h144 h145 h146 h147 h148 h149; have gx140 := jrg (rfl : x140.toInt = x140.toInt); exact absurd h144 (by omega)
        | succ n138 ihlp137 =>
          intro x139 x140 x141 σ143 H locs ls h144 h145 h146 h147 h148 h149 f150 f151 p152 hP hS hl
          have gx140 := jrg (rfl : x140.toInt = x140.toInt)
          have z153 : (σ143 55 26).toInt = (σ 55 26).toInt := (congrArg Int32.toInt (show σ143 55 26 = (σ 55 26) from (f151 26 (by decide))))
          refine lv_iload hx hb dX12_bestFrom_85 (lv_at hl 0 rfl) ?_
          refine lv_aload_n hx hb dX12_bestFrom_87 rfl (lv_at hl 6 rfl) ?_
          refine va_get (D := D) hx hb hts inlX12 hown hK hP 55 (jc_55 cI cL ad σ143 τ) rfl 6 (by decide) (hts _ kw_9_13) (fun _ h9 => h9) rfl dX12_bestFrom_88 ?_
          have m154 : σ143 55 6 = (σ 55 6) := (f151 6 (by decide))
          refine jtopr m154 ?_
          refine lv_icmp_ge (tgt := 135) hx hb dX12_bestFrom_91 (by decide) (fun c155 => ?_) (fun c155 => ?_)
          · have kc155 := jle c155 rfl rfl
            refine lv_aload_n hx hb dX12_bestFrom_135 rfl (lv_at hl 6 rfl) ?_
            refine lv_iload_n hx hb dX12_bestFrom_136 rfl (lv_at hl 5 rfl) ?_
            refine lv_iload_n hx hb dX12_bestFrom_137 rfl (lv_at hl 4 rfl) ?_
            refine jcallV (As := [.int r33, .int x37]) (rest := []) ⟨hx, hb, hml, hown, hts⟩ hK hP hA hS hZ (c_X12_spot l D cI cL ad zz hJ σ143 τ r33 (r33.toInt) rfl x37 (16 * (σ 55 26).toInt + (σ 55 25).toInt) tx37) cw_RX12_314 (jc_55 cI cL ad σ143 τ) rfl ⟨by dsimp only; omega, by dsimp only; omega⟩ rfl rfl rfl hl.1 rfl (Nat.le_of_ble_eq_true rfl) dX12_bestFrom_138 ⟨Nat.zero_le _, Nat.zero_le _⟩ (fun r157 σ156 τ156 H locs h156 hP hS => ?_)
            obtain ⟨⟨rfl, rfl⟩, h156⟩ := h156
            rcases h156 with h158 | h159
            · obtain ⟨q162, k160, k161⟩ := h158
              have z164 : (σ143 55 42).toInt = (σ 55 42).toInt := (congrArg Int32.toInt (show σ143 55 42 = (σ 55 42) from (f151 42 (by decide))))
              have k163 : (σ143 78 r157.toNatClampNeg).toInt ≠ (σ143 55 42).toInt ∨ (σ143 75 r157.toNatClampNeg).toInt = 16 * (σ 55 26).toInt + (σ 55 25).toInt := k161.imp (fun q => jne q rfl rfl) (fun q => jeq q rfl tx37)
              refine lv_istore_n (lv' := [(3, .int r157), (6, .int x141), (5, .int x140), (4, .int x139), (2, .int x37), (1, .int r33), (0, .ref (ad 55))]) hx hb dX12_bestFrom_141 rfl hl (by decide) rfl (fun ls hl => ?_)
              refine lv_iload_n hx hb dX12_bestFrom_142 rfl (lv_at hl 0 rfl) ?_
              refine lv_if_lt (tgt := 186) hx hb dX12_bestFrom_143 (by decide) (fun c => absurd (jlt c rfl jz_0) (by omega)) (fun c165 => ?_)
              have kc165 := jnlt c165 rfl jz_0
              refine lv_aload_n hx hb dX12_bestFrom_146 rfl (lv_at hl 6 rfl) ?_
              refine va_get (D := D) hx hb hts inlX12 hown hK hP 55 (jc_55 cI cL ad σ143 τ) rfl 43 (by decide) (hts _ kw_8_3) (fun _ h9 => h9) rfl dX12_bestFrom_147 ?_
              refine lv_iload_n hx hb dX12_bestFrom_150 rfl (lv_at hl 0 rfl) ?_
              refine lv_aload_n hx hb dX12_bestFrom_151 rfl (lv_at hl 6 rfl) ?_
              refine va_get (D := D) hx hb hts inlX12 hown hK hP 55 (jc_55 cI cL ad σ143 τ) rfl 42 (by decide) (hts _ kw_33_10) (fun _ h9 => h9) rfl dX12_bestFrom_152 ?_
              have m166 : σ143 55 42 = (σ 55 42) := (f151 42 (by decide))
              refine jtopr m166 ?_
              refine jast hx hb hK hP hJ hA hS (jc_78 cI cL ad σ143 τ) (ja_78 cI cL ad σ143 τ _ _) (jin rfl (by omega) (by omega)) dX12_bestFrom_155 (fun σ167 H locs eσ167 hP hS => ?_)
              refine lv_aload_n hx hb dX12_bestFrom_156 rfl (lv_at hl 6 rfl) ?_
              refine va_get (D := D) hx hb hts inlX12 hown hK hP 55 (jc_55 cI cL ad σ167 τ) rfl 38 (by decide) (hts _ kw_7_23) (fun _ h9 => h9) rfl dX12_bestFrom_157 ?_
              refine lv_iload_n hx hb dX12_bestFrom_160 rfl (lv_at hl 0 rfl) ?_
              refine lv_iload_n hx hb dX12_bestFrom_161 rfl (lv_at hl 5 rfl) ?_
              refine jast hx hb hK hP hJ hA hS (jc_74 cI cL ad σ167 τ) (ja_74 cI cL ad σ167 τ _ _) (jin rfl (by omega) (by omega)) dX12_bestFrom_162 (fun σ168 H locs eσ168 hP hS => ?_)
              refine lv_aload_n hx hb dX12_bestFrom_163 rfl (lv_at hl 6 rfl) ?_
              refine va_get (D := D) hx hb hts inlX12 hown hK hP 55 (jc_55 cI cL ad σ168 τ) rfl 39 (by decide) (hts _ kw_8_0) (fun _ h9 => h9) rfl dX12_bestFrom_164 ?_
              refine lv_iload_n hx hb dX12_bestFrom_167 rfl (lv_at hl 0 rfl) ?_
              refine lv_iload_n hx hb dX12_bestFrom_168 rfl (lv_at hl 4 rfl) ?_
              refine jast hx hb hK hP hJ hA hS (jc_75 cI cL ad σ168 τ) (ja_75 cI cL ad σ168 τ _ _) (jin rfl (by omega) (by omega)) dX12_bestFrom_169 (fun σ169 H locs eσ169 hP hS => ?_)
              refine lv_aload_n hx hb dX12_bestFrom_170 rfl (lv_at hl 6 rfl) ?_
              refine va_get (D := D) hx hb hts inlX12 hown hK hP 55 (jc_55 cI cL ad σ169 τ) rfl 40 (by decide) (hts _ kw_8_1) (fun _ h9 => h9) rfl dX12_bestFrom_171 ?_
              refine lv_iload_n hx hb dX12_bestFrom_174 rfl (lv_at hl 0 rfl) ?_
              refine lv_iload hx hb dX12_bestFrom_175 (lv_at hl 2 rfl) ?_
              refine jast hx hb hK hP hJ hA hS (jc_76 cI cL ad σ169 τ) (ja_76 cI cL ad σ169 τ _ _) (jin rfl (by omega) (by omega)) dX12_bestFrom_177 (fun σ170 H locs eσ170 hP hS => ?_)
              refine lv_aload_n hx hb dX12_bestFrom_178 rfl (lv_at hl 6 rfl) ?_
              refine va_get (D := D) hx hb hts inlX12 hown hK hP 55 (jc_55 cI cL ad σ170 τ) rfl 41 (by decide) (hts _ kw_8_2) (fun _ h9 => h9) rfl dX12_bestFrom_179 ?_
              refine lv_iload_n hx hb dX12_bestFrom_182 rfl (lv_at hl 0 rfl) ?_
              refine lv_iload hx hb dX12_bestFrom_183 (lv_at hl 3 rfl) ?_
              refine jast hx hb hK hP hJ hA hS (jc_77 cI cL ad σ170 τ) (ja_77 cI cL ad σ170 τ _ _) (jin rfl (by omega) (by omega)) dX12_bestFrom_185 (fun σ171 H locs eσ171 hP hS => ?_)
              have e172 : σ171 75 = jupd (σ143 75) r157.toNatClampNeg x37 := by rw [eσ171, jup_n (by decide), eσ170, jup_n (by decide), eσ169, jup_row, eσ168, jup_n (by decide), eσ167, jup_n (by decide)]
              have e173 : σ171 76 = jupd (σ143 76) r157.toNatClampNeg x140 := by rw [eσ171, jup_n (by decide), eσ170, jup_row, eσ169, jup_n (by decide), eσ168, jup_n (by decide), eσ167, jup_n (by decide)]
              have e174 : σ171 77 = jupd (σ143 77) r157.toNatClampNeg x139 := by rw [eσ171, jup_row, eσ170, jup_n (by decide), eσ169, jup_n (by decide), eσ168, jup_n (by decide), eσ167, jup_n (by decide)]
              have z175 : (σ171 55 26).toInt = (σ 55 26).toInt := (congrArg Int32.toInt (show σ171 55 26 = (σ 55 26) from ((congrFun (jnp 55 eσ171 (by decide)) 26).trans ((congrFun (jnp 55 eσ170 (by decide)) 26).trans ((congrFun (jnp 55 eσ169 (by decide)) 26).trans ((congrFun (jnp 55 eσ168 (by decide)) 26).trans ((congrFun (jnp 55 eσ167 (by decide)) 26).trans (f151 26 (by decide)))))))))
              have p176 : jKept σ171 := p152.on e172 e173 e174 (by have h91 := tx37; omega) (by have h91 := tx37; omega) (by have h91 := tx37; omega) (by have h91 := tx37; omega)
              refine lv_aload_n hx hb dX12_bestFrom_186 rfl (lv_at hl 6 rfl) ?_
              refine lv_iload hx hb dX12_bestFrom_187 (lv_at hl 3 rfl) ?_
              refine jput (ty := .int) hx hb hts inlX12 tyX12 tyX12_ok nmX12 hown hK hP hJ hA hS (jc_55 cI cL ad σ171 τ) rfl (k := 37) (by decide) (Nat.le_of_ble_eq_true rfl) (jp_55_37 cI cL ad σ171 τ x139) (hts _ kw_33_15) (fun _ h9 => h9) rfl (by decide +kernel) rfl rfl dX12_bestFrom_189 (fun σ177 H locs eσ177 hP hS => ?_)
              refine lv_iload hx hb dX12_bestFrom_192 (lv_at hl 2 rfl) ?_
              have p178 : jKept σ177 := jKept.fr (jnp 75 eσ177 (by decide)) (jnp 76 eσ177 (by decide)) (jnp 77 eσ177 (by decide)) p176
              have z179 : (σ177 55 37).toInt = x139.toInt := (congrArg Int32.toInt (show σ177 55 37 = x139 from (jsp eσ177)))
              exact hret x140 σ177 τ _ _ _ _ rfl ⟨rfl, (fun i hi => ((jnp i eσ177 (imp_205 i hi)).trans ((jnp i eσ171 (imp_207 i hi)).trans ((jnp i eσ170 (imp_208 i hi)).trans ((jnp i eσ169 (imp_209 i hi)).trans ((jnp i eσ168 (imp_210 i hi)).trans ((jnp i eσ167 (imp_211 i hi)).trans (f150 i hi)))))))), (fun i hi => ((jkp i eσ177 (imp_206 i hi)).trans ((congrFun (jnp 55 eσ171 (by decide)) i).trans ((congrFun (jnp 55 eσ170 (by decide)) i).trans ((congrFun (jnp 55 eσ169 (by decide)) i).trans ((congrFun (jnp 55 eσ168 (by decide)) i).trans ((congrFun (jnp 55 eσ167 (by decide)) i).trans (f151 i hi)))))))), p178, (by omega), ⟨trivial, (by omega)⟩⟩ hP hS dX12_bestFrom_194
            · obtain ⟨q181, k180⟩ := h159
              have q181 := q181.symm
              subst q181
              refine lv_istore_n (lv' := [(3, .int (-1)), (6, .int x141), (5, .int x140), (4, .int x139), (2, .int x37), (1, .int r33), (0, .ref (ad 55))]) hx hb dX12_bestFrom_141 rfl hl (by decide) rfl (fun ls hl => ?_)
              refine lv_iload_n hx hb dX12_bestFrom_142 rfl (lv_at hl 0 rfl) ?_
              refine lv_if_lt (tgt := 186) hx hb dX12_bestFrom_143 (by decide) (fun _ => ?_) (fun c => absurd (by decide) c)
              refine lv_aload_n hx hb dX12_bestFrom_186 rfl (lv_at hl 6 rfl) ?_
              refine lv_iload hx hb dX12_bestFrom_187 (lv_at hl 3 rfl) ?_
              refine jput (ty := .int) hx hb hts inlX12 tyX12 tyX12_ok nmX12 hown hK hP hJ hA hS (jc_55 cI cL ad σ143 τ) rfl (k := 37) (by decide) (Nat.le_of_ble_eq_true rfl) (jp_55_37 cI cL ad σ143 τ x139) (hts _ kw_33_15) (fun _ h9 => h9) rfl (by decide +kernel) rfl rfl dX12_bestFrom_189 (fun σ182 H locs eσ182 hP hS => ?_)
              refine lv_iload hx hb dX12_bestFrom_192 (lv_at hl 2 rfl) ?_
              have p183 : jKept σ182 := jKept.fr (jnp 75 eσ182 (by decide)) (jnp 76 eσ182 (by decide)) (jnp 77 eσ182 (by decide)) p152
              have z184 : (σ182 55 37).toInt = x139.toInt := (congrArg Int32.toInt (show σ182 55 37 = x139 from (jsp eσ182)))
              exact hret x140 σ182 τ _ _ _ _ rfl ⟨rfl, (fun i hi => ((jnp i eσ182 (imp_205 i hi)).trans (f150 i hi))), (fun i hi => ((jkp i eσ182 (imp_206 i hi)).trans (f151 i hi))), p183, (by omega), ⟨trivial, (by omega)⟩⟩ hP hS dX12_bestFrom_194
          · have kc155 := jnle c155 rfl rfl
            refine lv_aload_n hx hb dX12_bestFrom_94 rfl (lv_at hl 6 rfl) ?_
            refine lv_iload hx hb dX12_bestFrom_95 (lv_at hl 0 rfl) ?_
            refine jcallV (As := [.int x141]) (rest := []) ⟨hx, hb, hml, hown, hts⟩ hK hP hA hS hZ (c_X12_mayBowl l D cI cL ad zz hJ σ143 τ x141 (x141.toInt) rfl (by omega)) cw_RX12_249 (jc_55 cI cL ad σ143 τ) rfl ⟨by dsimp only; omega, by dsimp only; omega⟩ rfl rfl rfl hl.1 rfl (Nat.le_of_ble_eq_true rfl) dX12_bestFrom_97 ⟨Nat.zero_le _, Nat.zero_le _⟩ (fun r186 σ185 τ185 H locs h185 hP hS => ?_)
            obtain ⟨⟨rfl, rfl⟩, h185⟩ := h185
            rcases h185 with h187 | h188
            · obtain ⟨q190, k189⟩ := h187
              have q190 := q190.symm
              subst q190
              refine lv_if_ne (tgt := 106) hx hb dX12_bestFrom_100 (by decide) (fun _ => ?_) (fun c => absurd c (by decide))
              refine lv_aload_n hx hb dX12_bestFrom_106 rfl (lv_at hl 6 rfl) ?_
              refine lv_iload hx hb dX12_bestFrom_107 (lv_at hl 0 rfl) ?_
              have I191 : jI101 σ143 := jI101_fr (f151 4 (by decide)) (f151 5 (by decide)) (f150 56 (by decide)) (f150 57 (by decide)) (f150 58 (by decide)) (f150 59 (by decide)) hI101
              have I192 : jI102 σ143 := jI102_fr (f151 6 (by decide)) (f150 60 (by decide)) (f150 61 (by decide)) hI102
              have I193 : jI103 σ143 := jI103_fr (f151 9 (by decide)) hI103
              have I194 : jI104 σ143 := jI104_fr (f151 10 (by decide)) (f151 12 (by decide)) (f151 13 (by decide)) (f150 62 (by decide)) (f150 67 (by decide)) hI104
              have I195 : jI105 σ143 := jI105_fr (f151 15 (by decide)) (f150 65 (by decide)) hI105
              have I196 : jI106 σ143 := jI106_fr (f151 32 (by decide)) (f150 70 (by decide)) (f150 71 (by decide)) (f150 72 (by decide)) hI106
              have I197 : jI120 σ143 := jI120_fr (f151 10 (by decide)) (f151 12 (by decide)) (f151 25 (by decide)) (f151 26 (by decide)) (f151 27 (by decide)) (f150 68 (by decide)) hI120
              have z198 : (σ143 55 25).toInt = (σ 55 25).toInt := (congrArg Int32.toInt (show σ143 55 25 = (σ 55 25) from (f151 25 (by decide))))
              have z199 : (σ143 55 10).toInt = (σ 55 10).toInt := (congrArg Int32.toInt (show σ143 55 10 = (σ 55 10) from (f151 10 (by decide))))
              have z200 : (σ143 55 12).toInt = (σ 55 12).toInt := (congrArg Int32.toInt (show σ143 55 12 = (σ 55 12) from (f151 12 (by decide))))
              refine jcallV (As := [.int x141]) (rest := []) ⟨hx, hb, hml, hown, hts⟩ hK hP hA hS hZ (h_mean σ143 τ x141 (x141.toInt) rfl I191 I192 I193 I194 I195 I196 I197 p152 (by omega) (by omega) (by omega) (by omega)) cw_RX12_318 (jc_55 cI cL ad σ143 τ) rfl ⟨by dsimp only; omega, by dsimp only; omega⟩ rfl rfl rfl hl.1 rfl (Nat.le_of_ble_eq_true rfl) dX12_bestFrom_109 ⟨Nat.zero_le _, Nat.zero_le _⟩ (fun r202 σ201 τ201 H locs h201 hP hS => ?_)
              obtain ⟨rfl, f203, f204, p205, h201⟩ := h201
              have h206 := h201
              obtain ⟨q208, k207⟩ := h206
              refine lv_istore (lv' := [(7, .int r202), (6, .int x141), (5, .int x140), (4, .int x139), (3, .int (-1)), (2, .int x37), (1, .int r33), (0, .ref (ad 55))]) hx hb dX12_bestFrom_112 hl (by decide) rfl (fun ls hl => ?_)
              refine lv_iload hx hb dX12_bestFrom_114 (lv_at hl 0 rfl) ?_
              refine lv_iload hx hb dX12_bestFrom_116 (lv_at hl 2 rfl) ?_
              refine lv_icmp_ge (tgt := 129) hx hb dX12_bestFrom_118 (by decide) (fun c209 => ?_) (fun c209 => ?_)
              · have kc209 := jle c209 rfl rfl
                obtain ⟨x210, ex210⟩ : ∃ y : Int32, y = x141 + 1 := ⟨_, rfl⟩
                have tx210 : x210.toInt = x141.toInt + 1 := (jadd ex210 rfl jz_1 (by omega) (by omega)).trans (by omega)
                refine lv_iinc (v := x210) (lv' := [(6, .int x210), (7, .int r202), (5, .int x140), (4, .int x139), (3, .int (-1)), (2, .int x37), (1, .int r33), (0, .ref (ad 55))]) hx hb dX12_bestFrom_129 hl (k := 1) rfl (by rw [ex210]; rfl) (by decide) rfl (fun ls hl => ?_)
                refine lv_goto (tgt := 85) hx hb dX12_bestFrom_132 (by decide) ?_
                have z211 : (σ201 55 26).toInt = (σ 55 26).toInt := (congrArg Int32.toInt (show σ201 55 26 = (σ 55 26) from ((f204 26 (by decide)).trans (f151 26 (by decide)))))
                exact ihlp137 x139 x140 x210 σ201 _ _ ls (by have h92 := tx210; omega) (by have h92 := tx210; omega) (by have h92 := tx210; omega) (by have h92 := tx210; omega) (by have h92 := tx210; omega) (by have h92 := tx210; omega) (fun i hi => ((f203 i hi).trans (f150 i hi))) (fun i hi => ((f204 i hi).trans (f151 i hi)))  p205 hP hS (lv_sub hl [0, 2, 3, 4, 5, 6, 7] rfl)
              · have kc209 := jnle c209 rfl rfl
                refine lv_iload hx hb dX12_bestFrom_121 (lv_at hl 0 rfl) ?_
                refine lv_istore (lv' := [(5, .int r202), (7, .int r202), (6, .int x141), (4, .int x139), (3, .int (-1)), (2, .int x37), (1, .int r33), (0, .ref (ad 55))]) hx hb dX12_bestFrom_123 hl (by decide) rfl (fun ls hl => ?_)
                refine lv_iload hx hb dX12_bestFrom_125 (lv_at hl 2 rfl) ?_
                refine lv_istore (lv' := [(4, .int x141), (5, .int r202), (7, .int r202), (6, .int x141), (3, .int (-1)), (2, .int x37), (1, .int r33), (0, .ref (ad 55))]) hx hb dX12_bestFrom_127 hl (by decide) rfl (fun ls hl => ?_)
                obtain ⟨x212, ex212⟩ : ∃ y : Int32, y = x141 + 1 := ⟨_, rfl⟩
                have tx212 : x212.toInt = x141.toInt + 1 := (jadd ex212 rfl jz_1 (by omega) (by omega)).trans (by omega)
                refine lv_iinc (v := x212) (lv' := [(6, .int x212), (4, .int x141), (5, .int r202), (7, .int r202), (3, .int (-1)), (2, .int x37), (1, .int r33), (0, .ref (ad 55))]) hx hb dX12_bestFrom_129 hl (k := 3) rfl (by rw [ex212]; rfl) (by decide) rfl (fun ls hl => ?_)
                refine lv_goto (tgt := 85) hx hb dX12_bestFrom_132 (by decide) ?_
                have z213 : (σ201 55 26).toInt = (σ 55 26).toInt := (congrArg Int32.toInt (show σ201 55 26 = (σ 55 26) from ((f204 26 (by decide)).trans (f151 26 (by decide)))))
                exact ihlp137 x141 r202 x212 σ201 _ _ ls (by have h92 := tx212; omega) (by have h92 := tx212; omega) (by have h92 := tx212; omega) (by have h92 := tx212; omega) (by have h92 := tx212; omega) (by have h92 := tx212; omega) (fun i hi => ((f203 i hi).trans (f150 i hi))) (fun i hi => ((f204 i hi).trans (f151 i hi)))  p205 hP hS (lv_sub hl [0, 2, 1, 4, 5, 6, 7] rfl)
            · obtain ⟨q215, k214⟩ := h188
              have q215 := q215.symm
              subst q215
              have e216 : jmb σ143 x141 = jmb σ x141 := (jmb_fr (f151 27 (by decide)) (f151 30 (by decide)) (f151 31 (by decide)) (f150 56 (by decide)) (f150 69 (by decide)) x141)
              have n217 : ¬ x141 = B28 := fun h => absurd ((w31).symm.trans (by rw [← h]; exact e216.symm.trans k214) : (1 : Int32) = 0) (by decide)
              have k218 := jne n217 rfl rfl
              refine lv_if_ne (tgt := 106) hx hb dX12_bestFrom_100 (by decide) (fun c => absurd (by decide) c) (fun _ => ?_)
              refine lv_goto (tgt := 129) hx hb dX12_bestFrom_103 (by decide) ?_
              obtain ⟨x219, ex219⟩ : ∃ y : Int32, y = x141 + 1 := ⟨_, rfl⟩
              have tx219 : x219.toInt = x141.toInt + 1 := (jadd ex219 rfl jz_1 (by omega) (by omega)).trans (by omega)
              refine lv_iinc (v := x219) (lv' := [(6, .int x219), (5, .int x140), (4, .int x139), (3, .int (-1)), (2, .int x37), (1, .int r33), (0, .ref (ad 55))]) hx hb dX12_bestFrom_129 hl (k := 0) rfl (by rw [ex219]; rfl) (by decide) rfl (fun ls hl => ?_)
              refine lv_goto (tgt := 85) hx hb dX12_bestFrom_132 (by decide) ?_
              exact ihlp137 x139 x140 x219 σ143 _ _ ls (by have h92 := tx219; omega) (by have h92 := tx219; omega) (by have h92 := tx219; omega) (by have h92 := tx219; omega) (by have h92 := tx219; omega) (by have h92 := tx219; omega) (fun i hi => (f150 i hi)) (fun i hi => (f151 i hi))  p152 hP hS (lv_sub hl [0, 1, 2, 3, 4, 5, 6] rfl)
      exact lp137 1000000 (-1) 2000000000 0 σ _ _ ls (by have h90 := jz_m1; have h91 := jz_2000000000; have h92 := jz_0; omega) (by have h90 := jz_m1; have h91 := jz_2000000000; have h92 := jz_0; omega) (by have h90 := jz_m1; have h91 := jz_2000000000; have h92 := jz_0; omega) (by have h90 := jz_m1; have h91 := jz_2000000000; have h92 := jz_0; omega) (by have h90 := jz_m1; have h91 := jz_2000000000; have h92 := jz_0; omega) (by have h90 := jz_m1; have h91 := jz_2000000000; have h92 := jz_0; omega) (fun _ _ => rfl) (fun _ _ => rfl)  hs_jKept hP hS hl
set_option maxHeartbeats 4000000 in
set_option maxRecDepth 100000 in
theorem c_X12_bests_bw_g (l : Launch) (D : va_G) (cI cL : ClassId) (ad zz : Nat → Nat) (hJ : jD ad) (n : Nat) (h_mean : ∀ (σ : Nat → Nat → Int32) (τ : Nat → Nat → Int64) (a1 : Int32) (A1 : Int) (t1 : a1.toInt = A1) (hI101 : jI101 σ) (hI102 : jI102 σ) (hI103 : jI103 σ) (hI104 : jI104 σ) (hI105 : jI105 σ) (hI106 : jI106 σ) (hI120 : jI120 σ) (hs_jKept : jKept σ) (hp0 : 0 ≤ A1 ∧ A1 ≤ 3) (hp1 : (σ 55 25).toInt < (σ 55 10).toInt) (hp2 : (σ 55 26).toInt < (σ 55 12).toInt) (hp3 : (σ 55 12).toInt - (σ 55 26).toInt ≤ (((n) : Nat) : Int)), jM l yX12_meanWith cX12_meanWith 8 (some .int) ({ frames := (69 + 4 * (n)), cells := 0, slots := 0, locals := (3034 + 240 * (n)) }) D cI cL ad zz [.ref (ad 55), .int a1] σ τ (fun r σ' τ' => τ = τ' ∧ (∀ i : Nat, (i < 55 ∨ 55 < i) ∧ (i < 66 ∨ 66 < i) ∧ (i < 74 ∨ 78 < i) → σ' i = σ i) ∧ (∀ k : Nat, (k < 18 ∨ 18 < k) ∧ (k < 19 ∨ 19 < k) ∧ (k < 20 ∨ 20 < k) ∧ (k < 21 ∨ 21 < k) ∧ (k < 22 ∨ 22 < k) ∧ (k < 37 ∨ 37 < k) → σ' 55 k = σ 55 k) ∧ (jKept σ') ∧ ((True ∧ (0 ≤ r.toInt ∧ r.toInt ≤ -(1023000 * (σ 55 26).toInt) + 12276000))))) (σ : Nat → Nat → Int32) (τ : Nat → Nat → Int64) (B0 : Int32) (hB0 : jmb σ B0 = 1) (hI101 : jI101 σ) (hI102 : jI102 σ) (hI103 : jI103 σ) (hI104 : jI104 σ) (hI105 : jI105 σ) (hI106 : jI106 σ) (hI120 : jI120 σ) (hs_jKept : jKept σ) (hp0 : 0 ≤ B0.toInt ∧ B0.toInt < (σ 55 6).toInt) (hp1 : (σ 55 25).toInt < (σ 55 10).toInt) (hp2 : (σ 55 26).toInt < (σ 55 12).toInt) (hp3 : (σ 55 12).toInt - (σ 55 26).toInt ≤ (((n) : Nat) : Int)) : jM l yX12_bestFrom cX12_bestFrom 8 (some .int) ({ frames := (70 + 4 * (n)), cells := 0, slots := 0, locals := (3114 + 240 * (n)) }) D cI cL ad zz [.ref (ad 55)] σ τ (fun r σ' τ' => τ = τ' ∧ (∀ i : Nat, (i < 55 ∨ 55 < i) ∧ (i < 66 ∨ 66 < i) ∧ (i < 74 ∨ 78 < i) → σ' i = σ i) ∧ (∀ k : Nat, (k < 18 ∨ 18 < k) ∧ (k < 19 ∨ 19 < k) ∧ (k < 20 ∨ 20 < k) ∧ (k < 21 ∨ 21 < k) ∧ (k < 22 ∨ 22 < k) ∧ (k < 37 ∨ 37 < k) → σ' 55 k = σ 55 k) ∧ (jKept σ') ∧ (0 ≤ (σ' 55 37).toInt ∧ (σ' 55 37).toInt ≤ 3) ∧ ((True ∧ (0 ≤ r.toInt ∧ r.toInt ≤ -(1023000 * (σ 55 26).toInt) + 12276000)))) := by
  refine jM.of hJ (by decide +kernel) (nt := .int) rfl (Nat.le_of_ble_eq_true rfl) ?_
  intro p e s m args below meth c Q ls hC hret hl hP
  obtain ⟨hx, hb, hr, hml, hown, hts, hK, -, hlocks, hZ⟩ := hC
  have hown : s.vm.findClass RX12 = some m.cls := hown
  have hS : va_S (jA ad) s.heap s.heap [] := va_S.rf
  have hA : ∀ q, jA ad q → jA ad q := fun _ h => h
  have hl : lv_has ls 8 [(0, .ref (ad 55))] := hl
  obtain ⟨i1, w2, w3⟩ : (0 ≤ (σ 55 6).toInt ∧ (σ 55 6).toInt ≤ 4) ∧ (∀ k : Nat, k < 4 → 0 ≤ (σ 60 k).toInt ∧ (σ 60 k).toInt ≤ 50) ∧ (∀ k : Nat, k < 4 → 0 ≤ (σ 61 k).toInt ∧ (σ 61 k).toInt ≤ 20) := id hI102
  obtain ⟨i4, i5, i6, w7, w8⟩ : (1 ≤ (σ 55 10).toInt ∧ (σ 55 10).toInt ≤ 8) ∧ (1 ≤ (σ 55 12).toInt ∧ (σ 55 12).toInt ≤ 12) ∧ (0 ≤ (σ 55 13).toInt ∧ (σ 55 13).toInt ≤ 999) ∧ (∀ k : Nat, k < 8 → 0 ≤ (σ 62 k).toInt ∧ (σ 62 k).toInt ≤ 3) ∧ (∀ k : Nat, k < 8 → 0 ≤ (σ 67 k).toInt ∧ (σ 67 k).toInt ≤ 3) := id hI104
  obtain ⟨i9, i10, i11, i12, i13, w14⟩ : (0 ≤ (σ 55 25).toInt) ∧ ((σ 55 25).toInt ≤ (σ 55 10).toInt) ∧ (0 ≤ (σ 55 26).toInt) ∧ ((σ 55 26).toInt ≤ (σ 55 12).toInt) ∧ ((-1) ≤ (σ 55 27).toInt ∧ (σ 55 27).toInt ≤ 3) ∧ (∀ k : Nat, k < 4 → 0 ≤ (σ 68 k).toInt ∧ (σ 68 k).toInt ≤ 3) := id hI120
  refine lv_aload_n hx hb dX12_bestFrom_0 rfl (lv_at hl 0 rfl) ?_
  have p15 : jmb σ B0 = 1 := (jmb_fr rfl rfl rfl rfl rfl B0).trans hB0
  refine jcallV (As := []) (rest := []) ⟨hx, hb, hml, hown, hts⟩ hK hP hA hS hZ (c_X12_isEnded_w l D cI cL ad zz hJ σ τ B0 p15 hI102 hI104 hI120 (by omega) (by omega) (by omega)) cw_RX12_307 (jc_55 cI cL ad σ τ) rfl ⟨by dsimp only; omega, by dsimp only; omega⟩ rfl rfl rfl hl.1 rfl (Nat.le_of_ble_eq_true rfl) dX12_bestFrom_1 ⟨Nat.zero_le _, Nat.zero_le _⟩ (fun r17 σ16 τ16 H locs h16 hP hS => ?_)
  obtain ⟨⟨rfl, rfl⟩, h16⟩ := h16
  have h18 := h16
  obtain ⟨q20, k19⟩ := h18
  have q20 := q20.symm
  subst q20
  refine lv_if_eq (tgt := 15) hx hb dX12_bestFrom_4 (by decide) (fun _ => ?_) (fun c => absurd (by decide) c)
  refine lv_aload_n hx hb dX12_bestFrom_15 rfl (lv_at hl 0 rfl) ?_
  refine jcallV (As := []) (rest := []) ⟨hx, hb, hml, hown, hts⟩ hK hP hA hS hZ (c_X12_stateNumber l D cI cL ad zz hJ σ τ hI102 w14) cw_RX12_311 (jc_55 cI cL ad σ τ) rfl ⟨by dsimp only; omega, by dsimp only; omega⟩ rfl rfl rfl hl.1 rfl (Nat.le_of_ble_eq_true rfl) dX12_bestFrom_16 ⟨Nat.zero_le _, Nat.zero_le _⟩ (fun r22 σ21 τ21 H locs h21 hP hS => ?_)
  obtain ⟨⟨rfl, rfl⟩, h21⟩ := h21
  refine lv_istore_n (lv' := [(1, .int r22), (0, .ref (ad 55))]) hx hb dX12_bestFrom_19 rfl hl (by decide) rfl (fun ls hl => ?_)
  refine lv_bipush (v := 16) hx hb dX12_bestFrom_20 (by decide) ?_
  refine lv_aload_n hx hb dX12_bestFrom_22 rfl (lv_at hl 1 rfl) ?_
  refine va_get (D := D) hx hb hts inlX12 hown hK hP 55 (jc_55 cI cL ad σ τ) rfl 26 (by decide) (hts _ kw_23_5) (fun _ h9 => h9) rfl dX12_bestFrom_23 ?_
  have g23 := jrg (rfl : (σ 55 26).toInt = (σ 55 26).toInt)
  refine lv_imul hx hb dX12_bestFrom_26 ?_
  refine lv_topi (fun x24 ex24 => ?_)
  have tx24 : x24.toInt = 16 * (σ 55 26).toInt := (jmul ex24 jz_16 rfl (by omega) (by omega)).trans (by omega)
  refine lv_aload_n hx hb dX12_bestFrom_27 rfl (lv_at hl 1 rfl) ?_
  refine va_get (D := D) hx hb hts inlX12 hown hK hP 55 (jc_55 cI cL ad σ τ) rfl 25 (by decide) (hts _ kw_23_6) (fun _ h9 => h9) rfl dX12_bestFrom_28 ?_
  have g25 := jrg (rfl : (σ 55 25).toInt = (σ 55 25).toInt)
  refine lv_iadd hx hb dX12_bestFrom_31 ?_
  refine lv_topi (fun x26 ex26 => ?_)
  have tx26 : x26.toInt = 16 * (σ 55 26).toInt + (σ 55 25).toInt := (jadd ex26 tx24 rfl (by omega) (by omega)).trans (by omega)
  refine lv_istore_n (lv' := [(2, .int x26), (1, .int r22), (0, .ref (ad 55))]) hx hb dX12_bestFrom_32 rfl hl (by decide) rfl (fun ls hl => ?_)
  refine lv_aload_n hx hb dX12_bestFrom_33 rfl (lv_at hl 2 rfl) ?_
  refine lv_iload_n hx hb dX12_bestFrom_34 rfl (lv_at hl 1 rfl) ?_
  refine lv_iload_n hx hb dX12_bestFrom_35 rfl (lv_at hl 0 rfl) ?_
  refine jcallV (As := [.int r22, .int x26]) (rest := []) ⟨hx, hb, hml, hown, hts⟩ hK hP hA hS hZ (c_X12_spot l D cI cL ad zz hJ σ τ r22 (r22.toInt) rfl x26 (16 * (σ 55 26).toInt + (σ 55 25).toInt) tx26) cw_RX12_314 (jc_55 cI cL ad σ τ) rfl ⟨by dsimp only; omega, by dsimp only; omega⟩ rfl rfl rfl hl.1 rfl (Nat.le_of_ble_eq_true rfl) dX12_bestFrom_36 ⟨Nat.zero_le _, Nat.zero_le _⟩ (fun r28 σ27 τ27 H locs h27 hP hS => ?_)
  obtain ⟨⟨rfl, rfl⟩, h27⟩ := h27
  rcases h27 with h29 | h30
  · obtain ⟨q33, k31, k32⟩ := h29
    have k34 : (σ 78 r28.toNatClampNeg).toInt ≠ (σ 55 42).toInt ∨ (σ 75 r28.toNatClampNeg).toInt = 16 * (σ 55 26).toInt + (σ 55 25).toInt := k32.imp (fun q => jne q rfl rfl) (fun q => jeq q rfl tx26)
    refine lv_istore_n (lv' := [(3, .int r28), (2, .int x26), (1, .int r22), (0, .ref (ad 55))]) hx hb dX12_bestFrom_39 rfl hl (by decide) rfl (fun ls hl => ?_)
    refine lv_iload_n hx hb dX12_bestFrom_40 rfl (lv_at hl 0 rfl) ?_
    refine lv_if_lt (tgt := 74) hx hb dX12_bestFrom_41 (by decide) (fun c => absurd (jlt c rfl jz_0) (by omega)) (fun c35 => ?_)
    have kc35 := jnlt c35 rfl jz_0
    refine lv_aload_n hx hb dX12_bestFrom_44 rfl (lv_at hl 3 rfl) ?_
    refine va_get (D := D) hx hb hts inlX12 hown hK hP 55 (jc_55 cI cL ad σ τ) rfl 43 (by decide) (hts _ kw_8_3) (fun _ h9 => h9) rfl dX12_bestFrom_45 ?_
    refine lv_iload_n hx hb dX12_bestFrom_48 rfl (lv_at hl 0 rfl) ?_
    refine jald hx hb hK hP (jc_78 cI cL ad σ τ) (jin rfl (by omega) (by omega)) dX12_bestFrom_49 ?_
    refine jtopr (y := (σ 78 r28.toNatClampNeg)) rfl ?_
    refine lv_aload_n hx hb dX12_bestFrom_50 rfl (lv_at hl 3 rfl) ?_
    refine va_get (D := D) hx hb hts inlX12 hown hK hP 55 (jc_55 cI cL ad σ τ) rfl 42 (by decide) (hts _ kw_33_10) (fun _ h9 => h9) rfl dX12_bestFrom_51 ?_
    refine lv_icmp_ne (tgt := 74) hx hb dX12_bestFrom_54 (by decide) (fun c36 => ?_) (fun c36 => ?_)
    · have kc36 := jne c36 rfl rfl
      refine lv_iconst (v := (-1)) hx hb dX12_bestFrom_74 (by decide) ?_
      refine lv_istore (lv' := [(4, .int (-1)), (3, .int r28), (2, .int x26), (1, .int r22), (0, .ref (ad 55))]) hx hb dX12_bestFrom_75 hl (by decide) rfl (fun ls hl => ?_)
      refine lv_ldcw (v := 2000000000) hx hb hown (hts _ kw_34_4) dX12_bestFrom_77 ?_
      refine lv_istore (lv' := [(5, .int 2000000000), (4, .int (-1)), (3, .int r28), (2, .int x26), (1, .int r22), (0, .ref (ad 55))]) hx hb dX12_bestFrom_80 hl (by decide) rfl (fun ls hl => ?_)
      refine lv_iconst (v := 0) hx hb dX12_bestFrom_82 (by decide) ?_
      refine lv_istore (lv' := [(6, .int 0), (5, .int 2000000000), (4, .int (-1)), (3, .int r28), (2, .int x26), (1, .int r22), (0, .ref (ad 55))]) hx hb dX12_bestFrom_83 hl (by decide) rfl (fun ls hl => ?_)
      have lp37 : ∀ (n38 : Nat) (x39 : Int32) (x40 : Int32) (x41 : Int32) (σ43 : Nat → Nat → Int32) (H : Heap) (locs : List Loc) (ls : Array Slot), (-x41.toInt + 4 : Int) < n38 → (-1) ≤ x39.toInt → x39.toInt ≤ 3 → 0 ≤ x41.toInt → x41.toInt ≤ 4 → ((0 ≤ x39.toInt ∧ 0 ≤ x40.toInt ∧ x40.toInt ≤ -(1023000 * (σ43 55 26).toInt) + 12276000) ∨ (x39.toInt = (-1) ∧ x40.toInt = 2000000000 ∧ x41.toInt ≤ B0.toInt)) → (∀ i : Nat, (i < 55 ∨ 55 < i) ∧ (i < 66 ∨ 66 < i) ∧ (i < 74 ∨ 78 < i) → σ43 i = σ i) → (∀ k : Nat, (k < 18 ∨ 18 < k) ∧ (k < 19 ∨ 19 < k) ∧ (k < 20 ∨ 20 < k) ∧ (k < 21 ∨ 21 < k) ∧ (k < 22 ∨ 22 < k) ∧ (k < 37 ∨ 37 < k) → σ43 55 k = σ 55 k) → jKept σ43 → jH D cI cL ad σ43 τ H → va_S (jA ad) s.heap H locs → lv_has ls 8 [(6, .int x41), (5, .int x40), (4, .int x39), (3, .int r28), (2, .int x26), (1, .int r22), (0, .ref (ad 55))] → W p l e ({ frames := (70 + 4 * (n)), cells := 0, slots := 0, locals := (3114 + 240 * (n)) }) s m args below meth c H locs 0 0 Q (F0 m 85 ls []) := by
        intro n38
        induction n38 with
        | zero => intro x39 x40 x41 σ43 H locs ls h44 h45 h46 h47 h48 h49; have gx40 := jrg (rfl : x40.toInt = x40.toInt); exact absurd h44 (by omega)
        | succ n38 ihlp37 =>
          intro x39 x40 x41 σ43 H locs ls h44 h45 h46 h47 h48 h49 f50 f51 p52 hP hS hl
          have gx40 := jrg (rfl : x40.toInt = x40.toInt)
          have z53 : (σ43 55 26).toInt = (σ 55 26).toInt := (congrArg Int32.toInt (show σ43 55 26 = (σ 55 26) from (f51 26 (by decide))))
          refine lv_iload hx hb dX12_bestFrom_85 (lv_at hl 0 rfl) ?_
          refine lv_aload_n hx hb dX12_bestFrom_87 rfl (lv_at hl 6 rfl) ?_
          refine va_get (D := D) hx hb hts inlX12 hown hK hP 55 (jc_55 cI cL ad σ43 τ) rfl 6 (by decide) (hts _ kw_9_13) (fun _ h9 => h9) rfl dX12_bestFrom_88 ?_
          have m54 : σ43 55 6 = (σ 55 6) := (f51 6 (by decide))
          refine jtopr m54 ?_
          refine lv_icmp_ge (tgt := 135) hx hb dX12_bestFrom_91 (by decide) (fun c55 => ?_) (fun c55 => ?_)
          · have kc55 := jle c55 rfl rfl
            refine lv_aload_n hx hb dX12_bestFrom_135 rfl (lv_at hl 6 rfl) ?_
            refine lv_iload_n hx hb dX12_bestFrom_136 rfl (lv_at hl 5 rfl) ?_
            refine lv_iload_n hx hb dX12_bestFrom_137 rfl (lv_at hl 4 rfl) ?_
            refine jcallV (As := [.int r22, .int x26]) (rest := []) ⟨hx, hb, hml, hown, hts⟩ hK hP hA hS hZ (c_X12_spot l D cI cL ad zz hJ σ43 τ r22 (r22.toInt) rfl x26 (16 * (σ 55 26).toInt + (σ 55 25).toInt) tx26) cw_RX12_314 (jc_55 cI cL ad σ43 τ) rfl ⟨by dsimp only; omega, by dsimp only; omega⟩ rfl rfl rfl hl.1 rfl (Nat.le_of_ble_eq_true rfl) dX12_bestFrom_138 ⟨Nat.zero_le _, Nat.zero_le _⟩ (fun r57 σ56 τ56 H locs h56 hP hS => ?_)
            obtain ⟨⟨rfl, rfl⟩, h56⟩ := h56
            rcases h56 with h58 | h59
            · obtain ⟨q62, k60, k61⟩ := h58
              have z64 : (σ43 55 42).toInt = (σ 55 42).toInt := (congrArg Int32.toInt (show σ43 55 42 = (σ 55 42) from (f51 42 (by decide))))
              have k63 : (σ43 78 r57.toNatClampNeg).toInt ≠ (σ43 55 42).toInt ∨ (σ43 75 r57.toNatClampNeg).toInt = 16 * (σ 55 26).toInt + (σ 55 25).toInt := k61.imp (fun q => jne q rfl rfl) (fun q => jeq q rfl tx26)
              refine lv_istore_n (lv' := [(3, .int r57), (6, .int x41), (5, .int x40), (4, .int x39), (2, .int x26), (1, .int r22), (0, .ref (ad 55))]) hx hb dX12_bestFrom_141 rfl hl (by decide) rfl (fun ls hl => ?_)
              refine lv_iload_n hx hb dX12_bestFrom_142 rfl (lv_at hl 0 rfl) ?_
              refine lv_if_lt (tgt := 186) hx hb dX12_bestFrom_143 (by decide) (fun c => absurd (jlt c rfl jz_0) (by omega)) (fun c65 => ?_)
              have kc65 := jnlt c65 rfl jz_0
              refine lv_aload_n hx hb dX12_bestFrom_146 rfl (lv_at hl 6 rfl) ?_
              refine va_get (D := D) hx hb hts inlX12 hown hK hP 55 (jc_55 cI cL ad σ43 τ) rfl 43 (by decide) (hts _ kw_8_3) (fun _ h9 => h9) rfl dX12_bestFrom_147 ?_
              refine lv_iload_n hx hb dX12_bestFrom_150 rfl (lv_at hl 0 rfl) ?_
              refine lv_aload_n hx hb dX12_bestFrom_151 rfl (lv_at hl 6 rfl) ?_
              refine va_get (D := D) hx hb hts inlX12 hown hK hP 55 (jc_55 cI cL ad σ43 τ) rfl 42 (by decide) (hts _ kw_33_10) (fun _ h9 => h9) rfl dX12_bestFrom_152 ?_
              have m66 : σ43 55 42 = (σ 55 42) := (f51 42 (by decide))
              refine jtopr m66 ?_
              refine jast hx hb hK hP hJ hA hS (jc_78 cI cL ad σ43 τ) (ja_78 cI cL ad σ43 τ _ _) (jin rfl (by omega) (by omega)) dX12_bestFrom_155 (fun σ67 H locs eσ67 hP hS => ?_)
              refine lv_aload_n hx hb dX12_bestFrom_156 rfl (lv_at hl 6 rfl) ?_
              refine va_get (D := D) hx hb hts inlX12 hown hK hP 55 (jc_55 cI cL ad σ67 τ) rfl 38 (by decide) (hts _ kw_7_23) (fun _ h9 => h9) rfl dX12_bestFrom_157 ?_
              refine lv_iload_n hx hb dX12_bestFrom_160 rfl (lv_at hl 0 rfl) ?_
              refine lv_iload_n hx hb dX12_bestFrom_161 rfl (lv_at hl 5 rfl) ?_
              refine jast hx hb hK hP hJ hA hS (jc_74 cI cL ad σ67 τ) (ja_74 cI cL ad σ67 τ _ _) (jin rfl (by omega) (by omega)) dX12_bestFrom_162 (fun σ68 H locs eσ68 hP hS => ?_)
              refine lv_aload_n hx hb dX12_bestFrom_163 rfl (lv_at hl 6 rfl) ?_
              refine va_get (D := D) hx hb hts inlX12 hown hK hP 55 (jc_55 cI cL ad σ68 τ) rfl 39 (by decide) (hts _ kw_8_0) (fun _ h9 => h9) rfl dX12_bestFrom_164 ?_
              refine lv_iload_n hx hb dX12_bestFrom_167 rfl (lv_at hl 0 rfl) ?_
              refine lv_iload_n hx hb dX12_bestFrom_168 rfl (lv_at hl 4 rfl) ?_
              refine jast hx hb hK hP hJ hA hS (jc_75 cI cL ad σ68 τ) (ja_75 cI cL ad σ68 τ _ _) (jin rfl (by omega) (by omega)) dX12_bestFrom_169 (fun σ69 H locs eσ69 hP hS => ?_)
              refine lv_aload_n hx hb dX12_bestFrom_170 rfl (lv_at hl 6 rfl) ?_
              refine va_get (D := D) hx hb hts inlX12 hown hK hP 55 (jc_55 cI cL ad σ69 τ) rfl 40 (by decide) (hts _ kw_8_1) (fun _ h9 => h9) rfl dX12_bestFrom_171 ?_
              refine lv_iload_n hx hb dX12_bestFrom_174 rfl (lv_at hl 0 rfl) ?_
              refine lv_iload hx hb dX12_bestFrom_175 (lv_at hl 2 rfl) ?_
              refine jast hx hb hK hP hJ hA hS (jc_76 cI cL ad σ69 τ) (ja_76 cI cL ad σ69 τ _ _) (jin rfl (by omega) (by omega)) dX12_bestFrom_177 (fun σ70 H locs eσ70 hP hS => ?_)
              refine lv_aload_n hx hb dX12_bestFrom_178 rfl (lv_at hl 6 rfl) ?_
              refine va_get (D := D) hx hb hts inlX12 hown hK hP 55 (jc_55 cI cL ad σ70 τ) rfl 41 (by decide) (hts _ kw_8_2) (fun _ h9 => h9) rfl dX12_bestFrom_179 ?_
              refine lv_iload_n hx hb dX12_bestFrom_182 rfl (lv_at hl 0 rfl) ?_
              refine lv_iload hx hb dX12_bestFrom_183 (lv_at hl 3 rfl) ?_
              refine jast hx hb hK hP hJ hA hS (jc_77 cI cL ad σ70 τ) (ja_77 cI cL ad σ70 τ _ _) (jin rfl (by omega) (by omega)) dX12_bestFrom_185 (fun σ71 H locs eσ71 hP hS => ?_)
              have e72 : σ71 75 = jupd (σ43 75) r57.toNatClampNeg x26 := by rw [eσ71, jup_n (by decide), eσ70, jup_n (by decide), eσ69, jup_row, eσ68, jup_n (by decide), eσ67, jup_n (by decide)]
              have e73 : σ71 76 = jupd (σ43 76) r57.toNatClampNeg x40 := by rw [eσ71, jup_n (by decide), eσ70, jup_row, eσ69, jup_n (by decide), eσ68, jup_n (by decide), eσ67, jup_n (by decide)]
              have e74 : σ71 77 = jupd (σ43 77) r57.toNatClampNeg x39 := by rw [eσ71, jup_row, eσ70, jup_n (by decide), eσ69, jup_n (by decide), eσ68, jup_n (by decide), eσ67, jup_n (by decide)]
              have z75 : (σ71 55 26).toInt = (σ 55 26).toInt := (congrArg Int32.toInt (show σ71 55 26 = (σ 55 26) from ((congrFun (jnp 55 eσ71 (by decide)) 26).trans ((congrFun (jnp 55 eσ70 (by decide)) 26).trans ((congrFun (jnp 55 eσ69 (by decide)) 26).trans ((congrFun (jnp 55 eσ68 (by decide)) 26).trans ((congrFun (jnp 55 eσ67 (by decide)) 26).trans (f51 26 (by decide)))))))))
              have p76 : jKept σ71 := p52.on e72 e73 e74 (by have h91 := tx26; omega) (by have h91 := tx26; omega) (by have h91 := tx26; omega) (by have h91 := tx26; omega)
              refine lv_aload_n hx hb dX12_bestFrom_186 rfl (lv_at hl 6 rfl) ?_
              refine lv_iload hx hb dX12_bestFrom_187 (lv_at hl 3 rfl) ?_
              refine jput (ty := .int) hx hb hts inlX12 tyX12 tyX12_ok nmX12 hown hK hP hJ hA hS (jc_55 cI cL ad σ71 τ) rfl (k := 37) (by decide) (Nat.le_of_ble_eq_true rfl) (jp_55_37 cI cL ad σ71 τ x39) (hts _ kw_33_15) (fun _ h9 => h9) rfl (by decide +kernel) rfl rfl dX12_bestFrom_189 (fun σ77 H locs eσ77 hP hS => ?_)
              refine lv_iload hx hb dX12_bestFrom_192 (lv_at hl 2 rfl) ?_
              have p78 : jKept σ77 := jKept.fr (jnp 75 eσ77 (by decide)) (jnp 76 eσ77 (by decide)) (jnp 77 eσ77 (by decide)) p76
              have z79 : (σ77 55 37).toInt = x39.toInt := (congrArg Int32.toInt (show σ77 55 37 = x39 from (jsp eσ77)))
              exact hret x40 σ77 τ _ _ _ _ rfl ⟨rfl, (fun i hi => ((jnp i eσ77 (imp_205 i hi)).trans ((jnp i eσ71 (imp_207 i hi)).trans ((jnp i eσ70 (imp_208 i hi)).trans ((jnp i eσ69 (imp_209 i hi)).trans ((jnp i eσ68 (imp_210 i hi)).trans ((jnp i eσ67 (imp_211 i hi)).trans (f50 i hi)))))))), (fun i hi => ((jkp i eσ77 (imp_206 i hi)).trans ((congrFun (jnp 55 eσ71 (by decide)) i).trans ((congrFun (jnp 55 eσ70 (by decide)) i).trans ((congrFun (jnp 55 eσ69 (by decide)) i).trans ((congrFun (jnp 55 eσ68 (by decide)) i).trans ((congrFun (jnp 55 eσ67 (by decide)) i).trans (f51 i hi)))))))), p78, (by omega), ⟨trivial, (by omega)⟩⟩ hP hS dX12_bestFrom_194
            · obtain ⟨q81, k80⟩ := h59
              have q81 := q81.symm
              subst q81
              refine lv_istore_n (lv' := [(3, .int (-1)), (6, .int x41), (5, .int x40), (4, .int x39), (2, .int x26), (1, .int r22), (0, .ref (ad 55))]) hx hb dX12_bestFrom_141 rfl hl (by decide) rfl (fun ls hl => ?_)
              refine lv_iload_n hx hb dX12_bestFrom_142 rfl (lv_at hl 0 rfl) ?_
              refine lv_if_lt (tgt := 186) hx hb dX12_bestFrom_143 (by decide) (fun _ => ?_) (fun c => absurd (by decide) c)
              refine lv_aload_n hx hb dX12_bestFrom_186 rfl (lv_at hl 6 rfl) ?_
              refine lv_iload hx hb dX12_bestFrom_187 (lv_at hl 3 rfl) ?_
              refine jput (ty := .int) hx hb hts inlX12 tyX12 tyX12_ok nmX12 hown hK hP hJ hA hS (jc_55 cI cL ad σ43 τ) rfl (k := 37) (by decide) (Nat.le_of_ble_eq_true rfl) (jp_55_37 cI cL ad σ43 τ x39) (hts _ kw_33_15) (fun _ h9 => h9) rfl (by decide +kernel) rfl rfl dX12_bestFrom_189 (fun σ82 H locs eσ82 hP hS => ?_)
              refine lv_iload hx hb dX12_bestFrom_192 (lv_at hl 2 rfl) ?_
              have p83 : jKept σ82 := jKept.fr (jnp 75 eσ82 (by decide)) (jnp 76 eσ82 (by decide)) (jnp 77 eσ82 (by decide)) p52
              have z84 : (σ82 55 37).toInt = x39.toInt := (congrArg Int32.toInt (show σ82 55 37 = x39 from (jsp eσ82)))
              exact hret x40 σ82 τ _ _ _ _ rfl ⟨rfl, (fun i hi => ((jnp i eσ82 (imp_205 i hi)).trans (f50 i hi))), (fun i hi => ((jkp i eσ82 (imp_206 i hi)).trans (f51 i hi))), p83, (by omega), ⟨trivial, (by omega)⟩⟩ hP hS dX12_bestFrom_194
          · have kc55 := jnle c55 rfl rfl
            refine lv_aload_n hx hb dX12_bestFrom_94 rfl (lv_at hl 6 rfl) ?_
            refine lv_iload hx hb dX12_bestFrom_95 (lv_at hl 0 rfl) ?_
            refine jcallV (As := [.int x41]) (rest := []) ⟨hx, hb, hml, hown, hts⟩ hK hP hA hS hZ (c_X12_mayBowl l D cI cL ad zz hJ σ43 τ x41 (x41.toInt) rfl (by omega)) cw_RX12_249 (jc_55 cI cL ad σ43 τ) rfl ⟨by dsimp only; omega, by dsimp only; omega⟩ rfl rfl rfl hl.1 rfl (Nat.le_of_ble_eq_true rfl) dX12_bestFrom_97 ⟨Nat.zero_le _, Nat.zero_le _⟩ (fun r86 σ85 τ85 H locs h85 hP hS => ?_)
            obtain ⟨⟨rfl, rfl⟩, h85⟩ := h85
            rcases h85 with h87 | h88
            · obtain ⟨q90, k89⟩ := h87
              have q90 := q90.symm
              subst q90
              refine lv_if_ne (tgt := 106) hx hb dX12_bestFrom_100 (by decide) (fun _ => ?_) (fun c => absurd c (by decide))
              refine lv_aload_n hx hb dX12_bestFrom_106 rfl (lv_at hl 6 rfl) ?_
              refine lv_iload hx hb dX12_bestFrom_107 (lv_at hl 0 rfl) ?_
              have I91 : jI101 σ43 := jI101_fr (f51 4 (by decide)) (f51 5 (by decide)) (f50 56 (by decide)) (f50 57 (by decide)) (f50 58 (by decide)) (f50 59 (by decide)) hI101
              have I92 : jI102 σ43 := jI102_fr (f51 6 (by decide)) (f50 60 (by decide)) (f50 61 (by decide)) hI102
              have I93 : jI103 σ43 := jI103_fr (f51 9 (by decide)) hI103
              have I94 : jI104 σ43 := jI104_fr (f51 10 (by decide)) (f51 12 (by decide)) (f51 13 (by decide)) (f50 62 (by decide)) (f50 67 (by decide)) hI104
              have I95 : jI105 σ43 := jI105_fr (f51 15 (by decide)) (f50 65 (by decide)) hI105
              have I96 : jI106 σ43 := jI106_fr (f51 32 (by decide)) (f50 70 (by decide)) (f50 71 (by decide)) (f50 72 (by decide)) hI106
              have I97 : jI120 σ43 := jI120_fr (f51 10 (by decide)) (f51 12 (by decide)) (f51 25 (by decide)) (f51 26 (by decide)) (f51 27 (by decide)) (f50 68 (by decide)) hI120
              have z98 : (σ43 55 25).toInt = (σ 55 25).toInt := (congrArg Int32.toInt (show σ43 55 25 = (σ 55 25) from (f51 25 (by decide))))
              have z99 : (σ43 55 10).toInt = (σ 55 10).toInt := (congrArg Int32.toInt (show σ43 55 10 = (σ 55 10) from (f51 10 (by decide))))
              have z100 : (σ43 55 12).toInt = (σ 55 12).toInt := (congrArg Int32.toInt (show σ43 55 12 = (σ 55 12) from (f51 12 (by decide))))
              refine jcallV (As := [.int x41]) (rest := []) ⟨hx, hb, hml, hown, hts⟩ hK hP hA hS hZ (h_mean σ43 τ x41 (x41.toInt) rfl I91 I92 I93 I94 I95 I96 I97 p52 (by omega) (by omega) (by omega) (by omega)) cw_RX12_318 (jc_55 cI cL ad σ43 τ) rfl ⟨by dsimp only; omega, by dsimp only; omega⟩ rfl rfl rfl hl.1 rfl (Nat.le_of_ble_eq_true rfl) dX12_bestFrom_109 ⟨Nat.zero_le _, Nat.zero_le _⟩ (fun r102 σ101 τ101 H locs h101 hP hS => ?_)
              obtain ⟨rfl, f103, f104, p105, h101⟩ := h101
              have h106 := h101
              obtain ⟨q108, k107⟩ := h106
              refine lv_istore (lv' := [(7, .int r102), (6, .int x41), (5, .int x40), (4, .int x39), (3, .int r28), (2, .int x26), (1, .int r22), (0, .ref (ad 55))]) hx hb dX12_bestFrom_112 hl (by decide) rfl (fun ls hl => ?_)
              refine lv_iload hx hb dX12_bestFrom_114 (lv_at hl 0 rfl) ?_
              refine lv_iload hx hb dX12_bestFrom_116 (lv_at hl 2 rfl) ?_
              refine lv_icmp_ge (tgt := 129) hx hb dX12_bestFrom_118 (by decide) (fun c109 => ?_) (fun c109 => ?_)
              · have kc109 := jle c109 rfl rfl
                obtain ⟨x110, ex110⟩ : ∃ y : Int32, y = x41 + 1 := ⟨_, rfl⟩
                have tx110 : x110.toInt = x41.toInt + 1 := (jadd ex110 rfl jz_1 (by omega) (by omega)).trans (by omega)
                refine lv_iinc (v := x110) (lv' := [(6, .int x110), (7, .int r102), (5, .int x40), (4, .int x39), (3, .int r28), (2, .int x26), (1, .int r22), (0, .ref (ad 55))]) hx hb dX12_bestFrom_129 hl (k := 1) rfl (by rw [ex110]; rfl) (by decide) rfl (fun ls hl => ?_)
                refine lv_goto (tgt := 85) hx hb dX12_bestFrom_132 (by decide) ?_
                have z111 : (σ101 55 26).toInt = (σ 55 26).toInt := (congrArg Int32.toInt (show σ101 55 26 = (σ 55 26) from ((f104 26 (by decide)).trans (f51 26 (by decide)))))
                exact ihlp37 x39 x40 x110 σ101 _ _ ls (by have h92 := tx110; omega) (by have h92 := tx110; omega) (by have h92 := tx110; omega) (by have h92 := tx110; omega) (by have h92 := tx110; omega) (by have h92 := tx110; omega) (fun i hi => ((f103 i hi).trans (f50 i hi))) (fun i hi => ((f104 i hi).trans (f51 i hi)))  p105 hP hS (lv_sub hl [0, 2, 3, 4, 5, 6, 7] rfl)
              · have kc109 := jnle c109 rfl rfl
                refine lv_iload hx hb dX12_bestFrom_121 (lv_at hl 0 rfl) ?_
                refine lv_istore (lv' := [(5, .int r102), (7, .int r102), (6, .int x41), (4, .int x39), (3, .int r28), (2, .int x26), (1, .int r22), (0, .ref (ad 55))]) hx hb dX12_bestFrom_123 hl (by decide) rfl (fun ls hl => ?_)
                refine lv_iload hx hb dX12_bestFrom_125 (lv_at hl 2 rfl) ?_
                refine lv_istore (lv' := [(4, .int x41), (5, .int r102), (7, .int r102), (6, .int x41), (3, .int r28), (2, .int x26), (1, .int r22), (0, .ref (ad 55))]) hx hb dX12_bestFrom_127 hl (by decide) rfl (fun ls hl => ?_)
                obtain ⟨x112, ex112⟩ : ∃ y : Int32, y = x41 + 1 := ⟨_, rfl⟩
                have tx112 : x112.toInt = x41.toInt + 1 := (jadd ex112 rfl jz_1 (by omega) (by omega)).trans (by omega)
                refine lv_iinc (v := x112) (lv' := [(6, .int x112), (4, .int x41), (5, .int r102), (7, .int r102), (3, .int r28), (2, .int x26), (1, .int r22), (0, .ref (ad 55))]) hx hb dX12_bestFrom_129 hl (k := 3) rfl (by rw [ex112]; rfl) (by decide) rfl (fun ls hl => ?_)
                refine lv_goto (tgt := 85) hx hb dX12_bestFrom_132 (by decide) ?_
                have z113 : (σ101 55 26).toInt = (σ 55 26).toInt := (congrArg Int32.toInt (show σ101 55 26 = (σ 55 26) from ((f104 26 (by decide)).trans (f51 26 (by decide)))))
                exact ihlp37 x41 r102 x112 σ101 _ _ ls (by have h92 := tx112; omega) (by have h92 := tx112; omega) (by have h92 := tx112; omega) (by have h92 := tx112; omega) (by have h92 := tx112; omega) (by have h92 := tx112; omega) (fun i hi => ((f103 i hi).trans (f50 i hi))) (fun i hi => ((f104 i hi).trans (f51 i hi)))  p105 hP hS (lv_sub hl [0, 2, 1, 4, 5, 6, 7] rfl)
            · obtain ⟨q115, k114⟩ := h88
              have q115 := q115.symm
              subst q115
              have e116 : jmb σ43 x41 = jmb σ x41 := (jmb_fr (f51 27 (by decide)) (f51 30 (by decide)) (f51 31 (by decide)) (f50 56 (by decide)) (f50 69 (by decide)) x41)
              have n117 : ¬ x41 = B0 := fun h => absurd ((hB0).symm.trans (by rw [← h]; exact e116.symm.trans k114) : (1 : Int32) = 0) (by decide)
              have k118 := jne n117 rfl rfl
              refine lv_if_ne (tgt := 106) hx hb dX12_bestFrom_100 (by decide) (fun c => absurd (by decide) c) (fun _ => ?_)
              refine lv_goto (tgt := 129) hx hb dX12_bestFrom_103 (by decide) ?_
              obtain ⟨x119, ex119⟩ : ∃ y : Int32, y = x41 + 1 := ⟨_, rfl⟩
              have tx119 : x119.toInt = x41.toInt + 1 := (jadd ex119 rfl jz_1 (by omega) (by omega)).trans (by omega)
              refine lv_iinc (v := x119) (lv' := [(6, .int x119), (5, .int x40), (4, .int x39), (3, .int r28), (2, .int x26), (1, .int r22), (0, .ref (ad 55))]) hx hb dX12_bestFrom_129 hl (k := 0) rfl (by rw [ex119]; rfl) (by decide) rfl (fun ls hl => ?_)
              refine lv_goto (tgt := 85) hx hb dX12_bestFrom_132 (by decide) ?_
              exact ihlp37 x39 x40 x119 σ43 _ _ ls (by have h92 := tx119; omega) (by have h92 := tx119; omega) (by have h92 := tx119; omega) (by have h92 := tx119; omega) (by have h92 := tx119; omega) (by have h92 := tx119; omega) (fun i hi => (f50 i hi)) (fun i hi => (f51 i hi))  p52 hP hS (lv_sub hl [0, 1, 2, 3, 4, 5, 6] rfl)
      exact lp37 1000000 (-1) 2000000000 0 σ _ _ ls (by have h90 := jz_m1; have h91 := jz_2000000000; have h92 := jz_0; omega) (by have h90 := jz_m1; have h91 := jz_2000000000; have h92 := jz_0; omega) (by have h90 := jz_m1; have h91 := jz_2000000000; have h92 := jz_0; omega) (by have h90 := jz_m1; have h91 := jz_2000000000; have h92 := jz_0; omega) (by have h90 := jz_m1; have h91 := jz_2000000000; have h92 := jz_0; omega) (by have h90 := jz_m1; have h91 := jz_2000000000; have h92 := jz_0; omega) (fun _ _ => rfl) (fun _ _ => rfl)  hs_jKept hP hS hl
    · have kc36 := jeq c36 rfl rfl
      have g120 := hs_jKept r28.toNatClampNeg (jnat (x := r28) rfl (n := 65536) (by omega) (by decide))
      refine lv_aload_n hx hb dX12_bestFrom_57 rfl (lv_at hl 3 rfl) ?_
      refine lv_aload_n hx hb dX12_bestFrom_58 rfl (lv_at hl 3 rfl) ?_
      refine va_get (D := D) hx hb hts inlX12 hown hK hP 55 (jc_55 cI cL ad σ τ) rfl 41 (by decide) (hts _ kw_8_2) (fun _ h9 => h9) rfl dX12_bestFrom_59 ?_
      refine lv_iload_n hx hb dX12_bestFrom_62 rfl (lv_at hl 0 rfl) ?_
      refine jald hx hb hK hP (jc_77 cI cL ad σ τ) (jin rfl (by omega) (by omega)) dX12_bestFrom_63 ?_
      refine jtopr (y := (σ 77 r28.toNatClampNeg)) rfl ?_
      refine jput (ty := .int) hx hb hts inlX12 tyX12 tyX12_ok nmX12 hown hK hP hJ hA hS (jc_55 cI cL ad σ τ) rfl (k := 37) (by decide) (Nat.le_of_ble_eq_true rfl) (jp_55_37 cI cL ad σ τ (σ 77 r28.toNatClampNeg)) (hts _ kw_33_15) (fun _ h9 => h9) rfl (by decide +kernel) rfl rfl dX12_bestFrom_64 (fun σ121 H locs eσ121 hP hS => ?_)
      refine lv_aload_n hx hb dX12_bestFrom_67 rfl (lv_at hl 3 rfl) ?_
      refine va_get (D := D) hx hb hts inlX12 hown hK hP 55 (jc_55 cI cL ad σ121 τ) rfl 40 (by decide) (hts _ kw_8_1) (fun _ h9 => h9) rfl dX12_bestFrom_68 ?_
      refine lv_iload_n hx hb dX12_bestFrom_71 rfl (lv_at hl 0 rfl) ?_
      refine jald hx hb hK hP (jc_76 cI cL ad σ121 τ) (jin rfl (by omega) (by omega)) dX12_bestFrom_72 ?_
      refine jtopr (y := (σ 76 r28.toNatClampNeg)) (by rw [jnp 76 eσ121 (by decide)]) ?_
      have p122 : jKept σ121 := jKept.fr (jnp 75 eσ121 (by decide)) (jnp 76 eσ121 (by decide)) (jnp 77 eσ121 (by decide)) hs_jKept
      have z123 : (σ121 55 37).toInt = (σ 77 r28.toNatClampNeg).toInt := (congrArg Int32.toInt (show σ121 55 37 = (σ 77 r28.toNatClampNeg) from (jsp eσ121)))
      exact hret (σ 76 r28.toNatClampNeg) σ121 τ _ _ _ _ rfl ⟨rfl, (fun i hi => (jnp i eσ121 (imp_205 i hi))), (fun i hi => (jkp i eσ121 (imp_206 i hi))), p122, (by omega), ⟨trivial, (by omega)⟩⟩ hP hS dX12_bestFrom_73
  · obtain ⟨q125, k124⟩ := h30
    have q125 := q125.symm
    subst q125
    refine lv_istore_n (lv' := [(3, .int (-1)), (2, .int x26), (1, .int r22), (0, .ref (ad 55))]) hx hb dX12_bestFrom_39 rfl hl (by decide) rfl (fun ls hl => ?_)
    refine lv_iload_n hx hb dX12_bestFrom_40 rfl (lv_at hl 0 rfl) ?_
    refine lv_if_lt (tgt := 74) hx hb dX12_bestFrom_41 (by decide) (fun _ => ?_) (fun c => absurd (by decide) c)
    refine lv_iconst (v := (-1)) hx hb dX12_bestFrom_74 (by decide) ?_
    refine lv_istore (lv' := [(4, .int (-1)), (3, .int (-1)), (2, .int x26), (1, .int r22), (0, .ref (ad 55))]) hx hb dX12_bestFrom_75 hl (by decide) rfl (fun ls hl => ?_)
    refine lv_ldcw (v := 2000000000) hx hb hown (hts _ kw_34_4) dX12_bestFrom_77 ?_
    refine lv_istore (lv' := [(5, .int 2000000000), (4, .int (-1)), (3, .int (-1)), (2, .int x26), (1, .int r22), (0, .ref (ad 55))]) hx hb dX12_bestFrom_80 hl (by decide) rfl (fun ls hl => ?_)
    refine lv_iconst (v := 0) hx hb dX12_bestFrom_82 (by decide) ?_
    refine lv_istore (lv' := [(6, .int 0), (5, .int 2000000000), (4, .int (-1)), (3, .int (-1)), (2, .int x26), (1, .int r22), (0, .ref (ad 55))]) hx hb dX12_bestFrom_83 hl (by decide) rfl (fun ls hl => ?_)
    have lp126 : ∀ (n127 : Nat) (x128 : Int32) (x129 : Int32) (x130 : Int32) (σ132 : Nat → Nat → Int32) (H : Heap) (locs : List Loc) (ls : Array Slot), (-x130.toInt + 4 : Int) < n127 → (-1) ≤ x128.toInt → x128.toInt ≤ 3 → 0 ≤ x130.toInt → x130.toInt ≤ 4 → ((0 ≤ x128.toInt ∧ 0 ≤ x129.toInt ∧ x129.toInt ≤ -(1023000 * (σ132 55 26).toInt) + 12276000) ∨ (x128.toInt = (-1) ∧ x129.toInt = 2000000000 ∧ x130.toInt ≤ B0.toInt)) → (∀ i : Nat, (i < 55 ∨ 55 < i) ∧ (i < 66 ∨ 66 < i) ∧ (i < 74 ∨ 78 < i) → σ132 i = σ i) → (∀ k : Nat, (k < 18 ∨ 18 < k) ∧ (k < 19 ∨ 19 < k) ∧ (k < 20 ∨ 20 < k) ∧ (k < 21 ∨ 21 < k) ∧ (k < 22 ∨ 22 < k) ∧ (k < 37 ∨ 37 < k) → σ132 55 k = σ 55 k) → jKept σ132 → jH D cI cL ad σ132 τ H → va_S (jA ad) s.heap H locs → lv_has ls 8 [(6, .int x130), (5, .int x129), (4, .int x128), (3, .int (-1)), (2, .int x26), (1, .int r22), (0, .ref (ad 55))] → W p l e ({ frames := (70 + 4 * (n)), cells := 0, slots := 0, locals := (3114 + 240 * (n)) }) s m args below meth c H locs 0 0 Q (F0 m 85 ls []) := by
      intro n127
      induction n127 with
      | zero => intro x128 x129 x130 σ132 H locs ls h133 h134 h135 h136 h137 h138; have gx129 := jrg (rfl : x129.toInt = x129.toInt); exact absurd h133 (by omega)
      | succ n127 ihlp126 =>
        intro x128 x129 x130 σ132 H locs ls h133 h134 h135 h136 h137 h138 f139 f140 p141 hP hS hl
        have gx129 := jrg (rfl : x129.toInt = x129.toInt)
        have z142 : (σ132 55 26).toInt = (σ 55 26).toInt := (congrArg Int32.toInt (show σ132 55 26 = (σ 55 26) from (f140 26 (by decide))))
        refine lv_iload hx hb dX12_bestFrom_85 (lv_at hl 0 rfl) ?_
        refine lv_aload_n hx hb dX12_bestFrom_87 rfl (lv_at hl 6 rfl) ?_
        refine va_get (D := D) hx hb hts inlX12 hown hK hP 55 (jc_55 cI cL ad σ132 τ) rfl 6 (by decide) (hts _ kw_9_13) (fun _ h9 => h9) rfl dX12_bestFrom_88 ?_
        have m143 : σ132 55 6 = (σ 55 6) := (f140 6 (by decide))
        refine jtopr m143 ?_
        refine lv_icmp_ge (tgt := 135) hx hb dX12_bestFrom_91 (by decide) (fun c144 => ?_) (fun c144 => ?_)
        · have kc144 := jle c144 rfl rfl
          refine lv_aload_n hx hb dX12_bestFrom_135 rfl (lv_at hl 6 rfl) ?_
          refine lv_iload_n hx hb dX12_bestFrom_136 rfl (lv_at hl 5 rfl) ?_
          refine lv_iload_n hx hb dX12_bestFrom_137 rfl (lv_at hl 4 rfl) ?_
          refine jcallV (As := [.int r22, .int x26]) (rest := []) ⟨hx, hb, hml, hown, hts⟩ hK hP hA hS hZ (c_X12_spot l D cI cL ad zz hJ σ132 τ r22 (r22.toInt) rfl x26 (16 * (σ 55 26).toInt + (σ 55 25).toInt) tx26) cw_RX12_314 (jc_55 cI cL ad σ132 τ) rfl ⟨by dsimp only; omega, by dsimp only; omega⟩ rfl rfl rfl hl.1 rfl (Nat.le_of_ble_eq_true rfl) dX12_bestFrom_138 ⟨Nat.zero_le _, Nat.zero_le _⟩ (fun r146 σ145 τ145 H locs h145 hP hS => ?_)
          obtain ⟨⟨rfl, rfl⟩, h145⟩ := h145
          rcases h145 with h147 | h148
          · obtain ⟨q151, k149, k150⟩ := h147
            have z153 : (σ132 55 42).toInt = (σ 55 42).toInt := (congrArg Int32.toInt (show σ132 55 42 = (σ 55 42) from (f140 42 (by decide))))
            have k152 : (σ132 78 r146.toNatClampNeg).toInt ≠ (σ132 55 42).toInt ∨ (σ132 75 r146.toNatClampNeg).toInt = 16 * (σ 55 26).toInt + (σ 55 25).toInt := k150.imp (fun q => jne q rfl rfl) (fun q => jeq q rfl tx26)
            refine lv_istore_n (lv' := [(3, .int r146), (6, .int x130), (5, .int x129), (4, .int x128), (2, .int x26), (1, .int r22), (0, .ref (ad 55))]) hx hb dX12_bestFrom_141 rfl hl (by decide) rfl (fun ls hl => ?_)
            refine lv_iload_n hx hb dX12_bestFrom_142 rfl (lv_at hl 0 rfl) ?_
            refine lv_if_lt (tgt := 186) hx hb dX12_bestFrom_143 (by decide) (fun c => absurd (jlt c rfl jz_0) (by omega)) (fun c154 => ?_)
            have kc154 := jnlt c154 rfl jz_0
            refine lv_aload_n hx hb dX12_bestFrom_146 rfl (lv_at hl 6 rfl) ?_
            refine va_get (D := D) hx hb hts inlX12 hown hK hP 55 (jc_55 cI cL ad σ132 τ) rfl 43 (by decide) (hts _ kw_8_3) (fun _ h9 => h9) rfl dX12_bestFrom_147 ?_
            refine lv_iload_n hx hb dX12_bestFrom_150 rfl (lv_at hl 0 rfl) ?_
            refine lv_aload_n hx hb dX12_bestFrom_151 rfl (lv_at hl 6 rfl) ?_
            refine va_get (D := D) hx hb hts inlX12 hown hK hP 55 (jc_55 cI cL ad σ132 τ) rfl 42 (by decide) (hts _ kw_33_10) (fun _ h9 => h9) rfl dX12_bestFrom_152 ?_
            have m155 : σ132 55 42 = (σ 55 42) := (f140 42 (by decide))
            refine jtopr m155 ?_
            refine jast hx hb hK hP hJ hA hS (jc_78 cI cL ad σ132 τ) (ja_78 cI cL ad σ132 τ _ _) (jin rfl (by omega) (by omega)) dX12_bestFrom_155 (fun σ156 H locs eσ156 hP hS => ?_)
            refine lv_aload_n hx hb dX12_bestFrom_156 rfl (lv_at hl 6 rfl) ?_
            refine va_get (D := D) hx hb hts inlX12 hown hK hP 55 (jc_55 cI cL ad σ156 τ) rfl 38 (by decide) (hts _ kw_7_23) (fun _ h9 => h9) rfl dX12_bestFrom_157 ?_
            refine lv_iload_n hx hb dX12_bestFrom_160 rfl (lv_at hl 0 rfl) ?_
            refine lv_iload_n hx hb dX12_bestFrom_161 rfl (lv_at hl 5 rfl) ?_
            refine jast hx hb hK hP hJ hA hS (jc_74 cI cL ad σ156 τ) (ja_74 cI cL ad σ156 τ _ _) (jin rfl (by omega) (by omega)) dX12_bestFrom_162 (fun σ157 H locs eσ157 hP hS => ?_)
            refine lv_aload_n hx hb dX12_bestFrom_163 rfl (lv_at hl 6 rfl) ?_
            refine va_get (D := D) hx hb hts inlX12 hown hK hP 55 (jc_55 cI cL ad σ157 τ) rfl 39 (by decide) (hts _ kw_8_0) (fun _ h9 => h9) rfl dX12_bestFrom_164 ?_
            refine lv_iload_n hx hb dX12_bestFrom_167 rfl (lv_at hl 0 rfl) ?_
            refine lv_iload_n hx hb dX12_bestFrom_168 rfl (lv_at hl 4 rfl) ?_
            refine jast hx hb hK hP hJ hA hS (jc_75 cI cL ad σ157 τ) (ja_75 cI cL ad σ157 τ _ _) (jin rfl (by omega) (by omega)) dX12_bestFrom_169 (fun σ158 H locs eσ158 hP hS => ?_)
            refine lv_aload_n hx hb dX12_bestFrom_170 rfl (lv_at hl 6 rfl) ?_
            refine va_get (D := D) hx hb hts inlX12 hown hK hP 55 (jc_55 cI cL ad σ158 τ) rfl 40 (by decide) (hts _ kw_8_1) (fun _ h9 => h9) rfl dX12_bestFrom_171 ?_
            refine lv_iload_n hx hb dX12_bestFrom_174 rfl (lv_at hl 0 rfl) ?_
            refine lv_iload hx hb dX12_bestFrom_175 (lv_at hl 2 rfl) ?_
            refine jast hx hb hK hP hJ hA hS (jc_76 cI cL ad σ158 τ) (ja_76 cI cL ad σ158 τ _ _) (jin rfl (by omega) (by omega)) dX12_bestFrom_177 (fun σ159 H locs eσ159 hP hS => ?_)
            refine lv_aload_n hx hb dX12_bestFrom_178 rfl (lv_at hl 6 rfl) ?_
            refine va_get (D := D) hx hb hts inlX12 hown hK hP 55 (jc_55 cI cL ad σ159 τ) rfl 41 (by decide) (hts _ kw_8_2) (fun _ h9 => h9) rfl dX12_bestFrom_179 ?_
            refine lv_iload_n hx hb dX12_bestFrom_182 rfl (lv_at hl 0 rfl) ?_
            refine lv_iload hx hb dX12_bestFrom_183 (lv_at hl 3 rfl) ?_
            refine jast hx hb hK hP hJ hA hS (jc_77 cI cL ad σ159 τ) (ja_77 cI cL ad σ159 τ _ _) (jin rfl (by omega) (by omega)) dX12_bestFrom_185 (fun σ160 H locs eσ160 hP hS => ?_)
            have e161 : σ160 75 = jupd (σ132 75) r146.toNatClampNeg x26 := by rw [eσ160, jup_n (by decide), eσ159, jup_n (by decide), eσ158, jup_row, eσ157, jup_n (by decide), eσ156, jup_n (by decide)]
            have e162 : σ160 76 = jupd (σ132 76) r146.toNatClampNeg x129 := by rw [eσ160, jup_n (by decide), eσ159, jup_row, eσ158, jup_n (by decide), eσ157, jup_n (by decide), eσ156, jup_n (by decide)]
            have e163 : σ160 77 = jupd (σ132 77) r146.toNatClampNeg x128 := by rw [eσ160, jup_row, eσ159, jup_n (by decide), eσ158, jup_n (by decide), eσ157, jup_n (by decide), eσ156, jup_n (by decide)]
            have z164 : (σ160 55 26).toInt = (σ 55 26).toInt := (congrArg Int32.toInt (show σ160 55 26 = (σ 55 26) from ((congrFun (jnp 55 eσ160 (by decide)) 26).trans ((congrFun (jnp 55 eσ159 (by decide)) 26).trans ((congrFun (jnp 55 eσ158 (by decide)) 26).trans ((congrFun (jnp 55 eσ157 (by decide)) 26).trans ((congrFun (jnp 55 eσ156 (by decide)) 26).trans (f140 26 (by decide)))))))))
            have p165 : jKept σ160 := p141.on e161 e162 e163 (by have h91 := tx26; omega) (by have h91 := tx26; omega) (by have h91 := tx26; omega) (by have h91 := tx26; omega)
            refine lv_aload_n hx hb dX12_bestFrom_186 rfl (lv_at hl 6 rfl) ?_
            refine lv_iload hx hb dX12_bestFrom_187 (lv_at hl 3 rfl) ?_
            refine jput (ty := .int) hx hb hts inlX12 tyX12 tyX12_ok nmX12 hown hK hP hJ hA hS (jc_55 cI cL ad σ160 τ) rfl (k := 37) (by decide) (Nat.le_of_ble_eq_true rfl) (jp_55_37 cI cL ad σ160 τ x128) (hts _ kw_33_15) (fun _ h9 => h9) rfl (by decide +kernel) rfl rfl dX12_bestFrom_189 (fun σ166 H locs eσ166 hP hS => ?_)
            refine lv_iload hx hb dX12_bestFrom_192 (lv_at hl 2 rfl) ?_
            have p167 : jKept σ166 := jKept.fr (jnp 75 eσ166 (by decide)) (jnp 76 eσ166 (by decide)) (jnp 77 eσ166 (by decide)) p165
            have z168 : (σ166 55 37).toInt = x128.toInt := (congrArg Int32.toInt (show σ166 55 37 = x128 from (jsp eσ166)))
            exact hret x129 σ166 τ _ _ _ _ rfl ⟨rfl, (fun i hi => ((jnp i eσ166 (imp_205 i hi)).trans ((jnp i eσ160 (imp_207 i hi)).trans ((jnp i eσ159 (imp_208 i hi)).trans ((jnp i eσ158 (imp_209 i hi)).trans ((jnp i eσ157 (imp_210 i hi)).trans ((jnp i eσ156 (imp_211 i hi)).trans (f139 i hi)))))))), (fun i hi => ((jkp i eσ166 (imp_206 i hi)).trans ((congrFun (jnp 55 eσ160 (by decide)) i).trans ((congrFun (jnp 55 eσ159 (by decide)) i).trans ((congrFun (jnp 55 eσ158 (by decide)) i).trans ((congrFun (jnp 55 eσ157 (by decide)) i).trans ((congrFun (jnp 55 eσ156 (by decide)) i).trans (f140 i hi)))))))), p167, (by omega), ⟨trivial, (by omega)⟩⟩ hP hS dX12_bestFrom_194
          · obtain ⟨q170, k169⟩ := h148
            have q170 := q170.symm
            subst q170
            refine lv_istore_n (lv' := [(3, .int (-1)), (6, .int x130), (5, .int x129), (4, .int x128), (2, .int x26), (1, .int r22), (0, .ref (ad 55))]) hx hb dX12_bestFrom_141 rfl hl (by decide) rfl (fun ls hl => ?_)
            refine lv_iload_n hx hb dX12_bestFrom_142 rfl (lv_at hl 0 rfl) ?_
            refine lv_if_lt (tgt := 186) hx hb dX12_bestFrom_143 (by decide) (fun _ => ?_) (fun c => absurd (by decide) c)
            refine lv_aload_n hx hb dX12_bestFrom_186 rfl (lv_at hl 6 rfl) ?_
            refine lv_iload hx hb dX12_bestFrom_187 (lv_at hl 3 rfl) ?_
            refine jput (ty := .int) hx hb hts inlX12 tyX12 tyX12_ok nmX12 hown hK hP hJ hA hS (jc_55 cI cL ad σ132 τ) rfl (k := 37) (by decide) (Nat.le_of_ble_eq_true rfl) (jp_55_37 cI cL ad σ132 τ x128) (hts _ kw_33_15) (fun _ h9 => h9) rfl (by decide +kernel) rfl rfl dX12_bestFrom_189 (fun σ171 H locs eσ171 hP hS => ?_)
            refine lv_iload hx hb dX12_bestFrom_192 (lv_at hl 2 rfl) ?_
            have p172 : jKept σ171 := jKept.fr (jnp 75 eσ171 (by decide)) (jnp 76 eσ171 (by decide)) (jnp 77 eσ171 (by decide)) p141
            have z173 : (σ171 55 37).toInt = x128.toInt := (congrArg Int32.toInt (show σ171 55 37 = x128 from (jsp eσ171)))
            exact hret x129 σ171 τ _ _ _ _ rfl ⟨rfl, (fun i hi => ((jnp i eσ171 (imp_205 i hi)).trans (f139 i hi))), (fun i hi => ((jkp i eσ171 (imp_206 i hi)).trans (f140 i hi))), p172, (by omega), ⟨trivial, (by omega)⟩⟩ hP hS dX12_bestFrom_194
        · have kc144 := jnle c144 rfl rfl
          refine lv_aload_n hx hb dX12_bestFrom_94 rfl (lv_at hl 6 rfl) ?_
          refine lv_iload hx hb dX12_bestFrom_95 (lv_at hl 0 rfl) ?_
          refine jcallV (As := [.int x130]) (rest := []) ⟨hx, hb, hml, hown, hts⟩ hK hP hA hS hZ (c_X12_mayBowl l D cI cL ad zz hJ σ132 τ x130 (x130.toInt) rfl (by omega)) cw_RX12_249 (jc_55 cI cL ad σ132 τ) rfl ⟨by dsimp only; omega, by dsimp only; omega⟩ rfl rfl rfl hl.1 rfl (Nat.le_of_ble_eq_true rfl) dX12_bestFrom_97 ⟨Nat.zero_le _, Nat.zero_le _⟩ (fun r175 σ174 τ174 H locs h174 hP hS => ?_)
          obtain ⟨⟨rfl, rfl⟩, h174⟩ := h174
          rcases h174 with h176 | h177
          · obtain ⟨q179, k178⟩ := h176
            have q179 := q179.symm
            subst q179
            refine lv_if_ne (tgt := 106) hx hb dX12_bestFrom_100 (by decide) (fun _ => ?_) (fun c => absurd c (by decide))
            refine lv_aload_n hx hb dX12_bestFrom_106 rfl (lv_at hl 6 rfl) ?_
            refine lv_iload hx hb dX12_bestFrom_107 (lv_at hl 0 rfl) ?_
            have I180 : jI101 σ132 := jI101_fr (f140 4 (by decide)) (f140 5 (by decide)) (f139 56 (by decide)) (f139 57 (by decide)) (f139 58 (by decide)) (f139 59 (by decide)) hI101
            have I181 : jI102 σ132 := jI102_fr (f140 6 (by decide)) (f139 60 (by decide)) (f139 61 (by decide)) hI102
            have I182 : jI103 σ132 := jI103_fr (f140 9 (by decide)) hI103
            have I183 : jI104 σ132 := jI104_fr (f140 10 (by decide)) (f140 12 (by decide)) (f140 13 (by decide)) (f139 62 (by decide)) (f139 67 (by decide)) hI104
            have I184 : jI105 σ132 := jI105_fr (f140 15 (by decide)) (f139 65 (by decide)) hI105
            have I185 : jI106 σ132 := jI106_fr (f140 32 (by decide)) (f139 70 (by decide)) (f139 71 (by decide)) (f139 72 (by decide)) hI106
            have I186 : jI120 σ132 := jI120_fr (f140 10 (by decide)) (f140 12 (by decide)) (f140 25 (by decide)) (f140 26 (by decide)) (f140 27 (by decide)) (f139 68 (by decide)) hI120
            have z187 : (σ132 55 25).toInt = (σ 55 25).toInt := (congrArg Int32.toInt (show σ132 55 25 = (σ 55 25) from (f140 25 (by decide))))
            have z188 : (σ132 55 10).toInt = (σ 55 10).toInt := (congrArg Int32.toInt (show σ132 55 10 = (σ 55 10) from (f140 10 (by decide))))
            have z189 : (σ132 55 12).toInt = (σ 55 12).toInt := (congrArg Int32.toInt (show σ132 55 12 = (σ 55 12) from (f140 12 (by decide))))
            refine jcallV (As := [.int x130]) (rest := []) ⟨hx, hb, hml, hown, hts⟩ hK hP hA hS hZ (h_mean σ132 τ x130 (x130.toInt) rfl I180 I181 I182 I183 I184 I185 I186 p141 (by omega) (by omega) (by omega) (by omega)) cw_RX12_318 (jc_55 cI cL ad σ132 τ) rfl ⟨by dsimp only; omega, by dsimp only; omega⟩ rfl rfl rfl hl.1 rfl (Nat.le_of_ble_eq_true rfl) dX12_bestFrom_109 ⟨Nat.zero_le _, Nat.zero_le _⟩ (fun r191 σ190 τ190 H locs h190 hP hS => ?_)
            obtain ⟨rfl, f192, f193, p194, h190⟩ := h190
            have h195 := h190
            obtain ⟨q197, k196⟩ := h195
            refine lv_istore (lv' := [(7, .int r191), (6, .int x130), (5, .int x129), (4, .int x128), (3, .int (-1)), (2, .int x26), (1, .int r22), (0, .ref (ad 55))]) hx hb dX12_bestFrom_112 hl (by decide) rfl (fun ls hl => ?_)
            refine lv_iload hx hb dX12_bestFrom_114 (lv_at hl 0 rfl) ?_
            refine lv_iload hx hb dX12_bestFrom_116 (lv_at hl 2 rfl) ?_
            refine lv_icmp_ge (tgt := 129) hx hb dX12_bestFrom_118 (by decide) (fun c198 => ?_) (fun c198 => ?_)
            · have kc198 := jle c198 rfl rfl
              obtain ⟨x199, ex199⟩ : ∃ y : Int32, y = x130 + 1 := ⟨_, rfl⟩
              have tx199 : x199.toInt = x130.toInt + 1 := (jadd ex199 rfl jz_1 (by omega) (by omega)).trans (by omega)
              refine lv_iinc (v := x199) (lv' := [(6, .int x199), (7, .int r191), (5, .int x129), (4, .int x128), (3, .int (-1)), (2, .int x26), (1, .int r22), (0, .ref (ad 55))]) hx hb dX12_bestFrom_129 hl (k := 1) rfl (by rw [ex199]; rfl) (by decide) rfl (fun ls hl => ?_)
              refine lv_goto (tgt := 85) hx hb dX12_bestFrom_132 (by decide) ?_
              have z200 : (σ190 55 26).toInt = (σ 55 26).toInt := (congrArg Int32.toInt (show σ190 55 26 = (σ 55 26) from ((f193 26 (by decide)).trans (f140 26 (by decide)))))
              exact ihlp126 x128 x129 x199 σ190 _ _ ls (by have h92 := tx199; omega) (by have h92 := tx199; omega) (by have h92 := tx199; omega) (by have h92 := tx199; omega) (by have h92 := tx199; omega) (by have h92 := tx199; omega) (fun i hi => ((f192 i hi).trans (f139 i hi))) (fun i hi => ((f193 i hi).trans (f140 i hi)))  p194 hP hS (lv_sub hl [0, 2, 3, 4, 5, 6, 7] rfl)
            · have kc198 := jnle c198 rfl rfl
              refine lv_iload hx hb dX12_bestFrom_121 (lv_at hl 0 rfl) ?_
              refine lv_istore (lv' := [(5, .int r191), (7, .int r191), (6, .int x130), (4, .int x128), (3, .int (-1)), (2, .int x26), (1, .int r22), (0, .ref (ad 55))]) hx hb dX12_bestFrom_123 hl (by decide) rfl (fun ls hl => ?_)
              refine lv_iload hx hb dX12_bestFrom_125 (lv_at hl 2 rfl) ?_
              refine lv_istore (lv' := [(4, .int x130), (5, .int r191), (7, .int r191), (6, .int x130), (3, .int (-1)), (2, .int x26), (1, .int r22), (0, .ref (ad 55))]) hx hb dX12_bestFrom_127 hl (by decide) rfl (fun ls hl => ?_)
              obtain ⟨x201, ex201⟩ : ∃ y : Int32, y = x130 + 1 := ⟨_, rfl⟩
              have tx201 : x201.toInt = x130.toInt + 1 := (jadd ex201 rfl jz_1 (by omega) (by omega)).trans (by omega)
              refine lv_iinc (v := x201) (lv' := [(6, .int x201), (4, .int x130), (5, .int r191), (7, .int r191), (3, .int (-1)), (2, .int x26), (1, .int r22), (0, .ref (ad 55))]) hx hb dX12_bestFrom_129 hl (k := 3) rfl (by rw [ex201]; rfl) (by decide) rfl (fun ls hl => ?_)
              refine lv_goto (tgt := 85) hx hb dX12_bestFrom_132 (by decide) ?_
              have z202 : (σ190 55 26).toInt = (σ 55 26).toInt := (congrArg Int32.toInt (show σ190 55 26 = (σ 55 26) from ((f193 26 (by decide)).trans (f140 26 (by decide)))))
              exact ihlp126 x130 r191 x201 σ190 _ _ ls (by have h92 := tx201; omega) (by have h92 := tx201; omega) (by have h92 := tx201; omega) (by have h92 := tx201; omega) (by have h92 := tx201; omega) (by have h92 := tx201; omega) (fun i hi => ((f192 i hi).trans (f139 i hi))) (fun i hi => ((f193 i hi).trans (f140 i hi)))  p194 hP hS (lv_sub hl [0, 2, 1, 4, 5, 6, 7] rfl)
          · obtain ⟨q204, k203⟩ := h177
            have q204 := q204.symm
            subst q204
            have e205 : jmb σ132 x130 = jmb σ x130 := (jmb_fr (f140 27 (by decide)) (f140 30 (by decide)) (f140 31 (by decide)) (f139 56 (by decide)) (f139 69 (by decide)) x130)
            have n206 : ¬ x130 = B0 := fun h => absurd ((hB0).symm.trans (by rw [← h]; exact e205.symm.trans k203) : (1 : Int32) = 0) (by decide)
            have k207 := jne n206 rfl rfl
            refine lv_if_ne (tgt := 106) hx hb dX12_bestFrom_100 (by decide) (fun c => absurd (by decide) c) (fun _ => ?_)
            refine lv_goto (tgt := 129) hx hb dX12_bestFrom_103 (by decide) ?_
            obtain ⟨x208, ex208⟩ : ∃ y : Int32, y = x130 + 1 := ⟨_, rfl⟩
            have tx208 : x208.toInt = x130.toInt + 1 := (jadd ex208 rfl jz_1 (by omega) (by omega)).trans (by omega)
            refine lv_iinc (v := x208) (lv' := [(6, .int x208), (5, .int x129), (4, .int x128), (3, .int (-1)), (2, .int x26), (1, .int r22), (0, .ref (ad 55))]) hx hb dX12_bestFrom_129 hl (k := 0) rfl (by rw [ex208]; rfl) (by decide) rfl (fun ls hl => ?_)
            refine lv_goto (tgt := 85) hx hb dX12_bestFrom_132 (by decide) ?_
            exact ihlp126 x128 x129 x208 σ132 _ _ ls (by have h92 := tx208; omega) (by have h92 := tx208; omega) (by have h92 := tx208; omega) (by have h92 := tx208; omega) (by have h92 := tx208; omega) (by have h92 := tx208; omega) (fun i hi => (f139 i hi)) (fun i hi => (f140 i hi))  p141 hP hS (lv_sub hl [0, 1, 2, 3, 4, 5, 6] rfl)
    exact lp126 1000000 (-1) 2000000000 0 σ _ _ ls (by have h90 := jz_m1; have h91 := jz_2000000000; have h92 := jz_0; omega) (by have h90 := jz_m1; have h91 := jz_2000000000; have h92 := jz_0; omega) (by have h90 := jz_m1; have h91 := jz_2000000000; have h92 := jz_0; omega) (by have h90 := jz_m1; have h91 := jz_2000000000; have h92 := jz_0; omega) (by have h90 := jz_m1; have h91 := jz_2000000000; have h92 := jz_0; omega) (by have h90 := jz_m1; have h91 := jz_2000000000; have h92 := jz_0; omega) (fun _ _ => rfl) (fun _ _ => rfl)  hs_jKept hP hS hl
set_option maxHeartbeats 4000000 in
set_option maxRecDepth 100000 in
theorem c_X12_bests (l : Launch) (D : va_G) (cI cL : ClassId) (ad zz : Nat → Nat) (hJ : jD ad) (n : Nat) : (∀ (σ : Nat → Nat → Int32) (τ : Nat → Nat → Int64) (a1 : Int32) (A1 : Int) (t1 : a1.toInt = A1) (hI101 : jI101 σ) (hI102 : jI102 σ) (hI103 : jI103 σ) (hI104 : jI104 σ) (hI105 : jI105 σ) (hI106 : jI106 σ) (hI120 : jI120 σ) (hs_jKept : jKept σ) (hp0 : 0 ≤ A1 ∧ A1 ≤ 3) (hp1 : (σ 55 25).toInt < (σ 55 10).toInt) (hp2 : (σ 55 26).toInt < (σ 55 12).toInt) (hp3 : (σ 55 12).toInt - (σ 55 26).toInt ≤ (((n) : Nat) : Int)), jM l yX12_meanWith cX12_meanWith 8 (some .int) ({ frames := (69 + 4 * (n)), cells := 0, slots := 0, locals := (3034 + 240 * (n)) }) D cI cL ad zz [.ref (ad 55), .int a1] σ τ (fun r σ' τ' => τ = τ' ∧ (∀ i : Nat, (i < 55 ∨ 55 < i) ∧ (i < 66 ∨ 66 < i) ∧ (i < 74 ∨ 78 < i) → σ' i = σ i) ∧ (∀ k : Nat, (k < 18 ∨ 18 < k) ∧ (k < 19 ∨ 19 < k) ∧ (k < 20 ∨ 20 < k) ∧ (k < 21 ∨ 21 < k) ∧ (k < 22 ∨ 22 < k) ∧ (k < 37 ∨ 37 < k) → σ' 55 k = σ 55 k) ∧ (jKept σ') ∧ ((True ∧ (0 ≤ r.toInt ∧ r.toInt ≤ -(1023000 * (σ 55 26).toInt) + 12276000))))) ∧ (∀ (σ : Nat → Nat → Int32) (τ : Nat → Nat → Int64) (hI101 : jI101 σ) (hI102 : jI102 σ) (hI103 : jI103 σ) (hI104 : jI104 σ) (hI105 : jI105 σ) (hI106 : jI106 σ) (hI120 : jI120 σ) (hs_jKept : jKept σ) (hp0 : (σ 55 12).toInt - (σ 55 26).toInt ≤ (((n) : Nat) : Int)), jM l yX12_bestFrom cX12_bestFrom 8 (some .int) ({ frames := (70 + 4 * (n)), cells := 0, slots := 0, locals := (3114 + 240 * (n)) }) D cI cL ad zz [.ref (ad 55)] σ τ (fun r σ' τ' => τ = τ' ∧ (∀ i : Nat, (i < 55 ∨ 55 < i) ∧ (i < 66 ∨ 66 < i) ∧ (i < 74 ∨ 78 < i) → σ' i = σ i) ∧ (∀ k : Nat, (k < 18 ∨ 18 < k) ∧ (k < 19 ∨ 19 < k) ∧ (k < 20 ∨ 20 < k) ∧ (k < 21 ∨ 21 < k) ∧ (k < 22 ∨ 22 < k) ∧ (k < 37 ∨ 37 < k) → σ' 55 k = σ 55 k) ∧ (jKept σ') ∧ ((-2) ≤ (σ' 55 37).toInt ∧ (σ' 55 37).toInt ≤ 3) ∧ ((True ∧ (0 ≤ r.toInt ∧ r.toInt ≤ -(1023000 * (σ 55 26).toInt) + 12276000))))) ∧ (∀ (σ : Nat → Nat → Int32) (τ : Nat → Nat → Int64) (B0 : Int32) (hB0 : jmb σ B0 = 1) (hI101 : jI101 σ) (hI102 : jI102 σ) (hI103 : jI103 σ) (hI104 : jI104 σ) (hI105 : jI105 σ) (hI106 : jI106 σ) (hI120 : jI120 σ) (hs_jKept : jKept σ) (hp0 : 0 ≤ B0.toInt ∧ B0.toInt < (σ 55 6).toInt) (hp1 : (σ 55 25).toInt < (σ 55 10).toInt) (hp2 : (σ 55 26).toInt < (σ 55 12).toInt) (hp3 : (σ 55 12).toInt - (σ 55 26).toInt ≤ (((n) : Nat) : Int)), jM l yX12_bestFrom cX12_bestFrom 8 (some .int) ({ frames := (70 + 4 * (n)), cells := 0, slots := 0, locals := (3114 + 240 * (n)) }) D cI cL ad zz [.ref (ad 55)] σ τ (fun r σ' τ' => τ = τ' ∧ (∀ i : Nat, (i < 55 ∨ 55 < i) ∧ (i < 66 ∨ 66 < i) ∧ (i < 74 ∨ 78 < i) → σ' i = σ i) ∧ (∀ k : Nat, (k < 18 ∨ 18 < k) ∧ (k < 19 ∨ 19 < k) ∧ (k < 20 ∨ 20 < k) ∧ (k < 21 ∨ 21 < k) ∧ (k < 22 ∨ 22 < k) ∧ (k < 37 ∨ 37 < k) → σ' 55 k = σ 55 k) ∧ (jKept σ') ∧ (0 ≤ (σ' 55 37).toInt ∧ (σ' 55 37).toInt ≤ 3) ∧ ((True ∧ (0 ≤ r.toInt ∧ r.toInt ≤ -(1023000 * (σ 55 26).toInt) + 12276000))))) := by
  induction n with
  | zero =>
    have h_mean := c_X12_bests_mean_z l D cI cL ad zz hJ
    have h_bf := c_X12_bests_bf_g l D cI cL ad zz hJ 0 h_mean
    have h_bw := c_X12_bests_bw_g l D cI cL ad zz hJ 0 h_mean
    exact ⟨h_mean, h_bf, h_bw⟩
  | succ n ih =>
    obtain ⟨g_mean, g_bf, g_bw⟩ := ih
    have h_mean := c_X12_bests_mean_g l D cI cL ad zz hJ n g_bf
    have h_bf := c_X12_bests_bf_g l D cI cL ad zz hJ (n + 1) h_mean
    have h_bw := c_X12_bests_bw_g l D cI cL ad zz hJ (n + 1) h_mean
    exact ⟨h_mean, h_bf, h_bw⟩
