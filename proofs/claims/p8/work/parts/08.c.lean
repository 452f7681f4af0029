set_option maxHeartbeats 4000000 in
set_option maxRecDepth 100000 in
theorem c_X12_mixed_b (l : Launch) (D : va_G) (cI cL : ClassId) (ad zz : Nat → Nat) (hJ : jD ad) (σ : Nat → Nat → Int32) (τ : Nat → Nat → Int64) (a1 : Int32) (A1 : Int) (t1 : a1.toInt = A1) (a2 : Int32) (A2 : Int) (t2 : a2.toInt = A2) (a3 : Int32) (A3 : Int) (t3 : a3.toInt = A3) (hp0 : 0 ≤ A1 ∧ A1 ≤ 2000000000) (hp1 : 0 ≤ A2 ∧ A2 ≤ 2000000000) (hp2 : 0 ≤ A3 ∧ A3 ≤ 1000) : jM l yX12_mixed cX12_mixed 3 (some .int) ({ frames := 0, cells := 0, slots := 0, locals := 0 }) D cI cL ad zz [.int a1, .int a2, .int a3] σ τ (fun r σ' τ' => (σ = σ' ∧ τ = τ') ∧ ((True ∧ (0 ≤ r.toInt) ∧ ((r.toInt ≤ A1) ∨ (r.toInt ≤ A2))))) := by
  refine jM.of hJ (by decide +kernel) (nt := .int) rfl (Nat.le_of_ble_eq_true rfl) ?_
  intro p e s m args below meth c Q ls hC hret hl hP
  obtain ⟨hx, hb, hr, hml, hown, hts, hK, -, hlocks, hZ⟩ := hC
  have hown : s.vm.findClass RX12 = some m.cls := hown
  have hS : va_S (jA ad) s.heap s.heap [] := va_S.rf
  have hA : ∀ q, jA ad q → jA ad q := fun _ h => h
  have hl : lv_has ls 3 [(0, .int a1), (1, .int a2), (2, .int a3)] := hl
  have g1 := jrg t1
  have g2 := jrg t2
  have g3 := jrg t3
  refine lv_iload_n hx hb dX12_mixed_0 rfl (lv_at hl 2 rfl) ?_
  refine lv_i2l (v := a3.toInt64) hx hb dX12_mixed_1 rfl ?_
  refine lv_iload_n hx hb dX12_mixed_2 rfl (lv_at hl 0 rfl) ?_
  refine lv_i2l (v := a1.toInt64) hx hb dX12_mixed_3 rfl ?_
  refine lv_lmul hx hb dX12_mixed_4 ?_
  refine lv_topl (fun lx1 elx1 => ?_)
  have g2 := jprod (a := 1000) (b := 2000000000) (jtoL t3) (jtoL t1) (by omega) (by omega) (by omega) (by omega)
  have tlx1 : lx1.toInt = (A3 * A1) := jlmul elx1 (jtoL t3) (jtoL t1) (by omega) (by omega)
  refine lv_sipush (v := 1000) hx hb dX12_mixed_5 (by decide) ?_
  refine lv_iload_n hx hb dX12_mixed_8 rfl (lv_at hl 2 rfl) ?_
  refine lv_isub hx hb dX12_mixed_9 ?_
  refine lv_topi (fun x3 ex3 => ?_)
  have tx3 : x3.toInt = -A3 + 1000 := (jsub ex3 jz_1000 t3 (by omega) (by omega)).trans (by omega)
  refine lv_i2l (v := x3.toInt64) hx hb dX12_mixed_10 rfl ?_
  refine lv_iload_n hx hb dX12_mixed_11 rfl (lv_at hl 1 rfl) ?_
  refine lv_i2l (v := a2.toInt64) hx hb dX12_mixed_12 rfl ?_
  refine lv_lmul hx hb dX12_mixed_13 ?_
  refine lv_topl (fun lx4 elx4 => ?_)
  have g5 := jprod (a := 1000) (b := 2000000000) (jtoL tx3) (jtoL t2) (by omega) (by omega) (by omega) (by omega)
  have tlx4 : lx4.toInt = ((-A3 + 1000) * A2) := jlmul elx4 (jtoL tx3) (jtoL t2) (by omega) (by omega)
  refine lv_ladd hx hb dX12_mixed_14 ?_
  refine lv_topl (fun lx6 elx6 => ?_)
  have tlx6 : lx6.toInt = (A3 * A1) + ((-A3 + 1000) * A2) := (jladd elx6 tlx1 tlx4 (by omega) (by omega)).trans (by omega)
  have g7 := jmix (c := A3) (p := A1) (q := A2) (by omega) (by omega) (by omega) (by omega)
  refine lv_ldc2 (v := 1000) hx hb hown (hts _ kw_34_19) dX12_mixed_15 ?_
  refine lv_ldiv hx hb dX12_mixed_18 (by decide) ?_
  refine lv_topl (fun lx8 elx8 => ?_)
  have tlx8 : lx8.toInt = (((A3 * A1) + ((-A3 + 1000) * A2)) / 1000) := jldiv elx8 tlx6 jzl_1000 (by omega) (by omega)
  have g9 : (((A3 * A1) + ((-A3 + 1000) * A2)) / 1000) ≤ 2000000000 := by omega
  refine lv_l2i hx hb dX12_mixed_19 rfl ?_
  refine lv_topi (fun x10 ex10 => ?_)
  have tx10 : x10.toInt = (((A3 * A1) + ((-A3 + 1000) * A2)) / 1000) := jtoI ex10 tlx8 (by omega) (by omega)
  exact hret x10 σ τ _ _ _ _ rfl ⟨⟨rfl, rfl⟩, ⟨trivial, (by have h9 := tx10; omega), (by have h9 := tx10; omega)⟩⟩ hP hS dX12_mixed_20
set_option maxHeartbeats 4000000 in
set_option maxRecDepth 100000 in
theorem c_X12_mixed (l : Launch) (D : va_G) (cI cL : ClassId) (ad zz : Nat → Nat) (hJ : jD ad) (σ : Nat → Nat → Int32) (τ : Nat → Nat → Int64) (a1 : Int32) (A1 : Int) (t1 : a1.toInt = A1) (a2 : Int32) (A2 : Int) (t2 : a2.toInt = A2) (a3 : Int32) (A3 : Int) (t3 : a3.toInt = A3) : jM l yX12_mixed cX12_mixed 3 (some .int) ({ frames := 0, cells := 0, slots := 0, locals := 0 }) D cI cL ad zz [.int a1, .int a2, .int a3] σ τ (fun r σ' τ' => (σ = σ' ∧ τ = τ') ∧ True) := by
  refine jM.of hJ (by decide +kernel) (nt := .int) rfl (Nat.le_of_ble_eq_true rfl) ?_
  intro p e s m args below meth c Q ls hC hret hl hP
  obtain ⟨hx, hb, hr, hml, hown, hts, hK, -, hlocks, hZ⟩ := hC
  have hown : s.vm.findClass RX12 = some m.cls := hown
  have hS : va_S (jA ad) s.heap s.heap [] := va_S.rf
  have hA : ∀ q, jA ad q → jA ad q := fun _ h => h
  have hl : lv_has ls 3 [(0, .int a1), (1, .int a2), (2, .int a3)] := hl
  have g1 := jrg t1
  have g2 := jrg t2
  have g3 := jrg t3
  refine lv_iload_n hx hb dX12_mixed_0 rfl (lv_at hl 2 rfl) ?_
  refine lv_i2l (v := a3.toInt64) hx hb dX12_mixed_1 rfl ?_
  refine lv_iload_n hx hb dX12_mixed_2 rfl (lv_at hl 0 rfl) ?_
  refine lv_i2l (v := a1.toInt64) hx hb dX12_mixed_3 rfl ?_
  refine lv_lmul hx hb dX12_mixed_4 ?_
  refine lv_topl (fun lx1 elx1 => ?_)
  refine lv_sipush (v := 1000) hx hb dX12_mixed_5 (by decide) ?_
  refine lv_iload_n hx hb dX12_mixed_8 rfl (lv_at hl 2 rfl) ?_
  refine lv_isub hx hb dX12_mixed_9 ?_
  refine lv_topi (fun x2 ex2 => ?_)
  have gx2 := jrg (rfl : x2.toInt = x2.toInt)
  refine lv_i2l (v := x2.toInt64) hx hb dX12_mixed_10 rfl ?_
  refine lv_iload_n hx hb dX12_mixed_11 rfl (lv_at hl 1 rfl) ?_
  refine lv_i2l (v := a2.toInt64) hx hb dX12_mixed_12 rfl ?_
  refine lv_lmul hx hb dX12_mixed_13 ?_
  refine lv_topl (fun lx3 elx3 => ?_)
  refine lv_ladd hx hb dX12_mixed_14 ?_
  refine lv_topl (fun lx4 elx4 => ?_)
  refine lv_ldc2 (v := 1000) hx hb hown (hts _ kw_34_19) dX12_mixed_15 ?_
  refine lv_ldiv hx hb dX12_mixed_18 (by decide) ?_
  refine lv_topl (fun lx5 elx5 => ?_)
  refine lv_l2i hx hb dX12_mixed_19 rfl ?_
  refine lv_topi (fun x6 ex6 => ?_)
  have gx6 := jrg (rfl : x6.toInt = x6.toInt)
  exact hret x6 σ τ _ _ _ _ rfl ⟨⟨rfl, rfl⟩, trivial⟩ hP hS dX12_mixed_20
set_option maxHeartbeats 4000000 in
set_option maxRecDepth 100000 in
theorem c_X12_forgets (l : Launch) (D : va_G) (cI cL : ClassId) (ad zz : Nat → Nat) (hJ : jD ad) (σ : Nat → Nat → Int32) (τ : Nat → Nat → Int64) : jMv l yX12_forgets cX12_forgets 1 none ({ frames := 0, cells := 0, slots := 0, locals := 0 }) D cI cL ad zz [.ref (ad 55)] σ τ (fun σ' τ' => τ = τ' ∧ (∀ i : Nat, (i < 55 ∨ 55 < i) → σ' i = σ i) ∧ (∀ k : Nat, (k < 42 ∨ 42 < k) → σ' 55 k = σ 55 k) ∧ True) := by
  refine jMv.of hJ (by decide +kernel) rfl (Nat.le_of_ble_eq_true rfl) ?_
  intro p e s m args below meth c Q ls hC hret hl hP
  obtain ⟨hx, hb, hr, hml, hown, hts, hK, -, hlocks, hZ⟩ := hC
  have hown : s.vm.findClass RX12 = some m.cls := hown
  have hS : va_S (jA ad) s.heap s.heap [] := va_S.rf
  have hA : ∀ q, jA ad q → jA ad q := fun _ h => h
  have hl : lv_has ls 1 [(0, .ref (ad 55))] := hl
  refine lv_aload_n hx hb dX12_forgets_0 rfl (lv_at hl 0 rfl) ?_
  refine lv_dup hx hb dX12_forgets_1 rfl ?_
  refine va_get (D := D) hx hb hts inlX12 hown hK hP 55 (jc_55 cI cL ad σ τ) rfl 42 (by decide) (hts _ kw_33_10) (fun _ h9 => h9) rfl dX12_forgets_2 ?_
  refine lv_iconst (v := 1) hx hb dX12_forgets_5 (by decide) ?_
  have g1 := jrg (rfl : (σ 55 42).toInt = (σ 55 42).toInt)
  refine lv_iadd hx hb dX12_forgets_6 ?_
  refine lv_topi (fun x2 ex2 => ?_)
  have gx2 := jrg (rfl : x2.toInt = x2.toInt)
  refine jput (ty := .int) hx hb hts inlX12 tyX12 tyX12_ok nmX12 hown hK hP hJ hA hS (jc_55 cI cL ad σ τ) rfl (k := 42) (by decide) (Nat.le_of_ble_eq_true rfl) (jp_55_42 cI cL ad σ τ x2) (hts _ kw_33_10) (fun _ h9 => h9) rfl (by decide +kernel) rfl rfl dX12_forgets_7 (fun σ3 H locs eσ3 hP hS => ?_)
  exact hret σ3 τ _ _ _ _ ⟨rfl, (fun i hi => (jnp i eσ3 (imp_165 i hi))), (fun i hi => (jkp i eσ3 (imp_199 i hi))), trivial⟩ hP hS dX12_forgets_10
set_option maxHeartbeats 4000000 in
set_option maxRecDepth 100000 in
theorem c_X12_stateNumber (l : Launch) (D : va_G) (cI cL : ClassId) (ad zz : Nat → Nat) (hJ : jD ad) (σ : Nat → Nat → Int32) (τ : Nat → Nat → Int64) (hI102 : jI102 σ) (hw68 : ∀ k : Nat, k < 4 → 0 ≤ (σ 68 k).toInt ∧ (σ 68 k).toInt ≤ 3) : jM l yX12_stateNumber cX12_stateNumber 3 (some .int) ({ frames := 0, cells := 0, slots := 0, locals := 0 }) D cI cL ad zz [.ref (ad 55)] σ τ (fun r σ' τ' => (σ = σ' ∧ τ = τ') ∧ True) := by
  refine jM.of hJ (by decide +kernel) (nt := .int) rfl (Nat.le_of_ble_eq_true rfl) ?_
  intro p e s m args below meth c Q ls hC hret hl hP
  obtain ⟨hx, hb, hr, hml, hown, hts, hK, -, hlocks, hZ⟩ := hC
  have hown : s.vm.findClass RX12 = some m.cls := hown
  have hS : va_S (jA ad) s.heap s.heap [] := va_S.rf
  have hA : ∀ q, jA ad q → jA ad q := fun _ h => h
  have hl : lv_has ls 3 [(0, .ref (ad 55))] := hl
  obtain ⟨i1, w2, w3⟩ : (0 ≤ (σ 55 6).toInt ∧ (σ 55 6).toInt ≤ 4) ∧ (∀ k : Nat, k < 4 → 0 ≤ (σ 60 k).toInt ∧ (σ 60 k).toInt ≤ 50) ∧ (∀ k : Nat, k < 4 → 0 ≤ (σ 61 k).toInt ∧ (σ 61 k).toInt ≤ 20) := id hI102
  refine lv_aload_n hx hb dX12_stateNumber_0 rfl (lv_at hl 0 rfl) ?_
  refine va_get (D := D) hx hb hts inlX12 hown hK hP 55 (jc_55 cI cL ad σ τ) rfl 27 (by decide) (hts _ kw_23_11) (fun _ h9 => h9) rfl dX12_stateNumber_1 ?_
  refine lv_iconst (v := 1) hx hb dX12_stateNumber_4 (by decide) ?_
  have g4 := jrg (rfl : (σ 55 27).toInt = (σ 55 27).toInt)
  refine lv_iadd hx hb dX12_stateNumber_5 ?_
  refine lv_topi (fun x5 ex5 => ?_)
  have gx5 := jrg (rfl : x5.toInt = x5.toInt)
  refine lv_istore_n (lv' := [(1, .int x5), (0, .ref (ad 55))]) hx hb dX12_stateNumber_6 rfl hl (by decide) rfl (fun ls hl => ?_)
  refine lv_iconst (v := 0) hx hb dX12_stateNumber_7 (by decide) ?_
  refine lv_istore_n (lv' := [(2, .int 0), (1, .int x5), (0, .ref (ad 55))]) hx hb dX12_stateNumber_8 rfl hl (by decide) rfl (fun ls hl => ?_)
  have lp6 : ∀ (n7 : Nat) (x8 : Int32) (x9 : Int32) (H : Heap) (locs : List Loc) (ls : Array Slot), (-x9.toInt + 4 : Int) < n7 → 0 ≤ x9.toInt → x9.toInt ≤ 4 → jH D cI cL ad σ τ H → va_S (jA ad) s.heap H locs → lv_has ls 3 [(2, .int x9), (1, .int x8), (0, .ref (ad 55))] → W p l e ({ frames := 0, cells := 0, slots := 0, locals := 0 }) s m args below meth c H locs 0 0 Q (F0 m 9 ls []) := by
    intro n7
    induction n7 with
    | zero => intro x8 x9 H locs ls h11 h12 h13; have gx8 := jrg (rfl : x8.toInt = x8.toInt); exact absurd h11 (by omega)
    | succ n7 ihlp6 =>
      intro x8 x9 H locs ls h11 h12 h13 hP hS hl
      have gx8 := jrg (rfl : x8.toInt = x8.toInt)
      refine lv_iload_n hx hb dX12_stateNumber_9 rfl (lv_at hl 0 rfl) ?_
      refine lv_aload_n hx hb dX12_stateNumber_10 rfl (lv_at hl 2 rfl) ?_
      refine va_get (D := D) hx hb hts inlX12 hown hK hP 55 (jc_55 cI cL ad σ τ) rfl 6 (by decide) (hts _ kw_9_13) (fun _ h9 => h9) rfl dX12_stateNumber_11 ?_
      refine lv_icmp_ge (tgt := 34) hx hb dX12_stateNumber_14 (by decide) (fun c15 => ?_) (fun c15 => ?_)
      · have kc15 := jle c15 rfl rfl
        refine lv_iconst (v := 0) hx hb dX12_stateNumber_34 (by decide) ?_
        refine lv_istore_n (lv' := [(2, .int 0), (1, .int x8), (0, .ref (ad 55))]) hx hb dX12_stateNumber_35 rfl hl (by decide) rfl (fun ls hl => ?_)
        have lp16 : ∀ (n17 : Nat) (x18 : Int32) (x19 : Int32) (H : Heap) (locs : List Loc) (ls : Array Slot), (-x19.toInt + 4 : Int) < n17 → 0 ≤ x19.toInt → x19.toInt ≤ 4 → jH D cI cL ad σ τ H → va_S (jA ad) s.heap H locs → lv_has ls 3 [(2, .int x19), (1, .int x18), (0, .ref (ad 55))] → W p l e ({ frames := 0, cells := 0, slots := 0, locals := 0 }) s m args below meth c H locs 0 0 Q (F0 m 36 ls []) := by
          intro n17
          induction n17 with
          | zero => intro x18 x19 H locs ls h21 h22 h23; have gx18 := jrg (rfl : x18.toInt = x18.toInt); exact absurd h21 (by omega)
          | succ n17 ihlp16 =>
            intro x18 x19 H locs ls h21 h22 h23 hP hS hl
            have gx18 := jrg (rfl : x18.toInt = x18.toInt)
            refine lv_iload_n hx hb dX12_stateNumber_36 rfl (lv_at hl 0 rfl) ?_
            refine lv_aload_n hx hb dX12_stateNumber_37 rfl (lv_at hl 2 rfl) ?_
            refine va_get (D := D) hx hb hts inlX12 hown hK hP 55 (jc_55 cI cL ad σ τ) rfl 6 (by decide) (hts _ kw_9_13) (fun _ h9 => h9) rfl dX12_stateNumber_38 ?_
            refine lv_icmp_ge (tgt := 78) hx hb dX12_stateNumber_41 (by decide) (fun c25 => ?_) (fun c25 => ?_)
            · have kc25 := jle c25 rfl rfl
              refine lv_iload_n hx hb dX12_stateNumber_78 rfl (lv_at hl 1 rfl) ?_
              exact hret x18 σ τ _ _ _ _ rfl ⟨⟨rfl, rfl⟩, trivial⟩ hP hS dX12_stateNumber_79
            · have kc25 := jnle c25 rfl rfl
              refine lv_bipush (v := 9) hx hb dX12_stateNumber_44 (by decide) ?_
              refine lv_iload_n hx hb dX12_stateNumber_46 rfl (lv_at hl 1 rfl) ?_
              have g26 := jrg (rfl : x18.toInt = x18.toInt)
              refine lv_imul hx hb dX12_stateNumber_47 ?_
              refine lv_topi (fun x27 ex27 => ?_)
              have gx27 := jrg (rfl : x27.toInt = x27.toInt)
              refine lv_aload_n hx hb dX12_stateNumber_48 rfl (lv_at hl 2 rfl) ?_
              refine va_get (D := D) hx hb hts inlX12 hown hK hP 55 (jc_55 cI cL ad σ τ) rfl 29 (by decide) (hts _ kw_7_15) (fun _ h9 => h9) rfl dX12_stateNumber_49 ?_
              refine lv_iload_n hx hb dX12_stateNumber_52 rfl (lv_at hl 0 rfl) ?_
              refine jald hx hb hK hP (jc_69 cI cL ad σ τ) (jin rfl (by omega) (by omega)) dX12_stateNumber_53 ?_
              refine lv_topi (fun x28 ex28 => ?_)
              refine lv_bipush (v := 8) hx hb dX12_stateNumber_54 (by decide) ?_
              refine lv_icmp_le (tgt := 64) hx hb dX12_stateNumber_56 (by decide) (fun c29 => ?_) (fun c29 => ?_)
              · have kc29 := jle c29 rfl jz_8
                refine lv_aload_n hx hb dX12_stateNumber_64 rfl (lv_at hl 2 rfl) ?_
                refine va_get (D := D) hx hb hts inlX12 hown hK hP 55 (jc_55 cI cL ad σ τ) rfl 29 (by decide) (hts _ kw_7_15) (fun _ h9 => h9) rfl dX12_stateNumber_65 ?_
                refine lv_iload_n hx hb dX12_stateNumber_68 rfl (lv_at hl 0 rfl) ?_
                refine jald hx hb hK hP (jc_69 cI cL ad σ τ) (jin rfl (by omega) (by omega)) dX12_stateNumber_69 ?_
                refine lv_topi (fun x30 ex30 => ?_)
                have g31 := jrg (rfl : x27.toInt = x27.toInt)
                have g32 := jrg (rfl : x30.toInt = x30.toInt)
                refine lv_iadd hx hb dX12_stateNumber_70 ?_
                refine lv_topi (fun x33 ex33 => ?_)
                have gx33 := jrg (rfl : x33.toInt = x33.toInt)
                refine lv_istore_n (lv' := [(1, .int x33), (2, .int x19), (0, .ref (ad 55))]) hx hb dX12_stateNumber_71 rfl hl (by decide) rfl (fun ls hl => ?_)
                obtain ⟨x34, ex34⟩ : ∃ y : Int32, y = x19 + 1 := ⟨_, rfl⟩
                have tx34 : x34.toInt = x19.toInt + 1 := (jadd ex34 rfl jz_1 (by omega) (by omega)).trans (by omega)
                refine lv_iinc (v := x34) (lv' := [(2, .int x34), (1, .int x33), (0, .ref (ad 55))]) hx hb dX12_stateNumber_72 hl (k := 1) rfl (by rw [ex34]; rfl) (by decide) rfl (fun ls hl => ?_)
                refine lv_goto (tgt := 36) hx hb dX12_stateNumber_75 (by decide) ?_
                exact ihlp16 x33 x34 _ _ ls (by have h91 := tx34; omega) (by have h91 := tx34; omega) (by have h91 := tx34; omega)    hP hS (lv_sub hl [0, 1, 2] rfl)
              · have kc29 := jnle c29 rfl jz_8
                refine lv_bipush (v := 8) hx hb dX12_stateNumber_59 (by decide) ?_
                refine lv_goto (tgt := 70) hx hb dX12_stateNumber_61 (by decide) ?_
                have g35 := jrg (rfl : x27.toInt = x27.toInt)
                refine lv_iadd hx hb dX12_stateNumber_70 ?_
                refine lv_topi (fun x36 ex36 => ?_)
                have gx36 := jrg (rfl : x36.toInt = x36.toInt)
                refine lv_istore_n (lv' := [(1, .int x36), (2, .int x19), (0, .ref (ad 55))]) hx hb dX12_stateNumber_71 rfl hl (by decide) rfl (fun ls hl => ?_)
                obtain ⟨x37, ex37⟩ : ∃ y : Int32, y = x19 + 1 := ⟨_, rfl⟩
                have tx37 : x37.toInt = x19.toInt + 1 := (jadd ex37 rfl jz_1 (by omega) (by omega)).trans (by omega)
                refine lv_iinc (v := x37) (lv' := [(2, .int x37), (1, .int x36), (0, .ref (ad 55))]) hx hb dX12_stateNumber_72 hl (k := 1) rfl (by rw [ex37]; rfl) (by decide) rfl (fun ls hl => ?_)
                refine lv_goto (tgt := 36) hx hb dX12_stateNumber_75 (by decide) ?_
                exact ihlp16 x36 x37 _ _ ls (by have h91 := tx37; omega) (by have h91 := tx37; omega) (by have h91 := tx37; omega)    hP hS (lv_sub hl [0, 1, 2] rfl)
        exact lp16 1000000 x8 0 _ _ ls (by have h91 := jz_0; omega) (by have h91 := jz_0; omega) (by have h91 := jz_0; omega)   hP hS hl
      · have kc15 := jnle c15 rfl rfl
        refine lv_iconst (v := 4) hx hb dX12_stateNumber_17 (by decide) ?_
        refine lv_iload_n hx hb dX12_stateNumber_18 rfl (lv_at hl 1 rfl) ?_
        have g38 := jrg (rfl : x8.toInt = x8.toInt)
        refine lv_imul hx hb dX12_stateNumber_19 ?_
        refine lv_topi (fun x39 ex39 => ?_)
        have gx39 := jrg (rfl : x39.toInt = x39.toInt)
        refine lv_aload_n hx hb dX12_stateNumber_20 rfl (lv_at hl 2 rfl) ?_
        refine va_get (D := D) hx hb hts inlX12 hown hK hP 55 (jc_55 cI cL ad σ τ) rfl 28 (by decide) (hts _ kw_7_14) (fun _ h9 => h9) rfl dX12_stateNumber_21 ?_
        refine lv_iload_n hx hb dX12_stateNumber_24 rfl (lv_at hl 0 rfl) ?_
        refine jald hx hb hK hP (jc_68 cI cL ad σ τ) (jin rfl (by omega) (by omega)) dX12_stateNumber_25 ?_
        have g40 := hw68 _ (jnat (x := x9) rfl (n := 4) (by omega) (by decide))
        refine lv_topi (fun x41 ex41 => ?_)
        rw [← ex41] at g40
        have g42 := jrg (rfl : x39.toInt = x39.toInt)
        have g43 := jrg (rfl : x41.toInt = x41.toInt)
        refine lv_iadd hx hb dX12_stateNumber_26 ?_
        refine lv_topi (fun x44 ex44 => ?_)
        have gx44 := jrg (rfl : x44.toInt = x44.toInt)
        refine lv_istore_n (lv' := [(1, .int x44), (2, .int x9), (0, .ref (ad 55))]) hx hb dX12_stateNumber_27 rfl hl (by decide) rfl (fun ls hl => ?_)
        obtain ⟨x45, ex45⟩ : ∃ y : Int32, y = x9 + 1 := ⟨_, rfl⟩
        have tx45 : x45.toInt = x9.toInt + 1 := (jadd ex45 rfl jz_1 (by omega) (by omega)).trans (by omega)
        refine lv_iinc (v := x45) (lv' := [(2, .int x45), (1, .int x44), (0, .ref (ad 55))]) hx hb dX12_stateNumber_28 hl (k := 1) rfl (by rw [ex45]; rfl) (by decide) rfl (fun ls hl => ?_)
        refine lv_goto (tgt := 9) hx hb dX12_stateNumber_31 (by decide) ?_
        exact ihlp6 x44 x45 _ _ ls (by have h91 := tx45; omega) (by have h91 := tx45; omega) (by have h91 := tx45; omega)    hP hS (lv_sub hl [0, 1, 2] rfl)
  exact lp6 1000000 x5 0 _ _ ls (by have h91 := jz_0; omega) (by have h91 := jz_0; omega) (by have h91 := jz_0; omega)   hP hS hl
set_option maxHeartbeats 4000000 in
set_option maxRecDepth 100000 in
theorem c_X12_spot (l : Launch) (D : va_G) (cI cL : ClassId) (ad zz : Nat → Nat) (hJ : jD ad) (σ : Nat → Nat → Int32) (τ : Nat → Nat → Int64) (a1 : Int32) (A1 : Int) (t1 : a1.toInt = A1) (a2 : Int32) (A2 : Int) (t2 : a2.toInt = A2) : jM l yX12_spot cX12_spot 5 (some .int) ({ frames := 0, cells := 0, slots := 0, locals := 0 }) D cI cL ad zz [.ref (ad 55), .int a1, .int a2] σ τ (fun r σ' τ' => (σ = σ' ∧ τ = τ') ∧ ((True ∧ (0 ≤ r.toInt ∧ r.toInt ≤ 65535) ∧ ((σ 78 r.toNatClampNeg) ≠ σ 55 42 ∨ (σ 75 r.toNatClampNeg) = a2)) ∨ (r = (-1) ∧ True))) := by
  refine jM.of hJ (by decide +kernel) (nt := .int) rfl (Nat.le_of_ble_eq_true rfl) ?_
  intro p e s m args below meth c Q ls hC hret hl hP
  obtain ⟨hx, hb, hr, hml, hown, hts, hK, -, hlocks, hZ⟩ := hC
  have hown : s.vm.findClass RX12 = some m.cls := hown
  have hS : va_S (jA ad) s.heap s.heap [] := va_S.rf
  have hA : ∀ q, jA ad q → jA ad q := fun _ h => h
  have hl : lv_has ls 5 [(0, .ref (ad 55)), (1, .int a1), (2, .int a2)] := hl
  have g1 := jrg t1
  have g2 := jrg t2
  refine lv_iload_n hx hb dX12_spot_0 rfl (lv_at hl 1 rfl) ?_
  refine lv_bipush (v := 31) hx hb dX12_spot_1 (by decide) ?_
  refine lv_imul hx hb dX12_spot_3 ?_
  refine lv_topi (fun x1 ex1 => ?_)
  have gx1 := jrg (rfl : x1.toInt = x1.toInt)
  refine lv_iload_n hx hb dX12_spot_4 rfl (lv_at hl 2 rfl) ?_
  have g2 := jrg (rfl : x1.toInt = x1.toInt)
  refine lv_iadd hx hb dX12_spot_5 ?_
  refine lv_topi (fun x3 ex3 => ?_)
  have gx3 := jrg (rfl : x3.toInt = x3.toInt)
  refine lv_ldcw (v := 40503) hx hb hown (hts _ kw_34_13) dX12_spot_6 ?_
  have g4 := jrg (rfl : x3.toInt = x3.toInt)
  refine lv_imul hx hb dX12_spot_9 ?_
  refine lv_topi (fun x5 ex5 => ?_)
  have gx5 := jrg (rfl : x5.toInt = x5.toInt)
  refine lv_ldcw (v := 65535) hx hb hown (hts _ kw_34_14) dX12_spot_10 ?_
  refine lv_iand hx hb dX12_spot_13 ?_
  refine lv_topi (fun x6 ex6 => ?_)
  have gx6 := jrg (rfl : x6.toInt = x6.toInt)
  have g7 : 0 ≤ x6.toInt ∧ x6.toInt ≤ 65535 := jmask ex6 16 (by decide) (by decide)
  refine lv_istore_n (lv' := [(3, .int x6), (0, .ref (ad 55)), (1, .int a1), (2, .int a2)]) hx hb dX12_spot_14 rfl hl (by decide) rfl (fun ls hl => ?_)
  refine lv_iconst (v := 0) hx hb dX12_spot_15 (by decide) ?_
  refine lv_istore (lv' := [(4, .int 0), (3, .int x6), (0, .ref (ad 55)), (1, .int a1), (2, .int a2)]) hx hb dX12_spot_16 hl (by decide) rfl (fun ls hl => ?_)
  have lp8 : ∀ (n9 : Nat) (x10 : Int32) (x11 : Int32) (H : Heap) (locs : List Loc) (ls : Array Slot), (-x11.toInt + 65536 : Int) < n9 → 0 ≤ x10.toInt → x10.toInt ≤ 65535 → 0 ≤ x11.toInt → x11.toInt ≤ 65536 → jH D cI cL ad σ τ H → va_S (jA ad) s.heap H locs → lv_has ls 5 [(4, .int x11), (3, .int x10), (0, .ref (ad 55)), (1, .int a1), (2, .int a2)] → W p l e ({ frames := 0, cells := 0, slots := 0, locals := 0 }) s m args below meth c H locs 0 0 Q (F0 m 18 ls []) := by
    intro n9
    induction n9 with
    | zero => intro x10 x11 H locs ls h13 h14 h15 h16 h17; exact absurd h13 (by omega)
    | succ n9 ihlp8 =>
      intro x10 x11 H locs ls h13 h14 h15 h16 h17 hP hS hl
      refine lv_iload hx hb dX12_spot_18 (lv_at hl 0 rfl) ?_
      refine lv_ldc (v := 65536) hx hb hown (hts _ kw_7_22) dX12_spot_20 ?_
      refine lv_icmp_ge (tgt := 74) hx hb dX12_spot_22 (by decide) (fun c19 => ?_) (fun c19 => ?_)
      · have kc19 := jle c19 jz_65536 rfl
        refine lv_iconst (v := (-1)) hx hb dX12_spot_74 (by decide) ?_
        exact hret (-1) σ τ _ _ _ _ rfl ⟨⟨rfl, rfl⟩, Or.inr (⟨rfl, trivial⟩)⟩ hP hS dX12_spot_75
      · have kc19 := jnle c19 jz_65536 rfl
        refine lv_aload_n hx hb dX12_spot_25 rfl (lv_at hl 2 rfl) ?_
        refine va_get (D := D) hx hb hts inlX12 hown hK hP 55 (jc_55 cI cL ad σ τ) rfl 43 (by decide) (hts _ kw_8_3) (fun _ h9 => h9) rfl dX12_spot_26 ?_
        refine lv_iload_n hx hb dX12_spot_29 rfl (lv_at hl 1 rfl) ?_
        refine jald hx hb hK hP (jc_78 cI cL ad σ τ) (jin rfl (by omega) (by omega)) dX12_spot_30 ?_
        refine jtopr (y := (σ 78 x10.toNatClampNeg)) rfl ?_
        refine lv_aload_n hx hb dX12_spot_31 rfl (lv_at hl 2 rfl) ?_
        refine va_get (D := D) hx hb hts inlX12 hown hK hP 55 (jc_55 cI cL ad σ τ) rfl 42 (by decide) (hts _ kw_33_10) (fun _ h9 => h9) rfl dX12_spot_32 ?_
        refine lv_icmp_ne (tgt := 58) hx hb dX12_spot_35 (by decide) (fun c20 => ?_) (fun c20 => ?_)
        · have kc20 := jne c20 rfl rfl
          refine lv_iload_n hx hb dX12_spot_58 rfl (lv_at hl 1 rfl) ?_
          exact hret x10 σ τ _ _ _ _ rfl ⟨⟨rfl, rfl⟩, Or.inl ⟨trivial, (by omega), (Or.inl c20)⟩⟩ hP hS dX12_spot_59
        · have kc20 := jeq c20 rfl rfl
          refine lv_aload_n hx hb dX12_spot_38 rfl (lv_at hl 2 rfl) ?_
          refine va_get (D := D) hx hb hts inlX12 hown hK hP 55 (jc_55 cI cL ad σ τ) rfl 38 (by decide) (hts _ kw_7_23) (fun _ h9 => h9) rfl dX12_spot_39 ?_
          refine lv_iload_n hx hb dX12_spot_42 rfl (lv_at hl 1 rfl) ?_
          refine jald hx hb hK hP (jc_74 cI cL ad σ τ) (jin rfl (by omega) (by omega)) dX12_spot_43 ?_
          refine jtopr (y := (σ 74 x10.toNatClampNeg)) rfl ?_
          refine lv_iload_n hx hb dX12_spot_44 rfl (lv_at hl 3 rfl) ?_
          refine lv_icmp_ne (tgt := 60) hx hb dX12_spot_45 (by decide) (fun c21 => ?_) (fun c21 => ?_)
          · have kc21 := jne c21 rfl t1
            refine lv_iload_n hx hb dX12_spot_60 rfl (lv_at hl 1 rfl) ?_
            refine lv_iconst (v := 1) hx hb dX12_spot_61 (by decide) ?_
            have g22 := jrg (rfl : x10.toInt = x10.toInt)
            refine lv_iadd hx hb dX12_spot_62 ?_
            refine lv_topi (fun x23 ex23 => ?_)
            have tx23 : x23.toInt = x10.toInt + 1 := (jadd ex23 rfl jz_1 (by omega) (by omega)).trans (by omega)
            refine lv_ldcw (v := 65535) hx hb hown (hts _ kw_34_14) dX12_spot_63 ?_
            refine lv_iand hx hb dX12_spot_66 ?_
            refine lv_topi (fun x24 ex24 => ?_)
            have gx24 := jrg (rfl : x24.toInt = x24.toInt)
            have g25 : 0 ≤ x24.toInt ∧ x24.toInt ≤ 65535 := jmask ex24 16 (by decide) (by decide)
            refine lv_istore_n (lv' := [(3, .int x24), (4, .int x11), (0, .ref (ad 55)), (1, .int a1), (2, .int a2)]) hx hb dX12_spot_67 rfl hl (by decide) rfl (fun ls hl => ?_)
            obtain ⟨x26, ex26⟩ : ∃ y : Int32, y = x11 + 1 := ⟨_, rfl⟩
            have tx26 : x26.toInt = x11.toInt + 1 := (jadd ex26 rfl jz_1 (by omega) (by omega)).trans (by omega)
            refine lv_iinc (v := x26) (lv' := [(4, .int x26), (3, .int x24), (0, .ref (ad 55)), (1, .int a1), (2, .int a2)]) hx hb dX12_spot_68 hl (k := 1) rfl (by rw [ex26]; rfl) (by decide) rfl (fun ls hl => ?_)
            refine lv_goto (tgt := 18) hx hb dX12_spot_71 (by decide) ?_
            exact ihlp8 x24 x26 _ _ ls (by have h91 := tx26; omega) (by have h91 := tx26; omega) (by have h91 := tx26; omega) (by have h91 := tx26; omega) (by have h91 := tx26; omega)    hP hS (lv_sub hl [0, 1, 2, 3, 4] rfl)
          · have kc21 := jeq c21 rfl t1
            refine lv_aload_n hx hb dX12_spot_48 rfl (lv_at hl 2 rfl) ?_
            refine va_get (D := D) hx hb hts inlX12 hown hK hP 55 (jc_55 cI cL ad σ τ) rfl 39 (by decide) (hts _ kw_8_0) (fun _ h9 => h9) rfl dX12_spot_49 ?_
            refine lv_iload_n hx hb dX12_spot_52 rfl (lv_at hl 1 rfl) ?_
            refine jald hx hb hK hP (jc_75 cI cL ad σ τ) (jin rfl (by omega) (by omega)) dX12_spot_53 ?_
            refine jtopr (y := (σ 75 x10.toNatClampNeg)) rfl ?_
            refine lv_iload_n hx hb dX12_spot_54 rfl (lv_at hl 4 rfl) ?_
            refine lv_icmp_ne (tgt := 60) hx hb dX12_spot_55 (by decide) (fun c27 => ?_) (fun c27 => ?_)
            · have kc27 := jne c27 rfl t2
              refine lv_iload_n hx hb dX12_spot_60 rfl (lv_at hl 1 rfl) ?_
              refine lv_iconst (v := 1) hx hb dX12_spot_61 (by decide) ?_
              have g28 := jrg (rfl : x10.toInt = x10.toInt)
              refine lv_iadd hx hb dX12_spot_62 ?_
              refine lv_topi (fun x29 ex29 => ?_)
              have tx29 : x29.toInt = x10.toInt + 1 := (jadd ex29 rfl jz_1 (by omega) (by omega)).trans (by omega)
              refine lv_ldcw (v := 65535) hx hb hown (hts _ kw_34_14) dX12_spot_63 ?_
              refine lv_iand hx hb dX12_spot_66 ?_
              refine lv_topi (fun x30 ex30 => ?_)
              have gx30 := jrg (rfl : x30.toInt = x30.toInt)
              have g31 : 0 ≤ x30.toInt ∧ x30.toInt ≤ 65535 := jmask ex30 16 (by decide) (by decide)
              refine lv_istore_n (lv' := [(3, .int x30), (4, .int x11), (0, .ref (ad 55)), (1, .int a1), (2, .int a2)]) hx hb dX12_spot_67 rfl hl (by decide) rfl (fun ls hl => ?_)
              obtain ⟨x32, ex32⟩ : ∃ y : Int32, y = x11 + 1 := ⟨_, rfl⟩
              have tx32 : x32.toInt = x11.toInt + 1 := (jadd ex32 rfl jz_1 (by omega) (by omega)).trans (by omega)
              refine lv_iinc (v := x32) (lv' := [(4, .int x32), (3, .int x30), (0, .ref (ad 55)), (1, .int a1), (2, .int a2)]) hx hb dX12_spot_68 hl (k := 1) rfl (by rw [ex32]; rfl) (by decide) rfl (fun ls hl => ?_)
              refine lv_goto (tgt := 18) hx hb dX12_spot_71 (by decide) ?_
              exact ihlp8 x30 x32 _ _ ls (by have h91 := tx32; omega) (by have h91 := tx32; omega) (by have h91 := tx32; omega) (by have h91 := tx32; omega) (by have h91 := tx32; omega)    hP hS (lv_sub hl [0, 1, 2, 3, 4] rfl)
            · have kc27 := jeq c27 rfl t2
              refine lv_iload_n hx hb dX12_spot_58 rfl (lv_at hl 1 rfl) ?_
              exact hret x10 σ τ _ _ _ _ rfl ⟨⟨rfl, rfl⟩, Or.inl ⟨trivial, (by omega), (Or.inr c27)⟩⟩ hP hS dX12_spot_59
  exact lp8 1000000 x6 0 _ _ ls (by have h91 := jz_0; omega) (by have h91 := jz_0; omega) (by have h91 := jz_0; omega) (by have h91 := jz_0; omega) (by have h91 := jz_0; omega)   hP hS hl
set_option maxHeartbeats 4000000 in
set_option maxRecDepth 100000 in
theorem c_X12_worthBy (l : Launch) (D : va_G) (cI cL : ClassId) (ad zz : Nat → Nat) (hJ : jD ad) (σ : Nat → Nat → Int32) (τ : Nat → Nat → Int64) (a1 : Int32) (A1 : Int) (t1 : a1.toInt = A1) (a2 : Int32) (A2 : Int) (t2 : a2.toInt = A2) (hI101 : jI101 σ) (hI102 : jI102 σ) (hI103 : jI103 σ) (hI104 : jI104 σ) (hI105 : jI105 σ) (hI106 : jI106 σ) (hw68 : ∀ k : Nat, k < 4 → 0 ≤ (σ 68 k).toInt ∧ (σ 68 k).toInt ≤ 3) (hs_jTR : jTR σ) (hp0 : 0 ≤ A1 ∧ A1 ≤ 19) (hp1 : 0 ≤ A2 ∧ A2 ≤ 3) (hp2 : 0 ≤ (σ 55 25).toInt ∧ (σ 55 25).toInt ≤ 7) : jM l yX12_worthBy cX12_worthBy 4 (some .int) ({ frames := 67, cells := 0, slots := 0, locals := 2858 }) D cI cL ad zz [.ref (ad 55), .int a1, .int a2] σ τ (fun r σ' τ' => τ = τ' ∧ (∀ i : Nat, (i < 55 ∨ 55 < i) ∧ (i < 66 ∨ 66 < i) → σ' i = σ i) ∧ (∀ k : Nat, (k < 18 ∨ 18 < k) ∧ (k < 19 ∨ 19 < k) ∧ (k < 20 ∨ 20 < k) ∧ (k < 21 ∨ 21 < k) ∧ (k < 22 ∨ 22 < k) → σ' 55 k = σ 55 k) ∧ (jTR σ') ∧ True) := by
  refine jM.of hJ (by decide +kernel) (nt := .int) rfl (Nat.le_of_ble_eq_true rfl) ?_
  intro p e s m args below meth c Q ls hC hret hl hP
  obtain ⟨hx, hb, hr, hml, hown, hts, hK, -, hlocks, hZ⟩ := hC
  have hown : s.vm.findClass RX12 = some m.cls := hown
  have hS : va_S (jA ad) s.heap s.heap [] := va_S.rf
  have hA : ∀ q, jA ad q → jA ad q := fun _ h => h
  have hl : lv_has ls 4 [(0, .ref (ad 55)), (1, .int a1), (2, .int a2)] := hl
  have g1 := jrg t1
  have g2 := jrg t2
  obtain ⟨i1, i2, i3, w4, w5⟩ : (1 ≤ (σ 55 10).toInt ∧ (σ 55 10).toInt ≤ 8) ∧ (1 ≤ (σ 55 12).toInt ∧ (σ 55 12).toInt ≤ 12) ∧ (0 ≤ (σ 55 13).toInt ∧ (σ 55 13).toInt ≤ 999) ∧ (∀ k : Nat, k < 8 → 0 ≤ (σ 62 k).toInt ∧ (σ 62 k).toInt ≤ 3) ∧ (∀ k : Nat, k < 8 → 0 ≤ (σ 67 k).toInt ∧ (σ 67 k).toInt ≤ 3) := id hI104
  obtain ⟨i6, w7, w8, w9⟩ : (0 ≤ (σ 55 32).toInt ∧ (σ 55 32).toInt ≤ 20) ∧ (∀ k : Nat, k < 20 → 0 ≤ (σ 70 k).toInt ∧ (σ 70 k).toInt ≤ 6) ∧ (∀ k : Nat, k < 20 → 0 ≤ (σ 71 k).toInt ∧ (σ 71 k).toInt ≤ 8) ∧ (∀ k : Nat, k < 160 → 0 ≤ (σ 72 k).toInt ∧ (σ 72 k).toInt ≤ 3) := id hI106
  refine lv_aload_n hx hb dX12_worthBy_0 rfl (lv_at hl 0 rfl) ?_
  refine va_get (D := D) hx hb hts inlX12 hown hK hP 55 (jc_55 cI cL ad σ τ) rfl 11 (by decide) (hts _ kw_7_8) (fun _ h9 => h9) rfl dX12_worthBy_1 ?_
  refine lv_aload_n hx hb dX12_worthBy_4 rfl (lv_at hl 0 rfl) ?_
  refine va_get (D := D) hx hb hts inlX12 hown hK hP 55 (jc_55 cI cL ad σ τ) rfl 25 (by decide) (hts _ kw_23_6) (fun _ h9 => h9) rfl dX12_worthBy_5 ?_
  refine jald hx hb hK hP (jc_62 cI cL ad σ τ) (jin rfl (by omega) (by omega)) dX12_worthBy_8 ?_
  have g10 := w4 _ (jnat (x := (σ 55 25)) rfl (n := 8) (by omega) (by decide))
  refine lv_topi (fun x11 ex11 => ?_)
  rw [← ex11] at g10
  refine lv_istore_n (lv' := [(3, .int x11), (0, .ref (ad 55)), (1, .int a1), (2, .int a2)]) hx hb dX12_worthBy_9 rfl hl (by decide) rfl (fun ls hl => ?_)
  refine lv_aload_n hx hb dX12_worthBy_10 rfl (lv_at hl 1 rfl) ?_
  refine va_get (D := D) hx hb hts inlX12 hown hK hP 55 (jc_55 cI cL ad σ τ) rfl 33 (by decide) (hts _ kw_7_18) (fun _ h9 => h9) rfl dX12_worthBy_11 ?_
  refine lv_iload_n hx hb dX12_worthBy_14 rfl (lv_at hl 2 rfl) ?_
  refine jald hx hb hK hP (jc_70 cI cL ad σ τ) (jin t1 (by omega) (by omega)) dX12_worthBy_15 ?_
  have g12 := w7 _ (jnat (x := a1) t1 (n := 20) (by omega) (by decide))
  refine lv_topi (fun x13 ex13 => ?_)
  rw [← ex13] at g12
  refine lv_iconst (v := 3) hx hb dX12_worthBy_16 (by decide) ?_
  refine lv_icmp_ne (tgt := 38) hx hb dX12_worthBy_17 (by decide) (fun c14 => ?_) (fun c14 => ?_)
  · have kc14 := jne c14 rfl jz_3
    refine lv_aload_n hx hb dX12_worthBy_38 rfl (lv_at hl 1 rfl) ?_
    refine va_get (D := D) hx hb hts inlX12 hown hK hP 55 (jc_55 cI cL ad σ τ) rfl 33 (by decide) (hts _ kw_7_18) (fun _ h9 => h9) rfl dX12_worthBy_39 ?_
    refine lv_iload_n hx hb dX12_worthBy_42 rfl (lv_at hl 2 rfl) ?_
    refine jald hx hb hK hP (jc_70 cI cL ad σ τ) (jin t1 (by omega) (by omega)) dX12_worthBy_43 ?_
    have g15 := w7 _ (jnat (x := a1) t1 (n := 20) (by omega) (by decide))
    refine lv_topi (fun x16 ex16 => ?_)
    rw [← ex16] at g15
    refine lv_iconst (v := 5) hx hb dX12_worthBy_44 (by decide) ?_
    refine lv_icmp_ne (tgt := 56) hx hb dX12_worthBy_45 (by decide) (fun c17 => ?_) (fun c17 => ?_)
    · have kc17 := jne c17 rfl jz_5
      refine lv_iconst (v := 0) hx hb dX12_worthBy_56 (by decide) ?_
      exact hret 0 σ τ _ _ _ _ rfl ⟨rfl, (fun _ _ => rfl), (fun _ _ => rfl), hs_jTR, trivial⟩ hP hS dX12_worthBy_57
    · have kc17 := jeq c17 rfl jz_5
      refine lv_aload_n hx hb dX12_worthBy_48 rfl (lv_at hl 1 rfl) ?_
      refine lv_iload_n hx hb dX12_worthBy_49 rfl (lv_at hl 3 rfl) ?_
      refine lv_iload_n hx hb dX12_worthBy_50 rfl (lv_at hl 0 rfl) ?_
      refine jcallV (As := [.int a2, .int x11]) (rest := []) ⟨hx, hb, hml, hown, hts⟩ hK hP hA hS hZ (c_X12_outBy l D cI cL ad zz hJ σ τ a2 (A2) t2 x11 (x11.toInt) rfl hI101 hI102 hI103 hI105 hw68 hs_jTR (by omega) (by omega)) cw_RX12_259 (jc_55 cI cL ad σ τ) rfl ⟨Nat.le_of_ble_eq_true rfl, Nat.le_of_ble_eq_true rfl⟩ rfl rfl rfl hl.1 rfl (Nat.le_of_ble_eq_true rfl) dX12_worthBy_51 ⟨Nat.zero_le _, Nat.zero_le _⟩ (fun r19 σ18 τ18 H locs h18 hP hS => ?_)
      obtain ⟨rfl, f20, f21, p22, w23, h18⟩ := h18
      have h25 := h18
      obtain ⟨q27, k26⟩ := h25
      refine lv_ineg hx hb dX12_worthBy_54 ?_
      refine lv_topi (fun x28 ex28 => ?_)
      have tx28 : x28.toInt = -r19.toInt := (jneg ex28 rfl (by omega)).trans (by omega)
      exact hret x28 σ18 τ _ _ _ _ rfl ⟨rfl, (fun i hi => (f20 i hi)), (fun i hi => (f21 i hi)), p22, trivial⟩ hP hS dX12_worthBy_55
  · have kc14 := jeq c14 rfl jz_3
    refine lv_sipush (v := 1000) hx hb dX12_worthBy_20 (by decide) ?_
    refine lv_aload_n hx hb dX12_worthBy_23 rfl (lv_at hl 1 rfl) ?_
    refine lv_iload_n hx hb dX12_worthBy_24 rfl (lv_at hl 3 rfl) ?_
    refine lv_iload_n hx hb dX12_worthBy_25 rfl (lv_at hl 0 rfl) ?_
    refine jcallV (As := [.int a2, .int x11]) (rest := [.int 1000]) ⟨hx, hb, hml, hown, hts⟩ hK hP hA hS hZ (c_X12_runsBy l D cI cL ad zz hJ σ τ a2 (A2) t2 x11 (x11.toInt) rfl hI101 hI102 hI103 hw68 (by omega) (by omega)) cw_RX12_262 (jc_55 cI cL ad σ τ) rfl ⟨Nat.le_of_ble_eq_true rfl, Nat.le_of_ble_eq_true rfl⟩ rfl rfl rfl hl.1 rfl (Nat.le_of_ble_eq_true rfl) dX12_worthBy_26 ⟨Nat.zero_le _, Nat.zero_le _⟩ (fun r30 σ29 τ29 H locs h29 hP hS => ?_)
    obtain ⟨⟨rfl, rfl⟩, w31, h29⟩ := h29
    have h32 := h29
    obtain ⟨q34, k33⟩ := h32
    have g35 := jrg (rfl : r30.toInt = r30.toInt)
    refine lv_imul hx hb dX12_worthBy_29 ?_
    refine lv_topi (fun x36 ex36 => ?_)
    have tx36 : x36.toInt = 1000 * r30.toInt := (jmul ex36 jz_1000 rfl (by omega) (by omega)).trans (by omega)
    refine lv_aload_n hx hb dX12_worthBy_30 rfl (lv_at hl 1 rfl) ?_
    refine lv_iload_n hx hb dX12_worthBy_31 rfl (lv_at hl 3 rfl) ?_
    refine lv_iload_n hx hb dX12_worthBy_32 rfl (lv_at hl 0 rfl) ?_
    refine jcallV (As := [.int a2, .int x11]) (rest := [.int x36]) ⟨hx, hb, hml, hown, hts⟩ hK hP hA hS hZ (c_X12_outBy l D cI cL ad zz hJ σ τ a2 (A2) t2 x11 (x11.toInt) rfl hI101 hI102 hI103 hI105 hw68 hs_jTR (by omega) (by omega)) cw_RX12_259 (jc_55 cI cL ad σ τ) rfl ⟨Nat.le_of_ble_eq_true rfl, Nat.le_of_ble_eq_true rfl⟩ rfl rfl rfl hl.1 rfl (Nat.le_of_ble_eq_true rfl) dX12_worthBy_33 ⟨Nat.zero_le _, Nat.zero_le _⟩ (fun r38 σ37 τ37 H locs h37 hP hS => ?_)
    obtain ⟨rfl, f39, f40, p41, w42, h37⟩ := h37
    have h44 := h37
    obtain ⟨q46, k45⟩ := h44
    have g47 := jrg (rfl : r38.toInt = r38.toInt)
    refine lv_isub hx hb dX12_worthBy_36 ?_
    refine lv_topi (fun x48 ex48 => ?_)
    have tx48 : x48.toInt = 1000 * r30.toInt - r38.toInt := (jsub ex48 tx36 rfl (by omega) (by omega)).trans (by omega)
    exact hret x48 σ37 τ _ _ _ _ rfl ⟨rfl, (fun i hi => (f39 i hi)), (fun i hi => (f40 i hi)), p41, trivial⟩ hP hS dX12_worthBy_37
set_option maxHeartbeats 4000000 in
set_option maxRecDepth 100000 in
theorem c_X12_bests_mean_g (l : Launch) (D : va_G) (cI cL : ClassId) (ad zz : Nat → Nat) (hJ : jD ad) (n : Nat) (h_bf : ∀ (σ : Nat → Nat → Int32) (τ : Nat → Nat → Int64) (hI101 : jI101 σ) (hI102 : jI102 σ) (hI103 : jI103 σ) (hI104 : jI104 σ) (hI105 : jI105 σ) (hI106 : jI106 σ) (hI120 : jI120 σ) (hs_jKept : jKept σ) (hs_jTR : jTR σ) (hp0 : (σ 55 12).toInt - (σ 55 26).toInt ≤ (((n) : Nat) : Int)), jM l yX12_bestFrom cX12_bestFrom 8 (some .int) ({ frames := (70 + 4 * (n)), cells := 0, slots := 0, locals := (3114 + 240 * (n)) }) D cI cL ad zz [.ref (ad 55)] σ τ (fun r σ' τ' => τ = τ' ∧ (∀ i : Nat, (i < 55 ∨ 55 < i) ∧ (i < 66 ∨ 66 < i) ∧ (i < 74 ∨ 78 < i) → σ' i = σ i) ∧ (∀ k : Nat, (k < 18 ∨ 18 < k) ∧ (k < 19 ∨ 19 < k) ∧ (k < 20 ∨ 20 < k) ∧ (k < 21 ∨ 21 < k) ∧ (k < 22 ∨ 22 < k) ∧ (k < 37 ∨ 37 < k) → σ' 55 k = σ 55 k) ∧ (jKept σ') ∧ (jTR σ') ∧ ((-2) ≤ (σ' 55 37).toInt ∧ (σ' 55 37).toInt ≤ 3) ∧ ((True ∧ (0 ≤ r.toInt ∧ r.toInt ≤ -(1023000 * (σ 55 26).toInt) + 12276000))))) (σ : Nat → Nat → Int32) (τ : Nat → Nat → Int64) (a1 : Int32) (A1 : Int) (t1 : a1.toInt = A1) (hI101 : jI101 σ) (hI102 : jI102 σ) (hI103 : jI103 σ) (hI104 : jI104 σ) (hI105 : jI105 σ) (hI106 : jI106 σ) (hI120 : jI120 σ) (hs_jKept : jKept σ) (hs_jTR : jTR σ) (hp0 : 0 ≤ A1 ∧ A1 ≤ 3) (hp1 : (σ 55 25).toInt < (σ 55 10).toInt) (hp2 : (σ 55 26).toInt < (σ 55 12).toInt) (hp3 : (σ 55 12).toInt - (σ 55 26).toInt ≤ (((n + 1) : Nat) : Int)) : jM l yX12_meanWith cX12_meanWith 8 (some .int) ({ frames := (69 + 4 * (n + 1)), cells := 0, slots := 0, locals := (3034 + 240 * (n + 1)) }) D cI cL ad zz [.ref (ad 55), .int a1] σ τ (fun r σ' τ' => τ = τ' ∧ (∀ i : Nat, (i < 55 ∨ 55 < i) ∧ (i < 66 ∨ 66 < i) ∧ (i < 74 ∨ 78 < i) → σ' i = σ i) ∧ (∀ k : Nat, (k < 18 ∨ 18 < k) ∧ (k < 19 ∨ 19 < k) ∧ (k < 20 ∨ 20 < k) ∧ (k < 21 ∨ 21 < k) ∧ (k < 22 ∨ 22 < k) ∧ (k < 37 ∨ 37 < k) → σ' 55 k = σ 55 k) ∧ (jKept σ') ∧ (jTR σ') ∧ ((True ∧ (0 ≤ r.toInt ∧ r.toInt ≤ -(1023000 * (σ 55 26).toInt) + 12276000)))) := by
  refine jM.of hJ (by decide +kernel) (nt := .int) rfl (Nat.le_of_ble_eq_true rfl) ?_
  intro p e s m args below meth c Q ls hC hret hl hP
  obtain ⟨hx, hb, hr, hml, hown, hts, hK, -, hlocks, hZ⟩ := hC
  have hown : s.vm.findClass RX12 = some m.cls := hown
  have hS : va_S (jA ad) s.heap s.heap [] := va_S.rf
  have hA : ∀ q, jA ad q → jA ad q := fun _ h => h
  have hl : lv_has ls 8 [(0, .ref (ad 55)), (1, .int a1)] := hl
  have g1 := jrg t1
  obtain ⟨i1, w2, w3⟩ : (0 ≤ (σ 55 6).toInt ∧ (σ 55 6).toInt ≤ 4) ∧ (∀ k : Nat, k < 4 → 0 ≤ (σ 60 k).toInt ∧ (σ 60 k).toInt ≤ 50) ∧ (∀ k : Nat, k < 4 → 0 ≤ (σ 61 k).toInt ∧ (σ 61 k).toInt ≤ 20) := id hI102
  obtain ⟨i4, i5, i6, w7, w8⟩ : (1 ≤ (σ 55 10).toInt ∧ (σ 55 10).toInt ≤ 8) ∧ (1 ≤ (σ 55 12).toInt ∧ (σ 55 12).toInt ≤ 12) ∧ (0 ≤ (σ 55 13).toInt ∧ (σ 55 13).toInt ≤ 999) ∧ (∀ k : Nat, k < 8 → 0 ≤ (σ 62 k).toInt ∧ (σ 62 k).toInt ≤ 3) ∧ (∀ k : Nat, k < 8 → 0 ≤ (σ 67 k).toInt ∧ (σ 67 k).toInt ≤ 3) := id hI104
  obtain ⟨i9, i10, i11, i12, i13, w14⟩ : (0 ≤ (σ 55 25).toInt) ∧ ((σ 55 25).toInt ≤ (σ 55 10).toInt) ∧ (0 ≤ (σ 55 26).toInt) ∧ ((σ 55 26).toInt ≤ (σ 55 12).toInt) ∧ ((-1) ≤ (σ 55 27).toInt ∧ (σ 55 27).toInt ≤ 3) ∧ (∀ k : Nat, k < 4 → 0 ≤ (σ 68 k).toInt ∧ (σ 68 k).toInt ≤ 3) := id hI120
  refine lv_aload_n hx hb dX12_meanWith_0 rfl (lv_at hl 0 rfl) ?_
  refine va_get (D := D) hx hb hts inlX12 hown hK hP 55 (jc_55 cI cL ad σ τ) rfl 11 (by decide) (hts _ kw_7_8) (fun _ h9 => h9) rfl dX12_meanWith_1 ?_
  refine lv_aload_n hx hb dX12_meanWith_4 rfl (lv_at hl 0 rfl) ?_
  refine va_get (D := D) hx hb hts inlX12 hown hK hP 55 (jc_55 cI cL ad σ τ) rfl 25 (by decide) (hts _ kw_23_6) (fun _ h9 => h9) rfl dX12_meanWith_5 ?_
  refine jald hx hb hK hP (jc_62 cI cL ad σ τ) (jin rfl (by omega) (by omega)) dX12_meanWith_8 ?_
  have g15 := w7 _ (jnat (x := (σ 55 25)) rfl (n := 8) (by omega) (by decide))
  refine lv_topi (fun x16 ex16 => ?_)
  rw [← ex16] at g15
  refine lv_istore_n (lv' := [(2, .int x16), (0, .ref (ad 55)), (1, .int a1)]) hx hb dX12_meanWith_9 rfl hl (by decide) rfl (fun ls hl => ?_)
  refine lv_aload_n hx hb dX12_meanWith_10 rfl (lv_at hl 1 rfl) ?_
  refine lv_iload_n hx hb dX12_meanWith_11 rfl (lv_at hl 2 rfl) ?_
  refine lv_iload_n hx hb dX12_meanWith_12 rfl (lv_at hl 0 rfl) ?_
  refine jcallV (As := [.int a1, .int x16]) (rest := []) ⟨hx, hb, hml, hown, hts⟩ hK hP hA hS hZ (c_X12_outBy l D cI cL ad zz hJ σ τ a1 (A1) t1 x16 (x16.toInt) rfl hI101 hI102 hI103 hI105 w14 hs_jTR (by omega) (by omega)) cw_RX12_259 (jc_55 cI cL ad σ τ) rfl ⟨by dsimp only; omega, by dsimp only; omega⟩ rfl rfl rfl hl.1 rfl (Nat.le_of_ble_eq_true rfl) dX12_meanWith_13 ⟨Nat.zero_le _, Nat.zero_le _⟩ (fun r18 σ17 τ17 H locs h17 hP hS => ?_)
  obtain ⟨rfl, f19, f20, p21, w22, h17⟩ := h17
  have h24 := h17
  obtain ⟨q26, k25⟩ := h24
  refine lv_istore_n (lv' := [(3, .int r18), (2, .int x16), (0, .ref (ad 55)), (1, .int a1)]) hx hb dX12_meanWith_16 rfl hl (by decide) rfl (fun ls hl => ?_)
  refine lv_sipush (v := 1000) hx hb dX12_meanWith_17 (by decide) ?_
  refine lv_aload_n hx hb dX12_meanWith_20 rfl (lv_at hl 2 rfl) ?_
  refine lv_iload_n hx hb dX12_meanWith_21 rfl (lv_at hl 3 rfl) ?_
  refine lv_iload_n hx hb dX12_meanWith_22 rfl (lv_at hl 1 rfl) ?_
  have I27 : jI101 σ17 := jI101_fr (f20 4 (by decide)) (f20 5 (by decide)) (f19 56 (by decide)) (f19 57 (by decide)) (f19 58 (by decide)) (f19 59 (by decide)) hI101
  have I28 : jI102 σ17 := jI102_fr (f20 6 (by decide)) (f19 60 (by decide)) (f19 61 (by decide)) hI102
  have I29 : jI103 σ17 := jI103_fr (f20 9 (by decide)) hI103
  have w30 : ∀ k : Nat, k < 4 → 0 ≤ (σ17 68 k).toInt ∧ (σ17 68 k).toInt ≤ 3 := (jrr_fr (f19 68 (by decide)) w14)
  refine jcallV (As := [.int a1, .int x16]) (rest := [.int 1000]) ⟨hx, hb, hml, hown, hts⟩ hK hP hA hS hZ (c_X12_runsBy l D cI cL ad zz hJ σ17 τ a1 (A1) t1 x16 (x16.toInt) rfl I27 I28 I29 w30 (by omega) (by omega)) cw_RX12_262 (jc_55 cI cL ad σ17 τ) rfl ⟨by dsimp only; omega, by dsimp only; omega⟩ rfl rfl rfl hl.1 rfl (Nat.le_of_ble_eq_true rfl) dX12_meanWith_23 ⟨Nat.zero_le _, Nat.zero_le _⟩ (fun r32 σ31 τ31 H locs h31 hP hS => ?_)
  obtain ⟨⟨rfl, rfl⟩, w33, h31⟩ := h31
  have h34 := h31
  obtain ⟨q36, k35⟩ := h34
  have g37 := jrg (rfl : r32.toInt = r32.toInt)
  refine lv_imul hx hb dX12_meanWith_26 ?_
  refine lv_topi (fun x38 ex38 => ?_)
  have tx38 : x38.toInt = 1000 * r32.toInt := (jmul ex38 jz_1000 rfl (by omega) (by omega)).trans (by omega)
  refine lv_istore (lv' := [(4, .int x38), (3, .int r18), (2, .int x16), (0, .ref (ad 55)), (1, .int a1)]) hx hb dX12_meanWith_27 hl (by decide) rfl (fun ls hl => ?_)
  refine lv_aload_n hx hb dX12_meanWith_29 rfl (lv_at hl 3 rfl) ?_
  refine lv_iload_n hx hb dX12_meanWith_30 rfl (lv_at hl 4 rfl) ?_
  refine lv_iconst (v := 1) hx hb dX12_meanWith_31 (by decide) ?_
  have z39 : (σ17 55 6).toInt = (σ 55 6).toInt := (congrArg Int32.toInt (show σ17 55 6 = (σ 55 6) from (f20 6 (by decide))))
  have z40 : (σ17 55 27).toInt = (σ 55 27).toInt := (congrArg Int32.toInt (show σ17 55 27 = (σ 55 27) from (f20 27 (by decide))))
  have z41 : (σ17 55 25).toInt = (σ 55 25).toInt := (congrArg Int32.toInt (show σ17 55 25 = (σ 55 25) from (f20 25 (by decide))))
  have z42 : (σ17 55 26).toInt = (σ 55 26).toInt := (congrArg Int32.toInt (show σ17 55 26 = (σ 55 26) from (f20 26 (by decide))))
  have z43 : (σ17 68 0).toInt = (σ 68 0).toInt := (congrArg Int32.toInt (show σ17 68 0 = (σ 68 0) from (congrFun (f19 68 (by decide)) 0)))
  have z44 : (σ17 68 1).toInt = (σ 68 1).toInt := (congrArg Int32.toInt (show σ17 68 1 = (σ 68 1) from (congrFun (f19 68 (by decide)) 1)))
  have z45 : (σ17 68 2).toInt = (σ 68 2).toInt := (congrArg Int32.toInt (show σ17 68 2 = (σ 68 2) from (congrFun (f19 68 (by decide)) 2)))
  have z46 : (σ17 68 3).toInt = (σ 68 3).toInt := (congrArg Int32.toInt (show σ17 68 3 = (σ 68 3) from (congrFun (f19 68 (by decide)) 3)))
  refine jcallV (As := [.int a1, .int 1]) (rest := []) ⟨hx, hb, hml, hown, hts⟩ hK hP hA hS hZ (c_X12_goes_1 l D cI cL ad zz hJ σ17 τ a1 (A1) t1 w30 (by omega) (by omega) (by omega) (by omega) (by omega)) cw_RX12_296 (jc_55 cI cL ad σ17 τ) rfl ⟨by dsimp only; omega, by dsimp only; omega⟩ rfl rfl rfl hl.1 rfl (Nat.le_of_ble_eq_true rfl) dX12_meanWith_32 ⟨Nat.zero_le _, Nat.zero_le _⟩ (fun r48 σ47 τ47 H locs h47 hP hS => ?_)
  obtain ⟨rfl, f49, f50, w51, w52, w53, h47⟩ := h47
  obtain ⟨k55, k56, k57, h47⟩ := h47
  have h58 := h47
  obtain ⟨q64, k59, k60, k61, k62, k63⟩ := h58
  refine lv_istore (lv' := [(5, .int r48), (4, .int x38), (3, .int r18), (2, .int x16), (0, .ref (ad 55)), (1, .int a1)]) hx hb dX12_meanWith_35 hl (by decide) rfl (fun ls hl => ?_)
  refine lv_aload_n hx hb dX12_meanWith_37 rfl (lv_at hl 4 rfl) ?_
  have I65 : jI101 σ47 := jI101_fr (f50 4 (by decide)) (f50 5 (by decide)) (f49 56 (by decide)) (f49 57 (by decide)) (f49 58 (by decide)) (f49 59 (by decide)) I27
  have I66 : jI102 σ47 := jI102_fr (f50 6 (by decide)) (f49 60 (by decide)) (f49 61 (by decide)) I28
  have I67 : jI103 σ47 := jI103_fr (f50 9 (by decide)) I29
  have I68 : jI104 σ47 := jI104_fr ((f50 10 (by decide)).trans (f20 10 (by decide))) ((f50 12 (by decide)).trans (f20 12 (by decide))) ((f50 13 (by decide)).trans (f20 13 (by decide))) ((f49 62 (by decide)).trans (f19 62 (by decide))) ((f49 67 (by decide)).trans (f19 67 (by decide))) hI104
  have I69 : jI105 σ47 := jI105_fr ((f50 15 (by decide)).trans (f20 15 (by decide))) ((f49 65 (by decide)).trans (f19 65 (by decide))) hI105
  have I70 : jI106 σ47 := jI106_fr ((f50 32 (by decide)).trans (f20 32 (by decide))) ((f49 70 (by decide)).trans (f19 70 (by decide))) ((f49 71 (by decide)).trans (f19 71 (by decide))) ((f49 72 (by decide)).trans (f19 72 (by decide))) hI106
  have z71 : (σ47 55 10).toInt = (σ 55 10).toInt := (congrArg Int32.toInt (show σ47 55 10 = (σ 55 10) from ((f50 10 (by decide)).trans (f20 10 (by decide)))))
  have z72 : (σ47 55 12).toInt = (σ 55 12).toInt := (congrArg Int32.toInt (show σ47 55 12 = (σ 55 12) from ((f50 12 (by decide)).trans (f20 12 (by decide)))))
  have I73 : jI120 σ47 := ⟨(by omega), (by omega), (by omega), (by omega), (by omega), w51⟩
  have p74 : jKept σ47 := jKept.fr ((f49 75 (by decide)).trans (f19 75 (by decide))) ((f49 76 (by decide)).trans (f19 76 (by decide))) ((f49 77 (by decide)).trans (f19 77 (by decide))) hs_jKept
  have p75 : jTR σ47 := jTR.fr (f49 64 (by decide)) (f49 65 (by decide)) p21
  refine jcallV (As := []) (rest := []) ⟨hx, hb, hml, hown, hts⟩ hK hP hA hS hZ (h_bf σ47 τ I65 I66 I67 I68 I69 I70 I73 p74 p75 (by omega)) cw_RX12_280 (jc_55 cI cL ad σ47 τ) rfl ⟨by dsimp only; omega, by dsimp only; omega⟩ rfl rfl rfl hl.1 rfl (Nat.le_of_ble_eq_true rfl) dX12_meanWith_38 ⟨Nat.zero_le _, Nat.zero_le _⟩ (fun r77 σ76 τ76 H locs h76 hP hS => ?_)
  obtain ⟨rfl, f78, f79, p80, p81, h76⟩ := h76
  obtain ⟨k83, h76⟩ := h76
  have h84 := h76
  obtain ⟨q86, k85⟩ := h84
  refine lv_istore (lv' := [(6, .int r77), (5, .int r48), (4, .int x38), (3, .int r18), (2, .int x16), (0, .ref (ad 55)), (1, .int a1)]) hx hb dX12_meanWith_41 hl (by decide) rfl (fun ls hl => ?_)
  refine lv_aload_n hx hb dX12_meanWith_43 rfl (lv_at hl 5 rfl) ?_
  refine lv_iload_n hx hb dX12_meanWith_44 rfl (lv_at hl 6 rfl) ?_
  refine lv_iconst (v := 1) hx hb dX12_meanWith_45 (by decide) ?_
  refine lv_iload hx hb dX12_meanWith_46 (lv_at hl 1 rfl) ?_
  have w87 : ∀ k : Nat, k < 4 → 0 ≤ (σ76 68 k).toInt ∧ (σ76 68 k).toInt ≤ 3 := (jrr_fr (f78 68 (by decide)) w51)
  have z88 : (σ76 55 25).toInt = (σ47 55 25).toInt := (congrArg Int32.toInt (show σ76 55 25 = (σ47 55 25) from (f79 25 (by decide))))
  have z89 : (σ76 55 26).toInt = (σ47 55 26).toInt := (congrArg Int32.toInt (show σ76 55 26 = (σ47 55 26) from (f79 26 (by decide))))
  have z90 : (σ76 55 6).toInt = (σ 55 6).toInt := (congrArg Int32.toInt (show σ76 55 6 = (σ 55 6) from ((f79 6 (by decide)).trans ((f50 6 (by decide)).trans (f20 6 (by decide))))))
  have w91 : ∀ k : Nat, k < 4 → 0 ≤ (σ17 68 k).toInt ∧ (σ17 68 k).toInt ≤ 3 := w30
  have z93 : (σ17 55 27).toInt = (σ 55 27).toInt := (congrArg Int32.toInt (show σ17 55 27 = (σ 55 27) from (f20 27 (by decide))))
  have k92 := jwas (by omega) (w91 0 (by decide)) (w91 1 (by decide)) (w91 2 (by decide)) (w91 3 (by decide)) k59
  rw [← (show σ76 55 6 = σ17 55 6 from ((f79 6 (by decide)).trans (f50 6 (by decide))))] at k92
  refine jcallVv (As := [.int a1, .int 1, .int r48]) (rest := []) ⟨hx, hb, hml, hown, hts⟩ hK hP hA hS hZ (c_X12_goesBack_1 l D cI cL ad zz hJ σ76 τ a1 (A1) t1 r48 (r48.toInt) rfl w87 (by omega) (by omega) (by omega) k92) cw_RX12_300 (jc_55 cI cL ad σ76 τ) rfl ⟨by dsimp only; omega, by dsimp only; omega⟩ rfl rfl rfl hl.1 rfl (Nat.le_of_ble_eq_true rfl) dX12_meanWith_48 ⟨Nat.zero_le _, Nat.zero_le _⟩ (fun σ94 τ94 H locs h94 hP hS => ?_)
  obtain ⟨rfl, f96, f97, w98, w99, w100, h94⟩ := h94
  obtain ⟨k102, k103, k104, k105, h94⟩ := h94
  have p106 : jKept σ94 := jKept.fr (f96 75 (by decide)) (f96 76 (by decide)) (f96 77 (by decide)) p80
  have p107 : jTR σ94 := jTR.fr (f96 64 (by decide)) (f96 65 (by decide)) p81
  have e108 : σ76 69 = σ47 69 := (f78 69 (by decide))
  have e109 : σ94 69 = σ17 69 := jback69 w52 e108 w99
  have e110 : σ76 68 = σ47 68 := (f78 68 (by decide))
  have e111 : σ76 55 6 = σ17 55 6 := ((f79 6 (by decide)).trans (f50 6 (by decide)))
  have w119 : ∀ k : Nat, k < 4 → 0 ≤ (σ17 68 k).toInt ∧ (σ17 68 k).toInt ≤ 3 := w30
  have w120 : ∀ k : Nat, k < 4 → 0 ≤ (σ94 68 k).toInt ∧ (σ94 68 k).toInt ≤ 3 := w98
  have k121 := k105
  rw [e111] at k121
  have D112 := jdig (w119 0 (by decide)) (w119 1 (by decide)) (w119 2 (by decide)) (w119 3 (by decide)) (w120 0 (by decide)) (w120 1 (by decide)) (w120 2 (by decide)) (w120 3 (by decide)) k59 k121
  have e113 : σ94 55 27 = σ17 55 27 := Int32.toInt_inj.mp (by have h9 := D112.1; omega)
  have z122 : (σ76 55 26).toInt = (σ47 55 26).toInt := (congrArg Int32.toInt (show σ76 55 26 = (σ47 55 26) from (f79 26 (by decide))))
  have z123 : (σ17 55 26).toInt = (σ 55 26).toInt := (congrArg Int32.toInt (show σ17 55 26 = (σ 55 26) from (f20 26 (by decide))))
  have z124 : (σ76 55 25).toInt = (σ47 55 25).toInt := (congrArg Int32.toInt (show σ76 55 25 = (σ47 55 25) from (f79 25 (by decide))))
  have z125 : (σ17 55 25).toInt = (σ 55 25).toInt := (congrArg Int32.toInt (show σ17 55 25 = (σ 55 25) from (f20 25 (by decide))))
  have e114 : σ94 55 26 = σ17 55 26 := Int32.toInt_inj.mp (by omega)
  have e115 : σ94 55 25 = σ17 55 25 := Int32.toInt_inj.mp (by omega)
  have z126 : (σ17 55 6).toInt = (σ 55 6).toInt := (congrArg Int32.toInt (show σ17 55 6 = (σ 55 6) from (f20 6 (by decide))))
  have e116 : σ94 68 = σ17 68 := jback68 (nb := (σ17 55 6).toInt) (by omega) w53 e110 (fun k hk => w100 k (by rw [e111]; exact hk)) D112.2
  have f117 : (∀ i : Nat, (i < 55 ∨ 55 < i) ∧ (i < 66 ∨ 66 < i) ∧ (i < 74 ∨ 78 < i) → σ94 i = σ17 i) := fun i hi0 => by
    by_cases h8 : i = 68
    · rw [h8]; exact e116
    by_cases h9 : i = 69
    · rw [h9]; exact e109
    have hi : ((i < 55 ∨ 55 < i) ∧ (i < 66 ∨ 66 < i) ∧ (i < 74 ∨ 78 < i)) ∧ i ≠ 68 ∧ i ≠ 69 := ⟨hi0, h8, h9⟩
    exact ((f96 i (imp_200 i hi)).trans ((f78 i (imp_201 i hi)).trans (f49 i (imp_200 i hi))))
  have f118 : ∀ i : Nat, (i < 18 ∨ 18 < i) ∧ (i < 19 ∨ 19 < i) ∧ (i < 20 ∨ 20 < i) ∧ (i < 21 ∨ 21 < i) ∧ (i < 22 ∨ 22 < i) ∧ (i < 37 ∨ 37 < i) → σ94 55 i = σ17 55 i := fun i hi0 => by
    by_cases h25 : i = 25
    · rw [h25]; exact e115
    by_cases h26 : i = 26
    · rw [h26]; exact e114
    by_cases h27 : i = 27
    · rw [h27]; exact e113
    have hi : ((i < 18 ∨ 18 < i) ∧ (i < 19 ∨ 19 < i) ∧ (i < 20 ∨ 20 < i) ∧ (i < 21 ∨ 21 < i) ∧ (i < 22 ∨ 22 < i) ∧ (i < 37 ∨ 37 < i)) ∧ i ≠ 25 ∧ i ≠ 26 ∧ i ≠ 27 := ⟨hi0, h25, h26, h27⟩
    exact ((f97 i (imp_202 i hi)).trans ((f79 i (imp_203 i hi)).trans (f50 i (imp_202 i hi))))
  clear k121 k105 k59
  refine lv_aload_n hx hb dX12_meanWith_51 rfl (lv_at hl 5 rfl) ?_
  refine lv_iload_n hx hb dX12_meanWith_52 rfl (lv_at hl 6 rfl) ?_
  refine lv_iconst (v := 0) hx hb dX12_meanWith_53 (by decide) ?_
  have w127 : ∀ k : Nat, k < 4 → 0 ≤ (σ94 68 k).toInt ∧ (σ94 68 k).toInt ≤ 3 := (jrr_fr (f117 68 (by decide)) w30)
  have z128 : (σ94 55 6).toInt = (σ 55 6).toInt := (congrArg Int32.toInt (show σ94 55 6 = (σ 55 6) from ((f118 6 (by decide)).trans (f20 6 (by decide)))))
  have z129 : (σ94 55 27).toInt = (σ 55 27).toInt := (congrArg Int32.toInt (show σ94 55 27 = (σ 55 27) from ((f118 27 (by decide)).trans (f20 27 (by decide)))))
  have z130 : (σ94 55 25).toInt = (σ 55 25).toInt := (congrArg Int32.toInt (show σ94 55 25 = (σ 55 25) from ((f118 25 (by decide)).trans (f20 25 (by decide)))))
  have z131 : (σ94 55 26).toInt = (σ 55 26).toInt := (congrArg Int32.toInt (show σ94 55 26 = (σ 55 26) from ((f118 26 (by decide)).trans (f20 26 (by decide)))))
  have z132 : (σ94 68 0).toInt = (σ 68 0).toInt := (congrArg Int32.toInt (show σ94 68 0 = (σ 68 0) from ((congrFun (f117 68 (by decide)) 0).trans (congrFun (f19 68 (by decide)) 0))))
  have z133 : (σ94 68 1).toInt = (σ 68 1).toInt := (congrArg Int32.toInt (show σ94 68 1 = (σ 68 1) from ((congrFun (f117 68 (by decide)) 1).trans (congrFun (f19 68 (by decide)) 1))))
  have z134 : (σ94 68 2).toInt = (σ 68 2).toInt := (congrArg Int32.toInt (show σ94 68 2 = (σ 68 2) from ((congrFun (f117 68 (by decide)) 2).trans (congrFun (f19 68 (by decide)) 2))))
  have z135 : (σ94 68 3).toInt = (σ 68 3).toInt := (congrArg Int32.toInt (show σ94 68 3 = (σ 68 3) from ((congrFun (f117 68 (by decide)) 3).trans (congrFun (f19 68 (by decide)) 3))))
  refine jcallV (As := [.int a1, .int 0]) (rest := []) ⟨hx, hb, hml, hown, hts⟩ hK hP hA hS hZ (c_X12_goes_0 l D cI cL ad zz hJ σ94 τ a1 (A1) t1 w127 (by omega) (by omega) (by omega) (by omega) (by omega)) cw_RX12_296 (jc_55 cI cL ad σ94 τ) rfl ⟨by dsimp only; omega, by dsimp only; omega⟩ rfl rfl rfl hl.1 rfl (Nat.le_of_ble_eq_true rfl) dX12_meanWith_54 ⟨Nat.zero_le _, Nat.zero_le _⟩ (fun r137 σ136 τ136 H locs h136 hP hS => ?_)
  obtain ⟨rfl, f138, f139, w140, w141, w142, h136⟩ := h136
  obtain ⟨k144, k145, k146, h136⟩ := h136
  have h147 := h136
  obtain ⟨q153, k148, k149, k150, k151, k152⟩ := h147
  refine lv_istore (lv' := [(5, .int r137), (6, .int r77), (4, .int x38), (3, .int r18), (2, .int x16), (0, .ref (ad 55)), (1, .int a1)]) hx hb dX12_meanWith_57 hl (by decide) rfl (fun ls hl => ?_)
  refine lv_aload_n hx hb dX12_meanWith_59 rfl (lv_at hl 5 rfl) ?_
  have I154 : jI101 σ136 := jI101_fr ((f139 4 (by decide)).trans (f118 4 (by decide))) ((f139 5 (by decide)).trans (f118 5 (by decide))) ((f138 56 (by decide)).trans (f117 56 (by decide))) ((f138 57 (by decide)).trans (f117 57 (by decide))) ((f138 58 (by decide)).trans (f117 58 (by decide))) ((f138 59 (by decide)).trans (f117 59 (by decide))) I27
  have I155 : jI102 σ136 := jI102_fr ((f139 6 (by decide)).trans (f118 6 (by decide))) ((f138 60 (by decide)).trans (f117 60 (by decide))) ((f138 61 (by decide)).trans (f117 61 (by decide))) I28
  have I156 : jI103 σ136 := jI103_fr ((f139 9 (by decide)).trans (f118 9 (by decide))) I29
  have I157 : jI104 σ136 := jI104_fr ((f139 10 (by decide)).trans ((f118 10 (by decide)).trans (f20 10 (by decide)))) ((f139 12 (by decide)).trans ((f118 12 (by decide)).trans (f20 12 (by decide)))) ((f139 13 (by decide)).trans ((f118 13 (by decide)).trans (f20 13 (by decide)))) ((f138 62 (by decide)).trans ((f117 62 (by decide)).trans (f19 62 (by decide)))) ((f138 67 (by decide)).trans ((f117 67 (by decide)).trans (f19 67 (by decide)))) hI104
  have I158 : jI105 σ136 := jI105_fr ((f139 15 (by decide)).trans ((f118 15 (by decide)).trans (f20 15 (by decide)))) ((f138 65 (by decide)).trans ((f117 65 (by decide)).trans (f19 65 (by decide)))) hI105
  have I159 : jI106 σ136 := jI106_fr ((f139 32 (by decide)).trans ((f118 32 (by decide)).trans (f20 32 (by decide)))) ((f138 70 (by decide)).trans ((f117 70 (by decide)).trans (f19 70 (by decide)))) ((f138 71 (by decide)).trans ((f117 71 (by decide)).trans (f19 71 (by decide)))) ((f138 72 (by decide)).trans ((f117 72 (by decide)).trans (f19 72 (by decide)))) hI106
  have z160 : (σ136 55 10).toInt = (σ 55 10).toInt := (congrArg Int32.toInt (show σ136 55 10 = (σ 55 10) from ((f139 10 (by decide)).trans ((f118 10 (by decide)).trans (f20 10 (by decide))))))
  have z161 : (σ136 55 12).toInt = (σ 55 12).toInt := (congrArg Int32.toInt (show σ136 55 12 = (σ 55 12) from ((f139 12 (by decide)).trans ((f118 12 (by decide)).trans (f20 12 (by decide))))))
  have I162 : jI120 σ136 := ⟨(by omega), (by omega), (by omega), (by omega), (by omega), w140⟩
  have p163 : jKept σ136 := jKept.fr (f138 75 (by decide)) (f138 76 (by decide)) (f138 77 (by decide)) p106
  have p164 : jTR σ136 := jTR.fr (f138 64 (by decide)) (f138 65 (by decide)) p107
  refine jcallV (As := []) (rest := []) ⟨hx, hb, hml, hown, hts⟩ hK hP hA hS hZ (h_bf σ136 τ I154 I155 I156 I157 I158 I159 I162 p163 p164 (by omega)) cw_RX12_280 (jc_55 cI cL ad σ136 τ) rfl ⟨by dsimp only; omega, by dsimp only; omega⟩ rfl rfl rfl hl.1 rfl (Nat.le_of_ble_eq_true rfl) dX12_meanWith_60 ⟨Nat.zero_le _, Nat.zero_le _⟩ (fun r166 σ165 τ165 H locs h165 hP hS => ?_)
  obtain ⟨rfl, f167, f168, p169, p170, h165⟩ := h165
  obtain ⟨k172, h165⟩ := h165
  have h173 := h165
  obtain ⟨q175, k174⟩ := h173
  refine lv_istore (lv' := [(7, .int r166), (5, .int r137), (6, .int r77), (4, .int x38), (3, .int r18), (2, .int x16), (0, .ref (ad 55)), (1, .int a1)]) hx hb dX12_meanWith_63 hl (by decide) rfl (fun ls hl => ?_)
  refine lv_aload_n hx hb dX12_meanWith_65 rfl (lv_at hl 6 rfl) ?_
  refine lv_iload_n hx hb dX12_meanWith_66 rfl (lv_at hl 7 rfl) ?_
  refine lv_iconst (v := 0) hx hb dX12_meanWith_67 (by decide) ?_
  refine lv_iload hx hb dX12_meanWith_68 (lv_at hl 1 rfl) ?_
  have w176 : ∀ k : Nat, k < 4 → 0 ≤ (σ165 68 k).toInt ∧ (σ165 68 k).toInt ≤ 3 := (jrr_fr (f167 68 (by decide)) w140)
  have z177 : (σ165 55 25).toInt = (σ136 55 25).toInt := (congrArg Int32.toInt (show σ165 55 25 = (σ136 55 25) from (f168 25 (by decide))))
  have z178 : (σ165 55 26).toInt = (σ136 55 26).toInt := (congrArg Int32.toInt (show σ165 55 26 = (σ136 55 26) from (f168 26 (by decide))))
  have z179 : (σ165 55 6).toInt = (σ 55 6).toInt := (congrArg Int32.toInt (show σ165 55 6 = (σ 55 6) from ((f168 6 (by decide)).trans ((f139 6 (by decide)).trans ((f118 6 (by decide)).trans (f20 6 (by decide)))))))
  have w180 : ∀ k : Nat, k < 4 → 0 ≤ (σ94 68 k).toInt ∧ (σ94 68 k).toInt ≤ 3 := w127
  have z182 : (σ94 55 27).toInt = (σ 55 27).toInt := (congrArg Int32.toInt (show σ94 55 27 = (σ 55 27) from ((f118 27 (by decide)).trans (f20 27 (by decide)))))
  have k181 := jwas (by omega) (w180 0 (by decide)) (w180 1 (by decide)) (w180 2 (by decide)) (w180 3 (by decide)) k148
  rw [← (show σ165 55 6 = σ94 55 6 from ((f168 6 (by decide)).trans (f139 6 (by decide))))] at k181
  refine jcallVv (As := [.int a1, .int 0, .int r137]) (rest := []) ⟨hx, hb, hml, hown, hts⟩ hK hP hA hS hZ (c_X12_goesBack_0 l D cI cL ad zz hJ σ165 τ a1 (A1) t1 r137 (r137.toInt) rfl w176 (by omega) (by omega) (by omega) k181) cw_RX12_300 (jc_55 cI cL ad σ165 τ) rfl ⟨by dsimp only; omega, by dsimp only; omega⟩ rfl rfl rfl hl.1 rfl (Nat.le_of_ble_eq_true rfl) dX12_meanWith_70 ⟨Nat.zero_le _, Nat.zero_le _⟩ (fun σ183 τ183 H locs h183 hP hS => ?_)
  obtain ⟨rfl, f185, f186, w187, w188, w189, h183⟩ := h183
  obtain ⟨k191, k192, k193, k194, h183⟩ := h183
  have p195 : jKept σ183 := jKept.fr (f185 75 (by decide)) (f185 76 (by decide)) (f185 77 (by decide)) p169
  have p196 : jTR σ183 := jTR.fr (f185 64 (by decide)) (f185 65 (by decide)) p170
  have e197 : σ165 69 = σ136 69 := (f167 69 (by decide))
  have e198 : σ183 69 = σ94 69 := jback69 w141 e197 w188
  have e199 : σ165 68 = σ136 68 := (f167 68 (by decide))
  have e200 : σ165 55 6 = σ94 55 6 := ((f168 6 (by decide)).trans (f139 6 (by decide)))
  have w208 : ∀ k : Nat, k < 4 → 0 ≤ (σ94 68 k).toInt ∧ (σ94 68 k).toInt ≤ 3 := w127
  have w209 : ∀ k : Nat, k < 4 → 0 ≤ (σ183 68 k).toInt ∧ (σ183 68 k).toInt ≤ 3 := w187
  have k210 := k194
  rw [e200] at k210
  have D201 := jdig (w208 0 (by decide)) (w208 1 (by decide)) (w208 2 (by decide)) (w208 3 (by decide)) (w209 0 (by decide)) (w209 1 (by decide)) (w209 2 (by decide)) (w209 3 (by decide)) k148 k210
  have e202 : σ183 55 27 = σ94 55 27 := Int32.toInt_inj.mp (by have h9 := D201.1; omega)
  have z211 : (σ165 55 26).toInt = (σ136 55 26).toInt := (congrArg Int32.toInt (show σ165 55 26 = (σ136 55 26) from (f168 26 (by decide))))
  have z212 : (σ94 55 26).toInt = (σ 55 26).toInt := (congrArg Int32.toInt (show σ94 55 26 = (σ 55 26) from ((f118 26 (by decide)).trans (f20 26 (by decide)))))
  have z213 : (σ165 55 25).toInt = (σ136 55 25).toInt := (congrArg Int32.toInt (show σ165 55 25 = (σ136 55 25) from (f168 25 (by decide))))
  have z214 : (σ94 55 25).toInt = (σ 55 25).toInt := (congrArg Int32.toInt (show σ94 55 25 = (σ 55 25) from ((f118 25 (by decide)).trans (f20 25 (by decide)))))
  have e203 : σ183 55 26 = σ94 55 26 := Int32.toInt_inj.mp (by omega)
  have e204 : σ183 55 25 = σ94 55 25 := Int32.toInt_inj.mp (by omega)
  have z215 : (σ94 55 6).toInt = (σ 55 6).toInt := (congrArg Int32.toInt (show σ94 55 6 = (σ 55 6) from ((f118 6 (by decide)).trans (f20 6 (by decide)))))
  have e205 : σ183 68 = σ94 68 := jback68 (nb := (σ94 55 6).toInt) (by omega) w142 e199 (fun k hk => w189 k (by rw [e200]; exact hk)) D201.2
  have f206 : (∀ i : Nat, (i < 55 ∨ 55 < i) ∧ (i < 66 ∨ 66 < i) ∧ (i < 74 ∨ 78 < i) → σ183 i = σ94 i) := fun i hi0 => by
    by_cases h8 : i = 68
    · rw [h8]; exact e205
    by_cases h9 : i = 69
    · rw [h9]; exact e198
    have hi : ((i < 55 ∨ 55 < i) ∧ (i < 66 ∨ 66 < i) ∧ (i < 74 ∨ 78 < i)) ∧ i ≠ 68 ∧ i ≠ 69 := ⟨hi0, h8, h9⟩
    exact ((f185 i (imp_200 i hi)).trans ((f167 i (imp_201 i hi)).trans (f138 i (imp_200 i hi))))
  have f207 : ∀ i : Nat, (i < 18 ∨ 18 < i) ∧ (i < 19 ∨ 19 < i) ∧ (i < 20 ∨ 20 < i) ∧ (i < 21 ∨ 21 < i) ∧ (i < 22 ∨ 22 < i) ∧ (i < 37 ∨ 37 < i) → σ183 55 i = σ94 55 i := fun i hi0 => by
    by_cases h25 : i = 25
    · rw [h25]; exact e204
    by_cases h26 : i = 26
    · rw [h26]; exact e203
    by_cases h27 : i = 27
    · rw [h27]; exact e202
    have hi : ((i < 18 ∨ 18 < i) ∧ (i < 19 ∨ 19 < i) ∧ (i < 20 ∨ 20 < i) ∧ (i < 21 ∨ 21 < i) ∧ (i < 22 ∨ 22 < i) ∧ (i < 37 ∨ 37 < i)) ∧ i ≠ 25 ∧ i ≠ 26 ∧ i ≠ 27 := ⟨hi0, h25, h26, h27⟩
    exact ((f186 i (imp_202 i hi)).trans ((f168 i (imp_203 i hi)).trans (f139 i (imp_202 i hi))))
  clear k210 k194 k148
  refine lv_iload hx hb dX12_meanWith_73 (lv_at hl 3 rfl) ?_
  refine lv_sipush (v := 1000) hx hb dX12_meanWith_75 (by decide) ?_
  refine lv_aload_n hx hb dX12_meanWith_78 rfl (lv_at hl 6 rfl) ?_
  refine va_get (D := D) hx hb hts inlX12 hown hK hP 55 (jc_55 cI cL ad σ183 τ) rfl 13 (by decide) (hts _ kw_15_14) (fun _ h9 => h9) rfl dX12_meanWith_79 ?_
  have m216 : σ183 55 13 = (σ 55 13) := ((f207 13 (by decide)).trans ((f118 13 (by decide)).trans (f20 13 (by decide))))
  refine jtopr m216 ?_
  have g217 := jrg (rfl : (σ 55 13).toInt = (σ 55 13).toInt)
  refine lv_isub hx hb dX12_meanWith_82 ?_
  refine lv_topi (fun x218 ex218 => ?_)
  have tx218 : x218.toInt = -(σ 55 13).toInt + 1000 := (jsub ex218 jz_1000 rfl (by omega) (by omega)).trans (by omega)
  refine lv_i2l (v := x218.toInt64) hx hb dX12_meanWith_83 rfl ?_
  refine lv_iload hx hb dX12_meanWith_84 (lv_at hl 2 rfl) ?_
  refine lv_iload hx hb dX12_meanWith_86 (lv_at hl 0 rfl) ?_
  refine lv_iload_n hx hb dX12_meanWith_88 rfl (lv_at hl 4 rfl) ?_
  refine jcallS (As := [.int r77, .int r166, .int r18]) (rest := [.long x218.toInt64, .int x38]) ⟨hx, hb, hml, hown, hts⟩ hK hP hA hS hZ (c_X12_mixed_b l D cI cL ad zz hJ σ183 τ r77 (r77.toInt) rfl r166 (r166.toInt) rfl r18 (r18.toInt) rfl (by omega) (by omega) (by omega)) cw_RX12_304 ⟨by dsimp only; omega, by dsimp only; omega⟩ rfl rfl rfl hl.1 rfl (Nat.le_of_ble_eq_true rfl) dX12_meanWith_89 ⟨Nat.zero_le _, Nat.zero_le _⟩ (fun r220 σ219 τ219 H locs h219 hP hS => ?_)
  obtain ⟨⟨rfl, rfl⟩, h219⟩ := h219
  have h221 := h219
  obtain ⟨q224, k222, k223⟩ := h221
  refine lv_i2l (v := r220.toInt64) hx hb dX12_meanWith_92 rfl ?_
  refine lv_lmul hx hb dX12_meanWith_93 ?_
  refine lv_topl (fun lx225 elx225 => ?_)
  have g226 := jprod (a := 1000) (b := 11253000) (jtoL tx218) (jtoL rfl) (by omega) (by omega) (by omega) (by omega)
  have tlx225 : lx225.toInt = ((-(σ 55 13).toInt + 1000) * r220.toInt) := jlmul elx225 (jtoL tx218) (jtoL rfl) (by omega) (by omega)
  refine lv_ldc2 (v := 1000) hx hb hown (hts _ kw_34_19) dX12_meanWith_94 ?_
  refine lv_ldiv hx hb dX12_meanWith_97 (by decide) ?_
  refine lv_topl (fun lx227 elx227 => ?_)
  have tlx227 : lx227.toInt = ((((-(σ 55 13).toInt + 1000) * r220.toInt)) / 1000) := jldiv elx227 tlx225 jzl_1000 (by omega) (by omega)
  refine lv_l2i hx hb dX12_meanWith_98 rfl ?_
  refine lv_topi (fun x228 ex228 => ?_)
  have tx228 : x228.toInt = ((((-(σ 55 13).toInt + 1000) * r220.toInt)) / 1000) := jtoI ex228 tlx227 (by omega) (by omega)
  refine lv_iadd hx hb dX12_meanWith_99 ?_
  refine lv_topi (fun x229 ex229 => ?_)
  have tx229 : x229.toInt = 1000 * r32.toInt + ((((-(σ 55 13).toInt + 1000) * r220.toInt)) / 1000) := (jadd ex229 tx38 tx228 (by omega) (by omega)).trans (by omega)
  exact hret x229 σ183 τ _ _ _ _ rfl ⟨rfl, (fun i hi => ((f206 i hi).trans ((f117 i hi).trans (f19 i (imp_204 i hi))))), (fun i hi => ((f207 i hi).trans ((f118 i hi).trans (f20 i (imp_205 i hi))))), p195, p196, ⟨trivial, (by have h9 := tx229; omega)⟩⟩ hP hS dX12_meanWith_100
set_option maxHeartbeats 4000000 in
set_option maxRecDepth 100000 in
theorem c_X12_bests_mean_z (l : Launch) (D : va_G) (cI cL : ClassId) (ad zz : Nat → Nat) (hJ : jD ad) (σ : Nat → Nat → Int32) (τ : Nat → Nat → Int64) (a1 : Int32) (A1 : Int) (t1 : a1.toInt = A1) (hI101 : jI101 σ) (hI102 : jI102 σ) (hI103 : jI103 σ) (hI104 : jI104 σ) (hI105 : jI105 σ) (hI106 : jI106 σ) (hI120 : jI120 σ) (hs_jKept : jKept σ) (hs_jTR : jTR σ) (hp0 : 0 ≤ A1 ∧ A1 ≤ 3) (hp1 : (σ 55 25).toInt < (σ 55 10).toInt) (hp2 : (σ 55 26).toInt < (σ 55 12).toInt) (hp3 : (σ 55 12).toInt - (σ 55 26).toInt ≤ (((0) : Nat) : Int)) : jM l yX12_meanWith cX12_meanWith 8 (some .int) ({ frames := (69 + 4 * (0)), cells := 0, slots := 0, locals := (3034 + 240 * (0)) }) D cI cL ad zz [.ref (ad 55), .int a1] σ τ (fun r σ' τ' => τ = τ' ∧ (∀ i : Nat, (i < 55 ∨ 55 < i) ∧ (i < 66 ∨ 66 < i) ∧ (i < 74 ∨ 78 < i) → σ' i = σ i) ∧ (∀ k : Nat, (k < 18 ∨ 18 < k) ∧ (k < 19 ∨ 19 < k) ∧ (k < 20 ∨ 20 < k) ∧ (k < 21 ∨ 21 < k) ∧ (k < 22 ∨ 22 < k) ∧ (k < 37 ∨ 37 < k) → σ' 55 k = σ 55 k) ∧ (jKept σ') ∧ (jTR σ') ∧ ((True ∧ (0 ≤ r.toInt ∧ r.toInt ≤ -(1023000 * (σ 55 26).toInt) + 12276000)))) := by
  refine jM.of hJ (by decide +kernel) (nt := .int) rfl (Nat.le_of_ble_eq_true rfl) ?_
  intro p e s m args below meth c Q ls hC hret hl hP
  obtain ⟨hx, hb, hr, hml, hown, hts, hK, -, hlocks, hZ⟩ := hC
  have hown : s.vm.findClass RX12 = some m.cls := hown
  have hS : va_S (jA ad) s.heap s.heap [] := va_S.rf
  have hA : ∀ q, jA ad q → jA ad q := fun _ h => h
  have hl : lv_has ls 8 [(0, .ref (ad 55)), (1, .int a1)] := hl
  have g1 := jrg t1
  obtain ⟨i1, w2, w3⟩ : (0 ≤ (σ 55 6).toInt ∧ (σ 55 6).toInt ≤ 4) ∧ (∀ k : Nat, k < 4 → 0 ≤ (σ 60 k).toInt ∧ (σ 60 k).toInt ≤ 50) ∧ (∀ k : Nat, k < 4 → 0 ≤ (σ 61 k).toInt ∧ (σ 61 k).toInt ≤ 20) := id hI102
  obtain ⟨i4, i5, i6, w7, w8⟩ : (1 ≤ (σ 55 10).toInt ∧ (σ 55 10).toInt ≤ 8) ∧ (1 ≤ (σ 55 12).toInt ∧ (σ 55 12).toInt ≤ 12) ∧ (0 ≤ (σ 55 13).toInt ∧ (σ 55 13).toInt ≤ 999) ∧ (∀ k : Nat, k < 8 → 0 ≤ (σ 62 k).toInt ∧ (σ 62 k).toInt ≤ 3) ∧ (∀ k : Nat, k < 8 → 0 ≤ (σ 67 k).toInt ∧ (σ 67 k).toInt ≤ 3) := id hI104
  obtain ⟨i9, i10, i11, i12, i13, w14⟩ : (0 ≤ (σ 55 25).toInt) ∧ ((σ 55 25).toInt ≤ (σ 55 10).toInt) ∧ (0 ≤ (σ 55 26).toInt) ∧ ((σ 55 26).toInt ≤ (σ 55 12).toInt) ∧ ((-1) ≤ (σ 55 27).toInt ∧ (σ 55 27).toInt ≤ 3) ∧ (∀ k : Nat, k < 4 → 0 ≤ (σ 68 k).toInt ∧ (σ 68 k).toInt ≤ 3) := id hI120
  exact absurd (by omega : False) id
set_option maxHeartbeats 4000000 in
set_option maxRecDepth 100000 in
theorem c_X12_bests_bf_g (l : Launch) (D : va_G) (cI cL : ClassId) (ad zz : Nat → Nat) (hJ : jD ad) (n : Nat) (h_mean : ∀ (σ : Nat → Nat → Int32) (τ : Nat → Nat → Int64) (a1 : Int32) (A1 : Int) (t1 : a1.toInt = A1) (hI101 : jI101 σ) (hI102 : jI102 σ) (hI103 : jI103 σ) (hI104 : jI104 σ) (hI105 : jI105 σ) (hI106 : jI106 σ) (hI120 : jI120 σ) (hs_jKept : jKept σ) (hs_jTR : jTR σ) (hp0 : 0 ≤ A1 ∧ A1 ≤ 3) (hp1 : (σ 55 25).toInt < (σ 55 10).toInt) (hp2 : (σ 55 26).toInt < (σ 55 12).toInt) (hp3 : (σ 55 12).toInt - (σ 55 26).toInt ≤ (((n) : Nat) : Int)), jM l yX12_meanWith cX12_meanWith 8 (some .int) ({ frames := (69 + 4 * (n)), cells := 0, slots := 0, locals := (3034 + 240 * (n)) }) D cI cL ad zz [.ref (ad 55), .int a1] σ τ (fun r σ' τ' => τ = τ' ∧ (∀ i : Nat, (i < 55 ∨ 55 < i) ∧ (i < 66 ∨ 66 < i) ∧ (i < 74 ∨ 78 < i) → σ' i = σ i) ∧ (∀ k : Nat, (k < 18 ∨ 18 < k) ∧ (k < 19 ∨ 19 < k) ∧ (k < 20 ∨ 20 < k) ∧ (k < 21 ∨ 21 < k) ∧ (k < 22 ∨ 22 < k) ∧ (k < 37 ∨ 37 < k) → σ' 55 k = σ 55 k) ∧ (jKept σ') ∧ (jTR σ') ∧ ((True ∧ (0 ≤ r.toInt ∧ r.toInt ≤ -(1023000 * (σ 55 26).toInt) + 12276000))))) (σ : Nat → Nat → Int32) (τ : Nat → Nat → Int64) (hI101 : jI101 σ) (hI102 : jI102 σ) (hI103 : jI103 σ) (hI104 : jI104 σ) (hI105 : jI105 σ) (hI106 : jI106 σ) (hI120 : jI120 σ) (hs_jKept : jKept σ) (hs_jTR : jTR σ) (hp0 : (σ 55 12).toInt - (σ 55 26).toInt ≤ (((n) : Nat) : Int)) : jM l yX12_bestFrom cX12_bestFrom 8 (some .int) ({ frames := (70 + 4 * (n)), cells := 0, slots := 0, locals := (3114 + 240 * (n)) }) D cI cL ad zz [.ref (ad 55)] σ τ (fun r σ' τ' => τ = τ' ∧ (∀ i : Nat, (i < 55 ∨ 55 < i) ∧ (i < 66 ∨ 66 < i) ∧ (i < 74 ∨ 78 < i) → σ' i = σ i) ∧ (∀ k : Nat, (k < 18 ∨ 18 < k) ∧ (k < 19 ∨ 19 < k) ∧ (k < 20 ∨ 20 < k) ∧ (k < 21 ∨ 21 < k) ∧ (k < 22 ∨ 22 < k) ∧ (k < 37 ∨ 37 < k) → σ' 55 k = σ 55 k) ∧ (jKept σ') ∧ (jTR σ') ∧ ((-2) ≤ (σ' 55 37).toInt ∧ (σ' 55 37).toInt ≤ 3) ∧ ((True ∧ (0 ≤ r.toInt ∧ r.toInt ≤ -(1023000 * (σ 55 26).toInt) + 12276000)))) := by
  refine jM.of hJ (by decide +kernel) (nt := .int) rfl (Nat.le_of_ble_eq_true rfl) ?_
  intro p e s m args below meth c Q ls hC hret hl hP
  obtain ⟨hx, hb, hr, hml, hown, hts, hK, -, hlocks, hZ⟩ := hC
  have hown : s.vm.findClass RX12 = some m.cls := hown
  have hS : va_S (jA ad) s.heap s.heap [] := va_S.rf
  have hA : ∀ q, jA ad q → jA ad q := fun _ h => h
  have hl : lv_has ls 8 [(0, .ref (ad 55))] := hl
  obtain ⟨i1, w2, w3⟩ : (0 ≤ (σ 55 6).toInt ∧ (σ 55 6).toInt ≤ 4) ∧ (∀ k : Nat, k < 4 → 0 ≤ (σ 60 k).toInt ∧ (σ 60 k).toInt ≤ 50) ∧ (∀ k : Nat, k < 4 → 0 ≤ (σ 61 k).toInt ∧ (σ 61 k).toInt ≤ 20) := id hI102
  obtain ⟨i4, i5, i6, w7, w8⟩ : (1 ≤ (σ 55 10).toInt ∧ (σ 55 10).toInt ≤ 8) ∧ (1 ≤ (σ 55 12).toInt ∧ (σ 55 12).toInt ≤ 12) ∧ (0 ≤ (σ 55 13).toInt ∧ (σ 55 13).toInt ≤ 999) ∧ (∀ k : Nat, k < 8 → 0 ≤ (σ 62 k).toInt ∧ (σ 62 k).toInt ≤ 3) ∧ (∀ k : Nat, k < 8 → 0 ≤ (σ 67 k).toInt ∧ (σ 67 k).toInt ≤ 3) := id hI104
  obtain ⟨i9, i10, i11, i12, i13, w14⟩ : (0 ≤ (σ 55 25).toInt) ∧ ((σ 55 25).toInt ≤ (σ 55 10).toInt) ∧ (0 ≤ (σ 55 26).toInt) ∧ ((σ 55 26).toInt ≤ (σ 55 12).toInt) ∧ ((-1) ≤ (σ 55 27).toInt ∧ (σ 55 27).toInt ≤ 3) ∧ (∀ k : Nat, k < 4 → 0 ≤ (σ 68 k).toInt ∧ (σ 68 k).toInt ≤ 3) := id hI120
  refine lv_aload_n hx hb dX12_bestFrom_0 rfl (lv_at hl 0 rfl) ?_
  refine jcallV (As := []) (rest := []) ⟨hx, hb, hml, hown, hts⟩ hK hP hA hS hZ (c_X12_isEnded l D cI cL ad zz hJ σ τ hI102 hI104 hI120) cw_RX12_307 (jc_55 cI cL ad σ τ) rfl ⟨by dsimp only; omega, by dsimp only; omega⟩ rfl rfl rfl hl.1 rfl (Nat.le_of_ble_eq_true rfl) dX12_bestFrom_1 ⟨Nat.zero_le _, Nat.zero_le _⟩ (fun r16 σ15 τ15 H locs h15 hP hS => ?_)
  obtain ⟨⟨rfl, rfl⟩, h15⟩ := h15
  rcases h15 with h17 | h18
  · obtain ⟨q20, k19⟩ := h17
    have q20 := q20.symm
    subst q20
    refine lv_if_eq (tgt := 15) hx hb dX12_bestFrom_4 (by decide) (fun c => absurd c (by decide)) (fun _ => ?_)
    refine lv_aload_n hx hb dX12_bestFrom_7 rfl (lv_at hl 0 rfl) ?_
    refine lv_bipush (v := (-2)) hx hb dX12_bestFrom_8 (by decide) ?_
    refine jput (ty := .int) hx hb hts inlX12 tyX12 tyX12_ok nmX12 hown hK hP hJ hA hS (jc_55 cI cL ad σ τ) rfl (k := 37) (by decide) (Nat.le_of_ble_eq_true rfl) (jp_55_37 cI cL ad σ τ (-2)) (hts _ kw_33_15) (fun _ h9 => h9) rfl (by decide +kernel) rfl rfl dX12_bestFrom_10 (fun σ21 H locs eσ21 hP hS => ?_)
    refine lv_iconst (v := 0) hx hb dX12_bestFrom_13 (by decide) ?_
    have p22 : jKept σ21 := jKept.fr (jnp 75 eσ21 (by decide)) (jnp 76 eσ21 (by decide)) (jnp 77 eσ21 (by decide)) hs_jKept
    have p23 : jTR σ21 := jTR.fr (jnp 64 eσ21 (by decide)) (jnp 65 eσ21 (by decide)) hs_jTR
    have z24 : (σ21 55 37).toInt = (-2) := ((congrArg Int32.toInt (show σ21 55 37 = (-2) from (jsp eσ21))).trans jz_m2)
    exact hret 0 σ21 τ _ _ _ _ rfl ⟨rfl, (fun i hi => (jnp i eσ21 (imp_206 i hi))), (fun i hi => (jkp i eσ21 (imp_207 i hi))), p22, p23, (by omega), ⟨trivial, (by have h9 := jz_0; omega)⟩⟩ hP hS dX12_bestFrom_14
  · obtain ⟨q28, k25, k26, k27⟩ := h18
    have q28 := q28.symm
    subst q28
    obtain ⟨B29, k30, k31, w32⟩ := k27
    refine lv_if_eq (tgt := 15) hx hb dX12_bestFrom_4 (by decide) (fun _ => ?_) (fun c => absurd (by decide) c)
    refine lv_aload_n hx hb dX12_bestFrom_15 rfl (lv_at hl 0 rfl) ?_
    refine jcallV (As := []) (rest := []) ⟨hx, hb, hml, hown, hts⟩ hK hP hA hS hZ (c_X12_stateNumber l D cI cL ad zz hJ σ τ hI102 w14) cw_RX12_311 (jc_55 cI cL ad σ τ) rfl ⟨by dsimp only; omega, by dsimp only; omega⟩ rfl rfl rfl hl.1 rfl (Nat.le_of_ble_eq_true rfl) dX12_bestFrom_16 ⟨Nat.zero_le _, Nat.zero_le _⟩ (fun r34 σ33 τ33 H locs h33 hP hS => ?_)
    obtain ⟨⟨rfl, rfl⟩, h33⟩ := h33
    refine lv_istore_n (lv' := [(1, .int r34), (0, .ref (ad 55))]) hx hb dX12_bestFrom_19 rfl hl (by decide) rfl (fun ls hl => ?_)
    refine lv_bipush (v := 16) hx hb dX12_bestFrom_20 (by decide) ?_
    refine lv_aload_n hx hb dX12_bestFrom_22 rfl (lv_at hl 1 rfl) ?_
    refine va_get (D := D) hx hb hts inlX12 hown hK hP 55 (jc_55 cI cL ad σ τ) rfl 26 (by decide) (hts _ kw_23_5) (fun _ h9 => h9) rfl dX12_bestFrom_23 ?_
    have g35 := jrg (rfl : (σ 55 26).toInt = (σ 55 26).toInt)
    refine lv_imul hx hb dX12_bestFrom_26 ?_
    refine lv_topi (fun x36 ex36 => ?_)
    have tx36 : x36.toInt = 16 * (σ 55 26).toInt := (jmul ex36 jz_16 rfl (by omega) (by omega)).trans (by omega)
    refine lv_aload_n hx hb dX12_bestFrom_27 rfl (lv_at hl 1 rfl) ?_
    refine va_get (D := D) hx hb hts inlX12 hown hK hP 55 (jc_55 cI cL ad σ τ) rfl 25 (by decide) (hts _ kw_23_6) (fun _ h9 => h9) rfl dX12_bestFrom_28 ?_
    have g37 := jrg (rfl : (σ 55 25).toInt = (σ 55 25).toInt)
    refine lv_iadd hx hb dX12_bestFrom_31 ?_
    refine lv_topi (fun x38 ex38 => ?_)
    have tx38 : x38.toInt = 16 * (σ 55 26).toInt + (σ 55 25).toInt := (jadd ex38 tx36 rfl (by omega) (by omega)).trans (by omega)
    refine lv_istore_n (lv' := [(2, .int x38), (1, .int r34), (0, .ref (ad 55))]) hx hb dX12_bestFrom_32 rfl hl (by decide) rfl (fun ls hl => ?_)
    refine lv_aload_n hx hb dX12_bestFrom_33 rfl (lv_at hl 2 rfl) ?_
    refine lv_iload_n hx hb dX12_bestFrom_34 rfl (lv_at hl 1 rfl) ?_
    refine lv_iload_n hx hb dX12_bestFrom_35 rfl (lv_at hl 0 rfl) ?_
    refine jcallV (As := [.int r34, .int x38]) (rest := []) ⟨hx, hb, hml, hown, hts⟩ hK hP hA hS hZ (c_X12_spot l D cI cL ad zz hJ σ τ r34 (r34.toInt) rfl x38 (16 * (σ 55 26).toInt + (σ 55 25).toInt) tx38) cw_RX12_314 (jc_55 cI cL ad σ τ) rfl ⟨by dsimp only; omega, by dsimp only; omega⟩ rfl rfl rfl hl.1 rfl (Nat.le_of_ble_eq_true rfl) dX12_bestFrom_36 ⟨Nat.zero_le _, Nat.zero_le _⟩ (fun r40 σ39 τ39 H locs h39 hP hS => ?_)
    obtain ⟨⟨rfl, rfl⟩, h39⟩ := h39
    rcases h39 with h41 | h42
    · obtain ⟨q45, k43, k44⟩ := h41
      have k46 : (σ 78 r40.toNatClampNeg).toInt ≠ (σ 55 42).toInt ∨ (σ 75 r40.toNatClampNeg).toInt = 16 * (σ 55 26).toInt + (σ 55 25).toInt := k44.imp (fun q => jne q rfl rfl) (fun q => jeq q rfl tx38)
      refine lv_istore_n (lv' := [(3, .int r40), (2, .int x38), (1, .int r34), (0, .ref (ad 55))]) hx hb dX12_bestFrom_39 rfl hl (by decide) rfl (fun ls hl => ?_)
      refine lv_iload_n hx hb dX12_bestFrom_40 rfl (lv_at hl 0 rfl) ?_
      refine lv_if_lt (tgt := 74) hx hb dX12_bestFrom_41 (by decide) (fun c => absurd (jlt c rfl jz_0) (by omega)) (fun c47 => ?_)
      have kc47 := jnlt c47 rfl jz_0
      refine lv_aload_n hx hb dX12_bestFrom_44 rfl (lv_at hl 3 rfl) ?_
      refine va_get (D := D) hx hb hts inlX12 hown hK hP 55 (jc_55 cI cL ad σ τ) rfl 43 (by decide) (hts _ kw_8_3) (fun _ h9 => h9) rfl dX12_bestFrom_45 ?_
      refine lv_iload_n hx hb dX12_bestFrom_48 rfl (lv_at hl 0 rfl) ?_
      refine jald hx hb hK hP (jc_78 cI cL ad σ τ) (jin rfl (by omega) (by omega)) dX12_bestFrom_49 ?_
      refine jtopr (y := (σ 78 r40.toNatClampNeg)) rfl ?_
      refine lv_aload_n hx hb dX12_bestFrom_50 rfl (lv_at hl 3 rfl) ?_
      refine va_get (D := D) hx hb hts inlX12 hown hK hP 55 (jc_55 cI cL ad σ τ) rfl 42 (by decide) (hts _ kw_33_10) (fun _ h9 => h9) rfl dX12_bestFrom_51 ?_
      refine lv_icmp_ne (tgt := 74) hx hb dX12_bestFrom_54 (by decide) (fun c48 => ?_) (fun c48 => ?_)
      · have kc48 := jne c48 rfl rfl
        refine lv_iconst (v := (-1)) hx hb dX12_bestFrom_74 (by decide) ?_
        refine lv_istore (lv' := [(4, .int (-1)), (3, .int r40), (2, .int x38), (1, .int r34), (0, .ref (ad 55))]) hx hb dX12_bestFrom_75 hl (by decide) rfl (fun ls hl => ?_)
        refine lv_ldcw (v := 2000000000) hx hb hown (hts _ kw_34_4) dX12_bestFrom_77 ?_
        refine lv_istore (lv' := [(5, .int 2000000000), (4, .int (-1)), (3, .int r40), (2, .int x38), (1, .int r34), (0, .ref (ad 55))]) hx hb dX12_bestFrom_80 hl (by decide) rfl (fun ls hl => ?_)
        refine lv_iconst (v := 0) hx hb dX12_bestFrom_82 (by decide) ?_
        refine lv_istore (lv' := [(6, .int 0), (5, .int 2000000000), (4, .int (-1)), (3, .int r40), (2, .int x38), (1, .int r34), (0, .ref (ad 55))]) hx hb dX12_bestFrom_83 hl (by decide) rfl (fun ls hl => ?_)
        have lp49 : ∀ (n50 : Nat) (x51 : Int32) (x52 : Int32) (x53 : Int32) (σ55 : Nat → Nat → Int32) (H : Heap) (locs : List Loc) (ls : Array Slot), (-x53.toInt + 4 : Int) < n50 → (-1) ≤ x51.toInt → x51.toInt ≤ 3 → 0 ≤ x53.toInt → x53.toInt ≤ 4 → ((0 ≤ x51.toInt ∧ 0 ≤ x52.toInt ∧ x52.toInt ≤ -(1023000 * (σ55 55 26).toInt) + 12276000) ∨ (x51.toInt = (-1) ∧ x52.toInt = 2000000000 ∧ x53.toInt ≤ B29.toInt)) → (∀ i : Nat, (i < 55 ∨ 55 < i) ∧ (i < 66 ∨ 66 < i) ∧ (i < 74 ∨ 78 < i) → σ55 i = σ i) → (∀ k : Nat, (k < 18 ∨ 18 < k) ∧ (k < 19 ∨ 19 < k) ∧ (k < 20 ∨ 20 < k) ∧ (k < 21 ∨ 21 < k) ∧ (k < 22 ∨ 22 < k) ∧ (k < 37 ∨ 37 < k) → σ55 55 k = σ 55 k) → jKept σ55 → jH D cI cL ad σ55 τ H → va_S (jA ad) s.heap H locs → lv_has ls 8 [(6, .int x53), (5, .int x52), (4, .int x51), (3, .int r40), (2, .int x38), (1, .int r34), (0, .ref (ad 55))] → W p l e ({ frames := (70 + 4 * (n)), cells := 0, slots := 0, locals := (3114 + 240 * (n)) }) s m args below meth c H locs 0 0 Q (F0 m 85 ls []) := by
          intro n50
          induction n50 with
          | zero => intro x51 x52 x53 σ55 H locs ls h57 h58 h59 h60 h61 h62; have gx52 := jrg (rfl : x52.toInt = x52.toInt); exact absurd h57 (by omega)
          | succ n50 ihlp49 =>
            intro x51 x52 x53 σ55 H locs ls h57 h58 h59 h60 h61 h62 f63 f64 p65 hP hS hl
            have gx52 := jrg (rfl : x52.toInt = x52.toInt)
            have z66 : (σ55 55 26).toInt = (σ 55 26).toInt := (congrArg Int32.toInt (show σ55 55 26 = (σ 55 26) from (f64 26 (by decide))))
            refine lv_iload hx hb dX12_bestFrom_85 (lv_at hl 0 rfl) ?_
            refine lv_aload_n hx hb dX12_bestFrom_87 rfl (lv_at hl 6 rfl) ?_
            refine va_get (D := D) hx hb hts inlX12 hown hK hP 55 (jc_55 cI cL ad σ55 τ) rfl 6 (by decide) (hts _ kw_9_13) (fun _ h9 => h9) rfl dX12_bestFrom_88 ?_
            have m67 : σ55 55 6 = (σ 55 6) := (f64 6 (by decide))
            refine jtopr m67 ?_
            refine lv_icmp_ge (tgt := 135) hx hb dX12_bestFrom_91 (by decide) (fun c68 => ?_) (fun c68 => ?_)
            · have kc68 := jle c68 rfl rfl
              refine lv_aload_n hx hb dX12_bestFrom_135 rfl (lv_at hl 6 rfl) ?_
              refine lv_iload_n hx hb dX12_bestFrom_136 rfl (lv_at hl 5 rfl) ?_
              refine lv_iload_n hx hb dX12_bestFrom_137 rfl (lv_at hl 4 rfl) ?_
              refine jcallV (As := [.int r34, .int x38]) (rest := []) ⟨hx, hb, hml, hown, hts⟩ hK hP hA hS hZ (c_X12_spot l D cI cL ad zz hJ σ55 τ r34 (r34.toInt) rfl x38 (16 * (σ 55 26).toInt + (σ 55 25).toInt) tx38) cw_RX12_314 (jc_55 cI cL ad σ55 τ) rfl ⟨by dsimp only; omega, by dsimp only; omega⟩ rfl rfl rfl hl.1 rfl (Nat.le_of_ble_eq_true rfl) dX12_bestFrom_138 ⟨Nat.zero_le _, Nat.zero_le _⟩ (fun r70 σ69 τ69 H locs h69 hP hS => ?_)
              obtain ⟨⟨rfl, rfl⟩, h69⟩ := h69
              rcases h69 with h71 | h72
              · obtain ⟨q75, k73, k74⟩ := h71
                have z77 : (σ55 55 42).toInt = (σ 55 42).toInt := (congrArg Int32.toInt (show σ55 55 42 = (σ 55 42) from (f64 42 (by decide))))
                have k76 : (σ55 78 r70.toNatClampNeg).toInt ≠ (σ55 55 42).toInt ∨ (σ55 75 r70.toNatClampNeg).toInt = 16 * (σ 55 26).toInt + (σ 55 25).toInt := k74.imp (fun q => jne q rfl rfl) (fun q => jeq q rfl tx38)
                refine lv_istore_n (lv' := [(3, .int r70), (6, .int x53), (5, .int x52), (4, .int x51), (2, .int x38), (1, .int r34), (0, .ref (ad 55))]) hx hb dX12_bestFrom_141 rfl hl (by decide) rfl (fun ls hl => ?_)
                refine lv_iload_n hx hb dX12_bestFrom_142 rfl (lv_at hl 0 rfl) ?_
                refine lv_if_lt (tgt := 186) hx hb dX12_bestFrom_143 (by decide) (fun c => absurd (jlt c rfl jz_0) (by omega)) (fun c78 => ?_)
                have kc78 := jnlt c78 rfl jz_0
                refine lv_aload_n hx hb dX12_bestFrom_146 rfl (lv_at hl 6 rfl) ?_
                refine va_get (D := D) hx hb hts inlX12 hown hK hP 55 (jc_55 cI cL ad σ55 τ) rfl 43 (by decide) (hts _ kw_8_3) (fun _ h9 => h9) rfl dX12_bestFrom_147 ?_
                refine lv_iload_n hx hb dX12_bestFrom_150 rfl (lv_at hl 0 rfl) ?_
                refine lv_aload_n hx hb dX12_bestFrom_151 rfl (lv_at hl 6 rfl) ?_
                refine va_get (D := D) hx hb hts inlX12 hown hK hP 55 (jc_55 cI cL ad σ55 τ) rfl 42 (by decide) (hts _ kw_33_10) (fun _ h9 => h9) rfl dX12_bestFrom_152 ?_
                have m79 : σ55 55 42 = (σ 55 42) := (f64 42 (by decide))
                refine jtopr m79 ?_
                refine jast hx hb hK hP hJ hA hS (jc_78 cI cL ad σ55 τ) (ja_78 cI cL ad σ55 τ _ _) (jin rfl (by omega) (by omega)) dX12_bestFrom_155 (fun σ80 H locs eσ80 hP hS => ?_)
                refine lv_aload_n hx hb dX12_bestFrom_156 rfl (lv_at hl 6 rfl) ?_
                refine va_get (D := D) hx hb hts inlX12 hown hK hP 55 (jc_55 cI cL ad σ80 τ) rfl 38 (by decide) (hts _ kw_7_23) (fun _ h9 => h9) rfl dX12_bestFrom_157 ?_
                refine lv_iload_n hx hb dX12_bestFrom_160 rfl (lv_at hl 0 rfl) ?_
                refine lv_iload_n hx hb dX12_bestFrom_161 rfl (lv_at hl 5 rfl) ?_
                refine jast hx hb hK hP hJ hA hS (jc_74 cI cL ad σ80 τ) (ja_74 cI cL ad σ80 τ _ _) (jin rfl (by omega) (by omega)) dX12_bestFrom_162 (fun σ81 H locs eσ81 hP hS => ?_)
                refine lv_aload_n hx hb dX12_bestFrom_163 rfl (lv_at hl 6 rfl) ?_
                refine va_get (D := D) hx hb hts inlX12 hown hK hP 55 (jc_55 cI cL ad σ81 τ) rfl 39 (by decide) (hts _ kw_8_0) (fun _ h9 => h9) rfl dX12_bestFrom_164 ?_
                refine lv_iload_n hx hb dX12_bestFrom_167 rfl (lv_at hl 0 rfl) ?_
                refine lv_iload_n hx hb dX12_bestFrom_168 rfl (lv_at hl 4 rfl) ?_
                refine jast hx hb hK hP hJ hA hS (jc_75 cI cL ad σ81 τ) (ja_75 cI cL ad σ81 τ _ _) (jin rfl (by omega) (by omega)) dX12_bestFrom_169 (fun σ82 H locs eσ82 hP hS => ?_)
                refine lv_aload_n hx hb dX12_bestFrom_170 rfl (lv_at hl 6 rfl) ?_
                refine va_get (D := D) hx hb hts inlX12 hown hK hP 55 (jc_55 cI cL ad σ82 τ) rfl 40 (by decide) (hts _ kw_8_1) (fun _ h9 => h9) rfl dX12_bestFrom_171 ?_
                refine lv_iload_n hx hb dX12_bestFrom_174 rfl (lv_at hl 0 rfl) ?_
                refine lv_iload hx hb dX12_bestFrom_175 (lv_at hl 2 rfl) ?_
                refine jast hx hb hK hP hJ hA hS (jc_76 cI cL ad σ82 τ) (ja_76 cI cL ad σ82 τ _ _) (jin rfl (by omega) (by omega)) dX12_bestFrom_177 (fun σ83 H locs eσ83 hP hS => ?_)
                refine lv_aload_n hx hb dX12_bestFrom_178 rfl (lv_at hl 6 rfl) ?_
                refine va_get (D := D) hx hb hts inlX12 hown hK hP 55 (jc_55 cI cL ad σ83 τ) rfl 41 (by decide) (hts _ kw_8_2) (fun _ h9 => h9) rfl dX12_bestFrom_179 ?_
                refine lv_iload_n hx hb dX12_bestFrom_182 rfl (lv_at hl 0 rfl) ?_
                refine lv_iload hx hb dX12_bestFrom_183 (lv_at hl 3 rfl) ?_
                refine jast hx hb hK hP hJ hA hS (jc_77 cI cL ad σ83 τ) (ja_77 cI cL ad σ83 τ _ _) (jin rfl (by omega) (by omega)) dX12_bestFrom_185 (fun σ84 H locs eσ84 hP hS => ?_)
                have e85 : σ84 75 = jupd (σ55 75) r70.toNatClampNeg x38 := by rw [eσ84, jup_n (by decide), eσ83, jup_n (by decide), eσ82, jup_row, eσ81, jup_n (by decide), eσ80, jup_n (by decide)]
                have e86 : σ84 76 = jupd (σ55 76) r70.toNatClampNeg x52 := by rw [eσ84, jup_n (by decide), eσ83, jup_row, eσ82, jup_n (by decide), eσ81, jup_n (by decide), eσ80, jup_n (by decide)]
                have e87 : σ84 77 = jupd (σ55 77) r70.toNatClampNeg x51 := by rw [eσ84, jup_row, eσ83, jup_n (by decide), eσ82, jup_n (by decide), eσ81, jup_n (by decide), eσ80, jup_n (by decide)]
                have z88 : (σ84 55 26).toInt = (σ 55 26).toInt := (congrArg Int32.toInt (show σ84 55 26 = (σ 55 26) from ((congrFun (jnp 55 eσ84 (by decide)) 26).trans ((congrFun (jnp 55 eσ83 (by decide)) 26).trans ((congrFun (jnp 55 eσ82 (by decide)) 26).trans ((congrFun (jnp 55 eσ81 (by decide)) 26).trans ((congrFun (jnp 55 eσ80 (by decide)) 26).trans (f64 26 (by decide)))))))))
                have p89 : jKept σ84 := p65.on e85 e86 e87 (by have h91 := tx38; omega) (by have h91 := tx38; omega) (by have h91 := tx38; omega) (by have h91 := tx38; omega)
                refine lv_aload_n hx hb dX12_bestFrom_186 rfl (lv_at hl 6 rfl) ?_
                refine lv_iload hx hb dX12_bestFrom_187 (lv_at hl 3 rfl) ?_
                refine jput (ty := .int) hx hb hts inlX12 tyX12 tyX12_ok nmX12 hown hK hP hJ hA hS (jc_55 cI cL ad σ84 τ) rfl (k := 37) (by decide) (Nat.le_of_ble_eq_true rfl) (jp_55_37 cI cL ad σ84 τ x51) (hts _ kw_33_15) (fun _ h9 => h9) rfl (by decide +kernel) rfl rfl dX12_bestFrom_189 (fun σ90 H locs eσ90 hP hS => ?_)
                refine lv_iload hx hb dX12_bestFrom_192 (lv_at hl 2 rfl) ?_
                have p91 : jKept σ90 := jKept.fr (jnp 75 eσ90 (by decide)) (jnp 76 eσ90 (by decide)) (jnp 77 eσ90 (by decide)) p89
                have p92 : jTR σ90 := jTR.fr ((jnp 64 eσ90 (by decide)).trans ((jnp 64 eσ84 (by decide)).trans ((jnp 64 eσ83 (by decide)).trans ((jnp 64 eσ82 (by decide)).trans ((jnp 64 eσ81 (by decide)).trans ((jnp 64 eσ80 (by decide)).trans (f63 64 (by decide)))))))) ((jnp 65 eσ90 (by decide)).trans ((jnp 65 eσ84 (by decide)).trans ((jnp 65 eσ83 (by decide)).trans ((jnp 65 eσ82 (by decide)).trans ((jnp 65 eσ81 (by decide)).trans ((jnp 65 eσ80 (by decide)).trans (f63 65 (by decide)))))))) hs_jTR
                have z93 : (σ90 55 37).toInt = x51.toInt := (congrArg Int32.toInt (show σ90 55 37 = x51 from (jsp eσ90)))
                exact hret x52 σ90 τ _ _ _ _ rfl ⟨rfl, (fun i hi => ((jnp i eσ90 (imp_206 i hi)).trans ((jnp i eσ84 (imp_208 i hi)).trans ((jnp i eσ83 (imp_209 i hi)).trans ((jnp i eσ82 (imp_210 i hi)).trans ((jnp i eσ81 (imp_211 i hi)).trans ((jnp i eσ80 (imp_212 i hi)).trans (f63 i hi)))))))), (fun i hi => ((jkp i eσ90 (imp_207 i hi)).trans ((congrFun (jnp 55 eσ84 (by decide)) i).trans ((congrFun (jnp 55 eσ83 (by decide)) i).trans ((congrFun (jnp 55 eσ82 (by decide)) i).trans ((congrFun (jnp 55 eσ81 (by decide)) i).trans ((congrFun (jnp 55 eσ80 (by decide)) i).trans (f64 i hi)))))))), p91, p92, (by omega), ⟨trivial, (by omega)⟩⟩ hP hS dX12_bestFrom_194
              · obtain ⟨q95, k94⟩ := h72
                have q95 := q95.symm
                subst q95
                refine lv_istore_n (lv' := [(3, .int (-1)), (6, .int x53), (5, .int x52), (4, .int x51), (2, .int x38), (1, .int r34), (0, .ref (ad 55))]) hx hb dX12_bestFrom_141 rfl hl (by decide) rfl (fun ls hl => ?_)
                refine lv_iload_n hx hb dX12_bestFrom_142 rfl (lv_at hl 0 rfl) ?_
                refine lv_if_lt (tgt := 186) hx hb dX12_bestFrom_143 (by decide) (fun _ => ?_) (fun c => absurd (by decide) c)
                refine lv_aload_n hx hb dX12_bestFrom_186 rfl (lv_at hl 6 rfl) ?_
                refine lv_iload hx hb dX12_bestFrom_187 (lv_at hl 3 rfl) ?_
                refine jput (ty := .int) hx hb hts inlX12 tyX12 tyX12_ok nmX12 hown hK hP hJ hA hS (jc_55 cI cL ad σ55 τ) rfl (k := 37) (by decide) (Nat.le_of_ble_eq_true rfl) (jp_55_37 cI cL ad σ55 τ x51) (hts _ kw_33_15) (fun _ h9 => h9) rfl (by decide +kernel) rfl rfl dX12_bestFrom_189 (fun σ96 H locs eσ96 hP hS => ?_)
                refine lv_iload hx hb dX12_bestFrom_192 (lv_at hl 2 rfl) ?_
                have p97 : jKept σ96 := jKept.fr (jnp 75 eσ96 (by decide)) (jnp 76 eσ96 (by decide)) (jnp 77 eσ96 (by decide)) p65
                have p98 : jTR σ96 := jTR.fr ((jnp 64 eσ96 (by decide)).trans (f63 64 (by decide))) ((jnp 65 eσ96 (by decide)).trans (f63 65 (by decide))) hs_jTR
                have z99 : (σ96 55 37).toInt = x51.toInt := (congrArg Int32.toInt (show σ96 55 37 = x51 from (jsp eσ96)))
                exact hret x52 σ96 τ _ _ _ _ rfl ⟨rfl, (fun i hi => ((jnp i eσ96 (imp_206 i hi)).trans (f63 i hi))), (fun i hi => ((jkp i eσ96 (imp_207 i hi)).trans (f64 i hi))), p97, p98, (by omega), ⟨trivial, (by omega)⟩⟩ hP hS dX12_bestFrom_194
            · have kc68 := jnle c68 rfl rfl
              refine lv_aload_n hx hb dX12_bestFrom_94 rfl (lv_at hl 6 rfl) ?_
              refine lv_iload hx hb dX12_bestFrom_95 (lv_at hl 0 rfl) ?_
              refine jcallV (As := [.int x53]) (rest := []) ⟨hx, hb, hml, hown, hts⟩ hK hP hA hS hZ (c_X12_mayBowl l D cI cL ad zz hJ σ55 τ x53 (x53.toInt) rfl (by omega)) cw_RX12_249 (jc_55 cI cL ad σ55 τ) rfl ⟨by dsimp only; omega, by dsimp only; omega⟩ rfl rfl rfl hl.1 rfl (Nat.le_of_ble_eq_true rfl) dX12_bestFrom_97 ⟨Nat.zero_le _, Nat.zero_le _⟩ (fun r101 σ100 τ100 H locs h100 hP hS => ?_)
              obtain ⟨⟨rfl, rfl⟩, h100⟩ := h100
              rcases h100 with h102 | h103
              · obtain ⟨q105, k104⟩ := h102
                have q105 := q105.symm
                subst q105
                refine lv_if_ne (tgt := 106) hx hb dX12_bestFrom_100 (by decide) (fun _ => ?_) (fun c => absurd c (by decide))
                refine lv_aload_n hx hb dX12_bestFrom_106 rfl (lv_at hl 6 rfl) ?_
                refine lv_iload hx hb dX12_bestFrom_107 (lv_at hl 0 rfl) ?_
                have I106 : jI101 σ55 := jI101_fr (f64 4 (by decide)) (f64 5 (by decide)) (f63 56 (by decide)) (f63 57 (by decide)) (f63 58 (by decide)) (f63 59 (by decide)) hI101
                have I107 : jI102 σ55 := jI102_fr (f64 6 (by decide)) (f63 60 (by decide)) (f63 61 (by decide)) hI102
                have I108 : jI103 σ55 := jI103_fr (f64 9 (by decide)) hI103
                have I109 : jI104 σ55 := jI104_fr (f64 10 (by decide)) (f64 12 (by decide)) (f64 13 (by decide)) (f63 62 (by decide)) (f63 67 (by decide)) hI104
                have I110 : jI105 σ55 := jI105_fr (f64 15 (by decide)) (f63 65 (by decide)) hI105
                have I111 : jI106 σ55 := jI106_fr (f64 32 (by decide)) (f63 70 (by decide)) (f63 71 (by decide)) (f63 72 (by decide)) hI106
                have I112 : jI120 σ55 := jI120_fr (f64 10 (by decide)) (f64 12 (by decide)) (f64 25 (by decide)) (f64 26 (by decide)) (f64 27 (by decide)) (f63 68 (by decide)) hI120
                have p113 : jTR σ55 := jTR.fr (f63 64 (by decide)) (f63 65 (by decide)) hs_jTR
                have z114 : (σ55 55 25).toInt = (σ 55 25).toInt := (congrArg Int32.toInt (show σ55 55 25 = (σ 55 25) from (f64 25 (by decide))))
                have z115 : (σ55 55 10).toInt = (σ 55 10).toInt := (congrArg Int32.toInt (show σ55 55 10 = (σ 55 10) from (f64 10 (by decide))))
                have z116 : (σ55 55 12).toInt = (σ 55 12).toInt := (congrArg Int32.toInt (show σ55 55 12 = (σ 55 12) from (f64 12 (by decide))))
                refine jcallV (As := [.int x53]) (rest := []) ⟨hx, hb, hml, hown, hts⟩ hK hP hA hS hZ (h_mean σ55 τ x53 (x53.toInt) rfl I106 I107 I108 I109 I110 I111 I112 p65 p113 (by omega) (by omega) (by omega) (by omega)) cw_RX12_318 (jc_55 cI cL ad σ55 τ) rfl ⟨by dsimp only; omega, by dsimp only; omega⟩ rfl rfl rfl hl.1 rfl (Nat.le_of_ble_eq_true rfl) dX12_bestFrom_109 ⟨Nat.zero_le _, Nat.zero_le _⟩ (fun r118 σ117 τ117 H locs h117 hP hS => ?_)
                obtain ⟨rfl, f119, f120, p121, p122, h117⟩ := h117
                have h124 := h117
                obtain ⟨q126, k125⟩ := h124
                refine lv_istore (lv' := [(7, .int r118), (6, .int x53), (5, .int x52), (4, .int x51), (3, .int r40), (2, .int x38), (1, .int r34), (0, .ref (ad 55))]) hx hb dX12_bestFrom_112 hl (by decide) rfl (fun ls hl => ?_)
                refine lv_iload hx hb dX12_bestFrom_114 (lv_at hl 0 rfl) ?_
                refine lv_iload hx hb dX12_bestFrom_116 (lv_at hl 2 rfl) ?_
                refine lv_icmp_ge (tgt := 129) hx hb dX12_bestFrom_118 (by decide) (fun c127 => ?_) (fun c127 => ?_)
                · have kc127 := jle c127 rfl rfl
                  obtain ⟨x128, ex128⟩ : ∃ y : Int32, y = x53 + 1 := ⟨_, rfl⟩
                  have tx128 : x128.toInt = x53.toInt + 1 := (jadd ex128 rfl jz_1 (by omega) (by omega)).trans (by omega)
                  refine lv_iinc (v := x128) (lv' := [(6, .int x128), (7, .int r118), (5, .int x52), (4, .int x51), (3, .int r40), (2, .int x38), (1, .int r34), (0, .ref (ad 55))]) hx hb dX12_bestFrom_129 hl (k := 1) rfl (by rw [ex128]; rfl) (by decide) rfl (fun ls hl => ?_)
                  refine lv_goto (tgt := 85) hx hb dX12_bestFrom_132 (by decide) ?_
                  have z129 : (σ117 55 26).toInt = (σ 55 26).toInt := (congrArg Int32.toInt (show σ117 55 26 = (σ 55 26) from ((f120 26 (by decide)).trans (f64 26 (by decide)))))
                  exact ihlp49 x51 x52 x128 σ117 _ _ ls (by have h92 := tx128; omega) (by have h92 := tx128; omega) (by have h92 := tx128; omega) (by have h92 := tx128; omega) (by have h92 := tx128; omega) (by have h92 := tx128; omega) (fun i hi => ((f119 i hi).trans (f63 i hi))) (fun i hi => ((f120 i hi).trans (f64 i hi)))  p121 hP hS (lv_sub hl [0, 2, 3, 4, 5, 6, 7] rfl)
                · have kc127 := jnle c127 rfl rfl
                  refine lv_iload hx hb dX12_bestFrom_121 (lv_at hl 0 rfl) ?_
                  refine lv_istore (lv' := [(5, .int r118), (7, .int r118), (6, .int x53), (4, .int x51), (3, .int r40), (2, .int x38), (1, .int r34), (0, .ref (ad 55))]) hx hb dX12_bestFrom_123 hl (by decide) rfl (fun ls hl => ?_)
                  refine lv_iload hx hb dX12_bestFrom_125 (lv_at hl 2 rfl) ?_
                  refine lv_istore (lv' := [(4, .int x53), (5, .int r118), (7, .int r118), (6, .int x53), (3, .int r40), (2, .int x38), (1, .int r34), (0, .ref (ad 55))]) hx hb dX12_bestFrom_127 hl (by decide) rfl (fun ls hl => ?_)
                  obtain ⟨x130, ex130⟩ : ∃ y : Int32, y = x53 + 1 := ⟨_, rfl⟩
                  have tx130 : x130.toInt = x53.toInt + 1 := (jadd ex130 rfl jz_1 (by omega) (by omega)).trans (by omega)
                  refine lv_iinc (v := x130) (lv' := [(6, .int x130), (4, .int x53), (5, .int r118), (7, .int r118), (3, .int r40), (2, .int x38), (1, .int r34), (0, .ref (ad 55))]) hx hb dX12_bestFrom_129 hl (k := 3) rfl (by rw [ex130]; rfl) (by decide) rfl (fun ls hl => ?_)
                  refine lv_goto (tgt := 85) hx hb dX12_bestFrom_132 (by decide) ?_
                  have z131 : (σ117 55 26).toInt = (σ 55 26).toInt := (congrArg Int32.toInt (show σ117 55 26 = (σ 55 26) from ((f120 26 (by decide)).trans (f64 26 (by decide)))))
                  exact ihlp49 x53 r118 x130 σ117 _ _ ls (by have h92 := tx130; omega) (by have h92 := tx130; omega) (by have h92 := tx130; omega) (by have h92 := tx130; omega) (by have h92 := tx130; omega) (by have h92 := tx130; omega) (fun i hi => ((f119 i hi).trans (f63 i hi))) (fun i hi => ((f120 i hi).trans (f64 i hi)))  p121 hP hS (lv_sub hl [0, 2, 1, 4, 5, 6, 7] rfl)
              · obtain ⟨q133, k132⟩ := h103
                have q133 := q133.symm
                subst q133
                have e134 : jmb σ55 x53 = jmb σ x53 := (jmb_fr (f64 27 (by decide)) (f64 30 (by decide)) (f64 31 (by decide)) (f63 56 (by decide)) (f63 69 (by decide)) x53)
                have n135 : ¬ x53 = B29 := fun h => absurd ((w32).symm.trans (by rw [← h]; exact e134.symm.trans k132) : (1 : Int32) = 0) (by decide)
                have k136 := jne n135 rfl rfl
                refine lv_if_ne (tgt := 106) hx hb dX12_bestFrom_100 (by decide) (fun c => absurd (by decide) c) (fun _ => ?_)
                refine lv_goto (tgt := 129) hx hb dX12_bestFrom_103 (by decide) ?_
                obtain ⟨x137, ex137⟩ : ∃ y : Int32, y = x53 + 1 := ⟨_, rfl⟩
                have tx137 : x137.toInt = x53.toInt + 1 := (jadd ex137 rfl jz_1 (by omega) (by omega)).trans (by omega)
                refine lv_iinc (v := x137) (lv' := [(6, .int x137), (5, .int x52), (4, .int x51), (3, .int r40), (2, .int x38), (1, .int r34), (0, .ref (ad 55))]) hx hb dX12_bestFrom_129 hl (k := 0) rfl (by rw [ex137]; rfl) (by decide) rfl (fun ls hl => ?_)
                refine lv_goto (tgt := 85) hx hb dX12_bestFrom_132 (by decide) ?_
                exact ihlp49 x51 x52 x137 σ55 _ _ ls (by have h92 := tx137; omega) (by have h92 := tx137; omega) (by have h92 := tx137; omega) (by have h92 := tx137; omega) (by have h92 := tx137; omega) (by have h92 := tx137; omega) (fun i hi => (f63 i hi)) (fun i hi => (f64 i hi))  p65 hP hS (lv_sub hl [0, 1, 2, 3, 4, 5, 6] rfl)
        exact lp49 1000000 (-1) 2000000000 0 σ _ _ ls (by have h90 := jz_m1; have h91 := jz_2000000000; have h92 := jz_0; omega) (by have h90 := jz_m1; have h91 := jz_2000000000; have h92 := jz_0; omega) (by have h90 := jz_m1; have h91 := jz_2000000000; have h92 := jz_0; omega) (by have h90 := jz_m1; have h91 := jz_2000000000; have h92 := jz_0; omega) (by have h90 := jz_m1; have h91 := jz_2000000000; have h92 := jz_0; omega) (by have h90 := jz_m1; have h91 := jz_2000000000; have h92 := jz_0; omega) (fun _ _ => rfl) (fun _ _ => rfl)  hs_jKept hP hS hl
      · have kc48 := jeq c48 rfl rfl
        have g138 := hs_jKept r40.toNatClampNeg (jnat (x := r40) rfl (n := 65536) (by omega) (by decide))
        refine lv_aload_n hx hb dX12_bestFrom_57 rfl (lv_at hl 3 rfl) ?_
        refine lv_aload_n hx hb dX12_bestFrom_58 rfl (lv_at hl 3 rfl) ?_
        refine va_get (D := D) hx hb hts inlX12 hown hK hP 55 (jc_55 cI cL ad σ τ) rfl 41 (by decide) (hts _ kw_8_2) (fun _ h9 => h9) rfl dX12_bestFrom_59 ?_
        refine lv_iload_n hx hb dX12_bestFrom_62 rfl (lv_at hl 0 rfl) ?_
        refine jald hx hb hK hP (jc_77 cI cL ad σ τ) (jin rfl (by omega) (by omega)) dX12_bestFrom_63 ?_
        refine jtopr (y := (σ 77 r40.toNatClampNeg)) rfl ?_
        refine jput (ty := .int) hx hb hts inlX12 tyX12 tyX12_ok nmX12 hown hK hP hJ hA hS (jc_55 cI cL ad σ τ) rfl (k := 37) (by decide) (Nat.le_of_ble_eq_true rfl) (jp_55_37 cI cL ad σ τ (σ 77 r40.toNatClampNeg)) (hts _ kw_33_15) (fun _ h9 => h9) rfl (by decide +kernel) rfl rfl dX12_bestFrom_64 (fun σ139 H locs eσ139 hP hS => ?_)
        refine lv_aload_n hx hb dX12_bestFrom_67 rfl (lv_at hl 3 rfl) ?_
        refine va_get (D := D) hx hb hts inlX12 hown hK hP 55 (jc_55 cI cL ad σ139 τ) rfl 40 (by decide) (hts _ kw_8_1) (fun _ h9 => h9) rfl dX12_bestFrom_68 ?_
        refine lv_iload_n hx hb dX12_bestFrom_71 rfl (lv_at hl 0 rfl) ?_
        refine jald hx hb hK hP (jc_76 cI cL ad σ139 τ) (jin rfl (by omega) (by omega)) dX12_bestFrom_72 ?_
        refine jtopr (y := (σ 76 r40.toNatClampNeg)) (by rw [jnp 76 eσ139 (by decide)]) ?_
        have p140 : jKept σ139 := jKept.fr (jnp 75 eσ139 (by decide)) (jnp 76 eσ139 (by decide)) (jnp 77 eσ139 (by decide)) hs_jKept
        have p141 : jTR σ139 := jTR.fr (jnp 64 eσ139 (by decide)) (jnp 65 eσ139 (by decide)) hs_jTR
        have z142 : (σ139 55 37).toInt = (σ 77 r40.toNatClampNeg).toInt := (congrArg Int32.toInt (show σ139 55 37 = (σ 77 r40.toNatClampNeg) from (jsp eσ139)))
        exact hret (σ 76 r40.toNatClampNeg) σ139 τ _ _ _ _ rfl ⟨rfl, (fun i hi => (jnp i eσ139 (imp_206 i hi))), (fun i hi => (jkp i eσ139 (imp_207 i hi))), p140, p141, (by omega), ⟨trivial, (by omega)⟩⟩ hP hS dX12_bestFrom_73
    · obtain ⟨q144, k143⟩ := h42
      have q144 := q144.symm
      subst q144
      refine lv_istore_n (lv' := [(3, .int (-1)), (2, .int x38), (1, .int r34), (0, .ref (ad 55))]) hx hb dX12_bestFrom_39 rfl hl (by decide) rfl (fun ls hl => ?_)
      refine lv_iload_n hx hb dX12_bestFrom_40 rfl (lv_at hl 0 rfl) ?_
      refine lv_if_lt (tgt := 74) hx hb dX12_bestFrom_41 (by decide) (fun _ => ?_) (fun c => absurd (by decide) c)
      refine lv_iconst (v := (-1)) hx hb dX12_bestFrom_74 (by decide) ?_
      refine lv_istore (lv' := [(4, .int (-1)), (3, .int (-1)), (2, .int x38), (1, .int r34), (0, .ref (ad 55))]) hx hb dX12_bestFrom_75 hl (by decide) rfl (fun ls hl => ?_)
      refine lv_ldcw (v := 2000000000) hx hb hown (hts _ kw_34_4) dX12_bestFrom_77 ?_
      refine lv_istore (lv' := [(5, .int 2000000000), (4, .int (-1)), (3, .int (-1)), (2, .int x38), (1, .int r34), (0, .ref (ad 55))]) hx hb dX12_bestFrom_80 hl (by decide) rfl (fun ls hl => ?_)
      refine lv_iconst (v := 0) hx hb dX12_bestFrom_82 (by decide) ?_
      refine lv_istore (lv' := [(6, .int 0), (5, .int 2000000000), (4, .int (-1)), (3, .int (-1)), (2, .int x38), (1, .int r34), (0, .ref (ad 55))]) hx hb dX12_bestFrom_83 hl (by decide) rfl (fun ls hl => ?_)
      have lp145 : ∀ (n146 : Nat) (x147 : Int32) (x148 : Int32) (x149 : Int32) (σ151 : Nat → Nat → Int32) (H : Heap) (locs : List Loc) (ls : Array Slot), (-x149.toInt + 4 : Int) < n146 → (-1) ≤ x147.toInt → x147.toInt ≤ 3 → 0 ≤ x149.toInt → x149.toInt ≤ 4 → ((0 ≤ x147.toInt ∧ 0 ≤ x148.toInt ∧ x148.toInt ≤ -(1023000 * (σ151 55 26).toInt) + 12276000) ∨ (x147.toInt = (-1) ∧ x148.toInt = 2000000000 ∧ x149.toInt ≤ B29.toInt)) → (∀ i : Nat, (i < 55 ∨ 55 < i) ∧ (i < 66 ∨ 66 < i) ∧ (i < 74 ∨ 78 < i) → σ151 i = σ i) → (∀ k : Nat, (k < 18 ∨ 18 < k) ∧ (k < 19 ∨ 19 < k) ∧ (k < 20 ∨ 20 < k) ∧ (k < 21 ∨ 21 < k) ∧ (k < 22 ∨ 22 < k) ∧ (k < 37 ∨ 37 < k) → σ151 55 k = σ 55 k) → jKept σ151 → jH D cI cL ad σ151 τ H → va_S (jA ad) s.heap H locs → lv_has ls 8 [(6, .int x149), (5, .int x148), (4, .int x147), (3, .int (-1)), (2, .int x38), (1, .int r34), (0, .ref (ad 55))] → W p l e ({ frames := (70 + 4 * (n)), cells := 0, slots := 0, locals := (3114 + 240 * (n)) }) s m args below meth c H locs 0 0 Q (F0 m 85 ls []) := by
        intro n146
        induction n146 with
        | zero => intro x147 x148 x149 σ151 H locs ls h153 h154 h155 h156 h157 h158; have gx148 := jrg (rfl : x148.toInt = x148.toInt); exact absurd h153 (by omega)
        | succ n146 ihlp145 =>
          intro x147 x148 x149 σ151 H locs ls h153 h154 h155 h156 h157 h158 f159 f160 p161 hP hS hl
          have gx148 := jrg (rfl : x148.toInt = x148.toInt)
          have z162 : (σ151 55 26).toInt = (σ 55 26).toInt := (congrArg Int32.toInt (show σ151 55 26 = (σ 55 26) from (f160 26 (by decide))))
          refine lv_iload hx hb dX12_bestFrom_85 (lv_at hl 0 rfl) ?_
          refine lv_aload_n hx hb dX12_bestFrom_87 rfl (lv_at hl 6 rfl) ?_
          refine va_get (D := D) hx hb hts inlX12 hown hK hP 55 (jc_55 cI cL ad σ151 τ) rfl 6 (by decide) (hts _ kw_9_13) (fun _ h9 => h9) rfl dX12_bestFrom_88 ?_
          have m163 : σ151 55 6 = (σ 55 6) := (f160 6 (by decide))
          refine jtopr m163 ?_
          refine lv_icmp_ge (tgt := 135) hx hb dX12_bestFrom_91 (by decide) (fun c164 => ?_) (fun c164 => ?_)
          · have kc164 := jle c164 rfl rfl
            refine lv_aload_n hx hb dX12_bestFrom_135 rfl (lv_at hl 6 rfl) ?_
            refine lv_iload_n hx hb dX12_bestFrom_136 rfl (lv_at hl 5 rfl) ?_
            refine lv_iload_n hx hb dX12_bestFrom_137 rfl (lv_at hl 4 rfl) ?_
            refine jcallV (As := [.int r34, .int x38]) (rest := []) ⟨hx, hb, hml, hown, hts⟩ hK hP hA hS hZ (c_X12_spot l D cI cL ad zz hJ σ151 τ r34 (r34.toInt) rfl x38 (16 * (σ 55 26).toInt + (σ 55 25).toInt) tx38) cw_RX12_314 (jc_55 cI cL ad σ151 τ) rfl ⟨by dsimp only; omega, by dsimp only; omega⟩ rfl rfl rfl hl.1 rfl (Nat.le_of_ble_eq_true rfl) dX12_bestFrom_138 ⟨Nat.zero_le _, Nat.zero_le _⟩ (fun r166 σ165 τ165 H locs h165 hP hS => ?_)
            obtain ⟨⟨rfl, rfl⟩, h165⟩ := h165
            rcases h165 with h167 | h168
            · obtain ⟨q171, k169, k170⟩ := h167
              have z173 : (σ151 55 42).toInt = (σ 55 42).toInt := (congrArg Int32.toInt (show σ151 55 42 = (σ 55 42) from (f160 42 (by decide))))
              have k172 : (σ151 78 r166.toNatClampNeg).toInt ≠ (σ151 55 42).toInt ∨ (σ151 75 r166.toNatClampNeg).toInt = 16 * (σ 55 26).toInt + (σ 55 25).toInt := k170.imp (fun q => jne q rfl rfl) (fun q => jeq q rfl tx38)
              refine lv_istore_n (lv' := [(3, .int r166), (6, .int x149), (5, .int x148), (4, .int x147), (2, .int x38), (1, .int r34), (0, .ref (ad 55))]) hx hb dX12_bestFrom_141 rfl hl (by decide) rfl (fun ls hl => ?_)
              refine lv_iload_n hx hb dX12_bestFrom_142 rfl (lv_at hl 0 rfl) ?_
              refine lv_if_lt (tgt := 186) hx hb dX12_bestFrom_143 (by decide) (fun c => absurd (jlt c rfl jz_0) (by omega)) (fun c174 => ?_)
              have kc174 := jnlt c174 rfl jz_0
              refine lv_aload_n hx hb dX12_bestFrom_146 rfl (lv_at hl 6 rfl) ?_
              refine va_get (D := D) hx hb hts inlX12 hown hK hP 55 (jc_55 cI cL ad σ151 τ) rfl 43 (by decide) (hts _ kw_8_3) (fun _ h9 => h9) rfl dX12_bestFrom_147 ?_
              refine lv_iload_n hx hb dX12_bestFrom_150 rfl (lv_at hl 0 rfl) ?_
              refine lv_aload_n hx hb dX12_bestFrom_151 rfl (lv_at hl 6 rfl) ?_
              refine va_get (D := D) hx hb hts inlX12 hown hK hP 55 (jc_55 cI cL ad σ151 τ) rfl 42 (by decide) (hts _ kw_33_10) (fun _ h9 => h9) rfl dX12_bestFrom_152 ?_
              have m175 : σ151 55 42 = (σ 55 42) := (f160 42 (by decide))
              refine jtopr m175 ?_
              refine jast hx hb hK hP hJ hA hS (jc_78 cI cL ad σ151 τ) (ja_78 cI cL ad σ151 τ _ _) (jin rfl (by omega) (by omega)) dX12_bestFrom_155 (fun σ176 H locs eσ176 hP hS => ?_)
              refine lv_aload_n hx hb dX12_bestFrom_156 rfl (lv_at hl 6 rfl) ?_
              refine va_get (D := D) hx hb hts inlX12 hown hK hP 55 (jc_55 cI cL ad σ176 τ) rfl 38 (by decide) (hts _ kw_7_23) (fun _ h9 => h9) rfl dX12_bestFrom_157 ?_
              refine lv_iload_n hx hb dX12_bestFrom_160 rfl (lv_at hl 0 rfl) ?_
              refine lv_iload_n hx hb dX12_bestFrom_161 rfl (lv_at hl 5 rfl) ?_
              refine jast hx hb hK hP hJ hA hS (jc_74 cI cL ad σ176 τ) (ja_74 cI cL ad σ176 τ _ _) (jin rfl (by omega) (by omega)) dX12_bestFrom_162 (fun σ177 H locs eσ177 hP hS => ?_)
              refine lv_aload_n hx hb dX12_bestFrom_163 rfl (lv_at hl 6 rfl) ?_
              refine va_get (D := D) hx hb hts inlX12 hown hK hP 55 (jc_55 cI cL ad σ177 τ) rfl 39 (by decide) (hts _ kw_8_0) (fun _ h9 => h9) rfl dX12_bestFrom_164 ?_
              refine lv_iload_n hx hb dX12_bestFrom_167 rfl (lv_at hl 0 rfl) ?_
              refine lv_iload_n hx hb dX12_bestFrom_168 rfl (lv_at hl 4 rfl) ?_
              refine jast hx hb hK hP hJ hA hS (jc_75 cI cL ad σ177 τ) (ja_75 cI cL ad σ177 τ _ _) (jin rfl (by omega) (by omega)) dX12_bestFrom_169 (fun σ178 H locs eσ178 hP hS => ?_)
              refine lv_aload_n hx hb dX12_bestFrom_170 rfl (lv_at hl 6 rfl) ?_
              refine va_get (D := D) hx hb hts inlX12 hown hK hP 55 (jc_55 cI cL ad σ178 τ) rfl 40 (by decide) (hts _ kw_8_1) (fun _ h9 => h9) rfl dX12_bestFrom_171 ?_
              refine lv_iload_n hx hb dX12_bestFrom_174 rfl (lv_at hl 0 rfl) ?_
              refine lv_iload hx hb dX12_bestFrom_175 (lv_at hl 2 rfl) ?_
              refine jast hx hb hK hP hJ hA hS (jc_76 cI cL ad σ178 τ) (ja_76 cI cL ad σ178 τ _ _) (jin rfl (by omega) (by omega)) dX12_bestFrom_177 (fun σ179 H locs eσ179 hP hS => ?_)
              refine lv_aload_n hx hb dX12_bestFrom_178 rfl (lv_at hl 6 rfl) ?_
              refine va_get (D := D) hx hb hts inlX12 hown hK hP 55 (jc_55 cI cL ad σ179 τ) rfl 41 (by decide) (hts _ kw_8_2) (fun _ h9 => h9) rfl dX12_bestFrom_179 ?_
              refine lv_iload_n hx hb dX12_bestFrom_182 rfl (lv_at hl 0 rfl) ?_
              refine lv_iload hx hb dX12_bestFrom_183 (lv_at hl 3 rfl) ?_
              refine jast hx hb hK hP hJ hA hS (jc_77 cI cL ad σ179 τ) (ja_77 cI cL ad σ179 τ _ _) (jin rfl (by omega) (by omega)) dX12_bestFrom_185 (fun σ180 H locs eσ180 hP hS => ?_)
              have e181 : σ180 75 = jupd (σ151 75) r166.toNatClampNeg x38 := by rw [eσ180, jup_n (by decide), eσ179, jup_n (by decide), eσ178, jup_row, eσ177, jup_n (by decide), eσ176, jup_n (by decide)]
              have e182 : σ180 76 = jupd (σ151 76) r166.toNatClampNeg x148 := by rw [eσ180, jup_n (by decide), eσ179, jup_row, eσ178, jup_n (by decide), eσ177, jup_n (by decide), eσ176, jup_n (by decide)]
              have e183 : σ180 77 = jupd (σ151 77) r166.toNatClampNeg x147 := by rw [eσ180, jup_row, eσ179, jup_n (by decide), eσ178, jup_n (by decide), eσ177, jup_n (by decide), eσ176, jup_n (by decide)]
              have z184 : (σ180 55 26).toInt = (σ 55 26).toInt := (congrArg Int32.toInt (show σ180 55 26 = (σ 55 26) from ((congrFun (jnp 55 eσ180 (by decide)) 26).trans ((congrFun (jnp 55 eσ179 (by decide)) 26).trans ((congrFun (jnp 55 eσ178 (by decide)) 26).trans ((congrFun (jnp 55 eσ177 (by decide)) 26).trans ((congrFun (jnp 55 eσ176 (by decide)) 26).trans (f160 26 (by decide)))))))))
              have p185 : jKept σ180 := p161.on e181 e182 e183 (by have h91 := tx38; omega) (by have h91 := tx38; omega) (by have h91 := tx38; omega) (by have h91 := tx38; omega)
              refine lv_aload_n hx hb dX12_bestFrom_186 rfl (lv_at hl 6 rfl) ?_
              refine lv_iload hx hb dX12_bestFrom_187 (lv_at hl 3 rfl) ?_
              refine jput (ty := .int) hx hb hts inlX12 tyX12 tyX12_ok nmX12 hown hK hP hJ hA hS (jc_55 cI cL ad σ180 τ) rfl (k := 37) (by decide) (Nat.le_of_ble_eq_true rfl) (jp_55_37 cI cL ad σ180 τ x147) (hts _ kw_33_15) (fun _ h9 => h9) rfl (by decide +kernel) rfl rfl dX12_bestFrom_189 (fun σ186 H locs eσ186 hP hS => ?_)
              refine lv_iload hx hb dX12_bestFrom_192 (lv_at hl 2 rfl) ?_
              have p187 : jKept σ186 := jKept.fr (jnp 75 eσ186 (by decide)) (jnp 76 eσ186 (by decide)) (jnp 77 eσ186 (by decide)) p185
              have p188 : jTR σ186 := jTR.fr ((jnp 64 eσ186 (by decide)).trans ((jnp 64 eσ180 (by decide)).trans ((jnp 64 eσ179 (by decide)).trans ((jnp 64 eσ178 (by decide)).trans ((jnp 64 eσ177 (by decide)).trans ((jnp 64 eσ176 (by decide)).trans (f159 64 (by decide)))))))) ((jnp 65 eσ186 (by decide)).trans ((jnp 65 eσ180 (by decide)).trans ((jnp 65 eσ179 (by decide)).trans ((jnp 65 eσ178 (by decide)).trans ((jnp 65 eσ177 (by decide)).trans ((jnp 65 eσ176 (by decide)).trans (f159 65 (by decide)))))))) hs_jTR
              have z189 : (σ186 55 37).toInt = x147.toInt := (congrArg Int32.toInt (show σ186 55 37 = x147 from (jsp eσ186)))
              exact hret x148 σ186 τ _ _ _ _ rfl ⟨rfl, (fun i hi => ((jnp i eσ186 (imp_206 i hi)).trans ((jnp i eσ180 (imp_208 i hi)).trans ((jnp i eσ179 (imp_209 i hi)).trans ((jnp i eσ178 (imp_210 i hi)).trans ((jnp i eσ177 (imp_211 i hi)).trans ((jnp i eσ176 (imp_212 i hi)).trans (f159 i hi)))))))), (fun i hi => ((jkp i eσ186 (imp_207 i hi)).trans ((congrFun (jnp 55 eσ180 (by decide)) i).trans ((congrFun (jnp 55 eσ179 (by decide)) i).trans ((congrFun (jnp 55 eσ178 (by decide)) i).trans ((congrFun (jnp 55 eσ177 (by decide)) i).trans ((congrFun (jnp 55 eσ176 (by decide)) i).trans (f160 i hi)))))))), p187, p188, (by omega), ⟨trivial, (by omega)⟩⟩ hP hS dX12_bestFrom_194
            · obtain ⟨q191, k190⟩ := h168
              have q191 := q191.symm
              subst q191
              refine lv_istore_n (lv' := [(3, .int (-1)), (6, .int x149), (5, .int x148), (4, .int x147), (2, .int x38), (1, .int r34), (0, .ref (ad 55))]) hx hb dX12_bestFrom_141 rfl hl (by decide) rfl (fun ls hl => ?_)
              refine lv_iload_n hx hb dX12_bestFrom_142 rfl (lv_at hl 0 rfl) ?_
              refine lv_if_lt (tgt := 186) hx hb dX12_bestFrom_143 (by decide) (fun _ => ?_) (fun c => absurd (by decide) c)
              refine lv_aload_n hx hb dX12_bestFrom_186 rfl (lv_at hl 6 rfl) ?_
              refine lv_iload hx hb dX12_bestFrom_187 (lv_at hl 3 rfl) ?_
              refine jput (ty := .int) hx hb hts inlX12 tyX12 tyX12_ok nmX12 hown hK hP hJ hA hS (jc_55 cI cL ad σ151 τ) rfl (k := 37) (by decide) (Nat.le_of_ble_eq_true rfl) (jp_55_37 cI cL ad σ151 τ x147) (hts _ kw_33_15) (fun _ h9 => h9) rfl (by decide +kernel) rfl rfl dX12_bestFrom_189 (fun σ192 H locs eσ192 hP hS => ?_)
              refine lv_iload hx hb dX12_bestFrom_192 (lv_at hl 2 rfl) ?_
              have p193 : jKept σ192 := jKept.fr (jnp 75 eσ192 (by decide)) (jnp 76 eσ192 (by decide)) (jnp 77 eσ192 (by decide)) p161
              have p194 : jTR σ192 := jTR.fr ((jnp 64 eσ192 (by decide)).trans (f159 64 (by decide))) ((jnp 65 eσ192 (by decide)).trans (f159 65 (by decide))) hs_jTR
              have z195 : (σ192 55 37).toInt = x147.toInt := (congrArg Int32.toInt (show σ192 55 37 = x147 from (jsp eσ192)))
              exact hret x148 σ192 τ _ _ _ _ rfl ⟨rfl, (fun i hi => ((jnp i eσ192 (imp_206 i hi)).trans (f159 i hi))), (fun i hi => ((jkp i eσ192 (imp_207 i hi)).trans (f160 i hi))), p193, p194, (by omega), ⟨trivial, (by omega)⟩⟩ hP hS dX12_bestFrom_194
          · have kc164 := jnle c164 rfl rfl
            refine lv_aload_n hx hb dX12_bestFrom_94 rfl (lv_at hl 6 rfl) ?_
            refine lv_iload hx hb dX12_bestFrom_95 (lv_at hl 0 rfl) ?_
            refine jcallV (As := [.int x149]) (rest := []) ⟨hx, hb, hml, hown, hts⟩ hK hP hA hS hZ (c_X12_mayBowl l D cI cL ad zz hJ σ151 τ x149 (x149.toInt) rfl (by omega)) cw_RX12_249 (jc_55 cI cL ad σ151 τ) rfl ⟨by dsimp only; omega, by dsimp only; omega⟩ rfl rfl rfl hl.1 rfl (Nat.le_of_ble_eq_true rfl) dX12_bestFrom_97 ⟨Nat.zero_le _, Nat.zero_le _⟩ (fun r197 σ196 τ196 H locs h196 hP hS => ?_)
            obtain ⟨⟨rfl, rfl⟩, h196⟩ := h196
            rcases h196 with h198 | h199
            · obtain ⟨q201, k200⟩ := h198
              have q201 := q201.symm
              subst q201
              refine lv_if_ne (tgt := 106) hx hb dX12_bestFrom_100 (by decide) (fun _ => ?_) (fun c => absurd c (by decide))
              refine lv_aload_n hx hb dX12_bestFrom_106 rfl (lv_at hl 6 rfl) ?_
              refine lv_iload hx hb dX12_bestFrom_107 (lv_at hl 0 rfl) ?_
              have I202 : jI101 σ151 := jI101_fr (f160 4 (by decide)) (f160 5 (by decide)) (f159 56 (by decide)) (f159 57 (by decide)) (f159 58 (by decide)) (f159 59 (by decide)) hI101
              have I203 : jI102 σ151 := jI102_fr (f160 6 (by decide)) (f159 60 (by decide)) (f159 61 (by decide)) hI102
              have I204 : jI103 σ151 := jI103_fr (f160 9 (by decide)) hI103
              have I205 : jI104 σ151 := jI104_fr (f160 10 (by decide)) (f160 12 (by decide)) (f160 13 (by decide)) (f159 62 (by decide)) (f159 67 (by decide)) hI104
              have I206 : jI105 σ151 := jI105_fr (f160 15 (by decide)) (f159 65 (by decide)) hI105
              have I207 : jI106 σ151 := jI106_fr (f160 32 (by decide)) (f159 70 (by decide)) (f159 71 (by decide)) (f159 72 (by decide)) hI106
              have I208 : jI120 σ151 := jI120_fr (f160 10 (by decide)) (f160 12 (by decide)) (f160 25 (by decide)) (f160 26 (by decide)) (f160 27 (by decide)) (f159 68 (by decide)) hI120
              have p209 : jTR σ151 := jTR.fr (f159 64 (by decide)) (f159 65 (by decide)) hs_jTR
              have z210 : (σ151 55 25).toInt = (σ 55 25).toInt := (congrArg Int32.toInt (show σ151 55 25 = (σ 55 25) from (f160 25 (by decide))))
              have z211 : (σ151 55 10).toInt = (σ 55 10).toInt := (congrArg Int32.toInt (show σ151 55 10 = (σ 55 10) from (f160 10 (by decide))))
              have z212 : (σ151 55 12).toInt = (σ 55 12).toInt := (congrArg Int32.toInt (show σ151 55 12 = (σ 55 12) from (f160 12 (by decide))))
              refine jcallV (As := [.int x149]) (rest := []) ⟨hx, hb, hml, hown, hts⟩ hK hP hA hS hZ (h_mean σ151 τ x149 (x149.toInt) rfl I202 I203 I204 I205 I206 I207 I208 p161 p209 (by omega) (by omega) (by omega) (by omega)) cw_RX12_318 (jc_55 cI cL ad σ151 τ) rfl ⟨by dsimp only; omega, by dsimp only; omega⟩ rfl rfl rfl hl.1 rfl (Nat.le_of_ble_eq_true rfl) dX12_bestFrom_109 ⟨Nat.zero_le _, Nat.zero_le _⟩ (fun r214 σ213 τ213 H locs h213 hP hS => ?_)
              obtain ⟨rfl, f215, f216, p217, p218, h213⟩ := h213
              have h220 := h213
              obtain ⟨q222, k221⟩ := h220
              refine lv_istore (lv' := [(7, .int r214), (6, .int x149), (5, .int x148), (4, .int x147), (3, .int (-1)), (2, .int x38), (1, .int r34), (0, .ref (ad 55))]) hx hb dX12_bestFrom_112 hl (by decide) rfl (fun ls hl => ?_)
              refine lv_iload hx hb dX12_bestFrom_114 (lv_at hl 0 rfl) ?_
              refine lv_iload hx hb dX12_bestFrom_116 (lv_at hl 2 rfl) ?_
              refine lv_icmp_ge (tgt := 129) hx hb dX12_bestFrom_118 (by decide) (fun c223 => ?_) (fun c223 => ?_)
              · have kc223 := jle c223 rfl rfl
                obtain ⟨x224, ex224⟩ : ∃ y : Int32, y = x149 + 1 := ⟨_, rfl⟩
                have tx224 : x224.toInt = x149.toInt + 1 := (jadd ex224 rfl jz_1 (by omega) (by omega)).trans (by omega)
                refine lv_iinc (v := x224) (lv' := [(6, .int x224), (7, .int r214), (5, .int x148), (4, .int x147), (3, .int (-1)), (2, .int x38), (1, .int r34), (0, .ref (ad 55))]) hx hb dX12_bestFrom_129 hl (k := 1) rfl (by rw [ex224]; rfl) (by decide) rfl (fun ls hl => ?_)
                refine lv_goto (tgt := 85) hx hb dX12_bestFrom_132 (by decide) ?_
                have z225 : (σ213 55 26).toInt = (σ 55 26).toInt := (congrArg Int32.toInt (show σ213 55 26 = (σ 55 26) from ((f216 26 (by decide)).trans (f160 26 (by decide)))))
                exact ihlp145 x147 x148 x224 σ213 _ _ ls (by have h92 := tx224; omega) (by have h92 := tx224; omega) (by have h92 := tx224; omega) (by have h92 := tx224; omega) (by have h92 := tx224; omega) (by have h92 := tx224; omega) (fun i hi => ((f215 i hi).trans (f159 i hi))) (fun i hi => ((f216 i hi).trans (f160 i hi)))  p217 hP hS (lv_sub hl [0, 2, 3, 4, 5, 6, 7] rfl)
              · have kc223 := jnle c223 rfl rfl
                refine lv_iload hx hb dX12_bestFrom_121 (lv_at hl 0 rfl) ?_
                refine lv_istore (lv' := [(5, .int r214), (7, .int r214), (6, .int x149), (4, .int x147), (3, .int (-1)), (2, .int x38), (1, .int r34), (0, .ref (ad 55))]) hx hb dX12_bestFrom_123 hl (by decide) rfl (fun ls hl => ?_)
                refine lv_iload hx hb dX12_bestFrom_125 (lv_at hl 2 rfl) ?_
                refine lv_istore (lv' := [(4, .int x149), (5, .int r214), (7, .int r214), (6, .int x149), (3, .int (-1)), (2, .int x38), (1, .int r34), (0, .ref (ad 55))]) hx hb dX12_bestFrom_127 hl (by decide) rfl (fun ls hl => ?_)
                obtain ⟨x226, ex226⟩ : ∃ y : Int32, y = x149 + 1 := ⟨_, rfl⟩
                have tx226 : x226.toInt = x149.toInt + 1 := (jadd ex226 rfl jz_1 (by omega) (by omega)).trans (by omega)
                refine lv_iinc (v := x226) (lv' := [(6, .int x226), (4, .int x149), (5, .int r214), (7, .int r214), (3, .int (-1)), (2, .int x38), (1, .int r34), (0, .ref (ad 55))]) hx hb dX12_bestFrom_129 hl (k := 3) rfl (by rw [ex226]; rfl) (by decide) rfl (fun ls hl => ?_)
                refine lv_goto (tgt := 85) hx hb dX12_bestFrom_132 (by decide) ?_
                have z227 : (σ213 55 26).toInt = (σ 55 26).toInt := (congrArg Int32.toInt (show σ213 55 26 = (σ 55 26) from ((f216 26 (by decide)).trans (f160 26 (by decide)))))
                exact ihlp145 x149 r214 x226 σ213 _ _ ls (by have h92 := tx226; omega) (by have h92 := tx226; omega) (by have h92 := tx226; omega) (by have h92 := tx226; omega) (by have h92 := tx226; omega) (by have h92 := tx226; omega) (fun i hi => ((f215 i hi).trans (f159 i hi))) (fun i hi => ((f216 i hi).trans (f160 i hi)))  p217 hP hS (lv_sub hl [0, 2, 1, 4, 5, 6, 7] rfl)
            · obtain ⟨q229, k228⟩ := h199
              have q229 := q229.symm
              subst q229
              have e230 : jmb σ151 x149 = jmb σ x149 := (jmb_fr (f160 27 (by decide)) (f160 30 (by decide)) (f160 31 (by decide)) (f159 56 (by decide)) (f159 69 (by decide)) x149)
              have n231 : ¬ x149 = B29 := fun h => absurd ((w32).symm.trans (by rw [← h]; exact e230.symm.trans k228) : (1 : Int32) = 0) (by decide)
              have k232 := jne n231 rfl rfl
              refine lv_if_ne (tgt := 106) hx hb dX12_bestFrom_100 (by decide) (fun c => absurd (by decide) c) (fun _ => ?_)
              refine lv_goto (tgt := 129) hx hb dX12_bestFrom_103 (by decide) ?_
              obtain ⟨x233, ex233⟩ : ∃ y : Int32, y = x149 + 1 := ⟨_, rfl⟩
              have tx233 : x233.toInt = x149.toInt + 1 := (jadd ex233 rfl jz_1 (by omega) (by omega)).trans (by omega)
              refine lv_iinc (v := x233) (lv' := [(6, .int x233), (5, .int x148), (4, .int x147), (3, .int (-1)), (2, .int x38), (1, .int r34), (0, .ref (ad 55))]) hx hb dX12_bestFrom_129 hl (k := 0) rfl (by rw [ex233]; rfl) (by decide) rfl (fun ls hl => ?_)
              refine lv_goto (tgt := 85) hx hb dX12_bestFrom_132 (by decide) ?_
              exact ihlp145 x147 x148 x233 σ151 _ _ ls (by have h92 := tx233; omega) (by have h92 := tx233; omega) (by have h92 := tx233; omega) (by have h92 := tx233; omega) (by have h92 := tx233; omega) (by have h92 := tx233; omega) (fun i hi => (f159 i hi)) (fun i hi => (f160 i hi))  p161 hP hS (lv_sub hl [0, 1, 2, 3, 4, 5, 6] rfl)
      exact lp145 1000000 (-1) 2000000000 0 σ _ _ ls (by have h90 := jz_m1; have h91 := jz_2000000000; have h92 := jz_0; omega) (by have h90 := jz_m1; have h91 := jz_2000000000; have h92 := jz_0; omega) (by have h90 := jz_m1; have h91 := jz_2000000000; have h92 := jz_0; omega) (by have h90 := jz_m1; have h91 := jz_2000000000; have h92 := jz_0; omega) (by have h90 := jz_m1; have h91 := jz_2000000000; have h92 := jz_0; omega) (by have h90 := jz_m1; have h91 := jz_2000000000; have h92 := jz_0; omega) (fun _ _ => rfl) (fun _ _ => rfl)  hs_jKept hP hS hl
set_option maxHeartbeats 4000000 in
set_option maxRecDepth 100000 in
theorem c_X12_bests_bw_g (l : Launch) (D : va_G) (cI cL : ClassId) (ad zz : Nat → Nat) (hJ : jD ad) (n : Nat) (h_mean : ∀ (σ : Nat → Nat → Int32) (τ : Nat → Nat → Int64) (a1 : Int32) (A1 : Int) (t1 : a1.toInt = A1) (hI101 : jI101 σ) (hI102 : jI102 σ) (hI103 : jI103 σ) (hI104 : jI104 σ) (hI105 : jI105 σ) (hI106 : jI106 σ) (hI120 : jI120 σ) (hs_jKept : jKept σ) (hs_jTR : jTR σ) (hp0 : 0 ≤ A1 ∧ A1 ≤ 3) (hp1 : (σ 55 25).toInt < (σ 55 10).toInt) (hp2 : (σ 55 26).toInt < (σ 55 12).toInt) (hp3 : (σ 55 12).toInt - (σ 55 26).toInt ≤ (((n) : Nat) : Int)), jM l yX12_meanWith cX12_meanWith 8 (some .int) ({ frames := (69 + 4 * (n)), cells := 0, slots := 0, locals := (3034 + 240 * (n)) }) D cI cL ad zz [.ref (ad 55), .int a1] σ τ (fun r σ' τ' => τ = τ' ∧ (∀ i : Nat, (i < 55 ∨ 55 < i) ∧ (i < 66 ∨ 66 < i) ∧ (i < 74 ∨ 78 < i) → σ' i = σ i) ∧ (∀ k : Nat, (k < 18 ∨ 18 < k) ∧ (k < 19 ∨ 19 < k) ∧ (k < 20 ∨ 20 < k) ∧ (k < 21 ∨ 21 < k) ∧ (k < 22 ∨ 22 < k) ∧ (k < 37 ∨ 37 < k) → σ' 55 k = σ 55 k) ∧ (jKept σ') ∧ (jTR σ') ∧ ((True ∧ (0 ≤ r.toInt ∧ r.toInt ≤ -(1023000 * (σ 55 26).toInt) + 12276000))))) (σ : Nat → Nat → Int32) (τ : Nat → Nat → Int64) (B0 : Int32) (hB0 : jmb σ B0 = 1) (hI101 : jI101 σ) (hI102 : jI102 σ) (hI103 : jI103 σ) (hI104 : jI104 σ) (hI105 : jI105 σ) (hI106 : jI106 σ) (hI120 : jI120 σ) (hs_jKept : jKept σ) (hs_jTR : jTR σ) (hp0 : 0 ≤ B0.toInt ∧ B0.toInt < (σ 55 6).toInt) (hp1 : (σ 55 25).toInt < (σ 55 10).toInt) (hp2 : (σ 55 26).toInt < (σ 55 12).toInt) (hp3 : (σ 55 12).toInt - (σ 55 26).toInt ≤ (((n) : Nat) : Int)) : jM l yX12_bestFrom cX12_bestFrom 8 (some .int) ({ frames := (70 + 4 * (n)), cells := 0, slots := 0, locals := (3114 + 240 * (n)) }) D cI cL ad zz [.ref (ad 55)] σ τ (fun r σ' τ' => τ = τ' ∧ (∀ i : Nat, (i < 55 ∨ 55 < i) ∧ (i < 66 ∨ 66 < i) ∧ (i < 74 ∨ 78 < i) → σ' i = σ i) ∧ (∀ k : Nat, (k < 18 ∨ 18 < k) ∧ (k < 19 ∨ 19 < k) ∧ (k < 20 ∨ 20 < k) ∧ (k < 21 ∨ 21 < k) ∧ (k < 22 ∨ 22 < k) ∧ (k < 37 ∨ 37 < k) → σ' 55 k = σ 55 k) ∧ (jKept σ') ∧ (jTR σ') ∧ (0 ≤ (σ' 55 37).toInt ∧ (σ' 55 37).toInt ≤ 3) ∧ ((True ∧ (0 ≤ r.toInt ∧ r.toInt ≤ -(1023000 * (σ 55 26).toInt) + 12276000)))) := by
  refine jM.of hJ (by decide +kernel) (nt := .int) rfl (Nat.le_of_ble_eq_true rfl) ?_
  intro p e s m args below meth c Q ls hC hret hl hP
  obtain ⟨hx, hb, hr, hml, hown, hts, hK, -, hlocks, hZ⟩ := hC
  have hown : s.vm.findClass RX12 = some m.cls := hown
  have hS : va_S (jA ad) s.heap s.heap [] := va_S.rf
  have hA : ∀ q, jA ad q → jA ad q := fun _ h => h
  have hl : lv_has ls 8 [(0, .ref (ad 55))] := hl
  obtain ⟨i1, w2, w3⟩ : (0 ≤ (σ 55 6).toInt ∧ (σ 55 6).toInt ≤ 4) ∧ (∀ k : Nat, k < 4 → 0 ≤ (σ 60 k).toInt ∧ (σ 60 k).toInt ≤ 50) ∧ (∀ k : Nat, k < 4 → 0 ≤ (σ 61 k).toInt ∧ (σ 61 k).toInt ≤ 20) := id hI102
  obtain ⟨i4, i5, i6, w7, w8⟩ : (1 ≤ (σ 55 10).toInt ∧ (σ 55 10).toInt ≤ 8) ∧ (1 ≤ (σ 55 12).toInt ∧ (σ 55 12).toInt ≤ 12) ∧ (0 ≤ (σ 55 13).toInt ∧ (σ 55 13).toInt ≤ 999) ∧ (∀ k : Nat, k < 8 → 0 ≤ (σ 62 k).toInt ∧ (σ 62 k).toInt ≤ 3) ∧ (∀ k : Nat, k < 8 → 0 ≤ (σ 67 k).toInt ∧ (σ 67 k).toInt ≤ 3) := id hI104
  obtain ⟨i9, i10, i11, i12, i13, w14⟩ : (0 ≤ (σ 55 25).toInt) ∧ ((σ 55 25).toInt ≤ (σ 55 10).toInt) ∧ (0 ≤ (σ 55 26).toInt) ∧ ((σ 55 26).toInt ≤ (σ 55 12).toInt) ∧ ((-1) ≤ (σ 55 27).toInt ∧ (σ 55 27).toInt ≤ 3) ∧ (∀ k : Nat, k < 4 → 0 ≤ (σ 68 k).toInt ∧ (σ 68 k).toInt ≤ 3) := id hI120
  refine lv_aload_n hx hb dX12_bestFrom_0 rfl (lv_at hl 0 rfl) ?_
  have p15 : jmb σ B0 = 1 := (jmb_fr rfl rfl rfl rfl rfl B0).trans hB0
  refine jcallV (As := []) (rest := []) ⟨hx, hb, hml, hown, hts⟩ hK hP hA hS hZ (c_X12_isEnded_w l D cI cL ad zz hJ σ τ B0 p15 hI102 hI104 hI120 (by omega) (by omega) (by omega)) cw_RX12_307 (jc_55 cI cL ad σ τ) rfl ⟨by dsimp only; omega, by dsimp only; omega⟩ rfl rfl rfl hl.1 rfl (Nat.le_of_ble_eq_true rfl) dX12_bestFrom_1 ⟨Nat.zero_le _, Nat.zero_le _⟩ (fun r17 σ16 τ16 H locs h16 hP hS => ?_)
  obtain ⟨⟨rfl, rfl⟩, h16⟩ := h16
  have h18 := h16
  obtain ⟨q20, k19⟩ := h18
  have q20 := q20.symm
  subst q20
  refine lv_if_eq (tgt := 15) hx hb dX12_bestFrom_4 (by decide) (fun _ => ?_) (fun c => absurd (by decide) c)
  refine lv_aload_n hx hb dX12_bestFrom_15 rfl (lv_at hl 0 rfl) ?_
  refine jcallV (As := []) (rest := []) ⟨hx, hb, hml, hown, hts⟩ hK hP hA hS hZ (c_X12_stateNumber l D cI cL ad zz hJ σ τ hI102 w14) cw_RX12_311 (jc_55 cI cL ad σ τ) rfl ⟨by dsimp only; omega, by dsimp only; omega⟩ rfl rfl rfl hl.1 rfl (Nat.le_of_ble_eq_true rfl) dX12_bestFrom_16 ⟨Nat.zero_le _, Nat.zero_le _⟩ (fun r22 σ21 τ21 H locs h21 hP hS => ?_)
  obtain ⟨⟨rfl, rfl⟩, h21⟩ := h21
  refine lv_istore_n (lv' := [(1, .int r22), (0, .ref (ad 55))]) hx hb dX12_bestFrom_19 rfl hl (by decide) rfl (fun ls hl => ?_)
  refine lv_bipush (v := 16) hx hb dX12_bestFrom_20 (by decide) ?_
  refine lv_aload_n hx hb dX12_bestFrom_22 rfl (lv_at hl 1 rfl) ?_
  refine va_get (D := D) hx hb hts inlX12 hown hK hP 55 (jc_55 cI cL ad σ τ) rfl 26 (by decide) (hts _ kw_23_5) (fun _ h9 => h9) rfl dX12_bestFrom_23 ?_
  have g23 := jrg (rfl : (σ 55 26).toInt = (σ 55 26).toInt)
  refine lv_imul hx hb dX12_bestFrom_26 ?_
  refine lv_topi (fun x24 ex24 => ?_)
  have tx24 : x24.toInt = 16 * (σ 55 26).toInt := (jmul ex24 jz_16 rfl (by omega) (by omega)).trans (by omega)
  refine lv_aload_n hx hb dX12_bestFrom_27 rfl (lv_at hl 1 rfl) ?_
  refine va_get (D := D) hx hb hts inlX12 hown hK hP 55 (jc_55 cI cL ad σ τ) rfl 25 (by decide) (hts _ kw_23_6) (fun _ h9 => h9) rfl dX12_bestFrom_28 ?_
  have g25 := jrg (rfl : (σ 55 25).toInt = (σ 55 25).toInt)
  refine lv_iadd hx hb dX12_bestFrom_31 ?_
  refine lv_topi (fun x26 ex26 => ?_)
  have tx26 : x26.toInt = 16 * (σ 55 26).toInt + (σ 55 25).toInt := (jadd ex26 tx24 rfl (by omega) (by omega)).trans (by omega)
  refine lv_istore_n (lv' := [(2, .int x26), (1, .int r22), (0, .ref (ad 55))]) hx hb dX12_bestFrom_32 rfl hl (by decide) rfl (fun ls hl => ?_)
  refine lv_aload_n hx hb dX12_bestFrom_33 rfl (lv_at hl 2 rfl) ?_
  refine lv_iload_n hx hb dX12_bestFrom_34 rfl (lv_at hl 1 rfl) ?_
  refine lv_iload_n hx hb dX12_bestFrom_35 rfl (lv_at hl 0 rfl) ?_
  refine jcallV (As := [.int r22, .int x26]) (rest := []) ⟨hx, hb, hml, hown, hts⟩ hK hP hA hS hZ (c_X12_spot l D cI cL ad zz hJ σ τ r22 (r22.toInt) rfl x26 (16 * (σ 55 26).toInt + (σ 55 25).toInt) tx26) cw_RX12_314 (jc_55 cI cL ad σ τ) rfl ⟨by dsimp only; omega, by dsimp only; omega⟩ rfl rfl rfl hl.1 rfl (Nat.le_of_ble_eq_true rfl) dX12_bestFrom_36 ⟨Nat.zero_le _, Nat.zero_le _⟩ (fun r28 σ27 τ27 H locs h27 hP hS => ?_)
  obtain ⟨⟨rfl, rfl⟩, h27⟩ := h27
  rcases h27 with h29 | h30
  · obtain ⟨q33, k31, k32⟩ := h29
    have k34 : (σ 78 r28.toNatClampNeg).toInt ≠ (σ 55 42).toInt ∨ (σ 75 r28.toNatClampNeg).toInt = 16 * (σ 55 26).toInt + (σ 55 25).toInt := k32.imp (fun q => jne q rfl rfl) (fun q => jeq q rfl tx26)
    refine lv_istore_n (lv' := [(3, .int r28), (2, .int x26), (1, .int r22), (0, .ref (ad 55))]) hx hb dX12_bestFrom_39 rfl hl (by decide) rfl (fun ls hl => ?_)
    refine lv_iload_n hx hb dX12_bestFrom_40 rfl (lv_at hl 0 rfl) ?_
    refine lv_if_lt (tgt := 74) hx hb dX12_bestFrom_41 (by decide) (fun c => absurd (jlt c rfl jz_0) (by omega)) (fun c35 => ?_)
    have kc35 := jnlt c35 rfl jz_0
    refine lv_aload_n hx hb dX12_bestFrom_44 rfl (lv_at hl 3 rfl) ?_
    refine va_get (D := D) hx hb hts inlX12 hown hK hP 55 (jc_55 cI cL ad σ τ) rfl 43 (by decide) (hts _ kw_8_3) (fun _ h9 => h9) rfl dX12_bestFrom_45 ?_
    refine lv_iload_n hx hb dX12_bestFrom_48 rfl (lv_at hl 0 rfl) ?_
    refine jald hx hb hK hP (jc_78 cI cL ad σ τ) (jin rfl (by omega) (by omega)) dX12_bestFrom_49 ?_
    refine jtopr (y := (σ 78 r28.toNatClampNeg)) rfl ?_
    refine lv_aload_n hx hb dX12_bestFrom_50 rfl (lv_at hl 3 rfl) ?_
    refine va_get (D := D) hx hb hts inlX12 hown hK hP 55 (jc_55 cI cL ad σ τ) rfl 42 (by decide) (hts _ kw_33_10) (fun _ h9 => h9) rfl dX12_bestFrom_51 ?_
    refine lv_icmp_ne (tgt := 74) hx hb dX12_bestFrom_54 (by decide) (fun c36 => ?_) (fun c36 => ?_)
    · have kc36 := jne c36 rfl rfl
      refine lv_iconst (v := (-1)) hx hb dX12_bestFrom_74 (by decide) ?_
      refine lv_istore (lv' := [(4, .int (-1)), (3, .int r28), (2, .int x26), (1, .int r22), (0, .ref (ad 55))]) hx hb dX12_bestFrom_75 hl (by decide) rfl (fun ls hl => ?_)
      refine lv_ldcw (v := 2000000000) hx hb hown (hts _ kw_34_4) dX12_bestFrom_77 ?_
      refine lv_istore (lv' := [(5, .int 2000000000), (4, .int (-1)), (3, .int r28), (2, .int x26), (1, .int r22), (0, .ref (ad 55))]) hx hb dX12_bestFrom_80 hl (by decide) rfl (fun ls hl => ?_)
      refine lv_iconst (v := 0) hx hb dX12_bestFrom_82 (by decide) ?_
      refine lv_istore (lv' := [(6, .int 0), (5, .int 2000000000), (4, .int (-1)), (3, .int r28), (2, .int x26), (1, .int r22), (0, .ref (ad 55))]) hx hb dX12_bestFrom_83 hl (by decide) rfl (fun ls hl => ?_)
      have lp37 : ∀ (n38 : Nat) (x39 : Int32) (x40 : Int32) (x41 : Int32) (σ43 : Nat → Nat → Int32) (H : Heap) (locs : List Loc) (ls : Array Slot), (-x41.toInt + 4 : Int) < n38 → (-1) ≤ x39.toInt → x39.toInt ≤ 3 → 0 ≤ x41.toInt → x41.toInt ≤ 4 → ((0 ≤ x39.toInt ∧ 0 ≤ x40.toInt ∧ x40.toInt ≤ -(1023000 * (σ43 55 26).toInt) + 12276000) ∨ (x39.toInt = (-1) ∧ x40.toInt = 2000000000 ∧ x41.toInt ≤ B0.toInt)) → (∀ i : Nat, (i < 55 ∨ 55 < i) ∧ (i < 66 ∨ 66 < i) ∧ (i < 74 ∨ 78 < i) → σ43 i = σ i) → (∀ k : Nat, (k < 18 ∨ 18 < k) ∧ (k < 19 ∨ 19 < k) ∧ (k < 20 ∨ 20 < k) ∧ (k < 21 ∨ 21 < k) ∧ (k < 22 ∨ 22 < k) ∧ (k < 37 ∨ 37 < k) → σ43 55 k = σ 55 k) → jKept σ43 → jH D cI cL ad σ43 τ H → va_S (jA ad) s.heap H locs → lv_has ls 8 [(6, .int x41), (5, .int x40), (4, .int x39), (3, .int r28), (2, .int x26), (1, .int r22), (0, .ref (ad 55))] → W p l e ({ frames := (70 + 4 * (n)), cells := 0, slots := 0, locals := (3114 + 240 * (n)) }) s m args below meth c H locs 0 0 Q (F0 m 85 ls []) := by
        intro n38
        induction n38 with
        | zero => intro x39 x40 x41 σ43 H locs ls h45 h46 h47 h48 h49 h50; have gx40 := jrg (rfl : x40.toInt = x40.toInt); exact absurd h45 (by omega)
        | succ n38 ihlp37 =>
          intro x39 x40 x41 σ43 H locs ls h45 h46 h47 h48 h49 h50 f51 f52 p53 hP hS hl
          have gx40 := jrg (rfl : x40.toInt = x40.toInt)
          have z54 : (σ43 55 26).toInt = (σ 55 26).toInt := (congrArg Int32.toInt (show σ43 55 26 = (σ 55 26) from (f52 26 (by decide))))
          refine lv_iload hx hb dX12_bestFrom_85 (lv_at hl 0 rfl) ?_
          refine lv_aload_n hx hb dX12_bestFrom_87 rfl (lv_at hl 6 rfl) ?_
          refine va_get (D := D) hx hb hts inlX12 hown hK hP 55 (jc_55 cI cL ad σ43 τ) rfl 6 (by decide) (hts _ kw_9_13) (fun _ h9 => h9) rfl dX12_bestFrom_88 ?_
          have m55 : σ43 55 6 = (σ 55 6) := (f52 6 (by decide))
          refine jtopr m55 ?_
          refine lv_icmp_ge (tgt := 135) hx hb dX12_bestFrom_91 (by decide) (fun c56 => ?_) (fun c56 => ?_)
          · have kc56 := jle c56 rfl rfl
            refine lv_aload_n hx hb dX12_bestFrom_135 rfl (lv_at hl 6 rfl) ?_
            refine lv_iload_n hx hb dX12_bestFrom_136 rfl (lv_at hl 5 rfl) ?_
            refine lv_iload_n hx hb dX12_bestFrom_137 rfl (lv_at hl 4 rfl) ?_
            refine jcallV (As := [.int r22, .int x26]) (rest := []) ⟨hx, hb, hml, hown, hts⟩ hK hP hA hS hZ (c_X12_spot l D cI cL ad zz hJ σ43 τ r22 (r22.toInt) rfl x26 (16 * (σ 55 26).toInt + (σ 55 25).toInt) tx26) cw_RX12_314 (jc_55 cI cL ad σ43 τ) rfl ⟨by dsimp only; omega, by dsimp only; omega⟩ rfl rfl rfl hl.1 rfl (Nat.le_of_ble_eq_true rfl) dX12_bestFrom_138 ⟨Nat.zero_le _, Nat.zero_le _⟩ (fun r58 σ57 τ57 H locs h57 hP hS => ?_)
            obtain ⟨⟨rfl, rfl⟩, h57⟩ := h57
            rcases h57 with h59 | h60
            · obtain ⟨q63, k61, k62⟩ := h59
              have z65 : (σ43 55 42).toInt = (σ 55 42).toInt := (congrArg Int32.toInt (show σ43 55 42 = (σ 55 42) from (f52 42 (by decide))))
              have k64 : (σ43 78 r58.toNatClampNeg).toInt ≠ (σ43 55 42).toInt ∨ (σ43 75 r58.toNatClampNeg).toInt = 16 * (σ 55 26).toInt + (σ 55 25).toInt := k62.imp (fun q => jne q rfl rfl) (fun q => jeq q rfl tx26)
              refine lv_istore_n (lv' := [(3, .int r58), (6, .int x41), (5, .int x40), (4, .int x39), (2, .int x26), (1, .int r22), (0, .ref (ad 55))]) hx hb dX12_bestFrom_141 rfl hl (by decide) rfl (fun ls hl => ?_)
              refine lv_iload_n hx hb dX12_bestFrom_142 rfl (lv_at hl 0 rfl) ?_
              refine lv_if_lt (tgt := 186) hx hb dX12_bestFrom_143 (by decide) (fun c => absurd (jlt c rfl jz_0) (by omega)) (fun c66 => ?_)
              have kc66 := jnlt c66 rfl jz_0
              refine lv_aload_n hx hb dX12_bestFrom_146 rfl (lv_at hl 6 rfl) ?_
              refine va_get (D := D) hx hb hts inlX12 hown hK hP 55 (jc_55 cI cL ad σ43 τ) rfl 43 (by decide) (hts _ kw_8_3) (fun _ h9 => h9) rfl dX12_bestFrom_147 ?_
              refine lv_iload_n hx hb dX12_bestFrom_150 rfl (lv_at hl 0 rfl) ?_
              refine lv_aload_n hx hb dX12_bestFrom_151 rfl (lv_at hl 6 rfl) ?_
              refine va_get (D := D) hx hb hts inlX12 hown hK hP 55 (jc_55 cI cL ad σ43 τ) rfl 42 (by decide) (hts _ kw_33_10) (fun _ h9 => h9) rfl dX12_bestFrom_152 ?_
              have m67 : σ43 55 42 = (σ 55 42) := (f52 42 (by decide))
              refine jtopr m67 ?_
              refine jast hx hb hK hP hJ hA hS (jc_78 cI cL ad σ43 τ) (ja_78 cI cL ad σ43 τ _ _) (jin rfl (by omega) (by omega)) dX12_bestFrom_155 (fun σ68 H locs eσ68 hP hS => ?_)
              refine lv_aload_n hx hb dX12_bestFrom_156 rfl (lv_at hl 6 rfl) ?_
              refine va_get (D := D) hx hb hts inlX12 hown hK hP 55 (jc_55 cI cL ad σ68 τ) rfl 38 (by decide) (hts _ kw_7_23) (fun _ h9 => h9) rfl dX12_bestFrom_157 ?_
              refine lv_iload_n hx hb dX12_bestFrom_160 rfl (lv_at hl 0 rfl) ?_
              refine lv_iload_n hx hb dX12_bestFrom_161 rfl (lv_at hl 5 rfl) ?_
              refine jast hx hb hK hP hJ hA hS (jc_74 cI cL ad σ68 τ) (ja_74 cI cL ad σ68 τ _ _) (jin rfl (by omega) (by omega)) dX12_bestFrom_162 (fun σ69 H locs eσ69 hP hS => ?_)
              refine lv_aload_n hx hb dX12_bestFrom_163 rfl (lv_at hl 6 rfl) ?_
              refine va_get (D := D) hx hb hts inlX12 hown hK hP 55 (jc_55 cI cL ad σ69 τ) rfl 39 (by decide) (hts _ kw_8_0) (fun _ h9 => h9) rfl dX12_bestFrom_164 ?_
              refine lv_iload_n hx hb dX12_bestFrom_167 rfl (lv_at hl 0 rfl) ?_
              refine lv_iload_n hx hb dX12_bestFrom_168 rfl (lv_at hl 4 rfl) ?_
              refine jast hx hb hK hP hJ hA hS (jc_75 cI cL ad σ69 τ) (ja_75 cI cL ad σ69 τ _ _) (jin rfl (by omega) (by omega)) dX12_bestFrom_169 (fun σ70 H locs eσ70 hP hS => ?_)
              refine lv_aload_n hx hb dX12_bestFrom_170 rfl (lv_at hl 6 rfl) ?_
              refine va_get (D := D) hx hb hts inlX12 hown hK hP 55 (jc_55 cI cL ad σ70 τ) rfl 40 (by decide) (hts _ kw_8_1) (fun _ h9 => h9) rfl dX12_bestFrom_171 ?_
              refine lv_iload_n hx hb dX12_bestFrom_174 rfl (lv_at hl 0 rfl) ?_
              refine lv_iload hx hb dX12_bestFrom_175 (lv_at hl 2 rfl) ?_
              refine jast hx hb hK hP hJ hA hS (jc_76 cI cL ad σ70 τ) (ja_76 cI cL ad σ70 τ _ _) (jin rfl (by omega) (by omega)) dX12_bestFrom_177 (fun σ71 H locs eσ71 hP hS => ?_)
              refine lv_aload_n hx hb dX12_bestFrom_178 rfl (lv_at hl 6 rfl) ?_
              refine va_get (D := D) hx hb hts inlX12 hown hK hP 55 (jc_55 cI cL ad σ71 τ) rfl 41 (by decide) (hts _ kw_8_2) (fun _ h9 => h9) rfl dX12_bestFrom_179 ?_
              refine lv_iload_n hx hb dX12_bestFrom_182 rfl (lv_at hl 0 rfl) ?_
              refine lv_iload hx hb dX12_bestFrom_183 (lv_at hl 3 rfl) ?_
              refine jast hx hb hK hP hJ hA hS (jc_77 cI cL ad σ71 τ) (ja_77 cI cL ad σ71 τ _ _) (jin rfl (by omega) (by omega)) dX12_bestFrom_185 (fun σ72 H locs eσ72 hP hS => ?_)
              have e73 : σ72 75 = jupd (σ43 75) r58.toNatClampNeg x26 := by rw [eσ72, jup_n (by decide), eσ71, jup_n (by decide), eσ70, jup_row, eσ69, jup_n (by decide), eσ68, jup_n (by decide)]
              have e74 : σ72 76 = jupd (σ43 76) r58.toNatClampNeg x40 := by rw [eσ72, jup_n (by decide), eσ71, jup_row, eσ70, jup_n (by decide), eσ69, jup_n (by decide), eσ68, jup_n (by decide)]
              have e75 : σ72 77 = jupd (σ43 77) r58.toNatClampNeg x39 := by rw [eσ72, jup_row, eσ71, jup_n (by decide), eσ70, jup_n (by decide), eσ69, jup_n (by decide), eσ68, jup_n (by decide)]
              have z76 : (σ72 55 26).toInt = (σ 55 26).toInt := (congrArg Int32.toInt (show σ72 55 26 = (σ 55 26) from ((congrFun (jnp 55 eσ72 (by decide)) 26).trans ((congrFun (jnp 55 eσ71 (by decide)) 26).trans ((congrFun (jnp 55 eσ70 (by decide)) 26).trans ((congrFun (jnp 55 eσ69 (by decide)) 26).trans ((congrFun (jnp 55 eσ68 (by decide)) 26).trans (f52 26 (by decide)))))))))
              have p77 : jKept σ72 := p53.on e73 e74 e75 (by have h91 := tx26; omega) (by have h91 := tx26; omega) (by have h91 := tx26; omega) (by have h91 := tx26; omega)
              refine lv_aload_n hx hb dX12_bestFrom_186 rfl (lv_at hl 6 rfl) ?_
              refine lv_iload hx hb dX12_bestFrom_187 (lv_at hl 3 rfl) ?_
              refine jput (ty := .int) hx hb hts inlX12 tyX12 tyX12_ok nmX12 hown hK hP hJ hA hS (jc_55 cI cL ad σ72 τ) rfl (k := 37) (by decide) (Nat.le_of_ble_eq_true rfl) (jp_55_37 cI cL ad σ72 τ x39) (hts _ kw_33_15) (fun _ h9 => h9) rfl (by decide +kernel) rfl rfl dX12_bestFrom_189 (fun σ78 H locs eσ78 hP hS => ?_)
              refine lv_iload hx hb dX12_bestFrom_192 (lv_at hl 2 rfl) ?_
              have p79 : jKept σ78 := jKept.fr (jnp 75 eσ78 (by decide)) (jnp 76 eσ78 (by decide)) (jnp 77 eσ78 (by decide)) p77
              have p80 : jTR σ78 := jTR.fr ((jnp 64 eσ78 (by decide)).trans ((jnp 64 eσ72 (by decide)).trans ((jnp 64 eσ71 (by decide)).trans ((jnp 64 eσ70 (by decide)).trans ((jnp 64 eσ69 (by decide)).trans ((jnp 64 eσ68 (by decide)).trans (f51 64 (by decide)))))))) ((jnp 65 eσ78 (by decide)).trans ((jnp 65 eσ72 (by decide)).trans ((jnp 65 eσ71 (by decide)).trans ((jnp 65 eσ70 (by decide)).trans ((jnp 65 eσ69 (by decide)).trans ((jnp 65 eσ68 (by decide)).trans (f51 65 (by decide)))))))) hs_jTR
              have z81 : (σ78 55 37).toInt = x39.toInt := (congrArg Int32.toInt (show σ78 55 37 = x39 from (jsp eσ78)))
              exact hret x40 σ78 τ _ _ _ _ rfl ⟨rfl, (fun i hi => ((jnp i eσ78 (imp_206 i hi)).trans ((jnp i eσ72 (imp_208 i hi)).trans ((jnp i eσ71 (imp_209 i hi)).trans ((jnp i eσ70 (imp_210 i hi)).trans ((jnp i eσ69 (imp_211 i hi)).trans ((jnp i eσ68 (imp_212 i hi)).trans (f51 i hi)))))))), (fun i hi => ((jkp i eσ78 (imp_207 i hi)).trans ((congrFun (jnp 55 eσ72 (by decide)) i).trans ((congrFun (jnp 55 eσ71 (by decide)) i).trans ((congrFun (jnp 55 eσ70 (by decide)) i).trans ((congrFun (jnp 55 eσ69 (by decide)) i).trans ((congrFun (jnp 55 eσ68 (by decide)) i).trans (f52 i hi)))))))), p79, p80, (by omega), ⟨trivial, (by omega)⟩⟩ hP hS dX12_bestFrom_194
            · obtain ⟨q83, k82⟩ := h60
              have q83 := q83.symm
              subst q83
              refine lv_istore_n (lv' := [(3, .int (-1)), (6, .int x41), (5, .int x40), (4, .int x39), (2, .int x26), (1, .int r22), (0, .ref (ad 55))]) hx hb dX12_bestFrom_141 rfl hl (by decide) rfl (fun ls hl => ?_)
              refine lv_iload_n hx hb dX12_bestFrom_142 rfl (lv_at hl 0 rfl) ?_
              refine lv_if_lt (tgt := 186) hx hb dX12_bestFrom_143 (by decide) (fun _ => ?_) (fun c => absurd (by decide) c)
              refine lv_aload_n hx hb dX12_bestFrom_186 rfl (lv_at hl 6 rfl) ?_
              refine lv_iload hx hb dX12_bestFrom_187 (lv_at hl 3 rfl) ?_
              refine jput (ty := .int) hx hb hts inlX12 tyX12 tyX12_ok nmX12 hown hK hP hJ hA hS (jc_55 cI cL ad σ43 τ) rfl (k := 37) (by decide) (Nat.le_of_ble_eq_true rfl) (jp_55_37 cI cL ad σ43 τ x39) (hts _ kw_33_15) (fun _ h9 => h9) rfl (by decide +kernel) rfl rfl dX12_bestFrom_189 (fun σ84 H locs eσ84 hP hS => ?_)
              refine lv_iload hx hb dX12_bestFrom_192 (lv_at hl 2 rfl) ?_
              have p85 : jKept σ84 := jKept.fr (jnp 75 eσ84 (by decide)) (jnp 76 eσ84 (by decide)) (jnp 77 eσ84 (by decide)) p53
              have p86 : jTR σ84 := jTR.fr ((jnp 64 eσ84 (by decide)).trans (f51 64 (by decide))) ((jnp 65 eσ84 (by decide)).trans (f51 65 (by decide))) hs_jTR
              have z87 : (σ84 55 37).toInt = x39.toInt := (congrArg Int32.toInt (show σ84 55 37 = x39 from (jsp eσ84)))
              exact hret x40 σ84 τ _ _ _ _ rfl ⟨rfl, (fun i hi => ((jnp i eσ84 (imp_206 i hi)).trans (f51 i hi))), (fun i hi => ((jkp i eσ84 (imp_207 i hi)).trans (f52 i hi))), p85, p86, (by omega), ⟨trivial, (by omega)⟩⟩ hP hS dX12_bestFrom_194
          · have kc56 := jnle c56 rfl rfl
            refine lv_aload_n hx hb dX12_bestFrom_94 rfl (lv_at hl 6 rfl) ?_
            refine lv_iload hx hb dX12_bestFrom_95 (lv_at hl 0 rfl) ?_
            refine jcallV (As := [.int x41]) (rest := []) ⟨hx, hb, hml, hown, hts⟩ hK hP hA hS hZ (c_X12_mayBowl l D cI cL ad zz hJ σ43 τ x41 (x41.toInt) rfl (by omega)) cw_RX12_249 (jc_55 cI cL ad σ43 τ) rfl ⟨by dsimp only; omega, by dsimp only; omega⟩ rfl rfl rfl hl.1 rfl (Nat.le_of_ble_eq_true rfl) dX12_bestFrom_97 ⟨Nat.zero_le _, Nat.zero_le _⟩ (fun r89 σ88 τ88 H locs h88 hP hS => ?_)
            obtain ⟨⟨rfl, rfl⟩, h88⟩ := h88
            rcases h88 with h90 | h91
            · obtain ⟨q93, k92⟩ := h90
              have q93 := q93.symm
              subst q93
              refine lv_if_ne (tgt := 106) hx hb dX12_bestFrom_100 (by decide) (fun _ => ?_) (fun c => absurd c (by decide))
              refine lv_aload_n hx hb dX12_bestFrom_106 rfl (lv_at hl 6 rfl) ?_
              refine lv_iload hx hb dX12_bestFrom_107 (lv_at hl 0 rfl) ?_
              have I94 : jI101 σ43 := jI101_fr (f52 4 (by decide)) (f52 5 (by decide)) (f51 56 (by decide)) (f51 57 (by decide)) (f51 58 (by decide)) (f51 59 (by decide)) hI101
              have I95 : jI102 σ43 := jI102_fr (f52 6 (by decide)) (f51 60 (by decide)) (f51 61 (by decide)) hI102
              have I96 : jI103 σ43 := jI103_fr (f52 9 (by decide)) hI103
              have I97 : jI104 σ43 := jI104_fr (f52 10 (by decide)) (f52 12 (by decide)) (f52 13 (by decide)) (f51 62 (by decide)) (f51 67 (by decide)) hI104
              have I98 : jI105 σ43 := jI105_fr (f52 15 (by decide)) (f51 65 (by decide)) hI105
              have I99 : jI106 σ43 := jI106_fr (f52 32 (by decide)) (f51 70 (by decide)) (f51 71 (by decide)) (f51 72 (by decide)) hI106
              have I100 : jI120 σ43 := jI120_fr (f52 10 (by decide)) (f52 12 (by decide)) (f52 25 (by decide)) (f52 26 (by decide)) (f52 27 (by decide)) (f51 68 (by decide)) hI120
              have p101 : jTR σ43 := jTR.fr (f51 64 (by decide)) (f51 65 (by decide)) hs_jTR
              have z102 : (σ43 55 25).toInt = (σ 55 25).toInt := (congrArg Int32.toInt (show σ43 55 25 = (σ 55 25) from (f52 25 (by decide))))
              have z103 : (σ43 55 10).toInt = (σ 55 10).toInt := (congrArg Int32.toInt (show σ43 55 10 = (σ 55 10) from (f52 10 (by decide))))
              have z104 : (σ43 55 12).toInt = (σ 55 12).toInt := (congrArg Int32.toInt (show σ43 55 12 = (σ 55 12) from (f52 12 (by decide))))
              refine jcallV (As := [.int x41]) (rest := []) ⟨hx, hb, hml, hown, hts⟩ hK hP hA hS hZ (h_mean σ43 τ x41 (x41.toInt) rfl I94 I95 I96 I97 I98 I99 I100 p53 p101 (by omega) (by omega) (by omega) (by omega)) cw_RX12_318 (jc_55 cI cL ad σ43 τ) rfl ⟨by dsimp only; omega, by dsimp only; omega⟩ rfl rfl rfl hl.1 rfl (Nat.le_of_ble_eq_true rfl) dX12_bestFrom_109 ⟨Nat.zero_le _, Nat.zero_le _⟩ (fun r106 σ105 τ105 H locs h105 hP hS => ?_)
              obtain ⟨rfl, f107, f108, p109, p110, h105⟩ := h105
              have h112 := h105
              obtain ⟨q114, k113⟩ := h112
              refine lv_istore (lv' := [(7, .int r106), (6, .int x41), (5, .int x40), (4, .int x39), (3, .int r28), (2, .int x26), (1, .int r22), (0, .ref (ad 55))]) hx hb dX12_bestFrom_112 hl (by decide) rfl (fun ls hl => ?_)
              refine lv_iload hx hb dX12_bestFrom_114 (lv_at hl 0 rfl) ?_
              refine lv_iload hx hb dX12_bestFrom_116 (lv_at hl 2 rfl) ?_
              refine lv_icmp_ge (tgt := 129) hx hb dX12_bestFrom_118 (by decide) (fun c115 => ?_) (fun c115 => ?_)
              · have kc115 := jle c115 rfl rfl
                obtain ⟨x116, ex116⟩ : ∃ y : Int32, y = x41 + 1 := ⟨_, rfl⟩
                have tx116 : x116.toInt = x41.toInt + 1 := (jadd ex116 rfl jz_1 (by omega) (by omega)).trans (by omega)
                refine lv_iinc (v := x116) (lv' := [(6, .int x116), (7, .int r106), (5, .int x40), (4, .int x39), (3, .int r28), (2, .int x26), (1, .int r22), (0, .ref (ad 55))]) hx hb dX12_bestFrom_129 hl (k := 1) rfl (by rw [ex116]; rfl) (by decide) rfl (fun ls hl => ?_)
                refine lv_goto (tgt := 85) hx hb dX12_bestFrom_132 (by decide) ?_
                have z117 : (σ105 55 26).toInt = (σ 55 26).toInt := (congrArg Int32.toInt (show σ105 55 26 = (σ 55 26) from ((f108 26 (by decide)).trans (f52 26 (by decide)))))
                exact ihlp37 x39 x40 x116 σ105 _ _ ls (by have h92 := tx116; omega) (by have h92 := tx116; omega) (by have h92 := tx116; omega) (by have h92 := tx116; omega) (by have h92 := tx116; omega) (by have h92 := tx116; omega) (fun i hi => ((f107 i hi).trans (f51 i hi))) (fun i hi => ((f108 i hi).trans (f52 i hi)))  p109 hP hS (lv_sub hl [0, 2, 3, 4, 5, 6, 7] rfl)
              · have kc115 := jnle c115 rfl rfl
                refine lv_iload hx hb dX12_bestFrom_121 (lv_at hl 0 rfl) ?_
                refine lv_istore (lv' := [(5, .int r106), (7, .int r106), (6, .int x41), (4, .int x39), (3, .int r28), (2, .int x26), (1, .int r22), (0, .ref (ad 55))]) hx hb dX12_bestFrom_123 hl (by decide) rfl (fun ls hl => ?_)
                refine lv_iload hx hb dX12_bestFrom_125 (lv_at hl 2 rfl) ?_
                refine lv_istore (lv' := [(4, .int x41), (5, .int r106), (7, .int r106), (6, .int x41), (3, .int r28), (2, .int x26), (1, .int r22), (0, .ref (ad 55))]) hx hb dX12_bestFrom_127 hl (by decide) rfl (fun ls hl => ?_)
                obtain ⟨x118, ex118⟩ : ∃ y : Int32, y = x41 + 1 := ⟨_, rfl⟩
                have tx118 : x118.toInt = x41.toInt + 1 := (jadd ex118 rfl jz_1 (by omega) (by omega)).trans (by omega)
                refine lv_iinc (v := x118) (lv' := [(6, .int x118), (4, .int x41), (5, .int r106), (7, .int r106), (3, .int r28), (2, .int x26), (1, .int r22), (0, .ref (ad 55))]) hx hb dX12_bestFrom_129 hl (k := 3) rfl (by rw [ex118]; rfl) (by decide) rfl (fun ls hl => ?_)
                refine lv_goto (tgt := 85) hx hb dX12_bestFrom_132 (by decide) ?_
                have z119 : (σ105 55 26).toInt = (σ 55 26).toInt := (congrArg Int32.toInt (show σ105 55 26 = (σ 55 26) from ((f108 26 (by decide)).trans (f52 26 (by decide)))))
                exact ihlp37 x41 r106 x118 σ105 _ _ ls (by have h92 := tx118; omega) (by have h92 := tx118; omega) (by have h92 := tx118; omega) (by have h92 := tx118; omega) (by have h92 := tx118; omega) (by have h92 := tx118; omega) (fun i hi => ((f107 i hi).trans (f51 i hi))) (fun i hi => ((f108 i hi).trans (f52 i hi)))  p109 hP hS (lv_sub hl [0, 2, 1, 4, 5, 6, 7] rfl)
            · obtain ⟨q121, k120⟩ := h91
              have q121 := q121.symm
              subst q121
              have e122 : jmb σ43 x41 = jmb σ x41 := (jmb_fr (f52 27 (by decide)) (f52 30 (by decide)) (f52 31 (by decide)) (f51 56 (by decide)) (f51 69 (by decide)) x41)
              have n123 : ¬ x41 = B0 := fun h => absurd ((hB0).symm.trans (by rw [← h]; exact e122.symm.trans k120) : (1 : Int32) = 0) (by decide)
              have k124 := jne n123 rfl rfl
              refine lv_if_ne (tgt := 106) hx hb dX12_bestFrom_100 (by decide) (fun c => absurd (by decide) c) (fun _ => ?_)
              refine lv_goto (tgt := 129) hx hb dX12_bestFrom_103 (by decide) ?_
              obtain ⟨x125, ex125⟩ : ∃ y : Int32, y = x41 + 1 := ⟨_, rfl⟩
              have tx125 : x125.toInt = x41.toInt + 1 := (jadd ex125 rfl jz_1 (by omega) (by omega)).trans (by omega)
              refine lv_iinc (v := x125) (lv' := [(6, .int x125), (5, .int x40), (4, .int x39), (3, .int r28), (2, .int x26), (1, .int r22), (0, .ref (ad 55))]) hx hb dX12_bestFrom_129 hl (k := 0) rfl (by rw [ex125]; rfl) (by decide) rfl (fun ls hl => ?_)
              refine lv_goto (tgt := 85) hx hb dX12_bestFrom_132 (by decide) ?_
              exact ihlp37 x39 x40 x125 σ43 _ _ ls (by have h92 := tx125; omega) (by have h92 := tx125; omega) (by have h92 := tx125; omega) (by have h92 := tx125; omega) (by have h92 := tx125; omega) (by have h92 := tx125; omega) (fun i hi => (f51 i hi)) (fun i hi => (f52 i hi))  p53 hP hS (lv_sub hl [0, 1, 2, 3, 4, 5, 6] rfl)
      exact lp37 1000000 (-1) 2000000000 0 σ _ _ ls (by have h90 := jz_m1; have h91 := jz_2000000000; have h92 := jz_0; omega) (by have h90 := jz_m1; have h91 := jz_2000000000; have h92 := jz_0; omega) (by have h90 := jz_m1; have h91 := jz_2000000000; have h92 := jz_0; omega) (by have h90 := jz_m1; have h91 := jz_2000000000; have h92 := jz_0; omega) (by have h90 := jz_m1; have h91 := jz_2000000000; have h92 := jz_0; omega) (by have h90 := jz_m1; have h91 := jz_2000000000; have h92 := jz_0; omega) (fun _ _ => rfl) (fun _ _ => rfl)  hs_jKept hP hS hl
    · have kc36 := jeq c36 rfl rfl
      have g126 := hs_jKept r28.toNatClampNeg (jnat (x := r28) rfl (n := 65536) (by omega) (by decide))
      refine lv_aload_n hx hb dX12_bestFrom_57 rfl (lv_at hl 3 rfl) ?_
      refine lv_aload_n hx hb dX12_bestFrom_58 rfl (lv_at hl 3 rfl) ?_
      refine va_get (D := D) hx hb hts inlX12 hown hK hP 55 (jc_55 cI cL ad σ τ) rfl 41 (by decide) (hts _ kw_8_2) (fun _ h9 => h9) rfl dX12_bestFrom_59 ?_
      refine lv_iload_n hx hb dX12_bestFrom_62 rfl (lv_at hl 0 rfl) ?_
      refine jald hx hb hK hP (jc_77 cI cL ad σ τ) (jin rfl (by omega) (by omega)) dX12_bestFrom_63 ?_
      refine jtopr (y := (σ 77 r28.toNatClampNeg)) rfl ?_
      refine jput (ty := .int) hx hb hts inlX12 tyX12 tyX12_ok nmX12 hown hK hP hJ hA hS (jc_55 cI cL ad σ τ) rfl (k := 37) (by decide) (Nat.le_of_ble_eq_true rfl) (jp_55_37 cI cL ad σ τ (σ 77 r28.toNatClampNeg)) (hts _ kw_33_15) (fun _ h9 => h9) rfl (by decide +kernel) rfl rfl dX12_bestFrom_64 (fun σ127 H locs eσ127 hP hS => ?_)
      refine lv_aload_n hx hb dX12_bestFrom_67 rfl (lv_at hl 3 rfl) ?_
      refine va_get (D := D) hx hb hts inlX12 hown hK hP 55 (jc_55 cI cL ad σ127 τ) rfl 40 (by decide) (hts _ kw_8_1) (fun _ h9 => h9) rfl dX12_bestFrom_68 ?_
      refine lv_iload_n hx hb dX12_bestFrom_71 rfl (lv_at hl 0 rfl) ?_
      refine jald hx hb hK hP (jc_76 cI cL ad σ127 τ) (jin rfl (by omega) (by omega)) dX12_bestFrom_72 ?_
      refine jtopr (y := (σ 76 r28.toNatClampNeg)) (by rw [jnp 76 eσ127 (by decide)]) ?_
      have p128 : jKept σ127 := jKept.fr (jnp 75 eσ127 (by decide)) (jnp 76 eσ127 (by decide)) (jnp 77 eσ127 (by decide)) hs_jKept
      have p129 : jTR σ127 := jTR.fr (jnp 64 eσ127 (by decide)) (jnp 65 eσ127 (by decide)) hs_jTR
      have z130 : (σ127 55 37).toInt = (σ 77 r28.toNatClampNeg).toInt := (congrArg Int32.toInt (show σ127 55 37 = (σ 77 r28.toNatClampNeg) from (jsp eσ127)))
      exact hret (σ 76 r28.toNatClampNeg) σ127 τ _ _ _ _ rfl ⟨rfl, (fun i hi => (jnp i eσ127 (imp_206 i hi))), (fun i hi => (jkp i eσ127 (imp_207 i hi))), p128, p129, (by omega), ⟨trivial, (by omega)⟩⟩ hP hS dX12_bestFrom_73
  · obtain ⟨q132, k131⟩ := h30
    have q132 := q132.symm
    subst q132
    refine lv_istore_n (lv' := [(3, .int (-1)), (2, .int x26), (1, .int r22), (0, .ref (ad 55))]) hx hb dX12_bestFrom_39 rfl hl (by decide) rfl (fun ls hl => ?_)
    refine lv_iload_n hx hb dX12_bestFrom_40 rfl (lv_at hl 0 rfl) ?_
    refine lv_if_lt (tgt := 74) hx hb dX12_bestFrom_41 (by decide) (fun _ => ?_) (fun c => absurd (by decide) c)
    refine lv_iconst (v := (-1)) hx hb dX12_bestFrom_74 (by decide) ?_
    refine lv_istore (lv' := [(4, .int (-1)), (3, .int (-1)), (2, .int x26), (1, .int r22), (0, .ref (ad 55))]) hx hb dX12_bestFrom_75 hl (by decide) rfl (fun ls hl => ?_)
    refine lv_ldcw (v := 2000000000) hx hb hown (hts _ kw_34_4) dX12_bestFrom_77 ?_
    refine lv_istore (lv' := [(5, .int 2000000000), (4, .int (-1)), (3, .int (-1)), (2, .int x26), (1, .int r22), (0, .ref (ad 55))]) hx hb dX12_bestFrom_80 hl (by decide) rfl (fun ls hl => ?_)
    refine lv_iconst (v := 0) hx hb dX12_bestFrom_82 (by decide) ?_
    refine lv_istore (lv' := [(6, .int 0), (5, .int 2000000000), (4, .int (-1)), (3, .int (-1)), (2, .int x26), (1, .int r22), (0, .ref (ad 55))]) hx hb dX12_bestFrom_83 hl (by decide) rfl (fun ls hl => ?_)
    have lp133 : ∀ (n134 : Nat) (x135 : Int32) (x136 : Int32) (x137 : Int32) (σ139 : Nat → Nat → Int32) (H : Heap) (locs : List Loc) (ls : Array Slot), (-x137.toInt + 4 : Int) < n134 → (-1) ≤ x135.toInt → x135.toInt ≤ 3 → 0 ≤ x137.toInt → x137.toInt ≤ 4 → ((0 ≤ x135.toInt ∧ 0 ≤ x136.toInt ∧ x136.toInt ≤ -(1023000 * (σ139 55 26).toInt) + 12276000) ∨ (x135.toInt = (-1) ∧ x136.toInt = 2000000000 ∧ x137.toInt ≤ B0.toInt)) → (∀ i : Nat, (i < 55 ∨ 55 < i) ∧ (i < 66 ∨ 66 < i) ∧ (i < 74 ∨ 78 < i) → σ139 i = σ i) → (∀ k : Nat, (k < 18 ∨ 18 < k) ∧ (k < 19 ∨ 19 < k) ∧ (k < 20 ∨ 20 < k) ∧ (k < 21 ∨ 21 < k) ∧ (k < 22 ∨ 22 < k) ∧ (k < 37 ∨ 37 < k) → σ139 55 k = σ 55 k) → jKept σ139 → jH D cI cL ad σ139 τ H → va_S (jA ad) s.heap H locs → lv_has ls 8 [(6, .int x137), (5, .int x136), (4, .int x135), (3, .int (-1)), (2, .int x26), (1, .int r22), (0, .ref (ad 55))] → W p l e ({ frames := (70 + 4 * (n)), cells := 0, slots := 0, locals := (3114 + 240 * (n)) }) s m args below meth c H locs 0 0 Q (F0 m 85 ls []) := by
      intro n134
      induction n134 with
      | zero => intro x135 x136 x137 σ139 H locs ls h141 h142 h143 h144 h145 h146; have gx136 := jrg (rfl : x136.toInt = x136.toInt); exact absurd h141 (by omega)
      | succ n134 ihlp133 =>
        intro x135 x136 x137 σ139 H locs ls h141 h142 h143 h144 h145 h146 f147 f148 p149 hP hS hl
        have gx136 := jrg (rfl : x136.toInt = x136.toInt)
        have z150 : (σ139 55 26).toInt = (σ 55 26).toInt := (congrArg Int32.toInt (show σ139 55 26 = (σ 55 26) from (f148 26 (by decide))))
        refine lv_iload hx hb dX12_bestFrom_85 (lv_at hl 0 rfl) ?_
        refine lv_aload_n hx hb dX12_bestFrom_87 rfl (lv_at hl 6 rfl) ?_
        refine va_get (D := D) hx hb hts inlX12 hown hK hP 55 (jc_55 cI cL ad σ139 τ) rfl 6 (by decide) (hts _ kw_9_13) (fun _ h9 => h9) rfl dX12_bestFrom_88 ?_
        have m151 : σ139 55 6 = (σ 55 6) := (f148 6 (by decide))
        refine jtopr m151 ?_
        refine lv_icmp_ge (tgt := 135) hx hb dX12_bestFrom_91 (by decide) (fun c152 => ?_) (fun c152 => ?_)
        · have kc152 := jle c152 rfl rfl
          refine lv_aload_n hx hb dX12_bestFrom_135 rfl (lv_at hl 6 rfl) ?_
          refine lv_iload_n hx hb dX12_bestFrom_136 rfl (lv_at hl 5 rfl) ?_
          refine lv_iload_n hx hb dX12_bestFrom_137 rfl (lv_at hl 4 rfl) ?_
          refine jcallV (As := [.int r22, .int x26]) (rest := []) ⟨hx, hb, hml, hown, hts⟩ hK hP hA hS hZ (c_X12_spot l D cI cL ad zz hJ σ139 τ r22 (r22.toInt) rfl x26 (16 * (σ 55 26).toInt + (σ 55 25).toInt) tx26) cw_RX12_314 (jc_55 cI cL ad σ139 τ) rfl ⟨by dsimp only; omega, by dsimp only; omega⟩ rfl rfl rfl hl.1 rfl (Nat.le_of_ble_eq_true rfl) dX12_bestFrom_138 ⟨Nat.zero_le _, Nat.zero_le _⟩ (fun r154 σ153 τ153 H locs h153 hP hS => ?_)
          obtain ⟨⟨rfl, rfl⟩, h153⟩ := h153
          rcases h153 with h155 | h156
          · obtain ⟨q159, k157, k158⟩ := h155
            have z161 : (σ139 55 42).toInt = (σ 55 42).toInt := (congrArg Int32.toInt (show σ139 55 42 = (σ 55 42) from (f148 42 (by decide))))
            have k160 : (σ139 78 r154.toNatClampNeg).toInt ≠ (σ139 55 42).toInt ∨ (σ139 75 r154.toNatClampNeg).toInt = 16 * (σ 55 26).toInt + (σ 55 25).toInt := k158.imp (fun q => jne q rfl rfl) (fun q => jeq q rfl tx26)
            refine lv_istore_n (lv' := [(3, .int r154), (6, .int x137), (5, .int x136), (4, .int x135), (2, .int x26), (1, .int r22), (0, .ref (ad 55))]) hx hb dX12_bestFrom_141 rfl hl (by decide) rfl (fun ls hl => ?_)
            refine lv_iload_n hx hb dX12_bestFrom_142 rfl (lv_at hl 0 rfl) ?_
            refine lv_if_lt (tgt := 186) hx hb dX12_bestFrom_143 (by decide) (fun c => absurd (jlt c rfl jz_0) (by omega)) (fun c162 => ?_)
            have kc162 := jnlt c162 rfl jz_0
            refine lv_aload_n hx hb dX12_bestFrom_146 rfl (lv_at hl 6 rfl) ?_
            refine va_get (D := D) hx hb hts inlX12 hown hK hP 55 (jc_55 cI cL ad σ139 τ) rfl 43 (by decide) (hts _ kw_8_3) (fun _ h9 => h9) rfl dX12_bestFrom_147 ?_
            refine lv_iload_n hx hb dX12_bestFrom_150 rfl (lv_at hl 0 rfl) ?_
            refine lv_aload_n hx hb dX12_bestFrom_151 rfl (lv_at hl 6 rfl) ?_
            refine va_get (D := D) hx hb hts inlX12 hown hK hP 55 (jc_55 cI cL ad σ139 τ) rfl 42 (by decide) (hts _ kw_33_10) (fun _ h9 => h9) rfl dX12_bestFrom_152 ?_
            have m163 : σ139 55 42 = (σ 55 42) := (f148 42 (by decide))
            refine jtopr m163 ?_
            refine jast hx hb hK hP hJ hA hS (jc_78 cI cL ad σ139 τ) (ja_78 cI cL ad σ139 τ _ _) (jin rfl (by omega) (by omega)) dX12_bestFrom_155 (fun σ164 H locs eσ164 hP hS => ?_)
            refine lv_aload_n hx hb dX12_bestFrom_156 rfl (lv_at hl 6 rfl) ?_
            refine va_get (D := D) hx hb hts inlX12 hown hK hP 55 (jc_55 cI cL ad σ164 τ) rfl 38 (by decide) (hts _ kw_7_23) (fun _ h9 => h9) rfl dX12_bestFrom_157 ?_
            refine lv_iload_n hx hb dX12_bestFrom_160 rfl (lv_at hl 0 rfl) ?_
            refine lv_iload_n hx hb dX12_bestFrom_161 rfl (lv_at hl 5 rfl) ?_
            refine jast hx hb hK hP hJ hA hS (jc_74 cI cL ad σ164 τ) (ja_74 cI cL ad σ164 τ _ _) (jin rfl (by omega) (by omega)) dX12_bestFrom_162 (fun σ165 H locs eσ165 hP hS => ?_)
            refine lv_aload_n hx hb dX12_bestFrom_163 rfl (lv_at hl 6 rfl) ?_
            refine va_get (D := D) hx hb hts inlX12 hown hK hP 55 (jc_55 cI cL ad σ165 τ) rfl 39 (by decide) (hts _ kw_8_0) (fun _ h9 => h9) rfl dX12_bestFrom_164 ?_
            refine lv_iload_n hx hb dX12_bestFrom_167 rfl (lv_at hl 0 rfl) ?_
            refine lv_iload_n hx hb dX12_bestFrom_168 rfl (lv_at hl 4 rfl) ?_
            refine jast hx hb hK hP hJ hA hS (jc_75 cI cL ad σ165 τ) (ja_75 cI cL ad σ165 τ _ _) (jin rfl (by omega) (by omega)) dX12_bestFrom_169 (fun σ166 H locs eσ166 hP hS => ?_)
            refine lv_aload_n hx hb dX12_bestFrom_170 rfl (lv_at hl 6 rfl) ?_
            refine va_get (D := D) hx hb hts inlX12 hown hK hP 55 (jc_55 cI cL ad σ166 τ) rfl 40 (by decide) (hts _ kw_8_1) (fun _ h9 => h9) rfl dX12_bestFrom_171 ?_
            refine lv_iload_n hx hb dX12_bestFrom_174 rfl (lv_at hl 0 rfl) ?_
            refine lv_iload hx hb dX12_bestFrom_175 (lv_at hl 2 rfl) ?_
            refine jast hx hb hK hP hJ hA hS (jc_76 cI cL ad σ166 τ) (ja_76 cI cL ad σ166 τ _ _) (jin rfl (by omega) (by omega)) dX12_bestFrom_177 (fun σ167 H locs eσ167 hP hS => ?_)
            refine lv_aload_n hx hb dX12_bestFrom_178 rfl (lv_at hl 6 rfl) ?_
            refine va_get (D := D) hx hb hts inlX12 hown hK hP 55 (jc_55 cI cL ad σ167 τ) rfl 41 (by decide) (hts _ kw_8_2) (fun _ h9 => h9) rfl dX12_bestFrom_179 ?_
            refine lv_iload_n hx hb dX12_bestFrom_182 rfl (lv_at hl 0 rfl) ?_
            refine lv_iload hx hb dX12_bestFrom_183 (lv_at hl 3 rfl) ?_
            refine jast hx hb hK hP hJ hA hS (jc_77 cI cL ad σ167 τ) (ja_77 cI cL ad σ167 τ _ _) (jin rfl (by omega) (by omega)) dX12_bestFrom_185 (fun σ168 H locs eσ168 hP hS => ?_)
            have e169 : σ168 75 = jupd (σ139 75) r154.toNatClampNeg x26 := by rw [eσ168, jup_n (by decide), eσ167, jup_n (by decide), eσ166, jup_row, eσ165, jup_n (by decide), eσ164, jup_n (by decide)]
            have e170 : σ168 76 = jupd (σ139 76) r154.toNatClampNeg x136 := by rw [eσ168, jup_n (by decide), eσ167, jup_row, eσ166, jup_n (by decide), eσ165, jup_n (by decide), eσ164, jup_n (by decide)]
            have e171 : σ168 77 = jupd (σ139 77) r154.toNatClampNeg x135 := by rw [eσ168, jup_row, eσ167, jup_n (by decide), eσ166, jup_n (by decide), eσ165, jup_n (by decide), eσ164, jup_n (by decide)]
            have z172 : (σ168 55 26).toInt = (σ 55 26).toInt := (congrArg Int32.toInt (show σ168 55 26 = (σ 55 26) from ((congrFun (jnp 55 eσ168 (by decide)) 26).trans ((congrFun (jnp 55 eσ167 (by decide)) 26).trans ((congrFun (jnp 55 eσ166 (by decide)) 26).trans ((congrFun (jnp 55 eσ165 (by decide)) 26).trans ((congrFun (jnp 55 eσ164 (by decide)) 26).trans (f148 26 (by decide)))))))))
            have p173 : jKept σ168 := p149.on e169 e170 e171 (by have h91 := tx26; omega) (by have h91 := tx26; omega) (by have h91 := tx26; omega) (by have h91 := tx26; omega)
            refine lv_aload_n hx hb dX12_bestFrom_186 rfl (lv_at hl 6 rfl) ?_
            refine lv_iload hx hb dX12_bestFrom_187 (lv_at hl 3 rfl) ?_
            refine jput (ty := .int) hx hb hts inlX12 tyX12 tyX12_ok nmX12 hown hK hP hJ hA hS (jc_55 cI cL ad σ168 τ) rfl (k := 37) (by decide) (Nat.le_of_ble_eq_true rfl) (jp_55_37 cI cL ad σ168 τ x135) (hts _ kw_33_15) (fun _ h9 => h9) rfl (by decide +kernel) rfl rfl dX12_bestFrom_189 (fun σ174 H locs eσ174 hP hS => ?_)
            refine lv_iload hx hb dX12_bestFrom_192 (lv_at hl 2 rfl) ?_
            have p175 : jKept σ174 := jKept.fr (jnp 75 eσ174 (by decide)) (jnp 76 eσ174 (by decide)) (jnp 77 eσ174 (by decide)) p173
            have p176 : jTR σ174 := jTR.fr ((jnp 64 eσ174 (by decide)).trans ((jnp 64 eσ168 (by decide)).trans ((jnp 64 eσ167 (by decide)).trans ((jnp 64 eσ166 (by decide)).trans ((jnp 64 eσ165 (by decide)).trans ((jnp 64 eσ164 (by decide)).trans (f147 64 (by decide)))))))) ((jnp 65 eσ174 (by decide)).trans ((jnp 65 eσ168 (by decide)).trans ((jnp 65 eσ167 (by decide)).trans ((jnp 65 eσ166 (by decide)).trans ((jnp 65 eσ165 (by decide)).trans ((jnp 65 eσ164 (by decide)).trans (f147 65 (by decide)))))))) hs_jTR
            have z177 : (σ174 55 37).toInt = x135.toInt := (congrArg Int32.toInt (show σ174 55 37 = x135 from (jsp eσ174)))
            exact hret x136 σ174 τ _ _ _ _ rfl ⟨rfl, (fun i hi => ((jnp i eσ174 (imp_206 i hi)).trans ((jnp i eσ168 (imp_208 i hi)).trans ((jnp i eσ167 (imp_209 i hi)).trans ((jnp i eσ166 (imp_210 i hi)).trans ((jnp i eσ165 (imp_211 i hi)).trans ((jnp i eσ164 (imp_212 i hi)).trans (f147 i hi)))))))), (fun i hi => ((jkp i eσ174 (imp_207 i hi)).trans ((congrFun (jnp 55 eσ168 (by decide)) i).trans ((congrFun (jnp 55 eσ167 (by decide)) i).trans ((congrFun (jnp 55 eσ166 (by decide)) i).trans ((congrFun (jnp 55 eσ165 (by decide)) i).trans ((congrFun (jnp 55 eσ164 (by decide)) i).trans (f148 i hi)))))))), p175, p176, (by omega), ⟨trivial, (by omega)⟩⟩ hP hS dX12_bestFrom_194
          · obtain ⟨q179, k178⟩ := h156
            have q179 := q179.symm
            subst q179
            refine lv_istore_n (lv' := [(3, .int (-1)), (6, .int x137), (5, .int x136), (4, .int x135), (2, .int x26), (1, .int r22), (0, .ref (ad 55))]) hx hb dX12_bestFrom_141 rfl hl (by decide) rfl (fun ls hl => ?_)
            refine lv_iload_n hx hb dX12_bestFrom_142 rfl (lv_at hl 0 rfl) ?_
            refine lv_if_lt (tgt := 186) hx hb dX12_bestFrom_143 (by decide) (fun _ => ?_) (fun c => absurd (by decide) c)
            refine lv_aload_n hx hb dX12_bestFrom_186 rfl (lv_at hl 6 rfl) ?_
            refine lv_iload hx hb dX12_bestFrom_187 (lv_at hl 3 rfl) ?_
            refine jput (ty := .int) hx hb hts inlX12 tyX12 tyX12_ok nmX12 hown hK hP hJ hA hS (jc_55 cI cL ad σ139 τ) rfl (k := 37) (by decide) (Nat.le_of_ble_eq_true rfl) (jp_55_37 cI cL ad σ139 τ x135) (hts _ kw_33_15) (fun _ h9 => h9) rfl (by decide +kernel) rfl rfl dX12_bestFrom_189 (fun σ180 H locs eσ180 hP hS => ?_)
            refine lv_iload hx hb dX12_bestFrom_192 (lv_at hl 2 rfl) ?_
            have p181 : jKept σ180 := jKept.fr (jnp 75 eσ180 (by decide)) (jnp 76 eσ180 (by decide)) (jnp 77 eσ180 (by decide)) p149
            have p182 : jTR σ180 := jTR.fr ((jnp 64 eσ180 (by decide)).trans (f147 64 (by decide))) ((jnp 65 eσ180 (by decide)).trans (f147 65 (by decide))) hs_jTR
            have z183 : (σ180 55 37).toInt = x135.toInt := (congrArg Int32.toInt (show σ180 55 37 = x135 from (jsp eσ180)))
            exact hret x136 σ180 τ _ _ _ _ rfl ⟨rfl, (fun i hi => ((jnp i eσ180 (imp_206 i hi)).trans (f147 i hi))), (fun i hi => ((jkp i eσ180 (imp_207 i hi)).trans (f148 i hi))), p181, p182, (by omega), ⟨trivial, (by omega)⟩⟩ hP hS dX12_bestFrom_194
        · have kc152 := jnle c152 rfl rfl
          refine lv_aload_n hx hb dX12_bestFrom_94 rfl (lv_at hl 6 rfl) ?_
          refine lv_iload hx hb dX12_bestFrom_95 (lv_at hl 0 rfl) ?_
          refine jcallV (As := [.int x137]) (rest := []) ⟨hx, hb, hml, hown, hts⟩ hK hP hA hS hZ (c_X12_mayBowl l D cI cL ad zz hJ σ139 τ x137 (x137.toInt) rfl (by omega)) cw_RX12_249 (jc_55 cI cL ad σ139 τ) rfl ⟨by dsimp only; omega, by dsimp only; omega⟩ rfl rfl rfl hl.1 rfl (Nat.le_of_ble_eq_true rfl) dX12_bestFrom_97 ⟨Nat.zero_le _, Nat.zero_le _⟩ (fun r185 σ184 τ184 H locs h184 hP hS => ?_)
          obtain ⟨⟨rfl, rfl⟩, h184⟩ := h184
          rcases h184 with h186 | h187
          · obtain ⟨q189, k188⟩ := h186
            have q189 := q189.symm
            subst q189
            refine lv_if_ne (tgt := 106) hx hb dX12_bestFrom_100 (by decide) (fun _ => ?_) (fun c => absurd c (by decide))
            refine lv_aload_n hx hb dX12_bestFrom_106 rfl (lv_at hl 6 rfl) ?_
            refine lv_iload hx hb dX12_bestFrom_107 (lv_at hl 0 rfl) ?_
            have I190 : jI101 σ139 := jI101_fr (f148 4 (by decide)) (f148 5 (by decide)) (f147 56 (by decide)) (f147 57 (by decide)) (f147 58 (by decide)) (f147 59 (by decide)) hI101
            have I191 : jI102 σ139 := jI102_fr (f148 6 (by decide)) (f147 60 (by decide)) (f147 61 (by decide)) hI102
            have I192 : jI103 σ139 := jI103_fr (f148 9 (by decide)) hI103
            have I193 : jI104 σ139 := jI104_fr (f148 10 (by decide)) (f148 12 (by decide)) (f148 13 (by decide)) (f147 62 (by decide)) (f147 67 (by decide)) hI104
            have I194 : jI105 σ139 := jI105_fr (f148 15 (by decide)) (f147 65 (by decide)) hI105
            have I195 : jI106 σ139 := jI106_fr (f148 32 (by decide)) (f147 70 (by decide)) (f147 71 (by decide)) (f147 72 (by decide)) hI106
            have I196 : jI120 σ139 := jI120_fr (f148 10 (by decide)) (f148 12 (by decide)) (f148 25 (by decide)) (f148 26 (by decide)) (f148 27 (by decide)) (f147 68 (by decide)) hI120
            have p197 : jTR σ139 := jTR.fr (f147 64 (by decide)) (f147 65 (by decide)) hs_jTR
            have z198 : (σ139 55 25).toInt = (σ 55 25).toInt := (congrArg Int32.toInt (show σ139 55 25 = (σ 55 25) from (f148 25 (by decide))))
            have z199 : (σ139 55 10).toInt = (σ 55 10).toInt := (congrArg Int32.toInt (show σ139 55 10 = (σ 55 10) from (f148 10 (by decide))))
            have z200 : (σ139 55 12).toInt = (σ 55 12).toInt := (congrArg Int32.toInt (show σ139 55 12 = (σ 55 12) from (f148 12 (by decide))))
            refine jcallV (As := [.int x137]) (rest := []) ⟨hx, hb, hml, hown, hts⟩ hK hP hA hS hZ (h_mean σ139 τ x137 (x137.toInt) rfl I190 I191 I192 I193 I194 I195 I196 p149 p197 (by omega) (by omega) (by omega) (by omega)) cw_RX12_318 (jc_55 cI cL ad σ139 τ) rfl ⟨by dsimp only; omega, by dsimp only; omega⟩ rfl rfl rfl hl.1 rfl (Nat.le_of_ble_eq_true rfl) dX12_bestFrom_109 ⟨Nat.zero_le _, Nat.zero_le _⟩ (fun r202 σ201 τ201 H locs h201 hP hS => ?_)
            obtain ⟨rfl, f203, f204, p205, p206, h201⟩ := h201
            have h208 := h201
            obtain ⟨q210, k209⟩ := h208
            refine lv_istore (lv' := [(7, .int r202), (6, .int x137), (5, .int x136), (4, .int x135), (3, .int (-1)), (2, .int x26), (1, .int r22), (0, .ref (ad 55))]) hx hb dX12_bestFrom_112 hl (by decide) rfl (fun ls hl => ?_)
            refine lv_iload hx hb dX12_bestFrom_114 (lv_at hl 0 rfl) ?_
            refine lv_iload hx hb dX12_bestFrom_116 (lv_at hl 2 rfl) ?_
            refine lv_icmp_ge (tgt := 129) hx hb dX12_bestFrom_118 (by decide) (fun c211 => ?_) (fun c211 => ?_)
            · have kc211 := jle c211 rfl rfl
              obtain ⟨x212, ex212⟩ : ∃ y : Int32, y = x137 + 1 := ⟨_, rfl⟩
              have tx212 : x212.toInt = x137.toInt + 1 := (jadd ex212 rfl jz_1 (by omega) (by omega)).trans (by omega)
              refine lv_iinc (v := x212) (lv' := [(6, .int x212), (7, .int r202), (5, .int x136), (4, .int x135), (3, .int (-1)), (2, .int x26), (1, .int r22), (0, .ref (ad 55))]) hx hb dX12_bestFrom_129 hl (k := 1) rfl (by rw [ex212]; rfl) (by decide) rfl (fun ls hl => ?_)
              refine lv_goto (tgt := 85) hx hb dX12_bestFrom_132 (by decide) ?_
              have z213 : (σ201 55 26).toInt = (σ 55 26).toInt := (congrArg Int32.toInt (show σ201 55 26 = (σ 55 26) from ((f204 26 (by decide)).trans (f148 26 (by decide)))))
              exact ihlp133 x135 x136 x212 σ201 _ _ ls (by have h92 := tx212; omega) (by have h92 := tx212; omega) (by have h92 := tx212; omega) (by have h92 := tx212; omega) (by have h92 := tx212; omega) (by have h92 := tx212; omega) (fun i hi => ((f203 i hi).trans (f147 i hi))) (fun i hi => ((f204 i hi).trans (f148 i hi)))  p205 hP hS (lv_sub hl [0, 2, 3, 4, 5, 6, 7] rfl)
            · have kc211 := jnle c211 rfl rfl
              refine lv_iload hx hb dX12_bestFrom_121 (lv_at hl 0 rfl) ?_
              refine lv_istore (lv' := [(5, .int r202), (7, .int r202), (6, .int x137), (4, .int x135), (3, .int (-1)), (2, .int x26), (1, .int r22), (0, .ref (ad 55))]) hx hb dX12_bestFrom_123 hl (by decide) rfl (fun ls hl => ?_)
              refine lv_iload hx hb dX12_bestFrom_125 (lv_at hl 2 rfl) ?_
              refine lv_istore (lv' := [(4, .int x137), (5, .int r202), (7, .int r202), (6, .int x137), (3, .int (-1)), (2, .int x26), (1, .int r22), (0, .ref (ad 55))]) hx hb dX12_bestFrom_127 hl (by decide) rfl (fun ls hl => ?_)
              obtain ⟨x214, ex214⟩ : ∃ y : Int32, y = x137 + 1 := ⟨_, rfl⟩
              have tx214 : x214.toInt = x137.toInt + 1 := (jadd ex214 rfl jz_1 (by omega) (by omega)).trans (by omega)
              refine lv_iinc (v := x214) (lv' := [(6, .int x214), (4, .int x137), (5, .int r202), (7, .int r202), (3, .int (-1)), (2, .int x26), (1, .int r22), (0, .ref (ad 55))]) hx hb dX12_bestFrom_129 hl (k := 3) rfl (by rw [ex214]; rfl) (by decide) rfl (fun ls hl => ?_)
              refine lv_goto (tgt := 85) hx hb dX12_bestFrom_132 (by decide) ?_
              have z215 : (σ201 55 26).toInt = (σ 55 26).toInt := (congrArg Int32.toInt (show σ201 55 26 = (σ 55 26) from ((f204 26 (by decide)).trans (f148 26 (by decide)))))
              exact ihlp133 x137 r202 x214 σ201 _ _ ls (by have h92 := tx214; omega) (by have h92 := tx214; omega) (by have h92 := tx214; omega) (by have h92 := tx214; omega) (by have h92 := tx214; omega) (by have h92 := tx214; omega) (fun i hi => ((f203 i hi).trans (f147 i hi))) (fun i hi => ((f204 i hi).trans (f148 i hi)))  p205 hP hS (lv_sub hl [0, 2, 1, 4, 5, 6, 7] rfl)
          · obtain ⟨q217, k216⟩ := h187
            have q217 := q217.symm
            subst q217
            have e218 : jmb σ139 x137 = jmb σ x137 := (jmb_fr (f148 27 (by decide)) (f148 30 (by decide)) (f148 31 (by decide)) (f147 56 (by decide)) (f147 69 (by decide)) x137)
            have n219 : ¬ x137 = B0 := fun h => absurd ((hB0).symm.trans (by rw [← h]; exact e218.symm.trans k216) : (1 : Int32) = 0) (by decide)
            have k220 := jne n219 rfl rfl
            refine lv_if_ne (tgt := 106) hx hb dX12_bestFrom_100 (by decide) (fun c => absurd (by decide) c) (fun _ => ?_)
            refine lv_goto (tgt := 129) hx hb dX12_bestFrom_103 (by decide) ?_
            obtain ⟨x221, ex221⟩ : ∃ y : Int32, y = x137 + 1 := ⟨_, rfl⟩
            have tx221 : x221.toInt = x137.toInt + 1 := (jadd ex221 rfl jz_1 (by omega) (by omega)).trans (by omega)
            refine lv_iinc (v := x221) (lv' := [(6, .int x221), (5, .int x136), (4, .int x135), (3, .int (-1)), (2, .int x26), (1, .int r22), (0, .ref (ad 55))]) hx hb dX12_bestFrom_129 hl (k := 0) rfl (by rw [ex221]; rfl) (by decide) rfl (fun ls hl => ?_)
            refine lv_goto (tgt := 85) hx hb dX12_bestFrom_132 (by decide) ?_
            exact ihlp133 x135 x136 x221 σ139 _ _ ls (by have h92 := tx221; omega) (by have h92 := tx221; omega) (by have h92 := tx221; omega) (by have h92 := tx221; omega) (by have h92 := tx221; omega) (by have h92 := tx221; omega) (fun i hi => (f147 i hi)) (fun i hi => (f148 i hi))  p149 hP hS (lv_sub hl [0, 1, 2, 3, 4, 5, 6] rfl)
    exact lp133 1000000 (-1) 2000000000 0 σ _ _ ls (by have h90 := jz_m1; have h91 := jz_2000000000; have h92 := jz_0; omega) (by have h90 := jz_m1; have h91 := jz_2000000000; have h92 := jz_0; omega) (by have h90 := jz_m1; have h91 := jz_2000000000; have h92 := jz_0; omega) (by have h90 := jz_m1; have h91 := jz_2000000000; have h92 := jz_0; omega) (by have h90 := jz_m1; have h91 := jz_2000000000; have h92 := jz_0; omega) (by have h90 := jz_m1; have h91 := jz_2000000000; have h92 := jz_0; omega) (fun _ _ => rfl) (fun _ _ => rfl)  hs_jKept hP hS hl
set_option maxHeartbeats 4000000 in
set_option maxRecDepth 100000 in
theorem c_X12_bests (l : Launch) (D : va_G) (cI cL : ClassId) (ad zz : Nat → Nat) (hJ : jD ad) (n : Nat) : (∀ (σ : Nat → Nat → Int32) (τ : Nat → Nat → Int64) (a1 : Int32) (A1 : Int) (t1 : a1.toInt = A1) (hI101 : jI101 σ) (hI102 : jI102 σ) (hI103 : jI103 σ) (hI104 : jI104 σ) (hI105 : jI105 σ) (hI106 : jI106 σ) (hI120 : jI120 σ) (hs_jKept : jKept σ) (hs_jTR : jTR σ) (hp0 : 0 ≤ A1 ∧ A1 ≤ 3) (hp1 : (σ 55 25).toInt < (σ 55 10).toInt) (hp2 : (σ 55 26).toInt < (σ 55 12).toInt) (hp3 : (σ 55 12).toInt - (σ 55 26).toInt ≤ (((n) : Nat) : Int)), jM l yX12_meanWith cX12_meanWith 8 (some .int) ({ frames := (69 + 4 * (n)), cells := 0, slots := 0, locals := (3034 + 240 * (n)) }) D cI cL ad zz [.ref (ad 55), .int a1] σ τ (fun r σ' τ' => τ = τ' ∧ (∀ i : Nat, (i < 55 ∨ 55 < i) ∧ (i < 66 ∨ 66 < i) ∧ (i < 74 ∨ 78 < i) → σ' i = σ i) ∧ (∀ k : Nat, (k < 18 ∨ 18 < k) ∧ (k < 19 ∨ 19 < k) ∧ (k < 20 ∨ 20 < k) ∧ (k < 21 ∨ 21 < k) ∧ (k < 22 ∨ 22 < k) ∧ (k < 37 ∨ 37 < k) → σ' 55 k = σ 55 k) ∧ (jKept σ') ∧ (jTR σ') ∧ ((True ∧ (0 ≤ r.toInt ∧ r.toInt ≤ -(1023000 * (σ 55 26).toInt) + 12276000))))) ∧ (∀ (σ : Nat → Nat → Int32) (τ : Nat → Nat → Int64) (hI101 : jI101 σ) (hI102 : jI102 σ) (hI103 : jI103 σ) (hI104 : jI104 σ) (hI105 : jI105 σ) (hI106 : jI106 σ) (hI120 : jI120 σ) (hs_jKept : jKept σ) (hs_jTR : jTR σ) (hp0 : (σ 55 12).toInt - (σ 55 26).toInt ≤ (((n) : Nat) : Int)), jM l yX12_bestFrom cX12_bestFrom 8 (some .int) ({ frames := (70 + 4 * (n)), cells := 0, slots := 0, locals := (3114 + 240 * (n)) }) D cI cL ad zz [.ref (ad 55)] σ τ (fun r σ' τ' => τ = τ' ∧ (∀ i : Nat, (i < 55 ∨ 55 < i) ∧ (i < 66 ∨ 66 < i) ∧ (i < 74 ∨ 78 < i) → σ' i = σ i) ∧ (∀ k : Nat, (k < 18 ∨ 18 < k) ∧ (k < 19 ∨ 19 < k) ∧ (k < 20 ∨ 20 < k) ∧ (k < 21 ∨ 21 < k) ∧ (k < 22 ∨ 22 < k) ∧ (k < 37 ∨ 37 < k) → σ' 55 k = σ 55 k) ∧ (jKept σ') ∧ (jTR σ') ∧ ((-2) ≤ (σ' 55 37).toInt ∧ (σ' 55 37).toInt ≤ 3) ∧ ((True ∧ (0 ≤ r.toInt ∧ r.toInt ≤ -(1023000 * (σ 55 26).toInt) + 12276000))))) ∧ (∀ (σ : Nat → Nat → Int32) (τ : Nat → Nat → Int64) (B0 : Int32) (hB0 : jmb σ B0 = 1) (hI101 : jI101 σ) (hI102 : jI102 σ) (hI103 : jI103 σ) (hI104 : jI104 σ) (hI105 : jI105 σ) (hI106 : jI106 σ) (hI120 : jI120 σ) (hs_jKept : jKept σ) (hs_jTR : jTR σ) (hp0 : 0 ≤ B0.toInt ∧ B0.toInt < (σ 55 6).toInt) (hp1 : (σ 55 25).toInt < (σ 55 10).toInt) (hp2 : (σ 55 26).toInt < (σ 55 12).toInt) (hp3 : (σ 55 12).toInt - (σ 55 26).toInt ≤ (((n) : Nat) : Int)), jM l yX12_bestFrom cX12_bestFrom 8 (some .int) ({ frames := (70 + 4 * (n)), cells := 0, slots := 0, locals := (3114 + 240 * (n)) }) D cI cL ad zz [.ref (ad 55)] σ τ (fun r σ' τ' => τ = τ' ∧ (∀ i : Nat, (i < 55 ∨ 55 < i) ∧ (i < 66 ∨ 66 < i) ∧ (i < 74 ∨ 78 < i) → σ' i = σ i) ∧ (∀ k : Nat, (k < 18 ∨ 18 < k) ∧ (k < 19 ∨ 19 < k) ∧ (k < 20 ∨ 20 < k) ∧ (k < 21 ∨ 21 < k) ∧ (k < 22 ∨ 22 < k) ∧ (k < 37 ∨ 37 < k) → σ' 55 k = σ 55 k) ∧ (jKept σ') ∧ (jTR σ') ∧ (0 ≤ (σ' 55 37).toInt ∧ (σ' 55 37).toInt ≤ 3) ∧ ((True ∧ (0 ≤ r.toInt ∧ r.toInt ≤ -(1023000 * (σ 55 26).toInt) + 12276000))))) := by
  induction n with
  | zero =>
    have h_mean := c_X12_bests_mean_z l D cI cL ad zz hJ
    have h_bf := c_X12_bests_bf_g l D cI cL ad zz hJ 0 h_mean
    have h_bw := c_X12_bests_bw_g l D cI cL ad zz hJ 0 h_mean
    exact ⟨h_mean, h_bf, h_bw⟩
  | succ n ih =>
    obtain ⟨g_mean, g_bf, g_bw⟩ := ih
    have h_mean := c_X12_bests_mean_g l D cI cL ad zz hJ n g_bf
    have h_bf := c_X12_bests_bf_g l D cI cL ad zz hJ (n + 1) h_mean
    have h_bw := c_X12_bests_bw_g l D cI cL ad zz hJ (n + 1) h_mean
    exact ⟨h_mean, h_bf, h_bw⟩
