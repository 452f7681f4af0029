set_option maxHeartbeats 4000000 in
set_option maxRecDepth 100000 in
theorem c_X12_mixed_b (l : Launch) (D : va_G) (cI cL : ClassId) (ad zz : Nat → Nat) (hJ : jD ad) (σ : Nat → Nat → Int32) (τ : Nat → Nat → Int64) (a1 : Int32) (A1 : Int) (t1 : a1.toInt = A1) (a2 : Int32) (A2 : Int) (t2 : a2.toInt = A2) (a3 : Int32) (A3 : Int) (t3 : a3.toInt = A3) (hp0 : 0 ≤ A1 ∧ A1 ≤ 2000000000) (hp1 : 0 ≤ A2 ∧ A2 ≤ 2000000000) (hp2 : 0 ≤ A3 ∧ A3 ≤ 1000) : jM l yX12_mixed cX12_mixed 3 (some .int) ({ frames := 0, cells := 0, slots := 0, locals := 0 }) D cI cL ad zz [.int a1, .int a2, .int a3] σ τ (fun r σ' τ' => (σ = σ' ∧ τ = τ') ∧ ((True ∧ (0 ≤ r.toInt) ∧ ((r.toInt ≤ A1) ∨ (r.toInt ≤ A2))))) := by
  refine jM.of hJ (by decide +kernel) (nt := .int) rfl (Nat.le_of_ble_eq_true rfl) ?_
  intro p e s m args below meth c Q ls hC hret hl hP
  obtain ⟨hx, hb, hr, hml, hown, hts, hK, -, hlocks, hZ⟩ := hC
  have hown : s.vm.findClass RX12 = some m.cls := hown
  have hS : va_S (jA ad) s.heap s.heap [] := va_S.rf
  have hA : ∀ q, jA ad q → jA ad q := fun _ h => h
  have hl : lv_has ls 3 [(0, .int a1), (1, .int a2), (2, .int a3)] := hl
  have g1 := jrg t1
  have g2 := jrg t2
  have g3 := jrg t3
  refine lv_iload_n hx hb dX12_mixed_0 rfl (lv_at hl 2 rfl) ?_
  refine lv_i2l (v := a3.toInt64) hx hb dX12_mixed_1 rfl ?_
  refine lv_iload_n hx hb dX12_mixed_2 rfl (lv_at hl 0 rfl) ?_
  refine lv_i2l (v := a1.toInt64) hx hb dX12_mixed_3 rfl ?_
  refine lv_lmul hx hb dX12_mixed_4 ?_
  refine lv_topl (fun lx1 elx1 => ?_)
  exact by
   have g2 := jprod (a := 1000) (b := 2000000000) (jtoL t3) (jtoL t1) (by omega) (by omega) (by omega) (by omega)
   have tlx1 : lx1.toInt = (A3 * A1) := jlmul elx1 (jtoL t3) (jtoL t1) (by omega) (by omega)
   refine lv_sipush (v := 1000) hx hb dX12_mixed_5 (of_decide_eq_true rfl) ?_
   refine lv_iload_n hx hb dX12_mixed_8 rfl (lv_at hl 2 rfl) ?_
   refine lv_isub hx hb dX12_mixed_9 ?_
   refine lv_topi (fun x3 ex3 => ?_)
   have tx3 : x3.toInt = -A3 + 1000 := (jsub ex3 jz_1000 t3 (by omega) (by omega)).trans (by omega)
   refine lv_i2l (v := x3.toInt64) hx hb dX12_mixed_10 rfl ?_
   refine lv_iload_n hx hb dX12_mixed_11 rfl (lv_at hl 1 rfl) ?_
   exact by
    refine lv_i2l (v := a2.toInt64) hx hb dX12_mixed_12 rfl ?_
    refine lv_lmul hx hb dX12_mixed_13 ?_
    refine lv_topl (fun lx4 elx4 => ?_)
    have g5 := jprod (a := 1000) (b := 2000000000) (jtoL tx3) (jtoL t2) (by omega) (by omega) (by omega) (by omega)
    have tlx4 : lx4.toInt = ((-A3 + 1000) * A2) := jlmul elx4 (jtoL tx3) (jtoL t2) (by omega) (by omega)
    refine lv_ladd hx hb dX12_mixed_14 ?_
    refine lv_topl (fun lx6 elx6 => ?_)
    have tlx6 : lx6.toInt = (A3 * A1) + ((-A3 + 1000) * A2) := (jladd elx6 tlx1 tlx4 (by omega) (by omega)).trans (by omega)
    have g7 := jmix (c := A3) (p := A1) (q := A2) (by omega) (by omega) (by omega) (by omega)
    exact by
     refine lv_ldc2 (v := 1000) hx hb hown (hts _ kw_34_19) dX12_mixed_15 ?_
     refine lv_ldiv hx hb dX12_mixed_18 (of_decide_eq_true rfl) ?_
     refine lv_topl (fun lx8 elx8 => ?_)
     have tlx8 : lx8.toInt = (((A3 * A1) + ((-A3 + 1000) * A2)) / 1000) := jldiv elx8 tlx6 jzl_1000 (by omega) (by omega)
     have g9 : (((A3 * A1) + ((-A3 + 1000) * A2)) / 1000) ≤ 2000000000 := by omega
     refine lv_l2i hx hb dX12_mixed_19 rfl ?_
     refine lv_topi (fun x10 ex10 => ?_)
     have tx10 : x10.toInt = (((A3 * A1) + ((-A3 + 1000) * A2)) / 1000) := jtoI ex10 tlx8 (by omega) (by omega)
     exact by exact hret x10 σ τ _ _ _ _ rfl ⟨⟨rfl, rfl⟩, ⟨trivial, (by have h9 := tx10; omega), (by have h9 := tx10; omega)⟩⟩ hP hS dX12_mixed_20
set_option maxHeartbeats 4000000 in
set_option maxRecDepth 100000 in
theorem c_X12_mixed (l : Launch) (D : va_G) (cI cL : ClassId) (ad zz : Nat → Nat) (hJ : jD ad) (σ : Nat → Nat → Int32) (τ : Nat → Nat → Int64) (a1 : Int32) (A1 : Int) (t1 : a1.toInt = A1) (a2 : Int32) (A2 : Int) (t2 : a2.toInt = A2) (a3 : Int32) (A3 : Int) (t3 : a3.toInt = A3) : jM l yX12_mixed cX12_mixed 3 (some .int) ({ frames := 0, cells := 0, slots := 0, locals := 0 }) D cI cL ad zz [.int a1, .int a2, .int a3] σ τ (fun r σ' τ' => (σ = σ' ∧ τ = τ') ∧ True) := by
  refine jM.of hJ (by decide +kernel) (nt := .int) rfl (Nat.le_of_ble_eq_true rfl) ?_
  intro p e s m args below meth c Q ls hC hret hl hP
  obtain ⟨hx, hb, hr, hml, hown, hts, hK, -, hlocks, hZ⟩ := hC
  have hown : s.vm.findClass RX12 = some m.cls := hown
  have hS : va_S (jA ad) s.heap s.heap [] := va_S.rf
  have hA : ∀ q, jA ad q → jA ad q := fun _ h => h
  have hl : lv_has ls 3 [(0, .int a1), (1, .int a2), (2, .int a3)] := hl
  have g1 := jrg t1
  have g2 := jrg t2
  have g3 := jrg t3
  refine lv_iload_n hx hb dX12_mixed_0 rfl (lv_at hl 2 rfl) ?_
  refine lv_i2l (v := a3.toInt64) hx hb dX12_mixed_1 rfl ?_
  refine lv_iload_n hx hb dX12_mixed_2 rfl (lv_at hl 0 rfl) ?_
  refine lv_i2l (v := a1.toInt64) hx hb dX12_mixed_3 rfl ?_
  refine lv_lmul hx hb dX12_mixed_4 ?_
  refine lv_topl (fun lx1 elx1 => ?_)
  refine lv_sipush (v := 1000) hx hb dX12_mixed_5 (of_decide_eq_true rfl) ?_
  refine lv_iload_n hx hb dX12_mixed_8 rfl (lv_at hl 2 rfl) ?_
  refine lv_isub hx hb dX12_mixed_9 ?_
  refine lv_topi (fun x2 ex2 => ?_)
  have gx2 := jrg (rfl : x2.toInt = x2.toInt)
  refine lv_i2l (v := x2.toInt64) hx hb dX12_mixed_10 rfl ?_
  refine lv_iload_n hx hb dX12_mixed_11 rfl (lv_at hl 1 rfl) ?_
  refine lv_i2l (v := a2.toInt64) hx hb dX12_mixed_12 rfl ?_
  refine lv_lmul hx hb dX12_mixed_13 ?_
  refine lv_topl (fun lx3 elx3 => ?_)
  refine lv_ladd hx hb dX12_mixed_14 ?_
  refine lv_topl (fun lx4 elx4 => ?_)
  refine lv_ldc2 (v := 1000) hx hb hown (hts _ kw_34_19) dX12_mixed_15 ?_
  refine lv_ldiv hx hb dX12_mixed_18 (of_decide_eq_true rfl) ?_
  refine lv_topl (fun lx5 elx5 => ?_)
  refine lv_l2i hx hb dX12_mixed_19 rfl ?_
  refine lv_topi (fun x6 ex6 => ?_)
  have gx6 := jrg (rfl : x6.toInt = x6.toInt)
  exact hret x6 σ τ _ _ _ _ rfl ⟨⟨rfl, rfl⟩, trivial⟩ hP hS dX12_mixed_20
set_option maxHeartbeats 4000000 in
set_option maxRecDepth 100000 in
theorem c_X12_forgets (l : Launch) (D : va_G) (cI cL : ClassId) (ad zz : Nat → Nat) (hJ : jD ad) (σ : Nat → Nat → Int32) (τ : Nat → Nat → Int64) : jMv l yX12_forgets cX12_forgets 1 none ({ frames := 0, cells := 0, slots := 0, locals := 0 }) D cI cL ad zz [.ref (ad 55)] σ τ (fun σ' τ' => τ = τ' ∧ (∀ i : Nat, (i < 55 ∨ 55 < i) → σ' i = σ i) ∧ (∀ k : Nat, (k < 42 ∨ 42 < k) → σ' 55 k = σ 55 k) ∧ True) := by
  refine jMv.of hJ (by decide +kernel) rfl (Nat.le_of_ble_eq_true rfl) ?_
  intro p e s m args below meth c Q ls hC hret hl hP
  obtain ⟨hx, hb, hr, hml, hown, hts, hK, -, hlocks, hZ⟩ := hC
  have hown : s.vm.findClass RX12 = some m.cls := hown
  have hS : va_S (jA ad) s.heap s.heap [] := va_S.rf
  have hA : ∀ q, jA ad q → jA ad q := fun _ h => h
  have hl : lv_has ls 1 [(0, .ref (ad 55))] := hl
  refine lv_aload_n hx hb dX12_forgets_0 rfl (lv_at hl 0 rfl) ?_
  refine lv_dup hx hb dX12_forgets_1 rfl ?_
  refine va_get (D := D) hx hb hts inlX12 hown hK hP 55 (jc_55 cI cL ad σ τ) rfl 42 (of_decide_eq_true rfl) (hts _ kw_33_10) (fun _ h9 => h9) rfl dX12_forgets_2 ?_
  refine lv_iconst (v := 1) hx hb dX12_forgets_5 (of_decide_eq_true rfl) ?_
  have g1 := jrg (rfl : (σ 55 42).toInt = (σ 55 42).toInt)
  refine lv_iadd hx hb dX12_forgets_6 ?_
  refine lv_topi (fun x2 ex2 => ?_)
  have gx2 := jrg (rfl : x2.toInt = x2.toInt)
  refine jput (ty := .int) hx hb hts inlX12 tyX12 tyX12_ok nmX12 hown hK hP hJ hA hS (jc_55 cI cL ad σ τ) rfl (k := 42) (of_decide_eq_true rfl) (Nat.le_of_ble_eq_true rfl) (jp_55_42 cI cL ad σ τ x2) (hts _ kw_33_10) (fun _ h9 => h9) rfl (by decide +kernel) rfl rfl dX12_forgets_7 (fun σ3 H locs eσ3 hP hS => ?_)
  exact hret σ3 τ _ _ _ _ ⟨rfl, (fun i hi => (jnp i eσ3 (imp_165 i hi))), (fun i hi => (jkp i eσ3 (imp_199 i hi))), trivial⟩ hP hS dX12_forgets_10
set_option maxHeartbeats 4000000 in
set_option maxRecDepth 100000 in
theorem c_X12_stateNumber (l : Launch) (D : va_G) (cI cL : ClassId) (ad zz : Nat → Nat) (hJ : jD ad) (σ : Nat → Nat → Int32) (τ : Nat → Nat → Int64) (hI102 : jI102 σ) (hw68 : ∀ k : Nat, k < 4 → 0 ≤ (σ 68 k).toInt ∧ (σ 68 k).toInt ≤ 3) : jM l yX12_stateNumber cX12_stateNumber 3 (some .int) ({ frames := 0, cells := 0, slots := 0, locals := 0 }) D cI cL ad zz [.ref (ad 55)] σ τ (fun r σ' τ' => (σ = σ' ∧ τ = τ') ∧ True) := by
  refine jM.of hJ (by decide +kernel) (nt := .int) rfl (Nat.le_of_ble_eq_true rfl) ?_
  intro p e s m args below meth c Q ls hC hret hl hP
  obtain ⟨hx, hb, hr, hml, hown, hts, hK, -, hlocks, hZ⟩ := hC
  have hown : s.vm.findClass RX12 = some m.cls := hown
  have hS : va_S (jA ad) s.heap s.heap [] := va_S.rf
  have hA : ∀ q, jA ad q → jA ad q := fun _ h => h
  have hl : lv_has ls 3 [(0, .ref (ad 55))] := hl
  obtain ⟨i1, w2, w3⟩ : (0 ≤ (σ 55 6).toInt ∧ (σ 55 6).toInt ≤ 4) ∧ (∀ k : Nat, k < 4 → 0 ≤ (σ 60 k).toInt ∧ (σ 60 k).toInt ≤ 50) ∧ (∀ k : Nat, k < 4 → 0 ≤ (σ 61 k).toInt ∧ (σ 61 k).toInt ≤ 20) := id hI102
  refine lv_aload_n hx hb dX12_stateNumber_0 rfl (lv_at hl 0 rfl) ?_
  refine va_get (D := D) hx hb hts inlX12 hown hK hP 55 (jc_55 cI cL ad σ τ) rfl 27 (of_decide_eq_true rfl) (hts _ kw_23_11) (fun _ h9 => h9) rfl dX12_stateNumber_1 ?_
  refine lv_iconst (v := 1) hx hb dX12_stateNumber_4 (of_decide_eq_true rfl) ?_
  have g4 := jrg (rfl : (σ 55 27).toInt = (σ 55 27).toInt)
  refine lv_iadd hx hb dX12_stateNumber_5 ?_
  refine lv_topi (fun x5 ex5 => ?_)
  have gx5 := jrg (rfl : x5.toInt = x5.toInt)
  refine lv_istore_n (lv' := [(1, .int x5), (0, .ref (ad 55))]) hx hb dX12_stateNumber_6 rfl hl (of_decide_eq_true rfl) rfl (fun ls hl => ?_)
  refine lv_iconst (v := 0) hx hb dX12_stateNumber_7 (of_decide_eq_true rfl) ?_
  refine lv_istore_n (lv' := [(2, .int 0), (1, .int x5), (0, .ref (ad 55))]) hx hb dX12_stateNumber_8 rfl hl (of_decide_eq_true rfl) rfl (fun ls hl => ?_)
  have lp6 : ∀ (n7 : Nat) (x8 : Int32) (x9 : Int32) (H : Heap) (locs : List Loc) (ls : Array Slot), (-x9.toInt + 4 : Int) < n7 → 0 ≤ x9.toInt → x9.toInt ≤ 4 → jH D cI cL ad σ τ H → va_S (jA ad) s.heap H locs → lv_has ls 3 [(2, .int x9), (1, .int x8), (0, .ref (ad 55))] → W p l e ({ frames := 0, cells := 0, slots := 0, locals := 0 }) s m args below meth c H locs 0 0 Q (F0 m 9 ls []) := by
    intro n7
    induction n7 with
    | zero => intro x8 x9 H locs ls h11 h12 h13; have gx8 := jrg (rfl : x8.toInt = x8.toInt); exact absurd h11 (by omega)
    | succ n7 ihlp6 =>
      intro x8 x9 H locs ls h11 h12 h13 hP hS hl
      exact by
       have gx8 := jrg (rfl : x8.toInt = x8.toInt)
       refine lv_iload_n hx hb dX12_stateNumber_9 rfl (lv_at hl 0 rfl) ?_
       refine lv_aload_n hx hb dX12_stateNumber_10 rfl (lv_at hl 2 rfl) ?_
       refine va_get (D := D) hx hb hts inlX12 hown hK hP 55 (jc_55 cI cL ad σ τ) rfl 6 (of_decide_eq_true rfl) (hts _ kw_9_13) (fun _ h9 => h9) rfl dX12_stateNumber_11 ?_
       refine lv_icmp_ge (tgt := 34) hx hb dX12_stateNumber_14 (of_decide_eq_true rfl) (fun c15 => ?_) (fun c15 => ?_)
       · have kc15 := jle c15 rfl rfl
         refine lv_iconst (v := 0) hx hb dX12_stateNumber_34 (of_decide_eq_true rfl) ?_
         refine lv_istore_n (lv' := [(2, .int 0), (1, .int x8), (0, .ref (ad 55))]) hx hb dX12_stateNumber_35 rfl hl (of_decide_eq_true rfl) rfl (fun ls hl => ?_)
         have lp16 : ∀ (n17 : Nat) (x18 : Int32) (x19 : Int32) (H : Heap) (locs : List Loc) (ls : Array Slot), (-x19.toInt + 4 : Int) < n17 → 0 ≤ x19.toInt → x19.toInt ≤ 4 → jH D cI cL ad σ τ H → va_S (jA ad) s.heap H locs → lv_has ls 3 [(2, .int x19), (1, .int x18), (0, .ref (ad 55))] → W p l e ({ frames := 0, cells := 0, slots := 0, locals := 0 }) s m args below meth c H locs 0 0 Q (F0 m 36 ls []) := by
           intro n17
           induction n17 with
           | zero => intro x18 x19 H locs ls h21 h22 h23; have gx18 := jrg (rfl : x18.toInt = x18.toInt); exact absurd h21 (by omega)
           | succ n17 ihlp16 =>
             intro x18 x19 H locs ls h21 h22 h23 hP hS hl
             exact by
              have gx18 := jrg (rfl : x18.toInt = x18.toInt)
              refine lv_iload_n hx hb dX12_stateNumber_36 rfl (lv_at hl 0 rfl) ?_
              refine lv_aload_n hx hb dX12_stateNumber_37 rfl (lv_at hl 2 rfl) ?_
              refine va_get (D := D) hx hb hts inlX12 hown hK hP 55 (jc_55 cI cL ad σ τ) rfl 6 (of_decide_eq_true rfl) (hts _ kw_9_13) (fun _ h9 => h9) rfl dX12_stateNumber_38 ?_
              refine lv_icmp_ge (tgt := 78) hx hb dX12_stateNumber_41 (of_decide_eq_true rfl) (fun c25 => ?_) (fun c25 => ?_)
              · have kc25 := jle c25 rfl rfl
                refine lv_iload_n hx hb dX12_stateNumber_78 rfl (lv_at hl 1 rfl) ?_
                exact hret x18 σ τ _ _ _ _ rfl ⟨⟨rfl, rfl⟩, trivial⟩ hP hS dX12_stateNumber_79
              · have kc25 := jnle c25 rfl rfl
                refine lv_bipush (v := 9) hx hb dX12_stateNumber_44 (of_decide_eq_true rfl) ?_
                refine lv_iload_n hx hb dX12_stateNumber_46 rfl (lv_at hl 1 rfl) ?_
                have g26 := jrg (rfl : x18.toInt = x18.toInt)
                refine lv_imul hx hb dX12_stateNumber_47 ?_
                refine lv_topi (fun x27 ex27 => ?_)
                have gx27 := jrg (rfl : x27.toInt = x27.toInt)
                refine lv_aload_n hx hb dX12_stateNumber_48 rfl (lv_at hl 2 rfl) ?_
                refine va_get (D := D) hx hb hts inlX12 hown hK hP 55 (jc_55 cI cL ad σ τ) rfl 29 (of_decide_eq_true rfl) (hts _ kw_7_15) (fun _ h9 => h9) rfl dX12_stateNumber_49 ?_
                refine lv_iload_n hx hb dX12_stateNumber_52 rfl (lv_at hl 0 rfl) ?_
                exact by
                 refine jald hx hb hK hP (jc_69 cI cL ad σ τ) (jin rfl (by omega) (by omega)) dX12_stateNumber_53 ?_
                 refine lv_topi (fun x28 ex28 => ?_)
                 refine lv_bipush (v := 8) hx hb dX12_stateNumber_54 (of_decide_eq_true rfl) ?_
                 refine lv_icmp_le (tgt := 64) hx hb dX12_stateNumber_56 (of_decide_eq_true rfl) (fun c29 => ?_) (fun c29 => ?_)
                 · have kc29 := jle c29 rfl jz_8
                   refine lv_aload_n hx hb dX12_stateNumber_64 rfl (lv_at hl 2 rfl) ?_
                   refine va_get (D := D) hx hb hts inlX12 hown hK hP 55 (jc_55 cI cL ad σ τ) rfl 29 (of_decide_eq_true rfl) (hts _ kw_7_15) (fun _ h9 => h9) rfl dX12_stateNumber_65 ?_
                   refine lv_iload_n hx hb dX12_stateNumber_68 rfl (lv_at hl 0 rfl) ?_
                   refine jald hx hb hK hP (jc_69 cI cL ad σ τ) (jin rfl (by omega) (by omega)) dX12_stateNumber_69 ?_
                   exact by
                    refine lv_topi (fun x30 ex30 => ?_)
                    have g31 := jrg (rfl : x27.toInt = x27.toInt)
                    have g32 := jrg (rfl : x30.toInt = x30.toInt)
                    refine lv_iadd hx hb dX12_stateNumber_70 ?_
                    refine lv_topi (fun x33 ex33 => ?_)
                    have gx33 := jrg (rfl : x33.toInt = x33.toInt)
                    refine lv_istore_n (lv' := [(1, .int x33), (2, .int x19), (0, .ref (ad 55))]) hx hb dX12_stateNumber_71 rfl hl (of_decide_eq_true rfl) rfl (fun ls hl => ?_)
                    obtain ⟨x34, ex34⟩ : ∃ y : Int32, y = x19 + 1 := ⟨_, rfl⟩
                    have tx34 : x34.toInt = x19.toInt + 1 := (jadd ex34 rfl jz_1 (by omega) (by omega)).trans (by omega)
                    exact by
                     refine lv_iinc (v := x34) (lv' := [(2, .int x34), (1, .int x33), (0, .ref (ad 55))]) hx hb dX12_stateNumber_72 hl (k := 1) rfl (by rw [ex34]; rfl) (of_decide_eq_true rfl) rfl (fun ls hl => ?_)
                     refine lv_goto (tgt := 36) hx hb dX12_stateNumber_75 (of_decide_eq_true rfl) ?_
                     exact by exact ihlp16 x33 x34 _ _ ls (by have h91 := tx34; omega) (by have h91 := tx34; omega) (by have h91 := tx34; omega)    hP hS (lv_sub hl [0, 1, 2] rfl)
                 · have kc29 := jnle c29 rfl jz_8
                   refine lv_bipush (v := 8) hx hb dX12_stateNumber_59 (of_decide_eq_true rfl) ?_
                   refine lv_goto (tgt := 70) hx hb dX12_stateNumber_61 (of_decide_eq_true rfl) ?_
                   have g35 := jrg (rfl : x27.toInt = x27.toInt)
                   refine lv_iadd hx hb dX12_stateNumber_70 ?_
                   refine lv_topi (fun x36 ex36 => ?_)
                   have gx36 := jrg (rfl : x36.toInt = x36.toInt)
                   refine lv_istore_n (lv' := [(1, .int x36), (2, .int x19), (0, .ref (ad 55))]) hx hb dX12_stateNumber_71 rfl hl (of_decide_eq_true rfl) rfl (fun ls hl => ?_)
                   obtain ⟨x37, ex37⟩ : ∃ y : Int32, y = x19 + 1 := ⟨_, rfl⟩
                   exact by
                    have tx37 : x37.toInt = x19.toInt + 1 := (jadd ex37 rfl jz_1 (by omega) (by omega)).trans (by omega)
                    refine lv_iinc (v := x37) (lv' := [(2, .int x37), (1, .int x36), (0, .ref (ad 55))]) hx hb dX12_stateNumber_72 hl (k := 1) rfl (by rw [ex37]; rfl) (of_decide_eq_true rfl) rfl (fun ls hl => ?_)
                    refine lv_goto (tgt := 36) hx hb dX12_stateNumber_75 (of_decide_eq_true rfl) ?_
                    exact by exact ihlp16 x36 x37 _ _ ls (by have h91 := tx37; omega) (by have h91 := tx37; omega) (by have h91 := tx37; omega)    hP hS (lv_sub hl [0, 1, 2] rfl)
         exact by exact lp16 1000000 x8 0 _ _ ls (by have h91 := jz_0; omega) (by have h91 := jz_0; omega) (by have h91 := jz_0; omega)   hP hS hl
       · have kc15 := jnle c15 rfl rfl
         refine lv_iconst (v := 4) hx hb dX12_stateNumber_17 (of_decide_eq_true rfl) ?_
         refine lv_iload_n hx hb dX12_stateNumber_18 rfl (lv_at hl 1 rfl) ?_
         have g38 := jrg (rfl : x8.toInt = x8.toInt)
         exact by
          refine lv_imul hx hb dX12_stateNumber_19 ?_
          refine lv_topi (fun x39 ex39 => ?_)
          have gx39 := jrg (rfl : x39.toInt = x39.toInt)
          refine lv_aload_n hx hb dX12_stateNumber_20 rfl (lv_at hl 2 rfl) ?_
          refine va_get (D := D) hx hb hts inlX12 hown hK hP 55 (jc_55 cI cL ad σ τ) rfl 28 (of_decide_eq_true rfl) (hts _ kw_7_14) (fun _ h9 => h9) rfl dX12_stateNumber_21 ?_
          refine lv_iload_n hx hb dX12_stateNumber_24 rfl (lv_at hl 0 rfl) ?_
          refine jald hx hb hK hP (jc_68 cI cL ad σ τ) (jin rfl (by omega) (by omega)) dX12_stateNumber_25 ?_
          have g40 := hw68 _ (jnat (x := x9) rfl (n := 4) (by omega) (of_decide_eq_true rfl))
          refine lv_topi (fun x41 ex41 => ?_)
          rw [← ex41] at g40
          exact by
           have g42 := jrg (rfl : x39.toInt = x39.toInt)
           have g43 := jrg (rfl : x41.toInt = x41.toInt)
           refine lv_iadd hx hb dX12_stateNumber_26 ?_
           refine lv_topi (fun x44 ex44 => ?_)
           have gx44 := jrg (rfl : x44.toInt = x44.toInt)
           refine lv_istore_n (lv' := [(1, .int x44), (2, .int x9), (0, .ref (ad 55))]) hx hb dX12_stateNumber_27 rfl hl (of_decide_eq_true rfl) rfl (fun ls hl => ?_)
           obtain ⟨x45, ex45⟩ : ∃ y : Int32, y = x9 + 1 := ⟨_, rfl⟩
           have tx45 : x45.toInt = x9.toInt + 1 := (jadd ex45 rfl jz_1 (by omega) (by omega)).trans (by omega)
           refine lv_iinc (v := x45) (lv' := [(2, .int x45), (1, .int x44), (0, .ref (ad 55))]) hx hb dX12_stateNumber_28 hl (k := 1) rfl (by rw [ex45]; rfl) (of_decide_eq_true rfl) rfl (fun ls hl => ?_)
           exact by
            refine lv_goto (tgt := 9) hx hb dX12_stateNumber_31 (of_decide_eq_true rfl) ?_
            exact by exact ihlp6 x44 x45 _ _ ls (by have h91 := tx45; omega) (by have h91 := tx45; omega) (by have h91 := tx45; omega)    hP hS (lv_sub hl [0, 1, 2] rfl)
  exact by exact lp6 1000000 x5 0 _ _ ls (by have h91 := jz_0; omega) (by have h91 := jz_0; omega) (by have h91 := jz_0; omega)   hP hS hl
set_option maxHeartbeats 4000000 in
set_option maxRecDepth 100000 in
theorem c_X12_spot (l : Launch) (D : va_G) (cI cL : ClassId) (ad zz : Nat → Nat) (hJ : jD ad) (σ : Nat → Nat → Int32) (τ : Nat → Nat → Int64) (a1 : Int32) (A1 : Int) (t1 : a1.toInt = A1) (a2 : Int32) (A2 : Int) (t2 : a2.toInt = A2) : jM l yX12_spot cX12_spot 5 (some .int) ({ frames := 0, cells := 0, slots := 0, locals := 0 }) D cI cL ad zz [.ref (ad 55), .int a1, .int a2] σ τ (fun r σ' τ' => (σ = σ' ∧ τ = τ') ∧ ((True ∧ (0 ≤ r.toInt ∧ r.toInt ≤ 65535) ∧ ((σ 78 r.toNatClampNeg) ≠ σ 55 42 ∨ (σ 75 r.toNatClampNeg) = a2)) ∨ (r = (-1) ∧ True))) := by
  refine jM.of hJ (by decide +kernel) (nt := .int) rfl (Nat.le_of_ble_eq_true rfl) ?_
  intro p e s m args below meth c Q ls hC hret hl hP
  obtain ⟨hx, hb, hr, hml, hown, hts, hK, -, hlocks, hZ⟩ := hC
  have hown : s.vm.findClass RX12 = some m.cls := hown
  have hS : va_S (jA ad) s.heap s.heap [] := va_S.rf
  have hA : ∀ q, jA ad q → jA ad q := fun _ h => h
  have hl : lv_has ls 5 [(0, .ref (ad 55)), (1, .int a1), (2, .int a2)] := hl
  have g1 := jrg t1
  have g2 := jrg t2
  refine lv_iload_n hx hb dX12_spot_0 rfl (lv_at hl 1 rfl) ?_
  refine lv_bipush (v := 31) hx hb dX12_spot_1 (of_decide_eq_true rfl) ?_
  refine lv_imul hx hb dX12_spot_3 ?_
  refine lv_topi (fun x1 ex1 => ?_)
  have gx1 := jrg (rfl : x1.toInt = x1.toInt)
  refine lv_iload_n hx hb dX12_spot_4 rfl (lv_at hl 2 rfl) ?_
  have g2 := jrg (rfl : x1.toInt = x1.toInt)
  refine lv_iadd hx hb dX12_spot_5 ?_
  refine lv_topi (fun x3 ex3 => ?_)
  have gx3 := jrg (rfl : x3.toInt = x3.toInt)
  refine lv_ldcw (v := 40503) hx hb hown (hts _ kw_34_13) dX12_spot_6 ?_
  have g4 := jrg (rfl : x3.toInt = x3.toInt)
  refine lv_imul hx hb dX12_spot_9 ?_
  refine lv_topi (fun x5 ex5 => ?_)
  have gx5 := jrg (rfl : x5.toInt = x5.toInt)
  refine lv_ldcw (v := 65535) hx hb hown (hts _ kw_34_14) dX12_spot_10 ?_
  refine lv_iand hx hb dX12_spot_13 ?_
  refine lv_topi (fun x6 ex6 => ?_)
  have gx6 := jrg (rfl : x6.toInt = x6.toInt)
  have g7 : 0 ≤ x6.toInt ∧ x6.toInt ≤ 65535 := jmask ex6 16 (of_decide_eq_true rfl) (of_decide_eq_true rfl)
  refine lv_istore_n (lv' := [(3, .int x6), (0, .ref (ad 55)), (1, .int a1), (2, .int a2)]) hx hb dX12_spot_14 rfl hl (of_decide_eq_true rfl) rfl (fun ls hl => ?_)
  refine lv_iconst (v := 0) hx hb dX12_spot_15 (of_decide_eq_true rfl) ?_
  refine lv_istore (lv' := [(4, .int 0), (3, .int x6), (0, .ref (ad 55)), (1, .int a1), (2, .int a2)]) hx hb dX12_spot_16 hl (of_decide_eq_true rfl) rfl (fun ls hl => ?_)
  have lp8 : ∀ (n9 : Nat) (x10 : Int32) (x11 : Int32) (H : Heap) (locs : List Loc) (ls : Array Slot), (-x11.toInt + 65536 : Int) < n9 → 0 ≤ x10.toInt → x10.toInt ≤ 65535 → 0 ≤ x11.toInt → x11.toInt ≤ 65536 → jH D cI cL ad σ τ H → va_S (jA ad) s.heap H locs → lv_has ls 5 [(4, .int x11), (3, .int x10), (0, .ref (ad 55)), (1, .int a1), (2, .int a2)] → W p l e ({ frames := 0, cells := 0, slots := 0, locals := 0 }) s m args below meth c H locs 0 0 Q (F0 m 18 ls []) := by
    intro n9
    induction n9 with
    | zero => intro x10 x11 H locs ls h13 h14 h15 h16 h17; exact absurd h13 (by omega)
    | succ n9 ihlp8 =>
      intro x10 x11 H locs ls h13 h14 h15 h16 h17 hP hS hl
      exact by
       refine lv_iload hx hb dX12_spot_18 (lv_at hl 0 rfl) ?_
       refine lv_ldc (v := 65536) hx hb hown (hts _ kw_7_22) dX12_spot_20 ?_
       refine lv_icmp_ge (tgt := 74) hx hb dX12_spot_22 (of_decide_eq_true rfl) (fun c19 => ?_) (fun c19 => ?_)
       · have kc19 := jle c19 jz_65536 rfl
         refine lv_iconst (v := (-1)) hx hb dX12_spot_74 (of_decide_eq_true rfl) ?_
         exact hret (-1) σ τ _ _ _ _ rfl ⟨⟨rfl, rfl⟩, Or.inr (⟨rfl, trivial⟩)⟩ hP hS dX12_spot_75
       · have kc19 := jnle c19 jz_65536 rfl
         refine lv_aload_n hx hb dX12_spot_25 rfl (lv_at hl 2 rfl) ?_
         refine va_get (D := D) hx hb hts inlX12 hown hK hP 55 (jc_55 cI cL ad σ τ) rfl 43 (of_decide_eq_true rfl) (hts _ kw_8_3) (fun _ h9 => h9) rfl dX12_spot_26 ?_
         refine lv_iload_n hx hb dX12_spot_29 rfl (lv_at hl 1 rfl) ?_
         exact by
          refine jald hx hb hK hP (jc_78 cI cL ad σ τ) (jin rfl (by omega) (by omega)) dX12_spot_30 ?_
          refine jtopr (y := (σ 78 x10.toNatClampNeg)) rfl ?_
          refine lv_aload_n hx hb dX12_spot_31 rfl (lv_at hl 2 rfl) ?_
          refine va_get (D := D) hx hb hts inlX12 hown hK hP 55 (jc_55 cI cL ad σ τ) rfl 42 (of_decide_eq_true rfl) (hts _ kw_33_10) (fun _ h9 => h9) rfl dX12_spot_32 ?_
          refine lv_icmp_ne (tgt := 58) hx hb dX12_spot_35 (of_decide_eq_true rfl) (fun c20 => ?_) (fun c20 => ?_)
          · have kc20 := jne c20 rfl rfl
            refine lv_iload_n hx hb dX12_spot_58 rfl (lv_at hl 1 rfl) ?_
            exact hret x10 σ τ _ _ _ _ rfl ⟨⟨rfl, rfl⟩, Or.inl ⟨trivial, (by omega), (Or.inl c20)⟩⟩ hP hS dX12_spot_59
          · have kc20 := jeq c20 rfl rfl
            refine lv_aload_n hx hb dX12_spot_38 rfl (lv_at hl 2 rfl) ?_
            refine va_get (D := D) hx hb hts inlX12 hown hK hP 55 (jc_55 cI cL ad σ τ) rfl 38 (of_decide_eq_true rfl) (hts _ kw_7_23) (fun _ h9 => h9) rfl dX12_spot_39 ?_
            refine lv_iload_n hx hb dX12_spot_42 rfl (lv_at hl 1 rfl) ?_
            exact by
             refine jald hx hb hK hP (jc_74 cI cL ad σ τ) (jin rfl (by omega) (by omega)) dX12_spot_43 ?_
             refine jtopr (y := (σ 74 x10.toNatClampNeg)) rfl ?_
             refine lv_iload_n hx hb dX12_spot_44 rfl (lv_at hl 3 rfl) ?_
             refine lv_icmp_ne (tgt := 60) hx hb dX12_spot_45 (of_decide_eq_true rfl) (fun c21 => ?_) (fun c21 => ?_)
             · have kc21 := jne c21 rfl t1
               refine lv_iload_n hx hb dX12_spot_60 rfl (lv_at hl 1 rfl) ?_
               refine lv_iconst (v := 1) hx hb dX12_spot_61 (of_decide_eq_true rfl) ?_
               have g22 := jrg (rfl : x10.toInt = x10.toInt)
               refine lv_iadd hx hb dX12_spot_62 ?_
               refine lv_topi (fun x23 ex23 => ?_)
               exact by
                have tx23 : x23.toInt = x10.toInt + 1 := (jadd ex23 rfl jz_1 (by omega) (by omega)).trans (by omega)
                refine lv_ldcw (v := 65535) hx hb hown (hts _ kw_34_14) dX12_spot_63 ?_
                refine lv_iand hx hb dX12_spot_66 ?_
                refine lv_topi (fun x24 ex24 => ?_)
                have gx24 := jrg (rfl : x24.toInt = x24.toInt)
                have g25 : 0 ≤ x24.toInt ∧ x24.toInt ≤ 65535 := jmask ex24 16 (of_decide_eq_true rfl) (of_decide_eq_true rfl)
                refine lv_istore_n (lv' := [(3, .int x24), (4, .int x11), (0, .ref (ad 55)), (1, .int a1), (2, .int a2)]) hx hb dX12_spot_67 rfl hl (of_decide_eq_true rfl) rfl (fun ls hl => ?_)
                obtain ⟨x26, ex26⟩ : ∃ y : Int32, y = x11 + 1 := ⟨_, rfl⟩
                have tx26 : x26.toInt = x11.toInt + 1 := (jadd ex26 rfl jz_1 (by omega) (by omega)).trans (by omega)
                exact by
                 refine lv_iinc (v := x26) (lv' := [(4, .int x26), (3, .int x24), (0, .ref (ad 55)), (1, .int a1), (2, .int a2)]) hx hb dX12_spot_68 hl (k := 1) rfl (by rw [ex26]; rfl) (of_decide_eq_true rfl) rfl (fun ls hl => ?_)
                 refine lv_goto (tgt := 18) hx hb dX12_spot_71 (of_decide_eq_true rfl) ?_
                 exact by exact ihlp8 x24 x26 _ _ ls (by have h91 := tx26; omega) (by have h91 := tx26; omega) (by have h91 := tx26; omega) (by have h91 := tx26; omega) (by have h91 := tx26; omega)    hP hS (lv_sub hl [0, 1, 2, 3, 4] rfl)
             · have kc21 := jeq c21 rfl t1
               refine lv_aload_n hx hb dX12_spot_48 rfl (lv_at hl 2 rfl) ?_
               refine va_get (D := D) hx hb hts inlX12 hown hK hP 55 (jc_55 cI cL ad σ τ) rfl 39 (of_decide_eq_true rfl) (hts _ kw_8_0) (fun _ h9 => h9) rfl dX12_spot_49 ?_
               refine lv_iload_n hx hb dX12_spot_52 rfl (lv_at hl 1 rfl) ?_
               refine jald hx hb hK hP (jc_75 cI cL ad σ τ) (jin rfl (by omega) (by omega)) dX12_spot_53 ?_
               refine jtopr (y := (σ 75 x10.toNatClampNeg)) rfl ?_
               exact by
                refine lv_iload_n hx hb dX12_spot_54 rfl (lv_at hl 4 rfl) ?_
                refine lv_icmp_ne (tgt := 60) hx hb dX12_spot_55 (of_decide_eq_true rfl) (fun c27 => ?_) (fun c27 => ?_)
                · have kc27 := jne c27 rfl t2
                  refine lv_iload_n hx hb dX12_spot_60 rfl (lv_at hl 1 rfl) ?_
                  refine lv_iconst (v := 1) hx hb dX12_spot_61 (of_decide_eq_true rfl) ?_
                  have g28 := jrg (rfl : x10.toInt = x10.toInt)
                  refine lv_iadd hx hb dX12_spot_62 ?_
                  refine lv_topi (fun x29 ex29 => ?_)
                  have tx29 : x29.toInt = x10.toInt + 1 := (jadd ex29 rfl jz_1 (by omega) (by omega)).trans (by omega)
                  exact by
                   refine lv_ldcw (v := 65535) hx hb hown (hts _ kw_34_14) dX12_spot_63 ?_
                   refine lv_iand hx hb dX12_spot_66 ?_
                   refine lv_topi (fun x30 ex30 => ?_)
                   have gx30 := jrg (rfl : x30.toInt = x30.toInt)
                   have g31 : 0 ≤ x30.toInt ∧ x30.toInt ≤ 65535 := jmask ex30 16 (of_decide_eq_true rfl) (of_decide_eq_true rfl)
                   refine lv_istore_n (lv' := [(3, .int x30), (4, .int x11), (0, .ref (ad 55)), (1, .int a1), (2, .int a2)]) hx hb dX12_spot_67 rfl hl (of_decide_eq_true rfl) rfl (fun ls hl => ?_)
                   obtain ⟨x32, ex32⟩ : ∃ y : Int32, y = x11 + 1 := ⟨_, rfl⟩
                   have tx32 : x32.toInt = x11.toInt + 1 := (jadd ex32 rfl jz_1 (by omega) (by omega)).trans (by omega)
                   refine lv_iinc (v := x32) (lv' := [(4, .int x32), (3, .int x30), (0, .ref (ad 55)), (1, .int a1), (2, .int a2)]) hx hb dX12_spot_68 hl (k := 1) rfl (by rw [ex32]; rfl) (of_decide_eq_true rfl) rfl (fun ls hl => ?_)
                   exact by
                    refine lv_goto (tgt := 18) hx hb dX12_spot_71 (of_decide_eq_true rfl) ?_
                    exact by exact ihlp8 x30 x32 _ _ ls (by have h91 := tx32; omega) (by have h91 := tx32; omega) (by have h91 := tx32; omega) (by have h91 := tx32; omega) (by have h91 := tx32; omega)    hP hS (lv_sub hl [0, 1, 2, 3, 4] rfl)
                · have kc27 := jeq c27 rfl t2
                  refine lv_iload_n hx hb dX12_spot_58 rfl (lv_at hl 1 rfl) ?_
                  exact hret x10 σ τ _ _ _ _ rfl ⟨⟨rfl, rfl⟩, Or.inl ⟨trivial, (by omega), (Or.inr c27)⟩⟩ hP hS dX12_spot_59
  exact by exact lp8 1000000 x6 0 _ _ ls (by have h91 := jz_0; omega) (by have h91 := jz_0; omega) (by have h91 := jz_0; omega) (by have h91 := jz_0; omega) (by have h91 := jz_0; omega)   hP hS hl
set_option maxHeartbeats 4000000 in
set_option maxRecDepth 100000 in
theorem c_X12_worthBy (l : Launch) (D : va_G) (cI cL : ClassId) (ad zz : Nat → Nat) (hJ : jD ad) (σ : Nat → Nat → Int32) (τ : Nat → Nat → Int64) (a1 : Int32) (A1 : Int) (t1 : a1.toInt = A1) (a2 : Int32) (A2 : Int) (t2 : a2.toInt = A2) (hI101 : jI101 σ) (hI102 : jI102 σ) (hI103 : jI103 σ) (hI104 : jI104 σ) (hI105 : jI105 σ) (hI106 : jI106 σ) (hw68 : ∀ k : Nat, k < 4 → 0 ≤ (σ 68 k).toInt ∧ (σ 68 k).toInt ≤ 3) (hp0 : 0 ≤ A1 ∧ A1 ≤ 19) (hp1 : 0 ≤ A2 ∧ A2 ≤ 3) (hp2 : 0 ≤ (σ 55 25).toInt ∧ (σ 55 25).toInt ≤ 7) : jM l yX12_worthBy cX12_worthBy 4 (some .int) ({ frames := 67, cells := 0, slots := 0, locals := 2858 }) D cI cL ad zz [.ref (ad 55), .int a1, .int a2] σ τ (fun r σ' τ' => τ = τ' ∧ (∀ i : Nat, (i < 55 ∨ 55 < i) ∧ (i < 66 ∨ 66 < i) → σ' i = σ i) ∧ (∀ k : Nat, (k < 18 ∨ 18 < k) ∧ (k < 19 ∨ 19 < k) ∧ (k < 20 ∨ 20 < k) ∧ (k < 21 ∨ 21 < k) ∧ (k < 22 ∨ 22 < k) → σ' 55 k = σ 55 k) ∧ True) := by
  refine jM.of hJ (by decide +kernel) (nt := .int) rfl (Nat.le_of_ble_eq_true rfl) ?_
  intro p e s m args below meth c Q ls hC hret hl hP
  obtain ⟨hx, hb, hr, hml, hown, hts, hK, -, hlocks, hZ⟩ := hC
  have hown : s.vm.findClass RX12 = some m.cls := hown
  have hS : va_S (jA ad) s.heap s.heap [] := va_S.rf
  have hA : ∀ q, jA ad q → jA ad q := fun _ h => h
  have hl : lv_has ls 4 [(0, .ref (ad 55)), (1, .int a1), (2, .int a2)] := hl
  have g1 := jrg t1
  have g2 := jrg t2
  obtain ⟨i1, i2, i3, w4, w5⟩ : (1 ≤ (σ 55 10).toInt ∧ (σ 55 10).toInt ≤ 8) ∧ (1 ≤ (σ 55 12).toInt ∧ (σ 55 12).toInt ≤ 12) ∧ (0 ≤ (σ 55 13).toInt ∧ (σ 55 13).toInt ≤ 999) ∧ (∀ k : Nat, k < 8 → 0 ≤ (σ 62 k).toInt ∧ (σ 62 k).toInt ≤ 3) ∧ (∀ k : Nat, k < 8 → 0 ≤ (σ 67 k).toInt ∧ (σ 67 k).toInt ≤ 3) := id hI104
  obtain ⟨i6, w7, w8, w9⟩ : (0 ≤ (σ 55 32).toInt ∧ (σ 55 32).toInt ≤ 20) ∧ (∀ k : Nat, k < 20 → 0 ≤ (σ 70 k).toInt ∧ (σ 70 k).toInt ≤ 6) ∧ (∀ k : Nat, k < 20 → 0 ≤ (σ 71 k).toInt ∧ (σ 71 k).toInt ≤ 8) ∧ (∀ k : Nat, k < 160 → 0 ≤ (σ 72 k).toInt ∧ (σ 72 k).toInt ≤ 3) := id hI106
  refine lv_aload_n hx hb dX12_worthBy_0 rfl (lv_at hl 0 rfl) ?_
  refine va_get (D := D) hx hb hts inlX12 hown hK hP 55 (jc_55 cI cL ad σ τ) rfl 11 (of_decide_eq_true rfl) (hts _ kw_7_8) (fun _ h9 => h9) rfl dX12_worthBy_1 ?_
  refine lv_aload_n hx hb dX12_worthBy_4 rfl (lv_at hl 0 rfl) ?_
  refine va_get (D := D) hx hb hts inlX12 hown hK hP 55 (jc_55 cI cL ad σ τ) rfl 25 (of_decide_eq_true rfl) (hts _ kw_23_6) (fun _ h9 => h9) rfl dX12_worthBy_5 ?_
  exact by
   refine jald hx hb hK hP (jc_62 cI cL ad σ τ) (jin rfl (by omega) (by omega)) dX12_worthBy_8 ?_
   have g10 := w4 _ (jnat (x := (σ 55 25)) rfl (n := 8) (by omega) (of_decide_eq_true rfl))
   refine lv_topi (fun x11 ex11 => ?_)
   rw [← ex11] at g10
   refine lv_istore_n (lv' := [(3, .int x11), (0, .ref (ad 55)), (1, .int a1), (2, .int a2)]) hx hb dX12_worthBy_9 rfl hl (of_decide_eq_true rfl) rfl (fun ls hl => ?_)
   refine lv_aload_n hx hb dX12_worthBy_10 rfl (lv_at hl 1 rfl) ?_
   refine va_get (D := D) hx hb hts inlX12 hown hK hP 55 (jc_55 cI cL ad σ τ) rfl 33 (of_decide_eq_true rfl) (hts _ kw_7_18) (fun _ h9 => h9) rfl dX12_worthBy_11 ?_
   refine lv_iload_n hx hb dX12_worthBy_14 rfl (lv_at hl 2 rfl) ?_
   refine jald hx hb hK hP (jc_70 cI cL ad σ τ) (jin t1 (by omega) (by omega)) dX12_worthBy_15 ?_
   exact by
    have g12 := w7 _ (jnat (x := a1) t1 (n := 20) (by omega) (of_decide_eq_true rfl))
    refine lv_topi (fun x13 ex13 => ?_)
    rw [← ex13] at g12
    refine lv_iconst (v := 3) hx hb dX12_worthBy_16 (of_decide_eq_true rfl) ?_
    refine lv_icmp_ne (tgt := 38) hx hb dX12_worthBy_17 (of_decide_eq_true rfl) (fun c14 => ?_) (fun c14 => ?_)
    · have kc14 := jne c14 rfl jz_3
      refine lv_aload_n hx hb dX12_worthBy_38 rfl (lv_at hl 1 rfl) ?_
      refine va_get (D := D) hx hb hts inlX12 hown hK hP 55 (jc_55 cI cL ad σ τ) rfl 33 (of_decide_eq_true rfl) (hts _ kw_7_18) (fun _ h9 => h9) rfl dX12_worthBy_39 ?_
      refine lv_iload_n hx hb dX12_worthBy_42 rfl (lv_at hl 2 rfl) ?_
      exact by
       refine jald hx hb hK hP (jc_70 cI cL ad σ τ) (jin t1 (by omega) (by omega)) dX12_worthBy_43 ?_
       have g15 := w7 _ (jnat (x := a1) t1 (n := 20) (by omega) (of_decide_eq_true rfl))
       refine lv_topi (fun x16 ex16 => ?_)
       rw [← ex16] at g15
       refine lv_iconst (v := 5) hx hb dX12_worthBy_44 (of_decide_eq_true rfl) ?_
       refine lv_icmp_ne (tgt := 56) hx hb dX12_worthBy_45 (of_decide_eq_true rfl) (fun c17 => ?_) (fun c17 => ?_)
       · have kc17 := jne c17 rfl jz_5
         refine lv_iconst (v := 0) hx hb dX12_worthBy_56 (of_decide_eq_true rfl) ?_
         exact hret 0 σ τ _ _ _ _ rfl ⟨rfl, (fun _ _ => rfl), (fun _ _ => rfl), trivial⟩ hP hS dX12_worthBy_57
       · exact by
          have kc17 := jeq c17 rfl jz_5
          refine lv_aload_n hx hb dX12_worthBy_48 rfl (lv_at hl 1 rfl) ?_
          refine lv_iload_n hx hb dX12_worthBy_49 rfl (lv_at hl 3 rfl) ?_
          refine lv_iload_n hx hb dX12_worthBy_50 rfl (lv_at hl 0 rfl) ?_
          refine jcallV (As := [.int a2, .int x11]) (rest := []) ⟨hx, hb, hml, hown, hts⟩ hK hP hA hS hZ (c_X12_outBy l D cI cL ad zz hJ σ τ a2 (A2) t2 x11 (x11.toInt) rfl hI101 hI102 hI103 hI105 hw68 (by omega) (by omega)) cw_RX12_259 (jc_55 cI cL ad σ τ) rfl ⟨Nat.le_of_ble_eq_true rfl, Nat.le_of_ble_eq_true rfl⟩ rfl rfl rfl hl.1 rfl (Nat.le_of_ble_eq_true rfl) dX12_worthBy_51 ⟨Nat.zero_le _, Nat.zero_le _⟩ (fun r19 σ18 τ18 H locs h18 hP hS => ?_)
          obtain ⟨rfl, f20, f21, h18⟩ := h18
          have h23 := h18
          obtain ⟨q25, k24⟩ := h23
          refine lv_ineg hx hb dX12_worthBy_54 ?_
          exact by
           refine lv_topi (fun x26 ex26 => ?_)
           have tx26 : x26.toInt = -r19.toInt := (jneg ex26 rfl (by omega)).trans (by omega)
           exact hret x26 σ18 τ _ _ _ _ rfl ⟨rfl, (fun i hi => (f20 i hi)), (fun i hi => (f21 i hi)), trivial⟩ hP hS dX12_worthBy_55
    · have kc14 := jeq c14 rfl jz_3
      refine lv_sipush (v := 1000) hx hb dX12_worthBy_20 (of_decide_eq_true rfl) ?_
      refine lv_aload_n hx hb dX12_worthBy_23 rfl (lv_at hl 1 rfl) ?_
      refine lv_iload_n hx hb dX12_worthBy_24 rfl (lv_at hl 3 rfl) ?_
      refine lv_iload_n hx hb dX12_worthBy_25 rfl (lv_at hl 0 rfl) ?_
      refine jcallV (As := [.int a2, .int x11]) (rest := [.int 1000]) ⟨hx, hb, hml, hown, hts⟩ hK hP hA hS hZ (c_X12_runsBy l D cI cL ad zz hJ σ τ a2 (A2) t2 x11 (x11.toInt) rfl hI101 hI102 hI103 hw68 (by omega) (by omega)) cw_RX12_262 (jc_55 cI cL ad σ τ) rfl ⟨Nat.le_of_ble_eq_true rfl, Nat.le_of_ble_eq_true rfl⟩ rfl rfl rfl hl.1 rfl (Nat.le_of_ble_eq_true rfl) dX12_worthBy_26 ⟨Nat.zero_le _, Nat.zero_le _⟩ (fun r28 σ27 τ27 H locs h27 hP hS => ?_)
      exact by
       obtain ⟨⟨rfl, rfl⟩, h27⟩ := h27
       have h29 := h27
       obtain ⟨q31, k30⟩ := h29
       have g32 := jrg (rfl : r28.toInt = r28.toInt)
       refine lv_imul hx hb dX12_worthBy_29 ?_
       refine lv_topi (fun x33 ex33 => ?_)
       have tx33 : x33.toInt = 1000 * r28.toInt := (jmul ex33 jz_1000 rfl (by omega) (by omega)).trans (by omega)
       refine lv_aload_n hx hb dX12_worthBy_30 rfl (lv_at hl 1 rfl) ?_
       refine lv_iload_n hx hb dX12_worthBy_31 rfl (lv_at hl 3 rfl) ?_
       exact by
        refine lv_iload_n hx hb dX12_worthBy_32 rfl (lv_at hl 0 rfl) ?_
        refine jcallV (As := [.int a2, .int x11]) (rest := [.int x33]) ⟨hx, hb, hml, hown, hts⟩ hK hP hA hS hZ (c_X12_outBy l D cI cL ad zz hJ σ τ a2 (A2) t2 x11 (x11.toInt) rfl hI101 hI102 hI103 hI105 hw68 (by omega) (by omega)) cw_RX12_259 (jc_55 cI cL ad σ τ) rfl ⟨Nat.le_of_ble_eq_true rfl, Nat.le_of_ble_eq_true rfl⟩ rfl rfl rfl hl.1 rfl (Nat.le_of_ble_eq_true rfl) dX12_worthBy_33 ⟨Nat.zero_le _, Nat.zero_le _⟩ (fun r35 σ34 τ34 H locs h34 hP hS => ?_)
        obtain ⟨rfl, f36, f37, h34⟩ := h34
        have h39 := h34
        obtain ⟨q41, k40⟩ := h39
        have g42 := jrg (rfl : r35.toInt = r35.toInt)
        refine lv_isub hx hb dX12_worthBy_36 ?_
        refine lv_topi (fun x43 ex43 => ?_)
        have tx43 : x43.toInt = 1000 * r28.toInt - r35.toInt := (jsub ex43 tx33 rfl (by omega) (by omega)).trans (by omega)
        exact hret x43 σ34 τ _ _ _ _ rfl ⟨rfl, (fun i hi => (f36 i hi)), (fun i hi => (f37 i hi)), trivial⟩ hP hS dX12_worthBy_37
set_option maxHeartbeats 4000000 in
set_option maxRecDepth 100000 in
theorem c_X12_bests_mean_g (l : Launch) (D : va_G) (cI cL : ClassId) (ad zz : Nat → Nat) (hJ : jD ad) (n : Nat) (h_bf : ∀ (σ : Nat → Nat → Int32) (τ : Nat → Nat → Int64) (hI101 : jI101 σ) (hI102 : jI102 σ) (hI103 : jI103 σ) (hI104 : jI104 σ) (hI105 : jI105 σ) (hI106 : jI106 σ) (hI120 : jI120 σ) (hs_jKept : jKept σ) (hp0 : (σ 55 12).toInt - (σ 55 26).toInt ≤ (((n) : Nat) : Int)), jM l yX12_bestFrom cX12_bestFrom 8 (some .int) ({ frames := (70 + 4 * (n)), cells := 0, slots := 0, locals := (3114 + 240 * (n)) }) D cI cL ad zz [.ref (ad 55)] σ τ (fun r σ' τ' => τ = τ' ∧ (∀ i : Nat, (i < 55 ∨ 55 < i) ∧ (i < 66 ∨ 66 < i) ∧ (i < 74 ∨ 78 < i) → σ' i = σ i) ∧ (∀ k : Nat, (k < 18 ∨ 18 < k) ∧ (k < 19 ∨ 19 < k) ∧ (k < 20 ∨ 20 < k) ∧ (k < 21 ∨ 21 < k) ∧ (k < 22 ∨ 22 < k) ∧ (k < 37 ∨ 37 < k) → σ' 55 k = σ 55 k) ∧ (jKept σ') ∧ ((-2) ≤ (σ' 55 37).toInt ∧ (σ' 55 37).toInt ≤ 3) ∧ ((True ∧ (0 ≤ r.toInt ∧ r.toInt ≤ -(1023000 * (σ 55 26).toInt) + 12276000))))) (σ : Nat → Nat → Int32) (τ : Nat → Nat → Int64) (a1 : Int32) (A1 : Int) (t1 : a1.toInt = A1) (hI101 : jI101 σ) (hI102 : jI102 σ) (hI103 : jI103 σ) (hI104 : jI104 σ) (hI105 : jI105 σ) (hI106 : jI106 σ) (hI120 : jI120 σ) (hs_jKept : jKept σ) (hp0 : 0 ≤ A1 ∧ A1 ≤ 3) (hp1 : (σ 55 25).toInt < (σ 55 10).toInt) (hp2 : (σ 55 26).toInt < (σ 55 12).toInt) (hp3 : (σ 55 12).toInt - (σ 55 26).toInt ≤ (((n + 1) : Nat) : Int)) : jM l yX12_meanWith cX12_meanWith 8 (some .int) ({ frames := (69 + 4 * (n + 1)), cells := 0, slots := 0, locals := (3034 + 240 * (n + 1)) }) D cI cL ad zz [.ref (ad 55), .int a1] σ τ (fun r σ' τ' => τ = τ' ∧ (∀ i : Nat, (i < 55 ∨ 55 < i) ∧ (i < 66 ∨ 66 < i) ∧ (i < 74 ∨ 78 < i) → σ' i = σ i) ∧ (∀ k : Nat, (k < 18 ∨ 18 < k) ∧ (k < 19 ∨ 19 < k) ∧ (k < 20 ∨ 20 < k) ∧ (k < 21 ∨ 21 < k) ∧ (k < 22 ∨ 22 < k) ∧ (k < 37 ∨ 37 < k) → σ' 55 k = σ 55 k) ∧ (jKept σ') ∧ ((True ∧ (0 ≤ r.toInt ∧ r.toInt ≤ -(1023000 * (σ 55 26).toInt) + 12276000)))) := by
  refine jM.of hJ (by decide +kernel) (nt := .int) rfl (Nat.le_of_ble_eq_true rfl) ?_
  intro p e s m args below meth c Q ls hC hret hl hP
  obtain ⟨hx, hb, hr, hml, hown, hts, hK, -, hlocks, hZ⟩ := hC
  have hown : s.vm.findClass RX12 = some m.cls := hown
  have hS : va_S (jA ad) s.heap s.heap [] := va_S.rf
  have hA : ∀ q, jA ad q → jA ad q := fun _ h => h
  have hl : lv_has ls 8 [(0, .ref (ad 55)), (1, .int a1)] := hl
  have g1 := jrg t1
  obtain ⟨i1, w2, w3⟩ : (0 ≤ (σ 55 6).toInt ∧ (σ 55 6).toInt ≤ 4) ∧ (∀ k : Nat, k < 4 → 0 ≤ (σ 60 k).toInt ∧ (σ 60 k).toInt ≤ 50) ∧ (∀ k : Nat, k < 4 → 0 ≤ (σ 61 k).toInt ∧ (σ 61 k).toInt ≤ 20) := id hI102
  obtain ⟨i4, i5, i6, w7, w8⟩ : (1 ≤ (σ 55 10).toInt ∧ (σ 55 10).toInt ≤ 8) ∧ (1 ≤ (σ 55 12).toInt ∧ (σ 55 12).toInt ≤ 12) ∧ (0 ≤ (σ 55 13).toInt ∧ (σ 55 13).toInt ≤ 999) ∧ (∀ k : Nat, k < 8 → 0 ≤ (σ 62 k).toInt ∧ (σ 62 k).toInt ≤ 3) ∧ (∀ k : Nat, k < 8 → 0 ≤ (σ 67 k).toInt ∧ (σ 67 k).toInt ≤ 3) := id hI104
  obtain ⟨i9, i10, i11, i12, i13, w14⟩ : (0 ≤ (σ 55 25).toInt) ∧ ((σ 55 25).toInt ≤ (σ 55 10).toInt) ∧ (0 ≤ (σ 55 26).toInt) ∧ ((σ 55 26).toInt ≤ (σ 55 12).toInt) ∧ ((-1) ≤ (σ 55 27).toInt ∧ (σ 55 27).toInt ≤ 3) ∧ (∀ k : Nat, k < 4 → 0 ≤ (σ 68 k).toInt ∧ (σ 68 k).toInt ≤ 3) := id hI120
  refine lv_aload_n hx hb dX12_meanWith_0 rfl (lv_at hl 0 rfl) ?_
  refine va_get (D := D) hx hb hts inlX12 hown hK hP 55 (jc_55 cI cL ad σ τ) rfl 11 (of_decide_eq_true rfl) (hts _ kw_7_8) (fun _ h9 => h9) rfl dX12_meanWith_1 ?_
  refine lv_aload_n hx hb dX12_meanWith_4 rfl (lv_at hl 0 rfl) ?_
  refine va_get (D := D) hx hb hts inlX12 hown hK hP 55 (jc_55 cI cL ad σ τ) rfl 25 (of_decide_eq_true rfl) (hts _ kw_23_6) (fun _ h9 => h9) rfl dX12_meanWith_5 ?_
  exact by
   refine jald hx hb hK hP (jc_62 cI cL ad σ τ) (jin rfl (by omega) (by omega)) dX12_meanWith_8 ?_
   have g15 := w7 _ (jnat (x := (σ 55 25)) rfl (n := 8) (by omega) (of_decide_eq_true rfl))
   refine lv_topi (fun x16 ex16 => ?_)
   rw [← ex16] at g15
   refine lv_istore_n (lv' := [(2, .int x16), (0, .ref (ad 55)), (1, .int a1)]) hx hb dX12_meanWith_9 rfl hl (of_decide_eq_true rfl) rfl (fun ls hl => ?_)
   refine lv_aload_n hx hb dX12_meanWith_10 rfl (lv_at hl 1 rfl) ?_
   refine lv_iload_n hx hb dX12_meanWith_11 rfl (lv_at hl 2 rfl) ?_
   refine lv_iload_n hx hb dX12_meanWith_12 rfl (lv_at hl 0 rfl) ?_
   refine jcallV (As := [.int a1, .int x16]) (rest := []) ⟨hx, hb, hml, hown, hts⟩ hK hP hA hS hZ (c_X12_outBy l D cI cL ad zz hJ σ τ a1 (A1) t1 x16 (x16.toInt) rfl hI101 hI102 hI103 hI105 w14 (by omega) (by omega)) cw_RX12_259 (jc_55 cI cL ad σ τ) rfl ⟨by dsimp only; omega, by dsimp only; omega⟩ rfl rfl rfl hl.1 rfl (Nat.le_of_ble_eq_true rfl) dX12_meanWith_13 ⟨Nat.zero_le _, Nat.zero_le _⟩ (fun r18 σ17 τ17 H locs h17 hP hS => ?_)
   exact by
    obtain ⟨rfl, f19, f20, h17⟩ := h17
    have h22 := h17
    obtain ⟨q24, k23⟩ := h22
    refine lv_istore_n (lv' := [(3, .int r18), (2, .int x16), (0, .ref (ad 55)), (1, .int a1)]) hx hb dX12_meanWith_16 rfl hl (of_decide_eq_true rfl) rfl (fun ls hl => ?_)
    refine lv_sipush (v := 1000) hx hb dX12_meanWith_17 (of_decide_eq_true rfl) ?_
    refine lv_aload_n hx hb dX12_meanWith_20 rfl (lv_at hl 2 rfl) ?_
    refine lv_iload_n hx hb dX12_meanWith_21 rfl (lv_at hl 3 rfl) ?_
    refine lv_iload_n hx hb dX12_meanWith_22 rfl (lv_at hl 1 rfl) ?_
    have I25 : jI101 σ17 := jI101_fr (f20 4 (of_decide_eq_true rfl)) (f20 5 (of_decide_eq_true rfl)) (f19 56 (of_decide_eq_true rfl)) (f19 57 (of_decide_eq_true rfl)) (f19 58 (of_decide_eq_true rfl)) (f19 59 (of_decide_eq_true rfl)) hI101
    have I26 : jI102 σ17 := jI102_fr (f20 6 (of_decide_eq_true rfl)) (f19 60 (of_decide_eq_true rfl)) (f19 61 (of_decide_eq_true rfl)) hI102
    have I27 : jI103 σ17 := jI103_fr (f20 9 (of_decide_eq_true rfl)) hI103
    have w28 : ∀ k : Nat, k < 4 → 0 ≤ (σ17 68 k).toInt ∧ (σ17 68 k).toInt ≤ 3 := (jrr_fr (f19 68 (of_decide_eq_true rfl)) w14)
    exact by
     refine jcallV (As := [.int a1, .int x16]) (rest := [.int 1000]) ⟨hx, hb, hml, hown, hts⟩ hK hP hA hS hZ (c_X12_runsBy l D cI cL ad zz hJ σ17 τ a1 (A1) t1 x16 (x16.toInt) rfl I25 I26 I27 w28 (by omega) (by omega)) cw_RX12_262 (jc_55 cI cL ad σ17 τ) rfl ⟨by dsimp only; omega, by dsimp only; omega⟩ rfl rfl rfl hl.1 rfl (Nat.le_of_ble_eq_true rfl) dX12_meanWith_23 ⟨Nat.zero_le _, Nat.zero_le _⟩ (fun r30 σ29 τ29 H locs h29 hP hS => ?_)
     obtain ⟨⟨rfl, rfl⟩, h29⟩ := h29
     have h31 := h29
     obtain ⟨q33, k32⟩ := h31
     have g34 := jrg (rfl : r30.toInt = r30.toInt)
     refine lv_imul hx hb dX12_meanWith_26 ?_
     refine lv_topi (fun x35 ex35 => ?_)
     have tx35 : x35.toInt = 1000 * r30.toInt := (jmul ex35 jz_1000 rfl (by omega) (by omega)).trans (by omega)
     refine lv_istore (lv' := [(4, .int x35), (3, .int r18), (2, .int x16), (0, .ref (ad 55)), (1, .int a1)]) hx hb dX12_meanWith_27 hl (of_decide_eq_true rfl) rfl (fun ls hl => ?_)
     exact by
      refine lv_aload_n hx hb dX12_meanWith_29 rfl (lv_at hl 3 rfl) ?_
      refine lv_iload_n hx hb dX12_meanWith_30 rfl (lv_at hl 4 rfl) ?_
      refine lv_iconst (v := 1) hx hb dX12_meanWith_31 (of_decide_eq_true rfl) ?_
      have z36 : (σ17 55 6).toInt = (σ 55 6).toInt := (congrArg Int32.toInt (show σ17 55 6 = (σ 55 6) from (f20 6 (of_decide_eq_true rfl))))
      have z37 : (σ17 55 27).toInt = (σ 55 27).toInt := (congrArg Int32.toInt (show σ17 55 27 = (σ 55 27) from (f20 27 (of_decide_eq_true rfl))))
      have z38 : (σ17 55 25).toInt = (σ 55 25).toInt := (congrArg Int32.toInt (show σ17 55 25 = (σ 55 25) from (f20 25 (of_decide_eq_true rfl))))
      have z39 : (σ17 55 26).toInt = (σ 55 26).toInt := (congrArg Int32.toInt (show σ17 55 26 = (σ 55 26) from (f20 26 (of_decide_eq_true rfl))))
      have z40 : (σ17 68 0).toInt = (σ 68 0).toInt := (congrArg Int32.toInt (show σ17 68 0 = (σ 68 0) from (congrFun (f19 68 (of_decide_eq_true rfl)) 0)))
      have z41 : (σ17 68 1).toInt = (σ 68 1).toInt := (congrArg Int32.toInt (show σ17 68 1 = (σ 68 1) from (congrFun (f19 68 (of_decide_eq_true rfl)) 1)))
      have z42 : (σ17 68 2).toInt = (σ 68 2).toInt := (congrArg Int32.toInt (show σ17 68 2 = (σ 68 2) from (congrFun (f19 68 (of_decide_eq_true rfl)) 2)))
      have z43 : (σ17 68 3).toInt = (σ 68 3).toInt := (congrArg Int32.toInt (show σ17 68 3 = (σ 68 3) from (congrFun (f19 68 (of_decide_eq_true rfl)) 3)))
      exact by
       refine jcallV (As := [.int a1, .int 1]) (rest := []) ⟨hx, hb, hml, hown, hts⟩ hK hP hA hS hZ (c_X12_goes_1 l D cI cL ad zz hJ σ17 τ a1 (A1) t1 w28 (by omega) (by omega) (by omega) (by omega) (by omega)) cw_RX12_296 (jc_55 cI cL ad σ17 τ) rfl ⟨by dsimp only; omega, by dsimp only; omega⟩ rfl rfl rfl hl.1 rfl (Nat.le_of_ble_eq_true rfl) dX12_meanWith_32 ⟨Nat.zero_le _, Nat.zero_le _⟩ (fun r45 σ44 τ44 H locs h44 hP hS => ?_)
       obtain ⟨rfl, f46, f47, w48, w49, w50, h44⟩ := h44
       obtain ⟨k52, k53, k54, h44⟩ := h44
       have h55 := h44
       obtain ⟨q61, k56, k57, k58, k59, k60⟩ := h55
       refine lv_istore (lv' := [(5, .int r45), (4, .int x35), (3, .int r18), (2, .int x16), (0, .ref (ad 55)), (1, .int a1)]) hx hb dX12_meanWith_35 hl (of_decide_eq_true rfl) rfl (fun ls hl => ?_)
       refine lv_aload_n hx hb dX12_meanWith_37 rfl (lv_at hl 4 rfl) ?_
       have I62 : jI101 σ44 := jI101_fr (f47 4 (of_decide_eq_true rfl)) (f47 5 (of_decide_eq_true rfl)) (f46 56 (of_decide_eq_true rfl)) (f46 57 (of_decide_eq_true rfl)) (f46 58 (of_decide_eq_true rfl)) (f46 59 (of_decide_eq_true rfl)) I25
       have I63 : jI102 σ44 := jI102_fr (f47 6 (of_decide_eq_true rfl)) (f46 60 (of_decide_eq_true rfl)) (f46 61 (of_decide_eq_true rfl)) I26
       have I64 : jI103 σ44 := jI103_fr (f47 9 (of_decide_eq_true rfl)) I27
       have I65 : jI104 σ44 := jI104_fr ((f47 10 (of_decide_eq_true rfl)).trans (f20 10 (of_decide_eq_true rfl))) ((f47 12 (of_decide_eq_true rfl)).trans (f20 12 (of_decide_eq_true rfl))) ((f47 13 (of_decide_eq_true rfl)).trans (f20 13 (of_decide_eq_true rfl))) ((f46 62 (of_decide_eq_true rfl)).trans (f19 62 (of_decide_eq_true rfl))) ((f46 67 (of_decide_eq_true rfl)).trans (f19 67 (of_decide_eq_true rfl))) hI104
       have I66 : jI105 σ44 := jI105_fr ((f47 15 (of_decide_eq_true rfl)).trans (f20 15 (of_decide_eq_true rfl))) ((f46 65 (of_decide_eq_true rfl)).trans (f19 65 (of_decide_eq_true rfl))) hI105
       have I67 : jI106 σ44 := jI106_fr ((f47 32 (of_decide_eq_true rfl)).trans (f20 32 (of_decide_eq_true rfl))) ((f46 70 (of_decide_eq_true rfl)).trans (f19 70 (of_decide_eq_true rfl))) ((f46 71 (of_decide_eq_true rfl)).trans (f19 71 (of_decide_eq_true rfl))) ((f46 72 (of_decide_eq_true rfl)).trans (f19 72 (of_decide_eq_true rfl))) hI106
       have z68 : (σ44 55 10).toInt = (σ 55 10).toInt := (congrArg Int32.toInt (show σ44 55 10 = (σ 55 10) from ((f47 10 (of_decide_eq_true rfl)).trans (f20 10 (of_decide_eq_true rfl)))))
       have z69 : (σ44 55 12).toInt = (σ 55 12).toInt := (congrArg Int32.toInt (show σ44 55 12 = (σ 55 12) from ((f47 12 (of_decide_eq_true rfl)).trans (f20 12 (of_decide_eq_true rfl)))))
       exact by
        have I70 : jI120 σ44 := ⟨(by omega), (by omega), (by omega), (by omega), (by omega), w48⟩
        have p71 : jKept σ44 := jKept.fr ((f46 75 (of_decide_eq_true rfl)).trans (f19 75 (of_decide_eq_true rfl))) ((f46 76 (of_decide_eq_true rfl)).trans (f19 76 (of_decide_eq_true rfl))) ((f46 77 (of_decide_eq_true rfl)).trans (f19 77 (of_decide_eq_true rfl))) hs_jKept
        refine jcallV (As := []) (rest := []) ⟨hx, hb, hml, hown, hts⟩ hK hP hA hS hZ (h_bf σ44 τ I62 I63 I64 I65 I66 I67 I70 p71 (by omega)) cw_RX12_280 (jc_55 cI cL ad σ44 τ) rfl ⟨by dsimp only; omega, by dsimp only; omega⟩ rfl rfl rfl hl.1 rfl (Nat.le_of_ble_eq_true rfl) dX12_meanWith_38 ⟨Nat.zero_le _, Nat.zero_le _⟩ (fun r73 σ72 τ72 H locs h72 hP hS => ?_)
        obtain ⟨rfl, f74, f75, p76, h72⟩ := h72
        obtain ⟨k78, h72⟩ := h72
        have h79 := h72
        obtain ⟨q81, k80⟩ := h79
        refine lv_istore (lv' := [(6, .int r73), (5, .int r45), (4, .int x35), (3, .int r18), (2, .int x16), (0, .ref (ad 55)), (1, .int a1)]) hx hb dX12_meanWith_41 hl (of_decide_eq_true rfl) rfl (fun ls hl => ?_)
        refine lv_aload_n hx hb dX12_meanWith_43 rfl (lv_at hl 5 rfl) ?_
        exact by
         refine lv_iload_n hx hb dX12_meanWith_44 rfl (lv_at hl 6 rfl) ?_
         refine lv_iconst (v := 1) hx hb dX12_meanWith_45 (of_decide_eq_true rfl) ?_
         refine lv_iload hx hb dX12_meanWith_46 (lv_at hl 1 rfl) ?_
         have w82 : ∀ k : Nat, k < 4 → 0 ≤ (σ72 68 k).toInt ∧ (σ72 68 k).toInt ≤ 3 := (jrr_fr (f74 68 (of_decide_eq_true rfl)) w48)
         have z83 : (σ72 55 25).toInt = (σ44 55 25).toInt := (congrArg Int32.toInt (show σ72 55 25 = (σ44 55 25) from (f75 25 (of_decide_eq_true rfl))))
         have z84 : (σ72 55 26).toInt = (σ44 55 26).toInt := (congrArg Int32.toInt (show σ72 55 26 = (σ44 55 26) from (f75 26 (of_decide_eq_true rfl))))
         have z85 : (σ72 55 6).toInt = (σ 55 6).toInt := (congrArg Int32.toInt (show σ72 55 6 = (σ 55 6) from ((f75 6 (of_decide_eq_true rfl)).trans ((f47 6 (of_decide_eq_true rfl)).trans (f20 6 (of_decide_eq_true rfl))))))
         have w86 : ∀ k : Nat, k < 4 → 0 ≤ (σ17 68 k).toInt ∧ (σ17 68 k).toInt ≤ 3 := w28
         have z88 : (σ17 55 27).toInt = (σ 55 27).toInt := (congrArg Int32.toInt (show σ17 55 27 = (σ 55 27) from (f20 27 (of_decide_eq_true rfl))))
         exact by
          have k87 := jwas (by omega) (w86 0 (of_decide_eq_true rfl)) (w86 1 (of_decide_eq_true rfl)) (w86 2 (of_decide_eq_true rfl)) (w86 3 (of_decide_eq_true rfl)) k56
          rw [← (show σ72 55 6 = σ17 55 6 from ((f75 6 (of_decide_eq_true rfl)).trans (f47 6 (of_decide_eq_true rfl))))] at k87
          refine jcallVv (As := [.int a1, .int 1, .int r45]) (rest := []) ⟨hx, hb, hml, hown, hts⟩ hK hP hA hS hZ (c_X12_goesBack_1 l D cI cL ad zz hJ σ72 τ a1 (A1) t1 r45 (r45.toInt) rfl w82 (by omega) (by omega) (by omega) k87) cw_RX12_300 (jc_55 cI cL ad σ72 τ) rfl ⟨by dsimp only; omega, by dsimp only; omega⟩ rfl rfl rfl hl.1 rfl (Nat.le_of_ble_eq_true rfl) dX12_meanWith_48 ⟨Nat.zero_le _, Nat.zero_le _⟩ (fun σ89 τ89 H locs h89 hP hS => ?_)
          obtain ⟨rfl, f91, f92, w93, w94, w95, h89⟩ := h89
          obtain ⟨k97, k98, k99, k100, h89⟩ := h89
          have p101 : jKept σ89 := jKept.fr (f91 75 (of_decide_eq_true rfl)) (f91 76 (of_decide_eq_true rfl)) (f91 77 (of_decide_eq_true rfl)) p76
          have e102 : σ72 69 = σ44 69 := (f74 69 (of_decide_eq_true rfl))
          have e103 : σ89 69 = σ17 69 := jback69 w49 e102 w94
          have e104 : σ72 68 = σ44 68 := (f74 68 (of_decide_eq_true rfl))
          exact by
           have e105 : σ72 55 6 = σ17 55 6 := ((f75 6 (of_decide_eq_true rfl)).trans (f47 6 (of_decide_eq_true rfl)))
           have w113 : ∀ k : Nat, k < 4 → 0 ≤ (σ17 68 k).toInt ∧ (σ17 68 k).toInt ≤ 3 := w28
           have w114 : ∀ k : Nat, k < 4 → 0 ≤ (σ89 68 k).toInt ∧ (σ89 68 k).toInt ≤ 3 := w93
           have k115 := k100
           rw [e105] at k115
           have D106 := jdig (w113 0 (of_decide_eq_true rfl)) (w113 1 (of_decide_eq_true rfl)) (w113 2 (of_decide_eq_true rfl)) (w113 3 (of_decide_eq_true rfl)) (w114 0 (of_decide_eq_true rfl)) (w114 1 (of_decide_eq_true rfl)) (w114 2 (of_decide_eq_true rfl)) (w114 3 (of_decide_eq_true rfl)) k56 k115
           have e107 : σ89 55 27 = σ17 55 27 := Int32.toInt_inj.mp (by have h9 := D106.1; omega)
           have z116 : (σ72 55 26).toInt = (σ44 55 26).toInt := (congrArg Int32.toInt (show σ72 55 26 = (σ44 55 26) from (f75 26 (of_decide_eq_true rfl))))
           have z117 : (σ17 55 26).toInt = (σ 55 26).toInt := (congrArg Int32.toInt (show σ17 55 26 = (σ 55 26) from (f20 26 (of_decide_eq_true rfl))))
           exact by
            have z118 : (σ72 55 25).toInt = (σ44 55 25).toInt := (congrArg Int32.toInt (show σ72 55 25 = (σ44 55 25) from (f75 25 (of_decide_eq_true rfl))))
            have z119 : (σ17 55 25).toInt = (σ 55 25).toInt := (congrArg Int32.toInt (show σ17 55 25 = (σ 55 25) from (f20 25 (of_decide_eq_true rfl))))
            have e108 : σ89 55 26 = σ17 55 26 := Int32.toInt_inj.mp (by omega)
            have e109 : σ89 55 25 = σ17 55 25 := Int32.toInt_inj.mp (by omega)
            have z120 : (σ17 55 6).toInt = (σ 55 6).toInt := (congrArg Int32.toInt (show σ17 55 6 = (σ 55 6) from (f20 6 (of_decide_eq_true rfl))))
            have e110 : σ89 68 = σ17 68 := jback68 (nb := (σ17 55 6).toInt) (by omega) w50 e104 (fun k hk => w95 k (by rw [e105]; exact hk)) D106.2
            have f111 : (∀ i : Nat, (i < 55 ∨ 55 < i) ∧ (i < 66 ∨ 66 < i) ∧ (i < 74 ∨ 78 < i) → σ89 i = σ17 i) := fun i hi0 => by
              by_cases h8 : i = 68
              · rw [h8]; exact e110
              by_cases h9 : i = 69
              · rw [h9]; exact e103
              exact by
               have hi : ((i < 55 ∨ 55 < i) ∧ (i < 66 ∨ 66 < i) ∧ (i < 74 ∨ 78 < i)) ∧ i ≠ 68 ∧ i ≠ 69 := ⟨hi0, h8, h9⟩
               exact ((f91 i (imp_200 i hi)).trans ((f74 i (imp_201 i hi)).trans (f46 i (imp_200 i hi))))
            have f112 : ∀ i : Nat, (i < 18 ∨ 18 < i) ∧ (i < 19 ∨ 19 < i) ∧ (i < 20 ∨ 20 < i) ∧ (i < 21 ∨ 21 < i) ∧ (i < 22 ∨ 22 < i) ∧ (i < 37 ∨ 37 < i) → σ89 55 i = σ17 55 i := fun i hi0 => by
              by_cases h25 : i = 25
              · rw [h25]; exact e109
              by_cases h26 : i = 26
              · rw [h26]; exact e108
              by_cases h27 : i = 27
              · rw [h27]; exact e107
              have hi : ((i < 18 ∨ 18 < i) ∧ (i < 19 ∨ 19 < i) ∧ (i < 20 ∨ 20 < i) ∧ (i < 21 ∨ 21 < i) ∧ (i < 22 ∨ 22 < i) ∧ (i < 37 ∨ 37 < i)) ∧ i ≠ 25 ∧ i ≠ 26 ∧ i ≠ 27 := ⟨hi0, h25, h26, h27⟩
              exact ((f92 i (imp_202 i hi)).trans ((f75 i (imp_203 i hi)).trans (f47 i (imp_202 i hi))))
            clear k115 k100 k56
            refine lv_aload_n hx hb dX12_meanWith_51 rfl (lv_at hl 5 rfl) ?_
            refine lv_iload_n hx hb dX12_meanWith_52 rfl (lv_at hl 6 rfl) ?_
            refine lv_iconst (v := 0) hx hb dX12_meanWith_53 (of_decide_eq_true rfl) ?_
            have w121 : ∀ k : Nat, k < 4 → 0 ≤ (σ89 68 k).toInt ∧ (σ89 68 k).toInt ≤ 3 := (jrr_fr (f111 68 (of_decide_eq_true rfl)) w28)
            have z122 : (σ89 55 6).toInt = (σ 55 6).toInt := (congrArg Int32.toInt (show σ89 55 6 = (σ 55 6) from ((f112 6 (of_decide_eq_true rfl)).trans (f20 6 (of_decide_eq_true rfl)))))
            have z123 : (σ89 55 27).toInt = (σ 55 27).toInt := (congrArg Int32.toInt (show σ89 55 27 = (σ 55 27) from ((f112 27 (of_decide_eq_true rfl)).trans (f20 27 (of_decide_eq_true rfl)))))
            have z124 : (σ89 55 25).toInt = (σ 55 25).toInt := (congrArg Int32.toInt (show σ89 55 25 = (σ 55 25) from ((f112 25 (of_decide_eq_true rfl)).trans (f20 25 (of_decide_eq_true rfl)))))
            have z125 : (σ89 55 26).toInt = (σ 55 26).toInt := (congrArg Int32.toInt (show σ89 55 26 = (σ 55 26) from ((f112 26 (of_decide_eq_true rfl)).trans (f20 26 (of_decide_eq_true rfl)))))
            have z126 : (σ89 68 0).toInt = (σ 68 0).toInt := (congrArg Int32.toInt (show σ89 68 0 = (σ 68 0) from ((congrFun (f111 68 (of_decide_eq_true rfl)) 0).trans (congrFun (f19 68 (of_decide_eq_true rfl)) 0))))
            have z127 : (σ89 68 1).toInt = (σ 68 1).toInt := (congrArg Int32.toInt (show σ89 68 1 = (σ 68 1) from ((congrFun (f111 68 (of_decide_eq_true rfl)) 1).trans (congrFun (f19 68 (of_decide_eq_true rfl)) 1))))
            have z128 : (σ89 68 2).toInt = (σ 68 2).toInt := (congrArg Int32.toInt (show σ89 68 2 = (σ 68 2) from ((congrFun (f111 68 (of_decide_eq_true rfl)) 2).trans (congrFun (f19 68 (of_decide_eq_true rfl)) 2))))
            have z129 : (σ89 68 3).toInt = (σ 68 3).toInt := (congrArg Int32.toInt (show σ89 68 3 = (σ 68 3) from ((congrFun (f111 68 (of_decide_eq_true rfl)) 3).trans (congrFun (f19 68 (of_decide_eq_true rfl)) 3))))
            exact by
             refine jcallV (As := [.int a1, .int 0]) (rest := []) ⟨hx, hb, hml, hown, hts⟩ hK hP hA hS hZ (c_X12_goes_0 l D cI cL ad zz hJ σ89 τ a1 (A1) t1 w121 (by omega) (by omega) (by omega) (by omega) (by omega)) cw_RX12_296 (jc_55 cI cL ad σ89 τ) rfl ⟨by dsimp only; omega, by dsimp only; omega⟩ rfl rfl rfl hl.1 rfl (Nat.le_of_ble_eq_true rfl) dX12_meanWith_54 ⟨Nat.zero_le _, Nat.zero_le _⟩ (fun r131 σ130 τ130 H locs h130 hP hS => ?_)
             obtain ⟨rfl, f132, f133, w134, w135, w136, h130⟩ := h130
             obtain ⟨k138, k139, k140, h130⟩ := h130
             have h141 := h130
             obtain ⟨q147, k142, k143, k144, k145, k146⟩ := h141
             refine lv_istore (lv' := [(5, .int r131), (6, .int r73), (4, .int x35), (3, .int r18), (2, .int x16), (0, .ref (ad 55)), (1, .int a1)]) hx hb dX12_meanWith_57 hl (of_decide_eq_true rfl) rfl (fun ls hl => ?_)
             refine lv_aload_n hx hb dX12_meanWith_59 rfl (lv_at hl 5 rfl) ?_
             have I148 : jI101 σ130 := jI101_fr ((f133 4 (of_decide_eq_true rfl)).trans (f112 4 (of_decide_eq_true rfl))) ((f133 5 (of_decide_eq_true rfl)).trans (f112 5 (of_decide_eq_true rfl))) ((f132 56 (of_decide_eq_true rfl)).trans (f111 56 (of_decide_eq_true rfl))) ((f132 57 (of_decide_eq_true rfl)).trans (f111 57 (of_decide_eq_true rfl))) ((f132 58 (of_decide_eq_true rfl)).trans (f111 58 (of_decide_eq_true rfl))) ((f132 59 (of_decide_eq_true rfl)).trans (f111 59 (of_decide_eq_true rfl))) I25
             have I149 : jI102 σ130 := jI102_fr ((f133 6 (of_decide_eq_true rfl)).trans (f112 6 (of_decide_eq_true rfl))) ((f132 60 (of_decide_eq_true rfl)).trans (f111 60 (of_decide_eq_true rfl))) ((f132 61 (of_decide_eq_true rfl)).trans (f111 61 (of_decide_eq_true rfl))) I26
             have I150 : jI103 σ130 := jI103_fr ((f133 9 (of_decide_eq_true rfl)).trans (f112 9 (of_decide_eq_true rfl))) I27
             have I151 : jI104 σ130 := jI104_fr ((f133 10 (of_decide_eq_true rfl)).trans ((f112 10 (of_decide_eq_true rfl)).trans (f20 10 (of_decide_eq_true rfl)))) ((f133 12 (of_decide_eq_true rfl)).trans ((f112 12 (of_decide_eq_true rfl)).trans (f20 12 (of_decide_eq_true rfl)))) ((f133 13 (of_decide_eq_true rfl)).trans ((f112 13 (of_decide_eq_true rfl)).trans (f20 13 (of_decide_eq_true rfl)))) ((f132 62 (of_decide_eq_true rfl)).trans ((f111 62 (of_decide_eq_true rfl)).trans (f19 62 (of_decide_eq_true rfl)))) ((f132 67 (of_decide_eq_true rfl)).trans ((f111 67 (of_decide_eq_true rfl)).trans (f19 67 (of_decide_eq_true rfl)))) hI104
             have I152 : jI105 σ130 := jI105_fr ((f133 15 (of_decide_eq_true rfl)).trans ((f112 15 (of_decide_eq_true rfl)).trans (f20 15 (of_decide_eq_true rfl)))) ((f132 65 (of_decide_eq_true rfl)).trans ((f111 65 (of_decide_eq_true rfl)).trans (f19 65 (of_decide_eq_true rfl)))) hI105
             have I153 : jI106 σ130 := jI106_fr ((f133 32 (of_decide_eq_true rfl)).trans ((f112 32 (of_decide_eq_true rfl)).trans (f20 32 (of_decide_eq_true rfl)))) ((f132 70 (of_decide_eq_true rfl)).trans ((f111 70 (of_decide_eq_true rfl)).trans (f19 70 (of_decide_eq_true rfl)))) ((f132 71 (of_decide_eq_true rfl)).trans ((f111 71 (of_decide_eq_true rfl)).trans (f19 71 (of_decide_eq_true rfl)))) ((f132 72 (of_decide_eq_true rfl)).trans ((f111 72 (of_decide_eq_true rfl)).trans (f19 72 (of_decide_eq_true rfl)))) hI106
             have z154 : (σ130 55 10).toInt = (σ 55 10).toInt := (congrArg Int32.toInt (show σ130 55 10 = (σ 55 10) from ((f133 10 (of_decide_eq_true rfl)).trans ((f112 10 (of_decide_eq_true rfl)).trans (f20 10 (of_decide_eq_true rfl))))))
             have z155 : (σ130 55 12).toInt = (σ 55 12).toInt := (congrArg Int32.toInt (show σ130 55 12 = (σ 55 12) from ((f133 12 (of_decide_eq_true rfl)).trans ((f112 12 (of_decide_eq_true rfl)).trans (f20 12 (of_decide_eq_true rfl))))))
             exact by
              have I156 : jI120 σ130 := ⟨(by omega), (by omega), (by omega), (by omega), (by omega), w134⟩
              have p157 : jKept σ130 := jKept.fr (f132 75 (of_decide_eq_true rfl)) (f132 76 (of_decide_eq_true rfl)) (f132 77 (of_decide_eq_true rfl)) p101
              refine jcallV (As := []) (rest := []) ⟨hx, hb, hml, hown, hts⟩ hK hP hA hS hZ (h_bf σ130 τ I148 I149 I150 I151 I152 I153 I156 p157 (by omega)) cw_RX12_280 (jc_55 cI cL ad σ130 τ) rfl ⟨by dsimp only; omega, by dsimp only; omega⟩ rfl rfl rfl hl.1 rfl (Nat.le_of_ble_eq_true rfl) dX12_meanWith_60 ⟨Nat.zero_le _, Nat.zero_le _⟩ (fun r159 σ158 τ158 H locs h158 hP hS => ?_)
              obtain ⟨rfl, f160, f161, p162, h158⟩ := h158
              obtain ⟨k164, h158⟩ := h158
              have h165 := h158
              obtain ⟨q167, k166⟩ := h165
              refine lv_istore (lv' := [(7, .int r159), (5, .int r131), (6, .int r73), (4, .int x35), (3, .int r18), (2, .int x16), (0, .ref (ad 55)), (1, .int a1)]) hx hb dX12_meanWith_63 hl (of_decide_eq_true rfl) rfl (fun ls hl => ?_)
              refine lv_aload_n hx hb dX12_meanWith_65 rfl (lv_at hl 6 rfl) ?_
              exact by
               refine lv_iload_n hx hb dX12_meanWith_66 rfl (lv_at hl 7 rfl) ?_
               refine lv_iconst (v := 0) hx hb dX12_meanWith_67 (of_decide_eq_true rfl) ?_
               refine lv_iload hx hb dX12_meanWith_68 (lv_at hl 1 rfl) ?_
               have w168 : ∀ k : Nat, k < 4 → 0 ≤ (σ158 68 k).toInt ∧ (σ158 68 k).toInt ≤ 3 := (jrr_fr (f160 68 (of_decide_eq_true rfl)) w134)
               have z169 : (σ158 55 25).toInt = (σ130 55 25).toInt := (congrArg Int32.toInt (show σ158 55 25 = (σ130 55 25) from (f161 25 (of_decide_eq_true rfl))))
               have z170 : (σ158 55 26).toInt = (σ130 55 26).toInt := (congrArg Int32.toInt (show σ158 55 26 = (σ130 55 26) from (f161 26 (of_decide_eq_true rfl))))
               have z171 : (σ158 55 6).toInt = (σ 55 6).toInt := (congrArg Int32.toInt (show σ158 55 6 = (σ 55 6) from ((f161 6 (of_decide_eq_true rfl)).trans ((f133 6 (of_decide_eq_true rfl)).trans ((f112 6 (of_decide_eq_true rfl)).trans (f20 6 (of_decide_eq_true rfl)))))))
               have w172 : ∀ k : Nat, k < 4 → 0 ≤ (σ89 68 k).toInt ∧ (σ89 68 k).toInt ≤ 3 := w121
               have z174 : (σ89 55 27).toInt = (σ 55 27).toInt := (congrArg Int32.toInt (show σ89 55 27 = (σ 55 27) from ((f112 27 (of_decide_eq_true rfl)).trans (f20 27 (of_decide_eq_true rfl)))))
               exact by
                have k173 := jwas (by omega) (w172 0 (of_decide_eq_true rfl)) (w172 1 (of_decide_eq_true rfl)) (w172 2 (of_decide_eq_true rfl)) (w172 3 (of_decide_eq_true rfl)) k142
                rw [← (show σ158 55 6 = σ89 55 6 from ((f161 6 (of_decide_eq_true rfl)).trans (f133 6 (of_decide_eq_true rfl))))] at k173
                refine jcallVv (As := [.int a1, .int 0, .int r131]) (rest := []) ⟨hx, hb, hml, hown, hts⟩ hK hP hA hS hZ (c_X12_goesBack_0 l D cI cL ad zz hJ σ158 τ a1 (A1) t1 r131 (r131.toInt) rfl w168 (by omega) (by omega) (by omega) k173) cw_RX12_300 (jc_55 cI cL ad σ158 τ) rfl ⟨by dsimp only; omega, by dsimp only; omega⟩ rfl rfl rfl hl.1 rfl (Nat.le_of_ble_eq_true rfl) dX12_meanWith_70 ⟨Nat.zero_le _, Nat.zero_le _⟩ (fun σ175 τ175 H locs h175 hP hS => ?_)
                obtain ⟨rfl, f177, f178, w179, w180, w181, h175⟩ := h175
                obtain ⟨k183, k184, k185, k186, h175⟩ := h175
                have p187 : jKept σ175 := jKept.fr (f177 75 (of_decide_eq_true rfl)) (f177 76 (of_decide_eq_true rfl)) (f177 77 (of_decide_eq_true rfl)) p162
                have e188 : σ158 69 = σ130 69 := (f160 69 (of_decide_eq_true rfl))
                have e189 : σ175 69 = σ89 69 := jback69 w135 e188 w180
                have e190 : σ158 68 = σ130 68 := (f160 68 (of_decide_eq_true rfl))
                exact by
                 have e191 : σ158 55 6 = σ89 55 6 := ((f161 6 (of_decide_eq_true rfl)).trans (f133 6 (of_decide_eq_true rfl)))
                 have w199 : ∀ k : Nat, k < 4 → 0 ≤ (σ89 68 k).toInt ∧ (σ89 68 k).toInt ≤ 3 := w121
                 have w200 : ∀ k : Nat, k < 4 → 0 ≤ (σ175 68 k).toInt ∧ (σ175 68 k).toInt ≤ 3 := w179
                 have k201 := k186
                 rw [e191] at k201
                 have D192 := jdig (w199 0 (of_decide_eq_true rfl)) (w199 1 (of_decide_eq_true rfl)) (w199 2 (of_decide_eq_true rfl)) (w199 3 (of_decide_eq_true rfl)) (w200 0 (of_decide_eq_true rfl)) (w200 1 (of_decide_eq_true rfl)) (w200 2 (of_decide_eq_true rfl)) (w200 3 (of_decide_eq_true rfl)) k142 k201
                 have e193 : σ175 55 27 = σ89 55 27 := Int32.toInt_inj.mp (by have h9 := D192.1; omega)
                 have z202 : (σ158 55 26).toInt = (σ130 55 26).toInt := (congrArg Int32.toInt (show σ158 55 26 = (σ130 55 26) from (f161 26 (of_decide_eq_true rfl))))
                 have z203 : (σ89 55 26).toInt = (σ 55 26).toInt := (congrArg Int32.toInt (show σ89 55 26 = (σ 55 26) from ((f112 26 (of_decide_eq_true rfl)).trans (f20 26 (of_decide_eq_true rfl)))))
                 exact by
                  have z204 : (σ158 55 25).toInt = (σ130 55 25).toInt := (congrArg Int32.toInt (show σ158 55 25 = (σ130 55 25) from (f161 25 (of_decide_eq_true rfl))))
                  have z205 : (σ89 55 25).toInt = (σ 55 25).toInt := (congrArg Int32.toInt (show σ89 55 25 = (σ 55 25) from ((f112 25 (of_decide_eq_true rfl)).trans (f20 25 (of_decide_eq_true rfl)))))
                  have e194 : σ175 55 26 = σ89 55 26 := Int32.toInt_inj.mp (by omega)
                  have e195 : σ175 55 25 = σ89 55 25 := Int32.toInt_inj.mp (by omega)
                  have z206 : (σ89 55 6).toInt = (σ 55 6).toInt := (congrArg Int32.toInt (show σ89 55 6 = (σ 55 6) from ((f112 6 (of_decide_eq_true rfl)).trans (f20 6 (of_decide_eq_true rfl)))))
                  have e196 : σ175 68 = σ89 68 := jback68 (nb := (σ89 55 6).toInt) (by omega) w136 e190 (fun k hk => w181 k (by rw [e191]; exact hk)) D192.2
                  have f197 : (∀ i : Nat, (i < 55 ∨ 55 < i) ∧ (i < 66 ∨ 66 < i) ∧ (i < 74 ∨ 78 < i) → σ175 i = σ89 i) := fun i hi0 => by
                    by_cases h8 : i = 68
                    · rw [h8]; exact e196
                    by_cases h9 : i = 69
                    · rw [h9]; exact e189
                    exact by
                     have hi : ((i < 55 ∨ 55 < i) ∧ (i < 66 ∨ 66 < i) ∧ (i < 74 ∨ 78 < i)) ∧ i ≠ 68 ∧ i ≠ 69 := ⟨hi0, h8, h9⟩
                     exact ((f177 i (imp_200 i hi)).trans ((f160 i (imp_201 i hi)).trans (f132 i (imp_200 i hi))))
                  have f198 : ∀ i : Nat, (i < 18 ∨ 18 < i) ∧ (i < 19 ∨ 19 < i) ∧ (i < 20 ∨ 20 < i) ∧ (i < 21 ∨ 21 < i) ∧ (i < 22 ∨ 22 < i) ∧ (i < 37 ∨ 37 < i) → σ175 55 i = σ89 55 i := fun i hi0 => by
                    by_cases h25 : i = 25
                    · rw [h25]; exact e195
                    by_cases h26 : i = 26
                    · rw [h26]; exact e194
                    by_cases h27 : i = 27
                    · rw [h27]; exact e193
                    have hi : ((i < 18 ∨ 18 < i) ∧ (i < 19 ∨ 19 < i) ∧ (i < 20 ∨ 20 < i) ∧ (i < 21 ∨ 21 < i) ∧ (i < 22 ∨ 22 < i) ∧ (i < 37 ∨ 37 < i)) ∧ i ≠ 25 ∧ i ≠ 26 ∧ i ≠ 27 := ⟨hi0, h25, h26, h27⟩
                    exact ((f178 i (imp_202 i hi)).trans ((f161 i (imp_203 i hi)).trans (f133 i (imp_202 i hi))))
                  clear k201 k186 k142
                  refine lv_iload hx hb dX12_meanWith_73 (lv_at hl 3 rfl) ?_
                  refine lv_sipush (v := 1000) hx hb dX12_meanWith_75 (of_decide_eq_true rfl) ?_
                  refine lv_aload_n hx hb dX12_meanWith_78 rfl (lv_at hl 6 rfl) ?_
                  refine va_get (D := D) hx hb hts inlX12 hown hK hP 55 (jc_55 cI cL ad σ175 τ) rfl 13 (of_decide_eq_true rfl) (hts _ kw_15_14) (fun _ h9 => h9) rfl dX12_meanWith_79 ?_
                  have m207 : σ175 55 13 = (σ 55 13) := ((f198 13 (of_decide_eq_true rfl)).trans ((f112 13 (of_decide_eq_true rfl)).trans (f20 13 (of_decide_eq_true rfl))))
                  refine jtopr m207 ?_
                  have g208 := jrg (rfl : (σ 55 13).toInt = (σ 55 13).toInt)
                  refine lv_isub hx hb dX12_meanWith_82 ?_
                  refine lv_topi (fun x209 ex209 => ?_)
                  exact by
                   have tx209 : x209.toInt = -(σ 55 13).toInt + 1000 := (jsub ex209 jz_1000 rfl (by omega) (by omega)).trans (by omega)
                   refine lv_i2l (v := x209.toInt64) hx hb dX12_meanWith_83 rfl ?_
                   refine lv_iload hx hb dX12_meanWith_84 (lv_at hl 2 rfl) ?_
                   refine lv_iload hx hb dX12_meanWith_86 (lv_at hl 0 rfl) ?_
                   refine lv_iload_n hx hb dX12_meanWith_88 rfl (lv_at hl 4 rfl) ?_
                   refine jcallS (As := [.int r73, .int r159, .int r18]) (rest := [.long x209.toInt64, .int x35]) ⟨hx, hb, hml, hown, hts⟩ hK hP hA hS hZ (c_X12_mixed_b l D cI cL ad zz hJ σ175 τ r73 (r73.toInt) rfl r159 (r159.toInt) rfl r18 (r18.toInt) rfl (by omega) (by omega) (by omega)) cw_RX12_304 ⟨by dsimp only; omega, by dsimp only; omega⟩ rfl rfl rfl hl.1 rfl (Nat.le_of_ble_eq_true rfl) dX12_meanWith_89 ⟨Nat.zero_le _, Nat.zero_le _⟩ (fun r211 σ210 τ210 H locs h210 hP hS => ?_)
                   obtain ⟨⟨rfl, rfl⟩, h210⟩ := h210
                   have h212 := h210
                   obtain ⟨q215, k213, k214⟩ := h212
                   exact by
                    refine lv_i2l (v := r211.toInt64) hx hb dX12_meanWith_92 rfl ?_
                    refine lv_lmul hx hb dX12_meanWith_93 ?_
                    refine lv_topl (fun lx216 elx216 => ?_)
                    have g217 := jprod (a := 1000) (b := 11253000) (jtoL tx209) (jtoL rfl) (by omega) (by omega) (by omega) (by omega)
                    have tlx216 : lx216.toInt = ((-(σ 55 13).toInt + 1000) * r211.toInt) := jlmul elx216 (jtoL tx209) (jtoL rfl) (by omega) (by omega)
                    refine lv_ldc2 (v := 1000) hx hb hown (hts _ kw_34_19) dX12_meanWith_94 ?_
                    refine lv_ldiv hx hb dX12_meanWith_97 (of_decide_eq_true rfl) ?_
                    refine lv_topl (fun lx218 elx218 => ?_)
                    have tlx218 : lx218.toInt = ((((-(σ 55 13).toInt + 1000) * r211.toInt)) / 1000) := jldiv elx218 tlx216 jzl_1000 (by omega) (by omega)
                    exact by
                     refine lv_l2i hx hb dX12_meanWith_98 rfl ?_
                     refine lv_topi (fun x219 ex219 => ?_)
                     have tx219 : x219.toInt = ((((-(σ 55 13).toInt + 1000) * r211.toInt)) / 1000) := jtoI ex219 tlx218 (by omega) (by omega)
                     refine lv_iadd hx hb dX12_meanWith_99 ?_
                     refine lv_topi (fun x220 ex220 => ?_)
                     have tx220 : x220.toInt = 1000 * r30.toInt + ((((-(σ 55 13).toInt + 1000) * r211.toInt)) / 1000) := (jadd ex220 tx35 tx219 (by omega) (by omega)).trans (by omega)
                     exact hret x220 σ175 τ _ _ _ _ rfl ⟨rfl, (fun i hi => ((f197 i hi).trans ((f111 i hi).trans (f19 i (imp_204 i hi))))), (fun i hi => ((f198 i hi).trans ((f112 i hi).trans (f20 i (imp_205 i hi))))), p187, ⟨trivial, (by have h9 := tx220; omega)⟩⟩ hP hS dX12_meanWith_100
set_option maxHeartbeats 4000000 in
set_option maxRecDepth 100000 in
theorem c_X12_bests_mean_z (l : Launch) (D : va_G) (cI cL : ClassId) (ad zz : Nat → Nat) (hJ : jD ad) (σ : Nat → Nat → Int32) (τ : Nat → Nat → Int64) (a1 : Int32) (A1 : Int) (t1 : a1.toInt = A1) (hI101 : jI101 σ) (hI102 : jI102 σ) (hI103 : jI103 σ) (hI104 : jI104 σ) (hI105 : jI105 σ) (hI106 : jI106 σ) (hI120 : jI120 σ) (hs_jKept : jKept σ) (hp0 : 0 ≤ A1 ∧ A1 ≤ 3) (hp1 : (σ 55 25).toInt < (σ 55 10).toInt) (hp2 : (σ 55 26).toInt < (σ 55 12).toInt) (hp3 : (σ 55 12).toInt - (σ 55 26).toInt ≤ (((0) : Nat) : Int)) : jM l yX12_meanWith cX12_meanWith 8 (some .int) ({ frames := (69 + 4 * (0)), cells := 0, slots := 0, locals := (3034 + 240 * (0)) }) D cI cL ad zz [.ref (ad 55), .int a1] σ τ (fun r σ' τ' => τ = τ' ∧ (∀ i : Nat, (i < 55 ∨ 55 < i) ∧ (i < 66 ∨ 66 < i) ∧ (i < 74 ∨ 78 < i) → σ' i = σ i) ∧ (∀ k : Nat, (k < 18 ∨ 18 < k) ∧ (k < 19 ∨ 19 < k) ∧ (k < 20 ∨ 20 < k) ∧ (k < 21 ∨ 21 < k) ∧ (k < 22 ∨ 22 < k) ∧ (k < 37 ∨ 37 < k) → σ' 55 k = σ 55 k) ∧ (jKept σ') ∧ ((True ∧ (0 ≤ r.toInt ∧ r.toInt ≤ -(1023000 * (σ 55 26).toInt) + 12276000)))) := by
  refine jM.of hJ (by decide +kernel) (nt := .int) rfl (Nat.le_of_ble_eq_true rfl) ?_
  intro p e s m args below meth c Q ls hC hret hl hP
  obtain ⟨hx, hb, hr, hml, hown, hts, hK, -, hlocks, hZ⟩ := hC
  have hown : s.vm.findClass RX12 = some m.cls := hown
  have hS : va_S (jA ad) s.heap s.heap [] := va_S.rf
  have hA : ∀ q, jA ad q → jA ad q := fun _ h => h
  have hl : lv_has ls 8 [(0, .ref (ad 55)), (1, .int a1)] := hl
  have g1 := jrg t1
  obtain ⟨i1, w2, w3⟩ : (0 ≤ (σ 55 6).toInt ∧ (σ 55 6).toInt ≤ 4) ∧ (∀ k : Nat, k < 4 → 0 ≤ (σ 60 k).toInt ∧ (σ 60 k).toInt ≤ 50) ∧ (∀ k : Nat, k < 4 → 0 ≤ (σ 61 k).toInt ∧ (σ 61 k).toInt ≤ 20) := id hI102
  obtain ⟨i4, i5, i6, w7, w8⟩ : (1 ≤ (σ 55 10).toInt ∧ (σ 55 10).toInt ≤ 8) ∧ (1 ≤ (σ 55 12).toInt ∧ (σ 55 12).toInt ≤ 12) ∧ (0 ≤ (σ 55 13).toInt ∧ (σ 55 13).toInt ≤ 999) ∧ (∀ k : Nat, k < 8 → 0 ≤ (σ 62 k).toInt ∧ (σ 62 k).toInt ≤ 3) ∧ (∀ k : Nat, k < 8 → 0 ≤ (σ 67 k).toInt ∧ (σ 67 k).toInt ≤ 3) := id hI104
  obtain ⟨i9, i10, i11, i12, i13, w14⟩ : (0 ≤ (σ 55 25).toInt) ∧ ((σ 55 25).toInt ≤ (σ 55 10).toInt) ∧ (0 ≤ (σ 55 26).toInt) ∧ ((σ 55 26).toInt ≤ (σ 55 12).toInt) ∧ ((-1) ≤ (σ 55 27).toInt ∧ (σ 55 27).toInt ≤ 3) ∧ (∀ k : Nat, k < 4 → 0 ≤ (σ 68 k).toInt ∧ (σ 68 k).toInt ≤ 3) := id hI120
  exact absurd (by omega : False) id
set_option maxHeartbeats 4000000 in
set_option maxRecDepth 100000 in
theorem c_X12_bests_bf_g (l : Launch) (D : va_G) (cI cL : ClassId) (ad zz : Nat → Nat) (hJ : jD ad) (n : Nat) (h_mean : ∀ (σ : Nat → Nat → Int32) (τ : Nat → Nat → Int64) (a1 : Int32) (A1 : Int) (t1 : a1.toInt = A1) (hI101 : jI101 σ) (hI102 : jI102 σ) (hI103 : jI103 σ) (hI104 : jI104 σ) (hI105 : jI105 σ) (hI106 : jI106 σ) (hI120 : jI120 σ) (hs_jKept : jKept σ) (hp0 : 0 ≤ A1 ∧ A1 ≤ 3) (hp1 : (σ 55 25).toInt < (σ 55 10).toInt) (hp2 : (σ 55 26).toInt < (σ 55 12).toInt) (hp3 : (σ 55 12).toInt - (σ 55 26).toInt ≤ (((n) : Nat) : Int)), jM l yX12_meanWith cX12_meanWith 8 (some .int) ({ frames := (69 + 4 * (n)), cells := 0, slots := 0, locals := (3034 + 240 * (n)) }) D cI cL ad zz [.ref (ad 55), .int a1] σ τ (fun r σ' τ' => τ = τ' ∧ (∀ i : Nat, (i < 55 ∨ 55 < i) ∧ (i < 66 ∨ 66 < i) ∧ (i < 74 ∨ 78 < i) → σ' i = σ i) ∧ (∀ k : Nat, (k < 18 ∨ 18 < k) ∧ (k < 19 ∨ 19 < k) ∧ (k < 20 ∨ 20 < k) ∧ (k < 21 ∨ 21 < k) ∧ (k < 22 ∨ 22 < k) ∧ (k < 37 ∨ 37 < k) → σ' 55 k = σ 55 k) ∧ (jKept σ') ∧ ((True ∧ (0 ≤ r.toInt ∧ r.toInt ≤ -(1023000 * (σ 55 26).toInt) + 12276000))))) (σ : Nat → Nat → Int32) (τ : Nat → Nat → Int64) (hI101 : jI101 σ) (hI102 : jI102 σ) (hI103 : jI103 σ) (hI104 : jI104 σ) (hI105 : jI105 σ) (hI106 : jI106 σ) (hI120 : jI120 σ) (hs_jKept : jKept σ) (hp0 : (σ 55 12).toInt - (σ 55 26).toInt ≤ (((n) : Nat) : Int)) : jM l yX12_bestFrom cX12_bestFrom 8 (some .int) ({ frames := (70 + 4 * (n)), cells := 0, slots := 0, locals := (3114 + 240 * (n)) }) D cI cL ad zz [.ref (ad 55)] σ τ (fun r σ' τ' => τ = τ' ∧ (∀ i : Nat, (i < 55 ∨ 55 < i) ∧ (i < 66 ∨ 66 < i) ∧ (i < 74 ∨ 78 < i) → σ' i = σ i) ∧ (∀ k : Nat, (k < 18 ∨ 18 < k) ∧ (k < 19 ∨ 19 < k) ∧ (k < 20 ∨ 20 < k) ∧ (k < 21 ∨ 21 < k) ∧ (k < 22 ∨ 22 < k) ∧ (k < 37 ∨ 37 < k) → σ' 55 k = σ 55 k) ∧ (jKept σ') ∧ ((-2) ≤ (σ' 55 37).toInt ∧ (σ' 55 37).toInt ≤ 3) ∧ ((True ∧ (0 ≤ r.toInt ∧ r.toInt ≤ -(1023000 * (σ 55 26).toInt) + 12276000)))) := by
  refine jM.of hJ (by decide +kernel) (nt := .int) rfl (Nat.le_of_ble_eq_true rfl) ?_
  intro p e s m args below meth c Q ls hC hret hl hP
  obtain ⟨hx, hb, hr, hml, hown, hts, hK, -, hlocks, hZ⟩ := hC
  have hown : s.vm.findClass RX12 = some m.cls := hown
  have hS : va_S (jA ad) s.heap s.heap [] := va_S.rf
  have hA : ∀ q, jA ad q → jA ad q := fun _ h => h
  have hl : lv_has ls 8 [(0, .ref (ad 55))] := hl
  obtain ⟨i1, w2, w3⟩ : (0 ≤ (σ 55 6).toInt ∧ (σ 55 6).toInt ≤ 4) ∧ (∀ k : Nat, k < 4 → 0 ≤ (σ 60 k).toInt ∧ (σ 60 k).toInt ≤ 50) ∧ (∀ k : Nat, k < 4 → 0 ≤ (σ 61 k).toInt ∧ (σ 61 k).toInt ≤ 20) := id hI102
  obtain ⟨i4, i5, i6, w7, w8⟩ : (1 ≤ (σ 55 10).toInt ∧ (σ 55 10).toInt ≤ 8) ∧ (1 ≤ (σ 55 12).toInt ∧ (σ 55 12).toInt ≤ 12) ∧ (0 ≤ (σ 55 13).toInt ∧ (σ 55 13).toInt ≤ 999) ∧ (∀ k : Nat, k < 8 → 0 ≤ (σ 62 k).toInt ∧ (σ 62 k).toInt ≤ 3) ∧ (∀ k : Nat, k < 8 → 0 ≤ (σ 67 k).toInt ∧ (σ 67 k).toInt ≤ 3) := id hI104
  obtain ⟨i9, i10, i11, i12, i13, w14⟩ : (0 ≤ (σ 55 25).toInt) ∧ ((σ 55 25).toInt ≤ (σ 55 10).toInt) ∧ (0 ≤ (σ 55 26).toInt) ∧ ((σ 55 26).toInt ≤ (σ 55 12).toInt) ∧ ((-1) ≤ (σ 55 27).toInt ∧ (σ 55 27).toInt ≤ 3) ∧ (∀ k : Nat, k < 4 → 0 ≤ (σ 68 k).toInt ∧ (σ 68 k).toInt ≤ 3) := id hI120
  refine lv_aload_n hx hb dX12_bestFrom_0 rfl (lv_at hl 0 rfl) ?_
  refine jcallV (As := []) (rest := []) ⟨hx, hb, hml, hown, hts⟩ hK hP hA hS hZ (c_X12_isEnded l D cI cL ad zz hJ σ τ hI102 hI104 hI120) cw_RX12_307 (jc_55 cI cL ad σ τ) rfl ⟨by dsimp only; omega, by dsimp only; omega⟩ rfl rfl rfl hl.1 rfl (Nat.le_of_ble_eq_true rfl) dX12_bestFrom_1 ⟨Nat.zero_le _, Nat.zero_le _⟩ (fun r16 σ15 τ15 H locs h15 hP hS => ?_)
  obtain ⟨⟨rfl, rfl⟩, h15⟩ := h15
  rcases h15 with h17 | h18
  · obtain ⟨q20, k19⟩ := h17
    have q20 := q20.symm
    subst q20
    refine lv_if_eq (tgt := 15) hx hb dX12_bestFrom_4 (of_decide_eq_true rfl) (fun c => absurd c (of_decide_eq_true rfl)) (fun _ => ?_)
    refine lv_aload_n hx hb dX12_bestFrom_7 rfl (lv_at hl 0 rfl) ?_
    refine lv_bipush (v := (-2)) hx hb dX12_bestFrom_8 (of_decide_eq_true rfl) ?_
    refine jput (ty := .int) hx hb hts inlX12 tyX12 tyX12_ok nmX12 hown hK hP hJ hA hS (jc_55 cI cL ad σ τ) rfl (k := 37) (of_decide_eq_true rfl) (Nat.le_of_ble_eq_true rfl) (jp_55_37 cI cL ad σ τ (-2)) (hts _ kw_33_15) (fun _ h9 => h9) rfl (by decide +kernel) rfl rfl dX12_bestFrom_10 (fun σ21 H locs eσ21 hP hS => ?_)
    refine lv_iconst (v := 0) hx hb dX12_bestFrom_13 (of_decide_eq_true rfl) ?_
    have p22 : jKept σ21 := jKept.fr (jnp 75 eσ21 (of_decide_eq_true rfl)) (jnp 76 eσ21 (of_decide_eq_true rfl)) (jnp 77 eσ21 (of_decide_eq_true rfl)) hs_jKept
    have z23 : (σ21 55 37).toInt = (-2) := ((congrArg Int32.toInt (show σ21 55 37 = (-2) from (jsp eσ21))).trans jz_m2)
    exact by exact hret 0 σ21 τ _ _ _ _ rfl ⟨rfl, (fun i hi => (jnp i eσ21 (imp_206 i hi))), (fun i hi => (jkp i eσ21 (imp_207 i hi))), p22, (by omega), ⟨trivial, (by have h9 := jz_0; omega)⟩⟩ hP hS dX12_bestFrom_14
  · obtain ⟨q27, k24, k25, k26⟩ := h18
    have q27 := q27.symm
    subst q27
    obtain ⟨B28, k29, k30, w31⟩ := k26
    refine lv_if_eq (tgt := 15) hx hb dX12_bestFrom_4 (of_decide_eq_true rfl) (fun _ => ?_) (fun c => absurd (of_decide_eq_true rfl) c)
    refine lv_aload_n hx hb dX12_bestFrom_15 rfl (lv_at hl 0 rfl) ?_
    refine jcallV (As := []) (rest := []) ⟨hx, hb, hml, hown, hts⟩ hK hP hA hS hZ (c_X12_stateNumber l D cI cL ad zz hJ σ τ hI102 w14) cw_RX12_311 (jc_55 cI cL ad σ τ) rfl ⟨by dsimp only; omega, by dsimp only; omega⟩ rfl rfl rfl hl.1 rfl (Nat.le_of_ble_eq_true rfl) dX12_bestFrom_16 ⟨Nat.zero_le _, Nat.zero_le _⟩ (fun r33 σ32 τ32 H locs h32 hP hS => ?_)
    obtain ⟨⟨rfl, rfl⟩, h32⟩ := h32
    refine lv_istore_n (lv' := [(1, .int r33), (0, .ref (ad 55))]) hx hb dX12_bestFrom_19 rfl hl (of_decide_eq_true rfl) rfl (fun ls hl => ?_)
    refine lv_bipush (v := 16) hx hb dX12_bestFrom_20 (of_decide_eq_true rfl) ?_
    refine lv_aload_n hx hb dX12_bestFrom_22 rfl (lv_at hl 1 rfl) ?_
    refine va_get (D := D) hx hb hts inlX12 hown hK hP 55 (jc_55 cI cL ad σ τ) rfl 26 (of_decide_eq_true rfl) (hts _ kw_23_5) (fun _ h9 => h9) rfl dX12_bestFrom_23 ?_
    have g34 := jrg (rfl : (σ 55 26).toInt = (σ 55 26).toInt)
    refine lv_imul hx hb dX12_bestFrom_26 ?_
    refine lv_topi (fun x35 ex35 => ?_)
    exact by
     have tx35 : x35.toInt = 16 * (σ 55 26).toInt := (jmul ex35 jz_16 rfl (by omega) (by omega)).trans (by omega)
     refine lv_aload_n hx hb dX12_bestFrom_27 rfl (lv_at hl 1 rfl) ?_
     refine va_get (D := D) hx hb hts inlX12 hown hK hP 55 (jc_55 cI cL ad σ τ) rfl 25 (of_decide_eq_true rfl) (hts _ kw_23_6) (fun _ h9 => h9) rfl dX12_bestFrom_28 ?_
     have g36 := jrg (rfl : (σ 55 25).toInt = (σ 55 25).toInt)
     refine lv_iadd hx hb dX12_bestFrom_31 ?_
     refine lv_topi (fun x37 ex37 => ?_)
     have tx37 : x37.toInt = 16 * (σ 55 26).toInt + (σ 55 25).toInt := (jadd ex37 tx35 rfl (by omega) (by omega)).trans (by omega)
     refine lv_istore_n (lv' := [(2, .int x37), (1, .int r33), (0, .ref (ad 55))]) hx hb dX12_bestFrom_32 rfl hl (of_decide_eq_true rfl) rfl (fun ls hl => ?_)
     refine lv_aload_n hx hb dX12_bestFrom_33 rfl (lv_at hl 2 rfl) ?_
     exact by
      refine lv_iload_n hx hb dX12_bestFrom_34 rfl (lv_at hl 1 rfl) ?_
      refine lv_iload_n hx hb dX12_bestFrom_35 rfl (lv_at hl 0 rfl) ?_
      refine jcallV (As := [.int r33, .int x37]) (rest := []) ⟨hx, hb, hml, hown, hts⟩ hK hP hA hS hZ (c_X12_spot l D cI cL ad zz hJ σ τ r33 (r33.toInt) rfl x37 (16 * (σ 55 26).toInt + (σ 55 25).toInt) tx37) cw_RX12_314 (jc_55 cI cL ad σ τ) rfl ⟨by dsimp only; omega, by dsimp only; omega⟩ rfl rfl rfl hl.1 rfl (Nat.le_of_ble_eq_true rfl) dX12_bestFrom_36 ⟨Nat.zero_le _, Nat.zero_le _⟩ (fun r39 σ38 τ38 H locs h38 hP hS => ?_)
      obtain ⟨⟨rfl, rfl⟩, h38⟩ := h38
      rcases h38 with h40 | h41
      · obtain ⟨q44, k42, k43⟩ := h40
        have k45 : (σ 78 r39.toNatClampNeg).toInt ≠ (σ 55 42).toInt ∨ (σ 75 r39.toNatClampNeg).toInt = 16 * (σ 55 26).toInt + (σ 55 25).toInt := k43.imp (fun q => jne q rfl rfl) (fun q => jeq q rfl tx37)
        refine lv_istore_n (lv' := [(3, .int r39), (2, .int x37), (1, .int r33), (0, .ref (ad 55))]) hx hb dX12_bestFrom_39 rfl hl (of_decide_eq_true rfl) rfl (fun ls hl => ?_)
        refine lv_iload_n hx hb dX12_bestFrom_40 rfl (lv_at hl 0 rfl) ?_
        exact by
         refine lv_if_lt (tgt := 74) hx hb dX12_bestFrom_41 (of_decide_eq_true rfl) (fun c => absurd (jlt c rfl jz_0) (by omega)) (fun c46 => ?_)
         have kc46 := jnlt c46 rfl jz_0
         refine lv_aload_n hx hb dX12_bestFrom_44 rfl (lv_at hl 3 rfl) ?_
         refine va_get (D := D) hx hb hts inlX12 hown hK hP 55 (jc_55 cI cL ad σ τ) rfl 43 (of_decide_eq_true rfl) (hts _ kw_8_3) (fun _ h9 => h9) rfl dX12_bestFrom_45 ?_
         refine lv_iload_n hx hb dX12_bestFrom_48 rfl (lv_at hl 0 rfl) ?_
         refine jald hx hb hK hP (jc_78 cI cL ad σ τ) (jin rfl (by omega) (by omega)) dX12_bestFrom_49 ?_
         refine jtopr (y := (σ 78 r39.toNatClampNeg)) rfl ?_
         refine lv_aload_n hx hb dX12_bestFrom_50 rfl (lv_at hl 3 rfl) ?_
         refine va_get (D := D) hx hb hts inlX12 hown hK hP 55 (jc_55 cI cL ad σ τ) rfl 42 (of_decide_eq_true rfl) (hts _ kw_33_10) (fun _ h9 => h9) rfl dX12_bestFrom_51 ?_
         exact by
          refine lv_icmp_ne (tgt := 74) hx hb dX12_bestFrom_54 (of_decide_eq_true rfl) (fun c47 => ?_) (fun c47 => ?_)
          · have kc47 := jne c47 rfl rfl
            refine lv_iconst (v := (-1)) hx hb dX12_bestFrom_74 (of_decide_eq_true rfl) ?_
            refine lv_istore (lv' := [(4, .int (-1)), (3, .int r39), (2, .int x37), (1, .int r33), (0, .ref (ad 55))]) hx hb dX12_bestFrom_75 hl (of_decide_eq_true rfl) rfl (fun ls hl => ?_)
            refine lv_ldcw (v := 2000000000) hx hb hown (hts _ kw_34_4) dX12_bestFrom_77 ?_
            refine lv_istore (lv' := [(5, .int 2000000000), (4, .int (-1)), (3, .int r39), (2, .int x37), (1, .int r33), (0, .ref (ad 55))]) hx hb dX12_bestFrom_80 hl (of_decide_eq_true rfl) rfl (fun ls hl => ?_)
            refine lv_iconst (v := 0) hx hb dX12_bestFrom_82 (of_decide_eq_true rfl) ?_
            refine lv_istore (lv' := [(6, .int 0), (5, .int 2000000000), (4, .int (-1)), (3, .int r39), (2, .int x37), (1, .int r33), (0, .ref (ad 55))]) hx hb dX12_bestFrom_83 hl (of_decide_eq_true rfl) rfl (fun ls hl => ?_)
            have lp48 : ∀ (n49 : Nat) (x50 : Int32) (x51 : Int32) (x52 : Int32) (σ54 : Nat → Nat → Int32) (H : Heap) (locs : List Loc) (ls : Array Slot), (-x52.toInt + 4 : Int) < n49 → (-1) ≤ x50.toInt → x50.toInt ≤ 3 → 0 ≤ x52.toInt → x52.toInt ≤ 4 → ((0 ≤ x50.toInt ∧ 0 ≤ x51.toInt ∧ x51.toInt ≤ -(1023000 * (σ54 55 26).toInt) + 12276000) ∨ (x50.toInt = (-1) ∧ x51.toInt = 2000000000 ∧ x52.toInt ≤ B28.toInt)) → (∀ i : Nat, (i < 55 ∨ 55 < i) ∧ (i < 66 ∨ 66 < i) ∧ (i < 74 ∨ 78 < i) → σ54 i = σ i) → (∀ k : Nat, (k < 18 ∨ 18 < k) ∧ (k < 19 ∨ 19 < k) ∧ (k < 20 ∨ 20 < k) ∧ (k < 21 ∨ 21 < k) ∧ (k < 22 ∨ 22 < k) ∧ (k < 37 ∨ 37 < k) → σ54 55 k = σ 55 k) → jKept σ54 → jH D cI cL ad σ54 τ H → va_S (jA ad) s.heap H locs → lv_has ls 8 [(6, .int x52), (5, .int x51), (4, .int x50), (3, .int r39), (2, .int x37), (1, .int r33), (0, .ref (ad 55))] → W p l e ({ frames := (70 + 4 * (n)), cells := 0, slots := 0, locals := (3114 + 240 * (n)) }) s m args below meth c H locs 0 0 Q (F0 m 85 ls []) := by
              intro n49
              induction n49 with
              | zero => intro x50 x51 x52 σ54 H locs ls h56 h57 h58 h59 h60 h61; have gx51 := jrg (rfl : x51.toInt = x51.toInt); exact absurd h56 (by omega)
              | succ n49 ihlp48 =>
                intro x50 x51 x52 σ54 H locs ls h56 h57 h58 h59 h60 h61 f62 f63 p64 hP hS hl
                exact by
                 have gx51 := jrg (rfl : x51.toInt = x51.toInt)
                 have z65 : (σ54 55 26).toInt = (σ 55 26).toInt := (congrArg Int32.toInt (show σ54 55 26 = (σ 55 26) from (f63 26 (of_decide_eq_true rfl))))
                 refine lv_iload hx hb dX12_bestFrom_85 (lv_at hl 0 rfl) ?_
                 refine lv_aload_n hx hb dX12_bestFrom_87 rfl (lv_at hl 6 rfl) ?_
                 refine va_get (D := D) hx hb hts inlX12 hown hK hP 55 (jc_55 cI cL ad σ54 τ) rfl 6 (of_decide_eq_true rfl) (hts _ kw_9_13) (fun _ h9 => h9) rfl dX12_bestFrom_88 ?_
                 have m66 : σ54 55 6 = (σ 55 6) := (f63 6 (of_decide_eq_true rfl))
                 refine jtopr m66 ?_
                 refine lv_icmp_ge (tgt := 135) hx hb dX12_bestFrom_91 (of_decide_eq_true rfl) (fun c67 => ?_) (fun c67 => ?_)
                 · have kc67 := jle c67 rfl rfl
                   refine lv_aload_n hx hb dX12_bestFrom_135 rfl (lv_at hl 6 rfl) ?_
                   refine lv_iload_n hx hb dX12_bestFrom_136 rfl (lv_at hl 5 rfl) ?_
                   refine lv_iload_n hx hb dX12_bestFrom_137 rfl (lv_at hl 4 rfl) ?_
                   refine jcallV (As := [.int r33, .int x37]) (rest := []) ⟨hx, hb, hml, hown, hts⟩ hK hP hA hS hZ (c_X12_spot l D cI cL ad zz hJ σ54 τ r33 (r33.toInt) rfl x37 (16 * (σ 55 26).toInt + (σ 55 25).toInt) tx37) cw_RX12_314 (jc_55 cI cL ad σ54 τ) rfl ⟨by dsimp only; omega, by dsimp only; omega⟩ rfl rfl rfl hl.1 rfl (Nat.le_of_ble_eq_true rfl) dX12_bestFrom_138 ⟨Nat.zero_le _, Nat.zero_le _⟩ (fun r69 σ68 τ68 H locs h68 hP hS => ?_)
                   obtain ⟨⟨rfl, rfl⟩, h68⟩ := h68
                   rcases h68 with h70 | h71
                   · obtain ⟨q74, k72, k73⟩ := h70
                     have z76 : (σ54 55 42).toInt = (σ 55 42).toInt := (congrArg Int32.toInt (show σ54 55 42 = (σ 55 42) from (f63 42 (of_decide_eq_true rfl))))
                     have k75 : (σ54 78 r69.toNatClampNeg).toInt ≠ (σ54 55 42).toInt ∨ (σ54 75 r69.toNatClampNeg).toInt = 16 * (σ 55 26).toInt + (σ 55 25).toInt := k73.imp (fun q => jne q rfl rfl) (fun q => jeq q rfl tx37)
                     refine lv_istore_n (lv' := [(3, .int r69), (6, .int x52), (5, .int x51), (4, .int x50), (2, .int x37), (1, .int r33), (0, .ref (ad 55))]) hx hb dX12_bestFrom_141 rfl hl (of_decide_eq_true rfl) rfl (fun ls hl => ?_)
                     refine lv_iload_n hx hb dX12_bestFrom_142 rfl (lv_at hl 0 rfl) ?_
                     exact by
                      refine lv_if_lt (tgt := 186) hx hb dX12_bestFrom_143 (of_decide_eq_true rfl) (fun c => absurd (jlt c rfl jz_0) (by omega)) (fun c77 => ?_)
                      have kc77 := jnlt c77 rfl jz_0
                      refine lv_aload_n hx hb dX12_bestFrom_146 rfl (lv_at hl 6 rfl) ?_
                      refine va_get (D := D) hx hb hts inlX12 hown hK hP 55 (jc_55 cI cL ad σ54 τ) rfl 43 (of_decide_eq_true rfl) (hts _ kw_8_3) (fun _ h9 => h9) rfl dX12_bestFrom_147 ?_
                      refine lv_iload_n hx hb dX12_bestFrom_150 rfl (lv_at hl 0 rfl) ?_
                      refine lv_aload_n hx hb dX12_bestFrom_151 rfl (lv_at hl 6 rfl) ?_
                      refine va_get (D := D) hx hb hts inlX12 hown hK hP 55 (jc_55 cI cL ad σ54 τ) rfl 42 (of_decide_eq_true rfl) (hts _ kw_33_10) (fun _ h9 => h9) rfl dX12_bestFrom_152 ?_
                      have m78 : σ54 55 42 = (σ 55 42) := (f63 42 (of_decide_eq_true rfl))
                      refine jtopr m78 ?_
                      exact by
                       refine jast hx hb hK hP hJ hA hS (jc_78 cI cL ad σ54 τ) (ja_78 cI cL ad σ54 τ _ _) (jin rfl (by omega) (by omega)) dX12_bestFrom_155 (fun σ79 H locs eσ79 hP hS => ?_)
                       refine lv_aload_n hx hb dX12_bestFrom_156 rfl (lv_at hl 6 rfl) ?_
                       refine va_get (D := D) hx hb hts inlX12 hown hK hP 55 (jc_55 cI cL ad σ79 τ) rfl 38 (of_decide_eq_true rfl) (hts _ kw_7_23) (fun _ h9 => h9) rfl dX12_bestFrom_157 ?_
                       refine lv_iload_n hx hb dX12_bestFrom_160 rfl (lv_at hl 0 rfl) ?_
                       refine lv_iload_n hx hb dX12_bestFrom_161 rfl (lv_at hl 5 rfl) ?_
                       refine jast hx hb hK hP hJ hA hS (jc_74 cI cL ad σ79 τ) (ja_74 cI cL ad σ79 τ _ _) (jin rfl (by omega) (by omega)) dX12_bestFrom_162 (fun σ80 H locs eσ80 hP hS => ?_)
                       refine lv_aload_n hx hb dX12_bestFrom_163 rfl (lv_at hl 6 rfl) ?_
                       refine va_get (D := D) hx hb hts inlX12 hown hK hP 55 (jc_55 cI cL ad σ80 τ) rfl 39 (of_decide_eq_true rfl) (hts _ kw_8_0) (fun _ h9 => h9) rfl dX12_bestFrom_164 ?_
                       refine lv_iload_n hx hb dX12_bestFrom_167 rfl (lv_at hl 0 rfl) ?_
                       exact by
                        refine lv_iload_n hx hb dX12_bestFrom_168 rfl (lv_at hl 4 rfl) ?_
                        refine jast hx hb hK hP hJ hA hS (jc_75 cI cL ad σ80 τ) (ja_75 cI cL ad σ80 τ _ _) (jin rfl (by omega) (by omega)) dX12_bestFrom_169 (fun σ81 H locs eσ81 hP hS => ?_)
                        refine lv_aload_n hx hb dX12_bestFrom_170 rfl (lv_at hl 6 rfl) ?_
                        refine va_get (D := D) hx hb hts inlX12 hown hK hP 55 (jc_55 cI cL ad σ81 τ) rfl 40 (of_decide_eq_true rfl) (hts _ kw_8_1) (fun _ h9 => h9) rfl dX12_bestFrom_171 ?_
                        refine lv_iload_n hx hb dX12_bestFrom_174 rfl (lv_at hl 0 rfl) ?_
                        refine lv_iload hx hb dX12_bestFrom_175 (lv_at hl 2 rfl) ?_
                        refine jast hx hb hK hP hJ hA hS (jc_76 cI cL ad σ81 τ) (ja_76 cI cL ad σ81 τ _ _) (jin rfl (by omega) (by omega)) dX12_bestFrom_177 (fun σ82 H locs eσ82 hP hS => ?_)
                        refine lv_aload_n hx hb dX12_bestFrom_178 rfl (lv_at hl 6 rfl) ?_
                        refine va_get (D := D) hx hb hts inlX12 hown hK hP 55 (jc_55 cI cL ad σ82 τ) rfl 41 (of_decide_eq_true rfl) (hts _ kw_8_2) (fun _ h9 => h9) rfl dX12_bestFrom_179 ?_
                        exact by
                         refine lv_iload_n hx hb dX12_bestFrom_182 rfl (lv_at hl 0 rfl) ?_
                         refine lv_iload hx hb dX12_bestFrom_183 (lv_at hl 3 rfl) ?_
                         refine jast hx hb hK hP hJ hA hS (jc_77 cI cL ad σ82 τ) (ja_77 cI cL ad σ82 τ _ _) (jin rfl (by omega) (by omega)) dX12_bestFrom_185 (fun σ83 H locs eσ83 hP hS => ?_)
                         have e84 : σ83 75 = jupd (σ54 75) r69.toNatClampNeg x37 := by rw [eσ83, jup_n (of_decide_eq_true rfl), eσ82, jup_n (of_decide_eq_true rfl), eσ81, jup_row, eσ80, jup_n (of_decide_eq_true rfl), eσ79, jup_n (of_decide_eq_true rfl)]
                         have e85 : σ83 76 = jupd (σ54 76) r69.toNatClampNeg x51 := by rw [eσ83, jup_n (of_decide_eq_true rfl), eσ82, jup_row, eσ81, jup_n (of_decide_eq_true rfl), eσ80, jup_n (of_decide_eq_true rfl), eσ79, jup_n (of_decide_eq_true rfl)]
                         have e86 : σ83 77 = jupd (σ54 77) r69.toNatClampNeg x50 := by rw [eσ83, jup_row, eσ82, jup_n (of_decide_eq_true rfl), eσ81, jup_n (of_decide_eq_true rfl), eσ80, jup_n (of_decide_eq_true rfl), eσ79, jup_n (of_decide_eq_true rfl)]
                         have z87 : (σ83 55 26).toInt = (σ 55 26).toInt := (congrArg Int32.toInt (show σ83 55 26 = (σ 55 26) from ((congrFun (jnp 55 eσ83 (of_decide_eq_true rfl)) 26).trans ((congrFun (jnp 55 eσ82 (of_decide_eq_true rfl)) 26).trans ((congrFun (jnp 55 eσ81 (of_decide_eq_true rfl)) 26).trans ((congrFun (jnp 55 eσ80 (of_decide_eq_true rfl)) 26).trans ((congrFun (jnp 55 eσ79 (of_decide_eq_true rfl)) 26).trans (f63 26 (of_decide_eq_true rfl)))))))))
                         have p88 : jKept σ83 := p64.on e84 e85 e86 (by have h91 := tx37; omega) (by have h91 := tx37; omega) (by have h91 := tx37; omega) (by have h91 := tx37; omega)
                         refine lv_aload_n hx hb dX12_bestFrom_186 rfl (lv_at hl 6 rfl) ?_
                         exact by
                          refine lv_iload hx hb dX12_bestFrom_187 (lv_at hl 3 rfl) ?_
                          refine jput (ty := .int) hx hb hts inlX12 tyX12 tyX12_ok nmX12 hown hK hP hJ hA hS (jc_55 cI cL ad σ83 τ) rfl (k := 37) (of_decide_eq_true rfl) (Nat.le_of_ble_eq_true rfl) (jp_55_37 cI cL ad σ83 τ x50) (hts _ kw_33_15) (fun _ h9 => h9) rfl (by decide +kernel) rfl rfl dX12_bestFrom_189 (fun σ89 H locs eσ89 hP hS => ?_)
                          refine lv_iload hx hb dX12_bestFrom_192 (lv_at hl 2 rfl) ?_
                          have p90 : jKept σ89 := jKept.fr (jnp 75 eσ89 (of_decide_eq_true rfl)) (jnp 76 eσ89 (of_decide_eq_true rfl)) (jnp 77 eσ89 (of_decide_eq_true rfl)) p88
                          have z91 : (σ89 55 37).toInt = x50.toInt := (congrArg Int32.toInt (show σ89 55 37 = x50 from (jsp eσ89)))
                          exact by exact hret x51 σ89 τ _ _ _ _ rfl ⟨rfl, (fun i hi => ((jnp i eσ89 (imp_206 i hi)).trans ((jnp i eσ83 (imp_208 i hi)).trans ((jnp i eσ82 (imp_209 i hi)).trans ((jnp i eσ81 (imp_210 i hi)).trans ((jnp i eσ80 (imp_211 i hi)).trans ((jnp i eσ79 (imp_212 i hi)).trans (f62 i hi)))))))), (fun i hi => ((jkp i eσ89 (imp_207 i hi)).trans ((congrFun (jnp 55 eσ83 (of_decide_eq_true rfl)) i).trans ((congrFun (jnp 55 eσ82 (of_decide_eq_true rfl)) i).trans ((congrFun (jnp 55 eσ81 (of_decide_eq_true rfl)) i).trans ((congrFun (jnp 55 eσ80 (of_decide_eq_true rfl)) i).trans ((congrFun (jnp 55 eσ79 (of_decide_eq_true rfl)) i).trans (f63 i hi)))))))), p90, (by omega), ⟨trivial, (by omega)⟩⟩ hP hS dX12_bestFrom_194
                   · obtain ⟨q93, k92⟩ := h71
                     have q93 := q93.symm
                     subst q93
                     refine lv_istore_n (lv' := [(3, .int (-1)), (6, .int x52), (5, .int x51), (4, .int x50), (2, .int x37), (1, .int r33), (0, .ref (ad 55))]) hx hb dX12_bestFrom_141 rfl hl (of_decide_eq_true rfl) rfl (fun ls hl => ?_)
                     refine lv_iload_n hx hb dX12_bestFrom_142 rfl (lv_at hl 0 rfl) ?_
                     refine lv_if_lt (tgt := 186) hx hb dX12_bestFrom_143 (of_decide_eq_true rfl) (fun _ => ?_) (fun c => absurd (of_decide_eq_true rfl) c)
                     refine lv_aload_n hx hb dX12_bestFrom_186 rfl (lv_at hl 6 rfl) ?_
                     refine lv_iload hx hb dX12_bestFrom_187 (lv_at hl 3 rfl) ?_
                     refine jput (ty := .int) hx hb hts inlX12 tyX12 tyX12_ok nmX12 hown hK hP hJ hA hS (jc_55 cI cL ad σ54 τ) rfl (k := 37) (of_decide_eq_true rfl) (Nat.le_of_ble_eq_true rfl) (jp_55_37 cI cL ad σ54 τ x50) (hts _ kw_33_15) (fun _ h9 => h9) rfl (by decide +kernel) rfl rfl dX12_bestFrom_189 (fun σ94 H locs eσ94 hP hS => ?_)
                     refine lv_iload hx hb dX12_bestFrom_192 (lv_at hl 2 rfl) ?_
                     have p95 : jKept σ94 := jKept.fr (jnp 75 eσ94 (of_decide_eq_true rfl)) (jnp 76 eσ94 (of_decide_eq_true rfl)) (jnp 77 eσ94 (of_decide_eq_true rfl)) p64
                     have z96 : (σ94 55 37).toInt = x50.toInt := (congrArg Int32.toInt (show σ94 55 37 = x50 from (jsp eσ94)))
                     exact by exact hret x51 σ94 τ _ _ _ _ rfl ⟨rfl, (fun i hi => ((jnp i eσ94 (imp_206 i hi)).trans (f62 i hi))), (fun i hi => ((jkp i eσ94 (imp_207 i hi)).trans (f63 i hi))), p95, (by omega), ⟨trivial, (by omega)⟩⟩ hP hS dX12_bestFrom_194
                 · have kc67 := jnle c67 rfl rfl
                   refine lv_aload_n hx hb dX12_bestFrom_94 rfl (lv_at hl 6 rfl) ?_
                   refine lv_iload hx hb dX12_bestFrom_95 (lv_at hl 0 rfl) ?_
                   exact by
                    refine jcallV (As := [.int x52]) (rest := []) ⟨hx, hb, hml, hown, hts⟩ hK hP hA hS hZ (c_X12_mayBowl l D cI cL ad zz hJ σ54 τ x52 (x52.toInt) rfl (by omega)) cw_RX12_249 (jc_55 cI cL ad σ54 τ) rfl ⟨by dsimp only; omega, by dsimp only; omega⟩ rfl rfl rfl hl.1 rfl (Nat.le_of_ble_eq_true rfl) dX12_bestFrom_97 ⟨Nat.zero_le _, Nat.zero_le _⟩ (fun r98 σ97 τ97 H locs h97 hP hS => ?_)
                    obtain ⟨⟨rfl, rfl⟩, h97⟩ := h97
                    rcases h97 with h99 | h100
                    · obtain ⟨q102, k101⟩ := h99
                      have q102 := q102.symm
                      subst q102
                      refine lv_if_ne (tgt := 106) hx hb dX12_bestFrom_100 (of_decide_eq_true rfl) (fun _ => ?_) (fun c => absurd c (of_decide_eq_true rfl))
                      refine lv_aload_n hx hb dX12_bestFrom_106 rfl (lv_at hl 6 rfl) ?_
                      refine lv_iload hx hb dX12_bestFrom_107 (lv_at hl 0 rfl) ?_
                      have I103 : jI101 σ54 := jI101_fr (f63 4 (of_decide_eq_true rfl)) (f63 5 (of_decide_eq_true rfl)) (f62 56 (of_decide_eq_true rfl)) (f62 57 (of_decide_eq_true rfl)) (f62 58 (of_decide_eq_true rfl)) (f62 59 (of_decide_eq_true rfl)) hI101
                      have I104 : jI102 σ54 := jI102_fr (f63 6 (of_decide_eq_true rfl)) (f62 60 (of_decide_eq_true rfl)) (f62 61 (of_decide_eq_true rfl)) hI102
                      have I105 : jI103 σ54 := jI103_fr (f63 9 (of_decide_eq_true rfl)) hI103
                      have I106 : jI104 σ54 := jI104_fr (f63 10 (of_decide_eq_true rfl)) (f63 12 (of_decide_eq_true rfl)) (f63 13 (of_decide_eq_true rfl)) (f62 62 (of_decide_eq_true rfl)) (f62 67 (of_decide_eq_true rfl)) hI104
                      have I107 : jI105 σ54 := jI105_fr (f63 15 (of_decide_eq_true rfl)) (f62 65 (of_decide_eq_true rfl)) hI105
                      have I108 : jI106 σ54 := jI106_fr (f63 32 (of_decide_eq_true rfl)) (f62 70 (of_decide_eq_true rfl)) (f62 71 (of_decide_eq_true rfl)) (f62 72 (of_decide_eq_true rfl)) hI106
                      have I109 : jI120 σ54 := jI120_fr (f63 10 (of_decide_eq_true rfl)) (f63 12 (of_decide_eq_true rfl)) (f63 25 (of_decide_eq_true rfl)) (f63 26 (of_decide_eq_true rfl)) (f63 27 (of_decide_eq_true rfl)) (f62 68 (of_decide_eq_true rfl)) hI120
                      have z110 : (σ54 55 25).toInt = (σ 55 25).toInt := (congrArg Int32.toInt (show σ54 55 25 = (σ 55 25) from (f63 25 (of_decide_eq_true rfl))))
                      have z111 : (σ54 55 10).toInt = (σ 55 10).toInt := (congrArg Int32.toInt (show σ54 55 10 = (σ 55 10) from (f63 10 (of_decide_eq_true rfl))))
                      have z112 : (σ54 55 12).toInt = (σ 55 12).toInt := (congrArg Int32.toInt (show σ54 55 12 = (σ 55 12) from (f63 12 (of_decide_eq_true rfl))))
                      exact by
                       refine jcallV (As := [.int x52]) (rest := []) ⟨hx, hb, hml, hown, hts⟩ hK hP hA hS hZ (h_mean σ54 τ x52 (x52.toInt) rfl I103 I104 I105 I106 I107 I108 I109 p64 (by omega) (by omega) (by omega) (by omega)) cw_RX12_318 (jc_55 cI cL ad σ54 τ) rfl ⟨by dsimp only; omega, by dsimp only; omega⟩ rfl rfl rfl hl.1 rfl (Nat.le_of_ble_eq_true rfl) dX12_bestFrom_109 ⟨Nat.zero_le _, Nat.zero_le _⟩ (fun r114 σ113 τ113 H locs h113 hP hS => ?_)
                       obtain ⟨rfl, f115, f116, p117, h113⟩ := h113
                       have h119 := h113
                       obtain ⟨q121, k120⟩ := h119
                       refine lv_istore (lv' := [(7, .int r114), (6, .int x52), (5, .int x51), (4, .int x50), (3, .int r39), (2, .int x37), (1, .int r33), (0, .ref (ad 55))]) hx hb dX12_bestFrom_112 hl (of_decide_eq_true rfl) rfl (fun ls hl => ?_)
                       refine lv_iload hx hb dX12_bestFrom_114 (lv_at hl 0 rfl) ?_
                       refine lv_iload hx hb dX12_bestFrom_116 (lv_at hl 2 rfl) ?_
                       refine lv_icmp_ge (tgt := 129) hx hb dX12_bestFrom_118 (of_decide_eq_true rfl) (fun c122 => ?_) (fun c122 => ?_)
                       · have kc122 := jle c122 rfl rfl
                         obtain ⟨x123, ex123⟩ : ∃ y : Int32, y = x52 + 1 := ⟨_, rfl⟩
                         exact by
                          have tx123 : x123.toInt = x52.toInt + 1 := (jadd ex123 rfl jz_1 (by omega) (by omega)).trans (by omega)
                          refine lv_iinc (v := x123) (lv' := [(6, .int x123), (7, .int r114), (5, .int x51), (4, .int x50), (3, .int r39), (2, .int x37), (1, .int r33), (0, .ref (ad 55))]) hx hb dX12_bestFrom_129 hl (k := 1) rfl (by rw [ex123]; rfl) (of_decide_eq_true rfl) rfl (fun ls hl => ?_)
                          refine lv_goto (tgt := 85) hx hb dX12_bestFrom_132 (of_decide_eq_true rfl) ?_
                          have z124 : (σ113 55 26).toInt = (σ 55 26).toInt := (congrArg Int32.toInt (show σ113 55 26 = (σ 55 26) from ((f116 26 (of_decide_eq_true rfl)).trans (f63 26 (of_decide_eq_true rfl)))))
                          exact by exact ihlp48 x50 x51 x123 σ113 _ _ ls (by have h92 := tx123; omega) (by have h92 := tx123; omega) (by have h92 := tx123; omega) (by have h92 := tx123; omega) (by have h92 := tx123; omega) (by have h92 := tx123; omega) (fun i hi => ((f115 i hi).trans (f62 i hi))) (fun i hi => ((f116 i hi).trans (f63 i hi)))  p117 hP hS (lv_sub hl [0, 2, 3, 4, 5, 6, 7] rfl)
                       · have kc122 := jnle c122 rfl rfl
                         refine lv_iload hx hb dX12_bestFrom_121 (lv_at hl 0 rfl) ?_
                         refine lv_istore (lv' := [(5, .int r114), (7, .int r114), (6, .int x52), (4, .int x50), (3, .int r39), (2, .int x37), (1, .int r33), (0, .ref (ad 55))]) hx hb dX12_bestFrom_123 hl (of_decide_eq_true rfl) rfl (fun ls hl => ?_)
                         refine lv_iload hx hb dX12_bestFrom_125 (lv_at hl 2 rfl) ?_
                         exact by
                          refine lv_istore (lv' := [(4, .int x52), (5, .int r114), (7, .int r114), (6, .int x52), (3, .int r39), (2, .int x37), (1, .int r33), (0, .ref (ad 55))]) hx hb dX12_bestFrom_127 hl (of_decide_eq_true rfl) rfl (fun ls hl => ?_)
                          obtain ⟨x125, ex125⟩ : ∃ y : Int32, y = x52 + 1 := ⟨_, rfl⟩
                          have tx125 : x125.toInt = x52.toInt + 1 := (jadd ex125 rfl jz_1 (by omega) (by omega)).trans (by omega)
                          refine lv_iinc (v := x125) (lv' := [(6, .int x125), (4, .int x52), (5, .int r114), (7, .int r114), (3, .int r39), (2, .int x37), (1, .int r33), (0, .ref (ad 55))]) hx hb dX12_bestFrom_129 hl (k := 3) rfl (by rw [ex125]; rfl) (of_decide_eq_true rfl) rfl (fun ls hl => ?_)
                          refine lv_goto (tgt := 85) hx hb dX12_bestFrom_132 (of_decide_eq_true rfl) ?_
                          have z126 : (σ113 55 26).toInt = (σ 55 26).toInt := (congrArg Int32.toInt (show σ113 55 26 = (σ 55 26) from ((f116 26 (of_decide_eq_true rfl)).trans (f63 26 (of_decide_eq_true rfl)))))
                          exact by exact ihlp48 x52 r114 x125 σ113 _ _ ls (by have h92 := tx125; omega) (by have h92 := tx125; omega) (by have h92 := tx125; omega) (by have h92 := tx125; omega) (by have h92 := tx125; omega) (by have h92 := tx125; omega) (fun i hi => ((f115 i hi).trans (f62 i hi))) (fun i hi => ((f116 i hi).trans (f63 i hi)))  p117 hP hS (lv_sub hl [0, 2, 1, 4, 5, 6, 7] rfl)
                    · obtain ⟨q128, k127⟩ := h100
                      have q128 := q128.symm
                      exact by
                       subst q128
                       have e129 : jmb σ54 x52 = jmb σ x52 := (jmb_fr (f63 27 (of_decide_eq_true rfl)) (f63 30 (of_decide_eq_true rfl)) (f63 31 (of_decide_eq_true rfl)) (f62 56 (of_decide_eq_true rfl)) (f62 69 (of_decide_eq_true rfl)) x52)
                       have n130 : ¬ x52 = B28 := fun h => absurd ((w31).symm.trans (by rw [← h]; exact e129.symm.trans k127) : (1 : Int32) = 0) (of_decide_eq_true rfl)
                       have k131 := jne n130 rfl rfl
                       refine lv_if_ne (tgt := 106) hx hb dX12_bestFrom_100 (of_decide_eq_true rfl) (fun c => absurd (of_decide_eq_true rfl) c) (fun _ => ?_)
                       refine lv_goto (tgt := 129) hx hb dX12_bestFrom_103 (of_decide_eq_true rfl) ?_
                       obtain ⟨x132, ex132⟩ : ∃ y : Int32, y = x52 + 1 := ⟨_, rfl⟩
                       have tx132 : x132.toInt = x52.toInt + 1 := (jadd ex132 rfl jz_1 (by omega) (by omega)).trans (by omega)
                       refine lv_iinc (v := x132) (lv' := [(6, .int x132), (5, .int x51), (4, .int x50), (3, .int r39), (2, .int x37), (1, .int r33), (0, .ref (ad 55))]) hx hb dX12_bestFrom_129 hl (k := 0) rfl (by rw [ex132]; rfl) (of_decide_eq_true rfl) rfl (fun ls hl => ?_)
                       exact by
                        refine lv_goto (tgt := 85) hx hb dX12_bestFrom_132 (of_decide_eq_true rfl) ?_
                        exact by exact ihlp48 x50 x51 x132 σ54 _ _ ls (by have h92 := tx132; omega) (by have h92 := tx132; omega) (by have h92 := tx132; omega) (by have h92 := tx132; omega) (by have h92 := tx132; omega) (by have h92 := tx132; omega) (fun i hi => (f62 i hi)) (fun i hi => (f63 i hi))  p64 hP hS (lv_sub hl [0, 1, 2, 3, 4, 5, 6] rfl)
            exact by exact lp48 1000000 (-1) 2000000000 0 σ _ _ ls (by have h90 := jz_m1; have h91 := jz_2000000000; have h92 := jz_0; omega) (by have h90 := jz_m1; have h91 := jz_2000000000; have h92 := jz_0; omega) (by have h90 := jz_m1; have h91 := jz_2000000000; have h92 := jz_0; omega) (by have h90 := jz_m1; have h91 := jz_2000000000; have h92 := jz_0; omega) (by have h90 := jz_m1; have h91 := jz_2000000000; have h92 := jz_0; omega) (by have h90 := jz_m1; have h91 := jz_2000000000; have h92 := jz_0; omega) (fun _ _ => rfl) (fun _ _ => rfl)  hs_jKept hP hS hl
          · have kc47 := jeq c47 rfl rfl
            have g133 := hs_jKept r39.toNatClampNeg (jnat (x := r39) rfl (n := 65536) (by omega) (of_decide_eq_true rfl))
            refine lv_aload_n hx hb dX12_bestFrom_57 rfl (lv_at hl 3 rfl) ?_
            refine lv_aload_n hx hb dX12_bestFrom_58 rfl (lv_at hl 3 rfl) ?_
            refine va_get (D := D) hx hb hts inlX12 hown hK hP 55 (jc_55 cI cL ad σ τ) rfl 41 (of_decide_eq_true rfl) (hts _ kw_8_2) (fun _ h9 => h9) rfl dX12_bestFrom_59 ?_
            refine lv_iload_n hx hb dX12_bestFrom_62 rfl (lv_at hl 0 rfl) ?_
            exact by
             refine jald hx hb hK hP (jc_77 cI cL ad σ τ) (jin rfl (by omega) (by omega)) dX12_bestFrom_63 ?_
             refine jtopr (y := (σ 77 r39.toNatClampNeg)) rfl ?_
             refine jput (ty := .int) hx hb hts inlX12 tyX12 tyX12_ok nmX12 hown hK hP hJ hA hS (jc_55 cI cL ad σ τ) rfl (k := 37) (of_decide_eq_true rfl) (Nat.le_of_ble_eq_true rfl) (jp_55_37 cI cL ad σ τ (σ 77 r39.toNatClampNeg)) (hts _ kw_33_15) (fun _ h9 => h9) rfl (by decide +kernel) rfl rfl dX12_bestFrom_64 (fun σ134 H locs eσ134 hP hS => ?_)
             refine lv_aload_n hx hb dX12_bestFrom_67 rfl (lv_at hl 3 rfl) ?_
             refine va_get (D := D) hx hb hts inlX12 hown hK hP 55 (jc_55 cI cL ad σ134 τ) rfl 40 (of_decide_eq_true rfl) (hts _ kw_8_1) (fun _ h9 => h9) rfl dX12_bestFrom_68 ?_
             refine lv_iload_n hx hb dX12_bestFrom_71 rfl (lv_at hl 0 rfl) ?_
             refine jald hx hb hK hP (jc_76 cI cL ad σ134 τ) (jin rfl (by omega) (by omega)) dX12_bestFrom_72 ?_
             refine jtopr (y := (σ 76 r39.toNatClampNeg)) (by rw [jnp 76 eσ134 (of_decide_eq_true rfl)]) ?_
             have p135 : jKept σ134 := jKept.fr (jnp 75 eσ134 (of_decide_eq_true rfl)) (jnp 76 eσ134 (of_decide_eq_true rfl)) (jnp 77 eσ134 (of_decide_eq_true rfl)) hs_jKept
             exact by
              have z136 : (σ134 55 37).toInt = (σ 77 r39.toNatClampNeg).toInt := (congrArg Int32.toInt (show σ134 55 37 = (σ 77 r39.toNatClampNeg) from (jsp eσ134)))
              exact by exact hret (σ 76 r39.toNatClampNeg) σ134 τ _ _ _ _ rfl ⟨rfl, (fun i hi => (jnp i eσ134 (imp_206 i hi))), (fun i hi => (jkp i eσ134 (imp_207 i hi))), p135, (by omega), ⟨trivial, (by omega)⟩⟩ hP hS dX12_bestFrom_73
      · obtain ⟨q138, k137⟩ := h41
        have q138 := q138.symm
        subst q138
        refine lv_istore_n (lv' := [(3, .int (-1)), (2, .int x37), (1, .int r33), (0, .ref (ad 55))]) hx hb dX12_bestFrom_39 rfl hl (of_decide_eq_true rfl) rfl (fun ls hl => ?_)
        refine lv_iload_n hx hb dX12_bestFrom_40 rfl (lv_at hl 0 rfl) ?_
        refine lv_if_lt (tgt := 74) hx hb dX12_bestFrom_41 (of_decide_eq_true rfl) (fun _ => ?_) (fun c => absurd (of_decide_eq_true rfl) c)
        refine lv_iconst (v := (-1)) hx hb dX12_bestFrom_74 (of_decide_eq_true rfl) ?_
        refine lv_istore (lv' := [(4, .int (-1)), (3, .int (-1)), (2, .int x37), (1, .int r33), (0, .ref (ad 55))]) hx hb dX12_bestFrom_75 hl (of_decide_eq_true rfl) rfl (fun ls hl => ?_)
        refine lv_ldcw (v := 2000000000) hx hb hown (hts _ kw_34_4) dX12_bestFrom_77 ?_
        refine lv_istore (lv' := [(5, .int 2000000000), (4, .int (-1)), (3, .int (-1)), (2, .int x37), (1, .int r33), (0, .ref (ad 55))]) hx hb dX12_bestFrom_80 hl (of_decide_eq_true rfl) rfl (fun ls hl => ?_)
        refine lv_iconst (v := 0) hx hb dX12_bestFrom_82 (of_decide_eq_true rfl) ?_
        refine lv_istore (lv' := [(6, .int 0), (5, .int 2000000000), (4, .int (-1)), (3, .int (-1)), (2, .int x37), (1, .int r33), (0, .ref (ad 55))]) hx hb dX12_bestFrom_83 hl (of_decide_eq_true rfl) rfl (fun ls hl => ?_)
        have lp139 : ∀ (n140 : Nat) (x141 : Int32) (x142 : Int32) (x143 : Int32) (σ145 : Nat → Nat → Int32) (H : Heap) (locs : List Loc) (ls : Array Slot), (-x143.toInt + 4 : Int) < n140 → (-1) ≤ x141.toInt → x141.toInt ≤ 3 → 0 ≤ x143.toInt → x143.toInt ≤ 4 → ((0 ≤ x141.toInt ∧ 0 ≤ x142.toInt ∧ x142.toInt ≤ -(1023000 * (σ145 55 26).toInt) + 12276000) ∨ (x141.toInt = (-1) ∧ x142.toInt = 2000000000 ∧ x143.toInt ≤ B28.toInt)) → (∀ i : Nat, (i < 55 ∨ 55 < i) ∧ (i < 66 ∨ 66 < i) ∧ (i < 74 ∨ 78 < i) → σ145 i = σ i) → (∀ k : Nat, (k < 18 ∨ 18 < k) ∧ (k < 19 ∨ 19 < k) ∧ (k < 20 ∨ 20 < k) ∧ (k < 21 ∨ 21 < k) ∧ (k < 22 ∨ 22 < k) ∧ (k < 37 ∨ 37 < k) → σ145 55 k = σ 55 k) → jKept σ145 → jH D cI cL ad σ145 τ H → va_S (jA ad) s.heap H locs → lv_has ls 8 [(6, .int x143), (5, .int x142), (4, .int x141), (3, .int (-1)), (2, .int x37), (1, .int r33), (0, .ref (ad 55))] → W p l e ({ frames := (70 + 4 * (n)), cells := 0, slots := 0, locals := (3114 + 240 * (n)) }) s m args below meth c H locs 0 0 Q (F0 m 85 ls []) := by
          intro n140
          induction n140 with
          | zero => intro x141 x142 x143 σ145 H locs ls h147 h148 h149 h150 h151 h152; have gx142 := jrg (rfl : x142.toInt = x142.toInt); exact absurd h147 (by omega)
          | succ n140 ihlp139 =>
            intro x141 x142 x143 σ145 H locs ls h147 h148 h149 h150 h151 h152 f153 f154 p155 hP hS hl
            exact by
             have gx142 := jrg (rfl : x142.toInt = x142.toInt)
             have z156 : (σ145 55 26).toInt = (σ 55 26).toInt := (congrArg Int32.toInt (show σ145 55 26 = (σ 55 26) from (f154 26 (of_decide_eq_true rfl))))
             refine lv_iload hx hb dX12_bestFrom_85 (lv_at hl 0 rfl) ?_
             refine lv_aload_n hx hb dX12_bestFrom_87 rfl (lv_at hl 6 rfl) ?_
             refine va_get (D := D) hx hb hts inlX12 hown hK hP 55 (jc_55 cI cL ad σ145 τ) rfl 6 (of_decide_eq_true rfl) (hts _ kw_9_13) (fun _ h9 => h9) rfl dX12_bestFrom_88 ?_
             have m157 : σ145 55 6 = (σ 55 6) := (f154 6 (of_decide_eq_true rfl))
             refine jtopr m157 ?_
             refine lv_icmp_ge (tgt := 135) hx hb dX12_bestFrom_91 (of_decide_eq_true rfl) (fun c158 => ?_) (fun c158 => ?_)
             · have kc158 := jle c158 rfl rfl
               refine lv_aload_n hx hb dX12_bestFrom_135 rfl (lv_at hl 6 rfl) ?_
               refine lv_iload_n hx hb dX12_bestFrom_136 rfl (lv_at hl 5 rfl) ?_
               refine lv_iload_n hx hb dX12_bestFrom_137 rfl (lv_at hl 4 rfl) ?_
               refine jcallV (As := [.int r33, .int x37]) (rest := []) ⟨hx, hb, hml, hown, hts⟩ hK hP hA hS hZ (c_X12_spot l D cI cL ad zz hJ σ145 τ r33 (r33.toInt) rfl x37 (16 * (σ 55 26).toInt + (σ 55 25).toInt) tx37) cw_RX12_314 (jc_55 cI cL ad σ145 τ) rfl ⟨by dsimp only; omega, by dsimp only; omega⟩ rfl rfl rfl hl.1 rfl (Nat.le_of_ble_eq_true rfl) dX12_bestFrom_138 ⟨Nat.zero_le _, Nat.zero_le _⟩ (fun r160 σ159 τ159 H locs h159 hP hS => ?_)
               obtain ⟨⟨rfl, rfl⟩, h159⟩ := h159
               rcases h159 with h161 | h162
               · obtain ⟨q165, k163, k164⟩ := h161
                 have z167 : (σ145 55 42).toInt = (σ 55 42).toInt := (congrArg Int32.toInt (show σ145 55 42 = (σ 55 42) from (f154 42 (of_decide_eq_true rfl))))
                 have k166 : (σ145 78 r160.toNatClampNeg).toInt ≠ (σ145 55 42).toInt ∨ (σ145 75 r160.toNatClampNeg).toInt = 16 * (σ 55 26).toInt + (σ 55 25).toInt := k164.imp (fun q => jne q rfl rfl) (fun q => jeq q rfl tx37)
                 refine lv_istore_n (lv' := [(3, .int r160), (6, .int x143), (5, .int x142), (4, .int x141), (2, .int x37), (1, .int r33), (0, .ref (ad 55))]) hx hb dX12_bestFrom_141 rfl hl (of_decide_eq_true rfl) rfl (fun ls hl => ?_)
                 refine lv_iload_n hx hb dX12_bestFrom_142 rfl (lv_at hl 0 rfl) ?_
                 exact by
                  refine lv_if_lt (tgt := 186) hx hb dX12_bestFrom_143 (of_decide_eq_true rfl) (fun c => absurd (jlt c rfl jz_0) (by omega)) (fun c168 => ?_)
                  have kc168 := jnlt c168 rfl jz_0
                  refine lv_aload_n hx hb dX12_bestFrom_146 rfl (lv_at hl 6 rfl) ?_
                  refine va_get (D := D) hx hb hts inlX12 hown hK hP 55 (jc_55 cI cL ad σ145 τ) rfl 43 (of_decide_eq_true rfl) (hts _ kw_8_3) (fun _ h9 => h9) rfl dX12_bestFrom_147 ?_
                  refine lv_iload_n hx hb dX12_bestFrom_150 rfl (lv_at hl 0 rfl) ?_
                  refine lv_aload_n hx hb dX12_bestFrom_151 rfl (lv_at hl 6 rfl) ?_
                  refine va_get (D := D) hx hb hts inlX12 hown hK hP 55 (jc_55 cI cL ad σ145 τ) rfl 42 (of_decide_eq_true rfl) (hts _ kw_33_10) (fun _ h9 => h9) rfl dX12_bestFrom_152 ?_
                  have m169 : σ145 55 42 = (σ 55 42) := (f154 42 (of_decide_eq_true rfl))
                  refine jtopr m169 ?_
                  exact by
                   refine jast hx hb hK hP hJ hA hS (jc_78 cI cL ad σ145 τ) (ja_78 cI cL ad σ145 τ _ _) (jin rfl (by omega) (by omega)) dX12_bestFrom_155 (fun σ170 H locs eσ170 hP hS => ?_)
                   refine lv_aload_n hx hb dX12_bestFrom_156 rfl (lv_at hl 6 rfl) ?_
                   refine va_get (D := D) hx hb hts inlX12 hown hK hP 55 (jc_55 cI cL ad σ170 τ) rfl 38 (of_decide_eq_true rfl) (hts _ kw_7_23) (fun _ h9 => h9) rfl dX12_bestFrom_157 ?_
                   refine lv_iload_n hx hb dX12_bestFrom_160 rfl (lv_at hl 0 rfl) ?_
                   refine lv_iload_n hx hb dX12_bestFrom_161 rfl (lv_at hl 5 rfl) ?_
                   refine jast hx hb hK hP hJ hA hS (jc_74 cI cL ad σ170 τ) (ja_74 cI cL ad σ170 τ _ _) (jin rfl (by omega) (by omega)) dX12_bestFrom_162 (fun σ171 H locs eσ171 hP hS => ?_)
                   refine lv_aload_n hx hb dX12_bestFrom_163 rfl (lv_at hl 6 rfl) ?_
                   refine va_get (D := D) hx hb hts inlX12 hown hK hP 55 (jc_55 cI cL ad σ171 τ) rfl 39 (of_decide_eq_true rfl) (hts _ kw_8_0) (fun _ h9 => h9) rfl dX12_bestFrom_164 ?_
                   refine lv_iload_n hx hb dX12_bestFrom_167 rfl (lv_at hl 0 rfl) ?_
                   exact by
                    refine lv_iload_n hx hb dX12_bestFrom_168 rfl (lv_at hl 4 rfl) ?_
                    refine jast hx hb hK hP hJ hA hS (jc_75 cI cL ad σ171 τ) (ja_75 cI cL ad σ171 τ _ _) (jin rfl (by omega) (by omega)) dX12_bestFrom_169 (fun σ172 H locs eσ172 hP hS => ?_)
                    refine lv_aload_n hx hb dX12_bestFrom_170 rfl (lv_at hl 6 rfl) ?_
                    refine va_get (D := D) hx hb hts inlX12 hown hK hP 55 (jc_55 cI cL ad σ172 τ) rfl 40 (of_decide_eq_true rfl) (hts _ kw_8_1) (fun _ h9 => h9) rfl dX12_bestFrom_171 ?_
                    refine lv_iload_n hx hb dX12_bestFrom_174 rfl (lv_at hl 0 rfl) ?_
                    refine lv_iload hx hb dX12_bestFrom_175 (lv_at hl 2 rfl) ?_
                    refine jast hx hb hK hP hJ hA hS (jc_76 cI cL ad σ172 τ) (ja_76 cI cL ad σ172 τ _ _) (jin rfl (by omega) (by omega)) dX12_bestFrom_177 (fun σ173 H locs eσ173 hP hS => ?_)
                    refine lv_aload_n hx hb dX12_bestFrom_178 rfl (lv_at hl 6 rfl) ?_
                    refine va_get (D := D) hx hb hts inlX12 hown hK hP 55 (jc_55 cI cL ad σ173 τ) rfl 41 (of_decide_eq_true rfl) (hts _ kw_8_2) (fun _ h9 => h9) rfl dX12_bestFrom_179 ?_
                    exact by
                     refine lv_iload_n hx hb dX12_bestFrom_182 rfl (lv_at hl 0 rfl) ?_
                     refine lv_iload hx hb dX12_bestFrom_183 (lv_at hl 3 rfl) ?_
                     refine jast hx hb hK hP hJ hA hS (jc_77 cI cL ad σ173 τ) (ja_77 cI cL ad σ173 τ _ _) (jin rfl (by omega) (by omega)) dX12_bestFrom_185 (fun σ174 H locs eσ174 hP hS => ?_)
                     have e175 : σ174 75 = jupd (σ145 75) r160.toNatClampNeg x37 := by rw [eσ174, jup_n (of_decide_eq_true rfl), eσ173, jup_n (of_decide_eq_true rfl), eσ172, jup_row, eσ171, jup_n (of_decide_eq_true rfl), eσ170, jup_n (of_decide_eq_true rfl)]
                     have e176 : σ174 76 = jupd (σ145 76) r160.toNatClampNeg x142 := by rw [eσ174, jup_n (of_decide_eq_true rfl), eσ173, jup_row, eσ172, jup_n (of_decide_eq_true rfl), eσ171, jup_n (of_decide_eq_true rfl), eσ170, jup_n (of_decide_eq_true rfl)]
                     have e177 : σ174 77 = jupd (σ145 77) r160.toNatClampNeg x141 := by rw [eσ174, jup_row, eσ173, jup_n (of_decide_eq_true rfl), eσ172, jup_n (of_decide_eq_true rfl), eσ171, jup_n (of_decide_eq_true rfl), eσ170, jup_n (of_decide_eq_true rfl)]
                     have z178 : (σ174 55 26).toInt = (σ 55 26).toInt := (congrArg Int32.toInt (show σ174 55 26 = (σ 55 26) from ((congrFun (jnp 55 eσ174 (of_decide_eq_true rfl)) 26).trans ((congrFun (jnp 55 eσ173 (of_decide_eq_true rfl)) 26).trans ((congrFun (jnp 55 eσ172 (of_decide_eq_true rfl)) 26).trans ((congrFun (jnp 55 eσ171 (of_decide_eq_true rfl)) 26).trans ((congrFun (jnp 55 eσ170 (of_decide_eq_true rfl)) 26).trans (f154 26 (of_decide_eq_true rfl)))))))))
                     have p179 : jKept σ174 := p155.on e175 e176 e177 (by have h91 := tx37; omega) (by have h91 := tx37; omega) (by have h91 := tx37; omega) (by have h91 := tx37; omega)
                     refine lv_aload_n hx hb dX12_bestFrom_186 rfl (lv_at hl 6 rfl) ?_
                     exact by
                      refine lv_iload hx hb dX12_bestFrom_187 (lv_at hl 3 rfl) ?_
                      refine jput (ty := .int) hx hb hts inlX12 tyX12 tyX12_ok nmX12 hown hK hP hJ hA hS (jc_55 cI cL ad σ174 τ) rfl (k := 37) (of_decide_eq_true rfl) (Nat.le_of_ble_eq_true rfl) (jp_55_37 cI cL ad σ174 τ x141) (hts _ kw_33_15) (fun _ h9 => h9) rfl (by decide +kernel) rfl rfl dX12_bestFrom_189 (fun σ180 H locs eσ180 hP hS => ?_)
                      refine lv_iload hx hb dX12_bestFrom_192 (lv_at hl 2 rfl) ?_
                      have p181 : jKept σ180 := jKept.fr (jnp 75 eσ180 (of_decide_eq_true rfl)) (jnp 76 eσ180 (of_decide_eq_true rfl)) (jnp 77 eσ180 (of_decide_eq_true rfl)) p179
                      have z182 : (σ180 55 37).toInt = x141.toInt := (congrArg Int32.toInt (show σ180 55 37 = x141 from (jsp eσ180)))
                      exact by exact hret x142 σ180 τ _ _ _ _ rfl ⟨rfl, (fun i hi => ((jnp i eσ180 (imp_206 i hi)).trans ((jnp i eσ174 (imp_208 i hi)).trans ((jnp i eσ173 (imp_209 i hi)).trans ((jnp i eσ172 (imp_210 i hi)).trans ((jnp i eσ171 (imp_211 i hi)).trans ((jnp i eσ170 (imp_212 i hi)).trans (f153 i hi)))))))), (fun i hi => ((jkp i eσ180 (imp_207 i hi)).trans ((congrFun (jnp 55 eσ174 (of_decide_eq_true rfl)) i).trans ((congrFun (jnp 55 eσ173 (of_decide_eq_true rfl)) i).trans ((congrFun (jnp 55 eσ172 (of_decide_eq_true rfl)) i).trans ((congrFun (jnp 55 eσ171 (of_decide_eq_true rfl)) i).trans ((congrFun (jnp 55 eσ170 (of_decide_eq_true rfl)) i).trans (f154 i hi)))))))), p181, (by omega), ⟨trivial, (by omega)⟩⟩ hP hS dX12_bestFrom_194
               · obtain ⟨q184, k183⟩ := h162
                 have q184 := q184.symm
                 subst q184
                 refine lv_istore_n (lv' := [(3, .int (-1)), (6, .int x143), (5, .int x142), (4, .int x141), (2, .int x37), (1, .int r33), (0, .ref (ad 55))]) hx hb dX12_bestFrom_141 rfl hl (of_decide_eq_true rfl) rfl (fun ls hl => ?_)
                 refine lv_iload_n hx hb dX12_bestFrom_142 rfl (lv_at hl 0 rfl) ?_
                 refine lv_if_lt (tgt := 186) hx hb dX12_bestFrom_143 (of_decide_eq_true rfl) (fun _ => ?_) (fun c => absurd (of_decide_eq_true rfl) c)
                 refine lv_aload_n hx hb dX12_bestFrom_186 rfl (lv_at hl 6 rfl) ?_
                 refine lv_iload hx hb dX12_bestFrom_187 (lv_at hl 3 rfl) ?_
                 refine jput (ty := .int) hx hb hts inlX12 tyX12 tyX12_ok nmX12 hown hK hP hJ hA hS (jc_55 cI cL ad σ145 τ) rfl (k := 37) (of_decide_eq_true rfl) (Nat.le_of_ble_eq_true rfl) (jp_55_37 cI cL ad σ145 τ x141) (hts _ kw_33_15) (fun _ h9 => h9) rfl (by decide +kernel) rfl rfl dX12_bestFrom_189 (fun σ185 H locs eσ185 hP hS => ?_)
                 refine lv_iload hx hb dX12_bestFrom_192 (lv_at hl 2 rfl) ?_
                 have p186 : jKept σ185 := jKept.fr (jnp 75 eσ185 (of_decide_eq_true rfl)) (jnp 76 eσ185 (of_decide_eq_true rfl)) (jnp 77 eσ185 (of_decide_eq_true rfl)) p155
                 have z187 : (σ185 55 37).toInt = x141.toInt := (congrArg Int32.toInt (show σ185 55 37 = x141 from (jsp eσ185)))
                 exact by exact hret x142 σ185 τ _ _ _ _ rfl ⟨rfl, (fun i hi => ((jnp i eσ185 (imp_206 i hi)).trans (f153 i hi))), (fun i hi => ((jkp i eσ185 (imp_207 i hi)).trans (f154 i hi))), p186, (by omega), ⟨trivial, (by omega)⟩⟩ hP hS dX12_bestFrom_194
             · have kc158 := jnle c158 rfl rfl
               refine lv_aload_n hx hb dX12_bestFrom_94 rfl (lv_at hl 6 rfl) ?_
               refine lv_iload hx hb dX12_bestFrom_95 (lv_at hl 0 rfl) ?_
               exact by
                refine jcallV (As := [.int x143]) (rest := []) ⟨hx, hb, hml, hown, hts⟩ hK hP hA hS hZ (c_X12_mayBowl l D cI cL ad zz hJ σ145 τ x143 (x143.toInt) rfl (by omega)) cw_RX12_249 (jc_55 cI cL ad σ145 τ) rfl ⟨by dsimp only; omega, by dsimp only; omega⟩ rfl rfl rfl hl.1 rfl (Nat.le_of_ble_eq_true rfl) dX12_bestFrom_97 ⟨Nat.zero_le _, Nat.zero_le _⟩ (fun r189 σ188 τ188 H locs h188 hP hS => ?_)
                obtain ⟨⟨rfl, rfl⟩, h188⟩ := h188
                rcases h188 with h190 | h191
                · obtain ⟨q193, k192⟩ := h190
                  have q193 := q193.symm
                  subst q193
                  refine lv_if_ne (tgt := 106) hx hb dX12_bestFrom_100 (of_decide_eq_true rfl) (fun _ => ?_) (fun c => absurd c (of_decide_eq_true rfl))
                  refine lv_aload_n hx hb dX12_bestFrom_106 rfl (lv_at hl 6 rfl) ?_
                  refine lv_iload hx hb dX12_bestFrom_107 (lv_at hl 0 rfl) ?_
                  have I194 : jI101 σ145 := jI101_fr (f154 4 (of_decide_eq_true rfl)) (f154 5 (of_decide_eq_true rfl)) (f153 56 (of_decide_eq_true rfl)) (f153 57 (of_decide_eq_true rfl)) (f153 58 (of_decide_eq_true rfl)) (f153 59 (of_decide_eq_true rfl)) hI101
                  have I195 : jI102 σ145 := jI102_fr (f154 6 (of_decide_eq_true rfl)) (f153 60 (of_decide_eq_true rfl)) (f153 61 (of_decide_eq_true rfl)) hI102
                  have I196 : jI103 σ145 := jI103_fr (f154 9 (of_decide_eq_true rfl)) hI103
                  have I197 : jI104 σ145 := jI104_fr (f154 10 (of_decide_eq_true rfl)) (f154 12 (of_decide_eq_true rfl)) (f154 13 (of_decide_eq_true rfl)) (f153 62 (of_decide_eq_true rfl)) (f153 67 (of_decide_eq_true rfl)) hI104
                  have I198 : jI105 σ145 := jI105_fr (f154 15 (of_decide_eq_true rfl)) (f153 65 (of_decide_eq_true rfl)) hI105
                  have I199 : jI106 σ145 := jI106_fr (f154 32 (of_decide_eq_true rfl)) (f153 70 (of_decide_eq_true rfl)) (f153 71 (of_decide_eq_true rfl)) (f153 72 (of_decide_eq_true rfl)) hI106
                  have I200 : jI120 σ145 := jI120_fr (f154 10 (of_decide_eq_true rfl)) (f154 12 (of_decide_eq_true rfl)) (f154 25 (of_decide_eq_true rfl)) (f154 26 (of_decide_eq_true rfl)) (f154 27 (of_decide_eq_true rfl)) (f153 68 (of_decide_eq_true rfl)) hI120
                  have z201 : (σ145 55 25).toInt = (σ 55 25).toInt := (congrArg Int32.toInt (show σ145 55 25 = (σ 55 25) from (f154 25 (of_decide_eq_true rfl))))
                  have z202 : (σ145 55 10).toInt = (σ 55 10).toInt := (congrArg Int32.toInt (show σ145 55 10 = (σ 55 10) from (f154 10 (of_decide_eq_true rfl))))
                  have z203 : (σ145 55 12).toInt = (σ 55 12).toInt := (congrArg Int32.toInt (show σ145 55 12 = (σ 55 12) from (f154 12 (of_decide_eq_true rfl))))
                  exact by
                   refine jcallV (As := [.int x143]) (rest := []) ⟨hx, hb, hml, hown, hts⟩ hK hP hA hS hZ (h_mean σ145 τ x143 (x143.toInt) rfl I194 I195 I196 I197 I198 I199 I200 p155 (by omega) (by omega) (by omega) (by omega)) cw_RX12_318 (jc_55 cI cL ad σ145 τ) rfl ⟨by dsimp only; omega, by dsimp only; omega⟩ rfl rfl rfl hl.1 rfl (Nat.le_of_ble_eq_true rfl) dX12_bestFrom_109 ⟨Nat.zero_le _, Nat.zero_le _⟩ (fun r205 σ204 τ204 H locs h204 hP hS => ?_)
                   obtain ⟨rfl, f206, f207, p208, h204⟩ := h204
                   have h210 := h204
                   obtain ⟨q212, k211⟩ := h210
                   refine lv_istore (lv' := [(7, .int r205), (6, .int x143), (5, .int x142), (4, .int x141), (3, .int (-1)), (2, .int x37), (1, .int r33), (0, .ref (ad 55))]) hx hb dX12_bestFrom_112 hl (of_decide_eq_true rfl) rfl (fun ls hl => ?_)
                   refine lv_iload hx hb dX12_bestFrom_114 (lv_at hl 0 rfl) ?_
                   refine lv_iload hx hb dX12_bestFrom_116 (lv_at hl 2 rfl) ?_
                   refine lv_icmp_ge (tgt := 129) hx hb dX12_bestFrom_118 (of_decide_eq_true rfl) (fun c213 => ?_) (fun c213 => ?_)
                   · have kc213 := jle c213 rfl rfl
                     obtain ⟨x214, ex214⟩ : ∃ y : Int32, y = x143 + 1 := ⟨_, rfl⟩
                     exact by
                      have tx214 : x214.toInt = x143.toInt + 1 := (jadd ex214 rfl jz_1 (by omega) (by omega)).trans (by omega)
                      refine lv_iinc (v := x214) (lv' := [(6, .int x214), (7, .int r205), (5, .int x142), (4, .int x141), (3, .int (-1)), (2, .int x37), (1, .int r33), (0, .ref (ad 55))]) hx hb dX12_bestFrom_129 hl (k := 1) rfl (by rw [ex214]; rfl) (of_decide_eq_true rfl) rfl (fun ls hl => ?_)
                      refine lv_goto (tgt := 85) hx hb dX12_bestFrom_132 (of_decide_eq_true rfl) ?_
                      have z215 : (σ204 55 26).toInt = (σ 55 26).toInt := (congrArg Int32.toInt (show σ204 55 26 = (σ 55 26) from ((f207 26 (of_decide_eq_true rfl)).trans (f154 26 (of_decide_eq_true rfl)))))
                      exact by exact ihlp139 x141 x142 x214 σ204 _ _ ls (by have h92 := tx214; omega) (by have h92 := tx214; omega) (by have h92 := tx214; omega) (by have h92 := tx214; omega) (by have h92 := tx214; omega) (by have h92 := tx214; omega) (fun i hi => ((f206 i hi).trans (f153 i hi))) (fun i hi => ((f207 i hi).trans (f154 i hi)))  p208 hP hS (lv_sub hl [0, 2, 3, 4, 5, 6, 7] rfl)
                   · have kc213 := jnle c213 rfl rfl
                     refine lv_iload hx hb dX12_bestFrom_121 (lv_at hl 0 rfl) ?_
                     refine lv_istore (lv' := [(5, .int r205), (7, .int r205), (6, .int x143), (4, .int x141), (3, .int (-1)), (2, .int x37), (1, .int r33), (0, .ref (ad 55))]) hx hb dX12_bestFrom_123 hl (of_decide_eq_true rfl) rfl (fun ls hl => ?_)
                     refine lv_iload hx hb dX12_bestFrom_125 (lv_at hl 2 rfl) ?_
                     exact by
                      refine lv_istore (lv' := [(4, .int x143), (5, .int r205), (7, .int r205), (6, .int x143), (3, .int (-1)), (2, .int x37), (1, .int r33), (0, .ref (ad 55))]) hx hb dX12_bestFrom_127 hl (of_decide_eq_true rfl) rfl (fun ls hl => ?_)
                      obtain ⟨x216, ex216⟩ : ∃ y : Int32, y = x143 + 1 := ⟨_, rfl⟩
                      have tx216 : x216.toInt = x143.toInt + 1 := (jadd ex216 rfl jz_1 (by omega) (by omega)).trans (by omega)
                      refine lv_iinc (v := x216) (lv' := [(6, .int x216), (4, .int x143), (5, .int r205), (7, .int r205), (3, .int (-1)), (2, .int x37), (1, .int r33), (0, .ref (ad 55))]) hx hb dX12_bestFrom_129 hl (k := 3) rfl (by rw [ex216]; rfl) (of_decide_eq_true rfl) rfl (fun ls hl => ?_)
                      refine lv_goto (tgt := 85) hx hb dX12_bestFrom_132 (of_decide_eq_true rfl) ?_
                      have z217 : (σ204 55 26).toInt = (σ 55 26).toInt := (congrArg Int32.toInt (show σ204 55 26 = (σ 55 26) from ((f207 26 (of_decide_eq_true rfl)).trans (f154 26 (of_decide_eq_true rfl)))))
                      exact by exact ihlp139 x143 r205 x216 σ204 _ _ ls (by have h92 := tx216; omega) (by have h92 := tx216; omega) (by have h92 := tx216; omega) (by have h92 := tx216; omega) (by have h92 := tx216; omega) (by have h92 := tx216; omega) (fun i hi => ((f206 i hi).trans (f153 i hi))) (fun i hi => ((f207 i hi).trans (f154 i hi)))  p208 hP hS (lv_sub hl [0, 2, 1, 4, 5, 6, 7] rfl)
                · obtain ⟨q219, k218⟩ := h191
                  have q219 := q219.symm
                  exact by
                   subst q219
                   have e220 : jmb σ145 x143 = jmb σ x143 := (jmb_fr (f154 27 (of_decide_eq_true rfl)) (f154 30 (of_decide_eq_true rfl)) (f154 31 (of_decide_eq_true rfl)) (f153 56 (of_decide_eq_true rfl)) (f153 69 (of_decide_eq_true rfl)) x143)
                   have n221 : ¬ x143 = B28 := fun h => absurd ((w31).symm.trans (by rw [← h]; exact e220.symm.trans k218) : (1 : Int32) = 0) (of_decide_eq_true rfl)
                   have k222 := jne n221 rfl rfl
                   refine lv_if_ne (tgt := 106) hx hb dX12_bestFrom_100 (of_decide_eq_true rfl) (fun c => absurd (of_decide_eq_true rfl) c) (fun _ => ?_)
                   refine lv_goto (tgt := 129) hx hb dX12_bestFrom_103 (of_decide_eq_true rfl) ?_
                   obtain ⟨x223, ex223⟩ : ∃ y : Int32, y = x143 + 1 := ⟨_, rfl⟩
                   have tx223 : x223.toInt = x143.toInt + 1 := (jadd ex223 rfl jz_1 (by omega) (by omega)).trans (by omega)
                   refine lv_iinc (v := x223) (lv' := [(6, .int x223), (5, .int x142), (4, .int x141), (3, .int (-1)), (2, .int x37), (1, .int r33), (0, .ref (ad 55))]) hx hb dX12_bestFrom_129 hl (k := 0) rfl (by rw [ex223]; rfl) (of_decide_eq_true rfl) rfl (fun ls hl => ?_)
                   exact by
                    refine lv_goto (tgt := 85) hx hb dX12_bestFrom_132 (of_decide_eq_true rfl) ?_
                    exact by exact ihlp139 x141 x142 x223 σ145 _ _ ls (by have h92 := tx223; omega) (by have h92 := tx223; omega) (by have h92 := tx223; omega) (by have h92 := tx223; omega) (by have h92 := tx223; omega) (by have h92 := tx223; omega) (fun i hi => (f153 i hi)) (fun i hi => (f154 i hi))  p155 hP hS (lv_sub hl [0, 1, 2, 3, 4, 5, 6] rfl)
        exact by exact lp139 1000000 (-1) 2000000000 0 σ _ _ ls (by have h90 := jz_m1; have h91 := jz_2000000000; have h92 := jz_0; omega) (by have h90 := jz_m1; have h91 := jz_2000000000; have h92 := jz_0; omega) (by have h90 := jz_m1; have h91 := jz_2000000000; have h92 := jz_0; omega) (by have h90 := jz_m1; have h91 := jz_2000000000; have h92 := jz_0; omega) (by have h90 := jz_m1; have h91 := jz_2000000000; have h92 := jz_0; omega) (by have h90 := jz_m1; have h91 := jz_2000000000; have h92 := jz_0; omega) (fun _ _ => rfl) (fun _ _ => rfl)  hs_jKept hP hS hl
set_option maxHeartbeats 4000000 in
set_option maxRecDepth 100000 in
theorem c_X12_bests_bw_g (l : Launch) (D : va_G) (cI cL : ClassId) (ad zz : Nat → Nat) (hJ : jD ad) (n : Nat) (h_mean : ∀ (σ : Nat → Nat → Int32) (τ : Nat → Nat → Int64) (a1 : Int32) (A1 : Int) (t1 : a1.toInt = A1) (hI101 : jI101 σ) (hI102 : jI102 σ) (hI103 : jI103 σ) (hI104 : jI104 σ) (hI105 : jI105 σ) (hI106 : jI106 σ) (hI120 : jI120 σ) (hs_jKept : jKept σ) (hp0 : 0 ≤ A1 ∧ A1 ≤ 3) (hp1 : (σ 55 25).toInt < (σ 55 10).toInt) (hp2 : (σ 55 26).toInt < (σ 55 12).toInt) (hp3 : (σ 55 12).toInt - (σ 55 26).toInt ≤ (((n) : Nat) : Int)), jM l yX12_meanWith cX12_meanWith 8 (some .int) ({ frames := (69 + 4 * (n)), cells := 0, slots := 0, locals := (3034 + 240 * (n)) }) D cI cL ad zz [.ref (ad 55), .int a1] σ τ (fun r σ' τ' => τ = τ' ∧ (∀ i : Nat, (i < 55 ∨ 55 < i) ∧ (i < 66 ∨ 66 < i) ∧ (i < 74 ∨ 78 < i) → σ' i = σ i) ∧ (∀ k : Nat, (k < 18 ∨ 18 < k) ∧ (k < 19 ∨ 19 < k) ∧ (k < 20 ∨ 20 < k) ∧ (k < 21 ∨ 21 < k) ∧ (k < 22 ∨ 22 < k) ∧ (k < 37 ∨ 37 < k) → σ' 55 k = σ 55 k) ∧ (jKept σ') ∧ ((True ∧ (0 ≤ r.toInt ∧ r.toInt ≤ -(1023000 * (σ 55 26).toInt) + 12276000))))) (σ : Nat → Nat → Int32) (τ : Nat → Nat → Int64) (B0 : Int32) (hB0 : jmb σ B0 = 1) (hI101 : jI101 σ) (hI102 : jI102 σ) (hI103 : jI103 σ) (hI104 : jI104 σ) (hI105 : jI105 σ) (hI106 : jI106 σ) (hI120 : jI120 σ) (hs_jKept : jKept σ) (hp0 : 0 ≤ B0.toInt ∧ B0.toInt < (σ 55 6).toInt) (hp1 : (σ 55 25).toInt < (σ 55 10).toInt) (hp2 : (σ 55 26).toInt < (σ 55 12).toInt) (hp3 : (σ 55 12).toInt - (σ 55 26).toInt ≤ (((n) : Nat) : Int)) : jM l yX12_bestFrom cX12_bestFrom 8 (some .int) ({ frames := (70 + 4 * (n)), cells := 0, slots := 0, locals := (3114 + 240 * (n)) }) D cI cL ad zz [.ref (ad 55)] σ τ (fun r σ' τ' => τ = τ' ∧ (∀ i : Nat, (i < 55 ∨ 55 < i) ∧ (i < 66 ∨ 66 < i) ∧ (i < 74 ∨ 78 < i) → σ' i = σ i) ∧ (∀ k : Nat, (k < 18 ∨ 18 < k) ∧ (k < 19 ∨ 19 < k) ∧ (k < 20 ∨ 20 < k) ∧ (k < 21 ∨ 21 < k) ∧ (k < 22 ∨ 22 < k) ∧ (k < 37 ∨ 37 < k) → σ' 55 k = σ 55 k) ∧ (jKept σ') ∧ (0 ≤ (σ' 55 37).toInt ∧ (σ' 55 37).toInt ≤ 3) ∧ ((True ∧ (0 ≤ r.toInt ∧ r.toInt ≤ -(1023000 * (σ 55 26).toInt) + 12276000)))) := by
  refine jM.of hJ (by decide +kernel) (nt := .int) rfl (Nat.le_of_ble_eq_true rfl) ?_
  intro p e s m args below meth c Q ls hC hret hl hP
  obtain ⟨hx, hb, hr, hml, hown, hts, hK, -, hlocks, hZ⟩ := hC
  have hown : s.vm.findClass RX12 = some m.cls := hown
  have hS : va_S (jA ad) s.heap s.heap [] := va_S.rf
  have hA : ∀ q, jA ad q → jA ad q := fun _ h => h
  have hl : lv_has ls 8 [(0, .ref (ad 55))] := hl
  obtain ⟨i1, w2, w3⟩ : (0 ≤ (σ 55 6).toInt ∧ (σ 55 6).toInt ≤ 4) ∧ (∀ k : Nat, k < 4 → 0 ≤ (σ 60 k).toInt ∧ (σ 60 k).toInt ≤ 50) ∧ (∀ k : Nat, k < 4 → 0 ≤ (σ 61 k).toInt ∧ (σ 61 k).toInt ≤ 20) := id hI102
  obtain ⟨i4, i5, i6, w7, w8⟩ : (1 ≤ (σ 55 10).toInt ∧ (σ 55 10).toInt ≤ 8) ∧ (1 ≤ (σ 55 12).toInt ∧ (σ 55 12).toInt ≤ 12) ∧ (0 ≤ (σ 55 13).toInt ∧ (σ 55 13).toInt ≤ 999) ∧ (∀ k : Nat, k < 8 → 0 ≤ (σ 62 k).toInt ∧ (σ 62 k).toInt ≤ 3) ∧ (∀ k : Nat, k < 8 → 0 ≤ (σ 67 k).toInt ∧ (σ 67 k).toInt ≤ 3) := id hI104
  obtain ⟨i9, i10, i11, i12, i13, w14⟩ : (0 ≤ (σ 55 25).toInt) ∧ ((σ 55 25).toInt ≤ (σ 55 10).toInt) ∧ (0 ≤ (σ 55 26).toInt) ∧ ((σ 55 26).toInt ≤ (σ 55 12).toInt) ∧ ((-1) ≤ (σ 55 27).toInt ∧ (σ 55 27).toInt ≤ 3) ∧ (∀ k : Nat, k < 4 → 0 ≤ (σ 68 k).toInt ∧ (σ 68 k).toInt ≤ 3) := id hI120
  refine lv_aload_n hx hb dX12_bestFrom_0 rfl (lv_at hl 0 rfl) ?_
  have p15 : jmb σ B0 = 1 := (jmb_fr rfl rfl rfl rfl rfl B0).trans hB0
  exact by
   refine jcallV (As := []) (rest := []) ⟨hx, hb, hml, hown, hts⟩ hK hP hA hS hZ (c_X12_isEnded_w l D cI cL ad zz hJ σ τ B0 p15 hI102 hI104 hI120 (by omega) (by omega) (by omega)) cw_RX12_307 (jc_55 cI cL ad σ τ) rfl ⟨by dsimp only; omega, by dsimp only; omega⟩ rfl rfl rfl hl.1 rfl (Nat.le_of_ble_eq_true rfl) dX12_bestFrom_1 ⟨Nat.zero_le _, Nat.zero_le _⟩ (fun r17 σ16 τ16 H locs h16 hP hS => ?_)
   obtain ⟨⟨rfl, rfl⟩, h16⟩ := h16
   have h18 := h16
   obtain ⟨q20, k19⟩ := h18
   have q20 := q20.symm
   subst q20
   refine lv_if_eq (tgt := 15) hx hb dX12_bestFrom_4 (of_decide_eq_true rfl) (fun _ => ?_) (fun c => absurd (of_decide_eq_true rfl) c)
   refine lv_aload_n hx hb dX12_bestFrom_15 rfl (lv_at hl 0 rfl) ?_
   refine jcallV (As := []) (rest := []) ⟨hx, hb, hml, hown, hts⟩ hK hP hA hS hZ (c_X12_stateNumber l D cI cL ad zz hJ σ τ hI102 w14) cw_RX12_311 (jc_55 cI cL ad σ τ) rfl ⟨by dsimp only; omega, by dsimp only; omega⟩ rfl rfl rfl hl.1 rfl (Nat.le_of_ble_eq_true rfl) dX12_bestFrom_16 ⟨Nat.zero_le _, Nat.zero_le _⟩ (fun r22 σ21 τ21 H locs h21 hP hS => ?_)
   obtain ⟨⟨rfl, rfl⟩, h21⟩ := h21
   refine lv_istore_n (lv' := [(1, .int r22), (0, .ref (ad 55))]) hx hb dX12_bestFrom_19 rfl hl (of_decide_eq_true rfl) rfl (fun ls hl => ?_)
   refine lv_bipush (v := 16) hx hb dX12_bestFrom_20 (of_decide_eq_true rfl) ?_
   refine lv_aload_n hx hb dX12_bestFrom_22 rfl (lv_at hl 1 rfl) ?_
   refine va_get (D := D) hx hb hts inlX12 hown hK hP 55 (jc_55 cI cL ad σ τ) rfl 26 (of_decide_eq_true rfl) (hts _ kw_23_5) (fun _ h9 => h9) rfl dX12_bestFrom_23 ?_
   have g23 := jrg (rfl : (σ 55 26).toInt = (σ 55 26).toInt)
   refine lv_imul hx hb dX12_bestFrom_26 ?_
   refine lv_topi (fun x24 ex24 => ?_)
   exact by
    have tx24 : x24.toInt = 16 * (σ 55 26).toInt := (jmul ex24 jz_16 rfl (by omega) (by omega)).trans (by omega)
    refine lv_aload_n hx hb dX12_bestFrom_27 rfl (lv_at hl 1 rfl) ?_
    refine va_get (D := D) hx hb hts inlX12 hown hK hP 55 (jc_55 cI cL ad σ τ) rfl 25 (of_decide_eq_true rfl) (hts _ kw_23_6) (fun _ h9 => h9) rfl dX12_bestFrom_28 ?_
    have g25 := jrg (rfl : (σ 55 25).toInt = (σ 55 25).toInt)
    refine lv_iadd hx hb dX12_bestFrom_31 ?_
    refine lv_topi (fun x26 ex26 => ?_)
    have tx26 : x26.toInt = 16 * (σ 55 26).toInt + (σ 55 25).toInt := (jadd ex26 tx24 rfl (by omega) (by omega)).trans (by omega)
    refine lv_istore_n (lv' := [(2, .int x26), (1, .int r22), (0, .ref (ad 55))]) hx hb dX12_bestFrom_32 rfl hl (of_decide_eq_true rfl) rfl (fun ls hl => ?_)
    refine lv_aload_n hx hb dX12_bestFrom_33 rfl (lv_at hl 2 rfl) ?_
    exact by
     refine lv_iload_n hx hb dX12_bestFrom_34 rfl (lv_at hl 1 rfl) ?_
     refine lv_iload_n hx hb dX12_bestFrom_35 rfl (lv_at hl 0 rfl) ?_
     refine jcallV (As := [.int r22, .int x26]) (rest := []) ⟨hx, hb, hml, hown, hts⟩ hK hP hA hS hZ (c_X12_spot l D cI cL ad zz hJ σ τ r22 (r22.toInt) rfl x26 (16 * (σ 55 26).toInt + (σ 55 25).toInt) tx26) cw_RX12_314 (jc_55 cI cL ad σ τ) rfl ⟨by dsimp only; omega, by dsimp only; omega⟩ rfl rfl rfl hl.1 rfl (Nat.le_of_ble_eq_true rfl) dX12_bestFrom_36 ⟨Nat.zero_le _, Nat.zero_le _⟩ (fun r28 σ27 τ27 H locs h27 hP hS => ?_)
     obtain ⟨⟨rfl, rfl⟩, h27⟩ := h27
     rcases h27 with h29 | h30
     · obtain ⟨q33, k31, k32⟩ := h29
       have k34 : (σ 78 r28.toNatClampNeg).toInt ≠ (σ 55 42).toInt ∨ (σ 75 r28.toNatClampNeg).toInt = 16 * (σ 55 26).toInt + (σ 55 25).toInt := k32.imp (fun q => jne q rfl rfl) (fun q => jeq q rfl tx26)
       refine lv_istore_n (lv' := [(3, .int r28), (2, .int x26), (1, .int r22), (0, .ref (ad 55))]) hx hb dX12_bestFrom_39 rfl hl (of_decide_eq_true rfl) rfl (fun ls hl => ?_)
       refine lv_iload_n hx hb dX12_bestFrom_40 rfl (lv_at hl 0 rfl) ?_
       exact by
        refine lv_if_lt (tgt := 74) hx hb dX12_bestFrom_41 (of_decide_eq_true rfl) (fun c => absurd (jlt c rfl jz_0) (by omega)) (fun c35 => ?_)
        have kc35 := jnlt c35 rfl jz_0
        refine lv_aload_n hx hb dX12_bestFrom_44 rfl (lv_at hl 3 rfl) ?_
        refine va_get (D := D) hx hb hts inlX12 hown hK hP 55 (jc_55 cI cL ad σ τ) rfl 43 (of_decide_eq_true rfl) (hts _ kw_8_3) (fun _ h9 => h9) rfl dX12_bestFrom_45 ?_
        refine lv_iload_n hx hb dX12_bestFrom_48 rfl (lv_at hl 0 rfl) ?_
        refine jald hx hb hK hP (jc_78 cI cL ad σ τ) (jin rfl (by omega) (by omega)) dX12_bestFrom_49 ?_
        refine jtopr (y := (σ 78 r28.toNatClampNeg)) rfl ?_
        refine lv_aload_n hx hb dX12_bestFrom_50 rfl (lv_at hl 3 rfl) ?_
        refine va_get (D := D) hx hb hts inlX12 hown hK hP 55 (jc_55 cI cL ad σ τ) rfl 42 (of_decide_eq_true rfl) (hts _ kw_33_10) (fun _ h9 => h9) rfl dX12_bestFrom_51 ?_
        exact by
         refine lv_icmp_ne (tgt := 74) hx hb dX12_bestFrom_54 (of_decide_eq_true rfl) (fun c36 => ?_) (fun c36 => ?_)
         · have kc36 := jne c36 rfl rfl
           refine lv_iconst (v := (-1)) hx hb dX12_bestFrom_74 (of_decide_eq_true rfl) ?_
           refine lv_istore (lv' := [(4, .int (-1)), (3, .int r28), (2, .int x26), (1, .int r22), (0, .ref (ad 55))]) hx hb dX12_bestFrom_75 hl (of_decide_eq_true rfl) rfl (fun ls hl => ?_)
           refine lv_ldcw (v := 2000000000) hx hb hown (hts _ kw_34_4) dX12_bestFrom_77 ?_
           refine lv_istore (lv' := [(5, .int 2000000000), (4, .int (-1)), (3, .int r28), (2, .int x26), (1, .int r22), (0, .ref (ad 55))]) hx hb dX12_bestFrom_80 hl (of_decide_eq_true rfl) rfl (fun ls hl => ?_)
           refine lv_iconst (v := 0) hx hb dX12_bestFrom_82 (of_decide_eq_true rfl) ?_
           refine lv_istore (lv' := [(6, .int 0), (5, .int 2000000000), (4, .int (-1)), (3, .int r28), (2, .int x26), (1, .int r22), (0, .ref (ad 55))]) hx hb dX12_bestFrom_83 hl (of_decide_eq_true rfl) rfl (fun ls hl => ?_)
           have lp37 : ∀ (n38 : Nat) (x39 : Int32) (x40 : Int32) (x41 : Int32) (σ43 : Nat → Nat → Int32) (H : Heap) (locs : List Loc) (ls : Array Slot), (-x41.toInt + 4 : Int) < n38 → (-1) ≤ x39.toInt → x39.toInt ≤ 3 → 0 ≤ x41.toInt → x41.toInt ≤ 4 → ((0 ≤ x39.toInt ∧ 0 ≤ x40.toInt ∧ x40.toInt ≤ -(1023000 * (σ43 55 26).toInt) + 12276000) ∨ (x39.toInt = (-1) ∧ x40.toInt = 2000000000 ∧ x41.toInt ≤ B0.toInt)) → (∀ i : Nat, (i < 55 ∨ 55 < i) ∧ (i < 66 ∨ 66 < i) ∧ (i < 74 ∨ 78 < i) → σ43 i = σ i) → (∀ k : Nat, (k < 18 ∨ 18 < k) ∧ (k < 19 ∨ 19 < k) ∧ (k < 20 ∨ 20 < k) ∧ (k < 21 ∨ 21 < k) ∧ (k < 22 ∨ 22 < k) ∧ (k < 37 ∨ 37 < k) → σ43 55 k = σ 55 k) → jKept σ43 → jH D cI cL ad σ43 τ H → va_S (jA ad) s.heap H locs → lv_has ls 8 [(6, .int x41), (5, .int x40), (4, .int x39), (3, .int r28), (2, .int x26), (1, .int r22), (0, .ref (ad 55))] → W p l e ({ frames := (70 + 4 * (n)), cells := 0, slots := 0, locals := (3114 + 240 * (n)) }) s m args below meth c H locs 0 0 Q (F0 m 85 ls []) := by
             intro n38
             induction n38 with
             | zero => intro x39 x40 x41 σ43 H locs ls h45 h46 h47 h48 h49 h50; have gx40 := jrg (rfl : x40.toInt = x40.toInt); exact absurd h45 (by omega)
             | succ n38 ihlp37 =>
               intro x39 x40 x41 σ43 H locs ls h45 h46 h47 h48 h49 h50 f51 f52 p53 hP hS hl
               exact by
                have gx40 := jrg (rfl : x40.toInt = x40.toInt)
                have z54 : (σ43 55 26).toInt = (σ 55 26).toInt := (congrArg Int32.toInt (show σ43 55 26 = (σ 55 26) from (f52 26 (of_decide_eq_true rfl))))
                refine lv_iload hx hb dX12_bestFrom_85 (lv_at hl 0 rfl) ?_
                refine lv_aload_n hx hb dX12_bestFrom_87 rfl (lv_at hl 6 rfl) ?_
                refine va_get (D := D) hx hb hts inlX12 hown hK hP 55 (jc_55 cI cL ad σ43 τ) rfl 6 (of_decide_eq_true rfl) (hts _ kw_9_13) (fun _ h9 => h9) rfl dX12_bestFrom_88 ?_
                have m55 : σ43 55 6 = (σ 55 6) := (f52 6 (of_decide_eq_true rfl))
                refine jtopr m55 ?_
                refine lv_icmp_ge (tgt := 135) hx hb dX12_bestFrom_91 (of_decide_eq_true rfl) (fun c56 => ?_) (fun c56 => ?_)
                · have kc56 := jle c56 rfl rfl
                  refine lv_aload_n hx hb dX12_bestFrom_135 rfl (lv_at hl 6 rfl) ?_
                  refine lv_iload_n hx hb dX12_bestFrom_136 rfl (lv_at hl 5 rfl) ?_
                  refine lv_iload_n hx hb dX12_bestFrom_137 rfl (lv_at hl 4 rfl) ?_
                  refine jcallV (As := [.int r22, .int x26]) (rest := []) ⟨hx, hb, hml, hown, hts⟩ hK hP hA hS hZ (c_X12_spot l D cI cL ad zz hJ σ43 τ r22 (r22.toInt) rfl x26 (16 * (σ 55 26).toInt + (σ 55 25).toInt) tx26) cw_RX12_314 (jc_55 cI cL ad σ43 τ) rfl ⟨by dsimp only; omega, by dsimp only; omega⟩ rfl rfl rfl hl.1 rfl (Nat.le_of_ble_eq_true rfl) dX12_bestFrom_138 ⟨Nat.zero_le _, Nat.zero_le _⟩ (fun r58 σ57 τ57 H locs h57 hP hS => ?_)
                  obtain ⟨⟨rfl, rfl⟩, h57⟩ := h57
                  rcases h57 with h59 | h60
                  · obtain ⟨q63, k61, k62⟩ := h59
                    have z65 : (σ43 55 42).toInt = (σ 55 42).toInt := (congrArg Int32.toInt (show σ43 55 42 = (σ 55 42) from (f52 42 (of_decide_eq_true rfl))))
                    have k64 : (σ43 78 r58.toNatClampNeg).toInt ≠ (σ43 55 42).toInt ∨ (σ43 75 r58.toNatClampNeg).toInt = 16 * (σ 55 26).toInt + (σ 55 25).toInt := k62.imp (fun q => jne q rfl rfl) (fun q => jeq q rfl tx26)
                    refine lv_istore_n (lv' := [(3, .int r58), (6, .int x41), (5, .int x40), (4, .int x39), (2, .int x26), (1, .int r22), (0, .ref (ad 55))]) hx hb dX12_bestFrom_141 rfl hl (of_decide_eq_true rfl) rfl (fun ls hl => ?_)
                    refine lv_iload_n hx hb dX12_bestFrom_142 rfl (lv_at hl 0 rfl) ?_
                    exact by
                     refine lv_if_lt (tgt := 186) hx hb dX12_bestFrom_143 (of_decide_eq_true rfl) (fun c => absurd (jlt c rfl jz_0) (by omega)) (fun c66 => ?_)
                     have kc66 := jnlt c66 rfl jz_0
                     refine lv_aload_n hx hb dX12_bestFrom_146 rfl (lv_at hl 6 rfl) ?_
                     refine va_get (D := D) hx hb hts inlX12 hown hK hP 55 (jc_55 cI cL ad σ43 τ) rfl 43 (of_decide_eq_true rfl) (hts _ kw_8_3) (fun _ h9 => h9) rfl dX12_bestFrom_147 ?_
                     refine lv_iload_n hx hb dX12_bestFrom_150 rfl (lv_at hl 0 rfl) ?_
                     refine lv_aload_n hx hb dX12_bestFrom_151 rfl (lv_at hl 6 rfl) ?_
                     refine va_get (D := D) hx hb hts inlX12 hown hK hP 55 (jc_55 cI cL ad σ43 τ) rfl 42 (of_decide_eq_true rfl) (hts _ kw_33_10) (fun _ h9 => h9) rfl dX12_bestFrom_152 ?_
                     have m67 : σ43 55 42 = (σ 55 42) := (f52 42 (of_decide_eq_true rfl))
                     refine jtopr m67 ?_
                     exact by
                      refine jast hx hb hK hP hJ hA hS (jc_78 cI cL ad σ43 τ) (ja_78 cI cL ad σ43 τ _ _) (jin rfl (by omega) (by omega)) dX12_bestFrom_155 (fun σ68 H locs eσ68 hP hS => ?_)
                      refine lv_aload_n hx hb dX12_bestFrom_156 rfl (lv_at hl 6 rfl) ?_
                      refine va_get (D := D) hx hb hts inlX12 hown hK hP 55 (jc_55 cI cL ad σ68 τ) rfl 38 (of_decide_eq_true rfl) (hts _ kw_7_23) (fun _ h9 => h9) rfl dX12_bestFrom_157 ?_
                      refine lv_iload_n hx hb dX12_bestFrom_160 rfl (lv_at hl 0 rfl) ?_
                      refine lv_iload_n hx hb dX12_bestFrom_161 rfl (lv_at hl 5 rfl) ?_
                      refine jast hx hb hK hP hJ hA hS (jc_74 cI cL ad σ68 τ) (ja_74 cI cL ad σ68 τ _ _) (jin rfl (by omega) (by omega)) dX12_bestFrom_162 (fun σ69 H locs eσ69 hP hS => ?_)
                      refine lv_aload_n hx hb dX12_bestFrom_163 rfl (lv_at hl 6 rfl) ?_
                      refine va_get (D := D) hx hb hts inlX12 hown hK hP 55 (jc_55 cI cL ad σ69 τ) rfl 39 (of_decide_eq_true rfl) (hts _ kw_8_0) (fun _ h9 => h9) rfl dX12_bestFrom_164 ?_
                      refine lv_iload_n hx hb dX12_bestFrom_167 rfl (lv_at hl 0 rfl) ?_
                      exact by
                       refine lv_iload_n hx hb dX12_bestFrom_168 rfl (lv_at hl 4 rfl) ?_
                       refine jast hx hb hK hP hJ hA hS (jc_75 cI cL ad σ69 τ) (ja_75 cI cL ad σ69 τ _ _) (jin rfl (by omega) (by omega)) dX12_bestFrom_169 (fun σ70 H locs eσ70 hP hS => ?_)
                       refine lv_aload_n hx hb dX12_bestFrom_170 rfl (lv_at hl 6 rfl) ?_
                       refine va_get (D := D) hx hb hts inlX12 hown hK hP 55 (jc_55 cI cL ad σ70 τ) rfl 40 (of_decide_eq_true rfl) (hts _ kw_8_1) (fun _ h9 => h9) rfl dX12_bestFrom_171 ?_
                       refine lv_iload_n hx hb dX12_bestFrom_174 rfl (lv_at hl 0 rfl) ?_
                       refine lv_iload hx hb dX12_bestFrom_175 (lv_at hl 2 rfl) ?_
                       refine jast hx hb hK hP hJ hA hS (jc_76 cI cL ad σ70 τ) (ja_76 cI cL ad σ70 τ _ _) (jin rfl (by omega) (by omega)) dX12_bestFrom_177 (fun σ71 H locs eσ71 hP hS => ?_)
                       refine lv_aload_n hx hb dX12_bestFrom_178 rfl (lv_at hl 6 rfl) ?_
                       refine va_get (D := D) hx hb hts inlX12 hown hK hP 55 (jc_55 cI cL ad σ71 τ) rfl 41 (of_decide_eq_true rfl) (hts _ kw_8_2) (fun _ h9 => h9) rfl dX12_bestFrom_179 ?_
                       exact by
                        refine lv_iload_n hx hb dX12_bestFrom_182 rfl (lv_at hl 0 rfl) ?_
                        refine lv_iload hx hb dX12_bestFrom_183 (lv_at hl 3 rfl) ?_
                        refine jast hx hb hK hP hJ hA hS (jc_77 cI cL ad σ71 τ) (ja_77 cI cL ad σ71 τ _ _) (jin rfl (by omega) (by omega)) dX12_bestFrom_185 (fun σ72 H locs eσ72 hP hS => ?_)
                        have e73 : σ72 75 = jupd (σ43 75) r58.toNatClampNeg x26 := by rw [eσ72, jup_n (of_decide_eq_true rfl), eσ71, jup_n (of_decide_eq_true rfl), eσ70, jup_row, eσ69, jup_n (of_decide_eq_true rfl), eσ68, jup_n (of_decide_eq_true rfl)]
                        have e74 : σ72 76 = jupd (σ43 76) r58.toNatClampNeg x40 := by rw [eσ72, jup_n (of_decide_eq_true rfl), eσ71, jup_row, eσ70, jup_n (of_decide_eq_true rfl), eσ69, jup_n (of_decide_eq_true rfl), eσ68, jup_n (of_decide_eq_true rfl)]
                        have e75 : σ72 77 = jupd (σ43 77) r58.toNatClampNeg x39 := by rw [eσ72, jup_row, eσ71, jup_n (of_decide_eq_true rfl), eσ70, jup_n (of_decide_eq_true rfl), eσ69, jup_n (of_decide_eq_true rfl), eσ68, jup_n (of_decide_eq_true rfl)]
                        have z76 : (σ72 55 26).toInt = (σ 55 26).toInt := (congrArg Int32.toInt (show σ72 55 26 = (σ 55 26) from ((congrFun (jnp 55 eσ72 (of_decide_eq_true rfl)) 26).trans ((congrFun (jnp 55 eσ71 (of_decide_eq_true rfl)) 26).trans ((congrFun (jnp 55 eσ70 (of_decide_eq_true rfl)) 26).trans ((congrFun (jnp 55 eσ69 (of_decide_eq_true rfl)) 26).trans ((congrFun (jnp 55 eσ68 (of_decide_eq_true rfl)) 26).trans (f52 26 (of_decide_eq_true rfl)))))))))
                        have p77 : jKept σ72 := p53.on e73 e74 e75 (by have h91 := tx26; omega) (by have h91 := tx26; omega) (by have h91 := tx26; omega) (by have h91 := tx26; omega)
                        refine lv_aload_n hx hb dX12_bestFrom_186 rfl (lv_at hl 6 rfl) ?_
                        exact by
                         refine lv_iload hx hb dX12_bestFrom_187 (lv_at hl 3 rfl) ?_
                         refine jput (ty := .int) hx hb hts inlX12 tyX12 tyX12_ok nmX12 hown hK hP hJ hA hS (jc_55 cI cL ad σ72 τ) rfl (k := 37) (of_decide_eq_true rfl) (Nat.le_of_ble_eq_true rfl) (jp_55_37 cI cL ad σ72 τ x39) (hts _ kw_33_15) (fun _ h9 => h9) rfl (by decide +kernel) rfl rfl dX12_bestFrom_189 (fun σ78 H locs eσ78 hP hS => ?_)
                         refine lv_iload hx hb dX12_bestFrom_192 (lv_at hl 2 rfl) ?_
                         have p79 : jKept σ78 := jKept.fr (jnp 75 eσ78 (of_decide_eq_true rfl)) (jnp 76 eσ78 (of_decide_eq_true rfl)) (jnp 77 eσ78 (of_decide_eq_true rfl)) p77
                         have z80 : (σ78 55 37).toInt = x39.toInt := (congrArg Int32.toInt (show σ78 55 37 = x39 from (jsp eσ78)))
                         exact by exact hret x40 σ78 τ _ _ _ _ rfl ⟨rfl, (fun i hi => ((jnp i eσ78 (imp_206 i hi)).trans ((jnp i eσ72 (imp_208 i hi)).trans ((jnp i eσ71 (imp_209 i hi)).trans ((jnp i eσ70 (imp_210 i hi)).trans ((jnp i eσ69 (imp_211 i hi)).trans ((jnp i eσ68 (imp_212 i hi)).trans (f51 i hi)))))))), (fun i hi => ((jkp i eσ78 (imp_207 i hi)).trans ((congrFun (jnp 55 eσ72 (of_decide_eq_true rfl)) i).trans ((congrFun (jnp 55 eσ71 (of_decide_eq_true rfl)) i).trans ((congrFun (jnp 55 eσ70 (of_decide_eq_true rfl)) i).trans ((congrFun (jnp 55 eσ69 (of_decide_eq_true rfl)) i).trans ((congrFun (jnp 55 eσ68 (of_decide_eq_true rfl)) i).trans (f52 i hi)))))))), p79, (by omega), ⟨trivial, (by omega)⟩⟩ hP hS dX12_bestFrom_194
                  · obtain ⟨q82, k81⟩ := h60
                    have q82 := q82.symm
                    subst q82
                    refine lv_istore_n (lv' := [(3, .int (-1)), (6, .int x41), (5, .int x40), (4, .int x39), (2, .int x26), (1, .int r22), (0, .ref (ad 55))]) hx hb dX12_bestFrom_141 rfl hl (of_decide_eq_true rfl) rfl (fun ls hl => ?_)
                    refine lv_iload_n hx hb dX12_bestFrom_142 rfl (lv_at hl 0 rfl) ?_
                    refine lv_if_lt (tgt := 186) hx hb dX12_bestFrom_143 (of_decide_eq_true rfl) (fun _ => ?_) (fun c => absurd (of_decide_eq_true rfl) c)
                    refine lv_aload_n hx hb dX12_bestFrom_186 rfl (lv_at hl 6 rfl) ?_
                    refine lv_iload hx hb dX12_bestFrom_187 (lv_at hl 3 rfl) ?_
                    refine jput (ty := .int) hx hb hts inlX12 tyX12 tyX12_ok nmX12 hown hK hP hJ hA hS (jc_55 cI cL ad σ43 τ) rfl (k := 37) (of_decide_eq_true rfl) (Nat.le_of_ble_eq_true rfl) (jp_55_37 cI cL ad σ43 τ x39) (hts _ kw_33_15) (fun _ h9 => h9) rfl (by decide +kernel) rfl rfl dX12_bestFrom_189 (fun σ83 H locs eσ83 hP hS => ?_)
                    refine lv_iload hx hb dX12_bestFrom_192 (lv_at hl 2 rfl) ?_
                    have p84 : jKept σ83 := jKept.fr (jnp 75 eσ83 (of_decide_eq_true rfl)) (jnp 76 eσ83 (of_decide_eq_true rfl)) (jnp 77 eσ83 (of_decide_eq_true rfl)) p53
                    have z85 : (σ83 55 37).toInt = x39.toInt := (congrArg Int32.toInt (show σ83 55 37 = x39 from (jsp eσ83)))
                    exact by exact hret x40 σ83 τ _ _ _ _ rfl ⟨rfl, (fun i hi => ((jnp i eσ83 (imp_206 i hi)).trans (f51 i hi))), (fun i hi => ((jkp i eσ83 (imp_207 i hi)).trans (f52 i hi))), p84, (by omega), ⟨trivial, (by omega)⟩⟩ hP hS dX12_bestFrom_194
                · have kc56 := jnle c56 rfl rfl
                  refine lv_aload_n hx hb dX12_bestFrom_94 rfl (lv_at hl 6 rfl) ?_
                  refine lv_iload hx hb dX12_bestFrom_95 (lv_at hl 0 rfl) ?_
                  exact by
                   refine jcallV (As := [.int x41]) (rest := []) ⟨hx, hb, hml, hown, hts⟩ hK hP hA hS hZ (c_X12_mayBowl l D cI cL ad zz hJ σ43 τ x41 (x41.toInt) rfl (by omega)) cw_RX12_249 (jc_55 cI cL ad σ43 τ) rfl ⟨by dsimp only; omega, by dsimp only; omega⟩ rfl rfl rfl hl.1 rfl (Nat.le_of_ble_eq_true rfl) dX12_bestFrom_97 ⟨Nat.zero_le _, Nat.zero_le _⟩ (fun r87 σ86 τ86 H locs h86 hP hS => ?_)
                   obtain ⟨⟨rfl, rfl⟩, h86⟩ := h86
                   rcases h86 with h88 | h89
                   · obtain ⟨q91, k90⟩ := h88
                     have q91 := q91.symm
                     subst q91
                     refine lv_if_ne (tgt := 106) hx hb dX12_bestFrom_100 (of_decide_eq_true rfl) (fun _ => ?_) (fun c => absurd c (of_decide_eq_true rfl))
                     refine lv_aload_n hx hb dX12_bestFrom_106 rfl (lv_at hl 6 rfl) ?_
                     refine lv_iload hx hb dX12_bestFrom_107 (lv_at hl 0 rfl) ?_
                     have I92 : jI101 σ43 := jI101_fr (f52 4 (of_decide_eq_true rfl)) (f52 5 (of_decide_eq_true rfl)) (f51 56 (of_decide_eq_true rfl)) (f51 57 (of_decide_eq_true rfl)) (f51 58 (of_decide_eq_true rfl)) (f51 59 (of_decide_eq_true rfl)) hI101
                     have I93 : jI102 σ43 := jI102_fr (f52 6 (of_decide_eq_true rfl)) (f51 60 (of_decide_eq_true rfl)) (f51 61 (of_decide_eq_true rfl)) hI102
                     have I94 : jI103 σ43 := jI103_fr (f52 9 (of_decide_eq_true rfl)) hI103
                     have I95 : jI104 σ43 := jI104_fr (f52 10 (of_decide_eq_true rfl)) (f52 12 (of_decide_eq_true rfl)) (f52 13 (of_decide_eq_true rfl)) (f51 62 (of_decide_eq_true rfl)) (f51 67 (of_decide_eq_true rfl)) hI104
                     have I96 : jI105 σ43 := jI105_fr (f52 15 (of_decide_eq_true rfl)) (f51 65 (of_decide_eq_true rfl)) hI105
                     have I97 : jI106 σ43 := jI106_fr (f52 32 (of_decide_eq_true rfl)) (f51 70 (of_decide_eq_true rfl)) (f51 71 (of_decide_eq_true rfl)) (f51 72 (of_decide_eq_true rfl)) hI106
                     have I98 : jI120 σ43 := jI120_fr (f52 10 (of_decide_eq_true rfl)) (f52 12 (of_decide_eq_true rfl)) (f52 25 (of_decide_eq_true rfl)) (f52 26 (of_decide_eq_true rfl)) (f52 27 (of_decide_eq_true rfl)) (f51 68 (of_decide_eq_true rfl)) hI120
                     have z99 : (σ43 55 25).toInt = (σ 55 25).toInt := (congrArg Int32.toInt (show σ43 55 25 = (σ 55 25) from (f52 25 (of_decide_eq_true rfl))))
                     have z100 : (σ43 55 10).toInt = (σ 55 10).toInt := (congrArg Int32.toInt (show σ43 55 10 = (σ 55 10) from (f52 10 (of_decide_eq_true rfl))))
                     have z101 : (σ43 55 12).toInt = (σ 55 12).toInt := (congrArg Int32.toInt (show σ43 55 12 = (σ 55 12) from (f52 12 (of_decide_eq_true rfl))))
                     exact by
                      refine jcallV (As := [.int x41]) (rest := []) ⟨hx, hb, hml, hown, hts⟩ hK hP hA hS hZ (h_mean σ43 τ x41 (x41.toInt) rfl I92 I93 I94 I95 I96 I97 I98 p53 (by omega) (by omega) (by omega) (by omega)) cw_RX12_318 (jc_55 cI cL ad σ43 τ) rfl ⟨by dsimp only; omega, by dsimp only; omega⟩ rfl rfl rfl hl.1 rfl (Nat.le_of_ble_eq_true rfl) dX12_bestFrom_109 ⟨Nat.zero_le _, Nat.zero_le _⟩ (fun r103 σ102 τ102 H locs h102 hP hS => ?_)
                      obtain ⟨rfl, f104, f105, p106, h102⟩ := h102
                      have h108 := h102
                      obtain ⟨q110, k109⟩ := h108
                      refine lv_istore (lv' := [(7, .int r103), (6, .int x41), (5, .int x40), (4, .int x39), (3, .int r28), (2, .int x26), (1, .int r22), (0, .ref (ad 55))]) hx hb dX12_bestFrom_112 hl (of_decide_eq_true rfl) rfl (fun ls hl => ?_)
                      refine lv_iload hx hb dX12_bestFrom_114 (lv_at hl 0 rfl) ?_
                      refine lv_iload hx hb dX12_bestFrom_116 (lv_at hl 2 rfl) ?_
                      refine lv_icmp_ge (tgt := 129) hx hb dX12_bestFrom_118 (of_decide_eq_true rfl) (fun c111 => ?_) (fun c111 => ?_)
                      · have kc111 := jle c111 rfl rfl
                        obtain ⟨x112, ex112⟩ : ∃ y : Int32, y = x41 + 1 := ⟨_, rfl⟩
                        exact by
                         have tx112 : x112.toInt = x41.toInt + 1 := (jadd ex112 rfl jz_1 (by omega) (by omega)).trans (by omega)
                         refine lv_iinc (v := x112) (lv' := [(6, .int x112), (7, .int r103), (5, .int x40), (4, .int x39), (3, .int r28), (2, .int x26), (1, .int r22), (0, .ref (ad 55))]) hx hb dX12_bestFrom_129 hl (k := 1) rfl (by rw [ex112]; rfl) (of_decide_eq_true rfl) rfl (fun ls hl => ?_)
                         refine lv_goto (tgt := 85) hx hb dX12_bestFrom_132 (of_decide_eq_true rfl) ?_
                         have z113 : (σ102 55 26).toInt = (σ 55 26).toInt := (congrArg Int32.toInt (show σ102 55 26 = (σ 55 26) from ((f105 26 (of_decide_eq_true rfl)).trans (f52 26 (of_decide_eq_true rfl)))))
                         exact by exact ihlp37 x39 x40 x112 σ102 _ _ ls (by have h92 := tx112; omega) (by have h92 := tx112; omega) (by have h92 := tx112; omega) (by have h92 := tx112; omega) (by have h92 := tx112; omega) (by have h92 := tx112; omega) (fun i hi => ((f104 i hi).trans (f51 i hi))) (fun i hi => ((f105 i hi).trans (f52 i hi)))  p106 hP hS (lv_sub hl [0, 2, 3, 4, 5, 6, 7] rfl)
                      · have kc111 := jnle c111 rfl rfl
                        refine lv_iload hx hb dX12_bestFrom_121 (lv_at hl 0 rfl) ?_
                        refine lv_istore (lv' := [(5, .int r103), (7, .int r103), (6, .int x41), (4, .int x39), (3, .int r28), (2, .int x26), (1, .int r22), (0, .ref (ad 55))]) hx hb dX12_bestFrom_123 hl (of_decide_eq_true rfl) rfl (fun ls hl => ?_)
                        refine lv_iload hx hb dX12_bestFrom_125 (lv_at hl 2 rfl) ?_
                        exact by
                         refine lv_istore (lv' := [(4, .int x41), (5, .int r103), (7, .int r103), (6, .int x41), (3, .int r28), (2, .int x26), (1, .int r22), (0, .ref (ad 55))]) hx hb dX12_bestFrom_127 hl (of_decide_eq_true rfl) rfl (fun ls hl => ?_)
                         obtain ⟨x114, ex114⟩ : ∃ y : Int32, y = x41 + 1 := ⟨_, rfl⟩
                         have tx114 : x114.toInt = x41.toInt + 1 := (jadd ex114 rfl jz_1 (by omega) (by omega)).trans (by omega)
                         refine lv_iinc (v := x114) (lv' := [(6, .int x114), (4, .int x41), (5, .int r103), (7, .int r103), (3, .int r28), (2, .int x26), (1, .int r22), (0, .ref (ad 55))]) hx hb dX12_bestFrom_129 hl (k := 3) rfl (by rw [ex114]; rfl) (of_decide_eq_true rfl) rfl (fun ls hl => ?_)
                         refine lv_goto (tgt := 85) hx hb dX12_bestFrom_132 (of_decide_eq_true rfl) ?_
                         have z115 : (σ102 55 26).toInt = (σ 55 26).toInt := (congrArg Int32.toInt (show σ102 55 26 = (σ 55 26) from ((f105 26 (of_decide_eq_true rfl)).trans (f52 26 (of_decide_eq_true rfl)))))
                         exact by exact ihlp37 x41 r103 x114 σ102 _ _ ls (by have h92 := tx114; omega) (by have h92 := tx114; omega) (by have h92 := tx114; omega) (by have h92 := tx114; omega) (by have h92 := tx114; omega) (by have h92 := tx114; omega) (fun i hi => ((f104 i hi).trans (f51 i hi))) (fun i hi => ((f105 i hi).trans (f52 i hi)))  p106 hP hS (lv_sub hl [0, 2, 1, 4, 5, 6, 7] rfl)
                   · obtain ⟨q117, k116⟩ := h89
                     have q117 := q117.symm
                     exact by
                      subst q117
                      have e118 : jmb σ43 x41 = jmb σ x41 := (jmb_fr (f52 27 (of_decide_eq_true rfl)) (f52 30 (of_decide_eq_true rfl)) (f52 31 (of_decide_eq_true rfl)) (f51 56 (of_decide_eq_true rfl)) (f51 69 (of_decide_eq_true rfl)) x41)
                      have n119 : ¬ x41 = B0 := fun h => absurd ((hB0).symm.trans (by rw [← h]; exact e118.symm.trans k116) : (1 : Int32) = 0) (of_decide_eq_true rfl)
                      have k120 := jne n119 rfl rfl
                      refine lv_if_ne (tgt := 106) hx hb dX12_bestFrom_100 (of_decide_eq_true rfl) (fun c => absurd (of_decide_eq_true rfl) c) (fun _ => ?_)
                      refine lv_goto (tgt := 129) hx hb dX12_bestFrom_103 (of_decide_eq_true rfl) ?_
                      obtain ⟨x121, ex121⟩ : ∃ y : Int32, y = x41 + 1 := ⟨_, rfl⟩
                      have tx121 : x121.toInt = x41.toInt + 1 := (jadd ex121 rfl jz_1 (by omega) (by omega)).trans (by omega)
                      refine lv_iinc (v := x121) (lv' := [(6, .int x121), (5, .int x40), (4, .int x39), (3, .int r28), (2, .int x26), (1, .int r22), (0, .ref (ad 55))]) hx hb dX12_bestFrom_129 hl (k := 0) rfl (by rw [ex121]; rfl) (of_decide_eq_true rfl) rfl (fun ls hl => ?_)
                      exact by
                       refine lv_goto (tgt := 85) hx hb dX12_bestFrom_132 (of_decide_eq_true rfl) ?_
                       exact by exact ihlp37 x39 x40 x121 σ43 _ _ ls (by have h92 := tx121; omega) (by have h92 := tx121; omega) (by have h92 := tx121; omega) (by have h92 := tx121; omega) (by have h92 := tx121; omega) (by have h92 := tx121; omega) (fun i hi => (f51 i hi)) (fun i hi => (f52 i hi))  p53 hP hS (lv_sub hl [0, 1, 2, 3, 4, 5, 6] rfl)
           exact by exact lp37 1000000 (-1) 2000000000 0 σ _ _ ls (by have h90 := jz_m1; have h91 := jz_2000000000; have h92 := jz_0; omega) (by have h90 := jz_m1; have h91 := jz_2000000000; have h92 := jz_0; omega) (by have h90 := jz_m1; have h91 := jz_2000000000; have h92 := jz_0; omega) (by have h90 := jz_m1; have h91 := jz_2000000000; have h92 := jz_0; omega) (by have h90 := jz_m1; have h91 := jz_2000000000; have h92 := jz_0; omega) (by have h90 := jz_m1; have h91 := jz_2000000000; have h92 := jz_0; omega) (fun _ _ => rfl) (fun _ _ => rfl)  hs_jKept hP hS hl
         · have kc36 := jeq c36 rfl rfl
           have g122 := hs_jKept r28.toNatClampNeg (jnat (x := r28) rfl (n := 65536) (by omega) (of_decide_eq_true rfl))
           refine lv_aload_n hx hb dX12_bestFrom_57 rfl (lv_at hl 3 rfl) ?_
           refine lv_aload_n hx hb dX12_bestFrom_58 rfl (lv_at hl 3 rfl) ?_
           refine va_get (D := D) hx hb hts inlX12 hown hK hP 55 (jc_55 cI cL ad σ τ) rfl 41 (of_decide_eq_true rfl) (hts _ kw_8_2) (fun _ h9 => h9) rfl dX12_bestFrom_59 ?_
           refine lv_iload_n hx hb dX12_bestFrom_62 rfl (lv_at hl 0 rfl) ?_
           exact by
            refine jald hx hb hK hP (jc_77 cI cL ad σ τ) (jin rfl (by omega) (by omega)) dX12_bestFrom_63 ?_
            refine jtopr (y := (σ 77 r28.toNatClampNeg)) rfl ?_
            refine jput (ty := .int) hx hb hts inlX12 tyX12 tyX12_ok nmX12 hown hK hP hJ hA hS (jc_55 cI cL ad σ τ) rfl (k := 37) (of_decide_eq_true rfl) (Nat.le_of_ble_eq_true rfl) (jp_55_37 cI cL ad σ τ (σ 77 r28.toNatClampNeg)) (hts _ kw_33_15) (fun _ h9 => h9) rfl (by decide +kernel) rfl rfl dX12_bestFrom_64 (fun σ123 H locs eσ123 hP hS => ?_)
            refine lv_aload_n hx hb dX12_bestFrom_67 rfl (lv_at hl 3 rfl) ?_
            refine va_get (D := D) hx hb hts inlX12 hown hK hP 55 (jc_55 cI cL ad σ123 τ) rfl 40 (of_decide_eq_true rfl) (hts _ kw_8_1) (fun _ h9 => h9) rfl dX12_bestFrom_68 ?_
            refine lv_iload_n hx hb dX12_bestFrom_71 rfl (lv_at hl 0 rfl) ?_
            refine jald hx hb hK hP (jc_76 cI cL ad σ123 τ) (jin rfl (by omega) (by omega)) dX12_bestFrom_72 ?_
            refine jtopr (y := (σ 76 r28.toNatClampNeg)) (by rw [jnp 76 eσ123 (of_decide_eq_true rfl)]) ?_
            have p124 : jKept σ123 := jKept.fr (jnp 75 eσ123 (of_decide_eq_true rfl)) (jnp 76 eσ123 (of_decide_eq_true rfl)) (jnp 77 eσ123 (of_decide_eq_true rfl)) hs_jKept
            exact by
             have z125 : (σ123 55 37).toInt = (σ 77 r28.toNatClampNeg).toInt := (congrArg Int32.toInt (show σ123 55 37 = (σ 77 r28.toNatClampNeg) from (jsp eσ123)))
             exact by exact hret (σ 76 r28.toNatClampNeg) σ123 τ _ _ _ _ rfl ⟨rfl, (fun i hi => (jnp i eσ123 (imp_206 i hi))), (fun i hi => (jkp i eσ123 (imp_207 i hi))), p124, (by omega), ⟨trivial, (by omega)⟩⟩ hP hS dX12_bestFrom_73
     · obtain ⟨q127, k126⟩ := h30
       have q127 := q127.symm
       subst q127
       refine lv_istore_n (lv' := [(3, .int (-1)), (2, .int x26), (1, .int r22), (0, .ref (ad 55))]) hx hb dX12_bestFrom_39 rfl hl (of_decide_eq_true rfl) rfl (fun ls hl => ?_)
       refine lv_iload_n hx hb dX12_bestFrom_40 rfl (lv_at hl 0 rfl) ?_
       refine lv_if_lt (tgt := 74) hx hb dX12_bestFrom_41 (of_decide_eq_true rfl) (fun _ => ?_) (fun c => absurd (of_decide_eq_true rfl) c)
       refine lv_iconst (v := (-1)) hx hb dX12_bestFrom_74 (of_decide_eq_true rfl) ?_
       refine lv_istore (lv' := [(4, .int (-1)), (3, .int (-1)), (2, .int x26), (1, .int r22), (0, .ref (ad 55))]) hx hb dX12_bestFrom_75 hl (of_decide_eq_true rfl) rfl (fun ls hl => ?_)
       refine lv_ldcw (v := 2000000000) hx hb hown (hts _ kw_34_4) dX12_bestFrom_77 ?_
       refine lv_istore (lv' := [(5, .int 2000000000), (4, .int (-1)), (3, .int (-1)), (2, .int x26), (1, .int r22), (0, .ref (ad 55))]) hx hb dX12_bestFrom_80 hl (of_decide_eq_true rfl) rfl (fun ls hl => ?_)
       refine lv_iconst (v := 0) hx hb dX12_bestFrom_82 (of_decide_eq_true rfl) ?_
       refine lv_istore (lv' := [(6, .int 0), (5, .int 2000000000), (4, .int (-1)), (3, .int (-1)), (2, .int x26), (1, .int r22), (0, .ref (ad 55))]) hx hb dX12_bestFrom_83 hl (of_decide_eq_true rfl) rfl (fun ls hl => ?_)
       have lp128 : ∀ (n129 : Nat) (x130 : Int32) (x131 : Int32) (x132 : Int32) (σ134 : Nat → Nat → Int32) (H : Heap) (locs : List Loc) (ls : Array Slot), (-x132.toInt + 4 : Int) < n129 → (-1) ≤ x130.toInt → x130.toInt ≤ 3 → 0 ≤ x132.toInt → x132.toInt ≤ 4 → ((0 ≤ x130.toInt ∧ 0 ≤ x131.toInt ∧ x131.toInt ≤ -(1023000 * (σ134 55 26).toInt) + 12276000) ∨ (x130.toInt = (-1) ∧ x131.toInt = 2000000000 ∧ x132.toInt ≤ B0.toInt)) → (∀ i : Nat, (i < 55 ∨ 55 < i) ∧ (i < 66 ∨ 66 < i) ∧ (i < 74 ∨ 78 < i) → σ134 i = σ i) → (∀ k : Nat, (k < 18 ∨ 18 < k) ∧ (k < 19 ∨ 19 < k) ∧ (k < 20 ∨ 20 < k) ∧ (k < 21 ∨ 21 < k) ∧ (k < 22 ∨ 22 < k) ∧ (k < 37 ∨ 37 < k) → σ134 55 k = σ 55 k) → jKept σ134 → jH D cI cL ad σ134 τ H → va_S (jA ad) s.heap H locs → lv_has ls 8 [(6, .int x132), (5, .int x131), (4, .int x130), (3, .int (-1)), (2, .int x26), (1, .int r22), (0, .ref (ad 55))] → W p l e ({ frames := (70 + 4 * (n)), cells := 0, slots := 0, locals := (3114 + 240 * (n)) }) s m args below meth c H locs 0 0 Q (F0 m 85 ls []) := by
         intro n129
         induction n129 with
         | zero => intro x130 x131 x132 σ134 H locs ls h136 h137 h138 h139 h140 h141; have gx131 := jrg (rfl : x131.toInt = x131.toInt); exact absurd h136 (by omega)
         | succ n129 ihlp128 =>
           intro x130 x131 x132 σ134 H locs ls h136 h137 h138 h139 h140 h141 f142 f143 p144 hP hS hl
           exact by
            have gx131 := jrg (rfl : x131.toInt = x131.toInt)
            have z145 : (σ134 55 26).toInt = (σ 55 26).toInt := (congrArg Int32.toInt (show σ134 55 26 = (σ 55 26) from (f143 26 (of_decide_eq_true rfl))))
            refine lv_iload hx hb dX12_bestFrom_85 (lv_at hl 0 rfl) ?_
            refine lv_aload_n hx hb dX12_bestFrom_87 rfl (lv_at hl 6 rfl) ?_
            refine va_get (D := D) hx hb hts inlX12 hown hK hP 55 (jc_55 cI cL ad σ134 τ) rfl 6 (of_decide_eq_true rfl) (hts _ kw_9_13) (fun _ h9 => h9) rfl dX12_bestFrom_88 ?_
            have m146 : σ134 55 6 = (σ 55 6) := (f143 6 (of_decide_eq_true rfl))
            refine jtopr m146 ?_
            refine lv_icmp_ge (tgt := 135) hx hb dX12_bestFrom_91 (of_decide_eq_true rfl) (fun c147 => ?_) (fun c147 => ?_)
            · have kc147 := jle c147 rfl rfl
              refine lv_aload_n hx hb dX12_bestFrom_135 rfl (lv_at hl 6 rfl) ?_
              refine lv_iload_n hx hb dX12_bestFrom_136 rfl (lv_at hl 5 rfl) ?_
              refine lv_iload_n hx hb dX12_bestFrom_137 rfl (lv_at hl 4 rfl) ?_
              refine jcallV (As := [.int r22, .int x26]) (rest := []) ⟨hx, hb, hml, hown, hts⟩ hK hP hA hS hZ (c_X12_spot l D cI cL ad zz hJ σ134 τ r22 (r22.toInt) rfl x26 (16 * (σ 55 26).toInt + (σ 55 25).toInt) tx26) cw_RX12_314 (jc_55 cI cL ad σ134 τ) rfl ⟨by dsimp only; omega, by dsimp only; omega⟩ rfl rfl rfl hl.1 rfl (Nat.le_of_ble_eq_true rfl) dX12_bestFrom_138 ⟨Nat.zero_le _, Nat.zero_le _⟩ (fun r149 σ148 τ148 H locs h148 hP hS => ?_)
              obtain ⟨⟨rfl, rfl⟩, h148⟩ := h148
              rcases h148 with h150 | h151
              · obtain ⟨q154, k152, k153⟩ := h150
                have z156 : (σ134 55 42).toInt = (σ 55 42).toInt := (congrArg Int32.toInt (show σ134 55 42 = (σ 55 42) from (f143 42 (of_decide_eq_true rfl))))
                have k155 : (σ134 78 r149.toNatClampNeg).toInt ≠ (σ134 55 42).toInt ∨ (σ134 75 r149.toNatClampNeg).toInt = 16 * (σ 55 26).toInt + (σ 55 25).toInt := k153.imp (fun q => jne q rfl rfl) (fun q => jeq q rfl tx26)
                refine lv_istore_n (lv' := [(3, .int r149), (6, .int x132), (5, .int x131), (4, .int x130), (2, .int x26), (1, .int r22), (0, .ref (ad 55))]) hx hb dX12_bestFrom_141 rfl hl (of_decide_eq_true rfl) rfl (fun ls hl => ?_)
                refine lv_iload_n hx hb dX12_bestFrom_142 rfl (lv_at hl 0 rfl) ?_
                exact by
                 refine lv_if_lt (tgt := 186) hx hb dX12_bestFrom_143 (of_decide_eq_true rfl) (fun c => absurd (jlt c rfl jz_0) (by omega)) (fun c157 => ?_)
                 have kc157 := jnlt c157 rfl jz_0
                 refine lv_aload_n hx hb dX12_bestFrom_146 rfl (lv_at hl 6 rfl) ?_
                 refine va_get (D := D) hx hb hts inlX12 hown hK hP 55 (jc_55 cI cL ad σ134 τ) rfl 43 (of_decide_eq_true rfl) (hts _ kw_8_3) (fun _ h9 => h9) rfl dX12_bestFrom_147 ?_
                 refine lv_iload_n hx hb dX12_bestFrom_150 rfl (lv_at hl 0 rfl) ?_
                 refine lv_aload_n hx hb dX12_bestFrom_151 rfl (lv_at hl 6 rfl) ?_
                 refine va_get (D := D) hx hb hts inlX12 hown hK hP 55 (jc_55 cI cL ad σ134 τ) rfl 42 (of_decide_eq_true rfl) (hts _ kw_33_10) (fun _ h9 => h9) rfl dX12_bestFrom_152 ?_
                 have m158 : σ134 55 42 = (σ 55 42) := (f143 42 (of_decide_eq_true rfl))
                 refine jtopr m158 ?_
                 exact by
                  refine jast hx hb hK hP hJ hA hS (jc_78 cI cL ad σ134 τ) (ja_78 cI cL ad σ134 τ _ _) (jin rfl (by omega) (by omega)) dX12_bestFrom_155 (fun σ159 H locs eσ159 hP hS => ?_)
                  refine lv_aload_n hx hb dX12_bestFrom_156 rfl (lv_at hl 6 rfl) ?_
                  refine va_get (D := D) hx hb hts inlX12 hown hK hP 55 (jc_55 cI cL ad σ159 τ) rfl 38 (of_decide_eq_true rfl) (hts _ kw_7_23) (fun _ h9 => h9) rfl dX12_bestFrom_157 ?_
                  refine lv_iload_n hx hb dX12_bestFrom_160 rfl (lv_at hl 0 rfl) ?_
                  refine lv_iload_n hx hb dX12_bestFrom_161 rfl (lv_at hl 5 rfl) ?_
                  refine jast hx hb hK hP hJ hA hS (jc_74 cI cL ad σ159 τ) (ja_74 cI cL ad σ159 τ _ _) (jin rfl (by omega) (by omega)) dX12_bestFrom_162 (fun σ160 H locs eσ160 hP hS => ?_)
                  refine lv_aload_n hx hb dX12_bestFrom_163 rfl (lv_at hl 6 rfl) ?_
                  refine va_get (D := D) hx hb hts inlX12 hown hK hP 55 (jc_55 cI cL ad σ160 τ) rfl 39 (of_decide_eq_true rfl) (hts _ kw_8_0) (fun _ h9 => h9) rfl dX12_bestFrom_164 ?_
                  refine lv_iload_n hx hb dX12_bestFrom_167 rfl (lv_at hl 0 rfl) ?_
                  exact by
                   refine lv_iload_n hx hb dX12_bestFrom_168 rfl (lv_at hl 4 rfl) ?_
                   refine jast hx hb hK hP hJ hA hS (jc_75 cI cL ad σ160 τ) (ja_75 cI cL ad σ160 τ _ _) (jin rfl (by omega) (by omega)) dX12_bestFrom_169 (fun σ161 H locs eσ161 hP hS => ?_)
                   refine lv_aload_n hx hb dX12_bestFrom_170 rfl (lv_at hl 6 rfl) ?_
                   refine va_get (D := D) hx hb hts inlX12 hown hK hP 55 (jc_55 cI cL ad σ161 τ) rfl 40 (of_decide_eq_true rfl) (hts _ kw_8_1) (fun _ h9 => h9) rfl dX12_bestFrom_171 ?_
                   refine lv_iload_n hx hb dX12_bestFrom_174 rfl (lv_at hl 0 rfl) ?_
                   refine lv_iload hx hb dX12_bestFrom_175 (lv_at hl 2 rfl) ?_
                   refine jast hx hb hK hP hJ hA hS (jc_76 cI cL ad σ161 τ) (ja_76 cI cL ad σ161 τ _ _) (jin rfl (by omega) (by omega)) dX12_bestFrom_177 (fun σ162 H locs eσ162 hP hS => ?_)
                   refine lv_aload_n hx hb dX12_bestFrom_178 rfl (lv_at hl 6 rfl) ?_
                   refine va_get (D := D) hx hb hts inlX12 hown hK hP 55 (jc_55 cI cL ad σ162 τ) rfl 41 (of_decide_eq_true rfl) (hts _ kw_8_2) (fun _ h9 => h9) rfl dX12_bestFrom_179 ?_
                   exact by
                    refine lv_iload_n hx hb dX12_bestFrom_182 rfl (lv_at hl 0 rfl) ?_
                    refine lv_iload hx hb dX12_bestFrom_183 (lv_at hl 3 rfl) ?_
                    refine jast hx hb hK hP hJ hA hS (jc_77 cI cL ad σ162 τ) (ja_77 cI cL ad σ162 τ _ _) (jin rfl (by omega) (by omega)) dX12_bestFrom_185 (fun σ163 H locs eσ163 hP hS => ?_)
                    have e164 : σ163 75 = jupd (σ134 75) r149.toNatClampNeg x26 := by rw [eσ163, jup_n (of_decide_eq_true rfl), eσ162, jup_n (of_decide_eq_true rfl), eσ161, jup_row, eσ160, jup_n (of_decide_eq_true rfl), eσ159, jup_n (of_decide_eq_true rfl)]
                    have e165 : σ163 76 = jupd (σ134 76) r149.toNatClampNeg x131 := by rw [eσ163, jup_n (of_decide_eq_true rfl), eσ162, jup_row, eσ161, jup_n (of_decide_eq_true rfl), eσ160, jup_n (of_decide_eq_true rfl), eσ159, jup_n (of_decide_eq_true rfl)]
                    have e166 : σ163 77 = jupd (σ134 77) r149.toNatClampNeg x130 := by rw [eσ163, jup_row, eσ162, jup_n (of_decide_eq_true rfl), eσ161, jup_n (of_decide_eq_true rfl), eσ160, jup_n (of_decide_eq_true rfl), eσ159, jup_n (of_decide_eq_true rfl)]
                    have z167 : (σ163 55 26).toInt = (σ 55 26).toInt := (congrArg Int32.toInt (show σ163 55 26 = (σ 55 26) from ((congrFun (jnp 55 eσ163 (of_decide_eq_true rfl)) 26).trans ((congrFun (jnp 55 eσ162 (of_decide_eq_true rfl)) 26).trans ((congrFun (jnp 55 eσ161 (of_decide_eq_true rfl)) 26).trans ((congrFun (jnp 55 eσ160 (of_decide_eq_true rfl)) 26).trans ((congrFun (jnp 55 eσ159 (of_decide_eq_true rfl)) 26).trans (f143 26 (of_decide_eq_true rfl)))))))))
                    have p168 : jKept σ163 := p144.on e164 e165 e166 (by have h91 := tx26; omega) (by have h91 := tx26; omega) (by have h91 := tx26; omega) (by have h91 := tx26; omega)
                    refine lv_aload_n hx hb dX12_bestFrom_186 rfl (lv_at hl 6 rfl) ?_
                    exact by
                     refine lv_iload hx hb dX12_bestFrom_187 (lv_at hl 3 rfl) ?_
                     refine jput (ty := .int) hx hb hts inlX12 tyX12 tyX12_ok nmX12 hown hK hP hJ hA hS (jc_55 cI cL ad σ163 τ) rfl (k := 37) (of_decide_eq_true rfl) (Nat.le_of_ble_eq_true rfl) (jp_55_37 cI cL ad σ163 τ x130) (hts _ kw_33_15) (fun _ h9 => h9) rfl (by decide +kernel) rfl rfl dX12_bestFrom_189 (fun σ169 H locs eσ169 hP hS => ?_)
                     refine lv_iload hx hb dX12_bestFrom_192 (lv_at hl 2 rfl) ?_
                     have p170 : jKept σ169 := jKept.fr (jnp 75 eσ169 (of_decide_eq_true rfl)) (jnp 76 eσ169 (of_decide_eq_true rfl)) (jnp 77 eσ169 (of_decide_eq_true rfl)) p168
                     have z171 : (σ169 55 37).toInt = x130.toInt := (congrArg Int32.toInt (show σ169 55 37 = x130 from (jsp eσ169)))
                     exact by exact hret x131 σ169 τ _ _ _ _ rfl ⟨rfl, (fun i hi => ((jnp i eσ169 (imp_206 i hi)).trans ((jnp i eσ163 (imp_208 i hi)).trans ((jnp i eσ162 (imp_209 i hi)).trans ((jnp i eσ161 (imp_210 i hi)).trans ((jnp i eσ160 (imp_211 i hi)).trans ((jnp i eσ159 (imp_212 i hi)).trans (f142 i hi)))))))), (fun i hi => ((jkp i eσ169 (imp_207 i hi)).trans ((congrFun (jnp 55 eσ163 (of_decide_eq_true rfl)) i).trans ((congrFun (jnp 55 eσ162 (of_decide_eq_true rfl)) i).trans ((congrFun (jnp 55 eσ161 (of_decide_eq_true rfl)) i).trans ((congrFun (jnp 55 eσ160 (of_decide_eq_true rfl)) i).trans ((congrFun (jnp 55 eσ159 (of_decide_eq_true rfl)) i).trans (f143 i hi)))))))), p170, (by omega), ⟨trivial, (by omega)⟩⟩ hP hS dX12_bestFrom_194
              · obtain ⟨q173, k172⟩ := h151
                have q173 := q173.symm
                subst q173
                refine lv_istore_n (lv' := [(3, .int (-1)), (6, .int x132), (5, .int x131), (4, .int x130), (2, .int x26), (1, .int r22), (0, .ref (ad 55))]) hx hb dX12_bestFrom_141 rfl hl (of_decide_eq_true rfl) rfl (fun ls hl => ?_)
                refine lv_iload_n hx hb dX12_bestFrom_142 rfl (lv_at hl 0 rfl) ?_
                refine lv_if_lt (tgt := 186) hx hb dX12_bestFrom_143 (of_decide_eq_true rfl) (fun _ => ?_) (fun c => absurd (of_decide_eq_true rfl) c)
                refine lv_aload_n hx hb dX12_bestFrom_186 rfl (lv_at hl 6 rfl) ?_
                refine lv_iload hx hb dX12_bestFrom_187 (lv_at hl 3 rfl) ?_
                refine jput (ty := .int) hx hb hts inlX12 tyX12 tyX12_ok nmX12 hown hK hP hJ hA hS (jc_55 cI cL ad σ134 τ) rfl (k := 37) (of_decide_eq_true rfl) (Nat.le_of_ble_eq_true rfl) (jp_55_37 cI cL ad σ134 τ x130) (hts _ kw_33_15) (fun _ h9 => h9) rfl (by decide +kernel) rfl rfl dX12_bestFrom_189 (fun σ174 H locs eσ174 hP hS => ?_)
                refine lv_iload hx hb dX12_bestFrom_192 (lv_at hl 2 rfl) ?_
                have p175 : jKept σ174 := jKept.fr (jnp 75 eσ174 (of_decide_eq_true rfl)) (jnp 76 eσ174 (of_decide_eq_true rfl)) (jnp 77 eσ174 (of_decide_eq_true rfl)) p144
                have z176 : (σ174 55 37).toInt = x130.toInt := (congrArg Int32.toInt (show σ174 55 37 = x130 from (jsp eσ174)))
                exact by exact hret x131 σ174 τ _ _ _ _ rfl ⟨rfl, (fun i hi => ((jnp i eσ174 (imp_206 i hi)).trans (f142 i hi))), (fun i hi => ((jkp i eσ174 (imp_207 i hi)).trans (f143 i hi))), p175, (by omega), ⟨trivial, (by omega)⟩⟩ hP hS dX12_bestFrom_194
            · have kc147 := jnle c147 rfl rfl
              refine lv_aload_n hx hb dX12_bestFrom_94 rfl (lv_at hl 6 rfl) ?_
              refine lv_iload hx hb dX12_bestFrom_95 (lv_at hl 0 rfl) ?_
              exact by
               refine jcallV (As := [.int x132]) (rest := []) ⟨hx, hb, hml, hown, hts⟩ hK hP hA hS hZ (c_X12_mayBowl l D cI cL ad zz hJ σ134 τ x132 (x132.toInt) rfl (by omega)) cw_RX12_249 (jc_55 cI cL ad σ134 τ) rfl ⟨by dsimp only; omega, by dsimp only; omega⟩ rfl rfl rfl hl.1 rfl (Nat.le_of_ble_eq_true rfl) dX12_bestFrom_97 ⟨Nat.zero_le _, Nat.zero_le _⟩ (fun r178 σ177 τ177 H locs h177 hP hS => ?_)
               obtain ⟨⟨rfl, rfl⟩, h177⟩ := h177
               rcases h177 with h179 | h180
               · obtain ⟨q182, k181⟩ := h179
                 have q182 := q182.symm
                 subst q182
                 refine lv_if_ne (tgt := 106) hx hb dX12_bestFrom_100 (of_decide_eq_true rfl) (fun _ => ?_) (fun c => absurd c (of_decide_eq_true rfl))
                 refine lv_aload_n hx hb dX12_bestFrom_106 rfl (lv_at hl 6 rfl) ?_
                 refine lv_iload hx hb dX12_bestFrom_107 (lv_at hl 0 rfl) ?_
                 have I183 : jI101 σ134 := jI101_fr (f143 4 (of_decide_eq_true rfl)) (f143 5 (of_decide_eq_true rfl)) (f142 56 (of_decide_eq_true rfl)) (f142 57 (of_decide_eq_true rfl)) (f142 58 (of_decide_eq_true rfl)) (f142 59 (of_decide_eq_true rfl)) hI101
                 have I184 : jI102 σ134 := jI102_fr (f143 6 (of_decide_eq_true rfl)) (f142 60 (of_decide_eq_true rfl)) (f142 61 (of_decide_eq_true rfl)) hI102
                 have I185 : jI103 σ134 := jI103_fr (f143 9 (of_decide_eq_true rfl)) hI103
                 have I186 : jI104 σ134 := jI104_fr (f143 10 (of_decide_eq_true rfl)) (f143 12 (of_decide_eq_true rfl)) (f143 13 (of_decide_eq_true rfl)) (f142 62 (of_decide_eq_true rfl)) (f142 67 (of_decide_eq_true rfl)) hI104
                 have I187 : jI105 σ134 := jI105_fr (f143 15 (of_decide_eq_true rfl)) (f142 65 (of_decide_eq_true rfl)) hI105
                 have I188 : jI106 σ134 := jI106_fr (f143 32 (of_decide_eq_true rfl)) (f142 70 (of_decide_eq_true rfl)) (f142 71 (of_decide_eq_true rfl)) (f142 72 (of_decide_eq_true rfl)) hI106
                 have I189 : jI120 σ134 := jI120_fr (f143 10 (of_decide_eq_true rfl)) (f143 12 (of_decide_eq_true rfl)) (f143 25 (of_decide_eq_true rfl)) (f143 26 (of_decide_eq_true rfl)) (f143 27 (of_decide_eq_true rfl)) (f142 68 (of_decide_eq_true rfl)) hI120
                 have z190 : (σ134 55 25).toInt = (σ 55 25).toInt := (congrArg Int32.toInt (show σ134 55 25 = (σ 55 25) from (f143 25 (of_decide_eq_true rfl))))
                 have z191 : (σ134 55 10).toInt = (σ 55 10).toInt := (congrArg Int32.toInt (show σ134 55 10 = (σ 55 10) from (f143 10 (of_decide_eq_true rfl))))
                 have z192 : (σ134 55 12).toInt = (σ 55 12).toInt := (congrArg Int32.toInt (show σ134 55 12 = (σ 55 12) from (f143 12 (of_decide_eq_true rfl))))
                 exact by
                  refine jcallV (As := [.int x132]) (rest := []) ⟨hx, hb, hml, hown, hts⟩ hK hP hA hS hZ (h_mean σ134 τ x132 (x132.toInt) rfl I183 I184 I185 I186 I187 I188 I189 p144 (by omega) (by omega) (by omega) (by omega)) cw_RX12_318 (jc_55 cI cL ad σ134 τ) rfl ⟨by dsimp only; omega, by dsimp only; omega⟩ rfl rfl rfl hl.1 rfl (Nat.le_of_ble_eq_true rfl) dX12_bestFrom_109 ⟨Nat.zero_le _, Nat.zero_le _⟩ (fun r194 σ193 τ193 H locs h193 hP hS => ?_)
                  obtain ⟨rfl, f195, f196, p197, h193⟩ := h193
                  have h199 := h193
                  obtain ⟨q201, k200⟩ := h199
                  refine lv_istore (lv' := [(7, .int r194), (6, .int x132), (5, .int x131), (4, .int x130), (3, .int (-1)), (2, .int x26), (1, .int r22), (0, .ref (ad 55))]) hx hb dX12_bestFrom_112 hl (of_decide_eq_true rfl) rfl (fun ls hl => ?_)
                  refine lv_iload hx hb dX12_bestFrom_114 (lv_at hl 0 rfl) ?_
                  refine lv_iload hx hb dX12_bestFrom_116 (lv_at hl 2 rfl) ?_
                  refine lv_icmp_ge (tgt := 129) hx hb dX12_bestFrom_118 (of_decide_eq_true rfl) (fun c202 => ?_) (fun c202 => ?_)
                  · have kc202 := jle c202 rfl rfl
                    obtain ⟨x203, ex203⟩ : ∃ y : Int32, y = x132 + 1 := ⟨_, rfl⟩
                    exact by
                     have tx203 : x203.toInt = x132.toInt + 1 := (jadd ex203 rfl jz_1 (by omega) (by omega)).trans (by omega)
                     refine lv_iinc (v := x203) (lv' := [(6, .int x203), (7, .int r194), (5, .int x131), (4, .int x130), (3, .int (-1)), (2, .int x26), (1, .int r22), (0, .ref (ad 55))]) hx hb dX12_bestFrom_129 hl (k := 1) rfl (by rw [ex203]; rfl) (of_decide_eq_true rfl) rfl (fun ls hl => ?_)
                     refine lv_goto (tgt := 85) hx hb dX12_bestFrom_132 (of_decide_eq_true rfl) ?_
                     have z204 : (σ193 55 26).toInt = (σ 55 26).toInt := (congrArg Int32.toInt (show σ193 55 26 = (σ 55 26) from ((f196 26 (of_decide_eq_true rfl)).trans (f143 26 (of_decide_eq_true rfl)))))
                     exact by exact ihlp128 x130 x131 x203 σ193 _ _ ls (by have h92 := tx203; omega) (by have h92 := tx203; omega) (by have h92 := tx203; omega) (by have h92 := tx203; omega) (by have h92 := tx203; omega) (by have h92 := tx203; omega) (fun i hi => ((f195 i hi).trans (f142 i hi))) (fun i hi => ((f196 i hi).trans (f143 i hi)))  p197 hP hS (lv_sub hl [0, 2, 3, 4, 5, 6, 7] rfl)
                  · have kc202 := jnle c202 rfl rfl
                    refine lv_iload hx hb dX12_bestFrom_121 (lv_at hl 0 rfl) ?_
                    refine lv_istore (lv' := [(5, .int r194), (7, .int r194), (6, .int x132), (4, .int x130), (3, .int (-1)), (2, .int x26), (1, .int r22), (0, .ref (ad 55))]) hx hb dX12_bestFrom_123 hl (of_decide_eq_true rfl) rfl (fun ls hl => ?_)
                    refine lv_iload hx hb dX12_bestFrom_125 (lv_at hl 2 rfl) ?_
                    exact by
                     refine lv_istore (lv' := [(4, .int x132), (5, .int r194), (7, .int r194), (6, .int x132), (3, .int (-1)), (2, .int x26), (1, .int r22), (0, .ref (ad 55))]) hx hb dX12_bestFrom_127 hl (of_decide_eq_true rfl) rfl (fun ls hl => ?_)
                     obtain ⟨x205, ex205⟩ : ∃ y : Int32, y = x132 + 1 := ⟨_, rfl⟩
                     have tx205 : x205.toInt = x132.toInt + 1 := (jadd ex205 rfl jz_1 (by omega) (by omega)).trans (by omega)
                     refine lv_iinc (v := x205) (lv' := [(6, .int x205), (4, .int x132), (5, .int r194), (7, .int r194), (3, .int (-1)), (2, .int x26), (1, .int r22), (0, .ref (ad 55))]) hx hb dX12_bestFrom_129 hl (k := 3) rfl (by rw [ex205]; rfl) (of_decide_eq_true rfl) rfl (fun ls hl => ?_)
                     refine lv_goto (tgt := 85) hx hb dX12_bestFrom_132 (of_decide_eq_true rfl) ?_
                     have z206 : (σ193 55 26).toInt = (σ 55 26).toInt := (congrArg Int32.toInt (show σ193 55 26 = (σ 55 26) from ((f196 26 (of_decide_eq_true rfl)).trans (f143 26 (of_decide_eq_true rfl)))))
                     exact by exact ihlp128 x132 r194 x205 σ193 _ _ ls (by have h92 := tx205; omega) (by have h92 := tx205; omega) (by have h92 := tx205; omega) (by have h92 := tx205; omega) (by have h92 := tx205; omega) (by have h92 := tx205; omega) (fun i hi => ((f195 i hi).trans (f142 i hi))) (fun i hi => ((f196 i hi).trans (f143 i hi)))  p197 hP hS (lv_sub hl [0, 2, 1, 4, 5, 6, 7] rfl)
               · obtain ⟨q208, k207⟩ := h180
                 have q208 := q208.symm
                 exact by
                  subst q208
                  have e209 : jmb σ134 x132 = jmb σ x132 := (jmb_fr (f143 27 (of_decide_eq_true rfl)) (f143 30 (of_decide_eq_true rfl)) (f143 31 (of_decide_eq_true rfl)) (f142 56 (of_decide_eq_true rfl)) (f142 69 (of_decide_eq_true rfl)) x132)
                  have n210 : ¬ x132 = B0 := fun h => absurd ((hB0).symm.trans (by rw [← h]; exact e209.symm.trans k207) : (1 : Int32) = 0) (of_decide_eq_true rfl)
                  have k211 := jne n210 rfl rfl
                  refine lv_if_ne (tgt := 106) hx hb dX12_bestFrom_100 (of_decide_eq_true rfl) (fun c => absurd (of_decide_eq_true rfl) c) (fun _ => ?_)
                  refine lv_goto (tgt := 129) hx hb dX12_bestFrom_103 (of_decide_eq_true rfl) ?_
                  obtain ⟨x212, ex212⟩ : ∃ y : Int32, y = x132 + 1 := ⟨_, rfl⟩
                  have tx212 : x212.toInt = x132.toInt + 1 := (jadd ex212 rfl jz_1 (by omega) (by omega)).trans (by omega)
                  refine lv_iinc (v := x212) (lv' := [(6, .int x212), (5, .int x131), (4, .int x130), (3, .int (-1)), (2, .int x26), (1, .int r22), (0, .ref (ad 55))]) hx hb dX12_bestFrom_129 hl (k := 0) rfl (by rw [ex212]; rfl) (of_decide_eq_true rfl) rfl (fun ls hl => ?_)
                  exact by
                   refine lv_goto (tgt := 85) hx hb dX12_bestFrom_132 (of_decide_eq_true rfl) ?_
                   exact by exact ihlp128 x130 x131 x212 σ134 _ _ ls (by have h92 := tx212; omega) (by have h92 := tx212; omega) (by have h92 := tx212; omega) (by have h92 := tx212; omega) (by have h92 := tx212; omega) (by have h92 := tx212; omega) (fun i hi => (f142 i hi)) (fun i hi => (f143 i hi))  p144 hP hS (lv_sub hl [0, 1, 2, 3, 4, 5, 6] rfl)
       exact by exact lp128 1000000 (-1) 2000000000 0 σ _ _ ls (by have h90 := jz_m1; have h91 := jz_2000000000; have h92 := jz_0; omega) (by have h90 := jz_m1; have h91 := jz_2000000000; have h92 := jz_0; omega) (by have h90 := jz_m1; have h91 := jz_2000000000; have h92 := jz_0; omega) (by have h90 := jz_m1; have h91 := jz_2000000000; have h92 := jz_0; omega) (by have h90 := jz_m1; have h91 := jz_2000000000; have h92 := jz_0; omega) (by have h90 := jz_m1; have h91 := jz_2000000000; have h92 := jz_0; omega) (fun _ _ => rfl) (fun _ _ => rfl)  hs_jKept hP hS hl
set_option maxHeartbeats 4000000 in
set_option maxRecDepth 100000 in
theorem c_X12_bests (l : Launch) (D : va_G) (cI cL : ClassId) (ad zz : Nat → Nat) (hJ : jD ad) (n : Nat) : (∀ (σ : Nat → Nat → Int32) (τ : Nat → Nat → Int64) (a1 : Int32) (A1 : Int) (t1 : a1.toInt = A1) (hI101 : jI101 σ) (hI102 : jI102 σ) (hI103 : jI103 σ) (hI104 : jI104 σ) (hI105 : jI105 σ) (hI106 : jI106 σ) (hI120 : jI120 σ) (hs_jKept : jKept σ) (hp0 : 0 ≤ A1 ∧ A1 ≤ 3) (hp1 : (σ 55 25).toInt < (σ 55 10).toInt) (hp2 : (σ 55 26).toInt < (σ 55 12).toInt) (hp3 : (σ 55 12).toInt - (σ 55 26).toInt ≤ (((n) : Nat) : Int)), jM l yX12_meanWith cX12_meanWith 8 (some .int) ({ frames := (69 + 4 * (n)), cells := 0, slots := 0, locals := (3034 + 240 * (n)) }) D cI cL ad zz [.ref (ad 55), .int a1] σ τ (fun r σ' τ' => τ = τ' ∧ (∀ i : Nat, (i < 55 ∨ 55 < i) ∧ (i < 66 ∨ 66 < i) ∧ (i < 74 ∨ 78 < i) → σ' i = σ i) ∧ (∀ k : Nat, (k < 18 ∨ 18 < k) ∧ (k < 19 ∨ 19 < k) ∧ (k < 20 ∨ 20 < k) ∧ (k < 21 ∨ 21 < k) ∧ (k < 22 ∨ 22 < k) ∧ (k < 37 ∨ 37 < k) → σ' 55 k = σ 55 k) ∧ (jKept σ') ∧ ((True ∧ (0 ≤ r.toInt ∧ r.toInt ≤ -(1023000 * (σ 55 26).toInt) + 12276000))))) ∧ (∀ (σ : Nat → Nat → Int32) (τ : Nat → Nat → Int64) (hI101 : jI101 σ) (hI102 : jI102 σ) (hI103 : jI103 σ) (hI104 : jI104 σ) (hI105 : jI105 σ) (hI106 : jI106 σ) (hI120 : jI120 σ) (hs_jKept : jKept σ) (hp0 : (σ 55 12).toInt - (σ 55 26).toInt ≤ (((n) : Nat) : Int)), jM l yX12_bestFrom cX12_bestFrom 8 (some .int) ({ frames := (70 + 4 * (n)), cells := 0, slots := 0, locals := (3114 + 240 * (n)) }) D cI cL ad zz [.ref (ad 55)] σ τ (fun r σ' τ' => τ = τ' ∧ (∀ i : Nat, (i < 55 ∨ 55 < i) ∧ (i < 66 ∨ 66 < i) ∧ (i < 74 ∨ 78 < i) → σ' i = σ i) ∧ (∀ k : Nat, (k < 18 ∨ 18 < k) ∧ (k < 19 ∨ 19 < k) ∧ (k < 20 ∨ 20 < k) ∧ (k < 21 ∨ 21 < k) ∧ (k < 22 ∨ 22 < k) ∧ (k < 37 ∨ 37 < k) → σ' 55 k = σ 55 k) ∧ (jKept σ') ∧ ((-2) ≤ (σ' 55 37).toInt ∧ (σ' 55 37).toInt ≤ 3) ∧ ((True ∧ (0 ≤ r.toInt ∧ r.toInt ≤ -(1023000 * (σ 55 26).toInt) + 12276000))))) ∧ (∀ (σ : Nat → Nat → Int32) (τ : Nat → Nat → Int64) (B0 : Int32) (hB0 : jmb σ B0 = 1) (hI101 : jI101 σ) (hI102 : jI102 σ) (hI103 : jI103 σ) (hI104 : jI104 σ) (hI105 : jI105 σ) (hI106 : jI106 σ) (hI120 : jI120 σ) (hs_jKept : jKept σ) (hp0 : 0 ≤ B0.toInt ∧ B0.toInt < (σ 55 6).toInt) (hp1 : (σ 55 25).toInt < (σ 55 10).toInt) (hp2 : (σ 55 26).toInt < (σ 55 12).toInt) (hp3 : (σ 55 12).toInt - (σ 55 26).toInt ≤ (((n) : Nat) : Int)), jM l yX12_bestFrom cX12_bestFrom 8 (some .int) ({ frames := (70 + 4 * (n)), cells := 0, slots := 0, locals := (3114 + 240 * (n)) }) D cI cL ad zz [.ref (ad 55)] σ τ (fun r σ' τ' => τ = τ' ∧ (∀ i : Nat, (i < 55 ∨ 55 < i) ∧ (i < 66 ∨ 66 < i) ∧ (i < 74 ∨ 78 < i) → σ' i = σ i) ∧ (∀ k : Nat, (k < 18 ∨ 18 < k) ∧ (k < 19 ∨ 19 < k) ∧ (k < 20 ∨ 20 < k) ∧ (k < 21 ∨ 21 < k) ∧ (k < 22 ∨ 22 < k) ∧ (k < 37 ∨ 37 < k) → σ' 55 k = σ 55 k) ∧ (jKept σ') ∧ (0 ≤ (σ' 55 37).toInt ∧ (σ' 55 37).toInt ≤ 3) ∧ ((True ∧ (0 ≤ r.toInt ∧ r.toInt ≤ -(1023000 * (σ 55 26).toInt) + 12276000))))) := by
  induction n with
  | zero =>
    have h_mean := c_X12_bests_mean_z l D cI cL ad zz hJ
    have h_bf := c_X12_bests_bf_g l D cI cL ad zz hJ 0 h_mean
    have h_bw := c_X12_bests_bw_g l D cI cL ad zz hJ 0 h_mean
    exact ⟨h_mean, h_bf, h_bw⟩
  | succ n ih =>
    obtain ⟨g_mean, g_bf, g_bw⟩ := ih
    have h_mean := c_X12_bests_mean_g l D cI cL ad zz hJ n g_bf
    have h_bf := c_X12_bests_bf_g l D cI cL ad zz hJ (n + 1) h_mean
    have h_bw := c_X12_bests_bw_g l D cI cL ad zz hJ (n + 1) h_mean
    exact ⟨h_mean, h_bf, h_bw⟩
