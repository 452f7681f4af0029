set_option maxHeartbeats 4000000 in
set_option maxRecDepth 100000 in
theorem c_X12_becomes (l : Launch) (D : va_G) (cI cL : ClassId) (ad zz : Nat → Nat) (hJ : jD ad) (σ : Nat → Nat → Int32) (τ : Nat → Nat → Int64) (a1 : Int32) (A1 : Int) (t1 : a1.toInt = A1) (a2 : Int32) (A2 : Int) (t2 : a2.toInt = A2) (hI101 : jI101 σ) (hp0 : 0 ≤ A1 ∧ A1 ≤ 67) (hp1 : (-200) ≤ A2 ∧ A2 ≤ 500) : jM l yX12_becomes cX12_becomes 5 (some .int) ({ frames := 0, cells := 0, slots := 0, locals := 0 }) D cI cL ad zz [.ref (ad 55), .int a1, .int a2] σ τ (fun r σ' τ' => τ = τ' ∧ (∀ i : Nat, (i < 55 ∨ 59 < i) → σ' i = σ i) ∧ (∀ k : Nat, (k < 4 ∨ 4 < k) ∧ (k < 5 ∨ 5 < k) → σ' 55 k = σ 55 k) ∧ (jI101 σ') ∧ (jChg (A1) a2 r (σ 56) (σ' 56) (σ 57) (σ' 57) (σ 58) (σ' 58) (σ 59) (σ' 59) (σ 55 5).toInt (σ' 55 5).toInt (σ 55 4).toInt (σ' 55 4).toInt) ∧ True) := by
  refine jM.of hJ (by decide +kernel) (nt := .int) rfl (Nat.le_of_ble_eq_true rfl) ?_
  intro p e s m args below meth c Q ls hC hret hl hP
  obtain ⟨hx, hb, hr, hml, hown, hts, hK, -, hlocks, hZ⟩ := hC
  have hown : s.vm.findClass RX12 = some m.cls := hown
  have hS : va_S (jA ad) s.heap s.heap [] := va_S.rf
  have hA : ∀ q, jA ad q → jA ad q := fun _ h => h
  have hl : lv_has ls 5 [(0, .ref (ad 55)), (1, .int a1), (2, .int a2)] := hl
  have g1 := jrg t1
  have g2 := jrg t2
  obtain ⟨i1, i2, i3, w4, w5, w6, w7⟩ : (0 ≤ (σ 55 5).toInt) ∧ ((σ 55 5).toInt ≤ (σ 55 4).toInt) ∧ ((σ 55 4).toInt ≤ 40) ∧ (∀ k : Nat, k < 68 → (-200) ≤ (σ 56 k).toInt ∧ (σ 56 k).toInt ≤ 500) ∧ (∀ k : Nat, k < 40 → 0 ≤ (σ 57 k).toInt ∧ (σ 57 k).toInt ≤ 67) ∧ (∀ k : Nat, k < 40 → (-200) ≤ (σ 58 k).toInt ∧ (σ 58 k).toInt ≤ 500) ∧ (∀ k : Nat, k < 40 → (-200) ≤ (σ 59 k).toInt ∧ (σ 59 k).toInt ≤ 500) := id hI101
  refine lv_aload_n hx hb dX12_becomes_0 rfl (lv_at hl 0 rfl) ?_
  refine va_get (D := D) hx hb hts inlX12 hown hK hP 55 (jc_55 cI cL ad σ τ) rfl 0 (by decide) (hts _ kw_7_2) (fun _ h9 => h9) rfl dX12_becomes_1 ?_
  refine lv_iload_n hx hb dX12_becomes_4 rfl (lv_at hl 1 rfl) ?_
  refine jald hx hb hK hP (jc_56 cI cL ad σ τ) (jin t1 (by omega) (by omega)) dX12_becomes_5 ?_
  have g8 := w4 _ (jnat (x := a1) t1 (n := 68) (by omega) (by decide))
  refine jtopr (y := (σ 56 a1.toNatClampNeg)) rfl ?_
  refine lv_istore_n (lv' := [(3, .int (σ 56 a1.toNatClampNeg)), (0, .ref (ad 55)), (1, .int a1), (2, .int a2)]) hx hb dX12_becomes_6 rfl hl (by decide) rfl (fun ls hl => ?_)
  refine lv_iload_n hx hb dX12_becomes_7 rfl (lv_at hl 0 rfl) ?_
  refine lv_iload_n hx hb dX12_becomes_8 rfl (lv_at hl 3 rfl) ?_
  refine lv_icmp_ne (tgt := 14) hx hb dX12_becomes_9 (by decide) (fun c9 => ?_) (fun c9 => ?_)
  · have kc9 := jne c9 rfl t2
    refine lv_aload_n hx hb dX12_becomes_14 rfl (lv_at hl 1 rfl) ?_
    refine va_get (D := D) hx hb hts inlX12 hown hK hP 55 (jc_55 cI cL ad σ τ) rfl 5 (by decide) (hts _ kw_11_16) (fun _ h9 => h9) rfl dX12_becomes_15 ?_
    refine lv_bipush (v := 40) hx hb dX12_becomes_18 (by decide) ?_
    refine lv_icmp_ne (tgt := 97) hx hb dX12_becomes_20 (by decide) (fun c10 => ?_) (fun c10 => ?_)
    · have kc10 := jne c10 rfl jz_40
      refine lv_aload_n hx hb dX12_becomes_97 rfl (lv_at hl 1 rfl) ?_
      refine va_get (D := D) hx hb hts inlX12 hown hK hP 55 (jc_55 cI cL ad σ τ) rfl 1 (by decide) (hts _ kw_7_3) (fun _ h9 => h9) rfl dX12_becomes_98 ?_
      refine lv_aload_n hx hb dX12_becomes_101 rfl (lv_at hl 1 rfl) ?_
      refine va_get (D := D) hx hb hts inlX12 hown hK hP 55 (jc_55 cI cL ad σ τ) rfl 5 (by decide) (hts _ kw_11_16) (fun _ h9 => h9) rfl dX12_becomes_102 ?_
      refine lv_iload_n hx hb dX12_becomes_105 rfl (lv_at hl 2 rfl) ?_
      refine jast hx hb hK hP hJ hA hS (jc_57 cI cL ad σ τ) (ja_57 cI cL ad σ τ _ _) (jin rfl (by omega) (by omega)) dX12_becomes_106 (fun σ11 H locs eσ11 hP hS => ?_)
      refine lv_aload_n hx hb dX12_becomes_107 rfl (lv_at hl 1 rfl) ?_
      refine va_get (D := D) hx hb hts inlX12 hown hK hP 55 (jc_55 cI cL ad σ11 τ) rfl 2 (by decide) (hts _ kw_7_4) (fun _ h9 => h9) rfl dX12_becomes_108 ?_
      refine lv_aload_n hx hb dX12_becomes_111 rfl (lv_at hl 1 rfl) ?_
      refine va_get (D := D) hx hb hts inlX12 hown hK hP 55 (jc_55 cI cL ad σ11 τ) rfl 5 (by decide) (hts _ kw_11_16) (fun _ h9 => h9) rfl dX12_becomes_112 ?_
      have m12 : σ11 55 5 = (σ 55 5) := (congrFun (jnp 55 eσ11 (by decide)) 5)
      refine jtopr m12 ?_
      refine lv_iload_n hx hb dX12_becomes_115 rfl (lv_at hl 0 rfl) ?_
      refine jast hx hb hK hP hJ hA hS (jc_58 cI cL ad σ11 τ) (ja_58 cI cL ad σ11 τ _ _) (jin rfl (by omega) (by omega)) dX12_becomes_116 (fun σ13 H locs eσ13 hP hS => ?_)
      refine lv_aload_n hx hb dX12_becomes_117 rfl (lv_at hl 1 rfl) ?_
      refine va_get (D := D) hx hb hts inlX12 hown hK hP 55 (jc_55 cI cL ad σ13 τ) rfl 3 (by decide) (hts _ kw_7_5) (fun _ h9 => h9) rfl dX12_becomes_118 ?_
      refine lv_aload_n hx hb dX12_becomes_121 rfl (lv_at hl 1 rfl) ?_
      refine va_get (D := D) hx hb hts inlX12 hown hK hP 55 (jc_55 cI cL ad σ13 τ) rfl 5 (by decide) (hts _ kw_11_16) (fun _ h9 => h9) rfl dX12_becomes_122 ?_
      have m14 : σ13 55 5 = (σ 55 5) := ((congrFun (jnp 55 eσ13 (by decide)) 5).trans m12)
      refine jtopr m14 ?_
      refine lv_iload_n hx hb dX12_becomes_125 rfl (lv_at hl 3 rfl) ?_
      refine jast hx hb hK hP hJ hA hS (jc_59 cI cL ad σ13 τ) (ja_59 cI cL ad σ13 τ _ _) (jin rfl (by omega) (by omega)) dX12_becomes_126 (fun σ15 H locs eσ15 hP hS => ?_)
      refine lv_aload_n hx hb dX12_becomes_127 rfl (lv_at hl 1 rfl) ?_
      refine lv_dup hx hb dX12_becomes_128 rfl ?_
      refine va_get (D := D) hx hb hts inlX12 hown hK hP 55 (jc_55 cI cL ad σ15 τ) rfl 5 (by decide) (hts _ kw_11_16) (fun _ h9 => h9) rfl dX12_becomes_129 ?_
      have m16 : σ15 55 5 = (σ 55 5) := ((congrFun (jnp 55 eσ15 (by decide)) 5).trans m14)
      refine jtopr m16 ?_
      refine lv_iconst (v := 1) hx hb dX12_becomes_132 (by decide) ?_
      have g17 := jrg (rfl : (σ 55 5).toInt = (σ 55 5).toInt)
      refine lv_iadd hx hb dX12_becomes_133 ?_
      refine lv_topi (fun x18 ex18 => ?_)
      have tx18 : x18.toInt = (σ 55 5).toInt + 1 := (jadd ex18 rfl jz_1 (by omega) (by omega)).trans (by omega)
      refine jput (ty := .int) hx hb hts inlX12 tyX12 tyX12_ok nmX12 hown hK hP hJ hA hS (jc_55 cI cL ad σ15 τ) rfl (k := 5) (by decide) (Nat.le_of_ble_eq_true rfl) (jp_55_5 cI cL ad σ15 τ x18) (hts _ kw_11_16) (fun _ h9 => h9) rfl (by decide +kernel) rfl rfl dX12_becomes_134 (fun σ19 H locs eσ19 hP hS => ?_)
      refine lv_aload_n hx hb dX12_becomes_137 rfl (lv_at hl 1 rfl) ?_
      refine lv_aload_n hx hb dX12_becomes_138 rfl (lv_at hl 1 rfl) ?_
      refine va_get (D := D) hx hb hts inlX12 hown hK hP 55 (jc_55 cI cL ad σ19 τ) rfl 5 (by decide) (hts _ kw_11_16) (fun _ h9 => h9) rfl dX12_becomes_139 ?_
      have m20 : σ19 55 5 = x18 := (jsp eσ19)
      refine jtopr m20 ?_
      refine jput (ty := .int) hx hb hts inlX12 tyX12 tyX12_ok nmX12 hown hK hP hJ hA hS (jc_55 cI cL ad σ19 τ) rfl (k := 4) (by decide) (Nat.le_of_ble_eq_true rfl) (jp_55_4 cI cL ad σ19 τ x18) (hts _ kw_11_17) (fun _ h9 => h9) rfl (by decide +kernel) rfl rfl dX12_becomes_142 (fun σ21 H locs eσ21 hP hS => ?_)
      refine lv_aload_n hx hb dX12_becomes_145 rfl (lv_at hl 1 rfl) ?_
      refine va_get (D := D) hx hb hts inlX12 hown hK hP 55 (jc_55 cI cL ad σ21 τ) rfl 0 (by decide) (hts _ kw_7_2) (fun _ h9 => h9) rfl dX12_becomes_146 ?_
      refine lv_iload_n hx hb dX12_becomes_149 rfl (lv_at hl 2 rfl) ?_
      refine lv_iload_n hx hb dX12_becomes_150 rfl (lv_at hl 3 rfl) ?_
      refine jast hx hb hK hP hJ hA hS (jc_56 cI cL ad σ21 τ) (ja_56 cI cL ad σ21 τ _ _) (jin t1 (by omega) (by omega)) dX12_becomes_151 (fun σ22 H locs eσ22 hP hS => ?_)
      refine lv_iload_n hx hb dX12_becomes_152 rfl (lv_at hl 0 rfl) ?_
      have z23 : (σ22 55 5).toInt = (σ 55 5).toInt + 1 := ((congrArg Int32.toInt (show σ22 55 5 = x18 from ((congrFun (jnp 55 eσ22 (by decide)) 5).trans ((jkp 5 eσ21 (by decide)).trans m20)))).trans tx18)
      have z24 : (σ22 55 4).toInt = (σ 55 5).toInt + 1 := ((congrArg Int32.toInt (show σ22 55 4 = x18 from ((congrFun (jnp 55 eσ22 (by decide)) 4).trans (jsp eσ21)))).trans tx18)
      have w25 : ∀ k : Nat, k < 68 → (-200) ≤ (σ22 56 k).toInt ∧ (σ22 56 k).toInt ≤ 500 := (by rw [eσ22]; exact jrr_up (jrr_fr (jnp 56 eσ21 (by decide)) (jrr_fr (jnp 56 eσ19 (by decide)) (jrr_fr (jnp 56 eσ15 (by decide)) (jrr_fr (jnp 56 eσ13 (by decide)) (jrr_fr (jnp 56 eσ11 (by decide)) w4))))) (by have h9 := t2; omega) (by have h9 := t2; omega))
      have w26 : ∀ k : Nat, k < 40 → 0 ≤ (σ22 57 k).toInt ∧ (σ22 57 k).toInt ≤ 67 := (jrr_fr (jnp 57 eσ22 (by decide)) (jrr_fr (jnp 57 eσ21 (by decide)) (jrr_fr (jnp 57 eσ19 (by decide)) (jrr_fr (jnp 57 eσ15 (by decide)) (jrr_fr (jnp 57 eσ13 (by decide)) (by rw [eσ11]; exact jrr_up w5 (by have h9 := t1; omega) (by have h9 := t1; omega)))))))
      have w27 : ∀ k : Nat, k < 40 → (-200) ≤ (σ22 58 k).toInt ∧ (σ22 58 k).toInt ≤ 500 := (jrr_fr (jnp 58 eσ22 (by decide)) (jrr_fr (jnp 58 eσ21 (by decide)) (jrr_fr (jnp 58 eσ19 (by decide)) (jrr_fr (jnp 58 eσ15 (by decide)) (by rw [eσ13]; exact jrr_up (jrr_fr (jnp 58 eσ11 (by decide)) w6) (by omega) (by omega))))))
      have w28 : ∀ k : Nat, k < 40 → (-200) ≤ (σ22 59 k).toInt ∧ (σ22 59 k).toInt ≤ 500 := (jrr_fr (jnp 59 eσ22 (by decide)) (jrr_fr (jnp 59 eσ21 (by decide)) (jrr_fr (jnp 59 eσ19 (by decide)) (by rw [eσ15]; exact jrr_up (jrr_fr (jnp 59 eσ13 (by decide)) (jrr_fr (jnp 59 eσ11 (by decide)) w7)) (by have h9 := t2; omega) (by have h9 := t2; omega)))))
      have I29 : jI101 σ22 := ⟨(by omega), (by omega), (by omega), w25, w26, w27, w28⟩
      exact hret (σ 56 a1.toNatClampNeg) σ22 τ _ _ _ _ rfl ⟨rfl, (fun i hi => ((jnp i eσ22 (imp_145 i hi)).trans ((jnp i eσ21 (imp_146 i hi)).trans ((jnp i eσ19 (imp_146 i hi)).trans ((jnp i eσ15 (imp_147 i hi)).trans ((jnp i eσ13 (imp_148 i hi)).trans (jnp i eσ11 (imp_149 i hi)))))))), (fun i hi => ((congrFun (jnp 55 eσ22 (by decide)) i).trans ((jkp i eσ21 (imp_150 i hi)).trans ((jkp i eσ19 (imp_151 i hi)).trans ((congrFun (jnp 55 eσ15 (by decide)) i).trans ((congrFun (jnp 55 eσ13 (by decide)) i).trans (congrFun (jnp 55 eσ11 (by decide)) i))))))), I29, ⟨(by rw [← jnc t1]), Or.inr ⟨(fun h => absurd (congrArg Int32.toInt h) (by have h9 := t2; omega)), (by omega), (by rw [eσ22, jup_row, eσ21, jup_n (by decide), eσ19, jup_n (by decide), eσ15, jup_n (by decide), eσ13, jup_n (by decide), eσ11, jup_n (by decide), jnc t1]), σ 57, σ 58, σ 59, a1, t1, Or.inl ⟨(by omega), (by omega), rfl, rfl, rfl⟩, ((show σ22 57 = jupd (σ 57) (σ 55 5).toNatClampNeg a1 by rw [eσ22, jup_n (by decide), eσ21, jup_n (by decide), eσ19, jup_n (by decide), eσ15, jup_n (by decide), eσ13, jup_n (by decide), eσ11, jup_row]).trans (by rw [jnc (show (σ 55 5).toInt = (σ22 55 5).toInt - 1 by omega)])), ((show σ22 58 = jupd (σ 58) (σ 55 5).toNatClampNeg (σ 56 a1.toNatClampNeg) by rw [eσ22, jup_n (by decide), eσ21, jup_n (by decide), eσ19, jup_n (by decide), eσ15, jup_n (by decide), eσ13, jup_row, eσ11, jup_n (by decide)]).trans (by rw [jnc (show (σ 55 5).toInt = (σ22 55 5).toInt - 1 by omega)])), ((show σ22 59 = jupd (σ 59) (σ 55 5).toNatClampNeg a2 by rw [eσ22, jup_n (by decide), eσ21, jup_n (by decide), eσ19, jup_n (by decide), eσ15, jup_row, eσ13, jup_n (by decide), eσ11, jup_n (by decide)]).trans (by rw [jnc (show (σ 55 5).toInt = (σ22 55 5).toInt - 1 by omega)]))⟩⟩, trivial⟩ hP hS dX12_becomes_153
    · have kc10 := jeq c10 rfl jz_40
      refine lv_iconst (v := 1) hx hb dX12_becomes_23 (by decide) ?_
      refine lv_istore (lv' := [(4, .int 1), (3, .int (σ 56 a1.toNatClampNeg)), (0, .ref (ad 55)), (1, .int a1), (2, .int a2)]) hx hb dX12_becomes_24 hl (by decide) rfl (fun ls hl => ?_)
      have lp30 : ∀ (n31 : Nat) (x32 : Int32) (σ33 : Nat → Nat → Int32) (H : Heap) (locs : List Loc) (ls : Array Slot), (-x32.toInt + 40 : Int) < n31 → 1 ≤ x32.toInt → x32.toInt ≤ 40 → (∀ i : Nat, (i < 57 ∨ 59 < i) → σ33 i = σ i) → jI101 σ33 → (jShi (x32.toInt).toNat (σ 57) (σ33 57) ∧ jShi (x32.toInt).toNat (σ 58) (σ33 58) ∧ jShi (x32.toInt).toNat (σ 59) (σ33 59)) → jH D cI cL ad σ33 τ H → va_S (jA ad) s.heap H locs → lv_has ls 5 [(4, .int x32), (3, .int (σ 56 a1.toNatClampNeg)), (0, .ref (ad 55)), (1, .int a1), (2, .int a2)] → W p l e ({ frames := 0, cells := 0, slots := 0, locals := 0 }) s m args below meth c H locs 0 0 Q (F0 m 26 ls []) := by
        intro n31
        induction n31 with
        | zero => intro x32 σ33 H locs ls h34 h35 h36; exact absurd h34 (by omega)
        | succ n31 ihlp30 =>
          intro x32 σ33 H locs ls h34 h35 h36 f37 p38 q39 hP hS hl
          obtain ⟨i40, i41, i42, w43, w44, w45, w46⟩ : (0 ≤ (σ33 55 5).toInt) ∧ ((σ33 55 5).toInt ≤ (σ33 55 4).toInt) ∧ ((σ33 55 4).toInt ≤ 40) ∧ (∀ k : Nat, k < 68 → (-200) ≤ (σ33 56 k).toInt ∧ (σ33 56 k).toInt ≤ 500) ∧ (∀ k : Nat, k < 40 → 0 ≤ (σ33 57 k).toInt ∧ (σ33 57 k).toInt ≤ 67) ∧ (∀ k : Nat, k < 40 → (-200) ≤ (σ33 58 k).toInt ∧ (σ33 58 k).toInt ≤ 500) ∧ (∀ k : Nat, k < 40 → (-200) ≤ (σ33 59 k).toInt ∧ (σ33 59 k).toInt ≤ 500) := id p38
          have z47 : (σ33 55 4).toInt = (σ 55 4).toInt := (congrArg Int32.toInt (show σ33 55 4 = (σ 55 4) from (congrFun (f37 55 (by decide)) 4)))
          have z48 : (σ33 55 5).toInt = (σ 55 5).toInt := (congrArg Int32.toInt (show σ33 55 5 = (σ 55 5) from (congrFun (f37 55 (by decide)) 5)))
          refine lv_iload hx hb dX12_becomes_26 (lv_at hl 0 rfl) ?_
          refine lv_bipush (v := 40) hx hb dX12_becomes_28 (by decide) ?_
          refine lv_icmp_ge (tgt := 87) hx hb dX12_becomes_30 (by decide) (fun c49 => ?_) (fun c49 => ?_)
          · have kc49 := jle c49 jz_40 rfl
            refine lv_aload_n hx hb dX12_becomes_87 rfl (lv_at hl 2 rfl) ?_
            refine lv_dup hx hb dX12_becomes_88 rfl ?_
            refine va_get (D := D) hx hb hts inlX12 hown hK hP 55 (jc_55 cI cL ad σ33 τ) rfl 5 (by decide) (hts _ kw_11_16) (fun _ h9 => h9) rfl dX12_becomes_89 ?_
            have m50 : σ33 55 5 = (σ 55 5) := (congrFun (f37 55 (by decide)) 5)
            refine jtopr m50 ?_
            refine lv_iconst (v := 1) hx hb dX12_becomes_92 (by decide) ?_
            have g51 := jrg (rfl : (σ 55 5).toInt = (σ 55 5).toInt)
            refine lv_isub hx hb dX12_becomes_93 ?_
            refine lv_topi (fun x52 ex52 => ?_)
            have tx52 : x52.toInt = (σ 55 5).toInt - 1 := (jsub ex52 rfl jz_1 (by omega) (by omega)).trans (by omega)
            refine jput (ty := .int) hx hb hts inlX12 tyX12 tyX12_ok nmX12 hown hK hP hJ hA hS (jc_55 cI cL ad σ33 τ) rfl (k := 5) (by decide) (Nat.le_of_ble_eq_true rfl) (jp_55_5 cI cL ad σ33 τ x52) (hts _ kw_11_16) (fun _ h9 => h9) rfl (by decide +kernel) rfl rfl dX12_becomes_94 (fun σ53 H locs eσ53 hP hS => ?_)
            refine lv_aload_n hx hb dX12_becomes_97 rfl (lv_at hl 2 rfl) ?_
            refine va_get (D := D) hx hb hts inlX12 hown hK hP 55 (jc_55 cI cL ad σ53 τ) rfl 1 (by decide) (hts _ kw_7_3) (fun _ h9 => h9) rfl dX12_becomes_98 ?_
            refine lv_aload_n hx hb dX12_becomes_101 rfl (lv_at hl 2 rfl) ?_
            refine va_get (D := D) hx hb hts inlX12 hown hK hP 55 (jc_55 cI cL ad σ53 τ) rfl 5 (by decide) (hts _ kw_11_16) (fun _ h9 => h9) rfl dX12_becomes_102 ?_
            have m54 : σ53 55 5 = x52 := (jsp eσ53)
            refine jtopr m54 ?_
            refine lv_iload_n hx hb dX12_becomes_105 rfl (lv_at hl 3 rfl) ?_
            refine jast hx hb hK hP hJ hA hS (jc_57 cI cL ad σ53 τ) (ja_57 cI cL ad σ53 τ _ _) (jin tx52 (by omega) (by omega)) dX12_becomes_106 (fun σ55 H locs eσ55 hP hS => ?_)
            refine lv_aload_n hx hb dX12_becomes_107 rfl (lv_at hl 2 rfl) ?_
            refine va_get (D := D) hx hb hts inlX12 hown hK hP 55 (jc_55 cI cL ad σ55 τ) rfl 2 (by decide) (hts _ kw_7_4) (fun _ h9 => h9) rfl dX12_becomes_108 ?_
            refine lv_aload_n hx hb dX12_becomes_111 rfl (lv_at hl 2 rfl) ?_
            refine va_get (D := D) hx hb hts inlX12 hown hK hP 55 (jc_55 cI cL ad σ55 τ) rfl 5 (by decide) (hts _ kw_11_16) (fun _ h9 => h9) rfl dX12_becomes_112 ?_
            have m56 : σ55 55 5 = x52 := ((congrFun (jnp 55 eσ55 (by decide)) 5).trans m54)
            refine jtopr m56 ?_
            refine lv_iload_n hx hb dX12_becomes_115 rfl (lv_at hl 1 rfl) ?_
            refine jast hx hb hK hP hJ hA hS (jc_58 cI cL ad σ55 τ) (ja_58 cI cL ad σ55 τ _ _) (jin tx52 (by omega) (by omega)) dX12_becomes_116 (fun σ57 H locs eσ57 hP hS => ?_)
            refine lv_aload_n hx hb dX12_becomes_117 rfl (lv_at hl 2 rfl) ?_
            refine va_get (D := D) hx hb hts inlX12 hown hK hP 55 (jc_55 cI cL ad σ57 τ) rfl 3 (by decide) (hts _ kw_7_5) (fun _ h9 => h9) rfl dX12_becomes_118 ?_
            refine lv_aload_n hx hb dX12_becomes_121 rfl (lv_at hl 2 rfl) ?_
            refine va_get (D := D) hx hb hts inlX12 hown hK hP 55 (jc_55 cI cL ad σ57 τ) rfl 5 (by decide) (hts _ kw_11_16) (fun _ h9 => h9) rfl dX12_becomes_122 ?_
            have m58 : σ57 55 5 = x52 := ((congrFun (jnp 55 eσ57 (by decide)) 5).trans m56)
            refine jtopr m58 ?_
            refine lv_iload_n hx hb dX12_becomes_125 rfl (lv_at hl 4 rfl) ?_
            refine jast hx hb hK hP hJ hA hS (jc_59 cI cL ad σ57 τ) (ja_59 cI cL ad σ57 τ _ _) (jin tx52 (by omega) (by omega)) dX12_becomes_126 (fun σ59 H locs eσ59 hP hS => ?_)
            refine lv_aload_n hx hb dX12_becomes_127 rfl (lv_at hl 2 rfl) ?_
            refine lv_dup hx hb dX12_becomes_128 rfl ?_
            refine va_get (D := D) hx hb hts inlX12 hown hK hP 55 (jc_55 cI cL ad σ59 τ) rfl 5 (by decide) (hts _ kw_11_16) (fun _ h9 => h9) rfl dX12_becomes_129 ?_
            have m60 : σ59 55 5 = x52 := ((congrFun (jnp 55 eσ59 (by decide)) 5).trans m58)
            refine jtopr m60 ?_
            refine lv_iconst (v := 1) hx hb dX12_becomes_132 (by decide) ?_
            refine lv_iadd hx hb dX12_becomes_133 ?_
            refine lv_topi (fun x61 ex61 => ?_)
            have tx61 : x61.toInt = (σ 55 5).toInt := (jadd ex61 tx52 jz_1 (by omega) (by omega)).trans (by omega)
            refine jput (ty := .int) hx hb hts inlX12 tyX12 tyX12_ok nmX12 hown hK hP hJ hA hS (jc_55 cI cL ad σ59 τ) rfl (k := 5) (by decide) (Nat.le_of_ble_eq_true rfl) (jp_55_5 cI cL ad σ59 τ x61) (hts _ kw_11_16) (fun _ h9 => h9) rfl (by decide +kernel) rfl rfl dX12_becomes_134 (fun σ62 H locs eσ62 hP hS => ?_)
            refine lv_aload_n hx hb dX12_becomes_137 rfl (lv_at hl 2 rfl) ?_
            refine lv_aload_n hx hb dX12_becomes_138 rfl (lv_at hl 2 rfl) ?_
            refine va_get (D := D) hx hb hts inlX12 hown hK hP 55 (jc_55 cI cL ad σ62 τ) rfl 5 (by decide) (hts _ kw_11_16) (fun _ h9 => h9) rfl dX12_becomes_139 ?_
            have m63 : σ62 55 5 = x61 := (jsp eσ62)
            refine jtopr m63 ?_
            refine jput (ty := .int) hx hb hts inlX12 tyX12 tyX12_ok nmX12 hown hK hP hJ hA hS (jc_55 cI cL ad σ62 τ) rfl (k := 4) (by decide) (Nat.le_of_ble_eq_true rfl) (jp_55_4 cI cL ad σ62 τ x61) (hts _ kw_11_17) (fun _ h9 => h9) rfl (by decide +kernel) rfl rfl dX12_becomes_142 (fun σ64 H locs eσ64 hP hS => ?_)
            refine lv_aload_n hx hb dX12_becomes_145 rfl (lv_at hl 2 rfl) ?_
            refine va_get (D := D) hx hb hts inlX12 hown hK hP 55 (jc_55 cI cL ad σ64 τ) rfl 0 (by decide) (hts _ kw_7_2) (fun _ h9 => h9) rfl dX12_becomes_146 ?_
            refine lv_iload_n hx hb dX12_becomes_149 rfl (lv_at hl 3 rfl) ?_
            refine lv_iload_n hx hb dX12_becomes_150 rfl (lv_at hl 4 rfl) ?_
            refine jast hx hb hK hP hJ hA hS (jc_56 cI cL ad σ64 τ) (ja_56 cI cL ad σ64 τ _ _) (jin t1 (by omega) (by omega)) dX12_becomes_151 (fun σ65 H locs eσ65 hP hS => ?_)
            refine lv_iload_n hx hb dX12_becomes_152 rfl (lv_at hl 1 rfl) ?_
            have z66 : (σ65 55 5).toInt = (σ 55 5).toInt := ((congrArg Int32.toInt (show σ65 55 5 = x61 from ((congrFun (jnp 55 eσ65 (by decide)) 5).trans ((jkp 5 eσ64 (by decide)).trans m63)))).trans tx61)
            have z67 : (σ65 55 4).toInt = (σ 55 5).toInt := ((congrArg Int32.toInt (show σ65 55 4 = x61 from ((congrFun (jnp 55 eσ65 (by decide)) 4).trans (jsp eσ64)))).trans tx61)
            have w68 : ∀ k : Nat, k < 68 → (-200) ≤ (σ65 56 k).toInt ∧ (σ65 56 k).toInt ≤ 500 := (by rw [eσ65]; exact jrr_up (jrr_fr (jnp 56 eσ64 (by decide)) (jrr_fr (jnp 56 eσ62 (by decide)) (jrr_fr (jnp 56 eσ59 (by decide)) (jrr_fr (jnp 56 eσ57 (by decide)) (jrr_fr (jnp 56 eσ55 (by decide)) (jrr_fr (jnp 56 eσ53 (by decide)) w43)))))) (by have h9 := t2; omega) (by have h9 := t2; omega))
            have w69 : ∀ k : Nat, k < 40 → 0 ≤ (σ65 57 k).toInt ∧ (σ65 57 k).toInt ≤ 67 := (jrr_fr (jnp 57 eσ65 (by decide)) (jrr_fr (jnp 57 eσ64 (by decide)) (jrr_fr (jnp 57 eσ62 (by decide)) (jrr_fr (jnp 57 eσ59 (by decide)) (jrr_fr (jnp 57 eσ57 (by decide)) (by rw [eσ55]; exact jrr_up (jrr_fr (jnp 57 eσ53 (by decide)) w44) (by have h9 := t1; omega) (by have h9 := t1; omega)))))))
            have w70 : ∀ k : Nat, k < 40 → (-200) ≤ (σ65 58 k).toInt ∧ (σ65 58 k).toInt ≤ 500 := (jrr_fr (jnp 58 eσ65 (by decide)) (jrr_fr (jnp 58 eσ64 (by decide)) (jrr_fr (jnp 58 eσ62 (by decide)) (jrr_fr (jnp 58 eσ59 (by decide)) (by rw [eσ57]; exact jrr_up (jrr_fr (jnp 58 eσ55 (by decide)) (jrr_fr (jnp 58 eσ53 (by decide)) w45)) (by omega) (by omega))))))
            have w71 : ∀ k : Nat, k < 40 → (-200) ≤ (σ65 59 k).toInt ∧ (σ65 59 k).toInt ≤ 500 := (jrr_fr (jnp 59 eσ65 (by decide)) (jrr_fr (jnp 59 eσ64 (by decide)) (jrr_fr (jnp 59 eσ62 (by decide)) (by rw [eσ59]; exact jrr_up (jrr_fr (jnp 59 eσ57 (by decide)) (jrr_fr (jnp 59 eσ55 (by decide)) (jrr_fr (jnp 59 eσ53 (by decide)) w46))) (by have h9 := t2; omega) (by have h9 := t2; omega)))))
            have I72 : jI101 σ65 := ⟨(by omega), (by omega), (by omega), w68, w69, w70, w71⟩
            exact hret (σ 56 a1.toNatClampNeg) σ65 τ _ _ _ _ rfl ⟨rfl, (fun i hi => ((jnp i eσ65 (imp_145 i hi)).trans ((jnp i eσ64 (imp_146 i hi)).trans ((jnp i eσ62 (imp_146 i hi)).trans ((jnp i eσ59 (imp_147 i hi)).trans ((jnp i eσ57 (imp_148 i hi)).trans ((jnp i eσ55 (imp_149 i hi)).trans ((jnp i eσ53 (imp_146 i hi)).trans (f37 i (imp_152 i hi)))))))))), (fun i hi => ((congrFun (jnp 55 eσ65 (by decide)) i).trans ((jkp i eσ64 (imp_150 i hi)).trans ((jkp i eσ62 (imp_151 i hi)).trans ((congrFun (jnp 55 eσ59 (by decide)) i).trans ((congrFun (jnp 55 eσ57 (by decide)) i).trans ((congrFun (jnp 55 eσ55 (by decide)) i).trans ((jkp i eσ53 (imp_151 i hi)).trans (congrFun (f37 55 (by decide)) i))))))))), I72, ⟨(by rw [← jnc t1]), Or.inr ⟨(fun h => absurd (congrArg Int32.toInt h) (by have h9 := t2; omega)), (by omega), (by rw [eσ65, jup_row, eσ64, jup_n (by decide), eσ62, jup_n (by decide), eσ59, jup_n (by decide), eσ57, jup_n (by decide), eσ55, jup_n (by decide), eσ53, jup_n (by decide), f37 56 (by decide), jnc t1]), σ33 57, σ33 58, σ33 59, a1, t1, Or.inr ⟨(by omega), (by omega), (jShi.fin q39.1 (by omega)), (jShi.fin q39.2.1 (by omega)), (jShi.fin q39.2.2 (by omega))⟩, ((show σ65 57 = jupd (σ33 57) x52.toNatClampNeg a1 by rw [eσ65, jup_n (by decide), eσ64, jup_n (by decide), eσ62, jup_n (by decide), eσ59, jup_n (by decide), eσ57, jup_n (by decide), eσ55, jup_row, eσ53, jup_n (by decide)]).trans (by rw [jnc (show x52.toInt = (σ65 55 5).toInt - 1 by have h9 := tx52; omega)])), ((show σ65 58 = jupd (σ33 58) x52.toNatClampNeg (σ 56 a1.toNatClampNeg) by rw [eσ65, jup_n (by decide), eσ64, jup_n (by decide), eσ62, jup_n (by decide), eσ59, jup_n (by decide), eσ57, jup_row, eσ55, jup_n (by decide), eσ53, jup_n (by decide)]).trans (by rw [jnc (show x52.toInt = (σ65 55 5).toInt - 1 by have h9 := tx52; omega)])), ((show σ65 59 = jupd (σ33 59) x52.toNatClampNeg a2 by rw [eσ65, jup_n (by decide), eσ64, jup_n (by decide), eσ62, jup_n (by decide), eσ59, jup_row, eσ57, jup_n (by decide), eσ55, jup_n (by decide), eσ53, jup_n (by decide)]).trans (by rw [jnc (show x52.toInt = (σ65 55 5).toInt - 1 by have h9 := tx52; omega)]))⟩⟩, trivial⟩ hP hS dX12_becomes_153
          · have kc49 := jnle c49 jz_40 rfl
            refine lv_aload_n hx hb dX12_becomes_33 rfl (lv_at hl 2 rfl) ?_
            refine va_get (D := D) hx hb hts inlX12 hown hK hP 55 (jc_55 cI cL ad σ33 τ) rfl 1 (by decide) (hts _ kw_7_3) (fun _ h9 => h9) rfl dX12_becomes_34 ?_
            refine lv_iload hx hb dX12_becomes_37 (lv_at hl 0 rfl) ?_
            refine lv_iconst (v := 1) hx hb dX12_becomes_39 (by decide) ?_
            have g73 := jrg (rfl : x32.toInt = x32.toInt)
            refine lv_isub hx hb dX12_becomes_40 ?_
            refine lv_topi (fun x74 ex74 => ?_)
            have tx74 : x74.toInt = x32.toInt - 1 := (jsub ex74 rfl jz_1 (by omega) (by omega)).trans (by omega)
            refine lv_aload_n hx hb dX12_becomes_41 rfl (lv_at hl 2 rfl) ?_
            refine va_get (D := D) hx hb hts inlX12 hown hK hP 55 (jc_55 cI cL ad σ33 τ) rfl 1 (by decide) (hts _ kw_7_3) (fun _ h9 => h9) rfl dX12_becomes_42 ?_
            refine lv_iload hx hb dX12_becomes_45 (lv_at hl 0 rfl) ?_
            refine jald hx hb hK hP (jc_57 cI cL ad σ33 τ) (jin rfl (by omega) (by omega)) dX12_becomes_47 ?_
            have g75 := w44 _ (jnat (x := x32) rfl (n := 40) (by omega) (by decide))
            refine jtopr (y := (σ33 57 x32.toNatClampNeg)) rfl ?_
            refine jast hx hb hK hP hJ hA hS (jc_57 cI cL ad σ33 τ) (ja_57 cI cL ad σ33 τ _ _) (jin tx74 (by omega) (by omega)) dX12_becomes_48 (fun σ76 H locs eσ76 hP hS => ?_)
            refine lv_aload_n hx hb dX12_becomes_49 rfl (lv_at hl 2 rfl) ?_
            refine va_get (D := D) hx hb hts inlX12 hown hK hP 55 (jc_55 cI cL ad σ76 τ) rfl 2 (by decide) (hts _ kw_7_4) (fun _ h9 => h9) rfl dX12_becomes_50 ?_
            refine lv_iload hx hb dX12_becomes_53 (lv_at hl 0 rfl) ?_
            refine lv_iconst (v := 1) hx hb dX12_becomes_55 (by decide) ?_
            refine lv_isub hx hb dX12_becomes_56 ?_
            refine lv_topi (fun x77 ex77 => ?_)
            have tx77 : x77.toInt = x32.toInt - 1 := (jsub ex77 rfl jz_1 (by omega) (by omega)).trans (by omega)
            refine lv_aload_n hx hb dX12_becomes_57 rfl (lv_at hl 2 rfl) ?_
            refine va_get (D := D) hx hb hts inlX12 hown hK hP 55 (jc_55 cI cL ad σ76 τ) rfl 2 (by decide) (hts _ kw_7_4) (fun _ h9 => h9) rfl dX12_becomes_58 ?_
            refine lv_iload hx hb dX12_becomes_61 (lv_at hl 0 rfl) ?_
            refine jald hx hb hK hP (jc_58 cI cL ad σ76 τ) (jin rfl (by omega) (by omega)) dX12_becomes_63 ?_
            have w78 : ∀ k : Nat, k < 40 → (-200) ≤ (σ76 58 k).toInt ∧ (σ76 58 k).toInt ≤ 500 := (jrr_fr (jnp 58 eσ76 (by decide)) w45)
            have g79 := w78 _ (jnat (x := x32) rfl (n := 40) (by omega) (by decide))
            refine jtopr (y := (σ33 58 x32.toNatClampNeg)) (by rw [jnp 58 eσ76 (by decide)]) ?_
            rw [jnp 58 eσ76 (by decide)] at g79
            refine jast hx hb hK hP hJ hA hS (jc_58 cI cL ad σ76 τ) (ja_58 cI cL ad σ76 τ _ _) (jin tx77 (by omega) (by omega)) dX12_becomes_64 (fun σ80 H locs eσ80 hP hS => ?_)
            refine lv_aload_n hx hb dX12_becomes_65 rfl (lv_at hl 2 rfl) ?_
            refine va_get (D := D) hx hb hts inlX12 hown hK hP 55 (jc_55 cI cL ad σ80 τ) rfl 3 (by decide) (hts _ kw_7_5) (fun _ h9 => h9) rfl dX12_becomes_66 ?_
            refine lv_iload hx hb dX12_becomes_69 (lv_at hl 0 rfl) ?_
            refine lv_iconst (v := 1) hx hb dX12_becomes_71 (by decide) ?_
            refine lv_isub hx hb dX12_becomes_72 ?_
            refine lv_topi (fun x81 ex81 => ?_)
            have tx81 : x81.toInt = x32.toInt - 1 := (jsub ex81 rfl jz_1 (by omega) (by omega)).trans (by omega)
            refine lv_aload_n hx hb dX12_becomes_73 rfl (lv_at hl 2 rfl) ?_
            refine va_get (D := D) hx hb hts inlX12 hown hK hP 55 (jc_55 cI cL ad σ80 τ) rfl 3 (by decide) (hts _ kw_7_5) (fun _ h9 => h9) rfl dX12_becomes_74 ?_
            refine lv_iload hx hb dX12_becomes_77 (lv_at hl 0 rfl) ?_
            refine jald hx hb hK hP (jc_59 cI cL ad σ80 τ) (jin rfl (by omega) (by omega)) dX12_becomes_79 ?_
            have w82 : ∀ k : Nat, k < 40 → (-200) ≤ (σ80 59 k).toInt ∧ (σ80 59 k).toInt ≤ 500 := (jrr_fr (jnp 59 eσ80 (by decide)) (jrr_fr (jnp 59 eσ76 (by decide)) w46))
            have g83 := w82 _ (jnat (x := x32) rfl (n := 40) (by omega) (by decide))
            refine jtopr (y := (σ33 59 x32.toNatClampNeg)) (by rw [jnp 59 eσ80 (by decide), jnp 59 eσ76 (by decide)]) ?_
            rw [jnp 59 eσ80 (by decide), jnp 59 eσ76 (by decide)] at g83
            refine jast hx hb hK hP hJ hA hS (jc_59 cI cL ad σ80 τ) (ja_59 cI cL ad σ80 τ _ _) (jin tx81 (by omega) (by omega)) dX12_becomes_80 (fun σ84 H locs eσ84 hP hS => ?_)
            obtain ⟨x85, ex85⟩ : ∃ y : Int32, y = x32 + 1 := ⟨_, rfl⟩
            have tx85 : x85.toInt = x32.toInt + 1 := (jadd ex85 rfl jz_1 (by omega) (by omega)).trans (by omega)
            refine lv_iinc (v := x85) (lv' := [(4, .int x85), (3, .int (σ 56 a1.toNatClampNeg)), (0, .ref (ad 55)), (1, .int a1), (2, .int a2)]) hx hb dX12_becomes_81 hl (k := 0) rfl (by rw [ex85]; rfl) (by decide) rfl (fun ls hl => ?_)
            refine lv_goto (tgt := 26) hx hb dX12_becomes_84 (by decide) ?_
            have z86 : (σ84 55 5).toInt = (σ 55 5).toInt := (congrArg Int32.toInt (show σ84 55 5 = (σ 55 5) from ((congrFun (jnp 55 eσ84 (by decide)) 5).trans ((congrFun (jnp 55 eσ80 (by decide)) 5).trans ((congrFun (jnp 55 eσ76 (by decide)) 5).trans (congrFun (f37 55 (by decide)) 5))))))
            have z87 : (σ84 55 4).toInt = (σ 55 4).toInt := (congrArg Int32.toInt (show σ84 55 4 = (σ 55 4) from ((congrFun (jnp 55 eσ84 (by decide)) 4).trans ((congrFun (jnp 55 eσ80 (by decide)) 4).trans ((congrFun (jnp 55 eσ76 (by decide)) 4).trans (congrFun (f37 55 (by decide)) 4))))))
            have w88 : ∀ k : Nat, k < 68 → (-200) ≤ (σ84 56 k).toInt ∧ (σ84 56 k).toInt ≤ 500 := (jrr_fr (jnp 56 eσ84 (by decide)) (jrr_fr (jnp 56 eσ80 (by decide)) (jrr_fr (jnp 56 eσ76 (by decide)) w43)))
            have w89 : ∀ k : Nat, k < 40 → 0 ≤ (σ84 57 k).toInt ∧ (σ84 57 k).toInt ≤ 67 := (jrr_fr (jnp 57 eσ84 (by decide)) (jrr_fr (jnp 57 eσ80 (by decide)) (by rw [eσ76]; exact jrr_up w44 (by omega) (by omega))))
            have w90 : ∀ k : Nat, k < 40 → (-200) ≤ (σ84 58 k).toInt ∧ (σ84 58 k).toInt ≤ 500 := (jrr_fr (jnp 58 eσ84 (by decide)) (by rw [eσ80]; exact jrr_up w78 (by omega) (by omega)))
            have w91 : ∀ k : Nat, k < 40 → (-200) ≤ (σ84 59 k).toInt ∧ (σ84 59 k).toInt ≤ 500 := (by rw [eσ84]; exact jrr_up w82 (by omega) (by omega))
            have I92 : jI101 σ84 := ⟨(by omega), (by omega), (by omega), w88, w89, w90, w91⟩
            exact ihlp30 x85 σ84 _ _ ls (by have h90 := tx85; omega) (by have h90 := tx85; omega) (by have h90 := tx85; omega) (fun i hi => ((jnp i eσ84 (imp_153 i hi)).trans ((jnp i eσ80 (imp_154 i hi)).trans ((jnp i eσ76 (imp_155 i hi)).trans (f37 i hi)))))   I92 ⟨(jShi.step q39.1 (by rw [eσ84, jup_n (by decide), eσ80, jup_n (by decide), eσ76, jup_row, jnc (show x74.toInt = x32.toInt - 1 by have h9 := tx74; omega), jnc (rfl : x32.toInt = x32.toInt)]) (by omega) (by have h9 := tx85; omega)), (jShi.step q39.2.1 (by rw [eσ84, jup_n (by decide), eσ80, jup_row, eσ76, jup_n (by decide), jnc (show x77.toInt = x32.toInt - 1 by have h9 := tx77; omega), jnc (rfl : x32.toInt = x32.toInt)]) (by omega) (by have h9 := tx85; omega)), (jShi.step q39.2.2 (by rw [eσ84, jup_row, eσ80, jup_n (by decide), eσ76, jup_n (by decide), jnc (show x81.toInt = x32.toInt - 1 by have h9 := tx81; omega), jnc (rfl : x32.toInt = x32.toInt)]) (by omega) (by have h9 := tx85; omega))⟩ hP hS (lv_sub hl [0, 1, 2, 3, 4] rfl)
      exact lp30 1000000 1 σ _ _ ls (by have h90 := jz_1; omega) (by have h90 := jz_1; omega) (by have h90 := jz_1; omega) (fun _ _ => rfl)  hI101 ⟨(jShi.first (by have h9 := jz_1; omega)), (jShi.first (by have h9 := jz_1; omega)), (jShi.first (by have h9 := jz_1; omega))⟩ hP hS hl
  · have kc9 := jeq c9 rfl t2
    refine lv_iload_n hx hb dX12_becomes_12 rfl (lv_at hl 0 rfl) ?_
    exact hret (σ 56 a1.toNatClampNeg) σ τ _ _ _ _ rfl ⟨rfl, (fun _ _ => rfl), (fun _ _ => rfl), hI101, ⟨(by rw [← jnc t1]), Or.inl ⟨jsame rfl t2 (by omega), rfl, rfl, rfl, rfl, rfl, rfl⟩⟩, trivial⟩ hP hS dX12_becomes_13
set_option maxHeartbeats 4000000 in
set_option maxRecDepth 100000 in
theorem c_X12_undo (l : Launch) (D : va_G) (cI cL : ClassId) (ad zz : Nat → Nat) (hJ : jD ad) (σ : Nat → Nat → Int32) (τ : Nat → Nat → Int64) (hI101 : jI101 σ) : jM l yX12_undo cX12_undo 1 (some .int) ({ frames := 0, cells := 0, slots := 0, locals := 0 }) D cI cL ad zz [.ref (ad 55)] σ τ (fun r σ' τ' => τ = τ' ∧ (∀ i : Nat, (i < 55 ∨ 56 < i) → σ' i = σ i) ∧ (∀ k : Nat, (k < 5 ∨ 5 < k) → σ' 55 k = σ 55 k) ∧ (jI101 σ') ∧ ((r = (-5) ∧ ((σ 55 5).toInt = 0) ∧ ((σ' 55 5).toInt = (σ 55 5).toInt) ∧ (σ' 56 = σ 56)) ∨ (True ∧ (1 ≤ (σ 55 5).toInt) ∧ ((σ 55 5).toInt ≤ 40) ∧ (r.toInt = (σ 55 5).toInt - 1) ∧ ((σ' 55 5).toInt = (σ 55 5).toInt - 1) ∧ (σ' 56 = jupd (σ 56) (σ 57 (r.toInt).toNat).toInt.toNat (σ 58 (r.toInt).toNat))))) := by
  refine jM.of hJ (by decide +kernel) (nt := .int) rfl (Nat.le_of_ble_eq_true rfl) ?_
  intro p e s m args below meth c Q ls hC hret hl hP
  obtain ⟨hx, hb, hr, hml, hown, hts, hK, -, hlocks, hZ⟩ := hC
  have hown : s.vm.findClass RX12 = some m.cls := hown
  have hS : va_S (jA ad) s.heap s.heap [] := va_S.rf
  have hA : ∀ q, jA ad q → jA ad q := fun _ h => h
  have hl : lv_has ls 1 [(0, .ref (ad 55))] := hl
  obtain ⟨i1, i2, i3, w4, w5, w6, w7⟩ : (0 ≤ (σ 55 5).toInt) ∧ ((σ 55 5).toInt ≤ (σ 55 4).toInt) ∧ ((σ 55 4).toInt ≤ 40) ∧ (∀ k : Nat, k < 68 → (-200) ≤ (σ 56 k).toInt ∧ (σ 56 k).toInt ≤ 500) ∧ (∀ k : Nat, k < 40 → 0 ≤ (σ 57 k).toInt ∧ (σ 57 k).toInt ≤ 67) ∧ (∀ k : Nat, k < 40 → (-200) ≤ (σ 58 k).toInt ∧ (σ 58 k).toInt ≤ 500) ∧ (∀ k : Nat, k < 40 → (-200) ≤ (σ 59 k).toInt ∧ (σ 59 k).toInt ≤ 500) := id hI101
  refine lv_aload_n hx hb dX12_undo_0 rfl (lv_at hl 0 rfl) ?_
  refine va_get (D := D) hx hb hts inlX12 hown hK hP 55 (jc_55 cI cL ad σ τ) rfl 5 (by decide) (hts _ kw_11_16) (fun _ h9 => h9) rfl dX12_undo_1 ?_
  refine lv_if_ne (tgt := 10) hx hb dX12_undo_4 (by decide) (fun c8 => ?_) (fun c8 => ?_)
  · have kc8 := jne c8 rfl jz_0
    refine lv_aload_n hx hb dX12_undo_10 rfl (lv_at hl 0 rfl) ?_
    refine lv_dup hx hb dX12_undo_11 rfl ?_
    refine va_get (D := D) hx hb hts inlX12 hown hK hP 55 (jc_55 cI cL ad σ τ) rfl 5 (by decide) (hts _ kw_11_16) (fun _ h9 => h9) rfl dX12_undo_12 ?_
    refine lv_iconst (v := 1) hx hb dX12_undo_15 (by decide) ?_
    have g9 := jrg (rfl : (σ 55 5).toInt = (σ 55 5).toInt)
    refine lv_isub hx hb dX12_undo_16 ?_
    refine lv_topi (fun x10 ex10 => ?_)
    have tx10 : x10.toInt = (σ 55 5).toInt - 1 := (jsub ex10 rfl jz_1 (by omega) (by omega)).trans (by omega)
    refine jput (ty := .int) hx hb hts inlX12 tyX12 tyX12_ok nmX12 hown hK hP hJ hA hS (jc_55 cI cL ad σ τ) rfl (k := 5) (by decide) (Nat.le_of_ble_eq_true rfl) (jp_55_5 cI cL ad σ τ x10) (hts _ kw_11_16) (fun _ h9 => h9) rfl (by decide +kernel) rfl rfl dX12_undo_17 (fun σ11 H locs eσ11 hP hS => ?_)
    refine lv_aload_n hx hb dX12_undo_20 rfl (lv_at hl 0 rfl) ?_
    refine va_get (D := D) hx hb hts inlX12 hown hK hP 55 (jc_55 cI cL ad σ11 τ) rfl 0 (by decide) (hts _ kw_7_2) (fun _ h9 => h9) rfl dX12_undo_21 ?_
    refine lv_aload_n hx hb dX12_undo_24 rfl (lv_at hl 0 rfl) ?_
    refine va_get (D := D) hx hb hts inlX12 hown hK hP 55 (jc_55 cI cL ad σ11 τ) rfl 1 (by decide) (hts _ kw_7_3) (fun _ h9 => h9) rfl dX12_undo_25 ?_
    refine lv_aload_n hx hb dX12_undo_28 rfl (lv_at hl 0 rfl) ?_
    refine va_get (D := D) hx hb hts inlX12 hown hK hP 55 (jc_55 cI cL ad σ11 τ) rfl 5 (by decide) (hts _ kw_11_16) (fun _ h9 => h9) rfl dX12_undo_29 ?_
    have m12 : σ11 55 5 = x10 := (jsp eσ11)
    refine jtopr m12 ?_
    refine jald hx hb hK hP (jc_57 cI cL ad σ11 τ) (jin tx10 (by omega) (by omega)) dX12_undo_32 ?_
    have w13 : ∀ k : Nat, k < 40 → 0 ≤ (σ11 57 k).toInt ∧ (σ11 57 k).toInt ≤ 67 := (jrr_fr (jnp 57 eσ11 (by decide)) w5)
    have g14 := w13 _ (jnat (x := x10) tx10 (n := 40) (by omega) (by decide))
    refine jtopr (y := (σ 57 x10.toNatClampNeg)) (by rw [jnp 57 eσ11 (by decide)]) ?_
    rw [jnp 57 eσ11 (by decide)] at g14
    refine lv_aload_n hx hb dX12_undo_33 rfl (lv_at hl 0 rfl) ?_
    refine va_get (D := D) hx hb hts inlX12 hown hK hP 55 (jc_55 cI cL ad σ11 τ) rfl 2 (by decide) (hts _ kw_7_4) (fun _ h9 => h9) rfl dX12_undo_34 ?_
    refine lv_aload_n hx hb dX12_undo_37 rfl (lv_at hl 0 rfl) ?_
    refine va_get (D := D) hx hb hts inlX12 hown hK hP 55 (jc_55 cI cL ad σ11 τ) rfl 5 (by decide) (hts _ kw_11_16) (fun _ h9 => h9) rfl dX12_undo_38 ?_
    refine jtopr m12 ?_
    refine jald hx hb hK hP (jc_58 cI cL ad σ11 τ) (jin tx10 (by omega) (by omega)) dX12_undo_41 ?_
    have w15 : ∀ k : Nat, k < 40 → (-200) ≤ (σ11 58 k).toInt ∧ (σ11 58 k).toInt ≤ 500 := (jrr_fr (jnp 58 eσ11 (by decide)) w6)
    have g16 := w15 _ (jnat (x := x10) tx10 (n := 40) (by omega) (by decide))
    refine jtopr (y := (σ 58 x10.toNatClampNeg)) (by rw [jnp 58 eσ11 (by decide)]) ?_
    rw [jnp 58 eσ11 (by decide)] at g16
    refine jast hx hb hK hP hJ hA hS (jc_56 cI cL ad σ11 τ) (ja_56 cI cL ad σ11 τ _ _) (jin rfl (by omega) (by omega)) dX12_undo_42 (fun σ17 H locs eσ17 hP hS => ?_)
    refine lv_aload_n hx hb dX12_undo_43 rfl (lv_at hl 0 rfl) ?_
    refine va_get (D := D) hx hb hts inlX12 hown hK hP 55 (jc_55 cI cL ad σ17 τ) rfl 5 (by decide) (hts _ kw_11_16) (fun _ h9 => h9) rfl dX12_undo_44 ?_
    have m18 : σ17 55 5 = x10 := ((congrFun (jnp 55 eσ17 (by decide)) 5).trans m12)
    refine jtopr m18 ?_
    have z19 : (σ17 55 5).toInt = (σ 55 5).toInt - 1 := ((congrArg Int32.toInt (show σ17 55 5 = x10 from m18)).trans tx10)
    have z20 : (σ17 55 4).toInt = (σ 55 4).toInt := (congrArg Int32.toInt (show σ17 55 4 = (σ 55 4) from ((congrFun (jnp 55 eσ17 (by decide)) 4).trans (jkp 4 eσ11 (by decide)))))
    have w21 : ∀ k : Nat, k < 68 → (-200) ≤ (σ17 56 k).toInt ∧ (σ17 56 k).toInt ≤ 500 := (by rw [eσ17]; exact jrr_up (jrr_fr (jnp 56 eσ11 (by decide)) w4) (by omega) (by omega))
    have w22 : ∀ k : Nat, k < 40 → 0 ≤ (σ17 57 k).toInt ∧ (σ17 57 k).toInt ≤ 67 := (jrr_fr (jnp 57 eσ17 (by decide)) w13)
    have w23 : ∀ k : Nat, k < 40 → (-200) ≤ (σ17 58 k).toInt ∧ (σ17 58 k).toInt ≤ 500 := (jrr_fr (jnp 58 eσ17 (by decide)) w15)
    have w24 : ∀ k : Nat, k < 40 → (-200) ≤ (σ17 59 k).toInt ∧ (σ17 59 k).toInt ≤ 500 := (jrr_fr (jnp 59 eσ17 (by decide)) (jrr_fr (jnp 59 eσ11 (by decide)) w7))
    have I25 : jI101 σ17 := ⟨(by omega), (by omega), (by omega), w21, w22, w23, w24⟩
    exact hret x10 σ17 τ _ _ _ _ rfl ⟨rfl, (fun i hi => ((jnp i eσ17 (imp_156 i hi)).trans (jnp i eσ11 (imp_157 i hi)))), (fun i hi => ((congrFun (jnp 55 eσ17 (by decide)) i).trans (jkp i eσ11 (imp_158 i hi)))), I25, Or.inr (⟨trivial, (by have h9 := tx10; omega), (by have h9 := tx10; omega), (by have h9 := tx10; omega), (by have h9 := tx10; omega), (by rw [eσ17, jup_row, eσ11, jup_n (by decide), jnc (rfl : (σ 57 x10.toNatClampNeg).toInt = (σ 57 x10.toNatClampNeg).toInt), jnc (show x10.toInt = x10.toInt by have h9 := tx10; omega)])⟩)⟩ hP hS dX12_undo_47
  · have kc8 := jeq c8 rfl jz_0
    refine lv_bipush (v := (-5)) hx hb dX12_undo_7 (by decide) ?_
    exact hret (-5) σ τ _ _ _ _ rfl ⟨rfl, (fun _ _ => rfl), (fun _ _ => rfl), hI101, Or.inl ⟨rfl, (by have h9 := jz_m5; omega), (by have h9 := jz_m5; omega), rfl⟩⟩ hP hS dX12_undo_9
set_option maxHeartbeats 4000000 in
set_option maxRecDepth 100000 in
theorem c_X12_redo (l : Launch) (D : va_G) (cI cL : ClassId) (ad zz : Nat → Nat) (hJ : jD ad) (σ : Nat → Nat → Int32) (τ : Nat → Nat → Int64) (hI101 : jI101 σ) : jM l yX12_redo cX12_redo 1 (some .int) ({ frames := 0, cells := 0, slots := 0, locals := 0 }) D cI cL ad zz [.ref (ad 55)] σ τ (fun r σ' τ' => τ = τ' ∧ (∀ i : Nat, (i < 55 ∨ 56 < i) → σ' i = σ i) ∧ (∀ k : Nat, (k < 5 ∨ 5 < k) → σ' 55 k = σ 55 k) ∧ (jI101 σ') ∧ ((r = (-5) ∧ ((σ 55 4).toInt - (σ 55 5).toInt = 0) ∧ ((σ' 55 5).toInt = (σ 55 5).toInt) ∧ (σ' 56 = σ 56)) ∨ (True ∧ (1 ≤ (σ 55 4).toInt - (σ 55 5).toInt) ∧ ((σ 55 5).toInt < 40) ∧ (r.toInt = (σ 55 4).toInt - (σ 55 5).toInt - 1) ∧ ((σ' 55 5).toInt = (σ 55 5).toInt + 1) ∧ (σ' 56 = jupd (σ 56) (σ 57 ((σ 55 5).toInt).toNat).toInt.toNat (σ 59 ((σ 55 5).toInt).toNat))))) := by
  refine jM.of hJ (by decide +kernel) (nt := .int) rfl (Nat.le_of_ble_eq_true rfl) ?_
  intro p e s m args below meth c Q ls hC hret hl hP
  obtain ⟨hx, hb, hr, hml, hown, hts, hK, -, hlocks, hZ⟩ := hC
  have hown : s.vm.findClass RX12 = some m.cls := hown
  have hS : va_S (jA ad) s.heap s.heap [] := va_S.rf
  have hA : ∀ q, jA ad q → jA ad q := fun _ h => h
  have hl : lv_has ls 1 [(0, .ref (ad 55))] := hl
  obtain ⟨i1, i2, i3, w4, w5, w6, w7⟩ : (0 ≤ (σ 55 5).toInt) ∧ ((σ 55 5).toInt ≤ (σ 55 4).toInt) ∧ ((σ 55 4).toInt ≤ 40) ∧ (∀ k : Nat, k < 68 → (-200) ≤ (σ 56 k).toInt ∧ (σ 56 k).toInt ≤ 500) ∧ (∀ k : Nat, k < 40 → 0 ≤ (σ 57 k).toInt ∧ (σ 57 k).toInt ≤ 67) ∧ (∀ k : Nat, k < 40 → (-200) ≤ (σ 58 k).toInt ∧ (σ 58 k).toInt ≤ 500) ∧ (∀ k : Nat, k < 40 → (-200) ≤ (σ 59 k).toInt ∧ (σ 59 k).toInt ≤ 500) := id hI101
  refine lv_aload_n hx hb dX12_redo_0 rfl (lv_at hl 0 rfl) ?_
  refine va_get (D := D) hx hb hts inlX12 hown hK hP 55 (jc_55 cI cL ad σ τ) rfl 5 (by decide) (hts _ kw_11_16) (fun _ h9 => h9) rfl dX12_redo_1 ?_
  refine lv_aload_n hx hb dX12_redo_4 rfl (lv_at hl 0 rfl) ?_
  refine va_get (D := D) hx hb hts inlX12 hown hK hP 55 (jc_55 cI cL ad σ τ) rfl 4 (by decide) (hts _ kw_11_17) (fun _ h9 => h9) rfl dX12_redo_5 ?_
  refine lv_icmp_ne (tgt := 14) hx hb dX12_redo_8 (by decide) (fun c8 => ?_) (fun c8 => ?_)
  · have kc8 := jne c8 rfl rfl
    refine lv_aload_n hx hb dX12_redo_14 rfl (lv_at hl 0 rfl) ?_
    refine va_get (D := D) hx hb hts inlX12 hown hK hP 55 (jc_55 cI cL ad σ τ) rfl 0 (by decide) (hts _ kw_7_2) (fun _ h9 => h9) rfl dX12_redo_15 ?_
    refine lv_aload_n hx hb dX12_redo_18 rfl (lv_at hl 0 rfl) ?_
    refine va_get (D := D) hx hb hts inlX12 hown hK hP 55 (jc_55 cI cL ad σ τ) rfl 1 (by decide) (hts _ kw_7_3) (fun _ h9 => h9) rfl dX12_redo_19 ?_
    refine lv_aload_n hx hb dX12_redo_22 rfl (lv_at hl 0 rfl) ?_
    refine va_get (D := D) hx hb hts inlX12 hown hK hP 55 (jc_55 cI cL ad σ τ) rfl 5 (by decide) (hts _ kw_11_16) (fun _ h9 => h9) rfl dX12_redo_23 ?_
    refine jald hx hb hK hP (jc_57 cI cL ad σ τ) (jin rfl (by omega) (by omega)) dX12_redo_26 ?_
    have g9 := w5 _ (jnat (x := (σ 55 5)) rfl (n := 40) (by omega) (by decide))
    refine jtopr (y := (σ 57 (σ 55 5).toNatClampNeg)) rfl ?_
    refine lv_aload_n hx hb dX12_redo_27 rfl (lv_at hl 0 rfl) ?_
    refine va_get (D := D) hx hb hts inlX12 hown hK hP 55 (jc_55 cI cL ad σ τ) rfl 3 (by decide) (hts _ kw_7_5) (fun _ h9 => h9) rfl dX12_redo_28 ?_
    refine lv_aload_n hx hb dX12_redo_31 rfl (lv_at hl 0 rfl) ?_
    refine va_get (D := D) hx hb hts inlX12 hown hK hP 55 (jc_55 cI cL ad σ τ) rfl 5 (by decide) (hts _ kw_11_16) (fun _ h9 => h9) rfl dX12_redo_32 ?_
    refine jald hx hb hK hP (jc_59 cI cL ad σ τ) (jin rfl (by omega) (by omega)) dX12_redo_35 ?_
    have g10 := w7 _ (jnat (x := (σ 55 5)) rfl (n := 40) (by omega) (by decide))
    refine jtopr (y := (σ 59 (σ 55 5).toNatClampNeg)) rfl ?_
    refine jast hx hb hK hP hJ hA hS (jc_56 cI cL ad σ τ) (ja_56 cI cL ad σ τ _ _) (jin rfl (by omega) (by omega)) dX12_redo_36 (fun σ11 H locs eσ11 hP hS => ?_)
    refine lv_aload_n hx hb dX12_redo_37 rfl (lv_at hl 0 rfl) ?_
    refine lv_dup hx hb dX12_redo_38 rfl ?_
    refine va_get (D := D) hx hb hts inlX12 hown hK hP 55 (jc_55 cI cL ad σ11 τ) rfl 5 (by decide) (hts _ kw_11_16) (fun _ h9 => h9) rfl dX12_redo_39 ?_
    have m12 : σ11 55 5 = (σ 55 5) := (congrFun (jnp 55 eσ11 (by decide)) 5)
    refine jtopr m12 ?_
    refine lv_iconst (v := 1) hx hb dX12_redo_42 (by decide) ?_
    have g13 := jrg (rfl : (σ 55 5).toInt = (σ 55 5).toInt)
    refine lv_iadd hx hb dX12_redo_43 ?_
    refine lv_topi (fun x14 ex14 => ?_)
    have tx14 : x14.toInt = (σ 55 5).toInt + 1 := (jadd ex14 rfl jz_1 (by omega) (by omega)).trans (by omega)
    refine jput (ty := .int) hx hb hts inlX12 tyX12 tyX12_ok nmX12 hown hK hP hJ hA hS (jc_55 cI cL ad σ11 τ) rfl (k := 5) (by decide) (Nat.le_of_ble_eq_true rfl) (jp_55_5 cI cL ad σ11 τ x14) (hts _ kw_11_16) (fun _ h9 => h9) rfl (by decide +kernel) rfl rfl dX12_redo_44 (fun σ15 H locs eσ15 hP hS => ?_)
    refine lv_aload_n hx hb dX12_redo_47 rfl (lv_at hl 0 rfl) ?_
    refine va_get (D := D) hx hb hts inlX12 hown hK hP 55 (jc_55 cI cL ad σ15 τ) rfl 4 (by decide) (hts _ kw_11_17) (fun _ h9 => h9) rfl dX12_redo_48 ?_
    have m16 : σ15 55 4 = (σ 55 4) := ((jkp 4 eσ15 (by decide)).trans (congrFun (jnp 55 eσ11 (by decide)) 4))
    refine jtopr m16 ?_
    refine lv_aload_n hx hb dX12_redo_51 rfl (lv_at hl 0 rfl) ?_
    refine va_get (D := D) hx hb hts inlX12 hown hK hP 55 (jc_55 cI cL ad σ15 τ) rfl 5 (by decide) (hts _ kw_11_16) (fun _ h9 => h9) rfl dX12_redo_52 ?_
    have m17 : σ15 55 5 = x14 := (jsp eσ15)
    refine jtopr m17 ?_
    have g18 := jrg (rfl : (σ 55 4).toInt = (σ 55 4).toInt)
    refine lv_isub hx hb dX12_redo_55 ?_
    refine lv_topi (fun x19 ex19 => ?_)
    have tx19 : x19.toInt = (σ 55 4).toInt - (σ 55 5).toInt - 1 := (jsub ex19 rfl tx14 (by omega) (by omega)).trans (by omega)
    have z20 : (σ15 55 5).toInt = (σ 55 5).toInt + 1 := ((congrArg Int32.toInt (show σ15 55 5 = x14 from m17)).trans tx14)
    have z21 : (σ15 55 4).toInt = (σ 55 4).toInt := (congrArg Int32.toInt (show σ15 55 4 = (σ 55 4) from m16))
    have w22 : ∀ k : Nat, k < 68 → (-200) ≤ (σ15 56 k).toInt ∧ (σ15 56 k).toInt ≤ 500 := (jrr_fr (jnp 56 eσ15 (by decide)) (by rw [eσ11]; exact jrr_up w4 (by omega) (by omega)))
    have w23 : ∀ k : Nat, k < 40 → 0 ≤ (σ15 57 k).toInt ∧ (σ15 57 k).toInt ≤ 67 := (jrr_fr (jnp 57 eσ15 (by decide)) (jrr_fr (jnp 57 eσ11 (by decide)) w5))
    have w24 : ∀ k : Nat, k < 40 → (-200) ≤ (σ15 58 k).toInt ∧ (σ15 58 k).toInt ≤ 500 := (jrr_fr (jnp 58 eσ15 (by decide)) (jrr_fr (jnp 58 eσ11 (by decide)) w6))
    have w25 : ∀ k : Nat, k < 40 → (-200) ≤ (σ15 59 k).toInt ∧ (σ15 59 k).toInt ≤ 500 := (jrr_fr (jnp 59 eσ15 (by decide)) (jrr_fr (jnp 59 eσ11 (by decide)) w7))
    have I26 : jI101 σ15 := ⟨(by omega), (by omega), (by omega), w22, w23, w24, w25⟩
    exact hret x19 σ15 τ _ _ _ _ rfl ⟨rfl, (fun i hi => ((jnp i eσ15 (imp_157 i hi)).trans (jnp i eσ11 (imp_156 i hi)))), (fun i hi => ((jkp i eσ15 (imp_158 i hi)).trans (congrFun (jnp 55 eσ11 (by decide)) i))), I26, Or.inr (⟨trivial, (by have h9 := tx19; omega), (by have h9 := tx19; omega), (by have h9 := tx19; omega), (by have h9 := tx19; omega), (by rw [eσ15, jup_n (by decide), eσ11, jup_row, jnc (rfl : (σ 57 (σ 55 5).toNatClampNeg).toInt = (σ 57 (σ 55 5).toNatClampNeg).toInt), jnc (show (σ 55 5).toInt = (σ 55 5).toInt by have h9 := tx19; omega)])⟩)⟩ hP hS dX12_redo_56
  · have kc8 := jeq c8 rfl rfl
    refine lv_bipush (v := (-5)) hx hb dX12_redo_11 (by decide) ?_
    exact hret (-5) σ τ _ _ _ _ rfl ⟨rfl, (fun _ _ => rfl), (fun _ _ => rfl), hI101, Or.inl ⟨rfl, (by have h9 := jz_m5; omega), (by have h9 := jz_m5; omega), rfl⟩⟩ hP hS dX12_redo_13
set_option maxHeartbeats 4000000 in
set_option maxRecDepth 100000 in
theorem c_X12_isBowler (l : Launch) (D : va_G) (cI cL : ClassId) (ad zz : Nat → Nat) (hJ : jD ad) (σ : Nat → Nat → Int32) (τ : Nat → Nat → Int64) (a1 : Int32) (A1 : Int) (t1 : a1.toInt = A1) (hI102 : jI102 σ) : jM l yX12_isBowler cX12_isBowler 2 (some .boolean) ({ frames := 1, cells := 0, slots := 0, locals := 25 }) D cI cL ad zz [.ref (ad 55), .int a1] σ τ (fun r σ' τ' => (σ = σ' ∧ τ = τ') ∧ ((r = 1 ∧ (0 ≤ A1 ∧ A1 < (σ 55 6).toInt)) ∨ (r = 0 ∧ ((A1 < 0) ∨ ((σ 55 6).toInt ≤ A1))))) := by
  refine jM.of hJ (by decide +kernel) (nt := .boolean) rfl (Nat.le_of_ble_eq_true rfl) ?_
  intro p e s m args below meth c Q ls hC hret hl hP
  obtain ⟨hx, hb, hr, hml, hown, hts, hK, -, hlocks, hZ⟩ := hC
  have hown : s.vm.findClass RX12 = some m.cls := hown
  have hS : va_S (jA ad) s.heap s.heap [] := va_S.rf
  have hA : ∀ q, jA ad q → jA ad q := fun _ h => h
  have hl : lv_has ls 2 [(0, .ref (ad 55)), (1, .int a1)] := hl
  have g1 := jrg t1
  obtain ⟨i1, w2, w3⟩ : (0 ≤ (σ 55 6).toInt ∧ (σ 55 6).toInt ≤ 4) ∧ (∀ k : Nat, k < 4 → 0 ≤ (σ 60 k).toInt ∧ (σ 60 k).toInt ≤ 50) ∧ (∀ k : Nat, k < 4 → 0 ≤ (σ 61 k).toInt ∧ (σ 61 k).toInt ≤ 20) := id hI102
  refine lv_iload_n hx hb dX12_isBowler_0 rfl (lv_at hl 1 rfl) ?_
  refine lv_i2l (v := a1.toInt64) hx hb dX12_isBowler_1 rfl ?_
  refine lv_lconst (v := 0) hx hb dX12_isBowler_2 (by decide) ?_
  refine lv_aload_n hx hb dX12_isBowler_3 rfl (lv_at hl 0 rfl) ?_
  refine va_get (D := D) hx hb hts inlX12 hown hK hP 55 (jc_55 cI cL ad σ τ) rfl 6 (by decide) (hts _ kw_9_13) (fun _ h9 => h9) rfl dX12_isBowler_4 ?_
  refine lv_iconst (v := 1) hx hb dX12_isBowler_7 (by decide) ?_
  have g4 := jrg (rfl : (σ 55 6).toInt = (σ 55 6).toInt)
  refine lv_isub hx hb dX12_isBowler_8 ?_
  refine lv_topi (fun x5 ex5 => ?_)
  have tx5 : x5.toInt = (σ 55 6).toInt - 1 := (jsub ex5 rfl jz_1 (by omega) (by omega)).trans (by omega)
  refine lv_i2l (v := x5.toInt64) hx hb dX12_isBowler_9 rfl ?_
  refine jcallS (As := [.long a1.toInt64, .long 0, .long x5.toInt64]) (rest := []) ⟨hx, hb, hml, hown, hts⟩ hK hP hA hS hZ (c_X12_within l D cI cL ad zz hJ σ τ a1.toInt64 (A1) (jtoL t1) 0 (0) jzl_0 x5.toInt64 ((σ 55 6).toInt - 1) (jtoL tx5)) cw_RX12_136 ⟨Nat.le_of_ble_eq_true rfl, Nat.le_of_ble_eq_true rfl⟩ rfl rfl rfl hl.1 rfl (Nat.le_of_ble_eq_true rfl) dX12_isBowler_10 ⟨Nat.zero_le _, Nat.zero_le _⟩ (fun r7 σ6 τ6 H locs h6 hP hS => ?_)
  obtain ⟨⟨rfl, rfl⟩, h6⟩ := h6
  rcases h6 with h8 | h9
  · obtain ⟨q11, k10⟩ := h8
    have q11 := q11.symm
    subst q11
    exact hret 1 σ τ _ _ _ _ rfl ⟨⟨rfl, rfl⟩, Or.inl ⟨rfl, (by have h9 := jz_1; omega)⟩⟩ hP hS dX12_isBowler_13
  · obtain ⟨q13, k12⟩ := h9
    have q13 := q13.symm
    subst q13
    exact hret 0 σ τ _ _ _ _ rfl ⟨⟨rfl, rfl⟩, Or.inr (⟨rfl, (by have h9 := jz_0; omega)⟩)⟩ hP hS dX12_isBowler_13
set_option maxHeartbeats 4000000 in
set_option maxRecDepth 100000 in
theorem c_X12_bowler (l : Launch) (D : va_G) (cI cL : ClassId) (ad zz : Nat → Nat) (hJ : jD ad) (σ : Nat → Nat → Int32) (τ : Nat → Nat → Int64) (a1 : Int32) (A1 : Int) (t1 : a1.toInt = A1) (a2 : Int32) (A2 : Int) (t2 : a2.toInt = A2) (a3 : Int32) (A3 : Int) (t3 : a3.toInt = A3) (hI101 : jI101 σ) (hI102 : jI102 σ) : jM l yX12_bowler cX12_bowler 4 (some .int) ({ frames := 1, cells := 0, slots := 0, locals := 25 }) D cI cL ad zz [.ref (ad 55), .int a1, .int a2, .int a3] σ τ (fun r σ' τ' => τ = τ' ∧ (∀ i : Nat, (i < 55 ∨ 56 < i) ∧ (i < 60 ∨ 61 < i) → σ' i = σ i) ∧ (∀ k : Nat, (k < 6 ∨ 6 < k) → σ' 55 k = σ 55 k) ∧ (jI101 σ') ∧ (jI102 σ') ∧ ((r = (-1) ∧ ((A1 < 0) ∨ (8 < A1) ∨ (A2 < 0) ∨ (50 < A2) ∨ (A3 < 0) ∨ (20 < A3)) ∧ ((σ' 55 6).toInt = (σ 55 6).toInt) ∧ (σ' 56 = σ 56)) ∨ (r = (-3) ∧ (0 ≤ A1 ∧ A1 ≤ 8) ∧ (0 ≤ A2 ∧ A2 ≤ 50) ∧ (0 ≤ A3 ∧ A3 ≤ 20) ∧ ((σ 55 6).toInt = 4) ∧ ((σ' 55 6).toInt = 4) ∧ (σ' 56 = σ 56)) ∨ (True ∧ (0 ≤ A1 ∧ A1 ≤ 8) ∧ (0 ≤ A2 ∧ A2 ≤ 50) ∧ (0 ≤ A3 ∧ A3 ≤ 20) ∧ ((σ 55 6).toInt < 4) ∧ (r.toInt = (σ 55 6).toInt) ∧ ((σ' 55 6).toInt = (σ 55 6).toInt + 1) ∧ (σ' 56 = jupd (σ 56) (32 + (σ 55 6).toInt).toNat a1)))) := by
  refine jM.of hJ (by decide +kernel) (nt := .int) rfl (Nat.le_of_ble_eq_true rfl) ?_
  intro p e s m args below meth c Q ls hC hret hl hP
  obtain ⟨hx, hb, hr, hml, hown, hts, hK, -, hlocks, hZ⟩ := hC
  have hown : s.vm.findClass RX12 = some m.cls := hown
  have hS : va_S (jA ad) s.heap s.heap [] := va_S.rf
  have hA : ∀ q, jA ad q → jA ad q := fun _ h => h
  have hl : lv_has ls 4 [(0, .ref (ad 55)), (1, .int a1), (2, .int a2), (3, .int a3)] := hl
  have g1 := jrg t1
  have g2 := jrg t2
  have g3 := jrg t3
  obtain ⟨i1, i2, i3, w4, w5, w6, w7⟩ : (0 ≤ (σ 55 5).toInt) ∧ ((σ 55 5).toInt ≤ (σ 55 4).toInt) ∧ ((σ 55 4).toInt ≤ 40) ∧ (∀ k : Nat, k < 68 → (-200) ≤ (σ 56 k).toInt ∧ (σ 56 k).toInt ≤ 500) ∧ (∀ k : Nat, k < 40 → 0 ≤ (σ 57 k).toInt ∧ (σ 57 k).toInt ≤ 67) ∧ (∀ k : Nat, k < 40 → (-200) ≤ (σ 58 k).toInt ∧ (σ 58 k).toInt ≤ 500) ∧ (∀ k : Nat, k < 40 → (-200) ≤ (σ 59 k).toInt ∧ (σ 59 k).toInt ≤ 500) := id hI101
  obtain ⟨i8, w9, w10⟩ : (0 ≤ (σ 55 6).toInt ∧ (σ 55 6).toInt ≤ 4) ∧ (∀ k : Nat, k < 4 → 0 ≤ (σ 60 k).toInt ∧ (σ 60 k).toInt ≤ 50) ∧ (∀ k : Nat, k < 4 → 0 ≤ (σ 61 k).toInt ∧ (σ 61 k).toInt ≤ 20) := id hI102
  refine lv_iload_n hx hb dX12_bowler_0 rfl (lv_at hl 1 rfl) ?_
  refine lv_i2l (v := a1.toInt64) hx hb dX12_bowler_1 rfl ?_
  refine lv_lconst (v := 0) hx hb dX12_bowler_2 (by decide) ?_
  refine lv_ldc2 (v := 8) hx hb hown (hts _ kw_9_10) dX12_bowler_3 ?_
  refine jcallS (As := [.long a1.toInt64, .long 0, .long 8]) (rest := []) ⟨hx, hb, hml, hown, hts⟩ hK hP hA hS hZ (c_X12_within l D cI cL ad zz hJ σ τ a1.toInt64 (A1) (jtoL t1) 0 (0) jzl_0 8 (8) jzl_8) cw_RX12_136 ⟨Nat.le_of_ble_eq_true rfl, Nat.le_of_ble_eq_true rfl⟩ rfl rfl rfl hl.1 rfl (Nat.le_of_ble_eq_true rfl) dX12_bowler_6 ⟨Nat.zero_le _, Nat.zero_le _⟩ (fun r12 σ11 τ11 H locs h11 hP hS => ?_)
  obtain ⟨⟨rfl, rfl⟩, h11⟩ := h11
  rcases h11 with h13 | h14
  · obtain ⟨q16, k15⟩ := h13
    have q16 := q16.symm
    subst q16
    refine lv_if_eq (tgt := 36) hx hb dX12_bowler_9 (by decide) (fun c => absurd c (by decide)) (fun _ => ?_)
    refine lv_iload_n hx hb dX12_bowler_12 rfl (lv_at hl 2 rfl) ?_
    refine lv_i2l (v := a2.toInt64) hx hb dX12_bowler_13 rfl ?_
    refine lv_lconst (v := 0) hx hb dX12_bowler_14 (by decide) ?_
    refine lv_ldc2 (v := 50) hx hb hown (hts _ kw_9_11) dX12_bowler_15 ?_
    refine jcallS (As := [.long a2.toInt64, .long 0, .long 50]) (rest := []) ⟨hx, hb, hml, hown, hts⟩ hK hP hA hS hZ (c_X12_within l D cI cL ad zz hJ σ τ a2.toInt64 (A2) (jtoL t2) 0 (0) jzl_0 50 (50) jzl_50) cw_RX12_136 ⟨Nat.le_of_ble_eq_true rfl, Nat.le_of_ble_eq_true rfl⟩ rfl rfl rfl hl.1 rfl (Nat.le_of_ble_eq_true rfl) dX12_bowler_18 ⟨Nat.zero_le _, Nat.zero_le _⟩ (fun r18 σ17 τ17 H locs h17 hP hS => ?_)
    obtain ⟨⟨rfl, rfl⟩, h17⟩ := h17
    rcases h17 with h19 | h20
    · obtain ⟨q22, k21⟩ := h19
      have q22 := q22.symm
      subst q22
      refine lv_if_eq (tgt := 36) hx hb dX12_bowler_21 (by decide) (fun c => absurd c (by decide)) (fun _ => ?_)
      refine lv_iload_n hx hb dX12_bowler_24 rfl (lv_at hl 3 rfl) ?_
      refine lv_i2l (v := a3.toInt64) hx hb dX12_bowler_25 rfl ?_
      refine lv_lconst (v := 0) hx hb dX12_bowler_26 (by decide) ?_
      refine lv_ldc2 (v := 20) hx hb hown (hts _ kw_9_12) dX12_bowler_27 ?_
      refine jcallS (As := [.long a3.toInt64, .long 0, .long 20]) (rest := []) ⟨hx, hb, hml, hown, hts⟩ hK hP hA hS hZ (c_X12_within l D cI cL ad zz hJ σ τ a3.toInt64 (A3) (jtoL t3) 0 (0) jzl_0 20 (20) jzl_20) cw_RX12_136 ⟨Nat.le_of_ble_eq_true rfl, Nat.le_of_ble_eq_true rfl⟩ rfl rfl rfl hl.1 rfl (Nat.le_of_ble_eq_true rfl) dX12_bowler_30 ⟨Nat.zero_le _, Nat.zero_le _⟩ (fun r24 σ23 τ23 H locs h23 hP hS => ?_)
      obtain ⟨⟨rfl, rfl⟩, h23⟩ := h23
      rcases h23 with h25 | h26
      · obtain ⟨q28, k27⟩ := h25
        have q28 := q28.symm
        subst q28
        refine lv_if_ne (tgt := 38) hx hb dX12_bowler_33 (by decide) (fun _ => ?_) (fun c => absurd c (by decide))
        refine lv_aload_n hx hb dX12_bowler_38 rfl (lv_at hl 0 rfl) ?_
        refine va_get (D := D) hx hb hts inlX12 hown hK hP 55 (jc_55 cI cL ad σ τ) rfl 6 (by decide) (hts _ kw_9_13) (fun _ h9 => h9) rfl dX12_bowler_39 ?_
        refine lv_iconst (v := 4) hx hb dX12_bowler_42 (by decide) ?_
        refine lv_icmp_ne (tgt := 49) hx hb dX12_bowler_43 (by decide) (fun c29 => ?_) (fun c29 => ?_)
        · have kc29 := jne c29 rfl jz_4
          refine lv_aload_n hx hb dX12_bowler_49 rfl (lv_at hl 0 rfl) ?_
          refine va_get (D := D) hx hb hts inlX12 hown hK hP 55 (jc_55 cI cL ad σ τ) rfl 0 (by decide) (hts _ kw_7_2) (fun _ h9 => h9) rfl dX12_bowler_50 ?_
          refine lv_bipush (v := 32) hx hb dX12_bowler_53 (by decide) ?_
          refine lv_aload_n hx hb dX12_bowler_55 rfl (lv_at hl 0 rfl) ?_
          refine va_get (D := D) hx hb hts inlX12 hown hK hP 55 (jc_55 cI cL ad σ τ) rfl 6 (by decide) (hts _ kw_9_13) (fun _ h9 => h9) rfl dX12_bowler_56 ?_
          have g30 := jrg (rfl : (σ 55 6).toInt = (σ 55 6).toInt)
          refine lv_iadd hx hb dX12_bowler_59 ?_
          refine lv_topi (fun x31 ex31 => ?_)
          have tx31 : x31.toInt = (σ 55 6).toInt + 32 := (jadd ex31 jz_32 rfl (by omega) (by omega)).trans (by omega)
          refine lv_iload_n hx hb dX12_bowler_60 rfl (lv_at hl 1 rfl) ?_
          refine jast hx hb hK hP hJ hA hS (jc_56 cI cL ad σ τ) (ja_56 cI cL ad σ τ _ _) (jin tx31 (by omega) (by omega)) dX12_bowler_61 (fun σ32 H locs eσ32 hP hS => ?_)
          refine lv_aload_n hx hb dX12_bowler_62 rfl (lv_at hl 0 rfl) ?_
          refine va_get (D := D) hx hb hts inlX12 hown hK hP 55 (jc_55 cI cL ad σ32 τ) rfl 7 (by decide) (hts _ kw_7_6) (fun _ h9 => h9) rfl dX12_bowler_63 ?_
          refine lv_aload_n hx hb dX12_bowler_66 rfl (lv_at hl 0 rfl) ?_
          refine va_get (D := D) hx hb hts inlX12 hown hK hP 55 (jc_55 cI cL ad σ32 τ) rfl 6 (by decide) (hts _ kw_9_13) (fun _ h9 => h9) rfl dX12_bowler_67 ?_
          have m33 : σ32 55 6 = (σ 55 6) := (congrFun (jnp 55 eσ32 (by decide)) 6)
          refine jtopr m33 ?_
          refine lv_iload_n hx hb dX12_bowler_70 rfl (lv_at hl 2 rfl) ?_
          refine jast hx hb hK hP hJ hA hS (jc_60 cI cL ad σ32 τ) (ja_60 cI cL ad σ32 τ _ _) (jin rfl (by omega) (by omega)) dX12_bowler_71 (fun σ34 H locs eσ34 hP hS => ?_)
          refine lv_aload_n hx hb dX12_bowler_72 rfl (lv_at hl 0 rfl) ?_
          refine va_get (D := D) hx hb hts inlX12 hown hK hP 55 (jc_55 cI cL ad σ34 τ) rfl 8 (by decide) (hts _ kw_7_7) (fun _ h9 => h9) rfl dX12_bowler_73 ?_
          refine lv_aload_n hx hb dX12_bowler_76 rfl (lv_at hl 0 rfl) ?_
          refine va_get (D := D) hx hb hts inlX12 hown hK hP 55 (jc_55 cI cL ad σ34 τ) rfl 6 (by decide) (hts _ kw_9_13) (fun _ h9 => h9) rfl dX12_bowler_77 ?_
          have m35 : σ34 55 6 = (σ 55 6) := ((congrFun (jnp 55 eσ34 (by decide)) 6).trans m33)
          refine jtopr m35 ?_
          refine lv_iload_n hx hb dX12_bowler_80 rfl (lv_at hl 3 rfl) ?_
          refine jast hx hb hK hP hJ hA hS (jc_61 cI cL ad σ34 τ) (ja_61 cI cL ad σ34 τ _ _) (jin rfl (by omega) (by omega)) dX12_bowler_81 (fun σ36 H locs eσ36 hP hS => ?_)
          refine lv_aload_n hx hb dX12_bowler_82 rfl (lv_at hl 0 rfl) ?_
          refine lv_dup hx hb dX12_bowler_83 rfl ?_
          refine va_get (D := D) hx hb hts inlX12 hown hK hP 55 (jc_55 cI cL ad σ36 τ) rfl 6 (by decide) (hts _ kw_9_13) (fun _ h9 => h9) rfl dX12_bowler_84 ?_
          have m37 : σ36 55 6 = (σ 55 6) := ((congrFun (jnp 55 eσ36 (by decide)) 6).trans m35)
          refine jtopr m37 ?_
          refine lv_iconst (v := 1) hx hb dX12_bowler_87 (by decide) ?_
          refine lv_iadd hx hb dX12_bowler_88 ?_
          refine lv_topi (fun x38 ex38 => ?_)
          have tx38 : x38.toInt = (σ 55 6).toInt + 1 := (jadd ex38 rfl jz_1 (by omega) (by omega)).trans (by omega)
          refine jput (ty := .int) hx hb hts inlX12 tyX12 tyX12_ok nmX12 hown hK hP hJ hA hS (jc_55 cI cL ad σ36 τ) rfl (k := 6) (by decide) (Nat.le_of_ble_eq_true rfl) (jp_55_6 cI cL ad σ36 τ x38) (hts _ kw_9_13) (fun _ h9 => h9) rfl (by decide +kernel) rfl rfl dX12_bowler_89 (fun σ39 H locs eσ39 hP hS => ?_)
          refine lv_aload_n hx hb dX12_bowler_92 rfl (lv_at hl 0 rfl) ?_
          refine va_get (D := D) hx hb hts inlX12 hown hK hP 55 (jc_55 cI cL ad σ39 τ) rfl 6 (by decide) (hts _ kw_9_13) (fun _ h9 => h9) rfl dX12_bowler_93 ?_
          have m40 : σ39 55 6 = x38 := (jsp eσ39)
          refine jtopr m40 ?_
          refine lv_iconst (v := 1) hx hb dX12_bowler_96 (by decide) ?_
          refine lv_isub hx hb dX12_bowler_97 ?_
          refine lv_topi (fun x41 ex41 => ?_)
          have tx41 : x41.toInt = (σ 55 6).toInt := (jsub ex41 tx38 jz_1 (by omega) (by omega)).trans (by omega)
          have z42 : (σ39 55 5).toInt = (σ 55 5).toInt := (congrArg Int32.toInt (show σ39 55 5 = (σ 55 5) from ((jkp 5 eσ39 (by decide)).trans ((congrFun (jnp 55 eσ36 (by decide)) 5).trans ((congrFun (jnp 55 eσ34 (by decide)) 5).trans (congrFun (jnp 55 eσ32 (by decide)) 5))))))
          have z43 : (σ39 55 4).toInt = (σ 55 4).toInt := (congrArg Int32.toInt (show σ39 55 4 = (σ 55 4) from ((jkp 4 eσ39 (by decide)).trans ((congrFun (jnp 55 eσ36 (by decide)) 4).trans ((congrFun (jnp 55 eσ34 (by decide)) 4).trans (congrFun (jnp 55 eσ32 (by decide)) 4))))))
          have w44 : ∀ k : Nat, k < 68 → (-200) ≤ (σ39 56 k).toInt ∧ (σ39 56 k).toInt ≤ 500 := (jrr_fr (jnp 56 eσ39 (by decide)) (jrr_fr (jnp 56 eσ36 (by decide)) (jrr_fr (jnp 56 eσ34 (by decide)) (by rw [eσ32]; exact jrr_up w4 (by have h9 := t1; omega) (by have h9 := t1; omega)))))
          have w45 : ∀ k : Nat, k < 40 → 0 ≤ (σ39 57 k).toInt ∧ (σ39 57 k).toInt ≤ 67 := (jrr_fr (jnp 57 eσ39 (by decide)) (jrr_fr (jnp 57 eσ36 (by decide)) (jrr_fr (jnp 57 eσ34 (by decide)) (jrr_fr (jnp 57 eσ32 (by decide)) w5))))
          have w46 : ∀ k : Nat, k < 40 → (-200) ≤ (σ39 58 k).toInt ∧ (σ39 58 k).toInt ≤ 500 := (jrr_fr (jnp 58 eσ39 (by decide)) (jrr_fr (jnp 58 eσ36 (by decide)) (jrr_fr (jnp 58 eσ34 (by decide)) (jrr_fr (jnp 58 eσ32 (by decide)) w6))))
          have w47 : ∀ k : Nat, k < 40 → (-200) ≤ (σ39 59 k).toInt ∧ (σ39 59 k).toInt ≤ 500 := (jrr_fr (jnp 59 eσ39 (by decide)) (jrr_fr (jnp 59 eσ36 (by decide)) (jrr_fr (jnp 59 eσ34 (by decide)) (jrr_fr (jnp 59 eσ32 (by decide)) w7))))
          have I48 : jI101 σ39 := ⟨(by omega), (by omega), (by omega), w44, w45, w46, w47⟩
          have z49 : (σ39 55 6).toInt = (σ 55 6).toInt + 1 := ((congrArg Int32.toInt (show σ39 55 6 = x38 from m40)).trans tx38)
          have w50 : ∀ k : Nat, k < 4 → 0 ≤ (σ39 60 k).toInt ∧ (σ39 60 k).toInt ≤ 50 := (jrr_fr (jnp 60 eσ39 (by decide)) (jrr_fr (jnp 60 eσ36 (by decide)) (by rw [eσ34]; exact jrr_up (jrr_fr (jnp 60 eσ32 (by decide)) w9) (by have h9 := t2; omega) (by have h9 := t2; omega))))
          have w51 : ∀ k : Nat, k < 4 → 0 ≤ (σ39 61 k).toInt ∧ (σ39 61 k).toInt ≤ 20 := (jrr_fr (jnp 61 eσ39 (by decide)) (by rw [eσ36]; exact jrr_up (jrr_fr (jnp 61 eσ34 (by decide)) (jrr_fr (jnp 61 eσ32 (by decide)) w10)) (by have h9 := t3; omega) (by have h9 := t3; omega)))
          have I52 : jI102 σ39 := ⟨(by omega), w50, w51⟩
          exact hret x41 σ39 τ _ _ _ _ rfl ⟨rfl, (fun i hi => ((jnp i eσ39 (imp_159 i hi)).trans ((jnp i eσ36 (imp_160 i hi)).trans ((jnp i eσ34 (imp_161 i hi)).trans (jnp i eσ32 (imp_162 i hi)))))), (fun i hi => ((jkp i eσ39 (imp_163 i hi)).trans ((congrFun (jnp 55 eσ36 (by decide)) i).trans ((congrFun (jnp 55 eσ34 (by decide)) i).trans (congrFun (jnp 55 eσ32 (by decide)) i))))), I48, I52, Or.inr (Or.inr (⟨trivial, (by have h9 := tx41; omega), (by have h9 := tx41; omega), (by have h9 := tx41; omega), (by have h9 := tx41; omega), (by have h9 := tx41; omega), (by have h9 := tx41; omega), (by rw [eσ39, jup_n (by decide), eσ36, jup_n (by decide), eσ34, jup_n (by decide), eσ32, jup_row, jnc (show x31.toInt = 32 + (σ 55 6).toInt by have h9 := tx31; omega)])⟩))⟩ hP hS dX12_bowler_98
        · have kc29 := jeq c29 rfl jz_4
          refine lv_bipush (v := (-3)) hx hb dX12_bowler_46 (by decide) ?_
          exact hret (-3) σ τ _ _ _ _ rfl ⟨rfl, (fun _ _ => rfl), (fun _ _ => rfl), hI101, hI102, Or.inr (Or.inl ⟨rfl, (by have h9 := jz_m3; omega), (by have h9 := jz_m3; omega), (by have h9 := jz_m3; omega), (by have h9 := jz_m3; omega), (by have h9 := jz_m3; omega), rfl⟩)⟩ hP hS dX12_bowler_48
      · obtain ⟨q54, k53⟩ := h26
        have q54 := q54.symm
        subst q54
        refine lv_if_ne (tgt := 38) hx hb dX12_bowler_33 (by decide) (fun c => absurd (by decide) c) (fun _ => ?_)
        refine lv_iconst (v := (-1)) hx hb dX12_bowler_36 (by decide) ?_
        exact hret (-1) σ τ _ _ _ _ rfl ⟨rfl, (fun _ _ => rfl), (fun _ _ => rfl), hI101, hI102, Or.inl ⟨rfl, (by have h9 := jz_m1; omega), (by have h9 := jz_m1; omega), rfl⟩⟩ hP hS dX12_bowler_37
    · obtain ⟨q56, k55⟩ := h20
      have q56 := q56.symm
      subst q56
      refine lv_if_eq (tgt := 36) hx hb dX12_bowler_21 (by decide) (fun _ => ?_) (fun c => absurd (by decide) c)
      refine lv_iconst (v := (-1)) hx hb dX12_bowler_36 (by decide) ?_
      exact hret (-1) σ τ _ _ _ _ rfl ⟨rfl, (fun _ _ => rfl), (fun _ _ => rfl), hI101, hI102, Or.inl ⟨rfl, (by have h9 := jz_m1; omega), (by have h9 := jz_m1; omega), rfl⟩⟩ hP hS dX12_bowler_37
  · obtain ⟨q58, k57⟩ := h14
    have q58 := q58.symm
    subst q58
    refine lv_if_eq (tgt := 36) hx hb dX12_bowler_9 (by decide) (fun _ => ?_) (fun c => absurd (by decide) c)
    refine lv_iconst (v := (-1)) hx hb dX12_bowler_36 (by decide) ?_
    exact hret (-1) σ τ _ _ _ _ rfl ⟨rfl, (fun _ _ => rfl), (fun _ _ => rfl), hI101, hI102, Or.inl ⟨rfl, (by have h9 := jz_m1; omega), (by have h9 := jz_m1; omega), rfl⟩⟩ hP hS dX12_bowler_37
set_option maxHeartbeats 4000000 in
set_option maxRecDepth 100000 in
theorem c_X12_edge (l : Launch) (D : va_G) (cI cL : ClassId) (ad zz : Nat → Nat) (hJ : jD ad) (σ : Nat → Nat → Int32) (τ : Nat → Nat → Int64) (a1 : Int32) (A1 : Int) (t1 : a1.toInt = A1) (a2 : Int32) (A2 : Int) (t2 : a2.toInt = A2) (a3 : Int32) (A3 : Int) (t3 : a3.toInt = A3) (hI101 : jI101 σ) (hI102 : jI102 σ) : jM l yX12_edge cX12_edge 5 (some .int) ({ frames := 2, cells := 0, slots := 0, locals := 46 }) D cI cL ad zz [.ref (ad 55), .int a1, .int a2, .int a3] σ τ (fun r σ' τ' => τ = τ' ∧ (∀ i : Nat, (i < 55 ∨ 59 < i) → σ' i = σ i) ∧ (∀ k : Nat, (k < 4 ∨ 4 < k) ∧ (k < 5 ∨ 5 < k) → σ' 55 k = σ 55 k) ∧ (jI101 σ') ∧ ((r = (-2000000000) ∧ ((σ' 55 5).toInt = (σ 55 5).toInt) ∧ ((σ' 55 4).toInt = (σ 55 4).toInt) ∧ (¬ jEok (A1) (A2) (A3) ((σ 55 6).toInt)) ∧ (σ' 56 = σ 56 ∧ σ' 57 = σ 57 ∧ σ' 58 = σ 58 ∧ σ' 59 = σ 59)) ∨ (True ∧ (jEok (A1) (A2) (A3) ((σ 55 6).toInt) ∧ ∃ q : Int, jEpl (A1) (A2) q ∧ jChg (q) a3 r (σ 56) (σ' 56) (σ 57) (σ' 57) (σ 58) (σ' 58) (σ 59) (σ' 59) (σ 55 5).toInt (σ' 55 5).toInt (σ 55 4).toInt (σ' 55 4).toInt)))) := by
  refine jM.of hJ (by decide +kernel) (nt := .int) rfl (Nat.le_of_ble_eq_true rfl) ?_
  intro p e s m args below meth c Q ls hC hret hl hP
  obtain ⟨hx, hb, hr, hml, hown, hts, hK, -, hlocks, hZ⟩ := hC
  have hown : s.vm.findClass RX12 = some m.cls := hown
  have hS : va_S (jA ad) s.heap s.heap [] := va_S.rf
  have hA : ∀ q, jA ad q → jA ad q := fun _ h => h
  have hl : lv_has ls 5 [(0, .ref (ad 55)), (1, .int a1), (2, .int a2), (3, .int a3)] := hl
  have g1 := jrg t1
  have g2 := jrg t2
  have g3 := jrg t3
  obtain ⟨i1, i2, i3, w4, w5, w6, w7⟩ : (0 ≤ (σ 55 5).toInt) ∧ ((σ 55 5).toInt ≤ (σ 55 4).toInt) ∧ ((σ 55 4).toInt ≤ 40) ∧ (∀ k : Nat, k < 68 → (-200) ≤ (σ 56 k).toInt ∧ (σ 56 k).toInt ≤ 500) ∧ (∀ k : Nat, k < 40 → 0 ≤ (σ 57 k).toInt ∧ (σ 57 k).toInt ≤ 67) ∧ (∀ k : Nat, k < 40 → (-200) ≤ (σ 58 k).toInt ∧ (σ 58 k).toInt ≤ 500) ∧ (∀ k : Nat, k < 40 → (-200) ≤ (σ 59 k).toInt ∧ (σ 59 k).toInt ≤ 500) := id hI101
  obtain ⟨i8, w9, w10⟩ : (0 ≤ (σ 55 6).toInt ∧ (σ 55 6).toInt ≤ 4) ∧ (∀ k : Nat, k < 4 → 0 ≤ (σ 60 k).toInt ∧ (σ 60 k).toInt ≤ 50) ∧ (∀ k : Nat, k < 4 → 0 ≤ (σ 61 k).toInt ∧ (σ 61 k).toInt ≤ 20) := id hI102
  refine lv_iload_n hx hb dX12_edge_0 rfl (lv_at hl 1 rfl) ?_
  refine lv_if_lt (tgt := 27) hx hb dX12_edge_1 (by decide) (fun c11 => ?_) (fun c11 => ?_)
  · have kc11 := jlt c11 t1 jz_0
    refine lv_ldc (v := (-2000000000)) hx hb hown (hts _ kw_11_4) dX12_edge_27 ?_
    exact hret (-2000000000) σ τ _ _ _ _ rfl ⟨rfl, (fun _ _ => rfl), (fun _ _ => rfl), hI101, Or.inl ⟨rfl, (by have h9 := jz_m2000000000; omega), (by have h9 := jz_m2000000000; omega), (fun h => by unfold jEok at h; omega), ⟨rfl, rfl, rfl, rfl⟩⟩⟩ hP hS dX12_edge_29
  · have kc11 := jnlt c11 t1 jz_0
    refine lv_aload_n hx hb dX12_edge_4 rfl (lv_at hl 0 rfl) ?_
    refine lv_iload_n hx hb dX12_edge_5 rfl (lv_at hl 1 rfl) ?_
    refine lv_bipush (v := 10) hx hb dX12_edge_6 (by decide) ?_
    refine lv_idiv hx hb dX12_edge_8 (by decide) ?_
    refine lv_topi (fun x12 ex12 => ?_)
    have tx12 : x12.toInt = (A1 / 10) := jdiv ex12 t1 jz_10 (by omega) (by omega)
    refine jcallV (As := [.int x12]) (rest := []) ⟨hx, hb, hml, hown, hts⟩ hK hP hA hS hZ (c_X12_isBowler l D cI cL ad zz hJ σ τ x12 ((A1 / 10)) tx12 hI102) cw_RX12_146 (jc_55 cI cL ad σ τ) rfl ⟨Nat.le_of_ble_eq_true rfl, Nat.le_of_ble_eq_true rfl⟩ rfl rfl rfl hl.1 rfl (Nat.le_of_ble_eq_true rfl) dX12_edge_9 ⟨Nat.zero_le _, Nat.zero_le _⟩ (fun r14 σ13 τ13 H locs h13 hP hS => ?_)
    obtain ⟨⟨rfl, rfl⟩, h13⟩ := h13
    rcases h13 with h15 | h16
    · obtain ⟨q18, k17⟩ := h15
      have q18 := q18.symm
      subst q18
      refine lv_if_eq (tgt := 27) hx hb dX12_edge_12 (by decide) (fun c => absurd c (by decide)) (fun _ => ?_)
      refine lv_iload_n hx hb dX12_edge_15 rfl (lv_at hl 2 rfl) ?_
      refine lv_i2l (v := a2.toInt64) hx hb dX12_edge_16 rfl ?_
      refine lv_lconst (v := 0) hx hb dX12_edge_17 (by decide) ?_
      refine lv_ldc2 (v := 2) hx hb hown (hts _ kw_11_3) dX12_edge_18 ?_
      refine jcallS (As := [.long a2.toInt64, .long 0, .long 2]) (rest := []) ⟨hx, hb, hml, hown, hts⟩ hK hP hA hS hZ (c_X12_within l D cI cL ad zz hJ σ τ a2.toInt64 (A2) (jtoL t2) 0 (0) jzl_0 2 (2) jzl_2) cw_RX12_136 ⟨Nat.le_of_ble_eq_true rfl, Nat.le_of_ble_eq_true rfl⟩ rfl rfl rfl hl.1 rfl (Nat.le_of_ble_eq_true rfl) dX12_edge_21 ⟨Nat.zero_le _, Nat.zero_le _⟩ (fun r20 σ19 τ19 H locs h19 hP hS => ?_)
      obtain ⟨⟨rfl, rfl⟩, h19⟩ := h19
      rcases h19 with h21 | h22
      · obtain ⟨q24, k23⟩ := h21
        have q24 := q24.symm
        subst q24
        refine lv_if_ne (tgt := 30) hx hb dX12_edge_24 (by decide) (fun _ => ?_) (fun c => absurd c (by decide))
        refine lv_iload_n hx hb dX12_edge_30 rfl (lv_at hl 2 rfl) ?_
        refine lv_iconst (v := 2) hx hb dX12_edge_31 (by decide) ?_
        refine lv_icmp_ne (tgt := 65) hx hb dX12_edge_32 (by decide) (fun c25 => ?_) (fun c25 => ?_)
        · have kc25 := jne c25 t2 jz_2
          refine lv_iload_n hx hb dX12_edge_65 rfl (lv_at hl 1 rfl) ?_
          refine lv_bipush (v := 10) hx hb dX12_edge_66 (by decide) ?_
          refine lv_irem hx hb dX12_edge_68 (by decide) ?_
          refine lv_topi (fun x26 ex26 => ?_)
          have tx26 : x26.toInt = (A1 % 10) := jrem ex26 t1 jz_10 (by omega)
          refine lv_iconst (v := 4) hx hb dX12_edge_69 (by decide) ?_
          refine lv_icmp_ge (tgt := 110) hx hb dX12_edge_70 (by decide) (fun c27 => ?_) (fun c27 => ?_)
          · have kc27 := jle c27 jz_4 tx26
            refine lv_iconst (v := 0) hx hb dX12_edge_110 (by decide) ?_
            refine lv_istore (lv' := [(4, .int 0), (0, .ref (ad 55)), (1, .int a1), (2, .int a2), (3, .int a3)]) hx hb dX12_edge_111 hl (by decide) rfl (fun ls hl => ?_)
            refine lv_iload hx hb dX12_edge_113 (lv_at hl 0 rfl) ?_
            refine lv_if_eq (tgt := 148) hx hb dX12_edge_115 (by decide) (fun _ => ?_) (fun c => absurd (by decide) c)
            refine lv_ldc (v := (-2000000000)) hx hb hown (hts _ kw_11_4) dX12_edge_148 ?_
            exact hret (-2000000000) σ τ _ _ _ _ rfl ⟨rfl, (fun _ _ => rfl), (fun _ _ => rfl), hI101, Or.inl ⟨rfl, (by have h9 := jz_m2000000000; omega), (by have h9 := jz_m2000000000; omega), (fun h => by unfold jEok at h; omega), ⟨rfl, rfl, rfl, rfl⟩⟩⟩ hP hS dX12_edge_150
          · have kc27 := jnle c27 jz_4 tx26
            refine lv_iload_n hx hb dX12_edge_73 rfl (lv_at hl 2 rfl) ?_
            refine lv_if_ne (tgt := 92) hx hb dX12_edge_74 (by decide) (fun c28 => ?_) (fun c28 => ?_)
            · have kc28 := jne c28 t2 jz_0
              refine lv_iload_n hx hb dX12_edge_92 rfl (lv_at hl 3 rfl) ?_
              refine lv_i2l (v := a3.toInt64) hx hb dX12_edge_93 rfl ?_
              refine lv_ldc2 (v := (-9)) hx hb hown (hts _ kw_11_6) dX12_edge_94 ?_
              refine lv_ldc2 (v := 9) hx hb hown (hts _ kw_11_7) dX12_edge_97 ?_
              refine jcallS (As := [.long a3.toInt64, .long (-9), .long 9]) (rest := []) ⟨hx, hb, hml, hown, hts⟩ hK hP hA hS hZ (c_X12_within l D cI cL ad zz hJ σ τ a3.toInt64 (A3) (jtoL t3) (-9) ((-9)) jzl_m9 9 (9) jzl_9) cw_RX12_136 ⟨Nat.le_of_ble_eq_true rfl, Nat.le_of_ble_eq_true rfl⟩ rfl rfl rfl hl.1 rfl (Nat.le_of_ble_eq_true rfl) dX12_edge_100 ⟨Nat.zero_le _, Nat.zero_le _⟩ (fun r30 σ29 τ29 H locs h29 hP hS => ?_)
              obtain ⟨⟨rfl, rfl⟩, h29⟩ := h29
              rcases h29 with h31 | h32
              · obtain ⟨q34, k33⟩ := h31
                have q34 := q34.symm
                subst q34
                refine lv_if_eq (tgt := 110) hx hb dX12_edge_103 (by decide) (fun c => absurd c (by decide)) (fun _ => ?_)
                refine lv_iconst (v := 1) hx hb dX12_edge_106 (by decide) ?_
                refine lv_goto (tgt := 111) hx hb dX12_edge_107 (by decide) ?_
                refine lv_istore (lv' := [(4, .int 1), (0, .ref (ad 55)), (1, .int a1), (2, .int a2), (3, .int a3)]) hx hb dX12_edge_111 hl (by decide) rfl (fun ls hl => ?_)
                refine lv_iload hx hb dX12_edge_113 (lv_at hl 0 rfl) ?_
                refine lv_if_eq (tgt := 148) hx hb dX12_edge_115 (by decide) (fun c => absurd c (by decide)) (fun _ => ?_)
                refine lv_aload_n hx hb dX12_edge_118 rfl (lv_at hl 1 rfl) ?_
                refine lv_iload_n hx hb dX12_edge_119 rfl (lv_at hl 3 rfl) ?_
                refine lv_if_ne (tgt := 127) hx hb dX12_edge_120 (by decide) (fun c35 => ?_) (fun c => absurd (jeq c t2 jz_0) (by omega))
                have kc35 := jne c35 t2 jz_0
                refine lv_bipush (v := 16) hx hb dX12_edge_127 (by decide) ?_
                refine lv_iconst (v := 4) hx hb dX12_edge_129 (by decide) ?_
                refine lv_iload_n hx hb dX12_edge_130 rfl (lv_at hl 2 rfl) ?_
                refine lv_bipush (v := 10) hx hb dX12_edge_131 (by decide) ?_
                refine lv_idiv hx hb dX12_edge_133 (by decide) ?_
                refine lv_topi (fun x36 ex36 => ?_)
                have tx36 : x36.toInt = (A1 / 10) := jdiv ex36 t1 jz_10 (by omega) (by omega)
                refine lv_imul hx hb dX12_edge_134 ?_
                refine lv_topi (fun x37 ex37 => ?_)
                have tx37 : x37.toInt = 4 * (A1 / 10) := (jmul ex37 jz_4 tx36 (by omega) (by omega)).trans (by omega)
                refine lv_iadd hx hb dX12_edge_135 ?_
                refine lv_topi (fun x38 ex38 => ?_)
                have tx38 : x38.toInt = 4 * (A1 / 10) + 16 := (jadd ex38 jz_16 tx37 (by omega) (by omega)).trans (by omega)
                refine lv_iload_n hx hb dX12_edge_136 rfl (lv_at hl 2 rfl) ?_
                refine lv_bipush (v := 10) hx hb dX12_edge_137 (by decide) ?_
                refine lv_irem hx hb dX12_edge_139 (by decide) ?_
                refine lv_topi (fun x39 ex39 => ?_)
                have tx39 : x39.toInt = (A1 % 10) := jrem ex39 t1 jz_10 (by omega)
                refine lv_iadd hx hb dX12_edge_140 ?_
                refine lv_topi (fun x40 ex40 => ?_)
                have tx40 : x40.toInt = 4 * (A1 / 10) + (A1 % 10) + 16 := (jadd ex40 tx38 tx39 (by omega) (by omega)).trans (by omega)
                refine lv_iload_n hx hb dX12_edge_141 rfl (lv_at hl 4 rfl) ?_
                refine jcallV (As := [.int x40, .int a3]) (rest := []) ⟨hx, hb, hml, hown, hts⟩ hK hP hA hS hZ (c_X12_becomes l D cI cL ad zz hJ σ τ x40 (4 * (A1 / 10) + (A1 % 10) + 16) tx40 a3 (A3) t3 hI101 (by omega) (by omega)) cw_RX12_153 (jc_55 cI cL ad σ τ) rfl ⟨Nat.le_of_ble_eq_true rfl, Nat.le_of_ble_eq_true rfl⟩ rfl rfl rfl hl.1 rfl (Nat.le_of_ble_eq_true rfl) dX12_edge_142 ⟨Nat.zero_le _, Nat.zero_le _⟩ (fun r42 σ41 τ41 H locs h41 hP hS => ?_)
                obtain ⟨rfl, f43, f44, I45, w46, h41⟩ := h41
                obtain ⟨i47, i48, i49, w50, w51, w52, w53⟩ : (0 ≤ (σ41 55 5).toInt) ∧ ((σ41 55 5).toInt ≤ (σ41 55 4).toInt) ∧ ((σ41 55 4).toInt ≤ 40) ∧ (∀ k : Nat, k < 68 → (-200) ≤ (σ41 56 k).toInt ∧ (σ41 56 k).toInt ≤ 500) ∧ (∀ k : Nat, k < 40 → 0 ≤ (σ41 57 k).toInt ∧ (σ41 57 k).toInt ≤ 67) ∧ (∀ k : Nat, k < 40 → (-200) ≤ (σ41 58 k).toInt ∧ (σ41 58 k).toInt ≤ 500) ∧ (∀ k : Nat, k < 40 → (-200) ≤ (σ41 59 k).toInt ∧ (σ41 59 k).toInt ≤ 500) := id I45
                refine lv_goto (tgt := 150) hx hb dX12_edge_145 (by decide) ?_
                exact hret r42 σ41 τ _ _ _ _ rfl ⟨rfl, (fun i hi => (f43 i hi)), (fun i hi => (f44 i hi)), I45, Or.inr (⟨trivial, ⟨(by unfold jEok; omega), 4 * (A1 / 10) + (A1 % 10) + 16, (by unfold jEpl; omega), w46⟩⟩)⟩ hP hS dX12_edge_150
              · obtain ⟨q55, k54⟩ := h32
                have q55 := q55.symm
                subst q55
                refine lv_if_eq (tgt := 110) hx hb dX12_edge_103 (by decide) (fun _ => ?_) (fun c => absurd (by decide) c)
                refine lv_iconst (v := 0) hx hb dX12_edge_110 (by decide) ?_
                refine lv_istore (lv' := [(4, .int 0), (0, .ref (ad 55)), (1, .int a1), (2, .int a2), (3, .int a3)]) hx hb dX12_edge_111 hl (by decide) rfl (fun ls hl => ?_)
                refine lv_iload hx hb dX12_edge_113 (lv_at hl 0 rfl) ?_
                refine lv_if_eq (tgt := 148) hx hb dX12_edge_115 (by decide) (fun _ => ?_) (fun c => absurd (by decide) c)
                refine lv_ldc (v := (-2000000000)) hx hb hown (hts _ kw_11_4) dX12_edge_148 ?_
                exact hret (-2000000000) σ τ _ _ _ _ rfl ⟨rfl, (fun _ _ => rfl), (fun _ _ => rfl), hI101, Or.inl ⟨rfl, (by have h9 := jz_m2000000000; omega), (by have h9 := jz_m2000000000; omega), (fun h => by unfold jEok at h; omega), ⟨rfl, rfl, rfl, rfl⟩⟩⟩ hP hS dX12_edge_150
            · have kc28 := jeq c28 t2 jz_0
              refine lv_iload_n hx hb dX12_edge_77 rfl (lv_at hl 3 rfl) ?_
              refine lv_i2l (v := a3.toInt64) hx hb dX12_edge_78 rfl ?_
              refine lv_lconst (v := 0) hx hb dX12_edge_79 (by decide) ?_
              refine lv_ldc2 (v := 500) hx hb hown (hts _ kw_11_5) dX12_edge_80 ?_
              refine jcallS (As := [.long a3.toInt64, .long 0, .long 500]) (rest := []) ⟨hx, hb, hml, hown, hts⟩ hK hP hA hS hZ (c_X12_within l D cI cL ad zz hJ σ τ a3.toInt64 (A3) (jtoL t3) 0 (0) jzl_0 500 (500) jzl_500) cw_RX12_136 ⟨Nat.le_of_ble_eq_true rfl, Nat.le_of_ble_eq_true rfl⟩ rfl rfl rfl hl.1 rfl (Nat.le_of_ble_eq_true rfl) dX12_edge_83 ⟨Nat.zero_le _, Nat.zero_le _⟩ (fun r57 σ56 τ56 H locs h56 hP hS => ?_)
              obtain ⟨⟨rfl, rfl⟩, h56⟩ := h56
              rcases h56 with h58 | h59
              · obtain ⟨q61, k60⟩ := h58
                have q61 := q61.symm
                subst q61
                refine lv_if_eq (tgt := 110) hx hb dX12_edge_86 (by decide) (fun c => absurd c (by decide)) (fun _ => ?_)
                refine lv_goto (tgt := 106) hx hb dX12_edge_89 (by decide) ?_
                refine lv_iconst (v := 1) hx hb dX12_edge_106 (by decide) ?_
                refine lv_goto (tgt := 111) hx hb dX12_edge_107 (by decide) ?_
                refine lv_istore (lv' := [(4, .int 1), (0, .ref (ad 55)), (1, .int a1), (2, .int a2), (3, .int a3)]) hx hb dX12_edge_111 hl (by decide) rfl (fun ls hl => ?_)
                refine lv_iload hx hb dX12_edge_113 (lv_at hl 0 rfl) ?_
                refine lv_if_eq (tgt := 148) hx hb dX12_edge_115 (by decide) (fun c => absurd c (by decide)) (fun _ => ?_)
                refine lv_aload_n hx hb dX12_edge_118 rfl (lv_at hl 1 rfl) ?_
                refine lv_iload_n hx hb dX12_edge_119 rfl (lv_at hl 3 rfl) ?_
                refine lv_if_ne (tgt := 127) hx hb dX12_edge_120 (by decide) (fun c => absurd (jne c t2 jz_0) (by omega)) (fun c62 => ?_)
                have kc62 := jeq c62 t2 jz_0
                refine lv_iconst (v := 0) hx hb dX12_edge_123 (by decide) ?_
                refine lv_goto (tgt := 129) hx hb dX12_edge_124 (by decide) ?_
                refine lv_iconst (v := 4) hx hb dX12_edge_129 (by decide) ?_
                refine lv_iload_n hx hb dX12_edge_130 rfl (lv_at hl 2 rfl) ?_
                refine lv_bipush (v := 10) hx hb dX12_edge_131 (by decide) ?_
                refine lv_idiv hx hb dX12_edge_133 (by decide) ?_
                refine lv_topi (fun x63 ex63 => ?_)
                have tx63 : x63.toInt = (A1 / 10) := jdiv ex63 t1 jz_10 (by omega) (by omega)
                refine lv_imul hx hb dX12_edge_134 ?_
                refine lv_topi (fun x64 ex64 => ?_)
                have tx64 : x64.toInt = 4 * (A1 / 10) := (jmul ex64 jz_4 tx63 (by omega) (by omega)).trans (by omega)
                refine lv_iadd hx hb dX12_edge_135 ?_
                refine jtopr (y := x64) (by rw [Int32.zero_add]) ?_
                refine lv_iload_n hx hb dX12_edge_136 rfl (lv_at hl 2 rfl) ?_
                refine lv_bipush (v := 10) hx hb dX12_edge_137 (by decide) ?_
                refine lv_irem hx hb dX12_edge_139 (by decide) ?_
                refine lv_topi (fun x65 ex65 => ?_)
                have tx65 : x65.toInt = (A1 % 10) := jrem ex65 t1 jz_10 (by omega)
                refine lv_iadd hx hb dX12_edge_140 ?_
                refine lv_topi (fun x66 ex66 => ?_)
                have tx66 : x66.toInt = 4 * (A1 / 10) + (A1 % 10) := (jadd ex66 tx64 tx65 (by omega) (by omega)).trans (by omega)
                refine lv_iload_n hx hb dX12_edge_141 rfl (lv_at hl 4 rfl) ?_
                refine jcallV (As := [.int x66, .int a3]) (rest := []) ⟨hx, hb, hml, hown, hts⟩ hK hP hA hS hZ (c_X12_becomes l D cI cL ad zz hJ σ τ x66 (4 * (A1 / 10) + (A1 % 10)) tx66 a3 (A3) t3 hI101 (by omega) (by omega)) cw_RX12_153 (jc_55 cI cL ad σ τ) rfl ⟨Nat.le_of_ble_eq_true rfl, Nat.le_of_ble_eq_true rfl⟩ rfl rfl rfl hl.1 rfl (Nat.le_of_ble_eq_true rfl) dX12_edge_142 ⟨Nat.zero_le _, Nat.zero_le _⟩ (fun r68 σ67 τ67 H locs h67 hP hS => ?_)
                obtain ⟨rfl, f69, f70, I71, w72, h67⟩ := h67
                obtain ⟨i73, i74, i75, w76, w77, w78, w79⟩ : (0 ≤ (σ67 55 5).toInt) ∧ ((σ67 55 5).toInt ≤ (σ67 55 4).toInt) ∧ ((σ67 55 4).toInt ≤ 40) ∧ (∀ k : Nat, k < 68 → (-200) ≤ (σ67 56 k).toInt ∧ (σ67 56 k).toInt ≤ 500) ∧ (∀ k : Nat, k < 40 → 0 ≤ (σ67 57 k).toInt ∧ (σ67 57 k).toInt ≤ 67) ∧ (∀ k : Nat, k < 40 → (-200) ≤ (σ67 58 k).toInt ∧ (σ67 58 k).toInt ≤ 500) ∧ (∀ k : Nat, k < 40 → (-200) ≤ (σ67 59 k).toInt ∧ (σ67 59 k).toInt ≤ 500) := id I71
                refine lv_goto (tgt := 150) hx hb dX12_edge_145 (by decide) ?_
                exact hret r68 σ67 τ _ _ _ _ rfl ⟨rfl, (fun i hi => (f69 i hi)), (fun i hi => (f70 i hi)), I71, Or.inr (⟨trivial, ⟨(by unfold jEok; omega), 4 * (A1 / 10) + (A1 % 10), (by unfold jEpl; omega), w72⟩⟩)⟩ hP hS dX12_edge_150
              · obtain ⟨q81, k80⟩ := h59
                have q81 := q81.symm
                subst q81
                refine lv_if_eq (tgt := 110) hx hb dX12_edge_86 (by decide) (fun _ => ?_) (fun c => absurd (by decide) c)
                refine lv_iconst (v := 0) hx hb dX12_edge_110 (by decide) ?_
                refine lv_istore (lv' := [(4, .int 0), (0, .ref (ad 55)), (1, .int a1), (2, .int a2), (3, .int a3)]) hx hb dX12_edge_111 hl (by decide) rfl (fun ls hl => ?_)
                refine lv_iload hx hb dX12_edge_113 (lv_at hl 0 rfl) ?_
                refine lv_if_eq (tgt := 148) hx hb dX12_edge_115 (by decide) (fun _ => ?_) (fun c => absurd (by decide) c)
                refine lv_ldc (v := (-2000000000)) hx hb hown (hts _ kw_11_4) dX12_edge_148 ?_
                exact hret (-2000000000) σ τ _ _ _ _ rfl ⟨rfl, (fun _ _ => rfl), (fun _ _ => rfl), hI101, Or.inl ⟨rfl, (by have h9 := jz_m2000000000; omega), (by have h9 := jz_m2000000000; omega), (fun h => by unfold jEok at h; omega), ⟨rfl, rfl, rfl, rfl⟩⟩⟩ hP hS dX12_edge_150
        · have kc25 := jeq c25 t2 jz_2
          refine lv_iload_n hx hb dX12_edge_35 rfl (lv_at hl 3 rfl) ?_
          refine lv_i2l (v := a3.toInt64) hx hb dX12_edge_36 rfl ?_
          refine lv_lconst (v := 0) hx hb dX12_edge_37 (by decide) ?_
          refine lv_ldc2 (v := 8) hx hb hown (hts _ kw_9_10) dX12_edge_38 ?_
          refine jcallS (As := [.long a3.toInt64, .long 0, .long 8]) (rest := []) ⟨hx, hb, hml, hown, hts⟩ hK hP hA hS hZ (c_X12_within l D cI cL ad zz hJ σ τ a3.toInt64 (A3) (jtoL t3) 0 (0) jzl_0 8 (8) jzl_8) cw_RX12_136 ⟨Nat.le_of_ble_eq_true rfl, Nat.le_of_ble_eq_true rfl⟩ rfl rfl rfl hl.1 rfl (Nat.le_of_ble_eq_true rfl) dX12_edge_41 ⟨Nat.zero_le _, Nat.zero_le _⟩ (fun r83 σ82 τ82 H locs h82 hP hS => ?_)
          obtain ⟨⟨rfl, rfl⟩, h82⟩ := h82
          rcases h82 with h84 | h85
          · obtain ⟨q87, k86⟩ := h84
            have q87 := q87.symm
            subst q87
            refine lv_if_eq (tgt := 62) hx hb dX12_edge_44 (by decide) (fun c => absurd c (by decide)) (fun _ => ?_)
            refine lv_aload_n hx hb dX12_edge_47 rfl (lv_at hl 0 rfl) ?_
            refine lv_bipush (v := 32) hx hb dX12_edge_48 (by decide) ?_
            refine lv_iload_n hx hb dX12_edge_50 rfl (lv_at hl 1 rfl) ?_
            refine lv_bipush (v := 10) hx hb dX12_edge_51 (by decide) ?_
            refine lv_idiv hx hb dX12_edge_53 (by decide) ?_
            refine lv_topi (fun x88 ex88 => ?_)
            have tx88 : x88.toInt = (A1 / 10) := jdiv ex88 t1 jz_10 (by omega) (by omega)
            refine lv_iadd hx hb dX12_edge_54 ?_
            refine lv_topi (fun x89 ex89 => ?_)
            have tx89 : x89.toInt = (A1 / 10) + 32 := (jadd ex89 jz_32 tx88 (by omega) (by omega)).trans (by omega)
            refine lv_iload_n hx hb dX12_edge_55 rfl (lv_at hl 3 rfl) ?_
            refine jcallV (As := [.int x89, .int a3]) (rest := []) ⟨hx, hb, hml, hown, hts⟩ hK hP hA hS hZ (c_X12_becomes l D cI cL ad zz hJ σ τ x89 ((A1 / 10) + 32) tx89 a3 (A3) t3 hI101 (by omega) (by omega)) cw_RX12_153 (jc_55 cI cL ad σ τ) rfl ⟨Nat.le_of_ble_eq_true rfl, Nat.le_of_ble_eq_true rfl⟩ rfl rfl rfl hl.1 rfl (Nat.le_of_ble_eq_true rfl) dX12_edge_56 ⟨Nat.zero_le _, Nat.zero_le _⟩ (fun r91 σ90 τ90 H locs h90 hP hS => ?_)
            obtain ⟨rfl, f92, f93, I94, w95, h90⟩ := h90
            obtain ⟨i96, i97, i98, w99, w100, w101, w102⟩ : (0 ≤ (σ90 55 5).toInt) ∧ ((σ90 55 5).toInt ≤ (σ90 55 4).toInt) ∧ ((σ90 55 4).toInt ≤ 40) ∧ (∀ k : Nat, k < 68 → (-200) ≤ (σ90 56 k).toInt ∧ (σ90 56 k).toInt ≤ 500) ∧ (∀ k : Nat, k < 40 → 0 ≤ (σ90 57 k).toInt ∧ (σ90 57 k).toInt ≤ 67) ∧ (∀ k : Nat, k < 40 → (-200) ≤ (σ90 58 k).toInt ∧ (σ90 58 k).toInt ≤ 500) ∧ (∀ k : Nat, k < 40 → (-200) ≤ (σ90 59 k).toInt ∧ (σ90 59 k).toInt ≤ 500) := id I94
            refine lv_goto (tgt := 64) hx hb dX12_edge_59 (by decide) ?_
            exact hret r91 σ90 τ _ _ _ _ rfl ⟨rfl, (fun i hi => (f92 i hi)), (fun i hi => (f93 i hi)), I94, Or.inr (⟨trivial, ⟨(by unfold jEok; omega), (A1 / 10) + 32, (by unfold jEpl; omega), w95⟩⟩)⟩ hP hS dX12_edge_64
          · obtain ⟨q104, k103⟩ := h85
            have q104 := q104.symm
            subst q104
            refine lv_if_eq (tgt := 62) hx hb dX12_edge_44 (by decide) (fun _ => ?_) (fun c => absurd (by decide) c)
            refine lv_ldc (v := (-2000000000)) hx hb hown (hts _ kw_11_4) dX12_edge_62 ?_
            exact hret (-2000000000) σ τ _ _ _ _ rfl ⟨rfl, (fun _ _ => rfl), (fun _ _ => rfl), hI101, Or.inl ⟨rfl, (by have h9 := jz_m2000000000; omega), (by have h9 := jz_m2000000000; omega), (fun h => by unfold jEok at h; omega), ⟨rfl, rfl, rfl, rfl⟩⟩⟩ hP hS dX12_edge_64
      · obtain ⟨q106, k105⟩ := h22
        have q106 := q106.symm
        subst q106
        refine lv_if_ne (tgt := 30) hx hb dX12_edge_24 (by decide) (fun c => absurd (by decide) c) (fun _ => ?_)
        refine lv_ldc (v := (-2000000000)) hx hb hown (hts _ kw_11_4) dX12_edge_27 ?_
        exact hret (-2000000000) σ τ _ _ _ _ rfl ⟨rfl, (fun _ _ => rfl), (fun _ _ => rfl), hI101, Or.inl ⟨rfl, (by have h9 := jz_m2000000000; omega), (by have h9 := jz_m2000000000; omega), (fun h => by unfold jEok at h; omega), ⟨rfl, rfl, rfl, rfl⟩⟩⟩ hP hS dX12_edge_29
    · obtain ⟨q108, k107⟩ := h16
      have q108 := q108.symm
      subst q108
      refine lv_if_eq (tgt := 27) hx hb dX12_edge_12 (by decide) (fun _ => ?_) (fun c => absurd (by decide) c)
      refine lv_ldc (v := (-2000000000)) hx hb hown (hts _ kw_11_4) dX12_edge_27 ?_
      exact hret (-2000000000) σ τ _ _ _ _ rfl ⟨rfl, (fun _ _ => rfl), (fun _ _ => rfl), hI101, Or.inl ⟨rfl, (by have h9 := jz_m2000000000; omega), (by have h9 := jz_m2000000000; omega), (fun h => by unfold jEok at h; omega), ⟨rfl, rfl, rfl, rfl⟩⟩⟩ hP hS dX12_edge_29
set_option maxHeartbeats 4000000 in
set_option maxRecDepth 100000 in
theorem c_X12_field (l : Launch) (D : va_G) (cI cL : ClassId) (ad zz : Nat → Nat) (hJ : jD ad) (σ : Nat → Nat → Int32) (τ : Nat → Nat → Int64) (a1 : Int32) (A1 : Int) (t1 : a1.toInt = A1) (a2 : Int32) (A2 : Int) (t2 : a2.toInt = A2) (a3 : Int32) (A3 : Int) (t3 : a3.toInt = A3) (hI101 : jI101 σ) : jM l yX12_field cX12_field 5 (some .int) ({ frames := 1, cells := 0, slots := 0, locals := 25 }) D cI cL ad zz [.ref (ad 55), .int a1, .int a2, .int a3] σ τ (fun r σ' τ' => τ = τ' ∧ (∀ i : Nat, (i < 55 ∨ 59 < i) → σ' i = σ i) ∧ (∀ k : Nat, (k < 4 ∨ 4 < k) ∧ (k < 5 ∨ 5 < k) → σ' 55 k = σ 55 k) ∧ (jI101 σ') ∧ ((r = (-2000000000) ∧ ((σ' 55 5).toInt = (σ 55 5).toInt) ∧ ((σ' 55 4).toInt = (σ 55 4).toInt) ∧ (¬ jFok (A1) (A2) (A3) ((σ 55 6).toInt)) ∧ (σ' 56 = σ 56 ∧ σ' 57 = σ 57 ∧ σ' 58 = σ 58 ∧ σ' 59 = σ 59)) ∨ (True ∧ (jFok (A1) (A2) (A3) ((σ 55 6).toInt) ∧ ∃ q : Int, jFpl (A1) (A2) q ∧ jChg (q) a3 r (σ 56) (σ' 56) (σ 57) (σ' 57) (σ 58) (σ' 58) (σ 59) (σ' 59) (σ 55 5).toInt (σ' 55 5).toInt (σ 55 4).toInt (σ' 55 4).toInt)))) := by
  refine jM.of hJ (by decide +kernel) (nt := .int) rfl (Nat.le_of_ble_eq_true rfl) ?_
  intro p e s m args below meth c Q ls hC hret hl hP
  obtain ⟨hx, hb, hr, hml, hown, hts, hK, -, hlocks, hZ⟩ := hC
  have hown : s.vm.findClass RX12 = some m.cls := hown
  have hS : va_S (jA ad) s.heap s.heap [] := va_S.rf
  have hA : ∀ q, jA ad q → jA ad q := fun _ h => h
  have hl : lv_has ls 5 [(0, .ref (ad 55)), (1, .int a1), (2, .int a2), (3, .int a3)] := hl
  have g1 := jrg t1
  have g2 := jrg t2
  have g3 := jrg t3
  obtain ⟨i1, i2, i3, w4, w5, w6, w7⟩ : (0 ≤ (σ 55 5).toInt) ∧ ((σ 55 5).toInt ≤ (σ 55 4).toInt) ∧ ((σ 55 4).toInt ≤ 40) ∧ (∀ k : Nat, k < 68 → (-200) ≤ (σ 56 k).toInt ∧ (σ 56 k).toInt ≤ 500) ∧ (∀ k : Nat, k < 40 → 0 ≤ (σ 57 k).toInt ∧ (σ 57 k).toInt ≤ 67) ∧ (∀ k : Nat, k < 40 → (-200) ≤ (σ 58 k).toInt ∧ (σ 58 k).toInt ≤ 500) ∧ (∀ k : Nat, k < 40 → (-200) ≤ (σ 59 k).toInt ∧ (σ 59 k).toInt ≤ 500) := id hI101
  refine lv_iload_n hx hb dX12_field_0 rfl (lv_at hl 1 rfl) ?_
  refine lv_if_lt (tgt := 69) hx hb dX12_field_1 (by decide) (fun c8 => ?_) (fun c8 => ?_)
  · have kc8 := jlt c8 t1 jz_0
    refine lv_iconst (v := 0) hx hb dX12_field_69 (by decide) ?_
    refine lv_istore (lv' := [(4, .int 0), (0, .ref (ad 55)), (1, .int a1), (2, .int a2), (3, .int a3)]) hx hb dX12_field_70 hl (by decide) rfl (fun ls hl => ?_)
    refine lv_iload hx hb dX12_field_72 (lv_at hl 0 rfl) ?_
    refine lv_if_eq (tgt := 108) hx hb dX12_field_74 (by decide) (fun _ => ?_) (fun c => absurd (by decide) c)
    refine lv_ldc (v := (-2000000000)) hx hb hown (hts _ kw_11_4) dX12_field_108 ?_
    exact hret (-2000000000) σ τ _ _ _ _ rfl ⟨rfl, (fun _ _ => rfl), (fun _ _ => rfl), hI101, Or.inl ⟨rfl, (by have h9 := jz_m2000000000; omega), (by have h9 := jz_m2000000000; omega), (fun h => by unfold jFok at h; omega), ⟨rfl, rfl, rfl, rfl⟩⟩⟩ hP hS dX12_field_110
  · have kc8 := jnlt c8 t1 jz_0
    refine lv_iload_n hx hb dX12_field_4 rfl (lv_at hl 1 rfl) ?_
    refine lv_bipush (v := 10) hx hb dX12_field_5 (by decide) ?_
    refine lv_idiv hx hb dX12_field_7 (by decide) ?_
    refine lv_topi (fun x9 ex9 => ?_)
    have tx9 : x9.toInt = (A1 / 10) := jdiv ex9 t1 jz_10 (by omega) (by omega)
    refine lv_iconst (v := 4) hx hb dX12_field_8 (by decide) ?_
    refine lv_icmp_ge (tgt := 69) hx hb dX12_field_9 (by decide) (fun c10 => ?_) (fun c10 => ?_)
    · have kc10 := jle c10 jz_4 tx9
      refine lv_iconst (v := 0) hx hb dX12_field_69 (by decide) ?_
      refine lv_istore (lv' := [(4, .int 0), (0, .ref (ad 55)), (1, .int a1), (2, .int a2), (3, .int a3)]) hx hb dX12_field_70 hl (by decide) rfl (fun ls hl => ?_)
      refine lv_iload hx hb dX12_field_72 (lv_at hl 0 rfl) ?_
      refine lv_if_eq (tgt := 108) hx hb dX12_field_74 (by decide) (fun _ => ?_) (fun c => absurd (by decide) c)
      refine lv_ldc (v := (-2000000000)) hx hb hown (hts _ kw_11_4) dX12_field_108 ?_
      exact hret (-2000000000) σ τ _ _ _ _ rfl ⟨rfl, (fun _ _ => rfl), (fun _ _ => rfl), hI101, Or.inl ⟨rfl, (by have h9 := jz_m2000000000; omega), (by have h9 := jz_m2000000000; omega), (fun h => by unfold jFok at h; omega), ⟨rfl, rfl, rfl, rfl⟩⟩⟩ hP hS dX12_field_110
    · have kc10 := jnle c10 jz_4 tx9
      refine lv_iload_n hx hb dX12_field_12 rfl (lv_at hl 1 rfl) ?_
      refine lv_bipush (v := 10) hx hb dX12_field_13 (by decide) ?_
      refine lv_irem hx hb dX12_field_15 (by decide) ?_
      refine lv_topi (fun x11 ex11 => ?_)
      have tx11 : x11.toInt = (A1 % 10) := jrem ex11 t1 jz_10 (by omega)
      refine lv_iconst (v := 4) hx hb dX12_field_16 (by decide) ?_
      refine lv_icmp_ge (tgt := 69) hx hb dX12_field_17 (by decide) (fun c12 => ?_) (fun c12 => ?_)
      · have kc12 := jle c12 jz_4 tx11
        refine lv_iconst (v := 0) hx hb dX12_field_69 (by decide) ?_
        refine lv_istore (lv' := [(4, .int 0), (0, .ref (ad 55)), (1, .int a1), (2, .int a2), (3, .int a3)]) hx hb dX12_field_70 hl (by decide) rfl (fun ls hl => ?_)
        refine lv_iload hx hb dX12_field_72 (lv_at hl 0 rfl) ?_
        refine lv_if_eq (tgt := 108) hx hb dX12_field_74 (by decide) (fun _ => ?_) (fun c => absurd (by decide) c)
        refine lv_ldc (v := (-2000000000)) hx hb hown (hts _ kw_11_4) dX12_field_108 ?_
        exact hret (-2000000000) σ τ _ _ _ _ rfl ⟨rfl, (fun _ _ => rfl), (fun _ _ => rfl), hI101, Or.inl ⟨rfl, (by have h9 := jz_m2000000000; omega), (by have h9 := jz_m2000000000; omega), (fun h => by unfold jFok at h; omega), ⟨rfl, rfl, rfl, rfl⟩⟩⟩ hP hS dX12_field_110
      · have kc12 := jnle c12 jz_4 tx11
        refine lv_iload_n hx hb dX12_field_20 rfl (lv_at hl 2 rfl) ?_
        refine lv_i2l (v := a2.toInt64) hx hb dX12_field_21 rfl ?_
        refine lv_lconst (v := 0) hx hb dX12_field_22 (by decide) ?_
        refine lv_lconst (v := 1) hx hb dX12_field_23 (by decide) ?_
        refine jcallS (As := [.long a2.toInt64, .long 0, .long 1]) (rest := []) ⟨hx, hb, hml, hown, hts⟩ hK hP hA hS hZ (c_X12_within l D cI cL ad zz hJ σ τ a2.toInt64 (A2) (jtoL t2) 0 (0) jzl_0 1 (1) jzl_1) cw_RX12_136 ⟨Nat.le_of_ble_eq_true rfl, Nat.le_of_ble_eq_true rfl⟩ rfl rfl rfl hl.1 rfl (Nat.le_of_ble_eq_true rfl) dX12_field_24 ⟨Nat.zero_le _, Nat.zero_le _⟩ (fun r14 σ13 τ13 H locs h13 hP hS => ?_)
        obtain ⟨⟨rfl, rfl⟩, h13⟩ := h13
        rcases h13 with h15 | h16
        · obtain ⟨q18, k17⟩ := h15
          have q18 := q18.symm
          subst q18
          refine lv_if_eq (tgt := 69) hx hb dX12_field_27 (by decide) (fun c => absurd c (by decide)) (fun _ => ?_)
          refine lv_iload_n hx hb dX12_field_30 rfl (lv_at hl 2 rfl) ?_
          refine lv_if_ne (tgt := 51) hx hb dX12_field_31 (by decide) (fun c19 => ?_) (fun c19 => ?_)
          · have kc19 := jne c19 t2 jz_0
            refine lv_iload_n hx hb dX12_field_51 rfl (lv_at hl 3 rfl) ?_
            refine lv_i2l (v := a3.toInt64) hx hb dX12_field_52 rfl ?_
            refine lv_ldc2 (v := (-9)) hx hb hown (hts _ kw_11_6) dX12_field_53 ?_
            refine lv_ldc2 (v := 9) hx hb hown (hts _ kw_11_7) dX12_field_56 ?_
            refine jcallS (As := [.long a3.toInt64, .long (-9), .long 9]) (rest := []) ⟨hx, hb, hml, hown, hts⟩ hK hP hA hS hZ (c_X12_within l D cI cL ad zz hJ σ τ a3.toInt64 (A3) (jtoL t3) (-9) ((-9)) jzl_m9 9 (9) jzl_9) cw_RX12_136 ⟨Nat.le_of_ble_eq_true rfl, Nat.le_of_ble_eq_true rfl⟩ rfl rfl rfl hl.1 rfl (Nat.le_of_ble_eq_true rfl) dX12_field_59 ⟨Nat.zero_le _, Nat.zero_le _⟩ (fun r21 σ20 τ20 H locs h20 hP hS => ?_)
            obtain ⟨⟨rfl, rfl⟩, h20⟩ := h20
            rcases h20 with h22 | h23
            · obtain ⟨q25, k24⟩ := h22
              have q25 := q25.symm
              subst q25
              refine lv_if_eq (tgt := 69) hx hb dX12_field_62 (by decide) (fun c => absurd c (by decide)) (fun _ => ?_)
              refine lv_iconst (v := 1) hx hb dX12_field_65 (by decide) ?_
              refine lv_goto (tgt := 70) hx hb dX12_field_66 (by decide) ?_
              refine lv_istore (lv' := [(4, .int 1), (0, .ref (ad 55)), (1, .int a1), (2, .int a2), (3, .int a3)]) hx hb dX12_field_70 hl (by decide) rfl (fun ls hl => ?_)
              refine lv_iload hx hb dX12_field_72 (lv_at hl 0 rfl) ?_
              refine lv_if_eq (tgt := 108) hx hb dX12_field_74 (by decide) (fun c => absurd c (by decide)) (fun _ => ?_)
              refine lv_aload_n hx hb dX12_field_77 rfl (lv_at hl 1 rfl) ?_
              refine lv_iload_n hx hb dX12_field_78 rfl (lv_at hl 3 rfl) ?_
              refine lv_if_ne (tgt := 87) hx hb dX12_field_79 (by decide) (fun c26 => ?_) (fun c => absurd (jeq c t2 jz_0) (by omega))
              have kc26 := jne c26 t2 jz_0
              refine lv_bipush (v := 52) hx hb dX12_field_87 (by decide) ?_
              refine lv_iconst (v := 4) hx hb dX12_field_89 (by decide) ?_
              refine lv_iload_n hx hb dX12_field_90 rfl (lv_at hl 2 rfl) ?_
              refine lv_bipush (v := 10) hx hb dX12_field_91 (by decide) ?_
              refine lv_idiv hx hb dX12_field_93 (by decide) ?_
              refine lv_topi (fun x27 ex27 => ?_)
              have tx27 : x27.toInt = (A1 / 10) := jdiv ex27 t1 jz_10 (by omega) (by omega)
              refine lv_imul hx hb dX12_field_94 ?_
              refine lv_topi (fun x28 ex28 => ?_)
              have tx28 : x28.toInt = 4 * (A1 / 10) := (jmul ex28 jz_4 tx27 (by omega) (by omega)).trans (by omega)
              refine lv_iadd hx hb dX12_field_95 ?_
              refine lv_topi (fun x29 ex29 => ?_)
              have tx29 : x29.toInt = 4 * (A1 / 10) + 52 := (jadd ex29 jz_52 tx28 (by omega) (by omega)).trans (by omega)
              refine lv_iload_n hx hb dX12_field_96 rfl (lv_at hl 2 rfl) ?_
              refine lv_bipush (v := 10) hx hb dX12_field_97 (by decide) ?_
              refine lv_irem hx hb dX12_field_99 (by decide) ?_
              refine lv_topi (fun x30 ex30 => ?_)
              have tx30 : x30.toInt = (A1 % 10) := jrem ex30 t1 jz_10 (by omega)
              refine lv_iadd hx hb dX12_field_100 ?_
              refine lv_topi (fun x31 ex31 => ?_)
              have tx31 : x31.toInt = 4 * (A1 / 10) + (A1 % 10) + 52 := (jadd ex31 tx29 tx30 (by omega) (by omega)).trans (by omega)
              refine lv_iload_n hx hb dX12_field_101 rfl (lv_at hl 4 rfl) ?_
              refine jcallV (As := [.int x31, .int a3]) (rest := []) ⟨hx, hb, hml, hown, hts⟩ hK hP hA hS hZ (c_X12_becomes l D cI cL ad zz hJ σ τ x31 (4 * (A1 / 10) + (A1 % 10) + 52) tx31 a3 (A3) t3 hI101 (by omega) (by omega)) cw_RX12_153 (jc_55 cI cL ad σ τ) rfl ⟨Nat.le_of_ble_eq_true rfl, Nat.le_of_ble_eq_true rfl⟩ rfl rfl rfl hl.1 rfl (Nat.le_of_ble_eq_true rfl) dX12_field_102 ⟨Nat.zero_le _, Nat.zero_le _⟩ (fun r33 σ32 τ32 H locs h32 hP hS => ?_)
              obtain ⟨rfl, f34, f35, I36, w37, h32⟩ := h32
              obtain ⟨i38, i39, i40, w41, w42, w43, w44⟩ : (0 ≤ (σ32 55 5).toInt) ∧ ((σ32 55 5).toInt ≤ (σ32 55 4).toInt) ∧ ((σ32 55 4).toInt ≤ 40) ∧ (∀ k : Nat, k < 68 → (-200) ≤ (σ32 56 k).toInt ∧ (σ32 56 k).toInt ≤ 500) ∧ (∀ k : Nat, k < 40 → 0 ≤ (σ32 57 k).toInt ∧ (σ32 57 k).toInt ≤ 67) ∧ (∀ k : Nat, k < 40 → (-200) ≤ (σ32 58 k).toInt ∧ (σ32 58 k).toInt ≤ 500) ∧ (∀ k : Nat, k < 40 → (-200) ≤ (σ32 59 k).toInt ∧ (σ32 59 k).toInt ≤ 500) := id I36
              refine lv_goto (tgt := 110) hx hb dX12_field_105 (by decide) ?_
              exact hret r33 σ32 τ _ _ _ _ rfl ⟨rfl, (fun i hi => (f34 i hi)), (fun i hi => (f35 i hi)), I36, Or.inr (⟨trivial, ⟨(by unfold jFok; omega), 4 * (A1 / 10) + (A1 % 10) + 52, (by unfold jFpl; omega), w37⟩⟩)⟩ hP hS dX12_field_110
            · obtain ⟨q46, k45⟩ := h23
              have q46 := q46.symm
              subst q46
              refine lv_if_eq (tgt := 69) hx hb dX12_field_62 (by decide) (fun _ => ?_) (fun c => absurd (by decide) c)
              refine lv_iconst (v := 0) hx hb dX12_field_69 (by decide) ?_
              refine lv_istore (lv' := [(4, .int 0), (0, .ref (ad 55)), (1, .int a1), (2, .int a2), (3, .int a3)]) hx hb dX12_field_70 hl (by decide) rfl (fun ls hl => ?_)
              refine lv_iload hx hb dX12_field_72 (lv_at hl 0 rfl) ?_
              refine lv_if_eq (tgt := 108) hx hb dX12_field_74 (by decide) (fun _ => ?_) (fun c => absurd (by decide) c)
              refine lv_ldc (v := (-2000000000)) hx hb hown (hts _ kw_11_4) dX12_field_108 ?_
              exact hret (-2000000000) σ τ _ _ _ _ rfl ⟨rfl, (fun _ _ => rfl), (fun _ _ => rfl), hI101, Or.inl ⟨rfl, (by have h9 := jz_m2000000000; omega), (by have h9 := jz_m2000000000; omega), (fun h => by unfold jFok at h; omega), ⟨rfl, rfl, rfl, rfl⟩⟩⟩ hP hS dX12_field_110
          · have kc19 := jeq c19 t2 jz_0
            refine lv_iload_n hx hb dX12_field_34 rfl (lv_at hl 3 rfl) ?_
            refine lv_i2l (v := a3.toInt64) hx hb dX12_field_35 rfl ?_
            refine lv_ldc2 (v := (-200)) hx hb hown (hts _ kw_12_2) dX12_field_36 ?_
            refine lv_ldc2 (v := 200) hx hb hown (hts _ kw_12_3) dX12_field_39 ?_
            refine jcallS (As := [.long a3.toInt64, .long (-200), .long 200]) (rest := []) ⟨hx, hb, hml, hown, hts⟩ hK hP hA hS hZ (c_X12_within l D cI cL ad zz hJ σ τ a3.toInt64 (A3) (jtoL t3) (-200) ((-200)) jzl_m200 200 (200) jzl_200) cw_RX12_136 ⟨Nat.le_of_ble_eq_true rfl, Nat.le_of_ble_eq_true rfl⟩ rfl rfl rfl hl.1 rfl (Nat.le_of_ble_eq_true rfl) dX12_field_42 ⟨Nat.zero_le _, Nat.zero_le _⟩ (fun r48 σ47 τ47 H locs h47 hP hS => ?_)
            obtain ⟨⟨rfl, rfl⟩, h47⟩ := h47
            rcases h47 with h49 | h50
            · obtain ⟨q52, k51⟩ := h49
              have q52 := q52.symm
              subst q52
              refine lv_if_eq (tgt := 69) hx hb dX12_field_45 (by decide) (fun c => absurd c (by decide)) (fun _ => ?_)
              refine lv_goto (tgt := 65) hx hb dX12_field_48 (by decide) ?_
              refine lv_iconst (v := 1) hx hb dX12_field_65 (by decide) ?_
              refine lv_goto (tgt := 70) hx hb dX12_field_66 (by decide) ?_
              refine lv_istore (lv' := [(4, .int 1), (0, .ref (ad 55)), (1, .int a1), (2, .int a2), (3, .int a3)]) hx hb dX12_field_70 hl (by decide) rfl (fun ls hl => ?_)
              refine lv_iload hx hb dX12_field_72 (lv_at hl 0 rfl) ?_
              refine lv_if_eq (tgt := 108) hx hb dX12_field_74 (by decide) (fun c => absurd c (by decide)) (fun _ => ?_)
              refine lv_aload_n hx hb dX12_field_77 rfl (lv_at hl 1 rfl) ?_
              refine lv_iload_n hx hb dX12_field_78 rfl (lv_at hl 3 rfl) ?_
              refine lv_if_ne (tgt := 87) hx hb dX12_field_79 (by decide) (fun c => absurd (jne c t2 jz_0) (by omega)) (fun c53 => ?_)
              have kc53 := jeq c53 t2 jz_0
              refine lv_bipush (v := 36) hx hb dX12_field_82 (by decide) ?_
              refine lv_goto (tgt := 89) hx hb dX12_field_84 (by decide) ?_
              refine lv_iconst (v := 4) hx hb dX12_field_89 (by decide) ?_
              refine lv_iload_n hx hb dX12_field_90 rfl (lv_at hl 2 rfl) ?_
              refine lv_bipush (v := 10) hx hb dX12_field_91 (by decide) ?_
              refine lv_idiv hx hb dX12_field_93 (by decide) ?_
              refine lv_topi (fun x54 ex54 => ?_)
              have tx54 : x54.toInt = (A1 / 10) := jdiv ex54 t1 jz_10 (by omega) (by omega)
              refine lv_imul hx hb dX12_field_94 ?_
              refine lv_topi (fun x55 ex55 => ?_)
              have tx55 : x55.toInt = 4 * (A1 / 10) := (jmul ex55 jz_4 tx54 (by omega) (by omega)).trans (by omega)
              refine lv_iadd hx hb dX12_field_95 ?_
              refine lv_topi (fun x56 ex56 => ?_)
              have tx56 : x56.toInt = 4 * (A1 / 10) + 36 := (jadd ex56 jz_36 tx55 (by omega) (by omega)).trans (by omega)
              refine lv_iload_n hx hb dX12_field_96 rfl (lv_at hl 2 rfl) ?_
              refine lv_bipush (v := 10) hx hb dX12_field_97 (by decide) ?_
              refine lv_irem hx hb dX12_field_99 (by decide) ?_
              refine lv_topi (fun x57 ex57 => ?_)
              have tx57 : x57.toInt = (A1 % 10) := jrem ex57 t1 jz_10 (by omega)
              refine lv_iadd hx hb dX12_field_100 ?_
              refine lv_topi (fun x58 ex58 => ?_)
              have tx58 : x58.toInt = 4 * (A1 / 10) + (A1 % 10) + 36 := (jadd ex58 tx56 tx57 (by omega) (by omega)).trans (by omega)
              refine lv_iload_n hx hb dX12_field_101 rfl (lv_at hl 4 rfl) ?_
              refine jcallV (As := [.int x58, .int a3]) (rest := []) ⟨hx, hb, hml, hown, hts⟩ hK hP hA hS hZ (c_X12_becomes l D cI cL ad zz hJ σ τ x58 (4 * (A1 / 10) + (A1 % 10) + 36) tx58 a3 (A3) t3 hI101 (by omega) (by omega)) cw_RX12_153 (jc_55 cI cL ad σ τ) rfl ⟨Nat.le_of_ble_eq_true rfl, Nat.le_of_ble_eq_true rfl⟩ rfl rfl rfl hl.1 rfl (Nat.le_of_ble_eq_true rfl) dX12_field_102 ⟨Nat.zero_le _, Nat.zero_le _⟩ (fun r60 σ59 τ59 H locs h59 hP hS => ?_)
              obtain ⟨rfl, f61, f62, I63, w64, h59⟩ := h59
              obtain ⟨i65, i66, i67, w68, w69, w70, w71⟩ : (0 ≤ (σ59 55 5).toInt) ∧ ((σ59 55 5).toInt ≤ (σ59 55 4).toInt) ∧ ((σ59 55 4).toInt ≤ 40) ∧ (∀ k : Nat, k < 68 → (-200) ≤ (σ59 56 k).toInt ∧ (σ59 56 k).toInt ≤ 500) ∧ (∀ k : Nat, k < 40 → 0 ≤ (σ59 57 k).toInt ∧ (σ59 57 k).toInt ≤ 67) ∧ (∀ k : Nat, k < 40 → (-200) ≤ (σ59 58 k).toInt ∧ (σ59 58 k).toInt ≤ 500) ∧ (∀ k : Nat, k < 40 → (-200) ≤ (σ59 59 k).toInt ∧ (σ59 59 k).toInt ≤ 500) := id I63
              refine lv_goto (tgt := 110) hx hb dX12_field_105 (by decide) ?_
              exact hret r60 σ59 τ _ _ _ _ rfl ⟨rfl, (fun i hi => (f61 i hi)), (fun i hi => (f62 i hi)), I63, Or.inr (⟨trivial, ⟨(by unfold jFok; omega), 4 * (A1 / 10) + (A1 % 10) + 36, (by unfold jFpl; omega), w64⟩⟩)⟩ hP hS dX12_field_110
            · obtain ⟨q73, k72⟩ := h50
              have q73 := q73.symm
              subst q73
              refine lv_if_eq (tgt := 69) hx hb dX12_field_45 (by decide) (fun _ => ?_) (fun c => absurd (by decide) c)
              refine lv_iconst (v := 0) hx hb dX12_field_69 (by decide) ?_
              refine lv_istore (lv' := [(4, .int 0), (0, .ref (ad 55)), (1, .int a1), (2, .int a2), (3, .int a3)]) hx hb dX12_field_70 hl (by decide) rfl (fun ls hl => ?_)
              refine lv_iload hx hb dX12_field_72 (lv_at hl 0 rfl) ?_
              refine lv_if_eq (tgt := 108) hx hb dX12_field_74 (by decide) (fun _ => ?_) (fun c => absurd (by decide) c)
              refine lv_ldc (v := (-2000000000)) hx hb hown (hts _ kw_11_4) dX12_field_108 ?_
              exact hret (-2000000000) σ τ _ _ _ _ rfl ⟨rfl, (fun _ _ => rfl), (fun _ _ => rfl), hI101, Or.inl ⟨rfl, (by have h9 := jz_m2000000000; omega), (by have h9 := jz_m2000000000; omega), (fun h => by unfold jFok at h; omega), ⟨rfl, rfl, rfl, rfl⟩⟩⟩ hP hS dX12_field_110
        · obtain ⟨q75, k74⟩ := h16
          have q75 := q75.symm
          subst q75
          refine lv_if_eq (tgt := 69) hx hb dX12_field_27 (by decide) (fun _ => ?_) (fun c => absurd (by decide) c)
          refine lv_iconst (v := 0) hx hb dX12_field_69 (by decide) ?_
          refine lv_istore (lv' := [(4, .int 0), (0, .ref (ad 55)), (1, .int a1), (2, .int a2), (3, .int a3)]) hx hb dX12_field_70 hl (by decide) rfl (fun ls hl => ?_)
          refine lv_iload hx hb dX12_field_72 (lv_at hl 0 rfl) ?_
          refine lv_if_eq (tgt := 108) hx hb dX12_field_74 (by decide) (fun _ => ?_) (fun c => absurd (by decide) c)
          refine lv_ldc (v := (-2000000000)) hx hb hown (hts _ kw_11_4) dX12_field_108 ?_
          exact hret (-2000000000) σ τ _ _ _ _ rfl ⟨rfl, (fun _ _ => rfl), (fun _ _ => rfl), hI101, Or.inl ⟨rfl, (by have h9 := jz_m2000000000; omega), (by have h9 := jz_m2000000000; omega), (fun h => by unfold jFok at h; omega), ⟨rfl, rfl, rfl, rfl⟩⟩⟩ hP hS dX12_field_110
set_option maxHeartbeats 4000000 in
set_option maxRecDepth 100000 in
theorem c_X12_set (l : Launch) (D : va_G) (cI cL : ClassId) (ad zz : Nat → Nat) (hJ : jD ad) (σ : Nat → Nat → Int32) (τ : Nat → Nat → Int64) (a1 : Int32) (A1 : Int) (t1 : a1.toInt = A1) (hI103 : jI103 σ) : jM l yX12_set cX12_set 3 (some .int) ({ frames := 1, cells := 0, slots := 0, locals := 25 }) D cI cL ad zz [.ref (ad 55), .int a1] σ τ (fun r σ' τ' => τ = τ' ∧ (∀ i : Nat, (i < 55 ∨ 55 < i) → σ' i = σ i) ∧ (∀ k : Nat, (k < 9 ∨ 9 < k) → σ' 55 k = σ 55 k) ∧ (jI103 σ') ∧ ((True ∧ (0 ≤ A1 ∧ A1 ≤ 3) ∧ (r.toInt = (σ 55 9).toInt) ∧ ((σ' 55 9).toInt = A1)) ∨ (r = (-1) ∧ ((A1 < 0) ∨ (3 < A1)) ∧ ((σ' 55 9).toInt = (σ 55 9).toInt)))) := by
  refine jM.of hJ (by decide +kernel) (nt := .int) rfl (Nat.le_of_ble_eq_true rfl) ?_
  intro p e s m args below meth c Q ls hC hret hl hP
  obtain ⟨hx, hb, hr, hml, hown, hts, hK, -, hlocks, hZ⟩ := hC
  have hown : s.vm.findClass RX12 = some m.cls := hown
  have hS : va_S (jA ad) s.heap s.heap [] := va_S.rf
  have hA : ∀ q, jA ad q → jA ad q := fun _ h => h
  have hl : lv_has ls 3 [(0, .ref (ad 55)), (1, .int a1)] := hl
  have g1 := jrg t1
  have i1 : 0 ≤ (σ 55 9).toInt ∧ (σ 55 9).toInt ≤ 3 := hI103
  refine lv_iload_n hx hb dX12_set_0 rfl (lv_at hl 1 rfl) ?_
  refine lv_i2l (v := a1.toInt64) hx hb dX12_set_1 rfl ?_
  refine lv_lconst (v := 0) hx hb dX12_set_2 (by decide) ?_
  refine lv_ldc2 (v := 3) hx hb hown (hts _ kw_12_13) dX12_set_3 ?_
  refine jcallS (As := [.long a1.toInt64, .long 0, .long 3]) (rest := []) ⟨hx, hb, hml, hown, hts⟩ hK hP hA hS hZ (c_X12_within l D cI cL ad zz hJ σ τ a1.toInt64 (A1) (jtoL t1) 0 (0) jzl_0 3 (3) jzl_3) cw_RX12_136 ⟨Nat.le_of_ble_eq_true rfl, Nat.le_of_ble_eq_true rfl⟩ rfl rfl rfl hl.1 rfl (Nat.le_of_ble_eq_true rfl) dX12_set_6 ⟨Nat.zero_le _, Nat.zero_le _⟩ (fun r3 σ2 τ2 H locs h2 hP hS => ?_)
  obtain ⟨⟨rfl, rfl⟩, h2⟩ := h2
  rcases h2 with h4 | h5
  · obtain ⟨q7, k6⟩ := h4
    have q7 := q7.symm
    subst q7
    refine lv_if_ne (tgt := 14) hx hb dX12_set_9 (by decide) (fun _ => ?_) (fun c => absurd c (by decide))
    refine lv_aload_n hx hb dX12_set_14 rfl (lv_at hl 0 rfl) ?_
    refine va_get (D := D) hx hb hts inlX12 hown hK hP 55 (jc_55 cI cL ad σ τ) rfl 9 (by decide) (hts _ kw_12_14) (fun _ h9 => h9) rfl dX12_set_15 ?_
    refine lv_istore_n (lv' := [(2, .int (σ 55 9)), (0, .ref (ad 55)), (1, .int a1)]) hx hb dX12_set_18 rfl hl (by decide) rfl (fun ls hl => ?_)
    refine lv_aload_n hx hb dX12_set_19 rfl (lv_at hl 1 rfl) ?_
    refine lv_iload_n hx hb dX12_set_20 rfl (lv_at hl 2 rfl) ?_
    refine jput (ty := .int) hx hb hts inlX12 tyX12 tyX12_ok nmX12 hown hK hP hJ hA hS (jc_55 cI cL ad σ τ) rfl (k := 9) (by decide) (Nat.le_of_ble_eq_true rfl) (jp_55_9 cI cL ad σ τ a1) (hts _ kw_12_14) (fun _ h9 => h9) rfl (by decide +kernel) rfl rfl dX12_set_21 (fun σ8 H locs eσ8 hP hS => ?_)
    refine lv_iload_n hx hb dX12_set_24 rfl (lv_at hl 0 rfl) ?_
    have z9 : (σ8 55 9).toInt = A1 := ((congrArg Int32.toInt (show σ8 55 9 = a1 from (jsp eσ8))).trans t1)
    have I10 : jI103 σ8 := (show 0 ≤ (σ8 55 9).toInt ∧ (σ8 55 9).toInt ≤ 3 by omega)
    exact hret (σ 55 9) σ8 τ _ _ _ _ rfl ⟨rfl, (fun i hi => (jnp i eσ8 (imp_164 i hi))), (fun i hi => (jkp i eσ8 (imp_37 i hi))), I10, Or.inl ⟨trivial, (by omega), (by omega), (by omega)⟩⟩ hP hS dX12_set_25
  · obtain ⟨q12, k11⟩ := h5
    have q12 := q12.symm
    subst q12
    refine lv_if_ne (tgt := 14) hx hb dX12_set_9 (by decide) (fun c => absurd (by decide) c) (fun _ => ?_)
    refine lv_iconst (v := (-1)) hx hb dX12_set_12 (by decide) ?_
    exact hret (-1) σ τ _ _ _ _ rfl ⟨rfl, (fun _ _ => rfl), (fun _ _ => rfl), hI103, Or.inr (⟨rfl, (by have h9 := jz_m1; omega), (by have h9 := jz_m1; omega)⟩)⟩ hP hS dX12_set_13
set_option maxHeartbeats 4000000 in
set_option maxRecDepth 100000 in
theorem c_X12_learn (l : Launch) (D : va_G) (cI cL : ClassId) (ad zz : Nat → Nat) (hJ : jD ad) (σ : Nat → Nat → Int32) (τ : Nat → Nat → Int64) (a1 : Int32) (A1 : Int) (t1 : a1.toInt = A1) (a2 : Int32) (A2 : Int) (t2 : a2.toInt = A2) (hI101 : jI101 σ) (hI102 : jI102 σ) : jM l yX12_learn cX12_learn 6 (some .int) ({ frames := 2, cells := 0, slots := 0, locals := 46 }) D cI cL ad zz [.ref (ad 55), .int a1, .int a2] σ τ (fun r σ' τ' => τ = τ' ∧ (∀ i : Nat, (i < 55 ∨ 59 < i) → σ' i = σ i) ∧ (∀ k : Nat, (k < 4 ∨ 4 < k) ∧ (k < 5 ∨ 5 < k) → σ' 55 k = σ 55 k) ∧ (jI101 σ') ∧ ((r = (-1) ∧ ((A1 < 0) ∨ (0 ≤ A1 ∧ (σ 55 6).toInt ≤ (A1 / 10)) ∨ (0 ≤ A1 ∧ 3 < (A1 % 10)) ∨ (A2 < 0) ∨ (9999 < A2) ∨ (0 ≤ A2 ∧ (A2 / 100) < (A2 % 100))) ∧ ((σ' 55 5).toInt = (σ 55 5).toInt) ∧ ((σ' 55 4).toInt = (σ 55 4).toInt) ∧ (σ' 56 = σ 56 ∧ σ' 57 = σ 57 ∧ σ' 58 = σ 58 ∧ σ' 59 = σ 59)) ∨ (True ∧ (0 ≤ A1) ∧ ((A1 / 10) < (σ 55 6).toInt) ∧ ((A1 % 10) ≤ 3) ∧ (0 ≤ A2 ∧ A2 ≤ 9999) ∧ ((A2 % 100) ≤ (A2 / 100)) ∧ ((((1000 * (A2 % 100) + 1000) / ((A2 / 100) + 2)) ≤ 500 ∧ r.toInt = ((1000 * (A2 % 100) + 1000) / ((A2 / 100) + 2))) ∨ (500 < ((1000 * (A2 % 100) + 1000) / ((A2 / 100) + 2)) ∧ r.toInt = 500)) ∧ (∃ (q : Int) (w : Int32), q = 4 * ((A1) / 10) + (A1) % 10 ∧ jChg (q) r w (σ 56) (σ' 56) (σ 57) (σ' 57) (σ 58) (σ' 58) (σ 59) (σ' 59) (σ 55 5).toInt (σ' 55 5).toInt (σ 55 4).toInt (σ' 55 4).toInt)))) := by
  refine jM.of hJ (by decide +kernel) (nt := .int) rfl (Nat.le_of_ble_eq_true rfl) ?_
  intro p e s m args below meth c Q ls hC hret hl hP
  obtain ⟨hx, hb, hr, hml, hown, hts, hK, -, hlocks, hZ⟩ := hC
  have hown : s.vm.findClass RX12 = some m.cls := hown
  have hS : va_S (jA ad) s.heap s.heap [] := va_S.rf
  have hA : ∀ q, jA ad q → jA ad q := fun _ h => h
  have hl : lv_has ls 6 [(0, .ref (ad 55)), (1, .int a1), (2, .int a2)] := hl
  have g1 := jrg t1
  have g2 := jrg t2
  obtain ⟨i1, i2, i3, w4, w5, w6, w7⟩ : (0 ≤ (σ 55 5).toInt) ∧ ((σ 55 5).toInt ≤ (σ 55 4).toInt) ∧ ((σ 55 4).toInt ≤ 40) ∧ (∀ k : Nat, k < 68 → (-200) ≤ (σ 56 k).toInt ∧ (σ 56 k).toInt ≤ 500) ∧ (∀ k : Nat, k < 40 → 0 ≤ (σ 57 k).toInt ∧ (σ 57 k).toInt ≤ 67) ∧ (∀ k : Nat, k < 40 → (-200) ≤ (σ 58 k).toInt ∧ (σ 58 k).toInt ≤ 500) ∧ (∀ k : Nat, k < 40 → (-200) ≤ (σ 59 k).toInt ∧ (σ 59 k).toInt ≤ 500) := id hI101
  obtain ⟨i8, w9, w10⟩ : (0 ≤ (σ 55 6).toInt ∧ (σ 55 6).toInt ≤ 4) ∧ (∀ k : Nat, k < 4 → 0 ≤ (σ 60 k).toInt ∧ (σ 60 k).toInt ≤ 50) ∧ (∀ k : Nat, k < 4 → 0 ≤ (σ 61 k).toInt ∧ (σ 61 k).toInt ≤ 20) := id hI102
  refine lv_iload_n hx hb dX12_learn_0 rfl (lv_at hl 1 rfl) ?_
  refine lv_if_lt (tgt := 46) hx hb dX12_learn_1 (by decide) (fun c11 => ?_) (fun c11 => ?_)
  · have kc11 := jlt c11 t1 jz_0
    refine lv_iconst (v := (-1)) hx hb dX12_learn_46 (by decide) ?_
    exact hret (-1) σ τ _ _ _ _ rfl ⟨rfl, (fun _ _ => rfl), (fun _ _ => rfl), hI101, Or.inl ⟨rfl, (by have h9 := jz_m1; omega), (by have h9 := jz_m1; omega), (by have h9 := jz_m1; omega), ⟨rfl, rfl, rfl, rfl⟩⟩⟩ hP hS dX12_learn_47
  · have kc11 := jnlt c11 t1 jz_0
    refine lv_aload_n hx hb dX12_learn_4 rfl (lv_at hl 0 rfl) ?_
    refine lv_iload_n hx hb dX12_learn_5 rfl (lv_at hl 1 rfl) ?_
    refine lv_bipush (v := 10) hx hb dX12_learn_6 (by decide) ?_
    refine lv_idiv hx hb dX12_learn_8 (by decide) ?_
    refine lv_topi (fun x12 ex12 => ?_)
    have tx12 : x12.toInt = (A1 / 10) := jdiv ex12 t1 jz_10 (by omega) (by omega)
    refine jcallV (As := [.int x12]) (rest := []) ⟨hx, hb, hml, hown, hts⟩ hK hP hA hS hZ (c_X12_isBowler l D cI cL ad zz hJ σ τ x12 ((A1 / 10)) tx12 hI102) cw_RX12_146 (jc_55 cI cL ad σ τ) rfl ⟨Nat.le_of_ble_eq_true rfl, Nat.le_of_ble_eq_true rfl⟩ rfl rfl rfl hl.1 rfl (Nat.le_of_ble_eq_true rfl) dX12_learn_9 ⟨Nat.zero_le _, Nat.zero_le _⟩ (fun r14 σ13 τ13 H locs h13 hP hS => ?_)
    obtain ⟨⟨rfl, rfl⟩, h13⟩ := h13
    rcases h13 with h15 | h16
    · obtain ⟨q18, k17⟩ := h15
      have q18 := q18.symm
      subst q18
      refine lv_if_eq (tgt := 46) hx hb dX12_learn_12 (by decide) (fun c => absurd c (by decide)) (fun _ => ?_)
      refine lv_iload_n hx hb dX12_learn_15 rfl (lv_at hl 1 rfl) ?_
      refine lv_bipush (v := 10) hx hb dX12_learn_16 (by decide) ?_
      refine lv_irem hx hb dX12_learn_18 (by decide) ?_
      refine lv_topi (fun x19 ex19 => ?_)
      have tx19 : x19.toInt = (A1 % 10) := jrem ex19 t1 jz_10 (by omega)
      refine lv_iconst (v := 4) hx hb dX12_learn_19 (by decide) ?_
      refine lv_icmp_ge (tgt := 46) hx hb dX12_learn_20 (by decide) (fun c20 => ?_) (fun c20 => ?_)
      · have kc20 := jle c20 jz_4 tx19
        refine lv_iconst (v := (-1)) hx hb dX12_learn_46 (by decide) ?_
        exact hret (-1) σ τ _ _ _ _ rfl ⟨rfl, (fun _ _ => rfl), (fun _ _ => rfl), hI101, Or.inl ⟨rfl, (by have h9 := jz_m1; omega), (by have h9 := jz_m1; omega), (by have h9 := jz_m1; omega), ⟨rfl, rfl, rfl, rfl⟩⟩⟩ hP hS dX12_learn_47
      · have kc20 := jnle c20 jz_4 tx19
        refine lv_iload_n hx hb dX12_learn_23 rfl (lv_at hl 2 rfl) ?_
        refine lv_i2l (v := a2.toInt64) hx hb dX12_learn_24 rfl ?_
        refine lv_lconst (v := 0) hx hb dX12_learn_25 (by decide) ?_
        refine lv_ldc2 (v := 9999) hx hb hown (hts _ kw_41_8) dX12_learn_26 ?_
        refine jcallS (As := [.long a2.toInt64, .long 0, .long 9999]) (rest := []) ⟨hx, hb, hml, hown, hts⟩ hK hP hA hS hZ (c_X12_within l D cI cL ad zz hJ σ τ a2.toInt64 (A2) (jtoL t2) 0 (0) jzl_0 9999 (9999) jzl_9999) cw_RX12_136 ⟨Nat.le_of_ble_eq_true rfl, Nat.le_of_ble_eq_true rfl⟩ rfl rfl rfl hl.1 rfl (Nat.le_of_ble_eq_true rfl) dX12_learn_29 ⟨Nat.zero_le _, Nat.zero_le _⟩ (fun r22 σ21 τ21 H locs h21 hP hS => ?_)
        obtain ⟨⟨rfl, rfl⟩, h21⟩ := h21
        rcases h21 with h23 | h24
        · obtain ⟨q26, k25⟩ := h23
          have q26 := q26.symm
          subst q26
          refine lv_if_eq (tgt := 46) hx hb dX12_learn_32 (by decide) (fun c => absurd c (by decide)) (fun _ => ?_)
          refine lv_iload_n hx hb dX12_learn_35 rfl (lv_at hl 2 rfl) ?_
          refine lv_bipush (v := 100) hx hb dX12_learn_36 (by decide) ?_
          refine lv_irem hx hb dX12_learn_38 (by decide) ?_
          refine lv_topi (fun x27 ex27 => ?_)
          have tx27 : x27.toInt = (A2 % 100) := jrem ex27 t2 jz_100 (by omega)
          refine lv_iload_n hx hb dX12_learn_39 rfl (lv_at hl 2 rfl) ?_
          refine lv_bipush (v := 100) hx hb dX12_learn_40 (by decide) ?_
          refine lv_idiv hx hb dX12_learn_42 (by decide) ?_
          refine lv_topi (fun x28 ex28 => ?_)
          have tx28 : x28.toInt = (A2 / 100) := jdiv ex28 t2 jz_100 (by omega) (by omega)
          refine lv_icmp_le (tgt := 48) hx hb dX12_learn_43 (by decide) (fun c29 => ?_) (fun c29 => ?_)
          · have kc29 := jle c29 tx27 tx28
            refine lv_sipush (v := 1000) hx hb dX12_learn_48 (by decide) ?_
            refine lv_iload_n hx hb dX12_learn_51 rfl (lv_at hl 2 rfl) ?_
            refine lv_bipush (v := 100) hx hb dX12_learn_52 (by decide) ?_
            refine lv_irem hx hb dX12_learn_54 (by decide) ?_
            refine lv_topi (fun x30 ex30 => ?_)
            have tx30 : x30.toInt = (A2 % 100) := jrem ex30 t2 jz_100 (by omega)
            refine lv_iconst (v := 1) hx hb dX12_learn_55 (by decide) ?_
            refine lv_iadd hx hb dX12_learn_56 ?_
            refine lv_topi (fun x31 ex31 => ?_)
            have tx31 : x31.toInt = (A2 % 100) + 1 := (jadd ex31 tx30 jz_1 (by omega) (by omega)).trans (by omega)
            refine lv_imul hx hb dX12_learn_57 ?_
            refine lv_topi (fun x32 ex32 => ?_)
            have tx32 : x32.toInt = 1000 * (A2 % 100) + 1000 := (jmul ex32 jz_1000 tx31 (by omega) (by omega)).trans (by omega)
            refine lv_iload_n hx hb dX12_learn_58 rfl (lv_at hl 2 rfl) ?_
            refine lv_bipush (v := 100) hx hb dX12_learn_59 (by decide) ?_
            refine lv_idiv hx hb dX12_learn_61 (by decide) ?_
            refine lv_topi (fun x33 ex33 => ?_)
            have tx33 : x33.toInt = (A2 / 100) := jdiv ex33 t2 jz_100 (by omega) (by omega)
            refine lv_iconst (v := 2) hx hb dX12_learn_62 (by decide) ?_
            refine lv_iadd hx hb dX12_learn_63 ?_
            refine lv_topi (fun x34 ex34 => ?_)
            have tx34 : x34.toInt = (A2 / 100) + 2 := (jadd ex34 tx33 jz_2 (by omega) (by omega)).trans (by omega)
            refine lv_idiv hx hb dX12_learn_64 (fun h => absurd (jeq h tx34 jz_0) (by omega)) ?_
            have g35 := jdivv (a := x32) (b := x34) tx32 tx34 (by omega) (by omega)
            refine lv_topi (fun x36 ex36 => ?_)
            have tx36 : x36.toInt = ((1000 * (A2 % 100) + 1000) / ((A2 / 100) + 2)) := jdiv ex36 tx32 tx34 (by omega) (by omega)
            refine lv_istore_n (lv' := [(3, .int x36), (0, .ref (ad 55)), (1, .int a1), (2, .int a2)]) hx hb dX12_learn_65 rfl hl (by decide) rfl (fun ls hl => ?_)
            refine lv_iload_n hx hb dX12_learn_66 rfl (lv_at hl 0 rfl) ?_
            refine lv_sipush (v := 500) hx hb dX12_learn_67 (by decide) ?_
            refine lv_icmp_le (tgt := 79) hx hb dX12_learn_70 (by decide) (fun c37 => ?_) (fun c37 => ?_)
            · have kc37 := jle c37 tx36 jz_500
              refine lv_iload_n hx hb dX12_learn_79 rfl (lv_at hl 0 rfl) ?_
              refine lv_istore (lv' := [(4, .int x36), (3, .int x36), (0, .ref (ad 55)), (1, .int a1), (2, .int a2)]) hx hb dX12_learn_80 hl (by decide) rfl (fun ls hl => ?_)
              refine lv_aload_n hx hb dX12_learn_82 rfl (lv_at hl 2 rfl) ?_
              refine lv_iconst (v := 4) hx hb dX12_learn_83 (by decide) ?_
              refine lv_iload_n hx hb dX12_learn_84 rfl (lv_at hl 3 rfl) ?_
              refine lv_bipush (v := 10) hx hb dX12_learn_85 (by decide) ?_
              refine lv_idiv hx hb dX12_learn_87 (by decide) ?_
              refine lv_topi (fun x38 ex38 => ?_)
              have tx38 : x38.toInt = (A1 / 10) := jdiv ex38 t1 jz_10 (by omega) (by omega)
              refine lv_imul hx hb dX12_learn_88 ?_
              refine lv_topi (fun x39 ex39 => ?_)
              have tx39 : x39.toInt = 4 * (A1 / 10) := (jmul ex39 jz_4 tx38 (by omega) (by omega)).trans (by omega)
              refine lv_iload_n hx hb dX12_learn_89 rfl (lv_at hl 3 rfl) ?_
              refine lv_bipush (v := 10) hx hb dX12_learn_90 (by decide) ?_
              refine lv_irem hx hb dX12_learn_92 (by decide) ?_
              refine lv_topi (fun x40 ex40 => ?_)
              have tx40 : x40.toInt = (A1 % 10) := jrem ex40 t1 jz_10 (by omega)
              refine lv_iadd hx hb dX12_learn_93 ?_
              refine lv_topi (fun x41 ex41 => ?_)
              have tx41 : x41.toInt = 4 * (A1 / 10) + (A1 % 10) := (jadd ex41 tx39 tx40 (by omega) (by omega)).trans (by omega)
              refine lv_iload hx hb dX12_learn_94 (lv_at hl 0 rfl) ?_
              refine jcallV (As := [.int x41, .int x36]) (rest := []) ⟨hx, hb, hml, hown, hts⟩ hK hP hA hS hZ (c_X12_becomes l D cI cL ad zz hJ σ τ x41 (4 * (A1 / 10) + (A1 % 10)) tx41 x36 (((1000 * (A2 % 100) + 1000) / ((A2 / 100) + 2))) tx36 hI101 (by omega) (by omega)) cw_RX12_153 (jc_55 cI cL ad σ τ) rfl ⟨Nat.le_of_ble_eq_true rfl, Nat.le_of_ble_eq_true rfl⟩ rfl rfl rfl hl.1 rfl (Nat.le_of_ble_eq_true rfl) dX12_learn_96 ⟨Nat.zero_le _, Nat.zero_le _⟩ (fun r43 σ42 τ42 H locs h42 hP hS => ?_)
              obtain ⟨rfl, f44, f45, I46, w47, h42⟩ := h42
              obtain ⟨i48, i49, i50, w51, w52, w53, w54⟩ : (0 ≤ (σ42 55 5).toInt) ∧ ((σ42 55 5).toInt ≤ (σ42 55 4).toInt) ∧ ((σ42 55 4).toInt ≤ 40) ∧ (∀ k : Nat, k < 68 → (-200) ≤ (σ42 56 k).toInt ∧ (σ42 56 k).toInt ≤ 500) ∧ (∀ k : Nat, k < 40 → 0 ≤ (σ42 57 k).toInt ∧ (σ42 57 k).toInt ≤ 67) ∧ (∀ k : Nat, k < 40 → (-200) ≤ (σ42 58 k).toInt ∧ (σ42 58 k).toInt ≤ 500) ∧ (∀ k : Nat, k < 40 → (-200) ≤ (σ42 59 k).toInt ∧ (σ42 59 k).toInt ≤ 500) := id I46
              refine lv_istore (lv' := [(5, .int r43), (4, .int x36), (3, .int x36), (0, .ref (ad 55)), (1, .int a1), (2, .int a2)]) hx hb dX12_learn_99 hl (by decide) rfl (fun ls hl => ?_)
              refine lv_iload hx hb dX12_learn_101 (lv_at hl 1 rfl) ?_
              exact hret x36 σ42 τ _ _ _ _ rfl ⟨rfl, (fun i hi => (f44 i hi)), (fun i hi => (f45 i hi)), I46, Or.inr (⟨trivial, (by have h9 := tx36; omega), (by have h9 := tx36; omega), (by have h9 := tx36; omega), (by have h9 := tx36; omega), (by have h9 := tx36; omega), (by have h9 := tx36; omega), ⟨4 * (A1 / 10) + (A1 % 10), _, (by omega), w47⟩⟩)⟩ hP hS dX12_learn_103
            · have kc37 := jnle c37 tx36 jz_500
              refine lv_sipush (v := 500) hx hb dX12_learn_73 (by decide) ?_
              refine lv_goto (tgt := 80) hx hb dX12_learn_76 (by decide) ?_
              refine lv_istore (lv' := [(4, .int 500), (3, .int x36), (0, .ref (ad 55)), (1, .int a1), (2, .int a2)]) hx hb dX12_learn_80 hl (by decide) rfl (fun ls hl => ?_)
              refine lv_aload_n hx hb dX12_learn_82 rfl (lv_at hl 2 rfl) ?_
              refine lv_iconst (v := 4) hx hb dX12_learn_83 (by decide) ?_
              refine lv_iload_n hx hb dX12_learn_84 rfl (lv_at hl 3 rfl) ?_
              refine lv_bipush (v := 10) hx hb dX12_learn_85 (by decide) ?_
              refine lv_idiv hx hb dX12_learn_87 (by decide) ?_
              refine lv_topi (fun x55 ex55 => ?_)
              have tx55 : x55.toInt = (A1 / 10) := jdiv ex55 t1 jz_10 (by omega) (by omega)
              refine lv_imul hx hb dX12_learn_88 ?_
              refine lv_topi (fun x56 ex56 => ?_)
              have tx56 : x56.toInt = 4 * (A1 / 10) := (jmul ex56 jz_4 tx55 (by omega) (by omega)).trans (by omega)
              refine lv_iload_n hx hb dX12_learn_89 rfl (lv_at hl 3 rfl) ?_
              refine lv_bipush (v := 10) hx hb dX12_learn_90 (by decide) ?_
              refine lv_irem hx hb dX12_learn_92 (by decide) ?_
              refine lv_topi (fun x57 ex57 => ?_)
              have tx57 : x57.toInt = (A1 % 10) := jrem ex57 t1 jz_10 (by omega)
              refine lv_iadd hx hb dX12_learn_93 ?_
              refine lv_topi (fun x58 ex58 => ?_)
              have tx58 : x58.toInt = 4 * (A1 / 10) + (A1 % 10) := (jadd ex58 tx56 tx57 (by omega) (by omega)).trans (by omega)
              refine lv_iload hx hb dX12_learn_94 (lv_at hl 0 rfl) ?_
              refine jcallV (As := [.int x58, .int 500]) (rest := []) ⟨hx, hb, hml, hown, hts⟩ hK hP hA hS hZ (c_X12_becomes l D cI cL ad zz hJ σ τ x58 (4 * (A1 / 10) + (A1 % 10)) tx58 500 (500) jz_500 hI101 (by omega) (by omega)) cw_RX12_153 (jc_55 cI cL ad σ τ) rfl ⟨Nat.le_of_ble_eq_true rfl, Nat.le_of_ble_eq_true rfl⟩ rfl rfl rfl hl.1 rfl (Nat.le_of_ble_eq_true rfl) dX12_learn_96 ⟨Nat.zero_le _, Nat.zero_le _⟩ (fun r60 σ59 τ59 H locs h59 hP hS => ?_)
              obtain ⟨rfl, f61, f62, I63, w64, h59⟩ := h59
              obtain ⟨i65, i66, i67, w68, w69, w70, w71⟩ : (0 ≤ (σ59 55 5).toInt) ∧ ((σ59 55 5).toInt ≤ (σ59 55 4).toInt) ∧ ((σ59 55 4).toInt ≤ 40) ∧ (∀ k : Nat, k < 68 → (-200) ≤ (σ59 56 k).toInt ∧ (σ59 56 k).toInt ≤ 500) ∧ (∀ k : Nat, k < 40 → 0 ≤ (σ59 57 k).toInt ∧ (σ59 57 k).toInt ≤ 67) ∧ (∀ k : Nat, k < 40 → (-200) ≤ (σ59 58 k).toInt ∧ (σ59 58 k).toInt ≤ 500) ∧ (∀ k : Nat, k < 40 → (-200) ≤ (σ59 59 k).toInt ∧ (σ59 59 k).toInt ≤ 500) := id I63
              refine lv_istore (lv' := [(5, .int r60), (4, .int 500), (3, .int x36), (0, .ref (ad 55)), (1, .int a1), (2, .int a2)]) hx hb dX12_learn_99 hl (by decide) rfl (fun ls hl => ?_)
              refine lv_iload hx hb dX12_learn_101 (lv_at hl 1 rfl) ?_
              exact hret 500 σ59 τ _ _ _ _ rfl ⟨rfl, (fun i hi => (f61 i hi)), (fun i hi => (f62 i hi)), I63, Or.inr (⟨trivial, (by have h9 := jz_500; omega), (by have h9 := jz_500; omega), (by have h9 := jz_500; omega), (by have h9 := jz_500; omega), (by have h9 := jz_500; omega), (by have h9 := jz_500; omega), ⟨4 * (A1 / 10) + (A1 % 10), _, (by omega), w64⟩⟩)⟩ hP hS dX12_learn_103
          · have kc29 := jnle c29 tx27 tx28
            refine lv_iconst (v := (-1)) hx hb dX12_learn_46 (by decide) ?_
            exact hret (-1) σ τ _ _ _ _ rfl ⟨rfl, (fun _ _ => rfl), (fun _ _ => rfl), hI101, Or.inl ⟨rfl, (by have h9 := jz_m1; omega), (by have h9 := jz_m1; omega), (by have h9 := jz_m1; omega), ⟨rfl, rfl, rfl, rfl⟩⟩⟩ hP hS dX12_learn_47
        · obtain ⟨q73, k72⟩ := h24
          have q73 := q73.symm
          subst q73
          refine lv_if_eq (tgt := 46) hx hb dX12_learn_32 (by decide) (fun _ => ?_) (fun c => absurd (by decide) c)
          refine lv_iconst (v := (-1)) hx hb dX12_learn_46 (by decide) ?_
          exact hret (-1) σ τ _ _ _ _ rfl ⟨rfl, (fun _ _ => rfl), (fun _ _ => rfl), hI101, Or.inl ⟨rfl, (by have h9 := jz_m1; omega), (by have h9 := jz_m1; omega), (by have h9 := jz_m1; omega), ⟨rfl, rfl, rfl, rfl⟩⟩⟩ hP hS dX12_learn_47
    · obtain ⟨q75, k74⟩ := h16
      have q75 := q75.symm
      subst q75
      refine lv_if_eq (tgt := 46) hx hb dX12_learn_12 (by decide) (fun _ => ?_) (fun c => absurd (by decide) c)
      refine lv_iconst (v := (-1)) hx hb dX12_learn_46 (by decide) ?_
      exact hret (-1) σ τ _ _ _ _ rfl ⟨rfl, (fun _ _ => rfl), (fun _ _ => rfl), hI101, Or.inl ⟨rfl, (by have h9 := jz_m1; omega), (by have h9 := jz_m1; omega), (by have h9 := jz_m1; omega), ⟨rfl, rfl, rfl, rfl⟩⟩⟩ hP hS dX12_learn_47
set_option maxHeartbeats 4000000 in
set_option maxRecDepth 100000 in
theorem c_X12_feed (l : Launch) (D : va_G) (cI cL : ClassId) (ad zz : Nat → Nat) (hJ : jD ad) (σ : Nat → Nat → Int32) (τ : Nat → Nat → Int64) (a1 : Int32) (A1 : Int) (t1 : a1.toInt = A1) (a2 : Int32) (A2 : Int) (t2 : a2.toInt = A2) (hI105 : jI105 σ) : jM l yX12_feed cX12_feed 4 (some .int) ({ frames := 1, cells := 0, slots := 0, locals := 25 }) D cI cL ad zz [.ref (ad 55), .int a1, .int a2] σ τ (fun r σ' τ' => τ = τ' ∧ (∀ i : Nat, (i < 55 ∨ 55 < i) ∧ (i < 63 ∨ 63 < i) → σ' i = σ i) ∧ (∀ k : Nat, (k < 15 ∨ 15 < k) → σ' 55 k = σ 55 k) ∧ (jI105 σ') ∧ ((r = (-1) ∧ ((A1 < 1) ∨ (4 < A1)) ∧ ((σ' 55 15).toInt = (σ 55 15).toInt)) ∨ (r = (-3) ∧ (1 ≤ A1 ∧ A1 ≤ 4) ∧ (80 < (σ 55 15).toInt + A1) ∧ ((σ' 55 15).toInt = (σ 55 15).toInt)) ∨ (True ∧ (1 ≤ A1 ∧ A1 ≤ 4) ∧ ((σ 55 15).toInt + A1 ≤ 80) ∧ (r.toInt = (σ 55 15).toInt + A1) ∧ ((σ' 55 15).toInt = (σ 55 15).toInt + A1)))) := by
  refine jM.of hJ (by decide +kernel) (nt := .int) rfl (Nat.le_of_ble_eq_true rfl) ?_
  intro p e s m args below meth c Q ls hC hret hl hP
  obtain ⟨hx, hb, hr, hml, hown, hts, hK, -, hlocks, hZ⟩ := hC
  have hown : s.vm.findClass RX12 = some m.cls := hown
  have hS : va_S (jA ad) s.heap s.heap [] := va_S.rf
  have hA : ∀ q, jA ad q → jA ad q := fun _ h => h
  have hl : lv_has ls 4 [(0, .ref (ad 55)), (1, .int a1), (2, .int a2)] := hl
  have g1 := jrg t1
  have g2 := jrg t2
  obtain ⟨i1, w2⟩ : (0 ≤ (σ 55 15).toInt ∧ (σ 55 15).toInt ≤ 80) ∧ (∀ k : Nat, k < 2 → (-1) ≤ (σ 65 k).toInt ∧ (σ 65 k).toInt ≤ 80) := id hI105
  refine lv_iload_n hx hb dX12_feed_0 rfl (lv_at hl 1 rfl) ?_
  refine lv_i2l (v := a1.toInt64) hx hb dX12_feed_1 rfl ?_
  refine lv_lconst (v := 1) hx hb dX12_feed_2 (by decide) ?_
  refine lv_ldc2 (v := 4) hx hb hown (hts _ kw_13_5) dX12_feed_3 ?_
  refine jcallS (As := [.long a1.toInt64, .long 1, .long 4]) (rest := []) ⟨hx, hb, hml, hown, hts⟩ hK hP hA hS hZ (c_X12_within l D cI cL ad zz hJ σ τ a1.toInt64 (A1) (jtoL t1) 1 (1) jzl_1 4 (4) jzl_4) cw_RX12_136 ⟨Nat.le_of_ble_eq_true rfl, Nat.le_of_ble_eq_true rfl⟩ rfl rfl rfl hl.1 rfl (Nat.le_of_ble_eq_true rfl) dX12_feed_6 ⟨Nat.zero_le _, Nat.zero_le _⟩ (fun r4 σ3 τ3 H locs h3 hP hS => ?_)
  obtain ⟨⟨rfl, rfl⟩, h3⟩ := h3
  rcases h3 with h5 | h6
  · obtain ⟨q8, k7⟩ := h5
    have q8 := q8.symm
    subst q8
    refine lv_if_ne (tgt := 14) hx hb dX12_feed_9 (by decide) (fun _ => ?_) (fun c => absurd c (by decide))
    refine lv_aload_n hx hb dX12_feed_14 rfl (lv_at hl 0 rfl) ?_
    refine va_get (D := D) hx hb hts inlX12 hown hK hP 55 (jc_55 cI cL ad σ τ) rfl 15 (by decide) (hts _ kw_13_6) (fun _ h9 => h9) rfl dX12_feed_15 ?_
    refine lv_iload_n hx hb dX12_feed_18 rfl (lv_at hl 1 rfl) ?_
    have g9 := jrg (rfl : (σ 55 15).toInt = (σ 55 15).toInt)
    refine lv_iadd hx hb dX12_feed_19 ?_
    refine lv_topi (fun x10 ex10 => ?_)
    have tx10 : x10.toInt = (σ 55 15).toInt + A1 := (jadd ex10 rfl t1 (by omega) (by omega)).trans (by omega)
    refine lv_bipush (v := 80) hx hb dX12_feed_20 (by decide) ?_
    refine lv_icmp_le (tgt := 28) hx hb dX12_feed_22 (by decide) (fun c11 => ?_) (fun c11 => ?_)
    · have kc11 := jle c11 tx10 jz_80
      refine lv_iconst (v := 0) hx hb dX12_feed_28 (by decide) ?_
      refine lv_istore_n (lv' := [(3, .int 0), (0, .ref (ad 55)), (1, .int a1), (2, .int a2)]) hx hb dX12_feed_29 rfl hl (by decide) rfl (fun ls hl => ?_)
      have lp12 : ∀ (n13 : Nat) (x14 : Int32) (σ15 : Nat → Nat → Int32) (H : Heap) (locs : List Loc) (ls : Array Slot), (A1 - x14.toInt : Int) < n13 → 0 ≤ x14.toInt → x14.toInt ≤ 4 → x14.toInt ≤ A1 → (σ15 55 15).toInt = (σ 55 15).toInt + x14.toInt → (∀ i : Nat, (i < 55 ∨ 55 < i) ∧ (i < 63 ∨ 63 < i) → σ15 i = σ i) → (∀ k : Nat, (k < 15 ∨ 15 < k) → σ15 55 k = σ 55 k) → jI105 σ15 → jH D cI cL ad σ15 τ H → va_S (jA ad) s.heap H locs → lv_has ls 4 [(3, .int x14), (0, .ref (ad 55)), (1, .int a1), (2, .int a2)] → W p l e ({ frames := 1, cells := 0, slots := 0, locals := 25 }) s m args below meth c H locs 0 0 Q (F0 m 30 ls []) := by
        intro n13
        induction n13 with
        | zero => intro x14 σ15 H locs ls h16 h17 h18 h19 h20; exact absurd h16 (by omega)
        | succ n13 ihlp12 =>
          intro x14 σ15 H locs ls h16 h17 h18 h19 h20 f21 f22 p23 hP hS hl
          obtain ⟨i24, w25⟩ : (0 ≤ (σ15 55 15).toInt ∧ (σ15 55 15).toInt ≤ 80) ∧ (∀ k : Nat, k < 2 → (-1) ≤ (σ15 65 k).toInt ∧ (σ15 65 k).toInt ≤ 80) := id p23
          refine lv_iload_n hx hb dX12_feed_30 rfl (lv_at hl 0 rfl) ?_
          refine lv_iload_n hx hb dX12_feed_31 rfl (lv_at hl 2 rfl) ?_
          refine lv_icmp_ge (tgt := 70) hx hb dX12_feed_32 (by decide) (fun c26 => ?_) (fun c26 => ?_)
          · have kc26 := jle c26 t1 rfl
            refine lv_aload_n hx hb dX12_feed_70 rfl (lv_at hl 1 rfl) ?_
            refine va_get (D := D) hx hb hts inlX12 hown hK hP 55 (jc_55 cI cL ad σ15 τ) rfl 15 (by decide) (hts _ kw_13_6) (fun _ h9 => h9) rfl dX12_feed_71 ?_
            exact hret (σ15 55 15) σ15 τ _ _ _ _ rfl ⟨rfl, (fun i hi => (f21 i hi)), (fun i hi => (f22 i hi)), p23, Or.inr (Or.inr (⟨trivial, (by omega), (by omega), (by omega), (by omega)⟩))⟩ hP hS dX12_feed_74
          · have kc26 := jnle c26 t1 rfl
            refine lv_aload_n hx hb dX12_feed_35 rfl (lv_at hl 1 rfl) ?_
            refine va_get (D := D) hx hb hts inlX12 hown hK hP 55 (jc_55 cI cL ad σ15 τ) rfl 14 (by decide) (hts _ kw_7_9) (fun _ h9 => h9) rfl dX12_feed_36 ?_
            refine lv_aload_n hx hb dX12_feed_39 rfl (lv_at hl 1 rfl) ?_
            refine va_get (D := D) hx hb hts inlX12 hown hK hP 55 (jc_55 cI cL ad σ15 τ) rfl 15 (by decide) (hts _ kw_13_6) (fun _ h9 => h9) rfl dX12_feed_40 ?_
            refine lv_iload_n hx hb dX12_feed_43 rfl (lv_at hl 3 rfl) ?_
            refine lv_bipush (v := 8) hx hb dX12_feed_44 (by decide) ?_
            refine lv_iload_n hx hb dX12_feed_46 rfl (lv_at hl 0 rfl) ?_
            have g27 := jrg (rfl : x14.toInt = x14.toInt)
            refine lv_imul hx hb dX12_feed_47 ?_
            refine lv_topi (fun x28 ex28 => ?_)
            have tx28 : x28.toInt = 8 * x14.toInt := (jmul ex28 jz_8 rfl (by omega) (by omega)).trans (by omega)
            refine lv_ishr hx hb dX12_feed_48 ?_
            refine lv_topi (fun x29 ex29 => ?_)
            have gx29 := jrg (rfl : x29.toInt = x29.toInt)
            refine lv_sipush (v := 255) hx hb dX12_feed_49 (by decide) ?_
            refine lv_iand hx hb dX12_feed_52 ?_
            refine lv_topi (fun x30 ex30 => ?_)
            have gx30 := jrg (rfl : x30.toInt = x30.toInt)
            have g31 : 0 ≤ x30.toInt ∧ x30.toInt ≤ 255 := jmask ex30 8 (by decide) (by decide)
            refine jast hx hb hK hP hJ hA hS (jc_63 cI cL ad σ15 τ) (ja_63 cI cL ad σ15 τ _ _) (jin rfl (by omega) (by omega)) dX12_feed_53 (fun σ32 H locs eσ32 hP hS => ?_)
            refine lv_aload_n hx hb dX12_feed_54 rfl (lv_at hl 1 rfl) ?_
            refine lv_dup hx hb dX12_feed_55 rfl ?_
            refine va_get (D := D) hx hb hts inlX12 hown hK hP 55 (jc_55 cI cL ad σ32 τ) rfl 15 (by decide) (hts _ kw_13_6) (fun _ h9 => h9) rfl dX12_feed_56 ?_
            have m33 : σ32 55 15 = (σ15 55 15) := (congrFun (jnp 55 eσ32 (by decide)) 15)
            refine jtopr m33 ?_
            refine lv_iconst (v := 1) hx hb dX12_feed_59 (by decide) ?_
            have g34 := jrg (rfl : (σ15 55 15).toInt = (σ15 55 15).toInt)
            refine lv_iadd hx hb dX12_feed_60 ?_
            refine lv_topi (fun x35 ex35 => ?_)
            have tx35 : x35.toInt = (σ15 55 15).toInt + 1 := (jadd ex35 rfl jz_1 (by omega) (by omega)).trans (by omega)
            refine jput (ty := .int) hx hb hts inlX12 tyX12 tyX12_ok nmX12 hown hK hP hJ hA hS (jc_55 cI cL ad σ32 τ) rfl (k := 15) (by decide) (Nat.le_of_ble_eq_true rfl) (jp_55_15 cI cL ad σ32 τ x35) (hts _ kw_13_6) (fun _ h9 => h9) rfl (by decide +kernel) rfl rfl dX12_feed_61 (fun σ36 H locs eσ36 hP hS => ?_)
            obtain ⟨x37, ex37⟩ : ∃ y : Int32, y = x14 + 1 := ⟨_, rfl⟩
            have tx37 : x37.toInt = x14.toInt + 1 := (jadd ex37 rfl jz_1 (by omega) (by omega)).trans (by omega)
            refine lv_iinc (v := x37) (lv' := [(3, .int x37), (0, .ref (ad 55)), (1, .int a1), (2, .int a2)]) hx hb dX12_feed_64 hl (k := 0) rfl (by rw [ex37]; rfl) (by decide) rfl (fun ls hl => ?_)
            refine lv_goto (tgt := 30) hx hb dX12_feed_67 (by decide) ?_
            have z38 : (σ36 55 15).toInt = (σ15 55 15).toInt + 1 := ((congrArg Int32.toInt (show σ36 55 15 = x35 from (jsp eσ36))).trans tx35)
            have w39 : ∀ k : Nat, k < 2 → (-1) ≤ (σ36 65 k).toInt ∧ (σ36 65 k).toInt ≤ 80 := (jrr_fr (jnp 65 eσ36 (by decide)) (jrr_fr (jnp 65 eσ32 (by decide)) w25))
            have I40 : jI105 σ36 := ⟨(by omega), w39⟩
            exact ihlp12 x37 σ36 _ _ ls (by have h90 := tx37; omega) (by have h90 := tx37; omega) (by have h90 := tx37; omega) (by have h90 := tx37; omega) (by have h90 := tx37; omega) (fun i hi => ((jnp i eσ36 (imp_165 i hi)).trans ((jnp i eσ32 (imp_166 i hi)).trans (f21 i hi)))) (fun i hi => ((jkp i eσ36 (imp_167 i hi)).trans ((congrFun (jnp 55 eσ32 (by decide)) i).trans (f22 i hi))))  I40 hP hS (lv_sub hl [0, 1, 2, 3] rfl)
      exact lp12 1000000 0 σ _ _ ls (by have h90 := jz_0; omega) (by have h90 := jz_0; omega) (by have h90 := jz_0; omega) (by have h90 := jz_0; omega) (by have h90 := jz_0; omega) (fun _ _ => rfl) (fun _ _ => rfl)  hI105 hP hS hl
    · have kc11 := jnle c11 tx10 jz_80
      refine lv_bipush (v := (-3)) hx hb dX12_feed_25 (by decide) ?_
      exact hret (-3) σ τ _ _ _ _ rfl ⟨rfl, (fun _ _ => rfl), (fun _ _ => rfl), hI105, Or.inr (Or.inl ⟨rfl, (by have h9 := jz_m3; omega), (by have h9 := jz_m3; omega), (by have h9 := jz_m3; omega)⟩)⟩ hP hS dX12_feed_27
  · obtain ⟨q42, k41⟩ := h6
    have q42 := q42.symm
    subst q42
    refine lv_if_ne (tgt := 14) hx hb dX12_feed_9 (by decide) (fun c => absurd (by decide) c) (fun _ => ?_)
    refine lv_iconst (v := (-1)) hx hb dX12_feed_12 (by decide) ?_
    exact hret (-1) σ τ _ _ _ _ rfl ⟨rfl, (fun _ _ => rfl), (fun _ _ => rfl), hI105, Or.inl ⟨rfl, (by have h9 := jz_m1; omega), (by have h9 := jz_m1; omega)⟩⟩ hP hS dX12_feed_13
set_option maxHeartbeats 4000000 in
set_option maxRecDepth 100000 in
theorem c_X12_byteAt (l : Launch) (D : va_G) (cI cL : ClassId) (ad zz : Nat → Nat) (hJ : jD ad) (σ : Nat → Nat → Int32) (τ : Nat → Nat → Int64) (hI121 : jI121 σ) : jM l yX12_byteAt cX12_byteAt 1 (some .int) ({ frames := 0, cells := 0, slots := 0, locals := 0 }) D cI cL ad zz [.ref (ad 55)] σ τ (fun r σ' τ' => (σ = σ' ∧ τ = τ') ∧ ((True ∧ ((r.toInt = 0) ∨ ((σ 55 19).toInt < (σ 55 20).toInt))))) := by
  refine jM.of hJ (by decide +kernel) (nt := .int) rfl (Nat.le_of_ble_eq_true rfl) ?_
  intro p e s m args below meth c Q ls hC hret hl hP
  obtain ⟨hx, hb, hr, hml, hown, hts, hK, -, hlocks, hZ⟩ := hC
  have hown : s.vm.findClass RX12 = some m.cls := hown
  have hS : va_S (jA ad) s.heap s.heap [] := va_S.rf
  have hA : ∀ q, jA ad q → jA ad q := fun _ h => h
  have hl : lv_has ls 1 [(0, .ref (ad 55))] := hl
  obtain ⟨i1, i2, i3, i4, i5⟩ : ((-1) ≤ (σ 55 18).toInt ∧ (σ 55 18).toInt ≤ 80) ∧ (0 ≤ (σ 55 19).toInt) ∧ ((σ 55 19).toInt ≤ (σ 55 20).toInt) ∧ ((σ 55 20).toInt ≤ 80) ∧ ((-1) ≤ (σ 55 21).toInt) := id hI121
  refine lv_aload_n hx hb dX12_byteAt_0 rfl (lv_at hl 0 rfl) ?_
  refine va_get (D := D) hx hb hts inlX12 hown hK hP 55 (jc_55 cI cL ad σ τ) rfl 19 (by decide) (hts _ kw_15_11) (fun _ h9 => h9) rfl dX12_byteAt_1 ?_
  refine lv_aload_n hx hb dX12_byteAt_4 rfl (lv_at hl 0 rfl) ?_
  refine va_get (D := D) hx hb hts inlX12 hown hK hP 55 (jc_55 cI cL ad σ τ) rfl 20 (by decide) (hts _ kw_15_12) (fun _ h9 => h9) rfl dX12_byteAt_5 ?_
  refine lv_icmp_ge (tgt := 47) hx hb dX12_byteAt_8 (by decide) (fun c6 => ?_) (fun c6 => ?_)
  · have kc6 := jle c6 rfl rfl
    refine lv_iconst (v := 0) hx hb dX12_byteAt_47 (by decide) ?_
    exact hret 0 σ τ _ _ _ _ rfl ⟨⟨rfl, rfl⟩, ⟨trivial, (by have h9 := jz_0; omega)⟩⟩ hP hS dX12_byteAt_48
  · have kc6 := jnle c6 rfl rfl
    refine lv_aload_n hx hb dX12_byteAt_11 rfl (lv_at hl 0 rfl) ?_
    refine va_get (D := D) hx hb hts inlX12 hown hK hP 55 (jc_55 cI cL ad σ τ) rfl 18 (by decide) (hts _ kw_15_10) (fun _ h9 => h9) rfl dX12_byteAt_12 ?_
    refine lv_if_ge (tgt := 30) hx hb dX12_byteAt_15 (by decide) (fun c7 => ?_) (fun c7 => ?_)
    · have kc7 := jle c7 jz_0 rfl
      refine lv_aload_n hx hb dX12_byteAt_30 rfl (lv_at hl 0 rfl) ?_
      refine va_get (D := D) hx hb hts inlX12 hown hK hP 55 (jc_55 cI cL ad σ τ) rfl 16 (by decide) (hts _ kw_7_10) (fun _ h9 => h9) rfl dX12_byteAt_31 ?_
      refine lv_aload_n hx hb dX12_byteAt_34 rfl (lv_at hl 0 rfl) ?_
      refine va_get (D := D) hx hb hts inlX12 hown hK hP 55 (jc_55 cI cL ad σ τ) rfl 18 (by decide) (hts _ kw_15_10) (fun _ h9 => h9) rfl dX12_byteAt_35 ?_
      refine lv_aload_n hx hb dX12_byteAt_38 rfl (lv_at hl 0 rfl) ?_
      refine va_get (D := D) hx hb hts inlX12 hown hK hP 55 (jc_55 cI cL ad σ τ) rfl 19 (by decide) (hts _ kw_15_11) (fun _ h9 => h9) rfl dX12_byteAt_39 ?_
      have g8 := jrg (rfl : (σ 55 18).toInt = (σ 55 18).toInt)
      have g9 := jrg (rfl : (σ 55 19).toInt = (σ 55 19).toInt)
      refine lv_iadd hx hb dX12_byteAt_42 ?_
      refine lv_topi (fun x10 ex10 => ?_)
      have tx10 : x10.toInt = (σ 55 18).toInt + (σ 55 19).toInt := (jadd ex10 rfl rfl (by omega) (by omega)).trans (by omega)
      refine jald hx hb hK hP (jc_64 cI cL ad σ τ) (jin tx10 (by omega) (by omega)) dX12_byteAt_43 ?_
      refine lv_topi (fun x11 ex11 => ?_)
      refine lv_goto (tgt := 48) hx hb dX12_byteAt_44 (by decide) ?_
      exact hret x11 σ τ _ _ _ _ rfl ⟨⟨rfl, rfl⟩, ⟨trivial, (by omega)⟩⟩ hP hS dX12_byteAt_48
    · have kc7 := jnle c7 jz_0 rfl
      refine lv_aload_n hx hb dX12_byteAt_18 rfl (lv_at hl 0 rfl) ?_
      refine va_get (D := D) hx hb hts inlX12 hown hK hP 55 (jc_55 cI cL ad σ τ) rfl 14 (by decide) (hts _ kw_7_9) (fun _ h9 => h9) rfl dX12_byteAt_19 ?_
      refine lv_aload_n hx hb dX12_byteAt_22 rfl (lv_at hl 0 rfl) ?_
      refine va_get (D := D) hx hb hts inlX12 hown hK hP 55 (jc_55 cI cL ad σ τ) rfl 19 (by decide) (hts _ kw_15_11) (fun _ h9 => h9) rfl dX12_byteAt_23 ?_
      refine jald hx hb hK hP (jc_63 cI cL ad σ τ) (jin rfl (by omega) (by omega)) dX12_byteAt_26 ?_
      refine lv_topi (fun x12 ex12 => ?_)
      refine lv_goto (tgt := 48) hx hb dX12_byteAt_27 (by decide) ?_
      exact hret x12 σ τ _ _ _ _ rfl ⟨⟨rfl, rfl⟩, ⟨trivial, (by omega)⟩⟩ hP hS dX12_byteAt_48
set_option maxHeartbeats 4000000 in
set_option maxRecDepth 100000 in
theorem c_X12_byteAt_t (l : Launch) (D : va_G) (cI cL : ClassId) (ad zz : Nat → Nat) (hJ : jD ad) (σ : Nat → Nat → Int32) (τ : Nat → Nat → Int64) (hI121 : jI121 σ) (hp0 : (σ 55 18).toInt = (-1)) : jM l yX12_byteAt cX12_byteAt 1 (some .int) ({ frames := 0, cells := 0, slots := 0, locals := 0 }) D cI cL ad zz [.ref (ad 55)] σ τ (fun r σ' τ' => (σ = σ' ∧ τ = τ') ∧ ((r = (σ 63 (σ 55 19).toNatClampNeg) ∧ ((σ 55 19).toInt < (σ 55 20).toInt)) ∨ (r = 0 ∧ ((σ 55 20).toInt ≤ (σ 55 19).toInt)))) := by
  refine jM.of hJ (by decide +kernel) (nt := .int) rfl (Nat.le_of_ble_eq_true rfl) ?_
  intro p e s m args below meth c Q ls hC hret hl hP
  obtain ⟨hx, hb, hr, hml, hown, hts, hK, -, hlocks, hZ⟩ := hC
  have hown : s.vm.findClass RX12 = some m.cls := hown
  have hS : va_S (jA ad) s.heap s.heap [] := va_S.rf
  have hA : ∀ q, jA ad q → jA ad q := fun _ h => h
  have hl : lv_has ls 1 [(0, .ref (ad 55))] := hl
  obtain ⟨i1, i2, i3, i4, i5⟩ : ((-1) ≤ (σ 55 18).toInt ∧ (σ 55 18).toInt ≤ 80) ∧ (0 ≤ (σ 55 19).toInt) ∧ ((σ 55 19).toInt ≤ (σ 55 20).toInt) ∧ ((σ 55 20).toInt ≤ 80) ∧ ((-1) ≤ (σ 55 21).toInt) := id hI121
  refine lv_aload_n hx hb dX12_byteAt_0 rfl (lv_at hl 0 rfl) ?_
  refine va_get (D := D) hx hb hts inlX12 hown hK hP 55 (jc_55 cI cL ad σ τ) rfl 19 (by decide) (hts _ kw_15_11) (fun _ h9 => h9) rfl dX12_byteAt_1 ?_
  refine lv_aload_n hx hb dX12_byteAt_4 rfl (lv_at hl 0 rfl) ?_
  refine va_get (D := D) hx hb hts inlX12 hown hK hP 55 (jc_55 cI cL ad σ τ) rfl 20 (by decide) (hts _ kw_15_12) (fun _ h9 => h9) rfl dX12_byteAt_5 ?_
  refine lv_icmp_ge (tgt := 47) hx hb dX12_byteAt_8 (by decide) (fun c6 => ?_) (fun c6 => ?_)
  · have kc6 := jle c6 rfl rfl
    refine lv_iconst (v := 0) hx hb dX12_byteAt_47 (by decide) ?_
    exact hret 0 σ τ _ _ _ _ rfl ⟨⟨rfl, rfl⟩, Or.inr (⟨rfl, (by have h9 := jz_0; omega)⟩)⟩ hP hS dX12_byteAt_48
  · have kc6 := jnle c6 rfl rfl
    refine lv_aload_n hx hb dX12_byteAt_11 rfl (lv_at hl 0 rfl) ?_
    refine va_get (D := D) hx hb hts inlX12 hown hK hP 55 (jc_55 cI cL ad σ τ) rfl 18 (by decide) (hts _ kw_15_10) (fun _ h9 => h9) rfl dX12_byteAt_12 ?_
    refine lv_if_ge (tgt := 30) hx hb dX12_byteAt_15 (by decide) (fun c => absurd (jle c jz_0 rfl) (by omega)) (fun c7 => ?_)
    have kc7 := jnle c7 jz_0 rfl
    refine lv_aload_n hx hb dX12_byteAt_18 rfl (lv_at hl 0 rfl) ?_
    refine va_get (D := D) hx hb hts inlX12 hown hK hP 55 (jc_55 cI cL ad σ τ) rfl 14 (by decide) (hts _ kw_7_9) (fun _ h9 => h9) rfl dX12_byteAt_19 ?_
    refine lv_aload_n hx hb dX12_byteAt_22 rfl (lv_at hl 0 rfl) ?_
    refine va_get (D := D) hx hb hts inlX12 hown hK hP 55 (jc_55 cI cL ad σ τ) rfl 19 (by decide) (hts _ kw_15_11) (fun _ h9 => h9) rfl dX12_byteAt_23 ?_
    refine jald hx hb hK hP (jc_63 cI cL ad σ τ) (jin rfl (by omega) (by omega)) dX12_byteAt_26 ?_
    refine jtopr (y := (σ 63 (σ 55 19).toNatClampNeg)) rfl ?_
    refine lv_goto (tgt := 48) hx hb dX12_byteAt_27 (by decide) ?_
    exact hret (σ 63 (σ 55 19).toNatClampNeg) σ τ _ _ _ _ rfl ⟨⟨rfl, rfl⟩, Or.inl ⟨rfl, (by omega)⟩⟩ hP hS dX12_byteAt_48
set_option maxHeartbeats 4000000 in
set_option maxRecDepth 100000 in
theorem c_X12_wrong (l : Launch) (D : va_G) (cI cL : ClassId) (ad zz : Nat → Nat) (hJ : jD ad) (σ : Nat → Nat → Int32) (τ : Nat → Nat → Int64) (hI121 : jI121 σ) : jM l yX12_wrong cX12_wrong 1 (some .int) ({ frames := 0, cells := 0, slots := 0, locals := 0 }) D cI cL ad zz [.ref (ad 55)] σ τ (fun r σ' τ' => τ = τ' ∧ (∀ i : Nat, (i < 55 ∨ 55 < i) → σ' i = σ i) ∧ (∀ k : Nat, (k < 21 ∨ 21 < k) → σ' 55 k = σ 55 k) ∧ (jI121 σ') ∧ (0 ≤ (σ' 55 21).toInt) ∧ ((r = 0 ∧ True))) := by
  refine jM.of hJ (by decide +kernel) (nt := .int) rfl (Nat.le_of_ble_eq_true rfl) ?_
  intro p e s m args below meth c Q ls hC hret hl hP
  obtain ⟨hx, hb, hr, hml, hown, hts, hK, -, hlocks, hZ⟩ := hC
  have hown : s.vm.findClass RX12 = some m.cls := hown
  have hS : va_S (jA ad) s.heap s.heap [] := va_S.rf
  have hA : ∀ q, jA ad q → jA ad q := fun _ h => h
  have hl : lv_has ls 1 [(0, .ref (ad 55))] := hl
  obtain ⟨i1, i2, i3, i4, i5⟩ : ((-1) ≤ (σ 55 18).toInt ∧ (σ 55 18).toInt ≤ 80) ∧ (0 ≤ (σ 55 19).toInt) ∧ ((σ 55 19).toInt ≤ (σ 55 20).toInt) ∧ ((σ 55 20).toInt ≤ 80) ∧ ((-1) ≤ (σ 55 21).toInt) := id hI121
  refine lv_aload_n hx hb dX12_wrong_0 rfl (lv_at hl 0 rfl) ?_
  refine lv_aload_n hx hb dX12_wrong_1 rfl (lv_at hl 0 rfl) ?_
  refine va_get (D := D) hx hb hts inlX12 hown hK hP 55 (jc_55 cI cL ad σ τ) rfl 21 (by decide) (hts _ kw_15_13) (fun _ h9 => h9) rfl dX12_wrong_2 ?_
  refine lv_if_ge (tgt := 15) hx hb dX12_wrong_5 (by decide) (fun c6 => ?_) (fun c6 => ?_)
  · have kc6 := jle c6 jz_0 rfl
    refine lv_aload_n hx hb dX12_wrong_15 rfl (lv_at hl 0 rfl) ?_
    refine va_get (D := D) hx hb hts inlX12 hown hK hP 55 (jc_55 cI cL ad σ τ) rfl 21 (by decide) (hts _ kw_15_13) (fun _ h9 => h9) rfl dX12_wrong_16 ?_
    refine jput (ty := .int) hx hb hts inlX12 tyX12 tyX12_ok nmX12 hown hK hP hJ hA hS (jc_55 cI cL ad σ τ) rfl (k := 21) (by decide) (Nat.le_of_ble_eq_true rfl) (jp_55_21 cI cL ad σ τ (σ 55 21)) (hts _ kw_15_13) (fun _ h9 => h9) rfl (by decide +kernel) rfl rfl dX12_wrong_19 (fun σ7 H locs eσ7 hP hS => ?_)
    refine lv_iconst (v := 0) hx hb dX12_wrong_22 (by decide) ?_
    have z8 : (σ7 55 18).toInt = (σ 55 18).toInt := (congrArg Int32.toInt (show σ7 55 18 = (σ 55 18) from (jkp 18 eσ7 (by decide))))
    have z9 : (σ7 55 19).toInt = (σ 55 19).toInt := (congrArg Int32.toInt (show σ7 55 19 = (σ 55 19) from (jkp 19 eσ7 (by decide))))
    have z10 : (σ7 55 20).toInt = (σ 55 20).toInt := (congrArg Int32.toInt (show σ7 55 20 = (σ 55 20) from (jkp 20 eσ7 (by decide))))
    have z11 : (σ7 55 21).toInt = (σ 55 21).toInt := (congrArg Int32.toInt (show σ7 55 21 = (σ 55 21) from (jsp eσ7)))
    have I12 : jI121 σ7 := ⟨(by omega), (by omega), (by omega), (by omega), (by omega)⟩
    exact hret 0 σ7 τ _ _ _ _ rfl ⟨rfl, (fun i hi => (jnp i eσ7 (imp_164 i hi))), (fun i hi => (jkp i eσ7 (imp_33 i hi))), I12, (by omega), ⟨rfl, trivial⟩⟩ hP hS dX12_wrong_23
  · have kc6 := jnle c6 jz_0 rfl
    refine lv_aload_n hx hb dX12_wrong_8 rfl (lv_at hl 0 rfl) ?_
    refine va_get (D := D) hx hb hts inlX12 hown hK hP 55 (jc_55 cI cL ad σ τ) rfl 19 (by decide) (hts _ kw_15_11) (fun _ h9 => h9) rfl dX12_wrong_9 ?_
    refine lv_goto (tgt := 19) hx hb dX12_wrong_12 (by decide) ?_
    refine jput (ty := .int) hx hb hts inlX12 tyX12 tyX12_ok nmX12 hown hK hP hJ hA hS (jc_55 cI cL ad σ τ) rfl (k := 21) (by decide) (Nat.le_of_ble_eq_true rfl) (jp_55_21 cI cL ad σ τ (σ 55 19)) (hts _ kw_15_13) (fun _ h9 => h9) rfl (by decide +kernel) rfl rfl dX12_wrong_19 (fun σ13 H locs eσ13 hP hS => ?_)
    refine lv_iconst (v := 0) hx hb dX12_wrong_22 (by decide) ?_
    have z14 : (σ13 55 18).toInt = (σ 55 18).toInt := (congrArg Int32.toInt (show σ13 55 18 = (σ 55 18) from (jkp 18 eσ13 (by decide))))
    have z15 : (σ13 55 19).toInt = (σ 55 19).toInt := (congrArg Int32.toInt (show σ13 55 19 = (σ 55 19) from (jkp 19 eσ13 (by decide))))
    have z16 : (σ13 55 20).toInt = (σ 55 20).toInt := (congrArg Int32.toInt (show σ13 55 20 = (σ 55 20) from (jkp 20 eσ13 (by decide))))
    have z17 : (σ13 55 21).toInt = (σ 55 19).toInt := (congrArg Int32.toInt (show σ13 55 21 = (σ 55 19) from (jsp eσ13)))
    have I18 : jI121 σ13 := ⟨(by omega), (by omega), (by omega), (by omega), (by omega)⟩
    exact hret 0 σ13 τ _ _ _ _ rfl ⟨rfl, (fun i hi => (jnp i eσ13 (imp_164 i hi))), (fun i hi => (jkp i eσ13 (imp_33 i hi))), I18, (by omega), ⟨rfl, trivial⟩⟩ hP hS dX12_wrong_23
set_option maxHeartbeats 4000000 in
set_option maxRecDepth 100000 in
theorem c_X12_takes (l : Launch) (D : va_G) (cI cL : ClassId) (ad zz : Nat → Nat) (hJ : jD ad) (σ : Nat → Nat → Int32) (τ : Nat → Nat → Int64) (a1 : Int32) (A1 : Int) (t1 : a1.toInt = A1) (hI121 : jI121 σ) (hp0 : 1 ≤ A1) : jM l yX12_takes cX12_takes 2 (some .boolean) ({ frames := 1, cells := 0, slots := 0, locals := 20 }) D cI cL ad zz [.ref (ad 55), .int a1] σ τ (fun r σ' τ' => τ = τ' ∧ (∀ i : Nat, (i < 55 ∨ 55 < i) → σ' i = σ i) ∧ (∀ k : Nat, (k < 19 ∨ 19 < k) → σ' 55 k = σ 55 k) ∧ (jI121 σ') ∧ ((r = 1 ∧ ((σ 55 21).toInt = (-1)) ∧ ((σ' 55 19).toInt = (σ 55 19).toInt + 1)) ∨ (r = 0 ∧ ((σ' 55 19).toInt = (σ 55 19).toInt)))) := by
  refine jM.of hJ (by decide +kernel) (nt := .boolean) rfl (Nat.le_of_ble_eq_true rfl) ?_
  intro p e s m args below meth c Q ls hC hret hl hP
  obtain ⟨hx, hb, hr, hml, hown, hts, hK, -, hlocks, hZ⟩ := hC
  have hown : s.vm.findClass RX12 = some m.cls := hown
  have hS : va_S (jA ad) s.heap s.heap [] := va_S.rf
  have hA : ∀ q, jA ad q → jA ad q := fun _ h => h
  have hl : lv_has ls 2 [(0, .ref (ad 55)), (1, .int a1)] := hl
  have g1 := jrg t1
  obtain ⟨i1, i2, i3, i4, i5⟩ : ((-1) ≤ (σ 55 18).toInt ∧ (σ 55 18).toInt ≤ 80) ∧ (0 ≤ (σ 55 19).toInt) ∧ ((σ 55 19).toInt ≤ (σ 55 20).toInt) ∧ ((σ 55 20).toInt ≤ 80) ∧ ((-1) ≤ (σ 55 21).toInt) := id hI121
  refine lv_aload_n hx hb dX12_takes_0 rfl (lv_at hl 0 rfl) ?_
  refine va_get (D := D) hx hb hts inlX12 hown hK hP 55 (jc_55 cI cL ad σ τ) rfl 21 (by decide) (hts _ kw_15_13) (fun _ h9 => h9) rfl dX12_takes_1 ?_
  refine lv_if_ge (tgt := 15) hx hb dX12_takes_4 (by decide) (fun c6 => ?_) (fun c6 => ?_)
  · have kc6 := jle c6 jz_0 rfl
    refine lv_iconst (v := 0) hx hb dX12_takes_15 (by decide) ?_
    exact hret 0 σ τ _ _ _ _ rfl ⟨rfl, (fun _ _ => rfl), (fun _ _ => rfl), hI121, Or.inr (⟨rfl, (by have h9 := jz_0; omega)⟩)⟩ hP hS dX12_takes_16
  · have kc6 := jnle c6 jz_0 rfl
    refine lv_aload_n hx hb dX12_takes_7 rfl (lv_at hl 0 rfl) ?_
    refine jcallV (As := []) (rest := []) ⟨hx, hb, hml, hown, hts⟩ hK hP hA hS hZ (c_X12_byteAt l D cI cL ad zz hJ σ τ hI121) cw_RX12_189 (jc_55 cI cL ad σ τ) rfl ⟨Nat.le_of_ble_eq_true rfl, Nat.le_of_ble_eq_true rfl⟩ rfl rfl rfl hl.1 rfl (Nat.le_of_ble_eq_true rfl) dX12_takes_8 ⟨Nat.zero_le _, Nat.zero_le _⟩ (fun r8 σ7 τ7 H locs h7 hP hS => ?_)
    obtain ⟨⟨rfl, rfl⟩, h7⟩ := h7
    have h9 := h7
    obtain ⟨q11, k10⟩ := h9
    refine lv_iload_n hx hb dX12_takes_11 rfl (lv_at hl 1 rfl) ?_
    refine lv_icmp_eq (tgt := 17) hx hb dX12_takes_12 (by decide) (fun c12 => ?_) (fun c12 => ?_)
    · have kc12 := jeq c12 rfl t1
      refine lv_aload_n hx hb dX12_takes_17 rfl (lv_at hl 0 rfl) ?_
      refine lv_dup hx hb dX12_takes_18 rfl ?_
      refine va_get (D := D) hx hb hts inlX12 hown hK hP 55 (jc_55 cI cL ad σ τ) rfl 19 (by decide) (hts _ kw_15_11) (fun _ h9 => h9) rfl dX12_takes_19 ?_
      refine lv_iconst (v := 1) hx hb dX12_takes_22 (by decide) ?_
      have g13 := jrg (rfl : (σ 55 19).toInt = (σ 55 19).toInt)
      refine lv_iadd hx hb dX12_takes_23 ?_
      refine lv_topi (fun x14 ex14 => ?_)
      have tx14 : x14.toInt = (σ 55 19).toInt + 1 := (jadd ex14 rfl jz_1 (by omega) (by omega)).trans (by omega)
      refine jput (ty := .int) hx hb hts inlX12 tyX12 tyX12_ok nmX12 hown hK hP hJ hA hS (jc_55 cI cL ad σ τ) rfl (k := 19) (by decide) (Nat.le_of_ble_eq_true rfl) (jp_55_19 cI cL ad σ τ x14) (hts _ kw_15_11) (fun _ h9 => h9) rfl (by decide +kernel) rfl rfl dX12_takes_24 (fun σ15 H locs eσ15 hP hS => ?_)
      refine lv_iconst (v := 1) hx hb dX12_takes_27 (by decide) ?_
      have z16 : (σ15 55 18).toInt = (σ 55 18).toInt := (congrArg Int32.toInt (show σ15 55 18 = (σ 55 18) from (jkp 18 eσ15 (by decide))))
      have z17 : (σ15 55 19).toInt = (σ 55 19).toInt + 1 := ((congrArg Int32.toInt (show σ15 55 19 = x14 from (jsp eσ15))).trans tx14)
      have z18 : (σ15 55 20).toInt = (σ 55 20).toInt := (congrArg Int32.toInt (show σ15 55 20 = (σ 55 20) from (jkp 20 eσ15 (by decide))))
      have z19 : (σ15 55 21).toInt = (σ 55 21).toInt := (congrArg Int32.toInt (show σ15 55 21 = (σ 55 21) from (jkp 21 eσ15 (by decide))))
      have I20 : jI121 σ15 := ⟨(by omega), (by omega), (by omega), (by omega), (by omega)⟩
      exact hret 1 σ15 τ _ _ _ _ rfl ⟨rfl, (fun i hi => (jnp i eσ15 (imp_164 i hi))), (fun i hi => (jkp i eσ15 (imp_168 i hi))), I20, Or.inl ⟨rfl, (by have h9 := jz_1; omega), (by have h9 := jz_1; omega)⟩⟩ hP hS dX12_takes_28
    · have kc12 := jne c12 rfl t1
      refine lv_iconst (v := 0) hx hb dX12_takes_15 (by decide) ?_
      exact hret 0 σ τ _ _ _ _ rfl ⟨rfl, (fun _ _ => rfl), (fun _ _ => rfl), hI121, Or.inr (⟨rfl, (by have h9 := jz_0; omega)⟩)⟩ hP hS dX12_takes_16
set_option maxHeartbeats 4000000 in
set_option maxRecDepth 100000 in
theorem c_X12_nameOf (l : Launch) (D : va_G) (cI cL : ClassId) (ad zz : Nat → Nat) (hJ : jD ad) (σ : Nat → Nat → Int32) (τ : Nat → Nat → Int64) (a1 : Int32) (A1 : Int) (t1 : a1.toInt = A1) : jM l yX12_nameOf cX12_nameOf 1 (some .int) ({ frames := 0, cells := 0, slots := 0, locals := 0 }) D cI cL ad zz [.int a1] σ τ (fun r σ' τ' => (σ = σ' ∧ τ = τ') ∧ ((True ∧ (0 ≤ r.toInt ∧ r.toInt ≤ 7) ∧ (1 ≤ A1)) ∨ (r = (-1) ∧ True))) := by
  refine jM.of hJ (by decide +kernel) (nt := .int) rfl (Nat.le_of_ble_eq_true rfl) ?_
  intro p e s m args below meth c Q ls hC hret hl hP
  obtain ⟨hx, hb, hr, hml, hown, hts, hK, -, hlocks, hZ⟩ := hC
  have hown : s.vm.findClass RX12 = some m.cls := hown
  have hS : va_S (jA ad) s.heap s.heap [] := va_S.rf
  have hA : ∀ q, jA ad q → jA ad q := fun _ h => h
  have hl : lv_has ls 1 [(0, .int a1)] := hl
  have g1 := jrg t1
  refine lv_iload_n hx hb dX12_nameOf_0 rfl (lv_at hl 0 rfl) ?_
  by_cases c1 : a1 = 98
  · have kc1 := jeq c1 t1 jz_98
    refine jtopr c1 ?_
    refine lv_tableIn (off := 109) (tgt := 110) hx hb dX12_nameOf_1 (by decide) (by decide) (by decide) (by decide) ?_
    refine lv_iconst (v := 3) hx hb dX12_nameOf_110 (by decide) ?_
    exact hret 3 σ τ _ _ _ _ rfl ⟨⟨rfl, rfl⟩, Or.inl ⟨trivial, (by have h9 := jz_3; omega), (by have h9 := jz_3; omega)⟩⟩ hP hS dX12_nameOf_111
  have kc1 := jne c1 t1 jz_98
  by_cases c2 : a1 = 99
  · have kc2 := jeq c2 t1 jz_99
    refine jtopr c2 ?_
    refine lv_tableIn (off := 121) (tgt := 122) hx hb dX12_nameOf_1 (by decide) (by decide) (by decide) (by decide) ?_
    refine lv_iconst (v := (-1)) hx hb dX12_nameOf_122 (by decide) ?_
    exact hret (-1) σ τ _ _ _ _ rfl ⟨⟨rfl, rfl⟩, Or.inr (⟨rfl, trivial⟩)⟩ hP hS dX12_nameOf_123
  have kc2 := jne c2 t1 jz_99
  by_cases c3 : a1 = 100
  · have kc3 := jeq c3 t1 jz_100
    refine jtopr c3 ?_
    refine lv_tableIn (off := 121) (tgt := 122) hx hb dX12_nameOf_1 (by decide) (by decide) (by decide) (by decide) ?_
    refine lv_iconst (v := (-1)) hx hb dX12_nameOf_122 (by decide) ?_
    exact hret (-1) σ τ _ _ _ _ rfl ⟨⟨rfl, rfl⟩, Or.inr (⟨rfl, trivial⟩)⟩ hP hS dX12_nameOf_123
  have kc3 := jne c3 t1 jz_100
  by_cases c4 : a1 = 101
  · have kc4 := jeq c4 t1 jz_101
    refine jtopr c4 ?_
    refine lv_tableIn (off := 121) (tgt := 122) hx hb dX12_nameOf_1 (by decide) (by decide) (by decide) (by decide) ?_
    refine lv_iconst (v := (-1)) hx hb dX12_nameOf_122 (by decide) ?_
    exact hret (-1) σ τ _ _ _ _ rfl ⟨⟨rfl, rfl⟩, Or.inr (⟨rfl, trivial⟩)⟩ hP hS dX12_nameOf_123
  have kc4 := jne c4 t1 jz_101
  by_cases c5 : a1 = 102
  · have kc5 := jeq c5 t1 jz_102
    refine jtopr c5 ?_
    refine lv_tableIn (off := 121) (tgt := 122) hx hb dX12_nameOf_1 (by decide) (by decide) (by decide) (by decide) ?_
    refine lv_iconst (v := (-1)) hx hb dX12_nameOf_122 (by decide) ?_
    exact hret (-1) σ τ _ _ _ _ rfl ⟨⟨rfl, rfl⟩, Or.inr (⟨rfl, trivial⟩)⟩ hP hS dX12_nameOf_123
  have kc5 := jne c5 t1 jz_102
  by_cases c6 : a1 = 103
  · have kc6 := jeq c6 t1 jz_103
    refine jtopr c6 ?_
    refine lv_tableIn (off := 121) (tgt := 122) hx hb dX12_nameOf_1 (by decide) (by decide) (by decide) (by decide) ?_
    refine lv_iconst (v := (-1)) hx hb dX12_nameOf_122 (by decide) ?_
    exact hret (-1) σ τ _ _ _ _ rfl ⟨⟨rfl, rfl⟩, Or.inr (⟨rfl, trivial⟩)⟩ hP hS dX12_nameOf_123
  have kc6 := jne c6 t1 jz_103
  by_cases c7 : a1 = 104
  · have kc7 := jeq c7 t1 jz_104
    refine jtopr c7 ?_
    refine lv_tableIn (off := 121) (tgt := 122) hx hb dX12_nameOf_1 (by decide) (by decide) (by decide) (by decide) ?_
    refine lv_iconst (v := (-1)) hx hb dX12_nameOf_122 (by decide) ?_
    exact hret (-1) σ τ _ _ _ _ rfl ⟨⟨rfl, rfl⟩, Or.inr (⟨rfl, trivial⟩)⟩ hP hS dX12_nameOf_123
  have kc7 := jne c7 t1 jz_104
  by_cases c8 : a1 = 105
  · have kc8 := jeq c8 t1 jz_105
    refine jtopr c8 ?_
    refine lv_tableIn (off := 121) (tgt := 122) hx hb dX12_nameOf_1 (by decide) (by decide) (by decide) (by decide) ?_
    refine lv_iconst (v := (-1)) hx hb dX12_nameOf_122 (by decide) ?_
    exact hret (-1) σ τ _ _ _ _ rfl ⟨⟨rfl, rfl⟩, Or.inr (⟨rfl, trivial⟩)⟩ hP hS dX12_nameOf_123
  have kc8 := jne c8 t1 jz_105
  by_cases c9 : a1 = 106
  · have kc9 := jeq c9 t1 jz_106
    refine jtopr c9 ?_
    refine lv_tableIn (off := 121) (tgt := 122) hx hb dX12_nameOf_1 (by decide) (by decide) (by decide) (by decide) ?_
    refine lv_iconst (v := (-1)) hx hb dX12_nameOf_122 (by decide) ?_
    exact hret (-1) σ τ _ _ _ _ rfl ⟨⟨rfl, rfl⟩, Or.inr (⟨rfl, trivial⟩)⟩ hP hS dX12_nameOf_123
  have kc9 := jne c9 t1 jz_106
  by_cases c10 : a1 = 107
  · have kc10 := jeq c10 t1 jz_107
    refine jtopr c10 ?_
    refine lv_tableIn (off := 118) (tgt := 119) hx hb dX12_nameOf_1 (by decide) (by decide) (by decide) (by decide) ?_
    refine lv_bipush (v := 7) hx hb dX12_nameOf_119 (by decide) ?_
    exact hret 7 σ τ _ _ _ _ rfl ⟨⟨rfl, rfl⟩, Or.inl ⟨trivial, (by have h9 := jz_7; omega), (by have h9 := jz_7; omega)⟩⟩ hP hS dX12_nameOf_121
  have kc10 := jne c10 t1 jz_107
  by_cases c11 : a1 = 108
  · have kc11 := jeq c11 t1 jz_108
    refine jtopr c11 ?_
    refine lv_tableIn (off := 113) (tgt := 114) hx hb dX12_nameOf_1 (by decide) (by decide) (by decide) (by decide) ?_
    refine lv_iconst (v := 5) hx hb dX12_nameOf_114 (by decide) ?_
    exact hret 5 σ τ _ _ _ _ rfl ⟨⟨rfl, rfl⟩, Or.inl ⟨trivial, (by have h9 := jz_5; omega), (by have h9 := jz_5; omega)⟩⟩ hP hS dX12_nameOf_115
  have kc11 := jne c11 t1 jz_108
  by_cases c12 : a1 = 109
  · have kc12 := jeq c12 t1 jz_109
    refine jtopr c12 ?_
    refine lv_tableIn (off := 121) (tgt := 122) hx hb dX12_nameOf_1 (by decide) (by decide) (by decide) (by decide) ?_
    refine lv_iconst (v := (-1)) hx hb dX12_nameOf_122 (by decide) ?_
    exact hret (-1) σ τ _ _ _ _ rfl ⟨⟨rfl, rfl⟩, Or.inr (⟨rfl, trivial⟩)⟩ hP hS dX12_nameOf_123
  have kc12 := jne c12 t1 jz_109
  by_cases c13 : a1 = 110
  · have kc13 := jeq c13 t1 jz_110
    refine jtopr c13 ?_
    refine lv_tableIn (off := 121) (tgt := 122) hx hb dX12_nameOf_1 (by decide) (by decide) (by decide) (by decide) ?_
    refine lv_iconst (v := (-1)) hx hb dX12_nameOf_122 (by decide) ?_
    exact hret (-1) σ τ _ _ _ _ rfl ⟨⟨rfl, rfl⟩, Or.inr (⟨rfl, trivial⟩)⟩ hP hS dX12_nameOf_123
  have kc13 := jne c13 t1 jz_110
  by_cases c14 : a1 = 111
  · have kc14 := jeq c14 t1 jz_111
    refine jtopr c14 ?_
    refine lv_tableIn (off := 103) (tgt := 104) hx hb dX12_nameOf_1 (by decide) (by decide) (by decide) (by decide) ?_
    refine lv_iconst (v := 0) hx hb dX12_nameOf_104 (by decide) ?_
    exact hret 0 σ τ _ _ _ _ rfl ⟨⟨rfl, rfl⟩, Or.inl ⟨trivial, (by have h9 := jz_0; omega), (by have h9 := jz_0; omega)⟩⟩ hP hS dX12_nameOf_105
  have kc14 := jne c14 t1 jz_111
  by_cases c15 : a1 = 112
  · have kc15 := jeq c15 t1 jz_112
    refine jtopr c15 ?_
    refine lv_tableIn (off := 115) (tgt := 116) hx hb dX12_nameOf_1 (by decide) (by decide) (by decide) (by decide) ?_
    refine lv_bipush (v := 6) hx hb dX12_nameOf_116 (by decide) ?_
    exact hret 6 σ τ _ _ _ _ rfl ⟨⟨rfl, rfl⟩, Or.inl ⟨trivial, (by have h9 := jz_6; omega), (by have h9 := jz_6; omega)⟩⟩ hP hS dX12_nameOf_118
  have kc15 := jne c15 t1 jz_112
  by_cases c16 : a1 = 113
  · have kc16 := jeq c16 t1 jz_113
    refine jtopr c16 ?_
    refine lv_tableIn (off := 121) (tgt := 122) hx hb dX12_nameOf_1 (by decide) (by decide) (by decide) (by decide) ?_
    refine lv_iconst (v := (-1)) hx hb dX12_nameOf_122 (by decide) ?_
    exact hret (-1) σ τ _ _ _ _ rfl ⟨⟨rfl, rfl⟩, Or.inr (⟨rfl, trivial⟩)⟩ hP hS dX12_nameOf_123
  have kc16 := jne c16 t1 jz_113
  by_cases c17 : a1 = 114
  · have kc17 := jeq c17 t1 jz_114
    refine jtopr c17 ?_
    refine lv_tableIn (off := 121) (tgt := 122) hx hb dX12_nameOf_1 (by decide) (by decide) (by decide) (by decide) ?_
    refine lv_iconst (v := (-1)) hx hb dX12_nameOf_122 (by decide) ?_
    exact hret (-1) σ τ _ _ _ _ rfl ⟨⟨rfl, rfl⟩, Or.inr (⟨rfl, trivial⟩)⟩ hP hS dX12_nameOf_123
  have kc17 := jne c17 t1 jz_114
  by_cases c18 : a1 = 115
  · have kc18 := jeq c18 t1 jz_115
    refine jtopr c18 ?_
    refine lv_tableIn (off := 107) (tgt := 108) hx hb dX12_nameOf_1 (by decide) (by decide) (by decide) (by decide) ?_
    refine lv_iconst (v := 2) hx hb dX12_nameOf_108 (by decide) ?_
    exact hret 2 σ τ _ _ _ _ rfl ⟨⟨rfl, rfl⟩, Or.inl ⟨trivial, (by have h9 := jz_2; omega), (by have h9 := jz_2; omega)⟩⟩ hP hS dX12_nameOf_109
  have kc18 := jne c18 t1 jz_115
  by_cases c19 : a1 = 116
  · have kc19 := jeq c19 t1 jz_116
    refine jtopr c19 ?_
    refine lv_tableIn (off := 111) (tgt := 112) hx hb dX12_nameOf_1 (by decide) (by decide) (by decide) (by decide) ?_
    refine lv_iconst (v := 4) hx hb dX12_nameOf_112 (by decide) ?_
    exact hret 4 σ τ _ _ _ _ rfl ⟨⟨rfl, rfl⟩, Or.inl ⟨trivial, (by have h9 := jz_4; omega), (by have h9 := jz_4; omega)⟩⟩ hP hS dX12_nameOf_113
  have kc19 := jne c19 t1 jz_116
  by_cases c20 : a1 = 117
  · have kc20 := jeq c20 t1 jz_117
    refine jtopr c20 ?_
    refine lv_tableIn (off := 121) (tgt := 122) hx hb dX12_nameOf_1 (by decide) (by decide) (by decide) (by decide) ?_
    refine lv_iconst (v := (-1)) hx hb dX12_nameOf_122 (by decide) ?_
    exact hret (-1) σ τ _ _ _ _ rfl ⟨⟨rfl, rfl⟩, Or.inr (⟨rfl, trivial⟩)⟩ hP hS dX12_nameOf_123
  have kc20 := jne c20 t1 jz_117
  by_cases c21 : a1 = 118
  · have kc21 := jeq c21 t1 jz_118
    refine jtopr c21 ?_
    refine lv_tableIn (off := 121) (tgt := 122) hx hb dX12_nameOf_1 (by decide) (by decide) (by decide) (by decide) ?_
    refine lv_iconst (v := (-1)) hx hb dX12_nameOf_122 (by decide) ?_
    exact hret (-1) σ τ _ _ _ _ rfl ⟨⟨rfl, rfl⟩, Or.inr (⟨rfl, trivial⟩)⟩ hP hS dX12_nameOf_123
  have kc21 := jne c21 t1 jz_118
  by_cases c22 : a1 = 119
  · have kc22 := jeq c22 t1 jz_119
    refine jtopr c22 ?_
    refine lv_tableIn (off := 105) (tgt := 106) hx hb dX12_nameOf_1 (by decide) (by decide) (by decide) (by decide) ?_
    refine lv_iconst (v := 1) hx hb dX12_nameOf_106 (by decide) ?_
    exact hret 1 σ τ _ _ _ _ rfl ⟨⟨rfl, rfl⟩, Or.inl ⟨trivial, (by have h9 := jz_1; omega), (by have h9 := jz_1; omega)⟩⟩ hP hS dX12_nameOf_107
  have kc22 := jne c22 t1 jz_119
  refine lv_tableOut (tgt := 122) hx hb dX12_nameOf_1 (by rw [t1]; omega) (by decide) ?_
  refine lv_iconst (v := (-1)) hx hb dX12_nameOf_122 (by decide) ?_
  exact hret (-1) σ τ _ _ _ _ rfl ⟨⟨rfl, rfl⟩, Or.inr (⟨rfl, trivial⟩)⟩ hP hS dX12_nameOf_123
set_option maxHeartbeats 4000000 in
set_option maxRecDepth 100000 in
theorem c_X12_grammar_one_g (l : Launch) (D : va_G) (cI cL : ClassId) (ad zz : Nat → Nat) (hJ : jD ad) (n : Nat) (h_one : ∀ (σ : Nat → Nat → Int32) (τ : Nat → Nat → Int64) (hI121 : jI121 σ) (hp0 : (σ 55 21).toInt = (-1)) (hp1 : 0 ≤ (σ 55 22).toInt ∧ (σ 55 22).toInt ≤ 6) (hp2 : -(σ 55 22).toInt + 6 ≤ (((n) : Nat) : Int)), jM l yX12_one cX12_one 5 (some .int) ({ frames := (10 + 8 * (n)), cells := 0, slots := 0, locals := (400 + 360 * (n)) }) D cI cL ad zz [.ref (ad 55)] σ τ (fun r σ' τ' => τ = τ' ∧ (∀ i : Nat, (i < 55 ∨ 55 < i) → σ' i = σ i) ∧ (∀ k : Nat, (k < 19 ∨ 19 < k) ∧ (k < 21 ∨ 21 < k) ∧ (k < 22 ∨ 22 < k) → σ' 55 k = σ 55 k) ∧ (jI121 σ') ∧ (((σ' 55 21).toInt = (-1) ∧ (σ' 55 22).toInt = (σ 55 22).toInt) ∨ (0 ≤ (σ' 55 21).toInt)) ∧ ((σ 55 19).toInt ≤ (σ' 55 19).toInt) ∧ True)) (h_either : ∀ (σ : Nat → Nat → Int32) (τ : Nat → Nat → Int64) (hI121 : jI121 σ) (hp0 : (σ 55 21).toInt = (-1)) (hp1 : 0 ≤ (σ 55 22).toInt ∧ (σ 55 22).toInt ≤ 6) (hp2 : -(σ 55 22).toInt + 6 ≤ (((n) : Nat) : Int)), jM l yX12_either cX12_either 3 (some .int) ({ frames := (15 + 8 * (n)), cells := 0, slots := 0, locals := (600 + 360 * (n)) }) D cI cL ad zz [.ref (ad 55)] σ τ (fun r σ' τ' => τ = τ' ∧ (∀ i : Nat, (i < 55 ∨ 55 < i) → σ' i = σ i) ∧ (∀ k : Nat, (k < 19 ∨ 19 < k) ∧ (k < 21 ∨ 21 < k) ∧ (k < 22 ∨ 22 < k) → σ' 55 k = σ 55 k) ∧ (jI121 σ') ∧ (((σ' 55 21).toInt = (-1) ∧ (σ' 55 22).toInt = (σ 55 22).toInt) ∨ (0 ≤ (σ' 55 21).toInt)) ∧ ((σ 55 19).toInt ≤ (σ' 55 19).toInt) ∧ True)) (σ : Nat → Nat → Int32) (τ : Nat → Nat → Int64) (hI121 : jI121 σ) (hp0 : (σ 55 21).toInt = (-1)) (hp1 : 0 ≤ (σ 55 22).toInt ∧ (σ 55 22).toInt ≤ 6) (hp2 : -(σ 55 22).toInt + 6 ≤ (((n + 1) : Nat) : Int)) : jM l yX12_one cX12_one 5 (some .int) ({ frames := (10 + 8 * (n + 1)), cells := 0, slots := 0, locals := (400 + 360 * (n + 1)) }) D cI cL ad zz [.ref (ad 55)] σ τ (fun r σ' τ' => τ = τ' ∧ (∀ i : Nat, (i < 55 ∨ 55 < i) → σ' i = σ i) ∧ (∀ k : Nat, (k < 19 ∨ 19 < k) ∧ (k < 21 ∨ 21 < k) ∧ (k < 22 ∨ 22 < k) → σ' 55 k = σ 55 k) ∧ (jI121 σ') ∧ (((σ' 55 21).toInt = (-1) ∧ (σ' 55 22).toInt = (σ 55 22).toInt) ∨ (0 ≤ (σ' 55 21).toInt)) ∧ ((σ 55 19).toInt ≤ (σ' 55 19).toInt) ∧ True) := by
  refine jM.of hJ (by decide +kernel) (nt := .int) rfl (Nat.le_of_ble_eq_true rfl) ?_
  intro p e s m args below meth c Q ls hC hret hl hP
  obtain ⟨hx, hb, hr, hml, hown, hts, hK, -, hlocks, hZ⟩ := hC
  have hown : s.vm.findClass RX12 = some m.cls := hown
  have hS : va_S (jA ad) s.heap s.heap [] := va_S.rf
  have hA : ∀ q, jA ad q → jA ad q := fun _ h => h
  have hl : lv_has ls 5 [(0, .ref (ad 55))] := hl
  obtain ⟨i1, i2, i3, i4, i5⟩ : ((-1) ≤ (σ 55 18).toInt ∧ (σ 55 18).toInt ≤ 80) ∧ (0 ≤ (σ 55 19).toInt) ∧ ((σ 55 19).toInt ≤ (σ 55 20).toInt) ∧ ((σ 55 20).toInt ≤ 80) ∧ ((-1) ≤ (σ 55 21).toInt) := id hI121
  refine lv_aload_n hx hb dX12_one_0 rfl (lv_at hl 0 rfl) ?_
  refine va_get (D := D) hx hb hts inlX12 hown hK hP 55 (jc_55 cI cL ad σ τ) rfl 21 (by decide) (hts _ kw_15_13) (fun _ h9 => h9) rfl dX12_one_1 ?_
  refine lv_if_lt (tgt := 9) hx hb dX12_one_4 (by decide) (fun c6 => ?_) (fun c => absurd (jnlt c rfl jz_0) (by omega))
  have kc6 := jlt c6 rfl jz_0
  refine lv_aload_n hx hb dX12_one_9 rfl (lv_at hl 0 rfl) ?_
  refine jcallV (As := []) (rest := []) ⟨hx, hb, hml, hown, hts⟩ hK hP hA hS hZ (c_X12_byteAt l D cI cL ad zz hJ σ τ hI121) cw_RX12_189 (jc_55 cI cL ad σ τ) rfl ⟨by dsimp only; omega, by dsimp only; omega⟩ rfl rfl rfl hl.1 rfl (Nat.le_of_ble_eq_true rfl) dX12_one_10 ⟨Nat.zero_le _, Nat.zero_le _⟩ (fun r8 σ7 τ7 H locs h7 hP hS => ?_)
  obtain ⟨⟨rfl, rfl⟩, h7⟩ := h7
  have h9 := h7
  obtain ⟨q11, k10⟩ := h9
  refine lv_istore_n (lv' := [(1, .int r8), (0, .ref (ad 55))]) hx hb dX12_one_13 rfl hl (by decide) rfl (fun ls hl => ?_)
  refine lv_iload_n hx hb dX12_one_14 rfl (lv_at hl 0 rfl) ?_
  refine lv_bipush (v := 33) hx hb dX12_one_15 (by decide) ?_
  refine lv_icmp_eq (tgt := 32) hx hb dX12_one_17 (by decide) (fun c12 => ?_) (fun c12 => ?_)
  · have kc12 := jeq c12 rfl jz_33
    refine lv_aload_n hx hb dX12_one_32 rfl (lv_at hl 1 rfl) ?_
    refine va_get (D := D) hx hb hts inlX12 hown hK hP 55 (jc_55 cI cL ad σ τ) rfl 22 (by decide) (hts _ kw_18_21) (fun _ h9 => h9) rfl dX12_one_33 ?_
    refine lv_bipush (v := 6) hx hb dX12_one_36 (by decide) ?_
    refine lv_icmp_ne (tgt := 46) hx hb dX12_one_38 (by decide) (fun c13 => ?_) (fun c13 => ?_)
    · have kc13 := jne c13 rfl jz_6
      refine lv_aload_n hx hb dX12_one_46 rfl (lv_at hl 1 rfl) ?_
      refine lv_dup hx hb dX12_one_47 rfl ?_
      refine va_get (D := D) hx hb hts inlX12 hown hK hP 55 (jc_55 cI cL ad σ τ) rfl 22 (by decide) (hts _ kw_18_21) (fun _ h9 => h9) rfl dX12_one_48 ?_
      refine lv_iconst (v := 1) hx hb dX12_one_51 (by decide) ?_
      have g14 := jrg (rfl : (σ 55 22).toInt = (σ 55 22).toInt)
      refine lv_iadd hx hb dX12_one_52 ?_
      refine lv_topi (fun x15 ex15 => ?_)
      have tx15 : x15.toInt = (σ 55 22).toInt + 1 := (jadd ex15 rfl jz_1 (by omega) (by omega)).trans (by omega)
      refine jput (ty := .int) hx hb hts inlX12 tyX12 tyX12_ok nmX12 hown hK hP hJ hA hS (jc_55 cI cL ad σ τ) rfl (k := 22) (by decide) (Nat.le_of_ble_eq_true rfl) (jp_55_22 cI cL ad σ τ x15) (hts _ kw_18_21) (fun _ h9 => h9) rfl (by decide +kernel) rfl rfl dX12_one_53 (fun σ16 H locs eσ16 hP hS => ?_)
      refine lv_aload_n hx hb dX12_one_56 rfl (lv_at hl 1 rfl) ?_
      refine lv_dup hx hb dX12_one_57 rfl ?_
      refine va_get (D := D) hx hb hts inlX12 hown hK hP 55 (jc_55 cI cL ad σ16 τ) rfl 19 (by decide) (hts _ kw_15_11) (fun _ h9 => h9) rfl dX12_one_58 ?_
      have m17 : σ16 55 19 = (σ 55 19) := (jkp 19 eσ16 (by decide))
      refine jtopr m17 ?_
      refine lv_iconst (v := 1) hx hb dX12_one_61 (by decide) ?_
      have g18 := jrg (rfl : (σ 55 19).toInt = (σ 55 19).toInt)
      refine lv_iadd hx hb dX12_one_62 ?_
      refine lv_topi (fun x19 ex19 => ?_)
      have tx19 : x19.toInt = (σ 55 19).toInt + 1 := (jadd ex19 rfl jz_1 (by omega) (by omega)).trans (by omega)
      refine jput (ty := .int) hx hb hts inlX12 tyX12 tyX12_ok nmX12 hown hK hP hJ hA hS (jc_55 cI cL ad σ16 τ) rfl (k := 19) (by decide) (Nat.le_of_ble_eq_true rfl) (jp_55_19 cI cL ad σ16 τ x19) (hts _ kw_15_11) (fun _ h9 => h9) rfl (by decide +kernel) rfl rfl dX12_one_63 (fun σ20 H locs eσ20 hP hS => ?_)
      refine lv_iload_n hx hb dX12_one_66 rfl (lv_at hl 0 rfl) ?_
      refine lv_bipush (v := 40) hx hb dX12_one_67 (by decide) ?_
      refine lv_icmp_ne (tgt := 79) hx hb dX12_one_69 (by decide) (fun c21 => ?_) (fun c => absurd (jeq c rfl jz_40) (by omega))
      have kc21 := jne c21 rfl jz_40
      refine lv_aload_n hx hb dX12_one_79 rfl (lv_at hl 1 rfl) ?_
      have z22 : (σ20 55 18).toInt = (σ 55 18).toInt := (congrArg Int32.toInt (show σ20 55 18 = (σ 55 18) from ((jkp 18 eσ20 (by decide)).trans (jkp 18 eσ16 (by decide)))))
      have z23 : (σ20 55 19).toInt = (σ 55 19).toInt + 1 := ((congrArg Int32.toInt (show σ20 55 19 = x19 from (jsp eσ20))).trans tx19)
      have z24 : (σ20 55 20).toInt = (σ 55 20).toInt := (congrArg Int32.toInt (show σ20 55 20 = (σ 55 20) from ((jkp 20 eσ20 (by decide)).trans (jkp 20 eσ16 (by decide)))))
      have z25 : (σ20 55 21).toInt = (σ 55 21).toInt := (congrArg Int32.toInt (show σ20 55 21 = (σ 55 21) from ((jkp 21 eσ20 (by decide)).trans (jkp 21 eσ16 (by decide)))))
      have I26 : jI121 σ20 := ⟨(by omega), (by omega), (by omega), (by omega), (by omega)⟩
      have z27 : (σ20 55 22).toInt = (σ 55 22).toInt + 1 := ((congrArg Int32.toInt (show σ20 55 22 = x15 from ((jkp 22 eσ20 (by decide)).trans (jsp eσ16)))).trans tx15)
      refine jcallV (As := []) (rest := []) ⟨hx, hb, hml, hown, hts⟩ hK hP hA hS hZ (h_one σ20 τ I26 (by omega) (by omega) (by omega)) cw_RX12_208 (jc_55 cI cL ad σ20 τ) rfl ⟨by dsimp only; omega, by dsimp only; omega⟩ rfl rfl rfl hl.1 rfl (Nat.le_of_ble_eq_true rfl) dX12_one_80 ⟨Nat.zero_le _, Nat.zero_le _⟩ (fun r29 σ28 τ28 H locs h28 hP hS => ?_)
      obtain ⟨rfl, f30, f31, I32, h28⟩ := h28
      obtain ⟨i33, i34, i35, i36, i37⟩ : ((-1) ≤ (σ28 55 18).toInt ∧ (σ28 55 18).toInt ≤ 80) ∧ (0 ≤ (σ28 55 19).toInt) ∧ ((σ28 55 19).toInt ≤ (σ28 55 20).toInt) ∧ ((σ28 55 20).toInt ≤ 80) ∧ ((-1) ≤ (σ28 55 21).toInt) := id I32
      have z38 : (σ28 55 18).toInt = (σ 55 18).toInt := (congrArg Int32.toInt (show σ28 55 18 = (σ 55 18) from ((f31 18 (by decide)).trans ((jkp 18 eσ20 (by decide)).trans (jkp 18 eσ16 (by decide))))))
      have z39 : (σ28 55 20).toInt = (σ 55 20).toInt := (congrArg Int32.toInt (show σ28 55 20 = (σ 55 20) from ((f31 20 (by decide)).trans ((jkp 20 eσ20 (by decide)).trans (jkp 20 eσ16 (by decide))))))
      obtain ⟨k40, k41, h28⟩ := h28
      refine lv_istore_n (lv' := [(2, .int r29), (1, .int r8), (0, .ref (ad 55))]) hx hb dX12_one_83 rfl hl (by decide) rfl (fun ls hl => ?_)
      refine lv_iload_n hx hb dX12_one_84 rfl (lv_at hl 1 rfl) ?_
      refine lv_bipush (v := 40) hx hb dX12_one_85 (by decide) ?_
      refine lv_icmp_ne (tgt := 104) hx hb dX12_one_87 (by decide) (fun c42 => ?_) (fun c => absurd (jeq c rfl jz_40) (by omega))
      have kc42 := jne c42 rfl jz_40
      refine lv_aload_n hx hb dX12_one_104 rfl (lv_at hl 2 rfl) ?_
      refine lv_dup hx hb dX12_one_105 rfl ?_
      refine va_get (D := D) hx hb hts inlX12 hown hK hP 55 (jc_55 cI cL ad σ28 τ) rfl 22 (by decide) (hts _ kw_18_21) (fun _ h9 => h9) rfl dX12_one_106 ?_
      refine lv_iconst (v := 1) hx hb dX12_one_109 (by decide) ?_
      have g43 := jrg (rfl : (σ28 55 22).toInt = (σ28 55 22).toInt)
      refine lv_isub hx hb dX12_one_110 ?_
      refine lv_topi (fun x44 ex44 => ?_)
      have gx44 := jrg (rfl : x44.toInt = x44.toInt)
      have g45 := jsubw ex44 rfl jz_1
      refine jput (ty := .int) hx hb hts inlX12 tyX12 tyX12_ok nmX12 hown hK hP hJ hA hS (jc_55 cI cL ad σ28 τ) rfl (k := 22) (by decide) (Nat.le_of_ble_eq_true rfl) (jp_55_22 cI cL ad σ28 τ x44) (hts _ kw_18_21) (fun _ h9 => h9) rfl (by decide +kernel) rfl rfl dX12_one_111 (fun σ46 H locs eσ46 hP hS => ?_)
      refine lv_iload_n hx hb dX12_one_114 rfl (lv_at hl 1 rfl) ?_
      refine lv_bipush (v := 40) hx hb dX12_one_115 (by decide) ?_
      refine lv_icmp_ne (tgt := 124) hx hb dX12_one_117 (by decide) (fun c47 => ?_) (fun c => absurd (jeq c rfl jz_40) (by omega))
      have kc47 := jne c47 rfl jz_40
      refine lv_iload_n hx hb dX12_one_124 rfl (lv_at hl 1 rfl) ?_
      refine lv_bipush (v := 45) hx hb dX12_one_125 (by decide) ?_
      refine lv_icmp_ne (tgt := 135) hx hb dX12_one_127 (by decide) (fun c48 => ?_) (fun c => absurd (jeq c rfl jz_45) (by omega))
      have kc48 := jne c48 rfl jz_45
      refine lv_iload_n hx hb dX12_one_135 rfl (lv_at hl 0 rfl) ?_
      refine lv_if_ne (tgt := 143) hx hb dX12_one_136 (by decide) (fun c49 => ?_) (fun c49 => ?_)
      · have kc49 := jne c49 rfl jz_0
        refine lv_iconst (v := 0) hx hb dX12_one_143 (by decide) ?_
        have I50 : jI121 σ46 := jI121_fr (jkp 18 eσ46 (by decide)) (jkp 19 eσ46 (by decide)) (jkp 20 eσ46 (by decide)) (jkp 21 eσ46 (by decide)) I32
        have z51 : (σ46 55 21).toInt = (σ28 55 21).toInt := (congrArg Int32.toInt (show σ46 55 21 = (σ28 55 21) from (jkp 21 eσ46 (by decide))))
        have z52 : (σ46 55 22).toInt = x44.toInt := (congrArg Int32.toInt (show σ46 55 22 = x44 from (jsp eσ46)))
        have z53 : (σ46 55 19).toInt = (σ28 55 19).toInt := (congrArg Int32.toInt (show σ46 55 19 = (σ28 55 19) from (jkp 19 eσ46 (by decide))))
        exact hret 0 σ46 τ _ _ _ _ rfl ⟨rfl, (fun i hi => ((jnp i eσ46 (imp_164 i hi)).trans ((f30 i hi).trans ((jnp i eσ20 (imp_164 i hi)).trans (jnp i eσ16 (imp_164 i hi)))))), (fun i hi => ((jkp i eσ46 (imp_169 i hi)).trans ((f31 i hi).trans ((jkp i eσ20 (imp_170 i hi)).trans (jkp i eσ16 (imp_169 i hi)))))), I50, (by omega), (by omega), trivial⟩ hP hS dX12_one_144
      · have kc49 := jeq c49 rfl jz_0
        refine lv_iconst (v := 1) hx hb dX12_one_139 (by decide) ?_
        refine lv_goto (tgt := 144) hx hb dX12_one_140 (by decide) ?_
        have I54 : jI121 σ46 := jI121_fr (jkp 18 eσ46 (by decide)) (jkp 19 eσ46 (by decide)) (jkp 20 eσ46 (by decide)) (jkp 21 eσ46 (by decide)) I32
        have z55 : (σ46 55 21).toInt = (σ28 55 21).toInt := (congrArg Int32.toInt (show σ46 55 21 = (σ28 55 21) from (jkp 21 eσ46 (by decide))))
        have z56 : (σ46 55 22).toInt = x44.toInt := (congrArg Int32.toInt (show σ46 55 22 = x44 from (jsp eσ46)))
        have z57 : (σ46 55 19).toInt = (σ28 55 19).toInt := (congrArg Int32.toInt (show σ46 55 19 = (σ28 55 19) from (jkp 19 eσ46 (by decide))))
        exact hret 1 σ46 τ _ _ _ _ rfl ⟨rfl, (fun i hi => ((jnp i eσ46 (imp_164 i hi)).trans ((f30 i hi).trans ((jnp i eσ20 (imp_164 i hi)).trans (jnp i eσ16 (imp_164 i hi)))))), (fun i hi => ((jkp i eσ46 (imp_169 i hi)).trans ((f31 i hi).trans ((jkp i eσ20 (imp_170 i hi)).trans (jkp i eσ16 (imp_169 i hi)))))), I54, (by omega), (by omega), trivial⟩ hP hS dX12_one_144
    · have kc13 := jeq c13 rfl jz_6
      refine lv_aload_n hx hb dX12_one_41 rfl (lv_at hl 1 rfl) ?_
      refine jcallV (As := []) (rest := []) ⟨hx, hb, hml, hown, hts⟩ hK hP hA hS hZ (c_X12_wrong l D cI cL ad zz hJ σ τ hI121) cw_RX12_214 (jc_55 cI cL ad σ τ) rfl ⟨by dsimp only; omega, by dsimp only; omega⟩ rfl rfl rfl hl.1 rfl (Nat.le_of_ble_eq_true rfl) dX12_one_42 ⟨Nat.zero_le _, Nat.zero_le _⟩ (fun r59 σ58 τ58 H locs h58 hP hS => ?_)
      obtain ⟨rfl, f60, f61, I62, h58⟩ := h58
      obtain ⟨i63, i64, i65, i66, i67⟩ : ((-1) ≤ (σ58 55 18).toInt ∧ (σ58 55 18).toInt ≤ 80) ∧ (0 ≤ (σ58 55 19).toInt) ∧ ((σ58 55 19).toInt ≤ (σ58 55 20).toInt) ∧ ((σ58 55 20).toInt ≤ 80) ∧ ((-1) ≤ (σ58 55 21).toInt) := id I62
      have z68 : (σ58 55 18).toInt = (σ 55 18).toInt := (congrArg Int32.toInt (show σ58 55 18 = (σ 55 18) from (f61 18 (by decide))))
      have z69 : (σ58 55 19).toInt = (σ 55 19).toInt := (congrArg Int32.toInt (show σ58 55 19 = (σ 55 19) from (f61 19 (by decide))))
      have z70 : (σ58 55 20).toInt = (σ 55 20).toInt := (congrArg Int32.toInt (show σ58 55 20 = (σ 55 20) from (f61 20 (by decide))))
      obtain ⟨k71, h58⟩ := h58
      have h72 := h58
      obtain ⟨q74, k73⟩ := h72
      have q74 := q74.symm
      subst q74
      have z75 : (σ58 55 22).toInt = (σ 55 22).toInt := (congrArg Int32.toInt (show σ58 55 22 = (σ 55 22) from (f61 22 (by decide))))
      exact hret 0 σ58 τ _ _ _ _ rfl ⟨rfl, (fun i hi => (f60 i hi)), (fun i hi => (f61 i (imp_171 i hi))), I62, (by omega), (by omega), trivial⟩ hP hS dX12_one_45
  · have kc12 := jne c12 rfl jz_33
    refine lv_iload_n hx hb dX12_one_20 rfl (lv_at hl 0 rfl) ?_
    refine lv_bipush (v := 45) hx hb dX12_one_21 (by decide) ?_
    refine lv_icmp_eq (tgt := 32) hx hb dX12_one_23 (by decide) (fun c76 => ?_) (fun c76 => ?_)
    · have kc76 := jeq c76 rfl jz_45
      refine lv_aload_n hx hb dX12_one_32 rfl (lv_at hl 1 rfl) ?_
      refine va_get (D := D) hx hb hts inlX12 hown hK hP 55 (jc_55 cI cL ad σ τ) rfl 22 (by decide) (hts _ kw_18_21) (fun _ h9 => h9) rfl dX12_one_33 ?_
      refine lv_bipush (v := 6) hx hb dX12_one_36 (by decide) ?_
      refine lv_icmp_ne (tgt := 46) hx hb dX12_one_38 (by decide) (fun c77 => ?_) (fun c77 => ?_)
      · have kc77 := jne c77 rfl jz_6
        refine lv_aload_n hx hb dX12_one_46 rfl (lv_at hl 1 rfl) ?_
        refine lv_dup hx hb dX12_one_47 rfl ?_
        refine va_get (D := D) hx hb hts inlX12 hown hK hP 55 (jc_55 cI cL ad σ τ) rfl 22 (by decide) (hts _ kw_18_21) (fun _ h9 => h9) rfl dX12_one_48 ?_
        refine lv_iconst (v := 1) hx hb dX12_one_51 (by decide) ?_
        have g78 := jrg (rfl : (σ 55 22).toInt = (σ 55 22).toInt)
        refine lv_iadd hx hb dX12_one_52 ?_
        refine lv_topi (fun x79 ex79 => ?_)
        have tx79 : x79.toInt = (σ 55 22).toInt + 1 := (jadd ex79 rfl jz_1 (by omega) (by omega)).trans (by omega)
        refine jput (ty := .int) hx hb hts inlX12 tyX12 tyX12_ok nmX12 hown hK hP hJ hA hS (jc_55 cI cL ad σ τ) rfl (k := 22) (by decide) (Nat.le_of_ble_eq_true rfl) (jp_55_22 cI cL ad σ τ x79) (hts _ kw_18_21) (fun _ h9 => h9) rfl (by decide +kernel) rfl rfl dX12_one_53 (fun σ80 H locs eσ80 hP hS => ?_)
        refine lv_aload_n hx hb dX12_one_56 rfl (lv_at hl 1 rfl) ?_
        refine lv_dup hx hb dX12_one_57 rfl ?_
        refine va_get (D := D) hx hb hts inlX12 hown hK hP 55 (jc_55 cI cL ad σ80 τ) rfl 19 (by decide) (hts _ kw_15_11) (fun _ h9 => h9) rfl dX12_one_58 ?_
        have m81 : σ80 55 19 = (σ 55 19) := (jkp 19 eσ80 (by decide))
        refine jtopr m81 ?_
        refine lv_iconst (v := 1) hx hb dX12_one_61 (by decide) ?_
        have g82 := jrg (rfl : (σ 55 19).toInt = (σ 55 19).toInt)
        refine lv_iadd hx hb dX12_one_62 ?_
        refine lv_topi (fun x83 ex83 => ?_)
        have tx83 : x83.toInt = (σ 55 19).toInt + 1 := (jadd ex83 rfl jz_1 (by omega) (by omega)).trans (by omega)
        refine jput (ty := .int) hx hb hts inlX12 tyX12 tyX12_ok nmX12 hown hK hP hJ hA hS (jc_55 cI cL ad σ80 τ) rfl (k := 19) (by decide) (Nat.le_of_ble_eq_true rfl) (jp_55_19 cI cL ad σ80 τ x83) (hts _ kw_15_11) (fun _ h9 => h9) rfl (by decide +kernel) rfl rfl dX12_one_63 (fun σ84 H locs eσ84 hP hS => ?_)
        refine lv_iload_n hx hb dX12_one_66 rfl (lv_at hl 0 rfl) ?_
        refine lv_bipush (v := 40) hx hb dX12_one_67 (by decide) ?_
        refine lv_icmp_ne (tgt := 79) hx hb dX12_one_69 (by decide) (fun c85 => ?_) (fun c => absurd (jeq c rfl jz_40) (by omega))
        have kc85 := jne c85 rfl jz_40
        refine lv_aload_n hx hb dX12_one_79 rfl (lv_at hl 1 rfl) ?_
        have z86 : (σ84 55 18).toInt = (σ 55 18).toInt := (congrArg Int32.toInt (show σ84 55 18 = (σ 55 18) from ((jkp 18 eσ84 (by decide)).trans (jkp 18 eσ80 (by decide)))))
        have z87 : (σ84 55 19).toInt = (σ 55 19).toInt + 1 := ((congrArg Int32.toInt (show σ84 55 19 = x83 from (jsp eσ84))).trans tx83)
        have z88 : (σ84 55 20).toInt = (σ 55 20).toInt := (congrArg Int32.toInt (show σ84 55 20 = (σ 55 20) from ((jkp 20 eσ84 (by decide)).trans (jkp 20 eσ80 (by decide)))))
        have z89 : (σ84 55 21).toInt = (σ 55 21).toInt := (congrArg Int32.toInt (show σ84 55 21 = (σ 55 21) from ((jkp 21 eσ84 (by decide)).trans (jkp 21 eσ80 (by decide)))))
        have I90 : jI121 σ84 := ⟨(by omega), (by omega), (by omega), (by omega), (by omega)⟩
        have z91 : (σ84 55 22).toInt = (σ 55 22).toInt + 1 := ((congrArg Int32.toInt (show σ84 55 22 = x79 from ((jkp 22 eσ84 (by decide)).trans (jsp eσ80)))).trans tx79)
        refine jcallV (As := []) (rest := []) ⟨hx, hb, hml, hown, hts⟩ hK hP hA hS hZ (h_one σ84 τ I90 (by omega) (by omega) (by omega)) cw_RX12_208 (jc_55 cI cL ad σ84 τ) rfl ⟨by dsimp only; omega, by dsimp only; omega⟩ rfl rfl rfl hl.1 rfl (Nat.le_of_ble_eq_true rfl) dX12_one_80 ⟨Nat.zero_le _, Nat.zero_le _⟩ (fun r93 σ92 τ92 H locs h92 hP hS => ?_)
        obtain ⟨rfl, f94, f95, I96, h92⟩ := h92
        obtain ⟨i97, i98, i99, i100, i101⟩ : ((-1) ≤ (σ92 55 18).toInt ∧ (σ92 55 18).toInt ≤ 80) ∧ (0 ≤ (σ92 55 19).toInt) ∧ ((σ92 55 19).toInt ≤ (σ92 55 20).toInt) ∧ ((σ92 55 20).toInt ≤ 80) ∧ ((-1) ≤ (σ92 55 21).toInt) := id I96
        have z102 : (σ92 55 18).toInt = (σ 55 18).toInt := (congrArg Int32.toInt (show σ92 55 18 = (σ 55 18) from ((f95 18 (by decide)).trans ((jkp 18 eσ84 (by decide)).trans (jkp 18 eσ80 (by decide))))))
        have z103 : (σ92 55 20).toInt = (σ 55 20).toInt := (congrArg Int32.toInt (show σ92 55 20 = (σ 55 20) from ((f95 20 (by decide)).trans ((jkp 20 eσ84 (by decide)).trans (jkp 20 eσ80 (by decide))))))
        obtain ⟨k104, k105, h92⟩ := h92
        refine lv_istore_n (lv' := [(2, .int r93), (1, .int r8), (0, .ref (ad 55))]) hx hb dX12_one_83 rfl hl (by decide) rfl (fun ls hl => ?_)
        refine lv_iload_n hx hb dX12_one_84 rfl (lv_at hl 1 rfl) ?_
        refine lv_bipush (v := 40) hx hb dX12_one_85 (by decide) ?_
        refine lv_icmp_ne (tgt := 104) hx hb dX12_one_87 (by decide) (fun c106 => ?_) (fun c => absurd (jeq c rfl jz_40) (by omega))
        have kc106 := jne c106 rfl jz_40
        refine lv_aload_n hx hb dX12_one_104 rfl (lv_at hl 2 rfl) ?_
        refine lv_dup hx hb dX12_one_105 rfl ?_
        refine va_get (D := D) hx hb hts inlX12 hown hK hP 55 (jc_55 cI cL ad σ92 τ) rfl 22 (by decide) (hts _ kw_18_21) (fun _ h9 => h9) rfl dX12_one_106 ?_
        refine lv_iconst (v := 1) hx hb dX12_one_109 (by decide) ?_
        have g107 := jrg (rfl : (σ92 55 22).toInt = (σ92 55 22).toInt)
        refine lv_isub hx hb dX12_one_110 ?_
        refine lv_topi (fun x108 ex108 => ?_)
        have gx108 := jrg (rfl : x108.toInt = x108.toInt)
        have g109 := jsubw ex108 rfl jz_1
        refine jput (ty := .int) hx hb hts inlX12 tyX12 tyX12_ok nmX12 hown hK hP hJ hA hS (jc_55 cI cL ad σ92 τ) rfl (k := 22) (by decide) (Nat.le_of_ble_eq_true rfl) (jp_55_22 cI cL ad σ92 τ x108) (hts _ kw_18_21) (fun _ h9 => h9) rfl (by decide +kernel) rfl rfl dX12_one_111 (fun σ110 H locs eσ110 hP hS => ?_)
        refine lv_iload_n hx hb dX12_one_114 rfl (lv_at hl 1 rfl) ?_
        refine lv_bipush (v := 40) hx hb dX12_one_115 (by decide) ?_
        refine lv_icmp_ne (tgt := 124) hx hb dX12_one_117 (by decide) (fun c111 => ?_) (fun c => absurd (jeq c rfl jz_40) (by omega))
        have kc111 := jne c111 rfl jz_40
        refine lv_iload_n hx hb dX12_one_124 rfl (lv_at hl 1 rfl) ?_
        refine lv_bipush (v := 45) hx hb dX12_one_125 (by decide) ?_
        refine lv_icmp_ne (tgt := 135) hx hb dX12_one_127 (by decide) (fun c => absurd (jne c rfl jz_45) (by omega)) (fun c112 => ?_)
        have kc112 := jeq c112 rfl jz_45
        refine lv_iload_n hx hb dX12_one_130 rfl (lv_at hl 0 rfl) ?_
        refine lv_ineg hx hb dX12_one_131 ?_
        refine lv_topi (fun x113 ex113 => ?_)
        have gx113 := jrg (rfl : x113.toInt = x113.toInt)
        refine lv_goto (tgt := 144) hx hb dX12_one_132 (by decide) ?_
        have I114 : jI121 σ110 := jI121_fr (jkp 18 eσ110 (by decide)) (jkp 19 eσ110 (by decide)) (jkp 20 eσ110 (by decide)) (jkp 21 eσ110 (by decide)) I96
        have z115 : (σ110 55 21).toInt = (σ92 55 21).toInt := (congrArg Int32.toInt (show σ110 55 21 = (σ92 55 21) from (jkp 21 eσ110 (by decide))))
        have z116 : (σ110 55 22).toInt = x108.toInt := (congrArg Int32.toInt (show σ110 55 22 = x108 from (jsp eσ110)))
        have z117 : (σ110 55 19).toInt = (σ92 55 19).toInt := (congrArg Int32.toInt (show σ110 55 19 = (σ92 55 19) from (jkp 19 eσ110 (by decide))))
        exact hret x113 σ110 τ _ _ _ _ rfl ⟨rfl, (fun i hi => ((jnp i eσ110 (imp_164 i hi)).trans ((f94 i hi).trans ((jnp i eσ84 (imp_164 i hi)).trans (jnp i eσ80 (imp_164 i hi)))))), (fun i hi => ((jkp i eσ110 (imp_169 i hi)).trans ((f95 i hi).trans ((jkp i eσ84 (imp_170 i hi)).trans (jkp i eσ80 (imp_169 i hi)))))), I114, (by omega), (by omega), trivial⟩ hP hS dX12_one_144
      · have kc77 := jeq c77 rfl jz_6
        refine lv_aload_n hx hb dX12_one_41 rfl (lv_at hl 1 rfl) ?_
        refine jcallV (As := []) (rest := []) ⟨hx, hb, hml, hown, hts⟩ hK hP hA hS hZ (c_X12_wrong l D cI cL ad zz hJ σ τ hI121) cw_RX12_214 (jc_55 cI cL ad σ τ) rfl ⟨by dsimp only; omega, by dsimp only; omega⟩ rfl rfl rfl hl.1 rfl (Nat.le_of_ble_eq_true rfl) dX12_one_42 ⟨Nat.zero_le _, Nat.zero_le _⟩ (fun r119 σ118 τ118 H locs h118 hP hS => ?_)
        obtain ⟨rfl, f120, f121, I122, h118⟩ := h118
        obtain ⟨i123, i124, i125, i126, i127⟩ : ((-1) ≤ (σ118 55 18).toInt ∧ (σ118 55 18).toInt ≤ 80) ∧ (0 ≤ (σ118 55 19).toInt) ∧ ((σ118 55 19).toInt ≤ (σ118 55 20).toInt) ∧ ((σ118 55 20).toInt ≤ 80) ∧ ((-1) ≤ (σ118 55 21).toInt) := id I122
        have z128 : (σ118 55 18).toInt = (σ 55 18).toInt := (congrArg Int32.toInt (show σ118 55 18 = (σ 55 18) from (f121 18 (by decide))))
        have z129 : (σ118 55 19).toInt = (σ 55 19).toInt := (congrArg Int32.toInt (show σ118 55 19 = (σ 55 19) from (f121 19 (by decide))))
        have z130 : (σ118 55 20).toInt = (σ 55 20).toInt := (congrArg Int32.toInt (show σ118 55 20 = (σ 55 20) from (f121 20 (by decide))))
        obtain ⟨k131, h118⟩ := h118
        have h132 := h118
        obtain ⟨q134, k133⟩ := h132
        have q134 := q134.symm
        subst q134
        have z135 : (σ118 55 22).toInt = (σ 55 22).toInt := (congrArg Int32.toInt (show σ118 55 22 = (σ 55 22) from (f121 22 (by decide))))
        exact hret 0 σ118 τ _ _ _ _ rfl ⟨rfl, (fun i hi => (f120 i hi)), (fun i hi => (f121 i (imp_171 i hi))), I122, (by omega), (by omega), trivial⟩ hP hS dX12_one_45
    · have kc76 := jne c76 rfl jz_45
      refine lv_iload_n hx hb dX12_one_26 rfl (lv_at hl 0 rfl) ?_
      refine lv_bipush (v := 40) hx hb dX12_one_27 (by decide) ?_
      refine lv_icmp_ne (tgt := 145) hx hb dX12_one_29 (by decide) (fun c136 => ?_) (fun c136 => ?_)
      · have kc136 := jne c136 rfl jz_40
        refine lv_iload_n hx hb dX12_one_145 rfl (lv_at hl 0 rfl) ?_
        refine jcallS (As := [.int r8]) (rest := []) ⟨hx, hb, hml, hown, hts⟩ hK hP hA hS hZ (c_X12_nameOf l D cI cL ad zz hJ σ τ r8 (r8.toInt) rfl) cw_RX12_220 ⟨by dsimp only; omega, by dsimp only; omega⟩ rfl rfl rfl hl.1 rfl (Nat.le_of_ble_eq_true rfl) dX12_one_146 ⟨Nat.zero_le _, Nat.zero_le _⟩ (fun r138 σ137 τ137 H locs h137 hP hS => ?_)
        obtain ⟨⟨rfl, rfl⟩, h137⟩ := h137
        rcases h137 with h139 | h140
        · obtain ⟨q143, k141, k142⟩ := h139
          refine lv_istore_n (lv' := [(2, .int r138), (1, .int r8), (0, .ref (ad 55))]) hx hb dX12_one_149 rfl hl (by decide) rfl (fun ls hl => ?_)
          refine lv_iload_n hx hb dX12_one_150 rfl (lv_at hl 0 rfl) ?_
          refine lv_if_lt (tgt := 171) hx hb dX12_one_151 (by decide) (fun c => absurd (jlt c rfl jz_0) (by omega)) (fun c144 => ?_)
          have kc144 := jnlt c144 rfl jz_0
          refine lv_aload_n hx hb dX12_one_154 rfl (lv_at hl 2 rfl) ?_
          refine lv_dup hx hb dX12_one_155 rfl ?_
          refine va_get (D := D) hx hb hts inlX12 hown hK hP 55 (jc_55 cI cL ad σ τ) rfl 19 (by decide) (hts _ kw_15_11) (fun _ h9 => h9) rfl dX12_one_156 ?_
          refine lv_iconst (v := 1) hx hb dX12_one_159 (by decide) ?_
          have g145 := jrg (rfl : (σ 55 19).toInt = (σ 55 19).toInt)
          refine lv_iadd hx hb dX12_one_160 ?_
          refine lv_topi (fun x146 ex146 => ?_)
          have tx146 : x146.toInt = (σ 55 19).toInt + 1 := (jadd ex146 rfl jz_1 (by omega) (by omega)).trans (by omega)
          refine jput (ty := .int) hx hb hts inlX12 tyX12 tyX12_ok nmX12 hown hK hP hJ hA hS (jc_55 cI cL ad σ τ) rfl (k := 19) (by decide) (Nat.le_of_ble_eq_true rfl) (jp_55_19 cI cL ad σ τ x146) (hts _ kw_15_11) (fun _ h9 => h9) rfl (by decide +kernel) rfl rfl dX12_one_161 (fun σ147 H locs eσ147 hP hS => ?_)
          refine lv_aload_n hx hb dX12_one_164 rfl (lv_at hl 2 rfl) ?_
          refine va_get (D := D) hx hb hts inlX12 hown hK hP 55 (jc_55 cI cL ad σ147 τ) rfl 23 (by decide) (hts _ kw_7_12) (fun _ h9 => h9) rfl dX12_one_165 ?_
          refine lv_iload_n hx hb dX12_one_168 rfl (lv_at hl 0 rfl) ?_
          refine jald hx hb hK hP (jc_66 cI cL ad σ147 τ) (jin rfl (by omega) (by omega)) dX12_one_169 ?_
          refine lv_topi (fun x148 ex148 => ?_)
          have z149 : (σ147 55 18).toInt = (σ 55 18).toInt := (congrArg Int32.toInt (show σ147 55 18 = (σ 55 18) from (jkp 18 eσ147 (by decide))))
          have z150 : (σ147 55 19).toInt = (σ 55 19).toInt + 1 := ((congrArg Int32.toInt (show σ147 55 19 = x146 from (jsp eσ147))).trans tx146)
          have z151 : (σ147 55 20).toInt = (σ 55 20).toInt := (congrArg Int32.toInt (show σ147 55 20 = (σ 55 20) from (jkp 20 eσ147 (by decide))))
          have z152 : (σ147 55 21).toInt = (σ 55 21).toInt := (congrArg Int32.toInt (show σ147 55 21 = (σ 55 21) from (jkp 21 eσ147 (by decide))))
          have I153 : jI121 σ147 := ⟨(by omega), (by omega), (by omega), (by omega), (by omega)⟩
          have z154 : (σ147 55 22).toInt = (σ 55 22).toInt := (congrArg Int32.toInt (show σ147 55 22 = (σ 55 22) from (jkp 22 eσ147 (by decide))))
          exact hret x148 σ147 τ _ _ _ _ rfl ⟨rfl, (fun i hi => (jnp i eσ147 (imp_164 i hi))), (fun i hi => (jkp i eσ147 (imp_170 i hi))), I153, (by omega), (by omega), trivial⟩ hP hS dX12_one_170
        · obtain ⟨q156, k155⟩ := h140
          have q156 := q156.symm
          subst q156
          refine lv_istore_n (lv' := [(2, .int (-1)), (1, .int r8), (0, .ref (ad 55))]) hx hb dX12_one_149 rfl hl (by decide) rfl (fun ls hl => ?_)
          refine lv_iload_n hx hb dX12_one_150 rfl (lv_at hl 0 rfl) ?_
          refine lv_if_lt (tgt := 171) hx hb dX12_one_151 (by decide) (fun _ => ?_) (fun c => absurd (by decide) c)
          refine lv_iconst (v := 0) hx hb dX12_one_171 (by decide) ?_
          refine lv_istore_n (lv' := [(3, .int 0), (2, .int (-1)), (1, .int r8), (0, .ref (ad 55))]) hx hb dX12_one_172 rfl hl (by decide) rfl (fun ls hl => ?_)
          refine lv_iconst (v := 0) hx hb dX12_one_173 (by decide) ?_
          refine lv_istore (lv' := [(4, .int 0), (3, .int 0), (2, .int (-1)), (1, .int r8), (0, .ref (ad 55))]) hx hb dX12_one_174 hl (by decide) rfl (fun ls hl => ?_)
          have lp157 : ∀ (n158 : Nat) (x159 : Int32) (x160 : Int32) (σ161 : Nat → Nat → Int32) (H : Heap) (locs : List Loc) (ls : Array Slot), (-x160.toInt + 4 : Int) < n158 → 0 ≤ x160.toInt → x160.toInt ≤ 4 → (-1) ≤ (σ161 55 18).toInt ∧ (σ161 55 18).toInt ≤ 80 → 0 ≤ (σ161 55 19).toInt → (σ161 55 19).toInt ≤ (σ161 55 20).toInt → (σ161 55 20).toInt ≤ 80 → (-1) ≤ (σ161 55 21).toInt → (σ 55 19).toInt ≤ (σ161 55 19).toInt → (σ161 55 21).toInt = (-1) → (∀ i : Nat, (i < 55 ∨ 55 < i) → σ161 i = σ i) → (∀ k : Nat, (k < 19 ∨ 19 < k) → σ161 55 k = σ 55 k) → jH D cI cL ad σ161 τ H → va_S (jA ad) s.heap H locs → lv_has ls 5 [(4, .int x160), (3, .int x159), (2, .int (-1)), (1, .int r8), (0, .ref (ad 55))] → W p l e ({ frames := (10 + 8 * (n + 1)), cells := 0, slots := 0, locals := (400 + 360 * (n + 1)) }) s m args below meth c H locs 0 0 Q (F0 m 176 ls []) := by
            intro n158
            induction n158 with
            | zero => intro x159 x160 σ161 H locs ls h162 h163 h164 h165 h166 h167 h168 h169 h170 h171; have gx159 := jrg (rfl : x159.toInt = x159.toInt); exact absurd h162 (by omega)
            | succ n158 ihlp157 =>
              intro x159 x160 σ161 H locs ls h162 h163 h164 h165 h166 h167 h168 h169 h170 h171 f172 f173 hP hS hl
              have gx159 := jrg (rfl : x159.toInt = x159.toInt)
              have z174 : (σ161 55 18).toInt = (σ 55 18).toInt := (congrArg Int32.toInt (show σ161 55 18 = (σ 55 18) from (f173 18 (by decide))))
              have z175 : (σ161 55 20).toInt = (σ 55 20).toInt := (congrArg Int32.toInt (show σ161 55 20 = (σ 55 20) from (f173 20 (by decide))))
              have z176 : (σ161 55 21).toInt = (σ 55 21).toInt := (congrArg Int32.toInt (show σ161 55 21 = (σ 55 21) from (f173 21 (by decide))))
              refine lv_iload hx hb dX12_one_176 (lv_at hl 0 rfl) ?_
              refine lv_iconst (v := 4) hx hb dX12_one_178 (by decide) ?_
              refine lv_icmp_ge (tgt := 229) hx hb dX12_one_179 (by decide) (fun c177 => ?_) (fun c177 => ?_)
              · have kc177 := jle c177 jz_4 rfl
                refine lv_iload hx hb dX12_one_229 (lv_at hl 0 rfl) ?_
                refine lv_if_ne (tgt := 241) hx hb dX12_one_231 (by decide) (fun c178 => ?_) (fun c => absurd (jeq c rfl jz_0) (by omega))
                have kc178 := jne c178 rfl jz_0
                refine lv_iload_n hx hb dX12_one_241 rfl (lv_at hl 1 rfl) ?_
                have I179 : jI121 σ161 := ⟨(by omega), (by omega), (by omega), (by omega), (by omega)⟩
                have z180 : (σ161 55 22).toInt = (σ 55 22).toInt := (congrArg Int32.toInt (show σ161 55 22 = (σ 55 22) from (f173 22 (by decide))))
                exact hret x159 σ161 τ _ _ _ _ rfl ⟨rfl, (fun i hi => (f172 i hi)), (fun i hi => (f173 i (imp_172 i hi))), I179, (by omega), (by omega), trivial⟩ hP hS dX12_one_242
              · have kc177 := jnle c177 jz_4 rfl
                refine lv_aload_n hx hb dX12_one_182 rfl (lv_at hl 4 rfl) ?_
                have I181 : jI121 σ161 := ⟨(by omega), (by omega), (by omega), (by omega), (by omega)⟩
                refine jcallV (As := []) (rest := []) ⟨hx, hb, hml, hown, hts⟩ hK hP hA hS hZ (c_X12_byteAt l D cI cL ad zz hJ σ161 τ I181) cw_RX12_189 (jc_55 cI cL ad σ161 τ) rfl ⟨by dsimp only; omega, by dsimp only; omega⟩ rfl rfl rfl hl.1 rfl (Nat.le_of_ble_eq_true rfl) dX12_one_183 ⟨Nat.zero_le _, Nat.zero_le _⟩ (fun r183 σ182 τ182 H locs h182 hP hS => ?_)
                obtain ⟨⟨rfl, rfl⟩, h182⟩ := h182
                have h184 := h182
                obtain ⟨q186, k185⟩ := h184
                refine lv_bipush (v := 48) hx hb dX12_one_186 (by decide) ?_
                refine lv_icmp_lt (tgt := 229) hx hb dX12_one_188 (by decide) (fun c187 => ?_) (fun c187 => ?_)
                · have kc187 := jlt c187 rfl jz_48
                  refine lv_iload hx hb dX12_one_229 (lv_at hl 0 rfl) ?_
                  refine lv_if_ne (tgt := 241) hx hb dX12_one_231 (by decide) (fun c188 => ?_) (fun c188 => ?_)
                  · have kc188 := jne c188 rfl jz_0
                    refine lv_iload_n hx hb dX12_one_241 rfl (lv_at hl 1 rfl) ?_
                    have z189 : (σ161 55 22).toInt = (σ 55 22).toInt := (congrArg Int32.toInt (show σ161 55 22 = (σ 55 22) from (f173 22 (by decide))))
                    exact hret x159 σ161 τ _ _ _ _ rfl ⟨rfl, (fun i hi => (f172 i hi)), (fun i hi => (f173 i (imp_172 i hi))), I181, (by omega), (by omega), trivial⟩ hP hS dX12_one_242
                  · have kc188 := jeq c188 rfl jz_0
                    refine lv_aload_n hx hb dX12_one_234 rfl (lv_at hl 4 rfl) ?_
                    refine jcallV (As := []) (rest := []) ⟨hx, hb, hml, hown, hts⟩ hK hP hA hS hZ (c_X12_wrong l D cI cL ad zz hJ σ161 τ I181) cw_RX12_214 (jc_55 cI cL ad σ161 τ) rfl ⟨by dsimp only; omega, by dsimp only; omega⟩ rfl rfl rfl hl.1 rfl (Nat.le_of_ble_eq_true rfl) dX12_one_235 ⟨Nat.zero_le _, Nat.zero_le _⟩ (fun r191 σ190 τ190 H locs h190 hP hS => ?_)
                    obtain ⟨rfl, f192, f193, I194, h190⟩ := h190
                    obtain ⟨i195, i196, i197, i198, i199⟩ : ((-1) ≤ (σ190 55 18).toInt ∧ (σ190 55 18).toInt ≤ 80) ∧ (0 ≤ (σ190 55 19).toInt) ∧ ((σ190 55 19).toInt ≤ (σ190 55 20).toInt) ∧ ((σ190 55 20).toInt ≤ 80) ∧ ((-1) ≤ (σ190 55 21).toInt) := id I194
                    have z200 : (σ190 55 18).toInt = (σ 55 18).toInt := (congrArg Int32.toInt (show σ190 55 18 = (σ 55 18) from ((f193 18 (by decide)).trans (f173 18 (by decide)))))
                    have z201 : (σ190 55 19).toInt = (σ161 55 19).toInt := (congrArg Int32.toInt (show σ190 55 19 = (σ161 55 19) from (f193 19 (by decide))))
                    have z202 : (σ190 55 20).toInt = (σ 55 20).toInt := (congrArg Int32.toInt (show σ190 55 20 = (σ 55 20) from ((f193 20 (by decide)).trans (f173 20 (by decide)))))
                    obtain ⟨k203, h190⟩ := h190
                    have h204 := h190
                    obtain ⟨q206, k205⟩ := h204
                    have q206 := q206.symm
                    subst q206
                    refine lv_goto (tgt := 242) hx hb dX12_one_238 (by decide) ?_
                    have z207 : (σ190 55 22).toInt = (σ 55 22).toInt := (congrArg Int32.toInt (show σ190 55 22 = (σ 55 22) from ((f193 22 (by decide)).trans (f173 22 (by decide)))))
                    exact hret 0 σ190 τ _ _ _ _ rfl ⟨rfl, (fun i hi => ((f192 i hi).trans (f172 i hi))), (fun i hi => ((f193 i (imp_171 i hi)).trans (f173 i (imp_172 i hi)))), I194, (by omega), (by omega), trivial⟩ hP hS dX12_one_242
                · have kc187 := jnlt c187 rfl jz_48
                  refine lv_aload_n hx hb dX12_one_191 rfl (lv_at hl 4 rfl) ?_
                  refine jcallV (As := []) (rest := []) ⟨hx, hb, hml, hown, hts⟩ hK hP hA hS hZ (c_X12_byteAt l D cI cL ad zz hJ σ161 τ I181) cw_RX12_189 (jc_55 cI cL ad σ161 τ) rfl ⟨by dsimp only; omega, by dsimp only; omega⟩ rfl rfl rfl hl.1 rfl (Nat.le_of_ble_eq_true rfl) dX12_one_192 ⟨Nat.zero_le _, Nat.zero_le _⟩ (fun r209 σ208 τ208 H locs h208 hP hS => ?_)
                  obtain ⟨⟨rfl, rfl⟩, h208⟩ := h208
                  have h210 := h208
                  obtain ⟨q212, k211⟩ := h210
                  refine lv_bipush (v := 57) hx hb dX12_one_195 (by decide) ?_
                  refine lv_icmp_gt (tgt := 229) hx hb dX12_one_197 (by decide) (fun c213 => ?_) (fun c213 => ?_)
                  · have kc213 := jlt c213 jz_57 rfl
                    refine lv_iload hx hb dX12_one_229 (lv_at hl 0 rfl) ?_
                    refine lv_if_ne (tgt := 241) hx hb dX12_one_231 (by decide) (fun c214 => ?_) (fun c214 => ?_)
                    · have kc214 := jne c214 rfl jz_0
                      refine lv_iload_n hx hb dX12_one_241 rfl (lv_at hl 1 rfl) ?_
                      have z215 : (σ161 55 22).toInt = (σ 55 22).toInt := (congrArg Int32.toInt (show σ161 55 22 = (σ 55 22) from (f173 22 (by decide))))
                      exact hret x159 σ161 τ _ _ _ _ rfl ⟨rfl, (fun i hi => (f172 i hi)), (fun i hi => (f173 i (imp_172 i hi))), I181, (by omega), (by omega), trivial⟩ hP hS dX12_one_242
                    · have kc214 := jeq c214 rfl jz_0
                      refine lv_aload_n hx hb dX12_one_234 rfl (lv_at hl 4 rfl) ?_
                      refine jcallV (As := []) (rest := []) ⟨hx, hb, hml, hown, hts⟩ hK hP hA hS hZ (c_X12_wrong l D cI cL ad zz hJ σ161 τ I181) cw_RX12_214 (jc_55 cI cL ad σ161 τ) rfl ⟨by dsimp only; omega, by dsimp only; omega⟩ rfl rfl rfl hl.1 rfl (Nat.le_of_ble_eq_true rfl) dX12_one_235 ⟨Nat.zero_le _, Nat.zero_le _⟩ (fun r217 σ216 τ216 H locs h216 hP hS => ?_)
                      obtain ⟨rfl, f218, f219, I220, h216⟩ := h216
                      obtain ⟨i221, i222, i223, i224, i225⟩ : ((-1) ≤ (σ216 55 18).toInt ∧ (σ216 55 18).toInt ≤ 80) ∧ (0 ≤ (σ216 55 19).toInt) ∧ ((σ216 55 19).toInt ≤ (σ216 55 20).toInt) ∧ ((σ216 55 20).toInt ≤ 80) ∧ ((-1) ≤ (σ216 55 21).toInt) := id I220
                      have z226 : (σ216 55 18).toInt = (σ 55 18).toInt := (congrArg Int32.toInt (show σ216 55 18 = (σ 55 18) from ((f219 18 (by decide)).trans (f173 18 (by decide)))))
                      have z227 : (σ216 55 19).toInt = (σ161 55 19).toInt := (congrArg Int32.toInt (show σ216 55 19 = (σ161 55 19) from (f219 19 (by decide))))
                      have z228 : (σ216 55 20).toInt = (σ 55 20).toInt := (congrArg Int32.toInt (show σ216 55 20 = (σ 55 20) from ((f219 20 (by decide)).trans (f173 20 (by decide)))))
                      obtain ⟨k229, h216⟩ := h216
                      have h230 := h216
                      obtain ⟨q232, k231⟩ := h230
                      have q232 := q232.symm
                      subst q232
                      refine lv_goto (tgt := 242) hx hb dX12_one_238 (by decide) ?_
                      have z233 : (σ216 55 22).toInt = (σ 55 22).toInt := (congrArg Int32.toInt (show σ216 55 22 = (σ 55 22) from ((f219 22 (by decide)).trans (f173 22 (by decide)))))
                      exact hret 0 σ216 τ _ _ _ _ rfl ⟨rfl, (fun i hi => ((f218 i hi).trans (f172 i hi))), (fun i hi => ((f219 i (imp_171 i hi)).trans (f173 i (imp_172 i hi)))), I220, (by omega), (by omega), trivial⟩ hP hS dX12_one_242
                  · have kc213 := jnlt c213 jz_57 rfl
                    refine lv_bipush (v := 10) hx hb dX12_one_200 (by decide) ?_
                    refine lv_iload_n hx hb dX12_one_202 rfl (lv_at hl 1 rfl) ?_
                    have g234 := jrg (rfl : x159.toInt = x159.toInt)
                    refine lv_imul hx hb dX12_one_203 ?_
                    refine lv_topi (fun x235 ex235 => ?_)
                    have gx235 := jrg (rfl : x235.toInt = x235.toInt)
                    refine lv_aload_n hx hb dX12_one_204 rfl (lv_at hl 4 rfl) ?_
                    refine jcallV (As := []) (rest := [.int x235]) ⟨hx, hb, hml, hown, hts⟩ hK hP hA hS hZ (c_X12_byteAt l D cI cL ad zz hJ σ161 τ I181) cw_RX12_189 (jc_55 cI cL ad σ161 τ) rfl ⟨by dsimp only; omega, by dsimp only; omega⟩ rfl rfl rfl hl.1 rfl (Nat.le_of_ble_eq_true rfl) dX12_one_205 ⟨Nat.zero_le _, Nat.zero_le _⟩ (fun r237 σ236 τ236 H locs h236 hP hS => ?_)
                    obtain ⟨⟨rfl, rfl⟩, h236⟩ := h236
                    have h238 := h236
                    obtain ⟨q240, k239⟩ := h238
                    have g241 := jrg (rfl : x235.toInt = x235.toInt)
                    have g242 := jrg (rfl : r237.toInt = r237.toInt)
                    refine lv_iadd hx hb dX12_one_208 ?_
                    refine lv_topi (fun x243 ex243 => ?_)
                    have gx243 := jrg (rfl : x243.toInt = x243.toInt)
                    have g244 := jaddw ex243 rfl rfl
                    refine lv_bipush (v := 48) hx hb dX12_one_209 (by decide) ?_
                    have g245 := jrg (rfl : x243.toInt = x243.toInt)
                    refine lv_isub hx hb dX12_one_211 ?_
                    refine lv_topi (fun x246 ex246 => ?_)
                    have gx246 := jrg (rfl : x246.toInt = x246.toInt)
                    have g247 := jsubw ex246 rfl jz_48
                    refine lv_istore_n (lv' := [(3, .int x246), (4, .int x160), (2, .int (-1)), (1, .int r8), (0, .ref (ad 55))]) hx hb dX12_one_212 rfl hl (by decide) rfl (fun ls hl => ?_)
                    obtain ⟨x248, ex248⟩ : ∃ y : Int32, y = x160 + 1 := ⟨_, rfl⟩
                    have tx248 : x248.toInt = x160.toInt + 1 := (jadd ex248 rfl jz_1 (by omega) (by omega)).trans (by omega)
                    refine lv_iinc (v := x248) (lv' := [(4, .int x248), (3, .int x246), (2, .int (-1)), (1, .int r8), (0, .ref (ad 55))]) hx hb dX12_one_213 hl (k := 1) rfl (by rw [ex248]; rfl) (by decide) rfl (fun ls hl => ?_)
                    refine lv_aload_n hx hb dX12_one_216 rfl (lv_at hl 4 rfl) ?_
                    refine lv_dup hx hb dX12_one_217 rfl ?_
                    refine va_get (D := D) hx hb hts inlX12 hown hK hP 55 (jc_55 cI cL ad σ161 τ) rfl 19 (by decide) (hts _ kw_15_11) (fun _ h9 => h9) rfl dX12_one_218 ?_
                    refine lv_iconst (v := 1) hx hb dX12_one_221 (by decide) ?_
                    have g249 := jrg (rfl : (σ161 55 19).toInt = (σ161 55 19).toInt)
                    refine lv_iadd hx hb dX12_one_222 ?_
                    refine lv_topi (fun x250 ex250 => ?_)
                    have tx250 : x250.toInt = (σ161 55 19).toInt + 1 := (jadd ex250 rfl jz_1 (by omega) (by omega)).trans (by omega)
                    refine jput (ty := .int) hx hb hts inlX12 tyX12 tyX12_ok nmX12 hown hK hP hJ hA hS (jc_55 cI cL ad σ161 τ) rfl (k := 19) (by decide) (Nat.le_of_ble_eq_true rfl) (jp_55_19 cI cL ad σ161 τ x250) (hts _ kw_15_11) (fun _ h9 => h9) rfl (by decide +kernel) rfl rfl dX12_one_223 (fun σ251 H locs eσ251 hP hS => ?_)
                    refine lv_goto (tgt := 176) hx hb dX12_one_226 (by decide) ?_
                    have z252 : (σ251 55 18).toInt = (σ 55 18).toInt := (congrArg Int32.toInt (show σ251 55 18 = (σ 55 18) from ((jkp 18 eσ251 (by decide)).trans (f173 18 (by decide)))))
                    have z253 : (σ251 55 19).toInt = (σ161 55 19).toInt + 1 := ((congrArg Int32.toInt (show σ251 55 19 = x250 from (jsp eσ251))).trans tx250)
                    have z254 : (σ251 55 20).toInt = (σ 55 20).toInt := (congrArg Int32.toInt (show σ251 55 20 = (σ 55 20) from ((jkp 20 eσ251 (by decide)).trans (f173 20 (by decide)))))
                    have z255 : (σ251 55 21).toInt = (σ 55 21).toInt := (congrArg Int32.toInt (show σ251 55 21 = (σ 55 21) from ((jkp 21 eσ251 (by decide)).trans (f173 21 (by decide)))))
                    exact ihlp157 x246 x248 σ251 _ _ ls (by have h91 := tx248; omega) (by have h91 := tx248; omega) (by have h91 := tx248; omega) (by have h91 := tx248; omega) (by have h91 := tx248; omega) (by have h91 := tx248; omega) (by have h91 := tx248; omega) (by have h91 := tx248; omega) (by have h91 := tx248; omega) (by have h91 := tx248; omega) (fun i hi => ((jnp i eσ251 (imp_164 i hi)).trans (f172 i hi))) (fun i hi => ((jkp i eσ251 (imp_168 i hi)).trans (f173 i hi)))   hP hS (lv_sub hl [0, 1, 2, 3, 4] rfl)
          exact lp157 1000000 0 0 σ _ _ ls (by have h90 := jz_0; have h91 := jz_0; omega) (by have h90 := jz_0; have h91 := jz_0; omega) (by have h90 := jz_0; have h91 := jz_0; omega) (by have h90 := jz_0; have h91 := jz_0; omega) (by have h90 := jz_0; have h91 := jz_0; omega) (by have h90 := jz_0; have h91 := jz_0; omega) (by have h90 := jz_0; have h91 := jz_0; omega) (by have h90 := jz_0; have h91 := jz_0; omega) (by have h90 := jz_0; have h91 := jz_0; omega) (by have h90 := jz_0; have h91 := jz_0; omega) (fun _ _ => rfl) (fun _ _ => rfl)   hP hS hl
      · have kc136 := jeq c136 rfl jz_40
        refine lv_aload_n hx hb dX12_one_32 rfl (lv_at hl 1 rfl) ?_
        refine va_get (D := D) hx hb hts inlX12 hown hK hP 55 (jc_55 cI cL ad σ τ) rfl 22 (by decide) (hts _ kw_18_21) (fun _ h9 => h9) rfl dX12_one_33 ?_
        refine lv_bipush (v := 6) hx hb dX12_one_36 (by decide) ?_
        refine lv_icmp_ne (tgt := 46) hx hb dX12_one_38 (by decide) (fun c256 => ?_) (fun c256 => ?_)
        · have kc256 := jne c256 rfl jz_6
          refine lv_aload_n hx hb dX12_one_46 rfl (lv_at hl 1 rfl) ?_
          refine lv_dup hx hb dX12_one_47 rfl ?_
          refine va_get (D := D) hx hb hts inlX12 hown hK hP 55 (jc_55 cI cL ad σ τ) rfl 22 (by decide) (hts _ kw_18_21) (fun _ h9 => h9) rfl dX12_one_48 ?_
          refine lv_iconst (v := 1) hx hb dX12_one_51 (by decide) ?_
          have g257 := jrg (rfl : (σ 55 22).toInt = (σ 55 22).toInt)
          refine lv_iadd hx hb dX12_one_52 ?_
          refine lv_topi (fun x258 ex258 => ?_)
          have tx258 : x258.toInt = (σ 55 22).toInt + 1 := (jadd ex258 rfl jz_1 (by omega) (by omega)).trans (by omega)
          refine jput (ty := .int) hx hb hts inlX12 tyX12 tyX12_ok nmX12 hown hK hP hJ hA hS (jc_55 cI cL ad σ τ) rfl (k := 22) (by decide) (Nat.le_of_ble_eq_true rfl) (jp_55_22 cI cL ad σ τ x258) (hts _ kw_18_21) (fun _ h9 => h9) rfl (by decide +kernel) rfl rfl dX12_one_53 (fun σ259 H locs eσ259 hP hS => ?_)
          refine lv_aload_n hx hb dX12_one_56 rfl (lv_at hl 1 rfl) ?_
          refine lv_dup hx hb dX12_one_57 rfl ?_
          refine va_get (D := D) hx hb hts inlX12 hown hK hP 55 (jc_55 cI cL ad σ259 τ) rfl 19 (by decide) (hts _ kw_15_11) (fun _ h9 => h9) rfl dX12_one_58 ?_
          have m260 : σ259 55 19 = (σ 55 19) := (jkp 19 eσ259 (by decide))
          refine jtopr m260 ?_
          refine lv_iconst (v := 1) hx hb dX12_one_61 (by decide) ?_
          have g261 := jrg (rfl : (σ 55 19).toInt = (σ 55 19).toInt)
          refine lv_iadd hx hb dX12_one_62 ?_
          refine lv_topi (fun x262 ex262 => ?_)
          have tx262 : x262.toInt = (σ 55 19).toInt + 1 := (jadd ex262 rfl jz_1 (by omega) (by omega)).trans (by omega)
          refine jput (ty := .int) hx hb hts inlX12 tyX12 tyX12_ok nmX12 hown hK hP hJ hA hS (jc_55 cI cL ad σ259 τ) rfl (k := 19) (by decide) (Nat.le_of_ble_eq_true rfl) (jp_55_19 cI cL ad σ259 τ x262) (hts _ kw_15_11) (fun _ h9 => h9) rfl (by decide +kernel) rfl rfl dX12_one_63 (fun σ263 H locs eσ263 hP hS => ?_)
          refine lv_iload_n hx hb dX12_one_66 rfl (lv_at hl 0 rfl) ?_
          refine lv_bipush (v := 40) hx hb dX12_one_67 (by decide) ?_
          refine lv_icmp_ne (tgt := 79) hx hb dX12_one_69 (by decide) (fun c => absurd (jne c rfl jz_40) (by omega)) (fun c264 => ?_)
          have kc264 := jeq c264 rfl jz_40
          refine lv_aload_n hx hb dX12_one_72 rfl (lv_at hl 1 rfl) ?_
          have z265 : (σ263 55 18).toInt = (σ 55 18).toInt := (congrArg Int32.toInt (show σ263 55 18 = (σ 55 18) from ((jkp 18 eσ263 (by decide)).trans (jkp 18 eσ259 (by decide)))))
          have z266 : (σ263 55 19).toInt = (σ 55 19).toInt + 1 := ((congrArg Int32.toInt (show σ263 55 19 = x262 from (jsp eσ263))).trans tx262)
          have z267 : (σ263 55 20).toInt = (σ 55 20).toInt := (congrArg Int32.toInt (show σ263 55 20 = (σ 55 20) from ((jkp 20 eσ263 (by decide)).trans (jkp 20 eσ259 (by decide)))))
          have z268 : (σ263 55 21).toInt = (σ 55 21).toInt := (congrArg Int32.toInt (show σ263 55 21 = (σ 55 21) from ((jkp 21 eσ263 (by decide)).trans (jkp 21 eσ259 (by decide)))))
          have I269 : jI121 σ263 := ⟨(by omega), (by omega), (by omega), (by omega), (by omega)⟩
          have z270 : (σ263 55 22).toInt = (σ 55 22).toInt + 1 := ((congrArg Int32.toInt (show σ263 55 22 = x258 from ((jkp 22 eσ263 (by decide)).trans (jsp eσ259)))).trans tx258)
          refine jcallV (As := []) (rest := []) ⟨hx, hb, hml, hown, hts⟩ hK hP hA hS hZ (h_either σ263 τ I269 (by omega) (by omega) (by omega)) cw_RX12_217 (jc_55 cI cL ad σ263 τ) rfl ⟨by dsimp only; omega, by dsimp only; omega⟩ rfl rfl rfl hl.1 rfl (Nat.le_of_ble_eq_true rfl) dX12_one_73 ⟨Nat.zero_le _, Nat.zero_le _⟩ (fun r272 σ271 τ271 H locs h271 hP hS => ?_)
          obtain ⟨rfl, f273, f274, I275, h271⟩ := h271
          obtain ⟨i276, i277, i278, i279, i280⟩ : ((-1) ≤ (σ271 55 18).toInt ∧ (σ271 55 18).toInt ≤ 80) ∧ (0 ≤ (σ271 55 19).toInt) ∧ ((σ271 55 19).toInt ≤ (σ271 55 20).toInt) ∧ ((σ271 55 20).toInt ≤ 80) ∧ ((-1) ≤ (σ271 55 21).toInt) := id I275
          have z281 : (σ271 55 18).toInt = (σ 55 18).toInt := (congrArg Int32.toInt (show σ271 55 18 = (σ 55 18) from ((f274 18 (by decide)).trans ((jkp 18 eσ263 (by decide)).trans (jkp 18 eσ259 (by decide))))))
          have z282 : (σ271 55 20).toInt = (σ 55 20).toInt := (congrArg Int32.toInt (show σ271 55 20 = (σ 55 20) from ((f274 20 (by decide)).trans ((jkp 20 eσ263 (by decide)).trans (jkp 20 eσ259 (by decide))))))
          obtain ⟨k283, k284, h271⟩ := h271
          refine lv_goto (tgt := 83) hx hb dX12_one_76 (by decide) ?_
          refine lv_istore_n (lv' := [(2, .int r272), (1, .int r8), (0, .ref (ad 55))]) hx hb dX12_one_83 rfl hl (by decide) rfl (fun ls hl => ?_)
          refine lv_iload_n hx hb dX12_one_84 rfl (lv_at hl 1 rfl) ?_
          refine lv_bipush (v := 40) hx hb dX12_one_85 (by decide) ?_
          refine lv_icmp_ne (tgt := 104) hx hb dX12_one_87 (by decide) (fun c => absurd (jne c rfl jz_40) (by omega)) (fun c285 => ?_)
          have kc285 := jeq c285 rfl jz_40
          refine lv_aload_n hx hb dX12_one_90 rfl (lv_at hl 2 rfl) ?_
          refine lv_bipush (v := 41) hx hb dX12_one_91 (by decide) ?_
          refine jcallV (As := [.int 41]) (rest := []) ⟨hx, hb, hml, hown, hts⟩ hK hP hA hS hZ (c_X12_takes l D cI cL ad zz hJ σ271 τ 41 (41) jz_41 I275 (by omega)) cw_RX12_196 (jc_55 cI cL ad σ271 τ) rfl ⟨by dsimp only; omega, by dsimp only; omega⟩ rfl rfl rfl hl.1 rfl (Nat.le_of_ble_eq_true rfl) dX12_one_93 ⟨Nat.zero_le _, Nat.zero_le _⟩ (fun r287 σ286 τ286 H locs h286 hP hS => ?_)
          obtain ⟨rfl, f288, f289, I290, h286⟩ := h286
          obtain ⟨i291, i292, i293, i294, i295⟩ : ((-1) ≤ (σ286 55 18).toInt ∧ (σ286 55 18).toInt ≤ 80) ∧ (0 ≤ (σ286 55 19).toInt) ∧ ((σ286 55 19).toInt ≤ (σ286 55 20).toInt) ∧ ((σ286 55 20).toInt ≤ 80) ∧ ((-1) ≤ (σ286 55 21).toInt) := id I290
          have z296 : (σ286 55 18).toInt = (σ 55 18).toInt := (congrArg Int32.toInt (show σ286 55 18 = (σ 55 18) from ((f289 18 (by decide)).trans ((f274 18 (by decide)).trans ((jkp 18 eσ263 (by decide)).trans (jkp 18 eσ259 (by decide)))))))
          have z297 : (σ286 55 20).toInt = (σ 55 20).toInt := (congrArg Int32.toInt (show σ286 55 20 = (σ 55 20) from ((f289 20 (by decide)).trans ((f274 20 (by decide)).trans ((jkp 20 eσ263 (by decide)).trans (jkp 20 eσ259 (by decide)))))))
          have z298 : (σ286 55 21).toInt = (σ271 55 21).toInt := (congrArg Int32.toInt (show σ286 55 21 = (σ271 55 21) from (f289 21 (by decide))))
          rcases h286 with h299 | h300
          · obtain ⟨q303, k301, k302⟩ := h299
            have q303 := q303.symm
            subst q303
            refine lv_if_ne (tgt := 104) hx hb dX12_one_96 (by decide) (fun _ => ?_) (fun c => absurd c (by decide))
            refine lv_aload_n hx hb dX12_one_104 rfl (lv_at hl 2 rfl) ?_
            refine lv_dup hx hb dX12_one_105 rfl ?_
            refine va_get (D := D) hx hb hts inlX12 hown hK hP 55 (jc_55 cI cL ad σ286 τ) rfl 22 (by decide) (hts _ kw_18_21) (fun _ h9 => h9) rfl dX12_one_106 ?_
            have m304 : σ286 55 22 = (σ271 55 22) := (f289 22 (by decide))
            refine jtopr m304 ?_
            refine lv_iconst (v := 1) hx hb dX12_one_109 (by decide) ?_
            have g305 := jrg (rfl : (σ271 55 22).toInt = (σ271 55 22).toInt)
            refine lv_isub hx hb dX12_one_110 ?_
            refine lv_topi (fun x306 ex306 => ?_)
            have tx306 : x306.toInt = (σ271 55 22).toInt - 1 := (jsub ex306 rfl jz_1 (by omega) (by omega)).trans (by omega)
            refine jput (ty := .int) hx hb hts inlX12 tyX12 tyX12_ok nmX12 hown hK hP hJ hA hS (jc_55 cI cL ad σ286 τ) rfl (k := 22) (by decide) (Nat.le_of_ble_eq_true rfl) (jp_55_22 cI cL ad σ286 τ x306) (hts _ kw_18_21) (fun _ h9 => h9) rfl (by decide +kernel) rfl rfl dX12_one_111 (fun σ307 H locs eσ307 hP hS => ?_)
            refine lv_iload_n hx hb dX12_one_114 rfl (lv_at hl 1 rfl) ?_
            refine lv_bipush (v := 40) hx hb dX12_one_115 (by decide) ?_
            refine lv_icmp_ne (tgt := 124) hx hb dX12_one_117 (by decide) (fun c => absurd (jne c rfl jz_40) (by omega)) (fun c308 => ?_)
            have kc308 := jeq c308 rfl jz_40
            refine lv_iload_n hx hb dX12_one_120 rfl (lv_at hl 0 rfl) ?_
            refine lv_goto (tgt := 144) hx hb dX12_one_121 (by decide) ?_
            have I309 : jI121 σ307 := jI121_fr (jkp 18 eσ307 (by decide)) (jkp 19 eσ307 (by decide)) (jkp 20 eσ307 (by decide)) (jkp 21 eσ307 (by decide)) I290
            have z310 : (σ307 55 21).toInt = (σ271 55 21).toInt := (congrArg Int32.toInt (show σ307 55 21 = (σ271 55 21) from ((jkp 21 eσ307 (by decide)).trans (f289 21 (by decide)))))
            have z311 : (σ307 55 22).toInt = (σ271 55 22).toInt - 1 := ((congrArg Int32.toInt (show σ307 55 22 = x306 from (jsp eσ307))).trans tx306)
            have z312 : (σ307 55 19).toInt = (σ286 55 19).toInt := (congrArg Int32.toInt (show σ307 55 19 = (σ286 55 19) from (jkp 19 eσ307 (by decide))))
            exact hret r272 σ307 τ _ _ _ _ rfl ⟨rfl, (fun i hi => ((jnp i eσ307 (imp_164 i hi)).trans ((f288 i hi).trans ((f273 i hi).trans ((jnp i eσ263 (imp_164 i hi)).trans (jnp i eσ259 (imp_164 i hi))))))), (fun i hi => ((jkp i eσ307 (imp_169 i hi)).trans ((f289 i (imp_172 i hi)).trans ((f274 i hi).trans ((jkp i eσ263 (imp_170 i hi)).trans (jkp i eσ259 (imp_169 i hi))))))), I309, (by omega), (by omega), trivial⟩ hP hS dX12_one_144
          · obtain ⟨q314, k313⟩ := h300
            have q314 := q314.symm
            subst q314
            refine lv_if_ne (tgt := 104) hx hb dX12_one_96 (by decide) (fun c => absurd (by decide) c) (fun _ => ?_)
            refine lv_aload_n hx hb dX12_one_99 rfl (lv_at hl 2 rfl) ?_
            refine jcallV (As := []) (rest := []) ⟨hx, hb, hml, hown, hts⟩ hK hP hA hS hZ (c_X12_wrong l D cI cL ad zz hJ σ286 τ I290) cw_RX12_214 (jc_55 cI cL ad σ286 τ) rfl ⟨by dsimp only; omega, by dsimp only; omega⟩ rfl rfl rfl hl.1 rfl (Nat.le_of_ble_eq_true rfl) dX12_one_100 ⟨Nat.zero_le _, Nat.zero_le _⟩ (fun r316 σ315 τ315 H locs h315 hP hS => ?_)
            obtain ⟨rfl, f317, f318, I319, h315⟩ := h315
            obtain ⟨i320, i321, i322, i323, i324⟩ : ((-1) ≤ (σ315 55 18).toInt ∧ (σ315 55 18).toInt ≤ 80) ∧ (0 ≤ (σ315 55 19).toInt) ∧ ((σ315 55 19).toInt ≤ (σ315 55 20).toInt) ∧ ((σ315 55 20).toInt ≤ 80) ∧ ((-1) ≤ (σ315 55 21).toInt) := id I319
            have z325 : (σ315 55 18).toInt = (σ 55 18).toInt := (congrArg Int32.toInt (show σ315 55 18 = (σ 55 18) from ((f318 18 (by decide)).trans ((f289 18 (by decide)).trans ((f274 18 (by decide)).trans ((jkp 18 eσ263 (by decide)).trans (jkp 18 eσ259 (by decide))))))))
            have z326 : (σ315 55 19).toInt = (σ286 55 19).toInt := (congrArg Int32.toInt (show σ315 55 19 = (σ286 55 19) from (f318 19 (by decide))))
            have z327 : (σ315 55 20).toInt = (σ 55 20).toInt := (congrArg Int32.toInt (show σ315 55 20 = (σ 55 20) from ((f318 20 (by decide)).trans ((f289 20 (by decide)).trans ((f274 20 (by decide)).trans ((jkp 20 eσ263 (by decide)).trans (jkp 20 eσ259 (by decide))))))))
            obtain ⟨k328, h315⟩ := h315
            have h329 := h315
            obtain ⟨q331, k330⟩ := h329
            have q331 := q331.symm
            subst q331
            have z332 : (σ315 55 22).toInt = (σ271 55 22).toInt := (congrArg Int32.toInt (show σ315 55 22 = (σ271 55 22) from ((f318 22 (by decide)).trans (f289 22 (by decide)))))
            exact hret 0 σ315 τ _ _ _ _ rfl ⟨rfl, (fun i hi => ((f317 i hi).trans ((f288 i hi).trans ((f273 i hi).trans ((jnp i eσ263 (imp_164 i hi)).trans (jnp i eσ259 (imp_164 i hi))))))), (fun i hi => ((f318 i (imp_171 i hi)).trans ((f289 i (imp_172 i hi)).trans ((f274 i hi).trans ((jkp i eσ263 (imp_170 i hi)).trans (jkp i eσ259 (imp_169 i hi))))))), I319, (by omega), (by omega), trivial⟩ hP hS dX12_one_103
        · have kc256 := jeq c256 rfl jz_6
          refine lv_aload_n hx hb dX12_one_41 rfl (lv_at hl 1 rfl) ?_
          refine jcallV (As := []) (rest := []) ⟨hx, hb, hml, hown, hts⟩ hK hP hA hS hZ (c_X12_wrong l D cI cL ad zz hJ σ τ hI121) cw_RX12_214 (jc_55 cI cL ad σ τ) rfl ⟨by dsimp only; omega, by dsimp only; omega⟩ rfl rfl rfl hl.1 rfl (Nat.le_of_ble_eq_true rfl) dX12_one_42 ⟨Nat.zero_le _, Nat.zero_le _⟩ (fun r334 σ333 τ333 H locs h333 hP hS => ?_)
          obtain ⟨rfl, f335, f336, I337, h333⟩ := h333
          obtain ⟨i338, i339, i340, i341, i342⟩ : ((-1) ≤ (σ333 55 18).toInt ∧ (σ333 55 18).toInt ≤ 80) ∧ (0 ≤ (σ333 55 19).toInt) ∧ ((σ333 55 19).toInt ≤ (σ333 55 20).toInt) ∧ ((σ333 55 20).toInt ≤ 80) ∧ ((-1) ≤ (σ333 55 21).toInt) := id I337
          have z343 : (σ333 55 18).toInt = (σ 55 18).toInt := (congrArg Int32.toInt (show σ333 55 18 = (σ 55 18) from (f336 18 (by decide))))
          have z344 : (σ333 55 19).toInt = (σ 55 19).toInt := (congrArg Int32.toInt (show σ333 55 19 = (σ 55 19) from (f336 19 (by decide))))
          have z345 : (σ333 55 20).toInt = (σ 55 20).toInt := (congrArg Int32.toInt (show σ333 55 20 = (σ 55 20) from (f336 20 (by decide))))
          obtain ⟨k346, h333⟩ := h333
          have h347 := h333
          obtain ⟨q349, k348⟩ := h347
          have q349 := q349.symm
          subst q349
          have z350 : (σ333 55 22).toInt = (σ 55 22).toInt := (congrArg Int32.toInt (show σ333 55 22 = (σ 55 22) from (f336 22 (by decide))))
          exact hret 0 σ333 τ _ _ _ _ rfl ⟨rfl, (fun i hi => (f335 i hi)), (fun i hi => (f336 i (imp_171 i hi))), I337, (by omega), (by omega), trivial⟩ hP hS dX12_one_45
set_option maxHeartbeats 4000000 in
set_option maxRecDepth 100000 in
theorem c_X12_grammar_one_z (l : Launch) (D : va_G) (cI cL : ClassId) (ad zz : Nat → Nat) (hJ : jD ad) (σ : Nat → Nat → Int32) (τ : Nat → Nat → Int64) (hI121 : jI121 σ) (hp0 : (σ 55 21).toInt = (-1)) (hp1 : 0 ≤ (σ 55 22).toInt ∧ (σ 55 22).toInt ≤ 6) (hp2 : -(σ 55 22).toInt + 6 ≤ (((0) : Nat) : Int)) : jM l yX12_one cX12_one 5 (some .int) ({ frames := (10 + 8 * (0)), cells := 0, slots := 0, locals := (400 + 360 * (0)) }) D cI cL ad zz [.ref (ad 55)] σ τ (fun r σ' τ' => τ = τ' ∧ (∀ i : Nat, (i < 55 ∨ 55 < i) → σ' i = σ i) ∧ (∀ k : Nat, (k < 19 ∨ 19 < k) ∧ (k < 21 ∨ 21 < k) ∧ (k < 22 ∨ 22 < k) → σ' 55 k = σ 55 k) ∧ (jI121 σ') ∧ (((σ' 55 21).toInt = (-1) ∧ (σ' 55 22).toInt = (σ 55 22).toInt) ∨ (0 ≤ (σ' 55 21).toInt)) ∧ ((σ 55 19).toInt ≤ (σ' 55 19).toInt) ∧ True) := by
  refine jM.of hJ (by decide +kernel) (nt := .int) rfl (Nat.le_of_ble_eq_true rfl) ?_
  intro p e s m args below meth c Q ls hC hret hl hP
  obtain ⟨hx, hb, hr, hml, hown, hts, hK, -, hlocks, hZ⟩ := hC
  have hown : s.vm.findClass RX12 = some m.cls := hown
  have hS : va_S (jA ad) s.heap s.heap [] := va_S.rf
  have hA : ∀ q, jA ad q → jA ad q := fun _ h => h
  have hl : lv_has ls 5 [(0, .ref (ad 55))] := hl
  obtain ⟨i1, i2, i3, i4, i5⟩ : ((-1) ≤ (σ 55 18).toInt ∧ (σ 55 18).toInt ≤ 80) ∧ (0 ≤ (σ 55 19).toInt) ∧ ((σ 55 19).toInt ≤ (σ 55 20).toInt) ∧ ((σ 55 20).toInt ≤ 80) ∧ ((-1) ≤ (σ 55 21).toInt) := id hI121
  refine lv_aload_n hx hb dX12_one_0 rfl (lv_at hl 0 rfl) ?_
  refine va_get (D := D) hx hb hts inlX12 hown hK hP 55 (jc_55 cI cL ad σ τ) rfl 21 (by decide) (hts _ kw_15_13) (fun _ h9 => h9) rfl dX12_one_1 ?_
  refine lv_if_lt (tgt := 9) hx hb dX12_one_4 (by decide) (fun c6 => ?_) (fun c => absurd (jnlt c rfl jz_0) (by omega))
  have kc6 := jlt c6 rfl jz_0
  refine lv_aload_n hx hb dX12_one_9 rfl (lv_at hl 0 rfl) ?_
  refine jcallV (As := []) (rest := []) ⟨hx, hb, hml, hown, hts⟩ hK hP hA hS hZ (c_X12_byteAt l D cI cL ad zz hJ σ τ hI121) cw_RX12_189 (jc_55 cI cL ad σ τ) rfl ⟨by dsimp only; omega, by dsimp only; omega⟩ rfl rfl rfl hl.1 rfl (Nat.le_of_ble_eq_true rfl) dX12_one_10 ⟨Nat.zero_le _, Nat.zero_le _⟩ (fun r8 σ7 τ7 H locs h7 hP hS => ?_)
  obtain ⟨⟨rfl, rfl⟩, h7⟩ := h7
  have h9 := h7
  obtain ⟨q11, k10⟩ := h9
  refine lv_istore_n (lv' := [(1, .int r8), (0, .ref (ad 55))]) hx hb dX12_one_13 rfl hl (by decide) rfl (fun ls hl => ?_)
  refine lv_iload_n hx hb dX12_one_14 rfl (lv_at hl 0 rfl) ?_
  refine lv_bipush (v := 33) hx hb dX12_one_15 (by decide) ?_
  refine lv_icmp_eq (tgt := 32) hx hb dX12_one_17 (by decide) (fun c12 => ?_) (fun c12 => ?_)
  · have kc12 := jeq c12 rfl jz_33
    refine lv_aload_n hx hb dX12_one_32 rfl (lv_at hl 1 rfl) ?_
    refine va_get (D := D) hx hb hts inlX12 hown hK hP 55 (jc_55 cI cL ad σ τ) rfl 22 (by decide) (hts _ kw_18_21) (fun _ h9 => h9) rfl dX12_one_33 ?_
    refine lv_bipush (v := 6) hx hb dX12_one_36 (by decide) ?_
    refine lv_icmp_ne (tgt := 46) hx hb dX12_one_38 (by decide) (fun c => absurd (jne c rfl jz_6) (by omega)) (fun c13 => ?_)
    have kc13 := jeq c13 rfl jz_6
    refine lv_aload_n hx hb dX12_one_41 rfl (lv_at hl 1 rfl) ?_
    refine jcallV (As := []) (rest := []) ⟨hx, hb, hml, hown, hts⟩ hK hP hA hS hZ (c_X12_wrong l D cI cL ad zz hJ σ τ hI121) cw_RX12_214 (jc_55 cI cL ad σ τ) rfl ⟨by dsimp only; omega, by dsimp only; omega⟩ rfl rfl rfl hl.1 rfl (Nat.le_of_ble_eq_true rfl) dX12_one_42 ⟨Nat.zero_le _, Nat.zero_le _⟩ (fun r15 σ14 τ14 H locs h14 hP hS => ?_)
    obtain ⟨rfl, f16, f17, I18, h14⟩ := h14
    obtain ⟨i19, i20, i21, i22, i23⟩ : ((-1) ≤ (σ14 55 18).toInt ∧ (σ14 55 18).toInt ≤ 80) ∧ (0 ≤ (σ14 55 19).toInt) ∧ ((σ14 55 19).toInt ≤ (σ14 55 20).toInt) ∧ ((σ14 55 20).toInt ≤ 80) ∧ ((-1) ≤ (σ14 55 21).toInt) := id I18
    have z24 : (σ14 55 18).toInt = (σ 55 18).toInt := (congrArg Int32.toInt (show σ14 55 18 = (σ 55 18) from (f17 18 (by decide))))
    have z25 : (σ14 55 19).toInt = (σ 55 19).toInt := (congrArg Int32.toInt (show σ14 55 19 = (σ 55 19) from (f17 19 (by decide))))
    have z26 : (σ14 55 20).toInt = (σ 55 20).toInt := (congrArg Int32.toInt (show σ14 55 20 = (σ 55 20) from (f17 20 (by decide))))
    obtain ⟨k27, h14⟩ := h14
    have h28 := h14
    obtain ⟨q30, k29⟩ := h28
    have q30 := q30.symm
    subst q30
    have z31 : (σ14 55 22).toInt = (σ 55 22).toInt := (congrArg Int32.toInt (show σ14 55 22 = (σ 55 22) from (f17 22 (by decide))))
    exact hret 0 σ14 τ _ _ _ _ rfl ⟨rfl, (fun i hi => (f16 i hi)), (fun i hi => (f17 i (imp_171 i hi))), I18, (by omega), (by omega), trivial⟩ hP hS dX12_one_45
  · have kc12 := jne c12 rfl jz_33
    refine lv_iload_n hx hb dX12_one_20 rfl (lv_at hl 0 rfl) ?_
    refine lv_bipush (v := 45) hx hb dX12_one_21 (by decide) ?_
    refine lv_icmp_eq (tgt := 32) hx hb dX12_one_23 (by decide) (fun c32 => ?_) (fun c32 => ?_)
    · have kc32 := jeq c32 rfl jz_45
      refine lv_aload_n hx hb dX12_one_32 rfl (lv_at hl 1 rfl) ?_
      refine va_get (D := D) hx hb hts inlX12 hown hK hP 55 (jc_55 cI cL ad σ τ) rfl 22 (by decide) (hts _ kw_18_21) (fun _ h9 => h9) rfl dX12_one_33 ?_
      refine lv_bipush (v := 6) hx hb dX12_one_36 (by decide) ?_
      refine lv_icmp_ne (tgt := 46) hx hb dX12_one_38 (by decide) (fun c => absurd (jne c rfl jz_6) (by omega)) (fun c33 => ?_)
      have kc33 := jeq c33 rfl jz_6
      refine lv_aload_n hx hb dX12_one_41 rfl (lv_at hl 1 rfl) ?_
      refine jcallV (As := []) (rest := []) ⟨hx, hb, hml, hown, hts⟩ hK hP hA hS hZ (c_X12_wrong l D cI cL ad zz hJ σ τ hI121) cw_RX12_214 (jc_55 cI cL ad σ τ) rfl ⟨by dsimp only; omega, by dsimp only; omega⟩ rfl rfl rfl hl.1 rfl (Nat.le_of_ble_eq_true rfl) dX12_one_42 ⟨Nat.zero_le _, Nat.zero_le _⟩ (fun r35 σ34 τ34 H locs h34 hP hS => ?_)
      obtain ⟨rfl, f36, f37, I38, h34⟩ := h34
      obtain ⟨i39, i40, i41, i42, i43⟩ : ((-1) ≤ (σ34 55 18).toInt ∧ (σ34 55 18).toInt ≤ 80) ∧ (0 ≤ (σ34 55 19).toInt) ∧ ((σ34 55 19).toInt ≤ (σ34 55 20).toInt) ∧ ((σ34 55 20).toInt ≤ 80) ∧ ((-1) ≤ (σ34 55 21).toInt) := id I38
      have z44 : (σ34 55 18).toInt = (σ 55 18).toInt := (congrArg Int32.toInt (show σ34 55 18 = (σ 55 18) from (f37 18 (by decide))))
      have z45 : (σ34 55 19).toInt = (σ 55 19).toInt := (congrArg Int32.toInt (show σ34 55 19 = (σ 55 19) from (f37 19 (by decide))))
      have z46 : (σ34 55 20).toInt = (σ 55 20).toInt := (congrArg Int32.toInt (show σ34 55 20 = (σ 55 20) from (f37 20 (by decide))))
      obtain ⟨k47, h34⟩ := h34
      have h48 := h34
      obtain ⟨q50, k49⟩ := h48
      have q50 := q50.symm
      subst q50
      have z51 : (σ34 55 22).toInt = (σ 55 22).toInt := (congrArg Int32.toInt (show σ34 55 22 = (σ 55 22) from (f37 22 (by decide))))
      exact hret 0 σ34 τ _ _ _ _ rfl ⟨rfl, (fun i hi => (f36 i hi)), (fun i hi => (f37 i (imp_171 i hi))), I38, (by omega), (by omega), trivial⟩ hP hS dX12_one_45
    · have kc32 := jne c32 rfl jz_45
      refine lv_iload_n hx hb dX12_one_26 rfl (lv_at hl 0 rfl) ?_
      refine lv_bipush (v := 40) hx hb dX12_one_27 (by decide) ?_
      refine lv_icmp_ne (tgt := 145) hx hb dX12_one_29 (by decide) (fun c52 => ?_) (fun c52 => ?_)
      · have kc52 := jne c52 rfl jz_40
        refine lv_iload_n hx hb dX12_one_145 rfl (lv_at hl 0 rfl) ?_
        refine jcallS (As := [.int r8]) (rest := []) ⟨hx, hb, hml, hown, hts⟩ hK hP hA hS hZ (c_X12_nameOf l D cI cL ad zz hJ σ τ r8 (r8.toInt) rfl) cw_RX12_220 ⟨by dsimp only; omega, by dsimp only; omega⟩ rfl rfl rfl hl.1 rfl (Nat.le_of_ble_eq_true rfl) dX12_one_146 ⟨Nat.zero_le _, Nat.zero_le _⟩ (fun r54 σ53 τ53 H locs h53 hP hS => ?_)
        obtain ⟨⟨rfl, rfl⟩, h53⟩ := h53
        rcases h53 with h55 | h56
        · obtain ⟨q59, k57, k58⟩ := h55
          refine lv_istore_n (lv' := [(2, .int r54), (1, .int r8), (0, .ref (ad 55))]) hx hb dX12_one_149 rfl hl (by decide) rfl (fun ls hl => ?_)
          refine lv_iload_n hx hb dX12_one_150 rfl (lv_at hl 0 rfl) ?_
          refine lv_if_lt (tgt := 171) hx hb dX12_one_151 (by decide) (fun c => absurd (jlt c rfl jz_0) (by omega)) (fun c60 => ?_)
          have kc60 := jnlt c60 rfl jz_0
          refine lv_aload_n hx hb dX12_one_154 rfl (lv_at hl 2 rfl) ?_
          refine lv_dup hx hb dX12_one_155 rfl ?_
          refine va_get (D := D) hx hb hts inlX12 hown hK hP 55 (jc_55 cI cL ad σ τ) rfl 19 (by decide) (hts _ kw_15_11) (fun _ h9 => h9) rfl dX12_one_156 ?_
          refine lv_iconst (v := 1) hx hb dX12_one_159 (by decide) ?_
          have g61 := jrg (rfl : (σ 55 19).toInt = (σ 55 19).toInt)
          refine lv_iadd hx hb dX12_one_160 ?_
          refine lv_topi (fun x62 ex62 => ?_)
          have tx62 : x62.toInt = (σ 55 19).toInt + 1 := (jadd ex62 rfl jz_1 (by omega) (by omega)).trans (by omega)
          refine jput (ty := .int) hx hb hts inlX12 tyX12 tyX12_ok nmX12 hown hK hP hJ hA hS (jc_55 cI cL ad σ τ) rfl (k := 19) (by decide) (Nat.le_of_ble_eq_true rfl) (jp_55_19 cI cL ad σ τ x62) (hts _ kw_15_11) (fun _ h9 => h9) rfl (by decide +kernel) rfl rfl dX12_one_161 (fun σ63 H locs eσ63 hP hS => ?_)
          refine lv_aload_n hx hb dX12_one_164 rfl (lv_at hl 2 rfl) ?_
          refine va_get (D := D) hx hb hts inlX12 hown hK hP 55 (jc_55 cI cL ad σ63 τ) rfl 23 (by decide) (hts _ kw_7_12) (fun _ h9 => h9) rfl dX12_one_165 ?_
          refine lv_iload_n hx hb dX12_one_168 rfl (lv_at hl 0 rfl) ?_
          refine jald hx hb hK hP (jc_66 cI cL ad σ63 τ) (jin rfl (by omega) (by omega)) dX12_one_169 ?_
          refine lv_topi (fun x64 ex64 => ?_)
          have z65 : (σ63 55 18).toInt = (σ 55 18).toInt := (congrArg Int32.toInt (show σ63 55 18 = (σ 55 18) from (jkp 18 eσ63 (by decide))))
          have z66 : (σ63 55 19).toInt = (σ 55 19).toInt + 1 := ((congrArg Int32.toInt (show σ63 55 19 = x62 from (jsp eσ63))).trans tx62)
          have z67 : (σ63 55 20).toInt = (σ 55 20).toInt := (congrArg Int32.toInt (show σ63 55 20 = (σ 55 20) from (jkp 20 eσ63 (by decide))))
          have z68 : (σ63 55 21).toInt = (σ 55 21).toInt := (congrArg Int32.toInt (show σ63 55 21 = (σ 55 21) from (jkp 21 eσ63 (by decide))))
          have I69 : jI121 σ63 := ⟨(by omega), (by omega), (by omega), (by omega), (by omega)⟩
          have z70 : (σ63 55 22).toInt = (σ 55 22).toInt := (congrArg Int32.toInt (show σ63 55 22 = (σ 55 22) from (jkp 22 eσ63 (by decide))))
          exact hret x64 σ63 τ _ _ _ _ rfl ⟨rfl, (fun i hi => (jnp i eσ63 (imp_164 i hi))), (fun i hi => (jkp i eσ63 (imp_170 i hi))), I69, (by omega), (by omega), trivial⟩ hP hS dX12_one_170
        · obtain ⟨q72, k71⟩ := h56
          have q72 := q72.symm
          subst q72
          refine lv_istore_n (lv' := [(2, .int (-1)), (1, .int r8), (0, .ref (ad 55))]) hx hb dX12_one_149 rfl hl (by decide) rfl (fun ls hl => ?_)
          refine lv_iload_n hx hb dX12_one_150 rfl (lv_at hl 0 rfl) ?_
          refine lv_if_lt (tgt := 171) hx hb dX12_one_151 (by decide) (fun _ => ?_) (fun c => absurd (by decide) c)
          refine lv_iconst (v := 0) hx hb dX12_one_171 (by decide) ?_
          refine lv_istore_n (lv' := [(3, .int 0), (2, .int (-1)), (1, .int r8), (0, .ref (ad 55))]) hx hb dX12_one_172 rfl hl (by decide) rfl (fun ls hl => ?_)
          refine lv_iconst (v := 0) hx hb dX12_one_173 (by decide) ?_
          refine lv_istore (lv' := [(4, .int 0), (3, .int 0), (2, .int (-1)), (1, .int r8), (0, .ref (ad 55))]) hx hb dX12_one_174 hl (by decide) rfl (fun ls hl => ?_)
          have lp73 : ∀ (n74 : Nat) (x75 : Int32) (x76 : Int32) (σ77 : Nat → Nat → Int32) (H : Heap) (locs : List Loc) (ls : Array Slot), (-x76.toInt + 4 : Int) < n74 → 0 ≤ x76.toInt → x76.toInt ≤ 4 → (-1) ≤ (σ77 55 18).toInt ∧ (σ77 55 18).toInt ≤ 80 → 0 ≤ (σ77 55 19).toInt → (σ77 55 19).toInt ≤ (σ77 55 20).toInt → (σ77 55 20).toInt ≤ 80 → (-1) ≤ (σ77 55 21).toInt → (σ 55 19).toInt ≤ (σ77 55 19).toInt → (σ77 55 21).toInt = (-1) → (∀ i : Nat, (i < 55 ∨ 55 < i) → σ77 i = σ i) → (∀ k : Nat, (k < 19 ∨ 19 < k) → σ77 55 k = σ 55 k) → jH D cI cL ad σ77 τ H → va_S (jA ad) s.heap H locs → lv_has ls 5 [(4, .int x76), (3, .int x75), (2, .int (-1)), (1, .int r8), (0, .ref (ad 55))] → W p l e ({ frames := (10 + 8 * (0)), cells := 0, slots := 0, locals := (400 + 360 * (0)) }) s m args below meth c H locs 0 0 Q (F0 m 176 ls []) := by
            intro n74
            induction n74 with
            | zero => intro x75 x76 σ77 H locs ls h78 h79 h80 h81 h82 h83 h84 h85 h86 h87; have gx75 := jrg (rfl : x75.toInt = x75.toInt); exact absurd h78 (by omega)
            | succ n74 ihlp73 =>
              intro x75 x76 σ77 H locs ls h78 h79 h80 h81 h82 h83 h84 h85 h86 h87 f88 f89 hP hS hl
              have gx75 := jrg (rfl : x75.toInt = x75.toInt)
              have z90 : (σ77 55 18).toInt = (σ 55 18).toInt := (congrArg Int32.toInt (show σ77 55 18 = (σ 55 18) from (f89 18 (by decide))))
              have z91 : (σ77 55 20).toInt = (σ 55 20).toInt := (congrArg Int32.toInt (show σ77 55 20 = (σ 55 20) from (f89 20 (by decide))))
              have z92 : (σ77 55 21).toInt = (σ 55 21).toInt := (congrArg Int32.toInt (show σ77 55 21 = (σ 55 21) from (f89 21 (by decide))))
              refine lv_iload hx hb dX12_one_176 (lv_at hl 0 rfl) ?_
              refine lv_iconst (v := 4) hx hb dX12_one_178 (by decide) ?_
              refine lv_icmp_ge (tgt := 229) hx hb dX12_one_179 (by decide) (fun c93 => ?_) (fun c93 => ?_)
              · have kc93 := jle c93 jz_4 rfl
                refine lv_iload hx hb dX12_one_229 (lv_at hl 0 rfl) ?_
                refine lv_if_ne (tgt := 241) hx hb dX12_one_231 (by decide) (fun c94 => ?_) (fun c => absurd (jeq c rfl jz_0) (by omega))
                have kc94 := jne c94 rfl jz_0
                refine lv_iload_n hx hb dX12_one_241 rfl (lv_at hl 1 rfl) ?_
                have I95 : jI121 σ77 := ⟨(by omega), (by omega), (by omega), (by omega), (by omega)⟩
                have z96 : (σ77 55 22).toInt = (σ 55 22).toInt := (congrArg Int32.toInt (show σ77 55 22 = (σ 55 22) from (f89 22 (by decide))))
                exact hret x75 σ77 τ _ _ _ _ rfl ⟨rfl, (fun i hi => (f88 i hi)), (fun i hi => (f89 i (imp_172 i hi))), I95, (by omega), (by omega), trivial⟩ hP hS dX12_one_242
              · have kc93 := jnle c93 jz_4 rfl
                refine lv_aload_n hx hb dX12_one_182 rfl (lv_at hl 4 rfl) ?_
                have I97 : jI121 σ77 := ⟨(by omega), (by omega), (by omega), (by omega), (by omega)⟩
                refine jcallV (As := []) (rest := []) ⟨hx, hb, hml, hown, hts⟩ hK hP hA hS hZ (c_X12_byteAt l D cI cL ad zz hJ σ77 τ I97) cw_RX12_189 (jc_55 cI cL ad σ77 τ) rfl ⟨by dsimp only; omega, by dsimp only; omega⟩ rfl rfl rfl hl.1 rfl (Nat.le_of_ble_eq_true rfl) dX12_one_183 ⟨Nat.zero_le _, Nat.zero_le _⟩ (fun r99 σ98 τ98 H locs h98 hP hS => ?_)
                obtain ⟨⟨rfl, rfl⟩, h98⟩ := h98
                have h100 := h98
                obtain ⟨q102, k101⟩ := h100
                refine lv_bipush (v := 48) hx hb dX12_one_186 (by decide) ?_
                refine lv_icmp_lt (tgt := 229) hx hb dX12_one_188 (by decide) (fun c103 => ?_) (fun c103 => ?_)
                · have kc103 := jlt c103 rfl jz_48
                  refine lv_iload hx hb dX12_one_229 (lv_at hl 0 rfl) ?_
                  refine lv_if_ne (tgt := 241) hx hb dX12_one_231 (by decide) (fun c104 => ?_) (fun c104 => ?_)
                  · have kc104 := jne c104 rfl jz_0
                    refine lv_iload_n hx hb dX12_one_241 rfl (lv_at hl 1 rfl) ?_
                    have z105 : (σ77 55 22).toInt = (σ 55 22).toInt := (congrArg Int32.toInt (show σ77 55 22 = (σ 55 22) from (f89 22 (by decide))))
                    exact hret x75 σ77 τ _ _ _ _ rfl ⟨rfl, (fun i hi => (f88 i hi)), (fun i hi => (f89 i (imp_172 i hi))), I97, (by omega), (by omega), trivial⟩ hP hS dX12_one_242
                  · have kc104 := jeq c104 rfl jz_0
                    refine lv_aload_n hx hb dX12_one_234 rfl (lv_at hl 4 rfl) ?_
                    refine jcallV (As := []) (rest := []) ⟨hx, hb, hml, hown, hts⟩ hK hP hA hS hZ (c_X12_wrong l D cI cL ad zz hJ σ77 τ I97) cw_RX12_214 (jc_55 cI cL ad σ77 τ) rfl ⟨by dsimp only; omega, by dsimp only; omega⟩ rfl rfl rfl hl.1 rfl (Nat.le_of_ble_eq_true rfl) dX12_one_235 ⟨Nat.zero_le _, Nat.zero_le _⟩ (fun r107 σ106 τ106 H locs h106 hP hS => ?_)
                    obtain ⟨rfl, f108, f109, I110, h106⟩ := h106
                    obtain ⟨i111, i112, i113, i114, i115⟩ : ((-1) ≤ (σ106 55 18).toInt ∧ (σ106 55 18).toInt ≤ 80) ∧ (0 ≤ (σ106 55 19).toInt) ∧ ((σ106 55 19).toInt ≤ (σ106 55 20).toInt) ∧ ((σ106 55 20).toInt ≤ 80) ∧ ((-1) ≤ (σ106 55 21).toInt) := id I110
                    have z116 : (σ106 55 18).toInt = (σ 55 18).toInt := (congrArg Int32.toInt (show σ106 55 18 = (σ 55 18) from ((f109 18 (by decide)).trans (f89 18 (by decide)))))
                    have z117 : (σ106 55 19).toInt = (σ77 55 19).toInt := (congrArg Int32.toInt (show σ106 55 19 = (σ77 55 19) from (f109 19 (by decide))))
                    have z118 : (σ106 55 20).toInt = (σ 55 20).toInt := (congrArg Int32.toInt (show σ106 55 20 = (σ 55 20) from ((f109 20 (by decide)).trans (f89 20 (by decide)))))
                    obtain ⟨k119, h106⟩ := h106
                    have h120 := h106
                    obtain ⟨q122, k121⟩ := h120
                    have q122 := q122.symm
                    subst q122
                    refine lv_goto (tgt := 242) hx hb dX12_one_238 (by decide) ?_
                    have z123 : (σ106 55 22).toInt = (σ 55 22).toInt := (congrArg Int32.toInt (show σ106 55 22 = (σ 55 22) from ((f109 22 (by decide)).trans (f89 22 (by decide)))))
                    exact hret 0 σ106 τ _ _ _ _ rfl ⟨rfl, (fun i hi => ((f108 i hi).trans (f88 i hi))), (fun i hi => ((f109 i (imp_171 i hi)).trans (f89 i (imp_172 i hi)))), I110, (by omega), (by omega), trivial⟩ hP hS dX12_one_242
                · have kc103 := jnlt c103 rfl jz_48
                  refine lv_aload_n hx hb dX12_one_191 rfl (lv_at hl 4 rfl) ?_
                  refine jcallV (As := []) (rest := []) ⟨hx, hb, hml, hown, hts⟩ hK hP hA hS hZ (c_X12_byteAt l D cI cL ad zz hJ σ77 τ I97) cw_RX12_189 (jc_55 cI cL ad σ77 τ) rfl ⟨by dsimp only; omega, by dsimp only; omega⟩ rfl rfl rfl hl.1 rfl (Nat.le_of_ble_eq_true rfl) dX12_one_192 ⟨Nat.zero_le _, Nat.zero_le _⟩ (fun r125 σ124 τ124 H locs h124 hP hS => ?_)
                  obtain ⟨⟨rfl, rfl⟩, h124⟩ := h124
                  have h126 := h124
                  obtain ⟨q128, k127⟩ := h126
                  refine lv_bipush (v := 57) hx hb dX12_one_195 (by decide) ?_
                  refine lv_icmp_gt (tgt := 229) hx hb dX12_one_197 (by decide) (fun c129 => ?_) (fun c129 => ?_)
                  · have kc129 := jlt c129 jz_57 rfl
                    refine lv_iload hx hb dX12_one_229 (lv_at hl 0 rfl) ?_
                    refine lv_if_ne (tgt := 241) hx hb dX12_one_231 (by decide) (fun c130 => ?_) (fun c130 => ?_)
                    · have kc130 := jne c130 rfl jz_0
                      refine lv_iload_n hx hb dX12_one_241 rfl (lv_at hl 1 rfl) ?_
                      have z131 : (σ77 55 22).toInt = (σ 55 22).toInt := (congrArg Int32.toInt (show σ77 55 22 = (σ 55 22) from (f89 22 (by decide))))
                      exact hret x75 σ77 τ _ _ _ _ rfl ⟨rfl, (fun i hi => (f88 i hi)), (fun i hi => (f89 i (imp_172 i hi))), I97, (by omega), (by omega), trivial⟩ hP hS dX12_one_242
                    · have kc130 := jeq c130 rfl jz_0
                      refine lv_aload_n hx hb dX12_one_234 rfl (lv_at hl 4 rfl) ?_
                      refine jcallV (As := []) (rest := []) ⟨hx, hb, hml, hown, hts⟩ hK hP hA hS hZ (c_X12_wrong l D cI cL ad zz hJ σ77 τ I97) cw_RX12_214 (jc_55 cI cL ad σ77 τ) rfl ⟨by dsimp only; omega, by dsimp only; omega⟩ rfl rfl rfl hl.1 rfl (Nat.le_of_ble_eq_true rfl) dX12_one_235 ⟨Nat.zero_le _, Nat.zero_le _⟩ (fun r133 σ132 τ132 H locs h132 hP hS => ?_)
                      obtain ⟨rfl, f134, f135, I136, h132⟩ := h132
                      obtain ⟨i137, i138, i139, i140, i141⟩ : ((-1) ≤ (σ132 55 18).toInt ∧ (σ132 55 18).toInt ≤ 80) ∧ (0 ≤ (σ132 55 19).toInt) ∧ ((σ132 55 19).toInt ≤ (σ132 55 20).toInt) ∧ ((σ132 55 20).toInt ≤ 80) ∧ ((-1) ≤ (σ132 55 21).toInt) := id I136
                      have z142 : (σ132 55 18).toInt = (σ 55 18).toInt := (congrArg Int32.toInt (show σ132 55 18 = (σ 55 18) from ((f135 18 (by decide)).trans (f89 18 (by decide)))))
                      have z143 : (σ132 55 19).toInt = (σ77 55 19).toInt := (congrArg Int32.toInt (show σ132 55 19 = (σ77 55 19) from (f135 19 (by decide))))
                      have z144 : (σ132 55 20).toInt = (σ 55 20).toInt := (congrArg Int32.toInt (show σ132 55 20 = (σ 55 20) from ((f135 20 (by decide)).trans (f89 20 (by decide)))))
                      obtain ⟨k145, h132⟩ := h132
                      have h146 := h132
                      obtain ⟨q148, k147⟩ := h146
                      have q148 := q148.symm
                      subst q148
                      refine lv_goto (tgt := 242) hx hb dX12_one_238 (by decide) ?_
                      have z149 : (σ132 55 22).toInt = (σ 55 22).toInt := (congrArg Int32.toInt (show σ132 55 22 = (σ 55 22) from ((f135 22 (by decide)).trans (f89 22 (by decide)))))
                      exact hret 0 σ132 τ _ _ _ _ rfl ⟨rfl, (fun i hi => ((f134 i hi).trans (f88 i hi))), (fun i hi => ((f135 i (imp_171 i hi)).trans (f89 i (imp_172 i hi)))), I136, (by omega), (by omega), trivial⟩ hP hS dX12_one_242
                  · have kc129 := jnlt c129 jz_57 rfl
                    refine lv_bipush (v := 10) hx hb dX12_one_200 (by decide) ?_
                    refine lv_iload_n hx hb dX12_one_202 rfl (lv_at hl 1 rfl) ?_
                    have g150 := jrg (rfl : x75.toInt = x75.toInt)
                    refine lv_imul hx hb dX12_one_203 ?_
                    refine lv_topi (fun x151 ex151 => ?_)
                    have gx151 := jrg (rfl : x151.toInt = x151.toInt)
                    refine lv_aload_n hx hb dX12_one_204 rfl (lv_at hl 4 rfl) ?_
                    refine jcallV (As := []) (rest := [.int x151]) ⟨hx, hb, hml, hown, hts⟩ hK hP hA hS hZ (c_X12_byteAt l D cI cL ad zz hJ σ77 τ I97) cw_RX12_189 (jc_55 cI cL ad σ77 τ) rfl ⟨by dsimp only; omega, by dsimp only; omega⟩ rfl rfl rfl hl.1 rfl (Nat.le_of_ble_eq_true rfl) dX12_one_205 ⟨Nat.zero_le _, Nat.zero_le _⟩ (fun r153 σ152 τ152 H locs h152 hP hS => ?_)
                    obtain ⟨⟨rfl, rfl⟩, h152⟩ := h152
                    have h154 := h152
                    obtain ⟨q156, k155⟩ := h154
                    have g157 := jrg (rfl : x151.toInt = x151.toInt)
                    have g158 := jrg (rfl : r153.toInt = r153.toInt)
                    refine lv_iadd hx hb dX12_one_208 ?_
                    refine lv_topi (fun x159 ex159 => ?_)
                    have gx159 := jrg (rfl : x159.toInt = x159.toInt)
                    have g160 := jaddw ex159 rfl rfl
                    refine lv_bipush (v := 48) hx hb dX12_one_209 (by decide) ?_
                    have g161 := jrg (rfl : x159.toInt = x159.toInt)
                    refine lv_isub hx hb dX12_one_211 ?_
                    refine lv_topi (fun x162 ex162 => ?_)
                    have gx162 := jrg (rfl : x162.toInt = x162.toInt)
                    have g163 := jsubw ex162 rfl jz_48
                    refine lv_istore_n (lv' := [(3, .int x162), (4, .int x76), (2, .int (-1)), (1, .int r8), (0, .ref (ad 55))]) hx hb dX12_one_212 rfl hl (by decide) rfl (fun ls hl => ?_)
                    obtain ⟨x164, ex164⟩ : ∃ y : Int32, y = x76 + 1 := ⟨_, rfl⟩
                    have tx164 : x164.toInt = x76.toInt + 1 := (jadd ex164 rfl jz_1 (by omega) (by omega)).trans (by omega)
                    refine lv_iinc (v := x164) (lv' := [(4, .int x164), (3, .int x162), (2, .int (-1)), (1, .int r8), (0, .ref (ad 55))]) hx hb dX12_one_213 hl (k := 1) rfl (by rw [ex164]; rfl) (by decide) rfl (fun ls hl => ?_)
                    refine lv_aload_n hx hb dX12_one_216 rfl (lv_at hl 4 rfl) ?_
                    refine lv_dup hx hb dX12_one_217 rfl ?_
                    refine va_get (D := D) hx hb hts inlX12 hown hK hP 55 (jc_55 cI cL ad σ77 τ) rfl 19 (by decide) (hts _ kw_15_11) (fun _ h9 => h9) rfl dX12_one_218 ?_
                    refine lv_iconst (v := 1) hx hb dX12_one_221 (by decide) ?_
                    have g165 := jrg (rfl : (σ77 55 19).toInt = (σ77 55 19).toInt)
                    refine lv_iadd hx hb dX12_one_222 ?_
                    refine lv_topi (fun x166 ex166 => ?_)
                    have tx166 : x166.toInt = (σ77 55 19).toInt + 1 := (jadd ex166 rfl jz_1 (by omega) (by omega)).trans (by omega)
                    refine jput (ty := .int) hx hb hts inlX12 tyX12 tyX12_ok nmX12 hown hK hP hJ hA hS (jc_55 cI cL ad σ77 τ) rfl (k := 19) (by decide) (Nat.le_of_ble_eq_true rfl) (jp_55_19 cI cL ad σ77 τ x166) (hts _ kw_15_11) (fun _ h9 => h9) rfl (by decide +kernel) rfl rfl dX12_one_223 (fun σ167 H locs eσ167 hP hS => ?_)
                    refine lv_goto (tgt := 176) hx hb dX12_one_226 (by decide) ?_
                    have z168 : (σ167 55 18).toInt = (σ 55 18).toInt := (congrArg Int32.toInt (show σ167 55 18 = (σ 55 18) from ((jkp 18 eσ167 (by decide)).trans (f89 18 (by decide)))))
                    have z169 : (σ167 55 19).toInt = (σ77 55 19).toInt + 1 := ((congrArg Int32.toInt (show σ167 55 19 = x166 from (jsp eσ167))).trans tx166)
                    have z170 : (σ167 55 20).toInt = (σ 55 20).toInt := (congrArg Int32.toInt (show σ167 55 20 = (σ 55 20) from ((jkp 20 eσ167 (by decide)).trans (f89 20 (by decide)))))
                    have z171 : (σ167 55 21).toInt = (σ 55 21).toInt := (congrArg Int32.toInt (show σ167 55 21 = (σ 55 21) from ((jkp 21 eσ167 (by decide)).trans (f89 21 (by decide)))))
                    exact ihlp73 x162 x164 σ167 _ _ ls (by have h91 := tx164; omega) (by have h91 := tx164; omega) (by have h91 := tx164; omega) (by have h91 := tx164; omega) (by have h91 := tx164; omega) (by have h91 := tx164; omega) (by have h91 := tx164; omega) (by have h91 := tx164; omega) (by have h91 := tx164; omega) (by have h91 := tx164; omega) (fun i hi => ((jnp i eσ167 (imp_164 i hi)).trans (f88 i hi))) (fun i hi => ((jkp i eσ167 (imp_168 i hi)).trans (f89 i hi)))   hP hS (lv_sub hl [0, 1, 2, 3, 4] rfl)
          exact lp73 1000000 0 0 σ _ _ ls (by have h90 := jz_0; have h91 := jz_0; omega) (by have h90 := jz_0; have h91 := jz_0; omega) (by have h90 := jz_0; have h91 := jz_0; omega) (by have h90 := jz_0; have h91 := jz_0; omega) (by have h90 := jz_0; have h91 := jz_0; omega) (by have h90 := jz_0; have h91 := jz_0; omega) (by have h90 := jz_0; have h91 := jz_0; omega) (by have h90 := jz_0; have h91 := jz_0; omega) (by have h90 := jz_0; have h91 := jz_0; omega) (by have h90 := jz_0; have h91 := jz_0; omega) (fun _ _ => rfl) (fun _ _ => rfl)   hP hS hl
      · have kc52 := jeq c52 rfl jz_40
        refine lv_aload_n hx hb dX12_one_32 rfl (lv_at hl 1 rfl) ?_
        refine va_get (D := D) hx hb hts inlX12 hown hK hP 55 (jc_55 cI cL ad σ τ) rfl 22 (by decide) (hts _ kw_18_21) (fun _ h9 => h9) rfl dX12_one_33 ?_
        refine lv_bipush (v := 6) hx hb dX12_one_36 (by decide) ?_
        refine lv_icmp_ne (tgt := 46) hx hb dX12_one_38 (by decide) (fun c => absurd (jne c rfl jz_6) (by omega)) (fun c172 => ?_)
        have kc172 := jeq c172 rfl jz_6
        refine lv_aload_n hx hb dX12_one_41 rfl (lv_at hl 1 rfl) ?_
        refine jcallV (As := []) (rest := []) ⟨hx, hb, hml, hown, hts⟩ hK hP hA hS hZ (c_X12_wrong l D cI cL ad zz hJ σ τ hI121) cw_RX12_214 (jc_55 cI cL ad σ τ) rfl ⟨by dsimp only; omega, by dsimp only; omega⟩ rfl rfl rfl hl.1 rfl (Nat.le_of_ble_eq_true rfl) dX12_one_42 ⟨Nat.zero_le _, Nat.zero_le _⟩ (fun r174 σ173 τ173 H locs h173 hP hS => ?_)
        obtain ⟨rfl, f175, f176, I177, h173⟩ := h173
        obtain ⟨i178, i179, i180, i181, i182⟩ : ((-1) ≤ (σ173 55 18).toInt ∧ (σ173 55 18).toInt ≤ 80) ∧ (0 ≤ (σ173 55 19).toInt) ∧ ((σ173 55 19).toInt ≤ (σ173 55 20).toInt) ∧ ((σ173 55 20).toInt ≤ 80) ∧ ((-1) ≤ (σ173 55 21).toInt) := id I177
        have z183 : (σ173 55 18).toInt = (σ 55 18).toInt := (congrArg Int32.toInt (show σ173 55 18 = (σ 55 18) from (f176 18 (by decide))))
        have z184 : (σ173 55 19).toInt = (σ 55 19).toInt := (congrArg Int32.toInt (show σ173 55 19 = (σ 55 19) from (f176 19 (by decide))))
        have z185 : (σ173 55 20).toInt = (σ 55 20).toInt := (congrArg Int32.toInt (show σ173 55 20 = (σ 55 20) from (f176 20 (by decide))))
        obtain ⟨k186, h173⟩ := h173
        have h187 := h173
        obtain ⟨q189, k188⟩ := h187
        have q189 := q189.symm
        subst q189
        have z190 : (σ173 55 22).toInt = (σ 55 22).toInt := (congrArg Int32.toInt (show σ173 55 22 = (σ 55 22) from (f176 22 (by decide))))
        exact hret 0 σ173 τ _ _ _ _ rfl ⟨rfl, (fun i hi => (f175 i hi)), (fun i hi => (f176 i (imp_171 i hi))), I177, (by omega), (by omega), trivial⟩ hP hS dX12_one_45
set_option maxHeartbeats 4000000 in
set_option maxRecDepth 100000 in
theorem c_X12_grammar_product_g (l : Launch) (D : va_G) (cI cL : ClassId) (ad zz : Nat → Nat) (hJ : jD ad) (n : Nat) (h_one : ∀ (σ : Nat → Nat → Int32) (τ : Nat → Nat → Int64) (hI121 : jI121 σ) (hp0 : (σ 55 21).toInt = (-1)) (hp1 : 0 ≤ (σ 55 22).toInt ∧ (σ 55 22).toInt ≤ 6) (hp2 : -(σ 55 22).toInt + 6 ≤ (((n) : Nat) : Int)), jM l yX12_one cX12_one 5 (some .int) ({ frames := (10 + 8 * (n)), cells := 0, slots := 0, locals := (400 + 360 * (n)) }) D cI cL ad zz [.ref (ad 55)] σ τ (fun r σ' τ' => τ = τ' ∧ (∀ i : Nat, (i < 55 ∨ 55 < i) → σ' i = σ i) ∧ (∀ k : Nat, (k < 19 ∨ 19 < k) ∧ (k < 21 ∨ 21 < k) ∧ (k < 22 ∨ 22 < k) → σ' 55 k = σ 55 k) ∧ (jI121 σ') ∧ (((σ' 55 21).toInt = (-1) ∧ (σ' 55 22).toInt = (σ 55 22).toInt) ∨ (0 ≤ (σ' 55 21).toInt)) ∧ ((σ 55 19).toInt ≤ (σ' 55 19).toInt) ∧ True)) (σ : Nat → Nat → Int32) (τ : Nat → Nat → Int64) (hI121 : jI121 σ) (hp0 : (σ 55 21).toInt = (-1)) (hp1 : 0 ≤ (σ 55 22).toInt ∧ (σ 55 22).toInt ≤ 6) (hp2 : -(σ 55 22).toInt + 6 ≤ (((n) : Nat) : Int)) : jM l yX12_product cX12_product 4 (some .int) ({ frames := (11 + 8 * (n)), cells := 0, slots := 0, locals := (440 + 360 * (n)) }) D cI cL ad zz [.ref (ad 55)] σ τ (fun r σ' τ' => τ = τ' ∧ (∀ i : Nat, (i < 55 ∨ 55 < i) → σ' i = σ i) ∧ (∀ k : Nat, (k < 19 ∨ 19 < k) ∧ (k < 21 ∨ 21 < k) ∧ (k < 22 ∨ 22 < k) → σ' 55 k = σ 55 k) ∧ (jI121 σ') ∧ (((σ' 55 21).toInt = (-1) ∧ (σ' 55 22).toInt = (σ 55 22).toInt) ∨ (0 ≤ (σ' 55 21).toInt)) ∧ ((σ 55 19).toInt ≤ (σ' 55 19).toInt) ∧ True) := by
  refine jM.of hJ (by decide +kernel) (nt := .int) rfl (Nat.le_of_ble_eq_true rfl) ?_
  intro p e s m args below meth c Q ls hC hret hl hP
  obtain ⟨hx, hb, hr, hml, hown, hts, hK, -, hlocks, hZ⟩ := hC
  have hown : s.vm.findClass RX12 = some m.cls := hown
  have hS : va_S (jA ad) s.heap s.heap [] := va_S.rf
  have hA : ∀ q, jA ad q → jA ad q := fun _ h => h
  have hl : lv_has ls 4 [(0, .ref (ad 55))] := hl
  obtain ⟨i1, i2, i3, i4, i5⟩ : ((-1) ≤ (σ 55 18).toInt ∧ (σ 55 18).toInt ≤ 80) ∧ (0 ≤ (σ 55 19).toInt) ∧ ((σ 55 19).toInt ≤ (σ 55 20).toInt) ∧ ((σ 55 20).toInt ≤ 80) ∧ ((-1) ≤ (σ 55 21).toInt) := id hI121
  refine lv_aload_n hx hb dX12_product_0 rfl (lv_at hl 0 rfl) ?_
  refine jcallV (As := []) (rest := []) ⟨hx, hb, hml, hown, hts⟩ hK hP hA hS hZ (h_one σ τ hI121 (by omega) (by omega) (by omega)) cw_RX12_208 (jc_55 cI cL ad σ τ) rfl ⟨by dsimp only; omega, by dsimp only; omega⟩ rfl rfl rfl hl.1 rfl (Nat.le_of_ble_eq_true rfl) dX12_product_1 ⟨Nat.zero_le _, Nat.zero_le _⟩ (fun r7 σ6 τ6 H locs h6 hP hS => ?_)
  obtain ⟨rfl, f8, f9, I10, h6⟩ := h6
  obtain ⟨i11, i12, i13, i14, i15⟩ : ((-1) ≤ (σ6 55 18).toInt ∧ (σ6 55 18).toInt ≤ 80) ∧ (0 ≤ (σ6 55 19).toInt) ∧ ((σ6 55 19).toInt ≤ (σ6 55 20).toInt) ∧ ((σ6 55 20).toInt ≤ 80) ∧ ((-1) ≤ (σ6 55 21).toInt) := id I10
  have z16 : (σ6 55 18).toInt = (σ 55 18).toInt := (congrArg Int32.toInt (show σ6 55 18 = (σ 55 18) from (f9 18 (by decide))))
  have z17 : (σ6 55 20).toInt = (σ 55 20).toInt := (congrArg Int32.toInt (show σ6 55 20 = (σ 55 20) from (f9 20 (by decide))))
  obtain ⟨k18, k19, h6⟩ := h6
  refine lv_istore_n (lv' := [(1, .int r7), (0, .ref (ad 55))]) hx hb dX12_product_4 rfl hl (by decide) rfl (fun ls hl => ?_)
  refine lv_aload_n hx hb dX12_product_5 rfl (lv_at hl 1 rfl) ?_
  refine jcallV (As := []) (rest := []) ⟨hx, hb, hml, hown, hts⟩ hK hP hA hS hZ (c_X12_byteAt l D cI cL ad zz hJ σ6 τ I10) cw_RX12_189 (jc_55 cI cL ad σ6 τ) rfl ⟨by dsimp only; omega, by dsimp only; omega⟩ rfl rfl rfl hl.1 rfl (Nat.le_of_ble_eq_true rfl) dX12_product_6 ⟨Nat.zero_le _, Nat.zero_le _⟩ (fun r21 σ20 τ20 H locs h20 hP hS => ?_)
  obtain ⟨⟨rfl, rfl⟩, h20⟩ := h20
  have h22 := h20
  obtain ⟨q24, k23⟩ := h22
  refine lv_istore_n (lv' := [(2, .int r21), (1, .int r7), (0, .ref (ad 55))]) hx hb dX12_product_9 rfl hl (by decide) rfl (fun ls hl => ?_)
  have lp25 : ∀ (n26 : Nat) (x27 : Int32) (x28 : Int32) (σ30 : Nat → Nat → Int32) (H : Heap) (locs : List Loc) (ls : Array Slot), ((σ30 55 20).toInt - (σ30 55 19).toInt : Int) < n26 → (-1) ≤ (σ30 55 18).toInt ∧ (σ30 55 18).toInt ≤ 80 → 0 ≤ (σ30 55 19).toInt → (σ30 55 19).toInt ≤ (σ30 55 20).toInt → (σ30 55 20).toInt ≤ 80 → (-1) ≤ (σ30 55 21).toInt → (((σ30 55 21).toInt = (-1) ∧ (σ30 55 22).toInt = (σ 55 22).toInt) ∨ (0 ≤ (σ30 55 21).toInt)) → (σ 55 19).toInt ≤ (σ30 55 19).toInt → ((x28.toInt = 0) ∨ ((σ30 55 19).toInt < (σ30 55 20).toInt)) → (∀ i : Nat, (i < 55 ∨ 55 < i) → σ30 i = σ6 i) → (∀ k : Nat, (k < 19 ∨ 19 < k) ∧ (k < 21 ∨ 21 < k) ∧ (k < 22 ∨ 22 < k) → σ30 55 k = σ6 55 k) → jH D cI cL ad σ30 τ H → va_S (jA ad) s.heap H locs → lv_has ls 4 [(2, .int x28), (1, .int x27), (0, .ref (ad 55))] → W p l e ({ frames := (11 + 8 * (n)), cells := 0, slots := 0, locals := (440 + 360 * (n)) }) s m args below meth c H locs 0 0 Q (F0 m 10 ls []) := by
    intro n26
    induction n26 with
    | zero => intro x27 x28 σ30 H locs ls h31 h32 h33 h34 h35 h36 h37 h38 h39; have gx27 := jrg (rfl : x27.toInt = x27.toInt); have gx28 := jrg (rfl : x28.toInt = x28.toInt); exact absurd h31 (by omega)
    | succ n26 ihlp25 =>
      intro x27 x28 σ30 H locs ls h31 h32 h33 h34 h35 h36 h37 h38 h39 f40 f41 hP hS hl
      have gx27 := jrg (rfl : x27.toInt = x27.toInt); have gx28 := jrg (rfl : x28.toInt = x28.toInt)
      have z42 : (σ30 55 20).toInt = (σ 55 20).toInt := (congrArg Int32.toInt (show σ30 55 20 = (σ 55 20) from ((f41 20 (by decide)).trans (f9 20 (by decide)))))
      have z43 : (σ30 55 18).toInt = (σ 55 18).toInt := (congrArg Int32.toInt (show σ30 55 18 = (σ 55 18) from ((f41 18 (by decide)).trans (f9 18 (by decide)))))
      refine lv_aload_n hx hb dX12_product_10 rfl (lv_at hl 2 rfl) ?_
      refine va_get (D := D) hx hb hts inlX12 hown hK hP 55 (jc_55 cI cL ad σ30 τ) rfl 21 (by decide) (hts _ kw_15_13) (fun _ h9 => h9) rfl dX12_product_11 ?_
      refine lv_if_ge (tgt := 94) hx hb dX12_product_14 (by decide) (fun c44 => ?_) (fun c44 => ?_)
      · have kc44 := jle c44 jz_0 rfl
        refine lv_iload_n hx hb dX12_product_94 rfl (lv_at hl 1 rfl) ?_
        have I45 : jI121 σ30 := ⟨(by omega), (by omega), (by omega), (by omega), (by omega)⟩
        exact hret x27 σ30 τ _ _ _ _ rfl ⟨rfl, (fun i hi => ((f40 i hi).trans (f8 i hi))), (fun i hi => ((f41 i hi).trans (f9 i hi))), I45, (by omega), (by omega), trivial⟩ hP hS dX12_product_95
      · have kc44 := jnle c44 jz_0 rfl
        refine lv_iload_n hx hb dX12_product_17 rfl (lv_at hl 0 rfl) ?_
        refine lv_bipush (v := 42) hx hb dX12_product_18 (by decide) ?_
        refine lv_icmp_eq (tgt := 35) hx hb dX12_product_20 (by decide) (fun c46 => ?_) (fun c46 => ?_)
        · have kc46 := jeq c46 rfl jz_42
          refine lv_aload_n hx hb dX12_product_35 rfl (lv_at hl 2 rfl) ?_
          refine lv_dup hx hb dX12_product_36 rfl ?_
          refine va_get (D := D) hx hb hts inlX12 hown hK hP 55 (jc_55 cI cL ad σ30 τ) rfl 19 (by decide) (hts _ kw_15_11) (fun _ h9 => h9) rfl dX12_product_37 ?_
          refine lv_iconst (v := 1) hx hb dX12_product_40 (by decide) ?_
          have g47 := jrg (rfl : (σ30 55 19).toInt = (σ30 55 19).toInt)
          refine lv_iadd hx hb dX12_product_41 ?_
          refine lv_topi (fun x48 ex48 => ?_)
          have tx48 : x48.toInt = (σ30 55 19).toInt + 1 := (jadd ex48 rfl jz_1 (by omega) (by omega)).trans (by omega)
          refine jput (ty := .int) hx hb hts inlX12 tyX12 tyX12_ok nmX12 hown hK hP hJ hA hS (jc_55 cI cL ad σ30 τ) rfl (k := 19) (by decide) (Nat.le_of_ble_eq_true rfl) (jp_55_19 cI cL ad σ30 τ x48) (hts _ kw_15_11) (fun _ h9 => h9) rfl (by decide +kernel) rfl rfl dX12_product_42 (fun σ49 H locs eσ49 hP hS => ?_)
          refine lv_aload_n hx hb dX12_product_45 rfl (lv_at hl 2 rfl) ?_
          have z50 : (σ49 55 18).toInt = (σ 55 18).toInt := (congrArg Int32.toInt (show σ49 55 18 = (σ 55 18) from ((jkp 18 eσ49 (by decide)).trans ((f41 18 (by decide)).trans (f9 18 (by decide))))))
          have z51 : (σ49 55 19).toInt = (σ30 55 19).toInt + 1 := ((congrArg Int32.toInt (show σ49 55 19 = x48 from (jsp eσ49))).trans tx48)
          have z52 : (σ49 55 20).toInt = (σ 55 20).toInt := (congrArg Int32.toInt (show σ49 55 20 = (σ 55 20) from ((jkp 20 eσ49 (by decide)).trans ((f41 20 (by decide)).trans (f9 20 (by decide))))))
          have z53 : (σ49 55 21).toInt = (σ30 55 21).toInt := (congrArg Int32.toInt (show σ49 55 21 = (σ30 55 21) from (jkp 21 eσ49 (by decide))))
          have I54 : jI121 σ49 := ⟨(by omega), (by omega), (by omega), (by omega), (by omega)⟩
          have z55 : (σ49 55 22).toInt = (σ30 55 22).toInt := (congrArg Int32.toInt (show σ49 55 22 = (σ30 55 22) from (jkp 22 eσ49 (by decide))))
          refine jcallV (As := []) (rest := []) ⟨hx, hb, hml, hown, hts⟩ hK hP hA hS hZ (h_one σ49 τ I54 (by omega) (by omega) (by omega)) cw_RX12_208 (jc_55 cI cL ad σ49 τ) rfl ⟨by dsimp only; omega, by dsimp only; omega⟩ rfl rfl rfl hl.1 rfl (Nat.le_of_ble_eq_true rfl) dX12_product_46 ⟨Nat.zero_le _, Nat.zero_le _⟩ (fun r57 σ56 τ56 H locs h56 hP hS => ?_)
          obtain ⟨rfl, f58, f59, I60, h56⟩ := h56
          obtain ⟨i61, i62, i63, i64, i65⟩ : ((-1) ≤ (σ56 55 18).toInt ∧ (σ56 55 18).toInt ≤ 80) ∧ (0 ≤ (σ56 55 19).toInt) ∧ ((σ56 55 19).toInt ≤ (σ56 55 20).toInt) ∧ ((σ56 55 20).toInt ≤ 80) ∧ ((-1) ≤ (σ56 55 21).toInt) := id I60
          have z66 : (σ56 55 18).toInt = (σ 55 18).toInt := (congrArg Int32.toInt (show σ56 55 18 = (σ 55 18) from ((f59 18 (by decide)).trans ((jkp 18 eσ49 (by decide)).trans ((f41 18 (by decide)).trans (f9 18 (by decide)))))))
          have z67 : (σ56 55 20).toInt = (σ 55 20).toInt := (congrArg Int32.toInt (show σ56 55 20 = (σ 55 20) from ((f59 20 (by decide)).trans ((jkp 20 eσ49 (by decide)).trans ((f41 20 (by decide)).trans (f9 20 (by decide)))))))
          obtain ⟨k68, k69, h56⟩ := h56
          refine lv_istore_n (lv' := [(3, .int r57), (2, .int x28), (1, .int x27), (0, .ref (ad 55))]) hx hb dX12_product_49 rfl hl (by decide) rfl (fun ls hl => ?_)
          refine lv_iload_n hx hb dX12_product_50 rfl (lv_at hl 1 rfl) ?_
          refine lv_bipush (v := 42) hx hb dX12_product_51 (by decide) ?_
          refine lv_icmp_ne (tgt := 62) hx hb dX12_product_53 (by decide) (fun c => absurd (jne c rfl jz_42) (by omega)) (fun c70 => ?_)
          have kc70 := jeq c70 rfl jz_42
          refine lv_iload_n hx hb dX12_product_56 rfl (lv_at hl 2 rfl) ?_
          refine lv_iload_n hx hb dX12_product_57 rfl (lv_at hl 0 rfl) ?_
          have g71 := jrg (rfl : x27.toInt = x27.toInt)
          have g72 := jrg (rfl : r57.toInt = r57.toInt)
          refine lv_imul hx hb dX12_product_58 ?_
          refine lv_topi (fun x73 ex73 => ?_)
          have gx73 := jrg (rfl : x73.toInt = x73.toInt)
          refine lv_goto (tgt := 85) hx hb dX12_product_59 (by decide) ?_
          refine lv_istore_n (lv' := [(1, .int x73), (3, .int r57), (2, .int x28), (0, .ref (ad 55))]) hx hb dX12_product_85 rfl hl (by decide) rfl (fun ls hl => ?_)
          refine lv_aload_n hx hb dX12_product_86 rfl (lv_at hl 3 rfl) ?_
          refine jcallV (As := []) (rest := []) ⟨hx, hb, hml, hown, hts⟩ hK hP hA hS hZ (c_X12_byteAt l D cI cL ad zz hJ σ56 τ I60) cw_RX12_189 (jc_55 cI cL ad σ56 τ) rfl ⟨by dsimp only; omega, by dsimp only; omega⟩ rfl rfl rfl hl.1 rfl (Nat.le_of_ble_eq_true rfl) dX12_product_87 ⟨Nat.zero_le _, Nat.zero_le _⟩ (fun r75 σ74 τ74 H locs h74 hP hS => ?_)
          obtain ⟨⟨rfl, rfl⟩, h74⟩ := h74
          have h76 := h74
          obtain ⟨q78, k77⟩ := h76
          refine lv_istore_n (lv' := [(2, .int r75), (1, .int x73), (3, .int r57), (0, .ref (ad 55))]) hx hb dX12_product_90 rfl hl (by decide) rfl (fun ls hl => ?_)
          refine lv_goto (tgt := 10) hx hb dX12_product_91 (by decide) ?_
          exact ihlp25 x73 r75 σ56 _ _ ls (by omega) (by omega) (by omega) (by omega) (by omega) (by omega) (by omega) (by omega) (by omega) (fun i hi => ((f58 i hi).trans ((jnp i eσ49 (imp_164 i hi)).trans (f40 i hi)))) (fun i hi => ((f59 i hi).trans ((jkp i eσ49 (imp_170 i hi)).trans (f41 i hi))))   hP hS (lv_sub hl [0, 1, 3] rfl)
        · have kc46 := jne c46 rfl jz_42
          refine lv_iload_n hx hb dX12_product_23 rfl (lv_at hl 0 rfl) ?_
          refine lv_bipush (v := 47) hx hb dX12_product_24 (by decide) ?_
          refine lv_icmp_eq (tgt := 35) hx hb dX12_product_26 (by decide) (fun c79 => ?_) (fun c79 => ?_)
          · have kc79 := jeq c79 rfl jz_47
            refine lv_aload_n hx hb dX12_product_35 rfl (lv_at hl 2 rfl) ?_
            refine lv_dup hx hb dX12_product_36 rfl ?_
            refine va_get (D := D) hx hb hts inlX12 hown hK hP 55 (jc_55 cI cL ad σ30 τ) rfl 19 (by decide) (hts _ kw_15_11) (fun _ h9 => h9) rfl dX12_product_37 ?_
            refine lv_iconst (v := 1) hx hb dX12_product_40 (by decide) ?_
            have g80 := jrg (rfl : (σ30 55 19).toInt = (σ30 55 19).toInt)
            refine lv_iadd hx hb dX12_product_41 ?_
            refine lv_topi (fun x81 ex81 => ?_)
            have tx81 : x81.toInt = (σ30 55 19).toInt + 1 := (jadd ex81 rfl jz_1 (by omega) (by omega)).trans (by omega)
            refine jput (ty := .int) hx hb hts inlX12 tyX12 tyX12_ok nmX12 hown hK hP hJ hA hS (jc_55 cI cL ad σ30 τ) rfl (k := 19) (by decide) (Nat.le_of_ble_eq_true rfl) (jp_55_19 cI cL ad σ30 τ x81) (hts _ kw_15_11) (fun _ h9 => h9) rfl (by decide +kernel) rfl rfl dX12_product_42 (fun σ82 H locs eσ82 hP hS => ?_)
            refine lv_aload_n hx hb dX12_product_45 rfl (lv_at hl 2 rfl) ?_
            have z83 : (σ82 55 18).toInt = (σ 55 18).toInt := (congrArg Int32.toInt (show σ82 55 18 = (σ 55 18) from ((jkp 18 eσ82 (by decide)).trans ((f41 18 (by decide)).trans (f9 18 (by decide))))))
            have z84 : (σ82 55 19).toInt = (σ30 55 19).toInt + 1 := ((congrArg Int32.toInt (show σ82 55 19 = x81 from (jsp eσ82))).trans tx81)
            have z85 : (σ82 55 20).toInt = (σ 55 20).toInt := (congrArg Int32.toInt (show σ82 55 20 = (σ 55 20) from ((jkp 20 eσ82 (by decide)).trans ((f41 20 (by decide)).trans (f9 20 (by decide))))))
            have z86 : (σ82 55 21).toInt = (σ30 55 21).toInt := (congrArg Int32.toInt (show σ82 55 21 = (σ30 55 21) from (jkp 21 eσ82 (by decide))))
            have I87 : jI121 σ82 := ⟨(by omega), (by omega), (by omega), (by omega), (by omega)⟩
            have z88 : (σ82 55 22).toInt = (σ30 55 22).toInt := (congrArg Int32.toInt (show σ82 55 22 = (σ30 55 22) from (jkp 22 eσ82 (by decide))))
            refine jcallV (As := []) (rest := []) ⟨hx, hb, hml, hown, hts⟩ hK hP hA hS hZ (h_one σ82 τ I87 (by omega) (by omega) (by omega)) cw_RX12_208 (jc_55 cI cL ad σ82 τ) rfl ⟨by dsimp only; omega, by dsimp only; omega⟩ rfl rfl rfl hl.1 rfl (Nat.le_of_ble_eq_true rfl) dX12_product_46 ⟨Nat.zero_le _, Nat.zero_le _⟩ (fun r90 σ89 τ89 H locs h89 hP hS => ?_)
            obtain ⟨rfl, f91, f92, I93, h89⟩ := h89
            obtain ⟨i94, i95, i96, i97, i98⟩ : ((-1) ≤ (σ89 55 18).toInt ∧ (σ89 55 18).toInt ≤ 80) ∧ (0 ≤ (σ89 55 19).toInt) ∧ ((σ89 55 19).toInt ≤ (σ89 55 20).toInt) ∧ ((σ89 55 20).toInt ≤ 80) ∧ ((-1) ≤ (σ89 55 21).toInt) := id I93
            have z99 : (σ89 55 18).toInt = (σ 55 18).toInt := (congrArg Int32.toInt (show σ89 55 18 = (σ 55 18) from ((f92 18 (by decide)).trans ((jkp 18 eσ82 (by decide)).trans ((f41 18 (by decide)).trans (f9 18 (by decide)))))))
            have z100 : (σ89 55 20).toInt = (σ 55 20).toInt := (congrArg Int32.toInt (show σ89 55 20 = (σ 55 20) from ((f92 20 (by decide)).trans ((jkp 20 eσ82 (by decide)).trans ((f41 20 (by decide)).trans (f9 20 (by decide)))))))
            obtain ⟨k101, k102, h89⟩ := h89
            refine lv_istore_n (lv' := [(3, .int r90), (2, .int x28), (1, .int x27), (0, .ref (ad 55))]) hx hb dX12_product_49 rfl hl (by decide) rfl (fun ls hl => ?_)
            refine lv_iload_n hx hb dX12_product_50 rfl (lv_at hl 1 rfl) ?_
            refine lv_bipush (v := 42) hx hb dX12_product_51 (by decide) ?_
            refine lv_icmp_ne (tgt := 62) hx hb dX12_product_53 (by decide) (fun c103 => ?_) (fun c => absurd (jeq c rfl jz_42) (by omega))
            have kc103 := jne c103 rfl jz_42
            refine lv_iload_n hx hb dX12_product_62 rfl (lv_at hl 0 rfl) ?_
            refine lv_if_ne (tgt := 70) hx hb dX12_product_63 (by decide) (fun c104 => ?_) (fun c104 => ?_)
            · have kc104 := jne c104 rfl jz_0
              refine lv_iload_n hx hb dX12_product_70 rfl (lv_at hl 1 rfl) ?_
              refine lv_bipush (v := 47) hx hb dX12_product_71 (by decide) ?_
              refine lv_icmp_ne (tgt := 82) hx hb dX12_product_73 (by decide) (fun c => absurd (jne c rfl jz_47) (by omega)) (fun c105 => ?_)
              have kc105 := jeq c105 rfl jz_47
              refine lv_iload_n hx hb dX12_product_76 rfl (lv_at hl 2 rfl) ?_
              refine lv_iload_n hx hb dX12_product_77 rfl (lv_at hl 0 rfl) ?_
              refine lv_idiv hx hb dX12_product_78 (fun h => absurd (jeq h rfl jz_0) (by omega)) ?_
              refine lv_topi (fun x106 ex106 => ?_)
              have gx106 := jrg (rfl : x106.toInt = x106.toInt)
              refine lv_goto (tgt := 85) hx hb dX12_product_79 (by decide) ?_
              refine lv_istore_n (lv' := [(1, .int x106), (3, .int r90), (2, .int x28), (0, .ref (ad 55))]) hx hb dX12_product_85 rfl hl (by decide) rfl (fun ls hl => ?_)
              refine lv_aload_n hx hb dX12_product_86 rfl (lv_at hl 3 rfl) ?_
              refine jcallV (As := []) (rest := []) ⟨hx, hb, hml, hown, hts⟩ hK hP hA hS hZ (c_X12_byteAt l D cI cL ad zz hJ σ89 τ I93) cw_RX12_189 (jc_55 cI cL ad σ89 τ) rfl ⟨by dsimp only; omega, by dsimp only; omega⟩ rfl rfl rfl hl.1 rfl (Nat.le_of_ble_eq_true rfl) dX12_product_87 ⟨Nat.zero_le _, Nat.zero_le _⟩ (fun r108 σ107 τ107 H locs h107 hP hS => ?_)
              obtain ⟨⟨rfl, rfl⟩, h107⟩ := h107
              have h109 := h107
              obtain ⟨q111, k110⟩ := h109
              refine lv_istore_n (lv' := [(2, .int r108), (1, .int x106), (3, .int r90), (0, .ref (ad 55))]) hx hb dX12_product_90 rfl hl (by decide) rfl (fun ls hl => ?_)
              refine lv_goto (tgt := 10) hx hb dX12_product_91 (by decide) ?_
              exact ihlp25 x106 r108 σ89 _ _ ls (by omega) (by omega) (by omega) (by omega) (by omega) (by omega) (by omega) (by omega) (by omega) (fun i hi => ((f91 i hi).trans ((jnp i eσ82 (imp_164 i hi)).trans (f40 i hi)))) (fun i hi => ((f92 i hi).trans ((jkp i eσ82 (imp_170 i hi)).trans (f41 i hi))))   hP hS (lv_sub hl [0, 1, 3] rfl)
            · have kc104 := jeq c104 rfl jz_0
              refine lv_iconst (v := 0) hx hb dX12_product_66 (by decide) ?_
              refine lv_goto (tgt := 85) hx hb dX12_product_67 (by decide) ?_
              refine lv_istore_n (lv' := [(1, .int 0), (3, .int r90), (2, .int x28), (0, .ref (ad 55))]) hx hb dX12_product_85 rfl hl (by decide) rfl (fun ls hl => ?_)
              refine lv_aload_n hx hb dX12_product_86 rfl (lv_at hl 3 rfl) ?_
              refine jcallV (As := []) (rest := []) ⟨hx, hb, hml, hown, hts⟩ hK hP hA hS hZ (c_X12_byteAt l D cI cL ad zz hJ σ89 τ I93) cw_RX12_189 (jc_55 cI cL ad σ89 τ) rfl ⟨by dsimp only; omega, by dsimp only; omega⟩ rfl rfl rfl hl.1 rfl (Nat.le_of_ble_eq_true rfl) dX12_product_87 ⟨Nat.zero_le _, Nat.zero_le _⟩ (fun r113 σ112 τ112 H locs h112 hP hS => ?_)
              obtain ⟨⟨rfl, rfl⟩, h112⟩ := h112
              have h114 := h112
              obtain ⟨q116, k115⟩ := h114
              refine lv_istore_n (lv' := [(2, .int r113), (1, .int 0), (3, .int r90), (0, .ref (ad 55))]) hx hb dX12_product_90 rfl hl (by decide) rfl (fun ls hl => ?_)
              refine lv_goto (tgt := 10) hx hb dX12_product_91 (by decide) ?_
              exact ihlp25 0 r113 σ89 _ _ ls (by have h90 := jz_0; omega) (by have h90 := jz_0; omega) (by have h90 := jz_0; omega) (by have h90 := jz_0; omega) (by have h90 := jz_0; omega) (by have h90 := jz_0; omega) (by have h90 := jz_0; omega) (by have h90 := jz_0; omega) (by have h90 := jz_0; omega) (fun i hi => ((f91 i hi).trans ((jnp i eσ82 (imp_164 i hi)).trans (f40 i hi)))) (fun i hi => ((f92 i hi).trans ((jkp i eσ82 (imp_170 i hi)).trans (f41 i hi))))   hP hS (lv_sub hl [0, 1, 3] rfl)
          · have kc79 := jne c79 rfl jz_47
            refine lv_iload_n hx hb dX12_product_29 rfl (lv_at hl 0 rfl) ?_
            refine lv_bipush (v := 37) hx hb dX12_product_30 (by decide) ?_
            refine lv_icmp_ne (tgt := 94) hx hb dX12_product_32 (by decide) (fun c117 => ?_) (fun c117 => ?_)
            · have kc117 := jne c117 rfl jz_37
              refine lv_iload_n hx hb dX12_product_94 rfl (lv_at hl 1 rfl) ?_
              have I118 : jI121 σ30 := ⟨(by omega), (by omega), (by omega), (by omega), (by omega)⟩
              exact hret x27 σ30 τ _ _ _ _ rfl ⟨rfl, (fun i hi => ((f40 i hi).trans (f8 i hi))), (fun i hi => ((f41 i hi).trans (f9 i hi))), I118, (by omega), (by omega), trivial⟩ hP hS dX12_product_95
            · have kc117 := jeq c117 rfl jz_37
              refine lv_aload_n hx hb dX12_product_35 rfl (lv_at hl 2 rfl) ?_
              refine lv_dup hx hb dX12_product_36 rfl ?_
              refine va_get (D := D) hx hb hts inlX12 hown hK hP 55 (jc_55 cI cL ad σ30 τ) rfl 19 (by decide) (hts _ kw_15_11) (fun _ h9 => h9) rfl dX12_product_37 ?_
              refine lv_iconst (v := 1) hx hb dX12_product_40 (by decide) ?_
              have g119 := jrg (rfl : (σ30 55 19).toInt = (σ30 55 19).toInt)
              refine lv_iadd hx hb dX12_product_41 ?_
              refine lv_topi (fun x120 ex120 => ?_)
              have tx120 : x120.toInt = (σ30 55 19).toInt + 1 := (jadd ex120 rfl jz_1 (by omega) (by omega)).trans (by omega)
              refine jput (ty := .int) hx hb hts inlX12 tyX12 tyX12_ok nmX12 hown hK hP hJ hA hS (jc_55 cI cL ad σ30 τ) rfl (k := 19) (by decide) (Nat.le_of_ble_eq_true rfl) (jp_55_19 cI cL ad σ30 τ x120) (hts _ kw_15_11) (fun _ h9 => h9) rfl (by decide +kernel) rfl rfl dX12_product_42 (fun σ121 H locs eσ121 hP hS => ?_)
              refine lv_aload_n hx hb dX12_product_45 rfl (lv_at hl 2 rfl) ?_
              have z122 : (σ121 55 18).toInt = (σ 55 18).toInt := (congrArg Int32.toInt (show σ121 55 18 = (σ 55 18) from ((jkp 18 eσ121 (by decide)).trans ((f41 18 (by decide)).trans (f9 18 (by decide))))))
              have z123 : (σ121 55 19).toInt = (σ30 55 19).toInt + 1 := ((congrArg Int32.toInt (show σ121 55 19 = x120 from (jsp eσ121))).trans tx120)
              have z124 : (σ121 55 20).toInt = (σ 55 20).toInt := (congrArg Int32.toInt (show σ121 55 20 = (σ 55 20) from ((jkp 20 eσ121 (by decide)).trans ((f41 20 (by decide)).trans (f9 20 (by decide))))))
              have z125 : (σ121 55 21).toInt = (σ30 55 21).toInt := (congrArg Int32.toInt (show σ121 55 21 = (σ30 55 21) from (jkp 21 eσ121 (by decide))))
              have I126 : jI121 σ121 := ⟨(by omega), (by omega), (by omega), (by omega), (by omega)⟩
              have z127 : (σ121 55 22).toInt = (σ30 55 22).toInt := (congrArg Int32.toInt (show σ121 55 22 = (σ30 55 22) from (jkp 22 eσ121 (by decide))))
              refine jcallV (As := []) (rest := []) ⟨hx, hb, hml, hown, hts⟩ hK hP hA hS hZ (h_one σ121 τ I126 (by omega) (by omega) (by omega)) cw_RX12_208 (jc_55 cI cL ad σ121 τ) rfl ⟨by dsimp only; omega, by dsimp only; omega⟩ rfl rfl rfl hl.1 rfl (Nat.le_of_ble_eq_true rfl) dX12_product_46 ⟨Nat.zero_le _, Nat.zero_le _⟩ (fun r129 σ128 τ128 H locs h128 hP hS => ?_)
              obtain ⟨rfl, f130, f131, I132, h128⟩ := h128
              obtain ⟨i133, i134, i135, i136, i137⟩ : ((-1) ≤ (σ128 55 18).toInt ∧ (σ128 55 18).toInt ≤ 80) ∧ (0 ≤ (σ128 55 19).toInt) ∧ ((σ128 55 19).toInt ≤ (σ128 55 20).toInt) ∧ ((σ128 55 20).toInt ≤ 80) ∧ ((-1) ≤ (σ128 55 21).toInt) := id I132
              have z138 : (σ128 55 18).toInt = (σ 55 18).toInt := (congrArg Int32.toInt (show σ128 55 18 = (σ 55 18) from ((f131 18 (by decide)).trans ((jkp 18 eσ121 (by decide)).trans ((f41 18 (by decide)).trans (f9 18 (by decide)))))))
              have z139 : (σ128 55 20).toInt = (σ 55 20).toInt := (congrArg Int32.toInt (show σ128 55 20 = (σ 55 20) from ((f131 20 (by decide)).trans ((jkp 20 eσ121 (by decide)).trans ((f41 20 (by decide)).trans (f9 20 (by decide)))))))
              obtain ⟨k140, k141, h128⟩ := h128
              refine lv_istore_n (lv' := [(3, .int r129), (2, .int x28), (1, .int x27), (0, .ref (ad 55))]) hx hb dX12_product_49 rfl hl (by decide) rfl (fun ls hl => ?_)
              refine lv_iload_n hx hb dX12_product_50 rfl (lv_at hl 1 rfl) ?_
              refine lv_bipush (v := 42) hx hb dX12_product_51 (by decide) ?_
              refine lv_icmp_ne (tgt := 62) hx hb dX12_product_53 (by decide) (fun c142 => ?_) (fun c => absurd (jeq c rfl jz_42) (by omega))
              have kc142 := jne c142 rfl jz_42
              refine lv_iload_n hx hb dX12_product_62 rfl (lv_at hl 0 rfl) ?_
              refine lv_if_ne (tgt := 70) hx hb dX12_product_63 (by decide) (fun c143 => ?_) (fun c143 => ?_)
              · have kc143 := jne c143 rfl jz_0
                refine lv_iload_n hx hb dX12_product_70 rfl (lv_at hl 1 rfl) ?_
                refine lv_bipush (v := 47) hx hb dX12_product_71 (by decide) ?_
                refine lv_icmp_ne (tgt := 82) hx hb dX12_product_73 (by decide) (fun c144 => ?_) (fun c => absurd (jeq c rfl jz_47) (by omega))
                have kc144 := jne c144 rfl jz_47
                refine lv_iload_n hx hb dX12_product_82 rfl (lv_at hl 2 rfl) ?_
                refine lv_iload_n hx hb dX12_product_83 rfl (lv_at hl 0 rfl) ?_
                refine lv_irem hx hb dX12_product_84 (fun h => absurd (jeq h rfl jz_0) (by omega)) ?_
                refine lv_topi (fun x145 ex145 => ?_)
                have gx145 := jrg (rfl : x145.toInt = x145.toInt)
                refine lv_istore_n (lv' := [(1, .int x145), (3, .int r129), (2, .int x28), (0, .ref (ad 55))]) hx hb dX12_product_85 rfl hl (by decide) rfl (fun ls hl => ?_)
                refine lv_aload_n hx hb dX12_product_86 rfl (lv_at hl 3 rfl) ?_
                refine jcallV (As := []) (rest := []) ⟨hx, hb, hml, hown, hts⟩ hK hP hA hS hZ (c_X12_byteAt l D cI cL ad zz hJ σ128 τ I132) cw_RX12_189 (jc_55 cI cL ad σ128 τ) rfl ⟨by dsimp only; omega, by dsimp only; omega⟩ rfl rfl rfl hl.1 rfl (Nat.le_of_ble_eq_true rfl) dX12_product_87 ⟨Nat.zero_le _, Nat.zero_le _⟩ (fun r147 σ146 τ146 H locs h146 hP hS => ?_)
                obtain ⟨⟨rfl, rfl⟩, h146⟩ := h146
                have h148 := h146
                obtain ⟨q150, k149⟩ := h148
                refine lv_istore_n (lv' := [(2, .int r147), (1, .int x145), (3, .int r129), (0, .ref (ad 55))]) hx hb dX12_product_90 rfl hl (by decide) rfl (fun ls hl => ?_)
                refine lv_goto (tgt := 10) hx hb dX12_product_91 (by decide) ?_
                exact ihlp25 x145 r147 σ128 _ _ ls (by omega) (by omega) (by omega) (by omega) (by omega) (by omega) (by omega) (by omega) (by omega) (fun i hi => ((f130 i hi).trans ((jnp i eσ121 (imp_164 i hi)).trans (f40 i hi)))) (fun i hi => ((f131 i hi).trans ((jkp i eσ121 (imp_170 i hi)).trans (f41 i hi))))   hP hS (lv_sub hl [0, 1, 3] rfl)
              · have kc143 := jeq c143 rfl jz_0
                refine lv_iconst (v := 0) hx hb dX12_product_66 (by decide) ?_
                refine lv_goto (tgt := 85) hx hb dX12_product_67 (by decide) ?_
                refine lv_istore_n (lv' := [(1, .int 0), (3, .int r129), (2, .int x28), (0, .ref (ad 55))]) hx hb dX12_product_85 rfl hl (by decide) rfl (fun ls hl => ?_)
                refine lv_aload_n hx hb dX12_product_86 rfl (lv_at hl 3 rfl) ?_
                refine jcallV (As := []) (rest := []) ⟨hx, hb, hml, hown, hts⟩ hK hP hA hS hZ (c_X12_byteAt l D cI cL ad zz hJ σ128 τ I132) cw_RX12_189 (jc_55 cI cL ad σ128 τ) rfl ⟨by dsimp only; omega, by dsimp only; omega⟩ rfl rfl rfl hl.1 rfl (Nat.le_of_ble_eq_true rfl) dX12_product_87 ⟨Nat.zero_le _, Nat.zero_le _⟩ (fun r152 σ151 τ151 H locs h151 hP hS => ?_)
                obtain ⟨⟨rfl, rfl⟩, h151⟩ := h151
                have h153 := h151
                obtain ⟨q155, k154⟩ := h153
                refine lv_istore_n (lv' := [(2, .int r152), (1, .int 0), (3, .int r129), (0, .ref (ad 55))]) hx hb dX12_product_90 rfl hl (by decide) rfl (fun ls hl => ?_)
                refine lv_goto (tgt := 10) hx hb dX12_product_91 (by decide) ?_
                exact ihlp25 0 r152 σ128 _ _ ls (by have h90 := jz_0; omega) (by have h90 := jz_0; omega) (by have h90 := jz_0; omega) (by have h90 := jz_0; omega) (by have h90 := jz_0; omega) (by have h90 := jz_0; omega) (by have h90 := jz_0; omega) (by have h90 := jz_0; omega) (by have h90 := jz_0; omega) (fun i hi => ((f130 i hi).trans ((jnp i eσ121 (imp_164 i hi)).trans (f40 i hi)))) (fun i hi => ((f131 i hi).trans ((jkp i eσ121 (imp_170 i hi)).trans (f41 i hi))))   hP hS (lv_sub hl [0, 1, 3] rfl)
  exact lp25 1000000 r7 r21 σ6 _ _ ls (by omega) (by omega) (by omega) (by omega) (by omega) (by omega) (by omega) (by omega) (by omega) (fun _ _ => rfl) (fun _ _ => rfl)   hP hS hl
set_option maxHeartbeats 4000000 in
set_option maxRecDepth 100000 in
theorem c_X12_grammar_sums_g (l : Launch) (D : va_G) (cI cL : ClassId) (ad zz : Nat → Nat) (hJ : jD ad) (n : Nat) (h_product : ∀ (σ : Nat → Nat → Int32) (τ : Nat → Nat → Int64) (hI121 : jI121 σ) (hp0 : (σ 55 21).toInt = (-1)) (hp1 : 0 ≤ (σ 55 22).toInt ∧ (σ 55 22).toInt ≤ 6) (hp2 : -(σ 55 22).toInt + 6 ≤ (((n) : Nat) : Int)), jM l yX12_product cX12_product 4 (some .int) ({ frames := (11 + 8 * (n)), cells := 0, slots := 0, locals := (440 + 360 * (n)) }) D cI cL ad zz [.ref (ad 55)] σ τ (fun r σ' τ' => τ = τ' ∧ (∀ i : Nat, (i < 55 ∨ 55 < i) → σ' i = σ i) ∧ (∀ k : Nat, (k < 19 ∨ 19 < k) ∧ (k < 21 ∨ 21 < k) ∧ (k < 22 ∨ 22 < k) → σ' 55 k = σ 55 k) ∧ (jI121 σ') ∧ (((σ' 55 21).toInt = (-1) ∧ (σ' 55 22).toInt = (σ 55 22).toInt) ∨ (0 ≤ (σ' 55 21).toInt)) ∧ ((σ 55 19).toInt ≤ (σ' 55 19).toInt) ∧ True)) (σ : Nat → Nat → Int32) (τ : Nat → Nat → Int64) (hI121 : jI121 σ) (hp0 : (σ 55 21).toInt = (-1)) (hp1 : 0 ≤ (σ 55 22).toInt ∧ (σ 55 22).toInt ≤ 6) (hp2 : -(σ 55 22).toInt + 6 ≤ (((n) : Nat) : Int)) : jM l yX12_sums cX12_sums 4 (some .int) ({ frames := (12 + 8 * (n)), cells := 0, slots := 0, locals := (480 + 360 * (n)) }) D cI cL ad zz [.ref (ad 55)] σ τ (fun r σ' τ' => τ = τ' ∧ (∀ i : Nat, (i < 55 ∨ 55 < i) → σ' i = σ i) ∧ (∀ k : Nat, (k < 19 ∨ 19 < k) ∧ (k < 21 ∨ 21 < k) ∧ (k < 22 ∨ 22 < k) → σ' 55 k = σ 55 k) ∧ (jI121 σ') ∧ (((σ' 55 21).toInt = (-1) ∧ (σ' 55 22).toInt = (σ 55 22).toInt) ∨ (0 ≤ (σ' 55 21).toInt)) ∧ ((σ 55 19).toInt ≤ (σ' 55 19).toInt) ∧ True) := by
  refine jM.of hJ (by decide +kernel) (nt := .int) rfl (Nat.le_of_ble_eq_true rfl) ?_
  intro p e s m args below meth c Q ls hC hret hl hP
  obtain ⟨hx, hb, hr, hml, hown, hts, hK, -, hlocks, hZ⟩ := hC
  have hown : s.vm.findClass RX12 = some m.cls := hown
  have hS : va_S (jA ad) s.heap s.heap [] := va_S.rf
  have hA : ∀ q, jA ad q → jA ad q := fun _ h => h
  have hl : lv_has ls 4 [(0, .ref (ad 55))] := hl
  obtain ⟨i1, i2, i3, i4, i5⟩ : ((-1) ≤ (σ 55 18).toInt ∧ (σ 55 18).toInt ≤ 80) ∧ (0 ≤ (σ 55 19).toInt) ∧ ((σ 55 19).toInt ≤ (σ 55 20).toInt) ∧ ((σ 55 20).toInt ≤ 80) ∧ ((-1) ≤ (σ 55 21).toInt) := id hI121
  refine lv_aload_n hx hb dX12_sums_0 rfl (lv_at hl 0 rfl) ?_
  refine jcallV (As := []) (rest := []) ⟨hx, hb, hml, hown, hts⟩ hK hP hA hS hZ (h_product σ τ hI121 (by omega) (by omega) (by omega)) cw_RX12_205 (jc_55 cI cL ad σ τ) rfl ⟨by dsimp only; omega, by dsimp only; omega⟩ rfl rfl rfl hl.1 rfl (Nat.le_of_ble_eq_true rfl) dX12_sums_1 ⟨Nat.zero_le _, Nat.zero_le _⟩ (fun r7 σ6 τ6 H locs h6 hP hS => ?_)
  obtain ⟨rfl, f8, f9, I10, h6⟩ := h6
  obtain ⟨i11, i12, i13, i14, i15⟩ : ((-1) ≤ (σ6 55 18).toInt ∧ (σ6 55 18).toInt ≤ 80) ∧ (0 ≤ (σ6 55 19).toInt) ∧ ((σ6 55 19).toInt ≤ (σ6 55 20).toInt) ∧ ((σ6 55 20).toInt ≤ 80) ∧ ((-1) ≤ (σ6 55 21).toInt) := id I10
  have z16 : (σ6 55 18).toInt = (σ 55 18).toInt := (congrArg Int32.toInt (show σ6 55 18 = (σ 55 18) from (f9 18 (by decide))))
  have z17 : (σ6 55 20).toInt = (σ 55 20).toInt := (congrArg Int32.toInt (show σ6 55 20 = (σ 55 20) from (f9 20 (by decide))))
  obtain ⟨k18, k19, h6⟩ := h6
  refine lv_istore_n (lv' := [(1, .int r7), (0, .ref (ad 55))]) hx hb dX12_sums_4 rfl hl (by decide) rfl (fun ls hl => ?_)
  have lp20 : ∀ (n21 : Nat) (x22 : Int32) (σ25 : Nat → Nat → Int32) (H : Heap) (locs : List Loc) (ls : Array Slot), ((σ25 55 20).toInt - (σ25 55 19).toInt : Int) < n21 → (-1) ≤ (σ25 55 18).toInt ∧ (σ25 55 18).toInt ≤ 80 → 0 ≤ (σ25 55 19).toInt → (σ25 55 19).toInt ≤ (σ25 55 20).toInt → (σ25 55 20).toInt ≤ 80 → (-1) ≤ (σ25 55 21).toInt → (((σ25 55 21).toInt = (-1) ∧ (σ25 55 22).toInt = (σ 55 22).toInt) ∨ (0 ≤ (σ25 55 21).toInt)) → (σ 55 19).toInt ≤ (σ25 55 19).toInt → (∀ i : Nat, (i < 55 ∨ 55 < i) → σ25 i = σ6 i) → (∀ k : Nat, (k < 19 ∨ 19 < k) ∧ (k < 21 ∨ 21 < k) ∧ (k < 22 ∨ 22 < k) → σ25 55 k = σ6 55 k) → jH D cI cL ad σ25 τ H → va_S (jA ad) s.heap H locs → lv_has ls 4 [(1, .int x22), (0, .ref (ad 55))] → W p l e ({ frames := (12 + 8 * (n)), cells := 0, slots := 0, locals := (480 + 360 * (n)) }) s m args below meth c H locs 0 0 Q (F0 m 5 ls []) := by
    intro n21
    induction n21 with
    | zero => intro x22 σ25 H locs ls h26 h27 h28 h29 h30 h31 h32 h33; have gx22 := jrg (rfl : x22.toInt = x22.toInt); exact absurd h26 (by omega)
    | succ n21 ihlp20 =>
      intro x22 σ25 H locs ls h26 h27 h28 h29 h30 h31 h32 h33 f34 f35 hP hS hl
      have gx22 := jrg (rfl : x22.toInt = x22.toInt)
      have z36 : (σ25 55 20).toInt = (σ 55 20).toInt := (congrArg Int32.toInt (show σ25 55 20 = (σ 55 20) from ((f35 20 (by decide)).trans (f9 20 (by decide)))))
      have z37 : (σ25 55 18).toInt = (σ 55 18).toInt := (congrArg Int32.toInt (show σ25 55 18 = (σ 55 18) from ((f35 18 (by decide)).trans (f9 18 (by decide)))))
      refine lv_aload_n hx hb dX12_sums_5 rfl (lv_at hl 1 rfl) ?_
      refine va_get (D := D) hx hb hts inlX12 hown hK hP 55 (jc_55 cI cL ad σ25 τ) rfl 21 (by decide) (hts _ kw_15_13) (fun _ h9 => h9) rfl dX12_sums_6 ?_
      refine lv_if_ge (tgt := 77) hx hb dX12_sums_9 (by decide) (fun c38 => ?_) (fun c38 => ?_)
      · have kc38 := jle c38 jz_0 rfl
        refine lv_iload_n hx hb dX12_sums_77 rfl (lv_at hl 0 rfl) ?_
        have I39 : jI121 σ25 := ⟨(by omega), (by omega), (by omega), (by omega), (by omega)⟩
        exact hret x22 σ25 τ _ _ _ _ rfl ⟨rfl, (fun i hi => ((f34 i hi).trans (f8 i hi))), (fun i hi => ((f35 i hi).trans (f9 i hi))), I39, (by omega), (by omega), trivial⟩ hP hS dX12_sums_78
      · have kc38 := jnle c38 jz_0 rfl
        refine lv_aload_n hx hb dX12_sums_12 rfl (lv_at hl 1 rfl) ?_
        have I40 : jI121 σ25 := ⟨(by omega), (by omega), (by omega), (by omega), (by omega)⟩
        refine jcallV (As := []) (rest := []) ⟨hx, hb, hml, hown, hts⟩ hK hP hA hS hZ (c_X12_byteAt l D cI cL ad zz hJ σ25 τ I40) cw_RX12_189 (jc_55 cI cL ad σ25 τ) rfl ⟨by dsimp only; omega, by dsimp only; omega⟩ rfl rfl rfl hl.1 rfl (Nat.le_of_ble_eq_true rfl) dX12_sums_13 ⟨Nat.zero_le _, Nat.zero_le _⟩ (fun r42 σ41 τ41 H locs h41 hP hS => ?_)
        obtain ⟨⟨rfl, rfl⟩, h41⟩ := h41
        have h43 := h41
        obtain ⟨q45, k44⟩ := h43
        refine lv_bipush (v := 43) hx hb dX12_sums_16 (by decide) ?_
        refine lv_icmp_eq (tgt := 30) hx hb dX12_sums_18 (by decide) (fun c46 => ?_) (fun c46 => ?_)
        · have kc46 := jeq c46 rfl jz_43
          refine lv_aload_n hx hb dX12_sums_30 rfl (lv_at hl 1 rfl) ?_
          refine jcallV (As := []) (rest := []) ⟨hx, hb, hml, hown, hts⟩ hK hP hA hS hZ (c_X12_byteAt l D cI cL ad zz hJ σ25 τ I40) cw_RX12_189 (jc_55 cI cL ad σ25 τ) rfl ⟨by dsimp only; omega, by dsimp only; omega⟩ rfl rfl rfl hl.1 rfl (Nat.le_of_ble_eq_true rfl) dX12_sums_31 ⟨Nat.zero_le _, Nat.zero_le _⟩ (fun r48 σ47 τ47 H locs h47 hP hS => ?_)
          obtain ⟨⟨rfl, rfl⟩, h47⟩ := h47
          have h49 := h47
          obtain ⟨q51, k50⟩ := h49
          refine lv_bipush (v := 43) hx hb dX12_sums_34 (by decide) ?_
          refine lv_icmp_ne (tgt := 43) hx hb dX12_sums_36 (by decide) (fun c52 => ?_) (fun c52 => ?_)
          · have kc52 := jne c52 rfl jz_43
            refine lv_iconst (v := 0) hx hb dX12_sums_43 (by decide) ?_
            refine lv_istore_n (lv' := [(2, .int 0), (1, .int x22), (0, .ref (ad 55))]) hx hb dX12_sums_44 rfl hl (by decide) rfl (fun ls hl => ?_)
            refine lv_aload_n hx hb dX12_sums_45 rfl (lv_at hl 2 rfl) ?_
            refine lv_dup hx hb dX12_sums_46 rfl ?_
            refine va_get (D := D) hx hb hts inlX12 hown hK hP 55 (jc_55 cI cL ad σ25 τ) rfl 19 (by decide) (hts _ kw_15_11) (fun _ h9 => h9) rfl dX12_sums_47 ?_
            refine lv_iconst (v := 1) hx hb dX12_sums_50 (by decide) ?_
            have g53 := jrg (rfl : (σ25 55 19).toInt = (σ25 55 19).toInt)
            refine lv_iadd hx hb dX12_sums_51 ?_
            refine lv_topi (fun x54 ex54 => ?_)
            have tx54 : x54.toInt = (σ25 55 19).toInt + 1 := (jadd ex54 rfl jz_1 (by omega) (by omega)).trans (by omega)
            refine jput (ty := .int) hx hb hts inlX12 tyX12 tyX12_ok nmX12 hown hK hP hJ hA hS (jc_55 cI cL ad σ25 τ) rfl (k := 19) (by decide) (Nat.le_of_ble_eq_true rfl) (jp_55_19 cI cL ad σ25 τ x54) (hts _ kw_15_11) (fun _ h9 => h9) rfl (by decide +kernel) rfl rfl dX12_sums_52 (fun σ55 H locs eσ55 hP hS => ?_)
            refine lv_aload_n hx hb dX12_sums_55 rfl (lv_at hl 2 rfl) ?_
            have z56 : (σ55 55 18).toInt = (σ 55 18).toInt := (congrArg Int32.toInt (show σ55 55 18 = (σ 55 18) from ((jkp 18 eσ55 (by decide)).trans ((f35 18 (by decide)).trans (f9 18 (by decide))))))
            have z57 : (σ55 55 19).toInt = (σ25 55 19).toInt + 1 := ((congrArg Int32.toInt (show σ55 55 19 = x54 from (jsp eσ55))).trans tx54)
            have z58 : (σ55 55 20).toInt = (σ 55 20).toInt := (congrArg Int32.toInt (show σ55 55 20 = (σ 55 20) from ((jkp 20 eσ55 (by decide)).trans ((f35 20 (by decide)).trans (f9 20 (by decide))))))
            have z59 : (σ55 55 21).toInt = (σ25 55 21).toInt := (congrArg Int32.toInt (show σ55 55 21 = (σ25 55 21) from (jkp 21 eσ55 (by decide))))
            have I60 : jI121 σ55 := ⟨(by omega), (by omega), (by omega), (by omega), (by omega)⟩
            have z61 : (σ55 55 22).toInt = (σ25 55 22).toInt := (congrArg Int32.toInt (show σ55 55 22 = (σ25 55 22) from (jkp 22 eσ55 (by decide))))
            refine jcallV (As := []) (rest := []) ⟨hx, hb, hml, hown, hts⟩ hK hP hA hS hZ (h_product σ55 τ I60 (by omega) (by omega) (by omega)) cw_RX12_205 (jc_55 cI cL ad σ55 τ) rfl ⟨by dsimp only; omega, by dsimp only; omega⟩ rfl rfl rfl hl.1 rfl (Nat.le_of_ble_eq_true rfl) dX12_sums_56 ⟨Nat.zero_le _, Nat.zero_le _⟩ (fun r63 σ62 τ62 H locs h62 hP hS => ?_)
            obtain ⟨rfl, f64, f65, I66, h62⟩ := h62
            obtain ⟨i67, i68, i69, i70, i71⟩ : ((-1) ≤ (σ62 55 18).toInt ∧ (σ62 55 18).toInt ≤ 80) ∧ (0 ≤ (σ62 55 19).toInt) ∧ ((σ62 55 19).toInt ≤ (σ62 55 20).toInt) ∧ ((σ62 55 20).toInt ≤ 80) ∧ ((-1) ≤ (σ62 55 21).toInt) := id I66
            have z72 : (σ62 55 18).toInt = (σ 55 18).toInt := (congrArg Int32.toInt (show σ62 55 18 = (σ 55 18) from ((f65 18 (by decide)).trans ((jkp 18 eσ55 (by decide)).trans ((f35 18 (by decide)).trans (f9 18 (by decide)))))))
            have z73 : (σ62 55 20).toInt = (σ 55 20).toInt := (congrArg Int32.toInt (show σ62 55 20 = (σ 55 20) from ((f65 20 (by decide)).trans ((jkp 20 eσ55 (by decide)).trans ((f35 20 (by decide)).trans (f9 20 (by decide)))))))
            obtain ⟨k74, k75, h62⟩ := h62
            refine lv_istore_n (lv' := [(3, .int r63), (2, .int 0), (1, .int x22), (0, .ref (ad 55))]) hx hb dX12_sums_59 rfl hl (by decide) rfl (fun ls hl => ?_)
            refine lv_iload_n hx hb dX12_sums_60 rfl (lv_at hl 1 rfl) ?_
            refine lv_if_eq (tgt := 70) hx hb dX12_sums_61 (by decide) (fun _ => ?_) (fun c => absurd (by decide) c)
            refine lv_iload_n hx hb dX12_sums_70 rfl (lv_at hl 2 rfl) ?_
            refine lv_iload_n hx hb dX12_sums_71 rfl (lv_at hl 0 rfl) ?_
            have g76 := jrg (rfl : x22.toInt = x22.toInt)
            have g77 := jrg (rfl : r63.toInt = r63.toInt)
            refine lv_isub hx hb dX12_sums_72 ?_
            refine lv_topi (fun x78 ex78 => ?_)
            have gx78 := jrg (rfl : x78.toInt = x78.toInt)
            refine lv_istore_n (lv' := [(1, .int x78), (3, .int r63), (2, .int 0), (0, .ref (ad 55))]) hx hb dX12_sums_73 rfl hl (by decide) rfl (fun ls hl => ?_)
            refine lv_goto (tgt := 5) hx hb dX12_sums_74 (by decide) ?_
            exact ihlp20 x78 σ62 _ _ ls (by omega) (by omega) (by omega) (by omega) (by omega) (by omega) (by omega) (by omega) (fun i hi => ((f64 i hi).trans ((jnp i eσ55 (imp_164 i hi)).trans (f34 i hi)))) (fun i hi => ((f65 i hi).trans ((jkp i eσ55 (imp_170 i hi)).trans (f35 i hi))))   hP hS (lv_sub hl [0, 3] rfl)
          · have kc52 := jeq c52 rfl jz_43
            refine lv_iconst (v := 1) hx hb dX12_sums_39 (by decide) ?_
            refine lv_goto (tgt := 44) hx hb dX12_sums_40 (by decide) ?_
            refine lv_istore_n (lv' := [(2, .int 1), (1, .int x22), (0, .ref (ad 55))]) hx hb dX12_sums_44 rfl hl (by decide) rfl (fun ls hl => ?_)
            refine lv_aload_n hx hb dX12_sums_45 rfl (lv_at hl 2 rfl) ?_
            refine lv_dup hx hb dX12_sums_46 rfl ?_
            refine va_get (D := D) hx hb hts inlX12 hown hK hP 55 (jc_55 cI cL ad σ25 τ) rfl 19 (by decide) (hts _ kw_15_11) (fun _ h9 => h9) rfl dX12_sums_47 ?_
            refine lv_iconst (v := 1) hx hb dX12_sums_50 (by decide) ?_
            have g79 := jrg (rfl : (σ25 55 19).toInt = (σ25 55 19).toInt)
            refine lv_iadd hx hb dX12_sums_51 ?_
            refine lv_topi (fun x80 ex80 => ?_)
            have tx80 : x80.toInt = (σ25 55 19).toInt + 1 := (jadd ex80 rfl jz_1 (by omega) (by omega)).trans (by omega)
            refine jput (ty := .int) hx hb hts inlX12 tyX12 tyX12_ok nmX12 hown hK hP hJ hA hS (jc_55 cI cL ad σ25 τ) rfl (k := 19) (by decide) (Nat.le_of_ble_eq_true rfl) (jp_55_19 cI cL ad σ25 τ x80) (hts _ kw_15_11) (fun _ h9 => h9) rfl (by decide +kernel) rfl rfl dX12_sums_52 (fun σ81 H locs eσ81 hP hS => ?_)
            refine lv_aload_n hx hb dX12_sums_55 rfl (lv_at hl 2 rfl) ?_
            have z82 : (σ81 55 18).toInt = (σ 55 18).toInt := (congrArg Int32.toInt (show σ81 55 18 = (σ 55 18) from ((jkp 18 eσ81 (by decide)).trans ((f35 18 (by decide)).trans (f9 18 (by decide))))))
            have z83 : (σ81 55 19).toInt = (σ25 55 19).toInt + 1 := ((congrArg Int32.toInt (show σ81 55 19 = x80 from (jsp eσ81))).trans tx80)
            have z84 : (σ81 55 20).toInt = (σ 55 20).toInt := (congrArg Int32.toInt (show σ81 55 20 = (σ 55 20) from ((jkp 20 eσ81 (by decide)).trans ((f35 20 (by decide)).trans (f9 20 (by decide))))))
            have z85 : (σ81 55 21).toInt = (σ25 55 21).toInt := (congrArg Int32.toInt (show σ81 55 21 = (σ25 55 21) from (jkp 21 eσ81 (by decide))))
            have I86 : jI121 σ81 := ⟨(by omega), (by omega), (by omega), (by omega), (by omega)⟩
            have z87 : (σ81 55 22).toInt = (σ25 55 22).toInt := (congrArg Int32.toInt (show σ81 55 22 = (σ25 55 22) from (jkp 22 eσ81 (by decide))))
            refine jcallV (As := []) (rest := []) ⟨hx, hb, hml, hown, hts⟩ hK hP hA hS hZ (h_product σ81 τ I86 (by omega) (by omega) (by omega)) cw_RX12_205 (jc_55 cI cL ad σ81 τ) rfl ⟨by dsimp only; omega, by dsimp only; omega⟩ rfl rfl rfl hl.1 rfl (Nat.le_of_ble_eq_true rfl) dX12_sums_56 ⟨Nat.zero_le _, Nat.zero_le _⟩ (fun r89 σ88 τ88 H locs h88 hP hS => ?_)
            obtain ⟨rfl, f90, f91, I92, h88⟩ := h88
            obtain ⟨i93, i94, i95, i96, i97⟩ : ((-1) ≤ (σ88 55 18).toInt ∧ (σ88 55 18).toInt ≤ 80) ∧ (0 ≤ (σ88 55 19).toInt) ∧ ((σ88 55 19).toInt ≤ (σ88 55 20).toInt) ∧ ((σ88 55 20).toInt ≤ 80) ∧ ((-1) ≤ (σ88 55 21).toInt) := id I92
            have z98 : (σ88 55 18).toInt = (σ 55 18).toInt := (congrArg Int32.toInt (show σ88 55 18 = (σ 55 18) from ((f91 18 (by decide)).trans ((jkp 18 eσ81 (by decide)).trans ((f35 18 (by decide)).trans (f9 18 (by decide)))))))
            have z99 : (σ88 55 20).toInt = (σ 55 20).toInt := (congrArg Int32.toInt (show σ88 55 20 = (σ 55 20) from ((f91 20 (by decide)).trans ((jkp 20 eσ81 (by decide)).trans ((f35 20 (by decide)).trans (f9 20 (by decide)))))))
            obtain ⟨k100, k101, h88⟩ := h88
            refine lv_istore_n (lv' := [(3, .int r89), (2, .int 1), (1, .int x22), (0, .ref (ad 55))]) hx hb dX12_sums_59 rfl hl (by decide) rfl (fun ls hl => ?_)
            refine lv_iload_n hx hb dX12_sums_60 rfl (lv_at hl 1 rfl) ?_
            refine lv_if_eq (tgt := 70) hx hb dX12_sums_61 (by decide) (fun c => absurd c (by decide)) (fun _ => ?_)
            refine lv_iload_n hx hb dX12_sums_64 rfl (lv_at hl 2 rfl) ?_
            refine lv_iload_n hx hb dX12_sums_65 rfl (lv_at hl 0 rfl) ?_
            have g102 := jrg (rfl : x22.toInt = x22.toInt)
            have g103 := jrg (rfl : r89.toInt = r89.toInt)
            refine lv_iadd hx hb dX12_sums_66 ?_
            refine lv_topi (fun x104 ex104 => ?_)
            have gx104 := jrg (rfl : x104.toInt = x104.toInt)
            refine lv_goto (tgt := 73) hx hb dX12_sums_67 (by decide) ?_
            refine lv_istore_n (lv' := [(1, .int x104), (3, .int r89), (2, .int 1), (0, .ref (ad 55))]) hx hb dX12_sums_73 rfl hl (by decide) rfl (fun ls hl => ?_)
            refine lv_goto (tgt := 5) hx hb dX12_sums_74 (by decide) ?_
            exact ihlp20 x104 σ88 _ _ ls (by omega) (by omega) (by omega) (by omega) (by omega) (by omega) (by omega) (by omega) (fun i hi => ((f90 i hi).trans ((jnp i eσ81 (imp_164 i hi)).trans (f34 i hi)))) (fun i hi => ((f91 i hi).trans ((jkp i eσ81 (imp_170 i hi)).trans (f35 i hi))))   hP hS (lv_sub hl [0, 3] rfl)
        · have kc46 := jne c46 rfl jz_43
          refine lv_aload_n hx hb dX12_sums_21 rfl (lv_at hl 1 rfl) ?_
          refine jcallV (As := []) (rest := []) ⟨hx, hb, hml, hown, hts⟩ hK hP hA hS hZ (c_X12_byteAt l D cI cL ad zz hJ σ25 τ I40) cw_RX12_189 (jc_55 cI cL ad σ25 τ) rfl ⟨by dsimp only; omega, by dsimp only; omega⟩ rfl rfl rfl hl.1 rfl (Nat.le_of_ble_eq_true rfl) dX12_sums_22 ⟨Nat.zero_le _, Nat.zero_le _⟩ (fun r106 σ105 τ105 H locs h105 hP hS => ?_)
          obtain ⟨⟨rfl, rfl⟩, h105⟩ := h105
          have h107 := h105
          obtain ⟨q109, k108⟩ := h107
          refine lv_bipush (v := 45) hx hb dX12_sums_25 (by decide) ?_
          refine lv_icmp_ne (tgt := 77) hx hb dX12_sums_27 (by decide) (fun c110 => ?_) (fun c110 => ?_)
          · have kc110 := jne c110 rfl jz_45
            refine lv_iload_n hx hb dX12_sums_77 rfl (lv_at hl 0 rfl) ?_
            exact hret x22 σ25 τ _ _ _ _ rfl ⟨rfl, (fun i hi => ((f34 i hi).trans (f8 i hi))), (fun i hi => ((f35 i hi).trans (f9 i hi))), I40, (by omega), (by omega), trivial⟩ hP hS dX12_sums_78
          · have kc110 := jeq c110 rfl jz_45
            refine lv_aload_n hx hb dX12_sums_30 rfl (lv_at hl 1 rfl) ?_
            refine jcallV (As := []) (rest := []) ⟨hx, hb, hml, hown, hts⟩ hK hP hA hS hZ (c_X12_byteAt l D cI cL ad zz hJ σ25 τ I40) cw_RX12_189 (jc_55 cI cL ad σ25 τ) rfl ⟨by dsimp only; omega, by dsimp only; omega⟩ rfl rfl rfl hl.1 rfl (Nat.le_of_ble_eq_true rfl) dX12_sums_31 ⟨Nat.zero_le _, Nat.zero_le _⟩ (fun r112 σ111 τ111 H locs h111 hP hS => ?_)
            obtain ⟨⟨rfl, rfl⟩, h111⟩ := h111
            have h113 := h111
            obtain ⟨q115, k114⟩ := h113
            refine lv_bipush (v := 43) hx hb dX12_sums_34 (by decide) ?_
            refine lv_icmp_ne (tgt := 43) hx hb dX12_sums_36 (by decide) (fun c116 => ?_) (fun c116 => ?_)
            · have kc116 := jne c116 rfl jz_43
              refine lv_iconst (v := 0) hx hb dX12_sums_43 (by decide) ?_
              refine lv_istore_n (lv' := [(2, .int 0), (1, .int x22), (0, .ref (ad 55))]) hx hb dX12_sums_44 rfl hl (by decide) rfl (fun ls hl => ?_)
              refine lv_aload_n hx hb dX12_sums_45 rfl (lv_at hl 2 rfl) ?_
              refine lv_dup hx hb dX12_sums_46 rfl ?_
              refine va_get (D := D) hx hb hts inlX12 hown hK hP 55 (jc_55 cI cL ad σ25 τ) rfl 19 (by decide) (hts _ kw_15_11) (fun _ h9 => h9) rfl dX12_sums_47 ?_
              refine lv_iconst (v := 1) hx hb dX12_sums_50 (by decide) ?_
              have g117 := jrg (rfl : (σ25 55 19).toInt = (σ25 55 19).toInt)
              refine lv_iadd hx hb dX12_sums_51 ?_
              refine lv_topi (fun x118 ex118 => ?_)
              have tx118 : x118.toInt = (σ25 55 19).toInt + 1 := (jadd ex118 rfl jz_1 (by omega) (by omega)).trans (by omega)
              refine jput (ty := .int) hx hb hts inlX12 tyX12 tyX12_ok nmX12 hown hK hP hJ hA hS (jc_55 cI cL ad σ25 τ) rfl (k := 19) (by decide) (Nat.le_of_ble_eq_true rfl) (jp_55_19 cI cL ad σ25 τ x118) (hts _ kw_15_11) (fun _ h9 => h9) rfl (by decide +kernel) rfl rfl dX12_sums_52 (fun σ119 H locs eσ119 hP hS => ?_)
              refine lv_aload_n hx hb dX12_sums_55 rfl (lv_at hl 2 rfl) ?_
              have z120 : (σ119 55 18).toInt = (σ 55 18).toInt := (congrArg Int32.toInt (show σ119 55 18 = (σ 55 18) from ((jkp 18 eσ119 (by decide)).trans ((f35 18 (by decide)).trans (f9 18 (by decide))))))
              have z121 : (σ119 55 19).toInt = (σ25 55 19).toInt + 1 := ((congrArg Int32.toInt (show σ119 55 19 = x118 from (jsp eσ119))).trans tx118)
              have z122 : (σ119 55 20).toInt = (σ 55 20).toInt := (congrArg Int32.toInt (show σ119 55 20 = (σ 55 20) from ((jkp 20 eσ119 (by decide)).trans ((f35 20 (by decide)).trans (f9 20 (by decide))))))
              have z123 : (σ119 55 21).toInt = (σ25 55 21).toInt := (congrArg Int32.toInt (show σ119 55 21 = (σ25 55 21) from (jkp 21 eσ119 (by decide))))
              have I124 : jI121 σ119 := ⟨(by omega), (by omega), (by omega), (by omega), (by omega)⟩
              have z125 : (σ119 55 22).toInt = (σ25 55 22).toInt := (congrArg Int32.toInt (show σ119 55 22 = (σ25 55 22) from (jkp 22 eσ119 (by decide))))
              refine jcallV (As := []) (rest := []) ⟨hx, hb, hml, hown, hts⟩ hK hP hA hS hZ (h_product σ119 τ I124 (by omega) (by omega) (by omega)) cw_RX12_205 (jc_55 cI cL ad σ119 τ) rfl ⟨by dsimp only; omega, by dsimp only; omega⟩ rfl rfl rfl hl.1 rfl (Nat.le_of_ble_eq_true rfl) dX12_sums_56 ⟨Nat.zero_le _, Nat.zero_le _⟩ (fun r127 σ126 τ126 H locs h126 hP hS => ?_)
              obtain ⟨rfl, f128, f129, I130, h126⟩ := h126
              obtain ⟨i131, i132, i133, i134, i135⟩ : ((-1) ≤ (σ126 55 18).toInt ∧ (σ126 55 18).toInt ≤ 80) ∧ (0 ≤ (σ126 55 19).toInt) ∧ ((σ126 55 19).toInt ≤ (σ126 55 20).toInt) ∧ ((σ126 55 20).toInt ≤ 80) ∧ ((-1) ≤ (σ126 55 21).toInt) := id I130
              have z136 : (σ126 55 18).toInt = (σ 55 18).toInt := (congrArg Int32.toInt (show σ126 55 18 = (σ 55 18) from ((f129 18 (by decide)).trans ((jkp 18 eσ119 (by decide)).trans ((f35 18 (by decide)).trans (f9 18 (by decide)))))))
              have z137 : (σ126 55 20).toInt = (σ 55 20).toInt := (congrArg Int32.toInt (show σ126 55 20 = (σ 55 20) from ((f129 20 (by decide)).trans ((jkp 20 eσ119 (by decide)).trans ((f35 20 (by decide)).trans (f9 20 (by decide)))))))
              obtain ⟨k138, k139, h126⟩ := h126
              refine lv_istore_n (lv' := [(3, .int r127), (2, .int 0), (1, .int x22), (0, .ref (ad 55))]) hx hb dX12_sums_59 rfl hl (by decide) rfl (fun ls hl => ?_)
              refine lv_iload_n hx hb dX12_sums_60 rfl (lv_at hl 1 rfl) ?_
              refine lv_if_eq (tgt := 70) hx hb dX12_sums_61 (by decide) (fun _ => ?_) (fun c => absurd (by decide) c)
              refine lv_iload_n hx hb dX12_sums_70 rfl (lv_at hl 2 rfl) ?_
              refine lv_iload_n hx hb dX12_sums_71 rfl (lv_at hl 0 rfl) ?_
              have g140 := jrg (rfl : x22.toInt = x22.toInt)
              have g141 := jrg (rfl : r127.toInt = r127.toInt)
              refine lv_isub hx hb dX12_sums_72 ?_
              refine lv_topi (fun x142 ex142 => ?_)
              have gx142 := jrg (rfl : x142.toInt = x142.toInt)
              refine lv_istore_n (lv' := [(1, .int x142), (3, .int r127), (2, .int 0), (0, .ref (ad 55))]) hx hb dX12_sums_73 rfl hl (by decide) rfl (fun ls hl => ?_)
              refine lv_goto (tgt := 5) hx hb dX12_sums_74 (by decide) ?_
              exact ihlp20 x142 σ126 _ _ ls (by omega) (by omega) (by omega) (by omega) (by omega) (by omega) (by omega) (by omega) (fun i hi => ((f128 i hi).trans ((jnp i eσ119 (imp_164 i hi)).trans (f34 i hi)))) (fun i hi => ((f129 i hi).trans ((jkp i eσ119 (imp_170 i hi)).trans (f35 i hi))))   hP hS (lv_sub hl [0, 3] rfl)
            · have kc116 := jeq c116 rfl jz_43
              refine lv_iconst (v := 1) hx hb dX12_sums_39 (by decide) ?_
              refine lv_goto (tgt := 44) hx hb dX12_sums_40 (by decide) ?_
              refine lv_istore_n (lv' := [(2, .int 1), (1, .int x22), (0, .ref (ad 55))]) hx hb dX12_sums_44 rfl hl (by decide) rfl (fun ls hl => ?_)
              refine lv_aload_n hx hb dX12_sums_45 rfl (lv_at hl 2 rfl) ?_
              refine lv_dup hx hb dX12_sums_46 rfl ?_
              refine va_get (D := D) hx hb hts inlX12 hown hK hP 55 (jc_55 cI cL ad σ25 τ) rfl 19 (by decide) (hts _ kw_15_11) (fun _ h9 => h9) rfl dX12_sums_47 ?_
              refine lv_iconst (v := 1) hx hb dX12_sums_50 (by decide) ?_
              have g143 := jrg (rfl : (σ25 55 19).toInt = (σ25 55 19).toInt)
              refine lv_iadd hx hb dX12_sums_51 ?_
              refine lv_topi (fun x144 ex144 => ?_)
              have tx144 : x144.toInt = (σ25 55 19).toInt + 1 := (jadd ex144 rfl jz_1 (by omega) (by omega)).trans (by omega)
              refine jput (ty := .int) hx hb hts inlX12 tyX12 tyX12_ok nmX12 hown hK hP hJ hA hS (jc_55 cI cL ad σ25 τ) rfl (k := 19) (by decide) (Nat.le_of_ble_eq_true rfl) (jp_55_19 cI cL ad σ25 τ x144) (hts _ kw_15_11) (fun _ h9 => h9) rfl (by decide +kernel) rfl rfl dX12_sums_52 (fun σ145 H locs eσ145 hP hS => ?_)
              refine lv_aload_n hx hb dX12_sums_55 rfl (lv_at hl 2 rfl) ?_
              have z146 : (σ145 55 18).toInt = (σ 55 18).toInt := (congrArg Int32.toInt (show σ145 55 18 = (σ 55 18) from ((jkp 18 eσ145 (by decide)).trans ((f35 18 (by decide)).trans (f9 18 (by decide))))))
              have z147 : (σ145 55 19).toInt = (σ25 55 19).toInt + 1 := ((congrArg Int32.toInt (show σ145 55 19 = x144 from (jsp eσ145))).trans tx144)
              have z148 : (σ145 55 20).toInt = (σ 55 20).toInt := (congrArg Int32.toInt (show σ145 55 20 = (σ 55 20) from ((jkp 20 eσ145 (by decide)).trans ((f35 20 (by decide)).trans (f9 20 (by decide))))))
              have z149 : (σ145 55 21).toInt = (σ25 55 21).toInt := (congrArg Int32.toInt (show σ145 55 21 = (σ25 55 21) from (jkp 21 eσ145 (by decide))))
              have I150 : jI121 σ145 := ⟨(by omega), (by omega), (by omega), (by omega), (by omega)⟩
              have z151 : (σ145 55 22).toInt = (σ25 55 22).toInt := (congrArg Int32.toInt (show σ145 55 22 = (σ25 55 22) from (jkp 22 eσ145 (by decide))))
              refine jcallV (As := []) (rest := []) ⟨hx, hb, hml, hown, hts⟩ hK hP hA hS hZ (h_product σ145 τ I150 (by omega) (by omega) (by omega)) cw_RX12_205 (jc_55 cI cL ad σ145 τ) rfl ⟨by dsimp only; omega, by dsimp only; omega⟩ rfl rfl rfl hl.1 rfl (Nat.le_of_ble_eq_true rfl) dX12_sums_56 ⟨Nat.zero_le _, Nat.zero_le _⟩ (fun r153 σ152 τ152 H locs h152 hP hS => ?_)
              obtain ⟨rfl, f154, f155, I156, h152⟩ := h152
              obtain ⟨i157, i158, i159, i160, i161⟩ : ((-1) ≤ (σ152 55 18).toInt ∧ (σ152 55 18).toInt ≤ 80) ∧ (0 ≤ (σ152 55 19).toInt) ∧ ((σ152 55 19).toInt ≤ (σ152 55 20).toInt) ∧ ((σ152 55 20).toInt ≤ 80) ∧ ((-1) ≤ (σ152 55 21).toInt) := id I156
              have z162 : (σ152 55 18).toInt = (σ 55 18).toInt := (congrArg Int32.toInt (show σ152 55 18 = (σ 55 18) from ((f155 18 (by decide)).trans ((jkp 18 eσ145 (by decide)).trans ((f35 18 (by decide)).trans (f9 18 (by decide)))))))
              have z163 : (σ152 55 20).toInt = (σ 55 20).toInt := (congrArg Int32.toInt (show σ152 55 20 = (σ 55 20) from ((f155 20 (by decide)).trans ((jkp 20 eσ145 (by decide)).trans ((f35 20 (by decide)).trans (f9 20 (by decide)))))))
              obtain ⟨k164, k165, h152⟩ := h152
              refine lv_istore_n (lv' := [(3, .int r153), (2, .int 1), (1, .int x22), (0, .ref (ad 55))]) hx hb dX12_sums_59 rfl hl (by decide) rfl (fun ls hl => ?_)
              refine lv_iload_n hx hb dX12_sums_60 rfl (lv_at hl 1 rfl) ?_
              refine lv_if_eq (tgt := 70) hx hb dX12_sums_61 (by decide) (fun c => absurd c (by decide)) (fun _ => ?_)
              refine lv_iload_n hx hb dX12_sums_64 rfl (lv_at hl 2 rfl) ?_
              refine lv_iload_n hx hb dX12_sums_65 rfl (lv_at hl 0 rfl) ?_
              have g166 := jrg (rfl : x22.toInt = x22.toInt)
              have g167 := jrg (rfl : r153.toInt = r153.toInt)
              refine lv_iadd hx hb dX12_sums_66 ?_
              refine lv_topi (fun x168 ex168 => ?_)
              have gx168 := jrg (rfl : x168.toInt = x168.toInt)
              refine lv_goto (tgt := 73) hx hb dX12_sums_67 (by decide) ?_
              refine lv_istore_n (lv' := [(1, .int x168), (3, .int r153), (2, .int 1), (0, .ref (ad 55))]) hx hb dX12_sums_73 rfl hl (by decide) rfl (fun ls hl => ?_)
              refine lv_goto (tgt := 5) hx hb dX12_sums_74 (by decide) ?_
              exact ihlp20 x168 σ152 _ _ ls (by omega) (by omega) (by omega) (by omega) (by omega) (by omega) (by omega) (by omega) (fun i hi => ((f154 i hi).trans ((jnp i eσ145 (imp_164 i hi)).trans (f34 i hi)))) (fun i hi => ((f155 i hi).trans ((jkp i eσ145 (imp_170 i hi)).trans (f35 i hi))))   hP hS (lv_sub hl [0, 3] rfl)
  exact lp20 1000000 r7 σ6 _ _ ls (by omega) (by omega) (by omega) (by omega) (by omega) (by omega) (by omega) (by omega) (fun _ _ => rfl) (fun _ _ => rfl)   hP hS hl
set_option maxHeartbeats 4000000 in
set_option maxRecDepth 100000 in
theorem c_X12_grammar_compared_g (l : Launch) (D : va_G) (cI cL : ClassId) (ad zz : Nat → Nat) (hJ : jD ad) (n : Nat) (h_sums : ∀ (σ : Nat → Nat → Int32) (τ : Nat → Nat → Int64) (hI121 : jI121 σ) (hp0 : (σ 55 21).toInt = (-1)) (hp1 : 0 ≤ (σ 55 22).toInt ∧ (σ 55 22).toInt ≤ 6) (hp2 : -(σ 55 22).toInt + 6 ≤ (((n) : Nat) : Int)), jM l yX12_sums cX12_sums 4 (some .int) ({ frames := (12 + 8 * (n)), cells := 0, slots := 0, locals := (480 + 360 * (n)) }) D cI cL ad zz [.ref (ad 55)] σ τ (fun r σ' τ' => τ = τ' ∧ (∀ i : Nat, (i < 55 ∨ 55 < i) → σ' i = σ i) ∧ (∀ k : Nat, (k < 19 ∨ 19 < k) ∧ (k < 21 ∨ 21 < k) ∧ (k < 22 ∨ 22 < k) → σ' 55 k = σ 55 k) ∧ (jI121 σ') ∧ (((σ' 55 21).toInt = (-1) ∧ (σ' 55 22).toInt = (σ 55 22).toInt) ∨ (0 ≤ (σ' 55 21).toInt)) ∧ ((σ 55 19).toInt ≤ (σ' 55 19).toInt) ∧ True)) (σ : Nat → Nat → Int32) (τ : Nat → Nat → Int64) (hI121 : jI121 σ) (hp0 : (σ 55 21).toInt = (-1)) (hp1 : 0 ≤ (σ 55 22).toInt ∧ (σ 55 22).toInt ≤ 6) (hp2 : -(σ 55 22).toInt + 6 ≤ (((n) : Nat) : Int)) : jM l yX12_compared cX12_compared 4 (some .int) ({ frames := (13 + 8 * (n)), cells := 0, slots := 0, locals := (520 + 360 * (n)) }) D cI cL ad zz [.ref (ad 55)] σ τ (fun r σ' τ' => τ = τ' ∧ (∀ i : Nat, (i < 55 ∨ 55 < i) → σ' i = σ i) ∧ (∀ k : Nat, (k < 19 ∨ 19 < k) ∧ (k < 21 ∨ 21 < k) ∧ (k < 22 ∨ 22 < k) → σ' 55 k = σ 55 k) ∧ (jI121 σ') ∧ (((σ' 55 21).toInt = (-1) ∧ (σ' 55 22).toInt = (σ 55 22).toInt) ∨ (0 ≤ (σ' 55 21).toInt)) ∧ ((σ 55 19).toInt ≤ (σ' 55 19).toInt) ∧ True) := by
  refine jM.of hJ (by decide +kernel) (nt := .int) rfl (Nat.le_of_ble_eq_true rfl) ?_
  intro p e s m args below meth c Q ls hC hret hl hP
  obtain ⟨hx, hb, hr, hml, hown, hts, hK, -, hlocks, hZ⟩ := hC
  have hown : s.vm.findClass RX12 = some m.cls := hown
  have hS : va_S (jA ad) s.heap s.heap [] := va_S.rf
  have hA : ∀ q, jA ad q → jA ad q := fun _ h => h
  have hl : lv_has ls 4 [(0, .ref (ad 55))] := hl
  obtain ⟨i1, i2, i3, i4, i5⟩ : ((-1) ≤ (σ 55 18).toInt ∧ (σ 55 18).toInt ≤ 80) ∧ (0 ≤ (σ 55 19).toInt) ∧ ((σ 55 19).toInt ≤ (σ 55 20).toInt) ∧ ((σ 55 20).toInt ≤ 80) ∧ ((-1) ≤ (σ 55 21).toInt) := id hI121
  refine lv_aload_n hx hb dX12_compared_0 rfl (lv_at hl 0 rfl) ?_
  refine jcallV (As := []) (rest := []) ⟨hx, hb, hml, hown, hts⟩ hK hP hA hS hZ (h_sums σ τ hI121 (by omega) (by omega) (by omega)) cw_RX12_202 (jc_55 cI cL ad σ τ) rfl ⟨by dsimp only; omega, by dsimp only; omega⟩ rfl rfl rfl hl.1 rfl (Nat.le_of_ble_eq_true rfl) dX12_compared_1 ⟨Nat.zero_le _, Nat.zero_le _⟩ (fun r7 σ6 τ6 H locs h6 hP hS => ?_)
  obtain ⟨rfl, f8, f9, I10, h6⟩ := h6
  obtain ⟨i11, i12, i13, i14, i15⟩ : ((-1) ≤ (σ6 55 18).toInt ∧ (σ6 55 18).toInt ≤ 80) ∧ (0 ≤ (σ6 55 19).toInt) ∧ ((σ6 55 19).toInt ≤ (σ6 55 20).toInt) ∧ ((σ6 55 20).toInt ≤ 80) ∧ ((-1) ≤ (σ6 55 21).toInt) := id I10
  have z16 : (σ6 55 18).toInt = (σ 55 18).toInt := (congrArg Int32.toInt (show σ6 55 18 = (σ 55 18) from (f9 18 (by decide))))
  have z17 : (σ6 55 20).toInt = (σ 55 20).toInt := (congrArg Int32.toInt (show σ6 55 20 = (σ 55 20) from (f9 20 (by decide))))
  obtain ⟨k18, k19, h6⟩ := h6
  refine lv_istore_n (lv' := [(1, .int r7), (0, .ref (ad 55))]) hx hb dX12_compared_4 rfl hl (by decide) rfl (fun ls hl => ?_)
  refine lv_aload_n hx hb dX12_compared_5 rfl (lv_at hl 1 rfl) ?_
  refine jcallV (As := []) (rest := []) ⟨hx, hb, hml, hown, hts⟩ hK hP hA hS hZ (c_X12_byteAt l D cI cL ad zz hJ σ6 τ I10) cw_RX12_189 (jc_55 cI cL ad σ6 τ) rfl ⟨by dsimp only; omega, by dsimp only; omega⟩ rfl rfl rfl hl.1 rfl (Nat.le_of_ble_eq_true rfl) dX12_compared_6 ⟨Nat.zero_le _, Nat.zero_le _⟩ (fun r21 σ20 τ20 H locs h20 hP hS => ?_)
  obtain ⟨⟨rfl, rfl⟩, h20⟩ := h20
  have h22 := h20
  obtain ⟨q24, k23⟩ := h22
  refine lv_istore_n (lv' := [(2, .int r21), (1, .int r7), (0, .ref (ad 55))]) hx hb dX12_compared_9 rfl hl (by decide) rfl (fun ls hl => ?_)
  refine lv_aload_n hx hb dX12_compared_10 rfl (lv_at hl 2 rfl) ?_
  refine va_get (D := D) hx hb hts inlX12 hown hK hP 55 (jc_55 cI cL ad σ6 τ) rfl 21 (by decide) (hts _ kw_15_13) (fun _ h9 => h9) rfl dX12_compared_11 ?_
  refine lv_if_ge (tgt := 35) hx hb dX12_compared_14 (by decide) (fun c25 => ?_) (fun c25 => ?_)
  · have kc25 := jle c25 jz_0 rfl
    refine lv_iload_n hx hb dX12_compared_35 rfl (lv_at hl 1 rfl) ?_
    exact hret r7 σ6 τ _ _ _ _ rfl ⟨rfl, (fun i hi => (f8 i hi)), (fun i hi => (f9 i hi)), I10, (by omega), (by omega), trivial⟩ hP hS dX12_compared_36
  · have kc25 := jnle c25 jz_0 rfl
    refine lv_iload_n hx hb dX12_compared_17 rfl (lv_at hl 0 rfl) ?_
    refine lv_bipush (v := 60) hx hb dX12_compared_18 (by decide) ?_
    refine lv_icmp_eq (tgt := 37) hx hb dX12_compared_20 (by decide) (fun c26 => ?_) (fun c26 => ?_)
    · have kc26 := jeq c26 rfl jz_60
      refine lv_aload_n hx hb dX12_compared_37 rfl (lv_at hl 2 rfl) ?_
      refine lv_dup hx hb dX12_compared_38 rfl ?_
      refine va_get (D := D) hx hb hts inlX12 hown hK hP 55 (jc_55 cI cL ad σ6 τ) rfl 19 (by decide) (hts _ kw_15_11) (fun _ h9 => h9) rfl dX12_compared_39 ?_
      refine lv_iconst (v := 1) hx hb dX12_compared_42 (by decide) ?_
      have g27 := jrg (rfl : (σ6 55 19).toInt = (σ6 55 19).toInt)
      refine lv_iadd hx hb dX12_compared_43 ?_
      refine lv_topi (fun x28 ex28 => ?_)
      have tx28 : x28.toInt = (σ6 55 19).toInt + 1 := (jadd ex28 rfl jz_1 (by omega) (by omega)).trans (by omega)
      refine jput (ty := .int) hx hb hts inlX12 tyX12 tyX12_ok nmX12 hown hK hP hJ hA hS (jc_55 cI cL ad σ6 τ) rfl (k := 19) (by decide) (Nat.le_of_ble_eq_true rfl) (jp_55_19 cI cL ad σ6 τ x28) (hts _ kw_15_11) (fun _ h9 => h9) rfl (by decide +kernel) rfl rfl dX12_compared_44 (fun σ29 H locs eσ29 hP hS => ?_)
      refine lv_aload_n hx hb dX12_compared_47 rfl (lv_at hl 2 rfl) ?_
      have z30 : (σ29 55 18).toInt = (σ 55 18).toInt := (congrArg Int32.toInt (show σ29 55 18 = (σ 55 18) from ((jkp 18 eσ29 (by decide)).trans (f9 18 (by decide)))))
      have z31 : (σ29 55 19).toInt = (σ6 55 19).toInt + 1 := ((congrArg Int32.toInt (show σ29 55 19 = x28 from (jsp eσ29))).trans tx28)
      have z32 : (σ29 55 20).toInt = (σ 55 20).toInt := (congrArg Int32.toInt (show σ29 55 20 = (σ 55 20) from ((jkp 20 eσ29 (by decide)).trans (f9 20 (by decide)))))
      have z33 : (σ29 55 21).toInt = (σ6 55 21).toInt := (congrArg Int32.toInt (show σ29 55 21 = (σ6 55 21) from (jkp 21 eσ29 (by decide))))
      have I34 : jI121 σ29 := ⟨(by omega), (by omega), (by omega), (by omega), (by omega)⟩
      have z35 : (σ29 55 22).toInt = (σ6 55 22).toInt := (congrArg Int32.toInt (show σ29 55 22 = (σ6 55 22) from (jkp 22 eσ29 (by decide))))
      refine jcallV (As := []) (rest := []) ⟨hx, hb, hml, hown, hts⟩ hK hP hA hS hZ (h_sums σ29 τ I34 (by omega) (by omega) (by omega)) cw_RX12_202 (jc_55 cI cL ad σ29 τ) rfl ⟨by dsimp only; omega, by dsimp only; omega⟩ rfl rfl rfl hl.1 rfl (Nat.le_of_ble_eq_true rfl) dX12_compared_48 ⟨Nat.zero_le _, Nat.zero_le _⟩ (fun r37 σ36 τ36 H locs h36 hP hS => ?_)
      obtain ⟨rfl, f38, f39, I40, h36⟩ := h36
      obtain ⟨i41, i42, i43, i44, i45⟩ : ((-1) ≤ (σ36 55 18).toInt ∧ (σ36 55 18).toInt ≤ 80) ∧ (0 ≤ (σ36 55 19).toInt) ∧ ((σ36 55 19).toInt ≤ (σ36 55 20).toInt) ∧ ((σ36 55 20).toInt ≤ 80) ∧ ((-1) ≤ (σ36 55 21).toInt) := id I40
      have z46 : (σ36 55 18).toInt = (σ 55 18).toInt := (congrArg Int32.toInt (show σ36 55 18 = (σ 55 18) from ((f39 18 (by decide)).trans ((jkp 18 eσ29 (by decide)).trans (f9 18 (by decide))))))
      have z47 : (σ36 55 20).toInt = (σ 55 20).toInt := (congrArg Int32.toInt (show σ36 55 20 = (σ 55 20) from ((f39 20 (by decide)).trans ((jkp 20 eσ29 (by decide)).trans (f9 20 (by decide))))))
      obtain ⟨k48, k49, h36⟩ := h36
      refine lv_istore_n (lv' := [(3, .int r37), (2, .int r21), (1, .int r7), (0, .ref (ad 55))]) hx hb dX12_compared_51 rfl hl (by decide) rfl (fun ls hl => ?_)
      refine lv_iload_n hx hb dX12_compared_52 rfl (lv_at hl 1 rfl) ?_
      refine lv_bipush (v := 60) hx hb dX12_compared_53 (by decide) ?_
      refine lv_icmp_ne (tgt := 66) hx hb dX12_compared_55 (by decide) (fun c => absurd (jne c rfl jz_60) (by omega)) (fun c50 => ?_)
      have kc50 := jeq c50 rfl jz_60
      refine lv_iload_n hx hb dX12_compared_58 rfl (lv_at hl 2 rfl) ?_
      refine lv_iload_n hx hb dX12_compared_59 rfl (lv_at hl 0 rfl) ?_
      refine lv_icmp_ge (tgt := 89) hx hb dX12_compared_60 (by decide) (fun c51 => ?_) (fun c51 => ?_)
      · have kc51 := jle c51 rfl rfl
        refine lv_iconst (v := 0) hx hb dX12_compared_89 (by decide) ?_
        exact hret 0 σ36 τ _ _ _ _ rfl ⟨rfl, (fun i hi => ((f38 i hi).trans ((jnp i eσ29 (imp_164 i hi)).trans (f8 i hi)))), (fun i hi => ((f39 i hi).trans ((jkp i eσ29 (imp_170 i hi)).trans (f9 i hi)))), I40, (by omega), (by omega), trivial⟩ hP hS dX12_compared_90
      · have kc51 := jnle c51 rfl rfl
        refine lv_goto (tgt := 85) hx hb dX12_compared_63 (by decide) ?_
        refine lv_iconst (v := 1) hx hb dX12_compared_85 (by decide) ?_
        refine lv_goto (tgt := 90) hx hb dX12_compared_86 (by decide) ?_
        exact hret 1 σ36 τ _ _ _ _ rfl ⟨rfl, (fun i hi => ((f38 i hi).trans ((jnp i eσ29 (imp_164 i hi)).trans (f8 i hi)))), (fun i hi => ((f39 i hi).trans ((jkp i eσ29 (imp_170 i hi)).trans (f9 i hi)))), I40, (by omega), (by omega), trivial⟩ hP hS dX12_compared_90
    · have kc26 := jne c26 rfl jz_60
      refine lv_iload_n hx hb dX12_compared_23 rfl (lv_at hl 0 rfl) ?_
      refine lv_bipush (v := 61) hx hb dX12_compared_24 (by decide) ?_
      refine lv_icmp_eq (tgt := 37) hx hb dX12_compared_26 (by decide) (fun c52 => ?_) (fun c52 => ?_)
      · have kc52 := jeq c52 rfl jz_61
        refine lv_aload_n hx hb dX12_compared_37 rfl (lv_at hl 2 rfl) ?_
        refine lv_dup hx hb dX12_compared_38 rfl ?_
        refine va_get (D := D) hx hb hts inlX12 hown hK hP 55 (jc_55 cI cL ad σ6 τ) rfl 19 (by decide) (hts _ kw_15_11) (fun _ h9 => h9) rfl dX12_compared_39 ?_
        refine lv_iconst (v := 1) hx hb dX12_compared_42 (by decide) ?_
        have g53 := jrg (rfl : (σ6 55 19).toInt = (σ6 55 19).toInt)
        refine lv_iadd hx hb dX12_compared_43 ?_
        refine lv_topi (fun x54 ex54 => ?_)
        have tx54 : x54.toInt = (σ6 55 19).toInt + 1 := (jadd ex54 rfl jz_1 (by omega) (by omega)).trans (by omega)
        refine jput (ty := .int) hx hb hts inlX12 tyX12 tyX12_ok nmX12 hown hK hP hJ hA hS (jc_55 cI cL ad σ6 τ) rfl (k := 19) (by decide) (Nat.le_of_ble_eq_true rfl) (jp_55_19 cI cL ad σ6 τ x54) (hts _ kw_15_11) (fun _ h9 => h9) rfl (by decide +kernel) rfl rfl dX12_compared_44 (fun σ55 H locs eσ55 hP hS => ?_)
        refine lv_aload_n hx hb dX12_compared_47 rfl (lv_at hl 2 rfl) ?_
        have z56 : (σ55 55 18).toInt = (σ 55 18).toInt := (congrArg Int32.toInt (show σ55 55 18 = (σ 55 18) from ((jkp 18 eσ55 (by decide)).trans (f9 18 (by decide)))))
        have z57 : (σ55 55 19).toInt = (σ6 55 19).toInt + 1 := ((congrArg Int32.toInt (show σ55 55 19 = x54 from (jsp eσ55))).trans tx54)
        have z58 : (σ55 55 20).toInt = (σ 55 20).toInt := (congrArg Int32.toInt (show σ55 55 20 = (σ 55 20) from ((jkp 20 eσ55 (by decide)).trans (f9 20 (by decide)))))
        have z59 : (σ55 55 21).toInt = (σ6 55 21).toInt := (congrArg Int32.toInt (show σ55 55 21 = (σ6 55 21) from (jkp 21 eσ55 (by decide))))
        have I60 : jI121 σ55 := ⟨(by omega), (by omega), (by omega), (by omega), (by omega)⟩
        have z61 : (σ55 55 22).toInt = (σ6 55 22).toInt := (congrArg Int32.toInt (show σ55 55 22 = (σ6 55 22) from (jkp 22 eσ55 (by decide))))
        refine jcallV (As := []) (rest := []) ⟨hx, hb, hml, hown, hts⟩ hK hP hA hS hZ (h_sums σ55 τ I60 (by omega) (by omega) (by omega)) cw_RX12_202 (jc_55 cI cL ad σ55 τ) rfl ⟨by dsimp only; omega, by dsimp only; omega⟩ rfl rfl rfl hl.1 rfl (Nat.le_of_ble_eq_true rfl) dX12_compared_48 ⟨Nat.zero_le _, Nat.zero_le _⟩ (fun r63 σ62 τ62 H locs h62 hP hS => ?_)
        obtain ⟨rfl, f64, f65, I66, h62⟩ := h62
        obtain ⟨i67, i68, i69, i70, i71⟩ : ((-1) ≤ (σ62 55 18).toInt ∧ (σ62 55 18).toInt ≤ 80) ∧ (0 ≤ (σ62 55 19).toInt) ∧ ((σ62 55 19).toInt ≤ (σ62 55 20).toInt) ∧ ((σ62 55 20).toInt ≤ 80) ∧ ((-1) ≤ (σ62 55 21).toInt) := id I66
        have z72 : (σ62 55 18).toInt = (σ 55 18).toInt := (congrArg Int32.toInt (show σ62 55 18 = (σ 55 18) from ((f65 18 (by decide)).trans ((jkp 18 eσ55 (by decide)).trans (f9 18 (by decide))))))
        have z73 : (σ62 55 20).toInt = (σ 55 20).toInt := (congrArg Int32.toInt (show σ62 55 20 = (σ 55 20) from ((f65 20 (by decide)).trans ((jkp 20 eσ55 (by decide)).trans (f9 20 (by decide))))))
        obtain ⟨k74, k75, h62⟩ := h62
        refine lv_istore_n (lv' := [(3, .int r63), (2, .int r21), (1, .int r7), (0, .ref (ad 55))]) hx hb dX12_compared_51 rfl hl (by decide) rfl (fun ls hl => ?_)
        refine lv_iload_n hx hb dX12_compared_52 rfl (lv_at hl 1 rfl) ?_
        refine lv_bipush (v := 60) hx hb dX12_compared_53 (by decide) ?_
        refine lv_icmp_ne (tgt := 66) hx hb dX12_compared_55 (by decide) (fun c76 => ?_) (fun c => absurd (jeq c rfl jz_60) (by omega))
        have kc76 := jne c76 rfl jz_60
        refine lv_iload_n hx hb dX12_compared_66 rfl (lv_at hl 1 rfl) ?_
        refine lv_bipush (v := 61) hx hb dX12_compared_67 (by decide) ?_
        refine lv_icmp_ne (tgt := 80) hx hb dX12_compared_69 (by decide) (fun c => absurd (jne c rfl jz_61) (by omega)) (fun c77 => ?_)
        have kc77 := jeq c77 rfl jz_61
        refine lv_iload_n hx hb dX12_compared_72 rfl (lv_at hl 2 rfl) ?_
        refine lv_iload_n hx hb dX12_compared_73 rfl (lv_at hl 0 rfl) ?_
        refine lv_icmp_ne (tgt := 89) hx hb dX12_compared_74 (by decide) (fun c78 => ?_) (fun c78 => ?_)
        · have kc78 := jne c78 rfl rfl
          refine lv_iconst (v := 0) hx hb dX12_compared_89 (by decide) ?_
          exact hret 0 σ62 τ _ _ _ _ rfl ⟨rfl, (fun i hi => ((f64 i hi).trans ((jnp i eσ55 (imp_164 i hi)).trans (f8 i hi)))), (fun i hi => ((f65 i hi).trans ((jkp i eσ55 (imp_170 i hi)).trans (f9 i hi)))), I66, (by omega), (by omega), trivial⟩ hP hS dX12_compared_90
        · have kc78 := jeq c78 rfl rfl
          refine lv_goto (tgt := 85) hx hb dX12_compared_77 (by decide) ?_
          refine lv_iconst (v := 1) hx hb dX12_compared_85 (by decide) ?_
          refine lv_goto (tgt := 90) hx hb dX12_compared_86 (by decide) ?_
          exact hret 1 σ62 τ _ _ _ _ rfl ⟨rfl, (fun i hi => ((f64 i hi).trans ((jnp i eσ55 (imp_164 i hi)).trans (f8 i hi)))), (fun i hi => ((f65 i hi).trans ((jkp i eσ55 (imp_170 i hi)).trans (f9 i hi)))), I66, (by omega), (by omega), trivial⟩ hP hS dX12_compared_90
      · have kc52 := jne c52 rfl jz_61
        refine lv_iload_n hx hb dX12_compared_29 rfl (lv_at hl 0 rfl) ?_
        refine lv_bipush (v := 62) hx hb dX12_compared_30 (by decide) ?_
        refine lv_icmp_eq (tgt := 37) hx hb dX12_compared_32 (by decide) (fun c79 => ?_) (fun c79 => ?_)
        · have kc79 := jeq c79 rfl jz_62
          refine lv_aload_n hx hb dX12_compared_37 rfl (lv_at hl 2 rfl) ?_
          refine lv_dup hx hb dX12_compared_38 rfl ?_
          refine va_get (D := D) hx hb hts inlX12 hown hK hP 55 (jc_55 cI cL ad σ6 τ) rfl 19 (by decide) (hts _ kw_15_11) (fun _ h9 => h9) rfl dX12_compared_39 ?_
          refine lv_iconst (v := 1) hx hb dX12_compared_42 (by decide) ?_
          have g80 := jrg (rfl : (σ6 55 19).toInt = (σ6 55 19).toInt)
          refine lv_iadd hx hb dX12_compared_43 ?_
          refine lv_topi (fun x81 ex81 => ?_)
          have tx81 : x81.toInt = (σ6 55 19).toInt + 1 := (jadd ex81 rfl jz_1 (by omega) (by omega)).trans (by omega)
          refine jput (ty := .int) hx hb hts inlX12 tyX12 tyX12_ok nmX12 hown hK hP hJ hA hS (jc_55 cI cL ad σ6 τ) rfl (k := 19) (by decide) (Nat.le_of_ble_eq_true rfl) (jp_55_19 cI cL ad σ6 τ x81) (hts _ kw_15_11) (fun _ h9 => h9) rfl (by decide +kernel) rfl rfl dX12_compared_44 (fun σ82 H locs eσ82 hP hS => ?_)
          refine lv_aload_n hx hb dX12_compared_47 rfl (lv_at hl 2 rfl) ?_
          have z83 : (σ82 55 18).toInt = (σ 55 18).toInt := (congrArg Int32.toInt (show σ82 55 18 = (σ 55 18) from ((jkp 18 eσ82 (by decide)).trans (f9 18 (by decide)))))
          have z84 : (σ82 55 19).toInt = (σ6 55 19).toInt + 1 := ((congrArg Int32.toInt (show σ82 55 19 = x81 from (jsp eσ82))).trans tx81)
          have z85 : (σ82 55 20).toInt = (σ 55 20).toInt := (congrArg Int32.toInt (show σ82 55 20 = (σ 55 20) from ((jkp 20 eσ82 (by decide)).trans (f9 20 (by decide)))))
          have z86 : (σ82 55 21).toInt = (σ6 55 21).toInt := (congrArg Int32.toInt (show σ82 55 21 = (σ6 55 21) from (jkp 21 eσ82 (by decide))))
          have I87 : jI121 σ82 := ⟨(by omega), (by omega), (by omega), (by omega), (by omega)⟩
          have z88 : (σ82 55 22).toInt = (σ6 55 22).toInt := (congrArg Int32.toInt (show σ82 55 22 = (σ6 55 22) from (jkp 22 eσ82 (by decide))))
          refine jcallV (As := []) (rest := []) ⟨hx, hb, hml, hown, hts⟩ hK hP hA hS hZ (h_sums σ82 τ I87 (by omega) (by omega) (by omega)) cw_RX12_202 (jc_55 cI cL ad σ82 τ) rfl ⟨by dsimp only; omega, by dsimp only; omega⟩ rfl rfl rfl hl.1 rfl (Nat.le_of_ble_eq_true rfl) dX12_compared_48 ⟨Nat.zero_le _, Nat.zero_le _⟩ (fun r90 σ89 τ89 H locs h89 hP hS => ?_)
          obtain ⟨rfl, f91, f92, I93, h89⟩ := h89
          obtain ⟨i94, i95, i96, i97, i98⟩ : ((-1) ≤ (σ89 55 18).toInt ∧ (σ89 55 18).toInt ≤ 80) ∧ (0 ≤ (σ89 55 19).toInt) ∧ ((σ89 55 19).toInt ≤ (σ89 55 20).toInt) ∧ ((σ89 55 20).toInt ≤ 80) ∧ ((-1) ≤ (σ89 55 21).toInt) := id I93
          have z99 : (σ89 55 18).toInt = (σ 55 18).toInt := (congrArg Int32.toInt (show σ89 55 18 = (σ 55 18) from ((f92 18 (by decide)).trans ((jkp 18 eσ82 (by decide)).trans (f9 18 (by decide))))))
          have z100 : (σ89 55 20).toInt = (σ 55 20).toInt := (congrArg Int32.toInt (show σ89 55 20 = (σ 55 20) from ((f92 20 (by decide)).trans ((jkp 20 eσ82 (by decide)).trans (f9 20 (by decide))))))
          obtain ⟨k101, k102, h89⟩ := h89
          refine lv_istore_n (lv' := [(3, .int r90), (2, .int r21), (1, .int r7), (0, .ref (ad 55))]) hx hb dX12_compared_51 rfl hl (by decide) rfl (fun ls hl => ?_)
          refine lv_iload_n hx hb dX12_compared_52 rfl (lv_at hl 1 rfl) ?_
          refine lv_bipush (v := 60) hx hb dX12_compared_53 (by decide) ?_
          refine lv_icmp_ne (tgt := 66) hx hb dX12_compared_55 (by decide) (fun c103 => ?_) (fun c => absurd (jeq c rfl jz_60) (by omega))
          have kc103 := jne c103 rfl jz_60
          refine lv_iload_n hx hb dX12_compared_66 rfl (lv_at hl 1 rfl) ?_
          refine lv_bipush (v := 61) hx hb dX12_compared_67 (by decide) ?_
          refine lv_icmp_ne (tgt := 80) hx hb dX12_compared_69 (by decide) (fun c104 => ?_) (fun c => absurd (jeq c rfl jz_61) (by omega))
          have kc104 := jne c104 rfl jz_61
          refine lv_iload_n hx hb dX12_compared_80 rfl (lv_at hl 2 rfl) ?_
          refine lv_iload_n hx hb dX12_compared_81 rfl (lv_at hl 0 rfl) ?_
          refine lv_icmp_le (tgt := 89) hx hb dX12_compared_82 (by decide) (fun c105 => ?_) (fun c105 => ?_)
          · have kc105 := jle c105 rfl rfl
            refine lv_iconst (v := 0) hx hb dX12_compared_89 (by decide) ?_
            exact hret 0 σ89 τ _ _ _ _ rfl ⟨rfl, (fun i hi => ((f91 i hi).trans ((jnp i eσ82 (imp_164 i hi)).trans (f8 i hi)))), (fun i hi => ((f92 i hi).trans ((jkp i eσ82 (imp_170 i hi)).trans (f9 i hi)))), I93, (by omega), (by omega), trivial⟩ hP hS dX12_compared_90
          · have kc105 := jnle c105 rfl rfl
            refine lv_iconst (v := 1) hx hb dX12_compared_85 (by decide) ?_
            refine lv_goto (tgt := 90) hx hb dX12_compared_86 (by decide) ?_
            exact hret 1 σ89 τ _ _ _ _ rfl ⟨rfl, (fun i hi => ((f91 i hi).trans ((jnp i eσ82 (imp_164 i hi)).trans (f8 i hi)))), (fun i hi => ((f92 i hi).trans ((jkp i eσ82 (imp_170 i hi)).trans (f9 i hi)))), I93, (by omega), (by omega), trivial⟩ hP hS dX12_compared_90
        · have kc79 := jne c79 rfl jz_62
          refine lv_iload_n hx hb dX12_compared_35 rfl (lv_at hl 1 rfl) ?_
          exact hret r7 σ6 τ _ _ _ _ rfl ⟨rfl, (fun i hi => (f8 i hi)), (fun i hi => (f9 i hi)), I10, (by omega), (by omega), trivial⟩ hP hS dX12_compared_36
set_option maxHeartbeats 4000000 in
set_option maxRecDepth 100000 in
theorem c_X12_grammar_both_g (l : Launch) (D : va_G) (cI cL : ClassId) (ad zz : Nat → Nat) (hJ : jD ad) (n : Nat) (h_compared : ∀ (σ : Nat → Nat → Int32) (τ : Nat → Nat → Int64) (hI121 : jI121 σ) (hp0 : (σ 55 21).toInt = (-1)) (hp1 : 0 ≤ (σ 55 22).toInt ∧ (σ 55 22).toInt ≤ 6) (hp2 : -(σ 55 22).toInt + 6 ≤ (((n) : Nat) : Int)), jM l yX12_compared cX12_compared 4 (some .int) ({ frames := (13 + 8 * (n)), cells := 0, slots := 0, locals := (520 + 360 * (n)) }) D cI cL ad zz [.ref (ad 55)] σ τ (fun r σ' τ' => τ = τ' ∧ (∀ i : Nat, (i < 55 ∨ 55 < i) → σ' i = σ i) ∧ (∀ k : Nat, (k < 19 ∨ 19 < k) ∧ (k < 21 ∨ 21 < k) ∧ (k < 22 ∨ 22 < k) → σ' 55 k = σ 55 k) ∧ (jI121 σ') ∧ (((σ' 55 21).toInt = (-1) ∧ (σ' 55 22).toInt = (σ 55 22).toInt) ∨ (0 ≤ (σ' 55 21).toInt)) ∧ ((σ 55 19).toInt ≤ (σ' 55 19).toInt) ∧ True)) (σ : Nat → Nat → Int32) (τ : Nat → Nat → Int64) (hI121 : jI121 σ) (hp0 : (σ 55 21).toInt = (-1)) (hp1 : 0 ≤ (σ 55 22).toInt ∧ (σ 55 22).toInt ≤ 6) (hp2 : -(σ 55 22).toInt + 6 ≤ (((n) : Nat) : Int)) : jM l yX12_both cX12_both 3 (some .int) ({ frames := (14 + 8 * (n)), cells := 0, slots := 0, locals := (560 + 360 * (n)) }) D cI cL ad zz [.ref (ad 55)] σ τ (fun r σ' τ' => τ = τ' ∧ (∀ i : Nat, (i < 55 ∨ 55 < i) → σ' i = σ i) ∧ (∀ k : Nat, (k < 19 ∨ 19 < k) ∧ (k < 21 ∨ 21 < k) ∧ (k < 22 ∨ 22 < k) → σ' 55 k = σ 55 k) ∧ (jI121 σ') ∧ (((σ' 55 21).toInt = (-1) ∧ (σ' 55 22).toInt = (σ 55 22).toInt) ∨ (0 ≤ (σ' 55 21).toInt)) ∧ ((σ 55 19).toInt ≤ (σ' 55 19).toInt) ∧ True) := by
  refine jM.of hJ (by decide +kernel) (nt := .int) rfl (Nat.le_of_ble_eq_true rfl) ?_
  intro p e s m args below meth c Q ls hC hret hl hP
  obtain ⟨hx, hb, hr, hml, hown, hts, hK, -, hlocks, hZ⟩ := hC
  have hown : s.vm.findClass RX12 = some m.cls := hown
  have hS : va_S (jA ad) s.heap s.heap [] := va_S.rf
  have hA : ∀ q, jA ad q → jA ad q := fun _ h => h
  have hl : lv_has ls 3 [(0, .ref (ad 55))] := hl
  obtain ⟨i1, i2, i3, i4, i5⟩ : ((-1) ≤ (σ 55 18).toInt ∧ (σ 55 18).toInt ≤ 80) ∧ (0 ≤ (σ 55 19).toInt) ∧ ((σ 55 19).toInt ≤ (σ 55 20).toInt) ∧ ((σ 55 20).toInt ≤ 80) ∧ ((-1) ≤ (σ 55 21).toInt) := id hI121
  refine lv_aload_n hx hb dX12_both_0 rfl (lv_at hl 0 rfl) ?_
  refine jcallV (As := []) (rest := []) ⟨hx, hb, hml, hown, hts⟩ hK hP hA hS hZ (h_compared σ τ hI121 (by omega) (by omega) (by omega)) cw_RX12_199 (jc_55 cI cL ad σ τ) rfl ⟨by dsimp only; omega, by dsimp only; omega⟩ rfl rfl rfl hl.1 rfl (Nat.le_of_ble_eq_true rfl) dX12_both_1 ⟨Nat.zero_le _, Nat.zero_le _⟩ (fun r7 σ6 τ6 H locs h6 hP hS => ?_)
  obtain ⟨rfl, f8, f9, I10, h6⟩ := h6
  obtain ⟨i11, i12, i13, i14, i15⟩ : ((-1) ≤ (σ6 55 18).toInt ∧ (σ6 55 18).toInt ≤ 80) ∧ (0 ≤ (σ6 55 19).toInt) ∧ ((σ6 55 19).toInt ≤ (σ6 55 20).toInt) ∧ ((σ6 55 20).toInt ≤ 80) ∧ ((-1) ≤ (σ6 55 21).toInt) := id I10
  have z16 : (σ6 55 18).toInt = (σ 55 18).toInt := (congrArg Int32.toInt (show σ6 55 18 = (σ 55 18) from (f9 18 (by decide))))
  have z17 : (σ6 55 20).toInt = (σ 55 20).toInt := (congrArg Int32.toInt (show σ6 55 20 = (σ 55 20) from (f9 20 (by decide))))
  obtain ⟨k18, k19, h6⟩ := h6
  refine lv_istore_n (lv' := [(1, .int r7), (0, .ref (ad 55))]) hx hb dX12_both_4 rfl hl (by decide) rfl (fun ls hl => ?_)
  have lp20 : ∀ (n21 : Nat) (x22 : Int32) (σ24 : Nat → Nat → Int32) (H : Heap) (locs : List Loc) (ls : Array Slot), ((σ24 55 20).toInt - (σ24 55 19).toInt : Int) < n21 → (-1) ≤ (σ24 55 18).toInt ∧ (σ24 55 18).toInt ≤ 80 → 0 ≤ (σ24 55 19).toInt → (σ24 55 19).toInt ≤ (σ24 55 20).toInt → (σ24 55 20).toInt ≤ 80 → (-1) ≤ (σ24 55 21).toInt → (((σ24 55 21).toInt = (-1) ∧ (σ24 55 22).toInt = (σ 55 22).toInt) ∨ (0 ≤ (σ24 55 21).toInt)) → (σ 55 19).toInt ≤ (σ24 55 19).toInt → (∀ i : Nat, (i < 55 ∨ 55 < i) → σ24 i = σ6 i) → (∀ k : Nat, (k < 19 ∨ 19 < k) ∧ (k < 21 ∨ 21 < k) ∧ (k < 22 ∨ 22 < k) → σ24 55 k = σ6 55 k) → jH D cI cL ad σ24 τ H → va_S (jA ad) s.heap H locs → lv_has ls 3 [(1, .int x22), (0, .ref (ad 55))] → W p l e ({ frames := (14 + 8 * (n)), cells := 0, slots := 0, locals := (560 + 360 * (n)) }) s m args below meth c H locs 0 0 Q (F0 m 5 ls []) := by
    intro n21
    induction n21 with
    | zero => intro x22 σ24 H locs ls h25 h26 h27 h28 h29 h30 h31 h32; have gx22 := jrg (rfl : x22.toInt = x22.toInt); exact absurd h25 (by omega)
    | succ n21 ihlp20 =>
      intro x22 σ24 H locs ls h25 h26 h27 h28 h29 h30 h31 h32 f33 f34 hP hS hl
      have gx22 := jrg (rfl : x22.toInt = x22.toInt)
      have z35 : (σ24 55 20).toInt = (σ 55 20).toInt := (congrArg Int32.toInt (show σ24 55 20 = (σ 55 20) from ((f34 20 (by decide)).trans (f9 20 (by decide)))))
      have z36 : (σ24 55 18).toInt = (σ 55 18).toInt := (congrArg Int32.toInt (show σ24 55 18 = (σ 55 18) from ((f34 18 (by decide)).trans (f9 18 (by decide)))))
      refine lv_aload_n hx hb dX12_both_5 rfl (lv_at hl 1 rfl) ?_
      refine lv_bipush (v := 38) hx hb dX12_both_6 (by decide) ?_
      have I37 : jI121 σ24 := ⟨(by omega), (by omega), (by omega), (by omega), (by omega)⟩
      refine jcallV (As := [.int 38]) (rest := []) ⟨hx, hb, hml, hown, hts⟩ hK hP hA hS hZ (c_X12_takes l D cI cL ad zz hJ σ24 τ 38 (38) jz_38 I37 (by omega)) cw_RX12_196 (jc_55 cI cL ad σ24 τ) rfl ⟨by dsimp only; omega, by dsimp only; omega⟩ rfl rfl rfl hl.1 rfl (Nat.le_of_ble_eq_true rfl) dX12_both_8 ⟨Nat.zero_le _, Nat.zero_le _⟩ (fun r39 σ38 τ38 H locs h38 hP hS => ?_)
      obtain ⟨rfl, f40, f41, I42, h38⟩ := h38
      obtain ⟨i43, i44, i45, i46, i47⟩ : ((-1) ≤ (σ38 55 18).toInt ∧ (σ38 55 18).toInt ≤ 80) ∧ (0 ≤ (σ38 55 19).toInt) ∧ ((σ38 55 19).toInt ≤ (σ38 55 20).toInt) ∧ ((σ38 55 20).toInt ≤ 80) ∧ ((-1) ≤ (σ38 55 21).toInt) := id I42
      have z48 : (σ38 55 18).toInt = (σ 55 18).toInt := (congrArg Int32.toInt (show σ38 55 18 = (σ 55 18) from ((f41 18 (by decide)).trans ((f34 18 (by decide)).trans (f9 18 (by decide))))))
      have z49 : (σ38 55 20).toInt = (σ 55 20).toInt := (congrArg Int32.toInt (show σ38 55 20 = (σ 55 20) from ((f41 20 (by decide)).trans ((f34 20 (by decide)).trans (f9 20 (by decide))))))
      have z50 : (σ38 55 21).toInt = (σ24 55 21).toInt := (congrArg Int32.toInt (show σ38 55 21 = (σ24 55 21) from (f41 21 (by decide))))
      rcases h38 with h51 | h52
      · obtain ⟨q55, k53, k54⟩ := h51
        have q55 := q55.symm
        subst q55
        refine lv_if_eq (tgt := 36) hx hb dX12_both_11 (by decide) (fun c => absurd c (by decide)) (fun _ => ?_)
        refine lv_aload_n hx hb dX12_both_14 rfl (lv_at hl 1 rfl) ?_
        have z56 : (σ38 55 22).toInt = (σ24 55 22).toInt := (congrArg Int32.toInt (show σ38 55 22 = (σ24 55 22) from (f41 22 (by decide))))
        refine jcallV (As := []) (rest := []) ⟨hx, hb, hml, hown, hts⟩ hK hP hA hS hZ (h_compared σ38 τ I42 (by omega) (by omega) (by omega)) cw_RX12_199 (jc_55 cI cL ad σ38 τ) rfl ⟨by dsimp only; omega, by dsimp only; omega⟩ rfl rfl rfl hl.1 rfl (Nat.le_of_ble_eq_true rfl) dX12_both_15 ⟨Nat.zero_le _, Nat.zero_le _⟩ (fun r58 σ57 τ57 H locs h57 hP hS => ?_)
        obtain ⟨rfl, f59, f60, I61, h57⟩ := h57
        obtain ⟨i62, i63, i64, i65, i66⟩ : ((-1) ≤ (σ57 55 18).toInt ∧ (σ57 55 18).toInt ≤ 80) ∧ (0 ≤ (σ57 55 19).toInt) ∧ ((σ57 55 19).toInt ≤ (σ57 55 20).toInt) ∧ ((σ57 55 20).toInt ≤ 80) ∧ ((-1) ≤ (σ57 55 21).toInt) := id I61
        have z67 : (σ57 55 18).toInt = (σ 55 18).toInt := (congrArg Int32.toInt (show σ57 55 18 = (σ 55 18) from ((f60 18 (by decide)).trans ((f41 18 (by decide)).trans ((f34 18 (by decide)).trans (f9 18 (by decide)))))))
        have z68 : (σ57 55 20).toInt = (σ 55 20).toInt := (congrArg Int32.toInt (show σ57 55 20 = (σ 55 20) from ((f60 20 (by decide)).trans ((f41 20 (by decide)).trans ((f34 20 (by decide)).trans (f9 20 (by decide)))))))
        obtain ⟨k69, k70, h57⟩ := h57
        refine lv_istore_n (lv' := [(2, .int r58), (1, .int x22), (0, .ref (ad 55))]) hx hb dX12_both_18 rfl hl (by decide) rfl (fun ls hl => ?_)
        refine lv_iload_n hx hb dX12_both_19 rfl (lv_at hl 1 rfl) ?_
        refine lv_if_eq (tgt := 31) hx hb dX12_both_20 (by decide) (fun c71 => ?_) (fun c71 => ?_)
        · have kc71 := jeq c71 rfl jz_0
          refine lv_iconst (v := 0) hx hb dX12_both_31 (by decide) ?_
          refine lv_istore_n (lv' := [(1, .int 0), (2, .int r58), (0, .ref (ad 55))]) hx hb dX12_both_32 rfl hl (by decide) rfl (fun ls hl => ?_)
          refine lv_goto (tgt := 5) hx hb dX12_both_33 (by decide) ?_
          exact ihlp20 0 σ57 _ _ ls (by have h90 := jz_0; omega) (by have h90 := jz_0; omega) (by have h90 := jz_0; omega) (by have h90 := jz_0; omega) (by have h90 := jz_0; omega) (by have h90 := jz_0; omega) (by have h90 := jz_0; omega) (by have h90 := jz_0; omega) (fun i hi => ((f59 i hi).trans ((f40 i hi).trans (f33 i hi)))) (fun i hi => ((f60 i hi).trans ((f41 i (imp_172 i hi)).trans (f34 i hi))))   hP hS (lv_sub hl [0, 2] rfl)
        · have kc71 := jne c71 rfl jz_0
          refine lv_iload_n hx hb dX12_both_23 rfl (lv_at hl 0 rfl) ?_
          refine lv_if_eq (tgt := 31) hx hb dX12_both_24 (by decide) (fun c72 => ?_) (fun c72 => ?_)
          · have kc72 := jeq c72 rfl jz_0
            refine lv_iconst (v := 0) hx hb dX12_both_31 (by decide) ?_
            refine lv_istore_n (lv' := [(1, .int 0), (2, .int r58), (0, .ref (ad 55))]) hx hb dX12_both_32 rfl hl (by decide) rfl (fun ls hl => ?_)
            refine lv_goto (tgt := 5) hx hb dX12_both_33 (by decide) ?_
            exact ihlp20 0 σ57 _ _ ls (by have h90 := jz_0; omega) (by have h90 := jz_0; omega) (by have h90 := jz_0; omega) (by have h90 := jz_0; omega) (by have h90 := jz_0; omega) (by have h90 := jz_0; omega) (by have h90 := jz_0; omega) (by have h90 := jz_0; omega) (fun i hi => ((f59 i hi).trans ((f40 i hi).trans (f33 i hi)))) (fun i hi => ((f60 i hi).trans ((f41 i (imp_172 i hi)).trans (f34 i hi))))   hP hS (lv_sub hl [0, 2] rfl)
          · have kc72 := jne c72 rfl jz_0
            refine lv_iconst (v := 1) hx hb dX12_both_27 (by decide) ?_
            refine lv_goto (tgt := 32) hx hb dX12_both_28 (by decide) ?_
            refine lv_istore_n (lv' := [(1, .int 1), (2, .int r58), (0, .ref (ad 55))]) hx hb dX12_both_32 rfl hl (by decide) rfl (fun ls hl => ?_)
            refine lv_goto (tgt := 5) hx hb dX12_both_33 (by decide) ?_
            exact ihlp20 1 σ57 _ _ ls (by have h90 := jz_1; omega) (by have h90 := jz_1; omega) (by have h90 := jz_1; omega) (by have h90 := jz_1; omega) (by have h90 := jz_1; omega) (by have h90 := jz_1; omega) (by have h90 := jz_1; omega) (by have h90 := jz_1; omega) (fun i hi => ((f59 i hi).trans ((f40 i hi).trans (f33 i hi)))) (fun i hi => ((f60 i hi).trans ((f41 i (imp_172 i hi)).trans (f34 i hi))))   hP hS (lv_sub hl [0, 2] rfl)
      · obtain ⟨q74, k73⟩ := h52
        have q74 := q74.symm
        subst q74
        refine lv_if_eq (tgt := 36) hx hb dX12_both_11 (by decide) (fun _ => ?_) (fun c => absurd (by decide) c)
        refine lv_iload_n hx hb dX12_both_36 rfl (lv_at hl 0 rfl) ?_
        have z75 : (σ38 55 22).toInt = (σ24 55 22).toInt := (congrArg Int32.toInt (show σ38 55 22 = (σ24 55 22) from (f41 22 (by decide))))
        exact hret x22 σ38 τ _ _ _ _ rfl ⟨rfl, (fun i hi => ((f40 i hi).trans ((f33 i hi).trans (f8 i hi)))), (fun i hi => ((f41 i (imp_172 i hi)).trans ((f34 i hi).trans (f9 i hi)))), I42, (by omega), (by omega), trivial⟩ hP hS dX12_both_37
  exact lp20 1000000 r7 σ6 _ _ ls (by omega) (by omega) (by omega) (by omega) (by omega) (by omega) (by omega) (by omega) (fun _ _ => rfl) (fun _ _ => rfl)   hP hS hl
set_option maxHeartbeats 4000000 in
set_option maxRecDepth 100000 in
theorem c_X12_grammar_either_g (l : Launch) (D : va_G) (cI cL : ClassId) (ad zz : Nat → Nat) (hJ : jD ad) (n : Nat) (h_both : ∀ (σ : Nat → Nat → Int32) (τ : Nat → Nat → Int64) (hI121 : jI121 σ) (hp0 : (σ 55 21).toInt = (-1)) (hp1 : 0 ≤ (σ 55 22).toInt ∧ (σ 55 22).toInt ≤ 6) (hp2 : -(σ 55 22).toInt + 6 ≤ (((n) : Nat) : Int)), jM l yX12_both cX12_both 3 (some .int) ({ frames := (14 + 8 * (n)), cells := 0, slots := 0, locals := (560 + 360 * (n)) }) D cI cL ad zz [.ref (ad 55)] σ τ (fun r σ' τ' => τ = τ' ∧ (∀ i : Nat, (i < 55 ∨ 55 < i) → σ' i = σ i) ∧ (∀ k : Nat, (k < 19 ∨ 19 < k) ∧ (k < 21 ∨ 21 < k) ∧ (k < 22 ∨ 22 < k) → σ' 55 k = σ 55 k) ∧ (jI121 σ') ∧ (((σ' 55 21).toInt = (-1) ∧ (σ' 55 22).toInt = (σ 55 22).toInt) ∨ (0 ≤ (σ' 55 21).toInt)) ∧ ((σ 55 19).toInt ≤ (σ' 55 19).toInt) ∧ True)) (σ : Nat → Nat → Int32) (τ : Nat → Nat → Int64) (hI121 : jI121 σ) (hp0 : (σ 55 21).toInt = (-1)) (hp1 : 0 ≤ (σ 55 22).toInt ∧ (σ 55 22).toInt ≤ 6) (hp2 : -(σ 55 22).toInt + 6 ≤ (((n) : Nat) : Int)) : jM l yX12_either cX12_either 3 (some .int) ({ frames := (15 + 8 * (n)), cells := 0, slots := 0, locals := (600 + 360 * (n)) }) D cI cL ad zz [.ref (ad 55)] σ τ (fun r σ' τ' => τ = τ' ∧ (∀ i : Nat, (i < 55 ∨ 55 < i) → σ' i = σ i) ∧ (∀ k : Nat, (k < 19 ∨ 19 < k) ∧ (k < 21 ∨ 21 < k) ∧ (k < 22 ∨ 22 < k) → σ' 55 k = σ 55 k) ∧ (jI121 σ') ∧ (((σ' 55 21).toInt = (-1) ∧ (σ' 55 22).toInt = (σ 55 22).toInt) ∨ (0 ≤ (σ' 55 21).toInt)) ∧ ((σ 55 19).toInt ≤ (σ' 55 19).toInt) ∧ True) := by
  refine jM.of hJ (by decide +kernel) (nt := .int) rfl (Nat.le_of_ble_eq_true rfl) ?_
  intro p e s m args below meth c Q ls hC hret hl hP
  obtain ⟨hx, hb, hr, hml, hown, hts, hK, -, hlocks, hZ⟩ := hC
  have hown : s.vm.findClass RX12 = some m.cls := hown
  have hS : va_S (jA ad) s.heap s.heap [] := va_S.rf
  have hA : ∀ q, jA ad q → jA ad q := fun _ h => h
  have hl : lv_has ls 3 [(0, .ref (ad 55))] := hl
  obtain ⟨i1, i2, i3, i4, i5⟩ : ((-1) ≤ (σ 55 18).toInt ∧ (σ 55 18).toInt ≤ 80) ∧ (0 ≤ (σ 55 19).toInt) ∧ ((σ 55 19).toInt ≤ (σ 55 20).toInt) ∧ ((σ 55 20).toInt ≤ 80) ∧ ((-1) ≤ (σ 55 21).toInt) := id hI121
  refine lv_aload_n hx hb dX12_either_0 rfl (lv_at hl 0 rfl) ?_
  refine jcallV (As := []) (rest := []) ⟨hx, hb, hml, hown, hts⟩ hK hP hA hS hZ (h_both σ τ hI121 (by omega) (by omega) (by omega)) cw_RX12_193 (jc_55 cI cL ad σ τ) rfl ⟨by dsimp only; omega, by dsimp only; omega⟩ rfl rfl rfl hl.1 rfl (Nat.le_of_ble_eq_true rfl) dX12_either_1 ⟨Nat.zero_le _, Nat.zero_le _⟩ (fun r7 σ6 τ6 H locs h6 hP hS => ?_)
  obtain ⟨rfl, f8, f9, I10, h6⟩ := h6
  obtain ⟨i11, i12, i13, i14, i15⟩ : ((-1) ≤ (σ6 55 18).toInt ∧ (σ6 55 18).toInt ≤ 80) ∧ (0 ≤ (σ6 55 19).toInt) ∧ ((σ6 55 19).toInt ≤ (σ6 55 20).toInt) ∧ ((σ6 55 20).toInt ≤ 80) ∧ ((-1) ≤ (σ6 55 21).toInt) := id I10
  have z16 : (σ6 55 18).toInt = (σ 55 18).toInt := (congrArg Int32.toInt (show σ6 55 18 = (σ 55 18) from (f9 18 (by decide))))
  have z17 : (σ6 55 20).toInt = (σ 55 20).toInt := (congrArg Int32.toInt (show σ6 55 20 = (σ 55 20) from (f9 20 (by decide))))
  obtain ⟨k18, k19, h6⟩ := h6
  refine lv_istore_n (lv' := [(1, .int r7), (0, .ref (ad 55))]) hx hb dX12_either_4 rfl hl (by decide) rfl (fun ls hl => ?_)
  have lp20 : ∀ (n21 : Nat) (x22 : Int32) (σ24 : Nat → Nat → Int32) (H : Heap) (locs : List Loc) (ls : Array Slot), ((σ24 55 20).toInt - (σ24 55 19).toInt : Int) < n21 → (-1) ≤ (σ24 55 18).toInt ∧ (σ24 55 18).toInt ≤ 80 → 0 ≤ (σ24 55 19).toInt → (σ24 55 19).toInt ≤ (σ24 55 20).toInt → (σ24 55 20).toInt ≤ 80 → (-1) ≤ (σ24 55 21).toInt → (((σ24 55 21).toInt = (-1) ∧ (σ24 55 22).toInt = (σ 55 22).toInt) ∨ (0 ≤ (σ24 55 21).toInt)) → (σ 55 19).toInt ≤ (σ24 55 19).toInt → (∀ i : Nat, (i < 55 ∨ 55 < i) → σ24 i = σ6 i) → (∀ k : Nat, (k < 19 ∨ 19 < k) ∧ (k < 21 ∨ 21 < k) ∧ (k < 22 ∨ 22 < k) → σ24 55 k = σ6 55 k) → jH D cI cL ad σ24 τ H → va_S (jA ad) s.heap H locs → lv_has ls 3 [(1, .int x22), (0, .ref (ad 55))] → W p l e ({ frames := (15 + 8 * (n)), cells := 0, slots := 0, locals := (600 + 360 * (n)) }) s m args below meth c H locs 0 0 Q (F0 m 5 ls []) := by
    intro n21
    induction n21 with
    | zero => intro x22 σ24 H locs ls h25 h26 h27 h28 h29 h30 h31 h32; have gx22 := jrg (rfl : x22.toInt = x22.toInt); exact absurd h25 (by omega)
    | succ n21 ihlp20 =>
      intro x22 σ24 H locs ls h25 h26 h27 h28 h29 h30 h31 h32 f33 f34 hP hS hl
      have gx22 := jrg (rfl : x22.toInt = x22.toInt)
      have z35 : (σ24 55 20).toInt = (σ 55 20).toInt := (congrArg Int32.toInt (show σ24 55 20 = (σ 55 20) from ((f34 20 (by decide)).trans (f9 20 (by decide)))))
      have z36 : (σ24 55 18).toInt = (σ 55 18).toInt := (congrArg Int32.toInt (show σ24 55 18 = (σ 55 18) from ((f34 18 (by decide)).trans (f9 18 (by decide)))))
      refine lv_aload_n hx hb dX12_either_5 rfl (lv_at hl 1 rfl) ?_
      refine lv_bipush (v := 124) hx hb dX12_either_6 (by decide) ?_
      have I37 : jI121 σ24 := ⟨(by omega), (by omega), (by omega), (by omega), (by omega)⟩
      refine jcallV (As := [.int 124]) (rest := []) ⟨hx, hb, hml, hown, hts⟩ hK hP hA hS hZ (c_X12_takes l D cI cL ad zz hJ σ24 τ 124 (124) jz_124 I37 (by omega)) cw_RX12_196 (jc_55 cI cL ad σ24 τ) rfl ⟨by dsimp only; omega, by dsimp only; omega⟩ rfl rfl rfl hl.1 rfl (Nat.le_of_ble_eq_true rfl) dX12_either_8 ⟨Nat.zero_le _, Nat.zero_le _⟩ (fun r39 σ38 τ38 H locs h38 hP hS => ?_)
      obtain ⟨rfl, f40, f41, I42, h38⟩ := h38
      obtain ⟨i43, i44, i45, i46, i47⟩ : ((-1) ≤ (σ38 55 18).toInt ∧ (σ38 55 18).toInt ≤ 80) ∧ (0 ≤ (σ38 55 19).toInt) ∧ ((σ38 55 19).toInt ≤ (σ38 55 20).toInt) ∧ ((σ38 55 20).toInt ≤ 80) ∧ ((-1) ≤ (σ38 55 21).toInt) := id I42
      have z48 : (σ38 55 18).toInt = (σ 55 18).toInt := (congrArg Int32.toInt (show σ38 55 18 = (σ 55 18) from ((f41 18 (by decide)).trans ((f34 18 (by decide)).trans (f9 18 (by decide))))))
      have z49 : (σ38 55 20).toInt = (σ 55 20).toInt := (congrArg Int32.toInt (show σ38 55 20 = (σ 55 20) from ((f41 20 (by decide)).trans ((f34 20 (by decide)).trans (f9 20 (by decide))))))
      have z50 : (σ38 55 21).toInt = (σ24 55 21).toInt := (congrArg Int32.toInt (show σ38 55 21 = (σ24 55 21) from (f41 21 (by decide))))
      rcases h38 with h51 | h52
      · obtain ⟨q55, k53, k54⟩ := h51
        have q55 := q55.symm
        subst q55
        refine lv_if_eq (tgt := 36) hx hb dX12_either_11 (by decide) (fun c => absurd c (by decide)) (fun _ => ?_)
        refine lv_aload_n hx hb dX12_either_14 rfl (lv_at hl 1 rfl) ?_
        have z56 : (σ38 55 22).toInt = (σ24 55 22).toInt := (congrArg Int32.toInt (show σ38 55 22 = (σ24 55 22) from (f41 22 (by decide))))
        refine jcallV (As := []) (rest := []) ⟨hx, hb, hml, hown, hts⟩ hK hP hA hS hZ (h_both σ38 τ I42 (by omega) (by omega) (by omega)) cw_RX12_193 (jc_55 cI cL ad σ38 τ) rfl ⟨by dsimp only; omega, by dsimp only; omega⟩ rfl rfl rfl hl.1 rfl (Nat.le_of_ble_eq_true rfl) dX12_either_15 ⟨Nat.zero_le _, Nat.zero_le _⟩ (fun r58 σ57 τ57 H locs h57 hP hS => ?_)
        obtain ⟨rfl, f59, f60, I61, h57⟩ := h57
        obtain ⟨i62, i63, i64, i65, i66⟩ : ((-1) ≤ (σ57 55 18).toInt ∧ (σ57 55 18).toInt ≤ 80) ∧ (0 ≤ (σ57 55 19).toInt) ∧ ((σ57 55 19).toInt ≤ (σ57 55 20).toInt) ∧ ((σ57 55 20).toInt ≤ 80) ∧ ((-1) ≤ (σ57 55 21).toInt) := id I61
        have z67 : (σ57 55 18).toInt = (σ 55 18).toInt := (congrArg Int32.toInt (show σ57 55 18 = (σ 55 18) from ((f60 18 (by decide)).trans ((f41 18 (by decide)).trans ((f34 18 (by decide)).trans (f9 18 (by decide)))))))
        have z68 : (σ57 55 20).toInt = (σ 55 20).toInt := (congrArg Int32.toInt (show σ57 55 20 = (σ 55 20) from ((f60 20 (by decide)).trans ((f41 20 (by decide)).trans ((f34 20 (by decide)).trans (f9 20 (by decide)))))))
        obtain ⟨k69, k70, h57⟩ := h57
        refine lv_istore_n (lv' := [(2, .int r58), (1, .int x22), (0, .ref (ad 55))]) hx hb dX12_either_18 rfl hl (by decide) rfl (fun ls hl => ?_)
        refine lv_iload_n hx hb dX12_either_19 rfl (lv_at hl 1 rfl) ?_
        refine lv_if_ne (tgt := 27) hx hb dX12_either_20 (by decide) (fun c71 => ?_) (fun c71 => ?_)
        · have kc71 := jne c71 rfl jz_0
          refine lv_iconst (v := 1) hx hb dX12_either_27 (by decide) ?_
          refine lv_goto (tgt := 32) hx hb dX12_either_28 (by decide) ?_
          refine lv_istore_n (lv' := [(1, .int 1), (2, .int r58), (0, .ref (ad 55))]) hx hb dX12_either_32 rfl hl (by decide) rfl (fun ls hl => ?_)
          refine lv_goto (tgt := 5) hx hb dX12_either_33 (by decide) ?_
          exact ihlp20 1 σ57 _ _ ls (by have h90 := jz_1; omega) (by have h90 := jz_1; omega) (by have h90 := jz_1; omega) (by have h90 := jz_1; omega) (by have h90 := jz_1; omega) (by have h90 := jz_1; omega) (by have h90 := jz_1; omega) (by have h90 := jz_1; omega) (fun i hi => ((f59 i hi).trans ((f40 i hi).trans (f33 i hi)))) (fun i hi => ((f60 i hi).trans ((f41 i (imp_172 i hi)).trans (f34 i hi))))   hP hS (lv_sub hl [0, 2] rfl)
        · have kc71 := jeq c71 rfl jz_0
          refine lv_iload_n hx hb dX12_either_23 rfl (lv_at hl 0 rfl) ?_
          refine lv_if_eq (tgt := 31) hx hb dX12_either_24 (by decide) (fun c72 => ?_) (fun c72 => ?_)
          · have kc72 := jeq c72 rfl jz_0
            refine lv_iconst (v := 0) hx hb dX12_either_31 (by decide) ?_
            refine lv_istore_n (lv' := [(1, .int 0), (2, .int r58), (0, .ref (ad 55))]) hx hb dX12_either_32 rfl hl (by decide) rfl (fun ls hl => ?_)
            refine lv_goto (tgt := 5) hx hb dX12_either_33 (by decide) ?_
            exact ihlp20 0 σ57 _ _ ls (by have h90 := jz_0; omega) (by have h90 := jz_0; omega) (by have h90 := jz_0; omega) (by have h90 := jz_0; omega) (by have h90 := jz_0; omega) (by have h90 := jz_0; omega) (by have h90 := jz_0; omega) (by have h90 := jz_0; omega) (fun i hi => ((f59 i hi).trans ((f40 i hi).trans (f33 i hi)))) (fun i hi => ((f60 i hi).trans ((f41 i (imp_172 i hi)).trans (f34 i hi))))   hP hS (lv_sub hl [0, 2] rfl)
          · have kc72 := jne c72 rfl jz_0
            refine lv_iconst (v := 1) hx hb dX12_either_27 (by decide) ?_
            refine lv_goto (tgt := 32) hx hb dX12_either_28 (by decide) ?_
            refine lv_istore_n (lv' := [(1, .int 1), (2, .int r58), (0, .ref (ad 55))]) hx hb dX12_either_32 rfl hl (by decide) rfl (fun ls hl => ?_)
            refine lv_goto (tgt := 5) hx hb dX12_either_33 (by decide) ?_
            exact ihlp20 1 σ57 _ _ ls (by have h90 := jz_1; omega) (by have h90 := jz_1; omega) (by have h90 := jz_1; omega) (by have h90 := jz_1; omega) (by have h90 := jz_1; omega) (by have h90 := jz_1; omega) (by have h90 := jz_1; omega) (by have h90 := jz_1; omega) (fun i hi => ((f59 i hi).trans ((f40 i hi).trans (f33 i hi)))) (fun i hi => ((f60 i hi).trans ((f41 i (imp_172 i hi)).trans (f34 i hi))))   hP hS (lv_sub hl [0, 2] rfl)
      · obtain ⟨q74, k73⟩ := h52
        have q74 := q74.symm
        subst q74
        refine lv_if_eq (tgt := 36) hx hb dX12_either_11 (by decide) (fun _ => ?_) (fun c => absurd (by decide) c)
        refine lv_iload_n hx hb dX12_either_36 rfl (lv_at hl 0 rfl) ?_
        have z75 : (σ38 55 22).toInt = (σ24 55 22).toInt := (congrArg Int32.toInt (show σ38 55 22 = (σ24 55 22) from (f41 22 (by decide))))
        exact hret x22 σ38 τ _ _ _ _ rfl ⟨rfl, (fun i hi => ((f40 i hi).trans ((f33 i hi).trans (f8 i hi)))), (fun i hi => ((f41 i (imp_172 i hi)).trans ((f34 i hi).trans (f9 i hi)))), I42, (by omega), (by omega), trivial⟩ hP hS dX12_either_37
  exact lp20 1000000 r7 σ6 _ _ ls (by omega) (by omega) (by omega) (by omega) (by omega) (by omega) (by omega) (by omega) (fun _ _ => rfl) (fun _ _ => rfl)   hP hS hl
set_option maxHeartbeats 4000000 in
set_option maxRecDepth 100000 in
theorem c_X12_grammar (l : Launch) (D : va_G) (cI cL : ClassId) (ad zz : Nat → Nat) (hJ : jD ad) (n : Nat) : (∀ (σ : Nat → Nat → Int32) (τ : Nat → Nat → Int64) (hI121 : jI121 σ) (hp0 : (σ 55 21).toInt = (-1)) (hp1 : 0 ≤ (σ 55 22).toInt ∧ (σ 55 22).toInt ≤ 6) (hp2 : -(σ 55 22).toInt + 6 ≤ (((n) : Nat) : Int)), jM l yX12_one cX12_one 5 (some .int) ({ frames := (10 + 8 * (n)), cells := 0, slots := 0, locals := (400 + 360 * (n)) }) D cI cL ad zz [.ref (ad 55)] σ τ (fun r σ' τ' => τ = τ' ∧ (∀ i : Nat, (i < 55 ∨ 55 < i) → σ' i = σ i) ∧ (∀ k : Nat, (k < 19 ∨ 19 < k) ∧ (k < 21 ∨ 21 < k) ∧ (k < 22 ∨ 22 < k) → σ' 55 k = σ 55 k) ∧ (jI121 σ') ∧ (((σ' 55 21).toInt = (-1) ∧ (σ' 55 22).toInt = (σ 55 22).toInt) ∨ (0 ≤ (σ' 55 21).toInt)) ∧ ((σ 55 19).toInt ≤ (σ' 55 19).toInt) ∧ True)) ∧ (∀ (σ : Nat → Nat → Int32) (τ : Nat → Nat → Int64) (hI121 : jI121 σ) (hp0 : (σ 55 21).toInt = (-1)) (hp1 : 0 ≤ (σ 55 22).toInt ∧ (σ 55 22).toInt ≤ 6) (hp2 : -(σ 55 22).toInt + 6 ≤ (((n) : Nat) : Int)), jM l yX12_product cX12_product 4 (some .int) ({ frames := (11 + 8 * (n)), cells := 0, slots := 0, locals := (440 + 360 * (n)) }) D cI cL ad zz [.ref (ad 55)] σ τ (fun r σ' τ' => τ = τ' ∧ (∀ i : Nat, (i < 55 ∨ 55 < i) → σ' i = σ i) ∧ (∀ k : Nat, (k < 19 ∨ 19 < k) ∧ (k < 21 ∨ 21 < k) ∧ (k < 22 ∨ 22 < k) → σ' 55 k = σ 55 k) ∧ (jI121 σ') ∧ (((σ' 55 21).toInt = (-1) ∧ (σ' 55 22).toInt = (σ 55 22).toInt) ∨ (0 ≤ (σ' 55 21).toInt)) ∧ ((σ 55 19).toInt ≤ (σ' 55 19).toInt) ∧ True)) ∧ (∀ (σ : Nat → Nat → Int32) (τ : Nat → Nat → Int64) (hI121 : jI121 σ) (hp0 : (σ 55 21).toInt = (-1)) (hp1 : 0 ≤ (σ 55 22).toInt ∧ (σ 55 22).toInt ≤ 6) (hp2 : -(σ 55 22).toInt + 6 ≤ (((n) : Nat) : Int)), jM l yX12_sums cX12_sums 4 (some .int) ({ frames := (12 + 8 * (n)), cells := 0, slots := 0, locals := (480 + 360 * (n)) }) D cI cL ad zz [.ref (ad 55)] σ τ (fun r σ' τ' => τ = τ' ∧ (∀ i : Nat, (i < 55 ∨ 55 < i) → σ' i = σ i) ∧ (∀ k : Nat, (k < 19 ∨ 19 < k) ∧ (k < 21 ∨ 21 < k) ∧ (k < 22 ∨ 22 < k) → σ' 55 k = σ 55 k) ∧ (jI121 σ') ∧ (((σ' 55 21).toInt = (-1) ∧ (σ' 55 22).toInt = (σ 55 22).toInt) ∨ (0 ≤ (σ' 55 21).toInt)) ∧ ((σ 55 19).toInt ≤ (σ' 55 19).toInt) ∧ True)) ∧ (∀ (σ : Nat → Nat → Int32) (τ : Nat → Nat → Int64) (hI121 : jI121 σ) (hp0 : (σ 55 21).toInt = (-1)) (hp1 : 0 ≤ (σ 55 22).toInt ∧ (σ 55 22).toInt ≤ 6) (hp2 : -(σ 55 22).toInt + 6 ≤ (((n) : Nat) : Int)), jM l yX12_compared cX12_compared 4 (some .int) ({ frames := (13 + 8 * (n)), cells := 0, slots := 0, locals := (520 + 360 * (n)) }) D cI cL ad zz [.ref (ad 55)] σ τ (fun r σ' τ' => τ = τ' ∧ (∀ i : Nat, (i < 55 ∨ 55 < i) → σ' i = σ i) ∧ (∀ k : Nat, (k < 19 ∨ 19 < k) ∧ (k < 21 ∨ 21 < k) ∧ (k < 22 ∨ 22 < k) → σ' 55 k = σ 55 k) ∧ (jI121 σ') ∧ (((σ' 55 21).toInt = (-1) ∧ (σ' 55 22).toInt = (σ 55 22).toInt) ∨ (0 ≤ (σ' 55 21).toInt)) ∧ ((σ 55 19).toInt ≤ (σ' 55 19).toInt) ∧ True)) ∧ (∀ (σ : Nat → Nat → Int32) (τ : Nat → Nat → Int64) (hI121 : jI121 σ) (hp0 : (σ 55 21).toInt = (-1)) (hp1 : 0 ≤ (σ 55 22).toInt ∧ (σ 55 22).toInt ≤ 6) (hp2 : -(σ 55 22).toInt + 6 ≤ (((n) : Nat) : Int)), jM l yX12_both cX12_both 3 (some .int) ({ frames := (14 + 8 * (n)), cells := 0, slots := 0, locals := (560 + 360 * (n)) }) D cI cL ad zz [.ref (ad 55)] σ τ (fun r σ' τ' => τ = τ' ∧ (∀ i : Nat, (i < 55 ∨ 55 < i) → σ' i = σ i) ∧ (∀ k : Nat, (k < 19 ∨ 19 < k) ∧ (k < 21 ∨ 21 < k) ∧ (k < 22 ∨ 22 < k) → σ' 55 k = σ 55 k) ∧ (jI121 σ') ∧ (((σ' 55 21).toInt = (-1) ∧ (σ' 55 22).toInt = (σ 55 22).toInt) ∨ (0 ≤ (σ' 55 21).toInt)) ∧ ((σ 55 19).toInt ≤ (σ' 55 19).toInt) ∧ True)) ∧ (∀ (σ : Nat → Nat → Int32) (τ : Nat → Nat → Int64) (hI121 : jI121 σ) (hp0 : (σ 55 21).toInt = (-1)) (hp1 : 0 ≤ (σ 55 22).toInt ∧ (σ 55 22).toInt ≤ 6) (hp2 : -(σ 55 22).toInt + 6 ≤ (((n) : Nat) : Int)), jM l yX12_either cX12_either 3 (some .int) ({ frames := (15 + 8 * (n)), cells := 0, slots := 0, locals := (600 + 360 * (n)) }) D cI cL ad zz [.ref (ad 55)] σ τ (fun r σ' τ' => τ = τ' ∧ (∀ i : Nat, (i < 55 ∨ 55 < i) → σ' i = σ i) ∧ (∀ k : Nat, (k < 19 ∨ 19 < k) ∧ (k < 21 ∨ 21 < k) ∧ (k < 22 ∨ 22 < k) → σ' 55 k = σ 55 k) ∧ (jI121 σ') ∧ (((σ' 55 21).toInt = (-1) ∧ (σ' 55 22).toInt = (σ 55 22).toInt) ∨ (0 ≤ (σ' 55 21).toInt)) ∧ ((σ 55 19).toInt ≤ (σ' 55 19).toInt) ∧ True)) := by
  induction n with
  | zero =>
    have h_one := c_X12_grammar_one_z l D cI cL ad zz hJ
    have h_product := c_X12_grammar_product_g l D cI cL ad zz hJ 0 h_one
    have h_sums := c_X12_grammar_sums_g l D cI cL ad zz hJ 0 h_product
    have h_compared := c_X12_grammar_compared_g l D cI cL ad zz hJ 0 h_sums
    have h_both := c_X12_grammar_both_g l D cI cL ad zz hJ 0 h_compared
    have h_either := c_X12_grammar_either_g l D cI cL ad zz hJ 0 h_both
    exact ⟨h_one, h_product, h_sums, h_compared, h_both, h_either⟩
  | succ n ih =>
    obtain ⟨g_one, g_product, g_sums, g_compared, g_both, g_either⟩ := ih
    have h_one := c_X12_grammar_one_g l D cI cL ad zz hJ n g_one g_either
    have h_product := c_X12_grammar_product_g l D cI cL ad zz hJ (n + 1) h_one
    have h_sums := c_X12_grammar_sums_g l D cI cL ad zz hJ (n + 1) h_product
    have h_compared := c_X12_grammar_compared_g l D cI cL ad zz hJ (n + 1) h_sums
    have h_both := c_X12_grammar_both_g l D cI cL ad zz hJ (n + 1) h_compared
    have h_either := c_X12_grammar_either_g l D cI cL ad zz hJ (n + 1) h_both
    exact ⟨h_one, h_product, h_sums, h_compared, h_both, h_either⟩
set_option maxHeartbeats 4000000 in
set_option maxRecDepth 100000 in
theorem c_X12_workOut (l : Launch) (D : va_G) (cI cL : ClassId) (ad zz : Nat → Nat) (hJ : jD ad) (σ : Nat → Nat → Int32) (τ : Nat → Nat → Int64) (a1 : Int32) (A1 : Int) (t1 : a1.toInt = A1) (a2 : Int32) (A2 : Int) (t2 : a2.toInt = A2) (hp0 : (-1) ≤ A1 ∧ A1 ≤ 80) (hp1 : 0 ≤ A2 ∧ A2 ≤ 80) : jM l yX12_workOut cX12_workOut 8 (some .int) ({ frames := 64, cells := 0, slots := 0, locals := 2782 }) D cI cL ad zz [.ref (ad 55), .int a1, .int a2] σ τ (fun r σ' τ' => τ = τ' ∧ (∀ i : Nat, (i < 55 ∨ 55 < i) → σ' i = σ i) ∧ (∀ k : Nat, (k < 18 ∨ 18 < k) ∧ (k < 19 ∨ 19 < k) ∧ (k < 20 ∨ 20 < k) ∧ (k < 21 ∨ 21 < k) ∧ (k < 22 ∨ 22 < k) → σ' 55 k = σ 55 k) ∧ (jI121 σ') ∧ True) := by
  refine jM.of hJ (by decide +kernel) (nt := .int) rfl (Nat.le_of_ble_eq_true rfl) ?_
  intro p e s m args below meth c Q ls hC hret hl hP
  obtain ⟨hx, hb, hr, hml, hown, hts, hK, -, hlocks, hZ⟩ := hC
  have hown : s.vm.findClass RX12 = some m.cls := hown
  have hS : va_S (jA ad) s.heap s.heap [] := va_S.rf
  have hA : ∀ q, jA ad q → jA ad q := fun _ h => h
  have hl : lv_has ls 8 [(0, .ref (ad 55)), (1, .int a1), (2, .int a2)] := hl
  have g1 := jrg t1
  have g2 := jrg t2
  refine lv_aload_n hx hb dX12_workOut_0 rfl (lv_at hl 0 rfl) ?_
  refine lv_iload_n hx hb dX12_workOut_1 rfl (lv_at hl 1 rfl) ?_
  refine jput (ty := .int) hx hb hts inlX12 tyX12 tyX12_ok nmX12 hown hK hP hJ hA hS (jc_55 cI cL ad σ τ) rfl (k := 18) (by decide) (Nat.le_of_ble_eq_true rfl) (jp_55_18 cI cL ad σ τ a1) (hts _ kw_15_10) (fun _ h9 => h9) rfl (by decide +kernel) rfl rfl dX12_workOut_2 (fun σ1 H locs eσ1 hP hS => ?_)
  refine lv_aload_n hx hb dX12_workOut_5 rfl (lv_at hl 0 rfl) ?_
  refine lv_iconst (v := 0) hx hb dX12_workOut_6 (by decide) ?_
  refine jput (ty := .int) hx hb hts inlX12 tyX12 tyX12_ok nmX12 hown hK hP hJ hA hS (jc_55 cI cL ad σ1 τ) rfl (k := 19) (by decide) (Nat.le_of_ble_eq_true rfl) (jp_55_19 cI cL ad σ1 τ 0) (hts _ kw_15_11) (fun _ h9 => h9) rfl (by decide +kernel) rfl rfl dX12_workOut_7 (fun σ2 H locs eσ2 hP hS => ?_)
  refine lv_aload_n hx hb dX12_workOut_10 rfl (lv_at hl 0 rfl) ?_
  refine lv_iload_n hx hb dX12_workOut_11 rfl (lv_at hl 2 rfl) ?_
  refine jput (ty := .int) hx hb hts inlX12 tyX12 tyX12_ok nmX12 hown hK hP hJ hA hS (jc_55 cI cL ad σ2 τ) rfl (k := 20) (by decide) (Nat.le_of_ble_eq_true rfl) (jp_55_20 cI cL ad σ2 τ a2) (hts _ kw_15_12) (fun _ h9 => h9) rfl (by decide +kernel) rfl rfl dX12_workOut_12 (fun σ3 H locs eσ3 hP hS => ?_)
  refine lv_aload_n hx hb dX12_workOut_15 rfl (lv_at hl 0 rfl) ?_
  refine lv_iconst (v := (-1)) hx hb dX12_workOut_16 (by decide) ?_
  refine jput (ty := .int) hx hb hts inlX12 tyX12 tyX12_ok nmX12 hown hK hP hJ hA hS (jc_55 cI cL ad σ3 τ) rfl (k := 21) (by decide) (Nat.le_of_ble_eq_true rfl) (jp_55_21 cI cL ad σ3 τ (-1)) (hts _ kw_15_13) (fun _ h9 => h9) rfl (by decide +kernel) rfl rfl dX12_workOut_17 (fun σ4 H locs eσ4 hP hS => ?_)
  refine lv_aload_n hx hb dX12_workOut_20 rfl (lv_at hl 0 rfl) ?_
  refine lv_iconst (v := 0) hx hb dX12_workOut_21 (by decide) ?_
  refine jput (ty := .int) hx hb hts inlX12 tyX12 tyX12_ok nmX12 hown hK hP hJ hA hS (jc_55 cI cL ad σ4 τ) rfl (k := 22) (by decide) (Nat.le_of_ble_eq_true rfl) (jp_55_22 cI cL ad σ4 τ 0) (hts _ kw_18_21) (fun _ h9 => h9) rfl (by decide +kernel) rfl rfl dX12_workOut_22 (fun σ5 H locs eσ5 hP hS => ?_)
  refine lv_iconst (v := 0) hx hb dX12_workOut_25 (by decide) ?_
  refine lv_istore_n (lv' := [(3, .int 0), (0, .ref (ad 55)), (1, .int a1), (2, .int a2)]) hx hb dX12_workOut_26 rfl hl (by decide) rfl (fun ls hl => ?_)
  refine lv_iconst (v := 0) hx hb dX12_workOut_27 (by decide) ?_
  refine lv_istore (lv' := [(4, .int 0), (3, .int 0), (0, .ref (ad 55)), (1, .int a1), (2, .int a2)]) hx hb dX12_workOut_28 hl (by decide) rfl (fun ls hl => ?_)
  refine lv_iconst (v := 1) hx hb dX12_workOut_30 (by decide) ?_
  refine lv_istore (lv' := [(5, .int 1), (4, .int 0), (3, .int 0), (0, .ref (ad 55)), (1, .int a1), (2, .int a2)]) hx hb dX12_workOut_31 hl (by decide) rfl (fun ls hl => ?_)
  have z14 : (σ5 55 20).toInt = A2 := ((congrArg Int32.toInt (show σ5 55 20 = a2 from ((jkp 20 eσ5 (by decide)).trans ((jkp 20 eσ4 (by decide)).trans (jsp eσ3))))).trans t2)
  have z15 : (σ5 55 19).toInt = 0 := ((congrArg Int32.toInt (show σ5 55 19 = 0 from ((jkp 19 eσ5 (by decide)).trans ((jkp 19 eσ4 (by decide)).trans ((jkp 19 eσ3 (by decide)).trans (jsp eσ2)))))).trans jz_0)
  have z16 : (σ5 55 18).toInt = A1 := ((congrArg Int32.toInt (show σ5 55 18 = a1 from ((jkp 18 eσ5 (by decide)).trans ((jkp 18 eσ4 (by decide)).trans ((jkp 18 eσ3 (by decide)).trans ((jkp 18 eσ2 (by decide)).trans (jsp eσ1))))))).trans t1)
  have z17 : (σ5 55 21).toInt = (-1) := ((congrArg Int32.toInt (show σ5 55 21 = (-1) from ((jkp 21 eσ5 (by decide)).trans (jsp eσ4)))).trans jz_m1)
  have z18 : (σ5 55 22).toInt = 0 := ((congrArg Int32.toInt (show σ5 55 22 = 0 from (jsp eσ5))).trans jz_0)
  have lp6 : ∀ (n7 : Nat) (x8 : Int32) (x9 : Int32) (x10 : Int32) (σ13 : Nat → Nat → Int32) (H : Heap) (locs : List Loc) (ls : Array Slot), (2 * (σ13 55 20).toInt - 2 * (σ13 55 19).toInt + x10.toInt : Int) < n7 → 0 ≤ x10.toInt → x10.toInt ≤ 1 → (-1) ≤ (σ13 55 18).toInt ∧ (σ13 55 18).toInt ≤ 80 → 0 ≤ (σ13 55 19).toInt → (σ13 55 19).toInt ≤ (σ13 55 20).toInt → (σ13 55 20).toInt ≤ 80 → (-1) ≤ (σ13 55 21).toInt → ((x10.toInt = 0) ∨ ((σ13 55 21).toInt = (-1) ∧ (σ13 55 22).toInt = 0)) → (∀ i : Nat, (i < 55 ∨ 55 < i) → σ13 i = σ5 i) → (∀ k : Nat, (k < 19 ∨ 19 < k) ∧ (k < 21 ∨ 21 < k) ∧ (k < 22 ∨ 22 < k) → σ13 55 k = σ5 55 k) → jH D cI cL ad σ13 τ H → va_S (jA ad) s.heap H locs → lv_has ls 8 [(5, .int x10), (4, .int x9), (3, .int x8), (0, .ref (ad 55)), (1, .int a1), (2, .int a2)] → W p l e ({ frames := 64, cells := 0, slots := 0, locals := 2782 }) s m args below meth c H locs 0 0 Q (F0 m 33 ls []) := by
    intro n7
    induction n7 with
    | zero => intro x8 x9 x10 σ13 H locs ls h19 h20 h21 h22 h23 h24 h25 h26 h27; have gx8 := jrg (rfl : x8.toInt = x8.toInt); have gx9 := jrg (rfl : x9.toInt = x9.toInt); exact absurd h19 (by omega)
    | succ n7 ihlp6 =>
      intro x8 x9 x10 σ13 H locs ls h19 h20 h21 h22 h23 h24 h25 h26 h27 f28 f29 hP hS hl
      have gx8 := jrg (rfl : x8.toInt = x8.toInt); have gx9 := jrg (rfl : x9.toInt = x9.toInt)
      have z30 : (σ13 55 20).toInt = A2 := ((congrArg Int32.toInt (show σ13 55 20 = a2 from ((f29 20 (by decide)).trans ((jkp 20 eσ5 (by decide)).trans ((jkp 20 eσ4 (by decide)).trans (jsp eσ3)))))).trans t2)
      have z31 : (σ13 55 18).toInt = A1 := ((congrArg Int32.toInt (show σ13 55 18 = a1 from ((f29 18 (by decide)).trans ((jkp 18 eσ5 (by decide)).trans ((jkp 18 eσ4 (by decide)).trans ((jkp 18 eσ3 (by decide)).trans ((jkp 18 eσ2 (by decide)).trans (jsp eσ1)))))))).trans t1)
      refine lv_iload hx hb dX12_workOut_33 (lv_at hl 0 rfl) ?_
      refine lv_if_eq (tgt := 107) hx hb dX12_workOut_35 (by decide) (fun c32 => ?_) (fun c32 => ?_)
      · have kc32 := jeq c32 rfl jz_0
        refine lv_aload_n hx hb dX12_workOut_107 rfl (lv_at hl 3 rfl) ?_
        refine va_get (D := D) hx hb hts inlX12 hown hK hP 55 (jc_55 cI cL ad σ13 τ) rfl 21 (by decide) (hts _ kw_15_13) (fun _ h9 => h9) rfl dX12_workOut_108 ?_
        refine lv_if_ge (tgt := 130) hx hb dX12_workOut_111 (by decide) (fun c33 => ?_) (fun c33 => ?_)
        · have kc33 := jle c33 jz_0 rfl
          refine lv_iload hx hb dX12_workOut_130 (lv_at hl 1 rfl) ?_
          have I34 : jI121 σ13 := ⟨(by omega), (by omega), (by omega), (by omega), (by omega)⟩
          exact hret x9 σ13 τ _ _ _ _ rfl ⟨rfl, (fun i hi => ((f28 i hi).trans ((jnp i eσ5 (imp_164 i hi)).trans ((jnp i eσ4 (imp_164 i hi)).trans ((jnp i eσ3 (imp_164 i hi)).trans ((jnp i eσ2 (imp_164 i hi)).trans (jnp i eσ1 (imp_164 i hi)))))))), (fun i hi => ((f29 i (imp_173 i hi)).trans ((jkp i eσ5 (imp_174 i hi)).trans ((jkp i eσ4 (imp_175 i hi)).trans ((jkp i eσ3 (imp_176 i hi)).trans ((jkp i eσ2 (imp_177 i hi)).trans (jkp i eσ1 (imp_178 i hi)))))))), I34, trivial⟩ hP hS dX12_workOut_132
        · have kc33 := jnle c33 jz_0 rfl
          refine lv_aload_n hx hb dX12_workOut_114 rfl (lv_at hl 3 rfl) ?_
          refine va_get (D := D) hx hb hts inlX12 hown hK hP 55 (jc_55 cI cL ad σ13 τ) rfl 19 (by decide) (hts _ kw_15_11) (fun _ h9 => h9) rfl dX12_workOut_115 ?_
          refine lv_aload_n hx hb dX12_workOut_118 rfl (lv_at hl 3 rfl) ?_
          refine va_get (D := D) hx hb hts inlX12 hown hK hP 55 (jc_55 cI cL ad σ13 τ) rfl 20 (by decide) (hts _ kw_15_12) (fun _ h9 => h9) rfl dX12_workOut_119 ?_
          have m35 : σ13 55 20 = a2 := ((f29 20 (by decide)).trans ((jkp 20 eσ5 (by decide)).trans ((jkp 20 eσ4 (by decide)).trans (jsp eσ3))))
          refine jtopr m35 ?_
          refine lv_icmp_ge (tgt := 130) hx hb dX12_workOut_122 (by decide) (fun c36 => ?_) (fun c36 => ?_)
          · have kc36 := jle c36 t2 rfl
            refine lv_iload hx hb dX12_workOut_130 (lv_at hl 1 rfl) ?_
            have I37 : jI121 σ13 := ⟨(by omega), (by omega), (by omega), (by omega), (by omega)⟩
            exact hret x9 σ13 τ _ _ _ _ rfl ⟨rfl, (fun i hi => ((f28 i hi).trans ((jnp i eσ5 (imp_164 i hi)).trans ((jnp i eσ4 (imp_164 i hi)).trans ((jnp i eσ3 (imp_164 i hi)).trans ((jnp i eσ2 (imp_164 i hi)).trans (jnp i eσ1 (imp_164 i hi)))))))), (fun i hi => ((f29 i (imp_173 i hi)).trans ((jkp i eσ5 (imp_174 i hi)).trans ((jkp i eσ4 (imp_175 i hi)).trans ((jkp i eσ3 (imp_176 i hi)).trans ((jkp i eσ2 (imp_177 i hi)).trans (jkp i eσ1 (imp_178 i hi)))))))), I37, trivial⟩ hP hS dX12_workOut_132
          · have kc36 := jnle c36 t2 rfl
            refine lv_aload_n hx hb dX12_workOut_125 rfl (lv_at hl 3 rfl) ?_
            have I38 : jI121 σ13 := ⟨(by omega), (by omega), (by omega), (by omega), (by omega)⟩
            refine jcallV (As := []) (rest := []) ⟨hx, hb, hml, hown, hts⟩ hK hP hA hS hZ (c_X12_wrong l D cI cL ad zz hJ σ13 τ I38) cw_RX12_214 (jc_55 cI cL ad σ13 τ) rfl ⟨Nat.le_of_ble_eq_true rfl, Nat.le_of_ble_eq_true rfl⟩ rfl rfl rfl hl.1 rfl (Nat.le_of_ble_eq_true rfl) dX12_workOut_126 ⟨Nat.zero_le _, Nat.zero_le _⟩ (fun r40 σ39 τ39 H locs h39 hP hS => ?_)
            obtain ⟨rfl, f41, f42, I43, h39⟩ := h39
            obtain ⟨i44, i45, i46, i47, i48⟩ : ((-1) ≤ (σ39 55 18).toInt ∧ (σ39 55 18).toInt ≤ 80) ∧ (0 ≤ (σ39 55 19).toInt) ∧ ((σ39 55 19).toInt ≤ (σ39 55 20).toInt) ∧ ((σ39 55 20).toInt ≤ 80) ∧ ((-1) ≤ (σ39 55 21).toInt) := id I43
            have z49 : (σ39 55 18).toInt = A1 := ((congrArg Int32.toInt (show σ39 55 18 = a1 from ((f42 18 (by decide)).trans ((f29 18 (by decide)).trans ((jkp 18 eσ5 (by decide)).trans ((jkp 18 eσ4 (by decide)).trans ((jkp 18 eσ3 (by decide)).trans ((jkp 18 eσ2 (by decide)).trans (jsp eσ1))))))))).trans t1)
            have z50 : (σ39 55 19).toInt = (σ13 55 19).toInt := (congrArg Int32.toInt (show σ39 55 19 = (σ13 55 19) from (f42 19 (by decide))))
            have z51 : (σ39 55 20).toInt = A2 := ((congrArg Int32.toInt (show σ39 55 20 = a2 from ((f42 20 (by decide)).trans m35))).trans t2)
            obtain ⟨k52, h39⟩ := h39
            have h53 := h39
            obtain ⟨q55, k54⟩ := h53
            have q55 := q55.symm
            subst q55
            exact hret 0 σ39 τ _ _ _ _ rfl ⟨rfl, (fun i hi => ((f41 i hi).trans ((f28 i hi).trans ((jnp i eσ5 (imp_164 i hi)).trans ((jnp i eσ4 (imp_164 i hi)).trans ((jnp i eσ3 (imp_164 i hi)).trans ((jnp i eσ2 (imp_164 i hi)).trans (jnp i eσ1 (imp_164 i hi))))))))), (fun i hi => ((f42 i (imp_179 i hi)).trans ((f29 i (imp_173 i hi)).trans ((jkp i eσ5 (imp_174 i hi)).trans ((jkp i eσ4 (imp_175 i hi)).trans ((jkp i eσ3 (imp_176 i hi)).trans ((jkp i eσ2 (imp_177 i hi)).trans (jkp i eσ1 (imp_178 i hi))))))))), I43, trivial⟩ hP hS dX12_workOut_129
      · have kc32 := jne c32 rfl jz_0
        refine lv_aload_n hx hb dX12_workOut_38 rfl (lv_at hl 3 rfl) ?_
        have I56 : jI121 σ13 := ⟨(by omega), (by omega), (by omega), (by omega), (by omega)⟩
        refine jcallV (As := []) (rest := []) ⟨hx, hb, hml, hown, hts⟩ hK hP hA hS hZ ((c_X12_grammar l D cI cL ad zz hJ 6).2.2.2.2.2 σ13 τ I56 (by omega) (by omega) (by omega)) cw_RX12_217 (jc_55 cI cL ad σ13 τ) rfl ⟨Nat.le_of_ble_eq_true rfl, Nat.le_of_ble_eq_true rfl⟩ rfl rfl rfl hl.1 rfl (Nat.le_of_ble_eq_true rfl) dX12_workOut_39 ⟨Nat.zero_le _, Nat.zero_le _⟩ (fun r58 σ57 τ57 H locs h57 hP hS => ?_)
        obtain ⟨rfl, f59, f60, I61, h57⟩ := h57
        obtain ⟨i62, i63, i64, i65, i66⟩ : ((-1) ≤ (σ57 55 18).toInt ∧ (σ57 55 18).toInt ≤ 80) ∧ (0 ≤ (σ57 55 19).toInt) ∧ ((σ57 55 19).toInt ≤ (σ57 55 20).toInt) ∧ ((σ57 55 20).toInt ≤ 80) ∧ ((-1) ≤ (σ57 55 21).toInt) := id I61
        have z67 : (σ57 55 18).toInt = A1 := ((congrArg Int32.toInt (show σ57 55 18 = a1 from ((f60 18 (by decide)).trans ((f29 18 (by decide)).trans ((jkp 18 eσ5 (by decide)).trans ((jkp 18 eσ4 (by decide)).trans ((jkp 18 eσ3 (by decide)).trans ((jkp 18 eσ2 (by decide)).trans (jsp eσ1))))))))).trans t1)
        have z68 : (σ57 55 20).toInt = A2 := ((congrArg Int32.toInt (show σ57 55 20 = a2 from ((f60 20 (by decide)).trans ((f29 20 (by decide)).trans ((jkp 20 eσ5 (by decide)).trans ((jkp 20 eσ4 (by decide)).trans (jsp eσ3))))))).trans t2)
        obtain ⟨k69, k70, h57⟩ := h57
        refine lv_istore (lv' := [(6, .int r58), (5, .int x10), (4, .int x9), (3, .int x8), (0, .ref (ad 55)), (1, .int a1), (2, .int a2)]) hx hb dX12_workOut_42 hl (by decide) rfl (fun ls hl => ?_)
        refine lv_iconst (v := 1) hx hb dX12_workOut_44 (by decide) ?_
        refine lv_istore (lv' := [(7, .int 1), (6, .int r58), (5, .int x10), (4, .int x9), (3, .int x8), (0, .ref (ad 55)), (1, .int a1), (2, .int a2)]) hx hb dX12_workOut_45 hl (by decide) rfl (fun ls hl => ?_)
        refine lv_aload_n hx hb dX12_workOut_47 rfl (lv_at hl 5 rfl) ?_
        refine lv_bipush (v := 63) hx hb dX12_workOut_48 (by decide) ?_
        refine jcallV (As := [.int 63]) (rest := []) ⟨hx, hb, hml, hown, hts⟩ hK hP hA hS hZ (c_X12_takes l D cI cL ad zz hJ σ57 τ 63 (63) jz_63 I61 (by omega)) cw_RX12_196 (jc_55 cI cL ad σ57 τ) rfl ⟨Nat.le_of_ble_eq_true rfl, Nat.le_of_ble_eq_true rfl⟩ rfl rfl rfl hl.1 rfl (Nat.le_of_ble_eq_true rfl) dX12_workOut_50 ⟨Nat.zero_le _, Nat.zero_le _⟩ (fun r72 σ71 τ71 H locs h71 hP hS => ?_)
        obtain ⟨rfl, f73, f74, I75, h71⟩ := h71
        obtain ⟨i76, i77, i78, i79, i80⟩ : ((-1) ≤ (σ71 55 18).toInt ∧ (σ71 55 18).toInt ≤ 80) ∧ (0 ≤ (σ71 55 19).toInt) ∧ ((σ71 55 19).toInt ≤ (σ71 55 20).toInt) ∧ ((σ71 55 20).toInt ≤ 80) ∧ ((-1) ≤ (σ71 55 21).toInt) := id I75
        have z81 : (σ71 55 18).toInt = A1 := ((congrArg Int32.toInt (show σ71 55 18 = a1 from ((f74 18 (by decide)).trans ((f60 18 (by decide)).trans ((f29 18 (by decide)).trans ((jkp 18 eσ5 (by decide)).trans ((jkp 18 eσ4 (by decide)).trans ((jkp 18 eσ3 (by decide)).trans ((jkp 18 eσ2 (by decide)).trans (jsp eσ1)))))))))).trans t1)
        have z82 : (σ71 55 20).toInt = A2 := ((congrArg Int32.toInt (show σ71 55 20 = a2 from ((f74 20 (by decide)).trans ((f60 20 (by decide)).trans ((f29 20 (by decide)).trans ((jkp 20 eσ5 (by decide)).trans ((jkp 20 eσ4 (by decide)).trans (jsp eσ3)))))))).trans t2)
        have z83 : (σ71 55 21).toInt = (σ57 55 21).toInt := (congrArg Int32.toInt (show σ71 55 21 = (σ57 55 21) from (f74 21 (by decide))))
        rcases h71 with h84 | h85
        · obtain ⟨q88, k86, k87⟩ := h84
          have q88 := q88.symm
          subst q88
          refine lv_if_eq (tgt := 74) hx hb dX12_workOut_53 (by decide) (fun c => absurd c (by decide)) (fun _ => ?_)
          refine lv_iload hx hb dX12_workOut_56 (lv_at hl 1 rfl) ?_
          refine lv_if_eq (tgt := 65) hx hb dX12_workOut_58 (by decide) (fun c89 => ?_) (fun c89 => ?_)
          · have kc89 := jeq c89 rfl jz_0
            refine lv_iconst (v := 0) hx hb dX12_workOut_65 (by decide) ?_
            refine lv_istore (lv' := [(7, .int 0), (6, .int r58), (5, .int x10), (4, .int x9), (3, .int x8), (0, .ref (ad 55)), (1, .int a1), (2, .int a2)]) hx hb dX12_workOut_66 hl (by decide) rfl (fun ls hl => ?_)
            refine lv_aload_n hx hb dX12_workOut_68 rfl (lv_at hl 5 rfl) ?_
            have z90 : (σ71 55 22).toInt = (σ57 55 22).toInt := (congrArg Int32.toInt (show σ71 55 22 = (σ57 55 22) from (f74 22 (by decide))))
            refine jcallV (As := []) (rest := []) ⟨hx, hb, hml, hown, hts⟩ hK hP hA hS hZ ((c_X12_grammar l D cI cL ad zz hJ 6).2.2.2.2.2 σ71 τ I75 (by omega) (by omega) (by omega)) cw_RX12_217 (jc_55 cI cL ad σ71 τ) rfl ⟨Nat.le_of_ble_eq_true rfl, Nat.le_of_ble_eq_true rfl⟩ rfl rfl rfl hl.1 rfl (Nat.le_of_ble_eq_true rfl) dX12_workOut_69 ⟨Nat.zero_le _, Nat.zero_le _⟩ (fun r92 σ91 τ91 H locs h91 hP hS => ?_)
            obtain ⟨rfl, f93, f94, I95, h91⟩ := h91
            obtain ⟨i96, i97, i98, i99, i100⟩ : ((-1) ≤ (σ91 55 18).toInt ∧ (σ91 55 18).toInt ≤ 80) ∧ (0 ≤ (σ91 55 19).toInt) ∧ ((σ91 55 19).toInt ≤ (σ91 55 20).toInt) ∧ ((σ91 55 20).toInt ≤ 80) ∧ ((-1) ≤ (σ91 55 21).toInt) := id I95
            have z101 : (σ91 55 18).toInt = A1 := ((congrArg Int32.toInt (show σ91 55 18 = a1 from ((f94 18 (by decide)).trans ((f74 18 (by decide)).trans ((f60 18 (by decide)).trans ((f29 18 (by decide)).trans ((jkp 18 eσ5 (by decide)).trans ((jkp 18 eσ4 (by decide)).trans ((jkp 18 eσ3 (by decide)).trans ((jkp 18 eσ2 (by decide)).trans (jsp eσ1))))))))))).trans t1)
            have z102 : (σ91 55 20).toInt = A2 := ((congrArg Int32.toInt (show σ91 55 20 = a2 from ((f94 20 (by decide)).trans ((f74 20 (by decide)).trans ((f60 20 (by decide)).trans ((f29 20 (by decide)).trans ((jkp 20 eσ5 (by decide)).trans ((jkp 20 eσ4 (by decide)).trans (jsp eσ3))))))))).trans t2)
            obtain ⟨k103, k104, h91⟩ := h91
            refine lv_istore (lv' := [(6, .int r92), (7, .int 0), (5, .int x10), (4, .int x9), (3, .int x8), (0, .ref (ad 55)), (1, .int a1), (2, .int a2)]) hx hb dX12_workOut_72 hl (by decide) rfl (fun ls hl => ?_)
            refine lv_aload_n hx hb dX12_workOut_74 rfl (lv_at hl 5 rfl) ?_
            refine va_get (D := D) hx hb hts inlX12 hown hK hP 55 (jc_55 cI cL ad σ91 τ) rfl 21 (by decide) (hts _ kw_15_13) (fun _ h9 => h9) rfl dX12_workOut_75 ?_
            refine lv_if_ge (tgt := 96) hx hb dX12_workOut_78 (by decide) (fun c105 => ?_) (fun c105 => ?_)
            · have kc105 := jle c105 jz_0 rfl
              refine lv_aload_n hx hb dX12_workOut_96 rfl (lv_at hl 5 rfl) ?_
              refine lv_bipush (v := 59) hx hb dX12_workOut_97 (by decide) ?_
              refine jcallV (As := [.int 59]) (rest := []) ⟨hx, hb, hml, hown, hts⟩ hK hP hA hS hZ (c_X12_takes l D cI cL ad zz hJ σ91 τ 59 (59) jz_59 I95 (by omega)) cw_RX12_196 (jc_55 cI cL ad σ91 τ) rfl ⟨Nat.le_of_ble_eq_true rfl, Nat.le_of_ble_eq_true rfl⟩ rfl rfl rfl hl.1 rfl (Nat.le_of_ble_eq_true rfl) dX12_workOut_99 ⟨Nat.zero_le _, Nat.zero_le _⟩ (fun r107 σ106 τ106 H locs h106 hP hS => ?_)
              obtain ⟨rfl, f108, f109, I110, h106⟩ := h106
              obtain ⟨i111, i112, i113, i114, i115⟩ : ((-1) ≤ (σ106 55 18).toInt ∧ (σ106 55 18).toInt ≤ 80) ∧ (0 ≤ (σ106 55 19).toInt) ∧ ((σ106 55 19).toInt ≤ (σ106 55 20).toInt) ∧ ((σ106 55 20).toInt ≤ 80) ∧ ((-1) ≤ (σ106 55 21).toInt) := id I110
              have z116 : (σ106 55 18).toInt = A1 := ((congrArg Int32.toInt (show σ106 55 18 = a1 from ((f109 18 (by decide)).trans ((f94 18 (by decide)).trans ((f74 18 (by decide)).trans ((f60 18 (by decide)).trans ((f29 18 (by decide)).trans ((jkp 18 eσ5 (by decide)).trans ((jkp 18 eσ4 (by decide)).trans ((jkp 18 eσ3 (by decide)).trans ((jkp 18 eσ2 (by decide)).trans (jsp eσ1)))))))))))).trans t1)
              have z117 : (σ106 55 20).toInt = A2 := ((congrArg Int32.toInt (show σ106 55 20 = a2 from ((f109 20 (by decide)).trans ((f94 20 (by decide)).trans ((f74 20 (by decide)).trans ((f60 20 (by decide)).trans ((f29 20 (by decide)).trans ((jkp 20 eσ5 (by decide)).trans ((jkp 20 eσ4 (by decide)).trans (jsp eσ3)))))))))).trans t2)
              have z118 : (σ106 55 21).toInt = (σ91 55 21).toInt := (congrArg Int32.toInt (show σ106 55 21 = (σ91 55 21) from (f109 21 (by decide))))
              rcases h106 with h119 | h120
              · obtain ⟨q123, k121, k122⟩ := h119
                exact absurd (by omega : False) id
              · obtain ⟨q125, k124⟩ := h120
                have q125 := q125.symm
                subst q125
                refine lv_istore (lv' := [(5, .int 0), (6, .int r92), (7, .int 0), (4, .int x9), (3, .int x8), (0, .ref (ad 55)), (1, .int a1), (2, .int a2)]) hx hb dX12_workOut_102 hl (by decide) rfl (fun ls hl => ?_)
                refine lv_goto (tgt := 33) hx hb dX12_workOut_104 (by decide) ?_
                have z126 : (σ106 55 22).toInt = (σ91 55 22).toInt := (congrArg Int32.toInt (show σ106 55 22 = (σ91 55 22) from (f109 22 (by decide))))
                exact ihlp6 x8 x9 0 σ106 _ _ ls (by have h92 := jz_0; omega) (by have h92 := jz_0; omega) (by have h92 := jz_0; omega) (by have h92 := jz_0; omega) (by have h92 := jz_0; omega) (by have h92 := jz_0; omega) (by have h92 := jz_0; omega) (by have h92 := jz_0; omega) (by have h92 := jz_0; omega) (fun i hi => ((f108 i hi).trans ((f93 i hi).trans ((f73 i hi).trans ((f59 i hi).trans (f28 i hi)))))) (fun i hi => ((f109 i (imp_172 i hi)).trans ((f94 i hi).trans ((f74 i (imp_172 i hi)).trans ((f60 i hi).trans (f29 i hi))))))   hP hS (lv_sub hl [0, 3, 4, 5, 6, 7] rfl)
            · have kc105 := jnle c105 jz_0 rfl
              refine lv_iload hx hb dX12_workOut_81 (lv_at hl 1 rfl) ?_
              refine lv_if_eq (tgt := 96) hx hb dX12_workOut_83 (by decide) (fun _ => ?_) (fun c => absurd (by decide) c)
              refine lv_aload_n hx hb dX12_workOut_96 rfl (lv_at hl 5 rfl) ?_
              refine lv_bipush (v := 59) hx hb dX12_workOut_97 (by decide) ?_
              refine jcallV (As := [.int 59]) (rest := []) ⟨hx, hb, hml, hown, hts⟩ hK hP hA hS hZ (c_X12_takes l D cI cL ad zz hJ σ91 τ 59 (59) jz_59 I95 (by omega)) cw_RX12_196 (jc_55 cI cL ad σ91 τ) rfl ⟨Nat.le_of_ble_eq_true rfl, Nat.le_of_ble_eq_true rfl⟩ rfl rfl rfl hl.1 rfl (Nat.le_of_ble_eq_true rfl) dX12_workOut_99 ⟨Nat.zero_le _, Nat.zero_le _⟩ (fun r128 σ127 τ127 H locs h127 hP hS => ?_)
              obtain ⟨rfl, f129, f130, I131, h127⟩ := h127
              obtain ⟨i132, i133, i134, i135, i136⟩ : ((-1) ≤ (σ127 55 18).toInt ∧ (σ127 55 18).toInt ≤ 80) ∧ (0 ≤ (σ127 55 19).toInt) ∧ ((σ127 55 19).toInt ≤ (σ127 55 20).toInt) ∧ ((σ127 55 20).toInt ≤ 80) ∧ ((-1) ≤ (σ127 55 21).toInt) := id I131
              have z137 : (σ127 55 18).toInt = A1 := ((congrArg Int32.toInt (show σ127 55 18 = a1 from ((f130 18 (by decide)).trans ((f94 18 (by decide)).trans ((f74 18 (by decide)).trans ((f60 18 (by decide)).trans ((f29 18 (by decide)).trans ((jkp 18 eσ5 (by decide)).trans ((jkp 18 eσ4 (by decide)).trans ((jkp 18 eσ3 (by decide)).trans ((jkp 18 eσ2 (by decide)).trans (jsp eσ1)))))))))))).trans t1)
              have z138 : (σ127 55 20).toInt = A2 := ((congrArg Int32.toInt (show σ127 55 20 = a2 from ((f130 20 (by decide)).trans ((f94 20 (by decide)).trans ((f74 20 (by decide)).trans ((f60 20 (by decide)).trans ((f29 20 (by decide)).trans ((jkp 20 eσ5 (by decide)).trans ((jkp 20 eσ4 (by decide)).trans (jsp eσ3)))))))))).trans t2)
              have z139 : (σ127 55 21).toInt = (σ91 55 21).toInt := (congrArg Int32.toInt (show σ127 55 21 = (σ91 55 21) from (f130 21 (by decide))))
              rcases h127 with h140 | h141
              · obtain ⟨q144, k142, k143⟩ := h140
                have q144 := q144.symm
                subst q144
                refine lv_istore (lv' := [(5, .int 1), (6, .int r92), (7, .int 0), (4, .int x9), (3, .int x8), (0, .ref (ad 55)), (1, .int a1), (2, .int a2)]) hx hb dX12_workOut_102 hl (by decide) rfl (fun ls hl => ?_)
                refine lv_goto (tgt := 33) hx hb dX12_workOut_104 (by decide) ?_
                have z145 : (σ127 55 22).toInt = (σ91 55 22).toInt := (congrArg Int32.toInt (show σ127 55 22 = (σ91 55 22) from (f130 22 (by decide))))
                exact ihlp6 x8 x9 1 σ127 _ _ ls (by have h92 := jz_1; omega) (by have h92 := jz_1; omega) (by have h92 := jz_1; omega) (by have h92 := jz_1; omega) (by have h92 := jz_1; omega) (by have h92 := jz_1; omega) (by have h92 := jz_1; omega) (by have h92 := jz_1; omega) (by have h92 := jz_1; omega) (fun i hi => ((f129 i hi).trans ((f93 i hi).trans ((f73 i hi).trans ((f59 i hi).trans (f28 i hi)))))) (fun i hi => ((f130 i (imp_172 i hi)).trans ((f94 i hi).trans ((f74 i (imp_172 i hi)).trans ((f60 i hi).trans (f29 i hi))))))   hP hS (lv_sub hl [0, 3, 4, 5, 6, 7] rfl)
              · obtain ⟨q147, k146⟩ := h141
                have q147 := q147.symm
                subst q147
                refine lv_istore (lv' := [(5, .int 0), (6, .int r92), (7, .int 0), (4, .int x9), (3, .int x8), (0, .ref (ad 55)), (1, .int a1), (2, .int a2)]) hx hb dX12_workOut_102 hl (by decide) rfl (fun ls hl => ?_)
                refine lv_goto (tgt := 33) hx hb dX12_workOut_104 (by decide) ?_
                have z148 : (σ127 55 22).toInt = (σ91 55 22).toInt := (congrArg Int32.toInt (show σ127 55 22 = (σ91 55 22) from (f130 22 (by decide))))
                exact ihlp6 x8 x9 0 σ127 _ _ ls (by have h92 := jz_0; omega) (by have h92 := jz_0; omega) (by have h92 := jz_0; omega) (by have h92 := jz_0; omega) (by have h92 := jz_0; omega) (by have h92 := jz_0; omega) (by have h92 := jz_0; omega) (by have h92 := jz_0; omega) (by have h92 := jz_0; omega) (fun i hi => ((f129 i hi).trans ((f93 i hi).trans ((f73 i hi).trans ((f59 i hi).trans (f28 i hi)))))) (fun i hi => ((f130 i (imp_172 i hi)).trans ((f94 i hi).trans ((f74 i (imp_172 i hi)).trans ((f60 i hi).trans (f29 i hi))))))   hP hS (lv_sub hl [0, 3, 4, 5, 6, 7] rfl)
          · have kc89 := jne c89 rfl jz_0
            refine lv_iconst (v := 1) hx hb dX12_workOut_61 (by decide) ?_
            refine lv_goto (tgt := 66) hx hb dX12_workOut_62 (by decide) ?_
            refine lv_istore (lv' := [(7, .int 1), (6, .int r58), (5, .int x10), (4, .int x9), (3, .int x8), (0, .ref (ad 55)), (1, .int a1), (2, .int a2)]) hx hb dX12_workOut_66 hl (by decide) rfl (fun ls hl => ?_)
            refine lv_aload_n hx hb dX12_workOut_68 rfl (lv_at hl 5 rfl) ?_
            have z149 : (σ71 55 22).toInt = (σ57 55 22).toInt := (congrArg Int32.toInt (show σ71 55 22 = (σ57 55 22) from (f74 22 (by decide))))
            refine jcallV (As := []) (rest := []) ⟨hx, hb, hml, hown, hts⟩ hK hP hA hS hZ ((c_X12_grammar l D cI cL ad zz hJ 6).2.2.2.2.2 σ71 τ I75 (by omega) (by omega) (by omega)) cw_RX12_217 (jc_55 cI cL ad σ71 τ) rfl ⟨Nat.le_of_ble_eq_true rfl, Nat.le_of_ble_eq_true rfl⟩ rfl rfl rfl hl.1 rfl (Nat.le_of_ble_eq_true rfl) dX12_workOut_69 ⟨Nat.zero_le _, Nat.zero_le _⟩ (fun r151 σ150 τ150 H locs h150 hP hS => ?_)
            obtain ⟨rfl, f152, f153, I154, h150⟩ := h150
            obtain ⟨i155, i156, i157, i158, i159⟩ : ((-1) ≤ (σ150 55 18).toInt ∧ (σ150 55 18).toInt ≤ 80) ∧ (0 ≤ (σ150 55 19).toInt) ∧ ((σ150 55 19).toInt ≤ (σ150 55 20).toInt) ∧ ((σ150 55 20).toInt ≤ 80) ∧ ((-1) ≤ (σ150 55 21).toInt) := id I154
            have z160 : (σ150 55 18).toInt = A1 := ((congrArg Int32.toInt (show σ150 55 18 = a1 from ((f153 18 (by decide)).trans ((f74 18 (by decide)).trans ((f60 18 (by decide)).trans ((f29 18 (by decide)).trans ((jkp 18 eσ5 (by decide)).trans ((jkp 18 eσ4 (by decide)).trans ((jkp 18 eσ3 (by decide)).trans ((jkp 18 eσ2 (by decide)).trans (jsp eσ1))))))))))).trans t1)
            have z161 : (σ150 55 20).toInt = A2 := ((congrArg Int32.toInt (show σ150 55 20 = a2 from ((f153 20 (by decide)).trans ((f74 20 (by decide)).trans ((f60 20 (by decide)).trans ((f29 20 (by decide)).trans ((jkp 20 eσ5 (by decide)).trans ((jkp 20 eσ4 (by decide)).trans (jsp eσ3))))))))).trans t2)
            obtain ⟨k162, k163, h150⟩ := h150
            refine lv_istore (lv' := [(6, .int r151), (7, .int 1), (5, .int x10), (4, .int x9), (3, .int x8), (0, .ref (ad 55)), (1, .int a1), (2, .int a2)]) hx hb dX12_workOut_72 hl (by decide) rfl (fun ls hl => ?_)
            refine lv_aload_n hx hb dX12_workOut_74 rfl (lv_at hl 5 rfl) ?_
            refine va_get (D := D) hx hb hts inlX12 hown hK hP 55 (jc_55 cI cL ad σ150 τ) rfl 21 (by decide) (hts _ kw_15_13) (fun _ h9 => h9) rfl dX12_workOut_75 ?_
            refine lv_if_ge (tgt := 96) hx hb dX12_workOut_78 (by decide) (fun c164 => ?_) (fun c164 => ?_)
            · have kc164 := jle c164 jz_0 rfl
              refine lv_aload_n hx hb dX12_workOut_96 rfl (lv_at hl 5 rfl) ?_
              refine lv_bipush (v := 59) hx hb dX12_workOut_97 (by decide) ?_
              refine jcallV (As := [.int 59]) (rest := []) ⟨hx, hb, hml, hown, hts⟩ hK hP hA hS hZ (c_X12_takes l D cI cL ad zz hJ σ150 τ 59 (59) jz_59 I154 (by omega)) cw_RX12_196 (jc_55 cI cL ad σ150 τ) rfl ⟨Nat.le_of_ble_eq_true rfl, Nat.le_of_ble_eq_true rfl⟩ rfl rfl rfl hl.1 rfl (Nat.le_of_ble_eq_true rfl) dX12_workOut_99 ⟨Nat.zero_le _, Nat.zero_le _⟩ (fun r166 σ165 τ165 H locs h165 hP hS => ?_)
              obtain ⟨rfl, f167, f168, I169, h165⟩ := h165
              obtain ⟨i170, i171, i172, i173, i174⟩ : ((-1) ≤ (σ165 55 18).toInt ∧ (σ165 55 18).toInt ≤ 80) ∧ (0 ≤ (σ165 55 19).toInt) ∧ ((σ165 55 19).toInt ≤ (σ165 55 20).toInt) ∧ ((σ165 55 20).toInt ≤ 80) ∧ ((-1) ≤ (σ165 55 21).toInt) := id I169
              have z175 : (σ165 55 18).toInt = A1 := ((congrArg Int32.toInt (show σ165 55 18 = a1 from ((f168 18 (by decide)).trans ((f153 18 (by decide)).trans ((f74 18 (by decide)).trans ((f60 18 (by decide)).trans ((f29 18 (by decide)).trans ((jkp 18 eσ5 (by decide)).trans ((jkp 18 eσ4 (by decide)).trans ((jkp 18 eσ3 (by decide)).trans ((jkp 18 eσ2 (by decide)).trans (jsp eσ1)))))))))))).trans t1)
              have z176 : (σ165 55 20).toInt = A2 := ((congrArg Int32.toInt (show σ165 55 20 = a2 from ((f168 20 (by decide)).trans ((f153 20 (by decide)).trans ((f74 20 (by decide)).trans ((f60 20 (by decide)).trans ((f29 20 (by decide)).trans ((jkp 20 eσ5 (by decide)).trans ((jkp 20 eσ4 (by decide)).trans (jsp eσ3)))))))))).trans t2)
              have z177 : (σ165 55 21).toInt = (σ150 55 21).toInt := (congrArg Int32.toInt (show σ165 55 21 = (σ150 55 21) from (f168 21 (by decide))))
              rcases h165 with h178 | h179
              · obtain ⟨q182, k180, k181⟩ := h178
                exact absurd (by omega : False) id
              · obtain ⟨q184, k183⟩ := h179
                have q184 := q184.symm
                subst q184
                refine lv_istore (lv' := [(5, .int 0), (6, .int r151), (7, .int 1), (4, .int x9), (3, .int x8), (0, .ref (ad 55)), (1, .int a1), (2, .int a2)]) hx hb dX12_workOut_102 hl (by decide) rfl (fun ls hl => ?_)
                refine lv_goto (tgt := 33) hx hb dX12_workOut_104 (by decide) ?_
                have z185 : (σ165 55 22).toInt = (σ150 55 22).toInt := (congrArg Int32.toInt (show σ165 55 22 = (σ150 55 22) from (f168 22 (by decide))))
                exact ihlp6 x8 x9 0 σ165 _ _ ls (by have h92 := jz_0; omega) (by have h92 := jz_0; omega) (by have h92 := jz_0; omega) (by have h92 := jz_0; omega) (by have h92 := jz_0; omega) (by have h92 := jz_0; omega) (by have h92 := jz_0; omega) (by have h92 := jz_0; omega) (by have h92 := jz_0; omega) (fun i hi => ((f167 i hi).trans ((f152 i hi).trans ((f73 i hi).trans ((f59 i hi).trans (f28 i hi)))))) (fun i hi => ((f168 i (imp_172 i hi)).trans ((f153 i hi).trans ((f74 i (imp_172 i hi)).trans ((f60 i hi).trans (f29 i hi))))))   hP hS (lv_sub hl [0, 3, 4, 5, 6, 7] rfl)
            · have kc164 := jnle c164 jz_0 rfl
              refine lv_iload hx hb dX12_workOut_81 (lv_at hl 1 rfl) ?_
              refine lv_if_eq (tgt := 96) hx hb dX12_workOut_83 (by decide) (fun c => absurd c (by decide)) (fun _ => ?_)
              refine lv_iload_n hx hb dX12_workOut_86 rfl (lv_at hl 4 rfl) ?_
              refine lv_if_ne (tgt := 96) hx hb dX12_workOut_87 (by decide) (fun c186 => ?_) (fun c186 => ?_)
              · have kc186 := jne c186 rfl jz_0
                refine lv_aload_n hx hb dX12_workOut_96 rfl (lv_at hl 5 rfl) ?_
                refine lv_bipush (v := 59) hx hb dX12_workOut_97 (by decide) ?_
                refine jcallV (As := [.int 59]) (rest := []) ⟨hx, hb, hml, hown, hts⟩ hK hP hA hS hZ (c_X12_takes l D cI cL ad zz hJ σ150 τ 59 (59) jz_59 I154 (by omega)) cw_RX12_196 (jc_55 cI cL ad σ150 τ) rfl ⟨Nat.le_of_ble_eq_true rfl, Nat.le_of_ble_eq_true rfl⟩ rfl rfl rfl hl.1 rfl (Nat.le_of_ble_eq_true rfl) dX12_workOut_99 ⟨Nat.zero_le _, Nat.zero_le _⟩ (fun r188 σ187 τ187 H locs h187 hP hS => ?_)
                obtain ⟨rfl, f189, f190, I191, h187⟩ := h187
                obtain ⟨i192, i193, i194, i195, i196⟩ : ((-1) ≤ (σ187 55 18).toInt ∧ (σ187 55 18).toInt ≤ 80) ∧ (0 ≤ (σ187 55 19).toInt) ∧ ((σ187 55 19).toInt ≤ (σ187 55 20).toInt) ∧ ((σ187 55 20).toInt ≤ 80) ∧ ((-1) ≤ (σ187 55 21).toInt) := id I191
                have z197 : (σ187 55 18).toInt = A1 := ((congrArg Int32.toInt (show σ187 55 18 = a1 from ((f190 18 (by decide)).trans ((f153 18 (by decide)).trans ((f74 18 (by decide)).trans ((f60 18 (by decide)).trans ((f29 18 (by decide)).trans ((jkp 18 eσ5 (by decide)).trans ((jkp 18 eσ4 (by decide)).trans ((jkp 18 eσ3 (by decide)).trans ((jkp 18 eσ2 (by decide)).trans (jsp eσ1)))))))))))).trans t1)
                have z198 : (σ187 55 20).toInt = A2 := ((congrArg Int32.toInt (show σ187 55 20 = a2 from ((f190 20 (by decide)).trans ((f153 20 (by decide)).trans ((f74 20 (by decide)).trans ((f60 20 (by decide)).trans ((f29 20 (by decide)).trans ((jkp 20 eσ5 (by decide)).trans ((jkp 20 eσ4 (by decide)).trans (jsp eσ3)))))))))).trans t2)
                have z199 : (σ187 55 21).toInt = (σ150 55 21).toInt := (congrArg Int32.toInt (show σ187 55 21 = (σ150 55 21) from (f190 21 (by decide))))
                rcases h187 with h200 | h201
                · obtain ⟨q204, k202, k203⟩ := h200
                  have q204 := q204.symm
                  subst q204
                  refine lv_istore (lv' := [(5, .int 1), (6, .int r151), (7, .int 1), (4, .int x9), (3, .int x8), (0, .ref (ad 55)), (1, .int a1), (2, .int a2)]) hx hb dX12_workOut_102 hl (by decide) rfl (fun ls hl => ?_)
                  refine lv_goto (tgt := 33) hx hb dX12_workOut_104 (by decide) ?_
                  have z205 : (σ187 55 22).toInt = (σ150 55 22).toInt := (congrArg Int32.toInt (show σ187 55 22 = (σ150 55 22) from (f190 22 (by decide))))
                  exact ihlp6 x8 x9 1 σ187 _ _ ls (by have h92 := jz_1; omega) (by have h92 := jz_1; omega) (by have h92 := jz_1; omega) (by have h92 := jz_1; omega) (by have h92 := jz_1; omega) (by have h92 := jz_1; omega) (by have h92 := jz_1; omega) (by have h92 := jz_1; omega) (by have h92 := jz_1; omega) (fun i hi => ((f189 i hi).trans ((f152 i hi).trans ((f73 i hi).trans ((f59 i hi).trans (f28 i hi)))))) (fun i hi => ((f190 i (imp_172 i hi)).trans ((f153 i hi).trans ((f74 i (imp_172 i hi)).trans ((f60 i hi).trans (f29 i hi))))))   hP hS (lv_sub hl [0, 3, 4, 5, 6, 7] rfl)
                · obtain ⟨q207, k206⟩ := h201
                  have q207 := q207.symm
                  subst q207
                  refine lv_istore (lv' := [(5, .int 0), (6, .int r151), (7, .int 1), (4, .int x9), (3, .int x8), (0, .ref (ad 55)), (1, .int a1), (2, .int a2)]) hx hb dX12_workOut_102 hl (by decide) rfl (fun ls hl => ?_)
                  refine lv_goto (tgt := 33) hx hb dX12_workOut_104 (by decide) ?_
                  have z208 : (σ187 55 22).toInt = (σ150 55 22).toInt := (congrArg Int32.toInt (show σ187 55 22 = (σ150 55 22) from (f190 22 (by decide))))
                  exact ihlp6 x8 x9 0 σ187 _ _ ls (by have h92 := jz_0; omega) (by have h92 := jz_0; omega) (by have h92 := jz_0; omega) (by have h92 := jz_0; omega) (by have h92 := jz_0; omega) (by have h92 := jz_0; omega) (by have h92 := jz_0; omega) (by have h92 := jz_0; omega) (by have h92 := jz_0; omega) (fun i hi => ((f189 i hi).trans ((f152 i hi).trans ((f73 i hi).trans ((f59 i hi).trans (f28 i hi)))))) (fun i hi => ((f190 i (imp_172 i hi)).trans ((f153 i hi).trans ((f74 i (imp_172 i hi)).trans ((f60 i hi).trans (f29 i hi))))))   hP hS (lv_sub hl [0, 3, 4, 5, 6, 7] rfl)
              · have kc186 := jeq c186 rfl jz_0
                refine lv_iconst (v := 1) hx hb dX12_workOut_90 (by decide) ?_
                refine lv_istore_n (lv' := [(3, .int 1), (6, .int r151), (7, .int 1), (5, .int x10), (4, .int x9), (0, .ref (ad 55)), (1, .int a1), (2, .int a2)]) hx hb dX12_workOut_91 rfl hl (by decide) rfl (fun ls hl => ?_)
                refine lv_iload hx hb dX12_workOut_92 (lv_at hl 1 rfl) ?_
                refine lv_istore (lv' := [(4, .int r151), (3, .int 1), (6, .int r151), (7, .int 1), (5, .int x10), (0, .ref (ad 55)), (1, .int a1), (2, .int a2)]) hx hb dX12_workOut_94 hl (by decide) rfl (fun ls hl => ?_)
                refine lv_aload_n hx hb dX12_workOut_96 rfl (lv_at hl 5 rfl) ?_
                refine lv_bipush (v := 59) hx hb dX12_workOut_97 (by decide) ?_
                refine jcallV (As := [.int 59]) (rest := []) ⟨hx, hb, hml, hown, hts⟩ hK hP hA hS hZ (c_X12_takes l D cI cL ad zz hJ σ150 τ 59 (59) jz_59 I154 (by omega)) cw_RX12_196 (jc_55 cI cL ad σ150 τ) rfl ⟨Nat.le_of_ble_eq_true rfl, Nat.le_of_ble_eq_true rfl⟩ rfl rfl rfl hl.1 rfl (Nat.le_of_ble_eq_true rfl) dX12_workOut_99 ⟨Nat.zero_le _, Nat.zero_le _⟩ (fun r210 σ209 τ209 H locs h209 hP hS => ?_)
                obtain ⟨rfl, f211, f212, I213, h209⟩ := h209
                obtain ⟨i214, i215, i216, i217, i218⟩ : ((-1) ≤ (σ209 55 18).toInt ∧ (σ209 55 18).toInt ≤ 80) ∧ (0 ≤ (σ209 55 19).toInt) ∧ ((σ209 55 19).toInt ≤ (σ209 55 20).toInt) ∧ ((σ209 55 20).toInt ≤ 80) ∧ ((-1) ≤ (σ209 55 21).toInt) := id I213
                have z219 : (σ209 55 18).toInt = A1 := ((congrArg Int32.toInt (show σ209 55 18 = a1 from ((f212 18 (by decide)).trans ((f153 18 (by decide)).trans ((f74 18 (by decide)).trans ((f60 18 (by decide)).trans ((f29 18 (by decide)).trans ((jkp 18 eσ5 (by decide)).trans ((jkp 18 eσ4 (by decide)).trans ((jkp 18 eσ3 (by decide)).trans ((jkp 18 eσ2 (by decide)).trans (jsp eσ1)))))))))))).trans t1)
                have z220 : (σ209 55 20).toInt = A2 := ((congrArg Int32.toInt (show σ209 55 20 = a2 from ((f212 20 (by decide)).trans ((f153 20 (by decide)).trans ((f74 20 (by decide)).trans ((f60 20 (by decide)).trans ((f29 20 (by decide)).trans ((jkp 20 eσ5 (by decide)).trans ((jkp 20 eσ4 (by decide)).trans (jsp eσ3)))))))))).trans t2)
                have z221 : (σ209 55 21).toInt = (σ150 55 21).toInt := (congrArg Int32.toInt (show σ209 55 21 = (σ150 55 21) from (f212 21 (by decide))))
                rcases h209 with h222 | h223
                · obtain ⟨q226, k224, k225⟩ := h222
                  have q226 := q226.symm
                  subst q226
                  refine lv_istore (lv' := [(5, .int 1), (4, .int r151), (3, .int 1), (6, .int r151), (7, .int 1), (0, .ref (ad 55)), (1, .int a1), (2, .int a2)]) hx hb dX12_workOut_102 hl (by decide) rfl (fun ls hl => ?_)
                  refine lv_goto (tgt := 33) hx hb dX12_workOut_104 (by decide) ?_
                  have z227 : (σ209 55 22).toInt = (σ150 55 22).toInt := (congrArg Int32.toInt (show σ209 55 22 = (σ150 55 22) from (f212 22 (by decide))))
                  exact ihlp6 1 r151 1 σ209 _ _ ls (by have h90 := jz_1; have h92 := jz_1; omega) (by have h90 := jz_1; have h92 := jz_1; omega) (by have h90 := jz_1; have h92 := jz_1; omega) (by have h90 := jz_1; have h92 := jz_1; omega) (by have h90 := jz_1; have h92 := jz_1; omega) (by have h90 := jz_1; have h92 := jz_1; omega) (by have h90 := jz_1; have h92 := jz_1; omega) (by have h90 := jz_1; have h92 := jz_1; omega) (by have h90 := jz_1; have h92 := jz_1; omega) (fun i hi => ((f211 i hi).trans ((f152 i hi).trans ((f73 i hi).trans ((f59 i hi).trans (f28 i hi)))))) (fun i hi => ((f212 i (imp_172 i hi)).trans ((f153 i hi).trans ((f74 i (imp_172 i hi)).trans ((f60 i hi).trans (f29 i hi))))))   hP hS (lv_sub hl [0, 1, 2, 5, 6, 7] rfl)
                · obtain ⟨q229, k228⟩ := h223
                  have q229 := q229.symm
                  subst q229
                  refine lv_istore (lv' := [(5, .int 0), (4, .int r151), (3, .int 1), (6, .int r151), (7, .int 1), (0, .ref (ad 55)), (1, .int a1), (2, .int a2)]) hx hb dX12_workOut_102 hl (by decide) rfl (fun ls hl => ?_)
                  refine lv_goto (tgt := 33) hx hb dX12_workOut_104 (by decide) ?_
                  have z230 : (σ209 55 22).toInt = (σ150 55 22).toInt := (congrArg Int32.toInt (show σ209 55 22 = (σ150 55 22) from (f212 22 (by decide))))
                  exact ihlp6 1 r151 0 σ209 _ _ ls (by have h90 := jz_1; have h92 := jz_0; omega) (by have h90 := jz_1; have h92 := jz_0; omega) (by have h90 := jz_1; have h92 := jz_0; omega) (by have h90 := jz_1; have h92 := jz_0; omega) (by have h90 := jz_1; have h92 := jz_0; omega) (by have h90 := jz_1; have h92 := jz_0; omega) (by have h90 := jz_1; have h92 := jz_0; omega) (by have h90 := jz_1; have h92 := jz_0; omega) (by have h90 := jz_1; have h92 := jz_0; omega) (fun i hi => ((f211 i hi).trans ((f152 i hi).trans ((f73 i hi).trans ((f59 i hi).trans (f28 i hi)))))) (fun i hi => ((f212 i (imp_172 i hi)).trans ((f153 i hi).trans ((f74 i (imp_172 i hi)).trans ((f60 i hi).trans (f29 i hi))))))   hP hS (lv_sub hl [0, 1, 2, 5, 6, 7] rfl)
        · obtain ⟨q232, k231⟩ := h85
          have q232 := q232.symm
          subst q232
          refine lv_if_eq (tgt := 74) hx hb dX12_workOut_53 (by decide) (fun _ => ?_) (fun c => absurd (by decide) c)
          refine lv_aload_n hx hb dX12_workOut_74 rfl (lv_at hl 5 rfl) ?_
          refine va_get (D := D) hx hb hts inlX12 hown hK hP 55 (jc_55 cI cL ad σ71 τ) rfl 21 (by decide) (hts _ kw_15_13) (fun _ h9 => h9) rfl dX12_workOut_75 ?_
          have m233 : σ71 55 21 = (σ57 55 21) := (f74 21 (by decide))
          refine jtopr m233 ?_
          refine lv_if_ge (tgt := 96) hx hb dX12_workOut_78 (by decide) (fun c234 => ?_) (fun c234 => ?_)
          · have kc234 := jle c234 jz_0 rfl
            refine lv_aload_n hx hb dX12_workOut_96 rfl (lv_at hl 5 rfl) ?_
            refine lv_bipush (v := 59) hx hb dX12_workOut_97 (by decide) ?_
            refine jcallV (As := [.int 59]) (rest := []) ⟨hx, hb, hml, hown, hts⟩ hK hP hA hS hZ (c_X12_takes l D cI cL ad zz hJ σ71 τ 59 (59) jz_59 I75 (by omega)) cw_RX12_196 (jc_55 cI cL ad σ71 τ) rfl ⟨Nat.le_of_ble_eq_true rfl, Nat.le_of_ble_eq_true rfl⟩ rfl rfl rfl hl.1 rfl (Nat.le_of_ble_eq_true rfl) dX12_workOut_99 ⟨Nat.zero_le _, Nat.zero_le _⟩ (fun r236 σ235 τ235 H locs h235 hP hS => ?_)
            obtain ⟨rfl, f237, f238, I239, h235⟩ := h235
            obtain ⟨i240, i241, i242, i243, i244⟩ : ((-1) ≤ (σ235 55 18).toInt ∧ (σ235 55 18).toInt ≤ 80) ∧ (0 ≤ (σ235 55 19).toInt) ∧ ((σ235 55 19).toInt ≤ (σ235 55 20).toInt) ∧ ((σ235 55 20).toInt ≤ 80) ∧ ((-1) ≤ (σ235 55 21).toInt) := id I239
            have z245 : (σ235 55 18).toInt = A1 := ((congrArg Int32.toInt (show σ235 55 18 = a1 from ((f238 18 (by decide)).trans ((f74 18 (by decide)).trans ((f60 18 (by decide)).trans ((f29 18 (by decide)).trans ((jkp 18 eσ5 (by decide)).trans ((jkp 18 eσ4 (by decide)).trans ((jkp 18 eσ3 (by decide)).trans ((jkp 18 eσ2 (by decide)).trans (jsp eσ1))))))))))).trans t1)
            have z246 : (σ235 55 20).toInt = A2 := ((congrArg Int32.toInt (show σ235 55 20 = a2 from ((f238 20 (by decide)).trans ((f74 20 (by decide)).trans ((f60 20 (by decide)).trans ((f29 20 (by decide)).trans ((jkp 20 eσ5 (by decide)).trans ((jkp 20 eσ4 (by decide)).trans (jsp eσ3))))))))).trans t2)
            have z247 : (σ235 55 21).toInt = (σ57 55 21).toInt := (congrArg Int32.toInt (show σ235 55 21 = (σ57 55 21) from ((f238 21 (by decide)).trans m233)))
            rcases h235 with h248 | h249
            · obtain ⟨q252, k250, k251⟩ := h248
              exact absurd (by omega : False) id
            · obtain ⟨q254, k253⟩ := h249
              have q254 := q254.symm
              subst q254
              refine lv_istore (lv' := [(5, .int 0), (7, .int 1), (6, .int r58), (4, .int x9), (3, .int x8), (0, .ref (ad 55)), (1, .int a1), (2, .int a2)]) hx hb dX12_workOut_102 hl (by decide) rfl (fun ls hl => ?_)
              refine lv_goto (tgt := 33) hx hb dX12_workOut_104 (by decide) ?_
              have z255 : (σ235 55 22).toInt = (σ57 55 22).toInt := (congrArg Int32.toInt (show σ235 55 22 = (σ57 55 22) from ((f238 22 (by decide)).trans (f74 22 (by decide)))))
              exact ihlp6 x8 x9 0 σ235 _ _ ls (by have h92 := jz_0; omega) (by have h92 := jz_0; omega) (by have h92 := jz_0; omega) (by have h92 := jz_0; omega) (by have h92 := jz_0; omega) (by have h92 := jz_0; omega) (by have h92 := jz_0; omega) (by have h92 := jz_0; omega) (by have h92 := jz_0; omega) (fun i hi => ((f237 i hi).trans ((f73 i hi).trans ((f59 i hi).trans (f28 i hi))))) (fun i hi => ((f238 i (imp_172 i hi)).trans ((f74 i (imp_172 i hi)).trans ((f60 i hi).trans (f29 i hi)))))   hP hS (lv_sub hl [0, 3, 4, 5, 6, 7] rfl)
          · have kc234 := jnle c234 jz_0 rfl
            refine lv_iload hx hb dX12_workOut_81 (lv_at hl 0 rfl) ?_
            refine lv_if_eq (tgt := 96) hx hb dX12_workOut_83 (by decide) (fun c => absurd c (by decide)) (fun _ => ?_)
            refine lv_iload_n hx hb dX12_workOut_86 rfl (lv_at hl 4 rfl) ?_
            refine lv_if_ne (tgt := 96) hx hb dX12_workOut_87 (by decide) (fun c256 => ?_) (fun c256 => ?_)
            · have kc256 := jne c256 rfl jz_0
              refine lv_aload_n hx hb dX12_workOut_96 rfl (lv_at hl 5 rfl) ?_
              refine lv_bipush (v := 59) hx hb dX12_workOut_97 (by decide) ?_
              refine jcallV (As := [.int 59]) (rest := []) ⟨hx, hb, hml, hown, hts⟩ hK hP hA hS hZ (c_X12_takes l D cI cL ad zz hJ σ71 τ 59 (59) jz_59 I75 (by omega)) cw_RX12_196 (jc_55 cI cL ad σ71 τ) rfl ⟨Nat.le_of_ble_eq_true rfl, Nat.le_of_ble_eq_true rfl⟩ rfl rfl rfl hl.1 rfl (Nat.le_of_ble_eq_true rfl) dX12_workOut_99 ⟨Nat.zero_le _, Nat.zero_le _⟩ (fun r258 σ257 τ257 H locs h257 hP hS => ?_)
              obtain ⟨rfl, f259, f260, I261, h257⟩ := h257
              obtain ⟨i262, i263, i264, i265, i266⟩ : ((-1) ≤ (σ257 55 18).toInt ∧ (σ257 55 18).toInt ≤ 80) ∧ (0 ≤ (σ257 55 19).toInt) ∧ ((σ257 55 19).toInt ≤ (σ257 55 20).toInt) ∧ ((σ257 55 20).toInt ≤ 80) ∧ ((-1) ≤ (σ257 55 21).toInt) := id I261
              have z267 : (σ257 55 18).toInt = A1 := ((congrArg Int32.toInt (show σ257 55 18 = a1 from ((f260 18 (by decide)).trans ((f74 18 (by decide)).trans ((f60 18 (by decide)).trans ((f29 18 (by decide)).trans ((jkp 18 eσ5 (by decide)).trans ((jkp 18 eσ4 (by decide)).trans ((jkp 18 eσ3 (by decide)).trans ((jkp 18 eσ2 (by decide)).trans (jsp eσ1))))))))))).trans t1)
              have z268 : (σ257 55 20).toInt = A2 := ((congrArg Int32.toInt (show σ257 55 20 = a2 from ((f260 20 (by decide)).trans ((f74 20 (by decide)).trans ((f60 20 (by decide)).trans ((f29 20 (by decide)).trans ((jkp 20 eσ5 (by decide)).trans ((jkp 20 eσ4 (by decide)).trans (jsp eσ3))))))))).trans t2)
              have z269 : (σ257 55 21).toInt = (σ57 55 21).toInt := (congrArg Int32.toInt (show σ257 55 21 = (σ57 55 21) from ((f260 21 (by decide)).trans m233)))
              rcases h257 with h270 | h271
              · obtain ⟨q274, k272, k273⟩ := h270
                have q274 := q274.symm
                subst q274
                refine lv_istore (lv' := [(5, .int 1), (7, .int 1), (6, .int r58), (4, .int x9), (3, .int x8), (0, .ref (ad 55)), (1, .int a1), (2, .int a2)]) hx hb dX12_workOut_102 hl (by decide) rfl (fun ls hl => ?_)
                refine lv_goto (tgt := 33) hx hb dX12_workOut_104 (by decide) ?_
                have z275 : (σ257 55 22).toInt = (σ57 55 22).toInt := (congrArg Int32.toInt (show σ257 55 22 = (σ57 55 22) from ((f260 22 (by decide)).trans (f74 22 (by decide)))))
                exact ihlp6 x8 x9 1 σ257 _ _ ls (by have h92 := jz_1; omega) (by have h92 := jz_1; omega) (by have h92 := jz_1; omega) (by have h92 := jz_1; omega) (by have h92 := jz_1; omega) (by have h92 := jz_1; omega) (by have h92 := jz_1; omega) (by have h92 := jz_1; omega) (by have h92 := jz_1; omega) (fun i hi => ((f259 i hi).trans ((f73 i hi).trans ((f59 i hi).trans (f28 i hi))))) (fun i hi => ((f260 i (imp_172 i hi)).trans ((f74 i (imp_172 i hi)).trans ((f60 i hi).trans (f29 i hi)))))   hP hS (lv_sub hl [0, 3, 4, 5, 6, 7] rfl)
              · obtain ⟨q277, k276⟩ := h271
                have q277 := q277.symm
                subst q277
                refine lv_istore (lv' := [(5, .int 0), (7, .int 1), (6, .int r58), (4, .int x9), (3, .int x8), (0, .ref (ad 55)), (1, .int a1), (2, .int a2)]) hx hb dX12_workOut_102 hl (by decide) rfl (fun ls hl => ?_)
                refine lv_goto (tgt := 33) hx hb dX12_workOut_104 (by decide) ?_
                have z278 : (σ257 55 22).toInt = (σ57 55 22).toInt := (congrArg Int32.toInt (show σ257 55 22 = (σ57 55 22) from ((f260 22 (by decide)).trans (f74 22 (by decide)))))
                exact ihlp6 x8 x9 0 σ257 _ _ ls (by have h92 := jz_0; omega) (by have h92 := jz_0; omega) (by have h92 := jz_0; omega) (by have h92 := jz_0; omega) (by have h92 := jz_0; omega) (by have h92 := jz_0; omega) (by have h92 := jz_0; omega) (by have h92 := jz_0; omega) (by have h92 := jz_0; omega) (fun i hi => ((f259 i hi).trans ((f73 i hi).trans ((f59 i hi).trans (f28 i hi))))) (fun i hi => ((f260 i (imp_172 i hi)).trans ((f74 i (imp_172 i hi)).trans ((f60 i hi).trans (f29 i hi)))))   hP hS (lv_sub hl [0, 3, 4, 5, 6, 7] rfl)
            · have kc256 := jeq c256 rfl jz_0
              refine lv_iconst (v := 1) hx hb dX12_workOut_90 (by decide) ?_
              refine lv_istore_n (lv' := [(3, .int 1), (7, .int 1), (6, .int r58), (5, .int x10), (4, .int x9), (0, .ref (ad 55)), (1, .int a1), (2, .int a2)]) hx hb dX12_workOut_91 rfl hl (by decide) rfl (fun ls hl => ?_)
              refine lv_iload hx hb dX12_workOut_92 (lv_at hl 2 rfl) ?_
              refine lv_istore (lv' := [(4, .int r58), (3, .int 1), (7, .int 1), (6, .int r58), (5, .int x10), (0, .ref (ad 55)), (1, .int a1), (2, .int a2)]) hx hb dX12_workOut_94 hl (by decide) rfl (fun ls hl => ?_)
              refine lv_aload_n hx hb dX12_workOut_96 rfl (lv_at hl 5 rfl) ?_
              refine lv_bipush (v := 59) hx hb dX12_workOut_97 (by decide) ?_
              refine jcallV (As := [.int 59]) (rest := []) ⟨hx, hb, hml, hown, hts⟩ hK hP hA hS hZ (c_X12_takes l D cI cL ad zz hJ σ71 τ 59 (59) jz_59 I75 (by omega)) cw_RX12_196 (jc_55 cI cL ad σ71 τ) rfl ⟨Nat.le_of_ble_eq_true rfl, Nat.le_of_ble_eq_true rfl⟩ rfl rfl rfl hl.1 rfl (Nat.le_of_ble_eq_true rfl) dX12_workOut_99 ⟨Nat.zero_le _, Nat.zero_le _⟩ (fun r280 σ279 τ279 H locs h279 hP hS => ?_)
              obtain ⟨rfl, f281, f282, I283, h279⟩ := h279
              obtain ⟨i284, i285, i286, i287, i288⟩ : ((-1) ≤ (σ279 55 18).toInt ∧ (σ279 55 18).toInt ≤ 80) ∧ (0 ≤ (σ279 55 19).toInt) ∧ ((σ279 55 19).toInt ≤ (σ279 55 20).toInt) ∧ ((σ279 55 20).toInt ≤ 80) ∧ ((-1) ≤ (σ279 55 21).toInt) := id I283
              have z289 : (σ279 55 18).toInt = A1 := ((congrArg Int32.toInt (show σ279 55 18 = a1 from ((f282 18 (by decide)).trans ((f74 18 (by decide)).trans ((f60 18 (by decide)).trans ((f29 18 (by decide)).trans ((jkp 18 eσ5 (by decide)).trans ((jkp 18 eσ4 (by decide)).trans ((jkp 18 eσ3 (by decide)).trans ((jkp 18 eσ2 (by decide)).trans (jsp eσ1))))))))))).trans t1)
              have z290 : (σ279 55 20).toInt = A2 := ((congrArg Int32.toInt (show σ279 55 20 = a2 from ((f282 20 (by decide)).trans ((f74 20 (by decide)).trans ((f60 20 (by decide)).trans ((f29 20 (by decide)).trans ((jkp 20 eσ5 (by decide)).trans ((jkp 20 eσ4 (by decide)).trans (jsp eσ3))))))))).trans t2)
              have z291 : (σ279 55 21).toInt = (σ57 55 21).toInt := (congrArg Int32.toInt (show σ279 55 21 = (σ57 55 21) from ((f282 21 (by decide)).trans m233)))
              rcases h279 with h292 | h293
              · obtain ⟨q296, k294, k295⟩ := h292
                have q296 := q296.symm
                subst q296
                refine lv_istore (lv' := [(5, .int 1), (4, .int r58), (3, .int 1), (7, .int 1), (6, .int r58), (0, .ref (ad 55)), (1, .int a1), (2, .int a2)]) hx hb dX12_workOut_102 hl (by decide) rfl (fun ls hl => ?_)
                refine lv_goto (tgt := 33) hx hb dX12_workOut_104 (by decide) ?_
                have z297 : (σ279 55 22).toInt = (σ57 55 22).toInt := (congrArg Int32.toInt (show σ279 55 22 = (σ57 55 22) from ((f282 22 (by decide)).trans (f74 22 (by decide)))))
                exact ihlp6 1 r58 1 σ279 _ _ ls (by have h90 := jz_1; have h92 := jz_1; omega) (by have h90 := jz_1; have h92 := jz_1; omega) (by have h90 := jz_1; have h92 := jz_1; omega) (by have h90 := jz_1; have h92 := jz_1; omega) (by have h90 := jz_1; have h92 := jz_1; omega) (by have h90 := jz_1; have h92 := jz_1; omega) (by have h90 := jz_1; have h92 := jz_1; omega) (by have h90 := jz_1; have h92 := jz_1; omega) (by have h90 := jz_1; have h92 := jz_1; omega) (fun i hi => ((f281 i hi).trans ((f73 i hi).trans ((f59 i hi).trans (f28 i hi))))) (fun i hi => ((f282 i (imp_172 i hi)).trans ((f74 i (imp_172 i hi)).trans ((f60 i hi).trans (f29 i hi)))))   hP hS (lv_sub hl [0, 1, 2, 5, 6, 7] rfl)
              · obtain ⟨q299, k298⟩ := h293
                have q299 := q299.symm
                subst q299
                refine lv_istore (lv' := [(5, .int 0), (4, .int r58), (3, .int 1), (7, .int 1), (6, .int r58), (0, .ref (ad 55)), (1, .int a1), (2, .int a2)]) hx hb dX12_workOut_102 hl (by decide) rfl (fun ls hl => ?_)
                refine lv_goto (tgt := 33) hx hb dX12_workOut_104 (by decide) ?_
                have z300 : (σ279 55 22).toInt = (σ57 55 22).toInt := (congrArg Int32.toInt (show σ279 55 22 = (σ57 55 22) from ((f282 22 (by decide)).trans (f74 22 (by decide)))))
                exact ihlp6 1 r58 0 σ279 _ _ ls (by have h90 := jz_1; have h92 := jz_0; omega) (by have h90 := jz_1; have h92 := jz_0; omega) (by have h90 := jz_1; have h92 := jz_0; omega) (by have h90 := jz_1; have h92 := jz_0; omega) (by have h90 := jz_1; have h92 := jz_0; omega) (by have h90 := jz_1; have h92 := jz_0; omega) (by have h90 := jz_1; have h92 := jz_0; omega) (by have h90 := jz_1; have h92 := jz_0; omega) (by have h90 := jz_1; have h92 := jz_0; omega) (fun i hi => ((f281 i hi).trans ((f73 i hi).trans ((f59 i hi).trans (f28 i hi))))) (fun i hi => ((f282 i (imp_172 i hi)).trans ((f74 i (imp_172 i hi)).trans ((f60 i hi).trans (f29 i hi)))))   hP hS (lv_sub hl [0, 1, 2, 5, 6, 7] rfl)
  exact lp6 1000000 0 0 1 σ5 _ _ ls (by have h90 := jz_0; have h91 := jz_0; have h92 := jz_1; omega) (by have h90 := jz_0; have h91 := jz_0; have h92 := jz_1; omega) (by have h90 := jz_0; have h91 := jz_0; have h92 := jz_1; omega) (by have h90 := jz_0; have h91 := jz_0; have h92 := jz_1; omega) (by have h90 := jz_0; have h91 := jz_0; have h92 := jz_1; omega) (by have h90 := jz_0; have h91 := jz_0; have h92 := jz_1; omega) (by have h90 := jz_0; have h91 := jz_0; have h92 := jz_1; omega) (by have h90 := jz_0; have h91 := jz_0; have h92 := jz_1; omega) (by have h90 := jz_0; have h91 := jz_0; have h92 := jz_1; omega) (fun _ _ => rfl) (fun _ _ => rfl)   hP hS hl
set_option maxHeartbeats 4000000 in
set_option maxRecDepth 100000 in
theorem c_X12_text (l : Launch) (D : va_G) (cI cL : ClassId) (ad zz : Nat → Nat) (hJ : jD ad) (σ : Nat → Nat → Int32) (τ : Nat → Nat → Int64) (a1 : Int32) (A1 : Int) (t1 : a1.toInt = A1) (hI105 : jI105 σ) : jM l yX12_text cX12_text 5 (some .int) ({ frames := 65, cells := 0, slots := 0, locals := 2809 }) D cI cL ad zz [.ref (ad 55), .int a1] σ τ (fun r σ' τ' => τ = τ' ∧ (∀ i : Nat, (i < 55 ∨ 55 < i) ∧ (i < 64 ∨ 65 < i) → σ' i = σ i) ∧ (∀ k : Nat, (k < 15 ∨ 15 < k) ∧ (k < 18 ∨ 18 < k) ∧ (k < 19 ∨ 19 < k) ∧ (k < 20 ∨ 20 < k) ∧ (k < 21 ∨ 21 < k) ∧ (k < 22 ∨ 22 < k) → σ' 55 k = σ 55 k) ∧ (jI105 σ') ∧ ((0 ≤ A1 ∧ A1 ≤ 1 ∧ (σ' 55 15).toInt = 0) ∨ (A1 < 0 ∧ (σ' 55 15).toInt = (σ 55 15).toInt) ∨ (1 < A1 ∧ (σ' 55 15).toInt = (σ 55 15).toInt)) ∧ True) := by
  refine jM.of hJ (by decide +kernel) (nt := .int) rfl (Nat.le_of_ble_eq_true rfl) ?_
  intro p e s m args below meth c Q ls hC hret hl hP
  obtain ⟨hx, hb, hr, hml, hown, hts, hK, -, hlocks, hZ⟩ := hC
  have hown : s.vm.findClass RX12 = some m.cls := hown
  have hS : va_S (jA ad) s.heap s.heap [] := va_S.rf
  have hA : ∀ q, jA ad q → jA ad q := fun _ h => h
  have hl : lv_has ls 5 [(0, .ref (ad 55)), (1, .int a1)] := hl
  have g1 := jrg t1
  obtain ⟨i1, w2⟩ : (0 ≤ (σ 55 15).toInt ∧ (σ 55 15).toInt ≤ 80) ∧ (∀ k : Nat, k < 2 → (-1) ≤ (σ 65 k).toInt ∧ (σ 65 k).toInt ≤ 80) := id hI105
  refine lv_iload_n hx hb dX12_text_0 rfl (lv_at hl 1 rfl) ?_
  refine lv_i2l (v := a1.toInt64) hx hb dX12_text_1 rfl ?_
  refine lv_lconst (v := 0) hx hb dX12_text_2 (by decide) ?_
  refine lv_lconst (v := 1) hx hb dX12_text_3 (by decide) ?_
  refine jcallS (As := [.long a1.toInt64, .long 0, .long 1]) (rest := []) ⟨hx, hb, hml, hown, hts⟩ hK hP hA hS hZ (c_X12_within l D cI cL ad zz hJ σ τ a1.toInt64 (A1) (jtoL t1) 0 (0) jzl_0 1 (1) jzl_1) cw_RX12_136 ⟨Nat.le_of_ble_eq_true rfl, Nat.le_of_ble_eq_true rfl⟩ rfl rfl rfl hl.1 rfl (Nat.le_of_ble_eq_true rfl) dX12_text_4 ⟨Nat.zero_le _, Nat.zero_le _⟩ (fun r4 σ3 τ3 H locs h3 hP hS => ?_)
  obtain ⟨⟨rfl, rfl⟩, h3⟩ := h3
  rcases h3 with h5 | h6
  · obtain ⟨q8, k7⟩ := h5
    have q8 := q8.symm
    subst q8
    refine lv_if_ne (tgt := 12) hx hb dX12_text_7 (by decide) (fun _ => ?_) (fun c => absurd c (by decide))
    refine lv_aload_n hx hb dX12_text_12 rfl (lv_at hl 0 rfl) ?_
    refine lv_iconst (v := (-1)) hx hb dX12_text_13 (by decide) ?_
    refine lv_aload_n hx hb dX12_text_14 rfl (lv_at hl 0 rfl) ?_
    refine va_get (D := D) hx hb hts inlX12 hown hK hP 55 (jc_55 cI cL ad σ τ) rfl 15 (by decide) (hts _ kw_13_6) (fun _ h9 => h9) rfl dX12_text_15 ?_
    refine jcallV (As := [.int (-1), .int (σ 55 15)]) (rest := []) ⟨hx, hb, hml, hown, hts⟩ hK hP hA hS hZ (c_X12_workOut l D cI cL ad zz hJ σ τ (-1) ((-1)) jz_m1 (σ 55 15) ((σ 55 15).toInt) rfl (by omega) (by omega)) cw_RX12_224 (jc_55 cI cL ad σ τ) rfl ⟨Nat.le_of_ble_eq_true rfl, Nat.le_of_ble_eq_true rfl⟩ rfl rfl rfl hl.1 rfl (Nat.le_of_ble_eq_true rfl) dX12_text_18 ⟨Nat.zero_le _, Nat.zero_le _⟩ (fun r10 σ9 τ9 H locs h9 hP hS => ?_)
    obtain ⟨rfl, f11, f12, I13, h9⟩ := h9
    obtain ⟨i14, i15, i16, i17, i18⟩ : ((-1) ≤ (σ9 55 18).toInt ∧ (σ9 55 18).toInt ≤ 80) ∧ (0 ≤ (σ9 55 19).toInt) ∧ ((σ9 55 19).toInt ≤ (σ9 55 20).toInt) ∧ ((σ9 55 20).toInt ≤ 80) ∧ ((-1) ≤ (σ9 55 21).toInt) := id I13
    refine lv_istore_n (lv' := [(2, .int r10), (0, .ref (ad 55)), (1, .int a1)]) hx hb dX12_text_21 rfl hl (by decide) rfl (fun ls hl => ?_)
    refine lv_aload_n hx hb dX12_text_22 rfl (lv_at hl 1 rfl) ?_
    refine va_get (D := D) hx hb hts inlX12 hown hK hP 55 (jc_55 cI cL ad σ9 τ) rfl 15 (by decide) (hts _ kw_13_6) (fun _ h9 => h9) rfl dX12_text_23 ?_
    have m19 : σ9 55 15 = (σ 55 15) := (f12 15 (by decide))
    refine jtopr m19 ?_
    refine lv_istore_n (lv' := [(3, .int (σ 55 15)), (2, .int r10), (0, .ref (ad 55)), (1, .int a1)]) hx hb dX12_text_26 rfl hl (by decide) rfl (fun ls hl => ?_)
    refine lv_aload_n hx hb dX12_text_27 rfl (lv_at hl 2 rfl) ?_
    refine lv_iconst (v := 0) hx hb dX12_text_28 (by decide) ?_
    refine jput (ty := .int) hx hb hts inlX12 tyX12 tyX12_ok nmX12 hown hK hP hJ hA hS (jc_55 cI cL ad σ9 τ) rfl (k := 15) (by decide) (Nat.le_of_ble_eq_true rfl) (jp_55_15 cI cL ad σ9 τ 0) (hts _ kw_13_6) (fun _ h9 => h9) rfl (by decide +kernel) rfl rfl dX12_text_29 (fun σ20 H locs eσ20 hP hS => ?_)
    refine lv_aload_n hx hb dX12_text_32 rfl (lv_at hl 2 rfl) ?_
    refine va_get (D := D) hx hb hts inlX12 hown hK hP 55 (jc_55 cI cL ad σ20 τ) rfl 21 (by decide) (hts _ kw_15_13) (fun _ h9 => h9) rfl dX12_text_33 ?_
    have m21 : σ20 55 21 = (σ9 55 21) := (jkp 21 eσ20 (by decide))
    refine jtopr m21 ?_
    refine lv_if_lt (tgt := 47) hx hb dX12_text_36 (by decide) (fun c22 => ?_) (fun c22 => ?_)
    · have kc22 := jlt c22 rfl jz_0
      refine lv_iconst (v := 0) hx hb dX12_text_47 (by decide) ?_
      refine lv_istore (lv' := [(4, .int 0), (3, .int (σ 55 15)), (2, .int r10), (0, .ref (ad 55)), (1, .int a1)]) hx hb dX12_text_48 hl (by decide) rfl (fun ls hl => ?_)
      have lp23 : ∀ (n24 : Nat) (x25 : Int32) (σ26 : Nat → Nat → Int32) (H : Heap) (locs : List Loc) (ls : Array Slot), ((σ 55 15).toInt - x25.toInt : Int) < n24 → 0 ≤ x25.toInt → x25.toInt ≤ 80 → x25.toInt ≤ (σ 55 15).toInt → (∀ i : Nat, (i < 64 ∨ 64 < i) → σ26 i = σ20 i) → jH D cI cL ad σ26 τ H → va_S (jA ad) s.heap H locs → lv_has ls 5 [(4, .int x25), (3, .int (σ 55 15)), (2, .int r10), (0, .ref (ad 55)), (1, .int a1)] → W p l e ({ frames := 65, cells := 0, slots := 0, locals := 2809 }) s m args below meth c H locs 0 0 Q (F0 m 50 ls []) := by
        intro n24
        induction n24 with
        | zero => intro x25 σ26 H locs ls h27 h28 h29 h30; exact absurd h27 (by omega)
        | succ n24 ihlp23 =>
          intro x25 σ26 H locs ls h27 h28 h29 h30 f31 hP hS hl
          refine lv_iload hx hb dX12_text_50 (lv_at hl 0 rfl) ?_
          refine lv_iload_n hx hb dX12_text_52 rfl (lv_at hl 1 rfl) ?_
          refine lv_icmp_ge (tgt := 81) hx hb dX12_text_53 (by decide) (fun c32 => ?_) (fun c32 => ?_)
          · have kc32 := jle c32 rfl rfl
            refine lv_aload_n hx hb dX12_text_81 rfl (lv_at hl 3 rfl) ?_
            refine va_get (D := D) hx hb hts inlX12 hown hK hP 55 (jc_55 cI cL ad σ26 τ) rfl 17 (by decide) (hts _ kw_7_11) (fun _ h9 => h9) rfl dX12_text_82 ?_
            refine lv_iload_n hx hb dX12_text_85 rfl (lv_at hl 4 rfl) ?_
            refine lv_iload_n hx hb dX12_text_86 rfl (lv_at hl 1 rfl) ?_
            refine jast hx hb hK hP hJ hA hS (jc_65 cI cL ad σ26 τ) (ja_65 cI cL ad σ26 τ _ _) (jin t1 (by omega) (by omega)) dX12_text_87 (fun σ33 H locs eσ33 hP hS => ?_)
            refine lv_iconst (v := 1) hx hb dX12_text_88 (by decide) ?_
            have z34 : (σ33 55 15).toInt = 0 := ((congrArg Int32.toInt (show σ33 55 15 = 0 from ((congrFun (jnp 55 eσ33 (by decide)) 15).trans ((congrFun (f31 55 (by decide)) 15).trans (jsp eσ20))))).trans jz_0)
            have w35 : ∀ k : Nat, k < 2 → (-1) ≤ (σ33 65 k).toInt ∧ (σ33 65 k).toInt ≤ 80 := (by rw [eσ33]; exact jrr_up (jrr_fr (f31 65 (by decide)) (jrr_fr (jnp 65 eσ20 (by decide)) (jrr_fr (f11 65 (by decide)) w2))) (by omega) (by omega))
            have I36 : jI105 σ33 := ⟨(by omega), w35⟩
            exact hret 1 σ33 τ _ _ _ _ rfl ⟨rfl, (fun i hi => ((jnp i eσ33 (imp_180 i hi)).trans ((f31 i (imp_181 i hi)).trans ((jnp i eσ20 (imp_182 i hi)).trans (f11 i (imp_183 i hi)))))), (fun i hi => ((congrFun (jnp 55 eσ33 (by decide)) i).trans ((congrFun (f31 55 (by decide)) i).trans ((jkp i eσ20 (imp_184 i hi)).trans (f12 i (imp_185 i hi)))))), I36, (by omega), trivial⟩ hP hS dX12_text_89
          · have kc32 := jnle c32 rfl rfl
            refine lv_aload_n hx hb dX12_text_56 rfl (lv_at hl 3 rfl) ?_
            refine va_get (D := D) hx hb hts inlX12 hown hK hP 55 (jc_55 cI cL ad σ26 τ) rfl 16 (by decide) (hts _ kw_7_10) (fun _ h9 => h9) rfl dX12_text_57 ?_
            refine lv_bipush (v := 80) hx hb dX12_text_60 (by decide) ?_
            refine lv_iload_n hx hb dX12_text_62 rfl (lv_at hl 4 rfl) ?_
            refine lv_imul hx hb dX12_text_63 ?_
            refine lv_topi (fun x37 ex37 => ?_)
            have tx37 : x37.toInt = 80 * A1 := (jmul ex37 jz_80 t1 (by omega) (by omega)).trans (by omega)
            refine lv_iload hx hb dX12_text_64 (lv_at hl 0 rfl) ?_
            have g38 := jrg (rfl : x25.toInt = x25.toInt)
            refine lv_iadd hx hb dX12_text_66 ?_
            refine lv_topi (fun x39 ex39 => ?_)
            have tx39 : x39.toInt = 80 * A1 + x25.toInt := (jadd ex39 tx37 rfl (by omega) (by omega)).trans (by omega)
            refine lv_aload_n hx hb dX12_text_67 rfl (lv_at hl 3 rfl) ?_
            refine va_get (D := D) hx hb hts inlX12 hown hK hP 55 (jc_55 cI cL ad σ26 τ) rfl 14 (by decide) (hts _ kw_7_9) (fun _ h9 => h9) rfl dX12_text_68 ?_
            refine lv_iload hx hb dX12_text_71 (lv_at hl 0 rfl) ?_
            refine jald hx hb hK hP (jc_63 cI cL ad σ26 τ) (jin rfl (by omega) (by omega)) dX12_text_73 ?_
            refine lv_topi (fun x40 ex40 => ?_)
            refine jast hx hb hK hP hJ hA hS (jc_64 cI cL ad σ26 τ) (ja_64 cI cL ad σ26 τ _ _) (jin tx39 (by omega) (by omega)) dX12_text_74 (fun σ41 H locs eσ41 hP hS => ?_)
            obtain ⟨x42, ex42⟩ : ∃ y : Int32, y = x25 + 1 := ⟨_, rfl⟩
            have tx42 : x42.toInt = x25.toInt + 1 := (jadd ex42 rfl jz_1 (by omega) (by omega)).trans (by omega)
            refine lv_iinc (v := x42) (lv' := [(4, .int x42), (3, .int (σ 55 15)), (2, .int r10), (0, .ref (ad 55)), (1, .int a1)]) hx hb dX12_text_75 hl (k := 0) rfl (by rw [ex42]; rfl) (by decide) rfl (fun ls hl => ?_)
            refine lv_goto (tgt := 50) hx hb dX12_text_78 (by decide) ?_
            exact ihlp23 x42 σ41 _ _ ls (by have h90 := tx42; omega) (by have h90 := tx42; omega) (by have h90 := tx42; omega) (by have h90 := tx42; omega) (fun i hi => ((jnp i eσ41 (imp_186 i hi)).trans (f31 i hi)))    hP hS (lv_sub hl [0, 1, 2, 3, 4] rfl)
      exact lp23 1000000 0 σ20 _ _ ls (by have h90 := jz_0; omega) (by have h90 := jz_0; omega) (by have h90 := jz_0; omega) (by have h90 := jz_0; omega) (fun _ _ => rfl)   hP hS hl
    · have kc22 := jnlt c22 rfl jz_0
      refine lv_bipush (v := (-100)) hx hb dX12_text_39 (by decide) ?_
      refine lv_aload_n hx hb dX12_text_41 rfl (lv_at hl 2 rfl) ?_
      refine va_get (D := D) hx hb hts inlX12 hown hK hP 55 (jc_55 cI cL ad σ20 τ) rfl 21 (by decide) (hts _ kw_15_13) (fun _ h9 => h9) rfl dX12_text_42 ?_
      refine jtopr m21 ?_
      have g43 := jrg (rfl : (σ9 55 21).toInt = (σ9 55 21).toInt)
      refine lv_isub hx hb dX12_text_45 ?_
      refine lv_topi (fun x44 ex44 => ?_)
      have gx44 := jrg (rfl : x44.toInt = x44.toInt)
      have z45 : (σ20 55 15).toInt = 0 := ((congrArg Int32.toInt (show σ20 55 15 = 0 from (jsp eσ20))).trans jz_0)
      have w46 : ∀ k : Nat, k < 2 → (-1) ≤ (σ20 65 k).toInt ∧ (σ20 65 k).toInt ≤ 80 := (jrr_fr (jnp 65 eσ20 (by decide)) (jrr_fr (f11 65 (by decide)) w2))
      have I47 : jI105 σ20 := ⟨(by omega), w46⟩
      exact hret x44 σ20 τ _ _ _ _ rfl ⟨rfl, (fun i hi => ((jnp i eσ20 (imp_182 i hi)).trans (f11 i (imp_183 i hi)))), (fun i hi => ((jkp i eσ20 (imp_184 i hi)).trans (f12 i (imp_185 i hi)))), I47, (by omega), trivial⟩ hP hS dX12_text_46
  · obtain ⟨q49, k48⟩ := h6
    have q49 := q49.symm
    subst q49
    refine lv_if_ne (tgt := 12) hx hb dX12_text_7 (by decide) (fun c => absurd (by decide) c) (fun _ => ?_)
    refine lv_iconst (v := (-1)) hx hb dX12_text_10 (by decide) ?_
    exact hret (-1) σ τ _ _ _ _ rfl ⟨rfl, (fun _ _ => rfl), (fun _ _ => rfl), hI105, (by omega), trivial⟩ hP hS dX12_text_11
