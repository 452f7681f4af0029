set_option maxHeartbeats 4000000 in
set_option maxRecDepth 100000 in
theorem c_X12_becomes (l : Launch) (D : va_G) (cI cL : ClassId) (ad zz : Nat → Nat) (hJ : jD ad) (σ : Nat → Nat → Int32) (τ : Nat → Nat → Int64) (a1 : Int32) (A1 : Int) (t1 : a1.toInt = A1) (a2 : Int32) (A2 : Int) (t2 : a2.toInt = A2) (hI101 : jI101 σ) (hp0 : 0 ≤ A1 ∧ A1 ≤ 67) (hp1 : (-200) ≤ A2 ∧ A2 ≤ 500) : jM l yX12_becomes cX12_becomes 5 (some .int) ({ frames := 0, cells := 0, slots := 0, locals := 0 }) D cI cL ad zz [.ref (ad 55), .int a1, .int a2] σ τ (fun r σ' τ' => τ = τ' ∧ (∀ i : Nat, (i < 55 ∨ 59 < i) → σ' i = σ i) ∧ (∀ k : Nat, (k < 4 ∨ 4 < k) ∧ (k < 5 ∨ 5 < k) → σ' 55 k = σ 55 k) ∧ (jI101 σ') ∧ (jChg (A1) a2 r (σ 56) (σ' 56) (σ 57) (σ' 57) (σ 58) (σ' 58) (σ 59) (σ' 59) (σ 55 5).toInt (σ' 55 5).toInt (σ 55 4).toInt (σ' 55 4).toInt) ∧ True) := by
  refine jM.of hJ (by decide +kernel) (nt := .int) rfl (Nat.le_of_ble_eq_true rfl) ?_
  intro p e s m args below meth c Q ls hC hret hl hP
  obtain ⟨hx, hb, hr, hml, hown, hts, hK, -, hlocks, hZ⟩ := hC
  have hown : s.vm.findClass RX12 = some m.cls := hown
  have hS : va_S (jA ad) s.heap s.heap [] := va_S.rf
  have hA : ∀ q, jA ad q → jA ad q := fun _ h => h
  have hl : lv_has ls 5 [(0, .ref (ad 55)), (1, .int a1), (2, .int a2)] := hl
  have g1 := jrg t1
  have g2 := jrg t2
  obtain ⟨i1, i2, i3, w4, w5, w6, w7⟩ : (0 ≤ (σ 55 5).toInt) ∧ ((σ 55 5).toInt ≤ (σ 55 4).toInt) ∧ ((σ 55 4).toInt ≤ 40) ∧ (∀ k : Nat, k < 68 → (-200) ≤ (σ 56 k).toInt ∧ (σ 56 k).toInt ≤ 500) ∧ (∀ k : Nat, k < 40 → 0 ≤ (σ 57 k).toInt ∧ (σ 57 k).toInt ≤ 67) ∧ (∀ k : Nat, k < 40 → (-200) ≤ (σ 58 k).toInt ∧ (σ 58 k).toInt ≤ 500) ∧ (∀ k : Nat, k < 40 → (-200) ≤ (σ 59 k).toInt ∧ (σ 59 k).toInt ≤ 500) := id hI101
  refine lv_aload_n hx hb dX12_becomes_0 rfl (lv_at hl 0 rfl) ?_
  refine va_get (D := D) hx hb hts inlX12 hown hK hP 55 (jc_55 cI cL ad σ τ) rfl 0 (of_decide_eq_true rfl) (hts _ kw_7_2) (fun _ h9 => h9) rfl dX12_becomes_1 ?_
  refine lv_iload_n hx hb dX12_becomes_4 rfl (lv_at hl 1 rfl) ?_
  exact by
   refine jald hx hb hK hP (jc_56 cI cL ad σ τ) (jin t1 (by omega) (by omega)) dX12_becomes_5 ?_
   have g8 := w4 _ (jnat (x := a1) t1 (n := 68) (by omega) (of_decide_eq_true rfl))
   refine jtopr (y := (σ 56 a1.toNatClampNeg)) rfl ?_
   refine lv_istore_n (lv' := [(3, .int (σ 56 a1.toNatClampNeg)), (0, .ref (ad 55)), (1, .int a1), (2, .int a2)]) hx hb dX12_becomes_6 rfl hl (of_decide_eq_true rfl) rfl (fun ls hl => ?_)
   refine lv_iload_n hx hb dX12_becomes_7 rfl (lv_at hl 0 rfl) ?_
   refine lv_iload_n hx hb dX12_becomes_8 rfl (lv_at hl 3 rfl) ?_
   refine lv_icmp_ne (tgt := 14) hx hb dX12_becomes_9 (of_decide_eq_true rfl) (fun c9 => ?_) (fun c9 => ?_)
   · have kc9 := jne c9 rfl t2
     refine lv_aload_n hx hb dX12_becomes_14 rfl (lv_at hl 1 rfl) ?_
     exact by
      refine va_get (D := D) hx hb hts inlX12 hown hK hP 55 (jc_55 cI cL ad σ τ) rfl 5 (of_decide_eq_true rfl) (hts _ kw_11_16) (fun _ h9 => h9) rfl dX12_becomes_15 ?_
      refine lv_bipush (v := 40) hx hb dX12_becomes_18 (of_decide_eq_true rfl) ?_
      refine lv_icmp_ne (tgt := 97) hx hb dX12_becomes_20 (of_decide_eq_true rfl) (fun c10 => ?_) (fun c10 => ?_)
      · have kc10 := jne c10 rfl jz_40
        refine lv_aload_n hx hb dX12_becomes_97 rfl (lv_at hl 1 rfl) ?_
        refine va_get (D := D) hx hb hts inlX12 hown hK hP 55 (jc_55 cI cL ad σ τ) rfl 1 (of_decide_eq_true rfl) (hts _ kw_7_3) (fun _ h9 => h9) rfl dX12_becomes_98 ?_
        refine lv_aload_n hx hb dX12_becomes_101 rfl (lv_at hl 1 rfl) ?_
        refine va_get (D := D) hx hb hts inlX12 hown hK hP 55 (jc_55 cI cL ad σ τ) rfl 5 (of_decide_eq_true rfl) (hts _ kw_11_16) (fun _ h9 => h9) rfl dX12_becomes_102 ?_
        refine lv_iload_n hx hb dX12_becomes_105 rfl (lv_at hl 2 rfl) ?_
        exact by
         refine jast hx hb hK hP hJ hA hS (jc_57 cI cL ad σ τ) (ja_57 cI cL ad σ τ _ _) (jin rfl (by omega) (by omega)) dX12_becomes_106 (fun σ11 H locs eσ11 hP hS => ?_)
         refine lv_aload_n hx hb dX12_becomes_107 rfl (lv_at hl 1 rfl) ?_
         refine va_get (D := D) hx hb hts inlX12 hown hK hP 55 (jc_55 cI cL ad σ11 τ) rfl 2 (of_decide_eq_true rfl) (hts _ kw_7_4) (fun _ h9 => h9) rfl dX12_becomes_108 ?_
         refine lv_aload_n hx hb dX12_becomes_111 rfl (lv_at hl 1 rfl) ?_
         refine va_get (D := D) hx hb hts inlX12 hown hK hP 55 (jc_55 cI cL ad σ11 τ) rfl 5 (of_decide_eq_true rfl) (hts _ kw_11_16) (fun _ h9 => h9) rfl dX12_becomes_112 ?_
         have m12 : σ11 55 5 = (σ 55 5) := (congrFun (jnp 55 eσ11 (of_decide_eq_true rfl)) 5)
         refine jtopr m12 ?_
         refine lv_iload_n hx hb dX12_becomes_115 rfl (lv_at hl 0 rfl) ?_
         refine jast hx hb hK hP hJ hA hS (jc_58 cI cL ad σ11 τ) (ja_58 cI cL ad σ11 τ _ _) (jin rfl (by omega) (by omega)) dX12_becomes_116 (fun σ13 H locs eσ13 hP hS => ?_)
         exact by
          refine lv_aload_n hx hb dX12_becomes_117 rfl (lv_at hl 1 rfl) ?_
          refine va_get (D := D) hx hb hts inlX12 hown hK hP 55 (jc_55 cI cL ad σ13 τ) rfl 3 (of_decide_eq_true rfl) (hts _ kw_7_5) (fun _ h9 => h9) rfl dX12_becomes_118 ?_
          refine lv_aload_n hx hb dX12_becomes_121 rfl (lv_at hl 1 rfl) ?_
          refine va_get (D := D) hx hb hts inlX12 hown hK hP 55 (jc_55 cI cL ad σ13 τ) rfl 5 (of_decide_eq_true rfl) (hts _ kw_11_16) (fun _ h9 => h9) rfl dX12_becomes_122 ?_
          have m14 : σ13 55 5 = (σ 55 5) := ((congrFun (jnp 55 eσ13 (of_decide_eq_true rfl)) 5).trans m12)
          refine jtopr m14 ?_
          refine lv_iload_n hx hb dX12_becomes_125 rfl (lv_at hl 3 rfl) ?_
          refine jast hx hb hK hP hJ hA hS (jc_59 cI cL ad σ13 τ) (ja_59 cI cL ad σ13 τ _ _) (jin rfl (by omega) (by omega)) dX12_becomes_126 (fun σ15 H locs eσ15 hP hS => ?_)
          refine lv_aload_n hx hb dX12_becomes_127 rfl (lv_at hl 1 rfl) ?_
          exact by
           refine lv_dup hx hb dX12_becomes_128 rfl ?_
           refine va_get (D := D) hx hb hts inlX12 hown hK hP 55 (jc_55 cI cL ad σ15 τ) rfl 5 (of_decide_eq_true rfl) (hts _ kw_11_16) (fun _ h9 => h9) rfl dX12_becomes_129 ?_
           have m16 : σ15 55 5 = (σ 55 5) := ((congrFun (jnp 55 eσ15 (of_decide_eq_true rfl)) 5).trans m14)
           refine jtopr m16 ?_
           refine lv_iconst (v := 1) hx hb dX12_becomes_132 (of_decide_eq_true rfl) ?_
           have g17 := jrg (rfl : (σ 55 5).toInt = (σ 55 5).toInt)
           refine lv_iadd hx hb dX12_becomes_133 ?_
           refine lv_topi (fun x18 ex18 => ?_)
           have tx18 : x18.toInt = (σ 55 5).toInt + 1 := (jadd ex18 rfl jz_1 (by omega) (by omega)).trans (by omega)
           exact by
            refine jput (ty := .int) hx hb hts inlX12 tyX12 tyX12_ok nmX12 hown hK hP hJ hA hS (jc_55 cI cL ad σ15 τ) rfl (k := 5) (of_decide_eq_true rfl) (Nat.le_of_ble_eq_true rfl) (jp_55_5 cI cL ad σ15 τ x18) (hts _ kw_11_16) (fun _ h9 => h9) rfl (by decide +kernel) rfl rfl dX12_becomes_134 (fun σ19 H locs eσ19 hP hS => ?_)
            refine lv_aload_n hx hb dX12_becomes_137 rfl (lv_at hl 1 rfl) ?_
            refine lv_aload_n hx hb dX12_becomes_138 rfl (lv_at hl 1 rfl) ?_
            refine va_get (D := D) hx hb hts inlX12 hown hK hP 55 (jc_55 cI cL ad σ19 τ) rfl 5 (of_decide_eq_true rfl) (hts _ kw_11_16) (fun _ h9 => h9) rfl dX12_becomes_139 ?_
            have m20 : σ19 55 5 = x18 := (jsp eσ19)
            refine jtopr m20 ?_
            refine jput (ty := .int) hx hb hts inlX12 tyX12 tyX12_ok nmX12 hown hK hP hJ hA hS (jc_55 cI cL ad σ19 τ) rfl (k := 4) (of_decide_eq_true rfl) (Nat.le_of_ble_eq_true rfl) (jp_55_4 cI cL ad σ19 τ x18) (hts _ kw_11_17) (fun _ h9 => h9) rfl (by decide +kernel) rfl rfl dX12_becomes_142 (fun σ21 H locs eσ21 hP hS => ?_)
            refine lv_aload_n hx hb dX12_becomes_145 rfl (lv_at hl 1 rfl) ?_
            refine va_get (D := D) hx hb hts inlX12 hown hK hP 55 (jc_55 cI cL ad σ21 τ) rfl 0 (of_decide_eq_true rfl) (hts _ kw_7_2) (fun _ h9 => h9) rfl dX12_becomes_146 ?_
            refine lv_iload_n hx hb dX12_becomes_149 rfl (lv_at hl 2 rfl) ?_
            refine lv_iload_n hx hb dX12_becomes_150 rfl (lv_at hl 3 rfl) ?_
            exact by
             refine jast hx hb hK hP hJ hA hS (jc_56 cI cL ad σ21 τ) (ja_56 cI cL ad σ21 τ _ _) (jin t1 (by omega) (by omega)) dX12_becomes_151 (fun σ22 H locs eσ22 hP hS => ?_)
             refine lv_iload_n hx hb dX12_becomes_152 rfl (lv_at hl 0 rfl) ?_
             have z23 : (σ22 55 5).toInt = (σ 55 5).toInt + 1 := ((congrArg Int32.toInt (show σ22 55 5 = x18 from ((congrFun (jnp 55 eσ22 (of_decide_eq_true rfl)) 5).trans ((jkp 5 eσ21 (of_decide_eq_true rfl)).trans m20)))).trans tx18)
             have z24 : (σ22 55 4).toInt = (σ 55 5).toInt + 1 := ((congrArg Int32.toInt (show σ22 55 4 = x18 from ((congrFun (jnp 55 eσ22 (of_decide_eq_true rfl)) 4).trans (jsp eσ21)))).trans tx18)
             have w25 : ∀ k : Nat, k < 68 → (-200) ≤ (σ22 56 k).toInt ∧ (σ22 56 k).toInt ≤ 500 := (by rw [eσ22]; exact jrr_up (jrr_fr (jnp 56 eσ21 (of_decide_eq_true rfl)) (jrr_fr (jnp 56 eσ19 (of_decide_eq_true rfl)) (jrr_fr (jnp 56 eσ15 (of_decide_eq_true rfl)) (jrr_fr (jnp 56 eσ13 (of_decide_eq_true rfl)) (jrr_fr (jnp 56 eσ11 (of_decide_eq_true rfl)) w4))))) (by have h9 := t2; omega) (by have h9 := t2; omega))
             have w26 : ∀ k : Nat, k < 40 → 0 ≤ (σ22 57 k).toInt ∧ (σ22 57 k).toInt ≤ 67 := (jrr_fr (jnp 57 eσ22 (of_decide_eq_true rfl)) (jrr_fr (jnp 57 eσ21 (of_decide_eq_true rfl)) (jrr_fr (jnp 57 eσ19 (of_decide_eq_true rfl)) (jrr_fr (jnp 57 eσ15 (of_decide_eq_true rfl)) (jrr_fr (jnp 57 eσ13 (of_decide_eq_true rfl)) (by rw [eσ11]; exact jrr_up w5 (by have h9 := t1; omega) (by have h9 := t1; omega)))))))
             have w27 : ∀ k : Nat, k < 40 → (-200) ≤ (σ22 58 k).toInt ∧ (σ22 58 k).toInt ≤ 500 := (jrr_fr (jnp 58 eσ22 (of_decide_eq_true rfl)) (jrr_fr (jnp 58 eσ21 (of_decide_eq_true rfl)) (jrr_fr (jnp 58 eσ19 (of_decide_eq_true rfl)) (jrr_fr (jnp 58 eσ15 (of_decide_eq_true rfl)) (by rw [eσ13]; exact jrr_up (jrr_fr (jnp 58 eσ11 (of_decide_eq_true rfl)) w6) (by omega) (by omega))))))
             have w28 : ∀ k : Nat, k < 40 → (-200) ≤ (σ22 59 k).toInt ∧ (σ22 59 k).toInt ≤ 500 := (jrr_fr (jnp 59 eσ22 (of_decide_eq_true rfl)) (jrr_fr (jnp 59 eσ21 (of_decide_eq_true rfl)) (jrr_fr (jnp 59 eσ19 (of_decide_eq_true rfl)) (by rw [eσ15]; exact jrr_up (jrr_fr (jnp 59 eσ13 (of_decide_eq_true rfl)) (jrr_fr (jnp 59 eσ11 (of_decide_eq_true rfl)) w7)) (by have h9 := t2; omega) (by have h9 := t2; omega)))))
             have I29 : jI101 σ22 := ⟨(by omega), (by omega), (by omega), w25, w26, w27, w28⟩
             exact by exact hret (σ 56 a1.toNatClampNeg) σ22 τ _ _ _ _ rfl ⟨rfl, (fun i hi => ((jnp i eσ22 (imp_146 i hi)).trans ((jnp i eσ21 (imp_147 i hi)).trans ((jnp i eσ19 (imp_147 i hi)).trans ((jnp i eσ15 (imp_148 i hi)).trans ((jnp i eσ13 (imp_149 i hi)).trans (jnp i eσ11 (imp_150 i hi)))))))), (fun i hi => ((congrFun (jnp 55 eσ22 (of_decide_eq_true rfl)) i).trans ((jkp i eσ21 (imp_151 i hi)).trans ((jkp i eσ19 (imp_152 i hi)).trans ((congrFun (jnp 55 eσ15 (of_decide_eq_true rfl)) i).trans ((congrFun (jnp 55 eσ13 (of_decide_eq_true rfl)) i).trans (congrFun (jnp 55 eσ11 (of_decide_eq_true rfl)) i))))))), I29, ⟨(by rw [← jnc t1]), Or.inr ⟨(fun h => absurd (congrArg Int32.toInt h) (by have h9 := t2; omega)), (by omega), (by rw [eσ22, jup_row, eσ21, jup_n (of_decide_eq_true rfl), eσ19, jup_n (of_decide_eq_true rfl), eσ15, jup_n (of_decide_eq_true rfl), eσ13, jup_n (of_decide_eq_true rfl), eσ11, jup_n (of_decide_eq_true rfl), jnc t1]), σ 57, σ 58, σ 59, a1, t1, Or.inl ⟨(by omega), (by omega), rfl, rfl, rfl⟩, ((show σ22 57 = jupd (σ 57) (σ 55 5).toNatClampNeg a1 by rw [eσ22, jup_n (of_decide_eq_true rfl), eσ21, jup_n (of_decide_eq_true rfl), eσ19, jup_n (of_decide_eq_true rfl), eσ15, jup_n (of_decide_eq_true rfl), eσ13, jup_n (of_decide_eq_true rfl), eσ11, jup_row]).trans (by rw [jnc (show (σ 55 5).toInt = (σ22 55 5).toInt - 1 by omega)])), ((show σ22 58 = jupd (σ 58) (σ 55 5).toNatClampNeg (σ 56 a1.toNatClampNeg) by rw [eσ22, jup_n (of_decide_eq_true rfl), eσ21, jup_n (of_decide_eq_true rfl), eσ19, jup_n (of_decide_eq_true rfl), eσ15, jup_n (of_decide_eq_true rfl), eσ13, jup_row, eσ11, jup_n (of_decide_eq_true rfl)]).trans (by rw [jnc (show (σ 55 5).toInt = (σ22 55 5).toInt - 1 by omega)])), ((show σ22 59 = jupd (σ 59) (σ 55 5).toNatClampNeg a2 by rw [eσ22, jup_n (of_decide_eq_true rfl), eσ21, jup_n (of_decide_eq_true rfl), eσ19, jup_n (of_decide_eq_true rfl), eσ15, jup_row, eσ13, jup_n (of_decide_eq_true rfl), eσ11, jup_n (of_decide_eq_true rfl)]).trans (by rw [jnc (show (σ 55 5).toInt = (σ22 55 5).toInt - 1 by omega)]))⟩⟩, trivial⟩ hP hS dX12_becomes_153
      · exact by
         have kc10 := jeq c10 rfl jz_40
         refine lv_iconst (v := 1) hx hb dX12_becomes_23 (of_decide_eq_true rfl) ?_
         refine lv_istore (lv' := [(4, .int 1), (3, .int (σ 56 a1.toNatClampNeg)), (0, .ref (ad 55)), (1, .int a1), (2, .int a2)]) hx hb dX12_becomes_24 hl (of_decide_eq_true rfl) rfl (fun ls hl => ?_)
         have lp30 : ∀ (n31 : Nat) (x32 : Int32) (σ33 : Nat → Nat → Int32) (H : Heap) (locs : List Loc) (ls : Array Slot), (-x32.toInt + 40 : Int) < n31 → 1 ≤ x32.toInt → x32.toInt ≤ 40 → (∀ i : Nat, (i < 57 ∨ 59 < i) → σ33 i = σ i) → jI101 σ33 → (jShi (x32.toInt).toNat (σ 57) (σ33 57) ∧ jShi (x32.toInt).toNat (σ 58) (σ33 58) ∧ jShi (x32.toInt).toNat (σ 59) (σ33 59)) → jH D cI cL ad σ33 τ H → va_S (jA ad) s.heap H locs → lv_has ls 5 [(4, .int x32), (3, .int (σ 56 a1.toNatClampNeg)), (0, .ref (ad 55)), (1, .int a1), (2, .int a2)] → W p l e ({ frames := 0, cells := 0, slots := 0, locals := 0 }) s m args below meth c H locs 0 0 Q (F0 m 26 ls []) := by
           intro n31
           induction n31 with
           | zero => intro x32 σ33 H locs ls h35 h36 h37; exact absurd h35 (by omega)
           | succ n31 ihlp30 =>
             intro x32 σ33 H locs ls h35 h36 h37 f38 p39 q40 hP hS hl
             exact by
              obtain ⟨i41, i42, i43, w44, w45, w46, w47⟩ : (0 ≤ (σ33 55 5).toInt) ∧ ((σ33 55 5).toInt ≤ (σ33 55 4).toInt) ∧ ((σ33 55 4).toInt ≤ 40) ∧ (∀ k : Nat, k < 68 → (-200) ≤ (σ33 56 k).toInt ∧ (σ33 56 k).toInt ≤ 500) ∧ (∀ k : Nat, k < 40 → 0 ≤ (σ33 57 k).toInt ∧ (σ33 57 k).toInt ≤ 67) ∧ (∀ k : Nat, k < 40 → (-200) ≤ (σ33 58 k).toInt ∧ (σ33 58 k).toInt ≤ 500) ∧ (∀ k : Nat, k < 40 → (-200) ≤ (σ33 59 k).toInt ∧ (σ33 59 k).toInt ≤ 500) := id p39
              have z48 : (σ33 55 4).toInt = (σ 55 4).toInt := (congrArg Int32.toInt (show σ33 55 4 = (σ 55 4) from (congrFun (f38 55 (of_decide_eq_true rfl)) 4)))
              have z49 : (σ33 55 5).toInt = (σ 55 5).toInt := (congrArg Int32.toInt (show σ33 55 5 = (σ 55 5) from (congrFun (f38 55 (of_decide_eq_true rfl)) 5)))
              refine lv_iload hx hb dX12_becomes_26 (lv_at hl 0 rfl) ?_
              refine lv_bipush (v := 40) hx hb dX12_becomes_28 (of_decide_eq_true rfl) ?_
              refine lv_icmp_ge (tgt := 87) hx hb dX12_becomes_30 (of_decide_eq_true rfl) (fun c50 => ?_) (fun c50 => ?_)
              · have kc50 := jle c50 jz_40 rfl
                refine lv_aload_n hx hb dX12_becomes_87 rfl (lv_at hl 2 rfl) ?_
                refine lv_dup hx hb dX12_becomes_88 rfl ?_
                refine va_get (D := D) hx hb hts inlX12 hown hK hP 55 (jc_55 cI cL ad σ33 τ) rfl 5 (of_decide_eq_true rfl) (hts _ kw_11_16) (fun _ h9 => h9) rfl dX12_becomes_89 ?_
                have m51 : σ33 55 5 = (σ 55 5) := (congrFun (f38 55 (of_decide_eq_true rfl)) 5)
                refine jtopr m51 ?_
                refine lv_iconst (v := 1) hx hb dX12_becomes_92 (of_decide_eq_true rfl) ?_
                have g52 := jrg (rfl : (σ 55 5).toInt = (σ 55 5).toInt)
                refine lv_isub hx hb dX12_becomes_93 ?_
                refine lv_topi (fun x53 ex53 => ?_)
                exact by
                 have tx53 : x53.toInt = (σ 55 5).toInt - 1 := (jsub ex53 rfl jz_1 (by omega) (by omega)).trans (by omega)
                 refine jput (ty := .int) hx hb hts inlX12 tyX12 tyX12_ok nmX12 hown hK hP hJ hA hS (jc_55 cI cL ad σ33 τ) rfl (k := 5) (of_decide_eq_true rfl) (Nat.le_of_ble_eq_true rfl) (jp_55_5 cI cL ad σ33 τ x53) (hts _ kw_11_16) (fun _ h9 => h9) rfl (by decide +kernel) rfl rfl dX12_becomes_94 (fun σ54 H locs eσ54 hP hS => ?_)
                 refine lv_aload_n hx hb dX12_becomes_97 rfl (lv_at hl 2 rfl) ?_
                 refine va_get (D := D) hx hb hts inlX12 hown hK hP 55 (jc_55 cI cL ad σ54 τ) rfl 1 (of_decide_eq_true rfl) (hts _ kw_7_3) (fun _ h9 => h9) rfl dX12_becomes_98 ?_
                 refine lv_aload_n hx hb dX12_becomes_101 rfl (lv_at hl 2 rfl) ?_
                 refine va_get (D := D) hx hb hts inlX12 hown hK hP 55 (jc_55 cI cL ad σ54 τ) rfl 5 (of_decide_eq_true rfl) (hts _ kw_11_16) (fun _ h9 => h9) rfl dX12_becomes_102 ?_
                 have m55 : σ54 55 5 = x53 := (jsp eσ54)
                 refine jtopr m55 ?_
                 refine lv_iload_n hx hb dX12_becomes_105 rfl (lv_at hl 3 rfl) ?_
                 exact by
                  refine jast hx hb hK hP hJ hA hS (jc_57 cI cL ad σ54 τ) (ja_57 cI cL ad σ54 τ _ _) (jin tx53 (by omega) (by omega)) dX12_becomes_106 (fun σ56 H locs eσ56 hP hS => ?_)
                  refine lv_aload_n hx hb dX12_becomes_107 rfl (lv_at hl 2 rfl) ?_
                  refine va_get (D := D) hx hb hts inlX12 hown hK hP 55 (jc_55 cI cL ad σ56 τ) rfl 2 (of_decide_eq_true rfl) (hts _ kw_7_4) (fun _ h9 => h9) rfl dX12_becomes_108 ?_
                  refine lv_aload_n hx hb dX12_becomes_111 rfl (lv_at hl 2 rfl) ?_
                  refine va_get (D := D) hx hb hts inlX12 hown hK hP 55 (jc_55 cI cL ad σ56 τ) rfl 5 (of_decide_eq_true rfl) (hts _ kw_11_16) (fun _ h9 => h9) rfl dX12_becomes_112 ?_
                  have m57 : σ56 55 5 = x53 := ((congrFun (jnp 55 eσ56 (of_decide_eq_true rfl)) 5).trans m55)
                  refine jtopr m57 ?_
                  refine lv_iload_n hx hb dX12_becomes_115 rfl (lv_at hl 1 rfl) ?_
                  refine jast hx hb hK hP hJ hA hS (jc_58 cI cL ad σ56 τ) (ja_58 cI cL ad σ56 τ _ _) (jin tx53 (by omega) (by omega)) dX12_becomes_116 (fun σ58 H locs eσ58 hP hS => ?_)
                  exact by
                   refine lv_aload_n hx hb dX12_becomes_117 rfl (lv_at hl 2 rfl) ?_
                   refine va_get (D := D) hx hb hts inlX12 hown hK hP 55 (jc_55 cI cL ad σ58 τ) rfl 3 (of_decide_eq_true rfl) (hts _ kw_7_5) (fun _ h9 => h9) rfl dX12_becomes_118 ?_
                   refine lv_aload_n hx hb dX12_becomes_121 rfl (lv_at hl 2 rfl) ?_
                   refine va_get (D := D) hx hb hts inlX12 hown hK hP 55 (jc_55 cI cL ad σ58 τ) rfl 5 (of_decide_eq_true rfl) (hts _ kw_11_16) (fun _ h9 => h9) rfl dX12_becomes_122 ?_
                   have m59 : σ58 55 5 = x53 := ((congrFun (jnp 55 eσ58 (of_decide_eq_true rfl)) 5).trans m57)
                   refine jtopr m59 ?_
                   refine lv_iload_n hx hb dX12_becomes_125 rfl (lv_at hl 4 rfl) ?_
                   refine jast hx hb hK hP hJ hA hS (jc_59 cI cL ad σ58 τ) (ja_59 cI cL ad σ58 τ _ _) (jin tx53 (by omega) (by omega)) dX12_becomes_126 (fun σ60 H locs eσ60 hP hS => ?_)
                   refine lv_aload_n hx hb dX12_becomes_127 rfl (lv_at hl 2 rfl) ?_
                   exact by
                    refine lv_dup hx hb dX12_becomes_128 rfl ?_
                    refine va_get (D := D) hx hb hts inlX12 hown hK hP 55 (jc_55 cI cL ad σ60 τ) rfl 5 (of_decide_eq_true rfl) (hts _ kw_11_16) (fun _ h9 => h9) rfl dX12_becomes_129 ?_
                    have m61 : σ60 55 5 = x53 := ((congrFun (jnp 55 eσ60 (of_decide_eq_true rfl)) 5).trans m59)
                    refine jtopr m61 ?_
                    refine lv_iconst (v := 1) hx hb dX12_becomes_132 (of_decide_eq_true rfl) ?_
                    refine lv_iadd hx hb dX12_becomes_133 ?_
                    refine lv_topi (fun x62 ex62 => ?_)
                    have tx62 : x62.toInt = (σ 55 5).toInt := (jadd ex62 tx53 jz_1 (by omega) (by omega)).trans (by omega)
                    refine jput (ty := .int) hx hb hts inlX12 tyX12 tyX12_ok nmX12 hown hK hP hJ hA hS (jc_55 cI cL ad σ60 τ) rfl (k := 5) (of_decide_eq_true rfl) (Nat.le_of_ble_eq_true rfl) (jp_55_5 cI cL ad σ60 τ x62) (hts _ kw_11_16) (fun _ h9 => h9) rfl (by decide +kernel) rfl rfl dX12_becomes_134 (fun σ63 H locs eσ63 hP hS => ?_)
                    exact by
                     refine lv_aload_n hx hb dX12_becomes_137 rfl (lv_at hl 2 rfl) ?_
                     refine lv_aload_n hx hb dX12_becomes_138 rfl (lv_at hl 2 rfl) ?_
                     refine va_get (D := D) hx hb hts inlX12 hown hK hP 55 (jc_55 cI cL ad σ63 τ) rfl 5 (of_decide_eq_true rfl) (hts _ kw_11_16) (fun _ h9 => h9) rfl dX12_becomes_139 ?_
                     have m64 : σ63 55 5 = x62 := (jsp eσ63)
                     refine jtopr m64 ?_
                     refine jput (ty := .int) hx hb hts inlX12 tyX12 tyX12_ok nmX12 hown hK hP hJ hA hS (jc_55 cI cL ad σ63 τ) rfl (k := 4) (of_decide_eq_true rfl) (Nat.le_of_ble_eq_true rfl) (jp_55_4 cI cL ad σ63 τ x62) (hts _ kw_11_17) (fun _ h9 => h9) rfl (by decide +kernel) rfl rfl dX12_becomes_142 (fun σ65 H locs eσ65 hP hS => ?_)
                     refine lv_aload_n hx hb dX12_becomes_145 rfl (lv_at hl 2 rfl) ?_
                     refine va_get (D := D) hx hb hts inlX12 hown hK hP 55 (jc_55 cI cL ad σ65 τ) rfl 0 (of_decide_eq_true rfl) (hts _ kw_7_2) (fun _ h9 => h9) rfl dX12_becomes_146 ?_
                     refine lv_iload_n hx hb dX12_becomes_149 rfl (lv_at hl 3 rfl) ?_
                     refine lv_iload_n hx hb dX12_becomes_150 rfl (lv_at hl 4 rfl) ?_
                     exact by
                      refine jast hx hb hK hP hJ hA hS (jc_56 cI cL ad σ65 τ) (ja_56 cI cL ad σ65 τ _ _) (jin t1 (by omega) (by omega)) dX12_becomes_151 (fun σ66 H locs eσ66 hP hS => ?_)
                      refine lv_iload_n hx hb dX12_becomes_152 rfl (lv_at hl 1 rfl) ?_
                      have z67 : (σ66 55 5).toInt = (σ 55 5).toInt := ((congrArg Int32.toInt (show σ66 55 5 = x62 from ((congrFun (jnp 55 eσ66 (of_decide_eq_true rfl)) 5).trans ((jkp 5 eσ65 (of_decide_eq_true rfl)).trans m64)))).trans tx62)
                      have z68 : (σ66 55 4).toInt = (σ 55 5).toInt := ((congrArg Int32.toInt (show σ66 55 4 = x62 from ((congrFun (jnp 55 eσ66 (of_decide_eq_true rfl)) 4).trans (jsp eσ65)))).trans tx62)
                      have w69 : ∀ k : Nat, k < 68 → (-200) ≤ (σ66 56 k).toInt ∧ (σ66 56 k).toInt ≤ 500 := (by rw [eσ66]; exact jrr_up (jrr_fr (jnp 56 eσ65 (of_decide_eq_true rfl)) (jrr_fr (jnp 56 eσ63 (of_decide_eq_true rfl)) (jrr_fr (jnp 56 eσ60 (of_decide_eq_true rfl)) (jrr_fr (jnp 56 eσ58 (of_decide_eq_true rfl)) (jrr_fr (jnp 56 eσ56 (of_decide_eq_true rfl)) (jrr_fr (jnp 56 eσ54 (of_decide_eq_true rfl)) w44)))))) (by have h9 := t2; omega) (by have h9 := t2; omega))
                      have w70 : ∀ k : Nat, k < 40 → 0 ≤ (σ66 57 k).toInt ∧ (σ66 57 k).toInt ≤ 67 := (jrr_fr (jnp 57 eσ66 (of_decide_eq_true rfl)) (jrr_fr (jnp 57 eσ65 (of_decide_eq_true rfl)) (jrr_fr (jnp 57 eσ63 (of_decide_eq_true rfl)) (jrr_fr (jnp 57 eσ60 (of_decide_eq_true rfl)) (jrr_fr (jnp 57 eσ58 (of_decide_eq_true rfl)) (by rw [eσ56]; exact jrr_up (jrr_fr (jnp 57 eσ54 (of_decide_eq_true rfl)) w45) (by have h9 := t1; omega) (by have h9 := t1; omega)))))))
                      have w71 : ∀ k : Nat, k < 40 → (-200) ≤ (σ66 58 k).toInt ∧ (σ66 58 k).toInt ≤ 500 := (jrr_fr (jnp 58 eσ66 (of_decide_eq_true rfl)) (jrr_fr (jnp 58 eσ65 (of_decide_eq_true rfl)) (jrr_fr (jnp 58 eσ63 (of_decide_eq_true rfl)) (jrr_fr (jnp 58 eσ60 (of_decide_eq_true rfl)) (by rw [eσ58]; exact jrr_up (jrr_fr (jnp 58 eσ56 (of_decide_eq_true rfl)) (jrr_fr (jnp 58 eσ54 (of_decide_eq_true rfl)) w46)) (by omega) (by omega))))))
                      have w72 : ∀ k : Nat, k < 40 → (-200) ≤ (σ66 59 k).toInt ∧ (σ66 59 k).toInt ≤ 500 := (jrr_fr (jnp 59 eσ66 (of_decide_eq_true rfl)) (jrr_fr (jnp 59 eσ65 (of_decide_eq_true rfl)) (jrr_fr (jnp 59 eσ63 (of_decide_eq_true rfl)) (by rw [eσ60]; exact jrr_up (jrr_fr (jnp 59 eσ58 (of_decide_eq_true rfl)) (jrr_fr (jnp 59 eσ56 (of_decide_eq_true rfl)) (jrr_fr (jnp 59 eσ54 (of_decide_eq_true rfl)) w47))) (by have h9 := t2; omega) (by have h9 := t2; omega)))))
                      have I73 : jI101 σ66 := ⟨(by omega), (by omega), (by omega), w69, w70, w71, w72⟩
                      exact by exact hret (σ 56 a1.toNatClampNeg) σ66 τ _ _ _ _ rfl ⟨rfl, (fun i hi => ((jnp i eσ66 (imp_146 i hi)).trans ((jnp i eσ65 (imp_147 i hi)).trans ((jnp i eσ63 (imp_147 i hi)).trans ((jnp i eσ60 (imp_148 i hi)).trans ((jnp i eσ58 (imp_149 i hi)).trans ((jnp i eσ56 (imp_150 i hi)).trans ((jnp i eσ54 (imp_147 i hi)).trans (f38 i (imp_153 i hi)))))))))), (fun i hi => ((congrFun (jnp 55 eσ66 (of_decide_eq_true rfl)) i).trans ((jkp i eσ65 (imp_151 i hi)).trans ((jkp i eσ63 (imp_152 i hi)).trans ((congrFun (jnp 55 eσ60 (of_decide_eq_true rfl)) i).trans ((congrFun (jnp 55 eσ58 (of_decide_eq_true rfl)) i).trans ((congrFun (jnp 55 eσ56 (of_decide_eq_true rfl)) i).trans ((jkp i eσ54 (imp_152 i hi)).trans (congrFun (f38 55 (of_decide_eq_true rfl)) i))))))))), I73, ⟨(by rw [← jnc t1]), Or.inr ⟨(fun h => absurd (congrArg Int32.toInt h) (by have h9 := t2; omega)), (by omega), (by rw [eσ66, jup_row, eσ65, jup_n (of_decide_eq_true rfl), eσ63, jup_n (of_decide_eq_true rfl), eσ60, jup_n (of_decide_eq_true rfl), eσ58, jup_n (of_decide_eq_true rfl), eσ56, jup_n (of_decide_eq_true rfl), eσ54, jup_n (of_decide_eq_true rfl), f38 56 (of_decide_eq_true rfl), jnc t1]), σ33 57, σ33 58, σ33 59, a1, t1, Or.inr ⟨(by omega), (by omega), (jShi.fin q40.1 (by omega)), (jShi.fin q40.2.1 (by omega)), (jShi.fin q40.2.2 (by omega))⟩, ((show σ66 57 = jupd (σ33 57) x53.toNatClampNeg a1 by rw [eσ66, jup_n (of_decide_eq_true rfl), eσ65, jup_n (of_decide_eq_true rfl), eσ63, jup_n (of_decide_eq_true rfl), eσ60, jup_n (of_decide_eq_true rfl), eσ58, jup_n (of_decide_eq_true rfl), eσ56, jup_row, eσ54, jup_n (of_decide_eq_true rfl)]).trans (by rw [jnc (show x53.toInt = (σ66 55 5).toInt - 1 by have h9 := tx53; omega)])), ((show σ66 58 = jupd (σ33 58) x53.toNatClampNeg (σ 56 a1.toNatClampNeg) by rw [eσ66, jup_n (of_decide_eq_true rfl), eσ65, jup_n (of_decide_eq_true rfl), eσ63, jup_n (of_decide_eq_true rfl), eσ60, jup_n (of_decide_eq_true rfl), eσ58, jup_row, eσ56, jup_n (of_decide_eq_true rfl), eσ54, jup_n (of_decide_eq_true rfl)]).trans (by rw [jnc (show x53.toInt = (σ66 55 5).toInt - 1 by have h9 := tx53; omega)])), ((show σ66 59 = jupd (σ33 59) x53.toNatClampNeg a2 by rw [eσ66, jup_n (of_decide_eq_true rfl), eσ65, jup_n (of_decide_eq_true rfl), eσ63, jup_n (of_decide_eq_true rfl), eσ60, jup_row, eσ58, jup_n (of_decide_eq_true rfl), eσ56, jup_n (of_decide_eq_true rfl), eσ54, jup_n (of_decide_eq_true rfl)]).trans (by rw [jnc (show x53.toInt = (σ66 55 5).toInt - 1 by have h9 := tx53; omega)]))⟩⟩, trivial⟩ hP hS dX12_becomes_153
              · exact by
                 have kc50 := jnle c50 jz_40 rfl
                 refine lv_aload_n hx hb dX12_becomes_33 rfl (lv_at hl 2 rfl) ?_
                 refine va_get (D := D) hx hb hts inlX12 hown hK hP 55 (jc_55 cI cL ad σ33 τ) rfl 1 (of_decide_eq_true rfl) (hts _ kw_7_3) (fun _ h9 => h9) rfl dX12_becomes_34 ?_
                 refine lv_iload hx hb dX12_becomes_37 (lv_at hl 0 rfl) ?_
                 refine lv_iconst (v := 1) hx hb dX12_becomes_39 (of_decide_eq_true rfl) ?_
                 have g74 := jrg (rfl : x32.toInt = x32.toInt)
                 refine lv_isub hx hb dX12_becomes_40 ?_
                 refine lv_topi (fun x75 ex75 => ?_)
                 have tx75 : x75.toInt = x32.toInt - 1 := (jsub ex75 rfl jz_1 (by omega) (by omega)).trans (by omega)
                 exact by
                  refine lv_aload_n hx hb dX12_becomes_41 rfl (lv_at hl 2 rfl) ?_
                  refine va_get (D := D) hx hb hts inlX12 hown hK hP 55 (jc_55 cI cL ad σ33 τ) rfl 1 (of_decide_eq_true rfl) (hts _ kw_7_3) (fun _ h9 => h9) rfl dX12_becomes_42 ?_
                  refine lv_iload hx hb dX12_becomes_45 (lv_at hl 0 rfl) ?_
                  refine jald hx hb hK hP (jc_57 cI cL ad σ33 τ) (jin rfl (by omega) (by omega)) dX12_becomes_47 ?_
                  have g76 := w45 _ (jnat (x := x32) rfl (n := 40) (by omega) (of_decide_eq_true rfl))
                  refine jtopr (y := (σ33 57 x32.toNatClampNeg)) rfl ?_
                  refine jast hx hb hK hP hJ hA hS (jc_57 cI cL ad σ33 τ) (ja_57 cI cL ad σ33 τ _ _) (jin tx75 (by omega) (by omega)) dX12_becomes_48 (fun σ77 H locs eσ77 hP hS => ?_)
                  refine lv_aload_n hx hb dX12_becomes_49 rfl (lv_at hl 2 rfl) ?_
                  refine va_get (D := D) hx hb hts inlX12 hown hK hP 55 (jc_55 cI cL ad σ77 τ) rfl 2 (of_decide_eq_true rfl) (hts _ kw_7_4) (fun _ h9 => h9) rfl dX12_becomes_50 ?_
                  exact by
                   refine lv_iload hx hb dX12_becomes_53 (lv_at hl 0 rfl) ?_
                   refine lv_iconst (v := 1) hx hb dX12_becomes_55 (of_decide_eq_true rfl) ?_
                   refine lv_isub hx hb dX12_becomes_56 ?_
                   refine lv_topi (fun x78 ex78 => ?_)
                   have tx78 : x78.toInt = x32.toInt - 1 := (jsub ex78 rfl jz_1 (by omega) (by omega)).trans (by omega)
                   refine lv_aload_n hx hb dX12_becomes_57 rfl (lv_at hl 2 rfl) ?_
                   refine va_get (D := D) hx hb hts inlX12 hown hK hP 55 (jc_55 cI cL ad σ77 τ) rfl 2 (of_decide_eq_true rfl) (hts _ kw_7_4) (fun _ h9 => h9) rfl dX12_becomes_58 ?_
                   refine lv_iload hx hb dX12_becomes_61 (lv_at hl 0 rfl) ?_
                   refine jald hx hb hK hP (jc_58 cI cL ad σ77 τ) (jin rfl (by omega) (by omega)) dX12_becomes_63 ?_
                   exact by
                    have w79 : ∀ k : Nat, k < 40 → (-200) ≤ (σ77 58 k).toInt ∧ (σ77 58 k).toInt ≤ 500 := (jrr_fr (jnp 58 eσ77 (of_decide_eq_true rfl)) w46)
                    have g80 := w79 _ (jnat (x := x32) rfl (n := 40) (by omega) (of_decide_eq_true rfl))
                    refine jtopr (y := (σ33 58 x32.toNatClampNeg)) (by rw [jnp 58 eσ77 (of_decide_eq_true rfl)]) ?_
                    rw [jnp 58 eσ77 (of_decide_eq_true rfl)] at g80
                    refine jast hx hb hK hP hJ hA hS (jc_58 cI cL ad σ77 τ) (ja_58 cI cL ad σ77 τ _ _) (jin tx78 (by omega) (by omega)) dX12_becomes_64 (fun σ81 H locs eσ81 hP hS => ?_)
                    refine lv_aload_n hx hb dX12_becomes_65 rfl (lv_at hl 2 rfl) ?_
                    refine va_get (D := D) hx hb hts inlX12 hown hK hP 55 (jc_55 cI cL ad σ81 τ) rfl 3 (of_decide_eq_true rfl) (hts _ kw_7_5) (fun _ h9 => h9) rfl dX12_becomes_66 ?_
                    refine lv_iload hx hb dX12_becomes_69 (lv_at hl 0 rfl) ?_
                    refine lv_iconst (v := 1) hx hb dX12_becomes_71 (of_decide_eq_true rfl) ?_
                    exact by
                     refine lv_isub hx hb dX12_becomes_72 ?_
                     refine lv_topi (fun x82 ex82 => ?_)
                     have tx82 : x82.toInt = x32.toInt - 1 := (jsub ex82 rfl jz_1 (by omega) (by omega)).trans (by omega)
                     refine lv_aload_n hx hb dX12_becomes_73 rfl (lv_at hl 2 rfl) ?_
                     refine va_get (D := D) hx hb hts inlX12 hown hK hP 55 (jc_55 cI cL ad σ81 τ) rfl 3 (of_decide_eq_true rfl) (hts _ kw_7_5) (fun _ h9 => h9) rfl dX12_becomes_74 ?_
                     refine lv_iload hx hb dX12_becomes_77 (lv_at hl 0 rfl) ?_
                     refine jald hx hb hK hP (jc_59 cI cL ad σ81 τ) (jin rfl (by omega) (by omega)) dX12_becomes_79 ?_
                     have w83 : ∀ k : Nat, k < 40 → (-200) ≤ (σ81 59 k).toInt ∧ (σ81 59 k).toInt ≤ 500 := (jrr_fr (jnp 59 eσ81 (of_decide_eq_true rfl)) (jrr_fr (jnp 59 eσ77 (of_decide_eq_true rfl)) w47))
                     have g84 := w83 _ (jnat (x := x32) rfl (n := 40) (by omega) (of_decide_eq_true rfl))
                     exact by
                      refine jtopr (y := (σ33 59 x32.toNatClampNeg)) (by rw [jnp 59 eσ81 (of_decide_eq_true rfl), jnp 59 eσ77 (of_decide_eq_true rfl)]) ?_
                      rw [jnp 59 eσ81 (of_decide_eq_true rfl), jnp 59 eσ77 (of_decide_eq_true rfl)] at g84
                      refine jast hx hb hK hP hJ hA hS (jc_59 cI cL ad σ81 τ) (ja_59 cI cL ad σ81 τ _ _) (jin tx82 (by omega) (by omega)) dX12_becomes_80 (fun σ85 H locs eσ85 hP hS => ?_)
                      obtain ⟨x86, ex86⟩ : ∃ y : Int32, y = x32 + 1 := ⟨_, rfl⟩
                      have tx86 : x86.toInt = x32.toInt + 1 := (jadd ex86 rfl jz_1 (by omega) (by omega)).trans (by omega)
                      refine lv_iinc (v := x86) (lv' := [(4, .int x86), (3, .int (σ 56 a1.toNatClampNeg)), (0, .ref (ad 55)), (1, .int a1), (2, .int a2)]) hx hb dX12_becomes_81 hl (k := 0) rfl (by rw [ex86]; rfl) (of_decide_eq_true rfl) rfl (fun ls hl => ?_)
                      refine lv_goto (tgt := 26) hx hb dX12_becomes_84 (of_decide_eq_true rfl) ?_
                      have z87 : (σ85 55 5).toInt = (σ 55 5).toInt := (congrArg Int32.toInt (show σ85 55 5 = (σ 55 5) from ((congrFun (jnp 55 eσ85 (of_decide_eq_true rfl)) 5).trans ((congrFun (jnp 55 eσ81 (of_decide_eq_true rfl)) 5).trans ((congrFun (jnp 55 eσ77 (of_decide_eq_true rfl)) 5).trans (congrFun (f38 55 (of_decide_eq_true rfl)) 5))))))
                      have z88 : (σ85 55 4).toInt = (σ 55 4).toInt := (congrArg Int32.toInt (show σ85 55 4 = (σ 55 4) from ((congrFun (jnp 55 eσ85 (of_decide_eq_true rfl)) 4).trans ((congrFun (jnp 55 eσ81 (of_decide_eq_true rfl)) 4).trans ((congrFun (jnp 55 eσ77 (of_decide_eq_true rfl)) 4).trans (congrFun (f38 55 (of_decide_eq_true rfl)) 4))))))
                      exact by
                       have w89 : ∀ k : Nat, k < 68 → (-200) ≤ (σ85 56 k).toInt ∧ (σ85 56 k).toInt ≤ 500 := (jrr_fr (jnp 56 eσ85 (of_decide_eq_true rfl)) (jrr_fr (jnp 56 eσ81 (of_decide_eq_true rfl)) (jrr_fr (jnp 56 eσ77 (of_decide_eq_true rfl)) w44)))
                       have w90 : ∀ k : Nat, k < 40 → 0 ≤ (σ85 57 k).toInt ∧ (σ85 57 k).toInt ≤ 67 := (jrr_fr (jnp 57 eσ85 (of_decide_eq_true rfl)) (jrr_fr (jnp 57 eσ81 (of_decide_eq_true rfl)) (by rw [eσ77]; exact jrr_up w45 (by omega) (by omega))))
                       have w91 : ∀ k : Nat, k < 40 → (-200) ≤ (σ85 58 k).toInt ∧ (σ85 58 k).toInt ≤ 500 := (jrr_fr (jnp 58 eσ85 (of_decide_eq_true rfl)) (by rw [eσ81]; exact jrr_up w79 (by omega) (by omega)))
                       have w92 : ∀ k : Nat, k < 40 → (-200) ≤ (σ85 59 k).toInt ∧ (σ85 59 k).toInt ≤ 500 := (by rw [eσ85]; exact jrr_up w83 (by omega) (by omega))
                       have I93 : jI101 σ85 := ⟨(by omega), (by omega), (by omega), w89, w90, w91, w92⟩
                       exact by exact ihlp30 x86 σ85 _ _ ls (by have h90 := tx86; omega) (by have h90 := tx86; omega) (by have h90 := tx86; omega) (fun i hi => ((jnp i eσ85 (imp_154 i hi)).trans ((jnp i eσ81 (imp_155 i hi)).trans ((jnp i eσ77 (imp_156 i hi)).trans (f38 i hi)))))   I93 ⟨(jShi.step q40.1 (by rw [eσ85, jup_n (of_decide_eq_true rfl), eσ81, jup_n (of_decide_eq_true rfl), eσ77, jup_row, jnc (show x75.toInt = x32.toInt - 1 by have h9 := tx75; omega), jnc (rfl : x32.toInt = x32.toInt)]) (by omega) (by have h9 := tx86; omega)), (jShi.step q40.2.1 (by rw [eσ85, jup_n (of_decide_eq_true rfl), eσ81, jup_row, eσ77, jup_n (of_decide_eq_true rfl), jnc (show x78.toInt = x32.toInt - 1 by have h9 := tx78; omega), jnc (rfl : x32.toInt = x32.toInt)]) (by omega) (by have h9 := tx86; omega)), (jShi.step q40.2.2 (by rw [eσ85, jup_row, eσ81, jup_n (of_decide_eq_true rfl), eσ77, jup_n (of_decide_eq_true rfl), jnc (show x82.toInt = x32.toInt - 1 by have h9 := tx82; omega), jnc (rfl : x32.toInt = x32.toInt)]) (by omega) (by have h9 := tx86; omega))⟩ hP hS (lv_sub hl [0, 1, 2, 3, 4] rfl)
         exact by exact lp30 1000000 1 σ _ _ ls (by have h90 := jz_1; omega) (by have h90 := jz_1; omega) (by have h90 := jz_1; omega) (fun _ _ => rfl)  hI101 ⟨(jShi.first (by have h9 := jz_1; omega)), (jShi.first (by have h9 := jz_1; omega)), (jShi.first (by have h9 := jz_1; omega))⟩ hP hS hl
   · have kc9 := jeq c9 rfl t2
     refine lv_iload_n hx hb dX12_becomes_12 rfl (lv_at hl 0 rfl) ?_
     exact by exact hret (σ 56 a1.toNatClampNeg) σ τ _ _ _ _ rfl ⟨rfl, (fun _ _ => rfl), (fun _ _ => rfl), hI101, ⟨(by rw [← jnc t1]), Or.inl ⟨jsame rfl t2 (by omega), rfl, rfl, rfl, rfl, rfl, rfl⟩⟩, trivial⟩ hP hS dX12_becomes_13
set_option maxHeartbeats 4000000 in
set_option maxRecDepth 100000 in
theorem c_X12_undo (l : Launch) (D : va_G) (cI cL : ClassId) (ad zz : Nat → Nat) (hJ : jD ad) (σ : Nat → Nat → Int32) (τ : Nat → Nat → Int64) (hI101 : jI101 σ) : jM l yX12_undo cX12_undo 1 (some .int) ({ frames := 0, cells := 0, slots := 0, locals := 0 }) D cI cL ad zz [.ref (ad 55)] σ τ (fun r σ' τ' => τ = τ' ∧ (∀ i : Nat, (i < 55 ∨ 56 < i) → σ' i = σ i) ∧ (∀ k : Nat, (k < 5 ∨ 5 < k) → σ' 55 k = σ 55 k) ∧ (jI101 σ') ∧ ((r = (-5) ∧ ((σ 55 5).toInt = 0) ∧ ((σ' 55 5).toInt = (σ 55 5).toInt) ∧ (σ' 56 = σ 56)) ∨ (True ∧ (1 ≤ (σ 55 5).toInt) ∧ ((σ 55 5).toInt ≤ 40) ∧ (r.toInt = (σ 55 5).toInt - 1) ∧ ((σ' 55 5).toInt = (σ 55 5).toInt - 1) ∧ (σ' 56 = jupd (σ 56) (σ 57 (r.toInt).toNat).toInt.toNat (σ 58 (r.toInt).toNat))))) := by
  refine jM.of hJ (by decide +kernel) (nt := .int) rfl (Nat.le_of_ble_eq_true rfl) ?_
  intro p e s m args below meth c Q ls hC hret hl hP
  obtain ⟨hx, hb, hr, hml, hown, hts, hK, -, hlocks, hZ⟩ := hC
  have hown : s.vm.findClass RX12 = some m.cls := hown
  have hS : va_S (jA ad) s.heap s.heap [] := va_S.rf
  have hA : ∀ q, jA ad q → jA ad q := fun _ h => h
  have hl : lv_has ls 1 [(0, .ref (ad 55))] := hl
  obtain ⟨i1, i2, i3, w4, w5, w6, w7⟩ : (0 ≤ (σ 55 5).toInt) ∧ ((σ 55 5).toInt ≤ (σ 55 4).toInt) ∧ ((σ 55 4).toInt ≤ 40) ∧ (∀ k : Nat, k < 68 → (-200) ≤ (σ 56 k).toInt ∧ (σ 56 k).toInt ≤ 500) ∧ (∀ k : Nat, k < 40 → 0 ≤ (σ 57 k).toInt ∧ (σ 57 k).toInt ≤ 67) ∧ (∀ k : Nat, k < 40 → (-200) ≤ (σ 58 k).toInt ∧ (σ 58 k).toInt ≤ 500) ∧ (∀ k : Nat, k < 40 → (-200) ≤ (σ 59 k).toInt ∧ (σ 59 k).toInt ≤ 500) := id hI101
  refine lv_aload_n hx hb dX12_undo_0 rfl (lv_at hl 0 rfl) ?_
  refine va_get (D := D) hx hb hts inlX12 hown hK hP 55 (jc_55 cI cL ad σ τ) rfl 5 (of_decide_eq_true rfl) (hts _ kw_11_16) (fun _ h9 => h9) rfl dX12_undo_1 ?_
  refine lv_if_ne (tgt := 10) hx hb dX12_undo_4 (of_decide_eq_true rfl) (fun c8 => ?_) (fun c8 => ?_)
  · have kc8 := jne c8 rfl jz_0
    refine lv_aload_n hx hb dX12_undo_10 rfl (lv_at hl 0 rfl) ?_
    refine lv_dup hx hb dX12_undo_11 rfl ?_
    refine va_get (D := D) hx hb hts inlX12 hown hK hP 55 (jc_55 cI cL ad σ τ) rfl 5 (of_decide_eq_true rfl) (hts _ kw_11_16) (fun _ h9 => h9) rfl dX12_undo_12 ?_
    refine lv_iconst (v := 1) hx hb dX12_undo_15 (of_decide_eq_true rfl) ?_
    have g9 := jrg (rfl : (σ 55 5).toInt = (σ 55 5).toInt)
    refine lv_isub hx hb dX12_undo_16 ?_
    refine lv_topi (fun x10 ex10 => ?_)
    exact by
     have tx10 : x10.toInt = (σ 55 5).toInt - 1 := (jsub ex10 rfl jz_1 (by omega) (by omega)).trans (by omega)
     refine jput (ty := .int) hx hb hts inlX12 tyX12 tyX12_ok nmX12 hown hK hP hJ hA hS (jc_55 cI cL ad σ τ) rfl (k := 5) (of_decide_eq_true rfl) (Nat.le_of_ble_eq_true rfl) (jp_55_5 cI cL ad σ τ x10) (hts _ kw_11_16) (fun _ h9 => h9) rfl (by decide +kernel) rfl rfl dX12_undo_17 (fun σ11 H locs eσ11 hP hS => ?_)
     refine lv_aload_n hx hb dX12_undo_20 rfl (lv_at hl 0 rfl) ?_
     refine va_get (D := D) hx hb hts inlX12 hown hK hP 55 (jc_55 cI cL ad σ11 τ) rfl 0 (of_decide_eq_true rfl) (hts _ kw_7_2) (fun _ h9 => h9) rfl dX12_undo_21 ?_
     refine lv_aload_n hx hb dX12_undo_24 rfl (lv_at hl 0 rfl) ?_
     refine va_get (D := D) hx hb hts inlX12 hown hK hP 55 (jc_55 cI cL ad σ11 τ) rfl 1 (of_decide_eq_true rfl) (hts _ kw_7_3) (fun _ h9 => h9) rfl dX12_undo_25 ?_
     refine lv_aload_n hx hb dX12_undo_28 rfl (lv_at hl 0 rfl) ?_
     refine va_get (D := D) hx hb hts inlX12 hown hK hP 55 (jc_55 cI cL ad σ11 τ) rfl 5 (of_decide_eq_true rfl) (hts _ kw_11_16) (fun _ h9 => h9) rfl dX12_undo_29 ?_
     have m12 : σ11 55 5 = x10 := (jsp eσ11)
     refine jtopr m12 ?_
     exact by
      refine jald hx hb hK hP (jc_57 cI cL ad σ11 τ) (jin tx10 (by omega) (by omega)) dX12_undo_32 ?_
      have w13 : ∀ k : Nat, k < 40 → 0 ≤ (σ11 57 k).toInt ∧ (σ11 57 k).toInt ≤ 67 := (jrr_fr (jnp 57 eσ11 (of_decide_eq_true rfl)) w5)
      have g14 := w13 _ (jnat (x := x10) tx10 (n := 40) (by omega) (of_decide_eq_true rfl))
      refine jtopr (y := (σ 57 x10.toNatClampNeg)) (by rw [jnp 57 eσ11 (of_decide_eq_true rfl)]) ?_
      rw [jnp 57 eσ11 (of_decide_eq_true rfl)] at g14
      refine lv_aload_n hx hb dX12_undo_33 rfl (lv_at hl 0 rfl) ?_
      refine va_get (D := D) hx hb hts inlX12 hown hK hP 55 (jc_55 cI cL ad σ11 τ) rfl 2 (of_decide_eq_true rfl) (hts _ kw_7_4) (fun _ h9 => h9) rfl dX12_undo_34 ?_
      refine lv_aload_n hx hb dX12_undo_37 rfl (lv_at hl 0 rfl) ?_
      refine va_get (D := D) hx hb hts inlX12 hown hK hP 55 (jc_55 cI cL ad σ11 τ) rfl 5 (of_decide_eq_true rfl) (hts _ kw_11_16) (fun _ h9 => h9) rfl dX12_undo_38 ?_
      exact by
       refine jtopr m12 ?_
       refine jald hx hb hK hP (jc_58 cI cL ad σ11 τ) (jin tx10 (by omega) (by omega)) dX12_undo_41 ?_
       have w15 : ∀ k : Nat, k < 40 → (-200) ≤ (σ11 58 k).toInt ∧ (σ11 58 k).toInt ≤ 500 := (jrr_fr (jnp 58 eσ11 (of_decide_eq_true rfl)) w6)
       have g16 := w15 _ (jnat (x := x10) tx10 (n := 40) (by omega) (of_decide_eq_true rfl))
       refine jtopr (y := (σ 58 x10.toNatClampNeg)) (by rw [jnp 58 eσ11 (of_decide_eq_true rfl)]) ?_
       rw [jnp 58 eσ11 (of_decide_eq_true rfl)] at g16
       refine jast hx hb hK hP hJ hA hS (jc_56 cI cL ad σ11 τ) (ja_56 cI cL ad σ11 τ _ _) (jin rfl (by omega) (by omega)) dX12_undo_42 (fun σ17 H locs eσ17 hP hS => ?_)
       refine lv_aload_n hx hb dX12_undo_43 rfl (lv_at hl 0 rfl) ?_
       refine va_get (D := D) hx hb hts inlX12 hown hK hP 55 (jc_55 cI cL ad σ17 τ) rfl 5 (of_decide_eq_true rfl) (hts _ kw_11_16) (fun _ h9 => h9) rfl dX12_undo_44 ?_
       exact by
        have m18 : σ17 55 5 = x10 := ((congrFun (jnp 55 eσ17 (of_decide_eq_true rfl)) 5).trans m12)
        refine jtopr m18 ?_
        have z19 : (σ17 55 5).toInt = (σ 55 5).toInt - 1 := ((congrArg Int32.toInt (show σ17 55 5 = x10 from m18)).trans tx10)
        have z20 : (σ17 55 4).toInt = (σ 55 4).toInt := (congrArg Int32.toInt (show σ17 55 4 = (σ 55 4) from ((congrFun (jnp 55 eσ17 (of_decide_eq_true rfl)) 4).trans (jkp 4 eσ11 (of_decide_eq_true rfl)))))
        have w21 : ∀ k : Nat, k < 68 → (-200) ≤ (σ17 56 k).toInt ∧ (σ17 56 k).toInt ≤ 500 := (by rw [eσ17]; exact jrr_up (jrr_fr (jnp 56 eσ11 (of_decide_eq_true rfl)) w4) (by omega) (by omega))
        have w22 : ∀ k : Nat, k < 40 → 0 ≤ (σ17 57 k).toInt ∧ (σ17 57 k).toInt ≤ 67 := (jrr_fr (jnp 57 eσ17 (of_decide_eq_true rfl)) w13)
        have w23 : ∀ k : Nat, k < 40 → (-200) ≤ (σ17 58 k).toInt ∧ (σ17 58 k).toInt ≤ 500 := (jrr_fr (jnp 58 eσ17 (of_decide_eq_true rfl)) w15)
        have w24 : ∀ k : Nat, k < 40 → (-200) ≤ (σ17 59 k).toInt ∧ (σ17 59 k).toInt ≤ 500 := (jrr_fr (jnp 59 eσ17 (of_decide_eq_true rfl)) (jrr_fr (jnp 59 eσ11 (of_decide_eq_true rfl)) w7))
        have I25 : jI101 σ17 := ⟨(by omega), (by omega), (by omega), w21, w22, w23, w24⟩
        exact by exact hret x10 σ17 τ _ _ _ _ rfl ⟨rfl, (fun i hi => ((jnp i eσ17 (imp_157 i hi)).trans (jnp i eσ11 (imp_158 i hi)))), (fun i hi => ((congrFun (jnp 55 eσ17 (of_decide_eq_true rfl)) i).trans (jkp i eσ11 (imp_159 i hi)))), I25, Or.inr (⟨trivial, (by have h9 := tx10; omega), (by have h9 := tx10; omega), (by have h9 := tx10; omega), (by have h9 := tx10; omega), (by rw [eσ17, jup_row, eσ11, jup_n (of_decide_eq_true rfl), jnc (rfl : (σ 57 x10.toNatClampNeg).toInt = (σ 57 x10.toNatClampNeg).toInt), jnc (show x10.toInt = x10.toInt by have h9 := tx10; omega)])⟩)⟩ hP hS dX12_undo_47
  · exact by
     have kc8 := jeq c8 rfl jz_0
     refine lv_bipush (v := (-5)) hx hb dX12_undo_7 (of_decide_eq_true rfl) ?_
     exact by exact hret (-5) σ τ _ _ _ _ rfl ⟨rfl, (fun _ _ => rfl), (fun _ _ => rfl), hI101, Or.inl ⟨rfl, (by have h9 := jz_m5; omega), (by have h9 := jz_m5; omega), rfl⟩⟩ hP hS dX12_undo_9
set_option maxHeartbeats 4000000 in
set_option maxRecDepth 100000 in
theorem c_X12_redo (l : Launch) (D : va_G) (cI cL : ClassId) (ad zz : Nat → Nat) (hJ : jD ad) (σ : Nat → Nat → Int32) (τ : Nat → Nat → Int64) (hI101 : jI101 σ) : jM l yX12_redo cX12_redo 1 (some .int) ({ frames := 0, cells := 0, slots := 0, locals := 0 }) D cI cL ad zz [.ref (ad 55)] σ τ (fun r σ' τ' => τ = τ' ∧ (∀ i : Nat, (i < 55 ∨ 56 < i) → σ' i = σ i) ∧ (∀ k : Nat, (k < 5 ∨ 5 < k) → σ' 55 k = σ 55 k) ∧ (jI101 σ') ∧ ((r = (-5) ∧ ((σ 55 4).toInt - (σ 55 5).toInt = 0) ∧ ((σ' 55 5).toInt = (σ 55 5).toInt) ∧ (σ' 56 = σ 56)) ∨ (True ∧ (1 ≤ (σ 55 4).toInt - (σ 55 5).toInt) ∧ ((σ 55 5).toInt < 40) ∧ (r.toInt = (σ 55 4).toInt - (σ 55 5).toInt - 1) ∧ ((σ' 55 5).toInt = (σ 55 5).toInt + 1) ∧ (σ' 56 = jupd (σ 56) (σ 57 ((σ 55 5).toInt).toNat).toInt.toNat (σ 59 ((σ 55 5).toInt).toNat))))) := by
  refine jM.of hJ (by decide +kernel) (nt := .int) rfl (Nat.le_of_ble_eq_true rfl) ?_
  intro p e s m args below meth c Q ls hC hret hl hP
  obtain ⟨hx, hb, hr, hml, hown, hts, hK, -, hlocks, hZ⟩ := hC
  have hown : s.vm.findClass RX12 = some m.cls := hown
  have hS : va_S (jA ad) s.heap s.heap [] := va_S.rf
  have hA : ∀ q, jA ad q → jA ad q := fun _ h => h
  have hl : lv_has ls 1 [(0, .ref (ad 55))] := hl
  obtain ⟨i1, i2, i3, w4, w5, w6, w7⟩ : (0 ≤ (σ 55 5).toInt) ∧ ((σ 55 5).toInt ≤ (σ 55 4).toInt) ∧ ((σ 55 4).toInt ≤ 40) ∧ (∀ k : Nat, k < 68 → (-200) ≤ (σ 56 k).toInt ∧ (σ 56 k).toInt ≤ 500) ∧ (∀ k : Nat, k < 40 → 0 ≤ (σ 57 k).toInt ∧ (σ 57 k).toInt ≤ 67) ∧ (∀ k : Nat, k < 40 → (-200) ≤ (σ 58 k).toInt ∧ (σ 58 k).toInt ≤ 500) ∧ (∀ k : Nat, k < 40 → (-200) ≤ (σ 59 k).toInt ∧ (σ 59 k).toInt ≤ 500) := id hI101
  refine lv_aload_n hx hb dX12_redo_0 rfl (lv_at hl 0 rfl) ?_
  refine va_get (D := D) hx hb hts inlX12 hown hK hP 55 (jc_55 cI cL ad σ τ) rfl 5 (of_decide_eq_true rfl) (hts _ kw_11_16) (fun _ h9 => h9) rfl dX12_redo_1 ?_
  refine lv_aload_n hx hb dX12_redo_4 rfl (lv_at hl 0 rfl) ?_
  refine va_get (D := D) hx hb hts inlX12 hown hK hP 55 (jc_55 cI cL ad σ τ) rfl 4 (of_decide_eq_true rfl) (hts _ kw_11_17) (fun _ h9 => h9) rfl dX12_redo_5 ?_
  refine lv_icmp_ne (tgt := 14) hx hb dX12_redo_8 (of_decide_eq_true rfl) (fun c8 => ?_) (fun c8 => ?_)
  · have kc8 := jne c8 rfl rfl
    refine lv_aload_n hx hb dX12_redo_14 rfl (lv_at hl 0 rfl) ?_
    refine va_get (D := D) hx hb hts inlX12 hown hK hP 55 (jc_55 cI cL ad σ τ) rfl 0 (of_decide_eq_true rfl) (hts _ kw_7_2) (fun _ h9 => h9) rfl dX12_redo_15 ?_
    refine lv_aload_n hx hb dX12_redo_18 rfl (lv_at hl 0 rfl) ?_
    refine va_get (D := D) hx hb hts inlX12 hown hK hP 55 (jc_55 cI cL ad σ τ) rfl 1 (of_decide_eq_true rfl) (hts _ kw_7_3) (fun _ h9 => h9) rfl dX12_redo_19 ?_
    refine lv_aload_n hx hb dX12_redo_22 rfl (lv_at hl 0 rfl) ?_
    refine va_get (D := D) hx hb hts inlX12 hown hK hP 55 (jc_55 cI cL ad σ τ) rfl 5 (of_decide_eq_true rfl) (hts _ kw_11_16) (fun _ h9 => h9) rfl dX12_redo_23 ?_
    exact by
     refine jald hx hb hK hP (jc_57 cI cL ad σ τ) (jin rfl (by omega) (by omega)) dX12_redo_26 ?_
     have g9 := w5 _ (jnat (x := (σ 55 5)) rfl (n := 40) (by omega) (of_decide_eq_true rfl))
     refine jtopr (y := (σ 57 (σ 55 5).toNatClampNeg)) rfl ?_
     refine lv_aload_n hx hb dX12_redo_27 rfl (lv_at hl 0 rfl) ?_
     refine va_get (D := D) hx hb hts inlX12 hown hK hP 55 (jc_55 cI cL ad σ τ) rfl 3 (of_decide_eq_true rfl) (hts _ kw_7_5) (fun _ h9 => h9) rfl dX12_redo_28 ?_
     refine lv_aload_n hx hb dX12_redo_31 rfl (lv_at hl 0 rfl) ?_
     refine va_get (D := D) hx hb hts inlX12 hown hK hP 55 (jc_55 cI cL ad σ τ) rfl 5 (of_decide_eq_true rfl) (hts _ kw_11_16) (fun _ h9 => h9) rfl dX12_redo_32 ?_
     refine jald hx hb hK hP (jc_59 cI cL ad σ τ) (jin rfl (by omega) (by omega)) dX12_redo_35 ?_
     have g10 := w7 _ (jnat (x := (σ 55 5)) rfl (n := 40) (by omega) (of_decide_eq_true rfl))
     exact by
      refine jtopr (y := (σ 59 (σ 55 5).toNatClampNeg)) rfl ?_
      refine jast hx hb hK hP hJ hA hS (jc_56 cI cL ad σ τ) (ja_56 cI cL ad σ τ _ _) (jin rfl (by omega) (by omega)) dX12_redo_36 (fun σ11 H locs eσ11 hP hS => ?_)
      refine lv_aload_n hx hb dX12_redo_37 rfl (lv_at hl 0 rfl) ?_
      refine lv_dup hx hb dX12_redo_38 rfl ?_
      refine va_get (D := D) hx hb hts inlX12 hown hK hP 55 (jc_55 cI cL ad σ11 τ) rfl 5 (of_decide_eq_true rfl) (hts _ kw_11_16) (fun _ h9 => h9) rfl dX12_redo_39 ?_
      have m12 : σ11 55 5 = (σ 55 5) := (congrFun (jnp 55 eσ11 (of_decide_eq_true rfl)) 5)
      refine jtopr m12 ?_
      refine lv_iconst (v := 1) hx hb dX12_redo_42 (of_decide_eq_true rfl) ?_
      have g13 := jrg (rfl : (σ 55 5).toInt = (σ 55 5).toInt)
      exact by
       refine lv_iadd hx hb dX12_redo_43 ?_
       refine lv_topi (fun x14 ex14 => ?_)
       have tx14 : x14.toInt = (σ 55 5).toInt + 1 := (jadd ex14 rfl jz_1 (by omega) (by omega)).trans (by omega)
       refine jput (ty := .int) hx hb hts inlX12 tyX12 tyX12_ok nmX12 hown hK hP hJ hA hS (jc_55 cI cL ad σ11 τ) rfl (k := 5) (of_decide_eq_true rfl) (Nat.le_of_ble_eq_true rfl) (jp_55_5 cI cL ad σ11 τ x14) (hts _ kw_11_16) (fun _ h9 => h9) rfl (by decide +kernel) rfl rfl dX12_redo_44 (fun σ15 H locs eσ15 hP hS => ?_)
       refine lv_aload_n hx hb dX12_redo_47 rfl (lv_at hl 0 rfl) ?_
       refine va_get (D := D) hx hb hts inlX12 hown hK hP 55 (jc_55 cI cL ad σ15 τ) rfl 4 (of_decide_eq_true rfl) (hts _ kw_11_17) (fun _ h9 => h9) rfl dX12_redo_48 ?_
       have m16 : σ15 55 4 = (σ 55 4) := ((jkp 4 eσ15 (of_decide_eq_true rfl)).trans (congrFun (jnp 55 eσ11 (of_decide_eq_true rfl)) 4))
       refine jtopr m16 ?_
       refine lv_aload_n hx hb dX12_redo_51 rfl (lv_at hl 0 rfl) ?_
       exact by
        refine va_get (D := D) hx hb hts inlX12 hown hK hP 55 (jc_55 cI cL ad σ15 τ) rfl 5 (of_decide_eq_true rfl) (hts _ kw_11_16) (fun _ h9 => h9) rfl dX12_redo_52 ?_
        have m17 : σ15 55 5 = x14 := (jsp eσ15)
        refine jtopr m17 ?_
        have g18 := jrg (rfl : (σ 55 4).toInt = (σ 55 4).toInt)
        refine lv_isub hx hb dX12_redo_55 ?_
        refine lv_topi (fun x19 ex19 => ?_)
        have tx19 : x19.toInt = (σ 55 4).toInt - (σ 55 5).toInt - 1 := (jsub ex19 rfl tx14 (by omega) (by omega)).trans (by omega)
        have z20 : (σ15 55 5).toInt = (σ 55 5).toInt + 1 := ((congrArg Int32.toInt (show σ15 55 5 = x14 from m17)).trans tx14)
        have z21 : (σ15 55 4).toInt = (σ 55 4).toInt := (congrArg Int32.toInt (show σ15 55 4 = (σ 55 4) from m16))
        exact by
         have w22 : ∀ k : Nat, k < 68 → (-200) ≤ (σ15 56 k).toInt ∧ (σ15 56 k).toInt ≤ 500 := (jrr_fr (jnp 56 eσ15 (of_decide_eq_true rfl)) (by rw [eσ11]; exact jrr_up w4 (by omega) (by omega)))
         have w23 : ∀ k : Nat, k < 40 → 0 ≤ (σ15 57 k).toInt ∧ (σ15 57 k).toInt ≤ 67 := (jrr_fr (jnp 57 eσ15 (of_decide_eq_true rfl)) (jrr_fr (jnp 57 eσ11 (of_decide_eq_true rfl)) w5))
         have w24 : ∀ k : Nat, k < 40 → (-200) ≤ (σ15 58 k).toInt ∧ (σ15 58 k).toInt ≤ 500 := (jrr_fr (jnp 58 eσ15 (of_decide_eq_true rfl)) (jrr_fr (jnp 58 eσ11 (of_decide_eq_true rfl)) w6))
         have w25 : ∀ k : Nat, k < 40 → (-200) ≤ (σ15 59 k).toInt ∧ (σ15 59 k).toInt ≤ 500 := (jrr_fr (jnp 59 eσ15 (of_decide_eq_true rfl)) (jrr_fr (jnp 59 eσ11 (of_decide_eq_true rfl)) w7))
         have I26 : jI101 σ15 := ⟨(by omega), (by omega), (by omega), w22, w23, w24, w25⟩
         exact by exact hret x19 σ15 τ _ _ _ _ rfl ⟨rfl, (fun i hi => ((jnp i eσ15 (imp_158 i hi)).trans (jnp i eσ11 (imp_157 i hi)))), (fun i hi => ((jkp i eσ15 (imp_159 i hi)).trans (congrFun (jnp 55 eσ11 (of_decide_eq_true rfl)) i))), I26, Or.inr (⟨trivial, (by have h9 := tx19; omega), (by have h9 := tx19; omega), (by have h9 := tx19; omega), (by have h9 := tx19; omega), (by rw [eσ15, jup_n (of_decide_eq_true rfl), eσ11, jup_row, jnc (rfl : (σ 57 (σ 55 5).toNatClampNeg).toInt = (σ 57 (σ 55 5).toNatClampNeg).toInt), jnc (show (σ 55 5).toInt = (σ 55 5).toInt by have h9 := tx19; omega)])⟩)⟩ hP hS dX12_redo_56
  · have kc8 := jeq c8 rfl rfl
    refine lv_bipush (v := (-5)) hx hb dX12_redo_11 (of_decide_eq_true rfl) ?_
    exact by exact hret (-5) σ τ _ _ _ _ rfl ⟨rfl, (fun _ _ => rfl), (fun _ _ => rfl), hI101, Or.inl ⟨rfl, (by have h9 := jz_m5; omega), (by have h9 := jz_m5; omega), rfl⟩⟩ hP hS dX12_redo_13
set_option maxHeartbeats 4000000 in
set_option maxRecDepth 100000 in
theorem c_X12_isBowler (l : Launch) (D : va_G) (cI cL : ClassId) (ad zz : Nat → Nat) (hJ : jD ad) (σ : Nat → Nat → Int32) (τ : Nat → Nat → Int64) (a1 : Int32) (A1 : Int) (t1 : a1.toInt = A1) (hI102 : jI102 σ) : jM l yX12_isBowler cX12_isBowler 2 (some .boolean) ({ frames := 1, cells := 0, slots := 0, locals := 25 }) D cI cL ad zz [.ref (ad 55), .int a1] σ τ (fun r σ' τ' => (σ = σ' ∧ τ = τ') ∧ ((r = 1 ∧ (0 ≤ A1 ∧ A1 < (σ 55 6).toInt)) ∨ (r = 0 ∧ ((A1 < 0) ∨ ((σ 55 6).toInt ≤ A1))))) := by
  refine jM.of hJ (by decide +kernel) (nt := .boolean) rfl (Nat.le_of_ble_eq_true rfl) ?_
  intro p e s m args below meth c Q ls hC hret hl hP
  obtain ⟨hx, hb, hr, hml, hown, hts, hK, -, hlocks, hZ⟩ := hC
  have hown : s.vm.findClass RX12 = some m.cls := hown
  have hS : va_S (jA ad) s.heap s.heap [] := va_S.rf
  have hA : ∀ q, jA ad q → jA ad q := fun _ h => h
  have hl : lv_has ls 2 [(0, .ref (ad 55)), (1, .int a1)] := hl
  have g1 := jrg t1
  obtain ⟨i1, w2, w3⟩ : (0 ≤ (σ 55 6).toInt ∧ (σ 55 6).toInt ≤ 4) ∧ (∀ k : Nat, k < 4 → 0 ≤ (σ 60 k).toInt ∧ (σ 60 k).toInt ≤ 50) ∧ (∀ k : Nat, k < 4 → 0 ≤ (σ 61 k).toInt ∧ (σ 61 k).toInt ≤ 20) := id hI102
  refine lv_iload_n hx hb dX12_isBowler_0 rfl (lv_at hl 1 rfl) ?_
  refine lv_i2l (v := a1.toInt64) hx hb dX12_isBowler_1 rfl ?_
  refine lv_lconst (v := 0) hx hb dX12_isBowler_2 (of_decide_eq_true rfl) ?_
  refine lv_aload_n hx hb dX12_isBowler_3 rfl (lv_at hl 0 rfl) ?_
  refine va_get (D := D) hx hb hts inlX12 hown hK hP 55 (jc_55 cI cL ad σ τ) rfl 6 (of_decide_eq_true rfl) (hts _ kw_9_13) (fun _ h9 => h9) rfl dX12_isBowler_4 ?_
  refine lv_iconst (v := 1) hx hb dX12_isBowler_7 (of_decide_eq_true rfl) ?_
  have g4 := jrg (rfl : (σ 55 6).toInt = (σ 55 6).toInt)
  refine lv_isub hx hb dX12_isBowler_8 ?_
  refine lv_topi (fun x5 ex5 => ?_)
  exact by
   have tx5 : x5.toInt = (σ 55 6).toInt - 1 := (jsub ex5 rfl jz_1 (by omega) (by omega)).trans (by omega)
   refine lv_i2l (v := x5.toInt64) hx hb dX12_isBowler_9 rfl ?_
   refine jcallS (As := [.long a1.toInt64, .long 0, .long x5.toInt64]) (rest := []) ⟨hx, hb, hml, hown, hts⟩ hK hP hA hS hZ (c_X12_within l D cI cL ad zz hJ σ τ a1.toInt64 (A1) (jtoL t1) 0 (0) jzl_0 x5.toInt64 ((σ 55 6).toInt - 1) (jtoL tx5)) cw_RX12_136 ⟨Nat.le_of_ble_eq_true rfl, Nat.le_of_ble_eq_true rfl⟩ rfl rfl rfl hl.1 rfl (Nat.le_of_ble_eq_true rfl) dX12_isBowler_10 ⟨Nat.zero_le _, Nat.zero_le _⟩ (fun r7 σ6 τ6 H locs h6 hP hS => ?_)
   obtain ⟨⟨rfl, rfl⟩, h6⟩ := h6
   rcases h6 with h8 | h9
   · obtain ⟨q11, k10⟩ := h8
     have q11 := q11.symm
     subst q11
     exact hret 1 σ τ _ _ _ _ rfl ⟨⟨rfl, rfl⟩, Or.inl ⟨rfl, (by have h9 := jz_1; omega)⟩⟩ hP hS dX12_isBowler_13
   · obtain ⟨q13, k12⟩ := h9
     have q13 := q13.symm
     subst q13
     exact hret 0 σ τ _ _ _ _ rfl ⟨⟨rfl, rfl⟩, Or.inr (⟨rfl, (by have h9 := jz_0; omega)⟩)⟩ hP hS dX12_isBowler_13
set_option maxHeartbeats 4000000 in
set_option maxRecDepth 100000 in
theorem c_X12_bowler (l : Launch) (D : va_G) (cI cL : ClassId) (ad zz : Nat → Nat) (hJ : jD ad) (σ : Nat → Nat → Int32) (τ : Nat → Nat → Int64) (a1 : Int32) (A1 : Int) (t1 : a1.toInt = A1) (a2 : Int32) (A2 : Int) (t2 : a2.toInt = A2) (a3 : Int32) (A3 : Int) (t3 : a3.toInt = A3) (hI101 : jI101 σ) (hI102 : jI102 σ) : jM l yX12_bowler cX12_bowler 4 (some .int) ({ frames := 1, cells := 0, slots := 0, locals := 25 }) D cI cL ad zz [.ref (ad 55), .int a1, .int a2, .int a3] σ τ (fun r σ' τ' => τ = τ' ∧ (∀ i : Nat, (i < 55 ∨ 56 < i) ∧ (i < 60 ∨ 61 < i) → σ' i = σ i) ∧ (∀ k : Nat, (k < 6 ∨ 6 < k) → σ' 55 k = σ 55 k) ∧ (jI101 σ') ∧ (jI102 σ') ∧ ((r = (-1) ∧ ((A1 < 0) ∨ (8 < A1) ∨ (A2 < 0) ∨ (50 < A2) ∨ (A3 < 0) ∨ (20 < A3)) ∧ ((σ' 55 6).toInt = (σ 55 6).toInt) ∧ (σ' 56 = σ 56 ∧ σ' 60 = σ 60 ∧ σ' 61 = σ 61)) ∨ (r = (-3) ∧ (0 ≤ A1 ∧ A1 ≤ 8) ∧ (0 ≤ A2 ∧ A2 ≤ 50) ∧ (0 ≤ A3 ∧ A3 ≤ 20) ∧ ((σ 55 6).toInt = 4) ∧ ((σ' 55 6).toInt = 4) ∧ (σ' 56 = σ 56 ∧ σ' 60 = σ 60 ∧ σ' 61 = σ 61)) ∨ (True ∧ (0 ≤ A1 ∧ A1 ≤ 8) ∧ (0 ≤ A2 ∧ A2 ≤ 50) ∧ (0 ≤ A3 ∧ A3 ≤ 20) ∧ ((σ 55 6).toInt < 4) ∧ (r.toInt = (σ 55 6).toInt) ∧ ((σ' 55 6).toInt = (σ 55 6).toInt + 1) ∧ (σ' 56 = jupd (σ 56) (32 + (σ 55 6).toInt).toNat a1) ∧ (σ' 60 = jupd (σ 60) ((σ 55 6).toInt).toNat a2 ∧ σ' 61 = jupd (σ 61) ((σ 55 6).toInt).toNat a3)))) := by
  refine jM.of hJ (by decide +kernel) (nt := .int) rfl (Nat.le_of_ble_eq_true rfl) ?_
  intro p e s m args below meth c Q ls hC hret hl hP
  obtain ⟨hx, hb, hr, hml, hown, hts, hK, -, hlocks, hZ⟩ := hC
  have hown : s.vm.findClass RX12 = some m.cls := hown
  have hS : va_S (jA ad) s.heap s.heap [] := va_S.rf
  have hA : ∀ q, jA ad q → jA ad q := fun _ h => h
  have hl : lv_has ls 4 [(0, .ref (ad 55)), (1, .int a1), (2, .int a2), (3, .int a3)] := hl
  have g1 := jrg t1
  have g2 := jrg t2
  have g3 := jrg t3
  obtain ⟨i1, i2, i3, w4, w5, w6, w7⟩ : (0 ≤ (σ 55 5).toInt) ∧ ((σ 55 5).toInt ≤ (σ 55 4).toInt) ∧ ((σ 55 4).toInt ≤ 40) ∧ (∀ k : Nat, k < 68 → (-200) ≤ (σ 56 k).toInt ∧ (σ 56 k).toInt ≤ 500) ∧ (∀ k : Nat, k < 40 → 0 ≤ (σ 57 k).toInt ∧ (σ 57 k).toInt ≤ 67) ∧ (∀ k : Nat, k < 40 → (-200) ≤ (σ 58 k).toInt ∧ (σ 58 k).toInt ≤ 500) ∧ (∀ k : Nat, k < 40 → (-200) ≤ (σ 59 k).toInt ∧ (σ 59 k).toInt ≤ 500) := id hI101
  obtain ⟨i8, w9, w10⟩ : (0 ≤ (σ 55 6).toInt ∧ (σ 55 6).toInt ≤ 4) ∧ (∀ k : Nat, k < 4 → 0 ≤ (σ 60 k).toInt ∧ (σ 60 k).toInt ≤ 50) ∧ (∀ k : Nat, k < 4 → 0 ≤ (σ 61 k).toInt ∧ (σ 61 k).toInt ≤ 20) := id hI102
  refine lv_iload_n hx hb dX12_bowler_0 rfl (lv_at hl 1 rfl) ?_
  refine lv_i2l (v := a1.toInt64) hx hb dX12_bowler_1 rfl ?_
  refine lv_lconst (v := 0) hx hb dX12_bowler_2 (of_decide_eq_true rfl) ?_
  refine lv_ldc2 (v := 8) hx hb hown (hts _ kw_9_10) dX12_bowler_3 ?_
  refine jcallS (As := [.long a1.toInt64, .long 0, .long 8]) (rest := []) ⟨hx, hb, hml, hown, hts⟩ hK hP hA hS hZ (c_X12_within l D cI cL ad zz hJ σ τ a1.toInt64 (A1) (jtoL t1) 0 (0) jzl_0 8 (8) jzl_8) cw_RX12_136 ⟨Nat.le_of_ble_eq_true rfl, Nat.le_of_ble_eq_true rfl⟩ rfl rfl rfl hl.1 rfl (Nat.le_of_ble_eq_true rfl) dX12_bowler_6 ⟨Nat.zero_le _, Nat.zero_le _⟩ (fun r12 σ11 τ11 H locs h11 hP hS => ?_)
  obtain ⟨⟨rfl, rfl⟩, h11⟩ := h11
  rcases h11 with h13 | h14
  · obtain ⟨q16, k15⟩ := h13
    have q16 := q16.symm
    subst q16
    refine lv_if_eq (tgt := 36) hx hb dX12_bowler_9 (of_decide_eq_true rfl) (fun c => absurd c (of_decide_eq_true rfl)) (fun _ => ?_)
    refine lv_iload_n hx hb dX12_bowler_12 rfl (lv_at hl 2 rfl) ?_
    refine lv_i2l (v := a2.toInt64) hx hb dX12_bowler_13 rfl ?_
    refine lv_lconst (v := 0) hx hb dX12_bowler_14 (of_decide_eq_true rfl) ?_
    refine lv_ldc2 (v := 50) hx hb hown (hts _ kw_9_11) dX12_bowler_15 ?_
    refine jcallS (As := [.long a2.toInt64, .long 0, .long 50]) (rest := []) ⟨hx, hb, hml, hown, hts⟩ hK hP hA hS hZ (c_X12_within l D cI cL ad zz hJ σ τ a2.toInt64 (A2) (jtoL t2) 0 (0) jzl_0 50 (50) jzl_50) cw_RX12_136 ⟨Nat.le_of_ble_eq_true rfl, Nat.le_of_ble_eq_true rfl⟩ rfl rfl rfl hl.1 rfl (Nat.le_of_ble_eq_true rfl) dX12_bowler_18 ⟨Nat.zero_le _, Nat.zero_le _⟩ (fun r18 σ17 τ17 H locs h17 hP hS => ?_)
    obtain ⟨⟨rfl, rfl⟩, h17⟩ := h17
    rcases h17 with h19 | h20
    · obtain ⟨q22, k21⟩ := h19
      have q22 := q22.symm
      subst q22
      refine lv_if_eq (tgt := 36) hx hb dX12_bowler_21 (of_decide_eq_true rfl) (fun c => absurd c (of_decide_eq_true rfl)) (fun _ => ?_)
      refine lv_iload_n hx hb dX12_bowler_24 rfl (lv_at hl 3 rfl) ?_
      refine lv_i2l (v := a3.toInt64) hx hb dX12_bowler_25 rfl ?_
      refine lv_lconst (v := 0) hx hb dX12_bowler_26 (of_decide_eq_true rfl) ?_
      refine lv_ldc2 (v := 20) hx hb hown (hts _ kw_9_12) dX12_bowler_27 ?_
      refine jcallS (As := [.long a3.toInt64, .long 0, .long 20]) (rest := []) ⟨hx, hb, hml, hown, hts⟩ hK hP hA hS hZ (c_X12_within l D cI cL ad zz hJ σ τ a3.toInt64 (A3) (jtoL t3) 0 (0) jzl_0 20 (20) jzl_20) cw_RX12_136 ⟨Nat.le_of_ble_eq_true rfl, Nat.le_of_ble_eq_true rfl⟩ rfl rfl rfl hl.1 rfl (Nat.le_of_ble_eq_true rfl) dX12_bowler_30 ⟨Nat.zero_le _, Nat.zero_le _⟩ (fun r24 σ23 τ23 H locs h23 hP hS => ?_)
      obtain ⟨⟨rfl, rfl⟩, h23⟩ := h23
      rcases h23 with h25 | h26
      · obtain ⟨q28, k27⟩ := h25
        have q28 := q28.symm
        subst q28
        refine lv_if_ne (tgt := 38) hx hb dX12_bowler_33 (of_decide_eq_true rfl) (fun _ => ?_) (fun c => absurd c (of_decide_eq_true rfl))
        refine lv_aload_n hx hb dX12_bowler_38 rfl (lv_at hl 0 rfl) ?_
        refine va_get (D := D) hx hb hts inlX12 hown hK hP 55 (jc_55 cI cL ad σ τ) rfl 6 (of_decide_eq_true rfl) (hts _ kw_9_13) (fun _ h9 => h9) rfl dX12_bowler_39 ?_
        refine lv_iconst (v := 4) hx hb dX12_bowler_42 (of_decide_eq_true rfl) ?_
        refine lv_icmp_ne (tgt := 49) hx hb dX12_bowler_43 (of_decide_eq_true rfl) (fun c29 => ?_) (fun c29 => ?_)
        · have kc29 := jne c29 rfl jz_4
          refine lv_aload_n hx hb dX12_bowler_49 rfl (lv_at hl 0 rfl) ?_
          refine va_get (D := D) hx hb hts inlX12 hown hK hP 55 (jc_55 cI cL ad σ τ) rfl 0 (of_decide_eq_true rfl) (hts _ kw_7_2) (fun _ h9 => h9) rfl dX12_bowler_50 ?_
          refine lv_bipush (v := 32) hx hb dX12_bowler_53 (of_decide_eq_true rfl) ?_
          refine lv_aload_n hx hb dX12_bowler_55 rfl (lv_at hl 0 rfl) ?_
          refine va_get (D := D) hx hb hts inlX12 hown hK hP 55 (jc_55 cI cL ad σ τ) rfl 6 (of_decide_eq_true rfl) (hts _ kw_9_13) (fun _ h9 => h9) rfl dX12_bowler_56 ?_
          have g30 := jrg (rfl : (σ 55 6).toInt = (σ 55 6).toInt)
          refine lv_iadd hx hb dX12_bowler_59 ?_
          refine lv_topi (fun x31 ex31 => ?_)
          exact by
           have tx31 : x31.toInt = (σ 55 6).toInt + 32 := (jadd ex31 jz_32 rfl (by omega) (by omega)).trans (by omega)
           refine lv_iload_n hx hb dX12_bowler_60 rfl (lv_at hl 1 rfl) ?_
           refine jast hx hb hK hP hJ hA hS (jc_56 cI cL ad σ τ) (ja_56 cI cL ad σ τ _ _) (jin tx31 (by omega) (by omega)) dX12_bowler_61 (fun σ32 H locs eσ32 hP hS => ?_)
           refine lv_aload_n hx hb dX12_bowler_62 rfl (lv_at hl 0 rfl) ?_
           refine va_get (D := D) hx hb hts inlX12 hown hK hP 55 (jc_55 cI cL ad σ32 τ) rfl 7 (of_decide_eq_true rfl) (hts _ kw_7_6) (fun _ h9 => h9) rfl dX12_bowler_63 ?_
           refine lv_aload_n hx hb dX12_bowler_66 rfl (lv_at hl 0 rfl) ?_
           refine va_get (D := D) hx hb hts inlX12 hown hK hP 55 (jc_55 cI cL ad σ32 τ) rfl 6 (of_decide_eq_true rfl) (hts _ kw_9_13) (fun _ h9 => h9) rfl dX12_bowler_67 ?_
           have m33 : σ32 55 6 = (σ 55 6) := (congrFun (jnp 55 eσ32 (of_decide_eq_true rfl)) 6)
           refine jtopr m33 ?_
           exact by
            refine lv_iload_n hx hb dX12_bowler_70 rfl (lv_at hl 2 rfl) ?_
            refine jast hx hb hK hP hJ hA hS (jc_60 cI cL ad σ32 τ) (ja_60 cI cL ad σ32 τ _ _) (jin rfl (by omega) (by omega)) dX12_bowler_71 (fun σ34 H locs eσ34 hP hS => ?_)
            refine lv_aload_n hx hb dX12_bowler_72 rfl (lv_at hl 0 rfl) ?_
            refine va_get (D := D) hx hb hts inlX12 hown hK hP 55 (jc_55 cI cL ad σ34 τ) rfl 8 (of_decide_eq_true rfl) (hts _ kw_7_7) (fun _ h9 => h9) rfl dX12_bowler_73 ?_
            refine lv_aload_n hx hb dX12_bowler_76 rfl (lv_at hl 0 rfl) ?_
            refine va_get (D := D) hx hb hts inlX12 hown hK hP 55 (jc_55 cI cL ad σ34 τ) rfl 6 (of_decide_eq_true rfl) (hts _ kw_9_13) (fun _ h9 => h9) rfl dX12_bowler_77 ?_
            have m35 : σ34 55 6 = (σ 55 6) := ((congrFun (jnp 55 eσ34 (of_decide_eq_true rfl)) 6).trans m33)
            refine jtopr m35 ?_
            refine lv_iload_n hx hb dX12_bowler_80 rfl (lv_at hl 3 rfl) ?_
            exact by
             refine jast hx hb hK hP hJ hA hS (jc_61 cI cL ad σ34 τ) (ja_61 cI cL ad σ34 τ _ _) (jin rfl (by omega) (by omega)) dX12_bowler_81 (fun σ36 H locs eσ36 hP hS => ?_)
             refine lv_aload_n hx hb dX12_bowler_82 rfl (lv_at hl 0 rfl) ?_
             refine lv_dup hx hb dX12_bowler_83 rfl ?_
             refine va_get (D := D) hx hb hts inlX12 hown hK hP 55 (jc_55 cI cL ad σ36 τ) rfl 6 (of_decide_eq_true rfl) (hts _ kw_9_13) (fun _ h9 => h9) rfl dX12_bowler_84 ?_
             have m37 : σ36 55 6 = (σ 55 6) := ((congrFun (jnp 55 eσ36 (of_decide_eq_true rfl)) 6).trans m35)
             refine jtopr m37 ?_
             refine lv_iconst (v := 1) hx hb dX12_bowler_87 (of_decide_eq_true rfl) ?_
             refine lv_iadd hx hb dX12_bowler_88 ?_
             refine lv_topi (fun x38 ex38 => ?_)
             exact by
              have tx38 : x38.toInt = (σ 55 6).toInt + 1 := (jadd ex38 rfl jz_1 (by omega) (by omega)).trans (by omega)
              refine jput (ty := .int) hx hb hts inlX12 tyX12 tyX12_ok nmX12 hown hK hP hJ hA hS (jc_55 cI cL ad σ36 τ) rfl (k := 6) (of_decide_eq_true rfl) (Nat.le_of_ble_eq_true rfl) (jp_55_6 cI cL ad σ36 τ x38) (hts _ kw_9_13) (fun _ h9 => h9) rfl (by decide +kernel) rfl rfl dX12_bowler_89 (fun σ39 H locs eσ39 hP hS => ?_)
              refine lv_aload_n hx hb dX12_bowler_92 rfl (lv_at hl 0 rfl) ?_
              refine va_get (D := D) hx hb hts inlX12 hown hK hP 55 (jc_55 cI cL ad σ39 τ) rfl 6 (of_decide_eq_true rfl) (hts _ kw_9_13) (fun _ h9 => h9) rfl dX12_bowler_93 ?_
              have m40 : σ39 55 6 = x38 := (jsp eσ39)
              refine jtopr m40 ?_
              refine lv_iconst (v := 1) hx hb dX12_bowler_96 (of_decide_eq_true rfl) ?_
              refine lv_isub hx hb dX12_bowler_97 ?_
              refine lv_topi (fun x41 ex41 => ?_)
              exact by
               have tx41 : x41.toInt = (σ 55 6).toInt := (jsub ex41 tx38 jz_1 (by omega) (by omega)).trans (by omega)
               have z42 : (σ39 55 5).toInt = (σ 55 5).toInt := (congrArg Int32.toInt (show σ39 55 5 = (σ 55 5) from ((jkp 5 eσ39 (of_decide_eq_true rfl)).trans ((congrFun (jnp 55 eσ36 (of_decide_eq_true rfl)) 5).trans ((congrFun (jnp 55 eσ34 (of_decide_eq_true rfl)) 5).trans (congrFun (jnp 55 eσ32 (of_decide_eq_true rfl)) 5))))))
               have z43 : (σ39 55 4).toInt = (σ 55 4).toInt := (congrArg Int32.toInt (show σ39 55 4 = (σ 55 4) from ((jkp 4 eσ39 (of_decide_eq_true rfl)).trans ((congrFun (jnp 55 eσ36 (of_decide_eq_true rfl)) 4).trans ((congrFun (jnp 55 eσ34 (of_decide_eq_true rfl)) 4).trans (congrFun (jnp 55 eσ32 (of_decide_eq_true rfl)) 4))))))
               have w44 : ∀ k : Nat, k < 68 → (-200) ≤ (σ39 56 k).toInt ∧ (σ39 56 k).toInt ≤ 500 := (jrr_fr (jnp 56 eσ39 (of_decide_eq_true rfl)) (jrr_fr (jnp 56 eσ36 (of_decide_eq_true rfl)) (jrr_fr (jnp 56 eσ34 (of_decide_eq_true rfl)) (by rw [eσ32]; exact jrr_up w4 (by have h9 := t1; omega) (by have h9 := t1; omega)))))
               have w45 : ∀ k : Nat, k < 40 → 0 ≤ (σ39 57 k).toInt ∧ (σ39 57 k).toInt ≤ 67 := (jrr_fr (jnp 57 eσ39 (of_decide_eq_true rfl)) (jrr_fr (jnp 57 eσ36 (of_decide_eq_true rfl)) (jrr_fr (jnp 57 eσ34 (of_decide_eq_true rfl)) (jrr_fr (jnp 57 eσ32 (of_decide_eq_true rfl)) w5))))
               have w46 : ∀ k : Nat, k < 40 → (-200) ≤ (σ39 58 k).toInt ∧ (σ39 58 k).toInt ≤ 500 := (jrr_fr (jnp 58 eσ39 (of_decide_eq_true rfl)) (jrr_fr (jnp 58 eσ36 (of_decide_eq_true rfl)) (jrr_fr (jnp 58 eσ34 (of_decide_eq_true rfl)) (jrr_fr (jnp 58 eσ32 (of_decide_eq_true rfl)) w6))))
               have w47 : ∀ k : Nat, k < 40 → (-200) ≤ (σ39 59 k).toInt ∧ (σ39 59 k).toInt ≤ 500 := (jrr_fr (jnp 59 eσ39 (of_decide_eq_true rfl)) (jrr_fr (jnp 59 eσ36 (of_decide_eq_true rfl)) (jrr_fr (jnp 59 eσ34 (of_decide_eq_true rfl)) (jrr_fr (jnp 59 eσ32 (of_decide_eq_true rfl)) w7))))
               have I48 : jI101 σ39 := ⟨(by omega), (by omega), (by omega), w44, w45, w46, w47⟩
               have z49 : (σ39 55 6).toInt = (σ 55 6).toInt + 1 := ((congrArg Int32.toInt (show σ39 55 6 = x38 from m40)).trans tx38)
               exact by
                have w50 : ∀ k : Nat, k < 4 → 0 ≤ (σ39 60 k).toInt ∧ (σ39 60 k).toInt ≤ 50 := (jrr_fr (jnp 60 eσ39 (of_decide_eq_true rfl)) (jrr_fr (jnp 60 eσ36 (of_decide_eq_true rfl)) (by rw [eσ34]; exact jrr_up (jrr_fr (jnp 60 eσ32 (of_decide_eq_true rfl)) w9) (by have h9 := t2; omega) (by have h9 := t2; omega))))
                have w51 : ∀ k : Nat, k < 4 → 0 ≤ (σ39 61 k).toInt ∧ (σ39 61 k).toInt ≤ 20 := (jrr_fr (jnp 61 eσ39 (of_decide_eq_true rfl)) (by rw [eσ36]; exact jrr_up (jrr_fr (jnp 61 eσ34 (of_decide_eq_true rfl)) (jrr_fr (jnp 61 eσ32 (of_decide_eq_true rfl)) w10)) (by have h9 := t3; omega) (by have h9 := t3; omega)))
                have I52 : jI102 σ39 := ⟨(by omega), w50, w51⟩
                exact by exact hret x41 σ39 τ _ _ _ _ rfl ⟨rfl, (fun i hi => ((jnp i eσ39 (imp_160 i hi)).trans ((jnp i eσ36 (imp_161 i hi)).trans ((jnp i eσ34 (imp_162 i hi)).trans (jnp i eσ32 (imp_163 i hi)))))), (fun i hi => ((jkp i eσ39 (imp_164 i hi)).trans ((congrFun (jnp 55 eσ36 (of_decide_eq_true rfl)) i).trans ((congrFun (jnp 55 eσ34 (of_decide_eq_true rfl)) i).trans (congrFun (jnp 55 eσ32 (of_decide_eq_true rfl)) i))))), I48, I52, Or.inr (Or.inr (⟨trivial, (by have h9 := tx41; omega), (by have h9 := tx41; omega), (by have h9 := tx41; omega), (by have h9 := tx41; omega), (by have h9 := tx41; omega), (by have h9 := tx41; omega), (by rw [eσ39, jup_n (of_decide_eq_true rfl), eσ36, jup_n (of_decide_eq_true rfl), eσ34, jup_n (of_decide_eq_true rfl), eσ32, jup_row, jnc (show x31.toInt = 32 + (σ 55 6).toInt by have h9 := tx31; omega)]), ⟨(by rw [eσ39, jup_n (of_decide_eq_true rfl), eσ36, jup_n (of_decide_eq_true rfl), eσ34, jup_row, eσ32, jup_n (of_decide_eq_true rfl), jnc (show (σ 55 6).toInt = (σ 55 6).toInt by omega)]), (by rw [eσ39, jup_n (of_decide_eq_true rfl), eσ36, jup_row, eσ34, jup_n (of_decide_eq_true rfl), eσ32, jup_n (of_decide_eq_true rfl), jnc (show (σ 55 6).toInt = (σ 55 6).toInt by omega)])⟩⟩))⟩ hP hS dX12_bowler_98
        · have kc29 := jeq c29 rfl jz_4
          refine lv_bipush (v := (-3)) hx hb dX12_bowler_46 (of_decide_eq_true rfl) ?_
          exact by exact hret (-3) σ τ _ _ _ _ rfl ⟨rfl, (fun _ _ => rfl), (fun _ _ => rfl), hI101, hI102, Or.inr (Or.inl ⟨rfl, (by have h9 := jz_m3; omega), (by have h9 := jz_m3; omega), (by have h9 := jz_m3; omega), (by have h9 := jz_m3; omega), (by have h9 := jz_m3; omega), ⟨rfl, rfl, rfl⟩⟩)⟩ hP hS dX12_bowler_48
      · obtain ⟨q54, k53⟩ := h26
        have q54 := q54.symm
        exact by
         subst q54
         refine lv_if_ne (tgt := 38) hx hb dX12_bowler_33 (of_decide_eq_true rfl) (fun c => absurd (of_decide_eq_true rfl) c) (fun _ => ?_)
         refine lv_iconst (v := (-1)) hx hb dX12_bowler_36 (of_decide_eq_true rfl) ?_
         exact by exact hret (-1) σ τ _ _ _ _ rfl ⟨rfl, (fun _ _ => rfl), (fun _ _ => rfl), hI101, hI102, Or.inl ⟨rfl, (by have h9 := jz_m1; omega), (by have h9 := jz_m1; omega), ⟨rfl, rfl, rfl⟩⟩⟩ hP hS dX12_bowler_37
    · obtain ⟨q56, k55⟩ := h20
      have q56 := q56.symm
      subst q56
      refine lv_if_eq (tgt := 36) hx hb dX12_bowler_21 (of_decide_eq_true rfl) (fun _ => ?_) (fun c => absurd (of_decide_eq_true rfl) c)
      refine lv_iconst (v := (-1)) hx hb dX12_bowler_36 (of_decide_eq_true rfl) ?_
      exact by exact hret (-1) σ τ _ _ _ _ rfl ⟨rfl, (fun _ _ => rfl), (fun _ _ => rfl), hI101, hI102, Or.inl ⟨rfl, (by have h9 := jz_m1; omega), (by have h9 := jz_m1; omega), ⟨rfl, rfl, rfl⟩⟩⟩ hP hS dX12_bowler_37
  · obtain ⟨q58, k57⟩ := h14
    have q58 := q58.symm
    subst q58
    refine lv_if_eq (tgt := 36) hx hb dX12_bowler_9 (of_decide_eq_true rfl) (fun _ => ?_) (fun c => absurd (of_decide_eq_true rfl) c)
    refine lv_iconst (v := (-1)) hx hb dX12_bowler_36 (of_decide_eq_true rfl) ?_
    exact by exact hret (-1) σ τ _ _ _ _ rfl ⟨rfl, (fun _ _ => rfl), (fun _ _ => rfl), hI101, hI102, Or.inl ⟨rfl, (by have h9 := jz_m1; omega), (by have h9 := jz_m1; omega), ⟨rfl, rfl, rfl⟩⟩⟩ hP hS dX12_bowler_37
set_option maxHeartbeats 4000000 in
set_option maxRecDepth 100000 in
theorem c_X12_edge (l : Launch) (D : va_G) (cI cL : ClassId) (ad zz : Nat → Nat) (hJ : jD ad) (σ : Nat → Nat → Int32) (τ : Nat → Nat → Int64) (a1 : Int32) (A1 : Int) (t1 : a1.toInt = A1) (a2 : Int32) (A2 : Int) (t2 : a2.toInt = A2) (a3 : Int32) (A3 : Int) (t3 : a3.toInt = A3) (hI101 : jI101 σ) (hI102 : jI102 σ) : jM l yX12_edge cX12_edge 5 (some .int) ({ frames := 2, cells := 0, slots := 0, locals := 46 }) D cI cL ad zz [.ref (ad 55), .int a1, .int a2, .int a3] σ τ (fun r σ' τ' => τ = τ' ∧ (∀ i : Nat, (i < 55 ∨ 59 < i) → σ' i = σ i) ∧ (∀ k : Nat, (k < 4 ∨ 4 < k) ∧ (k < 5 ∨ 5 < k) → σ' 55 k = σ 55 k) ∧ (jI101 σ') ∧ ((r = (-2000000000) ∧ ((σ' 55 5).toInt = (σ 55 5).toInt) ∧ ((σ' 55 4).toInt = (σ 55 4).toInt) ∧ (¬ jEok (A1) (A2) (A3) ((σ 55 6).toInt)) ∧ (σ' 56 = σ 56 ∧ σ' 57 = σ 57 ∧ σ' 58 = σ 58 ∧ σ' 59 = σ 59)) ∨ (True ∧ (jEok (A1) (A2) (A3) ((σ 55 6).toInt) ∧ ∃ q : Int, jEpl (A1) (A2) q ∧ jChg (q) a3 r (σ 56) (σ' 56) (σ 57) (σ' 57) (σ 58) (σ' 58) (σ 59) (σ' 59) (σ 55 5).toInt (σ' 55 5).toInt (σ 55 4).toInt (σ' 55 4).toInt)))) := by
  refine jM.of hJ (by decide +kernel) (nt := .int) rfl (Nat.le_of_ble_eq_true rfl) ?_
  intro p e s m args below meth c Q ls hC hret hl hP
  obtain ⟨hx, hb, hr, hml, hown, hts, hK, -, hlocks, hZ⟩ := hC
  have hown : s.vm.findClass RX12 = some m.cls := hown
  have hS : va_S (jA ad) s.heap s.heap [] := va_S.rf
  have hA : ∀ q, jA ad q → jA ad q := fun _ h => h
  have hl : lv_has ls 5 [(0, .ref (ad 55)), (1, .int a1), (2, .int a2), (3, .int a3)] := hl
  have g1 := jrg t1
  have g2 := jrg t2
  have g3 := jrg t3
  obtain ⟨i1, i2, i3, w4, w5, w6, w7⟩ : (0 ≤ (σ 55 5).toInt) ∧ ((σ 55 5).toInt ≤ (σ 55 4).toInt) ∧ ((σ 55 4).toInt ≤ 40) ∧ (∀ k : Nat, k < 68 → (-200) ≤ (σ 56 k).toInt ∧ (σ 56 k).toInt ≤ 500) ∧ (∀ k : Nat, k < 40 → 0 ≤ (σ 57 k).toInt ∧ (σ 57 k).toInt ≤ 67) ∧ (∀ k : Nat, k < 40 → (-200) ≤ (σ 58 k).toInt ∧ (σ 58 k).toInt ≤ 500) ∧ (∀ k : Nat, k < 40 → (-200) ≤ (σ 59 k).toInt ∧ (σ 59 k).toInt ≤ 500) := id hI101
  obtain ⟨i8, w9, w10⟩ : (0 ≤ (σ 55 6).toInt ∧ (σ 55 6).toInt ≤ 4) ∧ (∀ k : Nat, k < 4 → 0 ≤ (σ 60 k).toInt ∧ (σ 60 k).toInt ≤ 50) ∧ (∀ k : Nat, k < 4 → 0 ≤ (σ 61 k).toInt ∧ (σ 61 k).toInt ≤ 20) := id hI102
  refine lv_iload_n hx hb dX12_edge_0 rfl (lv_at hl 1 rfl) ?_
  refine lv_if_lt (tgt := 27) hx hb dX12_edge_1 (of_decide_eq_true rfl) (fun c11 => ?_) (fun c11 => ?_)
  · have kc11 := jlt c11 t1 jz_0
    refine lv_ldc (v := (-2000000000)) hx hb hown (hts _ kw_11_4) dX12_edge_27 ?_
    exact by exact hret (-2000000000) σ τ _ _ _ _ rfl ⟨rfl, (fun _ _ => rfl), (fun _ _ => rfl), hI101, Or.inl ⟨rfl, (by have h9 := jz_m2000000000; omega), (by have h9 := jz_m2000000000; omega), (fun h => by unfold jEok at h; omega), ⟨rfl, rfl, rfl, rfl⟩⟩⟩ hP hS dX12_edge_29
  · have kc11 := jnlt c11 t1 jz_0
    refine lv_aload_n hx hb dX12_edge_4 rfl (lv_at hl 0 rfl) ?_
    refine lv_iload_n hx hb dX12_edge_5 rfl (lv_at hl 1 rfl) ?_
    refine lv_bipush (v := 10) hx hb dX12_edge_6 (of_decide_eq_true rfl) ?_
    refine lv_idiv hx hb dX12_edge_8 (of_decide_eq_true rfl) ?_
    refine lv_topi (fun x12 ex12 => ?_)
    exact by
     have tx12 : x12.toInt = (A1 / 10) := jdiv ex12 t1 jz_10 (by omega) (by omega)
     refine jcallV (As := [.int x12]) (rest := []) ⟨hx, hb, hml, hown, hts⟩ hK hP hA hS hZ (c_X12_isBowler l D cI cL ad zz hJ σ τ x12 ((A1 / 10)) tx12 hI102) cw_RX12_146 (jc_55 cI cL ad σ τ) rfl ⟨Nat.le_of_ble_eq_true rfl, Nat.le_of_ble_eq_true rfl⟩ rfl rfl rfl hl.1 rfl (Nat.le_of_ble_eq_true rfl) dX12_edge_9 ⟨Nat.zero_le _, Nat.zero_le _⟩ (fun r14 σ13 τ13 H locs h13 hP hS => ?_)
     obtain ⟨⟨rfl, rfl⟩, h13⟩ := h13
     rcases h13 with h15 | h16
     · obtain ⟨q18, k17⟩ := h15
       have q18 := q18.symm
       subst q18
       refine lv_if_eq (tgt := 27) hx hb dX12_edge_12 (of_decide_eq_true rfl) (fun c => absurd c (of_decide_eq_true rfl)) (fun _ => ?_)
       refine lv_iload_n hx hb dX12_edge_15 rfl (lv_at hl 2 rfl) ?_
       refine lv_i2l (v := a2.toInt64) hx hb dX12_edge_16 rfl ?_
       refine lv_lconst (v := 0) hx hb dX12_edge_17 (of_decide_eq_true rfl) ?_
       refine lv_ldc2 (v := 2) hx hb hown (hts _ kw_11_3) dX12_edge_18 ?_
       refine jcallS (As := [.long a2.toInt64, .long 0, .long 2]) (rest := []) ⟨hx, hb, hml, hown, hts⟩ hK hP hA hS hZ (c_X12_within l D cI cL ad zz hJ σ τ a2.toInt64 (A2) (jtoL t2) 0 (0) jzl_0 2 (2) jzl_2) cw_RX12_136 ⟨Nat.le_of_ble_eq_true rfl, Nat.le_of_ble_eq_true rfl⟩ rfl rfl rfl hl.1 rfl (Nat.le_of_ble_eq_true rfl) dX12_edge_21 ⟨Nat.zero_le _, Nat.zero_le _⟩ (fun r20 σ19 τ19 H locs h19 hP hS => ?_)
       obtain ⟨⟨rfl, rfl⟩, h19⟩ := h19
       rcases h19 with h21 | h22
       · obtain ⟨q24, k23⟩ := h21
         have q24 := q24.symm
         subst q24
         refine lv_if_ne (tgt := 30) hx hb dX12_edge_24 (of_decide_eq_true rfl) (fun _ => ?_) (fun c => absurd c (of_decide_eq_true rfl))
         refine lv_iload_n hx hb dX12_edge_30 rfl (lv_at hl 2 rfl) ?_
         refine lv_iconst (v := 2) hx hb dX12_edge_31 (of_decide_eq_true rfl) ?_
         refine lv_icmp_ne (tgt := 65) hx hb dX12_edge_32 (of_decide_eq_true rfl) (fun c25 => ?_) (fun c25 => ?_)
         · have kc25 := jne c25 t2 jz_2
           refine lv_iload_n hx hb dX12_edge_65 rfl (lv_at hl 1 rfl) ?_
           refine lv_bipush (v := 10) hx hb dX12_edge_66 (of_decide_eq_true rfl) ?_
           refine lv_irem hx hb dX12_edge_68 (of_decide_eq_true rfl) ?_
           refine lv_topi (fun x26 ex26 => ?_)
           exact by
            have tx26 : x26.toInt = (A1 % 10) := jrem ex26 t1 jz_10 (by omega)
            refine lv_iconst (v := 4) hx hb dX12_edge_69 (of_decide_eq_true rfl) ?_
            refine lv_icmp_ge (tgt := 110) hx hb dX12_edge_70 (of_decide_eq_true rfl) (fun c27 => ?_) (fun c27 => ?_)
            · have kc27 := jle c27 jz_4 tx26
              refine lv_iconst (v := 0) hx hb dX12_edge_110 (of_decide_eq_true rfl) ?_
              refine lv_istore (lv' := [(4, .int 0), (0, .ref (ad 55)), (1, .int a1), (2, .int a2), (3, .int a3)]) hx hb dX12_edge_111 hl (of_decide_eq_true rfl) rfl (fun ls hl => ?_)
              refine lv_iload hx hb dX12_edge_113 (lv_at hl 0 rfl) ?_
              refine lv_if_eq (tgt := 148) hx hb dX12_edge_115 (of_decide_eq_true rfl) (fun _ => ?_) (fun c => absurd (of_decide_eq_true rfl) c)
              refine lv_ldc (v := (-2000000000)) hx hb hown (hts _ kw_11_4) dX12_edge_148 ?_
              exact by exact hret (-2000000000) σ τ _ _ _ _ rfl ⟨rfl, (fun _ _ => rfl), (fun _ _ => rfl), hI101, Or.inl ⟨rfl, (by have h9 := jz_m2000000000; omega), (by have h9 := jz_m2000000000; omega), (fun h => by unfold jEok at h; omega), ⟨rfl, rfl, rfl, rfl⟩⟩⟩ hP hS dX12_edge_150
            · have kc27 := jnle c27 jz_4 tx26
              refine lv_iload_n hx hb dX12_edge_73 rfl (lv_at hl 2 rfl) ?_
              refine lv_if_ne (tgt := 92) hx hb dX12_edge_74 (of_decide_eq_true rfl) (fun c28 => ?_) (fun c28 => ?_)
              · have kc28 := jne c28 t2 jz_0
                refine lv_iload_n hx hb dX12_edge_92 rfl (lv_at hl 3 rfl) ?_
                refine lv_i2l (v := a3.toInt64) hx hb dX12_edge_93 rfl ?_
                refine lv_ldc2 (v := (-9)) hx hb hown (hts _ kw_11_6) dX12_edge_94 ?_
                refine lv_ldc2 (v := 9) hx hb hown (hts _ kw_11_7) dX12_edge_97 ?_
                refine jcallS (As := [.long a3.toInt64, .long (-9), .long 9]) (rest := []) ⟨hx, hb, hml, hown, hts⟩ hK hP hA hS hZ (c_X12_within l D cI cL ad zz hJ σ τ a3.toInt64 (A3) (jtoL t3) (-9) ((-9)) jzl_m9 9 (9) jzl_9) cw_RX12_136 ⟨Nat.le_of_ble_eq_true rfl, Nat.le_of_ble_eq_true rfl⟩ rfl rfl rfl hl.1 rfl (Nat.le_of_ble_eq_true rfl) dX12_edge_100 ⟨Nat.zero_le _, Nat.zero_le _⟩ (fun r30 σ29 τ29 H locs h29 hP hS => ?_)
                obtain ⟨⟨rfl, rfl⟩, h29⟩ := h29
                rcases h29 with h31 | h32
                · obtain ⟨q34, k33⟩ := h31
                  have q34 := q34.symm
                  subst q34
                  refine lv_if_eq (tgt := 110) hx hb dX12_edge_103 (of_decide_eq_true rfl) (fun c => absurd c (of_decide_eq_true rfl)) (fun _ => ?_)
                  refine lv_iconst (v := 1) hx hb dX12_edge_106 (of_decide_eq_true rfl) ?_
                  refine lv_goto (tgt := 111) hx hb dX12_edge_107 (of_decide_eq_true rfl) ?_
                  refine lv_istore (lv' := [(4, .int 1), (0, .ref (ad 55)), (1, .int a1), (2, .int a2), (3, .int a3)]) hx hb dX12_edge_111 hl (of_decide_eq_true rfl) rfl (fun ls hl => ?_)
                  refine lv_iload hx hb dX12_edge_113 (lv_at hl 0 rfl) ?_
                  refine lv_if_eq (tgt := 148) hx hb dX12_edge_115 (of_decide_eq_true rfl) (fun c => absurd c (of_decide_eq_true rfl)) (fun _ => ?_)
                  refine lv_aload_n hx hb dX12_edge_118 rfl (lv_at hl 1 rfl) ?_
                  refine lv_iload_n hx hb dX12_edge_119 rfl (lv_at hl 3 rfl) ?_
                  exact by
                   refine lv_if_ne (tgt := 127) hx hb dX12_edge_120 (of_decide_eq_true rfl) (fun c35 => ?_) (fun c => absurd (jeq c t2 jz_0) (by omega))
                   have kc35 := jne c35 t2 jz_0
                   refine lv_bipush (v := 16) hx hb dX12_edge_127 (of_decide_eq_true rfl) ?_
                   refine lv_iconst (v := 4) hx hb dX12_edge_129 (of_decide_eq_true rfl) ?_
                   refine lv_iload_n hx hb dX12_edge_130 rfl (lv_at hl 2 rfl) ?_
                   refine lv_bipush (v := 10) hx hb dX12_edge_131 (of_decide_eq_true rfl) ?_
                   refine lv_idiv hx hb dX12_edge_133 (of_decide_eq_true rfl) ?_
                   refine lv_topi (fun x36 ex36 => ?_)
                   have tx36 : x36.toInt = (A1 / 10) := jdiv ex36 t1 jz_10 (by omega) (by omega)
                   exact by
                    refine lv_imul hx hb dX12_edge_134 ?_
                    refine lv_topi (fun x37 ex37 => ?_)
                    have tx37 : x37.toInt = 4 * (A1 / 10) := (jmul ex37 jz_4 tx36 (by omega) (by omega)).trans (by omega)
                    refine lv_iadd hx hb dX12_edge_135 ?_
                    refine lv_topi (fun x38 ex38 => ?_)
                    have tx38 : x38.toInt = 4 * (A1 / 10) + 16 := (jadd ex38 jz_16 tx37 (by omega) (by omega)).trans (by omega)
                    refine lv_iload_n hx hb dX12_edge_136 rfl (lv_at hl 2 rfl) ?_
                    refine lv_bipush (v := 10) hx hb dX12_edge_137 (of_decide_eq_true rfl) ?_
                    refine lv_irem hx hb dX12_edge_139 (of_decide_eq_true rfl) ?_
                    exact by
                     refine lv_topi (fun x39 ex39 => ?_)
                     have tx39 : x39.toInt = (A1 % 10) := jrem ex39 t1 jz_10 (by omega)
                     refine lv_iadd hx hb dX12_edge_140 ?_
                     refine lv_topi (fun x40 ex40 => ?_)
                     have tx40 : x40.toInt = 4 * (A1 / 10) + (A1 % 10) + 16 := (jadd ex40 tx38 tx39 (by omega) (by omega)).trans (by omega)
                     refine lv_iload_n hx hb dX12_edge_141 rfl (lv_at hl 4 rfl) ?_
                     refine jcallV (As := [.int x40, .int a3]) (rest := []) ⟨hx, hb, hml, hown, hts⟩ hK hP hA hS hZ (c_X12_becomes l D cI cL ad zz hJ σ τ x40 (4 * (A1 / 10) + (A1 % 10) + 16) tx40 a3 (A3) t3 hI101 (by omega) (by omega)) cw_RX12_153 (jc_55 cI cL ad σ τ) rfl ⟨Nat.le_of_ble_eq_true rfl, Nat.le_of_ble_eq_true rfl⟩ rfl rfl rfl hl.1 rfl (Nat.le_of_ble_eq_true rfl) dX12_edge_142 ⟨Nat.zero_le _, Nat.zero_le _⟩ (fun r42 σ41 τ41 H locs h41 hP hS => ?_)
                     obtain ⟨rfl, f43, f44, I45, w46, h41⟩ := h41
                     obtain ⟨i48, i49, i50, w51, w52, w53, w54⟩ : (0 ≤ (σ41 55 5).toInt) ∧ ((σ41 55 5).toInt ≤ (σ41 55 4).toInt) ∧ ((σ41 55 4).toInt ≤ 40) ∧ (∀ k : Nat, k < 68 → (-200) ≤ (σ41 56 k).toInt ∧ (σ41 56 k).toInt ≤ 500) ∧ (∀ k : Nat, k < 40 → 0 ≤ (σ41 57 k).toInt ∧ (σ41 57 k).toInt ≤ 67) ∧ (∀ k : Nat, k < 40 → (-200) ≤ (σ41 58 k).toInt ∧ (σ41 58 k).toInt ≤ 500) ∧ (∀ k : Nat, k < 40 → (-200) ≤ (σ41 59 k).toInt ∧ (σ41 59 k).toInt ≤ 500) := id I45
                     exact by
                      refine lv_goto (tgt := 150) hx hb dX12_edge_145 (of_decide_eq_true rfl) ?_
                      exact by exact hret r42 σ41 τ _ _ _ _ rfl ⟨rfl, (fun i hi => (f43 i hi)), (fun i hi => (f44 i hi)), I45, Or.inr (⟨trivial, ⟨(by unfold jEok; omega), 4 * (A1 / 10) + (A1 % 10) + 16, (by unfold jEpl; omega), w46⟩⟩)⟩ hP hS dX12_edge_150
                · obtain ⟨q56, k55⟩ := h32
                  have q56 := q56.symm
                  subst q56
                  refine lv_if_eq (tgt := 110) hx hb dX12_edge_103 (of_decide_eq_true rfl) (fun _ => ?_) (fun c => absurd (of_decide_eq_true rfl) c)
                  refine lv_iconst (v := 0) hx hb dX12_edge_110 (of_decide_eq_true rfl) ?_
                  refine lv_istore (lv' := [(4, .int 0), (0, .ref (ad 55)), (1, .int a1), (2, .int a2), (3, .int a3)]) hx hb dX12_edge_111 hl (of_decide_eq_true rfl) rfl (fun ls hl => ?_)
                  refine lv_iload hx hb dX12_edge_113 (lv_at hl 0 rfl) ?_
                  refine lv_if_eq (tgt := 148) hx hb dX12_edge_115 (of_decide_eq_true rfl) (fun _ => ?_) (fun c => absurd (of_decide_eq_true rfl) c)
                  refine lv_ldc (v := (-2000000000)) hx hb hown (hts _ kw_11_4) dX12_edge_148 ?_
                  exact by exact hret (-2000000000) σ τ _ _ _ _ rfl ⟨rfl, (fun _ _ => rfl), (fun _ _ => rfl), hI101, Or.inl ⟨rfl, (by have h9 := jz_m2000000000; omega), (by have h9 := jz_m2000000000; omega), (fun h => by unfold jEok at h; omega), ⟨rfl, rfl, rfl, rfl⟩⟩⟩ hP hS dX12_edge_150
              · have kc28 := jeq c28 t2 jz_0
                refine lv_iload_n hx hb dX12_edge_77 rfl (lv_at hl 3 rfl) ?_
                refine lv_i2l (v := a3.toInt64) hx hb dX12_edge_78 rfl ?_
                refine lv_lconst (v := 0) hx hb dX12_edge_79 (of_decide_eq_true rfl) ?_
                refine lv_ldc2 (v := 500) hx hb hown (hts _ kw_11_5) dX12_edge_80 ?_
                refine jcallS (As := [.long a3.toInt64, .long 0, .long 500]) (rest := []) ⟨hx, hb, hml, hown, hts⟩ hK hP hA hS hZ (c_X12_within l D cI cL ad zz hJ σ τ a3.toInt64 (A3) (jtoL t3) 0 (0) jzl_0 500 (500) jzl_500) cw_RX12_136 ⟨Nat.le_of_ble_eq_true rfl, Nat.le_of_ble_eq_true rfl⟩ rfl rfl rfl hl.1 rfl (Nat.le_of_ble_eq_true rfl) dX12_edge_83 ⟨Nat.zero_le _, Nat.zero_le _⟩ (fun r58 σ57 τ57 H locs h57 hP hS => ?_)
                obtain ⟨⟨rfl, rfl⟩, h57⟩ := h57
                rcases h57 with h59 | h60
                · obtain ⟨q62, k61⟩ := h59
                  have q62 := q62.symm
                  subst q62
                  refine lv_if_eq (tgt := 110) hx hb dX12_edge_86 (of_decide_eq_true rfl) (fun c => absurd c (of_decide_eq_true rfl)) (fun _ => ?_)
                  refine lv_goto (tgt := 106) hx hb dX12_edge_89 (of_decide_eq_true rfl) ?_
                  refine lv_iconst (v := 1) hx hb dX12_edge_106 (of_decide_eq_true rfl) ?_
                  refine lv_goto (tgt := 111) hx hb dX12_edge_107 (of_decide_eq_true rfl) ?_
                  refine lv_istore (lv' := [(4, .int 1), (0, .ref (ad 55)), (1, .int a1), (2, .int a2), (3, .int a3)]) hx hb dX12_edge_111 hl (of_decide_eq_true rfl) rfl (fun ls hl => ?_)
                  refine lv_iload hx hb dX12_edge_113 (lv_at hl 0 rfl) ?_
                  refine lv_if_eq (tgt := 148) hx hb dX12_edge_115 (of_decide_eq_true rfl) (fun c => absurd c (of_decide_eq_true rfl)) (fun _ => ?_)
                  refine lv_aload_n hx hb dX12_edge_118 rfl (lv_at hl 1 rfl) ?_
                  refine lv_iload_n hx hb dX12_edge_119 rfl (lv_at hl 3 rfl) ?_
                  exact by
                   refine lv_if_ne (tgt := 127) hx hb dX12_edge_120 (of_decide_eq_true rfl) (fun c => absurd (jne c t2 jz_0) (by omega)) (fun c63 => ?_)
                   have kc63 := jeq c63 t2 jz_0
                   refine lv_iconst (v := 0) hx hb dX12_edge_123 (of_decide_eq_true rfl) ?_
                   refine lv_goto (tgt := 129) hx hb dX12_edge_124 (of_decide_eq_true rfl) ?_
                   refine lv_iconst (v := 4) hx hb dX12_edge_129 (of_decide_eq_true rfl) ?_
                   refine lv_iload_n hx hb dX12_edge_130 rfl (lv_at hl 2 rfl) ?_
                   refine lv_bipush (v := 10) hx hb dX12_edge_131 (of_decide_eq_true rfl) ?_
                   refine lv_idiv hx hb dX12_edge_133 (of_decide_eq_true rfl) ?_
                   refine lv_topi (fun x64 ex64 => ?_)
                   exact by
                    have tx64 : x64.toInt = (A1 / 10) := jdiv ex64 t1 jz_10 (by omega) (by omega)
                    refine lv_imul hx hb dX12_edge_134 ?_
                    refine lv_topi (fun x65 ex65 => ?_)
                    have tx65 : x65.toInt = 4 * (A1 / 10) := (jmul ex65 jz_4 tx64 (by omega) (by omega)).trans (by omega)
                    refine lv_iadd hx hb dX12_edge_135 ?_
                    refine jtopr (y := x65) (by rw [Int32.zero_add]) ?_
                    refine lv_iload_n hx hb dX12_edge_136 rfl (lv_at hl 2 rfl) ?_
                    refine lv_bipush (v := 10) hx hb dX12_edge_137 (of_decide_eq_true rfl) ?_
                    refine lv_irem hx hb dX12_edge_139 (of_decide_eq_true rfl) ?_
                    exact by
                     refine lv_topi (fun x66 ex66 => ?_)
                     have tx66 : x66.toInt = (A1 % 10) := jrem ex66 t1 jz_10 (by omega)
                     refine lv_iadd hx hb dX12_edge_140 ?_
                     refine lv_topi (fun x67 ex67 => ?_)
                     have tx67 : x67.toInt = 4 * (A1 / 10) + (A1 % 10) := (jadd ex67 tx65 tx66 (by omega) (by omega)).trans (by omega)
                     refine lv_iload_n hx hb dX12_edge_141 rfl (lv_at hl 4 rfl) ?_
                     refine jcallV (As := [.int x67, .int a3]) (rest := []) ⟨hx, hb, hml, hown, hts⟩ hK hP hA hS hZ (c_X12_becomes l D cI cL ad zz hJ σ τ x67 (4 * (A1 / 10) + (A1 % 10)) tx67 a3 (A3) t3 hI101 (by omega) (by omega)) cw_RX12_153 (jc_55 cI cL ad σ τ) rfl ⟨Nat.le_of_ble_eq_true rfl, Nat.le_of_ble_eq_true rfl⟩ rfl rfl rfl hl.1 rfl (Nat.le_of_ble_eq_true rfl) dX12_edge_142 ⟨Nat.zero_le _, Nat.zero_le _⟩ (fun r69 σ68 τ68 H locs h68 hP hS => ?_)
                     obtain ⟨rfl, f70, f71, I72, w73, h68⟩ := h68
                     obtain ⟨i75, i76, i77, w78, w79, w80, w81⟩ : (0 ≤ (σ68 55 5).toInt) ∧ ((σ68 55 5).toInt ≤ (σ68 55 4).toInt) ∧ ((σ68 55 4).toInt ≤ 40) ∧ (∀ k : Nat, k < 68 → (-200) ≤ (σ68 56 k).toInt ∧ (σ68 56 k).toInt ≤ 500) ∧ (∀ k : Nat, k < 40 → 0 ≤ (σ68 57 k).toInt ∧ (σ68 57 k).toInt ≤ 67) ∧ (∀ k : Nat, k < 40 → (-200) ≤ (σ68 58 k).toInt ∧ (σ68 58 k).toInt ≤ 500) ∧ (∀ k : Nat, k < 40 → (-200) ≤ (σ68 59 k).toInt ∧ (σ68 59 k).toInt ≤ 500) := id I72
                     exact by
                      refine lv_goto (tgt := 150) hx hb dX12_edge_145 (of_decide_eq_true rfl) ?_
                      exact by exact hret r69 σ68 τ _ _ _ _ rfl ⟨rfl, (fun i hi => (f70 i hi)), (fun i hi => (f71 i hi)), I72, Or.inr (⟨trivial, ⟨(by unfold jEok; omega), 4 * (A1 / 10) + (A1 % 10), (by unfold jEpl; omega), w73⟩⟩)⟩ hP hS dX12_edge_150
                · obtain ⟨q83, k82⟩ := h60
                  have q83 := q83.symm
                  subst q83
                  refine lv_if_eq (tgt := 110) hx hb dX12_edge_86 (of_decide_eq_true rfl) (fun _ => ?_) (fun c => absurd (of_decide_eq_true rfl) c)
                  refine lv_iconst (v := 0) hx hb dX12_edge_110 (of_decide_eq_true rfl) ?_
                  refine lv_istore (lv' := [(4, .int 0), (0, .ref (ad 55)), (1, .int a1), (2, .int a2), (3, .int a3)]) hx hb dX12_edge_111 hl (of_decide_eq_true rfl) rfl (fun ls hl => ?_)
                  refine lv_iload hx hb dX12_edge_113 (lv_at hl 0 rfl) ?_
                  refine lv_if_eq (tgt := 148) hx hb dX12_edge_115 (of_decide_eq_true rfl) (fun _ => ?_) (fun c => absurd (of_decide_eq_true rfl) c)
                  refine lv_ldc (v := (-2000000000)) hx hb hown (hts _ kw_11_4) dX12_edge_148 ?_
                  exact by exact hret (-2000000000) σ τ _ _ _ _ rfl ⟨rfl, (fun _ _ => rfl), (fun _ _ => rfl), hI101, Or.inl ⟨rfl, (by have h9 := jz_m2000000000; omega), (by have h9 := jz_m2000000000; omega), (fun h => by unfold jEok at h; omega), ⟨rfl, rfl, rfl, rfl⟩⟩⟩ hP hS dX12_edge_150
         · have kc25 := jeq c25 t2 jz_2
           refine lv_iload_n hx hb dX12_edge_35 rfl (lv_at hl 3 rfl) ?_
           refine lv_i2l (v := a3.toInt64) hx hb dX12_edge_36 rfl ?_
           refine lv_lconst (v := 0) hx hb dX12_edge_37 (of_decide_eq_true rfl) ?_
           refine lv_ldc2 (v := 8) hx hb hown (hts _ kw_9_10) dX12_edge_38 ?_
           refine jcallS (As := [.long a3.toInt64, .long 0, .long 8]) (rest := []) ⟨hx, hb, hml, hown, hts⟩ hK hP hA hS hZ (c_X12_within l D cI cL ad zz hJ σ τ a3.toInt64 (A3) (jtoL t3) 0 (0) jzl_0 8 (8) jzl_8) cw_RX12_136 ⟨Nat.le_of_ble_eq_true rfl, Nat.le_of_ble_eq_true rfl⟩ rfl rfl rfl hl.1 rfl (Nat.le_of_ble_eq_true rfl) dX12_edge_41 ⟨Nat.zero_le _, Nat.zero_le _⟩ (fun r85 σ84 τ84 H locs h84 hP hS => ?_)
           obtain ⟨⟨rfl, rfl⟩, h84⟩ := h84
           rcases h84 with h86 | h87
           · obtain ⟨q89, k88⟩ := h86
             have q89 := q89.symm
             subst q89
             refine lv_if_eq (tgt := 62) hx hb dX12_edge_44 (of_decide_eq_true rfl) (fun c => absurd c (of_decide_eq_true rfl)) (fun _ => ?_)
             refine lv_aload_n hx hb dX12_edge_47 rfl (lv_at hl 0 rfl) ?_
             refine lv_bipush (v := 32) hx hb dX12_edge_48 (of_decide_eq_true rfl) ?_
             refine lv_iload_n hx hb dX12_edge_50 rfl (lv_at hl 1 rfl) ?_
             refine lv_bipush (v := 10) hx hb dX12_edge_51 (of_decide_eq_true rfl) ?_
             refine lv_idiv hx hb dX12_edge_53 (of_decide_eq_true rfl) ?_
             refine lv_topi (fun x90 ex90 => ?_)
             exact by
              have tx90 : x90.toInt = (A1 / 10) := jdiv ex90 t1 jz_10 (by omega) (by omega)
              refine lv_iadd hx hb dX12_edge_54 ?_
              refine lv_topi (fun x91 ex91 => ?_)
              have tx91 : x91.toInt = (A1 / 10) + 32 := (jadd ex91 jz_32 tx90 (by omega) (by omega)).trans (by omega)
              refine lv_iload_n hx hb dX12_edge_55 rfl (lv_at hl 3 rfl) ?_
              refine jcallV (As := [.int x91, .int a3]) (rest := []) ⟨hx, hb, hml, hown, hts⟩ hK hP hA hS hZ (c_X12_becomes l D cI cL ad zz hJ σ τ x91 ((A1 / 10) + 32) tx91 a3 (A3) t3 hI101 (by omega) (by omega)) cw_RX12_153 (jc_55 cI cL ad σ τ) rfl ⟨Nat.le_of_ble_eq_true rfl, Nat.le_of_ble_eq_true rfl⟩ rfl rfl rfl hl.1 rfl (Nat.le_of_ble_eq_true rfl) dX12_edge_56 ⟨Nat.zero_le _, Nat.zero_le _⟩ (fun r93 σ92 τ92 H locs h92 hP hS => ?_)
              obtain ⟨rfl, f94, f95, I96, w97, h92⟩ := h92
              obtain ⟨i99, i100, i101, w102, w103, w104, w105⟩ : (0 ≤ (σ92 55 5).toInt) ∧ ((σ92 55 5).toInt ≤ (σ92 55 4).toInt) ∧ ((σ92 55 4).toInt ≤ 40) ∧ (∀ k : Nat, k < 68 → (-200) ≤ (σ92 56 k).toInt ∧ (σ92 56 k).toInt ≤ 500) ∧ (∀ k : Nat, k < 40 → 0 ≤ (σ92 57 k).toInt ∧ (σ92 57 k).toInt ≤ 67) ∧ (∀ k : Nat, k < 40 → (-200) ≤ (σ92 58 k).toInt ∧ (σ92 58 k).toInt ≤ 500) ∧ (∀ k : Nat, k < 40 → (-200) ≤ (σ92 59 k).toInt ∧ (σ92 59 k).toInt ≤ 500) := id I96
              refine lv_goto (tgt := 64) hx hb dX12_edge_59 (of_decide_eq_true rfl) ?_
              exact by exact hret r93 σ92 τ _ _ _ _ rfl ⟨rfl, (fun i hi => (f94 i hi)), (fun i hi => (f95 i hi)), I96, Or.inr (⟨trivial, ⟨(by unfold jEok; omega), (A1 / 10) + 32, (by unfold jEpl; omega), w97⟩⟩)⟩ hP hS dX12_edge_64
           · exact by
              obtain ⟨q107, k106⟩ := h87
              have q107 := q107.symm
              subst q107
              refine lv_if_eq (tgt := 62) hx hb dX12_edge_44 (of_decide_eq_true rfl) (fun _ => ?_) (fun c => absurd (of_decide_eq_true rfl) c)
              refine lv_ldc (v := (-2000000000)) hx hb hown (hts _ kw_11_4) dX12_edge_62 ?_
              exact by exact hret (-2000000000) σ τ _ _ _ _ rfl ⟨rfl, (fun _ _ => rfl), (fun _ _ => rfl), hI101, Or.inl ⟨rfl, (by have h9 := jz_m2000000000; omega), (by have h9 := jz_m2000000000; omega), (fun h => by unfold jEok at h; omega), ⟨rfl, rfl, rfl, rfl⟩⟩⟩ hP hS dX12_edge_64
       · obtain ⟨q109, k108⟩ := h22
         have q109 := q109.symm
         subst q109
         refine lv_if_ne (tgt := 30) hx hb dX12_edge_24 (of_decide_eq_true rfl) (fun c => absurd (of_decide_eq_true rfl) c) (fun _ => ?_)
         refine lv_ldc (v := (-2000000000)) hx hb hown (hts _ kw_11_4) dX12_edge_27 ?_
         exact by exact hret (-2000000000) σ τ _ _ _ _ rfl ⟨rfl, (fun _ _ => rfl), (fun _ _ => rfl), hI101, Or.inl ⟨rfl, (by have h9 := jz_m2000000000; omega), (by have h9 := jz_m2000000000; omega), (fun h => by unfold jEok at h; omega), ⟨rfl, rfl, rfl, rfl⟩⟩⟩ hP hS dX12_edge_29
     · obtain ⟨q111, k110⟩ := h16
       have q111 := q111.symm
       subst q111
       refine lv_if_eq (tgt := 27) hx hb dX12_edge_12 (of_decide_eq_true rfl) (fun _ => ?_) (fun c => absurd (of_decide_eq_true rfl) c)
       refine lv_ldc (v := (-2000000000)) hx hb hown (hts _ kw_11_4) dX12_edge_27 ?_
       exact by exact hret (-2000000000) σ τ _ _ _ _ rfl ⟨rfl, (fun _ _ => rfl), (fun _ _ => rfl), hI101, Or.inl ⟨rfl, (by have h9 := jz_m2000000000; omega), (by have h9 := jz_m2000000000; omega), (fun h => by unfold jEok at h; omega), ⟨rfl, rfl, rfl, rfl⟩⟩⟩ hP hS dX12_edge_29
set_option maxHeartbeats 4000000 in
set_option maxRecDepth 100000 in
theorem c_X12_field (l : Launch) (D : va_G) (cI cL : ClassId) (ad zz : Nat → Nat) (hJ : jD ad) (σ : Nat → Nat → Int32) (τ : Nat → Nat → Int64) (a1 : Int32) (A1 : Int) (t1 : a1.toInt = A1) (a2 : Int32) (A2 : Int) (t2 : a2.toInt = A2) (a3 : Int32) (A3 : Int) (t3 : a3.toInt = A3) (hI101 : jI101 σ) : jM l yX12_field cX12_field 5 (some .int) ({ frames := 1, cells := 0, slots := 0, locals := 25 }) D cI cL ad zz [.ref (ad 55), .int a1, .int a2, .int a3] σ τ (fun r σ' τ' => τ = τ' ∧ (∀ i : Nat, (i < 55 ∨ 59 < i) → σ' i = σ i) ∧ (∀ k : Nat, (k < 4 ∨ 4 < k) ∧ (k < 5 ∨ 5 < k) → σ' 55 k = σ 55 k) ∧ (jI101 σ') ∧ ((r = (-2000000000) ∧ ((σ' 55 5).toInt = (σ 55 5).toInt) ∧ ((σ' 55 4).toInt = (σ 55 4).toInt) ∧ (¬ jFok (A1) (A2) (A3) ((σ 55 6).toInt)) ∧ (σ' 56 = σ 56 ∧ σ' 57 = σ 57 ∧ σ' 58 = σ 58 ∧ σ' 59 = σ 59)) ∨ (True ∧ (jFok (A1) (A2) (A3) ((σ 55 6).toInt) ∧ ∃ q : Int, jFpl (A1) (A2) q ∧ jChg (q) a3 r (σ 56) (σ' 56) (σ 57) (σ' 57) (σ 58) (σ' 58) (σ 59) (σ' 59) (σ 55 5).toInt (σ' 55 5).toInt (σ 55 4).toInt (σ' 55 4).toInt)))) := by
  refine jM.of hJ (by decide +kernel) (nt := .int) rfl (Nat.le_of_ble_eq_true rfl) ?_
  intro p e s m args below meth c Q ls hC hret hl hP
  obtain ⟨hx, hb, hr, hml, hown, hts, hK, -, hlocks, hZ⟩ := hC
  have hown : s.vm.findClass RX12 = some m.cls := hown
  have hS : va_S (jA ad) s.heap s.heap [] := va_S.rf
  have hA : ∀ q, jA ad q → jA ad q := fun _ h => h
  have hl : lv_has ls 5 [(0, .ref (ad 55)), (1, .int a1), (2, .int a2), (3, .int a3)] := hl
  have g1 := jrg t1
  have g2 := jrg t2
  have g3 := jrg t3
  obtain ⟨i1, i2, i3, w4, w5, w6, w7⟩ : (0 ≤ (σ 55 5).toInt) ∧ ((σ 55 5).toInt ≤ (σ 55 4).toInt) ∧ ((σ 55 4).toInt ≤ 40) ∧ (∀ k : Nat, k < 68 → (-200) ≤ (σ 56 k).toInt ∧ (σ 56 k).toInt ≤ 500) ∧ (∀ k : Nat, k < 40 → 0 ≤ (σ 57 k).toInt ∧ (σ 57 k).toInt ≤ 67) ∧ (∀ k : Nat, k < 40 → (-200) ≤ (σ 58 k).toInt ∧ (σ 58 k).toInt ≤ 500) ∧ (∀ k : Nat, k < 40 → (-200) ≤ (σ 59 k).toInt ∧ (σ 59 k).toInt ≤ 500) := id hI101
  refine lv_iload_n hx hb dX12_field_0 rfl (lv_at hl 1 rfl) ?_
  refine lv_if_lt (tgt := 69) hx hb dX12_field_1 (of_decide_eq_true rfl) (fun c8 => ?_) (fun c8 => ?_)
  · have kc8 := jlt c8 t1 jz_0
    refine lv_iconst (v := 0) hx hb dX12_field_69 (of_decide_eq_true rfl) ?_
    refine lv_istore (lv' := [(4, .int 0), (0, .ref (ad 55)), (1, .int a1), (2, .int a2), (3, .int a3)]) hx hb dX12_field_70 hl (of_decide_eq_true rfl) rfl (fun ls hl => ?_)
    refine lv_iload hx hb dX12_field_72 (lv_at hl 0 rfl) ?_
    refine lv_if_eq (tgt := 108) hx hb dX12_field_74 (of_decide_eq_true rfl) (fun _ => ?_) (fun c => absurd (of_decide_eq_true rfl) c)
    refine lv_ldc (v := (-2000000000)) hx hb hown (hts _ kw_11_4) dX12_field_108 ?_
    exact by exact hret (-2000000000) σ τ _ _ _ _ rfl ⟨rfl, (fun _ _ => rfl), (fun _ _ => rfl), hI101, Or.inl ⟨rfl, (by have h9 := jz_m2000000000; omega), (by have h9 := jz_m2000000000; omega), (fun h => by unfold jFok at h; omega), ⟨rfl, rfl, rfl, rfl⟩⟩⟩ hP hS dX12_field_110
  · have kc8 := jnlt c8 t1 jz_0
    refine lv_iload_n hx hb dX12_field_4 rfl (lv_at hl 1 rfl) ?_
    refine lv_bipush (v := 10) hx hb dX12_field_5 (of_decide_eq_true rfl) ?_
    refine lv_idiv hx hb dX12_field_7 (of_decide_eq_true rfl) ?_
    refine lv_topi (fun x9 ex9 => ?_)
    exact by
     have tx9 : x9.toInt = (A1 / 10) := jdiv ex9 t1 jz_10 (by omega) (by omega)
     refine lv_iconst (v := 4) hx hb dX12_field_8 (of_decide_eq_true rfl) ?_
     refine lv_icmp_ge (tgt := 69) hx hb dX12_field_9 (of_decide_eq_true rfl) (fun c10 => ?_) (fun c10 => ?_)
     · have kc10 := jle c10 jz_4 tx9
       refine lv_iconst (v := 0) hx hb dX12_field_69 (of_decide_eq_true rfl) ?_
       refine lv_istore (lv' := [(4, .int 0), (0, .ref (ad 55)), (1, .int a1), (2, .int a2), (3, .int a3)]) hx hb dX12_field_70 hl (of_decide_eq_true rfl) rfl (fun ls hl => ?_)
       refine lv_iload hx hb dX12_field_72 (lv_at hl 0 rfl) ?_
       refine lv_if_eq (tgt := 108) hx hb dX12_field_74 (of_decide_eq_true rfl) (fun _ => ?_) (fun c => absurd (of_decide_eq_true rfl) c)
       refine lv_ldc (v := (-2000000000)) hx hb hown (hts _ kw_11_4) dX12_field_108 ?_
       exact by exact hret (-2000000000) σ τ _ _ _ _ rfl ⟨rfl, (fun _ _ => rfl), (fun _ _ => rfl), hI101, Or.inl ⟨rfl, (by have h9 := jz_m2000000000; omega), (by have h9 := jz_m2000000000; omega), (fun h => by unfold jFok at h; omega), ⟨rfl, rfl, rfl, rfl⟩⟩⟩ hP hS dX12_field_110
     · have kc10 := jnle c10 jz_4 tx9
       refine lv_iload_n hx hb dX12_field_12 rfl (lv_at hl 1 rfl) ?_
       refine lv_bipush (v := 10) hx hb dX12_field_13 (of_decide_eq_true rfl) ?_
       refine lv_irem hx hb dX12_field_15 (of_decide_eq_true rfl) ?_
       refine lv_topi (fun x11 ex11 => ?_)
       exact by
        have tx11 : x11.toInt = (A1 % 10) := jrem ex11 t1 jz_10 (by omega)
        refine lv_iconst (v := 4) hx hb dX12_field_16 (of_decide_eq_true rfl) ?_
        refine lv_icmp_ge (tgt := 69) hx hb dX12_field_17 (of_decide_eq_true rfl) (fun c12 => ?_) (fun c12 => ?_)
        · have kc12 := jle c12 jz_4 tx11
          refine lv_iconst (v := 0) hx hb dX12_field_69 (of_decide_eq_true rfl) ?_
          refine lv_istore (lv' := [(4, .int 0), (0, .ref (ad 55)), (1, .int a1), (2, .int a2), (3, .int a3)]) hx hb dX12_field_70 hl (of_decide_eq_true rfl) rfl (fun ls hl => ?_)
          refine lv_iload hx hb dX12_field_72 (lv_at hl 0 rfl) ?_
          refine lv_if_eq (tgt := 108) hx hb dX12_field_74 (of_decide_eq_true rfl) (fun _ => ?_) (fun c => absurd (of_decide_eq_true rfl) c)
          refine lv_ldc (v := (-2000000000)) hx hb hown (hts _ kw_11_4) dX12_field_108 ?_
          exact by exact hret (-2000000000) σ τ _ _ _ _ rfl ⟨rfl, (fun _ _ => rfl), (fun _ _ => rfl), hI101, Or.inl ⟨rfl, (by have h9 := jz_m2000000000; omega), (by have h9 := jz_m2000000000; omega), (fun h => by unfold jFok at h; omega), ⟨rfl, rfl, rfl, rfl⟩⟩⟩ hP hS dX12_field_110
        · have kc12 := jnle c12 jz_4 tx11
          refine lv_iload_n hx hb dX12_field_20 rfl (lv_at hl 2 rfl) ?_
          refine lv_i2l (v := a2.toInt64) hx hb dX12_field_21 rfl ?_
          refine lv_lconst (v := 0) hx hb dX12_field_22 (of_decide_eq_true rfl) ?_
          refine lv_lconst (v := 1) hx hb dX12_field_23 (of_decide_eq_true rfl) ?_
          refine jcallS (As := [.long a2.toInt64, .long 0, .long 1]) (rest := []) ⟨hx, hb, hml, hown, hts⟩ hK hP hA hS hZ (c_X12_within l D cI cL ad zz hJ σ τ a2.toInt64 (A2) (jtoL t2) 0 (0) jzl_0 1 (1) jzl_1) cw_RX12_136 ⟨Nat.le_of_ble_eq_true rfl, Nat.le_of_ble_eq_true rfl⟩ rfl rfl rfl hl.1 rfl (Nat.le_of_ble_eq_true rfl) dX12_field_24 ⟨Nat.zero_le _, Nat.zero_le _⟩ (fun r14 σ13 τ13 H locs h13 hP hS => ?_)
          obtain ⟨⟨rfl, rfl⟩, h13⟩ := h13
          rcases h13 with h15 | h16
          · obtain ⟨q18, k17⟩ := h15
            have q18 := q18.symm
            subst q18
            refine lv_if_eq (tgt := 69) hx hb dX12_field_27 (of_decide_eq_true rfl) (fun c => absurd c (of_decide_eq_true rfl)) (fun _ => ?_)
            refine lv_iload_n hx hb dX12_field_30 rfl (lv_at hl 2 rfl) ?_
            refine lv_if_ne (tgt := 51) hx hb dX12_field_31 (of_decide_eq_true rfl) (fun c19 => ?_) (fun c19 => ?_)
            · have kc19 := jne c19 t2 jz_0
              refine lv_iload_n hx hb dX12_field_51 rfl (lv_at hl 3 rfl) ?_
              refine lv_i2l (v := a3.toInt64) hx hb dX12_field_52 rfl ?_
              refine lv_ldc2 (v := (-9)) hx hb hown (hts _ kw_11_6) dX12_field_53 ?_
              refine lv_ldc2 (v := 9) hx hb hown (hts _ kw_11_7) dX12_field_56 ?_
              refine jcallS (As := [.long a3.toInt64, .long (-9), .long 9]) (rest := []) ⟨hx, hb, hml, hown, hts⟩ hK hP hA hS hZ (c_X12_within l D cI cL ad zz hJ σ τ a3.toInt64 (A3) (jtoL t3) (-9) ((-9)) jzl_m9 9 (9) jzl_9) cw_RX12_136 ⟨Nat.le_of_ble_eq_true rfl, Nat.le_of_ble_eq_true rfl⟩ rfl rfl rfl hl.1 rfl (Nat.le_of_ble_eq_true rfl) dX12_field_59 ⟨Nat.zero_le _, Nat.zero_le _⟩ (fun r21 σ20 τ20 H locs h20 hP hS => ?_)
              obtain ⟨⟨rfl, rfl⟩, h20⟩ := h20
              rcases h20 with h22 | h23
              · obtain ⟨q25, k24⟩ := h22
                have q25 := q25.symm
                subst q25
                refine lv_if_eq (tgt := 69) hx hb dX12_field_62 (of_decide_eq_true rfl) (fun c => absurd c (of_decide_eq_true rfl)) (fun _ => ?_)
                refine lv_iconst (v := 1) hx hb dX12_field_65 (of_decide_eq_true rfl) ?_
                refine lv_goto (tgt := 70) hx hb dX12_field_66 (of_decide_eq_true rfl) ?_
                refine lv_istore (lv' := [(4, .int 1), (0, .ref (ad 55)), (1, .int a1), (2, .int a2), (3, .int a3)]) hx hb dX12_field_70 hl (of_decide_eq_true rfl) rfl (fun ls hl => ?_)
                refine lv_iload hx hb dX12_field_72 (lv_at hl 0 rfl) ?_
                refine lv_if_eq (tgt := 108) hx hb dX12_field_74 (of_decide_eq_true rfl) (fun c => absurd c (of_decide_eq_true rfl)) (fun _ => ?_)
                refine lv_aload_n hx hb dX12_field_77 rfl (lv_at hl 1 rfl) ?_
                refine lv_iload_n hx hb dX12_field_78 rfl (lv_at hl 3 rfl) ?_
                exact by
                 refine lv_if_ne (tgt := 87) hx hb dX12_field_79 (of_decide_eq_true rfl) (fun c26 => ?_) (fun c => absurd (jeq c t2 jz_0) (by omega))
                 have kc26 := jne c26 t2 jz_0
                 refine lv_bipush (v := 52) hx hb dX12_field_87 (of_decide_eq_true rfl) ?_
                 refine lv_iconst (v := 4) hx hb dX12_field_89 (of_decide_eq_true rfl) ?_
                 refine lv_iload_n hx hb dX12_field_90 rfl (lv_at hl 2 rfl) ?_
                 refine lv_bipush (v := 10) hx hb dX12_field_91 (of_decide_eq_true rfl) ?_
                 refine lv_idiv hx hb dX12_field_93 (of_decide_eq_true rfl) ?_
                 refine lv_topi (fun x27 ex27 => ?_)
                 have tx27 : x27.toInt = (A1 / 10) := jdiv ex27 t1 jz_10 (by omega) (by omega)
                 exact by
                  refine lv_imul hx hb dX12_field_94 ?_
                  refine lv_topi (fun x28 ex28 => ?_)
                  have tx28 : x28.toInt = 4 * (A1 / 10) := (jmul ex28 jz_4 tx27 (by omega) (by omega)).trans (by omega)
                  refine lv_iadd hx hb dX12_field_95 ?_
                  refine lv_topi (fun x29 ex29 => ?_)
                  have tx29 : x29.toInt = 4 * (A1 / 10) + 52 := (jadd ex29 jz_52 tx28 (by omega) (by omega)).trans (by omega)
                  refine lv_iload_n hx hb dX12_field_96 rfl (lv_at hl 2 rfl) ?_
                  refine lv_bipush (v := 10) hx hb dX12_field_97 (of_decide_eq_true rfl) ?_
                  refine lv_irem hx hb dX12_field_99 (of_decide_eq_true rfl) ?_
                  exact by
                   refine lv_topi (fun x30 ex30 => ?_)
                   have tx30 : x30.toInt = (A1 % 10) := jrem ex30 t1 jz_10 (by omega)
                   refine lv_iadd hx hb dX12_field_100 ?_
                   refine lv_topi (fun x31 ex31 => ?_)
                   have tx31 : x31.toInt = 4 * (A1 / 10) + (A1 % 10) + 52 := (jadd ex31 tx29 tx30 (by omega) (by omega)).trans (by omega)
                   refine lv_iload_n hx hb dX12_field_101 rfl (lv_at hl 4 rfl) ?_
                   refine jcallV (As := [.int x31, .int a3]) (rest := []) ⟨hx, hb, hml, hown, hts⟩ hK hP hA hS hZ (c_X12_becomes l D cI cL ad zz hJ σ τ x31 (4 * (A1 / 10) + (A1 % 10) + 52) tx31 a3 (A3) t3 hI101 (by omega) (by omega)) cw_RX12_153 (jc_55 cI cL ad σ τ) rfl ⟨Nat.le_of_ble_eq_true rfl, Nat.le_of_ble_eq_true rfl⟩ rfl rfl rfl hl.1 rfl (Nat.le_of_ble_eq_true rfl) dX12_field_102 ⟨Nat.zero_le _, Nat.zero_le _⟩ (fun r33 σ32 τ32 H locs h32 hP hS => ?_)
                   obtain ⟨rfl, f34, f35, I36, w37, h32⟩ := h32
                   obtain ⟨i39, i40, i41, w42, w43, w44, w45⟩ : (0 ≤ (σ32 55 5).toInt) ∧ ((σ32 55 5).toInt ≤ (σ32 55 4).toInt) ∧ ((σ32 55 4).toInt ≤ 40) ∧ (∀ k : Nat, k < 68 → (-200) ≤ (σ32 56 k).toInt ∧ (σ32 56 k).toInt ≤ 500) ∧ (∀ k : Nat, k < 40 → 0 ≤ (σ32 57 k).toInt ∧ (σ32 57 k).toInt ≤ 67) ∧ (∀ k : Nat, k < 40 → (-200) ≤ (σ32 58 k).toInt ∧ (σ32 58 k).toInt ≤ 500) ∧ (∀ k : Nat, k < 40 → (-200) ≤ (σ32 59 k).toInt ∧ (σ32 59 k).toInt ≤ 500) := id I36
                   exact by
                    refine lv_goto (tgt := 110) hx hb dX12_field_105 (of_decide_eq_true rfl) ?_
                    exact by exact hret r33 σ32 τ _ _ _ _ rfl ⟨rfl, (fun i hi => (f34 i hi)), (fun i hi => (f35 i hi)), I36, Or.inr (⟨trivial, ⟨(by unfold jFok; omega), 4 * (A1 / 10) + (A1 % 10) + 52, (by unfold jFpl; omega), w37⟩⟩)⟩ hP hS dX12_field_110
              · obtain ⟨q47, k46⟩ := h23
                have q47 := q47.symm
                subst q47
                refine lv_if_eq (tgt := 69) hx hb dX12_field_62 (of_decide_eq_true rfl) (fun _ => ?_) (fun c => absurd (of_decide_eq_true rfl) c)
                refine lv_iconst (v := 0) hx hb dX12_field_69 (of_decide_eq_true rfl) ?_
                refine lv_istore (lv' := [(4, .int 0), (0, .ref (ad 55)), (1, .int a1), (2, .int a2), (3, .int a3)]) hx hb dX12_field_70 hl (of_decide_eq_true rfl) rfl (fun ls hl => ?_)
                refine lv_iload hx hb dX12_field_72 (lv_at hl 0 rfl) ?_
                refine lv_if_eq (tgt := 108) hx hb dX12_field_74 (of_decide_eq_true rfl) (fun _ => ?_) (fun c => absurd (of_decide_eq_true rfl) c)
                refine lv_ldc (v := (-2000000000)) hx hb hown (hts _ kw_11_4) dX12_field_108 ?_
                exact by exact hret (-2000000000) σ τ _ _ _ _ rfl ⟨rfl, (fun _ _ => rfl), (fun _ _ => rfl), hI101, Or.inl ⟨rfl, (by have h9 := jz_m2000000000; omega), (by have h9 := jz_m2000000000; omega), (fun h => by unfold jFok at h; omega), ⟨rfl, rfl, rfl, rfl⟩⟩⟩ hP hS dX12_field_110
            · have kc19 := jeq c19 t2 jz_0
              refine lv_iload_n hx hb dX12_field_34 rfl (lv_at hl 3 rfl) ?_
              refine lv_i2l (v := a3.toInt64) hx hb dX12_field_35 rfl ?_
              refine lv_ldc2 (v := (-200)) hx hb hown (hts _ kw_12_2) dX12_field_36 ?_
              refine lv_ldc2 (v := 200) hx hb hown (hts _ kw_12_3) dX12_field_39 ?_
              refine jcallS (As := [.long a3.toInt64, .long (-200), .long 200]) (rest := []) ⟨hx, hb, hml, hown, hts⟩ hK hP hA hS hZ (c_X12_within l D cI cL ad zz hJ σ τ a3.toInt64 (A3) (jtoL t3) (-200) ((-200)) jzl_m200 200 (200) jzl_200) cw_RX12_136 ⟨Nat.le_of_ble_eq_true rfl, Nat.le_of_ble_eq_true rfl⟩ rfl rfl rfl hl.1 rfl (Nat.le_of_ble_eq_true rfl) dX12_field_42 ⟨Nat.zero_le _, Nat.zero_le _⟩ (fun r49 σ48 τ48 H locs h48 hP hS => ?_)
              obtain ⟨⟨rfl, rfl⟩, h48⟩ := h48
              rcases h48 with h50 | h51
              · obtain ⟨q53, k52⟩ := h50
                have q53 := q53.symm
                subst q53
                refine lv_if_eq (tgt := 69) hx hb dX12_field_45 (of_decide_eq_true rfl) (fun c => absurd c (of_decide_eq_true rfl)) (fun _ => ?_)
                refine lv_goto (tgt := 65) hx hb dX12_field_48 (of_decide_eq_true rfl) ?_
                refine lv_iconst (v := 1) hx hb dX12_field_65 (of_decide_eq_true rfl) ?_
                refine lv_goto (tgt := 70) hx hb dX12_field_66 (of_decide_eq_true rfl) ?_
                refine lv_istore (lv' := [(4, .int 1), (0, .ref (ad 55)), (1, .int a1), (2, .int a2), (3, .int a3)]) hx hb dX12_field_70 hl (of_decide_eq_true rfl) rfl (fun ls hl => ?_)
                refine lv_iload hx hb dX12_field_72 (lv_at hl 0 rfl) ?_
                refine lv_if_eq (tgt := 108) hx hb dX12_field_74 (of_decide_eq_true rfl) (fun c => absurd c (of_decide_eq_true rfl)) (fun _ => ?_)
                refine lv_aload_n hx hb dX12_field_77 rfl (lv_at hl 1 rfl) ?_
                refine lv_iload_n hx hb dX12_field_78 rfl (lv_at hl 3 rfl) ?_
                exact by
                 refine lv_if_ne (tgt := 87) hx hb dX12_field_79 (of_decide_eq_true rfl) (fun c => absurd (jne c t2 jz_0) (by omega)) (fun c54 => ?_)
                 have kc54 := jeq c54 t2 jz_0
                 refine lv_bipush (v := 36) hx hb dX12_field_82 (of_decide_eq_true rfl) ?_
                 refine lv_goto (tgt := 89) hx hb dX12_field_84 (of_decide_eq_true rfl) ?_
                 refine lv_iconst (v := 4) hx hb dX12_field_89 (of_decide_eq_true rfl) ?_
                 refine lv_iload_n hx hb dX12_field_90 rfl (lv_at hl 2 rfl) ?_
                 refine lv_bipush (v := 10) hx hb dX12_field_91 (of_decide_eq_true rfl) ?_
                 refine lv_idiv hx hb dX12_field_93 (of_decide_eq_true rfl) ?_
                 refine lv_topi (fun x55 ex55 => ?_)
                 exact by
                  have tx55 : x55.toInt = (A1 / 10) := jdiv ex55 t1 jz_10 (by omega) (by omega)
                  refine lv_imul hx hb dX12_field_94 ?_
                  refine lv_topi (fun x56 ex56 => ?_)
                  have tx56 : x56.toInt = 4 * (A1 / 10) := (jmul ex56 jz_4 tx55 (by omega) (by omega)).trans (by omega)
                  refine lv_iadd hx hb dX12_field_95 ?_
                  refine lv_topi (fun x57 ex57 => ?_)
                  have tx57 : x57.toInt = 4 * (A1 / 10) + 36 := (jadd ex57 jz_36 tx56 (by omega) (by omega)).trans (by omega)
                  refine lv_iload_n hx hb dX12_field_96 rfl (lv_at hl 2 rfl) ?_
                  refine lv_bipush (v := 10) hx hb dX12_field_97 (of_decide_eq_true rfl) ?_
                  exact by
                   refine lv_irem hx hb dX12_field_99 (of_decide_eq_true rfl) ?_
                   refine lv_topi (fun x58 ex58 => ?_)
                   have tx58 : x58.toInt = (A1 % 10) := jrem ex58 t1 jz_10 (by omega)
                   refine lv_iadd hx hb dX12_field_100 ?_
                   refine lv_topi (fun x59 ex59 => ?_)
                   have tx59 : x59.toInt = 4 * (A1 / 10) + (A1 % 10) + 36 := (jadd ex59 tx57 tx58 (by omega) (by omega)).trans (by omega)
                   refine lv_iload_n hx hb dX12_field_101 rfl (lv_at hl 4 rfl) ?_
                   refine jcallV (As := [.int x59, .int a3]) (rest := []) ⟨hx, hb, hml, hown, hts⟩ hK hP hA hS hZ (c_X12_becomes l D cI cL ad zz hJ σ τ x59 (4 * (A1 / 10) + (A1 % 10) + 36) tx59 a3 (A3) t3 hI101 (by omega) (by omega)) cw_RX12_153 (jc_55 cI cL ad σ τ) rfl ⟨Nat.le_of_ble_eq_true rfl, Nat.le_of_ble_eq_true rfl⟩ rfl rfl rfl hl.1 rfl (Nat.le_of_ble_eq_true rfl) dX12_field_102 ⟨Nat.zero_le _, Nat.zero_le _⟩ (fun r61 σ60 τ60 H locs h60 hP hS => ?_)
                   obtain ⟨rfl, f62, f63, I64, w65, h60⟩ := h60
                   exact by
                    obtain ⟨i67, i68, i69, w70, w71, w72, w73⟩ : (0 ≤ (σ60 55 5).toInt) ∧ ((σ60 55 5).toInt ≤ (σ60 55 4).toInt) ∧ ((σ60 55 4).toInt ≤ 40) ∧ (∀ k : Nat, k < 68 → (-200) ≤ (σ60 56 k).toInt ∧ (σ60 56 k).toInt ≤ 500) ∧ (∀ k : Nat, k < 40 → 0 ≤ (σ60 57 k).toInt ∧ (σ60 57 k).toInt ≤ 67) ∧ (∀ k : Nat, k < 40 → (-200) ≤ (σ60 58 k).toInt ∧ (σ60 58 k).toInt ≤ 500) ∧ (∀ k : Nat, k < 40 → (-200) ≤ (σ60 59 k).toInt ∧ (σ60 59 k).toInt ≤ 500) := id I64
                    refine lv_goto (tgt := 110) hx hb dX12_field_105 (of_decide_eq_true rfl) ?_
                    exact by exact hret r61 σ60 τ _ _ _ _ rfl ⟨rfl, (fun i hi => (f62 i hi)), (fun i hi => (f63 i hi)), I64, Or.inr (⟨trivial, ⟨(by unfold jFok; omega), 4 * (A1 / 10) + (A1 % 10) + 36, (by unfold jFpl; omega), w65⟩⟩)⟩ hP hS dX12_field_110
              · obtain ⟨q75, k74⟩ := h51
                have q75 := q75.symm
                subst q75
                refine lv_if_eq (tgt := 69) hx hb dX12_field_45 (of_decide_eq_true rfl) (fun _ => ?_) (fun c => absurd (of_decide_eq_true rfl) c)
                refine lv_iconst (v := 0) hx hb dX12_field_69 (of_decide_eq_true rfl) ?_
                refine lv_istore (lv' := [(4, .int 0), (0, .ref (ad 55)), (1, .int a1), (2, .int a2), (3, .int a3)]) hx hb dX12_field_70 hl (of_decide_eq_true rfl) rfl (fun ls hl => ?_)
                refine lv_iload hx hb dX12_field_72 (lv_at hl 0 rfl) ?_
                refine lv_if_eq (tgt := 108) hx hb dX12_field_74 (of_decide_eq_true rfl) (fun _ => ?_) (fun c => absurd (of_decide_eq_true rfl) c)
                refine lv_ldc (v := (-2000000000)) hx hb hown (hts _ kw_11_4) dX12_field_108 ?_
                exact by exact hret (-2000000000) σ τ _ _ _ _ rfl ⟨rfl, (fun _ _ => rfl), (fun _ _ => rfl), hI101, Or.inl ⟨rfl, (by have h9 := jz_m2000000000; omega), (by have h9 := jz_m2000000000; omega), (fun h => by unfold jFok at h; omega), ⟨rfl, rfl, rfl, rfl⟩⟩⟩ hP hS dX12_field_110
          · obtain ⟨q77, k76⟩ := h16
            have q77 := q77.symm
            subst q77
            refine lv_if_eq (tgt := 69) hx hb dX12_field_27 (of_decide_eq_true rfl) (fun _ => ?_) (fun c => absurd (of_decide_eq_true rfl) c)
            refine lv_iconst (v := 0) hx hb dX12_field_69 (of_decide_eq_true rfl) ?_
            refine lv_istore (lv' := [(4, .int 0), (0, .ref (ad 55)), (1, .int a1), (2, .int a2), (3, .int a3)]) hx hb dX12_field_70 hl (of_decide_eq_true rfl) rfl (fun ls hl => ?_)
            refine lv_iload hx hb dX12_field_72 (lv_at hl 0 rfl) ?_
            refine lv_if_eq (tgt := 108) hx hb dX12_field_74 (of_decide_eq_true rfl) (fun _ => ?_) (fun c => absurd (of_decide_eq_true rfl) c)
            refine lv_ldc (v := (-2000000000)) hx hb hown (hts _ kw_11_4) dX12_field_108 ?_
            exact by exact hret (-2000000000) σ τ _ _ _ _ rfl ⟨rfl, (fun _ _ => rfl), (fun _ _ => rfl), hI101, Or.inl ⟨rfl, (by have h9 := jz_m2000000000; omega), (by have h9 := jz_m2000000000; omega), (fun h => by unfold jFok at h; omega), ⟨rfl, rfl, rfl, rfl⟩⟩⟩ hP hS dX12_field_110
set_option maxHeartbeats 4000000 in
set_option maxRecDepth 100000 in
theorem c_X12_set (l : Launch) (D : va_G) (cI cL : ClassId) (ad zz : Nat → Nat) (hJ : jD ad) (σ : Nat → Nat → Int32) (τ : Nat → Nat → Int64) (a1 : Int32) (A1 : Int) (t1 : a1.toInt = A1) (hI103 : jI103 σ) : jM l yX12_set cX12_set 3 (some .int) ({ frames := 1, cells := 0, slots := 0, locals := 25 }) D cI cL ad zz [.ref (ad 55), .int a1] σ τ (fun r σ' τ' => τ = τ' ∧ (∀ i : Nat, (i < 55 ∨ 55 < i) → σ' i = σ i) ∧ (∀ k : Nat, (k < 9 ∨ 9 < k) → σ' 55 k = σ 55 k) ∧ (jI103 σ') ∧ ((True ∧ (0 ≤ A1 ∧ A1 ≤ 3) ∧ (r.toInt = (σ 55 9).toInt) ∧ ((σ' 55 9).toInt = A1)) ∨ (r = (-1) ∧ ((A1 < 0) ∨ (3 < A1)) ∧ ((σ' 55 9).toInt = (σ 55 9).toInt)))) := by
  refine jM.of hJ (by decide +kernel) (nt := .int) rfl (Nat.le_of_ble_eq_true rfl) ?_
  intro p e s m args below meth c Q ls hC hret hl hP
  obtain ⟨hx, hb, hr, hml, hown, hts, hK, -, hlocks, hZ⟩ := hC
  have hown : s.vm.findClass RX12 = some m.cls := hown
  have hS : va_S (jA ad) s.heap s.heap [] := va_S.rf
  have hA : ∀ q, jA ad q → jA ad q := fun _ h => h
  have hl : lv_has ls 3 [(0, .ref (ad 55)), (1, .int a1)] := hl
  have g1 := jrg t1
  have i1 : 0 ≤ (σ 55 9).toInt ∧ (σ 55 9).toInt ≤ 3 := hI103
  refine lv_iload_n hx hb dX12_set_0 rfl (lv_at hl 1 rfl) ?_
  refine lv_i2l (v := a1.toInt64) hx hb dX12_set_1 rfl ?_
  refine lv_lconst (v := 0) hx hb dX12_set_2 (of_decide_eq_true rfl) ?_
  refine lv_ldc2 (v := 3) hx hb hown (hts _ kw_12_13) dX12_set_3 ?_
  refine jcallS (As := [.long a1.toInt64, .long 0, .long 3]) (rest := []) ⟨hx, hb, hml, hown, hts⟩ hK hP hA hS hZ (c_X12_within l D cI cL ad zz hJ σ τ a1.toInt64 (A1) (jtoL t1) 0 (0) jzl_0 3 (3) jzl_3) cw_RX12_136 ⟨Nat.le_of_ble_eq_true rfl, Nat.le_of_ble_eq_true rfl⟩ rfl rfl rfl hl.1 rfl (Nat.le_of_ble_eq_true rfl) dX12_set_6 ⟨Nat.zero_le _, Nat.zero_le _⟩ (fun r3 σ2 τ2 H locs h2 hP hS => ?_)
  obtain ⟨⟨rfl, rfl⟩, h2⟩ := h2
  rcases h2 with h4 | h5
  · obtain ⟨q7, k6⟩ := h4
    have q7 := q7.symm
    subst q7
    refine lv_if_ne (tgt := 14) hx hb dX12_set_9 (of_decide_eq_true rfl) (fun _ => ?_) (fun c => absurd c (of_decide_eq_true rfl))
    refine lv_aload_n hx hb dX12_set_14 rfl (lv_at hl 0 rfl) ?_
    refine va_get (D := D) hx hb hts inlX12 hown hK hP 55 (jc_55 cI cL ad σ τ) rfl 9 (of_decide_eq_true rfl) (hts _ kw_12_14) (fun _ h9 => h9) rfl dX12_set_15 ?_
    refine lv_istore_n (lv' := [(2, .int (σ 55 9)), (0, .ref (ad 55)), (1, .int a1)]) hx hb dX12_set_18 rfl hl (of_decide_eq_true rfl) rfl (fun ls hl => ?_)
    refine lv_aload_n hx hb dX12_set_19 rfl (lv_at hl 1 rfl) ?_
    refine lv_iload_n hx hb dX12_set_20 rfl (lv_at hl 2 rfl) ?_
    refine jput (ty := .int) hx hb hts inlX12 tyX12 tyX12_ok nmX12 hown hK hP hJ hA hS (jc_55 cI cL ad σ τ) rfl (k := 9) (of_decide_eq_true rfl) (Nat.le_of_ble_eq_true rfl) (jp_55_9 cI cL ad σ τ a1) (hts _ kw_12_14) (fun _ h9 => h9) rfl (by decide +kernel) rfl rfl dX12_set_21 (fun σ8 H locs eσ8 hP hS => ?_)
    refine lv_iload_n hx hb dX12_set_24 rfl (lv_at hl 0 rfl) ?_
    have z9 : (σ8 55 9).toInt = A1 := ((congrArg Int32.toInt (show σ8 55 9 = a1 from (jsp eσ8))).trans t1)
    have I10 : jI103 σ8 := (show 0 ≤ (σ8 55 9).toInt ∧ (σ8 55 9).toInt ≤ 3 by omega)
    exact by exact hret (σ 55 9) σ8 τ _ _ _ _ rfl ⟨rfl, (fun i hi => (jnp i eσ8 (imp_165 i hi))), (fun i hi => (jkp i eσ8 (imp_37 i hi))), I10, Or.inl ⟨trivial, (by omega), (by omega), (by omega)⟩⟩ hP hS dX12_set_25
  · obtain ⟨q12, k11⟩ := h5
    have q12 := q12.symm
    subst q12
    refine lv_if_ne (tgt := 14) hx hb dX12_set_9 (of_decide_eq_true rfl) (fun c => absurd (of_decide_eq_true rfl) c) (fun _ => ?_)
    refine lv_iconst (v := (-1)) hx hb dX12_set_12 (of_decide_eq_true rfl) ?_
    exact by exact hret (-1) σ τ _ _ _ _ rfl ⟨rfl, (fun _ _ => rfl), (fun _ _ => rfl), hI103, Or.inr (⟨rfl, (by have h9 := jz_m1; omega), (by have h9 := jz_m1; omega)⟩)⟩ hP hS dX12_set_13
set_option maxHeartbeats 4000000 in
set_option maxRecDepth 100000 in
theorem c_X12_learn (l : Launch) (D : va_G) (cI cL : ClassId) (ad zz : Nat → Nat) (hJ : jD ad) (σ : Nat → Nat → Int32) (τ : Nat → Nat → Int64) (a1 : Int32) (A1 : Int) (t1 : a1.toInt = A1) (a2 : Int32) (A2 : Int) (t2 : a2.toInt = A2) (hI101 : jI101 σ) (hI102 : jI102 σ) : jM l yX12_learn cX12_learn 6 (some .int) ({ frames := 2, cells := 0, slots := 0, locals := 46 }) D cI cL ad zz [.ref (ad 55), .int a1, .int a2] σ τ (fun r σ' τ' => τ = τ' ∧ (∀ i : Nat, (i < 55 ∨ 59 < i) → σ' i = σ i) ∧ (∀ k : Nat, (k < 4 ∨ 4 < k) ∧ (k < 5 ∨ 5 < k) → σ' 55 k = σ 55 k) ∧ (jI101 σ') ∧ ((r = (-1) ∧ ((A1 < 0) ∨ (0 ≤ A1 ∧ (σ 55 6).toInt ≤ (A1 / 10)) ∨ (0 ≤ A1 ∧ 3 < (A1 % 10)) ∨ (A2 < 0) ∨ (9999 < A2) ∨ (0 ≤ A2 ∧ (A2 / 100) < (A2 % 100))) ∧ ((σ' 55 5).toInt = (σ 55 5).toInt) ∧ ((σ' 55 4).toInt = (σ 55 4).toInt) ∧ (σ' 56 = σ 56 ∧ σ' 57 = σ 57 ∧ σ' 58 = σ 58 ∧ σ' 59 = σ 59)) ∨ (True ∧ (0 ≤ A1) ∧ ((A1 / 10) < (σ 55 6).toInt) ∧ ((A1 % 10) ≤ 3) ∧ (0 ≤ A2 ∧ A2 ≤ 9999) ∧ ((A2 % 100) ≤ (A2 / 100)) ∧ ((((1000 * (A2 % 100) + 1000) / ((A2 / 100) + 2)) ≤ 500 ∧ r.toInt = ((1000 * (A2 % 100) + 1000) / ((A2 / 100) + 2))) ∨ (500 < ((1000 * (A2 % 100) + 1000) / ((A2 / 100) + 2)) ∧ r.toInt = 500)) ∧ (∃ (q : Int) (w : Int32), q = 4 * ((A1) / 10) + (A1) % 10 ∧ jChg (q) r w (σ 56) (σ' 56) (σ 57) (σ' 57) (σ 58) (σ' 58) (σ 59) (σ' 59) (σ 55 5).toInt (σ' 55 5).toInt (σ 55 4).toInt (σ' 55 4).toInt)))) := by
  refine jM.of hJ (by decide +kernel) (nt := .int) rfl (Nat.le_of_ble_eq_true rfl) ?_
  intro p e s m args below meth c Q ls hC hret hl hP
  obtain ⟨hx, hb, hr, hml, hown, hts, hK, -, hlocks, hZ⟩ := hC
  have hown : s.vm.findClass RX12 = some m.cls := hown
  have hS : va_S (jA ad) s.heap s.heap [] := va_S.rf
  have hA : ∀ q, jA ad q → jA ad q := fun _ h => h
  have hl : lv_has ls 6 [(0, .ref (ad 55)), (1, .int a1), (2, .int a2)] := hl
  have g1 := jrg t1
  have g2 := jrg t2
  obtain ⟨i1, i2, i3, w4, w5, w6, w7⟩ : (0 ≤ (σ 55 5).toInt) ∧ ((σ 55 5).toInt ≤ (σ 55 4).toInt) ∧ ((σ 55 4).toInt ≤ 40) ∧ (∀ k : Nat, k < 68 → (-200) ≤ (σ 56 k).toInt ∧ (σ 56 k).toInt ≤ 500) ∧ (∀ k : Nat, k < 40 → 0 ≤ (σ 57 k).toInt ∧ (σ 57 k).toInt ≤ 67) ∧ (∀ k : Nat, k < 40 → (-200) ≤ (σ 58 k).toInt ∧ (σ 58 k).toInt ≤ 500) ∧ (∀ k : Nat, k < 40 → (-200) ≤ (σ 59 k).toInt ∧ (σ 59 k).toInt ≤ 500) := id hI101
  obtain ⟨i8, w9, w10⟩ : (0 ≤ (σ 55 6).toInt ∧ (σ 55 6).toInt ≤ 4) ∧ (∀ k : Nat, k < 4 → 0 ≤ (σ 60 k).toInt ∧ (σ 60 k).toInt ≤ 50) ∧ (∀ k : Nat, k < 4 → 0 ≤ (σ 61 k).toInt ∧ (σ 61 k).toInt ≤ 20) := id hI102
  refine lv_iload_n hx hb dX12_learn_0 rfl (lv_at hl 1 rfl) ?_
  refine lv_if_lt (tgt := 46) hx hb dX12_learn_1 (of_decide_eq_true rfl) (fun c11 => ?_) (fun c11 => ?_)
  · have kc11 := jlt c11 t1 jz_0
    refine lv_iconst (v := (-1)) hx hb dX12_learn_46 (of_decide_eq_true rfl) ?_
    exact by exact hret (-1) σ τ _ _ _ _ rfl ⟨rfl, (fun _ _ => rfl), (fun _ _ => rfl), hI101, Or.inl ⟨rfl, (by have h9 := jz_m1; omega), (by have h9 := jz_m1; omega), (by have h9 := jz_m1; omega), ⟨rfl, rfl, rfl, rfl⟩⟩⟩ hP hS dX12_learn_47
  · have kc11 := jnlt c11 t1 jz_0
    refine lv_aload_n hx hb dX12_learn_4 rfl (lv_at hl 0 rfl) ?_
    refine lv_iload_n hx hb dX12_learn_5 rfl (lv_at hl 1 rfl) ?_
    refine lv_bipush (v := 10) hx hb dX12_learn_6 (of_decide_eq_true rfl) ?_
    refine lv_idiv hx hb dX12_learn_8 (of_decide_eq_true rfl) ?_
    refine lv_topi (fun x12 ex12 => ?_)
    exact by
     have tx12 : x12.toInt = (A1 / 10) := jdiv ex12 t1 jz_10 (by omega) (by omega)
     refine jcallV (As := [.int x12]) (rest := []) ⟨hx, hb, hml, hown, hts⟩ hK hP hA hS hZ (c_X12_isBowler l D cI cL ad zz hJ σ τ x12 ((A1 / 10)) tx12 hI102) cw_RX12_146 (jc_55 cI cL ad σ τ) rfl ⟨Nat.le_of_ble_eq_true rfl, Nat.le_of_ble_eq_true rfl⟩ rfl rfl rfl hl.1 rfl (Nat.le_of_ble_eq_true rfl) dX12_learn_9 ⟨Nat.zero_le _, Nat.zero_le _⟩ (fun r14 σ13 τ13 H locs h13 hP hS => ?_)
     obtain ⟨⟨rfl, rfl⟩, h13⟩ := h13
     rcases h13 with h15 | h16
     · obtain ⟨q18, k17⟩ := h15
       have q18 := q18.symm
       subst q18
       refine lv_if_eq (tgt := 46) hx hb dX12_learn_12 (of_decide_eq_true rfl) (fun c => absurd c (of_decide_eq_true rfl)) (fun _ => ?_)
       refine lv_iload_n hx hb dX12_learn_15 rfl (lv_at hl 1 rfl) ?_
       refine lv_bipush (v := 10) hx hb dX12_learn_16 (of_decide_eq_true rfl) ?_
       refine lv_irem hx hb dX12_learn_18 (of_decide_eq_true rfl) ?_
       refine lv_topi (fun x19 ex19 => ?_)
       exact by
        have tx19 : x19.toInt = (A1 % 10) := jrem ex19 t1 jz_10 (by omega)
        refine lv_iconst (v := 4) hx hb dX12_learn_19 (of_decide_eq_true rfl) ?_
        refine lv_icmp_ge (tgt := 46) hx hb dX12_learn_20 (of_decide_eq_true rfl) (fun c20 => ?_) (fun c20 => ?_)
        · have kc20 := jle c20 jz_4 tx19
          refine lv_iconst (v := (-1)) hx hb dX12_learn_46 (of_decide_eq_true rfl) ?_
          exact by exact hret (-1) σ τ _ _ _ _ rfl ⟨rfl, (fun _ _ => rfl), (fun _ _ => rfl), hI101, Or.inl ⟨rfl, (by have h9 := jz_m1; omega), (by have h9 := jz_m1; omega), (by have h9 := jz_m1; omega), ⟨rfl, rfl, rfl, rfl⟩⟩⟩ hP hS dX12_learn_47
        · have kc20 := jnle c20 jz_4 tx19
          refine lv_iload_n hx hb dX12_learn_23 rfl (lv_at hl 2 rfl) ?_
          refine lv_i2l (v := a2.toInt64) hx hb dX12_learn_24 rfl ?_
          refine lv_lconst (v := 0) hx hb dX12_learn_25 (of_decide_eq_true rfl) ?_
          refine lv_ldc2 (v := 9999) hx hb hown (hts _ kw_41_8) dX12_learn_26 ?_
          refine jcallS (As := [.long a2.toInt64, .long 0, .long 9999]) (rest := []) ⟨hx, hb, hml, hown, hts⟩ hK hP hA hS hZ (c_X12_within l D cI cL ad zz hJ σ τ a2.toInt64 (A2) (jtoL t2) 0 (0) jzl_0 9999 (9999) jzl_9999) cw_RX12_136 ⟨Nat.le_of_ble_eq_true rfl, Nat.le_of_ble_eq_true rfl⟩ rfl rfl rfl hl.1 rfl (Nat.le_of_ble_eq_true rfl) dX12_learn_29 ⟨Nat.zero_le _, Nat.zero_le _⟩ (fun r22 σ21 τ21 H locs h21 hP hS => ?_)
          obtain ⟨⟨rfl, rfl⟩, h21⟩ := h21
          rcases h21 with h23 | h24
          · obtain ⟨q26, k25⟩ := h23
            have q26 := q26.symm
            subst q26
            refine lv_if_eq (tgt := 46) hx hb dX12_learn_32 (of_decide_eq_true rfl) (fun c => absurd c (of_decide_eq_true rfl)) (fun _ => ?_)
            refine lv_iload_n hx hb dX12_learn_35 rfl (lv_at hl 2 rfl) ?_
            refine lv_bipush (v := 100) hx hb dX12_learn_36 (of_decide_eq_true rfl) ?_
            refine lv_irem hx hb dX12_learn_38 (of_decide_eq_true rfl) ?_
            refine lv_topi (fun x27 ex27 => ?_)
            exact by
             have tx27 : x27.toInt = (A2 % 100) := jrem ex27 t2 jz_100 (by omega)
             refine lv_iload_n hx hb dX12_learn_39 rfl (lv_at hl 2 rfl) ?_
             refine lv_bipush (v := 100) hx hb dX12_learn_40 (of_decide_eq_true rfl) ?_
             refine lv_idiv hx hb dX12_learn_42 (of_decide_eq_true rfl) ?_
             refine lv_topi (fun x28 ex28 => ?_)
             have tx28 : x28.toInt = (A2 / 100) := jdiv ex28 t2 jz_100 (by omega) (by omega)
             refine lv_icmp_le (tgt := 48) hx hb dX12_learn_43 (of_decide_eq_true rfl) (fun c29 => ?_) (fun c29 => ?_)
             · have kc29 := jle c29 tx27 tx28
               refine lv_sipush (v := 1000) hx hb dX12_learn_48 (of_decide_eq_true rfl) ?_
               exact by
                refine lv_iload_n hx hb dX12_learn_51 rfl (lv_at hl 2 rfl) ?_
                refine lv_bipush (v := 100) hx hb dX12_learn_52 (of_decide_eq_true rfl) ?_
                refine lv_irem hx hb dX12_learn_54 (of_decide_eq_true rfl) ?_
                refine lv_topi (fun x30 ex30 => ?_)
                have tx30 : x30.toInt = (A2 % 100) := jrem ex30 t2 jz_100 (by omega)
                refine lv_iconst (v := 1) hx hb dX12_learn_55 (of_decide_eq_true rfl) ?_
                refine lv_iadd hx hb dX12_learn_56 ?_
                refine lv_topi (fun x31 ex31 => ?_)
                have tx31 : x31.toInt = (A2 % 100) + 1 := (jadd ex31 tx30 jz_1 (by omega) (by omega)).trans (by omega)
                exact by
                 refine lv_imul hx hb dX12_learn_57 ?_
                 refine lv_topi (fun x32 ex32 => ?_)
                 have tx32 : x32.toInt = 1000 * (A2 % 100) + 1000 := (jmul ex32 jz_1000 tx31 (by omega) (by omega)).trans (by omega)
                 refine lv_iload_n hx hb dX12_learn_58 rfl (lv_at hl 2 rfl) ?_
                 refine lv_bipush (v := 100) hx hb dX12_learn_59 (of_decide_eq_true rfl) ?_
                 refine lv_idiv hx hb dX12_learn_61 (of_decide_eq_true rfl) ?_
                 refine lv_topi (fun x33 ex33 => ?_)
                 have tx33 : x33.toInt = (A2 / 100) := jdiv ex33 t2 jz_100 (by omega) (by omega)
                 refine lv_iconst (v := 2) hx hb dX12_learn_62 (of_decide_eq_true rfl) ?_
                 exact by
                  refine lv_iadd hx hb dX12_learn_63 ?_
                  refine lv_topi (fun x34 ex34 => ?_)
                  have tx34 : x34.toInt = (A2 / 100) + 2 := (jadd ex34 tx33 jz_2 (by omega) (by omega)).trans (by omega)
                  refine lv_idiv hx hb dX12_learn_64 (fun h => absurd (jeq h tx34 jz_0) (by omega)) ?_
                  have g35 := jdivv (a := x32) (b := x34) tx32 tx34 (by omega) (by omega)
                  refine lv_topi (fun x36 ex36 => ?_)
                  have tx36 : x36.toInt = ((1000 * (A2 % 100) + 1000) / ((A2 / 100) + 2)) := jdiv ex36 tx32 tx34 (by omega) (by omega)
                  refine lv_istore_n (lv' := [(3, .int x36), (0, .ref (ad 55)), (1, .int a1), (2, .int a2)]) hx hb dX12_learn_65 rfl hl (of_decide_eq_true rfl) rfl (fun ls hl => ?_)
                  refine lv_iload_n hx hb dX12_learn_66 rfl (lv_at hl 0 rfl) ?_
                  exact by
                   refine lv_sipush (v := 500) hx hb dX12_learn_67 (of_decide_eq_true rfl) ?_
                   refine lv_icmp_le (tgt := 79) hx hb dX12_learn_70 (of_decide_eq_true rfl) (fun c37 => ?_) (fun c37 => ?_)
                   · have kc37 := jle c37 tx36 jz_500
                     refine lv_iload_n hx hb dX12_learn_79 rfl (lv_at hl 0 rfl) ?_
                     refine lv_istore (lv' := [(4, .int x36), (3, .int x36), (0, .ref (ad 55)), (1, .int a1), (2, .int a2)]) hx hb dX12_learn_80 hl (of_decide_eq_true rfl) rfl (fun ls hl => ?_)
                     refine lv_aload_n hx hb dX12_learn_82 rfl (lv_at hl 2 rfl) ?_
                     refine lv_iconst (v := 4) hx hb dX12_learn_83 (of_decide_eq_true rfl) ?_
                     refine lv_iload_n hx hb dX12_learn_84 rfl (lv_at hl 3 rfl) ?_
                     refine lv_bipush (v := 10) hx hb dX12_learn_85 (of_decide_eq_true rfl) ?_
                     refine lv_idiv hx hb dX12_learn_87 (of_decide_eq_true rfl) ?_
                     refine lv_topi (fun x38 ex38 => ?_)
                     exact by
                      have tx38 : x38.toInt = (A1 / 10) := jdiv ex38 t1 jz_10 (by omega) (by omega)
                      refine lv_imul hx hb dX12_learn_88 ?_
                      refine lv_topi (fun x39 ex39 => ?_)
                      have tx39 : x39.toInt = 4 * (A1 / 10) := (jmul ex39 jz_4 tx38 (by omega) (by omega)).trans (by omega)
                      refine lv_iload_n hx hb dX12_learn_89 rfl (lv_at hl 3 rfl) ?_
                      refine lv_bipush (v := 10) hx hb dX12_learn_90 (of_decide_eq_true rfl) ?_
                      refine lv_irem hx hb dX12_learn_92 (of_decide_eq_true rfl) ?_
                      refine lv_topi (fun x40 ex40 => ?_)
                      have tx40 : x40.toInt = (A1 % 10) := jrem ex40 t1 jz_10 (by omega)
                      exact by
                       refine lv_iadd hx hb dX12_learn_93 ?_
                       refine lv_topi (fun x41 ex41 => ?_)
                       have tx41 : x41.toInt = 4 * (A1 / 10) + (A1 % 10) := (jadd ex41 tx39 tx40 (by omega) (by omega)).trans (by omega)
                       refine lv_iload hx hb dX12_learn_94 (lv_at hl 0 rfl) ?_
                       refine jcallV (As := [.int x41, .int x36]) (rest := []) ⟨hx, hb, hml, hown, hts⟩ hK hP hA hS hZ (c_X12_becomes l D cI cL ad zz hJ σ τ x41 (4 * (A1 / 10) + (A1 % 10)) tx41 x36 (((1000 * (A2 % 100) + 1000) / ((A2 / 100) + 2))) tx36 hI101 (by omega) (by omega)) cw_RX12_153 (jc_55 cI cL ad σ τ) rfl ⟨Nat.le_of_ble_eq_true rfl, Nat.le_of_ble_eq_true rfl⟩ rfl rfl rfl hl.1 rfl (Nat.le_of_ble_eq_true rfl) dX12_learn_96 ⟨Nat.zero_le _, Nat.zero_le _⟩ (fun r43 σ42 τ42 H locs h42 hP hS => ?_)
                       obtain ⟨rfl, f44, f45, I46, w47, h42⟩ := h42
                       obtain ⟨i49, i50, i51, w52, w53, w54, w55⟩ : (0 ≤ (σ42 55 5).toInt) ∧ ((σ42 55 5).toInt ≤ (σ42 55 4).toInt) ∧ ((σ42 55 4).toInt ≤ 40) ∧ (∀ k : Nat, k < 68 → (-200) ≤ (σ42 56 k).toInt ∧ (σ42 56 k).toInt ≤ 500) ∧ (∀ k : Nat, k < 40 → 0 ≤ (σ42 57 k).toInt ∧ (σ42 57 k).toInt ≤ 67) ∧ (∀ k : Nat, k < 40 → (-200) ≤ (σ42 58 k).toInt ∧ (σ42 58 k).toInt ≤ 500) ∧ (∀ k : Nat, k < 40 → (-200) ≤ (σ42 59 k).toInt ∧ (σ42 59 k).toInt ≤ 500) := id I46
                       refine lv_istore (lv' := [(5, .int r43), (4, .int x36), (3, .int x36), (0, .ref (ad 55)), (1, .int a1), (2, .int a2)]) hx hb dX12_learn_99 hl (of_decide_eq_true rfl) rfl (fun ls hl => ?_)
                       refine lv_iload hx hb dX12_learn_101 (lv_at hl 1 rfl) ?_
                       exact by exact hret x36 σ42 τ _ _ _ _ rfl ⟨rfl, (fun i hi => (f44 i hi)), (fun i hi => (f45 i hi)), I46, Or.inr (⟨trivial, (by have h9 := tx36; omega), (by have h9 := tx36; omega), (by have h9 := tx36; omega), (by have h9 := tx36; omega), (by have h9 := tx36; omega), (by have h9 := tx36; omega), ⟨4 * (A1 / 10) + (A1 % 10), _, (by omega), w47⟩⟩)⟩ hP hS dX12_learn_103
                   · exact by
                      have kc37 := jnle c37 tx36 jz_500
                      refine lv_sipush (v := 500) hx hb dX12_learn_73 (of_decide_eq_true rfl) ?_
                      refine lv_goto (tgt := 80) hx hb dX12_learn_76 (of_decide_eq_true rfl) ?_
                      refine lv_istore (lv' := [(4, .int 500), (3, .int x36), (0, .ref (ad 55)), (1, .int a1), (2, .int a2)]) hx hb dX12_learn_80 hl (of_decide_eq_true rfl) rfl (fun ls hl => ?_)
                      refine lv_aload_n hx hb dX12_learn_82 rfl (lv_at hl 2 rfl) ?_
                      refine lv_iconst (v := 4) hx hb dX12_learn_83 (of_decide_eq_true rfl) ?_
                      refine lv_iload_n hx hb dX12_learn_84 rfl (lv_at hl 3 rfl) ?_
                      refine lv_bipush (v := 10) hx hb dX12_learn_85 (of_decide_eq_true rfl) ?_
                      refine lv_idiv hx hb dX12_learn_87 (of_decide_eq_true rfl) ?_
                      refine lv_topi (fun x56 ex56 => ?_)
                      exact by
                       have tx56 : x56.toInt = (A1 / 10) := jdiv ex56 t1 jz_10 (by omega) (by omega)
                       refine lv_imul hx hb dX12_learn_88 ?_
                       refine lv_topi (fun x57 ex57 => ?_)
                       have tx57 : x57.toInt = 4 * (A1 / 10) := (jmul ex57 jz_4 tx56 (by omega) (by omega)).trans (by omega)
                       refine lv_iload_n hx hb dX12_learn_89 rfl (lv_at hl 3 rfl) ?_
                       refine lv_bipush (v := 10) hx hb dX12_learn_90 (of_decide_eq_true rfl) ?_
                       refine lv_irem hx hb dX12_learn_92 (of_decide_eq_true rfl) ?_
                       refine lv_topi (fun x58 ex58 => ?_)
                       have tx58 : x58.toInt = (A1 % 10) := jrem ex58 t1 jz_10 (by omega)
                       exact by
                        refine lv_iadd hx hb dX12_learn_93 ?_
                        refine lv_topi (fun x59 ex59 => ?_)
                        have tx59 : x59.toInt = 4 * (A1 / 10) + (A1 % 10) := (jadd ex59 tx57 tx58 (by omega) (by omega)).trans (by omega)
                        refine lv_iload hx hb dX12_learn_94 (lv_at hl 0 rfl) ?_
                        refine jcallV (As := [.int x59, .int 500]) (rest := []) ⟨hx, hb, hml, hown, hts⟩ hK hP hA hS hZ (c_X12_becomes l D cI cL ad zz hJ σ τ x59 (4 * (A1 / 10) + (A1 % 10)) tx59 500 (500) jz_500 hI101 (by omega) (by omega)) cw_RX12_153 (jc_55 cI cL ad σ τ) rfl ⟨Nat.le_of_ble_eq_true rfl, Nat.le_of_ble_eq_true rfl⟩ rfl rfl rfl hl.1 rfl (Nat.le_of_ble_eq_true rfl) dX12_learn_96 ⟨Nat.zero_le _, Nat.zero_le _⟩ (fun r61 σ60 τ60 H locs h60 hP hS => ?_)
                        obtain ⟨rfl, f62, f63, I64, w65, h60⟩ := h60
                        obtain ⟨i67, i68, i69, w70, w71, w72, w73⟩ : (0 ≤ (σ60 55 5).toInt) ∧ ((σ60 55 5).toInt ≤ (σ60 55 4).toInt) ∧ ((σ60 55 4).toInt ≤ 40) ∧ (∀ k : Nat, k < 68 → (-200) ≤ (σ60 56 k).toInt ∧ (σ60 56 k).toInt ≤ 500) ∧ (∀ k : Nat, k < 40 → 0 ≤ (σ60 57 k).toInt ∧ (σ60 57 k).toInt ≤ 67) ∧ (∀ k : Nat, k < 40 → (-200) ≤ (σ60 58 k).toInt ∧ (σ60 58 k).toInt ≤ 500) ∧ (∀ k : Nat, k < 40 → (-200) ≤ (σ60 59 k).toInt ∧ (σ60 59 k).toInt ≤ 500) := id I64
                        refine lv_istore (lv' := [(5, .int r61), (4, .int 500), (3, .int x36), (0, .ref (ad 55)), (1, .int a1), (2, .int a2)]) hx hb dX12_learn_99 hl (of_decide_eq_true rfl) rfl (fun ls hl => ?_)
                        refine lv_iload hx hb dX12_learn_101 (lv_at hl 1 rfl) ?_
                        exact by exact hret 500 σ60 τ _ _ _ _ rfl ⟨rfl, (fun i hi => (f62 i hi)), (fun i hi => (f63 i hi)), I64, Or.inr (⟨trivial, (by have h9 := jz_500; omega), (by have h9 := jz_500; omega), (by have h9 := jz_500; omega), (by have h9 := jz_500; omega), (by have h9 := jz_500; omega), (by have h9 := jz_500; omega), ⟨4 * (A1 / 10) + (A1 % 10), _, (by omega), w65⟩⟩)⟩ hP hS dX12_learn_103
             · exact by
                have kc29 := jnle c29 tx27 tx28
                refine lv_iconst (v := (-1)) hx hb dX12_learn_46 (of_decide_eq_true rfl) ?_
                exact by exact hret (-1) σ τ _ _ _ _ rfl ⟨rfl, (fun _ _ => rfl), (fun _ _ => rfl), hI101, Or.inl ⟨rfl, (by have h9 := jz_m1; omega), (by have h9 := jz_m1; omega), (by have h9 := jz_m1; omega), ⟨rfl, rfl, rfl, rfl⟩⟩⟩ hP hS dX12_learn_47
          · obtain ⟨q75, k74⟩ := h24
            have q75 := q75.symm
            subst q75
            refine lv_if_eq (tgt := 46) hx hb dX12_learn_32 (of_decide_eq_true rfl) (fun _ => ?_) (fun c => absurd (of_decide_eq_true rfl) c)
            refine lv_iconst (v := (-1)) hx hb dX12_learn_46 (of_decide_eq_true rfl) ?_
            exact by exact hret (-1) σ τ _ _ _ _ rfl ⟨rfl, (fun _ _ => rfl), (fun _ _ => rfl), hI101, Or.inl ⟨rfl, (by have h9 := jz_m1; omega), (by have h9 := jz_m1; omega), (by have h9 := jz_m1; omega), ⟨rfl, rfl, rfl, rfl⟩⟩⟩ hP hS dX12_learn_47
     · obtain ⟨q77, k76⟩ := h16
       have q77 := q77.symm
       subst q77
       refine lv_if_eq (tgt := 46) hx hb dX12_learn_12 (of_decide_eq_true rfl) (fun _ => ?_) (fun c => absurd (of_decide_eq_true rfl) c)
       refine lv_iconst (v := (-1)) hx hb dX12_learn_46 (of_decide_eq_true rfl) ?_
       exact by exact hret (-1) σ τ _ _ _ _ rfl ⟨rfl, (fun _ _ => rfl), (fun _ _ => rfl), hI101, Or.inl ⟨rfl, (by have h9 := jz_m1; omega), (by have h9 := jz_m1; omega), (by have h9 := jz_m1; omega), ⟨rfl, rfl, rfl, rfl⟩⟩⟩ hP hS dX12_learn_47
set_option maxHeartbeats 4000000 in
set_option maxRecDepth 100000 in
theorem c_X12_feed (l : Launch) (D : va_G) (cI cL : ClassId) (ad zz : Nat → Nat) (hJ : jD ad) (σ : Nat → Nat → Int32) (τ : Nat → Nat → Int64) (a1 : Int32) (A1 : Int) (t1 : a1.toInt = A1) (a2 : Int32) (A2 : Int) (t2 : a2.toInt = A2) (hI105 : jI105 σ) : jM l yX12_feed cX12_feed 4 (some .int) ({ frames := 1, cells := 0, slots := 0, locals := 25 }) D cI cL ad zz [.ref (ad 55), .int a1, .int a2] σ τ (fun r σ' τ' => τ = τ' ∧ (∀ i : Nat, (i < 55 ∨ 55 < i) ∧ (i < 63 ∨ 63 < i) → σ' i = σ i) ∧ (∀ k : Nat, (k < 15 ∨ 15 < k) → σ' 55 k = σ 55 k) ∧ (jI105 σ') ∧ ((r = (-1) ∧ ((A1 < 1) ∨ (4 < A1)) ∧ ((σ' 55 15).toInt = (σ 55 15).toInt) ∧ (σ' 63 = σ 63)) ∨ (r = (-3) ∧ (1 ≤ A1 ∧ A1 ≤ 4) ∧ (80 < (σ 55 15).toInt + A1) ∧ ((σ' 55 15).toInt = (σ 55 15).toInt) ∧ (σ' 63 = σ 63)) ∨ (True ∧ (1 ≤ A1 ∧ A1 ≤ 4) ∧ ((σ 55 15).toInt + A1 ≤ 80) ∧ (r.toInt = (σ 55 15).toInt + A1) ∧ ((σ' 55 15).toInt = (σ 55 15).toInt + A1) ∧ (jFd jBr (σ 63) (σ' 63) ((σ 55 15).toInt) (A1) a2)))) := by
  refine jM.of hJ (by decide +kernel) (nt := .int) rfl (Nat.le_of_ble_eq_true rfl) ?_
  intro p e s m args below meth c Q ls hC hret hl hP
  obtain ⟨hx, hb, hr, hml, hown, hts, hK, -, hlocks, hZ⟩ := hC
  have hown : s.vm.findClass RX12 = some m.cls := hown
  have hS : va_S (jA ad) s.heap s.heap [] := va_S.rf
  have hA : ∀ q, jA ad q → jA ad q := fun _ h => h
  have hl : lv_has ls 4 [(0, .ref (ad 55)), (1, .int a1), (2, .int a2)] := hl
  have g1 := jrg t1
  have g2 := jrg t2
  obtain ⟨i1, w2⟩ : (0 ≤ (σ 55 15).toInt ∧ (σ 55 15).toInt ≤ 80) ∧ (∀ k : Nat, k < 2 → (-1) ≤ (σ 65 k).toInt ∧ (σ 65 k).toInt ≤ 80) := id hI105
  refine lv_iload_n hx hb dX12_feed_0 rfl (lv_at hl 1 rfl) ?_
  refine lv_i2l (v := a1.toInt64) hx hb dX12_feed_1 rfl ?_
  refine lv_lconst (v := 1) hx hb dX12_feed_2 (of_decide_eq_true rfl) ?_
  refine lv_ldc2 (v := 4) hx hb hown (hts _ kw_13_5) dX12_feed_3 ?_
  refine jcallS (As := [.long a1.toInt64, .long 1, .long 4]) (rest := []) ⟨hx, hb, hml, hown, hts⟩ hK hP hA hS hZ (c_X12_within l D cI cL ad zz hJ σ τ a1.toInt64 (A1) (jtoL t1) 1 (1) jzl_1 4 (4) jzl_4) cw_RX12_136 ⟨Nat.le_of_ble_eq_true rfl, Nat.le_of_ble_eq_true rfl⟩ rfl rfl rfl hl.1 rfl (Nat.le_of_ble_eq_true rfl) dX12_feed_6 ⟨Nat.zero_le _, Nat.zero_le _⟩ (fun r4 σ3 τ3 H locs h3 hP hS => ?_)
  obtain ⟨⟨rfl, rfl⟩, h3⟩ := h3
  rcases h3 with h5 | h6
  · obtain ⟨q8, k7⟩ := h5
    have q8 := q8.symm
    subst q8
    refine lv_if_ne (tgt := 14) hx hb dX12_feed_9 (of_decide_eq_true rfl) (fun _ => ?_) (fun c => absurd c (of_decide_eq_true rfl))
    refine lv_aload_n hx hb dX12_feed_14 rfl (lv_at hl 0 rfl) ?_
    refine va_get (D := D) hx hb hts inlX12 hown hK hP 55 (jc_55 cI cL ad σ τ) rfl 15 (of_decide_eq_true rfl) (hts _ kw_13_6) (fun _ h9 => h9) rfl dX12_feed_15 ?_
    refine lv_iload_n hx hb dX12_feed_18 rfl (lv_at hl 1 rfl) ?_
    have g9 := jrg (rfl : (σ 55 15).toInt = (σ 55 15).toInt)
    refine lv_iadd hx hb dX12_feed_19 ?_
    refine lv_topi (fun x10 ex10 => ?_)
    exact by
     have tx10 : x10.toInt = (σ 55 15).toInt + A1 := (jadd ex10 rfl t1 (by omega) (by omega)).trans (by omega)
     refine lv_bipush (v := 80) hx hb dX12_feed_20 (of_decide_eq_true rfl) ?_
     refine lv_icmp_le (tgt := 28) hx hb dX12_feed_22 (of_decide_eq_true rfl) (fun c11 => ?_) (fun c11 => ?_)
     · have kc11 := jle c11 tx10 jz_80
       refine lv_iconst (v := 0) hx hb dX12_feed_28 (of_decide_eq_true rfl) ?_
       refine lv_istore_n (lv' := [(3, .int 0), (0, .ref (ad 55)), (1, .int a1), (2, .int a2)]) hx hb dX12_feed_29 rfl hl (of_decide_eq_true rfl) rfl (fun ls hl => ?_)
       have lp12 : ∀ (n13 : Nat) (x14 : Int32) (σ15 : Nat → Nat → Int32) (H : Heap) (locs : List Loc) (ls : Array Slot), (A1 - x14.toInt : Int) < n13 → 0 ≤ x14.toInt → x14.toInt ≤ 4 → x14.toInt ≤ A1 → (σ15 55 15).toInt = (σ 55 15).toInt + x14.toInt → (∀ i : Nat, (i < 55 ∨ 55 < i) ∧ (i < 63 ∨ 63 < i) → σ15 i = σ i) → (∀ k : Nat, (k < 15 ∨ 15 < k) → σ15 55 k = σ 55 k) → jI105 σ15 → (jFd jBr (σ 63) (σ15 63) ((σ 55 15).toInt) (x14.toInt) a2) → jH D cI cL ad σ15 τ H → va_S (jA ad) s.heap H locs → lv_has ls 4 [(3, .int x14), (0, .ref (ad 55)), (1, .int a1), (2, .int a2)] → W p l e ({ frames := 1, cells := 0, slots := 0, locals := 25 }) s m args below meth c H locs 0 0 Q (F0 m 30 ls []) := by
         intro n13
         induction n13 with
         | zero => intro x14 σ15 H locs ls h17 h18 h19 h20 h21; exact absurd h17 (by omega)
         | succ n13 ihlp12 =>
           intro x14 σ15 H locs ls h17 h18 h19 h20 h21 f22 f23 p24 q25 hP hS hl
           exact by
            obtain ⟨i26, w27⟩ : (0 ≤ (σ15 55 15).toInt ∧ (σ15 55 15).toInt ≤ 80) ∧ (∀ k : Nat, k < 2 → (-1) ≤ (σ15 65 k).toInt ∧ (σ15 65 k).toInt ≤ 80) := id p24
            refine lv_iload_n hx hb dX12_feed_30 rfl (lv_at hl 0 rfl) ?_
            refine lv_iload_n hx hb dX12_feed_31 rfl (lv_at hl 2 rfl) ?_
            refine lv_icmp_ge (tgt := 70) hx hb dX12_feed_32 (of_decide_eq_true rfl) (fun c28 => ?_) (fun c28 => ?_)
            · have kc28 := jle c28 t1 rfl
              refine lv_aload_n hx hb dX12_feed_70 rfl (lv_at hl 1 rfl) ?_
              refine va_get (D := D) hx hb hts inlX12 hown hK hP 55 (jc_55 cI cL ad σ15 τ) rfl 15 (of_decide_eq_true rfl) (hts _ kw_13_6) (fun _ h9 => h9) rfl dX12_feed_71 ?_
              exact by exact hret (σ15 55 15) σ15 τ _ _ _ _ rfl ⟨rfl, (fun i hi => (f22 i hi)), (fun i hi => (f23 i hi)), p24, Or.inr (Or.inr (⟨trivial, (by omega), (by omega), (by omega), (by omega), (by rw [show A1 = x14.toInt by omega]; exact q25)⟩))⟩ hP hS dX12_feed_74
            · have kc28 := jnle c28 t1 rfl
              refine lv_aload_n hx hb dX12_feed_35 rfl (lv_at hl 1 rfl) ?_
              refine va_get (D := D) hx hb hts inlX12 hown hK hP 55 (jc_55 cI cL ad σ15 τ) rfl 14 (of_decide_eq_true rfl) (hts _ kw_7_9) (fun _ h9 => h9) rfl dX12_feed_36 ?_
              refine lv_aload_n hx hb dX12_feed_39 rfl (lv_at hl 1 rfl) ?_
              refine va_get (D := D) hx hb hts inlX12 hown hK hP 55 (jc_55 cI cL ad σ15 τ) rfl 15 (of_decide_eq_true rfl) (hts _ kw_13_6) (fun _ h9 => h9) rfl dX12_feed_40 ?_
              refine lv_iload_n hx hb dX12_feed_43 rfl (lv_at hl 3 rfl) ?_
              refine lv_bipush (v := 8) hx hb dX12_feed_44 (of_decide_eq_true rfl) ?_
              refine lv_iload_n hx hb dX12_feed_46 rfl (lv_at hl 0 rfl) ?_
              have g29 := jrg (rfl : x14.toInt = x14.toInt)
              refine lv_imul hx hb dX12_feed_47 ?_
              refine lv_topi (fun x30 ex30 => ?_)
              exact by
               have tx30 : x30.toInt = 8 * x14.toInt := (jmul ex30 jz_8 rfl (by omega) (by omega)).trans (by omega)
               refine lv_ishr hx hb dX12_feed_48 ?_
               refine lv_topi (fun x31 ex31 => ?_)
               have gx31 := jrg (rfl : x31.toInt = x31.toInt)
               refine lv_sipush (v := 255) hx hb dX12_feed_49 (of_decide_eq_true rfl) ?_
               refine lv_iand hx hb dX12_feed_52 ?_
               refine lv_topi (fun x32 ex32 => ?_)
               have gx32 := jrg (rfl : x32.toInt = x32.toInt)
               have g33 : 0 ≤ x32.toInt ∧ x32.toInt ≤ 255 := jmask ex32 8 (of_decide_eq_true rfl) (of_decide_eq_true rfl)
               exact by
                refine jast hx hb hK hP hJ hA hS (jc_63 cI cL ad σ15 τ) (ja_63 cI cL ad σ15 τ _ _) (jin rfl (by omega) (by omega)) dX12_feed_53 (fun σ34 H locs eσ34 hP hS => ?_)
                refine lv_aload_n hx hb dX12_feed_54 rfl (lv_at hl 1 rfl) ?_
                refine lv_dup hx hb dX12_feed_55 rfl ?_
                refine va_get (D := D) hx hb hts inlX12 hown hK hP 55 (jc_55 cI cL ad σ34 τ) rfl 15 (of_decide_eq_true rfl) (hts _ kw_13_6) (fun _ h9 => h9) rfl dX12_feed_56 ?_
                have m35 : σ34 55 15 = (σ15 55 15) := (congrFun (jnp 55 eσ34 (of_decide_eq_true rfl)) 15)
                refine jtopr m35 ?_
                refine lv_iconst (v := 1) hx hb dX12_feed_59 (of_decide_eq_true rfl) ?_
                have g36 := jrg (rfl : (σ15 55 15).toInt = (σ15 55 15).toInt)
                refine lv_iadd hx hb dX12_feed_60 ?_
                refine lv_topi (fun x37 ex37 => ?_)
                exact by
                 have tx37 : x37.toInt = (σ15 55 15).toInt + 1 := (jadd ex37 rfl jz_1 (by omega) (by omega)).trans (by omega)
                 refine jput (ty := .int) hx hb hts inlX12 tyX12 tyX12_ok nmX12 hown hK hP hJ hA hS (jc_55 cI cL ad σ34 τ) rfl (k := 15) (of_decide_eq_true rfl) (Nat.le_of_ble_eq_true rfl) (jp_55_15 cI cL ad σ34 τ x37) (hts _ kw_13_6) (fun _ h9 => h9) rfl (by decide +kernel) rfl rfl dX12_feed_61 (fun σ38 H locs eσ38 hP hS => ?_)
                 obtain ⟨x39, ex39⟩ : ∃ y : Int32, y = x14 + 1 := ⟨_, rfl⟩
                 have tx39 : x39.toInt = x14.toInt + 1 := (jadd ex39 rfl jz_1 (by omega) (by omega)).trans (by omega)
                 refine lv_iinc (v := x39) (lv' := [(3, .int x39), (0, .ref (ad 55)), (1, .int a1), (2, .int a2)]) hx hb dX12_feed_64 hl (k := 0) rfl (by rw [ex39]; rfl) (of_decide_eq_true rfl) rfl (fun ls hl => ?_)
                 refine lv_goto (tgt := 30) hx hb dX12_feed_67 (of_decide_eq_true rfl) ?_
                 have z40 : (σ38 55 15).toInt = (σ15 55 15).toInt + 1 := ((congrArg Int32.toInt (show σ38 55 15 = x37 from (jsp eσ38))).trans tx37)
                 have w41 : ∀ k : Nat, k < 2 → (-1) ≤ (σ38 65 k).toInt ∧ (σ38 65 k).toInt ≤ 80 := (jrr_fr (jnp 65 eσ38 (of_decide_eq_true rfl)) (jrr_fr (jnp 65 eσ34 (of_decide_eq_true rfl)) w27))
                 have I42 : jI105 σ38 := ⟨(by omega), w41⟩
                 exact by exact ihlp12 x39 σ38 _ _ ls (by have h90 := tx39; omega) (by have h90 := tx39; omega) (by have h90 := tx39; omega) (by have h90 := tx39; omega) (by have h90 := tx39; omega) (fun i hi => ((jnp i eσ38 (imp_166 i hi)).trans ((jnp i eσ34 (imp_167 i hi)).trans (f22 i hi)))) (fun i hi => ((jkp i eσ38 (imp_168 i hi)).trans ((congrFun (jnp 55 eσ34 (of_decide_eq_true rfl)) i).trans (f23 i hi))))  I42 (jFd.step q25 (by rw [eσ38, jup_n (of_decide_eq_true rfl), eσ34, jup_row, jnc (rfl : (σ15 55 15).toInt = (σ15 55 15).toInt)]) (by omega) (by unfold jBr; rw [ex32, ex31, ex30]) (rfl : x14.toInt = x14.toInt) (by omega) (by omega) (by omega) (by have h9 := tx39; omega)) hP hS (lv_sub hl [0, 1, 2, 3] rfl)
       exact by exact lp12 1000000 0 σ _ _ ls (by have h90 := jz_0; omega) (by have h90 := jz_0; omega) (by have h90 := jz_0; omega) (by have h90 := jz_0; omega) (by have h90 := jz_0; omega) (fun _ _ => rfl) (fun _ _ => rfl)  hI105 (jFd.first (by have h9 := jz_0; omega)) hP hS hl
     · exact by
        have kc11 := jnle c11 tx10 jz_80
        refine lv_bipush (v := (-3)) hx hb dX12_feed_25 (of_decide_eq_true rfl) ?_
        exact by exact hret (-3) σ τ _ _ _ _ rfl ⟨rfl, (fun _ _ => rfl), (fun _ _ => rfl), hI105, Or.inr (Or.inl ⟨rfl, (by have h9 := jz_m3; omega), (by have h9 := jz_m3; omega), (by have h9 := jz_m3; omega), rfl⟩)⟩ hP hS dX12_feed_27
  · obtain ⟨q44, k43⟩ := h6
    have q44 := q44.symm
    subst q44
    refine lv_if_ne (tgt := 14) hx hb dX12_feed_9 (of_decide_eq_true rfl) (fun c => absurd (of_decide_eq_true rfl) c) (fun _ => ?_)
    refine lv_iconst (v := (-1)) hx hb dX12_feed_12 (of_decide_eq_true rfl) ?_
    exact by exact hret (-1) σ τ _ _ _ _ rfl ⟨rfl, (fun _ _ => rfl), (fun _ _ => rfl), hI105, Or.inl ⟨rfl, (by have h9 := jz_m1; omega), (by have h9 := jz_m1; omega), rfl⟩⟩ hP hS dX12_feed_13
set_option maxHeartbeats 4000000 in
set_option maxRecDepth 100000 in
theorem c_X12_byteAt (l : Launch) (D : va_G) (cI cL : ClassId) (ad zz : Nat → Nat) (hJ : jD ad) (σ : Nat → Nat → Int32) (τ : Nat → Nat → Int64) (hI121 : jI121 σ) : jM l yX12_byteAt cX12_byteAt 1 (some .int) ({ frames := 0, cells := 0, slots := 0, locals := 0 }) D cI cL ad zz [.ref (ad 55)] σ τ (fun r σ' τ' => (σ = σ' ∧ τ = τ') ∧ ((True ∧ ((r.toInt = 0) ∨ ((σ 55 19).toInt < (σ 55 20).toInt)) ∧ (jBy (jVw (σ 55 18).toInt (σ 63) (σ 64)) (σ 55 20).toInt (σ 55 19).toInt r.toInt)))) := by
  refine jM.of hJ (by decide +kernel) (nt := .int) rfl (Nat.le_of_ble_eq_true rfl) ?_
  intro p e s m args below meth c Q ls hC hret hl hP
  obtain ⟨hx, hb, hr, hml, hown, hts, hK, -, hlocks, hZ⟩ := hC
  have hown : s.vm.findClass RX12 = some m.cls := hown
  have hS : va_S (jA ad) s.heap s.heap [] := va_S.rf
  have hA : ∀ q, jA ad q → jA ad q := fun _ h => h
  have hl : lv_has ls 1 [(0, .ref (ad 55))] := hl
  obtain ⟨i1, i2, i3, i4, i5⟩ : ((-1) ≤ (σ 55 18).toInt ∧ (σ 55 18).toInt ≤ 80) ∧ (0 ≤ (σ 55 19).toInt) ∧ ((σ 55 19).toInt ≤ (σ 55 20).toInt) ∧ ((σ 55 20).toInt ≤ 80) ∧ ((-1) ≤ (σ 55 21).toInt ∧ (σ 55 21).toInt ≤ 80) := id hI121
  refine lv_aload_n hx hb dX12_byteAt_0 rfl (lv_at hl 0 rfl) ?_
  refine va_get (D := D) hx hb hts inlX12 hown hK hP 55 (jc_55 cI cL ad σ τ) rfl 19 (of_decide_eq_true rfl) (hts _ kw_15_11) (fun _ h9 => h9) rfl dX12_byteAt_1 ?_
  refine lv_aload_n hx hb dX12_byteAt_4 rfl (lv_at hl 0 rfl) ?_
  refine va_get (D := D) hx hb hts inlX12 hown hK hP 55 (jc_55 cI cL ad σ τ) rfl 20 (of_decide_eq_true rfl) (hts _ kw_15_12) (fun _ h9 => h9) rfl dX12_byteAt_5 ?_
  refine lv_icmp_ge (tgt := 47) hx hb dX12_byteAt_8 (of_decide_eq_true rfl) (fun c6 => ?_) (fun c6 => ?_)
  · have kc6 := jle c6 rfl rfl
    refine lv_iconst (v := 0) hx hb dX12_byteAt_47 (of_decide_eq_true rfl) ?_
    exact hret 0 σ τ _ _ _ _ rfl ⟨⟨rfl, rfl⟩, ⟨trivial, (by have h9 := jz_0; omega), (Or.inr ⟨by omega, jz_0⟩)⟩⟩ hP hS dX12_byteAt_48
  · have kc6 := jnle c6 rfl rfl
    refine lv_aload_n hx hb dX12_byteAt_11 rfl (lv_at hl 0 rfl) ?_
    refine va_get (D := D) hx hb hts inlX12 hown hK hP 55 (jc_55 cI cL ad σ τ) rfl 18 (of_decide_eq_true rfl) (hts _ kw_15_10) (fun _ h9 => h9) rfl dX12_byteAt_12 ?_
    refine lv_if_ge (tgt := 30) hx hb dX12_byteAt_15 (of_decide_eq_true rfl) (fun c7 => ?_) (fun c7 => ?_)
    · have kc7 := jle c7 jz_0 rfl
      refine lv_aload_n hx hb dX12_byteAt_30 rfl (lv_at hl 0 rfl) ?_
      refine va_get (D := D) hx hb hts inlX12 hown hK hP 55 (jc_55 cI cL ad σ τ) rfl 16 (of_decide_eq_true rfl) (hts _ kw_7_10) (fun _ h9 => h9) rfl dX12_byteAt_31 ?_
      refine lv_aload_n hx hb dX12_byteAt_34 rfl (lv_at hl 0 rfl) ?_
      refine va_get (D := D) hx hb hts inlX12 hown hK hP 55 (jc_55 cI cL ad σ τ) rfl 18 (of_decide_eq_true rfl) (hts _ kw_15_10) (fun _ h9 => h9) rfl dX12_byteAt_35 ?_
      refine lv_aload_n hx hb dX12_byteAt_38 rfl (lv_at hl 0 rfl) ?_
      refine va_get (D := D) hx hb hts inlX12 hown hK hP 55 (jc_55 cI cL ad σ τ) rfl 19 (of_decide_eq_true rfl) (hts _ kw_15_11) (fun _ h9 => h9) rfl dX12_byteAt_39 ?_
      have g8 := jrg (rfl : (σ 55 18).toInt = (σ 55 18).toInt)
      have g9 := jrg (rfl : (σ 55 19).toInt = (σ 55 19).toInt)
      refine lv_iadd hx hb dX12_byteAt_42 ?_
      refine lv_topi (fun x10 ex10 => ?_)
      exact by
       have tx10 : x10.toInt = (σ 55 18).toInt + (σ 55 19).toInt := (jadd ex10 rfl rfl (by omega) (by omega)).trans (by omega)
       refine jald hx hb hK hP (jc_64 cI cL ad σ τ) (jin tx10 (by omega) (by omega)) dX12_byteAt_43 ?_
       refine lv_topi (fun x11 ex11 => ?_)
       refine lv_goto (tgt := 48) hx hb dX12_byteAt_44 (of_decide_eq_true rfl) ?_
       exact by exact hret x11 σ τ _ _ _ _ rfl ⟨⟨rfl, rfl⟩, ⟨trivial, (by omega), (Or.inl ⟨by omega, (by rw [ex11, jnc (show x10.toInt = (σ 55 18).toInt + (σ 55 19).toInt by have h9 := tx10; omega), show ((σ 55 18).toInt + (σ 55 19).toInt).toNat = (σ 55 18).toInt.toNat + (σ 55 19).toInt.toNat by omega]; unfold jVw; rw [if_neg (by omega)])⟩)⟩⟩ hP hS dX12_byteAt_48
    · have kc7 := jnle c7 jz_0 rfl
      refine lv_aload_n hx hb dX12_byteAt_18 rfl (lv_at hl 0 rfl) ?_
      refine va_get (D := D) hx hb hts inlX12 hown hK hP 55 (jc_55 cI cL ad σ τ) rfl 14 (of_decide_eq_true rfl) (hts _ kw_7_9) (fun _ h9 => h9) rfl dX12_byteAt_19 ?_
      refine lv_aload_n hx hb dX12_byteAt_22 rfl (lv_at hl 0 rfl) ?_
      exact by
       refine va_get (D := D) hx hb hts inlX12 hown hK hP 55 (jc_55 cI cL ad σ τ) rfl 19 (of_decide_eq_true rfl) (hts _ kw_15_11) (fun _ h9 => h9) rfl dX12_byteAt_23 ?_
       refine jald hx hb hK hP (jc_63 cI cL ad σ τ) (jin rfl (by omega) (by omega)) dX12_byteAt_26 ?_
       refine lv_topi (fun x12 ex12 => ?_)
       refine lv_goto (tgt := 48) hx hb dX12_byteAt_27 (of_decide_eq_true rfl) ?_
       exact by exact hret x12 σ τ _ _ _ _ rfl ⟨⟨rfl, rfl⟩, ⟨trivial, (by omega), (Or.inl ⟨by omega, (by rw [ex12, jnc (rfl : (σ 55 19).toInt = (σ 55 19).toInt)]; unfold jVw; rw [if_pos (by omega)])⟩)⟩⟩ hP hS dX12_byteAt_48
set_option maxHeartbeats 4000000 in
set_option maxRecDepth 100000 in
theorem c_X12_byteAt_t (l : Launch) (D : va_G) (cI cL : ClassId) (ad zz : Nat → Nat) (hJ : jD ad) (σ : Nat → Nat → Int32) (τ : Nat → Nat → Int64) (hI121 : jI121 σ) (hp0 : (σ 55 18).toInt = (-1)) : jM l yX12_byteAt cX12_byteAt 1 (some .int) ({ frames := 0, cells := 0, slots := 0, locals := 0 }) D cI cL ad zz [.ref (ad 55)] σ τ (fun r σ' τ' => (σ = σ' ∧ τ = τ') ∧ ((r = (σ 63 (σ 55 19).toNatClampNeg) ∧ ((σ 55 19).toInt < (σ 55 20).toInt)) ∨ (r = 0 ∧ ((σ 55 20).toInt ≤ (σ 55 19).toInt)))) := by
  refine jM.of hJ (by decide +kernel) (nt := .int) rfl (Nat.le_of_ble_eq_true rfl) ?_
  intro p e s m args below meth c Q ls hC hret hl hP
  obtain ⟨hx, hb, hr, hml, hown, hts, hK, -, hlocks, hZ⟩ := hC
  have hown : s.vm.findClass RX12 = some m.cls := hown
  have hS : va_S (jA ad) s.heap s.heap [] := va_S.rf
  have hA : ∀ q, jA ad q → jA ad q := fun _ h => h
  have hl : lv_has ls 1 [(0, .ref (ad 55))] := hl
  obtain ⟨i1, i2, i3, i4, i5⟩ : ((-1) ≤ (σ 55 18).toInt ∧ (σ 55 18).toInt ≤ 80) ∧ (0 ≤ (σ 55 19).toInt) ∧ ((σ 55 19).toInt ≤ (σ 55 20).toInt) ∧ ((σ 55 20).toInt ≤ 80) ∧ ((-1) ≤ (σ 55 21).toInt ∧ (σ 55 21).toInt ≤ 80) := id hI121
  refine lv_aload_n hx hb dX12_byteAt_0 rfl (lv_at hl 0 rfl) ?_
  refine va_get (D := D) hx hb hts inlX12 hown hK hP 55 (jc_55 cI cL ad σ τ) rfl 19 (of_decide_eq_true rfl) (hts _ kw_15_11) (fun _ h9 => h9) rfl dX12_byteAt_1 ?_
  refine lv_aload_n hx hb dX12_byteAt_4 rfl (lv_at hl 0 rfl) ?_
  refine va_get (D := D) hx hb hts inlX12 hown hK hP 55 (jc_55 cI cL ad σ τ) rfl 20 (of_decide_eq_true rfl) (hts _ kw_15_12) (fun _ h9 => h9) rfl dX12_byteAt_5 ?_
  refine lv_icmp_ge (tgt := 47) hx hb dX12_byteAt_8 (of_decide_eq_true rfl) (fun c6 => ?_) (fun c6 => ?_)
  · have kc6 := jle c6 rfl rfl
    refine lv_iconst (v := 0) hx hb dX12_byteAt_47 (of_decide_eq_true rfl) ?_
    exact hret 0 σ τ _ _ _ _ rfl ⟨⟨rfl, rfl⟩, Or.inr (⟨rfl, (by have h9 := jz_0; omega)⟩)⟩ hP hS dX12_byteAt_48
  · have kc6 := jnle c6 rfl rfl
    refine lv_aload_n hx hb dX12_byteAt_11 rfl (lv_at hl 0 rfl) ?_
    refine va_get (D := D) hx hb hts inlX12 hown hK hP 55 (jc_55 cI cL ad σ τ) rfl 18 (of_decide_eq_true rfl) (hts _ kw_15_10) (fun _ h9 => h9) rfl dX12_byteAt_12 ?_
    exact by
     refine lv_if_ge (tgt := 30) hx hb dX12_byteAt_15 (of_decide_eq_true rfl) (fun c => absurd (jle c jz_0 rfl) (by omega)) (fun c7 => ?_)
     have kc7 := jnle c7 jz_0 rfl
     refine lv_aload_n hx hb dX12_byteAt_18 rfl (lv_at hl 0 rfl) ?_
     refine va_get (D := D) hx hb hts inlX12 hown hK hP 55 (jc_55 cI cL ad σ τ) rfl 14 (of_decide_eq_true rfl) (hts _ kw_7_9) (fun _ h9 => h9) rfl dX12_byteAt_19 ?_
     refine lv_aload_n hx hb dX12_byteAt_22 rfl (lv_at hl 0 rfl) ?_
     refine va_get (D := D) hx hb hts inlX12 hown hK hP 55 (jc_55 cI cL ad σ τ) rfl 19 (of_decide_eq_true rfl) (hts _ kw_15_11) (fun _ h9 => h9) rfl dX12_byteAt_23 ?_
     refine jald hx hb hK hP (jc_63 cI cL ad σ τ) (jin rfl (by omega) (by omega)) dX12_byteAt_26 ?_
     refine jtopr (y := (σ 63 (σ 55 19).toNatClampNeg)) rfl ?_
     refine lv_goto (tgt := 48) hx hb dX12_byteAt_27 (of_decide_eq_true rfl) ?_
     exact hret (σ 63 (σ 55 19).toNatClampNeg) σ τ _ _ _ _ rfl ⟨⟨rfl, rfl⟩, Or.inl ⟨rfl, (by omega)⟩⟩ hP hS dX12_byteAt_48
set_option maxHeartbeats 4000000 in
set_option maxRecDepth 100000 in
theorem c_X12_wrong (l : Launch) (D : va_G) (cI cL : ClassId) (ad zz : Nat → Nat) (hJ : jD ad) (σ : Nat → Nat → Int32) (τ : Nat → Nat → Int64) (hI121 : jI121 σ) : jM l yX12_wrong cX12_wrong 1 (some .int) ({ frames := 0, cells := 0, slots := 0, locals := 0 }) D cI cL ad zz [.ref (ad 55)] σ τ (fun r σ' τ' => τ = τ' ∧ (∀ i : Nat, (i < 55 ∨ 55 < i) → σ' i = σ i) ∧ (∀ k : Nat, (k < 21 ∨ 21 < k) → σ' 55 k = σ 55 k) ∧ (jI121 σ') ∧ (0 ≤ (σ' 55 21).toInt) ∧ (((σ 55 21).toInt = (-1) ∧ (σ' 55 21).toInt = (σ 55 19).toInt) ∨ (0 ≤ (σ 55 21).toInt ∧ (σ' 55 21).toInt = (σ 55 21).toInt)) ∧ ((r = 0 ∧ True))) := by
  refine jM.of hJ (by decide +kernel) (nt := .int) rfl (Nat.le_of_ble_eq_true rfl) ?_
  intro p e s m args below meth c Q ls hC hret hl hP
  obtain ⟨hx, hb, hr, hml, hown, hts, hK, -, hlocks, hZ⟩ := hC
  have hown : s.vm.findClass RX12 = some m.cls := hown
  have hS : va_S (jA ad) s.heap s.heap [] := va_S.rf
  have hA : ∀ q, jA ad q → jA ad q := fun _ h => h
  have hl : lv_has ls 1 [(0, .ref (ad 55))] := hl
  obtain ⟨i1, i2, i3, i4, i5⟩ : ((-1) ≤ (σ 55 18).toInt ∧ (σ 55 18).toInt ≤ 80) ∧ (0 ≤ (σ 55 19).toInt) ∧ ((σ 55 19).toInt ≤ (σ 55 20).toInt) ∧ ((σ 55 20).toInt ≤ 80) ∧ ((-1) ≤ (σ 55 21).toInt ∧ (σ 55 21).toInt ≤ 80) := id hI121
  refine lv_aload_n hx hb dX12_wrong_0 rfl (lv_at hl 0 rfl) ?_
  refine lv_aload_n hx hb dX12_wrong_1 rfl (lv_at hl 0 rfl) ?_
  refine va_get (D := D) hx hb hts inlX12 hown hK hP 55 (jc_55 cI cL ad σ τ) rfl 21 (of_decide_eq_true rfl) (hts _ kw_15_13) (fun _ h9 => h9) rfl dX12_wrong_2 ?_
  refine lv_if_ge (tgt := 15) hx hb dX12_wrong_5 (of_decide_eq_true rfl) (fun c6 => ?_) (fun c6 => ?_)
  · have kc6 := jle c6 jz_0 rfl
    refine lv_aload_n hx hb dX12_wrong_15 rfl (lv_at hl 0 rfl) ?_
    refine va_get (D := D) hx hb hts inlX12 hown hK hP 55 (jc_55 cI cL ad σ τ) rfl 21 (of_decide_eq_true rfl) (hts _ kw_15_13) (fun _ h9 => h9) rfl dX12_wrong_16 ?_
    refine jput (ty := .int) hx hb hts inlX12 tyX12 tyX12_ok nmX12 hown hK hP hJ hA hS (jc_55 cI cL ad σ τ) rfl (k := 21) (of_decide_eq_true rfl) (Nat.le_of_ble_eq_true rfl) (jp_55_21 cI cL ad σ τ (σ 55 21)) (hts _ kw_15_13) (fun _ h9 => h9) rfl (by decide +kernel) rfl rfl dX12_wrong_19 (fun σ7 H locs eσ7 hP hS => ?_)
    refine lv_iconst (v := 0) hx hb dX12_wrong_22 (of_decide_eq_true rfl) ?_
    have z8 : (σ7 55 18).toInt = (σ 55 18).toInt := (congrArg Int32.toInt (show σ7 55 18 = (σ 55 18) from (jkp 18 eσ7 (of_decide_eq_true rfl))))
    have z9 : (σ7 55 19).toInt = (σ 55 19).toInt := (congrArg Int32.toInt (show σ7 55 19 = (σ 55 19) from (jkp 19 eσ7 (of_decide_eq_true rfl))))
    have z10 : (σ7 55 20).toInt = (σ 55 20).toInt := (congrArg Int32.toInt (show σ7 55 20 = (σ 55 20) from (jkp 20 eσ7 (of_decide_eq_true rfl))))
    have z11 : (σ7 55 21).toInt = (σ 55 21).toInt := (congrArg Int32.toInt (show σ7 55 21 = (σ 55 21) from (jsp eσ7)))
    exact by
     have I12 : jI121 σ7 := ⟨(by omega), (by omega), (by omega), (by omega), (by omega)⟩
     exact by exact hret 0 σ7 τ _ _ _ _ rfl ⟨rfl, (fun i hi => (jnp i eσ7 (imp_165 i hi))), (fun i hi => (jkp i eσ7 (imp_33 i hi))), I12, (by omega), (by omega), ⟨rfl, trivial⟩⟩ hP hS dX12_wrong_23
  · have kc6 := jnle c6 jz_0 rfl
    refine lv_aload_n hx hb dX12_wrong_8 rfl (lv_at hl 0 rfl) ?_
    refine va_get (D := D) hx hb hts inlX12 hown hK hP 55 (jc_55 cI cL ad σ τ) rfl 19 (of_decide_eq_true rfl) (hts _ kw_15_11) (fun _ h9 => h9) rfl dX12_wrong_9 ?_
    refine lv_goto (tgt := 19) hx hb dX12_wrong_12 (of_decide_eq_true rfl) ?_
    refine jput (ty := .int) hx hb hts inlX12 tyX12 tyX12_ok nmX12 hown hK hP hJ hA hS (jc_55 cI cL ad σ τ) rfl (k := 21) (of_decide_eq_true rfl) (Nat.le_of_ble_eq_true rfl) (jp_55_21 cI cL ad σ τ (σ 55 19)) (hts _ kw_15_13) (fun _ h9 => h9) rfl (by decide +kernel) rfl rfl dX12_wrong_19 (fun σ13 H locs eσ13 hP hS => ?_)
    refine lv_iconst (v := 0) hx hb dX12_wrong_22 (of_decide_eq_true rfl) ?_
    have z14 : (σ13 55 18).toInt = (σ 55 18).toInt := (congrArg Int32.toInt (show σ13 55 18 = (σ 55 18) from (jkp 18 eσ13 (of_decide_eq_true rfl))))
    have z15 : (σ13 55 19).toInt = (σ 55 19).toInt := (congrArg Int32.toInt (show σ13 55 19 = (σ 55 19) from (jkp 19 eσ13 (of_decide_eq_true rfl))))
    have z16 : (σ13 55 20).toInt = (σ 55 20).toInt := (congrArg Int32.toInt (show σ13 55 20 = (σ 55 20) from (jkp 20 eσ13 (of_decide_eq_true rfl))))
    have z17 : (σ13 55 21).toInt = (σ 55 19).toInt := (congrArg Int32.toInt (show σ13 55 21 = (σ 55 19) from (jsp eσ13)))
    exact by
     have I18 : jI121 σ13 := ⟨(by omega), (by omega), (by omega), (by omega), (by omega)⟩
     exact by exact hret 0 σ13 τ _ _ _ _ rfl ⟨rfl, (fun i hi => (jnp i eσ13 (imp_165 i hi))), (fun i hi => (jkp i eσ13 (imp_33 i hi))), I18, (by omega), (by omega), ⟨rfl, trivial⟩⟩ hP hS dX12_wrong_23
set_option maxHeartbeats 4000000 in
set_option maxRecDepth 100000 in
theorem c_X12_takes (l : Launch) (D : va_G) (cI cL : ClassId) (ad zz : Nat → Nat) (hJ : jD ad) (σ : Nat → Nat → Int32) (τ : Nat → Nat → Int64) (a1 : Int32) (A1 : Int) (t1 : a1.toInt = A1) (hI121 : jI121 σ) (hp0 : 1 ≤ A1) : jM l yX12_takes cX12_takes 2 (some .boolean) ({ frames := 1, cells := 0, slots := 0, locals := 20 }) D cI cL ad zz [.ref (ad 55), .int a1] σ τ (fun r σ' τ' => τ = τ' ∧ (∀ i : Nat, (i < 55 ∨ 55 < i) → σ' i = σ i) ∧ (∀ k : Nat, (k < 19 ∨ 19 < k) → σ' 55 k = σ 55 k) ∧ (jI121 σ') ∧ ((r = 1 ∧ ((σ 55 21).toInt = (-1)) ∧ ((σ' 55 19).toInt = (σ 55 19).toInt + 1) ∧ (jYs (jVw (σ 55 18).toInt (σ 63) (σ 64)) (σ 55 20).toInt (σ 55 19).toInt = A1)) ∨ (r = 0 ∧ ((σ' 55 19).toInt = (σ 55 19).toInt) ∧ (((σ 55 21).toInt = -1 → jYs (jVw (σ 55 18).toInt (σ 63) (σ 64)) (σ 55 20).toInt (σ 55 19).toInt ≠ A1))))) := by
  refine jM.of hJ (by decide +kernel) (nt := .boolean) rfl (Nat.le_of_ble_eq_true rfl) ?_
  intro p e s m args below meth c Q ls hC hret hl hP
  obtain ⟨hx, hb, hr, hml, hown, hts, hK, -, hlocks, hZ⟩ := hC
  have hown : s.vm.findClass RX12 = some m.cls := hown
  have hS : va_S (jA ad) s.heap s.heap [] := va_S.rf
  have hA : ∀ q, jA ad q → jA ad q := fun _ h => h
  have hl : lv_has ls 2 [(0, .ref (ad 55)), (1, .int a1)] := hl
  have g1 := jrg t1
  obtain ⟨i1, i2, i3, i4, i5⟩ : ((-1) ≤ (σ 55 18).toInt ∧ (σ 55 18).toInt ≤ 80) ∧ (0 ≤ (σ 55 19).toInt) ∧ ((σ 55 19).toInt ≤ (σ 55 20).toInt) ∧ ((σ 55 20).toInt ≤ 80) ∧ ((-1) ≤ (σ 55 21).toInt ∧ (σ 55 21).toInt ≤ 80) := id hI121
  refine lv_aload_n hx hb dX12_takes_0 rfl (lv_at hl 0 rfl) ?_
  refine va_get (D := D) hx hb hts inlX12 hown hK hP 55 (jc_55 cI cL ad σ τ) rfl 21 (of_decide_eq_true rfl) (hts _ kw_15_13) (fun _ h9 => h9) rfl dX12_takes_1 ?_
  refine lv_if_ge (tgt := 15) hx hb dX12_takes_4 (of_decide_eq_true rfl) (fun c6 => ?_) (fun c6 => ?_)
  · have kc6 := jle c6 jz_0 rfl
    refine lv_iconst (v := 0) hx hb dX12_takes_15 (of_decide_eq_true rfl) ?_
    exact hret 0 σ τ _ _ _ _ rfl ⟨rfl, (fun _ _ => rfl), (fun _ _ => rfl), hI121, Or.inr (⟨rfl, (by have h9 := jz_0; omega), (fun h9 => by omega)⟩)⟩ hP hS dX12_takes_16
  · have kc6 := jnle c6 jz_0 rfl
    refine lv_aload_n hx hb dX12_takes_7 rfl (lv_at hl 0 rfl) ?_
    refine jcallV (As := []) (rest := []) ⟨hx, hb, hml, hown, hts⟩ hK hP hA hS hZ (c_X12_byteAt l D cI cL ad zz hJ σ τ hI121) cw_RX12_189 (jc_55 cI cL ad σ τ) rfl ⟨Nat.le_of_ble_eq_true rfl, Nat.le_of_ble_eq_true rfl⟩ rfl rfl rfl hl.1 rfl (Nat.le_of_ble_eq_true rfl) dX12_takes_8 ⟨Nat.zero_le _, Nat.zero_le _⟩ (fun r8 σ7 τ7 H locs h7 hP hS => ?_)
    obtain ⟨⟨rfl, rfl⟩, h7⟩ := h7
    have h9 := h7
    obtain ⟨q12, k10, k11⟩ := h9
    exact by
     have k13 := k11.ys (by omega)
     refine lv_iload_n hx hb dX12_takes_11 rfl (lv_at hl 1 rfl) ?_
     refine lv_icmp_eq (tgt := 17) hx hb dX12_takes_12 (of_decide_eq_true rfl) (fun c14 => ?_) (fun c14 => ?_)
     · have kc14 := jeq c14 rfl t1
       refine lv_aload_n hx hb dX12_takes_17 rfl (lv_at hl 0 rfl) ?_
       refine lv_dup hx hb dX12_takes_18 rfl ?_
       refine va_get (D := D) hx hb hts inlX12 hown hK hP 55 (jc_55 cI cL ad σ τ) rfl 19 (of_decide_eq_true rfl) (hts _ kw_15_11) (fun _ h9 => h9) rfl dX12_takes_19 ?_
       refine lv_iconst (v := 1) hx hb dX12_takes_22 (of_decide_eq_true rfl) ?_
       have g15 := jrg (rfl : (σ 55 19).toInt = (σ 55 19).toInt)
       refine lv_iadd hx hb dX12_takes_23 ?_
       refine lv_topi (fun x16 ex16 => ?_)
       exact by
        have tx16 : x16.toInt = (σ 55 19).toInt + 1 := (jadd ex16 rfl jz_1 (by omega) (by omega)).trans (by omega)
        refine jput (ty := .int) hx hb hts inlX12 tyX12 tyX12_ok nmX12 hown hK hP hJ hA hS (jc_55 cI cL ad σ τ) rfl (k := 19) (of_decide_eq_true rfl) (Nat.le_of_ble_eq_true rfl) (jp_55_19 cI cL ad σ τ x16) (hts _ kw_15_11) (fun _ h9 => h9) rfl (by decide +kernel) rfl rfl dX12_takes_24 (fun σ17 H locs eσ17 hP hS => ?_)
        refine lv_iconst (v := 1) hx hb dX12_takes_27 (of_decide_eq_true rfl) ?_
        have z18 : (σ17 55 18).toInt = (σ 55 18).toInt := (congrArg Int32.toInt (show σ17 55 18 = (σ 55 18) from (jkp 18 eσ17 (of_decide_eq_true rfl))))
        have z19 : (σ17 55 19).toInt = (σ 55 19).toInt + 1 := ((congrArg Int32.toInt (show σ17 55 19 = x16 from (jsp eσ17))).trans tx16)
        have z20 : (σ17 55 20).toInt = (σ 55 20).toInt := (congrArg Int32.toInt (show σ17 55 20 = (σ 55 20) from (jkp 20 eσ17 (of_decide_eq_true rfl))))
        have z21 : (σ17 55 21).toInt = (σ 55 21).toInt := (congrArg Int32.toInt (show σ17 55 21 = (σ 55 21) from (jkp 21 eσ17 (of_decide_eq_true rfl))))
        have I22 : jI121 σ17 := ⟨(by omega), (by omega), (by omega), (by omega), (by omega)⟩
        exact by exact hret 1 σ17 τ _ _ _ _ rfl ⟨rfl, (fun i hi => (jnp i eσ17 (imp_165 i hi))), (fun i hi => (jkp i eσ17 (imp_169 i hi))), I22, Or.inl ⟨rfl, (by have h9 := jz_1; omega), (by have h9 := jz_1; omega), (by omega)⟩⟩ hP hS dX12_takes_28
     · exact by
        have kc14 := jne c14 rfl t1
        refine lv_iconst (v := 0) hx hb dX12_takes_15 (of_decide_eq_true rfl) ?_
        exact hret 0 σ τ _ _ _ _ rfl ⟨rfl, (fun _ _ => rfl), (fun _ _ => rfl), hI121, Or.inr (⟨rfl, (by have h9 := jz_0; omega), (fun h9 => by omega)⟩)⟩ hP hS dX12_takes_16
set_option maxHeartbeats 4000000 in
set_option maxRecDepth 100000 in
theorem c_X12_takes_t (l : Launch) (D : va_G) (cI cL : ClassId) (ad zz : Nat → Nat) (hJ : jD ad) (σ : Nat → Nat → Int32) (τ : Nat → Nat → Int64) (a1 : Int32) (A1 : Int) (t1 : a1.toInt = A1) (hI121 : jI121 σ) (hp0 : 1 ≤ A1) (hp1 : (σ 55 18).toInt = (-1)) : jM l yX12_takes cX12_takes 2 (some .boolean) ({ frames := 1, cells := 0, slots := 0, locals := 20 }) D cI cL ad zz [.ref (ad 55), .int a1] σ τ (fun r σ' τ' => τ = τ' ∧ (∀ i : Nat, (i < 55 ∨ 55 < i) → σ' i = σ i) ∧ (∀ k : Nat, (k < 19 ∨ 19 < k) → σ' 55 k = σ 55 k) ∧ (jI121 σ') ∧ ((r = 1 ∧ ((σ 55 21).toInt = (-1)) ∧ ((σ' 55 19).toInt = (σ 55 19).toInt + 1) ∧ (jIs (σ 63) ((σ 55 20).toInt) ((σ 55 19).toInt) (A1))) ∨ (r = 0 ∧ ((σ' 55 19).toInt = (σ 55 19).toInt) ∧ (((σ 55 21).toInt = -1 → ¬ jIs (σ 63) ((σ 55 20).toInt) ((σ 55 19).toInt) (A1)))))) := by
  refine jM.of hJ (by decide +kernel) (nt := .boolean) rfl (Nat.le_of_ble_eq_true rfl) ?_
  intro p e s m args below meth c Q ls hC hret hl hP
  obtain ⟨hx, hb, hr, hml, hown, hts, hK, -, hlocks, hZ⟩ := hC
  have hown : s.vm.findClass RX12 = some m.cls := hown
  have hS : va_S (jA ad) s.heap s.heap [] := va_S.rf
  have hA : ∀ q, jA ad q → jA ad q := fun _ h => h
  have hl : lv_has ls 2 [(0, .ref (ad 55)), (1, .int a1)] := hl
  have g1 := jrg t1
  obtain ⟨i1, i2, i3, i4, i5⟩ : ((-1) ≤ (σ 55 18).toInt ∧ (σ 55 18).toInt ≤ 80) ∧ (0 ≤ (σ 55 19).toInt) ∧ ((σ 55 19).toInt ≤ (σ 55 20).toInt) ∧ ((σ 55 20).toInt ≤ 80) ∧ ((-1) ≤ (σ 55 21).toInt ∧ (σ 55 21).toInt ≤ 80) := id hI121
  refine lv_aload_n hx hb dX12_takes_0 rfl (lv_at hl 0 rfl) ?_
  refine va_get (D := D) hx hb hts inlX12 hown hK hP 55 (jc_55 cI cL ad σ τ) rfl 21 (of_decide_eq_true rfl) (hts _ kw_15_13) (fun _ h9 => h9) rfl dX12_takes_1 ?_
  refine lv_if_ge (tgt := 15) hx hb dX12_takes_4 (of_decide_eq_true rfl) (fun c6 => ?_) (fun c6 => ?_)
  · have kc6 := jle c6 jz_0 rfl
    refine lv_iconst (v := 0) hx hb dX12_takes_15 (of_decide_eq_true rfl) ?_
    exact hret 0 σ τ _ _ _ _ rfl ⟨rfl, (fun _ _ => rfl), (fun _ _ => rfl), hI121, Or.inr (⟨rfl, (by have h9 := jz_0; omega), (fun h => by unfold jIs; omega)⟩)⟩ hP hS dX12_takes_16
  · have kc6 := jnle c6 jz_0 rfl
    refine lv_aload_n hx hb dX12_takes_7 rfl (lv_at hl 0 rfl) ?_
    exact by
     refine jcallV (As := []) (rest := []) ⟨hx, hb, hml, hown, hts⟩ hK hP hA hS hZ (c_X12_byteAt_t l D cI cL ad zz hJ σ τ hI121 (by omega)) cw_RX12_189 (jc_55 cI cL ad σ τ) rfl ⟨Nat.le_of_ble_eq_true rfl, Nat.le_of_ble_eq_true rfl⟩ rfl rfl rfl hl.1 rfl (Nat.le_of_ble_eq_true rfl) dX12_takes_8 ⟨Nat.zero_le _, Nat.zero_le _⟩ (fun r8 σ7 τ7 H locs h7 hP hS => ?_)
     obtain ⟨⟨rfl, rfl⟩, h7⟩ := h7
     rcases h7 with h9 | h10
     · obtain ⟨q12, k11⟩ := h9
       have q13 : r8 = (σ 63 (σ 55 19).toNatClampNeg) := q12.trans rfl
       have q13 := q13.symm
       subst q13
       refine lv_iload_n hx hb dX12_takes_11 rfl (lv_at hl 1 rfl) ?_
       refine lv_icmp_eq (tgt := 17) hx hb dX12_takes_12 (of_decide_eq_true rfl) (fun c14 => ?_) (fun c14 => ?_)
       · have kc14 := jeq c14 rfl t1
         refine lv_aload_n hx hb dX12_takes_17 rfl (lv_at hl 0 rfl) ?_
         refine lv_dup hx hb dX12_takes_18 rfl ?_
         refine va_get (D := D) hx hb hts inlX12 hown hK hP 55 (jc_55 cI cL ad σ τ) rfl 19 (of_decide_eq_true rfl) (hts _ kw_15_11) (fun _ h9 => h9) rfl dX12_takes_19 ?_
         refine lv_iconst (v := 1) hx hb dX12_takes_22 (of_decide_eq_true rfl) ?_
         have g15 := jrg (rfl : (σ 55 19).toInt = (σ 55 19).toInt)
         refine lv_iadd hx hb dX12_takes_23 ?_
         refine lv_topi (fun x16 ex16 => ?_)
         exact by
          have tx16 : x16.toInt = (σ 55 19).toInt + 1 := (jadd ex16 rfl jz_1 (by omega) (by omega)).trans (by omega)
          refine jput (ty := .int) hx hb hts inlX12 tyX12 tyX12_ok nmX12 hown hK hP hJ hA hS (jc_55 cI cL ad σ τ) rfl (k := 19) (of_decide_eq_true rfl) (Nat.le_of_ble_eq_true rfl) (jp_55_19 cI cL ad σ τ x16) (hts _ kw_15_11) (fun _ h9 => h9) rfl (by decide +kernel) rfl rfl dX12_takes_24 (fun σ17 H locs eσ17 hP hS => ?_)
          refine lv_iconst (v := 1) hx hb dX12_takes_27 (of_decide_eq_true rfl) ?_
          have z18 : (σ17 55 18).toInt = (σ 55 18).toInt := (congrArg Int32.toInt (show σ17 55 18 = (σ 55 18) from (jkp 18 eσ17 (of_decide_eq_true rfl))))
          have z19 : (σ17 55 19).toInt = (σ 55 19).toInt + 1 := ((congrArg Int32.toInt (show σ17 55 19 = x16 from (jsp eσ17))).trans tx16)
          have z20 : (σ17 55 20).toInt = (σ 55 20).toInt := (congrArg Int32.toInt (show σ17 55 20 = (σ 55 20) from (jkp 20 eσ17 (of_decide_eq_true rfl))))
          have z21 : (σ17 55 21).toInt = (σ 55 21).toInt := (congrArg Int32.toInt (show σ17 55 21 = (σ 55 21) from (jkp 21 eσ17 (of_decide_eq_true rfl))))
          have I22 : jI121 σ17 := ⟨(by omega), (by omega), (by omega), (by omega), (by omega)⟩
          exact by exact hret 1 σ17 τ _ _ _ _ rfl ⟨rfl, (fun i hi => (jnp i eσ17 (imp_165 i hi))), (fun i hi => (jkp i eσ17 (imp_169 i hi))), I22, Or.inl ⟨rfl, (by have h9 := jz_1; omega), (by have h9 := jz_1; omega), (by have i0 := jix (f := σ 63) (show (σ 55 19).toInt = (σ 55 19).toInt by omega); unfold jIs; omega)⟩⟩ hP hS dX12_takes_28
       · exact by
          have kc14 := jne c14 rfl t1
          refine lv_iconst (v := 0) hx hb dX12_takes_15 (of_decide_eq_true rfl) ?_
          exact hret 0 σ τ _ _ _ _ rfl ⟨rfl, (fun _ _ => rfl), (fun _ _ => rfl), hI121, Or.inr (⟨rfl, (by have h9 := jz_0; omega), (fun h => by have i0 := jix (f := σ 63) (show (σ 55 19).toInt = (σ 55 19).toInt by omega); unfold jIs; omega)⟩)⟩ hP hS dX12_takes_16
     · obtain ⟨q24, k23⟩ := h10
       have q24 := q24.symm
       subst q24
       refine lv_iload_n hx hb dX12_takes_11 rfl (lv_at hl 1 rfl) ?_
       refine lv_icmp_eq (tgt := 17) hx hb dX12_takes_12 (of_decide_eq_true rfl) (fun c => absurd (jeq c jz_0 t1) (by omega)) (fun c25 => ?_)
       have kc25 := jne c25 jz_0 t1
       exact by
        refine lv_iconst (v := 0) hx hb dX12_takes_15 (of_decide_eq_true rfl) ?_
        exact hret 0 σ τ _ _ _ _ rfl ⟨rfl, (fun _ _ => rfl), (fun _ _ => rfl), hI121, Or.inr (⟨rfl, (by have h9 := jz_0; omega), (fun h => by unfold jIs; omega)⟩)⟩ hP hS dX12_takes_16
set_option maxHeartbeats 4000000 in
set_option maxRecDepth 100000 in
theorem c_X12_nameOf (l : Launch) (D : va_G) (cI cL : ClassId) (ad zz : Nat → Nat) (hJ : jD ad) (σ : Nat → Nat → Int32) (τ : Nat → Nat → Int64) (a1 : Int32) (A1 : Int) (t1 : a1.toInt = A1) : jM l yX12_nameOf cX12_nameOf 1 (some .int) ({ frames := 0, cells := 0, slots := 0, locals := 0 }) D cI cL ad zz [.int a1] σ τ (fun r σ' τ' => (σ = σ' ∧ τ = τ') ∧ ((True ∧ (0 ≤ r.toInt ∧ r.toInt ≤ 7) ∧ (1 ≤ A1) ∧ (r.toInt = jNm (A1))) ∨ (r = (-1) ∧ (r.toInt = jNm (A1))))) := by
  refine jM.of hJ (by decide +kernel) (nt := .int) rfl (Nat.le_of_ble_eq_true rfl) ?_
  intro p e s m args below meth c Q ls hC hret hl hP
  obtain ⟨hx, hb, hr, hml, hown, hts, hK, -, hlocks, hZ⟩ := hC
  have hown : s.vm.findClass RX12 = some m.cls := hown
  have hS : va_S (jA ad) s.heap s.heap [] := va_S.rf
  have hA : ∀ q, jA ad q → jA ad q := fun _ h => h
  have hl : lv_has ls 1 [(0, .int a1)] := hl
  have g1 := jrg t1
  refine lv_iload_n hx hb dX12_nameOf_0 rfl (lv_at hl 0 rfl) ?_
  by_cases c1 : a1 = 98
  · have kc1 := jeq c1 t1 jz_98
    refine jtopr c1 ?_
    refine lv_tableIn (off := 109) (tgt := 110) hx hb dX12_nameOf_1 (of_decide_eq_true rfl) (of_decide_eq_true rfl) (of_decide_eq_true rfl) (of_decide_eq_true rfl) ?_
    refine lv_iconst (v := 3) hx hb dX12_nameOf_110 (of_decide_eq_true rfl) ?_
    exact by exact hret 3 σ τ _ _ _ _ rfl ⟨⟨rfl, rfl⟩, Or.inl ⟨trivial, (by have h9 := jz_3; omega), (by have h9 := jz_3; omega), (by have h9 := jz_3; unfold jNm; first | ((repeat (first | rw [if_pos (by omega)] | rw [if_neg (by omega)])) <;> omega) | ((repeat' split) <;> omega))⟩⟩ hP hS dX12_nameOf_111
  have kc1 := jne c1 t1 jz_98
  by_cases c2 : a1 = 99
  · have kc2 := jeq c2 t1 jz_99
    refine jtopr c2 ?_
    refine lv_tableIn (off := 121) (tgt := 122) hx hb dX12_nameOf_1 (of_decide_eq_true rfl) (of_decide_eq_true rfl) (of_decide_eq_true rfl) (of_decide_eq_true rfl) ?_
    refine lv_iconst (v := (-1)) hx hb dX12_nameOf_122 (of_decide_eq_true rfl) ?_
    exact hret (-1) σ τ _ _ _ _ rfl ⟨⟨rfl, rfl⟩, Or.inr (⟨rfl, (by have h9 := jz_m1; unfold jNm; first | ((repeat (first | rw [if_pos (by omega)] | rw [if_neg (by omega)])) <;> omega) | ((repeat' split) <;> omega))⟩)⟩ hP hS dX12_nameOf_123
  have kc2 := jne c2 t1 jz_99
  by_cases c3 : a1 = 100
  · have kc3 := jeq c3 t1 jz_100
    refine jtopr c3 ?_
    refine lv_tableIn (off := 121) (tgt := 122) hx hb dX12_nameOf_1 (of_decide_eq_true rfl) (of_decide_eq_true rfl) (of_decide_eq_true rfl) (of_decide_eq_true rfl) ?_
    refine lv_iconst (v := (-1)) hx hb dX12_nameOf_122 (of_decide_eq_true rfl) ?_
    exact hret (-1) σ τ _ _ _ _ rfl ⟨⟨rfl, rfl⟩, Or.inr (⟨rfl, (by have h9 := jz_m1; unfold jNm; first | ((repeat (first | rw [if_pos (by omega)] | rw [if_neg (by omega)])) <;> omega) | ((repeat' split) <;> omega))⟩)⟩ hP hS dX12_nameOf_123
  have kc3 := jne c3 t1 jz_100
  by_cases c4 : a1 = 101
  · have kc4 := jeq c4 t1 jz_101
    refine jtopr c4 ?_
    refine lv_tableIn (off := 121) (tgt := 122) hx hb dX12_nameOf_1 (of_decide_eq_true rfl) (of_decide_eq_true rfl) (of_decide_eq_true rfl) (of_decide_eq_true rfl) ?_
    refine lv_iconst (v := (-1)) hx hb dX12_nameOf_122 (of_decide_eq_true rfl) ?_
    exact hret (-1) σ τ _ _ _ _ rfl ⟨⟨rfl, rfl⟩, Or.inr (⟨rfl, (by have h9 := jz_m1; unfold jNm; first | ((repeat (first | rw [if_pos (by omega)] | rw [if_neg (by omega)])) <;> omega) | ((repeat' split) <;> omega))⟩)⟩ hP hS dX12_nameOf_123
  have kc4 := jne c4 t1 jz_101
  by_cases c5 : a1 = 102
  · have kc5 := jeq c5 t1 jz_102
    refine jtopr c5 ?_
    refine lv_tableIn (off := 121) (tgt := 122) hx hb dX12_nameOf_1 (of_decide_eq_true rfl) (of_decide_eq_true rfl) (of_decide_eq_true rfl) (of_decide_eq_true rfl) ?_
    refine lv_iconst (v := (-1)) hx hb dX12_nameOf_122 (of_decide_eq_true rfl) ?_
    exact hret (-1) σ τ _ _ _ _ rfl ⟨⟨rfl, rfl⟩, Or.inr (⟨rfl, (by have h9 := jz_m1; unfold jNm; first | ((repeat (first | rw [if_pos (by omega)] | rw [if_neg (by omega)])) <;> omega) | ((repeat' split) <;> omega))⟩)⟩ hP hS dX12_nameOf_123
  have kc5 := jne c5 t1 jz_102
  by_cases c6 : a1 = 103
  · have kc6 := jeq c6 t1 jz_103
    refine jtopr c6 ?_
    refine lv_tableIn (off := 121) (tgt := 122) hx hb dX12_nameOf_1 (of_decide_eq_true rfl) (of_decide_eq_true rfl) (of_decide_eq_true rfl) (of_decide_eq_true rfl) ?_
    refine lv_iconst (v := (-1)) hx hb dX12_nameOf_122 (of_decide_eq_true rfl) ?_
    exact hret (-1) σ τ _ _ _ _ rfl ⟨⟨rfl, rfl⟩, Or.inr (⟨rfl, (by have h9 := jz_m1; unfold jNm; first | ((repeat (first | rw [if_pos (by omega)] | rw [if_neg (by omega)])) <;> omega) | ((repeat' split) <;> omega))⟩)⟩ hP hS dX12_nameOf_123
  have kc6 := jne c6 t1 jz_103
  by_cases c7 : a1 = 104
  · have kc7 := jeq c7 t1 jz_104
    refine jtopr c7 ?_
    refine lv_tableIn (off := 121) (tgt := 122) hx hb dX12_nameOf_1 (of_decide_eq_true rfl) (of_decide_eq_true rfl) (of_decide_eq_true rfl) (of_decide_eq_true rfl) ?_
    refine lv_iconst (v := (-1)) hx hb dX12_nameOf_122 (of_decide_eq_true rfl) ?_
    exact hret (-1) σ τ _ _ _ _ rfl ⟨⟨rfl, rfl⟩, Or.inr (⟨rfl, (by have h9 := jz_m1; unfold jNm; first | ((repeat (first | rw [if_pos (by omega)] | rw [if_neg (by omega)])) <;> omega) | ((repeat' split) <;> omega))⟩)⟩ hP hS dX12_nameOf_123
  have kc7 := jne c7 t1 jz_104
  by_cases c8 : a1 = 105
  · have kc8 := jeq c8 t1 jz_105
    refine jtopr c8 ?_
    refine lv_tableIn (off := 121) (tgt := 122) hx hb dX12_nameOf_1 (of_decide_eq_true rfl) (of_decide_eq_true rfl) (of_decide_eq_true rfl) (of_decide_eq_true rfl) ?_
    refine lv_iconst (v := (-1)) hx hb dX12_nameOf_122 (of_decide_eq_true rfl) ?_
    exact hret (-1) σ τ _ _ _ _ rfl ⟨⟨rfl, rfl⟩, Or.inr (⟨rfl, (by have h9 := jz_m1; unfold jNm; first | ((repeat (first | rw [if_pos (by omega)] | rw [if_neg (by omega)])) <;> omega) | ((repeat' split) <;> omega))⟩)⟩ hP hS dX12_nameOf_123
  have kc8 := jne c8 t1 jz_105
  by_cases c9 : a1 = 106
  · have kc9 := jeq c9 t1 jz_106
    refine jtopr c9 ?_
    refine lv_tableIn (off := 121) (tgt := 122) hx hb dX12_nameOf_1 (of_decide_eq_true rfl) (of_decide_eq_true rfl) (of_decide_eq_true rfl) (of_decide_eq_true rfl) ?_
    refine lv_iconst (v := (-1)) hx hb dX12_nameOf_122 (of_decide_eq_true rfl) ?_
    exact hret (-1) σ τ _ _ _ _ rfl ⟨⟨rfl, rfl⟩, Or.inr (⟨rfl, (by have h9 := jz_m1; unfold jNm; first | ((repeat (first | rw [if_pos (by omega)] | rw [if_neg (by omega)])) <;> omega) | ((repeat' split) <;> omega))⟩)⟩ hP hS dX12_nameOf_123
  have kc9 := jne c9 t1 jz_106
  by_cases c10 : a1 = 107
  · have kc10 := jeq c10 t1 jz_107
    refine jtopr c10 ?_
    refine lv_tableIn (off := 118) (tgt := 119) hx hb dX12_nameOf_1 (of_decide_eq_true rfl) (of_decide_eq_true rfl) (of_decide_eq_true rfl) (of_decide_eq_true rfl) ?_
    refine lv_bipush (v := 7) hx hb dX12_nameOf_119 (of_decide_eq_true rfl) ?_
    exact by exact hret 7 σ τ _ _ _ _ rfl ⟨⟨rfl, rfl⟩, Or.inl ⟨trivial, (by have h9 := jz_7; omega), (by have h9 := jz_7; omega), (by have h9 := jz_7; unfold jNm; first | ((repeat (first | rw [if_pos (by omega)] | rw [if_neg (by omega)])) <;> omega) | ((repeat' split) <;> omega))⟩⟩ hP hS dX12_nameOf_121
  have kc10 := jne c10 t1 jz_107
  by_cases c11 : a1 = 108
  · have kc11 := jeq c11 t1 jz_108
    refine jtopr c11 ?_
    refine lv_tableIn (off := 113) (tgt := 114) hx hb dX12_nameOf_1 (of_decide_eq_true rfl) (of_decide_eq_true rfl) (of_decide_eq_true rfl) (of_decide_eq_true rfl) ?_
    refine lv_iconst (v := 5) hx hb dX12_nameOf_114 (of_decide_eq_true rfl) ?_
    exact by exact hret 5 σ τ _ _ _ _ rfl ⟨⟨rfl, rfl⟩, Or.inl ⟨trivial, (by have h9 := jz_5; omega), (by have h9 := jz_5; omega), (by have h9 := jz_5; unfold jNm; first | ((repeat (first | rw [if_pos (by omega)] | rw [if_neg (by omega)])) <;> omega) | ((repeat' split) <;> omega))⟩⟩ hP hS dX12_nameOf_115
  have kc11 := jne c11 t1 jz_108
  by_cases c12 : a1 = 109
  · have kc12 := jeq c12 t1 jz_109
    refine jtopr c12 ?_
    refine lv_tableIn (off := 121) (tgt := 122) hx hb dX12_nameOf_1 (of_decide_eq_true rfl) (of_decide_eq_true rfl) (of_decide_eq_true rfl) (of_decide_eq_true rfl) ?_
    refine lv_iconst (v := (-1)) hx hb dX12_nameOf_122 (of_decide_eq_true rfl) ?_
    exact hret (-1) σ τ _ _ _ _ rfl ⟨⟨rfl, rfl⟩, Or.inr (⟨rfl, (by have h9 := jz_m1; unfold jNm; first | ((repeat (first | rw [if_pos (by omega)] | rw [if_neg (by omega)])) <;> omega) | ((repeat' split) <;> omega))⟩)⟩ hP hS dX12_nameOf_123
  have kc12 := jne c12 t1 jz_109
  by_cases c13 : a1 = 110
  · have kc13 := jeq c13 t1 jz_110
    refine jtopr c13 ?_
    refine lv_tableIn (off := 121) (tgt := 122) hx hb dX12_nameOf_1 (of_decide_eq_true rfl) (of_decide_eq_true rfl) (of_decide_eq_true rfl) (of_decide_eq_true rfl) ?_
    refine lv_iconst (v := (-1)) hx hb dX12_nameOf_122 (of_decide_eq_true rfl) ?_
    exact hret (-1) σ τ _ _ _ _ rfl ⟨⟨rfl, rfl⟩, Or.inr (⟨rfl, (by have h9 := jz_m1; unfold jNm; first | ((repeat (first | rw [if_pos (by omega)] | rw [if_neg (by omega)])) <;> omega) | ((repeat' split) <;> omega))⟩)⟩ hP hS dX12_nameOf_123
  have kc13 := jne c13 t1 jz_110
  by_cases c14 : a1 = 111
  · have kc14 := jeq c14 t1 jz_111
    refine jtopr c14 ?_
    refine lv_tableIn (off := 103) (tgt := 104) hx hb dX12_nameOf_1 (of_decide_eq_true rfl) (of_decide_eq_true rfl) (of_decide_eq_true rfl) (of_decide_eq_true rfl) ?_
    refine lv_iconst (v := 0) hx hb dX12_nameOf_104 (of_decide_eq_true rfl) ?_
    exact by exact hret 0 σ τ _ _ _ _ rfl ⟨⟨rfl, rfl⟩, Or.inl ⟨trivial, (by have h9 := jz_0; omega), (by have h9 := jz_0; omega), (by have h9 := jz_0; unfold jNm; first | ((repeat (first | rw [if_pos (by omega)] | rw [if_neg (by omega)])) <;> omega) | ((repeat' split) <;> omega))⟩⟩ hP hS dX12_nameOf_105
  have kc14 := jne c14 t1 jz_111
  by_cases c15 : a1 = 112
  · have kc15 := jeq c15 t1 jz_112
    refine jtopr c15 ?_
    refine lv_tableIn (off := 115) (tgt := 116) hx hb dX12_nameOf_1 (of_decide_eq_true rfl) (of_decide_eq_true rfl) (of_decide_eq_true rfl) (of_decide_eq_true rfl) ?_
    refine lv_bipush (v := 6) hx hb dX12_nameOf_116 (of_decide_eq_true rfl) ?_
    exact by exact hret 6 σ τ _ _ _ _ rfl ⟨⟨rfl, rfl⟩, Or.inl ⟨trivial, (by have h9 := jz_6; omega), (by have h9 := jz_6; omega), (by have h9 := jz_6; unfold jNm; first | ((repeat (first | rw [if_pos (by omega)] | rw [if_neg (by omega)])) <;> omega) | ((repeat' split) <;> omega))⟩⟩ hP hS dX12_nameOf_118
  have kc15 := jne c15 t1 jz_112
  by_cases c16 : a1 = 113
  · have kc16 := jeq c16 t1 jz_113
    refine jtopr c16 ?_
    refine lv_tableIn (off := 121) (tgt := 122) hx hb dX12_nameOf_1 (of_decide_eq_true rfl) (of_decide_eq_true rfl) (of_decide_eq_true rfl) (of_decide_eq_true rfl) ?_
    refine lv_iconst (v := (-1)) hx hb dX12_nameOf_122 (of_decide_eq_true rfl) ?_
    exact hret (-1) σ τ _ _ _ _ rfl ⟨⟨rfl, rfl⟩, Or.inr (⟨rfl, (by have h9 := jz_m1; unfold jNm; first | ((repeat (first | rw [if_pos (by omega)] | rw [if_neg (by omega)])) <;> omega) | ((repeat' split) <;> omega))⟩)⟩ hP hS dX12_nameOf_123
  have kc16 := jne c16 t1 jz_113
  by_cases c17 : a1 = 114
  · have kc17 := jeq c17 t1 jz_114
    refine jtopr c17 ?_
    refine lv_tableIn (off := 121) (tgt := 122) hx hb dX12_nameOf_1 (of_decide_eq_true rfl) (of_decide_eq_true rfl) (of_decide_eq_true rfl) (of_decide_eq_true rfl) ?_
    refine lv_iconst (v := (-1)) hx hb dX12_nameOf_122 (of_decide_eq_true rfl) ?_
    exact hret (-1) σ τ _ _ _ _ rfl ⟨⟨rfl, rfl⟩, Or.inr (⟨rfl, (by have h9 := jz_m1; unfold jNm; first | ((repeat (first | rw [if_pos (by omega)] | rw [if_neg (by omega)])) <;> omega) | ((repeat' split) <;> omega))⟩)⟩ hP hS dX12_nameOf_123
  have kc17 := jne c17 t1 jz_114
  by_cases c18 : a1 = 115
  · have kc18 := jeq c18 t1 jz_115
    refine jtopr c18 ?_
    refine lv_tableIn (off := 107) (tgt := 108) hx hb dX12_nameOf_1 (of_decide_eq_true rfl) (of_decide_eq_true rfl) (of_decide_eq_true rfl) (of_decide_eq_true rfl) ?_
    refine lv_iconst (v := 2) hx hb dX12_nameOf_108 (of_decide_eq_true rfl) ?_
    exact by exact hret 2 σ τ _ _ _ _ rfl ⟨⟨rfl, rfl⟩, Or.inl ⟨trivial, (by have h9 := jz_2; omega), (by have h9 := jz_2; omega), (by have h9 := jz_2; unfold jNm; first | ((repeat (first | rw [if_pos (by omega)] | rw [if_neg (by omega)])) <;> omega) | ((repeat' split) <;> omega))⟩⟩ hP hS dX12_nameOf_109
  have kc18 := jne c18 t1 jz_115
  by_cases c19 : a1 = 116
  · have kc19 := jeq c19 t1 jz_116
    refine jtopr c19 ?_
    refine lv_tableIn (off := 111) (tgt := 112) hx hb dX12_nameOf_1 (of_decide_eq_true rfl) (of_decide_eq_true rfl) (of_decide_eq_true rfl) (of_decide_eq_true rfl) ?_
    refine lv_iconst (v := 4) hx hb dX12_nameOf_112 (of_decide_eq_true rfl) ?_
    exact by exact hret 4 σ τ _ _ _ _ rfl ⟨⟨rfl, rfl⟩, Or.inl ⟨trivial, (by have h9 := jz_4; omega), (by have h9 := jz_4; omega), (by have h9 := jz_4; unfold jNm; first | ((repeat (first | rw [if_pos (by omega)] | rw [if_neg (by omega)])) <;> omega) | ((repeat' split) <;> omega))⟩⟩ hP hS dX12_nameOf_113
  have kc19 := jne c19 t1 jz_116
  by_cases c20 : a1 = 117
  · have kc20 := jeq c20 t1 jz_117
    refine jtopr c20 ?_
    refine lv_tableIn (off := 121) (tgt := 122) hx hb dX12_nameOf_1 (of_decide_eq_true rfl) (of_decide_eq_true rfl) (of_decide_eq_true rfl) (of_decide_eq_true rfl) ?_
    refine lv_iconst (v := (-1)) hx hb dX12_nameOf_122 (of_decide_eq_true rfl) ?_
    exact hret (-1) σ τ _ _ _ _ rfl ⟨⟨rfl, rfl⟩, Or.inr (⟨rfl, (by have h9 := jz_m1; unfold jNm; first | ((repeat (first | rw [if_pos (by omega)] | rw [if_neg (by omega)])) <;> omega) | ((repeat' split) <;> omega))⟩)⟩ hP hS dX12_nameOf_123
  have kc20 := jne c20 t1 jz_117
  by_cases c21 : a1 = 118
  · have kc21 := jeq c21 t1 jz_118
    refine jtopr c21 ?_
    refine lv_tableIn (off := 121) (tgt := 122) hx hb dX12_nameOf_1 (of_decide_eq_true rfl) (of_decide_eq_true rfl) (of_decide_eq_true rfl) (of_decide_eq_true rfl) ?_
    refine lv_iconst (v := (-1)) hx hb dX12_nameOf_122 (of_decide_eq_true rfl) ?_
    exact hret (-1) σ τ _ _ _ _ rfl ⟨⟨rfl, rfl⟩, Or.inr (⟨rfl, (by have h9 := jz_m1; unfold jNm; first | ((repeat (first | rw [if_pos (by omega)] | rw [if_neg (by omega)])) <;> omega) | ((repeat' split) <;> omega))⟩)⟩ hP hS dX12_nameOf_123
  have kc21 := jne c21 t1 jz_118
  by_cases c22 : a1 = 119
  · have kc22 := jeq c22 t1 jz_119
    refine jtopr c22 ?_
    refine lv_tableIn (off := 105) (tgt := 106) hx hb dX12_nameOf_1 (of_decide_eq_true rfl) (of_decide_eq_true rfl) (of_decide_eq_true rfl) (of_decide_eq_true rfl) ?_
    refine lv_iconst (v := 1) hx hb dX12_nameOf_106 (of_decide_eq_true rfl) ?_
    exact by exact hret 1 σ τ _ _ _ _ rfl ⟨⟨rfl, rfl⟩, Or.inl ⟨trivial, (by have h9 := jz_1; omega), (by have h9 := jz_1; omega), (by have h9 := jz_1; unfold jNm; first | ((repeat (first | rw [if_pos (by omega)] | rw [if_neg (by omega)])) <;> omega) | ((repeat' split) <;> omega))⟩⟩ hP hS dX12_nameOf_107
  have kc22 := jne c22 t1 jz_119
  exact by
   refine lv_tableOut (tgt := 122) hx hb dX12_nameOf_1 (by rw [t1]; omega) (of_decide_eq_true rfl) ?_
   refine lv_iconst (v := (-1)) hx hb dX12_nameOf_122 (of_decide_eq_true rfl) ?_
   exact hret (-1) σ τ _ _ _ _ rfl ⟨⟨rfl, rfl⟩, Or.inr (⟨rfl, (by have h9 := jz_m1; unfold jNm; first | ((repeat (first | rw [if_pos (by omega)] | rw [if_neg (by omega)])) <;> omega) | ((repeat' split) <;> omega))⟩)⟩ hP hS dX12_nameOf_123
set_option maxHeartbeats 4000000 in
set_option maxRecDepth 100000 in
theorem c_X12_grammar_one_g (l : Launch) (D : va_G) (cI cL : ClassId) (ad zz : Nat → Nat) (hJ : jD ad) (n : Nat) (h_one : ∀ (σ : Nat → Nat → Int32) (τ : Nat → Nat → Int64) (hI121 : jI121 σ) (hp0 : (σ 55 21).toInt = (-1)) (hp1 : 0 ≤ (σ 55 22).toInt ∧ (σ 55 22).toInt ≤ 6) (hp2 : -(σ 55 22).toInt + 6 ≤ (((n) : Nat) : Int)), jM l yX12_one cX12_one 5 (some .int) ({ frames := (10 + 8 * (n)), cells := 0, slots := 0, locals := (400 + 360 * (n)) }) D cI cL ad zz [.ref (ad 55)] σ τ (fun r σ' τ' => τ = τ' ∧ (∀ i : Nat, (i < 55 ∨ 55 < i) → σ' i = σ i) ∧ (∀ k : Nat, (k < 19 ∨ 19 < k) ∧ (k < 21 ∨ 21 < k) ∧ (k < 22 ∨ 22 < k) → σ' 55 k = σ 55 k) ∧ (jI121 σ') ∧ (jRp (jVw (σ 55 18).toInt (σ 63) (σ 64)) (σ 55 20).toInt (σ 66) 5 (σ 55 22).toInt (σ 55 19).toInt (σ' 55 19).toInt (σ' 55 21).toInt r) ∧ (((σ' 55 21).toInt = (-1) ∧ (σ' 55 22).toInt = (σ 55 22).toInt) ∨ (0 ≤ (σ' 55 21).toInt)) ∧ ((σ 55 19).toInt ≤ (σ' 55 19).toInt) ∧ True)) (h_either : ∀ (σ : Nat → Nat → Int32) (τ : Nat → Nat → Int64) (hI121 : jI121 σ) (hp0 : (σ 55 21).toInt = (-1)) (hp1 : 0 ≤ (σ 55 22).toInt ∧ (σ 55 22).toInt ≤ 6) (hp2 : -(σ 55 22).toInt + 6 ≤ (((n) : Nat) : Int)), jM l yX12_either cX12_either 3 (some .int) ({ frames := (15 + 8 * (n)), cells := 0, slots := 0, locals := (600 + 360 * (n)) }) D cI cL ad zz [.ref (ad 55)] σ τ (fun r σ' τ' => τ = τ' ∧ (∀ i : Nat, (i < 55 ∨ 55 < i) → σ' i = σ i) ∧ (∀ k : Nat, (k < 19 ∨ 19 < k) ∧ (k < 21 ∨ 21 < k) ∧ (k < 22 ∨ 22 < k) → σ' 55 k = σ 55 k) ∧ (jI121 σ') ∧ (jRp (jVw (σ 55 18).toInt (σ 63) (σ 64)) (σ 55 20).toInt (σ 66) 0 (σ 55 22).toInt (σ 55 19).toInt (σ' 55 19).toInt (σ' 55 21).toInt r) ∧ (((σ' 55 21).toInt = (-1) ∧ (σ' 55 22).toInt = (σ 55 22).toInt) ∨ (0 ≤ (σ' 55 21).toInt)) ∧ ((σ 55 19).toInt ≤ (σ' 55 19).toInt) ∧ True)) (σ : Nat → Nat → Int32) (τ : Nat → Nat → Int64) (hI121 : jI121 σ) (hp0 : (σ 55 21).toInt = (-1)) (hp1 : 0 ≤ (σ 55 22).toInt ∧ (σ 55 22).toInt ≤ 6) (hp2 : -(σ 55 22).toInt + 6 ≤ (((n + 1) : Nat) : Int)) : jM l yX12_one cX12_one 5 (some .int) ({ frames := (10 + 8 * (n + 1)), cells := 0, slots := 0, locals := (400 + 360 * (n + 1)) }) D cI cL ad zz [.ref (ad 55)] σ τ (fun r σ' τ' => τ = τ' ∧ (∀ i : Nat, (i < 55 ∨ 55 < i) → σ' i = σ i) ∧ (∀ k : Nat, (k < 19 ∨ 19 < k) ∧ (k < 21 ∨ 21 < k) ∧ (k < 22 ∨ 22 < k) → σ' 55 k = σ 55 k) ∧ (jI121 σ') ∧ (jRp (jVw (σ 55 18).toInt (σ 63) (σ 64)) (σ 55 20).toInt (σ 66) 5 (σ 55 22).toInt (σ 55 19).toInt (σ' 55 19).toInt (σ' 55 21).toInt r) ∧ (((σ' 55 21).toInt = (-1) ∧ (σ' 55 22).toInt = (σ 55 22).toInt) ∨ (0 ≤ (σ' 55 21).toInt)) ∧ ((σ 55 19).toInt ≤ (σ' 55 19).toInt) ∧ True) := by
  refine jM.of hJ (by decide +kernel) (nt := .int) rfl (Nat.le_of_ble_eq_true rfl) ?_
  intro p e s m args below meth c Q ls hC hret hl hP
  obtain ⟨hx, hb, hr, hml, hown, hts, hK, -, hlocks, hZ⟩ := hC
  have hown : s.vm.findClass RX12 = some m.cls := hown
  have hS : va_S (jA ad) s.heap s.heap [] := va_S.rf
  have hA : ∀ q, jA ad q → jA ad q := fun _ h => h
  have hl : lv_has ls 5 [(0, .ref (ad 55))] := hl
  obtain ⟨i1, i2, i3, i4, i5⟩ : ((-1) ≤ (σ 55 18).toInt ∧ (σ 55 18).toInt ≤ 80) ∧ (0 ≤ (σ 55 19).toInt) ∧ ((σ 55 19).toInt ≤ (σ 55 20).toInt) ∧ ((σ 55 20).toInt ≤ 80) ∧ ((-1) ≤ (σ 55 21).toInt ∧ (σ 55 21).toInt ≤ 80) := id hI121
  refine lv_aload_n hx hb dX12_one_0 rfl (lv_at hl 0 rfl) ?_
  refine va_get (D := D) hx hb hts inlX12 hown hK hP 55 (jc_55 cI cL ad σ τ) rfl 21 (of_decide_eq_true rfl) (hts _ kw_15_13) (fun _ h9 => h9) rfl dX12_one_1 ?_
  exact by
   refine lv_if_lt (tgt := 9) hx hb dX12_one_4 (of_decide_eq_true rfl) (fun c6 => ?_) (fun c => absurd (jnlt c rfl jz_0) (by omega))
   have kc6 := jlt c6 rfl jz_0
   refine lv_aload_n hx hb dX12_one_9 rfl (lv_at hl 0 rfl) ?_
   refine jcallV (As := []) (rest := []) ⟨hx, hb, hml, hown, hts⟩ hK hP hA hS hZ (c_X12_byteAt l D cI cL ad zz hJ σ τ hI121) cw_RX12_189 (jc_55 cI cL ad σ τ) rfl ⟨by dsimp only; omega, by dsimp only; omega⟩ rfl rfl rfl hl.1 rfl (Nat.le_of_ble_eq_true rfl) dX12_one_10 ⟨Nat.zero_le _, Nat.zero_le _⟩ (fun r8 σ7 τ7 H locs h7 hP hS => ?_)
   obtain ⟨⟨rfl, rfl⟩, h7⟩ := h7
   have h9 := h7
   obtain ⟨q12, k10, k11⟩ := h9
   have k13 := k11.ys (by omega)
   refine lv_istore_n (lv' := [(1, .int r8), (0, .ref (ad 55))]) hx hb dX12_one_13 rfl hl (of_decide_eq_true rfl) rfl (fun ls hl => ?_)
   exact by
    refine lv_iload_n hx hb dX12_one_14 rfl (lv_at hl 0 rfl) ?_
    refine lv_bipush (v := 33) hx hb dX12_one_15 (of_decide_eq_true rfl) ?_
    refine lv_icmp_eq (tgt := 32) hx hb dX12_one_17 (of_decide_eq_true rfl) (fun c14 => ?_) (fun c14 => ?_)
    · have kc14 := jeq c14 rfl jz_33
      refine lv_aload_n hx hb dX12_one_32 rfl (lv_at hl 1 rfl) ?_
      refine va_get (D := D) hx hb hts inlX12 hown hK hP 55 (jc_55 cI cL ad σ τ) rfl 22 (of_decide_eq_true rfl) (hts _ kw_18_21) (fun _ h9 => h9) rfl dX12_one_33 ?_
      refine lv_bipush (v := 6) hx hb dX12_one_36 (of_decide_eq_true rfl) ?_
      refine lv_icmp_ne (tgt := 46) hx hb dX12_one_38 (of_decide_eq_true rfl) (fun c15 => ?_) (fun c15 => ?_)
      · have kc15 := jne c15 rfl jz_6
        refine lv_aload_n hx hb dX12_one_46 rfl (lv_at hl 1 rfl) ?_
        refine lv_dup hx hb dX12_one_47 rfl ?_
        refine va_get (D := D) hx hb hts inlX12 hown hK hP 55 (jc_55 cI cL ad σ τ) rfl 22 (of_decide_eq_true rfl) (hts _ kw_18_21) (fun _ h9 => h9) rfl dX12_one_48 ?_
        refine lv_iconst (v := 1) hx hb dX12_one_51 (of_decide_eq_true rfl) ?_
        have g16 := jrg (rfl : (σ 55 22).toInt = (σ 55 22).toInt)
        refine lv_iadd hx hb dX12_one_52 ?_
        refine lv_topi (fun x17 ex17 => ?_)
        exact by
         have tx17 : x17.toInt = (σ 55 22).toInt + 1 := (jadd ex17 rfl jz_1 (by omega) (by omega)).trans (by omega)
         refine jput (ty := .int) hx hb hts inlX12 tyX12 tyX12_ok nmX12 hown hK hP hJ hA hS (jc_55 cI cL ad σ τ) rfl (k := 22) (of_decide_eq_true rfl) (Nat.le_of_ble_eq_true rfl) (jp_55_22 cI cL ad σ τ x17) (hts _ kw_18_21) (fun _ h9 => h9) rfl (by decide +kernel) rfl rfl dX12_one_53 (fun σ18 H locs eσ18 hP hS => ?_)
         refine lv_aload_n hx hb dX12_one_56 rfl (lv_at hl 1 rfl) ?_
         refine lv_dup hx hb dX12_one_57 rfl ?_
         refine va_get (D := D) hx hb hts inlX12 hown hK hP 55 (jc_55 cI cL ad σ18 τ) rfl 19 (of_decide_eq_true rfl) (hts _ kw_15_11) (fun _ h9 => h9) rfl dX12_one_58 ?_
         have m19 : σ18 55 19 = (σ 55 19) := (jkp 19 eσ18 (of_decide_eq_true rfl))
         refine jtopr m19 ?_
         refine lv_iconst (v := 1) hx hb dX12_one_61 (of_decide_eq_true rfl) ?_
         have g20 := jrg (rfl : (σ 55 19).toInt = (σ 55 19).toInt)
         refine lv_iadd hx hb dX12_one_62 ?_
         refine lv_topi (fun x21 ex21 => ?_)
         exact by
          have tx21 : x21.toInt = (σ 55 19).toInt + 1 := (jadd ex21 rfl jz_1 (by omega) (by omega)).trans (by omega)
          refine jput (ty := .int) hx hb hts inlX12 tyX12 tyX12_ok nmX12 hown hK hP hJ hA hS (jc_55 cI cL ad σ18 τ) rfl (k := 19) (of_decide_eq_true rfl) (Nat.le_of_ble_eq_true rfl) (jp_55_19 cI cL ad σ18 τ x21) (hts _ kw_15_11) (fun _ h9 => h9) rfl (by decide +kernel) rfl rfl dX12_one_63 (fun σ22 H locs eσ22 hP hS => ?_)
          refine lv_iload_n hx hb dX12_one_66 rfl (lv_at hl 0 rfl) ?_
          refine lv_bipush (v := 40) hx hb dX12_one_67 (of_decide_eq_true rfl) ?_
          refine lv_icmp_ne (tgt := 79) hx hb dX12_one_69 (of_decide_eq_true rfl) (fun c23 => ?_) (fun c => absurd (jeq c rfl jz_40) (by omega))
          have kc23 := jne c23 rfl jz_40
          refine lv_aload_n hx hb dX12_one_79 rfl (lv_at hl 1 rfl) ?_
          have z24 : (σ22 55 18).toInt = (σ 55 18).toInt := (congrArg Int32.toInt (show σ22 55 18 = (σ 55 18) from ((jkp 18 eσ22 (of_decide_eq_true rfl)).trans (jkp 18 eσ18 (of_decide_eq_true rfl)))))
          have z25 : (σ22 55 19).toInt = (σ 55 19).toInt + 1 := ((congrArg Int32.toInt (show σ22 55 19 = x21 from (jsp eσ22))).trans tx21)
          exact by
           have z26 : (σ22 55 20).toInt = (σ 55 20).toInt := (congrArg Int32.toInt (show σ22 55 20 = (σ 55 20) from ((jkp 20 eσ22 (of_decide_eq_true rfl)).trans (jkp 20 eσ18 (of_decide_eq_true rfl)))))
           have z27 : (σ22 55 21).toInt = (σ 55 21).toInt := (congrArg Int32.toInt (show σ22 55 21 = (σ 55 21) from ((jkp 21 eσ22 (of_decide_eq_true rfl)).trans (jkp 21 eσ18 (of_decide_eq_true rfl)))))
           have I28 : jI121 σ22 := ⟨(by omega), (by omega), (by omega), (by omega), (by omega)⟩
           have z29 : (σ22 55 22).toInt = (σ 55 22).toInt + 1 := ((congrArg Int32.toInt (show σ22 55 22 = x17 from ((jkp 22 eσ22 (of_decide_eq_true rfl)).trans (jsp eσ18)))).trans tx17)
           refine jcallV (As := []) (rest := []) ⟨hx, hb, hml, hown, hts⟩ hK hP hA hS hZ (h_one σ22 τ I28 (by omega) (by omega) (by omega)) cw_RX12_208 (jc_55 cI cL ad σ22 τ) rfl ⟨by dsimp only; omega, by dsimp only; omega⟩ rfl rfl rfl hl.1 rfl (Nat.le_of_ble_eq_true rfl) dX12_one_80 ⟨Nat.zero_le _, Nat.zero_le _⟩ (fun r31 σ30 τ30 H locs h30 hP hS => ?_)
           obtain ⟨rfl, f32, f33, I34, w35, h30⟩ := h30
           obtain ⟨i37, i38, i39, i40, i41⟩ : ((-1) ≤ (σ30 55 18).toInt ∧ (σ30 55 18).toInt ≤ 80) ∧ (0 ≤ (σ30 55 19).toInt) ∧ ((σ30 55 19).toInt ≤ (σ30 55 20).toInt) ∧ ((σ30 55 20).toInt ≤ 80) ∧ ((-1) ≤ (σ30 55 21).toInt ∧ (σ30 55 21).toInt ≤ 80) := id I34
           try rw [show (σ22 55 19).toInt = (σ 55 19).toInt + 1 from by omega] at w35
           try rw [show (σ22 55 20).toInt = (σ 55 20).toInt from by omega] at w35
           try rw [show (σ22 55 18).toInt = (σ 55 18).toInt from by omega] at w35
           try rw [show σ22 63 = σ 63 from ((jnp 63 eσ22 (of_decide_eq_true rfl)).trans (jnp 63 eσ18 (of_decide_eq_true rfl)))] at w35
           try rw [show σ22 64 = σ 64 from ((jnp 64 eσ22 (of_decide_eq_true rfl)).trans (jnp 64 eσ18 (of_decide_eq_true rfl)))] at w35
           try rw [show σ22 66 = σ 66 from by rw [jnp 66 eσ22 (of_decide_eq_true rfl), jnp 66 eσ18 (of_decide_eq_true rfl)]] at w35
           try rw [show (σ22 55 22).toInt = (σ 55 22).toInt + 1 from by omega] at w35
           exact by
            have z42 : (σ30 55 18).toInt = (σ 55 18).toInt := (congrArg Int32.toInt (show σ30 55 18 = (σ 55 18) from ((f33 18 (of_decide_eq_true rfl)).trans ((jkp 18 eσ22 (of_decide_eq_true rfl)).trans (jkp 18 eσ18 (of_decide_eq_true rfl))))))
            have z43 : (σ30 55 20).toInt = (σ 55 20).toInt := (congrArg Int32.toInt (show σ30 55 20 = (σ 55 20) from ((f33 20 (of_decide_eq_true rfl)).trans ((jkp 20 eσ22 (of_decide_eq_true rfl)).trans (jkp 20 eσ18 (of_decide_eq_true rfl))))))
            obtain ⟨k44, k45, h30⟩ := h30
            refine lv_istore_n (lv' := [(2, .int r31), (1, .int r8), (0, .ref (ad 55))]) hx hb dX12_one_83 rfl hl (of_decide_eq_true rfl) rfl (fun ls hl => ?_)
            refine lv_iload_n hx hb dX12_one_84 rfl (lv_at hl 1 rfl) ?_
            refine lv_bipush (v := 40) hx hb dX12_one_85 (of_decide_eq_true rfl) ?_
            refine lv_icmp_ne (tgt := 104) hx hb dX12_one_87 (of_decide_eq_true rfl) (fun c46 => ?_) (fun c => absurd (jeq c rfl jz_40) (by omega))
            have kc46 := jne c46 rfl jz_40
            refine lv_aload_n hx hb dX12_one_104 rfl (lv_at hl 2 rfl) ?_
            exact by
             refine lv_dup hx hb dX12_one_105 rfl ?_
             refine va_get (D := D) hx hb hts inlX12 hown hK hP 55 (jc_55 cI cL ad σ30 τ) rfl 22 (of_decide_eq_true rfl) (hts _ kw_18_21) (fun _ h9 => h9) rfl dX12_one_106 ?_
             refine lv_iconst (v := 1) hx hb dX12_one_109 (of_decide_eq_true rfl) ?_
             have g47 := jrg (rfl : (σ30 55 22).toInt = (σ30 55 22).toInt)
             refine lv_isub hx hb dX12_one_110 ?_
             refine lv_topi (fun x48 ex48 => ?_)
             have gx48 := jrg (rfl : x48.toInt = x48.toInt)
             have g49 := jsubw ex48 rfl jz_1
             refine jput (ty := .int) hx hb hts inlX12 tyX12 tyX12_ok nmX12 hown hK hP hJ hA hS (jc_55 cI cL ad σ30 τ) rfl (k := 22) (of_decide_eq_true rfl) (Nat.le_of_ble_eq_true rfl) (jp_55_22 cI cL ad σ30 τ x48) (hts _ kw_18_21) (fun _ h9 => h9) rfl (by decide +kernel) rfl rfl dX12_one_111 (fun σ50 H locs eσ50 hP hS => ?_)
             refine lv_iload_n hx hb dX12_one_114 rfl (lv_at hl 1 rfl) ?_
             refine lv_bipush (v := 40) hx hb dX12_one_115 (of_decide_eq_true rfl) ?_
             exact by
              refine lv_icmp_ne (tgt := 124) hx hb dX12_one_117 (of_decide_eq_true rfl) (fun c51 => ?_) (fun c => absurd (jeq c rfl jz_40) (by omega))
              have kc51 := jne c51 rfl jz_40
              refine lv_iload_n hx hb dX12_one_124 rfl (lv_at hl 1 rfl) ?_
              refine lv_bipush (v := 45) hx hb dX12_one_125 (of_decide_eq_true rfl) ?_
              refine lv_icmp_ne (tgt := 135) hx hb dX12_one_127 (of_decide_eq_true rfl) (fun c52 => ?_) (fun c => absurd (jeq c rfl jz_45) (by omega))
              have kc52 := jne c52 rfl jz_45
              refine lv_iload_n hx hb dX12_one_135 rfl (lv_at hl 0 rfl) ?_
              refine lv_if_ne (tgt := 143) hx hb dX12_one_136 (of_decide_eq_true rfl) (fun c53 => ?_) (fun c53 => ?_)
              · have kc53 := jne c53 rfl jz_0
                exact by
                 refine lv_iconst (v := 0) hx hb dX12_one_143 (of_decide_eq_true rfl) ?_
                 have I54 : jI121 σ50 := jI121_fr (jkp 18 eσ50 (of_decide_eq_true rfl)) (jkp 19 eσ50 (of_decide_eq_true rfl)) (jkp 20 eσ50 (of_decide_eq_true rfl)) (jkp 21 eσ50 (of_decide_eq_true rfl)) I34
                 have z55 : (σ50 55 19).toInt = (σ30 55 19).toInt := (congrArg Int32.toInt (show σ50 55 19 = (σ30 55 19) from (jkp 19 eσ50 (of_decide_eq_true rfl))))
                 have z56 : (σ50 55 21).toInt = (σ30 55 21).toInt := (congrArg Int32.toInt (show σ50 55 21 = (σ30 55 21) from (jkp 21 eσ50 (of_decide_eq_true rfl))))
                 have z57 : (σ50 55 22).toInt = x48.toInt := (congrArg Int32.toInt (show σ50 55 22 = x48 from (jsp eσ50)))
                 exact by exact hret 0 σ50 τ _ _ _ _ rfl ⟨rfl, (fun i hi => ((jnp i eσ50 (imp_165 i hi)).trans ((f32 i hi).trans ((jnp i eσ22 (imp_165 i hi)).trans (jnp i eσ18 (imp_165 i hi)))))), (fun i hi => ((jkp i eσ50 (imp_170 i hi)).trans ((f33 i hi).trans ((jkp i eσ22 (imp_171 i hi)).trans (jkp i eσ18 (imp_170 i hi)))))), I54, (jRp.to (jRp.sgn (by omega) (by omega) w35 (by omega) (by omega) (jUn_b (by omega) (Or.inr (Or.inl ⟨by omega, by omega, rfl⟩)))) (by omega) (by omega)), (by omega), (by omega), trivial⟩ hP hS dX12_one_144
              · have kc53 := jeq c53 rfl jz_0
                refine lv_iconst (v := 1) hx hb dX12_one_139 (of_decide_eq_true rfl) ?_
                refine lv_goto (tgt := 144) hx hb dX12_one_140 (of_decide_eq_true rfl) ?_
                have I58 : jI121 σ50 := jI121_fr (jkp 18 eσ50 (of_decide_eq_true rfl)) (jkp 19 eσ50 (of_decide_eq_true rfl)) (jkp 20 eσ50 (of_decide_eq_true rfl)) (jkp 21 eσ50 (of_decide_eq_true rfl)) I34
                have z59 : (σ50 55 19).toInt = (σ30 55 19).toInt := (congrArg Int32.toInt (show σ50 55 19 = (σ30 55 19) from (jkp 19 eσ50 (of_decide_eq_true rfl))))
                have z60 : (σ50 55 21).toInt = (σ30 55 21).toInt := (congrArg Int32.toInt (show σ50 55 21 = (σ30 55 21) from (jkp 21 eσ50 (of_decide_eq_true rfl))))
                have z61 : (σ50 55 22).toInt = x48.toInt := (congrArg Int32.toInt (show σ50 55 22 = x48 from (jsp eσ50)))
                exact by exact hret 1 σ50 τ _ _ _ _ rfl ⟨rfl, (fun i hi => ((jnp i eσ50 (imp_165 i hi)).trans ((f32 i hi).trans ((jnp i eσ22 (imp_165 i hi)).trans (jnp i eσ18 (imp_165 i hi)))))), (fun i hi => ((jkp i eσ50 (imp_170 i hi)).trans ((f33 i hi).trans ((jkp i eσ22 (imp_171 i hi)).trans (jkp i eσ18 (imp_170 i hi)))))), I58, (jRp.to (jRp.sgn (by omega) (by omega) w35 (by omega) (by omega) (jUn_b (by omega) (Or.inl ⟨by omega, by omega, rfl⟩))) (by omega) (by omega)), (by omega), (by omega), trivial⟩ hP hS dX12_one_144
      · have kc15 := jeq c15 rfl jz_6
        refine lv_aload_n hx hb dX12_one_41 rfl (lv_at hl 1 rfl) ?_
        refine jcallV (As := []) (rest := []) ⟨hx, hb, hml, hown, hts⟩ hK hP hA hS hZ (c_X12_wrong l D cI cL ad zz hJ σ τ hI121) cw_RX12_214 (jc_55 cI cL ad σ τ) rfl ⟨by dsimp only; omega, by dsimp only; omega⟩ rfl rfl rfl hl.1 rfl (Nat.le_of_ble_eq_true rfl) dX12_one_42 ⟨Nat.zero_le _, Nat.zero_le _⟩ (fun r63 σ62 τ62 H locs h62 hP hS => ?_)
        obtain ⟨rfl, f64, f65, I66, h62⟩ := h62
        obtain ⟨i68, i69, i70, i71, i72⟩ : ((-1) ≤ (σ62 55 18).toInt ∧ (σ62 55 18).toInt ≤ 80) ∧ (0 ≤ (σ62 55 19).toInt) ∧ ((σ62 55 19).toInt ≤ (σ62 55 20).toInt) ∧ ((σ62 55 20).toInt ≤ 80) ∧ ((-1) ≤ (σ62 55 21).toInt ∧ (σ62 55 21).toInt ≤ 80) := id I66
        have z73 : (σ62 55 18).toInt = (σ 55 18).toInt := (congrArg Int32.toInt (show σ62 55 18 = (σ 55 18) from (f65 18 (of_decide_eq_true rfl))))
        have z74 : (σ62 55 19).toInt = (σ 55 19).toInt := (congrArg Int32.toInt (show σ62 55 19 = (σ 55 19) from (f65 19 (of_decide_eq_true rfl))))
        have z75 : (σ62 55 20).toInt = (σ 55 20).toInt := (congrArg Int32.toInt (show σ62 55 20 = (σ 55 20) from (f65 20 (of_decide_eq_true rfl))))
        obtain ⟨k76, k77, h62⟩ := h62
        have h78 := h62
        obtain ⟨q80, k79⟩ := h78
        have q80 := q80.symm
        subst q80
        have z81 : (σ62 55 22).toInt = (σ 55 22).toInt := (congrArg Int32.toInt (show σ62 55 22 = (σ 55 22) from (f65 22 (of_decide_eq_true rfl))))
        exact by exact hret 0 σ62 τ _ _ _ _ rfl ⟨rfl, (fun i hi => (f64 i hi)), (fun i hi => (f65 i (imp_172 i hi))), I66, (jRp.bad (by omega) (by omega) (jNm_n (by omega)) (by omega) (by omega) (by omega)), (by omega), (by omega), trivial⟩ hP hS dX12_one_45
    · have kc14 := jne c14 rfl jz_33
      refine lv_iload_n hx hb dX12_one_20 rfl (lv_at hl 0 rfl) ?_
      refine lv_bipush (v := 45) hx hb dX12_one_21 (of_decide_eq_true rfl) ?_
      refine lv_icmp_eq (tgt := 32) hx hb dX12_one_23 (of_decide_eq_true rfl) (fun c82 => ?_) (fun c82 => ?_)
      · have kc82 := jeq c82 rfl jz_45
        refine lv_aload_n hx hb dX12_one_32 rfl (lv_at hl 1 rfl) ?_
        refine va_get (D := D) hx hb hts inlX12 hown hK hP 55 (jc_55 cI cL ad σ τ) rfl 22 (of_decide_eq_true rfl) (hts _ kw_18_21) (fun _ h9 => h9) rfl dX12_one_33 ?_
        refine lv_bipush (v := 6) hx hb dX12_one_36 (of_decide_eq_true rfl) ?_
        refine lv_icmp_ne (tgt := 46) hx hb dX12_one_38 (of_decide_eq_true rfl) (fun c83 => ?_) (fun c83 => ?_)
        · have kc83 := jne c83 rfl jz_6
          refine lv_aload_n hx hb dX12_one_46 rfl (lv_at hl 1 rfl) ?_
          refine lv_dup hx hb dX12_one_47 rfl ?_
          refine va_get (D := D) hx hb hts inlX12 hown hK hP 55 (jc_55 cI cL ad σ τ) rfl 22 (of_decide_eq_true rfl) (hts _ kw_18_21) (fun _ h9 => h9) rfl dX12_one_48 ?_
          refine lv_iconst (v := 1) hx hb dX12_one_51 (of_decide_eq_true rfl) ?_
          have g84 := jrg (rfl : (σ 55 22).toInt = (σ 55 22).toInt)
          refine lv_iadd hx hb dX12_one_52 ?_
          refine lv_topi (fun x85 ex85 => ?_)
          exact by
           have tx85 : x85.toInt = (σ 55 22).toInt + 1 := (jadd ex85 rfl jz_1 (by omega) (by omega)).trans (by omega)
           refine jput (ty := .int) hx hb hts inlX12 tyX12 tyX12_ok nmX12 hown hK hP hJ hA hS (jc_55 cI cL ad σ τ) rfl (k := 22) (of_decide_eq_true rfl) (Nat.le_of_ble_eq_true rfl) (jp_55_22 cI cL ad σ τ x85) (hts _ kw_18_21) (fun _ h9 => h9) rfl (by decide +kernel) rfl rfl dX12_one_53 (fun σ86 H locs eσ86 hP hS => ?_)
           refine lv_aload_n hx hb dX12_one_56 rfl (lv_at hl 1 rfl) ?_
           refine lv_dup hx hb dX12_one_57 rfl ?_
           refine va_get (D := D) hx hb hts inlX12 hown hK hP 55 (jc_55 cI cL ad σ86 τ) rfl 19 (of_decide_eq_true rfl) (hts _ kw_15_11) (fun _ h9 => h9) rfl dX12_one_58 ?_
           have m87 : σ86 55 19 = (σ 55 19) := (jkp 19 eσ86 (of_decide_eq_true rfl))
           refine jtopr m87 ?_
           refine lv_iconst (v := 1) hx hb dX12_one_61 (of_decide_eq_true rfl) ?_
           have g88 := jrg (rfl : (σ 55 19).toInt = (σ 55 19).toInt)
           refine lv_iadd hx hb dX12_one_62 ?_
           refine lv_topi (fun x89 ex89 => ?_)
           exact by
            have tx89 : x89.toInt = (σ 55 19).toInt + 1 := (jadd ex89 rfl jz_1 (by omega) (by omega)).trans (by omega)
            refine jput (ty := .int) hx hb hts inlX12 tyX12 tyX12_ok nmX12 hown hK hP hJ hA hS (jc_55 cI cL ad σ86 τ) rfl (k := 19) (of_decide_eq_true rfl) (Nat.le_of_ble_eq_true rfl) (jp_55_19 cI cL ad σ86 τ x89) (hts _ kw_15_11) (fun _ h9 => h9) rfl (by decide +kernel) rfl rfl dX12_one_63 (fun σ90 H locs eσ90 hP hS => ?_)
            refine lv_iload_n hx hb dX12_one_66 rfl (lv_at hl 0 rfl) ?_
            refine lv_bipush (v := 40) hx hb dX12_one_67 (of_decide_eq_true rfl) ?_
            refine lv_icmp_ne (tgt := 79) hx hb dX12_one_69 (of_decide_eq_true rfl) (fun c91 => ?_) (fun c => absurd (jeq c rfl jz_40) (by omega))
            have kc91 := jne c91 rfl jz_40
            refine lv_aload_n hx hb dX12_one_79 rfl (lv_at hl 1 rfl) ?_
            have z92 : (σ90 55 18).toInt = (σ 55 18).toInt := (congrArg Int32.toInt (show σ90 55 18 = (σ 55 18) from ((jkp 18 eσ90 (of_decide_eq_true rfl)).trans (jkp 18 eσ86 (of_decide_eq_true rfl)))))
            have z93 : (σ90 55 19).toInt = (σ 55 19).toInt + 1 := ((congrArg Int32.toInt (show σ90 55 19 = x89 from (jsp eσ90))).trans tx89)
            exact by
             have z94 : (σ90 55 20).toInt = (σ 55 20).toInt := (congrArg Int32.toInt (show σ90 55 20 = (σ 55 20) from ((jkp 20 eσ90 (of_decide_eq_true rfl)).trans (jkp 20 eσ86 (of_decide_eq_true rfl)))))
             have z95 : (σ90 55 21).toInt = (σ 55 21).toInt := (congrArg Int32.toInt (show σ90 55 21 = (σ 55 21) from ((jkp 21 eσ90 (of_decide_eq_true rfl)).trans (jkp 21 eσ86 (of_decide_eq_true rfl)))))
             have I96 : jI121 σ90 := ⟨(by omega), (by omega), (by omega), (by omega), (by omega)⟩
             have z97 : (σ90 55 22).toInt = (σ 55 22).toInt + 1 := ((congrArg Int32.toInt (show σ90 55 22 = x85 from ((jkp 22 eσ90 (of_decide_eq_true rfl)).trans (jsp eσ86)))).trans tx85)
             refine jcallV (As := []) (rest := []) ⟨hx, hb, hml, hown, hts⟩ hK hP hA hS hZ (h_one σ90 τ I96 (by omega) (by omega) (by omega)) cw_RX12_208 (jc_55 cI cL ad σ90 τ) rfl ⟨by dsimp only; omega, by dsimp only; omega⟩ rfl rfl rfl hl.1 rfl (Nat.le_of_ble_eq_true rfl) dX12_one_80 ⟨Nat.zero_le _, Nat.zero_le _⟩ (fun r99 σ98 τ98 H locs h98 hP hS => ?_)
             obtain ⟨rfl, f100, f101, I102, w103, h98⟩ := h98
             obtain ⟨i105, i106, i107, i108, i109⟩ : ((-1) ≤ (σ98 55 18).toInt ∧ (σ98 55 18).toInt ≤ 80) ∧ (0 ≤ (σ98 55 19).toInt) ∧ ((σ98 55 19).toInt ≤ (σ98 55 20).toInt) ∧ ((σ98 55 20).toInt ≤ 80) ∧ ((-1) ≤ (σ98 55 21).toInt ∧ (σ98 55 21).toInt ≤ 80) := id I102
             try rw [show (σ90 55 19).toInt = (σ 55 19).toInt + 1 from by omega] at w103
             try rw [show (σ90 55 20).toInt = (σ 55 20).toInt from by omega] at w103
             try rw [show (σ90 55 18).toInt = (σ 55 18).toInt from by omega] at w103
             try rw [show σ90 63 = σ 63 from ((jnp 63 eσ90 (of_decide_eq_true rfl)).trans (jnp 63 eσ86 (of_decide_eq_true rfl)))] at w103
             try rw [show σ90 64 = σ 64 from ((jnp 64 eσ90 (of_decide_eq_true rfl)).trans (jnp 64 eσ86 (of_decide_eq_true rfl)))] at w103
             try rw [show σ90 66 = σ 66 from by rw [jnp 66 eσ90 (of_decide_eq_true rfl), jnp 66 eσ86 (of_decide_eq_true rfl)]] at w103
             try rw [show (σ90 55 22).toInt = (σ 55 22).toInt + 1 from by omega] at w103
             exact by
              have z110 : (σ98 55 18).toInt = (σ 55 18).toInt := (congrArg Int32.toInt (show σ98 55 18 = (σ 55 18) from ((f101 18 (of_decide_eq_true rfl)).trans ((jkp 18 eσ90 (of_decide_eq_true rfl)).trans (jkp 18 eσ86 (of_decide_eq_true rfl))))))
              have z111 : (σ98 55 20).toInt = (σ 55 20).toInt := (congrArg Int32.toInt (show σ98 55 20 = (σ 55 20) from ((f101 20 (of_decide_eq_true rfl)).trans ((jkp 20 eσ90 (of_decide_eq_true rfl)).trans (jkp 20 eσ86 (of_decide_eq_true rfl))))))
              obtain ⟨k112, k113, h98⟩ := h98
              refine lv_istore_n (lv' := [(2, .int r99), (1, .int r8), (0, .ref (ad 55))]) hx hb dX12_one_83 rfl hl (of_decide_eq_true rfl) rfl (fun ls hl => ?_)
              refine lv_iload_n hx hb dX12_one_84 rfl (lv_at hl 1 rfl) ?_
              refine lv_bipush (v := 40) hx hb dX12_one_85 (of_decide_eq_true rfl) ?_
              refine lv_icmp_ne (tgt := 104) hx hb dX12_one_87 (of_decide_eq_true rfl) (fun c114 => ?_) (fun c => absurd (jeq c rfl jz_40) (by omega))
              have kc114 := jne c114 rfl jz_40
              refine lv_aload_n hx hb dX12_one_104 rfl (lv_at hl 2 rfl) ?_
              exact by
               refine lv_dup hx hb dX12_one_105 rfl ?_
               refine va_get (D := D) hx hb hts inlX12 hown hK hP 55 (jc_55 cI cL ad σ98 τ) rfl 22 (of_decide_eq_true rfl) (hts _ kw_18_21) (fun _ h9 => h9) rfl dX12_one_106 ?_
               refine lv_iconst (v := 1) hx hb dX12_one_109 (of_decide_eq_true rfl) ?_
               have g115 := jrg (rfl : (σ98 55 22).toInt = (σ98 55 22).toInt)
               refine lv_isub hx hb dX12_one_110 ?_
               refine lv_topi (fun x116 ex116 => ?_)
               have gx116 := jrg (rfl : x116.toInt = x116.toInt)
               have g117 := jsubw ex116 rfl jz_1
               refine jput (ty := .int) hx hb hts inlX12 tyX12 tyX12_ok nmX12 hown hK hP hJ hA hS (jc_55 cI cL ad σ98 τ) rfl (k := 22) (of_decide_eq_true rfl) (Nat.le_of_ble_eq_true rfl) (jp_55_22 cI cL ad σ98 τ x116) (hts _ kw_18_21) (fun _ h9 => h9) rfl (by decide +kernel) rfl rfl dX12_one_111 (fun σ118 H locs eσ118 hP hS => ?_)
               refine lv_iload_n hx hb dX12_one_114 rfl (lv_at hl 1 rfl) ?_
               refine lv_bipush (v := 40) hx hb dX12_one_115 (of_decide_eq_true rfl) ?_
               exact by
                refine lv_icmp_ne (tgt := 124) hx hb dX12_one_117 (of_decide_eq_true rfl) (fun c119 => ?_) (fun c => absurd (jeq c rfl jz_40) (by omega))
                have kc119 := jne c119 rfl jz_40
                refine lv_iload_n hx hb dX12_one_124 rfl (lv_at hl 1 rfl) ?_
                refine lv_bipush (v := 45) hx hb dX12_one_125 (of_decide_eq_true rfl) ?_
                refine lv_icmp_ne (tgt := 135) hx hb dX12_one_127 (of_decide_eq_true rfl) (fun c => absurd (jne c rfl jz_45) (by omega)) (fun c120 => ?_)
                have kc120 := jeq c120 rfl jz_45
                refine lv_iload_n hx hb dX12_one_130 rfl (lv_at hl 0 rfl) ?_
                refine lv_ineg hx hb dX12_one_131 ?_
                refine lv_topi (fun x121 ex121 => ?_)
                exact by
                 have gx121 := jrg (rfl : x121.toInt = x121.toInt)
                 refine lv_goto (tgt := 144) hx hb dX12_one_132 (of_decide_eq_true rfl) ?_
                 have I122 : jI121 σ118 := jI121_fr (jkp 18 eσ118 (of_decide_eq_true rfl)) (jkp 19 eσ118 (of_decide_eq_true rfl)) (jkp 20 eσ118 (of_decide_eq_true rfl)) (jkp 21 eσ118 (of_decide_eq_true rfl)) I102
                 have z123 : (σ118 55 19).toInt = (σ98 55 19).toInt := (congrArg Int32.toInt (show σ118 55 19 = (σ98 55 19) from (jkp 19 eσ118 (of_decide_eq_true rfl))))
                 have z124 : (σ118 55 21).toInt = (σ98 55 21).toInt := (congrArg Int32.toInt (show σ118 55 21 = (σ98 55 21) from (jkp 21 eσ118 (of_decide_eq_true rfl))))
                 have z125 : (σ118 55 22).toInt = x116.toInt := (congrArg Int32.toInt (show σ118 55 22 = x116 from (jsp eσ118)))
                 exact by exact hret x121 σ118 τ _ _ _ _ rfl ⟨rfl, (fun i hi => ((jnp i eσ118 (imp_165 i hi)).trans ((f100 i hi).trans ((jnp i eσ90 (imp_165 i hi)).trans (jnp i eσ86 (imp_165 i hi)))))), (fun i hi => ((jkp i eσ118 (imp_170 i hi)).trans ((f101 i hi).trans ((jkp i eσ90 (imp_171 i hi)).trans (jkp i eσ86 (imp_170 i hi)))))), I122, (jRp.to (jRp.sgn (by omega) (by omega) w103 (by omega) (by omega) (jUn_b (by omega) (Or.inr (Or.inr ⟨by omega, ex121⟩)))) (by omega) (by omega)), (by omega), (by omega), trivial⟩ hP hS dX12_one_144
        · have kc83 := jeq c83 rfl jz_6
          refine lv_aload_n hx hb dX12_one_41 rfl (lv_at hl 1 rfl) ?_
          refine jcallV (As := []) (rest := []) ⟨hx, hb, hml, hown, hts⟩ hK hP hA hS hZ (c_X12_wrong l D cI cL ad zz hJ σ τ hI121) cw_RX12_214 (jc_55 cI cL ad σ τ) rfl ⟨by dsimp only; omega, by dsimp only; omega⟩ rfl rfl rfl hl.1 rfl (Nat.le_of_ble_eq_true rfl) dX12_one_42 ⟨Nat.zero_le _, Nat.zero_le _⟩ (fun r127 σ126 τ126 H locs h126 hP hS => ?_)
          obtain ⟨rfl, f128, f129, I130, h126⟩ := h126
          obtain ⟨i132, i133, i134, i135, i136⟩ : ((-1) ≤ (σ126 55 18).toInt ∧ (σ126 55 18).toInt ≤ 80) ∧ (0 ≤ (σ126 55 19).toInt) ∧ ((σ126 55 19).toInt ≤ (σ126 55 20).toInt) ∧ ((σ126 55 20).toInt ≤ 80) ∧ ((-1) ≤ (σ126 55 21).toInt ∧ (σ126 55 21).toInt ≤ 80) := id I130
          have z137 : (σ126 55 18).toInt = (σ 55 18).toInt := (congrArg Int32.toInt (show σ126 55 18 = (σ 55 18) from (f129 18 (of_decide_eq_true rfl))))
          have z138 : (σ126 55 19).toInt = (σ 55 19).toInt := (congrArg Int32.toInt (show σ126 55 19 = (σ 55 19) from (f129 19 (of_decide_eq_true rfl))))
          have z139 : (σ126 55 20).toInt = (σ 55 20).toInt := (congrArg Int32.toInt (show σ126 55 20 = (σ 55 20) from (f129 20 (of_decide_eq_true rfl))))
          obtain ⟨k140, k141, h126⟩ := h126
          have h142 := h126
          obtain ⟨q144, k143⟩ := h142
          have q144 := q144.symm
          subst q144
          have z145 : (σ126 55 22).toInt = (σ 55 22).toInt := (congrArg Int32.toInt (show σ126 55 22 = (σ 55 22) from (f129 22 (of_decide_eq_true rfl))))
          exact by exact hret 0 σ126 τ _ _ _ _ rfl ⟨rfl, (fun i hi => (f128 i hi)), (fun i hi => (f129 i (imp_172 i hi))), I130, (jRp.bad (by omega) (by omega) (jNm_n (by omega)) (by omega) (by omega) (by omega)), (by omega), (by omega), trivial⟩ hP hS dX12_one_45
      · have kc82 := jne c82 rfl jz_45
        refine lv_iload_n hx hb dX12_one_26 rfl (lv_at hl 0 rfl) ?_
        refine lv_bipush (v := 40) hx hb dX12_one_27 (of_decide_eq_true rfl) ?_
        refine lv_icmp_ne (tgt := 145) hx hb dX12_one_29 (of_decide_eq_true rfl) (fun c146 => ?_) (fun c146 => ?_)
        · have kc146 := jne c146 rfl jz_40
          refine lv_iload_n hx hb dX12_one_145 rfl (lv_at hl 0 rfl) ?_
          refine jcallS (As := [.int r8]) (rest := []) ⟨hx, hb, hml, hown, hts⟩ hK hP hA hS hZ (c_X12_nameOf l D cI cL ad zz hJ σ τ r8 (r8.toInt) rfl) cw_RX12_220 ⟨by dsimp only; omega, by dsimp only; omega⟩ rfl rfl rfl hl.1 rfl (Nat.le_of_ble_eq_true rfl) dX12_one_146 ⟨Nat.zero_le _, Nat.zero_le _⟩ (fun r148 σ147 τ147 H locs h147 hP hS => ?_)
          obtain ⟨⟨rfl, rfl⟩, h147⟩ := h147
          rcases h147 with h149 | h150
          · obtain ⟨q154, k151, k152, k153⟩ := h149
            exact by
             have z155 := jNm_hi (x := r8.toInt) (by omega)
             refine lv_istore_n (lv' := [(2, .int r148), (1, .int r8), (0, .ref (ad 55))]) hx hb dX12_one_149 rfl hl (of_decide_eq_true rfl) rfl (fun ls hl => ?_)
             refine lv_iload_n hx hb dX12_one_150 rfl (lv_at hl 0 rfl) ?_
             refine lv_if_lt (tgt := 171) hx hb dX12_one_151 (of_decide_eq_true rfl) (fun c => absurd (jlt c rfl jz_0) (by omega)) (fun c156 => ?_)
             have kc156 := jnlt c156 rfl jz_0
             refine lv_aload_n hx hb dX12_one_154 rfl (lv_at hl 2 rfl) ?_
             refine lv_dup hx hb dX12_one_155 rfl ?_
             refine va_get (D := D) hx hb hts inlX12 hown hK hP 55 (jc_55 cI cL ad σ τ) rfl 19 (of_decide_eq_true rfl) (hts _ kw_15_11) (fun _ h9 => h9) rfl dX12_one_156 ?_
             refine lv_iconst (v := 1) hx hb dX12_one_159 (of_decide_eq_true rfl) ?_
             exact by
              have g157 := jrg (rfl : (σ 55 19).toInt = (σ 55 19).toInt)
              refine lv_iadd hx hb dX12_one_160 ?_
              refine lv_topi (fun x158 ex158 => ?_)
              have tx158 : x158.toInt = (σ 55 19).toInt + 1 := (jadd ex158 rfl jz_1 (by omega) (by omega)).trans (by omega)
              refine jput (ty := .int) hx hb hts inlX12 tyX12 tyX12_ok nmX12 hown hK hP hJ hA hS (jc_55 cI cL ad σ τ) rfl (k := 19) (of_decide_eq_true rfl) (Nat.le_of_ble_eq_true rfl) (jp_55_19 cI cL ad σ τ x158) (hts _ kw_15_11) (fun _ h9 => h9) rfl (by decide +kernel) rfl rfl dX12_one_161 (fun σ159 H locs eσ159 hP hS => ?_)
              refine lv_aload_n hx hb dX12_one_164 rfl (lv_at hl 2 rfl) ?_
              refine va_get (D := D) hx hb hts inlX12 hown hK hP 55 (jc_55 cI cL ad σ159 τ) rfl 23 (of_decide_eq_true rfl) (hts _ kw_7_12) (fun _ h9 => h9) rfl dX12_one_165 ?_
              refine lv_iload_n hx hb dX12_one_168 rfl (lv_at hl 0 rfl) ?_
              refine jald hx hb hK hP (jc_66 cI cL ad σ159 τ) (jin rfl (by omega) (by omega)) dX12_one_169 ?_
              exact by
               refine lv_topi (fun x160 ex160 => ?_)
               have z161 : (σ159 55 18).toInt = (σ 55 18).toInt := (congrArg Int32.toInt (show σ159 55 18 = (σ 55 18) from (jkp 18 eσ159 (of_decide_eq_true rfl))))
               have z162 : (σ159 55 19).toInt = (σ 55 19).toInt + 1 := ((congrArg Int32.toInt (show σ159 55 19 = x158 from (jsp eσ159))).trans tx158)
               have z163 : (σ159 55 20).toInt = (σ 55 20).toInt := (congrArg Int32.toInt (show σ159 55 20 = (σ 55 20) from (jkp 20 eσ159 (of_decide_eq_true rfl))))
               have z164 : (σ159 55 21).toInt = (σ 55 21).toInt := (congrArg Int32.toInt (show σ159 55 21 = (σ 55 21) from (jkp 21 eσ159 (of_decide_eq_true rfl))))
               have I165 : jI121 σ159 := ⟨(by omega), (by omega), (by omega), (by omega), (by omega)⟩
               have z166 : (σ159 55 22).toInt = (σ 55 22).toInt := (congrArg Int32.toInt (show σ159 55 22 = (σ 55 22) from (jkp 22 eσ159 (of_decide_eq_true rfl))))
               exact by exact hret x160 σ159 τ _ _ _ _ rfl ⟨rfl, (fun i hi => (jnp i eσ159 (imp_165 i hi))), (fun i hi => (jkp i eσ159 (imp_171 i hi))), I165, (jRp.name (by have w := jNm_hi (x := r8.toInt) (by omega); omega) (by rw [jNm_b (show jYs (jVw (σ 55 18).toInt (σ 63) (σ 64)) (σ 55 20).toInt (σ 55 19).toInt = r8.toInt ∨ (jYs (jVw (σ 55 18).toInt (σ 63) (σ 64)) (σ 55 20).toInt (σ 55 19).toInt = -1 ∧ r8.toInt = 0) by omega)]; omega) (by omega) (by omega) (by omega) (by omega) (by rw [ex160, show σ159 66 = σ 66 from (jnp 66 eσ159 (of_decide_eq_true rfl)), jnc (show r148.toInt = jNm (jYs (jVw (σ 55 18).toInt (σ 63) (σ 64)) (σ 55 20).toInt (σ 55 19).toInt) by rw [jNm_b (show jYs (jVw (σ 55 18).toInt (σ 63) (σ 64)) (σ 55 20).toInt (σ 55 19).toInt = r8.toInt ∨ (jYs (jVw (σ 55 18).toInt (σ 63) (σ 64)) (σ 55 20).toInt (σ 55 19).toInt = -1 ∧ r8.toInt = 0) by omega)]; omega)])), (by omega), (by omega), trivial⟩ hP hS dX12_one_170
          · obtain ⟨q168, k167⟩ := h150
            exact by
             have q168 := q168.symm
             subst q168
             have z169 := jz_m1
             refine lv_istore_n (lv' := [(2, .int (-1)), (1, .int r8), (0, .ref (ad 55))]) hx hb dX12_one_149 rfl hl (of_decide_eq_true rfl) rfl (fun ls hl => ?_)
             refine lv_iload_n hx hb dX12_one_150 rfl (lv_at hl 0 rfl) ?_
             refine lv_if_lt (tgt := 171) hx hb dX12_one_151 (of_decide_eq_true rfl) (fun _ => ?_) (fun c => absurd (of_decide_eq_true rfl) c)
             refine lv_iconst (v := 0) hx hb dX12_one_171 (of_decide_eq_true rfl) ?_
             refine lv_istore_n (lv' := [(3, .int 0), (2, .int (-1)), (1, .int r8), (0, .ref (ad 55))]) hx hb dX12_one_172 rfl hl (of_decide_eq_true rfl) rfl (fun ls hl => ?_)
             refine lv_iconst (v := 0) hx hb dX12_one_173 (of_decide_eq_true rfl) ?_
             refine lv_istore (lv' := [(4, .int 0), (3, .int 0), (2, .int (-1)), (1, .int r8), (0, .ref (ad 55))]) hx hb dX12_one_174 hl (of_decide_eq_true rfl) rfl (fun ls hl => ?_)
             refine lv_iload hx hb dX12_one_176 (lv_at hl 0 rfl) ?_
             refine lv_iconst (v := 4) hx hb dX12_one_178 (of_decide_eq_true rfl) ?_
             refine lv_icmp_ge (tgt := 229) hx hb dX12_one_179 (of_decide_eq_true rfl) (fun c => absurd c (of_decide_eq_true rfl)) (fun _ => ?_)
             refine lv_aload_n hx hb dX12_one_182 rfl (lv_at hl 4 rfl) ?_
             refine jcallV (As := []) (rest := []) ⟨hx, hb, hml, hown, hts⟩ hK hP hA hS hZ (c_X12_byteAt l D cI cL ad zz hJ σ τ hI121) cw_RX12_189 (jc_55 cI cL ad σ τ) rfl ⟨by dsimp only; omega, by dsimp only; omega⟩ rfl rfl rfl hl.1 rfl (Nat.le_of_ble_eq_true rfl) dX12_one_183 ⟨Nat.zero_le _, Nat.zero_le _⟩ (fun r171 σ170 τ170 H locs h170 hP hS => ?_)
             obtain ⟨⟨rfl, rfl⟩, h170⟩ := h170
             have h172 := h170
             obtain ⟨q175, k173, k174⟩ := h172
             have k176 := k174.det k11
             refine lv_bipush (v := 48) hx hb dX12_one_186 (of_decide_eq_true rfl) ?_
             refine lv_icmp_lt (tgt := 229) hx hb dX12_one_188 (of_decide_eq_true rfl) (fun c177 => ?_) (fun c177 => ?_)
             · have kc177 := jlt c177 rfl jz_48
               refine lv_iload hx hb dX12_one_229 (lv_at hl 0 rfl) ?_
               refine lv_if_ne (tgt := 241) hx hb dX12_one_231 (of_decide_eq_true rfl) (fun c => absurd (of_decide_eq_true rfl) c) (fun _ => ?_)
               refine lv_aload_n hx hb dX12_one_234 rfl (lv_at hl 4 rfl) ?_
               refine jcallV (As := []) (rest := []) ⟨hx, hb, hml, hown, hts⟩ hK hP hA hS hZ (c_X12_wrong l D cI cL ad zz hJ σ τ hI121) cw_RX12_214 (jc_55 cI cL ad σ τ) rfl ⟨by dsimp only; omega, by dsimp only; omega⟩ rfl rfl rfl hl.1 rfl (Nat.le_of_ble_eq_true rfl) dX12_one_235 ⟨Nat.zero_le _, Nat.zero_le _⟩ (fun r179 σ178 τ178 H locs h178 hP hS => ?_)
               obtain ⟨rfl, f180, f181, I182, h178⟩ := h178
               obtain ⟨i184, i185, i186, i187, i188⟩ : ((-1) ≤ (σ178 55 18).toInt ∧ (σ178 55 18).toInt ≤ 80) ∧ (0 ≤ (σ178 55 19).toInt) ∧ ((σ178 55 19).toInt ≤ (σ178 55 20).toInt) ∧ ((σ178 55 20).toInt ≤ 80) ∧ ((-1) ≤ (σ178 55 21).toInt ∧ (σ178 55 21).toInt ≤ 80) := id I182
               have z189 : (σ178 55 18).toInt = (σ 55 18).toInt := (congrArg Int32.toInt (show σ178 55 18 = (σ 55 18) from (f181 18 (of_decide_eq_true rfl))))
               have z190 : (σ178 55 19).toInt = (σ 55 19).toInt := (congrArg Int32.toInt (show σ178 55 19 = (σ 55 19) from (f181 19 (of_decide_eq_true rfl))))
               have z191 : (σ178 55 20).toInt = (σ 55 20).toInt := (congrArg Int32.toInt (show σ178 55 20 = (σ 55 20) from (f181 20 (of_decide_eq_true rfl))))
               obtain ⟨k192, k193, h178⟩ := h178
               have h194 := h178
               obtain ⟨q196, k195⟩ := h194
               have q196 := q196.symm
               subst q196
               refine lv_goto (tgt := 242) hx hb dX12_one_238 (of_decide_eq_true rfl) ?_
               have z197 : (σ178 55 22).toInt = (σ 55 22).toInt := (congrArg Int32.toInt (show σ178 55 22 = (σ 55 22) from (f181 22 (of_decide_eq_true rfl))))
               exact by exact hret 0 σ178 τ _ _ _ _ rfl ⟨rfl, (fun i hi => (f180 i hi)), (fun i hi => (f181 i (imp_172 i hi))), I182, (jRp.bad (by omega) (by omega) (by rw [jNm_b (show jYs (jVw (σ 55 18).toInt (σ 63) (σ 64)) (σ 55 20).toInt (σ 55 19).toInt = r8.toInt ∨ (jYs (jVw (σ 55 18).toInt (σ 63) (σ 64)) (σ 55 20).toInt (σ 55 19).toInt = -1 ∧ r8.toInt = 0) by omega)]; have h9 := jz_m1; omega) (by omega) (by omega) (by omega)), (by omega), (by omega), trivial⟩ hP hS dX12_one_242
             · have kc177 := jnlt c177 rfl jz_48
               refine lv_aload_n hx hb dX12_one_191 rfl (lv_at hl 4 rfl) ?_
               refine jcallV (As := []) (rest := []) ⟨hx, hb, hml, hown, hts⟩ hK hP hA hS hZ (c_X12_byteAt l D cI cL ad zz hJ σ τ hI121) cw_RX12_189 (jc_55 cI cL ad σ τ) rfl ⟨by dsimp only; omega, by dsimp only; omega⟩ rfl rfl rfl hl.1 rfl (Nat.le_of_ble_eq_true rfl) dX12_one_192 ⟨Nat.zero_le _, Nat.zero_le _⟩ (fun r199 σ198 τ198 H locs h198 hP hS => ?_)
               obtain ⟨⟨rfl, rfl⟩, h198⟩ := h198
               have h200 := h198
               obtain ⟨q203, k201, k202⟩ := h200
               have k204 := k202.det k11
               refine lv_bipush (v := 57) hx hb dX12_one_195 (of_decide_eq_true rfl) ?_
               refine lv_icmp_gt (tgt := 229) hx hb dX12_one_197 (of_decide_eq_true rfl) (fun c205 => ?_) (fun c205 => ?_)
               · have kc205 := jlt c205 jz_57 rfl
                 refine lv_iload hx hb dX12_one_229 (lv_at hl 0 rfl) ?_
                 refine lv_if_ne (tgt := 241) hx hb dX12_one_231 (of_decide_eq_true rfl) (fun c => absurd (of_decide_eq_true rfl) c) (fun _ => ?_)
                 refine lv_aload_n hx hb dX12_one_234 rfl (lv_at hl 4 rfl) ?_
                 refine jcallV (As := []) (rest := []) ⟨hx, hb, hml, hown, hts⟩ hK hP hA hS hZ (c_X12_wrong l D cI cL ad zz hJ σ τ hI121) cw_RX12_214 (jc_55 cI cL ad σ τ) rfl ⟨by dsimp only; omega, by dsimp only; omega⟩ rfl rfl rfl hl.1 rfl (Nat.le_of_ble_eq_true rfl) dX12_one_235 ⟨Nat.zero_le _, Nat.zero_le _⟩ (fun r207 σ206 τ206 H locs h206 hP hS => ?_)
                 obtain ⟨rfl, f208, f209, I210, h206⟩ := h206
                 obtain ⟨i212, i213, i214, i215, i216⟩ : ((-1) ≤ (σ206 55 18).toInt ∧ (σ206 55 18).toInt ≤ 80) ∧ (0 ≤ (σ206 55 19).toInt) ∧ ((σ206 55 19).toInt ≤ (σ206 55 20).toInt) ∧ ((σ206 55 20).toInt ≤ 80) ∧ ((-1) ≤ (σ206 55 21).toInt ∧ (σ206 55 21).toInt ≤ 80) := id I210
                 have z217 : (σ206 55 18).toInt = (σ 55 18).toInt := (congrArg Int32.toInt (show σ206 55 18 = (σ 55 18) from (f209 18 (of_decide_eq_true rfl))))
                 have z218 : (σ206 55 19).toInt = (σ 55 19).toInt := (congrArg Int32.toInt (show σ206 55 19 = (σ 55 19) from (f209 19 (of_decide_eq_true rfl))))
                 have z219 : (σ206 55 20).toInt = (σ 55 20).toInt := (congrArg Int32.toInt (show σ206 55 20 = (σ 55 20) from (f209 20 (of_decide_eq_true rfl))))
                 obtain ⟨k220, k221, h206⟩ := h206
                 have h222 := h206
                 obtain ⟨q224, k223⟩ := h222
                 have q224 := q224.symm
                 subst q224
                 refine lv_goto (tgt := 242) hx hb dX12_one_238 (of_decide_eq_true rfl) ?_
                 have z225 : (σ206 55 22).toInt = (σ 55 22).toInt := (congrArg Int32.toInt (show σ206 55 22 = (σ 55 22) from (f209 22 (of_decide_eq_true rfl))))
                 exact by exact hret 0 σ206 τ _ _ _ _ rfl ⟨rfl, (fun i hi => (f208 i hi)), (fun i hi => (f209 i (imp_172 i hi))), I210, (jRp.bad (by omega) (by omega) (by rw [jNm_b (show jYs (jVw (σ 55 18).toInt (σ 63) (σ 64)) (σ 55 20).toInt (σ 55 19).toInt = r8.toInt ∨ (jYs (jVw (σ 55 18).toInt (σ 63) (σ 64)) (σ 55 20).toInt (σ 55 19).toInt = -1 ∧ r8.toInt = 0) by omega)]; have h9 := jz_m1; omega) (by omega) (by omega) (by omega)), (by omega), (by omega), trivial⟩ hP hS dX12_one_242
               · have kc205 := jnlt c205 jz_57 rfl
                 have k226 : (σ 55 19).toInt < (σ 55 20).toInt ∧ jYs (jVw (σ 55 18).toInt (σ 63) (σ 64)) (σ 55 20).toInt (σ 55 19).toInt = r8.toInt := by omega
                 clear k13 kc14 kc82 kc146
                 refine lv_bipush (v := 10) hx hb dX12_one_200 (of_decide_eq_true rfl) ?_
                 refine lv_iload_n hx hb dX12_one_202 rfl (lv_at hl 1 rfl) ?_
                 refine lv_imul hx hb dX12_one_203 ?_
                 refine jtopr (y := 0) (of_decide_eq_true rfl) ?_
                 refine lv_aload_n hx hb dX12_one_204 rfl (lv_at hl 4 rfl) ?_
                 refine jcallV (As := []) (rest := [.int 0]) ⟨hx, hb, hml, hown, hts⟩ hK hP hA hS hZ (c_X12_byteAt l D cI cL ad zz hJ σ τ hI121) cw_RX12_189 (jc_55 cI cL ad σ τ) rfl ⟨by dsimp only; omega, by dsimp only; omega⟩ rfl rfl rfl hl.1 rfl (Nat.le_of_ble_eq_true rfl) dX12_one_205 ⟨Nat.zero_le _, Nat.zero_le _⟩ (fun r228 σ227 τ227 H locs h227 hP hS => ?_)
                 obtain ⟨⟨rfl, rfl⟩, h227⟩ := h227
                 have h229 := h227
                 obtain ⟨q232, k230, k231⟩ := h229
                 have k233 := k231.det k11
                 refine lv_iadd hx hb dX12_one_208 ?_
                 exact by
                  refine jtopr (y := r228) (by rw [Int32.zero_add]) ?_
                  refine lv_bipush (v := 48) hx hb dX12_one_209 (of_decide_eq_true rfl) ?_
                  have g234 := jrg (rfl : r228.toInt = r228.toInt)
                  refine lv_isub hx hb dX12_one_211 ?_
                  refine lv_topi (fun x235 ex235 => ?_)
                  have tx235 : x235.toInt = r228.toInt - 48 := (jsub ex235 rfl jz_48 (by omega) (by omega)).trans (by omega)
                  refine lv_istore_n (lv' := [(3, .int x235), (4, .int 0), (2, .int (-1)), (1, .int r8), (0, .ref (ad 55))]) hx hb dX12_one_212 rfl hl (of_decide_eq_true rfl) rfl (fun ls hl => ?_)
                  refine lv_iinc (v := 1) (lv' := [(4, .int 1), (3, .int x235), (2, .int (-1)), (1, .int r8), (0, .ref (ad 55))]) hx hb dX12_one_213 hl (k := 1) rfl (of_decide_eq_true rfl) (of_decide_eq_true rfl) rfl (fun ls hl => ?_)
                  refine lv_aload_n hx hb dX12_one_216 rfl (lv_at hl 4 rfl) ?_
                  exact by
                   refine lv_dup hx hb dX12_one_217 rfl ?_
                   refine va_get (D := D) hx hb hts inlX12 hown hK hP 55 (jc_55 cI cL ad σ τ) rfl 19 (of_decide_eq_true rfl) (hts _ kw_15_11) (fun _ h9 => h9) rfl dX12_one_218 ?_
                   refine lv_iconst (v := 1) hx hb dX12_one_221 (of_decide_eq_true rfl) ?_
                   have g236 := jrg (rfl : (σ 55 19).toInt = (σ 55 19).toInt)
                   refine lv_iadd hx hb dX12_one_222 ?_
                   refine lv_topi (fun x237 ex237 => ?_)
                   have tx237 : x237.toInt = (σ 55 19).toInt + 1 := (jadd ex237 rfl jz_1 (by omega) (by omega)).trans (by omega)
                   refine jput (ty := .int) hx hb hts inlX12 tyX12 tyX12_ok nmX12 hown hK hP hJ hA hS (jc_55 cI cL ad σ τ) rfl (k := 19) (of_decide_eq_true rfl) (Nat.le_of_ble_eq_true rfl) (jp_55_19 cI cL ad σ τ x237) (hts _ kw_15_11) (fun _ h9 => h9) rfl (by decide +kernel) rfl rfl dX12_one_223 (fun σ238 H locs eσ238 hP hS => ?_)
                   refine lv_goto (tgt := 176) hx hb dX12_one_226 (of_decide_eq_true rfl) ?_
                   exact by
                    refine lv_iload hx hb dX12_one_176 (lv_at hl 0 rfl) ?_
                    refine lv_iconst (v := 4) hx hb dX12_one_178 (of_decide_eq_true rfl) ?_
                    refine lv_icmp_ge (tgt := 229) hx hb dX12_one_179 (of_decide_eq_true rfl) (fun c => absurd c (of_decide_eq_true rfl)) (fun _ => ?_)
                    refine lv_aload_n hx hb dX12_one_182 rfl (lv_at hl 4 rfl) ?_
                    have z239 : (σ238 55 18).toInt = (σ 55 18).toInt := (congrArg Int32.toInt (show σ238 55 18 = (σ 55 18) from (jkp 18 eσ238 (of_decide_eq_true rfl))))
                    have z240 : (σ238 55 19).toInt = (σ 55 19).toInt + 1 := ((congrArg Int32.toInt (show σ238 55 19 = x237 from (jsp eσ238))).trans tx237)
                    have z241 : (σ238 55 20).toInt = (σ 55 20).toInt := (congrArg Int32.toInt (show σ238 55 20 = (σ 55 20) from (jkp 20 eσ238 (of_decide_eq_true rfl))))
                    have z242 : (σ238 55 21).toInt = (σ 55 21).toInt := (congrArg Int32.toInt (show σ238 55 21 = (σ 55 21) from (jkp 21 eσ238 (of_decide_eq_true rfl))))
                    have I243 : jI121 σ238 := ⟨(by omega), (by omega), (by omega), (by omega), (by omega)⟩
                    exact by
                     refine jcallV (As := []) (rest := []) ⟨hx, hb, hml, hown, hts⟩ hK hP hA hS hZ (c_X12_byteAt l D cI cL ad zz hJ σ238 τ I243) cw_RX12_189 (jc_55 cI cL ad σ238 τ) rfl ⟨by dsimp only; omega, by dsimp only; omega⟩ rfl rfl rfl hl.1 rfl (Nat.le_of_ble_eq_true rfl) dX12_one_183 ⟨Nat.zero_le _, Nat.zero_le _⟩ (fun r245 σ244 τ244 H locs h244 hP hS => ?_)
                     obtain ⟨⟨rfl, rfl⟩, h244⟩ := h244
                     have h246 := h244
                     obtain ⟨q249, k247, k248⟩ := h246
                     try rw [show (σ238 55 19).toInt = (σ 55 19).toInt + 1 from by omega] at k248
                     try rw [show (σ238 55 20).toInt = (σ 55 20).toInt from by omega] at k248
                     try rw [show (σ238 55 18).toInt = (σ 55 18).toInt from by omega] at k248
                     try rw [show σ238 63 = σ 63 from (jnp 63 eσ238 (of_decide_eq_true rfl))] at k248
                     try rw [show σ238 64 = σ 64 from (jnp 64 eσ238 (of_decide_eq_true rfl))] at k248
                     exact by
                      have k250 := k248.ys (by omega)
                      refine lv_bipush (v := 48) hx hb dX12_one_186 (of_decide_eq_true rfl) ?_
                      refine lv_icmp_lt (tgt := 229) hx hb dX12_one_188 (of_decide_eq_true rfl) (fun c251 => ?_) (fun c251 => ?_)
                      · have kc251 := jlt c251 rfl jz_48
                        refine lv_iload hx hb dX12_one_229 (lv_at hl 0 rfl) ?_
                        refine lv_if_ne (tgt := 241) hx hb dX12_one_231 (of_decide_eq_true rfl) (fun _ => ?_) (fun c => absurd c (of_decide_eq_true rfl))
                        refine lv_iload_n hx hb dX12_one_241 rfl (lv_at hl 1 rfl) ?_
                        have z252 : (σ238 55 22).toInt = (σ 55 22).toInt := (congrArg Int32.toInt (show σ238 55 22 = (σ 55 22) from (jkp 22 eσ238 (of_decide_eq_true rfl))))
                        exact by exact hret x235 σ238 τ _ _ _ _ rfl ⟨rfl, (fun i hi => (jnp i eσ238 (imp_165 i hi))), (fun i hi => (jkp i eσ238 (imp_171 i hi))), I243, (jRp.num (by omega) (by unfold jNq; first | ((repeat (first | rw [if_pos (by omega)] | rw [if_neg (by omega)])) <;> omega) | ((repeat' split) <;> omega)) (by omega) (by omega) (by omega) (by have h9 := tx235; unfold jNv; first | ((repeat (first | rw [if_pos (by omega)] | rw [if_neg (by omega)])) <;> omega) | ((repeat' split) <;> omega))), (by omega), (by omega), trivial⟩ hP hS dX12_one_242
                      · have kc251 := jnlt c251 rfl jz_48
                        refine lv_aload_n hx hb dX12_one_191 rfl (lv_at hl 4 rfl) ?_
                        refine jcallV (As := []) (rest := []) ⟨hx, hb, hml, hown, hts⟩ hK hP hA hS hZ (c_X12_byteAt l D cI cL ad zz hJ σ238 τ I243) cw_RX12_189 (jc_55 cI cL ad σ238 τ) rfl ⟨by dsimp only; omega, by dsimp only; omega⟩ rfl rfl rfl hl.1 rfl (Nat.le_of_ble_eq_true rfl) dX12_one_192 ⟨Nat.zero_le _, Nat.zero_le _⟩ (fun r254 σ253 τ253 H locs h253 hP hS => ?_)
                        obtain ⟨⟨rfl, rfl⟩, h253⟩ := h253
                        have h255 := h253
                        obtain ⟨q258, k256, k257⟩ := h255
                        try rw [show (σ238 55 19).toInt = (σ 55 19).toInt + 1 from by omega] at k257
                        try rw [show (σ238 55 20).toInt = (σ 55 20).toInt from by omega] at k257
                        try rw [show (σ238 55 18).toInt = (σ 55 18).toInt from by omega] at k257
                        try rw [show σ238 63 = σ 63 from (jnp 63 eσ238 (of_decide_eq_true rfl))] at k257
                        try rw [show σ238 64 = σ 64 from (jnp 64 eσ238 (of_decide_eq_true rfl))] at k257
                        have k259 := k257.det k248
                        refine lv_bipush (v := 57) hx hb dX12_one_195 (of_decide_eq_true rfl) ?_
                        refine lv_icmp_gt (tgt := 229) hx hb dX12_one_197 (of_decide_eq_true rfl) (fun c260 => ?_) (fun c260 => ?_)
                        · have kc260 := jlt c260 jz_57 rfl
                          refine lv_iload hx hb dX12_one_229 (lv_at hl 0 rfl) ?_
                          refine lv_if_ne (tgt := 241) hx hb dX12_one_231 (of_decide_eq_true rfl) (fun _ => ?_) (fun c => absurd c (of_decide_eq_true rfl))
                          refine lv_iload_n hx hb dX12_one_241 rfl (lv_at hl 1 rfl) ?_
                          have z261 : (σ238 55 22).toInt = (σ 55 22).toInt := (congrArg Int32.toInt (show σ238 55 22 = (σ 55 22) from (jkp 22 eσ238 (of_decide_eq_true rfl))))
                          exact by exact hret x235 σ238 τ _ _ _ _ rfl ⟨rfl, (fun i hi => (jnp i eσ238 (imp_165 i hi))), (fun i hi => (jkp i eσ238 (imp_171 i hi))), I243, (jRp.num (by omega) (by unfold jNq; first | ((repeat (first | rw [if_pos (by omega)] | rw [if_neg (by omega)])) <;> omega) | ((repeat' split) <;> omega)) (by omega) (by omega) (by omega) (by have h9 := tx235; unfold jNv; first | ((repeat (first | rw [if_pos (by omega)] | rw [if_neg (by omega)])) <;> omega) | ((repeat' split) <;> omega))), (by omega), (by omega), trivial⟩ hP hS dX12_one_242
                        · have kc260 := jnlt c260 jz_57 rfl
                          have k262 : (σ 55 19).toInt + 1 < (σ 55 20).toInt ∧ jYs (jVw (σ 55 18).toInt (σ 63) (σ 64)) (σ 55 20).toInt ((σ 55 19).toInt + 1) = r245.toInt := by omega
                          clear k250
                          refine lv_bipush (v := 10) hx hb dX12_one_200 (of_decide_eq_true rfl) ?_
                          refine lv_iload_n hx hb dX12_one_202 rfl (lv_at hl 1 rfl) ?_
                          refine lv_imul hx hb dX12_one_203 ?_
                          refine lv_topi (fun x263 ex263 => ?_)
                          exact by
                           have tx263 : x263.toInt = 10 * r228.toInt - 480 := (jmul ex263 jz_10 tx235 (by omega) (by omega)).trans (by omega)
                           refine lv_aload_n hx hb dX12_one_204 rfl (lv_at hl 4 rfl) ?_
                           refine jcallV (As := []) (rest := [.int x263]) ⟨hx, hb, hml, hown, hts⟩ hK hP hA hS hZ (c_X12_byteAt l D cI cL ad zz hJ σ238 τ I243) cw_RX12_189 (jc_55 cI cL ad σ238 τ) rfl ⟨by dsimp only; omega, by dsimp only; omega⟩ rfl rfl rfl hl.1 rfl (Nat.le_of_ble_eq_true rfl) dX12_one_205 ⟨Nat.zero_le _, Nat.zero_le _⟩ (fun r265 σ264 τ264 H locs h264 hP hS => ?_)
                           obtain ⟨⟨rfl, rfl⟩, h264⟩ := h264
                           have h266 := h264
                           obtain ⟨q269, k267, k268⟩ := h266
                           try rw [show (σ238 55 19).toInt = (σ 55 19).toInt + 1 from by omega] at k268
                           try rw [show (σ238 55 20).toInt = (σ 55 20).toInt from by omega] at k268
                           try rw [show (σ238 55 18).toInt = (σ 55 18).toInt from by omega] at k268
                           try rw [show σ238 63 = σ 63 from (jnp 63 eσ238 (of_decide_eq_true rfl))] at k268
                           try rw [show σ238 64 = σ 64 from (jnp 64 eσ238 (of_decide_eq_true rfl))] at k268
                           have k270 := k268.det k248
                           have g271 := jrg (rfl : r265.toInt = r265.toInt)
                           refine lv_iadd hx hb dX12_one_208 ?_
                           refine lv_topi (fun x272 ex272 => ?_)
                           exact by
                            have tx272 : x272.toInt = 10 * r228.toInt + r265.toInt - 480 := (jadd ex272 tx263 rfl (by omega) (by omega)).trans (by omega)
                            refine lv_bipush (v := 48) hx hb dX12_one_209 (of_decide_eq_true rfl) ?_
                            refine lv_isub hx hb dX12_one_211 ?_
                            refine lv_topi (fun x273 ex273 => ?_)
                            have tx273 : x273.toInt = 10 * r228.toInt + r265.toInt - 528 := (jsub ex273 tx272 jz_48 (by omega) (by omega)).trans (by omega)
                            refine lv_istore_n (lv' := [(3, .int x273), (4, .int 1), (2, .int (-1)), (1, .int r8), (0, .ref (ad 55))]) hx hb dX12_one_212 rfl hl (of_decide_eq_true rfl) rfl (fun ls hl => ?_)
                            refine lv_iinc (v := 2) (lv' := [(4, .int 2), (3, .int x273), (2, .int (-1)), (1, .int r8), (0, .ref (ad 55))]) hx hb dX12_one_213 hl (k := 1) rfl (of_decide_eq_true rfl) (of_decide_eq_true rfl) rfl (fun ls hl => ?_)
                            refine lv_aload_n hx hb dX12_one_216 rfl (lv_at hl 4 rfl) ?_
                            refine lv_dup hx hb dX12_one_217 rfl ?_
                            exact by
                             refine va_get (D := D) hx hb hts inlX12 hown hK hP 55 (jc_55 cI cL ad σ238 τ) rfl 19 (of_decide_eq_true rfl) (hts _ kw_15_11) (fun _ h9 => h9) rfl dX12_one_218 ?_
                             have m274 : σ238 55 19 = x237 := (jsp eσ238)
                             refine jtopr m274 ?_
                             refine lv_iconst (v := 1) hx hb dX12_one_221 (of_decide_eq_true rfl) ?_
                             refine lv_iadd hx hb dX12_one_222 ?_
                             refine lv_topi (fun x275 ex275 => ?_)
                             have tx275 : x275.toInt = (σ 55 19).toInt + 2 := (jadd ex275 tx237 jz_1 (by omega) (by omega)).trans (by omega)
                             refine jput (ty := .int) hx hb hts inlX12 tyX12 tyX12_ok nmX12 hown hK hP hJ hA hS (jc_55 cI cL ad σ238 τ) rfl (k := 19) (of_decide_eq_true rfl) (Nat.le_of_ble_eq_true rfl) (jp_55_19 cI cL ad σ238 τ x275) (hts _ kw_15_11) (fun _ h9 => h9) rfl (by decide +kernel) rfl rfl dX12_one_223 (fun σ276 H locs eσ276 hP hS => ?_)
                             refine lv_goto (tgt := 176) hx hb dX12_one_226 (of_decide_eq_true rfl) ?_
                             exact by
                              refine lv_iload hx hb dX12_one_176 (lv_at hl 0 rfl) ?_
                              refine lv_iconst (v := 4) hx hb dX12_one_178 (of_decide_eq_true rfl) ?_
                              refine lv_icmp_ge (tgt := 229) hx hb dX12_one_179 (of_decide_eq_true rfl) (fun c => absurd c (of_decide_eq_true rfl)) (fun _ => ?_)
                              refine lv_aload_n hx hb dX12_one_182 rfl (lv_at hl 4 rfl) ?_
                              have z277 : (σ276 55 18).toInt = (σ 55 18).toInt := (congrArg Int32.toInt (show σ276 55 18 = (σ 55 18) from ((jkp 18 eσ276 (of_decide_eq_true rfl)).trans (jkp 18 eσ238 (of_decide_eq_true rfl)))))
                              have z278 : (σ276 55 19).toInt = (σ 55 19).toInt + 2 := ((congrArg Int32.toInt (show σ276 55 19 = x275 from (jsp eσ276))).trans tx275)
                              have z279 : (σ276 55 20).toInt = (σ 55 20).toInt := (congrArg Int32.toInt (show σ276 55 20 = (σ 55 20) from ((jkp 20 eσ276 (of_decide_eq_true rfl)).trans (jkp 20 eσ238 (of_decide_eq_true rfl)))))
                              have z280 : (σ276 55 21).toInt = (σ 55 21).toInt := (congrArg Int32.toInt (show σ276 55 21 = (σ 55 21) from ((jkp 21 eσ276 (of_decide_eq_true rfl)).trans (jkp 21 eσ238 (of_decide_eq_true rfl)))))
                              have I281 : jI121 σ276 := ⟨(by omega), (by omega), (by omega), (by omega), (by omega)⟩
                              exact by
                               refine jcallV (As := []) (rest := []) ⟨hx, hb, hml, hown, hts⟩ hK hP hA hS hZ (c_X12_byteAt l D cI cL ad zz hJ σ276 τ I281) cw_RX12_189 (jc_55 cI cL ad σ276 τ) rfl ⟨by dsimp only; omega, by dsimp only; omega⟩ rfl rfl rfl hl.1 rfl (Nat.le_of_ble_eq_true rfl) dX12_one_183 ⟨Nat.zero_le _, Nat.zero_le _⟩ (fun r283 σ282 τ282 H locs h282 hP hS => ?_)
                               obtain ⟨⟨rfl, rfl⟩, h282⟩ := h282
                               have h284 := h282
                               obtain ⟨q287, k285, k286⟩ := h284
                               try rw [show (σ276 55 19).toInt = (σ 55 19).toInt + 2 from by omega] at k286
                               try rw [show (σ276 55 20).toInt = (σ 55 20).toInt from by omega] at k286
                               try rw [show (σ276 55 18).toInt = (σ 55 18).toInt from by omega] at k286
                               try rw [show σ276 63 = σ 63 from ((jnp 63 eσ276 (of_decide_eq_true rfl)).trans (jnp 63 eσ238 (of_decide_eq_true rfl)))] at k286
                               try rw [show σ276 64 = σ 64 from ((jnp 64 eσ276 (of_decide_eq_true rfl)).trans (jnp 64 eσ238 (of_decide_eq_true rfl)))] at k286
                               exact by
                                have k288 := k286.ys (by omega)
                                refine lv_bipush (v := 48) hx hb dX12_one_186 (of_decide_eq_true rfl) ?_
                                refine lv_icmp_lt (tgt := 229) hx hb dX12_one_188 (of_decide_eq_true rfl) (fun c289 => ?_) (fun c289 => ?_)
                                · have kc289 := jlt c289 rfl jz_48
                                  refine lv_iload hx hb dX12_one_229 (lv_at hl 0 rfl) ?_
                                  refine lv_if_ne (tgt := 241) hx hb dX12_one_231 (of_decide_eq_true rfl) (fun _ => ?_) (fun c => absurd c (of_decide_eq_true rfl))
                                  refine lv_iload_n hx hb dX12_one_241 rfl (lv_at hl 1 rfl) ?_
                                  have z290 : (σ276 55 22).toInt = (σ 55 22).toInt := (congrArg Int32.toInt (show σ276 55 22 = (σ 55 22) from ((jkp 22 eσ276 (of_decide_eq_true rfl)).trans (jkp 22 eσ238 (of_decide_eq_true rfl)))))
                                  exact by exact hret x273 σ276 τ _ _ _ _ rfl ⟨rfl, (fun i hi => ((jnp i eσ276 (imp_165 i hi)).trans (jnp i eσ238 (imp_165 i hi)))), (fun i hi => ((jkp i eσ276 (imp_171 i hi)).trans (jkp i eσ238 (imp_171 i hi)))), I281, (jRp.num (by omega) (by unfold jNq; first | ((repeat (first | rw [if_pos (by omega)] | rw [if_neg (by omega)])) <;> omega) | ((repeat' split) <;> omega)) (by omega) (by omega) (by omega) (by have h9 := tx273; unfold jNv; first | ((repeat (first | rw [if_pos (by omega)] | rw [if_neg (by omega)])) <;> omega) | ((repeat' split) <;> omega))), (by omega), (by omega), trivial⟩ hP hS dX12_one_242
                                · have kc289 := jnlt c289 rfl jz_48
                                  refine lv_aload_n hx hb dX12_one_191 rfl (lv_at hl 4 rfl) ?_
                                  refine jcallV (As := []) (rest := []) ⟨hx, hb, hml, hown, hts⟩ hK hP hA hS hZ (c_X12_byteAt l D cI cL ad zz hJ σ276 τ I281) cw_RX12_189 (jc_55 cI cL ad σ276 τ) rfl ⟨by dsimp only; omega, by dsimp only; omega⟩ rfl rfl rfl hl.1 rfl (Nat.le_of_ble_eq_true rfl) dX12_one_192 ⟨Nat.zero_le _, Nat.zero_le _⟩ (fun r292 σ291 τ291 H locs h291 hP hS => ?_)
                                  obtain ⟨⟨rfl, rfl⟩, h291⟩ := h291
                                  have h293 := h291
                                  obtain ⟨q296, k294, k295⟩ := h293
                                  try rw [show (σ276 55 19).toInt = (σ 55 19).toInt + 2 from by omega] at k295
                                  try rw [show (σ276 55 20).toInt = (σ 55 20).toInt from by omega] at k295
                                  try rw [show (σ276 55 18).toInt = (σ 55 18).toInt from by omega] at k295
                                  try rw [show σ276 63 = σ 63 from ((jnp 63 eσ276 (of_decide_eq_true rfl)).trans (jnp 63 eσ238 (of_decide_eq_true rfl)))] at k295
                                  try rw [show σ276 64 = σ 64 from ((jnp 64 eσ276 (of_decide_eq_true rfl)).trans (jnp 64 eσ238 (of_decide_eq_true rfl)))] at k295
                                  have k297 := k295.det k286
                                  refine lv_bipush (v := 57) hx hb dX12_one_195 (of_decide_eq_true rfl) ?_
                                  refine lv_icmp_gt (tgt := 229) hx hb dX12_one_197 (of_decide_eq_true rfl) (fun c298 => ?_) (fun c298 => ?_)
                                  · have kc298 := jlt c298 jz_57 rfl
                                    refine lv_iload hx hb dX12_one_229 (lv_at hl 0 rfl) ?_
                                    refine lv_if_ne (tgt := 241) hx hb dX12_one_231 (of_decide_eq_true rfl) (fun _ => ?_) (fun c => absurd c (of_decide_eq_true rfl))
                                    refine lv_iload_n hx hb dX12_one_241 rfl (lv_at hl 1 rfl) ?_
                                    have z299 : (σ276 55 22).toInt = (σ 55 22).toInt := (congrArg Int32.toInt (show σ276 55 22 = (σ 55 22) from ((jkp 22 eσ276 (of_decide_eq_true rfl)).trans (jkp 22 eσ238 (of_decide_eq_true rfl)))))
                                    exact by exact hret x273 σ276 τ _ _ _ _ rfl ⟨rfl, (fun i hi => ((jnp i eσ276 (imp_165 i hi)).trans (jnp i eσ238 (imp_165 i hi)))), (fun i hi => ((jkp i eσ276 (imp_171 i hi)).trans (jkp i eσ238 (imp_171 i hi)))), I281, (jRp.num (by omega) (by unfold jNq; first | ((repeat (first | rw [if_pos (by omega)] | rw [if_neg (by omega)])) <;> omega) | ((repeat' split) <;> omega)) (by omega) (by omega) (by omega) (by have h9 := tx273; unfold jNv; first | ((repeat (first | rw [if_pos (by omega)] | rw [if_neg (by omega)])) <;> omega) | ((repeat' split) <;> omega))), (by omega), (by omega), trivial⟩ hP hS dX12_one_242
                                  · have kc298 := jnlt c298 jz_57 rfl
                                    have k300 : (σ 55 19).toInt + 2 < (σ 55 20).toInt ∧ jYs (jVw (σ 55 18).toInt (σ 63) (σ 64)) (σ 55 20).toInt ((σ 55 19).toInt + 2) = r283.toInt := by omega
                                    clear k288
                                    refine lv_bipush (v := 10) hx hb dX12_one_200 (of_decide_eq_true rfl) ?_
                                    refine lv_iload_n hx hb dX12_one_202 rfl (lv_at hl 1 rfl) ?_
                                    refine lv_imul hx hb dX12_one_203 ?_
                                    refine lv_topi (fun x301 ex301 => ?_)
                                    exact by
                                     have tx301 : x301.toInt = 100 * r228.toInt + 10 * r265.toInt - 5280 := (jmul ex301 jz_10 tx273 (by omega) (by omega)).trans (by omega)
                                     refine lv_aload_n hx hb dX12_one_204 rfl (lv_at hl 4 rfl) ?_
                                     refine jcallV (As := []) (rest := [.int x301]) ⟨hx, hb, hml, hown, hts⟩ hK hP hA hS hZ (c_X12_byteAt l D cI cL ad zz hJ σ276 τ I281) cw_RX12_189 (jc_55 cI cL ad σ276 τ) rfl ⟨by dsimp only; omega, by dsimp only; omega⟩ rfl rfl rfl hl.1 rfl (Nat.le_of_ble_eq_true rfl) dX12_one_205 ⟨Nat.zero_le _, Nat.zero_le _⟩ (fun r303 σ302 τ302 H locs h302 hP hS => ?_)
                                     obtain ⟨⟨rfl, rfl⟩, h302⟩ := h302
                                     have h304 := h302
                                     obtain ⟨q307, k305, k306⟩ := h304
                                     try rw [show (σ276 55 19).toInt = (σ 55 19).toInt + 2 from by omega] at k306
                                     try rw [show (σ276 55 20).toInt = (σ 55 20).toInt from by omega] at k306
                                     try rw [show (σ276 55 18).toInt = (σ 55 18).toInt from by omega] at k306
                                     try rw [show σ276 63 = σ 63 from ((jnp 63 eσ276 (of_decide_eq_true rfl)).trans (jnp 63 eσ238 (of_decide_eq_true rfl)))] at k306
                                     try rw [show σ276 64 = σ 64 from ((jnp 64 eσ276 (of_decide_eq_true rfl)).trans (jnp 64 eσ238 (of_decide_eq_true rfl)))] at k306
                                     have k308 := k306.det k286
                                     have g309 := jrg (rfl : r303.toInt = r303.toInt)
                                     refine lv_iadd hx hb dX12_one_208 ?_
                                     refine lv_topi (fun x310 ex310 => ?_)
                                     exact by
                                      have tx310 : x310.toInt = 100 * r228.toInt + 10 * r265.toInt + r303.toInt - 5280 := (jadd ex310 tx301 rfl (by omega) (by omega)).trans (by omega)
                                      refine lv_bipush (v := 48) hx hb dX12_one_209 (of_decide_eq_true rfl) ?_
                                      refine lv_isub hx hb dX12_one_211 ?_
                                      refine lv_topi (fun x311 ex311 => ?_)
                                      have tx311 : x311.toInt = 100 * r228.toInt + 10 * r265.toInt + r303.toInt - 5328 := (jsub ex311 tx310 jz_48 (by omega) (by omega)).trans (by omega)
                                      refine lv_istore_n (lv' := [(3, .int x311), (4, .int 2), (2, .int (-1)), (1, .int r8), (0, .ref (ad 55))]) hx hb dX12_one_212 rfl hl (of_decide_eq_true rfl) rfl (fun ls hl => ?_)
                                      refine lv_iinc (v := 3) (lv' := [(4, .int 3), (3, .int x311), (2, .int (-1)), (1, .int r8), (0, .ref (ad 55))]) hx hb dX12_one_213 hl (k := 1) rfl (of_decide_eq_true rfl) (of_decide_eq_true rfl) rfl (fun ls hl => ?_)
                                      refine lv_aload_n hx hb dX12_one_216 rfl (lv_at hl 4 rfl) ?_
                                      refine lv_dup hx hb dX12_one_217 rfl ?_
                                      exact by
                                       refine va_get (D := D) hx hb hts inlX12 hown hK hP 55 (jc_55 cI cL ad σ276 τ) rfl 19 (of_decide_eq_true rfl) (hts _ kw_15_11) (fun _ h9 => h9) rfl dX12_one_218 ?_
                                       have m312 : σ276 55 19 = x275 := (jsp eσ276)
                                       refine jtopr m312 ?_
                                       refine lv_iconst (v := 1) hx hb dX12_one_221 (of_decide_eq_true rfl) ?_
                                       refine lv_iadd hx hb dX12_one_222 ?_
                                       refine lv_topi (fun x313 ex313 => ?_)
                                       have tx313 : x313.toInt = (σ 55 19).toInt + 3 := (jadd ex313 tx275 jz_1 (by omega) (by omega)).trans (by omega)
                                       refine jput (ty := .int) hx hb hts inlX12 tyX12 tyX12_ok nmX12 hown hK hP hJ hA hS (jc_55 cI cL ad σ276 τ) rfl (k := 19) (of_decide_eq_true rfl) (Nat.le_of_ble_eq_true rfl) (jp_55_19 cI cL ad σ276 τ x313) (hts _ kw_15_11) (fun _ h9 => h9) rfl (by decide +kernel) rfl rfl dX12_one_223 (fun σ314 H locs eσ314 hP hS => ?_)
                                       refine lv_goto (tgt := 176) hx hb dX12_one_226 (of_decide_eq_true rfl) ?_
                                       exact by
                                        refine lv_iload hx hb dX12_one_176 (lv_at hl 0 rfl) ?_
                                        refine lv_iconst (v := 4) hx hb dX12_one_178 (of_decide_eq_true rfl) ?_
                                        refine lv_icmp_ge (tgt := 229) hx hb dX12_one_179 (of_decide_eq_true rfl) (fun c => absurd c (of_decide_eq_true rfl)) (fun _ => ?_)
                                        refine lv_aload_n hx hb dX12_one_182 rfl (lv_at hl 4 rfl) ?_
                                        have z315 : (σ314 55 18).toInt = (σ 55 18).toInt := (congrArg Int32.toInt (show σ314 55 18 = (σ 55 18) from ((jkp 18 eσ314 (of_decide_eq_true rfl)).trans ((jkp 18 eσ276 (of_decide_eq_true rfl)).trans (jkp 18 eσ238 (of_decide_eq_true rfl))))))
                                        have z316 : (σ314 55 19).toInt = (σ 55 19).toInt + 3 := ((congrArg Int32.toInt (show σ314 55 19 = x313 from (jsp eσ314))).trans tx313)
                                        have z317 : (σ314 55 20).toInt = (σ 55 20).toInt := (congrArg Int32.toInt (show σ314 55 20 = (σ 55 20) from ((jkp 20 eσ314 (of_decide_eq_true rfl)).trans ((jkp 20 eσ276 (of_decide_eq_true rfl)).trans (jkp 20 eσ238 (of_decide_eq_true rfl))))))
                                        have z318 : (σ314 55 21).toInt = (σ 55 21).toInt := (congrArg Int32.toInt (show σ314 55 21 = (σ 55 21) from ((jkp 21 eσ314 (of_decide_eq_true rfl)).trans ((jkp 21 eσ276 (of_decide_eq_true rfl)).trans (jkp 21 eσ238 (of_decide_eq_true rfl))))))
                                        have I319 : jI121 σ314 := ⟨(by omega), (by omega), (by omega), (by omega), (by omega)⟩
                                        exact by
                                         refine jcallV (As := []) (rest := []) ⟨hx, hb, hml, hown, hts⟩ hK hP hA hS hZ (c_X12_byteAt l D cI cL ad zz hJ σ314 τ I319) cw_RX12_189 (jc_55 cI cL ad σ314 τ) rfl ⟨by dsimp only; omega, by dsimp only; omega⟩ rfl rfl rfl hl.1 rfl (Nat.le_of_ble_eq_true rfl) dX12_one_183 ⟨Nat.zero_le _, Nat.zero_le _⟩ (fun r321 σ320 τ320 H locs h320 hP hS => ?_)
                                         obtain ⟨⟨rfl, rfl⟩, h320⟩ := h320
                                         have h322 := h320
                                         obtain ⟨q325, k323, k324⟩ := h322
                                         try rw [show (σ314 55 19).toInt = (σ 55 19).toInt + 3 from by omega] at k324
                                         try rw [show (σ314 55 20).toInt = (σ 55 20).toInt from by omega] at k324
                                         try rw [show (σ314 55 18).toInt = (σ 55 18).toInt from by omega] at k324
                                         try rw [show σ314 63 = σ 63 from ((jnp 63 eσ314 (of_decide_eq_true rfl)).trans ((jnp 63 eσ276 (of_decide_eq_true rfl)).trans (jnp 63 eσ238 (of_decide_eq_true rfl))))] at k324
                                         try rw [show σ314 64 = σ 64 from ((jnp 64 eσ314 (of_decide_eq_true rfl)).trans ((jnp 64 eσ276 (of_decide_eq_true rfl)).trans (jnp 64 eσ238 (of_decide_eq_true rfl))))] at k324
                                         exact by
                                          have k326 := k324.ys (by omega)
                                          refine lv_bipush (v := 48) hx hb dX12_one_186 (of_decide_eq_true rfl) ?_
                                          refine lv_icmp_lt (tgt := 229) hx hb dX12_one_188 (of_decide_eq_true rfl) (fun c327 => ?_) (fun c327 => ?_)
                                          · have kc327 := jlt c327 rfl jz_48
                                            refine lv_iload hx hb dX12_one_229 (lv_at hl 0 rfl) ?_
                                            refine lv_if_ne (tgt := 241) hx hb dX12_one_231 (of_decide_eq_true rfl) (fun _ => ?_) (fun c => absurd c (of_decide_eq_true rfl))
                                            refine lv_iload_n hx hb dX12_one_241 rfl (lv_at hl 1 rfl) ?_
                                            have z328 : (σ314 55 22).toInt = (σ 55 22).toInt := (congrArg Int32.toInt (show σ314 55 22 = (σ 55 22) from ((jkp 22 eσ314 (of_decide_eq_true rfl)).trans ((jkp 22 eσ276 (of_decide_eq_true rfl)).trans (jkp 22 eσ238 (of_decide_eq_true rfl))))))
                                            exact by exact hret x311 σ314 τ _ _ _ _ rfl ⟨rfl, (fun i hi => ((jnp i eσ314 (imp_165 i hi)).trans ((jnp i eσ276 (imp_165 i hi)).trans (jnp i eσ238 (imp_165 i hi))))), (fun i hi => ((jkp i eσ314 (imp_171 i hi)).trans ((jkp i eσ276 (imp_171 i hi)).trans (jkp i eσ238 (imp_171 i hi))))), I319, (jRp.num (by omega) (by unfold jNq; first | ((repeat (first | rw [if_pos (by omega)] | rw [if_neg (by omega)])) <;> omega) | ((repeat' split) <;> omega)) (by omega) (by omega) (by omega) (by have h9 := tx311; unfold jNv; first | ((repeat (first | rw [if_pos (by omega)] | rw [if_neg (by omega)])) <;> omega) | ((repeat' split) <;> omega))), (by omega), (by omega), trivial⟩ hP hS dX12_one_242
                                          · have kc327 := jnlt c327 rfl jz_48
                                            refine lv_aload_n hx hb dX12_one_191 rfl (lv_at hl 4 rfl) ?_
                                            refine jcallV (As := []) (rest := []) ⟨hx, hb, hml, hown, hts⟩ hK hP hA hS hZ (c_X12_byteAt l D cI cL ad zz hJ σ314 τ I319) cw_RX12_189 (jc_55 cI cL ad σ314 τ) rfl ⟨by dsimp only; omega, by dsimp only; omega⟩ rfl rfl rfl hl.1 rfl (Nat.le_of_ble_eq_true rfl) dX12_one_192 ⟨Nat.zero_le _, Nat.zero_le _⟩ (fun r330 σ329 τ329 H locs h329 hP hS => ?_)
                                            obtain ⟨⟨rfl, rfl⟩, h329⟩ := h329
                                            have h331 := h329
                                            obtain ⟨q334, k332, k333⟩ := h331
                                            try rw [show (σ314 55 19).toInt = (σ 55 19).toInt + 3 from by omega] at k333
                                            try rw [show (σ314 55 20).toInt = (σ 55 20).toInt from by omega] at k333
                                            try rw [show (σ314 55 18).toInt = (σ 55 18).toInt from by omega] at k333
                                            try rw [show σ314 63 = σ 63 from ((jnp 63 eσ314 (of_decide_eq_true rfl)).trans ((jnp 63 eσ276 (of_decide_eq_true rfl)).trans (jnp 63 eσ238 (of_decide_eq_true rfl))))] at k333
                                            try rw [show σ314 64 = σ 64 from ((jnp 64 eσ314 (of_decide_eq_true rfl)).trans ((jnp 64 eσ276 (of_decide_eq_true rfl)).trans (jnp 64 eσ238 (of_decide_eq_true rfl))))] at k333
                                            have k335 := k333.det k324
                                            refine lv_bipush (v := 57) hx hb dX12_one_195 (of_decide_eq_true rfl) ?_
                                            refine lv_icmp_gt (tgt := 229) hx hb dX12_one_197 (of_decide_eq_true rfl) (fun c336 => ?_) (fun c336 => ?_)
                                            · have kc336 := jlt c336 jz_57 rfl
                                              refine lv_iload hx hb dX12_one_229 (lv_at hl 0 rfl) ?_
                                              refine lv_if_ne (tgt := 241) hx hb dX12_one_231 (of_decide_eq_true rfl) (fun _ => ?_) (fun c => absurd c (of_decide_eq_true rfl))
                                              refine lv_iload_n hx hb dX12_one_241 rfl (lv_at hl 1 rfl) ?_
                                              have z337 : (σ314 55 22).toInt = (σ 55 22).toInt := (congrArg Int32.toInt (show σ314 55 22 = (σ 55 22) from ((jkp 22 eσ314 (of_decide_eq_true rfl)).trans ((jkp 22 eσ276 (of_decide_eq_true rfl)).trans (jkp 22 eσ238 (of_decide_eq_true rfl))))))
                                              exact by exact hret x311 σ314 τ _ _ _ _ rfl ⟨rfl, (fun i hi => ((jnp i eσ314 (imp_165 i hi)).trans ((jnp i eσ276 (imp_165 i hi)).trans (jnp i eσ238 (imp_165 i hi))))), (fun i hi => ((jkp i eσ314 (imp_171 i hi)).trans ((jkp i eσ276 (imp_171 i hi)).trans (jkp i eσ238 (imp_171 i hi))))), I319, (jRp.num (by omega) (by unfold jNq; first | ((repeat (first | rw [if_pos (by omega)] | rw [if_neg (by omega)])) <;> omega) | ((repeat' split) <;> omega)) (by omega) (by omega) (by omega) (by have h9 := tx311; unfold jNv; first | ((repeat (first | rw [if_pos (by omega)] | rw [if_neg (by omega)])) <;> omega) | ((repeat' split) <;> omega))), (by omega), (by omega), trivial⟩ hP hS dX12_one_242
                                            · have kc336 := jnlt c336 jz_57 rfl
                                              have k338 : (σ 55 19).toInt + 3 < (σ 55 20).toInt ∧ jYs (jVw (σ 55 18).toInt (σ 63) (σ 64)) (σ 55 20).toInt ((σ 55 19).toInt + 3) = r321.toInt := by omega
                                              clear k326
                                              refine lv_bipush (v := 10) hx hb dX12_one_200 (of_decide_eq_true rfl) ?_
                                              refine lv_iload_n hx hb dX12_one_202 rfl (lv_at hl 1 rfl) ?_
                                              refine lv_imul hx hb dX12_one_203 ?_
                                              refine lv_topi (fun x339 ex339 => ?_)
                                              exact by
                                               have tx339 : x339.toInt = 1000 * r228.toInt + 100 * r265.toInt + 10 * r303.toInt - 53280 := (jmul ex339 jz_10 tx311 (by omega) (by omega)).trans (by omega)
                                               refine lv_aload_n hx hb dX12_one_204 rfl (lv_at hl 4 rfl) ?_
                                               refine jcallV (As := []) (rest := [.int x339]) ⟨hx, hb, hml, hown, hts⟩ hK hP hA hS hZ (c_X12_byteAt l D cI cL ad zz hJ σ314 τ I319) cw_RX12_189 (jc_55 cI cL ad σ314 τ) rfl ⟨by dsimp only; omega, by dsimp only; omega⟩ rfl rfl rfl hl.1 rfl (Nat.le_of_ble_eq_true rfl) dX12_one_205 ⟨Nat.zero_le _, Nat.zero_le _⟩ (fun r341 σ340 τ340 H locs h340 hP hS => ?_)
                                               obtain ⟨⟨rfl, rfl⟩, h340⟩ := h340
                                               have h342 := h340
                                               obtain ⟨q345, k343, k344⟩ := h342
                                               try rw [show (σ314 55 19).toInt = (σ 55 19).toInt + 3 from by omega] at k344
                                               try rw [show (σ314 55 20).toInt = (σ 55 20).toInt from by omega] at k344
                                               try rw [show (σ314 55 18).toInt = (σ 55 18).toInt from by omega] at k344
                                               try rw [show σ314 63 = σ 63 from ((jnp 63 eσ314 (of_decide_eq_true rfl)).trans ((jnp 63 eσ276 (of_decide_eq_true rfl)).trans (jnp 63 eσ238 (of_decide_eq_true rfl))))] at k344
                                               try rw [show σ314 64 = σ 64 from ((jnp 64 eσ314 (of_decide_eq_true rfl)).trans ((jnp 64 eσ276 (of_decide_eq_true rfl)).trans (jnp 64 eσ238 (of_decide_eq_true rfl))))] at k344
                                               have k346 := k344.det k324
                                               have g347 := jrg (rfl : r341.toInt = r341.toInt)
                                               refine lv_iadd hx hb dX12_one_208 ?_
                                               refine lv_topi (fun x348 ex348 => ?_)
                                               exact by
                                                have tx348 : x348.toInt = 1000 * r228.toInt + 100 * r265.toInt + 10 * r303.toInt + r341.toInt - 53280 := (jadd ex348 tx339 rfl (by omega) (by omega)).trans (by omega)
                                                refine lv_bipush (v := 48) hx hb dX12_one_209 (of_decide_eq_true rfl) ?_
                                                refine lv_isub hx hb dX12_one_211 ?_
                                                refine lv_topi (fun x349 ex349 => ?_)
                                                have tx349 : x349.toInt = 1000 * r228.toInt + 100 * r265.toInt + 10 * r303.toInt + r341.toInt - 53328 := (jsub ex349 tx348 jz_48 (by omega) (by omega)).trans (by omega)
                                                refine lv_istore_n (lv' := [(3, .int x349), (4, .int 3), (2, .int (-1)), (1, .int r8), (0, .ref (ad 55))]) hx hb dX12_one_212 rfl hl (of_decide_eq_true rfl) rfl (fun ls hl => ?_)
                                                refine lv_iinc (v := 4) (lv' := [(4, .int 4), (3, .int x349), (2, .int (-1)), (1, .int r8), (0, .ref (ad 55))]) hx hb dX12_one_213 hl (k := 1) rfl (of_decide_eq_true rfl) (of_decide_eq_true rfl) rfl (fun ls hl => ?_)
                                                refine lv_aload_n hx hb dX12_one_216 rfl (lv_at hl 4 rfl) ?_
                                                refine lv_dup hx hb dX12_one_217 rfl ?_
                                                exact by
                                                 refine va_get (D := D) hx hb hts inlX12 hown hK hP 55 (jc_55 cI cL ad σ314 τ) rfl 19 (of_decide_eq_true rfl) (hts _ kw_15_11) (fun _ h9 => h9) rfl dX12_one_218 ?_
                                                 have m350 : σ314 55 19 = x313 := (jsp eσ314)
                                                 refine jtopr m350 ?_
                                                 refine lv_iconst (v := 1) hx hb dX12_one_221 (of_decide_eq_true rfl) ?_
                                                 refine lv_iadd hx hb dX12_one_222 ?_
                                                 refine lv_topi (fun x351 ex351 => ?_)
                                                 have tx351 : x351.toInt = (σ 55 19).toInt + 4 := (jadd ex351 tx313 jz_1 (by omega) (by omega)).trans (by omega)
                                                 refine jput (ty := .int) hx hb hts inlX12 tyX12 tyX12_ok nmX12 hown hK hP hJ hA hS (jc_55 cI cL ad σ314 τ) rfl (k := 19) (of_decide_eq_true rfl) (Nat.le_of_ble_eq_true rfl) (jp_55_19 cI cL ad σ314 τ x351) (hts _ kw_15_11) (fun _ h9 => h9) rfl (by decide +kernel) rfl rfl dX12_one_223 (fun σ352 H locs eσ352 hP hS => ?_)
                                                 refine lv_goto (tgt := 176) hx hb dX12_one_226 (of_decide_eq_true rfl) ?_
                                                 exact by
                                                  refine lv_iload hx hb dX12_one_176 (lv_at hl 0 rfl) ?_
                                                  refine lv_iconst (v := 4) hx hb dX12_one_178 (of_decide_eq_true rfl) ?_
                                                  refine lv_icmp_ge (tgt := 229) hx hb dX12_one_179 (of_decide_eq_true rfl) (fun _ => ?_) (fun c => absurd (of_decide_eq_true rfl) c)
                                                  refine lv_iload hx hb dX12_one_229 (lv_at hl 0 rfl) ?_
                                                  refine lv_if_ne (tgt := 241) hx hb dX12_one_231 (of_decide_eq_true rfl) (fun _ => ?_) (fun c => absurd c (of_decide_eq_true rfl))
                                                  refine lv_iload_n hx hb dX12_one_241 rfl (lv_at hl 1 rfl) ?_
                                                  have z353 : (σ352 55 18).toInt = (σ 55 18).toInt := (congrArg Int32.toInt (show σ352 55 18 = (σ 55 18) from ((jkp 18 eσ352 (of_decide_eq_true rfl)).trans ((jkp 18 eσ314 (of_decide_eq_true rfl)).trans ((jkp 18 eσ276 (of_decide_eq_true rfl)).trans (jkp 18 eσ238 (of_decide_eq_true rfl)))))))
                                                  have z354 : (σ352 55 19).toInt = (σ 55 19).toInt + 4 := ((congrArg Int32.toInt (show σ352 55 19 = x351 from (jsp eσ352))).trans tx351)
                                                  have z355 : (σ352 55 20).toInt = (σ 55 20).toInt := (congrArg Int32.toInt (show σ352 55 20 = (σ 55 20) from ((jkp 20 eσ352 (of_decide_eq_true rfl)).trans ((jkp 20 eσ314 (of_decide_eq_true rfl)).trans ((jkp 20 eσ276 (of_decide_eq_true rfl)).trans (jkp 20 eσ238 (of_decide_eq_true rfl)))))))
                                                  have z356 : (σ352 55 21).toInt = (σ 55 21).toInt := (congrArg Int32.toInt (show σ352 55 21 = (σ 55 21) from ((jkp 21 eσ352 (of_decide_eq_true rfl)).trans ((jkp 21 eσ314 (of_decide_eq_true rfl)).trans ((jkp 21 eσ276 (of_decide_eq_true rfl)).trans (jkp 21 eσ238 (of_decide_eq_true rfl)))))))
                                                  exact by
                                                   have I357 : jI121 σ352 := ⟨(by omega), (by omega), (by omega), (by omega), (by omega)⟩
                                                   have z358 : (σ352 55 22).toInt = (σ 55 22).toInt := (congrArg Int32.toInt (show σ352 55 22 = (σ 55 22) from ((jkp 22 eσ352 (of_decide_eq_true rfl)).trans ((jkp 22 eσ314 (of_decide_eq_true rfl)).trans ((jkp 22 eσ276 (of_decide_eq_true rfl)).trans (jkp 22 eσ238 (of_decide_eq_true rfl)))))))
                                                   exact by exact hret x349 σ352 τ _ _ _ _ rfl ⟨rfl, (fun i hi => ((jnp i eσ352 (imp_165 i hi)).trans ((jnp i eσ314 (imp_165 i hi)).trans ((jnp i eσ276 (imp_165 i hi)).trans (jnp i eσ238 (imp_165 i hi)))))), (fun i hi => ((jkp i eσ352 (imp_171 i hi)).trans ((jkp i eσ314 (imp_171 i hi)).trans ((jkp i eσ276 (imp_171 i hi)).trans (jkp i eσ238 (imp_171 i hi)))))), I357, (jRp.num (by omega) (by unfold jNq; first | ((repeat (first | rw [if_pos (by omega)] | rw [if_neg (by omega)])) <;> omega) | ((repeat' split) <;> omega)) (by omega) (by omega) (by omega) (by have h9 := tx349; unfold jNv; first | ((repeat (first | rw [if_pos (by omega)] | rw [if_neg (by omega)])) <;> omega) | ((repeat' split) <;> omega))), (by omega), (by omega), trivial⟩ hP hS dX12_one_242
        · have kc146 := jeq c146 rfl jz_40
          refine lv_aload_n hx hb dX12_one_32 rfl (lv_at hl 1 rfl) ?_
          refine va_get (D := D) hx hb hts inlX12 hown hK hP 55 (jc_55 cI cL ad σ τ) rfl 22 (of_decide_eq_true rfl) (hts _ kw_18_21) (fun _ h9 => h9) rfl dX12_one_33 ?_
          refine lv_bipush (v := 6) hx hb dX12_one_36 (of_decide_eq_true rfl) ?_
          refine lv_icmp_ne (tgt := 46) hx hb dX12_one_38 (of_decide_eq_true rfl) (fun c359 => ?_) (fun c359 => ?_)
          · have kc359 := jne c359 rfl jz_6
            refine lv_aload_n hx hb dX12_one_46 rfl (lv_at hl 1 rfl) ?_
            refine lv_dup hx hb dX12_one_47 rfl ?_
            refine va_get (D := D) hx hb hts inlX12 hown hK hP 55 (jc_55 cI cL ad σ τ) rfl 22 (of_decide_eq_true rfl) (hts _ kw_18_21) (fun _ h9 => h9) rfl dX12_one_48 ?_
            refine lv_iconst (v := 1) hx hb dX12_one_51 (of_decide_eq_true rfl) ?_
            have g360 := jrg (rfl : (σ 55 22).toInt = (σ 55 22).toInt)
            refine lv_iadd hx hb dX12_one_52 ?_
            refine lv_topi (fun x361 ex361 => ?_)
            exact by
             have tx361 : x361.toInt = (σ 55 22).toInt + 1 := (jadd ex361 rfl jz_1 (by omega) (by omega)).trans (by omega)
             refine jput (ty := .int) hx hb hts inlX12 tyX12 tyX12_ok nmX12 hown hK hP hJ hA hS (jc_55 cI cL ad σ τ) rfl (k := 22) (of_decide_eq_true rfl) (Nat.le_of_ble_eq_true rfl) (jp_55_22 cI cL ad σ τ x361) (hts _ kw_18_21) (fun _ h9 => h9) rfl (by decide +kernel) rfl rfl dX12_one_53 (fun σ362 H locs eσ362 hP hS => ?_)
             refine lv_aload_n hx hb dX12_one_56 rfl (lv_at hl 1 rfl) ?_
             refine lv_dup hx hb dX12_one_57 rfl ?_
             refine va_get (D := D) hx hb hts inlX12 hown hK hP 55 (jc_55 cI cL ad σ362 τ) rfl 19 (of_decide_eq_true rfl) (hts _ kw_15_11) (fun _ h9 => h9) rfl dX12_one_58 ?_
             have m363 : σ362 55 19 = (σ 55 19) := (jkp 19 eσ362 (of_decide_eq_true rfl))
             refine jtopr m363 ?_
             refine lv_iconst (v := 1) hx hb dX12_one_61 (of_decide_eq_true rfl) ?_
             have g364 := jrg (rfl : (σ 55 19).toInt = (σ 55 19).toInt)
             refine lv_iadd hx hb dX12_one_62 ?_
             refine lv_topi (fun x365 ex365 => ?_)
             exact by
              have tx365 : x365.toInt = (σ 55 19).toInt + 1 := (jadd ex365 rfl jz_1 (by omega) (by omega)).trans (by omega)
              refine jput (ty := .int) hx hb hts inlX12 tyX12 tyX12_ok nmX12 hown hK hP hJ hA hS (jc_55 cI cL ad σ362 τ) rfl (k := 19) (of_decide_eq_true rfl) (Nat.le_of_ble_eq_true rfl) (jp_55_19 cI cL ad σ362 τ x365) (hts _ kw_15_11) (fun _ h9 => h9) rfl (by decide +kernel) rfl rfl dX12_one_63 (fun σ366 H locs eσ366 hP hS => ?_)
              refine lv_iload_n hx hb dX12_one_66 rfl (lv_at hl 0 rfl) ?_
              refine lv_bipush (v := 40) hx hb dX12_one_67 (of_decide_eq_true rfl) ?_
              refine lv_icmp_ne (tgt := 79) hx hb dX12_one_69 (of_decide_eq_true rfl) (fun c => absurd (jne c rfl jz_40) (by omega)) (fun c367 => ?_)
              have kc367 := jeq c367 rfl jz_40
              refine lv_aload_n hx hb dX12_one_72 rfl (lv_at hl 1 rfl) ?_
              have z368 : (σ366 55 18).toInt = (σ 55 18).toInt := (congrArg Int32.toInt (show σ366 55 18 = (σ 55 18) from ((jkp 18 eσ366 (of_decide_eq_true rfl)).trans (jkp 18 eσ362 (of_decide_eq_true rfl)))))
              have z369 : (σ366 55 19).toInt = (σ 55 19).toInt + 1 := ((congrArg Int32.toInt (show σ366 55 19 = x365 from (jsp eσ366))).trans tx365)
              exact by
               have z370 : (σ366 55 20).toInt = (σ 55 20).toInt := (congrArg Int32.toInt (show σ366 55 20 = (σ 55 20) from ((jkp 20 eσ366 (of_decide_eq_true rfl)).trans (jkp 20 eσ362 (of_decide_eq_true rfl)))))
               have z371 : (σ366 55 21).toInt = (σ 55 21).toInt := (congrArg Int32.toInt (show σ366 55 21 = (σ 55 21) from ((jkp 21 eσ366 (of_decide_eq_true rfl)).trans (jkp 21 eσ362 (of_decide_eq_true rfl)))))
               have I372 : jI121 σ366 := ⟨(by omega), (by omega), (by omega), (by omega), (by omega)⟩
               have z373 : (σ366 55 22).toInt = (σ 55 22).toInt + 1 := ((congrArg Int32.toInt (show σ366 55 22 = x361 from ((jkp 22 eσ366 (of_decide_eq_true rfl)).trans (jsp eσ362)))).trans tx361)
               refine jcallV (As := []) (rest := []) ⟨hx, hb, hml, hown, hts⟩ hK hP hA hS hZ (h_either σ366 τ I372 (by omega) (by omega) (by omega)) cw_RX12_217 (jc_55 cI cL ad σ366 τ) rfl ⟨by dsimp only; omega, by dsimp only; omega⟩ rfl rfl rfl hl.1 rfl (Nat.le_of_ble_eq_true rfl) dX12_one_73 ⟨Nat.zero_le _, Nat.zero_le _⟩ (fun r375 σ374 τ374 H locs h374 hP hS => ?_)
               obtain ⟨rfl, f376, f377, I378, w379, h374⟩ := h374
               obtain ⟨i381, i382, i383, i384, i385⟩ : ((-1) ≤ (σ374 55 18).toInt ∧ (σ374 55 18).toInt ≤ 80) ∧ (0 ≤ (σ374 55 19).toInt) ∧ ((σ374 55 19).toInt ≤ (σ374 55 20).toInt) ∧ ((σ374 55 20).toInt ≤ 80) ∧ ((-1) ≤ (σ374 55 21).toInt ∧ (σ374 55 21).toInt ≤ 80) := id I378
               try rw [show (σ366 55 19).toInt = (σ 55 19).toInt + 1 from by omega] at w379
               try rw [show (σ366 55 20).toInt = (σ 55 20).toInt from by omega] at w379
               try rw [show (σ366 55 18).toInt = (σ 55 18).toInt from by omega] at w379
               try rw [show σ366 63 = σ 63 from ((jnp 63 eσ366 (of_decide_eq_true rfl)).trans (jnp 63 eσ362 (of_decide_eq_true rfl)))] at w379
               try rw [show σ366 64 = σ 64 from ((jnp 64 eσ366 (of_decide_eq_true rfl)).trans (jnp 64 eσ362 (of_decide_eq_true rfl)))] at w379
               try rw [show σ366 66 = σ 66 from by rw [jnp 66 eσ366 (of_decide_eq_true rfl), jnp 66 eσ362 (of_decide_eq_true rfl)]] at w379
               try rw [show (σ366 55 22).toInt = (σ 55 22).toInt + 1 from by omega] at w379
               exact by
                have z386 : (σ374 55 18).toInt = (σ 55 18).toInt := (congrArg Int32.toInt (show σ374 55 18 = (σ 55 18) from ((f377 18 (of_decide_eq_true rfl)).trans ((jkp 18 eσ366 (of_decide_eq_true rfl)).trans (jkp 18 eσ362 (of_decide_eq_true rfl))))))
                have z387 : (σ374 55 20).toInt = (σ 55 20).toInt := (congrArg Int32.toInt (show σ374 55 20 = (σ 55 20) from ((f377 20 (of_decide_eq_true rfl)).trans ((jkp 20 eσ366 (of_decide_eq_true rfl)).trans (jkp 20 eσ362 (of_decide_eq_true rfl))))))
                obtain ⟨k388, k389, h374⟩ := h374
                refine lv_goto (tgt := 83) hx hb dX12_one_76 (of_decide_eq_true rfl) ?_
                refine lv_istore_n (lv' := [(2, .int r375), (1, .int r8), (0, .ref (ad 55))]) hx hb dX12_one_83 rfl hl (of_decide_eq_true rfl) rfl (fun ls hl => ?_)
                refine lv_iload_n hx hb dX12_one_84 rfl (lv_at hl 1 rfl) ?_
                refine lv_bipush (v := 40) hx hb dX12_one_85 (of_decide_eq_true rfl) ?_
                refine lv_icmp_ne (tgt := 104) hx hb dX12_one_87 (of_decide_eq_true rfl) (fun c => absurd (jne c rfl jz_40) (by omega)) (fun c390 => ?_)
                have kc390 := jeq c390 rfl jz_40
                exact by
                 refine lv_aload_n hx hb dX12_one_90 rfl (lv_at hl 2 rfl) ?_
                 refine lv_bipush (v := 41) hx hb dX12_one_91 (of_decide_eq_true rfl) ?_
                 refine jcallV (As := [.int 41]) (rest := []) ⟨hx, hb, hml, hown, hts⟩ hK hP hA hS hZ (c_X12_takes l D cI cL ad zz hJ σ374 τ 41 (41) jz_41 I378 (by omega)) cw_RX12_196 (jc_55 cI cL ad σ374 τ) rfl ⟨by dsimp only; omega, by dsimp only; omega⟩ rfl rfl rfl hl.1 rfl (Nat.le_of_ble_eq_true rfl) dX12_one_93 ⟨Nat.zero_le _, Nat.zero_le _⟩ (fun r392 σ391 τ391 H locs h391 hP hS => ?_)
                 obtain ⟨rfl, f393, f394, I395, h391⟩ := h391
                 obtain ⟨i397, i398, i399, i400, i401⟩ : ((-1) ≤ (σ391 55 18).toInt ∧ (σ391 55 18).toInt ≤ 80) ∧ (0 ≤ (σ391 55 19).toInt) ∧ ((σ391 55 19).toInt ≤ (σ391 55 20).toInt) ∧ ((σ391 55 20).toInt ≤ 80) ∧ ((-1) ≤ (σ391 55 21).toInt ∧ (σ391 55 21).toInt ≤ 80) := id I395
                 have z402 : (σ391 55 18).toInt = (σ 55 18).toInt := (congrArg Int32.toInt (show σ391 55 18 = (σ 55 18) from ((f394 18 (of_decide_eq_true rfl)).trans ((f377 18 (of_decide_eq_true rfl)).trans ((jkp 18 eσ366 (of_decide_eq_true rfl)).trans (jkp 18 eσ362 (of_decide_eq_true rfl)))))))
                 have z403 : (σ391 55 20).toInt = (σ 55 20).toInt := (congrArg Int32.toInt (show σ391 55 20 = (σ 55 20) from ((f394 20 (of_decide_eq_true rfl)).trans ((f377 20 (of_decide_eq_true rfl)).trans ((jkp 20 eσ366 (of_decide_eq_true rfl)).trans (jkp 20 eσ362 (of_decide_eq_true rfl)))))))
                 have z404 : (σ391 55 21).toInt = (σ374 55 21).toInt := (congrArg Int32.toInt (show σ391 55 21 = (σ374 55 21) from (f394 21 (of_decide_eq_true rfl))))
                 rcases h391 with h405 | h406
                 · exact by
                    obtain ⟨q410, k407, k408, k409⟩ := h405
                    have q410 := q410.symm
                    subst q410
                    try rw [show (σ374 55 20).toInt = (σ 55 20).toInt from by omega] at k409
                    try rw [show (σ374 55 18).toInt = (σ 55 18).toInt from by omega] at k409
                    try rw [show σ374 63 = σ 63 from ((f376 63 (of_decide_eq_true rfl)).trans ((jnp 63 eσ366 (of_decide_eq_true rfl)).trans (jnp 63 eσ362 (of_decide_eq_true rfl))))] at k409
                    try rw [show σ374 64 = σ 64 from ((f376 64 (of_decide_eq_true rfl)).trans ((jnp 64 eσ366 (of_decide_eq_true rfl)).trans (jnp 64 eσ362 (of_decide_eq_true rfl))))] at k409
                    refine lv_if_ne (tgt := 104) hx hb dX12_one_96 (of_decide_eq_true rfl) (fun _ => ?_) (fun c => absurd c (of_decide_eq_true rfl))
                    refine lv_aload_n hx hb dX12_one_104 rfl (lv_at hl 2 rfl) ?_
                    refine lv_dup hx hb dX12_one_105 rfl ?_
                    refine va_get (D := D) hx hb hts inlX12 hown hK hP 55 (jc_55 cI cL ad σ391 τ) rfl 22 (of_decide_eq_true rfl) (hts _ kw_18_21) (fun _ h9 => h9) rfl dX12_one_106 ?_
                    have m411 : σ391 55 22 = (σ374 55 22) := (f394 22 (of_decide_eq_true rfl))
                    refine jtopr m411 ?_
                    refine lv_iconst (v := 1) hx hb dX12_one_109 (of_decide_eq_true rfl) ?_
                    have g412 := jrg (rfl : (σ374 55 22).toInt = (σ374 55 22).toInt)
                    refine lv_isub hx hb dX12_one_110 ?_
                    refine lv_topi (fun x413 ex413 => ?_)
                    exact by
                     have tx413 : x413.toInt = (σ374 55 22).toInt - 1 := (jsub ex413 rfl jz_1 (by omega) (by omega)).trans (by omega)
                     refine jput (ty := .int) hx hb hts inlX12 tyX12 tyX12_ok nmX12 hown hK hP hJ hA hS (jc_55 cI cL ad σ391 τ) rfl (k := 22) (of_decide_eq_true rfl) (Nat.le_of_ble_eq_true rfl) (jp_55_22 cI cL ad σ391 τ x413) (hts _ kw_18_21) (fun _ h9 => h9) rfl (by decide +kernel) rfl rfl dX12_one_111 (fun σ414 H locs eσ414 hP hS => ?_)
                     refine lv_iload_n hx hb dX12_one_114 rfl (lv_at hl 1 rfl) ?_
                     refine lv_bipush (v := 40) hx hb dX12_one_115 (of_decide_eq_true rfl) ?_
                     refine lv_icmp_ne (tgt := 124) hx hb dX12_one_117 (of_decide_eq_true rfl) (fun c => absurd (jne c rfl jz_40) (by omega)) (fun c415 => ?_)
                     have kc415 := jeq c415 rfl jz_40
                     refine lv_iload_n hx hb dX12_one_120 rfl (lv_at hl 0 rfl) ?_
                     refine lv_goto (tgt := 144) hx hb dX12_one_121 (of_decide_eq_true rfl) ?_
                     have I416 : jI121 σ414 := jI121_fr (jkp 18 eσ414 (of_decide_eq_true rfl)) (jkp 19 eσ414 (of_decide_eq_true rfl)) (jkp 20 eσ414 (of_decide_eq_true rfl)) (jkp 21 eσ414 (of_decide_eq_true rfl)) I395
                     exact by
                      have z417 : (σ414 55 19).toInt = (σ391 55 19).toInt := (congrArg Int32.toInt (show σ414 55 19 = (σ391 55 19) from (jkp 19 eσ414 (of_decide_eq_true rfl))))
                      have z418 : (σ414 55 21).toInt = (σ374 55 21).toInt := (congrArg Int32.toInt (show σ414 55 21 = (σ374 55 21) from ((jkp 21 eσ414 (of_decide_eq_true rfl)).trans (f394 21 (of_decide_eq_true rfl)))))
                      have z419 : (σ414 55 22).toInt = (σ374 55 22).toInt - 1 := ((congrArg Int32.toInt (show σ414 55 22 = x413 from (jsp eσ414))).trans tx413)
                      exact by exact hret r375 σ414 τ _ _ _ _ rfl ⟨rfl, (fun i hi => ((jnp i eσ414 (imp_165 i hi)).trans ((f393 i hi).trans ((f376 i hi).trans ((jnp i eσ366 (imp_165 i hi)).trans (jnp i eσ362 (imp_165 i hi))))))), (fun i hi => ((jkp i eσ414 (imp_170 i hi)).trans ((f394 i (imp_173 i hi)).trans ((f377 i hi).trans ((jkp i eσ366 (imp_171 i hi)).trans (jkp i eσ362 (imp_170 i hi))))))), I416, (jRp.par (x := (σ414 55 21).toInt) (a := (σ414 55 19).toInt) (by omega) (by omega) w379 (by omega) (by omega) (Or.inr (Or.inl ⟨by omega, by omega, by omega, by omega, by omega, rfl⟩))), (by omega), (by omega), trivial⟩ hP hS dX12_one_144
                 · obtain ⟨q422, k420, k421⟩ := h406
                   have q422 := q422.symm
                   subst q422
                   try rw [show (σ374 55 20).toInt = (σ 55 20).toInt from by omega] at k421
                   try rw [show (σ374 55 18).toInt = (σ 55 18).toInt from by omega] at k421
                   try rw [show σ374 63 = σ 63 from ((f376 63 (of_decide_eq_true rfl)).trans ((jnp 63 eσ366 (of_decide_eq_true rfl)).trans (jnp 63 eσ362 (of_decide_eq_true rfl))))] at k421
                   try rw [show σ374 64 = σ 64 from ((f376 64 (of_decide_eq_true rfl)).trans ((jnp 64 eσ366 (of_decide_eq_true rfl)).trans (jnp 64 eσ362 (of_decide_eq_true rfl))))] at k421
                   refine lv_if_ne (tgt := 104) hx hb dX12_one_96 (of_decide_eq_true rfl) (fun c => absurd (of_decide_eq_true rfl) c) (fun _ => ?_)
                   refine lv_aload_n hx hb dX12_one_99 rfl (lv_at hl 2 rfl) ?_
                   refine jcallV (As := []) (rest := []) ⟨hx, hb, hml, hown, hts⟩ hK hP hA hS hZ (c_X12_wrong l D cI cL ad zz hJ σ391 τ I395) cw_RX12_214 (jc_55 cI cL ad σ391 τ) rfl ⟨by dsimp only; omega, by dsimp only; omega⟩ rfl rfl rfl hl.1 rfl (Nat.le_of_ble_eq_true rfl) dX12_one_100 ⟨Nat.zero_le _, Nat.zero_le _⟩ (fun r424 σ423 τ423 H locs h423 hP hS => ?_)
                   obtain ⟨rfl, f425, f426, I427, h423⟩ := h423
                   obtain ⟨i429, i430, i431, i432, i433⟩ : ((-1) ≤ (σ423 55 18).toInt ∧ (σ423 55 18).toInt ≤ 80) ∧ (0 ≤ (σ423 55 19).toInt) ∧ ((σ423 55 19).toInt ≤ (σ423 55 20).toInt) ∧ ((σ423 55 20).toInt ≤ 80) ∧ ((-1) ≤ (σ423 55 21).toInt ∧ (σ423 55 21).toInt ≤ 80) := id I427
                   have z434 : (σ423 55 18).toInt = (σ 55 18).toInt := (congrArg Int32.toInt (show σ423 55 18 = (σ 55 18) from ((f426 18 (of_decide_eq_true rfl)).trans ((f394 18 (of_decide_eq_true rfl)).trans ((f377 18 (of_decide_eq_true rfl)).trans ((jkp 18 eσ366 (of_decide_eq_true rfl)).trans (jkp 18 eσ362 (of_decide_eq_true rfl))))))))
                   have z435 : (σ423 55 19).toInt = (σ391 55 19).toInt := (congrArg Int32.toInt (show σ423 55 19 = (σ391 55 19) from (f426 19 (of_decide_eq_true rfl))))
                   have z436 : (σ423 55 20).toInt = (σ 55 20).toInt := (congrArg Int32.toInt (show σ423 55 20 = (σ 55 20) from ((f426 20 (of_decide_eq_true rfl)).trans ((f394 20 (of_decide_eq_true rfl)).trans ((f377 20 (of_decide_eq_true rfl)).trans ((jkp 20 eσ366 (of_decide_eq_true rfl)).trans (jkp 20 eσ362 (of_decide_eq_true rfl))))))))
                   obtain ⟨k437, k438, h423⟩ := h423
                   have h439 := h423
                   obtain ⟨q441, k440⟩ := h439
                   have q441 := q441.symm
                   subst q441
                   have z442 : (σ423 55 22).toInt = (σ374 55 22).toInt := (congrArg Int32.toInt (show σ423 55 22 = (σ374 55 22) from ((f426 22 (of_decide_eq_true rfl)).trans (f394 22 (of_decide_eq_true rfl)))))
                   have z443 : (σ374 55 21).toInt = -1 ∨ 0 ≤ (σ374 55 21).toInt := by omega
                   exact by exact hret 0 σ423 τ _ _ _ _ rfl ⟨rfl, (fun i hi => ((f425 i hi).trans ((f393 i hi).trans ((f376 i hi).trans ((jnp i eσ366 (imp_165 i hi)).trans (jnp i eσ362 (imp_165 i hi))))))), (fun i hi => ((f426 i (imp_172 i hi)).trans ((f394 i (imp_173 i hi)).trans ((f377 i hi).trans ((jkp i eσ366 (imp_171 i hi)).trans (jkp i eσ362 (imp_170 i hi))))))), I427, (jRp.par (x := (σ423 55 21).toInt) (a := (σ423 55 19).toInt) (by omega) (by omega) w379 (by omega) (by omega) (Or.elim z443 (fun z => Or.inr (Or.inr ⟨z, k421 (by omega), by omega⟩)) (fun z => Or.inl ⟨z, by omega⟩))), (by omega), (by omega), trivial⟩ hP hS dX12_one_103
          · have kc359 := jeq c359 rfl jz_6
            refine lv_aload_n hx hb dX12_one_41 rfl (lv_at hl 1 rfl) ?_
            refine jcallV (As := []) (rest := []) ⟨hx, hb, hml, hown, hts⟩ hK hP hA hS hZ (c_X12_wrong l D cI cL ad zz hJ σ τ hI121) cw_RX12_214 (jc_55 cI cL ad σ τ) rfl ⟨by dsimp only; omega, by dsimp only; omega⟩ rfl rfl rfl hl.1 rfl (Nat.le_of_ble_eq_true rfl) dX12_one_42 ⟨Nat.zero_le _, Nat.zero_le _⟩ (fun r445 σ444 τ444 H locs h444 hP hS => ?_)
            obtain ⟨rfl, f446, f447, I448, h444⟩ := h444
            obtain ⟨i450, i451, i452, i453, i454⟩ : ((-1) ≤ (σ444 55 18).toInt ∧ (σ444 55 18).toInt ≤ 80) ∧ (0 ≤ (σ444 55 19).toInt) ∧ ((σ444 55 19).toInt ≤ (σ444 55 20).toInt) ∧ ((σ444 55 20).toInt ≤ 80) ∧ ((-1) ≤ (σ444 55 21).toInt ∧ (σ444 55 21).toInt ≤ 80) := id I448
            have z455 : (σ444 55 18).toInt = (σ 55 18).toInt := (congrArg Int32.toInt (show σ444 55 18 = (σ 55 18) from (f447 18 (of_decide_eq_true rfl))))
            have z456 : (σ444 55 19).toInt = (σ 55 19).toInt := (congrArg Int32.toInt (show σ444 55 19 = (σ 55 19) from (f447 19 (of_decide_eq_true rfl))))
            have z457 : (σ444 55 20).toInt = (σ 55 20).toInt := (congrArg Int32.toInt (show σ444 55 20 = (σ 55 20) from (f447 20 (of_decide_eq_true rfl))))
            obtain ⟨k458, k459, h444⟩ := h444
            have h460 := h444
            obtain ⟨q462, k461⟩ := h460
            have q462 := q462.symm
            subst q462
            have z463 : (σ444 55 22).toInt = (σ 55 22).toInt := (congrArg Int32.toInt (show σ444 55 22 = (σ 55 22) from (f447 22 (of_decide_eq_true rfl))))
            exact by exact hret 0 σ444 τ _ _ _ _ rfl ⟨rfl, (fun i hi => (f446 i hi)), (fun i hi => (f447 i (imp_172 i hi))), I448, (jRp.bad (by omega) (by omega) (jNm_n (by omega)) (by omega) (by omega) (by omega)), (by omega), (by omega), trivial⟩ hP hS dX12_one_45
set_option maxHeartbeats 4000000 in
set_option maxRecDepth 100000 in
theorem c_X12_grammar_one_z (l : Launch) (D : va_G) (cI cL : ClassId) (ad zz : Nat → Nat) (hJ : jD ad) (σ : Nat → Nat → Int32) (τ : Nat → Nat → Int64) (hI121 : jI121 σ) (hp0 : (σ 55 21).toInt = (-1)) (hp1 : 0 ≤ (σ 55 22).toInt ∧ (σ 55 22).toInt ≤ 6) (hp2 : -(σ 55 22).toInt + 6 ≤ (((0) : Nat) : Int)) : jM l yX12_one cX12_one 5 (some .int) ({ frames := (10 + 8 * (0)), cells := 0, slots := 0, locals := (400 + 360 * (0)) }) D cI cL ad zz [.ref (ad 55)] σ τ (fun r σ' τ' => τ = τ' ∧ (∀ i : Nat, (i < 55 ∨ 55 < i) → σ' i = σ i) ∧ (∀ k : Nat, (k < 19 ∨ 19 < k) ∧ (k < 21 ∨ 21 < k) ∧ (k < 22 ∨ 22 < k) → σ' 55 k = σ 55 k) ∧ (jI121 σ') ∧ (jRp (jVw (σ 55 18).toInt (σ 63) (σ 64)) (σ 55 20).toInt (σ 66) 5 (σ 55 22).toInt (σ 55 19).toInt (σ' 55 19).toInt (σ' 55 21).toInt r) ∧ (((σ' 55 21).toInt = (-1) ∧ (σ' 55 22).toInt = (σ 55 22).toInt) ∨ (0 ≤ (σ' 55 21).toInt)) ∧ ((σ 55 19).toInt ≤ (σ' 55 19).toInt) ∧ True) := by
  refine jM.of hJ (by decide +kernel) (nt := .int) rfl (Nat.le_of_ble_eq_true rfl) ?_
  intro p e s m args below meth c Q ls hC hret hl hP
  obtain ⟨hx, hb, hr, hml, hown, hts, hK, -, hlocks, hZ⟩ := hC
  have hown : s.vm.findClass RX12 = some m.cls := hown
  have hS : va_S (jA ad) s.heap s.heap [] := va_S.rf
  have hA : ∀ q, jA ad q → jA ad q := fun _ h => h
  have hl : lv_has ls 5 [(0, .ref (ad 55))] := hl
  obtain ⟨i1, i2, i3, i4, i5⟩ : ((-1) ≤ (σ 55 18).toInt ∧ (σ 55 18).toInt ≤ 80) ∧ (0 ≤ (σ 55 19).toInt) ∧ ((σ 55 19).toInt ≤ (σ 55 20).toInt) ∧ ((σ 55 20).toInt ≤ 80) ∧ ((-1) ≤ (σ 55 21).toInt ∧ (σ 55 21).toInt ≤ 80) := id hI121
  refine lv_aload_n hx hb dX12_one_0 rfl (lv_at hl 0 rfl) ?_
  refine va_get (D := D) hx hb hts inlX12 hown hK hP 55 (jc_55 cI cL ad σ τ) rfl 21 (of_decide_eq_true rfl) (hts _ kw_15_13) (fun _ h9 => h9) rfl dX12_one_1 ?_
  exact by
   refine lv_if_lt (tgt := 9) hx hb dX12_one_4 (of_decide_eq_true rfl) (fun c6 => ?_) (fun c => absurd (jnlt c rfl jz_0) (by omega))
   have kc6 := jlt c6 rfl jz_0
   refine lv_aload_n hx hb dX12_one_9 rfl (lv_at hl 0 rfl) ?_
   refine jcallV (As := []) (rest := []) ⟨hx, hb, hml, hown, hts⟩ hK hP hA hS hZ (c_X12_byteAt l D cI cL ad zz hJ σ τ hI121) cw_RX12_189 (jc_55 cI cL ad σ τ) rfl ⟨by dsimp only; omega, by dsimp only; omega⟩ rfl rfl rfl hl.1 rfl (Nat.le_of_ble_eq_true rfl) dX12_one_10 ⟨Nat.zero_le _, Nat.zero_le _⟩ (fun r8 σ7 τ7 H locs h7 hP hS => ?_)
   obtain ⟨⟨rfl, rfl⟩, h7⟩ := h7
   have h9 := h7
   obtain ⟨q12, k10, k11⟩ := h9
   have k13 := k11.ys (by omega)
   refine lv_istore_n (lv' := [(1, .int r8), (0, .ref (ad 55))]) hx hb dX12_one_13 rfl hl (of_decide_eq_true rfl) rfl (fun ls hl => ?_)
   exact by
    refine lv_iload_n hx hb dX12_one_14 rfl (lv_at hl 0 rfl) ?_
    refine lv_bipush (v := 33) hx hb dX12_one_15 (of_decide_eq_true rfl) ?_
    refine lv_icmp_eq (tgt := 32) hx hb dX12_one_17 (of_decide_eq_true rfl) (fun c14 => ?_) (fun c14 => ?_)
    · have kc14 := jeq c14 rfl jz_33
      refine lv_aload_n hx hb dX12_one_32 rfl (lv_at hl 1 rfl) ?_
      refine va_get (D := D) hx hb hts inlX12 hown hK hP 55 (jc_55 cI cL ad σ τ) rfl 22 (of_decide_eq_true rfl) (hts _ kw_18_21) (fun _ h9 => h9) rfl dX12_one_33 ?_
      refine lv_bipush (v := 6) hx hb dX12_one_36 (of_decide_eq_true rfl) ?_
      refine lv_icmp_ne (tgt := 46) hx hb dX12_one_38 (of_decide_eq_true rfl) (fun c => absurd (jne c rfl jz_6) (by omega)) (fun c15 => ?_)
      have kc15 := jeq c15 rfl jz_6
      exact by
       refine lv_aload_n hx hb dX12_one_41 rfl (lv_at hl 1 rfl) ?_
       refine jcallV (As := []) (rest := []) ⟨hx, hb, hml, hown, hts⟩ hK hP hA hS hZ (c_X12_wrong l D cI cL ad zz hJ σ τ hI121) cw_RX12_214 (jc_55 cI cL ad σ τ) rfl ⟨by dsimp only; omega, by dsimp only; omega⟩ rfl rfl rfl hl.1 rfl (Nat.le_of_ble_eq_true rfl) dX12_one_42 ⟨Nat.zero_le _, Nat.zero_le _⟩ (fun r17 σ16 τ16 H locs h16 hP hS => ?_)
       obtain ⟨rfl, f18, f19, I20, h16⟩ := h16
       obtain ⟨i22, i23, i24, i25, i26⟩ : ((-1) ≤ (σ16 55 18).toInt ∧ (σ16 55 18).toInt ≤ 80) ∧ (0 ≤ (σ16 55 19).toInt) ∧ ((σ16 55 19).toInt ≤ (σ16 55 20).toInt) ∧ ((σ16 55 20).toInt ≤ 80) ∧ ((-1) ≤ (σ16 55 21).toInt ∧ (σ16 55 21).toInt ≤ 80) := id I20
       have z27 : (σ16 55 18).toInt = (σ 55 18).toInt := (congrArg Int32.toInt (show σ16 55 18 = (σ 55 18) from (f19 18 (of_decide_eq_true rfl))))
       have z28 : (σ16 55 19).toInt = (σ 55 19).toInt := (congrArg Int32.toInt (show σ16 55 19 = (σ 55 19) from (f19 19 (of_decide_eq_true rfl))))
       have z29 : (σ16 55 20).toInt = (σ 55 20).toInt := (congrArg Int32.toInt (show σ16 55 20 = (σ 55 20) from (f19 20 (of_decide_eq_true rfl))))
       obtain ⟨k30, k31, h16⟩ := h16
       have h32 := h16
       obtain ⟨q34, k33⟩ := h32
       have q34 := q34.symm
       subst q34
       have z35 : (σ16 55 22).toInt = (σ 55 22).toInt := (congrArg Int32.toInt (show σ16 55 22 = (σ 55 22) from (f19 22 (of_decide_eq_true rfl))))
       exact by exact hret 0 σ16 τ _ _ _ _ rfl ⟨rfl, (fun i hi => (f18 i hi)), (fun i hi => (f19 i (imp_172 i hi))), I20, (jRp.bad (by omega) (by omega) (jNm_n (by omega)) (by omega) (by omega) (by omega)), (by omega), (by omega), trivial⟩ hP hS dX12_one_45
    · have kc14 := jne c14 rfl jz_33
      refine lv_iload_n hx hb dX12_one_20 rfl (lv_at hl 0 rfl) ?_
      refine lv_bipush (v := 45) hx hb dX12_one_21 (of_decide_eq_true rfl) ?_
      refine lv_icmp_eq (tgt := 32) hx hb dX12_one_23 (of_decide_eq_true rfl) (fun c36 => ?_) (fun c36 => ?_)
      · have kc36 := jeq c36 rfl jz_45
        refine lv_aload_n hx hb dX12_one_32 rfl (lv_at hl 1 rfl) ?_
        refine va_get (D := D) hx hb hts inlX12 hown hK hP 55 (jc_55 cI cL ad σ τ) rfl 22 (of_decide_eq_true rfl) (hts _ kw_18_21) (fun _ h9 => h9) rfl dX12_one_33 ?_
        refine lv_bipush (v := 6) hx hb dX12_one_36 (of_decide_eq_true rfl) ?_
        exact by
         refine lv_icmp_ne (tgt := 46) hx hb dX12_one_38 (of_decide_eq_true rfl) (fun c => absurd (jne c rfl jz_6) (by omega)) (fun c37 => ?_)
         have kc37 := jeq c37 rfl jz_6
         refine lv_aload_n hx hb dX12_one_41 rfl (lv_at hl 1 rfl) ?_
         refine jcallV (As := []) (rest := []) ⟨hx, hb, hml, hown, hts⟩ hK hP hA hS hZ (c_X12_wrong l D cI cL ad zz hJ σ τ hI121) cw_RX12_214 (jc_55 cI cL ad σ τ) rfl ⟨by dsimp only; omega, by dsimp only; omega⟩ rfl rfl rfl hl.1 rfl (Nat.le_of_ble_eq_true rfl) dX12_one_42 ⟨Nat.zero_le _, Nat.zero_le _⟩ (fun r39 σ38 τ38 H locs h38 hP hS => ?_)
         obtain ⟨rfl, f40, f41, I42, h38⟩ := h38
         obtain ⟨i44, i45, i46, i47, i48⟩ : ((-1) ≤ (σ38 55 18).toInt ∧ (σ38 55 18).toInt ≤ 80) ∧ (0 ≤ (σ38 55 19).toInt) ∧ ((σ38 55 19).toInt ≤ (σ38 55 20).toInt) ∧ ((σ38 55 20).toInt ≤ 80) ∧ ((-1) ≤ (σ38 55 21).toInt ∧ (σ38 55 21).toInt ≤ 80) := id I42
         have z49 : (σ38 55 18).toInt = (σ 55 18).toInt := (congrArg Int32.toInt (show σ38 55 18 = (σ 55 18) from (f41 18 (of_decide_eq_true rfl))))
         have z50 : (σ38 55 19).toInt = (σ 55 19).toInt := (congrArg Int32.toInt (show σ38 55 19 = (σ 55 19) from (f41 19 (of_decide_eq_true rfl))))
         have z51 : (σ38 55 20).toInt = (σ 55 20).toInt := (congrArg Int32.toInt (show σ38 55 20 = (σ 55 20) from (f41 20 (of_decide_eq_true rfl))))
         obtain ⟨k52, k53, h38⟩ := h38
         have h54 := h38
         obtain ⟨q56, k55⟩ := h54
         have q56 := q56.symm
         subst q56
         have z57 : (σ38 55 22).toInt = (σ 55 22).toInt := (congrArg Int32.toInt (show σ38 55 22 = (σ 55 22) from (f41 22 (of_decide_eq_true rfl))))
         exact by exact hret 0 σ38 τ _ _ _ _ rfl ⟨rfl, (fun i hi => (f40 i hi)), (fun i hi => (f41 i (imp_172 i hi))), I42, (jRp.bad (by omega) (by omega) (jNm_n (by omega)) (by omega) (by omega) (by omega)), (by omega), (by omega), trivial⟩ hP hS dX12_one_45
      · have kc36 := jne c36 rfl jz_45
        refine lv_iload_n hx hb dX12_one_26 rfl (lv_at hl 0 rfl) ?_
        refine lv_bipush (v := 40) hx hb dX12_one_27 (of_decide_eq_true rfl) ?_
        refine lv_icmp_ne (tgt := 145) hx hb dX12_one_29 (of_decide_eq_true rfl) (fun c58 => ?_) (fun c58 => ?_)
        · have kc58 := jne c58 rfl jz_40
          refine lv_iload_n hx hb dX12_one_145 rfl (lv_at hl 0 rfl) ?_
          refine jcallS (As := [.int r8]) (rest := []) ⟨hx, hb, hml, hown, hts⟩ hK hP hA hS hZ (c_X12_nameOf l D cI cL ad zz hJ σ τ r8 (r8.toInt) rfl) cw_RX12_220 ⟨by dsimp only; omega, by dsimp only; omega⟩ rfl rfl rfl hl.1 rfl (Nat.le_of_ble_eq_true rfl) dX12_one_146 ⟨Nat.zero_le _, Nat.zero_le _⟩ (fun r60 σ59 τ59 H locs h59 hP hS => ?_)
          obtain ⟨⟨rfl, rfl⟩, h59⟩ := h59
          rcases h59 with h61 | h62
          · obtain ⟨q66, k63, k64, k65⟩ := h61
            exact by
             have z67 := jNm_hi (x := r8.toInt) (by omega)
             refine lv_istore_n (lv' := [(2, .int r60), (1, .int r8), (0, .ref (ad 55))]) hx hb dX12_one_149 rfl hl (of_decide_eq_true rfl) rfl (fun ls hl => ?_)
             refine lv_iload_n hx hb dX12_one_150 rfl (lv_at hl 0 rfl) ?_
             refine lv_if_lt (tgt := 171) hx hb dX12_one_151 (of_decide_eq_true rfl) (fun c => absurd (jlt c rfl jz_0) (by omega)) (fun c68 => ?_)
             have kc68 := jnlt c68 rfl jz_0
             refine lv_aload_n hx hb dX12_one_154 rfl (lv_at hl 2 rfl) ?_
             refine lv_dup hx hb dX12_one_155 rfl ?_
             refine va_get (D := D) hx hb hts inlX12 hown hK hP 55 (jc_55 cI cL ad σ τ) rfl 19 (of_decide_eq_true rfl) (hts _ kw_15_11) (fun _ h9 => h9) rfl dX12_one_156 ?_
             refine lv_iconst (v := 1) hx hb dX12_one_159 (of_decide_eq_true rfl) ?_
             exact by
              have g69 := jrg (rfl : (σ 55 19).toInt = (σ 55 19).toInt)
              refine lv_iadd hx hb dX12_one_160 ?_
              refine lv_topi (fun x70 ex70 => ?_)
              have tx70 : x70.toInt = (σ 55 19).toInt + 1 := (jadd ex70 rfl jz_1 (by omega) (by omega)).trans (by omega)
              refine jput (ty := .int) hx hb hts inlX12 tyX12 tyX12_ok nmX12 hown hK hP hJ hA hS (jc_55 cI cL ad σ τ) rfl (k := 19) (of_decide_eq_true rfl) (Nat.le_of_ble_eq_true rfl) (jp_55_19 cI cL ad σ τ x70) (hts _ kw_15_11) (fun _ h9 => h9) rfl (by decide +kernel) rfl rfl dX12_one_161 (fun σ71 H locs eσ71 hP hS => ?_)
              refine lv_aload_n hx hb dX12_one_164 rfl (lv_at hl 2 rfl) ?_
              refine va_get (D := D) hx hb hts inlX12 hown hK hP 55 (jc_55 cI cL ad σ71 τ) rfl 23 (of_decide_eq_true rfl) (hts _ kw_7_12) (fun _ h9 => h9) rfl dX12_one_165 ?_
              refine lv_iload_n hx hb dX12_one_168 rfl (lv_at hl 0 rfl) ?_
              refine jald hx hb hK hP (jc_66 cI cL ad σ71 τ) (jin rfl (by omega) (by omega)) dX12_one_169 ?_
              exact by
               refine lv_topi (fun x72 ex72 => ?_)
               have z73 : (σ71 55 18).toInt = (σ 55 18).toInt := (congrArg Int32.toInt (show σ71 55 18 = (σ 55 18) from (jkp 18 eσ71 (of_decide_eq_true rfl))))
               have z74 : (σ71 55 19).toInt = (σ 55 19).toInt + 1 := ((congrArg Int32.toInt (show σ71 55 19 = x70 from (jsp eσ71))).trans tx70)
               have z75 : (σ71 55 20).toInt = (σ 55 20).toInt := (congrArg Int32.toInt (show σ71 55 20 = (σ 55 20) from (jkp 20 eσ71 (of_decide_eq_true rfl))))
               have z76 : (σ71 55 21).toInt = (σ 55 21).toInt := (congrArg Int32.toInt (show σ71 55 21 = (σ 55 21) from (jkp 21 eσ71 (of_decide_eq_true rfl))))
               have I77 : jI121 σ71 := ⟨(by omega), (by omega), (by omega), (by omega), (by omega)⟩
               have z78 : (σ71 55 22).toInt = (σ 55 22).toInt := (congrArg Int32.toInt (show σ71 55 22 = (σ 55 22) from (jkp 22 eσ71 (of_decide_eq_true rfl))))
               exact by exact hret x72 σ71 τ _ _ _ _ rfl ⟨rfl, (fun i hi => (jnp i eσ71 (imp_165 i hi))), (fun i hi => (jkp i eσ71 (imp_171 i hi))), I77, (jRp.name (by have w := jNm_hi (x := r8.toInt) (by omega); omega) (by rw [jNm_b (show jYs (jVw (σ 55 18).toInt (σ 63) (σ 64)) (σ 55 20).toInt (σ 55 19).toInt = r8.toInt ∨ (jYs (jVw (σ 55 18).toInt (σ 63) (σ 64)) (σ 55 20).toInt (σ 55 19).toInt = -1 ∧ r8.toInt = 0) by omega)]; omega) (by omega) (by omega) (by omega) (by omega) (by rw [ex72, show σ71 66 = σ 66 from (jnp 66 eσ71 (of_decide_eq_true rfl)), jnc (show r60.toInt = jNm (jYs (jVw (σ 55 18).toInt (σ 63) (σ 64)) (σ 55 20).toInt (σ 55 19).toInt) by rw [jNm_b (show jYs (jVw (σ 55 18).toInt (σ 63) (σ 64)) (σ 55 20).toInt (σ 55 19).toInt = r8.toInt ∨ (jYs (jVw (σ 55 18).toInt (σ 63) (σ 64)) (σ 55 20).toInt (σ 55 19).toInt = -1 ∧ r8.toInt = 0) by omega)]; omega)])), (by omega), (by omega), trivial⟩ hP hS dX12_one_170
          · obtain ⟨q80, k79⟩ := h62
            exact by
             have q80 := q80.symm
             subst q80
             have z81 := jz_m1
             refine lv_istore_n (lv' := [(2, .int (-1)), (1, .int r8), (0, .ref (ad 55))]) hx hb dX12_one_149 rfl hl (of_decide_eq_true rfl) rfl (fun ls hl => ?_)
             refine lv_iload_n hx hb dX12_one_150 rfl (lv_at hl 0 rfl) ?_
             refine lv_if_lt (tgt := 171) hx hb dX12_one_151 (of_decide_eq_true rfl) (fun _ => ?_) (fun c => absurd (of_decide_eq_true rfl) c)
             refine lv_iconst (v := 0) hx hb dX12_one_171 (of_decide_eq_true rfl) ?_
             refine lv_istore_n (lv' := [(3, .int 0), (2, .int (-1)), (1, .int r8), (0, .ref (ad 55))]) hx hb dX12_one_172 rfl hl (of_decide_eq_true rfl) rfl (fun ls hl => ?_)
             refine lv_iconst (v := 0) hx hb dX12_one_173 (of_decide_eq_true rfl) ?_
             refine lv_istore (lv' := [(4, .int 0), (3, .int 0), (2, .int (-1)), (1, .int r8), (0, .ref (ad 55))]) hx hb dX12_one_174 hl (of_decide_eq_true rfl) rfl (fun ls hl => ?_)
             refine lv_iload hx hb dX12_one_176 (lv_at hl 0 rfl) ?_
             refine lv_iconst (v := 4) hx hb dX12_one_178 (of_decide_eq_true rfl) ?_
             refine lv_icmp_ge (tgt := 229) hx hb dX12_one_179 (of_decide_eq_true rfl) (fun c => absurd c (of_decide_eq_true rfl)) (fun _ => ?_)
             refine lv_aload_n hx hb dX12_one_182 rfl (lv_at hl 4 rfl) ?_
             refine jcallV (As := []) (rest := []) ⟨hx, hb, hml, hown, hts⟩ hK hP hA hS hZ (c_X12_byteAt l D cI cL ad zz hJ σ τ hI121) cw_RX12_189 (jc_55 cI cL ad σ τ) rfl ⟨by dsimp only; omega, by dsimp only; omega⟩ rfl rfl rfl hl.1 rfl (Nat.le_of_ble_eq_true rfl) dX12_one_183 ⟨Nat.zero_le _, Nat.zero_le _⟩ (fun r83 σ82 τ82 H locs h82 hP hS => ?_)
             obtain ⟨⟨rfl, rfl⟩, h82⟩ := h82
             have h84 := h82
             obtain ⟨q87, k85, k86⟩ := h84
             have k88 := k86.det k11
             refine lv_bipush (v := 48) hx hb dX12_one_186 (of_decide_eq_true rfl) ?_
             refine lv_icmp_lt (tgt := 229) hx hb dX12_one_188 (of_decide_eq_true rfl) (fun c89 => ?_) (fun c89 => ?_)
             · have kc89 := jlt c89 rfl jz_48
               refine lv_iload hx hb dX12_one_229 (lv_at hl 0 rfl) ?_
               refine lv_if_ne (tgt := 241) hx hb dX12_one_231 (of_decide_eq_true rfl) (fun c => absurd (of_decide_eq_true rfl) c) (fun _ => ?_)
               refine lv_aload_n hx hb dX12_one_234 rfl (lv_at hl 4 rfl) ?_
               refine jcallV (As := []) (rest := []) ⟨hx, hb, hml, hown, hts⟩ hK hP hA hS hZ (c_X12_wrong l D cI cL ad zz hJ σ τ hI121) cw_RX12_214 (jc_55 cI cL ad σ τ) rfl ⟨by dsimp only; omega, by dsimp only; omega⟩ rfl rfl rfl hl.1 rfl (Nat.le_of_ble_eq_true rfl) dX12_one_235 ⟨Nat.zero_le _, Nat.zero_le _⟩ (fun r91 σ90 τ90 H locs h90 hP hS => ?_)
               obtain ⟨rfl, f92, f93, I94, h90⟩ := h90
               obtain ⟨i96, i97, i98, i99, i100⟩ : ((-1) ≤ (σ90 55 18).toInt ∧ (σ90 55 18).toInt ≤ 80) ∧ (0 ≤ (σ90 55 19).toInt) ∧ ((σ90 55 19).toInt ≤ (σ90 55 20).toInt) ∧ ((σ90 55 20).toInt ≤ 80) ∧ ((-1) ≤ (σ90 55 21).toInt ∧ (σ90 55 21).toInt ≤ 80) := id I94
               have z101 : (σ90 55 18).toInt = (σ 55 18).toInt := (congrArg Int32.toInt (show σ90 55 18 = (σ 55 18) from (f93 18 (of_decide_eq_true rfl))))
               have z102 : (σ90 55 19).toInt = (σ 55 19).toInt := (congrArg Int32.toInt (show σ90 55 19 = (σ 55 19) from (f93 19 (of_decide_eq_true rfl))))
               have z103 : (σ90 55 20).toInt = (σ 55 20).toInt := (congrArg Int32.toInt (show σ90 55 20 = (σ 55 20) from (f93 20 (of_decide_eq_true rfl))))
               obtain ⟨k104, k105, h90⟩ := h90
               have h106 := h90
               obtain ⟨q108, k107⟩ := h106
               have q108 := q108.symm
               subst q108
               refine lv_goto (tgt := 242) hx hb dX12_one_238 (of_decide_eq_true rfl) ?_
               have z109 : (σ90 55 22).toInt = (σ 55 22).toInt := (congrArg Int32.toInt (show σ90 55 22 = (σ 55 22) from (f93 22 (of_decide_eq_true rfl))))
               exact by exact hret 0 σ90 τ _ _ _ _ rfl ⟨rfl, (fun i hi => (f92 i hi)), (fun i hi => (f93 i (imp_172 i hi))), I94, (jRp.bad (by omega) (by omega) (by rw [jNm_b (show jYs (jVw (σ 55 18).toInt (σ 63) (σ 64)) (σ 55 20).toInt (σ 55 19).toInt = r8.toInt ∨ (jYs (jVw (σ 55 18).toInt (σ 63) (σ 64)) (σ 55 20).toInt (σ 55 19).toInt = -1 ∧ r8.toInt = 0) by omega)]; have h9 := jz_m1; omega) (by omega) (by omega) (by omega)), (by omega), (by omega), trivial⟩ hP hS dX12_one_242
             · have kc89 := jnlt c89 rfl jz_48
               refine lv_aload_n hx hb dX12_one_191 rfl (lv_at hl 4 rfl) ?_
               refine jcallV (As := []) (rest := []) ⟨hx, hb, hml, hown, hts⟩ hK hP hA hS hZ (c_X12_byteAt l D cI cL ad zz hJ σ τ hI121) cw_RX12_189 (jc_55 cI cL ad σ τ) rfl ⟨by dsimp only; omega, by dsimp only; omega⟩ rfl rfl rfl hl.1 rfl (Nat.le_of_ble_eq_true rfl) dX12_one_192 ⟨Nat.zero_le _, Nat.zero_le _⟩ (fun r111 σ110 τ110 H locs h110 hP hS => ?_)
               obtain ⟨⟨rfl, rfl⟩, h110⟩ := h110
               have h112 := h110
               obtain ⟨q115, k113, k114⟩ := h112
               have k116 := k114.det k11
               refine lv_bipush (v := 57) hx hb dX12_one_195 (of_decide_eq_true rfl) ?_
               refine lv_icmp_gt (tgt := 229) hx hb dX12_one_197 (of_decide_eq_true rfl) (fun c117 => ?_) (fun c117 => ?_)
               · have kc117 := jlt c117 jz_57 rfl
                 refine lv_iload hx hb dX12_one_229 (lv_at hl 0 rfl) ?_
                 refine lv_if_ne (tgt := 241) hx hb dX12_one_231 (of_decide_eq_true rfl) (fun c => absurd (of_decide_eq_true rfl) c) (fun _ => ?_)
                 refine lv_aload_n hx hb dX12_one_234 rfl (lv_at hl 4 rfl) ?_
                 refine jcallV (As := []) (rest := []) ⟨hx, hb, hml, hown, hts⟩ hK hP hA hS hZ (c_X12_wrong l D cI cL ad zz hJ σ τ hI121) cw_RX12_214 (jc_55 cI cL ad σ τ) rfl ⟨by dsimp only; omega, by dsimp only; omega⟩ rfl rfl rfl hl.1 rfl (Nat.le_of_ble_eq_true rfl) dX12_one_235 ⟨Nat.zero_le _, Nat.zero_le _⟩ (fun r119 σ118 τ118 H locs h118 hP hS => ?_)
                 obtain ⟨rfl, f120, f121, I122, h118⟩ := h118
                 obtain ⟨i124, i125, i126, i127, i128⟩ : ((-1) ≤ (σ118 55 18).toInt ∧ (σ118 55 18).toInt ≤ 80) ∧ (0 ≤ (σ118 55 19).toInt) ∧ ((σ118 55 19).toInt ≤ (σ118 55 20).toInt) ∧ ((σ118 55 20).toInt ≤ 80) ∧ ((-1) ≤ (σ118 55 21).toInt ∧ (σ118 55 21).toInt ≤ 80) := id I122
                 have z129 : (σ118 55 18).toInt = (σ 55 18).toInt := (congrArg Int32.toInt (show σ118 55 18 = (σ 55 18) from (f121 18 (of_decide_eq_true rfl))))
                 have z130 : (σ118 55 19).toInt = (σ 55 19).toInt := (congrArg Int32.toInt (show σ118 55 19 = (σ 55 19) from (f121 19 (of_decide_eq_true rfl))))
                 have z131 : (σ118 55 20).toInt = (σ 55 20).toInt := (congrArg Int32.toInt (show σ118 55 20 = (σ 55 20) from (f121 20 (of_decide_eq_true rfl))))
                 obtain ⟨k132, k133, h118⟩ := h118
                 have h134 := h118
                 obtain ⟨q136, k135⟩ := h134
                 have q136 := q136.symm
                 subst q136
                 refine lv_goto (tgt := 242) hx hb dX12_one_238 (of_decide_eq_true rfl) ?_
                 have z137 : (σ118 55 22).toInt = (σ 55 22).toInt := (congrArg Int32.toInt (show σ118 55 22 = (σ 55 22) from (f121 22 (of_decide_eq_true rfl))))
                 exact by exact hret 0 σ118 τ _ _ _ _ rfl ⟨rfl, (fun i hi => (f120 i hi)), (fun i hi => (f121 i (imp_172 i hi))), I122, (jRp.bad (by omega) (by omega) (by rw [jNm_b (show jYs (jVw (σ 55 18).toInt (σ 63) (σ 64)) (σ 55 20).toInt (σ 55 19).toInt = r8.toInt ∨ (jYs (jVw (σ 55 18).toInt (σ 63) (σ 64)) (σ 55 20).toInt (σ 55 19).toInt = -1 ∧ r8.toInt = 0) by omega)]; have h9 := jz_m1; omega) (by omega) (by omega) (by omega)), (by omega), (by omega), trivial⟩ hP hS dX12_one_242
               · have kc117 := jnlt c117 jz_57 rfl
                 have k138 : (σ 55 19).toInt < (σ 55 20).toInt ∧ jYs (jVw (σ 55 18).toInt (σ 63) (σ 64)) (σ 55 20).toInt (σ 55 19).toInt = r8.toInt := by omega
                 clear k13 kc14 kc36 kc58
                 refine lv_bipush (v := 10) hx hb dX12_one_200 (of_decide_eq_true rfl) ?_
                 refine lv_iload_n hx hb dX12_one_202 rfl (lv_at hl 1 rfl) ?_
                 refine lv_imul hx hb dX12_one_203 ?_
                 refine jtopr (y := 0) (of_decide_eq_true rfl) ?_
                 refine lv_aload_n hx hb dX12_one_204 rfl (lv_at hl 4 rfl) ?_
                 refine jcallV (As := []) (rest := [.int 0]) ⟨hx, hb, hml, hown, hts⟩ hK hP hA hS hZ (c_X12_byteAt l D cI cL ad zz hJ σ τ hI121) cw_RX12_189 (jc_55 cI cL ad σ τ) rfl ⟨by dsimp only; omega, by dsimp only; omega⟩ rfl rfl rfl hl.1 rfl (Nat.le_of_ble_eq_true rfl) dX12_one_205 ⟨Nat.zero_le _, Nat.zero_le _⟩ (fun r140 σ139 τ139 H locs h139 hP hS => ?_)
                 obtain ⟨⟨rfl, rfl⟩, h139⟩ := h139
                 have h141 := h139
                 obtain ⟨q144, k142, k143⟩ := h141
                 have k145 := k143.det k11
                 refine lv_iadd hx hb dX12_one_208 ?_
                 exact by
                  refine jtopr (y := r140) (by rw [Int32.zero_add]) ?_
                  refine lv_bipush (v := 48) hx hb dX12_one_209 (of_decide_eq_true rfl) ?_
                  have g146 := jrg (rfl : r140.toInt = r140.toInt)
                  refine lv_isub hx hb dX12_one_211 ?_
                  refine lv_topi (fun x147 ex147 => ?_)
                  have tx147 : x147.toInt = r140.toInt - 48 := (jsub ex147 rfl jz_48 (by omega) (by omega)).trans (by omega)
                  refine lv_istore_n (lv' := [(3, .int x147), (4, .int 0), (2, .int (-1)), (1, .int r8), (0, .ref (ad 55))]) hx hb dX12_one_212 rfl hl (of_decide_eq_true rfl) rfl (fun ls hl => ?_)
                  refine lv_iinc (v := 1) (lv' := [(4, .int 1), (3, .int x147), (2, .int (-1)), (1, .int r8), (0, .ref (ad 55))]) hx hb dX12_one_213 hl (k := 1) rfl (of_decide_eq_true rfl) (of_decide_eq_true rfl) rfl (fun ls hl => ?_)
                  refine lv_aload_n hx hb dX12_one_216 rfl (lv_at hl 4 rfl) ?_
                  exact by
                   refine lv_dup hx hb dX12_one_217 rfl ?_
                   refine va_get (D := D) hx hb hts inlX12 hown hK hP 55 (jc_55 cI cL ad σ τ) rfl 19 (of_decide_eq_true rfl) (hts _ kw_15_11) (fun _ h9 => h9) rfl dX12_one_218 ?_
                   refine lv_iconst (v := 1) hx hb dX12_one_221 (of_decide_eq_true rfl) ?_
                   have g148 := jrg (rfl : (σ 55 19).toInt = (σ 55 19).toInt)
                   refine lv_iadd hx hb dX12_one_222 ?_
                   refine lv_topi (fun x149 ex149 => ?_)
                   have tx149 : x149.toInt = (σ 55 19).toInt + 1 := (jadd ex149 rfl jz_1 (by omega) (by omega)).trans (by omega)
                   refine jput (ty := .int) hx hb hts inlX12 tyX12 tyX12_ok nmX12 hown hK hP hJ hA hS (jc_55 cI cL ad σ τ) rfl (k := 19) (of_decide_eq_true rfl) (Nat.le_of_ble_eq_true rfl) (jp_55_19 cI cL ad σ τ x149) (hts _ kw_15_11) (fun _ h9 => h9) rfl (by decide +kernel) rfl rfl dX12_one_223 (fun σ150 H locs eσ150 hP hS => ?_)
                   refine lv_goto (tgt := 176) hx hb dX12_one_226 (of_decide_eq_true rfl) ?_
                   exact by
                    refine lv_iload hx hb dX12_one_176 (lv_at hl 0 rfl) ?_
                    refine lv_iconst (v := 4) hx hb dX12_one_178 (of_decide_eq_true rfl) ?_
                    refine lv_icmp_ge (tgt := 229) hx hb dX12_one_179 (of_decide_eq_true rfl) (fun c => absurd c (of_decide_eq_true rfl)) (fun _ => ?_)
                    refine lv_aload_n hx hb dX12_one_182 rfl (lv_at hl 4 rfl) ?_
                    have z151 : (σ150 55 18).toInt = (σ 55 18).toInt := (congrArg Int32.toInt (show σ150 55 18 = (σ 55 18) from (jkp 18 eσ150 (of_decide_eq_true rfl))))
                    have z152 : (σ150 55 19).toInt = (σ 55 19).toInt + 1 := ((congrArg Int32.toInt (show σ150 55 19 = x149 from (jsp eσ150))).trans tx149)
                    have z153 : (σ150 55 20).toInt = (σ 55 20).toInt := (congrArg Int32.toInt (show σ150 55 20 = (σ 55 20) from (jkp 20 eσ150 (of_decide_eq_true rfl))))
                    have z154 : (σ150 55 21).toInt = (σ 55 21).toInt := (congrArg Int32.toInt (show σ150 55 21 = (σ 55 21) from (jkp 21 eσ150 (of_decide_eq_true rfl))))
                    have I155 : jI121 σ150 := ⟨(by omega), (by omega), (by omega), (by omega), (by omega)⟩
                    exact by
                     refine jcallV (As := []) (rest := []) ⟨hx, hb, hml, hown, hts⟩ hK hP hA hS hZ (c_X12_byteAt l D cI cL ad zz hJ σ150 τ I155) cw_RX12_189 (jc_55 cI cL ad σ150 τ) rfl ⟨by dsimp only; omega, by dsimp only; omega⟩ rfl rfl rfl hl.1 rfl (Nat.le_of_ble_eq_true rfl) dX12_one_183 ⟨Nat.zero_le _, Nat.zero_le _⟩ (fun r157 σ156 τ156 H locs h156 hP hS => ?_)
                     obtain ⟨⟨rfl, rfl⟩, h156⟩ := h156
                     have h158 := h156
                     obtain ⟨q161, k159, k160⟩ := h158
                     try rw [show (σ150 55 19).toInt = (σ 55 19).toInt + 1 from by omega] at k160
                     try rw [show (σ150 55 20).toInt = (σ 55 20).toInt from by omega] at k160
                     try rw [show (σ150 55 18).toInt = (σ 55 18).toInt from by omega] at k160
                     try rw [show σ150 63 = σ 63 from (jnp 63 eσ150 (of_decide_eq_true rfl))] at k160
                     try rw [show σ150 64 = σ 64 from (jnp 64 eσ150 (of_decide_eq_true rfl))] at k160
                     exact by
                      have k162 := k160.ys (by omega)
                      refine lv_bipush (v := 48) hx hb dX12_one_186 (of_decide_eq_true rfl) ?_
                      refine lv_icmp_lt (tgt := 229) hx hb dX12_one_188 (of_decide_eq_true rfl) (fun c163 => ?_) (fun c163 => ?_)
                      · have kc163 := jlt c163 rfl jz_48
                        refine lv_iload hx hb dX12_one_229 (lv_at hl 0 rfl) ?_
                        refine lv_if_ne (tgt := 241) hx hb dX12_one_231 (of_decide_eq_true rfl) (fun _ => ?_) (fun c => absurd c (of_decide_eq_true rfl))
                        refine lv_iload_n hx hb dX12_one_241 rfl (lv_at hl 1 rfl) ?_
                        have z164 : (σ150 55 22).toInt = (σ 55 22).toInt := (congrArg Int32.toInt (show σ150 55 22 = (σ 55 22) from (jkp 22 eσ150 (of_decide_eq_true rfl))))
                        exact by exact hret x147 σ150 τ _ _ _ _ rfl ⟨rfl, (fun i hi => (jnp i eσ150 (imp_165 i hi))), (fun i hi => (jkp i eσ150 (imp_171 i hi))), I155, (jRp.num (by omega) (by unfold jNq; first | ((repeat (first | rw [if_pos (by omega)] | rw [if_neg (by omega)])) <;> omega) | ((repeat' split) <;> omega)) (by omega) (by omega) (by omega) (by have h9 := tx147; unfold jNv; first | ((repeat (first | rw [if_pos (by omega)] | rw [if_neg (by omega)])) <;> omega) | ((repeat' split) <;> omega))), (by omega), (by omega), trivial⟩ hP hS dX12_one_242
                      · have kc163 := jnlt c163 rfl jz_48
                        refine lv_aload_n hx hb dX12_one_191 rfl (lv_at hl 4 rfl) ?_
                        refine jcallV (As := []) (rest := []) ⟨hx, hb, hml, hown, hts⟩ hK hP hA hS hZ (c_X12_byteAt l D cI cL ad zz hJ σ150 τ I155) cw_RX12_189 (jc_55 cI cL ad σ150 τ) rfl ⟨by dsimp only; omega, by dsimp only; omega⟩ rfl rfl rfl hl.1 rfl (Nat.le_of_ble_eq_true rfl) dX12_one_192 ⟨Nat.zero_le _, Nat.zero_le _⟩ (fun r166 σ165 τ165 H locs h165 hP hS => ?_)
                        obtain ⟨⟨rfl, rfl⟩, h165⟩ := h165
                        have h167 := h165
                        obtain ⟨q170, k168, k169⟩ := h167
                        try rw [show (σ150 55 19).toInt = (σ 55 19).toInt + 1 from by omega] at k169
                        try rw [show (σ150 55 20).toInt = (σ 55 20).toInt from by omega] at k169
                        try rw [show (σ150 55 18).toInt = (σ 55 18).toInt from by omega] at k169
                        try rw [show σ150 63 = σ 63 from (jnp 63 eσ150 (of_decide_eq_true rfl))] at k169
                        try rw [show σ150 64 = σ 64 from (jnp 64 eσ150 (of_decide_eq_true rfl))] at k169
                        have k171 := k169.det k160
                        refine lv_bipush (v := 57) hx hb dX12_one_195 (of_decide_eq_true rfl) ?_
                        refine lv_icmp_gt (tgt := 229) hx hb dX12_one_197 (of_decide_eq_true rfl) (fun c172 => ?_) (fun c172 => ?_)
                        · have kc172 := jlt c172 jz_57 rfl
                          refine lv_iload hx hb dX12_one_229 (lv_at hl 0 rfl) ?_
                          refine lv_if_ne (tgt := 241) hx hb dX12_one_231 (of_decide_eq_true rfl) (fun _ => ?_) (fun c => absurd c (of_decide_eq_true rfl))
                          refine lv_iload_n hx hb dX12_one_241 rfl (lv_at hl 1 rfl) ?_
                          have z173 : (σ150 55 22).toInt = (σ 55 22).toInt := (congrArg Int32.toInt (show σ150 55 22 = (σ 55 22) from (jkp 22 eσ150 (of_decide_eq_true rfl))))
                          exact by exact hret x147 σ150 τ _ _ _ _ rfl ⟨rfl, (fun i hi => (jnp i eσ150 (imp_165 i hi))), (fun i hi => (jkp i eσ150 (imp_171 i hi))), I155, (jRp.num (by omega) (by unfold jNq; first | ((repeat (first | rw [if_pos (by omega)] | rw [if_neg (by omega)])) <;> omega) | ((repeat' split) <;> omega)) (by omega) (by omega) (by omega) (by have h9 := tx147; unfold jNv; first | ((repeat (first | rw [if_pos (by omega)] | rw [if_neg (by omega)])) <;> omega) | ((repeat' split) <;> omega))), (by omega), (by omega), trivial⟩ hP hS dX12_one_242
                        · have kc172 := jnlt c172 jz_57 rfl
                          have k174 : (σ 55 19).toInt + 1 < (σ 55 20).toInt ∧ jYs (jVw (σ 55 18).toInt (σ 63) (σ 64)) (σ 55 20).toInt ((σ 55 19).toInt + 1) = r157.toInt := by omega
                          clear k162
                          refine lv_bipush (v := 10) hx hb dX12_one_200 (of_decide_eq_true rfl) ?_
                          refine lv_iload_n hx hb dX12_one_202 rfl (lv_at hl 1 rfl) ?_
                          refine lv_imul hx hb dX12_one_203 ?_
                          refine lv_topi (fun x175 ex175 => ?_)
                          exact by
                           have tx175 : x175.toInt = 10 * r140.toInt - 480 := (jmul ex175 jz_10 tx147 (by omega) (by omega)).trans (by omega)
                           refine lv_aload_n hx hb dX12_one_204 rfl (lv_at hl 4 rfl) ?_
                           refine jcallV (As := []) (rest := [.int x175]) ⟨hx, hb, hml, hown, hts⟩ hK hP hA hS hZ (c_X12_byteAt l D cI cL ad zz hJ σ150 τ I155) cw_RX12_189 (jc_55 cI cL ad σ150 τ) rfl ⟨by dsimp only; omega, by dsimp only; omega⟩ rfl rfl rfl hl.1 rfl (Nat.le_of_ble_eq_true rfl) dX12_one_205 ⟨Nat.zero_le _, Nat.zero_le _⟩ (fun r177 σ176 τ176 H locs h176 hP hS => ?_)
                           obtain ⟨⟨rfl, rfl⟩, h176⟩ := h176
                           have h178 := h176
                           obtain ⟨q181, k179, k180⟩ := h178
                           try rw [show (σ150 55 19).toInt = (σ 55 19).toInt + 1 from by omega] at k180
                           try rw [show (σ150 55 20).toInt = (σ 55 20).toInt from by omega] at k180
                           try rw [show (σ150 55 18).toInt = (σ 55 18).toInt from by omega] at k180
                           try rw [show σ150 63 = σ 63 from (jnp 63 eσ150 (of_decide_eq_true rfl))] at k180
                           try rw [show σ150 64 = σ 64 from (jnp 64 eσ150 (of_decide_eq_true rfl))] at k180
                           have k182 := k180.det k160
                           have g183 := jrg (rfl : r177.toInt = r177.toInt)
                           refine lv_iadd hx hb dX12_one_208 ?_
                           refine lv_topi (fun x184 ex184 => ?_)
                           exact by
                            have tx184 : x184.toInt = 10 * r140.toInt + r177.toInt - 480 := (jadd ex184 tx175 rfl (by omega) (by omega)).trans (by omega)
                            refine lv_bipush (v := 48) hx hb dX12_one_209 (of_decide_eq_true rfl) ?_
                            refine lv_isub hx hb dX12_one_211 ?_
                            refine lv_topi (fun x185 ex185 => ?_)
                            have tx185 : x185.toInt = 10 * r140.toInt + r177.toInt - 528 := (jsub ex185 tx184 jz_48 (by omega) (by omega)).trans (by omega)
                            refine lv_istore_n (lv' := [(3, .int x185), (4, .int 1), (2, .int (-1)), (1, .int r8), (0, .ref (ad 55))]) hx hb dX12_one_212 rfl hl (of_decide_eq_true rfl) rfl (fun ls hl => ?_)
                            refine lv_iinc (v := 2) (lv' := [(4, .int 2), (3, .int x185), (2, .int (-1)), (1, .int r8), (0, .ref (ad 55))]) hx hb dX12_one_213 hl (k := 1) rfl (of_decide_eq_true rfl) (of_decide_eq_true rfl) rfl (fun ls hl => ?_)
                            refine lv_aload_n hx hb dX12_one_216 rfl (lv_at hl 4 rfl) ?_
                            refine lv_dup hx hb dX12_one_217 rfl ?_
                            exact by
                             refine va_get (D := D) hx hb hts inlX12 hown hK hP 55 (jc_55 cI cL ad σ150 τ) rfl 19 (of_decide_eq_true rfl) (hts _ kw_15_11) (fun _ h9 => h9) rfl dX12_one_218 ?_
                             have m186 : σ150 55 19 = x149 := (jsp eσ150)
                             refine jtopr m186 ?_
                             refine lv_iconst (v := 1) hx hb dX12_one_221 (of_decide_eq_true rfl) ?_
                             refine lv_iadd hx hb dX12_one_222 ?_
                             refine lv_topi (fun x187 ex187 => ?_)
                             have tx187 : x187.toInt = (σ 55 19).toInt + 2 := (jadd ex187 tx149 jz_1 (by omega) (by omega)).trans (by omega)
                             refine jput (ty := .int) hx hb hts inlX12 tyX12 tyX12_ok nmX12 hown hK hP hJ hA hS (jc_55 cI cL ad σ150 τ) rfl (k := 19) (of_decide_eq_true rfl) (Nat.le_of_ble_eq_true rfl) (jp_55_19 cI cL ad σ150 τ x187) (hts _ kw_15_11) (fun _ h9 => h9) rfl (by decide +kernel) rfl rfl dX12_one_223 (fun σ188 H locs eσ188 hP hS => ?_)
                             refine lv_goto (tgt := 176) hx hb dX12_one_226 (of_decide_eq_true rfl) ?_
                             exact by
                              refine lv_iload hx hb dX12_one_176 (lv_at hl 0 rfl) ?_
                              refine lv_iconst (v := 4) hx hb dX12_one_178 (of_decide_eq_true rfl) ?_
                              refine lv_icmp_ge (tgt := 229) hx hb dX12_one_179 (of_decide_eq_true rfl) (fun c => absurd c (of_decide_eq_true rfl)) (fun _ => ?_)
                              refine lv_aload_n hx hb dX12_one_182 rfl (lv_at hl 4 rfl) ?_
                              have z189 : (σ188 55 18).toInt = (σ 55 18).toInt := (congrArg Int32.toInt (show σ188 55 18 = (σ 55 18) from ((jkp 18 eσ188 (of_decide_eq_true rfl)).trans (jkp 18 eσ150 (of_decide_eq_true rfl)))))
                              have z190 : (σ188 55 19).toInt = (σ 55 19).toInt + 2 := ((congrArg Int32.toInt (show σ188 55 19 = x187 from (jsp eσ188))).trans tx187)
                              have z191 : (σ188 55 20).toInt = (σ 55 20).toInt := (congrArg Int32.toInt (show σ188 55 20 = (σ 55 20) from ((jkp 20 eσ188 (of_decide_eq_true rfl)).trans (jkp 20 eσ150 (of_decide_eq_true rfl)))))
                              have z192 : (σ188 55 21).toInt = (σ 55 21).toInt := (congrArg Int32.toInt (show σ188 55 21 = (σ 55 21) from ((jkp 21 eσ188 (of_decide_eq_true rfl)).trans (jkp 21 eσ150 (of_decide_eq_true rfl)))))
                              have I193 : jI121 σ188 := ⟨(by omega), (by omega), (by omega), (by omega), (by omega)⟩
                              exact by
                               refine jcallV (As := []) (rest := []) ⟨hx, hb, hml, hown, hts⟩ hK hP hA hS hZ (c_X12_byteAt l D cI cL ad zz hJ σ188 τ I193) cw_RX12_189 (jc_55 cI cL ad σ188 τ) rfl ⟨by dsimp only; omega, by dsimp only; omega⟩ rfl rfl rfl hl.1 rfl (Nat.le_of_ble_eq_true rfl) dX12_one_183 ⟨Nat.zero_le _, Nat.zero_le _⟩ (fun r195 σ194 τ194 H locs h194 hP hS => ?_)
                               obtain ⟨⟨rfl, rfl⟩, h194⟩ := h194
                               have h196 := h194
                               obtain ⟨q199, k197, k198⟩ := h196
                               try rw [show (σ188 55 19).toInt = (σ 55 19).toInt + 2 from by omega] at k198
                               try rw [show (σ188 55 20).toInt = (σ 55 20).toInt from by omega] at k198
                               try rw [show (σ188 55 18).toInt = (σ 55 18).toInt from by omega] at k198
                               try rw [show σ188 63 = σ 63 from ((jnp 63 eσ188 (of_decide_eq_true rfl)).trans (jnp 63 eσ150 (of_decide_eq_true rfl)))] at k198
                               try rw [show σ188 64 = σ 64 from ((jnp 64 eσ188 (of_decide_eq_true rfl)).trans (jnp 64 eσ150 (of_decide_eq_true rfl)))] at k198
                               exact by
                                have k200 := k198.ys (by omega)
                                refine lv_bipush (v := 48) hx hb dX12_one_186 (of_decide_eq_true rfl) ?_
                                refine lv_icmp_lt (tgt := 229) hx hb dX12_one_188 (of_decide_eq_true rfl) (fun c201 => ?_) (fun c201 => ?_)
                                · have kc201 := jlt c201 rfl jz_48
                                  refine lv_iload hx hb dX12_one_229 (lv_at hl 0 rfl) ?_
                                  refine lv_if_ne (tgt := 241) hx hb dX12_one_231 (of_decide_eq_true rfl) (fun _ => ?_) (fun c => absurd c (of_decide_eq_true rfl))
                                  refine lv_iload_n hx hb dX12_one_241 rfl (lv_at hl 1 rfl) ?_
                                  have z202 : (σ188 55 22).toInt = (σ 55 22).toInt := (congrArg Int32.toInt (show σ188 55 22 = (σ 55 22) from ((jkp 22 eσ188 (of_decide_eq_true rfl)).trans (jkp 22 eσ150 (of_decide_eq_true rfl)))))
                                  exact by exact hret x185 σ188 τ _ _ _ _ rfl ⟨rfl, (fun i hi => ((jnp i eσ188 (imp_165 i hi)).trans (jnp i eσ150 (imp_165 i hi)))), (fun i hi => ((jkp i eσ188 (imp_171 i hi)).trans (jkp i eσ150 (imp_171 i hi)))), I193, (jRp.num (by omega) (by unfold jNq; first | ((repeat (first | rw [if_pos (by omega)] | rw [if_neg (by omega)])) <;> omega) | ((repeat' split) <;> omega)) (by omega) (by omega) (by omega) (by have h9 := tx185; unfold jNv; first | ((repeat (first | rw [if_pos (by omega)] | rw [if_neg (by omega)])) <;> omega) | ((repeat' split) <;> omega))), (by omega), (by omega), trivial⟩ hP hS dX12_one_242
                                · have kc201 := jnlt c201 rfl jz_48
                                  refine lv_aload_n hx hb dX12_one_191 rfl (lv_at hl 4 rfl) ?_
                                  refine jcallV (As := []) (rest := []) ⟨hx, hb, hml, hown, hts⟩ hK hP hA hS hZ (c_X12_byteAt l D cI cL ad zz hJ σ188 τ I193) cw_RX12_189 (jc_55 cI cL ad σ188 τ) rfl ⟨by dsimp only; omega, by dsimp only; omega⟩ rfl rfl rfl hl.1 rfl (Nat.le_of_ble_eq_true rfl) dX12_one_192 ⟨Nat.zero_le _, Nat.zero_le _⟩ (fun r204 σ203 τ203 H locs h203 hP hS => ?_)
                                  obtain ⟨⟨rfl, rfl⟩, h203⟩ := h203
                                  have h205 := h203
                                  obtain ⟨q208, k206, k207⟩ := h205
                                  try rw [show (σ188 55 19).toInt = (σ 55 19).toInt + 2 from by omega] at k207
                                  try rw [show (σ188 55 20).toInt = (σ 55 20).toInt from by omega] at k207
                                  try rw [show (σ188 55 18).toInt = (σ 55 18).toInt from by omega] at k207
                                  try rw [show σ188 63 = σ 63 from ((jnp 63 eσ188 (of_decide_eq_true rfl)).trans (jnp 63 eσ150 (of_decide_eq_true rfl)))] at k207
                                  try rw [show σ188 64 = σ 64 from ((jnp 64 eσ188 (of_decide_eq_true rfl)).trans (jnp 64 eσ150 (of_decide_eq_true rfl)))] at k207
                                  have k209 := k207.det k198
                                  refine lv_bipush (v := 57) hx hb dX12_one_195 (of_decide_eq_true rfl) ?_
                                  refine lv_icmp_gt (tgt := 229) hx hb dX12_one_197 (of_decide_eq_true rfl) (fun c210 => ?_) (fun c210 => ?_)
                                  · have kc210 := jlt c210 jz_57 rfl
                                    refine lv_iload hx hb dX12_one_229 (lv_at hl 0 rfl) ?_
                                    refine lv_if_ne (tgt := 241) hx hb dX12_one_231 (of_decide_eq_true rfl) (fun _ => ?_) (fun c => absurd c (of_decide_eq_true rfl))
                                    refine lv_iload_n hx hb dX12_one_241 rfl (lv_at hl 1 rfl) ?_
                                    have z211 : (σ188 55 22).toInt = (σ 55 22).toInt := (congrArg Int32.toInt (show σ188 55 22 = (σ 55 22) from ((jkp 22 eσ188 (of_decide_eq_true rfl)).trans (jkp 22 eσ150 (of_decide_eq_true rfl)))))
                                    exact by exact hret x185 σ188 τ _ _ _ _ rfl ⟨rfl, (fun i hi => ((jnp i eσ188 (imp_165 i hi)).trans (jnp i eσ150 (imp_165 i hi)))), (fun i hi => ((jkp i eσ188 (imp_171 i hi)).trans (jkp i eσ150 (imp_171 i hi)))), I193, (jRp.num (by omega) (by unfold jNq; first | ((repeat (first | rw [if_pos (by omega)] | rw [if_neg (by omega)])) <;> omega) | ((repeat' split) <;> omega)) (by omega) (by omega) (by omega) (by have h9 := tx185; unfold jNv; first | ((repeat (first | rw [if_pos (by omega)] | rw [if_neg (by omega)])) <;> omega) | ((repeat' split) <;> omega))), (by omega), (by omega), trivial⟩ hP hS dX12_one_242
                                  · have kc210 := jnlt c210 jz_57 rfl
                                    have k212 : (σ 55 19).toInt + 2 < (σ 55 20).toInt ∧ jYs (jVw (σ 55 18).toInt (σ 63) (σ 64)) (σ 55 20).toInt ((σ 55 19).toInt + 2) = r195.toInt := by omega
                                    clear k200
                                    refine lv_bipush (v := 10) hx hb dX12_one_200 (of_decide_eq_true rfl) ?_
                                    refine lv_iload_n hx hb dX12_one_202 rfl (lv_at hl 1 rfl) ?_
                                    refine lv_imul hx hb dX12_one_203 ?_
                                    refine lv_topi (fun x213 ex213 => ?_)
                                    exact by
                                     have tx213 : x213.toInt = 100 * r140.toInt + 10 * r177.toInt - 5280 := (jmul ex213 jz_10 tx185 (by omega) (by omega)).trans (by omega)
                                     refine lv_aload_n hx hb dX12_one_204 rfl (lv_at hl 4 rfl) ?_
                                     refine jcallV (As := []) (rest := [.int x213]) ⟨hx, hb, hml, hown, hts⟩ hK hP hA hS hZ (c_X12_byteAt l D cI cL ad zz hJ σ188 τ I193) cw_RX12_189 (jc_55 cI cL ad σ188 τ) rfl ⟨by dsimp only; omega, by dsimp only; omega⟩ rfl rfl rfl hl.1 rfl (Nat.le_of_ble_eq_true rfl) dX12_one_205 ⟨Nat.zero_le _, Nat.zero_le _⟩ (fun r215 σ214 τ214 H locs h214 hP hS => ?_)
                                     obtain ⟨⟨rfl, rfl⟩, h214⟩ := h214
                                     have h216 := h214
                                     obtain ⟨q219, k217, k218⟩ := h216
                                     try rw [show (σ188 55 19).toInt = (σ 55 19).toInt + 2 from by omega] at k218
                                     try rw [show (σ188 55 20).toInt = (σ 55 20).toInt from by omega] at k218
                                     try rw [show (σ188 55 18).toInt = (σ 55 18).toInt from by omega] at k218
                                     try rw [show σ188 63 = σ 63 from ((jnp 63 eσ188 (of_decide_eq_true rfl)).trans (jnp 63 eσ150 (of_decide_eq_true rfl)))] at k218
                                     try rw [show σ188 64 = σ 64 from ((jnp 64 eσ188 (of_decide_eq_true rfl)).trans (jnp 64 eσ150 (of_decide_eq_true rfl)))] at k218
                                     have k220 := k218.det k198
                                     have g221 := jrg (rfl : r215.toInt = r215.toInt)
                                     refine lv_iadd hx hb dX12_one_208 ?_
                                     refine lv_topi (fun x222 ex222 => ?_)
                                     exact by
                                      have tx222 : x222.toInt = 100 * r140.toInt + 10 * r177.toInt + r215.toInt - 5280 := (jadd ex222 tx213 rfl (by omega) (by omega)).trans (by omega)
                                      refine lv_bipush (v := 48) hx hb dX12_one_209 (of_decide_eq_true rfl) ?_
                                      refine lv_isub hx hb dX12_one_211 ?_
                                      refine lv_topi (fun x223 ex223 => ?_)
                                      have tx223 : x223.toInt = 100 * r140.toInt + 10 * r177.toInt + r215.toInt - 5328 := (jsub ex223 tx222 jz_48 (by omega) (by omega)).trans (by omega)
                                      refine lv_istore_n (lv' := [(3, .int x223), (4, .int 2), (2, .int (-1)), (1, .int r8), (0, .ref (ad 55))]) hx hb dX12_one_212 rfl hl (of_decide_eq_true rfl) rfl (fun ls hl => ?_)
                                      refine lv_iinc (v := 3) (lv' := [(4, .int 3), (3, .int x223), (2, .int (-1)), (1, .int r8), (0, .ref (ad 55))]) hx hb dX12_one_213 hl (k := 1) rfl (of_decide_eq_true rfl) (of_decide_eq_true rfl) rfl (fun ls hl => ?_)
                                      refine lv_aload_n hx hb dX12_one_216 rfl (lv_at hl 4 rfl) ?_
                                      refine lv_dup hx hb dX12_one_217 rfl ?_
                                      exact by
                                       refine va_get (D := D) hx hb hts inlX12 hown hK hP 55 (jc_55 cI cL ad σ188 τ) rfl 19 (of_decide_eq_true rfl) (hts _ kw_15_11) (fun _ h9 => h9) rfl dX12_one_218 ?_
                                       have m224 : σ188 55 19 = x187 := (jsp eσ188)
                                       refine jtopr m224 ?_
                                       refine lv_iconst (v := 1) hx hb dX12_one_221 (of_decide_eq_true rfl) ?_
                                       refine lv_iadd hx hb dX12_one_222 ?_
                                       refine lv_topi (fun x225 ex225 => ?_)
                                       have tx225 : x225.toInt = (σ 55 19).toInt + 3 := (jadd ex225 tx187 jz_1 (by omega) (by omega)).trans (by omega)
                                       refine jput (ty := .int) hx hb hts inlX12 tyX12 tyX12_ok nmX12 hown hK hP hJ hA hS (jc_55 cI cL ad σ188 τ) rfl (k := 19) (of_decide_eq_true rfl) (Nat.le_of_ble_eq_true rfl) (jp_55_19 cI cL ad σ188 τ x225) (hts _ kw_15_11) (fun _ h9 => h9) rfl (by decide +kernel) rfl rfl dX12_one_223 (fun σ226 H locs eσ226 hP hS => ?_)
                                       refine lv_goto (tgt := 176) hx hb dX12_one_226 (of_decide_eq_true rfl) ?_
                                       exact by
                                        refine lv_iload hx hb dX12_one_176 (lv_at hl 0 rfl) ?_
                                        refine lv_iconst (v := 4) hx hb dX12_one_178 (of_decide_eq_true rfl) ?_
                                        refine lv_icmp_ge (tgt := 229) hx hb dX12_one_179 (of_decide_eq_true rfl) (fun c => absurd c (of_decide_eq_true rfl)) (fun _ => ?_)
                                        refine lv_aload_n hx hb dX12_one_182 rfl (lv_at hl 4 rfl) ?_
                                        have z227 : (σ226 55 18).toInt = (σ 55 18).toInt := (congrArg Int32.toInt (show σ226 55 18 = (σ 55 18) from ((jkp 18 eσ226 (of_decide_eq_true rfl)).trans ((jkp 18 eσ188 (of_decide_eq_true rfl)).trans (jkp 18 eσ150 (of_decide_eq_true rfl))))))
                                        have z228 : (σ226 55 19).toInt = (σ 55 19).toInt + 3 := ((congrArg Int32.toInt (show σ226 55 19 = x225 from (jsp eσ226))).trans tx225)
                                        have z229 : (σ226 55 20).toInt = (σ 55 20).toInt := (congrArg Int32.toInt (show σ226 55 20 = (σ 55 20) from ((jkp 20 eσ226 (of_decide_eq_true rfl)).trans ((jkp 20 eσ188 (of_decide_eq_true rfl)).trans (jkp 20 eσ150 (of_decide_eq_true rfl))))))
                                        have z230 : (σ226 55 21).toInt = (σ 55 21).toInt := (congrArg Int32.toInt (show σ226 55 21 = (σ 55 21) from ((jkp 21 eσ226 (of_decide_eq_true rfl)).trans ((jkp 21 eσ188 (of_decide_eq_true rfl)).trans (jkp 21 eσ150 (of_decide_eq_true rfl))))))
                                        have I231 : jI121 σ226 := ⟨(by omega), (by omega), (by omega), (by omega), (by omega)⟩
                                        exact by
                                         refine jcallV (As := []) (rest := []) ⟨hx, hb, hml, hown, hts⟩ hK hP hA hS hZ (c_X12_byteAt l D cI cL ad zz hJ σ226 τ I231) cw_RX12_189 (jc_55 cI cL ad σ226 τ) rfl ⟨by dsimp only; omega, by dsimp only; omega⟩ rfl rfl rfl hl.1 rfl (Nat.le_of_ble_eq_true rfl) dX12_one_183 ⟨Nat.zero_le _, Nat.zero_le _⟩ (fun r233 σ232 τ232 H locs h232 hP hS => ?_)
                                         obtain ⟨⟨rfl, rfl⟩, h232⟩ := h232
                                         have h234 := h232
                                         obtain ⟨q237, k235, k236⟩ := h234
                                         try rw [show (σ226 55 19).toInt = (σ 55 19).toInt + 3 from by omega] at k236
                                         try rw [show (σ226 55 20).toInt = (σ 55 20).toInt from by omega] at k236
                                         try rw [show (σ226 55 18).toInt = (σ 55 18).toInt from by omega] at k236
                                         try rw [show σ226 63 = σ 63 from ((jnp 63 eσ226 (of_decide_eq_true rfl)).trans ((jnp 63 eσ188 (of_decide_eq_true rfl)).trans (jnp 63 eσ150 (of_decide_eq_true rfl))))] at k236
                                         try rw [show σ226 64 = σ 64 from ((jnp 64 eσ226 (of_decide_eq_true rfl)).trans ((jnp 64 eσ188 (of_decide_eq_true rfl)).trans (jnp 64 eσ150 (of_decide_eq_true rfl))))] at k236
                                         exact by
                                          have k238 := k236.ys (by omega)
                                          refine lv_bipush (v := 48) hx hb dX12_one_186 (of_decide_eq_true rfl) ?_
                                          refine lv_icmp_lt (tgt := 229) hx hb dX12_one_188 (of_decide_eq_true rfl) (fun c239 => ?_) (fun c239 => ?_)
                                          · have kc239 := jlt c239 rfl jz_48
                                            refine lv_iload hx hb dX12_one_229 (lv_at hl 0 rfl) ?_
                                            refine lv_if_ne (tgt := 241) hx hb dX12_one_231 (of_decide_eq_true rfl) (fun _ => ?_) (fun c => absurd c (of_decide_eq_true rfl))
                                            refine lv_iload_n hx hb dX12_one_241 rfl (lv_at hl 1 rfl) ?_
                                            have z240 : (σ226 55 22).toInt = (σ 55 22).toInt := (congrArg Int32.toInt (show σ226 55 22 = (σ 55 22) from ((jkp 22 eσ226 (of_decide_eq_true rfl)).trans ((jkp 22 eσ188 (of_decide_eq_true rfl)).trans (jkp 22 eσ150 (of_decide_eq_true rfl))))))
                                            exact by exact hret x223 σ226 τ _ _ _ _ rfl ⟨rfl, (fun i hi => ((jnp i eσ226 (imp_165 i hi)).trans ((jnp i eσ188 (imp_165 i hi)).trans (jnp i eσ150 (imp_165 i hi))))), (fun i hi => ((jkp i eσ226 (imp_171 i hi)).trans ((jkp i eσ188 (imp_171 i hi)).trans (jkp i eσ150 (imp_171 i hi))))), I231, (jRp.num (by omega) (by unfold jNq; first | ((repeat (first | rw [if_pos (by omega)] | rw [if_neg (by omega)])) <;> omega) | ((repeat' split) <;> omega)) (by omega) (by omega) (by omega) (by have h9 := tx223; unfold jNv; first | ((repeat (first | rw [if_pos (by omega)] | rw [if_neg (by omega)])) <;> omega) | ((repeat' split) <;> omega))), (by omega), (by omega), trivial⟩ hP hS dX12_one_242
                                          · have kc239 := jnlt c239 rfl jz_48
                                            refine lv_aload_n hx hb dX12_one_191 rfl (lv_at hl 4 rfl) ?_
                                            refine jcallV (As := []) (rest := []) ⟨hx, hb, hml, hown, hts⟩ hK hP hA hS hZ (c_X12_byteAt l D cI cL ad zz hJ σ226 τ I231) cw_RX12_189 (jc_55 cI cL ad σ226 τ) rfl ⟨by dsimp only; omega, by dsimp only; omega⟩ rfl rfl rfl hl.1 rfl (Nat.le_of_ble_eq_true rfl) dX12_one_192 ⟨Nat.zero_le _, Nat.zero_le _⟩ (fun r242 σ241 τ241 H locs h241 hP hS => ?_)
                                            obtain ⟨⟨rfl, rfl⟩, h241⟩ := h241
                                            have h243 := h241
                                            obtain ⟨q246, k244, k245⟩ := h243
                                            try rw [show (σ226 55 19).toInt = (σ 55 19).toInt + 3 from by omega] at k245
                                            try rw [show (σ226 55 20).toInt = (σ 55 20).toInt from by omega] at k245
                                            try rw [show (σ226 55 18).toInt = (σ 55 18).toInt from by omega] at k245
                                            try rw [show σ226 63 = σ 63 from ((jnp 63 eσ226 (of_decide_eq_true rfl)).trans ((jnp 63 eσ188 (of_decide_eq_true rfl)).trans (jnp 63 eσ150 (of_decide_eq_true rfl))))] at k245
                                            try rw [show σ226 64 = σ 64 from ((jnp 64 eσ226 (of_decide_eq_true rfl)).trans ((jnp 64 eσ188 (of_decide_eq_true rfl)).trans (jnp 64 eσ150 (of_decide_eq_true rfl))))] at k245
                                            have k247 := k245.det k236
                                            refine lv_bipush (v := 57) hx hb dX12_one_195 (of_decide_eq_true rfl) ?_
                                            refine lv_icmp_gt (tgt := 229) hx hb dX12_one_197 (of_decide_eq_true rfl) (fun c248 => ?_) (fun c248 => ?_)
                                            · have kc248 := jlt c248 jz_57 rfl
                                              refine lv_iload hx hb dX12_one_229 (lv_at hl 0 rfl) ?_
                                              refine lv_if_ne (tgt := 241) hx hb dX12_one_231 (of_decide_eq_true rfl) (fun _ => ?_) (fun c => absurd c (of_decide_eq_true rfl))
                                              refine lv_iload_n hx hb dX12_one_241 rfl (lv_at hl 1 rfl) ?_
                                              have z249 : (σ226 55 22).toInt = (σ 55 22).toInt := (congrArg Int32.toInt (show σ226 55 22 = (σ 55 22) from ((jkp 22 eσ226 (of_decide_eq_true rfl)).trans ((jkp 22 eσ188 (of_decide_eq_true rfl)).trans (jkp 22 eσ150 (of_decide_eq_true rfl))))))
                                              exact by exact hret x223 σ226 τ _ _ _ _ rfl ⟨rfl, (fun i hi => ((jnp i eσ226 (imp_165 i hi)).trans ((jnp i eσ188 (imp_165 i hi)).trans (jnp i eσ150 (imp_165 i hi))))), (fun i hi => ((jkp i eσ226 (imp_171 i hi)).trans ((jkp i eσ188 (imp_171 i hi)).trans (jkp i eσ150 (imp_171 i hi))))), I231, (jRp.num (by omega) (by unfold jNq; first | ((repeat (first | rw [if_pos (by omega)] | rw [if_neg (by omega)])) <;> omega) | ((repeat' split) <;> omega)) (by omega) (by omega) (by omega) (by have h9 := tx223; unfold jNv; first | ((repeat (first | rw [if_pos (by omega)] | rw [if_neg (by omega)])) <;> omega) | ((repeat' split) <;> omega))), (by omega), (by omega), trivial⟩ hP hS dX12_one_242
                                            · have kc248 := jnlt c248 jz_57 rfl
                                              have k250 : (σ 55 19).toInt + 3 < (σ 55 20).toInt ∧ jYs (jVw (σ 55 18).toInt (σ 63) (σ 64)) (σ 55 20).toInt ((σ 55 19).toInt + 3) = r233.toInt := by omega
                                              clear k238
                                              refine lv_bipush (v := 10) hx hb dX12_one_200 (of_decide_eq_true rfl) ?_
                                              refine lv_iload_n hx hb dX12_one_202 rfl (lv_at hl 1 rfl) ?_
                                              refine lv_imul hx hb dX12_one_203 ?_
                                              refine lv_topi (fun x251 ex251 => ?_)
                                              exact by
                                               have tx251 : x251.toInt = 1000 * r140.toInt + 100 * r177.toInt + 10 * r215.toInt - 53280 := (jmul ex251 jz_10 tx223 (by omega) (by omega)).trans (by omega)
                                               refine lv_aload_n hx hb dX12_one_204 rfl (lv_at hl 4 rfl) ?_
                                               refine jcallV (As := []) (rest := [.int x251]) ⟨hx, hb, hml, hown, hts⟩ hK hP hA hS hZ (c_X12_byteAt l D cI cL ad zz hJ σ226 τ I231) cw_RX12_189 (jc_55 cI cL ad σ226 τ) rfl ⟨by dsimp only; omega, by dsimp only; omega⟩ rfl rfl rfl hl.1 rfl (Nat.le_of_ble_eq_true rfl) dX12_one_205 ⟨Nat.zero_le _, Nat.zero_le _⟩ (fun r253 σ252 τ252 H locs h252 hP hS => ?_)
                                               obtain ⟨⟨rfl, rfl⟩, h252⟩ := h252
                                               have h254 := h252
                                               obtain ⟨q257, k255, k256⟩ := h254
                                               try rw [show (σ226 55 19).toInt = (σ 55 19).toInt + 3 from by omega] at k256
                                               try rw [show (σ226 55 20).toInt = (σ 55 20).toInt from by omega] at k256
                                               try rw [show (σ226 55 18).toInt = (σ 55 18).toInt from by omega] at k256
                                               try rw [show σ226 63 = σ 63 from ((jnp 63 eσ226 (of_decide_eq_true rfl)).trans ((jnp 63 eσ188 (of_decide_eq_true rfl)).trans (jnp 63 eσ150 (of_decide_eq_true rfl))))] at k256
                                               try rw [show σ226 64 = σ 64 from ((jnp 64 eσ226 (of_decide_eq_true rfl)).trans ((jnp 64 eσ188 (of_decide_eq_true rfl)).trans (jnp 64 eσ150 (of_decide_eq_true rfl))))] at k256
                                               have k258 := k256.det k236
                                               have g259 := jrg (rfl : r253.toInt = r253.toInt)
                                               refine lv_iadd hx hb dX12_one_208 ?_
                                               refine lv_topi (fun x260 ex260 => ?_)
                                               exact by
                                                have tx260 : x260.toInt = 1000 * r140.toInt + 100 * r177.toInt + 10 * r215.toInt + r253.toInt - 53280 := (jadd ex260 tx251 rfl (by omega) (by omega)).trans (by omega)
                                                refine lv_bipush (v := 48) hx hb dX12_one_209 (of_decide_eq_true rfl) ?_
                                                refine lv_isub hx hb dX12_one_211 ?_
                                                refine lv_topi (fun x261 ex261 => ?_)
                                                have tx261 : x261.toInt = 1000 * r140.toInt + 100 * r177.toInt + 10 * r215.toInt + r253.toInt - 53328 := (jsub ex261 tx260 jz_48 (by omega) (by omega)).trans (by omega)
                                                refine lv_istore_n (lv' := [(3, .int x261), (4, .int 3), (2, .int (-1)), (1, .int r8), (0, .ref (ad 55))]) hx hb dX12_one_212 rfl hl (of_decide_eq_true rfl) rfl (fun ls hl => ?_)
                                                refine lv_iinc (v := 4) (lv' := [(4, .int 4), (3, .int x261), (2, .int (-1)), (1, .int r8), (0, .ref (ad 55))]) hx hb dX12_one_213 hl (k := 1) rfl (of_decide_eq_true rfl) (of_decide_eq_true rfl) rfl (fun ls hl => ?_)
                                                refine lv_aload_n hx hb dX12_one_216 rfl (lv_at hl 4 rfl) ?_
                                                refine lv_dup hx hb dX12_one_217 rfl ?_
                                                exact by
                                                 refine va_get (D := D) hx hb hts inlX12 hown hK hP 55 (jc_55 cI cL ad σ226 τ) rfl 19 (of_decide_eq_true rfl) (hts _ kw_15_11) (fun _ h9 => h9) rfl dX12_one_218 ?_
                                                 have m262 : σ226 55 19 = x225 := (jsp eσ226)
                                                 refine jtopr m262 ?_
                                                 refine lv_iconst (v := 1) hx hb dX12_one_221 (of_decide_eq_true rfl) ?_
                                                 refine lv_iadd hx hb dX12_one_222 ?_
                                                 refine lv_topi (fun x263 ex263 => ?_)
                                                 have tx263 : x263.toInt = (σ 55 19).toInt + 4 := (jadd ex263 tx225 jz_1 (by omega) (by omega)).trans (by omega)
                                                 refine jput (ty := .int) hx hb hts inlX12 tyX12 tyX12_ok nmX12 hown hK hP hJ hA hS (jc_55 cI cL ad σ226 τ) rfl (k := 19) (of_decide_eq_true rfl) (Nat.le_of_ble_eq_true rfl) (jp_55_19 cI cL ad σ226 τ x263) (hts _ kw_15_11) (fun _ h9 => h9) rfl (by decide +kernel) rfl rfl dX12_one_223 (fun σ264 H locs eσ264 hP hS => ?_)
                                                 refine lv_goto (tgt := 176) hx hb dX12_one_226 (of_decide_eq_true rfl) ?_
                                                 exact by
                                                  refine lv_iload hx hb dX12_one_176 (lv_at hl 0 rfl) ?_
                                                  refine lv_iconst (v := 4) hx hb dX12_one_178 (of_decide_eq_true rfl) ?_
                                                  refine lv_icmp_ge (tgt := 229) hx hb dX12_one_179 (of_decide_eq_true rfl) (fun _ => ?_) (fun c => absurd (of_decide_eq_true rfl) c)
                                                  refine lv_iload hx hb dX12_one_229 (lv_at hl 0 rfl) ?_
                                                  refine lv_if_ne (tgt := 241) hx hb dX12_one_231 (of_decide_eq_true rfl) (fun _ => ?_) (fun c => absurd c (of_decide_eq_true rfl))
                                                  refine lv_iload_n hx hb dX12_one_241 rfl (lv_at hl 1 rfl) ?_
                                                  have z265 : (σ264 55 18).toInt = (σ 55 18).toInt := (congrArg Int32.toInt (show σ264 55 18 = (σ 55 18) from ((jkp 18 eσ264 (of_decide_eq_true rfl)).trans ((jkp 18 eσ226 (of_decide_eq_true rfl)).trans ((jkp 18 eσ188 (of_decide_eq_true rfl)).trans (jkp 18 eσ150 (of_decide_eq_true rfl)))))))
                                                  have z266 : (σ264 55 19).toInt = (σ 55 19).toInt + 4 := ((congrArg Int32.toInt (show σ264 55 19 = x263 from (jsp eσ264))).trans tx263)
                                                  have z267 : (σ264 55 20).toInt = (σ 55 20).toInt := (congrArg Int32.toInt (show σ264 55 20 = (σ 55 20) from ((jkp 20 eσ264 (of_decide_eq_true rfl)).trans ((jkp 20 eσ226 (of_decide_eq_true rfl)).trans ((jkp 20 eσ188 (of_decide_eq_true rfl)).trans (jkp 20 eσ150 (of_decide_eq_true rfl)))))))
                                                  have z268 : (σ264 55 21).toInt = (σ 55 21).toInt := (congrArg Int32.toInt (show σ264 55 21 = (σ 55 21) from ((jkp 21 eσ264 (of_decide_eq_true rfl)).trans ((jkp 21 eσ226 (of_decide_eq_true rfl)).trans ((jkp 21 eσ188 (of_decide_eq_true rfl)).trans (jkp 21 eσ150 (of_decide_eq_true rfl)))))))
                                                  exact by
                                                   have I269 : jI121 σ264 := ⟨(by omega), (by omega), (by omega), (by omega), (by omega)⟩
                                                   have z270 : (σ264 55 22).toInt = (σ 55 22).toInt := (congrArg Int32.toInt (show σ264 55 22 = (σ 55 22) from ((jkp 22 eσ264 (of_decide_eq_true rfl)).trans ((jkp 22 eσ226 (of_decide_eq_true rfl)).trans ((jkp 22 eσ188 (of_decide_eq_true rfl)).trans (jkp 22 eσ150 (of_decide_eq_true rfl)))))))
                                                   exact by exact hret x261 σ264 τ _ _ _ _ rfl ⟨rfl, (fun i hi => ((jnp i eσ264 (imp_165 i hi)).trans ((jnp i eσ226 (imp_165 i hi)).trans ((jnp i eσ188 (imp_165 i hi)).trans (jnp i eσ150 (imp_165 i hi)))))), (fun i hi => ((jkp i eσ264 (imp_171 i hi)).trans ((jkp i eσ226 (imp_171 i hi)).trans ((jkp i eσ188 (imp_171 i hi)).trans (jkp i eσ150 (imp_171 i hi)))))), I269, (jRp.num (by omega) (by unfold jNq; first | ((repeat (first | rw [if_pos (by omega)] | rw [if_neg (by omega)])) <;> omega) | ((repeat' split) <;> omega)) (by omega) (by omega) (by omega) (by have h9 := tx261; unfold jNv; first | ((repeat (first | rw [if_pos (by omega)] | rw [if_neg (by omega)])) <;> omega) | ((repeat' split) <;> omega))), (by omega), (by omega), trivial⟩ hP hS dX12_one_242
        · have kc58 := jeq c58 rfl jz_40
          refine lv_aload_n hx hb dX12_one_32 rfl (lv_at hl 1 rfl) ?_
          refine va_get (D := D) hx hb hts inlX12 hown hK hP 55 (jc_55 cI cL ad σ τ) rfl 22 (of_decide_eq_true rfl) (hts _ kw_18_21) (fun _ h9 => h9) rfl dX12_one_33 ?_
          refine lv_bipush (v := 6) hx hb dX12_one_36 (of_decide_eq_true rfl) ?_
          refine lv_icmp_ne (tgt := 46) hx hb dX12_one_38 (of_decide_eq_true rfl) (fun c => absurd (jne c rfl jz_6) (by omega)) (fun c271 => ?_)
          have kc271 := jeq c271 rfl jz_6
          exact by
           refine lv_aload_n hx hb dX12_one_41 rfl (lv_at hl 1 rfl) ?_
           refine jcallV (As := []) (rest := []) ⟨hx, hb, hml, hown, hts⟩ hK hP hA hS hZ (c_X12_wrong l D cI cL ad zz hJ σ τ hI121) cw_RX12_214 (jc_55 cI cL ad σ τ) rfl ⟨by dsimp only; omega, by dsimp only; omega⟩ rfl rfl rfl hl.1 rfl (Nat.le_of_ble_eq_true rfl) dX12_one_42 ⟨Nat.zero_le _, Nat.zero_le _⟩ (fun r273 σ272 τ272 H locs h272 hP hS => ?_)
           obtain ⟨rfl, f274, f275, I276, h272⟩ := h272
           obtain ⟨i278, i279, i280, i281, i282⟩ : ((-1) ≤ (σ272 55 18).toInt ∧ (σ272 55 18).toInt ≤ 80) ∧ (0 ≤ (σ272 55 19).toInt) ∧ ((σ272 55 19).toInt ≤ (σ272 55 20).toInt) ∧ ((σ272 55 20).toInt ≤ 80) ∧ ((-1) ≤ (σ272 55 21).toInt ∧ (σ272 55 21).toInt ≤ 80) := id I276
           have z283 : (σ272 55 18).toInt = (σ 55 18).toInt := (congrArg Int32.toInt (show σ272 55 18 = (σ 55 18) from (f275 18 (of_decide_eq_true rfl))))
           have z284 : (σ272 55 19).toInt = (σ 55 19).toInt := (congrArg Int32.toInt (show σ272 55 19 = (σ 55 19) from (f275 19 (of_decide_eq_true rfl))))
           have z285 : (σ272 55 20).toInt = (σ 55 20).toInt := (congrArg Int32.toInt (show σ272 55 20 = (σ 55 20) from (f275 20 (of_decide_eq_true rfl))))
           obtain ⟨k286, k287, h272⟩ := h272
           have h288 := h272
           obtain ⟨q290, k289⟩ := h288
           have q290 := q290.symm
           subst q290
           have z291 : (σ272 55 22).toInt = (σ 55 22).toInt := (congrArg Int32.toInt (show σ272 55 22 = (σ 55 22) from (f275 22 (of_decide_eq_true rfl))))
           exact by exact hret 0 σ272 τ _ _ _ _ rfl ⟨rfl, (fun i hi => (f274 i hi)), (fun i hi => (f275 i (imp_172 i hi))), I276, (jRp.bad (by omega) (by omega) (jNm_n (by omega)) (by omega) (by omega) (by omega)), (by omega), (by omega), trivial⟩ hP hS dX12_one_45
set_option maxHeartbeats 4000000 in
set_option maxRecDepth 100000 in
theorem c_X12_grammar_product_g (l : Launch) (D : va_G) (cI cL : ClassId) (ad zz : Nat → Nat) (hJ : jD ad) (n : Nat) (h_one : ∀ (σ : Nat → Nat → Int32) (τ : Nat → Nat → Int64) (hI121 : jI121 σ) (hp0 : (σ 55 21).toInt = (-1)) (hp1 : 0 ≤ (σ 55 22).toInt ∧ (σ 55 22).toInt ≤ 6) (hp2 : -(σ 55 22).toInt + 6 ≤ (((n) : Nat) : Int)), jM l yX12_one cX12_one 5 (some .int) ({ frames := (10 + 8 * (n)), cells := 0, slots := 0, locals := (400 + 360 * (n)) }) D cI cL ad zz [.ref (ad 55)] σ τ (fun r σ' τ' => τ = τ' ∧ (∀ i : Nat, (i < 55 ∨ 55 < i) → σ' i = σ i) ∧ (∀ k : Nat, (k < 19 ∨ 19 < k) ∧ (k < 21 ∨ 21 < k) ∧ (k < 22 ∨ 22 < k) → σ' 55 k = σ 55 k) ∧ (jI121 σ') ∧ (jRp (jVw (σ 55 18).toInt (σ 63) (σ 64)) (σ 55 20).toInt (σ 66) 5 (σ 55 22).toInt (σ 55 19).toInt (σ' 55 19).toInt (σ' 55 21).toInt r) ∧ (((σ' 55 21).toInt = (-1) ∧ (σ' 55 22).toInt = (σ 55 22).toInt) ∨ (0 ≤ (σ' 55 21).toInt)) ∧ ((σ 55 19).toInt ≤ (σ' 55 19).toInt) ∧ True)) (σ : Nat → Nat → Int32) (τ : Nat → Nat → Int64) (hI121 : jI121 σ) (hp0 : (σ 55 21).toInt = (-1)) (hp1 : 0 ≤ (σ 55 22).toInt ∧ (σ 55 22).toInt ≤ 6) (hp2 : -(σ 55 22).toInt + 6 ≤ (((n) : Nat) : Int)) : jM l yX12_product cX12_product 4 (some .int) ({ frames := (11 + 8 * (n)), cells := 0, slots := 0, locals := (440 + 360 * (n)) }) D cI cL ad zz [.ref (ad 55)] σ τ (fun r σ' τ' => τ = τ' ∧ (∀ i : Nat, (i < 55 ∨ 55 < i) → σ' i = σ i) ∧ (∀ k : Nat, (k < 19 ∨ 19 < k) ∧ (k < 21 ∨ 21 < k) ∧ (k < 22 ∨ 22 < k) → σ' 55 k = σ 55 k) ∧ (jI121 σ') ∧ (jRp (jVw (σ 55 18).toInt (σ 63) (σ 64)) (σ 55 20).toInt (σ 66) 4 (σ 55 22).toInt (σ 55 19).toInt (σ' 55 19).toInt (σ' 55 21).toInt r) ∧ (((σ' 55 21).toInt = (-1) ∧ (σ' 55 22).toInt = (σ 55 22).toInt) ∨ (0 ≤ (σ' 55 21).toInt)) ∧ ((σ 55 19).toInt ≤ (σ' 55 19).toInt) ∧ True) := by
  refine jM.of hJ (by decide +kernel) (nt := .int) rfl (Nat.le_of_ble_eq_true rfl) ?_
  intro p e s m args below meth c Q ls hC hret hl hP
  obtain ⟨hx, hb, hr, hml, hown, hts, hK, -, hlocks, hZ⟩ := hC
  have hown : s.vm.findClass RX12 = some m.cls := hown
  have hS : va_S (jA ad) s.heap s.heap [] := va_S.rf
  have hA : ∀ q, jA ad q → jA ad q := fun _ h => h
  have hl : lv_has ls 4 [(0, .ref (ad 55))] := hl
  obtain ⟨i1, i2, i3, i4, i5⟩ : ((-1) ≤ (σ 55 18).toInt ∧ (σ 55 18).toInt ≤ 80) ∧ (0 ≤ (σ 55 19).toInt) ∧ ((σ 55 19).toInt ≤ (σ 55 20).toInt) ∧ ((σ 55 20).toInt ≤ 80) ∧ ((-1) ≤ (σ 55 21).toInt ∧ (σ 55 21).toInt ≤ 80) := id hI121
  refine lv_aload_n hx hb dX12_product_0 rfl (lv_at hl 0 rfl) ?_
  exact by
   refine jcallV (As := []) (rest := []) ⟨hx, hb, hml, hown, hts⟩ hK hP hA hS hZ (h_one σ τ hI121 (by omega) (by omega) (by omega)) cw_RX12_208 (jc_55 cI cL ad σ τ) rfl ⟨by dsimp only; omega, by dsimp only; omega⟩ rfl rfl rfl hl.1 rfl (Nat.le_of_ble_eq_true rfl) dX12_product_1 ⟨Nat.zero_le _, Nat.zero_le _⟩ (fun r7 σ6 τ6 H locs h6 hP hS => ?_)
   obtain ⟨rfl, f8, f9, I10, w11, h6⟩ := h6
   obtain ⟨i13, i14, i15, i16, i17⟩ : ((-1) ≤ (σ6 55 18).toInt ∧ (σ6 55 18).toInt ≤ 80) ∧ (0 ≤ (σ6 55 19).toInt) ∧ ((σ6 55 19).toInt ≤ (σ6 55 20).toInt) ∧ ((σ6 55 20).toInt ≤ 80) ∧ ((-1) ≤ (σ6 55 21).toInt ∧ (σ6 55 21).toInt ≤ 80) := id I10
   have z18 : (σ6 55 18).toInt = (σ 55 18).toInt := (congrArg Int32.toInt (show σ6 55 18 = (σ 55 18) from (f9 18 (of_decide_eq_true rfl))))
   have z19 : (σ6 55 20).toInt = (σ 55 20).toInt := (congrArg Int32.toInt (show σ6 55 20 = (σ 55 20) from (f9 20 (of_decide_eq_true rfl))))
   obtain ⟨k20, k21, h6⟩ := h6
   refine lv_istore_n (lv' := [(1, .int r7), (0, .ref (ad 55))]) hx hb dX12_product_4 rfl hl (of_decide_eq_true rfl) rfl (fun ls hl => ?_)
   refine lv_aload_n hx hb dX12_product_5 rfl (lv_at hl 1 rfl) ?_
   refine jcallV (As := []) (rest := []) ⟨hx, hb, hml, hown, hts⟩ hK hP hA hS hZ (c_X12_byteAt l D cI cL ad zz hJ σ6 τ I10) cw_RX12_189 (jc_55 cI cL ad σ6 τ) rfl ⟨by dsimp only; omega, by dsimp only; omega⟩ rfl rfl rfl hl.1 rfl (Nat.le_of_ble_eq_true rfl) dX12_product_6 ⟨Nat.zero_le _, Nat.zero_le _⟩ (fun r23 σ22 τ22 H locs h22 hP hS => ?_)
   obtain ⟨⟨rfl, rfl⟩, h22⟩ := h22
   have h24 := h22
   obtain ⟨q27, k25, k26⟩ := h24
   try rw [show (σ6 55 20).toInt = (σ 55 20).toInt from by omega] at k26
   try rw [show (σ6 55 18).toInt = (σ 55 18).toInt from by omega] at k26
   try rw [show σ6 63 = σ 63 from (f8 63 (of_decide_eq_true rfl))] at k26
   try rw [show σ6 64 = σ 64 from (f8 64 (of_decide_eq_true rfl))] at k26
   exact by
    have k28 := k26.ys (by omega)
    refine lv_istore_n (lv' := [(2, .int r23), (1, .int r7), (0, .ref (ad 55))]) hx hb dX12_product_9 rfl hl (of_decide_eq_true rfl) rfl (fun ls hl => ?_)
    have lp29 : ∀ (n30 : Nat) (x31 : Int32) (x32 : Int32) (σ34 : Nat → Nat → Int32) (H : Heap) (locs : List Loc) (ls : Array Slot), ((σ34 55 20).toInt - (σ34 55 19).toInt : Int) < n30 → (-1) ≤ (σ34 55 18).toInt ∧ (σ34 55 18).toInt ≤ 80 → 0 ≤ (σ34 55 19).toInt → (σ34 55 19).toInt ≤ (σ34 55 20).toInt → (σ34 55 20).toInt ≤ 80 → (-1) ≤ (σ34 55 21).toInt ∧ (σ34 55 21).toInt ≤ 80 → (((σ34 55 21).toInt = (-1) ∧ (σ34 55 22).toInt = (σ 55 22).toInt) ∨ (0 ≤ (σ34 55 21).toInt)) → (σ 55 19).toInt ≤ (σ34 55 19).toInt → ((x32.toInt = 0) ∨ ((σ34 55 19).toInt < (σ34 55 20).toInt)) → (∀ i : Nat, (i < 55 ∨ 55 < i) → σ34 i = σ6 i) → (∀ k : Nat, (k < 19 ∨ 19 < k) ∧ (k < 21 ∨ 21 < k) ∧ (k < 22 ∨ 22 < k) → σ34 55 k = σ6 55 k) → (jRi (jVw (σ 55 18).toInt (σ 63) (σ 64)) (σ 55 20).toInt (σ 66) 4 (σ 55 22).toInt (σ 55 19).toInt (σ34 55 19).toInt (σ34 55 21).toInt x31 ∧ jBy (jVw (σ 55 18).toInt (σ 63) (σ 64)) (σ 55 20).toInt (σ34 55 19).toInt x32.toInt) → jH D cI cL ad σ34 τ H → va_S (jA ad) s.heap H locs → lv_has ls 4 [(2, .int x32), (1, .int x31), (0, .ref (ad 55))] → W p l e ({ frames := (11 + 8 * (n)), cells := 0, slots := 0, locals := (440 + 360 * (n)) }) s m args below meth c H locs 0 0 Q (F0 m 10 ls []) := by
      intro n30
      induction n30 with
      | zero => intro x31 x32 σ34 H locs ls h36 h37 h38 h39 h40 h41 h42 h43 h44; have gx31 := jrg (rfl : x31.toInt = x31.toInt); have gx32 := jrg (rfl : x32.toInt = x32.toInt); exact absurd h36 (by omega)
      | succ n30 ihlp29 =>
        intro x31 x32 σ34 H locs ls h36 h37 h38 h39 h40 h41 h42 h43 h44 f45 f46 q47 hP hS hl
        have gx31 := jrg (rfl : x31.toInt = x31.toInt); have gx32 := jrg (rfl : x32.toInt = x32.toInt)
        exact by
         have z48 : (σ34 55 20).toInt = (σ 55 20).toInt := (congrArg Int32.toInt (show σ34 55 20 = (σ 55 20) from ((f46 20 (of_decide_eq_true rfl)).trans (f9 20 (of_decide_eq_true rfl)))))
         have z49 : (σ34 55 18).toInt = (σ 55 18).toInt := (congrArg Int32.toInt (show σ34 55 18 = (σ 55 18) from ((f46 18 (of_decide_eq_true rfl)).trans (f9 18 (of_decide_eq_true rfl)))))
         have k50 := q47.2.ys (by omega)
         refine lv_aload_n hx hb dX12_product_10 rfl (lv_at hl 2 rfl) ?_
         refine va_get (D := D) hx hb hts inlX12 hown hK hP 55 (jc_55 cI cL ad σ34 τ) rfl 21 (of_decide_eq_true rfl) (hts _ kw_15_13) (fun _ h9 => h9) rfl dX12_product_11 ?_
         refine lv_if_ge (tgt := 94) hx hb dX12_product_14 (of_decide_eq_true rfl) (fun c51 => ?_) (fun c51 => ?_)
         · have kc51 := jle c51 jz_0 rfl
           refine lv_iload_n hx hb dX12_product_94 rfl (lv_at hl 1 rfl) ?_
           have I52 : jI121 σ34 := ⟨(by omega), (by omega), (by omega), (by omega), (by omega)⟩
           exact by exact hret x31 σ34 τ _ _ _ _ rfl ⟨rfl, (fun i hi => ((f45 i hi).trans (f8 i hi))), (fun i hi => ((f46 i hi).trans (f9 i hi))), I52, (jRp.to (jRi.fin q47.1 (of_decide_eq_true rfl) (fun h9 => absurd h9 (by omega))) (by omega) (by omega)), (by omega), (by omega), trivial⟩ hP hS dX12_product_95
         · exact by
            have kc51 := jnle c51 jz_0 rfl
            refine lv_iload_n hx hb dX12_product_17 rfl (lv_at hl 0 rfl) ?_
            refine lv_bipush (v := 42) hx hb dX12_product_18 (of_decide_eq_true rfl) ?_
            refine lv_icmp_eq (tgt := 35) hx hb dX12_product_20 (of_decide_eq_true rfl) (fun c53 => ?_) (fun c53 => ?_)
            · have kc53 := jeq c53 rfl jz_42
              refine lv_aload_n hx hb dX12_product_35 rfl (lv_at hl 2 rfl) ?_
              refine lv_dup hx hb dX12_product_36 rfl ?_
              refine va_get (D := D) hx hb hts inlX12 hown hK hP 55 (jc_55 cI cL ad σ34 τ) rfl 19 (of_decide_eq_true rfl) (hts _ kw_15_11) (fun _ h9 => h9) rfl dX12_product_37 ?_
              refine lv_iconst (v := 1) hx hb dX12_product_40 (of_decide_eq_true rfl) ?_
              have g54 := jrg (rfl : (σ34 55 19).toInt = (σ34 55 19).toInt)
              refine lv_iadd hx hb dX12_product_41 ?_
              refine lv_topi (fun x55 ex55 => ?_)
              exact by
               have tx55 : x55.toInt = (σ34 55 19).toInt + 1 := (jadd ex55 rfl jz_1 (by omega) (by omega)).trans (by omega)
               refine jput (ty := .int) hx hb hts inlX12 tyX12 tyX12_ok nmX12 hown hK hP hJ hA hS (jc_55 cI cL ad σ34 τ) rfl (k := 19) (of_decide_eq_true rfl) (Nat.le_of_ble_eq_true rfl) (jp_55_19 cI cL ad σ34 τ x55) (hts _ kw_15_11) (fun _ h9 => h9) rfl (by decide +kernel) rfl rfl dX12_product_42 (fun σ56 H locs eσ56 hP hS => ?_)
               refine lv_aload_n hx hb dX12_product_45 rfl (lv_at hl 2 rfl) ?_
               have z57 : (σ56 55 18).toInt = (σ 55 18).toInt := (congrArg Int32.toInt (show σ56 55 18 = (σ 55 18) from ((jkp 18 eσ56 (of_decide_eq_true rfl)).trans ((f46 18 (of_decide_eq_true rfl)).trans (f9 18 (of_decide_eq_true rfl))))))
               have z58 : (σ56 55 19).toInt = (σ34 55 19).toInt + 1 := ((congrArg Int32.toInt (show σ56 55 19 = x55 from (jsp eσ56))).trans tx55)
               have z59 : (σ56 55 20).toInt = (σ 55 20).toInt := (congrArg Int32.toInt (show σ56 55 20 = (σ 55 20) from ((jkp 20 eσ56 (of_decide_eq_true rfl)).trans ((f46 20 (of_decide_eq_true rfl)).trans (f9 20 (of_decide_eq_true rfl))))))
               have z60 : (σ56 55 21).toInt = (σ34 55 21).toInt := (congrArg Int32.toInt (show σ56 55 21 = (σ34 55 21) from (jkp 21 eσ56 (of_decide_eq_true rfl))))
               have I61 : jI121 σ56 := ⟨(by omega), (by omega), (by omega), (by omega), (by omega)⟩
               have z62 : (σ56 55 22).toInt = (σ34 55 22).toInt := (congrArg Int32.toInt (show σ56 55 22 = (σ34 55 22) from (jkp 22 eσ56 (of_decide_eq_true rfl))))
               exact by
                refine jcallV (As := []) (rest := []) ⟨hx, hb, hml, hown, hts⟩ hK hP hA hS hZ (h_one σ56 τ I61 (by omega) (by omega) (by omega)) cw_RX12_208 (jc_55 cI cL ad σ56 τ) rfl ⟨by dsimp only; omega, by dsimp only; omega⟩ rfl rfl rfl hl.1 rfl (Nat.le_of_ble_eq_true rfl) dX12_product_46 ⟨Nat.zero_le _, Nat.zero_le _⟩ (fun r64 σ63 τ63 H locs h63 hP hS => ?_)
                obtain ⟨rfl, f65, f66, I67, w68, h63⟩ := h63
                obtain ⟨i70, i71, i72, i73, i74⟩ : ((-1) ≤ (σ63 55 18).toInt ∧ (σ63 55 18).toInt ≤ 80) ∧ (0 ≤ (σ63 55 19).toInt) ∧ ((σ63 55 19).toInt ≤ (σ63 55 20).toInt) ∧ ((σ63 55 20).toInt ≤ 80) ∧ ((-1) ≤ (σ63 55 21).toInt ∧ (σ63 55 21).toInt ≤ 80) := id I67
                try rw [show (σ56 55 19).toInt = (σ34 55 19).toInt + 1 from by omega] at w68
                try rw [show (σ56 55 20).toInt = (σ 55 20).toInt from by omega] at w68
                try rw [show (σ56 55 18).toInt = (σ 55 18).toInt from by omega] at w68
                try rw [show σ56 63 = σ 63 from ((jnp 63 eσ56 (of_decide_eq_true rfl)).trans ((f45 63 (of_decide_eq_true rfl)).trans (f8 63 (of_decide_eq_true rfl))))] at w68
                try rw [show σ56 64 = σ 64 from ((jnp 64 eσ56 (of_decide_eq_true rfl)).trans ((f45 64 (of_decide_eq_true rfl)).trans (f8 64 (of_decide_eq_true rfl))))] at w68
                try rw [show σ56 66 = σ 66 from by rw [jnp 66 eσ56 (of_decide_eq_true rfl), f45 66 (of_decide_eq_true rfl), f8 66 (of_decide_eq_true rfl)]] at w68
                try rw [show (σ56 55 22).toInt = (σ 55 22).toInt from by omega] at w68
                have z75 : (σ63 55 18).toInt = (σ 55 18).toInt := (congrArg Int32.toInt (show σ63 55 18 = (σ 55 18) from ((f66 18 (of_decide_eq_true rfl)).trans ((jkp 18 eσ56 (of_decide_eq_true rfl)).trans ((f46 18 (of_decide_eq_true rfl)).trans (f9 18 (of_decide_eq_true rfl)))))))
                have z76 : (σ63 55 20).toInt = (σ 55 20).toInt := (congrArg Int32.toInt (show σ63 55 20 = (σ 55 20) from ((f66 20 (of_decide_eq_true rfl)).trans ((jkp 20 eσ56 (of_decide_eq_true rfl)).trans ((f46 20 (of_decide_eq_true rfl)).trans (f9 20 (of_decide_eq_true rfl)))))))
                obtain ⟨k77, k78, h63⟩ := h63
                refine lv_istore_n (lv' := [(3, .int r64), (2, .int x32), (1, .int x31), (0, .ref (ad 55))]) hx hb dX12_product_49 rfl hl (of_decide_eq_true rfl) rfl (fun ls hl => ?_)
                refine lv_iload_n hx hb dX12_product_50 rfl (lv_at hl 1 rfl) ?_
                refine lv_bipush (v := 42) hx hb dX12_product_51 (of_decide_eq_true rfl) ?_
                exact by
                 refine lv_icmp_ne (tgt := 62) hx hb dX12_product_53 (of_decide_eq_true rfl) (fun c => absurd (jne c rfl jz_42) (by omega)) (fun c79 => ?_)
                 have kc79 := jeq c79 rfl jz_42
                 refine lv_iload_n hx hb dX12_product_56 rfl (lv_at hl 2 rfl) ?_
                 refine lv_iload_n hx hb dX12_product_57 rfl (lv_at hl 0 rfl) ?_
                 have g80 := jrg (rfl : x31.toInt = x31.toInt)
                 have g81 := jrg (rfl : r64.toInt = r64.toInt)
                 refine lv_imul hx hb dX12_product_58 ?_
                 refine lv_topi (fun x82 ex82 => ?_)
                 have gx82 := jrg (rfl : x82.toInt = x82.toInt)
                 refine lv_goto (tgt := 85) hx hb dX12_product_59 (of_decide_eq_true rfl) ?_
                 refine lv_istore_n (lv' := [(1, .int x82), (3, .int r64), (2, .int x32), (0, .ref (ad 55))]) hx hb dX12_product_85 rfl hl (of_decide_eq_true rfl) rfl (fun ls hl => ?_)
                 refine lv_aload_n hx hb dX12_product_86 rfl (lv_at hl 3 rfl) ?_
                 refine jcallV (As := []) (rest := []) ⟨hx, hb, hml, hown, hts⟩ hK hP hA hS hZ (c_X12_byteAt l D cI cL ad zz hJ σ63 τ I67) cw_RX12_189 (jc_55 cI cL ad σ63 τ) rfl ⟨by dsimp only; omega, by dsimp only; omega⟩ rfl rfl rfl hl.1 rfl (Nat.le_of_ble_eq_true rfl) dX12_product_87 ⟨Nat.zero_le _, Nat.zero_le _⟩ (fun r84 σ83 τ83 H locs h83 hP hS => ?_)
                 obtain ⟨⟨rfl, rfl⟩, h83⟩ := h83
                 have h85 := h83
                 obtain ⟨q88, k86, k87⟩ := h85
                 try rw [show (σ63 55 20).toInt = (σ 55 20).toInt from by omega] at k87
                 try rw [show (σ63 55 18).toInt = (σ 55 18).toInt from by omega] at k87
                 try rw [show σ63 63 = σ 63 from ((f65 63 (of_decide_eq_true rfl)).trans ((jnp 63 eσ56 (of_decide_eq_true rfl)).trans ((f45 63 (of_decide_eq_true rfl)).trans (f8 63 (of_decide_eq_true rfl)))))] at k87
                 try rw [show σ63 64 = σ 64 from ((f65 64 (of_decide_eq_true rfl)).trans ((jnp 64 eσ56 (of_decide_eq_true rfl)).trans ((f45 64 (of_decide_eq_true rfl)).trans (f8 64 (of_decide_eq_true rfl)))))] at k87
                 exact by
                  have k89 := k87.ys (by omega)
                  refine lv_istore_n (lv' := [(2, .int r84), (1, .int x82), (3, .int r64), (0, .ref (ad 55))]) hx hb dX12_product_90 rfl hl (of_decide_eq_true rfl) rfl (fun ls hl => ?_)
                  refine lv_goto (tgt := 10) hx hb dX12_product_91 (of_decide_eq_true rfl) ?_
                  exact by exact ihlp29 x82 r84 σ63 _ _ ls (by omega) (by omega) (by omega) (by omega) (by omega) (by omega) (by omega) (by omega) (by omega) (fun i hi => ((f65 i hi).trans ((jnp i eσ56 (imp_165 i hi)).trans (f45 i hi)))) (fun i hi => ((f66 i hi).trans ((jkp i eσ56 (imp_171 i hi)).trans (f46 i hi))))  ⟨(jRi.to (jRi.step (a := (σ34 55 19).toInt) q47.1 (by omega) (of_decide_eq_true rfl) (of_decide_eq_true rfl) (of_decide_eq_true rfl) (by rw [show jYs (jVw (σ 55 18).toInt (σ 63) (σ 64)) (σ 55 20).toInt (σ34 55 19).toInt = 42 from by omega]; decide) w68 (of_decide_eq_true rfl) (by omega) (by rw [show jYs (jVw (σ 55 18).toInt (σ 63) (σ 64)) (σ 55 20).toInt (σ34 55 19).toInt = 42 from by omega]; exact jBi_tm ex82)) (by omega) (by omega)), k87⟩ hP hS (lv_sub hl [0, 1, 3] rfl)
            · have kc53 := jne c53 rfl jz_42
              refine lv_iload_n hx hb dX12_product_23 rfl (lv_at hl 0 rfl) ?_
              refine lv_bipush (v := 47) hx hb dX12_product_24 (of_decide_eq_true rfl) ?_
              refine lv_icmp_eq (tgt := 35) hx hb dX12_product_26 (of_decide_eq_true rfl) (fun c90 => ?_) (fun c90 => ?_)
              · have kc90 := jeq c90 rfl jz_47
                refine lv_aload_n hx hb dX12_product_35 rfl (lv_at hl 2 rfl) ?_
                refine lv_dup hx hb dX12_product_36 rfl ?_
                refine va_get (D := D) hx hb hts inlX12 hown hK hP 55 (jc_55 cI cL ad σ34 τ) rfl 19 (of_decide_eq_true rfl) (hts _ kw_15_11) (fun _ h9 => h9) rfl dX12_product_37 ?_
                refine lv_iconst (v := 1) hx hb dX12_product_40 (of_decide_eq_true rfl) ?_
                have g91 := jrg (rfl : (σ34 55 19).toInt = (σ34 55 19).toInt)
                refine lv_iadd hx hb dX12_product_41 ?_
                refine lv_topi (fun x92 ex92 => ?_)
                exact by
                 have tx92 : x92.toInt = (σ34 55 19).toInt + 1 := (jadd ex92 rfl jz_1 (by omega) (by omega)).trans (by omega)
                 refine jput (ty := .int) hx hb hts inlX12 tyX12 tyX12_ok nmX12 hown hK hP hJ hA hS (jc_55 cI cL ad σ34 τ) rfl (k := 19) (of_decide_eq_true rfl) (Nat.le_of_ble_eq_true rfl) (jp_55_19 cI cL ad σ34 τ x92) (hts _ kw_15_11) (fun _ h9 => h9) rfl (by decide +kernel) rfl rfl dX12_product_42 (fun σ93 H locs eσ93 hP hS => ?_)
                 refine lv_aload_n hx hb dX12_product_45 rfl (lv_at hl 2 rfl) ?_
                 have z94 : (σ93 55 18).toInt = (σ 55 18).toInt := (congrArg Int32.toInt (show σ93 55 18 = (σ 55 18) from ((jkp 18 eσ93 (of_decide_eq_true rfl)).trans ((f46 18 (of_decide_eq_true rfl)).trans (f9 18 (of_decide_eq_true rfl))))))
                 have z95 : (σ93 55 19).toInt = (σ34 55 19).toInt + 1 := ((congrArg Int32.toInt (show σ93 55 19 = x92 from (jsp eσ93))).trans tx92)
                 have z96 : (σ93 55 20).toInt = (σ 55 20).toInt := (congrArg Int32.toInt (show σ93 55 20 = (σ 55 20) from ((jkp 20 eσ93 (of_decide_eq_true rfl)).trans ((f46 20 (of_decide_eq_true rfl)).trans (f9 20 (of_decide_eq_true rfl))))))
                 have z97 : (σ93 55 21).toInt = (σ34 55 21).toInt := (congrArg Int32.toInt (show σ93 55 21 = (σ34 55 21) from (jkp 21 eσ93 (of_decide_eq_true rfl))))
                 have I98 : jI121 σ93 := ⟨(by omega), (by omega), (by omega), (by omega), (by omega)⟩
                 have z99 : (σ93 55 22).toInt = (σ34 55 22).toInt := (congrArg Int32.toInt (show σ93 55 22 = (σ34 55 22) from (jkp 22 eσ93 (of_decide_eq_true rfl))))
                 exact by
                  refine jcallV (As := []) (rest := []) ⟨hx, hb, hml, hown, hts⟩ hK hP hA hS hZ (h_one σ93 τ I98 (by omega) (by omega) (by omega)) cw_RX12_208 (jc_55 cI cL ad σ93 τ) rfl ⟨by dsimp only; omega, by dsimp only; omega⟩ rfl rfl rfl hl.1 rfl (Nat.le_of_ble_eq_true rfl) dX12_product_46 ⟨Nat.zero_le _, Nat.zero_le _⟩ (fun r101 σ100 τ100 H locs h100 hP hS => ?_)
                  obtain ⟨rfl, f102, f103, I104, w105, h100⟩ := h100
                  obtain ⟨i107, i108, i109, i110, i111⟩ : ((-1) ≤ (σ100 55 18).toInt ∧ (σ100 55 18).toInt ≤ 80) ∧ (0 ≤ (σ100 55 19).toInt) ∧ ((σ100 55 19).toInt ≤ (σ100 55 20).toInt) ∧ ((σ100 55 20).toInt ≤ 80) ∧ ((-1) ≤ (σ100 55 21).toInt ∧ (σ100 55 21).toInt ≤ 80) := id I104
                  try rw [show (σ93 55 19).toInt = (σ34 55 19).toInt + 1 from by omega] at w105
                  try rw [show (σ93 55 20).toInt = (σ 55 20).toInt from by omega] at w105
                  try rw [show (σ93 55 18).toInt = (σ 55 18).toInt from by omega] at w105
                  try rw [show σ93 63 = σ 63 from ((jnp 63 eσ93 (of_decide_eq_true rfl)).trans ((f45 63 (of_decide_eq_true rfl)).trans (f8 63 (of_decide_eq_true rfl))))] at w105
                  try rw [show σ93 64 = σ 64 from ((jnp 64 eσ93 (of_decide_eq_true rfl)).trans ((f45 64 (of_decide_eq_true rfl)).trans (f8 64 (of_decide_eq_true rfl))))] at w105
                  try rw [show σ93 66 = σ 66 from by rw [jnp 66 eσ93 (of_decide_eq_true rfl), f45 66 (of_decide_eq_true rfl), f8 66 (of_decide_eq_true rfl)]] at w105
                  try rw [show (σ93 55 22).toInt = (σ 55 22).toInt from by omega] at w105
                  have z112 : (σ100 55 18).toInt = (σ 55 18).toInt := (congrArg Int32.toInt (show σ100 55 18 = (σ 55 18) from ((f103 18 (of_decide_eq_true rfl)).trans ((jkp 18 eσ93 (of_decide_eq_true rfl)).trans ((f46 18 (of_decide_eq_true rfl)).trans (f9 18 (of_decide_eq_true rfl)))))))
                  have z113 : (σ100 55 20).toInt = (σ 55 20).toInt := (congrArg Int32.toInt (show σ100 55 20 = (σ 55 20) from ((f103 20 (of_decide_eq_true rfl)).trans ((jkp 20 eσ93 (of_decide_eq_true rfl)).trans ((f46 20 (of_decide_eq_true rfl)).trans (f9 20 (of_decide_eq_true rfl)))))))
                  obtain ⟨k114, k115, h100⟩ := h100
                  refine lv_istore_n (lv' := [(3, .int r101), (2, .int x32), (1, .int x31), (0, .ref (ad 55))]) hx hb dX12_product_49 rfl hl (of_decide_eq_true rfl) rfl (fun ls hl => ?_)
                  refine lv_iload_n hx hb dX12_product_50 rfl (lv_at hl 1 rfl) ?_
                  refine lv_bipush (v := 42) hx hb dX12_product_51 (of_decide_eq_true rfl) ?_
                  exact by
                   refine lv_icmp_ne (tgt := 62) hx hb dX12_product_53 (of_decide_eq_true rfl) (fun c116 => ?_) (fun c => absurd (jeq c rfl jz_42) (by omega))
                   have kc116 := jne c116 rfl jz_42
                   refine lv_iload_n hx hb dX12_product_62 rfl (lv_at hl 0 rfl) ?_
                   refine lv_if_ne (tgt := 70) hx hb dX12_product_63 (of_decide_eq_true rfl) (fun c117 => ?_) (fun c117 => ?_)
                   · have kc117 := jne c117 rfl jz_0
                     refine lv_iload_n hx hb dX12_product_70 rfl (lv_at hl 1 rfl) ?_
                     refine lv_bipush (v := 47) hx hb dX12_product_71 (of_decide_eq_true rfl) ?_
                     refine lv_icmp_ne (tgt := 82) hx hb dX12_product_73 (of_decide_eq_true rfl) (fun c => absurd (jne c rfl jz_47) (by omega)) (fun c118 => ?_)
                     have kc118 := jeq c118 rfl jz_47
                     exact by
                      refine lv_iload_n hx hb dX12_product_76 rfl (lv_at hl 2 rfl) ?_
                      refine lv_iload_n hx hb dX12_product_77 rfl (lv_at hl 0 rfl) ?_
                      refine lv_idiv hx hb dX12_product_78 (fun h => absurd (jeq h rfl jz_0) (by omega)) ?_
                      refine lv_topi (fun x119 ex119 => ?_)
                      have gx119 := jrg (rfl : x119.toInt = x119.toInt)
                      refine lv_goto (tgt := 85) hx hb dX12_product_79 (of_decide_eq_true rfl) ?_
                      refine lv_istore_n (lv' := [(1, .int x119), (3, .int r101), (2, .int x32), (0, .ref (ad 55))]) hx hb dX12_product_85 rfl hl (of_decide_eq_true rfl) rfl (fun ls hl => ?_)
                      refine lv_aload_n hx hb dX12_product_86 rfl (lv_at hl 3 rfl) ?_
                      refine jcallV (As := []) (rest := []) ⟨hx, hb, hml, hown, hts⟩ hK hP hA hS hZ (c_X12_byteAt l D cI cL ad zz hJ σ100 τ I104) cw_RX12_189 (jc_55 cI cL ad σ100 τ) rfl ⟨by dsimp only; omega, by dsimp only; omega⟩ rfl rfl rfl hl.1 rfl (Nat.le_of_ble_eq_true rfl) dX12_product_87 ⟨Nat.zero_le _, Nat.zero_le _⟩ (fun r121 σ120 τ120 H locs h120 hP hS => ?_)
                      exact by
                       obtain ⟨⟨rfl, rfl⟩, h120⟩ := h120
                       have h122 := h120
                       obtain ⟨q125, k123, k124⟩ := h122
                       try rw [show (σ100 55 20).toInt = (σ 55 20).toInt from by omega] at k124
                       try rw [show (σ100 55 18).toInt = (σ 55 18).toInt from by omega] at k124
                       try rw [show σ100 63 = σ 63 from ((f102 63 (of_decide_eq_true rfl)).trans ((jnp 63 eσ93 (of_decide_eq_true rfl)).trans ((f45 63 (of_decide_eq_true rfl)).trans (f8 63 (of_decide_eq_true rfl)))))] at k124
                       try rw [show σ100 64 = σ 64 from ((f102 64 (of_decide_eq_true rfl)).trans ((jnp 64 eσ93 (of_decide_eq_true rfl)).trans ((f45 64 (of_decide_eq_true rfl)).trans (f8 64 (of_decide_eq_true rfl)))))] at k124
                       have k126 := k124.ys (by omega)
                       refine lv_istore_n (lv' := [(2, .int r121), (1, .int x119), (3, .int r101), (0, .ref (ad 55))]) hx hb dX12_product_90 rfl hl (of_decide_eq_true rfl) rfl (fun ls hl => ?_)
                       exact by
                        refine lv_goto (tgt := 10) hx hb dX12_product_91 (of_decide_eq_true rfl) ?_
                        exact by exact ihlp29 x119 r121 σ100 _ _ ls (by omega) (by omega) (by omega) (by omega) (by omega) (by omega) (by omega) (by omega) (by omega) (fun i hi => ((f102 i hi).trans ((jnp i eσ93 (imp_165 i hi)).trans (f45 i hi)))) (fun i hi => ((f103 i hi).trans ((jkp i eσ93 (imp_171 i hi)).trans (f46 i hi))))  ⟨(jRi.to (jRi.step (a := (σ34 55 19).toInt) q47.1 (by omega) (of_decide_eq_true rfl) (of_decide_eq_true rfl) (of_decide_eq_true rfl) (by rw [show jYs (jVw (σ 55 18).toInt (σ 63) (σ 64)) (σ 55 20).toInt (σ34 55 19).toInt = 47 from by omega]; decide) w105 (of_decide_eq_true rfl) (by omega) (by rw [show jYs (jVw (σ 55 18).toInt (σ 63) (σ 64)) (σ 55 20).toInt (σ34 55 19).toInt = 47 from by omega]; exact jBi_dv ex119 (by omega))) (by omega) (by omega)), k124⟩ hP hS (lv_sub hl [0, 1, 3] rfl)
                   · have kc117 := jeq c117 rfl jz_0
                     refine lv_iconst (v := 0) hx hb dX12_product_66 (of_decide_eq_true rfl) ?_
                     refine lv_goto (tgt := 85) hx hb dX12_product_67 (of_decide_eq_true rfl) ?_
                     refine lv_istore_n (lv' := [(1, .int 0), (3, .int r101), (2, .int x32), (0, .ref (ad 55))]) hx hb dX12_product_85 rfl hl (of_decide_eq_true rfl) rfl (fun ls hl => ?_)
                     refine lv_aload_n hx hb dX12_product_86 rfl (lv_at hl 3 rfl) ?_
                     refine jcallV (As := []) (rest := []) ⟨hx, hb, hml, hown, hts⟩ hK hP hA hS hZ (c_X12_byteAt l D cI cL ad zz hJ σ100 τ I104) cw_RX12_189 (jc_55 cI cL ad σ100 τ) rfl ⟨by dsimp only; omega, by dsimp only; omega⟩ rfl rfl rfl hl.1 rfl (Nat.le_of_ble_eq_true rfl) dX12_product_87 ⟨Nat.zero_le _, Nat.zero_le _⟩ (fun r128 σ127 τ127 H locs h127 hP hS => ?_)
                     obtain ⟨⟨rfl, rfl⟩, h127⟩ := h127
                     have h129 := h127
                     obtain ⟨q132, k130, k131⟩ := h129
                     try rw [show (σ100 55 20).toInt = (σ 55 20).toInt from by omega] at k131
                     try rw [show (σ100 55 18).toInt = (σ 55 18).toInt from by omega] at k131
                     try rw [show σ100 63 = σ 63 from ((f102 63 (of_decide_eq_true rfl)).trans ((jnp 63 eσ93 (of_decide_eq_true rfl)).trans ((f45 63 (of_decide_eq_true rfl)).trans (f8 63 (of_decide_eq_true rfl)))))] at k131
                     try rw [show σ100 64 = σ 64 from ((f102 64 (of_decide_eq_true rfl)).trans ((jnp 64 eσ93 (of_decide_eq_true rfl)).trans ((f45 64 (of_decide_eq_true rfl)).trans (f8 64 (of_decide_eq_true rfl)))))] at k131
                     exact by
                      have k133 := k131.ys (by omega)
                      refine lv_istore_n (lv' := [(2, .int r128), (1, .int 0), (3, .int r101), (0, .ref (ad 55))]) hx hb dX12_product_90 rfl hl (of_decide_eq_true rfl) rfl (fun ls hl => ?_)
                      refine lv_goto (tgt := 10) hx hb dX12_product_91 (of_decide_eq_true rfl) ?_
                      exact by exact ihlp29 0 r128 σ100 _ _ ls (by have h90 := jz_0; omega) (by have h90 := jz_0; omega) (by have h90 := jz_0; omega) (by have h90 := jz_0; omega) (by have h90 := jz_0; omega) (by have h90 := jz_0; omega) (by have h90 := jz_0; omega) (by have h90 := jz_0; omega) (by have h90 := jz_0; omega) (fun i hi => ((f102 i hi).trans ((jnp i eσ93 (imp_165 i hi)).trans (f45 i hi)))) (fun i hi => ((f103 i hi).trans ((jkp i eσ93 (imp_171 i hi)).trans (f46 i hi))))  ⟨(jRi.to (jRi.step (a := (σ34 55 19).toInt) q47.1 (by omega) (of_decide_eq_true rfl) (of_decide_eq_true rfl) (of_decide_eq_true rfl) (by rw [show jYs (jVw (σ 55 18).toInt (σ 63) (σ 64)) (σ 55 20).toInt (σ34 55 19).toInt = 47 from by omega]; decide) w105 (of_decide_eq_true rfl) (by omega) (by rw [show jYs (jVw (σ 55 18).toInt (σ 63) (σ 64)) (σ 55 20).toInt (σ34 55 19).toInt = 47 from by omega]; exact jBi_d0 rfl (by omega))) (by omega) (by omega)), k131⟩ hP hS (lv_sub hl [0, 1, 3] rfl)
              · have kc90 := jne c90 rfl jz_47
                refine lv_iload_n hx hb dX12_product_29 rfl (lv_at hl 0 rfl) ?_
                refine lv_bipush (v := 37) hx hb dX12_product_30 (of_decide_eq_true rfl) ?_
                refine lv_icmp_ne (tgt := 94) hx hb dX12_product_32 (of_decide_eq_true rfl) (fun c134 => ?_) (fun c134 => ?_)
                · have kc134 := jne c134 rfl jz_37
                  refine lv_iload_n hx hb dX12_product_94 rfl (lv_at hl 1 rfl) ?_
                  exact by
                   have I135 : jI121 σ34 := ⟨(by omega), (by omega), (by omega), (by omega), (by omega)⟩
                   exact by exact hret x31 σ34 τ _ _ _ _ rfl ⟨rfl, (fun i hi => ((f45 i hi).trans (f8 i hi))), (fun i hi => ((f46 i hi).trans (f9 i hi))), I135, (jRp.to (jRi.fin q47.1 (of_decide_eq_true rfl) (fun h9 => by unfold jLv; first | ((repeat (first | rw [if_pos (by omega)] | rw [if_neg (by omega)])) <;> omega) | ((repeat' split) <;> omega))) (by omega) (by omega)), (by omega), (by omega), trivial⟩ hP hS dX12_product_95
                · have kc134 := jeq c134 rfl jz_37
                  refine lv_aload_n hx hb dX12_product_35 rfl (lv_at hl 2 rfl) ?_
                  refine lv_dup hx hb dX12_product_36 rfl ?_
                  refine va_get (D := D) hx hb hts inlX12 hown hK hP 55 (jc_55 cI cL ad σ34 τ) rfl 19 (of_decide_eq_true rfl) (hts _ kw_15_11) (fun _ h9 => h9) rfl dX12_product_37 ?_
                  refine lv_iconst (v := 1) hx hb dX12_product_40 (of_decide_eq_true rfl) ?_
                  have g136 := jrg (rfl : (σ34 55 19).toInt = (σ34 55 19).toInt)
                  refine lv_iadd hx hb dX12_product_41 ?_
                  refine lv_topi (fun x137 ex137 => ?_)
                  exact by
                   have tx137 : x137.toInt = (σ34 55 19).toInt + 1 := (jadd ex137 rfl jz_1 (by omega) (by omega)).trans (by omega)
                   refine jput (ty := .int) hx hb hts inlX12 tyX12 tyX12_ok nmX12 hown hK hP hJ hA hS (jc_55 cI cL ad σ34 τ) rfl (k := 19) (of_decide_eq_true rfl) (Nat.le_of_ble_eq_true rfl) (jp_55_19 cI cL ad σ34 τ x137) (hts _ kw_15_11) (fun _ h9 => h9) rfl (by decide +kernel) rfl rfl dX12_product_42 (fun σ138 H locs eσ138 hP hS => ?_)
                   refine lv_aload_n hx hb dX12_product_45 rfl (lv_at hl 2 rfl) ?_
                   have z139 : (σ138 55 18).toInt = (σ 55 18).toInt := (congrArg Int32.toInt (show σ138 55 18 = (σ 55 18) from ((jkp 18 eσ138 (of_decide_eq_true rfl)).trans ((f46 18 (of_decide_eq_true rfl)).trans (f9 18 (of_decide_eq_true rfl))))))
                   have z140 : (σ138 55 19).toInt = (σ34 55 19).toInt + 1 := ((congrArg Int32.toInt (show σ138 55 19 = x137 from (jsp eσ138))).trans tx137)
                   have z141 : (σ138 55 20).toInt = (σ 55 20).toInt := (congrArg Int32.toInt (show σ138 55 20 = (σ 55 20) from ((jkp 20 eσ138 (of_decide_eq_true rfl)).trans ((f46 20 (of_decide_eq_true rfl)).trans (f9 20 (of_decide_eq_true rfl))))))
                   have z142 : (σ138 55 21).toInt = (σ34 55 21).toInt := (congrArg Int32.toInt (show σ138 55 21 = (σ34 55 21) from (jkp 21 eσ138 (of_decide_eq_true rfl))))
                   have I143 : jI121 σ138 := ⟨(by omega), (by omega), (by omega), (by omega), (by omega)⟩
                   have z144 : (σ138 55 22).toInt = (σ34 55 22).toInt := (congrArg Int32.toInt (show σ138 55 22 = (σ34 55 22) from (jkp 22 eσ138 (of_decide_eq_true rfl))))
                   exact by
                    refine jcallV (As := []) (rest := []) ⟨hx, hb, hml, hown, hts⟩ hK hP hA hS hZ (h_one σ138 τ I143 (by omega) (by omega) (by omega)) cw_RX12_208 (jc_55 cI cL ad σ138 τ) rfl ⟨by dsimp only; omega, by dsimp only; omega⟩ rfl rfl rfl hl.1 rfl (Nat.le_of_ble_eq_true rfl) dX12_product_46 ⟨Nat.zero_le _, Nat.zero_le _⟩ (fun r146 σ145 τ145 H locs h145 hP hS => ?_)
                    obtain ⟨rfl, f147, f148, I149, w150, h145⟩ := h145
                    obtain ⟨i152, i153, i154, i155, i156⟩ : ((-1) ≤ (σ145 55 18).toInt ∧ (σ145 55 18).toInt ≤ 80) ∧ (0 ≤ (σ145 55 19).toInt) ∧ ((σ145 55 19).toInt ≤ (σ145 55 20).toInt) ∧ ((σ145 55 20).toInt ≤ 80) ∧ ((-1) ≤ (σ145 55 21).toInt ∧ (σ145 55 21).toInt ≤ 80) := id I149
                    try rw [show (σ138 55 19).toInt = (σ34 55 19).toInt + 1 from by omega] at w150
                    try rw [show (σ138 55 20).toInt = (σ 55 20).toInt from by omega] at w150
                    try rw [show (σ138 55 18).toInt = (σ 55 18).toInt from by omega] at w150
                    try rw [show σ138 63 = σ 63 from ((jnp 63 eσ138 (of_decide_eq_true rfl)).trans ((f45 63 (of_decide_eq_true rfl)).trans (f8 63 (of_decide_eq_true rfl))))] at w150
                    try rw [show σ138 64 = σ 64 from ((jnp 64 eσ138 (of_decide_eq_true rfl)).trans ((f45 64 (of_decide_eq_true rfl)).trans (f8 64 (of_decide_eq_true rfl))))] at w150
                    try rw [show σ138 66 = σ 66 from by rw [jnp 66 eσ138 (of_decide_eq_true rfl), f45 66 (of_decide_eq_true rfl), f8 66 (of_decide_eq_true rfl)]] at w150
                    try rw [show (σ138 55 22).toInt = (σ 55 22).toInt from by omega] at w150
                    have z157 : (σ145 55 18).toInt = (σ 55 18).toInt := (congrArg Int32.toInt (show σ145 55 18 = (σ 55 18) from ((f148 18 (of_decide_eq_true rfl)).trans ((jkp 18 eσ138 (of_decide_eq_true rfl)).trans ((f46 18 (of_decide_eq_true rfl)).trans (f9 18 (of_decide_eq_true rfl)))))))
                    have z158 : (σ145 55 20).toInt = (σ 55 20).toInt := (congrArg Int32.toInt (show σ145 55 20 = (σ 55 20) from ((f148 20 (of_decide_eq_true rfl)).trans ((jkp 20 eσ138 (of_decide_eq_true rfl)).trans ((f46 20 (of_decide_eq_true rfl)).trans (f9 20 (of_decide_eq_true rfl)))))))
                    obtain ⟨k159, k160, h145⟩ := h145
                    refine lv_istore_n (lv' := [(3, .int r146), (2, .int x32), (1, .int x31), (0, .ref (ad 55))]) hx hb dX12_product_49 rfl hl (of_decide_eq_true rfl) rfl (fun ls hl => ?_)
                    refine lv_iload_n hx hb dX12_product_50 rfl (lv_at hl 1 rfl) ?_
                    refine lv_bipush (v := 42) hx hb dX12_product_51 (of_decide_eq_true rfl) ?_
                    exact by
                     refine lv_icmp_ne (tgt := 62) hx hb dX12_product_53 (of_decide_eq_true rfl) (fun c161 => ?_) (fun c => absurd (jeq c rfl jz_42) (by omega))
                     have kc161 := jne c161 rfl jz_42
                     refine lv_iload_n hx hb dX12_product_62 rfl (lv_at hl 0 rfl) ?_
                     refine lv_if_ne (tgt := 70) hx hb dX12_product_63 (of_decide_eq_true rfl) (fun c162 => ?_) (fun c162 => ?_)
                     · have kc162 := jne c162 rfl jz_0
                       refine lv_iload_n hx hb dX12_product_70 rfl (lv_at hl 1 rfl) ?_
                       refine lv_bipush (v := 47) hx hb dX12_product_71 (of_decide_eq_true rfl) ?_
                       refine lv_icmp_ne (tgt := 82) hx hb dX12_product_73 (of_decide_eq_true rfl) (fun c163 => ?_) (fun c => absurd (jeq c rfl jz_47) (by omega))
                       have kc163 := jne c163 rfl jz_47
                       exact by
                        refine lv_iload_n hx hb dX12_product_82 rfl (lv_at hl 2 rfl) ?_
                        refine lv_iload_n hx hb dX12_product_83 rfl (lv_at hl 0 rfl) ?_
                        refine lv_irem hx hb dX12_product_84 (fun h => absurd (jeq h rfl jz_0) (by omega)) ?_
                        refine lv_topi (fun x164 ex164 => ?_)
                        have gx164 := jrg (rfl : x164.toInt = x164.toInt)
                        refine lv_istore_n (lv' := [(1, .int x164), (3, .int r146), (2, .int x32), (0, .ref (ad 55))]) hx hb dX12_product_85 rfl hl (of_decide_eq_true rfl) rfl (fun ls hl => ?_)
                        refine lv_aload_n hx hb dX12_product_86 rfl (lv_at hl 3 rfl) ?_
                        refine jcallV (As := []) (rest := []) ⟨hx, hb, hml, hown, hts⟩ hK hP hA hS hZ (c_X12_byteAt l D cI cL ad zz hJ σ145 τ I149) cw_RX12_189 (jc_55 cI cL ad σ145 τ) rfl ⟨by dsimp only; omega, by dsimp only; omega⟩ rfl rfl rfl hl.1 rfl (Nat.le_of_ble_eq_true rfl) dX12_product_87 ⟨Nat.zero_le _, Nat.zero_le _⟩ (fun r166 σ165 τ165 H locs h165 hP hS => ?_)
                        obtain ⟨⟨rfl, rfl⟩, h165⟩ := h165
                        exact by
                         have h167 := h165
                         obtain ⟨q170, k168, k169⟩ := h167
                         try rw [show (σ145 55 20).toInt = (σ 55 20).toInt from by omega] at k169
                         try rw [show (σ145 55 18).toInt = (σ 55 18).toInt from by omega] at k169
                         try rw [show σ145 63 = σ 63 from ((f147 63 (of_decide_eq_true rfl)).trans ((jnp 63 eσ138 (of_decide_eq_true rfl)).trans ((f45 63 (of_decide_eq_true rfl)).trans (f8 63 (of_decide_eq_true rfl)))))] at k169
                         try rw [show σ145 64 = σ 64 from ((f147 64 (of_decide_eq_true rfl)).trans ((jnp 64 eσ138 (of_decide_eq_true rfl)).trans ((f45 64 (of_decide_eq_true rfl)).trans (f8 64 (of_decide_eq_true rfl)))))] at k169
                         have k171 := k169.ys (by omega)
                         refine lv_istore_n (lv' := [(2, .int r166), (1, .int x164), (3, .int r146), (0, .ref (ad 55))]) hx hb dX12_product_90 rfl hl (of_decide_eq_true rfl) rfl (fun ls hl => ?_)
                         refine lv_goto (tgt := 10) hx hb dX12_product_91 (of_decide_eq_true rfl) ?_
                         exact by exact ihlp29 x164 r166 σ145 _ _ ls (by omega) (by omega) (by omega) (by omega) (by omega) (by omega) (by omega) (by omega) (by omega) (fun i hi => ((f147 i hi).trans ((jnp i eσ138 (imp_165 i hi)).trans (f45 i hi)))) (fun i hi => ((f148 i hi).trans ((jkp i eσ138 (imp_171 i hi)).trans (f46 i hi))))  ⟨(jRi.to (jRi.step (a := (σ34 55 19).toInt) q47.1 (by omega) (of_decide_eq_true rfl) (of_decide_eq_true rfl) (of_decide_eq_true rfl) (by rw [show jYs (jVw (σ 55 18).toInt (σ 63) (σ 64)) (σ 55 20).toInt (σ34 55 19).toInt = 37 from by omega]; decide) w150 (of_decide_eq_true rfl) (by omega) (by rw [show jYs (jVw (σ 55 18).toInt (σ 63) (σ 64)) (σ 55 20).toInt (σ34 55 19).toInt = 37 from by omega]; exact jBi_rm ex164 (by omega))) (by omega) (by omega)), k169⟩ hP hS (lv_sub hl [0, 1, 3] rfl)
                     · exact by
                        have kc162 := jeq c162 rfl jz_0
                        refine lv_iconst (v := 0) hx hb dX12_product_66 (of_decide_eq_true rfl) ?_
                        refine lv_goto (tgt := 85) hx hb dX12_product_67 (of_decide_eq_true rfl) ?_
                        refine lv_istore_n (lv' := [(1, .int 0), (3, .int r146), (2, .int x32), (0, .ref (ad 55))]) hx hb dX12_product_85 rfl hl (of_decide_eq_true rfl) rfl (fun ls hl => ?_)
                        refine lv_aload_n hx hb dX12_product_86 rfl (lv_at hl 3 rfl) ?_
                        refine jcallV (As := []) (rest := []) ⟨hx, hb, hml, hown, hts⟩ hK hP hA hS hZ (c_X12_byteAt l D cI cL ad zz hJ σ145 τ I149) cw_RX12_189 (jc_55 cI cL ad σ145 τ) rfl ⟨by dsimp only; omega, by dsimp only; omega⟩ rfl rfl rfl hl.1 rfl (Nat.le_of_ble_eq_true rfl) dX12_product_87 ⟨Nat.zero_le _, Nat.zero_le _⟩ (fun r173 σ172 τ172 H locs h172 hP hS => ?_)
                        obtain ⟨⟨rfl, rfl⟩, h172⟩ := h172
                        have h174 := h172
                        obtain ⟨q177, k175, k176⟩ := h174
                        try rw [show (σ145 55 20).toInt = (σ 55 20).toInt from by omega] at k176
                        try rw [show (σ145 55 18).toInt = (σ 55 18).toInt from by omega] at k176
                        try rw [show σ145 63 = σ 63 from ((f147 63 (of_decide_eq_true rfl)).trans ((jnp 63 eσ138 (of_decide_eq_true rfl)).trans ((f45 63 (of_decide_eq_true rfl)).trans (f8 63 (of_decide_eq_true rfl)))))] at k176
                        try rw [show σ145 64 = σ 64 from ((f147 64 (of_decide_eq_true rfl)).trans ((jnp 64 eσ138 (of_decide_eq_true rfl)).trans ((f45 64 (of_decide_eq_true rfl)).trans (f8 64 (of_decide_eq_true rfl)))))] at k176
                        exact by
                         have k178 := k176.ys (by omega)
                         refine lv_istore_n (lv' := [(2, .int r173), (1, .int 0), (3, .int r146), (0, .ref (ad 55))]) hx hb dX12_product_90 rfl hl (of_decide_eq_true rfl) rfl (fun ls hl => ?_)
                         refine lv_goto (tgt := 10) hx hb dX12_product_91 (of_decide_eq_true rfl) ?_
                         exact by exact ihlp29 0 r173 σ145 _ _ ls (by have h90 := jz_0; omega) (by have h90 := jz_0; omega) (by have h90 := jz_0; omega) (by have h90 := jz_0; omega) (by have h90 := jz_0; omega) (by have h90 := jz_0; omega) (by have h90 := jz_0; omega) (by have h90 := jz_0; omega) (by have h90 := jz_0; omega) (fun i hi => ((f147 i hi).trans ((jnp i eσ138 (imp_165 i hi)).trans (f45 i hi)))) (fun i hi => ((f148 i hi).trans ((jkp i eσ138 (imp_171 i hi)).trans (f46 i hi))))  ⟨(jRi.to (jRi.step (a := (σ34 55 19).toInt) q47.1 (by omega) (of_decide_eq_true rfl) (of_decide_eq_true rfl) (of_decide_eq_true rfl) (by rw [show jYs (jVw (σ 55 18).toInt (σ 63) (σ 64)) (σ 55 20).toInt (σ34 55 19).toInt = 37 from by omega]; decide) w150 (of_decide_eq_true rfl) (by omega) (by rw [show jYs (jVw (σ 55 18).toInt (σ 63) (σ 64)) (σ 55 20).toInt (σ34 55 19).toInt = 37 from by omega]; exact jBi_r0 rfl (by omega))) (by omega) (by omega)), k176⟩ hP hS (lv_sub hl [0, 1, 3] rfl)
    exact by exact lp29 1000000 r7 r23 σ6 _ _ ls (by omega) (by omega) (by omega) (by omega) (by omega) (by omega) (by omega) (by omega) (by omega) (fun _ _ => rfl) (fun _ _ => rfl)  ⟨(jRp.begin w11 (of_decide_eq_true rfl) (of_decide_eq_true rfl)), k26⟩ hP hS hl
set_option maxHeartbeats 4000000 in
set_option maxRecDepth 100000 in
theorem c_X12_grammar_sums_g (l : Launch) (D : va_G) (cI cL : ClassId) (ad zz : Nat → Nat) (hJ : jD ad) (n : Nat) (h_product : ∀ (σ : Nat → Nat → Int32) (τ : Nat → Nat → Int64) (hI121 : jI121 σ) (hp0 : (σ 55 21).toInt = (-1)) (hp1 : 0 ≤ (σ 55 22).toInt ∧ (σ 55 22).toInt ≤ 6) (hp2 : -(σ 55 22).toInt + 6 ≤ (((n) : Nat) : Int)), jM l yX12_product cX12_product 4 (some .int) ({ frames := (11 + 8 * (n)), cells := 0, slots := 0, locals := (440 + 360 * (n)) }) D cI cL ad zz [.ref (ad 55)] σ τ (fun r σ' τ' => τ = τ' ∧ (∀ i : Nat, (i < 55 ∨ 55 < i) → σ' i = σ i) ∧ (∀ k : Nat, (k < 19 ∨ 19 < k) ∧ (k < 21 ∨ 21 < k) ∧ (k < 22 ∨ 22 < k) → σ' 55 k = σ 55 k) ∧ (jI121 σ') ∧ (jRp (jVw (σ 55 18).toInt (σ 63) (σ 64)) (σ 55 20).toInt (σ 66) 4 (σ 55 22).toInt (σ 55 19).toInt (σ' 55 19).toInt (σ' 55 21).toInt r) ∧ (((σ' 55 21).toInt = (-1) ∧ (σ' 55 22).toInt = (σ 55 22).toInt) ∨ (0 ≤ (σ' 55 21).toInt)) ∧ ((σ 55 19).toInt ≤ (σ' 55 19).toInt) ∧ True)) (σ : Nat → Nat → Int32) (τ : Nat → Nat → Int64) (hI121 : jI121 σ) (hp0 : (σ 55 21).toInt = (-1)) (hp1 : 0 ≤ (σ 55 22).toInt ∧ (σ 55 22).toInt ≤ 6) (hp2 : -(σ 55 22).toInt + 6 ≤ (((n) : Nat) : Int)) : jM l yX12_sums cX12_sums 4 (some .int) ({ frames := (12 + 8 * (n)), cells := 0, slots := 0, locals := (480 + 360 * (n)) }) D cI cL ad zz [.ref (ad 55)] σ τ (fun r σ' τ' => τ = τ' ∧ (∀ i : Nat, (i < 55 ∨ 55 < i) → σ' i = σ i) ∧ (∀ k : Nat, (k < 19 ∨ 19 < k) ∧ (k < 21 ∨ 21 < k) ∧ (k < 22 ∨ 22 < k) → σ' 55 k = σ 55 k) ∧ (jI121 σ') ∧ (jRp (jVw (σ 55 18).toInt (σ 63) (σ 64)) (σ 55 20).toInt (σ 66) 3 (σ 55 22).toInt (σ 55 19).toInt (σ' 55 19).toInt (σ' 55 21).toInt r) ∧ (((σ' 55 21).toInt = (-1) ∧ (σ' 55 22).toInt = (σ 55 22).toInt) ∨ (0 ≤ (σ' 55 21).toInt)) ∧ ((σ 55 19).toInt ≤ (σ' 55 19).toInt) ∧ True) := by
  refine jM.of hJ (by decide +kernel) (nt := .int) rfl (Nat.le_of_ble_eq_true rfl) ?_
  intro p e s m args below meth c Q ls hC hret hl hP
  obtain ⟨hx, hb, hr, hml, hown, hts, hK, -, hlocks, hZ⟩ := hC
  have hown : s.vm.findClass RX12 = some m.cls := hown
  have hS : va_S (jA ad) s.heap s.heap [] := va_S.rf
  have hA : ∀ q, jA ad q → jA ad q := fun _ h => h
  have hl : lv_has ls 4 [(0, .ref (ad 55))] := hl
  obtain ⟨i1, i2, i3, i4, i5⟩ : ((-1) ≤ (σ 55 18).toInt ∧ (σ 55 18).toInt ≤ 80) ∧ (0 ≤ (σ 55 19).toInt) ∧ ((σ 55 19).toInt ≤ (σ 55 20).toInt) ∧ ((σ 55 20).toInt ≤ 80) ∧ ((-1) ≤ (σ 55 21).toInt ∧ (σ 55 21).toInt ≤ 80) := id hI121
  refine lv_aload_n hx hb dX12_sums_0 rfl (lv_at hl 0 rfl) ?_
  exact by
   refine jcallV (As := []) (rest := []) ⟨hx, hb, hml, hown, hts⟩ hK hP hA hS hZ (h_product σ τ hI121 (by omega) (by omega) (by omega)) cw_RX12_205 (jc_55 cI cL ad σ τ) rfl ⟨by dsimp only; omega, by dsimp only; omega⟩ rfl rfl rfl hl.1 rfl (Nat.le_of_ble_eq_true rfl) dX12_sums_1 ⟨Nat.zero_le _, Nat.zero_le _⟩ (fun r7 σ6 τ6 H locs h6 hP hS => ?_)
   obtain ⟨rfl, f8, f9, I10, w11, h6⟩ := h6
   obtain ⟨i13, i14, i15, i16, i17⟩ : ((-1) ≤ (σ6 55 18).toInt ∧ (σ6 55 18).toInt ≤ 80) ∧ (0 ≤ (σ6 55 19).toInt) ∧ ((σ6 55 19).toInt ≤ (σ6 55 20).toInt) ∧ ((σ6 55 20).toInt ≤ 80) ∧ ((-1) ≤ (σ6 55 21).toInt ∧ (σ6 55 21).toInt ≤ 80) := id I10
   have z18 : (σ6 55 18).toInt = (σ 55 18).toInt := (congrArg Int32.toInt (show σ6 55 18 = (σ 55 18) from (f9 18 (of_decide_eq_true rfl))))
   have z19 : (σ6 55 20).toInt = (σ 55 20).toInt := (congrArg Int32.toInt (show σ6 55 20 = (σ 55 20) from (f9 20 (of_decide_eq_true rfl))))
   obtain ⟨k20, k21, h6⟩ := h6
   refine lv_istore_n (lv' := [(1, .int r7), (0, .ref (ad 55))]) hx hb dX12_sums_4 rfl hl (of_decide_eq_true rfl) rfl (fun ls hl => ?_)
   have lp22 : ∀ (n23 : Nat) (x24 : Int32) (σ27 : Nat → Nat → Int32) (H : Heap) (locs : List Loc) (ls : Array Slot), ((σ27 55 20).toInt - (σ27 55 19).toInt : Int) < n23 → (-1) ≤ (σ27 55 18).toInt ∧ (σ27 55 18).toInt ≤ 80 → 0 ≤ (σ27 55 19).toInt → (σ27 55 19).toInt ≤ (σ27 55 20).toInt → (σ27 55 20).toInt ≤ 80 → (-1) ≤ (σ27 55 21).toInt ∧ (σ27 55 21).toInt ≤ 80 → (((σ27 55 21).toInt = (-1) ∧ (σ27 55 22).toInt = (σ 55 22).toInt) ∨ (0 ≤ (σ27 55 21).toInt)) → (σ 55 19).toInt ≤ (σ27 55 19).toInt → (∀ i : Nat, (i < 55 ∨ 55 < i) → σ27 i = σ6 i) → (∀ k : Nat, (k < 19 ∨ 19 < k) ∧ (k < 21 ∨ 21 < k) ∧ (k < 22 ∨ 22 < k) → σ27 55 k = σ6 55 k) → (jRi (jVw (σ 55 18).toInt (σ 63) (σ 64)) (σ 55 20).toInt (σ 66) 3 (σ 55 22).toInt (σ 55 19).toInt (σ27 55 19).toInt (σ27 55 21).toInt x24) → jH D cI cL ad σ27 τ H → va_S (jA ad) s.heap H locs → lv_has ls 4 [(1, .int x24), (0, .ref (ad 55))] → W p l e ({ frames := (12 + 8 * (n)), cells := 0, slots := 0, locals := (480 + 360 * (n)) }) s m args below meth c H locs 0 0 Q (F0 m 5 ls []) := by
     intro n23
     induction n23 with
     | zero => intro x24 σ27 H locs ls h29 h30 h31 h32 h33 h34 h35 h36; have gx24 := jrg (rfl : x24.toInt = x24.toInt); exact absurd h29 (by omega)
     | succ n23 ihlp22 =>
       intro x24 σ27 H locs ls h29 h30 h31 h32 h33 h34 h35 h36 f37 f38 q39 hP hS hl
       exact by
        have gx24 := jrg (rfl : x24.toInt = x24.toInt)
        have z40 : (σ27 55 20).toInt = (σ 55 20).toInt := (congrArg Int32.toInt (show σ27 55 20 = (σ 55 20) from ((f38 20 (of_decide_eq_true rfl)).trans (f9 20 (of_decide_eq_true rfl)))))
        have z41 : (σ27 55 18).toInt = (σ 55 18).toInt := (congrArg Int32.toInt (show σ27 55 18 = (σ 55 18) from ((f38 18 (of_decide_eq_true rfl)).trans (f9 18 (of_decide_eq_true rfl)))))
        refine lv_aload_n hx hb dX12_sums_5 rfl (lv_at hl 1 rfl) ?_
        refine va_get (D := D) hx hb hts inlX12 hown hK hP 55 (jc_55 cI cL ad σ27 τ) rfl 21 (of_decide_eq_true rfl) (hts _ kw_15_13) (fun _ h9 => h9) rfl dX12_sums_6 ?_
        refine lv_if_ge (tgt := 77) hx hb dX12_sums_9 (of_decide_eq_true rfl) (fun c42 => ?_) (fun c42 => ?_)
        · have kc42 := jle c42 jz_0 rfl
          refine lv_iload_n hx hb dX12_sums_77 rfl (lv_at hl 0 rfl) ?_
          have I43 : jI121 σ27 := ⟨(by omega), (by omega), (by omega), (by omega), (by omega)⟩
          exact by exact hret x24 σ27 τ _ _ _ _ rfl ⟨rfl, (fun i hi => ((f37 i hi).trans (f8 i hi))), (fun i hi => ((f38 i hi).trans (f9 i hi))), I43, (jRp.to (jRi.fin q39 (of_decide_eq_true rfl) (fun h9 => absurd h9 (by omega))) (by omega) (by omega)), (by omega), (by omega), trivial⟩ hP hS dX12_sums_78
        · exact by
           have kc42 := jnle c42 jz_0 rfl
           refine lv_aload_n hx hb dX12_sums_12 rfl (lv_at hl 1 rfl) ?_
           have I44 : jI121 σ27 := ⟨(by omega), (by omega), (by omega), (by omega), (by omega)⟩
           refine jcallV (As := []) (rest := []) ⟨hx, hb, hml, hown, hts⟩ hK hP hA hS hZ (c_X12_byteAt l D cI cL ad zz hJ σ27 τ I44) cw_RX12_189 (jc_55 cI cL ad σ27 τ) rfl ⟨by dsimp only; omega, by dsimp only; omega⟩ rfl rfl rfl hl.1 rfl (Nat.le_of_ble_eq_true rfl) dX12_sums_13 ⟨Nat.zero_le _, Nat.zero_le _⟩ (fun r46 σ45 τ45 H locs h45 hP hS => ?_)
           obtain ⟨⟨rfl, rfl⟩, h45⟩ := h45
           have h47 := h45
           obtain ⟨q50, k48, k49⟩ := h47
           try rw [show (σ27 55 20).toInt = (σ 55 20).toInt from by omega] at k49
           try rw [show (σ27 55 18).toInt = (σ 55 18).toInt from by omega] at k49
           try rw [show σ27 63 = σ 63 from ((f37 63 (of_decide_eq_true rfl)).trans (f8 63 (of_decide_eq_true rfl)))] at k49
           try rw [show σ27 64 = σ 64 from ((f37 64 (of_decide_eq_true rfl)).trans (f8 64 (of_decide_eq_true rfl)))] at k49
           exact by
            have k51 := k49.ys (by omega)
            refine lv_bipush (v := 43) hx hb dX12_sums_16 (of_decide_eq_true rfl) ?_
            refine lv_icmp_eq (tgt := 30) hx hb dX12_sums_18 (of_decide_eq_true rfl) (fun c52 => ?_) (fun c52 => ?_)
            · have kc52 := jeq c52 rfl jz_43
              refine lv_aload_n hx hb dX12_sums_30 rfl (lv_at hl 1 rfl) ?_
              refine jcallV (As := []) (rest := []) ⟨hx, hb, hml, hown, hts⟩ hK hP hA hS hZ (c_X12_byteAt l D cI cL ad zz hJ σ27 τ I44) cw_RX12_189 (jc_55 cI cL ad σ27 τ) rfl ⟨by dsimp only; omega, by dsimp only; omega⟩ rfl rfl rfl hl.1 rfl (Nat.le_of_ble_eq_true rfl) dX12_sums_31 ⟨Nat.zero_le _, Nat.zero_le _⟩ (fun r54 σ53 τ53 H locs h53 hP hS => ?_)
              obtain ⟨⟨rfl, rfl⟩, h53⟩ := h53
              have h55 := h53
              obtain ⟨q58, k56, k57⟩ := h55
              try rw [show (σ27 55 20).toInt = (σ 55 20).toInt from by omega] at k57
              try rw [show (σ27 55 18).toInt = (σ 55 18).toInt from by omega] at k57
              try rw [show σ27 63 = σ 63 from ((f37 63 (of_decide_eq_true rfl)).trans (f8 63 (of_decide_eq_true rfl)))] at k57
              try rw [show σ27 64 = σ 64 from ((f37 64 (of_decide_eq_true rfl)).trans (f8 64 (of_decide_eq_true rfl)))] at k57
              have k59 := k57.det k49
              refine lv_bipush (v := 43) hx hb dX12_sums_34 (of_decide_eq_true rfl) ?_
              exact by
               refine lv_icmp_ne (tgt := 43) hx hb dX12_sums_36 (of_decide_eq_true rfl) (fun c => absurd (jne c rfl jz_43) (by omega)) (fun c60 => ?_)
               have kc60 := jeq c60 rfl jz_43
               refine lv_iconst (v := 1) hx hb dX12_sums_39 (of_decide_eq_true rfl) ?_
               refine lv_goto (tgt := 44) hx hb dX12_sums_40 (of_decide_eq_true rfl) ?_
               refine lv_istore_n (lv' := [(2, .int 1), (1, .int x24), (0, .ref (ad 55))]) hx hb dX12_sums_44 rfl hl (of_decide_eq_true rfl) rfl (fun ls hl => ?_)
               refine lv_aload_n hx hb dX12_sums_45 rfl (lv_at hl 2 rfl) ?_
               refine lv_dup hx hb dX12_sums_46 rfl ?_
               refine va_get (D := D) hx hb hts inlX12 hown hK hP 55 (jc_55 cI cL ad σ27 τ) rfl 19 (of_decide_eq_true rfl) (hts _ kw_15_11) (fun _ h9 => h9) rfl dX12_sums_47 ?_
               refine lv_iconst (v := 1) hx hb dX12_sums_50 (of_decide_eq_true rfl) ?_
               have g61 := jrg (rfl : (σ27 55 19).toInt = (σ27 55 19).toInt)
               refine lv_iadd hx hb dX12_sums_51 ?_
               refine lv_topi (fun x62 ex62 => ?_)
               exact by
                have tx62 : x62.toInt = (σ27 55 19).toInt + 1 := (jadd ex62 rfl jz_1 (by omega) (by omega)).trans (by omega)
                refine jput (ty := .int) hx hb hts inlX12 tyX12 tyX12_ok nmX12 hown hK hP hJ hA hS (jc_55 cI cL ad σ27 τ) rfl (k := 19) (of_decide_eq_true rfl) (Nat.le_of_ble_eq_true rfl) (jp_55_19 cI cL ad σ27 τ x62) (hts _ kw_15_11) (fun _ h9 => h9) rfl (by decide +kernel) rfl rfl dX12_sums_52 (fun σ63 H locs eσ63 hP hS => ?_)
                refine lv_aload_n hx hb dX12_sums_55 rfl (lv_at hl 2 rfl) ?_
                have z64 : (σ63 55 18).toInt = (σ 55 18).toInt := (congrArg Int32.toInt (show σ63 55 18 = (σ 55 18) from ((jkp 18 eσ63 (of_decide_eq_true rfl)).trans ((f38 18 (of_decide_eq_true rfl)).trans (f9 18 (of_decide_eq_true rfl))))))
                have z65 : (σ63 55 19).toInt = (σ27 55 19).toInt + 1 := ((congrArg Int32.toInt (show σ63 55 19 = x62 from (jsp eσ63))).trans tx62)
                have z66 : (σ63 55 20).toInt = (σ 55 20).toInt := (congrArg Int32.toInt (show σ63 55 20 = (σ 55 20) from ((jkp 20 eσ63 (of_decide_eq_true rfl)).trans ((f38 20 (of_decide_eq_true rfl)).trans (f9 20 (of_decide_eq_true rfl))))))
                have z67 : (σ63 55 21).toInt = (σ27 55 21).toInt := (congrArg Int32.toInt (show σ63 55 21 = (σ27 55 21) from (jkp 21 eσ63 (of_decide_eq_true rfl))))
                have I68 : jI121 σ63 := ⟨(by omega), (by omega), (by omega), (by omega), (by omega)⟩
                have z69 : (σ63 55 22).toInt = (σ27 55 22).toInt := (congrArg Int32.toInt (show σ63 55 22 = (σ27 55 22) from (jkp 22 eσ63 (of_decide_eq_true rfl))))
                exact by
                 refine jcallV (As := []) (rest := []) ⟨hx, hb, hml, hown, hts⟩ hK hP hA hS hZ (h_product σ63 τ I68 (by omega) (by omega) (by omega)) cw_RX12_205 (jc_55 cI cL ad σ63 τ) rfl ⟨by dsimp only; omega, by dsimp only; omega⟩ rfl rfl rfl hl.1 rfl (Nat.le_of_ble_eq_true rfl) dX12_sums_56 ⟨Nat.zero_le _, Nat.zero_le _⟩ (fun r71 σ70 τ70 H locs h70 hP hS => ?_)
                 obtain ⟨rfl, f72, f73, I74, w75, h70⟩ := h70
                 obtain ⟨i77, i78, i79, i80, i81⟩ : ((-1) ≤ (σ70 55 18).toInt ∧ (σ70 55 18).toInt ≤ 80) ∧ (0 ≤ (σ70 55 19).toInt) ∧ ((σ70 55 19).toInt ≤ (σ70 55 20).toInt) ∧ ((σ70 55 20).toInt ≤ 80) ∧ ((-1) ≤ (σ70 55 21).toInt ∧ (σ70 55 21).toInt ≤ 80) := id I74
                 try rw [show (σ63 55 19).toInt = (σ27 55 19).toInt + 1 from by omega] at w75
                 try rw [show (σ63 55 20).toInt = (σ 55 20).toInt from by omega] at w75
                 try rw [show (σ63 55 18).toInt = (σ 55 18).toInt from by omega] at w75
                 try rw [show σ63 63 = σ 63 from ((jnp 63 eσ63 (of_decide_eq_true rfl)).trans ((f37 63 (of_decide_eq_true rfl)).trans (f8 63 (of_decide_eq_true rfl))))] at w75
                 try rw [show σ63 64 = σ 64 from ((jnp 64 eσ63 (of_decide_eq_true rfl)).trans ((f37 64 (of_decide_eq_true rfl)).trans (f8 64 (of_decide_eq_true rfl))))] at w75
                 try rw [show σ63 66 = σ 66 from by rw [jnp 66 eσ63 (of_decide_eq_true rfl), f37 66 (of_decide_eq_true rfl), f8 66 (of_decide_eq_true rfl)]] at w75
                 try rw [show (σ63 55 22).toInt = (σ 55 22).toInt from by omega] at w75
                 have z82 : (σ70 55 18).toInt = (σ 55 18).toInt := (congrArg Int32.toInt (show σ70 55 18 = (σ 55 18) from ((f73 18 (of_decide_eq_true rfl)).trans ((jkp 18 eσ63 (of_decide_eq_true rfl)).trans ((f38 18 (of_decide_eq_true rfl)).trans (f9 18 (of_decide_eq_true rfl)))))))
                 have z83 : (σ70 55 20).toInt = (σ 55 20).toInt := (congrArg Int32.toInt (show σ70 55 20 = (σ 55 20) from ((f73 20 (of_decide_eq_true rfl)).trans ((jkp 20 eσ63 (of_decide_eq_true rfl)).trans ((f38 20 (of_decide_eq_true rfl)).trans (f9 20 (of_decide_eq_true rfl)))))))
                 obtain ⟨k84, k85, h70⟩ := h70
                 refine lv_istore_n (lv' := [(3, .int r71), (2, .int 1), (1, .int x24), (0, .ref (ad 55))]) hx hb dX12_sums_59 rfl hl (of_decide_eq_true rfl) rfl (fun ls hl => ?_)
                 refine lv_iload_n hx hb dX12_sums_60 rfl (lv_at hl 1 rfl) ?_
                 refine lv_if_eq (tgt := 70) hx hb dX12_sums_61 (of_decide_eq_true rfl) (fun c => absurd c (of_decide_eq_true rfl)) (fun _ => ?_)
                 refine lv_iload_n hx hb dX12_sums_64 rfl (lv_at hl 2 rfl) ?_
                 refine lv_iload_n hx hb dX12_sums_65 rfl (lv_at hl 0 rfl) ?_
                 have g86 := jrg (rfl : x24.toInt = x24.toInt)
                 have g87 := jrg (rfl : r71.toInt = r71.toInt)
                 refine lv_iadd hx hb dX12_sums_66 ?_
                 refine lv_topi (fun x88 ex88 => ?_)
                 have gx88 := jrg (rfl : x88.toInt = x88.toInt)
                 refine lv_goto (tgt := 73) hx hb dX12_sums_67 (of_decide_eq_true rfl) ?_
                 refine lv_istore_n (lv' := [(1, .int x88), (3, .int r71), (2, .int 1), (0, .ref (ad 55))]) hx hb dX12_sums_73 rfl hl (of_decide_eq_true rfl) rfl (fun ls hl => ?_)
                 refine lv_goto (tgt := 5) hx hb dX12_sums_74 (of_decide_eq_true rfl) ?_
                 exact by exact ihlp22 x88 σ70 _ _ ls (by omega) (by omega) (by omega) (by omega) (by omega) (by omega) (by omega) (by omega) (fun i hi => ((f72 i hi).trans ((jnp i eσ63 (imp_165 i hi)).trans (f37 i hi)))) (fun i hi => ((f73 i hi).trans ((jkp i eσ63 (imp_171 i hi)).trans (f38 i hi))))  (jRi.to (jRi.step (a := (σ27 55 19).toInt) q39 (by omega) (of_decide_eq_true rfl) (of_decide_eq_true rfl) (of_decide_eq_true rfl) (by rw [show jYs (jVw (σ 55 18).toInt (σ 63) (σ 64)) (σ 55 20).toInt (σ27 55 19).toInt = 43 from by omega]; decide) w75 (of_decide_eq_true rfl) (by omega) (by rw [show jYs (jVw (σ 55 18).toInt (σ 63) (σ 64)) (σ 55 20).toInt (σ27 55 19).toInt = 43 from by omega]; exact jBi_pl ex88)) (by omega) (by omega)) hP hS (lv_sub hl [0, 3] rfl)
            · have kc52 := jne c52 rfl jz_43
              refine lv_aload_n hx hb dX12_sums_21 rfl (lv_at hl 1 rfl) ?_
              refine jcallV (As := []) (rest := []) ⟨hx, hb, hml, hown, hts⟩ hK hP hA hS hZ (c_X12_byteAt l D cI cL ad zz hJ σ27 τ I44) cw_RX12_189 (jc_55 cI cL ad σ27 τ) rfl ⟨by dsimp only; omega, by dsimp only; omega⟩ rfl rfl rfl hl.1 rfl (Nat.le_of_ble_eq_true rfl) dX12_sums_22 ⟨Nat.zero_le _, Nat.zero_le _⟩ (fun r90 σ89 τ89 H locs h89 hP hS => ?_)
              obtain ⟨⟨rfl, rfl⟩, h89⟩ := h89
              have h91 := h89
              obtain ⟨q94, k92, k93⟩ := h91
              try rw [show (σ27 55 20).toInt = (σ 55 20).toInt from by omega] at k93
              try rw [show (σ27 55 18).toInt = (σ 55 18).toInt from by omega] at k93
              try rw [show σ27 63 = σ 63 from ((f37 63 (of_decide_eq_true rfl)).trans (f8 63 (of_decide_eq_true rfl)))] at k93
              try rw [show σ27 64 = σ 64 from ((f37 64 (of_decide_eq_true rfl)).trans (f8 64 (of_decide_eq_true rfl)))] at k93
              have k95 := k93.det k49
              refine lv_bipush (v := 45) hx hb dX12_sums_25 (of_decide_eq_true rfl) ?_
              refine lv_icmp_ne (tgt := 77) hx hb dX12_sums_27 (of_decide_eq_true rfl) (fun c96 => ?_) (fun c96 => ?_)
              · have kc96 := jne c96 rfl jz_45
                refine lv_iload_n hx hb dX12_sums_77 rfl (lv_at hl 0 rfl) ?_
                exact by exact hret x24 σ27 τ _ _ _ _ rfl ⟨rfl, (fun i hi => ((f37 i hi).trans (f8 i hi))), (fun i hi => ((f38 i hi).trans (f9 i hi))), I44, (jRp.to (jRi.fin q39 (of_decide_eq_true rfl) (fun h9 => by unfold jLv; first | ((repeat (first | rw [if_pos (by omega)] | rw [if_neg (by omega)])) <;> omega) | ((repeat' split) <;> omega))) (by omega) (by omega)), (by omega), (by omega), trivial⟩ hP hS dX12_sums_78
              · have kc96 := jeq c96 rfl jz_45
                refine lv_aload_n hx hb dX12_sums_30 rfl (lv_at hl 1 rfl) ?_
                refine jcallV (As := []) (rest := []) ⟨hx, hb, hml, hown, hts⟩ hK hP hA hS hZ (c_X12_byteAt l D cI cL ad zz hJ σ27 τ I44) cw_RX12_189 (jc_55 cI cL ad σ27 τ) rfl ⟨by dsimp only; omega, by dsimp only; omega⟩ rfl rfl rfl hl.1 rfl (Nat.le_of_ble_eq_true rfl) dX12_sums_31 ⟨Nat.zero_le _, Nat.zero_le _⟩ (fun r98 σ97 τ97 H locs h97 hP hS => ?_)
                obtain ⟨⟨rfl, rfl⟩, h97⟩ := h97
                have h99 := h97
                obtain ⟨q102, k100, k101⟩ := h99
                try rw [show (σ27 55 20).toInt = (σ 55 20).toInt from by omega] at k101
                try rw [show (σ27 55 18).toInt = (σ 55 18).toInt from by omega] at k101
                try rw [show σ27 63 = σ 63 from ((f37 63 (of_decide_eq_true rfl)).trans (f8 63 (of_decide_eq_true rfl)))] at k101
                try rw [show σ27 64 = σ 64 from ((f37 64 (of_decide_eq_true rfl)).trans (f8 64 (of_decide_eq_true rfl)))] at k101
                have k103 := k101.det k49
                refine lv_bipush (v := 43) hx hb dX12_sums_34 (of_decide_eq_true rfl) ?_
                exact by
                 refine lv_icmp_ne (tgt := 43) hx hb dX12_sums_36 (of_decide_eq_true rfl) (fun c104 => ?_) (fun c => absurd (jeq c rfl jz_43) (by omega))
                 have kc104 := jne c104 rfl jz_43
                 refine lv_iconst (v := 0) hx hb dX12_sums_43 (of_decide_eq_true rfl) ?_
                 refine lv_istore_n (lv' := [(2, .int 0), (1, .int x24), (0, .ref (ad 55))]) hx hb dX12_sums_44 rfl hl (of_decide_eq_true rfl) rfl (fun ls hl => ?_)
                 refine lv_aload_n hx hb dX12_sums_45 rfl (lv_at hl 2 rfl) ?_
                 refine lv_dup hx hb dX12_sums_46 rfl ?_
                 refine va_get (D := D) hx hb hts inlX12 hown hK hP 55 (jc_55 cI cL ad σ27 τ) rfl 19 (of_decide_eq_true rfl) (hts _ kw_15_11) (fun _ h9 => h9) rfl dX12_sums_47 ?_
                 refine lv_iconst (v := 1) hx hb dX12_sums_50 (of_decide_eq_true rfl) ?_
                 have g105 := jrg (rfl : (σ27 55 19).toInt = (σ27 55 19).toInt)
                 refine lv_iadd hx hb dX12_sums_51 ?_
                 refine lv_topi (fun x106 ex106 => ?_)
                 exact by
                  have tx106 : x106.toInt = (σ27 55 19).toInt + 1 := (jadd ex106 rfl jz_1 (by omega) (by omega)).trans (by omega)
                  refine jput (ty := .int) hx hb hts inlX12 tyX12 tyX12_ok nmX12 hown hK hP hJ hA hS (jc_55 cI cL ad σ27 τ) rfl (k := 19) (of_decide_eq_true rfl) (Nat.le_of_ble_eq_true rfl) (jp_55_19 cI cL ad σ27 τ x106) (hts _ kw_15_11) (fun _ h9 => h9) rfl (by decide +kernel) rfl rfl dX12_sums_52 (fun σ107 H locs eσ107 hP hS => ?_)
                  refine lv_aload_n hx hb dX12_sums_55 rfl (lv_at hl 2 rfl) ?_
                  have z108 : (σ107 55 18).toInt = (σ 55 18).toInt := (congrArg Int32.toInt (show σ107 55 18 = (σ 55 18) from ((jkp 18 eσ107 (of_decide_eq_true rfl)).trans ((f38 18 (of_decide_eq_true rfl)).trans (f9 18 (of_decide_eq_true rfl))))))
                  have z109 : (σ107 55 19).toInt = (σ27 55 19).toInt + 1 := ((congrArg Int32.toInt (show σ107 55 19 = x106 from (jsp eσ107))).trans tx106)
                  have z110 : (σ107 55 20).toInt = (σ 55 20).toInt := (congrArg Int32.toInt (show σ107 55 20 = (σ 55 20) from ((jkp 20 eσ107 (of_decide_eq_true rfl)).trans ((f38 20 (of_decide_eq_true rfl)).trans (f9 20 (of_decide_eq_true rfl))))))
                  have z111 : (σ107 55 21).toInt = (σ27 55 21).toInt := (congrArg Int32.toInt (show σ107 55 21 = (σ27 55 21) from (jkp 21 eσ107 (of_decide_eq_true rfl))))
                  have I112 : jI121 σ107 := ⟨(by omega), (by omega), (by omega), (by omega), (by omega)⟩
                  have z113 : (σ107 55 22).toInt = (σ27 55 22).toInt := (congrArg Int32.toInt (show σ107 55 22 = (σ27 55 22) from (jkp 22 eσ107 (of_decide_eq_true rfl))))
                  exact by
                   refine jcallV (As := []) (rest := []) ⟨hx, hb, hml, hown, hts⟩ hK hP hA hS hZ (h_product σ107 τ I112 (by omega) (by omega) (by omega)) cw_RX12_205 (jc_55 cI cL ad σ107 τ) rfl ⟨by dsimp only; omega, by dsimp only; omega⟩ rfl rfl rfl hl.1 rfl (Nat.le_of_ble_eq_true rfl) dX12_sums_56 ⟨Nat.zero_le _, Nat.zero_le _⟩ (fun r115 σ114 τ114 H locs h114 hP hS => ?_)
                   obtain ⟨rfl, f116, f117, I118, w119, h114⟩ := h114
                   obtain ⟨i121, i122, i123, i124, i125⟩ : ((-1) ≤ (σ114 55 18).toInt ∧ (σ114 55 18).toInt ≤ 80) ∧ (0 ≤ (σ114 55 19).toInt) ∧ ((σ114 55 19).toInt ≤ (σ114 55 20).toInt) ∧ ((σ114 55 20).toInt ≤ 80) ∧ ((-1) ≤ (σ114 55 21).toInt ∧ (σ114 55 21).toInt ≤ 80) := id I118
                   try rw [show (σ107 55 19).toInt = (σ27 55 19).toInt + 1 from by omega] at w119
                   try rw [show (σ107 55 20).toInt = (σ 55 20).toInt from by omega] at w119
                   try rw [show (σ107 55 18).toInt = (σ 55 18).toInt from by omega] at w119
                   try rw [show σ107 63 = σ 63 from ((jnp 63 eσ107 (of_decide_eq_true rfl)).trans ((f37 63 (of_decide_eq_true rfl)).trans (f8 63 (of_decide_eq_true rfl))))] at w119
                   try rw [show σ107 64 = σ 64 from ((jnp 64 eσ107 (of_decide_eq_true rfl)).trans ((f37 64 (of_decide_eq_true rfl)).trans (f8 64 (of_decide_eq_true rfl))))] at w119
                   try rw [show σ107 66 = σ 66 from by rw [jnp 66 eσ107 (of_decide_eq_true rfl), f37 66 (of_decide_eq_true rfl), f8 66 (of_decide_eq_true rfl)]] at w119
                   try rw [show (σ107 55 22).toInt = (σ 55 22).toInt from by omega] at w119
                   have z126 : (σ114 55 18).toInt = (σ 55 18).toInt := (congrArg Int32.toInt (show σ114 55 18 = (σ 55 18) from ((f117 18 (of_decide_eq_true rfl)).trans ((jkp 18 eσ107 (of_decide_eq_true rfl)).trans ((f38 18 (of_decide_eq_true rfl)).trans (f9 18 (of_decide_eq_true rfl)))))))
                   have z127 : (σ114 55 20).toInt = (σ 55 20).toInt := (congrArg Int32.toInt (show σ114 55 20 = (σ 55 20) from ((f117 20 (of_decide_eq_true rfl)).trans ((jkp 20 eσ107 (of_decide_eq_true rfl)).trans ((f38 20 (of_decide_eq_true rfl)).trans (f9 20 (of_decide_eq_true rfl)))))))
                   obtain ⟨k128, k129, h114⟩ := h114
                   refine lv_istore_n (lv' := [(3, .int r115), (2, .int 0), (1, .int x24), (0, .ref (ad 55))]) hx hb dX12_sums_59 rfl hl (of_decide_eq_true rfl) rfl (fun ls hl => ?_)
                   refine lv_iload_n hx hb dX12_sums_60 rfl (lv_at hl 1 rfl) ?_
                   refine lv_if_eq (tgt := 70) hx hb dX12_sums_61 (of_decide_eq_true rfl) (fun _ => ?_) (fun c => absurd (of_decide_eq_true rfl) c)
                   refine lv_iload_n hx hb dX12_sums_70 rfl (lv_at hl 2 rfl) ?_
                   refine lv_iload_n hx hb dX12_sums_71 rfl (lv_at hl 0 rfl) ?_
                   have g130 := jrg (rfl : x24.toInt = x24.toInt)
                   have g131 := jrg (rfl : r115.toInt = r115.toInt)
                   refine lv_isub hx hb dX12_sums_72 ?_
                   refine lv_topi (fun x132 ex132 => ?_)
                   have gx132 := jrg (rfl : x132.toInt = x132.toInt)
                   refine lv_istore_n (lv' := [(1, .int x132), (3, .int r115), (2, .int 0), (0, .ref (ad 55))]) hx hb dX12_sums_73 rfl hl (of_decide_eq_true rfl) rfl (fun ls hl => ?_)
                   refine lv_goto (tgt := 5) hx hb dX12_sums_74 (of_decide_eq_true rfl) ?_
                   exact by exact ihlp22 x132 σ114 _ _ ls (by omega) (by omega) (by omega) (by omega) (by omega) (by omega) (by omega) (by omega) (fun i hi => ((f116 i hi).trans ((jnp i eσ107 (imp_165 i hi)).trans (f37 i hi)))) (fun i hi => ((f117 i hi).trans ((jkp i eσ107 (imp_171 i hi)).trans (f38 i hi))))  (jRi.to (jRi.step (a := (σ27 55 19).toInt) q39 (by omega) (of_decide_eq_true rfl) (of_decide_eq_true rfl) (of_decide_eq_true rfl) (by rw [show jYs (jVw (σ 55 18).toInt (σ 63) (σ 64)) (σ 55 20).toInt (σ27 55 19).toInt = 45 from by omega]; decide) w119 (of_decide_eq_true rfl) (by omega) (by rw [show jYs (jVw (σ 55 18).toInt (σ 63) (σ 64)) (σ 55 20).toInt (σ27 55 19).toInt = 45 from by omega]; exact jBi_mi ex132)) (by omega) (by omega)) hP hS (lv_sub hl [0, 3] rfl)
   exact by exact lp22 1000000 r7 σ6 _ _ ls (by omega) (by omega) (by omega) (by omega) (by omega) (by omega) (by omega) (by omega) (fun _ _ => rfl) (fun _ _ => rfl)  (jRp.begin w11 (of_decide_eq_true rfl) (of_decide_eq_true rfl)) hP hS hl
set_option maxHeartbeats 4000000 in
set_option maxRecDepth 100000 in
theorem c_X12_grammar_compared_g (l : Launch) (D : va_G) (cI cL : ClassId) (ad zz : Nat → Nat) (hJ : jD ad) (n : Nat) (h_sums : ∀ (σ : Nat → Nat → Int32) (τ : Nat → Nat → Int64) (hI121 : jI121 σ) (hp0 : (σ 55 21).toInt = (-1)) (hp1 : 0 ≤ (σ 55 22).toInt ∧ (σ 55 22).toInt ≤ 6) (hp2 : -(σ 55 22).toInt + 6 ≤ (((n) : Nat) : Int)), jM l yX12_sums cX12_sums 4 (some .int) ({ frames := (12 + 8 * (n)), cells := 0, slots := 0, locals := (480 + 360 * (n)) }) D cI cL ad zz [.ref (ad 55)] σ τ (fun r σ' τ' => τ = τ' ∧ (∀ i : Nat, (i < 55 ∨ 55 < i) → σ' i = σ i) ∧ (∀ k : Nat, (k < 19 ∨ 19 < k) ∧ (k < 21 ∨ 21 < k) ∧ (k < 22 ∨ 22 < k) → σ' 55 k = σ 55 k) ∧ (jI121 σ') ∧ (jRp (jVw (σ 55 18).toInt (σ 63) (σ 64)) (σ 55 20).toInt (σ 66) 3 (σ 55 22).toInt (σ 55 19).toInt (σ' 55 19).toInt (σ' 55 21).toInt r) ∧ (((σ' 55 21).toInt = (-1) ∧ (σ' 55 22).toInt = (σ 55 22).toInt) ∨ (0 ≤ (σ' 55 21).toInt)) ∧ ((σ 55 19).toInt ≤ (σ' 55 19).toInt) ∧ True)) (σ : Nat → Nat → Int32) (τ : Nat → Nat → Int64) (hI121 : jI121 σ) (hp0 : (σ 55 21).toInt = (-1)) (hp1 : 0 ≤ (σ 55 22).toInt ∧ (σ 55 22).toInt ≤ 6) (hp2 : -(σ 55 22).toInt + 6 ≤ (((n) : Nat) : Int)) : jM l yX12_compared cX12_compared 4 (some .int) ({ frames := (13 + 8 * (n)), cells := 0, slots := 0, locals := (520 + 360 * (n)) }) D cI cL ad zz [.ref (ad 55)] σ τ (fun r σ' τ' => τ = τ' ∧ (∀ i : Nat, (i < 55 ∨ 55 < i) → σ' i = σ i) ∧ (∀ k : Nat, (k < 19 ∨ 19 < k) ∧ (k < 21 ∨ 21 < k) ∧ (k < 22 ∨ 22 < k) → σ' 55 k = σ 55 k) ∧ (jI121 σ') ∧ (jRp (jVw (σ 55 18).toInt (σ 63) (σ 64)) (σ 55 20).toInt (σ 66) 2 (σ 55 22).toInt (σ 55 19).toInt (σ' 55 19).toInt (σ' 55 21).toInt r) ∧ (((σ' 55 21).toInt = (-1) ∧ (σ' 55 22).toInt = (σ 55 22).toInt) ∨ (0 ≤ (σ' 55 21).toInt)) ∧ ((σ 55 19).toInt ≤ (σ' 55 19).toInt) ∧ True) := by
  refine jM.of hJ (by decide +kernel) (nt := .int) rfl (Nat.le_of_ble_eq_true rfl) ?_
  intro p e s m args below meth c Q ls hC hret hl hP
  obtain ⟨hx, hb, hr, hml, hown, hts, hK, -, hlocks, hZ⟩ := hC
  have hown : s.vm.findClass RX12 = some m.cls := hown
  have hS : va_S (jA ad) s.heap s.heap [] := va_S.rf
  have hA : ∀ q, jA ad q → jA ad q := fun _ h => h
  have hl : lv_has ls 4 [(0, .ref (ad 55))] := hl
  obtain ⟨i1, i2, i3, i4, i5⟩ : ((-1) ≤ (σ 55 18).toInt ∧ (σ 55 18).toInt ≤ 80) ∧ (0 ≤ (σ 55 19).toInt) ∧ ((σ 55 19).toInt ≤ (σ 55 20).toInt) ∧ ((σ 55 20).toInt ≤ 80) ∧ ((-1) ≤ (σ 55 21).toInt ∧ (σ 55 21).toInt ≤ 80) := id hI121
  refine lv_aload_n hx hb dX12_compared_0 rfl (lv_at hl 0 rfl) ?_
  exact by
   refine jcallV (As := []) (rest := []) ⟨hx, hb, hml, hown, hts⟩ hK hP hA hS hZ (h_sums σ τ hI121 (by omega) (by omega) (by omega)) cw_RX12_202 (jc_55 cI cL ad σ τ) rfl ⟨by dsimp only; omega, by dsimp only; omega⟩ rfl rfl rfl hl.1 rfl (Nat.le_of_ble_eq_true rfl) dX12_compared_1 ⟨Nat.zero_le _, Nat.zero_le _⟩ (fun r7 σ6 τ6 H locs h6 hP hS => ?_)
   obtain ⟨rfl, f8, f9, I10, w11, h6⟩ := h6
   obtain ⟨i13, i14, i15, i16, i17⟩ : ((-1) ≤ (σ6 55 18).toInt ∧ (σ6 55 18).toInt ≤ 80) ∧ (0 ≤ (σ6 55 19).toInt) ∧ ((σ6 55 19).toInt ≤ (σ6 55 20).toInt) ∧ ((σ6 55 20).toInt ≤ 80) ∧ ((-1) ≤ (σ6 55 21).toInt ∧ (σ6 55 21).toInt ≤ 80) := id I10
   have z18 : (σ6 55 18).toInt = (σ 55 18).toInt := (congrArg Int32.toInt (show σ6 55 18 = (σ 55 18) from (f9 18 (of_decide_eq_true rfl))))
   have z19 : (σ6 55 20).toInt = (σ 55 20).toInt := (congrArg Int32.toInt (show σ6 55 20 = (σ 55 20) from (f9 20 (of_decide_eq_true rfl))))
   obtain ⟨k20, k21, h6⟩ := h6
   refine lv_istore_n (lv' := [(1, .int r7), (0, .ref (ad 55))]) hx hb dX12_compared_4 rfl hl (of_decide_eq_true rfl) rfl (fun ls hl => ?_)
   refine lv_aload_n hx hb dX12_compared_5 rfl (lv_at hl 1 rfl) ?_
   refine jcallV (As := []) (rest := []) ⟨hx, hb, hml, hown, hts⟩ hK hP hA hS hZ (c_X12_byteAt l D cI cL ad zz hJ σ6 τ I10) cw_RX12_189 (jc_55 cI cL ad σ6 τ) rfl ⟨by dsimp only; omega, by dsimp only; omega⟩ rfl rfl rfl hl.1 rfl (Nat.le_of_ble_eq_true rfl) dX12_compared_6 ⟨Nat.zero_le _, Nat.zero_le _⟩ (fun r23 σ22 τ22 H locs h22 hP hS => ?_)
   obtain ⟨⟨rfl, rfl⟩, h22⟩ := h22
   have h24 := h22
   obtain ⟨q27, k25, k26⟩ := h24
   try rw [show (σ6 55 20).toInt = (σ 55 20).toInt from by omega] at k26
   try rw [show (σ6 55 18).toInt = (σ 55 18).toInt from by omega] at k26
   try rw [show σ6 63 = σ 63 from (f8 63 (of_decide_eq_true rfl))] at k26
   try rw [show σ6 64 = σ 64 from (f8 64 (of_decide_eq_true rfl))] at k26
   exact by
    have k28 := k26.ys (by omega)
    refine lv_istore_n (lv' := [(2, .int r23), (1, .int r7), (0, .ref (ad 55))]) hx hb dX12_compared_9 rfl hl (of_decide_eq_true rfl) rfl (fun ls hl => ?_)
    refine lv_aload_n hx hb dX12_compared_10 rfl (lv_at hl 2 rfl) ?_
    refine va_get (D := D) hx hb hts inlX12 hown hK hP 55 (jc_55 cI cL ad σ6 τ) rfl 21 (of_decide_eq_true rfl) (hts _ kw_15_13) (fun _ h9 => h9) rfl dX12_compared_11 ?_
    refine lv_if_ge (tgt := 35) hx hb dX12_compared_14 (of_decide_eq_true rfl) (fun c29 => ?_) (fun c29 => ?_)
    · have kc29 := jle c29 jz_0 rfl
      refine lv_iload_n hx hb dX12_compared_35 rfl (lv_at hl 1 rfl) ?_
      exact by exact hret r7 σ6 τ _ _ _ _ rfl ⟨rfl, (fun i hi => (f8 i hi)), (fun i hi => (f9 i hi)), I10, (jRp.to (jRi.fin (jRp.begin (md := 2) w11 (of_decide_eq_true rfl) (of_decide_eq_true rfl)) (of_decide_eq_true rfl) (fun h9 => absurd h9 (by omega))) (by omega) (by omega)), (by omega), (by omega), trivial⟩ hP hS dX12_compared_36
    · have kc29 := jnle c29 jz_0 rfl
      refine lv_iload_n hx hb dX12_compared_17 rfl (lv_at hl 0 rfl) ?_
      refine lv_bipush (v := 60) hx hb dX12_compared_18 (of_decide_eq_true rfl) ?_
      refine lv_icmp_eq (tgt := 37) hx hb dX12_compared_20 (of_decide_eq_true rfl) (fun c30 => ?_) (fun c30 => ?_)
      · have kc30 := jeq c30 rfl jz_60
        refine lv_aload_n hx hb dX12_compared_37 rfl (lv_at hl 2 rfl) ?_
        refine lv_dup hx hb dX12_compared_38 rfl ?_
        refine va_get (D := D) hx hb hts inlX12 hown hK hP 55 (jc_55 cI cL ad σ6 τ) rfl 19 (of_decide_eq_true rfl) (hts _ kw_15_11) (fun _ h9 => h9) rfl dX12_compared_39 ?_
        refine lv_iconst (v := 1) hx hb dX12_compared_42 (of_decide_eq_true rfl) ?_
        have g31 := jrg (rfl : (σ6 55 19).toInt = (σ6 55 19).toInt)
        refine lv_iadd hx hb dX12_compared_43 ?_
        refine lv_topi (fun x32 ex32 => ?_)
        exact by
         have tx32 : x32.toInt = (σ6 55 19).toInt + 1 := (jadd ex32 rfl jz_1 (by omega) (by omega)).trans (by omega)
         refine jput (ty := .int) hx hb hts inlX12 tyX12 tyX12_ok nmX12 hown hK hP hJ hA hS (jc_55 cI cL ad σ6 τ) rfl (k := 19) (of_decide_eq_true rfl) (Nat.le_of_ble_eq_true rfl) (jp_55_19 cI cL ad σ6 τ x32) (hts _ kw_15_11) (fun _ h9 => h9) rfl (by decide +kernel) rfl rfl dX12_compared_44 (fun σ33 H locs eσ33 hP hS => ?_)
         refine lv_aload_n hx hb dX12_compared_47 rfl (lv_at hl 2 rfl) ?_
         have z34 : (σ33 55 18).toInt = (σ 55 18).toInt := (congrArg Int32.toInt (show σ33 55 18 = (σ 55 18) from ((jkp 18 eσ33 (of_decide_eq_true rfl)).trans (f9 18 (of_decide_eq_true rfl)))))
         have z35 : (σ33 55 19).toInt = (σ6 55 19).toInt + 1 := ((congrArg Int32.toInt (show σ33 55 19 = x32 from (jsp eσ33))).trans tx32)
         have z36 : (σ33 55 20).toInt = (σ 55 20).toInt := (congrArg Int32.toInt (show σ33 55 20 = (σ 55 20) from ((jkp 20 eσ33 (of_decide_eq_true rfl)).trans (f9 20 (of_decide_eq_true rfl)))))
         have z37 : (σ33 55 21).toInt = (σ6 55 21).toInt := (congrArg Int32.toInt (show σ33 55 21 = (σ6 55 21) from (jkp 21 eσ33 (of_decide_eq_true rfl))))
         have I38 : jI121 σ33 := ⟨(by omega), (by omega), (by omega), (by omega), (by omega)⟩
         have z39 : (σ33 55 22).toInt = (σ6 55 22).toInt := (congrArg Int32.toInt (show σ33 55 22 = (σ6 55 22) from (jkp 22 eσ33 (of_decide_eq_true rfl))))
         exact by
          refine jcallV (As := []) (rest := []) ⟨hx, hb, hml, hown, hts⟩ hK hP hA hS hZ (h_sums σ33 τ I38 (by omega) (by omega) (by omega)) cw_RX12_202 (jc_55 cI cL ad σ33 τ) rfl ⟨by dsimp only; omega, by dsimp only; omega⟩ rfl rfl rfl hl.1 rfl (Nat.le_of_ble_eq_true rfl) dX12_compared_48 ⟨Nat.zero_le _, Nat.zero_le _⟩ (fun r41 σ40 τ40 H locs h40 hP hS => ?_)
          obtain ⟨rfl, f42, f43, I44, w45, h40⟩ := h40
          obtain ⟨i47, i48, i49, i50, i51⟩ : ((-1) ≤ (σ40 55 18).toInt ∧ (σ40 55 18).toInt ≤ 80) ∧ (0 ≤ (σ40 55 19).toInt) ∧ ((σ40 55 19).toInt ≤ (σ40 55 20).toInt) ∧ ((σ40 55 20).toInt ≤ 80) ∧ ((-1) ≤ (σ40 55 21).toInt ∧ (σ40 55 21).toInt ≤ 80) := id I44
          try rw [show (σ33 55 19).toInt = (σ6 55 19).toInt + 1 from by omega] at w45
          try rw [show (σ33 55 20).toInt = (σ 55 20).toInt from by omega] at w45
          try rw [show (σ33 55 18).toInt = (σ 55 18).toInt from by omega] at w45
          try rw [show σ33 63 = σ 63 from ((jnp 63 eσ33 (of_decide_eq_true rfl)).trans (f8 63 (of_decide_eq_true rfl)))] at w45
          try rw [show σ33 64 = σ 64 from ((jnp 64 eσ33 (of_decide_eq_true rfl)).trans (f8 64 (of_decide_eq_true rfl)))] at w45
          try rw [show σ33 66 = σ 66 from by rw [jnp 66 eσ33 (of_decide_eq_true rfl), f8 66 (of_decide_eq_true rfl)]] at w45
          try rw [show (σ33 55 22).toInt = (σ 55 22).toInt from by omega] at w45
          have z52 : (σ40 55 18).toInt = (σ 55 18).toInt := (congrArg Int32.toInt (show σ40 55 18 = (σ 55 18) from ((f43 18 (of_decide_eq_true rfl)).trans ((jkp 18 eσ33 (of_decide_eq_true rfl)).trans (f9 18 (of_decide_eq_true rfl))))))
          have z53 : (σ40 55 20).toInt = (σ 55 20).toInt := (congrArg Int32.toInt (show σ40 55 20 = (σ 55 20) from ((f43 20 (of_decide_eq_true rfl)).trans ((jkp 20 eσ33 (of_decide_eq_true rfl)).trans (f9 20 (of_decide_eq_true rfl))))))
          obtain ⟨k54, k55, h40⟩ := h40
          refine lv_istore_n (lv' := [(3, .int r41), (2, .int r23), (1, .int r7), (0, .ref (ad 55))]) hx hb dX12_compared_51 rfl hl (of_decide_eq_true rfl) rfl (fun ls hl => ?_)
          refine lv_iload_n hx hb dX12_compared_52 rfl (lv_at hl 1 rfl) ?_
          refine lv_bipush (v := 60) hx hb dX12_compared_53 (of_decide_eq_true rfl) ?_
          exact by
           refine lv_icmp_ne (tgt := 66) hx hb dX12_compared_55 (of_decide_eq_true rfl) (fun c => absurd (jne c rfl jz_60) (by omega)) (fun c56 => ?_)
           have kc56 := jeq c56 rfl jz_60
           refine lv_iload_n hx hb dX12_compared_58 rfl (lv_at hl 2 rfl) ?_
           refine lv_iload_n hx hb dX12_compared_59 rfl (lv_at hl 0 rfl) ?_
           refine lv_icmp_ge (tgt := 89) hx hb dX12_compared_60 (of_decide_eq_true rfl) (fun c57 => ?_) (fun c57 => ?_)
           · have kc57 := jle c57 rfl rfl
             refine lv_iconst (v := 0) hx hb dX12_compared_89 (of_decide_eq_true rfl) ?_
             exact by exact hret 0 σ40 τ _ _ _ _ rfl ⟨rfl, (fun i hi => ((f42 i hi).trans ((jnp i eσ33 (imp_165 i hi)).trans (f8 i hi)))), (fun i hi => ((f43 i hi).trans ((jkp i eσ33 (imp_171 i hi)).trans (f9 i hi)))), I44, (jRp.to (jRi.once (jRp.begin (md := 2) w11 (of_decide_eq_true rfl) (of_decide_eq_true rfl)) (by omega) (of_decide_eq_true rfl) (by rw [show jYs (jVw (σ 55 18).toInt (σ 63) (σ 64)) (σ 55 20).toInt (σ6 55 19).toInt = 60 from by omega]; decide) w45 (of_decide_eq_true rfl) (by omega) (by rw [show jYs (jVw (σ 55 18).toInt (σ 63) (σ 64)) (σ 55 20).toInt (σ6 55 19).toInt = 60 from by omega]; exact jBi_lt0 (by omega))) (by omega) (by omega)), (by omega), (by omega), trivial⟩ hP hS dX12_compared_90
           · have kc57 := jnle c57 rfl rfl
             refine lv_goto (tgt := 85) hx hb dX12_compared_63 (of_decide_eq_true rfl) ?_
             refine lv_iconst (v := 1) hx hb dX12_compared_85 (of_decide_eq_true rfl) ?_
             refine lv_goto (tgt := 90) hx hb dX12_compared_86 (of_decide_eq_true rfl) ?_
             exact by exact hret 1 σ40 τ _ _ _ _ rfl ⟨rfl, (fun i hi => ((f42 i hi).trans ((jnp i eσ33 (imp_165 i hi)).trans (f8 i hi)))), (fun i hi => ((f43 i hi).trans ((jkp i eσ33 (imp_171 i hi)).trans (f9 i hi)))), I44, (jRp.to (jRi.once (jRp.begin (md := 2) w11 (of_decide_eq_true rfl) (of_decide_eq_true rfl)) (by omega) (of_decide_eq_true rfl) (by rw [show jYs (jVw (σ 55 18).toInt (σ 63) (σ 64)) (σ 55 20).toInt (σ6 55 19).toInt = 60 from by omega]; decide) w45 (of_decide_eq_true rfl) (by omega) (by rw [show jYs (jVw (σ 55 18).toInt (σ 63) (σ 64)) (σ 55 20).toInt (σ6 55 19).toInt = 60 from by omega]; exact jBi_lt1 (by omega))) (by omega) (by omega)), (by omega), (by omega), trivial⟩ hP hS dX12_compared_90
      · have kc30 := jne c30 rfl jz_60
        refine lv_iload_n hx hb dX12_compared_23 rfl (lv_at hl 0 rfl) ?_
        refine lv_bipush (v := 61) hx hb dX12_compared_24 (of_decide_eq_true rfl) ?_
        refine lv_icmp_eq (tgt := 37) hx hb dX12_compared_26 (of_decide_eq_true rfl) (fun c58 => ?_) (fun c58 => ?_)
        · have kc58 := jeq c58 rfl jz_61
          refine lv_aload_n hx hb dX12_compared_37 rfl (lv_at hl 2 rfl) ?_
          refine lv_dup hx hb dX12_compared_38 rfl ?_
          refine va_get (D := D) hx hb hts inlX12 hown hK hP 55 (jc_55 cI cL ad σ6 τ) rfl 19 (of_decide_eq_true rfl) (hts _ kw_15_11) (fun _ h9 => h9) rfl dX12_compared_39 ?_
          refine lv_iconst (v := 1) hx hb dX12_compared_42 (of_decide_eq_true rfl) ?_
          have g59 := jrg (rfl : (σ6 55 19).toInt = (σ6 55 19).toInt)
          refine lv_iadd hx hb dX12_compared_43 ?_
          refine lv_topi (fun x60 ex60 => ?_)
          exact by
           have tx60 : x60.toInt = (σ6 55 19).toInt + 1 := (jadd ex60 rfl jz_1 (by omega) (by omega)).trans (by omega)
           refine jput (ty := .int) hx hb hts inlX12 tyX12 tyX12_ok nmX12 hown hK hP hJ hA hS (jc_55 cI cL ad σ6 τ) rfl (k := 19) (of_decide_eq_true rfl) (Nat.le_of_ble_eq_true rfl) (jp_55_19 cI cL ad σ6 τ x60) (hts _ kw_15_11) (fun _ h9 => h9) rfl (by decide +kernel) rfl rfl dX12_compared_44 (fun σ61 H locs eσ61 hP hS => ?_)
           refine lv_aload_n hx hb dX12_compared_47 rfl (lv_at hl 2 rfl) ?_
           have z62 : (σ61 55 18).toInt = (σ 55 18).toInt := (congrArg Int32.toInt (show σ61 55 18 = (σ 55 18) from ((jkp 18 eσ61 (of_decide_eq_true rfl)).trans (f9 18 (of_decide_eq_true rfl)))))
           have z63 : (σ61 55 19).toInt = (σ6 55 19).toInt + 1 := ((congrArg Int32.toInt (show σ61 55 19 = x60 from (jsp eσ61))).trans tx60)
           have z64 : (σ61 55 20).toInt = (σ 55 20).toInt := (congrArg Int32.toInt (show σ61 55 20 = (σ 55 20) from ((jkp 20 eσ61 (of_decide_eq_true rfl)).trans (f9 20 (of_decide_eq_true rfl)))))
           have z65 : (σ61 55 21).toInt = (σ6 55 21).toInt := (congrArg Int32.toInt (show σ61 55 21 = (σ6 55 21) from (jkp 21 eσ61 (of_decide_eq_true rfl))))
           have I66 : jI121 σ61 := ⟨(by omega), (by omega), (by omega), (by omega), (by omega)⟩
           have z67 : (σ61 55 22).toInt = (σ6 55 22).toInt := (congrArg Int32.toInt (show σ61 55 22 = (σ6 55 22) from (jkp 22 eσ61 (of_decide_eq_true rfl))))
           exact by
            refine jcallV (As := []) (rest := []) ⟨hx, hb, hml, hown, hts⟩ hK hP hA hS hZ (h_sums σ61 τ I66 (by omega) (by omega) (by omega)) cw_RX12_202 (jc_55 cI cL ad σ61 τ) rfl ⟨by dsimp only; omega, by dsimp only; omega⟩ rfl rfl rfl hl.1 rfl (Nat.le_of_ble_eq_true rfl) dX12_compared_48 ⟨Nat.zero_le _, Nat.zero_le _⟩ (fun r69 σ68 τ68 H locs h68 hP hS => ?_)
            obtain ⟨rfl, f70, f71, I72, w73, h68⟩ := h68
            obtain ⟨i75, i76, i77, i78, i79⟩ : ((-1) ≤ (σ68 55 18).toInt ∧ (σ68 55 18).toInt ≤ 80) ∧ (0 ≤ (σ68 55 19).toInt) ∧ ((σ68 55 19).toInt ≤ (σ68 55 20).toInt) ∧ ((σ68 55 20).toInt ≤ 80) ∧ ((-1) ≤ (σ68 55 21).toInt ∧ (σ68 55 21).toInt ≤ 80) := id I72
            try rw [show (σ61 55 19).toInt = (σ6 55 19).toInt + 1 from by omega] at w73
            try rw [show (σ61 55 20).toInt = (σ 55 20).toInt from by omega] at w73
            try rw [show (σ61 55 18).toInt = (σ 55 18).toInt from by omega] at w73
            try rw [show σ61 63 = σ 63 from ((jnp 63 eσ61 (of_decide_eq_true rfl)).trans (f8 63 (of_decide_eq_true rfl)))] at w73
            try rw [show σ61 64 = σ 64 from ((jnp 64 eσ61 (of_decide_eq_true rfl)).trans (f8 64 (of_decide_eq_true rfl)))] at w73
            try rw [show σ61 66 = σ 66 from by rw [jnp 66 eσ61 (of_decide_eq_true rfl), f8 66 (of_decide_eq_true rfl)]] at w73
            try rw [show (σ61 55 22).toInt = (σ 55 22).toInt from by omega] at w73
            have z80 : (σ68 55 18).toInt = (σ 55 18).toInt := (congrArg Int32.toInt (show σ68 55 18 = (σ 55 18) from ((f71 18 (of_decide_eq_true rfl)).trans ((jkp 18 eσ61 (of_decide_eq_true rfl)).trans (f9 18 (of_decide_eq_true rfl))))))
            have z81 : (σ68 55 20).toInt = (σ 55 20).toInt := (congrArg Int32.toInt (show σ68 55 20 = (σ 55 20) from ((f71 20 (of_decide_eq_true rfl)).trans ((jkp 20 eσ61 (of_decide_eq_true rfl)).trans (f9 20 (of_decide_eq_true rfl))))))
            obtain ⟨k82, k83, h68⟩ := h68
            refine lv_istore_n (lv' := [(3, .int r69), (2, .int r23), (1, .int r7), (0, .ref (ad 55))]) hx hb dX12_compared_51 rfl hl (of_decide_eq_true rfl) rfl (fun ls hl => ?_)
            refine lv_iload_n hx hb dX12_compared_52 rfl (lv_at hl 1 rfl) ?_
            refine lv_bipush (v := 60) hx hb dX12_compared_53 (of_decide_eq_true rfl) ?_
            exact by
             refine lv_icmp_ne (tgt := 66) hx hb dX12_compared_55 (of_decide_eq_true rfl) (fun c84 => ?_) (fun c => absurd (jeq c rfl jz_60) (by omega))
             have kc84 := jne c84 rfl jz_60
             refine lv_iload_n hx hb dX12_compared_66 rfl (lv_at hl 1 rfl) ?_
             refine lv_bipush (v := 61) hx hb dX12_compared_67 (of_decide_eq_true rfl) ?_
             refine lv_icmp_ne (tgt := 80) hx hb dX12_compared_69 (of_decide_eq_true rfl) (fun c => absurd (jne c rfl jz_61) (by omega)) (fun c85 => ?_)
             have kc85 := jeq c85 rfl jz_61
             refine lv_iload_n hx hb dX12_compared_72 rfl (lv_at hl 2 rfl) ?_
             refine lv_iload_n hx hb dX12_compared_73 rfl (lv_at hl 0 rfl) ?_
             refine lv_icmp_ne (tgt := 89) hx hb dX12_compared_74 (of_decide_eq_true rfl) (fun c86 => ?_) (fun c86 => ?_)
             · exact by
                have kc86 := jne c86 rfl rfl
                refine lv_iconst (v := 0) hx hb dX12_compared_89 (of_decide_eq_true rfl) ?_
                exact by exact hret 0 σ68 τ _ _ _ _ rfl ⟨rfl, (fun i hi => ((f70 i hi).trans ((jnp i eσ61 (imp_165 i hi)).trans (f8 i hi)))), (fun i hi => ((f71 i hi).trans ((jkp i eσ61 (imp_171 i hi)).trans (f9 i hi)))), I72, (jRp.to (jRi.once (jRp.begin (md := 2) w11 (of_decide_eq_true rfl) (of_decide_eq_true rfl)) (by omega) (of_decide_eq_true rfl) (by rw [show jYs (jVw (σ 55 18).toInt (σ 63) (σ 64)) (σ 55 20).toInt (σ6 55 19).toInt = 61 from by omega]; decide) w73 (of_decide_eq_true rfl) (by omega) (by rw [show jYs (jVw (σ 55 18).toInt (σ 63) (σ 64)) (σ 55 20).toInt (σ6 55 19).toInt = 61 from by omega]; exact jBi_eq0 (by omega))) (by omega) (by omega)), (by omega), (by omega), trivial⟩ hP hS dX12_compared_90
             · have kc86 := jeq c86 rfl rfl
               refine lv_goto (tgt := 85) hx hb dX12_compared_77 (of_decide_eq_true rfl) ?_
               refine lv_iconst (v := 1) hx hb dX12_compared_85 (of_decide_eq_true rfl) ?_
               refine lv_goto (tgt := 90) hx hb dX12_compared_86 (of_decide_eq_true rfl) ?_
               exact by exact hret 1 σ68 τ _ _ _ _ rfl ⟨rfl, (fun i hi => ((f70 i hi).trans ((jnp i eσ61 (imp_165 i hi)).trans (f8 i hi)))), (fun i hi => ((f71 i hi).trans ((jkp i eσ61 (imp_171 i hi)).trans (f9 i hi)))), I72, (jRp.to (jRi.once (jRp.begin (md := 2) w11 (of_decide_eq_true rfl) (of_decide_eq_true rfl)) (by omega) (of_decide_eq_true rfl) (by rw [show jYs (jVw (σ 55 18).toInt (σ 63) (σ 64)) (σ 55 20).toInt (σ6 55 19).toInt = 61 from by omega]; decide) w73 (of_decide_eq_true rfl) (by omega) (by rw [show jYs (jVw (σ 55 18).toInt (σ 63) (σ 64)) (σ 55 20).toInt (σ6 55 19).toInt = 61 from by omega]; exact jBi_eq1 (by omega))) (by omega) (by omega)), (by omega), (by omega), trivial⟩ hP hS dX12_compared_90
        · have kc58 := jne c58 rfl jz_61
          refine lv_iload_n hx hb dX12_compared_29 rfl (lv_at hl 0 rfl) ?_
          refine lv_bipush (v := 62) hx hb dX12_compared_30 (of_decide_eq_true rfl) ?_
          refine lv_icmp_eq (tgt := 37) hx hb dX12_compared_32 (of_decide_eq_true rfl) (fun c87 => ?_) (fun c87 => ?_)
          · have kc87 := jeq c87 rfl jz_62
            refine lv_aload_n hx hb dX12_compared_37 rfl (lv_at hl 2 rfl) ?_
            refine lv_dup hx hb dX12_compared_38 rfl ?_
            refine va_get (D := D) hx hb hts inlX12 hown hK hP 55 (jc_55 cI cL ad σ6 τ) rfl 19 (of_decide_eq_true rfl) (hts _ kw_15_11) (fun _ h9 => h9) rfl dX12_compared_39 ?_
            refine lv_iconst (v := 1) hx hb dX12_compared_42 (of_decide_eq_true rfl) ?_
            have g88 := jrg (rfl : (σ6 55 19).toInt = (σ6 55 19).toInt)
            refine lv_iadd hx hb dX12_compared_43 ?_
            refine lv_topi (fun x89 ex89 => ?_)
            exact by
             have tx89 : x89.toInt = (σ6 55 19).toInt + 1 := (jadd ex89 rfl jz_1 (by omega) (by omega)).trans (by omega)
             refine jput (ty := .int) hx hb hts inlX12 tyX12 tyX12_ok nmX12 hown hK hP hJ hA hS (jc_55 cI cL ad σ6 τ) rfl (k := 19) (of_decide_eq_true rfl) (Nat.le_of_ble_eq_true rfl) (jp_55_19 cI cL ad σ6 τ x89) (hts _ kw_15_11) (fun _ h9 => h9) rfl (by decide +kernel) rfl rfl dX12_compared_44 (fun σ90 H locs eσ90 hP hS => ?_)
             refine lv_aload_n hx hb dX12_compared_47 rfl (lv_at hl 2 rfl) ?_
             have z91 : (σ90 55 18).toInt = (σ 55 18).toInt := (congrArg Int32.toInt (show σ90 55 18 = (σ 55 18) from ((jkp 18 eσ90 (of_decide_eq_true rfl)).trans (f9 18 (of_decide_eq_true rfl)))))
             have z92 : (σ90 55 19).toInt = (σ6 55 19).toInt + 1 := ((congrArg Int32.toInt (show σ90 55 19 = x89 from (jsp eσ90))).trans tx89)
             have z93 : (σ90 55 20).toInt = (σ 55 20).toInt := (congrArg Int32.toInt (show σ90 55 20 = (σ 55 20) from ((jkp 20 eσ90 (of_decide_eq_true rfl)).trans (f9 20 (of_decide_eq_true rfl)))))
             have z94 : (σ90 55 21).toInt = (σ6 55 21).toInt := (congrArg Int32.toInt (show σ90 55 21 = (σ6 55 21) from (jkp 21 eσ90 (of_decide_eq_true rfl))))
             have I95 : jI121 σ90 := ⟨(by omega), (by omega), (by omega), (by omega), (by omega)⟩
             have z96 : (σ90 55 22).toInt = (σ6 55 22).toInt := (congrArg Int32.toInt (show σ90 55 22 = (σ6 55 22) from (jkp 22 eσ90 (of_decide_eq_true rfl))))
             exact by
              refine jcallV (As := []) (rest := []) ⟨hx, hb, hml, hown, hts⟩ hK hP hA hS hZ (h_sums σ90 τ I95 (by omega) (by omega) (by omega)) cw_RX12_202 (jc_55 cI cL ad σ90 τ) rfl ⟨by dsimp only; omega, by dsimp only; omega⟩ rfl rfl rfl hl.1 rfl (Nat.le_of_ble_eq_true rfl) dX12_compared_48 ⟨Nat.zero_le _, Nat.zero_le _⟩ (fun r98 σ97 τ97 H locs h97 hP hS => ?_)
              obtain ⟨rfl, f99, f100, I101, w102, h97⟩ := h97
              obtain ⟨i104, i105, i106, i107, i108⟩ : ((-1) ≤ (σ97 55 18).toInt ∧ (σ97 55 18).toInt ≤ 80) ∧ (0 ≤ (σ97 55 19).toInt) ∧ ((σ97 55 19).toInt ≤ (σ97 55 20).toInt) ∧ ((σ97 55 20).toInt ≤ 80) ∧ ((-1) ≤ (σ97 55 21).toInt ∧ (σ97 55 21).toInt ≤ 80) := id I101
              try rw [show (σ90 55 19).toInt = (σ6 55 19).toInt + 1 from by omega] at w102
              try rw [show (σ90 55 20).toInt = (σ 55 20).toInt from by omega] at w102
              try rw [show (σ90 55 18).toInt = (σ 55 18).toInt from by omega] at w102
              try rw [show σ90 63 = σ 63 from ((jnp 63 eσ90 (of_decide_eq_true rfl)).trans (f8 63 (of_decide_eq_true rfl)))] at w102
              try rw [show σ90 64 = σ 64 from ((jnp 64 eσ90 (of_decide_eq_true rfl)).trans (f8 64 (of_decide_eq_true rfl)))] at w102
              try rw [show σ90 66 = σ 66 from by rw [jnp 66 eσ90 (of_decide_eq_true rfl), f8 66 (of_decide_eq_true rfl)]] at w102
              try rw [show (σ90 55 22).toInt = (σ 55 22).toInt from by omega] at w102
              have z109 : (σ97 55 18).toInt = (σ 55 18).toInt := (congrArg Int32.toInt (show σ97 55 18 = (σ 55 18) from ((f100 18 (of_decide_eq_true rfl)).trans ((jkp 18 eσ90 (of_decide_eq_true rfl)).trans (f9 18 (of_decide_eq_true rfl))))))
              have z110 : (σ97 55 20).toInt = (σ 55 20).toInt := (congrArg Int32.toInt (show σ97 55 20 = (σ 55 20) from ((f100 20 (of_decide_eq_true rfl)).trans ((jkp 20 eσ90 (of_decide_eq_true rfl)).trans (f9 20 (of_decide_eq_true rfl))))))
              obtain ⟨k111, k112, h97⟩ := h97
              refine lv_istore_n (lv' := [(3, .int r98), (2, .int r23), (1, .int r7), (0, .ref (ad 55))]) hx hb dX12_compared_51 rfl hl (of_decide_eq_true rfl) rfl (fun ls hl => ?_)
              refine lv_iload_n hx hb dX12_compared_52 rfl (lv_at hl 1 rfl) ?_
              refine lv_bipush (v := 60) hx hb dX12_compared_53 (of_decide_eq_true rfl) ?_
              exact by
               refine lv_icmp_ne (tgt := 66) hx hb dX12_compared_55 (of_decide_eq_true rfl) (fun c113 => ?_) (fun c => absurd (jeq c rfl jz_60) (by omega))
               have kc113 := jne c113 rfl jz_60
               refine lv_iload_n hx hb dX12_compared_66 rfl (lv_at hl 1 rfl) ?_
               refine lv_bipush (v := 61) hx hb dX12_compared_67 (of_decide_eq_true rfl) ?_
               refine lv_icmp_ne (tgt := 80) hx hb dX12_compared_69 (of_decide_eq_true rfl) (fun c114 => ?_) (fun c => absurd (jeq c rfl jz_61) (by omega))
               have kc114 := jne c114 rfl jz_61
               refine lv_iload_n hx hb dX12_compared_80 rfl (lv_at hl 2 rfl) ?_
               refine lv_iload_n hx hb dX12_compared_81 rfl (lv_at hl 0 rfl) ?_
               refine lv_icmp_le (tgt := 89) hx hb dX12_compared_82 (of_decide_eq_true rfl) (fun c115 => ?_) (fun c115 => ?_)
               · exact by
                  have kc115 := jle c115 rfl rfl
                  refine lv_iconst (v := 0) hx hb dX12_compared_89 (of_decide_eq_true rfl) ?_
                  exact by exact hret 0 σ97 τ _ _ _ _ rfl ⟨rfl, (fun i hi => ((f99 i hi).trans ((jnp i eσ90 (imp_165 i hi)).trans (f8 i hi)))), (fun i hi => ((f100 i hi).trans ((jkp i eσ90 (imp_171 i hi)).trans (f9 i hi)))), I101, (jRp.to (jRi.once (jRp.begin (md := 2) w11 (of_decide_eq_true rfl) (of_decide_eq_true rfl)) (by omega) (of_decide_eq_true rfl) (by rw [show jYs (jVw (σ 55 18).toInt (σ 63) (σ 64)) (σ 55 20).toInt (σ6 55 19).toInt = 62 from by omega]; decide) w102 (of_decide_eq_true rfl) (by omega) (by rw [show jYs (jVw (σ 55 18).toInt (σ 63) (σ 64)) (σ 55 20).toInt (σ6 55 19).toInt = 62 from by omega]; exact jBi_gt0 (by omega))) (by omega) (by omega)), (by omega), (by omega), trivial⟩ hP hS dX12_compared_90
               · have kc115 := jnle c115 rfl rfl
                 refine lv_iconst (v := 1) hx hb dX12_compared_85 (of_decide_eq_true rfl) ?_
                 refine lv_goto (tgt := 90) hx hb dX12_compared_86 (of_decide_eq_true rfl) ?_
                 exact by exact hret 1 σ97 τ _ _ _ _ rfl ⟨rfl, (fun i hi => ((f99 i hi).trans ((jnp i eσ90 (imp_165 i hi)).trans (f8 i hi)))), (fun i hi => ((f100 i hi).trans ((jkp i eσ90 (imp_171 i hi)).trans (f9 i hi)))), I101, (jRp.to (jRi.once (jRp.begin (md := 2) w11 (of_decide_eq_true rfl) (of_decide_eq_true rfl)) (by omega) (of_decide_eq_true rfl) (by rw [show jYs (jVw (σ 55 18).toInt (σ 63) (σ 64)) (σ 55 20).toInt (σ6 55 19).toInt = 62 from by omega]; decide) w102 (of_decide_eq_true rfl) (by omega) (by rw [show jYs (jVw (σ 55 18).toInt (σ 63) (σ 64)) (σ 55 20).toInt (σ6 55 19).toInt = 62 from by omega]; exact jBi_gt1 (by omega))) (by omega) (by omega)), (by omega), (by omega), trivial⟩ hP hS dX12_compared_90
          · have kc87 := jne c87 rfl jz_62
            refine lv_iload_n hx hb dX12_compared_35 rfl (lv_at hl 1 rfl) ?_
            exact by exact hret r7 σ6 τ _ _ _ _ rfl ⟨rfl, (fun i hi => (f8 i hi)), (fun i hi => (f9 i hi)), I10, (jRp.to (jRi.fin (jRp.begin (md := 2) w11 (of_decide_eq_true rfl) (of_decide_eq_true rfl)) (of_decide_eq_true rfl) (fun _ => by unfold jLv; first | ((repeat (first | rw [if_pos (by omega)] | rw [if_neg (by omega)])) <;> omega) | ((repeat' split) <;> omega))) (by omega) (by omega)), (by omega), (by omega), trivial⟩ hP hS dX12_compared_36
set_option maxHeartbeats 4000000 in
set_option maxRecDepth 100000 in
theorem c_X12_grammar_both_g (l : Launch) (D : va_G) (cI cL : ClassId) (ad zz : Nat → Nat) (hJ : jD ad) (n : Nat) (h_compared : ∀ (σ : Nat → Nat → Int32) (τ : Nat → Nat → Int64) (hI121 : jI121 σ) (hp0 : (σ 55 21).toInt = (-1)) (hp1 : 0 ≤ (σ 55 22).toInt ∧ (σ 55 22).toInt ≤ 6) (hp2 : -(σ 55 22).toInt + 6 ≤ (((n) : Nat) : Int)), jM l yX12_compared cX12_compared 4 (some .int) ({ frames := (13 + 8 * (n)), cells := 0, slots := 0, locals := (520 + 360 * (n)) }) D cI cL ad zz [.ref (ad 55)] σ τ (fun r σ' τ' => τ = τ' ∧ (∀ i : Nat, (i < 55 ∨ 55 < i) → σ' i = σ i) ∧ (∀ k : Nat, (k < 19 ∨ 19 < k) ∧ (k < 21 ∨ 21 < k) ∧ (k < 22 ∨ 22 < k) → σ' 55 k = σ 55 k) ∧ (jI121 σ') ∧ (jRp (jVw (σ 55 18).toInt (σ 63) (σ 64)) (σ 55 20).toInt (σ 66) 2 (σ 55 22).toInt (σ 55 19).toInt (σ' 55 19).toInt (σ' 55 21).toInt r) ∧ (((σ' 55 21).toInt = (-1) ∧ (σ' 55 22).toInt = (σ 55 22).toInt) ∨ (0 ≤ (σ' 55 21).toInt)) ∧ ((σ 55 19).toInt ≤ (σ' 55 19).toInt) ∧ True)) (σ : Nat → Nat → Int32) (τ : Nat → Nat → Int64) (hI121 : jI121 σ) (hp0 : (σ 55 21).toInt = (-1)) (hp1 : 0 ≤ (σ 55 22).toInt ∧ (σ 55 22).toInt ≤ 6) (hp2 : -(σ 55 22).toInt + 6 ≤ (((n) : Nat) : Int)) : jM l yX12_both cX12_both 3 (some .int) ({ frames := (14 + 8 * (n)), cells := 0, slots := 0, locals := (560 + 360 * (n)) }) D cI cL ad zz [.ref (ad 55)] σ τ (fun r σ' τ' => τ = τ' ∧ (∀ i : Nat, (i < 55 ∨ 55 < i) → σ' i = σ i) ∧ (∀ k : Nat, (k < 19 ∨ 19 < k) ∧ (k < 21 ∨ 21 < k) ∧ (k < 22 ∨ 22 < k) → σ' 55 k = σ 55 k) ∧ (jI121 σ') ∧ (jRp (jVw (σ 55 18).toInt (σ 63) (σ 64)) (σ 55 20).toInt (σ 66) 1 (σ 55 22).toInt (σ 55 19).toInt (σ' 55 19).toInt (σ' 55 21).toInt r) ∧ (((σ' 55 21).toInt = (-1) ∧ (σ' 55 22).toInt = (σ 55 22).toInt) ∨ (0 ≤ (σ' 55 21).toInt)) ∧ ((σ 55 19).toInt ≤ (σ' 55 19).toInt) ∧ True) := by
  refine jM.of hJ (by decide +kernel) (nt := .int) rfl (Nat.le_of_ble_eq_true rfl) ?_
  intro p e s m args below meth c Q ls hC hret hl hP
  obtain ⟨hx, hb, hr, hml, hown, hts, hK, -, hlocks, hZ⟩ := hC
  have hown : s.vm.findClass RX12 = some m.cls := hown
  have hS : va_S (jA ad) s.heap s.heap [] := va_S.rf
  have hA : ∀ q, jA ad q → jA ad q := fun _ h => h
  have hl : lv_has ls 3 [(0, .ref (ad 55))] := hl
  obtain ⟨i1, i2, i3, i4, i5⟩ : ((-1) ≤ (σ 55 18).toInt ∧ (σ 55 18).toInt ≤ 80) ∧ (0 ≤ (σ 55 19).toInt) ∧ ((σ 55 19).toInt ≤ (σ 55 20).toInt) ∧ ((σ 55 20).toInt ≤ 80) ∧ ((-1) ≤ (σ 55 21).toInt ∧ (σ 55 21).toInt ≤ 80) := id hI121
  refine lv_aload_n hx hb dX12_both_0 rfl (lv_at hl 0 rfl) ?_
  exact by
   refine jcallV (As := []) (rest := []) ⟨hx, hb, hml, hown, hts⟩ hK hP hA hS hZ (h_compared σ τ hI121 (by omega) (by omega) (by omega)) cw_RX12_199 (jc_55 cI cL ad σ τ) rfl ⟨by dsimp only; omega, by dsimp only; omega⟩ rfl rfl rfl hl.1 rfl (Nat.le_of_ble_eq_true rfl) dX12_both_1 ⟨Nat.zero_le _, Nat.zero_le _⟩ (fun r7 σ6 τ6 H locs h6 hP hS => ?_)
   obtain ⟨rfl, f8, f9, I10, w11, h6⟩ := h6
   obtain ⟨i13, i14, i15, i16, i17⟩ : ((-1) ≤ (σ6 55 18).toInt ∧ (σ6 55 18).toInt ≤ 80) ∧ (0 ≤ (σ6 55 19).toInt) ∧ ((σ6 55 19).toInt ≤ (σ6 55 20).toInt) ∧ ((σ6 55 20).toInt ≤ 80) ∧ ((-1) ≤ (σ6 55 21).toInt ∧ (σ6 55 21).toInt ≤ 80) := id I10
   have z18 : (σ6 55 18).toInt = (σ 55 18).toInt := (congrArg Int32.toInt (show σ6 55 18 = (σ 55 18) from (f9 18 (of_decide_eq_true rfl))))
   have z19 : (σ6 55 20).toInt = (σ 55 20).toInt := (congrArg Int32.toInt (show σ6 55 20 = (σ 55 20) from (f9 20 (of_decide_eq_true rfl))))
   obtain ⟨k20, k21, h6⟩ := h6
   refine lv_istore_n (lv' := [(1, .int r7), (0, .ref (ad 55))]) hx hb dX12_both_4 rfl hl (of_decide_eq_true rfl) rfl (fun ls hl => ?_)
   have lp22 : ∀ (n23 : Nat) (x24 : Int32) (σ26 : Nat → Nat → Int32) (H : Heap) (locs : List Loc) (ls : Array Slot), ((σ26 55 20).toInt - (σ26 55 19).toInt : Int) < n23 → (-1) ≤ (σ26 55 18).toInt ∧ (σ26 55 18).toInt ≤ 80 → 0 ≤ (σ26 55 19).toInt → (σ26 55 19).toInt ≤ (σ26 55 20).toInt → (σ26 55 20).toInt ≤ 80 → (-1) ≤ (σ26 55 21).toInt ∧ (σ26 55 21).toInt ≤ 80 → (((σ26 55 21).toInt = (-1) ∧ (σ26 55 22).toInt = (σ 55 22).toInt) ∨ (0 ≤ (σ26 55 21).toInt)) → (σ 55 19).toInt ≤ (σ26 55 19).toInt → (∀ i : Nat, (i < 55 ∨ 55 < i) → σ26 i = σ6 i) → (∀ k : Nat, (k < 19 ∨ 19 < k) ∧ (k < 21 ∨ 21 < k) ∧ (k < 22 ∨ 22 < k) → σ26 55 k = σ6 55 k) → (jRi (jVw (σ 55 18).toInt (σ 63) (σ 64)) (σ 55 20).toInt (σ 66) 1 (σ 55 22).toInt (σ 55 19).toInt (σ26 55 19).toInt (σ26 55 21).toInt x24) → jH D cI cL ad σ26 τ H → va_S (jA ad) s.heap H locs → lv_has ls 3 [(1, .int x24), (0, .ref (ad 55))] → W p l e ({ frames := (14 + 8 * (n)), cells := 0, slots := 0, locals := (560 + 360 * (n)) }) s m args below meth c H locs 0 0 Q (F0 m 5 ls []) := by
     intro n23
     induction n23 with
     | zero => intro x24 σ26 H locs ls h28 h29 h30 h31 h32 h33 h34 h35; have gx24 := jrg (rfl : x24.toInt = x24.toInt); exact absurd h28 (by omega)
     | succ n23 ihlp22 =>
       intro x24 σ26 H locs ls h28 h29 h30 h31 h32 h33 h34 h35 f36 f37 q38 hP hS hl
       exact by
        have gx24 := jrg (rfl : x24.toInt = x24.toInt)
        have z39 : (σ26 55 20).toInt = (σ 55 20).toInt := (congrArg Int32.toInt (show σ26 55 20 = (σ 55 20) from ((f37 20 (of_decide_eq_true rfl)).trans (f9 20 (of_decide_eq_true rfl)))))
        have z40 : (σ26 55 18).toInt = (σ 55 18).toInt := (congrArg Int32.toInt (show σ26 55 18 = (σ 55 18) from ((f37 18 (of_decide_eq_true rfl)).trans (f9 18 (of_decide_eq_true rfl)))))
        refine lv_aload_n hx hb dX12_both_5 rfl (lv_at hl 1 rfl) ?_
        refine lv_bipush (v := 38) hx hb dX12_both_6 (of_decide_eq_true rfl) ?_
        have I41 : jI121 σ26 := ⟨(by omega), (by omega), (by omega), (by omega), (by omega)⟩
        refine jcallV (As := [.int 38]) (rest := []) ⟨hx, hb, hml, hown, hts⟩ hK hP hA hS hZ (c_X12_takes l D cI cL ad zz hJ σ26 τ 38 (38) jz_38 I41 (by omega)) cw_RX12_196 (jc_55 cI cL ad σ26 τ) rfl ⟨by dsimp only; omega, by dsimp only; omega⟩ rfl rfl rfl hl.1 rfl (Nat.le_of_ble_eq_true rfl) dX12_both_8 ⟨Nat.zero_le _, Nat.zero_le _⟩ (fun r43 σ42 τ42 H locs h42 hP hS => ?_)
        obtain ⟨rfl, f44, f45, I46, h42⟩ := h42
        obtain ⟨i48, i49, i50, i51, i52⟩ : ((-1) ≤ (σ42 55 18).toInt ∧ (σ42 55 18).toInt ≤ 80) ∧ (0 ≤ (σ42 55 19).toInt) ∧ ((σ42 55 19).toInt ≤ (σ42 55 20).toInt) ∧ ((σ42 55 20).toInt ≤ 80) ∧ ((-1) ≤ (σ42 55 21).toInt ∧ (σ42 55 21).toInt ≤ 80) := id I46
        exact by
         have z53 : (σ42 55 18).toInt = (σ 55 18).toInt := (congrArg Int32.toInt (show σ42 55 18 = (σ 55 18) from ((f45 18 (of_decide_eq_true rfl)).trans ((f37 18 (of_decide_eq_true rfl)).trans (f9 18 (of_decide_eq_true rfl))))))
         have z54 : (σ42 55 20).toInt = (σ 55 20).toInt := (congrArg Int32.toInt (show σ42 55 20 = (σ 55 20) from ((f45 20 (of_decide_eq_true rfl)).trans ((f37 20 (of_decide_eq_true rfl)).trans (f9 20 (of_decide_eq_true rfl))))))
         have z55 : (σ42 55 21).toInt = (σ26 55 21).toInt := (congrArg Int32.toInt (show σ42 55 21 = (σ26 55 21) from (f45 21 (of_decide_eq_true rfl))))
         rcases h42 with h56 | h57
         · obtain ⟨q61, k58, k59, k60⟩ := h56
           have q61 := q61.symm
           subst q61
           try rw [show (σ26 55 20).toInt = (σ 55 20).toInt from by omega] at k60
           try rw [show (σ26 55 18).toInt = (σ 55 18).toInt from by omega] at k60
           try rw [show σ26 63 = σ 63 from ((f36 63 (of_decide_eq_true rfl)).trans (f8 63 (of_decide_eq_true rfl)))] at k60
           try rw [show σ26 64 = σ 64 from ((f36 64 (of_decide_eq_true rfl)).trans (f8 64 (of_decide_eq_true rfl)))] at k60
           refine lv_if_eq (tgt := 36) hx hb dX12_both_11 (of_decide_eq_true rfl) (fun c => absurd c (of_decide_eq_true rfl)) (fun _ => ?_)
           refine lv_aload_n hx hb dX12_both_14 rfl (lv_at hl 1 rfl) ?_
           have z62 : (σ42 55 22).toInt = (σ26 55 22).toInt := (congrArg Int32.toInt (show σ42 55 22 = (σ26 55 22) from (f45 22 (of_decide_eq_true rfl))))
           exact by
            refine jcallV (As := []) (rest := []) ⟨hx, hb, hml, hown, hts⟩ hK hP hA hS hZ (h_compared σ42 τ I46 (by omega) (by omega) (by omega)) cw_RX12_199 (jc_55 cI cL ad σ42 τ) rfl ⟨by dsimp only; omega, by dsimp only; omega⟩ rfl rfl rfl hl.1 rfl (Nat.le_of_ble_eq_true rfl) dX12_both_15 ⟨Nat.zero_le _, Nat.zero_le _⟩ (fun r64 σ63 τ63 H locs h63 hP hS => ?_)
            obtain ⟨rfl, f65, f66, I67, w68, h63⟩ := h63
            obtain ⟨i70, i71, i72, i73, i74⟩ : ((-1) ≤ (σ63 55 18).toInt ∧ (σ63 55 18).toInt ≤ 80) ∧ (0 ≤ (σ63 55 19).toInt) ∧ ((σ63 55 19).toInt ≤ (σ63 55 20).toInt) ∧ ((σ63 55 20).toInt ≤ 80) ∧ ((-1) ≤ (σ63 55 21).toInt ∧ (σ63 55 21).toInt ≤ 80) := id I67
            try rw [show (σ42 55 20).toInt = (σ 55 20).toInt from by omega] at w68
            try rw [show (σ42 55 18).toInt = (σ 55 18).toInt from by omega] at w68
            try rw [show σ42 63 = σ 63 from ((f44 63 (of_decide_eq_true rfl)).trans ((f36 63 (of_decide_eq_true rfl)).trans (f8 63 (of_decide_eq_true rfl))))] at w68
            try rw [show σ42 64 = σ 64 from ((f44 64 (of_decide_eq_true rfl)).trans ((f36 64 (of_decide_eq_true rfl)).trans (f8 64 (of_decide_eq_true rfl))))] at w68
            try rw [show σ42 66 = σ 66 from by rw [f44 66 (of_decide_eq_true rfl), f36 66 (of_decide_eq_true rfl), f8 66 (of_decide_eq_true rfl)]] at w68
            try rw [show (σ42 55 22).toInt = (σ 55 22).toInt from by omega] at w68
            have z75 : (σ63 55 18).toInt = (σ 55 18).toInt := (congrArg Int32.toInt (show σ63 55 18 = (σ 55 18) from ((f66 18 (of_decide_eq_true rfl)).trans ((f45 18 (of_decide_eq_true rfl)).trans ((f37 18 (of_decide_eq_true rfl)).trans (f9 18 (of_decide_eq_true rfl)))))))
            have z76 : (σ63 55 20).toInt = (σ 55 20).toInt := (congrArg Int32.toInt (show σ63 55 20 = (σ 55 20) from ((f66 20 (of_decide_eq_true rfl)).trans ((f45 20 (of_decide_eq_true rfl)).trans ((f37 20 (of_decide_eq_true rfl)).trans (f9 20 (of_decide_eq_true rfl)))))))
            obtain ⟨k77, k78, h63⟩ := h63
            refine lv_istore_n (lv' := [(2, .int r64), (1, .int x24), (0, .ref (ad 55))]) hx hb dX12_both_18 rfl hl (of_decide_eq_true rfl) rfl (fun ls hl => ?_)
            refine lv_iload_n hx hb dX12_both_19 rfl (lv_at hl 1 rfl) ?_
            refine lv_if_eq (tgt := 31) hx hb dX12_both_20 (of_decide_eq_true rfl) (fun c79 => ?_) (fun c79 => ?_)
            · have kc79 := jeq c79 rfl jz_0
              refine lv_iconst (v := 0) hx hb dX12_both_31 (of_decide_eq_true rfl) ?_
              refine lv_istore_n (lv' := [(1, .int 0), (2, .int r64), (0, .ref (ad 55))]) hx hb dX12_both_32 rfl hl (of_decide_eq_true rfl) rfl (fun ls hl => ?_)
              refine lv_goto (tgt := 5) hx hb dX12_both_33 (of_decide_eq_true rfl) ?_
              exact by exact ihlp22 0 σ63 _ _ ls (by have h90 := jz_0; omega) (by have h90 := jz_0; omega) (by have h90 := jz_0; omega) (by have h90 := jz_0; omega) (by have h90 := jz_0; omega) (by have h90 := jz_0; omega) (by have h90 := jz_0; omega) (by have h90 := jz_0; omega) (fun i hi => ((f65 i hi).trans ((f44 i hi).trans (f36 i hi)))) (fun i hi => ((f66 i hi).trans ((f45 i (imp_173 i hi)).trans (f37 i hi))))  (jRi.to (jRi.step (a := (σ26 55 19).toInt) q38 (by omega) (of_decide_eq_true rfl) (of_decide_eq_true rfl) (of_decide_eq_true rfl) (by rw [show jYs (jVw (σ 55 18).toInt (σ 63) (σ 64)) (σ 55 20).toInt (σ26 55 19).toInt = 38 from by omega]; decide) w68 (of_decide_eq_true rfl) (by omega) (by rw [show jYs (jVw (σ 55 18).toInt (σ 63) (σ 64)) (σ 55 20).toInt (σ26 55 19).toInt = 38 from by omega]; exact jBi_an0 (by omega))) (by omega) (by omega)) hP hS (lv_sub hl [0, 2] rfl)
            · have kc79 := jne c79 rfl jz_0
              refine lv_iload_n hx hb dX12_both_23 rfl (lv_at hl 0 rfl) ?_
              refine lv_if_eq (tgt := 31) hx hb dX12_both_24 (of_decide_eq_true rfl) (fun c80 => ?_) (fun c80 => ?_)
              · have kc80 := jeq c80 rfl jz_0
                refine lv_iconst (v := 0) hx hb dX12_both_31 (of_decide_eq_true rfl) ?_
                refine lv_istore_n (lv' := [(1, .int 0), (2, .int r64), (0, .ref (ad 55))]) hx hb dX12_both_32 rfl hl (of_decide_eq_true rfl) rfl (fun ls hl => ?_)
                refine lv_goto (tgt := 5) hx hb dX12_both_33 (of_decide_eq_true rfl) ?_
                exact by exact ihlp22 0 σ63 _ _ ls (by have h90 := jz_0; omega) (by have h90 := jz_0; omega) (by have h90 := jz_0; omega) (by have h90 := jz_0; omega) (by have h90 := jz_0; omega) (by have h90 := jz_0; omega) (by have h90 := jz_0; omega) (by have h90 := jz_0; omega) (fun i hi => ((f65 i hi).trans ((f44 i hi).trans (f36 i hi)))) (fun i hi => ((f66 i hi).trans ((f45 i (imp_173 i hi)).trans (f37 i hi))))  (jRi.to (jRi.step (a := (σ26 55 19).toInt) q38 (by omega) (of_decide_eq_true rfl) (of_decide_eq_true rfl) (of_decide_eq_true rfl) (by rw [show jYs (jVw (σ 55 18).toInt (σ 63) (σ 64)) (σ 55 20).toInt (σ26 55 19).toInt = 38 from by omega]; decide) w68 (of_decide_eq_true rfl) (by omega) (by rw [show jYs (jVw (σ 55 18).toInt (σ 63) (σ 64)) (σ 55 20).toInt (σ26 55 19).toInt = 38 from by omega]; exact jBi_an0 (by omega))) (by omega) (by omega)) hP hS (lv_sub hl [0, 2] rfl)
              · have kc80 := jne c80 rfl jz_0
                refine lv_iconst (v := 1) hx hb dX12_both_27 (of_decide_eq_true rfl) ?_
                refine lv_goto (tgt := 32) hx hb dX12_both_28 (of_decide_eq_true rfl) ?_
                refine lv_istore_n (lv' := [(1, .int 1), (2, .int r64), (0, .ref (ad 55))]) hx hb dX12_both_32 rfl hl (of_decide_eq_true rfl) rfl (fun ls hl => ?_)
                refine lv_goto (tgt := 5) hx hb dX12_both_33 (of_decide_eq_true rfl) ?_
                exact by exact ihlp22 1 σ63 _ _ ls (by have h90 := jz_1; omega) (by have h90 := jz_1; omega) (by have h90 := jz_1; omega) (by have h90 := jz_1; omega) (by have h90 := jz_1; omega) (by have h90 := jz_1; omega) (by have h90 := jz_1; omega) (by have h90 := jz_1; omega) (fun i hi => ((f65 i hi).trans ((f44 i hi).trans (f36 i hi)))) (fun i hi => ((f66 i hi).trans ((f45 i (imp_173 i hi)).trans (f37 i hi))))  (jRi.to (jRi.step (a := (σ26 55 19).toInt) q38 (by omega) (of_decide_eq_true rfl) (of_decide_eq_true rfl) (of_decide_eq_true rfl) (by rw [show jYs (jVw (σ 55 18).toInt (σ 63) (σ 64)) (σ 55 20).toInt (σ26 55 19).toInt = 38 from by omega]; decide) w68 (of_decide_eq_true rfl) (by omega) (by rw [show jYs (jVw (σ 55 18).toInt (σ 63) (σ 64)) (σ 55 20).toInt (σ26 55 19).toInt = 38 from by omega]; exact jBi_an1 (by omega) (by omega))) (by omega) (by omega)) hP hS (lv_sub hl [0, 2] rfl)
         · obtain ⟨q83, k81, k82⟩ := h57
           have q83 := q83.symm
           subst q83
           try rw [show (σ26 55 20).toInt = (σ 55 20).toInt from by omega] at k82
           try rw [show (σ26 55 18).toInt = (σ 55 18).toInt from by omega] at k82
           try rw [show σ26 63 = σ 63 from ((f36 63 (of_decide_eq_true rfl)).trans (f8 63 (of_decide_eq_true rfl)))] at k82
           try rw [show σ26 64 = σ 64 from ((f36 64 (of_decide_eq_true rfl)).trans (f8 64 (of_decide_eq_true rfl)))] at k82
           refine lv_if_eq (tgt := 36) hx hb dX12_both_11 (of_decide_eq_true rfl) (fun _ => ?_) (fun c => absurd (of_decide_eq_true rfl) c)
           refine lv_iload_n hx hb dX12_both_36 rfl (lv_at hl 0 rfl) ?_
           have z84 : (σ42 55 22).toInt = (σ26 55 22).toInt := (congrArg Int32.toInt (show σ42 55 22 = (σ26 55 22) from (f45 22 (of_decide_eq_true rfl))))
           exact by exact hret x24 σ42 τ _ _ _ _ rfl ⟨rfl, (fun i hi => ((f44 i hi).trans ((f36 i hi).trans (f8 i hi)))), (fun i hi => ((f45 i (imp_173 i hi)).trans ((f37 i hi).trans (f9 i hi)))), I46, (jRp.to (jRi.fin q38 (of_decide_eq_true rfl) (fun h9 => by unfold jLv; first | ((repeat (first | rw [if_pos (by omega)] | rw [if_neg (by omega)])) <;> omega) | ((repeat' split) <;> omega))) (by omega) (by omega)), (by omega), (by omega), trivial⟩ hP hS dX12_both_37
   exact by exact lp22 1000000 r7 σ6 _ _ ls (by omega) (by omega) (by omega) (by omega) (by omega) (by omega) (by omega) (by omega) (fun _ _ => rfl) (fun _ _ => rfl)  (jRp.begin w11 (of_decide_eq_true rfl) (of_decide_eq_true rfl)) hP hS hl
set_option maxHeartbeats 4000000 in
set_option maxRecDepth 100000 in
theorem c_X12_grammar_either_g (l : Launch) (D : va_G) (cI cL : ClassId) (ad zz : Nat → Nat) (hJ : jD ad) (n : Nat) (h_both : ∀ (σ : Nat → Nat → Int32) (τ : Nat → Nat → Int64) (hI121 : jI121 σ) (hp0 : (σ 55 21).toInt = (-1)) (hp1 : 0 ≤ (σ 55 22).toInt ∧ (σ 55 22).toInt ≤ 6) (hp2 : -(σ 55 22).toInt + 6 ≤ (((n) : Nat) : Int)), jM l yX12_both cX12_both 3 (some .int) ({ frames := (14 + 8 * (n)), cells := 0, slots := 0, locals := (560 + 360 * (n)) }) D cI cL ad zz [.ref (ad 55)] σ τ (fun r σ' τ' => τ = τ' ∧ (∀ i : Nat, (i < 55 ∨ 55 < i) → σ' i = σ i) ∧ (∀ k : Nat, (k < 19 ∨ 19 < k) ∧ (k < 21 ∨ 21 < k) ∧ (k < 22 ∨ 22 < k) → σ' 55 k = σ 55 k) ∧ (jI121 σ') ∧ (jRp (jVw (σ 55 18).toInt (σ 63) (σ 64)) (σ 55 20).toInt (σ 66) 1 (σ 55 22).toInt (σ 55 19).toInt (σ' 55 19).toInt (σ' 55 21).toInt r) ∧ (((σ' 55 21).toInt = (-1) ∧ (σ' 55 22).toInt = (σ 55 22).toInt) ∨ (0 ≤ (σ' 55 21).toInt)) ∧ ((σ 55 19).toInt ≤ (σ' 55 19).toInt) ∧ True)) (σ : Nat → Nat → Int32) (τ : Nat → Nat → Int64) (hI121 : jI121 σ) (hp0 : (σ 55 21).toInt = (-1)) (hp1 : 0 ≤ (σ 55 22).toInt ∧ (σ 55 22).toInt ≤ 6) (hp2 : -(σ 55 22).toInt + 6 ≤ (((n) : Nat) : Int)) : jM l yX12_either cX12_either 3 (some .int) ({ frames := (15 + 8 * (n)), cells := 0, slots := 0, locals := (600 + 360 * (n)) }) D cI cL ad zz [.ref (ad 55)] σ τ (fun r σ' τ' => τ = τ' ∧ (∀ i : Nat, (i < 55 ∨ 55 < i) → σ' i = σ i) ∧ (∀ k : Nat, (k < 19 ∨ 19 < k) ∧ (k < 21 ∨ 21 < k) ∧ (k < 22 ∨ 22 < k) → σ' 55 k = σ 55 k) ∧ (jI121 σ') ∧ (jRp (jVw (σ 55 18).toInt (σ 63) (σ 64)) (σ 55 20).toInt (σ 66) 0 (σ 55 22).toInt (σ 55 19).toInt (σ' 55 19).toInt (σ' 55 21).toInt r) ∧ (((σ' 55 21).toInt = (-1) ∧ (σ' 55 22).toInt = (σ 55 22).toInt) ∨ (0 ≤ (σ' 55 21).toInt)) ∧ ((σ 55 19).toInt ≤ (σ' 55 19).toInt) ∧ True) := by
  refine jM.of hJ (by decide +kernel) (nt := .int) rfl (Nat.le_of_ble_eq_true rfl) ?_
  intro p e s m args below meth c Q ls hC hret hl hP
  obtain ⟨hx, hb, hr, hml, hown, hts, hK, -, hlocks, hZ⟩ := hC
  have hown : s.vm.findClass RX12 = some m.cls := hown
  have hS : va_S (jA ad) s.heap s.heap [] := va_S.rf
  have hA : ∀ q, jA ad q → jA ad q := fun _ h => h
  have hl : lv_has ls 3 [(0, .ref (ad 55))] := hl
  obtain ⟨i1, i2, i3, i4, i5⟩ : ((-1) ≤ (σ 55 18).toInt ∧ (σ 55 18).toInt ≤ 80) ∧ (0 ≤ (σ 55 19).toInt) ∧ ((σ 55 19).toInt ≤ (σ 55 20).toInt) ∧ ((σ 55 20).toInt ≤ 80) ∧ ((-1) ≤ (σ 55 21).toInt ∧ (σ 55 21).toInt ≤ 80) := id hI121
  refine lv_aload_n hx hb dX12_either_0 rfl (lv_at hl 0 rfl) ?_
  exact by
   refine jcallV (As := []) (rest := []) ⟨hx, hb, hml, hown, hts⟩ hK hP hA hS hZ (h_both σ τ hI121 (by omega) (by omega) (by omega)) cw_RX12_193 (jc_55 cI cL ad σ τ) rfl ⟨by dsimp only; omega, by dsimp only; omega⟩ rfl rfl rfl hl.1 rfl (Nat.le_of_ble_eq_true rfl) dX12_either_1 ⟨Nat.zero_le _, Nat.zero_le _⟩ (fun r7 σ6 τ6 H locs h6 hP hS => ?_)
   obtain ⟨rfl, f8, f9, I10, w11, h6⟩ := h6
   obtain ⟨i13, i14, i15, i16, i17⟩ : ((-1) ≤ (σ6 55 18).toInt ∧ (σ6 55 18).toInt ≤ 80) ∧ (0 ≤ (σ6 55 19).toInt) ∧ ((σ6 55 19).toInt ≤ (σ6 55 20).toInt) ∧ ((σ6 55 20).toInt ≤ 80) ∧ ((-1) ≤ (σ6 55 21).toInt ∧ (σ6 55 21).toInt ≤ 80) := id I10
   have z18 : (σ6 55 18).toInt = (σ 55 18).toInt := (congrArg Int32.toInt (show σ6 55 18 = (σ 55 18) from (f9 18 (of_decide_eq_true rfl))))
   have z19 : (σ6 55 20).toInt = (σ 55 20).toInt := (congrArg Int32.toInt (show σ6 55 20 = (σ 55 20) from (f9 20 (of_decide_eq_true rfl))))
   obtain ⟨k20, k21, h6⟩ := h6
   refine lv_istore_n (lv' := [(1, .int r7), (0, .ref (ad 55))]) hx hb dX12_either_4 rfl hl (of_decide_eq_true rfl) rfl (fun ls hl => ?_)
   have lp22 : ∀ (n23 : Nat) (x24 : Int32) (σ26 : Nat → Nat → Int32) (H : Heap) (locs : List Loc) (ls : Array Slot), ((σ26 55 20).toInt - (σ26 55 19).toInt : Int) < n23 → (-1) ≤ (σ26 55 18).toInt ∧ (σ26 55 18).toInt ≤ 80 → 0 ≤ (σ26 55 19).toInt → (σ26 55 19).toInt ≤ (σ26 55 20).toInt → (σ26 55 20).toInt ≤ 80 → (-1) ≤ (σ26 55 21).toInt ∧ (σ26 55 21).toInt ≤ 80 → (((σ26 55 21).toInt = (-1) ∧ (σ26 55 22).toInt = (σ 55 22).toInt) ∨ (0 ≤ (σ26 55 21).toInt)) → (σ 55 19).toInt ≤ (σ26 55 19).toInt → (∀ i : Nat, (i < 55 ∨ 55 < i) → σ26 i = σ6 i) → (∀ k : Nat, (k < 19 ∨ 19 < k) ∧ (k < 21 ∨ 21 < k) ∧ (k < 22 ∨ 22 < k) → σ26 55 k = σ6 55 k) → (jRi (jVw (σ 55 18).toInt (σ 63) (σ 64)) (σ 55 20).toInt (σ 66) 0 (σ 55 22).toInt (σ 55 19).toInt (σ26 55 19).toInt (σ26 55 21).toInt x24) → jH D cI cL ad σ26 τ H → va_S (jA ad) s.heap H locs → lv_has ls 3 [(1, .int x24), (0, .ref (ad 55))] → W p l e ({ frames := (15 + 8 * (n)), cells := 0, slots := 0, locals := (600 + 360 * (n)) }) s m args below meth c H locs 0 0 Q (F0 m 5 ls []) := by
     intro n23
     induction n23 with
     | zero => intro x24 σ26 H locs ls h28 h29 h30 h31 h32 h33 h34 h35; have gx24 := jrg (rfl : x24.toInt = x24.toInt); exact absurd h28 (by omega)
     | succ n23 ihlp22 =>
       intro x24 σ26 H locs ls h28 h29 h30 h31 h32 h33 h34 h35 f36 f37 q38 hP hS hl
       exact by
        have gx24 := jrg (rfl : x24.toInt = x24.toInt)
        have z39 : (σ26 55 20).toInt = (σ 55 20).toInt := (congrArg Int32.toInt (show σ26 55 20 = (σ 55 20) from ((f37 20 (of_decide_eq_true rfl)).trans (f9 20 (of_decide_eq_true rfl)))))
        have z40 : (σ26 55 18).toInt = (σ 55 18).toInt := (congrArg Int32.toInt (show σ26 55 18 = (σ 55 18) from ((f37 18 (of_decide_eq_true rfl)).trans (f9 18 (of_decide_eq_true rfl)))))
        refine lv_aload_n hx hb dX12_either_5 rfl (lv_at hl 1 rfl) ?_
        refine lv_bipush (v := 124) hx hb dX12_either_6 (of_decide_eq_true rfl) ?_
        have I41 : jI121 σ26 := ⟨(by omega), (by omega), (by omega), (by omega), (by omega)⟩
        refine jcallV (As := [.int 124]) (rest := []) ⟨hx, hb, hml, hown, hts⟩ hK hP hA hS hZ (c_X12_takes l D cI cL ad zz hJ σ26 τ 124 (124) jz_124 I41 (by omega)) cw_RX12_196 (jc_55 cI cL ad σ26 τ) rfl ⟨by dsimp only; omega, by dsimp only; omega⟩ rfl rfl rfl hl.1 rfl (Nat.le_of_ble_eq_true rfl) dX12_either_8 ⟨Nat.zero_le _, Nat.zero_le _⟩ (fun r43 σ42 τ42 H locs h42 hP hS => ?_)
        obtain ⟨rfl, f44, f45, I46, h42⟩ := h42
        obtain ⟨i48, i49, i50, i51, i52⟩ : ((-1) ≤ (σ42 55 18).toInt ∧ (σ42 55 18).toInt ≤ 80) ∧ (0 ≤ (σ42 55 19).toInt) ∧ ((σ42 55 19).toInt ≤ (σ42 55 20).toInt) ∧ ((σ42 55 20).toInt ≤ 80) ∧ ((-1) ≤ (σ42 55 21).toInt ∧ (σ42 55 21).toInt ≤ 80) := id I46
        exact by
         have z53 : (σ42 55 18).toInt = (σ 55 18).toInt := (congrArg Int32.toInt (show σ42 55 18 = (σ 55 18) from ((f45 18 (of_decide_eq_true rfl)).trans ((f37 18 (of_decide_eq_true rfl)).trans (f9 18 (of_decide_eq_true rfl))))))
         have z54 : (σ42 55 20).toInt = (σ 55 20).toInt := (congrArg Int32.toInt (show σ42 55 20 = (σ 55 20) from ((f45 20 (of_decide_eq_true rfl)).trans ((f37 20 (of_decide_eq_true rfl)).trans (f9 20 (of_decide_eq_true rfl))))))
         have z55 : (σ42 55 21).toInt = (σ26 55 21).toInt := (congrArg Int32.toInt (show σ42 55 21 = (σ26 55 21) from (f45 21 (of_decide_eq_true rfl))))
         rcases h42 with h56 | h57
         · obtain ⟨q61, k58, k59, k60⟩ := h56
           have q61 := q61.symm
           subst q61
           try rw [show (σ26 55 20).toInt = (σ 55 20).toInt from by omega] at k60
           try rw [show (σ26 55 18).toInt = (σ 55 18).toInt from by omega] at k60
           try rw [show σ26 63 = σ 63 from ((f36 63 (of_decide_eq_true rfl)).trans (f8 63 (of_decide_eq_true rfl)))] at k60
           try rw [show σ26 64 = σ 64 from ((f36 64 (of_decide_eq_true rfl)).trans (f8 64 (of_decide_eq_true rfl)))] at k60
           refine lv_if_eq (tgt := 36) hx hb dX12_either_11 (of_decide_eq_true rfl) (fun c => absurd c (of_decide_eq_true rfl)) (fun _ => ?_)
           refine lv_aload_n hx hb dX12_either_14 rfl (lv_at hl 1 rfl) ?_
           have z62 : (σ42 55 22).toInt = (σ26 55 22).toInt := (congrArg Int32.toInt (show σ42 55 22 = (σ26 55 22) from (f45 22 (of_decide_eq_true rfl))))
           exact by
            refine jcallV (As := []) (rest := []) ⟨hx, hb, hml, hown, hts⟩ hK hP hA hS hZ (h_both σ42 τ I46 (by omega) (by omega) (by omega)) cw_RX12_193 (jc_55 cI cL ad σ42 τ) rfl ⟨by dsimp only; omega, by dsimp only; omega⟩ rfl rfl rfl hl.1 rfl (Nat.le_of_ble_eq_true rfl) dX12_either_15 ⟨Nat.zero_le _, Nat.zero_le _⟩ (fun r64 σ63 τ63 H locs h63 hP hS => ?_)
            obtain ⟨rfl, f65, f66, I67, w68, h63⟩ := h63
            obtain ⟨i70, i71, i72, i73, i74⟩ : ((-1) ≤ (σ63 55 18).toInt ∧ (σ63 55 18).toInt ≤ 80) ∧ (0 ≤ (σ63 55 19).toInt) ∧ ((σ63 55 19).toInt ≤ (σ63 55 20).toInt) ∧ ((σ63 55 20).toInt ≤ 80) ∧ ((-1) ≤ (σ63 55 21).toInt ∧ (σ63 55 21).toInt ≤ 80) := id I67
            try rw [show (σ42 55 20).toInt = (σ 55 20).toInt from by omega] at w68
            try rw [show (σ42 55 18).toInt = (σ 55 18).toInt from by omega] at w68
            try rw [show σ42 63 = σ 63 from ((f44 63 (of_decide_eq_true rfl)).trans ((f36 63 (of_decide_eq_true rfl)).trans (f8 63 (of_decide_eq_true rfl))))] at w68
            try rw [show σ42 64 = σ 64 from ((f44 64 (of_decide_eq_true rfl)).trans ((f36 64 (of_decide_eq_true rfl)).trans (f8 64 (of_decide_eq_true rfl))))] at w68
            try rw [show σ42 66 = σ 66 from by rw [f44 66 (of_decide_eq_true rfl), f36 66 (of_decide_eq_true rfl), f8 66 (of_decide_eq_true rfl)]] at w68
            try rw [show (σ42 55 22).toInt = (σ 55 22).toInt from by omega] at w68
            have z75 : (σ63 55 18).toInt = (σ 55 18).toInt := (congrArg Int32.toInt (show σ63 55 18 = (σ 55 18) from ((f66 18 (of_decide_eq_true rfl)).trans ((f45 18 (of_decide_eq_true rfl)).trans ((f37 18 (of_decide_eq_true rfl)).trans (f9 18 (of_decide_eq_true rfl)))))))
            have z76 : (σ63 55 20).toInt = (σ 55 20).toInt := (congrArg Int32.toInt (show σ63 55 20 = (σ 55 20) from ((f66 20 (of_decide_eq_true rfl)).trans ((f45 20 (of_decide_eq_true rfl)).trans ((f37 20 (of_decide_eq_true rfl)).trans (f9 20 (of_decide_eq_true rfl)))))))
            obtain ⟨k77, k78, h63⟩ := h63
            refine lv_istore_n (lv' := [(2, .int r64), (1, .int x24), (0, .ref (ad 55))]) hx hb dX12_either_18 rfl hl (of_decide_eq_true rfl) rfl (fun ls hl => ?_)
            refine lv_iload_n hx hb dX12_either_19 rfl (lv_at hl 1 rfl) ?_
            refine lv_if_ne (tgt := 27) hx hb dX12_either_20 (of_decide_eq_true rfl) (fun c79 => ?_) (fun c79 => ?_)
            · have kc79 := jne c79 rfl jz_0
              refine lv_iconst (v := 1) hx hb dX12_either_27 (of_decide_eq_true rfl) ?_
              refine lv_goto (tgt := 32) hx hb dX12_either_28 (of_decide_eq_true rfl) ?_
              refine lv_istore_n (lv' := [(1, .int 1), (2, .int r64), (0, .ref (ad 55))]) hx hb dX12_either_32 rfl hl (of_decide_eq_true rfl) rfl (fun ls hl => ?_)
              refine lv_goto (tgt := 5) hx hb dX12_either_33 (of_decide_eq_true rfl) ?_
              exact by exact ihlp22 1 σ63 _ _ ls (by have h90 := jz_1; omega) (by have h90 := jz_1; omega) (by have h90 := jz_1; omega) (by have h90 := jz_1; omega) (by have h90 := jz_1; omega) (by have h90 := jz_1; omega) (by have h90 := jz_1; omega) (by have h90 := jz_1; omega) (fun i hi => ((f65 i hi).trans ((f44 i hi).trans (f36 i hi)))) (fun i hi => ((f66 i hi).trans ((f45 i (imp_173 i hi)).trans (f37 i hi))))  (jRi.to (jRi.step (a := (σ26 55 19).toInt) q38 (by omega) (of_decide_eq_true rfl) (of_decide_eq_true rfl) (of_decide_eq_true rfl) (by rw [show jYs (jVw (σ 55 18).toInt (σ 63) (σ 64)) (σ 55 20).toInt (σ26 55 19).toInt = 124 from by omega]; decide) w68 (of_decide_eq_true rfl) (by omega) (by rw [show jYs (jVw (σ 55 18).toInt (σ 63) (σ 64)) (σ 55 20).toInt (σ26 55 19).toInt = 124 from by omega]; exact jBi_or1 (by omega))) (by omega) (by omega)) hP hS (lv_sub hl [0, 2] rfl)
            · have kc79 := jeq c79 rfl jz_0
              refine lv_iload_n hx hb dX12_either_23 rfl (lv_at hl 0 rfl) ?_
              refine lv_if_eq (tgt := 31) hx hb dX12_either_24 (of_decide_eq_true rfl) (fun c80 => ?_) (fun c80 => ?_)
              · have kc80 := jeq c80 rfl jz_0
                refine lv_iconst (v := 0) hx hb dX12_either_31 (of_decide_eq_true rfl) ?_
                refine lv_istore_n (lv' := [(1, .int 0), (2, .int r64), (0, .ref (ad 55))]) hx hb dX12_either_32 rfl hl (of_decide_eq_true rfl) rfl (fun ls hl => ?_)
                refine lv_goto (tgt := 5) hx hb dX12_either_33 (of_decide_eq_true rfl) ?_
                exact by exact ihlp22 0 σ63 _ _ ls (by have h90 := jz_0; omega) (by have h90 := jz_0; omega) (by have h90 := jz_0; omega) (by have h90 := jz_0; omega) (by have h90 := jz_0; omega) (by have h90 := jz_0; omega) (by have h90 := jz_0; omega) (by have h90 := jz_0; omega) (fun i hi => ((f65 i hi).trans ((f44 i hi).trans (f36 i hi)))) (fun i hi => ((f66 i hi).trans ((f45 i (imp_173 i hi)).trans (f37 i hi))))  (jRi.to (jRi.step (a := (σ26 55 19).toInt) q38 (by omega) (of_decide_eq_true rfl) (of_decide_eq_true rfl) (of_decide_eq_true rfl) (by rw [show jYs (jVw (σ 55 18).toInt (σ 63) (σ 64)) (σ 55 20).toInt (σ26 55 19).toInt = 124 from by omega]; decide) w68 (of_decide_eq_true rfl) (by omega) (by rw [show jYs (jVw (σ 55 18).toInt (σ 63) (σ 64)) (σ 55 20).toInt (σ26 55 19).toInt = 124 from by omega]; exact jBi_or0 (by omega) (by omega))) (by omega) (by omega)) hP hS (lv_sub hl [0, 2] rfl)
              · have kc80 := jne c80 rfl jz_0
                refine lv_iconst (v := 1) hx hb dX12_either_27 (of_decide_eq_true rfl) ?_
                refine lv_goto (tgt := 32) hx hb dX12_either_28 (of_decide_eq_true rfl) ?_
                refine lv_istore_n (lv' := [(1, .int 1), (2, .int r64), (0, .ref (ad 55))]) hx hb dX12_either_32 rfl hl (of_decide_eq_true rfl) rfl (fun ls hl => ?_)
                refine lv_goto (tgt := 5) hx hb dX12_either_33 (of_decide_eq_true rfl) ?_
                exact by exact ihlp22 1 σ63 _ _ ls (by have h90 := jz_1; omega) (by have h90 := jz_1; omega) (by have h90 := jz_1; omega) (by have h90 := jz_1; omega) (by have h90 := jz_1; omega) (by have h90 := jz_1; omega) (by have h90 := jz_1; omega) (by have h90 := jz_1; omega) (fun i hi => ((f65 i hi).trans ((f44 i hi).trans (f36 i hi)))) (fun i hi => ((f66 i hi).trans ((f45 i (imp_173 i hi)).trans (f37 i hi))))  (jRi.to (jRi.step (a := (σ26 55 19).toInt) q38 (by omega) (of_decide_eq_true rfl) (of_decide_eq_true rfl) (of_decide_eq_true rfl) (by rw [show jYs (jVw (σ 55 18).toInt (σ 63) (σ 64)) (σ 55 20).toInt (σ26 55 19).toInt = 124 from by omega]; decide) w68 (of_decide_eq_true rfl) (by omega) (by rw [show jYs (jVw (σ 55 18).toInt (σ 63) (σ 64)) (σ 55 20).toInt (σ26 55 19).toInt = 124 from by omega]; exact jBi_or1 (by omega))) (by omega) (by omega)) hP hS (lv_sub hl [0, 2] rfl)
         · obtain ⟨q83, k81, k82⟩ := h57
           have q83 := q83.symm
           subst q83
           try rw [show (σ26 55 20).toInt = (σ 55 20).toInt from by omega] at k82
           try rw [show (σ26 55 18).toInt = (σ 55 18).toInt from by omega] at k82
           try rw [show σ26 63 = σ 63 from ((f36 63 (of_decide_eq_true rfl)).trans (f8 63 (of_decide_eq_true rfl)))] at k82
           try rw [show σ26 64 = σ 64 from ((f36 64 (of_decide_eq_true rfl)).trans (f8 64 (of_decide_eq_true rfl)))] at k82
           refine lv_if_eq (tgt := 36) hx hb dX12_either_11 (of_decide_eq_true rfl) (fun _ => ?_) (fun c => absurd (of_decide_eq_true rfl) c)
           refine lv_iload_n hx hb dX12_either_36 rfl (lv_at hl 0 rfl) ?_
           have z84 : (σ42 55 22).toInt = (σ26 55 22).toInt := (congrArg Int32.toInt (show σ42 55 22 = (σ26 55 22) from (f45 22 (of_decide_eq_true rfl))))
           exact by exact hret x24 σ42 τ _ _ _ _ rfl ⟨rfl, (fun i hi => ((f44 i hi).trans ((f36 i hi).trans (f8 i hi)))), (fun i hi => ((f45 i (imp_173 i hi)).trans ((f37 i hi).trans (f9 i hi)))), I46, (jRp.to (jRi.fin q38 (of_decide_eq_true rfl) (fun h9 => by unfold jLv; first | ((repeat (first | rw [if_pos (by omega)] | rw [if_neg (by omega)])) <;> omega) | ((repeat' split) <;> omega))) (by omega) (by omega)), (by omega), (by omega), trivial⟩ hP hS dX12_either_37
   exact by exact lp22 1000000 r7 σ6 _ _ ls (by omega) (by omega) (by omega) (by omega) (by omega) (by omega) (by omega) (by omega) (fun _ _ => rfl) (fun _ _ => rfl)  (jRp.begin w11 (of_decide_eq_true rfl) (of_decide_eq_true rfl)) hP hS hl
set_option maxHeartbeats 4000000 in
set_option maxRecDepth 100000 in
theorem c_X12_grammar (l : Launch) (D : va_G) (cI cL : ClassId) (ad zz : Nat → Nat) (hJ : jD ad) (n : Nat) : (∀ (σ : Nat → Nat → Int32) (τ : Nat → Nat → Int64) (hI121 : jI121 σ) (hp0 : (σ 55 21).toInt = (-1)) (hp1 : 0 ≤ (σ 55 22).toInt ∧ (σ 55 22).toInt ≤ 6) (hp2 : -(σ 55 22).toInt + 6 ≤ (((n) : Nat) : Int)), jM l yX12_one cX12_one 5 (some .int) ({ frames := (10 + 8 * (n)), cells := 0, slots := 0, locals := (400 + 360 * (n)) }) D cI cL ad zz [.ref (ad 55)] σ τ (fun r σ' τ' => τ = τ' ∧ (∀ i : Nat, (i < 55 ∨ 55 < i) → σ' i = σ i) ∧ (∀ k : Nat, (k < 19 ∨ 19 < k) ∧ (k < 21 ∨ 21 < k) ∧ (k < 22 ∨ 22 < k) → σ' 55 k = σ 55 k) ∧ (jI121 σ') ∧ (jRp (jVw (σ 55 18).toInt (σ 63) (σ 64)) (σ 55 20).toInt (σ 66) 5 (σ 55 22).toInt (σ 55 19).toInt (σ' 55 19).toInt (σ' 55 21).toInt r) ∧ (((σ' 55 21).toInt = (-1) ∧ (σ' 55 22).toInt = (σ 55 22).toInt) ∨ (0 ≤ (σ' 55 21).toInt)) ∧ ((σ 55 19).toInt ≤ (σ' 55 19).toInt) ∧ True)) ∧ (∀ (σ : Nat → Nat → Int32) (τ : Nat → Nat → Int64) (hI121 : jI121 σ) (hp0 : (σ 55 21).toInt = (-1)) (hp1 : 0 ≤ (σ 55 22).toInt ∧ (σ 55 22).toInt ≤ 6) (hp2 : -(σ 55 22).toInt + 6 ≤ (((n) : Nat) : Int)), jM l yX12_product cX12_product 4 (some .int) ({ frames := (11 + 8 * (n)), cells := 0, slots := 0, locals := (440 + 360 * (n)) }) D cI cL ad zz [.ref (ad 55)] σ τ (fun r σ' τ' => τ = τ' ∧ (∀ i : Nat, (i < 55 ∨ 55 < i) → σ' i = σ i) ∧ (∀ k : Nat, (k < 19 ∨ 19 < k) ∧ (k < 21 ∨ 21 < k) ∧ (k < 22 ∨ 22 < k) → σ' 55 k = σ 55 k) ∧ (jI121 σ') ∧ (jRp (jVw (σ 55 18).toInt (σ 63) (σ 64)) (σ 55 20).toInt (σ 66) 4 (σ 55 22).toInt (σ 55 19).toInt (σ' 55 19).toInt (σ' 55 21).toInt r) ∧ (((σ' 55 21).toInt = (-1) ∧ (σ' 55 22).toInt = (σ 55 22).toInt) ∨ (0 ≤ (σ' 55 21).toInt)) ∧ ((σ 55 19).toInt ≤ (σ' 55 19).toInt) ∧ True)) ∧ (∀ (σ : Nat → Nat → Int32) (τ : Nat → Nat → Int64) (hI121 : jI121 σ) (hp0 : (σ 55 21).toInt = (-1)) (hp1 : 0 ≤ (σ 55 22).toInt ∧ (σ 55 22).toInt ≤ 6) (hp2 : -(σ 55 22).toInt + 6 ≤ (((n) : Nat) : Int)), jM l yX12_sums cX12_sums 4 (some .int) ({ frames := (12 + 8 * (n)), cells := 0, slots := 0, locals := (480 + 360 * (n)) }) D cI cL ad zz [.ref (ad 55)] σ τ (fun r σ' τ' => τ = τ' ∧ (∀ i : Nat, (i < 55 ∨ 55 < i) → σ' i = σ i) ∧ (∀ k : Nat, (k < 19 ∨ 19 < k) ∧ (k < 21 ∨ 21 < k) ∧ (k < 22 ∨ 22 < k) → σ' 55 k = σ 55 k) ∧ (jI121 σ') ∧ (jRp (jVw (σ 55 18).toInt (σ 63) (σ 64)) (σ 55 20).toInt (σ 66) 3 (σ 55 22).toInt (σ 55 19).toInt (σ' 55 19).toInt (σ' 55 21).toInt r) ∧ (((σ' 55 21).toInt = (-1) ∧ (σ' 55 22).toInt = (σ 55 22).toInt) ∨ (0 ≤ (σ' 55 21).toInt)) ∧ ((σ 55 19).toInt ≤ (σ' 55 19).toInt) ∧ True)) ∧ (∀ (σ : Nat → Nat → Int32) (τ : Nat → Nat → Int64) (hI121 : jI121 σ) (hp0 : (σ 55 21).toInt = (-1)) (hp1 : 0 ≤ (σ 55 22).toInt ∧ (σ 55 22).toInt ≤ 6) (hp2 : -(σ 55 22).toInt + 6 ≤ (((n) : Nat) : Int)), jM l yX12_compared cX12_compared 4 (some .int) ({ frames := (13 + 8 * (n)), cells := 0, slots := 0, locals := (520 + 360 * (n)) }) D cI cL ad zz [.ref (ad 55)] σ τ (fun r σ' τ' => τ = τ' ∧ (∀ i : Nat, (i < 55 ∨ 55 < i) → σ' i = σ i) ∧ (∀ k : Nat, (k < 19 ∨ 19 < k) ∧ (k < 21 ∨ 21 < k) ∧ (k < 22 ∨ 22 < k) → σ' 55 k = σ 55 k) ∧ (jI121 σ') ∧ (jRp (jVw (σ 55 18).toInt (σ 63) (σ 64)) (σ 55 20).toInt (σ 66) 2 (σ 55 22).toInt (σ 55 19).toInt (σ' 55 19).toInt (σ' 55 21).toInt r) ∧ (((σ' 55 21).toInt = (-1) ∧ (σ' 55 22).toInt = (σ 55 22).toInt) ∨ (0 ≤ (σ' 55 21).toInt)) ∧ ((σ 55 19).toInt ≤ (σ' 55 19).toInt) ∧ True)) ∧ (∀ (σ : Nat → Nat → Int32) (τ : Nat → Nat → Int64) (hI121 : jI121 σ) (hp0 : (σ 55 21).toInt = (-1)) (hp1 : 0 ≤ (σ 55 22).toInt ∧ (σ 55 22).toInt ≤ 6) (hp2 : -(σ 55 22).toInt + 6 ≤ (((n) : Nat) : Int)), jM l yX12_both cX12_both 3 (some .int) ({ frames := (14 + 8 * (n)), cells := 0, slots := 0, locals := (560 + 360 * (n)) }) D cI cL ad zz [.ref (ad 55)] σ τ (fun r σ' τ' => τ = τ' ∧ (∀ i : Nat, (i < 55 ∨ 55 < i) → σ' i = σ i) ∧ (∀ k : Nat, (k < 19 ∨ 19 < k) ∧ (k < 21 ∨ 21 < k) ∧ (k < 22 ∨ 22 < k) → σ' 55 k = σ 55 k) ∧ (jI121 σ') ∧ (jRp (jVw (σ 55 18).toInt (σ 63) (σ 64)) (σ 55 20).toInt (σ 66) 1 (σ 55 22).toInt (σ 55 19).toInt (σ' 55 19).toInt (σ' 55 21).toInt r) ∧ (((σ' 55 21).toInt = (-1) ∧ (σ' 55 22).toInt = (σ 55 22).toInt) ∨ (0 ≤ (σ' 55 21).toInt)) ∧ ((σ 55 19).toInt ≤ (σ' 55 19).toInt) ∧ True)) ∧ (∀ (σ : Nat → Nat → Int32) (τ : Nat → Nat → Int64) (hI121 : jI121 σ) (hp0 : (σ 55 21).toInt = (-1)) (hp1 : 0 ≤ (σ 55 22).toInt ∧ (σ 55 22).toInt ≤ 6) (hp2 : -(σ 55 22).toInt + 6 ≤ (((n) : Nat) : Int)), jM l yX12_either cX12_either 3 (some .int) ({ frames := (15 + 8 * (n)), cells := 0, slots := 0, locals := (600 + 360 * (n)) }) D cI cL ad zz [.ref (ad 55)] σ τ (fun r σ' τ' => τ = τ' ∧ (∀ i : Nat, (i < 55 ∨ 55 < i) → σ' i = σ i) ∧ (∀ k : Nat, (k < 19 ∨ 19 < k) ∧ (k < 21 ∨ 21 < k) ∧ (k < 22 ∨ 22 < k) → σ' 55 k = σ 55 k) ∧ (jI121 σ') ∧ (jRp (jVw (σ 55 18).toInt (σ 63) (σ 64)) (σ 55 20).toInt (σ 66) 0 (σ 55 22).toInt (σ 55 19).toInt (σ' 55 19).toInt (σ' 55 21).toInt r) ∧ (((σ' 55 21).toInt = (-1) ∧ (σ' 55 22).toInt = (σ 55 22).toInt) ∨ (0 ≤ (σ' 55 21).toInt)) ∧ ((σ 55 19).toInt ≤ (σ' 55 19).toInt) ∧ True)) := by
  induction n with
  | zero =>
    have h_one := c_X12_grammar_one_z l D cI cL ad zz hJ
    have h_product := c_X12_grammar_product_g l D cI cL ad zz hJ 0 h_one
    have h_sums := c_X12_grammar_sums_g l D cI cL ad zz hJ 0 h_product
    have h_compared := c_X12_grammar_compared_g l D cI cL ad zz hJ 0 h_sums
    have h_both := c_X12_grammar_both_g l D cI cL ad zz hJ 0 h_compared
    have h_either := c_X12_grammar_either_g l D cI cL ad zz hJ 0 h_both
    exact ⟨h_one, h_product, h_sums, h_compared, h_both, h_either⟩
  | succ n ih =>
    obtain ⟨g_one, g_product, g_sums, g_compared, g_both, g_either⟩ := ih
    have h_one := c_X12_grammar_one_g l D cI cL ad zz hJ n g_one g_either
    have h_product := c_X12_grammar_product_g l D cI cL ad zz hJ (n + 1) h_one
    have h_sums := c_X12_grammar_sums_g l D cI cL ad zz hJ (n + 1) h_product
    have h_compared := c_X12_grammar_compared_g l D cI cL ad zz hJ (n + 1) h_sums
    have h_both := c_X12_grammar_both_g l D cI cL ad zz hJ (n + 1) h_compared
    have h_either := c_X12_grammar_either_g l D cI cL ad zz hJ (n + 1) h_both
    exact ⟨h_one, h_product, h_sums, h_compared, h_both, h_either⟩
set_option maxHeartbeats 4000000 in
set_option maxRecDepth 100000 in
theorem c_X12_workOut (l : Launch) (D : va_G) (cI cL : ClassId) (ad zz : Nat → Nat) (hJ : jD ad) (σ : Nat → Nat → Int32) (τ : Nat → Nat → Int64) (a1 : Int32) (A1 : Int) (t1 : a1.toInt = A1) (a2 : Int32) (A2 : Int) (t2 : a2.toInt = A2) (hp0 : (-1) ≤ A1 ∧ A1 ≤ 80) (hp1 : 0 ≤ A2 ∧ A2 ≤ 80) : jM l yX12_workOut cX12_workOut 8 (some .int) ({ frames := 64, cells := 0, slots := 0, locals := 2782 }) D cI cL ad zz [.ref (ad 55), .int a1, .int a2] σ τ (fun r σ' τ' => τ = τ' ∧ (∀ i : Nat, (i < 55 ∨ 55 < i) → σ' i = σ i) ∧ (∀ k : Nat, (k < 18 ∨ 18 < k) ∧ (k < 19 ∨ 19 < k) ∧ (k < 20 ∨ 20 < k) ∧ (k < 21 ∨ 21 < k) ∧ (k < 22 ∨ 22 < k) → σ' 55 k = σ 55 k) ∧ (jI121 σ') ∧ (jRx (jVw (A1) (σ 63) (σ 64)) (A2) (σ 66) (σ' 55 21).toInt r) ∧ True) := by
  refine jM.of hJ (by decide +kernel) (nt := .int) rfl (Nat.le_of_ble_eq_true rfl) ?_
  intro p e s m args below meth c Q ls hC hret hl hP
  obtain ⟨hx, hb, hr, hml, hown, hts, hK, -, hlocks, hZ⟩ := hC
  have hown : s.vm.findClass RX12 = some m.cls := hown
  have hS : va_S (jA ad) s.heap s.heap [] := va_S.rf
  have hA : ∀ q, jA ad q → jA ad q := fun _ h => h
  have hl : lv_has ls 8 [(0, .ref (ad 55)), (1, .int a1), (2, .int a2)] := hl
  have g1 := jrg t1
  have g2 := jrg t2
  refine lv_aload_n hx hb dX12_workOut_0 rfl (lv_at hl 0 rfl) ?_
  refine lv_iload_n hx hb dX12_workOut_1 rfl (lv_at hl 1 rfl) ?_
  refine jput (ty := .int) hx hb hts inlX12 tyX12 tyX12_ok nmX12 hown hK hP hJ hA hS (jc_55 cI cL ad σ τ) rfl (k := 18) (of_decide_eq_true rfl) (Nat.le_of_ble_eq_true rfl) (jp_55_18 cI cL ad σ τ a1) (hts _ kw_15_10) (fun _ h9 => h9) rfl (by decide +kernel) rfl rfl dX12_workOut_2 (fun σ1 H locs eσ1 hP hS => ?_)
  refine lv_aload_n hx hb dX12_workOut_5 rfl (lv_at hl 0 rfl) ?_
  refine lv_iconst (v := 0) hx hb dX12_workOut_6 (of_decide_eq_true rfl) ?_
  refine jput (ty := .int) hx hb hts inlX12 tyX12 tyX12_ok nmX12 hown hK hP hJ hA hS (jc_55 cI cL ad σ1 τ) rfl (k := 19) (of_decide_eq_true rfl) (Nat.le_of_ble_eq_true rfl) (jp_55_19 cI cL ad σ1 τ 0) (hts _ kw_15_11) (fun _ h9 => h9) rfl (by decide +kernel) rfl rfl dX12_workOut_7 (fun σ2 H locs eσ2 hP hS => ?_)
  refine lv_aload_n hx hb dX12_workOut_10 rfl (lv_at hl 0 rfl) ?_
  refine lv_iload_n hx hb dX12_workOut_11 rfl (lv_at hl 2 rfl) ?_
  refine jput (ty := .int) hx hb hts inlX12 tyX12 tyX12_ok nmX12 hown hK hP hJ hA hS (jc_55 cI cL ad σ2 τ) rfl (k := 20) (of_decide_eq_true rfl) (Nat.le_of_ble_eq_true rfl) (jp_55_20 cI cL ad σ2 τ a2) (hts _ kw_15_12) (fun _ h9 => h9) rfl (by decide +kernel) rfl rfl dX12_workOut_12 (fun σ3 H locs eσ3 hP hS => ?_)
  refine lv_aload_n hx hb dX12_workOut_15 rfl (lv_at hl 0 rfl) ?_
  refine lv_iconst (v := (-1)) hx hb dX12_workOut_16 (of_decide_eq_true rfl) ?_
  refine jput (ty := .int) hx hb hts inlX12 tyX12 tyX12_ok nmX12 hown hK hP hJ hA hS (jc_55 cI cL ad σ3 τ) rfl (k := 21) (of_decide_eq_true rfl) (Nat.le_of_ble_eq_true rfl) (jp_55_21 cI cL ad σ3 τ (-1)) (hts _ kw_15_13) (fun _ h9 => h9) rfl (by decide +kernel) rfl rfl dX12_workOut_17 (fun σ4 H locs eσ4 hP hS => ?_)
  refine lv_aload_n hx hb dX12_workOut_20 rfl (lv_at hl 0 rfl) ?_
  refine lv_iconst (v := 0) hx hb dX12_workOut_21 (of_decide_eq_true rfl) ?_
  refine jput (ty := .int) hx hb hts inlX12 tyX12 tyX12_ok nmX12 hown hK hP hJ hA hS (jc_55 cI cL ad σ4 τ) rfl (k := 22) (of_decide_eq_true rfl) (Nat.le_of_ble_eq_true rfl) (jp_55_22 cI cL ad σ4 τ 0) (hts _ kw_18_21) (fun _ h9 => h9) rfl (by decide +kernel) rfl rfl dX12_workOut_22 (fun σ5 H locs eσ5 hP hS => ?_)
  refine lv_iconst (v := 0) hx hb dX12_workOut_25 (of_decide_eq_true rfl) ?_
  refine lv_istore_n (lv' := [(3, .int 0), (0, .ref (ad 55)), (1, .int a1), (2, .int a2)]) hx hb dX12_workOut_26 rfl hl (of_decide_eq_true rfl) rfl (fun ls hl => ?_)
  refine lv_iconst (v := 0) hx hb dX12_workOut_27 (of_decide_eq_true rfl) ?_
  refine lv_istore (lv' := [(4, .int 0), (3, .int 0), (0, .ref (ad 55)), (1, .int a1), (2, .int a2)]) hx hb dX12_workOut_28 hl (of_decide_eq_true rfl) rfl (fun ls hl => ?_)
  refine lv_iconst (v := 1) hx hb dX12_workOut_30 (of_decide_eq_true rfl) ?_
  refine lv_istore (lv' := [(5, .int 1), (4, .int 0), (3, .int 0), (0, .ref (ad 55)), (1, .int a1), (2, .int a2)]) hx hb dX12_workOut_31 hl (of_decide_eq_true rfl) rfl (fun ls hl => ?_)
  have z14 : (σ5 55 20).toInt = A2 := ((congrArg Int32.toInt (show σ5 55 20 = a2 from ((jkp 20 eσ5 (of_decide_eq_true rfl)).trans ((jkp 20 eσ4 (of_decide_eq_true rfl)).trans (jsp eσ3))))).trans t2)
  have z15 : (σ5 55 19).toInt = 0 := ((congrArg Int32.toInt (show σ5 55 19 = 0 from ((jkp 19 eσ5 (of_decide_eq_true rfl)).trans ((jkp 19 eσ4 (of_decide_eq_true rfl)).trans ((jkp 19 eσ3 (of_decide_eq_true rfl)).trans (jsp eσ2)))))).trans jz_0)
  have z16 : (σ5 55 18).toInt = A1 := ((congrArg Int32.toInt (show σ5 55 18 = a1 from ((jkp 18 eσ5 (of_decide_eq_true rfl)).trans ((jkp 18 eσ4 (of_decide_eq_true rfl)).trans ((jkp 18 eσ3 (of_decide_eq_true rfl)).trans ((jkp 18 eσ2 (of_decide_eq_true rfl)).trans (jsp eσ1))))))).trans t1)
  have z17 : (σ5 55 21).toInt = (-1) := ((congrArg Int32.toInt (show σ5 55 21 = (-1) from ((jkp 21 eσ5 (of_decide_eq_true rfl)).trans (jsp eσ4)))).trans jz_m1)
  have z18 : (σ5 55 22).toInt = 0 := ((congrArg Int32.toInt (show σ5 55 22 = 0 from (jsp eσ5))).trans jz_0)
  have lp6 : ∀ (n7 : Nat) (x8 : Int32) (x9 : Int32) (x10 : Int32) (σ13 : Nat → Nat → Int32) (H : Heap) (locs : List Loc) (ls : Array Slot), (2 * (σ13 55 20).toInt - 2 * (σ13 55 19).toInt + x10.toInt : Int) < n7 → 0 ≤ x10.toInt → x10.toInt ≤ 1 → (-1) ≤ (σ13 55 18).toInt ∧ (σ13 55 18).toInt ≤ 80 → 0 ≤ (σ13 55 19).toInt → (σ13 55 19).toInt ≤ (σ13 55 20).toInt → (σ13 55 20).toInt ≤ 80 → (-1) ≤ (σ13 55 21).toInt ∧ (σ13 55 21).toInt ≤ 80 → (σ13 55 18).toInt = A1 → (σ13 55 20).toInt = A2 → ((x10.toInt = 0) ∨ ((σ13 55 21).toInt = (-1) ∧ (σ13 55 22).toInt = 0)) → (∀ i : Nat, (i < 55 ∨ 55 < i) → σ13 i = σ5 i) → (∀ k : Nat, (k < 19 ∨ 19 < k) ∧ (k < 21 ∨ 21 < k) ∧ (k < 22 ∨ 22 < k) → σ13 55 k = σ5 55 k) → (((x10 : Int32).toInt = 1 ∧ jRt (jVw (A1) (σ 63) (σ 64)) (A2) (σ 66) (σ13 55 19).toInt (σ13 55 21).toInt x8 x9) ∨ ((x10 : Int32).toInt = 0 ∧ jRe (jVw (A1) (σ 63) (σ 64)) (A2) (σ 66) (σ13 55 19).toInt (σ13 55 21).toInt x9)) → jH D cI cL ad σ13 τ H → va_S (jA ad) s.heap H locs → lv_has ls 8 [(5, .int x10), (4, .int x9), (3, .int x8), (0, .ref (ad 55)), (1, .int a1), (2, .int a2)] → W p l e ({ frames := 64, cells := 0, slots := 0, locals := 2782 }) s m args below meth c H locs 0 0 Q (F0 m 33 ls []) := by
    intro n7
    induction n7 with
    | zero => intro x8 x9 x10 σ13 H locs ls h20 h21 h22 h23 h24 h25 h26 h27 h28 h29 h30; have gx8 := jrg (rfl : x8.toInt = x8.toInt); have gx9 := jrg (rfl : x9.toInt = x9.toInt); exact absurd h20 (by omega)
    | succ n7 ihlp6 =>
      intro x8 x9 x10 σ13 H locs ls h20 h21 h22 h23 h24 h25 h26 h27 h28 h29 h30 f31 f32 q33 hP hS hl
      exact by
       have gx8 := jrg (rfl : x8.toInt = x8.toInt); have gx9 := jrg (rfl : x9.toInt = x9.toInt)
       have z34 : (σ13 55 20).toInt = A2 := ((congrArg Int32.toInt (show σ13 55 20 = a2 from ((f32 20 (of_decide_eq_true rfl)).trans ((jkp 20 eσ5 (of_decide_eq_true rfl)).trans ((jkp 20 eσ4 (of_decide_eq_true rfl)).trans (jsp eσ3)))))).trans t2)
       have z35 : (σ13 55 18).toInt = A1 := ((congrArg Int32.toInt (show σ13 55 18 = a1 from ((f32 18 (of_decide_eq_true rfl)).trans ((jkp 18 eσ5 (of_decide_eq_true rfl)).trans ((jkp 18 eσ4 (of_decide_eq_true rfl)).trans ((jkp 18 eσ3 (of_decide_eq_true rfl)).trans ((jkp 18 eσ2 (of_decide_eq_true rfl)).trans (jsp eσ1)))))))).trans t1)
       refine lv_iload hx hb dX12_workOut_33 (lv_at hl 0 rfl) ?_
       refine lv_if_eq (tgt := 107) hx hb dX12_workOut_35 (of_decide_eq_true rfl) (fun c36 => ?_) (fun c36 => ?_)
       · have kc36 := jeq c36 rfl jz_0
         refine lv_aload_n hx hb dX12_workOut_107 rfl (lv_at hl 3 rfl) ?_
         refine va_get (D := D) hx hb hts inlX12 hown hK hP 55 (jc_55 cI cL ad σ13 τ) rfl 21 (of_decide_eq_true rfl) (hts _ kw_15_13) (fun _ h9 => h9) rfl dX12_workOut_108 ?_
         refine lv_if_ge (tgt := 130) hx hb dX12_workOut_111 (of_decide_eq_true rfl) (fun c37 => ?_) (fun c37 => ?_)
         · have kc37 := jle c37 jz_0 rfl
           refine lv_iload hx hb dX12_workOut_130 (lv_at hl 1 rfl) ?_
           exact by
            have I38 : jI121 σ13 := ⟨(by omega), (by omega), (by omega), (by omega), (by omega)⟩
            exact hret x9 σ13 τ _ _ _ _ rfl ⟨rfl, (fun i hi => ((f31 i hi).trans ((jnp i eσ5 (imp_165 i hi)).trans ((jnp i eσ4 (imp_165 i hi)).trans ((jnp i eσ3 (imp_165 i hi)).trans ((jnp i eσ2 (imp_165 i hi)).trans (jnp i eσ1 (imp_165 i hi)))))))), (fun i hi => ((f32 i (imp_174 i hi)).trans ((jkp i eσ5 (imp_175 i hi)).trans ((jkp i eσ4 (imp_176 i hi)).trans ((jkp i eσ3 (imp_177 i hi)).trans ((jkp i eσ2 (imp_178 i hi)).trans (jkp i eσ1 (imp_179 i hi)))))))), I38, (jRe.fin (Or.elim q33 (fun z => False.elim (by have e := z.1; omega)) (fun z => z.2)) (Or.inr (Or.inr ⟨by omega, by omega⟩))), trivial⟩ hP hS dX12_workOut_132
         · have kc37 := jnle c37 jz_0 rfl
           refine lv_aload_n hx hb dX12_workOut_114 rfl (lv_at hl 3 rfl) ?_
           refine va_get (D := D) hx hb hts inlX12 hown hK hP 55 (jc_55 cI cL ad σ13 τ) rfl 19 (of_decide_eq_true rfl) (hts _ kw_15_11) (fun _ h9 => h9) rfl dX12_workOut_115 ?_
           refine lv_aload_n hx hb dX12_workOut_118 rfl (lv_at hl 3 rfl) ?_
           refine va_get (D := D) hx hb hts inlX12 hown hK hP 55 (jc_55 cI cL ad σ13 τ) rfl 20 (of_decide_eq_true rfl) (hts _ kw_15_12) (fun _ h9 => h9) rfl dX12_workOut_119 ?_
           have m39 : σ13 55 20 = a2 := ((f32 20 (of_decide_eq_true rfl)).trans ((jkp 20 eσ5 (of_decide_eq_true rfl)).trans ((jkp 20 eσ4 (of_decide_eq_true rfl)).trans (jsp eσ3))))
           refine jtopr m39 ?_
           refine lv_icmp_ge (tgt := 130) hx hb dX12_workOut_122 (of_decide_eq_true rfl) (fun c40 => ?_) (fun c40 => ?_)
           · have kc40 := jle c40 t2 rfl
             refine lv_iload hx hb dX12_workOut_130 (lv_at hl 1 rfl) ?_
             exact by
              have I41 : jI121 σ13 := ⟨(by omega), (by omega), (by omega), (by omega), (by omega)⟩
              exact hret x9 σ13 τ _ _ _ _ rfl ⟨rfl, (fun i hi => ((f31 i hi).trans ((jnp i eσ5 (imp_165 i hi)).trans ((jnp i eσ4 (imp_165 i hi)).trans ((jnp i eσ3 (imp_165 i hi)).trans ((jnp i eσ2 (imp_165 i hi)).trans (jnp i eσ1 (imp_165 i hi)))))))), (fun i hi => ((f32 i (imp_174 i hi)).trans ((jkp i eσ5 (imp_175 i hi)).trans ((jkp i eσ4 (imp_176 i hi)).trans ((jkp i eσ3 (imp_177 i hi)).trans ((jkp i eσ2 (imp_178 i hi)).trans (jkp i eσ1 (imp_179 i hi)))))))), I41, (jRe.fin (Or.elim q33 (fun z => False.elim (by have e := z.1; omega)) (fun z => z.2)) (Or.inr (Or.inl ⟨by omega, by omega, by omega, rfl⟩))), trivial⟩ hP hS dX12_workOut_132
           · have kc40 := jnle c40 t2 rfl
             refine lv_aload_n hx hb dX12_workOut_125 rfl (lv_at hl 3 rfl) ?_
             have I42 : jI121 σ13 := ⟨(by omega), (by omega), (by omega), (by omega), (by omega)⟩
             refine jcallV (As := []) (rest := []) ⟨hx, hb, hml, hown, hts⟩ hK hP hA hS hZ (c_X12_wrong l D cI cL ad zz hJ σ13 τ I42) cw_RX12_214 (jc_55 cI cL ad σ13 τ) rfl ⟨Nat.le_of_ble_eq_true rfl, Nat.le_of_ble_eq_true rfl⟩ rfl rfl rfl hl.1 rfl (Nat.le_of_ble_eq_true rfl) dX12_workOut_126 ⟨Nat.zero_le _, Nat.zero_le _⟩ (fun r44 σ43 τ43 H locs h43 hP hS => ?_)
             obtain ⟨rfl, f45, f46, I47, h43⟩ := h43
             obtain ⟨i49, i50, i51, i52, i53⟩ : ((-1) ≤ (σ43 55 18).toInt ∧ (σ43 55 18).toInt ≤ 80) ∧ (0 ≤ (σ43 55 19).toInt) ∧ ((σ43 55 19).toInt ≤ (σ43 55 20).toInt) ∧ ((σ43 55 20).toInt ≤ 80) ∧ ((-1) ≤ (σ43 55 21).toInt ∧ (σ43 55 21).toInt ≤ 80) := id I47
             have z54 : (σ43 55 18).toInt = A1 := ((congrArg Int32.toInt (show σ43 55 18 = a1 from ((f46 18 (of_decide_eq_true rfl)).trans ((f32 18 (of_decide_eq_true rfl)).trans ((jkp 18 eσ5 (of_decide_eq_true rfl)).trans ((jkp 18 eσ4 (of_decide_eq_true rfl)).trans ((jkp 18 eσ3 (of_decide_eq_true rfl)).trans ((jkp 18 eσ2 (of_decide_eq_true rfl)).trans (jsp eσ1))))))))).trans t1)
             exact by
              have z55 : (σ43 55 19).toInt = (σ13 55 19).toInt := (congrArg Int32.toInt (show σ43 55 19 = (σ13 55 19) from (f46 19 (of_decide_eq_true rfl))))
              have z56 : (σ43 55 20).toInt = A2 := ((congrArg Int32.toInt (show σ43 55 20 = a2 from ((f46 20 (of_decide_eq_true rfl)).trans m39))).trans t2)
              obtain ⟨k57, k58, h43⟩ := h43
              have h59 := h43
              obtain ⟨q61, k60⟩ := h59
              have q61 := q61.symm
              subst q61
              exact hret 0 σ43 τ _ _ _ _ rfl ⟨rfl, (fun i hi => ((f45 i hi).trans ((f31 i hi).trans ((jnp i eσ5 (imp_165 i hi)).trans ((jnp i eσ4 (imp_165 i hi)).trans ((jnp i eσ3 (imp_165 i hi)).trans ((jnp i eσ2 (imp_165 i hi)).trans (jnp i eσ1 (imp_165 i hi))))))))), (fun i hi => ((f46 i (imp_180 i hi)).trans ((f32 i (imp_174 i hi)).trans ((jkp i eσ5 (imp_175 i hi)).trans ((jkp i eσ4 (imp_176 i hi)).trans ((jkp i eσ3 (imp_177 i hi)).trans ((jkp i eσ2 (imp_178 i hi)).trans (jkp i eσ1 (imp_179 i hi))))))))), I47, (jRe.fin (Or.elim q33 (fun z => False.elim (by have e := z.1; omega)) (fun z => z.2)) (Or.inl ⟨by omega, by omega, by omega⟩)), trivial⟩ hP hS dX12_workOut_129
       · have kc36 := jne c36 rfl jz_0
         refine lv_aload_n hx hb dX12_workOut_38 rfl (lv_at hl 3 rfl) ?_
         exact by
          have I62 : jI121 σ13 := ⟨(by omega), (by omega), (by omega), (by omega), (by omega)⟩
          refine jcallV (As := []) (rest := []) ⟨hx, hb, hml, hown, hts⟩ hK hP hA hS hZ ((c_X12_grammar l D cI cL ad zz hJ 6).2.2.2.2.2 σ13 τ I62 (by omega) (by omega) (by omega)) cw_RX12_217 (jc_55 cI cL ad σ13 τ) rfl ⟨Nat.le_of_ble_eq_true rfl, Nat.le_of_ble_eq_true rfl⟩ rfl rfl rfl hl.1 rfl (Nat.le_of_ble_eq_true rfl) dX12_workOut_39 ⟨Nat.zero_le _, Nat.zero_le _⟩ (fun r64 σ63 τ63 H locs h63 hP hS => ?_)
          obtain ⟨rfl, f65, f66, I67, w68, h63⟩ := h63
          obtain ⟨i70, i71, i72, i73, i74⟩ : ((-1) ≤ (σ63 55 18).toInt ∧ (σ63 55 18).toInt ≤ 80) ∧ (0 ≤ (σ63 55 19).toInt) ∧ ((σ63 55 19).toInt ≤ (σ63 55 20).toInt) ∧ ((σ63 55 20).toInt ≤ 80) ∧ ((-1) ≤ (σ63 55 21).toInt ∧ (σ63 55 21).toInt ≤ 80) := id I67
          try rw [show (σ13 55 20).toInt = A2 from by omega] at w68
          try rw [show (σ13 55 18).toInt = A1 from by omega] at w68
          try rw [show σ13 63 = σ 63 from ((f31 63 (of_decide_eq_true rfl)).trans ((jnp 63 eσ5 (of_decide_eq_true rfl)).trans ((jnp 63 eσ4 (of_decide_eq_true rfl)).trans ((jnp 63 eσ3 (of_decide_eq_true rfl)).trans ((jnp 63 eσ2 (of_decide_eq_true rfl)).trans (jnp 63 eσ1 (of_decide_eq_true rfl)))))))] at w68
          try rw [show σ13 64 = σ 64 from ((f31 64 (of_decide_eq_true rfl)).trans ((jnp 64 eσ5 (of_decide_eq_true rfl)).trans ((jnp 64 eσ4 (of_decide_eq_true rfl)).trans ((jnp 64 eσ3 (of_decide_eq_true rfl)).trans ((jnp 64 eσ2 (of_decide_eq_true rfl)).trans (jnp 64 eσ1 (of_decide_eq_true rfl)))))))] at w68
          try rw [show σ13 66 = σ 66 from by rw [f31 66 (of_decide_eq_true rfl), jnp 66 eσ5 (of_decide_eq_true rfl), jnp 66 eσ4 (of_decide_eq_true rfl), jnp 66 eσ3 (of_decide_eq_true rfl), jnp 66 eσ2 (of_decide_eq_true rfl), jnp 66 eσ1 (of_decide_eq_true rfl)]] at w68
          try rw [show (σ13 55 22).toInt = 0 from by omega] at w68
          exact by
           have z75 : (σ63 55 18).toInt = A1 := ((congrArg Int32.toInt (show σ63 55 18 = a1 from ((f66 18 (of_decide_eq_true rfl)).trans ((f32 18 (of_decide_eq_true rfl)).trans ((jkp 18 eσ5 (of_decide_eq_true rfl)).trans ((jkp 18 eσ4 (of_decide_eq_true rfl)).trans ((jkp 18 eσ3 (of_decide_eq_true rfl)).trans ((jkp 18 eσ2 (of_decide_eq_true rfl)).trans (jsp eσ1))))))))).trans t1)
           have z76 : (σ63 55 20).toInt = A2 := ((congrArg Int32.toInt (show σ63 55 20 = a2 from ((f66 20 (of_decide_eq_true rfl)).trans ((f32 20 (of_decide_eq_true rfl)).trans ((jkp 20 eσ5 (of_decide_eq_true rfl)).trans ((jkp 20 eσ4 (of_decide_eq_true rfl)).trans (jsp eσ3))))))).trans t2)
           obtain ⟨k77, k78, h63⟩ := h63
           refine lv_istore (lv' := [(6, .int r64), (5, .int x10), (4, .int x9), (3, .int x8), (0, .ref (ad 55)), (1, .int a1), (2, .int a2)]) hx hb dX12_workOut_42 hl (of_decide_eq_true rfl) rfl (fun ls hl => ?_)
           refine lv_iconst (v := 1) hx hb dX12_workOut_44 (of_decide_eq_true rfl) ?_
           refine lv_istore (lv' := [(7, .int 1), (6, .int r64), (5, .int x10), (4, .int x9), (3, .int x8), (0, .ref (ad 55)), (1, .int a1), (2, .int a2)]) hx hb dX12_workOut_45 hl (of_decide_eq_true rfl) rfl (fun ls hl => ?_)
           refine lv_aload_n hx hb dX12_workOut_47 rfl (lv_at hl 5 rfl) ?_
           refine lv_bipush (v := 63) hx hb dX12_workOut_48 (of_decide_eq_true rfl) ?_
           refine jcallV (As := [.int 63]) (rest := []) ⟨hx, hb, hml, hown, hts⟩ hK hP hA hS hZ (c_X12_takes l D cI cL ad zz hJ σ63 τ 63 (63) jz_63 I67 (by omega)) cw_RX12_196 (jc_55 cI cL ad σ63 τ) rfl ⟨Nat.le_of_ble_eq_true rfl, Nat.le_of_ble_eq_true rfl⟩ rfl rfl rfl hl.1 rfl (Nat.le_of_ble_eq_true rfl) dX12_workOut_50 ⟨Nat.zero_le _, Nat.zero_le _⟩ (fun r80 σ79 τ79 H locs h79 hP hS => ?_)
           exact by
            obtain ⟨rfl, f81, f82, I83, h79⟩ := h79
            obtain ⟨i85, i86, i87, i88, i89⟩ : ((-1) ≤ (σ79 55 18).toInt ∧ (σ79 55 18).toInt ≤ 80) ∧ (0 ≤ (σ79 55 19).toInt) ∧ ((σ79 55 19).toInt ≤ (σ79 55 20).toInt) ∧ ((σ79 55 20).toInt ≤ 80) ∧ ((-1) ≤ (σ79 55 21).toInt ∧ (σ79 55 21).toInt ≤ 80) := id I83
            have z90 : (σ79 55 18).toInt = A1 := ((congrArg Int32.toInt (show σ79 55 18 = a1 from ((f82 18 (of_decide_eq_true rfl)).trans ((f66 18 (of_decide_eq_true rfl)).trans ((f32 18 (of_decide_eq_true rfl)).trans ((jkp 18 eσ5 (of_decide_eq_true rfl)).trans ((jkp 18 eσ4 (of_decide_eq_true rfl)).trans ((jkp 18 eσ3 (of_decide_eq_true rfl)).trans ((jkp 18 eσ2 (of_decide_eq_true rfl)).trans (jsp eσ1)))))))))).trans t1)
            have z91 : (σ79 55 20).toInt = A2 := ((congrArg Int32.toInt (show σ79 55 20 = a2 from ((f82 20 (of_decide_eq_true rfl)).trans ((f66 20 (of_decide_eq_true rfl)).trans ((f32 20 (of_decide_eq_true rfl)).trans ((jkp 20 eσ5 (of_decide_eq_true rfl)).trans ((jkp 20 eσ4 (of_decide_eq_true rfl)).trans (jsp eσ3)))))))).trans t2)
            have z92 : (σ79 55 21).toInt = (σ63 55 21).toInt := (congrArg Int32.toInt (show σ79 55 21 = (σ63 55 21) from (f82 21 (of_decide_eq_true rfl))))
            rcases h79 with h93 | h94
            · obtain ⟨q98, k95, k96, k97⟩ := h93
              have q98 := q98.symm
              subst q98
              try rw [show (σ63 55 20).toInt = A2 from by omega] at k97
              try rw [show (σ63 55 18).toInt = A1 from by omega] at k97
              try rw [show σ63 63 = σ 63 from ((f65 63 (of_decide_eq_true rfl)).trans ((f31 63 (of_decide_eq_true rfl)).trans ((jnp 63 eσ5 (of_decide_eq_true rfl)).trans ((jnp 63 eσ4 (of_decide_eq_true rfl)).trans ((jnp 63 eσ3 (of_decide_eq_true rfl)).trans ((jnp 63 eσ2 (of_decide_eq_true rfl)).trans (jnp 63 eσ1 (of_decide_eq_true rfl))))))))] at k97
              try rw [show σ63 64 = σ 64 from ((f65 64 (of_decide_eq_true rfl)).trans ((f31 64 (of_decide_eq_true rfl)).trans ((jnp 64 eσ5 (of_decide_eq_true rfl)).trans ((jnp 64 eσ4 (of_decide_eq_true rfl)).trans ((jnp 64 eσ3 (of_decide_eq_true rfl)).trans ((jnp 64 eσ2 (of_decide_eq_true rfl)).trans (jnp 64 eσ1 (of_decide_eq_true rfl))))))))] at k97
              refine lv_if_eq (tgt := 74) hx hb dX12_workOut_53 (of_decide_eq_true rfl) (fun c => absurd c (of_decide_eq_true rfl)) (fun _ => ?_)
              refine lv_iload hx hb dX12_workOut_56 (lv_at hl 1 rfl) ?_
              refine lv_if_eq (tgt := 65) hx hb dX12_workOut_58 (of_decide_eq_true rfl) (fun c99 => ?_) (fun c99 => ?_)
              · have kc99 := jeq c99 rfl jz_0
                refine lv_iconst (v := 0) hx hb dX12_workOut_65 (of_decide_eq_true rfl) ?_
                refine lv_istore (lv' := [(7, .int 0), (6, .int r64), (5, .int x10), (4, .int x9), (3, .int x8), (0, .ref (ad 55)), (1, .int a1), (2, .int a2)]) hx hb dX12_workOut_66 hl (of_decide_eq_true rfl) rfl (fun ls hl => ?_)
                refine lv_aload_n hx hb dX12_workOut_68 rfl (lv_at hl 5 rfl) ?_
                have z100 : (σ79 55 22).toInt = (σ63 55 22).toInt := (congrArg Int32.toInt (show σ79 55 22 = (σ63 55 22) from (f82 22 (of_decide_eq_true rfl))))
                exact by
                 refine jcallV (As := []) (rest := []) ⟨hx, hb, hml, hown, hts⟩ hK hP hA hS hZ ((c_X12_grammar l D cI cL ad zz hJ 6).2.2.2.2.2 σ79 τ I83 (by omega) (by omega) (by omega)) cw_RX12_217 (jc_55 cI cL ad σ79 τ) rfl ⟨Nat.le_of_ble_eq_true rfl, Nat.le_of_ble_eq_true rfl⟩ rfl rfl rfl hl.1 rfl (Nat.le_of_ble_eq_true rfl) dX12_workOut_69 ⟨Nat.zero_le _, Nat.zero_le _⟩ (fun r102 σ101 τ101 H locs h101 hP hS => ?_)
                 obtain ⟨rfl, f103, f104, I105, w106, h101⟩ := h101
                 obtain ⟨i108, i109, i110, i111, i112⟩ : ((-1) ≤ (σ101 55 18).toInt ∧ (σ101 55 18).toInt ≤ 80) ∧ (0 ≤ (σ101 55 19).toInt) ∧ ((σ101 55 19).toInt ≤ (σ101 55 20).toInt) ∧ ((σ101 55 20).toInt ≤ 80) ∧ ((-1) ≤ (σ101 55 21).toInt ∧ (σ101 55 21).toInt ≤ 80) := id I105
                 try rw [show (σ79 55 20).toInt = A2 from by omega] at w106
                 try rw [show (σ79 55 18).toInt = A1 from by omega] at w106
                 try rw [show σ79 63 = σ 63 from ((f81 63 (of_decide_eq_true rfl)).trans ((f65 63 (of_decide_eq_true rfl)).trans ((f31 63 (of_decide_eq_true rfl)).trans ((jnp 63 eσ5 (of_decide_eq_true rfl)).trans ((jnp 63 eσ4 (of_decide_eq_true rfl)).trans ((jnp 63 eσ3 (of_decide_eq_true rfl)).trans ((jnp 63 eσ2 (of_decide_eq_true rfl)).trans (jnp 63 eσ1 (of_decide_eq_true rfl)))))))))] at w106
                 try rw [show σ79 64 = σ 64 from ((f81 64 (of_decide_eq_true rfl)).trans ((f65 64 (of_decide_eq_true rfl)).trans ((f31 64 (of_decide_eq_true rfl)).trans ((jnp 64 eσ5 (of_decide_eq_true rfl)).trans ((jnp 64 eσ4 (of_decide_eq_true rfl)).trans ((jnp 64 eσ3 (of_decide_eq_true rfl)).trans ((jnp 64 eσ2 (of_decide_eq_true rfl)).trans (jnp 64 eσ1 (of_decide_eq_true rfl)))))))))] at w106
                 try rw [show σ79 66 = σ 66 from by rw [f81 66 (of_decide_eq_true rfl), f65 66 (of_decide_eq_true rfl), f31 66 (of_decide_eq_true rfl), jnp 66 eσ5 (of_decide_eq_true rfl), jnp 66 eσ4 (of_decide_eq_true rfl), jnp 66 eσ3 (of_decide_eq_true rfl), jnp 66 eσ2 (of_decide_eq_true rfl), jnp 66 eσ1 (of_decide_eq_true rfl)]] at w106
                 try rw [show (σ79 55 22).toInt = 0 from by omega] at w106
                 have z113 : (σ101 55 18).toInt = A1 := ((congrArg Int32.toInt (show σ101 55 18 = a1 from ((f104 18 (of_decide_eq_true rfl)).trans ((f82 18 (of_decide_eq_true rfl)).trans ((f66 18 (of_decide_eq_true rfl)).trans ((f32 18 (of_decide_eq_true rfl)).trans ((jkp 18 eσ5 (of_decide_eq_true rfl)).trans ((jkp 18 eσ4 (of_decide_eq_true rfl)).trans ((jkp 18 eσ3 (of_decide_eq_true rfl)).trans ((jkp 18 eσ2 (of_decide_eq_true rfl)).trans (jsp eσ1))))))))))).trans t1)
                 have z114 : (σ101 55 20).toInt = A2 := ((congrArg Int32.toInt (show σ101 55 20 = a2 from ((f104 20 (of_decide_eq_true rfl)).trans ((f82 20 (of_decide_eq_true rfl)).trans ((f66 20 (of_decide_eq_true rfl)).trans ((f32 20 (of_decide_eq_true rfl)).trans ((jkp 20 eσ5 (of_decide_eq_true rfl)).trans ((jkp 20 eσ4 (of_decide_eq_true rfl)).trans (jsp eσ3))))))))).trans t2)
                 obtain ⟨k115, k116, h101⟩ := h101
                 refine lv_istore (lv' := [(6, .int r102), (7, .int 0), (5, .int x10), (4, .int x9), (3, .int x8), (0, .ref (ad 55)), (1, .int a1), (2, .int a2)]) hx hb dX12_workOut_72 hl (of_decide_eq_true rfl) rfl (fun ls hl => ?_)
                 refine lv_aload_n hx hb dX12_workOut_74 rfl (lv_at hl 5 rfl) ?_
                 refine va_get (D := D) hx hb hts inlX12 hown hK hP 55 (jc_55 cI cL ad σ101 τ) rfl 21 (of_decide_eq_true rfl) (hts _ kw_15_13) (fun _ h9 => h9) rfl dX12_workOut_75 ?_
                 refine lv_if_ge (tgt := 96) hx hb dX12_workOut_78 (of_decide_eq_true rfl) (fun c117 => ?_) (fun c117 => ?_)
                 · have kc117 := jle c117 jz_0 rfl
                   refine lv_aload_n hx hb dX12_workOut_96 rfl (lv_at hl 5 rfl) ?_
                   refine lv_bipush (v := 59) hx hb dX12_workOut_97 (of_decide_eq_true rfl) ?_
                   exact by
                    refine jcallV (As := [.int 59]) (rest := []) ⟨hx, hb, hml, hown, hts⟩ hK hP hA hS hZ (c_X12_takes l D cI cL ad zz hJ σ101 τ 59 (59) jz_59 I105 (by omega)) cw_RX12_196 (jc_55 cI cL ad σ101 τ) rfl ⟨Nat.le_of_ble_eq_true rfl, Nat.le_of_ble_eq_true rfl⟩ rfl rfl rfl hl.1 rfl (Nat.le_of_ble_eq_true rfl) dX12_workOut_99 ⟨Nat.zero_le _, Nat.zero_le _⟩ (fun r119 σ118 τ118 H locs h118 hP hS => ?_)
                    obtain ⟨rfl, f120, f121, I122, h118⟩ := h118
                    obtain ⟨i124, i125, i126, i127, i128⟩ : ((-1) ≤ (σ118 55 18).toInt ∧ (σ118 55 18).toInt ≤ 80) ∧ (0 ≤ (σ118 55 19).toInt) ∧ ((σ118 55 19).toInt ≤ (σ118 55 20).toInt) ∧ ((σ118 55 20).toInt ≤ 80) ∧ ((-1) ≤ (σ118 55 21).toInt ∧ (σ118 55 21).toInt ≤ 80) := id I122
                    have z129 : (σ118 55 18).toInt = A1 := ((congrArg Int32.toInt (show σ118 55 18 = a1 from ((f121 18 (of_decide_eq_true rfl)).trans ((f104 18 (of_decide_eq_true rfl)).trans ((f82 18 (of_decide_eq_true rfl)).trans ((f66 18 (of_decide_eq_true rfl)).trans ((f32 18 (of_decide_eq_true rfl)).trans ((jkp 18 eσ5 (of_decide_eq_true rfl)).trans ((jkp 18 eσ4 (of_decide_eq_true rfl)).trans ((jkp 18 eσ3 (of_decide_eq_true rfl)).trans ((jkp 18 eσ2 (of_decide_eq_true rfl)).trans (jsp eσ1)))))))))))).trans t1)
                    have z130 : (σ118 55 20).toInt = A2 := ((congrArg Int32.toInt (show σ118 55 20 = a2 from ((f121 20 (of_decide_eq_true rfl)).trans ((f104 20 (of_decide_eq_true rfl)).trans ((f82 20 (of_decide_eq_true rfl)).trans ((f66 20 (of_decide_eq_true rfl)).trans ((f32 20 (of_decide_eq_true rfl)).trans ((jkp 20 eσ5 (of_decide_eq_true rfl)).trans ((jkp 20 eσ4 (of_decide_eq_true rfl)).trans (jsp eσ3)))))))))).trans t2)
                    have z131 : (σ118 55 21).toInt = (σ101 55 21).toInt := (congrArg Int32.toInt (show σ118 55 21 = (σ101 55 21) from (f121 21 (of_decide_eq_true rfl))))
                    rcases h118 with h132 | h133
                    · obtain ⟨q137, k134, k135, k136⟩ := h132
                      exact absurd (by omega : False) id
                    · obtain ⟨q140, k138, k139⟩ := h133
                      have q140 := q140.symm
                      subst q140
                      try rw [show (σ101 55 20).toInt = A2 from by omega] at k139
                      try rw [show (σ101 55 18).toInt = A1 from by omega] at k139
                      try rw [show σ101 63 = σ 63 from ((f103 63 (of_decide_eq_true rfl)).trans ((f81 63 (of_decide_eq_true rfl)).trans ((f65 63 (of_decide_eq_true rfl)).trans ((f31 63 (of_decide_eq_true rfl)).trans ((jnp 63 eσ5 (of_decide_eq_true rfl)).trans ((jnp 63 eσ4 (of_decide_eq_true rfl)).trans ((jnp 63 eσ3 (of_decide_eq_true rfl)).trans ((jnp 63 eσ2 (of_decide_eq_true rfl)).trans (jnp 63 eσ1 (of_decide_eq_true rfl))))))))))] at k139
                      try rw [show σ101 64 = σ 64 from ((f103 64 (of_decide_eq_true rfl)).trans ((f81 64 (of_decide_eq_true rfl)).trans ((f65 64 (of_decide_eq_true rfl)).trans ((f31 64 (of_decide_eq_true rfl)).trans ((jnp 64 eσ5 (of_decide_eq_true rfl)).trans ((jnp 64 eσ4 (of_decide_eq_true rfl)).trans ((jnp 64 eσ3 (of_decide_eq_true rfl)).trans ((jnp 64 eσ2 (of_decide_eq_true rfl)).trans (jnp 64 eσ1 (of_decide_eq_true rfl))))))))))] at k139
                      refine lv_istore (lv' := [(5, .int 0), (6, .int r102), (7, .int 0), (4, .int x9), (3, .int x8), (0, .ref (ad 55)), (1, .int a1), (2, .int a2)]) hx hb dX12_workOut_102 hl (of_decide_eq_true rfl) rfl (fun ls hl => ?_)
                      refine lv_goto (tgt := 33) hx hb dX12_workOut_104 (of_decide_eq_true rfl) ?_
                      have z141 : (σ118 55 22).toInt = (σ101 55 22).toInt := (congrArg Int32.toInt (show σ118 55 22 = (σ101 55 22) from (f121 22 (of_decide_eq_true rfl))))
                      exact by exact ihlp6 x8 x9 0 σ118 _ _ ls (by have h92 := jz_0; omega) (by have h92 := jz_0; omega) (by have h92 := jz_0; omega) (by have h92 := jz_0; omega) (by have h92 := jz_0; omega) (by have h92 := jz_0; omega) (by have h92 := jz_0; omega) (by have h92 := jz_0; omega) (by have h92 := jz_0; omega) (by have h92 := jz_0; omega) (by have h92 := jz_0; omega) (fun i hi => ((f120 i hi).trans ((f103 i hi).trans ((f81 i hi).trans ((f65 i hi).trans (f31 i hi)))))) (fun i hi => ((f121 i (imp_173 i hi)).trans ((f104 i hi).trans ((f82 i (imp_173 i hi)).trans ((f66 i hi).trans (f32 i hi))))))  (Or.inr ⟨by decide, jRe.to (jRt.behind (w := x8) (w2 := x8) (v2 := x9) (a2 := (σ101 55 19).toInt) (x2 := (σ101 55 21).toInt) (Or.elim q33 (fun z => z.2) (fun z => False.elim (by have e := z.1; omega))) (jRl.two w68 (by omega) (by omega) (by omega) w106 ⟨fun z => absurd rfl z, fun z => absurd (j0 (by omega)) z⟩) (Or.inr ⟨Or.inl (by omega), rfl, rfl⟩) (fun z => k139 (by omega))) (by omega) (by omega)⟩) hP hS (lv_sub hl [0, 3, 4, 5, 6, 7] rfl)
                 · have kc117 := jnle c117 jz_0 rfl
                   refine lv_iload hx hb dX12_workOut_81 (lv_at hl 1 rfl) ?_
                   refine lv_if_eq (tgt := 96) hx hb dX12_workOut_83 (of_decide_eq_true rfl) (fun _ => ?_) (fun c => absurd (of_decide_eq_true rfl) c)
                   refine lv_aload_n hx hb dX12_workOut_96 rfl (lv_at hl 5 rfl) ?_
                   refine lv_bipush (v := 59) hx hb dX12_workOut_97 (of_decide_eq_true rfl) ?_
                   exact by
                    refine jcallV (As := [.int 59]) (rest := []) ⟨hx, hb, hml, hown, hts⟩ hK hP hA hS hZ (c_X12_takes l D cI cL ad zz hJ σ101 τ 59 (59) jz_59 I105 (by omega)) cw_RX12_196 (jc_55 cI cL ad σ101 τ) rfl ⟨Nat.le_of_ble_eq_true rfl, Nat.le_of_ble_eq_true rfl⟩ rfl rfl rfl hl.1 rfl (Nat.le_of_ble_eq_true rfl) dX12_workOut_99 ⟨Nat.zero_le _, Nat.zero_le _⟩ (fun r143 σ142 τ142 H locs h142 hP hS => ?_)
                    obtain ⟨rfl, f144, f145, I146, h142⟩ := h142
                    obtain ⟨i148, i149, i150, i151, i152⟩ : ((-1) ≤ (σ142 55 18).toInt ∧ (σ142 55 18).toInt ≤ 80) ∧ (0 ≤ (σ142 55 19).toInt) ∧ ((σ142 55 19).toInt ≤ (σ142 55 20).toInt) ∧ ((σ142 55 20).toInt ≤ 80) ∧ ((-1) ≤ (σ142 55 21).toInt ∧ (σ142 55 21).toInt ≤ 80) := id I146
                    have z153 : (σ142 55 18).toInt = A1 := ((congrArg Int32.toInt (show σ142 55 18 = a1 from ((f145 18 (of_decide_eq_true rfl)).trans ((f104 18 (of_decide_eq_true rfl)).trans ((f82 18 (of_decide_eq_true rfl)).trans ((f66 18 (of_decide_eq_true rfl)).trans ((f32 18 (of_decide_eq_true rfl)).trans ((jkp 18 eσ5 (of_decide_eq_true rfl)).trans ((jkp 18 eσ4 (of_decide_eq_true rfl)).trans ((jkp 18 eσ3 (of_decide_eq_true rfl)).trans ((jkp 18 eσ2 (of_decide_eq_true rfl)).trans (jsp eσ1)))))))))))).trans t1)
                    have z154 : (σ142 55 20).toInt = A2 := ((congrArg Int32.toInt (show σ142 55 20 = a2 from ((f145 20 (of_decide_eq_true rfl)).trans ((f104 20 (of_decide_eq_true rfl)).trans ((f82 20 (of_decide_eq_true rfl)).trans ((f66 20 (of_decide_eq_true rfl)).trans ((f32 20 (of_decide_eq_true rfl)).trans ((jkp 20 eσ5 (of_decide_eq_true rfl)).trans ((jkp 20 eσ4 (of_decide_eq_true rfl)).trans (jsp eσ3)))))))))).trans t2)
                    have z155 : (σ142 55 21).toInt = (σ101 55 21).toInt := (congrArg Int32.toInt (show σ142 55 21 = (σ101 55 21) from (f145 21 (of_decide_eq_true rfl))))
                    rcases h142 with h156 | h157
                    · obtain ⟨q161, k158, k159, k160⟩ := h156
                      have q161 := q161.symm
                      subst q161
                      try rw [show (σ101 55 20).toInt = A2 from by omega] at k160
                      try rw [show (σ101 55 18).toInt = A1 from by omega] at k160
                      try rw [show σ101 63 = σ 63 from ((f103 63 (of_decide_eq_true rfl)).trans ((f81 63 (of_decide_eq_true rfl)).trans ((f65 63 (of_decide_eq_true rfl)).trans ((f31 63 (of_decide_eq_true rfl)).trans ((jnp 63 eσ5 (of_decide_eq_true rfl)).trans ((jnp 63 eσ4 (of_decide_eq_true rfl)).trans ((jnp 63 eσ3 (of_decide_eq_true rfl)).trans ((jnp 63 eσ2 (of_decide_eq_true rfl)).trans (jnp 63 eσ1 (of_decide_eq_true rfl))))))))))] at k160
                      try rw [show σ101 64 = σ 64 from ((f103 64 (of_decide_eq_true rfl)).trans ((f81 64 (of_decide_eq_true rfl)).trans ((f65 64 (of_decide_eq_true rfl)).trans ((f31 64 (of_decide_eq_true rfl)).trans ((jnp 64 eσ5 (of_decide_eq_true rfl)).trans ((jnp 64 eσ4 (of_decide_eq_true rfl)).trans ((jnp 64 eσ3 (of_decide_eq_true rfl)).trans ((jnp 64 eσ2 (of_decide_eq_true rfl)).trans (jnp 64 eσ1 (of_decide_eq_true rfl))))))))))] at k160
                      refine lv_istore (lv' := [(5, .int 1), (6, .int r102), (7, .int 0), (4, .int x9), (3, .int x8), (0, .ref (ad 55)), (1, .int a1), (2, .int a2)]) hx hb dX12_workOut_102 hl (of_decide_eq_true rfl) rfl (fun ls hl => ?_)
                      refine lv_goto (tgt := 33) hx hb dX12_workOut_104 (of_decide_eq_true rfl) ?_
                      have z162 : (σ142 55 22).toInt = (σ101 55 22).toInt := (congrArg Int32.toInt (show σ142 55 22 = (σ101 55 22) from (f145 22 (of_decide_eq_true rfl))))
                      exact by exact ihlp6 x8 x9 1 σ142 _ _ ls (by have h92 := jz_1; omega) (by have h92 := jz_1; omega) (by have h92 := jz_1; omega) (by have h92 := jz_1; omega) (by have h92 := jz_1; omega) (by have h92 := jz_1; omega) (by have h92 := jz_1; omega) (by have h92 := jz_1; omega) (by have h92 := jz_1; omega) (by have h92 := jz_1; omega) (by have h92 := jz_1; omega) (fun i hi => ((f144 i hi).trans ((f103 i hi).trans ((f81 i hi).trans ((f65 i hi).trans (f31 i hi)))))) (fun i hi => ((f145 i (imp_173 i hi)).trans ((f104 i hi).trans ((f82 i (imp_173 i hi)).trans ((f66 i hi).trans (f32 i hi))))))  (Or.inl ⟨by decide, jRt.to (jRt.step (w := x8) (w2 := x8) (v2 := x9) (a2 := (σ101 55 19).toInt) (x2 := (σ101 55 21).toInt) (Or.elim q33 (fun z => z.2) (fun z => False.elim (by have e := z.1; omega))) (jRl.two w68 (by omega) (by omega) (by omega) w106 ⟨fun z => absurd rfl z, fun z => absurd (j0 (by omega)) z⟩) (by omega) (Or.inr ⟨Or.inr (Or.inl rfl), rfl, rfl⟩) (by omega) (show (σ142 55 19).toInt = (σ101 55 19).toInt + 1 by omega)) rfl (by omega)⟩) hP hS (lv_sub hl [0, 3, 4, 5, 6, 7] rfl)
                    · obtain ⟨q165, k163, k164⟩ := h157
                      have q165 := q165.symm
                      subst q165
                      try rw [show (σ101 55 20).toInt = A2 from by omega] at k164
                      try rw [show (σ101 55 18).toInt = A1 from by omega] at k164
                      try rw [show σ101 63 = σ 63 from ((f103 63 (of_decide_eq_true rfl)).trans ((f81 63 (of_decide_eq_true rfl)).trans ((f65 63 (of_decide_eq_true rfl)).trans ((f31 63 (of_decide_eq_true rfl)).trans ((jnp 63 eσ5 (of_decide_eq_true rfl)).trans ((jnp 63 eσ4 (of_decide_eq_true rfl)).trans ((jnp 63 eσ3 (of_decide_eq_true rfl)).trans ((jnp 63 eσ2 (of_decide_eq_true rfl)).trans (jnp 63 eσ1 (of_decide_eq_true rfl))))))))))] at k164
                      try rw [show σ101 64 = σ 64 from ((f103 64 (of_decide_eq_true rfl)).trans ((f81 64 (of_decide_eq_true rfl)).trans ((f65 64 (of_decide_eq_true rfl)).trans ((f31 64 (of_decide_eq_true rfl)).trans ((jnp 64 eσ5 (of_decide_eq_true rfl)).trans ((jnp 64 eσ4 (of_decide_eq_true rfl)).trans ((jnp 64 eσ3 (of_decide_eq_true rfl)).trans ((jnp 64 eσ2 (of_decide_eq_true rfl)).trans (jnp 64 eσ1 (of_decide_eq_true rfl))))))))))] at k164
                      refine lv_istore (lv' := [(5, .int 0), (6, .int r102), (7, .int 0), (4, .int x9), (3, .int x8), (0, .ref (ad 55)), (1, .int a1), (2, .int a2)]) hx hb dX12_workOut_102 hl (of_decide_eq_true rfl) rfl (fun ls hl => ?_)
                      refine lv_goto (tgt := 33) hx hb dX12_workOut_104 (of_decide_eq_true rfl) ?_
                      have z166 : (σ142 55 22).toInt = (σ101 55 22).toInt := (congrArg Int32.toInt (show σ142 55 22 = (σ101 55 22) from (f145 22 (of_decide_eq_true rfl))))
                      exact by exact ihlp6 x8 x9 0 σ142 _ _ ls (by have h92 := jz_0; omega) (by have h92 := jz_0; omega) (by have h92 := jz_0; omega) (by have h92 := jz_0; omega) (by have h92 := jz_0; omega) (by have h92 := jz_0; omega) (by have h92 := jz_0; omega) (by have h92 := jz_0; omega) (by have h92 := jz_0; omega) (by have h92 := jz_0; omega) (by have h92 := jz_0; omega) (fun i hi => ((f144 i hi).trans ((f103 i hi).trans ((f81 i hi).trans ((f65 i hi).trans (f31 i hi)))))) (fun i hi => ((f145 i (imp_173 i hi)).trans ((f104 i hi).trans ((f82 i (imp_173 i hi)).trans ((f66 i hi).trans (f32 i hi))))))  (Or.inr ⟨by decide, jRe.to (jRt.behind (w := x8) (w2 := x8) (v2 := x9) (a2 := (σ101 55 19).toInt) (x2 := (σ101 55 21).toInt) (Or.elim q33 (fun z => z.2) (fun z => False.elim (by have e := z.1; omega))) (jRl.two w68 (by omega) (by omega) (by omega) w106 ⟨fun z => absurd rfl z, fun z => absurd (j0 (by omega)) z⟩) (Or.inr ⟨Or.inr (Or.inl rfl), rfl, rfl⟩) (fun z => k164 (by omega))) (by omega) (by omega)⟩) hP hS (lv_sub hl [0, 3, 4, 5, 6, 7] rfl)
              · have kc99 := jne c99 rfl jz_0
                refine lv_iconst (v := 1) hx hb dX12_workOut_61 (of_decide_eq_true rfl) ?_
                refine lv_goto (tgt := 66) hx hb dX12_workOut_62 (of_decide_eq_true rfl) ?_
                refine lv_istore (lv' := [(7, .int 1), (6, .int r64), (5, .int x10), (4, .int x9), (3, .int x8), (0, .ref (ad 55)), (1, .int a1), (2, .int a2)]) hx hb dX12_workOut_66 hl (of_decide_eq_true rfl) rfl (fun ls hl => ?_)
                refine lv_aload_n hx hb dX12_workOut_68 rfl (lv_at hl 5 rfl) ?_
                have z167 : (σ79 55 22).toInt = (σ63 55 22).toInt := (congrArg Int32.toInt (show σ79 55 22 = (σ63 55 22) from (f82 22 (of_decide_eq_true rfl))))
                exact by
                 refine jcallV (As := []) (rest := []) ⟨hx, hb, hml, hown, hts⟩ hK hP hA hS hZ ((c_X12_grammar l D cI cL ad zz hJ 6).2.2.2.2.2 σ79 τ I83 (by omega) (by omega) (by omega)) cw_RX12_217 (jc_55 cI cL ad σ79 τ) rfl ⟨Nat.le_of_ble_eq_true rfl, Nat.le_of_ble_eq_true rfl⟩ rfl rfl rfl hl.1 rfl (Nat.le_of_ble_eq_true rfl) dX12_workOut_69 ⟨Nat.zero_le _, Nat.zero_le _⟩ (fun r169 σ168 τ168 H locs h168 hP hS => ?_)
                 obtain ⟨rfl, f170, f171, I172, w173, h168⟩ := h168
                 obtain ⟨i175, i176, i177, i178, i179⟩ : ((-1) ≤ (σ168 55 18).toInt ∧ (σ168 55 18).toInt ≤ 80) ∧ (0 ≤ (σ168 55 19).toInt) ∧ ((σ168 55 19).toInt ≤ (σ168 55 20).toInt) ∧ ((σ168 55 20).toInt ≤ 80) ∧ ((-1) ≤ (σ168 55 21).toInt ∧ (σ168 55 21).toInt ≤ 80) := id I172
                 try rw [show (σ79 55 20).toInt = A2 from by omega] at w173
                 try rw [show (σ79 55 18).toInt = A1 from by omega] at w173
                 try rw [show σ79 63 = σ 63 from ((f81 63 (of_decide_eq_true rfl)).trans ((f65 63 (of_decide_eq_true rfl)).trans ((f31 63 (of_decide_eq_true rfl)).trans ((jnp 63 eσ5 (of_decide_eq_true rfl)).trans ((jnp 63 eσ4 (of_decide_eq_true rfl)).trans ((jnp 63 eσ3 (of_decide_eq_true rfl)).trans ((jnp 63 eσ2 (of_decide_eq_true rfl)).trans (jnp 63 eσ1 (of_decide_eq_true rfl)))))))))] at w173
                 try rw [show σ79 64 = σ 64 from ((f81 64 (of_decide_eq_true rfl)).trans ((f65 64 (of_decide_eq_true rfl)).trans ((f31 64 (of_decide_eq_true rfl)).trans ((jnp 64 eσ5 (of_decide_eq_true rfl)).trans ((jnp 64 eσ4 (of_decide_eq_true rfl)).trans ((jnp 64 eσ3 (of_decide_eq_true rfl)).trans ((jnp 64 eσ2 (of_decide_eq_true rfl)).trans (jnp 64 eσ1 (of_decide_eq_true rfl)))))))))] at w173
                 try rw [show σ79 66 = σ 66 from by rw [f81 66 (of_decide_eq_true rfl), f65 66 (of_decide_eq_true rfl), f31 66 (of_decide_eq_true rfl), jnp 66 eσ5 (of_decide_eq_true rfl), jnp 66 eσ4 (of_decide_eq_true rfl), jnp 66 eσ3 (of_decide_eq_true rfl), jnp 66 eσ2 (of_decide_eq_true rfl), jnp 66 eσ1 (of_decide_eq_true rfl)]] at w173
                 try rw [show (σ79 55 22).toInt = 0 from by omega] at w173
                 have z180 : (σ168 55 18).toInt = A1 := ((congrArg Int32.toInt (show σ168 55 18 = a1 from ((f171 18 (of_decide_eq_true rfl)).trans ((f82 18 (of_decide_eq_true rfl)).trans ((f66 18 (of_decide_eq_true rfl)).trans ((f32 18 (of_decide_eq_true rfl)).trans ((jkp 18 eσ5 (of_decide_eq_true rfl)).trans ((jkp 18 eσ4 (of_decide_eq_true rfl)).trans ((jkp 18 eσ3 (of_decide_eq_true rfl)).trans ((jkp 18 eσ2 (of_decide_eq_true rfl)).trans (jsp eσ1))))))))))).trans t1)
                 have z181 : (σ168 55 20).toInt = A2 := ((congrArg Int32.toInt (show σ168 55 20 = a2 from ((f171 20 (of_decide_eq_true rfl)).trans ((f82 20 (of_decide_eq_true rfl)).trans ((f66 20 (of_decide_eq_true rfl)).trans ((f32 20 (of_decide_eq_true rfl)).trans ((jkp 20 eσ5 (of_decide_eq_true rfl)).trans ((jkp 20 eσ4 (of_decide_eq_true rfl)).trans (jsp eσ3))))))))).trans t2)
                 obtain ⟨k182, k183, h168⟩ := h168
                 refine lv_istore (lv' := [(6, .int r169), (7, .int 1), (5, .int x10), (4, .int x9), (3, .int x8), (0, .ref (ad 55)), (1, .int a1), (2, .int a2)]) hx hb dX12_workOut_72 hl (of_decide_eq_true rfl) rfl (fun ls hl => ?_)
                 refine lv_aload_n hx hb dX12_workOut_74 rfl (lv_at hl 5 rfl) ?_
                 refine va_get (D := D) hx hb hts inlX12 hown hK hP 55 (jc_55 cI cL ad σ168 τ) rfl 21 (of_decide_eq_true rfl) (hts _ kw_15_13) (fun _ h9 => h9) rfl dX12_workOut_75 ?_
                 refine lv_if_ge (tgt := 96) hx hb dX12_workOut_78 (of_decide_eq_true rfl) (fun c184 => ?_) (fun c184 => ?_)
                 · have kc184 := jle c184 jz_0 rfl
                   refine lv_aload_n hx hb dX12_workOut_96 rfl (lv_at hl 5 rfl) ?_
                   refine lv_bipush (v := 59) hx hb dX12_workOut_97 (of_decide_eq_true rfl) ?_
                   exact by
                    refine jcallV (As := [.int 59]) (rest := []) ⟨hx, hb, hml, hown, hts⟩ hK hP hA hS hZ (c_X12_takes l D cI cL ad zz hJ σ168 τ 59 (59) jz_59 I172 (by omega)) cw_RX12_196 (jc_55 cI cL ad σ168 τ) rfl ⟨Nat.le_of_ble_eq_true rfl, Nat.le_of_ble_eq_true rfl⟩ rfl rfl rfl hl.1 rfl (Nat.le_of_ble_eq_true rfl) dX12_workOut_99 ⟨Nat.zero_le _, Nat.zero_le _⟩ (fun r186 σ185 τ185 H locs h185 hP hS => ?_)
                    obtain ⟨rfl, f187, f188, I189, h185⟩ := h185
                    obtain ⟨i191, i192, i193, i194, i195⟩ : ((-1) ≤ (σ185 55 18).toInt ∧ (σ185 55 18).toInt ≤ 80) ∧ (0 ≤ (σ185 55 19).toInt) ∧ ((σ185 55 19).toInt ≤ (σ185 55 20).toInt) ∧ ((σ185 55 20).toInt ≤ 80) ∧ ((-1) ≤ (σ185 55 21).toInt ∧ (σ185 55 21).toInt ≤ 80) := id I189
                    have z196 : (σ185 55 18).toInt = A1 := ((congrArg Int32.toInt (show σ185 55 18 = a1 from ((f188 18 (of_decide_eq_true rfl)).trans ((f171 18 (of_decide_eq_true rfl)).trans ((f82 18 (of_decide_eq_true rfl)).trans ((f66 18 (of_decide_eq_true rfl)).trans ((f32 18 (of_decide_eq_true rfl)).trans ((jkp 18 eσ5 (of_decide_eq_true rfl)).trans ((jkp 18 eσ4 (of_decide_eq_true rfl)).trans ((jkp 18 eσ3 (of_decide_eq_true rfl)).trans ((jkp 18 eσ2 (of_decide_eq_true rfl)).trans (jsp eσ1)))))))))))).trans t1)
                    have z197 : (σ185 55 20).toInt = A2 := ((congrArg Int32.toInt (show σ185 55 20 = a2 from ((f188 20 (of_decide_eq_true rfl)).trans ((f171 20 (of_decide_eq_true rfl)).trans ((f82 20 (of_decide_eq_true rfl)).trans ((f66 20 (of_decide_eq_true rfl)).trans ((f32 20 (of_decide_eq_true rfl)).trans ((jkp 20 eσ5 (of_decide_eq_true rfl)).trans ((jkp 20 eσ4 (of_decide_eq_true rfl)).trans (jsp eσ3)))))))))).trans t2)
                    have z198 : (σ185 55 21).toInt = (σ168 55 21).toInt := (congrArg Int32.toInt (show σ185 55 21 = (σ168 55 21) from (f188 21 (of_decide_eq_true rfl))))
                    rcases h185 with h199 | h200
                    · obtain ⟨q204, k201, k202, k203⟩ := h199
                      exact absurd (by omega : False) id
                    · obtain ⟨q207, k205, k206⟩ := h200
                      have q207 := q207.symm
                      subst q207
                      try rw [show (σ168 55 20).toInt = A2 from by omega] at k206
                      try rw [show (σ168 55 18).toInt = A1 from by omega] at k206
                      try rw [show σ168 63 = σ 63 from ((f170 63 (of_decide_eq_true rfl)).trans ((f81 63 (of_decide_eq_true rfl)).trans ((f65 63 (of_decide_eq_true rfl)).trans ((f31 63 (of_decide_eq_true rfl)).trans ((jnp 63 eσ5 (of_decide_eq_true rfl)).trans ((jnp 63 eσ4 (of_decide_eq_true rfl)).trans ((jnp 63 eσ3 (of_decide_eq_true rfl)).trans ((jnp 63 eσ2 (of_decide_eq_true rfl)).trans (jnp 63 eσ1 (of_decide_eq_true rfl))))))))))] at k206
                      try rw [show σ168 64 = σ 64 from ((f170 64 (of_decide_eq_true rfl)).trans ((f81 64 (of_decide_eq_true rfl)).trans ((f65 64 (of_decide_eq_true rfl)).trans ((f31 64 (of_decide_eq_true rfl)).trans ((jnp 64 eσ5 (of_decide_eq_true rfl)).trans ((jnp 64 eσ4 (of_decide_eq_true rfl)).trans ((jnp 64 eσ3 (of_decide_eq_true rfl)).trans ((jnp 64 eσ2 (of_decide_eq_true rfl)).trans (jnp 64 eσ1 (of_decide_eq_true rfl))))))))))] at k206
                      refine lv_istore (lv' := [(5, .int 0), (6, .int r169), (7, .int 1), (4, .int x9), (3, .int x8), (0, .ref (ad 55)), (1, .int a1), (2, .int a2)]) hx hb dX12_workOut_102 hl (of_decide_eq_true rfl) rfl (fun ls hl => ?_)
                      refine lv_goto (tgt := 33) hx hb dX12_workOut_104 (of_decide_eq_true rfl) ?_
                      have z208 : (σ185 55 22).toInt = (σ168 55 22).toInt := (congrArg Int32.toInt (show σ185 55 22 = (σ168 55 22) from (f188 22 (of_decide_eq_true rfl))))
                      exact by exact ihlp6 x8 x9 0 σ185 _ _ ls (by have h92 := jz_0; omega) (by have h92 := jz_0; omega) (by have h92 := jz_0; omega) (by have h92 := jz_0; omega) (by have h92 := jz_0; omega) (by have h92 := jz_0; omega) (by have h92 := jz_0; omega) (by have h92 := jz_0; omega) (by have h92 := jz_0; omega) (by have h92 := jz_0; omega) (by have h92 := jz_0; omega) (fun i hi => ((f187 i hi).trans ((f170 i hi).trans ((f81 i hi).trans ((f65 i hi).trans (f31 i hi)))))) (fun i hi => ((f188 i (imp_173 i hi)).trans ((f171 i hi).trans ((f82 i (imp_173 i hi)).trans ((f66 i hi).trans (f32 i hi))))))  (Or.inr ⟨by decide, jRe.to (jRt.behind (w := x8) (w2 := x8) (v2 := x9) (a2 := (σ168 55 19).toInt) (x2 := (σ168 55 21).toInt) (Or.elim q33 (fun z => z.2) (fun z => False.elim (by have e := z.1; omega))) (jRl.two w68 (by omega) (by omega) (by omega) w173 ⟨fun _ => jn0 (by omega), fun _ => (by decide : (1 : Int32) ≠ 0)⟩) (Or.inr ⟨Or.inl (by omega), rfl, rfl⟩) (fun z => k206 (by omega))) (by omega) (by omega)⟩) hP hS (lv_sub hl [0, 3, 4, 5, 6, 7] rfl)
                 · have kc184 := jnle c184 jz_0 rfl
                   refine lv_iload hx hb dX12_workOut_81 (lv_at hl 1 rfl) ?_
                   refine lv_if_eq (tgt := 96) hx hb dX12_workOut_83 (of_decide_eq_true rfl) (fun c => absurd c (of_decide_eq_true rfl)) (fun _ => ?_)
                   refine lv_iload_n hx hb dX12_workOut_86 rfl (lv_at hl 4 rfl) ?_
                   refine lv_if_ne (tgt := 96) hx hb dX12_workOut_87 (of_decide_eq_true rfl) (fun c209 => ?_) (fun c209 => ?_)
                   · have kc209 := jne c209 rfl jz_0
                     refine lv_aload_n hx hb dX12_workOut_96 rfl (lv_at hl 5 rfl) ?_
                     refine lv_bipush (v := 59) hx hb dX12_workOut_97 (of_decide_eq_true rfl) ?_
                     exact by
                      refine jcallV (As := [.int 59]) (rest := []) ⟨hx, hb, hml, hown, hts⟩ hK hP hA hS hZ (c_X12_takes l D cI cL ad zz hJ σ168 τ 59 (59) jz_59 I172 (by omega)) cw_RX12_196 (jc_55 cI cL ad σ168 τ) rfl ⟨Nat.le_of_ble_eq_true rfl, Nat.le_of_ble_eq_true rfl⟩ rfl rfl rfl hl.1 rfl (Nat.le_of_ble_eq_true rfl) dX12_workOut_99 ⟨Nat.zero_le _, Nat.zero_le _⟩ (fun r211 σ210 τ210 H locs h210 hP hS => ?_)
                      obtain ⟨rfl, f212, f213, I214, h210⟩ := h210
                      obtain ⟨i216, i217, i218, i219, i220⟩ : ((-1) ≤ (σ210 55 18).toInt ∧ (σ210 55 18).toInt ≤ 80) ∧ (0 ≤ (σ210 55 19).toInt) ∧ ((σ210 55 19).toInt ≤ (σ210 55 20).toInt) ∧ ((σ210 55 20).toInt ≤ 80) ∧ ((-1) ≤ (σ210 55 21).toInt ∧ (σ210 55 21).toInt ≤ 80) := id I214
                      have z221 : (σ210 55 18).toInt = A1 := ((congrArg Int32.toInt (show σ210 55 18 = a1 from ((f213 18 (of_decide_eq_true rfl)).trans ((f171 18 (of_decide_eq_true rfl)).trans ((f82 18 (of_decide_eq_true rfl)).trans ((f66 18 (of_decide_eq_true rfl)).trans ((f32 18 (of_decide_eq_true rfl)).trans ((jkp 18 eσ5 (of_decide_eq_true rfl)).trans ((jkp 18 eσ4 (of_decide_eq_true rfl)).trans ((jkp 18 eσ3 (of_decide_eq_true rfl)).trans ((jkp 18 eσ2 (of_decide_eq_true rfl)).trans (jsp eσ1)))))))))))).trans t1)
                      have z222 : (σ210 55 20).toInt = A2 := ((congrArg Int32.toInt (show σ210 55 20 = a2 from ((f213 20 (of_decide_eq_true rfl)).trans ((f171 20 (of_decide_eq_true rfl)).trans ((f82 20 (of_decide_eq_true rfl)).trans ((f66 20 (of_decide_eq_true rfl)).trans ((f32 20 (of_decide_eq_true rfl)).trans ((jkp 20 eσ5 (of_decide_eq_true rfl)).trans ((jkp 20 eσ4 (of_decide_eq_true rfl)).trans (jsp eσ3)))))))))).trans t2)
                      have z223 : (σ210 55 21).toInt = (σ168 55 21).toInt := (congrArg Int32.toInt (show σ210 55 21 = (σ168 55 21) from (f213 21 (of_decide_eq_true rfl))))
                      rcases h210 with h224 | h225
                      · obtain ⟨q229, k226, k227, k228⟩ := h224
                        have q229 := q229.symm
                        subst q229
                        try rw [show (σ168 55 20).toInt = A2 from by omega] at k228
                        try rw [show (σ168 55 18).toInt = A1 from by omega] at k228
                        try rw [show σ168 63 = σ 63 from ((f170 63 (of_decide_eq_true rfl)).trans ((f81 63 (of_decide_eq_true rfl)).trans ((f65 63 (of_decide_eq_true rfl)).trans ((f31 63 (of_decide_eq_true rfl)).trans ((jnp 63 eσ5 (of_decide_eq_true rfl)).trans ((jnp 63 eσ4 (of_decide_eq_true rfl)).trans ((jnp 63 eσ3 (of_decide_eq_true rfl)).trans ((jnp 63 eσ2 (of_decide_eq_true rfl)).trans (jnp 63 eσ1 (of_decide_eq_true rfl))))))))))] at k228
                        try rw [show σ168 64 = σ 64 from ((f170 64 (of_decide_eq_true rfl)).trans ((f81 64 (of_decide_eq_true rfl)).trans ((f65 64 (of_decide_eq_true rfl)).trans ((f31 64 (of_decide_eq_true rfl)).trans ((jnp 64 eσ5 (of_decide_eq_true rfl)).trans ((jnp 64 eσ4 (of_decide_eq_true rfl)).trans ((jnp 64 eσ3 (of_decide_eq_true rfl)).trans ((jnp 64 eσ2 (of_decide_eq_true rfl)).trans (jnp 64 eσ1 (of_decide_eq_true rfl))))))))))] at k228
                        refine lv_istore (lv' := [(5, .int 1), (6, .int r169), (7, .int 1), (4, .int x9), (3, .int x8), (0, .ref (ad 55)), (1, .int a1), (2, .int a2)]) hx hb dX12_workOut_102 hl (of_decide_eq_true rfl) rfl (fun ls hl => ?_)
                        refine lv_goto (tgt := 33) hx hb dX12_workOut_104 (of_decide_eq_true rfl) ?_
                        have z230 : (σ210 55 22).toInt = (σ168 55 22).toInt := (congrArg Int32.toInt (show σ210 55 22 = (σ168 55 22) from (f213 22 (of_decide_eq_true rfl))))
                        exact by exact ihlp6 x8 x9 1 σ210 _ _ ls (by have h92 := jz_1; omega) (by have h92 := jz_1; omega) (by have h92 := jz_1; omega) (by have h92 := jz_1; omega) (by have h92 := jz_1; omega) (by have h92 := jz_1; omega) (by have h92 := jz_1; omega) (by have h92 := jz_1; omega) (by have h92 := jz_1; omega) (by have h92 := jz_1; omega) (by have h92 := jz_1; omega) (fun i hi => ((f212 i hi).trans ((f170 i hi).trans ((f81 i hi).trans ((f65 i hi).trans (f31 i hi)))))) (fun i hi => ((f213 i (imp_173 i hi)).trans ((f171 i hi).trans ((f82 i (imp_173 i hi)).trans ((f66 i hi).trans (f32 i hi))))))  (Or.inl ⟨by decide, jRt.to (jRt.step (w := x8) (w2 := x8) (v2 := x9) (a2 := (σ168 55 19).toInt) (x2 := (σ168 55 21).toInt) (Or.elim q33 (fun z => z.2) (fun z => False.elim (by have e := z.1; omega))) (jRl.two w68 (by omega) (by omega) (by omega) w173 ⟨fun _ => jn0 (by omega), fun _ => (by decide : (1 : Int32) ≠ 0)⟩) (by omega) (Or.inr ⟨Or.inr (Or.inr (jn0 (by omega))), rfl, rfl⟩) (by omega) (show (σ210 55 19).toInt = (σ168 55 19).toInt + 1 by omega)) rfl (by omega)⟩) hP hS (lv_sub hl [0, 3, 4, 5, 6, 7] rfl)
                      · obtain ⟨q233, k231, k232⟩ := h225
                        have q233 := q233.symm
                        subst q233
                        try rw [show (σ168 55 20).toInt = A2 from by omega] at k232
                        try rw [show (σ168 55 18).toInt = A1 from by omega] at k232
                        try rw [show σ168 63 = σ 63 from ((f170 63 (of_decide_eq_true rfl)).trans ((f81 63 (of_decide_eq_true rfl)).trans ((f65 63 (of_decide_eq_true rfl)).trans ((f31 63 (of_decide_eq_true rfl)).trans ((jnp 63 eσ5 (of_decide_eq_true rfl)).trans ((jnp 63 eσ4 (of_decide_eq_true rfl)).trans ((jnp 63 eσ3 (of_decide_eq_true rfl)).trans ((jnp 63 eσ2 (of_decide_eq_true rfl)).trans (jnp 63 eσ1 (of_decide_eq_true rfl))))))))))] at k232
                        try rw [show σ168 64 = σ 64 from ((f170 64 (of_decide_eq_true rfl)).trans ((f81 64 (of_decide_eq_true rfl)).trans ((f65 64 (of_decide_eq_true rfl)).trans ((f31 64 (of_decide_eq_true rfl)).trans ((jnp 64 eσ5 (of_decide_eq_true rfl)).trans ((jnp 64 eσ4 (of_decide_eq_true rfl)).trans ((jnp 64 eσ3 (of_decide_eq_true rfl)).trans ((jnp 64 eσ2 (of_decide_eq_true rfl)).trans (jnp 64 eσ1 (of_decide_eq_true rfl))))))))))] at k232
                        refine lv_istore (lv' := [(5, .int 0), (6, .int r169), (7, .int 1), (4, .int x9), (3, .int x8), (0, .ref (ad 55)), (1, .int a1), (2, .int a2)]) hx hb dX12_workOut_102 hl (of_decide_eq_true rfl) rfl (fun ls hl => ?_)
                        refine lv_goto (tgt := 33) hx hb dX12_workOut_104 (of_decide_eq_true rfl) ?_
                        have z234 : (σ210 55 22).toInt = (σ168 55 22).toInt := (congrArg Int32.toInt (show σ210 55 22 = (σ168 55 22) from (f213 22 (of_decide_eq_true rfl))))
                        exact by exact ihlp6 x8 x9 0 σ210 _ _ ls (by have h92 := jz_0; omega) (by have h92 := jz_0; omega) (by have h92 := jz_0; omega) (by have h92 := jz_0; omega) (by have h92 := jz_0; omega) (by have h92 := jz_0; omega) (by have h92 := jz_0; omega) (by have h92 := jz_0; omega) (by have h92 := jz_0; omega) (by have h92 := jz_0; omega) (by have h92 := jz_0; omega) (fun i hi => ((f212 i hi).trans ((f170 i hi).trans ((f81 i hi).trans ((f65 i hi).trans (f31 i hi)))))) (fun i hi => ((f213 i (imp_173 i hi)).trans ((f171 i hi).trans ((f82 i (imp_173 i hi)).trans ((f66 i hi).trans (f32 i hi))))))  (Or.inr ⟨by decide, jRe.to (jRt.behind (w := x8) (w2 := x8) (v2 := x9) (a2 := (σ168 55 19).toInt) (x2 := (σ168 55 21).toInt) (Or.elim q33 (fun z => z.2) (fun z => False.elim (by have e := z.1; omega))) (jRl.two w68 (by omega) (by omega) (by omega) w173 ⟨fun _ => jn0 (by omega), fun _ => (by decide : (1 : Int32) ≠ 0)⟩) (Or.inr ⟨Or.inr (Or.inr (jn0 (by omega))), rfl, rfl⟩) (fun z => k232 (by omega))) (by omega) (by omega)⟩) hP hS (lv_sub hl [0, 3, 4, 5, 6, 7] rfl)
                   · have kc209 := jeq c209 rfl jz_0
                     refine lv_iconst (v := 1) hx hb dX12_workOut_90 (of_decide_eq_true rfl) ?_
                     refine lv_istore_n (lv' := [(3, .int 1), (6, .int r169), (7, .int 1), (5, .int x10), (4, .int x9), (0, .ref (ad 55)), (1, .int a1), (2, .int a2)]) hx hb dX12_workOut_91 rfl hl (of_decide_eq_true rfl) rfl (fun ls hl => ?_)
                     refine lv_iload hx hb dX12_workOut_92 (lv_at hl 1 rfl) ?_
                     refine lv_istore (lv' := [(4, .int r169), (3, .int 1), (6, .int r169), (7, .int 1), (5, .int x10), (0, .ref (ad 55)), (1, .int a1), (2, .int a2)]) hx hb dX12_workOut_94 hl (of_decide_eq_true rfl) rfl (fun ls hl => ?_)
                     refine lv_aload_n hx hb dX12_workOut_96 rfl (lv_at hl 5 rfl) ?_
                     refine lv_bipush (v := 59) hx hb dX12_workOut_97 (of_decide_eq_true rfl) ?_
                     exact by
                      refine jcallV (As := [.int 59]) (rest := []) ⟨hx, hb, hml, hown, hts⟩ hK hP hA hS hZ (c_X12_takes l D cI cL ad zz hJ σ168 τ 59 (59) jz_59 I172 (by omega)) cw_RX12_196 (jc_55 cI cL ad σ168 τ) rfl ⟨Nat.le_of_ble_eq_true rfl, Nat.le_of_ble_eq_true rfl⟩ rfl rfl rfl hl.1 rfl (Nat.le_of_ble_eq_true rfl) dX12_workOut_99 ⟨Nat.zero_le _, Nat.zero_le _⟩ (fun r236 σ235 τ235 H locs h235 hP hS => ?_)
                      obtain ⟨rfl, f237, f238, I239, h235⟩ := h235
                      obtain ⟨i241, i242, i243, i244, i245⟩ : ((-1) ≤ (σ235 55 18).toInt ∧ (σ235 55 18).toInt ≤ 80) ∧ (0 ≤ (σ235 55 19).toInt) ∧ ((σ235 55 19).toInt ≤ (σ235 55 20).toInt) ∧ ((σ235 55 20).toInt ≤ 80) ∧ ((-1) ≤ (σ235 55 21).toInt ∧ (σ235 55 21).toInt ≤ 80) := id I239
                      have z246 : (σ235 55 18).toInt = A1 := ((congrArg Int32.toInt (show σ235 55 18 = a1 from ((f238 18 (of_decide_eq_true rfl)).trans ((f171 18 (of_decide_eq_true rfl)).trans ((f82 18 (of_decide_eq_true rfl)).trans ((f66 18 (of_decide_eq_true rfl)).trans ((f32 18 (of_decide_eq_true rfl)).trans ((jkp 18 eσ5 (of_decide_eq_true rfl)).trans ((jkp 18 eσ4 (of_decide_eq_true rfl)).trans ((jkp 18 eσ3 (of_decide_eq_true rfl)).trans ((jkp 18 eσ2 (of_decide_eq_true rfl)).trans (jsp eσ1)))))))))))).trans t1)
                      have z247 : (σ235 55 20).toInt = A2 := ((congrArg Int32.toInt (show σ235 55 20 = a2 from ((f238 20 (of_decide_eq_true rfl)).trans ((f171 20 (of_decide_eq_true rfl)).trans ((f82 20 (of_decide_eq_true rfl)).trans ((f66 20 (of_decide_eq_true rfl)).trans ((f32 20 (of_decide_eq_true rfl)).trans ((jkp 20 eσ5 (of_decide_eq_true rfl)).trans ((jkp 20 eσ4 (of_decide_eq_true rfl)).trans (jsp eσ3)))))))))).trans t2)
                      have z248 : (σ235 55 21).toInt = (σ168 55 21).toInt := (congrArg Int32.toInt (show σ235 55 21 = (σ168 55 21) from (f238 21 (of_decide_eq_true rfl))))
                      rcases h235 with h249 | h250
                      · obtain ⟨q254, k251, k252, k253⟩ := h249
                        have q254 := q254.symm
                        subst q254
                        try rw [show (σ168 55 20).toInt = A2 from by omega] at k253
                        try rw [show (σ168 55 18).toInt = A1 from by omega] at k253
                        try rw [show σ168 63 = σ 63 from ((f170 63 (of_decide_eq_true rfl)).trans ((f81 63 (of_decide_eq_true rfl)).trans ((f65 63 (of_decide_eq_true rfl)).trans ((f31 63 (of_decide_eq_true rfl)).trans ((jnp 63 eσ5 (of_decide_eq_true rfl)).trans ((jnp 63 eσ4 (of_decide_eq_true rfl)).trans ((jnp 63 eσ3 (of_decide_eq_true rfl)).trans ((jnp 63 eσ2 (of_decide_eq_true rfl)).trans (jnp 63 eσ1 (of_decide_eq_true rfl))))))))))] at k253
                        try rw [show σ168 64 = σ 64 from ((f170 64 (of_decide_eq_true rfl)).trans ((f81 64 (of_decide_eq_true rfl)).trans ((f65 64 (of_decide_eq_true rfl)).trans ((f31 64 (of_decide_eq_true rfl)).trans ((jnp 64 eσ5 (of_decide_eq_true rfl)).trans ((jnp 64 eσ4 (of_decide_eq_true rfl)).trans ((jnp 64 eσ3 (of_decide_eq_true rfl)).trans ((jnp 64 eσ2 (of_decide_eq_true rfl)).trans (jnp 64 eσ1 (of_decide_eq_true rfl))))))))))] at k253
                        refine lv_istore (lv' := [(5, .int 1), (4, .int r169), (3, .int 1), (6, .int r169), (7, .int 1), (0, .ref (ad 55)), (1, .int a1), (2, .int a2)]) hx hb dX12_workOut_102 hl (of_decide_eq_true rfl) rfl (fun ls hl => ?_)
                        refine lv_goto (tgt := 33) hx hb dX12_workOut_104 (of_decide_eq_true rfl) ?_
                        have z255 : (σ235 55 22).toInt = (σ168 55 22).toInt := (congrArg Int32.toInt (show σ235 55 22 = (σ168 55 22) from (f238 22 (of_decide_eq_true rfl))))
                        exact by exact ihlp6 1 r169 1 σ235 _ _ ls (by have h90 := jz_1; have h92 := jz_1; omega) (by have h90 := jz_1; have h92 := jz_1; omega) (by have h90 := jz_1; have h92 := jz_1; omega) (by have h90 := jz_1; have h92 := jz_1; omega) (by have h90 := jz_1; have h92 := jz_1; omega) (by have h90 := jz_1; have h92 := jz_1; omega) (by have h90 := jz_1; have h92 := jz_1; omega) (by have h90 := jz_1; have h92 := jz_1; omega) (by have h90 := jz_1; have h92 := jz_1; omega) (by have h90 := jz_1; have h92 := jz_1; omega) (by have h90 := jz_1; have h92 := jz_1; omega) (fun i hi => ((f237 i hi).trans ((f170 i hi).trans ((f81 i hi).trans ((f65 i hi).trans (f31 i hi)))))) (fun i hi => ((f238 i (imp_173 i hi)).trans ((f171 i hi).trans ((f82 i (imp_173 i hi)).trans ((f66 i hi).trans (f32 i hi))))))  (Or.inl ⟨by decide, jRt.to (jRt.step (w := x8) (w2 := 1) (v2 := r169) (a2 := (σ168 55 19).toInt) (x2 := (σ168 55 21).toInt) (Or.elim q33 (fun z => z.2) (fun z => False.elim (by have e := z.1; omega))) (jRl.two w68 (by omega) (by omega) (by omega) w173 ⟨fun _ => jn0 (by omega), fun _ => (by decide : (1 : Int32) ≠ 0)⟩) (by omega) (Or.inl ⟨by omega, (by decide : (1 : Int32) ≠ 0), j0 (by omega), by decide, rfl⟩) (by omega) (show (σ235 55 19).toInt = (σ168 55 19).toInt + 1 by omega)) rfl (by omega)⟩) hP hS (lv_sub hl [0, 1, 2, 5, 6, 7] rfl)
                      · obtain ⟨q258, k256, k257⟩ := h250
                        have q258 := q258.symm
                        subst q258
                        try rw [show (σ168 55 20).toInt = A2 from by omega] at k257
                        try rw [show (σ168 55 18).toInt = A1 from by omega] at k257
                        try rw [show σ168 63 = σ 63 from ((f170 63 (of_decide_eq_true rfl)).trans ((f81 63 (of_decide_eq_true rfl)).trans ((f65 63 (of_decide_eq_true rfl)).trans ((f31 63 (of_decide_eq_true rfl)).trans ((jnp 63 eσ5 (of_decide_eq_true rfl)).trans ((jnp 63 eσ4 (of_decide_eq_true rfl)).trans ((jnp 63 eσ3 (of_decide_eq_true rfl)).trans ((jnp 63 eσ2 (of_decide_eq_true rfl)).trans (jnp 63 eσ1 (of_decide_eq_true rfl))))))))))] at k257
                        try rw [show σ168 64 = σ 64 from ((f170 64 (of_decide_eq_true rfl)).trans ((f81 64 (of_decide_eq_true rfl)).trans ((f65 64 (of_decide_eq_true rfl)).trans ((f31 64 (of_decide_eq_true rfl)).trans ((jnp 64 eσ5 (of_decide_eq_true rfl)).trans ((jnp 64 eσ4 (of_decide_eq_true rfl)).trans ((jnp 64 eσ3 (of_decide_eq_true rfl)).trans ((jnp 64 eσ2 (of_decide_eq_true rfl)).trans (jnp 64 eσ1 (of_decide_eq_true rfl))))))))))] at k257
                        refine lv_istore (lv' := [(5, .int 0), (4, .int r169), (3, .int 1), (6, .int r169), (7, .int 1), (0, .ref (ad 55)), (1, .int a1), (2, .int a2)]) hx hb dX12_workOut_102 hl (of_decide_eq_true rfl) rfl (fun ls hl => ?_)
                        refine lv_goto (tgt := 33) hx hb dX12_workOut_104 (of_decide_eq_true rfl) ?_
                        have z259 : (σ235 55 22).toInt = (σ168 55 22).toInt := (congrArg Int32.toInt (show σ235 55 22 = (σ168 55 22) from (f238 22 (of_decide_eq_true rfl))))
                        exact by exact ihlp6 1 r169 0 σ235 _ _ ls (by have h90 := jz_1; have h92 := jz_0; omega) (by have h90 := jz_1; have h92 := jz_0; omega) (by have h90 := jz_1; have h92 := jz_0; omega) (by have h90 := jz_1; have h92 := jz_0; omega) (by have h90 := jz_1; have h92 := jz_0; omega) (by have h90 := jz_1; have h92 := jz_0; omega) (by have h90 := jz_1; have h92 := jz_0; omega) (by have h90 := jz_1; have h92 := jz_0; omega) (by have h90 := jz_1; have h92 := jz_0; omega) (by have h90 := jz_1; have h92 := jz_0; omega) (by have h90 := jz_1; have h92 := jz_0; omega) (fun i hi => ((f237 i hi).trans ((f170 i hi).trans ((f81 i hi).trans ((f65 i hi).trans (f31 i hi)))))) (fun i hi => ((f238 i (imp_173 i hi)).trans ((f171 i hi).trans ((f82 i (imp_173 i hi)).trans ((f66 i hi).trans (f32 i hi))))))  (Or.inr ⟨by decide, jRe.to (jRt.behind (w := x8) (w2 := 1) (v2 := r169) (a2 := (σ168 55 19).toInt) (x2 := (σ168 55 21).toInt) (Or.elim q33 (fun z => z.2) (fun z => False.elim (by have e := z.1; omega))) (jRl.two w68 (by omega) (by omega) (by omega) w173 ⟨fun _ => jn0 (by omega), fun _ => (by decide : (1 : Int32) ≠ 0)⟩) (Or.inl ⟨by omega, (by decide : (1 : Int32) ≠ 0), j0 (by omega), by decide, rfl⟩) (fun z => k257 (by omega))) (by omega) (by omega)⟩) hP hS (lv_sub hl [0, 1, 2, 5, 6, 7] rfl)
            · obtain ⟨q262, k260, k261⟩ := h94
              have q262 := q262.symm
              subst q262
              try rw [show (σ63 55 20).toInt = A2 from by omega] at k261
              try rw [show (σ63 55 18).toInt = A1 from by omega] at k261
              try rw [show σ63 63 = σ 63 from ((f65 63 (of_decide_eq_true rfl)).trans ((f31 63 (of_decide_eq_true rfl)).trans ((jnp 63 eσ5 (of_decide_eq_true rfl)).trans ((jnp 63 eσ4 (of_decide_eq_true rfl)).trans ((jnp 63 eσ3 (of_decide_eq_true rfl)).trans ((jnp 63 eσ2 (of_decide_eq_true rfl)).trans (jnp 63 eσ1 (of_decide_eq_true rfl))))))))] at k261
              try rw [show σ63 64 = σ 64 from ((f65 64 (of_decide_eq_true rfl)).trans ((f31 64 (of_decide_eq_true rfl)).trans ((jnp 64 eσ5 (of_decide_eq_true rfl)).trans ((jnp 64 eσ4 (of_decide_eq_true rfl)).trans ((jnp 64 eσ3 (of_decide_eq_true rfl)).trans ((jnp 64 eσ2 (of_decide_eq_true rfl)).trans (jnp 64 eσ1 (of_decide_eq_true rfl))))))))] at k261
              refine lv_if_eq (tgt := 74) hx hb dX12_workOut_53 (of_decide_eq_true rfl) (fun _ => ?_) (fun c => absurd (of_decide_eq_true rfl) c)
              refine lv_aload_n hx hb dX12_workOut_74 rfl (lv_at hl 5 rfl) ?_
              refine va_get (D := D) hx hb hts inlX12 hown hK hP 55 (jc_55 cI cL ad σ79 τ) rfl 21 (of_decide_eq_true rfl) (hts _ kw_15_13) (fun _ h9 => h9) rfl dX12_workOut_75 ?_
              have m263 : σ79 55 21 = (σ63 55 21) := (f82 21 (of_decide_eq_true rfl))
              refine jtopr m263 ?_
              refine lv_if_ge (tgt := 96) hx hb dX12_workOut_78 (of_decide_eq_true rfl) (fun c264 => ?_) (fun c264 => ?_)
              · have kc264 := jle c264 jz_0 rfl
                refine lv_aload_n hx hb dX12_workOut_96 rfl (lv_at hl 5 rfl) ?_
                refine lv_bipush (v := 59) hx hb dX12_workOut_97 (of_decide_eq_true rfl) ?_
                exact by
                 refine jcallV (As := [.int 59]) (rest := []) ⟨hx, hb, hml, hown, hts⟩ hK hP hA hS hZ (c_X12_takes l D cI cL ad zz hJ σ79 τ 59 (59) jz_59 I83 (by omega)) cw_RX12_196 (jc_55 cI cL ad σ79 τ) rfl ⟨Nat.le_of_ble_eq_true rfl, Nat.le_of_ble_eq_true rfl⟩ rfl rfl rfl hl.1 rfl (Nat.le_of_ble_eq_true rfl) dX12_workOut_99 ⟨Nat.zero_le _, Nat.zero_le _⟩ (fun r266 σ265 τ265 H locs h265 hP hS => ?_)
                 obtain ⟨rfl, f267, f268, I269, h265⟩ := h265
                 obtain ⟨i271, i272, i273, i274, i275⟩ : ((-1) ≤ (σ265 55 18).toInt ∧ (σ265 55 18).toInt ≤ 80) ∧ (0 ≤ (σ265 55 19).toInt) ∧ ((σ265 55 19).toInt ≤ (σ265 55 20).toInt) ∧ ((σ265 55 20).toInt ≤ 80) ∧ ((-1) ≤ (σ265 55 21).toInt ∧ (σ265 55 21).toInt ≤ 80) := id I269
                 have z276 : (σ265 55 18).toInt = A1 := ((congrArg Int32.toInt (show σ265 55 18 = a1 from ((f268 18 (of_decide_eq_true rfl)).trans ((f82 18 (of_decide_eq_true rfl)).trans ((f66 18 (of_decide_eq_true rfl)).trans ((f32 18 (of_decide_eq_true rfl)).trans ((jkp 18 eσ5 (of_decide_eq_true rfl)).trans ((jkp 18 eσ4 (of_decide_eq_true rfl)).trans ((jkp 18 eσ3 (of_decide_eq_true rfl)).trans ((jkp 18 eσ2 (of_decide_eq_true rfl)).trans (jsp eσ1))))))))))).trans t1)
                 have z277 : (σ265 55 20).toInt = A2 := ((congrArg Int32.toInt (show σ265 55 20 = a2 from ((f268 20 (of_decide_eq_true rfl)).trans ((f82 20 (of_decide_eq_true rfl)).trans ((f66 20 (of_decide_eq_true rfl)).trans ((f32 20 (of_decide_eq_true rfl)).trans ((jkp 20 eσ5 (of_decide_eq_true rfl)).trans ((jkp 20 eσ4 (of_decide_eq_true rfl)).trans (jsp eσ3))))))))).trans t2)
                 have z278 : (σ265 55 21).toInt = (σ63 55 21).toInt := (congrArg Int32.toInt (show σ265 55 21 = (σ63 55 21) from ((f268 21 (of_decide_eq_true rfl)).trans m263)))
                 rcases h265 with h279 | h280
                 · obtain ⟨q284, k281, k282, k283⟩ := h279
                   exact absurd (by omega : False) id
                 · obtain ⟨q287, k285, k286⟩ := h280
                   have q287 := q287.symm
                   subst q287
                   try rw [show (σ79 55 20).toInt = A2 from by omega] at k286
                   try rw [show (σ79 55 18).toInt = A1 from by omega] at k286
                   try rw [show σ79 63 = σ 63 from ((f81 63 (of_decide_eq_true rfl)).trans ((f65 63 (of_decide_eq_true rfl)).trans ((f31 63 (of_decide_eq_true rfl)).trans ((jnp 63 eσ5 (of_decide_eq_true rfl)).trans ((jnp 63 eσ4 (of_decide_eq_true rfl)).trans ((jnp 63 eσ3 (of_decide_eq_true rfl)).trans ((jnp 63 eσ2 (of_decide_eq_true rfl)).trans (jnp 63 eσ1 (of_decide_eq_true rfl)))))))))] at k286
                   try rw [show σ79 64 = σ 64 from ((f81 64 (of_decide_eq_true rfl)).trans ((f65 64 (of_decide_eq_true rfl)).trans ((f31 64 (of_decide_eq_true rfl)).trans ((jnp 64 eσ5 (of_decide_eq_true rfl)).trans ((jnp 64 eσ4 (of_decide_eq_true rfl)).trans ((jnp 64 eσ3 (of_decide_eq_true rfl)).trans ((jnp 64 eσ2 (of_decide_eq_true rfl)).trans (jnp 64 eσ1 (of_decide_eq_true rfl)))))))))] at k286
                   refine lv_istore (lv' := [(5, .int 0), (7, .int 1), (6, .int r64), (4, .int x9), (3, .int x8), (0, .ref (ad 55)), (1, .int a1), (2, .int a2)]) hx hb dX12_workOut_102 hl (of_decide_eq_true rfl) rfl (fun ls hl => ?_)
                   refine lv_goto (tgt := 33) hx hb dX12_workOut_104 (of_decide_eq_true rfl) ?_
                   have z288 : (σ265 55 22).toInt = (σ63 55 22).toInt := (congrArg Int32.toInt (show σ265 55 22 = (σ63 55 22) from ((f268 22 (of_decide_eq_true rfl)).trans (f82 22 (of_decide_eq_true rfl)))))
                   exact by exact ihlp6 x8 x9 0 σ265 _ _ ls (by have h92 := jz_0; omega) (by have h92 := jz_0; omega) (by have h92 := jz_0; omega) (by have h92 := jz_0; omega) (by have h92 := jz_0; omega) (by have h92 := jz_0; omega) (by have h92 := jz_0; omega) (by have h92 := jz_0; omega) (by have h92 := jz_0; omega) (by have h92 := jz_0; omega) (by have h92 := jz_0; omega) (fun i hi => ((f267 i hi).trans ((f81 i hi).trans ((f65 i hi).trans (f31 i hi))))) (fun i hi => ((f268 i (imp_173 i hi)).trans ((f82 i (imp_173 i hi)).trans ((f66 i hi).trans (f32 i hi)))))  (Or.inr ⟨by decide, jRe.to (jRt.behind (w := x8) (w2 := x8) (v2 := x9) (a2 := (σ63 55 19).toInt) (x2 := (σ63 55 21).toInt) (Or.elim q33 (fun z => z.2) (fun z => False.elim (by have e := z.1; omega))) (jRl.one w68 (fun z => k261 (by omega)) (show (1 : Int32) ≠ 0 by decide)) (Or.inr ⟨Or.inl (by omega), rfl, rfl⟩) (fun z => by have w := k286 (by omega); rw [show (σ79 55 19).toInt = (σ63 55 19).toInt from by omega] at w; exact w)) (by omega) (by omega)⟩) hP hS (lv_sub hl [0, 3, 4, 5, 6, 7] rfl)
              · have kc264 := jnle c264 jz_0 rfl
                refine lv_iload hx hb dX12_workOut_81 (lv_at hl 0 rfl) ?_
                refine lv_if_eq (tgt := 96) hx hb dX12_workOut_83 (of_decide_eq_true rfl) (fun c => absurd c (of_decide_eq_true rfl)) (fun _ => ?_)
                refine lv_iload_n hx hb dX12_workOut_86 rfl (lv_at hl 4 rfl) ?_
                refine lv_if_ne (tgt := 96) hx hb dX12_workOut_87 (of_decide_eq_true rfl) (fun c289 => ?_) (fun c289 => ?_)
                · have kc289 := jne c289 rfl jz_0
                  refine lv_aload_n hx hb dX12_workOut_96 rfl (lv_at hl 5 rfl) ?_
                  refine lv_bipush (v := 59) hx hb dX12_workOut_97 (of_decide_eq_true rfl) ?_
                  exact by
                   refine jcallV (As := [.int 59]) (rest := []) ⟨hx, hb, hml, hown, hts⟩ hK hP hA hS hZ (c_X12_takes l D cI cL ad zz hJ σ79 τ 59 (59) jz_59 I83 (by omega)) cw_RX12_196 (jc_55 cI cL ad σ79 τ) rfl ⟨Nat.le_of_ble_eq_true rfl, Nat.le_of_ble_eq_true rfl⟩ rfl rfl rfl hl.1 rfl (Nat.le_of_ble_eq_true rfl) dX12_workOut_99 ⟨Nat.zero_le _, Nat.zero_le _⟩ (fun r291 σ290 τ290 H locs h290 hP hS => ?_)
                   obtain ⟨rfl, f292, f293, I294, h290⟩ := h290
                   obtain ⟨i296, i297, i298, i299, i300⟩ : ((-1) ≤ (σ290 55 18).toInt ∧ (σ290 55 18).toInt ≤ 80) ∧ (0 ≤ (σ290 55 19).toInt) ∧ ((σ290 55 19).toInt ≤ (σ290 55 20).toInt) ∧ ((σ290 55 20).toInt ≤ 80) ∧ ((-1) ≤ (σ290 55 21).toInt ∧ (σ290 55 21).toInt ≤ 80) := id I294
                   have z301 : (σ290 55 18).toInt = A1 := ((congrArg Int32.toInt (show σ290 55 18 = a1 from ((f293 18 (of_decide_eq_true rfl)).trans ((f82 18 (of_decide_eq_true rfl)).trans ((f66 18 (of_decide_eq_true rfl)).trans ((f32 18 (of_decide_eq_true rfl)).trans ((jkp 18 eσ5 (of_decide_eq_true rfl)).trans ((jkp 18 eσ4 (of_decide_eq_true rfl)).trans ((jkp 18 eσ3 (of_decide_eq_true rfl)).trans ((jkp 18 eσ2 (of_decide_eq_true rfl)).trans (jsp eσ1))))))))))).trans t1)
                   have z302 : (σ290 55 20).toInt = A2 := ((congrArg Int32.toInt (show σ290 55 20 = a2 from ((f293 20 (of_decide_eq_true rfl)).trans ((f82 20 (of_decide_eq_true rfl)).trans ((f66 20 (of_decide_eq_true rfl)).trans ((f32 20 (of_decide_eq_true rfl)).trans ((jkp 20 eσ5 (of_decide_eq_true rfl)).trans ((jkp 20 eσ4 (of_decide_eq_true rfl)).trans (jsp eσ3))))))))).trans t2)
                   have z303 : (σ290 55 21).toInt = (σ63 55 21).toInt := (congrArg Int32.toInt (show σ290 55 21 = (σ63 55 21) from ((f293 21 (of_decide_eq_true rfl)).trans m263)))
                   rcases h290 with h304 | h305
                   · obtain ⟨q309, k306, k307, k308⟩ := h304
                     have q309 := q309.symm
                     subst q309
                     try rw [show (σ79 55 20).toInt = A2 from by omega] at k308
                     try rw [show (σ79 55 18).toInt = A1 from by omega] at k308
                     try rw [show σ79 63 = σ 63 from ((f81 63 (of_decide_eq_true rfl)).trans ((f65 63 (of_decide_eq_true rfl)).trans ((f31 63 (of_decide_eq_true rfl)).trans ((jnp 63 eσ5 (of_decide_eq_true rfl)).trans ((jnp 63 eσ4 (of_decide_eq_true rfl)).trans ((jnp 63 eσ3 (of_decide_eq_true rfl)).trans ((jnp 63 eσ2 (of_decide_eq_true rfl)).trans (jnp 63 eσ1 (of_decide_eq_true rfl)))))))))] at k308
                     try rw [show σ79 64 = σ 64 from ((f81 64 (of_decide_eq_true rfl)).trans ((f65 64 (of_decide_eq_true rfl)).trans ((f31 64 (of_decide_eq_true rfl)).trans ((jnp 64 eσ5 (of_decide_eq_true rfl)).trans ((jnp 64 eσ4 (of_decide_eq_true rfl)).trans ((jnp 64 eσ3 (of_decide_eq_true rfl)).trans ((jnp 64 eσ2 (of_decide_eq_true rfl)).trans (jnp 64 eσ1 (of_decide_eq_true rfl)))))))))] at k308
                     refine lv_istore (lv' := [(5, .int 1), (7, .int 1), (6, .int r64), (4, .int x9), (3, .int x8), (0, .ref (ad 55)), (1, .int a1), (2, .int a2)]) hx hb dX12_workOut_102 hl (of_decide_eq_true rfl) rfl (fun ls hl => ?_)
                     refine lv_goto (tgt := 33) hx hb dX12_workOut_104 (of_decide_eq_true rfl) ?_
                     have z310 : (σ290 55 22).toInt = (σ63 55 22).toInt := (congrArg Int32.toInt (show σ290 55 22 = (σ63 55 22) from ((f293 22 (of_decide_eq_true rfl)).trans (f82 22 (of_decide_eq_true rfl)))))
                     exact by exact ihlp6 x8 x9 1 σ290 _ _ ls (by have h92 := jz_1; omega) (by have h92 := jz_1; omega) (by have h92 := jz_1; omega) (by have h92 := jz_1; omega) (by have h92 := jz_1; omega) (by have h92 := jz_1; omega) (by have h92 := jz_1; omega) (by have h92 := jz_1; omega) (by have h92 := jz_1; omega) (by have h92 := jz_1; omega) (by have h92 := jz_1; omega) (fun i hi => ((f292 i hi).trans ((f81 i hi).trans ((f65 i hi).trans (f31 i hi))))) (fun i hi => ((f293 i (imp_173 i hi)).trans ((f82 i (imp_173 i hi)).trans ((f66 i hi).trans (f32 i hi)))))  (Or.inl ⟨by decide, jRt.to (jRt.step (w := x8) (w2 := x8) (v2 := x9) (a2 := (σ63 55 19).toInt) (x2 := (σ63 55 21).toInt) (Or.elim q33 (fun z => z.2) (fun z => False.elim (by have e := z.1; omega))) (jRl.one w68 (fun z => k261 (by omega)) (show (1 : Int32) ≠ 0 by decide)) (by omega) (Or.inr ⟨Or.inr (Or.inr (jn0 (by omega))), rfl, rfl⟩) (by rw [show (σ63 55 19).toInt = (σ79 55 19).toInt from by omega]; omega) (show (σ290 55 19).toInt = (σ63 55 19).toInt + 1 by omega)) rfl (by omega)⟩) hP hS (lv_sub hl [0, 3, 4, 5, 6, 7] rfl)
                   · obtain ⟨q313, k311, k312⟩ := h305
                     have q313 := q313.symm
                     subst q313
                     try rw [show (σ79 55 20).toInt = A2 from by omega] at k312
                     try rw [show (σ79 55 18).toInt = A1 from by omega] at k312
                     try rw [show σ79 63 = σ 63 from ((f81 63 (of_decide_eq_true rfl)).trans ((f65 63 (of_decide_eq_true rfl)).trans ((f31 63 (of_decide_eq_true rfl)).trans ((jnp 63 eσ5 (of_decide_eq_true rfl)).trans ((jnp 63 eσ4 (of_decide_eq_true rfl)).trans ((jnp 63 eσ3 (of_decide_eq_true rfl)).trans ((jnp 63 eσ2 (of_decide_eq_true rfl)).trans (jnp 63 eσ1 (of_decide_eq_true rfl)))))))))] at k312
                     try rw [show σ79 64 = σ 64 from ((f81 64 (of_decide_eq_true rfl)).trans ((f65 64 (of_decide_eq_true rfl)).trans ((f31 64 (of_decide_eq_true rfl)).trans ((jnp 64 eσ5 (of_decide_eq_true rfl)).trans ((jnp 64 eσ4 (of_decide_eq_true rfl)).trans ((jnp 64 eσ3 (of_decide_eq_true rfl)).trans ((jnp 64 eσ2 (of_decide_eq_true rfl)).trans (jnp 64 eσ1 (of_decide_eq_true rfl)))))))))] at k312
                     refine lv_istore (lv' := [(5, .int 0), (7, .int 1), (6, .int r64), (4, .int x9), (3, .int x8), (0, .ref (ad 55)), (1, .int a1), (2, .int a2)]) hx hb dX12_workOut_102 hl (of_decide_eq_true rfl) rfl (fun ls hl => ?_)
                     refine lv_goto (tgt := 33) hx hb dX12_workOut_104 (of_decide_eq_true rfl) ?_
                     have z314 : (σ290 55 22).toInt = (σ63 55 22).toInt := (congrArg Int32.toInt (show σ290 55 22 = (σ63 55 22) from ((f293 22 (of_decide_eq_true rfl)).trans (f82 22 (of_decide_eq_true rfl)))))
                     exact by exact ihlp6 x8 x9 0 σ290 _ _ ls (by have h92 := jz_0; omega) (by have h92 := jz_0; omega) (by have h92 := jz_0; omega) (by have h92 := jz_0; omega) (by have h92 := jz_0; omega) (by have h92 := jz_0; omega) (by have h92 := jz_0; omega) (by have h92 := jz_0; omega) (by have h92 := jz_0; omega) (by have h92 := jz_0; omega) (by have h92 := jz_0; omega) (fun i hi => ((f292 i hi).trans ((f81 i hi).trans ((f65 i hi).trans (f31 i hi))))) (fun i hi => ((f293 i (imp_173 i hi)).trans ((f82 i (imp_173 i hi)).trans ((f66 i hi).trans (f32 i hi)))))  (Or.inr ⟨by decide, jRe.to (jRt.behind (w := x8) (w2 := x8) (v2 := x9) (a2 := (σ63 55 19).toInt) (x2 := (σ63 55 21).toInt) (Or.elim q33 (fun z => z.2) (fun z => False.elim (by have e := z.1; omega))) (jRl.one w68 (fun z => k261 (by omega)) (show (1 : Int32) ≠ 0 by decide)) (Or.inr ⟨Or.inr (Or.inr (jn0 (by omega))), rfl, rfl⟩) (fun z => by have w := k312 (by omega); rw [show (σ79 55 19).toInt = (σ63 55 19).toInt from by omega] at w; exact w)) (by omega) (by omega)⟩) hP hS (lv_sub hl [0, 3, 4, 5, 6, 7] rfl)
                · have kc289 := jeq c289 rfl jz_0
                  refine lv_iconst (v := 1) hx hb dX12_workOut_90 (of_decide_eq_true rfl) ?_
                  refine lv_istore_n (lv' := [(3, .int 1), (7, .int 1), (6, .int r64), (5, .int x10), (4, .int x9), (0, .ref (ad 55)), (1, .int a1), (2, .int a2)]) hx hb dX12_workOut_91 rfl hl (of_decide_eq_true rfl) rfl (fun ls hl => ?_)
                  refine lv_iload hx hb dX12_workOut_92 (lv_at hl 2 rfl) ?_
                  refine lv_istore (lv' := [(4, .int r64), (3, .int 1), (7, .int 1), (6, .int r64), (5, .int x10), (0, .ref (ad 55)), (1, .int a1), (2, .int a2)]) hx hb dX12_workOut_94 hl (of_decide_eq_true rfl) rfl (fun ls hl => ?_)
                  refine lv_aload_n hx hb dX12_workOut_96 rfl (lv_at hl 5 rfl) ?_
                  refine lv_bipush (v := 59) hx hb dX12_workOut_97 (of_decide_eq_true rfl) ?_
                  exact by
                   refine jcallV (As := [.int 59]) (rest := []) ⟨hx, hb, hml, hown, hts⟩ hK hP hA hS hZ (c_X12_takes l D cI cL ad zz hJ σ79 τ 59 (59) jz_59 I83 (by omega)) cw_RX12_196 (jc_55 cI cL ad σ79 τ) rfl ⟨Nat.le_of_ble_eq_true rfl, Nat.le_of_ble_eq_true rfl⟩ rfl rfl rfl hl.1 rfl (Nat.le_of_ble_eq_true rfl) dX12_workOut_99 ⟨Nat.zero_le _, Nat.zero_le _⟩ (fun r316 σ315 τ315 H locs h315 hP hS => ?_)
                   obtain ⟨rfl, f317, f318, I319, h315⟩ := h315
                   obtain ⟨i321, i322, i323, i324, i325⟩ : ((-1) ≤ (σ315 55 18).toInt ∧ (σ315 55 18).toInt ≤ 80) ∧ (0 ≤ (σ315 55 19).toInt) ∧ ((σ315 55 19).toInt ≤ (σ315 55 20).toInt) ∧ ((σ315 55 20).toInt ≤ 80) ∧ ((-1) ≤ (σ315 55 21).toInt ∧ (σ315 55 21).toInt ≤ 80) := id I319
                   have z326 : (σ315 55 18).toInt = A1 := ((congrArg Int32.toInt (show σ315 55 18 = a1 from ((f318 18 (of_decide_eq_true rfl)).trans ((f82 18 (of_decide_eq_true rfl)).trans ((f66 18 (of_decide_eq_true rfl)).trans ((f32 18 (of_decide_eq_true rfl)).trans ((jkp 18 eσ5 (of_decide_eq_true rfl)).trans ((jkp 18 eσ4 (of_decide_eq_true rfl)).trans ((jkp 18 eσ3 (of_decide_eq_true rfl)).trans ((jkp 18 eσ2 (of_decide_eq_true rfl)).trans (jsp eσ1))))))))))).trans t1)
                   have z327 : (σ315 55 20).toInt = A2 := ((congrArg Int32.toInt (show σ315 55 20 = a2 from ((f318 20 (of_decide_eq_true rfl)).trans ((f82 20 (of_decide_eq_true rfl)).trans ((f66 20 (of_decide_eq_true rfl)).trans ((f32 20 (of_decide_eq_true rfl)).trans ((jkp 20 eσ5 (of_decide_eq_true rfl)).trans ((jkp 20 eσ4 (of_decide_eq_true rfl)).trans (jsp eσ3))))))))).trans t2)
                   have z328 : (σ315 55 21).toInt = (σ63 55 21).toInt := (congrArg Int32.toInt (show σ315 55 21 = (σ63 55 21) from ((f318 21 (of_decide_eq_true rfl)).trans m263)))
                   rcases h315 with h329 | h330
                   · obtain ⟨q334, k331, k332, k333⟩ := h329
                     have q334 := q334.symm
                     subst q334
                     try rw [show (σ79 55 20).toInt = A2 from by omega] at k333
                     try rw [show (σ79 55 18).toInt = A1 from by omega] at k333
                     try rw [show σ79 63 = σ 63 from ((f81 63 (of_decide_eq_true rfl)).trans ((f65 63 (of_decide_eq_true rfl)).trans ((f31 63 (of_decide_eq_true rfl)).trans ((jnp 63 eσ5 (of_decide_eq_true rfl)).trans ((jnp 63 eσ4 (of_decide_eq_true rfl)).trans ((jnp 63 eσ3 (of_decide_eq_true rfl)).trans ((jnp 63 eσ2 (of_decide_eq_true rfl)).trans (jnp 63 eσ1 (of_decide_eq_true rfl)))))))))] at k333
                     try rw [show σ79 64 = σ 64 from ((f81 64 (of_decide_eq_true rfl)).trans ((f65 64 (of_decide_eq_true rfl)).trans ((f31 64 (of_decide_eq_true rfl)).trans ((jnp 64 eσ5 (of_decide_eq_true rfl)).trans ((jnp 64 eσ4 (of_decide_eq_true rfl)).trans ((jnp 64 eσ3 (of_decide_eq_true rfl)).trans ((jnp 64 eσ2 (of_decide_eq_true rfl)).trans (jnp 64 eσ1 (of_decide_eq_true rfl)))))))))] at k333
                     refine lv_istore (lv' := [(5, .int 1), (4, .int r64), (3, .int 1), (7, .int 1), (6, .int r64), (0, .ref (ad 55)), (1, .int a1), (2, .int a2)]) hx hb dX12_workOut_102 hl (of_decide_eq_true rfl) rfl (fun ls hl => ?_)
                     refine lv_goto (tgt := 33) hx hb dX12_workOut_104 (of_decide_eq_true rfl) ?_
                     have z335 : (σ315 55 22).toInt = (σ63 55 22).toInt := (congrArg Int32.toInt (show σ315 55 22 = (σ63 55 22) from ((f318 22 (of_decide_eq_true rfl)).trans (f82 22 (of_decide_eq_true rfl)))))
                     exact by exact ihlp6 1 r64 1 σ315 _ _ ls (by have h90 := jz_1; have h92 := jz_1; omega) (by have h90 := jz_1; have h92 := jz_1; omega) (by have h90 := jz_1; have h92 := jz_1; omega) (by have h90 := jz_1; have h92 := jz_1; omega) (by have h90 := jz_1; have h92 := jz_1; omega) (by have h90 := jz_1; have h92 := jz_1; omega) (by have h90 := jz_1; have h92 := jz_1; omega) (by have h90 := jz_1; have h92 := jz_1; omega) (by have h90 := jz_1; have h92 := jz_1; omega) (by have h90 := jz_1; have h92 := jz_1; omega) (by have h90 := jz_1; have h92 := jz_1; omega) (fun i hi => ((f317 i hi).trans ((f81 i hi).trans ((f65 i hi).trans (f31 i hi))))) (fun i hi => ((f318 i (imp_173 i hi)).trans ((f82 i (imp_173 i hi)).trans ((f66 i hi).trans (f32 i hi)))))  (Or.inl ⟨by decide, jRt.to (jRt.step (w := x8) (w2 := 1) (v2 := r64) (a2 := (σ63 55 19).toInt) (x2 := (σ63 55 21).toInt) (Or.elim q33 (fun z => z.2) (fun z => False.elim (by have e := z.1; omega))) (jRl.one w68 (fun z => k261 (by omega)) (show (1 : Int32) ≠ 0 by decide)) (by omega) (Or.inl ⟨by omega, (by decide : (1 : Int32) ≠ 0), j0 (by omega), by decide, rfl⟩) (by rw [show (σ63 55 19).toInt = (σ79 55 19).toInt from by omega]; omega) (show (σ315 55 19).toInt = (σ63 55 19).toInt + 1 by omega)) rfl (by omega)⟩) hP hS (lv_sub hl [0, 1, 2, 5, 6, 7] rfl)
                   · obtain ⟨q338, k336, k337⟩ := h330
                     have q338 := q338.symm
                     subst q338
                     try rw [show (σ79 55 20).toInt = A2 from by omega] at k337
                     try rw [show (σ79 55 18).toInt = A1 from by omega] at k337
                     try rw [show σ79 63 = σ 63 from ((f81 63 (of_decide_eq_true rfl)).trans ((f65 63 (of_decide_eq_true rfl)).trans ((f31 63 (of_decide_eq_true rfl)).trans ((jnp 63 eσ5 (of_decide_eq_true rfl)).trans ((jnp 63 eσ4 (of_decide_eq_true rfl)).trans ((jnp 63 eσ3 (of_decide_eq_true rfl)).trans ((jnp 63 eσ2 (of_decide_eq_true rfl)).trans (jnp 63 eσ1 (of_decide_eq_true rfl)))))))))] at k337
                     try rw [show σ79 64 = σ 64 from ((f81 64 (of_decide_eq_true rfl)).trans ((f65 64 (of_decide_eq_true rfl)).trans ((f31 64 (of_decide_eq_true rfl)).trans ((jnp 64 eσ5 (of_decide_eq_true rfl)).trans ((jnp 64 eσ4 (of_decide_eq_true rfl)).trans ((jnp 64 eσ3 (of_decide_eq_true rfl)).trans ((jnp 64 eσ2 (of_decide_eq_true rfl)).trans (jnp 64 eσ1 (of_decide_eq_true rfl)))))))))] at k337
                     refine lv_istore (lv' := [(5, .int 0), (4, .int r64), (3, .int 1), (7, .int 1), (6, .int r64), (0, .ref (ad 55)), (1, .int a1), (2, .int a2)]) hx hb dX12_workOut_102 hl (of_decide_eq_true rfl) rfl (fun ls hl => ?_)
                     refine lv_goto (tgt := 33) hx hb dX12_workOut_104 (of_decide_eq_true rfl) ?_
                     have z339 : (σ315 55 22).toInt = (σ63 55 22).toInt := (congrArg Int32.toInt (show σ315 55 22 = (σ63 55 22) from ((f318 22 (of_decide_eq_true rfl)).trans (f82 22 (of_decide_eq_true rfl)))))
                     exact by exact ihlp6 1 r64 0 σ315 _ _ ls (by have h90 := jz_1; have h92 := jz_0; omega) (by have h90 := jz_1; have h92 := jz_0; omega) (by have h90 := jz_1; have h92 := jz_0; omega) (by have h90 := jz_1; have h92 := jz_0; omega) (by have h90 := jz_1; have h92 := jz_0; omega) (by have h90 := jz_1; have h92 := jz_0; omega) (by have h90 := jz_1; have h92 := jz_0; omega) (by have h90 := jz_1; have h92 := jz_0; omega) (by have h90 := jz_1; have h92 := jz_0; omega) (by have h90 := jz_1; have h92 := jz_0; omega) (by have h90 := jz_1; have h92 := jz_0; omega) (fun i hi => ((f317 i hi).trans ((f81 i hi).trans ((f65 i hi).trans (f31 i hi))))) (fun i hi => ((f318 i (imp_173 i hi)).trans ((f82 i (imp_173 i hi)).trans ((f66 i hi).trans (f32 i hi)))))  (Or.inr ⟨by decide, jRe.to (jRt.behind (w := x8) (w2 := 1) (v2 := r64) (a2 := (σ63 55 19).toInt) (x2 := (σ63 55 21).toInt) (Or.elim q33 (fun z => z.2) (fun z => False.elim (by have e := z.1; omega))) (jRl.one w68 (fun z => k261 (by omega)) (show (1 : Int32) ≠ 0 by decide)) (Or.inl ⟨by omega, (by decide : (1 : Int32) ≠ 0), j0 (by omega), by decide, rfl⟩) (fun z => by have w := k337 (by omega); rw [show (σ79 55 19).toInt = (σ63 55 19).toInt from by omega] at w; exact w)) (by omega) (by omega)⟩) hP hS (lv_sub hl [0, 1, 2, 5, 6, 7] rfl)
  exact by exact lp6 1000000 0 0 1 σ5 _ _ ls (by have h90 := jz_0; have h91 := jz_0; have h92 := jz_1; omega) (by have h90 := jz_0; have h91 := jz_0; have h92 := jz_1; omega) (by have h90 := jz_0; have h91 := jz_0; have h92 := jz_1; omega) (by have h90 := jz_0; have h91 := jz_0; have h92 := jz_1; omega) (by have h90 := jz_0; have h91 := jz_0; have h92 := jz_1; omega) (by have h90 := jz_0; have h91 := jz_0; have h92 := jz_1; omega) (by have h90 := jz_0; have h91 := jz_0; have h92 := jz_1; omega) (by have h90 := jz_0; have h91 := jz_0; have h92 := jz_1; omega) (by have h90 := jz_0; have h91 := jz_0; have h92 := jz_1; omega) (by have h90 := jz_0; have h91 := jz_0; have h92 := jz_1; omega) (by have h90 := jz_0; have h91 := jz_0; have h92 := jz_1; omega) (fun _ _ => rfl) (fun _ _ => rfl)  (Or.inl ⟨by decide, jRt.first (by omega) (by omega) rfl rfl⟩) hP hS hl
set_option maxHeartbeats 4000000 in
set_option maxRecDepth 100000 in
theorem c_X12_text (l : Launch) (D : va_G) (cI cL : ClassId) (ad zz : Nat → Nat) (hJ : jD ad) (σ : Nat → Nat → Int32) (τ : Nat → Nat → Int64) (a1 : Int32) (A1 : Int) (t1 : a1.toInt = A1) (hI105 : jI105 σ) (hs_jTR : jTR σ) : jM l yX12_text cX12_text 5 (some .int) ({ frames := 65, cells := 0, slots := 0, locals := 2809 }) D cI cL ad zz [.ref (ad 55), .int a1] σ τ (fun r σ' τ' => τ = τ' ∧ (∀ i : Nat, (i < 55 ∨ 55 < i) ∧ (i < 64 ∨ 65 < i) → σ' i = σ i) ∧ (∀ k : Nat, (k < 15 ∨ 15 < k) ∧ (k < 18 ∨ 18 < k) ∧ (k < 19 ∨ 19 < k) ∧ (k < 20 ∨ 20 < k) ∧ (k < 21 ∨ 21 < k) ∧ (k < 22 ∨ 22 < k) → σ' 55 k = σ 55 k) ∧ (jI105 σ') ∧ (jTR σ') ∧ (((0 ≤ A1 ∧ A1 ≤ 1) ∧ jXb (σ 63) (σ 55 15).toInt (r.toInt)) ∨ (¬ (0 ≤ A1 ∧ A1 ≤ 1) ∧ r.toInt = -1)) ∧ ((((A1 < 0 ∨ 1 < A1 ∨ r.toInt ≤ -100) ∧ σ' 64 = σ 64 ∧ σ' 65 = σ 65) ∨ (0 ≤ A1 ∧ A1 ≤ 1 ∧ r.toInt = 1 ∧ jCq (σ' 64) (σ 64) (σ 63) (80 * (A1)) (σ 55 15).toInt ∧ σ' 65 = jupd (σ 65) (A1).toNat (σ 55 15)))) ∧ ((0 ≤ A1 ∧ A1 ≤ 1 ∧ (σ' 55 15).toInt = 0) ∨ (A1 < 0 ∧ (σ' 55 15).toInt = (σ 55 15).toInt) ∨ (1 < A1 ∧ (σ' 55 15).toInt = (σ 55 15).toInt)) ∧ True) := by
  refine jM.of hJ (by decide +kernel) (nt := .int) rfl (Nat.le_of_ble_eq_true rfl) ?_
  intro p e s m args below meth c Q ls hC hret hl hP
  obtain ⟨hx, hb, hr, hml, hown, hts, hK, -, hlocks, hZ⟩ := hC
  have hown : s.vm.findClass RX12 = some m.cls := hown
  have hS : va_S (jA ad) s.heap s.heap [] := va_S.rf
  have hA : ∀ q, jA ad q → jA ad q := fun _ h => h
  have hl : lv_has ls 5 [(0, .ref (ad 55)), (1, .int a1)] := hl
  have g1 := jrg t1
  obtain ⟨i1, w2⟩ : (0 ≤ (σ 55 15).toInt ∧ (σ 55 15).toInt ≤ 80) ∧ (∀ k : Nat, k < 2 → (-1) ≤ (σ 65 k).toInt ∧ (σ 65 k).toInt ≤ 80) := id hI105
  refine lv_iload_n hx hb dX12_text_0 rfl (lv_at hl 1 rfl) ?_
  refine lv_i2l (v := a1.toInt64) hx hb dX12_text_1 rfl ?_
  refine lv_lconst (v := 0) hx hb dX12_text_2 (of_decide_eq_true rfl) ?_
  refine lv_lconst (v := 1) hx hb dX12_text_3 (of_decide_eq_true rfl) ?_
  refine jcallS (As := [.long a1.toInt64, .long 0, .long 1]) (rest := []) ⟨hx, hb, hml, hown, hts⟩ hK hP hA hS hZ (c_X12_within l D cI cL ad zz hJ σ τ a1.toInt64 (A1) (jtoL t1) 0 (0) jzl_0 1 (1) jzl_1) cw_RX12_136 ⟨Nat.le_of_ble_eq_true rfl, Nat.le_of_ble_eq_true rfl⟩ rfl rfl rfl hl.1 rfl (Nat.le_of_ble_eq_true rfl) dX12_text_4 ⟨Nat.zero_le _, Nat.zero_le _⟩ (fun r4 σ3 τ3 H locs h3 hP hS => ?_)
  obtain ⟨⟨rfl, rfl⟩, h3⟩ := h3
  rcases h3 with h5 | h6
  · obtain ⟨q8, k7⟩ := h5
    have q8 := q8.symm
    subst q8
    refine lv_if_ne (tgt := 12) hx hb dX12_text_7 (of_decide_eq_true rfl) (fun _ => ?_) (fun c => absurd c (of_decide_eq_true rfl))
    refine lv_aload_n hx hb dX12_text_12 rfl (lv_at hl 0 rfl) ?_
    refine lv_iconst (v := (-1)) hx hb dX12_text_13 (of_decide_eq_true rfl) ?_
    refine lv_aload_n hx hb dX12_text_14 rfl (lv_at hl 0 rfl) ?_
    refine va_get (D := D) hx hb hts inlX12 hown hK hP 55 (jc_55 cI cL ad σ τ) rfl 15 (of_decide_eq_true rfl) (hts _ kw_13_6) (fun _ h9 => h9) rfl dX12_text_15 ?_
    exact by
     refine jcallV (As := [.int (-1), .int (σ 55 15)]) (rest := []) ⟨hx, hb, hml, hown, hts⟩ hK hP hA hS hZ (c_X12_workOut l D cI cL ad zz hJ σ τ (-1) ((-1)) jz_m1 (σ 55 15) ((σ 55 15).toInt) rfl (by omega) (by omega)) cw_RX12_224 (jc_55 cI cL ad σ τ) rfl ⟨Nat.le_of_ble_eq_true rfl, Nat.le_of_ble_eq_true rfl⟩ rfl rfl rfl hl.1 rfl (Nat.le_of_ble_eq_true rfl) dX12_text_18 ⟨Nat.zero_le _, Nat.zero_le _⟩ (fun r10 σ9 τ9 H locs h9 hP hS => ?_)
     obtain ⟨rfl, f11, f12, I13, w14, h9⟩ := h9
     obtain ⟨i16, i17, i18, i19, i20⟩ : ((-1) ≤ (σ9 55 18).toInt ∧ (σ9 55 18).toInt ≤ 80) ∧ (0 ≤ (σ9 55 19).toInt) ∧ ((σ9 55 19).toInt ≤ (σ9 55 20).toInt) ∧ ((σ9 55 20).toInt ≤ 80) ∧ ((-1) ≤ (σ9 55 21).toInt ∧ (σ9 55 21).toInt ≤ 80) := id I13
     refine lv_istore_n (lv' := [(2, .int r10), (0, .ref (ad 55)), (1, .int a1)]) hx hb dX12_text_21 rfl hl (of_decide_eq_true rfl) rfl (fun ls hl => ?_)
     refine lv_aload_n hx hb dX12_text_22 rfl (lv_at hl 1 rfl) ?_
     refine va_get (D := D) hx hb hts inlX12 hown hK hP 55 (jc_55 cI cL ad σ9 τ) rfl 15 (of_decide_eq_true rfl) (hts _ kw_13_6) (fun _ h9 => h9) rfl dX12_text_23 ?_
     have m21 : σ9 55 15 = (σ 55 15) := (f12 15 (of_decide_eq_true rfl))
     refine jtopr m21 ?_
     refine lv_istore_n (lv' := [(3, .int (σ 55 15)), (2, .int r10), (0, .ref (ad 55)), (1, .int a1)]) hx hb dX12_text_26 rfl hl (of_decide_eq_true rfl) rfl (fun ls hl => ?_)
     refine lv_aload_n hx hb dX12_text_27 rfl (lv_at hl 2 rfl) ?_
     refine lv_iconst (v := 0) hx hb dX12_text_28 (of_decide_eq_true rfl) ?_
     refine jput (ty := .int) hx hb hts inlX12 tyX12 tyX12_ok nmX12 hown hK hP hJ hA hS (jc_55 cI cL ad σ9 τ) rfl (k := 15) (of_decide_eq_true rfl) (Nat.le_of_ble_eq_true rfl) (jp_55_15 cI cL ad σ9 τ 0) (hts _ kw_13_6) (fun _ h9 => h9) rfl (by decide +kernel) rfl rfl dX12_text_29 (fun σ22 H locs eσ22 hP hS => ?_)
     refine lv_aload_n hx hb dX12_text_32 rfl (lv_at hl 2 rfl) ?_
     refine va_get (D := D) hx hb hts inlX12 hown hK hP 55 (jc_55 cI cL ad σ22 τ) rfl 21 (of_decide_eq_true rfl) (hts _ kw_15_13) (fun _ h9 => h9) rfl dX12_text_33 ?_
     have m23 : σ22 55 21 = (σ9 55 21) := (jkp 21 eσ22 (of_decide_eq_true rfl))
     refine jtopr m23 ?_
     refine lv_if_lt (tgt := 47) hx hb dX12_text_36 (of_decide_eq_true rfl) (fun c24 => ?_) (fun c24 => ?_)
     · have kc24 := jlt c24 rfl jz_0
       refine lv_iconst (v := 0) hx hb dX12_text_47 (of_decide_eq_true rfl) ?_
       refine lv_istore (lv' := [(4, .int 0), (3, .int (σ 55 15)), (2, .int r10), (0, .ref (ad 55)), (1, .int a1)]) hx hb dX12_text_48 hl (of_decide_eq_true rfl) rfl (fun ls hl => ?_)
       have lp25 : ∀ (n26 : Nat) (x27 : Int32) (σ28 : Nat → Nat → Int32) (H : Heap) (locs : List Loc) (ls : Array Slot), ((σ 55 15).toInt - x27.toInt : Int) < n26 → 0 ≤ x27.toInt → x27.toInt ≤ 80 → x27.toInt ≤ (σ 55 15).toInt → (∀ i : Nat, (i < 64 ∨ 64 < i) → σ28 i = σ22 i) → (jCq (σ28 64) (σ 64) (σ 63) (80 * (A1)) (x27.toInt)) → jH D cI cL ad σ28 τ H → va_S (jA ad) s.heap H locs → lv_has ls 5 [(4, .int x27), (3, .int (σ 55 15)), (2, .int r10), (0, .ref (ad 55)), (1, .int a1)] → W p l e ({ frames := 65, cells := 0, slots := 0, locals := 2809 }) s m args below meth c H locs 0 0 Q (F0 m 50 ls []) := by
         intro n26
         induction n26 with
         | zero => intro x27 σ28 H locs ls h30 h31 h32 h33; exact absurd h30 (by omega)
         | succ n26 ihlp25 =>
           intro x27 σ28 H locs ls h30 h31 h32 h33 f34 q35 hP hS hl
           exact by
            refine lv_iload hx hb dX12_text_50 (lv_at hl 0 rfl) ?_
            refine lv_iload_n hx hb dX12_text_52 rfl (lv_at hl 1 rfl) ?_
            refine lv_icmp_ge (tgt := 81) hx hb dX12_text_53 (of_decide_eq_true rfl) (fun c36 => ?_) (fun c36 => ?_)
            · have kc36 := jle c36 rfl rfl
              refine lv_aload_n hx hb dX12_text_81 rfl (lv_at hl 3 rfl) ?_
              refine va_get (D := D) hx hb hts inlX12 hown hK hP 55 (jc_55 cI cL ad σ28 τ) rfl 17 (of_decide_eq_true rfl) (hts _ kw_7_11) (fun _ h9 => h9) rfl dX12_text_82 ?_
              refine lv_iload_n hx hb dX12_text_85 rfl (lv_at hl 4 rfl) ?_
              refine lv_iload_n hx hb dX12_text_86 rfl (lv_at hl 1 rfl) ?_
              refine jast hx hb hK hP hJ hA hS (jc_65 cI cL ad σ28 τ) (ja_65 cI cL ad σ28 τ _ _) (jin t1 (by omega) (by omega)) dX12_text_87 (fun σ37 H locs eσ37 hP hS => ?_)
              exact by
               refine lv_iconst (v := 1) hx hb dX12_text_88 (of_decide_eq_true rfl) ?_
               have q38 : jCq (σ37 64) (σ 64) (σ 63) (80 * (A1)) (σ 55 15).toInt := by rw [eσ37, jup_n (of_decide_eq_true rfl), show (σ 55 15).toInt = x27.toInt by omega]; exact q35
               have e39 : σ37 65 = jupd (σ 65) (A1).toNat (σ 55 15) := by rw [eσ37, jup_row, f34 65 (of_decide_eq_true rfl), eσ22, jup_n (of_decide_eq_true rfl), f11 65 (of_decide_eq_true rfl), jnc t1]
               have p40 := w14
               rw [jVw_m (of_decide_eq_true rfl)] at p40
               have p41 : jTR σ37 := (jTR.on hs_jTR q38 e39 rfl (by omega) (by omega) (by omega) (by omega) w2 p40 (by omega))
               have z42 : (σ37 55 15).toInt = 0 := ((congrArg Int32.toInt (show σ37 55 15 = 0 from ((congrFun (jnp 55 eσ37 (of_decide_eq_true rfl)) 15).trans ((congrFun (f34 55 (of_decide_eq_true rfl)) 15).trans (jsp eσ22))))).trans jz_0)
               have w43 : ∀ k : Nat, k < 2 → (-1) ≤ (σ37 65 k).toInt ∧ (σ37 65 k).toInt ≤ 80 := (by rw [eσ37]; exact jrr_up (jrr_fr (f34 65 (of_decide_eq_true rfl)) (jrr_fr (jnp 65 eσ22 (of_decide_eq_true rfl)) (jrr_fr (f11 65 (of_decide_eq_true rfl)) w2))) (by omega) (by omega))
               have I44 : jI105 σ37 := ⟨(by omega), w43⟩
               exact by exact hret 1 σ37 τ _ _ _ _ rfl ⟨rfl, (fun i hi => ((jnp i eσ37 (imp_181 i hi)).trans ((f34 i (imp_182 i hi)).trans ((jnp i eσ22 (imp_183 i hi)).trans (f11 i (imp_184 i hi)))))), (fun i hi => ((congrFun (jnp 55 eσ37 (of_decide_eq_true rfl)) i).trans ((congrFun (f34 55 (of_decide_eq_true rfl)) i).trans ((jkp i eσ22 (imp_185 i hi)).trans (f12 i (imp_186 i hi)))))), I44, p41, (Or.inl ⟨⟨by omega, by omega⟩, _, _, _, (by have w := w14; rw [jVw_m (of_decide_eq_true rfl)] at w; exact w), (by have h9 := jz_1; omega)⟩), (Or.inr ⟨by omega, by omega, (by have h9 := jz_1; omega), q38, e39⟩), (by omega), trivial⟩ hP hS dX12_text_89
            · exact by
               have kc36 := jnle c36 rfl rfl
               refine lv_aload_n hx hb dX12_text_56 rfl (lv_at hl 3 rfl) ?_
               refine va_get (D := D) hx hb hts inlX12 hown hK hP 55 (jc_55 cI cL ad σ28 τ) rfl 16 (of_decide_eq_true rfl) (hts _ kw_7_10) (fun _ h9 => h9) rfl dX12_text_57 ?_
               refine lv_bipush (v := 80) hx hb dX12_text_60 (of_decide_eq_true rfl) ?_
               refine lv_iload_n hx hb dX12_text_62 rfl (lv_at hl 4 rfl) ?_
               refine lv_imul hx hb dX12_text_63 ?_
               refine lv_topi (fun x45 ex45 => ?_)
               have tx45 : x45.toInt = 80 * A1 := (jmul ex45 jz_80 t1 (by omega) (by omega)).trans (by omega)
               refine lv_iload hx hb dX12_text_64 (lv_at hl 0 rfl) ?_
               exact by
                have g46 := jrg (rfl : x27.toInt = x27.toInt)
                refine lv_iadd hx hb dX12_text_66 ?_
                refine lv_topi (fun x47 ex47 => ?_)
                have tx47 : x47.toInt = 80 * A1 + x27.toInt := (jadd ex47 tx45 rfl (by omega) (by omega)).trans (by omega)
                refine lv_aload_n hx hb dX12_text_67 rfl (lv_at hl 3 rfl) ?_
                refine va_get (D := D) hx hb hts inlX12 hown hK hP 55 (jc_55 cI cL ad σ28 τ) rfl 14 (of_decide_eq_true rfl) (hts _ kw_7_9) (fun _ h9 => h9) rfl dX12_text_68 ?_
                refine lv_iload hx hb dX12_text_71 (lv_at hl 0 rfl) ?_
                refine jald hx hb hK hP (jc_63 cI cL ad σ28 τ) (jin rfl (by omega) (by omega)) dX12_text_73 ?_
                refine jtopr (y := (σ 63 x27.toNatClampNeg)) (by rw [f34 63 (of_decide_eq_true rfl), jnp 63 eσ22 (of_decide_eq_true rfl), f11 63 (of_decide_eq_true rfl)]) ?_
                exact by
                 refine jast hx hb hK hP hJ hA hS (jc_64 cI cL ad σ28 τ) (ja_64 cI cL ad σ28 τ _ _) (jin tx47 (by omega) (by omega)) dX12_text_74 (fun σ48 H locs eσ48 hP hS => ?_)
                 obtain ⟨x49, ex49⟩ : ∃ y : Int32, y = x27 + 1 := ⟨_, rfl⟩
                 have tx49 : x49.toInt = x27.toInt + 1 := (jadd ex49 rfl jz_1 (by omega) (by omega)).trans (by omega)
                 refine lv_iinc (v := x49) (lv' := [(4, .int x49), (3, .int (σ 55 15)), (2, .int r10), (0, .ref (ad 55)), (1, .int a1)]) hx hb dX12_text_75 hl (k := 0) rfl (by rw [ex49]; rfl) (of_decide_eq_true rfl) rfl (fun ls hl => ?_)
                 refine lv_goto (tgt := 50) hx hb dX12_text_78 (of_decide_eq_true rfl) ?_
                 exact by exact ihlp25 x49 σ48 _ _ ls (by have h90 := tx49; omega) (by have h90 := tx49; omega) (by have h90 := tx49; omega) (by have h90 := tx49; omega) (fun i hi => ((jnp i eσ48 (imp_187 i hi)).trans (f34 i hi)))   (q35.step (by rw [eσ48, jup_row, jnc (rfl : x47.toInt = x47.toInt)]) (by have h9 := tx47; omega) (by rw [jnc (show x27.toInt = x27.toInt by omega)]) (by omega) (by omega) (by have h9 := tx49; omega)) hP hS (lv_sub hl [0, 1, 2, 3, 4] rfl)
       exact by exact lp25 1000000 0 σ22 _ _ ls (by have h90 := jz_0; omega) (by have h90 := jz_0; omega) (by have h90 := jz_0; omega) (by have h90 := jz_0; omega) (fun _ _ => rfl)  (by rw [show σ22 64 = σ 64 from ((jnp 64 eσ22 (of_decide_eq_true rfl)).trans (f11 64 (of_decide_eq_true rfl)))]; exact (jCq.first (by have h9 := jz_0; omega))) hP hS hl
     · have kc24 := jnlt c24 rfl jz_0
       refine lv_bipush (v := (-100)) hx hb dX12_text_39 (of_decide_eq_true rfl) ?_
       exact by
        refine lv_aload_n hx hb dX12_text_41 rfl (lv_at hl 2 rfl) ?_
        refine va_get (D := D) hx hb hts inlX12 hown hK hP 55 (jc_55 cI cL ad σ22 τ) rfl 21 (of_decide_eq_true rfl) (hts _ kw_15_13) (fun _ h9 => h9) rfl dX12_text_42 ?_
        refine jtopr m23 ?_
        have g50 := jrg (rfl : (σ9 55 21).toInt = (σ9 55 21).toInt)
        refine lv_isub hx hb dX12_text_45 ?_
        refine lv_topi (fun x51 ex51 => ?_)
        have tx51 : x51.toInt = -(σ9 55 21).toInt - 100 := (jsub ex51 jz_m100 rfl (by omega) (by omega)).trans (by omega)
        have z52 : (σ22 55 15).toInt = 0 := ((congrArg Int32.toInt (show σ22 55 15 = 0 from (jsp eσ22))).trans jz_0)
        have w53 : ∀ k : Nat, k < 2 → (-1) ≤ (σ22 65 k).toInt ∧ (σ22 65 k).toInt ≤ 80 := (jrr_fr (jnp 65 eσ22 (of_decide_eq_true rfl)) (jrr_fr (f11 65 (of_decide_eq_true rfl)) w2))
        exact by
         have I54 : jI105 σ22 := ⟨(by omega), w53⟩
         have p55 : jTR σ22 := jTR.fr ((jnp 64 eσ22 (of_decide_eq_true rfl)).trans (f11 64 (of_decide_eq_true rfl))) ((jnp 65 eσ22 (of_decide_eq_true rfl)).trans (f11 65 (of_decide_eq_true rfl))) hs_jTR
         exact by exact hret x51 σ22 τ _ _ _ _ rfl ⟨rfl, (fun i hi => ((jnp i eσ22 (imp_183 i hi)).trans (f11 i (imp_184 i hi)))), (fun i hi => ((jkp i eσ22 (imp_185 i hi)).trans (f12 i (imp_186 i hi)))), I54, p55, (Or.inl ⟨⟨by omega, by omega⟩, _, _, _, (by have w := w14; rw [jVw_m (of_decide_eq_true rfl)] at w; exact w), (by have h9 := tx51; omega)⟩), (Or.inl ⟨(by have h9 := tx51; omega), ((jnp 64 eσ22 (of_decide_eq_true rfl)).trans (f11 64 (of_decide_eq_true rfl))), ((jnp 65 eσ22 (of_decide_eq_true rfl)).trans (f11 65 (of_decide_eq_true rfl)))⟩), (by omega), trivial⟩ hP hS dX12_text_46
  · obtain ⟨q57, k56⟩ := h6
    have q57 := q57.symm
    subst q57
    refine lv_if_ne (tgt := 12) hx hb dX12_text_7 (of_decide_eq_true rfl) (fun c => absurd (of_decide_eq_true rfl) c) (fun _ => ?_)
    refine lv_iconst (v := (-1)) hx hb dX12_text_10 (of_decide_eq_true rfl) ?_
    exact by exact hret (-1) σ τ _ _ _ _ rfl ⟨rfl, (fun _ _ => rfl), (fun _ _ => rfl), hI105, hs_jTR, (Or.inr ⟨by omega, (by have h9 := jz_m1; omega)⟩), (Or.inl ⟨(by have h9 := jz_m1; omega), rfl, rfl⟩), (by omega), trivial⟩ hP hS dX12_text_11
