set_option maxHeartbeats 4000000 in
set_option maxRecDepth 100000 in
theorem c_X12_becomes (l : Launch) (D : va_G) (cI cL : ClassId) (ad zz : Nat → Nat) (hJ : jD ad) (σ : Nat → Nat → Int32) (τ : Nat → Nat → Int64) (a1 : Int32) (A1 : Int) (t1 : a1.toInt = A1) (a2 : Int32) (A2 : Int) (t2 : a2.toInt = A2) (hI101 : jI101 σ) (hp0 : 0 ≤ A1 ∧ A1 ≤ 67) (hp1 : (-200) ≤ A2 ∧ A2 ≤ 500) : jM l yX12_becomes cX12_becomes 5 (some .int) ({ frames := 0, cells := 0, slots := 0, locals := 0 }) D cI cL ad zz [.ref (ad 55), .int a1, .int a2] σ τ (fun r σ' τ' => τ = τ' ∧ (∀ i : Nat, (i < 55 ∨ 59 < i) → σ' i = σ i) ∧ (∀ k : Nat, (k < 4 ∨ 4 < k) ∧ (k < 5 ∨ 5 < k) → σ' 55 k = σ 55 k) ∧ (jI101 σ') ∧ (jChg (A1) a2 r (σ 56) (σ' 56) (σ 57) (σ' 57) (σ 58) (σ' 58) (σ 59) (σ' 59) (σ 55 5).toInt (σ' 55 5).toInt (σ 55 4).toInt (σ' 55 4).toInt) ∧ True) := by
  refine jM.of hJ (by decide +kernel) (nt := .int) rfl (Nat.le_of_ble_eq_true rfl) ?_
  intro p e s m args below meth c Q ls hC hret hl hP
  obtain ⟨hx, hb, hr, hml, hown, hts, hK, -, hlocks, hZ⟩ := hC
  have hown : s.vm.findClass RX12 = some m.cls := hown
  have hS : va_S (jA ad) s.heap s.heap [] := va_S.rf
  have hA : ∀ q, jA ad q → jA ad q := fun _ h => h
  have hl : lv_has ls 5 [(0, .ref (ad 55)), (1, .int a1), (2, .int a2)] := hl
  have g1 := jrg t1
  have g2 := jrg t2
  obtain ⟨i1, i2, i3, w4, w5, w6, w7⟩ : (0 ≤ (σ 55 5).toInt) ∧ ((σ 55 5).toInt ≤ (σ 55 4).toInt) ∧ ((σ 55 4).toInt ≤ 40) ∧ (∀ k : Nat, k < 68 → (-200) ≤ (σ 56 k).toInt ∧ (σ 56 k).toInt ≤ 500) ∧ (∀ k : Nat, k < 40 → 0 ≤ (σ 57 k).toInt ∧ (σ 57 k).toInt ≤ 67) ∧ (∀ k : Nat, k < 40 → (-200) ≤ (σ 58 k).toInt ∧ (σ 58 k).toInt ≤ 500) ∧ (∀ k : Nat, k < 40 → (-200) ≤ (σ 59 k).toInt ∧ (σ 59 k).toInt ≤ 500) := id hI101
  refine lv_aload_n hx hb dX12_becomes_0 rfl (lv_at hl 0 rfl) ?_
  refine va_get (D := D) hx hb hts inlX12 hown hK hP 55 (jc_55 cI cL ad σ τ) rfl 0 (of_decide_eq_true rfl) (hts _ kw_7_2) (fun _ h9 => h9) rfl dX12_becomes_1 ?_
  refine lv_iload_n hx hb dX12_becomes_4 rfl (lv_at hl 1 rfl) ?_
  exact by
   refine jald hx hb hK hP (jc_56 cI cL ad σ τ) (jin t1 (by omega) (by omega)) dX12_becomes_5 ?_
   have g8 := w4 _ (jnat (x := a1) t1 (n := 68) (by omega) (of_decide_eq_true rfl))
   refine jtopr (y := (σ 56 a1.toNatClampNeg)) rfl ?_
   refine lv_istore_n (lv' := [(3, .int (σ 56 a1.toNatClampNeg)), (0, .ref (ad 55)), (1, .int a1), (2, .int a2)]) hx hb dX12_becomes_6 rfl hl (of_decide_eq_true rfl) rfl (fun ls hl => ?_)
   refine lv_iload_n hx hb dX12_becomes_7 rfl (lv_at hl 0 rfl) ?_
   refine lv_iload_n hx hb dX12_becomes_8 rfl (lv_at hl 3 rfl) ?_
   refine lv_icmp_ne (tgt := 14) hx hb dX12_becomes_9 (of_decide_eq_true rfl) (fun c9 => ?_) (fun c9 => ?_)
   · have kc9 := jne c9 rfl t2
     refine lv_aload_n hx hb dX12_becomes_14 rfl (lv_at hl 1 rfl) ?_
     exact by
      refine va_get (D := D) hx hb hts inlX12 hown hK hP 55 (jc_55 cI cL ad σ τ) rfl 5 (of_decide_eq_true rfl) (hts _ kw_11_16) (fun _ h9 => h9) rfl dX12_becomes_15 ?_
      refine lv_bipush (v := 40) hx hb dX12_becomes_18 (of_decide_eq_true rfl) ?_
      refine lv_icmp_ne (tgt := 97) hx hb dX12_becomes_20 (of_decide_eq_true rfl) (fun c10 => ?_) (fun c10 => ?_)
      · have kc10 := jne c10 rfl jz_40
        refine lv_aload_n hx hb dX12_becomes_97 rfl (lv_at hl 1 rfl) ?_
        refine va_get (D := D) hx hb hts inlX12 hown hK hP 55 (jc_55 cI cL ad σ τ) rfl 1 (of_decide_eq_true rfl) (hts _ kw_7_3) (fun _ h9 => h9) rfl dX12_becomes_98 ?_
        refine lv_aload_n hx hb dX12_becomes_101 rfl (lv_at hl 1 rfl) ?_
        refine va_get (D := D) hx hb hts inlX12 hown hK hP 55 (jc_55 cI cL ad σ τ) rfl 5 (of_decide_eq_true rfl) (hts _ kw_11_16) (fun _ h9 => h9) rfl dX12_becomes_102 ?_
        refine lv_iload_n hx hb dX12_becomes_105 rfl (lv_at hl 2 rfl) ?_
        exact by
         refine jast hx hb hK hP hJ hA hS (jc_57 cI cL ad σ τ) (ja_57 cI cL ad σ τ _ _) (jin rfl (by omega) (by omega)) dX12_becomes_106 (fun σ11 H locs eσ11 hP hS => ?_)
         refine lv_aload_n hx hb dX12_becomes_107 rfl (lv_at hl 1 rfl) ?_
         refine va_get (D := D) hx hb hts inlX12 hown hK hP 55 (jc_55 cI cL ad σ11 τ) rfl 2 (of_decide_eq_true rfl) (hts _ kw_7_4) (fun _ h9 => h9) rfl dX12_becomes_108 ?_
         refine lv_aload_n hx hb dX12_becomes_111 rfl (lv_at hl 1 rfl) ?_
         refine va_get (D := D) hx hb hts inlX12 hown hK hP 55 (jc_55 cI cL ad σ11 τ) rfl 5 (of_decide_eq_true rfl) (hts _ kw_11_16) (fun _ h9 => h9) rfl dX12_becomes_112 ?_
         have m12 : σ11 55 5 = (σ 55 5) := (congrFun (jnp 55 eσ11 (of_decide_eq_true rfl)) 5)
         refine jtopr m12 ?_
         refine lv_iload_n hx hb dX12_becomes_115 rfl (lv_at hl 0 rfl) ?_
         refine jast hx hb hK hP hJ hA hS (jc_58 cI cL ad σ11 τ) (ja_58 cI cL ad σ11 τ _ _) (jin rfl (by omega) (by omega)) dX12_becomes_116 (fun σ13 H locs eσ13 hP hS => ?_)
         exact by
          refine lv_aload_n hx hb dX12_becomes_117 rfl (lv_at hl 1 rfl) ?_
          refine va_get (D := D) hx hb hts inlX12 hown hK hP 55 (jc_55 cI cL ad σ13 τ) rfl 3 (of_decide_eq_true rfl) (hts _ kw_7_5) (fun _ h9 => h9) rfl dX12_becomes_118 ?_
          refine lv_aload_n hx hb dX12_becomes_121 rfl (lv_at hl 1 rfl) ?_
          refine va_get (D := D) hx hb hts inlX12 hown hK hP 55 (jc_55 cI cL ad σ13 τ) rfl 5 (of_decide_eq_true rfl) (hts _ kw_11_16) (fun _ h9 => h9) rfl dX12_becomes_122 ?_
          have m14 : σ13 55 5 = (σ 55 5) := ((congrFun (jnp 55 eσ13 (of_decide_eq_true rfl)) 5).trans m12)
          refine jtopr m14 ?_
          refine lv_iload_n hx hb dX12_becomes_125 rfl (lv_at hl 3 rfl) ?_
          refine jast hx hb hK hP hJ hA hS (jc_59 cI cL ad σ13 τ) (ja_59 cI cL ad σ13 τ _ _) (jin rfl (by omega) (by omega)) dX12_becomes_126 (fun σ15 H locs eσ15 hP hS => ?_)
          refine lv_aload_n hx hb dX12_becomes_127 rfl (lv_at hl 1 rfl) ?_
          exact by
           refine lv_dup hx hb dX12_becomes_128 rfl ?_
           refine va_get (D := D) hx hb hts inlX12 hown hK hP 55 (jc_55 cI cL ad σ15 τ) rfl 5 (of_decide_eq_true rfl) (hts _ kw_11_16) (fun _ h9 => h9) rfl dX12_becomes_129 ?_
           have m16 : σ15 55 5 = (σ 55 5) := ((congrFun (jnp 55 eσ15 (of_decide_eq_true rfl)) 5).trans m14)
           refine jtopr m16 ?_
           refine lv_iconst (v := 1) hx hb dX12_becomes_132 (of_decide_eq_true rfl) ?_
           have g17 := jrg (rfl : (σ 55 5).toInt = (σ 55 5).toInt)
           refine lv_iadd hx hb dX12_becomes_133 ?_
           refine lv_topi (fun x18 ex18 => ?_)
           have tx18 : x18.toInt = (σ 55 5).toInt + 1 := (jadd ex18 rfl jz_1 (by omega) (by omega)).trans (by omega)
           exact by
            refine jput (ty := .int) hx hb hts inlX12 tyX12 tyX12_ok nmX12 hown hK hP hJ hA hS (jc_55 cI cL ad σ15 τ) rfl (k := 5) (of_decide_eq_true rfl) (Nat.le_of_ble_eq_true rfl) (jp_55_5 cI cL ad σ15 τ x18) (hts _ kw_11_16) (fun _ h9 => h9) rfl (by decide +kernel) rfl rfl dX12_becomes_134 (fun σ19 H locs eσ19 hP hS => ?_)
            refine lv_aload_n hx hb dX12_becomes_137 rfl (lv_at hl 1 rfl) ?_
            refine lv_aload_n hx hb dX12_becomes_138 rfl (lv_at hl 1 rfl) ?_
            refine va_get (D := D) hx hb hts inlX12 hown hK hP 55 (jc_55 cI cL ad σ19 τ) rfl 5 (of_decide_eq_true rfl) (hts _ kw_11_16) (fun _ h9 => h9) rfl dX12_becomes_139 ?_
            have m20 : σ19 55 5 = x18 := (jsp eσ19)
            refine jtopr m20 ?_
            refine jput (ty := .int) hx hb hts inlX12 tyX12 tyX12_ok nmX12 hown hK hP hJ hA hS (jc_55 cI cL ad σ19 τ) rfl (k := 4) (of_decide_eq_true rfl) (Nat.le_of_ble_eq_true rfl) (jp_55_4 cI cL ad σ19 τ x18) (hts _ kw_11_17) (fun _ h9 => h9) rfl (by decide +kernel) rfl rfl dX12_becomes_142 (fun σ21 H locs eσ21 hP hS => ?_)
            refine lv_aload_n hx hb dX12_becomes_145 rfl (lv_at hl 1 rfl) ?_
            refine va_get (D := D) hx hb hts inlX12 hown hK hP 55 (jc_55 cI cL ad σ21 τ) rfl 0 (of_decide_eq_true rfl) (hts _ kw_7_2) (fun _ h9 => h9) rfl dX12_becomes_146 ?_
            refine lv_iload_n hx hb dX12_becomes_149 rfl (lv_at hl 2 rfl) ?_
            refine lv_iload_n hx hb dX12_becomes_150 rfl (lv_at hl 3 rfl) ?_
            exact by
             refine jast hx hb hK hP hJ hA hS (jc_56 cI cL ad σ21 τ) (ja_56 cI cL ad σ21 τ _ _) (jin t1 (by omega) (by omega)) dX12_becomes_151 (fun σ22 H locs eσ22 hP hS => ?_)
             refine lv_iload_n hx hb dX12_becomes_152 rfl (lv_at hl 0 rfl) ?_
             have z23 : (σ22 55 5).toInt = (σ 55 5).toInt + 1 := ((congrArg Int32.toInt (show σ22 55 5 = x18 from ((congrFun (jnp 55 eσ22 (of_decide_eq_true rfl)) 5).trans ((jkp 5 eσ21 (of_decide_eq_true rfl)).trans m20)))).trans tx18)
             have z24 : (σ22 55 4).toInt = (σ 55 5).toInt + 1 := ((congrArg Int32.toInt (show σ22 55 4 = x18 from ((congrFun (jnp 55 eσ22 (of_decide_eq_true rfl)) 4).trans (jsp eσ21)))).trans tx18)
             have w25 : ∀ k : Nat, k < 68 → (-200) ≤ (σ22 56 k).toInt ∧ (σ22 56 k).toInt ≤ 500 := (by rw [eσ22]; exact jrr_up (jrr_fr (jnp 56 eσ21 (of_decide_eq_true rfl)) (jrr_fr (jnp 56 eσ19 (of_decide_eq_true rfl)) (jrr_fr (jnp 56 eσ15 (of_decide_eq_true rfl)) (jrr_fr (jnp 56 eσ13 (of_decide_eq_true rfl)) (jrr_fr (jnp 56 eσ11 (of_decide_eq_true rfl)) w4))))) (by have h9 := t2; omega) (by have h9 := t2; omega))
             have w26 : ∀ k : Nat, k < 40 → 0 ≤ (σ22 57 k).toInt ∧ (σ22 57 k).toInt ≤ 67 := (jrr_fr (jnp 57 eσ22 (of_decide_eq_true rfl)) (jrr_fr (jnp 57 eσ21 (of_decide_eq_true rfl)) (jrr_fr (jnp 57 eσ19 (of_decide_eq_true rfl)) (jrr_fr (jnp 57 eσ15 (of_decide_eq_true rfl)) (jrr_fr (jnp 57 eσ13 (of_decide_eq_true rfl)) (by rw [eσ11]; exact jrr_up w5 (by have h9 := t1; omega) (by have h9 := t1; omega)))))))
             have w27 : ∀ k : Nat, k < 40 → (-200) ≤ (σ22 58 k).toInt ∧ (σ22 58 k).toInt ≤ 500 := (jrr_fr (jnp 58 eσ22 (of_decide_eq_true rfl)) (jrr_fr (jnp 58 eσ21 (of_decide_eq_true rfl)) (jrr_fr (jnp 58 eσ19 (of_decide_eq_true rfl)) (jrr_fr (jnp 58 eσ15 (of_decide_eq_true rfl)) (by rw [eσ13]; exact jrr_up (jrr_fr (jnp 58 eσ11 (of_decide_eq_true rfl)) w6) (by omega) (by omega))))))
             have w28 : ∀ k : Nat, k < 40 → (-200) ≤ (σ22 59 k).toInt ∧ (σ22 59 k).toInt ≤ 500 := (jrr_fr (jnp 59 eσ22 (of_decide_eq_true rfl)) (jrr_fr (jnp 59 eσ21 (of_decide_eq_true rfl)) (jrr_fr (jnp 59 eσ19 (of_decide_eq_true rfl)) (by rw [eσ15]; exact jrr_up (jrr_fr (jnp 59 eσ13 (of_decide_eq_true rfl)) (jrr_fr (jnp 59 eσ11 (of_decide_eq_true rfl)) w7)) (by have h9 := t2; omega) (by have h9 := t2; omega)))))
             have I29 : jI101 σ22 := ⟨(by omega), (by omega), (by omega), w25, w26, w27, w28⟩
             exact by exact hret (σ 56 a1.toNatClampNeg) σ22 τ _ _ _ _ rfl ⟨rfl, (fun i hi => ((jnp i eσ22 (imp_146 i hi)).trans ((jnp i eσ21 (imp_147 i hi)).trans ((jnp i eσ19 (imp_147 i hi)).trans ((jnp i eσ15 (imp_148 i hi)).trans ((jnp i eσ13 (imp_149 i hi)).trans (jnp i eσ11 (imp_150 i hi)))))))), (fun i hi => ((congrFun (jnp 55 eσ22 (of_decide_eq_true rfl)) i).trans ((jkp i eσ21 (imp_151 i hi)).trans ((jkp i eσ19 (imp_152 i hi)).trans ((congrFun (jnp 55 eσ15 (of_decide_eq_true rfl)) i).trans ((congrFun (jnp 55 eσ13 (of_decide_eq_true rfl)) i).trans (congrFun (jnp 55 eσ11 (of_decide_eq_true rfl)) i))))))), I29, ⟨(by rw [← jnc t1]), Or.inr ⟨(fun h => absurd (congrArg Int32.toInt h) (by have h9 := t2; omega)), (by omega), (by rw [eσ22, jup_row, eσ21, jup_n (of_decide_eq_true rfl), eσ19, jup_n (of_decide_eq_true rfl), eσ15, jup_n (of_decide_eq_true rfl), eσ13, jup_n (of_decide_eq_true rfl), eσ11, jup_n (of_decide_eq_true rfl), jnc t1]), σ 57, σ 58, σ 59, a1, t1, Or.inl ⟨(by omega), (by omega), rfl, rfl, rfl⟩, ((show σ22 57 = jupd (σ 57) (σ 55 5).toNatClampNeg a1 by rw [eσ22, jup_n (of_decide_eq_true rfl), eσ21, jup_n (of_decide_eq_true rfl), eσ19, jup_n (of_decide_eq_true rfl), eσ15, jup_n (of_decide_eq_true rfl), eσ13, jup_n (of_decide_eq_true rfl), eσ11, jup_row]).trans (by rw [jnc (show (σ 55 5).toInt = (σ22 55 5).toInt - 1 by omega)])), ((show σ22 58 = jupd (σ 58) (σ 55 5).toNatClampNeg (σ 56 a1.toNatClampNeg) by rw [eσ22, jup_n (of_decide_eq_true rfl), eσ21, jup_n (of_decide_eq_true rfl), eσ19, jup_n (of_decide_eq_true rfl), eσ15, jup_n (of_decide_eq_true rfl), eσ13, jup_row, eσ11, jup_n (of_decide_eq_true rfl)]).trans (by rw [jnc (show (σ 55 5).toInt = (σ22 55 5).toInt - 1 by omega)])), ((show σ22 59 = jupd (σ 59) (σ 55 5).toNatClampNeg a2 by rw [eσ22, jup_n (of_decide_eq_true rfl), eσ21, jup_n (of_decide_eq_true rfl), eσ19, jup_n (of_decide_eq_true rfl), eσ15, jup_row, eσ13, jup_n (of_decide_eq_true rfl), eσ11, jup_n (of_decide_eq_true rfl)]).trans (by rw [jnc (show (σ 55 5).toInt = (σ22 55 5).toInt - 1 by omega)]))⟩⟩, trivial⟩ hP hS dX12_becomes_153
      · exact by
         have kc10 := jeq c10 rfl jz_40
         refine lv_iconst (v := 1) hx hb dX12_becomes_23 (of_decide_eq_true rfl) ?_
         refine lv_istore (lv' := [(4, .int 1), (3, .int (σ 56 a1.toNatClampNeg)), (0, .ref (ad 55)), (1, .int a1), (2, .int a2)]) hx hb dX12_becomes_24 hl (of_decide_eq_true rfl) rfl (fun ls hl => ?_)
         have lp30 : ∀ (n31 : Nat) (x32 : Int32) (σ33 : Nat → Nat → Int32) (H : Heap) (locs : List Loc) (ls : Array Slot), (-x32.toInt + 40 : Int) < n31 → 1 ≤ x32.toInt → x32.toInt ≤ 40 → (∀ i : Nat, (i < 57 ∨ 59 < i) → σ33 i = σ i) → jI101 σ33 → (jShi (x32.toInt).toNat (σ 57) (σ33 57) ∧ jShi (x32.toInt).toNat (σ 58) (σ33 58) ∧ jShi (x32.toInt).toNat (σ 59) (σ33 59)) → jH D cI cL ad σ33 τ H → va_S (jA ad) s.heap H locs → lv_has ls 5 [(4, .int x32), (3, .int (σ 56 a1.toNatClampNeg)), (0, .ref (ad 55)), (1, .int a1), (2, .int a2)] → W p l e ({ frames := 0, cells := 0, slots := 0, locals := 0 }) s m args below meth c H locs 0 0 Q (F0 m 26 ls []) := by
           intro n31
           induction n31 with
           | zero => intro x32 σ33 H locs ls h35 h36 h37; exact absurd h35 (by omega)
           | succ n31 ihlp30 =>
             intro x32 σ33 H locs ls h35 h36 h37 f38 p39 q40 hP hS hl
             exact by
              obtain ⟨i41, i42, i43, w44, w45, w46, w47⟩ : (0 ≤ (σ33 55 5).toInt) ∧ ((σ33 55 5).toInt ≤ (σ33 55 4).toInt) ∧ ((σ33 55 4).toInt ≤ 40) ∧ (∀ k : Nat, k < 68 → (-200) ≤ (σ33 56 k).toInt ∧ (σ33 56 k).toInt ≤ 500) ∧ (∀ k : Nat, k < 40 → 0 ≤ (σ33 57 k).toInt ∧ (σ33 57 k).toInt ≤ 67) ∧ (∀ k : Nat, k < 40 → (-200) ≤ (σ33 58 k).toInt ∧ (σ33 58 k).toInt ≤ 500) ∧ (∀ k : Nat, k < 40 → (-200) ≤ (σ33 59 k).toInt ∧ (σ33 59 k).toInt ≤ 500) := id p39
              have z48 : (σ33 55 4).toInt = (σ 55 4).toInt := (congrArg Int32.toInt (show σ33 55 4 = (σ 55 4) from (congrFun (f38 55 (of_decide_eq_true rfl)) 4)))
              have z49 : (σ33 55 5).toInt = (σ 55 5).toInt := (congrArg Int32.toInt (show σ33 55 5 = (σ 55 5) from (congrFun (f38 55 (of_decide_eq_true rfl)) 5)))
              refine lv_iload hx hb dX12_becomes_26 (lv_at hl 0 rfl) ?_
              refine lv_bipush (v := 40) hx hb dX12_becomes_28 (of_decide_eq_true rfl) ?_
              refine lv_icmp_ge (tgt := 87) hx hb dX12_becomes_30 (of_decide_eq_true rfl) (fun c50 => ?_) (fun c50 => ?_)
              · have kc50 := jle c50 jz_40 rfl
                refine lv_aload_n hx hb dX12_becomes_87 rfl (lv_at hl 2 rfl) ?_
                refine lv_dup hx hb dX12_becomes_88 rfl ?_
                refine va_get (D := D) hx hb hts inlX12 hown hK hP 55 (jc_55 cI cL ad σ33 τ) rfl 5 (of_decide_eq_true rfl) (hts _ kw_11_16) (fun _ h9 => h9) rfl dX12_becomes_89 ?_
                have m51 : σ33 55 5 = (σ 55 5) := (congrFun (f38 55 (of_decide_eq_true rfl)) 5)
                refine jtopr m51 ?_
                refine lv_iconst (v := 1) hx hb dX12_becomes_92 (of_decide_eq_true rfl) ?_
                have g52 := jrg (rfl : (σ 55 5).toInt = (σ 55 5).toInt)
                refine lv_isub hx hb dX12_becomes_93 ?_
                refine lv_topi (fun x53 ex53 => ?_)
                exact by
                 have tx53 : x53.toInt = (σ 55 5).toInt - 1 := (jsub ex53 rfl jz_1 (by omega) (by omega)).trans (by omega)
                 refine jput (ty := .int) hx hb hts inlX12 tyX12 tyX12_ok nmX12 hown hK hP hJ hA hS (jc_55 cI cL ad σ33 τ) rfl (k := 5) (of_decide_eq_true rfl) (Nat.le_of_ble_eq_true rfl) (jp_55_5 cI cL ad σ33 τ x53) (hts _ kw_11_16) (fun _ h9 => h9) rfl (by decide +kernel) rfl rfl dX12_becomes_94 (fun σ54 H locs eσ54 hP hS => ?_)
                 refine lv_aload_n hx hb dX12_becomes_97 rfl (lv_at hl 2 rfl) ?_
                 refine va_get (D := D) hx hb hts inlX12 hown hK hP 55 (jc_55 cI cL ad σ54 τ) rfl 1 (of_decide_eq_true rfl) (hts _ kw_7_3) (fun _ h9 => h9) rfl dX12_becomes_98 ?_
                 refine lv_aload_n hx hb dX12_becomes_101 rfl (lv_at hl 2 rfl) ?_
                 refine va_get (D := D) hx hb hts inlX12 hown hK hP 55 (jc_55 cI cL ad σ54 τ) rfl 5 (of_decide_eq_true rfl) (hts _ kw_11_16) (fun _ h9 => h9) rfl dX12_becomes_102 ?_
                 have m55 : σ54 55 5 = x53 := (jsp eσ54)
                 refine jtopr m55 ?_
                 refine lv_iload_n hx hb dX12_becomes_105 rfl (lv_at hl 3 rfl) ?_
                 exact by
                  refine jast hx hb hK hP hJ hA hS (jc_57 cI cL ad σ54 τ) (ja_57 cI cL ad σ54 τ _ _) (jin tx53 (by omega) (by omega)) dX12_becomes_106 (fun σ56 H locs eσ56 hP hS => ?_)
                  refine lv_aload_n hx hb dX12_becomes_107 rfl (lv_at hl 2 rfl) ?_
                  refine va_get (D := D) hx hb hts inlX12 hown hK hP 55 (jc_55 cI cL ad σ56 τ) rfl 2 (of_decide_eq_true rfl) (hts _ kw_7_4) (fun _ h9 => h9) rfl dX12_becomes_108 ?_
                  refine lv_aload_n hx hb dX12_becomes_111 rfl (lv_at hl 2 rfl) ?_
                  refine va_get (D := D) hx hb hts inlX12 hown hK hP 55 (jc_55 cI cL ad σ56 τ) rfl 5 (of_decide_eq_true rfl) (hts _ kw_11_16) (fun _ h9 => h9) rfl dX12_becomes_112 ?_
                  have m57 : σ56 55 5 = x53 := ((congrFun (jnp 55 eσ56 (of_decide_eq_true rfl)) 5).trans m55)
                  refine jtopr m57 ?_
                  refine lv_iload_n hx hb dX12_becomes_115 rfl (lv_at hl 1 rfl) ?_
                  refine jast hx hb hK hP hJ hA hS (jc_58 cI cL ad σ56 τ) (ja_58 cI cL ad σ56 τ _ _) (jin tx53 (by omega) (by omega)) dX12_becomes_116 (fun σ58 H locs eσ58 hP hS => ?_)
                  exact by
                   refine lv_aload_n hx hb dX12_becomes_117 rfl (lv_at hl 2 rfl) ?_
                   refine va_get (D := D) hx hb hts inlX12 hown hK hP 55 (jc_55 cI cL ad σ58 τ) rfl 3 (of_decide_eq_true rfl) (hts _ kw_7_5) (fun _ h9 => h9) rfl dX12_becomes_118 ?_
                   refine lv_aload_n hx hb dX12_becomes_121 rfl (lv_at hl 2 rfl) ?_
                   refine va_get (D := D) hx hb hts inlX12 hown hK hP 55 (jc_55 cI cL ad σ58 τ) rfl 5 (of_decide_eq_true rfl) (hts _ kw_11_16) (fun _ h9 => h9) rfl dX12_becomes_122 ?_
                   have m59 : σ58 55 5 = x53 := ((congrFun (jnp 55 eσ58 (of_decide_eq_true rfl)) 5).trans m57)
                   refine jtopr m59 ?_
                   refine lv_iload_n hx hb dX12_becomes_125 rfl (lv_at hl 4 rfl) ?_
                   refine jast hx hb hK hP hJ hA hS (jc_59 cI cL ad σ58 τ) (ja_59 cI cL ad σ58 τ _ _) (jin tx53 (by omega) (by omega)) dX12_becomes_126 (fun σ60 H locs eσ60 hP hS => ?_)
                   refine lv_aload_n hx hb dX12_becomes_127 rfl (lv_at hl 2 rfl) ?_
                   exact by
                    refine lv_dup hx hb dX12_becomes_128 rfl ?_
                    refine va_get (D := D) hx hb hts inlX12 hown hK hP 55 (jc_55 cI cL ad σ60 τ) rfl 5 (of_decide_eq_true rfl) (hts _ kw_11_16) (fun _ h9 => h9) rfl dX12_becomes_129 ?_
                    have m61 : σ60 55 5 = x53 := ((congrFun (jnp 55 eσ60 (of_decide_eq_true rfl)) 5).trans m59)
                    refine jtopr m61 ?_
                    refine lv_iconst (v := 1) hx hb dX12_becomes_132 (of_decide_eq_true rfl) ?_
                    refine lv_iadd hx hb dX12_becomes_133 ?_
                    refine lv_topi (fun x62 ex62 => ?_)
                    have tx62 : x62.toInt = (σ 55 5).toInt := (jadd ex62 tx53 jz_1 (by omega) (by omega)).trans (by omega)
                    refine jput (ty := .int) hx hb hts inlX12 tyX12 tyX12_ok nmX12 hown hK hP hJ hA hS (jc_55 cI cL ad σ60 τ) rfl (k := 5) (of_decide_eq_true rfl) (Nat.le_of_ble_eq_true rfl) (jp_55_5 cI cL ad σ60 τ x62) (hts _ kw_11_16) (fun _ h9 => h9) rfl (by decide +kernel) rfl rfl dX12_becomes_134 (fun σ63 H locs eσ63 hP hS => ?_)
                    exact by
                     refine lv_aload_n hx hb dX12_becomes_137 rfl (lv_at hl 2 rfl) ?_
                     refine lv_aload_n hx hb dX12_becomes_138 rfl (lv_at hl 2 rfl) ?_
                     refine va_get (D := D) hx hb hts inlX12 hown hK hP 55 (jc_55 cI cL ad σ63 τ) rfl 5 (of_decide_eq_true rfl) (hts _ kw_11_16) (fun _ h9 => h9) rfl dX12_becomes_139 ?_
                     have m64 : σ63 55 5 = x62 := (jsp eσ63)
                     refine jtopr m64 ?_
                     refine jput (ty := .int) hx hb hts inlX12 tyX12 tyX12_ok nmX12 hown hK hP hJ hA hS (jc_55 cI cL ad σ63 τ) rfl (k := 4) (of_decide_eq_true rfl) (Nat.le_of_ble_eq_true rfl) (jp_55_4 cI cL ad σ63 τ x62) (hts _ kw_11_17) (fun _ h9 => h9) rfl (by decide +kernel) rfl rfl dX12_becomes_142 (fun σ65 H locs eσ65 hP hS => ?_)
                     refine lv_aload_n hx hb dX12_becomes_145 rfl (lv_at hl 2 rfl) ?_
                     refine va_get (D := D) hx hb hts inlX12 hown hK hP 55 (jc_55 cI cL ad σ65 τ) rfl 0 (of_decide_eq_true rfl) (hts _ kw_7_2) (fun _ h9 => h9) rfl dX12_becomes_146 ?_
                     refine lv_iload_n hx hb dX12_becomes_149 rfl (lv_at hl 3 rfl) ?_
                     refine lv_iload_n hx hb dX12_becomes_150 rfl (lv_at hl 4 rfl) ?_
                     exact by
                      refine jast hx hb hK hP hJ hA hS (jc_56 cI cL ad σ65 τ) (ja_56 cI cL ad σ65 τ _ _) (jin t1 (by omega) (by omega)) dX12_becomes_151 (fun σ66 H locs eσ66 hP hS => ?_)
                      refine lv_iload_n hx hb dX12_becomes_152 rfl (lv_at hl 1 rfl) ?_
                      have z67 : (σ66 55 5).toInt = (σ 55 5).toInt := ((congrArg Int32.toInt (show σ66 55 5 = x62 from ((congrFun (jnp 55 eσ66 (of_decide_eq_true rfl)) 5).trans ((jkp 5 eσ65 (of_decide_eq_true rfl)).trans m64)))).trans tx62)
                      have z68 : (σ66 55 4).toInt = (σ 55 5).toInt := ((congrArg Int32.toInt (show σ66 55 4 = x62 from ((congrFun (jnp 55 eσ66 (of_decide_eq_true rfl)) 4).trans (jsp eσ65)))).trans tx62)
                      have w69 : ∀ k : Nat, k < 68 → (-200) ≤ (σ66 56 k).toInt ∧ (σ66 56 k).toInt ≤ 500 := (by rw [eσ66]; exact jrr_up (jrr_fr (jnp 56 eσ65 (of_decide_eq_true rfl)) (jrr_fr (jnp 56 eσ63 (of_decide_eq_true rfl)) (jrr_fr (jnp 56 eσ60 (of_decide_eq_true rfl)) (jrr_fr (jnp 56 eσ58 (of_decide_eq_true rfl)) (jrr_fr (jnp 56 eσ56 (of_decide_eq_true rfl)) (jrr_fr (jnp 56 eσ54 (of_decide_eq_true rfl)) w44)))))) (by have h9 := t2; omega) (by have h9 := t2; omega))
                      have w70 : ∀ k : Nat, k < 40 → 0 ≤ (σ66 57 k).toInt ∧ (σ66 57 k).toInt ≤ 67 := (jrr_fr (jnp 57 eσ66 (of_decide_eq_true rfl)) (jrr_fr (jnp 57 eσ65 (of_decide_eq_true rfl)) (jrr_fr (jnp 57 eσ63 (of_decide_eq_true rfl)) (jrr_fr (jnp 57 eσ60 (of_decide_eq_true rfl)) (jrr_fr (jnp 57 eσ58 (of_decide_eq_true rfl)) (by rw [eσ56]; exact jrr_up (jrr_fr (jnp 57 eσ54 (of_decide_eq_true rfl)) w45) (by have h9 := t1; omega) (by have h9 := t1; omega)))))))
                      have w71 : ∀ k : Nat, k < 40 → (-200) ≤ (σ66 58 k).toInt ∧ (σ66 58 k).toInt ≤ 500 := (jrr_fr (jnp 58 eσ66 (of_decide_eq_true rfl)) (jrr_fr (jnp 58 eσ65 (of_decide_eq_true rfl)) (jrr_fr (jnp 58 eσ63 (of_decide_eq_true rfl)) (jrr_fr (jnp 58 eσ60 (of_decide_eq_true rfl)) (by rw [eσ58]; exact jrr_up (jrr_fr (jnp 58 eσ56 (of_decide_eq_true rfl)) (jrr_fr (jnp 58 eσ54 (of_decide_eq_true rfl)) w46)) (by omega) (by omega))))))
                      have w72 : ∀ k : Nat, k < 40 → (-200) ≤ (σ66 59 k).toInt ∧ (σ66 59 k).toInt ≤ 500 := (jrr_fr (jnp 59 eσ66 (of_decide_eq_true rfl)) (jrr_fr (jnp 59 eσ65 (of_decide_eq_true rfl)) (jrr_fr (jnp 59 eσ63 (of_decide_eq_true rfl)) (by rw [eσ60]; exact jrr_up (jrr_fr (jnp 59 eσ58 (of_decide_eq_true rfl)) (jrr_fr (jnp 59 eσ56 (of_decide_eq_true rfl)) (jrr_fr (jnp 59 eσ54 (of_decide_eq_true rfl)) w47))) (by have h9 := t2; omega) (by have h9 := t2; omega)))))
                      have I73 : jI101 σ66 := ⟨(by omega), (by omega), (by omega), w69, w70, w71, w72⟩
                      exact by exact hret (σ 56 a1.toNatClampNeg) σ66 τ _ _ _ _ rfl ⟨rfl, (fun i hi => ((jnp i eσ66 (imp_146 i hi)).trans ((jnp i eσ65 (imp_147 i hi)).trans ((jnp i eσ63 (imp_147 i hi)).trans ((jnp i eσ60 (imp_148 i hi)).trans ((jnp i eσ58 (imp_149 i hi)).trans ((jnp i eσ56 (imp_150 i hi)).trans ((jnp i eσ54 (imp_147 i hi)).trans (f38 i (imp_153 i hi)))))))))), (fun i hi => ((congrFun (jnp 55 eσ66 (of_decide_eq_true rfl)) i).trans ((jkp i eσ65 (imp_151 i hi)).trans ((jkp i eσ63 (imp_152 i hi)).trans ((congrFun (jnp 55 eσ60 (of_decide_eq_true rfl)) i).trans ((congrFun (jnp 55 eσ58 (of_decide_eq_true rfl)) i).trans ((congrFun (jnp 55 eσ56 (of_decide_eq_true rfl)) i).trans ((jkp i eσ54 (imp_152 i hi)).trans (congrFun (f38 55 (of_decide_eq_true rfl)) i))))))))), I73, ⟨(by rw [← jnc t1]), Or.inr ⟨(fun h => absurd (congrArg Int32.toInt h) (by have h9 := t2; omega)), (by omega), (by rw [eσ66, jup_row, eσ65, jup_n (of_decide_eq_true rfl), eσ63, jup_n (of_decide_eq_true rfl), eσ60, jup_n (of_decide_eq_true rfl), eσ58, jup_n (of_decide_eq_true rfl), eσ56, jup_n (of_decide_eq_true rfl), eσ54, jup_n (of_decide_eq_true rfl), f38 56 (of_decide_eq_true rfl), jnc t1]), σ33 57, σ33 58, σ33 59, a1, t1, Or.inr ⟨(by omega), (by omega), (jShi.fin q40.1 (by omega)), (jShi.fin q40.2.1 (by omega)), (jShi.fin q40.2.2 (by omega))⟩, ((show σ66 57 = jupd (σ33 57) x53.toNatClampNeg a1 by rw [eσ66, jup_n (of_decide_eq_true rfl), eσ65, jup_n (of_decide_eq_true rfl), eσ63, jup_n (of_decide_eq_true rfl), eσ60, jup_n (of_decide_eq_true rfl), eσ58, jup_n (of_decide_eq_true rfl), eσ56, jup_row, eσ54, jup_n (of_decide_eq_true rfl)]).trans (by rw [jnc (show x53.toInt = (σ66 55 5).toInt - 1 by have h9 := tx53; omega)])), ((show σ66 58 = jupd (σ33 58) x53.toNatClampNeg (σ 56 a1.toNatClampNeg) by rw [eσ66, jup_n (of_decide_eq_true rfl), eσ65, jup_n (of_decide_eq_true rfl), eσ63, jup_n (of_decide_eq_true rfl), eσ60, jup_n (of_decide_eq_true rfl), eσ58, jup_row, eσ56, jup_n (of_decide_eq_true rfl), eσ54, jup_n (of_decide_eq_true rfl)]).trans (by rw [jnc (show x53.toInt = (σ66 55 5).toInt - 1 by have h9 := tx53; omega)])), ((show σ66 59 = jupd (σ33 59) x53.toNatClampNeg a2 by rw [eσ66, jup_n (of_decide_eq_true rfl), eσ65, jup_n (of_decide_eq_true rfl), eσ63, jup_n (of_decide_eq_true rfl), eσ60, jup_row, eσ58, jup_n (of_decide_eq_true rfl), eσ56, jup_n (of_decide_eq_true rfl), eσ54, jup_n (of_decide_eq_true rfl)]).trans (by rw [jnc (show x53.toInt = (σ66 55 5).toInt - 1 by have h9 := tx53; omega)]))⟩⟩, trivial⟩ hP hS dX12_becomes_153
              · exact by
                 have kc50 := jnle c50 jz_40 rfl
                 refine lv_aload_n hx hb dX12_becomes_33 rfl (lv_at hl 2 rfl) ?_
                 refine va_get (D := D) hx hb hts inlX12 hown hK hP 55 (jc_55 cI cL ad σ33 τ) rfl 1 (of_decide_eq_true rfl) (hts _ kw_7_3) (fun _ h9 => h9) rfl dX12_becomes_34 ?_
                 refine lv_iload hx hb dX12_becomes_37 (lv_at hl 0 rfl) ?_
                 refine lv_iconst (v := 1) hx hb dX12_becomes_39 (of_decide_eq_true rfl) ?_
                 have g74 := jrg (rfl : x32.toInt = x32.toInt)
                 refine lv_isub hx hb dX12_becomes_40 ?_
                 refine lv_topi (fun x75 ex75 => ?_)
                 have tx75 : x75.toInt = x32.toInt - 1 := (jsub ex75 rfl jz_1 (by omega) (by omega)).trans (by omega)
                 exact by
                  refine lv_aload_n hx hb dX12_becomes_41 rfl (lv_at hl 2 rfl) ?_
                  refine va_get (D := D) hx hb hts inlX12 hown hK hP 55 (jc_55 cI cL ad σ33 τ) rfl 1 (of_decide_eq_true rfl) (hts _ kw_7_3) (fun _ h9 => h9) rfl dX12_becomes_42 ?_
                  refine lv_iload hx hb dX12_becomes_45 (lv_at hl 0 rfl) ?_
                  refine jald hx hb hK hP (jc_57 cI cL ad σ33 τ) (jin rfl (by omega) (by omega)) dX12_becomes_47 ?_
                  have g76 := w45 _ (jnat (x := x32) rfl (n := 40) (by omega) (of_decide_eq_true rfl))
                  refine jtopr (y := (σ33 57 x32.toNatClampNeg)) rfl ?_
                  refine jast hx hb hK hP hJ hA hS (jc_57 cI cL ad σ33 τ) (ja_57 cI cL ad σ33 τ _ _) (jin tx75 (by omega) (by omega)) dX12_becomes_48 (fun σ77 H locs eσ77 hP hS => ?_)
                  refine lv_aload_n hx hb dX12_becomes_49 rfl (lv_at hl 2 rfl) ?_
                  refine va_get (D := D) hx hb hts inlX12 hown hK hP 55 (jc_55 cI cL ad σ77 τ) rfl 2 (of_decide_eq_true rfl) (hts _ kw_7_4) (fun _ h9 => h9) rfl dX12_becomes_50 ?_
                  exact by
                   refine lv_iload hx hb dX12_becomes_53 (lv_at hl 0 rfl) ?_
                   refine lv_iconst (v := 1) hx hb dX12_becomes_55 (of_decide_eq_true rfl) ?_
                   refine lv_isub hx hb dX12_becomes_56 ?_
                   refine lv_topi (fun x78 ex78 => ?_)
                   have tx78 : x78.toInt = x32.toInt - 1 := (jsub ex78 rfl jz_1 (by omega) (by omega)).trans (by omega)
                   refine lv_aload_n hx hb dX12_becomes_57 rfl (lv_at hl 2 rfl) ?_
                   refine va_get (D := D) hx hb hts inlX12 hown hK hP 55 (jc_55 cI cL ad σ77 τ) rfl 2 (of_decide_eq_true rfl) (hts _ kw_7_4) (fun _ h9 => h9) rfl dX12_becomes_58 ?_
                   refine lv_iload hx hb dX12_becomes_61 (lv_at hl 0 rfl) ?_
                   refine jald hx hb hK hP (jc_58 cI cL ad σ77 τ) (jin rfl (by omega) (by omega)) dX12_becomes_63 ?_
                   exact by
                    have w79 : ∀ k : Nat, k < 40 → (-200) ≤ (σ77 58 k).toInt ∧ (σ77 58 k).toInt ≤ 500 := (jrr_fr (jnp 58 eσ77 (of_decide_eq_true rfl)) w46)
                    have g80 := w79 _ (jnat (x := x32) rfl (n := 40) (by omega) (of_decide_eq_true rfl))
                    refine jtopr (y := (σ33 58 x32.toNatClampNeg)) (by rw [jnp 58 eσ77 (of_decide_eq_true rfl)]) ?_
                    rw [jnp 58 eσ77 (of_decide_eq_true rfl)] at g80
                    refine jast hx hb hK hP hJ hA hS (jc_58 cI cL ad σ77 τ) (ja_58 cI cL ad σ77 τ _ _) (jin tx78 (by omega) (by omega)) dX12_becomes_64 (fun σ81 H locs eσ81 hP hS => ?_)
                    refine lv_aload_n hx hb dX12_becomes_65 rfl (lv_at hl 2 rfl) ?_
                    refine va_get (D := D) hx hb hts inlX12 hown hK hP 55 (jc_55 cI cL ad σ81 τ) rfl 3 (of_decide_eq_true rfl) (hts _ kw_7_5) (fun _ h9 => h9) rfl dX12_becomes_66 ?_
                    refine lv_iload hx hb dX12_becomes_69 (lv_at hl 0 rfl) ?_
                    refine lv_iconst (v := 1) hx hb dX12_becomes_71 (of_decide_eq_true rfl) ?_
                    exact by
                     refine lv_isub hx hb dX12_becomes_72 ?_
                     refine lv_topi (fun x82 ex82 => ?_)
                     have tx82 : x82.toInt = x32.toInt - 1 := (jsub ex82 rfl jz_1 (by omega) (by omega)).trans (by omega)
                     refine lv_aload_n hx hb dX12_becomes_73 rfl (lv_at hl 2 rfl) ?_
                     refine va_get (D := D) hx hb hts inlX12 hown hK hP 55 (jc_55 cI cL ad σ81 τ) rfl 3 (of_decide_eq_true rfl) (hts _ kw_7_5) (fun _ h9 => h9) rfl dX12_becomes_74 ?_
                     refine lv_iload hx hb dX12_becomes_77 (lv_at hl 0 rfl) ?_
                     refine jald hx hb hK hP (jc_59 cI cL ad σ81 τ) (jin rfl (by omega) (by omega)) dX12_becomes_79 ?_
                     have w83 : ∀ k : Nat, k < 40 → (-200) ≤ (σ81 59 k).toInt ∧ (σ81 59 k).toInt ≤ 500 := (jrr_fr (jnp 59 eσ81 (of_decide_eq_true rfl)) (jrr_fr (jnp 59 eσ77 (of_decide_eq_true rfl)) w47))
                     have g84 := w83 _ (jnat (x := x32) rfl (n := 40) (by omega) (of_decide_eq_true rfl))
                     exact by
                      refine jtopr (y := (σ33 59 x32.toNatClampNeg)) (by rw [jnp 59 eσ81 (of_decide_eq_true rfl), jnp 59 eσ77 (of_decide_eq_true rfl)]) ?_
                      rw [jnp 59 eσ81 (of_decide_eq_true rfl), jnp 59 eσ77 (of_decide_eq_true rfl)] at g84
                      refine jast hx hb hK hP hJ hA hS (jc_59 cI cL ad σ81 τ) (ja_59 cI cL ad σ81 τ _ _) (jin tx82 (by omega) (by omega)) dX12_becomes_80 (fun σ85 H locs eσ85 hP hS => ?_)
                      obtain ⟨x86, ex86⟩ : ∃ y : Int32, y = x32 + 1 := ⟨_, rfl⟩
                      have tx86 : x86.toInt = x32.toInt + 1 := (jadd ex86 rfl jz_1 (by omega) (by omega)).trans (by omega)
                      refine lv_iinc (v := x86) (lv' := [(4, .int x86), (3, .int (σ 56 a1.toNatClampNeg)), (0, .ref (ad 55)), (1, .int a1), (2, .int a2)]) hx hb dX12_becomes_81 hl (k := 0) rfl (by rw [ex86]; rfl) (of_decide_eq_true rfl) rfl (fun ls hl => ?_)
                      refine lv_goto (tgt := 26) hx hb dX12_becomes_84 (of_decide_eq_true rfl) ?_
                      have z87 : (σ85 55 5).toInt = (σ 55 5).toInt := (congrArg Int32.toInt (show σ85 55 5 = (σ 55 5) from ((congrFun (jnp 55 eσ85 (of_decide_eq_true rfl)) 5).trans ((congrFun (jnp 55 eσ81 (of_decide_eq_true rfl)) 5).trans ((congrFun (jnp 55 eσ77 (of_decide_eq_true rfl)) 5).trans (congrFun (f38 55 (of_decide_eq_true rfl)) 5))))))
                      have z88 : (σ85 55 4).toInt = (σ 55 4).toInt := (congrArg Int32.toInt (show σ85 55 4 = (σ 55 4) from ((congrFun (jnp 55 eσ85 (of_decide_eq_true rfl)) 4).trans ((congrFun (jnp 55 eσ81 (of_decide_eq_true rfl)) 4).trans ((congrFun (jnp 55 eσ77 (of_decide_eq_true rfl)) 4).trans (congrFun (f38 55 (of_decide_eq_true rfl)) 4))))))
                      exact by
                       have w89 : ∀ k : Nat, k < 68 → (-200) ≤ (σ85 56 k).toInt ∧ (σ85 56 k).toInt ≤ 500 := (jrr_fr (jnp 56 eσ85 (of_decide_eq_true rfl)) (jrr_fr (jnp 56 eσ81 (of_decide_eq_true rfl)) (jrr_fr (jnp 56 eσ77 (of_decide_eq_true rfl)) w44)))
                       have w90 : ∀ k : Nat, k < 40 → 0 ≤ (σ85 57 k).toInt ∧ (σ85 57 k).toInt ≤ 67 := (jrr_fr (jnp 57 eσ85 (of_decide_eq_true rfl)) (jrr_fr (jnp 57 eσ81 (of_decide_eq_true rfl)) (by rw [eσ77]; exact jrr_up w45 (by omega) (by omega))))
                       have w91 : ∀ k : Nat, k < 40 → (-200) ≤ (σ85 58 k).toInt ∧ (σ85 58 k).toInt ≤ 500 := (jrr_fr (jnp 58 eσ85 (of_decide_eq_true rfl)) (by rw [eσ81]; exact jrr_up w79 (by omega) (by omega)))
                       have w92 : ∀ k : Nat, k < 40 → (-200) ≤ (σ85 59 k).toInt ∧ (σ85 59 k).toInt ≤ 500 := (by rw [eσ85]; exact jrr_up w83 (by omega) (by omega))
                       have I93 : jI101 σ85 := ⟨(by omega), (by omega), (by omega), w89, w90, w91, w92⟩
                       exact by exact ihlp30 x86 σ85 _ _ ls (by have h90 := tx86; omega) (by have h90 := tx86; omega) (by have h90 := tx86; omega) (fun i hi => ((jnp i eσ85 (imp_154 i hi)).trans ((jnp i eσ81 (imp_155 i hi)).trans ((jnp i eσ77 (imp_156 i hi)).trans (f38 i hi)))))   I93 ⟨(jShi.step q40.1 (by rw [eσ85, jup_n (of_decide_eq_true rfl), eσ81, jup_n (of_decide_eq_true rfl), eσ77, jup_row, jnc (show x75.toInt = x32.toInt - 1 by have h9 := tx75; omega), jnc (rfl : x32.toInt = x32.toInt)]) (by omega) (by have h9 := tx86; omega)), (jShi.step q40.2.1 (by rw [eσ85, jup_n (of_decide_eq_true rfl), eσ81, jup_row, eσ77, jup_n (of_decide_eq_true rfl), jnc (show x78.toInt = x32.toInt - 1 by have h9 := tx78; omega), jnc (rfl : x32.toInt = x32.toInt)]) (by omega) (by have h9 := tx86; omega)), (jShi.step q40.2.2 (by rw [eσ85, jup_row, eσ81, jup_n (of_decide_eq_true rfl), eσ77, jup_n (of_decide_eq_true rfl), jnc (show x82.toInt = x32.toInt - 1 by have h9 := tx82; omega), jnc (rfl : x32.toInt = x32.toInt)]) (by omega) (by have h9 := tx86; omega))⟩ hP hS (lv_sub hl [0, 1, 2, 3, 4] rfl)
         exact by exact lp30 1000000 1 σ _ _ ls (by have h90 := jz_1; omega) (by have h90 := jz_1; omega) (by have h90 := jz_1; omega) (fun _ _ => rfl)  hI101 ⟨(jShi.first (by have h9 := jz_1; omega)), (jShi.first (by have h9 := jz_1; omega)), (jShi.first (by have h9 := jz_1; omega))⟩ hP hS hl
   · have kc9 := jeq c9 rfl t2
     refine lv_iload_n hx hb dX12_becomes_12 rfl (lv_at hl 0 rfl) ?_
     exact by exact hret (σ 56 a1.toNatClampNeg) σ τ _ _ _ _ rfl ⟨rfl, (fun _ _ => rfl), (fun _ _ => rfl), hI101, ⟨(by rw [← jnc t1]), Or.inl ⟨jsame rfl t2 (by omega), rfl, rfl, rfl, rfl, rfl, rfl⟩⟩, trivial⟩ hP hS dX12_becomes_13
set_option maxHeartbeats 4000000 in
set_option maxRecDepth 100000 in
theorem c_X12_undo (l : Launch) (D : va_G) (cI cL : ClassId) (ad zz : Nat → Nat) (hJ : jD ad) (σ : Nat → Nat → Int32) (τ : Nat → Nat → Int64) (hI101 : jI101 σ) : jM l yX12_undo cX12_undo 1 (some .int) ({ frames := 0, cells := 0, slots := 0, locals := 0 }) D cI cL ad zz [.ref (ad 55)] σ τ (fun r σ' τ' => τ = τ' ∧ (∀ i : Nat, (i < 55 ∨ 56 < i) → σ' i = σ i) ∧ (∀ k : Nat, (k < 5 ∨ 5 < k) → σ' 55 k = σ 55 k) ∧ (jI101 σ') ∧ ((r = (-5) ∧ ((σ 55 5).toInt = 0) ∧ ((σ' 55 5).toInt = (σ 55 5).toInt) ∧ (σ' 56 = σ 56)) ∨ (True ∧ (1 ≤ (σ 55 5).toInt) ∧ ((σ 55 5).toInt ≤ 40) ∧ (r.toInt = (σ 55 5).toInt - 1) ∧ ((σ' 55 5).toInt = (σ 55 5).toInt - 1) ∧ (σ' 56 = jupd (σ 56) (σ 57 (r.toInt).toNat).toInt.toNat (σ 58 (r.toInt).toNat))))) := by
  refine jM.of hJ (by decide +kernel) (nt := .int) rfl (Nat.le_of_ble_eq_true rfl) ?_
  intro p e s m args below meth c Q ls hC hret hl hP
  obtain ⟨hx, hb, hr, hml, hown, hts, hK, -, hlocks, hZ⟩ := hC
  have hown : s.vm.findClass RX12 = some m.cls := hown
  have hS : va_S (jA ad) s.heap s.heap [] := va_S.rf
  have hA : ∀ q, jA ad q → jA ad q := fun _ h => h
  have hl : lv_has ls 1 [(0, .ref (ad 55))] := hl
  obtain ⟨i1, i2, i3, w4, w5, w6, w7⟩ : (0 ≤ (σ 55 5).toInt) ∧ ((σ 55 5).toInt ≤ (σ 55 4).toInt) ∧ ((σ 55 4).toInt ≤ 40) ∧ (∀ k : Nat, k < 68 → (-200) ≤ (σ 56 k).toInt ∧ (σ 56 k).toInt ≤ 500) ∧ (∀ k : Nat, k < 40 → 0 ≤ (σ 57 k).toInt ∧ (σ 57 k).toInt ≤ 67) ∧ (∀ k : Nat, k < 40 → (-200) ≤ (σ 58 k).toInt ∧ (σ 58 k).toInt ≤ 500) ∧ (∀ k : Nat, k < 40 → (-200) ≤ (σ 59 k).toInt ∧ (σ 59 k).toInt ≤ 500) := id hI101
  refine lv_aload_n hx hb dX12_undo_0 rfl (lv_at hl 0 rfl) ?_
  refine va_get (D := D) hx hb hts inlX12 hown hK hP 55 (jc_55 cI cL ad σ τ) rfl 5 (of_decide_eq_true rfl) (hts _ kw_11_16) (fun _ h9 => h9) rfl dX12_undo_1 ?_
  refine lv_if_ne (tgt := 10) hx hb dX12_undo_4 (of_decide_eq_true rfl) (fun c8 => ?_) (fun c8 => ?_)
  · have kc8 := jne c8 rfl jz_0
    refine lv_aload_n hx hb dX12_undo_10 rfl (lv_at hl 0 rfl) ?_
    refine lv_dup hx hb dX12_undo_11 rfl ?_
    refine va_get (D := D) hx hb hts inlX12 hown hK hP 55 (jc_55 cI cL ad σ τ) rfl 5 (of_decide_eq_true rfl) (hts _ kw_11_16) (fun _ h9 => h9) rfl dX12_undo_12 ?_
    refine lv_iconst (v := 1) hx hb dX12_undo_15 (of_decide_eq_true rfl) ?_
    have g9 := jrg (rfl : (σ 55 5).toInt = (σ 55 5).toInt)
    refine lv_isub hx hb dX12_undo_16 ?_
    refine lv_topi (fun x10 ex10 => ?_)
    exact by
     have tx10 : x10.toInt = (σ 55 5).toInt - 1 := (jsub ex10 rfl jz_1 (by omega) (by omega)).trans (by omega)
     refine jput (ty := .int) hx hb hts inlX12 tyX12 tyX12_ok nmX12 hown hK hP hJ hA hS (jc_55 cI cL ad σ τ) rfl (k := 5) (of_decide_eq_true rfl) (Nat.le_of_ble_eq_true rfl) (jp_55_5 cI cL ad σ τ x10) (hts _ kw_11_16) (fun _ h9 => h9) rfl (by decide +kernel) rfl rfl dX12_undo_17 (fun σ11 H locs eσ11 hP hS => ?_)
     refine lv_aload_n hx hb dX12_undo_20 rfl (lv_at hl 0 rfl) ?_
     refine va_get (D := D) hx hb hts inlX12 hown hK hP 55 (jc_55 cI cL ad σ11 τ) rfl 0 (of_decide_eq_true rfl) (hts _ kw_7_2) (fun _ h9 => h9) rfl dX12_undo_21 ?_
     refine lv_aload_n hx hb dX12_undo_24 rfl (lv_at hl 0 rfl) ?_
     refine va_get (D := D) hx hb hts inlX12 hown hK hP 55 (jc_55 cI cL ad σ11 τ) rfl 1 (of_decide_eq_true rfl) (hts _ kw_7_3) (fun _ h9 => h9) rfl dX12_undo_25 ?_
     refine lv_aload_n hx hb dX12_undo_28 rfl (lv_at hl 0 rfl) ?_
     refine va_get (D := D) hx hb hts inlX12 hown hK hP 55 (jc_55 cI cL ad σ11 τ) rfl 5 (of_decide_eq_true rfl) (hts _ kw_11_16) (fun _ h9 => h9) rfl dX12_undo_29 ?_
     have m12 : σ11 55 5 = x10 := (jsp eσ11)
     refine jtopr m12 ?_
     exact by
      refine jald hx hb hK hP (jc_57 cI cL ad σ11 τ) (jin tx10 (by omega) (by omega)) dX12_undo_32 ?_
      have w13 : ∀ k : Nat, k < 40 → 0 ≤ (σ11 57 k).toInt ∧ (σ11 57 k).toInt ≤ 67 := (jrr_fr (jnp 57 eσ11 (of_decide_eq_true rfl)) w5)
      have g14 := w13 _ (jnat (x := x10) tx10 (n := 40) (by omega) (of_decide_eq_true rfl))
      refine jtopr (y := (σ 57 x10.toNatClampNeg)) (by rw [jnp 57 eσ11 (of_decide_eq_true rfl)]) ?_
      rw [jnp 57 eσ11 (of_decide_eq_true rfl)] at g14
      refine lv_aload_n hx hb dX12_undo_33 rfl (lv_at hl 0 rfl) ?_
      refine va_get (D := D) hx hb hts inlX12 hown hK hP 55 (jc_55 cI cL ad σ11 τ) rfl 2 (of_decide_eq_true rfl) (hts _ kw_7_4) (fun _ h9 => h9) rfl dX12_undo_34 ?_
      refine lv_aload_n hx hb dX12_undo_37 rfl (lv_at hl 0 rfl) ?_
      refine va_get (D := D) hx hb hts inlX12 hown hK hP 55 (jc_55 cI cL ad σ11 τ) rfl 5 (of_decide_eq_true rfl) (hts _ kw_11_16) (fun _ h9 => h9) rfl dX12_undo_38 ?_
      exact by
       refine jtopr m12 ?_
       refine jald hx hb hK hP (jc_58 cI cL ad σ11 τ) (jin tx10 (by omega) (by omega)) dX12_undo_41 ?_
       have w15 : ∀ k : Nat, k < 40 → (-200) ≤ (σ11 58 k).toInt ∧ (σ11 58 k).toInt ≤ 500 := (jrr_fr (jnp 58 eσ11 (of_decide_eq_true rfl)) w6)
       have g16 := w15 _ (jnat (x := x10) tx10 (n := 40) (by omega) (of_decide_eq_true rfl))
       refine jtopr (y := (σ 58 x10.toNatClampNeg)) (by rw [jnp 58 eσ11 (of_decide_eq_true rfl)]) ?_
       rw [jnp 58 eσ11 (of_decide_eq_true rfl)] at g16
       refine jast hx hb hK hP hJ hA hS (jc_56 cI cL ad σ11 τ) (ja_56 cI cL ad σ11 τ _ _) (jin rfl (by omega) (by omega)) dX12_undo_42 (fun σ17 H locs eσ17 hP hS => ?_)
       refine lv_aload_n hx hb dX12_undo_43 rfl (lv_at hl 0 rfl) ?_
       refine va_get (D := D) hx hb hts inlX12 hown hK hP 55 (jc_55 cI cL ad σ17 τ) rfl 5 (of_decide_eq_true rfl) (hts _ kw_11_16) (fun _ h9 => h9) rfl dX12_undo_44 ?_
       exact by
        have m18 : σ17 55 5 = x10 := ((congrFun (jnp 55 eσ17 (of_decide_eq_true rfl)) 5).trans m12)
        refine jtopr m18 ?_
        have z19 : (σ17 55 5).toInt = (σ 55 5).toInt - 1 := ((congrArg Int32.toInt (show σ17 55 5 = x10 from m18)).trans tx10)
        have z20 : (σ17 55 4).toInt = (σ 55 4).toInt := (congrArg Int32.toInt (show σ17 55 4 = (σ 55 4) from ((congrFun (jnp 55 eσ17 (of_decide_eq_true rfl)) 4).trans (jkp 4 eσ11 (of_decide_eq_true rfl)))))
        have w21 : ∀ k : Nat, k < 68 → (-200) ≤ (σ17 56 k).toInt ∧ (σ17 56 k).toInt ≤ 500 := (by rw [eσ17]; exact jrr_up (jrr_fr (jnp 56 eσ11 (of_decide_eq_true rfl)) w4) (by omega) (by omega))
        have w22 : ∀ k : Nat, k < 40 → 0 ≤ (σ17 57 k).toInt ∧ (σ17 57 k).toInt ≤ 67 := (jrr_fr (jnp 57 eσ17 (of_decide_eq_true rfl)) w13)
        have w23 : ∀ k : Nat, k < 40 → (-200) ≤ (σ17 58 k).toInt ∧ (σ17 58 k).toInt ≤ 500 := (jrr_fr (jnp 58 eσ17 (of_decide_eq_true rfl)) w15)
        have w24 : ∀ k : Nat, k < 40 → (-200) ≤ (σ17 59 k).toInt ∧ (σ17 59 k).toInt ≤ 500 := (jrr_fr (jnp 59 eσ17 (of_decide_eq_true rfl)) (jrr_fr (jnp 59 eσ11 (of_decide_eq_true rfl)) w7))
        have I25 : jI101 σ17 := ⟨(by omega), (by omega), (by omega), w21, w22, w23, w24⟩
        exact by exact hret x10 σ17 τ _ _ _ _ rfl ⟨rfl, (fun i hi => ((jnp i eσ17 (imp_157 i hi)).trans (jnp i eσ11 (imp_158 i hi)))), (fun i hi => ((congrFun (jnp 55 eσ17 (of_decide_eq_true rfl)) i).trans (jkp i eσ11 (imp_159 i hi)))), I25, Or.inr (⟨trivial, (by have h9 := tx10; omega), (by have h9 := tx10; omega), (by have h9 := tx10; omega), (by have h9 := tx10; omega), (by rw [eσ17, jup_row, eσ11, jup_n (of_decide_eq_true rfl), jnc (rfl : (σ 57 x10.toNatClampNeg).toInt = (σ 57 x10.toNatClampNeg).toInt), jnc (show x10.toInt = x10.toInt by have h9 := tx10; omega)])⟩)⟩ hP hS dX12_undo_47
  · exact by
     have kc8 := jeq c8 rfl jz_0
     refine lv_bipush (v := (-5)) hx hb dX12_undo_7 (of_decide_eq_true rfl) ?_
     exact by exact hret (-5) σ τ _ _ _ _ rfl ⟨rfl, (fun _ _ => rfl), (fun _ _ => rfl), hI101, Or.inl ⟨rfl, (by have h9 := jz_m5; omega), (by have h9 := jz_m5; omega), rfl⟩⟩ hP hS dX12_undo_9
set_option maxHeartbeats 4000000 in
set_option maxRecDepth 100000 in
theorem c_X12_redo (l : Launch) (D : va_G) (cI cL : ClassId) (ad zz : Nat → Nat) (hJ : jD ad) (σ : Nat → Nat → Int32) (τ : Nat → Nat → Int64) (hI101 : jI101 σ) : jM l yX12_redo cX12_redo 1 (some .int) ({ frames := 0, cells := 0, slots := 0, locals := 0 }) D cI cL ad zz [.ref (ad 55)] σ τ (fun r σ' τ' => τ = τ' ∧ (∀ i : Nat, (i < 55 ∨ 56 < i) → σ' i = σ i) ∧ (∀ k : Nat, (k < 5 ∨ 5 < k) → σ' 55 k = σ 55 k) ∧ (jI101 σ') ∧ ((r = (-5) ∧ ((σ 55 4).toInt - (σ 55 5).toInt = 0) ∧ ((σ' 55 5).toInt = (σ 55 5).toInt) ∧ (σ' 56 = σ 56)) ∨ (True ∧ (1 ≤ (σ 55 4).toInt - (σ 55 5).toInt) ∧ ((σ 55 5).toInt < 40) ∧ (r.toInt = (σ 55 4).toInt - (σ 55 5).toInt - 1) ∧ ((σ' 55 5).toInt = (σ 55 5).toInt + 1) ∧ (σ' 56 = jupd (σ 56) (σ 57 ((σ 55 5).toInt).toNat).toInt.toNat (σ 59 ((σ 55 5).toInt).toNat))))) := by
  refine jM.of hJ (by decide +kernel) (nt := .int) rfl (Nat.le_of_ble_eq_true rfl) ?_
  intro p e s m args below meth c Q ls hC hret hl hP
  obtain ⟨hx, hb, hr, hml, hown, hts, hK, -, hlocks, hZ⟩ := hC
  have hown : s.vm.findClass RX12 = some m.cls := hown
  have hS : va_S (jA ad) s.heap s.heap [] := va_S.rf
  have hA : ∀ q, jA ad q → jA ad q := fun _ h => h
  have hl : lv_has ls 1 [(0, .ref (ad 55))] := hl
  obtain ⟨i1, i2, i3, w4, w5, w6, w7⟩ : (0 ≤ (σ 55 5).toInt) ∧ ((σ 55 5).toInt ≤ (σ 55 4).toInt) ∧ ((σ 55 4).toInt ≤ 40) ∧ (∀ k : Nat, k < 68 → (-200) ≤ (σ 56 k).toInt ∧ (σ 56 k).toInt ≤ 500) ∧ (∀ k : Nat, k < 40 → 0 ≤ (σ 57 k).toInt ∧ (σ 57 k).toInt ≤ 67) ∧ (∀ k : Nat, k < 40 → (-200) ≤ (σ 58 k).toInt ∧ (σ 58 k).toInt ≤ 500) ∧ (∀ k : Nat, k < 40 → (-200) ≤ (σ 59 k).toInt ∧ (σ 59 k).toInt ≤ 500) := id hI101
  refine lv_aload_n hx hb dX12_redo_0 rfl (lv_at hl 0 rfl) ?_
  refine va_get (D := D) hx hb hts inlX12 hown hK hP 55 (jc_55 cI cL ad σ τ) rfl 5 (of_decide_eq_true rfl) (hts _ kw_11_16) (fun _ h9 => h9) rfl dX12_redo_1 ?_
  refine lv_aload_n hx hb dX12_redo_4 rfl (lv_at hl 0 rfl) ?_
  refine va_get (D := D) hx hb hts inlX12 hown hK hP 55 (jc_55 cI cL ad σ τ) rfl 4 (of_decide_eq_true rfl) (hts _ kw_11_17) (fun _ h9 => h9) rfl dX12_redo_5 ?_
  refine lv_icmp_ne (tgt := 14) hx hb dX12_redo_8 (of_decide_eq_true rfl) (fun c8 => ?_) (fun c8 => ?_)
  · have kc8 := jne c8 rfl rfl
    refine lv_aload_n hx hb dX12_redo_14 rfl (lv_at hl 0 rfl) ?_
    refine va_get (D := D) hx hb hts inlX12 hown hK hP 55 (jc_55 cI cL ad σ τ) rfl 0 (of_decide_eq_true rfl) (hts _ kw_7_2) (fun _ h9 => h9) rfl dX12_redo_15 ?_
    refine lv_aload_n hx hb dX12_redo_18 rfl (lv_at hl 0 rfl) ?_
    refine va_get (D := D) hx hb hts inlX12 hown hK hP 55 (jc_55 cI cL ad σ τ) rfl 1 (of_decide_eq_true rfl) (hts _ kw_7_3) (fun _ h9 => h9) rfl dX12_redo_19 ?_
    refine lv_aload_n hx hb dX12_redo_22 rfl (lv_at hl 0 rfl) ?_
    refine va_get (D := D) hx hb hts inlX12 hown hK hP 55 (jc_55 cI cL ad σ τ) rfl 5 (of_decide_eq_true rfl) (hts _ kw_11_16) (fun _ h9 => h9) rfl dX12_redo_23 ?_
    exact by
     refine jald hx hb hK hP (jc_57 cI cL ad σ τ) (jin rfl (by omega) (by omega)) dX12_redo_26 ?_
     have g9 := w5 _ (jnat (x := (σ 55 5)) rfl (n := 40) (by omega) (of_decide_eq_true rfl))
     refine jtopr (y := (σ 57 (σ 55 5).toNatClampNeg)) rfl ?_
     refine lv_aload_n hx hb dX12_redo_27 rfl (lv_at hl 0 rfl) ?_
     refine va_get (D := D) hx hb hts inlX12 hown hK hP 55 (jc_55 cI cL ad σ τ) rfl 3 (of_decide_eq_true rfl) (hts _ kw_7_5) (fun _ h9 => h9) rfl dX12_redo_28 ?_
     refine lv_aload_n hx hb dX12_redo_31 rfl (lv_at hl 0 rfl) ?_
     refine va_get (D := D) hx hb hts inlX12 hown hK hP 55 (jc_55 cI cL ad σ τ) rfl 5 (of_decide_eq_true rfl) (hts _ kw_11_16) (fun _ h9 => h9) rfl dX12_redo_32 ?_
     refine jald hx hb hK hP (jc_59 cI cL ad σ τ) (jin rfl (by omega) (by omega)) dX12_redo_35 ?_
     have g10 := w7 _ (jnat (x := (σ 55 5)) rfl (n := 40) (by omega) (of_decide_eq_true rfl))
     exact by
      refine jtopr (y := (σ 59 (σ 55 5).toNatClampNeg)) rfl ?_
      refine jast hx hb hK hP hJ hA hS (jc_56 cI cL ad σ τ) (ja_56 cI cL ad σ τ _ _) (jin rfl (by omega) (by omega)) dX12_redo_36 (fun σ11 H locs eσ11 hP hS => ?_)
      refine lv_aload_n hx hb dX12_redo_37 rfl (lv_at hl 0 rfl) ?_
      refine lv_dup hx hb dX12_redo_38 rfl ?_
      refine va_get (D := D) hx hb hts inlX12 hown hK hP 55 (jc_55 cI cL ad σ11 τ) rfl 5 (of_decide_eq_true rfl) (hts _ kw_11_16) (fun _ h9 => h9) rfl dX12_redo_39 ?_
      have m12 : σ11 55 5 = (σ 55 5) := (congrFun (jnp 55 eσ11 (of_decide_eq_true rfl)) 5)
      refine jtopr m12 ?_
      refine lv_iconst (v := 1) hx hb dX12_redo_42 (of_decide_eq_true rfl) ?_
      have g13 := jrg (rfl : (σ 55 5).toInt = (σ 55 5).toInt)
      exact by
       refine lv_iadd hx hb dX12_redo_43 ?_
       refine lv_topi (fun x14 ex14 => ?_)
       have tx14 : x14.toInt = (σ 55 5).toInt + 1 := (jadd ex14 rfl jz_1 (by omega) (by omega)).trans (by omega)
       refine jput (ty := .int) hx hb hts inlX12 tyX12 tyX12_ok nmX12 hown hK hP hJ hA hS (jc_55 cI cL ad σ11 τ) rfl (k := 5) (of_decide_eq_true rfl) (Nat.le_of_ble_eq_true rfl) (jp_55_5 cI cL ad σ11 τ x14) (hts _ kw_11_16) (fun _ h9 => h9) rfl (by decide +kernel) rfl rfl dX12_redo_44 (fun σ15 H locs eσ15 hP hS => ?_)
       refine lv_aload_n hx hb dX12_redo_47 rfl (lv_at hl 0 rfl) ?_
       refine va_get (D := D) hx hb hts inlX12 hown hK hP 55 (jc_55 cI cL ad σ15 τ) rfl 4 (of_decide_eq_true rfl) (hts _ kw_11_17) (fun _ h9 => h9) rfl dX12_redo_48 ?_
       have m16 : σ15 55 4 = (σ 55 4) := ((jkp 4 eσ15 (of_decide_eq_true rfl)).trans (congrFun (jnp 55 eσ11 (of_decide_eq_true rfl)) 4))
       refine jtopr m16 ?_
       refine lv_aload_n hx hb dX12_redo_51 rfl (lv_at hl 0 rfl) ?_
       exact by
        refine va_get (D := D) hx hb hts inlX12 hown hK hP 55 (jc_55 cI cL ad σ15 τ) rfl 5 (of_decide_eq_true rfl) (hts _ kw_11_16) (fun _ h9 => h9) rfl dX12_redo_52 ?_
        have m17 : σ15 55 5 = x14 := (jsp eσ15)
        refine jtopr m17 ?_
        have g18 := jrg (rfl : (σ 55 4).toInt = (σ 55 4).toInt)
        refine lv_isub hx hb dX12_redo_55 ?_
        refine lv_topi (fun x19 ex19 => ?_)
        have tx19 : x19.toInt = (σ 55 4).toInt - (σ 55 5).toInt - 1 := (jsub ex19 rfl tx14 (by omega) (by omega)).trans (by omega)
        have z20 : (σ15 55 5).toInt = (σ 55 5).toInt + 1 := ((congrArg Int32.toInt (show σ15 55 5 = x14 from m17)).trans tx14)
        have z21 : (σ15 55 4).toInt = (σ 55 4).toInt := (congrArg Int32.toInt (show σ15 55 4 = (σ 55 4) from m16))
        exact by
         have w22 : ∀ k : Nat, k < 68 → (-200) ≤ (σ15 56 k).toInt ∧ (σ15 56 k).toInt ≤ 500 := (jrr_fr (jnp 56 eσ15 (of_decide_eq_true rfl)) (by rw [eσ11]; exact jrr_up w4 (by omega) (by omega)))
         have w23 : ∀ k : Nat, k < 40 → 0 ≤ (σ15 57 k).toInt ∧ (σ15 57 k).toInt ≤ 67 := (jrr_fr (jnp 57 eσ15 (of_decide_eq_true rfl)) (jrr_fr (jnp 57 eσ11 (of_decide_eq_true rfl)) w5))
         have w24 : ∀ k : Nat, k < 40 → (-200) ≤ (σ15 58 k).toInt ∧ (σ15 58 k).toInt ≤ 500 := (jrr_fr (jnp 58 eσ15 (of_decide_eq_true rfl)) (jrr_fr (jnp 58 eσ11 (of_decide_eq_true rfl)) w6))
         have w25 : ∀ k : Nat, k < 40 → (-200) ≤ (σ15 59 k).toInt ∧ (σ15 59 k).toInt ≤ 500 := (jrr_fr (jnp 59 eσ15 (of_decide_eq_true rfl)) (jrr_fr (jnp 59 eσ11 (of_decide_eq_true rfl)) w7))
         have I26 : jI101 σ15 := ⟨(by omega), (by omega), (by omega), w22, w23, w24, w25⟩
         exact by exact hret x19 σ15 τ _ _ _ _ rfl ⟨rfl, (fun i hi => ((jnp i eσ15 (imp_158 i hi)).trans (jnp i eσ11 (imp_157 i hi)))), (fun i hi => ((jkp i eσ15 (imp_159 i hi)).trans (congrFun (jnp 55 eσ11 (of_decide_eq_true rfl)) i))), I26, Or.inr (⟨trivial, (by have h9 := tx19; omega), (by have h9 := tx19; omega), (by have h9 := tx19; omega), (by have h9 := tx19; omega), (by rw [eσ15, jup_n (of_decide_eq_true rfl), eσ11, jup_row, jnc (rfl : (σ 57 (σ 55 5).toNatClampNeg).toInt = (σ 57 (σ 55 5).toNatClampNeg).toInt), jnc (show (σ 55 5).toInt = (σ 55 5).toInt by have h9 := tx19; omega)])⟩)⟩ hP hS dX12_redo_56
  · have kc8 := jeq c8 rfl rfl
    refine lv_bipush (v := (-5)) hx hb dX12_redo_11 (of_decide_eq_true rfl) ?_
    exact by exact hret (-5) σ τ _ _ _ _ rfl ⟨rfl, (fun _ _ => rfl), (fun _ _ => rfl), hI101, Or.inl ⟨rfl, (by have h9 := jz_m5; omega), (by have h9 := jz_m5; omega), rfl⟩⟩ hP hS dX12_redo_13
set_option maxHeartbeats 4000000 in
set_option maxRecDepth 100000 in
theorem c_X12_isBowler (l : Launch) (D : va_G) (cI cL : ClassId) (ad zz : Nat → Nat) (hJ : jD ad) (σ : Nat → Nat → Int32) (τ : Nat → Nat → Int64) (a1 : Int32) (A1 : Int) (t1 : a1.toInt = A1) (hI102 : jI102 σ) : jM l yX12_isBowler cX12_isBowler 2 (some .boolean) ({ frames := 1, cells := 0, slots := 0, locals := 25 }) D cI cL ad zz [.ref (ad 55), .int a1] σ τ (fun r σ' τ' => (σ = σ' ∧ τ = τ') ∧ ((r = 1 ∧ (0 ≤ A1 ∧ A1 < (σ 55 6).toInt)) ∨ (r = 0 ∧ ((A1 < 0) ∨ ((σ 55 6).toInt ≤ A1))))) := by
  refine jM.of hJ (by decide +kernel) (nt := .boolean) rfl (Nat.le_of_ble_eq_true rfl) ?_
  intro p e s m args below meth c Q ls hC hret hl hP
  obtain ⟨hx, hb, hr, hml, hown, hts, hK, -, hlocks, hZ⟩ := hC
  have hown : s.vm.findClass RX12 = some m.cls := hown
  have hS : va_S (jA ad) s.heap s.heap [] := va_S.rf
  have hA : ∀ q, jA ad q → jA ad q := fun _ h => h
  have hl : lv_has ls 2 [(0, .ref (ad 55)), (1, .int a1)] := hl
  have g1 := jrg t1
  obtain ⟨i1, w2, w3⟩ : (0 ≤ (σ 55 6).toInt ∧ (σ 55 6).toInt ≤ 4) ∧ (∀ k : Nat, k < 4 → 0 ≤ (σ 60 k).toInt ∧ (σ 60 k).toInt ≤ 50) ∧ (∀ k : Nat, k < 4 → 0 ≤ (σ 61 k).toInt ∧ (σ 61 k).toInt ≤ 20) := id hI102
  refine lv_iload_n hx hb dX12_isBowler_0 rfl (lv_at hl 1 rfl) ?_
  refine lv_i2l (v := a1.toInt64) hx hb dX12_isBowler_1 rfl ?_
  refine lv_lconst (v := 0) hx hb dX12_isBowler_2 (of_decide_eq_true rfl) ?_
  refine lv_aload_n hx hb dX12_isBowler_3 rfl (lv_at hl 0 rfl) ?_
  refine va_get (D := D) hx hb hts inlX12 hown hK hP 55 (jc_55 cI cL ad σ τ) rfl 6 (of_decide_eq_true rfl) (hts _ kw_9_13) (fun _ h9 => h9) rfl dX12_isBowler_4 ?_
  refine lv_iconst (v := 1) hx hb dX12_isBowler_7 (of_decide_eq_true rfl) ?_
  have g4 := jrg (rfl : (σ 55 6).toInt = (σ 55 6).toInt)
  refine lv_isub hx hb dX12_isBowler_8 ?_
  refine lv_topi (fun x5 ex5 => ?_)
  exact by
   have tx5 : x5.toInt = (σ 55 6).toInt - 1 := (jsub ex5 rfl jz_1 (by omega) (by omega)).trans (by omega)
   refine lv_i2l (v := x5.toInt64) hx hb dX12_isBowler_9 rfl ?_
   refine jcallS (As := [.long a1.toInt64, .long 0, .long x5.toInt64]) (rest := []) ⟨hx, hb, hml, hown, hts⟩ hK hP hA hS hZ (c_X12_within l D cI cL ad zz hJ σ τ a1.toInt64 (A1) (jtoL t1) 0 (0) jzl_0 x5.toInt64 ((σ 55 6).toInt - 1) (jtoL tx5)) cw_RX12_136 ⟨Nat.le_of_ble_eq_true rfl, Nat.le_of_ble_eq_true rfl⟩ rfl rfl rfl hl.1 rfl (Nat.le_of_ble_eq_true rfl) dX12_isBowler_10 ⟨Nat.zero_le _, Nat.zero_le _⟩ (fun r7 σ6 τ6 H locs h6 hP hS => ?_)
   obtain ⟨⟨rfl, rfl⟩, h6⟩ := h6
   rcases h6 with h8 | h9
   · obtain ⟨q11, k10⟩ := h8
     have q11 := q11.symm
     subst q11
     exact hret 1 σ τ _ _ _ _ rfl ⟨⟨rfl, rfl⟩, Or.inl ⟨rfl, (by have h9 := jz_1; omega)⟩⟩ hP hS dX12_isBowler_13
   · obtain ⟨q13, k12⟩ := h9
     have q13 := q13.symm
     subst q13
     exact hret 0 σ τ _ _ _ _ rfl ⟨⟨rfl, rfl⟩, Or.inr (⟨rfl, (by have h9 := jz_0; omega)⟩)⟩ hP hS dX12_isBowler_13
set_option maxHeartbeats 4000000 in
set_option maxRecDepth 100000 in
theorem c_X12_bowler (l : Launch) (D : va_G) (cI cL : ClassId) (ad zz : Nat → Nat) (hJ : jD ad) (σ : Nat → Nat → Int32) (τ : Nat → Nat → Int64) (a1 : Int32) (A1 : Int) (t1 : a1.toInt = A1) (a2 : Int32) (A2 : Int) (t2 : a2.toInt = A2) (a3 : Int32) (A3 : Int) (t3 : a3.toInt = A3) (hI101 : jI101 σ) (hI102 : jI102 σ) : jM l yX12_bowler cX12_bowler 4 (some .int) ({ frames := 1, cells := 0, slots := 0, locals := 25 }) D cI cL ad zz [.ref (ad 55), .int a1, .int a2, .int a3] σ τ (fun r σ' τ' => τ = τ' ∧ (∀ i : Nat, (i < 55 ∨ 56 < i) ∧ (i < 60 ∨ 61 < i) → σ' i = σ i) ∧ (∀ k : Nat, (k < 6 ∨ 6 < k) → σ' 55 k = σ 55 k) ∧ (jI101 σ') ∧ (jI102 σ') ∧ ((r = (-1) ∧ ((A1 < 0) ∨ (8 < A1) ∨ (A2 < 0) ∨ (50 < A2) ∨ (A3 < 0) ∨ (20 < A3)) ∧ ((σ' 55 6).toInt = (σ 55 6).toInt) ∧ (σ' 56 = σ 56)) ∨ (r = (-3) ∧ (0 ≤ A1 ∧ A1 ≤ 8) ∧ (0 ≤ A2 ∧ A2 ≤ 50) ∧ (0 ≤ A3 ∧ A3 ≤ 20) ∧ ((σ 55 6).toInt = 4) ∧ ((σ' 55 6).toInt = 4) ∧ (σ' 56 = σ 56)) ∨ (True ∧ (0 ≤ A1 ∧ A1 ≤ 8) ∧ (0 ≤ A2 ∧ A2 ≤ 50) ∧ (0 ≤ A3 ∧ A3 ≤ 20) ∧ ((σ 55 6).toInt < 4) ∧ (r.toInt = (σ 55 6).toInt) ∧ ((σ' 55 6).toInt = (σ 55 6).toInt + 1) ∧ (σ' 56 = jupd (σ 56) (32 + (σ 55 6).toInt).toNat a1)))) := by
  refine jM.of hJ (by decide +kernel) (nt := .int) rfl (Nat.le_of_ble_eq_true rfl) ?_
  intro p e s m args below meth c Q ls hC hret hl hP
  obtain ⟨hx, hb, hr, hml, hown, hts, hK, -, hlocks, hZ⟩ := hC
  have hown : s.vm.findClass RX12 = some m.cls := hown
  have hS : va_S (jA ad) s.heap s.heap [] := va_S.rf
  have hA : ∀ q, jA ad q → jA ad q := fun _ h => h
  have hl : lv_has ls 4 [(0, .ref (ad 55)), (1, .int a1), (2, .int a2), (3, .int a3)] := hl
  have g1 := jrg t1
  have g2 := jrg t2
  have g3 := jrg t3
  obtain ⟨i1, i2, i3, w4, w5, w6, w7⟩ : (0 ≤ (σ 55 5).toInt) ∧ ((σ 55 5).toInt ≤ (σ 55 4).toInt) ∧ ((σ 55 4).toInt ≤ 40) ∧ (∀ k : Nat, k < 68 → (-200) ≤ (σ 56 k).toInt ∧ (σ 56 k).toInt ≤ 500) ∧ (∀ k : Nat, k < 40 → 0 ≤ (σ 57 k).toInt ∧ (σ 57 k).toInt ≤ 67) ∧ (∀ k : Nat, k < 40 → (-200) ≤ (σ 58 k).toInt ∧ (σ 58 k).toInt ≤ 500) ∧ (∀ k : Nat, k < 40 → (-200) ≤ (σ 59 k).toInt ∧ (σ 59 k).toInt ≤ 500) := id hI101
  obtain ⟨i8, w9, w10⟩ : (0 ≤ (σ 55 6).toInt ∧ (σ 55 6).toInt ≤ 4) ∧ (∀ k : Nat, k < 4 → 0 ≤ (σ 60 k).toInt ∧ (σ 60 k).toInt ≤ 50) ∧ (∀ k : Nat, k < 4 → 0 ≤ (σ 61 k).toInt ∧ (σ 61 k).toInt ≤ 20) := id hI102
  refine lv_iload_n hx hb dX12_bowler_0 rfl (lv_at hl 1 rfl) ?_
  refine lv_i2l (v := a1.toInt64) hx hb dX12_bowler_1 rfl ?_
  refine lv_lconst (v := 0) hx hb dX12_bowler_2 (of_decide_eq_true rfl) ?_
  refine lv_ldc2 (v := 8) hx hb hown (hts _ kw_9_10) dX12_bowler_3 ?_
  refine jcallS (As := [.long a1.toInt64, .long 0, .long 8]) (rest := []) ⟨hx, hb, hml, hown, hts⟩ hK hP hA hS hZ (c_X12_within l D cI cL ad zz hJ σ τ a1.toInt64 (A1) (jtoL t1) 0 (0) jzl_0 8 (8) jzl_8) cw_RX12_136 ⟨Nat.le_of_ble_eq_true rfl, Nat.le_of_ble_eq_true rfl⟩ rfl rfl rfl hl.1 rfl (Nat.le_of_ble_eq_true rfl) dX12_bowler_6 ⟨Nat.zero_le _, Nat.zero_le _⟩ (fun r12 σ11 τ11 H locs h11 hP hS => ?_)
  obtain ⟨⟨rfl, rfl⟩, h11⟩ := h11
  rcases h11 with h13 | h14
  · obtain ⟨q16, k15⟩ := h13
    have q16 := q16.symm
    subst q16
    refine lv_if_eq (tgt := 36) hx hb dX12_bowler_9 (of_decide_eq_true rfl) (fun c => absurd c (of_decide_eq_true rfl)) (fun _ => ?_)
    refine lv_iload_n hx hb dX12_bowler_12 rfl (lv_at hl 2 rfl) ?_
    refine lv_i2l (v := a2.toInt64) hx hb dX12_bowler_13 rfl ?_
    refine lv_lconst (v := 0) hx hb dX12_bowler_14 (of_decide_eq_true rfl) ?_
    refine lv_ldc2 (v := 50) hx hb hown (hts _ kw_9_11) dX12_bowler_15 ?_
    refine jcallS (As := [.long a2.toInt64, .long 0, .long 50]) (rest := []) ⟨hx, hb, hml, hown, hts⟩ hK hP hA hS hZ (c_X12_within l D cI cL ad zz hJ σ τ a2.toInt64 (A2) (jtoL t2) 0 (0) jzl_0 50 (50) jzl_50) cw_RX12_136 ⟨Nat.le_of_ble_eq_true rfl, Nat.le_of_ble_eq_true rfl⟩ rfl rfl rfl hl.1 rfl (Nat.le_of_ble_eq_true rfl) dX12_bowler_18 ⟨Nat.zero_le _, Nat.zero_le _⟩ (fun r18 σ17 τ17 H locs h17 hP hS => ?_)
    obtain ⟨⟨rfl, rfl⟩, h17⟩ := h17
    rcases h17 with h19 | h20
    · obtain ⟨q22, k21⟩ := h19
      have q22 := q22.symm
      subst q22
      refine lv_if_eq (tgt := 36) hx hb dX12_bowler_21 (of_decide_eq_true rfl) (fun c => absurd c (of_decide_eq_true rfl)) (fun _ => ?_)
      refine lv_iload_n hx hb dX12_bowler_24 rfl (lv_at hl 3 rfl) ?_
      refine lv_i2l (v := a3.toInt64) hx hb dX12_bowler_25 rfl ?_
      refine lv_lconst (v := 0) hx hb dX12_bowler_26 (of_decide_eq_true rfl) ?_
      refine lv_ldc2 (v := 20) hx hb hown (hts _ kw_9_12) dX12_bowler_27 ?_
      refine jcallS (As := [.long a3.toInt64, .long 0, .long 20]) (rest := []) ⟨hx, hb, hml, hown, hts⟩ hK hP hA hS hZ (c_X12_within l D cI cL ad zz hJ σ τ a3.toInt64 (A3) (jtoL t3) 0 (0) jzl_0 20 (20) jzl_20) cw_RX12_136 ⟨Nat.le_of_ble_eq_true rfl, Nat.le_of_ble_eq_true rfl⟩ rfl rfl rfl hl.1 rfl (Nat.le_of_ble_eq_true rfl) dX12_bowler_30 ⟨Nat.zero_le _, Nat.zero_le _⟩ (fun r24 σ23 τ23 H locs h23 hP hS => ?_)
      obtain ⟨⟨rfl, rfl⟩, h23⟩ := h23
      rcases h23 with h25 | h26
      · obtain ⟨q28, k27⟩ := h25
        have q28 := q28.symm
        subst q28
        refine lv_if_ne (tgt := 38) hx hb dX12_bowler_33 (of_decide_eq_true rfl) (fun _ => ?_) (fun c => absurd c (of_decide_eq_true rfl))
        refine lv_aload_n hx hb dX12_bowler_38 rfl (lv_at hl 0 rfl) ?_
        refine va_get (D := D) hx hb hts inlX12 hown hK hP 55 (jc_55 cI cL ad σ τ) rfl 6 (of_decide_eq_true rfl) (hts _ kw_9_13) (fun _ h9 => h9) rfl dX12_bowler_39 ?_
        refine lv_iconst (v := 4) hx hb dX12_bowler_42 (of_decide_eq_true rfl) ?_
        refine lv_icmp_ne (tgt := 49) hx hb dX12_bowler_43 (of_decide_eq_true rfl) (fun c29 => ?_) (fun c29 => ?_)
        · have kc29 := jne c29 rfl jz_4
          refine lv_aload_n hx hb dX12_bowler_49 rfl (lv_at hl 0 rfl) ?_
          refine va_get (D := D) hx hb hts inlX12 hown hK hP 55 (jc_55 cI cL ad σ τ) rfl 0 (of_decide_eq_true rfl) (hts _ kw_7_2) (fun _ h9 => h9) rfl dX12_bowler_50 ?_
          refine lv_bipush (v := 32) hx hb dX12_bowler_53 (of_decide_eq_true rfl) ?_
          refine lv_aload_n hx hb dX12_bowler_55 rfl (lv_at hl 0 rfl) ?_
          refine va_get (D := D) hx hb hts inlX12 hown hK hP 55 (jc_55 cI cL ad σ τ) rfl 6 (of_decide_eq_true rfl) (hts _ kw_9_13) (fun _ h9 => h9) rfl dX12_bowler_56 ?_
          have g30 := jrg (rfl : (σ 55 6).toInt = (σ 55 6).toInt)
          refine lv_iadd hx hb dX12_bowler_59 ?_
          refine lv_topi (fun x31 ex31 => ?_)
          exact by
           have tx31 : x31.toInt = (σ 55 6).toInt + 32 := (jadd ex31 jz_32 rfl (by omega) (by omega)).trans (by omega)
           refine lv_iload_n hx hb dX12_bowler_60 rfl (lv_at hl 1 rfl) ?_
           refine jast hx hb hK hP hJ hA hS (jc_56 cI cL ad σ τ) (ja_56 cI cL ad σ τ _ _) (jin tx31 (by omega) (by omega)) dX12_bowler_61 (fun σ32 H locs eσ32 hP hS => ?_)
           refine lv_aload_n hx hb dX12_bowler_62 rfl (lv_at hl 0 rfl) ?_
           refine va_get (D := D) hx hb hts inlX12 hown hK hP 55 (jc_55 cI cL ad σ32 τ) rfl 7 (of_decide_eq_true rfl) (hts _ kw_7_6) (fun _ h9 => h9) rfl dX12_bowler_63 ?_
           refine lv_aload_n hx hb dX12_bowler_66 rfl (lv_at hl 0 rfl) ?_
           refine va_get (D := D) hx hb hts inlX12 hown hK hP 55 (jc_55 cI cL ad σ32 τ) rfl 6 (of_decide_eq_true rfl) (hts _ kw_9_13) (fun _ h9 => h9) rfl dX12_bowler_67 ?_
           have m33 : σ32 55 6 = (σ 55 6) := (congrFun (jnp 55 eσ32 (of_decide_eq_true rfl)) 6)
           refine jtopr m33 ?_
           exact by
            refine lv_iload_n hx hb dX12_bowler_70 rfl (lv_at hl 2 rfl) ?_
            refine jast hx hb hK hP hJ hA hS (jc_60 cI cL ad σ32 τ) (ja_60 cI cL ad σ32 τ _ _) (jin rfl (by omega) (by omega)) dX12_bowler_71 (fun σ34 H locs eσ34 hP hS => ?_)
            refine lv_aload_n hx hb dX12_bowler_72 rfl (lv_at hl 0 rfl) ?_
            refine va_get (D := D) hx hb hts inlX12 hown hK hP 55 (jc_55 cI cL ad σ34 τ) rfl 8 (of_decide_eq_true rfl) (hts _ kw_7_7) (fun _ h9 => h9) rfl dX12_bowler_73 ?_
            refine lv_aload_n hx hb dX12_bowler_76 rfl (lv_at hl 0 rfl) ?_
            refine va_get (D := D) hx hb hts inlX12 hown hK hP 55 (jc_55 cI cL ad σ34 τ) rfl 6 (of_decide_eq_true rfl) (hts _ kw_9_13) (fun _ h9 => h9) rfl dX12_bowler_77 ?_
            have m35 : σ34 55 6 = (σ 55 6) := ((congrFun (jnp 55 eσ34 (of_decide_eq_true rfl)) 6).trans m33)
            refine jtopr m35 ?_
            refine lv_iload_n hx hb dX12_bowler_80 rfl (lv_at hl 3 rfl) ?_
            exact by
             refine jast hx hb hK hP hJ hA hS (jc_61 cI cL ad σ34 τ) (ja_61 cI cL ad σ34 τ _ _) (jin rfl (by omega) (by omega)) dX12_bowler_81 (fun σ36 H locs eσ36 hP hS => ?_)
             refine lv_aload_n hx hb dX12_bowler_82 rfl (lv_at hl 0 rfl) ?_
             refine lv_dup hx hb dX12_bowler_83 rfl ?_
             refine va_get (D := D) hx hb hts inlX12 hown hK hP 55 (jc_55 cI cL ad σ36 τ) rfl 6 (of_decide_eq_true rfl) (hts _ kw_9_13) (fun _ h9 => h9) rfl dX12_bowler_84 ?_
             have m37 : σ36 55 6 = (σ 55 6) := ((congrFun (jnp 55 eσ36 (of_decide_eq_true rfl)) 6).trans m35)
             refine jtopr m37 ?_
             refine lv_iconst (v := 1) hx hb dX12_bowler_87 (of_decide_eq_true rfl) ?_
             refine lv_iadd hx hb dX12_bowler_88 ?_
             refine lv_topi (fun x38 ex38 => ?_)
             exact by
              have tx38 : x38.toInt = (σ 55 6).toInt + 1 := (jadd ex38 rfl jz_1 (by omega) (by omega)).trans (by omega)
              refine jput (ty := .int) hx hb hts inlX12 tyX12 tyX12_ok nmX12 hown hK hP hJ hA hS (jc_55 cI cL ad σ36 τ) rfl (k := 6) (of_decide_eq_true rfl) (Nat.le_of_ble_eq_true rfl) (jp_55_6 cI cL ad σ36 τ x38) (hts _ kw_9_13) (fun _ h9 => h9) rfl (by decide +kernel) rfl rfl dX12_bowler_89 (fun σ39 H locs eσ39 hP hS => ?_)
              refine lv_aload_n hx hb dX12_bowler_92 rfl (lv_at hl 0 rfl) ?_
              refine va_get (D := D) hx hb hts inlX12 hown hK hP 55 (jc_55 cI cL ad σ39 τ) rfl 6 (of_decide_eq_true rfl) (hts _ kw_9_13) (fun _ h9 => h9) rfl dX12_bowler_93 ?_
              have m40 : σ39 55 6 = x38 := (jsp eσ39)
              refine jtopr m40 ?_
              refine lv_iconst (v := 1) hx hb dX12_bowler_96 (of_decide_eq_true rfl) ?_
              refine lv_isub hx hb dX12_bowler_97 ?_
              refine lv_topi (fun x41 ex41 => ?_)
              exact by
               have tx41 : x41.toInt = (σ 55 6).toInt := (jsub ex41 tx38 jz_1 (by omega) (by omega)).trans (by omega)
               have z42 : (σ39 55 5).toInt = (σ 55 5).toInt := (congrArg Int32.toInt (show σ39 55 5 = (σ 55 5) from ((jkp 5 eσ39 (of_decide_eq_true rfl)).trans ((congrFun (jnp 55 eσ36 (of_decide_eq_true rfl)) 5).trans ((congrFun (jnp 55 eσ34 (of_decide_eq_true rfl)) 5).trans (congrFun (jnp 55 eσ32 (of_decide_eq_true rfl)) 5))))))
               have z43 : (σ39 55 4).toInt = (σ 55 4).toInt := (congrArg Int32.toInt (show σ39 55 4 = (σ 55 4) from ((jkp 4 eσ39 (of_decide_eq_true rfl)).trans ((congrFun (jnp 55 eσ36 (of_decide_eq_true rfl)) 4).trans ((congrFun (jnp 55 eσ34 (of_decide_eq_true rfl)) 4).trans (congrFun (jnp 55 eσ32 (of_decide_eq_true rfl)) 4))))))
               have w44 : ∀ k : Nat, k < 68 → (-200) ≤ (σ39 56 k).toInt ∧ (σ39 56 k).toInt ≤ 500 := (jrr_fr (jnp 56 eσ39 (of_decide_eq_true rfl)) (jrr_fr (jnp 56 eσ36 (of_decide_eq_true rfl)) (jrr_fr (jnp 56 eσ34 (of_decide_eq_true rfl)) (by rw [eσ32]; exact jrr_up w4 (by have h9 := t1; omega) (by have h9 := t1; omega)))))
               have w45 : ∀ k : Nat, k < 40 → 0 ≤ (σ39 57 k).toInt ∧ (σ39 57 k).toInt ≤ 67 := (jrr_fr (jnp 57 eσ39 (of_decide_eq_true rfl)) (jrr_fr (jnp 57 eσ36 (of_decide_eq_true rfl)) (jrr_fr (jnp 57 eσ34 (of_decide_eq_true rfl)) (jrr_fr (jnp 57 eσ32 (of_decide_eq_true rfl)) w5))))
               have w46 : ∀ k : Nat, k < 40 → (-200) ≤ (σ39 58 k).toInt ∧ (σ39 58 k).toInt ≤ 500 := (jrr_fr (jnp 58 eσ39 (of_decide_eq_true rfl)) (jrr_fr (jnp 58 eσ36 (of_decide_eq_true rfl)) (jrr_fr (jnp 58 eσ34 (of_decide_eq_true rfl)) (jrr_fr (jnp 58 eσ32 (of_decide_eq_true rfl)) w6))))
               have w47 : ∀ k : Nat, k < 40 → (-200) ≤ (σ39 59 k).toInt ∧ (σ39 59 k).toInt ≤ 500 := (jrr_fr (jnp 59 eσ39 (of_decide_eq_true rfl)) (jrr_fr (jnp 59 eσ36 (of_decide_eq_true rfl)) (jrr_fr (jnp 59 eσ34 (of_decide_eq_true rfl)) (jrr_fr (jnp 59 eσ32 (of_decide_eq_true rfl)) w7))))
               have I48 : jI101 σ39 := ⟨(by omega), (by omega), (by omega), w44, w45, w46, w47⟩
               have z49 : (σ39 55 6).toInt = (σ 55 6).toInt + 1 := ((congrArg Int32.toInt (show σ39 55 6 = x38 from m40)).trans tx38)
               exact by
                have w50 : ∀ k : Nat, k < 4 → 0 ≤ (σ39 60 k).toInt ∧ (σ39 60 k).toInt ≤ 50 := (jrr_fr (jnp 60 eσ39 (of_decide_eq_true rfl)) (jrr_fr (jnp 60 eσ36 (of_decide_eq_true rfl)) (by rw [eσ34]; exact jrr_up (jrr_fr (jnp 60 eσ32 (of_decide_eq_true rfl)) w9) (by have h9 := t2; omega) (by have h9 := t2; omega))))
                have w51 : ∀ k : Nat, k < 4 → 0 ≤ (σ39 61 k).toInt ∧ (σ39 61 k).toInt ≤ 20 := (jrr_fr (jnp 61 eσ39 (of_decide_eq_true rfl)) (by rw [eσ36]; exact jrr_up (jrr_fr (jnp 61 eσ34 (of_decide_eq_true rfl)) (jrr_fr (jnp 61 eσ32 (of_decide_eq_true rfl)) w10)) (by have h9 := t3; omega) (by have h9 := t3; omega)))
                have I52 : jI102 σ39 := ⟨(by omega), w50, w51⟩
                exact by exact hret x41 σ39 τ _ _ _ _ rfl ⟨rfl, (fun i hi => ((jnp i eσ39 (imp_160 i hi)).trans ((jnp i eσ36 (imp_161 i hi)).trans ((jnp i eσ34 (imp_162 i hi)).trans (jnp i eσ32 (imp_163 i hi)))))), (fun i hi => ((jkp i eσ39 (imp_164 i hi)).trans ((congrFun (jnp 55 eσ36 (of_decide_eq_true rfl)) i).trans ((congrFun (jnp 55 eσ34 (of_decide_eq_true rfl)) i).trans (congrFun (jnp 55 eσ32 (of_decide_eq_true rfl)) i))))), I48, I52, Or.inr (Or.inr (⟨trivial, (by have h9 := tx41; omega), (by have h9 := tx41; omega), (by have h9 := tx41; omega), (by have h9 := tx41; omega), (by have h9 := tx41; omega), (by have h9 := tx41; omega), (by rw [eσ39, jup_n (of_decide_eq_true rfl), eσ36, jup_n (of_decide_eq_true rfl), eσ34, jup_n (of_decide_eq_true rfl), eσ32, jup_row, jnc (show x31.toInt = 32 + (σ 55 6).toInt by have h9 := tx31; omega)])⟩))⟩ hP hS dX12_bowler_98
        · have kc29 := jeq c29 rfl jz_4
          refine lv_bipush (v := (-3)) hx hb dX12_bowler_46 (of_decide_eq_true rfl) ?_
          exact by exact hret (-3) σ τ _ _ _ _ rfl ⟨rfl, (fun _ _ => rfl), (fun _ _ => rfl), hI101, hI102, Or.inr (Or.inl ⟨rfl, (by have h9 := jz_m3; omega), (by have h9 := jz_m3; omega), (by have h9 := jz_m3; omega), (by have h9 := jz_m3; omega), (by have h9 := jz_m3; omega), rfl⟩)⟩ hP hS dX12_bowler_48
      · obtain ⟨q54, k53⟩ := h26
        have q54 := q54.symm
        exact by
         subst q54
         refine lv_if_ne (tgt := 38) hx hb dX12_bowler_33 (of_decide_eq_true rfl) (fun c => absurd (of_decide_eq_true rfl) c) (fun _ => ?_)
         refine lv_iconst (v := (-1)) hx hb dX12_bowler_36 (of_decide_eq_true rfl) ?_
         exact by exact hret (-1) σ τ _ _ _ _ rfl ⟨rfl, (fun _ _ => rfl), (fun _ _ => rfl), hI101, hI102, Or.inl ⟨rfl, (by have h9 := jz_m1; omega), (by have h9 := jz_m1; omega), rfl⟩⟩ hP hS dX12_bowler_37
    · obtain ⟨q56, k55⟩ := h20
      have q56 := q56.symm
      subst q56
      refine lv_if_eq (tgt := 36) hx hb dX12_bowler_21 (of_decide_eq_true rfl) (fun _ => ?_) (fun c => absurd (of_decide_eq_true rfl) c)
      refine lv_iconst (v := (-1)) hx hb dX12_bowler_36 (of_decide_eq_true rfl) ?_
      exact by exact hret (-1) σ τ _ _ _ _ rfl ⟨rfl, (fun _ _ => rfl), (fun _ _ => rfl), hI101, hI102, Or.inl ⟨rfl, (by have h9 := jz_m1; omega), (by have h9 := jz_m1; omega), rfl⟩⟩ hP hS dX12_bowler_37
  · obtain ⟨q58, k57⟩ := h14
    have q58 := q58.symm
    subst q58
    refine lv_if_eq (tgt := 36) hx hb dX12_bowler_9 (of_decide_eq_true rfl) (fun _ => ?_) (fun c => absurd (of_decide_eq_true rfl) c)
    refine lv_iconst (v := (-1)) hx hb dX12_bowler_36 (of_decide_eq_true rfl) ?_
    exact by exact hret (-1) σ τ _ _ _ _ rfl ⟨rfl, (fun _ _ => rfl), (fun _ _ => rfl), hI101, hI102, Or.inl ⟨rfl, (by have h9 := jz_m1; omega), (by have h9 := jz_m1; omega), rfl⟩⟩ hP hS dX12_bowler_37
set_option maxHeartbeats 4000000 in
set_option maxRecDepth 100000 in
theorem c_X12_edge (l : Launch) (D : va_G) (cI cL : ClassId) (ad zz : Nat → Nat) (hJ : jD ad) (σ : Nat → Nat → Int32) (τ : Nat → Nat → Int64) (a1 : Int32) (A1 : Int) (t1 : a1.toInt = A1) (a2 : Int32) (A2 : Int) (t2 : a2.toInt = A2) (a3 : Int32) (A3 : Int) (t3 : a3.toInt = A3) (hI101 : jI101 σ) (hI102 : jI102 σ) : jM l yX12_edge cX12_edge 5 (some .int) ({ frames := 2, cells := 0, slots := 0, locals := 46 }) D cI cL ad zz [.ref (ad 55), .int a1, .int a2, .int a3] σ τ (fun r σ' τ' => τ = τ' ∧ (∀ i : Nat, (i < 55 ∨ 59 < i) → σ' i = σ i) ∧ (∀ k : Nat, (k < 4 ∨ 4 < k) ∧ (k < 5 ∨ 5 < k) → σ' 55 k = σ 55 k) ∧ (jI101 σ') ∧ ((r = (-2000000000) ∧ ((σ' 55 5).toInt = (σ 55 5).toInt) ∧ ((σ' 55 4).toInt = (σ 55 4).toInt) ∧ (¬ jEok (A1) (A2) (A3) ((σ 55 6).toInt)) ∧ (σ' 56 = σ 56 ∧ σ' 57 = σ 57 ∧ σ' 58 = σ 58 ∧ σ' 59 = σ 59)) ∨ (True ∧ (jEok (A1) (A2) (A3) ((σ 55 6).toInt) ∧ ∃ q : Int, jEpl (A1) (A2) q ∧ jChg (q) a3 r (σ 56) (σ' 56) (σ 57) (σ' 57) (σ 58) (σ' 58) (σ 59) (σ' 59) (σ 55 5).toInt (σ' 55 5).toInt (σ 55 4).toInt (σ' 55 4).toInt)))) := by
  refine jM.of hJ (by decide +kernel) (nt := .int) rfl (Nat.le_of_ble_eq_true rfl) ?_
  intro p e s m args below meth c Q ls hC hret hl hP
  obtain ⟨hx, hb, hr, hml, hown, hts, hK, -, hlocks, hZ⟩ := hC
  have hown : s.vm.findClass RX12 = some m.cls := hown
  have hS : va_S (jA ad) s.heap s.heap [] := va_S.rf
  have hA : ∀ q, jA ad q → jA ad q := fun _ h => h
  have hl : lv_has ls 5 [(0, .ref (ad 55)), (1, .int a1), (2, .int a2), (3, .int a3)] := hl
  have g1 := jrg t1
  have g2 := jrg t2
  have g3 := jrg t3
  obtain ⟨i1, i2, i3, w4, w5, w6, w7⟩ : (0 ≤ (σ 55 5).toInt) ∧ ((σ 55 5).toInt ≤ (σ 55 4).toInt) ∧ ((σ 55 4).toInt ≤ 40) ∧ (∀ k : Nat, k < 68 → (-200) ≤ (σ 56 k).toInt ∧ (σ 56 k).toInt ≤ 500) ∧ (∀ k : Nat, k < 40 → 0 ≤ (σ 57 k).toInt ∧ (σ 57 k).toInt ≤ 67) ∧ (∀ k : Nat, k < 40 → (-200) ≤ (σ 58 k).toInt ∧ (σ 58 k).toInt ≤ 500) ∧ (∀ k : Nat, k < 40 → (-200) ≤ (σ 59 k).toInt ∧ (σ 59 k).toInt ≤ 500) := id hI101
  obtain ⟨i8, w9, w10⟩ : (0 ≤ (σ 55 6).toInt ∧ (σ 55 6).toInt ≤ 4) ∧ (∀ k : Nat, k < 4 → 0 ≤ (σ 60 k).toInt ∧ (σ 60 k).toInt ≤ 50) ∧ (∀ k : Nat, k < 4 → 0 ≤ (σ 61 k).toInt ∧ (σ 61 k).toInt ≤ 20) := id hI102
  refine lv_iload_n hx hb dX12_edge_0 rfl (lv_at hl 1 rfl) ?_
  refine lv_if_lt (tgt := 27) hx hb dX12_edge_1 (of_decide_eq_true rfl) (fun c11 => ?_) (fun c11 => ?_)
  · have kc11 := jlt c11 t1 jz_0
    refine lv_ldc (v := (-2000000000)) hx hb hown (hts _ kw_11_4) dX12_edge_27 ?_
    exact by exact hret (-2000000000) σ τ _ _ _ _ rfl ⟨rfl, (fun _ _ => rfl), (fun _ _ => rfl), hI101, Or.inl ⟨rfl, (by have h9 := jz_m2000000000; omega), (by have h9 := jz_m2000000000; omega), (fun h => by unfold jEok at h; omega), ⟨rfl, rfl, rfl, rfl⟩⟩⟩ hP hS dX12_edge_29
  · have kc11 := jnlt c11 t1 jz_0
    refine lv_aload_n hx hb dX12_edge_4 rfl (lv_at hl 0 rfl) ?_
    refine lv_iload_n hx hb dX12_edge_5 rfl (lv_at hl 1 rfl) ?_
    refine lv_bipush (v := 10) hx hb dX12_edge_6 (of_decide_eq_true rfl) ?_
    refine lv_idiv hx hb dX12_edge_8 (of_decide_eq_true rfl) ?_
    refine lv_topi (fun x12 ex12 => ?_)
    exact by
     have tx12 : x12.toInt = (A1 / 10) := jdiv ex12 t1 jz_10 (by omega) (by omega)
     refine jcallV (As := [.int x12]) (rest := []) ⟨hx, hb, hml, hown, hts⟩ hK hP hA hS hZ (c_X12_isBowler l D cI cL ad zz hJ σ τ x12 ((A1 / 10)) tx12 hI102) cw_RX12_146 (jc_55 cI cL ad σ τ) rfl ⟨Nat.le_of_ble_eq_true rfl, Nat.le_of_ble_eq_true rfl⟩ rfl rfl rfl hl.1 rfl (Nat.le_of_ble_eq_true rfl) dX12_edge_9 ⟨Nat.zero_le _, Nat.zero_le _⟩ (fun r14 σ13 τ13 H locs h13 hP hS => ?_)
     obtain ⟨⟨rfl, rfl⟩, h13⟩ := h13
     rcases h13 with h15 | h16
     · obtain ⟨q18, k17⟩ := h15
       have q18 := q18.symm
       subst q18
       refine lv_if_eq (tgt := 27) hx hb dX12_edge_12 (of_decide_eq_true rfl) (fun c => absurd c (of_decide_eq_true rfl)) (fun _ => ?_)
       refine lv_iload_n hx hb dX12_edge_15 rfl (lv_at hl 2 rfl) ?_
       refine lv_i2l (v := a2.toInt64) hx hb dX12_edge_16 rfl ?_
       refine lv_lconst (v := 0) hx hb dX12_edge_17 (of_decide_eq_true rfl) ?_
       refine lv_ldc2 (v := 2) hx hb hown (hts _ kw_11_3) dX12_edge_18 ?_
       refine jcallS (As := [.long a2.toInt64, .long 0, .long 2]) (rest := []) ⟨hx, hb, hml, hown, hts⟩ hK hP hA hS hZ (c_X12_within l D cI cL ad zz hJ σ τ a2.toInt64 (A2) (jtoL t2) 0 (0) jzl_0 2 (2) jzl_2) cw_RX12_136 ⟨Nat.le_of_ble_eq_true rfl, Nat.le_of_ble_eq_true rfl⟩ rfl rfl rfl hl.1 rfl (Nat.le_of_ble_eq_true rfl) dX12_edge_21 ⟨Nat.zero_le _, Nat.zero_le _⟩ (fun r20 σ19 τ19 H locs h19 hP hS => ?_)
       obtain ⟨⟨rfl, rfl⟩, h19⟩ := h19
       rcases h19 with h21 | h22
       · obtain ⟨q24, k23⟩ := h21
         have q24 := q24.symm
         subst q24
         refine lv_if_ne (tgt := 30) hx hb dX12_edge_24 (of_decide_eq_true rfl) (fun _ => ?_) (fun c => absurd c (of_decide_eq_true rfl))
         refine lv_iload_n hx hb dX12_edge_30 rfl (lv_at hl 2 rfl) ?_
         refine lv_iconst (v := 2) hx hb dX12_edge_31 (of_decide_eq_true rfl) ?_
         refine lv_icmp_ne (tgt := 65) hx hb dX12_edge_32 (of_decide_eq_true rfl) (fun c25 => ?_) (fun c25 => ?_)
         · have kc25 := jne c25 t2 jz_2
           refine lv_iload_n hx hb dX12_edge_65 rfl (lv_at hl 1 rfl) ?_
           refine lv_bipush (v := 10) hx hb dX12_edge_66 (of_decide_eq_true rfl) ?_
           refine lv_irem hx hb dX12_edge_68 (of_decide_eq_true rfl) ?_
           refine lv_topi (fun x26 ex26 => ?_)
           exact by
            have tx26 : x26.toInt = (A1 % 10) := jrem ex26 t1 jz_10 (by omega)
            refine lv_iconst (v := 4) hx hb dX12_edge_69 (of_decide_eq_true rfl) ?_
            refine lv_icmp_ge (tgt := 110) hx hb dX12_edge_70 (of_decide_eq_true rfl) (fun c27 => ?_) (fun c27 => ?_)
            · have kc27 := jle c27 jz_4 tx26
              refine lv_iconst (v := 0) hx hb dX12_edge_110 (of_decide_eq_true rfl) ?_
              refine lv_istore (lv' := [(4, .int 0), (0, .ref (ad 55)), (1, .int a1), (2, .int a2), (3, .int a3)]) hx hb dX12_edge_111 hl (of_decide_eq_true rfl) rfl (fun ls hl => ?_)
              refine lv_iload hx hb dX12_edge_113 (lv_at hl 0 rfl) ?_
              refine lv_if_eq (tgt := 148) hx hb dX12_edge_115 (of_decide_eq_true rfl) (fun _ => ?_) (fun c => absurd (of_decide_eq_true rfl) c)
              refine lv_ldc (v := (-2000000000)) hx hb hown (hts _ kw_11_4) dX12_edge_148 ?_
              exact by exact hret (-2000000000) σ τ _ _ _ _ rfl ⟨rfl, (fun _ _ => rfl), (fun _ _ => rfl), hI101, Or.inl ⟨rfl, (by have h9 := jz_m2000000000; omega), (by have h9 := jz_m2000000000; omega), (fun h => by unfold jEok at h; omega), ⟨rfl, rfl, rfl, rfl⟩⟩⟩ hP hS dX12_edge_150
            · have kc27 := jnle c27 jz_4 tx26
              refine lv_iload_n hx hb dX12_edge_73 rfl (lv_at hl 2 rfl) ?_
              refine lv_if_ne (tgt := 92) hx hb dX12_edge_74 (of_decide_eq_true rfl) (fun c28 => ?_) (fun c28 => ?_)
              · have kc28 := jne c28 t2 jz_0
                refine lv_iload_n hx hb dX12_edge_92 rfl (lv_at hl 3 rfl) ?_
                refine lv_i2l (v := a3.toInt64) hx hb dX12_edge_93 rfl ?_
                refine lv_ldc2 (v := (-9)) hx hb hown (hts _ kw_11_6) dX12_edge_94 ?_
                refine lv_ldc2 (v := 9) hx hb hown (hts _ kw_11_7) dX12_edge_97 ?_
                refine jcallS (As := [.long a3.toInt64, .long (-9), .long 9]) (rest := []) ⟨hx, hb, hml, hown, hts⟩ hK hP hA hS hZ (c_X12_within l D cI cL ad zz hJ σ τ a3.toInt64 (A3) (jtoL t3) (-9) ((-9)) jzl_m9 9 (9) jzl_9) cw_RX12_136 ⟨Nat.le_of_ble_eq_true rfl, Nat.le_of_ble_eq_true rfl⟩ rfl rfl rfl hl.1 rfl (Nat.le_of_ble_eq_true rfl) dX12_edge_100 ⟨Nat.zero_le _, Nat.zero_le _⟩ (fun r30 σ29 τ29 H locs h29 hP hS => ?_)
                obtain ⟨⟨rfl, rfl⟩, h29⟩ := h29
                rcases h29 with h31 | h32
                · obtain ⟨q34, k33⟩ := h31
                  have q34 := q34.symm
                  subst q34
                  refine lv_if_eq (tgt := 110) hx hb dX12_edge_103 (of_decide_eq_true rfl) (fun c => absurd c (of_decide_eq_true rfl)) (fun _ => ?_)
                  refine lv_iconst (v := 1) hx hb dX12_edge_106 (of_decide_eq_true rfl) ?_
                  refine lv_goto (tgt := 111) hx hb dX12_edge_107 (of_decide_eq_true rfl) ?_
                  refine lv_istore (lv' := [(4, .int 1), (0, .ref (ad 55)), (1, .int a1), (2, .int a2), (3, .int a3)]) hx hb dX12_edge_111 hl (of_decide_eq_true rfl) rfl (fun ls hl => ?_)
                  refine lv_iload hx hb dX12_edge_113 (lv_at hl 0 rfl) ?_
                  refine lv_if_eq (tgt := 148) hx hb dX12_edge_115 (of_decide_eq_true rfl) (fun c => absurd c (of_decide_eq_true rfl)) (fun _ => ?_)
                  refine lv_aload_n hx hb dX12_edge_118 rfl (lv_at hl 1 rfl) ?_
                  refine lv_iload_n hx hb dX12_edge_119 rfl (lv_at hl 3 rfl) ?_
                  exact by
                   refine lv_if_ne (tgt := 127) hx hb dX12_edge_120 (of_decide_eq_true rfl) (fun c35 => ?_) (fun c => absurd (jeq c t2 jz_0) (by omega))
                   have kc35 := jne c35 t2 jz_0
                   refine lv_bipush (v := 16) hx hb dX12_edge_127 (of_decide_eq_true rfl) ?_
                   refine lv_iconst (v := 4) hx hb dX12_edge_129 (of_decide_eq_true rfl) ?_
                   refine lv_iload_n hx hb dX12_edge_130 rfl (lv_at hl 2 rfl) ?_
                   refine lv_bipush (v := 10) hx hb dX12_edge_131 (of_decide_eq_true rfl) ?_
                   refine lv_idiv hx hb dX12_edge_133 (of_decide_eq_true rfl) ?_
                   refine lv_topi (fun x36 ex36 => ?_)
                   have tx36 : x36.toInt = (A1 / 10) := jdiv ex36 t1 jz_10 (by omega) (by omega)
                   exact by
                    refine lv_imul hx hb dX12_edge_134 ?_
                    refine lv_topi (fun x37 ex37 => ?_)
                    have tx37 : x37.toInt = 4 * (A1 / 10) := (jmul ex37 jz_4 tx36 (by omega) (by omega)).trans (by omega)
                    refine lv_iadd hx hb dX12_edge_135 ?_
                    refine lv_topi (fun x38 ex38 => ?_)
                    have tx38 : x38.toInt = 4 * (A1 / 10) + 16 := (jadd ex38 jz_16 tx37 (by omega) (by omega)).trans (by omega)
                    refine lv_iload_n hx hb dX12_edge_136 rfl (lv_at hl 2 rfl) ?_
                    refine lv_bipush (v := 10) hx hb dX12_edge_137 (of_decide_eq_true rfl) ?_
                    refine lv_irem hx hb dX12_edge_139 (of_decide_eq_true rfl) ?_
                    exact by
                     refine lv_topi (fun x39 ex39 => ?_)
                     have tx39 : x39.toInt = (A1 % 10) := jrem ex39 t1 jz_10 (by omega)
                     refine lv_iadd hx hb dX12_edge_140 ?_
                     refine lv_topi (fun x40 ex40 => ?_)
                     have tx40 : x40.toInt = 4 * (A1 / 10) + (A1 % 10) + 16 := (jadd ex40 tx38 tx39 (by omega) (by omega)).trans (by omega)
                     refine lv_iload_n hx hb dX12_edge_141 rfl (lv_at hl 4 rfl) ?_
                     refine jcallV (As := [.int x40, .int a3]) (rest := []) ⟨hx, hb, hml, hown, hts⟩ hK hP hA hS hZ (c_X12_becomes l D cI cL ad zz hJ σ τ x40 (4 * (A1 / 10) + (A1 % 10) + 16) tx40 a3 (A3) t3 hI101 (by omega) (by omega)) cw_RX12_153 (jc_55 cI cL ad σ τ) rfl ⟨Nat.le_of_ble_eq_true rfl, Nat.le_of_ble_eq_true rfl⟩ rfl rfl rfl hl.1 rfl (Nat.le_of_ble_eq_true rfl) dX12_edge_142 ⟨Nat.zero_le _, Nat.zero_le _⟩ (fun r42 σ41 τ41 H locs h41 hP hS => ?_)
                     obtain ⟨rfl, f43, f44, I45, w46, h41⟩ := h41
                     obtain ⟨i48, i49, i50, w51, w52, w53, w54⟩ : (0 ≤ (σ41 55 5).toInt) ∧ ((σ41 55 5).toInt ≤ (σ41 55 4).toInt) ∧ ((σ41 55 4).toInt ≤ 40) ∧ (∀ k : Nat, k < 68 → (-200) ≤ (σ41 56 k).toInt ∧ (σ41 56 k).toInt ≤ 500) ∧ (∀ k : Nat, k < 40 → 0 ≤ (σ41 57 k).toInt ∧ (σ41 57 k).toInt ≤ 67) ∧ (∀ k : Nat, k < 40 → (-200) ≤ (σ41 58 k).toInt ∧ (σ41 58 k).toInt ≤ 500) ∧ (∀ k : Nat, k < 40 → (-200) ≤ (σ41 59 k).toInt ∧ (σ41 59 k).toInt ≤ 500) := id I45
                     exact by
                      refine lv_goto (tgt := 150) hx hb dX12_edge_145 (of_decide_eq_true rfl) ?_
                      exact by exact hret r42 σ41 τ _ _ _ _ rfl ⟨rfl, (fun i hi => (f43 i hi)), (fun i hi => (f44 i hi)), I45, Or.inr (⟨trivial, ⟨(by unfold jEok; omega), 4 * (A1 / 10) + (A1 % 10) + 16, (by unfold jEpl; omega), w46⟩⟩)⟩ hP hS dX12_edge_150
                · obtain ⟨q56, k55⟩ := h32
                  have q56 := q56.symm
                  subst q56
                  refine lv_if_eq (tgt := 110) hx hb dX12_edge_103 (of_decide_eq_true rfl) (fun _ => ?_) (fun c => absurd (of_decide_eq_true rfl) c)
                  refine lv_iconst (v := 0) hx hb dX12_edge_110 (of_decide_eq_true rfl) ?_
                  refine lv_istore (lv' := [(4, .int 0), (0, .ref (ad 55)), (1, .int a1), (2, .int a2), (3, .int a3)]) hx hb dX12_edge_111 hl (of_decide_eq_true rfl) rfl (fun ls hl => ?_)
                  refine lv_iload hx hb dX12_edge_113 (lv_at hl 0 rfl) ?_
                  refine lv_if_eq (tgt := 148) hx hb dX12_edge_115 (of_decide_eq_true rfl) (fun _ => ?_) (fun c => absurd (of_decide_eq_true rfl) c)
                  refine lv_ldc (v := (-2000000000)) hx hb hown (hts _ kw_11_4) dX12_edge_148 ?_
                  exact by exact hret (-2000000000) σ τ _ _ _ _ rfl ⟨rfl, (fun _ _ => rfl), (fun _ _ => rfl), hI101, Or.inl ⟨rfl, (by have h9 := jz_m2000000000; omega), (by have h9 := jz_m2000000000; omega), (fun h => by unfold jEok at h; omega), ⟨rfl, rfl, rfl, rfl⟩⟩⟩ hP hS dX12_edge_150
              · have kc28 := jeq c28 t2 jz_0
                refine lv_iload_n hx hb dX12_edge_77 rfl (lv_at hl 3 rfl) ?_
                refine lv_i2l (v := a3.toInt64) hx hb dX12_edge_78 rfl ?_
                refine lv_lconst (v := 0) hx hb dX12_edge_79 (of_decide_eq_true rfl) ?_
                refine lv_ldc2 (v := 500) hx hb hown (hts _ kw_11_5) dX12_edge_80 ?_
                refine jcallS (As := [.long a3.toInt64, .long 0, .long 500]) (rest := []) ⟨hx, hb, hml, hown, hts⟩ hK hP hA hS hZ (c_X12_within l D cI cL ad zz hJ σ τ a3.toInt64 (A3) (jtoL t3) 0 (0) jzl_0 500 (500) jzl_500) cw_RX12_136 ⟨Nat.le_of_ble_eq_true rfl, Nat.le_of_ble_eq_true rfl⟩ rfl rfl rfl hl.1 rfl (Nat.le_of_ble_eq_true rfl) dX12_edge_83 ⟨Nat.zero_le _, Nat.zero_le _⟩ (fun r58 σ57 τ57 H locs h57 hP hS => ?_)
                obtain ⟨⟨rfl, rfl⟩, h57⟩ := h57
                rcases h57 with h59 | h60
                · obtain ⟨q62, k61⟩ := h59
                  have q62 := q62.symm
                  subst q62
                  refine lv_if_eq (tgt := 110) hx hb dX12_edge_86 (of_decide_eq_true rfl) (fun c => absurd c (of_decide_eq_true rfl)) (fun _ => ?_)
                  refine lv_goto (tgt := 106) hx hb dX12_edge_89 (of_decide_eq_true rfl) ?_
                  refine lv_iconst (v := 1) hx hb dX12_edge_106 (of_decide_eq_true rfl) ?_
                  refine lv_goto (tgt := 111) hx hb dX12_edge_107 (of_decide_eq_true rfl) ?_
                  refine lv_istore (lv' := [(4, .int 1), (0, .ref (ad 55)), (1, .int a1), (2, .int a2), (3, .int a3)]) hx hb dX12_edge_111 hl (of_decide_eq_true rfl) rfl (fun ls hl => ?_)
                  refine lv_iload hx hb dX12_edge_113 (lv_at hl 0 rfl) ?_
                  refine lv_if_eq (tgt := 148) hx hb dX12_edge_115 (of_decide_eq_true rfl) (fun c => absurd c (of_decide_eq_true rfl)) (fun _ => ?_)
                  refine lv_aload_n hx hb dX12_edge_118 rfl (lv_at hl 1 rfl) ?_
                  refine lv_iload_n hx hb dX12_edge_119 rfl (lv_at hl 3 rfl) ?_
                  exact by
                   refine lv_if_ne (tgt := 127) hx hb dX12_edge_120 (of_decide_eq_true rfl) (fun c => absurd (jne c t2 jz_0) (by omega)) (fun c63 => ?_)
                   have kc63 := jeq c63 t2 jz_0
                   refine lv_iconst (v := 0) hx hb dX12_edge_123 (of_decide_eq_true rfl) ?_
                   refine lv_goto (tgt := 129) hx hb dX12_edge_124 (of_decide_eq_true rfl) ?_
                   refine lv_iconst (v := 4) hx hb dX12_edge_129 (of_decide_eq_true rfl) ?_
                   refine lv_iload_n hx hb dX12_edge_130 rfl (lv_at hl 2 rfl) ?_
                   refine lv_bipush (v := 10) hx hb dX12_edge_131 (of_decide_eq_true rfl) ?_
                   refine lv_idiv hx hb dX12_edge_133 (of_decide_eq_true rfl) ?_
                   refine lv_topi (fun x64 ex64 => ?_)
                   exact by
                    have tx64 : x64.toInt = (A1 / 10) := jdiv ex64 t1 jz_10 (by omega) (by omega)
                    refine lv_imul hx hb dX12_edge_134 ?_
                    refine lv_topi (fun x65 ex65 => ?_)
                    have tx65 : x65.toInt = 4 * (A1 / 10) := (jmul ex65 jz_4 tx64 (by omega) (by omega)).trans (by omega)
                    refine lv_iadd hx hb dX12_edge_135 ?_
                    refine jtopr (y := x65) (by rw [Int32.zero_add]) ?_
                    refine lv_iload_n hx hb dX12_edge_136 rfl (lv_at hl 2 rfl) ?_
                    refine lv_bipush (v := 10) hx hb dX12_edge_137 (of_decide_eq_true rfl) ?_
                    refine lv_irem hx hb dX12_edge_139 (of_decide_eq_true rfl) ?_
                    exact by
                     refine lv_topi (fun x66 ex66 => ?_)
                     have tx66 : x66.toInt = (A1 % 10) := jrem ex66 t1 jz_10 (by omega)
                     refine lv_iadd hx hb dX12_edge_140 ?_
                     refine lv_topi (fun x67 ex67 => ?_)
                     have tx67 : x67.toInt = 4 * (A1 / 10) + (A1 % 10) := (jadd ex67 tx65 tx66 (by omega) (by omega)).trans (by omega)
                     refine lv_iload_n hx hb dX12_edge_141 rfl (lv_at hl 4 rfl) ?_
                     refine jcallV (As := [.int x67, .int a3]) (rest := []) ⟨hx, hb, hml, hown, hts⟩ hK hP hA hS hZ (c_X12_becomes l D cI cL ad zz hJ σ τ x67 (4 * (A1 / 10) + (A1 % 10)) tx67 a3 (A3) t3 hI101 (by omega) (by omega)) cw_RX12_153 (jc_55 cI cL ad σ τ) rfl ⟨Nat.le_of_ble_eq_true rfl, Nat.le_of_ble_eq_true rfl⟩ rfl rfl rfl hl.1 rfl (Nat.le_of_ble_eq_true rfl) dX12_edge_142 ⟨Nat.zero_le _, Nat.zero_le _⟩ (fun r69 σ68 τ68 H locs h68 hP hS => ?_)
                     obtain ⟨rfl, f70, f71, I72, w73, h68⟩ := h68
                     obtain ⟨i75, i76, i77, w78, w79, w80, w81⟩ : (0 ≤ (σ68 55 5).toInt) ∧ ((σ68 55 5).toInt ≤ (σ68 55 4).toInt) ∧ ((σ68 55 4).toInt ≤ 40) ∧ (∀ k : Nat, k < 68 → (-200) ≤ (σ68 56 k).toInt ∧ (σ68 56 k).toInt ≤ 500) ∧ (∀ k : Nat, k < 40 → 0 ≤ (σ68 57 k).toInt ∧ (σ68 57 k).toInt ≤ 67) ∧ (∀ k : Nat, k < 40 → (-200) ≤ (σ68 58 k).toInt ∧ (σ68 58 k).toInt ≤ 500) ∧ (∀ k : Nat, k < 40 → (-200) ≤ (σ68 59 k).toInt ∧ (σ68 59 k).toInt ≤ 500) := id I72
                     exact by
                      refine lv_goto (tgt := 150) hx hb dX12_edge_145 (of_decide_eq_true rfl) ?_
                      exact by exact hret r69 σ68 τ _ _ _ _ rfl ⟨rfl, (fun i hi => (f70 i hi)), (fun i hi => (f71 i hi)), I72, Or.inr (⟨trivial, ⟨(by unfold jEok; omega), 4 * (A1 / 10) + (A1 % 10), (by unfold jEpl; omega), w73⟩⟩)⟩ hP hS dX12_edge_150
                · obtain ⟨q83, k82⟩ := h60
                  have q83 := q83.symm
                  subst q83
                  refine lv_if_eq (tgt := 110) hx hb dX12_edge_86 (of_decide_eq_true rfl) (fun _ => ?_) (fun c => absurd (of_decide_eq_true rfl) c)
                  refine lv_iconst (v := 0) hx hb dX12_edge_110 (of_decide_eq_true rfl) ?_
                  refine lv_istore (lv' := [(4, .int 0), (0, .ref (ad 55)), (1, .int a1), (2, .int a2), (3, .int a3)]) hx hb dX12_edge_111 hl (of_decide_eq_true rfl) rfl (fun ls hl => ?_)
                  refine lv_iload hx hb dX12_edge_113 (lv_at hl 0 rfl) ?_
                  refine lv_if_eq (tgt := 148) hx hb dX12_edge_115 (of_decide_eq_true rfl) (fun _ => ?_) (fun c => absurd (of_decide_eq_true rfl) c)
                  refine lv_ldc (v := (-2000000000)) hx hb hown (hts _ kw_11_4) dX12_edge_148 ?_
                  exact by exact hret (-2000000000) σ τ _ _ _ _ rfl ⟨rfl, (fun _ _ => rfl), (fun _ _ => rfl), hI101, Or.inl ⟨rfl, (by have h9 := jz_m2000000000; omega), (by have h9 := jz_m2000000000; omega), (fun h => by unfold jEok at h; omega), ⟨rfl, rfl, rfl, rfl⟩⟩⟩ hP hS dX12_edge_150
         · have kc25 := jeq c25 t2 jz_2
           refine lv_iload_n hx hb dX12_edge_35 rfl (lv_at hl 3 rfl) ?_
           refine lv_i2l (v := a3.toInt64) hx hb dX12_edge_36 rfl ?_
           refine lv_lconst (v := 0) hx hb dX12_edge_37 (of_decide_eq_true rfl) ?_
           refine lv_ldc2 (v := 8) hx hb hown (hts _ kw_9_10) dX12_edge_38 ?_
           refine jcallS (As := [.long a3.toInt64, .long 0, .long 8]) (rest := []) ⟨hx, hb, hml, hown, hts⟩ hK hP hA hS hZ (c_X12_within l D cI cL ad zz hJ σ τ a3.toInt64 (A3) (jtoL t3) 0 (0) jzl_0 8 (8) jzl_8) cw_RX12_136 ⟨Nat.le_of_ble_eq_true rfl, Nat.le_of_ble_eq_true rfl⟩ rfl rfl rfl hl.1 rfl (Nat.le_of_ble_eq_true rfl) dX12_edge_41 ⟨Nat.zero_le _, Nat.zero_le _⟩ (fun r85 σ84 τ84 H locs h84 hP hS => ?_)
           obtain ⟨⟨rfl, rfl⟩, h84⟩ := h84
           rcases h84 with h86 | h87
           · obtain ⟨q89, k88⟩ := h86
             have q89 := q89.symm
             subst q89
             refine lv_if_eq (tgt := 62) hx hb dX12_edge_44 (of_decide_eq_true rfl) (fun c => absurd c (of_decide_eq_true rfl)) (fun _ => ?_)
             refine lv_aload_n hx hb dX12_edge_47 rfl (lv_at hl 0 rfl) ?_
             refine lv_bipush (v := 32) hx hb dX12_edge_48 (of_decide_eq_true rfl) ?_
             refine lv_iload_n hx hb dX12_edge_50 rfl (lv_at hl 1 rfl) ?_
             refine lv_bipush (v := 10) hx hb dX12_edge_51 (of_decide_eq_true rfl) ?_
             refine lv_idiv hx hb dX12_edge_53 (of_decide_eq_true rfl) ?_
             refine lv_topi (fun x90 ex90 => ?_)
             exact by
              have tx90 : x90.toInt = (A1 / 10) := jdiv ex90 t1 jz_10 (by omega) (by omega)
              refine lv_iadd hx hb dX12_edge_54 ?_
              refine lv_topi (fun x91 ex91 => ?_)
              have tx91 : x91.toInt = (A1 / 10) + 32 := (jadd ex91 jz_32 tx90 (by omega) (by omega)).trans (by omega)
              refine lv_iload_n hx hb dX12_edge_55 rfl (lv_at hl 3 rfl) ?_
              refine jcallV (As := [.int x91, .int a3]) (rest := []) ⟨hx, hb, hml, hown, hts⟩ hK hP hA hS hZ (c_X12_becomes l D cI cL ad zz hJ σ τ x91 ((A1 / 10) + 32) tx91 a3 (A3) t3 hI101 (by omega) (by omega)) cw_RX12_153 (jc_55 cI cL ad σ τ) rfl ⟨Nat.le_of_ble_eq_true rfl, Nat.le_of_ble_eq_true rfl⟩ rfl rfl rfl hl.1 rfl (Nat.le_of_ble_eq_true rfl) dX12_edge_56 ⟨Nat.zero_le _, Nat.zero_le _⟩ (fun r93 σ92 τ92 H locs h92 hP hS => ?_)
              obtain ⟨rfl, f94, f95, I96, w97, h92⟩ := h92
              obtain ⟨i99, i100, i101, w102, w103, w104, w105⟩ : (0 ≤ (σ92 55 5).toInt) ∧ ((σ92 55 5).toInt ≤ (σ92 55 4).toInt) ∧ ((σ92 55 4).toInt ≤ 40) ∧ (∀ k : Nat, k < 68 → (-200) ≤ (σ92 56 k).toInt ∧ (σ92 56 k).toInt ≤ 500) ∧ (∀ k : Nat, k < 40 → 0 ≤ (σ92 57 k).toInt ∧ (σ92 57 k).toInt ≤ 67) ∧ (∀ k : Nat, k < 40 → (-200) ≤ (σ92 58 k).toInt ∧ (σ92 58 k).toInt ≤ 500) ∧ (∀ k : Nat, k < 40 → (-200) ≤ (σ92 59 k).toInt ∧ (σ92 59 k).toInt ≤ 500) := id I96
              refine lv_goto (tgt := 64) hx hb dX12_edge_59 (of_decide_eq_true rfl) ?_
              exact by exact hret r93 σ92 τ _ _ _ _ rfl ⟨rfl, (fun i hi => (f94 i hi)), (fun i hi => (f95 i hi)), I96, Or.inr (⟨trivial, ⟨(by unfold jEok; omega), (A1 / 10) + 32, (by unfold jEpl; omega), w97⟩⟩)⟩ hP hS dX12_edge_64
           · exact by
              obtain ⟨q107, k106⟩ := h87
              have q107 := q107.symm
              subst q107
              refine lv_if_eq (tgt := 62) hx hb dX12_edge_44 (of_decide_eq_true rfl) (fun _ => ?_) (fun c => absurd (of_decide_eq_true rfl) c)
              refine lv_ldc (v := (-2000000000)) hx hb hown (hts _ kw_11_4) dX12_edge_62 ?_
              exact by exact hret (-2000000000) σ τ _ _ _ _ rfl ⟨rfl, (fun _ _ => rfl), (fun _ _ => rfl), hI101, Or.inl ⟨rfl, (by have h9 := jz_m2000000000; omega), (by have h9 := jz_m2000000000; omega), (fun h => by unfold jEok at h; omega), ⟨rfl, rfl, rfl, rfl⟩⟩⟩ hP hS dX12_edge_64
       · obtain ⟨q109, k108⟩ := h22
         have q109 := q109.symm
         subst q109
         refine lv_if_ne (tgt := 30) hx hb dX12_edge_24 (of_decide_eq_true rfl) (fun c => absurd (of_decide_eq_true rfl) c) (fun _ => ?_)
         refine lv_ldc (v := (-2000000000)) hx hb hown (hts _ kw_11_4) dX12_edge_27 ?_
         exact by exact hret (-2000000000) σ τ _ _ _ _ rfl ⟨rfl, (fun _ _ => rfl), (fun _ _ => rfl), hI101, Or.inl ⟨rfl, (by have h9 := jz_m2000000000; omega), (by have h9 := jz_m2000000000; omega), (fun h => by unfold jEok at h; omega), ⟨rfl, rfl, rfl, rfl⟩⟩⟩ hP hS dX12_edge_29
     · obtain ⟨q111, k110⟩ := h16
       have q111 := q111.symm
       subst q111
       refine lv_if_eq (tgt := 27) hx hb dX12_edge_12 (of_decide_eq_true rfl) (fun _ => ?_) (fun c => absurd (of_decide_eq_true rfl) c)
       refine lv_ldc (v := (-2000000000)) hx hb hown (hts _ kw_11_4) dX12_edge_27 ?_
       exact by exact hret (-2000000000) σ τ _ _ _ _ rfl ⟨rfl, (fun _ _ => rfl), (fun _ _ => rfl), hI101, Or.inl ⟨rfl, (by have h9 := jz_m2000000000; omega), (by have h9 := jz_m2000000000; omega), (fun h => by unfold jEok at h; omega), ⟨rfl, rfl, rfl, rfl⟩⟩⟩ hP hS dX12_edge_29
set_option maxHeartbeats 4000000 in
set_option maxRecDepth 100000 in
theorem c_X12_field (l : Launch) (D : va_G) (cI cL : ClassId) (ad zz : Nat → Nat) (hJ : jD ad) (σ : Nat → Nat → Int32) (τ : Nat → Nat → Int64) (a1 : Int32) (A1 : Int) (t1 : a1.toInt = A1) (a2 : Int32) (A2 : Int) (t2 : a2.toInt = A2) (a3 : Int32) (A3 : Int) (t3 : a3.toInt = A3) (hI101 : jI101 σ) : jM l yX12_field cX12_field 5 (some .int) ({ frames := 1, cells := 0, slots := 0, locals := 25 }) D cI cL ad zz [.ref (ad 55), .int a1, .int a2, .int a3] σ τ (fun r σ' τ' => τ = τ' ∧ (∀ i : Nat, (i < 55 ∨ 59 < i) → σ' i = σ i) ∧ (∀ k : Nat, (k < 4 ∨ 4 < k) ∧ (k < 5 ∨ 5 < k) → σ' 55 k = σ 55 k) ∧ (jI101 σ') ∧ ((r = (-2000000000) ∧ ((σ' 55 5).toInt = (σ 55 5).toInt) ∧ ((σ' 55 4).toInt = (σ 55 4).toInt) ∧ (¬ jFok (A1) (A2) (A3) ((σ 55 6).toInt)) ∧ (σ' 56 = σ 56 ∧ σ' 57 = σ 57 ∧ σ' 58 = σ 58 ∧ σ' 59 = σ 59)) ∨ (True ∧ (jFok (A1) (A2) (A3) ((σ 55 6).toInt) ∧ ∃ q : Int, jFpl (A1) (A2) q ∧ jChg (q) a3 r (σ 56) (σ' 56) (σ 57) (σ' 57) (σ 58) (σ' 58) (σ 59) (σ' 59) (σ 55 5).toInt (σ' 55 5).toInt (σ 55 4).toInt (σ' 55 4).toInt)))) := by
  refine jM.of hJ (by decide +kernel) (nt := .int) rfl (Nat.le_of_ble_eq_true rfl) ?_
  intro p e s m args below meth c Q ls hC hret hl hP
  obtain ⟨hx, hb, hr, hml, hown, hts, hK, -, hlocks, hZ⟩ := hC
  have hown : s.vm.findClass RX12 = some m.cls := hown
  have hS : va_S (jA ad) s.heap s.heap [] := va_S.rf
  have hA : ∀ q, jA ad q → jA ad q := fun _ h => h
  have hl : lv_has ls 5 [(0, .ref (ad 55)), (1, .int a1), (2, .int a2), (3, .int a3)] := hl
  have g1 := jrg t1
  have g2 := jrg t2
  have g3 := jrg t3
  obtain ⟨i1, i2, i3, w4, w5, w6, w7⟩ : (0 ≤ (σ 55 5).toInt) ∧ ((σ 55 5).toInt ≤ (σ 55 4).toInt) ∧ ((σ 55 4).toInt ≤ 40) ∧ (∀ k : Nat, k < 68 → (-200) ≤ (σ 56 k).toInt ∧ (σ 56 k).toInt ≤ 500) ∧ (∀ k : Nat, k < 40 → 0 ≤ (σ 57 k).toInt ∧ (σ 57 k).toInt ≤ 67) ∧ (∀ k : Nat, k < 40 → (-200) ≤ (σ 58 k).toInt ∧ (σ 58 k).toInt ≤ 500) ∧ (∀ k : Nat, k < 40 → (-200) ≤ (σ 59 k).toInt ∧ (σ 59 k).toInt ≤ 500) := id hI101
  refine lv_iload_n hx hb dX12_field_0 rfl (lv_at hl 1 rfl) ?_
  refine lv_if_lt (tgt := 69) hx hb dX12_field_1 (of_decide_eq_true rfl) (fun c8 => ?_) (fun c8 => ?_)
  · have kc8 := jlt c8 t1 jz_0
    refine lv_iconst (v := 0) hx hb dX12_field_69 (of_decide_eq_true rfl) ?_
    refine lv_istore (lv' := [(4, .int 0), (0, .ref (ad 55)), (1, .int a1), (2, .int a2), (3, .int a3)]) hx hb dX12_field_70 hl (of_decide_eq_true rfl) rfl (fun ls hl => ?_)
    refine lv_iload hx hb dX12_field_72 (lv_at hl 0 rfl) ?_
    refine lv_if_eq (tgt := 108) hx hb dX12_field_74 (of_decide_eq_true rfl) (fun _ => ?_) (fun c => absurd (of_decide_eq_true rfl) c)
    refine lv_ldc (v := (-2000000000)) hx hb hown (hts _ kw_11_4) dX12_field_108 ?_
    exact by exact hret (-2000000000) σ τ _ _ _ _ rfl ⟨rfl, (fun _ _ => rfl), (fun _ _ => rfl), hI101, Or.inl ⟨rfl, (by have h9 := jz_m2000000000; omega), (by have h9 := jz_m2000000000; omega), (fun h => by unfold jFok at h; omega), ⟨rfl, rfl, rfl, rfl⟩⟩⟩ hP hS dX12_field_110
  · have kc8 := jnlt c8 t1 jz_0
    refine lv_iload_n hx hb dX12_field_4 rfl (lv_at hl 1 rfl) ?_
    refine lv_bipush (v := 10) hx hb dX12_field_5 (of_decide_eq_true rfl) ?_
    refine lv_idiv hx hb dX12_field_7 (of_decide_eq_true rfl) ?_
    refine lv_topi (fun x9 ex9 => ?_)
    exact by
     have tx9 : x9.toInt = (A1 / 10) := jdiv ex9 t1 jz_10 (by omega) (by omega)
     refine lv_iconst (v := 4) hx hb dX12_field_8 (of_decide_eq_true rfl) ?_
     refine lv_icmp_ge (tgt := 69) hx hb dX12_field_9 (of_decide_eq_true rfl) (fun c10 => ?_) (fun c10 => ?_)
     · have kc10 := jle c10 jz_4 tx9
       refine lv_iconst (v := 0) hx hb dX12_field_69 (of_decide_eq_true rfl) ?_
       refine lv_istore (lv' := [(4, .int 0), (0, .ref (ad 55)), (1, .int a1), (2, .int a2), (3, .int a3)]) hx hb dX12_field_70 hl (of_decide_eq_true rfl) rfl (fun ls hl => ?_)
       refine lv_iload hx hb dX12_field_72 (lv_at hl 0 rfl) ?_
       refine lv_if_eq (tgt := 108) hx hb dX12_field_74 (of_decide_eq_true rfl) (fun _ => ?_) (fun c => absurd (of_decide_eq_true rfl) c)
       refine lv_ldc (v := (-2000000000)) hx hb hown (hts _ kw_11_4) dX12_field_108 ?_
       exact by exact hret (-2000000000) σ τ _ _ _ _ rfl ⟨rfl, (fun _ _ => rfl), (fun _ _ => rfl), hI101, Or.inl ⟨rfl, (by have h9 := jz_m2000000000; omega), (by have h9 := jz_m2000000000; omega), (fun h => by unfold jFok at h; omega), ⟨rfl, rfl, rfl, rfl⟩⟩⟩ hP hS dX12_field_110
     · have kc10 := jnle c10 jz_4 tx9
       refine lv_iload_n hx hb dX12_field_12 rfl (lv_at hl 1 rfl) ?_
       refine lv_bipush (v := 10) hx hb dX12_field_13 (of_decide_eq_true rfl) ?_
       refine lv_irem hx hb dX12_field_15 (of_decide_eq_true rfl) ?_
       refine lv_topi (fun x11 ex11 => ?_)
       exact by
        have tx11 : x11.toInt = (A1 % 10) := jrem ex11 t1 jz_10 (by omega)
        refine lv_iconst (v := 4) hx hb dX12_field_16 (of_decide_eq_true rfl) ?_
        refine lv_icmp_ge (tgt := 69) hx hb dX12_field_17 (of_decide_eq_true rfl) (fun c12 => ?_) (fun c12 => ?_)
        · have kc12 := jle c12 jz_4 tx11
          refine lv_iconst (v := 0) hx hb dX12_field_69 (of_decide_eq_true rfl) ?_
          refine lv_istore (lv' := [(4, .int 0), (0, .ref (ad 55)), (1, .int a1), (2, .int a2), (3, .int a3)]) hx hb dX12_field_70 hl (of_decide_eq_true rfl) rfl (fun ls hl => ?_)
          refine lv_iload hx hb dX12_field_72 (lv_at hl 0 rfl) ?_
          refine lv_if_eq (tgt := 108) hx hb dX12_field_74 (of_decide_eq_true rfl) (fun _ => ?_) (fun c => absurd (of_decide_eq_true rfl) c)
          refine lv_ldc (v := (-2000000000)) hx hb hown (hts _ kw_11_4) dX12_field_108 ?_
          exact by exact hret (-2000000000) σ τ _ _ _ _ rfl ⟨rfl, (fun _ _ => rfl), (fun _ _ => rfl), hI101, Or.inl ⟨rfl, (by have h9 := jz_m2000000000; omega), (by have h9 := jz_m2000000000; omega), (fun h => by unfold jFok at h; omega), ⟨rfl, rfl, rfl, rfl⟩⟩⟩ hP hS dX12_field_110
        · have kc12 := jnle c12 jz_4 tx11
          refine lv_iload_n hx hb dX12_field_20 rfl (lv_at hl 2 rfl) ?_
          refine lv_i2l (v := a2.toInt64) hx hb dX12_field_21 rfl ?_
          refine lv_lconst (v := 0) hx hb dX12_field_22 (of_decide_eq_true rfl) ?_
          refine lv_lconst (v := 1) hx hb dX12_field_23 (of_decide_eq_true rfl) ?_
          refine jcallS (As := [.long a2.toInt64, .long 0, .long 1]) (rest := []) ⟨hx, hb, hml, hown, hts⟩ hK hP hA hS hZ (c_X12_within l D cI cL ad zz hJ σ τ a2.toInt64 (A2) (jtoL t2) 0 (0) jzl_0 1 (1) jzl_1) cw_RX12_136 ⟨Nat.le_of_ble_eq_true rfl, Nat.le_of_ble_eq_true rfl⟩ rfl rfl rfl hl.1 rfl (Nat.le_of_ble_eq_true rfl) dX12_field_24 ⟨Nat.zero_le _, Nat.zero_le _⟩ (fun r14 σ13 τ13 H locs h13 hP hS => ?_)
          obtain ⟨⟨rfl, rfl⟩, h13⟩ := h13
          rcases h13 with h15 | h16
          · obtain ⟨q18, k17⟩ := h15
            have q18 := q18.symm
            subst q18
            refine lv_if_eq (tgt := 69) hx hb dX12_field_27 (of_decide_eq_true rfl) (fun c => absurd c (of_decide_eq_true rfl)) (fun _ => ?_)
            refine lv_iload_n hx hb dX12_field_30 rfl (lv_at hl 2 rfl) ?_
            refine lv_if_ne (tgt := 51) hx hb dX12_field_31 (of_decide_eq_true rfl) (fun c19 => ?_) (fun c19 => ?_)
            · have kc19 := jne c19 t2 jz_0
              refine lv_iload_n hx hb dX12_field_51 rfl (lv_at hl 3 rfl) ?_
              refine lv_i2l (v := a3.toInt64) hx hb dX12_field_52 rfl ?_
              refine lv_ldc2 (v := (-9)) hx hb hown (hts _ kw_11_6) dX12_field_53 ?_
              refine lv_ldc2 (v := 9) hx hb hown (hts _ kw_11_7) dX12_field_56 ?_
              refine jcallS (As := [.long a3.toInt64, .long (-9), .long 9]) (rest := []) ⟨hx, hb, hml, hown, hts⟩ hK hP hA hS hZ (c_X12_within l D cI cL ad zz hJ σ τ a3.toInt64 (A3) (jtoL t3) (-9) ((-9)) jzl_m9 9 (9) jzl_9) cw_RX12_136 ⟨Nat.le_of_ble_eq_true rfl, Nat.le_of_ble_eq_true rfl⟩ rfl rfl rfl hl.1 rfl (Nat.le_of_ble_eq_true rfl) dX12_field_59 ⟨Nat.zero_le _, Nat.zero_le _⟩ (fun r21 σ20 τ20 H locs h20 hP hS => ?_)
              obtain ⟨⟨rfl, rfl⟩, h20⟩ := h20
              rcases h20 with h22 | h23
              · obtain ⟨q25, k24⟩ := h22
                have q25 := q25.symm
                subst q25
                refine lv_if_eq (tgt := 69) hx hb dX12_field_62 (of_decide_eq_true rfl) (fun c => absurd c (of_decide_eq_true rfl)) (fun _ => ?_)
                refine lv_iconst (v := 1) hx hb dX12_field_65 (of_decide_eq_true rfl) ?_
                refine lv_goto (tgt := 70) hx hb dX12_field_66 (of_decide_eq_true rfl) ?_
                refine lv_istore (lv' := [(4, .int 1), (0, .ref (ad 55)), (1, .int a1), (2, .int a2), (3, .int a3)]) hx hb dX12_field_70 hl (of_decide_eq_true rfl) rfl (fun ls hl => ?_)
                refine lv_iload hx hb dX12_field_72 (lv_at hl 0 rfl) ?_
                refine lv_if_eq (tgt := 108) hx hb dX12_field_74 (of_decide_eq_true rfl) (fun c => absurd c (of_decide_eq_true rfl)) (fun _ => ?_)
                refine lv_aload_n hx hb dX12_field_77 rfl (lv_at hl 1 rfl) ?_
                refine lv_iload_n hx hb dX12_field_78 rfl (lv_at hl 3 rfl) ?_
                exact by
                 refine lv_if_ne (tgt := 87) hx hb dX12_field_79 (of_decide_eq_true rfl) (fun c26 => ?_) (fun c => absurd (jeq c t2 jz_0) (by omega))
                 have kc26 := jne c26 t2 jz_0
                 refine lv_bipush (v := 52) hx hb dX12_field_87 (of_decide_eq_true rfl) ?_
                 refine lv_iconst (v := 4) hx hb dX12_field_89 (of_decide_eq_true rfl) ?_
                 refine lv_iload_n hx hb dX12_field_90 rfl (lv_at hl 2 rfl) ?_
                 refine lv_bipush (v := 10) hx hb dX12_field_91 (of_decide_eq_true rfl) ?_
                 refine lv_idiv hx hb dX12_field_93 (of_decide_eq_true rfl) ?_
                 refine lv_topi (fun x27 ex27 => ?_)
                 have tx27 : x27.toInt = (A1 / 10) := jdiv ex27 t1 jz_10 (by omega) (by omega)
                 exact by
                  refine lv_imul hx hb dX12_field_94 ?_
                  refine lv_topi (fun x28 ex28 => ?_)
                  have tx28 : x28.toInt = 4 * (A1 / 10) := (jmul ex28 jz_4 tx27 (by omega) (by omega)).trans (by omega)
                  refine lv_iadd hx hb dX12_field_95 ?_
                  refine lv_topi (fun x29 ex29 => ?_)
                  have tx29 : x29.toInt = 4 * (A1 / 10) + 52 := (jadd ex29 jz_52 tx28 (by omega) (by omega)).trans (by omega)
                  refine lv_iload_n hx hb dX12_field_96 rfl (lv_at hl 2 rfl) ?_
                  refine lv_bipush (v := 10) hx hb dX12_field_97 (of_decide_eq_true rfl) ?_
                  refine lv_irem hx hb dX12_field_99 (of_decide_eq_true rfl) ?_
                  exact by
                   refine lv_topi (fun x30 ex30 => ?_)
                   have tx30 : x30.toInt = (A1 % 10) := jrem ex30 t1 jz_10 (by omega)
                   refine lv_iadd hx hb dX12_field_100 ?_
                   refine lv_topi (fun x31 ex31 => ?_)
                   have tx31 : x31.toInt = 4 * (A1 / 10) + (A1 % 10) + 52 := (jadd ex31 tx29 tx30 (by omega) (by omega)).trans (by omega)
                   refine lv_iload_n hx hb dX12_field_101 rfl (lv_at hl 4 rfl) ?_
                   refine jcallV (As := [.int x31, .int a3]) (rest := []) ⟨hx, hb, hml, hown, hts⟩ hK hP hA hS hZ (c_X12_becomes l D cI cL ad zz hJ σ τ x31 (4 * (A1 / 10) + (A1 % 10) + 52) tx31 a3 (A3) t3 hI101 (by omega) (by omega)) cw_RX12_153 (jc_55 cI cL ad σ τ) rfl ⟨Nat.le_of_ble_eq_true rfl, Nat.le_of_ble_eq_true rfl⟩ rfl rfl rfl hl.1 rfl (Nat.le_of_ble_eq_true rfl) dX12_field_102 ⟨Nat.zero_le _, Nat.zero_le _⟩ (fun r33 σ32 τ32 H locs h32 hP hS => ?_)
                   obtain ⟨rfl, f34, f35, I36, w37, h32⟩ := h32
                   obtain ⟨i39, i40, i41, w42, w43, w44, w45⟩ : (0 ≤ (σ32 55 5).toInt) ∧ ((σ32 55 5).toInt ≤ (σ32 55 4).toInt) ∧ ((σ32 55 4).toInt ≤ 40) ∧ (∀ k : Nat, k < 68 → (-200) ≤ (σ32 56 k).toInt ∧ (σ32 56 k).toInt ≤ 500) ∧ (∀ k : Nat, k < 40 → 0 ≤ (σ32 57 k).toInt ∧ (σ32 57 k).toInt ≤ 67) ∧ (∀ k : Nat, k < 40 → (-200) ≤ (σ32 58 k).toInt ∧ (σ32 58 k).toInt ≤ 500) ∧ (∀ k : Nat, k < 40 → (-200) ≤ (σ32 59 k).toInt ∧ (σ32 59 k).toInt ≤ 500) := id I36
                   exact by
                    refine lv_goto (tgt := 110) hx hb dX12_field_105 (of_decide_eq_true rfl) ?_
                    exact by exact hret r33 σ32 τ _ _ _ _ rfl ⟨rfl, (fun i hi => (f34 i hi)), (fun i hi => (f35 i hi)), I36, Or.inr (⟨trivial, ⟨(by unfold jFok; omega), 4 * (A1 / 10) + (A1 % 10) + 52, (by unfold jFpl; omega), w37⟩⟩)⟩ hP hS dX12_field_110
              · obtain ⟨q47, k46⟩ := h23
                have q47 := q47.symm
                subst q47
                refine lv_if_eq (tgt := 69) hx hb dX12_field_62 (of_decide_eq_true rfl) (fun _ => ?_) (fun c => absurd (of_decide_eq_true rfl) c)
                refine lv_iconst (v := 0) hx hb dX12_field_69 (of_decide_eq_true rfl) ?_
                refine lv_istore (lv' := [(4, .int 0), (0, .ref (ad 55)), (1, .int a1), (2, .int a2), (3, .int a3)]) hx hb dX12_field_70 hl (of_decide_eq_true rfl) rfl (fun ls hl => ?_)
                refine lv_iload hx hb dX12_field_72 (lv_at hl 0 rfl) ?_
                refine lv_if_eq (tgt := 108) hx hb dX12_field_74 (of_decide_eq_true rfl) (fun _ => ?_) (fun c => absurd (of_decide_eq_true rfl) c)
                refine lv_ldc (v := (-2000000000)) hx hb hown (hts _ kw_11_4) dX12_field_108 ?_
                exact by exact hret (-2000000000) σ τ _ _ _ _ rfl ⟨rfl, (fun _ _ => rfl), (fun _ _ => rfl), hI101, Or.inl ⟨rfl, (by have h9 := jz_m2000000000; omega), (by have h9 := jz_m2000000000; omega), (fun h => by unfold jFok at h; omega), ⟨rfl, rfl, rfl, rfl⟩⟩⟩ hP hS dX12_field_110
            · have kc19 := jeq c19 t2 jz_0
              refine lv_iload_n hx hb dX12_field_34 rfl (lv_at hl 3 rfl) ?_
              refine lv_i2l (v := a3.toInt64) hx hb dX12_field_35 rfl ?_
              refine lv_ldc2 (v := (-200)) hx hb hown (hts _ kw_12_2) dX12_field_36 ?_
              refine lv_ldc2 (v := 200) hx hb hown (hts _ kw_12_3) dX12_field_39 ?_
              refine jcallS (As := [.long a3.toInt64, .long (-200), .long 200]) (rest := []) ⟨hx, hb, hml, hown, hts⟩ hK hP hA hS hZ (c_X12_within l D cI cL ad zz hJ σ τ a3.toInt64 (A3) (jtoL t3) (-200) ((-200)) jzl_m200 200 (200) jzl_200) cw_RX12_136 ⟨Nat.le_of_ble_eq_true rfl, Nat.le_of_ble_eq_true rfl⟩ rfl rfl rfl hl.1 rfl (Nat.le_of_ble_eq_true rfl) dX12_field_42 ⟨Nat.zero_le _, Nat.zero_le _⟩ (fun r49 σ48 τ48 H locs h48 hP hS => ?_)
              obtain ⟨⟨rfl, rfl⟩, h48⟩ := h48
              rcases h48 with h50 | h51
              · obtain ⟨q53, k52⟩ := h50
                have q53 := q53.symm
                subst q53
                refine lv_if_eq (tgt := 69) hx hb dX12_field_45 (of_decide_eq_true rfl) (fun c => absurd c (of_decide_eq_true rfl)) (fun _ => ?_)
                refine lv_goto (tgt := 65) hx hb dX12_field_48 (of_decide_eq_true rfl) ?_
                refine lv_iconst (v := 1) hx hb dX12_field_65 (of_decide_eq_true rfl) ?_
                refine lv_goto (tgt := 70) hx hb dX12_field_66 (of_decide_eq_true rfl) ?_
                refine lv_istore (lv' := [(4, .int 1), (0, .ref (ad 55)), (1, .int a1), (2, .int a2), (3, .int a3)]) hx hb dX12_field_70 hl (of_decide_eq_true rfl) rfl (fun ls hl => ?_)
                refine lv_iload hx hb dX12_field_72 (lv_at hl 0 rfl) ?_
                refine lv_if_eq (tgt := 108) hx hb dX12_field_74 (of_decide_eq_true rfl) (fun c => absurd c (of_decide_eq_true rfl)) (fun _ => ?_)
                refine lv_aload_n hx hb dX12_field_77 rfl (lv_at hl 1 rfl) ?_
                refine lv_iload_n hx hb dX12_field_78 rfl (lv_at hl 3 rfl) ?_
                exact by
                 refine lv_if_ne (tgt := 87) hx hb dX12_field_79 (of_decide_eq_true rfl) (fun c => absurd (jne c t2 jz_0) (by omega)) (fun c54 => ?_)
                 have kc54 := jeq c54 t2 jz_0
                 refine lv_bipush (v := 36) hx hb dX12_field_82 (of_decide_eq_true rfl) ?_
                 refine lv_goto (tgt := 89) hx hb dX12_field_84 (of_decide_eq_true rfl) ?_
                 refine lv_iconst (v := 4) hx hb dX12_field_89 (of_decide_eq_true rfl) ?_
                 refine lv_iload_n hx hb dX12_field_90 rfl (lv_at hl 2 rfl) ?_
                 refine lv_bipush (v := 10) hx hb dX12_field_91 (of_decide_eq_true rfl) ?_
                 refine lv_idiv hx hb dX12_field_93 (of_decide_eq_true rfl) ?_
                 refine lv_topi (fun x55 ex55 => ?_)
                 exact by
                  have tx55 : x55.toInt = (A1 / 10) := jdiv ex55 t1 jz_10 (by omega) (by omega)
                  refine lv_imul hx hb dX12_field_94 ?_
                  refine lv_topi (fun x56 ex56 => ?_)
                  have tx56 : x56.toInt = 4 * (A1 / 10) := (jmul ex56 jz_4 tx55 (by omega) (by omega)).trans (by omega)
                  refine lv_iadd hx hb dX12_field_95 ?_
                  refine lv_topi (fun x57 ex57 => ?_)
                  have tx57 : x57.toInt = 4 * (A1 / 10) + 36 := (jadd ex57 jz_36 tx56 (by omega) (by omega)).trans (by omega)
                  refine lv_iload_n hx hb dX12_field_96 rfl (lv_at hl 2 rfl) ?_
                  refine lv_bipush (v := 10) hx hb dX12_field_97 (of_decide_eq_true rfl) ?_
                  exact by
                   refine lv_irem hx hb dX12_field_99 (of_decide_eq_true rfl) ?_
                   refine lv_topi (fun x58 ex58 => ?_)
                   have tx58 : x58.toInt = (A1 % 10) := jrem ex58 t1 jz_10 (by omega)
                   refine lv_iadd hx hb dX12_field_100 ?_
                   refine lv_topi (fun x59 ex59 => ?_)
                   have tx59 : x59.toInt = 4 * (A1 / 10) + (A1 % 10) + 36 := (jadd ex59 tx57 tx58 (by omega) (by omega)).trans (by omega)
                   refine lv_iload_n hx hb dX12_field_101 rfl (lv_at hl 4 rfl) ?_
                   refine jcallV (As := [.int x59, .int a3]) (rest := []) ⟨hx, hb, hml, hown, hts⟩ hK hP hA hS hZ (c_X12_becomes l D cI cL ad zz hJ σ τ x59 (4 * (A1 / 10) + (A1 % 10) + 36) tx59 a3 (A3) t3 hI101 (by omega) (by omega)) cw_RX12_153 (jc_55 cI cL ad σ τ) rfl ⟨Nat.le_of_ble_eq_true rfl, Nat.le_of_ble_eq_true rfl⟩ rfl rfl rfl hl.1 rfl (Nat.le_of_ble_eq_true rfl) dX12_field_102 ⟨Nat.zero_le _, Nat.zero_le _⟩ (fun r61 σ60 τ60 H locs h60 hP hS => ?_)
                   obtain ⟨rfl, f62, f63, I64, w65, h60⟩ := h60
                   exact by
                    obtain ⟨i67, i68, i69, w70, w71, w72, w73⟩ : (0 ≤ (σ60 55 5).toInt) ∧ ((σ60 55 5).toInt ≤ (σ60 55 4).toInt) ∧ ((σ60 55 4).toInt ≤ 40) ∧ (∀ k : Nat, k < 68 → (-200) ≤ (σ60 56 k).toInt ∧ (σ60 56 k).toInt ≤ 500) ∧ (∀ k : Nat, k < 40 → 0 ≤ (σ60 57 k).toInt ∧ (σ60 57 k).toInt ≤ 67) ∧ (∀ k : Nat, k < 40 → (-200) ≤ (σ60 58 k).toInt ∧ (σ60 58 k).toInt ≤ 500) ∧ (∀ k : Nat, k < 40 → (-200) ≤ (σ60 59 k).toInt ∧ (σ60 59 k).toInt ≤ 500) := id I64
                    refine lv_goto (tgt := 110) hx hb dX12_field_105 (of_decide_eq_true rfl) ?_
                    exact by exact hret r61 σ60 τ _ _ _ _ rfl ⟨rfl, (fun i hi => (f62 i hi)), (fun i hi => (f63 i hi)), I64, Or.inr (⟨trivial, ⟨(by unfold jFok; omega), 4 * (A1 / 10) + (A1 % 10) + 36, (by unfold jFpl; omega), w65⟩⟩)⟩ hP hS dX12_field_110
              · obtain ⟨q75, k74⟩ := h51
                have q75 := q75.symm
                subst q75
                refine lv_if_eq (tgt := 69) hx hb dX12_field_45 (of_decide_eq_true rfl) (fun _ => ?_) (fun c => absurd (of_decide_eq_true rfl) c)
                refine lv_iconst (v := 0) hx hb dX12_field_69 (of_decide_eq_true rfl) ?_
                refine lv_istore (lv' := [(4, .int 0), (0, .ref (ad 55)), (1, .int a1), (2, .int a2), (3, .int a3)]) hx hb dX12_field_70 hl (of_decide_eq_true rfl) rfl (fun ls hl => ?_)
                refine lv_iload hx hb dX12_field_72 (lv_at hl 0 rfl) ?_
                refine lv_if_eq (tgt := 108) hx hb dX12_field_74 (of_decide_eq_true rfl) (fun _ => ?_) (fun c => absurd (of_decide_eq_true rfl) c)
                refine lv_ldc (v := (-2000000000)) hx hb hown (hts _ kw_11_4) dX12_field_108 ?_
                exact by exact hret (-2000000000) σ τ _ _ _ _ rfl ⟨rfl, (fun _ _ => rfl), (fun _ _ => rfl), hI101, Or.inl ⟨rfl, (by have h9 := jz_m2000000000; omega), (by have h9 := jz_m2000000000; omega), (fun h => by unfold jFok at h; omega), ⟨rfl, rfl, rfl, rfl⟩⟩⟩ hP hS dX12_field_110
          · obtain ⟨q77, k76⟩ := h16
            have q77 := q77.symm
            subst q77
            refine lv_if_eq (tgt := 69) hx hb dX12_field_27 (of_decide_eq_true rfl) (fun _ => ?_) (fun c => absurd (of_decide_eq_true rfl) c)
            refine lv_iconst (v := 0) hx hb dX12_field_69 (of_decide_eq_true rfl) ?_
            refine lv_istore (lv' := [(4, .int 0), (0, .ref (ad 55)), (1, .int a1), (2, .int a2), (3, .int a3)]) hx hb dX12_field_70 hl (of_decide_eq_true rfl) rfl (fun ls hl => ?_)
            refine lv_iload hx hb dX12_field_72 (lv_at hl 0 rfl) ?_
            refine lv_if_eq (tgt := 108) hx hb dX12_field_74 (of_decide_eq_true rfl) (fun _ => ?_) (fun c => absurd (of_decide_eq_true rfl) c)
            refine lv_ldc (v := (-2000000000)) hx hb hown (hts _ kw_11_4) dX12_field_108 ?_
            exact by exact hret (-2000000000) σ τ _ _ _ _ rfl ⟨rfl, (fun _ _ => rfl), (fun _ _ => rfl), hI101, Or.inl ⟨rfl, (by have h9 := jz_m2000000000; omega), (by have h9 := jz_m2000000000; omega), (fun h => by unfold jFok at h; omega), ⟨rfl, rfl, rfl, rfl⟩⟩⟩ hP hS dX12_field_110
set_option maxHeartbeats 4000000 in
set_option maxRecDepth 100000 in
theorem c_X12_set (l : Launch) (D : va_G) (cI cL : ClassId) (ad zz : Nat → Nat) (hJ : jD ad) (σ : Nat → Nat → Int32) (τ : Nat → Nat → Int64) (a1 : Int32) (A1 : Int) (t1 : a1.toInt = A1) (hI103 : jI103 σ) : jM l yX12_set cX12_set 3 (some .int) ({ frames := 1, cells := 0, slots := 0, locals := 25 }) D cI cL ad zz [.ref (ad 55), .int a1] σ τ (fun r σ' τ' => τ = τ' ∧ (∀ i : Nat, (i < 55 ∨ 55 < i) → σ' i = σ i) ∧ (∀ k : Nat, (k < 9 ∨ 9 < k) → σ' 55 k = σ 55 k) ∧ (jI103 σ') ∧ ((True ∧ (0 ≤ A1 ∧ A1 ≤ 3) ∧ (r.toInt = (σ 55 9).toInt) ∧ ((σ' 55 9).toInt = A1)) ∨ (r = (-1) ∧ ((A1 < 0) ∨ (3 < A1)) ∧ ((σ' 55 9).toInt = (σ 55 9).toInt)))) := by
  refine jM.of hJ (by decide +kernel) (nt := .int) rfl (Nat.le_of_ble_eq_true rfl) ?_
  intro p e s m args below meth c Q ls hC hret hl hP
  obtain ⟨hx, hb, hr, hml, hown, hts, hK, -, hlocks, hZ⟩ := hC
  have hown : s.vm.findClass RX12 = some m.cls := hown
  have hS : va_S (jA ad) s.heap s.heap [] := va_S.rf
  have hA : ∀ q, jA ad q → jA ad q := fun _ h => h
  have hl : lv_has ls 3 [(0, .ref (ad 55)), (1, .int a1)] := hl
  have g1 := jrg t1
  have i1 : 0 ≤ (σ 55 9).toInt ∧ (σ 55 9).toInt ≤ 3 := hI103
  refine lv_iload_n hx hb dX12_set_0 rfl (lv_at hl 1 rfl) ?_
  refine lv_i2l (v := a1.toInt64) hx hb dX12_set_1 rfl ?_
  refine lv_lconst (v := 0) hx hb dX12_set_2 (of_decide_eq_true rfl) ?_
  refine lv_ldc2 (v := 3) hx hb hown (hts _ kw_12_13) dX12_set_3 ?_
  refine jcallS (As := [.long a1.toInt64, .long 0, .long 3]) (rest := []) ⟨hx, hb, hml, hown, hts⟩ hK hP hA hS hZ (c_X12_within l D cI cL ad zz hJ σ τ a1.toInt64 (A1) (jtoL t1) 0 (0) jzl_0 3 (3) jzl_3) cw_RX12_136 ⟨Nat.le_of_ble_eq_true rfl, Nat.le_of_ble_eq_true rfl⟩ rfl rfl rfl hl.1 rfl (Nat.le_of_ble_eq_true rfl) dX12_set_6 ⟨Nat.zero_le _, Nat.zero_le _⟩ (fun r3 σ2 τ2 H locs h2 hP hS => ?_)
  obtain ⟨⟨rfl, rfl⟩, h2⟩ := h2
  rcases h2 with h4 | h5
  · obtain ⟨q7, k6⟩ := h4
    have q7 := q7.symm
    subst q7
    refine lv_if_ne (tgt := 14) hx hb dX12_set_9 (of_decide_eq_true rfl) (fun _ => ?_) (fun c => absurd c (of_decide_eq_true rfl))
    refine lv_aload_n hx hb dX12_set_14 rfl (lv_at hl 0 rfl) ?_
    refine va_get (D := D) hx hb hts inlX12 hown hK hP 55 (jc_55 cI cL ad σ τ) rfl 9 (of_decide_eq_true rfl) (hts _ kw_12_14) (fun _ h9 => h9) rfl dX12_set_15 ?_
    refine lv_istore_n (lv' := [(2, .int (σ 55 9)), (0, .ref (ad 55)), (1, .int a1)]) hx hb dX12_set_18 rfl hl (of_decide_eq_true rfl) rfl (fun ls hl => ?_)
    refine lv_aload_n hx hb dX12_set_19 rfl (lv_at hl 1 rfl) ?_
    refine lv_iload_n hx hb dX12_set_20 rfl (lv_at hl 2 rfl) ?_
    refine jput (ty := .int) hx hb hts inlX12 tyX12 tyX12_ok nmX12 hown hK hP hJ hA hS (jc_55 cI cL ad σ τ) rfl (k := 9) (of_decide_eq_true rfl) (Nat.le_of_ble_eq_true rfl) (jp_55_9 cI cL ad σ τ a1) (hts _ kw_12_14) (fun _ h9 => h9) rfl (by decide +kernel) rfl rfl dX12_set_21 (fun σ8 H locs eσ8 hP hS => ?_)
    refine lv_iload_n hx hb dX12_set_24 rfl (lv_at hl 0 rfl) ?_
    have z9 : (σ8 55 9).toInt = A1 := ((congrArg Int32.toInt (show σ8 55 9 = a1 from (jsp eσ8))).trans t1)
    have I10 : jI103 σ8 := (show 0 ≤ (σ8 55 9).toInt ∧ (σ8 55 9).toInt ≤ 3 by omega)
    exact by exact hret (σ 55 9) σ8 τ _ _ _ _ rfl ⟨rfl, (fun i hi => (jnp i eσ8 (imp_165 i hi))), (fun i hi => (jkp i eσ8 (imp_37 i hi))), I10, Or.inl ⟨trivial, (by omega), (by omega), (by omega)⟩⟩ hP hS dX12_set_25
  · obtain ⟨q12, k11⟩ := h5
    have q12 := q12.symm
    subst q12
    refine lv_if_ne (tgt := 14) hx hb dX12_set_9 (of_decide_eq_true rfl) (fun c => absurd (of_decide_eq_true rfl) c) (fun _ => ?_)
    refine lv_iconst (v := (-1)) hx hb dX12_set_12 (of_decide_eq_true rfl) ?_
    exact by exact hret (-1) σ τ _ _ _ _ rfl ⟨rfl, (fun _ _ => rfl), (fun _ _ => rfl), hI103, Or.inr (⟨rfl, (by have h9 := jz_m1; omega), (by have h9 := jz_m1; omega)⟩)⟩ hP hS dX12_set_13
set_option maxHeartbeats 4000000 in
set_option maxRecDepth 100000 in
theorem c_X12_learn (l : Launch) (D : va_G) (cI cL : ClassId) (ad zz : Nat → Nat) (hJ : jD ad) (σ : Nat → Nat → Int32) (τ : Nat → Nat → Int64) (a1 : Int32) (A1 : Int) (t1 : a1.toInt = A1) (a2 : Int32) (A2 : Int) (t2 : a2.toInt = A2) (hI101 : jI101 σ) (hI102 : jI102 σ) : jM l yX12_learn cX12_learn 6 (some .int) ({ frames := 2, cells := 0, slots := 0, locals := 46 }) D cI cL ad zz [.ref (ad 55), .int a1, .int a2] σ τ (fun r σ' τ' => τ = τ' ∧ (∀ i : Nat, (i < 55 ∨ 59 < i) → σ' i = σ i) ∧ (∀ k : Nat, (k < 4 ∨ 4 < k) ∧ (k < 5 ∨ 5 < k) → σ' 55 k = σ 55 k) ∧ (jI101 σ') ∧ ((r = (-1) ∧ ((A1 < 0) ∨ (0 ≤ A1 ∧ (σ 55 6).toInt ≤ (A1 / 10)) ∨ (0 ≤ A1 ∧ 3 < (A1 % 10)) ∨ (A2 < 0) ∨ (9999 < A2) ∨ (0 ≤ A2 ∧ (A2 / 100) < (A2 % 100))) ∧ ((σ' 55 5).toInt = (σ 55 5).toInt) ∧ ((σ' 55 4).toInt = (σ 55 4).toInt) ∧ (σ' 56 = σ 56 ∧ σ' 57 = σ 57 ∧ σ' 58 = σ 58 ∧ σ' 59 = σ 59)) ∨ (True ∧ (0 ≤ A1) ∧ ((A1 / 10) < (σ 55 6).toInt) ∧ ((A1 % 10) ≤ 3) ∧ (0 ≤ A2 ∧ A2 ≤ 9999) ∧ ((A2 % 100) ≤ (A2 / 100)) ∧ ((((1000 * (A2 % 100) + 1000) / ((A2 / 100) + 2)) ≤ 500 ∧ r.toInt = ((1000 * (A2 % 100) + 1000) / ((A2 / 100) + 2))) ∨ (500 < ((1000 * (A2 % 100) + 1000) / ((A2 / 100) + 2)) ∧ r.toInt = 500)) ∧ (∃ (q : Int) (w : Int32), q = 4 * ((A1) / 10) + (A1) % 10 ∧ jChg (q) r w (σ 56) (σ' 56) (σ 57) (σ' 57) (σ 58) (σ' 58) (σ 59) (σ' 59) (σ 55 5).toInt (σ' 55 5).toInt (σ 55 4).toInt (σ' 55 4).toInt)))) := by
  refine jM.of hJ (by decide +kernel) (nt := .int) rfl (Nat.le_of_ble_eq_true rfl) ?_
  intro p e s m args below meth c Q ls hC hret hl hP
  obtain ⟨hx, hb, hr, hml, hown, hts, hK, -, hlocks, hZ⟩ := hC
  have hown : s.vm.findClass RX12 = some m.cls := hown
  have hS : va_S (jA ad) s.heap s.heap [] := va_S.rf
  have hA : ∀ q, jA ad q → jA ad q := fun _ h => h
  have hl : lv_has ls 6 [(0, .ref (ad 55)), (1, .int a1), (2, .int a2)] := hl
  have g1 := jrg t1
  have g2 := jrg t2
  obtain ⟨i1, i2, i3, w4, w5, w6, w7⟩ : (0 ≤ (σ 55 5).toInt) ∧ ((σ 55 5).toInt ≤ (σ 55 4).toInt) ∧ ((σ 55 4).toInt ≤ 40) ∧ (∀ k : Nat, k < 68 → (-200) ≤ (σ 56 k).toInt ∧ (σ 56 k).toInt ≤ 500) ∧ (∀ k : Nat, k < 40 → 0 ≤ (σ 57 k).toInt ∧ (σ 57 k).toInt ≤ 67) ∧ (∀ k : Nat, k < 40 → (-200) ≤ (σ 58 k).toInt ∧ (σ 58 k).toInt ≤ 500) ∧ (∀ k : Nat, k < 40 → (-200) ≤ (σ 59 k).toInt ∧ (σ 59 k).toInt ≤ 500) := id hI101
  obtain ⟨i8, w9, w10⟩ : (0 ≤ (σ 55 6).toInt ∧ (σ 55 6).toInt ≤ 4) ∧ (∀ k : Nat, k < 4 → 0 ≤ (σ 60 k).toInt ∧ (σ 60 k).toInt ≤ 50) ∧ (∀ k : Nat, k < 4 → 0 ≤ (σ 61 k).toInt ∧ (σ 61 k).toInt ≤ 20) := id hI102
  refine lv_iload_n hx hb dX12_learn_0 rfl (lv_at hl 1 rfl) ?_
  refine lv_if_lt (tgt := 46) hx hb dX12_learn_1 (of_decide_eq_true rfl) (fun c11 => ?_) (fun c11 => ?_)
  · have kc11 := jlt c11 t1 jz_0
    refine lv_iconst (v := (-1)) hx hb dX12_learn_46 (of_decide_eq_true rfl) ?_
    exact by exact hret (-1) σ τ _ _ _ _ rfl ⟨rfl, (fun _ _ => rfl), (fun _ _ => rfl), hI101, Or.inl ⟨rfl, (by have h9 := jz_m1; omega), (by have h9 := jz_m1; omega), (by have h9 := jz_m1; omega), ⟨rfl, rfl, rfl, rfl⟩⟩⟩ hP hS dX12_learn_47
  · have kc11 := jnlt c11 t1 jz_0
    refine lv_aload_n hx hb dX12_learn_4 rfl (lv_at hl 0 rfl) ?_
    refine lv_iload_n hx hb dX12_learn_5 rfl (lv_at hl 1 rfl) ?_
    refine lv_bipush (v := 10) hx hb dX12_learn_6 (of_decide_eq_true rfl) ?_
    refine lv_idiv hx hb dX12_learn_8 (of_decide_eq_true rfl) ?_
    refine lv_topi (fun x12 ex12 => ?_)
    exact by
     have tx12 : x12.toInt = (A1 / 10) := jdiv ex12 t1 jz_10 (by omega) (by omega)
     refine jcallV (As := [.int x12]) (rest := []) ⟨hx, hb, hml, hown, hts⟩ hK hP hA hS hZ (c_X12_isBowler l D cI cL ad zz hJ σ τ x12 ((A1 / 10)) tx12 hI102) cw_RX12_146 (jc_55 cI cL ad σ τ) rfl ⟨Nat.le_of_ble_eq_true rfl, Nat.le_of_ble_eq_true rfl⟩ rfl rfl rfl hl.1 rfl (Nat.le_of_ble_eq_true rfl) dX12_learn_9 ⟨Nat.zero_le _, Nat.zero_le _⟩ (fun r14 σ13 τ13 H locs h13 hP hS => ?_)
     obtain ⟨⟨rfl, rfl⟩, h13⟩ := h13
     rcases h13 with h15 | h16
     · obtain ⟨q18, k17⟩ := h15
       have q18 := q18.symm
       subst q18
       refine lv_if_eq (tgt := 46) hx hb dX12_learn_12 (of_decide_eq_true rfl) (fun c => absurd c (of_decide_eq_true rfl)) (fun _ => ?_)
       refine lv_iload_n hx hb dX12_learn_15 rfl (lv_at hl 1 rfl) ?_
       refine lv_bipush (v := 10) hx hb dX12_learn_16 (of_decide_eq_true rfl) ?_
       refine lv_irem hx hb dX12_learn_18 (of_decide_eq_true rfl) ?_
       refine lv_topi (fun x19 ex19 => ?_)
       exact by
        have tx19 : x19.toInt = (A1 % 10) := jrem ex19 t1 jz_10 (by omega)
        refine lv_iconst (v := 4) hx hb dX12_learn_19 (of_decide_eq_true rfl) ?_
        refine lv_icmp_ge (tgt := 46) hx hb dX12_learn_20 (of_decide_eq_true rfl) (fun c20 => ?_) (fun c20 => ?_)
        · have kc20 := jle c20 jz_4 tx19
          refine lv_iconst (v := (-1)) hx hb dX12_learn_46 (of_decide_eq_true rfl) ?_
          exact by exact hret (-1) σ τ _ _ _ _ rfl ⟨rfl, (fun _ _ => rfl), (fun _ _ => rfl), hI101, Or.inl ⟨rfl, (by have h9 := jz_m1; omega), (by have h9 := jz_m1; omega), (by have h9 := jz_m1; omega), ⟨rfl, rfl, rfl, rfl⟩⟩⟩ hP hS dX12_learn_47
        · have kc20 := jnle c20 jz_4 tx19
          refine lv_iload_n hx hb dX12_learn_23 rfl (lv_at hl 2 rfl) ?_
          refine lv_i2l (v := a2.toInt64) hx hb dX12_learn_24 rfl ?_
          refine lv_lconst (v := 0) hx hb dX12_learn_25 (of_decide_eq_true rfl) ?_
          refine lv_ldc2 (v := 9999) hx hb hown (hts _ kw_41_8) dX12_learn_26 ?_
          refine jcallS (As := [.long a2.toInt64, .long 0, .long 9999]) (rest := []) ⟨hx, hb, hml, hown, hts⟩ hK hP hA hS hZ (c_X12_within l D cI cL ad zz hJ σ τ a2.toInt64 (A2) (jtoL t2) 0 (0) jzl_0 9999 (9999) jzl_9999) cw_RX12_136 ⟨Nat.le_of_ble_eq_true rfl, Nat.le_of_ble_eq_true rfl⟩ rfl rfl rfl hl.1 rfl (Nat.le_of_ble_eq_true rfl) dX12_learn_29 ⟨Nat.zero_le _, Nat.zero_le _⟩ (fun r22 σ21 τ21 H locs h21 hP hS => ?_)
          obtain ⟨⟨rfl, rfl⟩, h21⟩ := h21
          rcases h21 with h23 | h24
          · obtain ⟨q26, k25⟩ := h23
            have q26 := q26.symm
            subst q26
            refine lv_if_eq (tgt := 46) hx hb dX12_learn_32 (of_decide_eq_true rfl) (fun c => absurd c (of_decide_eq_true rfl)) (fun _ => ?_)
            refine lv_iload_n hx hb dX12_learn_35 rfl (lv_at hl 2 rfl) ?_
            refine lv_bipush (v := 100) hx hb dX12_learn_36 (of_decide_eq_true rfl) ?_
            refine lv_irem hx hb dX12_learn_38 (of_decide_eq_true rfl) ?_
            refine lv_topi (fun x27 ex27 => ?_)
            exact by
             have tx27 : x27.toInt = (A2 % 100) := jrem ex27 t2 jz_100 (by omega)
             refine lv_iload_n hx hb dX12_learn_39 rfl (lv_at hl 2 rfl) ?_
             refine lv_bipush (v := 100) hx hb dX12_learn_40 (of_decide_eq_true rfl) ?_
             refine lv_idiv hx hb dX12_learn_42 (of_decide_eq_true rfl) ?_
             refine lv_topi (fun x28 ex28 => ?_)
             have tx28 : x28.toInt = (A2 / 100) := jdiv ex28 t2 jz_100 (by omega) (by omega)
             refine lv_icmp_le (tgt := 48) hx hb dX12_learn_43 (of_decide_eq_true rfl) (fun c29 => ?_) (fun c29 => ?_)
             · have kc29 := jle c29 tx27 tx28
               refine lv_sipush (v := 1000) hx hb dX12_learn_48 (of_decide_eq_true rfl) ?_
               exact by
                refine lv_iload_n hx hb dX12_learn_51 rfl (lv_at hl 2 rfl) ?_
                refine lv_bipush (v := 100) hx hb dX12_learn_52 (of_decide_eq_true rfl) ?_
                refine lv_irem hx hb dX12_learn_54 (of_decide_eq_true rfl) ?_
                refine lv_topi (fun x30 ex30 => ?_)
                have tx30 : x30.toInt = (A2 % 100) := jrem ex30 t2 jz_100 (by omega)
                refine lv_iconst (v := 1) hx hb dX12_learn_55 (of_decide_eq_true rfl) ?_
                refine lv_iadd hx hb dX12_learn_56 ?_
                refine lv_topi (fun x31 ex31 => ?_)
                have tx31 : x31.toInt = (A2 % 100) + 1 := (jadd ex31 tx30 jz_1 (by omega) (by omega)).trans (by omega)
                exact by
                 refine lv_imul hx hb dX12_learn_57 ?_
                 refine lv_topi (fun x32 ex32 => ?_)
                 have tx32 : x32.toInt = 1000 * (A2 % 100) + 1000 := (jmul ex32 jz_1000 tx31 (by omega) (by omega)).trans (by omega)
                 refine lv_iload_n hx hb dX12_learn_58 rfl (lv_at hl 2 rfl) ?_
                 refine lv_bipush (v := 100) hx hb dX12_learn_59 (of_decide_eq_true rfl) ?_
                 refine lv_idiv hx hb dX12_learn_61 (of_decide_eq_true rfl) ?_
                 refine lv_topi (fun x33 ex33 => ?_)
                 have tx33 : x33.toInt = (A2 / 100) := jdiv ex33 t2 jz_100 (by omega) (by omega)
                 refine lv_iconst (v := 2) hx hb dX12_learn_62 (of_decide_eq_true rfl) ?_
                 exact by
                  refine lv_iadd hx hb dX12_learn_63 ?_
                  refine lv_topi (fun x34 ex34 => ?_)
                  have tx34 : x34.toInt = (A2 / 100) + 2 := (jadd ex34 tx33 jz_2 (by omega) (by omega)).trans (by omega)
                  refine lv_idiv hx hb dX12_learn_64 (fun h => absurd (jeq h tx34 jz_0) (by omega)) ?_
                  have g35 := jdivv (a := x32) (b := x34) tx32 tx34 (by omega) (by omega)
                  refine lv_topi (fun x36 ex36 => ?_)
                  have tx36 : x36.toInt = ((1000 * (A2 % 100) + 1000) / ((A2 / 100) + 2)) := jdiv ex36 tx32 tx34 (by omega) (by omega)
                  refine lv_istore_n (lv' := [(3, .int x36), (0, .ref (ad 55)), (1, .int a1), (2, .int a2)]) hx hb dX12_learn_65 rfl hl (of_decide_eq_true rfl) rfl (fun ls hl => ?_)
                  refine lv_iload_n hx hb dX12_learn_66 rfl (lv_at hl 0 rfl) ?_
                  exact by
                   refine lv_sipush (v := 500) hx hb dX12_learn_67 (of_decide_eq_true rfl) ?_
                   refine lv_icmp_le (tgt := 79) hx hb dX12_learn_70 (of_decide_eq_true rfl) (fun c37 => ?_) (fun c37 => ?_)
                   · have kc37 := jle c37 tx36 jz_500
                     refine lv_iload_n hx hb dX12_learn_79 rfl (lv_at hl 0 rfl) ?_
                     refine lv_istore (lv' := [(4, .int x36), (3, .int x36), (0, .ref (ad 55)), (1, .int a1), (2, .int a2)]) hx hb dX12_learn_80 hl (of_decide_eq_true rfl) rfl (fun ls hl => ?_)
                     refine lv_aload_n hx hb dX12_learn_82 rfl (lv_at hl 2 rfl) ?_
                     refine lv_iconst (v := 4) hx hb dX12_learn_83 (of_decide_eq_true rfl) ?_
                     refine lv_iload_n hx hb dX12_learn_84 rfl (lv_at hl 3 rfl) ?_
                     refine lv_bipush (v := 10) hx hb dX12_learn_85 (of_decide_eq_true rfl) ?_
                     refine lv_idiv hx hb dX12_learn_87 (of_decide_eq_true rfl) ?_
                     refine lv_topi (fun x38 ex38 => ?_)
                     exact by
                      have tx38 : x38.toInt = (A1 / 10) := jdiv ex38 t1 jz_10 (by omega) (by omega)
                      refine lv_imul hx hb dX12_learn_88 ?_
                      refine lv_topi (fun x39 ex39 => ?_)
                      have tx39 : x39.toInt = 4 * (A1 / 10) := (jmul ex39 jz_4 tx38 (by omega) (by omega)).trans (by omega)
                      refine lv_iload_n hx hb dX12_learn_89 rfl (lv_at hl 3 rfl) ?_
                      refine lv_bipush (v := 10) hx hb dX12_learn_90 (of_decide_eq_true rfl) ?_
                      refine lv_irem hx hb dX12_learn_92 (of_decide_eq_true rfl) ?_
                      refine lv_topi (fun x40 ex40 => ?_)
                      have tx40 : x40.toInt = (A1 % 10) := jrem ex40 t1 jz_10 (by omega)
                      exact by
                       refine lv_iadd hx hb dX12_learn_93 ?_
                       refine lv_topi (fun x41 ex41 => ?_)
                       have tx41 : x41.toInt = 4 * (A1 / 10) + (A1 % 10) := (jadd ex41 tx39 tx40 (by omega) (by omega)).trans (by omega)
                       refine lv_iload hx hb dX12_learn_94 (lv_at hl 0 rfl) ?_
                       refine jcallV (As := [.int x41, .int x36]) (rest := []) ⟨hx, hb, hml, hown, hts⟩ hK hP hA hS hZ (c_X12_becomes l D cI cL ad zz hJ σ τ x41 (4 * (A1 / 10) + (A1 % 10)) tx41 x36 (((1000 * (A2 % 100) + 1000) / ((A2 / 100) + 2))) tx36 hI101 (by omega) (by omega)) cw_RX12_153 (jc_55 cI cL ad σ τ) rfl ⟨Nat.le_of_ble_eq_true rfl, Nat.le_of_ble_eq_true rfl⟩ rfl rfl rfl hl.1 rfl (Nat.le_of_ble_eq_true rfl) dX12_learn_96 ⟨Nat.zero_le _, Nat.zero_le _⟩ (fun r43 σ42 τ42 H locs h42 hP hS => ?_)
                       obtain ⟨rfl, f44, f45, I46, w47, h42⟩ := h42
                       obtain ⟨i49, i50, i51, w52, w53, w54, w55⟩ : (0 ≤ (σ42 55 5).toInt) ∧ ((σ42 55 5).toInt ≤ (σ42 55 4).toInt) ∧ ((σ42 55 4).toInt ≤ 40) ∧ (∀ k : Nat, k < 68 → (-200) ≤ (σ42 56 k).toInt ∧ (σ42 56 k).toInt ≤ 500) ∧ (∀ k : Nat, k < 40 → 0 ≤ (σ42 57 k).toInt ∧ (σ42 57 k).toInt ≤ 67) ∧ (∀ k : Nat, k < 40 → (-200) ≤ (σ42 58 k).toInt ∧ (σ42 58 k).toInt ≤ 500) ∧ (∀ k : Nat, k < 40 → (-200) ≤ (σ42 59 k).toInt ∧ (σ42 59 k).toInt ≤ 500) := id I46
                       refine lv_istore (lv' := [(5, .int r43), (4, .int x36), (3, .int x36), (0, .ref (ad 55)), (1, .int a1), (2, .int a2)]) hx hb dX12_learn_99 hl (of_decide_eq_true rfl) rfl (fun ls hl => ?_)
                       refine lv_iload hx hb dX12_learn_101 (lv_at hl 1 rfl) ?_
                       exact by exact hret x36 σ42 τ _ _ _ _ rfl ⟨rfl, (fun i hi => (f44 i hi)), (fun i hi => (f45 i hi)), I46, Or.inr (⟨trivial, (by have h9 := tx36; omega), (by have h9 := tx36; omega), (by have h9 := tx36; omega), (by have h9 := tx36; omega), (by have h9 := tx36; omega), (by have h9 := tx36; omega), ⟨4 * (A1 / 10) + (A1 % 10), _, (by omega), w47⟩⟩)⟩ hP hS dX12_learn_103
                   · exact by
                      have kc37 := jnle c37 tx36 jz_500
                      refine lv_sipush (v := 500) hx hb dX12_learn_73 (of_decide_eq_true rfl) ?_
                      refine lv_goto (tgt := 80) hx hb dX12_learn_76 (of_decide_eq_true rfl) ?_
                      refine lv_istore (lv' := [(4, .int 500), (3, .int x36), (0, .ref (ad 55)), (1, .int a1), (2, .int a2)]) hx hb dX12_learn_80 hl (of_decide_eq_true rfl) rfl (fun ls hl => ?_)
                      refine lv_aload_n hx hb dX12_learn_82 rfl (lv_at hl 2 rfl) ?_
                      refine lv_iconst (v := 4) hx hb dX12_learn_83 (of_decide_eq_true rfl) ?_
                      refine lv_iload_n hx hb dX12_learn_84 rfl (lv_at hl 3 rfl) ?_
                      refine lv_bipush (v := 10) hx hb dX12_learn_85 (of_decide_eq_true rfl) ?_
                      refine lv_idiv hx hb dX12_learn_87 (of_decide_eq_true rfl) ?_
                      refine lv_topi (fun x56 ex56 => ?_)
                      exact by
                       have tx56 : x56.toInt = (A1 / 10) := jdiv ex56 t1 jz_10 (by omega) (by omega)
                       refine lv_imul hx hb dX12_learn_88 ?_
                       refine lv_topi (fun x57 ex57 => ?_)
                       have tx57 : x57.toInt = 4 * (A1 / 10) := (jmul ex57 jz_4 tx56 (by omega) (by omega)).trans (by omega)
                       refine lv_iload_n hx hb dX12_learn_89 rfl (lv_at hl 3 rfl) ?_
                       refine lv_bipush (v := 10) hx hb dX12_learn_90 (of_decide_eq_true rfl) ?_
                       refine lv_irem hx hb dX12_learn_92 (of_decide_eq_true rfl) ?_
                       refine lv_topi (fun x58 ex58 => ?_)
                       have tx58 : x58.toInt = (A1 % 10) := jrem ex58 t1 jz_10 (by omega)
                       exact by
                        refine lv_iadd hx hb dX12_learn_93 ?_
                        refine lv_topi (fun x59 ex59 => ?_)
                        have tx59 : x59.toInt = 4 * (A1 / 10) + (A1 % 10) := (jadd ex59 tx57 tx58 (by omega) (by omega)).trans (by omega)
                        refine lv_iload hx hb dX12_learn_94 (lv_at hl 0 rfl) ?_
                        refine jcallV (As := [.int x59, .int 500]) (rest := []) ⟨hx, hb, hml, hown, hts⟩ hK hP hA hS hZ (c_X12_becomes l D cI cL ad zz hJ σ τ x59 (4 * (A1 / 10) + (A1 % 10)) tx59 500 (500) jz_500 hI101 (by omega) (by omega)) cw_RX12_153 (jc_55 cI cL ad σ τ) rfl ⟨Nat.le_of_ble_eq_true rfl, Nat.le_of_ble_eq_true rfl⟩ rfl rfl rfl hl.1 rfl (Nat.le_of_ble_eq_true rfl) dX12_learn_96 ⟨Nat.zero_le _, Nat.zero_le _⟩ (fun r61 σ60 τ60 H locs h60 hP hS => ?_)
                        obtain ⟨rfl, f62, f63, I64, w65, h60⟩ := h60
                        obtain ⟨i67, i68, i69, w70, w71, w72, w73⟩ : (0 ≤ (σ60 55 5).toInt) ∧ ((σ60 55 5).toInt ≤ (σ60 55 4).toInt) ∧ ((σ60 55 4).toInt ≤ 40) ∧ (∀ k : Nat, k < 68 → (-200) ≤ (σ60 56 k).toInt ∧ (σ60 56 k).toInt ≤ 500) ∧ (∀ k : Nat, k < 40 → 0 ≤ (σ60 57 k).toInt ∧ (σ60 57 k).toInt ≤ 67) ∧ (∀ k : Nat, k < 40 → (-200) ≤ (σ60 58 k).toInt ∧ (σ60 58 k).toInt ≤ 500) ∧ (∀ k : Nat, k < 40 → (-200) ≤ (σ60 59 k).toInt ∧ (σ60 59 k).toInt ≤ 500) := id I64
                        refine lv_istore (lv' := [(5, .int r61), (4, .int 500), (3, .int x36), (0, .ref (ad 55)), (1, .int a1), (2, .int a2)]) hx hb dX12_learn_99 hl (of_decide_eq_true rfl) rfl (fun ls hl => ?_)
                        refine lv_iload hx hb dX12_learn_101 (lv_at hl 1 rfl) ?_
                        exact by exact hret 500 σ60 τ _ _ _ _ rfl ⟨rfl, (fun i hi => (f62 i hi)), (fun i hi => (f63 i hi)), I64, Or.inr (⟨trivial, (by have h9 := jz_500; omega), (by have h9 := jz_500; omega), (by have h9 := jz_500; omega), (by have h9 := jz_500; omega), (by have h9 := jz_500; omega), (by have h9 := jz_500; omega), ⟨4 * (A1 / 10) + (A1 % 10), _, (by omega), w65⟩⟩)⟩ hP hS dX12_learn_103
             · exact by
                have kc29 := jnle c29 tx27 tx28
                refine lv_iconst (v := (-1)) hx hb dX12_learn_46 (of_decide_eq_true rfl) ?_
                exact by exact hret (-1) σ τ _ _ _ _ rfl ⟨rfl, (fun _ _ => rfl), (fun _ _ => rfl), hI101, Or.inl ⟨rfl, (by have h9 := jz_m1; omega), (by have h9 := jz_m1; omega), (by have h9 := jz_m1; omega), ⟨rfl, rfl, rfl, rfl⟩⟩⟩ hP hS dX12_learn_47
          · obtain ⟨q75, k74⟩ := h24
            have q75 := q75.symm
            subst q75
            refine lv_if_eq (tgt := 46) hx hb dX12_learn_32 (of_decide_eq_true rfl) (fun _ => ?_) (fun c => absurd (of_decide_eq_true rfl) c)
            refine lv_iconst (v := (-1)) hx hb dX12_learn_46 (of_decide_eq_true rfl) ?_
            exact by exact hret (-1) σ τ _ _ _ _ rfl ⟨rfl, (fun _ _ => rfl), (fun _ _ => rfl), hI101, Or.inl ⟨rfl, (by have h9 := jz_m1; omega), (by have h9 := jz_m1; omega), (by have h9 := jz_m1; omega), ⟨rfl, rfl, rfl, rfl⟩⟩⟩ hP hS dX12_learn_47
     · obtain ⟨q77, k76⟩ := h16
       have q77 := q77.symm
       subst q77
       refine lv_if_eq (tgt := 46) hx hb dX12_learn_12 (of_decide_eq_true rfl) (fun _ => ?_) (fun c => absurd (of_decide_eq_true rfl) c)
       refine lv_iconst (v := (-1)) hx hb dX12_learn_46 (of_decide_eq_true rfl) ?_
       exact by exact hret (-1) σ τ _ _ _ _ rfl ⟨rfl, (fun _ _ => rfl), (fun _ _ => rfl), hI101, Or.inl ⟨rfl, (by have h9 := jz_m1; omega), (by have h9 := jz_m1; omega), (by have h9 := jz_m1; omega), ⟨rfl, rfl, rfl, rfl⟩⟩⟩ hP hS dX12_learn_47
set_option maxHeartbeats 4000000 in
set_option maxRecDepth 100000 in
theorem c_X12_feed (l : Launch) (D : va_G) (cI cL : ClassId) (ad zz : Nat → Nat) (hJ : jD ad) (σ : Nat → Nat → Int32) (τ : Nat → Nat → Int64) (a1 : Int32) (A1 : Int) (t1 : a1.toInt = A1) (a2 : Int32) (A2 : Int) (t2 : a2.toInt = A2) (hI105 : jI105 σ) : jM l yX12_feed cX12_feed 4 (some .int) ({ frames := 1, cells := 0, slots := 0, locals := 25 }) D cI cL ad zz [.ref (ad 55), .int a1, .int a2] σ τ (fun r σ' τ' => τ = τ' ∧ (∀ i : Nat, (i < 55 ∨ 55 < i) ∧ (i < 63 ∨ 63 < i) → σ' i = σ i) ∧ (∀ k : Nat, (k < 15 ∨ 15 < k) → σ' 55 k = σ 55 k) ∧ (jI105 σ') ∧ ((r = (-1) ∧ ((A1 < 1) ∨ (4 < A1)) ∧ ((σ' 55 15).toInt = (σ 55 15).toInt) ∧ (σ' 63 = σ 63)) ∨ (r = (-3) ∧ (1 ≤ A1 ∧ A1 ≤ 4) ∧ (80 < (σ 55 15).toInt + A1) ∧ ((σ' 55 15).toInt = (σ 55 15).toInt) ∧ (σ' 63 = σ 63)) ∨ (True ∧ (1 ≤ A1 ∧ A1 ≤ 4) ∧ ((σ 55 15).toInt + A1 ≤ 80) ∧ (r.toInt = (σ 55 15).toInt + A1) ∧ ((σ' 55 15).toInt = (σ 55 15).toInt + A1) ∧ (jFd jBr (σ 63) (σ' 63) ((σ 55 15).toInt) (A1) a2)))) := by
  refine jM.of hJ (by decide +kernel) (nt := .int) rfl (Nat.le_of_ble_eq_true rfl) ?_
  intro p e s m args below meth c Q ls hC hret hl hP
  obtain ⟨hx, hb, hr, hml, hown, hts, hK, -, hlocks, hZ⟩ := hC
  have hown : s.vm.findClass RX12 = some m.cls := hown
  have hS : va_S (jA ad) s.heap s.heap [] := va_S.rf
  have hA : ∀ q, jA ad q → jA ad q := fun _ h => h
  have hl : lv_has ls 4 [(0, .ref (ad 55)), (1, .int a1), (2, .int a2)] := hl
  have g1 := jrg t1
  have g2 := jrg t2
  obtain ⟨i1, w2⟩ : (0 ≤ (σ 55 15).toInt ∧ (σ 55 15).toInt ≤ 80) ∧ (∀ k : Nat, k < 2 → (-1) ≤ (σ 65 k).toInt ∧ (σ 65 k).toInt ≤ 80) := id hI105
  refine lv_iload_n hx hb dX12_feed_0 rfl (lv_at hl 1 rfl) ?_
  refine lv_i2l (v := a1.toInt64) hx hb dX12_feed_1 rfl ?_
  refine lv_lconst (v := 1) hx hb dX12_feed_2 (of_decide_eq_true rfl) ?_
  refine lv_ldc2 (v := 4) hx hb hown (hts _ kw_13_5) dX12_feed_3 ?_
  refine jcallS (As := [.long a1.toInt64, .long 1, .long 4]) (rest := []) ⟨hx, hb, hml, hown, hts⟩ hK hP hA hS hZ (c_X12_within l D cI cL ad zz hJ σ τ a1.toInt64 (A1) (jtoL t1) 1 (1) jzl_1 4 (4) jzl_4) cw_RX12_136 ⟨Nat.le_of_ble_eq_true rfl, Nat.le_of_ble_eq_true rfl⟩ rfl rfl rfl hl.1 rfl (Nat.le_of_ble_eq_true rfl) dX12_feed_6 ⟨Nat.zero_le _, Nat.zero_le _⟩ (fun r4 σ3 τ3 H locs h3 hP hS => ?_)
  obtain ⟨⟨rfl, rfl⟩, h3⟩ := h3
  rcases h3 with h5 | h6
  · obtain ⟨q8, k7⟩ := h5
    have q8 := q8.symm
    subst q8
    refine lv_if_ne (tgt := 14) hx hb dX12_feed_9 (of_decide_eq_true rfl) (fun _ => ?_) (fun c => absurd c (of_decide_eq_true rfl))
    refine lv_aload_n hx hb dX12_feed_14 rfl (lv_at hl 0 rfl) ?_
    refine va_get (D := D) hx hb hts inlX12 hown hK hP 55 (jc_55 cI cL ad σ τ) rfl 15 (of_decide_eq_true rfl) (hts _ kw_13_6) (fun _ h9 => h9) rfl dX12_feed_15 ?_
    refine lv_iload_n hx hb dX12_feed_18 rfl (lv_at hl 1 rfl) ?_
    have g9 := jrg (rfl : (σ 55 15).toInt = (σ 55 15).toInt)
    refine lv_iadd hx hb dX12_feed_19 ?_
    refine lv_topi (fun x10 ex10 => ?_)
    exact by
     have tx10 : x10.toInt = (σ 55 15).toInt + A1 := (jadd ex10 rfl t1 (by omega) (by omega)).trans (by omega)
     refine lv_bipush (v := 80) hx hb dX12_feed_20 (of_decide_eq_true rfl) ?_
     refine lv_icmp_le (tgt := 28) hx hb dX12_feed_22 (of_decide_eq_true rfl) (fun c11 => ?_) (fun c11 => ?_)
     · have kc11 := jle c11 tx10 jz_80
       refine lv_iconst (v := 0) hx hb dX12_feed_28 (of_decide_eq_true rfl) ?_
       refine lv_istore_n (lv' := [(3, .int 0), (0, .ref (ad 55)), (1, .int a1), (2, .int a2)]) hx hb dX12_feed_29 rfl hl (of_decide_eq_true rfl) rfl (fun ls hl => ?_)
       have lp12 : ∀ (n13 : Nat) (x14 : Int32) (σ15 : Nat → Nat → Int32) (H : Heap) (locs : List Loc) (ls : Array Slot), (A1 - x14.toInt : Int) < n13 → 0 ≤ x14.toInt → x14.toInt ≤ 4 → x14.toInt ≤ A1 → (σ15 55 15).toInt = (σ 55 15).toInt + x14.toInt → (∀ i : Nat, (i < 55 ∨ 55 < i) ∧ (i < 63 ∨ 63 < i) → σ15 i = σ i) → (∀ k : Nat, (k < 15 ∨ 15 < k) → σ15 55 k = σ 55 k) → jI105 σ15 → (jFd jBr (σ 63) (σ15 63) ((σ 55 15).toInt) (x14.toInt) a2) → jH D cI cL ad σ15 τ H → va_S (jA ad) s.heap H locs → lv_has ls 4 [(3, .int x14), (0, .ref (ad 55)), (1, .int a1), (2, .int a2)] → W p l e ({ frames := 1, cells := 0, slots := 0, locals := 25 }) s m args below meth c H locs 0 0 Q (F0 m 30 ls []) := by
         intro n13
         induction n13 with
         | zero => intro x14 σ15 H locs ls h17 h18 h19 h20 h21; exact absurd h17 (by omega)
         | succ n13 ihlp12 =>
           intro x14 σ15 H locs ls h17 h18 h19 h20 h21 f22 f23 p24 q25 hP hS hl
           exact by
            obtain ⟨i26, w27⟩ : (0 ≤ (σ15 55 15).toInt ∧ (σ15 55 15).toInt ≤ 80) ∧ (∀ k : Nat, k < 2 → (-1) ≤ (σ15 65 k).toInt ∧ (σ15 65 k).toInt ≤ 80) := id p24
            refine lv_iload_n hx hb dX12_feed_30 rfl (lv_at hl 0 rfl) ?_
            refine lv_iload_n hx hb dX12_feed_31 rfl (lv_at hl 2 rfl) ?_
            refine lv_icmp_ge (tgt := 70) hx hb dX12_feed_32 (of_decide_eq_true rfl) (fun c28 => ?_) (fun c28 => ?_)
            · have kc28 := jle c28 t1 rfl
              refine lv_aload_n hx hb dX12_feed_70 rfl (lv_at hl 1 rfl) ?_
              refine va_get (D := D) hx hb hts inlX12 hown hK hP 55 (jc_55 cI cL ad σ15 τ) rfl 15 (of_decide_eq_true rfl) (hts _ kw_13_6) (fun _ h9 => h9) rfl dX12_feed_71 ?_
              exact by exact hret (σ15 55 15) σ15 τ _ _ _ _ rfl ⟨rfl, (fun i hi => (f22 i hi)), (fun i hi => (f23 i hi)), p24, Or.inr (Or.inr (⟨trivial, (by omega), (by omega), (by omega), (by omega), (by rw [show A1 = x14.toInt by omega]; exact q25)⟩))⟩ hP hS dX12_feed_74
            · have kc28 := jnle c28 t1 rfl
              refine lv_aload_n hx hb dX12_feed_35 rfl (lv_at hl 1 rfl) ?_
              refine va_get (D := D) hx hb hts inlX12 hown hK hP 55 (jc_55 cI cL ad σ15 τ) rfl 14 (of_decide_eq_true rfl) (hts _ kw_7_9) (fun _ h9 => h9) rfl dX12_feed_36 ?_
              refine lv_aload_n hx hb dX12_feed_39 rfl (lv_at hl 1 rfl) ?_
              refine va_get (D := D) hx hb hts inlX12 hown hK hP 55 (jc_55 cI cL ad σ15 τ) rfl 15 (of_decide_eq_true rfl) (hts _ kw_13_6) (fun _ h9 => h9) rfl dX12_feed_40 ?_
              refine lv_iload_n hx hb dX12_feed_43 rfl (lv_at hl 3 rfl) ?_
              refine lv_bipush (v := 8) hx hb dX12_feed_44 (of_decide_eq_true rfl) ?_
              refine lv_iload_n hx hb dX12_feed_46 rfl (lv_at hl 0 rfl) ?_
              have g29 := jrg (rfl : x14.toInt = x14.toInt)
              refine lv_imul hx hb dX12_feed_47 ?_
              refine lv_topi (fun x30 ex30 => ?_)
              exact by
               have tx30 : x30.toInt = 8 * x14.toInt := (jmul ex30 jz_8 rfl (by omega) (by omega)).trans (by omega)
               refine lv_ishr hx hb dX12_feed_48 ?_
               refine lv_topi (fun x31 ex31 => ?_)
               have gx31 := jrg (rfl : x31.toInt = x31.toInt)
               refine lv_sipush (v := 255) hx hb dX12_feed_49 (of_decide_eq_true rfl) ?_
               refine lv_iand hx hb dX12_feed_52 ?_
               refine lv_topi (fun x32 ex32 => ?_)
               have gx32 := jrg (rfl : x32.toInt = x32.toInt)
               have g33 : 0 ≤ x32.toInt ∧ x32.toInt ≤ 255 := jmask ex32 8 (of_decide_eq_true rfl) (of_decide_eq_true rfl)
               exact by
                refine jast hx hb hK hP hJ hA hS (jc_63 cI cL ad σ15 τ) (ja_63 cI cL ad σ15 τ _ _) (jin rfl (by omega) (by omega)) dX12_feed_53 (fun σ34 H locs eσ34 hP hS => ?_)
                refine lv_aload_n hx hb dX12_feed_54 rfl (lv_at hl 1 rfl) ?_
                refine lv_dup hx hb dX12_feed_55 rfl ?_
                refine va_get (D := D) hx hb hts inlX12 hown hK hP 55 (jc_55 cI cL ad σ34 τ) rfl 15 (of_decide_eq_true rfl) (hts _ kw_13_6) (fun _ h9 => h9) rfl dX12_feed_56 ?_
                have m35 : σ34 55 15 = (σ15 55 15) := (congrFun (jnp 55 eσ34 (of_decide_eq_true rfl)) 15)
                refine jtopr m35 ?_
                refine lv_iconst (v := 1) hx hb dX12_feed_59 (of_decide_eq_true rfl) ?_
                have g36 := jrg (rfl : (σ15 55 15).toInt = (σ15 55 15).toInt)
                refine lv_iadd hx hb dX12_feed_60 ?_
                refine lv_topi (fun x37 ex37 => ?_)
                exact by
                 have tx37 : x37.toInt = (σ15 55 15).toInt + 1 := (jadd ex37 rfl jz_1 (by omega) (by omega)).trans (by omega)
                 refine jput (ty := .int) hx hb hts inlX12 tyX12 tyX12_ok nmX12 hown hK hP hJ hA hS (jc_55 cI cL ad σ34 τ) rfl (k := 15) (of_decide_eq_true rfl) (Nat.le_of_ble_eq_true rfl) (jp_55_15 cI cL ad σ34 τ x37) (hts _ kw_13_6) (fun _ h9 => h9) rfl (by decide +kernel) rfl rfl dX12_feed_61 (fun σ38 H locs eσ38 hP hS => ?_)
                 obtain ⟨x39, ex39⟩ : ∃ y : Int32, y = x14 + 1 := ⟨_, rfl⟩
                 have tx39 : x39.toInt = x14.toInt + 1 := (jadd ex39 rfl jz_1 (by omega) (by omega)).trans (by omega)
                 refine lv_iinc (v := x39) (lv' := [(3, .int x39), (0, .ref (ad 55)), (1, .int a1), (2, .int a2)]) hx hb dX12_feed_64 hl (k := 0) rfl (by rw [ex39]; rfl) (of_decide_eq_true rfl) rfl (fun ls hl => ?_)
                 refine lv_goto (tgt := 30) hx hb dX12_feed_67 (of_decide_eq_true rfl) ?_
                 have z40 : (σ38 55 15).toInt = (σ15 55 15).toInt + 1 := ((congrArg Int32.toInt (show σ38 55 15 = x37 from (jsp eσ38))).trans tx37)
                 have w41 : ∀ k : Nat, k < 2 → (-1) ≤ (σ38 65 k).toInt ∧ (σ38 65 k).toInt ≤ 80 := (jrr_fr (jnp 65 eσ38 (of_decide_eq_true rfl)) (jrr_fr (jnp 65 eσ34 (of_decide_eq_true rfl)) w27))
                 have I42 : jI105 σ38 := ⟨(by omega), w41⟩
                 exact by exact ihlp12 x39 σ38 _ _ ls (by have h90 := tx39; omega) (by have h90 := tx39; omega) (by have h90 := tx39; omega) (by have h90 := tx39; omega) (by have h90 := tx39; omega) (fun i hi => ((jnp i eσ38 (imp_166 i hi)).trans ((jnp i eσ34 (imp_167 i hi)).trans (f22 i hi)))) (fun i hi => ((jkp i eσ38 (imp_168 i hi)).trans ((congrFun (jnp 55 eσ34 (of_decide_eq_true rfl)) i).trans (f23 i hi))))  I42 (jFd.step q25 (by rw [eσ38, jup_n (of_decide_eq_true rfl), eσ34, jup_row, jnc (rfl : (σ15 55 15).toInt = (σ15 55 15).toInt)]) (by omega) (by unfold jBr; rw [ex32, ex31, ex30]) (rfl : x14.toInt = x14.toInt) (by omega) (by omega) (by omega) (by have h9 := tx39; omega)) hP hS (lv_sub hl [0, 1, 2, 3] rfl)
       exact by exact lp12 1000000 0 σ _ _ ls (by have h90 := jz_0; omega) (by have h90 := jz_0; omega) (by have h90 := jz_0; omega) (by have h90 := jz_0; omega) (by have h90 := jz_0; omega) (fun _ _ => rfl) (fun _ _ => rfl)  hI105 (jFd.first (by have h9 := jz_0; omega)) hP hS hl
     · exact by
        have kc11 := jnle c11 tx10 jz_80
        refine lv_bipush (v := (-3)) hx hb dX12_feed_25 (of_decide_eq_true rfl) ?_
        exact by exact hret (-3) σ τ _ _ _ _ rfl ⟨rfl, (fun _ _ => rfl), (fun _ _ => rfl), hI105, Or.inr (Or.inl ⟨rfl, (by have h9 := jz_m3; omega), (by have h9 := jz_m3; omega), (by have h9 := jz_m3; omega), rfl⟩)⟩ hP hS dX12_feed_27
  · obtain ⟨q44, k43⟩ := h6
    have q44 := q44.symm
    subst q44
    refine lv_if_ne (tgt := 14) hx hb dX12_feed_9 (of_decide_eq_true rfl) (fun c => absurd (of_decide_eq_true rfl) c) (fun _ => ?_)
    refine lv_iconst (v := (-1)) hx hb dX12_feed_12 (of_decide_eq_true rfl) ?_
    exact by exact hret (-1) σ τ _ _ _ _ rfl ⟨rfl, (fun _ _ => rfl), (fun _ _ => rfl), hI105, Or.inl ⟨rfl, (by have h9 := jz_m1; omega), (by have h9 := jz_m1; omega), rfl⟩⟩ hP hS dX12_feed_13
set_option maxHeartbeats 4000000 in
set_option maxRecDepth 100000 in
theorem c_X12_byteAt (l : Launch) (D : va_G) (cI cL : ClassId) (ad zz : Nat → Nat) (hJ : jD ad) (σ : Nat → Nat → Int32) (τ : Nat → Nat → Int64) (hI121 : jI121 σ) : jM l yX12_byteAt cX12_byteAt 1 (some .int) ({ frames := 0, cells := 0, slots := 0, locals := 0 }) D cI cL ad zz [.ref (ad 55)] σ τ (fun r σ' τ' => (σ = σ' ∧ τ = τ') ∧ ((True ∧ ((r.toInt = 0) ∨ ((σ 55 19).toInt < (σ 55 20).toInt))))) := by
  refine jM.of hJ (by decide +kernel) (nt := .int) rfl (Nat.le_of_ble_eq_true rfl) ?_
  intro p e s m args below meth c Q ls hC hret hl hP
  obtain ⟨hx, hb, hr, hml, hown, hts, hK, -, hlocks, hZ⟩ := hC
  have hown : s.vm.findClass RX12 = some m.cls := hown
  have hS : va_S (jA ad) s.heap s.heap [] := va_S.rf
  have hA : ∀ q, jA ad q → jA ad q := fun _ h => h
  have hl : lv_has ls 1 [(0, .ref (ad 55))] := hl
  obtain ⟨i1, i2, i3, i4, i5⟩ : ((-1) ≤ (σ 55 18).toInt ∧ (σ 55 18).toInt ≤ 80) ∧ (0 ≤ (σ 55 19).toInt) ∧ ((σ 55 19).toInt ≤ (σ 55 20).toInt) ∧ ((σ 55 20).toInt ≤ 80) ∧ ((-1) ≤ (σ 55 21).toInt) := id hI121
  refine lv_aload_n hx hb dX12_byteAt_0 rfl (lv_at hl 0 rfl) ?_
  refine va_get (D := D) hx hb hts inlX12 hown hK hP 55 (jc_55 cI cL ad σ τ) rfl 19 (of_decide_eq_true rfl) (hts _ kw_15_11) (fun _ h9 => h9) rfl dX12_byteAt_1 ?_
  refine lv_aload_n hx hb dX12_byteAt_4 rfl (lv_at hl 0 rfl) ?_
  refine va_get (D := D) hx hb hts inlX12 hown hK hP 55 (jc_55 cI cL ad σ τ) rfl 20 (of_decide_eq_true rfl) (hts _ kw_15_12) (fun _ h9 => h9) rfl dX12_byteAt_5 ?_
  refine lv_icmp_ge (tgt := 47) hx hb dX12_byteAt_8 (of_decide_eq_true rfl) (fun c6 => ?_) (fun c6 => ?_)
  · have kc6 := jle c6 rfl rfl
    refine lv_iconst (v := 0) hx hb dX12_byteAt_47 (of_decide_eq_true rfl) ?_
    exact hret 0 σ τ _ _ _ _ rfl ⟨⟨rfl, rfl⟩, ⟨trivial, (by have h9 := jz_0; omega)⟩⟩ hP hS dX12_byteAt_48
  · have kc6 := jnle c6 rfl rfl
    refine lv_aload_n hx hb dX12_byteAt_11 rfl (lv_at hl 0 rfl) ?_
    refine va_get (D := D) hx hb hts inlX12 hown hK hP 55 (jc_55 cI cL ad σ τ) rfl 18 (of_decide_eq_true rfl) (hts _ kw_15_10) (fun _ h9 => h9) rfl dX12_byteAt_12 ?_
    refine lv_if_ge (tgt := 30) hx hb dX12_byteAt_15 (of_decide_eq_true rfl) (fun c7 => ?_) (fun c7 => ?_)
    · have kc7 := jle c7 jz_0 rfl
      refine lv_aload_n hx hb dX12_byteAt_30 rfl (lv_at hl 0 rfl) ?_
      refine va_get (D := D) hx hb hts inlX12 hown hK hP 55 (jc_55 cI cL ad σ τ) rfl 16 (of_decide_eq_true rfl) (hts _ kw_7_10) (fun _ h9 => h9) rfl dX12_byteAt_31 ?_
      refine lv_aload_n hx hb dX12_byteAt_34 rfl (lv_at hl 0 rfl) ?_
      refine va_get (D := D) hx hb hts inlX12 hown hK hP 55 (jc_55 cI cL ad σ τ) rfl 18 (of_decide_eq_true rfl) (hts _ kw_15_10) (fun _ h9 => h9) rfl dX12_byteAt_35 ?_
      refine lv_aload_n hx hb dX12_byteAt_38 rfl (lv_at hl 0 rfl) ?_
      refine va_get (D := D) hx hb hts inlX12 hown hK hP 55 (jc_55 cI cL ad σ τ) rfl 19 (of_decide_eq_true rfl) (hts _ kw_15_11) (fun _ h9 => h9) rfl dX12_byteAt_39 ?_
      have g8 := jrg (rfl : (σ 55 18).toInt = (σ 55 18).toInt)
      have g9 := jrg (rfl : (σ 55 19).toInt = (σ 55 19).toInt)
      refine lv_iadd hx hb dX12_byteAt_42 ?_
      refine lv_topi (fun x10 ex10 => ?_)
      exact by
       have tx10 : x10.toInt = (σ 55 18).toInt + (σ 55 19).toInt := (jadd ex10 rfl rfl (by omega) (by omega)).trans (by omega)
       refine jald hx hb hK hP (jc_64 cI cL ad σ τ) (jin tx10 (by omega) (by omega)) dX12_byteAt_43 ?_
       refine lv_topi (fun x11 ex11 => ?_)
       refine lv_goto (tgt := 48) hx hb dX12_byteAt_44 (of_decide_eq_true rfl) ?_
       exact hret x11 σ τ _ _ _ _ rfl ⟨⟨rfl, rfl⟩, ⟨trivial, (by omega)⟩⟩ hP hS dX12_byteAt_48
    · have kc7 := jnle c7 jz_0 rfl
      refine lv_aload_n hx hb dX12_byteAt_18 rfl (lv_at hl 0 rfl) ?_
      refine va_get (D := D) hx hb hts inlX12 hown hK hP 55 (jc_55 cI cL ad σ τ) rfl 14 (of_decide_eq_true rfl) (hts _ kw_7_9) (fun _ h9 => h9) rfl dX12_byteAt_19 ?_
      refine lv_aload_n hx hb dX12_byteAt_22 rfl (lv_at hl 0 rfl) ?_
      exact by
       refine va_get (D := D) hx hb hts inlX12 hown hK hP 55 (jc_55 cI cL ad σ τ) rfl 19 (of_decide_eq_true rfl) (hts _ kw_15_11) (fun _ h9 => h9) rfl dX12_byteAt_23 ?_
       refine jald hx hb hK hP (jc_63 cI cL ad σ τ) (jin rfl (by omega) (by omega)) dX12_byteAt_26 ?_
       refine lv_topi (fun x12 ex12 => ?_)
       refine lv_goto (tgt := 48) hx hb dX12_byteAt_27 (of_decide_eq_true rfl) ?_
       exact hret x12 σ τ _ _ _ _ rfl ⟨⟨rfl, rfl⟩, ⟨trivial, (by omega)⟩⟩ hP hS dX12_byteAt_48
set_option maxHeartbeats 4000000 in
set_option maxRecDepth 100000 in
theorem c_X12_byteAt_t (l : Launch) (D : va_G) (cI cL : ClassId) (ad zz : Nat → Nat) (hJ : jD ad) (σ : Nat → Nat → Int32) (τ : Nat → Nat → Int64) (hI121 : jI121 σ) (hp0 : (σ 55 18).toInt = (-1)) : jM l yX12_byteAt cX12_byteAt 1 (some .int) ({ frames := 0, cells := 0, slots := 0, locals := 0 }) D cI cL ad zz [.ref (ad 55)] σ τ (fun r σ' τ' => (σ = σ' ∧ τ = τ') ∧ ((r = (σ 63 (σ 55 19).toNatClampNeg) ∧ ((σ 55 19).toInt < (σ 55 20).toInt)) ∨ (r = 0 ∧ ((σ 55 20).toInt ≤ (σ 55 19).toInt)))) := by
  refine jM.of hJ (by decide +kernel) (nt := .int) rfl (Nat.le_of_ble_eq_true rfl) ?_
  intro p e s m args below meth c Q ls hC hret hl hP
  obtain ⟨hx, hb, hr, hml, hown, hts, hK, -, hlocks, hZ⟩ := hC
  have hown : s.vm.findClass RX12 = some m.cls := hown
  have hS : va_S (jA ad) s.heap s.heap [] := va_S.rf
  have hA : ∀ q, jA ad q → jA ad q := fun _ h => h
  have hl : lv_has ls 1 [(0, .ref (ad 55))] := hl
  obtain ⟨i1, i2, i3, i4, i5⟩ : ((-1) ≤ (σ 55 18).toInt ∧ (σ 55 18).toInt ≤ 80) ∧ (0 ≤ (σ 55 19).toInt) ∧ ((σ 55 19).toInt ≤ (σ 55 20).toInt) ∧ ((σ 55 20).toInt ≤ 80) ∧ ((-1) ≤ (σ 55 21).toInt) := id hI121
  refine lv_aload_n hx hb dX12_byteAt_0 rfl (lv_at hl 0 rfl) ?_
  refine va_get (D := D) hx hb hts inlX12 hown hK hP 55 (jc_55 cI cL ad σ τ) rfl 19 (of_decide_eq_true rfl) (hts _ kw_15_11) (fun _ h9 => h9) rfl dX12_byteAt_1 ?_
  refine lv_aload_n hx hb dX12_byteAt_4 rfl (lv_at hl 0 rfl) ?_
  refine va_get (D := D) hx hb hts inlX12 hown hK hP 55 (jc_55 cI cL ad σ τ) rfl 20 (of_decide_eq_true rfl) (hts _ kw_15_12) (fun _ h9 => h9) rfl dX12_byteAt_5 ?_
  refine lv_icmp_ge (tgt := 47) hx hb dX12_byteAt_8 (of_decide_eq_true rfl) (fun c6 => ?_) (fun c6 => ?_)
  · have kc6 := jle c6 rfl rfl
    refine lv_iconst (v := 0) hx hb dX12_byteAt_47 (of_decide_eq_true rfl) ?_
    exact hret 0 σ τ _ _ _ _ rfl ⟨⟨rfl, rfl⟩, Or.inr (⟨rfl, (by have h9 := jz_0; omega)⟩)⟩ hP hS dX12_byteAt_48
  · have kc6 := jnle c6 rfl rfl
    refine lv_aload_n hx hb dX12_byteAt_11 rfl (lv_at hl 0 rfl) ?_
    refine va_get (D := D) hx hb hts inlX12 hown hK hP 55 (jc_55 cI cL ad σ τ) rfl 18 (of_decide_eq_true rfl) (hts _ kw_15_10) (fun _ h9 => h9) rfl dX12_byteAt_12 ?_
    exact by
     refine lv_if_ge (tgt := 30) hx hb dX12_byteAt_15 (of_decide_eq_true rfl) (fun c => absurd (jle c jz_0 rfl) (by omega)) (fun c7 => ?_)
     have kc7 := jnle c7 jz_0 rfl
     refine lv_aload_n hx hb dX12_byteAt_18 rfl (lv_at hl 0 rfl) ?_
     refine va_get (D := D) hx hb hts inlX12 hown hK hP 55 (jc_55 cI cL ad σ τ) rfl 14 (of_decide_eq_true rfl) (hts _ kw_7_9) (fun _ h9 => h9) rfl dX12_byteAt_19 ?_
     refine lv_aload_n hx hb dX12_byteAt_22 rfl (lv_at hl 0 rfl) ?_
     refine va_get (D := D) hx hb hts inlX12 hown hK hP 55 (jc_55 cI cL ad σ τ) rfl 19 (of_decide_eq_true rfl) (hts _ kw_15_11) (fun _ h9 => h9) rfl dX12_byteAt_23 ?_
     refine jald hx hb hK hP (jc_63 cI cL ad σ τ) (jin rfl (by omega) (by omega)) dX12_byteAt_26 ?_
     refine jtopr (y := (σ 63 (σ 55 19).toNatClampNeg)) rfl ?_
     refine lv_goto (tgt := 48) hx hb dX12_byteAt_27 (of_decide_eq_true rfl) ?_
     exact hret (σ 63 (σ 55 19).toNatClampNeg) σ τ _ _ _ _ rfl ⟨⟨rfl, rfl⟩, Or.inl ⟨rfl, (by omega)⟩⟩ hP hS dX12_byteAt_48
set_option maxHeartbeats 4000000 in
set_option maxRecDepth 100000 in
theorem c_X12_wrong (l : Launch) (D : va_G) (cI cL : ClassId) (ad zz : Nat → Nat) (hJ : jD ad) (σ : Nat → Nat → Int32) (τ : Nat → Nat → Int64) (hI121 : jI121 σ) : jM l yX12_wrong cX12_wrong 1 (some .int) ({ frames := 0, cells := 0, slots := 0, locals := 0 }) D cI cL ad zz [.ref (ad 55)] σ τ (fun r σ' τ' => τ = τ' ∧ (∀ i : Nat, (i < 55 ∨ 55 < i) → σ' i = σ i) ∧ (∀ k : Nat, (k < 21 ∨ 21 < k) → σ' 55 k = σ 55 k) ∧ (jI121 σ') ∧ (0 ≤ (σ' 55 21).toInt) ∧ (((σ 55 21).toInt = (-1) ∧ (σ' 55 21).toInt = (σ 55 19).toInt) ∨ (0 ≤ (σ 55 21).toInt ∧ (σ' 55 21).toInt = (σ 55 21).toInt)) ∧ ((r = 0 ∧ True))) := by
  refine jM.of hJ (by decide +kernel) (nt := .int) rfl (Nat.le_of_ble_eq_true rfl) ?_
  intro p e s m args below meth c Q ls hC hret hl hP
  obtain ⟨hx, hb, hr, hml, hown, hts, hK, -, hlocks, hZ⟩ := hC
  have hown : s.vm.findClass RX12 = some m.cls := hown
  have hS : va_S (jA ad) s.heap s.heap [] := va_S.rf
  have hA : ∀ q, jA ad q → jA ad q := fun _ h => h
  have hl : lv_has ls 1 [(0, .ref (ad 55))] := hl
  obtain ⟨i1, i2, i3, i4, i5⟩ : ((-1) ≤ (σ 55 18).toInt ∧ (σ 55 18).toInt ≤ 80) ∧ (0 ≤ (σ 55 19).toInt) ∧ ((σ 55 19).toInt ≤ (σ 55 20).toInt) ∧ ((σ 55 20).toInt ≤ 80) ∧ ((-1) ≤ (σ 55 21).toInt) := id hI121
  refine lv_aload_n hx hb dX12_wrong_0 rfl (lv_at hl 0 rfl) ?_
  refine lv_aload_n hx hb dX12_wrong_1 rfl (lv_at hl 0 rfl) ?_
  refine va_get (D := D) hx hb hts inlX12 hown hK hP 55 (jc_55 cI cL ad σ τ) rfl 21 (of_decide_eq_true rfl) (hts _ kw_15_13) (fun _ h9 => h9) rfl dX12_wrong_2 ?_
  refine lv_if_ge (tgt := 15) hx hb dX12_wrong_5 (of_decide_eq_true rfl) (fun c6 => ?_) (fun c6 => ?_)
  · have kc6 := jle c6 jz_0 rfl
    refine lv_aload_n hx hb dX12_wrong_15 rfl (lv_at hl 0 rfl) ?_
    refine va_get (D := D) hx hb hts inlX12 hown hK hP 55 (jc_55 cI cL ad σ τ) rfl 21 (of_decide_eq_true rfl) (hts _ kw_15_13) (fun _ h9 => h9) rfl dX12_wrong_16 ?_
    refine jput (ty := .int) hx hb hts inlX12 tyX12 tyX12_ok nmX12 hown hK hP hJ hA hS (jc_55 cI cL ad σ τ) rfl (k := 21) (of_decide_eq_true rfl) (Nat.le_of_ble_eq_true rfl) (jp_55_21 cI cL ad σ τ (σ 55 21)) (hts _ kw_15_13) (fun _ h9 => h9) rfl (by decide +kernel) rfl rfl dX12_wrong_19 (fun σ7 H locs eσ7 hP hS => ?_)
    refine lv_iconst (v := 0) hx hb dX12_wrong_22 (of_decide_eq_true rfl) ?_
    have z8 : (σ7 55 18).toInt = (σ 55 18).toInt := (congrArg Int32.toInt (show σ7 55 18 = (σ 55 18) from (jkp 18 eσ7 (of_decide_eq_true rfl))))
    have z9 : (σ7 55 19).toInt = (σ 55 19).toInt := (congrArg Int32.toInt (show σ7 55 19 = (σ 55 19) from (jkp 19 eσ7 (of_decide_eq_true rfl))))
    have z10 : (σ7 55 20).toInt = (σ 55 20).toInt := (congrArg Int32.toInt (show σ7 55 20 = (σ 55 20) from (jkp 20 eσ7 (of_decide_eq_true rfl))))
    have z11 : (σ7 55 21).toInt = (σ 55 21).toInt := (congrArg Int32.toInt (show σ7 55 21 = (σ 55 21) from (jsp eσ7)))
    exact by
     have I12 : jI121 σ7 := ⟨(by omega), (by omega), (by omega), (by omega), (by omega)⟩
     exact by exact hret 0 σ7 τ _ _ _ _ rfl ⟨rfl, (fun i hi => (jnp i eσ7 (imp_165 i hi))), (fun i hi => (jkp i eσ7 (imp_33 i hi))), I12, (by omega), (by omega), ⟨rfl, trivial⟩⟩ hP hS dX12_wrong_23
  · have kc6 := jnle c6 jz_0 rfl
    refine lv_aload_n hx hb dX12_wrong_8 rfl (lv_at hl 0 rfl) ?_
    refine va_get (D := D) hx hb hts inlX12 hown hK hP 55 (jc_55 cI cL ad σ τ) rfl 19 (of_decide_eq_true rfl) (hts _ kw_15_11) (fun _ h9 => h9) rfl dX12_wrong_9 ?_
    refine lv_goto (tgt := 19) hx hb dX12_wrong_12 (of_decide_eq_true rfl) ?_
    refine jput (ty := .int) hx hb hts inlX12 tyX12 tyX12_ok nmX12 hown hK hP hJ hA hS (jc_55 cI cL ad σ τ) rfl (k := 21) (of_decide_eq_true rfl) (Nat.le_of_ble_eq_true rfl) (jp_55_21 cI cL ad σ τ (σ 55 19)) (hts _ kw_15_13) (fun _ h9 => h9) rfl (by decide +kernel) rfl rfl dX12_wrong_19 (fun σ13 H locs eσ13 hP hS => ?_)
    refine lv_iconst (v := 0) hx hb dX12_wrong_22 (of_decide_eq_true rfl) ?_
    have z14 : (σ13 55 18).toInt = (σ 55 18).toInt := (congrArg Int32.toInt (show σ13 55 18 = (σ 55 18) from (jkp 18 eσ13 (of_decide_eq_true rfl))))
    have z15 : (σ13 55 19).toInt = (σ 55 19).toInt := (congrArg Int32.toInt (show σ13 55 19 = (σ 55 19) from (jkp 19 eσ13 (of_decide_eq_true rfl))))
    have z16 : (σ13 55 20).toInt = (σ 55 20).toInt := (congrArg Int32.toInt (show σ13 55 20 = (σ 55 20) from (jkp 20 eσ13 (of_decide_eq_true rfl))))
    have z17 : (σ13 55 21).toInt = (σ 55 19).toInt := (congrArg Int32.toInt (show σ13 55 21 = (σ 55 19) from (jsp eσ13)))
    exact by
     have I18 : jI121 σ13 := ⟨(by omega), (by omega), (by omega), (by omega), (by omega)⟩
     exact by exact hret 0 σ13 τ _ _ _ _ rfl ⟨rfl, (fun i hi => (jnp i eσ13 (imp_165 i hi))), (fun i hi => (jkp i eσ13 (imp_33 i hi))), I18, (by omega), (by omega), ⟨rfl, trivial⟩⟩ hP hS dX12_wrong_23
set_option maxHeartbeats 4000000 in
set_option maxRecDepth 100000 in
theorem c_X12_takes (l : Launch) (D : va_G) (cI cL : ClassId) (ad zz : Nat → Nat) (hJ : jD ad) (σ : Nat → Nat → Int32) (τ : Nat → Nat → Int64) (a1 : Int32) (A1 : Int) (t1 : a1.toInt = A1) (hI121 : jI121 σ) (hp0 : 1 ≤ A1) : jM l yX12_takes cX12_takes 2 (some .boolean) ({ frames := 1, cells := 0, slots := 0, locals := 20 }) D cI cL ad zz [.ref (ad 55), .int a1] σ τ (fun r σ' τ' => τ = τ' ∧ (∀ i : Nat, (i < 55 ∨ 55 < i) → σ' i = σ i) ∧ (∀ k : Nat, (k < 19 ∨ 19 < k) → σ' 55 k = σ 55 k) ∧ (jI121 σ') ∧ ((r = 1 ∧ ((σ 55 21).toInt = (-1)) ∧ ((σ' 55 19).toInt = (σ 55 19).toInt + 1)) ∨ (r = 0 ∧ ((σ' 55 19).toInt = (σ 55 19).toInt)))) := by
  refine jM.of hJ (by decide +kernel) (nt := .boolean) rfl (Nat.le_of_ble_eq_true rfl) ?_
  intro p e s m args below meth c Q ls hC hret hl hP
  obtain ⟨hx, hb, hr, hml, hown, hts, hK, -, hlocks, hZ⟩ := hC
  have hown : s.vm.findClass RX12 = some m.cls := hown
  have hS : va_S (jA ad) s.heap s.heap [] := va_S.rf
  have hA : ∀ q, jA ad q → jA ad q := fun _ h => h
  have hl : lv_has ls 2 [(0, .ref (ad 55)), (1, .int a1)] := hl
  have g1 := jrg t1
  obtain ⟨i1, i2, i3, i4, i5⟩ : ((-1) ≤ (σ 55 18).toInt ∧ (σ 55 18).toInt ≤ 80) ∧ (0 ≤ (σ 55 19).toInt) ∧ ((σ 55 19).toInt ≤ (σ 55 20).toInt) ∧ ((σ 55 20).toInt ≤ 80) ∧ ((-1) ≤ (σ 55 21).toInt) := id hI121
  refine lv_aload_n hx hb dX12_takes_0 rfl (lv_at hl 0 rfl) ?_
  refine va_get (D := D) hx hb hts inlX12 hown hK hP 55 (jc_55 cI cL ad σ τ) rfl 21 (of_decide_eq_true rfl) (hts _ kw_15_13) (fun _ h9 => h9) rfl dX12_takes_1 ?_
  refine lv_if_ge (tgt := 15) hx hb dX12_takes_4 (of_decide_eq_true rfl) (fun c6 => ?_) (fun c6 => ?_)
  · have kc6 := jle c6 jz_0 rfl
    refine lv_iconst (v := 0) hx hb dX12_takes_15 (of_decide_eq_true rfl) ?_
    exact hret 0 σ τ _ _ _ _ rfl ⟨rfl, (fun _ _ => rfl), (fun _ _ => rfl), hI121, Or.inr (⟨rfl, (by have h9 := jz_0; omega)⟩)⟩ hP hS dX12_takes_16
  · have kc6 := jnle c6 jz_0 rfl
    refine lv_aload_n hx hb dX12_takes_7 rfl (lv_at hl 0 rfl) ?_
    refine jcallV (As := []) (rest := []) ⟨hx, hb, hml, hown, hts⟩ hK hP hA hS hZ (c_X12_byteAt l D cI cL ad zz hJ σ τ hI121) cw_RX12_189 (jc_55 cI cL ad σ τ) rfl ⟨Nat.le_of_ble_eq_true rfl, Nat.le_of_ble_eq_true rfl⟩ rfl rfl rfl hl.1 rfl (Nat.le_of_ble_eq_true rfl) dX12_takes_8 ⟨Nat.zero_le _, Nat.zero_le _⟩ (fun r8 σ7 τ7 H locs h7 hP hS => ?_)
    obtain ⟨⟨rfl, rfl⟩, h7⟩ := h7
    have h9 := h7
    obtain ⟨q11, k10⟩ := h9
    refine lv_iload_n hx hb dX12_takes_11 rfl (lv_at hl 1 rfl) ?_
    refine lv_icmp_eq (tgt := 17) hx hb dX12_takes_12 (of_decide_eq_true rfl) (fun c12 => ?_) (fun c12 => ?_)
    · have kc12 := jeq c12 rfl t1
      refine lv_aload_n hx hb dX12_takes_17 rfl (lv_at hl 0 rfl) ?_
      refine lv_dup hx hb dX12_takes_18 rfl ?_
      refine va_get (D := D) hx hb hts inlX12 hown hK hP 55 (jc_55 cI cL ad σ τ) rfl 19 (of_decide_eq_true rfl) (hts _ kw_15_11) (fun _ h9 => h9) rfl dX12_takes_19 ?_
      refine lv_iconst (v := 1) hx hb dX12_takes_22 (of_decide_eq_true rfl) ?_
      have g13 := jrg (rfl : (σ 55 19).toInt = (σ 55 19).toInt)
      refine lv_iadd hx hb dX12_takes_23 ?_
      refine lv_topi (fun x14 ex14 => ?_)
      exact by
       have tx14 : x14.toInt = (σ 55 19).toInt + 1 := (jadd ex14 rfl jz_1 (by omega) (by omega)).trans (by omega)
       refine jput (ty := .int) hx hb hts inlX12 tyX12 tyX12_ok nmX12 hown hK hP hJ hA hS (jc_55 cI cL ad σ τ) rfl (k := 19) (of_decide_eq_true rfl) (Nat.le_of_ble_eq_true rfl) (jp_55_19 cI cL ad σ τ x14) (hts _ kw_15_11) (fun _ h9 => h9) rfl (by decide +kernel) rfl rfl dX12_takes_24 (fun σ15 H locs eσ15 hP hS => ?_)
       refine lv_iconst (v := 1) hx hb dX12_takes_27 (of_decide_eq_true rfl) ?_
       have z16 : (σ15 55 18).toInt = (σ 55 18).toInt := (congrArg Int32.toInt (show σ15 55 18 = (σ 55 18) from (jkp 18 eσ15 (of_decide_eq_true rfl))))
       have z17 : (σ15 55 19).toInt = (σ 55 19).toInt + 1 := ((congrArg Int32.toInt (show σ15 55 19 = x14 from (jsp eσ15))).trans tx14)
       have z18 : (σ15 55 20).toInt = (σ 55 20).toInt := (congrArg Int32.toInt (show σ15 55 20 = (σ 55 20) from (jkp 20 eσ15 (of_decide_eq_true rfl))))
       have z19 : (σ15 55 21).toInt = (σ 55 21).toInt := (congrArg Int32.toInt (show σ15 55 21 = (σ 55 21) from (jkp 21 eσ15 (of_decide_eq_true rfl))))
       have I20 : jI121 σ15 := ⟨(by omega), (by omega), (by omega), (by omega), (by omega)⟩
       exact by exact hret 1 σ15 τ _ _ _ _ rfl ⟨rfl, (fun i hi => (jnp i eσ15 (imp_165 i hi))), (fun i hi => (jkp i eσ15 (imp_169 i hi))), I20, Or.inl ⟨rfl, (by have h9 := jz_1; omega), (by have h9 := jz_1; omega)⟩⟩ hP hS dX12_takes_28
    · exact by
       have kc12 := jne c12 rfl t1
       refine lv_iconst (v := 0) hx hb dX12_takes_15 (of_decide_eq_true rfl) ?_
       exact hret 0 σ τ _ _ _ _ rfl ⟨rfl, (fun _ _ => rfl), (fun _ _ => rfl), hI121, Or.inr (⟨rfl, (by have h9 := jz_0; omega)⟩)⟩ hP hS dX12_takes_16
set_option maxHeartbeats 4000000 in
set_option maxRecDepth 100000 in
theorem c_X12_takes_t (l : Launch) (D : va_G) (cI cL : ClassId) (ad zz : Nat → Nat) (hJ : jD ad) (σ : Nat → Nat → Int32) (τ : Nat → Nat → Int64) (a1 : Int32) (A1 : Int) (t1 : a1.toInt = A1) (hI121 : jI121 σ) (hp0 : 1 ≤ A1) (hp1 : (σ 55 18).toInt = (-1)) : jM l yX12_takes cX12_takes 2 (some .boolean) ({ frames := 1, cells := 0, slots := 0, locals := 20 }) D cI cL ad zz [.ref (ad 55), .int a1] σ τ (fun r σ' τ' => τ = τ' ∧ (∀ i : Nat, (i < 55 ∨ 55 < i) → σ' i = σ i) ∧ (∀ k : Nat, (k < 19 ∨ 19 < k) → σ' 55 k = σ 55 k) ∧ (jI121 σ') ∧ ((r = 1 ∧ ((σ 55 21).toInt = (-1)) ∧ ((σ' 55 19).toInt = (σ 55 19).toInt + 1) ∧ (jIs (σ 63) ((σ 55 20).toInt) ((σ 55 19).toInt) (A1))) ∨ (r = 0 ∧ ((σ' 55 19).toInt = (σ 55 19).toInt) ∧ (((σ 55 21).toInt = -1 → ¬ jIs (σ 63) ((σ 55 20).toInt) ((σ 55 19).toInt) (A1)))))) := by
  refine jM.of hJ (by decide +kernel) (nt := .boolean) rfl (Nat.le_of_ble_eq_true rfl) ?_
  intro p e s m args below meth c Q ls hC hret hl hP
  obtain ⟨hx, hb, hr, hml, hown, hts, hK, -, hlocks, hZ⟩ := hC
  have hown : s.vm.findClass RX12 = some m.cls := hown
  have hS : va_S (jA ad) s.heap s.heap [] := va_S.rf
  have hA : ∀ q, jA ad q → jA ad q := fun _ h => h
  have hl : lv_has ls 2 [(0, .ref (ad 55)), (1, .int a1)] := hl
  have g1 := jrg t1
  obtain ⟨i1, i2, i3, i4, i5⟩ : ((-1) ≤ (σ 55 18).toInt ∧ (σ 55 18).toInt ≤ 80) ∧ (0 ≤ (σ 55 19).toInt) ∧ ((σ 55 19).toInt ≤ (σ 55 20).toInt) ∧ ((σ 55 20).toInt ≤ 80) ∧ ((-1) ≤ (σ 55 21).toInt) := id hI121
  refine lv_aload_n hx hb dX12_takes_0 rfl (lv_at hl 0 rfl) ?_
  refine va_get (D := D) hx hb hts inlX12 hown hK hP 55 (jc_55 cI cL ad σ τ) rfl 21 (of_decide_eq_true rfl) (hts _ kw_15_13) (fun _ h9 => h9) rfl dX12_takes_1 ?_
  refine lv_if_ge (tgt := 15) hx hb dX12_takes_4 (of_decide_eq_true rfl) (fun c6 => ?_) (fun c6 => ?_)
  · have kc6 := jle c6 jz_0 rfl
    refine lv_iconst (v := 0) hx hb dX12_takes_15 (of_decide_eq_true rfl) ?_
    exact hret 0 σ τ _ _ _ _ rfl ⟨rfl, (fun _ _ => rfl), (fun _ _ => rfl), hI121, Or.inr (⟨rfl, (by have h9 := jz_0; omega), (fun h => by unfold jIs; omega)⟩)⟩ hP hS dX12_takes_16
  · have kc6 := jnle c6 jz_0 rfl
    refine lv_aload_n hx hb dX12_takes_7 rfl (lv_at hl 0 rfl) ?_
    exact by
     refine jcallV (As := []) (rest := []) ⟨hx, hb, hml, hown, hts⟩ hK hP hA hS hZ (c_X12_byteAt_t l D cI cL ad zz hJ σ τ hI121 (by omega)) cw_RX12_189 (jc_55 cI cL ad σ τ) rfl ⟨Nat.le_of_ble_eq_true rfl, Nat.le_of_ble_eq_true rfl⟩ rfl rfl rfl hl.1 rfl (Nat.le_of_ble_eq_true rfl) dX12_takes_8 ⟨Nat.zero_le _, Nat.zero_le _⟩ (fun r8 σ7 τ7 H locs h7 hP hS => ?_)
     obtain ⟨⟨rfl, rfl⟩, h7⟩ := h7
     rcases h7 with h9 | h10
     · obtain ⟨q12, k11⟩ := h9
       have q13 : r8 = (σ 63 (σ 55 19).toNatClampNeg) := q12.trans rfl
       have q13 := q13.symm
       subst q13
       refine lv_iload_n hx hb dX12_takes_11 rfl (lv_at hl 1 rfl) ?_
       refine lv_icmp_eq (tgt := 17) hx hb dX12_takes_12 (of_decide_eq_true rfl) (fun c14 => ?_) (fun c14 => ?_)
       · have kc14 := jeq c14 rfl t1
         refine lv_aload_n hx hb dX12_takes_17 rfl (lv_at hl 0 rfl) ?_
         refine lv_dup hx hb dX12_takes_18 rfl ?_
         refine va_get (D := D) hx hb hts inlX12 hown hK hP 55 (jc_55 cI cL ad σ τ) rfl 19 (of_decide_eq_true rfl) (hts _ kw_15_11) (fun _ h9 => h9) rfl dX12_takes_19 ?_
         refine lv_iconst (v := 1) hx hb dX12_takes_22 (of_decide_eq_true rfl) ?_
         have g15 := jrg (rfl : (σ 55 19).toInt = (σ 55 19).toInt)
         refine lv_iadd hx hb dX12_takes_23 ?_
         refine lv_topi (fun x16 ex16 => ?_)
         exact by
          have tx16 : x16.toInt = (σ 55 19).toInt + 1 := (jadd ex16 rfl jz_1 (by omega) (by omega)).trans (by omega)
          refine jput (ty := .int) hx hb hts inlX12 tyX12 tyX12_ok nmX12 hown hK hP hJ hA hS (jc_55 cI cL ad σ τ) rfl (k := 19) (of_decide_eq_true rfl) (Nat.le_of_ble_eq_true rfl) (jp_55_19 cI cL ad σ τ x16) (hts _ kw_15_11) (fun _ h9 => h9) rfl (by decide +kernel) rfl rfl dX12_takes_24 (fun σ17 H locs eσ17 hP hS => ?_)
          refine lv_iconst (v := 1) hx hb dX12_takes_27 (of_decide_eq_true rfl) ?_
          have z18 : (σ17 55 18).toInt = (σ 55 18).toInt := (congrArg Int32.toInt (show σ17 55 18 = (σ 55 18) from (jkp 18 eσ17 (of_decide_eq_true rfl))))
          have z19 : (σ17 55 19).toInt = (σ 55 19).toInt + 1 := ((congrArg Int32.toInt (show σ17 55 19 = x16 from (jsp eσ17))).trans tx16)
          have z20 : (σ17 55 20).toInt = (σ 55 20).toInt := (congrArg Int32.toInt (show σ17 55 20 = (σ 55 20) from (jkp 20 eσ17 (of_decide_eq_true rfl))))
          have z21 : (σ17 55 21).toInt = (σ 55 21).toInt := (congrArg Int32.toInt (show σ17 55 21 = (σ 55 21) from (jkp 21 eσ17 (of_decide_eq_true rfl))))
          have I22 : jI121 σ17 := ⟨(by omega), (by omega), (by omega), (by omega), (by omega)⟩
          exact by exact hret 1 σ17 τ _ _ _ _ rfl ⟨rfl, (fun i hi => (jnp i eσ17 (imp_165 i hi))), (fun i hi => (jkp i eσ17 (imp_169 i hi))), I22, Or.inl ⟨rfl, (by have h9 := jz_1; omega), (by have h9 := jz_1; omega), (by have i0 := jix (f := σ 63) (show (σ 55 19).toInt = (σ 55 19).toInt by omega); unfold jIs; omega)⟩⟩ hP hS dX12_takes_28
       · exact by
          have kc14 := jne c14 rfl t1
          refine lv_iconst (v := 0) hx hb dX12_takes_15 (of_decide_eq_true rfl) ?_
          exact hret 0 σ τ _ _ _ _ rfl ⟨rfl, (fun _ _ => rfl), (fun _ _ => rfl), hI121, Or.inr (⟨rfl, (by have h9 := jz_0; omega), (fun h => by have i0 := jix (f := σ 63) (show (σ 55 19).toInt = (σ 55 19).toInt by omega); unfold jIs; omega)⟩)⟩ hP hS dX12_takes_16
     · obtain ⟨q24, k23⟩ := h10
       have q24 := q24.symm
       subst q24
       refine lv_iload_n hx hb dX12_takes_11 rfl (lv_at hl 1 rfl) ?_
       refine lv_icmp_eq (tgt := 17) hx hb dX12_takes_12 (of_decide_eq_true rfl) (fun c => absurd (jeq c jz_0 t1) (by omega)) (fun c25 => ?_)
       have kc25 := jne c25 jz_0 t1
       exact by
        refine lv_iconst (v := 0) hx hb dX12_takes_15 (of_decide_eq_true rfl) ?_
        exact hret 0 σ τ _ _ _ _ rfl ⟨rfl, (fun _ _ => rfl), (fun _ _ => rfl), hI121, Or.inr (⟨rfl, (by have h9 := jz_0; omega), (fun h => by unfold jIs; omega)⟩)⟩ hP hS dX12_takes_16
set_option maxHeartbeats 4000000 in
set_option maxRecDepth 100000 in
theorem c_X12_nameOf (l : Launch) (D : va_G) (cI cL : ClassId) (ad zz : Nat → Nat) (hJ : jD ad) (σ : Nat → Nat → Int32) (τ : Nat → Nat → Int64) (a1 : Int32) (A1 : Int) (t1 : a1.toInt = A1) : jM l yX12_nameOf cX12_nameOf 1 (some .int) ({ frames := 0, cells := 0, slots := 0, locals := 0 }) D cI cL ad zz [.int a1] σ τ (fun r σ' τ' => (σ = σ' ∧ τ = τ') ∧ ((True ∧ (0 ≤ r.toInt ∧ r.toInt ≤ 7) ∧ (1 ≤ A1)) ∨ (r = (-1) ∧ True))) := by
  refine jM.of hJ (by decide +kernel) (nt := .int) rfl (Nat.le_of_ble_eq_true rfl) ?_
  intro p e s m args below meth c Q ls hC hret hl hP
  obtain ⟨hx, hb, hr, hml, hown, hts, hK, -, hlocks, hZ⟩ := hC
  have hown : s.vm.findClass RX12 = some m.cls := hown
  have hS : va_S (jA ad) s.heap s.heap [] := va_S.rf
  have hA : ∀ q, jA ad q → jA ad q := fun _ h => h
  have hl : lv_has ls 1 [(0, .int a1)] := hl
  have g1 := jrg t1
  refine lv_iload_n hx hb dX12_nameOf_0 rfl (lv_at hl 0 rfl) ?_
  by_cases c1 : a1 = 98
  · have kc1 := jeq c1 t1 jz_98
    refine jtopr c1 ?_
    refine lv_tableIn (off := 109) (tgt := 110) hx hb dX12_nameOf_1 (of_decide_eq_true rfl) (of_decide_eq_true rfl) (of_decide_eq_true rfl) (of_decide_eq_true rfl) ?_
    refine lv_iconst (v := 3) hx hb dX12_nameOf_110 (of_decide_eq_true rfl) ?_
    exact by exact hret 3 σ τ _ _ _ _ rfl ⟨⟨rfl, rfl⟩, Or.inl ⟨trivial, (by have h9 := jz_3; omega), (by have h9 := jz_3; omega)⟩⟩ hP hS dX12_nameOf_111
  have kc1 := jne c1 t1 jz_98
  by_cases c2 : a1 = 99
  · have kc2 := jeq c2 t1 jz_99
    refine jtopr c2 ?_
    refine lv_tableIn (off := 121) (tgt := 122) hx hb dX12_nameOf_1 (of_decide_eq_true rfl) (of_decide_eq_true rfl) (of_decide_eq_true rfl) (of_decide_eq_true rfl) ?_
    refine lv_iconst (v := (-1)) hx hb dX12_nameOf_122 (of_decide_eq_true rfl) ?_
    exact hret (-1) σ τ _ _ _ _ rfl ⟨⟨rfl, rfl⟩, Or.inr (⟨rfl, trivial⟩)⟩ hP hS dX12_nameOf_123
  have kc2 := jne c2 t1 jz_99
  by_cases c3 : a1 = 100
  · have kc3 := jeq c3 t1 jz_100
    refine jtopr c3 ?_
    refine lv_tableIn (off := 121) (tgt := 122) hx hb dX12_nameOf_1 (of_decide_eq_true rfl) (of_decide_eq_true rfl) (of_decide_eq_true rfl) (of_decide_eq_true rfl) ?_
    refine lv_iconst (v := (-1)) hx hb dX12_nameOf_122 (of_decide_eq_true rfl) ?_
    exact hret (-1) σ τ _ _ _ _ rfl ⟨⟨rfl, rfl⟩, Or.inr (⟨rfl, trivial⟩)⟩ hP hS dX12_nameOf_123
  have kc3 := jne c3 t1 jz_100
  by_cases c4 : a1 = 101
  · have kc4 := jeq c4 t1 jz_101
    refine jtopr c4 ?_
    refine lv_tableIn (off := 121) (tgt := 122) hx hb dX12_nameOf_1 (of_decide_eq_true rfl) (of_decide_eq_true rfl) (of_decide_eq_true rfl) (of_decide_eq_true rfl) ?_
    refine lv_iconst (v := (-1)) hx hb dX12_nameOf_122 (of_decide_eq_true rfl) ?_
    exact hret (-1) σ τ _ _ _ _ rfl ⟨⟨rfl, rfl⟩, Or.inr (⟨rfl, trivial⟩)⟩ hP hS dX12_nameOf_123
  have kc4 := jne c4 t1 jz_101
  by_cases c5 : a1 = 102
  · have kc5 := jeq c5 t1 jz_102
    refine jtopr c5 ?_
    refine lv_tableIn (off := 121) (tgt := 122) hx hb dX12_nameOf_1 (of_decide_eq_true rfl) (of_decide_eq_true rfl) (of_decide_eq_true rfl) (of_decide_eq_true rfl) ?_
    refine lv_iconst (v := (-1)) hx hb dX12_nameOf_122 (of_decide_eq_true rfl) ?_
    exact hret (-1) σ τ _ _ _ _ rfl ⟨⟨rfl, rfl⟩, Or.inr (⟨rfl, trivial⟩)⟩ hP hS dX12_nameOf_123
  have kc5 := jne c5 t1 jz_102
  by_cases c6 : a1 = 103
  · have kc6 := jeq c6 t1 jz_103
    refine jtopr c6 ?_
    refine lv_tableIn (off := 121) (tgt := 122) hx hb dX12_nameOf_1 (of_decide_eq_true rfl) (of_decide_eq_true rfl) (of_decide_eq_true rfl) (of_decide_eq_true rfl) ?_
    refine lv_iconst (v := (-1)) hx hb dX12_nameOf_122 (of_decide_eq_true rfl) ?_
    exact hret (-1) σ τ _ _ _ _ rfl ⟨⟨rfl, rfl⟩, Or.inr (⟨rfl, trivial⟩)⟩ hP hS dX12_nameOf_123
  have kc6 := jne c6 t1 jz_103
  by_cases c7 : a1 = 104
  · have kc7 := jeq c7 t1 jz_104
    refine jtopr c7 ?_
    refine lv_tableIn (off := 121) (tgt := 122) hx hb dX12_nameOf_1 (of_decide_eq_true rfl) (of_decide_eq_true rfl) (of_decide_eq_true rfl) (of_decide_eq_true rfl) ?_
    refine lv_iconst (v := (-1)) hx hb dX12_nameOf_122 (of_decide_eq_true rfl) ?_
    exact hret (-1) σ τ _ _ _ _ rfl ⟨⟨rfl, rfl⟩, Or.inr (⟨rfl, trivial⟩)⟩ hP hS dX12_nameOf_123
  have kc7 := jne c7 t1 jz_104
  by_cases c8 : a1 = 105
  · have kc8 := jeq c8 t1 jz_105
    refine jtopr c8 ?_
    refine lv_tableIn (off := 121) (tgt := 122) hx hb dX12_nameOf_1 (of_decide_eq_true rfl) (of_decide_eq_true rfl) (of_decide_eq_true rfl) (of_decide_eq_true rfl) ?_
    refine lv_iconst (v := (-1)) hx hb dX12_nameOf_122 (of_decide_eq_true rfl) ?_
    exact hret (-1) σ τ _ _ _ _ rfl ⟨⟨rfl, rfl⟩, Or.inr (⟨rfl, trivial⟩)⟩ hP hS dX12_nameOf_123
  have kc8 := jne c8 t1 jz_105
  by_cases c9 : a1 = 106
  · have kc9 := jeq c9 t1 jz_106
    refine jtopr c9 ?_
    refine lv_tableIn (off := 121) (tgt := 122) hx hb dX12_nameOf_1 (of_decide_eq_true rfl) (of_decide_eq_true rfl) (of_decide_eq_true rfl) (of_decide_eq_true rfl) ?_
    refine lv_iconst (v := (-1)) hx hb dX12_nameOf_122 (of_decide_eq_true rfl) ?_
    exact hret (-1) σ τ _ _ _ _ rfl ⟨⟨rfl, rfl⟩, Or.inr (⟨rfl, trivial⟩)⟩ hP hS dX12_nameOf_123
  have kc9 := jne c9 t1 jz_106
  by_cases c10 : a1 = 107
  · have kc10 := jeq c10 t1 jz_107
    refine jtopr c10 ?_
    refine lv_tableIn (off := 118) (tgt := 119) hx hb dX12_nameOf_1 (of_decide_eq_true rfl) (of_decide_eq_true rfl) (of_decide_eq_true rfl) (of_decide_eq_true rfl) ?_
    refine lv_bipush (v := 7) hx hb dX12_nameOf_119 (of_decide_eq_true rfl) ?_
    exact by exact hret 7 σ τ _ _ _ _ rfl ⟨⟨rfl, rfl⟩, Or.inl ⟨trivial, (by have h9 := jz_7; omega), (by have h9 := jz_7; omega)⟩⟩ hP hS dX12_nameOf_121
  have kc10 := jne c10 t1 jz_107
  by_cases c11 : a1 = 108
  · have kc11 := jeq c11 t1 jz_108
    refine jtopr c11 ?_
    refine lv_tableIn (off := 113) (tgt := 114) hx hb dX12_nameOf_1 (of_decide_eq_true rfl) (of_decide_eq_true rfl) (of_decide_eq_true rfl) (of_decide_eq_true rfl) ?_
    refine lv_iconst (v := 5) hx hb dX12_nameOf_114 (of_decide_eq_true rfl) ?_
    exact by exact hret 5 σ τ _ _ _ _ rfl ⟨⟨rfl, rfl⟩, Or.inl ⟨trivial, (by have h9 := jz_5; omega), (by have h9 := jz_5; omega)⟩⟩ hP hS dX12_nameOf_115
  have kc11 := jne c11 t1 jz_108
  by_cases c12 : a1 = 109
  · have kc12 := jeq c12 t1 jz_109
    refine jtopr c12 ?_
    refine lv_tableIn (off := 121) (tgt := 122) hx hb dX12_nameOf_1 (of_decide_eq_true rfl) (of_decide_eq_true rfl) (of_decide_eq_true rfl) (of_decide_eq_true rfl) ?_
    refine lv_iconst (v := (-1)) hx hb dX12_nameOf_122 (of_decide_eq_true rfl) ?_
    exact hret (-1) σ τ _ _ _ _ rfl ⟨⟨rfl, rfl⟩, Or.inr (⟨rfl, trivial⟩)⟩ hP hS dX12_nameOf_123
  have kc12 := jne c12 t1 jz_109
  by_cases c13 : a1 = 110
  · have kc13 := jeq c13 t1 jz_110
    refine jtopr c13 ?_
    refine lv_tableIn (off := 121) (tgt := 122) hx hb dX12_nameOf_1 (of_decide_eq_true rfl) (of_decide_eq_true rfl) (of_decide_eq_true rfl) (of_decide_eq_true rfl) ?_
    refine lv_iconst (v := (-1)) hx hb dX12_nameOf_122 (of_decide_eq_true rfl) ?_
    exact hret (-1) σ τ _ _ _ _ rfl ⟨⟨rfl, rfl⟩, Or.inr (⟨rfl, trivial⟩)⟩ hP hS dX12_nameOf_123
  have kc13 := jne c13 t1 jz_110
  by_cases c14 : a1 = 111
  · have kc14 := jeq c14 t1 jz_111
    refine jtopr c14 ?_
    refine lv_tableIn (off := 103) (tgt := 104) hx hb dX12_nameOf_1 (of_decide_eq_true rfl) (of_decide_eq_true rfl) (of_decide_eq_true rfl) (of_decide_eq_true rfl) ?_
    refine lv_iconst (v := 0) hx hb dX12_nameOf_104 (of_decide_eq_true rfl) ?_
    exact by exact hret 0 σ τ _ _ _ _ rfl ⟨⟨rfl, rfl⟩, Or.inl ⟨trivial, (by have h9 := jz_0; omega), (by have h9 := jz_0; omega)⟩⟩ hP hS dX12_nameOf_105
  have kc14 := jne c14 t1 jz_111
  by_cases c15 : a1 = 112
  · have kc15 := jeq c15 t1 jz_112
    refine jtopr c15 ?_
    refine lv_tableIn (off := 115) (tgt := 116) hx hb dX12_nameOf_1 (of_decide_eq_true rfl) (of_decide_eq_true rfl) (of_decide_eq_true rfl) (of_decide_eq_true rfl) ?_
    refine lv_bipush (v := 6) hx hb dX12_nameOf_116 (of_decide_eq_true rfl) ?_
    exact by exact hret 6 σ τ _ _ _ _ rfl ⟨⟨rfl, rfl⟩, Or.inl ⟨trivial, (by have h9 := jz_6; omega), (by have h9 := jz_6; omega)⟩⟩ hP hS dX12_nameOf_118
  have kc15 := jne c15 t1 jz_112
  by_cases c16 : a1 = 113
  · have kc16 := jeq c16 t1 jz_113
    refine jtopr c16 ?_
    refine lv_tableIn (off := 121) (tgt := 122) hx hb dX12_nameOf_1 (of_decide_eq_true rfl) (of_decide_eq_true rfl) (of_decide_eq_true rfl) (of_decide_eq_true rfl) ?_
    refine lv_iconst (v := (-1)) hx hb dX12_nameOf_122 (of_decide_eq_true rfl) ?_
    exact hret (-1) σ τ _ _ _ _ rfl ⟨⟨rfl, rfl⟩, Or.inr (⟨rfl, trivial⟩)⟩ hP hS dX12_nameOf_123
  have kc16 := jne c16 t1 jz_113
  by_cases c17 : a1 = 114
  · have kc17 := jeq c17 t1 jz_114
    refine jtopr c17 ?_
    refine lv_tableIn (off := 121) (tgt := 122) hx hb dX12_nameOf_1 (of_decide_eq_true rfl) (of_decide_eq_true rfl) (of_decide_eq_true rfl) (of_decide_eq_true rfl) ?_
    refine lv_iconst (v := (-1)) hx hb dX12_nameOf_122 (of_decide_eq_true rfl) ?_
    exact hret (-1) σ τ _ _ _ _ rfl ⟨⟨rfl, rfl⟩, Or.inr (⟨rfl, trivial⟩)⟩ hP hS dX12_nameOf_123
  have kc17 := jne c17 t1 jz_114
  by_cases c18 : a1 = 115
  · have kc18 := jeq c18 t1 jz_115
    refine jtopr c18 ?_
    refine lv_tableIn (off := 107) (tgt := 108) hx hb dX12_nameOf_1 (of_decide_eq_true rfl) (of_decide_eq_true rfl) (of_decide_eq_true rfl) (of_decide_eq_true rfl) ?_
    refine lv_iconst (v := 2) hx hb dX12_nameOf_108 (of_decide_eq_true rfl) ?_
    exact by exact hret 2 σ τ _ _ _ _ rfl ⟨⟨rfl, rfl⟩, Or.inl ⟨trivial, (by have h9 := jz_2; omega), (by have h9 := jz_2; omega)⟩⟩ hP hS dX12_nameOf_109
  have kc18 := jne c18 t1 jz_115
  by_cases c19 : a1 = 116
  · have kc19 := jeq c19 t1 jz_116
    refine jtopr c19 ?_
    refine lv_tableIn (off := 111) (tgt := 112) hx hb dX12_nameOf_1 (of_decide_eq_true rfl) (of_decide_eq_true rfl) (of_decide_eq_true rfl) (of_decide_eq_true rfl) ?_
    refine lv_iconst (v := 4) hx hb dX12_nameOf_112 (of_decide_eq_true rfl) ?_
    exact by exact hret 4 σ τ _ _ _ _ rfl ⟨⟨rfl, rfl⟩, Or.inl ⟨trivial, (by have h9 := jz_4; omega), (by have h9 := jz_4; omega)⟩⟩ hP hS dX12_nameOf_113
  have kc19 := jne c19 t1 jz_116
  by_cases c20 : a1 = 117
  · have kc20 := jeq c20 t1 jz_117
    refine jtopr c20 ?_
    refine lv_tableIn (off := 121) (tgt := 122) hx hb dX12_nameOf_1 (of_decide_eq_true rfl) (of_decide_eq_true rfl) (of_decide_eq_true rfl) (of_decide_eq_true rfl) ?_
    refine lv_iconst (v := (-1)) hx hb dX12_nameOf_122 (of_decide_eq_true rfl) ?_
    exact hret (-1) σ τ _ _ _ _ rfl ⟨⟨rfl, rfl⟩, Or.inr (⟨rfl, trivial⟩)⟩ hP hS dX12_nameOf_123
  have kc20 := jne c20 t1 jz_117
  by_cases c21 : a1 = 118
  · have kc21 := jeq c21 t1 jz_118
    refine jtopr c21 ?_
    refine lv_tableIn (off := 121) (tgt := 122) hx hb dX12_nameOf_1 (of_decide_eq_true rfl) (of_decide_eq_true rfl) (of_decide_eq_true rfl) (of_decide_eq_true rfl) ?_
    refine lv_iconst (v := (-1)) hx hb dX12_nameOf_122 (of_decide_eq_true rfl) ?_
    exact hret (-1) σ τ _ _ _ _ rfl ⟨⟨rfl, rfl⟩, Or.inr (⟨rfl, trivial⟩)⟩ hP hS dX12_nameOf_123
  have kc21 := jne c21 t1 jz_118
  by_cases c22 : a1 = 119
  · have kc22 := jeq c22 t1 jz_119
    refine jtopr c22 ?_
    refine lv_tableIn (off := 105) (tgt := 106) hx hb dX12_nameOf_1 (of_decide_eq_true rfl) (of_decide_eq_true rfl) (of_decide_eq_true rfl) (of_decide_eq_true rfl) ?_
    refine lv_iconst (v := 1) hx hb dX12_nameOf_106 (of_decide_eq_true rfl) ?_
    exact by exact hret 1 σ τ _ _ _ _ rfl ⟨⟨rfl, rfl⟩, Or.inl ⟨trivial, (by have h9 := jz_1; omega), (by have h9 := jz_1; omega)⟩⟩ hP hS dX12_nameOf_107
  have kc22 := jne c22 t1 jz_119
  exact by
   refine lv_tableOut (tgt := 122) hx hb dX12_nameOf_1 (by rw [t1]; omega) (of_decide_eq_true rfl) ?_
   refine lv_iconst (v := (-1)) hx hb dX12_nameOf_122 (of_decide_eq_true rfl) ?_
   exact hret (-1) σ τ _ _ _ _ rfl ⟨⟨rfl, rfl⟩, Or.inr (⟨rfl, trivial⟩)⟩ hP hS dX12_nameOf_123
set_option maxHeartbeats 4000000 in
set_option maxRecDepth 100000 in
theorem c_X12_grammar_one_g (l : Launch) (D : va_G) (cI cL : ClassId) (ad zz : Nat → Nat) (hJ : jD ad) (n : Nat) (h_one : ∀ (σ : Nat → Nat → Int32) (τ : Nat → Nat → Int64) (hI121 : jI121 σ) (hp0 : (σ 55 21).toInt = (-1)) (hp1 : 0 ≤ (σ 55 22).toInt ∧ (σ 55 22).toInt ≤ 6) (hp2 : -(σ 55 22).toInt + 6 ≤ (((n) : Nat) : Int)), jM l yX12_one cX12_one 5 (some .int) ({ frames := (10 + 8 * (n)), cells := 0, slots := 0, locals := (400 + 360 * (n)) }) D cI cL ad zz [.ref (ad 55)] σ τ (fun r σ' τ' => τ = τ' ∧ (∀ i : Nat, (i < 55 ∨ 55 < i) → σ' i = σ i) ∧ (∀ k : Nat, (k < 19 ∨ 19 < k) ∧ (k < 21 ∨ 21 < k) ∧ (k < 22 ∨ 22 < k) → σ' 55 k = σ 55 k) ∧ (jI121 σ') ∧ (((σ' 55 21).toInt = (-1) ∧ (σ' 55 22).toInt = (σ 55 22).toInt) ∨ (0 ≤ (σ' 55 21).toInt)) ∧ ((σ 55 19).toInt ≤ (σ' 55 19).toInt) ∧ True)) (h_either : ∀ (σ : Nat → Nat → Int32) (τ : Nat → Nat → Int64) (hI121 : jI121 σ) (hp0 : (σ 55 21).toInt = (-1)) (hp1 : 0 ≤ (σ 55 22).toInt ∧ (σ 55 22).toInt ≤ 6) (hp2 : -(σ 55 22).toInt + 6 ≤ (((n) : Nat) : Int)), jM l yX12_either cX12_either 3 (some .int) ({ frames := (15 + 8 * (n)), cells := 0, slots := 0, locals := (600 + 360 * (n)) }) D cI cL ad zz [.ref (ad 55)] σ τ (fun r σ' τ' => τ = τ' ∧ (∀ i : Nat, (i < 55 ∨ 55 < i) → σ' i = σ i) ∧ (∀ k : Nat, (k < 19 ∨ 19 < k) ∧ (k < 21 ∨ 21 < k) ∧ (k < 22 ∨ 22 < k) → σ' 55 k = σ 55 k) ∧ (jI121 σ') ∧ (((σ' 55 21).toInt = (-1) ∧ (σ' 55 22).toInt = (σ 55 22).toInt) ∨ (0 ≤ (σ' 55 21).toInt)) ∧ ((σ 55 19).toInt ≤ (σ' 55 19).toInt) ∧ True)) (σ : Nat → Nat → Int32) (τ : Nat → Nat → Int64) (hI121 : jI121 σ) (hp0 : (σ 55 21).toInt = (-1)) (hp1 : 0 ≤ (σ 55 22).toInt ∧ (σ 55 22).toInt ≤ 6) (hp2 : -(σ 55 22).toInt + 6 ≤ (((n + 1) : Nat) : Int)) : jM l yX12_one cX12_one 5 (some .int) ({ frames := (10 + 8 * (n + 1)), cells := 0, slots := 0, locals := (400 + 360 * (n + 1)) }) D cI cL ad zz [.ref (ad 55)] σ τ (fun r σ' τ' => τ = τ' ∧ (∀ i : Nat, (i < 55 ∨ 55 < i) → σ' i = σ i) ∧ (∀ k : Nat, (k < 19 ∨ 19 < k) ∧ (k < 21 ∨ 21 < k) ∧ (k < 22 ∨ 22 < k) → σ' 55 k = σ 55 k) ∧ (jI121 σ') ∧ (((σ' 55 21).toInt = (-1) ∧ (σ' 55 22).toInt = (σ 55 22).toInt) ∨ (0 ≤ (σ' 55 21).toInt)) ∧ ((σ 55 19).toInt ≤ (σ' 55 19).toInt) ∧ True) := by
  refine jM.of hJ (by decide +kernel) (nt := .int) rfl (Nat.le_of_ble_eq_true rfl) ?_
  intro p e s m args below meth c Q ls hC hret hl hP
  obtain ⟨hx, hb, hr, hml, hown, hts, hK, -, hlocks, hZ⟩ := hC
  have hown : s.vm.findClass RX12 = some m.cls := hown
  have hS : va_S (jA ad) s.heap s.heap [] := va_S.rf
  have hA : ∀ q, jA ad q → jA ad q := fun _ h => h
  have hl : lv_has ls 5 [(0, .ref (ad 55))] := hl
  obtain ⟨i1, i2, i3, i4, i5⟩ : ((-1) ≤ (σ 55 18).toInt ∧ (σ 55 18).toInt ≤ 80) ∧ (0 ≤ (σ 55 19).toInt) ∧ ((σ 55 19).toInt ≤ (σ 55 20).toInt) ∧ ((σ 55 20).toInt ≤ 80) ∧ ((-1) ≤ (σ 55 21).toInt) := id hI121
  refine lv_aload_n hx hb dX12_one_0 rfl (lv_at hl 0 rfl) ?_
  refine va_get (D := D) hx hb hts inlX12 hown hK hP 55 (jc_55 cI cL ad σ τ) rfl 21 (of_decide_eq_true rfl) (hts _ kw_15_13) (fun _ h9 => h9) rfl dX12_one_1 ?_
  exact by
   refine lv_if_lt (tgt := 9) hx hb dX12_one_4 (of_decide_eq_true rfl) (fun c6 => ?_) (fun c => absurd (jnlt c rfl jz_0) (by omega))
   have kc6 := jlt c6 rfl jz_0
   refine lv_aload_n hx hb dX12_one_9 rfl (lv_at hl 0 rfl) ?_
   refine jcallV (As := []) (rest := []) ⟨hx, hb, hml, hown, hts⟩ hK hP hA hS hZ (c_X12_byteAt l D cI cL ad zz hJ σ τ hI121) cw_RX12_189 (jc_55 cI cL ad σ τ) rfl ⟨by dsimp only; omega, by dsimp only; omega⟩ rfl rfl rfl hl.1 rfl (Nat.le_of_ble_eq_true rfl) dX12_one_10 ⟨Nat.zero_le _, Nat.zero_le _⟩ (fun r8 σ7 τ7 H locs h7 hP hS => ?_)
   obtain ⟨⟨rfl, rfl⟩, h7⟩ := h7
   have h9 := h7
   obtain ⟨q11, k10⟩ := h9
   refine lv_istore_n (lv' := [(1, .int r8), (0, .ref (ad 55))]) hx hb dX12_one_13 rfl hl (of_decide_eq_true rfl) rfl (fun ls hl => ?_)
   refine lv_iload_n hx hb dX12_one_14 rfl (lv_at hl 0 rfl) ?_
   refine lv_bipush (v := 33) hx hb dX12_one_15 (of_decide_eq_true rfl) ?_
   refine lv_icmp_eq (tgt := 32) hx hb dX12_one_17 (of_decide_eq_true rfl) (fun c12 => ?_) (fun c12 => ?_)
   · have kc12 := jeq c12 rfl jz_33
     refine lv_aload_n hx hb dX12_one_32 rfl (lv_at hl 1 rfl) ?_
     refine va_get (D := D) hx hb hts inlX12 hown hK hP 55 (jc_55 cI cL ad σ τ) rfl 22 (of_decide_eq_true rfl) (hts _ kw_18_21) (fun _ h9 => h9) rfl dX12_one_33 ?_
     refine lv_bipush (v := 6) hx hb dX12_one_36 (of_decide_eq_true rfl) ?_
     refine lv_icmp_ne (tgt := 46) hx hb dX12_one_38 (of_decide_eq_true rfl) (fun c13 => ?_) (fun c13 => ?_)
     · have kc13 := jne c13 rfl jz_6
       refine lv_aload_n hx hb dX12_one_46 rfl (lv_at hl 1 rfl) ?_
       refine lv_dup hx hb dX12_one_47 rfl ?_
       refine va_get (D := D) hx hb hts inlX12 hown hK hP 55 (jc_55 cI cL ad σ τ) rfl 22 (of_decide_eq_true rfl) (hts _ kw_18_21) (fun _ h9 => h9) rfl dX12_one_48 ?_
       refine lv_iconst (v := 1) hx hb dX12_one_51 (of_decide_eq_true rfl) ?_
       have g14 := jrg (rfl : (σ 55 22).toInt = (σ 55 22).toInt)
       refine lv_iadd hx hb dX12_one_52 ?_
       refine lv_topi (fun x15 ex15 => ?_)
       exact by
        have tx15 : x15.toInt = (σ 55 22).toInt + 1 := (jadd ex15 rfl jz_1 (by omega) (by omega)).trans (by omega)
        refine jput (ty := .int) hx hb hts inlX12 tyX12 tyX12_ok nmX12 hown hK hP hJ hA hS (jc_55 cI cL ad σ τ) rfl (k := 22) (of_decide_eq_true rfl) (Nat.le_of_ble_eq_true rfl) (jp_55_22 cI cL ad σ τ x15) (hts _ kw_18_21) (fun _ h9 => h9) rfl (by decide +kernel) rfl rfl dX12_one_53 (fun σ16 H locs eσ16 hP hS => ?_)
        refine lv_aload_n hx hb dX12_one_56 rfl (lv_at hl 1 rfl) ?_
        refine lv_dup hx hb dX12_one_57 rfl ?_
        refine va_get (D := D) hx hb hts inlX12 hown hK hP 55 (jc_55 cI cL ad σ16 τ) rfl 19 (of_decide_eq_true rfl) (hts _ kw_15_11) (fun _ h9 => h9) rfl dX12_one_58 ?_
        have m17 : σ16 55 19 = (σ 55 19) := (jkp 19 eσ16 (of_decide_eq_true rfl))
        refine jtopr m17 ?_
        refine lv_iconst (v := 1) hx hb dX12_one_61 (of_decide_eq_true rfl) ?_
        have g18 := jrg (rfl : (σ 55 19).toInt = (σ 55 19).toInt)
        refine lv_iadd hx hb dX12_one_62 ?_
        refine lv_topi (fun x19 ex19 => ?_)
        exact by
         have tx19 : x19.toInt = (σ 55 19).toInt + 1 := (jadd ex19 rfl jz_1 (by omega) (by omega)).trans (by omega)
         refine jput (ty := .int) hx hb hts inlX12 tyX12 tyX12_ok nmX12 hown hK hP hJ hA hS (jc_55 cI cL ad σ16 τ) rfl (k := 19) (of_decide_eq_true rfl) (Nat.le_of_ble_eq_true rfl) (jp_55_19 cI cL ad σ16 τ x19) (hts _ kw_15_11) (fun _ h9 => h9) rfl (by decide +kernel) rfl rfl dX12_one_63 (fun σ20 H locs eσ20 hP hS => ?_)
         refine lv_iload_n hx hb dX12_one_66 rfl (lv_at hl 0 rfl) ?_
         refine lv_bipush (v := 40) hx hb dX12_one_67 (of_decide_eq_true rfl) ?_
         refine lv_icmp_ne (tgt := 79) hx hb dX12_one_69 (of_decide_eq_true rfl) (fun c21 => ?_) (fun c => absurd (jeq c rfl jz_40) (by omega))
         have kc21 := jne c21 rfl jz_40
         refine lv_aload_n hx hb dX12_one_79 rfl (lv_at hl 1 rfl) ?_
         have z22 : (σ20 55 18).toInt = (σ 55 18).toInt := (congrArg Int32.toInt (show σ20 55 18 = (σ 55 18) from ((jkp 18 eσ20 (of_decide_eq_true rfl)).trans (jkp 18 eσ16 (of_decide_eq_true rfl)))))
         have z23 : (σ20 55 19).toInt = (σ 55 19).toInt + 1 := ((congrArg Int32.toInt (show σ20 55 19 = x19 from (jsp eσ20))).trans tx19)
         exact by
          have z24 : (σ20 55 20).toInt = (σ 55 20).toInt := (congrArg Int32.toInt (show σ20 55 20 = (σ 55 20) from ((jkp 20 eσ20 (of_decide_eq_true rfl)).trans (jkp 20 eσ16 (of_decide_eq_true rfl)))))
          have z25 : (σ20 55 21).toInt = (σ 55 21).toInt := (congrArg Int32.toInt (show σ20 55 21 = (σ 55 21) from ((jkp 21 eσ20 (of_decide_eq_true rfl)).trans (jkp 21 eσ16 (of_decide_eq_true rfl)))))
          have I26 : jI121 σ20 := ⟨(by omega), (by omega), (by omega), (by omega), (by omega)⟩
          have z27 : (σ20 55 22).toInt = (σ 55 22).toInt + 1 := ((congrArg Int32.toInt (show σ20 55 22 = x15 from ((jkp 22 eσ20 (of_decide_eq_true rfl)).trans (jsp eσ16)))).trans tx15)
          refine jcallV (As := []) (rest := []) ⟨hx, hb, hml, hown, hts⟩ hK hP hA hS hZ (h_one σ20 τ I26 (by omega) (by omega) (by omega)) cw_RX12_208 (jc_55 cI cL ad σ20 τ) rfl ⟨by dsimp only; omega, by dsimp only; omega⟩ rfl rfl rfl hl.1 rfl (Nat.le_of_ble_eq_true rfl) dX12_one_80 ⟨Nat.zero_le _, Nat.zero_le _⟩ (fun r29 σ28 τ28 H locs h28 hP hS => ?_)
          obtain ⟨rfl, f30, f31, I32, h28⟩ := h28
          obtain ⟨i34, i35, i36, i37, i38⟩ : ((-1) ≤ (σ28 55 18).toInt ∧ (σ28 55 18).toInt ≤ 80) ∧ (0 ≤ (σ28 55 19).toInt) ∧ ((σ28 55 19).toInt ≤ (σ28 55 20).toInt) ∧ ((σ28 55 20).toInt ≤ 80) ∧ ((-1) ≤ (σ28 55 21).toInt) := id I32
          have z39 : (σ28 55 18).toInt = (σ 55 18).toInt := (congrArg Int32.toInt (show σ28 55 18 = (σ 55 18) from ((f31 18 (of_decide_eq_true rfl)).trans ((jkp 18 eσ20 (of_decide_eq_true rfl)).trans (jkp 18 eσ16 (of_decide_eq_true rfl))))))
          have z40 : (σ28 55 20).toInt = (σ 55 20).toInt := (congrArg Int32.toInt (show σ28 55 20 = (σ 55 20) from ((f31 20 (of_decide_eq_true rfl)).trans ((jkp 20 eσ20 (of_decide_eq_true rfl)).trans (jkp 20 eσ16 (of_decide_eq_true rfl))))))
          exact by
           obtain ⟨k41, k42, h28⟩ := h28
           refine lv_istore_n (lv' := [(2, .int r29), (1, .int r8), (0, .ref (ad 55))]) hx hb dX12_one_83 rfl hl (of_decide_eq_true rfl) rfl (fun ls hl => ?_)
           refine lv_iload_n hx hb dX12_one_84 rfl (lv_at hl 1 rfl) ?_
           refine lv_bipush (v := 40) hx hb dX12_one_85 (of_decide_eq_true rfl) ?_
           refine lv_icmp_ne (tgt := 104) hx hb dX12_one_87 (of_decide_eq_true rfl) (fun c43 => ?_) (fun c => absurd (jeq c rfl jz_40) (by omega))
           have kc43 := jne c43 rfl jz_40
           refine lv_aload_n hx hb dX12_one_104 rfl (lv_at hl 2 rfl) ?_
           refine lv_dup hx hb dX12_one_105 rfl ?_
           refine va_get (D := D) hx hb hts inlX12 hown hK hP 55 (jc_55 cI cL ad σ28 τ) rfl 22 (of_decide_eq_true rfl) (hts _ kw_18_21) (fun _ h9 => h9) rfl dX12_one_106 ?_
           exact by
            refine lv_iconst (v := 1) hx hb dX12_one_109 (of_decide_eq_true rfl) ?_
            have g44 := jrg (rfl : (σ28 55 22).toInt = (σ28 55 22).toInt)
            refine lv_isub hx hb dX12_one_110 ?_
            refine lv_topi (fun x45 ex45 => ?_)
            have gx45 := jrg (rfl : x45.toInt = x45.toInt)
            have g46 := jsubw ex45 rfl jz_1
            refine jput (ty := .int) hx hb hts inlX12 tyX12 tyX12_ok nmX12 hown hK hP hJ hA hS (jc_55 cI cL ad σ28 τ) rfl (k := 22) (of_decide_eq_true rfl) (Nat.le_of_ble_eq_true rfl) (jp_55_22 cI cL ad σ28 τ x45) (hts _ kw_18_21) (fun _ h9 => h9) rfl (by decide +kernel) rfl rfl dX12_one_111 (fun σ47 H locs eσ47 hP hS => ?_)
            refine lv_iload_n hx hb dX12_one_114 rfl (lv_at hl 1 rfl) ?_
            refine lv_bipush (v := 40) hx hb dX12_one_115 (of_decide_eq_true rfl) ?_
            exact by
             refine lv_icmp_ne (tgt := 124) hx hb dX12_one_117 (of_decide_eq_true rfl) (fun c48 => ?_) (fun c => absurd (jeq c rfl jz_40) (by omega))
             have kc48 := jne c48 rfl jz_40
             refine lv_iload_n hx hb dX12_one_124 rfl (lv_at hl 1 rfl) ?_
             refine lv_bipush (v := 45) hx hb dX12_one_125 (of_decide_eq_true rfl) ?_
             refine lv_icmp_ne (tgt := 135) hx hb dX12_one_127 (of_decide_eq_true rfl) (fun c49 => ?_) (fun c => absurd (jeq c rfl jz_45) (by omega))
             have kc49 := jne c49 rfl jz_45
             refine lv_iload_n hx hb dX12_one_135 rfl (lv_at hl 0 rfl) ?_
             refine lv_if_ne (tgt := 143) hx hb dX12_one_136 (of_decide_eq_true rfl) (fun c50 => ?_) (fun c50 => ?_)
             · have kc50 := jne c50 rfl jz_0
               exact by
                refine lv_iconst (v := 0) hx hb dX12_one_143 (of_decide_eq_true rfl) ?_
                have I51 : jI121 σ47 := jI121_fr (jkp 18 eσ47 (of_decide_eq_true rfl)) (jkp 19 eσ47 (of_decide_eq_true rfl)) (jkp 20 eσ47 (of_decide_eq_true rfl)) (jkp 21 eσ47 (of_decide_eq_true rfl)) I32
                have z52 : (σ47 55 21).toInt = (σ28 55 21).toInt := (congrArg Int32.toInt (show σ47 55 21 = (σ28 55 21) from (jkp 21 eσ47 (of_decide_eq_true rfl))))
                have z53 : (σ47 55 22).toInt = x45.toInt := (congrArg Int32.toInt (show σ47 55 22 = x45 from (jsp eσ47)))
                have z54 : (σ47 55 19).toInt = (σ28 55 19).toInt := (congrArg Int32.toInt (show σ47 55 19 = (σ28 55 19) from (jkp 19 eσ47 (of_decide_eq_true rfl))))
                exact by exact hret 0 σ47 τ _ _ _ _ rfl ⟨rfl, (fun i hi => ((jnp i eσ47 (imp_165 i hi)).trans ((f30 i hi).trans ((jnp i eσ20 (imp_165 i hi)).trans (jnp i eσ16 (imp_165 i hi)))))), (fun i hi => ((jkp i eσ47 (imp_170 i hi)).trans ((f31 i hi).trans ((jkp i eσ20 (imp_171 i hi)).trans (jkp i eσ16 (imp_170 i hi)))))), I51, (by omega), (by omega), trivial⟩ hP hS dX12_one_144
             · have kc50 := jeq c50 rfl jz_0
               refine lv_iconst (v := 1) hx hb dX12_one_139 (of_decide_eq_true rfl) ?_
               refine lv_goto (tgt := 144) hx hb dX12_one_140 (of_decide_eq_true rfl) ?_
               have I55 : jI121 σ47 := jI121_fr (jkp 18 eσ47 (of_decide_eq_true rfl)) (jkp 19 eσ47 (of_decide_eq_true rfl)) (jkp 20 eσ47 (of_decide_eq_true rfl)) (jkp 21 eσ47 (of_decide_eq_true rfl)) I32
               have z56 : (σ47 55 21).toInt = (σ28 55 21).toInt := (congrArg Int32.toInt (show σ47 55 21 = (σ28 55 21) from (jkp 21 eσ47 (of_decide_eq_true rfl))))
               have z57 : (σ47 55 22).toInt = x45.toInt := (congrArg Int32.toInt (show σ47 55 22 = x45 from (jsp eσ47)))
               have z58 : (σ47 55 19).toInt = (σ28 55 19).toInt := (congrArg Int32.toInt (show σ47 55 19 = (σ28 55 19) from (jkp 19 eσ47 (of_decide_eq_true rfl))))
               exact by exact hret 1 σ47 τ _ _ _ _ rfl ⟨rfl, (fun i hi => ((jnp i eσ47 (imp_165 i hi)).trans ((f30 i hi).trans ((jnp i eσ20 (imp_165 i hi)).trans (jnp i eσ16 (imp_165 i hi)))))), (fun i hi => ((jkp i eσ47 (imp_170 i hi)).trans ((f31 i hi).trans ((jkp i eσ20 (imp_171 i hi)).trans (jkp i eσ16 (imp_170 i hi)))))), I55, (by omega), (by omega), trivial⟩ hP hS dX12_one_144
     · have kc13 := jeq c13 rfl jz_6
       refine lv_aload_n hx hb dX12_one_41 rfl (lv_at hl 1 rfl) ?_
       refine jcallV (As := []) (rest := []) ⟨hx, hb, hml, hown, hts⟩ hK hP hA hS hZ (c_X12_wrong l D cI cL ad zz hJ σ τ hI121) cw_RX12_214 (jc_55 cI cL ad σ τ) rfl ⟨by dsimp only; omega, by dsimp only; omega⟩ rfl rfl rfl hl.1 rfl (Nat.le_of_ble_eq_true rfl) dX12_one_42 ⟨Nat.zero_le _, Nat.zero_le _⟩ (fun r60 σ59 τ59 H locs h59 hP hS => ?_)
       obtain ⟨rfl, f61, f62, I63, h59⟩ := h59
       obtain ⟨i65, i66, i67, i68, i69⟩ : ((-1) ≤ (σ59 55 18).toInt ∧ (σ59 55 18).toInt ≤ 80) ∧ (0 ≤ (σ59 55 19).toInt) ∧ ((σ59 55 19).toInt ≤ (σ59 55 20).toInt) ∧ ((σ59 55 20).toInt ≤ 80) ∧ ((-1) ≤ (σ59 55 21).toInt) := id I63
       have z70 : (σ59 55 18).toInt = (σ 55 18).toInt := (congrArg Int32.toInt (show σ59 55 18 = (σ 55 18) from (f62 18 (of_decide_eq_true rfl))))
       have z71 : (σ59 55 19).toInt = (σ 55 19).toInt := (congrArg Int32.toInt (show σ59 55 19 = (σ 55 19) from (f62 19 (of_decide_eq_true rfl))))
       have z72 : (σ59 55 20).toInt = (σ 55 20).toInt := (congrArg Int32.toInt (show σ59 55 20 = (σ 55 20) from (f62 20 (of_decide_eq_true rfl))))
       obtain ⟨k73, k74, h59⟩ := h59
       have h75 := h59
       obtain ⟨q77, k76⟩ := h75
       have q77 := q77.symm
       subst q77
       have z78 : (σ59 55 22).toInt = (σ 55 22).toInt := (congrArg Int32.toInt (show σ59 55 22 = (σ 55 22) from (f62 22 (of_decide_eq_true rfl))))
       exact by exact hret 0 σ59 τ _ _ _ _ rfl ⟨rfl, (fun i hi => (f61 i hi)), (fun i hi => (f62 i (imp_172 i hi))), I63, (by omega), (by omega), trivial⟩ hP hS dX12_one_45
   · have kc12 := jne c12 rfl jz_33
     refine lv_iload_n hx hb dX12_one_20 rfl (lv_at hl 0 rfl) ?_
     refine lv_bipush (v := 45) hx hb dX12_one_21 (of_decide_eq_true rfl) ?_
     refine lv_icmp_eq (tgt := 32) hx hb dX12_one_23 (of_decide_eq_true rfl) (fun c79 => ?_) (fun c79 => ?_)
     · have kc79 := jeq c79 rfl jz_45
       refine lv_aload_n hx hb dX12_one_32 rfl (lv_at hl 1 rfl) ?_
       refine va_get (D := D) hx hb hts inlX12 hown hK hP 55 (jc_55 cI cL ad σ τ) rfl 22 (of_decide_eq_true rfl) (hts _ kw_18_21) (fun _ h9 => h9) rfl dX12_one_33 ?_
       refine lv_bipush (v := 6) hx hb dX12_one_36 (of_decide_eq_true rfl) ?_
       refine lv_icmp_ne (tgt := 46) hx hb dX12_one_38 (of_decide_eq_true rfl) (fun c80 => ?_) (fun c80 => ?_)
       · have kc80 := jne c80 rfl jz_6
         refine lv_aload_n hx hb dX12_one_46 rfl (lv_at hl 1 rfl) ?_
         refine lv_dup hx hb dX12_one_47 rfl ?_
         refine va_get (D := D) hx hb hts inlX12 hown hK hP 55 (jc_55 cI cL ad σ τ) rfl 22 (of_decide_eq_true rfl) (hts _ kw_18_21) (fun _ h9 => h9) rfl dX12_one_48 ?_
         refine lv_iconst (v := 1) hx hb dX12_one_51 (of_decide_eq_true rfl) ?_
         have g81 := jrg (rfl : (σ 55 22).toInt = (σ 55 22).toInt)
         refine lv_iadd hx hb dX12_one_52 ?_
         refine lv_topi (fun x82 ex82 => ?_)
         exact by
          have tx82 : x82.toInt = (σ 55 22).toInt + 1 := (jadd ex82 rfl jz_1 (by omega) (by omega)).trans (by omega)
          refine jput (ty := .int) hx hb hts inlX12 tyX12 tyX12_ok nmX12 hown hK hP hJ hA hS (jc_55 cI cL ad σ τ) rfl (k := 22) (of_decide_eq_true rfl) (Nat.le_of_ble_eq_true rfl) (jp_55_22 cI cL ad σ τ x82) (hts _ kw_18_21) (fun _ h9 => h9) rfl (by decide +kernel) rfl rfl dX12_one_53 (fun σ83 H locs eσ83 hP hS => ?_)
          refine lv_aload_n hx hb dX12_one_56 rfl (lv_at hl 1 rfl) ?_
          refine lv_dup hx hb dX12_one_57 rfl ?_
          refine va_get (D := D) hx hb hts inlX12 hown hK hP 55 (jc_55 cI cL ad σ83 τ) rfl 19 (of_decide_eq_true rfl) (hts _ kw_15_11) (fun _ h9 => h9) rfl dX12_one_58 ?_
          have m84 : σ83 55 19 = (σ 55 19) := (jkp 19 eσ83 (of_decide_eq_true rfl))
          refine jtopr m84 ?_
          refine lv_iconst (v := 1) hx hb dX12_one_61 (of_decide_eq_true rfl) ?_
          have g85 := jrg (rfl : (σ 55 19).toInt = (σ 55 19).toInt)
          refine lv_iadd hx hb dX12_one_62 ?_
          refine lv_topi (fun x86 ex86 => ?_)
          exact by
           have tx86 : x86.toInt = (σ 55 19).toInt + 1 := (jadd ex86 rfl jz_1 (by omega) (by omega)).trans (by omega)
           refine jput (ty := .int) hx hb hts inlX12 tyX12 tyX12_ok nmX12 hown hK hP hJ hA hS (jc_55 cI cL ad σ83 τ) rfl (k := 19) (of_decide_eq_true rfl) (Nat.le_of_ble_eq_true rfl) (jp_55_19 cI cL ad σ83 τ x86) (hts _ kw_15_11) (fun _ h9 => h9) rfl (by decide +kernel) rfl rfl dX12_one_63 (fun σ87 H locs eσ87 hP hS => ?_)
           refine lv_iload_n hx hb dX12_one_66 rfl (lv_at hl 0 rfl) ?_
           refine lv_bipush (v := 40) hx hb dX12_one_67 (of_decide_eq_true rfl) ?_
           refine lv_icmp_ne (tgt := 79) hx hb dX12_one_69 (of_decide_eq_true rfl) (fun c88 => ?_) (fun c => absurd (jeq c rfl jz_40) (by omega))
           have kc88 := jne c88 rfl jz_40
           refine lv_aload_n hx hb dX12_one_79 rfl (lv_at hl 1 rfl) ?_
           have z89 : (σ87 55 18).toInt = (σ 55 18).toInt := (congrArg Int32.toInt (show σ87 55 18 = (σ 55 18) from ((jkp 18 eσ87 (of_decide_eq_true rfl)).trans (jkp 18 eσ83 (of_decide_eq_true rfl)))))
           have z90 : (σ87 55 19).toInt = (σ 55 19).toInt + 1 := ((congrArg Int32.toInt (show σ87 55 19 = x86 from (jsp eσ87))).trans tx86)
           exact by
            have z91 : (σ87 55 20).toInt = (σ 55 20).toInt := (congrArg Int32.toInt (show σ87 55 20 = (σ 55 20) from ((jkp 20 eσ87 (of_decide_eq_true rfl)).trans (jkp 20 eσ83 (of_decide_eq_true rfl)))))
            have z92 : (σ87 55 21).toInt = (σ 55 21).toInt := (congrArg Int32.toInt (show σ87 55 21 = (σ 55 21) from ((jkp 21 eσ87 (of_decide_eq_true rfl)).trans (jkp 21 eσ83 (of_decide_eq_true rfl)))))
            have I93 : jI121 σ87 := ⟨(by omega), (by omega), (by omega), (by omega), (by omega)⟩
            have z94 : (σ87 55 22).toInt = (σ 55 22).toInt + 1 := ((congrArg Int32.toInt (show σ87 55 22 = x82 from ((jkp 22 eσ87 (of_decide_eq_true rfl)).trans (jsp eσ83)))).trans tx82)
            refine jcallV (As := []) (rest := []) ⟨hx, hb, hml, hown, hts⟩ hK hP hA hS hZ (h_one σ87 τ I93 (by omega) (by omega) (by omega)) cw_RX12_208 (jc_55 cI cL ad σ87 τ) rfl ⟨by dsimp only; omega, by dsimp only; omega⟩ rfl rfl rfl hl.1 rfl (Nat.le_of_ble_eq_true rfl) dX12_one_80 ⟨Nat.zero_le _, Nat.zero_le _⟩ (fun r96 σ95 τ95 H locs h95 hP hS => ?_)
            obtain ⟨rfl, f97, f98, I99, h95⟩ := h95
            obtain ⟨i101, i102, i103, i104, i105⟩ : ((-1) ≤ (σ95 55 18).toInt ∧ (σ95 55 18).toInt ≤ 80) ∧ (0 ≤ (σ95 55 19).toInt) ∧ ((σ95 55 19).toInt ≤ (σ95 55 20).toInt) ∧ ((σ95 55 20).toInt ≤ 80) ∧ ((-1) ≤ (σ95 55 21).toInt) := id I99
            have z106 : (σ95 55 18).toInt = (σ 55 18).toInt := (congrArg Int32.toInt (show σ95 55 18 = (σ 55 18) from ((f98 18 (of_decide_eq_true rfl)).trans ((jkp 18 eσ87 (of_decide_eq_true rfl)).trans (jkp 18 eσ83 (of_decide_eq_true rfl))))))
            have z107 : (σ95 55 20).toInt = (σ 55 20).toInt := (congrArg Int32.toInt (show σ95 55 20 = (σ 55 20) from ((f98 20 (of_decide_eq_true rfl)).trans ((jkp 20 eσ87 (of_decide_eq_true rfl)).trans (jkp 20 eσ83 (of_decide_eq_true rfl))))))
            exact by
             obtain ⟨k108, k109, h95⟩ := h95
             refine lv_istore_n (lv' := [(2, .int r96), (1, .int r8), (0, .ref (ad 55))]) hx hb dX12_one_83 rfl hl (of_decide_eq_true rfl) rfl (fun ls hl => ?_)
             refine lv_iload_n hx hb dX12_one_84 rfl (lv_at hl 1 rfl) ?_
             refine lv_bipush (v := 40) hx hb dX12_one_85 (of_decide_eq_true rfl) ?_
             refine lv_icmp_ne (tgt := 104) hx hb dX12_one_87 (of_decide_eq_true rfl) (fun c110 => ?_) (fun c => absurd (jeq c rfl jz_40) (by omega))
             have kc110 := jne c110 rfl jz_40
             refine lv_aload_n hx hb dX12_one_104 rfl (lv_at hl 2 rfl) ?_
             refine lv_dup hx hb dX12_one_105 rfl ?_
             refine va_get (D := D) hx hb hts inlX12 hown hK hP 55 (jc_55 cI cL ad σ95 τ) rfl 22 (of_decide_eq_true rfl) (hts _ kw_18_21) (fun _ h9 => h9) rfl dX12_one_106 ?_
             exact by
              refine lv_iconst (v := 1) hx hb dX12_one_109 (of_decide_eq_true rfl) ?_
              have g111 := jrg (rfl : (σ95 55 22).toInt = (σ95 55 22).toInt)
              refine lv_isub hx hb dX12_one_110 ?_
              refine lv_topi (fun x112 ex112 => ?_)
              have gx112 := jrg (rfl : x112.toInt = x112.toInt)
              have g113 := jsubw ex112 rfl jz_1
              refine jput (ty := .int) hx hb hts inlX12 tyX12 tyX12_ok nmX12 hown hK hP hJ hA hS (jc_55 cI cL ad σ95 τ) rfl (k := 22) (of_decide_eq_true rfl) (Nat.le_of_ble_eq_true rfl) (jp_55_22 cI cL ad σ95 τ x112) (hts _ kw_18_21) (fun _ h9 => h9) rfl (by decide +kernel) rfl rfl dX12_one_111 (fun σ114 H locs eσ114 hP hS => ?_)
              refine lv_iload_n hx hb dX12_one_114 rfl (lv_at hl 1 rfl) ?_
              refine lv_bipush (v := 40) hx hb dX12_one_115 (of_decide_eq_true rfl) ?_
              exact by
               refine lv_icmp_ne (tgt := 124) hx hb dX12_one_117 (of_decide_eq_true rfl) (fun c115 => ?_) (fun c => absurd (jeq c rfl jz_40) (by omega))
               have kc115 := jne c115 rfl jz_40
               refine lv_iload_n hx hb dX12_one_124 rfl (lv_at hl 1 rfl) ?_
               refine lv_bipush (v := 45) hx hb dX12_one_125 (of_decide_eq_true rfl) ?_
               refine lv_icmp_ne (tgt := 135) hx hb dX12_one_127 (of_decide_eq_true rfl) (fun c => absurd (jne c rfl jz_45) (by omega)) (fun c116 => ?_)
               have kc116 := jeq c116 rfl jz_45
               refine lv_iload_n hx hb dX12_one_130 rfl (lv_at hl 0 rfl) ?_
               refine lv_ineg hx hb dX12_one_131 ?_
               refine lv_topi (fun x117 ex117 => ?_)
               exact by
                have gx117 := jrg (rfl : x117.toInt = x117.toInt)
                refine lv_goto (tgt := 144) hx hb dX12_one_132 (of_decide_eq_true rfl) ?_
                have I118 : jI121 σ114 := jI121_fr (jkp 18 eσ114 (of_decide_eq_true rfl)) (jkp 19 eσ114 (of_decide_eq_true rfl)) (jkp 20 eσ114 (of_decide_eq_true rfl)) (jkp 21 eσ114 (of_decide_eq_true rfl)) I99
                have z119 : (σ114 55 21).toInt = (σ95 55 21).toInt := (congrArg Int32.toInt (show σ114 55 21 = (σ95 55 21) from (jkp 21 eσ114 (of_decide_eq_true rfl))))
                have z120 : (σ114 55 22).toInt = x112.toInt := (congrArg Int32.toInt (show σ114 55 22 = x112 from (jsp eσ114)))
                have z121 : (σ114 55 19).toInt = (σ95 55 19).toInt := (congrArg Int32.toInt (show σ114 55 19 = (σ95 55 19) from (jkp 19 eσ114 (of_decide_eq_true rfl))))
                exact by exact hret x117 σ114 τ _ _ _ _ rfl ⟨rfl, (fun i hi => ((jnp i eσ114 (imp_165 i hi)).trans ((f97 i hi).trans ((jnp i eσ87 (imp_165 i hi)).trans (jnp i eσ83 (imp_165 i hi)))))), (fun i hi => ((jkp i eσ114 (imp_170 i hi)).trans ((f98 i hi).trans ((jkp i eσ87 (imp_171 i hi)).trans (jkp i eσ83 (imp_170 i hi)))))), I118, (by omega), (by omega), trivial⟩ hP hS dX12_one_144
       · have kc80 := jeq c80 rfl jz_6
         refine lv_aload_n hx hb dX12_one_41 rfl (lv_at hl 1 rfl) ?_
         refine jcallV (As := []) (rest := []) ⟨hx, hb, hml, hown, hts⟩ hK hP hA hS hZ (c_X12_wrong l D cI cL ad zz hJ σ τ hI121) cw_RX12_214 (jc_55 cI cL ad σ τ) rfl ⟨by dsimp only; omega, by dsimp only; omega⟩ rfl rfl rfl hl.1 rfl (Nat.le_of_ble_eq_true rfl) dX12_one_42 ⟨Nat.zero_le _, Nat.zero_le _⟩ (fun r123 σ122 τ122 H locs h122 hP hS => ?_)
         obtain ⟨rfl, f124, f125, I126, h122⟩ := h122
         obtain ⟨i128, i129, i130, i131, i132⟩ : ((-1) ≤ (σ122 55 18).toInt ∧ (σ122 55 18).toInt ≤ 80) ∧ (0 ≤ (σ122 55 19).toInt) ∧ ((σ122 55 19).toInt ≤ (σ122 55 20).toInt) ∧ ((σ122 55 20).toInt ≤ 80) ∧ ((-1) ≤ (σ122 55 21).toInt) := id I126
         have z133 : (σ122 55 18).toInt = (σ 55 18).toInt := (congrArg Int32.toInt (show σ122 55 18 = (σ 55 18) from (f125 18 (of_decide_eq_true rfl))))
         have z134 : (σ122 55 19).toInt = (σ 55 19).toInt := (congrArg Int32.toInt (show σ122 55 19 = (σ 55 19) from (f125 19 (of_decide_eq_true rfl))))
         have z135 : (σ122 55 20).toInt = (σ 55 20).toInt := (congrArg Int32.toInt (show σ122 55 20 = (σ 55 20) from (f125 20 (of_decide_eq_true rfl))))
         obtain ⟨k136, k137, h122⟩ := h122
         have h138 := h122
         obtain ⟨q140, k139⟩ := h138
         have q140 := q140.symm
         subst q140
         have z141 : (σ122 55 22).toInt = (σ 55 22).toInt := (congrArg Int32.toInt (show σ122 55 22 = (σ 55 22) from (f125 22 (of_decide_eq_true rfl))))
         exact by exact hret 0 σ122 τ _ _ _ _ rfl ⟨rfl, (fun i hi => (f124 i hi)), (fun i hi => (f125 i (imp_172 i hi))), I126, (by omega), (by omega), trivial⟩ hP hS dX12_one_45
     · have kc79 := jne c79 rfl jz_45
       refine lv_iload_n hx hb dX12_one_26 rfl (lv_at hl 0 rfl) ?_
       refine lv_bipush (v := 40) hx hb dX12_one_27 (of_decide_eq_true rfl) ?_
       refine lv_icmp_ne (tgt := 145) hx hb dX12_one_29 (of_decide_eq_true rfl) (fun c142 => ?_) (fun c142 => ?_)
       · have kc142 := jne c142 rfl jz_40
         refine lv_iload_n hx hb dX12_one_145 rfl (lv_at hl 0 rfl) ?_
         refine jcallS (As := [.int r8]) (rest := []) ⟨hx, hb, hml, hown, hts⟩ hK hP hA hS hZ (c_X12_nameOf l D cI cL ad zz hJ σ τ r8 (r8.toInt) rfl) cw_RX12_220 ⟨by dsimp only; omega, by dsimp only; omega⟩ rfl rfl rfl hl.1 rfl (Nat.le_of_ble_eq_true rfl) dX12_one_146 ⟨Nat.zero_le _, Nat.zero_le _⟩ (fun r144 σ143 τ143 H locs h143 hP hS => ?_)
         obtain ⟨⟨rfl, rfl⟩, h143⟩ := h143
         rcases h143 with h145 | h146
         · obtain ⟨q149, k147, k148⟩ := h145
           refine lv_istore_n (lv' := [(2, .int r144), (1, .int r8), (0, .ref (ad 55))]) hx hb dX12_one_149 rfl hl (of_decide_eq_true rfl) rfl (fun ls hl => ?_)
           refine lv_iload_n hx hb dX12_one_150 rfl (lv_at hl 0 rfl) ?_
           exact by
            refine lv_if_lt (tgt := 171) hx hb dX12_one_151 (of_decide_eq_true rfl) (fun c => absurd (jlt c rfl jz_0) (by omega)) (fun c150 => ?_)
            have kc150 := jnlt c150 rfl jz_0
            refine lv_aload_n hx hb dX12_one_154 rfl (lv_at hl 2 rfl) ?_
            refine lv_dup hx hb dX12_one_155 rfl ?_
            refine va_get (D := D) hx hb hts inlX12 hown hK hP 55 (jc_55 cI cL ad σ τ) rfl 19 (of_decide_eq_true rfl) (hts _ kw_15_11) (fun _ h9 => h9) rfl dX12_one_156 ?_
            refine lv_iconst (v := 1) hx hb dX12_one_159 (of_decide_eq_true rfl) ?_
            have g151 := jrg (rfl : (σ 55 19).toInt = (σ 55 19).toInt)
            refine lv_iadd hx hb dX12_one_160 ?_
            refine lv_topi (fun x152 ex152 => ?_)
            exact by
             have tx152 : x152.toInt = (σ 55 19).toInt + 1 := (jadd ex152 rfl jz_1 (by omega) (by omega)).trans (by omega)
             refine jput (ty := .int) hx hb hts inlX12 tyX12 tyX12_ok nmX12 hown hK hP hJ hA hS (jc_55 cI cL ad σ τ) rfl (k := 19) (of_decide_eq_true rfl) (Nat.le_of_ble_eq_true rfl) (jp_55_19 cI cL ad σ τ x152) (hts _ kw_15_11) (fun _ h9 => h9) rfl (by decide +kernel) rfl rfl dX12_one_161 (fun σ153 H locs eσ153 hP hS => ?_)
             refine lv_aload_n hx hb dX12_one_164 rfl (lv_at hl 2 rfl) ?_
             refine va_get (D := D) hx hb hts inlX12 hown hK hP 55 (jc_55 cI cL ad σ153 τ) rfl 23 (of_decide_eq_true rfl) (hts _ kw_7_12) (fun _ h9 => h9) rfl dX12_one_165 ?_
             refine lv_iload_n hx hb dX12_one_168 rfl (lv_at hl 0 rfl) ?_
             refine jald hx hb hK hP (jc_66 cI cL ad σ153 τ) (jin rfl (by omega) (by omega)) dX12_one_169 ?_
             refine lv_topi (fun x154 ex154 => ?_)
             have z155 : (σ153 55 18).toInt = (σ 55 18).toInt := (congrArg Int32.toInt (show σ153 55 18 = (σ 55 18) from (jkp 18 eσ153 (of_decide_eq_true rfl))))
             have z156 : (σ153 55 19).toInt = (σ 55 19).toInt + 1 := ((congrArg Int32.toInt (show σ153 55 19 = x152 from (jsp eσ153))).trans tx152)
             exact by
              have z157 : (σ153 55 20).toInt = (σ 55 20).toInt := (congrArg Int32.toInt (show σ153 55 20 = (σ 55 20) from (jkp 20 eσ153 (of_decide_eq_true rfl))))
              have z158 : (σ153 55 21).toInt = (σ 55 21).toInt := (congrArg Int32.toInt (show σ153 55 21 = (σ 55 21) from (jkp 21 eσ153 (of_decide_eq_true rfl))))
              have I159 : jI121 σ153 := ⟨(by omega), (by omega), (by omega), (by omega), (by omega)⟩
              have z160 : (σ153 55 22).toInt = (σ 55 22).toInt := (congrArg Int32.toInt (show σ153 55 22 = (σ 55 22) from (jkp 22 eσ153 (of_decide_eq_true rfl))))
              exact by exact hret x154 σ153 τ _ _ _ _ rfl ⟨rfl, (fun i hi => (jnp i eσ153 (imp_165 i hi))), (fun i hi => (jkp i eσ153 (imp_171 i hi))), I159, (by omega), (by omega), trivial⟩ hP hS dX12_one_170
         · obtain ⟨q162, k161⟩ := h146
           have q162 := q162.symm
           subst q162
           refine lv_istore_n (lv' := [(2, .int (-1)), (1, .int r8), (0, .ref (ad 55))]) hx hb dX12_one_149 rfl hl (of_decide_eq_true rfl) rfl (fun ls hl => ?_)
           exact by
            refine lv_iload_n hx hb dX12_one_150 rfl (lv_at hl 0 rfl) ?_
            refine lv_if_lt (tgt := 171) hx hb dX12_one_151 (of_decide_eq_true rfl) (fun _ => ?_) (fun c => absurd (of_decide_eq_true rfl) c)
            refine lv_iconst (v := 0) hx hb dX12_one_171 (of_decide_eq_true rfl) ?_
            refine lv_istore_n (lv' := [(3, .int 0), (2, .int (-1)), (1, .int r8), (0, .ref (ad 55))]) hx hb dX12_one_172 rfl hl (of_decide_eq_true rfl) rfl (fun ls hl => ?_)
            refine lv_iconst (v := 0) hx hb dX12_one_173 (of_decide_eq_true rfl) ?_
            refine lv_istore (lv' := [(4, .int 0), (3, .int 0), (2, .int (-1)), (1, .int r8), (0, .ref (ad 55))]) hx hb dX12_one_174 hl (of_decide_eq_true rfl) rfl (fun ls hl => ?_)
            have lp163 : ∀ (n164 : Nat) (x165 : Int32) (x166 : Int32) (σ167 : Nat → Nat → Int32) (H : Heap) (locs : List Loc) (ls : Array Slot), (-x166.toInt + 4 : Int) < n164 → 0 ≤ x166.toInt → x166.toInt ≤ 4 → (-1) ≤ (σ167 55 18).toInt ∧ (σ167 55 18).toInt ≤ 80 → 0 ≤ (σ167 55 19).toInt → (σ167 55 19).toInt ≤ (σ167 55 20).toInt → (σ167 55 20).toInt ≤ 80 → (-1) ≤ (σ167 55 21).toInt → (σ 55 19).toInt ≤ (σ167 55 19).toInt → (σ167 55 21).toInt = (-1) → (∀ i : Nat, (i < 55 ∨ 55 < i) → σ167 i = σ i) → (∀ k : Nat, (k < 19 ∨ 19 < k) → σ167 55 k = σ 55 k) → jH D cI cL ad σ167 τ H → va_S (jA ad) s.heap H locs → lv_has ls 5 [(4, .int x166), (3, .int x165), (2, .int (-1)), (1, .int r8), (0, .ref (ad 55))] → W p l e ({ frames := (10 + 8 * (n + 1)), cells := 0, slots := 0, locals := (400 + 360 * (n + 1)) }) s m args below meth c H locs 0 0 Q (F0 m 176 ls []) := by
              intro n164
              induction n164 with
              | zero => intro x165 x166 σ167 H locs ls h169 h170 h171 h172 h173 h174 h175 h176 h177 h178; have gx165 := jrg (rfl : x165.toInt = x165.toInt); exact absurd h169 (by omega)
              | succ n164 ihlp163 =>
                intro x165 x166 σ167 H locs ls h169 h170 h171 h172 h173 h174 h175 h176 h177 h178 f179 f180 hP hS hl
                exact by
                 have gx165 := jrg (rfl : x165.toInt = x165.toInt)
                 have z181 : (σ167 55 18).toInt = (σ 55 18).toInt := (congrArg Int32.toInt (show σ167 55 18 = (σ 55 18) from (f180 18 (of_decide_eq_true rfl))))
                 have z182 : (σ167 55 20).toInt = (σ 55 20).toInt := (congrArg Int32.toInt (show σ167 55 20 = (σ 55 20) from (f180 20 (of_decide_eq_true rfl))))
                 have z183 : (σ167 55 21).toInt = (σ 55 21).toInt := (congrArg Int32.toInt (show σ167 55 21 = (σ 55 21) from (f180 21 (of_decide_eq_true rfl))))
                 refine lv_iload hx hb dX12_one_176 (lv_at hl 0 rfl) ?_
                 refine lv_iconst (v := 4) hx hb dX12_one_178 (of_decide_eq_true rfl) ?_
                 refine lv_icmp_ge (tgt := 229) hx hb dX12_one_179 (of_decide_eq_true rfl) (fun c184 => ?_) (fun c184 => ?_)
                 · have kc184 := jle c184 jz_4 rfl
                   refine lv_iload hx hb dX12_one_229 (lv_at hl 0 rfl) ?_
                   exact by
                    refine lv_if_ne (tgt := 241) hx hb dX12_one_231 (of_decide_eq_true rfl) (fun c185 => ?_) (fun c => absurd (jeq c rfl jz_0) (by omega))
                    have kc185 := jne c185 rfl jz_0
                    refine lv_iload_n hx hb dX12_one_241 rfl (lv_at hl 1 rfl) ?_
                    have I186 : jI121 σ167 := ⟨(by omega), (by omega), (by omega), (by omega), (by omega)⟩
                    have z187 : (σ167 55 22).toInt = (σ 55 22).toInt := (congrArg Int32.toInt (show σ167 55 22 = (σ 55 22) from (f180 22 (of_decide_eq_true rfl))))
                    exact by exact hret x165 σ167 τ _ _ _ _ rfl ⟨rfl, (fun i hi => (f179 i hi)), (fun i hi => (f180 i (imp_173 i hi))), I186, (by omega), (by omega), trivial⟩ hP hS dX12_one_242
                 · have kc184 := jnle c184 jz_4 rfl
                   refine lv_aload_n hx hb dX12_one_182 rfl (lv_at hl 4 rfl) ?_
                   have I188 : jI121 σ167 := ⟨(by omega), (by omega), (by omega), (by omega), (by omega)⟩
                   exact by
                    refine jcallV (As := []) (rest := []) ⟨hx, hb, hml, hown, hts⟩ hK hP hA hS hZ (c_X12_byteAt l D cI cL ad zz hJ σ167 τ I188) cw_RX12_189 (jc_55 cI cL ad σ167 τ) rfl ⟨by dsimp only; omega, by dsimp only; omega⟩ rfl rfl rfl hl.1 rfl (Nat.le_of_ble_eq_true rfl) dX12_one_183 ⟨Nat.zero_le _, Nat.zero_le _⟩ (fun r190 σ189 τ189 H locs h189 hP hS => ?_)
                    obtain ⟨⟨rfl, rfl⟩, h189⟩ := h189
                    have h191 := h189
                    obtain ⟨q193, k192⟩ := h191
                    refine lv_bipush (v := 48) hx hb dX12_one_186 (of_decide_eq_true rfl) ?_
                    refine lv_icmp_lt (tgt := 229) hx hb dX12_one_188 (of_decide_eq_true rfl) (fun c194 => ?_) (fun c194 => ?_)
                    · have kc194 := jlt c194 rfl jz_48
                      refine lv_iload hx hb dX12_one_229 (lv_at hl 0 rfl) ?_
                      refine lv_if_ne (tgt := 241) hx hb dX12_one_231 (of_decide_eq_true rfl) (fun c195 => ?_) (fun c195 => ?_)
                      · have kc195 := jne c195 rfl jz_0
                        refine lv_iload_n hx hb dX12_one_241 rfl (lv_at hl 1 rfl) ?_
                        have z196 : (σ167 55 22).toInt = (σ 55 22).toInt := (congrArg Int32.toInt (show σ167 55 22 = (σ 55 22) from (f180 22 (of_decide_eq_true rfl))))
                        exact by exact hret x165 σ167 τ _ _ _ _ rfl ⟨rfl, (fun i hi => (f179 i hi)), (fun i hi => (f180 i (imp_173 i hi))), I188, (by omega), (by omega), trivial⟩ hP hS dX12_one_242
                      · have kc195 := jeq c195 rfl jz_0
                        refine lv_aload_n hx hb dX12_one_234 rfl (lv_at hl 4 rfl) ?_
                        refine jcallV (As := []) (rest := []) ⟨hx, hb, hml, hown, hts⟩ hK hP hA hS hZ (c_X12_wrong l D cI cL ad zz hJ σ167 τ I188) cw_RX12_214 (jc_55 cI cL ad σ167 τ) rfl ⟨by dsimp only; omega, by dsimp only; omega⟩ rfl rfl rfl hl.1 rfl (Nat.le_of_ble_eq_true rfl) dX12_one_235 ⟨Nat.zero_le _, Nat.zero_le _⟩ (fun r198 σ197 τ197 H locs h197 hP hS => ?_)
                        obtain ⟨rfl, f199, f200, I201, h197⟩ := h197
                        obtain ⟨i203, i204, i205, i206, i207⟩ : ((-1) ≤ (σ197 55 18).toInt ∧ (σ197 55 18).toInt ≤ 80) ∧ (0 ≤ (σ197 55 19).toInt) ∧ ((σ197 55 19).toInt ≤ (σ197 55 20).toInt) ∧ ((σ197 55 20).toInt ≤ 80) ∧ ((-1) ≤ (σ197 55 21).toInt) := id I201
                        have z208 : (σ197 55 18).toInt = (σ 55 18).toInt := (congrArg Int32.toInt (show σ197 55 18 = (σ 55 18) from ((f200 18 (of_decide_eq_true rfl)).trans (f180 18 (of_decide_eq_true rfl)))))
                        have z209 : (σ197 55 19).toInt = (σ167 55 19).toInt := (congrArg Int32.toInt (show σ197 55 19 = (σ167 55 19) from (f200 19 (of_decide_eq_true rfl))))
                        have z210 : (σ197 55 20).toInt = (σ 55 20).toInt := (congrArg Int32.toInt (show σ197 55 20 = (σ 55 20) from ((f200 20 (of_decide_eq_true rfl)).trans (f180 20 (of_decide_eq_true rfl)))))
                        obtain ⟨k211, k212, h197⟩ := h197
                        have h213 := h197
                        obtain ⟨q215, k214⟩ := h213
                        have q215 := q215.symm
                        subst q215
                        refine lv_goto (tgt := 242) hx hb dX12_one_238 (of_decide_eq_true rfl) ?_
                        have z216 : (σ197 55 22).toInt = (σ 55 22).toInt := (congrArg Int32.toInt (show σ197 55 22 = (σ 55 22) from ((f200 22 (of_decide_eq_true rfl)).trans (f180 22 (of_decide_eq_true rfl)))))
                        exact by exact hret 0 σ197 τ _ _ _ _ rfl ⟨rfl, (fun i hi => ((f199 i hi).trans (f179 i hi))), (fun i hi => ((f200 i (imp_172 i hi)).trans (f180 i (imp_173 i hi)))), I201, (by omega), (by omega), trivial⟩ hP hS dX12_one_242
                    · have kc194 := jnlt c194 rfl jz_48
                      refine lv_aload_n hx hb dX12_one_191 rfl (lv_at hl 4 rfl) ?_
                      refine jcallV (As := []) (rest := []) ⟨hx, hb, hml, hown, hts⟩ hK hP hA hS hZ (c_X12_byteAt l D cI cL ad zz hJ σ167 τ I188) cw_RX12_189 (jc_55 cI cL ad σ167 τ) rfl ⟨by dsimp only; omega, by dsimp only; omega⟩ rfl rfl rfl hl.1 rfl (Nat.le_of_ble_eq_true rfl) dX12_one_192 ⟨Nat.zero_le _, Nat.zero_le _⟩ (fun r218 σ217 τ217 H locs h217 hP hS => ?_)
                      obtain ⟨⟨rfl, rfl⟩, h217⟩ := h217
                      have h219 := h217
                      obtain ⟨q221, k220⟩ := h219
                      refine lv_bipush (v := 57) hx hb dX12_one_195 (of_decide_eq_true rfl) ?_
                      refine lv_icmp_gt (tgt := 229) hx hb dX12_one_197 (of_decide_eq_true rfl) (fun c222 => ?_) (fun c222 => ?_)
                      · have kc222 := jlt c222 jz_57 rfl
                        refine lv_iload hx hb dX12_one_229 (lv_at hl 0 rfl) ?_
                        refine lv_if_ne (tgt := 241) hx hb dX12_one_231 (of_decide_eq_true rfl) (fun c223 => ?_) (fun c223 => ?_)
                        · have kc223 := jne c223 rfl jz_0
                          refine lv_iload_n hx hb dX12_one_241 rfl (lv_at hl 1 rfl) ?_
                          have z224 : (σ167 55 22).toInt = (σ 55 22).toInt := (congrArg Int32.toInt (show σ167 55 22 = (σ 55 22) from (f180 22 (of_decide_eq_true rfl))))
                          exact by exact hret x165 σ167 τ _ _ _ _ rfl ⟨rfl, (fun i hi => (f179 i hi)), (fun i hi => (f180 i (imp_173 i hi))), I188, (by omega), (by omega), trivial⟩ hP hS dX12_one_242
                        · have kc223 := jeq c223 rfl jz_0
                          refine lv_aload_n hx hb dX12_one_234 rfl (lv_at hl 4 rfl) ?_
                          refine jcallV (As := []) (rest := []) ⟨hx, hb, hml, hown, hts⟩ hK hP hA hS hZ (c_X12_wrong l D cI cL ad zz hJ σ167 τ I188) cw_RX12_214 (jc_55 cI cL ad σ167 τ) rfl ⟨by dsimp only; omega, by dsimp only; omega⟩ rfl rfl rfl hl.1 rfl (Nat.le_of_ble_eq_true rfl) dX12_one_235 ⟨Nat.zero_le _, Nat.zero_le _⟩ (fun r226 σ225 τ225 H locs h225 hP hS => ?_)
                          obtain ⟨rfl, f227, f228, I229, h225⟩ := h225
                          obtain ⟨i231, i232, i233, i234, i235⟩ : ((-1) ≤ (σ225 55 18).toInt ∧ (σ225 55 18).toInt ≤ 80) ∧ (0 ≤ (σ225 55 19).toInt) ∧ ((σ225 55 19).toInt ≤ (σ225 55 20).toInt) ∧ ((σ225 55 20).toInt ≤ 80) ∧ ((-1) ≤ (σ225 55 21).toInt) := id I229
                          have z236 : (σ225 55 18).toInt = (σ 55 18).toInt := (congrArg Int32.toInt (show σ225 55 18 = (σ 55 18) from ((f228 18 (of_decide_eq_true rfl)).trans (f180 18 (of_decide_eq_true rfl)))))
                          have z237 : (σ225 55 19).toInt = (σ167 55 19).toInt := (congrArg Int32.toInt (show σ225 55 19 = (σ167 55 19) from (f228 19 (of_decide_eq_true rfl))))
                          have z238 : (σ225 55 20).toInt = (σ 55 20).toInt := (congrArg Int32.toInt (show σ225 55 20 = (σ 55 20) from ((f228 20 (of_decide_eq_true rfl)).trans (f180 20 (of_decide_eq_true rfl)))))
                          obtain ⟨k239, k240, h225⟩ := h225
                          have h241 := h225
                          obtain ⟨q243, k242⟩ := h241
                          have q243 := q243.symm
                          subst q243
                          refine lv_goto (tgt := 242) hx hb dX12_one_238 (of_decide_eq_true rfl) ?_
                          have z244 : (σ225 55 22).toInt = (σ 55 22).toInt := (congrArg Int32.toInt (show σ225 55 22 = (σ 55 22) from ((f228 22 (of_decide_eq_true rfl)).trans (f180 22 (of_decide_eq_true rfl)))))
                          exact by exact hret 0 σ225 τ _ _ _ _ rfl ⟨rfl, (fun i hi => ((f227 i hi).trans (f179 i hi))), (fun i hi => ((f228 i (imp_172 i hi)).trans (f180 i (imp_173 i hi)))), I229, (by omega), (by omega), trivial⟩ hP hS dX12_one_242
                      · have kc222 := jnlt c222 jz_57 rfl
                        refine lv_bipush (v := 10) hx hb dX12_one_200 (of_decide_eq_true rfl) ?_
                        refine lv_iload_n hx hb dX12_one_202 rfl (lv_at hl 1 rfl) ?_
                        have g245 := jrg (rfl : x165.toInt = x165.toInt)
                        refine lv_imul hx hb dX12_one_203 ?_
                        refine lv_topi (fun x246 ex246 => ?_)
                        have gx246 := jrg (rfl : x246.toInt = x246.toInt)
                        refine lv_aload_n hx hb dX12_one_204 rfl (lv_at hl 4 rfl) ?_
                        refine jcallV (As := []) (rest := [.int x246]) ⟨hx, hb, hml, hown, hts⟩ hK hP hA hS hZ (c_X12_byteAt l D cI cL ad zz hJ σ167 τ I188) cw_RX12_189 (jc_55 cI cL ad σ167 τ) rfl ⟨by dsimp only; omega, by dsimp only; omega⟩ rfl rfl rfl hl.1 rfl (Nat.le_of_ble_eq_true rfl) dX12_one_205 ⟨Nat.zero_le _, Nat.zero_le _⟩ (fun r248 σ247 τ247 H locs h247 hP hS => ?_)
                        obtain ⟨⟨rfl, rfl⟩, h247⟩ := h247
                        have h249 := h247
                        obtain ⟨q251, k250⟩ := h249
                        have g252 := jrg (rfl : x246.toInt = x246.toInt)
                        have g253 := jrg (rfl : r248.toInt = r248.toInt)
                        refine lv_iadd hx hb dX12_one_208 ?_
                        refine lv_topi (fun x254 ex254 => ?_)
                        have gx254 := jrg (rfl : x254.toInt = x254.toInt)
                        have g255 := jaddw ex254 rfl rfl
                        refine lv_bipush (v := 48) hx hb dX12_one_209 (of_decide_eq_true rfl) ?_
                        have g256 := jrg (rfl : x254.toInt = x254.toInt)
                        refine lv_isub hx hb dX12_one_211 ?_
                        refine lv_topi (fun x257 ex257 => ?_)
                        have gx257 := jrg (rfl : x257.toInt = x257.toInt)
                        have g258 := jsubw ex257 rfl jz_48
                        refine lv_istore_n (lv' := [(3, .int x257), (4, .int x166), (2, .int (-1)), (1, .int r8), (0, .ref (ad 55))]) hx hb dX12_one_212 rfl hl (of_decide_eq_true rfl) rfl (fun ls hl => ?_)
                        obtain ⟨x259, ex259⟩ : ∃ y : Int32, y = x166 + 1 := ⟨_, rfl⟩
                        exact by
                         have tx259 : x259.toInt = x166.toInt + 1 := (jadd ex259 rfl jz_1 (by omega) (by omega)).trans (by omega)
                         refine lv_iinc (v := x259) (lv' := [(4, .int x259), (3, .int x257), (2, .int (-1)), (1, .int r8), (0, .ref (ad 55))]) hx hb dX12_one_213 hl (k := 1) rfl (by rw [ex259]; rfl) (of_decide_eq_true rfl) rfl (fun ls hl => ?_)
                         refine lv_aload_n hx hb dX12_one_216 rfl (lv_at hl 4 rfl) ?_
                         refine lv_dup hx hb dX12_one_217 rfl ?_
                         refine va_get (D := D) hx hb hts inlX12 hown hK hP 55 (jc_55 cI cL ad σ167 τ) rfl 19 (of_decide_eq_true rfl) (hts _ kw_15_11) (fun _ h9 => h9) rfl dX12_one_218 ?_
                         refine lv_iconst (v := 1) hx hb dX12_one_221 (of_decide_eq_true rfl) ?_
                         have g260 := jrg (rfl : (σ167 55 19).toInt = (σ167 55 19).toInt)
                         refine lv_iadd hx hb dX12_one_222 ?_
                         refine lv_topi (fun x261 ex261 => ?_)
                         exact by
                          have tx261 : x261.toInt = (σ167 55 19).toInt + 1 := (jadd ex261 rfl jz_1 (by omega) (by omega)).trans (by omega)
                          refine jput (ty := .int) hx hb hts inlX12 tyX12 tyX12_ok nmX12 hown hK hP hJ hA hS (jc_55 cI cL ad σ167 τ) rfl (k := 19) (of_decide_eq_true rfl) (Nat.le_of_ble_eq_true rfl) (jp_55_19 cI cL ad σ167 τ x261) (hts _ kw_15_11) (fun _ h9 => h9) rfl (by decide +kernel) rfl rfl dX12_one_223 (fun σ262 H locs eσ262 hP hS => ?_)
                          refine lv_goto (tgt := 176) hx hb dX12_one_226 (of_decide_eq_true rfl) ?_
                          have z263 : (σ262 55 18).toInt = (σ 55 18).toInt := (congrArg Int32.toInt (show σ262 55 18 = (σ 55 18) from ((jkp 18 eσ262 (of_decide_eq_true rfl)).trans (f180 18 (of_decide_eq_true rfl)))))
                          have z264 : (σ262 55 19).toInt = (σ167 55 19).toInt + 1 := ((congrArg Int32.toInt (show σ262 55 19 = x261 from (jsp eσ262))).trans tx261)
                          have z265 : (σ262 55 20).toInt = (σ 55 20).toInt := (congrArg Int32.toInt (show σ262 55 20 = (σ 55 20) from ((jkp 20 eσ262 (of_decide_eq_true rfl)).trans (f180 20 (of_decide_eq_true rfl)))))
                          have z266 : (σ262 55 21).toInt = (σ 55 21).toInt := (congrArg Int32.toInt (show σ262 55 21 = (σ 55 21) from ((jkp 21 eσ262 (of_decide_eq_true rfl)).trans (f180 21 (of_decide_eq_true rfl)))))
                          exact by exact ihlp163 x257 x259 σ262 _ _ ls (by have h91 := tx259; omega) (by have h91 := tx259; omega) (by have h91 := tx259; omega) (by have h91 := tx259; omega) (by have h91 := tx259; omega) (by have h91 := tx259; omega) (by have h91 := tx259; omega) (by have h91 := tx259; omega) (by have h91 := tx259; omega) (by have h91 := tx259; omega) (fun i hi => ((jnp i eσ262 (imp_165 i hi)).trans (f179 i hi))) (fun i hi => ((jkp i eσ262 (imp_169 i hi)).trans (f180 i hi)))   hP hS (lv_sub hl [0, 1, 2, 3, 4] rfl)
            exact by exact lp163 1000000 0 0 σ _ _ ls (by have h90 := jz_0; have h91 := jz_0; omega) (by have h90 := jz_0; have h91 := jz_0; omega) (by have h90 := jz_0; have h91 := jz_0; omega) (by have h90 := jz_0; have h91 := jz_0; omega) (by have h90 := jz_0; have h91 := jz_0; omega) (by have h90 := jz_0; have h91 := jz_0; omega) (by have h90 := jz_0; have h91 := jz_0; omega) (by have h90 := jz_0; have h91 := jz_0; omega) (by have h90 := jz_0; have h91 := jz_0; omega) (by have h90 := jz_0; have h91 := jz_0; omega) (fun _ _ => rfl) (fun _ _ => rfl)   hP hS hl
       · have kc142 := jeq c142 rfl jz_40
         refine lv_aload_n hx hb dX12_one_32 rfl (lv_at hl 1 rfl) ?_
         refine va_get (D := D) hx hb hts inlX12 hown hK hP 55 (jc_55 cI cL ad σ τ) rfl 22 (of_decide_eq_true rfl) (hts _ kw_18_21) (fun _ h9 => h9) rfl dX12_one_33 ?_
         refine lv_bipush (v := 6) hx hb dX12_one_36 (of_decide_eq_true rfl) ?_
         refine lv_icmp_ne (tgt := 46) hx hb dX12_one_38 (of_decide_eq_true rfl) (fun c267 => ?_) (fun c267 => ?_)
         · have kc267 := jne c267 rfl jz_6
           refine lv_aload_n hx hb dX12_one_46 rfl (lv_at hl 1 rfl) ?_
           refine lv_dup hx hb dX12_one_47 rfl ?_
           refine va_get (D := D) hx hb hts inlX12 hown hK hP 55 (jc_55 cI cL ad σ τ) rfl 22 (of_decide_eq_true rfl) (hts _ kw_18_21) (fun _ h9 => h9) rfl dX12_one_48 ?_
           refine lv_iconst (v := 1) hx hb dX12_one_51 (of_decide_eq_true rfl) ?_
           have g268 := jrg (rfl : (σ 55 22).toInt = (σ 55 22).toInt)
           refine lv_iadd hx hb dX12_one_52 ?_
           refine lv_topi (fun x269 ex269 => ?_)
           exact by
            have tx269 : x269.toInt = (σ 55 22).toInt + 1 := (jadd ex269 rfl jz_1 (by omega) (by omega)).trans (by omega)
            refine jput (ty := .int) hx hb hts inlX12 tyX12 tyX12_ok nmX12 hown hK hP hJ hA hS (jc_55 cI cL ad σ τ) rfl (k := 22) (of_decide_eq_true rfl) (Nat.le_of_ble_eq_true rfl) (jp_55_22 cI cL ad σ τ x269) (hts _ kw_18_21) (fun _ h9 => h9) rfl (by decide +kernel) rfl rfl dX12_one_53 (fun σ270 H locs eσ270 hP hS => ?_)
            refine lv_aload_n hx hb dX12_one_56 rfl (lv_at hl 1 rfl) ?_
            refine lv_dup hx hb dX12_one_57 rfl ?_
            refine va_get (D := D) hx hb hts inlX12 hown hK hP 55 (jc_55 cI cL ad σ270 τ) rfl 19 (of_decide_eq_true rfl) (hts _ kw_15_11) (fun _ h9 => h9) rfl dX12_one_58 ?_
            have m271 : σ270 55 19 = (σ 55 19) := (jkp 19 eσ270 (of_decide_eq_true rfl))
            refine jtopr m271 ?_
            refine lv_iconst (v := 1) hx hb dX12_one_61 (of_decide_eq_true rfl) ?_
            have g272 := jrg (rfl : (σ 55 19).toInt = (σ 55 19).toInt)
            refine lv_iadd hx hb dX12_one_62 ?_
            refine lv_topi (fun x273 ex273 => ?_)
            exact by
             have tx273 : x273.toInt = (σ 55 19).toInt + 1 := (jadd ex273 rfl jz_1 (by omega) (by omega)).trans (by omega)
             refine jput (ty := .int) hx hb hts inlX12 tyX12 tyX12_ok nmX12 hown hK hP hJ hA hS (jc_55 cI cL ad σ270 τ) rfl (k := 19) (of_decide_eq_true rfl) (Nat.le_of_ble_eq_true rfl) (jp_55_19 cI cL ad σ270 τ x273) (hts _ kw_15_11) (fun _ h9 => h9) rfl (by decide +kernel) rfl rfl dX12_one_63 (fun σ274 H locs eσ274 hP hS => ?_)
             refine lv_iload_n hx hb dX12_one_66 rfl (lv_at hl 0 rfl) ?_
             refine lv_bipush (v := 40) hx hb dX12_one_67 (of_decide_eq_true rfl) ?_
             refine lv_icmp_ne (tgt := 79) hx hb dX12_one_69 (of_decide_eq_true rfl) (fun c => absurd (jne c rfl jz_40) (by omega)) (fun c275 => ?_)
             have kc275 := jeq c275 rfl jz_40
             refine lv_aload_n hx hb dX12_one_72 rfl (lv_at hl 1 rfl) ?_
             have z276 : (σ274 55 18).toInt = (σ 55 18).toInt := (congrArg Int32.toInt (show σ274 55 18 = (σ 55 18) from ((jkp 18 eσ274 (of_decide_eq_true rfl)).trans (jkp 18 eσ270 (of_decide_eq_true rfl)))))
             have z277 : (σ274 55 19).toInt = (σ 55 19).toInt + 1 := ((congrArg Int32.toInt (show σ274 55 19 = x273 from (jsp eσ274))).trans tx273)
             exact by
              have z278 : (σ274 55 20).toInt = (σ 55 20).toInt := (congrArg Int32.toInt (show σ274 55 20 = (σ 55 20) from ((jkp 20 eσ274 (of_decide_eq_true rfl)).trans (jkp 20 eσ270 (of_decide_eq_true rfl)))))
              have z279 : (σ274 55 21).toInt = (σ 55 21).toInt := (congrArg Int32.toInt (show σ274 55 21 = (σ 55 21) from ((jkp 21 eσ274 (of_decide_eq_true rfl)).trans (jkp 21 eσ270 (of_decide_eq_true rfl)))))
              have I280 : jI121 σ274 := ⟨(by omega), (by omega), (by omega), (by omega), (by omega)⟩
              have z281 : (σ274 55 22).toInt = (σ 55 22).toInt + 1 := ((congrArg Int32.toInt (show σ274 55 22 = x269 from ((jkp 22 eσ274 (of_decide_eq_true rfl)).trans (jsp eσ270)))).trans tx269)
              refine jcallV (As := []) (rest := []) ⟨hx, hb, hml, hown, hts⟩ hK hP hA hS hZ (h_either σ274 τ I280 (by omega) (by omega) (by omega)) cw_RX12_217 (jc_55 cI cL ad σ274 τ) rfl ⟨by dsimp only; omega, by dsimp only; omega⟩ rfl rfl rfl hl.1 rfl (Nat.le_of_ble_eq_true rfl) dX12_one_73 ⟨Nat.zero_le _, Nat.zero_le _⟩ (fun r283 σ282 τ282 H locs h282 hP hS => ?_)
              obtain ⟨rfl, f284, f285, I286, h282⟩ := h282
              obtain ⟨i288, i289, i290, i291, i292⟩ : ((-1) ≤ (σ282 55 18).toInt ∧ (σ282 55 18).toInt ≤ 80) ∧ (0 ≤ (σ282 55 19).toInt) ∧ ((σ282 55 19).toInt ≤ (σ282 55 20).toInt) ∧ ((σ282 55 20).toInt ≤ 80) ∧ ((-1) ≤ (σ282 55 21).toInt) := id I286
              have z293 : (σ282 55 18).toInt = (σ 55 18).toInt := (congrArg Int32.toInt (show σ282 55 18 = (σ 55 18) from ((f285 18 (of_decide_eq_true rfl)).trans ((jkp 18 eσ274 (of_decide_eq_true rfl)).trans (jkp 18 eσ270 (of_decide_eq_true rfl))))))
              have z294 : (σ282 55 20).toInt = (σ 55 20).toInt := (congrArg Int32.toInt (show σ282 55 20 = (σ 55 20) from ((f285 20 (of_decide_eq_true rfl)).trans ((jkp 20 eσ274 (of_decide_eq_true rfl)).trans (jkp 20 eσ270 (of_decide_eq_true rfl))))))
              exact by
               obtain ⟨k295, k296, h282⟩ := h282
               refine lv_goto (tgt := 83) hx hb dX12_one_76 (of_decide_eq_true rfl) ?_
               refine lv_istore_n (lv' := [(2, .int r283), (1, .int r8), (0, .ref (ad 55))]) hx hb dX12_one_83 rfl hl (of_decide_eq_true rfl) rfl (fun ls hl => ?_)
               refine lv_iload_n hx hb dX12_one_84 rfl (lv_at hl 1 rfl) ?_
               refine lv_bipush (v := 40) hx hb dX12_one_85 (of_decide_eq_true rfl) ?_
               refine lv_icmp_ne (tgt := 104) hx hb dX12_one_87 (of_decide_eq_true rfl) (fun c => absurd (jne c rfl jz_40) (by omega)) (fun c297 => ?_)
               have kc297 := jeq c297 rfl jz_40
               refine lv_aload_n hx hb dX12_one_90 rfl (lv_at hl 2 rfl) ?_
               refine lv_bipush (v := 41) hx hb dX12_one_91 (of_decide_eq_true rfl) ?_
               exact by
                refine jcallV (As := [.int 41]) (rest := []) ⟨hx, hb, hml, hown, hts⟩ hK hP hA hS hZ (c_X12_takes l D cI cL ad zz hJ σ282 τ 41 (41) jz_41 I286 (by omega)) cw_RX12_196 (jc_55 cI cL ad σ282 τ) rfl ⟨by dsimp only; omega, by dsimp only; omega⟩ rfl rfl rfl hl.1 rfl (Nat.le_of_ble_eq_true rfl) dX12_one_93 ⟨Nat.zero_le _, Nat.zero_le _⟩ (fun r299 σ298 τ298 H locs h298 hP hS => ?_)
                obtain ⟨rfl, f300, f301, I302, h298⟩ := h298
                obtain ⟨i304, i305, i306, i307, i308⟩ : ((-1) ≤ (σ298 55 18).toInt ∧ (σ298 55 18).toInt ≤ 80) ∧ (0 ≤ (σ298 55 19).toInt) ∧ ((σ298 55 19).toInt ≤ (σ298 55 20).toInt) ∧ ((σ298 55 20).toInt ≤ 80) ∧ ((-1) ≤ (σ298 55 21).toInt) := id I302
                have z309 : (σ298 55 18).toInt = (σ 55 18).toInt := (congrArg Int32.toInt (show σ298 55 18 = (σ 55 18) from ((f301 18 (of_decide_eq_true rfl)).trans ((f285 18 (of_decide_eq_true rfl)).trans ((jkp 18 eσ274 (of_decide_eq_true rfl)).trans (jkp 18 eσ270 (of_decide_eq_true rfl)))))))
                have z310 : (σ298 55 20).toInt = (σ 55 20).toInt := (congrArg Int32.toInt (show σ298 55 20 = (σ 55 20) from ((f301 20 (of_decide_eq_true rfl)).trans ((f285 20 (of_decide_eq_true rfl)).trans ((jkp 20 eσ274 (of_decide_eq_true rfl)).trans (jkp 20 eσ270 (of_decide_eq_true rfl)))))))
                have z311 : (σ298 55 21).toInt = (σ282 55 21).toInt := (congrArg Int32.toInt (show σ298 55 21 = (σ282 55 21) from (f301 21 (of_decide_eq_true rfl))))
                rcases h298 with h312 | h313
                · obtain ⟨q316, k314, k315⟩ := h312
                  have q316 := q316.symm
                  subst q316
                  refine lv_if_ne (tgt := 104) hx hb dX12_one_96 (of_decide_eq_true rfl) (fun _ => ?_) (fun c => absurd c (of_decide_eq_true rfl))
                  refine lv_aload_n hx hb dX12_one_104 rfl (lv_at hl 2 rfl) ?_
                  refine lv_dup hx hb dX12_one_105 rfl ?_
                  refine va_get (D := D) hx hb hts inlX12 hown hK hP 55 (jc_55 cI cL ad σ298 τ) rfl 22 (of_decide_eq_true rfl) (hts _ kw_18_21) (fun _ h9 => h9) rfl dX12_one_106 ?_
                  have m317 : σ298 55 22 = (σ282 55 22) := (f301 22 (of_decide_eq_true rfl))
                  refine jtopr m317 ?_
                  refine lv_iconst (v := 1) hx hb dX12_one_109 (of_decide_eq_true rfl) ?_
                  have g318 := jrg (rfl : (σ282 55 22).toInt = (σ282 55 22).toInt)
                  refine lv_isub hx hb dX12_one_110 ?_
                  refine lv_topi (fun x319 ex319 => ?_)
                  exact by
                   have tx319 : x319.toInt = (σ282 55 22).toInt - 1 := (jsub ex319 rfl jz_1 (by omega) (by omega)).trans (by omega)
                   refine jput (ty := .int) hx hb hts inlX12 tyX12 tyX12_ok nmX12 hown hK hP hJ hA hS (jc_55 cI cL ad σ298 τ) rfl (k := 22) (of_decide_eq_true rfl) (Nat.le_of_ble_eq_true rfl) (jp_55_22 cI cL ad σ298 τ x319) (hts _ kw_18_21) (fun _ h9 => h9) rfl (by decide +kernel) rfl rfl dX12_one_111 (fun σ320 H locs eσ320 hP hS => ?_)
                   refine lv_iload_n hx hb dX12_one_114 rfl (lv_at hl 1 rfl) ?_
                   refine lv_bipush (v := 40) hx hb dX12_one_115 (of_decide_eq_true rfl) ?_
                   refine lv_icmp_ne (tgt := 124) hx hb dX12_one_117 (of_decide_eq_true rfl) (fun c => absurd (jne c rfl jz_40) (by omega)) (fun c321 => ?_)
                   have kc321 := jeq c321 rfl jz_40
                   refine lv_iload_n hx hb dX12_one_120 rfl (lv_at hl 0 rfl) ?_
                   refine lv_goto (tgt := 144) hx hb dX12_one_121 (of_decide_eq_true rfl) ?_
                   have I322 : jI121 σ320 := jI121_fr (jkp 18 eσ320 (of_decide_eq_true rfl)) (jkp 19 eσ320 (of_decide_eq_true rfl)) (jkp 20 eσ320 (of_decide_eq_true rfl)) (jkp 21 eσ320 (of_decide_eq_true rfl)) I302
                   exact by
                    have z323 : (σ320 55 21).toInt = (σ282 55 21).toInt := (congrArg Int32.toInt (show σ320 55 21 = (σ282 55 21) from ((jkp 21 eσ320 (of_decide_eq_true rfl)).trans (f301 21 (of_decide_eq_true rfl)))))
                    have z324 : (σ320 55 22).toInt = (σ282 55 22).toInt - 1 := ((congrArg Int32.toInt (show σ320 55 22 = x319 from (jsp eσ320))).trans tx319)
                    have z325 : (σ320 55 19).toInt = (σ298 55 19).toInt := (congrArg Int32.toInt (show σ320 55 19 = (σ298 55 19) from (jkp 19 eσ320 (of_decide_eq_true rfl))))
                    exact by exact hret r283 σ320 τ _ _ _ _ rfl ⟨rfl, (fun i hi => ((jnp i eσ320 (imp_165 i hi)).trans ((f300 i hi).trans ((f284 i hi).trans ((jnp i eσ274 (imp_165 i hi)).trans (jnp i eσ270 (imp_165 i hi))))))), (fun i hi => ((jkp i eσ320 (imp_170 i hi)).trans ((f301 i (imp_173 i hi)).trans ((f285 i hi).trans ((jkp i eσ274 (imp_171 i hi)).trans (jkp i eσ270 (imp_170 i hi))))))), I322, (by omega), (by omega), trivial⟩ hP hS dX12_one_144
                · obtain ⟨q327, k326⟩ := h313
                  have q327 := q327.symm
                  subst q327
                  refine lv_if_ne (tgt := 104) hx hb dX12_one_96 (of_decide_eq_true rfl) (fun c => absurd (of_decide_eq_true rfl) c) (fun _ => ?_)
                  refine lv_aload_n hx hb dX12_one_99 rfl (lv_at hl 2 rfl) ?_
                  refine jcallV (As := []) (rest := []) ⟨hx, hb, hml, hown, hts⟩ hK hP hA hS hZ (c_X12_wrong l D cI cL ad zz hJ σ298 τ I302) cw_RX12_214 (jc_55 cI cL ad σ298 τ) rfl ⟨by dsimp only; omega, by dsimp only; omega⟩ rfl rfl rfl hl.1 rfl (Nat.le_of_ble_eq_true rfl) dX12_one_100 ⟨Nat.zero_le _, Nat.zero_le _⟩ (fun r329 σ328 τ328 H locs h328 hP hS => ?_)
                  obtain ⟨rfl, f330, f331, I332, h328⟩ := h328
                  obtain ⟨i334, i335, i336, i337, i338⟩ : ((-1) ≤ (σ328 55 18).toInt ∧ (σ328 55 18).toInt ≤ 80) ∧ (0 ≤ (σ328 55 19).toInt) ∧ ((σ328 55 19).toInt ≤ (σ328 55 20).toInt) ∧ ((σ328 55 20).toInt ≤ 80) ∧ ((-1) ≤ (σ328 55 21).toInt) := id I332
                  have z339 : (σ328 55 18).toInt = (σ 55 18).toInt := (congrArg Int32.toInt (show σ328 55 18 = (σ 55 18) from ((f331 18 (of_decide_eq_true rfl)).trans ((f301 18 (of_decide_eq_true rfl)).trans ((f285 18 (of_decide_eq_true rfl)).trans ((jkp 18 eσ274 (of_decide_eq_true rfl)).trans (jkp 18 eσ270 (of_decide_eq_true rfl))))))))
                  have z340 : (σ328 55 19).toInt = (σ298 55 19).toInt := (congrArg Int32.toInt (show σ328 55 19 = (σ298 55 19) from (f331 19 (of_decide_eq_true rfl))))
                  have z341 : (σ328 55 20).toInt = (σ 55 20).toInt := (congrArg Int32.toInt (show σ328 55 20 = (σ 55 20) from ((f331 20 (of_decide_eq_true rfl)).trans ((f301 20 (of_decide_eq_true rfl)).trans ((f285 20 (of_decide_eq_true rfl)).trans ((jkp 20 eσ274 (of_decide_eq_true rfl)).trans (jkp 20 eσ270 (of_decide_eq_true rfl))))))))
                  obtain ⟨k342, k343, h328⟩ := h328
                  have h344 := h328
                  obtain ⟨q346, k345⟩ := h344
                  have q346 := q346.symm
                  subst q346
                  have z347 : (σ328 55 22).toInt = (σ282 55 22).toInt := (congrArg Int32.toInt (show σ328 55 22 = (σ282 55 22) from ((f331 22 (of_decide_eq_true rfl)).trans (f301 22 (of_decide_eq_true rfl)))))
                  exact by exact hret 0 σ328 τ _ _ _ _ rfl ⟨rfl, (fun i hi => ((f330 i hi).trans ((f300 i hi).trans ((f284 i hi).trans ((jnp i eσ274 (imp_165 i hi)).trans (jnp i eσ270 (imp_165 i hi))))))), (fun i hi => ((f331 i (imp_172 i hi)).trans ((f301 i (imp_173 i hi)).trans ((f285 i hi).trans ((jkp i eσ274 (imp_171 i hi)).trans (jkp i eσ270 (imp_170 i hi))))))), I332, (by omega), (by omega), trivial⟩ hP hS dX12_one_103
         · have kc267 := jeq c267 rfl jz_6
           refine lv_aload_n hx hb dX12_one_41 rfl (lv_at hl 1 rfl) ?_
           refine jcallV (As := []) (rest := []) ⟨hx, hb, hml, hown, hts⟩ hK hP hA hS hZ (c_X12_wrong l D cI cL ad zz hJ σ τ hI121) cw_RX12_214 (jc_55 cI cL ad σ τ) rfl ⟨by dsimp only; omega, by dsimp only; omega⟩ rfl rfl rfl hl.1 rfl (Nat.le_of_ble_eq_true rfl) dX12_one_42 ⟨Nat.zero_le _, Nat.zero_le _⟩ (fun r349 σ348 τ348 H locs h348 hP hS => ?_)
           obtain ⟨rfl, f350, f351, I352, h348⟩ := h348
           obtain ⟨i354, i355, i356, i357, i358⟩ : ((-1) ≤ (σ348 55 18).toInt ∧ (σ348 55 18).toInt ≤ 80) ∧ (0 ≤ (σ348 55 19).toInt) ∧ ((σ348 55 19).toInt ≤ (σ348 55 20).toInt) ∧ ((σ348 55 20).toInt ≤ 80) ∧ ((-1) ≤ (σ348 55 21).toInt) := id I352
           have z359 : (σ348 55 18).toInt = (σ 55 18).toInt := (congrArg Int32.toInt (show σ348 55 18 = (σ 55 18) from (f351 18 (of_decide_eq_true rfl))))
           have z360 : (σ348 55 19).toInt = (σ 55 19).toInt := (congrArg Int32.toInt (show σ348 55 19 = (σ 55 19) from (f351 19 (of_decide_eq_true rfl))))
           have z361 : (σ348 55 20).toInt = (σ 55 20).toInt := (congrArg Int32.toInt (show σ348 55 20 = (σ 55 20) from (f351 20 (of_decide_eq_true rfl))))
           obtain ⟨k362, k363, h348⟩ := h348
           have h364 := h348
           obtain ⟨q366, k365⟩ := h364
           have q366 := q366.symm
           subst q366
           have z367 : (σ348 55 22).toInt = (σ 55 22).toInt := (congrArg Int32.toInt (show σ348 55 22 = (σ 55 22) from (f351 22 (of_decide_eq_true rfl))))
           exact by exact hret 0 σ348 τ _ _ _ _ rfl ⟨rfl, (fun i hi => (f350 i hi)), (fun i hi => (f351 i (imp_172 i hi))), I352, (by omega), (by omega), trivial⟩ hP hS dX12_one_45
set_option maxHeartbeats 4000000 in
set_option maxRecDepth 100000 in
theorem c_X12_grammar_one_z (l : Launch) (D : va_G) (cI cL : ClassId) (ad zz : Nat → Nat) (hJ : jD ad) (σ : Nat → Nat → Int32) (τ : Nat → Nat → Int64) (hI121 : jI121 σ) (hp0 : (σ 55 21).toInt = (-1)) (hp1 : 0 ≤ (σ 55 22).toInt ∧ (σ 55 22).toInt ≤ 6) (hp2 : -(σ 55 22).toInt + 6 ≤ (((0) : Nat) : Int)) : jM l yX12_one cX12_one 5 (some .int) ({ frames := (10 + 8 * (0)), cells := 0, slots := 0, locals := (400 + 360 * (0)) }) D cI cL ad zz [.ref (ad 55)] σ τ (fun r σ' τ' => τ = τ' ∧ (∀ i : Nat, (i < 55 ∨ 55 < i) → σ' i = σ i) ∧ (∀ k : Nat, (k < 19 ∨ 19 < k) ∧ (k < 21 ∨ 21 < k) ∧ (k < 22 ∨ 22 < k) → σ' 55 k = σ 55 k) ∧ (jI121 σ') ∧ (((σ' 55 21).toInt = (-1) ∧ (σ' 55 22).toInt = (σ 55 22).toInt) ∨ (0 ≤ (σ' 55 21).toInt)) ∧ ((σ 55 19).toInt ≤ (σ' 55 19).toInt) ∧ True) := by
  refine jM.of hJ (by decide +kernel) (nt := .int) rfl (Nat.le_of_ble_eq_true rfl) ?_
  intro p e s m args below meth c Q ls hC hret hl hP
  obtain ⟨hx, hb, hr, hml, hown, hts, hK, -, hlocks, hZ⟩ := hC
  have hown : s.vm.findClass RX12 = some m.cls := hown
  have hS : va_S (jA ad) s.heap s.heap [] := va_S.rf
  have hA : ∀ q, jA ad q → jA ad q := fun _ h => h
  have hl : lv_has ls 5 [(0, .ref (ad 55))] := hl
  obtain ⟨i1, i2, i3, i4, i5⟩ : ((-1) ≤ (σ 55 18).toInt ∧ (σ 55 18).toInt ≤ 80) ∧ (0 ≤ (σ 55 19).toInt) ∧ ((σ 55 19).toInt ≤ (σ 55 20).toInt) ∧ ((σ 55 20).toInt ≤ 80) ∧ ((-1) ≤ (σ 55 21).toInt) := id hI121
  refine lv_aload_n hx hb dX12_one_0 rfl (lv_at hl 0 rfl) ?_
  refine va_get (D := D) hx hb hts inlX12 hown hK hP 55 (jc_55 cI cL ad σ τ) rfl 21 (of_decide_eq_true rfl) (hts _ kw_15_13) (fun _ h9 => h9) rfl dX12_one_1 ?_
  exact by
   refine lv_if_lt (tgt := 9) hx hb dX12_one_4 (of_decide_eq_true rfl) (fun c6 => ?_) (fun c => absurd (jnlt c rfl jz_0) (by omega))
   have kc6 := jlt c6 rfl jz_0
   refine lv_aload_n hx hb dX12_one_9 rfl (lv_at hl 0 rfl) ?_
   refine jcallV (As := []) (rest := []) ⟨hx, hb, hml, hown, hts⟩ hK hP hA hS hZ (c_X12_byteAt l D cI cL ad zz hJ σ τ hI121) cw_RX12_189 (jc_55 cI cL ad σ τ) rfl ⟨by dsimp only; omega, by dsimp only; omega⟩ rfl rfl rfl hl.1 rfl (Nat.le_of_ble_eq_true rfl) dX12_one_10 ⟨Nat.zero_le _, Nat.zero_le _⟩ (fun r8 σ7 τ7 H locs h7 hP hS => ?_)
   obtain ⟨⟨rfl, rfl⟩, h7⟩ := h7
   have h9 := h7
   obtain ⟨q11, k10⟩ := h9
   refine lv_istore_n (lv' := [(1, .int r8), (0, .ref (ad 55))]) hx hb dX12_one_13 rfl hl (of_decide_eq_true rfl) rfl (fun ls hl => ?_)
   refine lv_iload_n hx hb dX12_one_14 rfl (lv_at hl 0 rfl) ?_
   refine lv_bipush (v := 33) hx hb dX12_one_15 (of_decide_eq_true rfl) ?_
   refine lv_icmp_eq (tgt := 32) hx hb dX12_one_17 (of_decide_eq_true rfl) (fun c12 => ?_) (fun c12 => ?_)
   · have kc12 := jeq c12 rfl jz_33
     refine lv_aload_n hx hb dX12_one_32 rfl (lv_at hl 1 rfl) ?_
     refine va_get (D := D) hx hb hts inlX12 hown hK hP 55 (jc_55 cI cL ad σ τ) rfl 22 (of_decide_eq_true rfl) (hts _ kw_18_21) (fun _ h9 => h9) rfl dX12_one_33 ?_
     refine lv_bipush (v := 6) hx hb dX12_one_36 (of_decide_eq_true rfl) ?_
     exact by
      refine lv_icmp_ne (tgt := 46) hx hb dX12_one_38 (of_decide_eq_true rfl) (fun c => absurd (jne c rfl jz_6) (by omega)) (fun c13 => ?_)
      have kc13 := jeq c13 rfl jz_6
      refine lv_aload_n hx hb dX12_one_41 rfl (lv_at hl 1 rfl) ?_
      refine jcallV (As := []) (rest := []) ⟨hx, hb, hml, hown, hts⟩ hK hP hA hS hZ (c_X12_wrong l D cI cL ad zz hJ σ τ hI121) cw_RX12_214 (jc_55 cI cL ad σ τ) rfl ⟨by dsimp only; omega, by dsimp only; omega⟩ rfl rfl rfl hl.1 rfl (Nat.le_of_ble_eq_true rfl) dX12_one_42 ⟨Nat.zero_le _, Nat.zero_le _⟩ (fun r15 σ14 τ14 H locs h14 hP hS => ?_)
      obtain ⟨rfl, f16, f17, I18, h14⟩ := h14
      obtain ⟨i20, i21, i22, i23, i24⟩ : ((-1) ≤ (σ14 55 18).toInt ∧ (σ14 55 18).toInt ≤ 80) ∧ (0 ≤ (σ14 55 19).toInt) ∧ ((σ14 55 19).toInt ≤ (σ14 55 20).toInt) ∧ ((σ14 55 20).toInt ≤ 80) ∧ ((-1) ≤ (σ14 55 21).toInt) := id I18
      have z25 : (σ14 55 18).toInt = (σ 55 18).toInt := (congrArg Int32.toInt (show σ14 55 18 = (σ 55 18) from (f17 18 (of_decide_eq_true rfl))))
      have z26 : (σ14 55 19).toInt = (σ 55 19).toInt := (congrArg Int32.toInt (show σ14 55 19 = (σ 55 19) from (f17 19 (of_decide_eq_true rfl))))
      have z27 : (σ14 55 20).toInt = (σ 55 20).toInt := (congrArg Int32.toInt (show σ14 55 20 = (σ 55 20) from (f17 20 (of_decide_eq_true rfl))))
      obtain ⟨k28, k29, h14⟩ := h14
      have h30 := h14
      obtain ⟨q32, k31⟩ := h30
      have q32 := q32.symm
      subst q32
      have z33 : (σ14 55 22).toInt = (σ 55 22).toInt := (congrArg Int32.toInt (show σ14 55 22 = (σ 55 22) from (f17 22 (of_decide_eq_true rfl))))
      exact by exact hret 0 σ14 τ _ _ _ _ rfl ⟨rfl, (fun i hi => (f16 i hi)), (fun i hi => (f17 i (imp_172 i hi))), I18, (by omega), (by omega), trivial⟩ hP hS dX12_one_45
   · have kc12 := jne c12 rfl jz_33
     refine lv_iload_n hx hb dX12_one_20 rfl (lv_at hl 0 rfl) ?_
     refine lv_bipush (v := 45) hx hb dX12_one_21 (of_decide_eq_true rfl) ?_
     refine lv_icmp_eq (tgt := 32) hx hb dX12_one_23 (of_decide_eq_true rfl) (fun c34 => ?_) (fun c34 => ?_)
     · have kc34 := jeq c34 rfl jz_45
       refine lv_aload_n hx hb dX12_one_32 rfl (lv_at hl 1 rfl) ?_
       refine va_get (D := D) hx hb hts inlX12 hown hK hP 55 (jc_55 cI cL ad σ τ) rfl 22 (of_decide_eq_true rfl) (hts _ kw_18_21) (fun _ h9 => h9) rfl dX12_one_33 ?_
       refine lv_bipush (v := 6) hx hb dX12_one_36 (of_decide_eq_true rfl) ?_
       exact by
        refine lv_icmp_ne (tgt := 46) hx hb dX12_one_38 (of_decide_eq_true rfl) (fun c => absurd (jne c rfl jz_6) (by omega)) (fun c35 => ?_)
        have kc35 := jeq c35 rfl jz_6
        refine lv_aload_n hx hb dX12_one_41 rfl (lv_at hl 1 rfl) ?_
        refine jcallV (As := []) (rest := []) ⟨hx, hb, hml, hown, hts⟩ hK hP hA hS hZ (c_X12_wrong l D cI cL ad zz hJ σ τ hI121) cw_RX12_214 (jc_55 cI cL ad σ τ) rfl ⟨by dsimp only; omega, by dsimp only; omega⟩ rfl rfl rfl hl.1 rfl (Nat.le_of_ble_eq_true rfl) dX12_one_42 ⟨Nat.zero_le _, Nat.zero_le _⟩ (fun r37 σ36 τ36 H locs h36 hP hS => ?_)
        obtain ⟨rfl, f38, f39, I40, h36⟩ := h36
        obtain ⟨i42, i43, i44, i45, i46⟩ : ((-1) ≤ (σ36 55 18).toInt ∧ (σ36 55 18).toInt ≤ 80) ∧ (0 ≤ (σ36 55 19).toInt) ∧ ((σ36 55 19).toInt ≤ (σ36 55 20).toInt) ∧ ((σ36 55 20).toInt ≤ 80) ∧ ((-1) ≤ (σ36 55 21).toInt) := id I40
        have z47 : (σ36 55 18).toInt = (σ 55 18).toInt := (congrArg Int32.toInt (show σ36 55 18 = (σ 55 18) from (f39 18 (of_decide_eq_true rfl))))
        have z48 : (σ36 55 19).toInt = (σ 55 19).toInt := (congrArg Int32.toInt (show σ36 55 19 = (σ 55 19) from (f39 19 (of_decide_eq_true rfl))))
        have z49 : (σ36 55 20).toInt = (σ 55 20).toInt := (congrArg Int32.toInt (show σ36 55 20 = (σ 55 20) from (f39 20 (of_decide_eq_true rfl))))
        obtain ⟨k50, k51, h36⟩ := h36
        have h52 := h36
        obtain ⟨q54, k53⟩ := h52
        have q54 := q54.symm
        subst q54
        have z55 : (σ36 55 22).toInt = (σ 55 22).toInt := (congrArg Int32.toInt (show σ36 55 22 = (σ 55 22) from (f39 22 (of_decide_eq_true rfl))))
        exact by exact hret 0 σ36 τ _ _ _ _ rfl ⟨rfl, (fun i hi => (f38 i hi)), (fun i hi => (f39 i (imp_172 i hi))), I40, (by omega), (by omega), trivial⟩ hP hS dX12_one_45
     · have kc34 := jne c34 rfl jz_45
       refine lv_iload_n hx hb dX12_one_26 rfl (lv_at hl 0 rfl) ?_
       refine lv_bipush (v := 40) hx hb dX12_one_27 (of_decide_eq_true rfl) ?_
       refine lv_icmp_ne (tgt := 145) hx hb dX12_one_29 (of_decide_eq_true rfl) (fun c56 => ?_) (fun c56 => ?_)
       · have kc56 := jne c56 rfl jz_40
         refine lv_iload_n hx hb dX12_one_145 rfl (lv_at hl 0 rfl) ?_
         refine jcallS (As := [.int r8]) (rest := []) ⟨hx, hb, hml, hown, hts⟩ hK hP hA hS hZ (c_X12_nameOf l D cI cL ad zz hJ σ τ r8 (r8.toInt) rfl) cw_RX12_220 ⟨by dsimp only; omega, by dsimp only; omega⟩ rfl rfl rfl hl.1 rfl (Nat.le_of_ble_eq_true rfl) dX12_one_146 ⟨Nat.zero_le _, Nat.zero_le _⟩ (fun r58 σ57 τ57 H locs h57 hP hS => ?_)
         obtain ⟨⟨rfl, rfl⟩, h57⟩ := h57
         rcases h57 with h59 | h60
         · obtain ⟨q63, k61, k62⟩ := h59
           refine lv_istore_n (lv' := [(2, .int r58), (1, .int r8), (0, .ref (ad 55))]) hx hb dX12_one_149 rfl hl (of_decide_eq_true rfl) rfl (fun ls hl => ?_)
           refine lv_iload_n hx hb dX12_one_150 rfl (lv_at hl 0 rfl) ?_
           exact by
            refine lv_if_lt (tgt := 171) hx hb dX12_one_151 (of_decide_eq_true rfl) (fun c => absurd (jlt c rfl jz_0) (by omega)) (fun c64 => ?_)
            have kc64 := jnlt c64 rfl jz_0
            refine lv_aload_n hx hb dX12_one_154 rfl (lv_at hl 2 rfl) ?_
            refine lv_dup hx hb dX12_one_155 rfl ?_
            refine va_get (D := D) hx hb hts inlX12 hown hK hP 55 (jc_55 cI cL ad σ τ) rfl 19 (of_decide_eq_true rfl) (hts _ kw_15_11) (fun _ h9 => h9) rfl dX12_one_156 ?_
            refine lv_iconst (v := 1) hx hb dX12_one_159 (of_decide_eq_true rfl) ?_
            have g65 := jrg (rfl : (σ 55 19).toInt = (σ 55 19).toInt)
            refine lv_iadd hx hb dX12_one_160 ?_
            refine lv_topi (fun x66 ex66 => ?_)
            exact by
             have tx66 : x66.toInt = (σ 55 19).toInt + 1 := (jadd ex66 rfl jz_1 (by omega) (by omega)).trans (by omega)
             refine jput (ty := .int) hx hb hts inlX12 tyX12 tyX12_ok nmX12 hown hK hP hJ hA hS (jc_55 cI cL ad σ τ) rfl (k := 19) (of_decide_eq_true rfl) (Nat.le_of_ble_eq_true rfl) (jp_55_19 cI cL ad σ τ x66) (hts _ kw_15_11) (fun _ h9 => h9) rfl (by decide +kernel) rfl rfl dX12_one_161 (fun σ67 H locs eσ67 hP hS => ?_)
             refine lv_aload_n hx hb dX12_one_164 rfl (lv_at hl 2 rfl) ?_
             refine va_get (D := D) hx hb hts inlX12 hown hK hP 55 (jc_55 cI cL ad σ67 τ) rfl 23 (of_decide_eq_true rfl) (hts _ kw_7_12) (fun _ h9 => h9) rfl dX12_one_165 ?_
             refine lv_iload_n hx hb dX12_one_168 rfl (lv_at hl 0 rfl) ?_
             refine jald hx hb hK hP (jc_66 cI cL ad σ67 τ) (jin rfl (by omega) (by omega)) dX12_one_169 ?_
             refine lv_topi (fun x68 ex68 => ?_)
             have z69 : (σ67 55 18).toInt = (σ 55 18).toInt := (congrArg Int32.toInt (show σ67 55 18 = (σ 55 18) from (jkp 18 eσ67 (of_decide_eq_true rfl))))
             have z70 : (σ67 55 19).toInt = (σ 55 19).toInt + 1 := ((congrArg Int32.toInt (show σ67 55 19 = x66 from (jsp eσ67))).trans tx66)
             exact by
              have z71 : (σ67 55 20).toInt = (σ 55 20).toInt := (congrArg Int32.toInt (show σ67 55 20 = (σ 55 20) from (jkp 20 eσ67 (of_decide_eq_true rfl))))
              have z72 : (σ67 55 21).toInt = (σ 55 21).toInt := (congrArg Int32.toInt (show σ67 55 21 = (σ 55 21) from (jkp 21 eσ67 (of_decide_eq_true rfl))))
              have I73 : jI121 σ67 := ⟨(by omega), (by omega), (by omega), (by omega), (by omega)⟩
              have z74 : (σ67 55 22).toInt = (σ 55 22).toInt := (congrArg Int32.toInt (show σ67 55 22 = (σ 55 22) from (jkp 22 eσ67 (of_decide_eq_true rfl))))
              exact by exact hret x68 σ67 τ _ _ _ _ rfl ⟨rfl, (fun i hi => (jnp i eσ67 (imp_165 i hi))), (fun i hi => (jkp i eσ67 (imp_171 i hi))), I73, (by omega), (by omega), trivial⟩ hP hS dX12_one_170
         · obtain ⟨q76, k75⟩ := h60
           have q76 := q76.symm
           subst q76
           refine lv_istore_n (lv' := [(2, .int (-1)), (1, .int r8), (0, .ref (ad 55))]) hx hb dX12_one_149 rfl hl (of_decide_eq_true rfl) rfl (fun ls hl => ?_)
           exact by
            refine lv_iload_n hx hb dX12_one_150 rfl (lv_at hl 0 rfl) ?_
            refine lv_if_lt (tgt := 171) hx hb dX12_one_151 (of_decide_eq_true rfl) (fun _ => ?_) (fun c => absurd (of_decide_eq_true rfl) c)
            refine lv_iconst (v := 0) hx hb dX12_one_171 (of_decide_eq_true rfl) ?_
            refine lv_istore_n (lv' := [(3, .int 0), (2, .int (-1)), (1, .int r8), (0, .ref (ad 55))]) hx hb dX12_one_172 rfl hl (of_decide_eq_true rfl) rfl (fun ls hl => ?_)
            refine lv_iconst (v := 0) hx hb dX12_one_173 (of_decide_eq_true rfl) ?_
            refine lv_istore (lv' := [(4, .int 0), (3, .int 0), (2, .int (-1)), (1, .int r8), (0, .ref (ad 55))]) hx hb dX12_one_174 hl (of_decide_eq_true rfl) rfl (fun ls hl => ?_)
            have lp77 : ∀ (n78 : Nat) (x79 : Int32) (x80 : Int32) (σ81 : Nat → Nat → Int32) (H : Heap) (locs : List Loc) (ls : Array Slot), (-x80.toInt + 4 : Int) < n78 → 0 ≤ x80.toInt → x80.toInt ≤ 4 → (-1) ≤ (σ81 55 18).toInt ∧ (σ81 55 18).toInt ≤ 80 → 0 ≤ (σ81 55 19).toInt → (σ81 55 19).toInt ≤ (σ81 55 20).toInt → (σ81 55 20).toInt ≤ 80 → (-1) ≤ (σ81 55 21).toInt → (σ 55 19).toInt ≤ (σ81 55 19).toInt → (σ81 55 21).toInt = (-1) → (∀ i : Nat, (i < 55 ∨ 55 < i) → σ81 i = σ i) → (∀ k : Nat, (k < 19 ∨ 19 < k) → σ81 55 k = σ 55 k) → jH D cI cL ad σ81 τ H → va_S (jA ad) s.heap H locs → lv_has ls 5 [(4, .int x80), (3, .int x79), (2, .int (-1)), (1, .int r8), (0, .ref (ad 55))] → W p l e ({ frames := (10 + 8 * (0)), cells := 0, slots := 0, locals := (400 + 360 * (0)) }) s m args below meth c H locs 0 0 Q (F0 m 176 ls []) := by
              intro n78
              induction n78 with
              | zero => intro x79 x80 σ81 H locs ls h83 h84 h85 h86 h87 h88 h89 h90 h91 h92; have gx79 := jrg (rfl : x79.toInt = x79.toInt); exact absurd h83 (by omega)
              | succ n78 ihlp77 =>
                intro x79 x80 σ81 H locs ls h83 h84 h85 h86 h87 h88 h89 h90 h91 h92 f93 f94 hP hS hl
                exact by
                 have gx79 := jrg (rfl : x79.toInt = x79.toInt)
                 have z95 : (σ81 55 18).toInt = (σ 55 18).toInt := (congrArg Int32.toInt (show σ81 55 18 = (σ 55 18) from (f94 18 (of_decide_eq_true rfl))))
                 have z96 : (σ81 55 20).toInt = (σ 55 20).toInt := (congrArg Int32.toInt (show σ81 55 20 = (σ 55 20) from (f94 20 (of_decide_eq_true rfl))))
                 have z97 : (σ81 55 21).toInt = (σ 55 21).toInt := (congrArg Int32.toInt (show σ81 55 21 = (σ 55 21) from (f94 21 (of_decide_eq_true rfl))))
                 refine lv_iload hx hb dX12_one_176 (lv_at hl 0 rfl) ?_
                 refine lv_iconst (v := 4) hx hb dX12_one_178 (of_decide_eq_true rfl) ?_
                 refine lv_icmp_ge (tgt := 229) hx hb dX12_one_179 (of_decide_eq_true rfl) (fun c98 => ?_) (fun c98 => ?_)
                 · have kc98 := jle c98 jz_4 rfl
                   refine lv_iload hx hb dX12_one_229 (lv_at hl 0 rfl) ?_
                   exact by
                    refine lv_if_ne (tgt := 241) hx hb dX12_one_231 (of_decide_eq_true rfl) (fun c99 => ?_) (fun c => absurd (jeq c rfl jz_0) (by omega))
                    have kc99 := jne c99 rfl jz_0
                    refine lv_iload_n hx hb dX12_one_241 rfl (lv_at hl 1 rfl) ?_
                    have I100 : jI121 σ81 := ⟨(by omega), (by omega), (by omega), (by omega), (by omega)⟩
                    have z101 : (σ81 55 22).toInt = (σ 55 22).toInt := (congrArg Int32.toInt (show σ81 55 22 = (σ 55 22) from (f94 22 (of_decide_eq_true rfl))))
                    exact by exact hret x79 σ81 τ _ _ _ _ rfl ⟨rfl, (fun i hi => (f93 i hi)), (fun i hi => (f94 i (imp_173 i hi))), I100, (by omega), (by omega), trivial⟩ hP hS dX12_one_242
                 · have kc98 := jnle c98 jz_4 rfl
                   refine lv_aload_n hx hb dX12_one_182 rfl (lv_at hl 4 rfl) ?_
                   have I102 : jI121 σ81 := ⟨(by omega), (by omega), (by omega), (by omega), (by omega)⟩
                   exact by
                    refine jcallV (As := []) (rest := []) ⟨hx, hb, hml, hown, hts⟩ hK hP hA hS hZ (c_X12_byteAt l D cI cL ad zz hJ σ81 τ I102) cw_RX12_189 (jc_55 cI cL ad σ81 τ) rfl ⟨by dsimp only; omega, by dsimp only; omega⟩ rfl rfl rfl hl.1 rfl (Nat.le_of_ble_eq_true rfl) dX12_one_183 ⟨Nat.zero_le _, Nat.zero_le _⟩ (fun r104 σ103 τ103 H locs h103 hP hS => ?_)
                    obtain ⟨⟨rfl, rfl⟩, h103⟩ := h103
                    have h105 := h103
                    obtain ⟨q107, k106⟩ := h105
                    refine lv_bipush (v := 48) hx hb dX12_one_186 (of_decide_eq_true rfl) ?_
                    refine lv_icmp_lt (tgt := 229) hx hb dX12_one_188 (of_decide_eq_true rfl) (fun c108 => ?_) (fun c108 => ?_)
                    · have kc108 := jlt c108 rfl jz_48
                      refine lv_iload hx hb dX12_one_229 (lv_at hl 0 rfl) ?_
                      refine lv_if_ne (tgt := 241) hx hb dX12_one_231 (of_decide_eq_true rfl) (fun c109 => ?_) (fun c109 => ?_)
                      · have kc109 := jne c109 rfl jz_0
                        refine lv_iload_n hx hb dX12_one_241 rfl (lv_at hl 1 rfl) ?_
                        have z110 : (σ81 55 22).toInt = (σ 55 22).toInt := (congrArg Int32.toInt (show σ81 55 22 = (σ 55 22) from (f94 22 (of_decide_eq_true rfl))))
                        exact by exact hret x79 σ81 τ _ _ _ _ rfl ⟨rfl, (fun i hi => (f93 i hi)), (fun i hi => (f94 i (imp_173 i hi))), I102, (by omega), (by omega), trivial⟩ hP hS dX12_one_242
                      · have kc109 := jeq c109 rfl jz_0
                        refine lv_aload_n hx hb dX12_one_234 rfl (lv_at hl 4 rfl) ?_
                        refine jcallV (As := []) (rest := []) ⟨hx, hb, hml, hown, hts⟩ hK hP hA hS hZ (c_X12_wrong l D cI cL ad zz hJ σ81 τ I102) cw_RX12_214 (jc_55 cI cL ad σ81 τ) rfl ⟨by dsimp only; omega, by dsimp only; omega⟩ rfl rfl rfl hl.1 rfl (Nat.le_of_ble_eq_true rfl) dX12_one_235 ⟨Nat.zero_le _, Nat.zero_le _⟩ (fun r112 σ111 τ111 H locs h111 hP hS => ?_)
                        obtain ⟨rfl, f113, f114, I115, h111⟩ := h111
                        obtain ⟨i117, i118, i119, i120, i121⟩ : ((-1) ≤ (σ111 55 18).toInt ∧ (σ111 55 18).toInt ≤ 80) ∧ (0 ≤ (σ111 55 19).toInt) ∧ ((σ111 55 19).toInt ≤ (σ111 55 20).toInt) ∧ ((σ111 55 20).toInt ≤ 80) ∧ ((-1) ≤ (σ111 55 21).toInt) := id I115
                        have z122 : (σ111 55 18).toInt = (σ 55 18).toInt := (congrArg Int32.toInt (show σ111 55 18 = (σ 55 18) from ((f114 18 (of_decide_eq_true rfl)).trans (f94 18 (of_decide_eq_true rfl)))))
                        have z123 : (σ111 55 19).toInt = (σ81 55 19).toInt := (congrArg Int32.toInt (show σ111 55 19 = (σ81 55 19) from (f114 19 (of_decide_eq_true rfl))))
                        have z124 : (σ111 55 20).toInt = (σ 55 20).toInt := (congrArg Int32.toInt (show σ111 55 20 = (σ 55 20) from ((f114 20 (of_decide_eq_true rfl)).trans (f94 20 (of_decide_eq_true rfl)))))
                        obtain ⟨k125, k126, h111⟩ := h111
                        have h127 := h111
                        obtain ⟨q129, k128⟩ := h127
                        have q129 := q129.symm
                        subst q129
                        refine lv_goto (tgt := 242) hx hb dX12_one_238 (of_decide_eq_true rfl) ?_
                        have z130 : (σ111 55 22).toInt = (σ 55 22).toInt := (congrArg Int32.toInt (show σ111 55 22 = (σ 55 22) from ((f114 22 (of_decide_eq_true rfl)).trans (f94 22 (of_decide_eq_true rfl)))))
                        exact by exact hret 0 σ111 τ _ _ _ _ rfl ⟨rfl, (fun i hi => ((f113 i hi).trans (f93 i hi))), (fun i hi => ((f114 i (imp_172 i hi)).trans (f94 i (imp_173 i hi)))), I115, (by omega), (by omega), trivial⟩ hP hS dX12_one_242
                    · have kc108 := jnlt c108 rfl jz_48
                      refine lv_aload_n hx hb dX12_one_191 rfl (lv_at hl 4 rfl) ?_
                      refine jcallV (As := []) (rest := []) ⟨hx, hb, hml, hown, hts⟩ hK hP hA hS hZ (c_X12_byteAt l D cI cL ad zz hJ σ81 τ I102) cw_RX12_189 (jc_55 cI cL ad σ81 τ) rfl ⟨by dsimp only; omega, by dsimp only; omega⟩ rfl rfl rfl hl.1 rfl (Nat.le_of_ble_eq_true rfl) dX12_one_192 ⟨Nat.zero_le _, Nat.zero_le _⟩ (fun r132 σ131 τ131 H locs h131 hP hS => ?_)
                      obtain ⟨⟨rfl, rfl⟩, h131⟩ := h131
                      have h133 := h131
                      obtain ⟨q135, k134⟩ := h133
                      refine lv_bipush (v := 57) hx hb dX12_one_195 (of_decide_eq_true rfl) ?_
                      refine lv_icmp_gt (tgt := 229) hx hb dX12_one_197 (of_decide_eq_true rfl) (fun c136 => ?_) (fun c136 => ?_)
                      · have kc136 := jlt c136 jz_57 rfl
                        refine lv_iload hx hb dX12_one_229 (lv_at hl 0 rfl) ?_
                        refine lv_if_ne (tgt := 241) hx hb dX12_one_231 (of_decide_eq_true rfl) (fun c137 => ?_) (fun c137 => ?_)
                        · have kc137 := jne c137 rfl jz_0
                          refine lv_iload_n hx hb dX12_one_241 rfl (lv_at hl 1 rfl) ?_
                          have z138 : (σ81 55 22).toInt = (σ 55 22).toInt := (congrArg Int32.toInt (show σ81 55 22 = (σ 55 22) from (f94 22 (of_decide_eq_true rfl))))
                          exact by exact hret x79 σ81 τ _ _ _ _ rfl ⟨rfl, (fun i hi => (f93 i hi)), (fun i hi => (f94 i (imp_173 i hi))), I102, (by omega), (by omega), trivial⟩ hP hS dX12_one_242
                        · have kc137 := jeq c137 rfl jz_0
                          refine lv_aload_n hx hb dX12_one_234 rfl (lv_at hl 4 rfl) ?_
                          refine jcallV (As := []) (rest := []) ⟨hx, hb, hml, hown, hts⟩ hK hP hA hS hZ (c_X12_wrong l D cI cL ad zz hJ σ81 τ I102) cw_RX12_214 (jc_55 cI cL ad σ81 τ) rfl ⟨by dsimp only; omega, by dsimp only; omega⟩ rfl rfl rfl hl.1 rfl (Nat.le_of_ble_eq_true rfl) dX12_one_235 ⟨Nat.zero_le _, Nat.zero_le _⟩ (fun r140 σ139 τ139 H locs h139 hP hS => ?_)
                          obtain ⟨rfl, f141, f142, I143, h139⟩ := h139
                          obtain ⟨i145, i146, i147, i148, i149⟩ : ((-1) ≤ (σ139 55 18).toInt ∧ (σ139 55 18).toInt ≤ 80) ∧ (0 ≤ (σ139 55 19).toInt) ∧ ((σ139 55 19).toInt ≤ (σ139 55 20).toInt) ∧ ((σ139 55 20).toInt ≤ 80) ∧ ((-1) ≤ (σ139 55 21).toInt) := id I143
                          have z150 : (σ139 55 18).toInt = (σ 55 18).toInt := (congrArg Int32.toInt (show σ139 55 18 = (σ 55 18) from ((f142 18 (of_decide_eq_true rfl)).trans (f94 18 (of_decide_eq_true rfl)))))
                          have z151 : (σ139 55 19).toInt = (σ81 55 19).toInt := (congrArg Int32.toInt (show σ139 55 19 = (σ81 55 19) from (f142 19 (of_decide_eq_true rfl))))
                          have z152 : (σ139 55 20).toInt = (σ 55 20).toInt := (congrArg Int32.toInt (show σ139 55 20 = (σ 55 20) from ((f142 20 (of_decide_eq_true rfl)).trans (f94 20 (of_decide_eq_true rfl)))))
                          obtain ⟨k153, k154, h139⟩ := h139
                          have h155 := h139
                          obtain ⟨q157, k156⟩ := h155
                          have q157 := q157.symm
                          subst q157
                          refine lv_goto (tgt := 242) hx hb dX12_one_238 (of_decide_eq_true rfl) ?_
                          have z158 : (σ139 55 22).toInt = (σ 55 22).toInt := (congrArg Int32.toInt (show σ139 55 22 = (σ 55 22) from ((f142 22 (of_decide_eq_true rfl)).trans (f94 22 (of_decide_eq_true rfl)))))
                          exact by exact hret 0 σ139 τ _ _ _ _ rfl ⟨rfl, (fun i hi => ((f141 i hi).trans (f93 i hi))), (fun i hi => ((f142 i (imp_172 i hi)).trans (f94 i (imp_173 i hi)))), I143, (by omega), (by omega), trivial⟩ hP hS dX12_one_242
                      · have kc136 := jnlt c136 jz_57 rfl
                        refine lv_bipush (v := 10) hx hb dX12_one_200 (of_decide_eq_true rfl) ?_
                        refine lv_iload_n hx hb dX12_one_202 rfl (lv_at hl 1 rfl) ?_
                        have g159 := jrg (rfl : x79.toInt = x79.toInt)
                        refine lv_imul hx hb dX12_one_203 ?_
                        refine lv_topi (fun x160 ex160 => ?_)
                        have gx160 := jrg (rfl : x160.toInt = x160.toInt)
                        refine lv_aload_n hx hb dX12_one_204 rfl (lv_at hl 4 rfl) ?_
                        refine jcallV (As := []) (rest := [.int x160]) ⟨hx, hb, hml, hown, hts⟩ hK hP hA hS hZ (c_X12_byteAt l D cI cL ad zz hJ σ81 τ I102) cw_RX12_189 (jc_55 cI cL ad σ81 τ) rfl ⟨by dsimp only; omega, by dsimp only; omega⟩ rfl rfl rfl hl.1 rfl (Nat.le_of_ble_eq_true rfl) dX12_one_205 ⟨Nat.zero_le _, Nat.zero_le _⟩ (fun r162 σ161 τ161 H locs h161 hP hS => ?_)
                        obtain ⟨⟨rfl, rfl⟩, h161⟩ := h161
                        have h163 := h161
                        obtain ⟨q165, k164⟩ := h163
                        have g166 := jrg (rfl : x160.toInt = x160.toInt)
                        have g167 := jrg (rfl : r162.toInt = r162.toInt)
                        refine lv_iadd hx hb dX12_one_208 ?_
                        refine lv_topi (fun x168 ex168 => ?_)
                        have gx168 := jrg (rfl : x168.toInt = x168.toInt)
                        have g169 := jaddw ex168 rfl rfl
                        refine lv_bipush (v := 48) hx hb dX12_one_209 (of_decide_eq_true rfl) ?_
                        have g170 := jrg (rfl : x168.toInt = x168.toInt)
                        refine lv_isub hx hb dX12_one_211 ?_
                        refine lv_topi (fun x171 ex171 => ?_)
                        have gx171 := jrg (rfl : x171.toInt = x171.toInt)
                        have g172 := jsubw ex171 rfl jz_48
                        refine lv_istore_n (lv' := [(3, .int x171), (4, .int x80), (2, .int (-1)), (1, .int r8), (0, .ref (ad 55))]) hx hb dX12_one_212 rfl hl (of_decide_eq_true rfl) rfl (fun ls hl => ?_)
                        obtain ⟨x173, ex173⟩ : ∃ y : Int32, y = x80 + 1 := ⟨_, rfl⟩
                        exact by
                         have tx173 : x173.toInt = x80.toInt + 1 := (jadd ex173 rfl jz_1 (by omega) (by omega)).trans (by omega)
                         refine lv_iinc (v := x173) (lv' := [(4, .int x173), (3, .int x171), (2, .int (-1)), (1, .int r8), (0, .ref (ad 55))]) hx hb dX12_one_213 hl (k := 1) rfl (by rw [ex173]; rfl) (of_decide_eq_true rfl) rfl (fun ls hl => ?_)
                         refine lv_aload_n hx hb dX12_one_216 rfl (lv_at hl 4 rfl) ?_
                         refine lv_dup hx hb dX12_one_217 rfl ?_
                         refine va_get (D := D) hx hb hts inlX12 hown hK hP 55 (jc_55 cI cL ad σ81 τ) rfl 19 (of_decide_eq_true rfl) (hts _ kw_15_11) (fun _ h9 => h9) rfl dX12_one_218 ?_
                         refine lv_iconst (v := 1) hx hb dX12_one_221 (of_decide_eq_true rfl) ?_
                         have g174 := jrg (rfl : (σ81 55 19).toInt = (σ81 55 19).toInt)
                         refine lv_iadd hx hb dX12_one_222 ?_
                         refine lv_topi (fun x175 ex175 => ?_)
                         exact by
                          have tx175 : x175.toInt = (σ81 55 19).toInt + 1 := (jadd ex175 rfl jz_1 (by omega) (by omega)).trans (by omega)
                          refine jput (ty := .int) hx hb hts inlX12 tyX12 tyX12_ok nmX12 hown hK hP hJ hA hS (jc_55 cI cL ad σ81 τ) rfl (k := 19) (of_decide_eq_true rfl) (Nat.le_of_ble_eq_true rfl) (jp_55_19 cI cL ad σ81 τ x175) (hts _ kw_15_11) (fun _ h9 => h9) rfl (by decide +kernel) rfl rfl dX12_one_223 (fun σ176 H locs eσ176 hP hS => ?_)
                          refine lv_goto (tgt := 176) hx hb dX12_one_226 (of_decide_eq_true rfl) ?_
                          have z177 : (σ176 55 18).toInt = (σ 55 18).toInt := (congrArg Int32.toInt (show σ176 55 18 = (σ 55 18) from ((jkp 18 eσ176 (of_decide_eq_true rfl)).trans (f94 18 (of_decide_eq_true rfl)))))
                          have z178 : (σ176 55 19).toInt = (σ81 55 19).toInt + 1 := ((congrArg Int32.toInt (show σ176 55 19 = x175 from (jsp eσ176))).trans tx175)
                          have z179 : (σ176 55 20).toInt = (σ 55 20).toInt := (congrArg Int32.toInt (show σ176 55 20 = (σ 55 20) from ((jkp 20 eσ176 (of_decide_eq_true rfl)).trans (f94 20 (of_decide_eq_true rfl)))))
                          have z180 : (σ176 55 21).toInt = (σ 55 21).toInt := (congrArg Int32.toInt (show σ176 55 21 = (σ 55 21) from ((jkp 21 eσ176 (of_decide_eq_true rfl)).trans (f94 21 (of_decide_eq_true rfl)))))
                          exact by exact ihlp77 x171 x173 σ176 _ _ ls (by have h91 := tx173; omega) (by have h91 := tx173; omega) (by have h91 := tx173; omega) (by have h91 := tx173; omega) (by have h91 := tx173; omega) (by have h91 := tx173; omega) (by have h91 := tx173; omega) (by have h91 := tx173; omega) (by have h91 := tx173; omega) (by have h91 := tx173; omega) (fun i hi => ((jnp i eσ176 (imp_165 i hi)).trans (f93 i hi))) (fun i hi => ((jkp i eσ176 (imp_169 i hi)).trans (f94 i hi)))   hP hS (lv_sub hl [0, 1, 2, 3, 4] rfl)
            exact by exact lp77 1000000 0 0 σ _ _ ls (by have h90 := jz_0; have h91 := jz_0; omega) (by have h90 := jz_0; have h91 := jz_0; omega) (by have h90 := jz_0; have h91 := jz_0; omega) (by have h90 := jz_0; have h91 := jz_0; omega) (by have h90 := jz_0; have h91 := jz_0; omega) (by have h90 := jz_0; have h91 := jz_0; omega) (by have h90 := jz_0; have h91 := jz_0; omega) (by have h90 := jz_0; have h91 := jz_0; omega) (by have h90 := jz_0; have h91 := jz_0; omega) (by have h90 := jz_0; have h91 := jz_0; omega) (fun _ _ => rfl) (fun _ _ => rfl)   hP hS hl
       · have kc56 := jeq c56 rfl jz_40
         refine lv_aload_n hx hb dX12_one_32 rfl (lv_at hl 1 rfl) ?_
         refine va_get (D := D) hx hb hts inlX12 hown hK hP 55 (jc_55 cI cL ad σ τ) rfl 22 (of_decide_eq_true rfl) (hts _ kw_18_21) (fun _ h9 => h9) rfl dX12_one_33 ?_
         refine lv_bipush (v := 6) hx hb dX12_one_36 (of_decide_eq_true rfl) ?_
         exact by
          refine lv_icmp_ne (tgt := 46) hx hb dX12_one_38 (of_decide_eq_true rfl) (fun c => absurd (jne c rfl jz_6) (by omega)) (fun c181 => ?_)
          have kc181 := jeq c181 rfl jz_6
          refine lv_aload_n hx hb dX12_one_41 rfl (lv_at hl 1 rfl) ?_
          refine jcallV (As := []) (rest := []) ⟨hx, hb, hml, hown, hts⟩ hK hP hA hS hZ (c_X12_wrong l D cI cL ad zz hJ σ τ hI121) cw_RX12_214 (jc_55 cI cL ad σ τ) rfl ⟨by dsimp only; omega, by dsimp only; omega⟩ rfl rfl rfl hl.1 rfl (Nat.le_of_ble_eq_true rfl) dX12_one_42 ⟨Nat.zero_le _, Nat.zero_le _⟩ (fun r183 σ182 τ182 H locs h182 hP hS => ?_)
          obtain ⟨rfl, f184, f185, I186, h182⟩ := h182
          obtain ⟨i188, i189, i190, i191, i192⟩ : ((-1) ≤ (σ182 55 18).toInt ∧ (σ182 55 18).toInt ≤ 80) ∧ (0 ≤ (σ182 55 19).toInt) ∧ ((σ182 55 19).toInt ≤ (σ182 55 20).toInt) ∧ ((σ182 55 20).toInt ≤ 80) ∧ ((-1) ≤ (σ182 55 21).toInt) := id I186
          have z193 : (σ182 55 18).toInt = (σ 55 18).toInt := (congrArg Int32.toInt (show σ182 55 18 = (σ 55 18) from (f185 18 (of_decide_eq_true rfl))))
          have z194 : (σ182 55 19).toInt = (σ 55 19).toInt := (congrArg Int32.toInt (show σ182 55 19 = (σ 55 19) from (f185 19 (of_decide_eq_true rfl))))
          have z195 : (σ182 55 20).toInt = (σ 55 20).toInt := (congrArg Int32.toInt (show σ182 55 20 = (σ 55 20) from (f185 20 (of_decide_eq_true rfl))))
          obtain ⟨k196, k197, h182⟩ := h182
          have h198 := h182
          obtain ⟨q200, k199⟩ := h198
          have q200 := q200.symm
          subst q200
          have z201 : (σ182 55 22).toInt = (σ 55 22).toInt := (congrArg Int32.toInt (show σ182 55 22 = (σ 55 22) from (f185 22 (of_decide_eq_true rfl))))
          exact by exact hret 0 σ182 τ _ _ _ _ rfl ⟨rfl, (fun i hi => (f184 i hi)), (fun i hi => (f185 i (imp_172 i hi))), I186, (by omega), (by omega), trivial⟩ hP hS dX12_one_45
set_option maxHeartbeats 4000000 in
set_option maxRecDepth 100000 in
theorem c_X12_grammar_product_g (l : Launch) (D : va_G) (cI cL : ClassId) (ad zz : Nat → Nat) (hJ : jD ad) (n : Nat) (h_one : ∀ (σ : Nat → Nat → Int32) (τ : Nat → Nat → Int64) (hI121 : jI121 σ) (hp0 : (σ 55 21).toInt = (-1)) (hp1 : 0 ≤ (σ 55 22).toInt ∧ (σ 55 22).toInt ≤ 6) (hp2 : -(σ 55 22).toInt + 6 ≤ (((n) : Nat) : Int)), jM l yX12_one cX12_one 5 (some .int) ({ frames := (10 + 8 * (n)), cells := 0, slots := 0, locals := (400 + 360 * (n)) }) D cI cL ad zz [.ref (ad 55)] σ τ (fun r σ' τ' => τ = τ' ∧ (∀ i : Nat, (i < 55 ∨ 55 < i) → σ' i = σ i) ∧ (∀ k : Nat, (k < 19 ∨ 19 < k) ∧ (k < 21 ∨ 21 < k) ∧ (k < 22 ∨ 22 < k) → σ' 55 k = σ 55 k) ∧ (jI121 σ') ∧ (((σ' 55 21).toInt = (-1) ∧ (σ' 55 22).toInt = (σ 55 22).toInt) ∨ (0 ≤ (σ' 55 21).toInt)) ∧ ((σ 55 19).toInt ≤ (σ' 55 19).toInt) ∧ True)) (σ : Nat → Nat → Int32) (τ : Nat → Nat → Int64) (hI121 : jI121 σ) (hp0 : (σ 55 21).toInt = (-1)) (hp1 : 0 ≤ (σ 55 22).toInt ∧ (σ 55 22).toInt ≤ 6) (hp2 : -(σ 55 22).toInt + 6 ≤ (((n) : Nat) : Int)) : jM l yX12_product cX12_product 4 (some .int) ({ frames := (11 + 8 * (n)), cells := 0, slots := 0, locals := (440 + 360 * (n)) }) D cI cL ad zz [.ref (ad 55)] σ τ (fun r σ' τ' => τ = τ' ∧ (∀ i : Nat, (i < 55 ∨ 55 < i) → σ' i = σ i) ∧ (∀ k : Nat, (k < 19 ∨ 19 < k) ∧ (k < 21 ∨ 21 < k) ∧ (k < 22 ∨ 22 < k) → σ' 55 k = σ 55 k) ∧ (jI121 σ') ∧ (((σ' 55 21).toInt = (-1) ∧ (σ' 55 22).toInt = (σ 55 22).toInt) ∨ (0 ≤ (σ' 55 21).toInt)) ∧ ((σ 55 19).toInt ≤ (σ' 55 19).toInt) ∧ True) := by
  refine jM.of hJ (by decide +kernel) (nt := .int) rfl (Nat.le_of_ble_eq_true rfl) ?_
  intro p e s m args below meth c Q ls hC hret hl hP
  obtain ⟨hx, hb, hr, hml, hown, hts, hK, -, hlocks, hZ⟩ := hC
  have hown : s.vm.findClass RX12 = some m.cls := hown
  have hS : va_S (jA ad) s.heap s.heap [] := va_S.rf
  have hA : ∀ q, jA ad q → jA ad q := fun _ h => h
  have hl : lv_has ls 4 [(0, .ref (ad 55))] := hl
  obtain ⟨i1, i2, i3, i4, i5⟩ : ((-1) ≤ (σ 55 18).toInt ∧ (σ 55 18).toInt ≤ 80) ∧ (0 ≤ (σ 55 19).toInt) ∧ ((σ 55 19).toInt ≤ (σ 55 20).toInt) ∧ ((σ 55 20).toInt ≤ 80) ∧ ((-1) ≤ (σ 55 21).toInt) := id hI121
  refine lv_aload_n hx hb dX12_product_0 rfl (lv_at hl 0 rfl) ?_
  exact by
   refine jcallV (As := []) (rest := []) ⟨hx, hb, hml, hown, hts⟩ hK hP hA hS hZ (h_one σ τ hI121 (by omega) (by omega) (by omega)) cw_RX12_208 (jc_55 cI cL ad σ τ) rfl ⟨by dsimp only; omega, by dsimp only; omega⟩ rfl rfl rfl hl.1 rfl (Nat.le_of_ble_eq_true rfl) dX12_product_1 ⟨Nat.zero_le _, Nat.zero_le _⟩ (fun r7 σ6 τ6 H locs h6 hP hS => ?_)
   obtain ⟨rfl, f8, f9, I10, h6⟩ := h6
   obtain ⟨i12, i13, i14, i15, i16⟩ : ((-1) ≤ (σ6 55 18).toInt ∧ (σ6 55 18).toInt ≤ 80) ∧ (0 ≤ (σ6 55 19).toInt) ∧ ((σ6 55 19).toInt ≤ (σ6 55 20).toInt) ∧ ((σ6 55 20).toInt ≤ 80) ∧ ((-1) ≤ (σ6 55 21).toInt) := id I10
   have z17 : (σ6 55 18).toInt = (σ 55 18).toInt := (congrArg Int32.toInt (show σ6 55 18 = (σ 55 18) from (f9 18 (of_decide_eq_true rfl))))
   have z18 : (σ6 55 20).toInt = (σ 55 20).toInt := (congrArg Int32.toInt (show σ6 55 20 = (σ 55 20) from (f9 20 (of_decide_eq_true rfl))))
   obtain ⟨k19, k20, h6⟩ := h6
   refine lv_istore_n (lv' := [(1, .int r7), (0, .ref (ad 55))]) hx hb dX12_product_4 rfl hl (of_decide_eq_true rfl) rfl (fun ls hl => ?_)
   refine lv_aload_n hx hb dX12_product_5 rfl (lv_at hl 1 rfl) ?_
   refine jcallV (As := []) (rest := []) ⟨hx, hb, hml, hown, hts⟩ hK hP hA hS hZ (c_X12_byteAt l D cI cL ad zz hJ σ6 τ I10) cw_RX12_189 (jc_55 cI cL ad σ6 τ) rfl ⟨by dsimp only; omega, by dsimp only; omega⟩ rfl rfl rfl hl.1 rfl (Nat.le_of_ble_eq_true rfl) dX12_product_6 ⟨Nat.zero_le _, Nat.zero_le _⟩ (fun r22 σ21 τ21 H locs h21 hP hS => ?_)
   obtain ⟨⟨rfl, rfl⟩, h21⟩ := h21
   have h23 := h21
   obtain ⟨q25, k24⟩ := h23
   refine lv_istore_n (lv' := [(2, .int r22), (1, .int r7), (0, .ref (ad 55))]) hx hb dX12_product_9 rfl hl (of_decide_eq_true rfl) rfl (fun ls hl => ?_)
   have lp26 : ∀ (n27 : Nat) (x28 : Int32) (x29 : Int32) (σ31 : Nat → Nat → Int32) (H : Heap) (locs : List Loc) (ls : Array Slot), ((σ31 55 20).toInt - (σ31 55 19).toInt : Int) < n27 → (-1) ≤ (σ31 55 18).toInt ∧ (σ31 55 18).toInt ≤ 80 → 0 ≤ (σ31 55 19).toInt → (σ31 55 19).toInt ≤ (σ31 55 20).toInt → (σ31 55 20).toInt ≤ 80 → (-1) ≤ (σ31 55 21).toInt → (((σ31 55 21).toInt = (-1) ∧ (σ31 55 22).toInt = (σ 55 22).toInt) ∨ (0 ≤ (σ31 55 21).toInt)) → (σ 55 19).toInt ≤ (σ31 55 19).toInt → ((x29.toInt = 0) ∨ ((σ31 55 19).toInt < (σ31 55 20).toInt)) → (∀ i : Nat, (i < 55 ∨ 55 < i) → σ31 i = σ6 i) → (∀ k : Nat, (k < 19 ∨ 19 < k) ∧ (k < 21 ∨ 21 < k) ∧ (k < 22 ∨ 22 < k) → σ31 55 k = σ6 55 k) → jH D cI cL ad σ31 τ H → va_S (jA ad) s.heap H locs → lv_has ls 4 [(2, .int x29), (1, .int x28), (0, .ref (ad 55))] → W p l e ({ frames := (11 + 8 * (n)), cells := 0, slots := 0, locals := (440 + 360 * (n)) }) s m args below meth c H locs 0 0 Q (F0 m 10 ls []) := by
     intro n27
     induction n27 with
     | zero => intro x28 x29 σ31 H locs ls h33 h34 h35 h36 h37 h38 h39 h40 h41; have gx28 := jrg (rfl : x28.toInt = x28.toInt); have gx29 := jrg (rfl : x29.toInt = x29.toInt); exact absurd h33 (by omega)
     | succ n27 ihlp26 =>
       intro x28 x29 σ31 H locs ls h33 h34 h35 h36 h37 h38 h39 h40 h41 f42 f43 hP hS hl
       exact by
        have gx28 := jrg (rfl : x28.toInt = x28.toInt); have gx29 := jrg (rfl : x29.toInt = x29.toInt)
        have z44 : (σ31 55 20).toInt = (σ 55 20).toInt := (congrArg Int32.toInt (show σ31 55 20 = (σ 55 20) from ((f43 20 (of_decide_eq_true rfl)).trans (f9 20 (of_decide_eq_true rfl)))))
        have z45 : (σ31 55 18).toInt = (σ 55 18).toInt := (congrArg Int32.toInt (show σ31 55 18 = (σ 55 18) from ((f43 18 (of_decide_eq_true rfl)).trans (f9 18 (of_decide_eq_true rfl)))))
        refine lv_aload_n hx hb dX12_product_10 rfl (lv_at hl 2 rfl) ?_
        refine va_get (D := D) hx hb hts inlX12 hown hK hP 55 (jc_55 cI cL ad σ31 τ) rfl 21 (of_decide_eq_true rfl) (hts _ kw_15_13) (fun _ h9 => h9) rfl dX12_product_11 ?_
        refine lv_if_ge (tgt := 94) hx hb dX12_product_14 (of_decide_eq_true rfl) (fun c46 => ?_) (fun c46 => ?_)
        · have kc46 := jle c46 jz_0 rfl
          refine lv_iload_n hx hb dX12_product_94 rfl (lv_at hl 1 rfl) ?_
          have I47 : jI121 σ31 := ⟨(by omega), (by omega), (by omega), (by omega), (by omega)⟩
          exact by exact hret x28 σ31 τ _ _ _ _ rfl ⟨rfl, (fun i hi => ((f42 i hi).trans (f8 i hi))), (fun i hi => ((f43 i hi).trans (f9 i hi))), I47, (by omega), (by omega), trivial⟩ hP hS dX12_product_95
        · exact by
           have kc46 := jnle c46 jz_0 rfl
           refine lv_iload_n hx hb dX12_product_17 rfl (lv_at hl 0 rfl) ?_
           refine lv_bipush (v := 42) hx hb dX12_product_18 (of_decide_eq_true rfl) ?_
           refine lv_icmp_eq (tgt := 35) hx hb dX12_product_20 (of_decide_eq_true rfl) (fun c48 => ?_) (fun c48 => ?_)
           · have kc48 := jeq c48 rfl jz_42
             refine lv_aload_n hx hb dX12_product_35 rfl (lv_at hl 2 rfl) ?_
             refine lv_dup hx hb dX12_product_36 rfl ?_
             refine va_get (D := D) hx hb hts inlX12 hown hK hP 55 (jc_55 cI cL ad σ31 τ) rfl 19 (of_decide_eq_true rfl) (hts _ kw_15_11) (fun _ h9 => h9) rfl dX12_product_37 ?_
             refine lv_iconst (v := 1) hx hb dX12_product_40 (of_decide_eq_true rfl) ?_
             have g49 := jrg (rfl : (σ31 55 19).toInt = (σ31 55 19).toInt)
             refine lv_iadd hx hb dX12_product_41 ?_
             refine lv_topi (fun x50 ex50 => ?_)
             exact by
              have tx50 : x50.toInt = (σ31 55 19).toInt + 1 := (jadd ex50 rfl jz_1 (by omega) (by omega)).trans (by omega)
              refine jput (ty := .int) hx hb hts inlX12 tyX12 tyX12_ok nmX12 hown hK hP hJ hA hS (jc_55 cI cL ad σ31 τ) rfl (k := 19) (of_decide_eq_true rfl) (Nat.le_of_ble_eq_true rfl) (jp_55_19 cI cL ad σ31 τ x50) (hts _ kw_15_11) (fun _ h9 => h9) rfl (by decide +kernel) rfl rfl dX12_product_42 (fun σ51 H locs eσ51 hP hS => ?_)
              refine lv_aload_n hx hb dX12_product_45 rfl (lv_at hl 2 rfl) ?_
              have z52 : (σ51 55 18).toInt = (σ 55 18).toInt := (congrArg Int32.toInt (show σ51 55 18 = (σ 55 18) from ((jkp 18 eσ51 (of_decide_eq_true rfl)).trans ((f43 18 (of_decide_eq_true rfl)).trans (f9 18 (of_decide_eq_true rfl))))))
              have z53 : (σ51 55 19).toInt = (σ31 55 19).toInt + 1 := ((congrArg Int32.toInt (show σ51 55 19 = x50 from (jsp eσ51))).trans tx50)
              have z54 : (σ51 55 20).toInt = (σ 55 20).toInt := (congrArg Int32.toInt (show σ51 55 20 = (σ 55 20) from ((jkp 20 eσ51 (of_decide_eq_true rfl)).trans ((f43 20 (of_decide_eq_true rfl)).trans (f9 20 (of_decide_eq_true rfl))))))
              have z55 : (σ51 55 21).toInt = (σ31 55 21).toInt := (congrArg Int32.toInt (show σ51 55 21 = (σ31 55 21) from (jkp 21 eσ51 (of_decide_eq_true rfl))))
              have I56 : jI121 σ51 := ⟨(by omega), (by omega), (by omega), (by omega), (by omega)⟩
              have z57 : (σ51 55 22).toInt = (σ31 55 22).toInt := (congrArg Int32.toInt (show σ51 55 22 = (σ31 55 22) from (jkp 22 eσ51 (of_decide_eq_true rfl))))
              exact by
               refine jcallV (As := []) (rest := []) ⟨hx, hb, hml, hown, hts⟩ hK hP hA hS hZ (h_one σ51 τ I56 (by omega) (by omega) (by omega)) cw_RX12_208 (jc_55 cI cL ad σ51 τ) rfl ⟨by dsimp only; omega, by dsimp only; omega⟩ rfl rfl rfl hl.1 rfl (Nat.le_of_ble_eq_true rfl) dX12_product_46 ⟨Nat.zero_le _, Nat.zero_le _⟩ (fun r59 σ58 τ58 H locs h58 hP hS => ?_)
               obtain ⟨rfl, f60, f61, I62, h58⟩ := h58
               obtain ⟨i64, i65, i66, i67, i68⟩ : ((-1) ≤ (σ58 55 18).toInt ∧ (σ58 55 18).toInt ≤ 80) ∧ (0 ≤ (σ58 55 19).toInt) ∧ ((σ58 55 19).toInt ≤ (σ58 55 20).toInt) ∧ ((σ58 55 20).toInt ≤ 80) ∧ ((-1) ≤ (σ58 55 21).toInt) := id I62
               have z69 : (σ58 55 18).toInt = (σ 55 18).toInt := (congrArg Int32.toInt (show σ58 55 18 = (σ 55 18) from ((f61 18 (of_decide_eq_true rfl)).trans ((jkp 18 eσ51 (of_decide_eq_true rfl)).trans ((f43 18 (of_decide_eq_true rfl)).trans (f9 18 (of_decide_eq_true rfl)))))))
               have z70 : (σ58 55 20).toInt = (σ 55 20).toInt := (congrArg Int32.toInt (show σ58 55 20 = (σ 55 20) from ((f61 20 (of_decide_eq_true rfl)).trans ((jkp 20 eσ51 (of_decide_eq_true rfl)).trans ((f43 20 (of_decide_eq_true rfl)).trans (f9 20 (of_decide_eq_true rfl)))))))
               obtain ⟨k71, k72, h58⟩ := h58
               refine lv_istore_n (lv' := [(3, .int r59), (2, .int x29), (1, .int x28), (0, .ref (ad 55))]) hx hb dX12_product_49 rfl hl (of_decide_eq_true rfl) rfl (fun ls hl => ?_)
               refine lv_iload_n hx hb dX12_product_50 rfl (lv_at hl 1 rfl) ?_
               refine lv_bipush (v := 42) hx hb dX12_product_51 (of_decide_eq_true rfl) ?_
               exact by
                refine lv_icmp_ne (tgt := 62) hx hb dX12_product_53 (of_decide_eq_true rfl) (fun c => absurd (jne c rfl jz_42) (by omega)) (fun c73 => ?_)
                have kc73 := jeq c73 rfl jz_42
                refine lv_iload_n hx hb dX12_product_56 rfl (lv_at hl 2 rfl) ?_
                refine lv_iload_n hx hb dX12_product_57 rfl (lv_at hl 0 rfl) ?_
                have g74 := jrg (rfl : x28.toInt = x28.toInt)
                have g75 := jrg (rfl : r59.toInt = r59.toInt)
                refine lv_imul hx hb dX12_product_58 ?_
                refine lv_topi (fun x76 ex76 => ?_)
                have gx76 := jrg (rfl : x76.toInt = x76.toInt)
                refine lv_goto (tgt := 85) hx hb dX12_product_59 (of_decide_eq_true rfl) ?_
                refine lv_istore_n (lv' := [(1, .int x76), (3, .int r59), (2, .int x29), (0, .ref (ad 55))]) hx hb dX12_product_85 rfl hl (of_decide_eq_true rfl) rfl (fun ls hl => ?_)
                refine lv_aload_n hx hb dX12_product_86 rfl (lv_at hl 3 rfl) ?_
                refine jcallV (As := []) (rest := []) ⟨hx, hb, hml, hown, hts⟩ hK hP hA hS hZ (c_X12_byteAt l D cI cL ad zz hJ σ58 τ I62) cw_RX12_189 (jc_55 cI cL ad σ58 τ) rfl ⟨by dsimp only; omega, by dsimp only; omega⟩ rfl rfl rfl hl.1 rfl (Nat.le_of_ble_eq_true rfl) dX12_product_87 ⟨Nat.zero_le _, Nat.zero_le _⟩ (fun r78 σ77 τ77 H locs h77 hP hS => ?_)
                obtain ⟨⟨rfl, rfl⟩, h77⟩ := h77
                have h79 := h77
                obtain ⟨q81, k80⟩ := h79
                refine lv_istore_n (lv' := [(2, .int r78), (1, .int x76), (3, .int r59), (0, .ref (ad 55))]) hx hb dX12_product_90 rfl hl (of_decide_eq_true rfl) rfl (fun ls hl => ?_)
                refine lv_goto (tgt := 10) hx hb dX12_product_91 (of_decide_eq_true rfl) ?_
                exact by exact ihlp26 x76 r78 σ58 _ _ ls (by omega) (by omega) (by omega) (by omega) (by omega) (by omega) (by omega) (by omega) (by omega) (fun i hi => ((f60 i hi).trans ((jnp i eσ51 (imp_165 i hi)).trans (f42 i hi)))) (fun i hi => ((f61 i hi).trans ((jkp i eσ51 (imp_171 i hi)).trans (f43 i hi))))   hP hS (lv_sub hl [0, 1, 3] rfl)
           · have kc48 := jne c48 rfl jz_42
             refine lv_iload_n hx hb dX12_product_23 rfl (lv_at hl 0 rfl) ?_
             refine lv_bipush (v := 47) hx hb dX12_product_24 (of_decide_eq_true rfl) ?_
             refine lv_icmp_eq (tgt := 35) hx hb dX12_product_26 (of_decide_eq_true rfl) (fun c82 => ?_) (fun c82 => ?_)
             · have kc82 := jeq c82 rfl jz_47
               refine lv_aload_n hx hb dX12_product_35 rfl (lv_at hl 2 rfl) ?_
               refine lv_dup hx hb dX12_product_36 rfl ?_
               refine va_get (D := D) hx hb hts inlX12 hown hK hP 55 (jc_55 cI cL ad σ31 τ) rfl 19 (of_decide_eq_true rfl) (hts _ kw_15_11) (fun _ h9 => h9) rfl dX12_product_37 ?_
               refine lv_iconst (v := 1) hx hb dX12_product_40 (of_decide_eq_true rfl) ?_
               have g83 := jrg (rfl : (σ31 55 19).toInt = (σ31 55 19).toInt)
               refine lv_iadd hx hb dX12_product_41 ?_
               refine lv_topi (fun x84 ex84 => ?_)
               exact by
                have tx84 : x84.toInt = (σ31 55 19).toInt + 1 := (jadd ex84 rfl jz_1 (by omega) (by omega)).trans (by omega)
                refine jput (ty := .int) hx hb hts inlX12 tyX12 tyX12_ok nmX12 hown hK hP hJ hA hS (jc_55 cI cL ad σ31 τ) rfl (k := 19) (of_decide_eq_true rfl) (Nat.le_of_ble_eq_true rfl) (jp_55_19 cI cL ad σ31 τ x84) (hts _ kw_15_11) (fun _ h9 => h9) rfl (by decide +kernel) rfl rfl dX12_product_42 (fun σ85 H locs eσ85 hP hS => ?_)
                refine lv_aload_n hx hb dX12_product_45 rfl (lv_at hl 2 rfl) ?_
                have z86 : (σ85 55 18).toInt = (σ 55 18).toInt := (congrArg Int32.toInt (show σ85 55 18 = (σ 55 18) from ((jkp 18 eσ85 (of_decide_eq_true rfl)).trans ((f43 18 (of_decide_eq_true rfl)).trans (f9 18 (of_decide_eq_true rfl))))))
                have z87 : (σ85 55 19).toInt = (σ31 55 19).toInt + 1 := ((congrArg Int32.toInt (show σ85 55 19 = x84 from (jsp eσ85))).trans tx84)
                have z88 : (σ85 55 20).toInt = (σ 55 20).toInt := (congrArg Int32.toInt (show σ85 55 20 = (σ 55 20) from ((jkp 20 eσ85 (of_decide_eq_true rfl)).trans ((f43 20 (of_decide_eq_true rfl)).trans (f9 20 (of_decide_eq_true rfl))))))
                have z89 : (σ85 55 21).toInt = (σ31 55 21).toInt := (congrArg Int32.toInt (show σ85 55 21 = (σ31 55 21) from (jkp 21 eσ85 (of_decide_eq_true rfl))))
                have I90 : jI121 σ85 := ⟨(by omega), (by omega), (by omega), (by omega), (by omega)⟩
                have z91 : (σ85 55 22).toInt = (σ31 55 22).toInt := (congrArg Int32.toInt (show σ85 55 22 = (σ31 55 22) from (jkp 22 eσ85 (of_decide_eq_true rfl))))
                exact by
                 refine jcallV (As := []) (rest := []) ⟨hx, hb, hml, hown, hts⟩ hK hP hA hS hZ (h_one σ85 τ I90 (by omega) (by omega) (by omega)) cw_RX12_208 (jc_55 cI cL ad σ85 τ) rfl ⟨by dsimp only; omega, by dsimp only; omega⟩ rfl rfl rfl hl.1 rfl (Nat.le_of_ble_eq_true rfl) dX12_product_46 ⟨Nat.zero_le _, Nat.zero_le _⟩ (fun r93 σ92 τ92 H locs h92 hP hS => ?_)
                 obtain ⟨rfl, f94, f95, I96, h92⟩ := h92
                 obtain ⟨i98, i99, i100, i101, i102⟩ : ((-1) ≤ (σ92 55 18).toInt ∧ (σ92 55 18).toInt ≤ 80) ∧ (0 ≤ (σ92 55 19).toInt) ∧ ((σ92 55 19).toInt ≤ (σ92 55 20).toInt) ∧ ((σ92 55 20).toInt ≤ 80) ∧ ((-1) ≤ (σ92 55 21).toInt) := id I96
                 have z103 : (σ92 55 18).toInt = (σ 55 18).toInt := (congrArg Int32.toInt (show σ92 55 18 = (σ 55 18) from ((f95 18 (of_decide_eq_true rfl)).trans ((jkp 18 eσ85 (of_decide_eq_true rfl)).trans ((f43 18 (of_decide_eq_true rfl)).trans (f9 18 (of_decide_eq_true rfl)))))))
                 have z104 : (σ92 55 20).toInt = (σ 55 20).toInt := (congrArg Int32.toInt (show σ92 55 20 = (σ 55 20) from ((f95 20 (of_decide_eq_true rfl)).trans ((jkp 20 eσ85 (of_decide_eq_true rfl)).trans ((f43 20 (of_decide_eq_true rfl)).trans (f9 20 (of_decide_eq_true rfl)))))))
                 obtain ⟨k105, k106, h92⟩ := h92
                 refine lv_istore_n (lv' := [(3, .int r93), (2, .int x29), (1, .int x28), (0, .ref (ad 55))]) hx hb dX12_product_49 rfl hl (of_decide_eq_true rfl) rfl (fun ls hl => ?_)
                 refine lv_iload_n hx hb dX12_product_50 rfl (lv_at hl 1 rfl) ?_
                 refine lv_bipush (v := 42) hx hb dX12_product_51 (of_decide_eq_true rfl) ?_
                 exact by
                  refine lv_icmp_ne (tgt := 62) hx hb dX12_product_53 (of_decide_eq_true rfl) (fun c107 => ?_) (fun c => absurd (jeq c rfl jz_42) (by omega))
                  have kc107 := jne c107 rfl jz_42
                  refine lv_iload_n hx hb dX12_product_62 rfl (lv_at hl 0 rfl) ?_
                  refine lv_if_ne (tgt := 70) hx hb dX12_product_63 (of_decide_eq_true rfl) (fun c108 => ?_) (fun c108 => ?_)
                  · have kc108 := jne c108 rfl jz_0
                    refine lv_iload_n hx hb dX12_product_70 rfl (lv_at hl 1 rfl) ?_
                    refine lv_bipush (v := 47) hx hb dX12_product_71 (of_decide_eq_true rfl) ?_
                    refine lv_icmp_ne (tgt := 82) hx hb dX12_product_73 (of_decide_eq_true rfl) (fun c => absurd (jne c rfl jz_47) (by omega)) (fun c109 => ?_)
                    have kc109 := jeq c109 rfl jz_47
                    exact by
                     refine lv_iload_n hx hb dX12_product_76 rfl (lv_at hl 2 rfl) ?_
                     refine lv_iload_n hx hb dX12_product_77 rfl (lv_at hl 0 rfl) ?_
                     refine lv_idiv hx hb dX12_product_78 (fun h => absurd (jeq h rfl jz_0) (by omega)) ?_
                     refine lv_topi (fun x110 ex110 => ?_)
                     have gx110 := jrg (rfl : x110.toInt = x110.toInt)
                     refine lv_goto (tgt := 85) hx hb dX12_product_79 (of_decide_eq_true rfl) ?_
                     refine lv_istore_n (lv' := [(1, .int x110), (3, .int r93), (2, .int x29), (0, .ref (ad 55))]) hx hb dX12_product_85 rfl hl (of_decide_eq_true rfl) rfl (fun ls hl => ?_)
                     refine lv_aload_n hx hb dX12_product_86 rfl (lv_at hl 3 rfl) ?_
                     refine jcallV (As := []) (rest := []) ⟨hx, hb, hml, hown, hts⟩ hK hP hA hS hZ (c_X12_byteAt l D cI cL ad zz hJ σ92 τ I96) cw_RX12_189 (jc_55 cI cL ad σ92 τ) rfl ⟨by dsimp only; omega, by dsimp only; omega⟩ rfl rfl rfl hl.1 rfl (Nat.le_of_ble_eq_true rfl) dX12_product_87 ⟨Nat.zero_le _, Nat.zero_le _⟩ (fun r112 σ111 τ111 H locs h111 hP hS => ?_)
                     exact by
                      obtain ⟨⟨rfl, rfl⟩, h111⟩ := h111
                      have h113 := h111
                      obtain ⟨q115, k114⟩ := h113
                      refine lv_istore_n (lv' := [(2, .int r112), (1, .int x110), (3, .int r93), (0, .ref (ad 55))]) hx hb dX12_product_90 rfl hl (of_decide_eq_true rfl) rfl (fun ls hl => ?_)
                      refine lv_goto (tgt := 10) hx hb dX12_product_91 (of_decide_eq_true rfl) ?_
                      exact by exact ihlp26 x110 r112 σ92 _ _ ls (by omega) (by omega) (by omega) (by omega) (by omega) (by omega) (by omega) (by omega) (by omega) (fun i hi => ((f94 i hi).trans ((jnp i eσ85 (imp_165 i hi)).trans (f42 i hi)))) (fun i hi => ((f95 i hi).trans ((jkp i eσ85 (imp_171 i hi)).trans (f43 i hi))))   hP hS (lv_sub hl [0, 1, 3] rfl)
                  · have kc108 := jeq c108 rfl jz_0
                    refine lv_iconst (v := 0) hx hb dX12_product_66 (of_decide_eq_true rfl) ?_
                    refine lv_goto (tgt := 85) hx hb dX12_product_67 (of_decide_eq_true rfl) ?_
                    refine lv_istore_n (lv' := [(1, .int 0), (3, .int r93), (2, .int x29), (0, .ref (ad 55))]) hx hb dX12_product_85 rfl hl (of_decide_eq_true rfl) rfl (fun ls hl => ?_)
                    refine lv_aload_n hx hb dX12_product_86 rfl (lv_at hl 3 rfl) ?_
                    refine jcallV (As := []) (rest := []) ⟨hx, hb, hml, hown, hts⟩ hK hP hA hS hZ (c_X12_byteAt l D cI cL ad zz hJ σ92 τ I96) cw_RX12_189 (jc_55 cI cL ad σ92 τ) rfl ⟨by dsimp only; omega, by dsimp only; omega⟩ rfl rfl rfl hl.1 rfl (Nat.le_of_ble_eq_true rfl) dX12_product_87 ⟨Nat.zero_le _, Nat.zero_le _⟩ (fun r117 σ116 τ116 H locs h116 hP hS => ?_)
                    obtain ⟨⟨rfl, rfl⟩, h116⟩ := h116
                    have h118 := h116
                    obtain ⟨q120, k119⟩ := h118
                    refine lv_istore_n (lv' := [(2, .int r117), (1, .int 0), (3, .int r93), (0, .ref (ad 55))]) hx hb dX12_product_90 rfl hl (of_decide_eq_true rfl) rfl (fun ls hl => ?_)
                    refine lv_goto (tgt := 10) hx hb dX12_product_91 (of_decide_eq_true rfl) ?_
                    exact by exact ihlp26 0 r117 σ92 _ _ ls (by have h90 := jz_0; omega) (by have h90 := jz_0; omega) (by have h90 := jz_0; omega) (by have h90 := jz_0; omega) (by have h90 := jz_0; omega) (by have h90 := jz_0; omega) (by have h90 := jz_0; omega) (by have h90 := jz_0; omega) (by have h90 := jz_0; omega) (fun i hi => ((f94 i hi).trans ((jnp i eσ85 (imp_165 i hi)).trans (f42 i hi)))) (fun i hi => ((f95 i hi).trans ((jkp i eσ85 (imp_171 i hi)).trans (f43 i hi))))   hP hS (lv_sub hl [0, 1, 3] rfl)
             · have kc82 := jne c82 rfl jz_47
               refine lv_iload_n hx hb dX12_product_29 rfl (lv_at hl 0 rfl) ?_
               refine lv_bipush (v := 37) hx hb dX12_product_30 (of_decide_eq_true rfl) ?_
               refine lv_icmp_ne (tgt := 94) hx hb dX12_product_32 (of_decide_eq_true rfl) (fun c121 => ?_) (fun c121 => ?_)
               · have kc121 := jne c121 rfl jz_37
                 refine lv_iload_n hx hb dX12_product_94 rfl (lv_at hl 1 rfl) ?_
                 exact by
                  have I122 : jI121 σ31 := ⟨(by omega), (by omega), (by omega), (by omega), (by omega)⟩
                  exact by exact hret x28 σ31 τ _ _ _ _ rfl ⟨rfl, (fun i hi => ((f42 i hi).trans (f8 i hi))), (fun i hi => ((f43 i hi).trans (f9 i hi))), I122, (by omega), (by omega), trivial⟩ hP hS dX12_product_95
               · have kc121 := jeq c121 rfl jz_37
                 refine lv_aload_n hx hb dX12_product_35 rfl (lv_at hl 2 rfl) ?_
                 refine lv_dup hx hb dX12_product_36 rfl ?_
                 refine va_get (D := D) hx hb hts inlX12 hown hK hP 55 (jc_55 cI cL ad σ31 τ) rfl 19 (of_decide_eq_true rfl) (hts _ kw_15_11) (fun _ h9 => h9) rfl dX12_product_37 ?_
                 refine lv_iconst (v := 1) hx hb dX12_product_40 (of_decide_eq_true rfl) ?_
                 have g123 := jrg (rfl : (σ31 55 19).toInt = (σ31 55 19).toInt)
                 refine lv_iadd hx hb dX12_product_41 ?_
                 refine lv_topi (fun x124 ex124 => ?_)
                 exact by
                  have tx124 : x124.toInt = (σ31 55 19).toInt + 1 := (jadd ex124 rfl jz_1 (by omega) (by omega)).trans (by omega)
                  refine jput (ty := .int) hx hb hts inlX12 tyX12 tyX12_ok nmX12 hown hK hP hJ hA hS (jc_55 cI cL ad σ31 τ) rfl (k := 19) (of_decide_eq_true rfl) (Nat.le_of_ble_eq_true rfl) (jp_55_19 cI cL ad σ31 τ x124) (hts _ kw_15_11) (fun _ h9 => h9) rfl (by decide +kernel) rfl rfl dX12_product_42 (fun σ125 H locs eσ125 hP hS => ?_)
                  refine lv_aload_n hx hb dX12_product_45 rfl (lv_at hl 2 rfl) ?_
                  have z126 : (σ125 55 18).toInt = (σ 55 18).toInt := (congrArg Int32.toInt (show σ125 55 18 = (σ 55 18) from ((jkp 18 eσ125 (of_decide_eq_true rfl)).trans ((f43 18 (of_decide_eq_true rfl)).trans (f9 18 (of_decide_eq_true rfl))))))
                  have z127 : (σ125 55 19).toInt = (σ31 55 19).toInt + 1 := ((congrArg Int32.toInt (show σ125 55 19 = x124 from (jsp eσ125))).trans tx124)
                  have z128 : (σ125 55 20).toInt = (σ 55 20).toInt := (congrArg Int32.toInt (show σ125 55 20 = (σ 55 20) from ((jkp 20 eσ125 (of_decide_eq_true rfl)).trans ((f43 20 (of_decide_eq_true rfl)).trans (f9 20 (of_decide_eq_true rfl))))))
                  have z129 : (σ125 55 21).toInt = (σ31 55 21).toInt := (congrArg Int32.toInt (show σ125 55 21 = (σ31 55 21) from (jkp 21 eσ125 (of_decide_eq_true rfl))))
                  have I130 : jI121 σ125 := ⟨(by omega), (by omega), (by omega), (by omega), (by omega)⟩
                  have z131 : (σ125 55 22).toInt = (σ31 55 22).toInt := (congrArg Int32.toInt (show σ125 55 22 = (σ31 55 22) from (jkp 22 eσ125 (of_decide_eq_true rfl))))
                  exact by
                   refine jcallV (As := []) (rest := []) ⟨hx, hb, hml, hown, hts⟩ hK hP hA hS hZ (h_one σ125 τ I130 (by omega) (by omega) (by omega)) cw_RX12_208 (jc_55 cI cL ad σ125 τ) rfl ⟨by dsimp only; omega, by dsimp only; omega⟩ rfl rfl rfl hl.1 rfl (Nat.le_of_ble_eq_true rfl) dX12_product_46 ⟨Nat.zero_le _, Nat.zero_le _⟩ (fun r133 σ132 τ132 H locs h132 hP hS => ?_)
                   obtain ⟨rfl, f134, f135, I136, h132⟩ := h132
                   obtain ⟨i138, i139, i140, i141, i142⟩ : ((-1) ≤ (σ132 55 18).toInt ∧ (σ132 55 18).toInt ≤ 80) ∧ (0 ≤ (σ132 55 19).toInt) ∧ ((σ132 55 19).toInt ≤ (σ132 55 20).toInt) ∧ ((σ132 55 20).toInt ≤ 80) ∧ ((-1) ≤ (σ132 55 21).toInt) := id I136
                   have z143 : (σ132 55 18).toInt = (σ 55 18).toInt := (congrArg Int32.toInt (show σ132 55 18 = (σ 55 18) from ((f135 18 (of_decide_eq_true rfl)).trans ((jkp 18 eσ125 (of_decide_eq_true rfl)).trans ((f43 18 (of_decide_eq_true rfl)).trans (f9 18 (of_decide_eq_true rfl)))))))
                   have z144 : (σ132 55 20).toInt = (σ 55 20).toInt := (congrArg Int32.toInt (show σ132 55 20 = (σ 55 20) from ((f135 20 (of_decide_eq_true rfl)).trans ((jkp 20 eσ125 (of_decide_eq_true rfl)).trans ((f43 20 (of_decide_eq_true rfl)).trans (f9 20 (of_decide_eq_true rfl)))))))
                   obtain ⟨k145, k146, h132⟩ := h132
                   refine lv_istore_n (lv' := [(3, .int r133), (2, .int x29), (1, .int x28), (0, .ref (ad 55))]) hx hb dX12_product_49 rfl hl (of_decide_eq_true rfl) rfl (fun ls hl => ?_)
                   refine lv_iload_n hx hb dX12_product_50 rfl (lv_at hl 1 rfl) ?_
                   refine lv_bipush (v := 42) hx hb dX12_product_51 (of_decide_eq_true rfl) ?_
                   exact by
                    refine lv_icmp_ne (tgt := 62) hx hb dX12_product_53 (of_decide_eq_true rfl) (fun c147 => ?_) (fun c => absurd (jeq c rfl jz_42) (by omega))
                    have kc147 := jne c147 rfl jz_42
                    refine lv_iload_n hx hb dX12_product_62 rfl (lv_at hl 0 rfl) ?_
                    refine lv_if_ne (tgt := 70) hx hb dX12_product_63 (of_decide_eq_true rfl) (fun c148 => ?_) (fun c148 => ?_)
                    · have kc148 := jne c148 rfl jz_0
                      refine lv_iload_n hx hb dX12_product_70 rfl (lv_at hl 1 rfl) ?_
                      refine lv_bipush (v := 47) hx hb dX12_product_71 (of_decide_eq_true rfl) ?_
                      refine lv_icmp_ne (tgt := 82) hx hb dX12_product_73 (of_decide_eq_true rfl) (fun c149 => ?_) (fun c => absurd (jeq c rfl jz_47) (by omega))
                      have kc149 := jne c149 rfl jz_47
                      exact by
                       refine lv_iload_n hx hb dX12_product_82 rfl (lv_at hl 2 rfl) ?_
                       refine lv_iload_n hx hb dX12_product_83 rfl (lv_at hl 0 rfl) ?_
                       refine lv_irem hx hb dX12_product_84 (fun h => absurd (jeq h rfl jz_0) (by omega)) ?_
                       refine lv_topi (fun x150 ex150 => ?_)
                       have gx150 := jrg (rfl : x150.toInt = x150.toInt)
                       refine lv_istore_n (lv' := [(1, .int x150), (3, .int r133), (2, .int x29), (0, .ref (ad 55))]) hx hb dX12_product_85 rfl hl (of_decide_eq_true rfl) rfl (fun ls hl => ?_)
                       refine lv_aload_n hx hb dX12_product_86 rfl (lv_at hl 3 rfl) ?_
                       refine jcallV (As := []) (rest := []) ⟨hx, hb, hml, hown, hts⟩ hK hP hA hS hZ (c_X12_byteAt l D cI cL ad zz hJ σ132 τ I136) cw_RX12_189 (jc_55 cI cL ad σ132 τ) rfl ⟨by dsimp only; omega, by dsimp only; omega⟩ rfl rfl rfl hl.1 rfl (Nat.le_of_ble_eq_true rfl) dX12_product_87 ⟨Nat.zero_le _, Nat.zero_le _⟩ (fun r152 σ151 τ151 H locs h151 hP hS => ?_)
                       obtain ⟨⟨rfl, rfl⟩, h151⟩ := h151
                       exact by
                        have h153 := h151
                        obtain ⟨q155, k154⟩ := h153
                        refine lv_istore_n (lv' := [(2, .int r152), (1, .int x150), (3, .int r133), (0, .ref (ad 55))]) hx hb dX12_product_90 rfl hl (of_decide_eq_true rfl) rfl (fun ls hl => ?_)
                        refine lv_goto (tgt := 10) hx hb dX12_product_91 (of_decide_eq_true rfl) ?_
                        exact by exact ihlp26 x150 r152 σ132 _ _ ls (by omega) (by omega) (by omega) (by omega) (by omega) (by omega) (by omega) (by omega) (by omega) (fun i hi => ((f134 i hi).trans ((jnp i eσ125 (imp_165 i hi)).trans (f42 i hi)))) (fun i hi => ((f135 i hi).trans ((jkp i eσ125 (imp_171 i hi)).trans (f43 i hi))))   hP hS (lv_sub hl [0, 1, 3] rfl)
                    · have kc148 := jeq c148 rfl jz_0
                      refine lv_iconst (v := 0) hx hb dX12_product_66 (of_decide_eq_true rfl) ?_
                      refine lv_goto (tgt := 85) hx hb dX12_product_67 (of_decide_eq_true rfl) ?_
                      refine lv_istore_n (lv' := [(1, .int 0), (3, .int r133), (2, .int x29), (0, .ref (ad 55))]) hx hb dX12_product_85 rfl hl (of_decide_eq_true rfl) rfl (fun ls hl => ?_)
                      refine lv_aload_n hx hb dX12_product_86 rfl (lv_at hl 3 rfl) ?_
                      refine jcallV (As := []) (rest := []) ⟨hx, hb, hml, hown, hts⟩ hK hP hA hS hZ (c_X12_byteAt l D cI cL ad zz hJ σ132 τ I136) cw_RX12_189 (jc_55 cI cL ad σ132 τ) rfl ⟨by dsimp only; omega, by dsimp only; omega⟩ rfl rfl rfl hl.1 rfl (Nat.le_of_ble_eq_true rfl) dX12_product_87 ⟨Nat.zero_le _, Nat.zero_le _⟩ (fun r157 σ156 τ156 H locs h156 hP hS => ?_)
                      obtain ⟨⟨rfl, rfl⟩, h156⟩ := h156
                      have h158 := h156
                      obtain ⟨q160, k159⟩ := h158
                      refine lv_istore_n (lv' := [(2, .int r157), (1, .int 0), (3, .int r133), (0, .ref (ad 55))]) hx hb dX12_product_90 rfl hl (of_decide_eq_true rfl) rfl (fun ls hl => ?_)
                      refine lv_goto (tgt := 10) hx hb dX12_product_91 (of_decide_eq_true rfl) ?_
                      exact by exact ihlp26 0 r157 σ132 _ _ ls (by have h90 := jz_0; omega) (by have h90 := jz_0; omega) (by have h90 := jz_0; omega) (by have h90 := jz_0; omega) (by have h90 := jz_0; omega) (by have h90 := jz_0; omega) (by have h90 := jz_0; omega) (by have h90 := jz_0; omega) (by have h90 := jz_0; omega) (fun i hi => ((f134 i hi).trans ((jnp i eσ125 (imp_165 i hi)).trans (f42 i hi)))) (fun i hi => ((f135 i hi).trans ((jkp i eσ125 (imp_171 i hi)).trans (f43 i hi))))   hP hS (lv_sub hl [0, 1, 3] rfl)
   exact by exact lp26 1000000 r7 r22 σ6 _ _ ls (by omega) (by omega) (by omega) (by omega) (by omega) (by omega) (by omega) (by omega) (by omega) (fun _ _ => rfl) (fun _ _ => rfl)   hP hS hl
set_option maxHeartbeats 4000000 in
set_option maxRecDepth 100000 in
theorem c_X12_grammar_sums_g (l : Launch) (D : va_G) (cI cL : ClassId) (ad zz : Nat → Nat) (hJ : jD ad) (n : Nat) (h_product : ∀ (σ : Nat → Nat → Int32) (τ : Nat → Nat → Int64) (hI121 : jI121 σ) (hp0 : (σ 55 21).toInt = (-1)) (hp1 : 0 ≤ (σ 55 22).toInt ∧ (σ 55 22).toInt ≤ 6) (hp2 : -(σ 55 22).toInt + 6 ≤ (((n) : Nat) : Int)), jM l yX12_product cX12_product 4 (some .int) ({ frames := (11 + 8 * (n)), cells := 0, slots := 0, locals := (440 + 360 * (n)) }) D cI cL ad zz [.ref (ad 55)] σ τ (fun r σ' τ' => τ = τ' ∧ (∀ i : Nat, (i < 55 ∨ 55 < i) → σ' i = σ i) ∧ (∀ k : Nat, (k < 19 ∨ 19 < k) ∧ (k < 21 ∨ 21 < k) ∧ (k < 22 ∨ 22 < k) → σ' 55 k = σ 55 k) ∧ (jI121 σ') ∧ (((σ' 55 21).toInt = (-1) ∧ (σ' 55 22).toInt = (σ 55 22).toInt) ∨ (0 ≤ (σ' 55 21).toInt)) ∧ ((σ 55 19).toInt ≤ (σ' 55 19).toInt) ∧ True)) (σ : Nat → Nat → Int32) (τ : Nat → Nat → Int64) (hI121 : jI121 σ) (hp0 : (σ 55 21).toInt = (-1)) (hp1 : 0 ≤ (σ 55 22).toInt ∧ (σ 55 22).toInt ≤ 6) (hp2 : -(σ 55 22).toInt + 6 ≤ (((n) : Nat) : Int)) : jM l yX12_sums cX12_sums 4 (some .int) ({ frames := (12 + 8 * (n)), cells := 0, slots := 0, locals := (480 + 360 * (n)) }) D cI cL ad zz [.ref (ad 55)] σ τ (fun r σ' τ' => τ = τ' ∧ (∀ i : Nat, (i < 55 ∨ 55 < i) → σ' i = σ i) ∧ (∀ k : Nat, (k < 19 ∨ 19 < k) ∧ (k < 21 ∨ 21 < k) ∧ (k < 22 ∨ 22 < k) → σ' 55 k = σ 55 k) ∧ (jI121 σ') ∧ (((σ' 55 21).toInt = (-1) ∧ (σ' 55 22).toInt = (σ 55 22).toInt) ∨ (0 ≤ (σ' 55 21).toInt)) ∧ ((σ 55 19).toInt ≤ (σ' 55 19).toInt) ∧ True) := by
  refine jM.of hJ (by decide +kernel) (nt := .int) rfl (Nat.le_of_ble_eq_true rfl) ?_
  intro p e s m args below meth c Q ls hC hret hl hP
  obtain ⟨hx, hb, hr, hml, hown, hts, hK, -, hlocks, hZ⟩ := hC
  have hown : s.vm.findClass RX12 = some m.cls := hown
  have hS : va_S (jA ad) s.heap s.heap [] := va_S.rf
  have hA : ∀ q, jA ad q → jA ad q := fun _ h => h
  have hl : lv_has ls 4 [(0, .ref (ad 55))] := hl
  obtain ⟨i1, i2, i3, i4, i5⟩ : ((-1) ≤ (σ 55 18).toInt ∧ (σ 55 18).toInt ≤ 80) ∧ (0 ≤ (σ 55 19).toInt) ∧ ((σ 55 19).toInt ≤ (σ 55 20).toInt) ∧ ((σ 55 20).toInt ≤ 80) ∧ ((-1) ≤ (σ 55 21).toInt) := id hI121
  refine lv_aload_n hx hb dX12_sums_0 rfl (lv_at hl 0 rfl) ?_
  exact by
   refine jcallV (As := []) (rest := []) ⟨hx, hb, hml, hown, hts⟩ hK hP hA hS hZ (h_product σ τ hI121 (by omega) (by omega) (by omega)) cw_RX12_205 (jc_55 cI cL ad σ τ) rfl ⟨by dsimp only; omega, by dsimp only; omega⟩ rfl rfl rfl hl.1 rfl (Nat.le_of_ble_eq_true rfl) dX12_sums_1 ⟨Nat.zero_le _, Nat.zero_le _⟩ (fun r7 σ6 τ6 H locs h6 hP hS => ?_)
   obtain ⟨rfl, f8, f9, I10, h6⟩ := h6
   obtain ⟨i12, i13, i14, i15, i16⟩ : ((-1) ≤ (σ6 55 18).toInt ∧ (σ6 55 18).toInt ≤ 80) ∧ (0 ≤ (σ6 55 19).toInt) ∧ ((σ6 55 19).toInt ≤ (σ6 55 20).toInt) ∧ ((σ6 55 20).toInt ≤ 80) ∧ ((-1) ≤ (σ6 55 21).toInt) := id I10
   have z17 : (σ6 55 18).toInt = (σ 55 18).toInt := (congrArg Int32.toInt (show σ6 55 18 = (σ 55 18) from (f9 18 (of_decide_eq_true rfl))))
   have z18 : (σ6 55 20).toInt = (σ 55 20).toInt := (congrArg Int32.toInt (show σ6 55 20 = (σ 55 20) from (f9 20 (of_decide_eq_true rfl))))
   obtain ⟨k19, k20, h6⟩ := h6
   refine lv_istore_n (lv' := [(1, .int r7), (0, .ref (ad 55))]) hx hb dX12_sums_4 rfl hl (of_decide_eq_true rfl) rfl (fun ls hl => ?_)
   have lp21 : ∀ (n22 : Nat) (x23 : Int32) (σ26 : Nat → Nat → Int32) (H : Heap) (locs : List Loc) (ls : Array Slot), ((σ26 55 20).toInt - (σ26 55 19).toInt : Int) < n22 → (-1) ≤ (σ26 55 18).toInt ∧ (σ26 55 18).toInt ≤ 80 → 0 ≤ (σ26 55 19).toInt → (σ26 55 19).toInt ≤ (σ26 55 20).toInt → (σ26 55 20).toInt ≤ 80 → (-1) ≤ (σ26 55 21).toInt → (((σ26 55 21).toInt = (-1) ∧ (σ26 55 22).toInt = (σ 55 22).toInt) ∨ (0 ≤ (σ26 55 21).toInt)) → (σ 55 19).toInt ≤ (σ26 55 19).toInt → (∀ i : Nat, (i < 55 ∨ 55 < i) → σ26 i = σ6 i) → (∀ k : Nat, (k < 19 ∨ 19 < k) ∧ (k < 21 ∨ 21 < k) ∧ (k < 22 ∨ 22 < k) → σ26 55 k = σ6 55 k) → jH D cI cL ad σ26 τ H → va_S (jA ad) s.heap H locs → lv_has ls 4 [(1, .int x23), (0, .ref (ad 55))] → W p l e ({ frames := (12 + 8 * (n)), cells := 0, slots := 0, locals := (480 + 360 * (n)) }) s m args below meth c H locs 0 0 Q (F0 m 5 ls []) := by
     intro n22
     induction n22 with
     | zero => intro x23 σ26 H locs ls h28 h29 h30 h31 h32 h33 h34 h35; have gx23 := jrg (rfl : x23.toInt = x23.toInt); exact absurd h28 (by omega)
     | succ n22 ihlp21 =>
       intro x23 σ26 H locs ls h28 h29 h30 h31 h32 h33 h34 h35 f36 f37 hP hS hl
       exact by
        have gx23 := jrg (rfl : x23.toInt = x23.toInt)
        have z38 : (σ26 55 20).toInt = (σ 55 20).toInt := (congrArg Int32.toInt (show σ26 55 20 = (σ 55 20) from ((f37 20 (of_decide_eq_true rfl)).trans (f9 20 (of_decide_eq_true rfl)))))
        have z39 : (σ26 55 18).toInt = (σ 55 18).toInt := (congrArg Int32.toInt (show σ26 55 18 = (σ 55 18) from ((f37 18 (of_decide_eq_true rfl)).trans (f9 18 (of_decide_eq_true rfl)))))
        refine lv_aload_n hx hb dX12_sums_5 rfl (lv_at hl 1 rfl) ?_
        refine va_get (D := D) hx hb hts inlX12 hown hK hP 55 (jc_55 cI cL ad σ26 τ) rfl 21 (of_decide_eq_true rfl) (hts _ kw_15_13) (fun _ h9 => h9) rfl dX12_sums_6 ?_
        refine lv_if_ge (tgt := 77) hx hb dX12_sums_9 (of_decide_eq_true rfl) (fun c40 => ?_) (fun c40 => ?_)
        · have kc40 := jle c40 jz_0 rfl
          refine lv_iload_n hx hb dX12_sums_77 rfl (lv_at hl 0 rfl) ?_
          have I41 : jI121 σ26 := ⟨(by omega), (by omega), (by omega), (by omega), (by omega)⟩
          exact by exact hret x23 σ26 τ _ _ _ _ rfl ⟨rfl, (fun i hi => ((f36 i hi).trans (f8 i hi))), (fun i hi => ((f37 i hi).trans (f9 i hi))), I41, (by omega), (by omega), trivial⟩ hP hS dX12_sums_78
        · exact by
           have kc40 := jnle c40 jz_0 rfl
           refine lv_aload_n hx hb dX12_sums_12 rfl (lv_at hl 1 rfl) ?_
           have I42 : jI121 σ26 := ⟨(by omega), (by omega), (by omega), (by omega), (by omega)⟩
           refine jcallV (As := []) (rest := []) ⟨hx, hb, hml, hown, hts⟩ hK hP hA hS hZ (c_X12_byteAt l D cI cL ad zz hJ σ26 τ I42) cw_RX12_189 (jc_55 cI cL ad σ26 τ) rfl ⟨by dsimp only; omega, by dsimp only; omega⟩ rfl rfl rfl hl.1 rfl (Nat.le_of_ble_eq_true rfl) dX12_sums_13 ⟨Nat.zero_le _, Nat.zero_le _⟩ (fun r44 σ43 τ43 H locs h43 hP hS => ?_)
           obtain ⟨⟨rfl, rfl⟩, h43⟩ := h43
           have h45 := h43
           obtain ⟨q47, k46⟩ := h45
           refine lv_bipush (v := 43) hx hb dX12_sums_16 (of_decide_eq_true rfl) ?_
           refine lv_icmp_eq (tgt := 30) hx hb dX12_sums_18 (of_decide_eq_true rfl) (fun c48 => ?_) (fun c48 => ?_)
           · exact by
              have kc48 := jeq c48 rfl jz_43
              refine lv_aload_n hx hb dX12_sums_30 rfl (lv_at hl 1 rfl) ?_
              refine jcallV (As := []) (rest := []) ⟨hx, hb, hml, hown, hts⟩ hK hP hA hS hZ (c_X12_byteAt l D cI cL ad zz hJ σ26 τ I42) cw_RX12_189 (jc_55 cI cL ad σ26 τ) rfl ⟨by dsimp only; omega, by dsimp only; omega⟩ rfl rfl rfl hl.1 rfl (Nat.le_of_ble_eq_true rfl) dX12_sums_31 ⟨Nat.zero_le _, Nat.zero_le _⟩ (fun r50 σ49 τ49 H locs h49 hP hS => ?_)
              obtain ⟨⟨rfl, rfl⟩, h49⟩ := h49
              have h51 := h49
              obtain ⟨q53, k52⟩ := h51
              refine lv_bipush (v := 43) hx hb dX12_sums_34 (of_decide_eq_true rfl) ?_
              refine lv_icmp_ne (tgt := 43) hx hb dX12_sums_36 (of_decide_eq_true rfl) (fun c54 => ?_) (fun c54 => ?_)
              · have kc54 := jne c54 rfl jz_43
                refine lv_iconst (v := 0) hx hb dX12_sums_43 (of_decide_eq_true rfl) ?_
                refine lv_istore_n (lv' := [(2, .int 0), (1, .int x23), (0, .ref (ad 55))]) hx hb dX12_sums_44 rfl hl (of_decide_eq_true rfl) rfl (fun ls hl => ?_)
                refine lv_aload_n hx hb dX12_sums_45 rfl (lv_at hl 2 rfl) ?_
                refine lv_dup hx hb dX12_sums_46 rfl ?_
                refine va_get (D := D) hx hb hts inlX12 hown hK hP 55 (jc_55 cI cL ad σ26 τ) rfl 19 (of_decide_eq_true rfl) (hts _ kw_15_11) (fun _ h9 => h9) rfl dX12_sums_47 ?_
                refine lv_iconst (v := 1) hx hb dX12_sums_50 (of_decide_eq_true rfl) ?_
                have g55 := jrg (rfl : (σ26 55 19).toInt = (σ26 55 19).toInt)
                refine lv_iadd hx hb dX12_sums_51 ?_
                refine lv_topi (fun x56 ex56 => ?_)
                exact by
                 have tx56 : x56.toInt = (σ26 55 19).toInt + 1 := (jadd ex56 rfl jz_1 (by omega) (by omega)).trans (by omega)
                 refine jput (ty := .int) hx hb hts inlX12 tyX12 tyX12_ok nmX12 hown hK hP hJ hA hS (jc_55 cI cL ad σ26 τ) rfl (k := 19) (of_decide_eq_true rfl) (Nat.le_of_ble_eq_true rfl) (jp_55_19 cI cL ad σ26 τ x56) (hts _ kw_15_11) (fun _ h9 => h9) rfl (by decide +kernel) rfl rfl dX12_sums_52 (fun σ57 H locs eσ57 hP hS => ?_)
                 refine lv_aload_n hx hb dX12_sums_55 rfl (lv_at hl 2 rfl) ?_
                 have z58 : (σ57 55 18).toInt = (σ 55 18).toInt := (congrArg Int32.toInt (show σ57 55 18 = (σ 55 18) from ((jkp 18 eσ57 (of_decide_eq_true rfl)).trans ((f37 18 (of_decide_eq_true rfl)).trans (f9 18 (of_decide_eq_true rfl))))))
                 have z59 : (σ57 55 19).toInt = (σ26 55 19).toInt + 1 := ((congrArg Int32.toInt (show σ57 55 19 = x56 from (jsp eσ57))).trans tx56)
                 have z60 : (σ57 55 20).toInt = (σ 55 20).toInt := (congrArg Int32.toInt (show σ57 55 20 = (σ 55 20) from ((jkp 20 eσ57 (of_decide_eq_true rfl)).trans ((f37 20 (of_decide_eq_true rfl)).trans (f9 20 (of_decide_eq_true rfl))))))
                 have z61 : (σ57 55 21).toInt = (σ26 55 21).toInt := (congrArg Int32.toInt (show σ57 55 21 = (σ26 55 21) from (jkp 21 eσ57 (of_decide_eq_true rfl))))
                 have I62 : jI121 σ57 := ⟨(by omega), (by omega), (by omega), (by omega), (by omega)⟩
                 have z63 : (σ57 55 22).toInt = (σ26 55 22).toInt := (congrArg Int32.toInt (show σ57 55 22 = (σ26 55 22) from (jkp 22 eσ57 (of_decide_eq_true rfl))))
                 exact by
                  refine jcallV (As := []) (rest := []) ⟨hx, hb, hml, hown, hts⟩ hK hP hA hS hZ (h_product σ57 τ I62 (by omega) (by omega) (by omega)) cw_RX12_205 (jc_55 cI cL ad σ57 τ) rfl ⟨by dsimp only; omega, by dsimp only; omega⟩ rfl rfl rfl hl.1 rfl (Nat.le_of_ble_eq_true rfl) dX12_sums_56 ⟨Nat.zero_le _, Nat.zero_le _⟩ (fun r65 σ64 τ64 H locs h64 hP hS => ?_)
                  obtain ⟨rfl, f66, f67, I68, h64⟩ := h64
                  obtain ⟨i70, i71, i72, i73, i74⟩ : ((-1) ≤ (σ64 55 18).toInt ∧ (σ64 55 18).toInt ≤ 80) ∧ (0 ≤ (σ64 55 19).toInt) ∧ ((σ64 55 19).toInt ≤ (σ64 55 20).toInt) ∧ ((σ64 55 20).toInt ≤ 80) ∧ ((-1) ≤ (σ64 55 21).toInt) := id I68
                  have z75 : (σ64 55 18).toInt = (σ 55 18).toInt := (congrArg Int32.toInt (show σ64 55 18 = (σ 55 18) from ((f67 18 (of_decide_eq_true rfl)).trans ((jkp 18 eσ57 (of_decide_eq_true rfl)).trans ((f37 18 (of_decide_eq_true rfl)).trans (f9 18 (of_decide_eq_true rfl)))))))
                  have z76 : (σ64 55 20).toInt = (σ 55 20).toInt := (congrArg Int32.toInt (show σ64 55 20 = (σ 55 20) from ((f67 20 (of_decide_eq_true rfl)).trans ((jkp 20 eσ57 (of_decide_eq_true rfl)).trans ((f37 20 (of_decide_eq_true rfl)).trans (f9 20 (of_decide_eq_true rfl)))))))
                  obtain ⟨k77, k78, h64⟩ := h64
                  refine lv_istore_n (lv' := [(3, .int r65), (2, .int 0), (1, .int x23), (0, .ref (ad 55))]) hx hb dX12_sums_59 rfl hl (of_decide_eq_true rfl) rfl (fun ls hl => ?_)
                  refine lv_iload_n hx hb dX12_sums_60 rfl (lv_at hl 1 rfl) ?_
                  refine lv_if_eq (tgt := 70) hx hb dX12_sums_61 (of_decide_eq_true rfl) (fun _ => ?_) (fun c => absurd (of_decide_eq_true rfl) c)
                  refine lv_iload_n hx hb dX12_sums_70 rfl (lv_at hl 2 rfl) ?_
                  refine lv_iload_n hx hb dX12_sums_71 rfl (lv_at hl 0 rfl) ?_
                  have g79 := jrg (rfl : x23.toInt = x23.toInt)
                  have g80 := jrg (rfl : r65.toInt = r65.toInt)
                  refine lv_isub hx hb dX12_sums_72 ?_
                  refine lv_topi (fun x81 ex81 => ?_)
                  have gx81 := jrg (rfl : x81.toInt = x81.toInt)
                  refine lv_istore_n (lv' := [(1, .int x81), (3, .int r65), (2, .int 0), (0, .ref (ad 55))]) hx hb dX12_sums_73 rfl hl (of_decide_eq_true rfl) rfl (fun ls hl => ?_)
                  refine lv_goto (tgt := 5) hx hb dX12_sums_74 (of_decide_eq_true rfl) ?_
                  exact by exact ihlp21 x81 σ64 _ _ ls (by omega) (by omega) (by omega) (by omega) (by omega) (by omega) (by omega) (by omega) (fun i hi => ((f66 i hi).trans ((jnp i eσ57 (imp_165 i hi)).trans (f36 i hi)))) (fun i hi => ((f67 i hi).trans ((jkp i eσ57 (imp_171 i hi)).trans (f37 i hi))))   hP hS (lv_sub hl [0, 3] rfl)
              · have kc54 := jeq c54 rfl jz_43
                refine lv_iconst (v := 1) hx hb dX12_sums_39 (of_decide_eq_true rfl) ?_
                refine lv_goto (tgt := 44) hx hb dX12_sums_40 (of_decide_eq_true rfl) ?_
                refine lv_istore_n (lv' := [(2, .int 1), (1, .int x23), (0, .ref (ad 55))]) hx hb dX12_sums_44 rfl hl (of_decide_eq_true rfl) rfl (fun ls hl => ?_)
                refine lv_aload_n hx hb dX12_sums_45 rfl (lv_at hl 2 rfl) ?_
                refine lv_dup hx hb dX12_sums_46 rfl ?_
                refine va_get (D := D) hx hb hts inlX12 hown hK hP 55 (jc_55 cI cL ad σ26 τ) rfl 19 (of_decide_eq_true rfl) (hts _ kw_15_11) (fun _ h9 => h9) rfl dX12_sums_47 ?_
                refine lv_iconst (v := 1) hx hb dX12_sums_50 (of_decide_eq_true rfl) ?_
                have g82 := jrg (rfl : (σ26 55 19).toInt = (σ26 55 19).toInt)
                refine lv_iadd hx hb dX12_sums_51 ?_
                refine lv_topi (fun x83 ex83 => ?_)
                exact by
                 have tx83 : x83.toInt = (σ26 55 19).toInt + 1 := (jadd ex83 rfl jz_1 (by omega) (by omega)).trans (by omega)
                 refine jput (ty := .int) hx hb hts inlX12 tyX12 tyX12_ok nmX12 hown hK hP hJ hA hS (jc_55 cI cL ad σ26 τ) rfl (k := 19) (of_decide_eq_true rfl) (Nat.le_of_ble_eq_true rfl) (jp_55_19 cI cL ad σ26 τ x83) (hts _ kw_15_11) (fun _ h9 => h9) rfl (by decide +kernel) rfl rfl dX12_sums_52 (fun σ84 H locs eσ84 hP hS => ?_)
                 refine lv_aload_n hx hb dX12_sums_55 rfl (lv_at hl 2 rfl) ?_
                 have z85 : (σ84 55 18).toInt = (σ 55 18).toInt := (congrArg Int32.toInt (show σ84 55 18 = (σ 55 18) from ((jkp 18 eσ84 (of_decide_eq_true rfl)).trans ((f37 18 (of_decide_eq_true rfl)).trans (f9 18 (of_decide_eq_true rfl))))))
                 have z86 : (σ84 55 19).toInt = (σ26 55 19).toInt + 1 := ((congrArg Int32.toInt (show σ84 55 19 = x83 from (jsp eσ84))).trans tx83)
                 have z87 : (σ84 55 20).toInt = (σ 55 20).toInt := (congrArg Int32.toInt (show σ84 55 20 = (σ 55 20) from ((jkp 20 eσ84 (of_decide_eq_true rfl)).trans ((f37 20 (of_decide_eq_true rfl)).trans (f9 20 (of_decide_eq_true rfl))))))
                 have z88 : (σ84 55 21).toInt = (σ26 55 21).toInt := (congrArg Int32.toInt (show σ84 55 21 = (σ26 55 21) from (jkp 21 eσ84 (of_decide_eq_true rfl))))
                 have I89 : jI121 σ84 := ⟨(by omega), (by omega), (by omega), (by omega), (by omega)⟩
                 have z90 : (σ84 55 22).toInt = (σ26 55 22).toInt := (congrArg Int32.toInt (show σ84 55 22 = (σ26 55 22) from (jkp 22 eσ84 (of_decide_eq_true rfl))))
                 exact by
                  refine jcallV (As := []) (rest := []) ⟨hx, hb, hml, hown, hts⟩ hK hP hA hS hZ (h_product σ84 τ I89 (by omega) (by omega) (by omega)) cw_RX12_205 (jc_55 cI cL ad σ84 τ) rfl ⟨by dsimp only; omega, by dsimp only; omega⟩ rfl rfl rfl hl.1 rfl (Nat.le_of_ble_eq_true rfl) dX12_sums_56 ⟨Nat.zero_le _, Nat.zero_le _⟩ (fun r92 σ91 τ91 H locs h91 hP hS => ?_)
                  obtain ⟨rfl, f93, f94, I95, h91⟩ := h91
                  obtain ⟨i97, i98, i99, i100, i101⟩ : ((-1) ≤ (σ91 55 18).toInt ∧ (σ91 55 18).toInt ≤ 80) ∧ (0 ≤ (σ91 55 19).toInt) ∧ ((σ91 55 19).toInt ≤ (σ91 55 20).toInt) ∧ ((σ91 55 20).toInt ≤ 80) ∧ ((-1) ≤ (σ91 55 21).toInt) := id I95
                  have z102 : (σ91 55 18).toInt = (σ 55 18).toInt := (congrArg Int32.toInt (show σ91 55 18 = (σ 55 18) from ((f94 18 (of_decide_eq_true rfl)).trans ((jkp 18 eσ84 (of_decide_eq_true rfl)).trans ((f37 18 (of_decide_eq_true rfl)).trans (f9 18 (of_decide_eq_true rfl)))))))
                  have z103 : (σ91 55 20).toInt = (σ 55 20).toInt := (congrArg Int32.toInt (show σ91 55 20 = (σ 55 20) from ((f94 20 (of_decide_eq_true rfl)).trans ((jkp 20 eσ84 (of_decide_eq_true rfl)).trans ((f37 20 (of_decide_eq_true rfl)).trans (f9 20 (of_decide_eq_true rfl)))))))
                  obtain ⟨k104, k105, h91⟩ := h91
                  refine lv_istore_n (lv' := [(3, .int r92), (2, .int 1), (1, .int x23), (0, .ref (ad 55))]) hx hb dX12_sums_59 rfl hl (of_decide_eq_true rfl) rfl (fun ls hl => ?_)
                  refine lv_iload_n hx hb dX12_sums_60 rfl (lv_at hl 1 rfl) ?_
                  refine lv_if_eq (tgt := 70) hx hb dX12_sums_61 (of_decide_eq_true rfl) (fun c => absurd c (of_decide_eq_true rfl)) (fun _ => ?_)
                  refine lv_iload_n hx hb dX12_sums_64 rfl (lv_at hl 2 rfl) ?_
                  refine lv_iload_n hx hb dX12_sums_65 rfl (lv_at hl 0 rfl) ?_
                  have g106 := jrg (rfl : x23.toInt = x23.toInt)
                  have g107 := jrg (rfl : r92.toInt = r92.toInt)
                  refine lv_iadd hx hb dX12_sums_66 ?_
                  refine lv_topi (fun x108 ex108 => ?_)
                  have gx108 := jrg (rfl : x108.toInt = x108.toInt)
                  refine lv_goto (tgt := 73) hx hb dX12_sums_67 (of_decide_eq_true rfl) ?_
                  refine lv_istore_n (lv' := [(1, .int x108), (3, .int r92), (2, .int 1), (0, .ref (ad 55))]) hx hb dX12_sums_73 rfl hl (of_decide_eq_true rfl) rfl (fun ls hl => ?_)
                  refine lv_goto (tgt := 5) hx hb dX12_sums_74 (of_decide_eq_true rfl) ?_
                  exact by exact ihlp21 x108 σ91 _ _ ls (by omega) (by omega) (by omega) (by omega) (by omega) (by omega) (by omega) (by omega) (fun i hi => ((f93 i hi).trans ((jnp i eσ84 (imp_165 i hi)).trans (f36 i hi)))) (fun i hi => ((f94 i hi).trans ((jkp i eσ84 (imp_171 i hi)).trans (f37 i hi))))   hP hS (lv_sub hl [0, 3] rfl)
           · have kc48 := jne c48 rfl jz_43
             refine lv_aload_n hx hb dX12_sums_21 rfl (lv_at hl 1 rfl) ?_
             refine jcallV (As := []) (rest := []) ⟨hx, hb, hml, hown, hts⟩ hK hP hA hS hZ (c_X12_byteAt l D cI cL ad zz hJ σ26 τ I42) cw_RX12_189 (jc_55 cI cL ad σ26 τ) rfl ⟨by dsimp only; omega, by dsimp only; omega⟩ rfl rfl rfl hl.1 rfl (Nat.le_of_ble_eq_true rfl) dX12_sums_22 ⟨Nat.zero_le _, Nat.zero_le _⟩ (fun r110 σ109 τ109 H locs h109 hP hS => ?_)
             obtain ⟨⟨rfl, rfl⟩, h109⟩ := h109
             have h111 := h109
             obtain ⟨q113, k112⟩ := h111
             refine lv_bipush (v := 45) hx hb dX12_sums_25 (of_decide_eq_true rfl) ?_
             refine lv_icmp_ne (tgt := 77) hx hb dX12_sums_27 (of_decide_eq_true rfl) (fun c114 => ?_) (fun c114 => ?_)
             · have kc114 := jne c114 rfl jz_45
               refine lv_iload_n hx hb dX12_sums_77 rfl (lv_at hl 0 rfl) ?_
               exact by exact hret x23 σ26 τ _ _ _ _ rfl ⟨rfl, (fun i hi => ((f36 i hi).trans (f8 i hi))), (fun i hi => ((f37 i hi).trans (f9 i hi))), I42, (by omega), (by omega), trivial⟩ hP hS dX12_sums_78
             · have kc114 := jeq c114 rfl jz_45
               refine lv_aload_n hx hb dX12_sums_30 rfl (lv_at hl 1 rfl) ?_
               refine jcallV (As := []) (rest := []) ⟨hx, hb, hml, hown, hts⟩ hK hP hA hS hZ (c_X12_byteAt l D cI cL ad zz hJ σ26 τ I42) cw_RX12_189 (jc_55 cI cL ad σ26 τ) rfl ⟨by dsimp only; omega, by dsimp only; omega⟩ rfl rfl rfl hl.1 rfl (Nat.le_of_ble_eq_true rfl) dX12_sums_31 ⟨Nat.zero_le _, Nat.zero_le _⟩ (fun r116 σ115 τ115 H locs h115 hP hS => ?_)
               obtain ⟨⟨rfl, rfl⟩, h115⟩ := h115
               have h117 := h115
               obtain ⟨q119, k118⟩ := h117
               refine lv_bipush (v := 43) hx hb dX12_sums_34 (of_decide_eq_true rfl) ?_
               refine lv_icmp_ne (tgt := 43) hx hb dX12_sums_36 (of_decide_eq_true rfl) (fun c120 => ?_) (fun c120 => ?_)
               · have kc120 := jne c120 rfl jz_43
                 refine lv_iconst (v := 0) hx hb dX12_sums_43 (of_decide_eq_true rfl) ?_
                 refine lv_istore_n (lv' := [(2, .int 0), (1, .int x23), (0, .ref (ad 55))]) hx hb dX12_sums_44 rfl hl (of_decide_eq_true rfl) rfl (fun ls hl => ?_)
                 refine lv_aload_n hx hb dX12_sums_45 rfl (lv_at hl 2 rfl) ?_
                 refine lv_dup hx hb dX12_sums_46 rfl ?_
                 refine va_get (D := D) hx hb hts inlX12 hown hK hP 55 (jc_55 cI cL ad σ26 τ) rfl 19 (of_decide_eq_true rfl) (hts _ kw_15_11) (fun _ h9 => h9) rfl dX12_sums_47 ?_
                 refine lv_iconst (v := 1) hx hb dX12_sums_50 (of_decide_eq_true rfl) ?_
                 have g121 := jrg (rfl : (σ26 55 19).toInt = (σ26 55 19).toInt)
                 refine lv_iadd hx hb dX12_sums_51 ?_
                 refine lv_topi (fun x122 ex122 => ?_)
                 exact by
                  have tx122 : x122.toInt = (σ26 55 19).toInt + 1 := (jadd ex122 rfl jz_1 (by omega) (by omega)).trans (by omega)
                  refine jput (ty := .int) hx hb hts inlX12 tyX12 tyX12_ok nmX12 hown hK hP hJ hA hS (jc_55 cI cL ad σ26 τ) rfl (k := 19) (of_decide_eq_true rfl) (Nat.le_of_ble_eq_true rfl) (jp_55_19 cI cL ad σ26 τ x122) (hts _ kw_15_11) (fun _ h9 => h9) rfl (by decide +kernel) rfl rfl dX12_sums_52 (fun σ123 H locs eσ123 hP hS => ?_)
                  refine lv_aload_n hx hb dX12_sums_55 rfl (lv_at hl 2 rfl) ?_
                  have z124 : (σ123 55 18).toInt = (σ 55 18).toInt := (congrArg Int32.toInt (show σ123 55 18 = (σ 55 18) from ((jkp 18 eσ123 (of_decide_eq_true rfl)).trans ((f37 18 (of_decide_eq_true rfl)).trans (f9 18 (of_decide_eq_true rfl))))))
                  have z125 : (σ123 55 19).toInt = (σ26 55 19).toInt + 1 := ((congrArg Int32.toInt (show σ123 55 19 = x122 from (jsp eσ123))).trans tx122)
                  have z126 : (σ123 55 20).toInt = (σ 55 20).toInt := (congrArg Int32.toInt (show σ123 55 20 = (σ 55 20) from ((jkp 20 eσ123 (of_decide_eq_true rfl)).trans ((f37 20 (of_decide_eq_true rfl)).trans (f9 20 (of_decide_eq_true rfl))))))
                  have z127 : (σ123 55 21).toInt = (σ26 55 21).toInt := (congrArg Int32.toInt (show σ123 55 21 = (σ26 55 21) from (jkp 21 eσ123 (of_decide_eq_true rfl))))
                  have I128 : jI121 σ123 := ⟨(by omega), (by omega), (by omega), (by omega), (by omega)⟩
                  have z129 : (σ123 55 22).toInt = (σ26 55 22).toInt := (congrArg Int32.toInt (show σ123 55 22 = (σ26 55 22) from (jkp 22 eσ123 (of_decide_eq_true rfl))))
                  exact by
                   refine jcallV (As := []) (rest := []) ⟨hx, hb, hml, hown, hts⟩ hK hP hA hS hZ (h_product σ123 τ I128 (by omega) (by omega) (by omega)) cw_RX12_205 (jc_55 cI cL ad σ123 τ) rfl ⟨by dsimp only; omega, by dsimp only; omega⟩ rfl rfl rfl hl.1 rfl (Nat.le_of_ble_eq_true rfl) dX12_sums_56 ⟨Nat.zero_le _, Nat.zero_le _⟩ (fun r131 σ130 τ130 H locs h130 hP hS => ?_)
                   obtain ⟨rfl, f132, f133, I134, h130⟩ := h130
                   obtain ⟨i136, i137, i138, i139, i140⟩ : ((-1) ≤ (σ130 55 18).toInt ∧ (σ130 55 18).toInt ≤ 80) ∧ (0 ≤ (σ130 55 19).toInt) ∧ ((σ130 55 19).toInt ≤ (σ130 55 20).toInt) ∧ ((σ130 55 20).toInt ≤ 80) ∧ ((-1) ≤ (σ130 55 21).toInt) := id I134
                   have z141 : (σ130 55 18).toInt = (σ 55 18).toInt := (congrArg Int32.toInt (show σ130 55 18 = (σ 55 18) from ((f133 18 (of_decide_eq_true rfl)).trans ((jkp 18 eσ123 (of_decide_eq_true rfl)).trans ((f37 18 (of_decide_eq_true rfl)).trans (f9 18 (of_decide_eq_true rfl)))))))
                   have z142 : (σ130 55 20).toInt = (σ 55 20).toInt := (congrArg Int32.toInt (show σ130 55 20 = (σ 55 20) from ((f133 20 (of_decide_eq_true rfl)).trans ((jkp 20 eσ123 (of_decide_eq_true rfl)).trans ((f37 20 (of_decide_eq_true rfl)).trans (f9 20 (of_decide_eq_true rfl)))))))
                   obtain ⟨k143, k144, h130⟩ := h130
                   refine lv_istore_n (lv' := [(3, .int r131), (2, .int 0), (1, .int x23), (0, .ref (ad 55))]) hx hb dX12_sums_59 rfl hl (of_decide_eq_true rfl) rfl (fun ls hl => ?_)
                   refine lv_iload_n hx hb dX12_sums_60 rfl (lv_at hl 1 rfl) ?_
                   refine lv_if_eq (tgt := 70) hx hb dX12_sums_61 (of_decide_eq_true rfl) (fun _ => ?_) (fun c => absurd (of_decide_eq_true rfl) c)
                   refine lv_iload_n hx hb dX12_sums_70 rfl (lv_at hl 2 rfl) ?_
                   refine lv_iload_n hx hb dX12_sums_71 rfl (lv_at hl 0 rfl) ?_
                   have g145 := jrg (rfl : x23.toInt = x23.toInt)
                   have g146 := jrg (rfl : r131.toInt = r131.toInt)
                   refine lv_isub hx hb dX12_sums_72 ?_
                   refine lv_topi (fun x147 ex147 => ?_)
                   have gx147 := jrg (rfl : x147.toInt = x147.toInt)
                   refine lv_istore_n (lv' := [(1, .int x147), (3, .int r131), (2, .int 0), (0, .ref (ad 55))]) hx hb dX12_sums_73 rfl hl (of_decide_eq_true rfl) rfl (fun ls hl => ?_)
                   refine lv_goto (tgt := 5) hx hb dX12_sums_74 (of_decide_eq_true rfl) ?_
                   exact by exact ihlp21 x147 σ130 _ _ ls (by omega) (by omega) (by omega) (by omega) (by omega) (by omega) (by omega) (by omega) (fun i hi => ((f132 i hi).trans ((jnp i eσ123 (imp_165 i hi)).trans (f36 i hi)))) (fun i hi => ((f133 i hi).trans ((jkp i eσ123 (imp_171 i hi)).trans (f37 i hi))))   hP hS (lv_sub hl [0, 3] rfl)
               · have kc120 := jeq c120 rfl jz_43
                 refine lv_iconst (v := 1) hx hb dX12_sums_39 (of_decide_eq_true rfl) ?_
                 refine lv_goto (tgt := 44) hx hb dX12_sums_40 (of_decide_eq_true rfl) ?_
                 refine lv_istore_n (lv' := [(2, .int 1), (1, .int x23), (0, .ref (ad 55))]) hx hb dX12_sums_44 rfl hl (of_decide_eq_true rfl) rfl (fun ls hl => ?_)
                 refine lv_aload_n hx hb dX12_sums_45 rfl (lv_at hl 2 rfl) ?_
                 refine lv_dup hx hb dX12_sums_46 rfl ?_
                 refine va_get (D := D) hx hb hts inlX12 hown hK hP 55 (jc_55 cI cL ad σ26 τ) rfl 19 (of_decide_eq_true rfl) (hts _ kw_15_11) (fun _ h9 => h9) rfl dX12_sums_47 ?_
                 refine lv_iconst (v := 1) hx hb dX12_sums_50 (of_decide_eq_true rfl) ?_
                 have g148 := jrg (rfl : (σ26 55 19).toInt = (σ26 55 19).toInt)
                 refine lv_iadd hx hb dX12_sums_51 ?_
                 refine lv_topi (fun x149 ex149 => ?_)
                 exact by
                  have tx149 : x149.toInt = (σ26 55 19).toInt + 1 := (jadd ex149 rfl jz_1 (by omega) (by omega)).trans (by omega)
                  refine jput (ty := .int) hx hb hts inlX12 tyX12 tyX12_ok nmX12 hown hK hP hJ hA hS (jc_55 cI cL ad σ26 τ) rfl (k := 19) (of_decide_eq_true rfl) (Nat.le_of_ble_eq_true rfl) (jp_55_19 cI cL ad σ26 τ x149) (hts _ kw_15_11) (fun _ h9 => h9) rfl (by decide +kernel) rfl rfl dX12_sums_52 (fun σ150 H locs eσ150 hP hS => ?_)
                  refine lv_aload_n hx hb dX12_sums_55 rfl (lv_at hl 2 rfl) ?_
                  have z151 : (σ150 55 18).toInt = (σ 55 18).toInt := (congrArg Int32.toInt (show σ150 55 18 = (σ 55 18) from ((jkp 18 eσ150 (of_decide_eq_true rfl)).trans ((f37 18 (of_decide_eq_true rfl)).trans (f9 18 (of_decide_eq_true rfl))))))
                  have z152 : (σ150 55 19).toInt = (σ26 55 19).toInt + 1 := ((congrArg Int32.toInt (show σ150 55 19 = x149 from (jsp eσ150))).trans tx149)
                  have z153 : (σ150 55 20).toInt = (σ 55 20).toInt := (congrArg Int32.toInt (show σ150 55 20 = (σ 55 20) from ((jkp 20 eσ150 (of_decide_eq_true rfl)).trans ((f37 20 (of_decide_eq_true rfl)).trans (f9 20 (of_decide_eq_true rfl))))))
                  have z154 : (σ150 55 21).toInt = (σ26 55 21).toInt := (congrArg Int32.toInt (show σ150 55 21 = (σ26 55 21) from (jkp 21 eσ150 (of_decide_eq_true rfl))))
                  have I155 : jI121 σ150 := ⟨(by omega), (by omega), (by omega), (by omega), (by omega)⟩
                  have z156 : (σ150 55 22).toInt = (σ26 55 22).toInt := (congrArg Int32.toInt (show σ150 55 22 = (σ26 55 22) from (jkp 22 eσ150 (of_decide_eq_true rfl))))
                  exact by
                   refine jcallV (As := []) (rest := []) ⟨hx, hb, hml, hown, hts⟩ hK hP hA hS hZ (h_product σ150 τ I155 (by omega) (by omega) (by omega)) cw_RX12_205 (jc_55 cI cL ad σ150 τ) rfl ⟨by dsimp only; omega, by dsimp only; omega⟩ rfl rfl rfl hl.1 rfl (Nat.le_of_ble_eq_true rfl) dX12_sums_56 ⟨Nat.zero_le _, Nat.zero_le _⟩ (fun r158 σ157 τ157 H locs h157 hP hS => ?_)
                   obtain ⟨rfl, f159, f160, I161, h157⟩ := h157
                   obtain ⟨i163, i164, i165, i166, i167⟩ : ((-1) ≤ (σ157 55 18).toInt ∧ (σ157 55 18).toInt ≤ 80) ∧ (0 ≤ (σ157 55 19).toInt) ∧ ((σ157 55 19).toInt ≤ (σ157 55 20).toInt) ∧ ((σ157 55 20).toInt ≤ 80) ∧ ((-1) ≤ (σ157 55 21).toInt) := id I161
                   have z168 : (σ157 55 18).toInt = (σ 55 18).toInt := (congrArg Int32.toInt (show σ157 55 18 = (σ 55 18) from ((f160 18 (of_decide_eq_true rfl)).trans ((jkp 18 eσ150 (of_decide_eq_true rfl)).trans ((f37 18 (of_decide_eq_true rfl)).trans (f9 18 (of_decide_eq_true rfl)))))))
                   have z169 : (σ157 55 20).toInt = (σ 55 20).toInt := (congrArg Int32.toInt (show σ157 55 20 = (σ 55 20) from ((f160 20 (of_decide_eq_true rfl)).trans ((jkp 20 eσ150 (of_decide_eq_true rfl)).trans ((f37 20 (of_decide_eq_true rfl)).trans (f9 20 (of_decide_eq_true rfl)))))))
                   obtain ⟨k170, k171, h157⟩ := h157
                   refine lv_istore_n (lv' := [(3, .int r158), (2, .int 1), (1, .int x23), (0, .ref (ad 55))]) hx hb dX12_sums_59 rfl hl (of_decide_eq_true rfl) rfl (fun ls hl => ?_)
                   refine lv_iload_n hx hb dX12_sums_60 rfl (lv_at hl 1 rfl) ?_
                   refine lv_if_eq (tgt := 70) hx hb dX12_sums_61 (of_decide_eq_true rfl) (fun c => absurd c (of_decide_eq_true rfl)) (fun _ => ?_)
                   refine lv_iload_n hx hb dX12_sums_64 rfl (lv_at hl 2 rfl) ?_
                   refine lv_iload_n hx hb dX12_sums_65 rfl (lv_at hl 0 rfl) ?_
                   have g172 := jrg (rfl : x23.toInt = x23.toInt)
                   have g173 := jrg (rfl : r158.toInt = r158.toInt)
                   refine lv_iadd hx hb dX12_sums_66 ?_
                   refine lv_topi (fun x174 ex174 => ?_)
                   have gx174 := jrg (rfl : x174.toInt = x174.toInt)
                   refine lv_goto (tgt := 73) hx hb dX12_sums_67 (of_decide_eq_true rfl) ?_
                   refine lv_istore_n (lv' := [(1, .int x174), (3, .int r158), (2, .int 1), (0, .ref (ad 55))]) hx hb dX12_sums_73 rfl hl (of_decide_eq_true rfl) rfl (fun ls hl => ?_)
                   refine lv_goto (tgt := 5) hx hb dX12_sums_74 (of_decide_eq_true rfl) ?_
                   exact by exact ihlp21 x174 σ157 _ _ ls (by omega) (by omega) (by omega) (by omega) (by omega) (by omega) (by omega) (by omega) (fun i hi => ((f159 i hi).trans ((jnp i eσ150 (imp_165 i hi)).trans (f36 i hi)))) (fun i hi => ((f160 i hi).trans ((jkp i eσ150 (imp_171 i hi)).trans (f37 i hi))))   hP hS (lv_sub hl [0, 3] rfl)
   exact by exact lp21 1000000 r7 σ6 _ _ ls (by omega) (by omega) (by omega) (by omega) (by omega) (by omega) (by omega) (by omega) (fun _ _ => rfl) (fun _ _ => rfl)   hP hS hl
set_option maxHeartbeats 4000000 in
set_option maxRecDepth 100000 in
theorem c_X12_grammar_compared_g (l : Launch) (D : va_G) (cI cL : ClassId) (ad zz : Nat → Nat) (hJ : jD ad) (n : Nat) (h_sums : ∀ (σ : Nat → Nat → Int32) (τ : Nat → Nat → Int64) (hI121 : jI121 σ) (hp0 : (σ 55 21).toInt = (-1)) (hp1 : 0 ≤ (σ 55 22).toInt ∧ (σ 55 22).toInt ≤ 6) (hp2 : -(σ 55 22).toInt + 6 ≤ (((n) : Nat) : Int)), jM l yX12_sums cX12_sums 4 (some .int) ({ frames := (12 + 8 * (n)), cells := 0, slots := 0, locals := (480 + 360 * (n)) }) D cI cL ad zz [.ref (ad 55)] σ τ (fun r σ' τ' => τ = τ' ∧ (∀ i : Nat, (i < 55 ∨ 55 < i) → σ' i = σ i) ∧ (∀ k : Nat, (k < 19 ∨ 19 < k) ∧ (k < 21 ∨ 21 < k) ∧ (k < 22 ∨ 22 < k) → σ' 55 k = σ 55 k) ∧ (jI121 σ') ∧ (((σ' 55 21).toInt = (-1) ∧ (σ' 55 22).toInt = (σ 55 22).toInt) ∨ (0 ≤ (σ' 55 21).toInt)) ∧ ((σ 55 19).toInt ≤ (σ' 55 19).toInt) ∧ True)) (σ : Nat → Nat → Int32) (τ : Nat → Nat → Int64) (hI121 : jI121 σ) (hp0 : (σ 55 21).toInt = (-1)) (hp1 : 0 ≤ (σ 55 22).toInt ∧ (σ 55 22).toInt ≤ 6) (hp2 : -(σ 55 22).toInt + 6 ≤ (((n) : Nat) : Int)) : jM l yX12_compared cX12_compared 4 (some .int) ({ frames := (13 + 8 * (n)), cells := 0, slots := 0, locals := (520 + 360 * (n)) }) D cI cL ad zz [.ref (ad 55)] σ τ (fun r σ' τ' => τ = τ' ∧ (∀ i : Nat, (i < 55 ∨ 55 < i) → σ' i = σ i) ∧ (∀ k : Nat, (k < 19 ∨ 19 < k) ∧ (k < 21 ∨ 21 < k) ∧ (k < 22 ∨ 22 < k) → σ' 55 k = σ 55 k) ∧ (jI121 σ') ∧ (((σ' 55 21).toInt = (-1) ∧ (σ' 55 22).toInt = (σ 55 22).toInt) ∨ (0 ≤ (σ' 55 21).toInt)) ∧ ((σ 55 19).toInt ≤ (σ' 55 19).toInt) ∧ True) := by
  refine jM.of hJ (by decide +kernel) (nt := .int) rfl (Nat.le_of_ble_eq_true rfl) ?_
  intro p e s m args below meth c Q ls hC hret hl hP
  obtain ⟨hx, hb, hr, hml, hown, hts, hK, -, hlocks, hZ⟩ := hC
  have hown : s.vm.findClass RX12 = some m.cls := hown
  have hS : va_S (jA ad) s.heap s.heap [] := va_S.rf
  have hA : ∀ q, jA ad q → jA ad q := fun _ h => h
  have hl : lv_has ls 4 [(0, .ref (ad 55))] := hl
  obtain ⟨i1, i2, i3, i4, i5⟩ : ((-1) ≤ (σ 55 18).toInt ∧ (σ 55 18).toInt ≤ 80) ∧ (0 ≤ (σ 55 19).toInt) ∧ ((σ 55 19).toInt ≤ (σ 55 20).toInt) ∧ ((σ 55 20).toInt ≤ 80) ∧ ((-1) ≤ (σ 55 21).toInt) := id hI121
  refine lv_aload_n hx hb dX12_compared_0 rfl (lv_at hl 0 rfl) ?_
  exact by
   refine jcallV (As := []) (rest := []) ⟨hx, hb, hml, hown, hts⟩ hK hP hA hS hZ (h_sums σ τ hI121 (by omega) (by omega) (by omega)) cw_RX12_202 (jc_55 cI cL ad σ τ) rfl ⟨by dsimp only; omega, by dsimp only; omega⟩ rfl rfl rfl hl.1 rfl (Nat.le_of_ble_eq_true rfl) dX12_compared_1 ⟨Nat.zero_le _, Nat.zero_le _⟩ (fun r7 σ6 τ6 H locs h6 hP hS => ?_)
   obtain ⟨rfl, f8, f9, I10, h6⟩ := h6
   obtain ⟨i12, i13, i14, i15, i16⟩ : ((-1) ≤ (σ6 55 18).toInt ∧ (σ6 55 18).toInt ≤ 80) ∧ (0 ≤ (σ6 55 19).toInt) ∧ ((σ6 55 19).toInt ≤ (σ6 55 20).toInt) ∧ ((σ6 55 20).toInt ≤ 80) ∧ ((-1) ≤ (σ6 55 21).toInt) := id I10
   have z17 : (σ6 55 18).toInt = (σ 55 18).toInt := (congrArg Int32.toInt (show σ6 55 18 = (σ 55 18) from (f9 18 (of_decide_eq_true rfl))))
   have z18 : (σ6 55 20).toInt = (σ 55 20).toInt := (congrArg Int32.toInt (show σ6 55 20 = (σ 55 20) from (f9 20 (of_decide_eq_true rfl))))
   obtain ⟨k19, k20, h6⟩ := h6
   refine lv_istore_n (lv' := [(1, .int r7), (0, .ref (ad 55))]) hx hb dX12_compared_4 rfl hl (of_decide_eq_true rfl) rfl (fun ls hl => ?_)
   refine lv_aload_n hx hb dX12_compared_5 rfl (lv_at hl 1 rfl) ?_
   refine jcallV (As := []) (rest := []) ⟨hx, hb, hml, hown, hts⟩ hK hP hA hS hZ (c_X12_byteAt l D cI cL ad zz hJ σ6 τ I10) cw_RX12_189 (jc_55 cI cL ad σ6 τ) rfl ⟨by dsimp only; omega, by dsimp only; omega⟩ rfl rfl rfl hl.1 rfl (Nat.le_of_ble_eq_true rfl) dX12_compared_6 ⟨Nat.zero_le _, Nat.zero_le _⟩ (fun r22 σ21 τ21 H locs h21 hP hS => ?_)
   obtain ⟨⟨rfl, rfl⟩, h21⟩ := h21
   have h23 := h21
   obtain ⟨q25, k24⟩ := h23
   refine lv_istore_n (lv' := [(2, .int r22), (1, .int r7), (0, .ref (ad 55))]) hx hb dX12_compared_9 rfl hl (of_decide_eq_true rfl) rfl (fun ls hl => ?_)
   refine lv_aload_n hx hb dX12_compared_10 rfl (lv_at hl 2 rfl) ?_
   refine va_get (D := D) hx hb hts inlX12 hown hK hP 55 (jc_55 cI cL ad σ6 τ) rfl 21 (of_decide_eq_true rfl) (hts _ kw_15_13) (fun _ h9 => h9) rfl dX12_compared_11 ?_
   refine lv_if_ge (tgt := 35) hx hb dX12_compared_14 (of_decide_eq_true rfl) (fun c26 => ?_) (fun c26 => ?_)
   · have kc26 := jle c26 jz_0 rfl
     refine lv_iload_n hx hb dX12_compared_35 rfl (lv_at hl 1 rfl) ?_
     exact by exact hret r7 σ6 τ _ _ _ _ rfl ⟨rfl, (fun i hi => (f8 i hi)), (fun i hi => (f9 i hi)), I10, (by omega), (by omega), trivial⟩ hP hS dX12_compared_36
   · have kc26 := jnle c26 jz_0 rfl
     refine lv_iload_n hx hb dX12_compared_17 rfl (lv_at hl 0 rfl) ?_
     refine lv_bipush (v := 60) hx hb dX12_compared_18 (of_decide_eq_true rfl) ?_
     refine lv_icmp_eq (tgt := 37) hx hb dX12_compared_20 (of_decide_eq_true rfl) (fun c27 => ?_) (fun c27 => ?_)
     · have kc27 := jeq c27 rfl jz_60
       refine lv_aload_n hx hb dX12_compared_37 rfl (lv_at hl 2 rfl) ?_
       refine lv_dup hx hb dX12_compared_38 rfl ?_
       refine va_get (D := D) hx hb hts inlX12 hown hK hP 55 (jc_55 cI cL ad σ6 τ) rfl 19 (of_decide_eq_true rfl) (hts _ kw_15_11) (fun _ h9 => h9) rfl dX12_compared_39 ?_
       refine lv_iconst (v := 1) hx hb dX12_compared_42 (of_decide_eq_true rfl) ?_
       have g28 := jrg (rfl : (σ6 55 19).toInt = (σ6 55 19).toInt)
       refine lv_iadd hx hb dX12_compared_43 ?_
       refine lv_topi (fun x29 ex29 => ?_)
       exact by
        have tx29 : x29.toInt = (σ6 55 19).toInt + 1 := (jadd ex29 rfl jz_1 (by omega) (by omega)).trans (by omega)
        refine jput (ty := .int) hx hb hts inlX12 tyX12 tyX12_ok nmX12 hown hK hP hJ hA hS (jc_55 cI cL ad σ6 τ) rfl (k := 19) (of_decide_eq_true rfl) (Nat.le_of_ble_eq_true rfl) (jp_55_19 cI cL ad σ6 τ x29) (hts _ kw_15_11) (fun _ h9 => h9) rfl (by decide +kernel) rfl rfl dX12_compared_44 (fun σ30 H locs eσ30 hP hS => ?_)
        refine lv_aload_n hx hb dX12_compared_47 rfl (lv_at hl 2 rfl) ?_
        have z31 : (σ30 55 18).toInt = (σ 55 18).toInt := (congrArg Int32.toInt (show σ30 55 18 = (σ 55 18) from ((jkp 18 eσ30 (of_decide_eq_true rfl)).trans (f9 18 (of_decide_eq_true rfl)))))
        have z32 : (σ30 55 19).toInt = (σ6 55 19).toInt + 1 := ((congrArg Int32.toInt (show σ30 55 19 = x29 from (jsp eσ30))).trans tx29)
        have z33 : (σ30 55 20).toInt = (σ 55 20).toInt := (congrArg Int32.toInt (show σ30 55 20 = (σ 55 20) from ((jkp 20 eσ30 (of_decide_eq_true rfl)).trans (f9 20 (of_decide_eq_true rfl)))))
        have z34 : (σ30 55 21).toInt = (σ6 55 21).toInt := (congrArg Int32.toInt (show σ30 55 21 = (σ6 55 21) from (jkp 21 eσ30 (of_decide_eq_true rfl))))
        have I35 : jI121 σ30 := ⟨(by omega), (by omega), (by omega), (by omega), (by omega)⟩
        have z36 : (σ30 55 22).toInt = (σ6 55 22).toInt := (congrArg Int32.toInt (show σ30 55 22 = (σ6 55 22) from (jkp 22 eσ30 (of_decide_eq_true rfl))))
        exact by
         refine jcallV (As := []) (rest := []) ⟨hx, hb, hml, hown, hts⟩ hK hP hA hS hZ (h_sums σ30 τ I35 (by omega) (by omega) (by omega)) cw_RX12_202 (jc_55 cI cL ad σ30 τ) rfl ⟨by dsimp only; omega, by dsimp only; omega⟩ rfl rfl rfl hl.1 rfl (Nat.le_of_ble_eq_true rfl) dX12_compared_48 ⟨Nat.zero_le _, Nat.zero_le _⟩ (fun r38 σ37 τ37 H locs h37 hP hS => ?_)
         obtain ⟨rfl, f39, f40, I41, h37⟩ := h37
         obtain ⟨i43, i44, i45, i46, i47⟩ : ((-1) ≤ (σ37 55 18).toInt ∧ (σ37 55 18).toInt ≤ 80) ∧ (0 ≤ (σ37 55 19).toInt) ∧ ((σ37 55 19).toInt ≤ (σ37 55 20).toInt) ∧ ((σ37 55 20).toInt ≤ 80) ∧ ((-1) ≤ (σ37 55 21).toInt) := id I41
         have z48 : (σ37 55 18).toInt = (σ 55 18).toInt := (congrArg Int32.toInt (show σ37 55 18 = (σ 55 18) from ((f40 18 (of_decide_eq_true rfl)).trans ((jkp 18 eσ30 (of_decide_eq_true rfl)).trans (f9 18 (of_decide_eq_true rfl))))))
         have z49 : (σ37 55 20).toInt = (σ 55 20).toInt := (congrArg Int32.toInt (show σ37 55 20 = (σ 55 20) from ((f40 20 (of_decide_eq_true rfl)).trans ((jkp 20 eσ30 (of_decide_eq_true rfl)).trans (f9 20 (of_decide_eq_true rfl))))))
         obtain ⟨k50, k51, h37⟩ := h37
         refine lv_istore_n (lv' := [(3, .int r38), (2, .int r22), (1, .int r7), (0, .ref (ad 55))]) hx hb dX12_compared_51 rfl hl (of_decide_eq_true rfl) rfl (fun ls hl => ?_)
         refine lv_iload_n hx hb dX12_compared_52 rfl (lv_at hl 1 rfl) ?_
         refine lv_bipush (v := 60) hx hb dX12_compared_53 (of_decide_eq_true rfl) ?_
         exact by
          refine lv_icmp_ne (tgt := 66) hx hb dX12_compared_55 (of_decide_eq_true rfl) (fun c => absurd (jne c rfl jz_60) (by omega)) (fun c52 => ?_)
          have kc52 := jeq c52 rfl jz_60
          refine lv_iload_n hx hb dX12_compared_58 rfl (lv_at hl 2 rfl) ?_
          refine lv_iload_n hx hb dX12_compared_59 rfl (lv_at hl 0 rfl) ?_
          refine lv_icmp_ge (tgt := 89) hx hb dX12_compared_60 (of_decide_eq_true rfl) (fun c53 => ?_) (fun c53 => ?_)
          · have kc53 := jle c53 rfl rfl
            refine lv_iconst (v := 0) hx hb dX12_compared_89 (of_decide_eq_true rfl) ?_
            exact by exact hret 0 σ37 τ _ _ _ _ rfl ⟨rfl, (fun i hi => ((f39 i hi).trans ((jnp i eσ30 (imp_165 i hi)).trans (f8 i hi)))), (fun i hi => ((f40 i hi).trans ((jkp i eσ30 (imp_171 i hi)).trans (f9 i hi)))), I41, (by omega), (by omega), trivial⟩ hP hS dX12_compared_90
          · have kc53 := jnle c53 rfl rfl
            refine lv_goto (tgt := 85) hx hb dX12_compared_63 (of_decide_eq_true rfl) ?_
            refine lv_iconst (v := 1) hx hb dX12_compared_85 (of_decide_eq_true rfl) ?_
            refine lv_goto (tgt := 90) hx hb dX12_compared_86 (of_decide_eq_true rfl) ?_
            exact by exact hret 1 σ37 τ _ _ _ _ rfl ⟨rfl, (fun i hi => ((f39 i hi).trans ((jnp i eσ30 (imp_165 i hi)).trans (f8 i hi)))), (fun i hi => ((f40 i hi).trans ((jkp i eσ30 (imp_171 i hi)).trans (f9 i hi)))), I41, (by omega), (by omega), trivial⟩ hP hS dX12_compared_90
     · have kc27 := jne c27 rfl jz_60
       refine lv_iload_n hx hb dX12_compared_23 rfl (lv_at hl 0 rfl) ?_
       refine lv_bipush (v := 61) hx hb dX12_compared_24 (of_decide_eq_true rfl) ?_
       refine lv_icmp_eq (tgt := 37) hx hb dX12_compared_26 (of_decide_eq_true rfl) (fun c54 => ?_) (fun c54 => ?_)
       · have kc54 := jeq c54 rfl jz_61
         refine lv_aload_n hx hb dX12_compared_37 rfl (lv_at hl 2 rfl) ?_
         refine lv_dup hx hb dX12_compared_38 rfl ?_
         refine va_get (D := D) hx hb hts inlX12 hown hK hP 55 (jc_55 cI cL ad σ6 τ) rfl 19 (of_decide_eq_true rfl) (hts _ kw_15_11) (fun _ h9 => h9) rfl dX12_compared_39 ?_
         refine lv_iconst (v := 1) hx hb dX12_compared_42 (of_decide_eq_true rfl) ?_
         have g55 := jrg (rfl : (σ6 55 19).toInt = (σ6 55 19).toInt)
         refine lv_iadd hx hb dX12_compared_43 ?_
         refine lv_topi (fun x56 ex56 => ?_)
         exact by
          have tx56 : x56.toInt = (σ6 55 19).toInt + 1 := (jadd ex56 rfl jz_1 (by omega) (by omega)).trans (by omega)
          refine jput (ty := .int) hx hb hts inlX12 tyX12 tyX12_ok nmX12 hown hK hP hJ hA hS (jc_55 cI cL ad σ6 τ) rfl (k := 19) (of_decide_eq_true rfl) (Nat.le_of_ble_eq_true rfl) (jp_55_19 cI cL ad σ6 τ x56) (hts _ kw_15_11) (fun _ h9 => h9) rfl (by decide +kernel) rfl rfl dX12_compared_44 (fun σ57 H locs eσ57 hP hS => ?_)
          refine lv_aload_n hx hb dX12_compared_47 rfl (lv_at hl 2 rfl) ?_
          have z58 : (σ57 55 18).toInt = (σ 55 18).toInt := (congrArg Int32.toInt (show σ57 55 18 = (σ 55 18) from ((jkp 18 eσ57 (of_decide_eq_true rfl)).trans (f9 18 (of_decide_eq_true rfl)))))
          have z59 : (σ57 55 19).toInt = (σ6 55 19).toInt + 1 := ((congrArg Int32.toInt (show σ57 55 19 = x56 from (jsp eσ57))).trans tx56)
          have z60 : (σ57 55 20).toInt = (σ 55 20).toInt := (congrArg Int32.toInt (show σ57 55 20 = (σ 55 20) from ((jkp 20 eσ57 (of_decide_eq_true rfl)).trans (f9 20 (of_decide_eq_true rfl)))))
          have z61 : (σ57 55 21).toInt = (σ6 55 21).toInt := (congrArg Int32.toInt (show σ57 55 21 = (σ6 55 21) from (jkp 21 eσ57 (of_decide_eq_true rfl))))
          have I62 : jI121 σ57 := ⟨(by omega), (by omega), (by omega), (by omega), (by omega)⟩
          have z63 : (σ57 55 22).toInt = (σ6 55 22).toInt := (congrArg Int32.toInt (show σ57 55 22 = (σ6 55 22) from (jkp 22 eσ57 (of_decide_eq_true rfl))))
          exact by
           refine jcallV (As := []) (rest := []) ⟨hx, hb, hml, hown, hts⟩ hK hP hA hS hZ (h_sums σ57 τ I62 (by omega) (by omega) (by omega)) cw_RX12_202 (jc_55 cI cL ad σ57 τ) rfl ⟨by dsimp only; omega, by dsimp only; omega⟩ rfl rfl rfl hl.1 rfl (Nat.le_of_ble_eq_true rfl) dX12_compared_48 ⟨Nat.zero_le _, Nat.zero_le _⟩ (fun r65 σ64 τ64 H locs h64 hP hS => ?_)
           obtain ⟨rfl, f66, f67, I68, h64⟩ := h64
           obtain ⟨i70, i71, i72, i73, i74⟩ : ((-1) ≤ (σ64 55 18).toInt ∧ (σ64 55 18).toInt ≤ 80) ∧ (0 ≤ (σ64 55 19).toInt) ∧ ((σ64 55 19).toInt ≤ (σ64 55 20).toInt) ∧ ((σ64 55 20).toInt ≤ 80) ∧ ((-1) ≤ (σ64 55 21).toInt) := id I68
           have z75 : (σ64 55 18).toInt = (σ 55 18).toInt := (congrArg Int32.toInt (show σ64 55 18 = (σ 55 18) from ((f67 18 (of_decide_eq_true rfl)).trans ((jkp 18 eσ57 (of_decide_eq_true rfl)).trans (f9 18 (of_decide_eq_true rfl))))))
           have z76 : (σ64 55 20).toInt = (σ 55 20).toInt := (congrArg Int32.toInt (show σ64 55 20 = (σ 55 20) from ((f67 20 (of_decide_eq_true rfl)).trans ((jkp 20 eσ57 (of_decide_eq_true rfl)).trans (f9 20 (of_decide_eq_true rfl))))))
           obtain ⟨k77, k78, h64⟩ := h64
           refine lv_istore_n (lv' := [(3, .int r65), (2, .int r22), (1, .int r7), (0, .ref (ad 55))]) hx hb dX12_compared_51 rfl hl (of_decide_eq_true rfl) rfl (fun ls hl => ?_)
           refine lv_iload_n hx hb dX12_compared_52 rfl (lv_at hl 1 rfl) ?_
           refine lv_bipush (v := 60) hx hb dX12_compared_53 (of_decide_eq_true rfl) ?_
           exact by
            refine lv_icmp_ne (tgt := 66) hx hb dX12_compared_55 (of_decide_eq_true rfl) (fun c79 => ?_) (fun c => absurd (jeq c rfl jz_60) (by omega))
            have kc79 := jne c79 rfl jz_60
            refine lv_iload_n hx hb dX12_compared_66 rfl (lv_at hl 1 rfl) ?_
            refine lv_bipush (v := 61) hx hb dX12_compared_67 (of_decide_eq_true rfl) ?_
            refine lv_icmp_ne (tgt := 80) hx hb dX12_compared_69 (of_decide_eq_true rfl) (fun c => absurd (jne c rfl jz_61) (by omega)) (fun c80 => ?_)
            have kc80 := jeq c80 rfl jz_61
            refine lv_iload_n hx hb dX12_compared_72 rfl (lv_at hl 2 rfl) ?_
            refine lv_iload_n hx hb dX12_compared_73 rfl (lv_at hl 0 rfl) ?_
            refine lv_icmp_ne (tgt := 89) hx hb dX12_compared_74 (of_decide_eq_true rfl) (fun c81 => ?_) (fun c81 => ?_)
            · exact by
               have kc81 := jne c81 rfl rfl
               refine lv_iconst (v := 0) hx hb dX12_compared_89 (of_decide_eq_true rfl) ?_
               exact by exact hret 0 σ64 τ _ _ _ _ rfl ⟨rfl, (fun i hi => ((f66 i hi).trans ((jnp i eσ57 (imp_165 i hi)).trans (f8 i hi)))), (fun i hi => ((f67 i hi).trans ((jkp i eσ57 (imp_171 i hi)).trans (f9 i hi)))), I68, (by omega), (by omega), trivial⟩ hP hS dX12_compared_90
            · have kc81 := jeq c81 rfl rfl
              refine lv_goto (tgt := 85) hx hb dX12_compared_77 (of_decide_eq_true rfl) ?_
              refine lv_iconst (v := 1) hx hb dX12_compared_85 (of_decide_eq_true rfl) ?_
              refine lv_goto (tgt := 90) hx hb dX12_compared_86 (of_decide_eq_true rfl) ?_
              exact by exact hret 1 σ64 τ _ _ _ _ rfl ⟨rfl, (fun i hi => ((f66 i hi).trans ((jnp i eσ57 (imp_165 i hi)).trans (f8 i hi)))), (fun i hi => ((f67 i hi).trans ((jkp i eσ57 (imp_171 i hi)).trans (f9 i hi)))), I68, (by omega), (by omega), trivial⟩ hP hS dX12_compared_90
       · have kc54 := jne c54 rfl jz_61
         refine lv_iload_n hx hb dX12_compared_29 rfl (lv_at hl 0 rfl) ?_
         refine lv_bipush (v := 62) hx hb dX12_compared_30 (of_decide_eq_true rfl) ?_
         refine lv_icmp_eq (tgt := 37) hx hb dX12_compared_32 (of_decide_eq_true rfl) (fun c82 => ?_) (fun c82 => ?_)
         · have kc82 := jeq c82 rfl jz_62
           refine lv_aload_n hx hb dX12_compared_37 rfl (lv_at hl 2 rfl) ?_
           refine lv_dup hx hb dX12_compared_38 rfl ?_
           refine va_get (D := D) hx hb hts inlX12 hown hK hP 55 (jc_55 cI cL ad σ6 τ) rfl 19 (of_decide_eq_true rfl) (hts _ kw_15_11) (fun _ h9 => h9) rfl dX12_compared_39 ?_
           refine lv_iconst (v := 1) hx hb dX12_compared_42 (of_decide_eq_true rfl) ?_
           have g83 := jrg (rfl : (σ6 55 19).toInt = (σ6 55 19).toInt)
           refine lv_iadd hx hb dX12_compared_43 ?_
           refine lv_topi (fun x84 ex84 => ?_)
           exact by
            have tx84 : x84.toInt = (σ6 55 19).toInt + 1 := (jadd ex84 rfl jz_1 (by omega) (by omega)).trans (by omega)
            refine jput (ty := .int) hx hb hts inlX12 tyX12 tyX12_ok nmX12 hown hK hP hJ hA hS (jc_55 cI cL ad σ6 τ) rfl (k := 19) (of_decide_eq_true rfl) (Nat.le_of_ble_eq_true rfl) (jp_55_19 cI cL ad σ6 τ x84) (hts _ kw_15_11) (fun _ h9 => h9) rfl (by decide +kernel) rfl rfl dX12_compared_44 (fun σ85 H locs eσ85 hP hS => ?_)
            refine lv_aload_n hx hb dX12_compared_47 rfl (lv_at hl 2 rfl) ?_
            have z86 : (σ85 55 18).toInt = (σ 55 18).toInt := (congrArg Int32.toInt (show σ85 55 18 = (σ 55 18) from ((jkp 18 eσ85 (of_decide_eq_true rfl)).trans (f9 18 (of_decide_eq_true rfl)))))
            have z87 : (σ85 55 19).toInt = (σ6 55 19).toInt + 1 := ((congrArg Int32.toInt (show σ85 55 19 = x84 from (jsp eσ85))).trans tx84)
            have z88 : (σ85 55 20).toInt = (σ 55 20).toInt := (congrArg Int32.toInt (show σ85 55 20 = (σ 55 20) from ((jkp 20 eσ85 (of_decide_eq_true rfl)).trans (f9 20 (of_decide_eq_true rfl)))))
            have z89 : (σ85 55 21).toInt = (σ6 55 21).toInt := (congrArg Int32.toInt (show σ85 55 21 = (σ6 55 21) from (jkp 21 eσ85 (of_decide_eq_true rfl))))
            have I90 : jI121 σ85 := ⟨(by omega), (by omega), (by omega), (by omega), (by omega)⟩
            have z91 : (σ85 55 22).toInt = (σ6 55 22).toInt := (congrArg Int32.toInt (show σ85 55 22 = (σ6 55 22) from (jkp 22 eσ85 (of_decide_eq_true rfl))))
            exact by
             refine jcallV (As := []) (rest := []) ⟨hx, hb, hml, hown, hts⟩ hK hP hA hS hZ (h_sums σ85 τ I90 (by omega) (by omega) (by omega)) cw_RX12_202 (jc_55 cI cL ad σ85 τ) rfl ⟨by dsimp only; omega, by dsimp only; omega⟩ rfl rfl rfl hl.1 rfl (Nat.le_of_ble_eq_true rfl) dX12_compared_48 ⟨Nat.zero_le _, Nat.zero_le _⟩ (fun r93 σ92 τ92 H locs h92 hP hS => ?_)
             obtain ⟨rfl, f94, f95, I96, h92⟩ := h92
             obtain ⟨i98, i99, i100, i101, i102⟩ : ((-1) ≤ (σ92 55 18).toInt ∧ (σ92 55 18).toInt ≤ 80) ∧ (0 ≤ (σ92 55 19).toInt) ∧ ((σ92 55 19).toInt ≤ (σ92 55 20).toInt) ∧ ((σ92 55 20).toInt ≤ 80) ∧ ((-1) ≤ (σ92 55 21).toInt) := id I96
             have z103 : (σ92 55 18).toInt = (σ 55 18).toInt := (congrArg Int32.toInt (show σ92 55 18 = (σ 55 18) from ((f95 18 (of_decide_eq_true rfl)).trans ((jkp 18 eσ85 (of_decide_eq_true rfl)).trans (f9 18 (of_decide_eq_true rfl))))))
             have z104 : (σ92 55 20).toInt = (σ 55 20).toInt := (congrArg Int32.toInt (show σ92 55 20 = (σ 55 20) from ((f95 20 (of_decide_eq_true rfl)).trans ((jkp 20 eσ85 (of_decide_eq_true rfl)).trans (f9 20 (of_decide_eq_true rfl))))))
             obtain ⟨k105, k106, h92⟩ := h92
             refine lv_istore_n (lv' := [(3, .int r93), (2, .int r22), (1, .int r7), (0, .ref (ad 55))]) hx hb dX12_compared_51 rfl hl (of_decide_eq_true rfl) rfl (fun ls hl => ?_)
             refine lv_iload_n hx hb dX12_compared_52 rfl (lv_at hl 1 rfl) ?_
             refine lv_bipush (v := 60) hx hb dX12_compared_53 (of_decide_eq_true rfl) ?_
             exact by
              refine lv_icmp_ne (tgt := 66) hx hb dX12_compared_55 (of_decide_eq_true rfl) (fun c107 => ?_) (fun c => absurd (jeq c rfl jz_60) (by omega))
              have kc107 := jne c107 rfl jz_60
              refine lv_iload_n hx hb dX12_compared_66 rfl (lv_at hl 1 rfl) ?_
              refine lv_bipush (v := 61) hx hb dX12_compared_67 (of_decide_eq_true rfl) ?_
              refine lv_icmp_ne (tgt := 80) hx hb dX12_compared_69 (of_decide_eq_true rfl) (fun c108 => ?_) (fun c => absurd (jeq c rfl jz_61) (by omega))
              have kc108 := jne c108 rfl jz_61
              refine lv_iload_n hx hb dX12_compared_80 rfl (lv_at hl 2 rfl) ?_
              refine lv_iload_n hx hb dX12_compared_81 rfl (lv_at hl 0 rfl) ?_
              refine lv_icmp_le (tgt := 89) hx hb dX12_compared_82 (of_decide_eq_true rfl) (fun c109 => ?_) (fun c109 => ?_)
              · exact by
                 have kc109 := jle c109 rfl rfl
                 refine lv_iconst (v := 0) hx hb dX12_compared_89 (of_decide_eq_true rfl) ?_
                 exact by exact hret 0 σ92 τ _ _ _ _ rfl ⟨rfl, (fun i hi => ((f94 i hi).trans ((jnp i eσ85 (imp_165 i hi)).trans (f8 i hi)))), (fun i hi => ((f95 i hi).trans ((jkp i eσ85 (imp_171 i hi)).trans (f9 i hi)))), I96, (by omega), (by omega), trivial⟩ hP hS dX12_compared_90
              · have kc109 := jnle c109 rfl rfl
                refine lv_iconst (v := 1) hx hb dX12_compared_85 (of_decide_eq_true rfl) ?_
                refine lv_goto (tgt := 90) hx hb dX12_compared_86 (of_decide_eq_true rfl) ?_
                exact by exact hret 1 σ92 τ _ _ _ _ rfl ⟨rfl, (fun i hi => ((f94 i hi).trans ((jnp i eσ85 (imp_165 i hi)).trans (f8 i hi)))), (fun i hi => ((f95 i hi).trans ((jkp i eσ85 (imp_171 i hi)).trans (f9 i hi)))), I96, (by omega), (by omega), trivial⟩ hP hS dX12_compared_90
         · have kc82 := jne c82 rfl jz_62
           refine lv_iload_n hx hb dX12_compared_35 rfl (lv_at hl 1 rfl) ?_
           exact by exact hret r7 σ6 τ _ _ _ _ rfl ⟨rfl, (fun i hi => (f8 i hi)), (fun i hi => (f9 i hi)), I10, (by omega), (by omega), trivial⟩ hP hS dX12_compared_36
set_option maxHeartbeats 4000000 in
set_option maxRecDepth 100000 in
theorem c_X12_grammar_both_g (l : Launch) (D : va_G) (cI cL : ClassId) (ad zz : Nat → Nat) (hJ : jD ad) (n : Nat) (h_compared : ∀ (σ : Nat → Nat → Int32) (τ : Nat → Nat → Int64) (hI121 : jI121 σ) (hp0 : (σ 55 21).toInt = (-1)) (hp1 : 0 ≤ (σ 55 22).toInt ∧ (σ 55 22).toInt ≤ 6) (hp2 : -(σ 55 22).toInt + 6 ≤ (((n) : Nat) : Int)), jM l yX12_compared cX12_compared 4 (some .int) ({ frames := (13 + 8 * (n)), cells := 0, slots := 0, locals := (520 + 360 * (n)) }) D cI cL ad zz [.ref (ad 55)] σ τ (fun r σ' τ' => τ = τ' ∧ (∀ i : Nat, (i < 55 ∨ 55 < i) → σ' i = σ i) ∧ (∀ k : Nat, (k < 19 ∨ 19 < k) ∧ (k < 21 ∨ 21 < k) ∧ (k < 22 ∨ 22 < k) → σ' 55 k = σ 55 k) ∧ (jI121 σ') ∧ (((σ' 55 21).toInt = (-1) ∧ (σ' 55 22).toInt = (σ 55 22).toInt) ∨ (0 ≤ (σ' 55 21).toInt)) ∧ ((σ 55 19).toInt ≤ (σ' 55 19).toInt) ∧ True)) (σ : Nat → Nat → Int32) (τ : Nat → Nat → Int64) (hI121 : jI121 σ) (hp0 : (σ 55 21).toInt = (-1)) (hp1 : 0 ≤ (σ 55 22).toInt ∧ (σ 55 22).toInt ≤ 6) (hp2 : -(σ 55 22).toInt + 6 ≤ (((n) : Nat) : Int)) : jM l yX12_both cX12_both 3 (some .int) ({ frames := (14 + 8 * (n)), cells := 0, slots := 0, locals := (560 + 360 * (n)) }) D cI cL ad zz [.ref (ad 55)] σ τ (fun r σ' τ' => τ = τ' ∧ (∀ i : Nat, (i < 55 ∨ 55 < i) → σ' i = σ i) ∧ (∀ k : Nat, (k < 19 ∨ 19 < k) ∧ (k < 21 ∨ 21 < k) ∧ (k < 22 ∨ 22 < k) → σ' 55 k = σ 55 k) ∧ (jI121 σ') ∧ (((σ' 55 21).toInt = (-1) ∧ (σ' 55 22).toInt = (σ 55 22).toInt) ∨ (0 ≤ (σ' 55 21).toInt)) ∧ ((σ 55 19).toInt ≤ (σ' 55 19).toInt) ∧ True) := by
  refine jM.of hJ (by decide +kernel) (nt := .int) rfl (Nat.le_of_ble_eq_true rfl) ?_
  intro p e s m args below meth c Q ls hC hret hl hP
  obtain ⟨hx, hb, hr, hml, hown, hts, hK, -, hlocks, hZ⟩ := hC
  have hown : s.vm.findClass RX12 = some m.cls := hown
  have hS : va_S (jA ad) s.heap s.heap [] := va_S.rf
  have hA : ∀ q, jA ad q → jA ad q := fun _ h => h
  have hl : lv_has ls 3 [(0, .ref (ad 55))] := hl
  obtain ⟨i1, i2, i3, i4, i5⟩ : ((-1) ≤ (σ 55 18).toInt ∧ (σ 55 18).toInt ≤ 80) ∧ (0 ≤ (σ 55 19).toInt) ∧ ((σ 55 19).toInt ≤ (σ 55 20).toInt) ∧ ((σ 55 20).toInt ≤ 80) ∧ ((-1) ≤ (σ 55 21).toInt) := id hI121
  refine lv_aload_n hx hb dX12_both_0 rfl (lv_at hl 0 rfl) ?_
  exact by
   refine jcallV (As := []) (rest := []) ⟨hx, hb, hml, hown, hts⟩ hK hP hA hS hZ (h_compared σ τ hI121 (by omega) (by omega) (by omega)) cw_RX12_199 (jc_55 cI cL ad σ τ) rfl ⟨by dsimp only; omega, by dsimp only; omega⟩ rfl rfl rfl hl.1 rfl (Nat.le_of_ble_eq_true rfl) dX12_both_1 ⟨Nat.zero_le _, Nat.zero_le _⟩ (fun r7 σ6 τ6 H locs h6 hP hS => ?_)
   obtain ⟨rfl, f8, f9, I10, h6⟩ := h6
   obtain ⟨i12, i13, i14, i15, i16⟩ : ((-1) ≤ (σ6 55 18).toInt ∧ (σ6 55 18).toInt ≤ 80) ∧ (0 ≤ (σ6 55 19).toInt) ∧ ((σ6 55 19).toInt ≤ (σ6 55 20).toInt) ∧ ((σ6 55 20).toInt ≤ 80) ∧ ((-1) ≤ (σ6 55 21).toInt) := id I10
   have z17 : (σ6 55 18).toInt = (σ 55 18).toInt := (congrArg Int32.toInt (show σ6 55 18 = (σ 55 18) from (f9 18 (of_decide_eq_true rfl))))
   have z18 : (σ6 55 20).toInt = (σ 55 20).toInt := (congrArg Int32.toInt (show σ6 55 20 = (σ 55 20) from (f9 20 (of_decide_eq_true rfl))))
   obtain ⟨k19, k20, h6⟩ := h6
   refine lv_istore_n (lv' := [(1, .int r7), (0, .ref (ad 55))]) hx hb dX12_both_4 rfl hl (of_decide_eq_true rfl) rfl (fun ls hl => ?_)
   have lp21 : ∀ (n22 : Nat) (x23 : Int32) (σ25 : Nat → Nat → Int32) (H : Heap) (locs : List Loc) (ls : Array Slot), ((σ25 55 20).toInt - (σ25 55 19).toInt : Int) < n22 → (-1) ≤ (σ25 55 18).toInt ∧ (σ25 55 18).toInt ≤ 80 → 0 ≤ (σ25 55 19).toInt → (σ25 55 19).toInt ≤ (σ25 55 20).toInt → (σ25 55 20).toInt ≤ 80 → (-1) ≤ (σ25 55 21).toInt → (((σ25 55 21).toInt = (-1) ∧ (σ25 55 22).toInt = (σ 55 22).toInt) ∨ (0 ≤ (σ25 55 21).toInt)) → (σ 55 19).toInt ≤ (σ25 55 19).toInt → (∀ i : Nat, (i < 55 ∨ 55 < i) → σ25 i = σ6 i) → (∀ k : Nat, (k < 19 ∨ 19 < k) ∧ (k < 21 ∨ 21 < k) ∧ (k < 22 ∨ 22 < k) → σ25 55 k = σ6 55 k) → jH D cI cL ad σ25 τ H → va_S (jA ad) s.heap H locs → lv_has ls 3 [(1, .int x23), (0, .ref (ad 55))] → W p l e ({ frames := (14 + 8 * (n)), cells := 0, slots := 0, locals := (560 + 360 * (n)) }) s m args below meth c H locs 0 0 Q (F0 m 5 ls []) := by
     intro n22
     induction n22 with
     | zero => intro x23 σ25 H locs ls h27 h28 h29 h30 h31 h32 h33 h34; have gx23 := jrg (rfl : x23.toInt = x23.toInt); exact absurd h27 (by omega)
     | succ n22 ihlp21 =>
       intro x23 σ25 H locs ls h27 h28 h29 h30 h31 h32 h33 h34 f35 f36 hP hS hl
       exact by
        have gx23 := jrg (rfl : x23.toInt = x23.toInt)
        have z37 : (σ25 55 20).toInt = (σ 55 20).toInt := (congrArg Int32.toInt (show σ25 55 20 = (σ 55 20) from ((f36 20 (of_decide_eq_true rfl)).trans (f9 20 (of_decide_eq_true rfl)))))
        have z38 : (σ25 55 18).toInt = (σ 55 18).toInt := (congrArg Int32.toInt (show σ25 55 18 = (σ 55 18) from ((f36 18 (of_decide_eq_true rfl)).trans (f9 18 (of_decide_eq_true rfl)))))
        refine lv_aload_n hx hb dX12_both_5 rfl (lv_at hl 1 rfl) ?_
        refine lv_bipush (v := 38) hx hb dX12_both_6 (of_decide_eq_true rfl) ?_
        have I39 : jI121 σ25 := ⟨(by omega), (by omega), (by omega), (by omega), (by omega)⟩
        refine jcallV (As := [.int 38]) (rest := []) ⟨hx, hb, hml, hown, hts⟩ hK hP hA hS hZ (c_X12_takes l D cI cL ad zz hJ σ25 τ 38 (38) jz_38 I39 (by omega)) cw_RX12_196 (jc_55 cI cL ad σ25 τ) rfl ⟨by dsimp only; omega, by dsimp only; omega⟩ rfl rfl rfl hl.1 rfl (Nat.le_of_ble_eq_true rfl) dX12_both_8 ⟨Nat.zero_le _, Nat.zero_le _⟩ (fun r41 σ40 τ40 H locs h40 hP hS => ?_)
        obtain ⟨rfl, f42, f43, I44, h40⟩ := h40
        obtain ⟨i46, i47, i48, i49, i50⟩ : ((-1) ≤ (σ40 55 18).toInt ∧ (σ40 55 18).toInt ≤ 80) ∧ (0 ≤ (σ40 55 19).toInt) ∧ ((σ40 55 19).toInt ≤ (σ40 55 20).toInt) ∧ ((σ40 55 20).toInt ≤ 80) ∧ ((-1) ≤ (σ40 55 21).toInt) := id I44
        exact by
         have z51 : (σ40 55 18).toInt = (σ 55 18).toInt := (congrArg Int32.toInt (show σ40 55 18 = (σ 55 18) from ((f43 18 (of_decide_eq_true rfl)).trans ((f36 18 (of_decide_eq_true rfl)).trans (f9 18 (of_decide_eq_true rfl))))))
         have z52 : (σ40 55 20).toInt = (σ 55 20).toInt := (congrArg Int32.toInt (show σ40 55 20 = (σ 55 20) from ((f43 20 (of_decide_eq_true rfl)).trans ((f36 20 (of_decide_eq_true rfl)).trans (f9 20 (of_decide_eq_true rfl))))))
         have z53 : (σ40 55 21).toInt = (σ25 55 21).toInt := (congrArg Int32.toInt (show σ40 55 21 = (σ25 55 21) from (f43 21 (of_decide_eq_true rfl))))
         rcases h40 with h54 | h55
         · obtain ⟨q58, k56, k57⟩ := h54
           have q58 := q58.symm
           subst q58
           refine lv_if_eq (tgt := 36) hx hb dX12_both_11 (of_decide_eq_true rfl) (fun c => absurd c (of_decide_eq_true rfl)) (fun _ => ?_)
           refine lv_aload_n hx hb dX12_both_14 rfl (lv_at hl 1 rfl) ?_
           have z59 : (σ40 55 22).toInt = (σ25 55 22).toInt := (congrArg Int32.toInt (show σ40 55 22 = (σ25 55 22) from (f43 22 (of_decide_eq_true rfl))))
           exact by
            refine jcallV (As := []) (rest := []) ⟨hx, hb, hml, hown, hts⟩ hK hP hA hS hZ (h_compared σ40 τ I44 (by omega) (by omega) (by omega)) cw_RX12_199 (jc_55 cI cL ad σ40 τ) rfl ⟨by dsimp only; omega, by dsimp only; omega⟩ rfl rfl rfl hl.1 rfl (Nat.le_of_ble_eq_true rfl) dX12_both_15 ⟨Nat.zero_le _, Nat.zero_le _⟩ (fun r61 σ60 τ60 H locs h60 hP hS => ?_)
            obtain ⟨rfl, f62, f63, I64, h60⟩ := h60
            obtain ⟨i66, i67, i68, i69, i70⟩ : ((-1) ≤ (σ60 55 18).toInt ∧ (σ60 55 18).toInt ≤ 80) ∧ (0 ≤ (σ60 55 19).toInt) ∧ ((σ60 55 19).toInt ≤ (σ60 55 20).toInt) ∧ ((σ60 55 20).toInt ≤ 80) ∧ ((-1) ≤ (σ60 55 21).toInt) := id I64
            have z71 : (σ60 55 18).toInt = (σ 55 18).toInt := (congrArg Int32.toInt (show σ60 55 18 = (σ 55 18) from ((f63 18 (of_decide_eq_true rfl)).trans ((f43 18 (of_decide_eq_true rfl)).trans ((f36 18 (of_decide_eq_true rfl)).trans (f9 18 (of_decide_eq_true rfl)))))))
            have z72 : (σ60 55 20).toInt = (σ 55 20).toInt := (congrArg Int32.toInt (show σ60 55 20 = (σ 55 20) from ((f63 20 (of_decide_eq_true rfl)).trans ((f43 20 (of_decide_eq_true rfl)).trans ((f36 20 (of_decide_eq_true rfl)).trans (f9 20 (of_decide_eq_true rfl)))))))
            obtain ⟨k73, k74, h60⟩ := h60
            refine lv_istore_n (lv' := [(2, .int r61), (1, .int x23), (0, .ref (ad 55))]) hx hb dX12_both_18 rfl hl (of_decide_eq_true rfl) rfl (fun ls hl => ?_)
            refine lv_iload_n hx hb dX12_both_19 rfl (lv_at hl 1 rfl) ?_
            refine lv_if_eq (tgt := 31) hx hb dX12_both_20 (of_decide_eq_true rfl) (fun c75 => ?_) (fun c75 => ?_)
            · have kc75 := jeq c75 rfl jz_0
              refine lv_iconst (v := 0) hx hb dX12_both_31 (of_decide_eq_true rfl) ?_
              refine lv_istore_n (lv' := [(1, .int 0), (2, .int r61), (0, .ref (ad 55))]) hx hb dX12_both_32 rfl hl (of_decide_eq_true rfl) rfl (fun ls hl => ?_)
              refine lv_goto (tgt := 5) hx hb dX12_both_33 (of_decide_eq_true rfl) ?_
              exact by exact ihlp21 0 σ60 _ _ ls (by have h90 := jz_0; omega) (by have h90 := jz_0; omega) (by have h90 := jz_0; omega) (by have h90 := jz_0; omega) (by have h90 := jz_0; omega) (by have h90 := jz_0; omega) (by have h90 := jz_0; omega) (by have h90 := jz_0; omega) (fun i hi => ((f62 i hi).trans ((f42 i hi).trans (f35 i hi)))) (fun i hi => ((f63 i hi).trans ((f43 i (imp_173 i hi)).trans (f36 i hi))))   hP hS (lv_sub hl [0, 2] rfl)
            · have kc75 := jne c75 rfl jz_0
              refine lv_iload_n hx hb dX12_both_23 rfl (lv_at hl 0 rfl) ?_
              refine lv_if_eq (tgt := 31) hx hb dX12_both_24 (of_decide_eq_true rfl) (fun c76 => ?_) (fun c76 => ?_)
              · have kc76 := jeq c76 rfl jz_0
                refine lv_iconst (v := 0) hx hb dX12_both_31 (of_decide_eq_true rfl) ?_
                refine lv_istore_n (lv' := [(1, .int 0), (2, .int r61), (0, .ref (ad 55))]) hx hb dX12_both_32 rfl hl (of_decide_eq_true rfl) rfl (fun ls hl => ?_)
                refine lv_goto (tgt := 5) hx hb dX12_both_33 (of_decide_eq_true rfl) ?_
                exact by exact ihlp21 0 σ60 _ _ ls (by have h90 := jz_0; omega) (by have h90 := jz_0; omega) (by have h90 := jz_0; omega) (by have h90 := jz_0; omega) (by have h90 := jz_0; omega) (by have h90 := jz_0; omega) (by have h90 := jz_0; omega) (by have h90 := jz_0; omega) (fun i hi => ((f62 i hi).trans ((f42 i hi).trans (f35 i hi)))) (fun i hi => ((f63 i hi).trans ((f43 i (imp_173 i hi)).trans (f36 i hi))))   hP hS (lv_sub hl [0, 2] rfl)
              · have kc76 := jne c76 rfl jz_0
                refine lv_iconst (v := 1) hx hb dX12_both_27 (of_decide_eq_true rfl) ?_
                refine lv_goto (tgt := 32) hx hb dX12_both_28 (of_decide_eq_true rfl) ?_
                refine lv_istore_n (lv' := [(1, .int 1), (2, .int r61), (0, .ref (ad 55))]) hx hb dX12_both_32 rfl hl (of_decide_eq_true rfl) rfl (fun ls hl => ?_)
                refine lv_goto (tgt := 5) hx hb dX12_both_33 (of_decide_eq_true rfl) ?_
                exact by exact ihlp21 1 σ60 _ _ ls (by have h90 := jz_1; omega) (by have h90 := jz_1; omega) (by have h90 := jz_1; omega) (by have h90 := jz_1; omega) (by have h90 := jz_1; omega) (by have h90 := jz_1; omega) (by have h90 := jz_1; omega) (by have h90 := jz_1; omega) (fun i hi => ((f62 i hi).trans ((f42 i hi).trans (f35 i hi)))) (fun i hi => ((f63 i hi).trans ((f43 i (imp_173 i hi)).trans (f36 i hi))))   hP hS (lv_sub hl [0, 2] rfl)
         · obtain ⟨q78, k77⟩ := h55
           have q78 := q78.symm
           subst q78
           refine lv_if_eq (tgt := 36) hx hb dX12_both_11 (of_decide_eq_true rfl) (fun _ => ?_) (fun c => absurd (of_decide_eq_true rfl) c)
           refine lv_iload_n hx hb dX12_both_36 rfl (lv_at hl 0 rfl) ?_
           have z79 : (σ40 55 22).toInt = (σ25 55 22).toInt := (congrArg Int32.toInt (show σ40 55 22 = (σ25 55 22) from (f43 22 (of_decide_eq_true rfl))))
           exact by exact hret x23 σ40 τ _ _ _ _ rfl ⟨rfl, (fun i hi => ((f42 i hi).trans ((f35 i hi).trans (f8 i hi)))), (fun i hi => ((f43 i (imp_173 i hi)).trans ((f36 i hi).trans (f9 i hi)))), I44, (by omega), (by omega), trivial⟩ hP hS dX12_both_37
   exact by exact lp21 1000000 r7 σ6 _ _ ls (by omega) (by omega) (by omega) (by omega) (by omega) (by omega) (by omega) (by omega) (fun _ _ => rfl) (fun _ _ => rfl)   hP hS hl
set_option maxHeartbeats 4000000 in
set_option maxRecDepth 100000 in
theorem c_X12_grammar_either_g (l : Launch) (D : va_G) (cI cL : ClassId) (ad zz : Nat → Nat) (hJ : jD ad) (n : Nat) (h_both : ∀ (σ : Nat → Nat → Int32) (τ : Nat → Nat → Int64) (hI121 : jI121 σ) (hp0 : (σ 55 21).toInt = (-1)) (hp1 : 0 ≤ (σ 55 22).toInt ∧ (σ 55 22).toInt ≤ 6) (hp2 : -(σ 55 22).toInt + 6 ≤ (((n) : Nat) : Int)), jM l yX12_both cX12_both 3 (some .int) ({ frames := (14 + 8 * (n)), cells := 0, slots := 0, locals := (560 + 360 * (n)) }) D cI cL ad zz [.ref (ad 55)] σ τ (fun r σ' τ' => τ = τ' ∧ (∀ i : Nat, (i < 55 ∨ 55 < i) → σ' i = σ i) ∧ (∀ k : Nat, (k < 19 ∨ 19 < k) ∧ (k < 21 ∨ 21 < k) ∧ (k < 22 ∨ 22 < k) → σ' 55 k = σ 55 k) ∧ (jI121 σ') ∧ (((σ' 55 21).toInt = (-1) ∧ (σ' 55 22).toInt = (σ 55 22).toInt) ∨ (0 ≤ (σ' 55 21).toInt)) ∧ ((σ 55 19).toInt ≤ (σ' 55 19).toInt) ∧ True)) (σ : Nat → Nat → Int32) (τ : Nat → Nat → Int64) (hI121 : jI121 σ) (hp0 : (σ 55 21).toInt = (-1)) (hp1 : 0 ≤ (σ 55 22).toInt ∧ (σ 55 22).toInt ≤ 6) (hp2 : -(σ 55 22).toInt + 6 ≤ (((n) : Nat) : Int)) : jM l yX12_either cX12_either 3 (some .int) ({ frames := (15 + 8 * (n)), cells := 0, slots := 0, locals := (600 + 360 * (n)) }) D cI cL ad zz [.ref (ad 55)] σ τ (fun r σ' τ' => τ = τ' ∧ (∀ i : Nat, (i < 55 ∨ 55 < i) → σ' i = σ i) ∧ (∀ k : Nat, (k < 19 ∨ 19 < k) ∧ (k < 21 ∨ 21 < k) ∧ (k < 22 ∨ 22 < k) → σ' 55 k = σ 55 k) ∧ (jI121 σ') ∧ (((σ' 55 21).toInt = (-1) ∧ (σ' 55 22).toInt = (σ 55 22).toInt) ∨ (0 ≤ (σ' 55 21).toInt)) ∧ ((σ 55 19).toInt ≤ (σ' 55 19).toInt) ∧ True) := by
  refine jM.of hJ (by decide +kernel) (nt := .int) rfl (Nat.le_of_ble_eq_true rfl) ?_
  intro p e s m args below meth c Q ls hC hret hl hP
  obtain ⟨hx, hb, hr, hml, hown, hts, hK, -, hlocks, hZ⟩ := hC
  have hown : s.vm.findClass RX12 = some m.cls := hown
  have hS : va_S (jA ad) s.heap s.heap [] := va_S.rf
  have hA : ∀ q, jA ad q → jA ad q := fun _ h => h
  have hl : lv_has ls 3 [(0, .ref (ad 55))] := hl
  obtain ⟨i1, i2, i3, i4, i5⟩ : ((-1) ≤ (σ 55 18).toInt ∧ (σ 55 18).toInt ≤ 80) ∧ (0 ≤ (σ 55 19).toInt) ∧ ((σ 55 19).toInt ≤ (σ 55 20).toInt) ∧ ((σ 55 20).toInt ≤ 80) ∧ ((-1) ≤ (σ 55 21).toInt) := id hI121
  refine lv_aload_n hx hb dX12_either_0 rfl (lv_at hl 0 rfl) ?_
  exact by
   refine jcallV (As := []) (rest := []) ⟨hx, hb, hml, hown, hts⟩ hK hP hA hS hZ (h_both σ τ hI121 (by omega) (by omega) (by omega)) cw_RX12_193 (jc_55 cI cL ad σ τ) rfl ⟨by dsimp only; omega, by dsimp only; omega⟩ rfl rfl rfl hl.1 rfl (Nat.le_of_ble_eq_true rfl) dX12_either_1 ⟨Nat.zero_le _, Nat.zero_le _⟩ (fun r7 σ6 τ6 H locs h6 hP hS => ?_)
   obtain ⟨rfl, f8, f9, I10, h6⟩ := h6
   obtain ⟨i12, i13, i14, i15, i16⟩ : ((-1) ≤ (σ6 55 18).toInt ∧ (σ6 55 18).toInt ≤ 80) ∧ (0 ≤ (σ6 55 19).toInt) ∧ ((σ6 55 19).toInt ≤ (σ6 55 20).toInt) ∧ ((σ6 55 20).toInt ≤ 80) ∧ ((-1) ≤ (σ6 55 21).toInt) := id I10
   have z17 : (σ6 55 18).toInt = (σ 55 18).toInt := (congrArg Int32.toInt (show σ6 55 18 = (σ 55 18) from (f9 18 (of_decide_eq_true rfl))))
   have z18 : (σ6 55 20).toInt = (σ 55 20).toInt := (congrArg Int32.toInt (show σ6 55 20 = (σ 55 20) from (f9 20 (of_decide_eq_true rfl))))
   obtain ⟨k19, k20, h6⟩ := h6
   refine lv_istore_n (lv' := [(1, .int r7), (0, .ref (ad 55))]) hx hb dX12_either_4 rfl hl (of_decide_eq_true rfl) rfl (fun ls hl => ?_)
   have lp21 : ∀ (n22 : Nat) (x23 : Int32) (σ25 : Nat → Nat → Int32) (H : Heap) (locs : List Loc) (ls : Array Slot), ((σ25 55 20).toInt - (σ25 55 19).toInt : Int) < n22 → (-1) ≤ (σ25 55 18).toInt ∧ (σ25 55 18).toInt ≤ 80 → 0 ≤ (σ25 55 19).toInt → (σ25 55 19).toInt ≤ (σ25 55 20).toInt → (σ25 55 20).toInt ≤ 80 → (-1) ≤ (σ25 55 21).toInt → (((σ25 55 21).toInt = (-1) ∧ (σ25 55 22).toInt = (σ 55 22).toInt) ∨ (0 ≤ (σ25 55 21).toInt)) → (σ 55 19).toInt ≤ (σ25 55 19).toInt → (∀ i : Nat, (i < 55 ∨ 55 < i) → σ25 i = σ6 i) → (∀ k : Nat, (k < 19 ∨ 19 < k) ∧ (k < 21 ∨ 21 < k) ∧ (k < 22 ∨ 22 < k) → σ25 55 k = σ6 55 k) → jH D cI cL ad σ25 τ H → va_S (jA ad) s.heap H locs → lv_has ls 3 [(1, .int x23), (0, .ref (ad 55))] → W p l e ({ frames := (15 + 8 * (n)), cells := 0, slots := 0, locals := (600 + 360 * (n)) }) s m args below meth c H locs 0 0 Q (F0 m 5 ls []) := by
     intro n22
     induction n22 with
     | zero => intro x23 σ25 H locs ls h27 h28 h29 h30 h31 h32 h33 h34; have gx23 := jrg (rfl : x23.toInt = x23.toInt); exact absurd h27 (by omega)
     | succ n22 ihlp21 =>
       intro x23 σ25 H locs ls h27 h28 h29 h30 h31 h32 h33 h34 f35 f36 hP hS hl
       exact by
        have gx23 := jrg (rfl : x23.toInt = x23.toInt)
        have z37 : (σ25 55 20).toInt = (σ 55 20).toInt := (congrArg Int32.toInt (show σ25 55 20 = (σ 55 20) from ((f36 20 (of_decide_eq_true rfl)).trans (f9 20 (of_decide_eq_true rfl)))))
        have z38 : (σ25 55 18).toInt = (σ 55 18).toInt := (congrArg Int32.toInt (show σ25 55 18 = (σ 55 18) from ((f36 18 (of_decide_eq_true rfl)).trans (f9 18 (of_decide_eq_true rfl)))))
        refine lv_aload_n hx hb dX12_either_5 rfl (lv_at hl 1 rfl) ?_
        refine lv_bipush (v := 124) hx hb dX12_either_6 (of_decide_eq_true rfl) ?_
        have I39 : jI121 σ25 := ⟨(by omega), (by omega), (by omega), (by omega), (by omega)⟩
        refine jcallV (As := [.int 124]) (rest := []) ⟨hx, hb, hml, hown, hts⟩ hK hP hA hS hZ (c_X12_takes l D cI cL ad zz hJ σ25 τ 124 (124) jz_124 I39 (by omega)) cw_RX12_196 (jc_55 cI cL ad σ25 τ) rfl ⟨by dsimp only; omega, by dsimp only; omega⟩ rfl rfl rfl hl.1 rfl (Nat.le_of_ble_eq_true rfl) dX12_either_8 ⟨Nat.zero_le _, Nat.zero_le _⟩ (fun r41 σ40 τ40 H locs h40 hP hS => ?_)
        obtain ⟨rfl, f42, f43, I44, h40⟩ := h40
        obtain ⟨i46, i47, i48, i49, i50⟩ : ((-1) ≤ (σ40 55 18).toInt ∧ (σ40 55 18).toInt ≤ 80) ∧ (0 ≤ (σ40 55 19).toInt) ∧ ((σ40 55 19).toInt ≤ (σ40 55 20).toInt) ∧ ((σ40 55 20).toInt ≤ 80) ∧ ((-1) ≤ (σ40 55 21).toInt) := id I44
        exact by
         have z51 : (σ40 55 18).toInt = (σ 55 18).toInt := (congrArg Int32.toInt (show σ40 55 18 = (σ 55 18) from ((f43 18 (of_decide_eq_true rfl)).trans ((f36 18 (of_decide_eq_true rfl)).trans (f9 18 (of_decide_eq_true rfl))))))
         have z52 : (σ40 55 20).toInt = (σ 55 20).toInt := (congrArg Int32.toInt (show σ40 55 20 = (σ 55 20) from ((f43 20 (of_decide_eq_true rfl)).trans ((f36 20 (of_decide_eq_true rfl)).trans (f9 20 (of_decide_eq_true rfl))))))
         have z53 : (σ40 55 21).toInt = (σ25 55 21).toInt := (congrArg Int32.toInt (show σ40 55 21 = (σ25 55 21) from (f43 21 (of_decide_eq_true rfl))))
         rcases h40 with h54 | h55
         · obtain ⟨q58, k56, k57⟩ := h54
           have q58 := q58.symm
           subst q58
           refine lv_if_eq (tgt := 36) hx hb dX12_either_11 (of_decide_eq_true rfl) (fun c => absurd c (of_decide_eq_true rfl)) (fun _ => ?_)
           refine lv_aload_n hx hb dX12_either_14 rfl (lv_at hl 1 rfl) ?_
           have z59 : (σ40 55 22).toInt = (σ25 55 22).toInt := (congrArg Int32.toInt (show σ40 55 22 = (σ25 55 22) from (f43 22 (of_decide_eq_true rfl))))
           exact by
            refine jcallV (As := []) (rest := []) ⟨hx, hb, hml, hown, hts⟩ hK hP hA hS hZ (h_both σ40 τ I44 (by omega) (by omega) (by omega)) cw_RX12_193 (jc_55 cI cL ad σ40 τ) rfl ⟨by dsimp only; omega, by dsimp only; omega⟩ rfl rfl rfl hl.1 rfl (Nat.le_of_ble_eq_true rfl) dX12_either_15 ⟨Nat.zero_le _, Nat.zero_le _⟩ (fun r61 σ60 τ60 H locs h60 hP hS => ?_)
            obtain ⟨rfl, f62, f63, I64, h60⟩ := h60
            obtain ⟨i66, i67, i68, i69, i70⟩ : ((-1) ≤ (σ60 55 18).toInt ∧ (σ60 55 18).toInt ≤ 80) ∧ (0 ≤ (σ60 55 19).toInt) ∧ ((σ60 55 19).toInt ≤ (σ60 55 20).toInt) ∧ ((σ60 55 20).toInt ≤ 80) ∧ ((-1) ≤ (σ60 55 21).toInt) := id I64
            have z71 : (σ60 55 18).toInt = (σ 55 18).toInt := (congrArg Int32.toInt (show σ60 55 18 = (σ 55 18) from ((f63 18 (of_decide_eq_true rfl)).trans ((f43 18 (of_decide_eq_true rfl)).trans ((f36 18 (of_decide_eq_true rfl)).trans (f9 18 (of_decide_eq_true rfl)))))))
            have z72 : (σ60 55 20).toInt = (σ 55 20).toInt := (congrArg Int32.toInt (show σ60 55 20 = (σ 55 20) from ((f63 20 (of_decide_eq_true rfl)).trans ((f43 20 (of_decide_eq_true rfl)).trans ((f36 20 (of_decide_eq_true rfl)).trans (f9 20 (of_decide_eq_true rfl)))))))
            obtain ⟨k73, k74, h60⟩ := h60
            refine lv_istore_n (lv' := [(2, .int r61), (1, .int x23), (0, .ref (ad 55))]) hx hb dX12_either_18 rfl hl (of_decide_eq_true rfl) rfl (fun ls hl => ?_)
            refine lv_iload_n hx hb dX12_either_19 rfl (lv_at hl 1 rfl) ?_
            refine lv_if_ne (tgt := 27) hx hb dX12_either_20 (of_decide_eq_true rfl) (fun c75 => ?_) (fun c75 => ?_)
            · have kc75 := jne c75 rfl jz_0
              refine lv_iconst (v := 1) hx hb dX12_either_27 (of_decide_eq_true rfl) ?_
              refine lv_goto (tgt := 32) hx hb dX12_either_28 (of_decide_eq_true rfl) ?_
              refine lv_istore_n (lv' := [(1, .int 1), (2, .int r61), (0, .ref (ad 55))]) hx hb dX12_either_32 rfl hl (of_decide_eq_true rfl) rfl (fun ls hl => ?_)
              refine lv_goto (tgt := 5) hx hb dX12_either_33 (of_decide_eq_true rfl) ?_
              exact by exact ihlp21 1 σ60 _ _ ls (by have h90 := jz_1; omega) (by have h90 := jz_1; omega) (by have h90 := jz_1; omega) (by have h90 := jz_1; omega) (by have h90 := jz_1; omega) (by have h90 := jz_1; omega) (by have h90 := jz_1; omega) (by have h90 := jz_1; omega) (fun i hi => ((f62 i hi).trans ((f42 i hi).trans (f35 i hi)))) (fun i hi => ((f63 i hi).trans ((f43 i (imp_173 i hi)).trans (f36 i hi))))   hP hS (lv_sub hl [0, 2] rfl)
            · have kc75 := jeq c75 rfl jz_0
              refine lv_iload_n hx hb dX12_either_23 rfl (lv_at hl 0 rfl) ?_
              refine lv_if_eq (tgt := 31) hx hb dX12_either_24 (of_decide_eq_true rfl) (fun c76 => ?_) (fun c76 => ?_)
              · have kc76 := jeq c76 rfl jz_0
                refine lv_iconst (v := 0) hx hb dX12_either_31 (of_decide_eq_true rfl) ?_
                refine lv_istore_n (lv' := [(1, .int 0), (2, .int r61), (0, .ref (ad 55))]) hx hb dX12_either_32 rfl hl (of_decide_eq_true rfl) rfl (fun ls hl => ?_)
                refine lv_goto (tgt := 5) hx hb dX12_either_33 (of_decide_eq_true rfl) ?_
                exact by exact ihlp21 0 σ60 _ _ ls (by have h90 := jz_0; omega) (by have h90 := jz_0; omega) (by have h90 := jz_0; omega) (by have h90 := jz_0; omega) (by have h90 := jz_0; omega) (by have h90 := jz_0; omega) (by have h90 := jz_0; omega) (by have h90 := jz_0; omega) (fun i hi => ((f62 i hi).trans ((f42 i hi).trans (f35 i hi)))) (fun i hi => ((f63 i hi).trans ((f43 i (imp_173 i hi)).trans (f36 i hi))))   hP hS (lv_sub hl [0, 2] rfl)
              · have kc76 := jne c76 rfl jz_0
                refine lv_iconst (v := 1) hx hb dX12_either_27 (of_decide_eq_true rfl) ?_
                refine lv_goto (tgt := 32) hx hb dX12_either_28 (of_decide_eq_true rfl) ?_
                refine lv_istore_n (lv' := [(1, .int 1), (2, .int r61), (0, .ref (ad 55))]) hx hb dX12_either_32 rfl hl (of_decide_eq_true rfl) rfl (fun ls hl => ?_)
                refine lv_goto (tgt := 5) hx hb dX12_either_33 (of_decide_eq_true rfl) ?_
                exact by exact ihlp21 1 σ60 _ _ ls (by have h90 := jz_1; omega) (by have h90 := jz_1; omega) (by have h90 := jz_1; omega) (by have h90 := jz_1; omega) (by have h90 := jz_1; omega) (by have h90 := jz_1; omega) (by have h90 := jz_1; omega) (by have h90 := jz_1; omega) (fun i hi => ((f62 i hi).trans ((f42 i hi).trans (f35 i hi)))) (fun i hi => ((f63 i hi).trans ((f43 i (imp_173 i hi)).trans (f36 i hi))))   hP hS (lv_sub hl [0, 2] rfl)
         · obtain ⟨q78, k77⟩ := h55
           have q78 := q78.symm
           subst q78
           refine lv_if_eq (tgt := 36) hx hb dX12_either_11 (of_decide_eq_true rfl) (fun _ => ?_) (fun c => absurd (of_decide_eq_true rfl) c)
           refine lv_iload_n hx hb dX12_either_36 rfl (lv_at hl 0 rfl) ?_
           have z79 : (σ40 55 22).toInt = (σ25 55 22).toInt := (congrArg Int32.toInt (show σ40 55 22 = (σ25 55 22) from (f43 22 (of_decide_eq_true rfl))))
           exact by exact hret x23 σ40 τ _ _ _ _ rfl ⟨rfl, (fun i hi => ((f42 i hi).trans ((f35 i hi).trans (f8 i hi)))), (fun i hi => ((f43 i (imp_173 i hi)).trans ((f36 i hi).trans (f9 i hi)))), I44, (by omega), (by omega), trivial⟩ hP hS dX12_either_37
   exact by exact lp21 1000000 r7 σ6 _ _ ls (by omega) (by omega) (by omega) (by omega) (by omega) (by omega) (by omega) (by omega) (fun _ _ => rfl) (fun _ _ => rfl)   hP hS hl
set_option maxHeartbeats 4000000 in
set_option maxRecDepth 100000 in
theorem c_X12_grammar (l : Launch) (D : va_G) (cI cL : ClassId) (ad zz : Nat → Nat) (hJ : jD ad) (n : Nat) : (∀ (σ : Nat → Nat → Int32) (τ : Nat → Nat → Int64) (hI121 : jI121 σ) (hp0 : (σ 55 21).toInt = (-1)) (hp1 : 0 ≤ (σ 55 22).toInt ∧ (σ 55 22).toInt ≤ 6) (hp2 : -(σ 55 22).toInt + 6 ≤ (((n) : Nat) : Int)), jM l yX12_one cX12_one 5 (some .int) ({ frames := (10 + 8 * (n)), cells := 0, slots := 0, locals := (400 + 360 * (n)) }) D cI cL ad zz [.ref (ad 55)] σ τ (fun r σ' τ' => τ = τ' ∧ (∀ i : Nat, (i < 55 ∨ 55 < i) → σ' i = σ i) ∧ (∀ k : Nat, (k < 19 ∨ 19 < k) ∧ (k < 21 ∨ 21 < k) ∧ (k < 22 ∨ 22 < k) → σ' 55 k = σ 55 k) ∧ (jI121 σ') ∧ (((σ' 55 21).toInt = (-1) ∧ (σ' 55 22).toInt = (σ 55 22).toInt) ∨ (0 ≤ (σ' 55 21).toInt)) ∧ ((σ 55 19).toInt ≤ (σ' 55 19).toInt) ∧ True)) ∧ (∀ (σ : Nat → Nat → Int32) (τ : Nat → Nat → Int64) (hI121 : jI121 σ) (hp0 : (σ 55 21).toInt = (-1)) (hp1 : 0 ≤ (σ 55 22).toInt ∧ (σ 55 22).toInt ≤ 6) (hp2 : -(σ 55 22).toInt + 6 ≤ (((n) : Nat) : Int)), jM l yX12_product cX12_product 4 (some .int) ({ frames := (11 + 8 * (n)), cells := 0, slots := 0, locals := (440 + 360 * (n)) }) D cI cL ad zz [.ref (ad 55)] σ τ (fun r σ' τ' => τ = τ' ∧ (∀ i : Nat, (i < 55 ∨ 55 < i) → σ' i = σ i) ∧ (∀ k : Nat, (k < 19 ∨ 19 < k) ∧ (k < 21 ∨ 21 < k) ∧ (k < 22 ∨ 22 < k) → σ' 55 k = σ 55 k) ∧ (jI121 σ') ∧ (((σ' 55 21).toInt = (-1) ∧ (σ' 55 22).toInt = (σ 55 22).toInt) ∨ (0 ≤ (σ' 55 21).toInt)) ∧ ((σ 55 19).toInt ≤ (σ' 55 19).toInt) ∧ True)) ∧ (∀ (σ : Nat → Nat → Int32) (τ : Nat → Nat → Int64) (hI121 : jI121 σ) (hp0 : (σ 55 21).toInt = (-1)) (hp1 : 0 ≤ (σ 55 22).toInt ∧ (σ 55 22).toInt ≤ 6) (hp2 : -(σ 55 22).toInt + 6 ≤ (((n) : Nat) : Int)), jM l yX12_sums cX12_sums 4 (some .int) ({ frames := (12 + 8 * (n)), cells := 0, slots := 0, locals := (480 + 360 * (n)) }) D cI cL ad zz [.ref (ad 55)] σ τ (fun r σ' τ' => τ = τ' ∧ (∀ i : Nat, (i < 55 ∨ 55 < i) → σ' i = σ i) ∧ (∀ k : Nat, (k < 19 ∨ 19 < k) ∧ (k < 21 ∨ 21 < k) ∧ (k < 22 ∨ 22 < k) → σ' 55 k = σ 55 k) ∧ (jI121 σ') ∧ (((σ' 55 21).toInt = (-1) ∧ (σ' 55 22).toInt = (σ 55 22).toInt) ∨ (0 ≤ (σ' 55 21).toInt)) ∧ ((σ 55 19).toInt ≤ (σ' 55 19).toInt) ∧ True)) ∧ (∀ (σ : Nat → Nat → Int32) (τ : Nat → Nat → Int64) (hI121 : jI121 σ) (hp0 : (σ 55 21).toInt = (-1)) (hp1 : 0 ≤ (σ 55 22).toInt ∧ (σ 55 22).toInt ≤ 6) (hp2 : -(σ 55 22).toInt + 6 ≤ (((n) : Nat) : Int)), jM l yX12_compared cX12_compared 4 (some .int) ({ frames := (13 + 8 * (n)), cells := 0, slots := 0, locals := (520 + 360 * (n)) }) D cI cL ad zz [.ref (ad 55)] σ τ (fun r σ' τ' => τ = τ' ∧ (∀ i : Nat, (i < 55 ∨ 55 < i) → σ' i = σ i) ∧ (∀ k : Nat, (k < 19 ∨ 19 < k) ∧ (k < 21 ∨ 21 < k) ∧ (k < 22 ∨ 22 < k) → σ' 55 k = σ 55 k) ∧ (jI121 σ') ∧ (((σ' 55 21).toInt = (-1) ∧ (σ' 55 22).toInt = (σ 55 22).toInt) ∨ (0 ≤ (σ' 55 21).toInt)) ∧ ((σ 55 19).toInt ≤ (σ' 55 19).toInt) ∧ True)) ∧ (∀ (σ : Nat → Nat → Int32) (τ : Nat → Nat → Int64) (hI121 : jI121 σ) (hp0 : (σ 55 21).toInt = (-1)) (hp1 : 0 ≤ (σ 55 22).toInt ∧ (σ 55 22).toInt ≤ 6) (hp2 : -(σ 55 22).toInt + 6 ≤ (((n) : Nat) : Int)), jM l yX12_both cX12_both 3 (some .int) ({ frames := (14 + 8 * (n)), cells := 0, slots := 0, locals := (560 + 360 * (n)) }) D cI cL ad zz [.ref (ad 55)] σ τ (fun r σ' τ' => τ = τ' ∧ (∀ i : Nat, (i < 55 ∨ 55 < i) → σ' i = σ i) ∧ (∀ k : Nat, (k < 19 ∨ 19 < k) ∧ (k < 21 ∨ 21 < k) ∧ (k < 22 ∨ 22 < k) → σ' 55 k = σ 55 k) ∧ (jI121 σ') ∧ (((σ' 55 21).toInt = (-1) ∧ (σ' 55 22).toInt = (σ 55 22).toInt) ∨ (0 ≤ (σ' 55 21).toInt)) ∧ ((σ 55 19).toInt ≤ (σ' 55 19).toInt) ∧ True)) ∧ (∀ (σ : Nat → Nat → Int32) (τ : Nat → Nat → Int64) (hI121 : jI121 σ) (hp0 : (σ 55 21).toInt = (-1)) (hp1 : 0 ≤ (σ 55 22).toInt ∧ (σ 55 22).toInt ≤ 6) (hp2 : -(σ 55 22).toInt + 6 ≤ (((n) : Nat) : Int)), jM l yX12_either cX12_either 3 (some .int) ({ frames := (15 + 8 * (n)), cells := 0, slots := 0, locals := (600 + 360 * (n)) }) D cI cL ad zz [.ref (ad 55)] σ τ (fun r σ' τ' => τ = τ' ∧ (∀ i : Nat, (i < 55 ∨ 55 < i) → σ' i = σ i) ∧ (∀ k : Nat, (k < 19 ∨ 19 < k) ∧ (k < 21 ∨ 21 < k) ∧ (k < 22 ∨ 22 < k) → σ' 55 k = σ 55 k) ∧ (jI121 σ') ∧ (((σ' 55 21).toInt = (-1) ∧ (σ' 55 22).toInt = (σ 55 22).toInt) ∨ (0 ≤ (σ' 55 21).toInt)) ∧ ((σ 55 19).toInt ≤ (σ' 55 19).toInt) ∧ True)) := by
  induction n with
  | zero =>
    have h_one := c_X12_grammar_one_z l D cI cL ad zz hJ
    have h_product := c_X12_grammar_product_g l D cI cL ad zz hJ 0 h_one
    have h_sums := c_X12_grammar_sums_g l D cI cL ad zz hJ 0 h_product
    have h_compared := c_X12_grammar_compared_g l D cI cL ad zz hJ 0 h_sums
    have h_both := c_X12_grammar_both_g l D cI cL ad zz hJ 0 h_compared
    have h_either := c_X12_grammar_either_g l D cI cL ad zz hJ 0 h_both
    exact ⟨h_one, h_product, h_sums, h_compared, h_both, h_either⟩
  | succ n ih =>
    obtain ⟨g_one, g_product, g_sums, g_compared, g_both, g_either⟩ := ih
    have h_one := c_X12_grammar_one_g l D cI cL ad zz hJ n g_one g_either
    have h_product := c_X12_grammar_product_g l D cI cL ad zz hJ (n + 1) h_one
    have h_sums := c_X12_grammar_sums_g l D cI cL ad zz hJ (n + 1) h_product
    have h_compared := c_X12_grammar_compared_g l D cI cL ad zz hJ (n + 1) h_sums
    have h_both := c_X12_grammar_both_g l D cI cL ad zz hJ (n + 1) h_compared
    have h_either := c_X12_grammar_either_g l D cI cL ad zz hJ (n + 1) h_both
    exact ⟨h_one, h_product, h_sums, h_compared, h_both, h_either⟩
set_option maxHeartbeats 4000000 in
set_option maxRecDepth 100000 in
theorem c_X12_workOut (l : Launch) (D : va_G) (cI cL : ClassId) (ad zz : Nat → Nat) (hJ : jD ad) (σ : Nat → Nat → Int32) (τ : Nat → Nat → Int64) (a1 : Int32) (A1 : Int) (t1 : a1.toInt = A1) (a2 : Int32) (A2 : Int) (t2 : a2.toInt = A2) (hp0 : (-1) ≤ A1 ∧ A1 ≤ 80) (hp1 : 0 ≤ A2 ∧ A2 ≤ 80) : jM l yX12_workOut cX12_workOut 8 (some .int) ({ frames := 64, cells := 0, slots := 0, locals := 2782 }) D cI cL ad zz [.ref (ad 55), .int a1, .int a2] σ τ (fun r σ' τ' => τ = τ' ∧ (∀ i : Nat, (i < 55 ∨ 55 < i) → σ' i = σ i) ∧ (∀ k : Nat, (k < 18 ∨ 18 < k) ∧ (k < 19 ∨ 19 < k) ∧ (k < 20 ∨ 20 < k) ∧ (k < 21 ∨ 21 < k) ∧ (k < 22 ∨ 22 < k) → σ' 55 k = σ 55 k) ∧ (jI121 σ') ∧ True) := by
  refine jM.of hJ (by decide +kernel) (nt := .int) rfl (Nat.le_of_ble_eq_true rfl) ?_
  intro p e s m args below meth c Q ls hC hret hl hP
  obtain ⟨hx, hb, hr, hml, hown, hts, hK, -, hlocks, hZ⟩ := hC
  have hown : s.vm.findClass RX12 = some m.cls := hown
  have hS : va_S (jA ad) s.heap s.heap [] := va_S.rf
  have hA : ∀ q, jA ad q → jA ad q := fun _ h => h
  have hl : lv_has ls 8 [(0, .ref (ad 55)), (1, .int a1), (2, .int a2)] := hl
  have g1 := jrg t1
  have g2 := jrg t2
  refine lv_aload_n hx hb dX12_workOut_0 rfl (lv_at hl 0 rfl) ?_
  refine lv_iload_n hx hb dX12_workOut_1 rfl (lv_at hl 1 rfl) ?_
  refine jput (ty := .int) hx hb hts inlX12 tyX12 tyX12_ok nmX12 hown hK hP hJ hA hS (jc_55 cI cL ad σ τ) rfl (k := 18) (of_decide_eq_true rfl) (Nat.le_of_ble_eq_true rfl) (jp_55_18 cI cL ad σ τ a1) (hts _ kw_15_10) (fun _ h9 => h9) rfl (by decide +kernel) rfl rfl dX12_workOut_2 (fun σ1 H locs eσ1 hP hS => ?_)
  refine lv_aload_n hx hb dX12_workOut_5 rfl (lv_at hl 0 rfl) ?_
  refine lv_iconst (v := 0) hx hb dX12_workOut_6 (of_decide_eq_true rfl) ?_
  refine jput (ty := .int) hx hb hts inlX12 tyX12 tyX12_ok nmX12 hown hK hP hJ hA hS (jc_55 cI cL ad σ1 τ) rfl (k := 19) (of_decide_eq_true rfl) (Nat.le_of_ble_eq_true rfl) (jp_55_19 cI cL ad σ1 τ 0) (hts _ kw_15_11) (fun _ h9 => h9) rfl (by decide +kernel) rfl rfl dX12_workOut_7 (fun σ2 H locs eσ2 hP hS => ?_)
  refine lv_aload_n hx hb dX12_workOut_10 rfl (lv_at hl 0 rfl) ?_
  refine lv_iload_n hx hb dX12_workOut_11 rfl (lv_at hl 2 rfl) ?_
  refine jput (ty := .int) hx hb hts inlX12 tyX12 tyX12_ok nmX12 hown hK hP hJ hA hS (jc_55 cI cL ad σ2 τ) rfl (k := 20) (of_decide_eq_true rfl) (Nat.le_of_ble_eq_true rfl) (jp_55_20 cI cL ad σ2 τ a2) (hts _ kw_15_12) (fun _ h9 => h9) rfl (by decide +kernel) rfl rfl dX12_workOut_12 (fun σ3 H locs eσ3 hP hS => ?_)
  refine lv_aload_n hx hb dX12_workOut_15 rfl (lv_at hl 0 rfl) ?_
  refine lv_iconst (v := (-1)) hx hb dX12_workOut_16 (of_decide_eq_true rfl) ?_
  refine jput (ty := .int) hx hb hts inlX12 tyX12 tyX12_ok nmX12 hown hK hP hJ hA hS (jc_55 cI cL ad σ3 τ) rfl (k := 21) (of_decide_eq_true rfl) (Nat.le_of_ble_eq_true rfl) (jp_55_21 cI cL ad σ3 τ (-1)) (hts _ kw_15_13) (fun _ h9 => h9) rfl (by decide +kernel) rfl rfl dX12_workOut_17 (fun σ4 H locs eσ4 hP hS => ?_)
  refine lv_aload_n hx hb dX12_workOut_20 rfl (lv_at hl 0 rfl) ?_
  refine lv_iconst (v := 0) hx hb dX12_workOut_21 (of_decide_eq_true rfl) ?_
  refine jput (ty := .int) hx hb hts inlX12 tyX12 tyX12_ok nmX12 hown hK hP hJ hA hS (jc_55 cI cL ad σ4 τ) rfl (k := 22) (of_decide_eq_true rfl) (Nat.le_of_ble_eq_true rfl) (jp_55_22 cI cL ad σ4 τ 0) (hts _ kw_18_21) (fun _ h9 => h9) rfl (by decide +kernel) rfl rfl dX12_workOut_22 (fun σ5 H locs eσ5 hP hS => ?_)
  refine lv_iconst (v := 0) hx hb dX12_workOut_25 (of_decide_eq_true rfl) ?_
  refine lv_istore_n (lv' := [(3, .int 0), (0, .ref (ad 55)), (1, .int a1), (2, .int a2)]) hx hb dX12_workOut_26 rfl hl (of_decide_eq_true rfl) rfl (fun ls hl => ?_)
  refine lv_iconst (v := 0) hx hb dX12_workOut_27 (of_decide_eq_true rfl) ?_
  refine lv_istore (lv' := [(4, .int 0), (3, .int 0), (0, .ref (ad 55)), (1, .int a1), (2, .int a2)]) hx hb dX12_workOut_28 hl (of_decide_eq_true rfl) rfl (fun ls hl => ?_)
  refine lv_iconst (v := 1) hx hb dX12_workOut_30 (of_decide_eq_true rfl) ?_
  refine lv_istore (lv' := [(5, .int 1), (4, .int 0), (3, .int 0), (0, .ref (ad 55)), (1, .int a1), (2, .int a2)]) hx hb dX12_workOut_31 hl (of_decide_eq_true rfl) rfl (fun ls hl => ?_)
  have z14 : (σ5 55 20).toInt = A2 := ((congrArg Int32.toInt (show σ5 55 20 = a2 from ((jkp 20 eσ5 (of_decide_eq_true rfl)).trans ((jkp 20 eσ4 (of_decide_eq_true rfl)).trans (jsp eσ3))))).trans t2)
  have z15 : (σ5 55 19).toInt = 0 := ((congrArg Int32.toInt (show σ5 55 19 = 0 from ((jkp 19 eσ5 (of_decide_eq_true rfl)).trans ((jkp 19 eσ4 (of_decide_eq_true rfl)).trans ((jkp 19 eσ3 (of_decide_eq_true rfl)).trans (jsp eσ2)))))).trans jz_0)
  have z16 : (σ5 55 18).toInt = A1 := ((congrArg Int32.toInt (show σ5 55 18 = a1 from ((jkp 18 eσ5 (of_decide_eq_true rfl)).trans ((jkp 18 eσ4 (of_decide_eq_true rfl)).trans ((jkp 18 eσ3 (of_decide_eq_true rfl)).trans ((jkp 18 eσ2 (of_decide_eq_true rfl)).trans (jsp eσ1))))))).trans t1)
  have z17 : (σ5 55 21).toInt = (-1) := ((congrArg Int32.toInt (show σ5 55 21 = (-1) from ((jkp 21 eσ5 (of_decide_eq_true rfl)).trans (jsp eσ4)))).trans jz_m1)
  have z18 : (σ5 55 22).toInt = 0 := ((congrArg Int32.toInt (show σ5 55 22 = 0 from (jsp eσ5))).trans jz_0)
  have lp6 : ∀ (n7 : Nat) (x8 : Int32) (x9 : Int32) (x10 : Int32) (σ13 : Nat → Nat → Int32) (H : Heap) (locs : List Loc) (ls : Array Slot), (2 * (σ13 55 20).toInt - 2 * (σ13 55 19).toInt + x10.toInt : Int) < n7 → 0 ≤ x10.toInt → x10.toInt ≤ 1 → (-1) ≤ (σ13 55 18).toInt ∧ (σ13 55 18).toInt ≤ 80 → 0 ≤ (σ13 55 19).toInt → (σ13 55 19).toInt ≤ (σ13 55 20).toInt → (σ13 55 20).toInt ≤ 80 → (-1) ≤ (σ13 55 21).toInt → ((x10.toInt = 0) ∨ ((σ13 55 21).toInt = (-1) ∧ (σ13 55 22).toInt = 0)) → (∀ i : Nat, (i < 55 ∨ 55 < i) → σ13 i = σ5 i) → (∀ k : Nat, (k < 19 ∨ 19 < k) ∧ (k < 21 ∨ 21 < k) ∧ (k < 22 ∨ 22 < k) → σ13 55 k = σ5 55 k) → jH D cI cL ad σ13 τ H → va_S (jA ad) s.heap H locs → lv_has ls 8 [(5, .int x10), (4, .int x9), (3, .int x8), (0, .ref (ad 55)), (1, .int a1), (2, .int a2)] → W p l e ({ frames := 64, cells := 0, slots := 0, locals := 2782 }) s m args below meth c H locs 0 0 Q (F0 m 33 ls []) := by
    intro n7
    induction n7 with
    | zero => intro x8 x9 x10 σ13 H locs ls h20 h21 h22 h23 h24 h25 h26 h27 h28; have gx8 := jrg (rfl : x8.toInt = x8.toInt); have gx9 := jrg (rfl : x9.toInt = x9.toInt); exact absurd h20 (by omega)
    | succ n7 ihlp6 =>
      intro x8 x9 x10 σ13 H locs ls h20 h21 h22 h23 h24 h25 h26 h27 h28 f29 f30 hP hS hl
      exact by
       have gx8 := jrg (rfl : x8.toInt = x8.toInt); have gx9 := jrg (rfl : x9.toInt = x9.toInt)
       have z31 : (σ13 55 20).toInt = A2 := ((congrArg Int32.toInt (show σ13 55 20 = a2 from ((f30 20 (of_decide_eq_true rfl)).trans ((jkp 20 eσ5 (of_decide_eq_true rfl)).trans ((jkp 20 eσ4 (of_decide_eq_true rfl)).trans (jsp eσ3)))))).trans t2)
       have z32 : (σ13 55 18).toInt = A1 := ((congrArg Int32.toInt (show σ13 55 18 = a1 from ((f30 18 (of_decide_eq_true rfl)).trans ((jkp 18 eσ5 (of_decide_eq_true rfl)).trans ((jkp 18 eσ4 (of_decide_eq_true rfl)).trans ((jkp 18 eσ3 (of_decide_eq_true rfl)).trans ((jkp 18 eσ2 (of_decide_eq_true rfl)).trans (jsp eσ1)))))))).trans t1)
       refine lv_iload hx hb dX12_workOut_33 (lv_at hl 0 rfl) ?_
       refine lv_if_eq (tgt := 107) hx hb dX12_workOut_35 (of_decide_eq_true rfl) (fun c33 => ?_) (fun c33 => ?_)
       · have kc33 := jeq c33 rfl jz_0
         refine lv_aload_n hx hb dX12_workOut_107 rfl (lv_at hl 3 rfl) ?_
         refine va_get (D := D) hx hb hts inlX12 hown hK hP 55 (jc_55 cI cL ad σ13 τ) rfl 21 (of_decide_eq_true rfl) (hts _ kw_15_13) (fun _ h9 => h9) rfl dX12_workOut_108 ?_
         refine lv_if_ge (tgt := 130) hx hb dX12_workOut_111 (of_decide_eq_true rfl) (fun c34 => ?_) (fun c34 => ?_)
         · have kc34 := jle c34 jz_0 rfl
           refine lv_iload hx hb dX12_workOut_130 (lv_at hl 1 rfl) ?_
           exact by
            have I35 : jI121 σ13 := ⟨(by omega), (by omega), (by omega), (by omega), (by omega)⟩
            exact hret x9 σ13 τ _ _ _ _ rfl ⟨rfl, (fun i hi => ((f29 i hi).trans ((jnp i eσ5 (imp_165 i hi)).trans ((jnp i eσ4 (imp_165 i hi)).trans ((jnp i eσ3 (imp_165 i hi)).trans ((jnp i eσ2 (imp_165 i hi)).trans (jnp i eσ1 (imp_165 i hi)))))))), (fun i hi => ((f30 i (imp_174 i hi)).trans ((jkp i eσ5 (imp_175 i hi)).trans ((jkp i eσ4 (imp_176 i hi)).trans ((jkp i eσ3 (imp_177 i hi)).trans ((jkp i eσ2 (imp_178 i hi)).trans (jkp i eσ1 (imp_179 i hi)))))))), I35, trivial⟩ hP hS dX12_workOut_132
         · have kc34 := jnle c34 jz_0 rfl
           refine lv_aload_n hx hb dX12_workOut_114 rfl (lv_at hl 3 rfl) ?_
           refine va_get (D := D) hx hb hts inlX12 hown hK hP 55 (jc_55 cI cL ad σ13 τ) rfl 19 (of_decide_eq_true rfl) (hts _ kw_15_11) (fun _ h9 => h9) rfl dX12_workOut_115 ?_
           refine lv_aload_n hx hb dX12_workOut_118 rfl (lv_at hl 3 rfl) ?_
           refine va_get (D := D) hx hb hts inlX12 hown hK hP 55 (jc_55 cI cL ad σ13 τ) rfl 20 (of_decide_eq_true rfl) (hts _ kw_15_12) (fun _ h9 => h9) rfl dX12_workOut_119 ?_
           have m36 : σ13 55 20 = a2 := ((f30 20 (of_decide_eq_true rfl)).trans ((jkp 20 eσ5 (of_decide_eq_true rfl)).trans ((jkp 20 eσ4 (of_decide_eq_true rfl)).trans (jsp eσ3))))
           refine jtopr m36 ?_
           refine lv_icmp_ge (tgt := 130) hx hb dX12_workOut_122 (of_decide_eq_true rfl) (fun c37 => ?_) (fun c37 => ?_)
           · have kc37 := jle c37 t2 rfl
             refine lv_iload hx hb dX12_workOut_130 (lv_at hl 1 rfl) ?_
             exact by
              have I38 : jI121 σ13 := ⟨(by omega), (by omega), (by omega), (by omega), (by omega)⟩
              exact hret x9 σ13 τ _ _ _ _ rfl ⟨rfl, (fun i hi => ((f29 i hi).trans ((jnp i eσ5 (imp_165 i hi)).trans ((jnp i eσ4 (imp_165 i hi)).trans ((jnp i eσ3 (imp_165 i hi)).trans ((jnp i eσ2 (imp_165 i hi)).trans (jnp i eσ1 (imp_165 i hi)))))))), (fun i hi => ((f30 i (imp_174 i hi)).trans ((jkp i eσ5 (imp_175 i hi)).trans ((jkp i eσ4 (imp_176 i hi)).trans ((jkp i eσ3 (imp_177 i hi)).trans ((jkp i eσ2 (imp_178 i hi)).trans (jkp i eσ1 (imp_179 i hi)))))))), I38, trivial⟩ hP hS dX12_workOut_132
           · have kc37 := jnle c37 t2 rfl
             refine lv_aload_n hx hb dX12_workOut_125 rfl (lv_at hl 3 rfl) ?_
             have I39 : jI121 σ13 := ⟨(by omega), (by omega), (by omega), (by omega), (by omega)⟩
             refine jcallV (As := []) (rest := []) ⟨hx, hb, hml, hown, hts⟩ hK hP hA hS hZ (c_X12_wrong l D cI cL ad zz hJ σ13 τ I39) cw_RX12_214 (jc_55 cI cL ad σ13 τ) rfl ⟨Nat.le_of_ble_eq_true rfl, Nat.le_of_ble_eq_true rfl⟩ rfl rfl rfl hl.1 rfl (Nat.le_of_ble_eq_true rfl) dX12_workOut_126 ⟨Nat.zero_le _, Nat.zero_le _⟩ (fun r41 σ40 τ40 H locs h40 hP hS => ?_)
             obtain ⟨rfl, f42, f43, I44, h40⟩ := h40
             obtain ⟨i46, i47, i48, i49, i50⟩ : ((-1) ≤ (σ40 55 18).toInt ∧ (σ40 55 18).toInt ≤ 80) ∧ (0 ≤ (σ40 55 19).toInt) ∧ ((σ40 55 19).toInt ≤ (σ40 55 20).toInt) ∧ ((σ40 55 20).toInt ≤ 80) ∧ ((-1) ≤ (σ40 55 21).toInt) := id I44
             have z51 : (σ40 55 18).toInt = A1 := ((congrArg Int32.toInt (show σ40 55 18 = a1 from ((f43 18 (of_decide_eq_true rfl)).trans ((f30 18 (of_decide_eq_true rfl)).trans ((jkp 18 eσ5 (of_decide_eq_true rfl)).trans ((jkp 18 eσ4 (of_decide_eq_true rfl)).trans ((jkp 18 eσ3 (of_decide_eq_true rfl)).trans ((jkp 18 eσ2 (of_decide_eq_true rfl)).trans (jsp eσ1))))))))).trans t1)
             exact by
              have z52 : (σ40 55 19).toInt = (σ13 55 19).toInt := (congrArg Int32.toInt (show σ40 55 19 = (σ13 55 19) from (f43 19 (of_decide_eq_true rfl))))
              have z53 : (σ40 55 20).toInt = A2 := ((congrArg Int32.toInt (show σ40 55 20 = a2 from ((f43 20 (of_decide_eq_true rfl)).trans m36))).trans t2)
              obtain ⟨k54, k55, h40⟩ := h40
              have h56 := h40
              obtain ⟨q58, k57⟩ := h56
              have q58 := q58.symm
              subst q58
              exact hret 0 σ40 τ _ _ _ _ rfl ⟨rfl, (fun i hi => ((f42 i hi).trans ((f29 i hi).trans ((jnp i eσ5 (imp_165 i hi)).trans ((jnp i eσ4 (imp_165 i hi)).trans ((jnp i eσ3 (imp_165 i hi)).trans ((jnp i eσ2 (imp_165 i hi)).trans (jnp i eσ1 (imp_165 i hi))))))))), (fun i hi => ((f43 i (imp_180 i hi)).trans ((f30 i (imp_174 i hi)).trans ((jkp i eσ5 (imp_175 i hi)).trans ((jkp i eσ4 (imp_176 i hi)).trans ((jkp i eσ3 (imp_177 i hi)).trans ((jkp i eσ2 (imp_178 i hi)).trans (jkp i eσ1 (imp_179 i hi))))))))), I44, trivial⟩ hP hS dX12_workOut_129
       · have kc33 := jne c33 rfl jz_0
         refine lv_aload_n hx hb dX12_workOut_38 rfl (lv_at hl 3 rfl) ?_
         exact by
          have I59 : jI121 σ13 := ⟨(by omega), (by omega), (by omega), (by omega), (by omega)⟩
          refine jcallV (As := []) (rest := []) ⟨hx, hb, hml, hown, hts⟩ hK hP hA hS hZ ((c_X12_grammar l D cI cL ad zz hJ 6).2.2.2.2.2 σ13 τ I59 (by omega) (by omega) (by omega)) cw_RX12_217 (jc_55 cI cL ad σ13 τ) rfl ⟨Nat.le_of_ble_eq_true rfl, Nat.le_of_ble_eq_true rfl⟩ rfl rfl rfl hl.1 rfl (Nat.le_of_ble_eq_true rfl) dX12_workOut_39 ⟨Nat.zero_le _, Nat.zero_le _⟩ (fun r61 σ60 τ60 H locs h60 hP hS => ?_)
          obtain ⟨rfl, f62, f63, I64, h60⟩ := h60
          obtain ⟨i66, i67, i68, i69, i70⟩ : ((-1) ≤ (σ60 55 18).toInt ∧ (σ60 55 18).toInt ≤ 80) ∧ (0 ≤ (σ60 55 19).toInt) ∧ ((σ60 55 19).toInt ≤ (σ60 55 20).toInt) ∧ ((σ60 55 20).toInt ≤ 80) ∧ ((-1) ≤ (σ60 55 21).toInt) := id I64
          have z71 : (σ60 55 18).toInt = A1 := ((congrArg Int32.toInt (show σ60 55 18 = a1 from ((f63 18 (of_decide_eq_true rfl)).trans ((f30 18 (of_decide_eq_true rfl)).trans ((jkp 18 eσ5 (of_decide_eq_true rfl)).trans ((jkp 18 eσ4 (of_decide_eq_true rfl)).trans ((jkp 18 eσ3 (of_decide_eq_true rfl)).trans ((jkp 18 eσ2 (of_decide_eq_true rfl)).trans (jsp eσ1))))))))).trans t1)
          have z72 : (σ60 55 20).toInt = A2 := ((congrArg Int32.toInt (show σ60 55 20 = a2 from ((f63 20 (of_decide_eq_true rfl)).trans ((f30 20 (of_decide_eq_true rfl)).trans ((jkp 20 eσ5 (of_decide_eq_true rfl)).trans ((jkp 20 eσ4 (of_decide_eq_true rfl)).trans (jsp eσ3))))))).trans t2)
          obtain ⟨k73, k74, h60⟩ := h60
          refine lv_istore (lv' := [(6, .int r61), (5, .int x10), (4, .int x9), (3, .int x8), (0, .ref (ad 55)), (1, .int a1), (2, .int a2)]) hx hb dX12_workOut_42 hl (of_decide_eq_true rfl) rfl (fun ls hl => ?_)
          refine lv_iconst (v := 1) hx hb dX12_workOut_44 (of_decide_eq_true rfl) ?_
          exact by
           refine lv_istore (lv' := [(7, .int 1), (6, .int r61), (5, .int x10), (4, .int x9), (3, .int x8), (0, .ref (ad 55)), (1, .int a1), (2, .int a2)]) hx hb dX12_workOut_45 hl (of_decide_eq_true rfl) rfl (fun ls hl => ?_)
           refine lv_aload_n hx hb dX12_workOut_47 rfl (lv_at hl 5 rfl) ?_
           refine lv_bipush (v := 63) hx hb dX12_workOut_48 (of_decide_eq_true rfl) ?_
           refine jcallV (As := [.int 63]) (rest := []) ⟨hx, hb, hml, hown, hts⟩ hK hP hA hS hZ (c_X12_takes l D cI cL ad zz hJ σ60 τ 63 (63) jz_63 I64 (by omega)) cw_RX12_196 (jc_55 cI cL ad σ60 τ) rfl ⟨Nat.le_of_ble_eq_true rfl, Nat.le_of_ble_eq_true rfl⟩ rfl rfl rfl hl.1 rfl (Nat.le_of_ble_eq_true rfl) dX12_workOut_50 ⟨Nat.zero_le _, Nat.zero_le _⟩ (fun r76 σ75 τ75 H locs h75 hP hS => ?_)
           obtain ⟨rfl, f77, f78, I79, h75⟩ := h75
           obtain ⟨i81, i82, i83, i84, i85⟩ : ((-1) ≤ (σ75 55 18).toInt ∧ (σ75 55 18).toInt ≤ 80) ∧ (0 ≤ (σ75 55 19).toInt) ∧ ((σ75 55 19).toInt ≤ (σ75 55 20).toInt) ∧ ((σ75 55 20).toInt ≤ 80) ∧ ((-1) ≤ (σ75 55 21).toInt) := id I79
           have z86 : (σ75 55 18).toInt = A1 := ((congrArg Int32.toInt (show σ75 55 18 = a1 from ((f78 18 (of_decide_eq_true rfl)).trans ((f63 18 (of_decide_eq_true rfl)).trans ((f30 18 (of_decide_eq_true rfl)).trans ((jkp 18 eσ5 (of_decide_eq_true rfl)).trans ((jkp 18 eσ4 (of_decide_eq_true rfl)).trans ((jkp 18 eσ3 (of_decide_eq_true rfl)).trans ((jkp 18 eσ2 (of_decide_eq_true rfl)).trans (jsp eσ1)))))))))).trans t1)
           have z87 : (σ75 55 20).toInt = A2 := ((congrArg Int32.toInt (show σ75 55 20 = a2 from ((f78 20 (of_decide_eq_true rfl)).trans ((f63 20 (of_decide_eq_true rfl)).trans ((f30 20 (of_decide_eq_true rfl)).trans ((jkp 20 eσ5 (of_decide_eq_true rfl)).trans ((jkp 20 eσ4 (of_decide_eq_true rfl)).trans (jsp eσ3)))))))).trans t2)
           have z88 : (σ75 55 21).toInt = (σ60 55 21).toInt := (congrArg Int32.toInt (show σ75 55 21 = (σ60 55 21) from (f78 21 (of_decide_eq_true rfl))))
           exact by
            rcases h75 with h89 | h90
            · obtain ⟨q93, k91, k92⟩ := h89
              have q93 := q93.symm
              subst q93
              refine lv_if_eq (tgt := 74) hx hb dX12_workOut_53 (of_decide_eq_true rfl) (fun c => absurd c (of_decide_eq_true rfl)) (fun _ => ?_)
              refine lv_iload hx hb dX12_workOut_56 (lv_at hl 1 rfl) ?_
              refine lv_if_eq (tgt := 65) hx hb dX12_workOut_58 (of_decide_eq_true rfl) (fun c94 => ?_) (fun c94 => ?_)
              · have kc94 := jeq c94 rfl jz_0
                refine lv_iconst (v := 0) hx hb dX12_workOut_65 (of_decide_eq_true rfl) ?_
                refine lv_istore (lv' := [(7, .int 0), (6, .int r61), (5, .int x10), (4, .int x9), (3, .int x8), (0, .ref (ad 55)), (1, .int a1), (2, .int a2)]) hx hb dX12_workOut_66 hl (of_decide_eq_true rfl) rfl (fun ls hl => ?_)
                refine lv_aload_n hx hb dX12_workOut_68 rfl (lv_at hl 5 rfl) ?_
                have z95 : (σ75 55 22).toInt = (σ60 55 22).toInt := (congrArg Int32.toInt (show σ75 55 22 = (σ60 55 22) from (f78 22 (of_decide_eq_true rfl))))
                exact by
                 refine jcallV (As := []) (rest := []) ⟨hx, hb, hml, hown, hts⟩ hK hP hA hS hZ ((c_X12_grammar l D cI cL ad zz hJ 6).2.2.2.2.2 σ75 τ I79 (by omega) (by omega) (by omega)) cw_RX12_217 (jc_55 cI cL ad σ75 τ) rfl ⟨Nat.le_of_ble_eq_true rfl, Nat.le_of_ble_eq_true rfl⟩ rfl rfl rfl hl.1 rfl (Nat.le_of_ble_eq_true rfl) dX12_workOut_69 ⟨Nat.zero_le _, Nat.zero_le _⟩ (fun r97 σ96 τ96 H locs h96 hP hS => ?_)
                 obtain ⟨rfl, f98, f99, I100, h96⟩ := h96
                 obtain ⟨i102, i103, i104, i105, i106⟩ : ((-1) ≤ (σ96 55 18).toInt ∧ (σ96 55 18).toInt ≤ 80) ∧ (0 ≤ (σ96 55 19).toInt) ∧ ((σ96 55 19).toInt ≤ (σ96 55 20).toInt) ∧ ((σ96 55 20).toInt ≤ 80) ∧ ((-1) ≤ (σ96 55 21).toInt) := id I100
                 have z107 : (σ96 55 18).toInt = A1 := ((congrArg Int32.toInt (show σ96 55 18 = a1 from ((f99 18 (of_decide_eq_true rfl)).trans ((f78 18 (of_decide_eq_true rfl)).trans ((f63 18 (of_decide_eq_true rfl)).trans ((f30 18 (of_decide_eq_true rfl)).trans ((jkp 18 eσ5 (of_decide_eq_true rfl)).trans ((jkp 18 eσ4 (of_decide_eq_true rfl)).trans ((jkp 18 eσ3 (of_decide_eq_true rfl)).trans ((jkp 18 eσ2 (of_decide_eq_true rfl)).trans (jsp eσ1))))))))))).trans t1)
                 have z108 : (σ96 55 20).toInt = A2 := ((congrArg Int32.toInt (show σ96 55 20 = a2 from ((f99 20 (of_decide_eq_true rfl)).trans ((f78 20 (of_decide_eq_true rfl)).trans ((f63 20 (of_decide_eq_true rfl)).trans ((f30 20 (of_decide_eq_true rfl)).trans ((jkp 20 eσ5 (of_decide_eq_true rfl)).trans ((jkp 20 eσ4 (of_decide_eq_true rfl)).trans (jsp eσ3))))))))).trans t2)
                 obtain ⟨k109, k110, h96⟩ := h96
                 refine lv_istore (lv' := [(6, .int r97), (7, .int 0), (5, .int x10), (4, .int x9), (3, .int x8), (0, .ref (ad 55)), (1, .int a1), (2, .int a2)]) hx hb dX12_workOut_72 hl (of_decide_eq_true rfl) rfl (fun ls hl => ?_)
                 refine lv_aload_n hx hb dX12_workOut_74 rfl (lv_at hl 5 rfl) ?_
                 refine va_get (D := D) hx hb hts inlX12 hown hK hP 55 (jc_55 cI cL ad σ96 τ) rfl 21 (of_decide_eq_true rfl) (hts _ kw_15_13) (fun _ h9 => h9) rfl dX12_workOut_75 ?_
                 refine lv_if_ge (tgt := 96) hx hb dX12_workOut_78 (of_decide_eq_true rfl) (fun c111 => ?_) (fun c111 => ?_)
                 · have kc111 := jle c111 jz_0 rfl
                   refine lv_aload_n hx hb dX12_workOut_96 rfl (lv_at hl 5 rfl) ?_
                   refine lv_bipush (v := 59) hx hb dX12_workOut_97 (of_decide_eq_true rfl) ?_
                   exact by
                    refine jcallV (As := [.int 59]) (rest := []) ⟨hx, hb, hml, hown, hts⟩ hK hP hA hS hZ (c_X12_takes l D cI cL ad zz hJ σ96 τ 59 (59) jz_59 I100 (by omega)) cw_RX12_196 (jc_55 cI cL ad σ96 τ) rfl ⟨Nat.le_of_ble_eq_true rfl, Nat.le_of_ble_eq_true rfl⟩ rfl rfl rfl hl.1 rfl (Nat.le_of_ble_eq_true rfl) dX12_workOut_99 ⟨Nat.zero_le _, Nat.zero_le _⟩ (fun r113 σ112 τ112 H locs h112 hP hS => ?_)
                    obtain ⟨rfl, f114, f115, I116, h112⟩ := h112
                    obtain ⟨i118, i119, i120, i121, i122⟩ : ((-1) ≤ (σ112 55 18).toInt ∧ (σ112 55 18).toInt ≤ 80) ∧ (0 ≤ (σ112 55 19).toInt) ∧ ((σ112 55 19).toInt ≤ (σ112 55 20).toInt) ∧ ((σ112 55 20).toInt ≤ 80) ∧ ((-1) ≤ (σ112 55 21).toInt) := id I116
                    have z123 : (σ112 55 18).toInt = A1 := ((congrArg Int32.toInt (show σ112 55 18 = a1 from ((f115 18 (of_decide_eq_true rfl)).trans ((f99 18 (of_decide_eq_true rfl)).trans ((f78 18 (of_decide_eq_true rfl)).trans ((f63 18 (of_decide_eq_true rfl)).trans ((f30 18 (of_decide_eq_true rfl)).trans ((jkp 18 eσ5 (of_decide_eq_true rfl)).trans ((jkp 18 eσ4 (of_decide_eq_true rfl)).trans ((jkp 18 eσ3 (of_decide_eq_true rfl)).trans ((jkp 18 eσ2 (of_decide_eq_true rfl)).trans (jsp eσ1)))))))))))).trans t1)
                    have z124 : (σ112 55 20).toInt = A2 := ((congrArg Int32.toInt (show σ112 55 20 = a2 from ((f115 20 (of_decide_eq_true rfl)).trans ((f99 20 (of_decide_eq_true rfl)).trans ((f78 20 (of_decide_eq_true rfl)).trans ((f63 20 (of_decide_eq_true rfl)).trans ((f30 20 (of_decide_eq_true rfl)).trans ((jkp 20 eσ5 (of_decide_eq_true rfl)).trans ((jkp 20 eσ4 (of_decide_eq_true rfl)).trans (jsp eσ3)))))))))).trans t2)
                    have z125 : (σ112 55 21).toInt = (σ96 55 21).toInt := (congrArg Int32.toInt (show σ112 55 21 = (σ96 55 21) from (f115 21 (of_decide_eq_true rfl))))
                    rcases h112 with h126 | h127
                    · obtain ⟨q130, k128, k129⟩ := h126
                      exact absurd (by omega : False) id
                    · obtain ⟨q132, k131⟩ := h127
                      have q132 := q132.symm
                      subst q132
                      refine lv_istore (lv' := [(5, .int 0), (6, .int r97), (7, .int 0), (4, .int x9), (3, .int x8), (0, .ref (ad 55)), (1, .int a1), (2, .int a2)]) hx hb dX12_workOut_102 hl (of_decide_eq_true rfl) rfl (fun ls hl => ?_)
                      refine lv_goto (tgt := 33) hx hb dX12_workOut_104 (of_decide_eq_true rfl) ?_
                      have z133 : (σ112 55 22).toInt = (σ96 55 22).toInt := (congrArg Int32.toInt (show σ112 55 22 = (σ96 55 22) from (f115 22 (of_decide_eq_true rfl))))
                      exact by exact ihlp6 x8 x9 0 σ112 _ _ ls (by have h92 := jz_0; omega) (by have h92 := jz_0; omega) (by have h92 := jz_0; omega) (by have h92 := jz_0; omega) (by have h92 := jz_0; omega) (by have h92 := jz_0; omega) (by have h92 := jz_0; omega) (by have h92 := jz_0; omega) (by have h92 := jz_0; omega) (fun i hi => ((f114 i hi).trans ((f98 i hi).trans ((f77 i hi).trans ((f62 i hi).trans (f29 i hi)))))) (fun i hi => ((f115 i (imp_173 i hi)).trans ((f99 i hi).trans ((f78 i (imp_173 i hi)).trans ((f63 i hi).trans (f30 i hi))))))   hP hS (lv_sub hl [0, 3, 4, 5, 6, 7] rfl)
                 · have kc111 := jnle c111 jz_0 rfl
                   refine lv_iload hx hb dX12_workOut_81 (lv_at hl 1 rfl) ?_
                   refine lv_if_eq (tgt := 96) hx hb dX12_workOut_83 (of_decide_eq_true rfl) (fun _ => ?_) (fun c => absurd (of_decide_eq_true rfl) c)
                   refine lv_aload_n hx hb dX12_workOut_96 rfl (lv_at hl 5 rfl) ?_
                   refine lv_bipush (v := 59) hx hb dX12_workOut_97 (of_decide_eq_true rfl) ?_
                   exact by
                    refine jcallV (As := [.int 59]) (rest := []) ⟨hx, hb, hml, hown, hts⟩ hK hP hA hS hZ (c_X12_takes l D cI cL ad zz hJ σ96 τ 59 (59) jz_59 I100 (by omega)) cw_RX12_196 (jc_55 cI cL ad σ96 τ) rfl ⟨Nat.le_of_ble_eq_true rfl, Nat.le_of_ble_eq_true rfl⟩ rfl rfl rfl hl.1 rfl (Nat.le_of_ble_eq_true rfl) dX12_workOut_99 ⟨Nat.zero_le _, Nat.zero_le _⟩ (fun r135 σ134 τ134 H locs h134 hP hS => ?_)
                    obtain ⟨rfl, f136, f137, I138, h134⟩ := h134
                    obtain ⟨i140, i141, i142, i143, i144⟩ : ((-1) ≤ (σ134 55 18).toInt ∧ (σ134 55 18).toInt ≤ 80) ∧ (0 ≤ (σ134 55 19).toInt) ∧ ((σ134 55 19).toInt ≤ (σ134 55 20).toInt) ∧ ((σ134 55 20).toInt ≤ 80) ∧ ((-1) ≤ (σ134 55 21).toInt) := id I138
                    have z145 : (σ134 55 18).toInt = A1 := ((congrArg Int32.toInt (show σ134 55 18 = a1 from ((f137 18 (of_decide_eq_true rfl)).trans ((f99 18 (of_decide_eq_true rfl)).trans ((f78 18 (of_decide_eq_true rfl)).trans ((f63 18 (of_decide_eq_true rfl)).trans ((f30 18 (of_decide_eq_true rfl)).trans ((jkp 18 eσ5 (of_decide_eq_true rfl)).trans ((jkp 18 eσ4 (of_decide_eq_true rfl)).trans ((jkp 18 eσ3 (of_decide_eq_true rfl)).trans ((jkp 18 eσ2 (of_decide_eq_true rfl)).trans (jsp eσ1)))))))))))).trans t1)
                    have z146 : (σ134 55 20).toInt = A2 := ((congrArg Int32.toInt (show σ134 55 20 = a2 from ((f137 20 (of_decide_eq_true rfl)).trans ((f99 20 (of_decide_eq_true rfl)).trans ((f78 20 (of_decide_eq_true rfl)).trans ((f63 20 (of_decide_eq_true rfl)).trans ((f30 20 (of_decide_eq_true rfl)).trans ((jkp 20 eσ5 (of_decide_eq_true rfl)).trans ((jkp 20 eσ4 (of_decide_eq_true rfl)).trans (jsp eσ3)))))))))).trans t2)
                    have z147 : (σ134 55 21).toInt = (σ96 55 21).toInt := (congrArg Int32.toInt (show σ134 55 21 = (σ96 55 21) from (f137 21 (of_decide_eq_true rfl))))
                    rcases h134 with h148 | h149
                    · obtain ⟨q152, k150, k151⟩ := h148
                      have q152 := q152.symm
                      subst q152
                      refine lv_istore (lv' := [(5, .int 1), (6, .int r97), (7, .int 0), (4, .int x9), (3, .int x8), (0, .ref (ad 55)), (1, .int a1), (2, .int a2)]) hx hb dX12_workOut_102 hl (of_decide_eq_true rfl) rfl (fun ls hl => ?_)
                      refine lv_goto (tgt := 33) hx hb dX12_workOut_104 (of_decide_eq_true rfl) ?_
                      have z153 : (σ134 55 22).toInt = (σ96 55 22).toInt := (congrArg Int32.toInt (show σ134 55 22 = (σ96 55 22) from (f137 22 (of_decide_eq_true rfl))))
                      exact by exact ihlp6 x8 x9 1 σ134 _ _ ls (by have h92 := jz_1; omega) (by have h92 := jz_1; omega) (by have h92 := jz_1; omega) (by have h92 := jz_1; omega) (by have h92 := jz_1; omega) (by have h92 := jz_1; omega) (by have h92 := jz_1; omega) (by have h92 := jz_1; omega) (by have h92 := jz_1; omega) (fun i hi => ((f136 i hi).trans ((f98 i hi).trans ((f77 i hi).trans ((f62 i hi).trans (f29 i hi)))))) (fun i hi => ((f137 i (imp_173 i hi)).trans ((f99 i hi).trans ((f78 i (imp_173 i hi)).trans ((f63 i hi).trans (f30 i hi))))))   hP hS (lv_sub hl [0, 3, 4, 5, 6, 7] rfl)
                    · obtain ⟨q155, k154⟩ := h149
                      have q155 := q155.symm
                      subst q155
                      refine lv_istore (lv' := [(5, .int 0), (6, .int r97), (7, .int 0), (4, .int x9), (3, .int x8), (0, .ref (ad 55)), (1, .int a1), (2, .int a2)]) hx hb dX12_workOut_102 hl (of_decide_eq_true rfl) rfl (fun ls hl => ?_)
                      refine lv_goto (tgt := 33) hx hb dX12_workOut_104 (of_decide_eq_true rfl) ?_
                      have z156 : (σ134 55 22).toInt = (σ96 55 22).toInt := (congrArg Int32.toInt (show σ134 55 22 = (σ96 55 22) from (f137 22 (of_decide_eq_true rfl))))
                      exact by exact ihlp6 x8 x9 0 σ134 _ _ ls (by have h92 := jz_0; omega) (by have h92 := jz_0; omega) (by have h92 := jz_0; omega) (by have h92 := jz_0; omega) (by have h92 := jz_0; omega) (by have h92 := jz_0; omega) (by have h92 := jz_0; omega) (by have h92 := jz_0; omega) (by have h92 := jz_0; omega) (fun i hi => ((f136 i hi).trans ((f98 i hi).trans ((f77 i hi).trans ((f62 i hi).trans (f29 i hi)))))) (fun i hi => ((f137 i (imp_173 i hi)).trans ((f99 i hi).trans ((f78 i (imp_173 i hi)).trans ((f63 i hi).trans (f30 i hi))))))   hP hS (lv_sub hl [0, 3, 4, 5, 6, 7] rfl)
              · have kc94 := jne c94 rfl jz_0
                refine lv_iconst (v := 1) hx hb dX12_workOut_61 (of_decide_eq_true rfl) ?_
                refine lv_goto (tgt := 66) hx hb dX12_workOut_62 (of_decide_eq_true rfl) ?_
                refine lv_istore (lv' := [(7, .int 1), (6, .int r61), (5, .int x10), (4, .int x9), (3, .int x8), (0, .ref (ad 55)), (1, .int a1), (2, .int a2)]) hx hb dX12_workOut_66 hl (of_decide_eq_true rfl) rfl (fun ls hl => ?_)
                refine lv_aload_n hx hb dX12_workOut_68 rfl (lv_at hl 5 rfl) ?_
                have z157 : (σ75 55 22).toInt = (σ60 55 22).toInt := (congrArg Int32.toInt (show σ75 55 22 = (σ60 55 22) from (f78 22 (of_decide_eq_true rfl))))
                exact by
                 refine jcallV (As := []) (rest := []) ⟨hx, hb, hml, hown, hts⟩ hK hP hA hS hZ ((c_X12_grammar l D cI cL ad zz hJ 6).2.2.2.2.2 σ75 τ I79 (by omega) (by omega) (by omega)) cw_RX12_217 (jc_55 cI cL ad σ75 τ) rfl ⟨Nat.le_of_ble_eq_true rfl, Nat.le_of_ble_eq_true rfl⟩ rfl rfl rfl hl.1 rfl (Nat.le_of_ble_eq_true rfl) dX12_workOut_69 ⟨Nat.zero_le _, Nat.zero_le _⟩ (fun r159 σ158 τ158 H locs h158 hP hS => ?_)
                 obtain ⟨rfl, f160, f161, I162, h158⟩ := h158
                 obtain ⟨i164, i165, i166, i167, i168⟩ : ((-1) ≤ (σ158 55 18).toInt ∧ (σ158 55 18).toInt ≤ 80) ∧ (0 ≤ (σ158 55 19).toInt) ∧ ((σ158 55 19).toInt ≤ (σ158 55 20).toInt) ∧ ((σ158 55 20).toInt ≤ 80) ∧ ((-1) ≤ (σ158 55 21).toInt) := id I162
                 have z169 : (σ158 55 18).toInt = A1 := ((congrArg Int32.toInt (show σ158 55 18 = a1 from ((f161 18 (of_decide_eq_true rfl)).trans ((f78 18 (of_decide_eq_true rfl)).trans ((f63 18 (of_decide_eq_true rfl)).trans ((f30 18 (of_decide_eq_true rfl)).trans ((jkp 18 eσ5 (of_decide_eq_true rfl)).trans ((jkp 18 eσ4 (of_decide_eq_true rfl)).trans ((jkp 18 eσ3 (of_decide_eq_true rfl)).trans ((jkp 18 eσ2 (of_decide_eq_true rfl)).trans (jsp eσ1))))))))))).trans t1)
                 have z170 : (σ158 55 20).toInt = A2 := ((congrArg Int32.toInt (show σ158 55 20 = a2 from ((f161 20 (of_decide_eq_true rfl)).trans ((f78 20 (of_decide_eq_true rfl)).trans ((f63 20 (of_decide_eq_true rfl)).trans ((f30 20 (of_decide_eq_true rfl)).trans ((jkp 20 eσ5 (of_decide_eq_true rfl)).trans ((jkp 20 eσ4 (of_decide_eq_true rfl)).trans (jsp eσ3))))))))).trans t2)
                 obtain ⟨k171, k172, h158⟩ := h158
                 refine lv_istore (lv' := [(6, .int r159), (7, .int 1), (5, .int x10), (4, .int x9), (3, .int x8), (0, .ref (ad 55)), (1, .int a1), (2, .int a2)]) hx hb dX12_workOut_72 hl (of_decide_eq_true rfl) rfl (fun ls hl => ?_)
                 refine lv_aload_n hx hb dX12_workOut_74 rfl (lv_at hl 5 rfl) ?_
                 refine va_get (D := D) hx hb hts inlX12 hown hK hP 55 (jc_55 cI cL ad σ158 τ) rfl 21 (of_decide_eq_true rfl) (hts _ kw_15_13) (fun _ h9 => h9) rfl dX12_workOut_75 ?_
                 refine lv_if_ge (tgt := 96) hx hb dX12_workOut_78 (of_decide_eq_true rfl) (fun c173 => ?_) (fun c173 => ?_)
                 · have kc173 := jle c173 jz_0 rfl
                   refine lv_aload_n hx hb dX12_workOut_96 rfl (lv_at hl 5 rfl) ?_
                   refine lv_bipush (v := 59) hx hb dX12_workOut_97 (of_decide_eq_true rfl) ?_
                   exact by
                    refine jcallV (As := [.int 59]) (rest := []) ⟨hx, hb, hml, hown, hts⟩ hK hP hA hS hZ (c_X12_takes l D cI cL ad zz hJ σ158 τ 59 (59) jz_59 I162 (by omega)) cw_RX12_196 (jc_55 cI cL ad σ158 τ) rfl ⟨Nat.le_of_ble_eq_true rfl, Nat.le_of_ble_eq_true rfl⟩ rfl rfl rfl hl.1 rfl (Nat.le_of_ble_eq_true rfl) dX12_workOut_99 ⟨Nat.zero_le _, Nat.zero_le _⟩ (fun r175 σ174 τ174 H locs h174 hP hS => ?_)
                    obtain ⟨rfl, f176, f177, I178, h174⟩ := h174
                    obtain ⟨i180, i181, i182, i183, i184⟩ : ((-1) ≤ (σ174 55 18).toInt ∧ (σ174 55 18).toInt ≤ 80) ∧ (0 ≤ (σ174 55 19).toInt) ∧ ((σ174 55 19).toInt ≤ (σ174 55 20).toInt) ∧ ((σ174 55 20).toInt ≤ 80) ∧ ((-1) ≤ (σ174 55 21).toInt) := id I178
                    have z185 : (σ174 55 18).toInt = A1 := ((congrArg Int32.toInt (show σ174 55 18 = a1 from ((f177 18 (of_decide_eq_true rfl)).trans ((f161 18 (of_decide_eq_true rfl)).trans ((f78 18 (of_decide_eq_true rfl)).trans ((f63 18 (of_decide_eq_true rfl)).trans ((f30 18 (of_decide_eq_true rfl)).trans ((jkp 18 eσ5 (of_decide_eq_true rfl)).trans ((jkp 18 eσ4 (of_decide_eq_true rfl)).trans ((jkp 18 eσ3 (of_decide_eq_true rfl)).trans ((jkp 18 eσ2 (of_decide_eq_true rfl)).trans (jsp eσ1)))))))))))).trans t1)
                    have z186 : (σ174 55 20).toInt = A2 := ((congrArg Int32.toInt (show σ174 55 20 = a2 from ((f177 20 (of_decide_eq_true rfl)).trans ((f161 20 (of_decide_eq_true rfl)).trans ((f78 20 (of_decide_eq_true rfl)).trans ((f63 20 (of_decide_eq_true rfl)).trans ((f30 20 (of_decide_eq_true rfl)).trans ((jkp 20 eσ5 (of_decide_eq_true rfl)).trans ((jkp 20 eσ4 (of_decide_eq_true rfl)).trans (jsp eσ3)))))))))).trans t2)
                    have z187 : (σ174 55 21).toInt = (σ158 55 21).toInt := (congrArg Int32.toInt (show σ174 55 21 = (σ158 55 21) from (f177 21 (of_decide_eq_true rfl))))
                    rcases h174 with h188 | h189
                    · obtain ⟨q192, k190, k191⟩ := h188
                      exact absurd (by omega : False) id
                    · obtain ⟨q194, k193⟩ := h189
                      have q194 := q194.symm
                      subst q194
                      refine lv_istore (lv' := [(5, .int 0), (6, .int r159), (7, .int 1), (4, .int x9), (3, .int x8), (0, .ref (ad 55)), (1, .int a1), (2, .int a2)]) hx hb dX12_workOut_102 hl (of_decide_eq_true rfl) rfl (fun ls hl => ?_)
                      refine lv_goto (tgt := 33) hx hb dX12_workOut_104 (of_decide_eq_true rfl) ?_
                      have z195 : (σ174 55 22).toInt = (σ158 55 22).toInt := (congrArg Int32.toInt (show σ174 55 22 = (σ158 55 22) from (f177 22 (of_decide_eq_true rfl))))
                      exact by exact ihlp6 x8 x9 0 σ174 _ _ ls (by have h92 := jz_0; omega) (by have h92 := jz_0; omega) (by have h92 := jz_0; omega) (by have h92 := jz_0; omega) (by have h92 := jz_0; omega) (by have h92 := jz_0; omega) (by have h92 := jz_0; omega) (by have h92 := jz_0; omega) (by have h92 := jz_0; omega) (fun i hi => ((f176 i hi).trans ((f160 i hi).trans ((f77 i hi).trans ((f62 i hi).trans (f29 i hi)))))) (fun i hi => ((f177 i (imp_173 i hi)).trans ((f161 i hi).trans ((f78 i (imp_173 i hi)).trans ((f63 i hi).trans (f30 i hi))))))   hP hS (lv_sub hl [0, 3, 4, 5, 6, 7] rfl)
                 · have kc173 := jnle c173 jz_0 rfl
                   refine lv_iload hx hb dX12_workOut_81 (lv_at hl 1 rfl) ?_
                   refine lv_if_eq (tgt := 96) hx hb dX12_workOut_83 (of_decide_eq_true rfl) (fun c => absurd c (of_decide_eq_true rfl)) (fun _ => ?_)
                   refine lv_iload_n hx hb dX12_workOut_86 rfl (lv_at hl 4 rfl) ?_
                   refine lv_if_ne (tgt := 96) hx hb dX12_workOut_87 (of_decide_eq_true rfl) (fun c196 => ?_) (fun c196 => ?_)
                   · have kc196 := jne c196 rfl jz_0
                     refine lv_aload_n hx hb dX12_workOut_96 rfl (lv_at hl 5 rfl) ?_
                     refine lv_bipush (v := 59) hx hb dX12_workOut_97 (of_decide_eq_true rfl) ?_
                     exact by
                      refine jcallV (As := [.int 59]) (rest := []) ⟨hx, hb, hml, hown, hts⟩ hK hP hA hS hZ (c_X12_takes l D cI cL ad zz hJ σ158 τ 59 (59) jz_59 I162 (by omega)) cw_RX12_196 (jc_55 cI cL ad σ158 τ) rfl ⟨Nat.le_of_ble_eq_true rfl, Nat.le_of_ble_eq_true rfl⟩ rfl rfl rfl hl.1 rfl (Nat.le_of_ble_eq_true rfl) dX12_workOut_99 ⟨Nat.zero_le _, Nat.zero_le _⟩ (fun r198 σ197 τ197 H locs h197 hP hS => ?_)
                      obtain ⟨rfl, f199, f200, I201, h197⟩ := h197
                      obtain ⟨i203, i204, i205, i206, i207⟩ : ((-1) ≤ (σ197 55 18).toInt ∧ (σ197 55 18).toInt ≤ 80) ∧ (0 ≤ (σ197 55 19).toInt) ∧ ((σ197 55 19).toInt ≤ (σ197 55 20).toInt) ∧ ((σ197 55 20).toInt ≤ 80) ∧ ((-1) ≤ (σ197 55 21).toInt) := id I201
                      have z208 : (σ197 55 18).toInt = A1 := ((congrArg Int32.toInt (show σ197 55 18 = a1 from ((f200 18 (of_decide_eq_true rfl)).trans ((f161 18 (of_decide_eq_true rfl)).trans ((f78 18 (of_decide_eq_true rfl)).trans ((f63 18 (of_decide_eq_true rfl)).trans ((f30 18 (of_decide_eq_true rfl)).trans ((jkp 18 eσ5 (of_decide_eq_true rfl)).trans ((jkp 18 eσ4 (of_decide_eq_true rfl)).trans ((jkp 18 eσ3 (of_decide_eq_true rfl)).trans ((jkp 18 eσ2 (of_decide_eq_true rfl)).trans (jsp eσ1)))))))))))).trans t1)
                      have z209 : (σ197 55 20).toInt = A2 := ((congrArg Int32.toInt (show σ197 55 20 = a2 from ((f200 20 (of_decide_eq_true rfl)).trans ((f161 20 (of_decide_eq_true rfl)).trans ((f78 20 (of_decide_eq_true rfl)).trans ((f63 20 (of_decide_eq_true rfl)).trans ((f30 20 (of_decide_eq_true rfl)).trans ((jkp 20 eσ5 (of_decide_eq_true rfl)).trans ((jkp 20 eσ4 (of_decide_eq_true rfl)).trans (jsp eσ3)))))))))).trans t2)
                      have z210 : (σ197 55 21).toInt = (σ158 55 21).toInt := (congrArg Int32.toInt (show σ197 55 21 = (σ158 55 21) from (f200 21 (of_decide_eq_true rfl))))
                      rcases h197 with h211 | h212
                      · obtain ⟨q215, k213, k214⟩ := h211
                        have q215 := q215.symm
                        subst q215
                        refine lv_istore (lv' := [(5, .int 1), (6, .int r159), (7, .int 1), (4, .int x9), (3, .int x8), (0, .ref (ad 55)), (1, .int a1), (2, .int a2)]) hx hb dX12_workOut_102 hl (of_decide_eq_true rfl) rfl (fun ls hl => ?_)
                        refine lv_goto (tgt := 33) hx hb dX12_workOut_104 (of_decide_eq_true rfl) ?_
                        have z216 : (σ197 55 22).toInt = (σ158 55 22).toInt := (congrArg Int32.toInt (show σ197 55 22 = (σ158 55 22) from (f200 22 (of_decide_eq_true rfl))))
                        exact by exact ihlp6 x8 x9 1 σ197 _ _ ls (by have h92 := jz_1; omega) (by have h92 := jz_1; omega) (by have h92 := jz_1; omega) (by have h92 := jz_1; omega) (by have h92 := jz_1; omega) (by have h92 := jz_1; omega) (by have h92 := jz_1; omega) (by have h92 := jz_1; omega) (by have h92 := jz_1; omega) (fun i hi => ((f199 i hi).trans ((f160 i hi).trans ((f77 i hi).trans ((f62 i hi).trans (f29 i hi)))))) (fun i hi => ((f200 i (imp_173 i hi)).trans ((f161 i hi).trans ((f78 i (imp_173 i hi)).trans ((f63 i hi).trans (f30 i hi))))))   hP hS (lv_sub hl [0, 3, 4, 5, 6, 7] rfl)
                      · obtain ⟨q218, k217⟩ := h212
                        have q218 := q218.symm
                        subst q218
                        refine lv_istore (lv' := [(5, .int 0), (6, .int r159), (7, .int 1), (4, .int x9), (3, .int x8), (0, .ref (ad 55)), (1, .int a1), (2, .int a2)]) hx hb dX12_workOut_102 hl (of_decide_eq_true rfl) rfl (fun ls hl => ?_)
                        refine lv_goto (tgt := 33) hx hb dX12_workOut_104 (of_decide_eq_true rfl) ?_
                        have z219 : (σ197 55 22).toInt = (σ158 55 22).toInt := (congrArg Int32.toInt (show σ197 55 22 = (σ158 55 22) from (f200 22 (of_decide_eq_true rfl))))
                        exact by exact ihlp6 x8 x9 0 σ197 _ _ ls (by have h92 := jz_0; omega) (by have h92 := jz_0; omega) (by have h92 := jz_0; omega) (by have h92 := jz_0; omega) (by have h92 := jz_0; omega) (by have h92 := jz_0; omega) (by have h92 := jz_0; omega) (by have h92 := jz_0; omega) (by have h92 := jz_0; omega) (fun i hi => ((f199 i hi).trans ((f160 i hi).trans ((f77 i hi).trans ((f62 i hi).trans (f29 i hi)))))) (fun i hi => ((f200 i (imp_173 i hi)).trans ((f161 i hi).trans ((f78 i (imp_173 i hi)).trans ((f63 i hi).trans (f30 i hi))))))   hP hS (lv_sub hl [0, 3, 4, 5, 6, 7] rfl)
                   · have kc196 := jeq c196 rfl jz_0
                     refine lv_iconst (v := 1) hx hb dX12_workOut_90 (of_decide_eq_true rfl) ?_
                     refine lv_istore_n (lv' := [(3, .int 1), (6, .int r159), (7, .int 1), (5, .int x10), (4, .int x9), (0, .ref (ad 55)), (1, .int a1), (2, .int a2)]) hx hb dX12_workOut_91 rfl hl (of_decide_eq_true rfl) rfl (fun ls hl => ?_)
                     refine lv_iload hx hb dX12_workOut_92 (lv_at hl 1 rfl) ?_
                     refine lv_istore (lv' := [(4, .int r159), (3, .int 1), (6, .int r159), (7, .int 1), (5, .int x10), (0, .ref (ad 55)), (1, .int a1), (2, .int a2)]) hx hb dX12_workOut_94 hl (of_decide_eq_true rfl) rfl (fun ls hl => ?_)
                     refine lv_aload_n hx hb dX12_workOut_96 rfl (lv_at hl 5 rfl) ?_
                     refine lv_bipush (v := 59) hx hb dX12_workOut_97 (of_decide_eq_true rfl) ?_
                     exact by
                      refine jcallV (As := [.int 59]) (rest := []) ⟨hx, hb, hml, hown, hts⟩ hK hP hA hS hZ (c_X12_takes l D cI cL ad zz hJ σ158 τ 59 (59) jz_59 I162 (by omega)) cw_RX12_196 (jc_55 cI cL ad σ158 τ) rfl ⟨Nat.le_of_ble_eq_true rfl, Nat.le_of_ble_eq_true rfl⟩ rfl rfl rfl hl.1 rfl (Nat.le_of_ble_eq_true rfl) dX12_workOut_99 ⟨Nat.zero_le _, Nat.zero_le _⟩ (fun r221 σ220 τ220 H locs h220 hP hS => ?_)
                      obtain ⟨rfl, f222, f223, I224, h220⟩ := h220
                      obtain ⟨i226, i227, i228, i229, i230⟩ : ((-1) ≤ (σ220 55 18).toInt ∧ (σ220 55 18).toInt ≤ 80) ∧ (0 ≤ (σ220 55 19).toInt) ∧ ((σ220 55 19).toInt ≤ (σ220 55 20).toInt) ∧ ((σ220 55 20).toInt ≤ 80) ∧ ((-1) ≤ (σ220 55 21).toInt) := id I224
                      have z231 : (σ220 55 18).toInt = A1 := ((congrArg Int32.toInt (show σ220 55 18 = a1 from ((f223 18 (of_decide_eq_true rfl)).trans ((f161 18 (of_decide_eq_true rfl)).trans ((f78 18 (of_decide_eq_true rfl)).trans ((f63 18 (of_decide_eq_true rfl)).trans ((f30 18 (of_decide_eq_true rfl)).trans ((jkp 18 eσ5 (of_decide_eq_true rfl)).trans ((jkp 18 eσ4 (of_decide_eq_true rfl)).trans ((jkp 18 eσ3 (of_decide_eq_true rfl)).trans ((jkp 18 eσ2 (of_decide_eq_true rfl)).trans (jsp eσ1)))))))))))).trans t1)
                      have z232 : (σ220 55 20).toInt = A2 := ((congrArg Int32.toInt (show σ220 55 20 = a2 from ((f223 20 (of_decide_eq_true rfl)).trans ((f161 20 (of_decide_eq_true rfl)).trans ((f78 20 (of_decide_eq_true rfl)).trans ((f63 20 (of_decide_eq_true rfl)).trans ((f30 20 (of_decide_eq_true rfl)).trans ((jkp 20 eσ5 (of_decide_eq_true rfl)).trans ((jkp 20 eσ4 (of_decide_eq_true rfl)).trans (jsp eσ3)))))))))).trans t2)
                      have z233 : (σ220 55 21).toInt = (σ158 55 21).toInt := (congrArg Int32.toInt (show σ220 55 21 = (σ158 55 21) from (f223 21 (of_decide_eq_true rfl))))
                      rcases h220 with h234 | h235
                      · obtain ⟨q238, k236, k237⟩ := h234
                        have q238 := q238.symm
                        subst q238
                        refine lv_istore (lv' := [(5, .int 1), (4, .int r159), (3, .int 1), (6, .int r159), (7, .int 1), (0, .ref (ad 55)), (1, .int a1), (2, .int a2)]) hx hb dX12_workOut_102 hl (of_decide_eq_true rfl) rfl (fun ls hl => ?_)
                        refine lv_goto (tgt := 33) hx hb dX12_workOut_104 (of_decide_eq_true rfl) ?_
                        have z239 : (σ220 55 22).toInt = (σ158 55 22).toInt := (congrArg Int32.toInt (show σ220 55 22 = (σ158 55 22) from (f223 22 (of_decide_eq_true rfl))))
                        exact by exact ihlp6 1 r159 1 σ220 _ _ ls (by have h90 := jz_1; have h92 := jz_1; omega) (by have h90 := jz_1; have h92 := jz_1; omega) (by have h90 := jz_1; have h92 := jz_1; omega) (by have h90 := jz_1; have h92 := jz_1; omega) (by have h90 := jz_1; have h92 := jz_1; omega) (by have h90 := jz_1; have h92 := jz_1; omega) (by have h90 := jz_1; have h92 := jz_1; omega) (by have h90 := jz_1; have h92 := jz_1; omega) (by have h90 := jz_1; have h92 := jz_1; omega) (fun i hi => ((f222 i hi).trans ((f160 i hi).trans ((f77 i hi).trans ((f62 i hi).trans (f29 i hi)))))) (fun i hi => ((f223 i (imp_173 i hi)).trans ((f161 i hi).trans ((f78 i (imp_173 i hi)).trans ((f63 i hi).trans (f30 i hi))))))   hP hS (lv_sub hl [0, 1, 2, 5, 6, 7] rfl)
                      · obtain ⟨q241, k240⟩ := h235
                        have q241 := q241.symm
                        subst q241
                        refine lv_istore (lv' := [(5, .int 0), (4, .int r159), (3, .int 1), (6, .int r159), (7, .int 1), (0, .ref (ad 55)), (1, .int a1), (2, .int a2)]) hx hb dX12_workOut_102 hl (of_decide_eq_true rfl) rfl (fun ls hl => ?_)
                        refine lv_goto (tgt := 33) hx hb dX12_workOut_104 (of_decide_eq_true rfl) ?_
                        have z242 : (σ220 55 22).toInt = (σ158 55 22).toInt := (congrArg Int32.toInt (show σ220 55 22 = (σ158 55 22) from (f223 22 (of_decide_eq_true rfl))))
                        exact by exact ihlp6 1 r159 0 σ220 _ _ ls (by have h90 := jz_1; have h92 := jz_0; omega) (by have h90 := jz_1; have h92 := jz_0; omega) (by have h90 := jz_1; have h92 := jz_0; omega) (by have h90 := jz_1; have h92 := jz_0; omega) (by have h90 := jz_1; have h92 := jz_0; omega) (by have h90 := jz_1; have h92 := jz_0; omega) (by have h90 := jz_1; have h92 := jz_0; omega) (by have h90 := jz_1; have h92 := jz_0; omega) (by have h90 := jz_1; have h92 := jz_0; omega) (fun i hi => ((f222 i hi).trans ((f160 i hi).trans ((f77 i hi).trans ((f62 i hi).trans (f29 i hi)))))) (fun i hi => ((f223 i (imp_173 i hi)).trans ((f161 i hi).trans ((f78 i (imp_173 i hi)).trans ((f63 i hi).trans (f30 i hi))))))   hP hS (lv_sub hl [0, 1, 2, 5, 6, 7] rfl)
            · obtain ⟨q244, k243⟩ := h90
              have q244 := q244.symm
              subst q244
              refine lv_if_eq (tgt := 74) hx hb dX12_workOut_53 (of_decide_eq_true rfl) (fun _ => ?_) (fun c => absurd (of_decide_eq_true rfl) c)
              refine lv_aload_n hx hb dX12_workOut_74 rfl (lv_at hl 5 rfl) ?_
              refine va_get (D := D) hx hb hts inlX12 hown hK hP 55 (jc_55 cI cL ad σ75 τ) rfl 21 (of_decide_eq_true rfl) (hts _ kw_15_13) (fun _ h9 => h9) rfl dX12_workOut_75 ?_
              have m245 : σ75 55 21 = (σ60 55 21) := (f78 21 (of_decide_eq_true rfl))
              refine jtopr m245 ?_
              refine lv_if_ge (tgt := 96) hx hb dX12_workOut_78 (of_decide_eq_true rfl) (fun c246 => ?_) (fun c246 => ?_)
              · have kc246 := jle c246 jz_0 rfl
                refine lv_aload_n hx hb dX12_workOut_96 rfl (lv_at hl 5 rfl) ?_
                refine lv_bipush (v := 59) hx hb dX12_workOut_97 (of_decide_eq_true rfl) ?_
                exact by
                 refine jcallV (As := [.int 59]) (rest := []) ⟨hx, hb, hml, hown, hts⟩ hK hP hA hS hZ (c_X12_takes l D cI cL ad zz hJ σ75 τ 59 (59) jz_59 I79 (by omega)) cw_RX12_196 (jc_55 cI cL ad σ75 τ) rfl ⟨Nat.le_of_ble_eq_true rfl, Nat.le_of_ble_eq_true rfl⟩ rfl rfl rfl hl.1 rfl (Nat.le_of_ble_eq_true rfl) dX12_workOut_99 ⟨Nat.zero_le _, Nat.zero_le _⟩ (fun r248 σ247 τ247 H locs h247 hP hS => ?_)
                 obtain ⟨rfl, f249, f250, I251, h247⟩ := h247
                 obtain ⟨i253, i254, i255, i256, i257⟩ : ((-1) ≤ (σ247 55 18).toInt ∧ (σ247 55 18).toInt ≤ 80) ∧ (0 ≤ (σ247 55 19).toInt) ∧ ((σ247 55 19).toInt ≤ (σ247 55 20).toInt) ∧ ((σ247 55 20).toInt ≤ 80) ∧ ((-1) ≤ (σ247 55 21).toInt) := id I251
                 have z258 : (σ247 55 18).toInt = A1 := ((congrArg Int32.toInt (show σ247 55 18 = a1 from ((f250 18 (of_decide_eq_true rfl)).trans ((f78 18 (of_decide_eq_true rfl)).trans ((f63 18 (of_decide_eq_true rfl)).trans ((f30 18 (of_decide_eq_true rfl)).trans ((jkp 18 eσ5 (of_decide_eq_true rfl)).trans ((jkp 18 eσ4 (of_decide_eq_true rfl)).trans ((jkp 18 eσ3 (of_decide_eq_true rfl)).trans ((jkp 18 eσ2 (of_decide_eq_true rfl)).trans (jsp eσ1))))))))))).trans t1)
                 have z259 : (σ247 55 20).toInt = A2 := ((congrArg Int32.toInt (show σ247 55 20 = a2 from ((f250 20 (of_decide_eq_true rfl)).trans ((f78 20 (of_decide_eq_true rfl)).trans ((f63 20 (of_decide_eq_true rfl)).trans ((f30 20 (of_decide_eq_true rfl)).trans ((jkp 20 eσ5 (of_decide_eq_true rfl)).trans ((jkp 20 eσ4 (of_decide_eq_true rfl)).trans (jsp eσ3))))))))).trans t2)
                 have z260 : (σ247 55 21).toInt = (σ60 55 21).toInt := (congrArg Int32.toInt (show σ247 55 21 = (σ60 55 21) from ((f250 21 (of_decide_eq_true rfl)).trans m245)))
                 rcases h247 with h261 | h262
                 · obtain ⟨q265, k263, k264⟩ := h261
                   exact absurd (by omega : False) id
                 · obtain ⟨q267, k266⟩ := h262
                   have q267 := q267.symm
                   subst q267
                   refine lv_istore (lv' := [(5, .int 0), (7, .int 1), (6, .int r61), (4, .int x9), (3, .int x8), (0, .ref (ad 55)), (1, .int a1), (2, .int a2)]) hx hb dX12_workOut_102 hl (of_decide_eq_true rfl) rfl (fun ls hl => ?_)
                   refine lv_goto (tgt := 33) hx hb dX12_workOut_104 (of_decide_eq_true rfl) ?_
                   have z268 : (σ247 55 22).toInt = (σ60 55 22).toInt := (congrArg Int32.toInt (show σ247 55 22 = (σ60 55 22) from ((f250 22 (of_decide_eq_true rfl)).trans (f78 22 (of_decide_eq_true rfl)))))
                   exact by exact ihlp6 x8 x9 0 σ247 _ _ ls (by have h92 := jz_0; omega) (by have h92 := jz_0; omega) (by have h92 := jz_0; omega) (by have h92 := jz_0; omega) (by have h92 := jz_0; omega) (by have h92 := jz_0; omega) (by have h92 := jz_0; omega) (by have h92 := jz_0; omega) (by have h92 := jz_0; omega) (fun i hi => ((f249 i hi).trans ((f77 i hi).trans ((f62 i hi).trans (f29 i hi))))) (fun i hi => ((f250 i (imp_173 i hi)).trans ((f78 i (imp_173 i hi)).trans ((f63 i hi).trans (f30 i hi)))))   hP hS (lv_sub hl [0, 3, 4, 5, 6, 7] rfl)
              · have kc246 := jnle c246 jz_0 rfl
                refine lv_iload hx hb dX12_workOut_81 (lv_at hl 0 rfl) ?_
                refine lv_if_eq (tgt := 96) hx hb dX12_workOut_83 (of_decide_eq_true rfl) (fun c => absurd c (of_decide_eq_true rfl)) (fun _ => ?_)
                refine lv_iload_n hx hb dX12_workOut_86 rfl (lv_at hl 4 rfl) ?_
                refine lv_if_ne (tgt := 96) hx hb dX12_workOut_87 (of_decide_eq_true rfl) (fun c269 => ?_) (fun c269 => ?_)
                · have kc269 := jne c269 rfl jz_0
                  refine lv_aload_n hx hb dX12_workOut_96 rfl (lv_at hl 5 rfl) ?_
                  refine lv_bipush (v := 59) hx hb dX12_workOut_97 (of_decide_eq_true rfl) ?_
                  exact by
                   refine jcallV (As := [.int 59]) (rest := []) ⟨hx, hb, hml, hown, hts⟩ hK hP hA hS hZ (c_X12_takes l D cI cL ad zz hJ σ75 τ 59 (59) jz_59 I79 (by omega)) cw_RX12_196 (jc_55 cI cL ad σ75 τ) rfl ⟨Nat.le_of_ble_eq_true rfl, Nat.le_of_ble_eq_true rfl⟩ rfl rfl rfl hl.1 rfl (Nat.le_of_ble_eq_true rfl) dX12_workOut_99 ⟨Nat.zero_le _, Nat.zero_le _⟩ (fun r271 σ270 τ270 H locs h270 hP hS => ?_)
                   obtain ⟨rfl, f272, f273, I274, h270⟩ := h270
                   obtain ⟨i276, i277, i278, i279, i280⟩ : ((-1) ≤ (σ270 55 18).toInt ∧ (σ270 55 18).toInt ≤ 80) ∧ (0 ≤ (σ270 55 19).toInt) ∧ ((σ270 55 19).toInt ≤ (σ270 55 20).toInt) ∧ ((σ270 55 20).toInt ≤ 80) ∧ ((-1) ≤ (σ270 55 21).toInt) := id I274
                   have z281 : (σ270 55 18).toInt = A1 := ((congrArg Int32.toInt (show σ270 55 18 = a1 from ((f273 18 (of_decide_eq_true rfl)).trans ((f78 18 (of_decide_eq_true rfl)).trans ((f63 18 (of_decide_eq_true rfl)).trans ((f30 18 (of_decide_eq_true rfl)).trans ((jkp 18 eσ5 (of_decide_eq_true rfl)).trans ((jkp 18 eσ4 (of_decide_eq_true rfl)).trans ((jkp 18 eσ3 (of_decide_eq_true rfl)).trans ((jkp 18 eσ2 (of_decide_eq_true rfl)).trans (jsp eσ1))))))))))).trans t1)
                   have z282 : (σ270 55 20).toInt = A2 := ((congrArg Int32.toInt (show σ270 55 20 = a2 from ((f273 20 (of_decide_eq_true rfl)).trans ((f78 20 (of_decide_eq_true rfl)).trans ((f63 20 (of_decide_eq_true rfl)).trans ((f30 20 (of_decide_eq_true rfl)).trans ((jkp 20 eσ5 (of_decide_eq_true rfl)).trans ((jkp 20 eσ4 (of_decide_eq_true rfl)).trans (jsp eσ3))))))))).trans t2)
                   have z283 : (σ270 55 21).toInt = (σ60 55 21).toInt := (congrArg Int32.toInt (show σ270 55 21 = (σ60 55 21) from ((f273 21 (of_decide_eq_true rfl)).trans m245)))
                   rcases h270 with h284 | h285
                   · obtain ⟨q288, k286, k287⟩ := h284
                     have q288 := q288.symm
                     subst q288
                     refine lv_istore (lv' := [(5, .int 1), (7, .int 1), (6, .int r61), (4, .int x9), (3, .int x8), (0, .ref (ad 55)), (1, .int a1), (2, .int a2)]) hx hb dX12_workOut_102 hl (of_decide_eq_true rfl) rfl (fun ls hl => ?_)
                     refine lv_goto (tgt := 33) hx hb dX12_workOut_104 (of_decide_eq_true rfl) ?_
                     have z289 : (σ270 55 22).toInt = (σ60 55 22).toInt := (congrArg Int32.toInt (show σ270 55 22 = (σ60 55 22) from ((f273 22 (of_decide_eq_true rfl)).trans (f78 22 (of_decide_eq_true rfl)))))
                     exact by exact ihlp6 x8 x9 1 σ270 _ _ ls (by have h92 := jz_1; omega) (by have h92 := jz_1; omega) (by have h92 := jz_1; omega) (by have h92 := jz_1; omega) (by have h92 := jz_1; omega) (by have h92 := jz_1; omega) (by have h92 := jz_1; omega) (by have h92 := jz_1; omega) (by have h92 := jz_1; omega) (fun i hi => ((f272 i hi).trans ((f77 i hi).trans ((f62 i hi).trans (f29 i hi))))) (fun i hi => ((f273 i (imp_173 i hi)).trans ((f78 i (imp_173 i hi)).trans ((f63 i hi).trans (f30 i hi)))))   hP hS (lv_sub hl [0, 3, 4, 5, 6, 7] rfl)
                   · obtain ⟨q291, k290⟩ := h285
                     have q291 := q291.symm
                     subst q291
                     refine lv_istore (lv' := [(5, .int 0), (7, .int 1), (6, .int r61), (4, .int x9), (3, .int x8), (0, .ref (ad 55)), (1, .int a1), (2, .int a2)]) hx hb dX12_workOut_102 hl (of_decide_eq_true rfl) rfl (fun ls hl => ?_)
                     refine lv_goto (tgt := 33) hx hb dX12_workOut_104 (of_decide_eq_true rfl) ?_
                     have z292 : (σ270 55 22).toInt = (σ60 55 22).toInt := (congrArg Int32.toInt (show σ270 55 22 = (σ60 55 22) from ((f273 22 (of_decide_eq_true rfl)).trans (f78 22 (of_decide_eq_true rfl)))))
                     exact by exact ihlp6 x8 x9 0 σ270 _ _ ls (by have h92 := jz_0; omega) (by have h92 := jz_0; omega) (by have h92 := jz_0; omega) (by have h92 := jz_0; omega) (by have h92 := jz_0; omega) (by have h92 := jz_0; omega) (by have h92 := jz_0; omega) (by have h92 := jz_0; omega) (by have h92 := jz_0; omega) (fun i hi => ((f272 i hi).trans ((f77 i hi).trans ((f62 i hi).trans (f29 i hi))))) (fun i hi => ((f273 i (imp_173 i hi)).trans ((f78 i (imp_173 i hi)).trans ((f63 i hi).trans (f30 i hi)))))   hP hS (lv_sub hl [0, 3, 4, 5, 6, 7] rfl)
                · have kc269 := jeq c269 rfl jz_0
                  refine lv_iconst (v := 1) hx hb dX12_workOut_90 (of_decide_eq_true rfl) ?_
                  refine lv_istore_n (lv' := [(3, .int 1), (7, .int 1), (6, .int r61), (5, .int x10), (4, .int x9), (0, .ref (ad 55)), (1, .int a1), (2, .int a2)]) hx hb dX12_workOut_91 rfl hl (of_decide_eq_true rfl) rfl (fun ls hl => ?_)
                  refine lv_iload hx hb dX12_workOut_92 (lv_at hl 2 rfl) ?_
                  refine lv_istore (lv' := [(4, .int r61), (3, .int 1), (7, .int 1), (6, .int r61), (5, .int x10), (0, .ref (ad 55)), (1, .int a1), (2, .int a2)]) hx hb dX12_workOut_94 hl (of_decide_eq_true rfl) rfl (fun ls hl => ?_)
                  refine lv_aload_n hx hb dX12_workOut_96 rfl (lv_at hl 5 rfl) ?_
                  refine lv_bipush (v := 59) hx hb dX12_workOut_97 (of_decide_eq_true rfl) ?_
                  exact by
                   refine jcallV (As := [.int 59]) (rest := []) ⟨hx, hb, hml, hown, hts⟩ hK hP hA hS hZ (c_X12_takes l D cI cL ad zz hJ σ75 τ 59 (59) jz_59 I79 (by omega)) cw_RX12_196 (jc_55 cI cL ad σ75 τ) rfl ⟨Nat.le_of_ble_eq_true rfl, Nat.le_of_ble_eq_true rfl⟩ rfl rfl rfl hl.1 rfl (Nat.le_of_ble_eq_true rfl) dX12_workOut_99 ⟨Nat.zero_le _, Nat.zero_le _⟩ (fun r294 σ293 τ293 H locs h293 hP hS => ?_)
                   obtain ⟨rfl, f295, f296, I297, h293⟩ := h293
                   obtain ⟨i299, i300, i301, i302, i303⟩ : ((-1) ≤ (σ293 55 18).toInt ∧ (σ293 55 18).toInt ≤ 80) ∧ (0 ≤ (σ293 55 19).toInt) ∧ ((σ293 55 19).toInt ≤ (σ293 55 20).toInt) ∧ ((σ293 55 20).toInt ≤ 80) ∧ ((-1) ≤ (σ293 55 21).toInt) := id I297
                   have z304 : (σ293 55 18).toInt = A1 := ((congrArg Int32.toInt (show σ293 55 18 = a1 from ((f296 18 (of_decide_eq_true rfl)).trans ((f78 18 (of_decide_eq_true rfl)).trans ((f63 18 (of_decide_eq_true rfl)).trans ((f30 18 (of_decide_eq_true rfl)).trans ((jkp 18 eσ5 (of_decide_eq_true rfl)).trans ((jkp 18 eσ4 (of_decide_eq_true rfl)).trans ((jkp 18 eσ3 (of_decide_eq_true rfl)).trans ((jkp 18 eσ2 (of_decide_eq_true rfl)).trans (jsp eσ1))))))))))).trans t1)
                   have z305 : (σ293 55 20).toInt = A2 := ((congrArg Int32.toInt (show σ293 55 20 = a2 from ((f296 20 (of_decide_eq_true rfl)).trans ((f78 20 (of_decide_eq_true rfl)).trans ((f63 20 (of_decide_eq_true rfl)).trans ((f30 20 (of_decide_eq_true rfl)).trans ((jkp 20 eσ5 (of_decide_eq_true rfl)).trans ((jkp 20 eσ4 (of_decide_eq_true rfl)).trans (jsp eσ3))))))))).trans t2)
                   have z306 : (σ293 55 21).toInt = (σ60 55 21).toInt := (congrArg Int32.toInt (show σ293 55 21 = (σ60 55 21) from ((f296 21 (of_decide_eq_true rfl)).trans m245)))
                   rcases h293 with h307 | h308
                   · obtain ⟨q311, k309, k310⟩ := h307
                     have q311 := q311.symm
                     subst q311
                     refine lv_istore (lv' := [(5, .int 1), (4, .int r61), (3, .int 1), (7, .int 1), (6, .int r61), (0, .ref (ad 55)), (1, .int a1), (2, .int a2)]) hx hb dX12_workOut_102 hl (of_decide_eq_true rfl) rfl (fun ls hl => ?_)
                     refine lv_goto (tgt := 33) hx hb dX12_workOut_104 (of_decide_eq_true rfl) ?_
                     have z312 : (σ293 55 22).toInt = (σ60 55 22).toInt := (congrArg Int32.toInt (show σ293 55 22 = (σ60 55 22) from ((f296 22 (of_decide_eq_true rfl)).trans (f78 22 (of_decide_eq_true rfl)))))
                     exact by exact ihlp6 1 r61 1 σ293 _ _ ls (by have h90 := jz_1; have h92 := jz_1; omega) (by have h90 := jz_1; have h92 := jz_1; omega) (by have h90 := jz_1; have h92 := jz_1; omega) (by have h90 := jz_1; have h92 := jz_1; omega) (by have h90 := jz_1; have h92 := jz_1; omega) (by have h90 := jz_1; have h92 := jz_1; omega) (by have h90 := jz_1; have h92 := jz_1; omega) (by have h90 := jz_1; have h92 := jz_1; omega) (by have h90 := jz_1; have h92 := jz_1; omega) (fun i hi => ((f295 i hi).trans ((f77 i hi).trans ((f62 i hi).trans (f29 i hi))))) (fun i hi => ((f296 i (imp_173 i hi)).trans ((f78 i (imp_173 i hi)).trans ((f63 i hi).trans (f30 i hi)))))   hP hS (lv_sub hl [0, 1, 2, 5, 6, 7] rfl)
                   · obtain ⟨q314, k313⟩ := h308
                     have q314 := q314.symm
                     subst q314
                     refine lv_istore (lv' := [(5, .int 0), (4, .int r61), (3, .int 1), (7, .int 1), (6, .int r61), (0, .ref (ad 55)), (1, .int a1), (2, .int a2)]) hx hb dX12_workOut_102 hl (of_decide_eq_true rfl) rfl (fun ls hl => ?_)
                     refine lv_goto (tgt := 33) hx hb dX12_workOut_104 (of_decide_eq_true rfl) ?_
                     have z315 : (σ293 55 22).toInt = (σ60 55 22).toInt := (congrArg Int32.toInt (show σ293 55 22 = (σ60 55 22) from ((f296 22 (of_decide_eq_true rfl)).trans (f78 22 (of_decide_eq_true rfl)))))
                     exact by exact ihlp6 1 r61 0 σ293 _ _ ls (by have h90 := jz_1; have h92 := jz_0; omega) (by have h90 := jz_1; have h92 := jz_0; omega) (by have h90 := jz_1; have h92 := jz_0; omega) (by have h90 := jz_1; have h92 := jz_0; omega) (by have h90 := jz_1; have h92 := jz_0; omega) (by have h90 := jz_1; have h92 := jz_0; omega) (by have h90 := jz_1; have h92 := jz_0; omega) (by have h90 := jz_1; have h92 := jz_0; omega) (by have h90 := jz_1; have h92 := jz_0; omega) (fun i hi => ((f295 i hi).trans ((f77 i hi).trans ((f62 i hi).trans (f29 i hi))))) (fun i hi => ((f296 i (imp_173 i hi)).trans ((f78 i (imp_173 i hi)).trans ((f63 i hi).trans (f30 i hi)))))   hP hS (lv_sub hl [0, 1, 2, 5, 6, 7] rfl)
  exact by exact lp6 1000000 0 0 1 σ5 _ _ ls (by have h90 := jz_0; have h91 := jz_0; have h92 := jz_1; omega) (by have h90 := jz_0; have h91 := jz_0; have h92 := jz_1; omega) (by have h90 := jz_0; have h91 := jz_0; have h92 := jz_1; omega) (by have h90 := jz_0; have h91 := jz_0; have h92 := jz_1; omega) (by have h90 := jz_0; have h91 := jz_0; have h92 := jz_1; omega) (by have h90 := jz_0; have h91 := jz_0; have h92 := jz_1; omega) (by have h90 := jz_0; have h91 := jz_0; have h92 := jz_1; omega) (by have h90 := jz_0; have h91 := jz_0; have h92 := jz_1; omega) (by have h90 := jz_0; have h91 := jz_0; have h92 := jz_1; omega) (fun _ _ => rfl) (fun _ _ => rfl)   hP hS hl
set_option maxHeartbeats 4000000 in
set_option maxRecDepth 100000 in
theorem c_X12_text (l : Launch) (D : va_G) (cI cL : ClassId) (ad zz : Nat → Nat) (hJ : jD ad) (σ : Nat → Nat → Int32) (τ : Nat → Nat → Int64) (a1 : Int32) (A1 : Int) (t1 : a1.toInt = A1) (hI105 : jI105 σ) : jM l yX12_text cX12_text 5 (some .int) ({ frames := 65, cells := 0, slots := 0, locals := 2809 }) D cI cL ad zz [.ref (ad 55), .int a1] σ τ (fun r σ' τ' => τ = τ' ∧ (∀ i : Nat, (i < 55 ∨ 55 < i) ∧ (i < 64 ∨ 65 < i) → σ' i = σ i) ∧ (∀ k : Nat, (k < 15 ∨ 15 < k) ∧ (k < 18 ∨ 18 < k) ∧ (k < 19 ∨ 19 < k) ∧ (k < 20 ∨ 20 < k) ∧ (k < 21 ∨ 21 < k) ∧ (k < 22 ∨ 22 < k) → σ' 55 k = σ 55 k) ∧ (jI105 σ') ∧ ((0 ≤ A1 ∧ A1 ≤ 1 ∧ (σ' 55 15).toInt = 0) ∨ (A1 < 0 ∧ (σ' 55 15).toInt = (σ 55 15).toInt) ∨ (1 < A1 ∧ (σ' 55 15).toInt = (σ 55 15).toInt)) ∧ True) := by
  refine jM.of hJ (by decide +kernel) (nt := .int) rfl (Nat.le_of_ble_eq_true rfl) ?_
  intro p e s m args below meth c Q ls hC hret hl hP
  obtain ⟨hx, hb, hr, hml, hown, hts, hK, -, hlocks, hZ⟩ := hC
  have hown : s.vm.findClass RX12 = some m.cls := hown
  have hS : va_S (jA ad) s.heap s.heap [] := va_S.rf
  have hA : ∀ q, jA ad q → jA ad q := fun _ h => h
  have hl : lv_has ls 5 [(0, .ref (ad 55)), (1, .int a1)] := hl
  have g1 := jrg t1
  obtain ⟨i1, w2⟩ : (0 ≤ (σ 55 15).toInt ∧ (σ 55 15).toInt ≤ 80) ∧ (∀ k : Nat, k < 2 → (-1) ≤ (σ 65 k).toInt ∧ (σ 65 k).toInt ≤ 80) := id hI105
  refine lv_iload_n hx hb dX12_text_0 rfl (lv_at hl 1 rfl) ?_
  refine lv_i2l (v := a1.toInt64) hx hb dX12_text_1 rfl ?_
  refine lv_lconst (v := 0) hx hb dX12_text_2 (of_decide_eq_true rfl) ?_
  refine lv_lconst (v := 1) hx hb dX12_text_3 (of_decide_eq_true rfl) ?_
  refine jcallS (As := [.long a1.toInt64, .long 0, .long 1]) (rest := []) ⟨hx, hb, hml, hown, hts⟩ hK hP hA hS hZ (c_X12_within l D cI cL ad zz hJ σ τ a1.toInt64 (A1) (jtoL t1) 0 (0) jzl_0 1 (1) jzl_1) cw_RX12_136 ⟨Nat.le_of_ble_eq_true rfl, Nat.le_of_ble_eq_true rfl⟩ rfl rfl rfl hl.1 rfl (Nat.le_of_ble_eq_true rfl) dX12_text_4 ⟨Nat.zero_le _, Nat.zero_le _⟩ (fun r4 σ3 τ3 H locs h3 hP hS => ?_)
  obtain ⟨⟨rfl, rfl⟩, h3⟩ := h3
  rcases h3 with h5 | h6
  · obtain ⟨q8, k7⟩ := h5
    have q8 := q8.symm
    subst q8
    refine lv_if_ne (tgt := 12) hx hb dX12_text_7 (of_decide_eq_true rfl) (fun _ => ?_) (fun c => absurd c (of_decide_eq_true rfl))
    refine lv_aload_n hx hb dX12_text_12 rfl (lv_at hl 0 rfl) ?_
    refine lv_iconst (v := (-1)) hx hb dX12_text_13 (of_decide_eq_true rfl) ?_
    refine lv_aload_n hx hb dX12_text_14 rfl (lv_at hl 0 rfl) ?_
    refine va_get (D := D) hx hb hts inlX12 hown hK hP 55 (jc_55 cI cL ad σ τ) rfl 15 (of_decide_eq_true rfl) (hts _ kw_13_6) (fun _ h9 => h9) rfl dX12_text_15 ?_
    exact by
     refine jcallV (As := [.int (-1), .int (σ 55 15)]) (rest := []) ⟨hx, hb, hml, hown, hts⟩ hK hP hA hS hZ (c_X12_workOut l D cI cL ad zz hJ σ τ (-1) ((-1)) jz_m1 (σ 55 15) ((σ 55 15).toInt) rfl (by omega) (by omega)) cw_RX12_224 (jc_55 cI cL ad σ τ) rfl ⟨Nat.le_of_ble_eq_true rfl, Nat.le_of_ble_eq_true rfl⟩ rfl rfl rfl hl.1 rfl (Nat.le_of_ble_eq_true rfl) dX12_text_18 ⟨Nat.zero_le _, Nat.zero_le _⟩ (fun r10 σ9 τ9 H locs h9 hP hS => ?_)
     obtain ⟨rfl, f11, f12, I13, h9⟩ := h9
     obtain ⟨i15, i16, i17, i18, i19⟩ : ((-1) ≤ (σ9 55 18).toInt ∧ (σ9 55 18).toInt ≤ 80) ∧ (0 ≤ (σ9 55 19).toInt) ∧ ((σ9 55 19).toInt ≤ (σ9 55 20).toInt) ∧ ((σ9 55 20).toInt ≤ 80) ∧ ((-1) ≤ (σ9 55 21).toInt) := id I13
     refine lv_istore_n (lv' := [(2, .int r10), (0, .ref (ad 55)), (1, .int a1)]) hx hb dX12_text_21 rfl hl (of_decide_eq_true rfl) rfl (fun ls hl => ?_)
     refine lv_aload_n hx hb dX12_text_22 rfl (lv_at hl 1 rfl) ?_
     refine va_get (D := D) hx hb hts inlX12 hown hK hP 55 (jc_55 cI cL ad σ9 τ) rfl 15 (of_decide_eq_true rfl) (hts _ kw_13_6) (fun _ h9 => h9) rfl dX12_text_23 ?_
     have m20 : σ9 55 15 = (σ 55 15) := (f12 15 (of_decide_eq_true rfl))
     refine jtopr m20 ?_
     refine lv_istore_n (lv' := [(3, .int (σ 55 15)), (2, .int r10), (0, .ref (ad 55)), (1, .int a1)]) hx hb dX12_text_26 rfl hl (of_decide_eq_true rfl) rfl (fun ls hl => ?_)
     refine lv_aload_n hx hb dX12_text_27 rfl (lv_at hl 2 rfl) ?_
     refine lv_iconst (v := 0) hx hb dX12_text_28 (of_decide_eq_true rfl) ?_
     refine jput (ty := .int) hx hb hts inlX12 tyX12 tyX12_ok nmX12 hown hK hP hJ hA hS (jc_55 cI cL ad σ9 τ) rfl (k := 15) (of_decide_eq_true rfl) (Nat.le_of_ble_eq_true rfl) (jp_55_15 cI cL ad σ9 τ 0) (hts _ kw_13_6) (fun _ h9 => h9) rfl (by decide +kernel) rfl rfl dX12_text_29 (fun σ21 H locs eσ21 hP hS => ?_)
     refine lv_aload_n hx hb dX12_text_32 rfl (lv_at hl 2 rfl) ?_
     refine va_get (D := D) hx hb hts inlX12 hown hK hP 55 (jc_55 cI cL ad σ21 τ) rfl 21 (of_decide_eq_true rfl) (hts _ kw_15_13) (fun _ h9 => h9) rfl dX12_text_33 ?_
     have m22 : σ21 55 21 = (σ9 55 21) := (jkp 21 eσ21 (of_decide_eq_true rfl))
     refine jtopr m22 ?_
     refine lv_if_lt (tgt := 47) hx hb dX12_text_36 (of_decide_eq_true rfl) (fun c23 => ?_) (fun c23 => ?_)
     · have kc23 := jlt c23 rfl jz_0
       refine lv_iconst (v := 0) hx hb dX12_text_47 (of_decide_eq_true rfl) ?_
       refine lv_istore (lv' := [(4, .int 0), (3, .int (σ 55 15)), (2, .int r10), (0, .ref (ad 55)), (1, .int a1)]) hx hb dX12_text_48 hl (of_decide_eq_true rfl) rfl (fun ls hl => ?_)
       have lp24 : ∀ (n25 : Nat) (x26 : Int32) (σ27 : Nat → Nat → Int32) (H : Heap) (locs : List Loc) (ls : Array Slot), ((σ 55 15).toInt - x26.toInt : Int) < n25 → 0 ≤ x26.toInt → x26.toInt ≤ 80 → x26.toInt ≤ (σ 55 15).toInt → (∀ i : Nat, (i < 64 ∨ 64 < i) → σ27 i = σ21 i) → jH D cI cL ad σ27 τ H → va_S (jA ad) s.heap H locs → lv_has ls 5 [(4, .int x26), (3, .int (σ 55 15)), (2, .int r10), (0, .ref (ad 55)), (1, .int a1)] → W p l e ({ frames := 65, cells := 0, slots := 0, locals := 2809 }) s m args below meth c H locs 0 0 Q (F0 m 50 ls []) := by
         intro n25
         induction n25 with
         | zero => intro x26 σ27 H locs ls h29 h30 h31 h32; exact absurd h29 (by omega)
         | succ n25 ihlp24 =>
           intro x26 σ27 H locs ls h29 h30 h31 h32 f33 hP hS hl
           exact by
            refine lv_iload hx hb dX12_text_50 (lv_at hl 0 rfl) ?_
            refine lv_iload_n hx hb dX12_text_52 rfl (lv_at hl 1 rfl) ?_
            refine lv_icmp_ge (tgt := 81) hx hb dX12_text_53 (of_decide_eq_true rfl) (fun c34 => ?_) (fun c34 => ?_)
            · have kc34 := jle c34 rfl rfl
              refine lv_aload_n hx hb dX12_text_81 rfl (lv_at hl 3 rfl) ?_
              refine va_get (D := D) hx hb hts inlX12 hown hK hP 55 (jc_55 cI cL ad σ27 τ) rfl 17 (of_decide_eq_true rfl) (hts _ kw_7_11) (fun _ h9 => h9) rfl dX12_text_82 ?_
              refine lv_iload_n hx hb dX12_text_85 rfl (lv_at hl 4 rfl) ?_
              refine lv_iload_n hx hb dX12_text_86 rfl (lv_at hl 1 rfl) ?_
              refine jast hx hb hK hP hJ hA hS (jc_65 cI cL ad σ27 τ) (ja_65 cI cL ad σ27 τ _ _) (jin t1 (by omega) (by omega)) dX12_text_87 (fun σ35 H locs eσ35 hP hS => ?_)
              exact by
               refine lv_iconst (v := 1) hx hb dX12_text_88 (of_decide_eq_true rfl) ?_
               have z36 : (σ35 55 15).toInt = 0 := ((congrArg Int32.toInt (show σ35 55 15 = 0 from ((congrFun (jnp 55 eσ35 (of_decide_eq_true rfl)) 15).trans ((congrFun (f33 55 (of_decide_eq_true rfl)) 15).trans (jsp eσ21))))).trans jz_0)
               have w37 : ∀ k : Nat, k < 2 → (-1) ≤ (σ35 65 k).toInt ∧ (σ35 65 k).toInt ≤ 80 := (by rw [eσ35]; exact jrr_up (jrr_fr (f33 65 (of_decide_eq_true rfl)) (jrr_fr (jnp 65 eσ21 (of_decide_eq_true rfl)) (jrr_fr (f11 65 (of_decide_eq_true rfl)) w2))) (by omega) (by omega))
               have I38 : jI105 σ35 := ⟨(by omega), w37⟩
               exact hret 1 σ35 τ _ _ _ _ rfl ⟨rfl, (fun i hi => ((jnp i eσ35 (imp_181 i hi)).trans ((f33 i (imp_182 i hi)).trans ((jnp i eσ21 (imp_183 i hi)).trans (f11 i (imp_184 i hi)))))), (fun i hi => ((congrFun (jnp 55 eσ35 (of_decide_eq_true rfl)) i).trans ((congrFun (f33 55 (of_decide_eq_true rfl)) i).trans ((jkp i eσ21 (imp_185 i hi)).trans (f12 i (imp_186 i hi)))))), I38, (by omega), trivial⟩ hP hS dX12_text_89
            · have kc34 := jnle c34 rfl rfl
              refine lv_aload_n hx hb dX12_text_56 rfl (lv_at hl 3 rfl) ?_
              refine va_get (D := D) hx hb hts inlX12 hown hK hP 55 (jc_55 cI cL ad σ27 τ) rfl 16 (of_decide_eq_true rfl) (hts _ kw_7_10) (fun _ h9 => h9) rfl dX12_text_57 ?_
              refine lv_bipush (v := 80) hx hb dX12_text_60 (of_decide_eq_true rfl) ?_
              exact by
               refine lv_iload_n hx hb dX12_text_62 rfl (lv_at hl 4 rfl) ?_
               refine lv_imul hx hb dX12_text_63 ?_
               refine lv_topi (fun x39 ex39 => ?_)
               have tx39 : x39.toInt = 80 * A1 := (jmul ex39 jz_80 t1 (by omega) (by omega)).trans (by omega)
               refine lv_iload hx hb dX12_text_64 (lv_at hl 0 rfl) ?_
               have g40 := jrg (rfl : x26.toInt = x26.toInt)
               refine lv_iadd hx hb dX12_text_66 ?_
               refine lv_topi (fun x41 ex41 => ?_)
               have tx41 : x41.toInt = 80 * A1 + x26.toInt := (jadd ex41 tx39 rfl (by omega) (by omega)).trans (by omega)
               exact by
                refine lv_aload_n hx hb dX12_text_67 rfl (lv_at hl 3 rfl) ?_
                refine va_get (D := D) hx hb hts inlX12 hown hK hP 55 (jc_55 cI cL ad σ27 τ) rfl 14 (of_decide_eq_true rfl) (hts _ kw_7_9) (fun _ h9 => h9) rfl dX12_text_68 ?_
                refine lv_iload hx hb dX12_text_71 (lv_at hl 0 rfl) ?_
                refine jald hx hb hK hP (jc_63 cI cL ad σ27 τ) (jin rfl (by omega) (by omega)) dX12_text_73 ?_
                refine lv_topi (fun x42 ex42 => ?_)
                refine jast hx hb hK hP hJ hA hS (jc_64 cI cL ad σ27 τ) (ja_64 cI cL ad σ27 τ _ _) (jin tx41 (by omega) (by omega)) dX12_text_74 (fun σ43 H locs eσ43 hP hS => ?_)
                obtain ⟨x44, ex44⟩ : ∃ y : Int32, y = x26 + 1 := ⟨_, rfl⟩
                have tx44 : x44.toInt = x26.toInt + 1 := (jadd ex44 rfl jz_1 (by omega) (by omega)).trans (by omega)
                refine lv_iinc (v := x44) (lv' := [(4, .int x44), (3, .int (σ 55 15)), (2, .int r10), (0, .ref (ad 55)), (1, .int a1)]) hx hb dX12_text_75 hl (k := 0) rfl (by rw [ex44]; rfl) (of_decide_eq_true rfl) rfl (fun ls hl => ?_)
                exact by
                 refine lv_goto (tgt := 50) hx hb dX12_text_78 (of_decide_eq_true rfl) ?_
                 exact by exact ihlp24 x44 σ43 _ _ ls (by have h90 := tx44; omega) (by have h90 := tx44; omega) (by have h90 := tx44; omega) (by have h90 := tx44; omega) (fun i hi => ((jnp i eσ43 (imp_187 i hi)).trans (f33 i hi)))    hP hS (lv_sub hl [0, 1, 2, 3, 4] rfl)
       exact by exact lp24 1000000 0 σ21 _ _ ls (by have h90 := jz_0; omega) (by have h90 := jz_0; omega) (by have h90 := jz_0; omega) (by have h90 := jz_0; omega) (fun _ _ => rfl)   hP hS hl
     · have kc23 := jnlt c23 rfl jz_0
       refine lv_bipush (v := (-100)) hx hb dX12_text_39 (of_decide_eq_true rfl) ?_
       refine lv_aload_n hx hb dX12_text_41 rfl (lv_at hl 2 rfl) ?_
       refine va_get (D := D) hx hb hts inlX12 hown hK hP 55 (jc_55 cI cL ad σ21 τ) rfl 21 (of_decide_eq_true rfl) (hts _ kw_15_13) (fun _ h9 => h9) rfl dX12_text_42 ?_
       refine jtopr m22 ?_
       have g45 := jrg (rfl : (σ9 55 21).toInt = (σ9 55 21).toInt)
       refine lv_isub hx hb dX12_text_45 ?_
       refine lv_topi (fun x46 ex46 => ?_)
       have gx46 := jrg (rfl : x46.toInt = x46.toInt)
       have z47 : (σ21 55 15).toInt = 0 := ((congrArg Int32.toInt (show σ21 55 15 = 0 from (jsp eσ21))).trans jz_0)
       have w48 : ∀ k : Nat, k < 2 → (-1) ≤ (σ21 65 k).toInt ∧ (σ21 65 k).toInt ≤ 80 := (jrr_fr (jnp 65 eσ21 (of_decide_eq_true rfl)) (jrr_fr (f11 65 (of_decide_eq_true rfl)) w2))
       exact by
        have I49 : jI105 σ21 := ⟨(by omega), w48⟩
        exact hret x46 σ21 τ _ _ _ _ rfl ⟨rfl, (fun i hi => ((jnp i eσ21 (imp_183 i hi)).trans (f11 i (imp_184 i hi)))), (fun i hi => ((jkp i eσ21 (imp_185 i hi)).trans (f12 i (imp_186 i hi)))), I49, (by omega), trivial⟩ hP hS dX12_text_46
  · obtain ⟨q51, k50⟩ := h6
    have q51 := q51.symm
    subst q51
    refine lv_if_ne (tgt := 12) hx hb dX12_text_7 (of_decide_eq_true rfl) (fun c => absurd (of_decide_eq_true rfl) c) (fun _ => ?_)
    refine lv_iconst (v := (-1)) hx hb dX12_text_10 (of_decide_eq_true rfl) ?_
    exact hret (-1) σ τ _ _ _ _ rfl ⟨rfl, (fun _ _ => rfl), (fun _ _ => rfl), hI105, (by omega), trivial⟩ hP hS dX12_text_11
