set_option maxHeartbeats 4000000 in
set_option maxRecDepth 100000 in
theorem c_X12_numberRead (l : Launch) (D : va_G) (cI cL : ClassId) (ad zz : Nat → Nat) (hJ : jD ad) (σ : Nat → Nat → Int32) (τ : Nat → Nat → Int64) (a1 : Int32) (A1 : Int) (t1 : a1.toInt = A1) (a2 : Int32) (A2 : Int) (t2 : a2.toInt = A2) (a3 : Int32) (A3 : Int) (t3 : a3.toInt = A3) (hI121 : jI121 σ) (hp0 : 2 ≤ A1 ∧ A1 ≤ 3) (hp1 : 0 ≤ A2 ∧ A2 ≤ 1) (hp2 : 12 ≤ A3 ∧ A3 ≤ 999) : jM l yX12_numberRead cX12_numberRead 6 (some .int) ({ frames := 1, cells := 0, slots := 0, locals := 25 }) D cI cL ad zz [.ref (ad 55), .int a1, .int a2, .int a3] σ τ (fun r σ' τ' => τ = τ' ∧ (∀ i : Nat, (i < 55 ∨ 55 < i) → σ' i = σ i) ∧ (∀ k : Nat, (k < 19 ∨ 19 < k) ∧ (k < 21 ∨ 21 < k) → σ' 55 k = σ 55 k) ∧ (jI121 σ') ∧ ((True ∧ (((σ' 55 21).toInt = (-1) ∧ A2 ≤ r.toInt ∧ r.toInt ≤ A3) ∨ (0 ≤ (σ' 55 21).toInt))))) := by
  refine jM.of hJ (by decide +kernel) (nt := .int) rfl (Nat.le_of_ble_eq_true rfl) ?_
  intro p e s m args below meth c Q ls hC hret hl hP
  obtain ⟨hx, hb, hr, hml, hown, hts, hK, -, hlocks, hZ⟩ := hC
  have hown : s.vm.findClass RX12 = some m.cls := hown
  have hS : va_S (jA ad) s.heap s.heap [] := va_S.rf
  have hA : ∀ q, jA ad q → jA ad q := fun _ h => h
  have hl : lv_has ls 6 [(0, .ref (ad 55)), (1, .int a1), (2, .int a2), (3, .int a3)] := hl
  have g1 := jrg t1
  have g2 := jrg t2
  have g3 := jrg t3
  obtain ⟨i1, i2, i3, i4, i5⟩ : ((-1) ≤ (σ 55 18).toInt ∧ (σ 55 18).toInt ≤ 80) ∧ (0 ≤ (σ 55 19).toInt) ∧ ((σ 55 19).toInt ≤ (σ 55 20).toInt) ∧ ((σ 55 20).toInt ≤ 80) ∧ ((-1) ≤ (σ 55 21).toInt) := id hI121
  refine lv_aload_n hx hb dX12_numberRead_0 rfl (lv_at hl 0 rfl) ?_
  refine va_get (D := D) hx hb hts inlX12 hown hK hP 55 (jc_55 cI cL ad σ τ) rfl 19 (by decide) (hts _ kw_15_11) (fun _ h9 => h9) rfl dX12_numberRead_1 ?_
  refine lv_istore (lv' := [(4, .int (σ 55 19)), (0, .ref (ad 55)), (1, .int a1), (2, .int a2), (3, .int a3)]) hx hb dX12_numberRead_4 hl (by decide) rfl (fun ls hl => ?_)
  refine lv_iconst (v := 0) hx hb dX12_numberRead_6 (by decide) ?_
  refine lv_istore (lv' := [(5, .int 0), (4, .int (σ 55 19)), (0, .ref (ad 55)), (1, .int a1), (2, .int a2), (3, .int a3)]) hx hb dX12_numberRead_7 hl (by decide) rfl (fun ls hl => ?_)
  have lp6 : ∀ (n7 : Nat) (x8 : Int32) (σ9 : Nat → Nat → Int32) (H : Heap) (locs : List Loc) (ls : Array Slot), ((σ9 55 20).toInt - (σ9 55 19).toInt : Int) < n7 → (-1) ≤ (σ9 55 18).toInt ∧ (σ9 55 18).toInt ≤ 80 → 0 ≤ (σ9 55 19).toInt → (σ9 55 19).toInt ≤ (σ9 55 20).toInt → (σ9 55 20).toInt ≤ 80 → (-1) ≤ (σ9 55 21).toInt → (σ 55 19).toInt ≤ (σ9 55 19).toInt → (∀ i : Nat, (i < 55 ∨ 55 < i) → σ9 i = σ i) → (∀ k : Nat, (k < 19 ∨ 19 < k) → σ9 55 k = σ 55 k) → jH D cI cL ad σ9 τ H → va_S (jA ad) s.heap H locs → lv_has ls 6 [(5, .int x8), (4, .int (σ 55 19)), (0, .ref (ad 55)), (1, .int a1), (2, .int a2), (3, .int a3)] → W p l e ({ frames := 1, cells := 0, slots := 0, locals := 25 }) s m args below meth c H locs 0 0 Q (F0 m 9 ls []) := by
    intro n7
    induction n7 with
    | zero => intro x8 σ9 H locs ls h10 h11 h12 h13 h14 h15 h16; have gx8 := jrg (rfl : x8.toInt = x8.toInt); exact absurd h10 (by omega)
    | succ n7 ihlp6 =>
      intro x8 σ9 H locs ls h10 h11 h12 h13 h14 h15 h16 f17 f18 hP hS hl
      have gx8 := jrg (rfl : x8.toInt = x8.toInt)
      have z19 : (σ9 55 20).toInt = (σ 55 20).toInt := (congrArg Int32.toInt (show σ9 55 20 = (σ 55 20) from (f18 20 (by decide))))
      have z20 : (σ9 55 18).toInt = (σ 55 18).toInt := (congrArg Int32.toInt (show σ9 55 18 = (σ 55 18) from (f18 18 (by decide))))
      have z21 : (σ9 55 21).toInt = (σ 55 21).toInt := (congrArg Int32.toInt (show σ9 55 21 = (σ 55 21) from (f18 21 (by decide))))
      refine lv_aload_n hx hb dX12_numberRead_9 rfl (lv_at hl 2 rfl) ?_
      refine va_get (D := D) hx hb hts inlX12 hown hK hP 55 (jc_55 cI cL ad σ9 τ) rfl 21 (by decide) (hts _ kw_15_13) (fun _ h9 => h9) rfl dX12_numberRead_10 ?_
      have m22 : σ9 55 21 = (σ 55 21) := (f18 21 (by decide))
      refine jtopr m22 ?_
      refine lv_if_ge (tgt := 73) hx hb dX12_numberRead_13 (by decide) (fun c23 => ?_) (fun c23 => ?_)
      · have kc23 := jle c23 jz_0 rfl
        refine lv_aload_n hx hb dX12_numberRead_73 rfl (lv_at hl 2 rfl) ?_
        refine va_get (D := D) hx hb hts inlX12 hown hK hP 55 (jc_55 cI cL ad σ9 τ) rfl 21 (by decide) (hts _ kw_15_13) (fun _ h9 => h9) rfl dX12_numberRead_74 ?_
        refine jtopr m22 ?_
        refine lv_if_ge (tgt := 113) hx hb dX12_numberRead_77 (by decide) (fun c24 => ?_) (fun c => absurd (jnle c jz_0 rfl) (by omega))
        have kc24 := jle c24 jz_0 rfl
        refine lv_aload_n hx hb dX12_numberRead_113 rfl (lv_at hl 2 rfl) ?_
        refine va_get (D := D) hx hb hts inlX12 hown hK hP 55 (jc_55 cI cL ad σ9 τ) rfl 19 (by decide) (hts _ kw_15_11) (fun _ h9 => h9) rfl dX12_numberRead_114 ?_
        refine lv_iload hx hb dX12_numberRead_117 (lv_at hl 1 rfl) ?_
        refine lv_icmp_ne (tgt := 129) hx hb dX12_numberRead_119 (by decide) (fun c25 => ?_) (fun c25 => ?_)
        · have kc25 := jne c25 rfl rfl
          refine lv_iload hx hb dX12_numberRead_129 (lv_at hl 0 rfl) ?_
          have I26 : jI121 σ9 := ⟨(by omega), (by omega), (by omega), (by omega), (by omega)⟩
          exact hret x8 σ9 τ _ _ _ _ rfl ⟨rfl, (fun i hi => (f17 i hi)), (fun i hi => (f18 i (imp_218 i hi))), I26, ⟨trivial, (by omega)⟩⟩ hP hS dX12_numberRead_131
        · have kc25 := jeq c25 rfl rfl
          refine lv_aload_n hx hb dX12_numberRead_122 rfl (lv_at hl 2 rfl) ?_
          have I27 : jI121 σ9 := ⟨(by omega), (by omega), (by omega), (by omega), (by omega)⟩
          refine jcallV (As := []) (rest := []) ⟨hx, hb, hml, hown, hts⟩ hK hP hA hS hZ (c_X12_wrong l D cI cL ad zz hJ σ9 τ I27) cw_RX12_214 (jc_55 cI cL ad σ9 τ) rfl ⟨Nat.le_of_ble_eq_true rfl, Nat.le_of_ble_eq_true rfl⟩ rfl rfl rfl hl.1 rfl (Nat.le_of_ble_eq_true rfl) dX12_numberRead_123 ⟨Nat.zero_le _, Nat.zero_le _⟩ (fun r29 σ28 τ28 H locs h28 hP hS => ?_)
          obtain ⟨rfl, f30, f31, I32, h28⟩ := h28
          obtain ⟨i33, i34, i35, i36, i37⟩ : ((-1) ≤ (σ28 55 18).toInt ∧ (σ28 55 18).toInt ≤ 80) ∧ (0 ≤ (σ28 55 19).toInt) ∧ ((σ28 55 19).toInt ≤ (σ28 55 20).toInt) ∧ ((σ28 55 20).toInt ≤ 80) ∧ ((-1) ≤ (σ28 55 21).toInt) := id I32
          have z38 : (σ28 55 18).toInt = (σ 55 18).toInt := (congrArg Int32.toInt (show σ28 55 18 = (σ 55 18) from ((f31 18 (by decide)).trans (f18 18 (by decide)))))
          have z39 : (σ28 55 19).toInt = (σ9 55 19).toInt := (congrArg Int32.toInt (show σ28 55 19 = (σ9 55 19) from (f31 19 (by decide))))
          have z40 : (σ28 55 20).toInt = (σ 55 20).toInt := (congrArg Int32.toInt (show σ28 55 20 = (σ 55 20) from ((f31 20 (by decide)).trans (f18 20 (by decide)))))
          obtain ⟨k41, h28⟩ := h28
          have h42 := h28
          obtain ⟨q44, k43⟩ := h42
          have q44 := q44.symm
          subst q44
          refine lv_goto (tgt := 131) hx hb dX12_numberRead_126 (by decide) ?_
          exact hret 0 σ28 τ _ _ _ _ rfl ⟨rfl, (fun i hi => ((f30 i hi).trans (f17 i hi))), (fun i hi => ((f31 i (imp_219 i hi)).trans (f18 i (imp_218 i hi)))), I32, ⟨trivial, (by have h9 := jz_0; omega)⟩⟩ hP hS dX12_numberRead_131
      · have kc23 := jnle c23 jz_0 rfl
        refine lv_aload_n hx hb dX12_numberRead_16 rfl (lv_at hl 2 rfl) ?_
        refine va_get (D := D) hx hb hts inlX12 hown hK hP 55 (jc_55 cI cL ad σ9 τ) rfl 19 (by decide) (hts _ kw_15_11) (fun _ h9 => h9) rfl dX12_numberRead_17 ?_
        refine lv_iload hx hb dX12_numberRead_20 (lv_at hl 1 rfl) ?_
        refine lv_iload_n hx hb dX12_numberRead_22 rfl (lv_at hl 3 rfl) ?_
        have g45 := jrg (rfl : (σ 55 19).toInt = (σ 55 19).toInt)
        refine lv_iadd hx hb dX12_numberRead_23 ?_
        refine lv_topi (fun x46 ex46 => ?_)
        have tx46 : x46.toInt = (σ 55 19).toInt + A1 := (jadd ex46 rfl t1 (by omega) (by omega)).trans (by omega)
        refine lv_icmp_ge (tgt := 73) hx hb dX12_numberRead_24 (by decide) (fun c47 => ?_) (fun c47 => ?_)
        · have kc47 := jle c47 tx46 rfl
          refine lv_aload_n hx hb dX12_numberRead_73 rfl (lv_at hl 2 rfl) ?_
          refine va_get (D := D) hx hb hts inlX12 hown hK hP 55 (jc_55 cI cL ad σ9 τ) rfl 21 (by decide) (hts _ kw_15_13) (fun _ h9 => h9) rfl dX12_numberRead_74 ?_
          refine jtopr m22 ?_
          refine lv_if_ge (tgt := 113) hx hb dX12_numberRead_77 (by decide) (fun c => absurd (jle c jz_0 rfl) (by omega)) (fun c48 => ?_)
          have kc48 := jnle c48 jz_0 rfl
          refine lv_aload_n hx hb dX12_numberRead_80 rfl (lv_at hl 2 rfl) ?_
          refine va_get (D := D) hx hb hts inlX12 hown hK hP 55 (jc_55 cI cL ad σ9 τ) rfl 19 (by decide) (hts _ kw_15_11) (fun _ h9 => h9) rfl dX12_numberRead_81 ?_
          refine lv_iload hx hb dX12_numberRead_84 (lv_at hl 1 rfl) ?_
          refine lv_icmp_le (tgt := 113) hx hb dX12_numberRead_86 (by decide) (fun c => absurd (jle c rfl rfl) (by omega)) (fun c49 => ?_)
          have kc49 := jnle c49 rfl rfl
          refine lv_iload hx hb dX12_numberRead_89 (lv_at hl 0 rfl) ?_
          refine lv_i2l (v := x8.toInt64) hx hb dX12_numberRead_91 rfl ?_
          refine lv_iload_n hx hb dX12_numberRead_92 rfl (lv_at hl 4 rfl) ?_
          refine lv_i2l (v := a2.toInt64) hx hb dX12_numberRead_93 rfl ?_
          refine lv_iload_n hx hb dX12_numberRead_94 rfl (lv_at hl 5 rfl) ?_
          refine lv_i2l (v := a3.toInt64) hx hb dX12_numberRead_95 rfl ?_
          refine jcallS (As := [.long x8.toInt64, .long a2.toInt64, .long a3.toInt64]) (rest := []) ⟨hx, hb, hml, hown, hts⟩ hK hP hA hS hZ (c_X12_within l D cI cL ad zz hJ σ9 τ x8.toInt64 (x8.toInt) (jtoL rfl) a2.toInt64 (A2) (jtoL t2) a3.toInt64 (A3) (jtoL t3)) cw_RX12_136 ⟨Nat.le_of_ble_eq_true rfl, Nat.le_of_ble_eq_true rfl⟩ rfl rfl rfl hl.1 rfl (Nat.le_of_ble_eq_true rfl) dX12_numberRead_96 ⟨Nat.zero_le _, Nat.zero_le _⟩ (fun r51 σ50 τ50 H locs h50 hP hS => ?_)
          obtain ⟨⟨rfl, rfl⟩, h50⟩ := h50
          rcases h50 with h52 | h53
          · obtain ⟨q55, k54⟩ := h52
            have q55 := q55.symm
            subst q55
            refine lv_if_ne (tgt := 113) hx hb dX12_numberRead_99 (by decide) (fun _ => ?_) (fun c => absurd c (by decide))
            refine lv_aload_n hx hb dX12_numberRead_113 rfl (lv_at hl 2 rfl) ?_
            refine va_get (D := D) hx hb hts inlX12 hown hK hP 55 (jc_55 cI cL ad σ9 τ) rfl 19 (by decide) (hts _ kw_15_11) (fun _ h9 => h9) rfl dX12_numberRead_114 ?_
            refine lv_iload hx hb dX12_numberRead_117 (lv_at hl 1 rfl) ?_
            refine lv_icmp_ne (tgt := 129) hx hb dX12_numberRead_119 (by decide) (fun c56 => ?_) (fun c => absurd (jeq c rfl rfl) (by omega))
            have kc56 := jne c56 rfl rfl
            refine lv_iload hx hb dX12_numberRead_129 (lv_at hl 0 rfl) ?_
            have I57 : jI121 σ9 := ⟨(by omega), (by omega), (by omega), (by omega), (by omega)⟩
            exact hret x8 σ9 τ _ _ _ _ rfl ⟨rfl, (fun i hi => (f17 i hi)), (fun i hi => (f18 i (imp_218 i hi))), I57, ⟨trivial, (by omega)⟩⟩ hP hS dX12_numberRead_131
          · obtain ⟨q59, k58⟩ := h53
            have q59 := q59.symm
            subst q59
            refine lv_if_ne (tgt := 113) hx hb dX12_numberRead_99 (by decide) (fun c => absurd (by decide) c) (fun _ => ?_)
            refine lv_aload_n hx hb dX12_numberRead_102 rfl (lv_at hl 2 rfl) ?_
            refine lv_iload hx hb dX12_numberRead_103 (lv_at hl 1 rfl) ?_
            refine jput (ty := .int) hx hb hts inlX12 tyX12 tyX12_ok nmX12 hown hK hP hJ hA hS (jc_55 cI cL ad σ9 τ) rfl (k := 19) (by decide) (Nat.le_of_ble_eq_true rfl) (jp_55_19 cI cL ad σ9 τ (σ 55 19)) (hts _ kw_15_11) (fun _ h9 => h9) rfl (by decide +kernel) rfl rfl dX12_numberRead_105 (fun σ60 H locs eσ60 hP hS => ?_)
            refine lv_aload_n hx hb dX12_numberRead_108 rfl (lv_at hl 2 rfl) ?_
            have z61 : (σ60 55 18).toInt = (σ 55 18).toInt := (congrArg Int32.toInt (show σ60 55 18 = (σ 55 18) from ((jkp 18 eσ60 (by decide)).trans (f18 18 (by decide)))))
            have z62 : (σ60 55 19).toInt = (σ 55 19).toInt := (congrArg Int32.toInt (show σ60 55 19 = (σ 55 19) from (jsp eσ60)))
            have z63 : (σ60 55 20).toInt = (σ 55 20).toInt := (congrArg Int32.toInt (show σ60 55 20 = (σ 55 20) from ((jkp 20 eσ60 (by decide)).trans (f18 20 (by decide)))))
            have z64 : (σ60 55 21).toInt = (σ 55 21).toInt := (congrArg Int32.toInt (show σ60 55 21 = (σ 55 21) from ((jkp 21 eσ60 (by decide)).trans m22)))
            have I65 : jI121 σ60 := ⟨(by omega), (by omega), (by omega), (by omega), (by omega)⟩
            refine jcallV (As := []) (rest := []) ⟨hx, hb, hml, hown, hts⟩ hK hP hA hS hZ (c_X12_wrong l D cI cL ad zz hJ σ60 τ I65) cw_RX12_214 (jc_55 cI cL ad σ60 τ) rfl ⟨Nat.le_of_ble_eq_true rfl, Nat.le_of_ble_eq_true rfl⟩ rfl rfl rfl hl.1 rfl (Nat.le_of_ble_eq_true rfl) dX12_numberRead_109 ⟨Nat.zero_le _, Nat.zero_le _⟩ (fun r67 σ66 τ66 H locs h66 hP hS => ?_)
            obtain ⟨rfl, f68, f69, I70, h66⟩ := h66
            obtain ⟨i71, i72, i73, i74, i75⟩ : ((-1) ≤ (σ66 55 18).toInt ∧ (σ66 55 18).toInt ≤ 80) ∧ (0 ≤ (σ66 55 19).toInt) ∧ ((σ66 55 19).toInt ≤ (σ66 55 20).toInt) ∧ ((σ66 55 20).toInt ≤ 80) ∧ ((-1) ≤ (σ66 55 21).toInt) := id I70
            have z76 : (σ66 55 18).toInt = (σ 55 18).toInt := (congrArg Int32.toInt (show σ66 55 18 = (σ 55 18) from ((f69 18 (by decide)).trans ((jkp 18 eσ60 (by decide)).trans (f18 18 (by decide))))))
            have z77 : (σ66 55 19).toInt = (σ 55 19).toInt := (congrArg Int32.toInt (show σ66 55 19 = (σ 55 19) from ((f69 19 (by decide)).trans (jsp eσ60))))
            have z78 : (σ66 55 20).toInt = (σ 55 20).toInt := (congrArg Int32.toInt (show σ66 55 20 = (σ 55 20) from ((f69 20 (by decide)).trans ((jkp 20 eσ60 (by decide)).trans (f18 20 (by decide))))))
            obtain ⟨k79, h66⟩ := h66
            have h80 := h66
            obtain ⟨q82, k81⟩ := h80
            have q82 := q82.symm
            subst q82
            exact hret 0 σ66 τ _ _ _ _ rfl ⟨rfl, (fun i hi => ((f68 i hi).trans ((jnp i eσ60 (imp_164 i hi)).trans (f17 i hi)))), (fun i hi => ((f69 i (imp_219 i hi)).trans ((jkp i eσ60 (imp_220 i hi)).trans (f18 i (imp_218 i hi))))), I70, ⟨trivial, (by have h9 := jz_0; omega)⟩⟩ hP hS dX12_numberRead_112
        · have kc47 := jnle c47 tx46 rfl
          refine lv_aload_n hx hb dX12_numberRead_27 rfl (lv_at hl 2 rfl) ?_
          have I83 : jI121 σ9 := ⟨(by omega), (by omega), (by omega), (by omega), (by omega)⟩
          refine jcallV (As := []) (rest := []) ⟨hx, hb, hml, hown, hts⟩ hK hP hA hS hZ (c_X12_byteAt l D cI cL ad zz hJ σ9 τ I83) cw_RX12_189 (jc_55 cI cL ad σ9 τ) rfl ⟨Nat.le_of_ble_eq_true rfl, Nat.le_of_ble_eq_true rfl⟩ rfl rfl rfl hl.1 rfl (Nat.le_of_ble_eq_true rfl) dX12_numberRead_28 ⟨Nat.zero_le _, Nat.zero_le _⟩ (fun r85 σ84 τ84 H locs h84 hP hS => ?_)
          obtain ⟨⟨rfl, rfl⟩, h84⟩ := h84
          have h86 := h84
          obtain ⟨q88, k87⟩ := h86
          refine lv_bipush (v := 48) hx hb dX12_numberRead_31 (by decide) ?_
          refine lv_icmp_lt (tgt := 73) hx hb dX12_numberRead_33 (by decide) (fun c89 => ?_) (fun c89 => ?_)
          · have kc89 := jlt c89 rfl jz_48
            refine lv_aload_n hx hb dX12_numberRead_73 rfl (lv_at hl 2 rfl) ?_
            refine va_get (D := D) hx hb hts inlX12 hown hK hP 55 (jc_55 cI cL ad σ9 τ) rfl 21 (by decide) (hts _ kw_15_13) (fun _ h9 => h9) rfl dX12_numberRead_74 ?_
            refine jtopr m22 ?_
            refine lv_if_ge (tgt := 113) hx hb dX12_numberRead_77 (by decide) (fun c => absurd (jle c jz_0 rfl) (by omega)) (fun c90 => ?_)
            have kc90 := jnle c90 jz_0 rfl
            refine lv_aload_n hx hb dX12_numberRead_80 rfl (lv_at hl 2 rfl) ?_
            refine va_get (D := D) hx hb hts inlX12 hown hK hP 55 (jc_55 cI cL ad σ9 τ) rfl 19 (by decide) (hts _ kw_15_11) (fun _ h9 => h9) rfl dX12_numberRead_81 ?_
            refine lv_iload hx hb dX12_numberRead_84 (lv_at hl 1 rfl) ?_
            refine lv_icmp_le (tgt := 113) hx hb dX12_numberRead_86 (by decide) (fun c91 => ?_) (fun c91 => ?_)
            · have kc91 := jle c91 rfl rfl
              refine lv_aload_n hx hb dX12_numberRead_113 rfl (lv_at hl 2 rfl) ?_
              refine va_get (D := D) hx hb hts inlX12 hown hK hP 55 (jc_55 cI cL ad σ9 τ) rfl 19 (by decide) (hts _ kw_15_11) (fun _ h9 => h9) rfl dX12_numberRead_114 ?_
              refine lv_iload hx hb dX12_numberRead_117 (lv_at hl 1 rfl) ?_
              refine lv_icmp_ne (tgt := 129) hx hb dX12_numberRead_119 (by decide) (fun c92 => ?_) (fun c92 => ?_)
              · have kc92 := jne c92 rfl rfl
                refine lv_iload hx hb dX12_numberRead_129 (lv_at hl 0 rfl) ?_
                exact hret x8 σ9 τ _ _ _ _ rfl ⟨rfl, (fun i hi => (f17 i hi)), (fun i hi => (f18 i (imp_218 i hi))), I83, ⟨trivial, (by omega)⟩⟩ hP hS dX12_numberRead_131
              · have kc92 := jeq c92 rfl rfl
                refine lv_aload_n hx hb dX12_numberRead_122 rfl (lv_at hl 2 rfl) ?_
                refine jcallV (As := []) (rest := []) ⟨hx, hb, hml, hown, hts⟩ hK hP hA hS hZ (c_X12_wrong l D cI cL ad zz hJ σ9 τ I83) cw_RX12_214 (jc_55 cI cL ad σ9 τ) rfl ⟨Nat.le_of_ble_eq_true rfl, Nat.le_of_ble_eq_true rfl⟩ rfl rfl rfl hl.1 rfl (Nat.le_of_ble_eq_true rfl) dX12_numberRead_123 ⟨Nat.zero_le _, Nat.zero_le _⟩ (fun r94 σ93 τ93 H locs h93 hP hS => ?_)
                obtain ⟨rfl, f95, f96, I97, h93⟩ := h93
                obtain ⟨i98, i99, i100, i101, i102⟩ : ((-1) ≤ (σ93 55 18).toInt ∧ (σ93 55 18).toInt ≤ 80) ∧ (0 ≤ (σ93 55 19).toInt) ∧ ((σ93 55 19).toInt ≤ (σ93 55 20).toInt) ∧ ((σ93 55 20).toInt ≤ 80) ∧ ((-1) ≤ (σ93 55 21).toInt) := id I97
                have z103 : (σ93 55 18).toInt = (σ 55 18).toInt := (congrArg Int32.toInt (show σ93 55 18 = (σ 55 18) from ((f96 18 (by decide)).trans (f18 18 (by decide)))))
                have z104 : (σ93 55 19).toInt = (σ9 55 19).toInt := (congrArg Int32.toInt (show σ93 55 19 = (σ9 55 19) from (f96 19 (by decide))))
                have z105 : (σ93 55 20).toInt = (σ 55 20).toInt := (congrArg Int32.toInt (show σ93 55 20 = (σ 55 20) from ((f96 20 (by decide)).trans (f18 20 (by decide)))))
                obtain ⟨k106, h93⟩ := h93
                have h107 := h93
                obtain ⟨q109, k108⟩ := h107
                have q109 := q109.symm
                subst q109
                refine lv_goto (tgt := 131) hx hb dX12_numberRead_126 (by decide) ?_
                exact hret 0 σ93 τ _ _ _ _ rfl ⟨rfl, (fun i hi => ((f95 i hi).trans (f17 i hi))), (fun i hi => ((f96 i (imp_219 i hi)).trans (f18 i (imp_218 i hi)))), I97, ⟨trivial, (by have h9 := jz_0; omega)⟩⟩ hP hS dX12_numberRead_131
            · have kc91 := jnle c91 rfl rfl
              refine lv_iload hx hb dX12_numberRead_89 (lv_at hl 0 rfl) ?_
              refine lv_i2l (v := x8.toInt64) hx hb dX12_numberRead_91 rfl ?_
              refine lv_iload_n hx hb dX12_numberRead_92 rfl (lv_at hl 4 rfl) ?_
              refine lv_i2l (v := a2.toInt64) hx hb dX12_numberRead_93 rfl ?_
              refine lv_iload_n hx hb dX12_numberRead_94 rfl (lv_at hl 5 rfl) ?_
              refine lv_i2l (v := a3.toInt64) hx hb dX12_numberRead_95 rfl ?_
              refine jcallS (As := [.long x8.toInt64, .long a2.toInt64, .long a3.toInt64]) (rest := []) ⟨hx, hb, hml, hown, hts⟩ hK hP hA hS hZ (c_X12_within l D cI cL ad zz hJ σ9 τ x8.toInt64 (x8.toInt) (jtoL rfl) a2.toInt64 (A2) (jtoL t2) a3.toInt64 (A3) (jtoL t3)) cw_RX12_136 ⟨Nat.le_of_ble_eq_true rfl, Nat.le_of_ble_eq_true rfl⟩ rfl rfl rfl hl.1 rfl (Nat.le_of_ble_eq_true rfl) dX12_numberRead_96 ⟨Nat.zero_le _, Nat.zero_le _⟩ (fun r111 σ110 τ110 H locs h110 hP hS => ?_)
              obtain ⟨⟨rfl, rfl⟩, h110⟩ := h110
              rcases h110 with h112 | h113
              · obtain ⟨q115, k114⟩ := h112
                have q115 := q115.symm
                subst q115
                refine lv_if_ne (tgt := 113) hx hb dX12_numberRead_99 (by decide) (fun _ => ?_) (fun c => absurd c (by decide))
                refine lv_aload_n hx hb dX12_numberRead_113 rfl (lv_at hl 2 rfl) ?_
                refine va_get (D := D) hx hb hts inlX12 hown hK hP 55 (jc_55 cI cL ad σ9 τ) rfl 19 (by decide) (hts _ kw_15_11) (fun _ h9 => h9) rfl dX12_numberRead_114 ?_
                refine lv_iload hx hb dX12_numberRead_117 (lv_at hl 1 rfl) ?_
                refine lv_icmp_ne (tgt := 129) hx hb dX12_numberRead_119 (by decide) (fun c116 => ?_) (fun c => absurd (jeq c rfl rfl) (by omega))
                have kc116 := jne c116 rfl rfl
                refine lv_iload hx hb dX12_numberRead_129 (lv_at hl 0 rfl) ?_
                exact hret x8 σ9 τ _ _ _ _ rfl ⟨rfl, (fun i hi => (f17 i hi)), (fun i hi => (f18 i (imp_218 i hi))), I83, ⟨trivial, (by omega)⟩⟩ hP hS dX12_numberRead_131
              · obtain ⟨q118, k117⟩ := h113
                have q118 := q118.symm
                subst q118
                refine lv_if_ne (tgt := 113) hx hb dX12_numberRead_99 (by decide) (fun c => absurd (by decide) c) (fun _ => ?_)
                refine lv_aload_n hx hb dX12_numberRead_102 rfl (lv_at hl 2 rfl) ?_
                refine lv_iload hx hb dX12_numberRead_103 (lv_at hl 1 rfl) ?_
                refine jput (ty := .int) hx hb hts inlX12 tyX12 tyX12_ok nmX12 hown hK hP hJ hA hS (jc_55 cI cL ad σ9 τ) rfl (k := 19) (by decide) (Nat.le_of_ble_eq_true rfl) (jp_55_19 cI cL ad σ9 τ (σ 55 19)) (hts _ kw_15_11) (fun _ h9 => h9) rfl (by decide +kernel) rfl rfl dX12_numberRead_105 (fun σ119 H locs eσ119 hP hS => ?_)
                refine lv_aload_n hx hb dX12_numberRead_108 rfl (lv_at hl 2 rfl) ?_
                have z120 : (σ119 55 18).toInt = (σ 55 18).toInt := (congrArg Int32.toInt (show σ119 55 18 = (σ 55 18) from ((jkp 18 eσ119 (by decide)).trans (f18 18 (by decide)))))
                have z121 : (σ119 55 19).toInt = (σ 55 19).toInt := (congrArg Int32.toInt (show σ119 55 19 = (σ 55 19) from (jsp eσ119)))
                have z122 : (σ119 55 20).toInt = (σ 55 20).toInt := (congrArg Int32.toInt (show σ119 55 20 = (σ 55 20) from ((jkp 20 eσ119 (by decide)).trans (f18 20 (by decide)))))
                have z123 : (σ119 55 21).toInt = (σ 55 21).toInt := (congrArg Int32.toInt (show σ119 55 21 = (σ 55 21) from ((jkp 21 eσ119 (by decide)).trans m22)))
                have I124 : jI121 σ119 := ⟨(by omega), (by omega), (by omega), (by omega), (by omega)⟩
                refine jcallV (As := []) (rest := []) ⟨hx, hb, hml, hown, hts⟩ hK hP hA hS hZ (c_X12_wrong l D cI cL ad zz hJ σ119 τ I124) cw_RX12_214 (jc_55 cI cL ad σ119 τ) rfl ⟨Nat.le_of_ble_eq_true rfl, Nat.le_of_ble_eq_true rfl⟩ rfl rfl rfl hl.1 rfl (Nat.le_of_ble_eq_true rfl) dX12_numberRead_109 ⟨Nat.zero_le _, Nat.zero_le _⟩ (fun r126 σ125 τ125 H locs h125 hP hS => ?_)
                obtain ⟨rfl, f127, f128, I129, h125⟩ := h125
                obtain ⟨i130, i131, i132, i133, i134⟩ : ((-1) ≤ (σ125 55 18).toInt ∧ (σ125 55 18).toInt ≤ 80) ∧ (0 ≤ (σ125 55 19).toInt) ∧ ((σ125 55 19).toInt ≤ (σ125 55 20).toInt) ∧ ((σ125 55 20).toInt ≤ 80) ∧ ((-1) ≤ (σ125 55 21).toInt) := id I129
                have z135 : (σ125 55 18).toInt = (σ 55 18).toInt := (congrArg Int32.toInt (show σ125 55 18 = (σ 55 18) from ((f128 18 (by decide)).trans ((jkp 18 eσ119 (by decide)).trans (f18 18 (by decide))))))
                have z136 : (σ125 55 19).toInt = (σ 55 19).toInt := (congrArg Int32.toInt (show σ125 55 19 = (σ 55 19) from ((f128 19 (by decide)).trans (jsp eσ119))))
                have z137 : (σ125 55 20).toInt = (σ 55 20).toInt := (congrArg Int32.toInt (show σ125 55 20 = (σ 55 20) from ((f128 20 (by decide)).trans ((jkp 20 eσ119 (by decide)).trans (f18 20 (by decide))))))
                obtain ⟨k138, h125⟩ := h125
                have h139 := h125
                obtain ⟨q141, k140⟩ := h139
                have q141 := q141.symm
                subst q141
                exact hret 0 σ125 τ _ _ _ _ rfl ⟨rfl, (fun i hi => ((f127 i hi).trans ((jnp i eσ119 (imp_164 i hi)).trans (f17 i hi)))), (fun i hi => ((f128 i (imp_219 i hi)).trans ((jkp i eσ119 (imp_220 i hi)).trans (f18 i (imp_218 i hi))))), I129, ⟨trivial, (by have h9 := jz_0; omega)⟩⟩ hP hS dX12_numberRead_112
          · have kc89 := jnlt c89 rfl jz_48
            refine lv_aload_n hx hb dX12_numberRead_36 rfl (lv_at hl 2 rfl) ?_
            refine jcallV (As := []) (rest := []) ⟨hx, hb, hml, hown, hts⟩ hK hP hA hS hZ (c_X12_byteAt l D cI cL ad zz hJ σ9 τ I83) cw_RX12_189 (jc_55 cI cL ad σ9 τ) rfl ⟨Nat.le_of_ble_eq_true rfl, Nat.le_of_ble_eq_true rfl⟩ rfl rfl rfl hl.1 rfl (Nat.le_of_ble_eq_true rfl) dX12_numberRead_37 ⟨Nat.zero_le _, Nat.zero_le _⟩ (fun r143 σ142 τ142 H locs h142 hP hS => ?_)
            obtain ⟨⟨rfl, rfl⟩, h142⟩ := h142
            have h144 := h142
            obtain ⟨q146, k145⟩ := h144
            refine lv_bipush (v := 57) hx hb dX12_numberRead_40 (by decide) ?_
            refine lv_icmp_gt (tgt := 73) hx hb dX12_numberRead_42 (by decide) (fun c147 => ?_) (fun c147 => ?_)
            · have kc147 := jlt c147 jz_57 rfl
              refine lv_aload_n hx hb dX12_numberRead_73 rfl (lv_at hl 2 rfl) ?_
              refine va_get (D := D) hx hb hts inlX12 hown hK hP 55 (jc_55 cI cL ad σ9 τ) rfl 21 (by decide) (hts _ kw_15_13) (fun _ h9 => h9) rfl dX12_numberRead_74 ?_
              refine jtopr m22 ?_
              refine lv_if_ge (tgt := 113) hx hb dX12_numberRead_77 (by decide) (fun c => absurd (jle c jz_0 rfl) (by omega)) (fun c148 => ?_)
              have kc148 := jnle c148 jz_0 rfl
              refine lv_aload_n hx hb dX12_numberRead_80 rfl (lv_at hl 2 rfl) ?_
              refine va_get (D := D) hx hb hts inlX12 hown hK hP 55 (jc_55 cI cL ad σ9 τ) rfl 19 (by decide) (hts _ kw_15_11) (fun _ h9 => h9) rfl dX12_numberRead_81 ?_
              refine lv_iload hx hb dX12_numberRead_84 (lv_at hl 1 rfl) ?_
              refine lv_icmp_le (tgt := 113) hx hb dX12_numberRead_86 (by decide) (fun c149 => ?_) (fun c149 => ?_)
              · have kc149 := jle c149 rfl rfl
                refine lv_aload_n hx hb dX12_numberRead_113 rfl (lv_at hl 2 rfl) ?_
                refine va_get (D := D) hx hb hts inlX12 hown hK hP 55 (jc_55 cI cL ad σ9 τ) rfl 19 (by decide) (hts _ kw_15_11) (fun _ h9 => h9) rfl dX12_numberRead_114 ?_
                refine lv_iload hx hb dX12_numberRead_117 (lv_at hl 1 rfl) ?_
                refine lv_icmp_ne (tgt := 129) hx hb dX12_numberRead_119 (by decide) (fun c150 => ?_) (fun c150 => ?_)
                · have kc150 := jne c150 rfl rfl
                  refine lv_iload hx hb dX12_numberRead_129 (lv_at hl 0 rfl) ?_
                  exact hret x8 σ9 τ _ _ _ _ rfl ⟨rfl, (fun i hi => (f17 i hi)), (fun i hi => (f18 i (imp_218 i hi))), I83, ⟨trivial, (by omega)⟩⟩ hP hS dX12_numberRead_131
                · have kc150 := jeq c150 rfl rfl
                  refine lv_aload_n hx hb dX12_numberRead_122 rfl (lv_at hl 2 rfl) ?_
                  refine jcallV (As := []) (rest := []) ⟨hx, hb, hml, hown, hts⟩ hK hP hA hS hZ (c_X12_wrong l D cI cL ad zz hJ σ9 τ I83) cw_RX12_214 (jc_55 cI cL ad σ9 τ) rfl ⟨Nat.le_of_ble_eq_true rfl, Nat.le_of_ble_eq_true rfl⟩ rfl rfl rfl hl.1 rfl (Nat.le_of_ble_eq_true rfl) dX12_numberRead_123 ⟨Nat.zero_le _, Nat.zero_le _⟩ (fun r152 σ151 τ151 H locs h151 hP hS => ?_)
                  obtain ⟨rfl, f153, f154, I155, h151⟩ := h151
                  obtain ⟨i156, i157, i158, i159, i160⟩ : ((-1) ≤ (σ151 55 18).toInt ∧ (σ151 55 18).toInt ≤ 80) ∧ (0 ≤ (σ151 55 19).toInt) ∧ ((σ151 55 19).toInt ≤ (σ151 55 20).toInt) ∧ ((σ151 55 20).toInt ≤ 80) ∧ ((-1) ≤ (σ151 55 21).toInt) := id I155
                  have z161 : (σ151 55 18).toInt = (σ 55 18).toInt := (congrArg Int32.toInt (show σ151 55 18 = (σ 55 18) from ((f154 18 (by decide)).trans (f18 18 (by decide)))))
                  have z162 : (σ151 55 19).toInt = (σ9 55 19).toInt := (congrArg Int32.toInt (show σ151 55 19 = (σ9 55 19) from (f154 19 (by decide))))
                  have z163 : (σ151 55 20).toInt = (σ 55 20).toInt := (congrArg Int32.toInt (show σ151 55 20 = (σ 55 20) from ((f154 20 (by decide)).trans (f18 20 (by decide)))))
                  obtain ⟨k164, h151⟩ := h151
                  have h165 := h151
                  obtain ⟨q167, k166⟩ := h165
                  have q167 := q167.symm
                  subst q167
                  refine lv_goto (tgt := 131) hx hb dX12_numberRead_126 (by decide) ?_
                  exact hret 0 σ151 τ _ _ _ _ rfl ⟨rfl, (fun i hi => ((f153 i hi).trans (f17 i hi))), (fun i hi => ((f154 i (imp_219 i hi)).trans (f18 i (imp_218 i hi)))), I155, ⟨trivial, (by have h9 := jz_0; omega)⟩⟩ hP hS dX12_numberRead_131
              · have kc149 := jnle c149 rfl rfl
                refine lv_iload hx hb dX12_numberRead_89 (lv_at hl 0 rfl) ?_
                refine lv_i2l (v := x8.toInt64) hx hb dX12_numberRead_91 rfl ?_
                refine lv_iload_n hx hb dX12_numberRead_92 rfl (lv_at hl 4 rfl) ?_
                refine lv_i2l (v := a2.toInt64) hx hb dX12_numberRead_93 rfl ?_
                refine lv_iload_n hx hb dX12_numberRead_94 rfl (lv_at hl 5 rfl) ?_
                refine lv_i2l (v := a3.toInt64) hx hb dX12_numberRead_95 rfl ?_
                refine jcallS (As := [.long x8.toInt64, .long a2.toInt64, .long a3.toInt64]) (rest := []) ⟨hx, hb, hml, hown, hts⟩ hK hP hA hS hZ (c_X12_within l D cI cL ad zz hJ σ9 τ x8.toInt64 (x8.toInt) (jtoL rfl) a2.toInt64 (A2) (jtoL t2) a3.toInt64 (A3) (jtoL t3)) cw_RX12_136 ⟨Nat.le_of_ble_eq_true rfl, Nat.le_of_ble_eq_true rfl⟩ rfl rfl rfl hl.1 rfl (Nat.le_of_ble_eq_true rfl) dX12_numberRead_96 ⟨Nat.zero_le _, Nat.zero_le _⟩ (fun r169 σ168 τ168 H locs h168 hP hS => ?_)
                obtain ⟨⟨rfl, rfl⟩, h168⟩ := h168
                rcases h168 with h170 | h171
                · obtain ⟨q173, k172⟩ := h170
                  have q173 := q173.symm
                  subst q173
                  refine lv_if_ne (tgt := 113) hx hb dX12_numberRead_99 (by decide) (fun _ => ?_) (fun c => absurd c (by decide))
                  refine lv_aload_n hx hb dX12_numberRead_113 rfl (lv_at hl 2 rfl) ?_
                  refine va_get (D := D) hx hb hts inlX12 hown hK hP 55 (jc_55 cI cL ad σ9 τ) rfl 19 (by decide) (hts _ kw_15_11) (fun _ h9 => h9) rfl dX12_numberRead_114 ?_
                  refine lv_iload hx hb dX12_numberRead_117 (lv_at hl 1 rfl) ?_
                  refine lv_icmp_ne (tgt := 129) hx hb dX12_numberRead_119 (by decide) (fun c174 => ?_) (fun c => absurd (jeq c rfl rfl) (by omega))
                  have kc174 := jne c174 rfl rfl
                  refine lv_iload hx hb dX12_numberRead_129 (lv_at hl 0 rfl) ?_
                  exact hret x8 σ9 τ _ _ _ _ rfl ⟨rfl, (fun i hi => (f17 i hi)), (fun i hi => (f18 i (imp_218 i hi))), I83, ⟨trivial, (by omega)⟩⟩ hP hS dX12_numberRead_131
                · obtain ⟨q176, k175⟩ := h171
                  have q176 := q176.symm
                  subst q176
                  refine lv_if_ne (tgt := 113) hx hb dX12_numberRead_99 (by decide) (fun c => absurd (by decide) c) (fun _ => ?_)
                  refine lv_aload_n hx hb dX12_numberRead_102 rfl (lv_at hl 2 rfl) ?_
                  refine lv_iload hx hb dX12_numberRead_103 (lv_at hl 1 rfl) ?_
                  refine jput (ty := .int) hx hb hts inlX12 tyX12 tyX12_ok nmX12 hown hK hP hJ hA hS (jc_55 cI cL ad σ9 τ) rfl (k := 19) (by decide) (Nat.le_of_ble_eq_true rfl) (jp_55_19 cI cL ad σ9 τ (σ 55 19)) (hts _ kw_15_11) (fun _ h9 => h9) rfl (by decide +kernel) rfl rfl dX12_numberRead_105 (fun σ177 H locs eσ177 hP hS => ?_)
                  refine lv_aload_n hx hb dX12_numberRead_108 rfl (lv_at hl 2 rfl) ?_
                  have z178 : (σ177 55 18).toInt = (σ 55 18).toInt := (congrArg Int32.toInt (show σ177 55 18 = (σ 55 18) from ((jkp 18 eσ177 (by decide)).trans (f18 18 (by decide)))))
                  have z179 : (σ177 55 19).toInt = (σ 55 19).toInt := (congrArg Int32.toInt (show σ177 55 19 = (σ 55 19) from (jsp eσ177)))
                  have z180 : (σ177 55 20).toInt = (σ 55 20).toInt := (congrArg Int32.toInt (show σ177 55 20 = (σ 55 20) from ((jkp 20 eσ177 (by decide)).trans (f18 20 (by decide)))))
                  have z181 : (σ177 55 21).toInt = (σ 55 21).toInt := (congrArg Int32.toInt (show σ177 55 21 = (σ 55 21) from ((jkp 21 eσ177 (by decide)).trans m22)))
                  have I182 : jI121 σ177 := ⟨(by omega), (by omega), (by omega), (by omega), (by omega)⟩
                  refine jcallV (As := []) (rest := []) ⟨hx, hb, hml, hown, hts⟩ hK hP hA hS hZ (c_X12_wrong l D cI cL ad zz hJ σ177 τ I182) cw_RX12_214 (jc_55 cI cL ad σ177 τ) rfl ⟨Nat.le_of_ble_eq_true rfl, Nat.le_of_ble_eq_true rfl⟩ rfl rfl rfl hl.1 rfl (Nat.le_of_ble_eq_true rfl) dX12_numberRead_109 ⟨Nat.zero_le _, Nat.zero_le _⟩ (fun r184 σ183 τ183 H locs h183 hP hS => ?_)
                  obtain ⟨rfl, f185, f186, I187, h183⟩ := h183
                  obtain ⟨i188, i189, i190, i191, i192⟩ : ((-1) ≤ (σ183 55 18).toInt ∧ (σ183 55 18).toInt ≤ 80) ∧ (0 ≤ (σ183 55 19).toInt) ∧ ((σ183 55 19).toInt ≤ (σ183 55 20).toInt) ∧ ((σ183 55 20).toInt ≤ 80) ∧ ((-1) ≤ (σ183 55 21).toInt) := id I187
                  have z193 : (σ183 55 18).toInt = (σ 55 18).toInt := (congrArg Int32.toInt (show σ183 55 18 = (σ 55 18) from ((f186 18 (by decide)).trans ((jkp 18 eσ177 (by decide)).trans (f18 18 (by decide))))))
                  have z194 : (σ183 55 19).toInt = (σ 55 19).toInt := (congrArg Int32.toInt (show σ183 55 19 = (σ 55 19) from ((f186 19 (by decide)).trans (jsp eσ177))))
                  have z195 : (σ183 55 20).toInt = (σ 55 20).toInt := (congrArg Int32.toInt (show σ183 55 20 = (σ 55 20) from ((f186 20 (by decide)).trans ((jkp 20 eσ177 (by decide)).trans (f18 20 (by decide))))))
                  obtain ⟨k196, h183⟩ := h183
                  have h197 := h183
                  obtain ⟨q199, k198⟩ := h197
                  have q199 := q199.symm
                  subst q199
                  exact hret 0 σ183 τ _ _ _ _ rfl ⟨rfl, (fun i hi => ((f185 i hi).trans ((jnp i eσ177 (imp_164 i hi)).trans (f17 i hi)))), (fun i hi => ((f186 i (imp_219 i hi)).trans ((jkp i eσ177 (imp_220 i hi)).trans (f18 i (imp_218 i hi))))), I187, ⟨trivial, (by have h9 := jz_0; omega)⟩⟩ hP hS dX12_numberRead_112
            · have kc147 := jnlt c147 jz_57 rfl
              refine lv_bipush (v := 10) hx hb dX12_numberRead_45 (by decide) ?_
              refine lv_iload hx hb dX12_numberRead_47 (lv_at hl 0 rfl) ?_
              have g200 := jrg (rfl : x8.toInt = x8.toInt)
              refine lv_imul hx hb dX12_numberRead_49 ?_
              refine lv_topi (fun x201 ex201 => ?_)
              have gx201 := jrg (rfl : x201.toInt = x201.toInt)
              refine lv_aload_n hx hb dX12_numberRead_50 rfl (lv_at hl 2 rfl) ?_
              refine jcallV (As := []) (rest := [.int x201]) ⟨hx, hb, hml, hown, hts⟩ hK hP hA hS hZ (c_X12_byteAt l D cI cL ad zz hJ σ9 τ I83) cw_RX12_189 (jc_55 cI cL ad σ9 τ) rfl ⟨Nat.le_of_ble_eq_true rfl, Nat.le_of_ble_eq_true rfl⟩ rfl rfl rfl hl.1 rfl (Nat.le_of_ble_eq_true rfl) dX12_numberRead_51 ⟨Nat.zero_le _, Nat.zero_le _⟩ (fun r203 σ202 τ202 H locs h202 hP hS => ?_)
              obtain ⟨⟨rfl, rfl⟩, h202⟩ := h202
              have h204 := h202
              obtain ⟨q206, k205⟩ := h204
              have g207 := jrg (rfl : x201.toInt = x201.toInt)
              have g208 := jrg (rfl : r203.toInt = r203.toInt)
              refine lv_iadd hx hb dX12_numberRead_54 ?_
              refine lv_topi (fun x209 ex209 => ?_)
              have gx209 := jrg (rfl : x209.toInt = x209.toInt)
              refine lv_bipush (v := 48) hx hb dX12_numberRead_55 (by decide) ?_
              have g210 := jrg (rfl : x209.toInt = x209.toInt)
              refine lv_isub hx hb dX12_numberRead_57 ?_
              refine lv_topi (fun x211 ex211 => ?_)
              have gx211 := jrg (rfl : x211.toInt = x211.toInt)
              refine lv_istore (lv' := [(5, .int x211), (4, .int (σ 55 19)), (0, .ref (ad 55)), (1, .int a1), (2, .int a2), (3, .int a3)]) hx hb dX12_numberRead_58 hl (by decide) rfl (fun ls hl => ?_)
              refine lv_aload_n hx hb dX12_numberRead_60 rfl (lv_at hl 2 rfl) ?_
              refine lv_dup hx hb dX12_numberRead_61 rfl ?_
              refine va_get (D := D) hx hb hts inlX12 hown hK hP 55 (jc_55 cI cL ad σ9 τ) rfl 19 (by decide) (hts _ kw_15_11) (fun _ h9 => h9) rfl dX12_numberRead_62 ?_
              refine lv_iconst (v := 1) hx hb dX12_numberRead_65 (by decide) ?_
              have g212 := jrg (rfl : (σ9 55 19).toInt = (σ9 55 19).toInt)
              refine lv_iadd hx hb dX12_numberRead_66 ?_
              refine lv_topi (fun x213 ex213 => ?_)
              have tx213 : x213.toInt = (σ9 55 19).toInt + 1 := (jadd ex213 rfl jz_1 (by omega) (by omega)).trans (by omega)
              refine jput (ty := .int) hx hb hts inlX12 tyX12 tyX12_ok nmX12 hown hK hP hJ hA hS (jc_55 cI cL ad σ9 τ) rfl (k := 19) (by decide) (Nat.le_of_ble_eq_true rfl) (jp_55_19 cI cL ad σ9 τ x213) (hts _ kw_15_11) (fun _ h9 => h9) rfl (by decide +kernel) rfl rfl dX12_numberRead_67 (fun σ214 H locs eσ214 hP hS => ?_)
              refine lv_goto (tgt := 9) hx hb dX12_numberRead_70 (by decide) ?_
              have z215 : (σ214 55 20).toInt = (σ 55 20).toInt := (congrArg Int32.toInt (show σ214 55 20 = (σ 55 20) from ((jkp 20 eσ214 (by decide)).trans (f18 20 (by decide)))))
              have z216 : (σ214 55 19).toInt = (σ9 55 19).toInt + 1 := ((congrArg Int32.toInt (show σ214 55 19 = x213 from (jsp eσ214))).trans tx213)
              have z217 : (σ214 55 18).toInt = (σ 55 18).toInt := (congrArg Int32.toInt (show σ214 55 18 = (σ 55 18) from ((jkp 18 eσ214 (by decide)).trans (f18 18 (by decide)))))
              have z218 : (σ214 55 21).toInt = (σ 55 21).toInt := (congrArg Int32.toInt (show σ214 55 21 = (σ 55 21) from ((jkp 21 eσ214 (by decide)).trans m22)))
              exact ihlp6 x211 σ214 _ _ ls (by omega) (by omega) (by omega) (by omega) (by omega) (by omega) (by omega) (fun i hi => ((jnp i eσ214 (imp_164 i hi)).trans (f17 i hi))) (fun i hi => ((jkp i eσ214 (imp_168 i hi)).trans (f18 i hi)))   hP hS (lv_sub hl [0, 1, 2, 3, 4, 5] rfl)
  exact lp6 1000000 0 σ _ _ ls (by have h90 := jz_0; omega) (by have h90 := jz_0; omega) (by have h90 := jz_0; omega) (by have h90 := jz_0; omega) (by have h90 := jz_0; omega) (by have h90 := jz_0; omega) (by have h90 := jz_0; omega) (fun _ _ => rfl) (fun _ _ => rfl)   hP hS hl
set_option maxHeartbeats 4000000 in
set_option maxRecDepth 100000 in
theorem c_X12_order (l : Launch) (D : va_G) (cI cL : ClassId) (ad zz : Nat → Nat) (hJ : jD ad) (σ : Nat → Nat → Int32) (τ : Nat → Nat → Int64) (hI104 : jI104 σ) (hI105 : jI105 σ) (hI107 : jI107 σ) (hs_jBook : jBook σ) : jM l yX12_order cX12_order 5 (some .int) ({ frames := 2, cells := 0, slots := 0, locals := 50 }) D cI cL ad zz [.ref (ad 55)] σ τ (fun r σ' τ' => τ = τ' ∧ (∀ i : Nat, (i < 55 ∨ 55 < i) ∧ (i < 62 ∨ 62 < i) ∧ (i < 67 ∨ 67 < i) → σ' i = σ i) ∧ (∀ k : Nat, (k < 10 ∨ 10 < k) ∧ (k < 12 ∨ 12 < k) ∧ (k < 13 ∨ 13 < k) ∧ (k < 15 ∨ 15 < k) ∧ (k < 18 ∨ 18 < k) ∧ (k < 19 ∨ 19 < k) ∧ (k < 20 ∨ 20 < k) ∧ (k < 21 ∨ 21 < k) ∧ (k < 47 ∨ 47 < k) → σ' 55 k = σ 55 k) ∧ (jI104 σ') ∧ (jI105 σ') ∧ (jI107 σ') ∧ (jBook σ') ∧ ((σ' 55 15).toInt = 0) ∧ True) := by
  refine jM.of hJ (by decide +kernel) (nt := .int) rfl (Nat.le_of_ble_eq_true rfl) ?_
  intro p e s m args below meth c Q ls hC hret hl hP
  obtain ⟨hx, hb, hr, hml, hown, hts, hK, -, hlocks, hZ⟩ := hC
  have hown : s.vm.findClass RX12 = some m.cls := hown
  have hS : va_S (jA ad) s.heap s.heap [] := va_S.rf
  have hA : ∀ q, jA ad q → jA ad q := fun _ h => h
  have hl : lv_has ls 5 [(0, .ref (ad 55))] := hl
  obtain ⟨i1, i2, i3, w4, w5⟩ : (1 ≤ (σ 55 10).toInt ∧ (σ 55 10).toInt ≤ 8) ∧ (1 ≤ (σ 55 12).toInt ∧ (σ 55 12).toInt ≤ 12) ∧ (0 ≤ (σ 55 13).toInt ∧ (σ 55 13).toInt ≤ 999) ∧ (∀ k : Nat, k < 8 → 0 ≤ (σ 62 k).toInt ∧ (σ 62 k).toInt ≤ 3) ∧ (∀ k : Nat, k < 8 → 0 ≤ (σ 67 k).toInt ∧ (σ 67 k).toInt ≤ 3) := id hI104
  obtain ⟨i6, w7⟩ : (0 ≤ (σ 55 15).toInt ∧ (σ 55 15).toInt ≤ 80) ∧ (∀ k : Nat, k < 2 → (-1) ≤ (σ 65 k).toInt ∧ (σ 65 k).toInt ≤ 80) := id hI105
  obtain ⟨i8, i9, w10⟩ : (0 ≤ (σ 55 47).toInt ∧ (σ 55 47).toInt ≤ 12) ∧ ((σ 55 47).toInt ≤ (σ 55 12).toInt) ∧ (∀ k : Nat, k < 12 → 0 ≤ (σ 80 k).toInt ∧ (σ 80 k).toInt ≤ 3) := id hI107
  refine lv_aload_n hx hb dX12_order_0 rfl (lv_at hl 0 rfl) ?_
  refine lv_iconst (v := (-1)) hx hb dX12_order_1 (by decide) ?_
  refine jput (ty := .int) hx hb hts inlX12 tyX12 tyX12_ok nmX12 hown hK hP hJ hA hS (jc_55 cI cL ad σ τ) rfl (k := 18) (by decide) (Nat.le_of_ble_eq_true rfl) (jp_55_18 cI cL ad σ τ (-1)) (hts _ kw_15_10) (fun _ h9 => h9) rfl (by decide +kernel) rfl rfl dX12_order_2 (fun σ11 H locs eσ11 hP hS => ?_)
  refine lv_aload_n hx hb dX12_order_5 rfl (lv_at hl 0 rfl) ?_
  refine lv_iconst (v := 0) hx hb dX12_order_6 (by decide) ?_
  refine jput (ty := .int) hx hb hts inlX12 tyX12 tyX12_ok nmX12 hown hK hP hJ hA hS (jc_55 cI cL ad σ11 τ) rfl (k := 19) (by decide) (Nat.le_of_ble_eq_true rfl) (jp_55_19 cI cL ad σ11 τ 0) (hts _ kw_15_11) (fun _ h9 => h9) rfl (by decide +kernel) rfl rfl dX12_order_7 (fun σ12 H locs eσ12 hP hS => ?_)
  refine lv_aload_n hx hb dX12_order_10 rfl (lv_at hl 0 rfl) ?_
  refine lv_aload_n hx hb dX12_order_11 rfl (lv_at hl 0 rfl) ?_
  refine va_get (D := D) hx hb hts inlX12 hown hK hP 55 (jc_55 cI cL ad σ12 τ) rfl 15 (by decide) (hts _ kw_13_6) (fun _ h9 => h9) rfl dX12_order_12 ?_
  have m13 : σ12 55 15 = (σ 55 15) := ((jkp 15 eσ12 (by decide)).trans (jkp 15 eσ11 (by decide)))
  refine jtopr m13 ?_
  refine jput (ty := .int) hx hb hts inlX12 tyX12 tyX12_ok nmX12 hown hK hP hJ hA hS (jc_55 cI cL ad σ12 τ) rfl (k := 20) (by decide) (Nat.le_of_ble_eq_true rfl) (jp_55_20 cI cL ad σ12 τ (σ 55 15)) (hts _ kw_15_12) (fun _ h9 => h9) rfl (by decide +kernel) rfl rfl dX12_order_15 (fun σ14 H locs eσ14 hP hS => ?_)
  refine lv_aload_n hx hb dX12_order_18 rfl (lv_at hl 0 rfl) ?_
  refine lv_iconst (v := (-1)) hx hb dX12_order_19 (by decide) ?_
  refine jput (ty := .int) hx hb hts inlX12 tyX12 tyX12_ok nmX12 hown hK hP hJ hA hS (jc_55 cI cL ad σ14 τ) rfl (k := 21) (by decide) (Nat.le_of_ble_eq_true rfl) (jp_55_21 cI cL ad σ14 τ (-1)) (hts _ kw_15_13) (fun _ h9 => h9) rfl (by decide +kernel) rfl rfl dX12_order_20 (fun σ15 H locs eσ15 hP hS => ?_)
  refine lv_iconst (v := 0) hx hb dX12_order_23 (by decide) ?_
  refine lv_istore_n (lv' := [(1, .int 0), (0, .ref (ad 55))]) hx hb dX12_order_24 rfl hl (by decide) rfl (fun ls hl => ?_)
  have I20 : jI104 σ15 := jI104_fr ((jkp 10 eσ15 (by decide)).trans ((jkp 10 eσ14 (by decide)).trans ((jkp 10 eσ12 (by decide)).trans (jkp 10 eσ11 (by decide))))) ((jkp 12 eσ15 (by decide)).trans ((jkp 12 eσ14 (by decide)).trans ((jkp 12 eσ12 (by decide)).trans (jkp 12 eσ11 (by decide))))) ((jkp 13 eσ15 (by decide)).trans ((jkp 13 eσ14 (by decide)).trans ((jkp 13 eσ12 (by decide)).trans (jkp 13 eσ11 (by decide))))) ((jnp 62 eσ15 (by decide)).trans ((jnp 62 eσ14 (by decide)).trans ((jnp 62 eσ12 (by decide)).trans (jnp 62 eσ11 (by decide))))) ((jnp 67 eσ15 (by decide)).trans ((jnp 67 eσ14 (by decide)).trans ((jnp 67 eσ12 (by decide)).trans (jnp 67 eσ11 (by decide))))) hI104
  have z21 : (σ15 55 18).toInt = (-1) := ((congrArg Int32.toInt (show σ15 55 18 = (-1) from ((jkp 18 eσ15 (by decide)).trans ((jkp 18 eσ14 (by decide)).trans ((jkp 18 eσ12 (by decide)).trans (jsp eσ11)))))).trans jz_m1)
  have z22 : (σ15 55 19).toInt = 0 := ((congrArg Int32.toInt (show σ15 55 19 = 0 from ((jkp 19 eσ15 (by decide)).trans ((jkp 19 eσ14 (by decide)).trans (jsp eσ12))))).trans jz_0)
  have z23 : (σ15 55 20).toInt = (σ 55 15).toInt := (congrArg Int32.toInt (show σ15 55 20 = (σ 55 15) from ((jkp 20 eσ15 (by decide)).trans (jsp eσ14))))
  have z24 : (σ15 55 21).toInt = (-1) := ((congrArg Int32.toInt (show σ15 55 21 = (-1) from (jsp eσ15))).trans jz_m1)
  have lp16 : ∀ (n17 : Nat) (x18 : Int32) (σ19 : Nat → Nat → Int32) (H : Heap) (locs : List Loc) (ls : Array Slot), (-x18.toInt + 8 : Int) < n17 → 0 ≤ x18.toInt → x18.toInt ≤ 8 → (-1) ≤ (σ19 55 18).toInt ∧ (σ19 55 18).toInt ≤ 80 → 0 ≤ (σ19 55 19).toInt → (σ19 55 19).toInt ≤ (σ19 55 20).toInt → (σ19 55 20).toInt ≤ 80 → (-1) ≤ (σ19 55 21).toInt → (σ19 55 18).toInt = (-1) → (∀ i : Nat, (i < 55 ∨ 55 < i) ∧ (i < 67 ∨ 67 < i) → σ19 i = σ15 i) → (∀ k : Nat, (k < 19 ∨ 19 < k) → σ19 55 k = σ15 55 k) → jI104 σ19 → jH D cI cL ad σ19 τ H → va_S (jA ad) s.heap H locs → lv_has ls 5 [(1, .int x18), (0, .ref (ad 55))] → W p l e ({ frames := 2, cells := 0, slots := 0, locals := 50 }) s m args below meth c H locs 0 0 Q (F0 m 25 ls []) := by
    intro n17
    induction n17 with
    | zero => intro x18 σ19 H locs ls h25 h26 h27 h28 h29 h30 h31 h32 h33; exact absurd h25 (by omega)
    | succ n17 ihlp16 =>
      intro x18 σ19 H locs ls h25 h26 h27 h28 h29 h30 h31 h32 h33 f34 f35 p36 hP hS hl
      obtain ⟨i37, i38, i39, w40, w41⟩ : (1 ≤ (σ19 55 10).toInt ∧ (σ19 55 10).toInt ≤ 8) ∧ (1 ≤ (σ19 55 12).toInt ∧ (σ19 55 12).toInt ≤ 12) ∧ (0 ≤ (σ19 55 13).toInt ∧ (σ19 55 13).toInt ≤ 999) ∧ (∀ k : Nat, k < 8 → 0 ≤ (σ19 62 k).toInt ∧ (σ19 62 k).toInt ≤ 3) ∧ (∀ k : Nat, k < 8 → 0 ≤ (σ19 67 k).toInt ∧ (σ19 67 k).toInt ≤ 3) := id p36
      have z42 : (σ19 55 10).toInt = (σ 55 10).toInt := (congrArg Int32.toInt (show σ19 55 10 = (σ 55 10) from ((f35 10 (by decide)).trans ((jkp 10 eσ15 (by decide)).trans ((jkp 10 eσ14 (by decide)).trans ((jkp 10 eσ12 (by decide)).trans (jkp 10 eσ11 (by decide))))))))
      have z43 : (σ19 55 12).toInt = (σ 55 12).toInt := (congrArg Int32.toInt (show σ19 55 12 = (σ 55 12) from ((f35 12 (by decide)).trans ((jkp 12 eσ15 (by decide)).trans ((jkp 12 eσ14 (by decide)).trans ((jkp 12 eσ12 (by decide)).trans (jkp 12 eσ11 (by decide))))))))
      have z44 : (σ19 55 13).toInt = (σ 55 13).toInt := (congrArg Int32.toInt (show σ19 55 13 = (σ 55 13) from ((f35 13 (by decide)).trans ((jkp 13 eσ15 (by decide)).trans ((jkp 13 eσ14 (by decide)).trans ((jkp 13 eσ12 (by decide)).trans (jkp 13 eσ11 (by decide))))))))
      have z45 : (σ19 55 18).toInt = (-1) := ((congrArg Int32.toInt (show σ19 55 18 = (-1) from ((f35 18 (by decide)).trans ((jkp 18 eσ15 (by decide)).trans ((jkp 18 eσ14 (by decide)).trans ((jkp 18 eσ12 (by decide)).trans (jsp eσ11))))))).trans jz_m1)
      have z46 : (σ19 55 20).toInt = (σ 55 15).toInt := (congrArg Int32.toInt (show σ19 55 20 = (σ 55 15) from ((f35 20 (by decide)).trans ((jkp 20 eσ15 (by decide)).trans (jsp eσ14)))))
      have z47 : (σ19 55 21).toInt = (-1) := ((congrArg Int32.toInt (show σ19 55 21 = (-1) from ((f35 21 (by decide)).trans (jsp eσ15)))).trans jz_m1)
      refine lv_iload_n hx hb dX12_order_25 rfl (lv_at hl 0 rfl) ?_
      refine lv_bipush (v := 8) hx hb dX12_order_26 (by decide) ?_
      refine lv_icmp_ge (tgt := 78) hx hb dX12_order_28 (by decide) (fun c48 => ?_) (fun c48 => ?_)
      · have kc48 := jle c48 jz_8 rfl
        have lp49 : ∀  (σ51 : Nat → Nat → Int32) (H : Heap) (locs : List Loc) (ls : Array Slot), (-1) ≤ (σ51 55 18).toInt ∧ (σ51 55 18).toInt ≤ 80 → 0 ≤ (σ51 55 19).toInt → (σ51 55 19).toInt ≤ (σ51 55 20).toInt → (σ51 55 20).toInt ≤ 80 → (-1) ≤ (σ51 55 21).toInt → (σ51 55 18).toInt = (-1) → ((0 ≤ (σ51 55 21).toInt) ∨ (1 ≤ x18.toInt)) → (∀ i : Nat, (i < 55 ∨ 55 < i) → σ51 i = σ19 i) → (∀ k : Nat, (k < 21 ∨ 21 < k) → σ51 55 k = σ19 55 k) → jH D cI cL ad σ51 τ H → va_S (jA ad) s.heap H locs → lv_has ls 5 [(1, .int x18), (0, .ref (ad 55))] → W p l e ({ frames := 2, cells := 0, slots := 0, locals := 50 }) s m args below meth c H locs 0 0 Q (F0 m 87 ls []) := by
          intro  σ51 H locs ls h52 h53 h54 h55 h56 h57 h58 f59 f60 hP hS hl
          have z61 : (σ51 55 18).toInt = (-1) := ((congrArg Int32.toInt (show σ51 55 18 = (-1) from ((f60 18 (by decide)).trans ((f35 18 (by decide)).trans ((jkp 18 eσ15 (by decide)).trans ((jkp 18 eσ14 (by decide)).trans ((jkp 18 eσ12 (by decide)).trans (jsp eσ11)))))))).trans jz_m1)
          have z62 : (σ51 55 19).toInt = (σ19 55 19).toInt := (congrArg Int32.toInt (show σ51 55 19 = (σ19 55 19) from (f60 19 (by decide))))
          have z63 : (σ51 55 20).toInt = (σ 55 15).toInt := (congrArg Int32.toInt (show σ51 55 20 = (σ 55 15) from ((f60 20 (by decide)).trans ((f35 20 (by decide)).trans ((jkp 20 eσ15 (by decide)).trans (jsp eσ14))))))
          have lp64 : ∀ (x66 : Int32) (σ67 : Nat → Nat → Int32) (H : Heap) (locs : List Loc) (ls : Array Slot), (-1) ≤ (σ67 55 18).toInt ∧ (σ67 55 18).toInt ≤ 80 → 0 ≤ (σ67 55 19).toInt → (σ67 55 19).toInt ≤ (σ67 55 20).toInt → (σ67 55 20).toInt ≤ 80 → (-1) ≤ (σ67 55 21).toInt → (σ67 55 18).toInt = (-1) → ((0 ≤ (σ67 55 21).toInt) ∨ (1 ≤ x18.toInt ∧ 1 ≤ x66.toInt ∧ x66.toInt ≤ 12)) → (∀ i : Nat, (i < 55 ∨ 55 < i) → σ67 i = σ51 i) → (∀ k : Nat, (k < 19 ∨ 19 < k) ∧ (k < 21 ∨ 21 < k) → σ67 55 k = σ51 55 k) → jH D cI cL ad σ67 τ H → va_S (jA ad) s.heap H locs → lv_has ls 5 [(1, .int x18), (0, .ref (ad 55)), (2, .int x66)] → W p l e ({ frames := 2, cells := 0, slots := 0, locals := 50 }) s m args below meth c H locs 0 0 Q (F0 m 110 ls []) := by
            intro x66 σ67 H locs ls h68 h69 h70 h71 h72 h73 h74 f75 f76 hP hS hl
            have gx66 := jrg (rfl : x66.toInt = x66.toInt)
            have z77 : (σ67 55 18).toInt = (-1) := ((congrArg Int32.toInt (show σ67 55 18 = (-1) from ((f76 18 (by decide)).trans ((f60 18 (by decide)).trans ((f35 18 (by decide)).trans ((jkp 18 eσ15 (by decide)).trans ((jkp 18 eσ14 (by decide)).trans ((jkp 18 eσ12 (by decide)).trans (jsp eσ11))))))))).trans jz_m1)
            have z78 : (σ67 55 20).toInt = (σ 55 15).toInt := (congrArg Int32.toInt (show σ67 55 20 = (σ 55 15) from ((f76 20 (by decide)).trans ((f60 20 (by decide)).trans ((f35 20 (by decide)).trans ((jkp 20 eσ15 (by decide)).trans (jsp eσ14)))))))
            have lp79 : ∀ (x81 : Int32) (σ82 : Nat → Nat → Int32) (H : Heap) (locs : List Loc) (ls : Array Slot), (-1) ≤ (σ82 55 18).toInt ∧ (σ82 55 18).toInt ≤ 80 → 0 ≤ (σ82 55 19).toInt → (σ82 55 19).toInt ≤ (σ82 55 20).toInt → (σ82 55 20).toInt ≤ 80 → (-1) ≤ (σ82 55 21).toInt → (σ82 55 18).toInt = (-1) → ((0 ≤ (σ82 55 21).toInt) ∨ (1 ≤ x18.toInt ∧ 1 ≤ x66.toInt ∧ x66.toInt ≤ 12 ∧ 0 ≤ x81.toInt ∧ x81.toInt ≤ 999)) → (∀ i : Nat, (i < 55 ∨ 55 < i) → σ82 i = σ67 i) → (∀ k : Nat, (k < 19 ∨ 19 < k) ∧ (k < 21 ∨ 21 < k) → σ82 55 k = σ67 55 k) → jH D cI cL ad σ82 τ H → va_S (jA ad) s.heap H locs → lv_has ls 5 [(1, .int x18), (0, .ref (ad 55)), (2, .int x66), (3, .int x81)] → W p l e ({ frames := 2, cells := 0, slots := 0, locals := 50 }) s m args below meth c H locs 0 0 Q (F0 m 133 ls []) := by
              intro x81 σ82 H locs ls h83 h84 h85 h86 h87 h88 h89 f90 f91 hP hS hl
              have gx81 := jrg (rfl : x81.toInt = x81.toInt)
              have z92 : (σ82 55 18).toInt = (-1) := ((congrArg Int32.toInt (show σ82 55 18 = (-1) from ((f91 18 (by decide)).trans ((f76 18 (by decide)).trans ((f60 18 (by decide)).trans ((f35 18 (by decide)).trans ((jkp 18 eσ15 (by decide)).trans ((jkp 18 eσ14 (by decide)).trans ((jkp 18 eσ12 (by decide)).trans (jsp eσ11)))))))))).trans jz_m1)
              have z93 : (σ82 55 20).toInt = (σ 55 15).toInt := (congrArg Int32.toInt (show σ82 55 20 = (σ 55 15) from ((f91 20 (by decide)).trans ((f76 20 (by decide)).trans ((f60 20 (by decide)).trans ((f35 20 (by decide)).trans ((jkp 20 eσ15 (by decide)).trans (jsp eσ14))))))))
              have lp94 : ∀  (σ96 : Nat → Nat → Int32) (H : Heap) (locs : List Loc) (ls : Array Slot), (-1) ≤ (σ96 55 18).toInt ∧ (σ96 55 18).toInt ≤ 80 → 0 ≤ (σ96 55 19).toInt → (σ96 55 19).toInt ≤ (σ96 55 20).toInt → (σ96 55 20).toInt ≤ 80 → (-1) ≤ (σ96 55 21).toInt → (σ96 55 18).toInt = (-1) → ((0 ≤ (σ96 55 21).toInt) ∨ (1 ≤ x18.toInt ∧ 1 ≤ x66.toInt ∧ x66.toInt ≤ 12 ∧ 0 ≤ x81.toInt ∧ x81.toInt ≤ 999)) → (∀ i : Nat, (i < 55 ∨ 55 < i) → σ96 i = σ82 i) → (∀ k : Nat, (k < 21 ∨ 21 < k) → σ96 55 k = σ82 55 k) → jH D cI cL ad σ96 τ H → va_S (jA ad) s.heap H locs → lv_has ls 5 [(1, .int x18), (0, .ref (ad 55)), (2, .int x66), (3, .int x81)] → W p l e ({ frames := 2, cells := 0, slots := 0, locals := 50 }) s m args below meth c H locs 0 0 Q (F0 m 157 ls []) := by
                intro  σ96 H locs ls h97 h98 h99 h100 h101 h102 h103 f104 f105 hP hS hl
                have z106 : (σ96 55 18).toInt = (-1) := ((congrArg Int32.toInt (show σ96 55 18 = (-1) from ((f105 18 (by decide)).trans ((f91 18 (by decide)).trans ((f76 18 (by decide)).trans ((f60 18 (by decide)).trans ((f35 18 (by decide)).trans ((jkp 18 eσ15 (by decide)).trans ((jkp 18 eσ14 (by decide)).trans ((jkp 18 eσ12 (by decide)).trans (jsp eσ11))))))))))).trans jz_m1)
                have z107 : (σ96 55 19).toInt = (σ82 55 19).toInt := (congrArg Int32.toInt (show σ96 55 19 = (σ82 55 19) from (f105 19 (by decide))))
                have z108 : (σ96 55 20).toInt = (σ 55 15).toInt := (congrArg Int32.toInt (show σ96 55 20 = (σ 55 15) from ((f105 20 (by decide)).trans ((f91 20 (by decide)).trans ((f76 20 (by decide)).trans ((f60 20 (by decide)).trans ((f35 20 (by decide)).trans ((jkp 20 eσ15 (by decide)).trans (jsp eσ14)))))))))
                refine lv_aload_n hx hb dX12_order_157 rfl (lv_at hl 1 rfl) ?_
                refine lv_iconst (v := 0) hx hb dX12_order_158 (by decide) ?_
                refine jput (ty := .int) hx hb hts inlX12 tyX12 tyX12_ok nmX12 hown hK hP hJ hA hS (jc_55 cI cL ad σ96 τ) rfl (k := 15) (by decide) (Nat.le_of_ble_eq_true rfl) (jp_55_15 cI cL ad σ96 τ 0) (hts _ kw_13_6) (fun _ h9 => h9) rfl (by decide +kernel) rfl rfl dX12_order_159 (fun σ109 H locs eσ109 hP hS => ?_)
                refine lv_aload_n hx hb dX12_order_162 rfl (lv_at hl 1 rfl) ?_
                refine va_get (D := D) hx hb hts inlX12 hown hK hP 55 (jc_55 cI cL ad σ109 τ) rfl 21 (by decide) (hts _ kw_15_13) (fun _ h9 => h9) rfl dX12_order_163 ?_
                have m110 : σ109 55 21 = (σ96 55 21) := (jkp 21 eσ109 (by decide))
                refine jtopr m110 ?_
                refine lv_if_lt (tgt := 177) hx hb dX12_order_166 (by decide) (fun c111 => ?_) (fun c111 => ?_)
                · have kc111 := jlt c111 rfl jz_0
                  refine lv_aload_n hx hb dX12_order_177 rfl (lv_at hl 1 rfl) ?_
                  refine lv_iload_n hx hb dX12_order_178 rfl (lv_at hl 0 rfl) ?_
                  refine jput (ty := .int) hx hb hts inlX12 tyX12 tyX12_ok nmX12 hown hK hP hJ hA hS (jc_55 cI cL ad σ109 τ) rfl (k := 10) (by decide) (Nat.le_of_ble_eq_true rfl) (jp_55_10 cI cL ad σ109 τ x18) (hts _ kw_8_15) (fun _ h9 => h9) rfl (by decide +kernel) rfl rfl dX12_order_179 (fun σ112 H locs eσ112 hP hS => ?_)
                  refine lv_aload_n hx hb dX12_order_182 rfl (lv_at hl 1 rfl) ?_
                  refine lv_iload_n hx hb dX12_order_183 rfl (lv_at hl 2 rfl) ?_
                  refine jput (ty := .int) hx hb hts inlX12 tyX12 tyX12_ok nmX12 hown hK hP hJ hA hS (jc_55 cI cL ad σ112 τ) rfl (k := 12) (by decide) (Nat.le_of_ble_eq_true rfl) (jp_55_12 cI cL ad σ112 τ x66) (hts _ kw_8_16) (fun _ h9 => h9) rfl (by decide +kernel) rfl rfl dX12_order_184 (fun σ113 H locs eσ113 hP hS => ?_)
                  refine lv_aload_n hx hb dX12_order_187 rfl (lv_at hl 1 rfl) ?_
                  refine lv_iload_n hx hb dX12_order_188 rfl (lv_at hl 3 rfl) ?_
                  refine jput (ty := .int) hx hb hts inlX12 tyX12 tyX12_ok nmX12 hown hK hP hJ hA hS (jc_55 cI cL ad σ113 τ) rfl (k := 13) (by decide) (Nat.le_of_ble_eq_true rfl) (jp_55_13 cI cL ad σ113 τ x81) (hts _ kw_15_14) (fun _ h9 => h9) rfl (by decide +kernel) rfl rfl dX12_order_189 (fun σ114 H locs eσ114 hP hS => ?_)
                  refine lv_iconst (v := 0) hx hb dX12_order_192 (by decide) ?_
                  refine lv_istore (lv' := [(4, .int 0), (1, .int x18), (0, .ref (ad 55)), (2, .int x66), (3, .int x81)]) hx hb dX12_order_193 hl (by decide) rfl (fun ls hl => ?_)
                  have z119 : (σ114 55 10).toInt = x18.toInt := (congrArg Int32.toInt (show σ114 55 10 = x18 from ((jkp 10 eσ114 (by decide)).trans ((jkp 10 eσ113 (by decide)).trans (jsp eσ112)))))
                  have z120 : (σ114 55 12).toInt = x66.toInt := (congrArg Int32.toInt (show σ114 55 12 = x66 from ((jkp 12 eσ114 (by decide)).trans (jsp eσ113))))
                  have z121 : (σ114 55 13).toInt = x81.toInt := (congrArg Int32.toInt (show σ114 55 13 = x81 from (jsp eσ114)))
                  have w122 : ∀ k : Nat, k < 8 → 0 ≤ (σ114 62 k).toInt ∧ (σ114 62 k).toInt ≤ 3 := (jrr_fr (jnp 62 eσ114 (by decide)) (jrr_fr (jnp 62 eσ113 (by decide)) (jrr_fr (jnp 62 eσ112 (by decide)) (jrr_fr (jnp 62 eσ109 (by decide)) (jrr_fr (f104 62 (by decide)) (jrr_fr (f90 62 (by decide)) (jrr_fr (f75 62 (by decide)) (jrr_fr (f59 62 (by decide)) w40))))))))
                  have w123 : ∀ k : Nat, k < 8 → 0 ≤ (σ114 67 k).toInt ∧ (σ114 67 k).toInt ≤ 3 := (jrr_fr (jnp 67 eσ114 (by decide)) (jrr_fr (jnp 67 eσ113 (by decide)) (jrr_fr (jnp 67 eσ112 (by decide)) (jrr_fr (jnp 67 eσ109 (by decide)) (jrr_fr (f104 67 (by decide)) (jrr_fr (f90 67 (by decide)) (jrr_fr (f75 67 (by decide)) (jrr_fr (f59 67 (by decide)) w41))))))))
                  have I124 : jI104 σ114 := ⟨(by omega), (by omega), (by omega), w122, w123⟩
                  have lp115 : ∀ (n116 : Nat) (x117 : Int32) (σ118 : Nat → Nat → Int32) (H : Heap) (locs : List Loc) (ls : Array Slot), (x18.toInt - x117.toInt : Int) < n116 → 0 ≤ x117.toInt → x117.toInt ≤ 8 → x117.toInt ≤ x18.toInt → (∀ i : Nat, (i < 62 ∨ 62 < i) → σ118 i = σ114 i) → jI104 σ118 → jH D cI cL ad σ118 τ H → va_S (jA ad) s.heap H locs → lv_has ls 5 [(4, .int x117), (1, .int x18), (0, .ref (ad 55)), (2, .int x66), (3, .int x81)] → W p l e ({ frames := 2, cells := 0, slots := 0, locals := 50 }) s m args below meth c H locs 0 0 Q (F0 m 195 ls []) := by
                    intro n116
                    induction n116 with
                    | zero => intro x117 σ118 H locs ls h125 h126 h127 h128; exact absurd h125 (by omega)
                    | succ n116 ihlp115 =>
                      intro x117 σ118 H locs ls h125 h126 h127 h128 f129 p130 hP hS hl
                      obtain ⟨i131, i132, i133, w134, w135⟩ : (1 ≤ (σ118 55 10).toInt ∧ (σ118 55 10).toInt ≤ 8) ∧ (1 ≤ (σ118 55 12).toInt ∧ (σ118 55 12).toInt ≤ 12) ∧ (0 ≤ (σ118 55 13).toInt ∧ (σ118 55 13).toInt ≤ 999) ∧ (∀ k : Nat, k < 8 → 0 ≤ (σ118 62 k).toInt ∧ (σ118 62 k).toInt ≤ 3) ∧ (∀ k : Nat, k < 8 → 0 ≤ (σ118 67 k).toInt ∧ (σ118 67 k).toInt ≤ 3) := id p130
                      have z136 : (σ118 55 10).toInt = x18.toInt := (congrArg Int32.toInt (show σ118 55 10 = x18 from ((congrFun (f129 55 (by decide)) 10).trans ((jkp 10 eσ114 (by decide)).trans ((jkp 10 eσ113 (by decide)).trans (jsp eσ112))))))
                      have z137 : (σ118 55 12).toInt = x66.toInt := (congrArg Int32.toInt (show σ118 55 12 = x66 from ((congrFun (f129 55 (by decide)) 12).trans ((jkp 12 eσ114 (by decide)).trans (jsp eσ113)))))
                      have z138 : (σ118 55 13).toInt = x81.toInt := (congrArg Int32.toInt (show σ118 55 13 = x81 from ((congrFun (f129 55 (by decide)) 13).trans (jsp eσ114))))
                      refine lv_iload hx hb dX12_order_195 (lv_at hl 0 rfl) ?_
                      refine lv_iload_n hx hb dX12_order_197 rfl (lv_at hl 1 rfl) ?_
                      refine lv_icmp_ge (tgt := 221) hx hb dX12_order_198 (by decide) (fun c139 => ?_) (fun c139 => ?_)
                      · have kc139 := jle c139 rfl rfl
                        refine lv_aload_n hx hb dX12_order_221 rfl (lv_at hl 2 rfl) ?_
                        refine lv_iconst (v := 0) hx hb dX12_order_222 (by decide) ?_
                        refine jput (ty := .int) hx hb hts inlX12 tyX12 tyX12_ok nmX12 hown hK hP hJ hA hS (jc_55 cI cL ad σ118 τ) rfl (k := 47) (by decide) (Nat.le_of_ble_eq_true rfl) (jp_55_47 cI cL ad σ118 τ 0) (hts _ kw_15_15) (fun _ h9 => h9) rfl (by decide +kernel) rfl rfl dX12_order_223 (fun σ140 H locs eσ140 hP hS => ?_)
                        refine lv_aload_n hx hb dX12_order_226 rfl (lv_at hl 2 rfl) ?_
                        refine va_get (D := D) hx hb hts inlX12 hown hK hP 55 (jc_55 cI cL ad σ140 τ) rfl 10 (by decide) (hts _ kw_8_15) (fun _ h9 => h9) rfl dX12_order_227 ?_
                        have m141 : σ140 55 10 = x18 := ((jkp 10 eσ140 (by decide)).trans ((congrFun (f129 55 (by decide)) 10).trans ((jkp 10 eσ114 (by decide)).trans ((jkp 10 eσ113 (by decide)).trans (jsp eσ112)))))
                        refine jtopr m141 ?_
                        have z142 : (σ140 55 47).toInt = 0 := ((congrArg Int32.toInt (show σ140 55 47 = 0 from (jsp eσ140))).trans jz_0)
                        have p143 : jBook σ140 := jBook.nil (by omega)
                        have I144 : jI104 σ140 := jI104_fr (jkp 10 eσ140 (by decide)) (jkp 12 eσ140 (by decide)) (jkp 13 eσ140 (by decide)) (jnp 62 eσ140 (by decide)) (jnp 67 eσ140 (by decide)) p130
                        have z145 : (σ140 55 15).toInt = 0 := ((congrArg Int32.toInt (show σ140 55 15 = 0 from ((jkp 15 eσ140 (by decide)).trans ((congrFun (f129 55 (by decide)) 15).trans ((jkp 15 eσ114 (by decide)).trans ((jkp 15 eσ113 (by decide)).trans ((jkp 15 eσ112 (by decide)).trans (jsp eσ109)))))))).trans jz_0)
                        have w146 : ∀ k : Nat, k < 2 → (-1) ≤ (σ140 65 k).toInt ∧ (σ140 65 k).toInt ≤ 80 := (jrr_fr (jnp 65 eσ140 (by decide)) (jrr_fr (f129 65 (by decide)) (jrr_fr (jnp 65 eσ114 (by decide)) (jrr_fr (jnp 65 eσ113 (by decide)) (jrr_fr (jnp 65 eσ112 (by decide)) (jrr_fr (jnp 65 eσ109 (by decide)) (jrr_fr (f104 65 (by decide)) (jrr_fr (f90 65 (by decide)) (jrr_fr (f75 65 (by decide)) (jrr_fr (f59 65 (by decide)) (jrr_fr (f34 65 (by decide)) (jrr_fr (jnp 65 eσ15 (by decide)) (jrr_fr (jnp 65 eσ14 (by decide)) (jrr_fr (jnp 65 eσ12 (by decide)) (jrr_fr (jnp 65 eσ11 (by decide)) w7)))))))))))))))
                        have I147 : jI105 σ140 := ⟨(by omega), w146⟩
                        have z148 : (σ140 55 12).toInt = x66.toInt := (congrArg Int32.toInt (show σ140 55 12 = x66 from ((jkp 12 eσ140 (by decide)).trans ((congrFun (f129 55 (by decide)) 12).trans ((jkp 12 eσ114 (by decide)).trans (jsp eσ113))))))
                        have w149 : ∀ k : Nat, k < 12 → 0 ≤ (σ140 80 k).toInt ∧ (σ140 80 k).toInt ≤ 3 := (jrr_fr (jnp 80 eσ140 (by decide)) (jrr_fr (f129 80 (by decide)) (jrr_fr (jnp 80 eσ114 (by decide)) (jrr_fr (jnp 80 eσ113 (by decide)) (jrr_fr (jnp 80 eσ112 (by decide)) (jrr_fr (jnp 80 eσ109 (by decide)) (jrr_fr (f104 80 (by decide)) (jrr_fr (f90 80 (by decide)) (jrr_fr (f75 80 (by decide)) (jrr_fr (f59 80 (by decide)) (jrr_fr (f34 80 (by decide)) (jrr_fr (jnp 80 eσ15 (by decide)) (jrr_fr (jnp 80 eσ14 (by decide)) (jrr_fr (jnp 80 eσ12 (by decide)) (jrr_fr (jnp 80 eσ11 (by decide)) w10)))))))))))))))
                        have I150 : jI107 σ140 := ⟨(by omega), (by omega), w149⟩
                        exact hret x18 σ140 τ _ _ _ _ rfl ⟨rfl, (fun i hi => ((jnp i eσ140 (imp_221 i hi)).trans ((f129 i (imp_222 i hi)).trans ((jnp i eσ114 (imp_221 i hi)).trans ((jnp i eσ113 (imp_221 i hi)).trans ((jnp i eσ112 (imp_221 i hi)).trans ((jnp i eσ109 (imp_221 i hi)).trans ((f104 i (imp_223 i hi)).trans ((f90 i (imp_223 i hi)).trans ((f75 i (imp_223 i hi)).trans ((f59 i (imp_223 i hi)).trans ((f34 i (imp_224 i hi)).trans ((jnp i eσ15 (imp_221 i hi)).trans ((jnp i eσ14 (imp_221 i hi)).trans ((jnp i eσ12 (imp_221 i hi)).trans (jnp i eσ11 (imp_221 i hi))))))))))))))))), (fun i hi => ((jkp i eσ140 (imp_225 i hi)).trans ((congrFun (f129 55 (by decide)) i).trans ((jkp i eσ114 (imp_226 i hi)).trans ((jkp i eσ113 (imp_227 i hi)).trans ((jkp i eσ112 (imp_228 i hi)).trans ((jkp i eσ109 (imp_229 i hi)).trans ((f105 i (imp_230 i hi)).trans ((f91 i (imp_231 i hi)).trans ((f76 i (imp_231 i hi)).trans ((f60 i (imp_230 i hi)).trans ((f35 i (imp_232 i hi)).trans ((jkp i eσ15 (imp_233 i hi)).trans ((jkp i eσ14 (imp_234 i hi)).trans ((jkp i eσ12 (imp_235 i hi)).trans (jkp i eσ11 (imp_236 i hi))))))))))))))))), I144, I147, I150, p143, (by omega), trivial⟩ hP hS dX12_order_230
                      · have kc139 := jnle c139 rfl rfl
                        refine lv_aload_n hx hb dX12_order_201 rfl (lv_at hl 2 rfl) ?_
                        refine va_get (D := D) hx hb hts inlX12 hown hK hP 55 (jc_55 cI cL ad σ118 τ) rfl 11 (by decide) (hts _ kw_7_8) (fun _ h9 => h9) rfl dX12_order_202 ?_
                        refine lv_iload hx hb dX12_order_205 (lv_at hl 0 rfl) ?_
                        refine lv_aload_n hx hb dX12_order_207 rfl (lv_at hl 2 rfl) ?_
                        refine va_get (D := D) hx hb hts inlX12 hown hK hP 55 (jc_55 cI cL ad σ118 τ) rfl 24 (by decide) (hts _ kw_7_13) (fun _ h9 => h9) rfl dX12_order_208 ?_
                        refine lv_iload hx hb dX12_order_211 (lv_at hl 0 rfl) ?_
                        refine jald hx hb hK hP (jc_67 cI cL ad σ118 τ) (jin rfl (by omega) (by omega)) dX12_order_213 ?_
                        have g151 := w135 _ (jnat (x := x117) rfl (n := 8) (by omega) (by decide))
                        refine lv_topi (fun x152 ex152 => ?_)
                        rw [← ex152] at g151
                        refine jast hx hb hK hP hJ hA hS (jc_62 cI cL ad σ118 τ) (ja_62 cI cL ad σ118 τ _ _) (jin rfl (by omega) (by omega)) dX12_order_214 (fun σ153 H locs eσ153 hP hS => ?_)
                        obtain ⟨x154, ex154⟩ : ∃ y : Int32, y = x117 + 1 := ⟨_, rfl⟩
                        have tx154 : x154.toInt = x117.toInt + 1 := (jadd ex154 rfl jz_1 (by omega) (by omega)).trans (by omega)
                        refine lv_iinc (v := x154) (lv' := [(4, .int x154), (1, .int x18), (0, .ref (ad 55)), (2, .int x66), (3, .int x81)]) hx hb dX12_order_215 hl (k := 0) rfl (by rw [ex154]; rfl) (by decide) rfl (fun ls hl => ?_)
                        refine lv_goto (tgt := 195) hx hb dX12_order_218 (by decide) ?_
                        have z155 : (σ153 55 10).toInt = x18.toInt := (congrArg Int32.toInt (show σ153 55 10 = x18 from ((congrFun (jnp 55 eσ153 (by decide)) 10).trans ((congrFun (f129 55 (by decide)) 10).trans ((jkp 10 eσ114 (by decide)).trans ((jkp 10 eσ113 (by decide)).trans (jsp eσ112)))))))
                        have z156 : (σ153 55 12).toInt = x66.toInt := (congrArg Int32.toInt (show σ153 55 12 = x66 from ((congrFun (jnp 55 eσ153 (by decide)) 12).trans ((congrFun (f129 55 (by decide)) 12).trans ((jkp 12 eσ114 (by decide)).trans (jsp eσ113))))))
                        have z157 : (σ153 55 13).toInt = x81.toInt := (congrArg Int32.toInt (show σ153 55 13 = x81 from ((congrFun (jnp 55 eσ153 (by decide)) 13).trans ((congrFun (f129 55 (by decide)) 13).trans (jsp eσ114)))))
                        have w158 : ∀ k : Nat, k < 8 → 0 ≤ (σ153 62 k).toInt ∧ (σ153 62 k).toInt ≤ 3 := (by rw [eσ153]; exact jrr_up w134 (by omega) (by omega))
                        have w159 : ∀ k : Nat, k < 8 → 0 ≤ (σ153 67 k).toInt ∧ (σ153 67 k).toInt ≤ 3 := (jrr_fr (jnp 67 eσ153 (by decide)) w135)
                        have I160 : jI104 σ153 := ⟨(by omega), (by omega), (by omega), w158, w159⟩
                        exact ihlp115 x154 σ153 _ _ ls (by have h90 := tx154; omega) (by have h90 := tx154; omega) (by have h90 := tx154; omega) (by have h90 := tx154; omega) (fun i hi => ((jnp i eσ153 (imp_237 i hi)).trans (f129 i hi)))   I160 hP hS (lv_sub hl [0, 1, 2, 3, 4] rfl)
                  exact lp115 1000000 0 σ114 _ _ ls (by have h90 := jz_0; omega) (by have h90 := jz_0; omega) (by have h90 := jz_0; omega) (by have h90 := jz_0; omega) (fun _ _ => rfl)  I124 hP hS hl
                · have kc111 := jnlt c111 rfl jz_0
                  refine lv_bipush (v := (-100)) hx hb dX12_order_169 (by decide) ?_
                  refine lv_aload_n hx hb dX12_order_171 rfl (lv_at hl 1 rfl) ?_
                  refine va_get (D := D) hx hb hts inlX12 hown hK hP 55 (jc_55 cI cL ad σ109 τ) rfl 21 (by decide) (hts _ kw_15_13) (fun _ h9 => h9) rfl dX12_order_172 ?_
                  refine jtopr m110 ?_
                  have g161 := jrg (rfl : (σ96 55 21).toInt = (σ96 55 21).toInt)
                  refine lv_isub hx hb dX12_order_175 ?_
                  refine lv_topi (fun x162 ex162 => ?_)
                  have gx162 := jrg (rfl : x162.toInt = x162.toInt)
                  have I163 : jI104 σ109 := jI104_fr ((jkp 10 eσ109 (by decide)).trans ((f105 10 (by decide)).trans ((f91 10 (by decide)).trans ((f76 10 (by decide)).trans (f60 10 (by decide)))))) ((jkp 12 eσ109 (by decide)).trans ((f105 12 (by decide)).trans ((f91 12 (by decide)).trans ((f76 12 (by decide)).trans (f60 12 (by decide)))))) ((jkp 13 eσ109 (by decide)).trans ((f105 13 (by decide)).trans ((f91 13 (by decide)).trans ((f76 13 (by decide)).trans (f60 13 (by decide)))))) ((jnp 62 eσ109 (by decide)).trans ((f104 62 (by decide)).trans ((f90 62 (by decide)).trans ((f75 62 (by decide)).trans (f59 62 (by decide)))))) ((jnp 67 eσ109 (by decide)).trans ((f104 67 (by decide)).trans ((f90 67 (by decide)).trans ((f75 67 (by decide)).trans (f59 67 (by decide)))))) p36
                  have z164 : (σ109 55 15).toInt = 0 := ((congrArg Int32.toInt (show σ109 55 15 = 0 from (jsp eσ109))).trans jz_0)
                  have w165 : ∀ k : Nat, k < 2 → (-1) ≤ (σ109 65 k).toInt ∧ (σ109 65 k).toInt ≤ 80 := (jrr_fr (jnp 65 eσ109 (by decide)) (jrr_fr (f104 65 (by decide)) (jrr_fr (f90 65 (by decide)) (jrr_fr (f75 65 (by decide)) (jrr_fr (f59 65 (by decide)) (jrr_fr (f34 65 (by decide)) (jrr_fr (jnp 65 eσ15 (by decide)) (jrr_fr (jnp 65 eσ14 (by decide)) (jrr_fr (jnp 65 eσ12 (by decide)) (jrr_fr (jnp 65 eσ11 (by decide)) w7))))))))))
                  have I166 : jI105 σ109 := ⟨(by omega), w165⟩
                  have I167 : jI107 σ109 := jI107_fr ((jkp 12 eσ109 (by decide)).trans ((f105 12 (by decide)).trans ((f91 12 (by decide)).trans ((f76 12 (by decide)).trans ((f60 12 (by decide)).trans ((f35 12 (by decide)).trans ((jkp 12 eσ15 (by decide)).trans ((jkp 12 eσ14 (by decide)).trans ((jkp 12 eσ12 (by decide)).trans (jkp 12 eσ11 (by decide))))))))))) ((jkp 47 eσ109 (by decide)).trans ((f105 47 (by decide)).trans ((f91 47 (by decide)).trans ((f76 47 (by decide)).trans ((f60 47 (by decide)).trans ((f35 47 (by decide)).trans ((jkp 47 eσ15 (by decide)).trans ((jkp 47 eσ14 (by decide)).trans ((jkp 47 eσ12 (by decide)).trans (jkp 47 eσ11 (by decide))))))))))) ((jnp 80 eσ109 (by decide)).trans ((f104 80 (by decide)).trans ((f90 80 (by decide)).trans ((f75 80 (by decide)).trans ((f59 80 (by decide)).trans ((f34 80 (by decide)).trans ((jnp 80 eσ15 (by decide)).trans ((jnp 80 eσ14 (by decide)).trans ((jnp 80 eσ12 (by decide)).trans (jnp 80 eσ11 (by decide))))))))))) hI107
                  have p168 : jBook σ109 := jBook.fr ((jkp 47 eσ109 (by decide)).trans ((f105 47 (by decide)).trans ((f91 47 (by decide)).trans ((f76 47 (by decide)).trans ((f60 47 (by decide)).trans ((f35 47 (by decide)).trans ((jkp 47 eσ15 (by decide)).trans ((jkp 47 eσ14 (by decide)).trans ((jkp 47 eσ12 (by decide)).trans (jkp 47 eσ11 (by decide))))))))))) ((jkp 10 eσ109 (by decide)).trans ((f105 10 (by decide)).trans ((f91 10 (by decide)).trans ((f76 10 (by decide)).trans ((f60 10 (by decide)).trans ((f35 10 (by decide)).trans ((jkp 10 eσ15 (by decide)).trans ((jkp 10 eσ14 (by decide)).trans ((jkp 10 eσ12 (by decide)).trans (jkp 10 eσ11 (by decide))))))))))) ((jnp 81 eσ109 (by decide)).trans ((f104 81 (by decide)).trans ((f90 81 (by decide)).trans ((f75 81 (by decide)).trans ((f59 81 (by decide)).trans ((f34 81 (by decide)).trans ((jnp 81 eσ15 (by decide)).trans ((jnp 81 eσ14 (by decide)).trans ((jnp 81 eσ12 (by decide)).trans (jnp 81 eσ11 (by decide))))))))))) hs_jBook
                  exact hret x162 σ109 τ _ _ _ _ rfl ⟨rfl, (fun i hi => ((jnp i eσ109 (imp_221 i hi)).trans ((f104 i (imp_223 i hi)).trans ((f90 i (imp_223 i hi)).trans ((f75 i (imp_223 i hi)).trans ((f59 i (imp_223 i hi)).trans ((f34 i (imp_224 i hi)).trans ((jnp i eσ15 (imp_221 i hi)).trans ((jnp i eσ14 (imp_221 i hi)).trans ((jnp i eσ12 (imp_221 i hi)).trans (jnp i eσ11 (imp_221 i hi)))))))))))), (fun i hi => ((jkp i eσ109 (imp_229 i hi)).trans ((f105 i (imp_230 i hi)).trans ((f91 i (imp_231 i hi)).trans ((f76 i (imp_231 i hi)).trans ((f60 i (imp_230 i hi)).trans ((f35 i (imp_232 i hi)).trans ((jkp i eσ15 (imp_233 i hi)).trans ((jkp i eσ14 (imp_234 i hi)).trans ((jkp i eσ12 (imp_235 i hi)).trans (jkp i eσ11 (imp_236 i hi)))))))))))), I163, I166, I167, p168, (by omega), trivial⟩ hP hS dX12_order_176
              refine lv_aload_n hx hb dX12_order_133 rfl (lv_at hl 1 rfl) ?_
              refine va_get (D := D) hx hb hts inlX12 hown hK hP 55 (jc_55 cI cL ad σ82 τ) rfl 21 (by decide) (hts _ kw_15_13) (fun _ h9 => h9) rfl dX12_order_134 ?_
              refine lv_if_ge (tgt := 157) hx hb dX12_order_137 (by decide) (fun c169 => ?_) (fun c169 => ?_)
              · have kc169 := jle c169 jz_0 rfl
                exact lp94  σ82 _ _ ls (by omega) (by omega) (by omega) (by omega) (by omega) (by omega) (by omega) (fun i hi => rfl) (fun i hi => rfl)   hP hS (lv_sub hl [0, 1, 2, 3] rfl)
              · have kc169 := jnle c169 jz_0 rfl
                refine lv_aload_n hx hb dX12_order_140 rfl (lv_at hl 1 rfl) ?_
                refine va_get (D := D) hx hb hts inlX12 hown hK hP 55 (jc_55 cI cL ad σ82 τ) rfl 19 (by decide) (hts _ kw_15_11) (fun _ h9 => h9) rfl dX12_order_141 ?_
                refine lv_aload_n hx hb dX12_order_144 rfl (lv_at hl 1 rfl) ?_
                refine va_get (D := D) hx hb hts inlX12 hown hK hP 55 (jc_55 cI cL ad σ82 τ) rfl 20 (by decide) (hts _ kw_15_12) (fun _ h9 => h9) rfl dX12_order_145 ?_
                have m170 : σ82 55 20 = (σ 55 15) := ((f91 20 (by decide)).trans ((f76 20 (by decide)).trans ((f60 20 (by decide)).trans ((f35 20 (by decide)).trans ((jkp 20 eσ15 (by decide)).trans (jsp eσ14))))))
                refine jtopr m170 ?_
                refine lv_icmp_ge (tgt := 157) hx hb dX12_order_148 (by decide) (fun c171 => ?_) (fun c171 => ?_)
                · have kc171 := jle c171 rfl rfl
                  exact lp94  σ82 _ _ ls (by omega) (by omega) (by omega) (by omega) (by omega) (by omega) (by omega) (fun i hi => rfl) (fun i hi => rfl)   hP hS (lv_sub hl [0, 1, 2, 3] rfl)
                · have kc171 := jnle c171 rfl rfl
                  refine lv_aload_n hx hb dX12_order_151 rfl (lv_at hl 1 rfl) ?_
                  have I172 : jI121 σ82 := ⟨(by omega), (by omega), (by omega), (by omega), (by omega)⟩
                  refine jcallV (As := []) (rest := []) ⟨hx, hb, hml, hown, hts⟩ hK hP hA hS hZ (c_X12_wrong l D cI cL ad zz hJ σ82 τ I172) cw_RX12_214 (jc_55 cI cL ad σ82 τ) rfl ⟨Nat.le_of_ble_eq_true rfl, Nat.le_of_ble_eq_true rfl⟩ rfl rfl rfl hl.1 rfl (Nat.le_of_ble_eq_true rfl) dX12_order_152 ⟨Nat.zero_le _, Nat.zero_le _⟩ (fun r174 σ173 τ173 H locs h173 hP hS => ?_)
                  obtain ⟨rfl, f175, f176, I177, h173⟩ := h173
                  obtain ⟨i178, i179, i180, i181, i182⟩ : ((-1) ≤ (σ173 55 18).toInt ∧ (σ173 55 18).toInt ≤ 80) ∧ (0 ≤ (σ173 55 19).toInt) ∧ ((σ173 55 19).toInt ≤ (σ173 55 20).toInt) ∧ ((σ173 55 20).toInt ≤ 80) ∧ ((-1) ≤ (σ173 55 21).toInt) := id I177
                  have z183 : (σ173 55 18).toInt = (-1) := ((congrArg Int32.toInt (show σ173 55 18 = (-1) from ((f176 18 (by decide)).trans ((f91 18 (by decide)).trans ((f76 18 (by decide)).trans ((f60 18 (by decide)).trans ((f35 18 (by decide)).trans ((jkp 18 eσ15 (by decide)).trans ((jkp 18 eσ14 (by decide)).trans ((jkp 18 eσ12 (by decide)).trans (jsp eσ11))))))))))).trans jz_m1)
                  have z184 : (σ173 55 19).toInt = (σ82 55 19).toInt := (congrArg Int32.toInt (show σ173 55 19 = (σ82 55 19) from (f176 19 (by decide))))
                  have z185 : (σ173 55 20).toInt = (σ 55 15).toInt := (congrArg Int32.toInt (show σ173 55 20 = (σ 55 15) from ((f176 20 (by decide)).trans m170)))
                  obtain ⟨k186, h173⟩ := h173
                  have h187 := h173
                  obtain ⟨q189, k188⟩ := h187
                  have q189 := q189.symm
                  subst q189
                  refine lv_istore (lv' := [(4, .int 0), (1, .int x18), (0, .ref (ad 55)), (2, .int x66), (3, .int x81)]) hx hb dX12_order_155 hl (by decide) rfl (fun ls hl => ?_)
                  exact lp94  σ173 _ _ ls (by omega) (by omega) (by omega) (by omega) (by omega) (by omega) (by omega) (fun i hi => (f175 i hi)) (fun i hi => (f176 i hi))   hP hS (lv_sub hl [1, 2, 3, 4] rfl)
            refine lv_aload_n hx hb dX12_order_110 rfl (lv_at hl 1 rfl) ?_
            refine lv_bipush (v := 114) hx hb dX12_order_111 (by decide) ?_
            have I190 : jI121 σ67 := ⟨(by omega), (by omega), (by omega), (by omega), (by omega)⟩
            refine jcallV (As := [.int 114]) (rest := []) ⟨hx, hb, hml, hown, hts⟩ hK hP hA hS hZ (c_X12_takes l D cI cL ad zz hJ σ67 τ 114 (114) jz_114 I190 (by omega)) cw_RX12_196 (jc_55 cI cL ad σ67 τ) rfl ⟨Nat.le_of_ble_eq_true rfl, Nat.le_of_ble_eq_true rfl⟩ rfl rfl rfl hl.1 rfl (Nat.le_of_ble_eq_true rfl) dX12_order_113 ⟨Nat.zero_le _, Nat.zero_le _⟩ (fun r192 σ191 τ191 H locs h191 hP hS => ?_)
            obtain ⟨rfl, f193, f194, I195, h191⟩ := h191
            obtain ⟨i196, i197, i198, i199, i200⟩ : ((-1) ≤ (σ191 55 18).toInt ∧ (σ191 55 18).toInt ≤ 80) ∧ (0 ≤ (σ191 55 19).toInt) ∧ ((σ191 55 19).toInt ≤ (σ191 55 20).toInt) ∧ ((σ191 55 20).toInt ≤ 80) ∧ ((-1) ≤ (σ191 55 21).toInt) := id I195
            have z201 : (σ191 55 18).toInt = (-1) := ((congrArg Int32.toInt (show σ191 55 18 = (-1) from ((f194 18 (by decide)).trans ((f76 18 (by decide)).trans ((f60 18 (by decide)).trans ((f35 18 (by decide)).trans ((jkp 18 eσ15 (by decide)).trans ((jkp 18 eσ14 (by decide)).trans ((jkp 18 eσ12 (by decide)).trans (jsp eσ11)))))))))).trans jz_m1)
            have z202 : (σ191 55 20).toInt = (σ 55 15).toInt := (congrArg Int32.toInt (show σ191 55 20 = (σ 55 15) from ((f194 20 (by decide)).trans ((f76 20 (by decide)).trans ((f60 20 (by decide)).trans ((f35 20 (by decide)).trans ((jkp 20 eσ15 (by decide)).trans (jsp eσ14))))))))
            have z203 : (σ191 55 21).toInt = (σ67 55 21).toInt := (congrArg Int32.toInt (show σ191 55 21 = (σ67 55 21) from (f194 21 (by decide))))
            rcases h191 with h204 | h205
            · obtain ⟨q208, k206, k207⟩ := h204
              have q208 := q208.symm
              subst q208
              refine lv_if_eq (tgt := 131) hx hb dX12_order_116 (by decide) (fun c => absurd c (by decide)) (fun _ => ?_)
              refine lv_aload_n hx hb dX12_order_119 rfl (lv_at hl 1 rfl) ?_
              refine lv_iconst (v := 3) hx hb dX12_order_120 (by decide) ?_
              refine lv_iconst (v := 0) hx hb dX12_order_121 (by decide) ?_
              refine lv_sipush (v := 999) hx hb dX12_order_122 (by decide) ?_
              refine jcallV (As := [.int 3, .int 0, .int 999]) (rest := []) ⟨hx, hb, hml, hown, hts⟩ hK hP hA hS hZ (c_X12_numberRead l D cI cL ad zz hJ σ191 τ 3 (3) jz_3 0 (0) jz_0 999 (999) jz_999 I195 (by omega) (by omega) (by omega)) cw_RX12_227 (jc_55 cI cL ad σ191 τ) rfl ⟨Nat.le_of_ble_eq_true rfl, Nat.le_of_ble_eq_true rfl⟩ rfl rfl rfl hl.1 rfl (Nat.le_of_ble_eq_true rfl) dX12_order_125 ⟨Nat.zero_le _, Nat.zero_le _⟩ (fun r210 σ209 τ209 H locs h209 hP hS => ?_)
              obtain ⟨rfl, f211, f212, I213, h209⟩ := h209
              obtain ⟨i214, i215, i216, i217, i218⟩ : ((-1) ≤ (σ209 55 18).toInt ∧ (σ209 55 18).toInt ≤ 80) ∧ (0 ≤ (σ209 55 19).toInt) ∧ ((σ209 55 19).toInt ≤ (σ209 55 20).toInt) ∧ ((σ209 55 20).toInt ≤ 80) ∧ ((-1) ≤ (σ209 55 21).toInt) := id I213
              have z219 : (σ209 55 18).toInt = (-1) := ((congrArg Int32.toInt (show σ209 55 18 = (-1) from ((f212 18 (by decide)).trans ((f194 18 (by decide)).trans ((f76 18 (by decide)).trans ((f60 18 (by decide)).trans ((f35 18 (by decide)).trans ((jkp 18 eσ15 (by decide)).trans ((jkp 18 eσ14 (by decide)).trans ((jkp 18 eσ12 (by decide)).trans (jsp eσ11))))))))))).trans jz_m1)
              have z220 : (σ209 55 20).toInt = (σ 55 15).toInt := (congrArg Int32.toInt (show σ209 55 20 = (σ 55 15) from ((f212 20 (by decide)).trans ((f194 20 (by decide)).trans ((f76 20 (by decide)).trans ((f60 20 (by decide)).trans ((f35 20 (by decide)).trans ((jkp 20 eσ15 (by decide)).trans (jsp eσ14)))))))))
              have h221 := h209
              obtain ⟨q223, k222⟩ := h221
              refine lv_goto (tgt := 132) hx hb dX12_order_128 (by decide) ?_
              refine lv_istore_n (lv' := [(3, .int r210), (1, .int x18), (0, .ref (ad 55)), (2, .int x66)]) hx hb dX12_order_132 rfl hl (by decide) rfl (fun ls hl => ?_)
              exact lp79 r210 σ209 _ _ ls (by omega) (by omega) (by omega) (by omega) (by omega) (by omega) (by omega) (fun i hi => ((f211 i hi).trans (f193 i hi))) (fun i hi => ((f212 i hi).trans (f194 i (imp_218 i hi))))   hP hS (lv_sub hl [1, 2, 3, 0] rfl)
            · obtain ⟨q225, k224⟩ := h205
              have q225 := q225.symm
              subst q225
              refine lv_if_eq (tgt := 131) hx hb dX12_order_116 (by decide) (fun _ => ?_) (fun c => absurd (by decide) c)
              refine lv_iconst (v := 0) hx hb dX12_order_131 (by decide) ?_
              refine lv_istore_n (lv' := [(3, .int 0), (1, .int x18), (0, .ref (ad 55)), (2, .int x66)]) hx hb dX12_order_132 rfl hl (by decide) rfl (fun ls hl => ?_)
              exact lp79 0 σ191 _ _ ls (by have h90 := jz_0; omega) (by have h90 := jz_0; omega) (by have h90 := jz_0; omega) (by have h90 := jz_0; omega) (by have h90 := jz_0; omega) (by have h90 := jz_0; omega) (by have h90 := jz_0; omega) (fun i hi => (f193 i hi)) (fun i hi => (f194 i (imp_218 i hi)))   hP hS (lv_sub hl [1, 2, 3, 0] rfl)
          refine lv_aload_n hx hb dX12_order_87 rfl (lv_at hl 1 rfl) ?_
          refine lv_bipush (v := 58) hx hb dX12_order_88 (by decide) ?_
          have I226 : jI121 σ51 := ⟨(by omega), (by omega), (by omega), (by omega), (by omega)⟩
          refine jcallV (As := [.int 58]) (rest := []) ⟨hx, hb, hml, hown, hts⟩ hK hP hA hS hZ (c_X12_takes l D cI cL ad zz hJ σ51 τ 58 (58) jz_58 I226 (by omega)) cw_RX12_196 (jc_55 cI cL ad σ51 τ) rfl ⟨Nat.le_of_ble_eq_true rfl, Nat.le_of_ble_eq_true rfl⟩ rfl rfl rfl hl.1 rfl (Nat.le_of_ble_eq_true rfl) dX12_order_90 ⟨Nat.zero_le _, Nat.zero_le _⟩ (fun r228 σ227 τ227 H locs h227 hP hS => ?_)
          obtain ⟨rfl, f229, f230, I231, h227⟩ := h227
          obtain ⟨i232, i233, i234, i235, i236⟩ : ((-1) ≤ (σ227 55 18).toInt ∧ (σ227 55 18).toInt ≤ 80) ∧ (0 ≤ (σ227 55 19).toInt) ∧ ((σ227 55 19).toInt ≤ (σ227 55 20).toInt) ∧ ((σ227 55 20).toInt ≤ 80) ∧ ((-1) ≤ (σ227 55 21).toInt) := id I231
          have z237 : (σ227 55 18).toInt = (-1) := ((congrArg Int32.toInt (show σ227 55 18 = (-1) from ((f230 18 (by decide)).trans ((f60 18 (by decide)).trans ((f35 18 (by decide)).trans ((jkp 18 eσ15 (by decide)).trans ((jkp 18 eσ14 (by decide)).trans ((jkp 18 eσ12 (by decide)).trans (jsp eσ11))))))))).trans jz_m1)
          have z238 : (σ227 55 20).toInt = (σ 55 15).toInt := (congrArg Int32.toInt (show σ227 55 20 = (σ 55 15) from ((f230 20 (by decide)).trans ((f60 20 (by decide)).trans ((f35 20 (by decide)).trans ((jkp 20 eσ15 (by decide)).trans (jsp eσ14)))))))
          have z239 : (σ227 55 21).toInt = (σ51 55 21).toInt := (congrArg Int32.toInt (show σ227 55 21 = (σ51 55 21) from (f230 21 (by decide))))
          rcases h227 with h240 | h241
          · obtain ⟨q244, k242, k243⟩ := h240
            have q244 := q244.symm
            subst q244
            refine lv_if_eq (tgt := 107) hx hb dX12_order_93 (by decide) (fun c => absurd c (by decide)) (fun _ => ?_)
            refine lv_aload_n hx hb dX12_order_96 rfl (lv_at hl 1 rfl) ?_
            refine lv_iconst (v := 2) hx hb dX12_order_97 (by decide) ?_
            refine lv_iconst (v := 1) hx hb dX12_order_98 (by decide) ?_
            refine lv_bipush (v := 12) hx hb dX12_order_99 (by decide) ?_
            refine jcallV (As := [.int 2, .int 1, .int 12]) (rest := []) ⟨hx, hb, hml, hown, hts⟩ hK hP hA hS hZ (c_X12_numberRead l D cI cL ad zz hJ σ227 τ 2 (2) jz_2 1 (1) jz_1 12 (12) jz_12 I231 (by omega) (by omega) (by omega)) cw_RX12_227 (jc_55 cI cL ad σ227 τ) rfl ⟨Nat.le_of_ble_eq_true rfl, Nat.le_of_ble_eq_true rfl⟩ rfl rfl rfl hl.1 rfl (Nat.le_of_ble_eq_true rfl) dX12_order_101 ⟨Nat.zero_le _, Nat.zero_le _⟩ (fun r246 σ245 τ245 H locs h245 hP hS => ?_)
            obtain ⟨rfl, f247, f248, I249, h245⟩ := h245
            obtain ⟨i250, i251, i252, i253, i254⟩ : ((-1) ≤ (σ245 55 18).toInt ∧ (σ245 55 18).toInt ≤ 80) ∧ (0 ≤ (σ245 55 19).toInt) ∧ ((σ245 55 19).toInt ≤ (σ245 55 20).toInt) ∧ ((σ245 55 20).toInt ≤ 80) ∧ ((-1) ≤ (σ245 55 21).toInt) := id I249
            have z255 : (σ245 55 18).toInt = (-1) := ((congrArg Int32.toInt (show σ245 55 18 = (-1) from ((f248 18 (by decide)).trans ((f230 18 (by decide)).trans ((f60 18 (by decide)).trans ((f35 18 (by decide)).trans ((jkp 18 eσ15 (by decide)).trans ((jkp 18 eσ14 (by decide)).trans ((jkp 18 eσ12 (by decide)).trans (jsp eσ11)))))))))).trans jz_m1)
            have z256 : (σ245 55 20).toInt = (σ 55 15).toInt := (congrArg Int32.toInt (show σ245 55 20 = (σ 55 15) from ((f248 20 (by decide)).trans ((f230 20 (by decide)).trans ((f60 20 (by decide)).trans ((f35 20 (by decide)).trans ((jkp 20 eσ15 (by decide)).trans (jsp eσ14))))))))
            have h257 := h245
            obtain ⟨q259, k258⟩ := h257
            refine lv_goto (tgt := 109) hx hb dX12_order_104 (by decide) ?_
            refine lv_istore_n (lv' := [(2, .int r246), (1, .int x18), (0, .ref (ad 55))]) hx hb dX12_order_109 rfl hl (by decide) rfl (fun ls hl => ?_)
            exact lp64 r246 σ245 _ _ ls (by omega) (by omega) (by omega) (by omega) (by omega) (by omega) (by omega) (fun i hi => ((f247 i hi).trans (f229 i hi))) (fun i hi => ((f248 i hi).trans (f230 i (imp_218 i hi))))   hP hS (lv_sub hl [1, 2, 0] rfl)
          · obtain ⟨q261, k260⟩ := h241
            have q261 := q261.symm
            subst q261
            refine lv_if_eq (tgt := 107) hx hb dX12_order_93 (by decide) (fun _ => ?_) (fun c => absurd (by decide) c)
            refine lv_bipush (v := 8) hx hb dX12_order_107 (by decide) ?_
            refine lv_istore_n (lv' := [(2, .int 8), (1, .int x18), (0, .ref (ad 55))]) hx hb dX12_order_109 rfl hl (by decide) rfl (fun ls hl => ?_)
            exact lp64 8 σ227 _ _ ls (by have h90 := jz_8; omega) (by have h90 := jz_8; omega) (by have h90 := jz_8; omega) (by have h90 := jz_8; omega) (by have h90 := jz_8; omega) (by have h90 := jz_8; omega) (by have h90 := jz_8; omega) (fun i hi => (f229 i hi)) (fun i hi => (f230 i (imp_218 i hi)))   hP hS (lv_sub hl [1, 2, 0] rfl)
        refine lv_iload_n hx hb dX12_order_78 rfl (lv_at hl 0 rfl) ?_
        refine lv_if_ne (tgt := 87) hx hb dX12_order_79 (by decide) (fun c262 => ?_) (fun c => absurd (jeq c rfl jz_0) (by omega))
        have kc262 := jne c262 rfl jz_0
        exact lp49  σ19 _ _ ls (by omega) (by omega) (by omega) (by omega) (by omega) (by omega) (by omega) (fun i hi => rfl) (fun i hi => rfl)   hP hS (lv_sub hl [0, 1] rfl)
      · have kc48 := jnle c48 jz_8 rfl
        refine lv_aload_n hx hb dX12_order_31 rfl (lv_at hl 1 rfl) ?_
        have I263 : jI121 σ19 := ⟨(by omega), (by omega), (by omega), (by omega), (by omega)⟩
        refine jcallV (As := []) (rest := []) ⟨hx, hb, hml, hown, hts⟩ hK hP hA hS hZ (c_X12_byteAt_t l D cI cL ad zz hJ σ19 τ I263 (by omega)) cw_RX12_189 (jc_55 cI cL ad σ19 τ) rfl ⟨Nat.le_of_ble_eq_true rfl, Nat.le_of_ble_eq_true rfl⟩ rfl rfl rfl hl.1 rfl (Nat.le_of_ble_eq_true rfl) dX12_order_32 ⟨Nat.zero_le _, Nat.zero_le _⟩ (fun r265 σ264 τ264 H locs h264 hP hS => ?_)
        obtain ⟨⟨rfl, rfl⟩, h264⟩ := h264
        rcases h264 with h266 | h267
        · obtain ⟨q269, k268⟩ := h266
          have q270 : r265 = (σ 63 (σ19 55 19).toNatClampNeg) := q269.trans (by rw [f34 63 (by decide), jnp 63 eσ15 (by decide), jnp 63 eσ14 (by decide), jnp 63 eσ12 (by decide), jnp 63 eσ11 (by decide)])
          have q270e : (σ19 63 (σ19 55 19).toNatClampNeg).toInt = (σ 63 (σ19 55 19).toNatClampNeg).toInt := by rw [← q269, ← q270]
          have q270 := q270.symm
          subst q270
          refine lv_bipush (v := 48) hx hb dX12_order_35 (by decide) ?_
          refine lv_icmp_lt (tgt := 78) hx hb dX12_order_37 (by decide) (fun c271 => ?_) (fun c271 => ?_)
          · have kc271 := jlt c271 rfl jz_48
            have lp272 : ∀  (σ274 : Nat → Nat → Int32) (H : Heap) (locs : List Loc) (ls : Array Slot), (-1) ≤ (σ274 55 18).toInt ∧ (σ274 55 18).toInt ≤ 80 → 0 ≤ (σ274 55 19).toInt → (σ274 55 19).toInt ≤ (σ274 55 20).toInt → (σ274 55 20).toInt ≤ 80 → (-1) ≤ (σ274 55 21).toInt → (σ274 55 18).toInt = (-1) → ((0 ≤ (σ274 55 21).toInt) ∨ (1 ≤ x18.toInt)) → (∀ i : Nat, (i < 55 ∨ 55 < i) → σ274 i = σ19 i) → (∀ k : Nat, (k < 21 ∨ 21 < k) → σ274 55 k = σ19 55 k) → jH D cI cL ad σ274 τ H → va_S (jA ad) s.heap H locs → lv_has ls 5 [(1, .int x18), (0, .ref (ad 55))] → W p l e ({ frames := 2, cells := 0, slots := 0, locals := 50 }) s m args below meth c H locs 0 0 Q (F0 m 87 ls []) := by
              intro  σ274 H locs ls h275 h276 h277 h278 h279 h280 h281 f282 f283 hP hS hl
              have z284 : (σ274 55 18).toInt = (-1) := ((congrArg Int32.toInt (show σ274 55 18 = (-1) from ((f283 18 (by decide)).trans ((f35 18 (by decide)).trans ((jkp 18 eσ15 (by decide)).trans ((jkp 18 eσ14 (by decide)).trans ((jkp 18 eσ12 (by decide)).trans (jsp eσ11)))))))).trans jz_m1)
              have z285 : (σ274 55 19).toInt = (σ19 55 19).toInt := (congrArg Int32.toInt (show σ274 55 19 = (σ19 55 19) from (f283 19 (by decide))))
              have z286 : (σ274 55 20).toInt = (σ 55 15).toInt := (congrArg Int32.toInt (show σ274 55 20 = (σ 55 15) from ((f283 20 (by decide)).trans ((f35 20 (by decide)).trans ((jkp 20 eσ15 (by decide)).trans (jsp eσ14))))))
              have lp287 : ∀ (x289 : Int32) (σ290 : Nat → Nat → Int32) (H : Heap) (locs : List Loc) (ls : Array Slot), (-1) ≤ (σ290 55 18).toInt ∧ (σ290 55 18).toInt ≤ 80 → 0 ≤ (σ290 55 19).toInt → (σ290 55 19).toInt ≤ (σ290 55 20).toInt → (σ290 55 20).toInt ≤ 80 → (-1) ≤ (σ290 55 21).toInt → (σ290 55 18).toInt = (-1) → ((0 ≤ (σ290 55 21).toInt) ∨ (1 ≤ x18.toInt ∧ 1 ≤ x289.toInt ∧ x289.toInt ≤ 12)) → (∀ i : Nat, (i < 55 ∨ 55 < i) → σ290 i = σ274 i) → (∀ k : Nat, (k < 19 ∨ 19 < k) ∧ (k < 21 ∨ 21 < k) → σ290 55 k = σ274 55 k) → jH D cI cL ad σ290 τ H → va_S (jA ad) s.heap H locs → lv_has ls 5 [(1, .int x18), (0, .ref (ad 55)), (2, .int x289)] → W p l e ({ frames := 2, cells := 0, slots := 0, locals := 50 }) s m args below meth c H locs 0 0 Q (F0 m 110 ls []) := by
                intro x289 σ290 H locs ls h291 h292 h293 h294 h295 h296 h297 f298 f299 hP hS hl
                have gx289 := jrg (rfl : x289.toInt = x289.toInt)
                have z300 : (σ290 55 18).toInt = (-1) := ((congrArg Int32.toInt (show σ290 55 18 = (-1) from ((f299 18 (by decide)).trans ((f283 18 (by decide)).trans ((f35 18 (by decide)).trans ((jkp 18 eσ15 (by decide)).trans ((jkp 18 eσ14 (by decide)).trans ((jkp 18 eσ12 (by decide)).trans (jsp eσ11))))))))).trans jz_m1)
                have z301 : (σ290 55 20).toInt = (σ 55 15).toInt := (congrArg Int32.toInt (show σ290 55 20 = (σ 55 15) from ((f299 20 (by decide)).trans ((f283 20 (by decide)).trans ((f35 20 (by decide)).trans ((jkp 20 eσ15 (by decide)).trans (jsp eσ14)))))))
                have lp302 : ∀ (x304 : Int32) (σ305 : Nat → Nat → Int32) (H : Heap) (locs : List Loc) (ls : Array Slot), (-1) ≤ (σ305 55 18).toInt ∧ (σ305 55 18).toInt ≤ 80 → 0 ≤ (σ305 55 19).toInt → (σ305 55 19).toInt ≤ (σ305 55 20).toInt → (σ305 55 20).toInt ≤ 80 → (-1) ≤ (σ305 55 21).toInt → (σ305 55 18).toInt = (-1) → ((0 ≤ (σ305 55 21).toInt) ∨ (1 ≤ x18.toInt ∧ 1 ≤ x289.toInt ∧ x289.toInt ≤ 12 ∧ 0 ≤ x304.toInt ∧ x304.toInt ≤ 999)) → (∀ i : Nat, (i < 55 ∨ 55 < i) → σ305 i = σ290 i) → (∀ k : Nat, (k < 19 ∨ 19 < k) ∧ (k < 21 ∨ 21 < k) → σ305 55 k = σ290 55 k) → jH D cI cL ad σ305 τ H → va_S (jA ad) s.heap H locs → lv_has ls 5 [(1, .int x18), (0, .ref (ad 55)), (2, .int x289), (3, .int x304)] → W p l e ({ frames := 2, cells := 0, slots := 0, locals := 50 }) s m args below meth c H locs 0 0 Q (F0 m 133 ls []) := by
                  intro x304 σ305 H locs ls h306 h307 h308 h309 h310 h311 h312 f313 f314 hP hS hl
                  have gx304 := jrg (rfl : x304.toInt = x304.toInt)
                  have z315 : (σ305 55 18).toInt = (-1) := ((congrArg Int32.toInt (show σ305 55 18 = (-1) from ((f314 18 (by decide)).trans ((f299 18 (by decide)).trans ((f283 18 (by decide)).trans ((f35 18 (by decide)).trans ((jkp 18 eσ15 (by decide)).trans ((jkp 18 eσ14 (by decide)).trans ((jkp 18 eσ12 (by decide)).trans (jsp eσ11)))))))))).trans jz_m1)
                  have z316 : (σ305 55 20).toInt = (σ 55 15).toInt := (congrArg Int32.toInt (show σ305 55 20 = (σ 55 15) from ((f314 20 (by decide)).trans ((f299 20 (by decide)).trans ((f283 20 (by decide)).trans ((f35 20 (by decide)).trans ((jkp 20 eσ15 (by decide)).trans (jsp eσ14))))))))
                  have lp317 : ∀  (σ319 : Nat → Nat → Int32) (H : Heap) (locs : List Loc) (ls : Array Slot), (-1) ≤ (σ319 55 18).toInt ∧ (σ319 55 18).toInt ≤ 80 → 0 ≤ (σ319 55 19).toInt → (σ319 55 19).toInt ≤ (σ319 55 20).toInt → (σ319 55 20).toInt ≤ 80 → (-1) ≤ (σ319 55 21).toInt → (σ319 55 18).toInt = (-1) → ((0 ≤ (σ319 55 21).toInt) ∨ (1 ≤ x18.toInt ∧ 1 ≤ x289.toInt ∧ x289.toInt ≤ 12 ∧ 0 ≤ x304.toInt ∧ x304.toInt ≤ 999)) → (∀ i : Nat, (i < 55 ∨ 55 < i) → σ319 i = σ305 i) → (∀ k : Nat, (k < 21 ∨ 21 < k) → σ319 55 k = σ305 55 k) → jH D cI cL ad σ319 τ H → va_S (jA ad) s.heap H locs → lv_has ls 5 [(1, .int x18), (0, .ref (ad 55)), (2, .int x289), (3, .int x304)] → W p l e ({ frames := 2, cells := 0, slots := 0, locals := 50 }) s m args below meth c H locs 0 0 Q (F0 m 157 ls []) := by
                    intro  σ319 H locs ls h320 h321 h322 h323 h324 h325 h326 f327 f328 hP hS hl
                    have z329 : (σ319 55 18).toInt = (-1) := ((congrArg Int32.toInt (show σ319 55 18 = (-1) from ((f328 18 (by decide)).trans ((f314 18 (by decide)).trans ((f299 18 (by decide)).trans ((f283 18 (by decide)).trans ((f35 18 (by decide)).trans ((jkp 18 eσ15 (by decide)).trans ((jkp 18 eσ14 (by decide)).trans ((jkp 18 eσ12 (by decide)).trans (jsp eσ11))))))))))).trans jz_m1)
                    have z330 : (σ319 55 19).toInt = (σ305 55 19).toInt := (congrArg Int32.toInt (show σ319 55 19 = (σ305 55 19) from (f328 19 (by decide))))
                    have z331 : (σ319 55 20).toInt = (σ 55 15).toInt := (congrArg Int32.toInt (show σ319 55 20 = (σ 55 15) from ((f328 20 (by decide)).trans ((f314 20 (by decide)).trans ((f299 20 (by decide)).trans ((f283 20 (by decide)).trans ((f35 20 (by decide)).trans ((jkp 20 eσ15 (by decide)).trans (jsp eσ14)))))))))
                    refine lv_aload_n hx hb dX12_order_157 rfl (lv_at hl 1 rfl) ?_
                    refine lv_iconst (v := 0) hx hb dX12_order_158 (by decide) ?_
                    refine jput (ty := .int) hx hb hts inlX12 tyX12 tyX12_ok nmX12 hown hK hP hJ hA hS (jc_55 cI cL ad σ319 τ) rfl (k := 15) (by decide) (Nat.le_of_ble_eq_true rfl) (jp_55_15 cI cL ad σ319 τ 0) (hts _ kw_13_6) (fun _ h9 => h9) rfl (by decide +kernel) rfl rfl dX12_order_159 (fun σ332 H locs eσ332 hP hS => ?_)
                    refine lv_aload_n hx hb dX12_order_162 rfl (lv_at hl 1 rfl) ?_
                    refine va_get (D := D) hx hb hts inlX12 hown hK hP 55 (jc_55 cI cL ad σ332 τ) rfl 21 (by decide) (hts _ kw_15_13) (fun _ h9 => h9) rfl dX12_order_163 ?_
                    have m333 : σ332 55 21 = (σ319 55 21) := (jkp 21 eσ332 (by decide))
                    refine jtopr m333 ?_
                    refine lv_if_lt (tgt := 177) hx hb dX12_order_166 (by decide) (fun c334 => ?_) (fun c334 => ?_)
                    · have kc334 := jlt c334 rfl jz_0
                      refine lv_aload_n hx hb dX12_order_177 rfl (lv_at hl 1 rfl) ?_
                      refine lv_iload_n hx hb dX12_order_178 rfl (lv_at hl 0 rfl) ?_
                      refine jput (ty := .int) hx hb hts inlX12 tyX12 tyX12_ok nmX12 hown hK hP hJ hA hS (jc_55 cI cL ad σ332 τ) rfl (k := 10) (by decide) (Nat.le_of_ble_eq_true rfl) (jp_55_10 cI cL ad σ332 τ x18) (hts _ kw_8_15) (fun _ h9 => h9) rfl (by decide +kernel) rfl rfl dX12_order_179 (fun σ335 H locs eσ335 hP hS => ?_)
                      refine lv_aload_n hx hb dX12_order_182 rfl (lv_at hl 1 rfl) ?_
                      refine lv_iload_n hx hb dX12_order_183 rfl (lv_at hl 2 rfl) ?_
                      refine jput (ty := .int) hx hb hts inlX12 tyX12 tyX12_ok nmX12 hown hK hP hJ hA hS (jc_55 cI cL ad σ335 τ) rfl (k := 12) (by decide) (Nat.le_of_ble_eq_true rfl) (jp_55_12 cI cL ad σ335 τ x289) (hts _ kw_8_16) (fun _ h9 => h9) rfl (by decide +kernel) rfl rfl dX12_order_184 (fun σ336 H locs eσ336 hP hS => ?_)
                      refine lv_aload_n hx hb dX12_order_187 rfl (lv_at hl 1 rfl) ?_
                      refine lv_iload_n hx hb dX12_order_188 rfl (lv_at hl 3 rfl) ?_
                      refine jput (ty := .int) hx hb hts inlX12 tyX12 tyX12_ok nmX12 hown hK hP hJ hA hS (jc_55 cI cL ad σ336 τ) rfl (k := 13) (by decide) (Nat.le_of_ble_eq_true rfl) (jp_55_13 cI cL ad σ336 τ x304) (hts _ kw_15_14) (fun _ h9 => h9) rfl (by decide +kernel) rfl rfl dX12_order_189 (fun σ337 H locs eσ337 hP hS => ?_)
                      refine lv_iconst (v := 0) hx hb dX12_order_192 (by decide) ?_
                      refine lv_istore (lv' := [(4, .int 0), (1, .int x18), (0, .ref (ad 55)), (2, .int x289), (3, .int x304)]) hx hb dX12_order_193 hl (by decide) rfl (fun ls hl => ?_)
                      have z342 : (σ337 55 10).toInt = x18.toInt := (congrArg Int32.toInt (show σ337 55 10 = x18 from ((jkp 10 eσ337 (by decide)).trans ((jkp 10 eσ336 (by decide)).trans (jsp eσ335)))))
                      have z343 : (σ337 55 12).toInt = x289.toInt := (congrArg Int32.toInt (show σ337 55 12 = x289 from ((jkp 12 eσ337 (by decide)).trans (jsp eσ336))))
                      have z344 : (σ337 55 13).toInt = x304.toInt := (congrArg Int32.toInt (show σ337 55 13 = x304 from (jsp eσ337)))
                      have w345 : ∀ k : Nat, k < 8 → 0 ≤ (σ337 62 k).toInt ∧ (σ337 62 k).toInt ≤ 3 := (jrr_fr (jnp 62 eσ337 (by decide)) (jrr_fr (jnp 62 eσ336 (by decide)) (jrr_fr (jnp 62 eσ335 (by decide)) (jrr_fr (jnp 62 eσ332 (by decide)) (jrr_fr (f327 62 (by decide)) (jrr_fr (f313 62 (by decide)) (jrr_fr (f298 62 (by decide)) (jrr_fr (f282 62 (by decide)) w40))))))))
                      have w346 : ∀ k : Nat, k < 8 → 0 ≤ (σ337 67 k).toInt ∧ (σ337 67 k).toInt ≤ 3 := (jrr_fr (jnp 67 eσ337 (by decide)) (jrr_fr (jnp 67 eσ336 (by decide)) (jrr_fr (jnp 67 eσ335 (by decide)) (jrr_fr (jnp 67 eσ332 (by decide)) (jrr_fr (f327 67 (by decide)) (jrr_fr (f313 67 (by decide)) (jrr_fr (f298 67 (by decide)) (jrr_fr (f282 67 (by decide)) w41))))))))
                      have I347 : jI104 σ337 := ⟨(by omega), (by omega), (by omega), w345, w346⟩
                      have lp338 : ∀ (n339 : Nat) (x340 : Int32) (σ341 : Nat → Nat → Int32) (H : Heap) (locs : List Loc) (ls : Array Slot), (x18.toInt - x340.toInt : Int) < n339 → 0 ≤ x340.toInt → x340.toInt ≤ 8 → x340.toInt ≤ x18.toInt → (∀ i : Nat, (i < 62 ∨ 62 < i) → σ341 i = σ337 i) → jI104 σ341 → jH D cI cL ad σ341 τ H → va_S (jA ad) s.heap H locs → lv_has ls 5 [(4, .int x340), (1, .int x18), (0, .ref (ad 55)), (2, .int x289), (3, .int x304)] → W p l e ({ frames := 2, cells := 0, slots := 0, locals := 50 }) s m args below meth c H locs 0 0 Q (F0 m 195 ls []) := by
                        intro n339
                        induction n339 with
                        | zero => intro x340 σ341 H locs ls h348 h349 h350 h351; exact absurd h348 (by omega)
                        | succ n339 ihlp338 =>
                          intro x340 σ341 H locs ls h348 h349 h350 h351 f352 p353 hP hS hl
                          obtain ⟨i354, i355, i356, w357, w358⟩ : (1 ≤ (σ341 55 10).toInt ∧ (σ341 55 10).toInt ≤ 8) ∧ (1 ≤ (σ341 55 12).toInt ∧ (σ341 55 12).toInt ≤ 12) ∧ (0 ≤ (σ341 55 13).toInt ∧ (σ341 55 13).toInt ≤ 999) ∧ (∀ k : Nat, k < 8 → 0 ≤ (σ341 62 k).toInt ∧ (σ341 62 k).toInt ≤ 3) ∧ (∀ k : Nat, k < 8 → 0 ≤ (σ341 67 k).toInt ∧ (σ341 67 k).toInt ≤ 3) := id p353
                          have z359 : (σ341 55 10).toInt = x18.toInt := (congrArg Int32.toInt (show σ341 55 10 = x18 from ((congrFun (f352 55 (by decide)) 10).trans ((jkp 10 eσ337 (by decide)).trans ((jkp 10 eσ336 (by decide)).trans (jsp eσ335))))))
                          have z360 : (σ341 55 12).toInt = x289.toInt := (congrArg Int32.toInt (show σ341 55 12 = x289 from ((congrFun (f352 55 (by decide)) 12).trans ((jkp 12 eσ337 (by decide)).trans (jsp eσ336)))))
                          have z361 : (σ341 55 13).toInt = x304.toInt := (congrArg Int32.toInt (show σ341 55 13 = x304 from ((congrFun (f352 55 (by decide)) 13).trans (jsp eσ337))))
                          refine lv_iload hx hb dX12_order_195 (lv_at hl 0 rfl) ?_
                          refine lv_iload_n hx hb dX12_order_197 rfl (lv_at hl 1 rfl) ?_
                          refine lv_icmp_ge (tgt := 221) hx hb dX12_order_198 (by decide) (fun c362 => ?_) (fun c362 => ?_)
                          · have kc362 := jle c362 rfl rfl
                            refine lv_aload_n hx hb dX12_order_221 rfl (lv_at hl 2 rfl) ?_
                            refine lv_iconst (v := 0) hx hb dX12_order_222 (by decide) ?_
                            refine jput (ty := .int) hx hb hts inlX12 tyX12 tyX12_ok nmX12 hown hK hP hJ hA hS (jc_55 cI cL ad σ341 τ) rfl (k := 47) (by decide) (Nat.le_of_ble_eq_true rfl) (jp_55_47 cI cL ad σ341 τ 0) (hts _ kw_15_15) (fun _ h9 => h9) rfl (by decide +kernel) rfl rfl dX12_order_223 (fun σ363 H locs eσ363 hP hS => ?_)
                            refine lv_aload_n hx hb dX12_order_226 rfl (lv_at hl 2 rfl) ?_
                            refine va_get (D := D) hx hb hts inlX12 hown hK hP 55 (jc_55 cI cL ad σ363 τ) rfl 10 (by decide) (hts _ kw_8_15) (fun _ h9 => h9) rfl dX12_order_227 ?_
                            have m364 : σ363 55 10 = x18 := ((jkp 10 eσ363 (by decide)).trans ((congrFun (f352 55 (by decide)) 10).trans ((jkp 10 eσ337 (by decide)).trans ((jkp 10 eσ336 (by decide)).trans (jsp eσ335)))))
                            refine jtopr m364 ?_
                            have z365 : (σ363 55 47).toInt = 0 := ((congrArg Int32.toInt (show σ363 55 47 = 0 from (jsp eσ363))).trans jz_0)
                            have p366 : jBook σ363 := jBook.nil (by omega)
                            have I367 : jI104 σ363 := jI104_fr (jkp 10 eσ363 (by decide)) (jkp 12 eσ363 (by decide)) (jkp 13 eσ363 (by decide)) (jnp 62 eσ363 (by decide)) (jnp 67 eσ363 (by decide)) p353
                            have z368 : (σ363 55 15).toInt = 0 := ((congrArg Int32.toInt (show σ363 55 15 = 0 from ((jkp 15 eσ363 (by decide)).trans ((congrFun (f352 55 (by decide)) 15).trans ((jkp 15 eσ337 (by decide)).trans ((jkp 15 eσ336 (by decide)).trans ((jkp 15 eσ335 (by decide)).trans (jsp eσ332)))))))).trans jz_0)
                            have w369 : ∀ k : Nat, k < 2 → (-1) ≤ (σ363 65 k).toInt ∧ (σ363 65 k).toInt ≤ 80 := (jrr_fr (jnp 65 eσ363 (by decide)) (jrr_fr (f352 65 (by decide)) (jrr_fr (jnp 65 eσ337 (by decide)) (jrr_fr (jnp 65 eσ336 (by decide)) (jrr_fr (jnp 65 eσ335 (by decide)) (jrr_fr (jnp 65 eσ332 (by decide)) (jrr_fr (f327 65 (by decide)) (jrr_fr (f313 65 (by decide)) (jrr_fr (f298 65 (by decide)) (jrr_fr (f282 65 (by decide)) (jrr_fr (f34 65 (by decide)) (jrr_fr (jnp 65 eσ15 (by decide)) (jrr_fr (jnp 65 eσ14 (by decide)) (jrr_fr (jnp 65 eσ12 (by decide)) (jrr_fr (jnp 65 eσ11 (by decide)) w7)))))))))))))))
                            have I370 : jI105 σ363 := ⟨(by omega), w369⟩
                            have z371 : (σ363 55 12).toInt = x289.toInt := (congrArg Int32.toInt (show σ363 55 12 = x289 from ((jkp 12 eσ363 (by decide)).trans ((congrFun (f352 55 (by decide)) 12).trans ((jkp 12 eσ337 (by decide)).trans (jsp eσ336))))))
                            have w372 : ∀ k : Nat, k < 12 → 0 ≤ (σ363 80 k).toInt ∧ (σ363 80 k).toInt ≤ 3 := (jrr_fr (jnp 80 eσ363 (by decide)) (jrr_fr (f352 80 (by decide)) (jrr_fr (jnp 80 eσ337 (by decide)) (jrr_fr (jnp 80 eσ336 (by decide)) (jrr_fr (jnp 80 eσ335 (by decide)) (jrr_fr (jnp 80 eσ332 (by decide)) (jrr_fr (f327 80 (by decide)) (jrr_fr (f313 80 (by decide)) (jrr_fr (f298 80 (by decide)) (jrr_fr (f282 80 (by decide)) (jrr_fr (f34 80 (by decide)) (jrr_fr (jnp 80 eσ15 (by decide)) (jrr_fr (jnp 80 eσ14 (by decide)) (jrr_fr (jnp 80 eσ12 (by decide)) (jrr_fr (jnp 80 eσ11 (by decide)) w10)))))))))))))))
                            have I373 : jI107 σ363 := ⟨(by omega), (by omega), w372⟩
                            exact hret x18 σ363 τ _ _ _ _ rfl ⟨rfl, (fun i hi => ((jnp i eσ363 (imp_221 i hi)).trans ((f352 i (imp_222 i hi)).trans ((jnp i eσ337 (imp_221 i hi)).trans ((jnp i eσ336 (imp_221 i hi)).trans ((jnp i eσ335 (imp_221 i hi)).trans ((jnp i eσ332 (imp_221 i hi)).trans ((f327 i (imp_223 i hi)).trans ((f313 i (imp_223 i hi)).trans ((f298 i (imp_223 i hi)).trans ((f282 i (imp_223 i hi)).trans ((f34 i (imp_224 i hi)).trans ((jnp i eσ15 (imp_221 i hi)).trans ((jnp i eσ14 (imp_221 i hi)).trans ((jnp i eσ12 (imp_221 i hi)).trans (jnp i eσ11 (imp_221 i hi))))))))))))))))), (fun i hi => ((jkp i eσ363 (imp_225 i hi)).trans ((congrFun (f352 55 (by decide)) i).trans ((jkp i eσ337 (imp_226 i hi)).trans ((jkp i eσ336 (imp_227 i hi)).trans ((jkp i eσ335 (imp_228 i hi)).trans ((jkp i eσ332 (imp_229 i hi)).trans ((f328 i (imp_230 i hi)).trans ((f314 i (imp_231 i hi)).trans ((f299 i (imp_231 i hi)).trans ((f283 i (imp_230 i hi)).trans ((f35 i (imp_232 i hi)).trans ((jkp i eσ15 (imp_233 i hi)).trans ((jkp i eσ14 (imp_234 i hi)).trans ((jkp i eσ12 (imp_235 i hi)).trans (jkp i eσ11 (imp_236 i hi))))))))))))))))), I367, I370, I373, p366, (by omega), trivial⟩ hP hS dX12_order_230
                          · have kc362 := jnle c362 rfl rfl
                            refine lv_aload_n hx hb dX12_order_201 rfl (lv_at hl 2 rfl) ?_
                            refine va_get (D := D) hx hb hts inlX12 hown hK hP 55 (jc_55 cI cL ad σ341 τ) rfl 11 (by decide) (hts _ kw_7_8) (fun _ h9 => h9) rfl dX12_order_202 ?_
                            refine lv_iload hx hb dX12_order_205 (lv_at hl 0 rfl) ?_
                            refine lv_aload_n hx hb dX12_order_207 rfl (lv_at hl 2 rfl) ?_
                            refine va_get (D := D) hx hb hts inlX12 hown hK hP 55 (jc_55 cI cL ad σ341 τ) rfl 24 (by decide) (hts _ kw_7_13) (fun _ h9 => h9) rfl dX12_order_208 ?_
                            refine lv_iload hx hb dX12_order_211 (lv_at hl 0 rfl) ?_
                            refine jald hx hb hK hP (jc_67 cI cL ad σ341 τ) (jin rfl (by omega) (by omega)) dX12_order_213 ?_
                            have g374 := w358 _ (jnat (x := x340) rfl (n := 8) (by omega) (by decide))
                            refine lv_topi (fun x375 ex375 => ?_)
                            rw [← ex375] at g374
                            refine jast hx hb hK hP hJ hA hS (jc_62 cI cL ad σ341 τ) (ja_62 cI cL ad σ341 τ _ _) (jin rfl (by omega) (by omega)) dX12_order_214 (fun σ376 H locs eσ376 hP hS => ?_)
                            obtain ⟨x377, ex377⟩ : ∃ y : Int32, y = x340 + 1 := ⟨_, rfl⟩
                            have tx377 : x377.toInt = x340.toInt + 1 := (jadd ex377 rfl jz_1 (by omega) (by omega)).trans (by omega)
                            refine lv_iinc (v := x377) (lv' := [(4, .int x377), (1, .int x18), (0, .ref (ad 55)), (2, .int x289), (3, .int x304)]) hx hb dX12_order_215 hl (k := 0) rfl (by rw [ex377]; rfl) (by decide) rfl (fun ls hl => ?_)
                            refine lv_goto (tgt := 195) hx hb dX12_order_218 (by decide) ?_
                            have z378 : (σ376 55 10).toInt = x18.toInt := (congrArg Int32.toInt (show σ376 55 10 = x18 from ((congrFun (jnp 55 eσ376 (by decide)) 10).trans ((congrFun (f352 55 (by decide)) 10).trans ((jkp 10 eσ337 (by decide)).trans ((jkp 10 eσ336 (by decide)).trans (jsp eσ335)))))))
                            have z379 : (σ376 55 12).toInt = x289.toInt := (congrArg Int32.toInt (show σ376 55 12 = x289 from ((congrFun (jnp 55 eσ376 (by decide)) 12).trans ((congrFun (f352 55 (by decide)) 12).trans ((jkp 12 eσ337 (by decide)).trans (jsp eσ336))))))
                            have z380 : (σ376 55 13).toInt = x304.toInt := (congrArg Int32.toInt (show σ376 55 13 = x304 from ((congrFun (jnp 55 eσ376 (by decide)) 13).trans ((congrFun (f352 55 (by decide)) 13).trans (jsp eσ337)))))
                            have w381 : ∀ k : Nat, k < 8 → 0 ≤ (σ376 62 k).toInt ∧ (σ376 62 k).toInt ≤ 3 := (by rw [eσ376]; exact jrr_up w357 (by omega) (by omega))
                            have w382 : ∀ k : Nat, k < 8 → 0 ≤ (σ376 67 k).toInt ∧ (σ376 67 k).toInt ≤ 3 := (jrr_fr (jnp 67 eσ376 (by decide)) w358)
                            have I383 : jI104 σ376 := ⟨(by omega), (by omega), (by omega), w381, w382⟩
                            exact ihlp338 x377 σ376 _ _ ls (by have h90 := tx377; omega) (by have h90 := tx377; omega) (by have h90 := tx377; omega) (by have h90 := tx377; omega) (fun i hi => ((jnp i eσ376 (imp_237 i hi)).trans (f352 i hi)))   I383 hP hS (lv_sub hl [0, 1, 2, 3, 4] rfl)
                      exact lp338 1000000 0 σ337 _ _ ls (by have h90 := jz_0; omega) (by have h90 := jz_0; omega) (by have h90 := jz_0; omega) (by have h90 := jz_0; omega) (fun _ _ => rfl)  I347 hP hS hl
                    · have kc334 := jnlt c334 rfl jz_0
                      refine lv_bipush (v := (-100)) hx hb dX12_order_169 (by decide) ?_
                      refine lv_aload_n hx hb dX12_order_171 rfl (lv_at hl 1 rfl) ?_
                      refine va_get (D := D) hx hb hts inlX12 hown hK hP 55 (jc_55 cI cL ad σ332 τ) rfl 21 (by decide) (hts _ kw_15_13) (fun _ h9 => h9) rfl dX12_order_172 ?_
                      refine jtopr m333 ?_
                      have g384 := jrg (rfl : (σ319 55 21).toInt = (σ319 55 21).toInt)
                      refine lv_isub hx hb dX12_order_175 ?_
                      refine lv_topi (fun x385 ex385 => ?_)
                      have gx385 := jrg (rfl : x385.toInt = x385.toInt)
                      have I386 : jI104 σ332 := jI104_fr ((jkp 10 eσ332 (by decide)).trans ((f328 10 (by decide)).trans ((f314 10 (by decide)).trans ((f299 10 (by decide)).trans (f283 10 (by decide)))))) ((jkp 12 eσ332 (by decide)).trans ((f328 12 (by decide)).trans ((f314 12 (by decide)).trans ((f299 12 (by decide)).trans (f283 12 (by decide)))))) ((jkp 13 eσ332 (by decide)).trans ((f328 13 (by decide)).trans ((f314 13 (by decide)).trans ((f299 13 (by decide)).trans (f283 13 (by decide)))))) ((jnp 62 eσ332 (by decide)).trans ((f327 62 (by decide)).trans ((f313 62 (by decide)).trans ((f298 62 (by decide)).trans (f282 62 (by decide)))))) ((jnp 67 eσ332 (by decide)).trans ((f327 67 (by decide)).trans ((f313 67 (by decide)).trans ((f298 67 (by decide)).trans (f282 67 (by decide)))))) p36
                      have z387 : (σ332 55 15).toInt = 0 := ((congrArg Int32.toInt (show σ332 55 15 = 0 from (jsp eσ332))).trans jz_0)
                      have w388 : ∀ k : Nat, k < 2 → (-1) ≤ (σ332 65 k).toInt ∧ (σ332 65 k).toInt ≤ 80 := (jrr_fr (jnp 65 eσ332 (by decide)) (jrr_fr (f327 65 (by decide)) (jrr_fr (f313 65 (by decide)) (jrr_fr (f298 65 (by decide)) (jrr_fr (f282 65 (by decide)) (jrr_fr (f34 65 (by decide)) (jrr_fr (jnp 65 eσ15 (by decide)) (jrr_fr (jnp 65 eσ14 (by decide)) (jrr_fr (jnp 65 eσ12 (by decide)) (jrr_fr (jnp 65 eσ11 (by decide)) w7))))))))))
                      have I389 : jI105 σ332 := ⟨(by omega), w388⟩
                      have I390 : jI107 σ332 := jI107_fr ((jkp 12 eσ332 (by decide)).trans ((f328 12 (by decide)).trans ((f314 12 (by decide)).trans ((f299 12 (by decide)).trans ((f283 12 (by decide)).trans ((f35 12 (by decide)).trans ((jkp 12 eσ15 (by decide)).trans ((jkp 12 eσ14 (by decide)).trans ((jkp 12 eσ12 (by decide)).trans (jkp 12 eσ11 (by decide))))))))))) ((jkp 47 eσ332 (by decide)).trans ((f328 47 (by decide)).trans ((f314 47 (by decide)).trans ((f299 47 (by decide)).trans ((f283 47 (by decide)).trans ((f35 47 (by decide)).trans ((jkp 47 eσ15 (by decide)).trans ((jkp 47 eσ14 (by decide)).trans ((jkp 47 eσ12 (by decide)).trans (jkp 47 eσ11 (by decide))))))))))) ((jnp 80 eσ332 (by decide)).trans ((f327 80 (by decide)).trans ((f313 80 (by decide)).trans ((f298 80 (by decide)).trans ((f282 80 (by decide)).trans ((f34 80 (by decide)).trans ((jnp 80 eσ15 (by decide)).trans ((jnp 80 eσ14 (by decide)).trans ((jnp 80 eσ12 (by decide)).trans (jnp 80 eσ11 (by decide))))))))))) hI107
                      have p391 : jBook σ332 := jBook.fr ((jkp 47 eσ332 (by decide)).trans ((f328 47 (by decide)).trans ((f314 47 (by decide)).trans ((f299 47 (by decide)).trans ((f283 47 (by decide)).trans ((f35 47 (by decide)).trans ((jkp 47 eσ15 (by decide)).trans ((jkp 47 eσ14 (by decide)).trans ((jkp 47 eσ12 (by decide)).trans (jkp 47 eσ11 (by decide))))))))))) ((jkp 10 eσ332 (by decide)).trans ((f328 10 (by decide)).trans ((f314 10 (by decide)).trans ((f299 10 (by decide)).trans ((f283 10 (by decide)).trans ((f35 10 (by decide)).trans ((jkp 10 eσ15 (by decide)).trans ((jkp 10 eσ14 (by decide)).trans ((jkp 10 eσ12 (by decide)).trans (jkp 10 eσ11 (by decide))))))))))) ((jnp 81 eσ332 (by decide)).trans ((f327 81 (by decide)).trans ((f313 81 (by decide)).trans ((f298 81 (by decide)).trans ((f282 81 (by decide)).trans ((f34 81 (by decide)).trans ((jnp 81 eσ15 (by decide)).trans ((jnp 81 eσ14 (by decide)).trans ((jnp 81 eσ12 (by decide)).trans (jnp 81 eσ11 (by decide))))))))))) hs_jBook
                      exact hret x385 σ332 τ _ _ _ _ rfl ⟨rfl, (fun i hi => ((jnp i eσ332 (imp_221 i hi)).trans ((f327 i (imp_223 i hi)).trans ((f313 i (imp_223 i hi)).trans ((f298 i (imp_223 i hi)).trans ((f282 i (imp_223 i hi)).trans ((f34 i (imp_224 i hi)).trans ((jnp i eσ15 (imp_221 i hi)).trans ((jnp i eσ14 (imp_221 i hi)).trans ((jnp i eσ12 (imp_221 i hi)).trans (jnp i eσ11 (imp_221 i hi)))))))))))), (fun i hi => ((jkp i eσ332 (imp_229 i hi)).trans ((f328 i (imp_230 i hi)).trans ((f314 i (imp_231 i hi)).trans ((f299 i (imp_231 i hi)).trans ((f283 i (imp_230 i hi)).trans ((f35 i (imp_232 i hi)).trans ((jkp i eσ15 (imp_233 i hi)).trans ((jkp i eσ14 (imp_234 i hi)).trans ((jkp i eσ12 (imp_235 i hi)).trans (jkp i eσ11 (imp_236 i hi)))))))))))), I386, I389, I390, p391, (by omega), trivial⟩ hP hS dX12_order_176
                  refine lv_aload_n hx hb dX12_order_133 rfl (lv_at hl 1 rfl) ?_
                  refine va_get (D := D) hx hb hts inlX12 hown hK hP 55 (jc_55 cI cL ad σ305 τ) rfl 21 (by decide) (hts _ kw_15_13) (fun _ h9 => h9) rfl dX12_order_134 ?_
                  refine lv_if_ge (tgt := 157) hx hb dX12_order_137 (by decide) (fun c392 => ?_) (fun c392 => ?_)
                  · have kc392 := jle c392 jz_0 rfl
                    exact lp317  σ305 _ _ ls (by omega) (by omega) (by omega) (by omega) (by omega) (by omega) (by omega) (fun i hi => rfl) (fun i hi => rfl)   hP hS (lv_sub hl [0, 1, 2, 3] rfl)
                  · have kc392 := jnle c392 jz_0 rfl
                    refine lv_aload_n hx hb dX12_order_140 rfl (lv_at hl 1 rfl) ?_
                    refine va_get (D := D) hx hb hts inlX12 hown hK hP 55 (jc_55 cI cL ad σ305 τ) rfl 19 (by decide) (hts _ kw_15_11) (fun _ h9 => h9) rfl dX12_order_141 ?_
                    refine lv_aload_n hx hb dX12_order_144 rfl (lv_at hl 1 rfl) ?_
                    refine va_get (D := D) hx hb hts inlX12 hown hK hP 55 (jc_55 cI cL ad σ305 τ) rfl 20 (by decide) (hts _ kw_15_12) (fun _ h9 => h9) rfl dX12_order_145 ?_
                    have m393 : σ305 55 20 = (σ 55 15) := ((f314 20 (by decide)).trans ((f299 20 (by decide)).trans ((f283 20 (by decide)).trans ((f35 20 (by decide)).trans ((jkp 20 eσ15 (by decide)).trans (jsp eσ14))))))
                    refine jtopr m393 ?_
                    refine lv_icmp_ge (tgt := 157) hx hb dX12_order_148 (by decide) (fun c394 => ?_) (fun c394 => ?_)
                    · have kc394 := jle c394 rfl rfl
                      exact lp317  σ305 _ _ ls (by omega) (by omega) (by omega) (by omega) (by omega) (by omega) (by omega) (fun i hi => rfl) (fun i hi => rfl)   hP hS (lv_sub hl [0, 1, 2, 3] rfl)
                    · have kc394 := jnle c394 rfl rfl
                      refine lv_aload_n hx hb dX12_order_151 rfl (lv_at hl 1 rfl) ?_
                      have I395 : jI121 σ305 := ⟨(by omega), (by omega), (by omega), (by omega), (by omega)⟩
                      refine jcallV (As := []) (rest := []) ⟨hx, hb, hml, hown, hts⟩ hK hP hA hS hZ (c_X12_wrong l D cI cL ad zz hJ σ305 τ I395) cw_RX12_214 (jc_55 cI cL ad σ305 τ) rfl ⟨Nat.le_of_ble_eq_true rfl, Nat.le_of_ble_eq_true rfl⟩ rfl rfl rfl hl.1 rfl (Nat.le_of_ble_eq_true rfl) dX12_order_152 ⟨Nat.zero_le _, Nat.zero_le _⟩ (fun r397 σ396 τ396 H locs h396 hP hS => ?_)
                      obtain ⟨rfl, f398, f399, I400, h396⟩ := h396
                      obtain ⟨i401, i402, i403, i404, i405⟩ : ((-1) ≤ (σ396 55 18).toInt ∧ (σ396 55 18).toInt ≤ 80) ∧ (0 ≤ (σ396 55 19).toInt) ∧ ((σ396 55 19).toInt ≤ (σ396 55 20).toInt) ∧ ((σ396 55 20).toInt ≤ 80) ∧ ((-1) ≤ (σ396 55 21).toInt) := id I400
                      have z406 : (σ396 55 18).toInt = (-1) := ((congrArg Int32.toInt (show σ396 55 18 = (-1) from ((f399 18 (by decide)).trans ((f314 18 (by decide)).trans ((f299 18 (by decide)).trans ((f283 18 (by decide)).trans ((f35 18 (by decide)).trans ((jkp 18 eσ15 (by decide)).trans ((jkp 18 eσ14 (by decide)).trans ((jkp 18 eσ12 (by decide)).trans (jsp eσ11))))))))))).trans jz_m1)
                      have z407 : (σ396 55 19).toInt = (σ305 55 19).toInt := (congrArg Int32.toInt (show σ396 55 19 = (σ305 55 19) from (f399 19 (by decide))))
                      have z408 : (σ396 55 20).toInt = (σ 55 15).toInt := (congrArg Int32.toInt (show σ396 55 20 = (σ 55 15) from ((f399 20 (by decide)).trans m393)))
                      obtain ⟨k409, h396⟩ := h396
                      have h410 := h396
                      obtain ⟨q412, k411⟩ := h410
                      have q412 := q412.symm
                      subst q412
                      refine lv_istore (lv' := [(4, .int 0), (1, .int x18), (0, .ref (ad 55)), (2, .int x289), (3, .int x304)]) hx hb dX12_order_155 hl (by decide) rfl (fun ls hl => ?_)
                      exact lp317  σ396 _ _ ls (by omega) (by omega) (by omega) (by omega) (by omega) (by omega) (by omega) (fun i hi => (f398 i hi)) (fun i hi => (f399 i hi))   hP hS (lv_sub hl [1, 2, 3, 4] rfl)
                refine lv_aload_n hx hb dX12_order_110 rfl (lv_at hl 1 rfl) ?_
                refine lv_bipush (v := 114) hx hb dX12_order_111 (by decide) ?_
                have I413 : jI121 σ290 := ⟨(by omega), (by omega), (by omega), (by omega), (by omega)⟩
                refine jcallV (As := [.int 114]) (rest := []) ⟨hx, hb, hml, hown, hts⟩ hK hP hA hS hZ (c_X12_takes l D cI cL ad zz hJ σ290 τ 114 (114) jz_114 I413 (by omega)) cw_RX12_196 (jc_55 cI cL ad σ290 τ) rfl ⟨Nat.le_of_ble_eq_true rfl, Nat.le_of_ble_eq_true rfl⟩ rfl rfl rfl hl.1 rfl (Nat.le_of_ble_eq_true rfl) dX12_order_113 ⟨Nat.zero_le _, Nat.zero_le _⟩ (fun r415 σ414 τ414 H locs h414 hP hS => ?_)
                obtain ⟨rfl, f416, f417, I418, h414⟩ := h414
                obtain ⟨i419, i420, i421, i422, i423⟩ : ((-1) ≤ (σ414 55 18).toInt ∧ (σ414 55 18).toInt ≤ 80) ∧ (0 ≤ (σ414 55 19).toInt) ∧ ((σ414 55 19).toInt ≤ (σ414 55 20).toInt) ∧ ((σ414 55 20).toInt ≤ 80) ∧ ((-1) ≤ (σ414 55 21).toInt) := id I418
                have z424 : (σ414 55 18).toInt = (-1) := ((congrArg Int32.toInt (show σ414 55 18 = (-1) from ((f417 18 (by decide)).trans ((f299 18 (by decide)).trans ((f283 18 (by decide)).trans ((f35 18 (by decide)).trans ((jkp 18 eσ15 (by decide)).trans ((jkp 18 eσ14 (by decide)).trans ((jkp 18 eσ12 (by decide)).trans (jsp eσ11)))))))))).trans jz_m1)
                have z425 : (σ414 55 20).toInt = (σ 55 15).toInt := (congrArg Int32.toInt (show σ414 55 20 = (σ 55 15) from ((f417 20 (by decide)).trans ((f299 20 (by decide)).trans ((f283 20 (by decide)).trans ((f35 20 (by decide)).trans ((jkp 20 eσ15 (by decide)).trans (jsp eσ14))))))))
                have z426 : (σ414 55 21).toInt = (σ290 55 21).toInt := (congrArg Int32.toInt (show σ414 55 21 = (σ290 55 21) from (f417 21 (by decide))))
                rcases h414 with h427 | h428
                · obtain ⟨q431, k429, k430⟩ := h427
                  have q431 := q431.symm
                  subst q431
                  refine lv_if_eq (tgt := 131) hx hb dX12_order_116 (by decide) (fun c => absurd c (by decide)) (fun _ => ?_)
                  refine lv_aload_n hx hb dX12_order_119 rfl (lv_at hl 1 rfl) ?_
                  refine lv_iconst (v := 3) hx hb dX12_order_120 (by decide) ?_
                  refine lv_iconst (v := 0) hx hb dX12_order_121 (by decide) ?_
                  refine lv_sipush (v := 999) hx hb dX12_order_122 (by decide) ?_
                  refine jcallV (As := [.int 3, .int 0, .int 999]) (rest := []) ⟨hx, hb, hml, hown, hts⟩ hK hP hA hS hZ (c_X12_numberRead l D cI cL ad zz hJ σ414 τ 3 (3) jz_3 0 (0) jz_0 999 (999) jz_999 I418 (by omega) (by omega) (by omega)) cw_RX12_227 (jc_55 cI cL ad σ414 τ) rfl ⟨Nat.le_of_ble_eq_true rfl, Nat.le_of_ble_eq_true rfl⟩ rfl rfl rfl hl.1 rfl (Nat.le_of_ble_eq_true rfl) dX12_order_125 ⟨Nat.zero_le _, Nat.zero_le _⟩ (fun r433 σ432 τ432 H locs h432 hP hS => ?_)
                  obtain ⟨rfl, f434, f435, I436, h432⟩ := h432
                  obtain ⟨i437, i438, i439, i440, i441⟩ : ((-1) ≤ (σ432 55 18).toInt ∧ (σ432 55 18).toInt ≤ 80) ∧ (0 ≤ (σ432 55 19).toInt) ∧ ((σ432 55 19).toInt ≤ (σ432 55 20).toInt) ∧ ((σ432 55 20).toInt ≤ 80) ∧ ((-1) ≤ (σ432 55 21).toInt) := id I436
                  have z442 : (σ432 55 18).toInt = (-1) := ((congrArg Int32.toInt (show σ432 55 18 = (-1) from ((f435 18 (by decide)).trans ((f417 18 (by decide)).trans ((f299 18 (by decide)).trans ((f283 18 (by decide)).trans ((f35 18 (by decide)).trans ((jkp 18 eσ15 (by decide)).trans ((jkp 18 eσ14 (by decide)).trans ((jkp 18 eσ12 (by decide)).trans (jsp eσ11))))))))))).trans jz_m1)
                  have z443 : (σ432 55 20).toInt = (σ 55 15).toInt := (congrArg Int32.toInt (show σ432 55 20 = (σ 55 15) from ((f435 20 (by decide)).trans ((f417 20 (by decide)).trans ((f299 20 (by decide)).trans ((f283 20 (by decide)).trans ((f35 20 (by decide)).trans ((jkp 20 eσ15 (by decide)).trans (jsp eσ14)))))))))
                  have h444 := h432
                  obtain ⟨q446, k445⟩ := h444
                  refine lv_goto (tgt := 132) hx hb dX12_order_128 (by decide) ?_
                  refine lv_istore_n (lv' := [(3, .int r433), (1, .int x18), (0, .ref (ad 55)), (2, .int x289)]) hx hb dX12_order_132 rfl hl (by decide) rfl (fun ls hl => ?_)
                  exact lp302 r433 σ432 _ _ ls (by omega) (by omega) (by omega) (by omega) (by omega) (by omega) (by omega) (fun i hi => ((f434 i hi).trans (f416 i hi))) (fun i hi => ((f435 i hi).trans (f417 i (imp_218 i hi))))   hP hS (lv_sub hl [1, 2, 3, 0] rfl)
                · obtain ⟨q448, k447⟩ := h428
                  have q448 := q448.symm
                  subst q448
                  refine lv_if_eq (tgt := 131) hx hb dX12_order_116 (by decide) (fun _ => ?_) (fun c => absurd (by decide) c)
                  refine lv_iconst (v := 0) hx hb dX12_order_131 (by decide) ?_
                  refine lv_istore_n (lv' := [(3, .int 0), (1, .int x18), (0, .ref (ad 55)), (2, .int x289)]) hx hb dX12_order_132 rfl hl (by decide) rfl (fun ls hl => ?_)
                  exact lp302 0 σ414 _ _ ls (by have h90 := jz_0; omega) (by have h90 := jz_0; omega) (by have h90 := jz_0; omega) (by have h90 := jz_0; omega) (by have h90 := jz_0; omega) (by have h90 := jz_0; omega) (by have h90 := jz_0; omega) (fun i hi => (f416 i hi)) (fun i hi => (f417 i (imp_218 i hi)))   hP hS (lv_sub hl [1, 2, 3, 0] rfl)
              refine lv_aload_n hx hb dX12_order_87 rfl (lv_at hl 1 rfl) ?_
              refine lv_bipush (v := 58) hx hb dX12_order_88 (by decide) ?_
              have I449 : jI121 σ274 := ⟨(by omega), (by omega), (by omega), (by omega), (by omega)⟩
              refine jcallV (As := [.int 58]) (rest := []) ⟨hx, hb, hml, hown, hts⟩ hK hP hA hS hZ (c_X12_takes l D cI cL ad zz hJ σ274 τ 58 (58) jz_58 I449 (by omega)) cw_RX12_196 (jc_55 cI cL ad σ274 τ) rfl ⟨Nat.le_of_ble_eq_true rfl, Nat.le_of_ble_eq_true rfl⟩ rfl rfl rfl hl.1 rfl (Nat.le_of_ble_eq_true rfl) dX12_order_90 ⟨Nat.zero_le _, Nat.zero_le _⟩ (fun r451 σ450 τ450 H locs h450 hP hS => ?_)
              obtain ⟨rfl, f452, f453, I454, h450⟩ := h450
              obtain ⟨i455, i456, i457, i458, i459⟩ : ((-1) ≤ (σ450 55 18).toInt ∧ (σ450 55 18).toInt ≤ 80) ∧ (0 ≤ (σ450 55 19).toInt) ∧ ((σ450 55 19).toInt ≤ (σ450 55 20).toInt) ∧ ((σ450 55 20).toInt ≤ 80) ∧ ((-1) ≤ (σ450 55 21).toInt) := id I454
              have z460 : (σ450 55 18).toInt = (-1) := ((congrArg Int32.toInt (show σ450 55 18 = (-1) from ((f453 18 (by decide)).trans ((f283 18 (by decide)).trans ((f35 18 (by decide)).trans ((jkp 18 eσ15 (by decide)).trans ((jkp 18 eσ14 (by decide)).trans ((jkp 18 eσ12 (by decide)).trans (jsp eσ11))))))))).trans jz_m1)
              have z461 : (σ450 55 20).toInt = (σ 55 15).toInt := (congrArg Int32.toInt (show σ450 55 20 = (σ 55 15) from ((f453 20 (by decide)).trans ((f283 20 (by decide)).trans ((f35 20 (by decide)).trans ((jkp 20 eσ15 (by decide)).trans (jsp eσ14)))))))
              have z462 : (σ450 55 21).toInt = (σ274 55 21).toInt := (congrArg Int32.toInt (show σ450 55 21 = (σ274 55 21) from (f453 21 (by decide))))
              rcases h450 with h463 | h464
              · obtain ⟨q467, k465, k466⟩ := h463
                have q467 := q467.symm
                subst q467
                refine lv_if_eq (tgt := 107) hx hb dX12_order_93 (by decide) (fun c => absurd c (by decide)) (fun _ => ?_)
                refine lv_aload_n hx hb dX12_order_96 rfl (lv_at hl 1 rfl) ?_
                refine lv_iconst (v := 2) hx hb dX12_order_97 (by decide) ?_
                refine lv_iconst (v := 1) hx hb dX12_order_98 (by decide) ?_
                refine lv_bipush (v := 12) hx hb dX12_order_99 (by decide) ?_
                refine jcallV (As := [.int 2, .int 1, .int 12]) (rest := []) ⟨hx, hb, hml, hown, hts⟩ hK hP hA hS hZ (c_X12_numberRead l D cI cL ad zz hJ σ450 τ 2 (2) jz_2 1 (1) jz_1 12 (12) jz_12 I454 (by omega) (by omega) (by omega)) cw_RX12_227 (jc_55 cI cL ad σ450 τ) rfl ⟨Nat.le_of_ble_eq_true rfl, Nat.le_of_ble_eq_true rfl⟩ rfl rfl rfl hl.1 rfl (Nat.le_of_ble_eq_true rfl) dX12_order_101 ⟨Nat.zero_le _, Nat.zero_le _⟩ (fun r469 σ468 τ468 H locs h468 hP hS => ?_)
                obtain ⟨rfl, f470, f471, I472, h468⟩ := h468
                obtain ⟨i473, i474, i475, i476, i477⟩ : ((-1) ≤ (σ468 55 18).toInt ∧ (σ468 55 18).toInt ≤ 80) ∧ (0 ≤ (σ468 55 19).toInt) ∧ ((σ468 55 19).toInt ≤ (σ468 55 20).toInt) ∧ ((σ468 55 20).toInt ≤ 80) ∧ ((-1) ≤ (σ468 55 21).toInt) := id I472
                have z478 : (σ468 55 18).toInt = (-1) := ((congrArg Int32.toInt (show σ468 55 18 = (-1) from ((f471 18 (by decide)).trans ((f453 18 (by decide)).trans ((f283 18 (by decide)).trans ((f35 18 (by decide)).trans ((jkp 18 eσ15 (by decide)).trans ((jkp 18 eσ14 (by decide)).trans ((jkp 18 eσ12 (by decide)).trans (jsp eσ11)))))))))).trans jz_m1)
                have z479 : (σ468 55 20).toInt = (σ 55 15).toInt := (congrArg Int32.toInt (show σ468 55 20 = (σ 55 15) from ((f471 20 (by decide)).trans ((f453 20 (by decide)).trans ((f283 20 (by decide)).trans ((f35 20 (by decide)).trans ((jkp 20 eσ15 (by decide)).trans (jsp eσ14))))))))
                have h480 := h468
                obtain ⟨q482, k481⟩ := h480
                refine lv_goto (tgt := 109) hx hb dX12_order_104 (by decide) ?_
                refine lv_istore_n (lv' := [(2, .int r469), (1, .int x18), (0, .ref (ad 55))]) hx hb dX12_order_109 rfl hl (by decide) rfl (fun ls hl => ?_)
                exact lp287 r469 σ468 _ _ ls (by omega) (by omega) (by omega) (by omega) (by omega) (by omega) (by omega) (fun i hi => ((f470 i hi).trans (f452 i hi))) (fun i hi => ((f471 i hi).trans (f453 i (imp_218 i hi))))   hP hS (lv_sub hl [1, 2, 0] rfl)
              · obtain ⟨q484, k483⟩ := h464
                have q484 := q484.symm
                subst q484
                refine lv_if_eq (tgt := 107) hx hb dX12_order_93 (by decide) (fun _ => ?_) (fun c => absurd (by decide) c)
                refine lv_bipush (v := 8) hx hb dX12_order_107 (by decide) ?_
                refine lv_istore_n (lv' := [(2, .int 8), (1, .int x18), (0, .ref (ad 55))]) hx hb dX12_order_109 rfl hl (by decide) rfl (fun ls hl => ?_)
                exact lp287 8 σ450 _ _ ls (by have h90 := jz_8; omega) (by have h90 := jz_8; omega) (by have h90 := jz_8; omega) (by have h90 := jz_8; omega) (by have h90 := jz_8; omega) (by have h90 := jz_8; omega) (by have h90 := jz_8; omega) (fun i hi => (f452 i hi)) (fun i hi => (f453 i (imp_218 i hi)))   hP hS (lv_sub hl [1, 2, 0] rfl)
            refine lv_iload_n hx hb dX12_order_78 rfl (lv_at hl 0 rfl) ?_
            refine lv_if_ne (tgt := 87) hx hb dX12_order_79 (by decide) (fun c485 => ?_) (fun c485 => ?_)
            · have kc485 := jne c485 rfl jz_0
              exact lp272  σ19 _ _ ls (by omega) (by omega) (by omega) (by omega) (by omega) (by omega) (by omega) (fun i hi => rfl) (fun i hi => rfl)   hP hS (lv_sub hl [0, 1] rfl)
            · have kc485 := jeq c485 rfl jz_0
              refine lv_aload_n hx hb dX12_order_82 rfl (lv_at hl 1 rfl) ?_
              refine jcallV (As := []) (rest := []) ⟨hx, hb, hml, hown, hts⟩ hK hP hA hS hZ (c_X12_wrong l D cI cL ad zz hJ σ19 τ I263) cw_RX12_214 (jc_55 cI cL ad σ19 τ) rfl ⟨Nat.le_of_ble_eq_true rfl, Nat.le_of_ble_eq_true rfl⟩ rfl rfl rfl hl.1 rfl (Nat.le_of_ble_eq_true rfl) dX12_order_83 ⟨Nat.zero_le _, Nat.zero_le _⟩ (fun r487 σ486 τ486 H locs h486 hP hS => ?_)
              obtain ⟨rfl, f488, f489, I490, h486⟩ := h486
              obtain ⟨i491, i492, i493, i494, i495⟩ : ((-1) ≤ (σ486 55 18).toInt ∧ (σ486 55 18).toInt ≤ 80) ∧ (0 ≤ (σ486 55 19).toInt) ∧ ((σ486 55 19).toInt ≤ (σ486 55 20).toInt) ∧ ((σ486 55 20).toInt ≤ 80) ∧ ((-1) ≤ (σ486 55 21).toInt) := id I490
              have z496 : (σ486 55 18).toInt = (-1) := ((congrArg Int32.toInt (show σ486 55 18 = (-1) from ((f489 18 (by decide)).trans ((f35 18 (by decide)).trans ((jkp 18 eσ15 (by decide)).trans ((jkp 18 eσ14 (by decide)).trans ((jkp 18 eσ12 (by decide)).trans (jsp eσ11)))))))).trans jz_m1)
              have z497 : (σ486 55 19).toInt = (σ19 55 19).toInt := (congrArg Int32.toInt (show σ486 55 19 = (σ19 55 19) from (f489 19 (by decide))))
              have z498 : (σ486 55 20).toInt = (σ 55 15).toInt := (congrArg Int32.toInt (show σ486 55 20 = (σ 55 15) from ((f489 20 (by decide)).trans ((f35 20 (by decide)).trans ((jkp 20 eσ15 (by decide)).trans (jsp eσ14))))))
              obtain ⟨k499, h486⟩ := h486
              have h500 := h486
              obtain ⟨q502, k501⟩ := h500
              have q502 := q502.symm
              subst q502
              refine lv_istore_n (lv' := [(2, .int 0), (1, .int x18), (0, .ref (ad 55))]) hx hb dX12_order_86 rfl hl (by decide) rfl (fun ls hl => ?_)
              exact lp272  σ486 _ _ ls (by omega) (by omega) (by omega) (by omega) (by omega) (by omega) (by omega) (fun i hi => (f488 i hi)) (fun i hi => (f489 i hi))   hP hS (lv_sub hl [1, 2] rfl)
          · have kc271 := jnlt c271 rfl jz_48
            refine lv_aload_n hx hb dX12_order_40 rfl (lv_at hl 1 rfl) ?_
            refine jcallV (As := []) (rest := []) ⟨hx, hb, hml, hown, hts⟩ hK hP hA hS hZ (c_X12_byteAt_t l D cI cL ad zz hJ σ19 τ I263 (by omega)) cw_RX12_189 (jc_55 cI cL ad σ19 τ) rfl ⟨Nat.le_of_ble_eq_true rfl, Nat.le_of_ble_eq_true rfl⟩ rfl rfl rfl hl.1 rfl (Nat.le_of_ble_eq_true rfl) dX12_order_41 ⟨Nat.zero_le _, Nat.zero_le _⟩ (fun r504 σ503 τ503 H locs h503 hP hS => ?_)
            obtain ⟨⟨rfl, rfl⟩, h503⟩ := h503
            rcases h503 with h505 | h506
            · obtain ⟨q508, k507⟩ := h505
              have q509 : r504 = (σ 63 (σ19 55 19).toNatClampNeg) := q508.trans (by rw [f34 63 (by decide), jnp 63 eσ15 (by decide), jnp 63 eσ14 (by decide), jnp 63 eσ12 (by decide), jnp 63 eσ11 (by decide)])
              have q509e : (σ19 63 (σ19 55 19).toNatClampNeg).toInt = (σ 63 (σ19 55 19).toNatClampNeg).toInt := by rw [← q508, ← q509]
              have q509 := q509.symm
              subst q509
              refine lv_bipush (v := 51) hx hb dX12_order_44 (by decide) ?_
              refine lv_icmp_gt (tgt := 78) hx hb dX12_order_46 (by decide) (fun c510 => ?_) (fun c510 => ?_)
              · have kc510 := jlt c510 jz_51 rfl
                have lp511 : ∀  (σ513 : Nat → Nat → Int32) (H : Heap) (locs : List Loc) (ls : Array Slot), (-1) ≤ (σ513 55 18).toInt ∧ (σ513 55 18).toInt ≤ 80 → 0 ≤ (σ513 55 19).toInt → (σ513 55 19).toInt ≤ (σ513 55 20).toInt → (σ513 55 20).toInt ≤ 80 → (-1) ≤ (σ513 55 21).toInt → (σ513 55 18).toInt = (-1) → ((0 ≤ (σ513 55 21).toInt) ∨ (1 ≤ x18.toInt)) → (∀ i : Nat, (i < 55 ∨ 55 < i) → σ513 i = σ19 i) → (∀ k : Nat, (k < 21 ∨ 21 < k) → σ513 55 k = σ19 55 k) → jH D cI cL ad σ513 τ H → va_S (jA ad) s.heap H locs → lv_has ls 5 [(1, .int x18), (0, .ref (ad 55))] → W p l e ({ frames := 2, cells := 0, slots := 0, locals := 50 }) s m args below meth c H locs 0 0 Q (F0 m 87 ls []) := by
                  intro  σ513 H locs ls h514 h515 h516 h517 h518 h519 h520 f521 f522 hP hS hl
                  have z523 : (σ513 55 18).toInt = (-1) := ((congrArg Int32.toInt (show σ513 55 18 = (-1) from ((f522 18 (by decide)).trans ((f35 18 (by decide)).trans ((jkp 18 eσ15 (by decide)).trans ((jkp 18 eσ14 (by decide)).trans ((jkp 18 eσ12 (by decide)).trans (jsp eσ11)))))))).trans jz_m1)
                  have z524 : (σ513 55 19).toInt = (σ19 55 19).toInt := (congrArg Int32.toInt (show σ513 55 19 = (σ19 55 19) from (f522 19 (by decide))))
                  have z525 : (σ513 55 20).toInt = (σ 55 15).toInt := (congrArg Int32.toInt (show σ513 55 20 = (σ 55 15) from ((f522 20 (by decide)).trans ((f35 20 (by decide)).trans ((jkp 20 eσ15 (by decide)).trans (jsp eσ14))))))
                  have lp526 : ∀ (x528 : Int32) (σ529 : Nat → Nat → Int32) (H : Heap) (locs : List Loc) (ls : Array Slot), (-1) ≤ (σ529 55 18).toInt ∧ (σ529 55 18).toInt ≤ 80 → 0 ≤ (σ529 55 19).toInt → (σ529 55 19).toInt ≤ (σ529 55 20).toInt → (σ529 55 20).toInt ≤ 80 → (-1) ≤ (σ529 55 21).toInt → (σ529 55 18).toInt = (-1) → ((0 ≤ (σ529 55 21).toInt) ∨ (1 ≤ x18.toInt ∧ 1 ≤ x528.toInt ∧ x528.toInt ≤ 12)) → (∀ i : Nat, (i < 55 ∨ 55 < i) → σ529 i = σ513 i) → (∀ k : Nat, (k < 19 ∨ 19 < k) ∧ (k < 21 ∨ 21 < k) → σ529 55 k = σ513 55 k) → jH D cI cL ad σ529 τ H → va_S (jA ad) s.heap H locs → lv_has ls 5 [(1, .int x18), (0, .ref (ad 55)), (2, .int x528)] → W p l e ({ frames := 2, cells := 0, slots := 0, locals := 50 }) s m args below meth c H locs 0 0 Q (F0 m 110 ls []) := by
                    intro x528 σ529 H locs ls h530 h531 h532 h533 h534 h535 h536 f537 f538 hP hS hl
                    have gx528 := jrg (rfl : x528.toInt = x528.toInt)
                    have z539 : (σ529 55 18).toInt = (-1) := ((congrArg Int32.toInt (show σ529 55 18 = (-1) from ((f538 18 (by decide)).trans ((f522 18 (by decide)).trans ((f35 18 (by decide)).trans ((jkp 18 eσ15 (by decide)).trans ((jkp 18 eσ14 (by decide)).trans ((jkp 18 eσ12 (by decide)).trans (jsp eσ11))))))))).trans jz_m1)
                    have z540 : (σ529 55 20).toInt = (σ 55 15).toInt := (congrArg Int32.toInt (show σ529 55 20 = (σ 55 15) from ((f538 20 (by decide)).trans ((f522 20 (by decide)).trans ((f35 20 (by decide)).trans ((jkp 20 eσ15 (by decide)).trans (jsp eσ14)))))))
                    have lp541 : ∀ (x543 : Int32) (σ544 : Nat → Nat → Int32) (H : Heap) (locs : List Loc) (ls : Array Slot), (-1) ≤ (σ544 55 18).toInt ∧ (σ544 55 18).toInt ≤ 80 → 0 ≤ (σ544 55 19).toInt → (σ544 55 19).toInt ≤ (σ544 55 20).toInt → (σ544 55 20).toInt ≤ 80 → (-1) ≤ (σ544 55 21).toInt → (σ544 55 18).toInt = (-1) → ((0 ≤ (σ544 55 21).toInt) ∨ (1 ≤ x18.toInt ∧ 1 ≤ x528.toInt ∧ x528.toInt ≤ 12 ∧ 0 ≤ x543.toInt ∧ x543.toInt ≤ 999)) → (∀ i : Nat, (i < 55 ∨ 55 < i) → σ544 i = σ529 i) → (∀ k : Nat, (k < 19 ∨ 19 < k) ∧ (k < 21 ∨ 21 < k) → σ544 55 k = σ529 55 k) → jH D cI cL ad σ544 τ H → va_S (jA ad) s.heap H locs → lv_has ls 5 [(1, .int x18), (0, .ref (ad 55)), (2, .int x528), (3, .int x543)] → W p l e ({ frames := 2, cells := 0, slots := 0, locals := 50 }) s m args below meth c H locs 0 0 Q (F0 m 133 ls []) := by
                      intro x543 σ544 H locs ls h545 h546 h547 h548 h549 h550 h551 f552 f553 hP hS hl
                      have gx543 := jrg (rfl : x543.toInt = x543.toInt)
                      have z554 : (σ544 55 18).toInt = (-1) := ((congrArg Int32.toInt (show σ544 55 18 = (-1) from ((f553 18 (by decide)).trans ((f538 18 (by decide)).trans ((f522 18 (by decide)).trans ((f35 18 (by decide)).trans ((jkp 18 eσ15 (by decide)).trans ((jkp 18 eσ14 (by decide)).trans ((jkp 18 eσ12 (by decide)).trans (jsp eσ11)))))))))).trans jz_m1)
                      have z555 : (σ544 55 20).toInt = (σ 55 15).toInt := (congrArg Int32.toInt (show σ544 55 20 = (σ 55 15) from ((f553 20 (by decide)).trans ((f538 20 (by decide)).trans ((f522 20 (by decide)).trans ((f35 20 (by decide)).trans ((jkp 20 eσ15 (by decide)).trans (jsp eσ14))))))))
                      have lp556 : ∀  (σ558 : Nat → Nat → Int32) (H : Heap) (locs : List Loc) (ls : Array Slot), (-1) ≤ (σ558 55 18).toInt ∧ (σ558 55 18).toInt ≤ 80 → 0 ≤ (σ558 55 19).toInt → (σ558 55 19).toInt ≤ (σ558 55 20).toInt → (σ558 55 20).toInt ≤ 80 → (-1) ≤ (σ558 55 21).toInt → (σ558 55 18).toInt = (-1) → ((0 ≤ (σ558 55 21).toInt) ∨ (1 ≤ x18.toInt ∧ 1 ≤ x528.toInt ∧ x528.toInt ≤ 12 ∧ 0 ≤ x543.toInt ∧ x543.toInt ≤ 999)) → (∀ i : Nat, (i < 55 ∨ 55 < i) → σ558 i = σ544 i) → (∀ k : Nat, (k < 21 ∨ 21 < k) → σ558 55 k = σ544 55 k) → jH D cI cL ad σ558 τ H → va_S (jA ad) s.heap H locs → lv_has ls 5 [(1, .int x18), (0, .ref (ad 55)), (2, .int x528), (3, .int x543)] → W p l e ({ frames := 2, cells := 0, slots := 0, locals := 50 }) s m args below meth c H locs 0 0 Q (F0 m 157 ls []) := by
                        intro  σ558 H locs ls h559 h560 h561 h562 h563 h564 h565 f566 f567 hP hS hl
                        have z568 : (σ558 55 18).toInt = (-1) := ((congrArg Int32.toInt (show σ558 55 18 = (-1) from ((f567 18 (by decide)).trans ((f553 18 (by decide)).trans ((f538 18 (by decide)).trans ((f522 18 (by decide)).trans ((f35 18 (by decide)).trans ((jkp 18 eσ15 (by decide)).trans ((jkp 18 eσ14 (by decide)).trans ((jkp 18 eσ12 (by decide)).trans (jsp eσ11))))))))))).trans jz_m1)
                        have z569 : (σ558 55 19).toInt = (σ544 55 19).toInt := (congrArg Int32.toInt (show σ558 55 19 = (σ544 55 19) from (f567 19 (by decide))))
                        have z570 : (σ558 55 20).toInt = (σ 55 15).toInt := (congrArg Int32.toInt (show σ558 55 20 = (σ 55 15) from ((f567 20 (by decide)).trans ((f553 20 (by decide)).trans ((f538 20 (by decide)).trans ((f522 20 (by decide)).trans ((f35 20 (by decide)).trans ((jkp 20 eσ15 (by decide)).trans (jsp eσ14)))))))))
                        refine lv_aload_n hx hb dX12_order_157 rfl (lv_at hl 1 rfl) ?_
                        refine lv_iconst (v := 0) hx hb dX12_order_158 (by decide) ?_
                        refine jput (ty := .int) hx hb hts inlX12 tyX12 tyX12_ok nmX12 hown hK hP hJ hA hS (jc_55 cI cL ad σ558 τ) rfl (k := 15) (by decide) (Nat.le_of_ble_eq_true rfl) (jp_55_15 cI cL ad σ558 τ 0) (hts _ kw_13_6) (fun _ h9 => h9) rfl (by decide +kernel) rfl rfl dX12_order_159 (fun σ571 H locs eσ571 hP hS => ?_)
                        refine lv_aload_n hx hb dX12_order_162 rfl (lv_at hl 1 rfl) ?_
                        refine va_get (D := D) hx hb hts inlX12 hown hK hP 55 (jc_55 cI cL ad σ571 τ) rfl 21 (by decide) (hts _ kw_15_13) (fun _ h9 => h9) rfl dX12_order_163 ?_
                        have m572 : σ571 55 21 = (σ558 55 21) := (jkp 21 eσ571 (by decide))
                        refine jtopr m572 ?_
                        refine lv_if_lt (tgt := 177) hx hb dX12_order_166 (by decide) (fun c573 => ?_) (fun c573 => ?_)
                        · have kc573 := jlt c573 rfl jz_0
                          refine lv_aload_n hx hb dX12_order_177 rfl (lv_at hl 1 rfl) ?_
                          refine lv_iload_n hx hb dX12_order_178 rfl (lv_at hl 0 rfl) ?_
                          refine jput (ty := .int) hx hb hts inlX12 tyX12 tyX12_ok nmX12 hown hK hP hJ hA hS (jc_55 cI cL ad σ571 τ) rfl (k := 10) (by decide) (Nat.le_of_ble_eq_true rfl) (jp_55_10 cI cL ad σ571 τ x18) (hts _ kw_8_15) (fun _ h9 => h9) rfl (by decide +kernel) rfl rfl dX12_order_179 (fun σ574 H locs eσ574 hP hS => ?_)
                          refine lv_aload_n hx hb dX12_order_182 rfl (lv_at hl 1 rfl) ?_
                          refine lv_iload_n hx hb dX12_order_183 rfl (lv_at hl 2 rfl) ?_
                          refine jput (ty := .int) hx hb hts inlX12 tyX12 tyX12_ok nmX12 hown hK hP hJ hA hS (jc_55 cI cL ad σ574 τ) rfl (k := 12) (by decide) (Nat.le_of_ble_eq_true rfl) (jp_55_12 cI cL ad σ574 τ x528) (hts _ kw_8_16) (fun _ h9 => h9) rfl (by decide +kernel) rfl rfl dX12_order_184 (fun σ575 H locs eσ575 hP hS => ?_)
                          refine lv_aload_n hx hb dX12_order_187 rfl (lv_at hl 1 rfl) ?_
                          refine lv_iload_n hx hb dX12_order_188 rfl (lv_at hl 3 rfl) ?_
                          refine jput (ty := .int) hx hb hts inlX12 tyX12 tyX12_ok nmX12 hown hK hP hJ hA hS (jc_55 cI cL ad σ575 τ) rfl (k := 13) (by decide) (Nat.le_of_ble_eq_true rfl) (jp_55_13 cI cL ad σ575 τ x543) (hts _ kw_15_14) (fun _ h9 => h9) rfl (by decide +kernel) rfl rfl dX12_order_189 (fun σ576 H locs eσ576 hP hS => ?_)
                          refine lv_iconst (v := 0) hx hb dX12_order_192 (by decide) ?_
                          refine lv_istore (lv' := [(4, .int 0), (1, .int x18), (0, .ref (ad 55)), (2, .int x528), (3, .int x543)]) hx hb dX12_order_193 hl (by decide) rfl (fun ls hl => ?_)
                          have z581 : (σ576 55 10).toInt = x18.toInt := (congrArg Int32.toInt (show σ576 55 10 = x18 from ((jkp 10 eσ576 (by decide)).trans ((jkp 10 eσ575 (by decide)).trans (jsp eσ574)))))
                          have z582 : (σ576 55 12).toInt = x528.toInt := (congrArg Int32.toInt (show σ576 55 12 = x528 from ((jkp 12 eσ576 (by decide)).trans (jsp eσ575))))
                          have z583 : (σ576 55 13).toInt = x543.toInt := (congrArg Int32.toInt (show σ576 55 13 = x543 from (jsp eσ576)))
                          have w584 : ∀ k : Nat, k < 8 → 0 ≤ (σ576 62 k).toInt ∧ (σ576 62 k).toInt ≤ 3 := (jrr_fr (jnp 62 eσ576 (by decide)) (jrr_fr (jnp 62 eσ575 (by decide)) (jrr_fr (jnp 62 eσ574 (by decide)) (jrr_fr (jnp 62 eσ571 (by decide)) (jrr_fr (f566 62 (by decide)) (jrr_fr (f552 62 (by decide)) (jrr_fr (f537 62 (by decide)) (jrr_fr (f521 62 (by decide)) w40))))))))
                          have w585 : ∀ k : Nat, k < 8 → 0 ≤ (σ576 67 k).toInt ∧ (σ576 67 k).toInt ≤ 3 := (jrr_fr (jnp 67 eσ576 (by decide)) (jrr_fr (jnp 67 eσ575 (by decide)) (jrr_fr (jnp 67 eσ574 (by decide)) (jrr_fr (jnp 67 eσ571 (by decide)) (jrr_fr (f566 67 (by decide)) (jrr_fr (f552 67 (by decide)) (jrr_fr (f537 67 (by decide)) (jrr_fr (f521 67 (by decide)) w41))))))))
                          have I586 : jI104 σ576 := ⟨(by omega), (by omega), (by omega), w584, w585⟩
                          have lp577 : ∀ (n578 : Nat) (x579 : Int32) (σ580 : Nat → Nat → Int32) (H : Heap) (locs : List Loc) (ls : Array Slot), (x18.toInt - x579.toInt : Int) < n578 → 0 ≤ x579.toInt → x579.toInt ≤ 8 → x579.toInt ≤ x18.toInt → (∀ i : Nat, (i < 62 ∨ 62 < i) → σ580 i = σ576 i) → jI104 σ580 → jH D cI cL ad σ580 τ H → va_S (jA ad) s.heap H locs → lv_has ls 5 [(4, .int x579), (1, .int x18), (0, .ref (ad 55)), (2, .int x528), (3, .int x543)] → W p l e ({ frames := 2, cells := 0, slots := 0, locals := 50 }) s m args below meth c H locs 0 0 Q (F0 m 195 ls []) := by
                            intro n578
                            induction n578 with
                            | zero => intro x579 σ580 H locs ls h587 h588 h589 h590; exact absurd h587 (by omega)
                            | succ n578 ihlp577 =>
                              intro x579 σ580 H locs ls h587 h588 h589 h590 f591 p592 hP hS hl
                              obtain ⟨i593, i594, i595, w596, w597⟩ : (1 ≤ (σ580 55 10).toInt ∧ (σ580 55 10).toInt ≤ 8) ∧ (1 ≤ (σ580 55 12).toInt ∧ (σ580 55 12).toInt ≤ 12) ∧ (0 ≤ (σ580 55 13).toInt ∧ (σ580 55 13).toInt ≤ 999) ∧ (∀ k : Nat, k < 8 → 0 ≤ (σ580 62 k).toInt ∧ (σ580 62 k).toInt ≤ 3) ∧ (∀ k : Nat, k < 8 → 0 ≤ (σ580 67 k).toInt ∧ (σ580 67 k).toInt ≤ 3) := id p592
                              have z598 : (σ580 55 10).toInt = x18.toInt := (congrArg Int32.toInt (show σ580 55 10 = x18 from ((congrFun (f591 55 (by decide)) 10).trans ((jkp 10 eσ576 (by decide)).trans ((jkp 10 eσ575 (by decide)).trans (jsp eσ574))))))
                              have z599 : (σ580 55 12).toInt = x528.toInt := (congrArg Int32.toInt (show σ580 55 12 = x528 from ((congrFun (f591 55 (by decide)) 12).trans ((jkp 12 eσ576 (by decide)).trans (jsp eσ575)))))
                              have z600 : (σ580 55 13).toInt = x543.toInt := (congrArg Int32.toInt (show σ580 55 13 = x543 from ((congrFun (f591 55 (by decide)) 13).trans (jsp eσ576))))
                              refine lv_iload hx hb dX12_order_195 (lv_at hl 0 rfl) ?_
                              refine lv_iload_n hx hb dX12_order_197 rfl (lv_at hl 1 rfl) ?_
                              refine lv_icmp_ge (tgt := 221) hx hb dX12_order_198 (by decide) (fun c601 => ?_) (fun c601 => ?_)
                              · have kc601 := jle c601 rfl rfl
                                refine lv_aload_n hx hb dX12_order_221 rfl (lv_at hl 2 rfl) ?_
                                refine lv_iconst (v := 0) hx hb dX12_order_222 (by decide) ?_
                                refine jput (ty := .int) hx hb hts inlX12 tyX12 tyX12_ok nmX12 hown hK hP hJ hA hS (jc_55 cI cL ad σ580 τ) rfl (k := 47) (by decide) (Nat.le_of_ble_eq_true rfl) (jp_55_47 cI cL ad σ580 τ 0) (hts _ kw_15_15) (fun _ h9 => h9) rfl (by decide +kernel) rfl rfl dX12_order_223 (fun σ602 H locs eσ602 hP hS => ?_)
                                refine lv_aload_n hx hb dX12_order_226 rfl (lv_at hl 2 rfl) ?_
                                refine va_get (D := D) hx hb hts inlX12 hown hK hP 55 (jc_55 cI cL ad σ602 τ) rfl 10 (by decide) (hts _ kw_8_15) (fun _ h9 => h9) rfl dX12_order_227 ?_
                                have m603 : σ602 55 10 = x18 := ((jkp 10 eσ602 (by decide)).trans ((congrFun (f591 55 (by decide)) 10).trans ((jkp 10 eσ576 (by decide)).trans ((jkp 10 eσ575 (by decide)).trans (jsp eσ574)))))
                                refine jtopr m603 ?_
                                have z604 : (σ602 55 47).toInt = 0 := ((congrArg Int32.toInt (show σ602 55 47 = 0 from (jsp eσ602))).trans jz_0)
                                have p605 : jBook σ602 := jBook.nil (by omega)
                                have I606 : jI104 σ602 := jI104_fr (jkp 10 eσ602 (by decide)) (jkp 12 eσ602 (by decide)) (jkp 13 eσ602 (by decide)) (jnp 62 eσ602 (by decide)) (jnp 67 eσ602 (by decide)) p592
                                have z607 : (σ602 55 15).toInt = 0 := ((congrArg Int32.toInt (show σ602 55 15 = 0 from ((jkp 15 eσ602 (by decide)).trans ((congrFun (f591 55 (by decide)) 15).trans ((jkp 15 eσ576 (by decide)).trans ((jkp 15 eσ575 (by decide)).trans ((jkp 15 eσ574 (by decide)).trans (jsp eσ571)))))))).trans jz_0)
                                have w608 : ∀ k : Nat, k < 2 → (-1) ≤ (σ602 65 k).toInt ∧ (σ602 65 k).toInt ≤ 80 := (jrr_fr (jnp 65 eσ602 (by decide)) (jrr_fr (f591 65 (by decide)) (jrr_fr (jnp 65 eσ576 (by decide)) (jrr_fr (jnp 65 eσ575 (by decide)) (jrr_fr (jnp 65 eσ574 (by decide)) (jrr_fr (jnp 65 eσ571 (by decide)) (jrr_fr (f566 65 (by decide)) (jrr_fr (f552 65 (by decide)) (jrr_fr (f537 65 (by decide)) (jrr_fr (f521 65 (by decide)) (jrr_fr (f34 65 (by decide)) (jrr_fr (jnp 65 eσ15 (by decide)) (jrr_fr (jnp 65 eσ14 (by decide)) (jrr_fr (jnp 65 eσ12 (by decide)) (jrr_fr (jnp 65 eσ11 (by decide)) w7)))))))))))))))
                                have I609 : jI105 σ602 := ⟨(by omega), w608⟩
                                have z610 : (σ602 55 12).toInt = x528.toInt := (congrArg Int32.toInt (show σ602 55 12 = x528 from ((jkp 12 eσ602 (by decide)).trans ((congrFun (f591 55 (by decide)) 12).trans ((jkp 12 eσ576 (by decide)).trans (jsp eσ575))))))
                                have w611 : ∀ k : Nat, k < 12 → 0 ≤ (σ602 80 k).toInt ∧ (σ602 80 k).toInt ≤ 3 := (jrr_fr (jnp 80 eσ602 (by decide)) (jrr_fr (f591 80 (by decide)) (jrr_fr (jnp 80 eσ576 (by decide)) (jrr_fr (jnp 80 eσ575 (by decide)) (jrr_fr (jnp 80 eσ574 (by decide)) (jrr_fr (jnp 80 eσ571 (by decide)) (jrr_fr (f566 80 (by decide)) (jrr_fr (f552 80 (by decide)) (jrr_fr (f537 80 (by decide)) (jrr_fr (f521 80 (by decide)) (jrr_fr (f34 80 (by decide)) (jrr_fr (jnp 80 eσ15 (by decide)) (jrr_fr (jnp 80 eσ14 (by decide)) (jrr_fr (jnp 80 eσ12 (by decide)) (jrr_fr (jnp 80 eσ11 (by decide)) w10)))))))))))))))
                                have I612 : jI107 σ602 := ⟨(by omega), (by omega), w611⟩
                                exact hret x18 σ602 τ _ _ _ _ rfl ⟨rfl, (fun i hi => ((jnp i eσ602 (imp_221 i hi)).trans ((f591 i (imp_222 i hi)).trans ((jnp i eσ576 (imp_221 i hi)).trans ((jnp i eσ575 (imp_221 i hi)).trans ((jnp i eσ574 (imp_221 i hi)).trans ((jnp i eσ571 (imp_221 i hi)).trans ((f566 i (imp_223 i hi)).trans ((f552 i (imp_223 i hi)).trans ((f537 i (imp_223 i hi)).trans ((f521 i (imp_223 i hi)).trans ((f34 i (imp_224 i hi)).trans ((jnp i eσ15 (imp_221 i hi)).trans ((jnp i eσ14 (imp_221 i hi)).trans ((jnp i eσ12 (imp_221 i hi)).trans (jnp i eσ11 (imp_221 i hi))))))))))))))))), (fun i hi => ((jkp i eσ602 (imp_225 i hi)).trans ((congrFun (f591 55 (by decide)) i).trans ((jkp i eσ576 (imp_226 i hi)).trans ((jkp i eσ575 (imp_227 i hi)).trans ((jkp i eσ574 (imp_228 i hi)).trans ((jkp i eσ571 (imp_229 i hi)).trans ((f567 i (imp_230 i hi)).trans ((f553 i (imp_231 i hi)).trans ((f538 i (imp_231 i hi)).trans ((f522 i (imp_230 i hi)).trans ((f35 i (imp_232 i hi)).trans ((jkp i eσ15 (imp_233 i hi)).trans ((jkp i eσ14 (imp_234 i hi)).trans ((jkp i eσ12 (imp_235 i hi)).trans (jkp i eσ11 (imp_236 i hi))))))))))))))))), I606, I609, I612, p605, (by omega), trivial⟩ hP hS dX12_order_230
                              · have kc601 := jnle c601 rfl rfl
                                refine lv_aload_n hx hb dX12_order_201 rfl (lv_at hl 2 rfl) ?_
                                refine va_get (D := D) hx hb hts inlX12 hown hK hP 55 (jc_55 cI cL ad σ580 τ) rfl 11 (by decide) (hts _ kw_7_8) (fun _ h9 => h9) rfl dX12_order_202 ?_
                                refine lv_iload hx hb dX12_order_205 (lv_at hl 0 rfl) ?_
                                refine lv_aload_n hx hb dX12_order_207 rfl (lv_at hl 2 rfl) ?_
                                refine va_get (D := D) hx hb hts inlX12 hown hK hP 55 (jc_55 cI cL ad σ580 τ) rfl 24 (by decide) (hts _ kw_7_13) (fun _ h9 => h9) rfl dX12_order_208 ?_
                                refine lv_iload hx hb dX12_order_211 (lv_at hl 0 rfl) ?_
                                refine jald hx hb hK hP (jc_67 cI cL ad σ580 τ) (jin rfl (by omega) (by omega)) dX12_order_213 ?_
                                have g613 := w597 _ (jnat (x := x579) rfl (n := 8) (by omega) (by decide))
                                refine lv_topi (fun x614 ex614 => ?_)
                                rw [← ex614] at g613
                                refine jast hx hb hK hP hJ hA hS (jc_62 cI cL ad σ580 τ) (ja_62 cI cL ad σ580 τ _ _) (jin rfl (by omega) (by omega)) dX12_order_214 (fun σ615 H locs eσ615 hP hS => ?_)
                                obtain ⟨x616, ex616⟩ : ∃ y : Int32, y = x579 + 1 := ⟨_, rfl⟩
                                have tx616 : x616.toInt = x579.toInt + 1 := (jadd ex616 rfl jz_1 (by omega) (by omega)).trans (by omega)
                                refine lv_iinc (v := x616) (lv' := [(4, .int x616), (1, .int x18), (0, .ref (ad 55)), (2, .int x528), (3, .int x543)]) hx hb dX12_order_215 hl (k := 0) rfl (by rw [ex616]; rfl) (by decide) rfl (fun ls hl => ?_)
                                refine lv_goto (tgt := 195) hx hb dX12_order_218 (by decide) ?_
                                have z617 : (σ615 55 10).toInt = x18.toInt := (congrArg Int32.toInt (show σ615 55 10 = x18 from ((congrFun (jnp 55 eσ615 (by decide)) 10).trans ((congrFun (f591 55 (by decide)) 10).trans ((jkp 10 eσ576 (by decide)).trans ((jkp 10 eσ575 (by decide)).trans (jsp eσ574)))))))
                                have z618 : (σ615 55 12).toInt = x528.toInt := (congrArg Int32.toInt (show σ615 55 12 = x528 from ((congrFun (jnp 55 eσ615 (by decide)) 12).trans ((congrFun (f591 55 (by decide)) 12).trans ((jkp 12 eσ576 (by decide)).trans (jsp eσ575))))))
                                have z619 : (σ615 55 13).toInt = x543.toInt := (congrArg Int32.toInt (show σ615 55 13 = x543 from ((congrFun (jnp 55 eσ615 (by decide)) 13).trans ((congrFun (f591 55 (by decide)) 13).trans (jsp eσ576)))))
                                have w620 : ∀ k : Nat, k < 8 → 0 ≤ (σ615 62 k).toInt ∧ (σ615 62 k).toInt ≤ 3 := (by rw [eσ615]; exact jrr_up w596 (by omega) (by omega))
                                have w621 : ∀ k : Nat, k < 8 → 0 ≤ (σ615 67 k).toInt ∧ (σ615 67 k).toInt ≤ 3 := (jrr_fr (jnp 67 eσ615 (by decide)) w597)
                                have I622 : jI104 σ615 := ⟨(by omega), (by omega), (by omega), w620, w621⟩
                                exact ihlp577 x616 σ615 _ _ ls (by have h90 := tx616; omega) (by have h90 := tx616; omega) (by have h90 := tx616; omega) (by have h90 := tx616; omega) (fun i hi => ((jnp i eσ615 (imp_237 i hi)).trans (f591 i hi)))   I622 hP hS (lv_sub hl [0, 1, 2, 3, 4] rfl)
                          exact lp577 1000000 0 σ576 _ _ ls (by have h90 := jz_0; omega) (by have h90 := jz_0; omega) (by have h90 := jz_0; omega) (by have h90 := jz_0; omega) (fun _ _ => rfl)  I586 hP hS hl
                        · have kc573 := jnlt c573 rfl jz_0
                          refine lv_bipush (v := (-100)) hx hb dX12_order_169 (by decide) ?_
                          refine lv_aload_n hx hb dX12_order_171 rfl (lv_at hl 1 rfl) ?_
                          refine va_get (D := D) hx hb hts inlX12 hown hK hP 55 (jc_55 cI cL ad σ571 τ) rfl 21 (by decide) (hts _ kw_15_13) (fun _ h9 => h9) rfl dX12_order_172 ?_
                          refine jtopr m572 ?_
                          have g623 := jrg (rfl : (σ558 55 21).toInt = (σ558 55 21).toInt)
                          refine lv_isub hx hb dX12_order_175 ?_
                          refine lv_topi (fun x624 ex624 => ?_)
                          have gx624 := jrg (rfl : x624.toInt = x624.toInt)
                          have I625 : jI104 σ571 := jI104_fr ((jkp 10 eσ571 (by decide)).trans ((f567 10 (by decide)).trans ((f553 10 (by decide)).trans ((f538 10 (by decide)).trans (f522 10 (by decide)))))) ((jkp 12 eσ571 (by decide)).trans ((f567 12 (by decide)).trans ((f553 12 (by decide)).trans ((f538 12 (by decide)).trans (f522 12 (by decide)))))) ((jkp 13 eσ571 (by decide)).trans ((f567 13 (by decide)).trans ((f553 13 (by decide)).trans ((f538 13 (by decide)).trans (f522 13 (by decide)))))) ((jnp 62 eσ571 (by decide)).trans ((f566 62 (by decide)).trans ((f552 62 (by decide)).trans ((f537 62 (by decide)).trans (f521 62 (by decide)))))) ((jnp 67 eσ571 (by decide)).trans ((f566 67 (by decide)).trans ((f552 67 (by decide)).trans ((f537 67 (by decide)).trans (f521 67 (by decide)))))) p36
                          have z626 : (σ571 55 15).toInt = 0 := ((congrArg Int32.toInt (show σ571 55 15 = 0 from (jsp eσ571))).trans jz_0)
                          have w627 : ∀ k : Nat, k < 2 → (-1) ≤ (σ571 65 k).toInt ∧ (σ571 65 k).toInt ≤ 80 := (jrr_fr (jnp 65 eσ571 (by decide)) (jrr_fr (f566 65 (by decide)) (jrr_fr (f552 65 (by decide)) (jrr_fr (f537 65 (by decide)) (jrr_fr (f521 65 (by decide)) (jrr_fr (f34 65 (by decide)) (jrr_fr (jnp 65 eσ15 (by decide)) (jrr_fr (jnp 65 eσ14 (by decide)) (jrr_fr (jnp 65 eσ12 (by decide)) (jrr_fr (jnp 65 eσ11 (by decide)) w7))))))))))
                          have I628 : jI105 σ571 := ⟨(by omega), w627⟩
                          have I629 : jI107 σ571 := jI107_fr ((jkp 12 eσ571 (by decide)).trans ((f567 12 (by decide)).trans ((f553 12 (by decide)).trans ((f538 12 (by decide)).trans ((f522 12 (by decide)).trans ((f35 12 (by decide)).trans ((jkp 12 eσ15 (by decide)).trans ((jkp 12 eσ14 (by decide)).trans ((jkp 12 eσ12 (by decide)).trans (jkp 12 eσ11 (by decide))))))))))) ((jkp 47 eσ571 (by decide)).trans ((f567 47 (by decide)).trans ((f553 47 (by decide)).trans ((f538 47 (by decide)).trans ((f522 47 (by decide)).trans ((f35 47 (by decide)).trans ((jkp 47 eσ15 (by decide)).trans ((jkp 47 eσ14 (by decide)).trans ((jkp 47 eσ12 (by decide)).trans (jkp 47 eσ11 (by decide))))))))))) ((jnp 80 eσ571 (by decide)).trans ((f566 80 (by decide)).trans ((f552 80 (by decide)).trans ((f537 80 (by decide)).trans ((f521 80 (by decide)).trans ((f34 80 (by decide)).trans ((jnp 80 eσ15 (by decide)).trans ((jnp 80 eσ14 (by decide)).trans ((jnp 80 eσ12 (by decide)).trans (jnp 80 eσ11 (by decide))))))))))) hI107
                          have p630 : jBook σ571 := jBook.fr ((jkp 47 eσ571 (by decide)).trans ((f567 47 (by decide)).trans ((f553 47 (by decide)).trans ((f538 47 (by decide)).trans ((f522 47 (by decide)).trans ((f35 47 (by decide)).trans ((jkp 47 eσ15 (by decide)).trans ((jkp 47 eσ14 (by decide)).trans ((jkp 47 eσ12 (by decide)).trans (jkp 47 eσ11 (by decide))))))))))) ((jkp 10 eσ571 (by decide)).trans ((f567 10 (by decide)).trans ((f553 10 (by decide)).trans ((f538 10 (by decide)).trans ((f522 10 (by decide)).trans ((f35 10 (by decide)).trans ((jkp 10 eσ15 (by decide)).trans ((jkp 10 eσ14 (by decide)).trans ((jkp 10 eσ12 (by decide)).trans (jkp 10 eσ11 (by decide))))))))))) ((jnp 81 eσ571 (by decide)).trans ((f566 81 (by decide)).trans ((f552 81 (by decide)).trans ((f537 81 (by decide)).trans ((f521 81 (by decide)).trans ((f34 81 (by decide)).trans ((jnp 81 eσ15 (by decide)).trans ((jnp 81 eσ14 (by decide)).trans ((jnp 81 eσ12 (by decide)).trans (jnp 81 eσ11 (by decide))))))))))) hs_jBook
                          exact hret x624 σ571 τ _ _ _ _ rfl ⟨rfl, (fun i hi => ((jnp i eσ571 (imp_221 i hi)).trans ((f566 i (imp_223 i hi)).trans ((f552 i (imp_223 i hi)).trans ((f537 i (imp_223 i hi)).trans ((f521 i (imp_223 i hi)).trans ((f34 i (imp_224 i hi)).trans ((jnp i eσ15 (imp_221 i hi)).trans ((jnp i eσ14 (imp_221 i hi)).trans ((jnp i eσ12 (imp_221 i hi)).trans (jnp i eσ11 (imp_221 i hi)))))))))))), (fun i hi => ((jkp i eσ571 (imp_229 i hi)).trans ((f567 i (imp_230 i hi)).trans ((f553 i (imp_231 i hi)).trans ((f538 i (imp_231 i hi)).trans ((f522 i (imp_230 i hi)).trans ((f35 i (imp_232 i hi)).trans ((jkp i eσ15 (imp_233 i hi)).trans ((jkp i eσ14 (imp_234 i hi)).trans ((jkp i eσ12 (imp_235 i hi)).trans (jkp i eσ11 (imp_236 i hi)))))))))))), I625, I628, I629, p630, (by omega), trivial⟩ hP hS dX12_order_176
                      refine lv_aload_n hx hb dX12_order_133 rfl (lv_at hl 1 rfl) ?_
                      refine va_get (D := D) hx hb hts inlX12 hown hK hP 55 (jc_55 cI cL ad σ544 τ) rfl 21 (by decide) (hts _ kw_15_13) (fun _ h9 => h9) rfl dX12_order_134 ?_
                      refine lv_if_ge (tgt := 157) hx hb dX12_order_137 (by decide) (fun c631 => ?_) (fun c631 => ?_)
                      · have kc631 := jle c631 jz_0 rfl
                        exact lp556  σ544 _ _ ls (by omega) (by omega) (by omega) (by omega) (by omega) (by omega) (by omega) (fun i hi => rfl) (fun i hi => rfl)   hP hS (lv_sub hl [0, 1, 2, 3] rfl)
                      · have kc631 := jnle c631 jz_0 rfl
                        refine lv_aload_n hx hb dX12_order_140 rfl (lv_at hl 1 rfl) ?_
                        refine va_get (D := D) hx hb hts inlX12 hown hK hP 55 (jc_55 cI cL ad σ544 τ) rfl 19 (by decide) (hts _ kw_15_11) (fun _ h9 => h9) rfl dX12_order_141 ?_
                        refine lv_aload_n hx hb dX12_order_144 rfl (lv_at hl 1 rfl) ?_
                        refine va_get (D := D) hx hb hts inlX12 hown hK hP 55 (jc_55 cI cL ad σ544 τ) rfl 20 (by decide) (hts _ kw_15_12) (fun _ h9 => h9) rfl dX12_order_145 ?_
                        have m632 : σ544 55 20 = (σ 55 15) := ((f553 20 (by decide)).trans ((f538 20 (by decide)).trans ((f522 20 (by decide)).trans ((f35 20 (by decide)).trans ((jkp 20 eσ15 (by decide)).trans (jsp eσ14))))))
                        refine jtopr m632 ?_
                        refine lv_icmp_ge (tgt := 157) hx hb dX12_order_148 (by decide) (fun c633 => ?_) (fun c633 => ?_)
                        · have kc633 := jle c633 rfl rfl
                          exact lp556  σ544 _ _ ls (by omega) (by omega) (by omega) (by omega) (by omega) (by omega) (by omega) (fun i hi => rfl) (fun i hi => rfl)   hP hS (lv_sub hl [0, 1, 2, 3] rfl)
                        · have kc633 := jnle c633 rfl rfl
                          refine lv_aload_n hx hb dX12_order_151 rfl (lv_at hl 1 rfl) ?_
                          have I634 : jI121 σ544 := ⟨(by omega), (by omega), (by omega), (by omega), (by omega)⟩
                          refine jcallV (As := []) (rest := []) ⟨hx, hb, hml, hown, hts⟩ hK hP hA hS hZ (c_X12_wrong l D cI cL ad zz hJ σ544 τ I634) cw_RX12_214 (jc_55 cI cL ad σ544 τ) rfl ⟨Nat.le_of_ble_eq_true rfl, Nat.le_of_ble_eq_true rfl⟩ rfl rfl rfl hl.1 rfl (Nat.le_of_ble_eq_true rfl) dX12_order_152 ⟨Nat.zero_le _, Nat.zero_le _⟩ (fun r636 σ635 τ635 H locs h635 hP hS => ?_)
                          obtain ⟨rfl, f637, f638, I639, h635⟩ := h635
                          obtain ⟨i640, i641, i642, i643, i644⟩ : ((-1) ≤ (σ635 55 18).toInt ∧ (σ635 55 18).toInt ≤ 80) ∧ (0 ≤ (σ635 55 19).toInt) ∧ ((σ635 55 19).toInt ≤ (σ635 55 20).toInt) ∧ ((σ635 55 20).toInt ≤ 80) ∧ ((-1) ≤ (σ635 55 21).toInt) := id I639
                          have z645 : (σ635 55 18).toInt = (-1) := ((congrArg Int32.toInt (show σ635 55 18 = (-1) from ((f638 18 (by decide)).trans ((f553 18 (by decide)).trans ((f538 18 (by decide)).trans ((f522 18 (by decide)).trans ((f35 18 (by decide)).trans ((jkp 18 eσ15 (by decide)).trans ((jkp 18 eσ14 (by decide)).trans ((jkp 18 eσ12 (by decide)).trans (jsp eσ11))))))))))).trans jz_m1)
                          have z646 : (σ635 55 19).toInt = (σ544 55 19).toInt := (congrArg Int32.toInt (show σ635 55 19 = (σ544 55 19) from (f638 19 (by decide))))
                          have z647 : (σ635 55 20).toInt = (σ 55 15).toInt := (congrArg Int32.toInt (show σ635 55 20 = (σ 55 15) from ((f638 20 (by decide)).trans m632)))
                          obtain ⟨k648, h635⟩ := h635
                          have h649 := h635
                          obtain ⟨q651, k650⟩ := h649
                          have q651 := q651.symm
                          subst q651
                          refine lv_istore (lv' := [(4, .int 0), (1, .int x18), (0, .ref (ad 55)), (2, .int x528), (3, .int x543)]) hx hb dX12_order_155 hl (by decide) rfl (fun ls hl => ?_)
                          exact lp556  σ635 _ _ ls (by omega) (by omega) (by omega) (by omega) (by omega) (by omega) (by omega) (fun i hi => (f637 i hi)) (fun i hi => (f638 i hi))   hP hS (lv_sub hl [1, 2, 3, 4] rfl)
                    refine lv_aload_n hx hb dX12_order_110 rfl (lv_at hl 1 rfl) ?_
                    refine lv_bipush (v := 114) hx hb dX12_order_111 (by decide) ?_
                    have I652 : jI121 σ529 := ⟨(by omega), (by omega), (by omega), (by omega), (by omega)⟩
                    refine jcallV (As := [.int 114]) (rest := []) ⟨hx, hb, hml, hown, hts⟩ hK hP hA hS hZ (c_X12_takes l D cI cL ad zz hJ σ529 τ 114 (114) jz_114 I652 (by omega)) cw_RX12_196 (jc_55 cI cL ad σ529 τ) rfl ⟨Nat.le_of_ble_eq_true rfl, Nat.le_of_ble_eq_true rfl⟩ rfl rfl rfl hl.1 rfl (Nat.le_of_ble_eq_true rfl) dX12_order_113 ⟨Nat.zero_le _, Nat.zero_le _⟩ (fun r654 σ653 τ653 H locs h653 hP hS => ?_)
                    obtain ⟨rfl, f655, f656, I657, h653⟩ := h653
                    obtain ⟨i658, i659, i660, i661, i662⟩ : ((-1) ≤ (σ653 55 18).toInt ∧ (σ653 55 18).toInt ≤ 80) ∧ (0 ≤ (σ653 55 19).toInt) ∧ ((σ653 55 19).toInt ≤ (σ653 55 20).toInt) ∧ ((σ653 55 20).toInt ≤ 80) ∧ ((-1) ≤ (σ653 55 21).toInt) := id I657
                    have z663 : (σ653 55 18).toInt = (-1) := ((congrArg Int32.toInt (show σ653 55 18 = (-1) from ((f656 18 (by decide)).trans ((f538 18 (by decide)).trans ((f522 18 (by decide)).trans ((f35 18 (by decide)).trans ((jkp 18 eσ15 (by decide)).trans ((jkp 18 eσ14 (by decide)).trans ((jkp 18 eσ12 (by decide)).trans (jsp eσ11)))))))))).trans jz_m1)
                    have z664 : (σ653 55 20).toInt = (σ 55 15).toInt := (congrArg Int32.toInt (show σ653 55 20 = (σ 55 15) from ((f656 20 (by decide)).trans ((f538 20 (by decide)).trans ((f522 20 (by decide)).trans ((f35 20 (by decide)).trans ((jkp 20 eσ15 (by decide)).trans (jsp eσ14))))))))
                    have z665 : (σ653 55 21).toInt = (σ529 55 21).toInt := (congrArg Int32.toInt (show σ653 55 21 = (σ529 55 21) from (f656 21 (by decide))))
                    rcases h653 with h666 | h667
                    · obtain ⟨q670, k668, k669⟩ := h666
                      have q670 := q670.symm
                      subst q670
                      refine lv_if_eq (tgt := 131) hx hb dX12_order_116 (by decide) (fun c => absurd c (by decide)) (fun _ => ?_)
                      refine lv_aload_n hx hb dX12_order_119 rfl (lv_at hl 1 rfl) ?_
                      refine lv_iconst (v := 3) hx hb dX12_order_120 (by decide) ?_
                      refine lv_iconst (v := 0) hx hb dX12_order_121 (by decide) ?_
                      refine lv_sipush (v := 999) hx hb dX12_order_122 (by decide) ?_
                      refine jcallV (As := [.int 3, .int 0, .int 999]) (rest := []) ⟨hx, hb, hml, hown, hts⟩ hK hP hA hS hZ (c_X12_numberRead l D cI cL ad zz hJ σ653 τ 3 (3) jz_3 0 (0) jz_0 999 (999) jz_999 I657 (by omega) (by omega) (by omega)) cw_RX12_227 (jc_55 cI cL ad σ653 τ) rfl ⟨Nat.le_of_ble_eq_true rfl, Nat.le_of_ble_eq_true rfl⟩ rfl rfl rfl hl.1 rfl (Nat.le_of_ble_eq_true rfl) dX12_order_125 ⟨Nat.zero_le _, Nat.zero_le _⟩ (fun r672 σ671 τ671 H locs h671 hP hS => ?_)
                      obtain ⟨rfl, f673, f674, I675, h671⟩ := h671
                      obtain ⟨i676, i677, i678, i679, i680⟩ : ((-1) ≤ (σ671 55 18).toInt ∧ (σ671 55 18).toInt ≤ 80) ∧ (0 ≤ (σ671 55 19).toInt) ∧ ((σ671 55 19).toInt ≤ (σ671 55 20).toInt) ∧ ((σ671 55 20).toInt ≤ 80) ∧ ((-1) ≤ (σ671 55 21).toInt) := id I675
                      have z681 : (σ671 55 18).toInt = (-1) := ((congrArg Int32.toInt (show σ671 55 18 = (-1) from ((f674 18 (by decide)).trans ((f656 18 (by decide)).trans ((f538 18 (by decide)).trans ((f522 18 (by decide)).trans ((f35 18 (by decide)).trans ((jkp 18 eσ15 (by decide)).trans ((jkp 18 eσ14 (by decide)).trans ((jkp 18 eσ12 (by decide)).trans (jsp eσ11))))))))))).trans jz_m1)
                      have z682 : (σ671 55 20).toInt = (σ 55 15).toInt := (congrArg Int32.toInt (show σ671 55 20 = (σ 55 15) from ((f674 20 (by decide)).trans ((f656 20 (by decide)).trans ((f538 20 (by decide)).trans ((f522 20 (by decide)).trans ((f35 20 (by decide)).trans ((jkp 20 eσ15 (by decide)).trans (jsp eσ14)))))))))
                      have h683 := h671
                      obtain ⟨q685, k684⟩ := h683
                      refine lv_goto (tgt := 132) hx hb dX12_order_128 (by decide) ?_
                      refine lv_istore_n (lv' := [(3, .int r672), (1, .int x18), (0, .ref (ad 55)), (2, .int x528)]) hx hb dX12_order_132 rfl hl (by decide) rfl (fun ls hl => ?_)
                      exact lp541 r672 σ671 _ _ ls (by omega) (by omega) (by omega) (by omega) (by omega) (by omega) (by omega) (fun i hi => ((f673 i hi).trans (f655 i hi))) (fun i hi => ((f674 i hi).trans (f656 i (imp_218 i hi))))   hP hS (lv_sub hl [1, 2, 3, 0] rfl)
                    · obtain ⟨q687, k686⟩ := h667
                      have q687 := q687.symm
                      subst q687
                      refine lv_if_eq (tgt := 131) hx hb dX12_order_116 (by decide) (fun _ => ?_) (fun c => absurd (by decide) c)
                      refine lv_iconst (v := 0) hx hb dX12_order_131 (by decide) ?_
                      refine lv_istore_n (lv' := [(3, .int 0), (1, .int x18), (0, .ref (ad 55)), (2, .int x528)]) hx hb dX12_order_132 rfl hl (by decide) rfl (fun ls hl => ?_)
                      exact lp541 0 σ653 _ _ ls (by have h90 := jz_0; omega) (by have h90 := jz_0; omega) (by have h90 := jz_0; omega) (by have h90 := jz_0; omega) (by have h90 := jz_0; omega) (by have h90 := jz_0; omega) (by have h90 := jz_0; omega) (fun i hi => (f655 i hi)) (fun i hi => (f656 i (imp_218 i hi)))   hP hS (lv_sub hl [1, 2, 3, 0] rfl)
                  refine lv_aload_n hx hb dX12_order_87 rfl (lv_at hl 1 rfl) ?_
                  refine lv_bipush (v := 58) hx hb dX12_order_88 (by decide) ?_
                  have I688 : jI121 σ513 := ⟨(by omega), (by omega), (by omega), (by omega), (by omega)⟩
                  refine jcallV (As := [.int 58]) (rest := []) ⟨hx, hb, hml, hown, hts⟩ hK hP hA hS hZ (c_X12_takes l D cI cL ad zz hJ σ513 τ 58 (58) jz_58 I688 (by omega)) cw_RX12_196 (jc_55 cI cL ad σ513 τ) rfl ⟨Nat.le_of_ble_eq_true rfl, Nat.le_of_ble_eq_true rfl⟩ rfl rfl rfl hl.1 rfl (Nat.le_of_ble_eq_true rfl) dX12_order_90 ⟨Nat.zero_le _, Nat.zero_le _⟩ (fun r690 σ689 τ689 H locs h689 hP hS => ?_)
                  obtain ⟨rfl, f691, f692, I693, h689⟩ := h689
                  obtain ⟨i694, i695, i696, i697, i698⟩ : ((-1) ≤ (σ689 55 18).toInt ∧ (σ689 55 18).toInt ≤ 80) ∧ (0 ≤ (σ689 55 19).toInt) ∧ ((σ689 55 19).toInt ≤ (σ689 55 20).toInt) ∧ ((σ689 55 20).toInt ≤ 80) ∧ ((-1) ≤ (σ689 55 21).toInt) := id I693
                  have z699 : (σ689 55 18).toInt = (-1) := ((congrArg Int32.toInt (show σ689 55 18 = (-1) from ((f692 18 (by decide)).trans ((f522 18 (by decide)).trans ((f35 18 (by decide)).trans ((jkp 18 eσ15 (by decide)).trans ((jkp 18 eσ14 (by decide)).trans ((jkp 18 eσ12 (by decide)).trans (jsp eσ11))))))))).trans jz_m1)
                  have z700 : (σ689 55 20).toInt = (σ 55 15).toInt := (congrArg Int32.toInt (show σ689 55 20 = (σ 55 15) from ((f692 20 (by decide)).trans ((f522 20 (by decide)).trans ((f35 20 (by decide)).trans ((jkp 20 eσ15 (by decide)).trans (jsp eσ14)))))))
                  have z701 : (σ689 55 21).toInt = (σ513 55 21).toInt := (congrArg Int32.toInt (show σ689 55 21 = (σ513 55 21) from (f692 21 (by decide))))
                  rcases h689 with h702 | h703
                  · obtain ⟨q706, k704, k705⟩ := h702
                    have q706 := q706.symm
                    subst q706
                    refine lv_if_eq (tgt := 107) hx hb dX12_order_93 (by decide) (fun c => absurd c (by decide)) (fun _ => ?_)
                    refine lv_aload_n hx hb dX12_order_96 rfl (lv_at hl 1 rfl) ?_
                    refine lv_iconst (v := 2) hx hb dX12_order_97 (by decide) ?_
                    refine lv_iconst (v := 1) hx hb dX12_order_98 (by decide) ?_
                    refine lv_bipush (v := 12) hx hb dX12_order_99 (by decide) ?_
                    refine jcallV (As := [.int 2, .int 1, .int 12]) (rest := []) ⟨hx, hb, hml, hown, hts⟩ hK hP hA hS hZ (c_X12_numberRead l D cI cL ad zz hJ σ689 τ 2 (2) jz_2 1 (1) jz_1 12 (12) jz_12 I693 (by omega) (by omega) (by omega)) cw_RX12_227 (jc_55 cI cL ad σ689 τ) rfl ⟨Nat.le_of_ble_eq_true rfl, Nat.le_of_ble_eq_true rfl⟩ rfl rfl rfl hl.1 rfl (Nat.le_of_ble_eq_true rfl) dX12_order_101 ⟨Nat.zero_le _, Nat.zero_le _⟩ (fun r708 σ707 τ707 H locs h707 hP hS => ?_)
                    obtain ⟨rfl, f709, f710, I711, h707⟩ := h707
                    obtain ⟨i712, i713, i714, i715, i716⟩ : ((-1) ≤ (σ707 55 18).toInt ∧ (σ707 55 18).toInt ≤ 80) ∧ (0 ≤ (σ707 55 19).toInt) ∧ ((σ707 55 19).toInt ≤ (σ707 55 20).toInt) ∧ ((σ707 55 20).toInt ≤ 80) ∧ ((-1) ≤ (σ707 55 21).toInt) := id I711
                    have z717 : (σ707 55 18).toInt = (-1) := ((congrArg Int32.toInt (show σ707 55 18 = (-1) from ((f710 18 (by decide)).trans ((f692 18 (by decide)).trans ((f522 18 (by decide)).trans ((f35 18 (by decide)).trans ((jkp 18 eσ15 (by decide)).trans ((jkp 18 eσ14 (by decide)).trans ((jkp 18 eσ12 (by decide)).trans (jsp eσ11)))))))))).trans jz_m1)
                    have z718 : (σ707 55 20).toInt = (σ 55 15).toInt := (congrArg Int32.toInt (show σ707 55 20 = (σ 55 15) from ((f710 20 (by decide)).trans ((f692 20 (by decide)).trans ((f522 20 (by decide)).trans ((f35 20 (by decide)).trans ((jkp 20 eσ15 (by decide)).trans (jsp eσ14))))))))
                    have h719 := h707
                    obtain ⟨q721, k720⟩ := h719
                    refine lv_goto (tgt := 109) hx hb dX12_order_104 (by decide) ?_
                    refine lv_istore_n (lv' := [(2, .int r708), (1, .int x18), (0, .ref (ad 55))]) hx hb dX12_order_109 rfl hl (by decide) rfl (fun ls hl => ?_)
                    exact lp526 r708 σ707 _ _ ls (by omega) (by omega) (by omega) (by omega) (by omega) (by omega) (by omega) (fun i hi => ((f709 i hi).trans (f691 i hi))) (fun i hi => ((f710 i hi).trans (f692 i (imp_218 i hi))))   hP hS (lv_sub hl [1, 2, 0] rfl)
                  · obtain ⟨q723, k722⟩ := h703
                    have q723 := q723.symm
                    subst q723
                    refine lv_if_eq (tgt := 107) hx hb dX12_order_93 (by decide) (fun _ => ?_) (fun c => absurd (by decide) c)
                    refine lv_bipush (v := 8) hx hb dX12_order_107 (by decide) ?_
                    refine lv_istore_n (lv' := [(2, .int 8), (1, .int x18), (0, .ref (ad 55))]) hx hb dX12_order_109 rfl hl (by decide) rfl (fun ls hl => ?_)
                    exact lp526 8 σ689 _ _ ls (by have h90 := jz_8; omega) (by have h90 := jz_8; omega) (by have h90 := jz_8; omega) (by have h90 := jz_8; omega) (by have h90 := jz_8; omega) (by have h90 := jz_8; omega) (by have h90 := jz_8; omega) (fun i hi => (f691 i hi)) (fun i hi => (f692 i (imp_218 i hi)))   hP hS (lv_sub hl [1, 2, 0] rfl)
                refine lv_iload_n hx hb dX12_order_78 rfl (lv_at hl 0 rfl) ?_
                refine lv_if_ne (tgt := 87) hx hb dX12_order_79 (by decide) (fun c724 => ?_) (fun c724 => ?_)
                · have kc724 := jne c724 rfl jz_0
                  exact lp511  σ19 _ _ ls (by omega) (by omega) (by omega) (by omega) (by omega) (by omega) (by omega) (fun i hi => rfl) (fun i hi => rfl)   hP hS (lv_sub hl [0, 1] rfl)
                · have kc724 := jeq c724 rfl jz_0
                  refine lv_aload_n hx hb dX12_order_82 rfl (lv_at hl 1 rfl) ?_
                  refine jcallV (As := []) (rest := []) ⟨hx, hb, hml, hown, hts⟩ hK hP hA hS hZ (c_X12_wrong l D cI cL ad zz hJ σ19 τ I263) cw_RX12_214 (jc_55 cI cL ad σ19 τ) rfl ⟨Nat.le_of_ble_eq_true rfl, Nat.le_of_ble_eq_true rfl⟩ rfl rfl rfl hl.1 rfl (Nat.le_of_ble_eq_true rfl) dX12_order_83 ⟨Nat.zero_le _, Nat.zero_le _⟩ (fun r726 σ725 τ725 H locs h725 hP hS => ?_)
                  obtain ⟨rfl, f727, f728, I729, h725⟩ := h725
                  obtain ⟨i730, i731, i732, i733, i734⟩ : ((-1) ≤ (σ725 55 18).toInt ∧ (σ725 55 18).toInt ≤ 80) ∧ (0 ≤ (σ725 55 19).toInt) ∧ ((σ725 55 19).toInt ≤ (σ725 55 20).toInt) ∧ ((σ725 55 20).toInt ≤ 80) ∧ ((-1) ≤ (σ725 55 21).toInt) := id I729
                  have z735 : (σ725 55 18).toInt = (-1) := ((congrArg Int32.toInt (show σ725 55 18 = (-1) from ((f728 18 (by decide)).trans ((f35 18 (by decide)).trans ((jkp 18 eσ15 (by decide)).trans ((jkp 18 eσ14 (by decide)).trans ((jkp 18 eσ12 (by decide)).trans (jsp eσ11)))))))).trans jz_m1)
                  have z736 : (σ725 55 19).toInt = (σ19 55 19).toInt := (congrArg Int32.toInt (show σ725 55 19 = (σ19 55 19) from (f728 19 (by decide))))
                  have z737 : (σ725 55 20).toInt = (σ 55 15).toInt := (congrArg Int32.toInt (show σ725 55 20 = (σ 55 15) from ((f728 20 (by decide)).trans ((f35 20 (by decide)).trans ((jkp 20 eσ15 (by decide)).trans (jsp eσ14))))))
                  obtain ⟨k738, h725⟩ := h725
                  have h739 := h725
                  obtain ⟨q741, k740⟩ := h739
                  have q741 := q741.symm
                  subst q741
                  refine lv_istore_n (lv' := [(2, .int 0), (1, .int x18), (0, .ref (ad 55))]) hx hb dX12_order_86 rfl hl (by decide) rfl (fun ls hl => ?_)
                  exact lp511  σ725 _ _ ls (by omega) (by omega) (by omega) (by omega) (by omega) (by omega) (by omega) (fun i hi => (f727 i hi)) (fun i hi => (f728 i hi))   hP hS (lv_sub hl [1, 2] rfl)
              · have kc510 := jnlt c510 jz_51 rfl
                refine lv_aload_n hx hb dX12_order_49 rfl (lv_at hl 1 rfl) ?_
                refine va_get (D := D) hx hb hts inlX12 hown hK hP 55 (jc_55 cI cL ad σ19 τ) rfl 24 (by decide) (hts _ kw_7_13) (fun _ h9 => h9) rfl dX12_order_50 ?_
                refine lv_iload_n hx hb dX12_order_53 rfl (lv_at hl 0 rfl) ?_
                refine lv_aload_n hx hb dX12_order_54 rfl (lv_at hl 1 rfl) ?_
                refine jcallV (As := []) (rest := [.int x18, .ref (ad 67)]) ⟨hx, hb, hml, hown, hts⟩ hK hP hA hS hZ (c_X12_byteAt_t l D cI cL ad zz hJ σ19 τ I263 (by omega)) cw_RX12_189 (jc_55 cI cL ad σ19 τ) rfl ⟨Nat.le_of_ble_eq_true rfl, Nat.le_of_ble_eq_true rfl⟩ rfl rfl rfl hl.1 rfl (Nat.le_of_ble_eq_true rfl) dX12_order_55 ⟨Nat.zero_le _, Nat.zero_le _⟩ (fun r743 σ742 τ742 H locs h742 hP hS => ?_)
                obtain ⟨⟨rfl, rfl⟩, h742⟩ := h742
                rcases h742 with h744 | h745
                · obtain ⟨q747, k746⟩ := h744
                  have q748 : r743 = (σ 63 (σ19 55 19).toNatClampNeg) := q747.trans (by rw [f34 63 (by decide), jnp 63 eσ15 (by decide), jnp 63 eσ14 (by decide), jnp 63 eσ12 (by decide), jnp 63 eσ11 (by decide)])
                  have q748e : (σ19 63 (σ19 55 19).toNatClampNeg).toInt = (σ 63 (σ19 55 19).toNatClampNeg).toInt := by rw [← q747, ← q748]
                  have q748 := q748.symm
                  subst q748
                  refine lv_bipush (v := 48) hx hb dX12_order_58 (by decide) ?_
                  have g749 := jrg (rfl : (σ 63 (σ19 55 19).toNatClampNeg).toInt = (σ 63 (σ19 55 19).toNatClampNeg).toInt)
                  refine lv_isub hx hb dX12_order_60 ?_
                  refine lv_topi (fun x750 ex750 => ?_)
                  have tx750 : x750.toInt = (σ 63 (σ19 55 19).toNatClampNeg).toInt - 48 := (jsub ex750 rfl jz_48 (by omega) (by omega)).trans (by omega)
                  refine jast hx hb hK hP hJ hA hS (jc_67 cI cL ad σ19 τ) (ja_67 cI cL ad σ19 τ _ _) (jin rfl (by omega) (by omega)) dX12_order_61 (fun σ751 H locs eσ751 hP hS => ?_)
                  refine lv_aload_n hx hb dX12_order_62 rfl (lv_at hl 1 rfl) ?_
                  refine lv_dup hx hb dX12_order_63 rfl ?_
                  refine va_get (D := D) hx hb hts inlX12 hown hK hP 55 (jc_55 cI cL ad σ751 τ) rfl 19 (by decide) (hts _ kw_15_11) (fun _ h9 => h9) rfl dX12_order_64 ?_
                  have m752 : σ751 55 19 = (σ19 55 19) := (congrFun (jnp 55 eσ751 (by decide)) 19)
                  refine jtopr m752 ?_
                  refine lv_iconst (v := 1) hx hb dX12_order_67 (by decide) ?_
                  have g753 := jrg (rfl : (σ19 55 19).toInt = (σ19 55 19).toInt)
                  refine lv_iadd hx hb dX12_order_68 ?_
                  refine lv_topi (fun x754 ex754 => ?_)
                  have tx754 : x754.toInt = (σ19 55 19).toInt + 1 := (jadd ex754 rfl jz_1 (by omega) (by omega)).trans (by omega)
                  refine jput (ty := .int) hx hb hts inlX12 tyX12 tyX12_ok nmX12 hown hK hP hJ hA hS (jc_55 cI cL ad σ751 τ) rfl (k := 19) (by decide) (Nat.le_of_ble_eq_true rfl) (jp_55_19 cI cL ad σ751 τ x754) (hts _ kw_15_11) (fun _ h9 => h9) rfl (by decide +kernel) rfl rfl dX12_order_69 (fun σ755 H locs eσ755 hP hS => ?_)
                  obtain ⟨x756, ex756⟩ : ∃ y : Int32, y = x18 + 1 := ⟨_, rfl⟩
                  have tx756 : x756.toInt = x18.toInt + 1 := (jadd ex756 rfl jz_1 (by omega) (by omega)).trans (by omega)
                  refine lv_iinc (v := x756) (lv' := [(1, .int x756), (0, .ref (ad 55))]) hx hb dX12_order_72 hl (k := 0) rfl (by rw [ex756]; rfl) (by decide) rfl (fun ls hl => ?_)
                  refine lv_goto (tgt := 25) hx hb dX12_order_75 (by decide) ?_
                  have z757 : (σ755 55 18).toInt = (-1) := ((congrArg Int32.toInt (show σ755 55 18 = (-1) from ((jkp 18 eσ755 (by decide)).trans ((congrFun (jnp 55 eσ751 (by decide)) 18).trans ((f35 18 (by decide)).trans ((jkp 18 eσ15 (by decide)).trans ((jkp 18 eσ14 (by decide)).trans ((jkp 18 eσ12 (by decide)).trans (jsp eσ11))))))))).trans jz_m1)
                  have z758 : (σ755 55 19).toInt = (σ19 55 19).toInt + 1 := ((congrArg Int32.toInt (show σ755 55 19 = x754 from (jsp eσ755))).trans tx754)
                  have z759 : (σ755 55 20).toInt = (σ 55 15).toInt := (congrArg Int32.toInt (show σ755 55 20 = (σ 55 15) from ((jkp 20 eσ755 (by decide)).trans ((congrFun (jnp 55 eσ751 (by decide)) 20).trans ((f35 20 (by decide)).trans ((jkp 20 eσ15 (by decide)).trans (jsp eσ14)))))))
                  have z760 : (σ755 55 21).toInt = (-1) := ((congrArg Int32.toInt (show σ755 55 21 = (-1) from ((jkp 21 eσ755 (by decide)).trans ((congrFun (jnp 55 eσ751 (by decide)) 21).trans ((f35 21 (by decide)).trans (jsp eσ15)))))).trans jz_m1)
                  have z761 : (σ755 55 10).toInt = (σ 55 10).toInt := (congrArg Int32.toInt (show σ755 55 10 = (σ 55 10) from ((jkp 10 eσ755 (by decide)).trans ((congrFun (jnp 55 eσ751 (by decide)) 10).trans ((f35 10 (by decide)).trans ((jkp 10 eσ15 (by decide)).trans ((jkp 10 eσ14 (by decide)).trans ((jkp 10 eσ12 (by decide)).trans (jkp 10 eσ11 (by decide))))))))))
                  have z762 : (σ755 55 12).toInt = (σ 55 12).toInt := (congrArg Int32.toInt (show σ755 55 12 = (σ 55 12) from ((jkp 12 eσ755 (by decide)).trans ((congrFun (jnp 55 eσ751 (by decide)) 12).trans ((f35 12 (by decide)).trans ((jkp 12 eσ15 (by decide)).trans ((jkp 12 eσ14 (by decide)).trans ((jkp 12 eσ12 (by decide)).trans (jkp 12 eσ11 (by decide))))))))))
                  have z763 : (σ755 55 13).toInt = (σ 55 13).toInt := (congrArg Int32.toInt (show σ755 55 13 = (σ 55 13) from ((jkp 13 eσ755 (by decide)).trans ((congrFun (jnp 55 eσ751 (by decide)) 13).trans ((f35 13 (by decide)).trans ((jkp 13 eσ15 (by decide)).trans ((jkp 13 eσ14 (by decide)).trans ((jkp 13 eσ12 (by decide)).trans (jkp 13 eσ11 (by decide))))))))))
                  have w764 : ∀ k : Nat, k < 8 → 0 ≤ (σ755 62 k).toInt ∧ (σ755 62 k).toInt ≤ 3 := (jrr_fr (jnp 62 eσ755 (by decide)) (jrr_fr (jnp 62 eσ751 (by decide)) w40))
                  have w765 : ∀ k : Nat, k < 8 → 0 ≤ (σ755 67 k).toInt ∧ (σ755 67 k).toInt ≤ 3 := (jrr_fr (jnp 67 eσ755 (by decide)) (by rw [eσ751]; exact jrr_up w41 (by have h9 := tx750; omega) (by have h9 := tx750; omega)))
                  have I766 : jI104 σ755 := ⟨(by omega), (by omega), (by omega), w764, w765⟩
                  exact ihlp16 x756 σ755 _ _ ls (by have h90 := tx756; omega) (by have h90 := tx756; omega) (by have h90 := tx756; omega) (by have h90 := tx756; omega) (by have h90 := tx756; omega) (by have h90 := tx756; omega) (by have h90 := tx756; omega) (by have h90 := tx756; omega) (by have h90 := tx756; omega) (fun i hi => ((jnp i eσ755 (imp_238 i hi)).trans ((jnp i eσ751 (imp_239 i hi)).trans (f34 i hi)))) (fun i hi => ((jkp i eσ755 (imp_168 i hi)).trans ((congrFun (jnp 55 eσ751 (by decide)) i).trans (f35 i hi))))  I766 hP hS (lv_sub hl [0, 1] rfl)
                · obtain ⟨q768, k767⟩ := h745
                  exact absurd (by omega : False) id
            · obtain ⟨q770, k769⟩ := h506
              exact absurd (by omega : False) id
        · obtain ⟨q772, k771⟩ := h267
          have q772 := q772.symm
          subst q772
          refine lv_bipush (v := 48) hx hb dX12_order_35 (by decide) ?_
          refine lv_icmp_lt (tgt := 78) hx hb dX12_order_37 (by decide) (fun _ => ?_) (fun c => absurd (by decide) c)
          have lp773 : ∀  (σ775 : Nat → Nat → Int32) (H : Heap) (locs : List Loc) (ls : Array Slot), (-1) ≤ (σ775 55 18).toInt ∧ (σ775 55 18).toInt ≤ 80 → 0 ≤ (σ775 55 19).toInt → (σ775 55 19).toInt ≤ (σ775 55 20).toInt → (σ775 55 20).toInt ≤ 80 → (-1) ≤ (σ775 55 21).toInt → (σ775 55 18).toInt = (-1) → ((0 ≤ (σ775 55 21).toInt) ∨ (1 ≤ x18.toInt)) → (∀ i : Nat, (i < 55 ∨ 55 < i) → σ775 i = σ19 i) → (∀ k : Nat, (k < 21 ∨ 21 < k) → σ775 55 k = σ19 55 k) → jH D cI cL ad σ775 τ H → va_S (jA ad) s.heap H locs → lv_has ls 5 [(1, .int x18), (0, .ref (ad 55))] → W p l e ({ frames := 2, cells := 0, slots := 0, locals := 50 }) s m args below meth c H locs 0 0 Q (F0 m 87 ls []) := by
            intro  σ775 H locs ls h776 h777 h778 h779 h780 h781 h782 f783 f784 hP hS hl
            have z785 : (σ775 55 18).toInt = (-1) := ((congrArg Int32.toInt (show σ775 55 18 = (-1) from ((f784 18 (by decide)).trans ((f35 18 (by decide)).trans ((jkp 18 eσ15 (by decide)).trans ((jkp 18 eσ14 (by decide)).trans ((jkp 18 eσ12 (by decide)).trans (jsp eσ11)))))))).trans jz_m1)
            have z786 : (σ775 55 19).toInt = (σ19 55 19).toInt := (congrArg Int32.toInt (show σ775 55 19 = (σ19 55 19) from (f784 19 (by decide))))
            have z787 : (σ775 55 20).toInt = (σ 55 15).toInt := (congrArg Int32.toInt (show σ775 55 20 = (σ 55 15) from ((f784 20 (by decide)).trans ((f35 20 (by decide)).trans ((jkp 20 eσ15 (by decide)).trans (jsp eσ14))))))
            have lp788 : ∀ (x790 : Int32) (σ791 : Nat → Nat → Int32) (H : Heap) (locs : List Loc) (ls : Array Slot), (-1) ≤ (σ791 55 18).toInt ∧ (σ791 55 18).toInt ≤ 80 → 0 ≤ (σ791 55 19).toInt → (σ791 55 19).toInt ≤ (σ791 55 20).toInt → (σ791 55 20).toInt ≤ 80 → (-1) ≤ (σ791 55 21).toInt → (σ791 55 18).toInt = (-1) → ((0 ≤ (σ791 55 21).toInt) ∨ (1 ≤ x18.toInt ∧ 1 ≤ x790.toInt ∧ x790.toInt ≤ 12)) → (∀ i : Nat, (i < 55 ∨ 55 < i) → σ791 i = σ775 i) → (∀ k : Nat, (k < 19 ∨ 19 < k) ∧ (k < 21 ∨ 21 < k) → σ791 55 k = σ775 55 k) → jH D cI cL ad σ791 τ H → va_S (jA ad) s.heap H locs → lv_has ls 5 [(1, .int x18), (0, .ref (ad 55)), (2, .int x790)] → W p l e ({ frames := 2, cells := 0, slots := 0, locals := 50 }) s m args below meth c H locs 0 0 Q (F0 m 110 ls []) := by
              intro x790 σ791 H locs ls h792 h793 h794 h795 h796 h797 h798 f799 f800 hP hS hl
              have gx790 := jrg (rfl : x790.toInt = x790.toInt)
              have z801 : (σ791 55 18).toInt = (-1) := ((congrArg Int32.toInt (show σ791 55 18 = (-1) from ((f800 18 (by decide)).trans ((f784 18 (by decide)).trans ((f35 18 (by decide)).trans ((jkp 18 eσ15 (by decide)).trans ((jkp 18 eσ14 (by decide)).trans ((jkp 18 eσ12 (by decide)).trans (jsp eσ11))))))))).trans jz_m1)
              have z802 : (σ791 55 20).toInt = (σ 55 15).toInt := (congrArg Int32.toInt (show σ791 55 20 = (σ 55 15) from ((f800 20 (by decide)).trans ((f784 20 (by decide)).trans ((f35 20 (by decide)).trans ((jkp 20 eσ15 (by decide)).trans (jsp eσ14)))))))
              have lp803 : ∀ (x805 : Int32) (σ806 : Nat → Nat → Int32) (H : Heap) (locs : List Loc) (ls : Array Slot), (-1) ≤ (σ806 55 18).toInt ∧ (σ806 55 18).toInt ≤ 80 → 0 ≤ (σ806 55 19).toInt → (σ806 55 19).toInt ≤ (σ806 55 20).toInt → (σ806 55 20).toInt ≤ 80 → (-1) ≤ (σ806 55 21).toInt → (σ806 55 18).toInt = (-1) → ((0 ≤ (σ806 55 21).toInt) ∨ (1 ≤ x18.toInt ∧ 1 ≤ x790.toInt ∧ x790.toInt ≤ 12 ∧ 0 ≤ x805.toInt ∧ x805.toInt ≤ 999)) → (∀ i : Nat, (i < 55 ∨ 55 < i) → σ806 i = σ791 i) → (∀ k : Nat, (k < 19 ∨ 19 < k) ∧ (k < 21 ∨ 21 < k) → σ806 55 k = σ791 55 k) → jH D cI cL ad σ806 τ H → va_S (jA ad) s.heap H locs → lv_has ls 5 [(1, .int x18), (0, .ref (ad 55)), (2, .int x790), (3, .int x805)] → W p l e ({ frames := 2, cells := 0, slots := 0, locals := 50 }) s m args below meth c H locs 0 0 Q (F0 m 133 ls []) := by
                intro x805 σ806 H locs ls h807 h808 h809 h810 h811 h812 h813 f814 f815 hP hS hl
                have gx805 := jrg (rfl : x805.toInt = x805.toInt)
                have z816 : (σ806 55 18).toInt = (-1) := ((congrArg Int32.toInt (show σ806 55 18 = (-1) from ((f815 18 (by decide)).trans ((f800 18 (by decide)).trans ((f784 18 (by decide)).trans ((f35 18 (by decide)).trans ((jkp 18 eσ15 (by decide)).trans ((jkp 18 eσ14 (by decide)).trans ((jkp 18 eσ12 (by decide)).trans (jsp eσ11)))))))))).trans jz_m1)
                have z817 : (σ806 55 20).toInt = (σ 55 15).toInt := (congrArg Int32.toInt (show σ806 55 20 = (σ 55 15) from ((f815 20 (by decide)).trans ((f800 20 (by decide)).trans ((f784 20 (by decide)).trans ((f35 20 (by decide)).trans ((jkp 20 eσ15 (by decide)).trans (jsp eσ14))))))))
                have lp818 : ∀  (σ820 : Nat → Nat → Int32) (H : Heap) (locs : List Loc) (ls : Array Slot), (-1) ≤ (σ820 55 18).toInt ∧ (σ820 55 18).toInt ≤ 80 → 0 ≤ (σ820 55 19).toInt → (σ820 55 19).toInt ≤ (σ820 55 20).toInt → (σ820 55 20).toInt ≤ 80 → (-1) ≤ (σ820 55 21).toInt → (σ820 55 18).toInt = (-1) → ((0 ≤ (σ820 55 21).toInt) ∨ (1 ≤ x18.toInt ∧ 1 ≤ x790.toInt ∧ x790.toInt ≤ 12 ∧ 0 ≤ x805.toInt ∧ x805.toInt ≤ 999)) → (∀ i : Nat, (i < 55 ∨ 55 < i) → σ820 i = σ806 i) → (∀ k : Nat, (k < 21 ∨ 21 < k) → σ820 55 k = σ806 55 k) → jH D cI cL ad σ820 τ H → va_S (jA ad) s.heap H locs → lv_has ls 5 [(1, .int x18), (0, .ref (ad 55)), (2, .int x790), (3, .int x805)] → W p l e ({ frames := 2, cells := 0, slots := 0, locals := 50 }) s m args below meth c H locs 0 0 Q (F0 m 157 ls []) := by
                  intro  σ820 H locs ls h821 h822 h823 h824 h825 h826 h827 f828 f829 hP hS hl
                  have z830 : (σ820 55 18).toInt = (-1) := ((congrArg Int32.toInt (show σ820 55 18 = (-1) from ((f829 18 (by decide)).trans ((f815 18 (by decide)).trans ((f800 18 (by decide)).trans ((f784 18 (by decide)).trans ((f35 18 (by decide)).trans ((jkp 18 eσ15 (by decide)).trans ((jkp 18 eσ14 (by decide)).trans ((jkp 18 eσ12 (by decide)).trans (jsp eσ11))))))))))).trans jz_m1)
                  have z831 : (σ820 55 19).toInt = (σ806 55 19).toInt := (congrArg Int32.toInt (show σ820 55 19 = (σ806 55 19) from (f829 19 (by decide))))
                  have z832 : (σ820 55 20).toInt = (σ 55 15).toInt := (congrArg Int32.toInt (show σ820 55 20 = (σ 55 15) from ((f829 20 (by decide)).trans ((f815 20 (by decide)).trans ((f800 20 (by decide)).trans ((f784 20 (by decide)).trans ((f35 20 (by decide)).trans ((jkp 20 eσ15 (by decide)).trans (jsp eσ14)))))))))
                  refine lv_aload_n hx hb dX12_order_157 rfl (lv_at hl 1 rfl) ?_
                  refine lv_iconst (v := 0) hx hb dX12_order_158 (by decide) ?_
                  refine jput (ty := .int) hx hb hts inlX12 tyX12 tyX12_ok nmX12 hown hK hP hJ hA hS (jc_55 cI cL ad σ820 τ) rfl (k := 15) (by decide) (Nat.le_of_ble_eq_true rfl) (jp_55_15 cI cL ad σ820 τ 0) (hts _ kw_13_6) (fun _ h9 => h9) rfl (by decide +kernel) rfl rfl dX12_order_159 (fun σ833 H locs eσ833 hP hS => ?_)
                  refine lv_aload_n hx hb dX12_order_162 rfl (lv_at hl 1 rfl) ?_
                  refine va_get (D := D) hx hb hts inlX12 hown hK hP 55 (jc_55 cI cL ad σ833 τ) rfl 21 (by decide) (hts _ kw_15_13) (fun _ h9 => h9) rfl dX12_order_163 ?_
                  have m834 : σ833 55 21 = (σ820 55 21) := (jkp 21 eσ833 (by decide))
                  refine jtopr m834 ?_
                  refine lv_if_lt (tgt := 177) hx hb dX12_order_166 (by decide) (fun c835 => ?_) (fun c835 => ?_)
                  · have kc835 := jlt c835 rfl jz_0
                    refine lv_aload_n hx hb dX12_order_177 rfl (lv_at hl 1 rfl) ?_
                    refine lv_iload_n hx hb dX12_order_178 rfl (lv_at hl 0 rfl) ?_
                    refine jput (ty := .int) hx hb hts inlX12 tyX12 tyX12_ok nmX12 hown hK hP hJ hA hS (jc_55 cI cL ad σ833 τ) rfl (k := 10) (by decide) (Nat.le_of_ble_eq_true rfl) (jp_55_10 cI cL ad σ833 τ x18) (hts _ kw_8_15) (fun _ h9 => h9) rfl (by decide +kernel) rfl rfl dX12_order_179 (fun σ836 H locs eσ836 hP hS => ?_)
                    refine lv_aload_n hx hb dX12_order_182 rfl (lv_at hl 1 rfl) ?_
                    refine lv_iload_n hx hb dX12_order_183 rfl (lv_at hl 2 rfl) ?_
                    refine jput (ty := .int) hx hb hts inlX12 tyX12 tyX12_ok nmX12 hown hK hP hJ hA hS (jc_55 cI cL ad σ836 τ) rfl (k := 12) (by decide) (Nat.le_of_ble_eq_true rfl) (jp_55_12 cI cL ad σ836 τ x790) (hts _ kw_8_16) (fun _ h9 => h9) rfl (by decide +kernel) rfl rfl dX12_order_184 (fun σ837 H locs eσ837 hP hS => ?_)
                    refine lv_aload_n hx hb dX12_order_187 rfl (lv_at hl 1 rfl) ?_
                    refine lv_iload_n hx hb dX12_order_188 rfl (lv_at hl 3 rfl) ?_
                    refine jput (ty := .int) hx hb hts inlX12 tyX12 tyX12_ok nmX12 hown hK hP hJ hA hS (jc_55 cI cL ad σ837 τ) rfl (k := 13) (by decide) (Nat.le_of_ble_eq_true rfl) (jp_55_13 cI cL ad σ837 τ x805) (hts _ kw_15_14) (fun _ h9 => h9) rfl (by decide +kernel) rfl rfl dX12_order_189 (fun σ838 H locs eσ838 hP hS => ?_)
                    refine lv_iconst (v := 0) hx hb dX12_order_192 (by decide) ?_
                    refine lv_istore (lv' := [(4, .int 0), (1, .int x18), (0, .ref (ad 55)), (2, .int x790), (3, .int x805)]) hx hb dX12_order_193 hl (by decide) rfl (fun ls hl => ?_)
                    have z843 : (σ838 55 10).toInt = x18.toInt := (congrArg Int32.toInt (show σ838 55 10 = x18 from ((jkp 10 eσ838 (by decide)).trans ((jkp 10 eσ837 (by decide)).trans (jsp eσ836)))))
                    have z844 : (σ838 55 12).toInt = x790.toInt := (congrArg Int32.toInt (show σ838 55 12 = x790 from ((jkp 12 eσ838 (by decide)).trans (jsp eσ837))))
                    have z845 : (σ838 55 13).toInt = x805.toInt := (congrArg Int32.toInt (show σ838 55 13 = x805 from (jsp eσ838)))
                    have w846 : ∀ k : Nat, k < 8 → 0 ≤ (σ838 62 k).toInt ∧ (σ838 62 k).toInt ≤ 3 := (jrr_fr (jnp 62 eσ838 (by decide)) (jrr_fr (jnp 62 eσ837 (by decide)) (jrr_fr (jnp 62 eσ836 (by decide)) (jrr_fr (jnp 62 eσ833 (by decide)) (jrr_fr (f828 62 (by decide)) (jrr_fr (f814 62 (by decide)) (jrr_fr (f799 62 (by decide)) (jrr_fr (f783 62 (by decide)) w40))))))))
                    have w847 : ∀ k : Nat, k < 8 → 0 ≤ (σ838 67 k).toInt ∧ (σ838 67 k).toInt ≤ 3 := (jrr_fr (jnp 67 eσ838 (by decide)) (jrr_fr (jnp 67 eσ837 (by decide)) (jrr_fr (jnp 67 eσ836 (by decide)) (jrr_fr (jnp 67 eσ833 (by decide)) (jrr_fr (f828 67 (by decide)) (jrr_fr (f814 67 (by decide)) (jrr_fr (f799 67 (by decide)) (jrr_fr (f783 67 (by decide)) w41))))))))
                    have I848 : jI104 σ838 := ⟨(by omega), (by omega), (by omega), w846, w847⟩
                    have lp839 : ∀ (n840 : Nat) (x841 : Int32) (σ842 : Nat → Nat → Int32) (H : Heap) (locs : List Loc) (ls : Array Slot), (x18.toInt - x841.toInt : Int) < n840 → 0 ≤ x841.toInt → x841.toInt ≤ 8 → x841.toInt ≤ x18.toInt → (∀ i : Nat, (i < 62 ∨ 62 < i) → σ842 i = σ838 i) → jI104 σ842 → jH D cI cL ad σ842 τ H → va_S (jA ad) s.heap H locs → lv_has ls 5 [(4, .int x841), (1, .int x18), (0, .ref (ad 55)), (2, .int x790), (3, .int x805)] → W p l e ({ frames := 2, cells := 0, slots := 0, locals := 50 }) s m args below meth c H locs 0 0 Q (F0 m 195 ls []) := by
                      intro n840
                      induction n840 with
                      | zero => intro x841 σ842 H locs ls h849 h850 h851 h852; exact absurd h849 (by omega)
                      | succ n840 ihlp839 =>
                        intro x841 σ842 H locs ls h849 h850 h851 h852 f853 p854 hP hS hl
                        obtain ⟨i855, i856, i857, w858, w859⟩ : (1 ≤ (σ842 55 10).toInt ∧ (σ842 55 10).toInt ≤ 8) ∧ (1 ≤ (σ842 55 12).toInt ∧ (σ842 55 12).toInt ≤ 12) ∧ (0 ≤ (σ842 55 13).toInt ∧ (σ842 55 13).toInt ≤ 999) ∧ (∀ k : Nat, k < 8 → 0 ≤ (σ842 62 k).toInt ∧ (σ842 62 k).toInt ≤ 3) ∧ (∀ k : Nat, k < 8 → 0 ≤ (σ842 67 k).toInt ∧ (σ842 67 k).toInt ≤ 3) := id p854
                        have z860 : (σ842 55 10).toInt = x18.toInt := (congrArg Int32.toInt (show σ842 55 10 = x18 from ((congrFun (f853 55 (by decide)) 10).trans ((jkp 10 eσ838 (by decide)).trans ((jkp 10 eσ837 (by decide)).trans (jsp eσ836))))))
                        have z861 : (σ842 55 12).toInt = x790.toInt := (congrArg Int32.toInt (show σ842 55 12 = x790 from ((congrFun (f853 55 (by decide)) 12).trans ((jkp 12 eσ838 (by decide)).trans (jsp eσ837)))))
                        have z862 : (σ842 55 13).toInt = x805.toInt := (congrArg Int32.toInt (show σ842 55 13 = x805 from ((congrFun (f853 55 (by decide)) 13).trans (jsp eσ838))))
                        refine lv_iload hx hb dX12_order_195 (lv_at hl 0 rfl) ?_
                        refine lv_iload_n hx hb dX12_order_197 rfl (lv_at hl 1 rfl) ?_
                        refine lv_icmp_ge (tgt := 221) hx hb dX12_order_198 (by decide) (fun c863 => ?_) (fun c863 => ?_)
                        · have kc863 := jle c863 rfl rfl
                          refine lv_aload_n hx hb dX12_order_221 rfl (lv_at hl 2 rfl) ?_
                          refine lv_iconst (v := 0) hx hb dX12_order_222 (by decide) ?_
                          refine jput (ty := .int) hx hb hts inlX12 tyX12 tyX12_ok nmX12 hown hK hP hJ hA hS (jc_55 cI cL ad σ842 τ) rfl (k := 47) (by decide) (Nat.le_of_ble_eq_true rfl) (jp_55_47 cI cL ad σ842 τ 0) (hts _ kw_15_15) (fun _ h9 => h9) rfl (by decide +kernel) rfl rfl dX12_order_223 (fun σ864 H locs eσ864 hP hS => ?_)
                          refine lv_aload_n hx hb dX12_order_226 rfl (lv_at hl 2 rfl) ?_
                          refine va_get (D := D) hx hb hts inlX12 hown hK hP 55 (jc_55 cI cL ad σ864 τ) rfl 10 (by decide) (hts _ kw_8_15) (fun _ h9 => h9) rfl dX12_order_227 ?_
                          have m865 : σ864 55 10 = x18 := ((jkp 10 eσ864 (by decide)).trans ((congrFun (f853 55 (by decide)) 10).trans ((jkp 10 eσ838 (by decide)).trans ((jkp 10 eσ837 (by decide)).trans (jsp eσ836)))))
                          refine jtopr m865 ?_
                          have z866 : (σ864 55 47).toInt = 0 := ((congrArg Int32.toInt (show σ864 55 47 = 0 from (jsp eσ864))).trans jz_0)
                          have p867 : jBook σ864 := jBook.nil (by omega)
                          have I868 : jI104 σ864 := jI104_fr (jkp 10 eσ864 (by decide)) (jkp 12 eσ864 (by decide)) (jkp 13 eσ864 (by decide)) (jnp 62 eσ864 (by decide)) (jnp 67 eσ864 (by decide)) p854
                          have z869 : (σ864 55 15).toInt = 0 := ((congrArg Int32.toInt (show σ864 55 15 = 0 from ((jkp 15 eσ864 (by decide)).trans ((congrFun (f853 55 (by decide)) 15).trans ((jkp 15 eσ838 (by decide)).trans ((jkp 15 eσ837 (by decide)).trans ((jkp 15 eσ836 (by decide)).trans (jsp eσ833)))))))).trans jz_0)
                          have w870 : ∀ k : Nat, k < 2 → (-1) ≤ (σ864 65 k).toInt ∧ (σ864 65 k).toInt ≤ 80 := (jrr_fr (jnp 65 eσ864 (by decide)) (jrr_fr (f853 65 (by decide)) (jrr_fr (jnp 65 eσ838 (by decide)) (jrr_fr (jnp 65 eσ837 (by decide)) (jrr_fr (jnp 65 eσ836 (by decide)) (jrr_fr (jnp 65 eσ833 (by decide)) (jrr_fr (f828 65 (by decide)) (jrr_fr (f814 65 (by decide)) (jrr_fr (f799 65 (by decide)) (jrr_fr (f783 65 (by decide)) (jrr_fr (f34 65 (by decide)) (jrr_fr (jnp 65 eσ15 (by decide)) (jrr_fr (jnp 65 eσ14 (by decide)) (jrr_fr (jnp 65 eσ12 (by decide)) (jrr_fr (jnp 65 eσ11 (by decide)) w7)))))))))))))))
                          have I871 : jI105 σ864 := ⟨(by omega), w870⟩
                          have z872 : (σ864 55 12).toInt = x790.toInt := (congrArg Int32.toInt (show σ864 55 12 = x790 from ((jkp 12 eσ864 (by decide)).trans ((congrFun (f853 55 (by decide)) 12).trans ((jkp 12 eσ838 (by decide)).trans (jsp eσ837))))))
                          have w873 : ∀ k : Nat, k < 12 → 0 ≤ (σ864 80 k).toInt ∧ (σ864 80 k).toInt ≤ 3 := (jrr_fr (jnp 80 eσ864 (by decide)) (jrr_fr (f853 80 (by decide)) (jrr_fr (jnp 80 eσ838 (by decide)) (jrr_fr (jnp 80 eσ837 (by decide)) (jrr_fr (jnp 80 eσ836 (by decide)) (jrr_fr (jnp 80 eσ833 (by decide)) (jrr_fr (f828 80 (by decide)) (jrr_fr (f814 80 (by decide)) (jrr_fr (f799 80 (by decide)) (jrr_fr (f783 80 (by decide)) (jrr_fr (f34 80 (by decide)) (jrr_fr (jnp 80 eσ15 (by decide)) (jrr_fr (jnp 80 eσ14 (by decide)) (jrr_fr (jnp 80 eσ12 (by decide)) (jrr_fr (jnp 80 eσ11 (by decide)) w10)))))))))))))))
                          have I874 : jI107 σ864 := ⟨(by omega), (by omega), w873⟩
                          exact hret x18 σ864 τ _ _ _ _ rfl ⟨rfl, (fun i hi => ((jnp i eσ864 (imp_221 i hi)).trans ((f853 i (imp_222 i hi)).trans ((jnp i eσ838 (imp_221 i hi)).trans ((jnp i eσ837 (imp_221 i hi)).trans ((jnp i eσ836 (imp_221 i hi)).trans ((jnp i eσ833 (imp_221 i hi)).trans ((f828 i (imp_223 i hi)).trans ((f814 i (imp_223 i hi)).trans ((f799 i (imp_223 i hi)).trans ((f783 i (imp_223 i hi)).trans ((f34 i (imp_224 i hi)).trans ((jnp i eσ15 (imp_221 i hi)).trans ((jnp i eσ14 (imp_221 i hi)).trans ((jnp i eσ12 (imp_221 i hi)).trans (jnp i eσ11 (imp_221 i hi))))))))))))))))), (fun i hi => ((jkp i eσ864 (imp_225 i hi)).trans ((congrFun (f853 55 (by decide)) i).trans ((jkp i eσ838 (imp_226 i hi)).trans ((jkp i eσ837 (imp_227 i hi)).trans ((jkp i eσ836 (imp_228 i hi)).trans ((jkp i eσ833 (imp_229 i hi)).trans ((f829 i (imp_230 i hi)).trans ((f815 i (imp_231 i hi)).trans ((f800 i (imp_231 i hi)).trans ((f784 i (imp_230 i hi)).trans ((f35 i (imp_232 i hi)).trans ((jkp i eσ15 (imp_233 i hi)).trans ((jkp i eσ14 (imp_234 i hi)).trans ((jkp i eσ12 (imp_235 i hi)).trans (jkp i eσ11 (imp_236 i hi))))))))))))))))), I868, I871, I874, p867, (by omega), trivial⟩ hP hS dX12_order_230
                        · have kc863 := jnle c863 rfl rfl
                          refine lv_aload_n hx hb dX12_order_201 rfl (lv_at hl 2 rfl) ?_
                          refine va_get (D := D) hx hb hts inlX12 hown hK hP 55 (jc_55 cI cL ad σ842 τ) rfl 11 (by decide) (hts _ kw_7_8) (fun _ h9 => h9) rfl dX12_order_202 ?_
                          refine lv_iload hx hb dX12_order_205 (lv_at hl 0 rfl) ?_
                          refine lv_aload_n hx hb dX12_order_207 rfl (lv_at hl 2 rfl) ?_
                          refine va_get (D := D) hx hb hts inlX12 hown hK hP 55 (jc_55 cI cL ad σ842 τ) rfl 24 (by decide) (hts _ kw_7_13) (fun _ h9 => h9) rfl dX12_order_208 ?_
                          refine lv_iload hx hb dX12_order_211 (lv_at hl 0 rfl) ?_
                          refine jald hx hb hK hP (jc_67 cI cL ad σ842 τ) (jin rfl (by omega) (by omega)) dX12_order_213 ?_
                          have g875 := w859 _ (jnat (x := x841) rfl (n := 8) (by omega) (by decide))
                          refine lv_topi (fun x876 ex876 => ?_)
                          rw [← ex876] at g875
                          refine jast hx hb hK hP hJ hA hS (jc_62 cI cL ad σ842 τ) (ja_62 cI cL ad σ842 τ _ _) (jin rfl (by omega) (by omega)) dX12_order_214 (fun σ877 H locs eσ877 hP hS => ?_)
                          obtain ⟨x878, ex878⟩ : ∃ y : Int32, y = x841 + 1 := ⟨_, rfl⟩
                          have tx878 : x878.toInt = x841.toInt + 1 := (jadd ex878 rfl jz_1 (by omega) (by omega)).trans (by omega)
                          refine lv_iinc (v := x878) (lv' := [(4, .int x878), (1, .int x18), (0, .ref (ad 55)), (2, .int x790), (3, .int x805)]) hx hb dX12_order_215 hl (k := 0) rfl (by rw [ex878]; rfl) (by decide) rfl (fun ls hl => ?_)
                          refine lv_goto (tgt := 195) hx hb dX12_order_218 (by decide) ?_
                          have z879 : (σ877 55 10).toInt = x18.toInt := (congrArg Int32.toInt (show σ877 55 10 = x18 from ((congrFun (jnp 55 eσ877 (by decide)) 10).trans ((congrFun (f853 55 (by decide)) 10).trans ((jkp 10 eσ838 (by decide)).trans ((jkp 10 eσ837 (by decide)).trans (jsp eσ836)))))))
                          have z880 : (σ877 55 12).toInt = x790.toInt := (congrArg Int32.toInt (show σ877 55 12 = x790 from ((congrFun (jnp 55 eσ877 (by decide)) 12).trans ((congrFun (f853 55 (by decide)) 12).trans ((jkp 12 eσ838 (by decide)).trans (jsp eσ837))))))
                          have z881 : (σ877 55 13).toInt = x805.toInt := (congrArg Int32.toInt (show σ877 55 13 = x805 from ((congrFun (jnp 55 eσ877 (by decide)) 13).trans ((congrFun (f853 55 (by decide)) 13).trans (jsp eσ838)))))
                          have w882 : ∀ k : Nat, k < 8 → 0 ≤ (σ877 62 k).toInt ∧ (σ877 62 k).toInt ≤ 3 := (by rw [eσ877]; exact jrr_up w858 (by omega) (by omega))
                          have w883 : ∀ k : Nat, k < 8 → 0 ≤ (σ877 67 k).toInt ∧ (σ877 67 k).toInt ≤ 3 := (jrr_fr (jnp 67 eσ877 (by decide)) w859)
                          have I884 : jI104 σ877 := ⟨(by omega), (by omega), (by omega), w882, w883⟩
                          exact ihlp839 x878 σ877 _ _ ls (by have h90 := tx878; omega) (by have h90 := tx878; omega) (by have h90 := tx878; omega) (by have h90 := tx878; omega) (fun i hi => ((jnp i eσ877 (imp_237 i hi)).trans (f853 i hi)))   I884 hP hS (lv_sub hl [0, 1, 2, 3, 4] rfl)
                    exact lp839 1000000 0 σ838 _ _ ls (by have h90 := jz_0; omega) (by have h90 := jz_0; omega) (by have h90 := jz_0; omega) (by have h90 := jz_0; omega) (fun _ _ => rfl)  I848 hP hS hl
                  · have kc835 := jnlt c835 rfl jz_0
                    refine lv_bipush (v := (-100)) hx hb dX12_order_169 (by decide) ?_
                    refine lv_aload_n hx hb dX12_order_171 rfl (lv_at hl 1 rfl) ?_
                    refine va_get (D := D) hx hb hts inlX12 hown hK hP 55 (jc_55 cI cL ad σ833 τ) rfl 21 (by decide) (hts _ kw_15_13) (fun _ h9 => h9) rfl dX12_order_172 ?_
                    refine jtopr m834 ?_
                    have g885 := jrg (rfl : (σ820 55 21).toInt = (σ820 55 21).toInt)
                    refine lv_isub hx hb dX12_order_175 ?_
                    refine lv_topi (fun x886 ex886 => ?_)
                    have gx886 := jrg (rfl : x886.toInt = x886.toInt)
                    have I887 : jI104 σ833 := jI104_fr ((jkp 10 eσ833 (by decide)).trans ((f829 10 (by decide)).trans ((f815 10 (by decide)).trans ((f800 10 (by decide)).trans (f784 10 (by decide)))))) ((jkp 12 eσ833 (by decide)).trans ((f829 12 (by decide)).trans ((f815 12 (by decide)).trans ((f800 12 (by decide)).trans (f784 12 (by decide)))))) ((jkp 13 eσ833 (by decide)).trans ((f829 13 (by decide)).trans ((f815 13 (by decide)).trans ((f800 13 (by decide)).trans (f784 13 (by decide)))))) ((jnp 62 eσ833 (by decide)).trans ((f828 62 (by decide)).trans ((f814 62 (by decide)).trans ((f799 62 (by decide)).trans (f783 62 (by decide)))))) ((jnp 67 eσ833 (by decide)).trans ((f828 67 (by decide)).trans ((f814 67 (by decide)).trans ((f799 67 (by decide)).trans (f783 67 (by decide)))))) p36
                    have z888 : (σ833 55 15).toInt = 0 := ((congrArg Int32.toInt (show σ833 55 15 = 0 from (jsp eσ833))).trans jz_0)
                    have w889 : ∀ k : Nat, k < 2 → (-1) ≤ (σ833 65 k).toInt ∧ (σ833 65 k).toInt ≤ 80 := (jrr_fr (jnp 65 eσ833 (by decide)) (jrr_fr (f828 65 (by decide)) (jrr_fr (f814 65 (by decide)) (jrr_fr (f799 65 (by decide)) (jrr_fr (f783 65 (by decide)) (jrr_fr (f34 65 (by decide)) (jrr_fr (jnp 65 eσ15 (by decide)) (jrr_fr (jnp 65 eσ14 (by decide)) (jrr_fr (jnp 65 eσ12 (by decide)) (jrr_fr (jnp 65 eσ11 (by decide)) w7))))))))))
                    have I890 : jI105 σ833 := ⟨(by omega), w889⟩
                    have I891 : jI107 σ833 := jI107_fr ((jkp 12 eσ833 (by decide)).trans ((f829 12 (by decide)).trans ((f815 12 (by decide)).trans ((f800 12 (by decide)).trans ((f784 12 (by decide)).trans ((f35 12 (by decide)).trans ((jkp 12 eσ15 (by decide)).trans ((jkp 12 eσ14 (by decide)).trans ((jkp 12 eσ12 (by decide)).trans (jkp 12 eσ11 (by decide))))))))))) ((jkp 47 eσ833 (by decide)).trans ((f829 47 (by decide)).trans ((f815 47 (by decide)).trans ((f800 47 (by decide)).trans ((f784 47 (by decide)).trans ((f35 47 (by decide)).trans ((jkp 47 eσ15 (by decide)).trans ((jkp 47 eσ14 (by decide)).trans ((jkp 47 eσ12 (by decide)).trans (jkp 47 eσ11 (by decide))))))))))) ((jnp 80 eσ833 (by decide)).trans ((f828 80 (by decide)).trans ((f814 80 (by decide)).trans ((f799 80 (by decide)).trans ((f783 80 (by decide)).trans ((f34 80 (by decide)).trans ((jnp 80 eσ15 (by decide)).trans ((jnp 80 eσ14 (by decide)).trans ((jnp 80 eσ12 (by decide)).trans (jnp 80 eσ11 (by decide))))))))))) hI107
                    have p892 : jBook σ833 := jBook.fr ((jkp 47 eσ833 (by decide)).trans ((f829 47 (by decide)).trans ((f815 47 (by decide)).trans ((f800 47 (by decide)).trans ((f784 47 (by decide)).trans ((f35 47 (by decide)).trans ((jkp 47 eσ15 (by decide)).trans ((jkp 47 eσ14 (by decide)).trans ((jkp 47 eσ12 (by decide)).trans (jkp 47 eσ11 (by decide))))))))))) ((jkp 10 eσ833 (by decide)).trans ((f829 10 (by decide)).trans ((f815 10 (by decide)).trans ((f800 10 (by decide)).trans ((f784 10 (by decide)).trans ((f35 10 (by decide)).trans ((jkp 10 eσ15 (by decide)).trans ((jkp 10 eσ14 (by decide)).trans ((jkp 10 eσ12 (by decide)).trans (jkp 10 eσ11 (by decide))))))))))) ((jnp 81 eσ833 (by decide)).trans ((f828 81 (by decide)).trans ((f814 81 (by decide)).trans ((f799 81 (by decide)).trans ((f783 81 (by decide)).trans ((f34 81 (by decide)).trans ((jnp 81 eσ15 (by decide)).trans ((jnp 81 eσ14 (by decide)).trans ((jnp 81 eσ12 (by decide)).trans (jnp 81 eσ11 (by decide))))))))))) hs_jBook
                    exact hret x886 σ833 τ _ _ _ _ rfl ⟨rfl, (fun i hi => ((jnp i eσ833 (imp_221 i hi)).trans ((f828 i (imp_223 i hi)).trans ((f814 i (imp_223 i hi)).trans ((f799 i (imp_223 i hi)).trans ((f783 i (imp_223 i hi)).trans ((f34 i (imp_224 i hi)).trans ((jnp i eσ15 (imp_221 i hi)).trans ((jnp i eσ14 (imp_221 i hi)).trans ((jnp i eσ12 (imp_221 i hi)).trans (jnp i eσ11 (imp_221 i hi)))))))))))), (fun i hi => ((jkp i eσ833 (imp_229 i hi)).trans ((f829 i (imp_230 i hi)).trans ((f815 i (imp_231 i hi)).trans ((f800 i (imp_231 i hi)).trans ((f784 i (imp_230 i hi)).trans ((f35 i (imp_232 i hi)).trans ((jkp i eσ15 (imp_233 i hi)).trans ((jkp i eσ14 (imp_234 i hi)).trans ((jkp i eσ12 (imp_235 i hi)).trans (jkp i eσ11 (imp_236 i hi)))))))))))), I887, I890, I891, p892, (by omega), trivial⟩ hP hS dX12_order_176
                refine lv_aload_n hx hb dX12_order_133 rfl (lv_at hl 1 rfl) ?_
                refine va_get (D := D) hx hb hts inlX12 hown hK hP 55 (jc_55 cI cL ad σ806 τ) rfl 21 (by decide) (hts _ kw_15_13) (fun _ h9 => h9) rfl dX12_order_134 ?_
                refine lv_if_ge (tgt := 157) hx hb dX12_order_137 (by decide) (fun c893 => ?_) (fun c893 => ?_)
                · have kc893 := jle c893 jz_0 rfl
                  exact lp818  σ806 _ _ ls (by omega) (by omega) (by omega) (by omega) (by omega) (by omega) (by omega) (fun i hi => rfl) (fun i hi => rfl)   hP hS (lv_sub hl [0, 1, 2, 3] rfl)
                · have kc893 := jnle c893 jz_0 rfl
                  refine lv_aload_n hx hb dX12_order_140 rfl (lv_at hl 1 rfl) ?_
                  refine va_get (D := D) hx hb hts inlX12 hown hK hP 55 (jc_55 cI cL ad σ806 τ) rfl 19 (by decide) (hts _ kw_15_11) (fun _ h9 => h9) rfl dX12_order_141 ?_
                  refine lv_aload_n hx hb dX12_order_144 rfl (lv_at hl 1 rfl) ?_
                  refine va_get (D := D) hx hb hts inlX12 hown hK hP 55 (jc_55 cI cL ad σ806 τ) rfl 20 (by decide) (hts _ kw_15_12) (fun _ h9 => h9) rfl dX12_order_145 ?_
                  have m894 : σ806 55 20 = (σ 55 15) := ((f815 20 (by decide)).trans ((f800 20 (by decide)).trans ((f784 20 (by decide)).trans ((f35 20 (by decide)).trans ((jkp 20 eσ15 (by decide)).trans (jsp eσ14))))))
                  refine jtopr m894 ?_
                  refine lv_icmp_ge (tgt := 157) hx hb dX12_order_148 (by decide) (fun c895 => ?_) (fun c895 => ?_)
                  · have kc895 := jle c895 rfl rfl
                    exact lp818  σ806 _ _ ls (by omega) (by omega) (by omega) (by omega) (by omega) (by omega) (by omega) (fun i hi => rfl) (fun i hi => rfl)   hP hS (lv_sub hl [0, 1, 2, 3] rfl)
                  · have kc895 := jnle c895 rfl rfl
                    refine lv_aload_n hx hb dX12_order_151 rfl (lv_at hl 1 rfl) ?_
                    have I896 : jI121 σ806 := ⟨(by omega), (by omega), (by omega), (by omega), (by omega)⟩
                    refine jcallV (As := []) (rest := []) ⟨hx, hb, hml, hown, hts⟩ hK hP hA hS hZ (c_X12_wrong l D cI cL ad zz hJ σ806 τ I896) cw_RX12_214 (jc_55 cI cL ad σ806 τ) rfl ⟨Nat.le_of_ble_eq_true rfl, Nat.le_of_ble_eq_true rfl⟩ rfl rfl rfl hl.1 rfl (Nat.le_of_ble_eq_true rfl) dX12_order_152 ⟨Nat.zero_le _, Nat.zero_le _⟩ (fun r898 σ897 τ897 H locs h897 hP hS => ?_)
                    obtain ⟨rfl, f899, f900, I901, h897⟩ := h897
                    obtain ⟨i902, i903, i904, i905, i906⟩ : ((-1) ≤ (σ897 55 18).toInt ∧ (σ897 55 18).toInt ≤ 80) ∧ (0 ≤ (σ897 55 19).toInt) ∧ ((σ897 55 19).toInt ≤ (σ897 55 20).toInt) ∧ ((σ897 55 20).toInt ≤ 80) ∧ ((-1) ≤ (σ897 55 21).toInt) := id I901
                    have z907 : (σ897 55 18).toInt = (-1) := ((congrArg Int32.toInt (show σ897 55 18 = (-1) from ((f900 18 (by decide)).trans ((f815 18 (by decide)).trans ((f800 18 (by decide)).trans ((f784 18 (by decide)).trans ((f35 18 (by decide)).trans ((jkp 18 eσ15 (by decide)).trans ((jkp 18 eσ14 (by decide)).trans ((jkp 18 eσ12 (by decide)).trans (jsp eσ11))))))))))).trans jz_m1)
                    have z908 : (σ897 55 19).toInt = (σ806 55 19).toInt := (congrArg Int32.toInt (show σ897 55 19 = (σ806 55 19) from (f900 19 (by decide))))
                    have z909 : (σ897 55 20).toInt = (σ 55 15).toInt := (congrArg Int32.toInt (show σ897 55 20 = (σ 55 15) from ((f900 20 (by decide)).trans m894)))
                    obtain ⟨k910, h897⟩ := h897
                    have h911 := h897
                    obtain ⟨q913, k912⟩ := h911
                    have q913 := q913.symm
                    subst q913
                    refine lv_istore (lv' := [(4, .int 0), (1, .int x18), (0, .ref (ad 55)), (2, .int x790), (3, .int x805)]) hx hb dX12_order_155 hl (by decide) rfl (fun ls hl => ?_)
                    exact lp818  σ897 _ _ ls (by omega) (by omega) (by omega) (by omega) (by omega) (by omega) (by omega) (fun i hi => (f899 i hi)) (fun i hi => (f900 i hi))   hP hS (lv_sub hl [1, 2, 3, 4] rfl)
              refine lv_aload_n hx hb dX12_order_110 rfl (lv_at hl 1 rfl) ?_
              refine lv_bipush (v := 114) hx hb dX12_order_111 (by decide) ?_
              have I914 : jI121 σ791 := ⟨(by omega), (by omega), (by omega), (by omega), (by omega)⟩
              refine jcallV (As := [.int 114]) (rest := []) ⟨hx, hb, hml, hown, hts⟩ hK hP hA hS hZ (c_X12_takes l D cI cL ad zz hJ σ791 τ 114 (114) jz_114 I914 (by omega)) cw_RX12_196 (jc_55 cI cL ad σ791 τ) rfl ⟨Nat.le_of_ble_eq_true rfl, Nat.le_of_ble_eq_true rfl⟩ rfl rfl rfl hl.1 rfl (Nat.le_of_ble_eq_true rfl) dX12_order_113 ⟨Nat.zero_le _, Nat.zero_le _⟩ (fun r916 σ915 τ915 H locs h915 hP hS => ?_)
              obtain ⟨rfl, f917, f918, I919, h915⟩ := h915
              obtain ⟨i920, i921, i922, i923, i924⟩ : ((-1) ≤ (σ915 55 18).toInt ∧ (σ915 55 18).toInt ≤ 80) ∧ (0 ≤ (σ915 55 19).toInt) ∧ ((σ915 55 19).toInt ≤ (σ915 55 20).toInt) ∧ ((σ915 55 20).toInt ≤ 80) ∧ ((-1) ≤ (σ915 55 21).toInt) := id I919
              have z925 : (σ915 55 18).toInt = (-1) := ((congrArg Int32.toInt (show σ915 55 18 = (-1) from ((f918 18 (by decide)).trans ((f800 18 (by decide)).trans ((f784 18 (by decide)).trans ((f35 18 (by decide)).trans ((jkp 18 eσ15 (by decide)).trans ((jkp 18 eσ14 (by decide)).trans ((jkp 18 eσ12 (by decide)).trans (jsp eσ11)))))))))).trans jz_m1)
              have z926 : (σ915 55 20).toInt = (σ 55 15).toInt := (congrArg Int32.toInt (show σ915 55 20 = (σ 55 15) from ((f918 20 (by decide)).trans ((f800 20 (by decide)).trans ((f784 20 (by decide)).trans ((f35 20 (by decide)).trans ((jkp 20 eσ15 (by decide)).trans (jsp eσ14))))))))
              have z927 : (σ915 55 21).toInt = (σ791 55 21).toInt := (congrArg Int32.toInt (show σ915 55 21 = (σ791 55 21) from (f918 21 (by decide))))
              rcases h915 with h928 | h929
              · obtain ⟨q932, k930, k931⟩ := h928
                have q932 := q932.symm
                subst q932
                refine lv_if_eq (tgt := 131) hx hb dX12_order_116 (by decide) (fun c => absurd c (by decide)) (fun _ => ?_)
                refine lv_aload_n hx hb dX12_order_119 rfl (lv_at hl 1 rfl) ?_
                refine lv_iconst (v := 3) hx hb dX12_order_120 (by decide) ?_
                refine lv_iconst (v := 0) hx hb dX12_order_121 (by decide) ?_
                refine lv_sipush (v := 999) hx hb dX12_order_122 (by decide) ?_
                refine jcallV (As := [.int 3, .int 0, .int 999]) (rest := []) ⟨hx, hb, hml, hown, hts⟩ hK hP hA hS hZ (c_X12_numberRead l D cI cL ad zz hJ σ915 τ 3 (3) jz_3 0 (0) jz_0 999 (999) jz_999 I919 (by omega) (by omega) (by omega)) cw_RX12_227 (jc_55 cI cL ad σ915 τ) rfl ⟨Nat.le_of_ble_eq_true rfl, Nat.le_of_ble_eq_true rfl⟩ rfl rfl rfl hl.1 rfl (Nat.le_of_ble_eq_true rfl) dX12_order_125 ⟨Nat.zero_le _, Nat.zero_le _⟩ (fun r934 σ933 τ933 H locs h933 hP hS => ?_)
                obtain ⟨rfl, f935, f936, I937, h933⟩ := h933
                obtain ⟨i938, i939, i940, i941, i942⟩ : ((-1) ≤ (σ933 55 18).toInt ∧ (σ933 55 18).toInt ≤ 80) ∧ (0 ≤ (σ933 55 19).toInt) ∧ ((σ933 55 19).toInt ≤ (σ933 55 20).toInt) ∧ ((σ933 55 20).toInt ≤ 80) ∧ ((-1) ≤ (σ933 55 21).toInt) := id I937
                have z943 : (σ933 55 18).toInt = (-1) := ((congrArg Int32.toInt (show σ933 55 18 = (-1) from ((f936 18 (by decide)).trans ((f918 18 (by decide)).trans ((f800 18 (by decide)).trans ((f784 18 (by decide)).trans ((f35 18 (by decide)).trans ((jkp 18 eσ15 (by decide)).trans ((jkp 18 eσ14 (by decide)).trans ((jkp 18 eσ12 (by decide)).trans (jsp eσ11))))))))))).trans jz_m1)
                have z944 : (σ933 55 20).toInt = (σ 55 15).toInt := (congrArg Int32.toInt (show σ933 55 20 = (σ 55 15) from ((f936 20 (by decide)).trans ((f918 20 (by decide)).trans ((f800 20 (by decide)).trans ((f784 20 (by decide)).trans ((f35 20 (by decide)).trans ((jkp 20 eσ15 (by decide)).trans (jsp eσ14)))))))))
                have h945 := h933
                obtain ⟨q947, k946⟩ := h945
                refine lv_goto (tgt := 132) hx hb dX12_order_128 (by decide) ?_
                refine lv_istore_n (lv' := [(3, .int r934), (1, .int x18), (0, .ref (ad 55)), (2, .int x790)]) hx hb dX12_order_132 rfl hl (by decide) rfl (fun ls hl => ?_)
                exact lp803 r934 σ933 _ _ ls (by omega) (by omega) (by omega) (by omega) (by omega) (by omega) (by omega) (fun i hi => ((f935 i hi).trans (f917 i hi))) (fun i hi => ((f936 i hi).trans (f918 i (imp_218 i hi))))   hP hS (lv_sub hl [1, 2, 3, 0] rfl)
              · obtain ⟨q949, k948⟩ := h929
                have q949 := q949.symm
                subst q949
                refine lv_if_eq (tgt := 131) hx hb dX12_order_116 (by decide) (fun _ => ?_) (fun c => absurd (by decide) c)
                refine lv_iconst (v := 0) hx hb dX12_order_131 (by decide) ?_
                refine lv_istore_n (lv' := [(3, .int 0), (1, .int x18), (0, .ref (ad 55)), (2, .int x790)]) hx hb dX12_order_132 rfl hl (by decide) rfl (fun ls hl => ?_)
                exact lp803 0 σ915 _ _ ls (by have h90 := jz_0; omega) (by have h90 := jz_0; omega) (by have h90 := jz_0; omega) (by have h90 := jz_0; omega) (by have h90 := jz_0; omega) (by have h90 := jz_0; omega) (by have h90 := jz_0; omega) (fun i hi => (f917 i hi)) (fun i hi => (f918 i (imp_218 i hi)))   hP hS (lv_sub hl [1, 2, 3, 0] rfl)
            refine lv_aload_n hx hb dX12_order_87 rfl (lv_at hl 1 rfl) ?_
            refine lv_bipush (v := 58) hx hb dX12_order_88 (by decide) ?_
            have I950 : jI121 σ775 := ⟨(by omega), (by omega), (by omega), (by omega), (by omega)⟩
            refine jcallV (As := [.int 58]) (rest := []) ⟨hx, hb, hml, hown, hts⟩ hK hP hA hS hZ (c_X12_takes l D cI cL ad zz hJ σ775 τ 58 (58) jz_58 I950 (by omega)) cw_RX12_196 (jc_55 cI cL ad σ775 τ) rfl ⟨Nat.le_of_ble_eq_true rfl, Nat.le_of_ble_eq_true rfl⟩ rfl rfl rfl hl.1 rfl (Nat.le_of_ble_eq_true rfl) dX12_order_90 ⟨Nat.zero_le _, Nat.zero_le _⟩ (fun r952 σ951 τ951 H locs h951 hP hS => ?_)
            obtain ⟨rfl, f953, f954, I955, h951⟩ := h951
            obtain ⟨i956, i957, i958, i959, i960⟩ : ((-1) ≤ (σ951 55 18).toInt ∧ (σ951 55 18).toInt ≤ 80) ∧ (0 ≤ (σ951 55 19).toInt) ∧ ((σ951 55 19).toInt ≤ (σ951 55 20).toInt) ∧ ((σ951 55 20).toInt ≤ 80) ∧ ((-1) ≤ (σ951 55 21).toInt) := id I955
            have z961 : (σ951 55 18).toInt = (-1) := ((congrArg Int32.toInt (show σ951 55 18 = (-1) from ((f954 18 (by decide)).trans ((f784 18 (by decide)).trans ((f35 18 (by decide)).trans ((jkp 18 eσ15 (by decide)).trans ((jkp 18 eσ14 (by decide)).trans ((jkp 18 eσ12 (by decide)).trans (jsp eσ11))))))))).trans jz_m1)
            have z962 : (σ951 55 20).toInt = (σ 55 15).toInt := (congrArg Int32.toInt (show σ951 55 20 = (σ 55 15) from ((f954 20 (by decide)).trans ((f784 20 (by decide)).trans ((f35 20 (by decide)).trans ((jkp 20 eσ15 (by decide)).trans (jsp eσ14)))))))
            have z963 : (σ951 55 21).toInt = (σ775 55 21).toInt := (congrArg Int32.toInt (show σ951 55 21 = (σ775 55 21) from (f954 21 (by decide))))
            rcases h951 with h964 | h965
            · obtain ⟨q968, k966, k967⟩ := h964
              have q968 := q968.symm
              subst q968
              refine lv_if_eq (tgt := 107) hx hb dX12_order_93 (by decide) (fun c => absurd c (by decide)) (fun _ => ?_)
              refine lv_aload_n hx hb dX12_order_96 rfl (lv_at hl 1 rfl) ?_
              refine lv_iconst (v := 2) hx hb dX12_order_97 (by decide) ?_
              refine lv_iconst (v := 1) hx hb dX12_order_98 (by decide) ?_
              refine lv_bipush (v := 12) hx hb dX12_order_99 (by decide) ?_
              refine jcallV (As := [.int 2, .int 1, .int 12]) (rest := []) ⟨hx, hb, hml, hown, hts⟩ hK hP hA hS hZ (c_X12_numberRead l D cI cL ad zz hJ σ951 τ 2 (2) jz_2 1 (1) jz_1 12 (12) jz_12 I955 (by omega) (by omega) (by omega)) cw_RX12_227 (jc_55 cI cL ad σ951 τ) rfl ⟨Nat.le_of_ble_eq_true rfl, Nat.le_of_ble_eq_true rfl⟩ rfl rfl rfl hl.1 rfl (Nat.le_of_ble_eq_true rfl) dX12_order_101 ⟨Nat.zero_le _, Nat.zero_le _⟩ (fun r970 σ969 τ969 H locs h969 hP hS => ?_)
              obtain ⟨rfl, f971, f972, I973, h969⟩ := h969
              obtain ⟨i974, i975, i976, i977, i978⟩ : ((-1) ≤ (σ969 55 18).toInt ∧ (σ969 55 18).toInt ≤ 80) ∧ (0 ≤ (σ969 55 19).toInt) ∧ ((σ969 55 19).toInt ≤ (σ969 55 20).toInt) ∧ ((σ969 55 20).toInt ≤ 80) ∧ ((-1) ≤ (σ969 55 21).toInt) := id I973
              have z979 : (σ969 55 18).toInt = (-1) := ((congrArg Int32.toInt (show σ969 55 18 = (-1) from ((f972 18 (by decide)).trans ((f954 18 (by decide)).trans ((f784 18 (by decide)).trans ((f35 18 (by decide)).trans ((jkp 18 eσ15 (by decide)).trans ((jkp 18 eσ14 (by decide)).trans ((jkp 18 eσ12 (by decide)).trans (jsp eσ11)))))))))).trans jz_m1)
              have z980 : (σ969 55 20).toInt = (σ 55 15).toInt := (congrArg Int32.toInt (show σ969 55 20 = (σ 55 15) from ((f972 20 (by decide)).trans ((f954 20 (by decide)).trans ((f784 20 (by decide)).trans ((f35 20 (by decide)).trans ((jkp 20 eσ15 (by decide)).trans (jsp eσ14))))))))
              have h981 := h969
              obtain ⟨q983, k982⟩ := h981
              refine lv_goto (tgt := 109) hx hb dX12_order_104 (by decide) ?_
              refine lv_istore_n (lv' := [(2, .int r970), (1, .int x18), (0, .ref (ad 55))]) hx hb dX12_order_109 rfl hl (by decide) rfl (fun ls hl => ?_)
              exact lp788 r970 σ969 _ _ ls (by omega) (by omega) (by omega) (by omega) (by omega) (by omega) (by omega) (fun i hi => ((f971 i hi).trans (f953 i hi))) (fun i hi => ((f972 i hi).trans (f954 i (imp_218 i hi))))   hP hS (lv_sub hl [1, 2, 0] rfl)
            · obtain ⟨q985, k984⟩ := h965
              have q985 := q985.symm
              subst q985
              refine lv_if_eq (tgt := 107) hx hb dX12_order_93 (by decide) (fun _ => ?_) (fun c => absurd (by decide) c)
              refine lv_bipush (v := 8) hx hb dX12_order_107 (by decide) ?_
              refine lv_istore_n (lv' := [(2, .int 8), (1, .int x18), (0, .ref (ad 55))]) hx hb dX12_order_109 rfl hl (by decide) rfl (fun ls hl => ?_)
              exact lp788 8 σ951 _ _ ls (by have h90 := jz_8; omega) (by have h90 := jz_8; omega) (by have h90 := jz_8; omega) (by have h90 := jz_8; omega) (by have h90 := jz_8; omega) (by have h90 := jz_8; omega) (by have h90 := jz_8; omega) (fun i hi => (f953 i hi)) (fun i hi => (f954 i (imp_218 i hi)))   hP hS (lv_sub hl [1, 2, 0] rfl)
          refine lv_iload_n hx hb dX12_order_78 rfl (lv_at hl 0 rfl) ?_
          refine lv_if_ne (tgt := 87) hx hb dX12_order_79 (by decide) (fun c986 => ?_) (fun c986 => ?_)
          · have kc986 := jne c986 rfl jz_0
            exact lp773  σ19 _ _ ls (by omega) (by omega) (by omega) (by omega) (by omega) (by omega) (by omega) (fun i hi => rfl) (fun i hi => rfl)   hP hS (lv_sub hl [0, 1] rfl)
          · have kc986 := jeq c986 rfl jz_0
            refine lv_aload_n hx hb dX12_order_82 rfl (lv_at hl 1 rfl) ?_
            refine jcallV (As := []) (rest := []) ⟨hx, hb, hml, hown, hts⟩ hK hP hA hS hZ (c_X12_wrong l D cI cL ad zz hJ σ19 τ I263) cw_RX12_214 (jc_55 cI cL ad σ19 τ) rfl ⟨Nat.le_of_ble_eq_true rfl, Nat.le_of_ble_eq_true rfl⟩ rfl rfl rfl hl.1 rfl (Nat.le_of_ble_eq_true rfl) dX12_order_83 ⟨Nat.zero_le _, Nat.zero_le _⟩ (fun r988 σ987 τ987 H locs h987 hP hS => ?_)
            obtain ⟨rfl, f989, f990, I991, h987⟩ := h987
            obtain ⟨i992, i993, i994, i995, i996⟩ : ((-1) ≤ (σ987 55 18).toInt ∧ (σ987 55 18).toInt ≤ 80) ∧ (0 ≤ (σ987 55 19).toInt) ∧ ((σ987 55 19).toInt ≤ (σ987 55 20).toInt) ∧ ((σ987 55 20).toInt ≤ 80) ∧ ((-1) ≤ (σ987 55 21).toInt) := id I991
            have z997 : (σ987 55 18).toInt = (-1) := ((congrArg Int32.toInt (show σ987 55 18 = (-1) from ((f990 18 (by decide)).trans ((f35 18 (by decide)).trans ((jkp 18 eσ15 (by decide)).trans ((jkp 18 eσ14 (by decide)).trans ((jkp 18 eσ12 (by decide)).trans (jsp eσ11)))))))).trans jz_m1)
            have z998 : (σ987 55 19).toInt = (σ19 55 19).toInt := (congrArg Int32.toInt (show σ987 55 19 = (σ19 55 19) from (f990 19 (by decide))))
            have z999 : (σ987 55 20).toInt = (σ 55 15).toInt := (congrArg Int32.toInt (show σ987 55 20 = (σ 55 15) from ((f990 20 (by decide)).trans ((f35 20 (by decide)).trans ((jkp 20 eσ15 (by decide)).trans (jsp eσ14))))))
            obtain ⟨k1000, h987⟩ := h987
            have h1001 := h987
            obtain ⟨q1003, k1002⟩ := h1001
            have q1003 := q1003.symm
            subst q1003
            refine lv_istore_n (lv' := [(2, .int 0), (1, .int x18), (0, .ref (ad 55))]) hx hb dX12_order_86 rfl hl (by decide) rfl (fun ls hl => ?_)
            exact lp773  σ987 _ _ ls (by omega) (by omega) (by omega) (by omega) (by omega) (by omega) (by omega) (fun i hi => (f989 i hi)) (fun i hi => (f990 i hi))   hP hS (lv_sub hl [1, 2] rfl)
  exact lp16 1000000 0 σ15 _ _ ls (by have h90 := jz_0; omega) (by have h90 := jz_0; omega) (by have h90 := jz_0; omega) (by have h90 := jz_0; omega) (by have h90 := jz_0; omega) (by have h90 := jz_0; omega) (by have h90 := jz_0; omega) (by have h90 := jz_0; omega) (by have h90 := jz_0; omega) (fun _ _ => rfl) (fun _ _ => rfl)  I20 hP hS hl
set_option maxHeartbeats 4000000 in
set_option maxRecDepth 100000 in
theorem c_X12_of (l : Launch) (D : va_G) (cI cL : ClassId) (ad zz : Nat → Nat) (hJ : jD ad) (σ : Nat → Nat → Int32) (τ : Nat → Nat → Int64) (a1 : Int32) (A1 : Int) (t1 : a1.toInt = A1) (hI104 : jI104 σ) (hI107 : jI107 σ) : jM l yX12_of cX12_of 2 (some .int) ({ frames := 1, cells := 0, slots := 0, locals := 25 }) D cI cL ad zz [.ref (ad 55), .int a1] σ τ (fun r σ' τ' => (σ = σ' ∧ τ = τ') ∧ True) := by
  refine jM.of hJ (by decide +kernel) (nt := .int) rfl (Nat.le_of_ble_eq_true rfl) ?_
  intro p e s m args below meth c Q ls hC hret hl hP
  obtain ⟨hx, hb, hr, hml, hown, hts, hK, -, hlocks, hZ⟩ := hC
  have hown : s.vm.findClass RX12 = some m.cls := hown
  have hS : va_S (jA ad) s.heap s.heap [] := va_S.rf
  have hA : ∀ q, jA ad q → jA ad q := fun _ h => h
  have hl : lv_has ls 2 [(0, .ref (ad 55)), (1, .int a1)] := hl
  have g1 := jrg t1
  obtain ⟨i1, i2, i3, w4, w5⟩ : (1 ≤ (σ 55 10).toInt ∧ (σ 55 10).toInt ≤ 8) ∧ (1 ≤ (σ 55 12).toInt ∧ (σ 55 12).toInt ≤ 12) ∧ (0 ≤ (σ 55 13).toInt ∧ (σ 55 13).toInt ≤ 999) ∧ (∀ k : Nat, k < 8 → 0 ≤ (σ 62 k).toInt ∧ (σ 62 k).toInt ≤ 3) ∧ (∀ k : Nat, k < 8 → 0 ≤ (σ 67 k).toInt ∧ (σ 67 k).toInt ≤ 3) := id hI104
  obtain ⟨i6, i7, w8⟩ : (0 ≤ (σ 55 47).toInt ∧ (σ 55 47).toInt ≤ 12) ∧ ((σ 55 47).toInt ≤ (σ 55 12).toInt) ∧ (∀ k : Nat, k < 12 → 0 ≤ (σ 80 k).toInt ∧ (σ 80 k).toInt ≤ 3) := id hI107
  refine lv_iload_n hx hb dX12_of_0 rfl (lv_at hl 1 rfl) ?_
  refine lv_bipush (v := 10) hx hb dX12_of_1 (by decide) ?_
  refine lv_isub hx hb dX12_of_3 ?_
  refine lv_topi (fun x9 ex9 => ?_)
  have gx9 := jrg (rfl : x9.toInt = x9.toInt)
  have g10 := jsubw ex9 t1 jz_10
  refine lv_i2l (v := x9.toInt64) hx hb dX12_of_4 rfl ?_
  refine lv_lconst (v := 0) hx hb dX12_of_5 (by decide) ?_
  refine lv_aload_n hx hb dX12_of_6 rfl (lv_at hl 0 rfl) ?_
  refine va_get (D := D) hx hb hts inlX12 hown hK hP 55 (jc_55 cI cL ad σ τ) rfl 10 (by decide) (hts _ kw_8_15) (fun _ h9 => h9) rfl dX12_of_7 ?_
  refine lv_iconst (v := 1) hx hb dX12_of_10 (by decide) ?_
  have g11 := jrg (rfl : (σ 55 10).toInt = (σ 55 10).toInt)
  refine lv_isub hx hb dX12_of_11 ?_
  refine lv_topi (fun x12 ex12 => ?_)
  have tx12 : x12.toInt = (σ 55 10).toInt - 1 := (jsub ex12 rfl jz_1 (by omega) (by omega)).trans (by omega)
  refine lv_i2l (v := x12.toInt64) hx hb dX12_of_12 rfl ?_
  refine jcallS (As := [.long x9.toInt64, .long 0, .long x12.toInt64]) (rest := []) ⟨hx, hb, hml, hown, hts⟩ hK hP hA hS hZ (c_X12_within l D cI cL ad zz hJ σ τ x9.toInt64 (x9.toInt) (jtoL rfl) 0 (0) jzl_0 x12.toInt64 ((σ 55 10).toInt - 1) (jtoL tx12)) cw_RX12_136 ⟨Nat.le_of_ble_eq_true rfl, Nat.le_of_ble_eq_true rfl⟩ rfl rfl rfl hl.1 rfl (Nat.le_of_ble_eq_true rfl) dX12_of_13 ⟨Nat.zero_le _, Nat.zero_le _⟩ (fun r14 σ13 τ13 H locs h13 hP hS => ?_)
  obtain ⟨⟨rfl, rfl⟩, h13⟩ := h13
  rcases h13 with h15 | h16
  · obtain ⟨q18, k17⟩ := h15
    have q18 := q18.symm
    subst q18
    refine lv_if_eq (tgt := 29) hx hb dX12_of_16 (by decide) (fun c => absurd c (by decide)) (fun _ => ?_)
    refine lv_aload_n hx hb dX12_of_19 rfl (lv_at hl 0 rfl) ?_
    refine va_get (D := D) hx hb hts inlX12 hown hK hP 55 (jc_55 cI cL ad σ τ) rfl 11 (by decide) (hts _ kw_7_8) (fun _ h9 => h9) rfl dX12_of_20 ?_
    refine lv_iload_n hx hb dX12_of_23 rfl (lv_at hl 1 rfl) ?_
    refine lv_bipush (v := 10) hx hb dX12_of_24 (by decide) ?_
    refine lv_isub hx hb dX12_of_26 ?_
    refine lv_topi (fun x19 ex19 => ?_)
    have tx19 : x19.toInt = A1 - 10 := (jsub ex19 t1 jz_10 (by omega) (by omega)).trans (by omega)
    refine jald hx hb hK hP (jc_62 cI cL ad σ τ) (jin tx19 (by omega) (by omega)) dX12_of_27 ?_
    have g20 := w4 _ (jnat (x := x19) tx19 (n := 8) (by omega) (by decide))
    refine lv_topi (fun x21 ex21 => ?_)
    rw [← ex21] at g20
    exact hret x21 σ τ _ _ _ _ rfl ⟨⟨rfl, rfl⟩, trivial⟩ hP hS dX12_of_28
  · obtain ⟨q23, k22⟩ := h16
    have q23 := q23.symm
    subst q23
    refine lv_if_eq (tgt := 29) hx hb dX12_of_16 (by decide) (fun _ => ?_) (fun c => absurd (by decide) c)
    refine lv_iload_n hx hb dX12_of_29 rfl (lv_at hl 1 rfl) ?_
    by_cases c24 : a1 = 0
    · have kc24 := jeq c24 t1 jz_0
      refine jtopr c24 ?_
      refine lv_tableIn (off := 26) (tgt := 56) hx hb dX12_of_30 (by decide) (by decide) (by decide) (by decide) ?_
      refine lv_aload_n hx hb dX12_of_56 rfl (lv_at hl 0 rfl) ?_
      refine va_get (D := D) hx hb hts inlX12 hown hK hP 55 (jc_55 cI cL ad σ τ) rfl 10 (by decide) (hts _ kw_8_15) (fun _ h9 => h9) rfl dX12_of_57 ?_
      exact hret (σ 55 10) σ τ _ _ _ _ rfl ⟨⟨rfl, rfl⟩, trivial⟩ hP hS dX12_of_60
    have kc24 := jne c24 t1 jz_0
    by_cases c25 : a1 = 1
    · have kc25 := jeq c25 t1 jz_1
      refine jtopr c25 ?_
      refine lv_tableIn (off := 31) (tgt := 61) hx hb dX12_of_30 (by decide) (by decide) (by decide) (by decide) ?_
      refine lv_aload_n hx hb dX12_of_61 rfl (lv_at hl 0 rfl) ?_
      refine va_get (D := D) hx hb hts inlX12 hown hK hP 55 (jc_55 cI cL ad σ τ) rfl 12 (by decide) (hts _ kw_8_16) (fun _ h9 => h9) rfl dX12_of_62 ?_
      exact hret (σ 55 12) σ τ _ _ _ _ rfl ⟨⟨rfl, rfl⟩, trivial⟩ hP hS dX12_of_65
    have kc25 := jne c25 t1 jz_1
    by_cases c26 : a1 = 2
    · have kc26 := jeq c26 t1 jz_2
      refine jtopr c26 ?_
      refine lv_tableIn (off := 36) (tgt := 66) hx hb dX12_of_30 (by decide) (by decide) (by decide) (by decide) ?_
      refine lv_aload_n hx hb dX12_of_66 rfl (lv_at hl 0 rfl) ?_
      refine va_get (D := D) hx hb hts inlX12 hown hK hP 55 (jc_55 cI cL ad σ τ) rfl 13 (by decide) (hts _ kw_15_14) (fun _ h9 => h9) rfl dX12_of_67 ?_
      exact hret (σ 55 13) σ τ _ _ _ _ rfl ⟨⟨rfl, rfl⟩, trivial⟩ hP hS dX12_of_70
    have kc26 := jne c26 t1 jz_2
    refine lv_tableOut (tgt := 71) hx hb dX12_of_30 (by rw [t1]; omega) (by decide) ?_
    refine lv_iconst (v := (-1)) hx hb dX12_of_71 (by decide) ?_
    exact hret (-1) σ τ _ _ _ _ rfl ⟨⟨rfl, rfl⟩, trivial⟩ hP hS dX12_of_72
set_option maxHeartbeats 4000000 in
set_option maxRecDepth 100000 in
theorem c_X12_over (l : Launch) (D : va_G) (cI cL : ClassId) (ad zz : Nat → Nat) (hJ : jD ad) (σ : Nat → Nat → Int32) (τ : Nat → Nat → Int64) (a1 : Int32) (A1 : Int) (t1 : a1.toInt = A1) (a2 : Int32) (A2 : Int) (t2 : a2.toInt = A2) (a3 : Int32) (A3 : Int) (t3 : a3.toInt = A3) (hI101 : jI101 σ) (hI102 : jI102 σ) (hI103 : jI103 σ) (hI104 : jI104 σ) (hI105 : jI105 σ) (hI119 : jI119 σ) : jM l yX12_over cX12_over 6 (some .int) ({ frames := 67, cells := 0, slots := 0, locals := 2858 }) D cI cL ad zz [.ref (ad 55), .int a1, .int a2, .int a3] σ τ (fun r σ' τ' => τ = τ' ∧ (∀ i : Nat, (i < 55 ∨ 55 < i) ∧ (i < 66 ∨ 66 < i) ∧ (i < 68 ∨ 69 < i) → σ' i = σ i) ∧ (∀ k : Nat, (k < 18 ∨ 18 < k) ∧ (k < 19 ∨ 19 < k) ∧ (k < 20 ∨ 20 < k) ∧ (k < 21 ∨ 21 < k) ∧ (k < 22 ∨ 22 < k) ∧ (k < 25 ∨ 25 < k) ∧ (k < 26 ∨ 26 < k) ∧ (k < 27 ∨ 27 < k) → σ' 55 k = σ 55 k) ∧ (jI119 σ') ∧ True) := by
  refine jM.of hJ (by decide +kernel) (nt := .int) rfl (Nat.le_of_ble_eq_true rfl) ?_
  intro p e s m args below meth c Q ls hC hret hl hP
  obtain ⟨hx, hb, hr, hml, hown, hts, hK, -, hlocks, hZ⟩ := hC
  have hown : s.vm.findClass RX12 = some m.cls := hown
  have hS : va_S (jA ad) s.heap s.heap [] := va_S.rf
  have hA : ∀ q, jA ad q → jA ad q := fun _ h => h
  have hl : lv_has ls 6 [(0, .ref (ad 55)), (1, .int a1), (2, .int a2), (3, .int a3)] := hl
  have g1 := jrg t1
  have g2 := jrg t2
  have g3 := jrg t3
  obtain ⟨i1, w2, w3⟩ : (0 ≤ (σ 55 6).toInt ∧ (σ 55 6).toInt ≤ 4) ∧ (∀ k : Nat, k < 4 → 0 ≤ (σ 60 k).toInt ∧ (σ 60 k).toInt ≤ 50) ∧ (∀ k : Nat, k < 4 → 0 ≤ (σ 61 k).toInt ∧ (σ 61 k).toInt ≤ 20) := id hI102
  have w4 : ∀ k : Nat, k < 4 → 0 ≤ (σ 68 k).toInt ∧ (σ 68 k).toInt ≤ 3 := hI119
  refine lv_iload_n hx hb dX12_over_0 rfl (lv_at hl 1 rfl) ?_
  refine lv_if_lt (tgt := 70) hx hb dX12_over_1 (by decide) (fun c5 => ?_) (fun c5 => ?_)
  · have kc5 := jlt c5 t1 jz_0
    refine lv_iconst (v := 0) hx hb dX12_over_70 (by decide) ?_
    refine lv_istore (lv' := [(4, .int 0), (0, .ref (ad 55)), (1, .int a1), (2, .int a2), (3, .int a3)]) hx hb dX12_over_71 hl (by decide) rfl (fun ls hl => ?_)
    refine lv_iload hx hb dX12_over_73 (lv_at hl 0 rfl) ?_
    refine lv_if_ne (tgt := 80) hx hb dX12_over_75 (by decide) (fun c => absurd (by decide) c) (fun _ => ?_)
    refine lv_iconst (v := (-1)) hx hb dX12_over_78 (by decide) ?_
    exact hret (-1) σ τ _ _ _ _ rfl ⟨rfl, (fun _ _ => rfl), (fun _ _ => rfl), hI119, trivial⟩ hP hS dX12_over_79
  · have kc5 := jnlt c5 t1 jz_0
    refine lv_aload_n hx hb dX12_over_4 rfl (lv_at hl 0 rfl) ?_
    refine lv_iload_n hx hb dX12_over_5 rfl (lv_at hl 1 rfl) ?_
    refine lv_bipush (v := 100) hx hb dX12_over_6 (by decide) ?_
    refine lv_idiv hx hb dX12_over_8 (by decide) ?_
    refine lv_topi (fun x6 ex6 => ?_)
    have tx6 : x6.toInt = (A1 / 100) := jdiv ex6 t1 jz_100 (by omega) (by omega)
    refine jcallV (As := [.int x6]) (rest := []) ⟨hx, hb, hml, hown, hts⟩ hK hP hA hS hZ (c_X12_isBowler l D cI cL ad zz hJ σ τ x6 ((A1 / 100)) tx6 hI102) cw_RX12_146 (jc_55 cI cL ad σ τ) rfl ⟨Nat.le_of_ble_eq_true rfl, Nat.le_of_ble_eq_true rfl⟩ rfl rfl rfl hl.1 rfl (Nat.le_of_ble_eq_true rfl) dX12_over_9 ⟨Nat.zero_le _, Nat.zero_le _⟩ (fun r8 σ7 τ7 H locs h7 hP hS => ?_)
    obtain ⟨⟨rfl, rfl⟩, h7⟩ := h7
    rcases h7 with h9 | h10
    · obtain ⟨q12, k11⟩ := h9
      have q12 := q12.symm
      subst q12
      refine lv_if_eq (tgt := 70) hx hb dX12_over_12 (by decide) (fun c => absurd c (by decide)) (fun _ => ?_)
      refine lv_iload_n hx hb dX12_over_15 rfl (lv_at hl 1 rfl) ?_
      refine lv_bipush (v := 10) hx hb dX12_over_16 (by decide) ?_
      refine lv_idiv hx hb dX12_over_18 (by decide) ?_
      refine lv_topi (fun x13 ex13 => ?_)
      have tx13 : x13.toInt = (A1 / 10) := jdiv ex13 t1 jz_10 (by omega) (by omega)
      refine lv_bipush (v := 10) hx hb dX12_over_19 (by decide) ?_
      refine lv_irem hx hb dX12_over_21 (by decide) ?_
      refine lv_topi (fun x14 ex14 => ?_)
      have tx14 : x14.toInt = (((A1 / 10)) % 10) := jrem ex14 tx13 jz_10 (by omega)
      refine lv_iconst (v := 4) hx hb dX12_over_22 (by decide) ?_
      refine lv_icmp_ge (tgt := 70) hx hb dX12_over_23 (by decide) (fun c15 => ?_) (fun c15 => ?_)
      · have kc15 := jle c15 jz_4 tx14
        refine lv_iconst (v := 0) hx hb dX12_over_70 (by decide) ?_
        refine lv_istore (lv' := [(4, .int 0), (0, .ref (ad 55)), (1, .int a1), (2, .int a2), (3, .int a3)]) hx hb dX12_over_71 hl (by decide) rfl (fun ls hl => ?_)
        refine lv_iload hx hb dX12_over_73 (lv_at hl 0 rfl) ?_
        refine lv_if_ne (tgt := 80) hx hb dX12_over_75 (by decide) (fun c => absurd (by decide) c) (fun _ => ?_)
        refine lv_iconst (v := (-1)) hx hb dX12_over_78 (by decide) ?_
        exact hret (-1) σ τ _ _ _ _ rfl ⟨rfl, (fun _ _ => rfl), (fun _ _ => rfl), hI119, trivial⟩ hP hS dX12_over_79
      · have kc15 := jnle c15 jz_4 tx14
        refine lv_iload_n hx hb dX12_over_26 rfl (lv_at hl 1 rfl) ?_
        refine lv_bipush (v := 10) hx hb dX12_over_27 (by decide) ?_
        refine lv_irem hx hb dX12_over_29 (by decide) ?_
        refine lv_topi (fun x16 ex16 => ?_)
        have tx16 : x16.toInt = (A1 % 10) := jrem ex16 t1 jz_10 (by omega)
        refine lv_iconst (v := 3) hx hb dX12_over_30 (by decide) ?_
        refine lv_icmp_gt (tgt := 70) hx hb dX12_over_31 (by decide) (fun c17 => ?_) (fun c17 => ?_)
        · have kc17 := jlt c17 jz_3 tx16
          refine lv_iconst (v := 0) hx hb dX12_over_70 (by decide) ?_
          refine lv_istore (lv' := [(4, .int 0), (0, .ref (ad 55)), (1, .int a1), (2, .int a2), (3, .int a3)]) hx hb dX12_over_71 hl (by decide) rfl (fun ls hl => ?_)
          refine lv_iload hx hb dX12_over_73 (lv_at hl 0 rfl) ?_
          refine lv_if_ne (tgt := 80) hx hb dX12_over_75 (by decide) (fun c => absurd (by decide) c) (fun _ => ?_)
          refine lv_iconst (v := (-1)) hx hb dX12_over_78 (by decide) ?_
          exact hret (-1) σ τ _ _ _ _ rfl ⟨rfl, (fun _ _ => rfl), (fun _ _ => rfl), hI119, trivial⟩ hP hS dX12_over_79
        · have kc17 := jnlt c17 jz_3 tx16
          refine lv_iload_n hx hb dX12_over_34 rfl (lv_at hl 2 rfl) ?_
          refine lv_if_lt (tgt := 70) hx hb dX12_over_35 (by decide) (fun c18 => ?_) (fun c18 => ?_)
          · have kc18 := jlt c18 t2 jz_0
            refine lv_iconst (v := 0) hx hb dX12_over_70 (by decide) ?_
            refine lv_istore (lv' := [(4, .int 0), (0, .ref (ad 55)), (1, .int a1), (2, .int a2), (3, .int a3)]) hx hb dX12_over_71 hl (by decide) rfl (fun ls hl => ?_)
            refine lv_iload hx hb dX12_over_73 (lv_at hl 0 rfl) ?_
            refine lv_if_ne (tgt := 80) hx hb dX12_over_75 (by decide) (fun c => absurd (by decide) c) (fun _ => ?_)
            refine lv_iconst (v := (-1)) hx hb dX12_over_78 (by decide) ?_
            exact hret (-1) σ τ _ _ _ _ rfl ⟨rfl, (fun _ _ => rfl), (fun _ _ => rfl), hI119, trivial⟩ hP hS dX12_over_79
          · have kc18 := jnlt c18 t2 jz_0
            refine lv_iload_n hx hb dX12_over_38 rfl (lv_at hl 2 rfl) ?_
            refine lv_bipush (v := 10) hx hb dX12_over_39 (by decide) ?_
            refine lv_idiv hx hb dX12_over_41 (by decide) ?_
            refine lv_topi (fun x19 ex19 => ?_)
            have tx19 : x19.toInt = (A2 / 10) := jdiv ex19 t2 jz_10 (by omega) (by omega)
            refine lv_bipush (v := 12) hx hb dX12_over_42 (by decide) ?_
            refine lv_icmp_gt (tgt := 70) hx hb dX12_over_44 (by decide) (fun c20 => ?_) (fun c20 => ?_)
            · have kc20 := jlt c20 jz_12 tx19
              refine lv_iconst (v := 0) hx hb dX12_over_70 (by decide) ?_
              refine lv_istore (lv' := [(4, .int 0), (0, .ref (ad 55)), (1, .int a1), (2, .int a2), (3, .int a3)]) hx hb dX12_over_71 hl (by decide) rfl (fun ls hl => ?_)
              refine lv_iload hx hb dX12_over_73 (lv_at hl 0 rfl) ?_
              refine lv_if_ne (tgt := 80) hx hb dX12_over_75 (by decide) (fun c => absurd (by decide) c) (fun _ => ?_)
              refine lv_iconst (v := (-1)) hx hb dX12_over_78 (by decide) ?_
              exact hret (-1) σ τ _ _ _ _ rfl ⟨rfl, (fun _ _ => rfl), (fun _ _ => rfl), hI119, trivial⟩ hP hS dX12_over_79
            · have kc20 := jnlt c20 jz_12 tx19
              refine lv_iload_n hx hb dX12_over_47 rfl (lv_at hl 2 rfl) ?_
              refine lv_bipush (v := 10) hx hb dX12_over_48 (by decide) ?_
              refine lv_irem hx hb dX12_over_50 (by decide) ?_
              refine lv_topi (fun x21 ex21 => ?_)
              have tx21 : x21.toInt = (A2 % 10) := jrem ex21 t2 jz_10 (by omega)
              refine lv_bipush (v := 8) hx hb dX12_over_51 (by decide) ?_
              refine lv_icmp_gt (tgt := 70) hx hb dX12_over_53 (by decide) (fun c22 => ?_) (fun c22 => ?_)
              · have kc22 := jlt c22 jz_8 tx21
                refine lv_iconst (v := 0) hx hb dX12_over_70 (by decide) ?_
                refine lv_istore (lv' := [(4, .int 0), (0, .ref (ad 55)), (1, .int a1), (2, .int a2), (3, .int a3)]) hx hb dX12_over_71 hl (by decide) rfl (fun ls hl => ?_)
                refine lv_iload hx hb dX12_over_73 (lv_at hl 0 rfl) ?_
                refine lv_if_ne (tgt := 80) hx hb dX12_over_75 (by decide) (fun c => absurd (by decide) c) (fun _ => ?_)
                refine lv_iconst (v := (-1)) hx hb dX12_over_78 (by decide) ?_
                exact hret (-1) σ τ _ _ _ _ rfl ⟨rfl, (fun _ _ => rfl), (fun _ _ => rfl), hI119, trivial⟩ hP hS dX12_over_79
              · have kc22 := jnlt c22 jz_8 tx21
                refine lv_iload_n hx hb dX12_over_56 rfl (lv_at hl 3 rfl) ?_
                refine lv_i2l (v := a3.toInt64) hx hb dX12_over_57 rfl ?_
                refine lv_lconst (v := 0) hx hb dX12_over_58 (by decide) ?_
                refine lv_lconst (v := 1) hx hb dX12_over_59 (by decide) ?_
                refine jcallS (As := [.long a3.toInt64, .long 0, .long 1]) (rest := []) ⟨hx, hb, hml, hown, hts⟩ hK hP hA hS hZ (c_X12_within l D cI cL ad zz hJ σ τ a3.toInt64 (A3) (jtoL t3) 0 (0) jzl_0 1 (1) jzl_1) cw_RX12_136 ⟨Nat.le_of_ble_eq_true rfl, Nat.le_of_ble_eq_true rfl⟩ rfl rfl rfl hl.1 rfl (Nat.le_of_ble_eq_true rfl) dX12_over_60 ⟨Nat.zero_le _, Nat.zero_le _⟩ (fun r24 σ23 τ23 H locs h23 hP hS => ?_)
                obtain ⟨⟨rfl, rfl⟩, h23⟩ := h23
                rcases h23 with h25 | h26
                · obtain ⟨q28, k27⟩ := h25
                  have q28 := q28.symm
                  subst q28
                  refine lv_if_eq (tgt := 70) hx hb dX12_over_63 (by decide) (fun c => absurd c (by decide)) (fun _ => ?_)
                  refine lv_iconst (v := 1) hx hb dX12_over_66 (by decide) ?_
                  refine lv_goto (tgt := 71) hx hb dX12_over_67 (by decide) ?_
                  refine lv_istore (lv' := [(4, .int 1), (0, .ref (ad 55)), (1, .int a1), (2, .int a2), (3, .int a3)]) hx hb dX12_over_71 hl (by decide) rfl (fun ls hl => ?_)
                  refine lv_iload hx hb dX12_over_73 (lv_at hl 0 rfl) ?_
                  refine lv_if_ne (tgt := 80) hx hb dX12_over_75 (by decide) (fun _ => ?_) (fun c => absurd c (by decide))
                  refine lv_aload_n hx hb dX12_over_80 rfl (lv_at hl 1 rfl) ?_
                  refine jcallVv (As := []) (rest := []) ⟨hx, hb, hml, hown, hts⟩ hK hP hA hS hZ (c_X12_begin l D cI cL ad zz hJ σ τ hI104 w4) cw_RX12_256 (jc_55 cI cL ad σ τ) rfl ⟨Nat.le_of_ble_eq_true rfl, Nat.le_of_ble_eq_true rfl⟩ rfl rfl rfl hl.1 rfl (Nat.le_of_ble_eq_true rfl) dX12_over_81 ⟨Nat.zero_le _, Nat.zero_le _⟩ (fun σ29 τ29 H locs h29 hP hS => ?_)
                  obtain ⟨rfl, f31, f32, I33, h29⟩ := h29
                  obtain ⟨i34, i35, i36, i37, i38, w39⟩ : (0 ≤ (σ29 55 25).toInt) ∧ ((σ29 55 25).toInt ≤ (σ29 55 10).toInt) ∧ (0 ≤ (σ29 55 26).toInt) ∧ ((σ29 55 26).toInt ≤ (σ29 55 12).toInt) ∧ ((-1) ≤ (σ29 55 27).toInt ∧ (σ29 55 27).toInt ≤ 3) ∧ (∀ k : Nat, k < 4 → 0 ≤ (σ29 68 k).toInt ∧ (σ29 68 k).toInt ≤ 3) := id I33
                  have z40 : (σ29 55 10).toInt = (σ 55 10).toInt := (congrArg Int32.toInt (show σ29 55 10 = (σ 55 10) from (f32 10 (by decide))))
                  have z41 : (σ29 55 12).toInt = (σ 55 12).toInt := (congrArg Int32.toInt (show σ29 55 12 = (σ 55 12) from (f32 12 (by decide))))
                  obtain ⟨k42, k43, k44, h29⟩ := h29
                  refine lv_iload_n hx hb dX12_over_84 rfl (lv_at hl 2 rfl) ?_
                  refine lv_bipush (v := 100) hx hb dX12_over_85 (by decide) ?_
                  refine lv_idiv hx hb dX12_over_87 (by decide) ?_
                  refine lv_topi (fun x45 ex45 => ?_)
                  have tx45 : x45.toInt = (A1 / 100) := jdiv ex45 t1 jz_100 (by omega) (by omega)
                  refine lv_istore (lv' := [(5, .int x45), (4, .int 1), (0, .ref (ad 55)), (1, .int a1), (2, .int a2), (3, .int a3)]) hx hb dX12_over_88 hl (by decide) rfl (fun ls hl => ?_)
                  refine lv_aload_n hx hb dX12_over_90 rfl (lv_at hl 2 rfl) ?_
                  refine va_get (D := D) hx hb hts inlX12 hown hK hP 55 (jc_55 cI cL ad σ29 τ) rfl 28 (by decide) (hts _ kw_7_14) (fun _ h9 => h9) rfl dX12_over_91 ?_
                  refine lv_iload hx hb dX12_over_94 (lv_at hl 0 rfl) ?_
                  refine lv_iload_n hx hb dX12_over_96 rfl (lv_at hl 3 rfl) ?_
                  refine lv_bipush (v := 10) hx hb dX12_over_97 (by decide) ?_
                  refine lv_irem hx hb dX12_over_99 (by decide) ?_
                  refine lv_topi (fun x46 ex46 => ?_)
                  have tx46 : x46.toInt = (A1 % 10) := jrem ex46 t1 jz_10 (by omega)
                  refine jast hx hb hK hP hJ hA hS (jc_68 cI cL ad σ29 τ) (ja_68 cI cL ad σ29 τ _ _) (jin tx45 (by omega) (by omega)) dX12_over_100 (fun σ47 H locs eσ47 hP hS => ?_)
                  refine lv_aload_n hx hb dX12_over_101 rfl (lv_at hl 2 rfl) ?_
                  refine lv_iload_n hx hb dX12_over_102 rfl (lv_at hl 4 rfl) ?_
                  refine lv_bipush (v := 10) hx hb dX12_over_103 (by decide) ?_
                  refine lv_idiv hx hb dX12_over_105 (by decide) ?_
                  refine lv_topi (fun x48 ex48 => ?_)
                  have tx48 : x48.toInt = (A2 / 10) := jdiv ex48 t2 jz_10 (by omega) (by omega)
                  refine jput (ty := .int) hx hb hts inlX12 tyX12 tyX12_ok nmX12 hown hK hP hJ hA hS (jc_55 cI cL ad σ47 τ) rfl (k := 26) (by decide) (Nat.le_of_ble_eq_true rfl) (jp_55_26 cI cL ad σ47 τ x48) (hts _ kw_23_5) (fun _ h9 => h9) rfl (by decide +kernel) rfl rfl dX12_over_106 (fun σ49 H locs eσ49 hP hS => ?_)
                  refine lv_aload_n hx hb dX12_over_109 rfl (lv_at hl 2 rfl) ?_
                  refine lv_iload_n hx hb dX12_over_110 rfl (lv_at hl 4 rfl) ?_
                  refine lv_bipush (v := 10) hx hb dX12_over_111 (by decide) ?_
                  refine lv_irem hx hb dX12_over_113 (by decide) ?_
                  refine lv_topi (fun x50 ex50 => ?_)
                  have tx50 : x50.toInt = (A2 % 10) := jrem ex50 t2 jz_10 (by omega)
                  refine jput (ty := .int) hx hb hts inlX12 tyX12 tyX12_ok nmX12 hown hK hP hJ hA hS (jc_55 cI cL ad σ49 τ) rfl (k := 25) (by decide) (Nat.le_of_ble_eq_true rfl) (jp_55_25 cI cL ad σ49 τ x50) (hts _ kw_23_6) (fun _ h9 => h9) rfl (by decide +kernel) rfl rfl dX12_over_114 (fun σ51 H locs eσ51 hP hS => ?_)
                  refine lv_iload_n hx hb dX12_over_117 rfl (lv_at hl 5 rfl) ?_
                  refine lv_if_ne (tgt := 137) hx hb dX12_over_118 (by decide) (fun c52 => ?_) (fun c52 => ?_)
                  · have kc52 := jne c52 t3 jz_0
                    refine lv_aload_n hx hb dX12_over_137 rfl (lv_at hl 2 rfl) ?_
                    refine lv_iload hx hb dX12_over_138 (lv_at hl 0 rfl) ?_
                    refine lv_iload_n hx hb dX12_over_140 rfl (lv_at hl 3 rfl) ?_
                    refine lv_bipush (v := 10) hx hb dX12_over_141 (by decide) ?_
                    refine lv_idiv hx hb dX12_over_143 (by decide) ?_
                    refine lv_topi (fun x53 ex53 => ?_)
                    have tx53 : x53.toInt = (A1 / 10) := jdiv ex53 t1 jz_10 (by omega) (by omega)
                    refine lv_bipush (v := 10) hx hb dX12_over_144 (by decide) ?_
                    refine lv_irem hx hb dX12_over_146 (by decide) ?_
                    refine lv_topi (fun x54 ex54 => ?_)
                    have tx54 : x54.toInt = (((A1 / 10)) % 10) := jrem ex54 tx53 jz_10 (by omega)
                    have I55 : jI101 σ51 := jI101_fr ((jkp 4 eσ51 (by decide)).trans ((jkp 4 eσ49 (by decide)).trans ((congrFun (jnp 55 eσ47 (by decide)) 4).trans (f32 4 (by decide))))) ((jkp 5 eσ51 (by decide)).trans ((jkp 5 eσ49 (by decide)).trans ((congrFun (jnp 55 eσ47 (by decide)) 5).trans (f32 5 (by decide))))) ((jnp 56 eσ51 (by decide)).trans ((jnp 56 eσ49 (by decide)).trans ((jnp 56 eσ47 (by decide)).trans (f31 56 (by decide))))) ((jnp 57 eσ51 (by decide)).trans ((jnp 57 eσ49 (by decide)).trans ((jnp 57 eσ47 (by decide)).trans (f31 57 (by decide))))) ((jnp 58 eσ51 (by decide)).trans ((jnp 58 eσ49 (by decide)).trans ((jnp 58 eσ47 (by decide)).trans (f31 58 (by decide))))) ((jnp 59 eσ51 (by decide)).trans ((jnp 59 eσ49 (by decide)).trans ((jnp 59 eσ47 (by decide)).trans (f31 59 (by decide))))) hI101
                    have I56 : jI102 σ51 := jI102_fr ((jkp 6 eσ51 (by decide)).trans ((jkp 6 eσ49 (by decide)).trans ((congrFun (jnp 55 eσ47 (by decide)) 6).trans (f32 6 (by decide))))) ((jnp 60 eσ51 (by decide)).trans ((jnp 60 eσ49 (by decide)).trans ((jnp 60 eσ47 (by decide)).trans (f31 60 (by decide))))) ((jnp 61 eσ51 (by decide)).trans ((jnp 61 eσ49 (by decide)).trans ((jnp 61 eσ47 (by decide)).trans (f31 61 (by decide))))) hI102
                    have I57 : jI103 σ51 := jI103_fr ((jkp 9 eσ51 (by decide)).trans ((jkp 9 eσ49 (by decide)).trans ((congrFun (jnp 55 eσ47 (by decide)) 9).trans (f32 9 (by decide))))) hI103
                    have w58 : ∀ k : Nat, k < 4 → 0 ≤ (σ51 68 k).toInt ∧ (σ51 68 k).toInt ≤ 3 := (jrr_fr (jnp 68 eσ51 (by decide)) (jrr_fr (jnp 68 eσ49 (by decide)) (by rw [eσ47]; exact jrr_up w39 (by have h9 := tx46; omega) (by have h9 := tx46; omega))))
                    refine jcallV (As := [.int x45, .int x54]) (rest := []) ⟨hx, hb, hml, hown, hts⟩ hK hP hA hS hZ (c_X12_runsBy l D cI cL ad zz hJ σ51 τ x45 ((A1 / 100)) tx45 x54 ((((A1 / 10)) % 10)) tx54 I55 I56 I57 w58 (by omega) (by omega)) cw_RX12_262 (jc_55 cI cL ad σ51 τ) rfl ⟨Nat.le_of_ble_eq_true rfl, Nat.le_of_ble_eq_true rfl⟩ rfl rfl rfl hl.1 rfl (Nat.le_of_ble_eq_true rfl) dX12_over_147 ⟨Nat.zero_le _, Nat.zero_le _⟩ (fun r60 σ59 τ59 H locs h59 hP hS => ?_)
                    obtain ⟨⟨rfl, rfl⟩, h59⟩ := h59
                    have h61 := h59
                    obtain ⟨q63, k62⟩ := h61
                    have I64 : jI119 σ51 := w58
                    exact hret r60 σ51 τ _ _ _ _ rfl ⟨rfl, (fun i hi => ((jnp i eσ51 (imp_240 i hi)).trans ((jnp i eσ49 (imp_240 i hi)).trans ((jnp i eσ47 (imp_241 i hi)).trans (f31 i (imp_242 i hi)))))), (fun i hi => ((jkp i eσ51 (imp_243 i hi)).trans ((jkp i eσ49 (imp_244 i hi)).trans ((congrFun (jnp 55 eσ47 (by decide)) i).trans (f32 i (imp_245 i hi)))))), I64, trivial⟩ hP hS dX12_over_150
                  · have kc52 := jeq c52 t3 jz_0
                    refine lv_aload_n hx hb dX12_over_121 rfl (lv_at hl 2 rfl) ?_
                    refine lv_iload hx hb dX12_over_122 (lv_at hl 0 rfl) ?_
                    refine lv_iload_n hx hb dX12_over_124 rfl (lv_at hl 3 rfl) ?_
                    refine lv_bipush (v := 10) hx hb dX12_over_125 (by decide) ?_
                    refine lv_idiv hx hb dX12_over_127 (by decide) ?_
                    refine lv_topi (fun x65 ex65 => ?_)
                    have tx65 : x65.toInt = (A1 / 10) := jdiv ex65 t1 jz_10 (by omega) (by omega)
                    refine lv_bipush (v := 10) hx hb dX12_over_128 (by decide) ?_
                    refine lv_irem hx hb dX12_over_130 (by decide) ?_
                    refine lv_topi (fun x66 ex66 => ?_)
                    have tx66 : x66.toInt = (((A1 / 10)) % 10) := jrem ex66 tx65 jz_10 (by omega)
                    have I67 : jI101 σ51 := jI101_fr ((jkp 4 eσ51 (by decide)).trans ((jkp 4 eσ49 (by decide)).trans ((congrFun (jnp 55 eσ47 (by decide)) 4).trans (f32 4 (by decide))))) ((jkp 5 eσ51 (by decide)).trans ((jkp 5 eσ49 (by decide)).trans ((congrFun (jnp 55 eσ47 (by decide)) 5).trans (f32 5 (by decide))))) ((jnp 56 eσ51 (by decide)).trans ((jnp 56 eσ49 (by decide)).trans ((jnp 56 eσ47 (by decide)).trans (f31 56 (by decide))))) ((jnp 57 eσ51 (by decide)).trans ((jnp 57 eσ49 (by decide)).trans ((jnp 57 eσ47 (by decide)).trans (f31 57 (by decide))))) ((jnp 58 eσ51 (by decide)).trans ((jnp 58 eσ49 (by decide)).trans ((jnp 58 eσ47 (by decide)).trans (f31 58 (by decide))))) ((jnp 59 eσ51 (by decide)).trans ((jnp 59 eσ49 (by decide)).trans ((jnp 59 eσ47 (by decide)).trans (f31 59 (by decide))))) hI101
                    have I68 : jI102 σ51 := jI102_fr ((jkp 6 eσ51 (by decide)).trans ((jkp 6 eσ49 (by decide)).trans ((congrFun (jnp 55 eσ47 (by decide)) 6).trans (f32 6 (by decide))))) ((jnp 60 eσ51 (by decide)).trans ((jnp 60 eσ49 (by decide)).trans ((jnp 60 eσ47 (by decide)).trans (f31 60 (by decide))))) ((jnp 61 eσ51 (by decide)).trans ((jnp 61 eσ49 (by decide)).trans ((jnp 61 eσ47 (by decide)).trans (f31 61 (by decide))))) hI102
                    have I69 : jI103 σ51 := jI103_fr ((jkp 9 eσ51 (by decide)).trans ((jkp 9 eσ49 (by decide)).trans ((congrFun (jnp 55 eσ47 (by decide)) 9).trans (f32 9 (by decide))))) hI103
                    have I70 : jI105 σ51 := jI105_fr ((jkp 15 eσ51 (by decide)).trans ((jkp 15 eσ49 (by decide)).trans ((congrFun (jnp 55 eσ47 (by decide)) 15).trans (f32 15 (by decide))))) ((jnp 65 eσ51 (by decide)).trans ((jnp 65 eσ49 (by decide)).trans ((jnp 65 eσ47 (by decide)).trans (f31 65 (by decide))))) hI105
                    have w71 : ∀ k : Nat, k < 4 → 0 ≤ (σ51 68 k).toInt ∧ (σ51 68 k).toInt ≤ 3 := (jrr_fr (jnp 68 eσ51 (by decide)) (jrr_fr (jnp 68 eσ49 (by decide)) (by rw [eσ47]; exact jrr_up w39 (by have h9 := tx46; omega) (by have h9 := tx46; omega))))
                    refine jcallV (As := [.int x45, .int x66]) (rest := []) ⟨hx, hb, hml, hown, hts⟩ hK hP hA hS hZ (c_X12_outBy l D cI cL ad zz hJ σ51 τ x45 ((A1 / 100)) tx45 x66 ((((A1 / 10)) % 10)) tx66 I67 I68 I69 I70 w71 (by omega) (by omega)) cw_RX12_259 (jc_55 cI cL ad σ51 τ) rfl ⟨Nat.le_of_ble_eq_true rfl, Nat.le_of_ble_eq_true rfl⟩ rfl rfl rfl hl.1 rfl (Nat.le_of_ble_eq_true rfl) dX12_over_131 ⟨Nat.zero_le _, Nat.zero_le _⟩ (fun r73 σ72 τ72 H locs h72 hP hS => ?_)
                    obtain ⟨rfl, f74, f75, h72⟩ := h72
                    have h76 := h72
                    obtain ⟨q78, k77⟩ := h76
                    refine lv_goto (tgt := 150) hx hb dX12_over_134 (by decide) ?_
                    have w79 : ∀ k : Nat, k < 4 → 0 ≤ (σ72 68 k).toInt ∧ (σ72 68 k).toInt ≤ 3 := (jrr_fr (f74 68 (by decide)) w71)
                    have I80 : jI119 σ72 := w79
                    exact hret r73 σ72 τ _ _ _ _ rfl ⟨rfl, (fun i hi => ((f74 i (imp_246 i hi)).trans ((jnp i eσ51 (imp_240 i hi)).trans ((jnp i eσ49 (imp_240 i hi)).trans ((jnp i eσ47 (imp_241 i hi)).trans (f31 i (imp_242 i hi))))))), (fun i hi => ((f75 i (imp_247 i hi)).trans ((jkp i eσ51 (imp_243 i hi)).trans ((jkp i eσ49 (imp_244 i hi)).trans ((congrFun (jnp 55 eσ47 (by decide)) i).trans (f32 i (imp_245 i hi))))))), I80, trivial⟩ hP hS dX12_over_150
                · obtain ⟨q82, k81⟩ := h26
                  have q82 := q82.symm
                  subst q82
                  refine lv_if_eq (tgt := 70) hx hb dX12_over_63 (by decide) (fun _ => ?_) (fun c => absurd (by decide) c)
                  refine lv_iconst (v := 0) hx hb dX12_over_70 (by decide) ?_
                  refine lv_istore (lv' := [(4, .int 0), (0, .ref (ad 55)), (1, .int a1), (2, .int a2), (3, .int a3)]) hx hb dX12_over_71 hl (by decide) rfl (fun ls hl => ?_)
                  refine lv_iload hx hb dX12_over_73 (lv_at hl 0 rfl) ?_
                  refine lv_if_ne (tgt := 80) hx hb dX12_over_75 (by decide) (fun c => absurd (by decide) c) (fun _ => ?_)
                  refine lv_iconst (v := (-1)) hx hb dX12_over_78 (by decide) ?_
                  exact hret (-1) σ τ _ _ _ _ rfl ⟨rfl, (fun _ _ => rfl), (fun _ _ => rfl), hI119, trivial⟩ hP hS dX12_over_79
    · obtain ⟨q84, k83⟩ := h10
      have q84 := q84.symm
      subst q84
      refine lv_if_eq (tgt := 70) hx hb dX12_over_12 (by decide) (fun _ => ?_) (fun c => absurd (by decide) c)
      refine lv_iconst (v := 0) hx hb dX12_over_70 (by decide) ?_
      refine lv_istore (lv' := [(4, .int 0), (0, .ref (ad 55)), (1, .int a1), (2, .int a2), (3, .int a3)]) hx hb dX12_over_71 hl (by decide) rfl (fun ls hl => ?_)
      refine lv_iload hx hb dX12_over_73 (lv_at hl 0 rfl) ?_
      refine lv_if_ne (tgt := 80) hx hb dX12_over_75 (by decide) (fun c => absurd (by decide) c) (fun _ => ?_)
      refine lv_iconst (v := (-1)) hx hb dX12_over_78 (by decide) ?_
      exact hret (-1) σ τ _ _ _ _ rfl ⟨rfl, (fun _ _ => rfl), (fun _ _ => rfl), hI119, trivial⟩ hP hS dX12_over_79
set_option maxHeartbeats 4000000 in
set_option maxRecDepth 100000 in
theorem c_X12_rule (l : Launch) (D : va_G) (cI cL : ClassId) (ad zz : Nat → Nat) (hJ : jD ad) (σ : Nat → Nat → Int32) (τ : Nat → Nat → Int64) (a1 : Int32) (A1 : Int) (t1 : a1.toInt = A1) (a2 : Int32) (A2 : Int) (t2 : a2.toInt = A2) (a3 : Int32) (A3 : Int) (t3 : a3.toInt = A3) (hI106 : jI106 σ) : jM l yX12_rule cX12_rule 7 (some .int) ({ frames := 1, cells := 0, slots := 0, locals := 25 }) D cI cL ad zz [.ref (ad 55), .int a1, .int a2, .int a3] σ τ (fun r σ' τ' => τ = τ' ∧ (∀ i : Nat, (i < 55 ∨ 55 < i) ∧ (i < 70 ∨ 73 < i) → σ' i = σ i) ∧ (∀ k : Nat, (k < 32 ∨ 32 < k) → σ' 55 k = σ 55 k) ∧ (jI106 σ') ∧ ((r = (-1) ∧ ((σ' 55 32).toInt = (σ 55 32).toInt) ∧ (¬ (0 ≤ A1 ∧ A1 ≤ 6 ∧ jRow (A2) ∧ 0 ≤ A3 ∧ A3 ≤ 12)) ∧ (σ' 70 = σ 70)) ∨ (r = (-3) ∧ ((σ 55 32).toInt = 20) ∧ ((σ' 55 32).toInt = 20) ∧ ((0 ≤ A1 ∧ A1 ≤ 6 ∧ jRow (A2) ∧ 0 ≤ A3 ∧ A3 ≤ 12)) ∧ (σ' 70 = σ 70)) ∨ (True ∧ ((σ 55 32).toInt < 20) ∧ (r.toInt = (σ 55 32).toInt) ∧ ((σ' 55 32).toInt = (σ 55 32).toInt + 1) ∧ ((0 ≤ A1 ∧ A1 ≤ 6 ∧ jRow (A2) ∧ 0 ≤ A3 ∧ A3 ≤ 12)) ∧ (σ' 70 = jupd (σ 70) ((σ 55 32).toInt).toNat a1)))) := by
  refine jM.of hJ (by decide +kernel) (nt := .int) rfl (Nat.le_of_ble_eq_true rfl) ?_
  intro p e s m args below meth c Q ls hC hret hl hP
  obtain ⟨hx, hb, hr, hml, hown, hts, hK, -, hlocks, hZ⟩ := hC
  have hown : s.vm.findClass RX12 = some m.cls := hown
  have hS : va_S (jA ad) s.heap s.heap [] := va_S.rf
  have hA : ∀ q, jA ad q → jA ad q := fun _ h => h
  have hl : lv_has ls 7 [(0, .ref (ad 55)), (1, .int a1), (2, .int a2), (3, .int a3)] := hl
  have g1 := jrg t1
  have g2 := jrg t2
  have g3 := jrg t3
  obtain ⟨i1, w2, w3, w4⟩ : (0 ≤ (σ 55 32).toInt ∧ (σ 55 32).toInt ≤ 20) ∧ (∀ k : Nat, k < 20 → 0 ≤ (σ 70 k).toInt ∧ (σ 70 k).toInt ≤ 6) ∧ (∀ k : Nat, k < 20 → 0 ≤ (σ 71 k).toInt ∧ (σ 71 k).toInt ≤ 8) ∧ (∀ k : Nat, k < 160 → 0 ≤ (σ 72 k).toInt ∧ (σ 72 k).toInt ≤ 3) := id hI106
  refine lv_iload_n hx hb dX12_rule_0 rfl (lv_at hl 1 rfl) ?_
  refine lv_i2l (v := a1.toInt64) hx hb dX12_rule_1 rfl ?_
  refine lv_lconst (v := 0) hx hb dX12_rule_2 (by decide) ?_
  refine lv_ldc2 (v := 6) hx hb hown (hts _ kw_24_22) dX12_rule_3 ?_
  refine jcallS (As := [.long a1.toInt64, .long 0, .long 6]) (rest := []) ⟨hx, hb, hml, hown, hts⟩ hK hP hA hS hZ (c_X12_within l D cI cL ad zz hJ σ τ a1.toInt64 (A1) (jtoL t1) 0 (0) jzl_0 6 (6) jzl_6) cw_RX12_136 ⟨Nat.le_of_ble_eq_true rfl, Nat.le_of_ble_eq_true rfl⟩ rfl rfl rfl hl.1 rfl (Nat.le_of_ble_eq_true rfl) dX12_rule_6 ⟨Nat.zero_le _, Nat.zero_le _⟩ (fun r6 σ5 τ5 H locs h5 hP hS => ?_)
  obtain ⟨⟨rfl, rfl⟩, h5⟩ := h5
  rcases h5 with h7 | h8
  · obtain ⟨q10, k9⟩ := h7
    have q10 := q10.symm
    subst q10
    refine lv_if_eq (tgt := 36) hx hb dX12_rule_9 (by decide) (fun c => absurd c (by decide)) (fun _ => ?_)
    refine lv_iload_n hx hb dX12_rule_12 rfl (lv_at hl 2 rfl) ?_
    refine lv_i2l (v := a2.toInt64) hx hb dX12_rule_13 rfl ?_
    refine lv_lconst (v := 0) hx hb dX12_rule_14 (by decide) ?_
    refine lv_ldc2 (v := 44444444) hx hb hown (hts _ kw_24_23) dX12_rule_15 ?_
    refine jcallS (As := [.long a2.toInt64, .long 0, .long 44444444]) (rest := []) ⟨hx, hb, hml, hown, hts⟩ hK hP hA hS hZ (c_X12_within l D cI cL ad zz hJ σ τ a2.toInt64 (A2) (jtoL t2) 0 (0) jzl_0 44444444 (44444444) jzl_44444444) cw_RX12_136 ⟨Nat.le_of_ble_eq_true rfl, Nat.le_of_ble_eq_true rfl⟩ rfl rfl rfl hl.1 rfl (Nat.le_of_ble_eq_true rfl) dX12_rule_18 ⟨Nat.zero_le _, Nat.zero_le _⟩ (fun r12 σ11 τ11 H locs h11 hP hS => ?_)
    obtain ⟨⟨rfl, rfl⟩, h11⟩ := h11
    rcases h11 with h13 | h14
    · obtain ⟨q16, k15⟩ := h13
      have q16 := q16.symm
      subst q16
      refine lv_if_eq (tgt := 36) hx hb dX12_rule_21 (by decide) (fun c => absurd c (by decide)) (fun _ => ?_)
      refine lv_iload_n hx hb dX12_rule_24 rfl (lv_at hl 3 rfl) ?_
      refine lv_i2l (v := a3.toInt64) hx hb dX12_rule_25 rfl ?_
      refine lv_lconst (v := 0) hx hb dX12_rule_26 (by decide) ?_
      refine lv_ldc2 (v := 12) hx hb hown (hts _ kw_25_0) dX12_rule_27 ?_
      refine jcallS (As := [.long a3.toInt64, .long 0, .long 12]) (rest := []) ⟨hx, hb, hml, hown, hts⟩ hK hP hA hS hZ (c_X12_within l D cI cL ad zz hJ σ τ a3.toInt64 (A3) (jtoL t3) 0 (0) jzl_0 12 (12) jzl_12) cw_RX12_136 ⟨Nat.le_of_ble_eq_true rfl, Nat.le_of_ble_eq_true rfl⟩ rfl rfl rfl hl.1 rfl (Nat.le_of_ble_eq_true rfl) dX12_rule_30 ⟨Nat.zero_le _, Nat.zero_le _⟩ (fun r18 σ17 τ17 H locs h17 hP hS => ?_)
      obtain ⟨⟨rfl, rfl⟩, h17⟩ := h17
      rcases h17 with h19 | h20
      · obtain ⟨q22, k21⟩ := h19
        have q22 := q22.symm
        subst q22
        refine lv_if_ne (tgt := 38) hx hb dX12_rule_33 (by decide) (fun _ => ?_) (fun c => absurd c (by decide))
        have lp23 : ∀ (x25 : Int32) (H : Heap) (locs : List Loc) (ls : Array Slot), 0 ≤ x25.toInt → x25.toInt ≤ 8 → (jRow (A2) ∧ jDn (x25.toInt).toNat (A2)) → jH D cI cL ad σ τ H → va_S (jA ad) s.heap H locs → lv_has ls 7 [(0, .ref (ad 55)), (1, .int a1), (2, .int a2), (3, .int a3), (4, .int x25)] → W p l e ({ frames := 1, cells := 0, slots := 0, locals := 25 }) s m args below meth c H locs 0 0 Q (F0 m 80 ls []) := by
          intro x25 H locs ls h26 h27 q29 hP hS hl
          refine lv_aload_n hx hb dX12_rule_80 rfl (lv_at hl 0 rfl) ?_
          refine va_get (D := D) hx hb hts inlX12 hown hK hP 55 (jc_55 cI cL ad σ τ) rfl 32 (by decide) (hts _ kw_25_1) (fun _ h9 => h9) rfl dX12_rule_81 ?_
          refine lv_bipush (v := 20) hx hb dX12_rule_84 (by decide) ?_
          refine lv_icmp_ne (tgt := 92) hx hb dX12_rule_86 (by decide) (fun c30 => ?_) (fun c30 => ?_)
          · have kc30 := jne c30 rfl jz_20
            refine lv_iload_n hx hb dX12_rule_92 rfl (lv_at hl 2 rfl) ?_
            refine lv_istore (lv' := [(5, .int a2), (0, .ref (ad 55)), (1, .int a1), (2, .int a2), (3, .int a3), (4, .int x25)]) hx hb dX12_rule_93 hl (by decide) rfl (fun ls hl => ?_)
            refine lv_iload hx hb dX12_rule_95 (lv_at hl 5 rfl) ?_
            refine lv_iconst (v := 1) hx hb dX12_rule_97 (by decide) ?_
            have g31 := jrg (rfl : x25.toInt = x25.toInt)
            refine lv_isub hx hb dX12_rule_98 ?_
            refine lv_topi (fun x32 ex32 => ?_)
            have tx32 : x32.toInt = x25.toInt - 1 := (jsub ex32 rfl jz_1 (by omega) (by omega)).trans (by omega)
            refine lv_istore (lv' := [(6, .int x32), (5, .int a2), (0, .ref (ad 55)), (1, .int a1), (2, .int a2), (3, .int a3), (4, .int x25)]) hx hb dX12_rule_99 hl (by decide) rfl (fun ls hl => ?_)
            have lp33 : ∀ (n34 : Nat) (x35 : Int32) (x36 : Int32) (σ37 : Nat → Nat → Int32) (H : Heap) (locs : List Loc) (ls : Array Slot), (x36.toInt + 1 : Int) < n34 → 0 ≤ x35.toInt → x35.toInt ≤ 44444444 → (-1) ≤ x36.toInt → x36.toInt ≤ 7 → (∀ i : Nat, (i < 72 ∨ 72 < i) → σ37 i = σ i) → jI106 σ37 → (jDn (x36.toInt + 1).toNat (x35.toInt)) → jH D cI cL ad σ37 τ H → va_S (jA ad) s.heap H locs → lv_has ls 7 [(6, .int x36), (5, .int x35), (0, .ref (ad 55)), (1, .int a1), (2, .int a2), (3, .int a3), (4, .int x25)] → W p l e ({ frames := 1, cells := 0, slots := 0, locals := 25 }) s m args below meth c H locs 0 0 Q (F0 m 101 ls []) := by
              intro n34
              induction n34 with
              | zero => intro x35 x36 σ37 H locs ls h38 h39 h40 h41 h42; exact absurd h38 (by omega)
              | succ n34 ihlp33 =>
                intro x35 x36 σ37 H locs ls h38 h39 h40 h41 h42 f43 p44 q45 hP hS hl
                obtain ⟨i46, w47, w48, w49⟩ : (0 ≤ (σ37 55 32).toInt ∧ (σ37 55 32).toInt ≤ 20) ∧ (∀ k : Nat, k < 20 → 0 ≤ (σ37 70 k).toInt ∧ (σ37 70 k).toInt ≤ 6) ∧ (∀ k : Nat, k < 20 → 0 ≤ (σ37 71 k).toInt ∧ (σ37 71 k).toInt ≤ 8) ∧ (∀ k : Nat, k < 160 → 0 ≤ (σ37 72 k).toInt ∧ (σ37 72 k).toInt ≤ 3) := id p44
                have z50 : (σ37 55 32).toInt = (σ 55 32).toInt := (congrArg Int32.toInt (show σ37 55 32 = (σ 55 32) from (congrFun (f43 55 (by decide)) 32)))
                refine lv_iload hx hb dX12_rule_101 (lv_at hl 0 rfl) ?_
                refine lv_if_lt (tgt := 141) hx hb dX12_rule_103 (by decide) (fun c51 => ?_) (fun c51 => ?_)
                · have kc51 := jlt c51 rfl jz_0
                  refine lv_aload_n hx hb dX12_rule_141 rfl (lv_at hl 2 rfl) ?_
                  refine va_get (D := D) hx hb hts inlX12 hown hK hP 55 (jc_55 cI cL ad σ37 τ) rfl 33 (by decide) (hts _ kw_7_18) (fun _ h9 => h9) rfl dX12_rule_142 ?_
                  refine lv_aload_n hx hb dX12_rule_145 rfl (lv_at hl 2 rfl) ?_
                  refine va_get (D := D) hx hb hts inlX12 hown hK hP 55 (jc_55 cI cL ad σ37 τ) rfl 32 (by decide) (hts _ kw_25_1) (fun _ h9 => h9) rfl dX12_rule_146 ?_
                  have m52 : σ37 55 32 = (σ 55 32) := (congrFun (f43 55 (by decide)) 32)
                  refine jtopr m52 ?_
                  refine lv_iload_n hx hb dX12_rule_149 rfl (lv_at hl 3 rfl) ?_
                  refine jast hx hb hK hP hJ hA hS (jc_70 cI cL ad σ37 τ) (ja_70 cI cL ad σ37 τ _ _) (jin rfl (by omega) (by omega)) dX12_rule_150 (fun σ53 H locs eσ53 hP hS => ?_)
                  refine lv_aload_n hx hb dX12_rule_151 rfl (lv_at hl 2 rfl) ?_
                  refine va_get (D := D) hx hb hts inlX12 hown hK hP 55 (jc_55 cI cL ad σ53 τ) rfl 34 (by decide) (hts _ kw_7_19) (fun _ h9 => h9) rfl dX12_rule_152 ?_
                  refine lv_aload_n hx hb dX12_rule_155 rfl (lv_at hl 2 rfl) ?_
                  refine va_get (D := D) hx hb hts inlX12 hown hK hP 55 (jc_55 cI cL ad σ53 τ) rfl 32 (by decide) (hts _ kw_25_1) (fun _ h9 => h9) rfl dX12_rule_156 ?_
                  have m54 : σ53 55 32 = (σ 55 32) := ((congrFun (jnp 55 eσ53 (by decide)) 32).trans m52)
                  refine jtopr m54 ?_
                  refine lv_iload hx hb dX12_rule_159 (lv_at hl 6 rfl) ?_
                  refine jast hx hb hK hP hJ hA hS (jc_71 cI cL ad σ53 τ) (ja_71 cI cL ad σ53 τ _ _) (jin rfl (by omega) (by omega)) dX12_rule_161 (fun σ55 H locs eσ55 hP hS => ?_)
                  refine lv_aload_n hx hb dX12_rule_162 rfl (lv_at hl 2 rfl) ?_
                  refine va_get (D := D) hx hb hts inlX12 hown hK hP 55 (jc_55 cI cL ad σ55 τ) rfl 36 (by decide) (hts _ kw_7_21) (fun _ h9 => h9) rfl dX12_rule_163 ?_
                  refine lv_aload_n hx hb dX12_rule_166 rfl (lv_at hl 2 rfl) ?_
                  refine va_get (D := D) hx hb hts inlX12 hown hK hP 55 (jc_55 cI cL ad σ55 τ) rfl 32 (by decide) (hts _ kw_25_1) (fun _ h9 => h9) rfl dX12_rule_167 ?_
                  have m56 : σ55 55 32 = (σ 55 32) := ((congrFun (jnp 55 eσ55 (by decide)) 32).trans m54)
                  refine jtopr m56 ?_
                  refine lv_iload_n hx hb dX12_rule_170 rfl (lv_at hl 5 rfl) ?_
                  refine jast hx hb hK hP hJ hA hS (jc_73 cI cL ad σ55 τ) (ja_73 cI cL ad σ55 τ _ _) (jin rfl (by omega) (by omega)) dX12_rule_171 (fun σ57 H locs eσ57 hP hS => ?_)
                  refine lv_aload_n hx hb dX12_rule_172 rfl (lv_at hl 2 rfl) ?_
                  refine lv_dup hx hb dX12_rule_173 rfl ?_
                  refine va_get (D := D) hx hb hts inlX12 hown hK hP 55 (jc_55 cI cL ad σ57 τ) rfl 32 (by decide) (hts _ kw_25_1) (fun _ h9 => h9) rfl dX12_rule_174 ?_
                  have m58 : σ57 55 32 = (σ 55 32) := ((congrFun (jnp 55 eσ57 (by decide)) 32).trans m56)
                  refine jtopr m58 ?_
                  refine lv_iconst (v := 1) hx hb dX12_rule_177 (by decide) ?_
                  have g59 := jrg (rfl : (σ 55 32).toInt = (σ 55 32).toInt)
                  refine lv_iadd hx hb dX12_rule_178 ?_
                  refine lv_topi (fun x60 ex60 => ?_)
                  have tx60 : x60.toInt = (σ 55 32).toInt + 1 := (jadd ex60 rfl jz_1 (by omega) (by omega)).trans (by omega)
                  refine jput (ty := .int) hx hb hts inlX12 tyX12 tyX12_ok nmX12 hown hK hP hJ hA hS (jc_55 cI cL ad σ57 τ) rfl (k := 32) (by decide) (Nat.le_of_ble_eq_true rfl) (jp_55_32 cI cL ad σ57 τ x60) (hts _ kw_25_1) (fun _ h9 => h9) rfl (by decide +kernel) rfl rfl dX12_rule_179 (fun σ61 H locs eσ61 hP hS => ?_)
                  refine lv_aload_n hx hb dX12_rule_182 rfl (lv_at hl 2 rfl) ?_
                  refine va_get (D := D) hx hb hts inlX12 hown hK hP 55 (jc_55 cI cL ad σ61 τ) rfl 32 (by decide) (hts _ kw_25_1) (fun _ h9 => h9) rfl dX12_rule_183 ?_
                  have m62 : σ61 55 32 = x60 := (jsp eσ61)
                  refine jtopr m62 ?_
                  refine lv_iconst (v := 1) hx hb dX12_rule_186 (by decide) ?_
                  refine lv_isub hx hb dX12_rule_187 ?_
                  refine lv_topi (fun x63 ex63 => ?_)
                  have tx63 : x63.toInt = (σ 55 32).toInt := (jsub ex63 tx60 jz_1 (by omega) (by omega)).trans (by omega)
                  have z64 : (σ61 55 32).toInt = (σ 55 32).toInt + 1 := ((congrArg Int32.toInt (show σ61 55 32 = x60 from m62)).trans tx60)
                  have w65 : ∀ k : Nat, k < 20 → 0 ≤ (σ61 70 k).toInt ∧ (σ61 70 k).toInt ≤ 6 := (jrr_fr (jnp 70 eσ61 (by decide)) (jrr_fr (jnp 70 eσ57 (by decide)) (jrr_fr (jnp 70 eσ55 (by decide)) (by rw [eσ53]; exact jrr_up w47 (by have h9 := t1; omega) (by have h9 := t1; omega)))))
                  have w66 : ∀ k : Nat, k < 20 → 0 ≤ (σ61 71 k).toInt ∧ (σ61 71 k).toInt ≤ 8 := (jrr_fr (jnp 71 eσ61 (by decide)) (jrr_fr (jnp 71 eσ57 (by decide)) (by rw [eσ55]; exact jrr_up (jrr_fr (jnp 71 eσ53 (by decide)) w48) (by omega) (by omega))))
                  have w67 : ∀ k : Nat, k < 160 → 0 ≤ (σ61 72 k).toInt ∧ (σ61 72 k).toInt ≤ 3 := (jrr_fr (jnp 72 eσ61 (by decide)) (jrr_fr (jnp 72 eσ57 (by decide)) (jrr_fr (jnp 72 eσ55 (by decide)) (jrr_fr (jnp 72 eσ53 (by decide)) w49))))
                  have I68 : jI106 σ61 := ⟨(by omega), w65, w66, w67⟩
                  exact hret x63 σ61 τ _ _ _ _ rfl ⟨rfl, (fun i hi => ((jnp i eσ61 (imp_248 i hi)).trans ((jnp i eσ57 (imp_249 i hi)).trans ((jnp i eσ55 (imp_250 i hi)).trans ((jnp i eσ53 (imp_251 i hi)).trans (f43 i (imp_252 i hi))))))), (fun i hi => ((jkp i eσ61 (imp_253 i hi)).trans ((congrFun (jnp 55 eσ57 (by decide)) i).trans ((congrFun (jnp 55 eσ55 (by decide)) i).trans ((congrFun (jnp 55 eσ53 (by decide)) i).trans (congrFun (f43 55 (by decide)) i)))))), I68, Or.inr (Or.inr (⟨trivial, (by have h9 := tx63; omega), (by have h9 := tx63; omega), (by have h9 := tx63; omega), ⟨by omega, by omega, q29.1, by omega, by omega⟩, (by rw [eσ61, jup_n (by decide), eσ57, jup_n (by decide), eσ55, jup_n (by decide), eσ53, jup_row, f43 70 (by decide), jnc (show (σ 55 32).toInt = (σ 55 32).toInt by omega)])⟩))⟩ hP hS dX12_rule_188
                · have kc51 := jnlt c51 rfl jz_0
                  have g69 := jDn_step (by omega) q45
                  have k70 := g69.1
                  have k71 := g69.2.1
                  refine lv_aload_n hx hb dX12_rule_106 rfl (lv_at hl 2 rfl) ?_
                  refine va_get (D := D) hx hb hts inlX12 hown hK hP 55 (jc_55 cI cL ad σ37 τ) rfl 35 (by decide) (hts _ kw_7_20) (fun _ h9 => h9) rfl dX12_rule_107 ?_
                  refine lv_bipush (v := 8) hx hb dX12_rule_110 (by decide) ?_
                  refine lv_aload_n hx hb dX12_rule_112 rfl (lv_at hl 2 rfl) ?_
                  refine va_get (D := D) hx hb hts inlX12 hown hK hP 55 (jc_55 cI cL ad σ37 τ) rfl 32 (by decide) (hts _ kw_25_1) (fun _ h9 => h9) rfl dX12_rule_113 ?_
                  have m72 : σ37 55 32 = (σ 55 32) := (congrFun (f43 55 (by decide)) 32)
                  refine jtopr m72 ?_
                  have g73 := jrg (rfl : (σ 55 32).toInt = (σ 55 32).toInt)
                  refine lv_imul hx hb dX12_rule_116 ?_
                  refine lv_topi (fun x74 ex74 => ?_)
                  have tx74 : x74.toInt = 8 * (σ 55 32).toInt := (jmul ex74 jz_8 rfl (by omega) (by omega)).trans (by omega)
                  refine lv_iload hx hb dX12_rule_117 (lv_at hl 0 rfl) ?_
                  have g75 := jrg (rfl : x36.toInt = x36.toInt)
                  refine lv_iadd hx hb dX12_rule_119 ?_
                  refine lv_topi (fun x76 ex76 => ?_)
                  have tx76 : x76.toInt = 8 * (σ 55 32).toInt + x36.toInt := (jadd ex76 tx74 rfl (by omega) (by omega)).trans (by omega)
                  refine lv_iload hx hb dX12_rule_120 (lv_at hl 1 rfl) ?_
                  refine lv_bipush (v := 10) hx hb dX12_rule_122 (by decide) ?_
                  refine lv_irem hx hb dX12_rule_124 (by decide) ?_
                  refine lv_topi (fun x77 ex77 => ?_)
                  have tx77 : x77.toInt = (x35.toInt % 10) := jrem ex77 rfl jz_10 (by omega)
                  refine lv_iconst (v := 1) hx hb dX12_rule_125 (by decide) ?_
                  refine lv_isub hx hb dX12_rule_126 ?_
                  refine lv_topi (fun x78 ex78 => ?_)
                  have tx78 : x78.toInt = (x35.toInt % 10) - 1 := (jsub ex78 tx77 jz_1 (by omega) (by omega)).trans (by omega)
                  refine jast hx hb hK hP hJ hA hS (jc_72 cI cL ad σ37 τ) (ja_72 cI cL ad σ37 τ _ _) (jin tx76 (by omega) (by omega)) dX12_rule_127 (fun σ79 H locs eσ79 hP hS => ?_)
                  refine lv_iload hx hb dX12_rule_128 (lv_at hl 1 rfl) ?_
                  refine lv_bipush (v := 10) hx hb dX12_rule_130 (by decide) ?_
                  refine lv_idiv hx hb dX12_rule_132 (by decide) ?_
                  refine lv_topi (fun x80 ex80 => ?_)
                  have tx80 : x80.toInt = (x35.toInt / 10) := jdiv ex80 rfl jz_10 (by omega) (by omega)
                  refine lv_istore (lv' := [(5, .int x80), (6, .int x36), (0, .ref (ad 55)), (1, .int a1), (2, .int a2), (3, .int a3), (4, .int x25)]) hx hb dX12_rule_133 hl (by decide) rfl (fun ls hl => ?_)
                  obtain ⟨x81, ex81⟩ : ∃ y : Int32, y = x36 + (-1) := ⟨_, rfl⟩
                  have tx81 : x81.toInt = x36.toInt - 1 := (jadd ex81 rfl jz_m1 (by omega) (by omega)).trans (by omega)
                  refine lv_iinc (v := x81) (lv' := [(6, .int x81), (5, .int x80), (0, .ref (ad 55)), (1, .int a1), (2, .int a2), (3, .int a3), (4, .int x25)]) hx hb dX12_rule_135 hl (k := 1) rfl (by rw [ex81]; rfl) (by decide) rfl (fun ls hl => ?_)
                  refine lv_goto (tgt := 101) hx hb dX12_rule_138 (by decide) ?_
                  have z82 : (σ79 55 32).toInt = (σ 55 32).toInt := (congrArg Int32.toInt (show σ79 55 32 = (σ 55 32) from ((congrFun (jnp 55 eσ79 (by decide)) 32).trans m72)))
                  have w83 : ∀ k : Nat, k < 20 → 0 ≤ (σ79 70 k).toInt ∧ (σ79 70 k).toInt ≤ 6 := (jrr_fr (jnp 70 eσ79 (by decide)) w47)
                  have w84 : ∀ k : Nat, k < 20 → 0 ≤ (σ79 71 k).toInt ∧ (σ79 71 k).toInt ≤ 8 := (jrr_fr (jnp 71 eσ79 (by decide)) w48)
                  have w85 : ∀ k : Nat, k < 160 → 0 ≤ (σ79 72 k).toInt ∧ (σ79 72 k).toInt ≤ 3 := (by rw [eσ79]; exact jrr_up w49 (by have h9 := tx78; omega) (by have h9 := tx78; omega))
                  have I86 : jI106 σ79 := ⟨(by omega), w83, w84, w85⟩
                  exact ihlp33 x80 x81 σ79 _ _ ls (by have h90 := tx80; have h91 := tx81; omega) (by have h90 := tx80; have h91 := tx81; omega) (by have h90 := tx80; have h91 := tx81; omega) (by have h90 := tx80; have h91 := tx81; omega) (by have h90 := tx80; have h91 := tx81; omega) (fun i hi => ((jnp i eσ79 (imp_254 i hi)).trans (f43 i hi)))   I86 (jDn_eq2 g69.2.2 (by have h90 := tx80; have h91 := tx81; omega) (by have h90 := tx80; have h91 := tx81; omega)) hP hS (lv_sub hl [0, 1, 2, 3, 4, 5, 6] rfl)
            exact lp33 1000000 a2 x32 σ _ _ ls (by have h90 := t2; have h91 := tx32; omega) (by have h90 := t2; have h91 := tx32; omega) (by have h90 := t2; have h91 := tx32; omega) (by have h90 := t2; have h91 := tx32; omega) (by have h90 := t2; have h91 := tx32; omega) (fun _ _ => rfl)  hI106 (jDn_eq2 q29.2 (by have h90 := t2; have h91 := tx32; omega) (by have h90 := t2; have h91 := tx32; omega)) hP hS hl
          · have kc30 := jeq c30 rfl jz_20
            refine lv_bipush (v := (-3)) hx hb dX12_rule_89 (by decide) ?_
            exact hret (-3) σ τ _ _ _ _ rfl ⟨rfl, (fun _ _ => rfl), (fun _ _ => rfl), hI106, Or.inr (Or.inl ⟨rfl, (by have h9 := jz_m3; omega), (by have h9 := jz_m3; omega), ⟨by omega, by omega, q29.1, by omega, by omega⟩, rfl⟩)⟩ hP hS dX12_rule_91
        refine lv_iconst (v := 0) hx hb dX12_rule_38 (by decide) ?_
        refine lv_istore (lv' := [(4, .int 0), (0, .ref (ad 55)), (1, .int a1), (2, .int a2), (3, .int a3)]) hx hb dX12_rule_39 hl (by decide) rfl (fun ls hl => ?_)
        refine lv_iload_n hx hb dX12_rule_41 rfl (lv_at hl 3 rfl) ?_
        refine lv_istore (lv' := [(5, .int a2), (4, .int 0), (0, .ref (ad 55)), (1, .int a1), (2, .int a2), (3, .int a3)]) hx hb dX12_rule_42 hl (by decide) rfl (fun ls hl => ?_)
        refine lv_iload hx hb dX12_rule_44 (lv_at hl 0 rfl) ?_
        refine lv_if_le (tgt := 80) hx hb dX12_rule_46 (by decide) (fun c87 => ?_) (fun c87 => ?_)
        · have kc87 := jle c87 t2 jz_0
          exact lp23 0 _ _ ls (by have h90 := jz_0; omega) (by have h90 := jz_0; omega)   ⟨(by unfold jRow; simp only [jDig, and_true]; omega), (show jDn 0 (A2) from by simp only [jDn]; omega)⟩ hP hS (lv_sub hl [2, 3, 4, 5, 1] rfl)
        · have kc87 := jnle c87 t2 jz_0
          refine lv_iload hx hb dX12_rule_49 (lv_at hl 0 rfl) ?_
          refine lv_bipush (v := 10) hx hb dX12_rule_51 (by decide) ?_
          refine lv_irem hx hb dX12_rule_53 (by decide) ?_
          refine lv_topi (fun x88 ex88 => ?_)
          have tx88 : x88.toInt = (A2 % 10) := jrem ex88 t2 jz_10 (by omega)
          refine lv_i2l (v := x88.toInt64) hx hb dX12_rule_54 rfl ?_
          refine lv_lconst (v := 1) hx hb dX12_rule_55 (by decide) ?_
          refine lv_ldc2 (v := 4) hx hb hown (hts _ kw_13_5) dX12_rule_56 ?_
          refine jcallS (As := [.long x88.toInt64, .long 1, .long 4]) (rest := []) ⟨hx, hb, hml, hown, hts⟩ hK hP hA hS hZ (c_X12_within l D cI cL ad zz hJ σ τ x88.toInt64 ((A2 % 10)) (jtoL tx88) 1 (1) jzl_1 4 (4) jzl_4) cw_RX12_136 ⟨Nat.le_of_ble_eq_true rfl, Nat.le_of_ble_eq_true rfl⟩ rfl rfl rfl hl.1 rfl (Nat.le_of_ble_eq_true rfl) dX12_rule_59 ⟨Nat.zero_le _, Nat.zero_le _⟩ (fun r90 σ89 τ89 H locs h89 hP hS => ?_)
          obtain ⟨⟨rfl, rfl⟩, h89⟩ := h89
          rcases h89 with h91 | h92
          · obtain ⟨q94, k93⟩ := h91
            have q94 := q94.symm
            subst q94
            refine lv_if_ne (tgt := 67) hx hb dX12_rule_62 (by decide) (fun _ => ?_) (fun c => absurd c (by decide))
            refine lv_iinc (v := 1) (lv' := [(4, .int 1), (5, .int a2), (0, .ref (ad 55)), (1, .int a1), (2, .int a2), (3, .int a3)]) hx hb dX12_rule_67 hl (k := 1) rfl (by decide) (by decide) rfl (fun ls hl => ?_)
            refine lv_iload hx hb dX12_rule_70 (lv_at hl 1 rfl) ?_
            refine lv_bipush (v := 10) hx hb dX12_rule_72 (by decide) ?_
            refine lv_idiv hx hb dX12_rule_74 (by decide) ?_
            refine lv_topi (fun x95 ex95 => ?_)
            have tx95 : x95.toInt = (A2 / 10) := jdiv ex95 t2 jz_10 (by omega) (by omega)
            refine lv_istore (lv' := [(5, .int x95), (4, .int 1), (0, .ref (ad 55)), (1, .int a1), (2, .int a2), (3, .int a3)]) hx hb dX12_rule_75 hl (by decide) rfl (fun ls hl => ?_)
            refine lv_goto (tgt := 44) hx hb dX12_rule_77 (by decide) ?_
            refine lv_iload hx hb dX12_rule_44 (lv_at hl 0 rfl) ?_
            refine lv_if_le (tgt := 80) hx hb dX12_rule_46 (by decide) (fun c96 => ?_) (fun c96 => ?_)
            · have kc96 := jle c96 tx95 jz_0
              exact lp23 1 _ _ ls (by have h90 := jz_1; omega) (by have h90 := jz_1; omega)   ⟨(by unfold jRow; simp only [jDig, and_true]; omega), (show jDn 1 (A2) from by simp only [jDn]; omega)⟩ hP hS (lv_sub hl [2, 3, 4, 5, 1] rfl)
            · have kc96 := jnle c96 tx95 jz_0
              refine lv_iload hx hb dX12_rule_49 (lv_at hl 0 rfl) ?_
              refine lv_bipush (v := 10) hx hb dX12_rule_51 (by decide) ?_
              refine lv_irem hx hb dX12_rule_53 (by decide) ?_
              refine lv_topi (fun x97 ex97 => ?_)
              have tx97 : x97.toInt = (((A2 / 10)) % 10) := jrem ex97 tx95 jz_10 (by omega)
              refine lv_i2l (v := x97.toInt64) hx hb dX12_rule_54 rfl ?_
              refine lv_lconst (v := 1) hx hb dX12_rule_55 (by decide) ?_
              refine lv_ldc2 (v := 4) hx hb hown (hts _ kw_13_5) dX12_rule_56 ?_
              refine jcallS (As := [.long x97.toInt64, .long 1, .long 4]) (rest := []) ⟨hx, hb, hml, hown, hts⟩ hK hP hA hS hZ (c_X12_within l D cI cL ad zz hJ σ τ x97.toInt64 ((((A2 / 10)) % 10)) (jtoL tx97) 1 (1) jzl_1 4 (4) jzl_4) cw_RX12_136 ⟨Nat.le_of_ble_eq_true rfl, Nat.le_of_ble_eq_true rfl⟩ rfl rfl rfl hl.1 rfl (Nat.le_of_ble_eq_true rfl) dX12_rule_59 ⟨Nat.zero_le _, Nat.zero_le _⟩ (fun r99 σ98 τ98 H locs h98 hP hS => ?_)
              obtain ⟨⟨rfl, rfl⟩, h98⟩ := h98
              rcases h98 with h100 | h101
              · obtain ⟨q103, k102⟩ := h100
                have q103 := q103.symm
                subst q103
                refine lv_if_ne (tgt := 67) hx hb dX12_rule_62 (by decide) (fun _ => ?_) (fun c => absurd c (by decide))
                refine lv_iinc (v := 2) (lv' := [(4, .int 2), (5, .int x95), (0, .ref (ad 55)), (1, .int a1), (2, .int a2), (3, .int a3)]) hx hb dX12_rule_67 hl (k := 1) rfl (by decide) (by decide) rfl (fun ls hl => ?_)
                refine lv_iload hx hb dX12_rule_70 (lv_at hl 1 rfl) ?_
                refine lv_bipush (v := 10) hx hb dX12_rule_72 (by decide) ?_
                refine lv_idiv hx hb dX12_rule_74 (by decide) ?_
                refine lv_topi (fun x104 ex104 => ?_)
                have tx104 : x104.toInt = (((A2 / 10)) / 10) := jdiv ex104 tx95 jz_10 (by omega) (by omega)
                refine lv_istore (lv' := [(5, .int x104), (4, .int 2), (0, .ref (ad 55)), (1, .int a1), (2, .int a2), (3, .int a3)]) hx hb dX12_rule_75 hl (by decide) rfl (fun ls hl => ?_)
                refine lv_goto (tgt := 44) hx hb dX12_rule_77 (by decide) ?_
                refine lv_iload hx hb dX12_rule_44 (lv_at hl 0 rfl) ?_
                refine lv_if_le (tgt := 80) hx hb dX12_rule_46 (by decide) (fun c105 => ?_) (fun c105 => ?_)
                · have kc105 := jle c105 tx104 jz_0
                  exact lp23 2 _ _ ls (by have h90 := jz_2; omega) (by have h90 := jz_2; omega)   ⟨(by unfold jRow; simp only [jDig, and_true]; omega), (show jDn 2 (A2) from by simp only [jDn]; omega)⟩ hP hS (lv_sub hl [2, 3, 4, 5, 1] rfl)
                · have kc105 := jnle c105 tx104 jz_0
                  refine lv_iload hx hb dX12_rule_49 (lv_at hl 0 rfl) ?_
                  refine lv_bipush (v := 10) hx hb dX12_rule_51 (by decide) ?_
                  refine lv_irem hx hb dX12_rule_53 (by decide) ?_
                  refine lv_topi (fun x106 ex106 => ?_)
                  have tx106 : x106.toInt = (((((A2 / 10)) / 10)) % 10) := jrem ex106 tx104 jz_10 (by omega)
                  refine lv_i2l (v := x106.toInt64) hx hb dX12_rule_54 rfl ?_
                  refine lv_lconst (v := 1) hx hb dX12_rule_55 (by decide) ?_
                  refine lv_ldc2 (v := 4) hx hb hown (hts _ kw_13_5) dX12_rule_56 ?_
                  refine jcallS (As := [.long x106.toInt64, .long 1, .long 4]) (rest := []) ⟨hx, hb, hml, hown, hts⟩ hK hP hA hS hZ (c_X12_within l D cI cL ad zz hJ σ τ x106.toInt64 ((((((A2 / 10)) / 10)) % 10)) (jtoL tx106) 1 (1) jzl_1 4 (4) jzl_4) cw_RX12_136 ⟨Nat.le_of_ble_eq_true rfl, Nat.le_of_ble_eq_true rfl⟩ rfl rfl rfl hl.1 rfl (Nat.le_of_ble_eq_true rfl) dX12_rule_59 ⟨Nat.zero_le _, Nat.zero_le _⟩ (fun r108 σ107 τ107 H locs h107 hP hS => ?_)
                  obtain ⟨⟨rfl, rfl⟩, h107⟩ := h107
                  rcases h107 with h109 | h110
                  · obtain ⟨q112, k111⟩ := h109
                    have q112 := q112.symm
                    subst q112
                    refine lv_if_ne (tgt := 67) hx hb dX12_rule_62 (by decide) (fun _ => ?_) (fun c => absurd c (by decide))
                    refine lv_iinc (v := 3) (lv' := [(4, .int 3), (5, .int x104), (0, .ref (ad 55)), (1, .int a1), (2, .int a2), (3, .int a3)]) hx hb dX12_rule_67 hl (k := 1) rfl (by decide) (by decide) rfl (fun ls hl => ?_)
                    refine lv_iload hx hb dX12_rule_70 (lv_at hl 1 rfl) ?_
                    refine lv_bipush (v := 10) hx hb dX12_rule_72 (by decide) ?_
                    refine lv_idiv hx hb dX12_rule_74 (by decide) ?_
                    refine lv_topi (fun x113 ex113 => ?_)
                    have tx113 : x113.toInt = (((((A2 / 10)) / 10)) / 10) := jdiv ex113 tx104 jz_10 (by omega) (by omega)
                    refine lv_istore (lv' := [(5, .int x113), (4, .int 3), (0, .ref (ad 55)), (1, .int a1), (2, .int a2), (3, .int a3)]) hx hb dX12_rule_75 hl (by decide) rfl (fun ls hl => ?_)
                    refine lv_goto (tgt := 44) hx hb dX12_rule_77 (by decide) ?_
                    refine lv_iload hx hb dX12_rule_44 (lv_at hl 0 rfl) ?_
                    refine lv_if_le (tgt := 80) hx hb dX12_rule_46 (by decide) (fun c114 => ?_) (fun c114 => ?_)
                    · have kc114 := jle c114 tx113 jz_0
                      exact lp23 3 _ _ ls (by have h90 := jz_3; omega) (by have h90 := jz_3; omega)   ⟨(by unfold jRow; simp only [jDig, and_true]; omega), (show jDn 3 (A2) from by simp only [jDn]; omega)⟩ hP hS (lv_sub hl [2, 3, 4, 5, 1] rfl)
                    · have kc114 := jnle c114 tx113 jz_0
                      refine lv_iload hx hb dX12_rule_49 (lv_at hl 0 rfl) ?_
                      refine lv_bipush (v := 10) hx hb dX12_rule_51 (by decide) ?_
                      refine lv_irem hx hb dX12_rule_53 (by decide) ?_
                      refine lv_topi (fun x115 ex115 => ?_)
                      have tx115 : x115.toInt = (((((((A2 / 10)) / 10)) / 10)) % 10) := jrem ex115 tx113 jz_10 (by omega)
                      refine lv_i2l (v := x115.toInt64) hx hb dX12_rule_54 rfl ?_
                      refine lv_lconst (v := 1) hx hb dX12_rule_55 (by decide) ?_
                      refine lv_ldc2 (v := 4) hx hb hown (hts _ kw_13_5) dX12_rule_56 ?_
                      refine jcallS (As := [.long x115.toInt64, .long 1, .long 4]) (rest := []) ⟨hx, hb, hml, hown, hts⟩ hK hP hA hS hZ (c_X12_within l D cI cL ad zz hJ σ τ x115.toInt64 ((((((((A2 / 10)) / 10)) / 10)) % 10)) (jtoL tx115) 1 (1) jzl_1 4 (4) jzl_4) cw_RX12_136 ⟨Nat.le_of_ble_eq_true rfl, Nat.le_of_ble_eq_true rfl⟩ rfl rfl rfl hl.1 rfl (Nat.le_of_ble_eq_true rfl) dX12_rule_59 ⟨Nat.zero_le _, Nat.zero_le _⟩ (fun r117 σ116 τ116 H locs h116 hP hS => ?_)
                      obtain ⟨⟨rfl, rfl⟩, h116⟩ := h116
                      rcases h116 with h118 | h119
                      · obtain ⟨q121, k120⟩ := h118
                        have q121 := q121.symm
                        subst q121
                        refine lv_if_ne (tgt := 67) hx hb dX12_rule_62 (by decide) (fun _ => ?_) (fun c => absurd c (by decide))
                        refine lv_iinc (v := 4) (lv' := [(4, .int 4), (5, .int x113), (0, .ref (ad 55)), (1, .int a1), (2, .int a2), (3, .int a3)]) hx hb dX12_rule_67 hl (k := 1) rfl (by decide) (by decide) rfl (fun ls hl => ?_)
                        refine lv_iload hx hb dX12_rule_70 (lv_at hl 1 rfl) ?_
                        refine lv_bipush (v := 10) hx hb dX12_rule_72 (by decide) ?_
                        refine lv_idiv hx hb dX12_rule_74 (by decide) ?_
                        refine lv_topi (fun x122 ex122 => ?_)
                        have tx122 : x122.toInt = (((((((A2 / 10)) / 10)) / 10)) / 10) := jdiv ex122 tx113 jz_10 (by omega) (by omega)
                        refine lv_istore (lv' := [(5, .int x122), (4, .int 4), (0, .ref (ad 55)), (1, .int a1), (2, .int a2), (3, .int a3)]) hx hb dX12_rule_75 hl (by decide) rfl (fun ls hl => ?_)
                        refine lv_goto (tgt := 44) hx hb dX12_rule_77 (by decide) ?_
                        refine lv_iload hx hb dX12_rule_44 (lv_at hl 0 rfl) ?_
                        refine lv_if_le (tgt := 80) hx hb dX12_rule_46 (by decide) (fun c123 => ?_) (fun c123 => ?_)
                        · have kc123 := jle c123 tx122 jz_0
                          exact lp23 4 _ _ ls (by have h90 := jz_4; omega) (by have h90 := jz_4; omega)   ⟨(by unfold jRow; simp only [jDig, and_true]; omega), (show jDn 4 (A2) from by simp only [jDn]; omega)⟩ hP hS (lv_sub hl [2, 3, 4, 5, 1] rfl)
                        · have kc123 := jnle c123 tx122 jz_0
                          refine lv_iload hx hb dX12_rule_49 (lv_at hl 0 rfl) ?_
                          refine lv_bipush (v := 10) hx hb dX12_rule_51 (by decide) ?_
                          refine lv_irem hx hb dX12_rule_53 (by decide) ?_
                          refine lv_topi (fun x124 ex124 => ?_)
                          have tx124 : x124.toInt = (((((((((A2 / 10)) / 10)) / 10)) / 10)) % 10) := jrem ex124 tx122 jz_10 (by omega)
                          refine lv_i2l (v := x124.toInt64) hx hb dX12_rule_54 rfl ?_
                          refine lv_lconst (v := 1) hx hb dX12_rule_55 (by decide) ?_
                          refine lv_ldc2 (v := 4) hx hb hown (hts _ kw_13_5) dX12_rule_56 ?_
                          refine jcallS (As := [.long x124.toInt64, .long 1, .long 4]) (rest := []) ⟨hx, hb, hml, hown, hts⟩ hK hP hA hS hZ (c_X12_within l D cI cL ad zz hJ σ τ x124.toInt64 ((((((((((A2 / 10)) / 10)) / 10)) / 10)) % 10)) (jtoL tx124) 1 (1) jzl_1 4 (4) jzl_4) cw_RX12_136 ⟨Nat.le_of_ble_eq_true rfl, Nat.le_of_ble_eq_true rfl⟩ rfl rfl rfl hl.1 rfl (Nat.le_of_ble_eq_true rfl) dX12_rule_59 ⟨Nat.zero_le _, Nat.zero_le _⟩ (fun r126 σ125 τ125 H locs h125 hP hS => ?_)
                          obtain ⟨⟨rfl, rfl⟩, h125⟩ := h125
                          rcases h125 with h127 | h128
                          · obtain ⟨q130, k129⟩ := h127
                            have q130 := q130.symm
                            subst q130
                            refine lv_if_ne (tgt := 67) hx hb dX12_rule_62 (by decide) (fun _ => ?_) (fun c => absurd c (by decide))
                            refine lv_iinc (v := 5) (lv' := [(4, .int 5), (5, .int x122), (0, .ref (ad 55)), (1, .int a1), (2, .int a2), (3, .int a3)]) hx hb dX12_rule_67 hl (k := 1) rfl (by decide) (by decide) rfl (fun ls hl => ?_)
                            refine lv_iload hx hb dX12_rule_70 (lv_at hl 1 rfl) ?_
                            refine lv_bipush (v := 10) hx hb dX12_rule_72 (by decide) ?_
                            refine lv_idiv hx hb dX12_rule_74 (by decide) ?_
                            refine lv_topi (fun x131 ex131 => ?_)
                            have tx131 : x131.toInt = (((((((((A2 / 10)) / 10)) / 10)) / 10)) / 10) := jdiv ex131 tx122 jz_10 (by omega) (by omega)
                            refine lv_istore (lv' := [(5, .int x131), (4, .int 5), (0, .ref (ad 55)), (1, .int a1), (2, .int a2), (3, .int a3)]) hx hb dX12_rule_75 hl (by decide) rfl (fun ls hl => ?_)
                            refine lv_goto (tgt := 44) hx hb dX12_rule_77 (by decide) ?_
                            refine lv_iload hx hb dX12_rule_44 (lv_at hl 0 rfl) ?_
                            refine lv_if_le (tgt := 80) hx hb dX12_rule_46 (by decide) (fun c132 => ?_) (fun c132 => ?_)
                            · have kc132 := jle c132 tx131 jz_0
                              exact lp23 5 _ _ ls (by have h90 := jz_5; omega) (by have h90 := jz_5; omega)   ⟨(by unfold jRow; simp only [jDig, and_true]; omega), (show jDn 5 (A2) from by simp only [jDn]; omega)⟩ hP hS (lv_sub hl [2, 3, 4, 5, 1] rfl)
                            · have kc132 := jnle c132 tx131 jz_0
                              refine lv_iload hx hb dX12_rule_49 (lv_at hl 0 rfl) ?_
                              refine lv_bipush (v := 10) hx hb dX12_rule_51 (by decide) ?_
                              refine lv_irem hx hb dX12_rule_53 (by decide) ?_
                              refine lv_topi (fun x133 ex133 => ?_)
                              have tx133 : x133.toInt = (((((((((((A2 / 10)) / 10)) / 10)) / 10)) / 10)) % 10) := jrem ex133 tx131 jz_10 (by omega)
                              refine lv_i2l (v := x133.toInt64) hx hb dX12_rule_54 rfl ?_
                              refine lv_lconst (v := 1) hx hb dX12_rule_55 (by decide) ?_
                              refine lv_ldc2 (v := 4) hx hb hown (hts _ kw_13_5) dX12_rule_56 ?_
                              refine jcallS (As := [.long x133.toInt64, .long 1, .long 4]) (rest := []) ⟨hx, hb, hml, hown, hts⟩ hK hP hA hS hZ (c_X12_within l D cI cL ad zz hJ σ τ x133.toInt64 ((((((((((((A2 / 10)) / 10)) / 10)) / 10)) / 10)) % 10)) (jtoL tx133) 1 (1) jzl_1 4 (4) jzl_4) cw_RX12_136 ⟨Nat.le_of_ble_eq_true rfl, Nat.le_of_ble_eq_true rfl⟩ rfl rfl rfl hl.1 rfl (Nat.le_of_ble_eq_true rfl) dX12_rule_59 ⟨Nat.zero_le _, Nat.zero_le _⟩ (fun r135 σ134 τ134 H locs h134 hP hS => ?_)
                              obtain ⟨⟨rfl, rfl⟩, h134⟩ := h134
                              rcases h134 with h136 | h137
                              · obtain ⟨q139, k138⟩ := h136
                                have q139 := q139.symm
                                subst q139
                                refine lv_if_ne (tgt := 67) hx hb dX12_rule_62 (by decide) (fun _ => ?_) (fun c => absurd c (by decide))
                                refine lv_iinc (v := 6) (lv' := [(4, .int 6), (5, .int x131), (0, .ref (ad 55)), (1, .int a1), (2, .int a2), (3, .int a3)]) hx hb dX12_rule_67 hl (k := 1) rfl (by decide) (by decide) rfl (fun ls hl => ?_)
                                refine lv_iload hx hb dX12_rule_70 (lv_at hl 1 rfl) ?_
                                refine lv_bipush (v := 10) hx hb dX12_rule_72 (by decide) ?_
                                refine lv_idiv hx hb dX12_rule_74 (by decide) ?_
                                refine lv_topi (fun x140 ex140 => ?_)
                                have tx140 : x140.toInt = (((((((((((A2 / 10)) / 10)) / 10)) / 10)) / 10)) / 10) := jdiv ex140 tx131 jz_10 (by omega) (by omega)
                                refine lv_istore (lv' := [(5, .int x140), (4, .int 6), (0, .ref (ad 55)), (1, .int a1), (2, .int a2), (3, .int a3)]) hx hb dX12_rule_75 hl (by decide) rfl (fun ls hl => ?_)
                                refine lv_goto (tgt := 44) hx hb dX12_rule_77 (by decide) ?_
                                refine lv_iload hx hb dX12_rule_44 (lv_at hl 0 rfl) ?_
                                refine lv_if_le (tgt := 80) hx hb dX12_rule_46 (by decide) (fun c141 => ?_) (fun c141 => ?_)
                                · have kc141 := jle c141 tx140 jz_0
                                  exact lp23 6 _ _ ls (by have h90 := jz_6; omega) (by have h90 := jz_6; omega)   ⟨(by unfold jRow; simp only [jDig, and_true]; omega), (show jDn 6 (A2) from by simp only [jDn]; omega)⟩ hP hS (lv_sub hl [2, 3, 4, 5, 1] rfl)
                                · have kc141 := jnle c141 tx140 jz_0
                                  refine lv_iload hx hb dX12_rule_49 (lv_at hl 0 rfl) ?_
                                  refine lv_bipush (v := 10) hx hb dX12_rule_51 (by decide) ?_
                                  refine lv_irem hx hb dX12_rule_53 (by decide) ?_
                                  refine lv_topi (fun x142 ex142 => ?_)
                                  have tx142 : x142.toInt = (((((((((((((A2 / 10)) / 10)) / 10)) / 10)) / 10)) / 10)) % 10) := jrem ex142 tx140 jz_10 (by omega)
                                  refine lv_i2l (v := x142.toInt64) hx hb dX12_rule_54 rfl ?_
                                  refine lv_lconst (v := 1) hx hb dX12_rule_55 (by decide) ?_
                                  refine lv_ldc2 (v := 4) hx hb hown (hts _ kw_13_5) dX12_rule_56 ?_
                                  refine jcallS (As := [.long x142.toInt64, .long 1, .long 4]) (rest := []) ⟨hx, hb, hml, hown, hts⟩ hK hP hA hS hZ (c_X12_within l D cI cL ad zz hJ σ τ x142.toInt64 ((((((((((((((A2 / 10)) / 10)) / 10)) / 10)) / 10)) / 10)) % 10)) (jtoL tx142) 1 (1) jzl_1 4 (4) jzl_4) cw_RX12_136 ⟨Nat.le_of_ble_eq_true rfl, Nat.le_of_ble_eq_true rfl⟩ rfl rfl rfl hl.1 rfl (Nat.le_of_ble_eq_true rfl) dX12_rule_59 ⟨Nat.zero_le _, Nat.zero_le _⟩ (fun r144 σ143 τ143 H locs h143 hP hS => ?_)
                                  obtain ⟨⟨rfl, rfl⟩, h143⟩ := h143
                                  rcases h143 with h145 | h146
                                  · obtain ⟨q148, k147⟩ := h145
                                    have q148 := q148.symm
                                    subst q148
                                    refine lv_if_ne (tgt := 67) hx hb dX12_rule_62 (by decide) (fun _ => ?_) (fun c => absurd c (by decide))
                                    refine lv_iinc (v := 7) (lv' := [(4, .int 7), (5, .int x140), (0, .ref (ad 55)), (1, .int a1), (2, .int a2), (3, .int a3)]) hx hb dX12_rule_67 hl (k := 1) rfl (by decide) (by decide) rfl (fun ls hl => ?_)
                                    refine lv_iload hx hb dX12_rule_70 (lv_at hl 1 rfl) ?_
                                    refine lv_bipush (v := 10) hx hb dX12_rule_72 (by decide) ?_
                                    refine lv_idiv hx hb dX12_rule_74 (by decide) ?_
                                    refine lv_topi (fun x149 ex149 => ?_)
                                    have tx149 : x149.toInt = (((((((((((((A2 / 10)) / 10)) / 10)) / 10)) / 10)) / 10)) / 10) := jdiv ex149 tx140 jz_10 (by omega) (by omega)
                                    refine lv_istore (lv' := [(5, .int x149), (4, .int 7), (0, .ref (ad 55)), (1, .int a1), (2, .int a2), (3, .int a3)]) hx hb dX12_rule_75 hl (by decide) rfl (fun ls hl => ?_)
                                    refine lv_goto (tgt := 44) hx hb dX12_rule_77 (by decide) ?_
                                    refine lv_iload hx hb dX12_rule_44 (lv_at hl 0 rfl) ?_
                                    refine lv_if_le (tgt := 80) hx hb dX12_rule_46 (by decide) (fun c150 => ?_) (fun c150 => ?_)
                                    · have kc150 := jle c150 tx149 jz_0
                                      exact lp23 7 _ _ ls (by have h90 := jz_7; omega) (by have h90 := jz_7; omega)   ⟨(by unfold jRow; simp only [jDig, and_true]; omega), (show jDn 7 (A2) from by simp only [jDn]; omega)⟩ hP hS (lv_sub hl [2, 3, 4, 5, 1] rfl)
                                    · have kc150 := jnle c150 tx149 jz_0
                                      refine lv_iload hx hb dX12_rule_49 (lv_at hl 0 rfl) ?_
                                      refine lv_bipush (v := 10) hx hb dX12_rule_51 (by decide) ?_
                                      refine lv_irem hx hb dX12_rule_53 (by decide) ?_
                                      refine lv_topi (fun x151 ex151 => ?_)
                                      have tx151 : x151.toInt = (((((((((((((((A2 / 10)) / 10)) / 10)) / 10)) / 10)) / 10)) / 10)) % 10) := jrem ex151 tx149 jz_10 (by omega)
                                      refine lv_i2l (v := x151.toInt64) hx hb dX12_rule_54 rfl ?_
                                      refine lv_lconst (v := 1) hx hb dX12_rule_55 (by decide) ?_
                                      refine lv_ldc2 (v := 4) hx hb hown (hts _ kw_13_5) dX12_rule_56 ?_
                                      refine jcallS (As := [.long x151.toInt64, .long 1, .long 4]) (rest := []) ⟨hx, hb, hml, hown, hts⟩ hK hP hA hS hZ (c_X12_within l D cI cL ad zz hJ σ τ x151.toInt64 ((((((((((((((((A2 / 10)) / 10)) / 10)) / 10)) / 10)) / 10)) / 10)) % 10)) (jtoL tx151) 1 (1) jzl_1 4 (4) jzl_4) cw_RX12_136 ⟨Nat.le_of_ble_eq_true rfl, Nat.le_of_ble_eq_true rfl⟩ rfl rfl rfl hl.1 rfl (Nat.le_of_ble_eq_true rfl) dX12_rule_59 ⟨Nat.zero_le _, Nat.zero_le _⟩ (fun r153 σ152 τ152 H locs h152 hP hS => ?_)
                                      obtain ⟨⟨rfl, rfl⟩, h152⟩ := h152
                                      rcases h152 with h154 | h155
                                      · obtain ⟨q157, k156⟩ := h154
                                        have q157 := q157.symm
                                        subst q157
                                        refine lv_if_ne (tgt := 67) hx hb dX12_rule_62 (by decide) (fun _ => ?_) (fun c => absurd c (by decide))
                                        refine lv_iinc (v := 8) (lv' := [(4, .int 8), (5, .int x149), (0, .ref (ad 55)), (1, .int a1), (2, .int a2), (3, .int a3)]) hx hb dX12_rule_67 hl (k := 1) rfl (by decide) (by decide) rfl (fun ls hl => ?_)
                                        refine lv_iload hx hb dX12_rule_70 (lv_at hl 1 rfl) ?_
                                        refine lv_bipush (v := 10) hx hb dX12_rule_72 (by decide) ?_
                                        refine lv_idiv hx hb dX12_rule_74 (by decide) ?_
                                        refine lv_topi (fun x158 ex158 => ?_)
                                        have tx158 : x158.toInt = (((((((((((((((A2 / 10)) / 10)) / 10)) / 10)) / 10)) / 10)) / 10)) / 10) := jdiv ex158 tx149 jz_10 (by omega) (by omega)
                                        refine lv_istore (lv' := [(5, .int x158), (4, .int 8), (0, .ref (ad 55)), (1, .int a1), (2, .int a2), (3, .int a3)]) hx hb dX12_rule_75 hl (by decide) rfl (fun ls hl => ?_)
                                        refine lv_goto (tgt := 44) hx hb dX12_rule_77 (by decide) ?_
                                        refine lv_iload hx hb dX12_rule_44 (lv_at hl 0 rfl) ?_
                                        refine lv_if_le (tgt := 80) hx hb dX12_rule_46 (by decide) (fun c159 => ?_) (fun c => absurd (jnle c tx158 jz_0) (by omega))
                                        have kc159 := jle c159 tx158 jz_0
                                        exact lp23 8 _ _ ls (by have h90 := jz_8; omega) (by have h90 := jz_8; omega)   ⟨(by unfold jRow; simp only [jDig, and_true]; omega), (show jDn 8 (A2) from by simp only [jDn]; omega)⟩ hP hS (lv_sub hl [2, 3, 4, 5, 1] rfl)
                                      · obtain ⟨q161, k160⟩ := h155
                                        exact absurd (by omega : False) id
                                  · obtain ⟨q163, k162⟩ := h146
                                    have q163 := q163.symm
                                    subst q163
                                    refine lv_if_ne (tgt := 67) hx hb dX12_rule_62 (by decide) (fun c => absurd (by decide) c) (fun _ => ?_)
                                    refine lv_iconst (v := (-1)) hx hb dX12_rule_65 (by decide) ?_
                                    exact hret (-1) σ τ _ _ _ _ rfl ⟨rfl, (fun _ _ => rfl), (fun _ _ => rfl), hI106, Or.inl ⟨rfl, (by have h9 := jz_m1; omega), (fun h => by unfold jRow at h; simp only [jDig, and_true] at h; omega), rfl⟩⟩ hP hS dX12_rule_66
                              · obtain ⟨q165, k164⟩ := h137
                                have q165 := q165.symm
                                subst q165
                                refine lv_if_ne (tgt := 67) hx hb dX12_rule_62 (by decide) (fun c => absurd (by decide) c) (fun _ => ?_)
                                refine lv_iconst (v := (-1)) hx hb dX12_rule_65 (by decide) ?_
                                exact hret (-1) σ τ _ _ _ _ rfl ⟨rfl, (fun _ _ => rfl), (fun _ _ => rfl), hI106, Or.inl ⟨rfl, (by have h9 := jz_m1; omega), (fun h => by unfold jRow at h; simp only [jDig, and_true] at h; omega), rfl⟩⟩ hP hS dX12_rule_66
                          · obtain ⟨q167, k166⟩ := h128
                            have q167 := q167.symm
                            subst q167
                            refine lv_if_ne (tgt := 67) hx hb dX12_rule_62 (by decide) (fun c => absurd (by decide) c) (fun _ => ?_)
                            refine lv_iconst (v := (-1)) hx hb dX12_rule_65 (by decide) ?_
                            exact hret (-1) σ τ _ _ _ _ rfl ⟨rfl, (fun _ _ => rfl), (fun _ _ => rfl), hI106, Or.inl ⟨rfl, (by have h9 := jz_m1; omega), (fun h => by unfold jRow at h; simp only [jDig, and_true] at h; omega), rfl⟩⟩ hP hS dX12_rule_66
                      · obtain ⟨q169, k168⟩ := h119
                        have q169 := q169.symm
                        subst q169
                        refine lv_if_ne (tgt := 67) hx hb dX12_rule_62 (by decide) (fun c => absurd (by decide) c) (fun _ => ?_)
                        refine lv_iconst (v := (-1)) hx hb dX12_rule_65 (by decide) ?_
                        exact hret (-1) σ τ _ _ _ _ rfl ⟨rfl, (fun _ _ => rfl), (fun _ _ => rfl), hI106, Or.inl ⟨rfl, (by have h9 := jz_m1; omega), (fun h => by unfold jRow at h; simp only [jDig, and_true] at h; omega), rfl⟩⟩ hP hS dX12_rule_66
                  · obtain ⟨q171, k170⟩ := h110
                    have q171 := q171.symm
                    subst q171
                    refine lv_if_ne (tgt := 67) hx hb dX12_rule_62 (by decide) (fun c => absurd (by decide) c) (fun _ => ?_)
                    refine lv_iconst (v := (-1)) hx hb dX12_rule_65 (by decide) ?_
                    exact hret (-1) σ τ _ _ _ _ rfl ⟨rfl, (fun _ _ => rfl), (fun _ _ => rfl), hI106, Or.inl ⟨rfl, (by have h9 := jz_m1; omega), (fun h => by unfold jRow at h; simp only [jDig, and_true] at h; omega), rfl⟩⟩ hP hS dX12_rule_66
              · obtain ⟨q173, k172⟩ := h101
                have q173 := q173.symm
                subst q173
                refine lv_if_ne (tgt := 67) hx hb dX12_rule_62 (by decide) (fun c => absurd (by decide) c) (fun _ => ?_)
                refine lv_iconst (v := (-1)) hx hb dX12_rule_65 (by decide) ?_
                exact hret (-1) σ τ _ _ _ _ rfl ⟨rfl, (fun _ _ => rfl), (fun _ _ => rfl), hI106, Or.inl ⟨rfl, (by have h9 := jz_m1; omega), (fun h => by unfold jRow at h; simp only [jDig, and_true] at h; omega), rfl⟩⟩ hP hS dX12_rule_66
          · obtain ⟨q175, k174⟩ := h92
            have q175 := q175.symm
            subst q175
            refine lv_if_ne (tgt := 67) hx hb dX12_rule_62 (by decide) (fun c => absurd (by decide) c) (fun _ => ?_)
            refine lv_iconst (v := (-1)) hx hb dX12_rule_65 (by decide) ?_
            exact hret (-1) σ τ _ _ _ _ rfl ⟨rfl, (fun _ _ => rfl), (fun _ _ => rfl), hI106, Or.inl ⟨rfl, (by have h9 := jz_m1; omega), (fun h => by unfold jRow at h; simp only [jDig, and_true] at h; omega), rfl⟩⟩ hP hS dX12_rule_66
      · obtain ⟨q177, k176⟩ := h20
        have q177 := q177.symm
        subst q177
        refine lv_if_ne (tgt := 38) hx hb dX12_rule_33 (by decide) (fun c => absurd (by decide) c) (fun _ => ?_)
        refine lv_iconst (v := (-1)) hx hb dX12_rule_36 (by decide) ?_
        exact hret (-1) σ τ _ _ _ _ rfl ⟨rfl, (fun _ _ => rfl), (fun _ _ => rfl), hI106, Or.inl ⟨rfl, (by have h9 := jz_m1; omega), (fun h => by unfold jRow at h; simp only [jDig, and_true] at h; omega), rfl⟩⟩ hP hS dX12_rule_37
    · obtain ⟨q179, k178⟩ := h14
      have q179 := q179.symm
      subst q179
      refine lv_if_eq (tgt := 36) hx hb dX12_rule_21 (by decide) (fun _ => ?_) (fun c => absurd (by decide) c)
      refine lv_iconst (v := (-1)) hx hb dX12_rule_36 (by decide) ?_
      exact hret (-1) σ τ _ _ _ _ rfl ⟨rfl, (fun _ _ => rfl), (fun _ _ => rfl), hI106, Or.inl ⟨rfl, (by have h9 := jz_m1; omega), (fun h => by unfold jRow at h; simp only [jDig, and_true] at h; omega), rfl⟩⟩ hP hS dX12_rule_37
  · obtain ⟨q181, k180⟩ := h8
    have q181 := q181.symm
    subst q181
    refine lv_if_eq (tgt := 36) hx hb dX12_rule_9 (by decide) (fun _ => ?_) (fun c => absurd (by decide) c)
    refine lv_iconst (v := (-1)) hx hb dX12_rule_36 (by decide) ?_
    exact hret (-1) σ τ _ _ _ _ rfl ⟨rfl, (fun _ _ => rfl), (fun _ _ => rfl), hI106, Or.inl ⟨rfl, (by have h9 := jz_m1; omega), (fun h => by unfold jRow at h; simp only [jDig, and_true] at h; omega), rfl⟩⟩ hP hS dX12_rule_37
set_option maxHeartbeats 4000000 in
set_option maxRecDepth 100000 in
theorem c_X12_puts (l : Launch) (D : va_G) (cI cL : ClassId) (ad zz : Nat → Nat) (hJ : jD ad) (σ : Nat → Nat → Int32) (τ : Nat → Nat → Int64) (a1 : Int32) (A1 : Int) (t1 : a1.toInt = A1) (hI101 : jI101 σ) (hI102 : jI102 σ) (hI103 : jI103 σ) (hI104 : jI104 σ) (hI105 : jI105 σ) (hI106 : jI106 σ) (hI107 : jI107 σ) (hI119 : jI119 σ) (hs_jKept : jKept σ) (hs_jBook : jBook σ) : jM l yX12_puts cX12_puts 2 (some .int) ({ frames := 104, cells := 0, slots := 0, locals := 5087 }) D cI cL ad zz [.ref (ad 55), .int a1] σ τ (fun r σ' τ' => τ = τ' ∧ (∀ i : Nat, (i < 55 ∨ 55 < i) ∧ (i < 66 ∨ 66 < i) ∧ (i < 68 ∨ 69 < i) ∧ (i < 74 ∨ 78 < i) → σ' i = σ i) ∧ (∀ k : Nat, (k < 18 ∨ 18 < k) ∧ (k < 19 ∨ 19 < k) ∧ (k < 20 ∨ 20 < k) ∧ (k < 21 ∨ 21 < k) ∧ (k < 22 ∨ 22 < k) ∧ (k < 25 ∨ 25 < k) ∧ (k < 26 ∨ 26 < k) ∧ (k < 27 ∨ 27 < k) ∧ (k < 37 ∨ 37 < k) ∧ (k < 42 ∨ 42 < k) → σ' 55 k = σ 55 k) ∧ (jI119 σ') ∧ (jKept σ') ∧ (jBook σ') ∧ True) := by
  refine jM.of hJ (by decide +kernel) (nt := .int) rfl (Nat.le_of_ble_eq_true rfl) ?_
  intro p e s m args below meth c Q ls hC hret hl hP
  obtain ⟨hx, hb, hr, hml, hown, hts, hK, -, hlocks, hZ⟩ := hC
  have hown : s.vm.findClass RX12 = some m.cls := hown
  have hS : va_S (jA ad) s.heap s.heap [] := va_S.rf
  have hA : ∀ q, jA ad q → jA ad q := fun _ h => h
  have hl : lv_has ls 2 [(0, .ref (ad 55)), (1, .int a1)] := hl
  have g1 := jrg t1
  obtain ⟨i1, w2, w3⟩ : (0 ≤ (σ 55 6).toInt ∧ (σ 55 6).toInt ≤ 4) ∧ (∀ k : Nat, k < 4 → 0 ≤ (σ 60 k).toInt ∧ (σ 60 k).toInt ≤ 50) ∧ (∀ k : Nat, k < 4 → 0 ≤ (σ 61 k).toInt ∧ (σ 61 k).toInt ≤ 20) := id hI102
  obtain ⟨i4, i5, i6, w7, w8⟩ : (1 ≤ (σ 55 10).toInt ∧ (σ 55 10).toInt ≤ 8) ∧ (1 ≤ (σ 55 12).toInt ∧ (σ 55 12).toInt ≤ 12) ∧ (0 ≤ (σ 55 13).toInt ∧ (σ 55 13).toInt ≤ 999) ∧ (∀ k : Nat, k < 8 → 0 ≤ (σ 62 k).toInt ∧ (σ 62 k).toInt ≤ 3) ∧ (∀ k : Nat, k < 8 → 0 ≤ (σ 67 k).toInt ∧ (σ 67 k).toInt ≤ 3) := id hI104
  obtain ⟨i9, w10, w11, w12⟩ : (0 ≤ (σ 55 32).toInt ∧ (σ 55 32).toInt ≤ 20) ∧ (∀ k : Nat, k < 20 → 0 ≤ (σ 70 k).toInt ∧ (σ 70 k).toInt ≤ 6) ∧ (∀ k : Nat, k < 20 → 0 ≤ (σ 71 k).toInt ∧ (σ 71 k).toInt ≤ 8) ∧ (∀ k : Nat, k < 160 → 0 ≤ (σ 72 k).toInt ∧ (σ 72 k).toInt ≤ 3) := id hI106
  obtain ⟨i13, i14, w15⟩ : (0 ≤ (σ 55 47).toInt ∧ (σ 55 47).toInt ≤ 12) ∧ ((σ 55 47).toInt ≤ (σ 55 12).toInt) ∧ (∀ k : Nat, k < 12 → 0 ≤ (σ 80 k).toInt ∧ (σ 80 k).toInt ≤ 3) := id hI107
  refine lv_aload_n hx hb dX12_puts_0 rfl (lv_at hl 0 rfl) ?_
  refine lv_iload_n hx hb dX12_puts_1 rfl (lv_at hl 1 rfl) ?_
  refine jcallV (As := [.int a1]) (rest := []) ⟨hx, hb, hml, hown, hts⟩ hK hP hA hS hZ (c_X12_isRule l D cI cL ad zz hJ σ τ a1 (A1) t1 hI106) cw_RX12_331 (jc_55 cI cL ad σ τ) rfl ⟨Nat.le_of_ble_eq_true rfl, Nat.le_of_ble_eq_true rfl⟩ rfl rfl rfl hl.1 rfl (Nat.le_of_ble_eq_true rfl) dX12_puts_2 ⟨Nat.zero_le _, Nat.zero_le _⟩ (fun r17 σ16 τ16 H locs h16 hP hS => ?_)
  obtain ⟨⟨rfl, rfl⟩, h16⟩ := h16
  rcases h16 with h18 | h19
  · obtain ⟨q21, k20⟩ := h18
    have q21 := q21.symm
    subst q21
    refine lv_if_ne (tgt := 10) hx hb dX12_puts_5 (by decide) (fun _ => ?_) (fun c => absurd c (by decide))
    refine lv_aload_n hx hb dX12_puts_10 rfl (lv_at hl 0 rfl) ?_
    refine lv_aload_n hx hb dX12_puts_11 rfl (lv_at hl 0 rfl) ?_
    refine va_get (D := D) hx hb hts inlX12 hown hK hP 55 (jc_55 cI cL ad σ τ) rfl 47 (by decide) (hts _ kw_15_15) (fun _ h9 => h9) rfl dX12_puts_12 ?_
    have w22 : ∀ k : Nat, k < 4 → 0 ≤ (σ 68 k).toInt ∧ (σ 68 k).toInt ≤ 3 := hI119
    refine jcallVv (As := [.int (σ 55 47)]) (rest := []) ⟨hx, hb, hml, hown, hts⟩ hK hP hA hS hZ (c_X12_goThroughBook l D cI cL ad zz hJ σ τ (σ 55 47) ((σ 55 47).toInt) rfl hI102 hI104 hI107 w22 hs_jBook (by omega) (by omega)) cw_RX12_334 (jc_55 cI cL ad σ τ) rfl ⟨Nat.le_of_ble_eq_true rfl, Nat.le_of_ble_eq_true rfl⟩ rfl rfl rfl hl.1 rfl (Nat.le_of_ble_eq_true rfl) dX12_puts_15 ⟨Nat.zero_le _, Nat.zero_le _⟩ (fun σ23 τ23 H locs h23 hP hS => ?_)
    obtain ⟨rfl, f25, f26, I27, p28, h23⟩ := h23
    obtain ⟨i29, i30, i31, i32, i33, w34⟩ : (0 ≤ (σ23 55 25).toInt) ∧ ((σ23 55 25).toInt ≤ (σ23 55 10).toInt) ∧ (0 ≤ (σ23 55 26).toInt) ∧ ((σ23 55 26).toInt ≤ (σ23 55 12).toInt) ∧ ((-1) ≤ (σ23 55 27).toInt ∧ (σ23 55 27).toInt ≤ 3) ∧ (∀ k : Nat, k < 4 → 0 ≤ (σ23 68 k).toInt ∧ (σ23 68 k).toInt ≤ 3) := id I27
    have z35 : (σ23 55 10).toInt = (σ 55 10).toInt := (congrArg Int32.toInt (show σ23 55 10 = (σ 55 10) from (f26 10 (by decide))))
    have z36 : (σ23 55 12).toInt = (σ 55 12).toInt := (congrArg Int32.toInt (show σ23 55 12 = (σ 55 12) from (f26 12 (by decide))))
    obtain ⟨k37, k38, k39, h23⟩ := h23
    refine lv_aload_n hx hb dX12_puts_18 rfl (lv_at hl 0 rfl) ?_
    refine va_get (D := D) hx hb hts inlX12 hown hK hP 55 (jc_55 cI cL ad σ23 τ) rfl 33 (by decide) (hts _ kw_7_18) (fun _ h9 => h9) rfl dX12_puts_19 ?_
    refine lv_iload_n hx hb dX12_puts_22 rfl (lv_at hl 1 rfl) ?_
    refine jald hx hb hK hP (jc_70 cI cL ad σ23 τ) (jin t1 (by omega) (by omega)) dX12_puts_23 ?_
    have w40 : ∀ k : Nat, k < 20 → 0 ≤ (σ23 70 k).toInt ∧ (σ23 70 k).toInt ≤ 6 := (jrr_fr (f25 70 (by decide)) w10)
    have g41 := w40 _ (jnat (x := a1) t1 (n := 20) (by omega) (by decide))
    refine jtopr (y := (σ 70 a1.toNatClampNeg)) (by rw [f25 70 (by decide)]) ?_
    rw [f25 70 (by decide)] at g41
    refine lv_iconst (v := 2) hx hb dX12_puts_24 (by decide) ?_
    refine lv_icmp_ne (tgt := 38) hx hb dX12_puts_25 (by decide) (fun c42 => ?_) (fun c42 => ?_)
    · have kc42 := jne c42 rfl jz_2
      refine lv_aload_n hx hb dX12_puts_38 rfl (lv_at hl 0 rfl) ?_
      have I43 : jI102 σ23 := jI102_fr (f26 6 (by decide)) (f25 60 (by decide)) (f25 61 (by decide)) hI102
      have I44 : jI104 σ23 := jI104_fr (f26 10 (by decide)) (f26 12 (by decide)) (f26 13 (by decide)) (f25 62 (by decide)) (f25 67 (by decide)) hI104
      refine jcallV (As := []) (rest := []) ⟨hx, hb, hml, hown, hts⟩ hK hP hA hS hZ (c_X12_isEnded l D cI cL ad zz hJ σ23 τ I43 I44 I27) cw_RX12_307 (jc_55 cI cL ad σ23 τ) rfl ⟨Nat.le_of_ble_eq_true rfl, Nat.le_of_ble_eq_true rfl⟩ rfl rfl rfl hl.1 rfl (Nat.le_of_ble_eq_true rfl) dX12_puts_39 ⟨Nat.zero_le _, Nat.zero_le _⟩ (fun r46 σ45 τ45 H locs h45 hP hS => ?_)
      obtain ⟨⟨rfl, rfl⟩, h45⟩ := h45
      rcases h45 with h47 | h48
      · obtain ⟨q50, k49⟩ := h47
        have q50 := q50.symm
        subst q50
        refine lv_if_eq (tgt := 48) hx hb dX12_puts_42 (by decide) (fun c => absurd c (by decide)) (fun _ => ?_)
        refine lv_bipush (v := (-2)) hx hb dX12_puts_45 (by decide) ?_
        have I51 : jI119 σ23 := w34
        have p52 : jKept σ23 := jKept.fr (f25 75 (by decide)) (f25 76 (by decide)) (f25 77 (by decide)) hs_jKept
        exact hret (-2) σ23 τ _ _ _ _ rfl ⟨rfl, (fun i hi => (f25 i (imp_255 i hi))), (fun i hi => (f26 i (imp_256 i hi))), I51, p52, p28, trivial⟩ hP hS dX12_puts_47
      · obtain ⟨q56, k53, k54, k55⟩ := h48
        have q56 := q56.symm
        subst q56
        obtain ⟨B57, k58, k59, w60⟩ := k55
        have z61 : (σ23 55 6).toInt = (σ 55 6).toInt := (congrArg Int32.toInt (show σ23 55 6 = (σ 55 6) from (f26 6 (by decide))))
        refine lv_if_eq (tgt := 48) hx hb dX12_puts_42 (by decide) (fun _ => ?_) (fun c => absurd (by decide) c)
        refine lv_aload_n hx hb dX12_puts_48 rfl (lv_at hl 0 rfl) ?_
        refine jcallVv (As := []) (rest := []) ⟨hx, hb, hml, hown, hts⟩ hK hP hA hS hZ (c_X12_forgets l D cI cL ad zz hJ σ23 τ) cw_RX12_341 (jc_55 cI cL ad σ23 τ) rfl ⟨Nat.le_of_ble_eq_true rfl, Nat.le_of_ble_eq_true rfl⟩ rfl rfl rfl hl.1 rfl (Nat.le_of_ble_eq_true rfl) dX12_puts_49 ⟨Nat.zero_le _, Nat.zero_le _⟩ (fun σ62 τ62 H locs h62 hP hS => ?_)
        obtain ⟨rfl, f64, f65, h62⟩ := h62
        refine lv_aload_n hx hb dX12_puts_52 rfl (lv_at hl 0 rfl) ?_
        refine lv_iload_n hx hb dX12_puts_53 rfl (lv_at hl 1 rfl) ?_
        have p66 : jmb σ62 B57 = 1 := (jmb_fr (f65 27 (by decide)) (f65 30 (by decide)) (f65 31 (by decide)) (f64 56 (by decide)) (f64 69 (by decide)) B57).trans w60
        have I67 : jI101 σ62 := jI101_fr ((f65 4 (by decide)).trans (f26 4 (by decide))) ((f65 5 (by decide)).trans (f26 5 (by decide))) ((f64 56 (by decide)).trans (f25 56 (by decide))) ((f64 57 (by decide)).trans (f25 57 (by decide))) ((f64 58 (by decide)).trans (f25 58 (by decide))) ((f64 59 (by decide)).trans (f25 59 (by decide))) hI101
        have I68 : jI102 σ62 := jI102_fr (f65 6 (by decide)) (f64 60 (by decide)) (f64 61 (by decide)) I43
        have I69 : jI103 σ62 := jI103_fr ((f65 9 (by decide)).trans (f26 9 (by decide))) hI103
        have I70 : jI104 σ62 := jI104_fr (f65 10 (by decide)) (f65 12 (by decide)) (f65 13 (by decide)) (f64 62 (by decide)) (f64 67 (by decide)) I44
        have I71 : jI105 σ62 := jI105_fr ((f65 15 (by decide)).trans (f26 15 (by decide))) ((f64 65 (by decide)).trans (f25 65 (by decide))) hI105
        have I72 : jI106 σ62 := jI106_fr ((f65 32 (by decide)).trans (f26 32 (by decide))) ((f64 70 (by decide)).trans (f25 70 (by decide))) ((f64 71 (by decide)).trans (f25 71 (by decide))) ((f64 72 (by decide)).trans (f25 72 (by decide))) hI106
        have I73 : jI120 σ62 := jI120_fr (f65 10 (by decide)) (f65 12 (by decide)) (f65 25 (by decide)) (f65 26 (by decide)) (f65 27 (by decide)) (f64 68 (by decide)) I27
        have p74 : jKept σ62 := jKept.fr ((f64 75 (by decide)).trans (f25 75 (by decide))) ((f64 76 (by decide)).trans (f25 76 (by decide))) ((f64 77 (by decide)).trans (f25 77 (by decide))) hs_jKept
        have z75 : (σ62 70 a1.toNatClampNeg).toInt = (σ 70 a1.toNatClampNeg).toInt := by rw [f64 70 (by decide), f25 70 (by decide)]
        have z76 : (σ62 55 6).toInt = (σ 55 6).toInt := (congrArg Int32.toInt (show σ62 55 6 = (σ 55 6) from ((f65 6 (by decide)).trans (f26 6 (by decide)))))
        have z77 : (σ62 55 25).toInt = (σ23 55 25).toInt := (congrArg Int32.toInt (show σ62 55 25 = (σ23 55 25) from (f65 25 (by decide))))
        have z78 : (σ62 55 10).toInt = (σ 55 10).toInt := (congrArg Int32.toInt (show σ62 55 10 = (σ 55 10) from ((f65 10 (by decide)).trans (f26 10 (by decide)))))
        have z79 : (σ62 55 26).toInt = (σ23 55 26).toInt := (congrArg Int32.toInt (show σ62 55 26 = (σ23 55 26) from (f65 26 (by decide))))
        have z80 : (σ62 55 12).toInt = (σ 55 12).toInt := (congrArg Int32.toInt (show σ62 55 12 = (σ 55 12) from ((f65 12 (by decide)).trans (f26 12 (by decide)))))
        refine jcallV (As := [.int a1]) (rest := []) ⟨hx, hb, hml, hown, hts⟩ hK hP hA hS hZ (c_X12_putsOn l D cI cL ad zz hJ σ62 τ B57 p66 a1 (A1) t1 I67 I68 I69 I70 I71 I72 I73 p74 (by omega) (by omega) (by omega) (by omega) (by omega)) cw_RX12_321 (jc_55 cI cL ad σ62 τ) rfl ⟨Nat.le_of_ble_eq_true rfl, Nat.le_of_ble_eq_true rfl⟩ rfl rfl rfl hl.1 rfl (Nat.le_of_ble_eq_true rfl) dX12_puts_54 ⟨Nat.zero_le _, Nat.zero_le _⟩ (fun r82 σ81 τ81 H locs h81 hP hS => ?_)
        obtain ⟨rfl, f83, f84, p85, h81⟩ := h81
        have h86 := h81
        obtain ⟨q88, k87⟩ := h86
        have w89 : ∀ k : Nat, k < 4 → 0 ≤ (σ81 68 k).toInt ∧ (σ81 68 k).toInt ≤ 3 := (jrr_fr (f83 68 (by decide)) (jrr_fr (f64 68 (by decide)) w34))
        have I90 : jI119 σ81 := w89
        have p91 : jBook σ81 := jBook.fr ((f84 47 (by decide)).trans (f65 47 (by decide))) ((f84 10 (by decide)).trans (f65 10 (by decide))) ((f83 81 (by decide)).trans (f64 81 (by decide))) p28
        exact hret r82 σ81 τ _ _ _ _ rfl ⟨rfl, (fun i hi => ((f83 i (imp_257 i hi)).trans ((f64 i (imp_258 i hi)).trans (f25 i (imp_255 i hi))))), (fun i hi => ((f84 i (imp_259 i hi)).trans ((f65 i (imp_260 i hi)).trans (f26 i (imp_256 i hi))))), I90, p85, p91, trivial⟩ hP hS dX12_puts_57
    · have kc42 := jeq c42 rfl jz_2
      refine lv_aload_n hx hb dX12_puts_28 rfl (lv_at hl 0 rfl) ?_
      have I92 : jI104 σ23 := jI104_fr (f26 10 (by decide)) (f26 12 (by decide)) (f26 13 (by decide)) (f25 62 (by decide)) (f25 67 (by decide)) hI104
      refine jcallV (As := []) (rest := []) ⟨hx, hb, hml, hown, hts⟩ hK hP hA hS hZ (c_X12_isBig l D cI cL ad zz hJ σ23 τ I92 (by omega)) cw_RX12_338 (jc_55 cI cL ad σ23 τ) rfl ⟨Nat.le_of_ble_eq_true rfl, Nat.le_of_ble_eq_true rfl⟩ rfl rfl rfl hl.1 rfl (Nat.le_of_ble_eq_true rfl) dX12_puts_29 ⟨Nat.zero_le _, Nat.zero_le _⟩ (fun r94 σ93 τ93 H locs h93 hP hS => ?_)
      obtain ⟨⟨rfl, rfl⟩, h93⟩ := h93
      rcases h93 with h95 | h96
      · obtain ⟨q98, k97⟩ := h95
        have q98 := q98.symm
        subst q98
        refine lv_if_eq (tgt := 38) hx hb dX12_puts_32 (by decide) (fun c => absurd c (by decide)) (fun _ => ?_)
        refine lv_bipush (v := (-4)) hx hb dX12_puts_35 (by decide) ?_
        have I99 : jI119 σ23 := w34
        have p100 : jKept σ23 := jKept.fr (f25 75 (by decide)) (f25 76 (by decide)) (f25 77 (by decide)) hs_jKept
        exact hret (-4) σ23 τ _ _ _ _ rfl ⟨rfl, (fun i hi => (f25 i (imp_255 i hi))), (fun i hi => (f26 i (imp_256 i hi))), I99, p100, p28, trivial⟩ hP hS dX12_puts_37
      · obtain ⟨q102, k101⟩ := h96
        have q102 := q102.symm
        subst q102
        refine lv_if_eq (tgt := 38) hx hb dX12_puts_32 (by decide) (fun _ => ?_) (fun c => absurd (by decide) c)
        refine lv_aload_n hx hb dX12_puts_38 rfl (lv_at hl 0 rfl) ?_
        have I103 : jI102 σ23 := jI102_fr (f26 6 (by decide)) (f25 60 (by decide)) (f25 61 (by decide)) hI102
        refine jcallV (As := []) (rest := []) ⟨hx, hb, hml, hown, hts⟩ hK hP hA hS hZ (c_X12_isEnded l D cI cL ad zz hJ σ23 τ I103 I92 I27) cw_RX12_307 (jc_55 cI cL ad σ23 τ) rfl ⟨Nat.le_of_ble_eq_true rfl, Nat.le_of_ble_eq_true rfl⟩ rfl rfl rfl hl.1 rfl (Nat.le_of_ble_eq_true rfl) dX12_puts_39 ⟨Nat.zero_le _, Nat.zero_le _⟩ (fun r105 σ104 τ104 H locs h104 hP hS => ?_)
        obtain ⟨⟨rfl, rfl⟩, h104⟩ := h104
        rcases h104 with h106 | h107
        · obtain ⟨q109, k108⟩ := h106
          have q109 := q109.symm
          subst q109
          refine lv_if_eq (tgt := 48) hx hb dX12_puts_42 (by decide) (fun c => absurd c (by decide)) (fun _ => ?_)
          refine lv_bipush (v := (-2)) hx hb dX12_puts_45 (by decide) ?_
          have I110 : jI119 σ23 := w34
          have p111 : jKept σ23 := jKept.fr (f25 75 (by decide)) (f25 76 (by decide)) (f25 77 (by decide)) hs_jKept
          exact hret (-2) σ23 τ _ _ _ _ rfl ⟨rfl, (fun i hi => (f25 i (imp_255 i hi))), (fun i hi => (f26 i (imp_256 i hi))), I110, p111, p28, trivial⟩ hP hS dX12_puts_47
        · obtain ⟨q115, k112, k113, k114⟩ := h107
          have q115 := q115.symm
          subst q115
          obtain ⟨B116, k117, k118, w119⟩ := k114
          have z120 : (σ23 55 6).toInt = (σ 55 6).toInt := (congrArg Int32.toInt (show σ23 55 6 = (σ 55 6) from (f26 6 (by decide))))
          refine lv_if_eq (tgt := 48) hx hb dX12_puts_42 (by decide) (fun _ => ?_) (fun c => absurd (by decide) c)
          refine lv_aload_n hx hb dX12_puts_48 rfl (lv_at hl 0 rfl) ?_
          refine jcallVv (As := []) (rest := []) ⟨hx, hb, hml, hown, hts⟩ hK hP hA hS hZ (c_X12_forgets l D cI cL ad zz hJ σ23 τ) cw_RX12_341 (jc_55 cI cL ad σ23 τ) rfl ⟨Nat.le_of_ble_eq_true rfl, Nat.le_of_ble_eq_true rfl⟩ rfl rfl rfl hl.1 rfl (Nat.le_of_ble_eq_true rfl) dX12_puts_49 ⟨Nat.zero_le _, Nat.zero_le _⟩ (fun σ121 τ121 H locs h121 hP hS => ?_)
          obtain ⟨rfl, f123, f124, h121⟩ := h121
          refine lv_aload_n hx hb dX12_puts_52 rfl (lv_at hl 0 rfl) ?_
          refine lv_iload_n hx hb dX12_puts_53 rfl (lv_at hl 1 rfl) ?_
          have p125 : jmb σ121 B116 = 1 := (jmb_fr (f124 27 (by decide)) (f124 30 (by decide)) (f124 31 (by decide)) (f123 56 (by decide)) (f123 69 (by decide)) B116).trans w119
          have I126 : jI101 σ121 := jI101_fr ((f124 4 (by decide)).trans (f26 4 (by decide))) ((f124 5 (by decide)).trans (f26 5 (by decide))) ((f123 56 (by decide)).trans (f25 56 (by decide))) ((f123 57 (by decide)).trans (f25 57 (by decide))) ((f123 58 (by decide)).trans (f25 58 (by decide))) ((f123 59 (by decide)).trans (f25 59 (by decide))) hI101
          have I127 : jI102 σ121 := jI102_fr (f124 6 (by decide)) (f123 60 (by decide)) (f123 61 (by decide)) I103
          have I128 : jI103 σ121 := jI103_fr ((f124 9 (by decide)).trans (f26 9 (by decide))) hI103
          have I129 : jI104 σ121 := jI104_fr (f124 10 (by decide)) (f124 12 (by decide)) (f124 13 (by decide)) (f123 62 (by decide)) (f123 67 (by decide)) I92
          have I130 : jI105 σ121 := jI105_fr ((f124 15 (by decide)).trans (f26 15 (by decide))) ((f123 65 (by decide)).trans (f25 65 (by decide))) hI105
          have I131 : jI106 σ121 := jI106_fr ((f124 32 (by decide)).trans (f26 32 (by decide))) ((f123 70 (by decide)).trans (f25 70 (by decide))) ((f123 71 (by decide)).trans (f25 71 (by decide))) ((f123 72 (by decide)).trans (f25 72 (by decide))) hI106
          have I132 : jI120 σ121 := jI120_fr (f124 10 (by decide)) (f124 12 (by decide)) (f124 25 (by decide)) (f124 26 (by decide)) (f124 27 (by decide)) (f123 68 (by decide)) I27
          have p133 : jKept σ121 := jKept.fr ((f123 75 (by decide)).trans (f25 75 (by decide))) ((f123 76 (by decide)).trans (f25 76 (by decide))) ((f123 77 (by decide)).trans (f25 77 (by decide))) hs_jKept
          have z134 : (σ121 70 a1.toNatClampNeg).toInt = (σ 70 a1.toNatClampNeg).toInt := by rw [f123 70 (by decide), f25 70 (by decide)]
          have z135 : (σ121 55 6).toInt = (σ 55 6).toInt := (congrArg Int32.toInt (show σ121 55 6 = (σ 55 6) from ((f124 6 (by decide)).trans (f26 6 (by decide)))))
          have z136 : (σ121 55 25).toInt = (σ23 55 25).toInt := (congrArg Int32.toInt (show σ121 55 25 = (σ23 55 25) from (f124 25 (by decide))))
          have z137 : (σ121 55 10).toInt = (σ 55 10).toInt := (congrArg Int32.toInt (show σ121 55 10 = (σ 55 10) from ((f124 10 (by decide)).trans (f26 10 (by decide)))))
          have z138 : (σ121 55 26).toInt = (σ23 55 26).toInt := (congrArg Int32.toInt (show σ121 55 26 = (σ23 55 26) from (f124 26 (by decide))))
          have z139 : (σ121 55 12).toInt = (σ 55 12).toInt := (congrArg Int32.toInt (show σ121 55 12 = (σ 55 12) from ((f124 12 (by decide)).trans (f26 12 (by decide)))))
          refine jcallV (As := [.int a1]) (rest := []) ⟨hx, hb, hml, hown, hts⟩ hK hP hA hS hZ (c_X12_putsOn l D cI cL ad zz hJ σ121 τ B116 p125 a1 (A1) t1 I126 I127 I128 I129 I130 I131 I132 p133 (by omega) (by omega) (by omega) (by omega) (by omega)) cw_RX12_321 (jc_55 cI cL ad σ121 τ) rfl ⟨Nat.le_of_ble_eq_true rfl, Nat.le_of_ble_eq_true rfl⟩ rfl rfl rfl hl.1 rfl (Nat.le_of_ble_eq_true rfl) dX12_puts_54 ⟨Nat.zero_le _, Nat.zero_le _⟩ (fun r141 σ140 τ140 H locs h140 hP hS => ?_)
          obtain ⟨rfl, f142, f143, p144, h140⟩ := h140
          have h145 := h140
          obtain ⟨q147, k146⟩ := h145
          have w148 : ∀ k : Nat, k < 4 → 0 ≤ (σ140 68 k).toInt ∧ (σ140 68 k).toInt ≤ 3 := (jrr_fr (f142 68 (by decide)) (jrr_fr (f123 68 (by decide)) w34))
          have I149 : jI119 σ140 := w148
          have p150 : jBook σ140 := jBook.fr ((f143 47 (by decide)).trans (f124 47 (by decide))) ((f143 10 (by decide)).trans (f124 10 (by decide))) ((f142 81 (by decide)).trans (f123 81 (by decide))) p28
          exact hret r141 σ140 τ _ _ _ _ rfl ⟨rfl, (fun i hi => ((f142 i (imp_257 i hi)).trans ((f123 i (imp_258 i hi)).trans (f25 i (imp_255 i hi))))), (fun i hi => ((f143 i (imp_259 i hi)).trans ((f124 i (imp_260 i hi)).trans (f26 i (imp_256 i hi))))), I149, p144, p150, trivial⟩ hP hS dX12_puts_57
  · obtain ⟨q152, k151⟩ := h19
    have q152 := q152.symm
    subst q152
    refine lv_if_ne (tgt := 10) hx hb dX12_puts_5 (by decide) (fun c => absurd (by decide) c) (fun _ => ?_)
    refine lv_iconst (v := (-1)) hx hb dX12_puts_8 (by decide) ?_
    exact hret (-1) σ τ _ _ _ _ rfl ⟨rfl, (fun _ _ => rfl), (fun _ _ => rfl), hI119, hs_jKept, hs_jBook, trivial⟩ hP hS dX12_puts_9
set_option maxHeartbeats 4000000 in
set_option maxRecDepth 100000 in
theorem c_X12_mean (l : Launch) (D : va_G) (cI cL : ClassId) (ad zz : Nat → Nat) (hJ : jD ad) (σ : Nat → Nat → Int32) (τ : Nat → Nat → Int64) (a1 : Int32) (A1 : Int) (t1 : a1.toInt = A1) (hI101 : jI101 σ) (hI102 : jI102 σ) (hI103 : jI103 σ) (hI104 : jI104 σ) (hI105 : jI105 σ) (hI106 : jI106 σ) (hI119 : jI119 σ) (hs_jKept : jKept σ) : jM l yX12_mean cX12_mean 2 (some .int) ({ frames := 139, cells := 0, slots := 0, locals := 7209 }) D cI cL ad zz [.ref (ad 55), .int a1] σ τ (fun r σ' τ' => τ = τ' ∧ (∀ i : Nat, (i < 55 ∨ 55 < i) ∧ (i < 66 ∨ 66 < i) ∧ (i < 68 ∨ 69 < i) ∧ (i < 74 ∨ 78 < i) → σ' i = σ i) ∧ (∀ k : Nat, (k < 18 ∨ 18 < k) ∧ (k < 19 ∨ 19 < k) ∧ (k < 20 ∨ 20 < k) ∧ (k < 21 ∨ 21 < k) ∧ (k < 22 ∨ 22 < k) ∧ (k < 25 ∨ 25 < k) ∧ (k < 26 ∨ 26 < k) ∧ (k < 27 ∨ 27 < k) ∧ (k < 37 ∨ 37 < k) ∧ (k < 42 ∨ 42 < k) → σ' 55 k = σ 55 k) ∧ (jI119 σ') ∧ (jKept σ') ∧ True) := by
  refine jM.of hJ (by decide +kernel) (nt := .int) rfl (Nat.le_of_ble_eq_true rfl) ?_
  intro p e s m args below meth c Q ls hC hret hl hP
  obtain ⟨hx, hb, hr, hml, hown, hts, hK, -, hlocks, hZ⟩ := hC
  have hown : s.vm.findClass RX12 = some m.cls := hown
  have hS : va_S (jA ad) s.heap s.heap [] := va_S.rf
  have hA : ∀ q, jA ad q → jA ad q := fun _ h => h
  have hl : lv_has ls 2 [(0, .ref (ad 55)), (1, .int a1)] := hl
  have g1 := jrg t1
  obtain ⟨i1, i2, i3, w4, w5⟩ : (1 ≤ (σ 55 10).toInt ∧ (σ 55 10).toInt ≤ 8) ∧ (1 ≤ (σ 55 12).toInt ∧ (σ 55 12).toInt ≤ 12) ∧ (0 ≤ (σ 55 13).toInt ∧ (σ 55 13).toInt ≤ 999) ∧ (∀ k : Nat, k < 8 → 0 ≤ (σ 62 k).toInt ∧ (σ 62 k).toInt ≤ 3) ∧ (∀ k : Nat, k < 8 → 0 ≤ (σ 67 k).toInt ∧ (σ 67 k).toInt ≤ 3) := id hI104
  obtain ⟨i6, w7, w8, w9⟩ : (0 ≤ (σ 55 32).toInt ∧ (σ 55 32).toInt ≤ 20) ∧ (∀ k : Nat, k < 20 → 0 ≤ (σ 70 k).toInt ∧ (σ 70 k).toInt ≤ 6) ∧ (∀ k : Nat, k < 20 → 0 ≤ (σ 71 k).toInt ∧ (σ 71 k).toInt ≤ 8) ∧ (∀ k : Nat, k < 160 → 0 ≤ (σ 72 k).toInt ∧ (σ 72 k).toInt ≤ 3) := id hI106
  refine lv_aload_n hx hb dX12_mean_0 rfl (lv_at hl 0 rfl) ?_
  refine lv_iload_n hx hb dX12_mean_1 rfl (lv_at hl 1 rfl) ?_
  refine jcallV (As := [.int a1]) (rest := []) ⟨hx, hb, hml, hown, hts⟩ hK hP hA hS hZ (c_X12_isRule l D cI cL ad zz hJ σ τ a1 (A1) t1 hI106) cw_RX12_331 (jc_55 cI cL ad σ τ) rfl ⟨Nat.le_of_ble_eq_true rfl, Nat.le_of_ble_eq_true rfl⟩ rfl rfl rfl hl.1 rfl (Nat.le_of_ble_eq_true rfl) dX12_mean_2 ⟨Nat.zero_le _, Nat.zero_le _⟩ (fun r11 σ10 τ10 H locs h10 hP hS => ?_)
  obtain ⟨⟨rfl, rfl⟩, h10⟩ := h10
  rcases h10 with h12 | h13
  · obtain ⟨q15, k14⟩ := h12
    have q15 := q15.symm
    subst q15
    refine lv_if_ne (tgt := 10) hx hb dX12_mean_5 (by decide) (fun _ => ?_) (fun c => absurd c (by decide))
    refine lv_aload_n hx hb dX12_mean_10 rfl (lv_at hl 0 rfl) ?_
    refine va_get (D := D) hx hb hts inlX12 hown hK hP 55 (jc_55 cI cL ad σ τ) rfl 12 (by decide) (hts _ kw_8_16) (fun _ h9 => h9) rfl dX12_mean_11 ?_
    refine lv_bipush (v := 8) hx hb dX12_mean_14 (by decide) ?_
    refine lv_icmp_le (tgt := 22) hx hb dX12_mean_16 (by decide) (fun c16 => ?_) (fun c16 => ?_)
    · have kc16 := jle c16 rfl jz_8
      refine lv_aload_n hx hb dX12_mean_22 rfl (lv_at hl 0 rfl) ?_
      have w17 : ∀ k : Nat, k < 4 → 0 ≤ (σ 68 k).toInt ∧ (σ 68 k).toInt ≤ 3 := hI119
      refine jcallVv (As := []) (rest := []) ⟨hx, hb, hml, hown, hts⟩ hK hP hA hS hZ (c_X12_begin l D cI cL ad zz hJ σ τ hI104 w17) cw_RX12_256 (jc_55 cI cL ad σ τ) rfl ⟨Nat.le_of_ble_eq_true rfl, Nat.le_of_ble_eq_true rfl⟩ rfl rfl rfl hl.1 rfl (Nat.le_of_ble_eq_true rfl) dX12_mean_23 ⟨Nat.zero_le _, Nat.zero_le _⟩ (fun σ18 τ18 H locs h18 hP hS => ?_)
      obtain ⟨rfl, f20, f21, I22, h18⟩ := h18
      obtain ⟨i23, i24, i25, i26, i27, w28⟩ : (0 ≤ (σ18 55 25).toInt) ∧ ((σ18 55 25).toInt ≤ (σ18 55 10).toInt) ∧ (0 ≤ (σ18 55 26).toInt) ∧ ((σ18 55 26).toInt ≤ (σ18 55 12).toInt) ∧ ((-1) ≤ (σ18 55 27).toInt ∧ (σ18 55 27).toInt ≤ 3) ∧ (∀ k : Nat, k < 4 → 0 ≤ (σ18 68 k).toInt ∧ (σ18 68 k).toInt ≤ 3) := id I22
      have z29 : (σ18 55 10).toInt = (σ 55 10).toInt := (congrArg Int32.toInt (show σ18 55 10 = (σ 55 10) from (f21 10 (by decide))))
      have z30 : (σ18 55 12).toInt = (σ 55 12).toInt := (congrArg Int32.toInt (show σ18 55 12 = (σ 55 12) from (f21 12 (by decide))))
      obtain ⟨k31, k32, k33, h18⟩ := h18
      refine lv_aload_n hx hb dX12_mean_26 rfl (lv_at hl 0 rfl) ?_
      refine jcallVv (As := []) (rest := []) ⟨hx, hb, hml, hown, hts⟩ hK hP hA hS hZ (c_X12_forgets l D cI cL ad zz hJ σ18 τ) cw_RX12_341 (jc_55 cI cL ad σ18 τ) rfl ⟨Nat.le_of_ble_eq_true rfl, Nat.le_of_ble_eq_true rfl⟩ rfl rfl rfl hl.1 rfl (Nat.le_of_ble_eq_true rfl) dX12_mean_27 ⟨Nat.zero_le _, Nat.zero_le _⟩ (fun σ34 τ34 H locs h34 hP hS => ?_)
      obtain ⟨rfl, f36, f37, h34⟩ := h34
      refine lv_aload_n hx hb dX12_mean_30 rfl (lv_at hl 0 rfl) ?_
      refine lv_iload_n hx hb dX12_mean_31 rfl (lv_at hl 1 rfl) ?_
      have I38 : jI101 σ34 := jI101_fr ((f37 4 (by decide)).trans (f21 4 (by decide))) ((f37 5 (by decide)).trans (f21 5 (by decide))) ((f36 56 (by decide)).trans (f20 56 (by decide))) ((f36 57 (by decide)).trans (f20 57 (by decide))) ((f36 58 (by decide)).trans (f20 58 (by decide))) ((f36 59 (by decide)).trans (f20 59 (by decide))) hI101
      have I39 : jI102 σ34 := jI102_fr ((f37 6 (by decide)).trans (f21 6 (by decide))) ((f36 60 (by decide)).trans (f20 60 (by decide))) ((f36 61 (by decide)).trans (f20 61 (by decide))) hI102
      have I40 : jI103 σ34 := jI103_fr ((f37 9 (by decide)).trans (f21 9 (by decide))) hI103
      have I41 : jI104 σ34 := jI104_fr ((f37 10 (by decide)).trans (f21 10 (by decide))) ((f37 12 (by decide)).trans (f21 12 (by decide))) ((f37 13 (by decide)).trans (f21 13 (by decide))) ((f36 62 (by decide)).trans (f20 62 (by decide))) ((f36 67 (by decide)).trans (f20 67 (by decide))) hI104
      have I42 : jI105 σ34 := jI105_fr ((f37 15 (by decide)).trans (f21 15 (by decide))) ((f36 65 (by decide)).trans (f20 65 (by decide))) hI105
      have I43 : jI106 σ34 := jI106_fr ((f37 32 (by decide)).trans (f21 32 (by decide))) ((f36 70 (by decide)).trans (f20 70 (by decide))) ((f36 71 (by decide)).trans (f20 71 (by decide))) ((f36 72 (by decide)).trans (f20 72 (by decide))) hI106
      have I44 : jI120 σ34 := jI120_fr (f37 10 (by decide)) (f37 12 (by decide)) (f37 25 (by decide)) (f37 26 (by decide)) (f37 27 (by decide)) (f36 68 (by decide)) I22
      have p45 : jKept σ34 := jKept.fr ((f36 75 (by decide)).trans (f20 75 (by decide))) ((f36 76 (by decide)).trans (f20 76 (by decide))) ((f36 77 (by decide)).trans (f20 77 (by decide))) hs_jKept
      have z46 : (σ34 55 12).toInt = (σ 55 12).toInt := (congrArg Int32.toInt (show σ34 55 12 = (σ 55 12) from ((f37 12 (by decide)).trans (f21 12 (by decide)))))
      have z47 : (σ34 55 26).toInt = (σ18 55 26).toInt := (congrArg Int32.toInt (show σ34 55 26 = (σ18 55 26) from (f37 26 (by decide))))
      refine jcallV (As := [.int a1]) (rest := []) ⟨hx, hb, hml, hown, hts⟩ hK hP hA hS hZ ((c_X12_means l D cI cL ad zz hJ 8) σ34 τ a1 (A1) t1 I38 I39 I40 I41 I42 I43 I44 p45 (by omega) (by omega) (by omega)) cw_RX12_324 (jc_55 cI cL ad σ34 τ) rfl ⟨Nat.le_of_ble_eq_true rfl, Nat.le_of_ble_eq_true rfl⟩ rfl rfl rfl hl.1 rfl (Nat.le_of_ble_eq_true rfl) dX12_mean_32 ⟨Nat.zero_le _, Nat.zero_le _⟩ (fun r49 σ48 τ48 H locs h48 hP hS => ?_)
      obtain ⟨rfl, f50, f51, p52, h48⟩ := h48
      have w53 : ∀ k : Nat, k < 4 → 0 ≤ (σ48 68 k).toInt ∧ (σ48 68 k).toInt ≤ 3 := (jrr_fr (f50 68 (by decide)) (jrr_fr (f36 68 (by decide)) w28))
      have I54 : jI119 σ48 := w53
      exact hret r49 σ48 τ _ _ _ _ rfl ⟨rfl, (fun i hi => ((f50 i (imp_257 i hi)).trans ((f36 i (imp_258 i hi)).trans (f20 i (imp_255 i hi))))), (fun i hi => ((f51 i (imp_259 i hi)).trans ((f37 i (imp_260 i hi)).trans (f21 i (imp_256 i hi))))), I54, p52, trivial⟩ hP hS dX12_mean_35
    · have kc16 := jnle c16 rfl jz_8
      refine lv_bipush (v := (-4)) hx hb dX12_mean_19 (by decide) ?_
      exact hret (-4) σ τ _ _ _ _ rfl ⟨rfl, (fun _ _ => rfl), (fun _ _ => rfl), hI119, hs_jKept, trivial⟩ hP hS dX12_mean_21
  · obtain ⟨q56, k55⟩ := h13
    have q56 := q56.symm
    subst q56
    refine lv_if_ne (tgt := 10) hx hb dX12_mean_5 (by decide) (fun c => absurd (by decide) c) (fun _ => ?_)
    refine lv_iconst (v := (-1)) hx hb dX12_mean_8 (by decide) ?_
    exact hret (-1) σ τ _ _ _ _ rfl ⟨rfl, (fun _ _ => rfl), (fun _ _ => rfl), hI119, hs_jKept, trivial⟩ hP hS dX12_mean_9
set_option maxHeartbeats 4000000 in
set_option maxRecDepth 100000 in
theorem c_X12_likely (l : Launch) (D : va_G) (cI cL : ClassId) (ad zz : Nat → Nat) (hJ : jD ad) (σ : Nat → Nat → Int32) (τ : Nat → Nat → Int64) (a1 : Int32) (A1 : Int) (t1 : a1.toInt = A1) (a2 : Int32) (A2 : Int) (t2 : a2.toInt = A2) (hI101 : jI101 σ) (hI102 : jI102 σ) (hI103 : jI103 σ) (hI104 : jI104 σ) (hI105 : jI105 σ) (hI106 : jI106 σ) (hI119 : jI119 σ) (hs_jKept : jKept σ) : jM l yX12_likely cX12_likely 3 (some .int) ({ frames := 139, cells := 0, slots := 0, locals := 7210 }) D cI cL ad zz [.ref (ad 55), .int a1, .int a2] σ τ (fun r σ' τ' => τ = τ' ∧ (∀ i : Nat, (i < 55 ∨ 55 < i) ∧ (i < 66 ∨ 66 < i) ∧ (i < 68 ∨ 69 < i) ∧ (i < 74 ∨ 78 < i) → σ' i = σ i) ∧ (∀ k : Nat, (k < 18 ∨ 18 < k) ∧ (k < 19 ∨ 19 < k) ∧ (k < 20 ∨ 20 < k) ∧ (k < 21 ∨ 21 < k) ∧ (k < 22 ∨ 22 < k) ∧ (k < 25 ∨ 25 < k) ∧ (k < 26 ∨ 26 < k) ∧ (k < 27 ∨ 27 < k) ∧ (k < 37 ∨ 37 < k) ∧ (k < 42 ∨ 42 < k) → σ' 55 k = σ 55 k) ∧ (jI119 σ') ∧ (jKept σ') ∧ True) := by
  refine jM.of hJ (by decide +kernel) (nt := .int) rfl (Nat.le_of_ble_eq_true rfl) ?_
  intro p e s m args below meth c Q ls hC hret hl hP
  obtain ⟨hx, hb, hr, hml, hown, hts, hK, -, hlocks, hZ⟩ := hC
  have hown : s.vm.findClass RX12 = some m.cls := hown
  have hS : va_S (jA ad) s.heap s.heap [] := va_S.rf
  have hA : ∀ q, jA ad q → jA ad q := fun _ h => h
  have hl : lv_has ls 3 [(0, .ref (ad 55)), (1, .int a1), (2, .int a2)] := hl
  have g1 := jrg t1
  have g2 := jrg t2
  obtain ⟨i1, i2, i3, w4, w5⟩ : (1 ≤ (σ 55 10).toInt ∧ (σ 55 10).toInt ≤ 8) ∧ (1 ≤ (σ 55 12).toInt ∧ (σ 55 12).toInt ≤ 12) ∧ (0 ≤ (σ 55 13).toInt ∧ (σ 55 13).toInt ≤ 999) ∧ (∀ k : Nat, k < 8 → 0 ≤ (σ 62 k).toInt ∧ (σ 62 k).toInt ≤ 3) ∧ (∀ k : Nat, k < 8 → 0 ≤ (σ 67 k).toInt ∧ (σ 67 k).toInt ≤ 3) := id hI104
  obtain ⟨i6, w7, w8, w9⟩ : (0 ≤ (σ 55 32).toInt ∧ (σ 55 32).toInt ≤ 20) ∧ (∀ k : Nat, k < 20 → 0 ≤ (σ 70 k).toInt ∧ (σ 70 k).toInt ≤ 6) ∧ (∀ k : Nat, k < 20 → 0 ≤ (σ 71 k).toInt ∧ (σ 71 k).toInt ≤ 8) ∧ (∀ k : Nat, k < 160 → 0 ≤ (σ 72 k).toInt ∧ (σ 72 k).toInt ≤ 3) := id hI106
  refine lv_aload_n hx hb dX12_likely_0 rfl (lv_at hl 0 rfl) ?_
  refine lv_iload_n hx hb dX12_likely_1 rfl (lv_at hl 1 rfl) ?_
  refine jcallV (As := [.int a1]) (rest := []) ⟨hx, hb, hml, hown, hts⟩ hK hP hA hS hZ (c_X12_isRule l D cI cL ad zz hJ σ τ a1 (A1) t1 hI106) cw_RX12_331 (jc_55 cI cL ad σ τ) rfl ⟨Nat.le_of_ble_eq_true rfl, Nat.le_of_ble_eq_true rfl⟩ rfl rfl rfl hl.1 rfl (Nat.le_of_ble_eq_true rfl) dX12_likely_2 ⟨Nat.zero_le _, Nat.zero_le _⟩ (fun r11 σ10 τ10 H locs h10 hP hS => ?_)
  obtain ⟨⟨rfl, rfl⟩, h10⟩ := h10
  rcases h10 with h12 | h13
  · obtain ⟨q15, k14⟩ := h12
    have q15 := q15.symm
    subst q15
    refine lv_if_eq (tgt := 20) hx hb dX12_likely_5 (by decide) (fun c => absurd c (by decide)) (fun _ => ?_)
    refine lv_iload_n hx hb dX12_likely_8 rfl (lv_at hl 2 rfl) ?_
    refine lv_i2l (v := a2.toInt64) hx hb dX12_likely_9 rfl ?_
    refine lv_lconst (v := 0) hx hb dX12_likely_10 (by decide) ?_
    refine lv_ldc2 (v := 999) hx hb hown (hts _ kw_37_8) dX12_likely_11 ?_
    refine jcallS (As := [.long a2.toInt64, .long 0, .long 999]) (rest := []) ⟨hx, hb, hml, hown, hts⟩ hK hP hA hS hZ (c_X12_within l D cI cL ad zz hJ σ τ a2.toInt64 (A2) (jtoL t2) 0 (0) jzl_0 999 (999) jzl_999) cw_RX12_136 ⟨Nat.le_of_ble_eq_true rfl, Nat.le_of_ble_eq_true rfl⟩ rfl rfl rfl hl.1 rfl (Nat.le_of_ble_eq_true rfl) dX12_likely_14 ⟨Nat.zero_le _, Nat.zero_le _⟩ (fun r17 σ16 τ16 H locs h16 hP hS => ?_)
    obtain ⟨⟨rfl, rfl⟩, h16⟩ := h16
    rcases h16 with h18 | h19
    · obtain ⟨q21, k20⟩ := h18
      have q21 := q21.symm
      subst q21
      refine lv_if_ne (tgt := 22) hx hb dX12_likely_17 (by decide) (fun _ => ?_) (fun c => absurd c (by decide))
      refine lv_aload_n hx hb dX12_likely_22 rfl (lv_at hl 0 rfl) ?_
      refine va_get (D := D) hx hb hts inlX12 hown hK hP 55 (jc_55 cI cL ad σ τ) rfl 12 (by decide) (hts _ kw_8_16) (fun _ h9 => h9) rfl dX12_likely_23 ?_
      refine lv_bipush (v := 8) hx hb dX12_likely_26 (by decide) ?_
      refine lv_icmp_le (tgt := 34) hx hb dX12_likely_28 (by decide) (fun c22 => ?_) (fun c22 => ?_)
      · have kc22 := jle c22 rfl jz_8
        refine lv_aload_n hx hb dX12_likely_34 rfl (lv_at hl 0 rfl) ?_
        have w23 : ∀ k : Nat, k < 4 → 0 ≤ (σ 68 k).toInt ∧ (σ 68 k).toInt ≤ 3 := hI119
        refine jcallVv (As := []) (rest := []) ⟨hx, hb, hml, hown, hts⟩ hK hP hA hS hZ (c_X12_begin l D cI cL ad zz hJ σ τ hI104 w23) cw_RX12_256 (jc_55 cI cL ad σ τ) rfl ⟨Nat.le_of_ble_eq_true rfl, Nat.le_of_ble_eq_true rfl⟩ rfl rfl rfl hl.1 rfl (Nat.le_of_ble_eq_true rfl) dX12_likely_35 ⟨Nat.zero_le _, Nat.zero_le _⟩ (fun σ24 τ24 H locs h24 hP hS => ?_)
        obtain ⟨rfl, f26, f27, I28, h24⟩ := h24
        obtain ⟨i29, i30, i31, i32, i33, w34⟩ : (0 ≤ (σ24 55 25).toInt) ∧ ((σ24 55 25).toInt ≤ (σ24 55 10).toInt) ∧ (0 ≤ (σ24 55 26).toInt) ∧ ((σ24 55 26).toInt ≤ (σ24 55 12).toInt) ∧ ((-1) ≤ (σ24 55 27).toInt ∧ (σ24 55 27).toInt ≤ 3) ∧ (∀ k : Nat, k < 4 → 0 ≤ (σ24 68 k).toInt ∧ (σ24 68 k).toInt ≤ 3) := id I28
        have z35 : (σ24 55 10).toInt = (σ 55 10).toInt := (congrArg Int32.toInt (show σ24 55 10 = (σ 55 10) from (f27 10 (by decide))))
        have z36 : (σ24 55 12).toInt = (σ 55 12).toInt := (congrArg Int32.toInt (show σ24 55 12 = (σ 55 12) from (f27 12 (by decide))))
        obtain ⟨k37, k38, k39, h24⟩ := h24
        refine lv_aload_n hx hb dX12_likely_38 rfl (lv_at hl 0 rfl) ?_
        refine jcallVv (As := []) (rest := []) ⟨hx, hb, hml, hown, hts⟩ hK hP hA hS hZ (c_X12_forgets l D cI cL ad zz hJ σ24 τ) cw_RX12_341 (jc_55 cI cL ad σ24 τ) rfl ⟨Nat.le_of_ble_eq_true rfl, Nat.le_of_ble_eq_true rfl⟩ rfl rfl rfl hl.1 rfl (Nat.le_of_ble_eq_true rfl) dX12_likely_39 ⟨Nat.zero_le _, Nat.zero_le _⟩ (fun σ40 τ40 H locs h40 hP hS => ?_)
        obtain ⟨rfl, f42, f43, h40⟩ := h40
        refine lv_aload_n hx hb dX12_likely_42 rfl (lv_at hl 0 rfl) ?_
        refine lv_iload_n hx hb dX12_likely_43 rfl (lv_at hl 1 rfl) ?_
        refine lv_iload_n hx hb dX12_likely_44 rfl (lv_at hl 2 rfl) ?_
        have I44 : jI101 σ40 := jI101_fr ((f43 4 (by decide)).trans (f27 4 (by decide))) ((f43 5 (by decide)).trans (f27 5 (by decide))) ((f42 56 (by decide)).trans (f26 56 (by decide))) ((f42 57 (by decide)).trans (f26 57 (by decide))) ((f42 58 (by decide)).trans (f26 58 (by decide))) ((f42 59 (by decide)).trans (f26 59 (by decide))) hI101
        have I45 : jI102 σ40 := jI102_fr ((f43 6 (by decide)).trans (f27 6 (by decide))) ((f42 60 (by decide)).trans (f26 60 (by decide))) ((f42 61 (by decide)).trans (f26 61 (by decide))) hI102
        have I46 : jI103 σ40 := jI103_fr ((f43 9 (by decide)).trans (f27 9 (by decide))) hI103
        have I47 : jI104 σ40 := jI104_fr ((f43 10 (by decide)).trans (f27 10 (by decide))) ((f43 12 (by decide)).trans (f27 12 (by decide))) ((f43 13 (by decide)).trans (f27 13 (by decide))) ((f42 62 (by decide)).trans (f26 62 (by decide))) ((f42 67 (by decide)).trans (f26 67 (by decide))) hI104
        have I48 : jI105 σ40 := jI105_fr ((f43 15 (by decide)).trans (f27 15 (by decide))) ((f42 65 (by decide)).trans (f26 65 (by decide))) hI105
        have I49 : jI106 σ40 := jI106_fr ((f43 32 (by decide)).trans (f27 32 (by decide))) ((f42 70 (by decide)).trans (f26 70 (by decide))) ((f42 71 (by decide)).trans (f26 71 (by decide))) ((f42 72 (by decide)).trans (f26 72 (by decide))) hI106
        have I50 : jI120 σ40 := jI120_fr (f43 10 (by decide)) (f43 12 (by decide)) (f43 25 (by decide)) (f43 26 (by decide)) (f43 27 (by decide)) (f42 68 (by decide)) I28
        have p51 : jKept σ40 := jKept.fr ((f42 75 (by decide)).trans (f26 75 (by decide))) ((f42 76 (by decide)).trans (f26 76 (by decide))) ((f42 77 (by decide)).trans (f26 77 (by decide))) hs_jKept
        have z52 : (σ40 55 12).toInt = (σ 55 12).toInt := (congrArg Int32.toInt (show σ40 55 12 = (σ 55 12) from ((f43 12 (by decide)).trans (f27 12 (by decide)))))
        have z53 : (σ40 55 26).toInt = (σ24 55 26).toInt := (congrArg Int32.toInt (show σ40 55 26 = (σ24 55 26) from (f43 26 (by decide))))
        refine jcallV (As := [.int a1, .int a2]) (rest := []) ⟨hx, hb, hml, hown, hts⟩ hK hP hA hS hZ ((c_X12_likelies l D cI cL ad zz hJ 8) σ40 τ a1 (A1) t1 a2 (A2) t2 I44 I45 I46 I47 I48 I49 I50 p51 (by omega) (by omega) (by omega)) cw_RX12_328 (jc_55 cI cL ad σ40 τ) rfl ⟨Nat.le_of_ble_eq_true rfl, Nat.le_of_ble_eq_true rfl⟩ rfl rfl rfl hl.1 rfl (Nat.le_of_ble_eq_true rfl) dX12_likely_45 ⟨Nat.zero_le _, Nat.zero_le _⟩ (fun r55 σ54 τ54 H locs h54 hP hS => ?_)
        obtain ⟨rfl, f56, f57, p58, h54⟩ := h54
        have w59 : ∀ k : Nat, k < 4 → 0 ≤ (σ54 68 k).toInt ∧ (σ54 68 k).toInt ≤ 3 := (jrr_fr (f56 68 (by decide)) (jrr_fr (f42 68 (by decide)) w34))
        have I60 : jI119 σ54 := w59
        exact hret r55 σ54 τ _ _ _ _ rfl ⟨rfl, (fun i hi => ((f56 i (imp_257 i hi)).trans ((f42 i (imp_258 i hi)).trans (f26 i (imp_255 i hi))))), (fun i hi => ((f57 i (imp_259 i hi)).trans ((f43 i (imp_260 i hi)).trans (f27 i (imp_256 i hi))))), I60, p58, trivial⟩ hP hS dX12_likely_48
      · have kc22 := jnle c22 rfl jz_8
        refine lv_bipush (v := (-4)) hx hb dX12_likely_31 (by decide) ?_
        exact hret (-4) σ τ _ _ _ _ rfl ⟨rfl, (fun _ _ => rfl), (fun _ _ => rfl), hI119, hs_jKept, trivial⟩ hP hS dX12_likely_33
    · obtain ⟨q62, k61⟩ := h19
      have q62 := q62.symm
      subst q62
      refine lv_if_ne (tgt := 22) hx hb dX12_likely_17 (by decide) (fun c => absurd (by decide) c) (fun _ => ?_)
      refine lv_iconst (v := (-1)) hx hb dX12_likely_20 (by decide) ?_
      exact hret (-1) σ τ _ _ _ _ rfl ⟨rfl, (fun _ _ => rfl), (fun _ _ => rfl), hI119, hs_jKept, trivial⟩ hP hS dX12_likely_21
  · obtain ⟨q64, k63⟩ := h13
    have q64 := q64.symm
    subst q64
    refine lv_if_eq (tgt := 20) hx hb dX12_likely_5 (by decide) (fun _ => ?_) (fun c => absurd (by decide) c)
    refine lv_iconst (v := (-1)) hx hb dX12_likely_20 (by decide) ?_
    exact hret (-1) σ τ _ _ _ _ rfl ⟨rfl, (fun _ _ => rfl), (fun _ _ => rfl), hI119, hs_jKept, trivial⟩ hP hS dX12_likely_21
set_option maxHeartbeats 4000000 in
set_option maxRecDepth 100000 in
theorem c_X12_best (l : Launch) (D : va_G) (cI cL : ClassId) (ad zz : Nat → Nat) (hJ : jD ad) (σ : Nat → Nat → Int32) (τ : Nat → Nat → Int64) (a1 : Int32) (A1 : Int) (t1 : a1.toInt = A1) (hI101 : jI101 σ) (hI102 : jI102 σ) (hI103 : jI103 σ) (hI104 : jI104 σ) (hI105 : jI105 σ) (hI106 : jI106 σ) (hI107 : jI107 σ) (hI119 : jI119 σ) (hs_jKept : jKept σ) (hs_jBook : jBook σ) : jM l yX12_best cX12_best 3 (some .int) ({ frames := 103, cells := 0, slots := 0, locals := 5061 }) D cI cL ad zz [.ref (ad 55), .int a1] σ τ (fun r σ' τ' => τ = τ' ∧ (∀ i : Nat, (i < 55 ∨ 55 < i) ∧ (i < 66 ∨ 66 < i) ∧ (i < 68 ∨ 69 < i) ∧ (i < 74 ∨ 78 < i) → σ' i = σ i) ∧ (∀ k : Nat, (k < 18 ∨ 18 < k) ∧ (k < 19 ∨ 19 < k) ∧ (k < 20 ∨ 20 < k) ∧ (k < 21 ∨ 21 < k) ∧ (k < 22 ∨ 22 < k) ∧ (k < 25 ∨ 25 < k) ∧ (k < 26 ∨ 26 < k) ∧ (k < 27 ∨ 27 < k) ∧ (k < 37 ∨ 37 < k) ∧ (k < 42 ∨ 42 < k) → σ' 55 k = σ 55 k) ∧ (jI119 σ') ∧ (jKept σ') ∧ (jBook σ') ∧ True) := by
  refine jM.of hJ (by decide +kernel) (nt := .int) rfl (Nat.le_of_ble_eq_true rfl) ?_
  intro p e s m args below meth c Q ls hC hret hl hP
  obtain ⟨hx, hb, hr, hml, hown, hts, hK, -, hlocks, hZ⟩ := hC
  have hown : s.vm.findClass RX12 = some m.cls := hown
  have hS : va_S (jA ad) s.heap s.heap [] := va_S.rf
  have hA : ∀ q, jA ad q → jA ad q := fun _ h => h
  have hl : lv_has ls 3 [(0, .ref (ad 55)), (1, .int a1)] := hl
  have g1 := jrg t1
  obtain ⟨i1, w2, w3⟩ : (0 ≤ (σ 55 6).toInt ∧ (σ 55 6).toInt ≤ 4) ∧ (∀ k : Nat, k < 4 → 0 ≤ (σ 60 k).toInt ∧ (σ 60 k).toInt ≤ 50) ∧ (∀ k : Nat, k < 4 → 0 ≤ (σ 61 k).toInt ∧ (σ 61 k).toInt ≤ 20) := id hI102
  obtain ⟨i4, i5, i6, w7, w8⟩ : (1 ≤ (σ 55 10).toInt ∧ (σ 55 10).toInt ≤ 8) ∧ (1 ≤ (σ 55 12).toInt ∧ (σ 55 12).toInt ≤ 12) ∧ (0 ≤ (σ 55 13).toInt ∧ (σ 55 13).toInt ≤ 999) ∧ (∀ k : Nat, k < 8 → 0 ≤ (σ 62 k).toInt ∧ (σ 62 k).toInt ≤ 3) ∧ (∀ k : Nat, k < 8 → 0 ≤ (σ 67 k).toInt ∧ (σ 67 k).toInt ≤ 3) := id hI104
  obtain ⟨i9, i10, w11⟩ : (0 ≤ (σ 55 47).toInt ∧ (σ 55 47).toInt ≤ 12) ∧ ((σ 55 47).toInt ≤ (σ 55 12).toInt) ∧ (∀ k : Nat, k < 12 → 0 ≤ (σ 80 k).toInt ∧ (σ 80 k).toInt ≤ 3) := id hI107
  refine lv_iload_n hx hb dX12_best_0 rfl (lv_at hl 1 rfl) ?_
  refine lv_i2l (v := a1.toInt64) hx hb dX12_best_1 rfl ?_
  refine lv_lconst (v := 0) hx hb dX12_best_2 (by decide) ?_
  refine lv_lconst (v := 1) hx hb dX12_best_3 (by decide) ?_
  refine jcallS (As := [.long a1.toInt64, .long 0, .long 1]) (rest := []) ⟨hx, hb, hml, hown, hts⟩ hK hP hA hS hZ (c_X12_within l D cI cL ad zz hJ σ τ a1.toInt64 (A1) (jtoL t1) 0 (0) jzl_0 1 (1) jzl_1) cw_RX12_136 ⟨Nat.le_of_ble_eq_true rfl, Nat.le_of_ble_eq_true rfl⟩ rfl rfl rfl hl.1 rfl (Nat.le_of_ble_eq_true rfl) dX12_best_4 ⟨Nat.zero_le _, Nat.zero_le _⟩ (fun r13 σ12 τ12 H locs h12 hP hS => ?_)
  obtain ⟨⟨rfl, rfl⟩, h12⟩ := h12
  rcases h12 with h14 | h15
  · obtain ⟨q17, k16⟩ := h14
    have q17 := q17.symm
    subst q17
    refine lv_if_ne (tgt := 12) hx hb dX12_best_7 (by decide) (fun _ => ?_) (fun c => absurd c (by decide))
    refine lv_aload_n hx hb dX12_best_12 rfl (lv_at hl 0 rfl) ?_
    refine lv_aload_n hx hb dX12_best_13 rfl (lv_at hl 0 rfl) ?_
    refine va_get (D := D) hx hb hts inlX12 hown hK hP 55 (jc_55 cI cL ad σ τ) rfl 47 (by decide) (hts _ kw_15_15) (fun _ h9 => h9) rfl dX12_best_14 ?_
    have w18 : ∀ k : Nat, k < 4 → 0 ≤ (σ 68 k).toInt ∧ (σ 68 k).toInt ≤ 3 := hI119
    refine jcallVv (As := [.int (σ 55 47)]) (rest := []) ⟨hx, hb, hml, hown, hts⟩ hK hP hA hS hZ (c_X12_goThroughBook l D cI cL ad zz hJ σ τ (σ 55 47) ((σ 55 47).toInt) rfl hI102 hI104 hI107 w18 hs_jBook (by omega) (by omega)) cw_RX12_334 (jc_55 cI cL ad σ τ) rfl ⟨Nat.le_of_ble_eq_true rfl, Nat.le_of_ble_eq_true rfl⟩ rfl rfl rfl hl.1 rfl (Nat.le_of_ble_eq_true rfl) dX12_best_17 ⟨Nat.zero_le _, Nat.zero_le _⟩ (fun σ19 τ19 H locs h19 hP hS => ?_)
    obtain ⟨rfl, f21, f22, I23, p24, h19⟩ := h19
    obtain ⟨i25, i26, i27, i28, i29, w30⟩ : (0 ≤ (σ19 55 25).toInt) ∧ ((σ19 55 25).toInt ≤ (σ19 55 10).toInt) ∧ (0 ≤ (σ19 55 26).toInt) ∧ ((σ19 55 26).toInt ≤ (σ19 55 12).toInt) ∧ ((-1) ≤ (σ19 55 27).toInt ∧ (σ19 55 27).toInt ≤ 3) ∧ (∀ k : Nat, k < 4 → 0 ≤ (σ19 68 k).toInt ∧ (σ19 68 k).toInt ≤ 3) := id I23
    have z31 : (σ19 55 10).toInt = (σ 55 10).toInt := (congrArg Int32.toInt (show σ19 55 10 = (σ 55 10) from (f22 10 (by decide))))
    have z32 : (σ19 55 12).toInt = (σ 55 12).toInt := (congrArg Int32.toInt (show σ19 55 12 = (σ 55 12) from (f22 12 (by decide))))
    obtain ⟨k33, k34, k35, h19⟩ := h19
    refine lv_aload_n hx hb dX12_best_20 rfl (lv_at hl 0 rfl) ?_
    have I36 : jI104 σ19 := jI104_fr (f22 10 (by decide)) (f22 12 (by decide)) (f22 13 (by decide)) (f21 62 (by decide)) (f21 67 (by decide)) hI104
    refine jcallV (As := []) (rest := []) ⟨hx, hb, hml, hown, hts⟩ hK hP hA hS hZ (c_X12_isBig l D cI cL ad zz hJ σ19 τ I36 (by omega)) cw_RX12_338 (jc_55 cI cL ad σ19 τ) rfl ⟨Nat.le_of_ble_eq_true rfl, Nat.le_of_ble_eq_true rfl⟩ rfl rfl rfl hl.1 rfl (Nat.le_of_ble_eq_true rfl) dX12_best_21 ⟨Nat.zero_le _, Nat.zero_le _⟩ (fun r38 σ37 τ37 H locs h37 hP hS => ?_)
    obtain ⟨⟨rfl, rfl⟩, h37⟩ := h37
    rcases h37 with h39 | h40
    · obtain ⟨q42, k41⟩ := h39
      have q42 := q42.symm
      subst q42
      refine lv_if_eq (tgt := 30) hx hb dX12_best_24 (by decide) (fun c => absurd c (by decide)) (fun _ => ?_)
      refine lv_bipush (v := (-4)) hx hb dX12_best_27 (by decide) ?_
      have I43 : jI119 σ19 := w30
      have p44 : jKept σ19 := jKept.fr (f21 75 (by decide)) (f21 76 (by decide)) (f21 77 (by decide)) hs_jKept
      exact hret (-4) σ19 τ _ _ _ _ rfl ⟨rfl, (fun i hi => (f21 i (imp_255 i hi))), (fun i hi => (f22 i (imp_256 i hi))), I43, p44, p24, trivial⟩ hP hS dX12_best_29
    · obtain ⟨q46, k45⟩ := h40
      have q46 := q46.symm
      subst q46
      refine lv_if_eq (tgt := 30) hx hb dX12_best_24 (by decide) (fun _ => ?_) (fun c => absurd (by decide) c)
      refine lv_aload_n hx hb dX12_best_30 rfl (lv_at hl 0 rfl) ?_
      refine jcallVv (As := []) (rest := []) ⟨hx, hb, hml, hown, hts⟩ hK hP hA hS hZ (c_X12_forgets l D cI cL ad zz hJ σ19 τ) cw_RX12_341 (jc_55 cI cL ad σ19 τ) rfl ⟨Nat.le_of_ble_eq_true rfl, Nat.le_of_ble_eq_true rfl⟩ rfl rfl rfl hl.1 rfl (Nat.le_of_ble_eq_true rfl) dX12_best_31 ⟨Nat.zero_le _, Nat.zero_le _⟩ (fun σ47 τ47 H locs h47 hP hS => ?_)
      obtain ⟨rfl, f49, f50, h47⟩ := h47
      refine lv_aload_n hx hb dX12_best_34 rfl (lv_at hl 0 rfl) ?_
      have I51 : jI101 σ47 := jI101_fr ((f50 4 (by decide)).trans (f22 4 (by decide))) ((f50 5 (by decide)).trans (f22 5 (by decide))) ((f49 56 (by decide)).trans (f21 56 (by decide))) ((f49 57 (by decide)).trans (f21 57 (by decide))) ((f49 58 (by decide)).trans (f21 58 (by decide))) ((f49 59 (by decide)).trans (f21 59 (by decide))) hI101
      have I52 : jI102 σ47 := jI102_fr ((f50 6 (by decide)).trans (f22 6 (by decide))) ((f49 60 (by decide)).trans (f21 60 (by decide))) ((f49 61 (by decide)).trans (f21 61 (by decide))) hI102
      have I53 : jI103 σ47 := jI103_fr ((f50 9 (by decide)).trans (f22 9 (by decide))) hI103
      have I54 : jI104 σ47 := jI104_fr (f50 10 (by decide)) (f50 12 (by decide)) (f50 13 (by decide)) (f49 62 (by decide)) (f49 67 (by decide)) I36
      have I55 : jI105 σ47 := jI105_fr ((f50 15 (by decide)).trans (f22 15 (by decide))) ((f49 65 (by decide)).trans (f21 65 (by decide))) hI105
      have I56 : jI106 σ47 := jI106_fr ((f50 32 (by decide)).trans (f22 32 (by decide))) ((f49 70 (by decide)).trans (f21 70 (by decide))) ((f49 71 (by decide)).trans (f21 71 (by decide))) ((f49 72 (by decide)).trans (f21 72 (by decide))) hI106
      have I57 : jI120 σ47 := jI120_fr (f50 10 (by decide)) (f50 12 (by decide)) (f50 25 (by decide)) (f50 26 (by decide)) (f50 27 (by decide)) (f49 68 (by decide)) I23
      have p58 : jKept σ47 := jKept.fr ((f49 75 (by decide)).trans (f21 75 (by decide))) ((f49 76 (by decide)).trans (f21 76 (by decide))) ((f49 77 (by decide)).trans (f21 77 (by decide))) hs_jKept
      have z59 : (σ47 55 12).toInt = (σ 55 12).toInt := (congrArg Int32.toInt (show σ47 55 12 = (σ 55 12) from ((f50 12 (by decide)).trans (f22 12 (by decide)))))
      have z60 : (σ47 55 26).toInt = (σ19 55 26).toInt := (congrArg Int32.toInt (show σ47 55 26 = (σ19 55 26) from (f50 26 (by decide))))
      refine jcallV (As := []) (rest := []) ⟨hx, hb, hml, hown, hts⟩ hK hP hA hS hZ ((c_X12_bests l D cI cL ad zz hJ 8).2.1 σ47 τ I51 I52 I53 I54 I55 I56 I57 p58 (by omega)) cw_RX12_280 (jc_55 cI cL ad σ47 τ) rfl ⟨Nat.le_of_ble_eq_true rfl, Nat.le_of_ble_eq_true rfl⟩ rfl rfl rfl hl.1 rfl (Nat.le_of_ble_eq_true rfl) dX12_best_35 ⟨Nat.zero_le _, Nat.zero_le _⟩ (fun r62 σ61 τ61 H locs h61 hP hS => ?_)
      obtain ⟨rfl, f63, f64, p65, h61⟩ := h61
      obtain ⟨k66, h61⟩ := h61
      have h67 := h61
      obtain ⟨q69, k68⟩ := h67
      refine lv_istore_n (lv' := [(2, .int r62), (0, .ref (ad 55)), (1, .int a1)]) hx hb dX12_best_38 rfl hl (by decide) rfl (fun ls hl => ?_)
      refine lv_iload_n hx hb dX12_best_39 rfl (lv_at hl 2 rfl) ?_
      refine lv_if_ne (tgt := 47) hx hb dX12_best_40 (by decide) (fun c70 => ?_) (fun c70 => ?_)
      · have kc70 := jne c70 t1 jz_0
        refine lv_aload_n hx hb dX12_best_47 rfl (lv_at hl 1 rfl) ?_
        refine va_get (D := D) hx hb hts inlX12 hown hK hP 55 (jc_55 cI cL ad σ61 τ) rfl 37 (by decide) (hts _ kw_33_15) (fun _ h9 => h9) rfl dX12_best_48 ?_
        have w71 : ∀ k : Nat, k < 4 → 0 ≤ (σ61 68 k).toInt ∧ (σ61 68 k).toInt ≤ 3 := (jrr_fr (f63 68 (by decide)) (jrr_fr (f49 68 (by decide)) w30))
        have I72 : jI119 σ61 := w71
        have p73 : jBook σ61 := jBook.fr ((f64 47 (by decide)).trans (f50 47 (by decide))) ((f64 10 (by decide)).trans (f50 10 (by decide))) ((f63 81 (by decide)).trans (f49 81 (by decide))) p24
        exact hret (σ61 55 37) σ61 τ _ _ _ _ rfl ⟨rfl, (fun i hi => ((f63 i (imp_257 i hi)).trans ((f49 i (imp_258 i hi)).trans (f21 i (imp_255 i hi))))), (fun i hi => ((f64 i (imp_259 i hi)).trans ((f50 i (imp_260 i hi)).trans (f22 i (imp_256 i hi))))), I72, p65, p73, trivial⟩ hP hS dX12_best_51
      · have kc70 := jeq c70 t1 jz_0
        refine lv_iload_n hx hb dX12_best_43 rfl (lv_at hl 0 rfl) ?_
        refine lv_goto (tgt := 51) hx hb dX12_best_44 (by decide) ?_
        have w74 : ∀ k : Nat, k < 4 → 0 ≤ (σ61 68 k).toInt ∧ (σ61 68 k).toInt ≤ 3 := (jrr_fr (f63 68 (by decide)) (jrr_fr (f49 68 (by decide)) w30))
        have I75 : jI119 σ61 := w74
        have p76 : jBook σ61 := jBook.fr ((f64 47 (by decide)).trans (f50 47 (by decide))) ((f64 10 (by decide)).trans (f50 10 (by decide))) ((f63 81 (by decide)).trans (f49 81 (by decide))) p24
        exact hret r62 σ61 τ _ _ _ _ rfl ⟨rfl, (fun i hi => ((f63 i (imp_257 i hi)).trans ((f49 i (imp_258 i hi)).trans (f21 i (imp_255 i hi))))), (fun i hi => ((f64 i (imp_259 i hi)).trans ((f50 i (imp_260 i hi)).trans (f22 i (imp_256 i hi))))), I75, p65, p76, trivial⟩ hP hS dX12_best_51
  · obtain ⟨q78, k77⟩ := h15
    have q78 := q78.symm
    subst q78
    refine lv_if_ne (tgt := 12) hx hb dX12_best_7 (by decide) (fun c => absurd (by decide) c) (fun _ => ?_)
    refine lv_iconst (v := (-1)) hx hb dX12_best_10 (by decide) ?_
    exact hret (-1) σ τ _ _ _ _ rfl ⟨rfl, (fun _ _ => rfl), (fun _ _ => rfl), hI119, hs_jKept, hs_jBook, trivial⟩ hP hS dX12_best_11
set_option maxHeartbeats 4000000 in
set_option maxRecDepth 100000 in
theorem c_X12_bestNow (l : Launch) (D : va_G) (cI cL : ClassId) (ad zz : Nat → Nat) (hJ : jD ad) (σ : Nat → Nat → Int32) (τ : Nat → Nat → Int64) (hI101 : jI101 σ) (hI102 : jI102 σ) (hI103 : jI103 σ) (hI104 : jI104 σ) (hI105 : jI105 σ) (hI106 : jI106 σ) (hI119 : jI119 σ) (hs_jKept : jKept σ) (hp0 : (σ 55 12).toInt ≤ 8) : jM l yX12_bestNow cX12_bestNow 1 (some .int) ({ frames := 103, cells := 0, slots := 0, locals := 5061 }) D cI cL ad zz [.ref (ad 55)] σ τ (fun r σ' τ' => τ = τ' ∧ (∀ i : Nat, (i < 55 ∨ 55 < i) ∧ (i < 66 ∨ 66 < i) ∧ (i < 68 ∨ 69 < i) ∧ (i < 74 ∨ 78 < i) → σ' i = σ i) ∧ (∀ k : Nat, (k < 18 ∨ 18 < k) ∧ (k < 19 ∨ 19 < k) ∧ (k < 20 ∨ 20 < k) ∧ (k < 21 ∨ 21 < k) ∧ (k < 22 ∨ 22 < k) ∧ (k < 25 ∨ 25 < k) ∧ (k < 26 ∨ 26 < k) ∧ (k < 27 ∨ 27 < k) ∧ (k < 37 ∨ 37 < k) ∧ (k < 42 ∨ 42 < k) → σ' 55 k = σ 55 k) ∧ (jI119 σ') ∧ (jKept σ') ∧ True) := by
  refine jM.of hJ (by decide +kernel) (nt := .int) rfl (Nat.le_of_ble_eq_true rfl) ?_
  intro p e s m args below meth c Q ls hC hret hl hP
  obtain ⟨hx, hb, hr, hml, hown, hts, hK, -, hlocks, hZ⟩ := hC
  have hown : s.vm.findClass RX12 = some m.cls := hown
  have hS : va_S (jA ad) s.heap s.heap [] := va_S.rf
  have hA : ∀ q, jA ad q → jA ad q := fun _ h => h
  have hl : lv_has ls 1 [(0, .ref (ad 55))] := hl
  obtain ⟨i1, w2, w3⟩ : (0 ≤ (σ 55 6).toInt ∧ (σ 55 6).toInt ≤ 4) ∧ (∀ k : Nat, k < 4 → 0 ≤ (σ 60 k).toInt ∧ (σ 60 k).toInt ≤ 50) ∧ (∀ k : Nat, k < 4 → 0 ≤ (σ 61 k).toInt ∧ (σ 61 k).toInt ≤ 20) := id hI102
  obtain ⟨i4, i5, i6, w7, w8⟩ : (1 ≤ (σ 55 10).toInt ∧ (σ 55 10).toInt ≤ 8) ∧ (1 ≤ (σ 55 12).toInt ∧ (σ 55 12).toInt ≤ 12) ∧ (0 ≤ (σ 55 13).toInt ∧ (σ 55 13).toInt ≤ 999) ∧ (∀ k : Nat, k < 8 → 0 ≤ (σ 62 k).toInt ∧ (σ 62 k).toInt ≤ 3) ∧ (∀ k : Nat, k < 8 → 0 ≤ (σ 67 k).toInt ∧ (σ 67 k).toInt ≤ 3) := id hI104
  refine lv_aload_n hx hb dX12_bestNow_0 rfl (lv_at hl 0 rfl) ?_
  have w9 : ∀ k : Nat, k < 4 → 0 ≤ (σ 68 k).toInt ∧ (σ 68 k).toInt ≤ 3 := hI119
  refine jcallVv (As := []) (rest := []) ⟨hx, hb, hml, hown, hts⟩ hK hP hA hS hZ (c_X12_begin l D cI cL ad zz hJ σ τ hI104 w9) cw_RX12_256 (jc_55 cI cL ad σ τ) rfl ⟨Nat.le_of_ble_eq_true rfl, Nat.le_of_ble_eq_true rfl⟩ rfl rfl rfl hl.1 rfl (Nat.le_of_ble_eq_true rfl) dX12_bestNow_1 ⟨Nat.zero_le _, Nat.zero_le _⟩ (fun σ10 τ10 H locs h10 hP hS => ?_)
  obtain ⟨rfl, f12, f13, I14, h10⟩ := h10
  obtain ⟨i15, i16, i17, i18, i19, w20⟩ : (0 ≤ (σ10 55 25).toInt) ∧ ((σ10 55 25).toInt ≤ (σ10 55 10).toInt) ∧ (0 ≤ (σ10 55 26).toInt) ∧ ((σ10 55 26).toInt ≤ (σ10 55 12).toInt) ∧ ((-1) ≤ (σ10 55 27).toInt ∧ (σ10 55 27).toInt ≤ 3) ∧ (∀ k : Nat, k < 4 → 0 ≤ (σ10 68 k).toInt ∧ (σ10 68 k).toInt ≤ 3) := id I14
  have z21 : (σ10 55 10).toInt = (σ 55 10).toInt := (congrArg Int32.toInt (show σ10 55 10 = (σ 55 10) from (f13 10 (by decide))))
  have z22 : (σ10 55 12).toInt = (σ 55 12).toInt := (congrArg Int32.toInt (show σ10 55 12 = (σ 55 12) from (f13 12 (by decide))))
  obtain ⟨k23, k24, k25, h10⟩ := h10
  refine lv_aload_n hx hb dX12_bestNow_4 rfl (lv_at hl 0 rfl) ?_
  refine jcallVv (As := []) (rest := []) ⟨hx, hb, hml, hown, hts⟩ hK hP hA hS hZ (c_X12_forgets l D cI cL ad zz hJ σ10 τ) cw_RX12_341 (jc_55 cI cL ad σ10 τ) rfl ⟨Nat.le_of_ble_eq_true rfl, Nat.le_of_ble_eq_true rfl⟩ rfl rfl rfl hl.1 rfl (Nat.le_of_ble_eq_true rfl) dX12_bestNow_5 ⟨Nat.zero_le _, Nat.zero_le _⟩ (fun σ26 τ26 H locs h26 hP hS => ?_)
  obtain ⟨rfl, f28, f29, h26⟩ := h26
  refine lv_aload_n hx hb dX12_bestNow_8 rfl (lv_at hl 0 rfl) ?_
  have I30 : jI101 σ26 := jI101_fr ((f29 4 (by decide)).trans (f13 4 (by decide))) ((f29 5 (by decide)).trans (f13 5 (by decide))) ((f28 56 (by decide)).trans (f12 56 (by decide))) ((f28 57 (by decide)).trans (f12 57 (by decide))) ((f28 58 (by decide)).trans (f12 58 (by decide))) ((f28 59 (by decide)).trans (f12 59 (by decide))) hI101
  have I31 : jI102 σ26 := jI102_fr ((f29 6 (by decide)).trans (f13 6 (by decide))) ((f28 60 (by decide)).trans (f12 60 (by decide))) ((f28 61 (by decide)).trans (f12 61 (by decide))) hI102
  have I32 : jI103 σ26 := jI103_fr ((f29 9 (by decide)).trans (f13 9 (by decide))) hI103
  have I33 : jI104 σ26 := jI104_fr ((f29 10 (by decide)).trans (f13 10 (by decide))) ((f29 12 (by decide)).trans (f13 12 (by decide))) ((f29 13 (by decide)).trans (f13 13 (by decide))) ((f28 62 (by decide)).trans (f12 62 (by decide))) ((f28 67 (by decide)).trans (f12 67 (by decide))) hI104
  have I34 : jI105 σ26 := jI105_fr ((f29 15 (by decide)).trans (f13 15 (by decide))) ((f28 65 (by decide)).trans (f12 65 (by decide))) hI105
  have I35 : jI106 σ26 := jI106_fr ((f29 32 (by decide)).trans (f13 32 (by decide))) ((f28 70 (by decide)).trans (f12 70 (by decide))) ((f28 71 (by decide)).trans (f12 71 (by decide))) ((f28 72 (by decide)).trans (f12 72 (by decide))) hI106
  have I36 : jI120 σ26 := jI120_fr (f29 10 (by decide)) (f29 12 (by decide)) (f29 25 (by decide)) (f29 26 (by decide)) (f29 27 (by decide)) (f28 68 (by decide)) I14
  have p37 : jKept σ26 := jKept.fr ((f28 75 (by decide)).trans (f12 75 (by decide))) ((f28 76 (by decide)).trans (f12 76 (by decide))) ((f28 77 (by decide)).trans (f12 77 (by decide))) hs_jKept
  have z38 : (σ26 55 12).toInt = (σ 55 12).toInt := (congrArg Int32.toInt (show σ26 55 12 = (σ 55 12) from ((f29 12 (by decide)).trans (f13 12 (by decide)))))
  have z39 : (σ26 55 26).toInt = (σ10 55 26).toInt := (congrArg Int32.toInt (show σ26 55 26 = (σ10 55 26) from (f29 26 (by decide))))
  refine jcallV (As := []) (rest := []) ⟨hx, hb, hml, hown, hts⟩ hK hP hA hS hZ ((c_X12_bests l D cI cL ad zz hJ 8).2.1 σ26 τ I30 I31 I32 I33 I34 I35 I36 p37 (by omega)) cw_RX12_280 (jc_55 cI cL ad σ26 τ) rfl ⟨Nat.le_of_ble_eq_true rfl, Nat.le_of_ble_eq_true rfl⟩ rfl rfl rfl hl.1 rfl (Nat.le_of_ble_eq_true rfl) dX12_bestNow_9 ⟨Nat.zero_le _, Nat.zero_le _⟩ (fun r41 σ40 τ40 H locs h40 hP hS => ?_)
  obtain ⟨rfl, f42, f43, p44, h40⟩ := h40
  obtain ⟨k45, h40⟩ := h40
  have h46 := h40
  obtain ⟨q48, k47⟩ := h46
  have w49 : ∀ k : Nat, k < 4 → 0 ≤ (σ40 68 k).toInt ∧ (σ40 68 k).toInt ≤ 3 := (jrr_fr (f42 68 (by decide)) (jrr_fr (f28 68 (by decide)) w20))
  have I50 : jI119 σ40 := w49
  exact hret r41 σ40 τ _ _ _ _ rfl ⟨rfl, (fun i hi => ((f42 i (imp_257 i hi)).trans ((f28 i (imp_258 i hi)).trans (f12 i (imp_255 i hi))))), (fun i hi => ((f43 i (imp_259 i hi)).trans ((f29 i (imp_260 i hi)).trans (f13 i (imp_256 i hi))))), I50, p44, trivial⟩ hP hS dX12_bestNow_12
set_option maxHeartbeats 4000000 in
set_option maxRecDepth 100000 in
theorem c_X12_worth (l : Launch) (D : va_G) (cI cL : ClassId) (ad zz : Nat → Nat) (hJ : jD ad) (σ : Nat → Nat → Int32) (τ : Nat → Nat → Int64) (a1 : Int32) (A1 : Int) (t1 : a1.toInt = A1) (a2 : Int32) (A2 : Int) (t2 : a2.toInt = A2) (hI101 : jI101 σ) (hI102 : jI102 σ) (hI103 : jI103 σ) (hI104 : jI104 σ) (hI105 : jI105 σ) (hI106 : jI106 σ) (hI119 : jI119 σ) (hs_jKept : jKept σ) : jM l yX12_worth cX12_worth 5 (some .int) ({ frames := 104, cells := 0, slots := 0, locals := 5081 }) D cI cL ad zz [.ref (ad 55), .int a1, .int a2] σ τ (fun r σ' τ' => τ = τ' ∧ (∀ i : Nat, (i < 55 ∨ 55 < i) ∧ (i < 66 ∨ 66 < i) ∧ (i < 68 ∨ 69 < i) ∧ (i < 74 ∨ 78 < i) → σ' i = σ i) ∧ (∀ k : Nat, (k < 18 ∨ 18 < k) ∧ (k < 19 ∨ 19 < k) ∧ (k < 20 ∨ 20 < k) ∧ (k < 21 ∨ 21 < k) ∧ (k < 22 ∨ 22 < k) ∧ (k < 25 ∨ 25 < k) ∧ (k < 26 ∨ 26 < k) ∧ (k < 27 ∨ 27 < k) ∧ (k < 30 ∨ 30 < k) ∧ (k < 31 ∨ 31 < k) ∧ (k < 37 ∨ 37 < k) ∧ (k < 42 ∨ 42 < k) → σ' 55 k = σ 55 k) ∧ (jI119 σ') ∧ (jKept σ') ∧ True) := by
  refine jM.of hJ (by decide +kernel) (nt := .int) rfl (Nat.le_of_ble_eq_true rfl) ?_
  intro p e s m args below meth c Q ls hC hret hl hP
  obtain ⟨hx, hb, hr, hml, hown, hts, hK, -, hlocks, hZ⟩ := hC
  have hown : s.vm.findClass RX12 = some m.cls := hown
  have hS : va_S (jA ad) s.heap s.heap [] := va_S.rf
  have hA : ∀ q, jA ad q → jA ad q := fun _ h => h
  have hl : lv_has ls 5 [(0, .ref (ad 55)), (1, .int a1), (2, .int a2)] := hl
  have g1 := jrg t1
  have g2 := jrg t2
  obtain ⟨i1, w2, w3⟩ : (0 ≤ (σ 55 6).toInt ∧ (σ 55 6).toInt ≤ 4) ∧ (∀ k : Nat, k < 4 → 0 ≤ (σ 60 k).toInt ∧ (σ 60 k).toInt ≤ 50) ∧ (∀ k : Nat, k < 4 → 0 ≤ (σ 61 k).toInt ∧ (σ 61 k).toInt ≤ 20) := id hI102
  obtain ⟨i4, i5, i6, w7, w8⟩ : (1 ≤ (σ 55 10).toInt ∧ (σ 55 10).toInt ≤ 8) ∧ (1 ≤ (σ 55 12).toInt ∧ (σ 55 12).toInt ≤ 12) ∧ (0 ≤ (σ 55 13).toInt ∧ (σ 55 13).toInt ≤ 999) ∧ (∀ k : Nat, k < 8 → 0 ≤ (σ 62 k).toInt ∧ (σ 62 k).toInt ≤ 3) ∧ (∀ k : Nat, k < 8 → 0 ≤ (σ 67 k).toInt ∧ (σ 67 k).toInt ≤ 3) := id hI104
  refine lv_aload_n hx hb dX12_worth_0 rfl (lv_at hl 0 rfl) ?_
  refine lv_iload_n hx hb dX12_worth_1 rfl (lv_at hl 1 rfl) ?_
  refine jcallV (As := [.int a1]) (rest := []) ⟨hx, hb, hml, hown, hts⟩ hK hP hA hS hZ (c_X12_isBowler l D cI cL ad zz hJ σ τ a1 (A1) t1 hI102) cw_RX12_146 (jc_55 cI cL ad σ τ) rfl ⟨Nat.le_of_ble_eq_true rfl, Nat.le_of_ble_eq_true rfl⟩ rfl rfl rfl hl.1 rfl (Nat.le_of_ble_eq_true rfl) dX12_worth_2 ⟨Nat.zero_le _, Nat.zero_le _⟩ (fun r10 σ9 τ9 H locs h9 hP hS => ?_)
  obtain ⟨⟨rfl, rfl⟩, h9⟩ := h9
  rcases h9 with h11 | h12
  · obtain ⟨q14, k13⟩ := h11
    have q14 := q14.symm
    subst q14
    refine lv_if_eq (tgt := 27) hx hb dX12_worth_5 (by decide) (fun c => absurd c (by decide)) (fun _ => ?_)
    refine lv_iload_n hx hb dX12_worth_8 rfl (lv_at hl 2 rfl) ?_
    refine lv_i2l (v := a2.toInt64) hx hb dX12_worth_9 rfl ?_
    refine lv_lconst (v := 0) hx hb dX12_worth_10 (by decide) ?_
    refine lv_lconst (v := 1) hx hb dX12_worth_11 (by decide) ?_
    refine jcallS (As := [.long a2.toInt64, .long 0, .long 1]) (rest := []) ⟨hx, hb, hml, hown, hts⟩ hK hP hA hS hZ (c_X12_within l D cI cL ad zz hJ σ τ a2.toInt64 (A2) (jtoL t2) 0 (0) jzl_0 1 (1) jzl_1) cw_RX12_136 ⟨Nat.le_of_ble_eq_true rfl, Nat.le_of_ble_eq_true rfl⟩ rfl rfl rfl hl.1 rfl (Nat.le_of_ble_eq_true rfl) dX12_worth_12 ⟨Nat.zero_le _, Nat.zero_le _⟩ (fun r16 σ15 τ15 H locs h15 hP hS => ?_)
    obtain ⟨⟨rfl, rfl⟩, h15⟩ := h15
    rcases h15 with h17 | h18
    · obtain ⟨q20, k19⟩ := h17
      have q20 := q20.symm
      subst q20
      refine lv_if_eq (tgt := 27) hx hb dX12_worth_15 (by decide) (fun c => absurd c (by decide)) (fun _ => ?_)
      refine lv_aload_n hx hb dX12_worth_18 rfl (lv_at hl 0 rfl) ?_
      refine va_get (D := D) hx hb hts inlX12 hown hK hP 55 (jc_55 cI cL ad σ τ) rfl 12 (by decide) (hts _ kw_8_16) (fun _ h9 => h9) rfl dX12_worth_19 ?_
      refine lv_bipush (v := 8) hx hb dX12_worth_22 (by decide) ?_
      refine lv_icmp_le (tgt := 30) hx hb dX12_worth_24 (by decide) (fun c21 => ?_) (fun c21 => ?_)
      · have kc21 := jle c21 rfl jz_8
        refine lv_aload_n hx hb dX12_worth_30 rfl (lv_at hl 0 rfl) ?_
        refine jcallV (As := []) (rest := []) ⟨hx, hb, hml, hown, hts⟩ hK hP hA hS hZ (c_X12_bestNow l D cI cL ad zz hJ σ τ hI101 hI102 hI103 hI104 hI105 hI106 hI119 hs_jKept (by omega)) cw_RX12_346 (jc_55 cI cL ad σ τ) rfl ⟨Nat.le_of_ble_eq_true rfl, Nat.le_of_ble_eq_true rfl⟩ rfl rfl rfl hl.1 rfl (Nat.le_of_ble_eq_true rfl) dX12_worth_31 ⟨Nat.zero_le _, Nat.zero_le _⟩ (fun r23 σ22 τ22 H locs h22 hP hS => ?_)
        obtain ⟨rfl, f24, f25, I26, p27, h22⟩ := h22
        refine lv_istore_n (lv' := [(3, .int r23), (0, .ref (ad 55)), (1, .int a1), (2, .int a2)]) hx hb dX12_worth_34 rfl hl (by decide) rfl (fun ls hl => ?_)
        refine lv_iload_n hx hb dX12_worth_35 rfl (lv_at hl 3 rfl) ?_
        refine lv_if_ne (tgt := 47) hx hb dX12_worth_36 (by decide) (fun c28 => ?_) (fun c28 => ?_)
        · have kc28 := jne c28 t2 jz_0
          refine lv_aload_n hx hb dX12_worth_47 rfl (lv_at hl 1 rfl) ?_
          refine lv_iload_n hx hb dX12_worth_48 rfl (lv_at hl 2 rfl) ?_
          refine jput (ty := .int) hx hb hts inlX12 tyX12 tyX12_ok nmX12 hown hK hP hJ hA hS (jc_55 cI cL ad σ22 τ) rfl (k := 31) (by decide) (Nat.le_of_ble_eq_true rfl) (jp_55_31 cI cL ad σ22 τ a1) (hts _ kw_7_17) (fun _ h9 => h9) rfl (by decide +kernel) rfl rfl dX12_worth_49 (fun σ29 H locs eσ29 hP hS => ?_)
          refine lv_aload_n hx hb dX12_worth_52 rfl (lv_at hl 1 rfl) ?_
          have I30 : jI101 σ29 := jI101_fr ((jkp 4 eσ29 (by decide)).trans (f25 4 (by decide))) ((jkp 5 eσ29 (by decide)).trans (f25 5 (by decide))) ((jnp 56 eσ29 (by decide)).trans (f24 56 (by decide))) ((jnp 57 eσ29 (by decide)).trans (f24 57 (by decide))) ((jnp 58 eσ29 (by decide)).trans (f24 58 (by decide))) ((jnp 59 eσ29 (by decide)).trans (f24 59 (by decide))) hI101
          have I31 : jI102 σ29 := jI102_fr ((jkp 6 eσ29 (by decide)).trans (f25 6 (by decide))) ((jnp 60 eσ29 (by decide)).trans (f24 60 (by decide))) ((jnp 61 eσ29 (by decide)).trans (f24 61 (by decide))) hI102
          have I32 : jI103 σ29 := jI103_fr ((jkp 9 eσ29 (by decide)).trans (f25 9 (by decide))) hI103
          have I33 : jI104 σ29 := jI104_fr ((jkp 10 eσ29 (by decide)).trans (f25 10 (by decide))) ((jkp 12 eσ29 (by decide)).trans (f25 12 (by decide))) ((jkp 13 eσ29 (by decide)).trans (f25 13 (by decide))) ((jnp 62 eσ29 (by decide)).trans (f24 62 (by decide))) ((jnp 67 eσ29 (by decide)).trans (f24 67 (by decide))) hI104
          have I34 : jI105 σ29 := jI105_fr ((jkp 15 eσ29 (by decide)).trans (f25 15 (by decide))) ((jnp 65 eσ29 (by decide)).trans (f24 65 (by decide))) hI105
          have I35 : jI106 σ29 := jI106_fr ((jkp 32 eσ29 (by decide)).trans (f25 32 (by decide))) ((jnp 70 eσ29 (by decide)).trans (f24 70 (by decide))) ((jnp 71 eσ29 (by decide)).trans (f24 71 (by decide))) ((jnp 72 eσ29 (by decide)).trans (f24 72 (by decide))) hI106
          have I36 : jI119 σ29 := jI119_fr (jnp 68 eσ29 (by decide)) I26
          have p37 : jKept σ29 := jKept.fr (jnp 75 eσ29 (by decide)) (jnp 76 eσ29 (by decide)) (jnp 77 eσ29 (by decide)) p27
          have z38 : (σ29 55 12).toInt = (σ 55 12).toInt := (congrArg Int32.toInt (show σ29 55 12 = (σ 55 12) from ((jkp 12 eσ29 (by decide)).trans (f25 12 (by decide)))))
          refine jcallV (As := []) (rest := []) ⟨hx, hb, hml, hown, hts⟩ hK hP hA hS hZ (c_X12_bestNow l D cI cL ad zz hJ σ29 τ I30 I31 I32 I33 I34 I35 I36 p37 (by omega)) cw_RX12_346 (jc_55 cI cL ad σ29 τ) rfl ⟨Nat.le_of_ble_eq_true rfl, Nat.le_of_ble_eq_true rfl⟩ rfl rfl rfl hl.1 rfl (Nat.le_of_ble_eq_true rfl) dX12_worth_53 ⟨Nat.zero_le _, Nat.zero_le _⟩ (fun r40 σ39 τ39 H locs h39 hP hS => ?_)
          obtain ⟨rfl, f41, f42, I43, p44, h39⟩ := h39
          refine lv_istore (lv' := [(4, .int r40), (3, .int r23), (0, .ref (ad 55)), (1, .int a1), (2, .int a2)]) hx hb dX12_worth_56 hl (by decide) rfl (fun ls hl => ?_)
          refine lv_aload_n hx hb dX12_worth_58 rfl (lv_at hl 2 rfl) ?_
          refine lv_iconst (v := (-1)) hx hb dX12_worth_59 (by decide) ?_
          refine jput (ty := .int) hx hb hts inlX12 tyX12 tyX12_ok nmX12 hown hK hP hJ hA hS (jc_55 cI cL ad σ39 τ) rfl (k := 30) (by decide) (Nat.le_of_ble_eq_true rfl) (jp_55_30 cI cL ad σ39 τ (-1)) (hts _ kw_7_16) (fun _ h9 => h9) rfl (by decide +kernel) rfl rfl dX12_worth_60 (fun σ45 H locs eσ45 hP hS => ?_)
          refine lv_aload_n hx hb dX12_worth_63 rfl (lv_at hl 2 rfl) ?_
          refine lv_iconst (v := (-1)) hx hb dX12_worth_64 (by decide) ?_
          refine jput (ty := .int) hx hb hts inlX12 tyX12 tyX12_ok nmX12 hown hK hP hJ hA hS (jc_55 cI cL ad σ45 τ) rfl (k := 31) (by decide) (Nat.le_of_ble_eq_true rfl) (jp_55_31 cI cL ad σ45 τ (-1)) (hts _ kw_7_17) (fun _ h9 => h9) rfl (by decide +kernel) rfl rfl dX12_worth_65 (fun σ46 H locs eσ46 hP hS => ?_)
          refine lv_iload_n hx hb dX12_worth_68 rfl (lv_at hl 4 rfl) ?_
          refine lv_if_ne (tgt := 79) hx hb dX12_worth_69 (by decide) (fun c47 => ?_) (fun c => absurd (jeq c t2 jz_0) (by omega))
          have kc47 := jne c47 t2 jz_0
          refine lv_iload_n hx hb dX12_worth_79 rfl (lv_at hl 1 rfl) ?_
          refine lv_iload hx hb dX12_worth_80 (lv_at hl 0 rfl) ?_
          have g48 := jrg (rfl : r23.toInt = r23.toInt)
          have g49 := jrg (rfl : r40.toInt = r40.toInt)
          refine lv_isub hx hb dX12_worth_82 ?_
          refine lv_topi (fun x50 ex50 => ?_)
          have gx50 := jrg (rfl : x50.toInt = x50.toInt)
          have I51 : jI119 σ46 := jI119_fr ((jnp 68 eσ46 (by decide)).trans (jnp 68 eσ45 (by decide))) I43
          have p52 : jKept σ46 := jKept.fr ((jnp 75 eσ46 (by decide)).trans (jnp 75 eσ45 (by decide))) ((jnp 76 eσ46 (by decide)).trans (jnp 76 eσ45 (by decide))) ((jnp 77 eσ46 (by decide)).trans (jnp 77 eσ45 (by decide))) p44
          exact hret x50 σ46 τ _ _ _ _ rfl ⟨rfl, (fun i hi => ((jnp i eσ46 (imp_261 i hi)).trans ((jnp i eσ45 (imp_261 i hi)).trans ((f41 i hi).trans ((jnp i eσ29 (imp_261 i hi)).trans (f24 i hi)))))), (fun i hi => ((jkp i eσ46 (imp_262 i hi)).trans ((jkp i eσ45 (imp_263 i hi)).trans ((f42 i (imp_264 i hi)).trans ((jkp i eσ29 (imp_262 i hi)).trans (f25 i (imp_264 i hi))))))), I51, p52, trivial⟩ hP hS dX12_worth_83
        · have kc28 := jeq c28 t2 jz_0
          refine lv_aload_n hx hb dX12_worth_39 rfl (lv_at hl 1 rfl) ?_
          refine lv_iload_n hx hb dX12_worth_40 rfl (lv_at hl 2 rfl) ?_
          refine jput (ty := .int) hx hb hts inlX12 tyX12 tyX12_ok nmX12 hown hK hP hJ hA hS (jc_55 cI cL ad σ22 τ) rfl (k := 30) (by decide) (Nat.le_of_ble_eq_true rfl) (jp_55_30 cI cL ad σ22 τ a1) (hts _ kw_7_16) (fun _ h9 => h9) rfl (by decide +kernel) rfl rfl dX12_worth_41 (fun σ53 H locs eσ53 hP hS => ?_)
          refine lv_goto (tgt := 52) hx hb dX12_worth_44 (by decide) ?_
          refine lv_aload_n hx hb dX12_worth_52 rfl (lv_at hl 1 rfl) ?_
          have I54 : jI101 σ53 := jI101_fr ((jkp 4 eσ53 (by decide)).trans (f25 4 (by decide))) ((jkp 5 eσ53 (by decide)).trans (f25 5 (by decide))) ((jnp 56 eσ53 (by decide)).trans (f24 56 (by decide))) ((jnp 57 eσ53 (by decide)).trans (f24 57 (by decide))) ((jnp 58 eσ53 (by decide)).trans (f24 58 (by decide))) ((jnp 59 eσ53 (by decide)).trans (f24 59 (by decide))) hI101
          have I55 : jI102 σ53 := jI102_fr ((jkp 6 eσ53 (by decide)).trans (f25 6 (by decide))) ((jnp 60 eσ53 (by decide)).trans (f24 60 (by decide))) ((jnp 61 eσ53 (by decide)).trans (f24 61 (by decide))) hI102
          have I56 : jI103 σ53 := jI103_fr ((jkp 9 eσ53 (by decide)).trans (f25 9 (by decide))) hI103
          have I57 : jI104 σ53 := jI104_fr ((jkp 10 eσ53 (by decide)).trans (f25 10 (by decide))) ((jkp 12 eσ53 (by decide)).trans (f25 12 (by decide))) ((jkp 13 eσ53 (by decide)).trans (f25 13 (by decide))) ((jnp 62 eσ53 (by decide)).trans (f24 62 (by decide))) ((jnp 67 eσ53 (by decide)).trans (f24 67 (by decide))) hI104
          have I58 : jI105 σ53 := jI105_fr ((jkp 15 eσ53 (by decide)).trans (f25 15 (by decide))) ((jnp 65 eσ53 (by decide)).trans (f24 65 (by decide))) hI105
          have I59 : jI106 σ53 := jI106_fr ((jkp 32 eσ53 (by decide)).trans (f25 32 (by decide))) ((jnp 70 eσ53 (by decide)).trans (f24 70 (by decide))) ((jnp 71 eσ53 (by decide)).trans (f24 71 (by decide))) ((jnp 72 eσ53 (by decide)).trans (f24 72 (by decide))) hI106
          have I60 : jI119 σ53 := jI119_fr (jnp 68 eσ53 (by decide)) I26
          have p61 : jKept σ53 := jKept.fr (jnp 75 eσ53 (by decide)) (jnp 76 eσ53 (by decide)) (jnp 77 eσ53 (by decide)) p27
          have z62 : (σ53 55 12).toInt = (σ 55 12).toInt := (congrArg Int32.toInt (show σ53 55 12 = (σ 55 12) from ((jkp 12 eσ53 (by decide)).trans (f25 12 (by decide)))))
          refine jcallV (As := []) (rest := []) ⟨hx, hb, hml, hown, hts⟩ hK hP hA hS hZ (c_X12_bestNow l D cI cL ad zz hJ σ53 τ I54 I55 I56 I57 I58 I59 I60 p61 (by omega)) cw_RX12_346 (jc_55 cI cL ad σ53 τ) rfl ⟨Nat.le_of_ble_eq_true rfl, Nat.le_of_ble_eq_true rfl⟩ rfl rfl rfl hl.1 rfl (Nat.le_of_ble_eq_true rfl) dX12_worth_53 ⟨Nat.zero_le _, Nat.zero_le _⟩ (fun r64 σ63 τ63 H locs h63 hP hS => ?_)
          obtain ⟨rfl, f65, f66, I67, p68, h63⟩ := h63
          refine lv_istore (lv' := [(4, .int r64), (3, .int r23), (0, .ref (ad 55)), (1, .int a1), (2, .int a2)]) hx hb dX12_worth_56 hl (by decide) rfl (fun ls hl => ?_)
          refine lv_aload_n hx hb dX12_worth_58 rfl (lv_at hl 2 rfl) ?_
          refine lv_iconst (v := (-1)) hx hb dX12_worth_59 (by decide) ?_
          refine jput (ty := .int) hx hb hts inlX12 tyX12 tyX12_ok nmX12 hown hK hP hJ hA hS (jc_55 cI cL ad σ63 τ) rfl (k := 30) (by decide) (Nat.le_of_ble_eq_true rfl) (jp_55_30 cI cL ad σ63 τ (-1)) (hts _ kw_7_16) (fun _ h9 => h9) rfl (by decide +kernel) rfl rfl dX12_worth_60 (fun σ69 H locs eσ69 hP hS => ?_)
          refine lv_aload_n hx hb dX12_worth_63 rfl (lv_at hl 2 rfl) ?_
          refine lv_iconst (v := (-1)) hx hb dX12_worth_64 (by decide) ?_
          refine jput (ty := .int) hx hb hts inlX12 tyX12 tyX12_ok nmX12 hown hK hP hJ hA hS (jc_55 cI cL ad σ69 τ) rfl (k := 31) (by decide) (Nat.le_of_ble_eq_true rfl) (jp_55_31 cI cL ad σ69 τ (-1)) (hts _ kw_7_17) (fun _ h9 => h9) rfl (by decide +kernel) rfl rfl dX12_worth_65 (fun σ70 H locs eσ70 hP hS => ?_)
          refine lv_iload_n hx hb dX12_worth_68 rfl (lv_at hl 4 rfl) ?_
          refine lv_if_ne (tgt := 79) hx hb dX12_worth_69 (by decide) (fun c => absurd (jne c t2 jz_0) (by omega)) (fun c71 => ?_)
          have kc71 := jeq c71 t2 jz_0
          refine lv_iload hx hb dX12_worth_72 (lv_at hl 0 rfl) ?_
          refine lv_iload_n hx hb dX12_worth_74 rfl (lv_at hl 1 rfl) ?_
          have g72 := jrg (rfl : r64.toInt = r64.toInt)
          have g73 := jrg (rfl : r23.toInt = r23.toInt)
          refine lv_isub hx hb dX12_worth_75 ?_
          refine lv_topi (fun x74 ex74 => ?_)
          have gx74 := jrg (rfl : x74.toInt = x74.toInt)
          refine lv_goto (tgt := 83) hx hb dX12_worth_76 (by decide) ?_
          have I75 : jI119 σ70 := jI119_fr ((jnp 68 eσ70 (by decide)).trans (jnp 68 eσ69 (by decide))) I67
          have p76 : jKept σ70 := jKept.fr ((jnp 75 eσ70 (by decide)).trans (jnp 75 eσ69 (by decide))) ((jnp 76 eσ70 (by decide)).trans (jnp 76 eσ69 (by decide))) ((jnp 77 eσ70 (by decide)).trans (jnp 77 eσ69 (by decide))) p68
          exact hret x74 σ70 τ _ _ _ _ rfl ⟨rfl, (fun i hi => ((jnp i eσ70 (imp_261 i hi)).trans ((jnp i eσ69 (imp_261 i hi)).trans ((f65 i hi).trans ((jnp i eσ53 (imp_261 i hi)).trans (f24 i hi)))))), (fun i hi => ((jkp i eσ70 (imp_262 i hi)).trans ((jkp i eσ69 (imp_263 i hi)).trans ((f66 i (imp_264 i hi)).trans ((jkp i eσ53 (imp_263 i hi)).trans (f25 i (imp_264 i hi))))))), I75, p76, trivial⟩ hP hS dX12_worth_83
      · have kc21 := jnle c21 rfl jz_8
        refine lv_ldc (v := (-2000000000)) hx hb hown (hts _ kw_11_4) dX12_worth_27 ?_
        exact hret (-2000000000) σ τ _ _ _ _ rfl ⟨rfl, (fun _ _ => rfl), (fun _ _ => rfl), hI119, hs_jKept, trivial⟩ hP hS dX12_worth_29
    · obtain ⟨q78, k77⟩ := h18
      have q78 := q78.symm
      subst q78
      refine lv_if_eq (tgt := 27) hx hb dX12_worth_15 (by decide) (fun _ => ?_) (fun c => absurd (by decide) c)
      refine lv_ldc (v := (-2000000000)) hx hb hown (hts _ kw_11_4) dX12_worth_27 ?_
      exact hret (-2000000000) σ τ _ _ _ _ rfl ⟨rfl, (fun _ _ => rfl), (fun _ _ => rfl), hI119, hs_jKept, trivial⟩ hP hS dX12_worth_29
  · obtain ⟨q80, k79⟩ := h12
    have q80 := q80.symm
    subst q80
    refine lv_if_eq (tgt := 27) hx hb dX12_worth_5 (by decide) (fun _ => ?_) (fun c => absurd (by decide) c)
    refine lv_ldc (v := (-2000000000)) hx hb hown (hts _ kw_11_4) dX12_worth_27 ?_
    exact hret (-2000000000) σ τ _ _ _ _ rfl ⟨rfl, (fun _ _ => rfl), (fun _ _ => rfl), hI119, hs_jKept, trivial⟩ hP hS dX12_worth_29
set_option maxHeartbeats 4000000 in
set_option maxRecDepth 100000 in
theorem c_X12_fielded (l : Launch) (D : va_G) (cI cL : ClassId) (ad zz : Nat → Nat) (hJ : jD ad) (σ : Nat → Nat → Int32) (τ : Nat → Nat → Int64) (a1 : Int32) (A1 : Int) (t1 : a1.toInt = A1) (a2 : Int32) (A2 : Int) (t2 : a2.toInt = A2) (hI101 : jI101 σ) (hI102 : jI102 σ) (hI103 : jI103 σ) (hI104 : jI104 σ) (hI105 : jI105 σ) (hI106 : jI106 σ) (hI119 : jI119 σ) (hs_jKept : jKept σ) : jM l yX12_fielded cX12_fielded 9 (some .int) ({ frames := 104, cells := 0, slots := 0, locals := 5081 }) D cI cL ad zz [.ref (ad 55), .int a1, .int a2] σ τ (fun r σ' τ' => τ = τ' ∧ (∀ i : Nat, (i < 55 ∨ 55 < i) ∧ (i < 66 ∨ 66 < i) ∧ (i < 68 ∨ 69 < i) ∧ (i < 74 ∨ 78 < i) → σ' i = σ i) ∧ (∀ k : Nat, (k < 9 ∨ 9 < k) ∧ (k < 18 ∨ 18 < k) ∧ (k < 19 ∨ 19 < k) ∧ (k < 20 ∨ 20 < k) ∧ (k < 21 ∨ 21 < k) ∧ (k < 22 ∨ 22 < k) ∧ (k < 25 ∨ 25 < k) ∧ (k < 26 ∨ 26 < k) ∧ (k < 27 ∨ 27 < k) ∧ (k < 37 ∨ 37 < k) ∧ (k < 42 ∨ 42 < k) → σ' 55 k = σ 55 k) ∧ (jI103 σ') ∧ (jI119 σ') ∧ (jKept σ') ∧ ((σ' 55 9).toInt = (σ 55 9).toInt) ∧ True) := by
  refine jM.of hJ (by decide +kernel) (nt := .int) rfl (Nat.le_of_ble_eq_true rfl) ?_
  intro p e s m args below meth c Q ls hC hret hl hP
  obtain ⟨hx, hb, hr, hml, hown, hts, hK, -, hlocks, hZ⟩ := hC
  have hown : s.vm.findClass RX12 = some m.cls := hown
  have hS : va_S (jA ad) s.heap s.heap [] := va_S.rf
  have hA : ∀ q, jA ad q → jA ad q := fun _ h => h
  have hl : lv_has ls 9 [(0, .ref (ad 55)), (1, .int a1), (2, .int a2)] := hl
  have g1 := jrg t1
  have g2 := jrg t2
  have i1 : 0 ≤ (σ 55 9).toInt ∧ (σ 55 9).toInt ≤ 3 := hI103
  obtain ⟨i2, i3, i4, w5, w6⟩ : (1 ≤ (σ 55 10).toInt ∧ (σ 55 10).toInt ≤ 8) ∧ (1 ≤ (σ 55 12).toInt ∧ (σ 55 12).toInt ≤ 12) ∧ (0 ≤ (σ 55 13).toInt ∧ (σ 55 13).toInt ≤ 999) ∧ (∀ k : Nat, k < 8 → 0 ≤ (σ 62 k).toInt ∧ (σ 62 k).toInt ≤ 3) ∧ (∀ k : Nat, k < 8 → 0 ≤ (σ 67 k).toInt ∧ (σ 67 k).toInt ≤ 3) := id hI104
  refine lv_iload_n hx hb dX12_fielded_0 rfl (lv_at hl 2 rfl) ?_
  refine lv_i2l (v := a2.toInt64) hx hb dX12_fielded_1 rfl ?_
  refine lv_lconst (v := 0) hx hb dX12_fielded_2 (by decide) ?_
  refine lv_lconst (v := 1) hx hb dX12_fielded_3 (by decide) ?_
  refine jcallS (As := [.long a2.toInt64, .long 0, .long 1]) (rest := []) ⟨hx, hb, hml, hown, hts⟩ hK hP hA hS hZ (c_X12_within l D cI cL ad zz hJ σ τ a2.toInt64 (A2) (jtoL t2) 0 (0) jzl_0 1 (1) jzl_1) cw_RX12_136 ⟨Nat.le_of_ble_eq_true rfl, Nat.le_of_ble_eq_true rfl⟩ rfl rfl rfl hl.1 rfl (Nat.le_of_ble_eq_true rfl) dX12_fielded_4 ⟨Nat.zero_le _, Nat.zero_le _⟩ (fun r8 σ7 τ7 H locs h7 hP hS => ?_)
  obtain ⟨⟨rfl, rfl⟩, h7⟩ := h7
  rcases h7 with h9 | h10
  · obtain ⟨q12, k11⟩ := h9
    have q12 := q12.symm
    subst q12
    refine lv_if_eq (tgt := 26) hx hb dX12_fielded_7 (by decide) (fun c => absurd c (by decide)) (fun _ => ?_)
    refine lv_iload_n hx hb dX12_fielded_10 rfl (lv_at hl 2 rfl) ?_
    refine lv_if_ne (tgt := 28) hx hb dX12_fielded_11 (by decide) (fun c13 => ?_) (fun c13 => ?_)
    · have kc13 := jne c13 t2 jz_0
      refine lv_aload_n hx hb dX12_fielded_28 rfl (lv_at hl 0 rfl) ?_
      refine va_get (D := D) hx hb hts inlX12 hown hK hP 55 (jc_55 cI cL ad σ τ) rfl 12 (by decide) (hts _ kw_8_16) (fun _ h9 => h9) rfl dX12_fielded_29 ?_
      refine lv_bipush (v := 8) hx hb dX12_fielded_32 (by decide) ?_
      refine lv_icmp_le (tgt := 40) hx hb dX12_fielded_34 (by decide) (fun c14 => ?_) (fun c14 => ?_)
      · have kc14 := jle c14 rfl jz_8
        refine lv_aload_n hx hb dX12_fielded_40 rfl (lv_at hl 0 rfl) ?_
        refine va_get (D := D) hx hb hts inlX12 hown hK hP 55 (jc_55 cI cL ad σ τ) rfl 9 (by decide) (hts _ kw_12_14) (fun _ h9 => h9) rfl dX12_fielded_41 ?_
        refine lv_istore_n (lv' := [(3, .int (σ 55 9)), (0, .ref (ad 55)), (1, .int a1), (2, .int a2)]) hx hb dX12_fielded_44 rfl hl (by decide) rfl (fun ls hl => ?_)
        refine lv_iconst (v := 0) hx hb dX12_fielded_45 (by decide) ?_
        refine lv_istore (lv' := [(4, .int 0), (3, .int (σ 55 9)), (0, .ref (ad 55)), (1, .int a1), (2, .int a2)]) hx hb dX12_fielded_46 hl (by decide) rfl (fun ls hl => ?_)
        refine lv_ldcw (v := 2000000000) hx hb hown (hts _ kw_34_4) dX12_fielded_48 ?_
        refine lv_istore (lv' := [(5, .int 2000000000), (4, .int 0), (3, .int (σ 55 9)), (0, .ref (ad 55)), (1, .int a1), (2, .int a2)]) hx hb dX12_fielded_51 hl (by decide) rfl (fun ls hl => ?_)
        refine lv_iconst (v := 0) hx hb dX12_fielded_53 (by decide) ?_
        refine lv_istore (lv' := [(6, .int 0), (5, .int 2000000000), (4, .int 0), (3, .int (σ 55 9)), (0, .ref (ad 55)), (1, .int a1), (2, .int a2)]) hx hb dX12_fielded_54 hl (by decide) rfl (fun ls hl => ?_)
        refine lv_iconst (v := 0) hx hb dX12_fielded_56 (by decide) ?_
        refine lv_istore (lv' := [(7, .int 0), (6, .int 0), (5, .int 2000000000), (4, .int 0), (3, .int (σ 55 9)), (0, .ref (ad 55)), (1, .int a1), (2, .int a2)]) hx hb dX12_fielded_57 hl (by decide) rfl (fun ls hl => ?_)
        have lp15 : ∀ (n16 : Nat) (x17 : Int32) (x18 : Int32) (x19 : Int32) (x20 : Int32) (σ22 : Nat → Nat → Int32) (H : Heap) (locs : List Loc) (ls : Array Slot), (-x20.toInt + 4 : Int) < n16 → 0 ≤ x20.toInt → x20.toInt ≤ 4 → (∀ i : Nat, (i < 55 ∨ 55 < i) ∧ (i < 66 ∨ 66 < i) ∧ (i < 68 ∨ 69 < i) ∧ (i < 74 ∨ 78 < i) → σ22 i = σ i) → (∀ k : Nat, (k < 9 ∨ 9 < k) ∧ (k < 18 ∨ 18 < k) ∧ (k < 19 ∨ 19 < k) ∧ (k < 20 ∨ 20 < k) ∧ (k < 21 ∨ 21 < k) ∧ (k < 22 ∨ 22 < k) ∧ (k < 25 ∨ 25 < k) ∧ (k < 26 ∨ 26 < k) ∧ (k < 27 ∨ 27 < k) ∧ (k < 37 ∨ 37 < k) ∧ (k < 42 ∨ 42 < k) → σ22 55 k = σ 55 k) → jKept σ22 → jI103 σ22 → jI119 σ22 → jH D cI cL ad σ22 τ H → va_S (jA ad) s.heap H locs → lv_has ls 9 [(7, .int x20), (6, .int x19), (5, .int x18), (4, .int x17), (3, .int (σ 55 9)), (0, .ref (ad 55)), (1, .int a1), (2, .int a2)] → W p l e ({ frames := 104, cells := 0, slots := 0, locals := 5081 }) s m args below meth c H locs 0 0 Q (F0 m 59 ls []) := by
          intro n16
          induction n16 with
          | zero => intro x17 x18 x19 x20 σ22 H locs ls h23 h24 h25; have gx17 := jrg (rfl : x17.toInt = x17.toInt); have gx18 := jrg (rfl : x18.toInt = x18.toInt); have gx19 := jrg (rfl : x19.toInt = x19.toInt); exact absurd h23 (by omega)
          | succ n16 ihlp15 =>
            intro x17 x18 x19 x20 σ22 H locs ls h23 h24 h25 f26 f27 p28 p29 p30 hP hS hl
            have gx17 := jrg (rfl : x17.toInt = x17.toInt); have gx18 := jrg (rfl : x18.toInt = x18.toInt); have gx19 := jrg (rfl : x19.toInt = x19.toInt)
            have i31 : 0 ≤ (σ22 55 9).toInt ∧ (σ22 55 9).toInt ≤ 3 := p29
            refine lv_iload hx hb dX12_fielded_59 (lv_at hl 0 rfl) ?_
            refine lv_iconst (v := 4) hx hb dX12_fielded_61 (by decide) ?_
            refine lv_icmp_ge (tgt := 129) hx hb dX12_fielded_62 (by decide) (fun c32 => ?_) (fun c32 => ?_)
            · have kc32 := jle c32 jz_4 rfl
              refine lv_aload_n hx hb dX12_fielded_129 rfl (lv_at hl 5 rfl) ?_
              refine lv_iload_n hx hb dX12_fielded_130 rfl (lv_at hl 4 rfl) ?_
              refine jput (ty := .int) hx hb hts inlX12 tyX12 tyX12_ok nmX12 hown hK hP hJ hA hS (jc_55 cI cL ad σ22 τ) rfl (k := 9) (by decide) (Nat.le_of_ble_eq_true rfl) (jp_55_9 cI cL ad σ22 τ (σ 55 9)) (hts _ kw_12_14) (fun _ h9 => h9) rfl (by decide +kernel) rfl rfl dX12_fielded_131 (fun σ33 H locs eσ33 hP hS => ?_)
              refine lv_iload_n hx hb dX12_fielded_134 rfl (lv_at hl 7 rfl) ?_
              refine lv_if_ne (tgt := 143) hx hb dX12_fielded_135 (by decide) (fun c34 => ?_) (fun c => absurd (jeq c t2 jz_0) (by omega))
              have kc34 := jne c34 t2 jz_0
              refine lv_iload hx hb dX12_fielded_143 (lv_at hl 3 rfl) ?_
              have z35 : (σ33 55 9).toInt = (σ 55 9).toInt := (congrArg Int32.toInt (show σ33 55 9 = (σ 55 9) from (jsp eσ33)))
              have I36 : jI103 σ33 := (show 0 ≤ (σ33 55 9).toInt ∧ (σ33 55 9).toInt ≤ 3 by omega)
              have I37 : jI119 σ33 := jI119_fr (jnp 68 eσ33 (by decide)) p30
              have p38 : jKept σ33 := jKept.fr (jnp 75 eσ33 (by decide)) (jnp 76 eσ33 (by decide)) (jnp 77 eσ33 (by decide)) p28
              exact hret x17 σ33 τ _ _ _ _ rfl ⟨rfl, (fun i hi => ((jnp i eσ33 (imp_261 i hi)).trans (f26 i hi))), (fun i hi => ((jkp i eσ33 (imp_265 i hi)).trans (f27 i hi))), I36, I37, p38, (by omega), trivial⟩ hP hS dX12_fielded_145
            · have kc32 := jnle c32 jz_4 rfl
              refine lv_aload_n hx hb dX12_fielded_65 rfl (lv_at hl 5 rfl) ?_
              refine lv_iload hx hb dX12_fielded_66 (lv_at hl 0 rfl) ?_
              refine jput (ty := .int) hx hb hts inlX12 tyX12 tyX12_ok nmX12 hown hK hP hJ hA hS (jc_55 cI cL ad σ22 τ) rfl (k := 9) (by decide) (Nat.le_of_ble_eq_true rfl) (jp_55_9 cI cL ad σ22 τ x20) (hts _ kw_12_14) (fun _ h9 => h9) rfl (by decide +kernel) rfl rfl dX12_fielded_68 (fun σ39 H locs eσ39 hP hS => ?_)
              refine lv_iload_n hx hb dX12_fielded_71 rfl (lv_at hl 7 rfl) ?_
              refine lv_if_ne (tgt := 87) hx hb dX12_fielded_72 (by decide) (fun c40 => ?_) (fun c => absurd (jeq c t2 jz_0) (by omega))
              have kc40 := jne c40 t2 jz_0
              refine lv_aload_n hx hb dX12_fielded_87 rfl (lv_at hl 5 rfl) ?_
              have I41 : jI101 σ39 := jI101_fr ((jkp 4 eσ39 (by decide)).trans (f27 4 (by decide))) ((jkp 5 eσ39 (by decide)).trans (f27 5 (by decide))) ((jnp 56 eσ39 (by decide)).trans (f26 56 (by decide))) ((jnp 57 eσ39 (by decide)).trans (f26 57 (by decide))) ((jnp 58 eσ39 (by decide)).trans (f26 58 (by decide))) ((jnp 59 eσ39 (by decide)).trans (f26 59 (by decide))) hI101
              have I42 : jI102 σ39 := jI102_fr ((jkp 6 eσ39 (by decide)).trans (f27 6 (by decide))) ((jnp 60 eσ39 (by decide)).trans (f26 60 (by decide))) ((jnp 61 eσ39 (by decide)).trans (f26 61 (by decide))) hI102
              have z43 : (σ39 55 9).toInt = x20.toInt := (congrArg Int32.toInt (show σ39 55 9 = x20 from (jsp eσ39)))
              have I44 : jI103 σ39 := (show 0 ≤ (σ39 55 9).toInt ∧ (σ39 55 9).toInt ≤ 3 by omega)
              have I45 : jI104 σ39 := jI104_fr ((jkp 10 eσ39 (by decide)).trans (f27 10 (by decide))) ((jkp 12 eσ39 (by decide)).trans (f27 12 (by decide))) ((jkp 13 eσ39 (by decide)).trans (f27 13 (by decide))) ((jnp 62 eσ39 (by decide)).trans (f26 62 (by decide))) ((jnp 67 eσ39 (by decide)).trans (f26 67 (by decide))) hI104
              have I46 : jI105 σ39 := jI105_fr ((jkp 15 eσ39 (by decide)).trans (f27 15 (by decide))) ((jnp 65 eσ39 (by decide)).trans (f26 65 (by decide))) hI105
              have I47 : jI106 σ39 := jI106_fr ((jkp 32 eσ39 (by decide)).trans (f27 32 (by decide))) ((jnp 70 eσ39 (by decide)).trans (f26 70 (by decide))) ((jnp 71 eσ39 (by decide)).trans (f26 71 (by decide))) ((jnp 72 eσ39 (by decide)).trans (f26 72 (by decide))) hI106
              have I48 : jI119 σ39 := jI119_fr (jnp 68 eσ39 (by decide)) p30
              have p49 : jKept σ39 := jKept.fr (jnp 75 eσ39 (by decide)) (jnp 76 eσ39 (by decide)) (jnp 77 eσ39 (by decide)) p28
              have z50 : (σ39 55 12).toInt = (σ 55 12).toInt := (congrArg Int32.toInt (show σ39 55 12 = (σ 55 12) from ((jkp 12 eσ39 (by decide)).trans (f27 12 (by decide)))))
              refine jcallV (As := []) (rest := []) ⟨hx, hb, hml, hown, hts⟩ hK hP hA hS hZ (c_X12_bestNow l D cI cL ad zz hJ σ39 τ I41 I42 I44 I45 I46 I47 I48 p49 (by omega)) cw_RX12_346 (jc_55 cI cL ad σ39 τ) rfl ⟨Nat.le_of_ble_eq_true rfl, Nat.le_of_ble_eq_true rfl⟩ rfl rfl rfl hl.1 rfl (Nat.le_of_ble_eq_true rfl) dX12_fielded_88 ⟨Nat.zero_le _, Nat.zero_le _⟩ (fun r52 σ51 τ51 H locs h51 hP hS => ?_)
              obtain ⟨rfl, f53, f54, I55, p56, h51⟩ := h51
              refine lv_istore (lv' := [(8, .int r52), (7, .int x20), (6, .int x19), (5, .int x18), (4, .int x17), (3, .int (σ 55 9)), (0, .ref (ad 55)), (1, .int a1), (2, .int a2)]) hx hb dX12_fielded_91 hl (by decide) rfl (fun ls hl => ?_)
              refine lv_iload hx hb dX12_fielded_93 (lv_at hl 1 rfl) ?_
              refine lv_iload_n hx hb dX12_fielded_95 rfl (lv_at hl 7 rfl) ?_
              refine lv_icmp_ne (tgt := 104) hx hb dX12_fielded_96 (by decide) (fun c57 => ?_) (fun c57 => ?_)
              · have kc57 := jne c57 rfl t1
                refine lv_iload hx hb dX12_fielded_104 (lv_at hl 2 rfl) ?_
                refine lv_istore (lv' := [(6, .int x19), (8, .int r52), (7, .int x20), (5, .int x18), (4, .int x17), (3, .int (σ 55 9)), (0, .ref (ad 55)), (1, .int a1), (2, .int a2)]) hx hb dX12_fielded_106 hl (by decide) rfl (fun ls hl => ?_)
                refine lv_iload hx hb dX12_fielded_108 (lv_at hl 1 rfl) ?_
                refine lv_iload hx hb dX12_fielded_110 (lv_at hl 3 rfl) ?_
                refine lv_icmp_ge (tgt := 123) hx hb dX12_fielded_112 (by decide) (fun c58 => ?_) (fun c58 => ?_)
                · have kc58 := jle c58 rfl rfl
                  obtain ⟨x59, ex59⟩ : ∃ y : Int32, y = x20 + 1 := ⟨_, rfl⟩
                  have tx59 : x59.toInt = x20.toInt + 1 := (jadd ex59 rfl jz_1 (by omega) (by omega)).trans (by omega)
                  refine lv_iinc (v := x59) (lv' := [(7, .int x59), (6, .int x19), (8, .int r52), (5, .int x18), (4, .int x17), (3, .int (σ 55 9)), (0, .ref (ad 55)), (1, .int a1), (2, .int a2)]) hx hb dX12_fielded_123 hl (k := 2) rfl (by rw [ex59]; rfl) (by decide) rfl (fun ls hl => ?_)
                  refine lv_goto (tgt := 59) hx hb dX12_fielded_126 (by decide) ?_
                  have I60 : jI103 σ51 := jI103_fr (f54 9 (by decide)) I44
                  exact ihlp15 x17 x18 x19 x59 σ51 _ _ ls (by have h93 := tx59; omega) (by have h93 := tx59; omega) (by have h93 := tx59; omega) (fun i hi => ((f53 i hi).trans ((jnp i eσ39 (imp_261 i hi)).trans (f26 i hi)))) (fun i hi => ((f54 i (imp_266 i hi)).trans ((jkp i eσ39 (imp_265 i hi)).trans (f27 i hi))))  p56 I60 I55 hP hS (lv_sub hl [0, 1, 3, 4, 5, 6, 7, 8] rfl)
                · have kc58 := jnle c58 rfl rfl
                  refine lv_iload hx hb dX12_fielded_115 (lv_at hl 2 rfl) ?_
                  refine lv_istore (lv' := [(4, .int x20), (6, .int x19), (8, .int r52), (7, .int x20), (5, .int x18), (3, .int (σ 55 9)), (0, .ref (ad 55)), (1, .int a1), (2, .int a2)]) hx hb dX12_fielded_117 hl (by decide) rfl (fun ls hl => ?_)
                  refine lv_iload hx hb dX12_fielded_119 (lv_at hl 2 rfl) ?_
                  refine lv_istore (lv' := [(5, .int r52), (4, .int x20), (6, .int x19), (8, .int r52), (7, .int x20), (3, .int (σ 55 9)), (0, .ref (ad 55)), (1, .int a1), (2, .int a2)]) hx hb dX12_fielded_121 hl (by decide) rfl (fun ls hl => ?_)
                  obtain ⟨x61, ex61⟩ : ∃ y : Int32, y = x20 + 1 := ⟨_, rfl⟩
                  have tx61 : x61.toInt = x20.toInt + 1 := (jadd ex61 rfl jz_1 (by omega) (by omega)).trans (by omega)
                  refine lv_iinc (v := x61) (lv' := [(7, .int x61), (5, .int r52), (4, .int x20), (6, .int x19), (8, .int r52), (3, .int (σ 55 9)), (0, .ref (ad 55)), (1, .int a1), (2, .int a2)]) hx hb dX12_fielded_123 hl (k := 4) rfl (by rw [ex61]; rfl) (by decide) rfl (fun ls hl => ?_)
                  refine lv_goto (tgt := 59) hx hb dX12_fielded_126 (by decide) ?_
                  have I62 : jI103 σ51 := jI103_fr (f54 9 (by decide)) I44
                  exact ihlp15 x20 r52 x19 x61 σ51 _ _ ls (by have h93 := tx61; omega) (by have h93 := tx61; omega) (by have h93 := tx61; omega) (fun i hi => ((f53 i hi).trans ((jnp i eσ39 (imp_261 i hi)).trans (f26 i hi)))) (fun i hi => ((f54 i (imp_266 i hi)).trans ((jkp i eσ39 (imp_265 i hi)).trans (f27 i hi))))  p56 I62 I55 hP hS (lv_sub hl [0, 3, 1, 2, 5, 6, 7, 8] rfl)
              · have kc57 := jeq c57 rfl t1
                refine lv_iload hx hb dX12_fielded_99 (lv_at hl 0 rfl) ?_
                refine lv_goto (tgt := 106) hx hb dX12_fielded_101 (by decide) ?_
                refine lv_istore (lv' := [(6, .int r52), (8, .int r52), (7, .int x20), (5, .int x18), (4, .int x17), (3, .int (σ 55 9)), (0, .ref (ad 55)), (1, .int a1), (2, .int a2)]) hx hb dX12_fielded_106 hl (by decide) rfl (fun ls hl => ?_)
                refine lv_iload hx hb dX12_fielded_108 (lv_at hl 1 rfl) ?_
                refine lv_iload hx hb dX12_fielded_110 (lv_at hl 3 rfl) ?_
                refine lv_icmp_ge (tgt := 123) hx hb dX12_fielded_112 (by decide) (fun c63 => ?_) (fun c63 => ?_)
                · have kc63 := jle c63 rfl rfl
                  obtain ⟨x64, ex64⟩ : ∃ y : Int32, y = x20 + 1 := ⟨_, rfl⟩
                  have tx64 : x64.toInt = x20.toInt + 1 := (jadd ex64 rfl jz_1 (by omega) (by omega)).trans (by omega)
                  refine lv_iinc (v := x64) (lv' := [(7, .int x64), (6, .int r52), (8, .int r52), (5, .int x18), (4, .int x17), (3, .int (σ 55 9)), (0, .ref (ad 55)), (1, .int a1), (2, .int a2)]) hx hb dX12_fielded_123 hl (k := 2) rfl (by rw [ex64]; rfl) (by decide) rfl (fun ls hl => ?_)
                  refine lv_goto (tgt := 59) hx hb dX12_fielded_126 (by decide) ?_
                  have I65 : jI103 σ51 := jI103_fr (f54 9 (by decide)) I44
                  exact ihlp15 x17 x18 r52 x64 σ51 _ _ ls (by have h93 := tx64; omega) (by have h93 := tx64; omega) (by have h93 := tx64; omega) (fun i hi => ((f53 i hi).trans ((jnp i eσ39 (imp_261 i hi)).trans (f26 i hi)))) (fun i hi => ((f54 i (imp_266 i hi)).trans ((jkp i eσ39 (imp_265 i hi)).trans (f27 i hi))))  p56 I65 I55 hP hS (lv_sub hl [0, 1, 3, 4, 5, 6, 7, 8] rfl)
                · have kc63 := jnle c63 rfl rfl
                  refine lv_iload hx hb dX12_fielded_115 (lv_at hl 2 rfl) ?_
                  refine lv_istore (lv' := [(4, .int x20), (6, .int r52), (8, .int r52), (7, .int x20), (5, .int x18), (3, .int (σ 55 9)), (0, .ref (ad 55)), (1, .int a1), (2, .int a2)]) hx hb dX12_fielded_117 hl (by decide) rfl (fun ls hl => ?_)
                  refine lv_iload hx hb dX12_fielded_119 (lv_at hl 2 rfl) ?_
                  refine lv_istore (lv' := [(5, .int r52), (4, .int x20), (6, .int r52), (8, .int r52), (7, .int x20), (3, .int (σ 55 9)), (0, .ref (ad 55)), (1, .int a1), (2, .int a2)]) hx hb dX12_fielded_121 hl (by decide) rfl (fun ls hl => ?_)
                  obtain ⟨x66, ex66⟩ : ∃ y : Int32, y = x20 + 1 := ⟨_, rfl⟩
                  have tx66 : x66.toInt = x20.toInt + 1 := (jadd ex66 rfl jz_1 (by omega) (by omega)).trans (by omega)
                  refine lv_iinc (v := x66) (lv' := [(7, .int x66), (5, .int r52), (4, .int x20), (6, .int r52), (8, .int r52), (3, .int (σ 55 9)), (0, .ref (ad 55)), (1, .int a1), (2, .int a2)]) hx hb dX12_fielded_123 hl (k := 4) rfl (by rw [ex66]; rfl) (by decide) rfl (fun ls hl => ?_)
                  refine lv_goto (tgt := 59) hx hb dX12_fielded_126 (by decide) ?_
                  have I67 : jI103 σ51 := jI103_fr (f54 9 (by decide)) I44
                  exact ihlp15 x20 r52 r52 x66 σ51 _ _ ls (by have h93 := tx66; omega) (by have h93 := tx66; omega) (by have h93 := tx66; omega) (fun i hi => ((f53 i hi).trans ((jnp i eσ39 (imp_261 i hi)).trans (f26 i hi)))) (fun i hi => ((f54 i (imp_266 i hi)).trans ((jkp i eσ39 (imp_265 i hi)).trans (f27 i hi))))  p56 I67 I55 hP hS (lv_sub hl [0, 3, 1, 2, 5, 6, 7, 8] rfl)
        exact lp15 1000000 0 2000000000 0 0 σ _ _ ls (by have h90 := jz_0; have h91 := jz_2000000000; have h92 := jz_0; have h93 := jz_0; omega) (by have h90 := jz_0; have h91 := jz_2000000000; have h92 := jz_0; have h93 := jz_0; omega) (by have h90 := jz_0; have h91 := jz_2000000000; have h92 := jz_0; have h93 := jz_0; omega) (fun _ _ => rfl) (fun _ _ => rfl)  hs_jKept hI103 hI119 hP hS hl
      · have kc14 := jnle c14 rfl jz_8
        refine lv_bipush (v := (-4)) hx hb dX12_fielded_37 (by decide) ?_
        exact hret (-4) σ τ _ _ _ _ rfl ⟨rfl, (fun _ _ => rfl), (fun _ _ => rfl), hI103, hI119, hs_jKept, (by omega), trivial⟩ hP hS dX12_fielded_39
    · have kc13 := jeq c13 t2 jz_0
      refine lv_iload_n hx hb dX12_fielded_14 rfl (lv_at hl 1 rfl) ?_
      refine lv_i2l (v := a1.toInt64) hx hb dX12_fielded_15 rfl ?_
      refine lv_lconst (v := 0) hx hb dX12_fielded_16 (by decide) ?_
      refine lv_ldc2 (v := 3) hx hb hown (hts _ kw_12_13) dX12_fielded_17 ?_
      refine jcallS (As := [.long a1.toInt64, .long 0, .long 3]) (rest := []) ⟨hx, hb, hml, hown, hts⟩ hK hP hA hS hZ (c_X12_within l D cI cL ad zz hJ σ τ a1.toInt64 (A1) (jtoL t1) 0 (0) jzl_0 3 (3) jzl_3) cw_RX12_136 ⟨Nat.le_of_ble_eq_true rfl, Nat.le_of_ble_eq_true rfl⟩ rfl rfl rfl hl.1 rfl (Nat.le_of_ble_eq_true rfl) dX12_fielded_20 ⟨Nat.zero_le _, Nat.zero_le _⟩ (fun r69 σ68 τ68 H locs h68 hP hS => ?_)
      obtain ⟨⟨rfl, rfl⟩, h68⟩ := h68
      rcases h68 with h70 | h71
      · obtain ⟨q73, k72⟩ := h70
        have q73 := q73.symm
        subst q73
        refine lv_if_ne (tgt := 28) hx hb dX12_fielded_23 (by decide) (fun _ => ?_) (fun c => absurd c (by decide))
        refine lv_aload_n hx hb dX12_fielded_28 rfl (lv_at hl 0 rfl) ?_
        refine va_get (D := D) hx hb hts inlX12 hown hK hP 55 (jc_55 cI cL ad σ τ) rfl 12 (by decide) (hts _ kw_8_16) (fun _ h9 => h9) rfl dX12_fielded_29 ?_
        refine lv_bipush (v := 8) hx hb dX12_fielded_32 (by decide) ?_
        refine lv_icmp_le (tgt := 40) hx hb dX12_fielded_34 (by decide) (fun c74 => ?_) (fun c74 => ?_)
        · have kc74 := jle c74 rfl jz_8
          refine lv_aload_n hx hb dX12_fielded_40 rfl (lv_at hl 0 rfl) ?_
          refine va_get (D := D) hx hb hts inlX12 hown hK hP 55 (jc_55 cI cL ad σ τ) rfl 9 (by decide) (hts _ kw_12_14) (fun _ h9 => h9) rfl dX12_fielded_41 ?_
          refine lv_istore_n (lv' := [(3, .int (σ 55 9)), (0, .ref (ad 55)), (1, .int a1), (2, .int a2)]) hx hb dX12_fielded_44 rfl hl (by decide) rfl (fun ls hl => ?_)
          refine lv_iconst (v := 0) hx hb dX12_fielded_45 (by decide) ?_
          refine lv_istore (lv' := [(4, .int 0), (3, .int (σ 55 9)), (0, .ref (ad 55)), (1, .int a1), (2, .int a2)]) hx hb dX12_fielded_46 hl (by decide) rfl (fun ls hl => ?_)
          refine lv_ldcw (v := 2000000000) hx hb hown (hts _ kw_34_4) dX12_fielded_48 ?_
          refine lv_istore (lv' := [(5, .int 2000000000), (4, .int 0), (3, .int (σ 55 9)), (0, .ref (ad 55)), (1, .int a1), (2, .int a2)]) hx hb dX12_fielded_51 hl (by decide) rfl (fun ls hl => ?_)
          refine lv_iconst (v := 0) hx hb dX12_fielded_53 (by decide) ?_
          refine lv_istore (lv' := [(6, .int 0), (5, .int 2000000000), (4, .int 0), (3, .int (σ 55 9)), (0, .ref (ad 55)), (1, .int a1), (2, .int a2)]) hx hb dX12_fielded_54 hl (by decide) rfl (fun ls hl => ?_)
          refine lv_iconst (v := 0) hx hb dX12_fielded_56 (by decide) ?_
          refine lv_istore (lv' := [(7, .int 0), (6, .int 0), (5, .int 2000000000), (4, .int 0), (3, .int (σ 55 9)), (0, .ref (ad 55)), (1, .int a1), (2, .int a2)]) hx hb dX12_fielded_57 hl (by decide) rfl (fun ls hl => ?_)
          have lp75 : ∀ (n76 : Nat) (x77 : Int32) (x78 : Int32) (x79 : Int32) (x80 : Int32) (σ82 : Nat → Nat → Int32) (H : Heap) (locs : List Loc) (ls : Array Slot), (-x80.toInt + 4 : Int) < n76 → 0 ≤ x80.toInt → x80.toInt ≤ 4 → (∀ i : Nat, (i < 55 ∨ 55 < i) ∧ (i < 66 ∨ 66 < i) ∧ (i < 68 ∨ 69 < i) ∧ (i < 74 ∨ 78 < i) → σ82 i = σ i) → (∀ k : Nat, (k < 9 ∨ 9 < k) ∧ (k < 18 ∨ 18 < k) ∧ (k < 19 ∨ 19 < k) ∧ (k < 20 ∨ 20 < k) ∧ (k < 21 ∨ 21 < k) ∧ (k < 22 ∨ 22 < k) ∧ (k < 25 ∨ 25 < k) ∧ (k < 26 ∨ 26 < k) ∧ (k < 27 ∨ 27 < k) ∧ (k < 37 ∨ 37 < k) ∧ (k < 42 ∨ 42 < k) → σ82 55 k = σ 55 k) → jKept σ82 → jI103 σ82 → jI119 σ82 → jH D cI cL ad σ82 τ H → va_S (jA ad) s.heap H locs → lv_has ls 9 [(7, .int x80), (6, .int x79), (5, .int x78), (4, .int x77), (3, .int (σ 55 9)), (0, .ref (ad 55)), (1, .int a1), (2, .int a2)] → W p l e ({ frames := 104, cells := 0, slots := 0, locals := 5081 }) s m args below meth c H locs 0 0 Q (F0 m 59 ls []) := by
            intro n76
            induction n76 with
            | zero => intro x77 x78 x79 x80 σ82 H locs ls h83 h84 h85; have gx77 := jrg (rfl : x77.toInt = x77.toInt); have gx78 := jrg (rfl : x78.toInt = x78.toInt); have gx79 := jrg (rfl : x79.toInt = x79.toInt); exact absurd h83 (by omega)
            | succ n76 ihlp75 =>
              intro x77 x78 x79 x80 σ82 H locs ls h83 h84 h85 f86 f87 p88 p89 p90 hP hS hl
              have gx77 := jrg (rfl : x77.toInt = x77.toInt); have gx78 := jrg (rfl : x78.toInt = x78.toInt); have gx79 := jrg (rfl : x79.toInt = x79.toInt)
              have i91 : 0 ≤ (σ82 55 9).toInt ∧ (σ82 55 9).toInt ≤ 3 := p89
              refine lv_iload hx hb dX12_fielded_59 (lv_at hl 0 rfl) ?_
              refine lv_iconst (v := 4) hx hb dX12_fielded_61 (by decide) ?_
              refine lv_icmp_ge (tgt := 129) hx hb dX12_fielded_62 (by decide) (fun c92 => ?_) (fun c92 => ?_)
              · have kc92 := jle c92 jz_4 rfl
                refine lv_aload_n hx hb dX12_fielded_129 rfl (lv_at hl 5 rfl) ?_
                refine lv_iload_n hx hb dX12_fielded_130 rfl (lv_at hl 4 rfl) ?_
                refine jput (ty := .int) hx hb hts inlX12 tyX12 tyX12_ok nmX12 hown hK hP hJ hA hS (jc_55 cI cL ad σ82 τ) rfl (k := 9) (by decide) (Nat.le_of_ble_eq_true rfl) (jp_55_9 cI cL ad σ82 τ (σ 55 9)) (hts _ kw_12_14) (fun _ h9 => h9) rfl (by decide +kernel) rfl rfl dX12_fielded_131 (fun σ93 H locs eσ93 hP hS => ?_)
                refine lv_iload_n hx hb dX12_fielded_134 rfl (lv_at hl 7 rfl) ?_
                refine lv_if_ne (tgt := 143) hx hb dX12_fielded_135 (by decide) (fun c => absurd (jne c t2 jz_0) (by omega)) (fun c94 => ?_)
                have kc94 := jeq c94 t2 jz_0
                refine lv_iload hx hb dX12_fielded_138 (lv_at hl 1 rfl) ?_
                refine lv_goto (tgt := 145) hx hb dX12_fielded_140 (by decide) ?_
                have z95 : (σ93 55 9).toInt = (σ 55 9).toInt := (congrArg Int32.toInt (show σ93 55 9 = (σ 55 9) from (jsp eσ93)))
                have I96 : jI103 σ93 := (show 0 ≤ (σ93 55 9).toInt ∧ (σ93 55 9).toInt ≤ 3 by omega)
                have I97 : jI119 σ93 := jI119_fr (jnp 68 eσ93 (by decide)) p90
                have p98 : jKept σ93 := jKept.fr (jnp 75 eσ93 (by decide)) (jnp 76 eσ93 (by decide)) (jnp 77 eσ93 (by decide)) p88
                exact hret x79 σ93 τ _ _ _ _ rfl ⟨rfl, (fun i hi => ((jnp i eσ93 (imp_261 i hi)).trans (f86 i hi))), (fun i hi => ((jkp i eσ93 (imp_265 i hi)).trans (f87 i hi))), I96, I97, p98, (by omega), trivial⟩ hP hS dX12_fielded_145
              · have kc92 := jnle c92 jz_4 rfl
                refine lv_aload_n hx hb dX12_fielded_65 rfl (lv_at hl 5 rfl) ?_
                refine lv_iload hx hb dX12_fielded_66 (lv_at hl 0 rfl) ?_
                refine jput (ty := .int) hx hb hts inlX12 tyX12 tyX12_ok nmX12 hown hK hP hJ hA hS (jc_55 cI cL ad σ82 τ) rfl (k := 9) (by decide) (Nat.le_of_ble_eq_true rfl) (jp_55_9 cI cL ad σ82 τ x80) (hts _ kw_12_14) (fun _ h9 => h9) rfl (by decide +kernel) rfl rfl dX12_fielded_68 (fun σ99 H locs eσ99 hP hS => ?_)
                refine lv_iload_n hx hb dX12_fielded_71 rfl (lv_at hl 7 rfl) ?_
                refine lv_if_ne (tgt := 87) hx hb dX12_fielded_72 (by decide) (fun c => absurd (jne c t2 jz_0) (by omega)) (fun c100 => ?_)
                have kc100 := jeq c100 t2 jz_0
                refine lv_iload hx hb dX12_fielded_75 (lv_at hl 0 rfl) ?_
                refine lv_iload_n hx hb dX12_fielded_77 rfl (lv_at hl 6 rfl) ?_
                refine lv_icmp_eq (tgt := 87) hx hb dX12_fielded_78 (by decide) (fun c101 => ?_) (fun c101 => ?_)
                · have kc101 := jeq c101 rfl t1
                  refine lv_aload_n hx hb dX12_fielded_87 rfl (lv_at hl 5 rfl) ?_
                  have I102 : jI101 σ99 := jI101_fr ((jkp 4 eσ99 (by decide)).trans (f87 4 (by decide))) ((jkp 5 eσ99 (by decide)).trans (f87 5 (by decide))) ((jnp 56 eσ99 (by decide)).trans (f86 56 (by decide))) ((jnp 57 eσ99 (by decide)).trans (f86 57 (by decide))) ((jnp 58 eσ99 (by decide)).trans (f86 58 (by decide))) ((jnp 59 eσ99 (by decide)).trans (f86 59 (by decide))) hI101
                  have I103 : jI102 σ99 := jI102_fr ((jkp 6 eσ99 (by decide)).trans (f87 6 (by decide))) ((jnp 60 eσ99 (by decide)).trans (f86 60 (by decide))) ((jnp 61 eσ99 (by decide)).trans (f86 61 (by decide))) hI102
                  have z104 : (σ99 55 9).toInt = x80.toInt := (congrArg Int32.toInt (show σ99 55 9 = x80 from (jsp eσ99)))
                  have I105 : jI103 σ99 := (show 0 ≤ (σ99 55 9).toInt ∧ (σ99 55 9).toInt ≤ 3 by omega)
                  have I106 : jI104 σ99 := jI104_fr ((jkp 10 eσ99 (by decide)).trans (f87 10 (by decide))) ((jkp 12 eσ99 (by decide)).trans (f87 12 (by decide))) ((jkp 13 eσ99 (by decide)).trans (f87 13 (by decide))) ((jnp 62 eσ99 (by decide)).trans (f86 62 (by decide))) ((jnp 67 eσ99 (by decide)).trans (f86 67 (by decide))) hI104
                  have I107 : jI105 σ99 := jI105_fr ((jkp 15 eσ99 (by decide)).trans (f87 15 (by decide))) ((jnp 65 eσ99 (by decide)).trans (f86 65 (by decide))) hI105
                  have I108 : jI106 σ99 := jI106_fr ((jkp 32 eσ99 (by decide)).trans (f87 32 (by decide))) ((jnp 70 eσ99 (by decide)).trans (f86 70 (by decide))) ((jnp 71 eσ99 (by decide)).trans (f86 71 (by decide))) ((jnp 72 eσ99 (by decide)).trans (f86 72 (by decide))) hI106
                  have I109 : jI119 σ99 := jI119_fr (jnp 68 eσ99 (by decide)) p90
                  have p110 : jKept σ99 := jKept.fr (jnp 75 eσ99 (by decide)) (jnp 76 eσ99 (by decide)) (jnp 77 eσ99 (by decide)) p88
                  have z111 : (σ99 55 12).toInt = (σ 55 12).toInt := (congrArg Int32.toInt (show σ99 55 12 = (σ 55 12) from ((jkp 12 eσ99 (by decide)).trans (f87 12 (by decide)))))
                  refine jcallV (As := []) (rest := []) ⟨hx, hb, hml, hown, hts⟩ hK hP hA hS hZ (c_X12_bestNow l D cI cL ad zz hJ σ99 τ I102 I103 I105 I106 I107 I108 I109 p110 (by omega)) cw_RX12_346 (jc_55 cI cL ad σ99 τ) rfl ⟨Nat.le_of_ble_eq_true rfl, Nat.le_of_ble_eq_true rfl⟩ rfl rfl rfl hl.1 rfl (Nat.le_of_ble_eq_true rfl) dX12_fielded_88 ⟨Nat.zero_le _, Nat.zero_le _⟩ (fun r113 σ112 τ112 H locs h112 hP hS => ?_)
                  obtain ⟨rfl, f114, f115, I116, p117, h112⟩ := h112
                  refine lv_istore (lv' := [(8, .int r113), (7, .int x80), (6, .int x79), (5, .int x78), (4, .int x77), (3, .int (σ 55 9)), (0, .ref (ad 55)), (1, .int a1), (2, .int a2)]) hx hb dX12_fielded_91 hl (by decide) rfl (fun ls hl => ?_)
                  refine lv_iload hx hb dX12_fielded_93 (lv_at hl 1 rfl) ?_
                  refine lv_iload_n hx hb dX12_fielded_95 rfl (lv_at hl 7 rfl) ?_
                  refine lv_icmp_ne (tgt := 104) hx hb dX12_fielded_96 (by decide) (fun c118 => ?_) (fun c118 => ?_)
                  · have kc118 := jne c118 rfl t1
                    refine lv_iload hx hb dX12_fielded_104 (lv_at hl 2 rfl) ?_
                    refine lv_istore (lv' := [(6, .int x79), (8, .int r113), (7, .int x80), (5, .int x78), (4, .int x77), (3, .int (σ 55 9)), (0, .ref (ad 55)), (1, .int a1), (2, .int a2)]) hx hb dX12_fielded_106 hl (by decide) rfl (fun ls hl => ?_)
                    refine lv_iload hx hb dX12_fielded_108 (lv_at hl 1 rfl) ?_
                    refine lv_iload hx hb dX12_fielded_110 (lv_at hl 3 rfl) ?_
                    refine lv_icmp_ge (tgt := 123) hx hb dX12_fielded_112 (by decide) (fun c119 => ?_) (fun c119 => ?_)
                    · have kc119 := jle c119 rfl rfl
                      obtain ⟨x120, ex120⟩ : ∃ y : Int32, y = x80 + 1 := ⟨_, rfl⟩
                      have tx120 : x120.toInt = x80.toInt + 1 := (jadd ex120 rfl jz_1 (by omega) (by omega)).trans (by omega)
                      refine lv_iinc (v := x120) (lv' := [(7, .int x120), (6, .int x79), (8, .int r113), (5, .int x78), (4, .int x77), (3, .int (σ 55 9)), (0, .ref (ad 55)), (1, .int a1), (2, .int a2)]) hx hb dX12_fielded_123 hl (k := 2) rfl (by rw [ex120]; rfl) (by decide) rfl (fun ls hl => ?_)
                      refine lv_goto (tgt := 59) hx hb dX12_fielded_126 (by decide) ?_
                      have I121 : jI103 σ112 := jI103_fr (f115 9 (by decide)) I105
                      exact ihlp75 x77 x78 x79 x120 σ112 _ _ ls (by have h93 := tx120; omega) (by have h93 := tx120; omega) (by have h93 := tx120; omega) (fun i hi => ((f114 i hi).trans ((jnp i eσ99 (imp_261 i hi)).trans (f86 i hi)))) (fun i hi => ((f115 i (imp_266 i hi)).trans ((jkp i eσ99 (imp_265 i hi)).trans (f87 i hi))))  p117 I121 I116 hP hS (lv_sub hl [0, 1, 3, 4, 5, 6, 7, 8] rfl)
                    · have kc119 := jnle c119 rfl rfl
                      refine lv_iload hx hb dX12_fielded_115 (lv_at hl 2 rfl) ?_
                      refine lv_istore (lv' := [(4, .int x80), (6, .int x79), (8, .int r113), (7, .int x80), (5, .int x78), (3, .int (σ 55 9)), (0, .ref (ad 55)), (1, .int a1), (2, .int a2)]) hx hb dX12_fielded_117 hl (by decide) rfl (fun ls hl => ?_)
                      refine lv_iload hx hb dX12_fielded_119 (lv_at hl 2 rfl) ?_
                      refine lv_istore (lv' := [(5, .int r113), (4, .int x80), (6, .int x79), (8, .int r113), (7, .int x80), (3, .int (σ 55 9)), (0, .ref (ad 55)), (1, .int a1), (2, .int a2)]) hx hb dX12_fielded_121 hl (by decide) rfl (fun ls hl => ?_)
                      obtain ⟨x122, ex122⟩ : ∃ y : Int32, y = x80 + 1 := ⟨_, rfl⟩
                      have tx122 : x122.toInt = x80.toInt + 1 := (jadd ex122 rfl jz_1 (by omega) (by omega)).trans (by omega)
                      refine lv_iinc (v := x122) (lv' := [(7, .int x122), (5, .int r113), (4, .int x80), (6, .int x79), (8, .int r113), (3, .int (σ 55 9)), (0, .ref (ad 55)), (1, .int a1), (2, .int a2)]) hx hb dX12_fielded_123 hl (k := 4) rfl (by rw [ex122]; rfl) (by decide) rfl (fun ls hl => ?_)
                      refine lv_goto (tgt := 59) hx hb dX12_fielded_126 (by decide) ?_
                      have I123 : jI103 σ112 := jI103_fr (f115 9 (by decide)) I105
                      exact ihlp75 x80 r113 x79 x122 σ112 _ _ ls (by have h93 := tx122; omega) (by have h93 := tx122; omega) (by have h93 := tx122; omega) (fun i hi => ((f114 i hi).trans ((jnp i eσ99 (imp_261 i hi)).trans (f86 i hi)))) (fun i hi => ((f115 i (imp_266 i hi)).trans ((jkp i eσ99 (imp_265 i hi)).trans (f87 i hi))))  p117 I123 I116 hP hS (lv_sub hl [0, 3, 1, 2, 5, 6, 7, 8] rfl)
                  · have kc118 := jeq c118 rfl t1
                    refine lv_iload hx hb dX12_fielded_99 (lv_at hl 0 rfl) ?_
                    refine lv_goto (tgt := 106) hx hb dX12_fielded_101 (by decide) ?_
                    refine lv_istore (lv' := [(6, .int r113), (8, .int r113), (7, .int x80), (5, .int x78), (4, .int x77), (3, .int (σ 55 9)), (0, .ref (ad 55)), (1, .int a1), (2, .int a2)]) hx hb dX12_fielded_106 hl (by decide) rfl (fun ls hl => ?_)
                    refine lv_iload hx hb dX12_fielded_108 (lv_at hl 1 rfl) ?_
                    refine lv_iload hx hb dX12_fielded_110 (lv_at hl 3 rfl) ?_
                    refine lv_icmp_ge (tgt := 123) hx hb dX12_fielded_112 (by decide) (fun c124 => ?_) (fun c124 => ?_)
                    · have kc124 := jle c124 rfl rfl
                      obtain ⟨x125, ex125⟩ : ∃ y : Int32, y = x80 + 1 := ⟨_, rfl⟩
                      have tx125 : x125.toInt = x80.toInt + 1 := (jadd ex125 rfl jz_1 (by omega) (by omega)).trans (by omega)
                      refine lv_iinc (v := x125) (lv' := [(7, .int x125), (6, .int r113), (8, .int r113), (5, .int x78), (4, .int x77), (3, .int (σ 55 9)), (0, .ref (ad 55)), (1, .int a1), (2, .int a2)]) hx hb dX12_fielded_123 hl (k := 2) rfl (by rw [ex125]; rfl) (by decide) rfl (fun ls hl => ?_)
                      refine lv_goto (tgt := 59) hx hb dX12_fielded_126 (by decide) ?_
                      have I126 : jI103 σ112 := jI103_fr (f115 9 (by decide)) I105
                      exact ihlp75 x77 x78 r113 x125 σ112 _ _ ls (by have h93 := tx125; omega) (by have h93 := tx125; omega) (by have h93 := tx125; omega) (fun i hi => ((f114 i hi).trans ((jnp i eσ99 (imp_261 i hi)).trans (f86 i hi)))) (fun i hi => ((f115 i (imp_266 i hi)).trans ((jkp i eσ99 (imp_265 i hi)).trans (f87 i hi))))  p117 I126 I116 hP hS (lv_sub hl [0, 1, 3, 4, 5, 6, 7, 8] rfl)
                    · have kc124 := jnle c124 rfl rfl
                      refine lv_iload hx hb dX12_fielded_115 (lv_at hl 2 rfl) ?_
                      refine lv_istore (lv' := [(4, .int x80), (6, .int r113), (8, .int r113), (7, .int x80), (5, .int x78), (3, .int (σ 55 9)), (0, .ref (ad 55)), (1, .int a1), (2, .int a2)]) hx hb dX12_fielded_117 hl (by decide) rfl (fun ls hl => ?_)
                      refine lv_iload hx hb dX12_fielded_119 (lv_at hl 2 rfl) ?_
                      refine lv_istore (lv' := [(5, .int r113), (4, .int x80), (6, .int r113), (8, .int r113), (7, .int x80), (3, .int (σ 55 9)), (0, .ref (ad 55)), (1, .int a1), (2, .int a2)]) hx hb dX12_fielded_121 hl (by decide) rfl (fun ls hl => ?_)
                      obtain ⟨x127, ex127⟩ : ∃ y : Int32, y = x80 + 1 := ⟨_, rfl⟩
                      have tx127 : x127.toInt = x80.toInt + 1 := (jadd ex127 rfl jz_1 (by omega) (by omega)).trans (by omega)
                      refine lv_iinc (v := x127) (lv' := [(7, .int x127), (5, .int r113), (4, .int x80), (6, .int r113), (8, .int r113), (3, .int (σ 55 9)), (0, .ref (ad 55)), (1, .int a1), (2, .int a2)]) hx hb dX12_fielded_123 hl (k := 4) rfl (by rw [ex127]; rfl) (by decide) rfl (fun ls hl => ?_)
                      refine lv_goto (tgt := 59) hx hb dX12_fielded_126 (by decide) ?_
                      have I128 : jI103 σ112 := jI103_fr (f115 9 (by decide)) I105
                      exact ihlp75 x80 r113 r113 x127 σ112 _ _ ls (by have h93 := tx127; omega) (by have h93 := tx127; omega) (by have h93 := tx127; omega) (fun i hi => ((f114 i hi).trans ((jnp i eσ99 (imp_261 i hi)).trans (f86 i hi)))) (fun i hi => ((f115 i (imp_266 i hi)).trans ((jkp i eσ99 (imp_265 i hi)).trans (f87 i hi))))  p117 I128 I116 hP hS (lv_sub hl [0, 3, 1, 2, 5, 6, 7, 8] rfl)
                · have kc101 := jne c101 rfl t1
                  refine lv_ldcw (v := 2000000000) hx hb hown (hts _ kw_34_4) dX12_fielded_81 ?_
                  refine lv_goto (tgt := 91) hx hb dX12_fielded_84 (by decide) ?_
                  refine lv_istore (lv' := [(8, .int 2000000000), (7, .int x80), (6, .int x79), (5, .int x78), (4, .int x77), (3, .int (σ 55 9)), (0, .ref (ad 55)), (1, .int a1), (2, .int a2)]) hx hb dX12_fielded_91 hl (by decide) rfl (fun ls hl => ?_)
                  refine lv_iload hx hb dX12_fielded_93 (lv_at hl 1 rfl) ?_
                  refine lv_iload_n hx hb dX12_fielded_95 rfl (lv_at hl 7 rfl) ?_
                  refine lv_icmp_ne (tgt := 104) hx hb dX12_fielded_96 (by decide) (fun c129 => ?_) (fun c129 => ?_)
                  · have kc129 := jne c129 rfl t1
                    refine lv_iload hx hb dX12_fielded_104 (lv_at hl 2 rfl) ?_
                    refine lv_istore (lv' := [(6, .int x79), (8, .int 2000000000), (7, .int x80), (5, .int x78), (4, .int x77), (3, .int (σ 55 9)), (0, .ref (ad 55)), (1, .int a1), (2, .int a2)]) hx hb dX12_fielded_106 hl (by decide) rfl (fun ls hl => ?_)
                    refine lv_iload hx hb dX12_fielded_108 (lv_at hl 1 rfl) ?_
                    refine lv_iload hx hb dX12_fielded_110 (lv_at hl 3 rfl) ?_
                    refine lv_icmp_ge (tgt := 123) hx hb dX12_fielded_112 (by decide) (fun c130 => ?_) (fun c130 => ?_)
                    · have kc130 := jle c130 rfl jz_2000000000
                      obtain ⟨x131, ex131⟩ : ∃ y : Int32, y = x80 + 1 := ⟨_, rfl⟩
                      have tx131 : x131.toInt = x80.toInt + 1 := (jadd ex131 rfl jz_1 (by omega) (by omega)).trans (by omega)
                      refine lv_iinc (v := x131) (lv' := [(7, .int x131), (6, .int x79), (8, .int 2000000000), (5, .int x78), (4, .int x77), (3, .int (σ 55 9)), (0, .ref (ad 55)), (1, .int a1), (2, .int a2)]) hx hb dX12_fielded_123 hl (k := 2) rfl (by rw [ex131]; rfl) (by decide) rfl (fun ls hl => ?_)
                      refine lv_goto (tgt := 59) hx hb dX12_fielded_126 (by decide) ?_
                      have p132 : jKept σ99 := jKept.fr (jnp 75 eσ99 (by decide)) (jnp 76 eσ99 (by decide)) (jnp 77 eσ99 (by decide)) p88
                      have z133 : (σ99 55 9).toInt = x80.toInt := (congrArg Int32.toInt (show σ99 55 9 = x80 from (jsp eσ99)))
                      have I134 : jI103 σ99 := (show 0 ≤ (σ99 55 9).toInt ∧ (σ99 55 9).toInt ≤ 3 by omega)
                      have I135 : jI119 σ99 := jI119_fr (jnp 68 eσ99 (by decide)) p90
                      exact ihlp75 x77 x78 x79 x131 σ99 _ _ ls (by have h93 := tx131; omega) (by have h93 := tx131; omega) (by have h93 := tx131; omega) (fun i hi => ((jnp i eσ99 (imp_261 i hi)).trans (f86 i hi))) (fun i hi => ((jkp i eσ99 (imp_265 i hi)).trans (f87 i hi)))  p132 I134 I135 hP hS (lv_sub hl [0, 1, 3, 4, 5, 6, 7, 8] rfl)
                    · have kc130 := jnle c130 rfl jz_2000000000
                      refine lv_iload hx hb dX12_fielded_115 (lv_at hl 2 rfl) ?_
                      refine lv_istore (lv' := [(4, .int x80), (6, .int x79), (8, .int 2000000000), (7, .int x80), (5, .int x78), (3, .int (σ 55 9)), (0, .ref (ad 55)), (1, .int a1), (2, .int a2)]) hx hb dX12_fielded_117 hl (by decide) rfl (fun ls hl => ?_)
                      refine lv_iload hx hb dX12_fielded_119 (lv_at hl 2 rfl) ?_
                      refine lv_istore (lv' := [(5, .int 2000000000), (4, .int x80), (6, .int x79), (8, .int 2000000000), (7, .int x80), (3, .int (σ 55 9)), (0, .ref (ad 55)), (1, .int a1), (2, .int a2)]) hx hb dX12_fielded_121 hl (by decide) rfl (fun ls hl => ?_)
                      obtain ⟨x136, ex136⟩ : ∃ y : Int32, y = x80 + 1 := ⟨_, rfl⟩
                      have tx136 : x136.toInt = x80.toInt + 1 := (jadd ex136 rfl jz_1 (by omega) (by omega)).trans (by omega)
                      refine lv_iinc (v := x136) (lv' := [(7, .int x136), (5, .int 2000000000), (4, .int x80), (6, .int x79), (8, .int 2000000000), (3, .int (σ 55 9)), (0, .ref (ad 55)), (1, .int a1), (2, .int a2)]) hx hb dX12_fielded_123 hl (k := 4) rfl (by rw [ex136]; rfl) (by decide) rfl (fun ls hl => ?_)
                      refine lv_goto (tgt := 59) hx hb dX12_fielded_126 (by decide) ?_
                      have p137 : jKept σ99 := jKept.fr (jnp 75 eσ99 (by decide)) (jnp 76 eσ99 (by decide)) (jnp 77 eσ99 (by decide)) p88
                      have z138 : (σ99 55 9).toInt = x80.toInt := (congrArg Int32.toInt (show σ99 55 9 = x80 from (jsp eσ99)))
                      have I139 : jI103 σ99 := (show 0 ≤ (σ99 55 9).toInt ∧ (σ99 55 9).toInt ≤ 3 by omega)
                      have I140 : jI119 σ99 := jI119_fr (jnp 68 eσ99 (by decide)) p90
                      exact ihlp75 x80 2000000000 x79 x136 σ99 _ _ ls (by have h91 := jz_2000000000; have h93 := tx136; omega) (by have h91 := jz_2000000000; have h93 := tx136; omega) (by have h91 := jz_2000000000; have h93 := tx136; omega) (fun i hi => ((jnp i eσ99 (imp_261 i hi)).trans (f86 i hi))) (fun i hi => ((jkp i eσ99 (imp_265 i hi)).trans (f87 i hi)))  p137 I139 I140 hP hS (lv_sub hl [0, 3, 1, 2, 5, 6, 7, 8] rfl)
                  · have kc129 := jeq c129 rfl t1
                    refine lv_iload hx hb dX12_fielded_99 (lv_at hl 0 rfl) ?_
                    refine lv_goto (tgt := 106) hx hb dX12_fielded_101 (by decide) ?_
                    refine lv_istore (lv' := [(6, .int 2000000000), (8, .int 2000000000), (7, .int x80), (5, .int x78), (4, .int x77), (3, .int (σ 55 9)), (0, .ref (ad 55)), (1, .int a1), (2, .int a2)]) hx hb dX12_fielded_106 hl (by decide) rfl (fun ls hl => ?_)
                    refine lv_iload hx hb dX12_fielded_108 (lv_at hl 1 rfl) ?_
                    refine lv_iload hx hb dX12_fielded_110 (lv_at hl 3 rfl) ?_
                    refine lv_icmp_ge (tgt := 123) hx hb dX12_fielded_112 (by decide) (fun c141 => ?_) (fun c141 => ?_)
                    · have kc141 := jle c141 rfl jz_2000000000
                      obtain ⟨x142, ex142⟩ : ∃ y : Int32, y = x80 + 1 := ⟨_, rfl⟩
                      have tx142 : x142.toInt = x80.toInt + 1 := (jadd ex142 rfl jz_1 (by omega) (by omega)).trans (by omega)
                      refine lv_iinc (v := x142) (lv' := [(7, .int x142), (6, .int 2000000000), (8, .int 2000000000), (5, .int x78), (4, .int x77), (3, .int (σ 55 9)), (0, .ref (ad 55)), (1, .int a1), (2, .int a2)]) hx hb dX12_fielded_123 hl (k := 2) rfl (by rw [ex142]; rfl) (by decide) rfl (fun ls hl => ?_)
                      refine lv_goto (tgt := 59) hx hb dX12_fielded_126 (by decide) ?_
                      have p143 : jKept σ99 := jKept.fr (jnp 75 eσ99 (by decide)) (jnp 76 eσ99 (by decide)) (jnp 77 eσ99 (by decide)) p88
                      have z144 : (σ99 55 9).toInt = x80.toInt := (congrArg Int32.toInt (show σ99 55 9 = x80 from (jsp eσ99)))
                      have I145 : jI103 σ99 := (show 0 ≤ (σ99 55 9).toInt ∧ (σ99 55 9).toInt ≤ 3 by omega)
                      have I146 : jI119 σ99 := jI119_fr (jnp 68 eσ99 (by decide)) p90
                      exact ihlp75 x77 x78 2000000000 x142 σ99 _ _ ls (by have h92 := jz_2000000000; have h93 := tx142; omega) (by have h92 := jz_2000000000; have h93 := tx142; omega) (by have h92 := jz_2000000000; have h93 := tx142; omega) (fun i hi => ((jnp i eσ99 (imp_261 i hi)).trans (f86 i hi))) (fun i hi => ((jkp i eσ99 (imp_265 i hi)).trans (f87 i hi)))  p143 I145 I146 hP hS (lv_sub hl [0, 1, 3, 4, 5, 6, 7, 8] rfl)
                    · have kc141 := jnle c141 rfl jz_2000000000
                      refine lv_iload hx hb dX12_fielded_115 (lv_at hl 2 rfl) ?_
                      refine lv_istore (lv' := [(4, .int x80), (6, .int 2000000000), (8, .int 2000000000), (7, .int x80), (5, .int x78), (3, .int (σ 55 9)), (0, .ref (ad 55)), (1, .int a1), (2, .int a2)]) hx hb dX12_fielded_117 hl (by decide) rfl (fun ls hl => ?_)
                      refine lv_iload hx hb dX12_fielded_119 (lv_at hl 2 rfl) ?_
                      refine lv_istore (lv' := [(5, .int 2000000000), (4, .int x80), (6, .int 2000000000), (8, .int 2000000000), (7, .int x80), (3, .int (σ 55 9)), (0, .ref (ad 55)), (1, .int a1), (2, .int a2)]) hx hb dX12_fielded_121 hl (by decide) rfl (fun ls hl => ?_)
                      obtain ⟨x147, ex147⟩ : ∃ y : Int32, y = x80 + 1 := ⟨_, rfl⟩
                      have tx147 : x147.toInt = x80.toInt + 1 := (jadd ex147 rfl jz_1 (by omega) (by omega)).trans (by omega)
                      refine lv_iinc (v := x147) (lv' := [(7, .int x147), (5, .int 2000000000), (4, .int x80), (6, .int 2000000000), (8, .int 2000000000), (3, .int (σ 55 9)), (0, .ref (ad 55)), (1, .int a1), (2, .int a2)]) hx hb dX12_fielded_123 hl (k := 4) rfl (by rw [ex147]; rfl) (by decide) rfl (fun ls hl => ?_)
                      refine lv_goto (tgt := 59) hx hb dX12_fielded_126 (by decide) ?_
                      have p148 : jKept σ99 := jKept.fr (jnp 75 eσ99 (by decide)) (jnp 76 eσ99 (by decide)) (jnp 77 eσ99 (by decide)) p88
                      have z149 : (σ99 55 9).toInt = x80.toInt := (congrArg Int32.toInt (show σ99 55 9 = x80 from (jsp eσ99)))
                      have I150 : jI103 σ99 := (show 0 ≤ (σ99 55 9).toInt ∧ (σ99 55 9).toInt ≤ 3 by omega)
                      have I151 : jI119 σ99 := jI119_fr (jnp 68 eσ99 (by decide)) p90
                      exact ihlp75 x80 2000000000 2000000000 x147 σ99 _ _ ls (by have h91 := jz_2000000000; have h92 := jz_2000000000; have h93 := tx147; omega) (by have h91 := jz_2000000000; have h92 := jz_2000000000; have h93 := tx147; omega) (by have h91 := jz_2000000000; have h92 := jz_2000000000; have h93 := tx147; omega) (fun i hi => ((jnp i eσ99 (imp_261 i hi)).trans (f86 i hi))) (fun i hi => ((jkp i eσ99 (imp_265 i hi)).trans (f87 i hi)))  p148 I150 I151 hP hS (lv_sub hl [0, 3, 1, 2, 5, 6, 7, 8] rfl)
          exact lp75 1000000 0 2000000000 0 0 σ _ _ ls (by have h90 := jz_0; have h91 := jz_2000000000; have h92 := jz_0; have h93 := jz_0; omega) (by have h90 := jz_0; have h91 := jz_2000000000; have h92 := jz_0; have h93 := jz_0; omega) (by have h90 := jz_0; have h91 := jz_2000000000; have h92 := jz_0; have h93 := jz_0; omega) (fun _ _ => rfl) (fun _ _ => rfl)  hs_jKept hI103 hI119 hP hS hl
        · have kc74 := jnle c74 rfl jz_8
          refine lv_bipush (v := (-4)) hx hb dX12_fielded_37 (by decide) ?_
          exact hret (-4) σ τ _ _ _ _ rfl ⟨rfl, (fun _ _ => rfl), (fun _ _ => rfl), hI103, hI119, hs_jKept, (by omega), trivial⟩ hP hS dX12_fielded_39
      · obtain ⟨q153, k152⟩ := h71
        have q153 := q153.symm
        subst q153
        refine lv_if_ne (tgt := 28) hx hb dX12_fielded_23 (by decide) (fun c => absurd (by decide) c) (fun _ => ?_)
        refine lv_iconst (v := (-1)) hx hb dX12_fielded_26 (by decide) ?_
        exact hret (-1) σ τ _ _ _ _ rfl ⟨rfl, (fun _ _ => rfl), (fun _ _ => rfl), hI103, hI119, hs_jKept, (by omega), trivial⟩ hP hS dX12_fielded_27
  · obtain ⟨q155, k154⟩ := h10
    have q155 := q155.symm
    subst q155
    refine lv_if_eq (tgt := 26) hx hb dX12_fielded_7 (by decide) (fun _ => ?_) (fun c => absurd (by decide) c)
    refine lv_iconst (v := (-1)) hx hb dX12_fielded_26 (by decide) ?_
    exact hret (-1) σ τ _ _ _ _ rfl ⟨rfl, (fun _ _ => rfl), (fun _ _ => rfl), hI103, hI119, hs_jKept, (by omega), trivial⟩ hP hS dX12_fielded_27
set_option maxHeartbeats 4000000 in
set_option maxRecDepth 100000 in
theorem c_X12_kept (l : Launch) (D : va_G) (cI cL : ClassId) (ad zz : Nat → Nat) (hJ : jD ad) (σ : Nat → Nat → Int32) (τ : Nat → Nat → Int64) (a1 : Int32) (A1 : Int) (t1 : a1.toInt = A1) (hI101 : jI101 σ) (hI102 : jI102 σ) (hI103 : jI103 σ) (hI104 : jI104 σ) (hI105 : jI105 σ) (hI106 : jI106 σ) (hI119 : jI119 σ) (hs_jKept : jKept σ) : jM l yX12_kept cX12_kept 4 (some .int) ({ frames := 103, cells := 0, slots := 0, locals := 5061 }) D cI cL ad zz [.ref (ad 55), .int a1] σ τ (fun r σ' τ' => τ = τ' ∧ (∀ i : Nat, (i < 55 ∨ 55 < i) ∧ (i < 66 ∨ 66 < i) ∧ (i < 68 ∨ 69 < i) ∧ (i < 74 ∨ 78 < i) → σ' i = σ i) ∧ (∀ k : Nat, (k < 18 ∨ 18 < k) ∧ (k < 19 ∨ 19 < k) ∧ (k < 20 ∨ 20 < k) ∧ (k < 21 ∨ 21 < k) ∧ (k < 22 ∨ 22 < k) ∧ (k < 25 ∨ 25 < k) ∧ (k < 26 ∨ 26 < k) ∧ (k < 27 ∨ 27 < k) ∧ (k < 37 ∨ 37 < k) ∧ (k < 42 ∨ 42 < k) → σ' 55 k = σ 55 k) ∧ (jI119 σ') ∧ (jKept σ') ∧ True) := by
  refine jM.of hJ (by decide +kernel) (nt := .int) rfl (Nat.le_of_ble_eq_true rfl) ?_
  intro p e s m args below meth c Q ls hC hret hl hP
  obtain ⟨hx, hb, hr, hml, hown, hts, hK, -, hlocks, hZ⟩ := hC
  have hown : s.vm.findClass RX12 = some m.cls := hown
  have hS : va_S (jA ad) s.heap s.heap [] := va_S.rf
  have hA : ∀ q, jA ad q → jA ad q := fun _ h => h
  have hl : lv_has ls 4 [(0, .ref (ad 55)), (1, .int a1)] := hl
  have g1 := jrg t1
  obtain ⟨i1, w2, w3⟩ : (0 ≤ (σ 55 6).toInt ∧ (σ 55 6).toInt ≤ 4) ∧ (∀ k : Nat, k < 4 → 0 ≤ (σ 60 k).toInt ∧ (σ 60 k).toInt ≤ 50) ∧ (∀ k : Nat, k < 4 → 0 ≤ (σ 61 k).toInt ∧ (σ 61 k).toInt ≤ 20) := id hI102
  obtain ⟨i4, i5, i6, w7, w8⟩ : (1 ≤ (σ 55 10).toInt ∧ (σ 55 10).toInt ≤ 8) ∧ (1 ≤ (σ 55 12).toInt ∧ (σ 55 12).toInt ≤ 12) ∧ (0 ≤ (σ 55 13).toInt ∧ (σ 55 13).toInt ≤ 999) ∧ (∀ k : Nat, k < 8 → 0 ≤ (σ 62 k).toInt ∧ (σ 62 k).toInt ≤ 3) ∧ (∀ k : Nat, k < 8 → 0 ≤ (σ 67 k).toInt ∧ (σ 67 k).toInt ≤ 3) := id hI104
  refine lv_aload_n hx hb dX12_kept_0 rfl (lv_at hl 0 rfl) ?_
  refine lv_iload_n hx hb dX12_kept_1 rfl (lv_at hl 1 rfl) ?_
  refine jcallV (As := [.int a1]) (rest := []) ⟨hx, hb, hml, hown, hts⟩ hK hP hA hS hZ (c_X12_isBowler l D cI cL ad zz hJ σ τ a1 (A1) t1 hI102) cw_RX12_146 (jc_55 cI cL ad σ τ) rfl ⟨Nat.le_of_ble_eq_true rfl, Nat.le_of_ble_eq_true rfl⟩ rfl rfl rfl hl.1 rfl (Nat.le_of_ble_eq_true rfl) dX12_kept_2 ⟨Nat.zero_le _, Nat.zero_le _⟩ (fun r10 σ9 τ9 H locs h9 hP hS => ?_)
  obtain ⟨⟨rfl, rfl⟩, h9⟩ := h9
  rcases h9 with h11 | h12
  · obtain ⟨q14, k13⟩ := h11
    have q14 := q14.symm
    subst q14
    refine lv_if_ne (tgt := 10) hx hb dX12_kept_5 (by decide) (fun _ => ?_) (fun c => absurd c (by decide))
    refine lv_aload_n hx hb dX12_kept_10 rfl (lv_at hl 0 rfl) ?_
    refine va_get (D := D) hx hb hts inlX12 hown hK hP 55 (jc_55 cI cL ad σ τ) rfl 12 (by decide) (hts _ kw_8_16) (fun _ h9 => h9) rfl dX12_kept_11 ?_
    refine lv_bipush (v := 8) hx hb dX12_kept_14 (by decide) ?_
    refine lv_icmp_le (tgt := 22) hx hb dX12_kept_16 (by decide) (fun c15 => ?_) (fun c15 => ?_)
    · have kc15 := jle c15 rfl jz_8
      refine lv_aload_n hx hb dX12_kept_22 rfl (lv_at hl 0 rfl) ?_
      have w16 : ∀ k : Nat, k < 4 → 0 ≤ (σ 68 k).toInt ∧ (σ 68 k).toInt ≤ 3 := hI119
      refine jcallVv (As := []) (rest := []) ⟨hx, hb, hml, hown, hts⟩ hK hP hA hS hZ (c_X12_begin l D cI cL ad zz hJ σ τ hI104 w16) cw_RX12_256 (jc_55 cI cL ad σ τ) rfl ⟨Nat.le_of_ble_eq_true rfl, Nat.le_of_ble_eq_true rfl⟩ rfl rfl rfl hl.1 rfl (Nat.le_of_ble_eq_true rfl) dX12_kept_23 ⟨Nat.zero_le _, Nat.zero_le _⟩ (fun σ17 τ17 H locs h17 hP hS => ?_)
      obtain ⟨rfl, f19, f20, I21, h17⟩ := h17
      obtain ⟨i22, i23, i24, i25, i26, w27⟩ : (0 ≤ (σ17 55 25).toInt) ∧ ((σ17 55 25).toInt ≤ (σ17 55 10).toInt) ∧ (0 ≤ (σ17 55 26).toInt) ∧ ((σ17 55 26).toInt ≤ (σ17 55 12).toInt) ∧ ((-1) ≤ (σ17 55 27).toInt ∧ (σ17 55 27).toInt ≤ 3) ∧ (∀ k : Nat, k < 4 → 0 ≤ (σ17 68 k).toInt ∧ (σ17 68 k).toInt ≤ 3) := id I21
      have z28 : (σ17 55 10).toInt = (σ 55 10).toInt := (congrArg Int32.toInt (show σ17 55 10 = (σ 55 10) from (f20 10 (by decide))))
      have z29 : (σ17 55 12).toInt = (σ 55 12).toInt := (congrArg Int32.toInt (show σ17 55 12 = (σ 55 12) from (f20 12 (by decide))))
      obtain ⟨k30, k31, k32, h17⟩ := h17
      refine lv_aload_n hx hb dX12_kept_26 rfl (lv_at hl 0 rfl) ?_
      refine jcallVv (As := []) (rest := []) ⟨hx, hb, hml, hown, hts⟩ hK hP hA hS hZ (c_X12_forgets l D cI cL ad zz hJ σ17 τ) cw_RX12_341 (jc_55 cI cL ad σ17 τ) rfl ⟨Nat.le_of_ble_eq_true rfl, Nat.le_of_ble_eq_true rfl⟩ rfl rfl rfl hl.1 rfl (Nat.le_of_ble_eq_true rfl) dX12_kept_27 ⟨Nat.zero_le _, Nat.zero_le _⟩ (fun σ33 τ33 H locs h33 hP hS => ?_)
      obtain ⟨rfl, f35, f36, h33⟩ := h33
      have w42 : ∀ k : Nat, k < 4 → 0 ≤ (σ33 68 k).toInt ∧ (σ33 68 k).toInt ≤ 3 := (jrr_fr (f35 68 (by decide)) w27)
      have I43 : jI119 σ33 := w42
      have z44 : (σ33 55 12).toInt = (σ 55 12).toInt := (congrArg Int32.toInt (show σ33 55 12 = (σ 55 12) from ((f36 12 (by decide)).trans (f20 12 (by decide)))))
      have z45 : (σ33 55 26).toInt = (σ17 55 26).toInt := (congrArg Int32.toInt (show σ33 55 26 = (σ17 55 26) from (f36 26 (by decide))))
      have z46 : (σ33 55 25).toInt = (σ17 55 25).toInt := (congrArg Int32.toInt (show σ33 55 25 = (σ17 55 25) from (f36 25 (by decide))))
      have z47 : (σ33 55 10).toInt = (σ 55 10).toInt := (congrArg Int32.toInt (show σ33 55 10 = (σ 55 10) from ((f36 10 (by decide)).trans (f20 10 (by decide)))))
      have z48 : (σ33 55 27).toInt = (σ17 55 27).toInt := (congrArg Int32.toInt (show σ33 55 27 = (σ17 55 27) from (f36 27 (by decide))))
      have p49 : jKept σ33 := jKept.fr ((f35 75 (by decide)).trans (f19 75 (by decide))) ((f35 76 (by decide)).trans (f19 76 (by decide))) ((f35 77 (by decide)).trans (f19 77 (by decide))) hs_jKept
      have lp37 : ∀ (n38 : Nat)  (σ41 : Nat → Nat → Int32) (H : Heap) (locs : List Loc) (ls : Array Slot), ((σ41 55 12).toInt - (σ41 55 26).toInt : Int) < n38 → 0 ≤ (σ41 55 25).toInt → (σ41 55 25).toInt ≤ (σ41 55 10).toInt → 0 ≤ (σ41 55 26).toInt → (σ41 55 26).toInt ≤ (σ41 55 12).toInt → (-1) ≤ (σ41 55 27).toInt ∧ (σ41 55 27).toInt ≤ 3 → (∀ i : Nat, (i < 55 ∨ 55 < i) ∧ (i < 66 ∨ 66 < i) ∧ (i < 68 ∨ 69 < i) ∧ (i < 74 ∨ 78 < i) → σ41 i = σ33 i) → (∀ k : Nat, (k < 18 ∨ 18 < k) ∧ (k < 19 ∨ 19 < k) ∧ (k < 20 ∨ 20 < k) ∧ (k < 21 ∨ 21 < k) ∧ (k < 22 ∨ 22 < k) ∧ (k < 25 ∨ 25 < k) ∧ (k < 26 ∨ 26 < k) ∧ (k < 27 ∨ 27 < k) ∧ (k < 37 ∨ 37 < k) → σ41 55 k = σ33 55 k) → jKept σ41 → jI119 σ41 → jH D cI cL ad σ41 τ H → va_S (jA ad) s.heap H locs → lv_has ls 4 [(0, .ref (ad 55)), (1, .int a1)] → W p l e ({ frames := 103, cells := 0, slots := 0, locals := 5061 }) s m args below meth c H locs 0 0 Q (F0 m 30 ls []) := by
        intro n38
        induction n38 with
        | zero => intro  σ41 H locs ls h50 h51 h52 h53 h54 h55; exact absurd h50 (by omega)
        | succ n38 ihlp37 =>
          intro  σ41 H locs ls h50 h51 h52 h53 h54 h55 f56 f57 p58 p59 hP hS hl
          have z60 : (σ41 55 12).toInt = (σ 55 12).toInt := (congrArg Int32.toInt (show σ41 55 12 = (σ 55 12) from ((f57 12 (by decide)).trans ((f36 12 (by decide)).trans (f20 12 (by decide))))))
          have z61 : (σ41 55 10).toInt = (σ 55 10).toInt := (congrArg Int32.toInt (show σ41 55 10 = (σ 55 10) from ((f57 10 (by decide)).trans ((f36 10 (by decide)).trans (f20 10 (by decide))))))
          refine lv_aload_n hx hb dX12_kept_30 rfl (lv_at hl 0 rfl) ?_
          have I62 : jI102 σ41 := jI102_fr ((f57 6 (by decide)).trans ((f36 6 (by decide)).trans (f20 6 (by decide)))) ((f56 60 (by decide)).trans ((f35 60 (by decide)).trans (f19 60 (by decide)))) ((f56 61 (by decide)).trans ((f35 61 (by decide)).trans (f19 61 (by decide)))) hI102
          have I63 : jI104 σ41 := jI104_fr ((f57 10 (by decide)).trans ((f36 10 (by decide)).trans (f20 10 (by decide)))) ((f57 12 (by decide)).trans ((f36 12 (by decide)).trans (f20 12 (by decide)))) ((f57 13 (by decide)).trans ((f36 13 (by decide)).trans (f20 13 (by decide)))) ((f56 62 (by decide)).trans ((f35 62 (by decide)).trans (f19 62 (by decide)))) ((f56 67 (by decide)).trans ((f35 67 (by decide)).trans (f19 67 (by decide)))) hI104
          have w64 : ∀ k : Nat, k < 4 → 0 ≤ (σ41 68 k).toInt ∧ (σ41 68 k).toInt ≤ 3 := p59
          have I65 : jI120 σ41 := ⟨(by omega), (by omega), (by omega), (by omega), (by omega), w64⟩
          refine jcallV (As := []) (rest := []) ⟨hx, hb, hml, hown, hts⟩ hK hP hA hS hZ (c_X12_isEnded l D cI cL ad zz hJ σ41 τ I62 I63 I65) cw_RX12_307 (jc_55 cI cL ad σ41 τ) rfl ⟨Nat.le_of_ble_eq_true rfl, Nat.le_of_ble_eq_true rfl⟩ rfl rfl rfl hl.1 rfl (Nat.le_of_ble_eq_true rfl) dX12_kept_31 ⟨Nat.zero_le _, Nat.zero_le _⟩ (fun r67 σ66 τ66 H locs h66 hP hS => ?_)
          obtain ⟨⟨rfl, rfl⟩, h66⟩ := h66
          rcases h66 with h68 | h69
          · obtain ⟨q71, k70⟩ := h68
            have q71 := q71.symm
            subst q71
            refine lv_if_ne (tgt := 68) hx hb dX12_kept_34 (by decide) (fun _ => ?_) (fun c => absurd c (by decide))
            refine lv_bipush (v := (-2)) hx hb dX12_kept_68 (by decide) ?_
            exact hret (-2) σ41 τ _ _ _ _ rfl ⟨rfl, (fun i hi => ((f56 i hi).trans ((f35 i (imp_258 i hi)).trans (f19 i (imp_255 i hi))))), (fun i hi => ((f57 i (imp_267 i hi)).trans ((f36 i (imp_260 i hi)).trans (f20 i (imp_256 i hi))))), p59, p58, trivial⟩ hP hS dX12_kept_70
          · obtain ⟨q75, k72, k73, k74⟩ := h69
            have q75 := q75.symm
            subst q75
            obtain ⟨B76, k77, k78, w79⟩ := k74
            have z80 : (σ41 55 6).toInt = (σ 55 6).toInt := (congrArg Int32.toInt (show σ41 55 6 = (σ 55 6) from ((f57 6 (by decide)).trans ((f36 6 (by decide)).trans (f20 6 (by decide))))))
            refine lv_if_ne (tgt := 68) hx hb dX12_kept_34 (by decide) (fun c => absurd (by decide) c) (fun _ => ?_)
            refine lv_aload_n hx hb dX12_kept_37 rfl (lv_at hl 0 rfl) ?_
            have p81 : jmb σ41 B76 = 1 := (jmb_fr rfl rfl rfl rfl rfl B76).trans w79
            have I82 : jI101 σ41 := jI101_fr ((f57 4 (by decide)).trans ((f36 4 (by decide)).trans (f20 4 (by decide)))) ((f57 5 (by decide)).trans ((f36 5 (by decide)).trans (f20 5 (by decide)))) ((f56 56 (by decide)).trans ((f35 56 (by decide)).trans (f19 56 (by decide)))) ((f56 57 (by decide)).trans ((f35 57 (by decide)).trans (f19 57 (by decide)))) ((f56 58 (by decide)).trans ((f35 58 (by decide)).trans (f19 58 (by decide)))) ((f56 59 (by decide)).trans ((f35 59 (by decide)).trans (f19 59 (by decide)))) hI101
            have I83 : jI103 σ41 := jI103_fr ((f57 9 (by decide)).trans ((f36 9 (by decide)).trans (f20 9 (by decide)))) hI103
            have I84 : jI105 σ41 := jI105_fr ((f57 15 (by decide)).trans ((f36 15 (by decide)).trans (f20 15 (by decide)))) ((f56 65 (by decide)).trans ((f35 65 (by decide)).trans (f19 65 (by decide)))) hI105
            have I85 : jI106 σ41 := jI106_fr ((f57 32 (by decide)).trans ((f36 32 (by decide)).trans (f20 32 (by decide)))) ((f56 70 (by decide)).trans ((f35 70 (by decide)).trans (f19 70 (by decide)))) ((f56 71 (by decide)).trans ((f35 71 (by decide)).trans (f19 71 (by decide)))) ((f56 72 (by decide)).trans ((f35 72 (by decide)).trans (f19 72 (by decide)))) hI106
            refine jcallV (As := []) (rest := []) ⟨hx, hb, hml, hown, hts⟩ hK hP hA hS hZ ((c_X12_bests l D cI cL ad zz hJ 8).2.2 σ41 τ B76 p81 I82 I62 I83 I63 I84 I85 I65 p58 (by omega) (by omega) (by omega) (by omega)) cw_RX12_280 (jc_55 cI cL ad σ41 τ) rfl ⟨Nat.le_of_ble_eq_true rfl, Nat.le_of_ble_eq_true rfl⟩ rfl rfl rfl hl.1 rfl (Nat.le_of_ble_eq_true rfl) dX12_kept_38 ⟨Nat.zero_le _, Nat.zero_le _⟩ (fun r87 σ86 τ86 H locs h86 hP hS => ?_)
            obtain ⟨rfl, f88, f89, p90, h86⟩ := h86
            obtain ⟨k91, h86⟩ := h86
            have h92 := h86
            obtain ⟨q94, k93⟩ := h92
            refine lv_istore_n (lv' := [(2, .int r87), (0, .ref (ad 55)), (1, .int a1)]) hx hb dX12_kept_41 rfl hl (by decide) rfl (fun ls hl => ?_)
            refine lv_aload_n hx hb dX12_kept_42 rfl (lv_at hl 1 rfl) ?_
            refine va_get (D := D) hx hb hts inlX12 hown hK hP 55 (jc_55 cI cL ad σ86 τ) rfl 37 (by decide) (hts _ kw_33_15) (fun _ h9 => h9) rfl dX12_kept_43 ?_
            refine lv_iload_n hx hb dX12_kept_46 rfl (lv_at hl 2 rfl) ?_
            refine lv_icmp_ne (tgt := 55) hx hb dX12_kept_47 (by decide) (fun c95 => ?_) (fun c95 => ?_)
            · have kc95 := jne c95 rfl t1
              refine lv_aload_n hx hb dX12_kept_55 rfl (lv_at hl 1 rfl) ?_
              refine lv_aload_n hx hb dX12_kept_56 rfl (lv_at hl 1 rfl) ?_
              refine va_get (D := D) hx hb hts inlX12 hown hK hP 55 (jc_55 cI cL ad σ86 τ) rfl 37 (by decide) (hts _ kw_33_15) (fun _ h9 => h9) rfl dX12_kept_57 ?_
              refine lv_iconst (v := 0) hx hb dX12_kept_60 (by decide) ?_
              have w96 : ∀ k : Nat, k < 4 → 0 ≤ (σ86 68 k).toInt ∧ (σ86 68 k).toInt ≤ 3 := (jrr_fr (f88 68 (by decide)) w64)
              have z97 : (σ86 55 6).toInt = (σ 55 6).toInt := (congrArg Int32.toInt (show σ86 55 6 = (σ 55 6) from ((f89 6 (by decide)).trans ((f57 6 (by decide)).trans ((f36 6 (by decide)).trans (f20 6 (by decide)))))))
              have z98 : (σ86 55 27).toInt = (σ41 55 27).toInt := (congrArg Int32.toInt (show σ86 55 27 = (σ41 55 27) from (f89 27 (by decide))))
              have z99 : (σ86 55 25).toInt = (σ41 55 25).toInt := (congrArg Int32.toInt (show σ86 55 25 = (σ41 55 25) from (f89 25 (by decide))))
              have z100 : (σ86 55 26).toInt = (σ41 55 26).toInt := (congrArg Int32.toInt (show σ86 55 26 = (σ41 55 26) from (f89 26 (by decide))))
              have z101 : (σ86 68 0).toInt = (σ41 68 0).toInt := (congrArg Int32.toInt (show σ86 68 0 = (σ41 68 0) from (congrFun (f88 68 (by decide)) 0)))
              have z102 : (σ86 68 1).toInt = (σ41 68 1).toInt := (congrArg Int32.toInt (show σ86 68 1 = (σ41 68 1) from (congrFun (f88 68 (by decide)) 1)))
              have z103 : (σ86 68 2).toInt = (σ41 68 2).toInt := (congrArg Int32.toInt (show σ86 68 2 = (σ41 68 2) from (congrFun (f88 68 (by decide)) 2)))
              have z104 : (σ86 68 3).toInt = (σ41 68 3).toInt := (congrArg Int32.toInt (show σ86 68 3 = (σ41 68 3) from (congrFun (f88 68 (by decide)) 3)))
              refine jcallV (As := [.int (σ86 55 37), .int 0]) (rest := []) ⟨hx, hb, hml, hown, hts⟩ hK hP hA hS hZ (c_X12_goes_0 l D cI cL ad zz hJ σ86 τ (σ86 55 37) ((σ86 55 37).toInt) rfl w96 (by omega) (by omega) (by omega) (by omega) (by omega)) cw_RX12_296 (jc_55 cI cL ad σ86 τ) rfl ⟨Nat.le_of_ble_eq_true rfl, Nat.le_of_ble_eq_true rfl⟩ rfl rfl rfl hl.1 rfl (Nat.le_of_ble_eq_true rfl) dX12_kept_61 ⟨Nat.zero_le _, Nat.zero_le _⟩ (fun r106 σ105 τ105 H locs h105 hP hS => ?_)
              obtain ⟨rfl, f107, f108, w109, w110, w111, h105⟩ := h105
              obtain ⟨k112, k113, k114, h105⟩ := h105
              have h115 := h105
              obtain ⟨q121, k116, k117, k118, k119, k120⟩ := h115
              refine lv_istore_n (lv' := [(3, .int r106), (2, .int r87), (0, .ref (ad 55)), (1, .int a1)]) hx hb dX12_kept_64 rfl hl (by decide) rfl (fun ls hl => ?_)
              refine lv_goto (tgt := 30) hx hb dX12_kept_65 (by decide) ?_
              have z122 : (σ105 55 12).toInt = (σ 55 12).toInt := (congrArg Int32.toInt (show σ105 55 12 = (σ 55 12) from ((f108 12 (by decide)).trans ((f89 12 (by decide)).trans ((f57 12 (by decide)).trans ((f36 12 (by decide)).trans (f20 12 (by decide))))))))
              have z123 : (σ105 55 10).toInt = (σ 55 10).toInt := (congrArg Int32.toInt (show σ105 55 10 = (σ 55 10) from ((f108 10 (by decide)).trans ((f89 10 (by decide)).trans ((f57 10 (by decide)).trans ((f36 10 (by decide)).trans (f20 10 (by decide))))))))
              have p124 : jKept σ105 := jKept.fr (f107 75 (by decide)) (f107 76 (by decide)) (f107 77 (by decide)) p90
              have I125 : jI119 σ105 := w109
              exact ihlp37  σ105 _ _ ls (by omega) (by omega) (by omega) (by omega) (by omega) (by omega) (fun i hi => ((f107 i (imp_255 i hi)).trans ((f88 i (imp_257 i hi)).trans (f56 i hi)))) (fun i hi => ((f108 i (imp_268 i hi)).trans ((f89 i (imp_269 i hi)).trans (f57 i hi))))  p124 I125 hP hS (lv_sub hl [2, 3] rfl)
            · have kc95 := jeq c95 rfl t1
              refine lv_aload_n hx hb dX12_kept_50 rfl (lv_at hl 1 rfl) ?_
              refine va_get (D := D) hx hb hts inlX12 hown hK hP 55 (jc_55 cI cL ad σ86 τ) rfl 26 (by decide) (hts _ kw_23_5) (fun _ h9 => h9) rfl dX12_kept_51 ?_
              have m126 : σ86 55 26 = (σ41 55 26) := (f89 26 (by decide))
              refine jtopr m126 ?_
              have I127 : jI119 σ86 := jI119_fr (f88 68 (by decide)) p59
              exact hret (σ41 55 26) σ86 τ _ _ _ _ rfl ⟨rfl, (fun i hi => ((f88 i (imp_257 i hi)).trans ((f56 i hi).trans ((f35 i (imp_258 i hi)).trans (f19 i (imp_255 i hi)))))), (fun i hi => ((f89 i (imp_259 i hi)).trans ((f57 i (imp_267 i hi)).trans ((f36 i (imp_260 i hi)).trans (f20 i (imp_256 i hi)))))), I127, p90, trivial⟩ hP hS dX12_kept_54
      exact lp37 1000000  σ33 _ _ ls (by omega) (by omega) (by omega) (by omega) (by omega) (by omega) (fun _ _ => rfl) (fun _ _ => rfl)  p49 I43 hP hS hl
    · have kc15 := jnle c15 rfl jz_8
      refine lv_bipush (v := (-4)) hx hb dX12_kept_19 (by decide) ?_
      exact hret (-4) σ τ _ _ _ _ rfl ⟨rfl, (fun _ _ => rfl), (fun _ _ => rfl), hI119, hs_jKept, trivial⟩ hP hS dX12_kept_21
  · obtain ⟨q129, k128⟩ := h12
    have q129 := q129.symm
    subst q129
    refine lv_if_ne (tgt := 10) hx hb dX12_kept_5 (by decide) (fun c => absurd (by decide) c) (fun _ => ?_)
    refine lv_iconst (v := (-1)) hx hb dX12_kept_8 (by decide) ?_
    exact hret (-1) σ τ _ _ _ _ rfl ⟨rfl, (fun _ _ => rfl), (fun _ _ => rfl), hI119, hs_jKept, trivial⟩ hP hS dX12_kept_9
set_option maxHeartbeats 4000000 in
set_option maxRecDepth 100000 in
theorem c_X12_orders_5 (l : Launch) (D : va_G) (cI cL : ClassId) (ad zz : Nat → Nat) (hJ : jD ad) (σ : Nat → Nat → Int32) (τ : Nat → Nat → Int64) (a2 : Int32) (A2 : Int) (t2 : a2.toInt = A2) (a3 : Int32) (A3 : Int) (t3 : a3.toInt = A3) (hI101 : jI101 σ) (hI102 : jI102 σ) (hI103 : jI103 σ) (hI104 : jI104 σ) (hI105 : jI105 σ) (hI106 : jI106 σ) (hI119 : jI119 σ) (hI111 : jI111 σ) (hs_jKept : jKept σ) (hp0 : (σ 55 10).toInt ≤ 5) (hp1 : 5 ≤ (σ 55 10).toInt) (hp2 : (σ 55 12).toInt ≤ 8) : jMv l yX12_orders cX12_orders 6 none ({ frames := 104, cells := 0, slots := 0, locals := 5081 }) D cI cL ad zz [.ref (ad 55), .int 5, .int a2, .int a3] σ τ (fun σ' τ' => τ = τ' ∧ (∀ i : Nat, (i < 55 ∨ 55 < i) ∧ (i < 62 ∨ 62 < i) ∧ (i < 66 ∨ 66 < i) ∧ (i < 68 ∨ 69 < i) ∧ (i < 74 ∨ 78 < i) → σ' i = σ i) ∧ (∀ k : Nat, (k < 18 ∨ 18 < k) ∧ (k < 19 ∨ 19 < k) ∧ (k < 20 ∨ 20 < k) ∧ (k < 21 ∨ 21 < k) ∧ (k < 22 ∨ 22 < k) ∧ (k < 25 ∨ 25 < k) ∧ (k < 26 ∨ 26 < k) ∧ (k < 27 ∨ 27 < k) ∧ (k < 37 ∨ 37 < k) ∧ (k < 42 ∨ 42 < k) ∧ (k < 45 ∨ 45 < k) ∧ (k < 46 ∨ 46 < k) → σ' 55 k = σ 55 k) ∧ (jI104 σ') ∧ (jI119 σ') ∧ (jKept σ') ∧ True) := by
  refine jMv.of hJ (by decide +kernel) rfl (Nat.le_of_ble_eq_true rfl) ?_
  intro p e s m args below meth c Q ls hC hret hl hP
  obtain ⟨hx, hb, hr, hml, hown, hts, hK, -, hlocks, hZ⟩ := hC
  have hown : s.vm.findClass RX12 = some m.cls := hown
  have hS : va_S (jA ad) s.heap s.heap [] := va_S.rf
  have hA : ∀ q, jA ad q → jA ad q := fun _ h => h
  have hl : lv_has ls 6 [(0, .ref (ad 55)), (1, .int 5), (2, .int a2), (3, .int a3)] := hl
  have g2 := jrg t2
  have g3 := jrg t3
  obtain ⟨i1, i2, i3, w4, w5⟩ : (1 ≤ (σ 55 10).toInt ∧ (σ 55 10).toInt ≤ 8) ∧ (1 ≤ (σ 55 12).toInt ∧ (σ 55 12).toInt ≤ 12) ∧ (0 ≤ (σ 55 13).toInt ∧ (σ 55 13).toInt ≤ 999) ∧ (∀ k : Nat, k < 8 → 0 ≤ (σ 62 k).toInt ∧ (σ 62 k).toInt ≤ 3) ∧ (∀ k : Nat, k < 8 → 0 ≤ (σ 67 k).toInt ∧ (σ 67 k).toInt ≤ 3) := id hI104
  have w6 : ∀ k : Nat, k < 5 → 0 ≤ (σ 79 k).toInt ∧ (σ 79 k).toInt ≤ 3 := hI111
  refine lv_iload_n hx hb dX12_orders_0 rfl (lv_at hl 1 rfl) ?_
  refine lv_aload_n hx hb dX12_orders_1 rfl (lv_at hl 0 rfl) ?_
  refine va_get (D := D) hx hb hts inlX12 hown hK hP 55 (jc_55 cI cL ad σ τ) rfl 10 (by decide) (hts _ kw_8_15) (fun _ h9 => h9) rfl dX12_orders_2 ?_
  refine lv_icmp_ne (tgt := 35) hx hb dX12_orders_5 (by decide) (fun c => absurd (jne c jz_5 rfl) (by omega)) (fun c7 => ?_)
  have kc7 := jeq c7 jz_5 rfl
  refine lv_aload_n hx hb dX12_orders_8 rfl (lv_at hl 0 rfl) ?_
  refine jcallV (As := []) (rest := []) ⟨hx, hb, hml, hown, hts⟩ hK hP hA hS hZ (c_X12_bestNow l D cI cL ad zz hJ σ τ hI101 hI102 hI103 hI104 hI105 hI106 hI119 hs_jKept (by omega)) cw_RX12_346 (jc_55 cI cL ad σ τ) rfl ⟨Nat.le_of_ble_eq_true rfl, Nat.le_of_ble_eq_true rfl⟩ rfl rfl rfl hl.1 rfl (Nat.le_of_ble_eq_true rfl) dX12_orders_9 ⟨Nat.zero_le _, Nat.zero_le _⟩ (fun r9 σ8 τ8 H locs h8 hP hS => ?_)
  obtain ⟨rfl, f10, f11, I12, p13, h8⟩ := h8
  refine lv_istore (lv' := [(4, .int r9), (0, .ref (ad 55)), (1, .int 5), (2, .int a2), (3, .int a3)]) hx hb dX12_orders_12 hl (by decide) rfl (fun ls hl => ?_)
  refine lv_iload hx hb dX12_orders_14 (lv_at hl 0 rfl) ?_
  refine lv_aload_n hx hb dX12_orders_16 rfl (lv_at hl 1 rfl) ?_
  refine va_get (D := D) hx hb hts inlX12 hown hK hP 55 (jc_55 cI cL ad σ8 τ) rfl 46 (by decide) (hts _ kw_40_17) (fun _ h9 => h9) rfl dX12_orders_17 ?_
  have m14 : σ8 55 46 = (σ 55 46) := (f11 46 (by decide))
  refine jtopr m14 ?_
  refine lv_icmp_le (tgt := 34) hx hb dX12_orders_20 (by decide) (fun c15 => ?_) (fun c15 => ?_)
  · have kc15 := jle c15 rfl rfl
    have I16 : jI104 σ8 := jI104_fr (f11 10 (by decide)) (f11 12 (by decide)) (f11 13 (by decide)) (f10 62 (by decide)) (f10 67 (by decide)) hI104
    exact hret σ8 τ _ _ _ _ ⟨rfl, (fun i hi => (f10 i (imp_270 i hi))), (fun i hi => (f11 i (imp_271 i hi))), I16, I12, p13, trivial⟩ hP hS dX12_orders_34
  · have kc15 := jnle c15 rfl rfl
    refine lv_aload_n hx hb dX12_orders_23 rfl (lv_at hl 1 rfl) ?_
    refine lv_iload hx hb dX12_orders_24 (lv_at hl 0 rfl) ?_
    refine jput (ty := .int) hx hb hts inlX12 tyX12 tyX12_ok nmX12 hown hK hP hJ hA hS (jc_55 cI cL ad σ8 τ) rfl (k := 46) (by decide) (Nat.le_of_ble_eq_true rfl) (jp_55_46 cI cL ad σ8 τ r9) (hts _ kw_40_17) (fun _ h9 => h9) rfl (by decide +kernel) rfl rfl dX12_orders_26 (fun σ17 H locs eσ17 hP hS => ?_)
    refine lv_aload_n hx hb dX12_orders_29 rfl (lv_at hl 1 rfl) ?_
    refine lv_iload_n hx hb dX12_orders_30 rfl (lv_at hl 4 rfl) ?_
    refine jput (ty := .int) hx hb hts inlX12 tyX12 tyX12_ok nmX12 hown hK hP hJ hA hS (jc_55 cI cL ad σ17 τ) rfl (k := 45) (by decide) (Nat.le_of_ble_eq_true rfl) (jp_55_45 cI cL ad σ17 τ a3) (hts _ kw_40_18) (fun _ h9 => h9) rfl (by decide +kernel) rfl rfl dX12_orders_31 (fun σ18 H locs eσ18 hP hS => ?_)
    have I19 : jI104 σ18 := jI104_fr ((jkp 10 eσ18 (by decide)).trans ((jkp 10 eσ17 (by decide)).trans (f11 10 (by decide)))) ((jkp 12 eσ18 (by decide)).trans ((jkp 12 eσ17 (by decide)).trans (f11 12 (by decide)))) ((jkp 13 eσ18 (by decide)).trans ((jkp 13 eσ17 (by decide)).trans (f11 13 (by decide)))) ((jnp 62 eσ18 (by decide)).trans ((jnp 62 eσ17 (by decide)).trans (f10 62 (by decide)))) ((jnp 67 eσ18 (by decide)).trans ((jnp 67 eσ17 (by decide)).trans (f10 67 (by decide)))) hI104
    have I20 : jI119 σ18 := jI119_fr ((jnp 68 eσ18 (by decide)).trans (jnp 68 eσ17 (by decide))) I12
    have p21 : jKept σ18 := jKept.fr ((jnp 75 eσ18 (by decide)).trans (jnp 75 eσ17 (by decide))) ((jnp 76 eσ18 (by decide)).trans (jnp 76 eσ17 (by decide))) ((jnp 77 eσ18 (by decide)).trans (jnp 77 eσ17 (by decide))) p13
    exact hret σ18 τ _ _ _ _ ⟨rfl, (fun i hi => ((jnp i eσ18 (imp_272 i hi)).trans ((jnp i eσ17 (imp_272 i hi)).trans (f10 i (imp_270 i hi))))), (fun i hi => ((jkp i eσ18 (imp_273 i hi)).trans ((jkp i eσ17 (imp_274 i hi)).trans (f11 i (imp_271 i hi))))), I19, I20, p21, trivial⟩ hP hS dX12_orders_34
set_option maxHeartbeats 4000000 in
set_option maxRecDepth 100000 in
theorem c_X12_orders_4 (l : Launch) (D : va_G) (cI cL : ClassId) (ad zz : Nat → Nat) (hJ : jD ad) (σ : Nat → Nat → Int32) (τ : Nat → Nat → Int64) (a2 : Int32) (A2 : Int) (t2 : a2.toInt = A2) (a3 : Int32) (A3 : Int) (t3 : a3.toInt = A3) (hI101 : jI101 σ) (hI102 : jI102 σ) (hI103 : jI103 σ) (hI104 : jI104 σ) (hI105 : jI105 σ) (hI106 : jI106 σ) (hI119 : jI119 σ) (hI111 : jI111 σ) (hs_jKept : jKept σ) (hp0 : (σ 55 10).toInt ≤ 5) (hp1 : 4 ≤ (σ 55 10).toInt) (hp2 : (σ 55 12).toInt ≤ 8) : jMv l yX12_orders cX12_orders 6 none ({ frames := 105, cells := 0, slots := 0, locals := 5106 }) D cI cL ad zz [.ref (ad 55), .int 4, .int a2, .int a3] σ τ (fun σ' τ' => τ = τ' ∧ (∀ i : Nat, (i < 55 ∨ 55 < i) ∧ (i < 62 ∨ 62 < i) ∧ (i < 66 ∨ 66 < i) ∧ (i < 68 ∨ 69 < i) ∧ (i < 74 ∨ 78 < i) → σ' i = σ i) ∧ (∀ k : Nat, (k < 18 ∨ 18 < k) ∧ (k < 19 ∨ 19 < k) ∧ (k < 20 ∨ 20 < k) ∧ (k < 21 ∨ 21 < k) ∧ (k < 22 ∨ 22 < k) ∧ (k < 25 ∨ 25 < k) ∧ (k < 26 ∨ 26 < k) ∧ (k < 27 ∨ 27 < k) ∧ (k < 37 ∨ 37 < k) ∧ (k < 42 ∨ 42 < k) ∧ (k < 45 ∨ 45 < k) ∧ (k < 46 ∨ 46 < k) → σ' 55 k = σ 55 k) ∧ (jI104 σ') ∧ (jI119 σ') ∧ (jKept σ') ∧ True) := by
  refine jMv.of hJ (by decide +kernel) rfl (Nat.le_of_ble_eq_true rfl) ?_
  intro p e s m args below meth c Q ls hC hret hl hP
  obtain ⟨hx, hb, hr, hml, hown, hts, hK, -, hlocks, hZ⟩ := hC
  have hown : s.vm.findClass RX12 = some m.cls := hown
  have hS : va_S (jA ad) s.heap s.heap [] := va_S.rf
  have hA : ∀ q, jA ad q → jA ad q := fun _ h => h
  have hl : lv_has ls 6 [(0, .ref (ad 55)), (1, .int 4), (2, .int a2), (3, .int a3)] := hl
  have g2 := jrg t2
  have g3 := jrg t3
  obtain ⟨i1, i2, i3, w4, w5⟩ : (1 ≤ (σ 55 10).toInt ∧ (σ 55 10).toInt ≤ 8) ∧ (1 ≤ (σ 55 12).toInt ∧ (σ 55 12).toInt ≤ 12) ∧ (0 ≤ (σ 55 13).toInt ∧ (σ 55 13).toInt ≤ 999) ∧ (∀ k : Nat, k < 8 → 0 ≤ (σ 62 k).toInt ∧ (σ 62 k).toInt ≤ 3) ∧ (∀ k : Nat, k < 8 → 0 ≤ (σ 67 k).toInt ∧ (σ 67 k).toInt ≤ 3) := id hI104
  have w6 : ∀ k : Nat, k < 5 → 0 ≤ (σ 79 k).toInt ∧ (σ 79 k).toInt ≤ 3 := hI111
  refine lv_iload_n hx hb dX12_orders_0 rfl (lv_at hl 1 rfl) ?_
  refine lv_aload_n hx hb dX12_orders_1 rfl (lv_at hl 0 rfl) ?_
  refine va_get (D := D) hx hb hts inlX12 hown hK hP 55 (jc_55 cI cL ad σ τ) rfl 10 (by decide) (hts _ kw_8_15) (fun _ h9 => h9) rfl dX12_orders_2 ?_
  refine lv_icmp_ne (tgt := 35) hx hb dX12_orders_5 (by decide) (fun c7 => ?_) (fun c7 => ?_)
  · have kc7 := jne c7 jz_4 rfl
    refine lv_iconst (v := 0) hx hb dX12_orders_35 (by decide) ?_
    refine lv_istore (lv' := [(4, .int 0), (0, .ref (ad 55)), (1, .int 4), (2, .int a2), (3, .int a3)]) hx hb dX12_orders_36 hl (by decide) rfl (fun ls hl => ?_)
    have lp8 : ∀ (n9 : Nat) (x10 : Int32) (σ12 : Nat → Nat → Int32) (H : Heap) (locs : List Loc) (ls : Array Slot), (-x10.toInt + 4 : Int) < n9 → 0 ≤ x10.toInt → x10.toInt ≤ 4 → (∀ i : Nat, (i < 55 ∨ 55 < i) ∧ (i < 62 ∨ 62 < i) ∧ (i < 66 ∨ 66 < i) ∧ (i < 68 ∨ 69 < i) ∧ (i < 74 ∨ 78 < i) → σ12 i = σ i) → (∀ k : Nat, (k < 18 ∨ 18 < k) ∧ (k < 19 ∨ 19 < k) ∧ (k < 20 ∨ 20 < k) ∧ (k < 21 ∨ 21 < k) ∧ (k < 22 ∨ 22 < k) ∧ (k < 25 ∨ 25 < k) ∧ (k < 26 ∨ 26 < k) ∧ (k < 27 ∨ 27 < k) ∧ (k < 37 ∨ 37 < k) ∧ (k < 42 ∨ 42 < k) ∧ (k < 45 ∨ 45 < k) ∧ (k < 46 ∨ 46 < k) → σ12 55 k = σ 55 k) → jKept σ12 → jI104 σ12 → jI119 σ12 → jH D cI cL ad σ12 τ H → va_S (jA ad) s.heap H locs → lv_has ls 6 [(4, .int x10), (0, .ref (ad 55)), (1, .int 4), (2, .int a2), (3, .int a3)] → W p l e ({ frames := 105, cells := 0, slots := 0, locals := 5106 }) s m args below meth c H locs 0 0 Q (F0 m 38 ls []) := by
      intro n9
      induction n9 with
      | zero => intro x10 σ12 H locs ls h13 h14 h15; exact absurd h13 (by omega)
      | succ n9 ihlp8 =>
        intro x10 σ12 H locs ls h13 h14 h15 f16 f17 p18 p19 p20 hP hS hl
        obtain ⟨i21, i22, i23, w24, w25⟩ : (1 ≤ (σ12 55 10).toInt ∧ (σ12 55 10).toInt ≤ 8) ∧ (1 ≤ (σ12 55 12).toInt ∧ (σ12 55 12).toInt ≤ 12) ∧ (0 ≤ (σ12 55 13).toInt ∧ (σ12 55 13).toInt ≤ 999) ∧ (∀ k : Nat, k < 8 → 0 ≤ (σ12 62 k).toInt ∧ (σ12 62 k).toInt ≤ 3) ∧ (∀ k : Nat, k < 8 → 0 ≤ (σ12 67 k).toInt ∧ (σ12 67 k).toInt ≤ 3) := id p19
        have z26 : (σ12 55 10).toInt = (σ 55 10).toInt := (congrArg Int32.toInt (show σ12 55 10 = (σ 55 10) from (f17 10 (by decide))))
        have z27 : (σ12 55 12).toInt = (σ 55 12).toInt := (congrArg Int32.toInt (show σ12 55 12 = (σ 55 12) from (f17 12 (by decide))))
        have z28 : (σ12 55 13).toInt = (σ 55 13).toInt := (congrArg Int32.toInt (show σ12 55 13 = (σ 55 13) from (f17 13 (by decide))))
        refine lv_iload hx hb dX12_orders_38 (lv_at hl 0 rfl) ?_
        refine lv_iconst (v := 4) hx hb dX12_orders_40 (by decide) ?_
        refine lv_icmp_ge (tgt := 127) hx hb dX12_orders_41 (by decide) (fun c29 => ?_) (fun c29 => ?_)
        · have kc29 := jle c29 jz_4 rfl
          exact hret σ12 τ _ _ _ _ ⟨rfl, (fun i hi => (f16 i hi)), (fun i hi => (f17 i hi)), p19, p20, p18, trivial⟩ hP hS dX12_orders_127
        · have kc29 := jnle c29 jz_4 rfl
          refine lv_iconst (v := 0) hx hb dX12_orders_44 (by decide) ?_
          refine lv_istore (lv' := [(5, .int 0), (4, .int x10), (0, .ref (ad 55)), (1, .int 4), (2, .int a2), (3, .int a3)]) hx hb dX12_orders_45 hl (by decide) rfl (fun ls hl => ?_)
          have lp30 : ∀ (n31 : Nat) (x32 : Int32) (H : Heap) (locs : List Loc) (ls : Array Slot), ((σ12 55 10).toInt - x32.toInt : Int) < n31 → 0 ≤ x32.toInt → x32.toInt ≤ 5 → x32.toInt ≤ (σ12 55 10).toInt → jH D cI cL ad σ12 τ H → va_S (jA ad) s.heap H locs → lv_has ls 6 [(5, .int x32), (4, .int x10), (0, .ref (ad 55)), (1, .int 4), (2, .int a2), (3, .int a3)] → W p l e ({ frames := 105, cells := 0, slots := 0, locals := 5106 }) s m args below meth c H locs 0 0 Q (F0 m 47 ls []) := by
            intro n31
            induction n31 with
            | zero => intro x32 H locs ls h33 h34 h35 h36; exact absurd h33 (by omega)
            | succ n31 ihlp30 =>
              intro x32 H locs ls h33 h34 h35 h36 hP hS hl
              refine lv_iload hx hb dX12_orders_47 (lv_at hl 0 rfl) ?_
              refine lv_aload_n hx hb dX12_orders_49 rfl (lv_at hl 2 rfl) ?_
              refine va_get (D := D) hx hb hts inlX12 hown hK hP 55 (jc_55 cI cL ad σ12 τ) rfl 10 (by decide) (hts _ kw_8_15) (fun _ h9 => h9) rfl dX12_orders_50 ?_
              have m38 : σ12 55 10 = (σ 55 10) := (f17 10 (by decide))
              refine jtopr m38 ?_
              refine lv_icmp_ge (tgt := 84) hx hb dX12_orders_53 (by decide) (fun c39 => ?_) (fun c39 => ?_)
              · have kc39 := jle c39 rfl rfl
                refine lv_iload hx hb dX12_orders_84 (lv_at hl 0 rfl) ?_
                refine lv_aload_n hx hb dX12_orders_86 rfl (lv_at hl 2 rfl) ?_
                refine va_get (D := D) hx hb hts inlX12 hown hK hP 55 (jc_55 cI cL ad σ12 τ) rfl 10 (by decide) (hts _ kw_8_15) (fun _ h9 => h9) rfl dX12_orders_87 ?_
                refine jtopr m38 ?_
                refine lv_icmp_ge (tgt := 121) hx hb dX12_orders_90 (by decide) (fun c40 => ?_) (fun c => absurd (jnle c rfl rfl) (by omega))
                have kc40 := jle c40 rfl rfl
                obtain ⟨x41, ex41⟩ : ∃ y : Int32, y = x10 + 1 := ⟨_, rfl⟩
                have tx41 : x41.toInt = x10.toInt + 1 := (jadd ex41 rfl jz_1 (by omega) (by omega)).trans (by omega)
                refine lv_iinc (v := x41) (lv' := [(4, .int x41), (5, .int x32), (0, .ref (ad 55)), (1, .int 4), (2, .int a2), (3, .int a3)]) hx hb dX12_orders_121 hl (k := 1) rfl (by rw [ex41]; rfl) (by decide) rfl (fun ls hl => ?_)
                refine lv_goto (tgt := 38) hx hb dX12_orders_124 (by decide) ?_
                exact ihlp8 x41 σ12 _ _ ls (by have h90 := tx41; omega) (by have h90 := tx41; omega) (by have h90 := tx41; omega) (fun i hi => (f16 i hi)) (fun i hi => (f17 i hi))  p18 p19 p20 hP hS (lv_sub hl [0, 2, 3, 4, 5] rfl)
              · have kc39 := jnle c39 rfl rfl
                refine lv_iload_n hx hb dX12_orders_56 rfl (lv_at hl 4 rfl) ?_
                refine lv_iload hx hb dX12_orders_57 (lv_at hl 0 rfl) ?_
                refine lv_ishr hx hb dX12_orders_59 ?_
                refine lv_topi (fun x42 ex42 => ?_)
                have gx42 := jrg (rfl : x42.toInt = x42.toInt)
                refine lv_iconst (v := 1) hx hb dX12_orders_60 (by decide) ?_
                refine lv_iand hx hb dX12_orders_61 ?_
                refine lv_topi (fun x43 ex43 => ?_)
                have gx43 := jrg (rfl : x43.toInt = x43.toInt)
                have g44 : 0 ≤ x43.toInt ∧ x43.toInt ≤ 1 := jmask ex43 1 (by decide) (by decide)
                refine lv_iconst (v := 1) hx hb dX12_orders_62 (by decide) ?_
                refine lv_icmp_eq (tgt := 78) hx hb dX12_orders_63 (by decide) (fun c45 => ?_) (fun c45 => ?_)
                · have kc45 := jeq c45 rfl jz_1
                  obtain ⟨x46, ex46⟩ : ∃ y : Int32, y = x32 + 1 := ⟨_, rfl⟩
                  have tx46 : x46.toInt = x32.toInt + 1 := (jadd ex46 rfl jz_1 (by omega) (by omega)).trans (by omega)
                  refine lv_iinc (v := x46) (lv' := [(5, .int x46), (4, .int x10), (0, .ref (ad 55)), (1, .int 4), (2, .int a2), (3, .int a3)]) hx hb dX12_orders_78 hl (k := 0) rfl (by rw [ex46]; rfl) (by decide) rfl (fun ls hl => ?_)
                  refine lv_goto (tgt := 47) hx hb dX12_orders_81 (by decide) ?_
                  exact ihlp30 x46 _ _ ls (by have h90 := tx46; omega) (by have h90 := tx46; omega) (by have h90 := tx46; omega) (by have h90 := tx46; omega)    hP hS (lv_sub hl [0, 1, 2, 3, 4, 5] rfl)
                · have kc45 := jne c45 rfl jz_1
                  refine lv_aload_n hx hb dX12_orders_66 rfl (lv_at hl 2 rfl) ?_
                  refine va_get (D := D) hx hb hts inlX12 hown hK hP 55 (jc_55 cI cL ad σ12 τ) rfl 44 (by decide) (hts _ kw_8_4) (fun _ h9 => h9) rfl dX12_orders_67 ?_
                  refine lv_iload hx hb dX12_orders_70 (lv_at hl 0 rfl) ?_
                  refine jald hx hb hK hP (jc_79 cI cL ad σ12 τ) (jin rfl (by omega) (by omega)) dX12_orders_72 ?_
                  have w47 : ∀ k : Nat, k < 5 → 0 ≤ (σ12 79 k).toInt ∧ (σ12 79 k).toInt ≤ 3 := (jrr_fr (f16 79 (by decide)) w6)
                  have g48 := w47 _ (jnat (x := x32) rfl (n := 5) (by omega) (by decide))
                  refine lv_topi (fun x49 ex49 => ?_)
                  rw [← ex49] at g48
                  refine lv_iload hx hb dX12_orders_73 (lv_at hl 1 rfl) ?_
                  refine lv_icmp_eq (tgt := 84) hx hb dX12_orders_75 (by decide) (fun c50 => ?_) (fun c50 => ?_)
                  · have kc50 := jeq c50 rfl rfl
                    refine lv_iload hx hb dX12_orders_84 (lv_at hl 0 rfl) ?_
                    refine lv_aload_n hx hb dX12_orders_86 rfl (lv_at hl 2 rfl) ?_
                    refine va_get (D := D) hx hb hts inlX12 hown hK hP 55 (jc_55 cI cL ad σ12 τ) rfl 10 (by decide) (hts _ kw_8_15) (fun _ h9 => h9) rfl dX12_orders_87 ?_
                    refine jtopr m38 ?_
                    refine lv_icmp_ge (tgt := 121) hx hb dX12_orders_90 (by decide) (fun c => absurd (jle c rfl rfl) (by omega)) (fun c51 => ?_)
                    have kc51 := jnle c51 rfl rfl
                    refine lv_aload_n hx hb dX12_orders_93 rfl (lv_at hl 2 rfl) ?_
                    refine va_get (D := D) hx hb hts inlX12 hown hK hP 55 (jc_55 cI cL ad σ12 τ) rfl 11 (by decide) (hts _ kw_7_8) (fun _ h9 => h9) rfl dX12_orders_94 ?_
                    refine lv_iload_n hx hb dX12_orders_97 rfl (lv_at hl 3 rfl) ?_
                    refine lv_iload hx hb dX12_orders_98 (lv_at hl 1 rfl) ?_
                    refine jast hx hb hK hP hJ hA hS (jc_62 cI cL ad σ12 τ) (ja_62 cI cL ad σ12 τ _ _) (jin jz_4 (by omega) (by omega)) dX12_orders_100 (fun σ52 H locs eσ52 hP hS => ?_)
                    have eσ52 : σ52 = jup σ12 62 4 x10 := eσ52
                    refine lv_aload_n hx hb dX12_orders_101 rfl (lv_at hl 2 rfl) ?_
                    refine lv_iload_n hx hb dX12_orders_102 rfl (lv_at hl 3 rfl) ?_
                    refine lv_iconst (v := 1) hx hb dX12_orders_103 (by decide) ?_
                    refine lv_iadd hx hb dX12_orders_104 ?_
                    refine jtopr (y := 5) (by decide) ?_
                    refine lv_iload_n hx hb dX12_orders_105 rfl (lv_at hl 4 rfl) ?_
                    refine lv_iconst (v := 1) hx hb dX12_orders_106 (by decide) ?_
                    refine lv_iload hx hb dX12_orders_107 (lv_at hl 0 rfl) ?_
                    refine lv_ishl hx hb dX12_orders_109 ?_
                    refine lv_topi (fun x53 ex53 => ?_)
                    have gx53 := jrg (rfl : x53.toInt = x53.toInt)
                    refine lv_ior hx hb dX12_orders_110 ?_
                    refine lv_topi (fun x54 ex54 => ?_)
                    have gx54 := jrg (rfl : x54.toInt = x54.toInt)
                    refine lv_bipush (v := 10) hx hb dX12_orders_111 (by decide) ?_
                    refine lv_iload_n hx hb dX12_orders_113 rfl (lv_at hl 5 rfl) ?_
                    refine lv_imul hx hb dX12_orders_114 ?_
                    refine lv_topi (fun x55 ex55 => ?_)
                    have gx55 := jrg (rfl : x55.toInt = x55.toInt)
                    refine lv_iload hx hb dX12_orders_115 (lv_at hl 1 rfl) ?_
                    have g56 := jrg (rfl : x55.toInt = x55.toInt)
                    have g57 := jrg (rfl : x10.toInt = x10.toInt)
                    refine lv_iadd hx hb dX12_orders_117 ?_
                    refine lv_topi (fun x58 ex58 => ?_)
                    have gx58 := jrg (rfl : x58.toInt = x58.toInt)
                    have I59 : jI101 σ52 := jI101_fr ((congrFun (jnp 55 eσ52 (by decide)) 4).trans (f17 4 (by decide))) ((congrFun (jnp 55 eσ52 (by decide)) 5).trans (f17 5 (by decide))) ((jnp 56 eσ52 (by decide)).trans (f16 56 (by decide))) ((jnp 57 eσ52 (by decide)).trans (f16 57 (by decide))) ((jnp 58 eσ52 (by decide)).trans (f16 58 (by decide))) ((jnp 59 eσ52 (by decide)).trans (f16 59 (by decide))) hI101
                    have I60 : jI102 σ52 := jI102_fr ((congrFun (jnp 55 eσ52 (by decide)) 6).trans (f17 6 (by decide))) ((jnp 60 eσ52 (by decide)).trans (f16 60 (by decide))) ((jnp 61 eσ52 (by decide)).trans (f16 61 (by decide))) hI102
                    have I61 : jI103 σ52 := jI103_fr ((congrFun (jnp 55 eσ52 (by decide)) 9).trans (f17 9 (by decide))) hI103
                    have z62 : (σ52 55 10).toInt = (σ 55 10).toInt := (congrArg Int32.toInt (show σ52 55 10 = (σ 55 10) from ((congrFun (jnp 55 eσ52 (by decide)) 10).trans m38)))
                    have z63 : (σ52 55 12).toInt = (σ 55 12).toInt := (congrArg Int32.toInt (show σ52 55 12 = (σ 55 12) from ((congrFun (jnp 55 eσ52 (by decide)) 12).trans (f17 12 (by decide)))))
                    have z64 : (σ52 55 13).toInt = (σ 55 13).toInt := (congrArg Int32.toInt (show σ52 55 13 = (σ 55 13) from ((congrFun (jnp 55 eσ52 (by decide)) 13).trans (f17 13 (by decide)))))
                    have w65 : ∀ k : Nat, k < 8 → 0 ≤ (σ52 62 k).toInt ∧ (σ52 62 k).toInt ≤ 3 := (by rw [eσ52]; exact jrr_up w24 (by omega) (by omega))
                    have w66 : ∀ k : Nat, k < 8 → 0 ≤ (σ52 67 k).toInt ∧ (σ52 67 k).toInt ≤ 3 := (jrr_fr (jnp 67 eσ52 (by decide)) w25)
                    have I67 : jI104 σ52 := ⟨(by omega), (by omega), (by omega), w65, w66⟩
                    have I68 : jI105 σ52 := jI105_fr ((congrFun (jnp 55 eσ52 (by decide)) 15).trans (f17 15 (by decide))) ((jnp 65 eσ52 (by decide)).trans (f16 65 (by decide))) hI105
                    have I69 : jI106 σ52 := jI106_fr ((congrFun (jnp 55 eσ52 (by decide)) 32).trans (f17 32 (by decide))) ((jnp 70 eσ52 (by decide)).trans (f16 70 (by decide))) ((jnp 71 eσ52 (by decide)).trans (f16 71 (by decide))) ((jnp 72 eσ52 (by decide)).trans (f16 72 (by decide))) hI106
                    have I70 : jI119 σ52 := jI119_fr (jnp 68 eσ52 (by decide)) p20
                    have I71 : jI111 σ52 := jI111_fr ((jnp 79 eσ52 (by decide)).trans (f16 79 (by decide))) hI111
                    have p72 : jKept σ52 := jKept.fr (jnp 75 eσ52 (by decide)) (jnp 76 eσ52 (by decide)) (jnp 77 eσ52 (by decide)) p18
                    refine jcallVv (As := [.int 5, .int x54, .int x58]) (rest := []) ⟨hx, hb, hml, hown, hts⟩ hK hP hA hS hZ (c_X12_orders_5 l D cI cL ad zz hJ σ52 τ x54 (x54.toInt) rfl x58 (x58.toInt) rfl I59 I60 I61 I67 I68 I69 I70 I71 p72 (by omega) (by omega) (by omega)) cw_RX12_355 (jc_55 cI cL ad σ52 τ) rfl ⟨Nat.le_of_ble_eq_true rfl, Nat.le_of_ble_eq_true rfl⟩ rfl rfl rfl hl.1 rfl (Nat.le_of_ble_eq_true rfl) dX12_orders_118 ⟨Nat.zero_le _, Nat.zero_le _⟩ (fun σ73 τ73 H locs h73 hP hS => ?_)
                    obtain ⟨rfl, f75, f76, I77, I78, p79, h73⟩ := h73
                    obtain ⟨i80, i81, i82, w83, w84⟩ : (1 ≤ (σ73 55 10).toInt ∧ (σ73 55 10).toInt ≤ 8) ∧ (1 ≤ (σ73 55 12).toInt ∧ (σ73 55 12).toInt ≤ 12) ∧ (0 ≤ (σ73 55 13).toInt ∧ (σ73 55 13).toInt ≤ 999) ∧ (∀ k : Nat, k < 8 → 0 ≤ (σ73 62 k).toInt ∧ (σ73 62 k).toInt ≤ 3) ∧ (∀ k : Nat, k < 8 → 0 ≤ (σ73 67 k).toInt ∧ (σ73 67 k).toInt ≤ 3) := id I77
                    have z85 : (σ73 55 10).toInt = (σ 55 10).toInt := (congrArg Int32.toInt (show σ73 55 10 = (σ 55 10) from ((f76 10 (by decide)).trans ((congrFun (jnp 55 eσ52 (by decide)) 10).trans m38))))
                    have z86 : (σ73 55 12).toInt = (σ 55 12).toInt := (congrArg Int32.toInt (show σ73 55 12 = (σ 55 12) from ((f76 12 (by decide)).trans ((congrFun (jnp 55 eσ52 (by decide)) 12).trans (f17 12 (by decide))))))
                    have z87 : (σ73 55 13).toInt = (σ 55 13).toInt := (congrArg Int32.toInt (show σ73 55 13 = (σ 55 13) from ((f76 13 (by decide)).trans ((congrFun (jnp 55 eσ52 (by decide)) 13).trans (f17 13 (by decide))))))
                    obtain ⟨x88, ex88⟩ : ∃ y : Int32, y = x10 + 1 := ⟨_, rfl⟩
                    have tx88 : x88.toInt = x10.toInt + 1 := (jadd ex88 rfl jz_1 (by omega) (by omega)).trans (by omega)
                    refine lv_iinc (v := x88) (lv' := [(4, .int x88), (5, .int x32), (0, .ref (ad 55)), (1, .int 4), (2, .int a2), (3, .int a3)]) hx hb dX12_orders_121 hl (k := 1) rfl (by rw [ex88]; rfl) (by decide) rfl (fun ls hl => ?_)
                    refine lv_goto (tgt := 38) hx hb dX12_orders_124 (by decide) ?_
                    exact ihlp8 x88 σ73 _ _ ls (by have h90 := tx88; omega) (by have h90 := tx88; omega) (by have h90 := tx88; omega) (fun i hi => ((f75 i hi).trans ((jnp i eσ52 (imp_275 i hi)).trans (f16 i hi)))) (fun i hi => ((f76 i hi).trans ((congrFun (jnp 55 eσ52 (by decide)) i).trans (f17 i hi))))  p79 I77 I78 hP hS (lv_sub hl [0, 2, 3, 4, 5] rfl)
                  · have kc50 := jne c50 rfl rfl
                    obtain ⟨x89, ex89⟩ : ∃ y : Int32, y = x32 + 1 := ⟨_, rfl⟩
                    have tx89 : x89.toInt = x32.toInt + 1 := (jadd ex89 rfl jz_1 (by omega) (by omega)).trans (by omega)
                    refine lv_iinc (v := x89) (lv' := [(5, .int x89), (4, .int x10), (0, .ref (ad 55)), (1, .int 4), (2, .int a2), (3, .int a3)]) hx hb dX12_orders_78 hl (k := 0) rfl (by rw [ex89]; rfl) (by decide) rfl (fun ls hl => ?_)
                    refine lv_goto (tgt := 47) hx hb dX12_orders_81 (by decide) ?_
                    exact ihlp30 x89 _ _ ls (by have h90 := tx89; omega) (by have h90 := tx89; omega) (by have h90 := tx89; omega) (by have h90 := tx89; omega)    hP hS (lv_sub hl [0, 1, 2, 3, 4, 5] rfl)
          exact lp30 1000000 0 _ _ ls (by have h90 := jz_0; omega) (by have h90 := jz_0; omega) (by have h90 := jz_0; omega) (by have h90 := jz_0; omega)   hP hS hl
    exact lp8 1000000 0 σ _ _ ls (by have h90 := jz_0; omega) (by have h90 := jz_0; omega) (by have h90 := jz_0; omega) (fun _ _ => rfl) (fun _ _ => rfl)  hs_jKept hI104 hI119 hP hS hl
  · have kc7 := jeq c7 jz_4 rfl
    refine lv_aload_n hx hb dX12_orders_8 rfl (lv_at hl 0 rfl) ?_
    refine jcallV (As := []) (rest := []) ⟨hx, hb, hml, hown, hts⟩ hK hP hA hS hZ (c_X12_bestNow l D cI cL ad zz hJ σ τ hI101 hI102 hI103 hI104 hI105 hI106 hI119 hs_jKept (by omega)) cw_RX12_346 (jc_55 cI cL ad σ τ) rfl ⟨Nat.le_of_ble_eq_true rfl, Nat.le_of_ble_eq_true rfl⟩ rfl rfl rfl hl.1 rfl (Nat.le_of_ble_eq_true rfl) dX12_orders_9 ⟨Nat.zero_le _, Nat.zero_le _⟩ (fun r91 σ90 τ90 H locs h90 hP hS => ?_)
    obtain ⟨rfl, f92, f93, I94, p95, h90⟩ := h90
    refine lv_istore (lv' := [(4, .int r91), (0, .ref (ad 55)), (1, .int 4), (2, .int a2), (3, .int a3)]) hx hb dX12_orders_12 hl (by decide) rfl (fun ls hl => ?_)
    refine lv_iload hx hb dX12_orders_14 (lv_at hl 0 rfl) ?_
    refine lv_aload_n hx hb dX12_orders_16 rfl (lv_at hl 1 rfl) ?_
    refine va_get (D := D) hx hb hts inlX12 hown hK hP 55 (jc_55 cI cL ad σ90 τ) rfl 46 (by decide) (hts _ kw_40_17) (fun _ h9 => h9) rfl dX12_orders_17 ?_
    have m96 : σ90 55 46 = (σ 55 46) := (f93 46 (by decide))
    refine jtopr m96 ?_
    refine lv_icmp_le (tgt := 34) hx hb dX12_orders_20 (by decide) (fun c97 => ?_) (fun c97 => ?_)
    · have kc97 := jle c97 rfl rfl
      have I98 : jI104 σ90 := jI104_fr (f93 10 (by decide)) (f93 12 (by decide)) (f93 13 (by decide)) (f92 62 (by decide)) (f92 67 (by decide)) hI104
      exact hret σ90 τ _ _ _ _ ⟨rfl, (fun i hi => (f92 i (imp_270 i hi))), (fun i hi => (f93 i (imp_271 i hi))), I98, I94, p95, trivial⟩ hP hS dX12_orders_34
    · have kc97 := jnle c97 rfl rfl
      refine lv_aload_n hx hb dX12_orders_23 rfl (lv_at hl 1 rfl) ?_
      refine lv_iload hx hb dX12_orders_24 (lv_at hl 0 rfl) ?_
      refine jput (ty := .int) hx hb hts inlX12 tyX12 tyX12_ok nmX12 hown hK hP hJ hA hS (jc_55 cI cL ad σ90 τ) rfl (k := 46) (by decide) (Nat.le_of_ble_eq_true rfl) (jp_55_46 cI cL ad σ90 τ r91) (hts _ kw_40_17) (fun _ h9 => h9) rfl (by decide +kernel) rfl rfl dX12_orders_26 (fun σ99 H locs eσ99 hP hS => ?_)
      refine lv_aload_n hx hb dX12_orders_29 rfl (lv_at hl 1 rfl) ?_
      refine lv_iload_n hx hb dX12_orders_30 rfl (lv_at hl 4 rfl) ?_
      refine jput (ty := .int) hx hb hts inlX12 tyX12 tyX12_ok nmX12 hown hK hP hJ hA hS (jc_55 cI cL ad σ99 τ) rfl (k := 45) (by decide) (Nat.le_of_ble_eq_true rfl) (jp_55_45 cI cL ad σ99 τ a3) (hts _ kw_40_18) (fun _ h9 => h9) rfl (by decide +kernel) rfl rfl dX12_orders_31 (fun σ100 H locs eσ100 hP hS => ?_)
      have I101 : jI104 σ100 := jI104_fr ((jkp 10 eσ100 (by decide)).trans ((jkp 10 eσ99 (by decide)).trans (f93 10 (by decide)))) ((jkp 12 eσ100 (by decide)).trans ((jkp 12 eσ99 (by decide)).trans (f93 12 (by decide)))) ((jkp 13 eσ100 (by decide)).trans ((jkp 13 eσ99 (by decide)).trans (f93 13 (by decide)))) ((jnp 62 eσ100 (by decide)).trans ((jnp 62 eσ99 (by decide)).trans (f92 62 (by decide)))) ((jnp 67 eσ100 (by decide)).trans ((jnp 67 eσ99 (by decide)).trans (f92 67 (by decide)))) hI104
      have I102 : jI119 σ100 := jI119_fr ((jnp 68 eσ100 (by decide)).trans (jnp 68 eσ99 (by decide))) I94
      have p103 : jKept σ100 := jKept.fr ((jnp 75 eσ100 (by decide)).trans (jnp 75 eσ99 (by decide))) ((jnp 76 eσ100 (by decide)).trans (jnp 76 eσ99 (by decide))) ((jnp 77 eσ100 (by decide)).trans (jnp 77 eσ99 (by decide))) p95
      exact hret σ100 τ _ _ _ _ ⟨rfl, (fun i hi => ((jnp i eσ100 (imp_272 i hi)).trans ((jnp i eσ99 (imp_272 i hi)).trans (f92 i (imp_270 i hi))))), (fun i hi => ((jkp i eσ100 (imp_273 i hi)).trans ((jkp i eσ99 (imp_274 i hi)).trans (f93 i (imp_271 i hi))))), I101, I102, p103, trivial⟩ hP hS dX12_orders_34
set_option maxHeartbeats 4000000 in
set_option maxRecDepth 100000 in
theorem c_X12_orders_3 (l : Launch) (D : va_G) (cI cL : ClassId) (ad zz : Nat → Nat) (hJ : jD ad) (σ : Nat → Nat → Int32) (τ : Nat → Nat → Int64) (a2 : Int32) (A2 : Int) (t2 : a2.toInt = A2) (a3 : Int32) (A3 : Int) (t3 : a3.toInt = A3) (hI101 : jI101 σ) (hI102 : jI102 σ) (hI103 : jI103 σ) (hI104 : jI104 σ) (hI105 : jI105 σ) (hI106 : jI106 σ) (hI119 : jI119 σ) (hI111 : jI111 σ) (hs_jKept : jKept σ) (hp0 : (σ 55 10).toInt ≤ 5) (hp1 : 3 ≤ (σ 55 10).toInt) (hp2 : (σ 55 12).toInt ≤ 8) : jMv l yX12_orders cX12_orders 6 none ({ frames := 106, cells := 0, slots := 0, locals := 5131 }) D cI cL ad zz [.ref (ad 55), .int 3, .int a2, .int a3] σ τ (fun σ' τ' => τ = τ' ∧ (∀ i : Nat, (i < 55 ∨ 55 < i) ∧ (i < 62 ∨ 62 < i) ∧ (i < 66 ∨ 66 < i) ∧ (i < 68 ∨ 69 < i) ∧ (i < 74 ∨ 78 < i) → σ' i = σ i) ∧ (∀ k : Nat, (k < 18 ∨ 18 < k) ∧ (k < 19 ∨ 19 < k) ∧ (k < 20 ∨ 20 < k) ∧ (k < 21 ∨ 21 < k) ∧ (k < 22 ∨ 22 < k) ∧ (k < 25 ∨ 25 < k) ∧ (k < 26 ∨ 26 < k) ∧ (k < 27 ∨ 27 < k) ∧ (k < 37 ∨ 37 < k) ∧ (k < 42 ∨ 42 < k) ∧ (k < 45 ∨ 45 < k) ∧ (k < 46 ∨ 46 < k) → σ' 55 k = σ 55 k) ∧ (jI104 σ') ∧ (jI119 σ') ∧ (jKept σ') ∧ True) := by
  refine jMv.of hJ (by decide +kernel) rfl (Nat.le_of_ble_eq_true rfl) ?_
  intro p e s m args below meth c Q ls hC hret hl hP
  obtain ⟨hx, hb, hr, hml, hown, hts, hK, -, hlocks, hZ⟩ := hC
  have hown : s.vm.findClass RX12 = some m.cls := hown
  have hS : va_S (jA ad) s.heap s.heap [] := va_S.rf
  have hA : ∀ q, jA ad q → jA ad q := fun _ h => h
  have hl : lv_has ls 6 [(0, .ref (ad 55)), (1, .int 3), (2, .int a2), (3, .int a3)] := hl
  have g2 := jrg t2
  have g3 := jrg t3
  obtain ⟨i1, i2, i3, w4, w5⟩ : (1 ≤ (σ 55 10).toInt ∧ (σ 55 10).toInt ≤ 8) ∧ (1 ≤ (σ 55 12).toInt ∧ (σ 55 12).toInt ≤ 12) ∧ (0 ≤ (σ 55 13).toInt ∧ (σ 55 13).toInt ≤ 999) ∧ (∀ k : Nat, k < 8 → 0 ≤ (σ 62 k).toInt ∧ (σ 62 k).toInt ≤ 3) ∧ (∀ k : Nat, k < 8 → 0 ≤ (σ 67 k).toInt ∧ (σ 67 k).toInt ≤ 3) := id hI104
  have w6 : ∀ k : Nat, k < 5 → 0 ≤ (σ 79 k).toInt ∧ (σ 79 k).toInt ≤ 3 := hI111
  refine lv_iload_n hx hb dX12_orders_0 rfl (lv_at hl 1 rfl) ?_
  refine lv_aload_n hx hb dX12_orders_1 rfl (lv_at hl 0 rfl) ?_
  refine va_get (D := D) hx hb hts inlX12 hown hK hP 55 (jc_55 cI cL ad σ τ) rfl 10 (by decide) (hts _ kw_8_15) (fun _ h9 => h9) rfl dX12_orders_2 ?_
  refine lv_icmp_ne (tgt := 35) hx hb dX12_orders_5 (by decide) (fun c7 => ?_) (fun c7 => ?_)
  · have kc7 := jne c7 jz_3 rfl
    refine lv_iconst (v := 0) hx hb dX12_orders_35 (by decide) ?_
    refine lv_istore (lv' := [(4, .int 0), (0, .ref (ad 55)), (1, .int 3), (2, .int a2), (3, .int a3)]) hx hb dX12_orders_36 hl (by decide) rfl (fun ls hl => ?_)
    have lp8 : ∀ (n9 : Nat) (x10 : Int32) (σ12 : Nat → Nat → Int32) (H : Heap) (locs : List Loc) (ls : Array Slot), (-x10.toInt + 4 : Int) < n9 → 0 ≤ x10.toInt → x10.toInt ≤ 4 → (∀ i : Nat, (i < 55 ∨ 55 < i) ∧ (i < 62 ∨ 62 < i) ∧ (i < 66 ∨ 66 < i) ∧ (i < 68 ∨ 69 < i) ∧ (i < 74 ∨ 78 < i) → σ12 i = σ i) → (∀ k : Nat, (k < 18 ∨ 18 < k) ∧ (k < 19 ∨ 19 < k) ∧ (k < 20 ∨ 20 < k) ∧ (k < 21 ∨ 21 < k) ∧ (k < 22 ∨ 22 < k) ∧ (k < 25 ∨ 25 < k) ∧ (k < 26 ∨ 26 < k) ∧ (k < 27 ∨ 27 < k) ∧ (k < 37 ∨ 37 < k) ∧ (k < 42 ∨ 42 < k) ∧ (k < 45 ∨ 45 < k) ∧ (k < 46 ∨ 46 < k) → σ12 55 k = σ 55 k) → jKept σ12 → jI104 σ12 → jI119 σ12 → jH D cI cL ad σ12 τ H → va_S (jA ad) s.heap H locs → lv_has ls 6 [(4, .int x10), (0, .ref (ad 55)), (1, .int 3), (2, .int a2), (3, .int a3)] → W p l e ({ frames := 106, cells := 0, slots := 0, locals := 5131 }) s m args below meth c H locs 0 0 Q (F0 m 38 ls []) := by
      intro n9
      induction n9 with
      | zero => intro x10 σ12 H locs ls h13 h14 h15; exact absurd h13 (by omega)
      | succ n9 ihlp8 =>
        intro x10 σ12 H locs ls h13 h14 h15 f16 f17 p18 p19 p20 hP hS hl
        obtain ⟨i21, i22, i23, w24, w25⟩ : (1 ≤ (σ12 55 10).toInt ∧ (σ12 55 10).toInt ≤ 8) ∧ (1 ≤ (σ12 55 12).toInt ∧ (σ12 55 12).toInt ≤ 12) ∧ (0 ≤ (σ12 55 13).toInt ∧ (σ12 55 13).toInt ≤ 999) ∧ (∀ k : Nat, k < 8 → 0 ≤ (σ12 62 k).toInt ∧ (σ12 62 k).toInt ≤ 3) ∧ (∀ k : Nat, k < 8 → 0 ≤ (σ12 67 k).toInt ∧ (σ12 67 k).toInt ≤ 3) := id p19
        have z26 : (σ12 55 10).toInt = (σ 55 10).toInt := (congrArg Int32.toInt (show σ12 55 10 = (σ 55 10) from (f17 10 (by decide))))
        have z27 : (σ12 55 12).toInt = (σ 55 12).toInt := (congrArg Int32.toInt (show σ12 55 12 = (σ 55 12) from (f17 12 (by decide))))
        have z28 : (σ12 55 13).toInt = (σ 55 13).toInt := (congrArg Int32.toInt (show σ12 55 13 = (σ 55 13) from (f17 13 (by decide))))
        refine lv_iload hx hb dX12_orders_38 (lv_at hl 0 rfl) ?_
        refine lv_iconst (v := 4) hx hb dX12_orders_40 (by decide) ?_
        refine lv_icmp_ge (tgt := 127) hx hb dX12_orders_41 (by decide) (fun c29 => ?_) (fun c29 => ?_)
        · have kc29 := jle c29 jz_4 rfl
          exact hret σ12 τ _ _ _ _ ⟨rfl, (fun i hi => (f16 i hi)), (fun i hi => (f17 i hi)), p19, p20, p18, trivial⟩ hP hS dX12_orders_127
        · have kc29 := jnle c29 jz_4 rfl
          refine lv_iconst (v := 0) hx hb dX12_orders_44 (by decide) ?_
          refine lv_istore (lv' := [(5, .int 0), (4, .int x10), (0, .ref (ad 55)), (1, .int 3), (2, .int a2), (3, .int a3)]) hx hb dX12_orders_45 hl (by decide) rfl (fun ls hl => ?_)
          have lp30 : ∀ (n31 : Nat) (x32 : Int32) (H : Heap) (locs : List Loc) (ls : Array Slot), ((σ12 55 10).toInt - x32.toInt : Int) < n31 → 0 ≤ x32.toInt → x32.toInt ≤ 5 → x32.toInt ≤ (σ12 55 10).toInt → jH D cI cL ad σ12 τ H → va_S (jA ad) s.heap H locs → lv_has ls 6 [(5, .int x32), (4, .int x10), (0, .ref (ad 55)), (1, .int 3), (2, .int a2), (3, .int a3)] → W p l e ({ frames := 106, cells := 0, slots := 0, locals := 5131 }) s m args below meth c H locs 0 0 Q (F0 m 47 ls []) := by
            intro n31
            induction n31 with
            | zero => intro x32 H locs ls h33 h34 h35 h36; exact absurd h33 (by omega)
            | succ n31 ihlp30 =>
              intro x32 H locs ls h33 h34 h35 h36 hP hS hl
              refine lv_iload hx hb dX12_orders_47 (lv_at hl 0 rfl) ?_
              refine lv_aload_n hx hb dX12_orders_49 rfl (lv_at hl 2 rfl) ?_
              refine va_get (D := D) hx hb hts inlX12 hown hK hP 55 (jc_55 cI cL ad σ12 τ) rfl 10 (by decide) (hts _ kw_8_15) (fun _ h9 => h9) rfl dX12_orders_50 ?_
              have m38 : σ12 55 10 = (σ 55 10) := (f17 10 (by decide))
              refine jtopr m38 ?_
              refine lv_icmp_ge (tgt := 84) hx hb dX12_orders_53 (by decide) (fun c39 => ?_) (fun c39 => ?_)
              · have kc39 := jle c39 rfl rfl
                refine lv_iload hx hb dX12_orders_84 (lv_at hl 0 rfl) ?_
                refine lv_aload_n hx hb dX12_orders_86 rfl (lv_at hl 2 rfl) ?_
                refine va_get (D := D) hx hb hts inlX12 hown hK hP 55 (jc_55 cI cL ad σ12 τ) rfl 10 (by decide) (hts _ kw_8_15) (fun _ h9 => h9) rfl dX12_orders_87 ?_
                refine jtopr m38 ?_
                refine lv_icmp_ge (tgt := 121) hx hb dX12_orders_90 (by decide) (fun c40 => ?_) (fun c => absurd (jnle c rfl rfl) (by omega))
                have kc40 := jle c40 rfl rfl
                obtain ⟨x41, ex41⟩ : ∃ y : Int32, y = x10 + 1 := ⟨_, rfl⟩
                have tx41 : x41.toInt = x10.toInt + 1 := (jadd ex41 rfl jz_1 (by omega) (by omega)).trans (by omega)
                refine lv_iinc (v := x41) (lv' := [(4, .int x41), (5, .int x32), (0, .ref (ad 55)), (1, .int 3), (2, .int a2), (3, .int a3)]) hx hb dX12_orders_121 hl (k := 1) rfl (by rw [ex41]; rfl) (by decide) rfl (fun ls hl => ?_)
                refine lv_goto (tgt := 38) hx hb dX12_orders_124 (by decide) ?_
                exact ihlp8 x41 σ12 _ _ ls (by have h90 := tx41; omega) (by have h90 := tx41; omega) (by have h90 := tx41; omega) (fun i hi => (f16 i hi)) (fun i hi => (f17 i hi))  p18 p19 p20 hP hS (lv_sub hl [0, 2, 3, 4, 5] rfl)
              · have kc39 := jnle c39 rfl rfl
                refine lv_iload_n hx hb dX12_orders_56 rfl (lv_at hl 4 rfl) ?_
                refine lv_iload hx hb dX12_orders_57 (lv_at hl 0 rfl) ?_
                refine lv_ishr hx hb dX12_orders_59 ?_
                refine lv_topi (fun x42 ex42 => ?_)
                have gx42 := jrg (rfl : x42.toInt = x42.toInt)
                refine lv_iconst (v := 1) hx hb dX12_orders_60 (by decide) ?_
                refine lv_iand hx hb dX12_orders_61 ?_
                refine lv_topi (fun x43 ex43 => ?_)
                have gx43 := jrg (rfl : x43.toInt = x43.toInt)
                have g44 : 0 ≤ x43.toInt ∧ x43.toInt ≤ 1 := jmask ex43 1 (by decide) (by decide)
                refine lv_iconst (v := 1) hx hb dX12_orders_62 (by decide) ?_
                refine lv_icmp_eq (tgt := 78) hx hb dX12_orders_63 (by decide) (fun c45 => ?_) (fun c45 => ?_)
                · have kc45 := jeq c45 rfl jz_1
                  obtain ⟨x46, ex46⟩ : ∃ y : Int32, y = x32 + 1 := ⟨_, rfl⟩
                  have tx46 : x46.toInt = x32.toInt + 1 := (jadd ex46 rfl jz_1 (by omega) (by omega)).trans (by omega)
                  refine lv_iinc (v := x46) (lv' := [(5, .int x46), (4, .int x10), (0, .ref (ad 55)), (1, .int 3), (2, .int a2), (3, .int a3)]) hx hb dX12_orders_78 hl (k := 0) rfl (by rw [ex46]; rfl) (by decide) rfl (fun ls hl => ?_)
                  refine lv_goto (tgt := 47) hx hb dX12_orders_81 (by decide) ?_
                  exact ihlp30 x46 _ _ ls (by have h90 := tx46; omega) (by have h90 := tx46; omega) (by have h90 := tx46; omega) (by have h90 := tx46; omega)    hP hS (lv_sub hl [0, 1, 2, 3, 4, 5] rfl)
                · have kc45 := jne c45 rfl jz_1
                  refine lv_aload_n hx hb dX12_orders_66 rfl (lv_at hl 2 rfl) ?_
                  refine va_get (D := D) hx hb hts inlX12 hown hK hP 55 (jc_55 cI cL ad σ12 τ) rfl 44 (by decide) (hts _ kw_8_4) (fun _ h9 => h9) rfl dX12_orders_67 ?_
                  refine lv_iload hx hb dX12_orders_70 (lv_at hl 0 rfl) ?_
                  refine jald hx hb hK hP (jc_79 cI cL ad σ12 τ) (jin rfl (by omega) (by omega)) dX12_orders_72 ?_
                  have w47 : ∀ k : Nat, k < 5 → 0 ≤ (σ12 79 k).toInt ∧ (σ12 79 k).toInt ≤ 3 := (jrr_fr (f16 79 (by decide)) w6)
                  have g48 := w47 _ (jnat (x := x32) rfl (n := 5) (by omega) (by decide))
                  refine lv_topi (fun x49 ex49 => ?_)
                  rw [← ex49] at g48
                  refine lv_iload hx hb dX12_orders_73 (lv_at hl 1 rfl) ?_
                  refine lv_icmp_eq (tgt := 84) hx hb dX12_orders_75 (by decide) (fun c50 => ?_) (fun c50 => ?_)
                  · have kc50 := jeq c50 rfl rfl
                    refine lv_iload hx hb dX12_orders_84 (lv_at hl 0 rfl) ?_
                    refine lv_aload_n hx hb dX12_orders_86 rfl (lv_at hl 2 rfl) ?_
                    refine va_get (D := D) hx hb hts inlX12 hown hK hP 55 (jc_55 cI cL ad σ12 τ) rfl 10 (by decide) (hts _ kw_8_15) (fun _ h9 => h9) rfl dX12_orders_87 ?_
                    refine jtopr m38 ?_
                    refine lv_icmp_ge (tgt := 121) hx hb dX12_orders_90 (by decide) (fun c => absurd (jle c rfl rfl) (by omega)) (fun c51 => ?_)
                    have kc51 := jnle c51 rfl rfl
                    refine lv_aload_n hx hb dX12_orders_93 rfl (lv_at hl 2 rfl) ?_
                    refine va_get (D := D) hx hb hts inlX12 hown hK hP 55 (jc_55 cI cL ad σ12 τ) rfl 11 (by decide) (hts _ kw_7_8) (fun _ h9 => h9) rfl dX12_orders_94 ?_
                    refine lv_iload_n hx hb dX12_orders_97 rfl (lv_at hl 3 rfl) ?_
                    refine lv_iload hx hb dX12_orders_98 (lv_at hl 1 rfl) ?_
                    refine jast hx hb hK hP hJ hA hS (jc_62 cI cL ad σ12 τ) (ja_62 cI cL ad σ12 τ _ _) (jin jz_3 (by omega) (by omega)) dX12_orders_100 (fun σ52 H locs eσ52 hP hS => ?_)
                    have eσ52 : σ52 = jup σ12 62 3 x10 := eσ52
                    refine lv_aload_n hx hb dX12_orders_101 rfl (lv_at hl 2 rfl) ?_
                    refine lv_iload_n hx hb dX12_orders_102 rfl (lv_at hl 3 rfl) ?_
                    refine lv_iconst (v := 1) hx hb dX12_orders_103 (by decide) ?_
                    refine lv_iadd hx hb dX12_orders_104 ?_
                    refine jtopr (y := 4) (by decide) ?_
                    refine lv_iload_n hx hb dX12_orders_105 rfl (lv_at hl 4 rfl) ?_
                    refine lv_iconst (v := 1) hx hb dX12_orders_106 (by decide) ?_
                    refine lv_iload hx hb dX12_orders_107 (lv_at hl 0 rfl) ?_
                    refine lv_ishl hx hb dX12_orders_109 ?_
                    refine lv_topi (fun x53 ex53 => ?_)
                    have gx53 := jrg (rfl : x53.toInt = x53.toInt)
                    refine lv_ior hx hb dX12_orders_110 ?_
                    refine lv_topi (fun x54 ex54 => ?_)
                    have gx54 := jrg (rfl : x54.toInt = x54.toInt)
                    refine lv_bipush (v := 10) hx hb dX12_orders_111 (by decide) ?_
                    refine lv_iload_n hx hb dX12_orders_113 rfl (lv_at hl 5 rfl) ?_
                    refine lv_imul hx hb dX12_orders_114 ?_
                    refine lv_topi (fun x55 ex55 => ?_)
                    have gx55 := jrg (rfl : x55.toInt = x55.toInt)
                    refine lv_iload hx hb dX12_orders_115 (lv_at hl 1 rfl) ?_
                    have g56 := jrg (rfl : x55.toInt = x55.toInt)
                    have g57 := jrg (rfl : x10.toInt = x10.toInt)
                    refine lv_iadd hx hb dX12_orders_117 ?_
                    refine lv_topi (fun x58 ex58 => ?_)
                    have gx58 := jrg (rfl : x58.toInt = x58.toInt)
                    have I59 : jI101 σ52 := jI101_fr ((congrFun (jnp 55 eσ52 (by decide)) 4).trans (f17 4 (by decide))) ((congrFun (jnp 55 eσ52 (by decide)) 5).trans (f17 5 (by decide))) ((jnp 56 eσ52 (by decide)).trans (f16 56 (by decide))) ((jnp 57 eσ52 (by decide)).trans (f16 57 (by decide))) ((jnp 58 eσ52 (by decide)).trans (f16 58 (by decide))) ((jnp 59 eσ52 (by decide)).trans (f16 59 (by decide))) hI101
                    have I60 : jI102 σ52 := jI102_fr ((congrFun (jnp 55 eσ52 (by decide)) 6).trans (f17 6 (by decide))) ((jnp 60 eσ52 (by decide)).trans (f16 60 (by decide))) ((jnp 61 eσ52 (by decide)).trans (f16 61 (by decide))) hI102
                    have I61 : jI103 σ52 := jI103_fr ((congrFun (jnp 55 eσ52 (by decide)) 9).trans (f17 9 (by decide))) hI103
                    have z62 : (σ52 55 10).toInt = (σ 55 10).toInt := (congrArg Int32.toInt (show σ52 55 10 = (σ 55 10) from ((congrFun (jnp 55 eσ52 (by decide)) 10).trans m38)))
                    have z63 : (σ52 55 12).toInt = (σ 55 12).toInt := (congrArg Int32.toInt (show σ52 55 12 = (σ 55 12) from ((congrFun (jnp 55 eσ52 (by decide)) 12).trans (f17 12 (by decide)))))
                    have z64 : (σ52 55 13).toInt = (σ 55 13).toInt := (congrArg Int32.toInt (show σ52 55 13 = (σ 55 13) from ((congrFun (jnp 55 eσ52 (by decide)) 13).trans (f17 13 (by decide)))))
                    have w65 : ∀ k : Nat, k < 8 → 0 ≤ (σ52 62 k).toInt ∧ (σ52 62 k).toInt ≤ 3 := (by rw [eσ52]; exact jrr_up w24 (by omega) (by omega))
                    have w66 : ∀ k : Nat, k < 8 → 0 ≤ (σ52 67 k).toInt ∧ (σ52 67 k).toInt ≤ 3 := (jrr_fr (jnp 67 eσ52 (by decide)) w25)
                    have I67 : jI104 σ52 := ⟨(by omega), (by omega), (by omega), w65, w66⟩
                    have I68 : jI105 σ52 := jI105_fr ((congrFun (jnp 55 eσ52 (by decide)) 15).trans (f17 15 (by decide))) ((jnp 65 eσ52 (by decide)).trans (f16 65 (by decide))) hI105
                    have I69 : jI106 σ52 := jI106_fr ((congrFun (jnp 55 eσ52 (by decide)) 32).trans (f17 32 (by decide))) ((jnp 70 eσ52 (by decide)).trans (f16 70 (by decide))) ((jnp 71 eσ52 (by decide)).trans (f16 71 (by decide))) ((jnp 72 eσ52 (by decide)).trans (f16 72 (by decide))) hI106
                    have I70 : jI119 σ52 := jI119_fr (jnp 68 eσ52 (by decide)) p20
                    have I71 : jI111 σ52 := jI111_fr ((jnp 79 eσ52 (by decide)).trans (f16 79 (by decide))) hI111
                    have p72 : jKept σ52 := jKept.fr (jnp 75 eσ52 (by decide)) (jnp 76 eσ52 (by decide)) (jnp 77 eσ52 (by decide)) p18
                    refine jcallVv (As := [.int 4, .int x54, .int x58]) (rest := []) ⟨hx, hb, hml, hown, hts⟩ hK hP hA hS hZ (c_X12_orders_4 l D cI cL ad zz hJ σ52 τ x54 (x54.toInt) rfl x58 (x58.toInt) rfl I59 I60 I61 I67 I68 I69 I70 I71 p72 (by omega) (by omega) (by omega)) cw_RX12_355 (jc_55 cI cL ad σ52 τ) rfl ⟨Nat.le_of_ble_eq_true rfl, Nat.le_of_ble_eq_true rfl⟩ rfl rfl rfl hl.1 rfl (Nat.le_of_ble_eq_true rfl) dX12_orders_118 ⟨Nat.zero_le _, Nat.zero_le _⟩ (fun σ73 τ73 H locs h73 hP hS => ?_)
                    obtain ⟨rfl, f75, f76, I77, I78, p79, h73⟩ := h73
                    obtain ⟨i80, i81, i82, w83, w84⟩ : (1 ≤ (σ73 55 10).toInt ∧ (σ73 55 10).toInt ≤ 8) ∧ (1 ≤ (σ73 55 12).toInt ∧ (σ73 55 12).toInt ≤ 12) ∧ (0 ≤ (σ73 55 13).toInt ∧ (σ73 55 13).toInt ≤ 999) ∧ (∀ k : Nat, k < 8 → 0 ≤ (σ73 62 k).toInt ∧ (σ73 62 k).toInt ≤ 3) ∧ (∀ k : Nat, k < 8 → 0 ≤ (σ73 67 k).toInt ∧ (σ73 67 k).toInt ≤ 3) := id I77
                    have z85 : (σ73 55 10).toInt = (σ 55 10).toInt := (congrArg Int32.toInt (show σ73 55 10 = (σ 55 10) from ((f76 10 (by decide)).trans ((congrFun (jnp 55 eσ52 (by decide)) 10).trans m38))))
                    have z86 : (σ73 55 12).toInt = (σ 55 12).toInt := (congrArg Int32.toInt (show σ73 55 12 = (σ 55 12) from ((f76 12 (by decide)).trans ((congrFun (jnp 55 eσ52 (by decide)) 12).trans (f17 12 (by decide))))))
                    have z87 : (σ73 55 13).toInt = (σ 55 13).toInt := (congrArg Int32.toInt (show σ73 55 13 = (σ 55 13) from ((f76 13 (by decide)).trans ((congrFun (jnp 55 eσ52 (by decide)) 13).trans (f17 13 (by decide))))))
                    obtain ⟨x88, ex88⟩ : ∃ y : Int32, y = x10 + 1 := ⟨_, rfl⟩
                    have tx88 : x88.toInt = x10.toInt + 1 := (jadd ex88 rfl jz_1 (by omega) (by omega)).trans (by omega)
                    refine lv_iinc (v := x88) (lv' := [(4, .int x88), (5, .int x32), (0, .ref (ad 55)), (1, .int 3), (2, .int a2), (3, .int a3)]) hx hb dX12_orders_121 hl (k := 1) rfl (by rw [ex88]; rfl) (by decide) rfl (fun ls hl => ?_)
                    refine lv_goto (tgt := 38) hx hb dX12_orders_124 (by decide) ?_
                    exact ihlp8 x88 σ73 _ _ ls (by have h90 := tx88; omega) (by have h90 := tx88; omega) (by have h90 := tx88; omega) (fun i hi => ((f75 i hi).trans ((jnp i eσ52 (imp_275 i hi)).trans (f16 i hi)))) (fun i hi => ((f76 i hi).trans ((congrFun (jnp 55 eσ52 (by decide)) i).trans (f17 i hi))))  p79 I77 I78 hP hS (lv_sub hl [0, 2, 3, 4, 5] rfl)
                  · have kc50 := jne c50 rfl rfl
                    obtain ⟨x89, ex89⟩ : ∃ y : Int32, y = x32 + 1 := ⟨_, rfl⟩
                    have tx89 : x89.toInt = x32.toInt + 1 := (jadd ex89 rfl jz_1 (by omega) (by omega)).trans (by omega)
                    refine lv_iinc (v := x89) (lv' := [(5, .int x89), (4, .int x10), (0, .ref (ad 55)), (1, .int 3), (2, .int a2), (3, .int a3)]) hx hb dX12_orders_78 hl (k := 0) rfl (by rw [ex89]; rfl) (by decide) rfl (fun ls hl => ?_)
                    refine lv_goto (tgt := 47) hx hb dX12_orders_81 (by decide) ?_
                    exact ihlp30 x89 _ _ ls (by have h90 := tx89; omega) (by have h90 := tx89; omega) (by have h90 := tx89; omega) (by have h90 := tx89; omega)    hP hS (lv_sub hl [0, 1, 2, 3, 4, 5] rfl)
          exact lp30 1000000 0 _ _ ls (by have h90 := jz_0; omega) (by have h90 := jz_0; omega) (by have h90 := jz_0; omega) (by have h90 := jz_0; omega)   hP hS hl
    exact lp8 1000000 0 σ _ _ ls (by have h90 := jz_0; omega) (by have h90 := jz_0; omega) (by have h90 := jz_0; omega) (fun _ _ => rfl) (fun _ _ => rfl)  hs_jKept hI104 hI119 hP hS hl
  · have kc7 := jeq c7 jz_3 rfl
    refine lv_aload_n hx hb dX12_orders_8 rfl (lv_at hl 0 rfl) ?_
    refine jcallV (As := []) (rest := []) ⟨hx, hb, hml, hown, hts⟩ hK hP hA hS hZ (c_X12_bestNow l D cI cL ad zz hJ σ τ hI101 hI102 hI103 hI104 hI105 hI106 hI119 hs_jKept (by omega)) cw_RX12_346 (jc_55 cI cL ad σ τ) rfl ⟨Nat.le_of_ble_eq_true rfl, Nat.le_of_ble_eq_true rfl⟩ rfl rfl rfl hl.1 rfl (Nat.le_of_ble_eq_true rfl) dX12_orders_9 ⟨Nat.zero_le _, Nat.zero_le _⟩ (fun r91 σ90 τ90 H locs h90 hP hS => ?_)
    obtain ⟨rfl, f92, f93, I94, p95, h90⟩ := h90
    refine lv_istore (lv' := [(4, .int r91), (0, .ref (ad 55)), (1, .int 3), (2, .int a2), (3, .int a3)]) hx hb dX12_orders_12 hl (by decide) rfl (fun ls hl => ?_)
    refine lv_iload hx hb dX12_orders_14 (lv_at hl 0 rfl) ?_
    refine lv_aload_n hx hb dX12_orders_16 rfl (lv_at hl 1 rfl) ?_
    refine va_get (D := D) hx hb hts inlX12 hown hK hP 55 (jc_55 cI cL ad σ90 τ) rfl 46 (by decide) (hts _ kw_40_17) (fun _ h9 => h9) rfl dX12_orders_17 ?_
    have m96 : σ90 55 46 = (σ 55 46) := (f93 46 (by decide))
    refine jtopr m96 ?_
    refine lv_icmp_le (tgt := 34) hx hb dX12_orders_20 (by decide) (fun c97 => ?_) (fun c97 => ?_)
    · have kc97 := jle c97 rfl rfl
      have I98 : jI104 σ90 := jI104_fr (f93 10 (by decide)) (f93 12 (by decide)) (f93 13 (by decide)) (f92 62 (by decide)) (f92 67 (by decide)) hI104
      exact hret σ90 τ _ _ _ _ ⟨rfl, (fun i hi => (f92 i (imp_270 i hi))), (fun i hi => (f93 i (imp_271 i hi))), I98, I94, p95, trivial⟩ hP hS dX12_orders_34
    · have kc97 := jnle c97 rfl rfl
      refine lv_aload_n hx hb dX12_orders_23 rfl (lv_at hl 1 rfl) ?_
      refine lv_iload hx hb dX12_orders_24 (lv_at hl 0 rfl) ?_
      refine jput (ty := .int) hx hb hts inlX12 tyX12 tyX12_ok nmX12 hown hK hP hJ hA hS (jc_55 cI cL ad σ90 τ) rfl (k := 46) (by decide) (Nat.le_of_ble_eq_true rfl) (jp_55_46 cI cL ad σ90 τ r91) (hts _ kw_40_17) (fun _ h9 => h9) rfl (by decide +kernel) rfl rfl dX12_orders_26 (fun σ99 H locs eσ99 hP hS => ?_)
      refine lv_aload_n hx hb dX12_orders_29 rfl (lv_at hl 1 rfl) ?_
      refine lv_iload_n hx hb dX12_orders_30 rfl (lv_at hl 4 rfl) ?_
      refine jput (ty := .int) hx hb hts inlX12 tyX12 tyX12_ok nmX12 hown hK hP hJ hA hS (jc_55 cI cL ad σ99 τ) rfl (k := 45) (by decide) (Nat.le_of_ble_eq_true rfl) (jp_55_45 cI cL ad σ99 τ a3) (hts _ kw_40_18) (fun _ h9 => h9) rfl (by decide +kernel) rfl rfl dX12_orders_31 (fun σ100 H locs eσ100 hP hS => ?_)
      have I101 : jI104 σ100 := jI104_fr ((jkp 10 eσ100 (by decide)).trans ((jkp 10 eσ99 (by decide)).trans (f93 10 (by decide)))) ((jkp 12 eσ100 (by decide)).trans ((jkp 12 eσ99 (by decide)).trans (f93 12 (by decide)))) ((jkp 13 eσ100 (by decide)).trans ((jkp 13 eσ99 (by decide)).trans (f93 13 (by decide)))) ((jnp 62 eσ100 (by decide)).trans ((jnp 62 eσ99 (by decide)).trans (f92 62 (by decide)))) ((jnp 67 eσ100 (by decide)).trans ((jnp 67 eσ99 (by decide)).trans (f92 67 (by decide)))) hI104
      have I102 : jI119 σ100 := jI119_fr ((jnp 68 eσ100 (by decide)).trans (jnp 68 eσ99 (by decide))) I94
      have p103 : jKept σ100 := jKept.fr ((jnp 75 eσ100 (by decide)).trans (jnp 75 eσ99 (by decide))) ((jnp 76 eσ100 (by decide)).trans (jnp 76 eσ99 (by decide))) ((jnp 77 eσ100 (by decide)).trans (jnp 77 eσ99 (by decide))) p95
      exact hret σ100 τ _ _ _ _ ⟨rfl, (fun i hi => ((jnp i eσ100 (imp_272 i hi)).trans ((jnp i eσ99 (imp_272 i hi)).trans (f92 i (imp_270 i hi))))), (fun i hi => ((jkp i eσ100 (imp_273 i hi)).trans ((jkp i eσ99 (imp_274 i hi)).trans (f93 i (imp_271 i hi))))), I101, I102, p103, trivial⟩ hP hS dX12_orders_34
set_option maxHeartbeats 4000000 in
set_option maxRecDepth 100000 in
theorem c_X12_orders_2 (l : Launch) (D : va_G) (cI cL : ClassId) (ad zz : Nat → Nat) (hJ : jD ad) (σ : Nat → Nat → Int32) (τ : Nat → Nat → Int64) (a2 : Int32) (A2 : Int) (t2 : a2.toInt = A2) (a3 : Int32) (A3 : Int) (t3 : a3.toInt = A3) (hI101 : jI101 σ) (hI102 : jI102 σ) (hI103 : jI103 σ) (hI104 : jI104 σ) (hI105 : jI105 σ) (hI106 : jI106 σ) (hI119 : jI119 σ) (hI111 : jI111 σ) (hs_jKept : jKept σ) (hp0 : (σ 55 10).toInt ≤ 5) (hp1 : 2 ≤ (σ 55 10).toInt) (hp2 : (σ 55 12).toInt ≤ 8) : jMv l yX12_orders cX12_orders 6 none ({ frames := 107, cells := 0, slots := 0, locals := 5156 }) D cI cL ad zz [.ref (ad 55), .int 2, .int a2, .int a3] σ τ (fun σ' τ' => τ = τ' ∧ (∀ i : Nat, (i < 55 ∨ 55 < i) ∧ (i < 62 ∨ 62 < i) ∧ (i < 66 ∨ 66 < i) ∧ (i < 68 ∨ 69 < i) ∧ (i < 74 ∨ 78 < i) → σ' i = σ i) ∧ (∀ k : Nat, (k < 18 ∨ 18 < k) ∧ (k < 19 ∨ 19 < k) ∧ (k < 20 ∨ 20 < k) ∧ (k < 21 ∨ 21 < k) ∧ (k < 22 ∨ 22 < k) ∧ (k < 25 ∨ 25 < k) ∧ (k < 26 ∨ 26 < k) ∧ (k < 27 ∨ 27 < k) ∧ (k < 37 ∨ 37 < k) ∧ (k < 42 ∨ 42 < k) ∧ (k < 45 ∨ 45 < k) ∧ (k < 46 ∨ 46 < k) → σ' 55 k = σ 55 k) ∧ (jI104 σ') ∧ (jI119 σ') ∧ (jKept σ') ∧ True) := by
  refine jMv.of hJ (by decide +kernel) rfl (Nat.le_of_ble_eq_true rfl) ?_
  intro p e s m args below meth c Q ls hC hret hl hP
  obtain ⟨hx, hb, hr, hml, hown, hts, hK, -, hlocks, hZ⟩ := hC
  have hown : s.vm.findClass RX12 = some m.cls := hown
  have hS : va_S (jA ad) s.heap s.heap [] := va_S.rf
  have hA : ∀ q, jA ad q → jA ad q := fun _ h => h
  have hl : lv_has ls 6 [(0, .ref (ad 55)), (1, .int 2), (2, .int a2), (3, .int a3)] := hl
  have g2 := jrg t2
  have g3 := jrg t3
  obtain ⟨i1, i2, i3, w4, w5⟩ : (1 ≤ (σ 55 10).toInt ∧ (σ 55 10).toInt ≤ 8) ∧ (1 ≤ (σ 55 12).toInt ∧ (σ 55 12).toInt ≤ 12) ∧ (0 ≤ (σ 55 13).toInt ∧ (σ 55 13).toInt ≤ 999) ∧ (∀ k : Nat, k < 8 → 0 ≤ (σ 62 k).toInt ∧ (σ 62 k).toInt ≤ 3) ∧ (∀ k : Nat, k < 8 → 0 ≤ (σ 67 k).toInt ∧ (σ 67 k).toInt ≤ 3) := id hI104
  have w6 : ∀ k : Nat, k < 5 → 0 ≤ (σ 79 k).toInt ∧ (σ 79 k).toInt ≤ 3 := hI111
  refine lv_iload_n hx hb dX12_orders_0 rfl (lv_at hl 1 rfl) ?_
  refine lv_aload_n hx hb dX12_orders_1 rfl (lv_at hl 0 rfl) ?_
  refine va_get (D := D) hx hb hts inlX12 hown hK hP 55 (jc_55 cI cL ad σ τ) rfl 10 (by decide) (hts _ kw_8_15) (fun _ h9 => h9) rfl dX12_orders_2 ?_
  refine lv_icmp_ne (tgt := 35) hx hb dX12_orders_5 (by decide) (fun c7 => ?_) (fun c7 => ?_)
  · have kc7 := jne c7 jz_2 rfl
    refine lv_iconst (v := 0) hx hb dX12_orders_35 (by decide) ?_
    refine lv_istore (lv' := [(4, .int 0), (0, .ref (ad 55)), (1, .int 2), (2, .int a2), (3, .int a3)]) hx hb dX12_orders_36 hl (by decide) rfl (fun ls hl => ?_)
    have lp8 : ∀ (n9 : Nat) (x10 : Int32) (σ12 : Nat → Nat → Int32) (H : Heap) (locs : List Loc) (ls : Array Slot), (-x10.toInt + 4 : Int) < n9 → 0 ≤ x10.toInt → x10.toInt ≤ 4 → (∀ i : Nat, (i < 55 ∨ 55 < i) ∧ (i < 62 ∨ 62 < i) ∧ (i < 66 ∨ 66 < i) ∧ (i < 68 ∨ 69 < i) ∧ (i < 74 ∨ 78 < i) → σ12 i = σ i) → (∀ k : Nat, (k < 18 ∨ 18 < k) ∧ (k < 19 ∨ 19 < k) ∧ (k < 20 ∨ 20 < k) ∧ (k < 21 ∨ 21 < k) ∧ (k < 22 ∨ 22 < k) ∧ (k < 25 ∨ 25 < k) ∧ (k < 26 ∨ 26 < k) ∧ (k < 27 ∨ 27 < k) ∧ (k < 37 ∨ 37 < k) ∧ (k < 42 ∨ 42 < k) ∧ (k < 45 ∨ 45 < k) ∧ (k < 46 ∨ 46 < k) → σ12 55 k = σ 55 k) → jKept σ12 → jI104 σ12 → jI119 σ12 → jH D cI cL ad σ12 τ H → va_S (jA ad) s.heap H locs → lv_has ls 6 [(4, .int x10), (0, .ref (ad 55)), (1, .int 2), (2, .int a2), (3, .int a3)] → W p l e ({ frames := 107, cells := 0, slots := 0, locals := 5156 }) s m args below meth c H locs 0 0 Q (F0 m 38 ls []) := by
      intro n9
      induction n9 with
      | zero => intro x10 σ12 H locs ls h13 h14 h15; exact absurd h13 (by omega)
      | succ n9 ihlp8 =>
        intro x10 σ12 H locs ls h13 h14 h15 f16 f17 p18 p19 p20 hP hS hl
        obtain ⟨i21, i22, i23, w24, w25⟩ : (1 ≤ (σ12 55 10).toInt ∧ (σ12 55 10).toInt ≤ 8) ∧ (1 ≤ (σ12 55 12).toInt ∧ (σ12 55 12).toInt ≤ 12) ∧ (0 ≤ (σ12 55 13).toInt ∧ (σ12 55 13).toInt ≤ 999) ∧ (∀ k : Nat, k < 8 → 0 ≤ (σ12 62 k).toInt ∧ (σ12 62 k).toInt ≤ 3) ∧ (∀ k : Nat, k < 8 → 0 ≤ (σ12 67 k).toInt ∧ (σ12 67 k).toInt ≤ 3) := id p19
        have z26 : (σ12 55 10).toInt = (σ 55 10).toInt := (congrArg Int32.toInt (show σ12 55 10 = (σ 55 10) from (f17 10 (by decide))))
        have z27 : (σ12 55 12).toInt = (σ 55 12).toInt := (congrArg Int32.toInt (show σ12 55 12 = (σ 55 12) from (f17 12 (by decide))))
        have z28 : (σ12 55 13).toInt = (σ 55 13).toInt := (congrArg Int32.toInt (show σ12 55 13 = (σ 55 13) from (f17 13 (by decide))))
        refine lv_iload hx hb dX12_orders_38 (lv_at hl 0 rfl) ?_
        refine lv_iconst (v := 4) hx hb dX12_orders_40 (by decide) ?_
        refine lv_icmp_ge (tgt := 127) hx hb dX12_orders_41 (by decide) (fun c29 => ?_) (fun c29 => ?_)
        · have kc29 := jle c29 jz_4 rfl
          exact hret σ12 τ _ _ _ _ ⟨rfl, (fun i hi => (f16 i hi)), (fun i hi => (f17 i hi)), p19, p20, p18, trivial⟩ hP hS dX12_orders_127
        · have kc29 := jnle c29 jz_4 rfl
          refine lv_iconst (v := 0) hx hb dX12_orders_44 (by decide) ?_
          refine lv_istore (lv' := [(5, .int 0), (4, .int x10), (0, .ref (ad 55)), (1, .int 2), (2, .int a2), (3, .int a3)]) hx hb dX12_orders_45 hl (by decide) rfl (fun ls hl => ?_)
          have lp30 : ∀ (n31 : Nat) (x32 : Int32) (H : Heap) (locs : List Loc) (ls : Array Slot), ((σ12 55 10).toInt - x32.toInt : Int) < n31 → 0 ≤ x32.toInt → x32.toInt ≤ 5 → x32.toInt ≤ (σ12 55 10).toInt → jH D cI cL ad σ12 τ H → va_S (jA ad) s.heap H locs → lv_has ls 6 [(5, .int x32), (4, .int x10), (0, .ref (ad 55)), (1, .int 2), (2, .int a2), (3, .int a3)] → W p l e ({ frames := 107, cells := 0, slots := 0, locals := 5156 }) s m args below meth c H locs 0 0 Q (F0 m 47 ls []) := by
            intro n31
            induction n31 with
            | zero => intro x32 H locs ls h33 h34 h35 h36; exact absurd h33 (by omega)
            | succ n31 ihlp30 =>
              intro x32 H locs ls h33 h34 h35 h36 hP hS hl
              refine lv_iload hx hb dX12_orders_47 (lv_at hl 0 rfl) ?_
              refine lv_aload_n hx hb dX12_orders_49 rfl (lv_at hl 2 rfl) ?_
              refine va_get (D := D) hx hb hts inlX12 hown hK hP 55 (jc_55 cI cL ad σ12 τ) rfl 10 (by decide) (hts _ kw_8_15) (fun _ h9 => h9) rfl dX12_orders_50 ?_
              have m38 : σ12 55 10 = (σ 55 10) := (f17 10 (by decide))
              refine jtopr m38 ?_
              refine lv_icmp_ge (tgt := 84) hx hb dX12_orders_53 (by decide) (fun c39 => ?_) (fun c39 => ?_)
              · have kc39 := jle c39 rfl rfl
                refine lv_iload hx hb dX12_orders_84 (lv_at hl 0 rfl) ?_
                refine lv_aload_n hx hb dX12_orders_86 rfl (lv_at hl 2 rfl) ?_
                refine va_get (D := D) hx hb hts inlX12 hown hK hP 55 (jc_55 cI cL ad σ12 τ) rfl 10 (by decide) (hts _ kw_8_15) (fun _ h9 => h9) rfl dX12_orders_87 ?_
                refine jtopr m38 ?_
                refine lv_icmp_ge (tgt := 121) hx hb dX12_orders_90 (by decide) (fun c40 => ?_) (fun c => absurd (jnle c rfl rfl) (by omega))
                have kc40 := jle c40 rfl rfl
                obtain ⟨x41, ex41⟩ : ∃ y : Int32, y = x10 + 1 := ⟨_, rfl⟩
                have tx41 : x41.toInt = x10.toInt + 1 := (jadd ex41 rfl jz_1 (by omega) (by omega)).trans (by omega)
                refine lv_iinc (v := x41) (lv' := [(4, .int x41), (5, .int x32), (0, .ref (ad 55)), (1, .int 2), (2, .int a2), (3, .int a3)]) hx hb dX12_orders_121 hl (k := 1) rfl (by rw [ex41]; rfl) (by decide) rfl (fun ls hl => ?_)
                refine lv_goto (tgt := 38) hx hb dX12_orders_124 (by decide) ?_
                exact ihlp8 x41 σ12 _ _ ls (by have h90 := tx41; omega) (by have h90 := tx41; omega) (by have h90 := tx41; omega) (fun i hi => (f16 i hi)) (fun i hi => (f17 i hi))  p18 p19 p20 hP hS (lv_sub hl [0, 2, 3, 4, 5] rfl)
              · have kc39 := jnle c39 rfl rfl
                refine lv_iload_n hx hb dX12_orders_56 rfl (lv_at hl 4 rfl) ?_
                refine lv_iload hx hb dX12_orders_57 (lv_at hl 0 rfl) ?_
                refine lv_ishr hx hb dX12_orders_59 ?_
                refine lv_topi (fun x42 ex42 => ?_)
                have gx42 := jrg (rfl : x42.toInt = x42.toInt)
                refine lv_iconst (v := 1) hx hb dX12_orders_60 (by decide) ?_
                refine lv_iand hx hb dX12_orders_61 ?_
                refine lv_topi (fun x43 ex43 => ?_)
                have gx43 := jrg (rfl : x43.toInt = x43.toInt)
                have g44 : 0 ≤ x43.toInt ∧ x43.toInt ≤ 1 := jmask ex43 1 (by decide) (by decide)
                refine lv_iconst (v := 1) hx hb dX12_orders_62 (by decide) ?_
                refine lv_icmp_eq (tgt := 78) hx hb dX12_orders_63 (by decide) (fun c45 => ?_) (fun c45 => ?_)
                · have kc45 := jeq c45 rfl jz_1
                  obtain ⟨x46, ex46⟩ : ∃ y : Int32, y = x32 + 1 := ⟨_, rfl⟩
                  have tx46 : x46.toInt = x32.toInt + 1 := (jadd ex46 rfl jz_1 (by omega) (by omega)).trans (by omega)
                  refine lv_iinc (v := x46) (lv' := [(5, .int x46), (4, .int x10), (0, .ref (ad 55)), (1, .int 2), (2, .int a2), (3, .int a3)]) hx hb dX12_orders_78 hl (k := 0) rfl (by rw [ex46]; rfl) (by decide) rfl (fun ls hl => ?_)
                  refine lv_goto (tgt := 47) hx hb dX12_orders_81 (by decide) ?_
                  exact ihlp30 x46 _ _ ls (by have h90 := tx46; omega) (by have h90 := tx46; omega) (by have h90 := tx46; omega) (by have h90 := tx46; omega)    hP hS (lv_sub hl [0, 1, 2, 3, 4, 5] rfl)
                · have kc45 := jne c45 rfl jz_1
                  refine lv_aload_n hx hb dX12_orders_66 rfl (lv_at hl 2 rfl) ?_
                  refine va_get (D := D) hx hb hts inlX12 hown hK hP 55 (jc_55 cI cL ad σ12 τ) rfl 44 (by decide) (hts _ kw_8_4) (fun _ h9 => h9) rfl dX12_orders_67 ?_
                  refine lv_iload hx hb dX12_orders_70 (lv_at hl 0 rfl) ?_
                  refine jald hx hb hK hP (jc_79 cI cL ad σ12 τ) (jin rfl (by omega) (by omega)) dX12_orders_72 ?_
                  have w47 : ∀ k : Nat, k < 5 → 0 ≤ (σ12 79 k).toInt ∧ (σ12 79 k).toInt ≤ 3 := (jrr_fr (f16 79 (by decide)) w6)
                  have g48 := w47 _ (jnat (x := x32) rfl (n := 5) (by omega) (by decide))
                  refine lv_topi (fun x49 ex49 => ?_)
                  rw [← ex49] at g48
                  refine lv_iload hx hb dX12_orders_73 (lv_at hl 1 rfl) ?_
                  refine lv_icmp_eq (tgt := 84) hx hb dX12_orders_75 (by decide) (fun c50 => ?_) (fun c50 => ?_)
                  · have kc50 := jeq c50 rfl rfl
                    refine lv_iload hx hb dX12_orders_84 (lv_at hl 0 rfl) ?_
                    refine lv_aload_n hx hb dX12_orders_86 rfl (lv_at hl 2 rfl) ?_
                    refine va_get (D := D) hx hb hts inlX12 hown hK hP 55 (jc_55 cI cL ad σ12 τ) rfl 10 (by decide) (hts _ kw_8_15) (fun _ h9 => h9) rfl dX12_orders_87 ?_
                    refine jtopr m38 ?_
                    refine lv_icmp_ge (tgt := 121) hx hb dX12_orders_90 (by decide) (fun c => absurd (jle c rfl rfl) (by omega)) (fun c51 => ?_)
                    have kc51 := jnle c51 rfl rfl
                    refine lv_aload_n hx hb dX12_orders_93 rfl (lv_at hl 2 rfl) ?_
                    refine va_get (D := D) hx hb hts inlX12 hown hK hP 55 (jc_55 cI cL ad σ12 τ) rfl 11 (by decide) (hts _ kw_7_8) (fun _ h9 => h9) rfl dX12_orders_94 ?_
                    refine lv_iload_n hx hb dX12_orders_97 rfl (lv_at hl 3 rfl) ?_
                    refine lv_iload hx hb dX12_orders_98 (lv_at hl 1 rfl) ?_
                    refine jast hx hb hK hP hJ hA hS (jc_62 cI cL ad σ12 τ) (ja_62 cI cL ad σ12 τ _ _) (jin jz_2 (by omega) (by omega)) dX12_orders_100 (fun σ52 H locs eσ52 hP hS => ?_)
                    have eσ52 : σ52 = jup σ12 62 2 x10 := eσ52
                    refine lv_aload_n hx hb dX12_orders_101 rfl (lv_at hl 2 rfl) ?_
                    refine lv_iload_n hx hb dX12_orders_102 rfl (lv_at hl 3 rfl) ?_
                    refine lv_iconst (v := 1) hx hb dX12_orders_103 (by decide) ?_
                    refine lv_iadd hx hb dX12_orders_104 ?_
                    refine jtopr (y := 3) (by decide) ?_
                    refine lv_iload_n hx hb dX12_orders_105 rfl (lv_at hl 4 rfl) ?_
                    refine lv_iconst (v := 1) hx hb dX12_orders_106 (by decide) ?_
                    refine lv_iload hx hb dX12_orders_107 (lv_at hl 0 rfl) ?_
                    refine lv_ishl hx hb dX12_orders_109 ?_
                    refine lv_topi (fun x53 ex53 => ?_)
                    have gx53 := jrg (rfl : x53.toInt = x53.toInt)
                    refine lv_ior hx hb dX12_orders_110 ?_
                    refine lv_topi (fun x54 ex54 => ?_)
                    have gx54 := jrg (rfl : x54.toInt = x54.toInt)
                    refine lv_bipush (v := 10) hx hb dX12_orders_111 (by decide) ?_
                    refine lv_iload_n hx hb dX12_orders_113 rfl (lv_at hl 5 rfl) ?_
                    refine lv_imul hx hb dX12_orders_114 ?_
                    refine lv_topi (fun x55 ex55 => ?_)
                    have gx55 := jrg (rfl : x55.toInt = x55.toInt)
                    refine lv_iload hx hb dX12_orders_115 (lv_at hl 1 rfl) ?_
                    have g56 := jrg (rfl : x55.toInt = x55.toInt)
                    have g57 := jrg (rfl : x10.toInt = x10.toInt)
                    refine lv_iadd hx hb dX12_orders_117 ?_
                    refine lv_topi (fun x58 ex58 => ?_)
                    have gx58 := jrg (rfl : x58.toInt = x58.toInt)
                    have I59 : jI101 σ52 := jI101_fr ((congrFun (jnp 55 eσ52 (by decide)) 4).trans (f17 4 (by decide))) ((congrFun (jnp 55 eσ52 (by decide)) 5).trans (f17 5 (by decide))) ((jnp 56 eσ52 (by decide)).trans (f16 56 (by decide))) ((jnp 57 eσ52 (by decide)).trans (f16 57 (by decide))) ((jnp 58 eσ52 (by decide)).trans (f16 58 (by decide))) ((jnp 59 eσ52 (by decide)).trans (f16 59 (by decide))) hI101
                    have I60 : jI102 σ52 := jI102_fr ((congrFun (jnp 55 eσ52 (by decide)) 6).trans (f17 6 (by decide))) ((jnp 60 eσ52 (by decide)).trans (f16 60 (by decide))) ((jnp 61 eσ52 (by decide)).trans (f16 61 (by decide))) hI102
                    have I61 : jI103 σ52 := jI103_fr ((congrFun (jnp 55 eσ52 (by decide)) 9).trans (f17 9 (by decide))) hI103
                    have z62 : (σ52 55 10).toInt = (σ 55 10).toInt := (congrArg Int32.toInt (show σ52 55 10 = (σ 55 10) from ((congrFun (jnp 55 eσ52 (by decide)) 10).trans m38)))
                    have z63 : (σ52 55 12).toInt = (σ 55 12).toInt := (congrArg Int32.toInt (show σ52 55 12 = (σ 55 12) from ((congrFun (jnp 55 eσ52 (by decide)) 12).trans (f17 12 (by decide)))))
                    have z64 : (σ52 55 13).toInt = (σ 55 13).toInt := (congrArg Int32.toInt (show σ52 55 13 = (σ 55 13) from ((congrFun (jnp 55 eσ52 (by decide)) 13).trans (f17 13 (by decide)))))
                    have w65 : ∀ k : Nat, k < 8 → 0 ≤ (σ52 62 k).toInt ∧ (σ52 62 k).toInt ≤ 3 := (by rw [eσ52]; exact jrr_up w24 (by omega) (by omega))
                    have w66 : ∀ k : Nat, k < 8 → 0 ≤ (σ52 67 k).toInt ∧ (σ52 67 k).toInt ≤ 3 := (jrr_fr (jnp 67 eσ52 (by decide)) w25)
                    have I67 : jI104 σ52 := ⟨(by omega), (by omega), (by omega), w65, w66⟩
                    have I68 : jI105 σ52 := jI105_fr ((congrFun (jnp 55 eσ52 (by decide)) 15).trans (f17 15 (by decide))) ((jnp 65 eσ52 (by decide)).trans (f16 65 (by decide))) hI105
                    have I69 : jI106 σ52 := jI106_fr ((congrFun (jnp 55 eσ52 (by decide)) 32).trans (f17 32 (by decide))) ((jnp 70 eσ52 (by decide)).trans (f16 70 (by decide))) ((jnp 71 eσ52 (by decide)).trans (f16 71 (by decide))) ((jnp 72 eσ52 (by decide)).trans (f16 72 (by decide))) hI106
                    have I70 : jI119 σ52 := jI119_fr (jnp 68 eσ52 (by decide)) p20
                    have I71 : jI111 σ52 := jI111_fr ((jnp 79 eσ52 (by decide)).trans (f16 79 (by decide))) hI111
                    have p72 : jKept σ52 := jKept.fr (jnp 75 eσ52 (by decide)) (jnp 76 eσ52 (by decide)) (jnp 77 eσ52 (by decide)) p18
                    refine jcallVv (As := [.int 3, .int x54, .int x58]) (rest := []) ⟨hx, hb, hml, hown, hts⟩ hK hP hA hS hZ (c_X12_orders_3 l D cI cL ad zz hJ σ52 τ x54 (x54.toInt) rfl x58 (x58.toInt) rfl I59 I60 I61 I67 I68 I69 I70 I71 p72 (by omega) (by omega) (by omega)) cw_RX12_355 (jc_55 cI cL ad σ52 τ) rfl ⟨Nat.le_of_ble_eq_true rfl, Nat.le_of_ble_eq_true rfl⟩ rfl rfl rfl hl.1 rfl (Nat.le_of_ble_eq_true rfl) dX12_orders_118 ⟨Nat.zero_le _, Nat.zero_le _⟩ (fun σ73 τ73 H locs h73 hP hS => ?_)
                    obtain ⟨rfl, f75, f76, I77, I78, p79, h73⟩ := h73
                    obtain ⟨i80, i81, i82, w83, w84⟩ : (1 ≤ (σ73 55 10).toInt ∧ (σ73 55 10).toInt ≤ 8) ∧ (1 ≤ (σ73 55 12).toInt ∧ (σ73 55 12).toInt ≤ 12) ∧ (0 ≤ (σ73 55 13).toInt ∧ (σ73 55 13).toInt ≤ 999) ∧ (∀ k : Nat, k < 8 → 0 ≤ (σ73 62 k).toInt ∧ (σ73 62 k).toInt ≤ 3) ∧ (∀ k : Nat, k < 8 → 0 ≤ (σ73 67 k).toInt ∧ (σ73 67 k).toInt ≤ 3) := id I77
                    have z85 : (σ73 55 10).toInt = (σ 55 10).toInt := (congrArg Int32.toInt (show σ73 55 10 = (σ 55 10) from ((f76 10 (by decide)).trans ((congrFun (jnp 55 eσ52 (by decide)) 10).trans m38))))
                    have z86 : (σ73 55 12).toInt = (σ 55 12).toInt := (congrArg Int32.toInt (show σ73 55 12 = (σ 55 12) from ((f76 12 (by decide)).trans ((congrFun (jnp 55 eσ52 (by decide)) 12).trans (f17 12 (by decide))))))
                    have z87 : (σ73 55 13).toInt = (σ 55 13).toInt := (congrArg Int32.toInt (show σ73 55 13 = (σ 55 13) from ((f76 13 (by decide)).trans ((congrFun (jnp 55 eσ52 (by decide)) 13).trans (f17 13 (by decide))))))
                    obtain ⟨x88, ex88⟩ : ∃ y : Int32, y = x10 + 1 := ⟨_, rfl⟩
                    have tx88 : x88.toInt = x10.toInt + 1 := (jadd ex88 rfl jz_1 (by omega) (by omega)).trans (by omega)
                    refine lv_iinc (v := x88) (lv' := [(4, .int x88), (5, .int x32), (0, .ref (ad 55)), (1, .int 2), (2, .int a2), (3, .int a3)]) hx hb dX12_orders_121 hl (k := 1) rfl (by rw [ex88]; rfl) (by decide) rfl (fun ls hl => ?_)
                    refine lv_goto (tgt := 38) hx hb dX12_orders_124 (by decide) ?_
                    exact ihlp8 x88 σ73 _ _ ls (by have h90 := tx88; omega) (by have h90 := tx88; omega) (by have h90 := tx88; omega) (fun i hi => ((f75 i hi).trans ((jnp i eσ52 (imp_275 i hi)).trans (f16 i hi)))) (fun i hi => ((f76 i hi).trans ((congrFun (jnp 55 eσ52 (by decide)) i).trans (f17 i hi))))  p79 I77 I78 hP hS (lv_sub hl [0, 2, 3, 4, 5] rfl)
                  · have kc50 := jne c50 rfl rfl
                    obtain ⟨x89, ex89⟩ : ∃ y : Int32, y = x32 + 1 := ⟨_, rfl⟩
                    have tx89 : x89.toInt = x32.toInt + 1 := (jadd ex89 rfl jz_1 (by omega) (by omega)).trans (by omega)
                    refine lv_iinc (v := x89) (lv' := [(5, .int x89), (4, .int x10), (0, .ref (ad 55)), (1, .int 2), (2, .int a2), (3, .int a3)]) hx hb dX12_orders_78 hl (k := 0) rfl (by rw [ex89]; rfl) (by decide) rfl (fun ls hl => ?_)
                    refine lv_goto (tgt := 47) hx hb dX12_orders_81 (by decide) ?_
                    exact ihlp30 x89 _ _ ls (by have h90 := tx89; omega) (by have h90 := tx89; omega) (by have h90 := tx89; omega) (by have h90 := tx89; omega)    hP hS (lv_sub hl [0, 1, 2, 3, 4, 5] rfl)
          exact lp30 1000000 0 _ _ ls (by have h90 := jz_0; omega) (by have h90 := jz_0; omega) (by have h90 := jz_0; omega) (by have h90 := jz_0; omega)   hP hS hl
    exact lp8 1000000 0 σ _ _ ls (by have h90 := jz_0; omega) (by have h90 := jz_0; omega) (by have h90 := jz_0; omega) (fun _ _ => rfl) (fun _ _ => rfl)  hs_jKept hI104 hI119 hP hS hl
  · have kc7 := jeq c7 jz_2 rfl
    refine lv_aload_n hx hb dX12_orders_8 rfl (lv_at hl 0 rfl) ?_
    refine jcallV (As := []) (rest := []) ⟨hx, hb, hml, hown, hts⟩ hK hP hA hS hZ (c_X12_bestNow l D cI cL ad zz hJ σ τ hI101 hI102 hI103 hI104 hI105 hI106 hI119 hs_jKept (by omega)) cw_RX12_346 (jc_55 cI cL ad σ τ) rfl ⟨Nat.le_of_ble_eq_true rfl, Nat.le_of_ble_eq_true rfl⟩ rfl rfl rfl hl.1 rfl (Nat.le_of_ble_eq_true rfl) dX12_orders_9 ⟨Nat.zero_le _, Nat.zero_le _⟩ (fun r91 σ90 τ90 H locs h90 hP hS => ?_)
    obtain ⟨rfl, f92, f93, I94, p95, h90⟩ := h90
    refine lv_istore (lv' := [(4, .int r91), (0, .ref (ad 55)), (1, .int 2), (2, .int a2), (3, .int a3)]) hx hb dX12_orders_12 hl (by decide) rfl (fun ls hl => ?_)
    refine lv_iload hx hb dX12_orders_14 (lv_at hl 0 rfl) ?_
    refine lv_aload_n hx hb dX12_orders_16 rfl (lv_at hl 1 rfl) ?_
    refine va_get (D := D) hx hb hts inlX12 hown hK hP 55 (jc_55 cI cL ad σ90 τ) rfl 46 (by decide) (hts _ kw_40_17) (fun _ h9 => h9) rfl dX12_orders_17 ?_
    have m96 : σ90 55 46 = (σ 55 46) := (f93 46 (by decide))
    refine jtopr m96 ?_
    refine lv_icmp_le (tgt := 34) hx hb dX12_orders_20 (by decide) (fun c97 => ?_) (fun c97 => ?_)
    · have kc97 := jle c97 rfl rfl
      have I98 : jI104 σ90 := jI104_fr (f93 10 (by decide)) (f93 12 (by decide)) (f93 13 (by decide)) (f92 62 (by decide)) (f92 67 (by decide)) hI104
      exact hret σ90 τ _ _ _ _ ⟨rfl, (fun i hi => (f92 i (imp_270 i hi))), (fun i hi => (f93 i (imp_271 i hi))), I98, I94, p95, trivial⟩ hP hS dX12_orders_34
    · have kc97 := jnle c97 rfl rfl
      refine lv_aload_n hx hb dX12_orders_23 rfl (lv_at hl 1 rfl) ?_
      refine lv_iload hx hb dX12_orders_24 (lv_at hl 0 rfl) ?_
      refine jput (ty := .int) hx hb hts inlX12 tyX12 tyX12_ok nmX12 hown hK hP hJ hA hS (jc_55 cI cL ad σ90 τ) rfl (k := 46) (by decide) (Nat.le_of_ble_eq_true rfl) (jp_55_46 cI cL ad σ90 τ r91) (hts _ kw_40_17) (fun _ h9 => h9) rfl (by decide +kernel) rfl rfl dX12_orders_26 (fun σ99 H locs eσ99 hP hS => ?_)
      refine lv_aload_n hx hb dX12_orders_29 rfl (lv_at hl 1 rfl) ?_
      refine lv_iload_n hx hb dX12_orders_30 rfl (lv_at hl 4 rfl) ?_
      refine jput (ty := .int) hx hb hts inlX12 tyX12 tyX12_ok nmX12 hown hK hP hJ hA hS (jc_55 cI cL ad σ99 τ) rfl (k := 45) (by decide) (Nat.le_of_ble_eq_true rfl) (jp_55_45 cI cL ad σ99 τ a3) (hts _ kw_40_18) (fun _ h9 => h9) rfl (by decide +kernel) rfl rfl dX12_orders_31 (fun σ100 H locs eσ100 hP hS => ?_)
      have I101 : jI104 σ100 := jI104_fr ((jkp 10 eσ100 (by decide)).trans ((jkp 10 eσ99 (by decide)).trans (f93 10 (by decide)))) ((jkp 12 eσ100 (by decide)).trans ((jkp 12 eσ99 (by decide)).trans (f93 12 (by decide)))) ((jkp 13 eσ100 (by decide)).trans ((jkp 13 eσ99 (by decide)).trans (f93 13 (by decide)))) ((jnp 62 eσ100 (by decide)).trans ((jnp 62 eσ99 (by decide)).trans (f92 62 (by decide)))) ((jnp 67 eσ100 (by decide)).trans ((jnp 67 eσ99 (by decide)).trans (f92 67 (by decide)))) hI104
      have I102 : jI119 σ100 := jI119_fr ((jnp 68 eσ100 (by decide)).trans (jnp 68 eσ99 (by decide))) I94
      have p103 : jKept σ100 := jKept.fr ((jnp 75 eσ100 (by decide)).trans (jnp 75 eσ99 (by decide))) ((jnp 76 eσ100 (by decide)).trans (jnp 76 eσ99 (by decide))) ((jnp 77 eσ100 (by decide)).trans (jnp 77 eσ99 (by decide))) p95
      exact hret σ100 τ _ _ _ _ ⟨rfl, (fun i hi => ((jnp i eσ100 (imp_272 i hi)).trans ((jnp i eσ99 (imp_272 i hi)).trans (f92 i (imp_270 i hi))))), (fun i hi => ((jkp i eσ100 (imp_273 i hi)).trans ((jkp i eσ99 (imp_274 i hi)).trans (f93 i (imp_271 i hi))))), I101, I102, p103, trivial⟩ hP hS dX12_orders_34
set_option maxHeartbeats 4000000 in
set_option maxRecDepth 100000 in
theorem c_X12_orders_1 (l : Launch) (D : va_G) (cI cL : ClassId) (ad zz : Nat → Nat) (hJ : jD ad) (σ : Nat → Nat → Int32) (τ : Nat → Nat → Int64) (a2 : Int32) (A2 : Int) (t2 : a2.toInt = A2) (a3 : Int32) (A3 : Int) (t3 : a3.toInt = A3) (hI101 : jI101 σ) (hI102 : jI102 σ) (hI103 : jI103 σ) (hI104 : jI104 σ) (hI105 : jI105 σ) (hI106 : jI106 σ) (hI119 : jI119 σ) (hI111 : jI111 σ) (hs_jKept : jKept σ) (hp0 : (σ 55 10).toInt ≤ 5) (hp1 : 1 ≤ (σ 55 10).toInt) (hp2 : (σ 55 12).toInt ≤ 8) : jMv l yX12_orders cX12_orders 6 none ({ frames := 108, cells := 0, slots := 0, locals := 5181 }) D cI cL ad zz [.ref (ad 55), .int 1, .int a2, .int a3] σ τ (fun σ' τ' => τ = τ' ∧ (∀ i : Nat, (i < 55 ∨ 55 < i) ∧ (i < 62 ∨ 62 < i) ∧ (i < 66 ∨ 66 < i) ∧ (i < 68 ∨ 69 < i) ∧ (i < 74 ∨ 78 < i) → σ' i = σ i) ∧ (∀ k : Nat, (k < 18 ∨ 18 < k) ∧ (k < 19 ∨ 19 < k) ∧ (k < 20 ∨ 20 < k) ∧ (k < 21 ∨ 21 < k) ∧ (k < 22 ∨ 22 < k) ∧ (k < 25 ∨ 25 < k) ∧ (k < 26 ∨ 26 < k) ∧ (k < 27 ∨ 27 < k) ∧ (k < 37 ∨ 37 < k) ∧ (k < 42 ∨ 42 < k) ∧ (k < 45 ∨ 45 < k) ∧ (k < 46 ∨ 46 < k) → σ' 55 k = σ 55 k) ∧ (jI104 σ') ∧ (jI119 σ') ∧ (jKept σ') ∧ True) := by
  refine jMv.of hJ (by decide +kernel) rfl (Nat.le_of_ble_eq_true rfl) ?_
  intro p e s m args below meth c Q ls hC hret hl hP
  obtain ⟨hx, hb, hr, hml, hown, hts, hK, -, hlocks, hZ⟩ := hC
  have hown : s.vm.findClass RX12 = some m.cls := hown
  have hS : va_S (jA ad) s.heap s.heap [] := va_S.rf
  have hA : ∀ q, jA ad q → jA ad q := fun _ h => h
  have hl : lv_has ls 6 [(0, .ref (ad 55)), (1, .int 1), (2, .int a2), (3, .int a3)] := hl
  have g2 := jrg t2
  have g3 := jrg t3
  obtain ⟨i1, i2, i3, w4, w5⟩ : (1 ≤ (σ 55 10).toInt ∧ (σ 55 10).toInt ≤ 8) ∧ (1 ≤ (σ 55 12).toInt ∧ (σ 55 12).toInt ≤ 12) ∧ (0 ≤ (σ 55 13).toInt ∧ (σ 55 13).toInt ≤ 999) ∧ (∀ k : Nat, k < 8 → 0 ≤ (σ 62 k).toInt ∧ (σ 62 k).toInt ≤ 3) ∧ (∀ k : Nat, k < 8 → 0 ≤ (σ 67 k).toInt ∧ (σ 67 k).toInt ≤ 3) := id hI104
  have w6 : ∀ k : Nat, k < 5 → 0 ≤ (σ 79 k).toInt ∧ (σ 79 k).toInt ≤ 3 := hI111
  refine lv_iload_n hx hb dX12_orders_0 rfl (lv_at hl 1 rfl) ?_
  refine lv_aload_n hx hb dX12_orders_1 rfl (lv_at hl 0 rfl) ?_
  refine va_get (D := D) hx hb hts inlX12 hown hK hP 55 (jc_55 cI cL ad σ τ) rfl 10 (by decide) (hts _ kw_8_15) (fun _ h9 => h9) rfl dX12_orders_2 ?_
  refine lv_icmp_ne (tgt := 35) hx hb dX12_orders_5 (by decide) (fun c7 => ?_) (fun c7 => ?_)
  · have kc7 := jne c7 jz_1 rfl
    refine lv_iconst (v := 0) hx hb dX12_orders_35 (by decide) ?_
    refine lv_istore (lv' := [(4, .int 0), (0, .ref (ad 55)), (1, .int 1), (2, .int a2), (3, .int a3)]) hx hb dX12_orders_36 hl (by decide) rfl (fun ls hl => ?_)
    have lp8 : ∀ (n9 : Nat) (x10 : Int32) (σ12 : Nat → Nat → Int32) (H : Heap) (locs : List Loc) (ls : Array Slot), (-x10.toInt + 4 : Int) < n9 → 0 ≤ x10.toInt → x10.toInt ≤ 4 → (∀ i : Nat, (i < 55 ∨ 55 < i) ∧ (i < 62 ∨ 62 < i) ∧ (i < 66 ∨ 66 < i) ∧ (i < 68 ∨ 69 < i) ∧ (i < 74 ∨ 78 < i) → σ12 i = σ i) → (∀ k : Nat, (k < 18 ∨ 18 < k) ∧ (k < 19 ∨ 19 < k) ∧ (k < 20 ∨ 20 < k) ∧ (k < 21 ∨ 21 < k) ∧ (k < 22 ∨ 22 < k) ∧ (k < 25 ∨ 25 < k) ∧ (k < 26 ∨ 26 < k) ∧ (k < 27 ∨ 27 < k) ∧ (k < 37 ∨ 37 < k) ∧ (k < 42 ∨ 42 < k) ∧ (k < 45 ∨ 45 < k) ∧ (k < 46 ∨ 46 < k) → σ12 55 k = σ 55 k) → jKept σ12 → jI104 σ12 → jI119 σ12 → jH D cI cL ad σ12 τ H → va_S (jA ad) s.heap H locs → lv_has ls 6 [(4, .int x10), (0, .ref (ad 55)), (1, .int 1), (2, .int a2), (3, .int a3)] → W p l e ({ frames := 108, cells := 0, slots := 0, locals := 5181 }) s m args below meth c H locs 0 0 Q (F0 m 38 ls []) := by
      intro n9
      induction n9 with
      | zero => intro x10 σ12 H locs ls h13 h14 h15; exact absurd h13 (by omega)
      | succ n9 ihlp8 =>
        intro x10 σ12 H locs ls h13 h14 h15 f16 f17 p18 p19 p20 hP hS hl
        obtain ⟨i21, i22, i23, w24, w25⟩ : (1 ≤ (σ12 55 10).toInt ∧ (σ12 55 10).toInt ≤ 8) ∧ (1 ≤ (σ12 55 12).toInt ∧ (σ12 55 12).toInt ≤ 12) ∧ (0 ≤ (σ12 55 13).toInt ∧ (σ12 55 13).toInt ≤ 999) ∧ (∀ k : Nat, k < 8 → 0 ≤ (σ12 62 k).toInt ∧ (σ12 62 k).toInt ≤ 3) ∧ (∀ k : Nat, k < 8 → 0 ≤ (σ12 67 k).toInt ∧ (σ12 67 k).toInt ≤ 3) := id p19
        have z26 : (σ12 55 10).toInt = (σ 55 10).toInt := (congrArg Int32.toInt (show σ12 55 10 = (σ 55 10) from (f17 10 (by decide))))
        have z27 : (σ12 55 12).toInt = (σ 55 12).toInt := (congrArg Int32.toInt (show σ12 55 12 = (σ 55 12) from (f17 12 (by decide))))
        have z28 : (σ12 55 13).toInt = (σ 55 13).toInt := (congrArg Int32.toInt (show σ12 55 13 = (σ 55 13) from (f17 13 (by decide))))
        refine lv_iload hx hb dX12_orders_38 (lv_at hl 0 rfl) ?_
        refine lv_iconst (v := 4) hx hb dX12_orders_40 (by decide) ?_
        refine lv_icmp_ge (tgt := 127) hx hb dX12_orders_41 (by decide) (fun c29 => ?_) (fun c29 => ?_)
        · have kc29 := jle c29 jz_4 rfl
          exact hret σ12 τ _ _ _ _ ⟨rfl, (fun i hi => (f16 i hi)), (fun i hi => (f17 i hi)), p19, p20, p18, trivial⟩ hP hS dX12_orders_127
        · have kc29 := jnle c29 jz_4 rfl
          refine lv_iconst (v := 0) hx hb dX12_orders_44 (by decide) ?_
          refine lv_istore (lv' := [(5, .int 0), (4, .int x10), (0, .ref (ad 55)), (1, .int 1), (2, .int a2), (3, .int a3)]) hx hb dX12_orders_45 hl (by decide) rfl (fun ls hl => ?_)
          have lp30 : ∀ (n31 : Nat) (x32 : Int32) (H : Heap) (locs : List Loc) (ls : Array Slot), ((σ12 55 10).toInt - x32.toInt : Int) < n31 → 0 ≤ x32.toInt → x32.toInt ≤ 5 → x32.toInt ≤ (σ12 55 10).toInt → jH D cI cL ad σ12 τ H → va_S (jA ad) s.heap H locs → lv_has ls 6 [(5, .int x32), (4, .int x10), (0, .ref (ad 55)), (1, .int 1), (2, .int a2), (3, .int a3)] → W p l e ({ frames := 108, cells := 0, slots := 0, locals := 5181 }) s m args below meth c H locs 0 0 Q (F0 m 47 ls []) := by
            intro n31
            induction n31 with
            | zero => intro x32 H locs ls h33 h34 h35 h36; exact absurd h33 (by omega)
            | succ n31 ihlp30 =>
              intro x32 H locs ls h33 h34 h35 h36 hP hS hl
              refine lv_iload hx hb dX12_orders_47 (lv_at hl 0 rfl) ?_
              refine lv_aload_n hx hb dX12_orders_49 rfl (lv_at hl 2 rfl) ?_
              refine va_get (D := D) hx hb hts inlX12 hown hK hP 55 (jc_55 cI cL ad σ12 τ) rfl 10 (by decide) (hts _ kw_8_15) (fun _ h9 => h9) rfl dX12_orders_50 ?_
              have m38 : σ12 55 10 = (σ 55 10) := (f17 10 (by decide))
              refine jtopr m38 ?_
              refine lv_icmp_ge (tgt := 84) hx hb dX12_orders_53 (by decide) (fun c39 => ?_) (fun c39 => ?_)
              · have kc39 := jle c39 rfl rfl
                refine lv_iload hx hb dX12_orders_84 (lv_at hl 0 rfl) ?_
                refine lv_aload_n hx hb dX12_orders_86 rfl (lv_at hl 2 rfl) ?_
                refine va_get (D := D) hx hb hts inlX12 hown hK hP 55 (jc_55 cI cL ad σ12 τ) rfl 10 (by decide) (hts _ kw_8_15) (fun _ h9 => h9) rfl dX12_orders_87 ?_
                refine jtopr m38 ?_
                refine lv_icmp_ge (tgt := 121) hx hb dX12_orders_90 (by decide) (fun c40 => ?_) (fun c => absurd (jnle c rfl rfl) (by omega))
                have kc40 := jle c40 rfl rfl
                obtain ⟨x41, ex41⟩ : ∃ y : Int32, y = x10 + 1 := ⟨_, rfl⟩
                have tx41 : x41.toInt = x10.toInt + 1 := (jadd ex41 rfl jz_1 (by omega) (by omega)).trans (by omega)
                refine lv_iinc (v := x41) (lv' := [(4, .int x41), (5, .int x32), (0, .ref (ad 55)), (1, .int 1), (2, .int a2), (3, .int a3)]) hx hb dX12_orders_121 hl (k := 1) rfl (by rw [ex41]; rfl) (by decide) rfl (fun ls hl => ?_)
                refine lv_goto (tgt := 38) hx hb dX12_orders_124 (by decide) ?_
                exact ihlp8 x41 σ12 _ _ ls (by have h90 := tx41; omega) (by have h90 := tx41; omega) (by have h90 := tx41; omega) (fun i hi => (f16 i hi)) (fun i hi => (f17 i hi))  p18 p19 p20 hP hS (lv_sub hl [0, 2, 3, 4, 5] rfl)
              · have kc39 := jnle c39 rfl rfl
                refine lv_iload_n hx hb dX12_orders_56 rfl (lv_at hl 4 rfl) ?_
                refine lv_iload hx hb dX12_orders_57 (lv_at hl 0 rfl) ?_
                refine lv_ishr hx hb dX12_orders_59 ?_
                refine lv_topi (fun x42 ex42 => ?_)
                have gx42 := jrg (rfl : x42.toInt = x42.toInt)
                refine lv_iconst (v := 1) hx hb dX12_orders_60 (by decide) ?_
                refine lv_iand hx hb dX12_orders_61 ?_
                refine lv_topi (fun x43 ex43 => ?_)
                have gx43 := jrg (rfl : x43.toInt = x43.toInt)
                have g44 : 0 ≤ x43.toInt ∧ x43.toInt ≤ 1 := jmask ex43 1 (by decide) (by decide)
                refine lv_iconst (v := 1) hx hb dX12_orders_62 (by decide) ?_
                refine lv_icmp_eq (tgt := 78) hx hb dX12_orders_63 (by decide) (fun c45 => ?_) (fun c45 => ?_)
                · have kc45 := jeq c45 rfl jz_1
                  obtain ⟨x46, ex46⟩ : ∃ y : Int32, y = x32 + 1 := ⟨_, rfl⟩
                  have tx46 : x46.toInt = x32.toInt + 1 := (jadd ex46 rfl jz_1 (by omega) (by omega)).trans (by omega)
                  refine lv_iinc (v := x46) (lv' := [(5, .int x46), (4, .int x10), (0, .ref (ad 55)), (1, .int 1), (2, .int a2), (3, .int a3)]) hx hb dX12_orders_78 hl (k := 0) rfl (by rw [ex46]; rfl) (by decide) rfl (fun ls hl => ?_)
                  refine lv_goto (tgt := 47) hx hb dX12_orders_81 (by decide) ?_
                  exact ihlp30 x46 _ _ ls (by have h90 := tx46; omega) (by have h90 := tx46; omega) (by have h90 := tx46; omega) (by have h90 := tx46; omega)    hP hS (lv_sub hl [0, 1, 2, 3, 4, 5] rfl)
                · have kc45 := jne c45 rfl jz_1
                  refine lv_aload_n hx hb dX12_orders_66 rfl (lv_at hl 2 rfl) ?_
                  refine va_get (D := D) hx hb hts inlX12 hown hK hP 55 (jc_55 cI cL ad σ12 τ) rfl 44 (by decide) (hts _ kw_8_4) (fun _ h9 => h9) rfl dX12_orders_67 ?_
                  refine lv_iload hx hb dX12_orders_70 (lv_at hl 0 rfl) ?_
                  refine jald hx hb hK hP (jc_79 cI cL ad σ12 τ) (jin rfl (by omega) (by omega)) dX12_orders_72 ?_
                  have w47 : ∀ k : Nat, k < 5 → 0 ≤ (σ12 79 k).toInt ∧ (σ12 79 k).toInt ≤ 3 := (jrr_fr (f16 79 (by decide)) w6)
                  have g48 := w47 _ (jnat (x := x32) rfl (n := 5) (by omega) (by decide))
                  refine lv_topi (fun x49 ex49 => ?_)
                  rw [← ex49] at g48
                  refine lv_iload hx hb dX12_orders_73 (lv_at hl 1 rfl) ?_
                  refine lv_icmp_eq (tgt := 84) hx hb dX12_orders_75 (by decide) (fun c50 => ?_) (fun c50 => ?_)
                  · have kc50 := jeq c50 rfl rfl
                    refine lv_iload hx hb dX12_orders_84 (lv_at hl 0 rfl) ?_
                    refine lv_aload_n hx hb dX12_orders_86 rfl (lv_at hl 2 rfl) ?_
                    refine va_get (D := D) hx hb hts inlX12 hown hK hP 55 (jc_55 cI cL ad σ12 τ) rfl 10 (by decide) (hts _ kw_8_15) (fun _ h9 => h9) rfl dX12_orders_87 ?_
                    refine jtopr m38 ?_
                    refine lv_icmp_ge (tgt := 121) hx hb dX12_orders_90 (by decide) (fun c => absurd (jle c rfl rfl) (by omega)) (fun c51 => ?_)
                    have kc51 := jnle c51 rfl rfl
                    refine lv_aload_n hx hb dX12_orders_93 rfl (lv_at hl 2 rfl) ?_
                    refine va_get (D := D) hx hb hts inlX12 hown hK hP 55 (jc_55 cI cL ad σ12 τ) rfl 11 (by decide) (hts _ kw_7_8) (fun _ h9 => h9) rfl dX12_orders_94 ?_
                    refine lv_iload_n hx hb dX12_orders_97 rfl (lv_at hl 3 rfl) ?_
                    refine lv_iload hx hb dX12_orders_98 (lv_at hl 1 rfl) ?_
                    refine jast hx hb hK hP hJ hA hS (jc_62 cI cL ad σ12 τ) (ja_62 cI cL ad σ12 τ _ _) (jin jz_1 (by omega) (by omega)) dX12_orders_100 (fun σ52 H locs eσ52 hP hS => ?_)
                    have eσ52 : σ52 = jup σ12 62 1 x10 := eσ52
                    refine lv_aload_n hx hb dX12_orders_101 rfl (lv_at hl 2 rfl) ?_
                    refine lv_iload_n hx hb dX12_orders_102 rfl (lv_at hl 3 rfl) ?_
                    refine lv_iconst (v := 1) hx hb dX12_orders_103 (by decide) ?_
                    refine lv_iadd hx hb dX12_orders_104 ?_
                    refine jtopr (y := 2) (by decide) ?_
                    refine lv_iload_n hx hb dX12_orders_105 rfl (lv_at hl 4 rfl) ?_
                    refine lv_iconst (v := 1) hx hb dX12_orders_106 (by decide) ?_
                    refine lv_iload hx hb dX12_orders_107 (lv_at hl 0 rfl) ?_
                    refine lv_ishl hx hb dX12_orders_109 ?_
                    refine lv_topi (fun x53 ex53 => ?_)
                    have gx53 := jrg (rfl : x53.toInt = x53.toInt)
                    refine lv_ior hx hb dX12_orders_110 ?_
                    refine lv_topi (fun x54 ex54 => ?_)
                    have gx54 := jrg (rfl : x54.toInt = x54.toInt)
                    refine lv_bipush (v := 10) hx hb dX12_orders_111 (by decide) ?_
                    refine lv_iload_n hx hb dX12_orders_113 rfl (lv_at hl 5 rfl) ?_
                    refine lv_imul hx hb dX12_orders_114 ?_
                    refine lv_topi (fun x55 ex55 => ?_)
                    have gx55 := jrg (rfl : x55.toInt = x55.toInt)
                    refine lv_iload hx hb dX12_orders_115 (lv_at hl 1 rfl) ?_
                    have g56 := jrg (rfl : x55.toInt = x55.toInt)
                    have g57 := jrg (rfl : x10.toInt = x10.toInt)
                    refine lv_iadd hx hb dX12_orders_117 ?_
                    refine lv_topi (fun x58 ex58 => ?_)
                    have gx58 := jrg (rfl : x58.toInt = x58.toInt)
                    have I59 : jI101 σ52 := jI101_fr ((congrFun (jnp 55 eσ52 (by decide)) 4).trans (f17 4 (by decide))) ((congrFun (jnp 55 eσ52 (by decide)) 5).trans (f17 5 (by decide))) ((jnp 56 eσ52 (by decide)).trans (f16 56 (by decide))) ((jnp 57 eσ52 (by decide)).trans (f16 57 (by decide))) ((jnp 58 eσ52 (by decide)).trans (f16 58 (by decide))) ((jnp 59 eσ52 (by decide)).trans (f16 59 (by decide))) hI101
                    have I60 : jI102 σ52 := jI102_fr ((congrFun (jnp 55 eσ52 (by decide)) 6).trans (f17 6 (by decide))) ((jnp 60 eσ52 (by decide)).trans (f16 60 (by decide))) ((jnp 61 eσ52 (by decide)).trans (f16 61 (by decide))) hI102
                    have I61 : jI103 σ52 := jI103_fr ((congrFun (jnp 55 eσ52 (by decide)) 9).trans (f17 9 (by decide))) hI103
                    have z62 : (σ52 55 10).toInt = (σ 55 10).toInt := (congrArg Int32.toInt (show σ52 55 10 = (σ 55 10) from ((congrFun (jnp 55 eσ52 (by decide)) 10).trans m38)))
                    have z63 : (σ52 55 12).toInt = (σ 55 12).toInt := (congrArg Int32.toInt (show σ52 55 12 = (σ 55 12) from ((congrFun (jnp 55 eσ52 (by decide)) 12).trans (f17 12 (by decide)))))
                    have z64 : (σ52 55 13).toInt = (σ 55 13).toInt := (congrArg Int32.toInt (show σ52 55 13 = (σ 55 13) from ((congrFun (jnp 55 eσ52 (by decide)) 13).trans (f17 13 (by decide)))))
                    have w65 : ∀ k : Nat, k < 8 → 0 ≤ (σ52 62 k).toInt ∧ (σ52 62 k).toInt ≤ 3 := (by rw [eσ52]; exact jrr_up w24 (by omega) (by omega))
                    have w66 : ∀ k : Nat, k < 8 → 0 ≤ (σ52 67 k).toInt ∧ (σ52 67 k).toInt ≤ 3 := (jrr_fr (jnp 67 eσ52 (by decide)) w25)
                    have I67 : jI104 σ52 := ⟨(by omega), (by omega), (by omega), w65, w66⟩
                    have I68 : jI105 σ52 := jI105_fr ((congrFun (jnp 55 eσ52 (by decide)) 15).trans (f17 15 (by decide))) ((jnp 65 eσ52 (by decide)).trans (f16 65 (by decide))) hI105
                    have I69 : jI106 σ52 := jI106_fr ((congrFun (jnp 55 eσ52 (by decide)) 32).trans (f17 32 (by decide))) ((jnp 70 eσ52 (by decide)).trans (f16 70 (by decide))) ((jnp 71 eσ52 (by decide)).trans (f16 71 (by decide))) ((jnp 72 eσ52 (by decide)).trans (f16 72 (by decide))) hI106
                    have I70 : jI119 σ52 := jI119_fr (jnp 68 eσ52 (by decide)) p20
                    have I71 : jI111 σ52 := jI111_fr ((jnp 79 eσ52 (by decide)).trans (f16 79 (by decide))) hI111
                    have p72 : jKept σ52 := jKept.fr (jnp 75 eσ52 (by decide)) (jnp 76 eσ52 (by decide)) (jnp 77 eσ52 (by decide)) p18
                    refine jcallVv (As := [.int 2, .int x54, .int x58]) (rest := []) ⟨hx, hb, hml, hown, hts⟩ hK hP hA hS hZ (c_X12_orders_2 l D cI cL ad zz hJ σ52 τ x54 (x54.toInt) rfl x58 (x58.toInt) rfl I59 I60 I61 I67 I68 I69 I70 I71 p72 (by omega) (by omega) (by omega)) cw_RX12_355 (jc_55 cI cL ad σ52 τ) rfl ⟨Nat.le_of_ble_eq_true rfl, Nat.le_of_ble_eq_true rfl⟩ rfl rfl rfl hl.1 rfl (Nat.le_of_ble_eq_true rfl) dX12_orders_118 ⟨Nat.zero_le _, Nat.zero_le _⟩ (fun σ73 τ73 H locs h73 hP hS => ?_)
                    obtain ⟨rfl, f75, f76, I77, I78, p79, h73⟩ := h73
                    obtain ⟨i80, i81, i82, w83, w84⟩ : (1 ≤ (σ73 55 10).toInt ∧ (σ73 55 10).toInt ≤ 8) ∧ (1 ≤ (σ73 55 12).toInt ∧ (σ73 55 12).toInt ≤ 12) ∧ (0 ≤ (σ73 55 13).toInt ∧ (σ73 55 13).toInt ≤ 999) ∧ (∀ k : Nat, k < 8 → 0 ≤ (σ73 62 k).toInt ∧ (σ73 62 k).toInt ≤ 3) ∧ (∀ k : Nat, k < 8 → 0 ≤ (σ73 67 k).toInt ∧ (σ73 67 k).toInt ≤ 3) := id I77
                    have z85 : (σ73 55 10).toInt = (σ 55 10).toInt := (congrArg Int32.toInt (show σ73 55 10 = (σ 55 10) from ((f76 10 (by decide)).trans ((congrFun (jnp 55 eσ52 (by decide)) 10).trans m38))))
                    have z86 : (σ73 55 12).toInt = (σ 55 12).toInt := (congrArg Int32.toInt (show σ73 55 12 = (σ 55 12) from ((f76 12 (by decide)).trans ((congrFun (jnp 55 eσ52 (by decide)) 12).trans (f17 12 (by decide))))))
                    have z87 : (σ73 55 13).toInt = (σ 55 13).toInt := (congrArg Int32.toInt (show σ73 55 13 = (σ 55 13) from ((f76 13 (by decide)).trans ((congrFun (jnp 55 eσ52 (by decide)) 13).trans (f17 13 (by decide))))))
                    obtain ⟨x88, ex88⟩ : ∃ y : Int32, y = x10 + 1 := ⟨_, rfl⟩
                    have tx88 : x88.toInt = x10.toInt + 1 := (jadd ex88 rfl jz_1 (by omega) (by omega)).trans (by omega)
                    refine lv_iinc (v := x88) (lv' := [(4, .int x88), (5, .int x32), (0, .ref (ad 55)), (1, .int 1), (2, .int a2), (3, .int a3)]) hx hb dX12_orders_121 hl (k := 1) rfl (by rw [ex88]; rfl) (by decide) rfl (fun ls hl => ?_)
                    refine lv_goto (tgt := 38) hx hb dX12_orders_124 (by decide) ?_
                    exact ihlp8 x88 σ73 _ _ ls (by have h90 := tx88; omega) (by have h90 := tx88; omega) (by have h90 := tx88; omega) (fun i hi => ((f75 i hi).trans ((jnp i eσ52 (imp_275 i hi)).trans (f16 i hi)))) (fun i hi => ((f76 i hi).trans ((congrFun (jnp 55 eσ52 (by decide)) i).trans (f17 i hi))))  p79 I77 I78 hP hS (lv_sub hl [0, 2, 3, 4, 5] rfl)
                  · have kc50 := jne c50 rfl rfl
                    obtain ⟨x89, ex89⟩ : ∃ y : Int32, y = x32 + 1 := ⟨_, rfl⟩
                    have tx89 : x89.toInt = x32.toInt + 1 := (jadd ex89 rfl jz_1 (by omega) (by omega)).trans (by omega)
                    refine lv_iinc (v := x89) (lv' := [(5, .int x89), (4, .int x10), (0, .ref (ad 55)), (1, .int 1), (2, .int a2), (3, .int a3)]) hx hb dX12_orders_78 hl (k := 0) rfl (by rw [ex89]; rfl) (by decide) rfl (fun ls hl => ?_)
                    refine lv_goto (tgt := 47) hx hb dX12_orders_81 (by decide) ?_
                    exact ihlp30 x89 _ _ ls (by have h90 := tx89; omega) (by have h90 := tx89; omega) (by have h90 := tx89; omega) (by have h90 := tx89; omega)    hP hS (lv_sub hl [0, 1, 2, 3, 4, 5] rfl)
          exact lp30 1000000 0 _ _ ls (by have h90 := jz_0; omega) (by have h90 := jz_0; omega) (by have h90 := jz_0; omega) (by have h90 := jz_0; omega)   hP hS hl
    exact lp8 1000000 0 σ _ _ ls (by have h90 := jz_0; omega) (by have h90 := jz_0; omega) (by have h90 := jz_0; omega) (fun _ _ => rfl) (fun _ _ => rfl)  hs_jKept hI104 hI119 hP hS hl
  · have kc7 := jeq c7 jz_1 rfl
    refine lv_aload_n hx hb dX12_orders_8 rfl (lv_at hl 0 rfl) ?_
    refine jcallV (As := []) (rest := []) ⟨hx, hb, hml, hown, hts⟩ hK hP hA hS hZ (c_X12_bestNow l D cI cL ad zz hJ σ τ hI101 hI102 hI103 hI104 hI105 hI106 hI119 hs_jKept (by omega)) cw_RX12_346 (jc_55 cI cL ad σ τ) rfl ⟨Nat.le_of_ble_eq_true rfl, Nat.le_of_ble_eq_true rfl⟩ rfl rfl rfl hl.1 rfl (Nat.le_of_ble_eq_true rfl) dX12_orders_9 ⟨Nat.zero_le _, Nat.zero_le _⟩ (fun r91 σ90 τ90 H locs h90 hP hS => ?_)
    obtain ⟨rfl, f92, f93, I94, p95, h90⟩ := h90
    refine lv_istore (lv' := [(4, .int r91), (0, .ref (ad 55)), (1, .int 1), (2, .int a2), (3, .int a3)]) hx hb dX12_orders_12 hl (by decide) rfl (fun ls hl => ?_)
    refine lv_iload hx hb dX12_orders_14 (lv_at hl 0 rfl) ?_
    refine lv_aload_n hx hb dX12_orders_16 rfl (lv_at hl 1 rfl) ?_
    refine va_get (D := D) hx hb hts inlX12 hown hK hP 55 (jc_55 cI cL ad σ90 τ) rfl 46 (by decide) (hts _ kw_40_17) (fun _ h9 => h9) rfl dX12_orders_17 ?_
    have m96 : σ90 55 46 = (σ 55 46) := (f93 46 (by decide))
    refine jtopr m96 ?_
    refine lv_icmp_le (tgt := 34) hx hb dX12_orders_20 (by decide) (fun c97 => ?_) (fun c97 => ?_)
    · have kc97 := jle c97 rfl rfl
      have I98 : jI104 σ90 := jI104_fr (f93 10 (by decide)) (f93 12 (by decide)) (f93 13 (by decide)) (f92 62 (by decide)) (f92 67 (by decide)) hI104
      exact hret σ90 τ _ _ _ _ ⟨rfl, (fun i hi => (f92 i (imp_270 i hi))), (fun i hi => (f93 i (imp_271 i hi))), I98, I94, p95, trivial⟩ hP hS dX12_orders_34
    · have kc97 := jnle c97 rfl rfl
      refine lv_aload_n hx hb dX12_orders_23 rfl (lv_at hl 1 rfl) ?_
      refine lv_iload hx hb dX12_orders_24 (lv_at hl 0 rfl) ?_
      refine jput (ty := .int) hx hb hts inlX12 tyX12 tyX12_ok nmX12 hown hK hP hJ hA hS (jc_55 cI cL ad σ90 τ) rfl (k := 46) (by decide) (Nat.le_of_ble_eq_true rfl) (jp_55_46 cI cL ad σ90 τ r91) (hts _ kw_40_17) (fun _ h9 => h9) rfl (by decide +kernel) rfl rfl dX12_orders_26 (fun σ99 H locs eσ99 hP hS => ?_)
      refine lv_aload_n hx hb dX12_orders_29 rfl (lv_at hl 1 rfl) ?_
      refine lv_iload_n hx hb dX12_orders_30 rfl (lv_at hl 4 rfl) ?_
      refine jput (ty := .int) hx hb hts inlX12 tyX12 tyX12_ok nmX12 hown hK hP hJ hA hS (jc_55 cI cL ad σ99 τ) rfl (k := 45) (by decide) (Nat.le_of_ble_eq_true rfl) (jp_55_45 cI cL ad σ99 τ a3) (hts _ kw_40_18) (fun _ h9 => h9) rfl (by decide +kernel) rfl rfl dX12_orders_31 (fun σ100 H locs eσ100 hP hS => ?_)
      have I101 : jI104 σ100 := jI104_fr ((jkp 10 eσ100 (by decide)).trans ((jkp 10 eσ99 (by decide)).trans (f93 10 (by decide)))) ((jkp 12 eσ100 (by decide)).trans ((jkp 12 eσ99 (by decide)).trans (f93 12 (by decide)))) ((jkp 13 eσ100 (by decide)).trans ((jkp 13 eσ99 (by decide)).trans (f93 13 (by decide)))) ((jnp 62 eσ100 (by decide)).trans ((jnp 62 eσ99 (by decide)).trans (f92 62 (by decide)))) ((jnp 67 eσ100 (by decide)).trans ((jnp 67 eσ99 (by decide)).trans (f92 67 (by decide)))) hI104
      have I102 : jI119 σ100 := jI119_fr ((jnp 68 eσ100 (by decide)).trans (jnp 68 eσ99 (by decide))) I94
      have p103 : jKept σ100 := jKept.fr ((jnp 75 eσ100 (by decide)).trans (jnp 75 eσ99 (by decide))) ((jnp 76 eσ100 (by decide)).trans (jnp 76 eσ99 (by decide))) ((jnp 77 eσ100 (by decide)).trans (jnp 77 eσ99 (by decide))) p95
      exact hret σ100 τ _ _ _ _ ⟨rfl, (fun i hi => ((jnp i eσ100 (imp_272 i hi)).trans ((jnp i eσ99 (imp_272 i hi)).trans (f92 i (imp_270 i hi))))), (fun i hi => ((jkp i eσ100 (imp_273 i hi)).trans ((jkp i eσ99 (imp_274 i hi)).trans (f93 i (imp_271 i hi))))), I101, I102, p103, trivial⟩ hP hS dX12_orders_34
set_option maxHeartbeats 4000000 in
set_option maxRecDepth 100000 in
theorem c_X12_orders_0 (l : Launch) (D : va_G) (cI cL : ClassId) (ad zz : Nat → Nat) (hJ : jD ad) (σ : Nat → Nat → Int32) (τ : Nat → Nat → Int64) (a2 : Int32) (A2 : Int) (t2 : a2.toInt = A2) (a3 : Int32) (A3 : Int) (t3 : a3.toInt = A3) (hI101 : jI101 σ) (hI102 : jI102 σ) (hI103 : jI103 σ) (hI104 : jI104 σ) (hI105 : jI105 σ) (hI106 : jI106 σ) (hI119 : jI119 σ) (hI111 : jI111 σ) (hs_jKept : jKept σ) (hp0 : (σ 55 10).toInt ≤ 5) (hp1 : 0 ≤ (σ 55 10).toInt) (hp2 : (σ 55 12).toInt ≤ 8) : jMv l yX12_orders cX12_orders 6 none ({ frames := 109, cells := 0, slots := 0, locals := 5206 }) D cI cL ad zz [.ref (ad 55), .int 0, .int a2, .int a3] σ τ (fun σ' τ' => τ = τ' ∧ (∀ i : Nat, (i < 55 ∨ 55 < i) ∧ (i < 62 ∨ 62 < i) ∧ (i < 66 ∨ 66 < i) ∧ (i < 68 ∨ 69 < i) ∧ (i < 74 ∨ 78 < i) → σ' i = σ i) ∧ (∀ k : Nat, (k < 18 ∨ 18 < k) ∧ (k < 19 ∨ 19 < k) ∧ (k < 20 ∨ 20 < k) ∧ (k < 21 ∨ 21 < k) ∧ (k < 22 ∨ 22 < k) ∧ (k < 25 ∨ 25 < k) ∧ (k < 26 ∨ 26 < k) ∧ (k < 27 ∨ 27 < k) ∧ (k < 37 ∨ 37 < k) ∧ (k < 42 ∨ 42 < k) ∧ (k < 45 ∨ 45 < k) ∧ (k < 46 ∨ 46 < k) → σ' 55 k = σ 55 k) ∧ (jI104 σ') ∧ (jI119 σ') ∧ (jKept σ') ∧ True) := by
  refine jMv.of hJ (by decide +kernel) rfl (Nat.le_of_ble_eq_true rfl) ?_
  intro p e s m args below meth c Q ls hC hret hl hP
  obtain ⟨hx, hb, hr, hml, hown, hts, hK, -, hlocks, hZ⟩ := hC
  have hown : s.vm.findClass RX12 = some m.cls := hown
  have hS : va_S (jA ad) s.heap s.heap [] := va_S.rf
  have hA : ∀ q, jA ad q → jA ad q := fun _ h => h
  have hl : lv_has ls 6 [(0, .ref (ad 55)), (1, .int 0), (2, .int a2), (3, .int a3)] := hl
  have g2 := jrg t2
  have g3 := jrg t3
  obtain ⟨i1, i2, i3, w4, w5⟩ : (1 ≤ (σ 55 10).toInt ∧ (σ 55 10).toInt ≤ 8) ∧ (1 ≤ (σ 55 12).toInt ∧ (σ 55 12).toInt ≤ 12) ∧ (0 ≤ (σ 55 13).toInt ∧ (σ 55 13).toInt ≤ 999) ∧ (∀ k : Nat, k < 8 → 0 ≤ (σ 62 k).toInt ∧ (σ 62 k).toInt ≤ 3) ∧ (∀ k : Nat, k < 8 → 0 ≤ (σ 67 k).toInt ∧ (σ 67 k).toInt ≤ 3) := id hI104
  have w6 : ∀ k : Nat, k < 5 → 0 ≤ (σ 79 k).toInt ∧ (σ 79 k).toInt ≤ 3 := hI111
  refine lv_iload_n hx hb dX12_orders_0 rfl (lv_at hl 1 rfl) ?_
  refine lv_aload_n hx hb dX12_orders_1 rfl (lv_at hl 0 rfl) ?_
  refine va_get (D := D) hx hb hts inlX12 hown hK hP 55 (jc_55 cI cL ad σ τ) rfl 10 (by decide) (hts _ kw_8_15) (fun _ h9 => h9) rfl dX12_orders_2 ?_
  refine lv_icmp_ne (tgt := 35) hx hb dX12_orders_5 (by decide) (fun c7 => ?_) (fun c => absurd (jeq c jz_0 rfl) (by omega))
  have kc7 := jne c7 jz_0 rfl
  refine lv_iconst (v := 0) hx hb dX12_orders_35 (by decide) ?_
  refine lv_istore (lv' := [(4, .int 0), (0, .ref (ad 55)), (1, .int 0), (2, .int a2), (3, .int a3)]) hx hb dX12_orders_36 hl (by decide) rfl (fun ls hl => ?_)
  have lp8 : ∀ (n9 : Nat) (x10 : Int32) (σ12 : Nat → Nat → Int32) (H : Heap) (locs : List Loc) (ls : Array Slot), (-x10.toInt + 4 : Int) < n9 → 0 ≤ x10.toInt → x10.toInt ≤ 4 → (∀ i : Nat, (i < 55 ∨ 55 < i) ∧ (i < 62 ∨ 62 < i) ∧ (i < 66 ∨ 66 < i) ∧ (i < 68 ∨ 69 < i) ∧ (i < 74 ∨ 78 < i) → σ12 i = σ i) → (∀ k : Nat, (k < 18 ∨ 18 < k) ∧ (k < 19 ∨ 19 < k) ∧ (k < 20 ∨ 20 < k) ∧ (k < 21 ∨ 21 < k) ∧ (k < 22 ∨ 22 < k) ∧ (k < 25 ∨ 25 < k) ∧ (k < 26 ∨ 26 < k) ∧ (k < 27 ∨ 27 < k) ∧ (k < 37 ∨ 37 < k) ∧ (k < 42 ∨ 42 < k) ∧ (k < 45 ∨ 45 < k) ∧ (k < 46 ∨ 46 < k) → σ12 55 k = σ 55 k) → jKept σ12 → jI104 σ12 → jI119 σ12 → jH D cI cL ad σ12 τ H → va_S (jA ad) s.heap H locs → lv_has ls 6 [(4, .int x10), (0, .ref (ad 55)), (1, .int 0), (2, .int a2), (3, .int a3)] → W p l e ({ frames := 109, cells := 0, slots := 0, locals := 5206 }) s m args below meth c H locs 0 0 Q (F0 m 38 ls []) := by
    intro n9
    induction n9 with
    | zero => intro x10 σ12 H locs ls h13 h14 h15; exact absurd h13 (by omega)
    | succ n9 ihlp8 =>
      intro x10 σ12 H locs ls h13 h14 h15 f16 f17 p18 p19 p20 hP hS hl
      obtain ⟨i21, i22, i23, w24, w25⟩ : (1 ≤ (σ12 55 10).toInt ∧ (σ12 55 10).toInt ≤ 8) ∧ (1 ≤ (σ12 55 12).toInt ∧ (σ12 55 12).toInt ≤ 12) ∧ (0 ≤ (σ12 55 13).toInt ∧ (σ12 55 13).toInt ≤ 999) ∧ (∀ k : Nat, k < 8 → 0 ≤ (σ12 62 k).toInt ∧ (σ12 62 k).toInt ≤ 3) ∧ (∀ k : Nat, k < 8 → 0 ≤ (σ12 67 k).toInt ∧ (σ12 67 k).toInt ≤ 3) := id p19
      have z26 : (σ12 55 10).toInt = (σ 55 10).toInt := (congrArg Int32.toInt (show σ12 55 10 = (σ 55 10) from (f17 10 (by decide))))
      have z27 : (σ12 55 12).toInt = (σ 55 12).toInt := (congrArg Int32.toInt (show σ12 55 12 = (σ 55 12) from (f17 12 (by decide))))
      have z28 : (σ12 55 13).toInt = (σ 55 13).toInt := (congrArg Int32.toInt (show σ12 55 13 = (σ 55 13) from (f17 13 (by decide))))
      refine lv_iload hx hb dX12_orders_38 (lv_at hl 0 rfl) ?_
      refine lv_iconst (v := 4) hx hb dX12_orders_40 (by decide) ?_
      refine lv_icmp_ge (tgt := 127) hx hb dX12_orders_41 (by decide) (fun c29 => ?_) (fun c29 => ?_)
      · have kc29 := jle c29 jz_4 rfl
        exact hret σ12 τ _ _ _ _ ⟨rfl, (fun i hi => (f16 i hi)), (fun i hi => (f17 i hi)), p19, p20, p18, trivial⟩ hP hS dX12_orders_127
      · have kc29 := jnle c29 jz_4 rfl
        refine lv_iconst (v := 0) hx hb dX12_orders_44 (by decide) ?_
        refine lv_istore (lv' := [(5, .int 0), (4, .int x10), (0, .ref (ad 55)), (1, .int 0), (2, .int a2), (3, .int a3)]) hx hb dX12_orders_45 hl (by decide) rfl (fun ls hl => ?_)
        have lp30 : ∀ (n31 : Nat) (x32 : Int32) (H : Heap) (locs : List Loc) (ls : Array Slot), ((σ12 55 10).toInt - x32.toInt : Int) < n31 → 0 ≤ x32.toInt → x32.toInt ≤ 5 → x32.toInt ≤ (σ12 55 10).toInt → jH D cI cL ad σ12 τ H → va_S (jA ad) s.heap H locs → lv_has ls 6 [(5, .int x32), (4, .int x10), (0, .ref (ad 55)), (1, .int 0), (2, .int a2), (3, .int a3)] → W p l e ({ frames := 109, cells := 0, slots := 0, locals := 5206 }) s m args below meth c H locs 0 0 Q (F0 m 47 ls []) := by
          intro n31
          induction n31 with
          | zero => intro x32 H locs ls h33 h34 h35 h36; exact absurd h33 (by omega)
          | succ n31 ihlp30 =>
            intro x32 H locs ls h33 h34 h35 h36 hP hS hl
            refine lv_iload hx hb dX12_orders_47 (lv_at hl 0 rfl) ?_
            refine lv_aload_n hx hb dX12_orders_49 rfl (lv_at hl 2 rfl) ?_
            refine va_get (D := D) hx hb hts inlX12 hown hK hP 55 (jc_55 cI cL ad σ12 τ) rfl 10 (by decide) (hts _ kw_8_15) (fun _ h9 => h9) rfl dX12_orders_50 ?_
            have m38 : σ12 55 10 = (σ 55 10) := (f17 10 (by decide))
            refine jtopr m38 ?_
            refine lv_icmp_ge (tgt := 84) hx hb dX12_orders_53 (by decide) (fun c39 => ?_) (fun c39 => ?_)
            · have kc39 := jle c39 rfl rfl
              refine lv_iload hx hb dX12_orders_84 (lv_at hl 0 rfl) ?_
              refine lv_aload_n hx hb dX12_orders_86 rfl (lv_at hl 2 rfl) ?_
              refine va_get (D := D) hx hb hts inlX12 hown hK hP 55 (jc_55 cI cL ad σ12 τ) rfl 10 (by decide) (hts _ kw_8_15) (fun _ h9 => h9) rfl dX12_orders_87 ?_
              refine jtopr m38 ?_
              refine lv_icmp_ge (tgt := 121) hx hb dX12_orders_90 (by decide) (fun c40 => ?_) (fun c => absurd (jnle c rfl rfl) (by omega))
              have kc40 := jle c40 rfl rfl
              obtain ⟨x41, ex41⟩ : ∃ y : Int32, y = x10 + 1 := ⟨_, rfl⟩
              have tx41 : x41.toInt = x10.toInt + 1 := (jadd ex41 rfl jz_1 (by omega) (by omega)).trans (by omega)
              refine lv_iinc (v := x41) (lv' := [(4, .int x41), (5, .int x32), (0, .ref (ad 55)), (1, .int 0), (2, .int a2), (3, .int a3)]) hx hb dX12_orders_121 hl (k := 1) rfl (by rw [ex41]; rfl) (by decide) rfl (fun ls hl => ?_)
              refine lv_goto (tgt := 38) hx hb dX12_orders_124 (by decide) ?_
              exact ihlp8 x41 σ12 _ _ ls (by have h90 := tx41; omega) (by have h90 := tx41; omega) (by have h90 := tx41; omega) (fun i hi => (f16 i hi)) (fun i hi => (f17 i hi))  p18 p19 p20 hP hS (lv_sub hl [0, 2, 3, 4, 5] rfl)
            · have kc39 := jnle c39 rfl rfl
              refine lv_iload_n hx hb dX12_orders_56 rfl (lv_at hl 4 rfl) ?_
              refine lv_iload hx hb dX12_orders_57 (lv_at hl 0 rfl) ?_
              refine lv_ishr hx hb dX12_orders_59 ?_
              refine lv_topi (fun x42 ex42 => ?_)
              have gx42 := jrg (rfl : x42.toInt = x42.toInt)
              refine lv_iconst (v := 1) hx hb dX12_orders_60 (by decide) ?_
              refine lv_iand hx hb dX12_orders_61 ?_
              refine lv_topi (fun x43 ex43 => ?_)
              have gx43 := jrg (rfl : x43.toInt = x43.toInt)
              have g44 : 0 ≤ x43.toInt ∧ x43.toInt ≤ 1 := jmask ex43 1 (by decide) (by decide)
              refine lv_iconst (v := 1) hx hb dX12_orders_62 (by decide) ?_
              refine lv_icmp_eq (tgt := 78) hx hb dX12_orders_63 (by decide) (fun c45 => ?_) (fun c45 => ?_)
              · have kc45 := jeq c45 rfl jz_1
                obtain ⟨x46, ex46⟩ : ∃ y : Int32, y = x32 + 1 := ⟨_, rfl⟩
                have tx46 : x46.toInt = x32.toInt + 1 := (jadd ex46 rfl jz_1 (by omega) (by omega)).trans (by omega)
                refine lv_iinc (v := x46) (lv' := [(5, .int x46), (4, .int x10), (0, .ref (ad 55)), (1, .int 0), (2, .int a2), (3, .int a3)]) hx hb dX12_orders_78 hl (k := 0) rfl (by rw [ex46]; rfl) (by decide) rfl (fun ls hl => ?_)
                refine lv_goto (tgt := 47) hx hb dX12_orders_81 (by decide) ?_
                exact ihlp30 x46 _ _ ls (by have h90 := tx46; omega) (by have h90 := tx46; omega) (by have h90 := tx46; omega) (by have h90 := tx46; omega)    hP hS (lv_sub hl [0, 1, 2, 3, 4, 5] rfl)
              · have kc45 := jne c45 rfl jz_1
                refine lv_aload_n hx hb dX12_orders_66 rfl (lv_at hl 2 rfl) ?_
                refine va_get (D := D) hx hb hts inlX12 hown hK hP 55 (jc_55 cI cL ad σ12 τ) rfl 44 (by decide) (hts _ kw_8_4) (fun _ h9 => h9) rfl dX12_orders_67 ?_
                refine lv_iload hx hb dX12_orders_70 (lv_at hl 0 rfl) ?_
                refine jald hx hb hK hP (jc_79 cI cL ad σ12 τ) (jin rfl (by omega) (by omega)) dX12_orders_72 ?_
                have w47 : ∀ k : Nat, k < 5 → 0 ≤ (σ12 79 k).toInt ∧ (σ12 79 k).toInt ≤ 3 := (jrr_fr (f16 79 (by decide)) w6)
                have g48 := w47 _ (jnat (x := x32) rfl (n := 5) (by omega) (by decide))
                refine lv_topi (fun x49 ex49 => ?_)
                rw [← ex49] at g48
                refine lv_iload hx hb dX12_orders_73 (lv_at hl 1 rfl) ?_
                refine lv_icmp_eq (tgt := 84) hx hb dX12_orders_75 (by decide) (fun c50 => ?_) (fun c50 => ?_)
                · have kc50 := jeq c50 rfl rfl
                  refine lv_iload hx hb dX12_orders_84 (lv_at hl 0 rfl) ?_
                  refine lv_aload_n hx hb dX12_orders_86 rfl (lv_at hl 2 rfl) ?_
                  refine va_get (D := D) hx hb hts inlX12 hown hK hP 55 (jc_55 cI cL ad σ12 τ) rfl 10 (by decide) (hts _ kw_8_15) (fun _ h9 => h9) rfl dX12_orders_87 ?_
                  refine jtopr m38 ?_
                  refine lv_icmp_ge (tgt := 121) hx hb dX12_orders_90 (by decide) (fun c => absurd (jle c rfl rfl) (by omega)) (fun c51 => ?_)
                  have kc51 := jnle c51 rfl rfl
                  refine lv_aload_n hx hb dX12_orders_93 rfl (lv_at hl 2 rfl) ?_
                  refine va_get (D := D) hx hb hts inlX12 hown hK hP 55 (jc_55 cI cL ad σ12 τ) rfl 11 (by decide) (hts _ kw_7_8) (fun _ h9 => h9) rfl dX12_orders_94 ?_
                  refine lv_iload_n hx hb dX12_orders_97 rfl (lv_at hl 3 rfl) ?_
                  refine lv_iload hx hb dX12_orders_98 (lv_at hl 1 rfl) ?_
                  refine jast hx hb hK hP hJ hA hS (jc_62 cI cL ad σ12 τ) (ja_62 cI cL ad σ12 τ _ _) (jin jz_0 (by omega) (by omega)) dX12_orders_100 (fun σ52 H locs eσ52 hP hS => ?_)
                  have eσ52 : σ52 = jup σ12 62 0 x10 := eσ52
                  refine lv_aload_n hx hb dX12_orders_101 rfl (lv_at hl 2 rfl) ?_
                  refine lv_iload_n hx hb dX12_orders_102 rfl (lv_at hl 3 rfl) ?_
                  refine lv_iconst (v := 1) hx hb dX12_orders_103 (by decide) ?_
                  refine lv_iadd hx hb dX12_orders_104 ?_
                  refine jtopr (y := 1) (by decide) ?_
                  refine lv_iload_n hx hb dX12_orders_105 rfl (lv_at hl 4 rfl) ?_
                  refine lv_iconst (v := 1) hx hb dX12_orders_106 (by decide) ?_
                  refine lv_iload hx hb dX12_orders_107 (lv_at hl 0 rfl) ?_
                  refine lv_ishl hx hb dX12_orders_109 ?_
                  refine lv_topi (fun x53 ex53 => ?_)
                  have gx53 := jrg (rfl : x53.toInt = x53.toInt)
                  refine lv_ior hx hb dX12_orders_110 ?_
                  refine lv_topi (fun x54 ex54 => ?_)
                  have gx54 := jrg (rfl : x54.toInt = x54.toInt)
                  refine lv_bipush (v := 10) hx hb dX12_orders_111 (by decide) ?_
                  refine lv_iload_n hx hb dX12_orders_113 rfl (lv_at hl 5 rfl) ?_
                  refine lv_imul hx hb dX12_orders_114 ?_
                  refine lv_topi (fun x55 ex55 => ?_)
                  have gx55 := jrg (rfl : x55.toInt = x55.toInt)
                  refine lv_iload hx hb dX12_orders_115 (lv_at hl 1 rfl) ?_
                  have g56 := jrg (rfl : x55.toInt = x55.toInt)
                  have g57 := jrg (rfl : x10.toInt = x10.toInt)
                  refine lv_iadd hx hb dX12_orders_117 ?_
                  refine lv_topi (fun x58 ex58 => ?_)
                  have gx58 := jrg (rfl : x58.toInt = x58.toInt)
                  have I59 : jI101 σ52 := jI101_fr ((congrFun (jnp 55 eσ52 (by decide)) 4).trans (f17 4 (by decide))) ((congrFun (jnp 55 eσ52 (by decide)) 5).trans (f17 5 (by decide))) ((jnp 56 eσ52 (by decide)).trans (f16 56 (by decide))) ((jnp 57 eσ52 (by decide)).trans (f16 57 (by decide))) ((jnp 58 eσ52 (by decide)).trans (f16 58 (by decide))) ((jnp 59 eσ52 (by decide)).trans (f16 59 (by decide))) hI101
                  have I60 : jI102 σ52 := jI102_fr ((congrFun (jnp 55 eσ52 (by decide)) 6).trans (f17 6 (by decide))) ((jnp 60 eσ52 (by decide)).trans (f16 60 (by decide))) ((jnp 61 eσ52 (by decide)).trans (f16 61 (by decide))) hI102
                  have I61 : jI103 σ52 := jI103_fr ((congrFun (jnp 55 eσ52 (by decide)) 9).trans (f17 9 (by decide))) hI103
                  have z62 : (σ52 55 10).toInt = (σ 55 10).toInt := (congrArg Int32.toInt (show σ52 55 10 = (σ 55 10) from ((congrFun (jnp 55 eσ52 (by decide)) 10).trans m38)))
                  have z63 : (σ52 55 12).toInt = (σ 55 12).toInt := (congrArg Int32.toInt (show σ52 55 12 = (σ 55 12) from ((congrFun (jnp 55 eσ52 (by decide)) 12).trans (f17 12 (by decide)))))
                  have z64 : (σ52 55 13).toInt = (σ 55 13).toInt := (congrArg Int32.toInt (show σ52 55 13 = (σ 55 13) from ((congrFun (jnp 55 eσ52 (by decide)) 13).trans (f17 13 (by decide)))))
                  have w65 : ∀ k : Nat, k < 8 → 0 ≤ (σ52 62 k).toInt ∧ (σ52 62 k).toInt ≤ 3 := (by rw [eσ52]; exact jrr_up w24 (by omega) (by omega))
                  have w66 : ∀ k : Nat, k < 8 → 0 ≤ (σ52 67 k).toInt ∧ (σ52 67 k).toInt ≤ 3 := (jrr_fr (jnp 67 eσ52 (by decide)) w25)
                  have I67 : jI104 σ52 := ⟨(by omega), (by omega), (by omega), w65, w66⟩
                  have I68 : jI105 σ52 := jI105_fr ((congrFun (jnp 55 eσ52 (by decide)) 15).trans (f17 15 (by decide))) ((jnp 65 eσ52 (by decide)).trans (f16 65 (by decide))) hI105
                  have I69 : jI106 σ52 := jI106_fr ((congrFun (jnp 55 eσ52 (by decide)) 32).trans (f17 32 (by decide))) ((jnp 70 eσ52 (by decide)).trans (f16 70 (by decide))) ((jnp 71 eσ52 (by decide)).trans (f16 71 (by decide))) ((jnp 72 eσ52 (by decide)).trans (f16 72 (by decide))) hI106
                  have I70 : jI119 σ52 := jI119_fr (jnp 68 eσ52 (by decide)) p20
                  have I71 : jI111 σ52 := jI111_fr ((jnp 79 eσ52 (by decide)).trans (f16 79 (by decide))) hI111
                  have p72 : jKept σ52 := jKept.fr (jnp 75 eσ52 (by decide)) (jnp 76 eσ52 (by decide)) (jnp 77 eσ52 (by decide)) p18
                  refine jcallVv (As := [.int 1, .int x54, .int x58]) (rest := []) ⟨hx, hb, hml, hown, hts⟩ hK hP hA hS hZ (c_X12_orders_1 l D cI cL ad zz hJ σ52 τ x54 (x54.toInt) rfl x58 (x58.toInt) rfl I59 I60 I61 I67 I68 I69 I70 I71 p72 (by omega) (by omega) (by omega)) cw_RX12_355 (jc_55 cI cL ad σ52 τ) rfl ⟨Nat.le_of_ble_eq_true rfl, Nat.le_of_ble_eq_true rfl⟩ rfl rfl rfl hl.1 rfl (Nat.le_of_ble_eq_true rfl) dX12_orders_118 ⟨Nat.zero_le _, Nat.zero_le _⟩ (fun σ73 τ73 H locs h73 hP hS => ?_)
                  obtain ⟨rfl, f75, f76, I77, I78, p79, h73⟩ := h73
                  obtain ⟨i80, i81, i82, w83, w84⟩ : (1 ≤ (σ73 55 10).toInt ∧ (σ73 55 10).toInt ≤ 8) ∧ (1 ≤ (σ73 55 12).toInt ∧ (σ73 55 12).toInt ≤ 12) ∧ (0 ≤ (σ73 55 13).toInt ∧ (σ73 55 13).toInt ≤ 999) ∧ (∀ k : Nat, k < 8 → 0 ≤ (σ73 62 k).toInt ∧ (σ73 62 k).toInt ≤ 3) ∧ (∀ k : Nat, k < 8 → 0 ≤ (σ73 67 k).toInt ∧ (σ73 67 k).toInt ≤ 3) := id I77
                  have z85 : (σ73 55 10).toInt = (σ 55 10).toInt := (congrArg Int32.toInt (show σ73 55 10 = (σ 55 10) from ((f76 10 (by decide)).trans ((congrFun (jnp 55 eσ52 (by decide)) 10).trans m38))))
                  have z86 : (σ73 55 12).toInt = (σ 55 12).toInt := (congrArg Int32.toInt (show σ73 55 12 = (σ 55 12) from ((f76 12 (by decide)).trans ((congrFun (jnp 55 eσ52 (by decide)) 12).trans (f17 12 (by decide))))))
                  have z87 : (σ73 55 13).toInt = (σ 55 13).toInt := (congrArg Int32.toInt (show σ73 55 13 = (σ 55 13) from ((f76 13 (by decide)).trans ((congrFun (jnp 55 eσ52 (by decide)) 13).trans (f17 13 (by decide))))))
                  obtain ⟨x88, ex88⟩ : ∃ y : Int32, y = x10 + 1 := ⟨_, rfl⟩
                  have tx88 : x88.toInt = x10.toInt + 1 := (jadd ex88 rfl jz_1 (by omega) (by omega)).trans (by omega)
                  refine lv_iinc (v := x88) (lv' := [(4, .int x88), (5, .int x32), (0, .ref (ad 55)), (1, .int 0), (2, .int a2), (3, .int a3)]) hx hb dX12_orders_121 hl (k := 1) rfl (by rw [ex88]; rfl) (by decide) rfl (fun ls hl => ?_)
                  refine lv_goto (tgt := 38) hx hb dX12_orders_124 (by decide) ?_
                  exact ihlp8 x88 σ73 _ _ ls (by have h90 := tx88; omega) (by have h90 := tx88; omega) (by have h90 := tx88; omega) (fun i hi => ((f75 i hi).trans ((jnp i eσ52 (imp_275 i hi)).trans (f16 i hi)))) (fun i hi => ((f76 i hi).trans ((congrFun (jnp 55 eσ52 (by decide)) i).trans (f17 i hi))))  p79 I77 I78 hP hS (lv_sub hl [0, 2, 3, 4, 5] rfl)
                · have kc50 := jne c50 rfl rfl
                  obtain ⟨x89, ex89⟩ : ∃ y : Int32, y = x32 + 1 := ⟨_, rfl⟩
                  have tx89 : x89.toInt = x32.toInt + 1 := (jadd ex89 rfl jz_1 (by omega) (by omega)).trans (by omega)
                  refine lv_iinc (v := x89) (lv' := [(5, .int x89), (4, .int x10), (0, .ref (ad 55)), (1, .int 0), (2, .int a2), (3, .int a3)]) hx hb dX12_orders_78 hl (k := 0) rfl (by rw [ex89]; rfl) (by decide) rfl (fun ls hl => ?_)
                  refine lv_goto (tgt := 47) hx hb dX12_orders_81 (by decide) ?_
                  exact ihlp30 x89 _ _ ls (by have h90 := tx89; omega) (by have h90 := tx89; omega) (by have h90 := tx89; omega) (by have h90 := tx89; omega)    hP hS (lv_sub hl [0, 1, 2, 3, 4, 5] rfl)
        exact lp30 1000000 0 _ _ ls (by have h90 := jz_0; omega) (by have h90 := jz_0; omega) (by have h90 := jz_0; omega) (by have h90 := jz_0; omega)   hP hS hl
  exact lp8 1000000 0 σ _ _ ls (by have h90 := jz_0; omega) (by have h90 := jz_0; omega) (by have h90 := jz_0; omega) (fun _ _ => rfl) (fun _ _ => rfl)  hs_jKept hI104 hI119 hP hS hl
set_option maxHeartbeats 4000000 in
set_option maxRecDepth 100000 in
theorem c_X12_theirs (l : Launch) (D : va_G) (cI cL : ClassId) (ad zz : Nat → Nat) (hJ : jD ad) (σ : Nat → Nat → Int32) (τ : Nat → Nat → Int64) (a1 : Int32) (A1 : Int) (t1 : a1.toInt = A1) (hI101 : jI101 σ) (hI102 : jI102 σ) (hI103 : jI103 σ) (hI104 : jI104 σ) (hI105 : jI105 σ) (hI106 : jI106 σ) (hI119 : jI119 σ) (hI111 : jI111 σ) (hs_jKept : jKept σ) : jM l yX12_theirs cX12_theirs 3 (some .int) ({ frames := 110, cells := 0, slots := 0, locals := 5231 }) D cI cL ad zz [.ref (ad 55), .int a1] σ τ (fun r σ' τ' => τ = τ' ∧ (∀ i : Nat, (i < 55 ∨ 55 < i) ∧ (i < 62 ∨ 62 < i) ∧ (i < 66 ∨ 66 < i) ∧ (i < 68 ∨ 69 < i) ∧ (i < 74 ∨ 79 < i) → σ' i = σ i) ∧ (∀ k : Nat, (k < 18 ∨ 18 < k) ∧ (k < 19 ∨ 19 < k) ∧ (k < 20 ∨ 20 < k) ∧ (k < 21 ∨ 21 < k) ∧ (k < 22 ∨ 22 < k) ∧ (k < 25 ∨ 25 < k) ∧ (k < 26 ∨ 26 < k) ∧ (k < 27 ∨ 27 < k) ∧ (k < 37 ∨ 37 < k) ∧ (k < 42 ∨ 42 < k) ∧ (k < 45 ∨ 45 < k) ∧ (k < 46 ∨ 46 < k) → σ' 55 k = σ 55 k) ∧ (jI104 σ') ∧ (jI111 σ') ∧ (jI119 σ') ∧ (jKept σ') ∧ True) := by
  refine jM.of hJ (by decide +kernel) (nt := .int) rfl (Nat.le_of_ble_eq_true rfl) ?_
  intro p e s m args below meth c Q ls hC hret hl hP
  obtain ⟨hx, hb, hr, hml, hown, hts, hK, -, hlocks, hZ⟩ := hC
  have hown : s.vm.findClass RX12 = some m.cls := hown
  have hS : va_S (jA ad) s.heap s.heap [] := va_S.rf
  have hA : ∀ q, jA ad q → jA ad q := fun _ h => h
  have hl : lv_has ls 3 [(0, .ref (ad 55)), (1, .int a1)] := hl
  have g1 := jrg t1
  obtain ⟨i1, i2, i3, w4, w5⟩ : (1 ≤ (σ 55 10).toInt ∧ (σ 55 10).toInt ≤ 8) ∧ (1 ≤ (σ 55 12).toInt ∧ (σ 55 12).toInt ≤ 12) ∧ (0 ≤ (σ 55 13).toInt ∧ (σ 55 13).toInt ≤ 999) ∧ (∀ k : Nat, k < 8 → 0 ≤ (σ 62 k).toInt ∧ (σ 62 k).toInt ≤ 3) ∧ (∀ k : Nat, k < 8 → 0 ≤ (σ 67 k).toInt ∧ (σ 67 k).toInt ≤ 3) := id hI104
  have w6 : ∀ k : Nat, k < 5 → 0 ≤ (σ 79 k).toInt ∧ (σ 79 k).toInt ≤ 3 := hI111
  refine lv_iload_n hx hb dX12_theirs_0 rfl (lv_at hl 1 rfl) ?_
  refine lv_i2l (v := a1.toInt64) hx hb dX12_theirs_1 rfl ?_
  refine lv_lconst (v := 0) hx hb dX12_theirs_2 (by decide) ?_
  refine lv_lconst (v := 1) hx hb dX12_theirs_3 (by decide) ?_
  refine jcallS (As := [.long a1.toInt64, .long 0, .long 1]) (rest := []) ⟨hx, hb, hml, hown, hts⟩ hK hP hA hS hZ (c_X12_within l D cI cL ad zz hJ σ τ a1.toInt64 (A1) (jtoL t1) 0 (0) jzl_0 1 (1) jzl_1) cw_RX12_136 ⟨Nat.le_of_ble_eq_true rfl, Nat.le_of_ble_eq_true rfl⟩ rfl rfl rfl hl.1 rfl (Nat.le_of_ble_eq_true rfl) dX12_theirs_4 ⟨Nat.zero_le _, Nat.zero_le _⟩ (fun r8 σ7 τ7 H locs h7 hP hS => ?_)
  obtain ⟨⟨rfl, rfl⟩, h7⟩ := h7
  rcases h7 with h9 | h10
  · obtain ⟨q12, k11⟩ := h9
    have q12 := q12.symm
    subst q12
    refine lv_if_ne (tgt := 12) hx hb dX12_theirs_7 (by decide) (fun _ => ?_) (fun c => absurd c (by decide))
    refine lv_aload_n hx hb dX12_theirs_12 rfl (lv_at hl 0 rfl) ?_
    refine va_get (D := D) hx hb hts inlX12 hown hK hP 55 (jc_55 cI cL ad σ τ) rfl 10 (by decide) (hts _ kw_8_15) (fun _ h9 => h9) rfl dX12_theirs_13 ?_
    refine lv_iconst (v := 5) hx hb dX12_theirs_16 (by decide) ?_
    refine lv_icmp_gt (tgt := 29) hx hb dX12_theirs_17 (by decide) (fun c13 => ?_) (fun c13 => ?_)
    · have kc13 := jlt c13 jz_5 rfl
      refine lv_bipush (v := (-4)) hx hb dX12_theirs_29 (by decide) ?_
      exact hret (-4) σ τ _ _ _ _ rfl ⟨rfl, (fun _ _ => rfl), (fun _ _ => rfl), hI104, hI111, hI119, hs_jKept, trivial⟩ hP hS dX12_theirs_31
    · have kc13 := jnlt c13 jz_5 rfl
      refine lv_aload_n hx hb dX12_theirs_20 rfl (lv_at hl 0 rfl) ?_
      refine va_get (D := D) hx hb hts inlX12 hown hK hP 55 (jc_55 cI cL ad σ τ) rfl 12 (by decide) (hts _ kw_8_16) (fun _ h9 => h9) rfl dX12_theirs_21 ?_
      refine lv_bipush (v := 8) hx hb dX12_theirs_24 (by decide) ?_
      refine lv_icmp_le (tgt := 32) hx hb dX12_theirs_26 (by decide) (fun c14 => ?_) (fun c14 => ?_)
      · have kc14 := jle c14 rfl jz_8
        refine lv_iconst (v := 0) hx hb dX12_theirs_32 (by decide) ?_
        refine lv_istore_n (lv' := [(2, .int 0), (0, .ref (ad 55)), (1, .int a1)]) hx hb dX12_theirs_33 rfl hl (by decide) rfl (fun ls hl => ?_)
        have lp15 : ∀ (n16 : Nat) (x17 : Int32) (σ18 : Nat → Nat → Int32) (H : Heap) (locs : List Loc) (ls : Array Slot), ((σ18 55 10).toInt - x17.toInt : Int) < n16 → 0 ≤ x17.toInt → x17.toInt ≤ 5 → x17.toInt ≤ (σ18 55 10).toInt → (∀ i : Nat, (i < 79 ∨ 79 < i) → σ18 i = σ i) → jI111 σ18 → jH D cI cL ad σ18 τ H → va_S (jA ad) s.heap H locs → lv_has ls 3 [(2, .int x17), (0, .ref (ad 55)), (1, .int a1)] → W p l e ({ frames := 110, cells := 0, slots := 0, locals := 5231 }) s m args below meth c H locs 0 0 Q (F0 m 34 ls []) := by
          intro n16
          induction n16 with
          | zero => intro x17 σ18 H locs ls h19 h20 h21 h22; exact absurd h19 (by omega)
          | succ n16 ihlp15 =>
            intro x17 σ18 H locs ls h19 h20 h21 h22 f23 p24 hP hS hl
            have w25 : ∀ k : Nat, k < 5 → 0 ≤ (σ18 79 k).toInt ∧ (σ18 79 k).toInt ≤ 3 := p24
            have z26 : (σ18 55 10).toInt = (σ 55 10).toInt := (congrArg Int32.toInt (show σ18 55 10 = (σ 55 10) from (congrFun (f23 55 (by decide)) 10)))
            refine lv_iload_n hx hb dX12_theirs_34 rfl (lv_at hl 0 rfl) ?_
            refine lv_aload_n hx hb dX12_theirs_35 rfl (lv_at hl 1 rfl) ?_
            refine va_get (D := D) hx hb hts inlX12 hown hK hP 55 (jc_55 cI cL ad σ18 τ) rfl 10 (by decide) (hts _ kw_8_15) (fun _ h9 => h9) rfl dX12_theirs_36 ?_
            have m27 : σ18 55 10 = (σ 55 10) := (congrFun (f23 55 (by decide)) 10)
            refine jtopr m27 ?_
            refine lv_icmp_ge (tgt := 60) hx hb dX12_theirs_39 (by decide) (fun c28 => ?_) (fun c28 => ?_)
            · have kc28 := jle c28 rfl rfl
              refine lv_aload_n hx hb dX12_theirs_60 rfl (lv_at hl 1 rfl) ?_
              refine lv_iconst (v := (-1)) hx hb dX12_theirs_61 (by decide) ?_
              refine jput (ty := .int) hx hb hts inlX12 tyX12 tyX12_ok nmX12 hown hK hP hJ hA hS (jc_55 cI cL ad σ18 τ) rfl (k := 46) (by decide) (Nat.le_of_ble_eq_true rfl) (jp_55_46 cI cL ad σ18 τ (-1)) (hts _ kw_40_17) (fun _ h9 => h9) rfl (by decide +kernel) rfl rfl dX12_theirs_62 (fun σ29 H locs eσ29 hP hS => ?_)
              refine lv_aload_n hx hb dX12_theirs_65 rfl (lv_at hl 1 rfl) ?_
              refine lv_iconst (v := 0) hx hb dX12_theirs_66 (by decide) ?_
              refine lv_iconst (v := 0) hx hb dX12_theirs_67 (by decide) ?_
              refine lv_iconst (v := 0) hx hb dX12_theirs_68 (by decide) ?_
              have I30 : jI101 σ29 := jI101_fr ((jkp 4 eσ29 (by decide)).trans (congrFun (f23 55 (by decide)) 4)) ((jkp 5 eσ29 (by decide)).trans (congrFun (f23 55 (by decide)) 5)) ((jnp 56 eσ29 (by decide)).trans (f23 56 (by decide))) ((jnp 57 eσ29 (by decide)).trans (f23 57 (by decide))) ((jnp 58 eσ29 (by decide)).trans (f23 58 (by decide))) ((jnp 59 eσ29 (by decide)).trans (f23 59 (by decide))) hI101
              have I31 : jI102 σ29 := jI102_fr ((jkp 6 eσ29 (by decide)).trans (congrFun (f23 55 (by decide)) 6)) ((jnp 60 eσ29 (by decide)).trans (f23 60 (by decide))) ((jnp 61 eσ29 (by decide)).trans (f23 61 (by decide))) hI102
              have I32 : jI103 σ29 := jI103_fr ((jkp 9 eσ29 (by decide)).trans (congrFun (f23 55 (by decide)) 9)) hI103
              have I33 : jI104 σ29 := jI104_fr ((jkp 10 eσ29 (by decide)).trans (congrFun (f23 55 (by decide)) 10)) ((jkp 12 eσ29 (by decide)).trans (congrFun (f23 55 (by decide)) 12)) ((jkp 13 eσ29 (by decide)).trans (congrFun (f23 55 (by decide)) 13)) ((jnp 62 eσ29 (by decide)).trans (f23 62 (by decide))) ((jnp 67 eσ29 (by decide)).trans (f23 67 (by decide))) hI104
              have I34 : jI105 σ29 := jI105_fr ((jkp 15 eσ29 (by decide)).trans (congrFun (f23 55 (by decide)) 15)) ((jnp 65 eσ29 (by decide)).trans (f23 65 (by decide))) hI105
              have I35 : jI106 σ29 := jI106_fr ((jkp 32 eσ29 (by decide)).trans (congrFun (f23 55 (by decide)) 32)) ((jnp 70 eσ29 (by decide)).trans (f23 70 (by decide))) ((jnp 71 eσ29 (by decide)).trans (f23 71 (by decide))) ((jnp 72 eσ29 (by decide)).trans (f23 72 (by decide))) hI106
              have I36 : jI119 σ29 := jI119_fr ((jnp 68 eσ29 (by decide)).trans (f23 68 (by decide))) hI119
              have I37 : jI111 σ29 := jI111_fr (jnp 79 eσ29 (by decide)) p24
              have p38 : jKept σ29 := jKept.fr ((jnp 75 eσ29 (by decide)).trans (f23 75 (by decide))) ((jnp 76 eσ29 (by decide)).trans (f23 76 (by decide))) ((jnp 77 eσ29 (by decide)).trans (f23 77 (by decide))) hs_jKept
              have z39 : (σ29 55 10).toInt = (σ 55 10).toInt := (congrArg Int32.toInt (show σ29 55 10 = (σ 55 10) from ((jkp 10 eσ29 (by decide)).trans m27)))
              have z40 : (σ29 55 12).toInt = (σ 55 12).toInt := (congrArg Int32.toInt (show σ29 55 12 = (σ 55 12) from ((jkp 12 eσ29 (by decide)).trans (congrFun (f23 55 (by decide)) 12))))
              refine jcallVv (As := [.int 0, .int 0, .int 0]) (rest := []) ⟨hx, hb, hml, hown, hts⟩ hK hP hA hS hZ (c_X12_orders_0 l D cI cL ad zz hJ σ29 τ 0 (0) jz_0 0 (0) jz_0 I30 I31 I32 I33 I34 I35 I36 I37 p38 (by omega) (by omega) (by omega)) cw_RX12_355 (jc_55 cI cL ad σ29 τ) rfl ⟨Nat.le_of_ble_eq_true rfl, Nat.le_of_ble_eq_true rfl⟩ rfl rfl rfl hl.1 rfl (Nat.le_of_ble_eq_true rfl) dX12_theirs_69 ⟨Nat.zero_le _, Nat.zero_le _⟩ (fun σ41 τ41 H locs h41 hP hS => ?_)
              obtain ⟨rfl, f43, f44, I45, I46, p47, h41⟩ := h41
              obtain ⟨i48, i49, i50, w51, w52⟩ : (1 ≤ (σ41 55 10).toInt ∧ (σ41 55 10).toInt ≤ 8) ∧ (1 ≤ (σ41 55 12).toInt ∧ (σ41 55 12).toInt ≤ 12) ∧ (0 ≤ (σ41 55 13).toInt ∧ (σ41 55 13).toInt ≤ 999) ∧ (∀ k : Nat, k < 8 → 0 ≤ (σ41 62 k).toInt ∧ (σ41 62 k).toInt ≤ 3) ∧ (∀ k : Nat, k < 8 → 0 ≤ (σ41 67 k).toInt ∧ (σ41 67 k).toInt ≤ 3) := id I45
              have z53 : (σ41 55 10).toInt = (σ 55 10).toInt := (congrArg Int32.toInt (show σ41 55 10 = (σ 55 10) from ((f44 10 (by decide)).trans ((jkp 10 eσ29 (by decide)).trans m27))))
              have z54 : (σ41 55 12).toInt = (σ 55 12).toInt := (congrArg Int32.toInt (show σ41 55 12 = (σ 55 12) from ((f44 12 (by decide)).trans ((jkp 12 eσ29 (by decide)).trans (congrFun (f23 55 (by decide)) 12)))))
              have z55 : (σ41 55 13).toInt = (σ 55 13).toInt := (congrArg Int32.toInt (show σ41 55 13 = (σ 55 13) from ((f44 13 (by decide)).trans ((jkp 13 eσ29 (by decide)).trans (congrFun (f23 55 (by decide)) 13)))))
              refine lv_iconst (v := 0) hx hb dX12_theirs_72 (by decide) ?_
              refine lv_istore_n (lv' := [(2, .int 0), (0, .ref (ad 55)), (1, .int a1)]) hx hb dX12_theirs_73 rfl hl (by decide) rfl (fun ls hl => ?_)
              have lp56 : ∀ (n57 : Nat) (x58 : Int32) (σ59 : Nat → Nat → Int32) (H : Heap) (locs : List Loc) (ls : Array Slot), ((σ59 55 10).toInt - x58.toInt : Int) < n57 → 0 ≤ x58.toInt → x58.toInt ≤ 5 → x58.toInt ≤ (σ59 55 10).toInt → (∀ i : Nat, (i < 62 ∨ 62 < i) → σ59 i = σ41 i) → jI104 σ59 → jH D cI cL ad σ59 τ H → va_S (jA ad) s.heap H locs → lv_has ls 3 [(2, .int x58), (0, .ref (ad 55)), (1, .int a1)] → W p l e ({ frames := 110, cells := 0, slots := 0, locals := 5231 }) s m args below meth c H locs 0 0 Q (F0 m 74 ls []) := by
                intro n57
                induction n57 with
                | zero => intro x58 σ59 H locs ls h60 h61 h62 h63; exact absurd h60 (by omega)
                | succ n57 ihlp56 =>
                  intro x58 σ59 H locs ls h60 h61 h62 h63 f64 p65 hP hS hl
                  obtain ⟨i66, i67, i68, w69, w70⟩ : (1 ≤ (σ59 55 10).toInt ∧ (σ59 55 10).toInt ≤ 8) ∧ (1 ≤ (σ59 55 12).toInt ∧ (σ59 55 12).toInt ≤ 12) ∧ (0 ≤ (σ59 55 13).toInt ∧ (σ59 55 13).toInt ≤ 999) ∧ (∀ k : Nat, k < 8 → 0 ≤ (σ59 62 k).toInt ∧ (σ59 62 k).toInt ≤ 3) ∧ (∀ k : Nat, k < 8 → 0 ≤ (σ59 67 k).toInt ∧ (σ59 67 k).toInt ≤ 3) := id p65
                  have z71 : (σ59 55 10).toInt = (σ 55 10).toInt := (congrArg Int32.toInt (show σ59 55 10 = (σ 55 10) from ((congrFun (f64 55 (by decide)) 10).trans ((f44 10 (by decide)).trans ((jkp 10 eσ29 (by decide)).trans m27)))))
                  have z72 : (σ59 55 12).toInt = (σ 55 12).toInt := (congrArg Int32.toInt (show σ59 55 12 = (σ 55 12) from ((congrFun (f64 55 (by decide)) 12).trans ((f44 12 (by decide)).trans ((jkp 12 eσ29 (by decide)).trans (congrFun (f23 55 (by decide)) 12))))))
                  have z73 : (σ59 55 13).toInt = (σ 55 13).toInt := (congrArg Int32.toInt (show σ59 55 13 = (σ 55 13) from ((congrFun (f64 55 (by decide)) 13).trans ((f44 13 (by decide)).trans ((jkp 13 eσ29 (by decide)).trans (congrFun (f23 55 (by decide)) 13))))))
                  refine lv_iload_n hx hb dX12_theirs_74 rfl (lv_at hl 0 rfl) ?_
                  refine lv_aload_n hx hb dX12_theirs_75 rfl (lv_at hl 1 rfl) ?_
                  refine va_get (D := D) hx hb hts inlX12 hown hK hP 55 (jc_55 cI cL ad σ59 τ) rfl 10 (by decide) (hts _ kw_8_15) (fun _ h9 => h9) rfl dX12_theirs_76 ?_
                  have m74 : σ59 55 10 = (σ 55 10) := ((congrFun (f64 55 (by decide)) 10).trans ((f44 10 (by decide)).trans ((jkp 10 eσ29 (by decide)).trans m27)))
                  refine jtopr m74 ?_
                  refine lv_icmp_ge (tgt := 100) hx hb dX12_theirs_79 (by decide) (fun c75 => ?_) (fun c75 => ?_)
                  · have kc75 := jle c75 rfl rfl
                    refine lv_iload_n hx hb dX12_theirs_100 rfl (lv_at hl 2 rfl) ?_
                    refine lv_if_ne (tgt := 111) hx hb dX12_theirs_101 (by decide) (fun c76 => ?_) (fun c76 => ?_)
                    · have kc76 := jne c76 t1 jz_0
                      refine lv_aload_n hx hb dX12_theirs_111 rfl (lv_at hl 1 rfl) ?_
                      refine va_get (D := D) hx hb hts inlX12 hown hK hP 55 (jc_55 cI cL ad σ59 τ) rfl 46 (by decide) (hts _ kw_40_17) (fun _ h9 => h9) rfl dX12_theirs_112 ?_
                      have m77 : σ59 55 46 = (σ41 55 46) := (congrFun (f64 55 (by decide)) 46)
                      refine jtopr m77 ?_
                      have I78 : jI111 σ59 := jI111_fr ((f64 79 (by decide)).trans (f43 79 (by decide))) I37
                      have I79 : jI119 σ59 := jI119_fr (f64 68 (by decide)) I46
                      have p80 : jKept σ59 := jKept.fr (f64 75 (by decide)) (f64 76 (by decide)) (f64 77 (by decide)) p47
                      exact hret (σ41 55 46) σ59 τ _ _ _ _ rfl ⟨rfl, (fun i hi => ((f64 i (imp_276 i hi)).trans ((f43 i (imp_277 i hi)).trans ((jnp i eσ29 (imp_278 i hi)).trans (f23 i (imp_279 i hi)))))), (fun i hi => ((congrFun (f64 55 (by decide)) i).trans ((f44 i hi).trans ((jkp i eσ29 (imp_274 i hi)).trans (congrFun (f23 55 (by decide)) i))))), p65, I78, I79, p80, trivial⟩ hP hS dX12_theirs_115
                    · have kc76 := jeq c76 t1 jz_0
                      refine lv_aload_n hx hb dX12_theirs_104 rfl (lv_at hl 1 rfl) ?_
                      refine va_get (D := D) hx hb hts inlX12 hown hK hP 55 (jc_55 cI cL ad σ59 τ) rfl 45 (by decide) (hts _ kw_40_18) (fun _ h9 => h9) rfl dX12_theirs_105 ?_
                      have m81 : σ59 55 45 = (σ41 55 45) := (congrFun (f64 55 (by decide)) 45)
                      refine jtopr m81 ?_
                      refine lv_goto (tgt := 115) hx hb dX12_theirs_108 (by decide) ?_
                      have I82 : jI111 σ59 := jI111_fr ((f64 79 (by decide)).trans (f43 79 (by decide))) I37
                      have I83 : jI119 σ59 := jI119_fr (f64 68 (by decide)) I46
                      have p84 : jKept σ59 := jKept.fr (f64 75 (by decide)) (f64 76 (by decide)) (f64 77 (by decide)) p47
                      exact hret (σ41 55 45) σ59 τ _ _ _ _ rfl ⟨rfl, (fun i hi => ((f64 i (imp_276 i hi)).trans ((f43 i (imp_277 i hi)).trans ((jnp i eσ29 (imp_278 i hi)).trans (f23 i (imp_279 i hi)))))), (fun i hi => ((congrFun (f64 55 (by decide)) i).trans ((f44 i hi).trans ((jkp i eσ29 (imp_274 i hi)).trans (congrFun (f23 55 (by decide)) i))))), p65, I82, I83, p84, trivial⟩ hP hS dX12_theirs_115
                  · have kc75 := jnle c75 rfl rfl
                    refine lv_aload_n hx hb dX12_theirs_82 rfl (lv_at hl 1 rfl) ?_
                    refine va_get (D := D) hx hb hts inlX12 hown hK hP 55 (jc_55 cI cL ad σ59 τ) rfl 11 (by decide) (hts _ kw_7_8) (fun _ h9 => h9) rfl dX12_theirs_83 ?_
                    refine lv_iload_n hx hb dX12_theirs_86 rfl (lv_at hl 0 rfl) ?_
                    refine lv_aload_n hx hb dX12_theirs_87 rfl (lv_at hl 1 rfl) ?_
                    refine va_get (D := D) hx hb hts inlX12 hown hK hP 55 (jc_55 cI cL ad σ59 τ) rfl 44 (by decide) (hts _ kw_8_4) (fun _ h9 => h9) rfl dX12_theirs_88 ?_
                    refine lv_iload_n hx hb dX12_theirs_91 rfl (lv_at hl 0 rfl) ?_
                    refine jald hx hb hK hP (jc_79 cI cL ad σ59 τ) (jin rfl (by omega) (by omega)) dX12_theirs_92 ?_
                    have w85 : ∀ k : Nat, k < 5 → 0 ≤ (σ59 79 k).toInt ∧ (σ59 79 k).toInt ≤ 3 := (jrr_fr (f64 79 (by decide)) (jrr_fr (f43 79 (by decide)) (jrr_fr (jnp 79 eσ29 (by decide)) w25)))
                    have g86 := w85 _ (jnat (x := x58) rfl (n := 5) (by omega) (by decide))
                    refine lv_topi (fun x87 ex87 => ?_)
                    rw [← ex87] at g86
                    refine jast hx hb hK hP hJ hA hS (jc_62 cI cL ad σ59 τ) (ja_62 cI cL ad σ59 τ _ _) (jin rfl (by omega) (by omega)) dX12_theirs_93 (fun σ88 H locs eσ88 hP hS => ?_)
                    obtain ⟨x89, ex89⟩ : ∃ y : Int32, y = x58 + 1 := ⟨_, rfl⟩
                    have tx89 : x89.toInt = x58.toInt + 1 := (jadd ex89 rfl jz_1 (by omega) (by omega)).trans (by omega)
                    refine lv_iinc (v := x89) (lv' := [(2, .int x89), (0, .ref (ad 55)), (1, .int a1)]) hx hb dX12_theirs_94 hl (k := 0) rfl (by rw [ex89]; rfl) (by decide) rfl (fun ls hl => ?_)
                    refine lv_goto (tgt := 74) hx hb dX12_theirs_97 (by decide) ?_
                    have z90 : (σ88 55 10).toInt = (σ 55 10).toInt := (congrArg Int32.toInt (show σ88 55 10 = (σ 55 10) from ((congrFun (jnp 55 eσ88 (by decide)) 10).trans m74)))
                    have z91 : (σ88 55 12).toInt = (σ 55 12).toInt := (congrArg Int32.toInt (show σ88 55 12 = (σ 55 12) from ((congrFun (jnp 55 eσ88 (by decide)) 12).trans ((congrFun (f64 55 (by decide)) 12).trans ((f44 12 (by decide)).trans ((jkp 12 eσ29 (by decide)).trans (congrFun (f23 55 (by decide)) 12)))))))
                    have z92 : (σ88 55 13).toInt = (σ 55 13).toInt := (congrArg Int32.toInt (show σ88 55 13 = (σ 55 13) from ((congrFun (jnp 55 eσ88 (by decide)) 13).trans ((congrFun (f64 55 (by decide)) 13).trans ((f44 13 (by decide)).trans ((jkp 13 eσ29 (by decide)).trans (congrFun (f23 55 (by decide)) 13)))))))
                    have w93 : ∀ k : Nat, k < 8 → 0 ≤ (σ88 62 k).toInt ∧ (σ88 62 k).toInt ≤ 3 := (by rw [eσ88]; exact jrr_up w69 (by omega) (by omega))
                    have w94 : ∀ k : Nat, k < 8 → 0 ≤ (σ88 67 k).toInt ∧ (σ88 67 k).toInt ≤ 3 := (jrr_fr (jnp 67 eσ88 (by decide)) w70)
                    have I95 : jI104 σ88 := ⟨(by omega), (by omega), (by omega), w93, w94⟩
                    exact ihlp56 x89 σ88 _ _ ls (by have h90 := tx89; omega) (by have h90 := tx89; omega) (by have h90 := tx89; omega) (by have h90 := tx89; omega) (fun i hi => ((jnp i eσ88 (imp_237 i hi)).trans (f64 i hi)))   I95 hP hS (lv_sub hl [0, 1, 2] rfl)
              exact lp56 1000000 0 σ41 _ _ ls (by have h90 := jz_0; omega) (by have h90 := jz_0; omega) (by have h90 := jz_0; omega) (by have h90 := jz_0; omega) (fun _ _ => rfl)  I45 hP hS hl
            · have kc28 := jnle c28 rfl rfl
              refine lv_aload_n hx hb dX12_theirs_42 rfl (lv_at hl 1 rfl) ?_
              refine va_get (D := D) hx hb hts inlX12 hown hK hP 55 (jc_55 cI cL ad σ18 τ) rfl 44 (by decide) (hts _ kw_8_4) (fun _ h9 => h9) rfl dX12_theirs_43 ?_
              refine lv_iload_n hx hb dX12_theirs_46 rfl (lv_at hl 0 rfl) ?_
              refine lv_aload_n hx hb dX12_theirs_47 rfl (lv_at hl 1 rfl) ?_
              refine va_get (D := D) hx hb hts inlX12 hown hK hP 55 (jc_55 cI cL ad σ18 τ) rfl 11 (by decide) (hts _ kw_7_8) (fun _ h9 => h9) rfl dX12_theirs_48 ?_
              refine lv_iload_n hx hb dX12_theirs_51 rfl (lv_at hl 0 rfl) ?_
              refine jald hx hb hK hP (jc_62 cI cL ad σ18 τ) (jin rfl (by omega) (by omega)) dX12_theirs_52 ?_
              have w96 : ∀ k : Nat, k < 8 → 0 ≤ (σ18 62 k).toInt ∧ (σ18 62 k).toInt ≤ 3 := (jrr_fr (f23 62 (by decide)) w4)
              have g97 := w96 _ (jnat (x := x17) rfl (n := 8) (by omega) (by decide))
              refine lv_topi (fun x98 ex98 => ?_)
              rw [← ex98] at g97
              refine jast hx hb hK hP hJ hA hS (jc_79 cI cL ad σ18 τ) (ja_79 cI cL ad σ18 τ _ _) (jin rfl (by omega) (by omega)) dX12_theirs_53 (fun σ99 H locs eσ99 hP hS => ?_)
              obtain ⟨x100, ex100⟩ : ∃ y : Int32, y = x17 + 1 := ⟨_, rfl⟩
              have tx100 : x100.toInt = x17.toInt + 1 := (jadd ex100 rfl jz_1 (by omega) (by omega)).trans (by omega)
              refine lv_iinc (v := x100) (lv' := [(2, .int x100), (0, .ref (ad 55)), (1, .int a1)]) hx hb dX12_theirs_54 hl (k := 0) rfl (by rw [ex100]; rfl) (by decide) rfl (fun ls hl => ?_)
              refine lv_goto (tgt := 34) hx hb dX12_theirs_57 (by decide) ?_
              have z101 : (σ99 55 10).toInt = (σ 55 10).toInt := (congrArg Int32.toInt (show σ99 55 10 = (σ 55 10) from ((congrFun (jnp 55 eσ99 (by decide)) 10).trans m27)))
              have w102 : ∀ k : Nat, k < 5 → 0 ≤ (σ99 79 k).toInt ∧ (σ99 79 k).toInt ≤ 3 := (by rw [eσ99]; exact jrr_up w25 (by omega) (by omega))
              have I103 : jI111 σ99 := w102
              exact ihlp15 x100 σ99 _ _ ls (by have h90 := tx100; omega) (by have h90 := tx100; omega) (by have h90 := tx100; omega) (by have h90 := tx100; omega) (fun i hi => ((jnp i eσ99 (imp_280 i hi)).trans (f23 i hi)))   I103 hP hS (lv_sub hl [0, 1, 2] rfl)
        exact lp15 1000000 0 σ _ _ ls (by have h90 := jz_0; omega) (by have h90 := jz_0; omega) (by have h90 := jz_0; omega) (by have h90 := jz_0; omega) (fun _ _ => rfl)  hI111 hP hS hl
      · have kc14 := jnle c14 rfl jz_8
        refine lv_bipush (v := (-4)) hx hb dX12_theirs_29 (by decide) ?_
        exact hret (-4) σ τ _ _ _ _ rfl ⟨rfl, (fun _ _ => rfl), (fun _ _ => rfl), hI104, hI111, hI119, hs_jKept, trivial⟩ hP hS dX12_theirs_31
  · obtain ⟨q105, k104⟩ := h10
    have q105 := q105.symm
    subst q105
    refine lv_if_ne (tgt := 12) hx hb dX12_theirs_7 (by decide) (fun c => absurd (by decide) c) (fun _ => ?_)
    refine lv_iconst (v := (-1)) hx hb dX12_theirs_10 (by decide) ?_
    exact hret (-1) σ τ _ _ _ _ rfl ⟨rfl, (fun _ _ => rfl), (fun _ _ => rfl), hI104, hI111, hI119, hs_jKept, trivial⟩ hP hS dX12_theirs_11
set_option maxHeartbeats 4000000 in
set_option maxRecDepth 100000 in
theorem c_X12_isShelf (l : Launch) (D : va_G) (cI cL : ClassId) (ad zz : Nat → Nat) (hJ : jD ad) (σ : Nat → Nat → Int32) (τ : Nat → Nat → Int64) (a1 : Int32) (A1 : Int) (t1 : a1.toInt = A1) : jM l yX12_isShelf cX12_isShelf 1 (some .boolean) ({ frames := 1, cells := 0, slots := 0, locals := 25 }) D cI cL ad zz [.int a1] σ τ (fun r σ' τ' => (σ = σ' ∧ τ = τ') ∧ ((r = 1 ∧ (0 ≤ A1 ∧ A1 ≤ 5)) ∨ (r = 0 ∧ ((A1 < 0) ∨ (5 < A1))))) := by
  refine jM.of hJ (by decide +kernel) (nt := .boolean) rfl (Nat.le_of_ble_eq_true rfl) ?_
  intro p e s m args below meth c Q ls hC hret hl hP
  obtain ⟨hx, hb, hr, hml, hown, hts, hK, -, hlocks, hZ⟩ := hC
  have hown : s.vm.findClass RX12 = some m.cls := hown
  have hS : va_S (jA ad) s.heap s.heap [] := va_S.rf
  have hA : ∀ q, jA ad q → jA ad q := fun _ h => h
  have hl : lv_has ls 1 [(0, .int a1)] := hl
  have g1 := jrg t1
  refine lv_iload_n hx hb dX12_isShelf_0 rfl (lv_at hl 0 rfl) ?_
  refine lv_i2l (v := a1.toInt64) hx hb dX12_isShelf_1 rfl ?_
  refine lv_lconst (v := 0) hx hb dX12_isShelf_2 (by decide) ?_
  refine lv_ldc2 (v := 5) hx hb hown (hts _ kw_43_20) dX12_isShelf_3 ?_
  refine jcallS (As := [.long a1.toInt64, .long 0, .long 5]) (rest := []) ⟨hx, hb, hml, hown, hts⟩ hK hP hA hS hZ (c_X12_within l D cI cL ad zz hJ σ τ a1.toInt64 (A1) (jtoL t1) 0 (0) jzl_0 5 (5) jzl_5) cw_RX12_136 ⟨Nat.le_of_ble_eq_true rfl, Nat.le_of_ble_eq_true rfl⟩ rfl rfl rfl hl.1 rfl (Nat.le_of_ble_eq_true rfl) dX12_isShelf_6 ⟨Nat.zero_le _, Nat.zero_le _⟩ (fun r2 σ1 τ1 H locs h1 hP hS => ?_)
  obtain ⟨⟨rfl, rfl⟩, h1⟩ := h1
  rcases h1 with h3 | h4
  · obtain ⟨q6, k5⟩ := h3
    have q6 := q6.symm
    subst q6
    exact hret 1 σ τ _ _ _ _ rfl ⟨⟨rfl, rfl⟩, Or.inl ⟨rfl, (by have h9 := jz_1; omega)⟩⟩ hP hS dX12_isShelf_9
  · obtain ⟨q8, k7⟩ := h4
    have q8 := q8.symm
    subst q8
    exact hret 0 σ τ _ _ _ _ rfl ⟨⟨rfl, rfl⟩, Or.inr (⟨rfl, (by have h9 := jz_0; omega)⟩)⟩ hP hS dX12_isShelf_9
set_option maxHeartbeats 4000000 in
set_option maxRecDepth 100000 in
theorem c_X12_books (l : Launch) (D : va_G) (cI cL : ClassId) (ad zz : Nat → Nat) (hJ : jD ad) (σ : Nat → Nat → Int32) (τ : Nat → Nat → Int64) (a1 : Int32) (A1 : Int) (t1 : a1.toInt = A1) (a2 : Int32) (A2 : Int) (t2 : a2.toInt = A2) (hI102 : jI102 σ) (hI104 : jI104 σ) (hI107 : jI107 σ) (hI110 : jI110 σ) (hI119 : jI119 σ) (hs_jBook : jBook σ) : jM l yX12_books cX12_books 6 (some .int) ({ frames := 4, cells := 0, slots := 0, locals := 85 }) D cI cL ad zz [.ref (ad 55), .int a1, .int a2] σ τ (fun r σ' τ' => τ = τ' ∧ (∀ i : Nat, (i < 55 ∨ 55 < i) ∧ (i < 68 ∨ 69 < i) ∧ (i < 80 ∨ 81 < i) → σ' i = σ i) ∧ (∀ k : Nat, (k < 25 ∨ 25 < k) ∧ (k < 26 ∨ 26 < k) ∧ (k < 27 ∨ 27 < k) ∧ (k < 47 ∨ 47 < k) → σ' 55 k = σ 55 k) ∧ (jI107 σ') ∧ (jI119 σ') ∧ (jBook σ') ∧ True) := by
  refine jM.of hJ (by decide +kernel) (nt := .int) rfl (Nat.le_of_ble_eq_true rfl) ?_
  intro p e s m args below meth c Q ls hC hret hl hP
  obtain ⟨hx, hb, hr, hml, hown, hts, hK, -, hlocks, hZ⟩ := hC
  have hown : s.vm.findClass RX12 = some m.cls := hown
  have hS : va_S (jA ad) s.heap s.heap [] := va_S.rf
  have hA : ∀ q, jA ad q → jA ad q := fun _ h => h
  have hl : lv_has ls 6 [(0, .ref (ad 55)), (1, .int a1), (2, .int a2)] := hl
  have g1 := jrg t1
  have g2 := jrg t2
  obtain ⟨i1, i2, w3⟩ : (0 ≤ (σ 55 47).toInt ∧ (σ 55 47).toInt ≤ 12) ∧ ((σ 55 47).toInt ≤ (σ 55 12).toInt) ∧ (∀ k : Nat, k < 12 → 0 ≤ (σ 80 k).toInt ∧ (σ 80 k).toInt ≤ 3) := id hI107
  obtain ⟨w4, w5⟩ : (∀ k : Nat, k < 6 → (-1) ≤ (σ 86 k).toInt ∧ (σ 86 k).toInt ≤ 24) ∧ (∀ k : Nat, k < 6 → 0 ≤ (σ 87 k).toInt ∧ (σ 87 k).toInt ≤ 60) := id hI110
  refine lv_iload_n hx hb dX12_books_0 rfl (lv_at hl 1 rfl) ?_
  refine jcallS (As := [.int a1]) (rest := []) ⟨hx, hb, hml, hown, hts⟩ hK hP hA hS hZ (c_X12_isShelf l D cI cL ad zz hJ σ τ a1 (A1) t1) cw_RX12_361 ⟨Nat.le_of_ble_eq_true rfl, Nat.le_of_ble_eq_true rfl⟩ rfl rfl rfl hl.1 rfl (Nat.le_of_ble_eq_true rfl) dX12_books_1 ⟨Nat.zero_le _, Nat.zero_le _⟩ (fun r7 σ6 τ6 H locs h6 hP hS => ?_)
  obtain ⟨⟨rfl, rfl⟩, h6⟩ := h6
  rcases h6 with h8 | h9
  · obtain ⟨q11, k10⟩ := h8
    have q11 := q11.symm
    subst q11
    refine lv_if_ne (tgt := 9) hx hb dX12_books_4 (by decide) (fun _ => ?_) (fun c => absurd c (by decide))
    refine lv_aload_n hx hb dX12_books_9 rfl (lv_at hl 0 rfl) ?_
    refine va_get (D := D) hx hb hts inlX12 hown hK hP 55 (jc_55 cI cL ad σ τ) rfl 58 (by decide) (hts _ kw_8_11) (fun _ h9 => h9) rfl dX12_books_10 ?_
    refine lv_iload_n hx hb dX12_books_13 rfl (lv_at hl 1 rfl) ?_
    refine jald hx hb hK hP (jc_86 cI cL ad σ τ) (jin t1 (by omega) (by omega)) dX12_books_14 ?_
    have g12 := w4 _ (jnat (x := a1) t1 (n := 6) (by omega) (by decide))
    refine lv_topi (fun x13 ex13 => ?_)
    rw [← ex13] at g12
    refine lv_if_lt (tgt := 32) hx hb dX12_books_15 (by decide) (fun c14 => ?_) (fun c14 => ?_)
    · have kc14 := jlt c14 rfl jz_0
      refine lv_aload_n hx hb dX12_books_32 rfl (lv_at hl 0 rfl) ?_
      refine lv_iconst (v := 0) hx hb dX12_books_33 (by decide) ?_
      refine jput (ty := .int) hx hb hts inlX12 tyX12 tyX12_ok nmX12 hown hK hP hJ hA hS (jc_55 cI cL ad σ τ) rfl (k := 47) (by decide) (Nat.le_of_ble_eq_true rfl) (jp_55_47 cI cL ad σ τ 0) (hts _ kw_15_15) (fun _ h9 => h9) rfl (by decide +kernel) rfl rfl dX12_books_34 (fun σ15 H locs eσ15 hP hS => ?_)
      have z16 : (σ15 55 47).toInt = 0 := ((congrArg Int32.toInt (show σ15 55 47 = 0 from (jsp eσ15))).trans jz_0)
      have p17 : jBook σ15 := jBook.nil (by omega)
      refine lv_aload_n hx hb dX12_books_37 rfl (lv_at hl 0 rfl) ?_
      refine va_get (D := D) hx hb hts inlX12 hown hK hP 55 (jc_55 cI cL ad σ15 τ) rfl 58 (by decide) (hts _ kw_8_11) (fun _ h9 => h9) rfl dX12_books_38 ?_
      refine lv_iload_n hx hb dX12_books_41 rfl (lv_at hl 1 rfl) ?_
      refine jald hx hb hK hP (jc_86 cI cL ad σ15 τ) (jin t1 (by omega) (by omega)) dX12_books_42 ?_
      have w18 : ∀ k : Nat, k < 6 → (-1) ≤ (σ15 86 k).toInt ∧ (σ15 86 k).toInt ≤ 24 := (jrr_fr (jnp 86 eσ15 (by decide)) w4)
      have g19 := w18 _ (jnat (x := a1) t1 (n := 6) (by omega) (by decide))
      refine lv_topi (fun x20 ex20 => ?_)
      rw [← ex20] at g19
      refine lv_bipush (v := 20) hx hb dX12_books_43 (by decide) ?_
      refine lv_icmp_ne (tgt := 56) hx hb dX12_books_45 (by decide) (fun c21 => ?_) (fun c21 => ?_)
      · have kc21 := jne c21 rfl jz_20
        refine lv_iconst (v := 0) hx hb dX12_books_56 (by decide) ?_
        refine lv_istore_n (lv' := [(3, .int 0), (0, .ref (ad 55)), (1, .int a1), (2, .int a2)]) hx hb dX12_books_57 rfl hl (by decide) rfl (fun ls hl => ?_)
        have z27 : (σ15 55 12).toInt = (σ 55 12).toInt := (congrArg Int32.toInt (show σ15 55 12 = (σ 55 12) from (jkp 12 eσ15 (by decide))))
        have w28 : ∀ k : Nat, k < 12 → 0 ≤ (σ15 80 k).toInt ∧ (σ15 80 k).toInt ≤ 3 := (jrr_fr (jnp 80 eσ15 (by decide)) w3)
        have I29 : jI107 σ15 := ⟨(by omega), (by omega), w28⟩
        have I30 : jI119 σ15 := jI119_fr (jnp 68 eσ15 (by decide)) hI119
        have lp22 : ∀ (n23 : Nat) (x24 : Int32) (σ26 : Nat → Nat → Int32) (H : Heap) (locs : List Loc) (ls : Array Slot), (-(2 * (σ26 55 47).toInt) + x24.toInt + 26 : Int) < n23 → 0 ≤ x24.toInt → x24.toInt ≤ 1 → ((x24.toInt = 0) ∨ (0 ≤ A2)) → (σ26 55 47).toInt ≤ 12 → (∀ i : Nat, (i < 55 ∨ 55 < i) ∧ (i < 68 ∨ 69 < i) ∧ (i < 80 ∨ 81 < i) → σ26 i = σ15 i) → (∀ k : Nat, (k < 25 ∨ 25 < k) ∧ (k < 26 ∨ 26 < k) ∧ (k < 27 ∨ 27 < k) ∧ (k < 47 ∨ 47 < k) → σ26 55 k = σ15 55 k) → jBook σ26 → jI107 σ26 → jI119 σ26 → jH D cI cL ad σ26 τ H → va_S (jA ad) s.heap H locs → lv_has ls 6 [(3, .int x24), (0, .ref (ad 55)), (1, .int a1), (2, .int a2)] → W p l e ({ frames := 4, cells := 0, slots := 0, locals := 85 }) s m args below meth c H locs 0 0 Q (F0 m 58 ls []) := by
          intro n23
          induction n23 with
          | zero => intro x24 σ26 H locs ls h31 h32 h33 h34 h35; exact absurd h31 (by omega)
          | succ n23 ihlp22 =>
            intro x24 σ26 H locs ls h31 h32 h33 h34 h35 f36 f37 p38 p39 p40 hP hS hl
            obtain ⟨i41, i42, w43⟩ : (0 ≤ (σ26 55 47).toInt ∧ (σ26 55 47).toInt ≤ 12) ∧ ((σ26 55 47).toInt ≤ (σ26 55 12).toInt) ∧ (∀ k : Nat, k < 12 → 0 ≤ (σ26 80 k).toInt ∧ (σ26 80 k).toInt ≤ 3) := id p39
            have z44 : (σ26 55 12).toInt = (σ 55 12).toInt := (congrArg Int32.toInt (show σ26 55 12 = (σ 55 12) from ((f37 12 (by decide)).trans (jkp 12 eσ15 (by decide)))))
            refine lv_iload_n hx hb dX12_books_58 rfl (lv_at hl 0 rfl) ?_
            refine lv_if_eq (tgt := 145) hx hb dX12_books_59 (by decide) (fun c45 => ?_) (fun c45 => ?_)
            · have kc45 := jeq c45 rfl jz_0
              refine lv_aload_n hx hb dX12_books_145 rfl (lv_at hl 1 rfl) ?_
              refine va_get (D := D) hx hb hts inlX12 hown hK hP 55 (jc_55 cI cL ad σ26 τ) rfl 47 (by decide) (hts _ kw_15_15) (fun _ h9 => h9) rfl dX12_books_146 ?_
              exact hret (σ26 55 47) σ26 τ _ _ _ _ rfl ⟨rfl, (fun i hi => ((f36 i hi).trans (jnp i eσ15 (imp_214 i hi)))), (fun i hi => ((f37 i hi).trans (jkp i eσ15 (imp_217 i hi)))), p39, p40, p38, trivial⟩ hP hS dX12_books_149
            · have kc45 := jne c45 rfl jz_0
              refine lv_iload_n hx hb dX12_books_62 rfl (lv_at hl 3 rfl) ?_
              refine lv_aload_n hx hb dX12_books_63 rfl (lv_at hl 1 rfl) ?_
              refine va_get (D := D) hx hb hts inlX12 hown hK hP 55 (jc_55 cI cL ad σ26 τ) rfl 59 (by decide) (hts _ kw_8_12) (fun _ h9 => h9) rfl dX12_books_64 ?_
              refine lv_iload_n hx hb dX12_books_67 rfl (lv_at hl 2 rfl) ?_
              refine jald hx hb hK hP (jc_87 cI cL ad σ26 τ) (jin t1 (by omega) (by omega)) dX12_books_68 ?_
              have w46 : ∀ k : Nat, k < 6 → 0 ≤ (σ26 87 k).toInt ∧ (σ26 87 k).toInt ≤ 60 := (jrr_fr (f36 87 (by decide)) (jrr_fr (jnp 87 eσ15 (by decide)) w5))
              have g47 := w46 _ (jnat (x := a1) t1 (n := 6) (by omega) (by decide))
              refine lv_topi (fun x48 ex48 => ?_)
              rw [← ex48] at g47
              refine lv_aload_n hx hb dX12_books_69 rfl (lv_at hl 1 rfl) ?_
              refine va_get (D := D) hx hb hts inlX12 hown hK hP 55 (jc_55 cI cL ad σ26 τ) rfl 47 (by decide) (hts _ kw_15_15) (fun _ h9 => h9) rfl dX12_books_70 ?_
              have g49 := jrg (rfl : x48.toInt = x48.toInt)
              have g50 := jrg (rfl : (σ26 55 47).toInt = (σ26 55 47).toInt)
              refine lv_isub hx hb dX12_books_73 ?_
              refine lv_topi (fun x51 ex51 => ?_)
              have tx51 : x51.toInt = x48.toInt - (σ26 55 47).toInt := (jsub ex51 rfl rfl (by omega) (by omega)).trans (by omega)
              refine lv_icmp_ge (tgt := 96) hx hb dX12_books_74 (by decide) (fun c52 => ?_) (fun c52 => ?_)
              · have kc52 := jle c52 tx51 t2
                refine lv_ldc2 (v := (-1)) hx hb hown (hts _ kw_43_16) dX12_books_96 ?_
                refine lv_lstore (lv' := [(4, .long (-1)), (3, .int x24), (0, .ref (ad 55)), (1, .int a1), (2, .int a2)]) hx hb dX12_books_99 hl (by decide) rfl (fun ls hl => ?_)
                refine lv_lload hx hb dX12_books_101 (lv_at hl 0 rfl) ?_
                refine lv_lconst (v := 0) hx hb dX12_books_103 (by decide) ?_
                refine W.lcmp hx hb dX12_books_104 ?_
                refine lv_if_lt (tgt := 140) hx hb dX12_books_105 (by decide) (fun c53 => ?_) (fun c => absurd (jcnlt c jzl_m1 jzl_0) (by omega))
                have kc53 := jclt c53 jzl_m1 jzl_0
                refine lv_iconst (v := 0) hx hb dX12_books_140 (by decide) ?_
                refine lv_istore_n (lv' := [(3, .int 0), (4, .long (-1)), (0, .ref (ad 55)), (1, .int a1), (2, .int a2)]) hx hb dX12_books_141 rfl hl (by decide) rfl (fun ls hl => ?_)
                refine lv_goto (tgt := 58) hx hb dX12_books_142 (by decide) ?_
                exact ihlp22 0 σ26 _ _ ls (by have h90 := jz_0; omega) (by have h90 := jz_0; omega) (by have h90 := jz_0; omega) (by have h90 := jz_0; omega) (by have h90 := jz_0; omega) (fun i hi => (f36 i hi)) (fun i hi => (f37 i hi))  p38 p39 p40 hP hS (lv_sub hl [0, 2, 3, 4] rfl)
              · have kc52 := jnle c52 tx51 t2
                refine lv_aload_n hx hb dX12_books_77 rfl (lv_at hl 1 rfl) ?_
                refine va_get (D := D) hx hb hts inlX12 hown hK hP 55 (jc_55 cI cL ad σ26 τ) rfl 60 (by decide) (hts _ kw_8_13) (fun _ h9 => h9) rfl dX12_books_78 ?_
                refine lv_bipush (v := 60) hx hb dX12_books_81 (by decide) ?_
                refine lv_iload_n hx hb dX12_books_83 rfl (lv_at hl 2 rfl) ?_
                refine lv_imul hx hb dX12_books_84 ?_
                refine lv_topi (fun x54 ex54 => ?_)
                have tx54 : x54.toInt = 60 * A1 := (jmul ex54 jz_60 t1 (by omega) (by omega)).trans (by omega)
                refine lv_iload_n hx hb dX12_books_85 rfl (lv_at hl 3 rfl) ?_
                refine lv_iadd hx hb dX12_books_86 ?_
                refine lv_topi (fun x55 ex55 => ?_)
                have tx55 : x55.toInt = 60 * A1 + A2 := (jadd ex55 tx54 t2 (by omega) (by omega)).trans (by omega)
                refine lv_aload_n hx hb dX12_books_87 rfl (lv_at hl 1 rfl) ?_
                refine va_get (D := D) hx hb hts inlX12 hown hK hP 55 (jc_55 cI cL ad σ26 τ) rfl 47 (by decide) (hts _ kw_15_15) (fun _ h9 => h9) rfl dX12_books_88 ?_
                refine lv_iadd hx hb dX12_books_91 ?_
                refine lv_topi (fun x56 ex56 => ?_)
                have tx56 : x56.toInt = 60 * A1 + A2 + (σ26 55 47).toInt := (jadd ex56 tx55 rfl (by omega) (by omega)).trans (by omega)
                refine jaldL hx hb hK hP (jc_88 cI cL ad σ26 τ) (jin tx56 (by omega) (by omega)) dX12_books_92 ?_
                refine lv_topl (fun lx57 elx57 => ?_)
                refine lv_goto (tgt := 99) hx hb dX12_books_93 (by decide) ?_
                refine lv_lstore (lv' := [(4, .long lx57), (3, .int x24), (0, .ref (ad 55)), (1, .int a1), (2, .int a2)]) hx hb dX12_books_99 hl (by decide) rfl (fun ls hl => ?_)
                refine lv_lload hx hb dX12_books_101 (lv_at hl 0 rfl) ?_
                refine lv_lconst (v := 0) hx hb dX12_books_103 (by decide) ?_
                refine W.lcmp hx hb dX12_books_104 ?_
                refine lv_if_lt (tgt := 140) hx hb dX12_books_105 (by decide) (fun c58 => ?_) (fun c58 => ?_)
                · have kc58 := jclt c58 rfl jzl_0
                  refine lv_iconst (v := 0) hx hb dX12_books_140 (by decide) ?_
                  refine lv_istore_n (lv' := [(3, .int 0), (4, .long lx57), (0, .ref (ad 55)), (1, .int a1), (2, .int a2)]) hx hb dX12_books_141 rfl hl (by decide) rfl (fun ls hl => ?_)
                  refine lv_goto (tgt := 58) hx hb dX12_books_142 (by decide) ?_
                  exact ihlp22 0 σ26 _ _ ls (by have h90 := jz_0; omega) (by have h90 := jz_0; omega) (by have h90 := jz_0; omega) (by have h90 := jz_0; omega) (by have h90 := jz_0; omega) (fun i hi => (f36 i hi)) (fun i hi => (f37 i hi))  p38 p39 p40 hP hS (lv_sub hl [0, 2, 3, 4] rfl)
                · have kc58 := jcnlt c58 rfl jzl_0
                  refine lv_lload hx hb dX12_books_108 (lv_at hl 0 rfl) ?_
                  refine lv_ldc2 (v := 20) hx hb hown (hts _ kw_9_12) dX12_books_110 ?_
                  refine W.lcmp hx hb dX12_books_113 ?_
                  refine lv_if_ge (tgt := 140) hx hb dX12_books_114 (by decide) (fun c59 => ?_) (fun c59 => ?_)
                  · have kc59 := jcge c59 rfl jzl_20
                    refine lv_iconst (v := 0) hx hb dX12_books_140 (by decide) ?_
                    refine lv_istore_n (lv' := [(3, .int 0), (4, .long lx57), (0, .ref (ad 55)), (1, .int a1), (2, .int a2)]) hx hb dX12_books_141 rfl hl (by decide) rfl (fun ls hl => ?_)
                    refine lv_goto (tgt := 58) hx hb dX12_books_142 (by decide) ?_
                    exact ihlp22 0 σ26 _ _ ls (by have h90 := jz_0; omega) (by have h90 := jz_0; omega) (by have h90 := jz_0; omega) (by have h90 := jz_0; omega) (by have h90 := jz_0; omega) (fun i hi => (f36 i hi)) (fun i hi => (f37 i hi))  p38 p39 p40 hP hS (lv_sub hl [0, 2, 3, 4] rfl)
                  · have kc59 := jcnge c59 rfl jzl_20
                    refine lv_aload_n hx hb dX12_books_117 rfl (lv_at hl 2 rfl) ?_
                    refine lv_lload hx hb dX12_books_118 (lv_at hl 0 rfl) ?_
                    refine lv_l2i hx hb dX12_books_120 rfl ?_
                    refine lv_topi (fun x60 ex60 => ?_)
                    have tx60 : x60.toInt = lx57.toInt := jtoI ex60 rfl (by omega) (by omega)
                    refine lv_bipush (v := 10) hx hb dX12_books_121 (by decide) ?_
                    refine lv_irem hx hb dX12_books_123 (by decide) ?_
                    refine lv_topi (fun x61 ex61 => ?_)
                    have tx61 : x61.toInt = (lx57.toInt % 10) := jrem ex61 tx60 jz_10 (by omega)
                    refine lv_lload hx hb dX12_books_124 (lv_at hl 0 rfl) ?_
                    refine lv_l2i hx hb dX12_books_126 rfl ?_
                    refine lv_topi (fun x62 ex62 => ?_)
                    have tx62 : x62.toInt = lx57.toInt := jtoI ex62 rfl (by omega) (by omega)
                    refine lv_bipush (v := 10) hx hb dX12_books_127 (by decide) ?_
                    refine lv_idiv hx hb dX12_books_129 (by decide) ?_
                    refine lv_topi (fun x63 ex63 => ?_)
                    have tx63 : x63.toInt = (lx57.toInt / 10) := jdiv ex63 tx62 jz_10 (by omega) (by omega)
                    have I64 : jI102 σ26 := jI102_fr ((f37 6 (by decide)).trans (jkp 6 eσ15 (by decide))) ((f36 60 (by decide)).trans (jnp 60 eσ15 (by decide))) ((f36 61 (by decide)).trans (jnp 61 eσ15 (by decide))) hI102
                    have I65 : jI104 σ26 := jI104_fr ((f37 10 (by decide)).trans (jkp 10 eσ15 (by decide))) ((f37 12 (by decide)).trans (jkp 12 eσ15 (by decide))) ((f37 13 (by decide)).trans (jkp 13 eσ15 (by decide))) ((f36 62 (by decide)).trans (jnp 62 eσ15 (by decide))) ((f36 67 (by decide)).trans (jnp 67 eσ15 (by decide))) hI104
                    have w66 : ∀ k : Nat, k < 4 → 0 ≤ (σ26 68 k).toInt ∧ (σ26 68 k).toInt ≤ 3 := p40
                    refine jcallV (As := [.int x61, .int x63]) (rest := []) ⟨hx, hb, hml, hown, hts⟩ hK hP hA hS hZ (c_X12_book l D cI cL ad zz hJ σ26 τ x61 ((lx57.toInt % 10)) tx61 x63 ((lx57.toInt / 10)) tx63 I64 I65 p39 w66 p38) cw_RX12_366 (jc_55 cI cL ad σ26 τ) rfl ⟨Nat.le_of_ble_eq_true rfl, Nat.le_of_ble_eq_true rfl⟩ rfl rfl rfl hl.1 rfl (Nat.le_of_ble_eq_true rfl) dX12_books_130 ⟨Nat.zero_le _, Nat.zero_le _⟩ (fun r68 σ67 τ67 H locs h67 hP hS => ?_)
                    obtain ⟨rfl, f69, f70, I71, w72, p73, h67⟩ := h67
                    obtain ⟨i74, i75, w76⟩ : (0 ≤ (σ67 55 47).toInt ∧ (σ67 55 47).toInt ≤ 12) ∧ ((σ67 55 47).toInt ≤ (σ67 55 12).toInt) ∧ (∀ k : Nat, k < 12 → 0 ≤ (σ67 80 k).toInt ∧ (σ67 80 k).toInt ≤ 3) := id I71
                    have z77 : (σ67 55 12).toInt = (σ 55 12).toInt := (congrArg Int32.toInt (show σ67 55 12 = (σ 55 12) from ((f70 12 (by decide)).trans ((f37 12 (by decide)).trans (jkp 12 eσ15 (by decide))))))
                    rcases h67 with h78 | h79
                    · obtain ⟨q82, k80, k81⟩ := h78
                      refine lv_if_le (tgt := 140) hx hb dX12_books_133 (by decide) (fun c => absurd (jle c rfl jz_0) (by omega)) (fun c83 => ?_)
                      have kc83 := jnle c83 rfl jz_0
                      refine lv_iconst (v := 1) hx hb dX12_books_136 (by decide) ?_
                      refine lv_goto (tgt := 141) hx hb dX12_books_137 (by decide) ?_
                      refine lv_istore_n (lv' := [(3, .int 1), (4, .long lx57), (0, .ref (ad 55)), (1, .int a1), (2, .int a2)]) hx hb dX12_books_141 rfl hl (by decide) rfl (fun ls hl => ?_)
                      refine lv_goto (tgt := 58) hx hb dX12_books_142 (by decide) ?_
                      have I84 : jI119 σ67 := w72
                      exact ihlp22 1 σ67 _ _ ls (by have h90 := jz_1; omega) (by have h90 := jz_1; omega) (by have h90 := jz_1; omega) (by have h90 := jz_1; omega) (by have h90 := jz_1; omega) (fun i hi => ((f69 i hi).trans (f36 i hi))) (fun i hi => ((f70 i hi).trans (f37 i hi)))  p73 I71 I84 hP hS (lv_sub hl [0, 2, 3, 4] rfl)
                    · obtain ⟨q87, k85, k86⟩ := h79
                      refine lv_if_le (tgt := 140) hx hb dX12_books_133 (by decide) (fun c88 => ?_) (fun c => absurd (jnle c rfl jz_0) (by omega))
                      have kc88 := jle c88 rfl jz_0
                      refine lv_iconst (v := 0) hx hb dX12_books_140 (by decide) ?_
                      refine lv_istore_n (lv' := [(3, .int 0), (4, .long lx57), (0, .ref (ad 55)), (1, .int a1), (2, .int a2)]) hx hb dX12_books_141 rfl hl (by decide) rfl (fun ls hl => ?_)
                      refine lv_goto (tgt := 58) hx hb dX12_books_142 (by decide) ?_
                      have I89 : jI119 σ67 := w72
                      exact ihlp22 0 σ67 _ _ ls (by have h90 := jz_0; omega) (by have h90 := jz_0; omega) (by have h90 := jz_0; omega) (by have h90 := jz_0; omega) (by have h90 := jz_0; omega) (fun i hi => ((f69 i hi).trans (f36 i hi))) (fun i hi => ((f70 i hi).trans (f37 i hi)))  p73 I71 I89 hP hS (lv_sub hl [0, 2, 3, 4] rfl)
        exact lp22 1000000 0 σ15 _ _ ls (by have h90 := jz_0; omega) (by have h90 := jz_0; omega) (by have h90 := jz_0; omega) (by have h90 := jz_0; omega) (by have h90 := jz_0; omega) (fun _ _ => rfl) (fun _ _ => rfl)  p17 I29 I30 hP hS hl
      · have kc21 := jeq c21 rfl jz_20
        refine lv_iload_n hx hb dX12_books_48 rfl (lv_at hl 2 rfl) ?_
        refine lv_if_lt (tgt := 56) hx hb dX12_books_49 (by decide) (fun c90 => ?_) (fun c90 => ?_)
        · have kc90 := jlt c90 t2 jz_0
          refine lv_iconst (v := 0) hx hb dX12_books_56 (by decide) ?_
          refine lv_istore_n (lv' := [(3, .int 0), (0, .ref (ad 55)), (1, .int a1), (2, .int a2)]) hx hb dX12_books_57 rfl hl (by decide) rfl (fun ls hl => ?_)
          have z96 : (σ15 55 12).toInt = (σ 55 12).toInt := (congrArg Int32.toInt (show σ15 55 12 = (σ 55 12) from (jkp 12 eσ15 (by decide))))
          have w97 : ∀ k : Nat, k < 12 → 0 ≤ (σ15 80 k).toInt ∧ (σ15 80 k).toInt ≤ 3 := (jrr_fr (jnp 80 eσ15 (by decide)) w3)
          have I98 : jI107 σ15 := ⟨(by omega), (by omega), w97⟩
          have I99 : jI119 σ15 := jI119_fr (jnp 68 eσ15 (by decide)) hI119
          have lp91 : ∀ (n92 : Nat) (x93 : Int32) (σ95 : Nat → Nat → Int32) (H : Heap) (locs : List Loc) (ls : Array Slot), (-(2 * (σ95 55 47).toInt) + x93.toInt + 26 : Int) < n92 → 0 ≤ x93.toInt → x93.toInt ≤ 1 → ((x93.toInt = 0) ∨ (0 ≤ A2)) → (σ95 55 47).toInt ≤ 12 → (∀ i : Nat, (i < 55 ∨ 55 < i) ∧ (i < 68 ∨ 69 < i) ∧ (i < 80 ∨ 81 < i) → σ95 i = σ15 i) → (∀ k : Nat, (k < 25 ∨ 25 < k) ∧ (k < 26 ∨ 26 < k) ∧ (k < 27 ∨ 27 < k) ∧ (k < 47 ∨ 47 < k) → σ95 55 k = σ15 55 k) → jBook σ95 → jI107 σ95 → jI119 σ95 → jH D cI cL ad σ95 τ H → va_S (jA ad) s.heap H locs → lv_has ls 6 [(3, .int x93), (0, .ref (ad 55)), (1, .int a1), (2, .int a2)] → W p l e ({ frames := 4, cells := 0, slots := 0, locals := 85 }) s m args below meth c H locs 0 0 Q (F0 m 58 ls []) := by
            intro n92
            induction n92 with
            | zero => intro x93 σ95 H locs ls h100 h101 h102 h103 h104; exact absurd h100 (by omega)
            | succ n92 ihlp91 =>
              intro x93 σ95 H locs ls h100 h101 h102 h103 h104 f105 f106 p107 p108 p109 hP hS hl
              obtain ⟨i110, i111, w112⟩ : (0 ≤ (σ95 55 47).toInt ∧ (σ95 55 47).toInt ≤ 12) ∧ ((σ95 55 47).toInt ≤ (σ95 55 12).toInt) ∧ (∀ k : Nat, k < 12 → 0 ≤ (σ95 80 k).toInt ∧ (σ95 80 k).toInt ≤ 3) := id p108
              have z113 : (σ95 55 12).toInt = (σ 55 12).toInt := (congrArg Int32.toInt (show σ95 55 12 = (σ 55 12) from ((f106 12 (by decide)).trans (jkp 12 eσ15 (by decide)))))
              refine lv_iload_n hx hb dX12_books_58 rfl (lv_at hl 0 rfl) ?_
              refine lv_if_eq (tgt := 145) hx hb dX12_books_59 (by decide) (fun c114 => ?_) (fun c => absurd (jne c rfl jz_0) (by omega))
              have kc114 := jeq c114 rfl jz_0
              refine lv_aload_n hx hb dX12_books_145 rfl (lv_at hl 1 rfl) ?_
              refine va_get (D := D) hx hb hts inlX12 hown hK hP 55 (jc_55 cI cL ad σ95 τ) rfl 47 (by decide) (hts _ kw_15_15) (fun _ h9 => h9) rfl dX12_books_146 ?_
              exact hret (σ95 55 47) σ95 τ _ _ _ _ rfl ⟨rfl, (fun i hi => ((f105 i hi).trans (jnp i eσ15 (imp_214 i hi)))), (fun i hi => ((f106 i hi).trans (jkp i eσ15 (imp_217 i hi)))), p108, p109, p107, trivial⟩ hP hS dX12_books_149
          exact lp91 1000000 0 σ15 _ _ ls (by have h90 := jz_0; omega) (by have h90 := jz_0; omega) (by have h90 := jz_0; omega) (by have h90 := jz_0; omega) (by have h90 := jz_0; omega) (fun _ _ => rfl) (fun _ _ => rfl)  p17 I98 I99 hP hS hl
        · have kc90 := jnlt c90 t2 jz_0
          refine lv_iconst (v := 1) hx hb dX12_books_52 (by decide) ?_
          refine lv_goto (tgt := 57) hx hb dX12_books_53 (by decide) ?_
          refine lv_istore_n (lv' := [(3, .int 1), (0, .ref (ad 55)), (1, .int a1), (2, .int a2)]) hx hb dX12_books_57 rfl hl (by decide) rfl (fun ls hl => ?_)
          have z120 : (σ15 55 12).toInt = (σ 55 12).toInt := (congrArg Int32.toInt (show σ15 55 12 = (σ 55 12) from (jkp 12 eσ15 (by decide))))
          have w121 : ∀ k : Nat, k < 12 → 0 ≤ (σ15 80 k).toInt ∧ (σ15 80 k).toInt ≤ 3 := (jrr_fr (jnp 80 eσ15 (by decide)) w3)
          have I122 : jI107 σ15 := ⟨(by omega), (by omega), w121⟩
          have I123 : jI119 σ15 := jI119_fr (jnp 68 eσ15 (by decide)) hI119
          have lp115 : ∀ (n116 : Nat) (x117 : Int32) (σ119 : Nat → Nat → Int32) (H : Heap) (locs : List Loc) (ls : Array Slot), (-(2 * (σ119 55 47).toInt) + x117.toInt + 26 : Int) < n116 → 0 ≤ x117.toInt → x117.toInt ≤ 1 → ((x117.toInt = 0) ∨ (0 ≤ A2)) → (σ119 55 47).toInt ≤ 12 → (∀ i : Nat, (i < 55 ∨ 55 < i) ∧ (i < 68 ∨ 69 < i) ∧ (i < 80 ∨ 81 < i) → σ119 i = σ15 i) → (∀ k : Nat, (k < 25 ∨ 25 < k) ∧ (k < 26 ∨ 26 < k) ∧ (k < 27 ∨ 27 < k) ∧ (k < 47 ∨ 47 < k) → σ119 55 k = σ15 55 k) → jBook σ119 → jI107 σ119 → jI119 σ119 → jH D cI cL ad σ119 τ H → va_S (jA ad) s.heap H locs → lv_has ls 6 [(3, .int x117), (0, .ref (ad 55)), (1, .int a1), (2, .int a2)] → W p l e ({ frames := 4, cells := 0, slots := 0, locals := 85 }) s m args below meth c H locs 0 0 Q (F0 m 58 ls []) := by
            intro n116
            induction n116 with
            | zero => intro x117 σ119 H locs ls h124 h125 h126 h127 h128; exact absurd h124 (by omega)
            | succ n116 ihlp115 =>
              intro x117 σ119 H locs ls h124 h125 h126 h127 h128 f129 f130 p131 p132 p133 hP hS hl
              obtain ⟨i134, i135, w136⟩ : (0 ≤ (σ119 55 47).toInt ∧ (σ119 55 47).toInt ≤ 12) ∧ ((σ119 55 47).toInt ≤ (σ119 55 12).toInt) ∧ (∀ k : Nat, k < 12 → 0 ≤ (σ119 80 k).toInt ∧ (σ119 80 k).toInt ≤ 3) := id p132
              have z137 : (σ119 55 12).toInt = (σ 55 12).toInt := (congrArg Int32.toInt (show σ119 55 12 = (σ 55 12) from ((f130 12 (by decide)).trans (jkp 12 eσ15 (by decide)))))
              refine lv_iload_n hx hb dX12_books_58 rfl (lv_at hl 0 rfl) ?_
              refine lv_if_eq (tgt := 145) hx hb dX12_books_59 (by decide) (fun c138 => ?_) (fun c138 => ?_)
              · have kc138 := jeq c138 rfl jz_0
                refine lv_aload_n hx hb dX12_books_145 rfl (lv_at hl 1 rfl) ?_
                refine va_get (D := D) hx hb hts inlX12 hown hK hP 55 (jc_55 cI cL ad σ119 τ) rfl 47 (by decide) (hts _ kw_15_15) (fun _ h9 => h9) rfl dX12_books_146 ?_
                exact hret (σ119 55 47) σ119 τ _ _ _ _ rfl ⟨rfl, (fun i hi => ((f129 i hi).trans (jnp i eσ15 (imp_214 i hi)))), (fun i hi => ((f130 i hi).trans (jkp i eσ15 (imp_217 i hi)))), p132, p133, p131, trivial⟩ hP hS dX12_books_149
              · have kc138 := jne c138 rfl jz_0
                refine lv_iload_n hx hb dX12_books_62 rfl (lv_at hl 3 rfl) ?_
                refine lv_aload_n hx hb dX12_books_63 rfl (lv_at hl 1 rfl) ?_
                refine va_get (D := D) hx hb hts inlX12 hown hK hP 55 (jc_55 cI cL ad σ119 τ) rfl 59 (by decide) (hts _ kw_8_12) (fun _ h9 => h9) rfl dX12_books_64 ?_
                refine lv_iload_n hx hb dX12_books_67 rfl (lv_at hl 2 rfl) ?_
                refine jald hx hb hK hP (jc_87 cI cL ad σ119 τ) (jin t1 (by omega) (by omega)) dX12_books_68 ?_
                have w139 : ∀ k : Nat, k < 6 → 0 ≤ (σ119 87 k).toInt ∧ (σ119 87 k).toInt ≤ 60 := (jrr_fr (f129 87 (by decide)) (jrr_fr (jnp 87 eσ15 (by decide)) w5))
                have g140 := w139 _ (jnat (x := a1) t1 (n := 6) (by omega) (by decide))
                refine lv_topi (fun x141 ex141 => ?_)
                rw [← ex141] at g140
                refine lv_aload_n hx hb dX12_books_69 rfl (lv_at hl 1 rfl) ?_
                refine va_get (D := D) hx hb hts inlX12 hown hK hP 55 (jc_55 cI cL ad σ119 τ) rfl 47 (by decide) (hts _ kw_15_15) (fun _ h9 => h9) rfl dX12_books_70 ?_
                have g142 := jrg (rfl : x141.toInt = x141.toInt)
                have g143 := jrg (rfl : (σ119 55 47).toInt = (σ119 55 47).toInt)
                refine lv_isub hx hb dX12_books_73 ?_
                refine lv_topi (fun x144 ex144 => ?_)
                have tx144 : x144.toInt = x141.toInt - (σ119 55 47).toInt := (jsub ex144 rfl rfl (by omega) (by omega)).trans (by omega)
                refine lv_icmp_ge (tgt := 96) hx hb dX12_books_74 (by decide) (fun c145 => ?_) (fun c145 => ?_)
                · have kc145 := jle c145 tx144 t2
                  refine lv_ldc2 (v := (-1)) hx hb hown (hts _ kw_43_16) dX12_books_96 ?_
                  refine lv_lstore (lv' := [(4, .long (-1)), (3, .int x117), (0, .ref (ad 55)), (1, .int a1), (2, .int a2)]) hx hb dX12_books_99 hl (by decide) rfl (fun ls hl => ?_)
                  refine lv_lload hx hb dX12_books_101 (lv_at hl 0 rfl) ?_
                  refine lv_lconst (v := 0) hx hb dX12_books_103 (by decide) ?_
                  refine W.lcmp hx hb dX12_books_104 ?_
                  refine lv_if_lt (tgt := 140) hx hb dX12_books_105 (by decide) (fun c146 => ?_) (fun c => absurd (jcnlt c jzl_m1 jzl_0) (by omega))
                  have kc146 := jclt c146 jzl_m1 jzl_0
                  refine lv_iconst (v := 0) hx hb dX12_books_140 (by decide) ?_
                  refine lv_istore_n (lv' := [(3, .int 0), (4, .long (-1)), (0, .ref (ad 55)), (1, .int a1), (2, .int a2)]) hx hb dX12_books_141 rfl hl (by decide) rfl (fun ls hl => ?_)
                  refine lv_goto (tgt := 58) hx hb dX12_books_142 (by decide) ?_
                  exact ihlp115 0 σ119 _ _ ls (by have h90 := jz_0; omega) (by have h90 := jz_0; omega) (by have h90 := jz_0; omega) (by have h90 := jz_0; omega) (by have h90 := jz_0; omega) (fun i hi => (f129 i hi)) (fun i hi => (f130 i hi))  p131 p132 p133 hP hS (lv_sub hl [0, 2, 3, 4] rfl)
                · have kc145 := jnle c145 tx144 t2
                  refine lv_aload_n hx hb dX12_books_77 rfl (lv_at hl 1 rfl) ?_
                  refine va_get (D := D) hx hb hts inlX12 hown hK hP 55 (jc_55 cI cL ad σ119 τ) rfl 60 (by decide) (hts _ kw_8_13) (fun _ h9 => h9) rfl dX12_books_78 ?_
                  refine lv_bipush (v := 60) hx hb dX12_books_81 (by decide) ?_
                  refine lv_iload_n hx hb dX12_books_83 rfl (lv_at hl 2 rfl) ?_
                  refine lv_imul hx hb dX12_books_84 ?_
                  refine lv_topi (fun x147 ex147 => ?_)
                  have tx147 : x147.toInt = 60 * A1 := (jmul ex147 jz_60 t1 (by omega) (by omega)).trans (by omega)
                  refine lv_iload_n hx hb dX12_books_85 rfl (lv_at hl 3 rfl) ?_
                  refine lv_iadd hx hb dX12_books_86 ?_
                  refine lv_topi (fun x148 ex148 => ?_)
                  have tx148 : x148.toInt = 60 * A1 + A2 := (jadd ex148 tx147 t2 (by omega) (by omega)).trans (by omega)
                  refine lv_aload_n hx hb dX12_books_87 rfl (lv_at hl 1 rfl) ?_
                  refine va_get (D := D) hx hb hts inlX12 hown hK hP 55 (jc_55 cI cL ad σ119 τ) rfl 47 (by decide) (hts _ kw_15_15) (fun _ h9 => h9) rfl dX12_books_88 ?_
                  refine lv_iadd hx hb dX12_books_91 ?_
                  refine lv_topi (fun x149 ex149 => ?_)
                  have tx149 : x149.toInt = 60 * A1 + A2 + (σ119 55 47).toInt := (jadd ex149 tx148 rfl (by omega) (by omega)).trans (by omega)
                  refine jaldL hx hb hK hP (jc_88 cI cL ad σ119 τ) (jin tx149 (by omega) (by omega)) dX12_books_92 ?_
                  refine lv_topl (fun lx150 elx150 => ?_)
                  refine lv_goto (tgt := 99) hx hb dX12_books_93 (by decide) ?_
                  refine lv_lstore (lv' := [(4, .long lx150), (3, .int x117), (0, .ref (ad 55)), (1, .int a1), (2, .int a2)]) hx hb dX12_books_99 hl (by decide) rfl (fun ls hl => ?_)
                  refine lv_lload hx hb dX12_books_101 (lv_at hl 0 rfl) ?_
                  refine lv_lconst (v := 0) hx hb dX12_books_103 (by decide) ?_
                  refine W.lcmp hx hb dX12_books_104 ?_
                  refine lv_if_lt (tgt := 140) hx hb dX12_books_105 (by decide) (fun c151 => ?_) (fun c151 => ?_)
                  · have kc151 := jclt c151 rfl jzl_0
                    refine lv_iconst (v := 0) hx hb dX12_books_140 (by decide) ?_
                    refine lv_istore_n (lv' := [(3, .int 0), (4, .long lx150), (0, .ref (ad 55)), (1, .int a1), (2, .int a2)]) hx hb dX12_books_141 rfl hl (by decide) rfl (fun ls hl => ?_)
                    refine lv_goto (tgt := 58) hx hb dX12_books_142 (by decide) ?_
                    exact ihlp115 0 σ119 _ _ ls (by have h90 := jz_0; omega) (by have h90 := jz_0; omega) (by have h90 := jz_0; omega) (by have h90 := jz_0; omega) (by have h90 := jz_0; omega) (fun i hi => (f129 i hi)) (fun i hi => (f130 i hi))  p131 p132 p133 hP hS (lv_sub hl [0, 2, 3, 4] rfl)
                  · have kc151 := jcnlt c151 rfl jzl_0
                    refine lv_lload hx hb dX12_books_108 (lv_at hl 0 rfl) ?_
                    refine lv_ldc2 (v := 20) hx hb hown (hts _ kw_9_12) dX12_books_110 ?_
                    refine W.lcmp hx hb dX12_books_113 ?_
                    refine lv_if_ge (tgt := 140) hx hb dX12_books_114 (by decide) (fun c152 => ?_) (fun c152 => ?_)
                    · have kc152 := jcge c152 rfl jzl_20
                      refine lv_iconst (v := 0) hx hb dX12_books_140 (by decide) ?_
                      refine lv_istore_n (lv' := [(3, .int 0), (4, .long lx150), (0, .ref (ad 55)), (1, .int a1), (2, .int a2)]) hx hb dX12_books_141 rfl hl (by decide) rfl (fun ls hl => ?_)
                      refine lv_goto (tgt := 58) hx hb dX12_books_142 (by decide) ?_
                      exact ihlp115 0 σ119 _ _ ls (by have h90 := jz_0; omega) (by have h90 := jz_0; omega) (by have h90 := jz_0; omega) (by have h90 := jz_0; omega) (by have h90 := jz_0; omega) (fun i hi => (f129 i hi)) (fun i hi => (f130 i hi))  p131 p132 p133 hP hS (lv_sub hl [0, 2, 3, 4] rfl)
                    · have kc152 := jcnge c152 rfl jzl_20
                      refine lv_aload_n hx hb dX12_books_117 rfl (lv_at hl 2 rfl) ?_
                      refine lv_lload hx hb dX12_books_118 (lv_at hl 0 rfl) ?_
                      refine lv_l2i hx hb dX12_books_120 rfl ?_
                      refine lv_topi (fun x153 ex153 => ?_)
                      have tx153 : x153.toInt = lx150.toInt := jtoI ex153 rfl (by omega) (by omega)
                      refine lv_bipush (v := 10) hx hb dX12_books_121 (by decide) ?_
                      refine lv_irem hx hb dX12_books_123 (by decide) ?_
                      refine lv_topi (fun x154 ex154 => ?_)
                      have tx154 : x154.toInt = (lx150.toInt % 10) := jrem ex154 tx153 jz_10 (by omega)
                      refine lv_lload hx hb dX12_books_124 (lv_at hl 0 rfl) ?_
                      refine lv_l2i hx hb dX12_books_126 rfl ?_
                      refine lv_topi (fun x155 ex155 => ?_)
                      have tx155 : x155.toInt = lx150.toInt := jtoI ex155 rfl (by omega) (by omega)
                      refine lv_bipush (v := 10) hx hb dX12_books_127 (by decide) ?_
                      refine lv_idiv hx hb dX12_books_129 (by decide) ?_
                      refine lv_topi (fun x156 ex156 => ?_)
                      have tx156 : x156.toInt = (lx150.toInt / 10) := jdiv ex156 tx155 jz_10 (by omega) (by omega)
                      have I157 : jI102 σ119 := jI102_fr ((f130 6 (by decide)).trans (jkp 6 eσ15 (by decide))) ((f129 60 (by decide)).trans (jnp 60 eσ15 (by decide))) ((f129 61 (by decide)).trans (jnp 61 eσ15 (by decide))) hI102
                      have I158 : jI104 σ119 := jI104_fr ((f130 10 (by decide)).trans (jkp 10 eσ15 (by decide))) ((f130 12 (by decide)).trans (jkp 12 eσ15 (by decide))) ((f130 13 (by decide)).trans (jkp 13 eσ15 (by decide))) ((f129 62 (by decide)).trans (jnp 62 eσ15 (by decide))) ((f129 67 (by decide)).trans (jnp 67 eσ15 (by decide))) hI104
                      have w159 : ∀ k : Nat, k < 4 → 0 ≤ (σ119 68 k).toInt ∧ (σ119 68 k).toInt ≤ 3 := p133
                      refine jcallV (As := [.int x154, .int x156]) (rest := []) ⟨hx, hb, hml, hown, hts⟩ hK hP hA hS hZ (c_X12_book l D cI cL ad zz hJ σ119 τ x154 ((lx150.toInt % 10)) tx154 x156 ((lx150.toInt / 10)) tx156 I157 I158 p132 w159 p131) cw_RX12_366 (jc_55 cI cL ad σ119 τ) rfl ⟨Nat.le_of_ble_eq_true rfl, Nat.le_of_ble_eq_true rfl⟩ rfl rfl rfl hl.1 rfl (Nat.le_of_ble_eq_true rfl) dX12_books_130 ⟨Nat.zero_le _, Nat.zero_le _⟩ (fun r161 σ160 τ160 H locs h160 hP hS => ?_)
                      obtain ⟨rfl, f162, f163, I164, w165, p166, h160⟩ := h160
                      obtain ⟨i167, i168, w169⟩ : (0 ≤ (σ160 55 47).toInt ∧ (σ160 55 47).toInt ≤ 12) ∧ ((σ160 55 47).toInt ≤ (σ160 55 12).toInt) ∧ (∀ k : Nat, k < 12 → 0 ≤ (σ160 80 k).toInt ∧ (σ160 80 k).toInt ≤ 3) := id I164
                      have z170 : (σ160 55 12).toInt = (σ 55 12).toInt := (congrArg Int32.toInt (show σ160 55 12 = (σ 55 12) from ((f163 12 (by decide)).trans ((f130 12 (by decide)).trans (jkp 12 eσ15 (by decide))))))
                      rcases h160 with h171 | h172
                      · obtain ⟨q175, k173, k174⟩ := h171
                        refine lv_if_le (tgt := 140) hx hb dX12_books_133 (by decide) (fun c => absurd (jle c rfl jz_0) (by omega)) (fun c176 => ?_)
                        have kc176 := jnle c176 rfl jz_0
                        refine lv_iconst (v := 1) hx hb dX12_books_136 (by decide) ?_
                        refine lv_goto (tgt := 141) hx hb dX12_books_137 (by decide) ?_
                        refine lv_istore_n (lv' := [(3, .int 1), (4, .long lx150), (0, .ref (ad 55)), (1, .int a1), (2, .int a2)]) hx hb dX12_books_141 rfl hl (by decide) rfl (fun ls hl => ?_)
                        refine lv_goto (tgt := 58) hx hb dX12_books_142 (by decide) ?_
                        have I177 : jI119 σ160 := w165
                        exact ihlp115 1 σ160 _ _ ls (by have h90 := jz_1; omega) (by have h90 := jz_1; omega) (by have h90 := jz_1; omega) (by have h90 := jz_1; omega) (by have h90 := jz_1; omega) (fun i hi => ((f162 i hi).trans (f129 i hi))) (fun i hi => ((f163 i hi).trans (f130 i hi)))  p166 I164 I177 hP hS (lv_sub hl [0, 2, 3, 4] rfl)
                      · obtain ⟨q180, k178, k179⟩ := h172
                        refine lv_if_le (tgt := 140) hx hb dX12_books_133 (by decide) (fun c181 => ?_) (fun c => absurd (jnle c rfl jz_0) (by omega))
                        have kc181 := jle c181 rfl jz_0
                        refine lv_iconst (v := 0) hx hb dX12_books_140 (by decide) ?_
                        refine lv_istore_n (lv' := [(3, .int 0), (4, .long lx150), (0, .ref (ad 55)), (1, .int a1), (2, .int a2)]) hx hb dX12_books_141 rfl hl (by decide) rfl (fun ls hl => ?_)
                        refine lv_goto (tgt := 58) hx hb dX12_books_142 (by decide) ?_
                        have I182 : jI119 σ160 := w165
                        exact ihlp115 0 σ160 _ _ ls (by have h90 := jz_0; omega) (by have h90 := jz_0; omega) (by have h90 := jz_0; omega) (by have h90 := jz_0; omega) (by have h90 := jz_0; omega) (fun i hi => ((f162 i hi).trans (f129 i hi))) (fun i hi => ((f163 i hi).trans (f130 i hi)))  p166 I164 I182 hP hS (lv_sub hl [0, 2, 3, 4] rfl)
          exact lp115 1000000 1 σ15 _ _ ls (by have h90 := jz_1; omega) (by have h90 := jz_1; omega) (by have h90 := jz_1; omega) (by have h90 := jz_1; omega) (by have h90 := jz_1; omega) (fun _ _ => rfl) (fun _ _ => rfl)  p17 I122 I123 hP hS hl
    · have kc14 := jnlt c14 rfl jz_0
      refine lv_aload_n hx hb dX12_books_18 rfl (lv_at hl 0 rfl) ?_
      refine va_get (D := D) hx hb hts inlX12 hown hK hP 55 (jc_55 cI cL ad σ τ) rfl 58 (by decide) (hts _ kw_8_11) (fun _ h9 => h9) rfl dX12_books_19 ?_
      refine lv_iload_n hx hb dX12_books_22 rfl (lv_at hl 1 rfl) ?_
      refine jald hx hb hK hP (jc_86 cI cL ad σ τ) (jin t1 (by omega) (by omega)) dX12_books_23 ?_
      have g183 := w4 _ (jnat (x := a1) t1 (n := 6) (by omega) (by decide))
      refine lv_topi (fun x184 ex184 => ?_)
      rw [← ex184] at g183
      refine lv_bipush (v := 20) hx hb dX12_books_24 (by decide) ?_
      refine lv_icmp_eq (tgt := 32) hx hb dX12_books_26 (by decide) (fun c185 => ?_) (fun c185 => ?_)
      · have kc185 := jeq c185 rfl jz_20
        refine lv_aload_n hx hb dX12_books_32 rfl (lv_at hl 0 rfl) ?_
        refine lv_iconst (v := 0) hx hb dX12_books_33 (by decide) ?_
        refine jput (ty := .int) hx hb hts inlX12 tyX12 tyX12_ok nmX12 hown hK hP hJ hA hS (jc_55 cI cL ad σ τ) rfl (k := 47) (by decide) (Nat.le_of_ble_eq_true rfl) (jp_55_47 cI cL ad σ τ 0) (hts _ kw_15_15) (fun _ h9 => h9) rfl (by decide +kernel) rfl rfl dX12_books_34 (fun σ186 H locs eσ186 hP hS => ?_)
        have z187 : (σ186 55 47).toInt = 0 := ((congrArg Int32.toInt (show σ186 55 47 = 0 from (jsp eσ186))).trans jz_0)
        have p188 : jBook σ186 := jBook.nil (by omega)
        refine lv_aload_n hx hb dX12_books_37 rfl (lv_at hl 0 rfl) ?_
        refine va_get (D := D) hx hb hts inlX12 hown hK hP 55 (jc_55 cI cL ad σ186 τ) rfl 58 (by decide) (hts _ kw_8_11) (fun _ h9 => h9) rfl dX12_books_38 ?_
        refine lv_iload_n hx hb dX12_books_41 rfl (lv_at hl 1 rfl) ?_
        refine jald hx hb hK hP (jc_86 cI cL ad σ186 τ) (jin t1 (by omega) (by omega)) dX12_books_42 ?_
        have w189 : ∀ k : Nat, k < 6 → (-1) ≤ (σ186 86 k).toInt ∧ (σ186 86 k).toInt ≤ 24 := (jrr_fr (jnp 86 eσ186 (by decide)) w4)
        have g190 := w189 _ (jnat (x := a1) t1 (n := 6) (by omega) (by decide))
        refine lv_topi (fun x191 ex191 => ?_)
        rw [← ex191] at g190
        refine lv_bipush (v := 20) hx hb dX12_books_43 (by decide) ?_
        refine lv_icmp_ne (tgt := 56) hx hb dX12_books_45 (by decide) (fun c192 => ?_) (fun c192 => ?_)
        · have kc192 := jne c192 rfl jz_20
          refine lv_iconst (v := 0) hx hb dX12_books_56 (by decide) ?_
          refine lv_istore_n (lv' := [(3, .int 0), (0, .ref (ad 55)), (1, .int a1), (2, .int a2)]) hx hb dX12_books_57 rfl hl (by decide) rfl (fun ls hl => ?_)
          have z198 : (σ186 55 12).toInt = (σ 55 12).toInt := (congrArg Int32.toInt (show σ186 55 12 = (σ 55 12) from (jkp 12 eσ186 (by decide))))
          have w199 : ∀ k : Nat, k < 12 → 0 ≤ (σ186 80 k).toInt ∧ (σ186 80 k).toInt ≤ 3 := (jrr_fr (jnp 80 eσ186 (by decide)) w3)
          have I200 : jI107 σ186 := ⟨(by omega), (by omega), w199⟩
          have I201 : jI119 σ186 := jI119_fr (jnp 68 eσ186 (by decide)) hI119
          have lp193 : ∀ (n194 : Nat) (x195 : Int32) (σ197 : Nat → Nat → Int32) (H : Heap) (locs : List Loc) (ls : Array Slot), (-(2 * (σ197 55 47).toInt) + x195.toInt + 26 : Int) < n194 → 0 ≤ x195.toInt → x195.toInt ≤ 1 → ((x195.toInt = 0) ∨ (0 ≤ A2)) → (σ197 55 47).toInt ≤ 12 → (∀ i : Nat, (i < 55 ∨ 55 < i) ∧ (i < 68 ∨ 69 < i) ∧ (i < 80 ∨ 81 < i) → σ197 i = σ186 i) → (∀ k : Nat, (k < 25 ∨ 25 < k) ∧ (k < 26 ∨ 26 < k) ∧ (k < 27 ∨ 27 < k) ∧ (k < 47 ∨ 47 < k) → σ197 55 k = σ186 55 k) → jBook σ197 → jI107 σ197 → jI119 σ197 → jH D cI cL ad σ197 τ H → va_S (jA ad) s.heap H locs → lv_has ls 6 [(3, .int x195), (0, .ref (ad 55)), (1, .int a1), (2, .int a2)] → W p l e ({ frames := 4, cells := 0, slots := 0, locals := 85 }) s m args below meth c H locs 0 0 Q (F0 m 58 ls []) := by
            intro n194
            induction n194 with
            | zero => intro x195 σ197 H locs ls h202 h203 h204 h205 h206; exact absurd h202 (by omega)
            | succ n194 ihlp193 =>
              intro x195 σ197 H locs ls h202 h203 h204 h205 h206 f207 f208 p209 p210 p211 hP hS hl
              obtain ⟨i212, i213, w214⟩ : (0 ≤ (σ197 55 47).toInt ∧ (σ197 55 47).toInt ≤ 12) ∧ ((σ197 55 47).toInt ≤ (σ197 55 12).toInt) ∧ (∀ k : Nat, k < 12 → 0 ≤ (σ197 80 k).toInt ∧ (σ197 80 k).toInt ≤ 3) := id p210
              have z215 : (σ197 55 12).toInt = (σ 55 12).toInt := (congrArg Int32.toInt (show σ197 55 12 = (σ 55 12) from ((f208 12 (by decide)).trans (jkp 12 eσ186 (by decide)))))
              refine lv_iload_n hx hb dX12_books_58 rfl (lv_at hl 0 rfl) ?_
              refine lv_if_eq (tgt := 145) hx hb dX12_books_59 (by decide) (fun c216 => ?_) (fun c216 => ?_)
              · have kc216 := jeq c216 rfl jz_0
                refine lv_aload_n hx hb dX12_books_145 rfl (lv_at hl 1 rfl) ?_
                refine va_get (D := D) hx hb hts inlX12 hown hK hP 55 (jc_55 cI cL ad σ197 τ) rfl 47 (by decide) (hts _ kw_15_15) (fun _ h9 => h9) rfl dX12_books_146 ?_
                exact hret (σ197 55 47) σ197 τ _ _ _ _ rfl ⟨rfl, (fun i hi => ((f207 i hi).trans (jnp i eσ186 (imp_214 i hi)))), (fun i hi => ((f208 i hi).trans (jkp i eσ186 (imp_217 i hi)))), p210, p211, p209, trivial⟩ hP hS dX12_books_149
              · have kc216 := jne c216 rfl jz_0
                refine lv_iload_n hx hb dX12_books_62 rfl (lv_at hl 3 rfl) ?_
                refine lv_aload_n hx hb dX12_books_63 rfl (lv_at hl 1 rfl) ?_
                refine va_get (D := D) hx hb hts inlX12 hown hK hP 55 (jc_55 cI cL ad σ197 τ) rfl 59 (by decide) (hts _ kw_8_12) (fun _ h9 => h9) rfl dX12_books_64 ?_
                refine lv_iload_n hx hb dX12_books_67 rfl (lv_at hl 2 rfl) ?_
                refine jald hx hb hK hP (jc_87 cI cL ad σ197 τ) (jin t1 (by omega) (by omega)) dX12_books_68 ?_
                have w217 : ∀ k : Nat, k < 6 → 0 ≤ (σ197 87 k).toInt ∧ (σ197 87 k).toInt ≤ 60 := (jrr_fr (f207 87 (by decide)) (jrr_fr (jnp 87 eσ186 (by decide)) w5))
                have g218 := w217 _ (jnat (x := a1) t1 (n := 6) (by omega) (by decide))
                refine lv_topi (fun x219 ex219 => ?_)
                rw [← ex219] at g218
                refine lv_aload_n hx hb dX12_books_69 rfl (lv_at hl 1 rfl) ?_
                refine va_get (D := D) hx hb hts inlX12 hown hK hP 55 (jc_55 cI cL ad σ197 τ) rfl 47 (by decide) (hts _ kw_15_15) (fun _ h9 => h9) rfl dX12_books_70 ?_
                have g220 := jrg (rfl : x219.toInt = x219.toInt)
                have g221 := jrg (rfl : (σ197 55 47).toInt = (σ197 55 47).toInt)
                refine lv_isub hx hb dX12_books_73 ?_
                refine lv_topi (fun x222 ex222 => ?_)
                have tx222 : x222.toInt = x219.toInt - (σ197 55 47).toInt := (jsub ex222 rfl rfl (by omega) (by omega)).trans (by omega)
                refine lv_icmp_ge (tgt := 96) hx hb dX12_books_74 (by decide) (fun c223 => ?_) (fun c223 => ?_)
                · have kc223 := jle c223 tx222 t2
                  refine lv_ldc2 (v := (-1)) hx hb hown (hts _ kw_43_16) dX12_books_96 ?_
                  refine lv_lstore (lv' := [(4, .long (-1)), (3, .int x195), (0, .ref (ad 55)), (1, .int a1), (2, .int a2)]) hx hb dX12_books_99 hl (by decide) rfl (fun ls hl => ?_)
                  refine lv_lload hx hb dX12_books_101 (lv_at hl 0 rfl) ?_
                  refine lv_lconst (v := 0) hx hb dX12_books_103 (by decide) ?_
                  refine W.lcmp hx hb dX12_books_104 ?_
                  refine lv_if_lt (tgt := 140) hx hb dX12_books_105 (by decide) (fun c224 => ?_) (fun c => absurd (jcnlt c jzl_m1 jzl_0) (by omega))
                  have kc224 := jclt c224 jzl_m1 jzl_0
                  refine lv_iconst (v := 0) hx hb dX12_books_140 (by decide) ?_
                  refine lv_istore_n (lv' := [(3, .int 0), (4, .long (-1)), (0, .ref (ad 55)), (1, .int a1), (2, .int a2)]) hx hb dX12_books_141 rfl hl (by decide) rfl (fun ls hl => ?_)
                  refine lv_goto (tgt := 58) hx hb dX12_books_142 (by decide) ?_
                  exact ihlp193 0 σ197 _ _ ls (by have h90 := jz_0; omega) (by have h90 := jz_0; omega) (by have h90 := jz_0; omega) (by have h90 := jz_0; omega) (by have h90 := jz_0; omega) (fun i hi => (f207 i hi)) (fun i hi => (f208 i hi))  p209 p210 p211 hP hS (lv_sub hl [0, 2, 3, 4] rfl)
                · have kc223 := jnle c223 tx222 t2
                  refine lv_aload_n hx hb dX12_books_77 rfl (lv_at hl 1 rfl) ?_
                  refine va_get (D := D) hx hb hts inlX12 hown hK hP 55 (jc_55 cI cL ad σ197 τ) rfl 60 (by decide) (hts _ kw_8_13) (fun _ h9 => h9) rfl dX12_books_78 ?_
                  refine lv_bipush (v := 60) hx hb dX12_books_81 (by decide) ?_
                  refine lv_iload_n hx hb dX12_books_83 rfl (lv_at hl 2 rfl) ?_
                  refine lv_imul hx hb dX12_books_84 ?_
                  refine lv_topi (fun x225 ex225 => ?_)
                  have tx225 : x225.toInt = 60 * A1 := (jmul ex225 jz_60 t1 (by omega) (by omega)).trans (by omega)
                  refine lv_iload_n hx hb dX12_books_85 rfl (lv_at hl 3 rfl) ?_
                  refine lv_iadd hx hb dX12_books_86 ?_
                  refine lv_topi (fun x226 ex226 => ?_)
                  have tx226 : x226.toInt = 60 * A1 + A2 := (jadd ex226 tx225 t2 (by omega) (by omega)).trans (by omega)
                  refine lv_aload_n hx hb dX12_books_87 rfl (lv_at hl 1 rfl) ?_
                  refine va_get (D := D) hx hb hts inlX12 hown hK hP 55 (jc_55 cI cL ad σ197 τ) rfl 47 (by decide) (hts _ kw_15_15) (fun _ h9 => h9) rfl dX12_books_88 ?_
                  refine lv_iadd hx hb dX12_books_91 ?_
                  refine lv_topi (fun x227 ex227 => ?_)
                  have tx227 : x227.toInt = 60 * A1 + A2 + (σ197 55 47).toInt := (jadd ex227 tx226 rfl (by omega) (by omega)).trans (by omega)
                  refine jaldL hx hb hK hP (jc_88 cI cL ad σ197 τ) (jin tx227 (by omega) (by omega)) dX12_books_92 ?_
                  refine lv_topl (fun lx228 elx228 => ?_)
                  refine lv_goto (tgt := 99) hx hb dX12_books_93 (by decide) ?_
                  refine lv_lstore (lv' := [(4, .long lx228), (3, .int x195), (0, .ref (ad 55)), (1, .int a1), (2, .int a2)]) hx hb dX12_books_99 hl (by decide) rfl (fun ls hl => ?_)
                  refine lv_lload hx hb dX12_books_101 (lv_at hl 0 rfl) ?_
                  refine lv_lconst (v := 0) hx hb dX12_books_103 (by decide) ?_
                  refine W.lcmp hx hb dX12_books_104 ?_
                  refine lv_if_lt (tgt := 140) hx hb dX12_books_105 (by decide) (fun c229 => ?_) (fun c229 => ?_)
                  · have kc229 := jclt c229 rfl jzl_0
                    refine lv_iconst (v := 0) hx hb dX12_books_140 (by decide) ?_
                    refine lv_istore_n (lv' := [(3, .int 0), (4, .long lx228), (0, .ref (ad 55)), (1, .int a1), (2, .int a2)]) hx hb dX12_books_141 rfl hl (by decide) rfl (fun ls hl => ?_)
                    refine lv_goto (tgt := 58) hx hb dX12_books_142 (by decide) ?_
                    exact ihlp193 0 σ197 _ _ ls (by have h90 := jz_0; omega) (by have h90 := jz_0; omega) (by have h90 := jz_0; omega) (by have h90 := jz_0; omega) (by have h90 := jz_0; omega) (fun i hi => (f207 i hi)) (fun i hi => (f208 i hi))  p209 p210 p211 hP hS (lv_sub hl [0, 2, 3, 4] rfl)
                  · have kc229 := jcnlt c229 rfl jzl_0
                    refine lv_lload hx hb dX12_books_108 (lv_at hl 0 rfl) ?_
                    refine lv_ldc2 (v := 20) hx hb hown (hts _ kw_9_12) dX12_books_110 ?_
                    refine W.lcmp hx hb dX12_books_113 ?_
                    refine lv_if_ge (tgt := 140) hx hb dX12_books_114 (by decide) (fun c230 => ?_) (fun c230 => ?_)
                    · have kc230 := jcge c230 rfl jzl_20
                      refine lv_iconst (v := 0) hx hb dX12_books_140 (by decide) ?_
                      refine lv_istore_n (lv' := [(3, .int 0), (4, .long lx228), (0, .ref (ad 55)), (1, .int a1), (2, .int a2)]) hx hb dX12_books_141 rfl hl (by decide) rfl (fun ls hl => ?_)
                      refine lv_goto (tgt := 58) hx hb dX12_books_142 (by decide) ?_
                      exact ihlp193 0 σ197 _ _ ls (by have h90 := jz_0; omega) (by have h90 := jz_0; omega) (by have h90 := jz_0; omega) (by have h90 := jz_0; omega) (by have h90 := jz_0; omega) (fun i hi => (f207 i hi)) (fun i hi => (f208 i hi))  p209 p210 p211 hP hS (lv_sub hl [0, 2, 3, 4] rfl)
                    · have kc230 := jcnge c230 rfl jzl_20
                      refine lv_aload_n hx hb dX12_books_117 rfl (lv_at hl 2 rfl) ?_
                      refine lv_lload hx hb dX12_books_118 (lv_at hl 0 rfl) ?_
                      refine lv_l2i hx hb dX12_books_120 rfl ?_
                      refine lv_topi (fun x231 ex231 => ?_)
                      have tx231 : x231.toInt = lx228.toInt := jtoI ex231 rfl (by omega) (by omega)
                      refine lv_bipush (v := 10) hx hb dX12_books_121 (by decide) ?_
                      refine lv_irem hx hb dX12_books_123 (by decide) ?_
                      refine lv_topi (fun x232 ex232 => ?_)
                      have tx232 : x232.toInt = (lx228.toInt % 10) := jrem ex232 tx231 jz_10 (by omega)
                      refine lv_lload hx hb dX12_books_124 (lv_at hl 0 rfl) ?_
                      refine lv_l2i hx hb dX12_books_126 rfl ?_
                      refine lv_topi (fun x233 ex233 => ?_)
                      have tx233 : x233.toInt = lx228.toInt := jtoI ex233 rfl (by omega) (by omega)
                      refine lv_bipush (v := 10) hx hb dX12_books_127 (by decide) ?_
                      refine lv_idiv hx hb dX12_books_129 (by decide) ?_
                      refine lv_topi (fun x234 ex234 => ?_)
                      have tx234 : x234.toInt = (lx228.toInt / 10) := jdiv ex234 tx233 jz_10 (by omega) (by omega)
                      have I235 : jI102 σ197 := jI102_fr ((f208 6 (by decide)).trans (jkp 6 eσ186 (by decide))) ((f207 60 (by decide)).trans (jnp 60 eσ186 (by decide))) ((f207 61 (by decide)).trans (jnp 61 eσ186 (by decide))) hI102
                      have I236 : jI104 σ197 := jI104_fr ((f208 10 (by decide)).trans (jkp 10 eσ186 (by decide))) ((f208 12 (by decide)).trans (jkp 12 eσ186 (by decide))) ((f208 13 (by decide)).trans (jkp 13 eσ186 (by decide))) ((f207 62 (by decide)).trans (jnp 62 eσ186 (by decide))) ((f207 67 (by decide)).trans (jnp 67 eσ186 (by decide))) hI104
                      have w237 : ∀ k : Nat, k < 4 → 0 ≤ (σ197 68 k).toInt ∧ (σ197 68 k).toInt ≤ 3 := p211
                      refine jcallV (As := [.int x232, .int x234]) (rest := []) ⟨hx, hb, hml, hown, hts⟩ hK hP hA hS hZ (c_X12_book l D cI cL ad zz hJ σ197 τ x232 ((lx228.toInt % 10)) tx232 x234 ((lx228.toInt / 10)) tx234 I235 I236 p210 w237 p209) cw_RX12_366 (jc_55 cI cL ad σ197 τ) rfl ⟨Nat.le_of_ble_eq_true rfl, Nat.le_of_ble_eq_true rfl⟩ rfl rfl rfl hl.1 rfl (Nat.le_of_ble_eq_true rfl) dX12_books_130 ⟨Nat.zero_le _, Nat.zero_le _⟩ (fun r239 σ238 τ238 H locs h238 hP hS => ?_)
                      obtain ⟨rfl, f240, f241, I242, w243, p244, h238⟩ := h238
                      obtain ⟨i245, i246, w247⟩ : (0 ≤ (σ238 55 47).toInt ∧ (σ238 55 47).toInt ≤ 12) ∧ ((σ238 55 47).toInt ≤ (σ238 55 12).toInt) ∧ (∀ k : Nat, k < 12 → 0 ≤ (σ238 80 k).toInt ∧ (σ238 80 k).toInt ≤ 3) := id I242
                      have z248 : (σ238 55 12).toInt = (σ 55 12).toInt := (congrArg Int32.toInt (show σ238 55 12 = (σ 55 12) from ((f241 12 (by decide)).trans ((f208 12 (by decide)).trans (jkp 12 eσ186 (by decide))))))
                      rcases h238 with h249 | h250
                      · obtain ⟨q253, k251, k252⟩ := h249
                        refine lv_if_le (tgt := 140) hx hb dX12_books_133 (by decide) (fun c => absurd (jle c rfl jz_0) (by omega)) (fun c254 => ?_)
                        have kc254 := jnle c254 rfl jz_0
                        refine lv_iconst (v := 1) hx hb dX12_books_136 (by decide) ?_
                        refine lv_goto (tgt := 141) hx hb dX12_books_137 (by decide) ?_
                        refine lv_istore_n (lv' := [(3, .int 1), (4, .long lx228), (0, .ref (ad 55)), (1, .int a1), (2, .int a2)]) hx hb dX12_books_141 rfl hl (by decide) rfl (fun ls hl => ?_)
                        refine lv_goto (tgt := 58) hx hb dX12_books_142 (by decide) ?_
                        have I255 : jI119 σ238 := w243
                        exact ihlp193 1 σ238 _ _ ls (by have h90 := jz_1; omega) (by have h90 := jz_1; omega) (by have h90 := jz_1; omega) (by have h90 := jz_1; omega) (by have h90 := jz_1; omega) (fun i hi => ((f240 i hi).trans (f207 i hi))) (fun i hi => ((f241 i hi).trans (f208 i hi)))  p244 I242 I255 hP hS (lv_sub hl [0, 2, 3, 4] rfl)
                      · obtain ⟨q258, k256, k257⟩ := h250
                        refine lv_if_le (tgt := 140) hx hb dX12_books_133 (by decide) (fun c259 => ?_) (fun c => absurd (jnle c rfl jz_0) (by omega))
                        have kc259 := jle c259 rfl jz_0
                        refine lv_iconst (v := 0) hx hb dX12_books_140 (by decide) ?_
                        refine lv_istore_n (lv' := [(3, .int 0), (4, .long lx228), (0, .ref (ad 55)), (1, .int a1), (2, .int a2)]) hx hb dX12_books_141 rfl hl (by decide) rfl (fun ls hl => ?_)
                        refine lv_goto (tgt := 58) hx hb dX12_books_142 (by decide) ?_
                        have I260 : jI119 σ238 := w243
                        exact ihlp193 0 σ238 _ _ ls (by have h90 := jz_0; omega) (by have h90 := jz_0; omega) (by have h90 := jz_0; omega) (by have h90 := jz_0; omega) (by have h90 := jz_0; omega) (fun i hi => ((f240 i hi).trans (f207 i hi))) (fun i hi => ((f241 i hi).trans (f208 i hi)))  p244 I242 I260 hP hS (lv_sub hl [0, 2, 3, 4] rfl)
          exact lp193 1000000 0 σ186 _ _ ls (by have h90 := jz_0; omega) (by have h90 := jz_0; omega) (by have h90 := jz_0; omega) (by have h90 := jz_0; omega) (by have h90 := jz_0; omega) (fun _ _ => rfl) (fun _ _ => rfl)  p188 I200 I201 hP hS hl
        · have kc192 := jeq c192 rfl jz_20
          refine lv_iload_n hx hb dX12_books_48 rfl (lv_at hl 2 rfl) ?_
          refine lv_if_lt (tgt := 56) hx hb dX12_books_49 (by decide) (fun c261 => ?_) (fun c261 => ?_)
          · have kc261 := jlt c261 t2 jz_0
            refine lv_iconst (v := 0) hx hb dX12_books_56 (by decide) ?_
            refine lv_istore_n (lv' := [(3, .int 0), (0, .ref (ad 55)), (1, .int a1), (2, .int a2)]) hx hb dX12_books_57 rfl hl (by decide) rfl (fun ls hl => ?_)
            have z267 : (σ186 55 12).toInt = (σ 55 12).toInt := (congrArg Int32.toInt (show σ186 55 12 = (σ 55 12) from (jkp 12 eσ186 (by decide))))
            have w268 : ∀ k : Nat, k < 12 → 0 ≤ (σ186 80 k).toInt ∧ (σ186 80 k).toInt ≤ 3 := (jrr_fr (jnp 80 eσ186 (by decide)) w3)
            have I269 : jI107 σ186 := ⟨(by omega), (by omega), w268⟩
            have I270 : jI119 σ186 := jI119_fr (jnp 68 eσ186 (by decide)) hI119
            have lp262 : ∀ (n263 : Nat) (x264 : Int32) (σ266 : Nat → Nat → Int32) (H : Heap) (locs : List Loc) (ls : Array Slot), (-(2 * (σ266 55 47).toInt) + x264.toInt + 26 : Int) < n263 → 0 ≤ x264.toInt → x264.toInt ≤ 1 → ((x264.toInt = 0) ∨ (0 ≤ A2)) → (σ266 55 47).toInt ≤ 12 → (∀ i : Nat, (i < 55 ∨ 55 < i) ∧ (i < 68 ∨ 69 < i) ∧ (i < 80 ∨ 81 < i) → σ266 i = σ186 i) → (∀ k : Nat, (k < 25 ∨ 25 < k) ∧ (k < 26 ∨ 26 < k) ∧ (k < 27 ∨ 27 < k) ∧ (k < 47 ∨ 47 < k) → σ266 55 k = σ186 55 k) → jBook σ266 → jI107 σ266 → jI119 σ266 → jH D cI cL ad σ266 τ H → va_S (jA ad) s.heap H locs → lv_has ls 6 [(3, .int x264), (0, .ref (ad 55)), (1, .int a1), (2, .int a2)] → W p l e ({ frames := 4, cells := 0, slots := 0, locals := 85 }) s m args below meth c H locs 0 0 Q (F0 m 58 ls []) := by
              intro n263
              induction n263 with
              | zero => intro x264 σ266 H locs ls h271 h272 h273 h274 h275; exact absurd h271 (by omega)
              | succ n263 ihlp262 =>
                intro x264 σ266 H locs ls h271 h272 h273 h274 h275 f276 f277 p278 p279 p280 hP hS hl
                obtain ⟨i281, i282, w283⟩ : (0 ≤ (σ266 55 47).toInt ∧ (σ266 55 47).toInt ≤ 12) ∧ ((σ266 55 47).toInt ≤ (σ266 55 12).toInt) ∧ (∀ k : Nat, k < 12 → 0 ≤ (σ266 80 k).toInt ∧ (σ266 80 k).toInt ≤ 3) := id p279
                have z284 : (σ266 55 12).toInt = (σ 55 12).toInt := (congrArg Int32.toInt (show σ266 55 12 = (σ 55 12) from ((f277 12 (by decide)).trans (jkp 12 eσ186 (by decide)))))
                refine lv_iload_n hx hb dX12_books_58 rfl (lv_at hl 0 rfl) ?_
                refine lv_if_eq (tgt := 145) hx hb dX12_books_59 (by decide) (fun c285 => ?_) (fun c => absurd (jne c rfl jz_0) (by omega))
                have kc285 := jeq c285 rfl jz_0
                refine lv_aload_n hx hb dX12_books_145 rfl (lv_at hl 1 rfl) ?_
                refine va_get (D := D) hx hb hts inlX12 hown hK hP 55 (jc_55 cI cL ad σ266 τ) rfl 47 (by decide) (hts _ kw_15_15) (fun _ h9 => h9) rfl dX12_books_146 ?_
                exact hret (σ266 55 47) σ266 τ _ _ _ _ rfl ⟨rfl, (fun i hi => ((f276 i hi).trans (jnp i eσ186 (imp_214 i hi)))), (fun i hi => ((f277 i hi).trans (jkp i eσ186 (imp_217 i hi)))), p279, p280, p278, trivial⟩ hP hS dX12_books_149
            exact lp262 1000000 0 σ186 _ _ ls (by have h90 := jz_0; omega) (by have h90 := jz_0; omega) (by have h90 := jz_0; omega) (by have h90 := jz_0; omega) (by have h90 := jz_0; omega) (fun _ _ => rfl) (fun _ _ => rfl)  p188 I269 I270 hP hS hl
          · have kc261 := jnlt c261 t2 jz_0
            refine lv_iconst (v := 1) hx hb dX12_books_52 (by decide) ?_
            refine lv_goto (tgt := 57) hx hb dX12_books_53 (by decide) ?_
            refine lv_istore_n (lv' := [(3, .int 1), (0, .ref (ad 55)), (1, .int a1), (2, .int a2)]) hx hb dX12_books_57 rfl hl (by decide) rfl (fun ls hl => ?_)
            have z291 : (σ186 55 12).toInt = (σ 55 12).toInt := (congrArg Int32.toInt (show σ186 55 12 = (σ 55 12) from (jkp 12 eσ186 (by decide))))
            have w292 : ∀ k : Nat, k < 12 → 0 ≤ (σ186 80 k).toInt ∧ (σ186 80 k).toInt ≤ 3 := (jrr_fr (jnp 80 eσ186 (by decide)) w3)
            have I293 : jI107 σ186 := ⟨(by omega), (by omega), w292⟩
            have I294 : jI119 σ186 := jI119_fr (jnp 68 eσ186 (by decide)) hI119
            have lp286 : ∀ (n287 : Nat) (x288 : Int32) (σ290 : Nat → Nat → Int32) (H : Heap) (locs : List Loc) (ls : Array Slot), (-(2 * (σ290 55 47).toInt) + x288.toInt + 26 : Int) < n287 → 0 ≤ x288.toInt → x288.toInt ≤ 1 → ((x288.toInt = 0) ∨ (0 ≤ A2)) → (σ290 55 47).toInt ≤ 12 → (∀ i : Nat, (i < 55 ∨ 55 < i) ∧ (i < 68 ∨ 69 < i) ∧ (i < 80 ∨ 81 < i) → σ290 i = σ186 i) → (∀ k : Nat, (k < 25 ∨ 25 < k) ∧ (k < 26 ∨ 26 < k) ∧ (k < 27 ∨ 27 < k) ∧ (k < 47 ∨ 47 < k) → σ290 55 k = σ186 55 k) → jBook σ290 → jI107 σ290 → jI119 σ290 → jH D cI cL ad σ290 τ H → va_S (jA ad) s.heap H locs → lv_has ls 6 [(3, .int x288), (0, .ref (ad 55)), (1, .int a1), (2, .int a2)] → W p l e ({ frames := 4, cells := 0, slots := 0, locals := 85 }) s m args below meth c H locs 0 0 Q (F0 m 58 ls []) := by
              intro n287
              induction n287 with
              | zero => intro x288 σ290 H locs ls h295 h296 h297 h298 h299; exact absurd h295 (by omega)
              | succ n287 ihlp286 =>
                intro x288 σ290 H locs ls h295 h296 h297 h298 h299 f300 f301 p302 p303 p304 hP hS hl
                obtain ⟨i305, i306, w307⟩ : (0 ≤ (σ290 55 47).toInt ∧ (σ290 55 47).toInt ≤ 12) ∧ ((σ290 55 47).toInt ≤ (σ290 55 12).toInt) ∧ (∀ k : Nat, k < 12 → 0 ≤ (σ290 80 k).toInt ∧ (σ290 80 k).toInt ≤ 3) := id p303
                have z308 : (σ290 55 12).toInt = (σ 55 12).toInt := (congrArg Int32.toInt (show σ290 55 12 = (σ 55 12) from ((f301 12 (by decide)).trans (jkp 12 eσ186 (by decide)))))
                refine lv_iload_n hx hb dX12_books_58 rfl (lv_at hl 0 rfl) ?_
                refine lv_if_eq (tgt := 145) hx hb dX12_books_59 (by decide) (fun c309 => ?_) (fun c309 => ?_)
                · have kc309 := jeq c309 rfl jz_0
                  refine lv_aload_n hx hb dX12_books_145 rfl (lv_at hl 1 rfl) ?_
                  refine va_get (D := D) hx hb hts inlX12 hown hK hP 55 (jc_55 cI cL ad σ290 τ) rfl 47 (by decide) (hts _ kw_15_15) (fun _ h9 => h9) rfl dX12_books_146 ?_
                  exact hret (σ290 55 47) σ290 τ _ _ _ _ rfl ⟨rfl, (fun i hi => ((f300 i hi).trans (jnp i eσ186 (imp_214 i hi)))), (fun i hi => ((f301 i hi).trans (jkp i eσ186 (imp_217 i hi)))), p303, p304, p302, trivial⟩ hP hS dX12_books_149
                · have kc309 := jne c309 rfl jz_0
                  refine lv_iload_n hx hb dX12_books_62 rfl (lv_at hl 3 rfl) ?_
                  refine lv_aload_n hx hb dX12_books_63 rfl (lv_at hl 1 rfl) ?_
                  refine va_get (D := D) hx hb hts inlX12 hown hK hP 55 (jc_55 cI cL ad σ290 τ) rfl 59 (by decide) (hts _ kw_8_12) (fun _ h9 => h9) rfl dX12_books_64 ?_
                  refine lv_iload_n hx hb dX12_books_67 rfl (lv_at hl 2 rfl) ?_
                  refine jald hx hb hK hP (jc_87 cI cL ad σ290 τ) (jin t1 (by omega) (by omega)) dX12_books_68 ?_
                  have w310 : ∀ k : Nat, k < 6 → 0 ≤ (σ290 87 k).toInt ∧ (σ290 87 k).toInt ≤ 60 := (jrr_fr (f300 87 (by decide)) (jrr_fr (jnp 87 eσ186 (by decide)) w5))
                  have g311 := w310 _ (jnat (x := a1) t1 (n := 6) (by omega) (by decide))
                  refine lv_topi (fun x312 ex312 => ?_)
                  rw [← ex312] at g311
                  refine lv_aload_n hx hb dX12_books_69 rfl (lv_at hl 1 rfl) ?_
                  refine va_get (D := D) hx hb hts inlX12 hown hK hP 55 (jc_55 cI cL ad σ290 τ) rfl 47 (by decide) (hts _ kw_15_15) (fun _ h9 => h9) rfl dX12_books_70 ?_
                  have g313 := jrg (rfl : x312.toInt = x312.toInt)
                  have g314 := jrg (rfl : (σ290 55 47).toInt = (σ290 55 47).toInt)
                  refine lv_isub hx hb dX12_books_73 ?_
                  refine lv_topi (fun x315 ex315 => ?_)
                  have tx315 : x315.toInt = x312.toInt - (σ290 55 47).toInt := (jsub ex315 rfl rfl (by omega) (by omega)).trans (by omega)
                  refine lv_icmp_ge (tgt := 96) hx hb dX12_books_74 (by decide) (fun c316 => ?_) (fun c316 => ?_)
                  · have kc316 := jle c316 tx315 t2
                    refine lv_ldc2 (v := (-1)) hx hb hown (hts _ kw_43_16) dX12_books_96 ?_
                    refine lv_lstore (lv' := [(4, .long (-1)), (3, .int x288), (0, .ref (ad 55)), (1, .int a1), (2, .int a2)]) hx hb dX12_books_99 hl (by decide) rfl (fun ls hl => ?_)
                    refine lv_lload hx hb dX12_books_101 (lv_at hl 0 rfl) ?_
                    refine lv_lconst (v := 0) hx hb dX12_books_103 (by decide) ?_
                    refine W.lcmp hx hb dX12_books_104 ?_
                    refine lv_if_lt (tgt := 140) hx hb dX12_books_105 (by decide) (fun c317 => ?_) (fun c => absurd (jcnlt c jzl_m1 jzl_0) (by omega))
                    have kc317 := jclt c317 jzl_m1 jzl_0
                    refine lv_iconst (v := 0) hx hb dX12_books_140 (by decide) ?_
                    refine lv_istore_n (lv' := [(3, .int 0), (4, .long (-1)), (0, .ref (ad 55)), (1, .int a1), (2, .int a2)]) hx hb dX12_books_141 rfl hl (by decide) rfl (fun ls hl => ?_)
                    refine lv_goto (tgt := 58) hx hb dX12_books_142 (by decide) ?_
                    exact ihlp286 0 σ290 _ _ ls (by have h90 := jz_0; omega) (by have h90 := jz_0; omega) (by have h90 := jz_0; omega) (by have h90 := jz_0; omega) (by have h90 := jz_0; omega) (fun i hi => (f300 i hi)) (fun i hi => (f301 i hi))  p302 p303 p304 hP hS (lv_sub hl [0, 2, 3, 4] rfl)
                  · have kc316 := jnle c316 tx315 t2
                    refine lv_aload_n hx hb dX12_books_77 rfl (lv_at hl 1 rfl) ?_
                    refine va_get (D := D) hx hb hts inlX12 hown hK hP 55 (jc_55 cI cL ad σ290 τ) rfl 60 (by decide) (hts _ kw_8_13) (fun _ h9 => h9) rfl dX12_books_78 ?_
                    refine lv_bipush (v := 60) hx hb dX12_books_81 (by decide) ?_
                    refine lv_iload_n hx hb dX12_books_83 rfl (lv_at hl 2 rfl) ?_
                    refine lv_imul hx hb dX12_books_84 ?_
                    refine lv_topi (fun x318 ex318 => ?_)
                    have tx318 : x318.toInt = 60 * A1 := (jmul ex318 jz_60 t1 (by omega) (by omega)).trans (by omega)
                    refine lv_iload_n hx hb dX12_books_85 rfl (lv_at hl 3 rfl) ?_
                    refine lv_iadd hx hb dX12_books_86 ?_
                    refine lv_topi (fun x319 ex319 => ?_)
                    have tx319 : x319.toInt = 60 * A1 + A2 := (jadd ex319 tx318 t2 (by omega) (by omega)).trans (by omega)
                    refine lv_aload_n hx hb dX12_books_87 rfl (lv_at hl 1 rfl) ?_
                    refine va_get (D := D) hx hb hts inlX12 hown hK hP 55 (jc_55 cI cL ad σ290 τ) rfl 47 (by decide) (hts _ kw_15_15) (fun _ h9 => h9) rfl dX12_books_88 ?_
                    refine lv_iadd hx hb dX12_books_91 ?_
                    refine lv_topi (fun x320 ex320 => ?_)
                    have tx320 : x320.toInt = 60 * A1 + A2 + (σ290 55 47).toInt := (jadd ex320 tx319 rfl (by omega) (by omega)).trans (by omega)
                    refine jaldL hx hb hK hP (jc_88 cI cL ad σ290 τ) (jin tx320 (by omega) (by omega)) dX12_books_92 ?_
                    refine lv_topl (fun lx321 elx321 => ?_)
                    refine lv_goto (tgt := 99) hx hb dX12_books_93 (by decide) ?_
                    refine lv_lstore (lv' := [(4, .long lx321), (3, .int x288), (0, .ref (ad 55)), (1, .int a1), (2, .int a2)]) hx hb dX12_books_99 hl (by decide) rfl (fun ls hl => ?_)
                    refine lv_lload hx hb dX12_books_101 (lv_at hl 0 rfl) ?_
                    refine lv_lconst (v := 0) hx hb dX12_books_103 (by decide) ?_
                    refine W.lcmp hx hb dX12_books_104 ?_
                    refine lv_if_lt (tgt := 140) hx hb dX12_books_105 (by decide) (fun c322 => ?_) (fun c322 => ?_)
                    · have kc322 := jclt c322 rfl jzl_0
                      refine lv_iconst (v := 0) hx hb dX12_books_140 (by decide) ?_
                      refine lv_istore_n (lv' := [(3, .int 0), (4, .long lx321), (0, .ref (ad 55)), (1, .int a1), (2, .int a2)]) hx hb dX12_books_141 rfl hl (by decide) rfl (fun ls hl => ?_)
                      refine lv_goto (tgt := 58) hx hb dX12_books_142 (by decide) ?_
                      exact ihlp286 0 σ290 _ _ ls (by have h90 := jz_0; omega) (by have h90 := jz_0; omega) (by have h90 := jz_0; omega) (by have h90 := jz_0; omega) (by have h90 := jz_0; omega) (fun i hi => (f300 i hi)) (fun i hi => (f301 i hi))  p302 p303 p304 hP hS (lv_sub hl [0, 2, 3, 4] rfl)
                    · have kc322 := jcnlt c322 rfl jzl_0
                      refine lv_lload hx hb dX12_books_108 (lv_at hl 0 rfl) ?_
                      refine lv_ldc2 (v := 20) hx hb hown (hts _ kw_9_12) dX12_books_110 ?_
                      refine W.lcmp hx hb dX12_books_113 ?_
                      refine lv_if_ge (tgt := 140) hx hb dX12_books_114 (by decide) (fun c323 => ?_) (fun c323 => ?_)
                      · have kc323 := jcge c323 rfl jzl_20
                        refine lv_iconst (v := 0) hx hb dX12_books_140 (by decide) ?_
                        refine lv_istore_n (lv' := [(3, .int 0), (4, .long lx321), (0, .ref (ad 55)), (1, .int a1), (2, .int a2)]) hx hb dX12_books_141 rfl hl (by decide) rfl (fun ls hl => ?_)
                        refine lv_goto (tgt := 58) hx hb dX12_books_142 (by decide) ?_
                        exact ihlp286 0 σ290 _ _ ls (by have h90 := jz_0; omega) (by have h90 := jz_0; omega) (by have h90 := jz_0; omega) (by have h90 := jz_0; omega) (by have h90 := jz_0; omega) (fun i hi => (f300 i hi)) (fun i hi => (f301 i hi))  p302 p303 p304 hP hS (lv_sub hl [0, 2, 3, 4] rfl)
                      · have kc323 := jcnge c323 rfl jzl_20
                        refine lv_aload_n hx hb dX12_books_117 rfl (lv_at hl 2 rfl) ?_
                        refine lv_lload hx hb dX12_books_118 (lv_at hl 0 rfl) ?_
                        refine lv_l2i hx hb dX12_books_120 rfl ?_
                        refine lv_topi (fun x324 ex324 => ?_)
                        have tx324 : x324.toInt = lx321.toInt := jtoI ex324 rfl (by omega) (by omega)
                        refine lv_bipush (v := 10) hx hb dX12_books_121 (by decide) ?_
                        refine lv_irem hx hb dX12_books_123 (by decide) ?_
                        refine lv_topi (fun x325 ex325 => ?_)
                        have tx325 : x325.toInt = (lx321.toInt % 10) := jrem ex325 tx324 jz_10 (by omega)
                        refine lv_lload hx hb dX12_books_124 (lv_at hl 0 rfl) ?_
                        refine lv_l2i hx hb dX12_books_126 rfl ?_
                        refine lv_topi (fun x326 ex326 => ?_)
                        have tx326 : x326.toInt = lx321.toInt := jtoI ex326 rfl (by omega) (by omega)
                        refine lv_bipush (v := 10) hx hb dX12_books_127 (by decide) ?_
                        refine lv_idiv hx hb dX12_books_129 (by decide) ?_
                        refine lv_topi (fun x327 ex327 => ?_)
                        have tx327 : x327.toInt = (lx321.toInt / 10) := jdiv ex327 tx326 jz_10 (by omega) (by omega)
                        have I328 : jI102 σ290 := jI102_fr ((f301 6 (by decide)).trans (jkp 6 eσ186 (by decide))) ((f300 60 (by decide)).trans (jnp 60 eσ186 (by decide))) ((f300 61 (by decide)).trans (jnp 61 eσ186 (by decide))) hI102
                        have I329 : jI104 σ290 := jI104_fr ((f301 10 (by decide)).trans (jkp 10 eσ186 (by decide))) ((f301 12 (by decide)).trans (jkp 12 eσ186 (by decide))) ((f301 13 (by decide)).trans (jkp 13 eσ186 (by decide))) ((f300 62 (by decide)).trans (jnp 62 eσ186 (by decide))) ((f300 67 (by decide)).trans (jnp 67 eσ186 (by decide))) hI104
                        have w330 : ∀ k : Nat, k < 4 → 0 ≤ (σ290 68 k).toInt ∧ (σ290 68 k).toInt ≤ 3 := p304
                        refine jcallV (As := [.int x325, .int x327]) (rest := []) ⟨hx, hb, hml, hown, hts⟩ hK hP hA hS hZ (c_X12_book l D cI cL ad zz hJ σ290 τ x325 ((lx321.toInt % 10)) tx325 x327 ((lx321.toInt / 10)) tx327 I328 I329 p303 w330 p302) cw_RX12_366 (jc_55 cI cL ad σ290 τ) rfl ⟨Nat.le_of_ble_eq_true rfl, Nat.le_of_ble_eq_true rfl⟩ rfl rfl rfl hl.1 rfl (Nat.le_of_ble_eq_true rfl) dX12_books_130 ⟨Nat.zero_le _, Nat.zero_le _⟩ (fun r332 σ331 τ331 H locs h331 hP hS => ?_)
                        obtain ⟨rfl, f333, f334, I335, w336, p337, h331⟩ := h331
                        obtain ⟨i338, i339, w340⟩ : (0 ≤ (σ331 55 47).toInt ∧ (σ331 55 47).toInt ≤ 12) ∧ ((σ331 55 47).toInt ≤ (σ331 55 12).toInt) ∧ (∀ k : Nat, k < 12 → 0 ≤ (σ331 80 k).toInt ∧ (σ331 80 k).toInt ≤ 3) := id I335
                        have z341 : (σ331 55 12).toInt = (σ 55 12).toInt := (congrArg Int32.toInt (show σ331 55 12 = (σ 55 12) from ((f334 12 (by decide)).trans ((f301 12 (by decide)).trans (jkp 12 eσ186 (by decide))))))
                        rcases h331 with h342 | h343
                        · obtain ⟨q346, k344, k345⟩ := h342
                          refine lv_if_le (tgt := 140) hx hb dX12_books_133 (by decide) (fun c => absurd (jle c rfl jz_0) (by omega)) (fun c347 => ?_)
                          have kc347 := jnle c347 rfl jz_0
                          refine lv_iconst (v := 1) hx hb dX12_books_136 (by decide) ?_
                          refine lv_goto (tgt := 141) hx hb dX12_books_137 (by decide) ?_
                          refine lv_istore_n (lv' := [(3, .int 1), (4, .long lx321), (0, .ref (ad 55)), (1, .int a1), (2, .int a2)]) hx hb dX12_books_141 rfl hl (by decide) rfl (fun ls hl => ?_)
                          refine lv_goto (tgt := 58) hx hb dX12_books_142 (by decide) ?_
                          have I348 : jI119 σ331 := w336
                          exact ihlp286 1 σ331 _ _ ls (by have h90 := jz_1; omega) (by have h90 := jz_1; omega) (by have h90 := jz_1; omega) (by have h90 := jz_1; omega) (by have h90 := jz_1; omega) (fun i hi => ((f333 i hi).trans (f300 i hi))) (fun i hi => ((f334 i hi).trans (f301 i hi)))  p337 I335 I348 hP hS (lv_sub hl [0, 2, 3, 4] rfl)
                        · obtain ⟨q351, k349, k350⟩ := h343
                          refine lv_if_le (tgt := 140) hx hb dX12_books_133 (by decide) (fun c352 => ?_) (fun c => absurd (jnle c rfl jz_0) (by omega))
                          have kc352 := jle c352 rfl jz_0
                          refine lv_iconst (v := 0) hx hb dX12_books_140 (by decide) ?_
                          refine lv_istore_n (lv' := [(3, .int 0), (4, .long lx321), (0, .ref (ad 55)), (1, .int a1), (2, .int a2)]) hx hb dX12_books_141 rfl hl (by decide) rfl (fun ls hl => ?_)
                          refine lv_goto (tgt := 58) hx hb dX12_books_142 (by decide) ?_
                          have I353 : jI119 σ331 := w336
                          exact ihlp286 0 σ331 _ _ ls (by have h90 := jz_0; omega) (by have h90 := jz_0; omega) (by have h90 := jz_0; omega) (by have h90 := jz_0; omega) (by have h90 := jz_0; omega) (fun i hi => ((f333 i hi).trans (f300 i hi))) (fun i hi => ((f334 i hi).trans (f301 i hi)))  p337 I335 I353 hP hS (lv_sub hl [0, 2, 3, 4] rfl)
            exact lp286 1000000 1 σ186 _ _ ls (by have h90 := jz_1; omega) (by have h90 := jz_1; omega) (by have h90 := jz_1; omega) (by have h90 := jz_1; omega) (by have h90 := jz_1; omega) (fun _ _ => rfl) (fun _ _ => rfl)  p188 I293 I294 hP hS hl
      · have kc185 := jne c185 rfl jz_20
        refine lv_bipush (v := (-12)) hx hb dX12_books_29 (by decide) ?_
        exact hret (-12) σ τ _ _ _ _ rfl ⟨rfl, (fun _ _ => rfl), (fun _ _ => rfl), hI107, hI119, hs_jBook, trivial⟩ hP hS dX12_books_31
  · obtain ⟨q355, k354⟩ := h9
    have q355 := q355.symm
    subst q355
    refine lv_if_ne (tgt := 9) hx hb dX12_books_4 (by decide) (fun c => absurd (by decide) c) (fun _ => ?_)
    refine lv_iconst (v := (-1)) hx hb dX12_books_7 (by decide) ?_
    exact hret (-1) σ τ _ _ _ _ rfl ⟨rfl, (fun _ _ => rfl), (fun _ _ => rfl), hI107, hI119, hs_jBook, trivial⟩ hP hS dX12_books_8
set_option maxHeartbeats 4000000 in
set_option maxRecDepth 100000 in
theorem c_X12_costOf (l : Launch) (D : va_G) (cI cL : ClassId) (ad zz : Nat → Nat) (hJ : jD ad) (σ : Nat → Nat → Int32) (τ : Nat → Nat → Int64) (a1 : Int32) (A1 : Int) (t1 : a1.toInt = A1) (hI101 : jI101 σ) (hI102 : jI102 σ) (hI103 : jI103 σ) (hI104 : jI104 σ) (hI105 : jI105 σ) (hI106 : jI106 σ) (hI107 : jI107 σ) (hI119 : jI119 σ) (hs_jKept : jKept σ) (hs_jBook : jBook σ) (hp0 : 0 ≤ A1) (hp1 : A1 < (σ 55 47).toInt) (hp2 : (σ 55 12).toInt - A1 ≤ 8) : jM l yX12_costOf cX12_costOf 3 (some .int) ({ frames := 103, cells := 0, slots := 0, locals := 5061 }) D cI cL ad zz [.ref (ad 55), .int a1] σ τ (fun r σ' τ' => τ = τ' ∧ (∀ i : Nat, (i < 55 ∨ 55 < i) ∧ (i < 66 ∨ 66 < i) ∧ (i < 68 ∨ 69 < i) ∧ (i < 74 ∨ 78 < i) → σ' i = σ i) ∧ (∀ k : Nat, (k < 18 ∨ 18 < k) ∧ (k < 19 ∨ 19 < k) ∧ (k < 20 ∨ 20 < k) ∧ (k < 21 ∨ 21 < k) ∧ (k < 22 ∨ 22 < k) ∧ (k < 25 ∨ 25 < k) ∧ (k < 26 ∨ 26 < k) ∧ (k < 27 ∨ 27 < k) ∧ (k < 37 ∨ 37 < k) ∧ (k < 42 ∨ 42 < k) → σ' 55 k = σ 55 k) ∧ (jI119 σ') ∧ (jKept σ') ∧ (jBook σ') ∧ True) := by
  refine jM.of hJ (by decide +kernel) (nt := .int) rfl (Nat.le_of_ble_eq_true rfl) ?_
  intro p e s m args below meth c Q ls hC hret hl hP
  obtain ⟨hx, hb, hr, hml, hown, hts, hK, -, hlocks, hZ⟩ := hC
  have hown : s.vm.findClass RX12 = some m.cls := hown
  have hS : va_S (jA ad) s.heap s.heap [] := va_S.rf
  have hA : ∀ q, jA ad q → jA ad q := fun _ h => h
  have hl : lv_has ls 3 [(0, .ref (ad 55)), (1, .int a1)] := hl
  have g1 := jrg t1
  obtain ⟨i1, w2, w3⟩ : (0 ≤ (σ 55 6).toInt ∧ (σ 55 6).toInt ≤ 4) ∧ (∀ k : Nat, k < 4 → 0 ≤ (σ 60 k).toInt ∧ (σ 60 k).toInt ≤ 50) ∧ (∀ k : Nat, k < 4 → 0 ≤ (σ 61 k).toInt ∧ (σ 61 k).toInt ≤ 20) := id hI102
  obtain ⟨i4, i5, i6, w7, w8⟩ : (1 ≤ (σ 55 10).toInt ∧ (σ 55 10).toInt ≤ 8) ∧ (1 ≤ (σ 55 12).toInt ∧ (σ 55 12).toInt ≤ 12) ∧ (0 ≤ (σ 55 13).toInt ∧ (σ 55 13).toInt ≤ 999) ∧ (∀ k : Nat, k < 8 → 0 ≤ (σ 62 k).toInt ∧ (σ 62 k).toInt ≤ 3) ∧ (∀ k : Nat, k < 8 → 0 ≤ (σ 67 k).toInt ∧ (σ 67 k).toInt ≤ 3) := id hI104
  obtain ⟨i9, i10, w11⟩ : (0 ≤ (σ 55 47).toInt ∧ (σ 55 47).toInt ≤ 12) ∧ ((σ 55 47).toInt ≤ (σ 55 12).toInt) ∧ (∀ k : Nat, k < 12 → 0 ≤ (σ 80 k).toInt ∧ (σ 80 k).toInt ≤ 3) := id hI107
  refine lv_aload_n hx hb dX12_costOf_0 rfl (lv_at hl 0 rfl) ?_
  refine lv_iload_n hx hb dX12_costOf_1 rfl (lv_at hl 1 rfl) ?_
  have w12 : ∀ k : Nat, k < 4 → 0 ≤ (σ 68 k).toInt ∧ (σ 68 k).toInt ≤ 3 := hI119
  refine jcallVv (As := [.int a1]) (rest := []) ⟨hx, hb, hml, hown, hts⟩ hK hP hA hS hZ (c_X12_goThroughBook l D cI cL ad zz hJ σ τ a1 (A1) t1 hI102 hI104 hI107 w12 hs_jBook (by omega) (by omega)) cw_RX12_334 (jc_55 cI cL ad σ τ) rfl ⟨Nat.le_of_ble_eq_true rfl, Nat.le_of_ble_eq_true rfl⟩ rfl rfl rfl hl.1 rfl (Nat.le_of_ble_eq_true rfl) dX12_costOf_2 ⟨Nat.zero_le _, Nat.zero_le _⟩ (fun σ13 τ13 H locs h13 hP hS => ?_)
  obtain ⟨rfl, f15, f16, I17, p18, h13⟩ := h13
  obtain ⟨i19, i20, i21, i22, i23, w24⟩ : (0 ≤ (σ13 55 25).toInt) ∧ ((σ13 55 25).toInt ≤ (σ13 55 10).toInt) ∧ (0 ≤ (σ13 55 26).toInt) ∧ ((σ13 55 26).toInt ≤ (σ13 55 12).toInt) ∧ ((-1) ≤ (σ13 55 27).toInt ∧ (σ13 55 27).toInt ≤ 3) ∧ (∀ k : Nat, k < 4 → 0 ≤ (σ13 68 k).toInt ∧ (σ13 68 k).toInt ≤ 3) := id I17
  have z25 : (σ13 55 10).toInt = (σ 55 10).toInt := (congrArg Int32.toInt (show σ13 55 10 = (σ 55 10) from (f16 10 (by decide))))
  have z26 : (σ13 55 12).toInt = (σ 55 12).toInt := (congrArg Int32.toInt (show σ13 55 12 = (σ 55 12) from (f16 12 (by decide))))
  obtain ⟨k27, k28, k29, h13⟩ := h13
  refine lv_aload_n hx hb dX12_costOf_5 rfl (lv_at hl 0 rfl) ?_
  refine jcallVv (As := []) (rest := []) ⟨hx, hb, hml, hown, hts⟩ hK hP hA hS hZ (c_X12_forgets l D cI cL ad zz hJ σ13 τ) cw_RX12_341 (jc_55 cI cL ad σ13 τ) rfl ⟨Nat.le_of_ble_eq_true rfl, Nat.le_of_ble_eq_true rfl⟩ rfl rfl rfl hl.1 rfl (Nat.le_of_ble_eq_true rfl) dX12_costOf_6 ⟨Nat.zero_le _, Nat.zero_le _⟩ (fun σ30 τ30 H locs h30 hP hS => ?_)
  obtain ⟨rfl, f32, f33, h30⟩ := h30
  refine lv_aload_n hx hb dX12_costOf_9 rfl (lv_at hl 0 rfl) ?_
  have I34 : jI102 σ30 := jI102_fr ((f33 6 (by decide)).trans (f16 6 (by decide))) ((f32 60 (by decide)).trans (f15 60 (by decide))) ((f32 61 (by decide)).trans (f15 61 (by decide))) hI102
  have I35 : jI104 σ30 := jI104_fr ((f33 10 (by decide)).trans (f16 10 (by decide))) ((f33 12 (by decide)).trans (f16 12 (by decide))) ((f33 13 (by decide)).trans (f16 13 (by decide))) ((f32 62 (by decide)).trans (f15 62 (by decide))) ((f32 67 (by decide)).trans (f15 67 (by decide))) hI104
  have I36 : jI120 σ30 := jI120_fr (f33 10 (by decide)) (f33 12 (by decide)) (f33 25 (by decide)) (f33 26 (by decide)) (f33 27 (by decide)) (f32 68 (by decide)) I17
  have z37 : (σ30 55 25).toInt = (σ13 55 25).toInt := (congrArg Int32.toInt (show σ30 55 25 = (σ13 55 25) from (f33 25 (by decide))))
  have z38 : (σ30 55 10).toInt = (σ 55 10).toInt := (congrArg Int32.toInt (show σ30 55 10 = (σ 55 10) from ((f33 10 (by decide)).trans (f16 10 (by decide)))))
  have z39 : (σ30 55 26).toInt = (σ13 55 26).toInt := (congrArg Int32.toInt (show σ30 55 26 = (σ13 55 26) from (f33 26 (by decide))))
  have z40 : (σ30 55 12).toInt = (σ 55 12).toInt := (congrArg Int32.toInt (show σ30 55 12 = (σ 55 12) from ((f33 12 (by decide)).trans (f16 12 (by decide)))))
  refine jcallV (As := []) (rest := []) ⟨hx, hb, hml, hown, hts⟩ hK hP hA hS hZ (c_X12_isEnded l D cI cL ad zz hJ σ30 τ I34 I35 I36) cw_RX12_307 (jc_55 cI cL ad σ30 τ) rfl ⟨Nat.le_of_ble_eq_true rfl, Nat.le_of_ble_eq_true rfl⟩ rfl rfl rfl hl.1 rfl (Nat.le_of_ble_eq_true rfl) dX12_costOf_10 ⟨Nat.zero_le _, Nat.zero_le _⟩ (fun r42 σ41 τ41 H locs h41 hP hS => ?_)
  obtain ⟨⟨rfl, rfl⟩, h41⟩ := h41
  rcases h41 with h43 | h44
  · obtain ⟨q46, k45⟩ := h43
    have q46 := q46.symm
    subst q46
    refine lv_if_eq (tgt := 20) hx hb dX12_costOf_13 (by decide) (fun c => absurd c (by decide)) (fun _ => ?_)
    refine lv_iconst (v := 0) hx hb dX12_costOf_16 (by decide) ?_
    refine lv_goto (tgt := 24) hx hb dX12_costOf_17 (by decide) ?_
    refine lv_istore_n (lv' := [(2, .int 0), (0, .ref (ad 55)), (1, .int a1)]) hx hb dX12_costOf_24 rfl hl (by decide) rfl (fun ls hl => ?_)
    refine lv_aload_n hx hb dX12_costOf_25 rfl (lv_at hl 1 rfl) ?_
    refine lv_aload_n hx hb dX12_costOf_26 rfl (lv_at hl 1 rfl) ?_
    refine va_get (D := D) hx hb hts inlX12 hown hK hP 55 (jc_55 cI cL ad σ30 τ) rfl 48 (by decide) (hts _ kw_8_5) (fun _ h9 => h9) rfl dX12_costOf_27 ?_
    refine lv_iload_n hx hb dX12_costOf_30 rfl (lv_at hl 2 rfl) ?_
    refine jald hx hb hK hP (jc_80 cI cL ad σ30 τ) (jin t1 (by omega) (by omega)) dX12_costOf_31 ?_
    have w47 : ∀ k : Nat, k < 12 → 0 ≤ (σ30 80 k).toInt ∧ (σ30 80 k).toInt ≤ 3 := (jrr_fr (f32 80 (by decide)) (jrr_fr (f15 80 (by decide)) w11))
    have g48 := w47 _ (jnat (x := a1) t1 (n := 12) (by omega) (by decide))
    refine lv_topi (fun x49 ex49 => ?_)
    rw [← ex49] at g48
    have I50 : jI101 σ30 := jI101_fr ((f33 4 (by decide)).trans (f16 4 (by decide))) ((f33 5 (by decide)).trans (f16 5 (by decide))) ((f32 56 (by decide)).trans (f15 56 (by decide))) ((f32 57 (by decide)).trans (f15 57 (by decide))) ((f32 58 (by decide)).trans (f15 58 (by decide))) ((f32 59 (by decide)).trans (f15 59 (by decide))) hI101
    have I51 : jI103 σ30 := jI103_fr ((f33 9 (by decide)).trans (f16 9 (by decide))) hI103
    have I52 : jI105 σ30 := jI105_fr ((f33 15 (by decide)).trans (f16 15 (by decide))) ((f32 65 (by decide)).trans (f15 65 (by decide))) hI105
    have I53 : jI106 σ30 := jI106_fr ((f33 32 (by decide)).trans (f16 32 (by decide))) ((f32 70 (by decide)).trans (f15 70 (by decide))) ((f32 71 (by decide)).trans (f15 71 (by decide))) ((f32 72 (by decide)).trans (f15 72 (by decide))) hI106
    have p54 : jKept σ30 := jKept.fr ((f32 75 (by decide)).trans (f15 75 (by decide))) ((f32 76 (by decide)).trans (f15 76 (by decide))) ((f32 77 (by decide)).trans (f15 77 (by decide))) hs_jKept
    refine jcallV (As := [.int x49]) (rest := []) ⟨hx, hb, hml, hown, hts⟩ hK hP hA hS hZ ((c_X12_bests l D cI cL ad zz hJ 8).1 σ30 τ x49 (x49.toInt) rfl I50 I34 I51 I35 I52 I53 I36 p54 (by omega) (by omega) (by omega) (by omega)) cw_RX12_318 (jc_55 cI cL ad σ30 τ) rfl ⟨Nat.le_of_ble_eq_true rfl, Nat.le_of_ble_eq_true rfl⟩ rfl rfl rfl hl.1 rfl (Nat.le_of_ble_eq_true rfl) dX12_costOf_32 ⟨Nat.zero_le _, Nat.zero_le _⟩ (fun r56 σ55 τ55 H locs h55 hP hS => ?_)
    obtain ⟨rfl, f57, f58, p59, h55⟩ := h55
    have h60 := h55
    obtain ⟨q62, k61⟩ := h60
    refine lv_iload_n hx hb dX12_costOf_35 rfl (lv_at hl 0 rfl) ?_
    refine lv_isub hx hb dX12_costOf_36 ?_
    refine jtopr (y := r56) (by rw [Int32.sub_zero]) ?_
    have w63 : ∀ k : Nat, k < 4 → 0 ≤ (σ55 68 k).toInt ∧ (σ55 68 k).toInt ≤ 3 := (jrr_fr (f57 68 (by decide)) (jrr_fr (f32 68 (by decide)) w24))
    have I64 : jI119 σ55 := w63
    have p65 : jBook σ55 := jBook.fr ((f58 47 (by decide)).trans (f33 47 (by decide))) ((f58 10 (by decide)).trans (f33 10 (by decide))) ((f57 81 (by decide)).trans (f32 81 (by decide))) p18
    exact hret r56 σ55 τ _ _ _ _ rfl ⟨rfl, (fun i hi => ((f57 i (imp_257 i hi)).trans ((f32 i (imp_258 i hi)).trans (f15 i (imp_255 i hi))))), (fun i hi => ((f58 i (imp_259 i hi)).trans ((f33 i (imp_260 i hi)).trans (f16 i (imp_256 i hi))))), I64, p59, p65, trivial⟩ hP hS dX12_costOf_37
  · obtain ⟨q69, k66, k67, k68⟩ := h44
    have q69 := q69.symm
    subst q69
    obtain ⟨B70, k71, k72, w73⟩ := k68
    have z74 : (σ30 55 6).toInt = (σ 55 6).toInt := (congrArg Int32.toInt (show σ30 55 6 = (σ 55 6) from ((f33 6 (by decide)).trans (f16 6 (by decide)))))
    refine lv_if_eq (tgt := 20) hx hb dX12_costOf_13 (by decide) (fun _ => ?_) (fun c => absurd (by decide) c)
    refine lv_aload_n hx hb dX12_costOf_20 rfl (lv_at hl 0 rfl) ?_
    have p75 : jmb σ30 B70 = 1 := (jmb_fr rfl rfl rfl rfl rfl B70).trans w73
    have I76 : jI101 σ30 := jI101_fr ((f33 4 (by decide)).trans (f16 4 (by decide))) ((f33 5 (by decide)).trans (f16 5 (by decide))) ((f32 56 (by decide)).trans (f15 56 (by decide))) ((f32 57 (by decide)).trans (f15 57 (by decide))) ((f32 58 (by decide)).trans (f15 58 (by decide))) ((f32 59 (by decide)).trans (f15 59 (by decide))) hI101
    have I77 : jI103 σ30 := jI103_fr ((f33 9 (by decide)).trans (f16 9 (by decide))) hI103
    have I78 : jI105 σ30 := jI105_fr ((f33 15 (by decide)).trans (f16 15 (by decide))) ((f32 65 (by decide)).trans (f15 65 (by decide))) hI105
    have I79 : jI106 σ30 := jI106_fr ((f33 32 (by decide)).trans (f16 32 (by decide))) ((f32 70 (by decide)).trans (f15 70 (by decide))) ((f32 71 (by decide)).trans (f15 71 (by decide))) ((f32 72 (by decide)).trans (f15 72 (by decide))) hI106
    have p80 : jKept σ30 := jKept.fr ((f32 75 (by decide)).trans (f15 75 (by decide))) ((f32 76 (by decide)).trans (f15 76 (by decide))) ((f32 77 (by decide)).trans (f15 77 (by decide))) hs_jKept
    refine jcallV (As := []) (rest := []) ⟨hx, hb, hml, hown, hts⟩ hK hP hA hS hZ ((c_X12_bests l D cI cL ad zz hJ 8).2.2 σ30 τ B70 p75 I76 I34 I77 I35 I78 I79 I36 p80 (by omega) (by omega) (by omega) (by omega)) cw_RX12_280 (jc_55 cI cL ad σ30 τ) rfl ⟨Nat.le_of_ble_eq_true rfl, Nat.le_of_ble_eq_true rfl⟩ rfl rfl rfl hl.1 rfl (Nat.le_of_ble_eq_true rfl) dX12_costOf_21 ⟨Nat.zero_le _, Nat.zero_le _⟩ (fun r82 σ81 τ81 H locs h81 hP hS => ?_)
    obtain ⟨rfl, f83, f84, p85, h81⟩ := h81
    obtain ⟨k86, h81⟩ := h81
    have h87 := h81
    obtain ⟨q89, k88⟩ := h87
    refine lv_istore_n (lv' := [(2, .int r82), (0, .ref (ad 55)), (1, .int a1)]) hx hb dX12_costOf_24 rfl hl (by decide) rfl (fun ls hl => ?_)
    refine lv_aload_n hx hb dX12_costOf_25 rfl (lv_at hl 1 rfl) ?_
    refine lv_aload_n hx hb dX12_costOf_26 rfl (lv_at hl 1 rfl) ?_
    refine va_get (D := D) hx hb hts inlX12 hown hK hP 55 (jc_55 cI cL ad σ81 τ) rfl 48 (by decide) (hts _ kw_8_5) (fun _ h9 => h9) rfl dX12_costOf_27 ?_
    refine lv_iload_n hx hb dX12_costOf_30 rfl (lv_at hl 2 rfl) ?_
    refine jald hx hb hK hP (jc_80 cI cL ad σ81 τ) (jin t1 (by omega) (by omega)) dX12_costOf_31 ?_
    have w90 : ∀ k : Nat, k < 12 → 0 ≤ (σ81 80 k).toInt ∧ (σ81 80 k).toInt ≤ 3 := (jrr_fr (f83 80 (by decide)) (jrr_fr (f32 80 (by decide)) (jrr_fr (f15 80 (by decide)) w11)))
    have g91 := w90 _ (jnat (x := a1) t1 (n := 12) (by omega) (by decide))
    refine lv_topi (fun x92 ex92 => ?_)
    rw [← ex92] at g91
    have I93 : jI101 σ81 := jI101_fr (f84 4 (by decide)) (f84 5 (by decide)) (f83 56 (by decide)) (f83 57 (by decide)) (f83 58 (by decide)) (f83 59 (by decide)) I76
    have I94 : jI102 σ81 := jI102_fr (f84 6 (by decide)) (f83 60 (by decide)) (f83 61 (by decide)) I34
    have I95 : jI103 σ81 := jI103_fr (f84 9 (by decide)) I77
    have I96 : jI104 σ81 := jI104_fr (f84 10 (by decide)) (f84 12 (by decide)) (f84 13 (by decide)) (f83 62 (by decide)) (f83 67 (by decide)) I35
    have I97 : jI105 σ81 := jI105_fr (f84 15 (by decide)) (f83 65 (by decide)) I78
    have I98 : jI106 σ81 := jI106_fr (f84 32 (by decide)) (f83 70 (by decide)) (f83 71 (by decide)) (f83 72 (by decide)) I79
    have I99 : jI120 σ81 := jI120_fr (f84 10 (by decide)) (f84 12 (by decide)) (f84 25 (by decide)) (f84 26 (by decide)) (f84 27 (by decide)) (f83 68 (by decide)) I36
    have z100 : (σ81 55 25).toInt = (σ13 55 25).toInt := (congrArg Int32.toInt (show σ81 55 25 = (σ13 55 25) from ((f84 25 (by decide)).trans (f33 25 (by decide)))))
    have z101 : (σ81 55 10).toInt = (σ 55 10).toInt := (congrArg Int32.toInt (show σ81 55 10 = (σ 55 10) from ((f84 10 (by decide)).trans ((f33 10 (by decide)).trans (f16 10 (by decide))))))
    have z102 : (σ81 55 26).toInt = (σ13 55 26).toInt := (congrArg Int32.toInt (show σ81 55 26 = (σ13 55 26) from ((f84 26 (by decide)).trans (f33 26 (by decide)))))
    have z103 : (σ81 55 12).toInt = (σ 55 12).toInt := (congrArg Int32.toInt (show σ81 55 12 = (σ 55 12) from ((f84 12 (by decide)).trans ((f33 12 (by decide)).trans (f16 12 (by decide))))))
    refine jcallV (As := [.int x92]) (rest := []) ⟨hx, hb, hml, hown, hts⟩ hK hP hA hS hZ ((c_X12_bests l D cI cL ad zz hJ 8).1 σ81 τ x92 (x92.toInt) rfl I93 I94 I95 I96 I97 I98 I99 p85 (by omega) (by omega) (by omega) (by omega)) cw_RX12_318 (jc_55 cI cL ad σ81 τ) rfl ⟨Nat.le_of_ble_eq_true rfl, Nat.le_of_ble_eq_true rfl⟩ rfl rfl rfl hl.1 rfl (Nat.le_of_ble_eq_true rfl) dX12_costOf_32 ⟨Nat.zero_le _, Nat.zero_le _⟩ (fun r105 σ104 τ104 H locs h104 hP hS => ?_)
    obtain ⟨rfl, f106, f107, p108, h104⟩ := h104
    have h109 := h104
    obtain ⟨q111, k110⟩ := h109
    refine lv_iload_n hx hb dX12_costOf_35 rfl (lv_at hl 0 rfl) ?_
    have g112 := jrg (rfl : r105.toInt = r105.toInt)
    have g113 := jrg (rfl : r82.toInt = r82.toInt)
    refine lv_isub hx hb dX12_costOf_36 ?_
    refine lv_topi (fun x114 ex114 => ?_)
    have tx114 : x114.toInt = r105.toInt - r82.toInt := (jsub ex114 rfl rfl (by omega) (by omega)).trans (by omega)
    have w115 : ∀ k : Nat, k < 4 → 0 ≤ (σ104 68 k).toInt ∧ (σ104 68 k).toInt ≤ 3 := (jrr_fr (f106 68 (by decide)) (jrr_fr (f83 68 (by decide)) (jrr_fr (f32 68 (by decide)) w24)))
    have I116 : jI119 σ104 := w115
    have p117 : jBook σ104 := jBook.fr ((f107 47 (by decide)).trans ((f84 47 (by decide)).trans (f33 47 (by decide)))) ((f107 10 (by decide)).trans ((f84 10 (by decide)).trans (f33 10 (by decide)))) ((f106 81 (by decide)).trans ((f83 81 (by decide)).trans (f32 81 (by decide)))) p18
    exact hret x114 σ104 τ _ _ _ _ rfl ⟨rfl, (fun i hi => ((f106 i (imp_257 i hi)).trans ((f83 i (imp_257 i hi)).trans ((f32 i (imp_258 i hi)).trans (f15 i (imp_255 i hi)))))), (fun i hi => ((f107 i (imp_259 i hi)).trans ((f84 i (imp_259 i hi)).trans ((f33 i (imp_260 i hi)).trans (f16 i (imp_256 i hi)))))), I116, p108, p117, trivial⟩ hP hS dX12_costOf_37
set_option maxHeartbeats 4000000 in
set_option maxRecDepth 100000 in
theorem c_X12_cost (l : Launch) (D : va_G) (cI cL : ClassId) (ad zz : Nat → Nat) (hJ : jD ad) (σ : Nat → Nat → Int32) (τ : Nat → Nat → Int64) (a1 : Int32) (A1 : Int) (t1 : a1.toInt = A1) (hI101 : jI101 σ) (hI102 : jI102 σ) (hI103 : jI103 σ) (hI104 : jI104 σ) (hI105 : jI105 σ) (hI106 : jI106 σ) (hI107 : jI107 σ) (hI119 : jI119 σ) (hs_jKept : jKept σ) (hs_jBook : jBook σ) : jM l yX12_cost cX12_cost 2 (some .int) ({ frames := 104, cells := 0, slots := 0, locals := 5083 }) D cI cL ad zz [.ref (ad 55), .int a1] σ τ (fun r σ' τ' => τ = τ' ∧ (∀ i : Nat, (i < 55 ∨ 55 < i) ∧ (i < 66 ∨ 66 < i) ∧ (i < 68 ∨ 69 < i) ∧ (i < 74 ∨ 78 < i) → σ' i = σ i) ∧ (∀ k : Nat, (k < 18 ∨ 18 < k) ∧ (k < 19 ∨ 19 < k) ∧ (k < 20 ∨ 20 < k) ∧ (k < 21 ∨ 21 < k) ∧ (k < 22 ∨ 22 < k) ∧ (k < 25 ∨ 25 < k) ∧ (k < 26 ∨ 26 < k) ∧ (k < 27 ∨ 27 < k) ∧ (k < 37 ∨ 37 < k) ∧ (k < 42 ∨ 42 < k) → σ' 55 k = σ 55 k) ∧ (jI119 σ') ∧ (jKept σ') ∧ (jBook σ') ∧ True) := by
  refine jM.of hJ (by decide +kernel) (nt := .int) rfl (Nat.le_of_ble_eq_true rfl) ?_
  intro p e s m args below meth c Q ls hC hret hl hP
  obtain ⟨hx, hb, hr, hml, hown, hts, hK, -, hlocks, hZ⟩ := hC
  have hown : s.vm.findClass RX12 = some m.cls := hown
  have hS : va_S (jA ad) s.heap s.heap [] := va_S.rf
  have hA : ∀ q, jA ad q → jA ad q := fun _ h => h
  have hl : lv_has ls 2 [(0, .ref (ad 55)), (1, .int a1)] := hl
  have g1 := jrg t1
  obtain ⟨i1, i2, i3, w4, w5⟩ : (1 ≤ (σ 55 10).toInt ∧ (σ 55 10).toInt ≤ 8) ∧ (1 ≤ (σ 55 12).toInt ∧ (σ 55 12).toInt ≤ 12) ∧ (0 ≤ (σ 55 13).toInt ∧ (σ 55 13).toInt ≤ 999) ∧ (∀ k : Nat, k < 8 → 0 ≤ (σ 62 k).toInt ∧ (σ 62 k).toInt ≤ 3) ∧ (∀ k : Nat, k < 8 → 0 ≤ (σ 67 k).toInt ∧ (σ 67 k).toInt ≤ 3) := id hI104
  obtain ⟨i6, i7, w8⟩ : (0 ≤ (σ 55 47).toInt ∧ (σ 55 47).toInt ≤ 12) ∧ ((σ 55 47).toInt ≤ (σ 55 12).toInt) ∧ (∀ k : Nat, k < 12 → 0 ≤ (σ 80 k).toInt ∧ (σ 80 k).toInt ≤ 3) := id hI107
  refine lv_iload_n hx hb dX12_cost_0 rfl (lv_at hl 1 rfl) ?_
  refine lv_i2l (v := a1.toInt64) hx hb dX12_cost_1 rfl ?_
  refine lv_lconst (v := 0) hx hb dX12_cost_2 (by decide) ?_
  refine lv_aload_n hx hb dX12_cost_3 rfl (lv_at hl 0 rfl) ?_
  refine va_get (D := D) hx hb hts inlX12 hown hK hP 55 (jc_55 cI cL ad σ τ) rfl 47 (by decide) (hts _ kw_15_15) (fun _ h9 => h9) rfl dX12_cost_4 ?_
  refine lv_iconst (v := 1) hx hb dX12_cost_7 (by decide) ?_
  have g9 := jrg (rfl : (σ 55 47).toInt = (σ 55 47).toInt)
  refine lv_isub hx hb dX12_cost_8 ?_
  refine lv_topi (fun x10 ex10 => ?_)
  have tx10 : x10.toInt = (σ 55 47).toInt - 1 := (jsub ex10 rfl jz_1 (by omega) (by omega)).trans (by omega)
  refine lv_i2l (v := x10.toInt64) hx hb dX12_cost_9 rfl ?_
  refine jcallS (As := [.long a1.toInt64, .long 0, .long x10.toInt64]) (rest := []) ⟨hx, hb, hml, hown, hts⟩ hK hP hA hS hZ (c_X12_within l D cI cL ad zz hJ σ τ a1.toInt64 (A1) (jtoL t1) 0 (0) jzl_0 x10.toInt64 ((σ 55 47).toInt - 1) (jtoL tx10)) cw_RX12_136 ⟨Nat.le_of_ble_eq_true rfl, Nat.le_of_ble_eq_true rfl⟩ rfl rfl rfl hl.1 rfl (Nat.le_of_ble_eq_true rfl) dX12_cost_10 ⟨Nat.zero_le _, Nat.zero_le _⟩ (fun r12 σ11 τ11 H locs h11 hP hS => ?_)
  obtain ⟨⟨rfl, rfl⟩, h11⟩ := h11
  rcases h11 with h13 | h14
  · obtain ⟨q16, k15⟩ := h13
    have q16 := q16.symm
    subst q16
    refine lv_if_eq (tgt := 27) hx hb dX12_cost_13 (by decide) (fun c => absurd c (by decide)) (fun _ => ?_)
    refine lv_aload_n hx hb dX12_cost_16 rfl (lv_at hl 0 rfl) ?_
    refine va_get (D := D) hx hb hts inlX12 hown hK hP 55 (jc_55 cI cL ad σ τ) rfl 12 (by decide) (hts _ kw_8_16) (fun _ h9 => h9) rfl dX12_cost_17 ?_
    refine lv_iload_n hx hb dX12_cost_20 rfl (lv_at hl 1 rfl) ?_
    have g17 := jrg (rfl : (σ 55 12).toInt = (σ 55 12).toInt)
    refine lv_isub hx hb dX12_cost_21 ?_
    refine lv_topi (fun x18 ex18 => ?_)
    have tx18 : x18.toInt = (σ 55 12).toInt - A1 := (jsub ex18 rfl t1 (by omega) (by omega)).trans (by omega)
    refine lv_bipush (v := 8) hx hb dX12_cost_22 (by decide) ?_
    refine lv_icmp_le (tgt := 32) hx hb dX12_cost_24 (by decide) (fun c19 => ?_) (fun c19 => ?_)
    · have kc19 := jle c19 tx18 jz_8
      refine lv_aload_n hx hb dX12_cost_32 rfl (lv_at hl 0 rfl) ?_
      refine lv_iload_n hx hb dX12_cost_33 rfl (lv_at hl 1 rfl) ?_
      refine jcallV (As := [.int a1]) (rest := []) ⟨hx, hb, hml, hown, hts⟩ hK hP hA hS hZ (c_X12_costOf l D cI cL ad zz hJ σ τ a1 (A1) t1 hI101 hI102 hI103 hI104 hI105 hI106 hI107 hI119 hs_jKept hs_jBook (by omega) (by omega) (by omega)) cw_RX12_369 (jc_55 cI cL ad σ τ) rfl ⟨Nat.le_of_ble_eq_true rfl, Nat.le_of_ble_eq_true rfl⟩ rfl rfl rfl hl.1 rfl (Nat.le_of_ble_eq_true rfl) dX12_cost_34 ⟨Nat.zero_le _, Nat.zero_le _⟩ (fun r21 σ20 τ20 H locs h20 hP hS => ?_)
      obtain ⟨rfl, f22, f23, I24, p25, p26, h20⟩ := h20
      exact hret r21 σ20 τ _ _ _ _ rfl ⟨rfl, (fun i hi => (f22 i hi)), (fun i hi => (f23 i hi)), I24, p25, p26, trivial⟩ hP hS dX12_cost_37
    · have kc19 := jnle c19 tx18 jz_8
      refine lv_ldc (v := (-2000000000)) hx hb hown (hts _ kw_11_4) dX12_cost_27 ?_
      refine lv_goto (tgt := 37) hx hb dX12_cost_29 (by decide) ?_
      exact hret (-2000000000) σ τ _ _ _ _ rfl ⟨rfl, (fun _ _ => rfl), (fun _ _ => rfl), hI119, hs_jKept, hs_jBook, trivial⟩ hP hS dX12_cost_37
  · obtain ⟨q28, k27⟩ := h14
    have q28 := q28.symm
    subst q28
    refine lv_if_eq (tgt := 27) hx hb dX12_cost_13 (by decide) (fun _ => ?_) (fun c => absurd (by decide) c)
    refine lv_ldc (v := (-2000000000)) hx hb hown (hts _ kw_11_4) dX12_cost_27 ?_
    refine lv_goto (tgt := 37) hx hb dX12_cost_29 (by decide) ?_
    exact hret (-2000000000) σ τ _ _ _ _ rfl ⟨rfl, (fun _ _ => rfl), (fun _ _ => rfl), hI119, hs_jKept, hs_jBook, trivial⟩ hP hS dX12_cost_37
set_option maxHeartbeats 4000000 in
set_option maxRecDepth 100000 in
theorem c_X12_lost (l : Launch) (D : va_G) (cI cL : ClassId) (ad zz : Nat → Nat) (hJ : jD ad) (σ : Nat → Nat → Int32) (τ : Nat → Nat → Int64) (a1 : Int32) (A1 : Int) (t1 : a1.toInt = A1) (hI101 : jI101 σ) (hI102 : jI102 σ) (hI103 : jI103 σ) (hI104 : jI104 σ) (hI105 : jI105 σ) (hI106 : jI106 σ) (hI107 : jI107 σ) (hI119 : jI119 σ) (hs_jKept : jKept σ) (hs_jBook : jBook σ) : jM l yX12_lost cX12_lost 7 (some .int) ({ frames := 104, cells := 0, slots := 0, locals := 5083 }) D cI cL ad zz [.ref (ad 55), .int a1] σ τ (fun r σ' τ' => τ = τ' ∧ (∀ i : Nat, (i < 55 ∨ 55 < i) ∧ (i < 66 ∨ 66 < i) ∧ (i < 68 ∨ 69 < i) ∧ (i < 74 ∨ 78 < i) → σ' i = σ i) ∧ (∀ k : Nat, (k < 18 ∨ 18 < k) ∧ (k < 19 ∨ 19 < k) ∧ (k < 20 ∨ 20 < k) ∧ (k < 21 ∨ 21 < k) ∧ (k < 22 ∨ 22 < k) ∧ (k < 25 ∨ 25 < k) ∧ (k < 26 ∨ 26 < k) ∧ (k < 27 ∨ 27 < k) ∧ (k < 37 ∨ 37 < k) ∧ (k < 42 ∨ 42 < k) → σ' 55 k = σ 55 k) ∧ (jI119 σ') ∧ (jKept σ') ∧ (jBook σ') ∧ True) := by
  refine jM.of hJ (by decide +kernel) (nt := .int) rfl (Nat.le_of_ble_eq_true rfl) ?_
  intro p e s m args below meth c Q ls hC hret hl hP
  obtain ⟨hx, hb, hr, hml, hown, hts, hK, -, hlocks, hZ⟩ := hC
  have hown : s.vm.findClass RX12 = some m.cls := hown
  have hS : va_S (jA ad) s.heap s.heap [] := va_S.rf
  have hA : ∀ q, jA ad q → jA ad q := fun _ h => h
  have hl : lv_has ls 7 [(0, .ref (ad 55)), (1, .int a1)] := hl
  have g1 := jrg t1
  obtain ⟨i1, i2, i3, w4, w5⟩ : (1 ≤ (σ 55 10).toInt ∧ (σ 55 10).toInt ≤ 8) ∧ (1 ≤ (σ 55 12).toInt ∧ (σ 55 12).toInt ≤ 12) ∧ (0 ≤ (σ 55 13).toInt ∧ (σ 55 13).toInt ≤ 999) ∧ (∀ k : Nat, k < 8 → 0 ≤ (σ 62 k).toInt ∧ (σ 62 k).toInt ≤ 3) ∧ (∀ k : Nat, k < 8 → 0 ≤ (σ 67 k).toInt ∧ (σ 67 k).toInt ≤ 3) := id hI104
  obtain ⟨i6, i7, w8⟩ : (0 ≤ (σ 55 47).toInt ∧ (σ 55 47).toInt ≤ 12) ∧ ((σ 55 47).toInt ≤ (σ 55 12).toInt) ∧ (∀ k : Nat, k < 12 → 0 ≤ (σ 80 k).toInt ∧ (σ 80 k).toInt ≤ 3) := id hI107
  refine lv_iload_n hx hb dX12_lost_0 rfl (lv_at hl 1 rfl) ?_
  refine lv_i2l (v := a1.toInt64) hx hb dX12_lost_1 rfl ?_
  refine lv_lconst (v := 0) hx hb dX12_lost_2 (by decide) ?_
  refine lv_ldc2 (v := 2) hx hb hown (hts _ kw_11_3) dX12_lost_3 ?_
  refine jcallS (As := [.long a1.toInt64, .long 0, .long 2]) (rest := []) ⟨hx, hb, hml, hown, hts⟩ hK hP hA hS hZ (c_X12_within l D cI cL ad zz hJ σ τ a1.toInt64 (A1) (jtoL t1) 0 (0) jzl_0 2 (2) jzl_2) cw_RX12_136 ⟨Nat.le_of_ble_eq_true rfl, Nat.le_of_ble_eq_true rfl⟩ rfl rfl rfl hl.1 rfl (Nat.le_of_ble_eq_true rfl) dX12_lost_6 ⟨Nat.zero_le _, Nat.zero_le _⟩ (fun r10 σ9 τ9 H locs h9 hP hS => ?_)
  obtain ⟨⟨rfl, rfl⟩, h9⟩ := h9
  rcases h9 with h11 | h12
  · obtain ⟨q14, k13⟩ := h11
    have q14 := q14.symm
    subst q14
    refine lv_if_eq (tgt := 19) hx hb dX12_lost_9 (by decide) (fun c => absurd c (by decide)) (fun _ => ?_)
    refine lv_aload_n hx hb dX12_lost_12 rfl (lv_at hl 0 rfl) ?_
    refine va_get (D := D) hx hb hts inlX12 hown hK hP 55 (jc_55 cI cL ad σ τ) rfl 47 (by decide) (hts _ kw_15_15) (fun _ h9 => h9) rfl dX12_lost_13 ?_
    refine lv_if_ne (tgt := 21) hx hb dX12_lost_16 (by decide) (fun c15 => ?_) (fun c15 => ?_)
    · have kc15 := jne c15 rfl jz_0
      refine lv_aload_n hx hb dX12_lost_21 rfl (lv_at hl 0 rfl) ?_
      refine va_get (D := D) hx hb hts inlX12 hown hK hP 55 (jc_55 cI cL ad σ τ) rfl 12 (by decide) (hts _ kw_8_16) (fun _ h9 => h9) rfl dX12_lost_22 ?_
      refine lv_bipush (v := 8) hx hb dX12_lost_25 (by decide) ?_
      refine lv_icmp_le (tgt := 33) hx hb dX12_lost_27 (by decide) (fun c16 => ?_) (fun c16 => ?_)
      · have kc16 := jle c16 rfl jz_8
        refine lv_iconst (v := 0) hx hb dX12_lost_33 (by decide) ?_
        refine lv_istore_n (lv' := [(2, .int 0), (0, .ref (ad 55)), (1, .int a1)]) hx hb dX12_lost_34 rfl hl (by decide) rfl (fun ls hl => ?_)
        refine lv_ldc (v := (-2000000000)) hx hb hown (hts _ kw_11_4) dX12_lost_35 ?_
        refine lv_istore_n (lv' := [(3, .int (-2000000000)), (2, .int 0), (0, .ref (ad 55)), (1, .int a1)]) hx hb dX12_lost_37 rfl hl (by decide) rfl (fun ls hl => ?_)
        refine lv_iconst (v := 0) hx hb dX12_lost_38 (by decide) ?_
        refine lv_istore (lv' := [(4, .int 0), (3, .int (-2000000000)), (2, .int 0), (0, .ref (ad 55)), (1, .int a1)]) hx hb dX12_lost_39 hl (by decide) rfl (fun ls hl => ?_)
        refine lv_iconst (v := 0) hx hb dX12_lost_41 (by decide) ?_
        refine lv_istore (lv' := [(5, .int 0), (4, .int 0), (3, .int (-2000000000)), (2, .int 0), (0, .ref (ad 55)), (1, .int a1)]) hx hb dX12_lost_42 hl (by decide) rfl (fun ls hl => ?_)
        have lp17 : ∀ (n18 : Nat) (x19 : Int32) (x20 : Int32) (x21 : Int32) (x22 : Int32) (σ24 : Nat → Nat → Int32) (H : Heap) (locs : List Loc) (ls : Array Slot), ((σ24 55 47).toInt - x22.toInt : Int) < n18 → 0 ≤ x22.toInt → x22.toInt ≤ 12 → x22.toInt ≤ (σ24 55 47).toInt → (∀ i : Nat, (i < 55 ∨ 55 < i) ∧ (i < 66 ∨ 66 < i) ∧ (i < 68 ∨ 69 < i) ∧ (i < 74 ∨ 78 < i) → σ24 i = σ i) → (∀ k : Nat, (k < 18 ∨ 18 < k) ∧ (k < 19 ∨ 19 < k) ∧ (k < 20 ∨ 20 < k) ∧ (k < 21 ∨ 21 < k) ∧ (k < 22 ∨ 22 < k) ∧ (k < 25 ∨ 25 < k) ∧ (k < 26 ∨ 26 < k) ∧ (k < 27 ∨ 27 < k) ∧ (k < 37 ∨ 37 < k) ∧ (k < 42 ∨ 42 < k) → σ24 55 k = σ 55 k) → jKept σ24 → jI119 σ24 → jH D cI cL ad σ24 τ H → va_S (jA ad) s.heap H locs → lv_has ls 7 [(5, .int x22), (4, .int x21), (3, .int x20), (2, .int x19), (0, .ref (ad 55)), (1, .int a1)] → W p l e ({ frames := 104, cells := 0, slots := 0, locals := 5083 }) s m args below meth c H locs 0 0 Q (F0 m 44 ls []) := by
          intro n18
          induction n18 with
          | zero => intro x19 x20 x21 x22 σ24 H locs ls h25 h26 h27 h28; have gx19 := jrg (rfl : x19.toInt = x19.toInt); have gx20 := jrg (rfl : x20.toInt = x20.toInt); have gx21 := jrg (rfl : x21.toInt = x21.toInt); exact absurd h25 (by omega)
          | succ n18 ihlp17 =>
            intro x19 x20 x21 x22 σ24 H locs ls h25 h26 h27 h28 f29 f30 p31 p32 hP hS hl
            have gx19 := jrg (rfl : x19.toInt = x19.toInt); have gx20 := jrg (rfl : x20.toInt = x20.toInt); have gx21 := jrg (rfl : x21.toInt = x21.toInt)
            have z33 : (σ24 55 47).toInt = (σ 55 47).toInt := (congrArg Int32.toInt (show σ24 55 47 = (σ 55 47) from (f30 47 (by decide))))
            refine lv_iload hx hb dX12_lost_44 (lv_at hl 0 rfl) ?_
            refine lv_aload_n hx hb dX12_lost_46 rfl (lv_at hl 4 rfl) ?_
            refine va_get (D := D) hx hb hts inlX12 hown hK hP 55 (jc_55 cI cL ad σ24 τ) rfl 47 (by decide) (hts _ kw_15_15) (fun _ h9 => h9) rfl dX12_lost_47 ?_
            have m34 : σ24 55 47 = (σ 55 47) := (f30 47 (by decide))
            refine jtopr m34 ?_
            refine lv_icmp_ge (tgt := 86) hx hb dX12_lost_50 (by decide) (fun c35 => ?_) (fun c35 => ?_)
            · have kc35 := jle c35 rfl rfl
              refine lv_iload_n hx hb dX12_lost_86 rfl (lv_at hl 5 rfl) ?_
              refine lv_if_ne (tgt := 94) hx hb dX12_lost_87 (by decide) (fun c36 => ?_) (fun c36 => ?_)
              · have kc36 := jne c36 t1 jz_0
                refine lv_iload_n hx hb dX12_lost_94 rfl (lv_at hl 5 rfl) ?_
                refine lv_iconst (v := 1) hx hb dX12_lost_95 (by decide) ?_
                refine lv_icmp_ne (tgt := 103) hx hb dX12_lost_96 (by decide) (fun c37 => ?_) (fun c37 => ?_)
                · have kc37 := jne c37 t1 jz_1
                  refine lv_iload hx hb dX12_lost_103 (lv_at hl 1 rfl) ?_
                  have p38 : jBook σ24 := jBook.fr (f30 47 (by decide)) (f30 10 (by decide)) (f29 81 (by decide)) hs_jBook
                  exact hret x21 σ24 τ _ _ _ _ rfl ⟨rfl, (fun i hi => (f29 i hi)), (fun i hi => (f30 i hi)), p32, p31, p38, trivial⟩ hP hS dX12_lost_105
                · have kc37 := jeq c37 t1 jz_1
                  refine lv_iload_n hx hb dX12_lost_99 rfl (lv_at hl 2 rfl) ?_
                  refine lv_goto (tgt := 105) hx hb dX12_lost_100 (by decide) ?_
                  have p39 : jBook σ24 := jBook.fr (f30 47 (by decide)) (f30 10 (by decide)) (f29 81 (by decide)) hs_jBook
                  exact hret x20 σ24 τ _ _ _ _ rfl ⟨rfl, (fun i hi => (f29 i hi)), (fun i hi => (f30 i hi)), p32, p31, p39, trivial⟩ hP hS dX12_lost_105
              · have kc36 := jeq c36 t1 jz_0
                refine lv_iload_n hx hb dX12_lost_90 rfl (lv_at hl 3 rfl) ?_
                refine lv_goto (tgt := 105) hx hb dX12_lost_91 (by decide) ?_
                have p40 : jBook σ24 := jBook.fr (f30 47 (by decide)) (f30 10 (by decide)) (f29 81 (by decide)) hs_jBook
                exact hret x19 σ24 τ _ _ _ _ rfl ⟨rfl, (fun i hi => (f29 i hi)), (fun i hi => (f30 i hi)), p32, p31, p40, trivial⟩ hP hS dX12_lost_105
            · have kc35 := jnle c35 rfl rfl
              refine lv_aload_n hx hb dX12_lost_53 rfl (lv_at hl 4 rfl) ?_
              refine lv_iload hx hb dX12_lost_54 (lv_at hl 0 rfl) ?_
              have I41 : jI101 σ24 := jI101_fr (f30 4 (by decide)) (f30 5 (by decide)) (f29 56 (by decide)) (f29 57 (by decide)) (f29 58 (by decide)) (f29 59 (by decide)) hI101
              have I42 : jI102 σ24 := jI102_fr (f30 6 (by decide)) (f29 60 (by decide)) (f29 61 (by decide)) hI102
              have I43 : jI103 σ24 := jI103_fr (f30 9 (by decide)) hI103
              have I44 : jI104 σ24 := jI104_fr (f30 10 (by decide)) (f30 12 (by decide)) (f30 13 (by decide)) (f29 62 (by decide)) (f29 67 (by decide)) hI104
              have I45 : jI105 σ24 := jI105_fr (f30 15 (by decide)) (f29 65 (by decide)) hI105
              have I46 : jI106 σ24 := jI106_fr (f30 32 (by decide)) (f29 70 (by decide)) (f29 71 (by decide)) (f29 72 (by decide)) hI106
              have I47 : jI107 σ24 := jI107_fr (f30 12 (by decide)) (f30 47 (by decide)) (f29 80 (by decide)) hI107
              have p48 : jBook σ24 := jBook.fr (f30 47 (by decide)) (f30 10 (by decide)) (f29 81 (by decide)) hs_jBook
              have z49 : (σ24 55 12).toInt = (σ 55 12).toInt := (congrArg Int32.toInt (show σ24 55 12 = (σ 55 12) from (f30 12 (by decide))))
              refine jcallV (As := [.int x22]) (rest := []) ⟨hx, hb, hml, hown, hts⟩ hK hP hA hS hZ (c_X12_costOf l D cI cL ad zz hJ σ24 τ x22 (x22.toInt) rfl I41 I42 I43 I44 I45 I46 I47 p32 p31 p48 (by omega) (by omega) (by omega)) cw_RX12_369 (jc_55 cI cL ad σ24 τ) rfl ⟨Nat.le_of_ble_eq_true rfl, Nat.le_of_ble_eq_true rfl⟩ rfl rfl rfl hl.1 rfl (Nat.le_of_ble_eq_true rfl) dX12_lost_56 ⟨Nat.zero_le _, Nat.zero_le _⟩ (fun r51 σ50 τ50 H locs h50 hP hS => ?_)
              obtain ⟨rfl, f52, f53, I54, p55, p56, h50⟩ := h50
              refine lv_istore (lv' := [(6, .int r51), (5, .int x22), (4, .int x21), (3, .int x20), (2, .int x19), (0, .ref (ad 55)), (1, .int a1)]) hx hb dX12_lost_59 hl (by decide) rfl (fun ls hl => ?_)
              refine lv_iload hx hb dX12_lost_61 (lv_at hl 2 rfl) ?_
              refine lv_iload hx hb dX12_lost_63 (lv_at hl 0 rfl) ?_
              have g57 := jrg (rfl : x21.toInt = x21.toInt)
              have g58 := jrg (rfl : r51.toInt = r51.toInt)
              refine lv_iadd hx hb dX12_lost_65 ?_
              refine lv_topi (fun x59 ex59 => ?_)
              have gx59 := jrg (rfl : x59.toInt = x59.toInt)
              refine lv_istore (lv' := [(4, .int x59), (6, .int r51), (5, .int x22), (3, .int x20), (2, .int x19), (0, .ref (ad 55)), (1, .int a1)]) hx hb dX12_lost_66 hl (by decide) rfl (fun ls hl => ?_)
              refine lv_iload hx hb dX12_lost_68 (lv_at hl 1 rfl) ?_
              refine lv_iload_n hx hb dX12_lost_70 rfl (lv_at hl 3 rfl) ?_
              refine lv_icmp_le (tgt := 80) hx hb dX12_lost_71 (by decide) (fun c60 => ?_) (fun c60 => ?_)
              · have kc60 := jle c60 rfl rfl
                obtain ⟨x61, ex61⟩ : ∃ y : Int32, y = x22 + 1 := ⟨_, rfl⟩
                have tx61 : x61.toInt = x22.toInt + 1 := (jadd ex61 rfl jz_1 (by omega) (by omega)).trans (by omega)
                refine lv_iinc (v := x61) (lv' := [(5, .int x61), (4, .int x59), (6, .int r51), (3, .int x20), (2, .int x19), (0, .ref (ad 55)), (1, .int a1)]) hx hb dX12_lost_80 hl (k := 2) rfl (by rw [ex61]; rfl) (by decide) rfl (fun ls hl => ?_)
                refine lv_goto (tgt := 44) hx hb dX12_lost_83 (by decide) ?_
                have z62 : (σ50 55 47).toInt = (σ 55 47).toInt := (congrArg Int32.toInt (show σ50 55 47 = (σ 55 47) from ((f53 47 (by decide)).trans m34)))
                exact ihlp17 x19 x20 x59 x61 σ50 _ _ ls (by have h93 := tx61; omega) (by have h93 := tx61; omega) (by have h93 := tx61; omega) (by have h93 := tx61; omega) (fun i hi => ((f52 i hi).trans (f29 i hi))) (fun i hi => ((f53 i hi).trans (f30 i hi)))  p55 I54 hP hS (lv_sub hl [0, 1, 3, 4, 5, 6] rfl)
              · have kc60 := jnle c60 rfl rfl
                refine lv_iload hx hb dX12_lost_74 (lv_at hl 2 rfl) ?_
                refine lv_istore_n (lv' := [(2, .int x22), (4, .int x59), (6, .int r51), (5, .int x22), (3, .int x20), (0, .ref (ad 55)), (1, .int a1)]) hx hb dX12_lost_76 rfl hl (by decide) rfl (fun ls hl => ?_)
                refine lv_iload hx hb dX12_lost_77 (lv_at hl 2 rfl) ?_
                refine lv_istore_n (lv' := [(3, .int r51), (2, .int x22), (4, .int x59), (6, .int r51), (5, .int x22), (0, .ref (ad 55)), (1, .int a1)]) hx hb dX12_lost_79 rfl hl (by decide) rfl (fun ls hl => ?_)
                obtain ⟨x63, ex63⟩ : ∃ y : Int32, y = x22 + 1 := ⟨_, rfl⟩
                have tx63 : x63.toInt = x22.toInt + 1 := (jadd ex63 rfl jz_1 (by omega) (by omega)).trans (by omega)
                refine lv_iinc (v := x63) (lv' := [(5, .int x63), (3, .int r51), (2, .int x22), (4, .int x59), (6, .int r51), (0, .ref (ad 55)), (1, .int a1)]) hx hb dX12_lost_80 hl (k := 4) rfl (by rw [ex63]; rfl) (by decide) rfl (fun ls hl => ?_)
                refine lv_goto (tgt := 44) hx hb dX12_lost_83 (by decide) ?_
                have z64 : (σ50 55 47).toInt = (σ 55 47).toInt := (congrArg Int32.toInt (show σ50 55 47 = (σ 55 47) from ((f53 47 (by decide)).trans m34)))
                exact ihlp17 x22 r51 x59 x63 σ50 _ _ ls (by have h93 := tx63; omega) (by have h93 := tx63; omega) (by have h93 := tx63; omega) (by have h93 := tx63; omega) (fun i hi => ((f52 i hi).trans (f29 i hi))) (fun i hi => ((f53 i hi).trans (f30 i hi)))  p55 I54 hP hS (lv_sub hl [0, 3, 1, 2, 5, 6] rfl)
        exact lp17 1000000 0 (-2000000000) 0 0 σ _ _ ls (by have h90 := jz_0; have h91 := jz_m2000000000; have h92 := jz_0; have h93 := jz_0; omega) (by have h90 := jz_0; have h91 := jz_m2000000000; have h92 := jz_0; have h93 := jz_0; omega) (by have h90 := jz_0; have h91 := jz_m2000000000; have h92 := jz_0; have h93 := jz_0; omega) (by have h90 := jz_0; have h91 := jz_m2000000000; have h92 := jz_0; have h93 := jz_0; omega) (fun _ _ => rfl) (fun _ _ => rfl)  hs_jKept hI119 hP hS hl
      · have kc16 := jnle c16 rfl jz_8
        refine lv_bipush (v := (-4)) hx hb dX12_lost_30 (by decide) ?_
        exact hret (-4) σ τ _ _ _ _ rfl ⟨rfl, (fun _ _ => rfl), (fun _ _ => rfl), hI119, hs_jKept, hs_jBook, trivial⟩ hP hS dX12_lost_32
    · have kc15 := jeq c15 rfl jz_0
      refine lv_iconst (v := (-1)) hx hb dX12_lost_19 (by decide) ?_
      exact hret (-1) σ τ _ _ _ _ rfl ⟨rfl, (fun _ _ => rfl), (fun _ _ => rfl), hI119, hs_jKept, hs_jBook, trivial⟩ hP hS dX12_lost_20
  · obtain ⟨q66, k65⟩ := h12
    have q66 := q66.symm
    subst q66
    refine lv_if_eq (tgt := 19) hx hb dX12_lost_9 (by decide) (fun _ => ?_) (fun c => absurd (by decide) c)
    refine lv_iconst (v := (-1)) hx hb dX12_lost_19 (by decide) ?_
    exact hret (-1) σ τ _ _ _ _ rfl ⟨rfl, (fun _ _ => rfl), (fun _ _ => rfl), hI119, hs_jKept, hs_jBook, trivial⟩ hP hS dX12_lost_20
set_option maxHeartbeats 4000000 in
set_option maxRecDepth 100000 in
theorem c_X12_game (l : Launch) (D : va_G) (cI cL : ClassId) (ad zz : Nat → Nat) (hJ : jD ad) (σ : Nat → Nat → Int32) (τ : Nat → Nat → Int64) (a1 : Int32) (A1 : Int) (t1 : a1.toInt = A1) (a2 : Int32) (A2 : Int) (t2 : a2.toInt = A2) (hI101 : jI101 σ) (hI102 : jI102 σ) (hI103 : jI103 σ) (hI104 : jI104 σ) (hI105 : jI105 σ) (hI106 : jI106 σ) (hI119 : jI119 σ) (hI109 : jI109 σ) (hs_jKept : jKept σ) : jM l yX12_game cX12_game 10 (some .int) ({ frames := 104, cells := 0, slots := 0, locals := 5087 }) D cI cL ad zz [.ref (ad 55), .int a1, .int a2] σ τ (fun r σ' τ' => τ = τ' ∧ (∀ i : Nat, (i < 55 ∨ 55 < i) ∧ (i < 66 ∨ 66 < i) ∧ (i < 68 ∨ 69 < i) ∧ (i < 74 ∨ 78 < i) ∧ (i < 82 ∨ 84 < i) → σ' i = σ i) ∧ (∀ k : Nat, (k < 18 ∨ 18 < k) ∧ (k < 19 ∨ 19 < k) ∧ (k < 20 ∨ 20 < k) ∧ (k < 21 ∨ 21 < k) ∧ (k < 22 ∨ 22 < k) ∧ (k < 25 ∨ 25 < k) ∧ (k < 26 ∨ 26 < k) ∧ (k < 27 ∨ 27 < k) ∧ (k < 37 ∨ 37 < k) ∧ (k < 42 ∨ 42 < k) ∧ (k < 50 ∨ 50 < k) → σ' 55 k = σ 55 k) ∧ (jI109 σ') ∧ (jI119 σ') ∧ (jKept σ') ∧ True) := by
  refine jM.of hJ (by decide +kernel) (nt := .int) rfl (Nat.le_of_ble_eq_true rfl) ?_
  intro p e s m args below meth c Q ls hC hret hl hP
  obtain ⟨hx, hb, hr, hml, hown, hts, hK, -, hlocks, hZ⟩ := hC
  have hown : s.vm.findClass RX12 = some m.cls := hown
  have hS : va_S (jA ad) s.heap s.heap [] := va_S.rf
  have hA : ∀ q, jA ad q → jA ad q := fun _ h => h
  have hl : lv_has ls 10 [(0, .ref (ad 55)), (1, .int a1), (2, .int a2)] := hl
  have g1 := jrg t1
  have g2 := jrg t2
  obtain ⟨i1, w2, w3⟩ : (0 ≤ (σ 55 6).toInt ∧ (σ 55 6).toInt ≤ 4) ∧ (∀ k : Nat, k < 4 → 0 ≤ (σ 60 k).toInt ∧ (σ 60 k).toInt ≤ 50) ∧ (∀ k : Nat, k < 4 → 0 ≤ (σ 61 k).toInt ∧ (σ 61 k).toInt ≤ 20) := id hI102
  obtain ⟨i4, i5, i6, w7, w8⟩ : (1 ≤ (σ 55 10).toInt ∧ (σ 55 10).toInt ≤ 8) ∧ (1 ≤ (σ 55 12).toInt ∧ (σ 55 12).toInt ≤ 12) ∧ (0 ≤ (σ 55 13).toInt ∧ (σ 55 13).toInt ≤ 999) ∧ (∀ k : Nat, k < 8 → 0 ≤ (σ 62 k).toInt ∧ (σ 62 k).toInt ≤ 3) ∧ (∀ k : Nat, k < 8 → 0 ≤ (σ 67 k).toInt ∧ (σ 67 k).toInt ≤ 3) := id hI104
  obtain ⟨i9, w10, w11, w12⟩ : (0 ≤ (σ 55 32).toInt ∧ (σ 55 32).toInt ≤ 20) ∧ (∀ k : Nat, k < 20 → 0 ≤ (σ 70 k).toInt ∧ (σ 70 k).toInt ≤ 6) ∧ (∀ k : Nat, k < 20 → 0 ≤ (σ 71 k).toInt ∧ (σ 71 k).toInt ≤ 8) ∧ (∀ k : Nat, k < 160 → 0 ≤ (σ 72 k).toInt ∧ (σ 72 k).toInt ≤ 3) := id hI106
  have i13 : 0 ≤ (σ 55 50).toInt ∧ (σ 55 50).toInt ≤ 12 := hI109
  refine lv_aload_n hx hb dX12_game_0 rfl (lv_at hl 0 rfl) ?_
  refine lv_iload_n hx hb dX12_game_1 rfl (lv_at hl 1 rfl) ?_
  refine jcallV (As := [.int a1]) (rest := []) ⟨hx, hb, hml, hown, hts⟩ hK hP hA hS hZ (c_X12_isRule l D cI cL ad zz hJ σ τ a1 (A1) t1 hI106) cw_RX12_331 (jc_55 cI cL ad σ τ) rfl ⟨Nat.le_of_ble_eq_true rfl, Nat.le_of_ble_eq_true rfl⟩ rfl rfl rfl hl.1 rfl (Nat.le_of_ble_eq_true rfl) dX12_game_2 ⟨Nat.zero_le _, Nat.zero_le _⟩ (fun r15 σ14 τ14 H locs h14 hP hS => ?_)
  obtain ⟨⟨rfl, rfl⟩, h14⟩ := h14
  rcases h14 with h16 | h17
  · obtain ⟨q19, k18⟩ := h16
    have q19 := q19.symm
    subst q19
    refine lv_if_ne (tgt := 10) hx hb dX12_game_5 (by decide) (fun _ => ?_) (fun c => absurd c (by decide))
    refine lv_aload_n hx hb dX12_game_10 rfl (lv_at hl 0 rfl) ?_
    refine va_get (D := D) hx hb hts inlX12 hown hK hP 55 (jc_55 cI cL ad σ τ) rfl 12 (by decide) (hts _ kw_8_16) (fun _ h9 => h9) rfl dX12_game_11 ?_
    refine lv_bipush (v := 8) hx hb dX12_game_14 (by decide) ?_
    refine lv_icmp_le (tgt := 22) hx hb dX12_game_16 (by decide) (fun c20 => ?_) (fun c20 => ?_)
    · have kc20 := jle c20 rfl jz_8
      refine lv_aload_n hx hb dX12_game_22 rfl (lv_at hl 0 rfl) ?_
      have w21 : ∀ k : Nat, k < 4 → 0 ≤ (σ 68 k).toInt ∧ (σ 68 k).toInt ≤ 3 := hI119
      refine jcallVv (As := []) (rest := []) ⟨hx, hb, hml, hown, hts⟩ hK hP hA hS hZ (c_X12_begin l D cI cL ad zz hJ σ τ hI104 w21) cw_RX12_256 (jc_55 cI cL ad σ τ) rfl ⟨Nat.le_of_ble_eq_true rfl, Nat.le_of_ble_eq_true rfl⟩ rfl rfl rfl hl.1 rfl (Nat.le_of_ble_eq_true rfl) dX12_game_23 ⟨Nat.zero_le _, Nat.zero_le _⟩ (fun σ22 τ22 H locs h22 hP hS => ?_)
      obtain ⟨rfl, f24, f25, I26, h22⟩ := h22
      obtain ⟨i27, i28, i29, i30, i31, w32⟩ : (0 ≤ (σ22 55 25).toInt) ∧ ((σ22 55 25).toInt ≤ (σ22 55 10).toInt) ∧ (0 ≤ (σ22 55 26).toInt) ∧ ((σ22 55 26).toInt ≤ (σ22 55 12).toInt) ∧ ((-1) ≤ (σ22 55 27).toInt ∧ (σ22 55 27).toInt ≤ 3) ∧ (∀ k : Nat, k < 4 → 0 ≤ (σ22 68 k).toInt ∧ (σ22 68 k).toInt ≤ 3) := id I26
      have z33 : (σ22 55 10).toInt = (σ 55 10).toInt := (congrArg Int32.toInt (show σ22 55 10 = (σ 55 10) from (f25 10 (by decide))))
      have z34 : (σ22 55 12).toInt = (σ 55 12).toInt := (congrArg Int32.toInt (show σ22 55 12 = (σ 55 12) from (f25 12 (by decide))))
      obtain ⟨k35, k36, k37, h22⟩ := h22
      refine lv_aload_n hx hb dX12_game_26 rfl (lv_at hl 0 rfl) ?_
      refine jcallVv (As := []) (rest := []) ⟨hx, hb, hml, hown, hts⟩ hK hP hA hS hZ (c_X12_forgets l D cI cL ad zz hJ σ22 τ) cw_RX12_341 (jc_55 cI cL ad σ22 τ) rfl ⟨Nat.le_of_ble_eq_true rfl, Nat.le_of_ble_eq_true rfl⟩ rfl rfl rfl hl.1 rfl (Nat.le_of_ble_eq_true rfl) dX12_game_27 ⟨Nat.zero_le _, Nat.zero_le _⟩ (fun σ38 τ38 H locs h38 hP hS => ?_)
      obtain ⟨rfl, f40, f41, h38⟩ := h38
      refine lv_aload_n hx hb dX12_game_30 rfl (lv_at hl 0 rfl) ?_
      refine lv_iconst (v := 0) hx hb dX12_game_31 (by decide) ?_
      refine jput (ty := .int) hx hb hts inlX12 tyX12 tyX12_ok nmX12 hown hK hP hJ hA hS (jc_55 cI cL ad σ38 τ) rfl (k := 50) (by decide) (Nat.le_of_ble_eq_true rfl) (jp_55_50 cI cL ad σ38 τ 0) (hts _ kw_46_13) (fun _ h9 => h9) rfl (by decide +kernel) rfl rfl dX12_game_32 (fun σ42 H locs eσ42 hP hS => ?_)
      refine lv_iload_n hx hb dX12_game_35 rfl (lv_at hl 2 rfl) ?_
      refine lv_istore_n (lv' := [(3, .int a2), (0, .ref (ad 55)), (1, .int a1), (2, .int a2)]) hx hb dX12_game_36 rfl hl (by decide) rfl (fun ls hl => ?_)
      refine lv_iconst (v := 0) hx hb dX12_game_37 (by decide) ?_
      refine lv_istore (lv' := [(4, .int 0), (3, .int a2), (0, .ref (ad 55)), (1, .int a1), (2, .int a2)]) hx hb dX12_game_38 hl (by decide) rfl (fun ls hl => ?_)
      refine lv_iconst (v := 0) hx hb dX12_game_40 (by decide) ?_
      refine lv_istore (lv' := [(5, .int 0), (4, .int 0), (3, .int a2), (0, .ref (ad 55)), (1, .int a1), (2, .int a2)]) hx hb dX12_game_41 hl (by decide) rfl (fun ls hl => ?_)
      have z53 : (σ42 55 50).toInt = 0 := ((congrArg Int32.toInt (show σ42 55 50 = 0 from (jsp eσ42))).trans jz_0)
      have I54 : jI109 σ42 := (show 0 ≤ (σ42 55 50).toInt ∧ (σ42 55 50).toInt ≤ 12 by omega)
      have w55 : ∀ k : Nat, k < 4 → 0 ≤ (σ42 68 k).toInt ∧ (σ42 68 k).toInt ≤ 3 := (jrr_fr (jnp 68 eσ42 (by decide)) (jrr_fr (f40 68 (by decide)) w32))
      have I56 : jI119 σ42 := w55
      have z57 : (σ42 55 12).toInt = (σ 55 12).toInt := (congrArg Int32.toInt (show σ42 55 12 = (σ 55 12) from ((jkp 12 eσ42 (by decide)).trans ((f41 12 (by decide)).trans (f25 12 (by decide))))))
      have z58 : (σ42 55 26).toInt = (σ22 55 26).toInt := (congrArg Int32.toInt (show σ42 55 26 = (σ22 55 26) from ((jkp 26 eσ42 (by decide)).trans (f41 26 (by decide)))))
      have z59 : (σ42 55 25).toInt = (σ22 55 25).toInt := (congrArg Int32.toInt (show σ42 55 25 = (σ22 55 25) from ((jkp 25 eσ42 (by decide)).trans (f41 25 (by decide)))))
      have z60 : (σ42 55 10).toInt = (σ 55 10).toInt := (congrArg Int32.toInt (show σ42 55 10 = (σ 55 10) from ((jkp 10 eσ42 (by decide)).trans ((f41 10 (by decide)).trans (f25 10 (by decide))))))
      have z61 : (σ42 55 27).toInt = (σ22 55 27).toInt := (congrArg Int32.toInt (show σ42 55 27 = (σ22 55 27) from ((jkp 27 eσ42 (by decide)).trans (f41 27 (by decide)))))
      have p62 : jKept σ42 := jKept.fr ((jnp 75 eσ42 (by decide)).trans ((f40 75 (by decide)).trans (f24 75 (by decide)))) ((jnp 76 eσ42 (by decide)).trans ((f40 76 (by decide)).trans (f24 76 (by decide)))) ((jnp 77 eσ42 (by decide)).trans ((f40 77 (by decide)).trans (f24 77 (by decide)))) hs_jKept
      have lp43 : ∀ (n44 : Nat) (x45 : Int32) (x46 : Int32) (x47 : Int32) (σ52 : Nat → Nat → Int32) (H : Heap) (locs : List Loc) (ls : Array Slot), ((σ52 55 12).toInt - (σ52 55 26).toInt : Int) < n44 → 0 ≤ (σ52 55 25).toInt → (σ52 55 25).toInt ≤ (σ52 55 10).toInt → 0 ≤ (σ52 55 26).toInt → (σ52 55 26).toInt ≤ (σ52 55 12).toInt → (-1) ≤ (σ52 55 27).toInt ∧ (σ52 55 27).toInt ≤ 3 → (σ52 55 50).toInt = (σ52 55 26).toInt → (∀ i : Nat, (i < 55 ∨ 55 < i) ∧ (i < 66 ∨ 66 < i) ∧ (i < 68 ∨ 69 < i) ∧ (i < 74 ∨ 78 < i) ∧ (i < 82 ∨ 84 < i) → σ52 i = σ42 i) → (∀ k : Nat, (k < 18 ∨ 18 < k) ∧ (k < 19 ∨ 19 < k) ∧ (k < 20 ∨ 20 < k) ∧ (k < 21 ∨ 21 < k) ∧ (k < 22 ∨ 22 < k) ∧ (k < 25 ∨ 25 < k) ∧ (k < 26 ∨ 26 < k) ∧ (k < 27 ∨ 27 < k) ∧ (k < 37 ∨ 37 < k) ∧ (k < 50 ∨ 50 < k) → σ52 55 k = σ42 55 k) → jKept σ52 → jI109 σ52 → jI119 σ52 → jH D cI cL ad σ52 τ H → va_S (jA ad) s.heap H locs → lv_has ls 10 [(5, .int x47), (4, .int x46), (3, .int x45), (0, .ref (ad 55)), (1, .int a1), (2, .int a2)] → W p l e ({ frames := 104, cells := 0, slots := 0, locals := 5087 }) s m args below meth c H locs 0 0 Q (F0 m 43 ls []) := by
        intro n44
        induction n44 with
        | zero => intro x45 x46 x47 σ52 H locs ls h63 h64 h65 h66 h67 h68 h69; have gx45 := jrg (rfl : x45.toInt = x45.toInt); have gx46 := jrg (rfl : x46.toInt = x46.toInt); have gx47 := jrg (rfl : x47.toInt = x47.toInt); exact absurd h63 (by omega)
        | succ n44 ihlp43 =>
          intro x45 x46 x47 σ52 H locs ls h63 h64 h65 h66 h67 h68 h69 f70 f71 p72 p73 p74 hP hS hl
          have gx45 := jrg (rfl : x45.toInt = x45.toInt); have gx46 := jrg (rfl : x46.toInt = x46.toInt); have gx47 := jrg (rfl : x47.toInt = x47.toInt)
          have i75 : 0 ≤ (σ52 55 50).toInt ∧ (σ52 55 50).toInt ≤ 12 := p73
          have z76 : (σ52 55 12).toInt = (σ 55 12).toInt := (congrArg Int32.toInt (show σ52 55 12 = (σ 55 12) from ((f71 12 (by decide)).trans ((jkp 12 eσ42 (by decide)).trans ((f41 12 (by decide)).trans (f25 12 (by decide)))))))
          have z77 : (σ52 55 10).toInt = (σ 55 10).toInt := (congrArg Int32.toInt (show σ52 55 10 = (σ 55 10) from ((f71 10 (by decide)).trans ((jkp 10 eσ42 (by decide)).trans ((f41 10 (by decide)).trans (f25 10 (by decide)))))))
          refine lv_iload hx hb dX12_game_43 (lv_at hl 0 rfl) ?_
          refine lv_if_ne (tgt := 233) hx hb dX12_game_45 (by decide) (fun c78 => ?_) (fun c78 => ?_)
          · have kc78 := jne c78 rfl jz_0
            refine lv_iload hx hb dX12_game_233 (lv_at hl 1 rfl) ?_
            exact hret x46 σ52 τ _ _ _ _ rfl ⟨rfl, (fun i hi => ((f70 i hi).trans ((jnp i eσ42 (imp_281 i hi)).trans ((f40 i (imp_282 i hi)).trans (f24 i (imp_283 i hi)))))), (fun i hi => ((f71 i (imp_284 i hi)).trans ((jkp i eσ42 (imp_285 i hi)).trans ((f41 i (imp_286 i hi)).trans (f25 i (imp_287 i hi)))))), p73, p74, p72, trivial⟩ hP hS dX12_game_235
          · have kc78 := jeq c78 rfl jz_0
            refine lv_aload_n hx hb dX12_game_48 rfl (lv_at hl 3 rfl) ?_
            have I79 : jI102 σ52 := jI102_fr ((f71 6 (by decide)).trans ((jkp 6 eσ42 (by decide)).trans ((f41 6 (by decide)).trans (f25 6 (by decide))))) ((f70 60 (by decide)).trans ((jnp 60 eσ42 (by decide)).trans ((f40 60 (by decide)).trans (f24 60 (by decide))))) ((f70 61 (by decide)).trans ((jnp 61 eσ42 (by decide)).trans ((f40 61 (by decide)).trans (f24 61 (by decide))))) hI102
            have I80 : jI104 σ52 := jI104_fr ((f71 10 (by decide)).trans ((jkp 10 eσ42 (by decide)).trans ((f41 10 (by decide)).trans (f25 10 (by decide))))) ((f71 12 (by decide)).trans ((jkp 12 eσ42 (by decide)).trans ((f41 12 (by decide)).trans (f25 12 (by decide))))) ((f71 13 (by decide)).trans ((jkp 13 eσ42 (by decide)).trans ((f41 13 (by decide)).trans (f25 13 (by decide))))) ((f70 62 (by decide)).trans ((jnp 62 eσ42 (by decide)).trans ((f40 62 (by decide)).trans (f24 62 (by decide))))) ((f70 67 (by decide)).trans ((jnp 67 eσ42 (by decide)).trans ((f40 67 (by decide)).trans (f24 67 (by decide))))) hI104
            have w81 : ∀ k : Nat, k < 4 → 0 ≤ (σ52 68 k).toInt ∧ (σ52 68 k).toInt ≤ 3 := p74
            have I82 : jI120 σ52 := ⟨(by omega), (by omega), (by omega), (by omega), (by omega), w81⟩
            refine jcallV (As := []) (rest := []) ⟨hx, hb, hml, hown, hts⟩ hK hP hA hS hZ (c_X12_isEnded l D cI cL ad zz hJ σ52 τ I79 I80 I82) cw_RX12_307 (jc_55 cI cL ad σ52 τ) rfl ⟨Nat.le_of_ble_eq_true rfl, Nat.le_of_ble_eq_true rfl⟩ rfl rfl rfl hl.1 rfl (Nat.le_of_ble_eq_true rfl) dX12_game_49 ⟨Nat.zero_le _, Nat.zero_le _⟩ (fun r84 σ83 τ83 H locs h83 hP hS => ?_)
            obtain ⟨⟨rfl, rfl⟩, h83⟩ := h83
            rcases h83 with h85 | h86
            · obtain ⟨q88, k87⟩ := h85
              have q88 := q88.symm
              subst q88
              refine lv_if_ne (tgt := 233) hx hb dX12_game_52 (by decide) (fun _ => ?_) (fun c => absurd c (by decide))
              refine lv_iload hx hb dX12_game_233 (lv_at hl 1 rfl) ?_
              exact hret x46 σ52 τ _ _ _ _ rfl ⟨rfl, (fun i hi => ((f70 i hi).trans ((jnp i eσ42 (imp_281 i hi)).trans ((f40 i (imp_282 i hi)).trans (f24 i (imp_283 i hi)))))), (fun i hi => ((f71 i (imp_284 i hi)).trans ((jkp i eσ42 (imp_285 i hi)).trans ((f41 i (imp_286 i hi)).trans (f25 i (imp_287 i hi)))))), p73, p74, p72, trivial⟩ hP hS dX12_game_235
            · obtain ⟨q92, k89, k90, k91⟩ := h86
              have q92 := q92.symm
              subst q92
              obtain ⟨B93, k94, k95, w96⟩ := k91
              have z97 : (σ52 55 6).toInt = (σ 55 6).toInt := (congrArg Int32.toInt (show σ52 55 6 = (σ 55 6) from ((f71 6 (by decide)).trans ((jkp 6 eσ42 (by decide)).trans ((f41 6 (by decide)).trans (f25 6 (by decide)))))))
              refine lv_if_ne (tgt := 233) hx hb dX12_game_52 (by decide) (fun c => absurd (by decide) c) (fun _ => ?_)
              refine lv_aload_n hx hb dX12_game_55 rfl (lv_at hl 3 rfl) ?_
              refine lv_iload_n hx hb dX12_game_56 rfl (lv_at hl 4 rfl) ?_
              have p98 : jmb σ52 B93 = 1 := (jmb_fr rfl rfl rfl rfl rfl B93).trans w96
              have I99 : jI101 σ52 := jI101_fr ((f71 4 (by decide)).trans ((jkp 4 eσ42 (by decide)).trans ((f41 4 (by decide)).trans (f25 4 (by decide))))) ((f71 5 (by decide)).trans ((jkp 5 eσ42 (by decide)).trans ((f41 5 (by decide)).trans (f25 5 (by decide))))) ((f70 56 (by decide)).trans ((jnp 56 eσ42 (by decide)).trans ((f40 56 (by decide)).trans (f24 56 (by decide))))) ((f70 57 (by decide)).trans ((jnp 57 eσ42 (by decide)).trans ((f40 57 (by decide)).trans (f24 57 (by decide))))) ((f70 58 (by decide)).trans ((jnp 58 eσ42 (by decide)).trans ((f40 58 (by decide)).trans (f24 58 (by decide))))) ((f70 59 (by decide)).trans ((jnp 59 eσ42 (by decide)).trans ((f40 59 (by decide)).trans (f24 59 (by decide))))) hI101
              have I100 : jI103 σ52 := jI103_fr ((f71 9 (by decide)).trans ((jkp 9 eσ42 (by decide)).trans ((f41 9 (by decide)).trans (f25 9 (by decide))))) hI103
              have I101 : jI105 σ52 := jI105_fr ((f71 15 (by decide)).trans ((jkp 15 eσ42 (by decide)).trans ((f41 15 (by decide)).trans (f25 15 (by decide))))) ((f70 65 (by decide)).trans ((jnp 65 eσ42 (by decide)).trans ((f40 65 (by decide)).trans (f24 65 (by decide))))) hI105
              have I102 : jI106 σ52 := jI106_fr ((f71 32 (by decide)).trans ((jkp 32 eσ42 (by decide)).trans ((f41 32 (by decide)).trans (f25 32 (by decide))))) ((f70 70 (by decide)).trans ((jnp 70 eσ42 (by decide)).trans ((f40 70 (by decide)).trans (f24 70 (by decide))))) ((f70 71 (by decide)).trans ((jnp 71 eσ42 (by decide)).trans ((f40 71 (by decide)).trans (f24 71 (by decide))))) ((f70 72 (by decide)).trans ((jnp 72 eσ42 (by decide)).trans ((f40 72 (by decide)).trans (f24 72 (by decide))))) hI106
              have z103 : (σ52 70 a1.toNatClampNeg).toInt = (σ 70 a1.toNatClampNeg).toInt := by rw [f70 70 (by decide), jnp 70 eσ42 (by decide), f40 70 (by decide), f24 70 (by decide)]
              refine jcallV (As := [.int a1]) (rest := []) ⟨hx, hb, hml, hown, hts⟩ hK hP hA hS hZ (c_X12_putsOn l D cI cL ad zz hJ σ52 τ B93 p98 a1 (A1) t1 I99 I79 I100 I80 I101 I102 I82 p72 (by omega) (by omega) (by omega) (by omega) (by omega)) cw_RX12_321 (jc_55 cI cL ad σ52 τ) rfl ⟨Nat.le_of_ble_eq_true rfl, Nat.le_of_ble_eq_true rfl⟩ rfl rfl rfl hl.1 rfl (Nat.le_of_ble_eq_true rfl) dX12_game_57 ⟨Nat.zero_le _, Nat.zero_le _⟩ (fun r105 σ104 τ104 H locs h104 hP hS => ?_)
              obtain ⟨rfl, f106, f107, p108, h104⟩ := h104
              have h109 := h104
              obtain ⟨q111, k110⟩ := h109
              refine lv_istore (lv' := [(6, .int r105), (5, .int x47), (4, .int x46), (3, .int x45), (0, .ref (ad 55)), (1, .int a1), (2, .int a2)]) hx hb dX12_game_60 hl (by decide) rfl (fun ls hl => ?_)
              refine lv_aload_n hx hb dX12_game_62 rfl (lv_at hl 4 rfl) ?_
              refine va_get (D := D) hx hb hts inlX12 hown hK hP 55 (jc_55 cI cL ad σ104 τ) rfl 11 (by decide) (hts _ kw_7_8) (fun _ h9 => h9) rfl dX12_game_63 ?_
              refine lv_aload_n hx hb dX12_game_66 rfl (lv_at hl 4 rfl) ?_
              refine va_get (D := D) hx hb hts inlX12 hown hK hP 55 (jc_55 cI cL ad σ104 τ) rfl 25 (by decide) (hts _ kw_23_6) (fun _ h9 => h9) rfl dX12_game_67 ?_
              have m112 : σ104 55 25 = (σ52 55 25) := (f107 25 (by decide))
              refine jtopr m112 ?_
              refine jald hx hb hK hP (jc_62 cI cL ad σ104 τ) (jin rfl (by omega) (by omega)) dX12_game_70 ?_
              have w113 : ∀ k : Nat, k < 8 → 0 ≤ (σ104 62 k).toInt ∧ (σ104 62 k).toInt ≤ 3 := (jrr_fr (f106 62 (by decide)) (jrr_fr (f70 62 (by decide)) (jrr_fr (jnp 62 eσ42 (by decide)) (jrr_fr (f40 62 (by decide)) (jrr_fr (f24 62 (by decide)) w7)))))
              have g114 := w113 _ (jnat (x := (σ52 55 25)) rfl (n := 8) (by omega) (by decide))
              refine lv_topi (fun x115 ex115 => ?_)
              rw [← ex115] at g114
              refine lv_istore (lv' := [(7, .int x115), (6, .int r105), (5, .int x47), (4, .int x46), (3, .int x45), (0, .ref (ad 55)), (1, .int a1), (2, .int a2)]) hx hb dX12_game_71 hl (by decide) rfl (fun ls hl => ?_)
              refine lv_aload_n hx hb dX12_game_73 rfl (lv_at hl 5 rfl) ?_
              refine lv_iload hx hb dX12_game_74 (lv_at hl 1 rfl) ?_
              refine lv_iload hx hb dX12_game_76 (lv_at hl 0 rfl) ?_
              have I116 : jI101 σ104 := jI101_fr (f107 4 (by decide)) (f107 5 (by decide)) (f106 56 (by decide)) (f106 57 (by decide)) (f106 58 (by decide)) (f106 59 (by decide)) I99
              have I117 : jI102 σ104 := jI102_fr (f107 6 (by decide)) (f106 60 (by decide)) (f106 61 (by decide)) I79
              have I118 : jI103 σ104 := jI103_fr (f107 9 (by decide)) I100
              have I119 : jI105 σ104 := jI105_fr (f107 15 (by decide)) (f106 65 (by decide)) I101
              have w120 : ∀ k : Nat, k < 4 → 0 ≤ (σ104 68 k).toInt ∧ (σ104 68 k).toInt ≤ 3 := (jrr_fr (f106 68 (by decide)) w81)
              refine jcallV (As := [.int r105, .int x115]) (rest := []) ⟨hx, hb, hml, hown, hts⟩ hK hP hA hS hZ (c_X12_outBy l D cI cL ad zz hJ σ104 τ r105 (r105.toInt) rfl x115 (x115.toInt) rfl I116 I117 I118 I119 w120 (by omega) (by omega)) cw_RX12_259 (jc_55 cI cL ad σ104 τ) rfl ⟨Nat.le_of_ble_eq_true rfl, Nat.le_of_ble_eq_true rfl⟩ rfl rfl rfl hl.1 rfl (Nat.le_of_ble_eq_true rfl) dX12_game_78 ⟨Nat.zero_le _, Nat.zero_le _⟩ (fun r122 σ121 τ121 H locs h121 hP hS => ?_)
              obtain ⟨rfl, f123, f124, h121⟩ := h121
              have h125 := h121
              obtain ⟨q127, k126⟩ := h125
              refine lv_istore (lv' := [(8, .int r122), (7, .int x115), (6, .int r105), (5, .int x47), (4, .int x46), (3, .int x45), (0, .ref (ad 55)), (1, .int a1), (2, .int a2)]) hx hb dX12_game_81 hl (by decide) rfl (fun ls hl => ?_)
              refine lv_aload_n hx hb dX12_game_83 rfl (lv_at hl 6 rfl) ?_
              refine va_get (D := D) hx hb hts inlX12 hown hK hP 55 (jc_55 cI cL ad σ121 τ) rfl 51 (by decide) (hts _ kw_8_7) (fun _ h9 => h9) rfl dX12_game_84 ?_
              refine lv_aload_n hx hb dX12_game_87 rfl (lv_at hl 6 rfl) ?_
              refine va_get (D := D) hx hb hts inlX12 hown hK hP 55 (jc_55 cI cL ad σ121 τ) rfl 50 (by decide) (hts _ kw_46_13) (fun _ h9 => h9) rfl dX12_game_88 ?_
              have m128 : σ121 55 50 = (σ52 55 50) := ((f124 50 (by decide)).trans (f107 50 (by decide)))
              refine jtopr m128 ?_
              refine lv_iload hx hb dX12_game_91 (lv_at hl 2 rfl) ?_
              refine jast hx hb hK hP hJ hA hS (jc_82 cI cL ad σ121 τ) (ja_82 cI cL ad σ121 τ _ _) (jin rfl (by omega) (by omega)) dX12_game_93 (fun σ129 H locs eσ129 hP hS => ?_)
              refine lv_aload_n hx hb dX12_game_94 rfl (lv_at hl 6 rfl) ?_
              refine va_get (D := D) hx hb hts inlX12 hown hK hP 55 (jc_55 cI cL ad σ129 τ) rfl 52 (by decide) (hts _ kw_8_8) (fun _ h9 => h9) rfl dX12_game_95 ?_
              refine lv_aload_n hx hb dX12_game_98 rfl (lv_at hl 6 rfl) ?_
              refine va_get (D := D) hx hb hts inlX12 hown hK hP 55 (jc_55 cI cL ad σ129 τ) rfl 50 (by decide) (hts _ kw_46_13) (fun _ h9 => h9) rfl dX12_game_99 ?_
              have m130 : σ129 55 50 = (σ52 55 50) := ((congrFun (jnp 55 eσ129 (by decide)) 50).trans m128)
              refine jtopr m130 ?_
              refine lv_aload_n hx hb dX12_game_102 rfl (lv_at hl 6 rfl) ?_
              refine lv_iload hx hb dX12_game_103 (lv_at hl 2 rfl) ?_
              refine lv_iload hx hb dX12_game_105 (lv_at hl 1 rfl) ?_
              have I131 : jI101 σ129 := jI101_fr ((congrFun (jnp 55 eσ129 (by decide)) 4).trans (f124 4 (by decide))) ((congrFun (jnp 55 eσ129 (by decide)) 5).trans (f124 5 (by decide))) ((jnp 56 eσ129 (by decide)).trans (f123 56 (by decide))) ((jnp 57 eσ129 (by decide)).trans (f123 57 (by decide))) ((jnp 58 eσ129 (by decide)).trans (f123 58 (by decide))) ((jnp 59 eσ129 (by decide)).trans (f123 59 (by decide))) I116
              have I132 : jI102 σ129 := jI102_fr ((congrFun (jnp 55 eσ129 (by decide)) 6).trans (f124 6 (by decide))) ((jnp 60 eσ129 (by decide)).trans (f123 60 (by decide))) ((jnp 61 eσ129 (by decide)).trans (f123 61 (by decide))) I117
              have I133 : jI103 σ129 := jI103_fr ((congrFun (jnp 55 eσ129 (by decide)) 9).trans (f124 9 (by decide))) I118
              have w134 : ∀ k : Nat, k < 4 → 0 ≤ (σ129 68 k).toInt ∧ (σ129 68 k).toInt ≤ 3 := (jrr_fr (jnp 68 eσ129 (by decide)) (jrr_fr (f123 68 (by decide)) w120))
              refine jcallV (As := [.int r105, .int x115]) (rest := [.int (σ52 55 50), .ref (ad 83)]) ⟨hx, hb, hml, hown, hts⟩ hK hP hA hS hZ (c_X12_runsBy l D cI cL ad zz hJ σ129 τ r105 (r105.toInt) rfl x115 (x115.toInt) rfl I131 I132 I133 w134 (by omega) (by omega)) cw_RX12_262 (jc_55 cI cL ad σ129 τ) rfl ⟨Nat.le_of_ble_eq_true rfl, Nat.le_of_ble_eq_true rfl⟩ rfl rfl rfl hl.1 rfl (Nat.le_of_ble_eq_true rfl) dX12_game_107 ⟨Nat.zero_le _, Nat.zero_le _⟩ (fun r136 σ135 τ135 H locs h135 hP hS => ?_)
              obtain ⟨⟨rfl, rfl⟩, h135⟩ := h135
              have h137 := h135
              obtain ⟨q139, k138⟩ := h137
              refine jast hx hb hK hP hJ hA hS (jc_83 cI cL ad σ129 τ) (ja_83 cI cL ad σ129 τ _ _) (jin rfl (by omega) (by omega)) dX12_game_110 (fun σ140 H locs eσ140 hP hS => ?_)
              refine lv_iload hx hb dX12_game_111 (lv_at hl 4 rfl) ?_
              refine lv_aload_n hx hb dX12_game_113 rfl (lv_at hl 6 rfl) ?_
              refine va_get (D := D) hx hb hts inlX12 hown hK hP 55 (jc_55 cI cL ad σ140 τ) rfl 52 (by decide) (hts _ kw_8_8) (fun _ h9 => h9) rfl dX12_game_114 ?_
              refine lv_aload_n hx hb dX12_game_117 rfl (lv_at hl 6 rfl) ?_
              refine va_get (D := D) hx hb hts inlX12 hown hK hP 55 (jc_55 cI cL ad σ140 τ) rfl 50 (by decide) (hts _ kw_46_13) (fun _ h9 => h9) rfl dX12_game_118 ?_
              have m141 : σ140 55 50 = (σ52 55 50) := ((congrFun (jnp 55 eσ140 (by decide)) 50).trans m130)
              refine jtopr m141 ?_
              refine jald hx hb hK hP (jc_83 cI cL ad σ140 τ) (jin rfl (by omega) (by omega)) dX12_game_121 ?_
              refine lv_topi (fun x142 ex142 => ?_)
              have g143 := jrg (rfl : x46.toInt = x46.toInt)
              have g144 := jrg (rfl : x142.toInt = x142.toInt)
              refine lv_iadd hx hb dX12_game_122 ?_
              refine lv_topi (fun x145 ex145 => ?_)
              have gx145 := jrg (rfl : x145.toInt = x145.toInt)
              refine lv_istore (lv' := [(4, .int x145), (8, .int r122), (7, .int x115), (6, .int r105), (5, .int x47), (3, .int x45), (0, .ref (ad 55)), (1, .int a1), (2, .int a2)]) hx hb dX12_game_123 hl (by decide) rfl (fun ls hl => ?_)
              refine lv_iload_n hx hb dX12_game_125 rfl (lv_at hl 5 rfl) ?_
              refine lv_ldcw (v := 1103515245) hx hb hown (hts _ kw_46_14) dX12_game_126 ?_
              have g146 := jrg (rfl : x45.toInt = x45.toInt)
              refine lv_imul hx hb dX12_game_129 ?_
              refine lv_topi (fun x147 ex147 => ?_)
              have gx147 := jrg (rfl : x147.toInt = x147.toInt)
              refine lv_sipush (v := 12345) hx hb dX12_game_130 (by decide) ?_
              have g148 := jrg (rfl : x147.toInt = x147.toInt)
              refine lv_iadd hx hb dX12_game_133 ?_
              refine lv_topi (fun x149 ex149 => ?_)
              have gx149 := jrg (rfl : x149.toInt = x149.toInt)
              refine lv_istore_n (lv' := [(3, .int x149), (4, .int x145), (8, .int r122), (7, .int x115), (6, .int r105), (5, .int x47), (0, .ref (ad 55)), (1, .int a1), (2, .int a2)]) hx hb dX12_game_134 rfl hl (by decide) rfl (fun ls hl => ?_)
              refine lv_aload_n hx hb dX12_game_135 rfl (lv_at hl 6 rfl) ?_
              refine va_get (D := D) hx hb hts inlX12 hown hK hP 55 (jc_55 cI cL ad σ140 τ) rfl 53 (by decide) (hts _ kw_8_9) (fun _ h9 => h9) rfl dX12_game_136 ?_
              refine lv_aload_n hx hb dX12_game_139 rfl (lv_at hl 6 rfl) ?_
              refine va_get (D := D) hx hb hts inlX12 hown hK hP 55 (jc_55 cI cL ad σ140 τ) rfl 50 (by decide) (hts _ kw_46_13) (fun _ h9 => h9) rfl dX12_game_140 ?_
              refine jtopr m141 ?_
              refine lv_iload_n hx hb dX12_game_143 rfl (lv_at hl 0 rfl) ?_
              refine lv_bipush (v := 8) hx hb dX12_game_144 (by decide) ?_
              refine lv_iushr hx hb dX12_game_146 rfl ?_
              refine lv_topi (fun x150 ex150 => ?_)
              have gx150 := jrg (rfl : x150.toInt = x150.toInt)
              have g151 : 0 ≤ x150.toInt ∧ x150.toInt ≤ 16777215 := jushr8 ex150
              refine lv_sipush (v := 1000) hx hb dX12_game_147 (by decide) ?_
              refine lv_irem hx hb dX12_game_150 (by decide) ?_
              refine lv_topi (fun x152 ex152 => ?_)
              have tx152 : x152.toInt = (x150.toInt % 1000) := jrem ex152 rfl jz_1000 (by omega)
              refine lv_iload hx hb dX12_game_151 (lv_at hl 2 rfl) ?_
              refine lv_icmp_ge (tgt := 160) hx hb dX12_game_153 (by decide) (fun c153 => ?_) (fun c153 => ?_)
              · have kc153 := jle c153 rfl tx152
                refine lv_iconst (v := 0) hx hb dX12_game_160 (by decide) ?_
                refine jast hx hb hK hP hJ hA hS (jc_84 cI cL ad σ140 τ) (ja_84 cI cL ad σ140 τ _ _) (jin rfl (by omega) (by omega)) dX12_game_161 (fun σ154 H locs eσ154 hP hS => ?_)
                refine lv_aload_n hx hb dX12_game_162 rfl (lv_at hl 6 rfl) ?_
                refine lv_iload hx hb dX12_game_163 (lv_at hl 4 rfl) ?_
                refine lv_aload_n hx hb dX12_game_165 rfl (lv_at hl 6 rfl) ?_
                refine va_get (D := D) hx hb hts inlX12 hown hK hP 55 (jc_55 cI cL ad σ154 τ) rfl 53 (by decide) (hts _ kw_8_9) (fun _ h9 => h9) rfl dX12_game_166 ?_
                refine lv_aload_n hx hb dX12_game_169 rfl (lv_at hl 6 rfl) ?_
                refine va_get (D := D) hx hb hts inlX12 hown hK hP 55 (jc_55 cI cL ad σ154 τ) rfl 50 (by decide) (hts _ kw_46_13) (fun _ h9 => h9) rfl dX12_game_170 ?_
                have m155 : σ154 55 50 = (σ52 55 50) := ((congrFun (jnp 55 eσ154 (by decide)) 50).trans m141)
                refine jtopr m155 ?_
                refine jald hx hb hK hP (jc_84 cI cL ad σ154 τ) (jin rfl (by omega) (by omega)) dX12_game_173 ?_
                refine lv_topi (fun x156 ex156 => ?_)
                refine lv_iconst (v := 1) hx hb dX12_game_174 (by decide) ?_
                refine lv_icmp_ne (tgt := 182) hx hb dX12_game_175 (by decide) (fun c157 => ?_) (fun c157 => ?_)
                · have kc157 := jne c157 rfl jz_1
                  refine lv_iconst (v := 0) hx hb dX12_game_182 (by decide) ?_
                  have w158 : ∀ k : Nat, k < 4 → 0 ≤ (σ154 68 k).toInt ∧ (σ154 68 k).toInt ≤ 3 := (jrr_fr (jnp 68 eσ154 (by decide)) (jrr_fr (jnp 68 eσ140 (by decide)) w134))
                  have z159 : (σ154 55 6).toInt = (σ 55 6).toInt := (congrArg Int32.toInt (show σ154 55 6 = (σ 55 6) from ((congrFun (jnp 55 eσ154 (by decide)) 6).trans ((congrFun (jnp 55 eσ140 (by decide)) 6).trans ((congrFun (jnp 55 eσ129 (by decide)) 6).trans ((f124 6 (by decide)).trans ((f107 6 (by decide)).trans ((f71 6 (by decide)).trans ((jkp 6 eσ42 (by decide)).trans ((f41 6 (by decide)).trans (f25 6 (by decide))))))))))))
                  have z160 : (σ154 55 27).toInt = (σ52 55 27).toInt := (congrArg Int32.toInt (show σ154 55 27 = (σ52 55 27) from ((congrFun (jnp 55 eσ154 (by decide)) 27).trans ((congrFun (jnp 55 eσ140 (by decide)) 27).trans ((congrFun (jnp 55 eσ129 (by decide)) 27).trans ((f124 27 (by decide)).trans (f107 27 (by decide))))))))
                  have z161 : (σ154 55 25).toInt = (σ52 55 25).toInt := (congrArg Int32.toInt (show σ154 55 25 = (σ52 55 25) from ((congrFun (jnp 55 eσ154 (by decide)) 25).trans ((congrFun (jnp 55 eσ140 (by decide)) 25).trans ((congrFun (jnp 55 eσ129 (by decide)) 25).trans ((f124 25 (by decide)).trans m112))))))
                  have z162 : (σ154 55 26).toInt = (σ52 55 26).toInt := (congrArg Int32.toInt (show σ154 55 26 = (σ52 55 26) from ((congrFun (jnp 55 eσ154 (by decide)) 26).trans ((congrFun (jnp 55 eσ140 (by decide)) 26).trans ((congrFun (jnp 55 eσ129 (by decide)) 26).trans ((f124 26 (by decide)).trans (f107 26 (by decide))))))))
                  have z163 : (σ154 68 0).toInt = (σ52 68 0).toInt := (congrArg Int32.toInt (show σ154 68 0 = (σ52 68 0) from ((congrFun (jnp 68 eσ154 (by decide)) 0).trans ((congrFun (jnp 68 eσ140 (by decide)) 0).trans ((congrFun (jnp 68 eσ129 (by decide)) 0).trans ((congrFun (f123 68 (by decide)) 0).trans (congrFun (f106 68 (by decide)) 0)))))))
                  have z164 : (σ154 68 1).toInt = (σ52 68 1).toInt := (congrArg Int32.toInt (show σ154 68 1 = (σ52 68 1) from ((congrFun (jnp 68 eσ154 (by decide)) 1).trans ((congrFun (jnp 68 eσ140 (by decide)) 1).trans ((congrFun (jnp 68 eσ129 (by decide)) 1).trans ((congrFun (f123 68 (by decide)) 1).trans (congrFun (f106 68 (by decide)) 1)))))))
                  have z165 : (σ154 68 2).toInt = (σ52 68 2).toInt := (congrArg Int32.toInt (show σ154 68 2 = (σ52 68 2) from ((congrFun (jnp 68 eσ154 (by decide)) 2).trans ((congrFun (jnp 68 eσ140 (by decide)) 2).trans ((congrFun (jnp 68 eσ129 (by decide)) 2).trans ((congrFun (f123 68 (by decide)) 2).trans (congrFun (f106 68 (by decide)) 2)))))))
                  have z166 : (σ154 68 3).toInt = (σ52 68 3).toInt := (congrArg Int32.toInt (show σ154 68 3 = (σ52 68 3) from ((congrFun (jnp 68 eσ154 (by decide)) 3).trans ((congrFun (jnp 68 eσ140 (by decide)) 3).trans ((congrFun (jnp 68 eσ129 (by decide)) 3).trans ((congrFun (f123 68 (by decide)) 3).trans (congrFun (f106 68 (by decide)) 3)))))))
                  refine jcallV (As := [.int r105, .int 0]) (rest := []) ⟨hx, hb, hml, hown, hts⟩ hK hP hA hS hZ (c_X12_goes_0 l D cI cL ad zz hJ σ154 τ r105 (r105.toInt) rfl w158 (by omega) (by omega) (by omega) (by omega) (by omega)) cw_RX12_296 (jc_55 cI cL ad σ154 τ) rfl ⟨Nat.le_of_ble_eq_true rfl, Nat.le_of_ble_eq_true rfl⟩ rfl rfl rfl hl.1 rfl (Nat.le_of_ble_eq_true rfl) dX12_game_183 ⟨Nat.zero_le _, Nat.zero_le _⟩ (fun r168 σ167 τ167 H locs h167 hP hS => ?_)
                  obtain ⟨rfl, f169, f170, w171, w172, w173, h167⟩ := h167
                  obtain ⟨k174, k175, k176, h167⟩ := h167
                  have h177 := h167
                  obtain ⟨q183, k178, k179, k180, k181, k182⟩ := h177
                  refine lv_istore (lv' := [(9, .int r168), (3, .int x149), (4, .int x145), (8, .int r122), (7, .int x115), (6, .int r105), (5, .int x47), (0, .ref (ad 55)), (1, .int a1), (2, .int a2)]) hx hb dX12_game_186 hl (by decide) rfl (fun ls hl => ?_)
                  refine lv_iload_n hx hb dX12_game_188 rfl (lv_at hl 1 rfl) ?_
                  refine lv_ldcw (v := 1103515245) hx hb hown (hts _ kw_46_14) dX12_game_189 ?_
                  have g184 := jrg (rfl : x149.toInt = x149.toInt)
                  refine lv_imul hx hb dX12_game_192 ?_
                  refine lv_topi (fun x185 ex185 => ?_)
                  have gx185 := jrg (rfl : x185.toInt = x185.toInt)
                  refine lv_sipush (v := 12345) hx hb dX12_game_193 (by decide) ?_
                  have g186 := jrg (rfl : x185.toInt = x185.toInt)
                  refine lv_iadd hx hb dX12_game_196 ?_
                  refine lv_topi (fun x187 ex187 => ?_)
                  have gx187 := jrg (rfl : x187.toInt = x187.toInt)
                  refine lv_istore_n (lv' := [(3, .int x187), (9, .int r168), (4, .int x145), (8, .int r122), (7, .int x115), (6, .int r105), (5, .int x47), (0, .ref (ad 55)), (1, .int a1), (2, .int a2)]) hx hb dX12_game_197 rfl hl (by decide) rfl (fun ls hl => ?_)
                  refine lv_iload_n hx hb dX12_game_198 rfl (lv_at hl 0 rfl) ?_
                  refine lv_bipush (v := 8) hx hb dX12_game_199 (by decide) ?_
                  refine lv_iushr hx hb dX12_game_201 rfl ?_
                  refine lv_topi (fun x188 ex188 => ?_)
                  have gx188 := jrg (rfl : x188.toInt = x188.toInt)
                  have g189 : 0 ≤ x188.toInt ∧ x188.toInt ≤ 16777215 := jushr8 ex188
                  refine lv_sipush (v := 1000) hx hb dX12_game_202 (by decide) ?_
                  refine lv_irem hx hb dX12_game_205 (by decide) ?_
                  refine lv_topi (fun x190 ex190 => ?_)
                  have tx190 : x190.toInt = (x188.toInt % 1000) := jrem ex190 rfl jz_1000 (by omega)
                  refine lv_aload_n hx hb dX12_game_206 rfl (lv_at hl 7 rfl) ?_
                  refine va_get (D := D) hx hb hts inlX12 hown hK hP 55 (jc_55 cI cL ad σ167 τ) rfl 13 (by decide) (hts _ kw_15_14) (fun _ h9 => h9) rfl dX12_game_207 ?_
                  have m191 : σ167 55 13 = (σ 55 13) := ((f170 13 (by decide)).trans ((congrFun (jnp 55 eσ154 (by decide)) 13).trans ((congrFun (jnp 55 eσ140 (by decide)) 13).trans ((congrFun (jnp 55 eσ129 (by decide)) 13).trans ((f124 13 (by decide)).trans ((f107 13 (by decide)).trans ((f71 13 (by decide)).trans ((jkp 13 eσ42 (by decide)).trans ((f41 13 (by decide)).trans (f25 13 (by decide)))))))))))
                  refine jtopr m191 ?_
                  refine lv_icmp_ge (tgt := 217) hx hb dX12_game_210 (by decide) (fun c192 => ?_) (fun c192 => ?_)
                  · have kc192 := jle c192 rfl tx190
                    refine lv_iconst (v := 0) hx hb dX12_game_217 (by decide) ?_
                    refine lv_istore (lv' := [(5, .int 0), (3, .int x187), (9, .int r168), (4, .int x145), (8, .int r122), (7, .int x115), (6, .int r105), (0, .ref (ad 55)), (1, .int a1), (2, .int a2)]) hx hb dX12_game_218 hl (by decide) rfl (fun ls hl => ?_)
                    refine lv_aload_n hx hb dX12_game_220 rfl (lv_at hl 7 rfl) ?_
                    refine lv_dup hx hb dX12_game_221 rfl ?_
                    refine va_get (D := D) hx hb hts inlX12 hown hK hP 55 (jc_55 cI cL ad σ167 τ) rfl 50 (by decide) (hts _ kw_46_13) (fun _ h9 => h9) rfl dX12_game_222 ?_
                    have m193 : σ167 55 50 = (σ52 55 50) := ((f170 50 (by decide)).trans m155)
                    refine jtopr m193 ?_
                    refine lv_iconst (v := 1) hx hb dX12_game_225 (by decide) ?_
                    have g194 := jrg (rfl : (σ52 55 50).toInt = (σ52 55 50).toInt)
                    refine lv_iadd hx hb dX12_game_226 ?_
                    refine lv_topi (fun x195 ex195 => ?_)
                    have tx195 : x195.toInt = (σ52 55 50).toInt + 1 := (jadd ex195 rfl jz_1 (by omega) (by omega)).trans (by omega)
                    refine jput (ty := .int) hx hb hts inlX12 tyX12 tyX12_ok nmX12 hown hK hP hJ hA hS (jc_55 cI cL ad σ167 τ) rfl (k := 50) (by decide) (Nat.le_of_ble_eq_true rfl) (jp_55_50 cI cL ad σ167 τ x195) (hts _ kw_46_13) (fun _ h9 => h9) rfl (by decide +kernel) rfl rfl dX12_game_227 (fun σ196 H locs eσ196 hP hS => ?_)
                    refine lv_goto (tgt := 43) hx hb dX12_game_230 (by decide) ?_
                    have z197 : (σ196 55 12).toInt = (σ 55 12).toInt := (congrArg Int32.toInt (show σ196 55 12 = (σ 55 12) from ((jkp 12 eσ196 (by decide)).trans ((f170 12 (by decide)).trans ((congrFun (jnp 55 eσ154 (by decide)) 12).trans ((congrFun (jnp 55 eσ140 (by decide)) 12).trans ((congrFun (jnp 55 eσ129 (by decide)) 12).trans ((f124 12 (by decide)).trans ((f107 12 (by decide)).trans ((f71 12 (by decide)).trans ((jkp 12 eσ42 (by decide)).trans ((f41 12 (by decide)).trans (f25 12 (by decide))))))))))))))
                    have z198 : (σ196 55 26).toInt = (σ167 55 26).toInt := (congrArg Int32.toInt (show σ196 55 26 = (σ167 55 26) from (jkp 26 eσ196 (by decide))))
                    have z199 : (σ196 55 25).toInt = (σ167 55 25).toInt := (congrArg Int32.toInt (show σ196 55 25 = (σ167 55 25) from (jkp 25 eσ196 (by decide))))
                    have z200 : (σ196 55 10).toInt = (σ 55 10).toInt := (congrArg Int32.toInt (show σ196 55 10 = (σ 55 10) from ((jkp 10 eσ196 (by decide)).trans ((f170 10 (by decide)).trans ((congrFun (jnp 55 eσ154 (by decide)) 10).trans ((congrFun (jnp 55 eσ140 (by decide)) 10).trans ((congrFun (jnp 55 eσ129 (by decide)) 10).trans ((f124 10 (by decide)).trans ((f107 10 (by decide)).trans ((f71 10 (by decide)).trans ((jkp 10 eσ42 (by decide)).trans ((f41 10 (by decide)).trans (f25 10 (by decide))))))))))))))
                    have z201 : (σ196 55 27).toInt = (σ167 55 27).toInt := (congrArg Int32.toInt (show σ196 55 27 = (σ167 55 27) from (jkp 27 eσ196 (by decide))))
                    have z202 : (σ196 55 50).toInt = (σ52 55 50).toInt + 1 := ((congrArg Int32.toInt (show σ196 55 50 = x195 from (jsp eσ196))).trans tx195)
                    have p203 : jKept σ196 := jKept.fr ((jnp 75 eσ196 (by decide)).trans ((f169 75 (by decide)).trans ((jnp 75 eσ154 (by decide)).trans ((jnp 75 eσ140 (by decide)).trans ((jnp 75 eσ129 (by decide)).trans (f123 75 (by decide))))))) ((jnp 76 eσ196 (by decide)).trans ((f169 76 (by decide)).trans ((jnp 76 eσ154 (by decide)).trans ((jnp 76 eσ140 (by decide)).trans ((jnp 76 eσ129 (by decide)).trans (f123 76 (by decide))))))) ((jnp 77 eσ196 (by decide)).trans ((f169 77 (by decide)).trans ((jnp 77 eσ154 (by decide)).trans ((jnp 77 eσ140 (by decide)).trans ((jnp 77 eσ129 (by decide)).trans (f123 77 (by decide))))))) p108
                    have I204 : jI109 σ196 := (show 0 ≤ (σ196 55 50).toInt ∧ (σ196 55 50).toInt ≤ 12 by omega)
                    have w205 : ∀ k : Nat, k < 4 → 0 ≤ (σ196 68 k).toInt ∧ (σ196 68 k).toInt ≤ 3 := (jrr_fr (jnp 68 eσ196 (by decide)) w171)
                    have I206 : jI119 σ196 := w205
                    exact ihlp43 x187 x145 0 σ196 _ _ ls (by have h92 := jz_0; omega) (by have h92 := jz_0; omega) (by have h92 := jz_0; omega) (by have h92 := jz_0; omega) (by have h92 := jz_0; omega) (by have h92 := jz_0; omega) (by have h92 := jz_0; omega) (fun i hi => ((jnp i eσ196 (imp_281 i hi)).trans ((f169 i (imp_283 i hi)).trans ((jnp i eσ154 (imp_288 i hi)).trans ((jnp i eσ140 (imp_289 i hi)).trans ((jnp i eσ129 (imp_290 i hi)).trans ((f123 i (imp_291 i hi)).trans ((f106 i (imp_292 i hi)).trans (f70 i hi))))))))) (fun i hi => ((jkp i eσ196 (imp_293 i hi)).trans ((f170 i (imp_294 i hi)).trans ((congrFun (jnp 55 eσ154 (by decide)) i).trans ((congrFun (jnp 55 eσ140 (by decide)) i).trans ((congrFun (jnp 55 eσ129 (by decide)) i).trans ((f124 i (imp_295 i hi)).trans ((f107 i (imp_296 i hi)).trans (f71 i hi)))))))))  p203 I204 I206 hP hS (lv_sub hl [0, 3, 1, 7, 8, 9] rfl)
                  · have kc192 := jnle c192 rfl tx190
                    refine lv_iconst (v := 1) hx hb dX12_game_213 (by decide) ?_
                    refine lv_goto (tgt := 218) hx hb dX12_game_214 (by decide) ?_
                    refine lv_istore (lv' := [(5, .int 1), (3, .int x187), (9, .int r168), (4, .int x145), (8, .int r122), (7, .int x115), (6, .int r105), (0, .ref (ad 55)), (1, .int a1), (2, .int a2)]) hx hb dX12_game_218 hl (by decide) rfl (fun ls hl => ?_)
                    refine lv_aload_n hx hb dX12_game_220 rfl (lv_at hl 7 rfl) ?_
                    refine lv_dup hx hb dX12_game_221 rfl ?_
                    refine va_get (D := D) hx hb hts inlX12 hown hK hP 55 (jc_55 cI cL ad σ167 τ) rfl 50 (by decide) (hts _ kw_46_13) (fun _ h9 => h9) rfl dX12_game_222 ?_
                    have m207 : σ167 55 50 = (σ52 55 50) := ((f170 50 (by decide)).trans m155)
                    refine jtopr m207 ?_
                    refine lv_iconst (v := 1) hx hb dX12_game_225 (by decide) ?_
                    have g208 := jrg (rfl : (σ52 55 50).toInt = (σ52 55 50).toInt)
                    refine lv_iadd hx hb dX12_game_226 ?_
                    refine lv_topi (fun x209 ex209 => ?_)
                    have tx209 : x209.toInt = (σ52 55 50).toInt + 1 := (jadd ex209 rfl jz_1 (by omega) (by omega)).trans (by omega)
                    refine jput (ty := .int) hx hb hts inlX12 tyX12 tyX12_ok nmX12 hown hK hP hJ hA hS (jc_55 cI cL ad σ167 τ) rfl (k := 50) (by decide) (Nat.le_of_ble_eq_true rfl) (jp_55_50 cI cL ad σ167 τ x209) (hts _ kw_46_13) (fun _ h9 => h9) rfl (by decide +kernel) rfl rfl dX12_game_227 (fun σ210 H locs eσ210 hP hS => ?_)
                    refine lv_goto (tgt := 43) hx hb dX12_game_230 (by decide) ?_
                    have z211 : (σ210 55 12).toInt = (σ 55 12).toInt := (congrArg Int32.toInt (show σ210 55 12 = (σ 55 12) from ((jkp 12 eσ210 (by decide)).trans ((f170 12 (by decide)).trans ((congrFun (jnp 55 eσ154 (by decide)) 12).trans ((congrFun (jnp 55 eσ140 (by decide)) 12).trans ((congrFun (jnp 55 eσ129 (by decide)) 12).trans ((f124 12 (by decide)).trans ((f107 12 (by decide)).trans ((f71 12 (by decide)).trans ((jkp 12 eσ42 (by decide)).trans ((f41 12 (by decide)).trans (f25 12 (by decide))))))))))))))
                    have z212 : (σ210 55 26).toInt = (σ167 55 26).toInt := (congrArg Int32.toInt (show σ210 55 26 = (σ167 55 26) from (jkp 26 eσ210 (by decide))))
                    have z213 : (σ210 55 25).toInt = (σ167 55 25).toInt := (congrArg Int32.toInt (show σ210 55 25 = (σ167 55 25) from (jkp 25 eσ210 (by decide))))
                    have z214 : (σ210 55 10).toInt = (σ 55 10).toInt := (congrArg Int32.toInt (show σ210 55 10 = (σ 55 10) from ((jkp 10 eσ210 (by decide)).trans ((f170 10 (by decide)).trans ((congrFun (jnp 55 eσ154 (by decide)) 10).trans ((congrFun (jnp 55 eσ140 (by decide)) 10).trans ((congrFun (jnp 55 eσ129 (by decide)) 10).trans ((f124 10 (by decide)).trans ((f107 10 (by decide)).trans ((f71 10 (by decide)).trans ((jkp 10 eσ42 (by decide)).trans ((f41 10 (by decide)).trans (f25 10 (by decide))))))))))))))
                    have z215 : (σ210 55 27).toInt = (σ167 55 27).toInt := (congrArg Int32.toInt (show σ210 55 27 = (σ167 55 27) from (jkp 27 eσ210 (by decide))))
                    have z216 : (σ210 55 50).toInt = (σ52 55 50).toInt + 1 := ((congrArg Int32.toInt (show σ210 55 50 = x209 from (jsp eσ210))).trans tx209)
                    have p217 : jKept σ210 := jKept.fr ((jnp 75 eσ210 (by decide)).trans ((f169 75 (by decide)).trans ((jnp 75 eσ154 (by decide)).trans ((jnp 75 eσ140 (by decide)).trans ((jnp 75 eσ129 (by decide)).trans (f123 75 (by decide))))))) ((jnp 76 eσ210 (by decide)).trans ((f169 76 (by decide)).trans ((jnp 76 eσ154 (by decide)).trans ((jnp 76 eσ140 (by decide)).trans ((jnp 76 eσ129 (by decide)).trans (f123 76 (by decide))))))) ((jnp 77 eσ210 (by decide)).trans ((f169 77 (by decide)).trans ((jnp 77 eσ154 (by decide)).trans ((jnp 77 eσ140 (by decide)).trans ((jnp 77 eσ129 (by decide)).trans (f123 77 (by decide))))))) p108
                    have I218 : jI109 σ210 := (show 0 ≤ (σ210 55 50).toInt ∧ (σ210 55 50).toInt ≤ 12 by omega)
                    have w219 : ∀ k : Nat, k < 4 → 0 ≤ (σ210 68 k).toInt ∧ (σ210 68 k).toInt ≤ 3 := (jrr_fr (jnp 68 eσ210 (by decide)) w171)
                    have I220 : jI119 σ210 := w219
                    exact ihlp43 x187 x145 1 σ210 _ _ ls (by have h92 := jz_1; omega) (by have h92 := jz_1; omega) (by have h92 := jz_1; omega) (by have h92 := jz_1; omega) (by have h92 := jz_1; omega) (by have h92 := jz_1; omega) (by have h92 := jz_1; omega) (fun i hi => ((jnp i eσ210 (imp_281 i hi)).trans ((f169 i (imp_283 i hi)).trans ((jnp i eσ154 (imp_288 i hi)).trans ((jnp i eσ140 (imp_289 i hi)).trans ((jnp i eσ129 (imp_290 i hi)).trans ((f123 i (imp_291 i hi)).trans ((f106 i (imp_292 i hi)).trans (f70 i hi))))))))) (fun i hi => ((jkp i eσ210 (imp_293 i hi)).trans ((f170 i (imp_294 i hi)).trans ((congrFun (jnp 55 eσ154 (by decide)) i).trans ((congrFun (jnp 55 eσ140 (by decide)) i).trans ((congrFun (jnp 55 eσ129 (by decide)) i).trans ((f124 i (imp_295 i hi)).trans ((f107 i (imp_296 i hi)).trans (f71 i hi)))))))))  p217 I218 I220 hP hS (lv_sub hl [0, 3, 1, 7, 8, 9] rfl)
                · have kc157 := jeq c157 rfl jz_1
                  refine lv_iconst (v := 1) hx hb dX12_game_178 (by decide) ?_
                  refine lv_goto (tgt := 183) hx hb dX12_game_179 (by decide) ?_
                  have w221 : ∀ k : Nat, k < 4 → 0 ≤ (σ154 68 k).toInt ∧ (σ154 68 k).toInt ≤ 3 := (jrr_fr (jnp 68 eσ154 (by decide)) (jrr_fr (jnp 68 eσ140 (by decide)) w134))
                  have z222 : (σ154 55 6).toInt = (σ 55 6).toInt := (congrArg Int32.toInt (show σ154 55 6 = (σ 55 6) from ((congrFun (jnp 55 eσ154 (by decide)) 6).trans ((congrFun (jnp 55 eσ140 (by decide)) 6).trans ((congrFun (jnp 55 eσ129 (by decide)) 6).trans ((f124 6 (by decide)).trans ((f107 6 (by decide)).trans ((f71 6 (by decide)).trans ((jkp 6 eσ42 (by decide)).trans ((f41 6 (by decide)).trans (f25 6 (by decide))))))))))))
                  have z223 : (σ154 55 27).toInt = (σ52 55 27).toInt := (congrArg Int32.toInt (show σ154 55 27 = (σ52 55 27) from ((congrFun (jnp 55 eσ154 (by decide)) 27).trans ((congrFun (jnp 55 eσ140 (by decide)) 27).trans ((congrFun (jnp 55 eσ129 (by decide)) 27).trans ((f124 27 (by decide)).trans (f107 27 (by decide))))))))
                  have z224 : (σ154 55 25).toInt = (σ52 55 25).toInt := (congrArg Int32.toInt (show σ154 55 25 = (σ52 55 25) from ((congrFun (jnp 55 eσ154 (by decide)) 25).trans ((congrFun (jnp 55 eσ140 (by decide)) 25).trans ((congrFun (jnp 55 eσ129 (by decide)) 25).trans ((f124 25 (by decide)).trans m112))))))
                  have z225 : (σ154 55 26).toInt = (σ52 55 26).toInt := (congrArg Int32.toInt (show σ154 55 26 = (σ52 55 26) from ((congrFun (jnp 55 eσ154 (by decide)) 26).trans ((congrFun (jnp 55 eσ140 (by decide)) 26).trans ((congrFun (jnp 55 eσ129 (by decide)) 26).trans ((f124 26 (by decide)).trans (f107 26 (by decide))))))))
                  have z226 : (σ154 68 0).toInt = (σ52 68 0).toInt := (congrArg Int32.toInt (show σ154 68 0 = (σ52 68 0) from ((congrFun (jnp 68 eσ154 (by decide)) 0).trans ((congrFun (jnp 68 eσ140 (by decide)) 0).trans ((congrFun (jnp 68 eσ129 (by decide)) 0).trans ((congrFun (f123 68 (by decide)) 0).trans (congrFun (f106 68 (by decide)) 0)))))))
                  have z227 : (σ154 68 1).toInt = (σ52 68 1).toInt := (congrArg Int32.toInt (show σ154 68 1 = (σ52 68 1) from ((congrFun (jnp 68 eσ154 (by decide)) 1).trans ((congrFun (jnp 68 eσ140 (by decide)) 1).trans ((congrFun (jnp 68 eσ129 (by decide)) 1).trans ((congrFun (f123 68 (by decide)) 1).trans (congrFun (f106 68 (by decide)) 1)))))))
                  have z228 : (σ154 68 2).toInt = (σ52 68 2).toInt := (congrArg Int32.toInt (show σ154 68 2 = (σ52 68 2) from ((congrFun (jnp 68 eσ154 (by decide)) 2).trans ((congrFun (jnp 68 eσ140 (by decide)) 2).trans ((congrFun (jnp 68 eσ129 (by decide)) 2).trans ((congrFun (f123 68 (by decide)) 2).trans (congrFun (f106 68 (by decide)) 2)))))))
                  have z229 : (σ154 68 3).toInt = (σ52 68 3).toInt := (congrArg Int32.toInt (show σ154 68 3 = (σ52 68 3) from ((congrFun (jnp 68 eσ154 (by decide)) 3).trans ((congrFun (jnp 68 eσ140 (by decide)) 3).trans ((congrFun (jnp 68 eσ129 (by decide)) 3).trans ((congrFun (f123 68 (by decide)) 3).trans (congrFun (f106 68 (by decide)) 3)))))))
                  refine jcallV (As := [.int r105, .int 1]) (rest := []) ⟨hx, hb, hml, hown, hts⟩ hK hP hA hS hZ (c_X12_goes_1 l D cI cL ad zz hJ σ154 τ r105 (r105.toInt) rfl w221 (by omega) (by omega) (by omega) (by omega) (by omega)) cw_RX12_296 (jc_55 cI cL ad σ154 τ) rfl ⟨Nat.le_of_ble_eq_true rfl, Nat.le_of_ble_eq_true rfl⟩ rfl rfl rfl hl.1 rfl (Nat.le_of_ble_eq_true rfl) dX12_game_183 ⟨Nat.zero_le _, Nat.zero_le _⟩ (fun r231 σ230 τ230 H locs h230 hP hS => ?_)
                  obtain ⟨rfl, f232, f233, w234, w235, w236, h230⟩ := h230
                  obtain ⟨k237, k238, k239, h230⟩ := h230
                  have h240 := h230
                  obtain ⟨q246, k241, k242, k243, k244, k245⟩ := h240
                  refine lv_istore (lv' := [(9, .int r231), (3, .int x149), (4, .int x145), (8, .int r122), (7, .int x115), (6, .int r105), (5, .int x47), (0, .ref (ad 55)), (1, .int a1), (2, .int a2)]) hx hb dX12_game_186 hl (by decide) rfl (fun ls hl => ?_)
                  refine lv_iload_n hx hb dX12_game_188 rfl (lv_at hl 1 rfl) ?_
                  refine lv_ldcw (v := 1103515245) hx hb hown (hts _ kw_46_14) dX12_game_189 ?_
                  have g247 := jrg (rfl : x149.toInt = x149.toInt)
                  refine lv_imul hx hb dX12_game_192 ?_
                  refine lv_topi (fun x248 ex248 => ?_)
                  have gx248 := jrg (rfl : x248.toInt = x248.toInt)
                  refine lv_sipush (v := 12345) hx hb dX12_game_193 (by decide) ?_
                  have g249 := jrg (rfl : x248.toInt = x248.toInt)
                  refine lv_iadd hx hb dX12_game_196 ?_
                  refine lv_topi (fun x250 ex250 => ?_)
                  have gx250 := jrg (rfl : x250.toInt = x250.toInt)
                  refine lv_istore_n (lv' := [(3, .int x250), (9, .int r231), (4, .int x145), (8, .int r122), (7, .int x115), (6, .int r105), (5, .int x47), (0, .ref (ad 55)), (1, .int a1), (2, .int a2)]) hx hb dX12_game_197 rfl hl (by decide) rfl (fun ls hl => ?_)
                  refine lv_iload_n hx hb dX12_game_198 rfl (lv_at hl 0 rfl) ?_
                  refine lv_bipush (v := 8) hx hb dX12_game_199 (by decide) ?_
                  refine lv_iushr hx hb dX12_game_201 rfl ?_
                  refine lv_topi (fun x251 ex251 => ?_)
                  have gx251 := jrg (rfl : x251.toInt = x251.toInt)
                  have g252 : 0 ≤ x251.toInt ∧ x251.toInt ≤ 16777215 := jushr8 ex251
                  refine lv_sipush (v := 1000) hx hb dX12_game_202 (by decide) ?_
                  refine lv_irem hx hb dX12_game_205 (by decide) ?_
                  refine lv_topi (fun x253 ex253 => ?_)
                  have tx253 : x253.toInt = (x251.toInt % 1000) := jrem ex253 rfl jz_1000 (by omega)
                  refine lv_aload_n hx hb dX12_game_206 rfl (lv_at hl 7 rfl) ?_
                  refine va_get (D := D) hx hb hts inlX12 hown hK hP 55 (jc_55 cI cL ad σ230 τ) rfl 13 (by decide) (hts _ kw_15_14) (fun _ h9 => h9) rfl dX12_game_207 ?_
                  have m254 : σ230 55 13 = (σ 55 13) := ((f233 13 (by decide)).trans ((congrFun (jnp 55 eσ154 (by decide)) 13).trans ((congrFun (jnp 55 eσ140 (by decide)) 13).trans ((congrFun (jnp 55 eσ129 (by decide)) 13).trans ((f124 13 (by decide)).trans ((f107 13 (by decide)).trans ((f71 13 (by decide)).trans ((jkp 13 eσ42 (by decide)).trans ((f41 13 (by decide)).trans (f25 13 (by decide)))))))))))
                  refine jtopr m254 ?_
                  refine lv_icmp_ge (tgt := 217) hx hb dX12_game_210 (by decide) (fun c255 => ?_) (fun c255 => ?_)
                  · have kc255 := jle c255 rfl tx253
                    refine lv_iconst (v := 0) hx hb dX12_game_217 (by decide) ?_
                    refine lv_istore (lv' := [(5, .int 0), (3, .int x250), (9, .int r231), (4, .int x145), (8, .int r122), (7, .int x115), (6, .int r105), (0, .ref (ad 55)), (1, .int a1), (2, .int a2)]) hx hb dX12_game_218 hl (by decide) rfl (fun ls hl => ?_)
                    refine lv_aload_n hx hb dX12_game_220 rfl (lv_at hl 7 rfl) ?_
                    refine lv_dup hx hb dX12_game_221 rfl ?_
                    refine va_get (D := D) hx hb hts inlX12 hown hK hP 55 (jc_55 cI cL ad σ230 τ) rfl 50 (by decide) (hts _ kw_46_13) (fun _ h9 => h9) rfl dX12_game_222 ?_
                    have m256 : σ230 55 50 = (σ52 55 50) := ((f233 50 (by decide)).trans m155)
                    refine jtopr m256 ?_
                    refine lv_iconst (v := 1) hx hb dX12_game_225 (by decide) ?_
                    have g257 := jrg (rfl : (σ52 55 50).toInt = (σ52 55 50).toInt)
                    refine lv_iadd hx hb dX12_game_226 ?_
                    refine lv_topi (fun x258 ex258 => ?_)
                    have tx258 : x258.toInt = (σ52 55 50).toInt + 1 := (jadd ex258 rfl jz_1 (by omega) (by omega)).trans (by omega)
                    refine jput (ty := .int) hx hb hts inlX12 tyX12 tyX12_ok nmX12 hown hK hP hJ hA hS (jc_55 cI cL ad σ230 τ) rfl (k := 50) (by decide) (Nat.le_of_ble_eq_true rfl) (jp_55_50 cI cL ad σ230 τ x258) (hts _ kw_46_13) (fun _ h9 => h9) rfl (by decide +kernel) rfl rfl dX12_game_227 (fun σ259 H locs eσ259 hP hS => ?_)
                    refine lv_goto (tgt := 43) hx hb dX12_game_230 (by decide) ?_
                    have z260 : (σ259 55 12).toInt = (σ 55 12).toInt := (congrArg Int32.toInt (show σ259 55 12 = (σ 55 12) from ((jkp 12 eσ259 (by decide)).trans ((f233 12 (by decide)).trans ((congrFun (jnp 55 eσ154 (by decide)) 12).trans ((congrFun (jnp 55 eσ140 (by decide)) 12).trans ((congrFun (jnp 55 eσ129 (by decide)) 12).trans ((f124 12 (by decide)).trans ((f107 12 (by decide)).trans ((f71 12 (by decide)).trans ((jkp 12 eσ42 (by decide)).trans ((f41 12 (by decide)).trans (f25 12 (by decide))))))))))))))
                    have z261 : (σ259 55 26).toInt = (σ230 55 26).toInt := (congrArg Int32.toInt (show σ259 55 26 = (σ230 55 26) from (jkp 26 eσ259 (by decide))))
                    have z262 : (σ259 55 25).toInt = (σ230 55 25).toInt := (congrArg Int32.toInt (show σ259 55 25 = (σ230 55 25) from (jkp 25 eσ259 (by decide))))
                    have z263 : (σ259 55 10).toInt = (σ 55 10).toInt := (congrArg Int32.toInt (show σ259 55 10 = (σ 55 10) from ((jkp 10 eσ259 (by decide)).trans ((f233 10 (by decide)).trans ((congrFun (jnp 55 eσ154 (by decide)) 10).trans ((congrFun (jnp 55 eσ140 (by decide)) 10).trans ((congrFun (jnp 55 eσ129 (by decide)) 10).trans ((f124 10 (by decide)).trans ((f107 10 (by decide)).trans ((f71 10 (by decide)).trans ((jkp 10 eσ42 (by decide)).trans ((f41 10 (by decide)).trans (f25 10 (by decide))))))))))))))
                    have z264 : (σ259 55 27).toInt = (σ230 55 27).toInt := (congrArg Int32.toInt (show σ259 55 27 = (σ230 55 27) from (jkp 27 eσ259 (by decide))))
                    have z265 : (σ259 55 50).toInt = (σ52 55 50).toInt + 1 := ((congrArg Int32.toInt (show σ259 55 50 = x258 from (jsp eσ259))).trans tx258)
                    have p266 : jKept σ259 := jKept.fr ((jnp 75 eσ259 (by decide)).trans ((f232 75 (by decide)).trans ((jnp 75 eσ154 (by decide)).trans ((jnp 75 eσ140 (by decide)).trans ((jnp 75 eσ129 (by decide)).trans (f123 75 (by decide))))))) ((jnp 76 eσ259 (by decide)).trans ((f232 76 (by decide)).trans ((jnp 76 eσ154 (by decide)).trans ((jnp 76 eσ140 (by decide)).trans ((jnp 76 eσ129 (by decide)).trans (f123 76 (by decide))))))) ((jnp 77 eσ259 (by decide)).trans ((f232 77 (by decide)).trans ((jnp 77 eσ154 (by decide)).trans ((jnp 77 eσ140 (by decide)).trans ((jnp 77 eσ129 (by decide)).trans (f123 77 (by decide))))))) p108
                    have I267 : jI109 σ259 := (show 0 ≤ (σ259 55 50).toInt ∧ (σ259 55 50).toInt ≤ 12 by omega)
                    have w268 : ∀ k : Nat, k < 4 → 0 ≤ (σ259 68 k).toInt ∧ (σ259 68 k).toInt ≤ 3 := (jrr_fr (jnp 68 eσ259 (by decide)) w234)
                    have I269 : jI119 σ259 := w268
                    exact ihlp43 x250 x145 0 σ259 _ _ ls (by have h92 := jz_0; omega) (by have h92 := jz_0; omega) (by have h92 := jz_0; omega) (by have h92 := jz_0; omega) (by have h92 := jz_0; omega) (by have h92 := jz_0; omega) (by have h92 := jz_0; omega) (fun i hi => ((jnp i eσ259 (imp_281 i hi)).trans ((f232 i (imp_283 i hi)).trans ((jnp i eσ154 (imp_288 i hi)).trans ((jnp i eσ140 (imp_289 i hi)).trans ((jnp i eσ129 (imp_290 i hi)).trans ((f123 i (imp_291 i hi)).trans ((f106 i (imp_292 i hi)).trans (f70 i hi))))))))) (fun i hi => ((jkp i eσ259 (imp_293 i hi)).trans ((f233 i (imp_294 i hi)).trans ((congrFun (jnp 55 eσ154 (by decide)) i).trans ((congrFun (jnp 55 eσ140 (by decide)) i).trans ((congrFun (jnp 55 eσ129 (by decide)) i).trans ((f124 i (imp_295 i hi)).trans ((f107 i (imp_296 i hi)).trans (f71 i hi)))))))))  p266 I267 I269 hP hS (lv_sub hl [0, 3, 1, 7, 8, 9] rfl)
                  · have kc255 := jnle c255 rfl tx253
                    refine lv_iconst (v := 1) hx hb dX12_game_213 (by decide) ?_
                    refine lv_goto (tgt := 218) hx hb dX12_game_214 (by decide) ?_
                    refine lv_istore (lv' := [(5, .int 1), (3, .int x250), (9, .int r231), (4, .int x145), (8, .int r122), (7, .int x115), (6, .int r105), (0, .ref (ad 55)), (1, .int a1), (2, .int a2)]) hx hb dX12_game_218 hl (by decide) rfl (fun ls hl => ?_)
                    refine lv_aload_n hx hb dX12_game_220 rfl (lv_at hl 7 rfl) ?_
                    refine lv_dup hx hb dX12_game_221 rfl ?_
                    refine va_get (D := D) hx hb hts inlX12 hown hK hP 55 (jc_55 cI cL ad σ230 τ) rfl 50 (by decide) (hts _ kw_46_13) (fun _ h9 => h9) rfl dX12_game_222 ?_
                    have m270 : σ230 55 50 = (σ52 55 50) := ((f233 50 (by decide)).trans m155)
                    refine jtopr m270 ?_
                    refine lv_iconst (v := 1) hx hb dX12_game_225 (by decide) ?_
                    have g271 := jrg (rfl : (σ52 55 50).toInt = (σ52 55 50).toInt)
                    refine lv_iadd hx hb dX12_game_226 ?_
                    refine lv_topi (fun x272 ex272 => ?_)
                    have tx272 : x272.toInt = (σ52 55 50).toInt + 1 := (jadd ex272 rfl jz_1 (by omega) (by omega)).trans (by omega)
                    refine jput (ty := .int) hx hb hts inlX12 tyX12 tyX12_ok nmX12 hown hK hP hJ hA hS (jc_55 cI cL ad σ230 τ) rfl (k := 50) (by decide) (Nat.le_of_ble_eq_true rfl) (jp_55_50 cI cL ad σ230 τ x272) (hts _ kw_46_13) (fun _ h9 => h9) rfl (by decide +kernel) rfl rfl dX12_game_227 (fun σ273 H locs eσ273 hP hS => ?_)
                    refine lv_goto (tgt := 43) hx hb dX12_game_230 (by decide) ?_
                    have z274 : (σ273 55 12).toInt = (σ 55 12).toInt := (congrArg Int32.toInt (show σ273 55 12 = (σ 55 12) from ((jkp 12 eσ273 (by decide)).trans ((f233 12 (by decide)).trans ((congrFun (jnp 55 eσ154 (by decide)) 12).trans ((congrFun (jnp 55 eσ140 (by decide)) 12).trans ((congrFun (jnp 55 eσ129 (by decide)) 12).trans ((f124 12 (by decide)).trans ((f107 12 (by decide)).trans ((f71 12 (by decide)).trans ((jkp 12 eσ42 (by decide)).trans ((f41 12 (by decide)).trans (f25 12 (by decide))))))))))))))
                    have z275 : (σ273 55 26).toInt = (σ230 55 26).toInt := (congrArg Int32.toInt (show σ273 55 26 = (σ230 55 26) from (jkp 26 eσ273 (by decide))))
                    have z276 : (σ273 55 25).toInt = (σ230 55 25).toInt := (congrArg Int32.toInt (show σ273 55 25 = (σ230 55 25) from (jkp 25 eσ273 (by decide))))
                    have z277 : (σ273 55 10).toInt = (σ 55 10).toInt := (congrArg Int32.toInt (show σ273 55 10 = (σ 55 10) from ((jkp 10 eσ273 (by decide)).trans ((f233 10 (by decide)).trans ((congrFun (jnp 55 eσ154 (by decide)) 10).trans ((congrFun (jnp 55 eσ140 (by decide)) 10).trans ((congrFun (jnp 55 eσ129 (by decide)) 10).trans ((f124 10 (by decide)).trans ((f107 10 (by decide)).trans ((f71 10 (by decide)).trans ((jkp 10 eσ42 (by decide)).trans ((f41 10 (by decide)).trans (f25 10 (by decide))))))))))))))
                    have z278 : (σ273 55 27).toInt = (σ230 55 27).toInt := (congrArg Int32.toInt (show σ273 55 27 = (σ230 55 27) from (jkp 27 eσ273 (by decide))))
                    have z279 : (σ273 55 50).toInt = (σ52 55 50).toInt + 1 := ((congrArg Int32.toInt (show σ273 55 50 = x272 from (jsp eσ273))).trans tx272)
                    have p280 : jKept σ273 := jKept.fr ((jnp 75 eσ273 (by decide)).trans ((f232 75 (by decide)).trans ((jnp 75 eσ154 (by decide)).trans ((jnp 75 eσ140 (by decide)).trans ((jnp 75 eσ129 (by decide)).trans (f123 75 (by decide))))))) ((jnp 76 eσ273 (by decide)).trans ((f232 76 (by decide)).trans ((jnp 76 eσ154 (by decide)).trans ((jnp 76 eσ140 (by decide)).trans ((jnp 76 eσ129 (by decide)).trans (f123 76 (by decide))))))) ((jnp 77 eσ273 (by decide)).trans ((f232 77 (by decide)).trans ((jnp 77 eσ154 (by decide)).trans ((jnp 77 eσ140 (by decide)).trans ((jnp 77 eσ129 (by decide)).trans (f123 77 (by decide))))))) p108
                    have I281 : jI109 σ273 := (show 0 ≤ (σ273 55 50).toInt ∧ (σ273 55 50).toInt ≤ 12 by omega)
                    have w282 : ∀ k : Nat, k < 4 → 0 ≤ (σ273 68 k).toInt ∧ (σ273 68 k).toInt ≤ 3 := (jrr_fr (jnp 68 eσ273 (by decide)) w234)
                    have I283 : jI119 σ273 := w282
                    exact ihlp43 x250 x145 1 σ273 _ _ ls (by have h92 := jz_1; omega) (by have h92 := jz_1; omega) (by have h92 := jz_1; omega) (by have h92 := jz_1; omega) (by have h92 := jz_1; omega) (by have h92 := jz_1; omega) (by have h92 := jz_1; omega) (fun i hi => ((jnp i eσ273 (imp_281 i hi)).trans ((f232 i (imp_283 i hi)).trans ((jnp i eσ154 (imp_288 i hi)).trans ((jnp i eσ140 (imp_289 i hi)).trans ((jnp i eσ129 (imp_290 i hi)).trans ((f123 i (imp_291 i hi)).trans ((f106 i (imp_292 i hi)).trans (f70 i hi))))))))) (fun i hi => ((jkp i eσ273 (imp_293 i hi)).trans ((f233 i (imp_294 i hi)).trans ((congrFun (jnp 55 eσ154 (by decide)) i).trans ((congrFun (jnp 55 eσ140 (by decide)) i).trans ((congrFun (jnp 55 eσ129 (by decide)) i).trans ((f124 i (imp_295 i hi)).trans ((f107 i (imp_296 i hi)).trans (f71 i hi)))))))))  p280 I281 I283 hP hS (lv_sub hl [0, 3, 1, 7, 8, 9] rfl)
              · have kc153 := jnle c153 rfl tx152
                refine lv_iconst (v := 1) hx hb dX12_game_156 (by decide) ?_
                refine lv_goto (tgt := 161) hx hb dX12_game_157 (by decide) ?_
                refine jast hx hb hK hP hJ hA hS (jc_84 cI cL ad σ140 τ) (ja_84 cI cL ad σ140 τ _ _) (jin rfl (by omega) (by omega)) dX12_game_161 (fun σ284 H locs eσ284 hP hS => ?_)
                refine lv_aload_n hx hb dX12_game_162 rfl (lv_at hl 6 rfl) ?_
                refine lv_iload hx hb dX12_game_163 (lv_at hl 4 rfl) ?_
                refine lv_aload_n hx hb dX12_game_165 rfl (lv_at hl 6 rfl) ?_
                refine va_get (D := D) hx hb hts inlX12 hown hK hP 55 (jc_55 cI cL ad σ284 τ) rfl 53 (by decide) (hts _ kw_8_9) (fun _ h9 => h9) rfl dX12_game_166 ?_
                refine lv_aload_n hx hb dX12_game_169 rfl (lv_at hl 6 rfl) ?_
                refine va_get (D := D) hx hb hts inlX12 hown hK hP 55 (jc_55 cI cL ad σ284 τ) rfl 50 (by decide) (hts _ kw_46_13) (fun _ h9 => h9) rfl dX12_game_170 ?_
                have m285 : σ284 55 50 = (σ52 55 50) := ((congrFun (jnp 55 eσ284 (by decide)) 50).trans m141)
                refine jtopr m285 ?_
                refine jald hx hb hK hP (jc_84 cI cL ad σ284 τ) (jin rfl (by omega) (by omega)) dX12_game_173 ?_
                refine lv_topi (fun x286 ex286 => ?_)
                refine lv_iconst (v := 1) hx hb dX12_game_174 (by decide) ?_
                refine lv_icmp_ne (tgt := 182) hx hb dX12_game_175 (by decide) (fun c287 => ?_) (fun c287 => ?_)
                · have kc287 := jne c287 rfl jz_1
                  refine lv_iconst (v := 0) hx hb dX12_game_182 (by decide) ?_
                  have w288 : ∀ k : Nat, k < 4 → 0 ≤ (σ284 68 k).toInt ∧ (σ284 68 k).toInt ≤ 3 := (jrr_fr (jnp 68 eσ284 (by decide)) (jrr_fr (jnp 68 eσ140 (by decide)) w134))
                  have z289 : (σ284 55 6).toInt = (σ 55 6).toInt := (congrArg Int32.toInt (show σ284 55 6 = (σ 55 6) from ((congrFun (jnp 55 eσ284 (by decide)) 6).trans ((congrFun (jnp 55 eσ140 (by decide)) 6).trans ((congrFun (jnp 55 eσ129 (by decide)) 6).trans ((f124 6 (by decide)).trans ((f107 6 (by decide)).trans ((f71 6 (by decide)).trans ((jkp 6 eσ42 (by decide)).trans ((f41 6 (by decide)).trans (f25 6 (by decide))))))))))))
                  have z290 : (σ284 55 27).toInt = (σ52 55 27).toInt := (congrArg Int32.toInt (show σ284 55 27 = (σ52 55 27) from ((congrFun (jnp 55 eσ284 (by decide)) 27).trans ((congrFun (jnp 55 eσ140 (by decide)) 27).trans ((congrFun (jnp 55 eσ129 (by decide)) 27).trans ((f124 27 (by decide)).trans (f107 27 (by decide))))))))
                  have z291 : (σ284 55 25).toInt = (σ52 55 25).toInt := (congrArg Int32.toInt (show σ284 55 25 = (σ52 55 25) from ((congrFun (jnp 55 eσ284 (by decide)) 25).trans ((congrFun (jnp 55 eσ140 (by decide)) 25).trans ((congrFun (jnp 55 eσ129 (by decide)) 25).trans ((f124 25 (by decide)).trans m112))))))
                  have z292 : (σ284 55 26).toInt = (σ52 55 26).toInt := (congrArg Int32.toInt (show σ284 55 26 = (σ52 55 26) from ((congrFun (jnp 55 eσ284 (by decide)) 26).trans ((congrFun (jnp 55 eσ140 (by decide)) 26).trans ((congrFun (jnp 55 eσ129 (by decide)) 26).trans ((f124 26 (by decide)).trans (f107 26 (by decide))))))))
                  have z293 : (σ284 68 0).toInt = (σ52 68 0).toInt := (congrArg Int32.toInt (show σ284 68 0 = (σ52 68 0) from ((congrFun (jnp 68 eσ284 (by decide)) 0).trans ((congrFun (jnp 68 eσ140 (by decide)) 0).trans ((congrFun (jnp 68 eσ129 (by decide)) 0).trans ((congrFun (f123 68 (by decide)) 0).trans (congrFun (f106 68 (by decide)) 0)))))))
                  have z294 : (σ284 68 1).toInt = (σ52 68 1).toInt := (congrArg Int32.toInt (show σ284 68 1 = (σ52 68 1) from ((congrFun (jnp 68 eσ284 (by decide)) 1).trans ((congrFun (jnp 68 eσ140 (by decide)) 1).trans ((congrFun (jnp 68 eσ129 (by decide)) 1).trans ((congrFun (f123 68 (by decide)) 1).trans (congrFun (f106 68 (by decide)) 1)))))))
                  have z295 : (σ284 68 2).toInt = (σ52 68 2).toInt := (congrArg Int32.toInt (show σ284 68 2 = (σ52 68 2) from ((congrFun (jnp 68 eσ284 (by decide)) 2).trans ((congrFun (jnp 68 eσ140 (by decide)) 2).trans ((congrFun (jnp 68 eσ129 (by decide)) 2).trans ((congrFun (f123 68 (by decide)) 2).trans (congrFun (f106 68 (by decide)) 2)))))))
                  have z296 : (σ284 68 3).toInt = (σ52 68 3).toInt := (congrArg Int32.toInt (show σ284 68 3 = (σ52 68 3) from ((congrFun (jnp 68 eσ284 (by decide)) 3).trans ((congrFun (jnp 68 eσ140 (by decide)) 3).trans ((congrFun (jnp 68 eσ129 (by decide)) 3).trans ((congrFun (f123 68 (by decide)) 3).trans (congrFun (f106 68 (by decide)) 3)))))))
                  refine jcallV (As := [.int r105, .int 0]) (rest := []) ⟨hx, hb, hml, hown, hts⟩ hK hP hA hS hZ (c_X12_goes_0 l D cI cL ad zz hJ σ284 τ r105 (r105.toInt) rfl w288 (by omega) (by omega) (by omega) (by omega) (by omega)) cw_RX12_296 (jc_55 cI cL ad σ284 τ) rfl ⟨Nat.le_of_ble_eq_true rfl, Nat.le_of_ble_eq_true rfl⟩ rfl rfl rfl hl.1 rfl (Nat.le_of_ble_eq_true rfl) dX12_game_183 ⟨Nat.zero_le _, Nat.zero_le _⟩ (fun r298 σ297 τ297 H locs h297 hP hS => ?_)
                  obtain ⟨rfl, f299, f300, w301, w302, w303, h297⟩ := h297
                  obtain ⟨k304, k305, k306, h297⟩ := h297
                  have h307 := h297
                  obtain ⟨q313, k308, k309, k310, k311, k312⟩ := h307
                  refine lv_istore (lv' := [(9, .int r298), (3, .int x149), (4, .int x145), (8, .int r122), (7, .int x115), (6, .int r105), (5, .int x47), (0, .ref (ad 55)), (1, .int a1), (2, .int a2)]) hx hb dX12_game_186 hl (by decide) rfl (fun ls hl => ?_)
                  refine lv_iload_n hx hb dX12_game_188 rfl (lv_at hl 1 rfl) ?_
                  refine lv_ldcw (v := 1103515245) hx hb hown (hts _ kw_46_14) dX12_game_189 ?_
                  have g314 := jrg (rfl : x149.toInt = x149.toInt)
                  refine lv_imul hx hb dX12_game_192 ?_
                  refine lv_topi (fun x315 ex315 => ?_)
                  have gx315 := jrg (rfl : x315.toInt = x315.toInt)
                  refine lv_sipush (v := 12345) hx hb dX12_game_193 (by decide) ?_
                  have g316 := jrg (rfl : x315.toInt = x315.toInt)
                  refine lv_iadd hx hb dX12_game_196 ?_
                  refine lv_topi (fun x317 ex317 => ?_)
                  have gx317 := jrg (rfl : x317.toInt = x317.toInt)
                  refine lv_istore_n (lv' := [(3, .int x317), (9, .int r298), (4, .int x145), (8, .int r122), (7, .int x115), (6, .int r105), (5, .int x47), (0, .ref (ad 55)), (1, .int a1), (2, .int a2)]) hx hb dX12_game_197 rfl hl (by decide) rfl (fun ls hl => ?_)
                  refine lv_iload_n hx hb dX12_game_198 rfl (lv_at hl 0 rfl) ?_
                  refine lv_bipush (v := 8) hx hb dX12_game_199 (by decide) ?_
                  refine lv_iushr hx hb dX12_game_201 rfl ?_
                  refine lv_topi (fun x318 ex318 => ?_)
                  have gx318 := jrg (rfl : x318.toInt = x318.toInt)
                  have g319 : 0 ≤ x318.toInt ∧ x318.toInt ≤ 16777215 := jushr8 ex318
                  refine lv_sipush (v := 1000) hx hb dX12_game_202 (by decide) ?_
                  refine lv_irem hx hb dX12_game_205 (by decide) ?_
                  refine lv_topi (fun x320 ex320 => ?_)
                  have tx320 : x320.toInt = (x318.toInt % 1000) := jrem ex320 rfl jz_1000 (by omega)
                  refine lv_aload_n hx hb dX12_game_206 rfl (lv_at hl 7 rfl) ?_
                  refine va_get (D := D) hx hb hts inlX12 hown hK hP 55 (jc_55 cI cL ad σ297 τ) rfl 13 (by decide) (hts _ kw_15_14) (fun _ h9 => h9) rfl dX12_game_207 ?_
                  have m321 : σ297 55 13 = (σ 55 13) := ((f300 13 (by decide)).trans ((congrFun (jnp 55 eσ284 (by decide)) 13).trans ((congrFun (jnp 55 eσ140 (by decide)) 13).trans ((congrFun (jnp 55 eσ129 (by decide)) 13).trans ((f124 13 (by decide)).trans ((f107 13 (by decide)).trans ((f71 13 (by decide)).trans ((jkp 13 eσ42 (by decide)).trans ((f41 13 (by decide)).trans (f25 13 (by decide)))))))))))
                  refine jtopr m321 ?_
                  refine lv_icmp_ge (tgt := 217) hx hb dX12_game_210 (by decide) (fun c322 => ?_) (fun c322 => ?_)
                  · have kc322 := jle c322 rfl tx320
                    refine lv_iconst (v := 0) hx hb dX12_game_217 (by decide) ?_
                    refine lv_istore (lv' := [(5, .int 0), (3, .int x317), (9, .int r298), (4, .int x145), (8, .int r122), (7, .int x115), (6, .int r105), (0, .ref (ad 55)), (1, .int a1), (2, .int a2)]) hx hb dX12_game_218 hl (by decide) rfl (fun ls hl => ?_)
                    refine lv_aload_n hx hb dX12_game_220 rfl (lv_at hl 7 rfl) ?_
                    refine lv_dup hx hb dX12_game_221 rfl ?_
                    refine va_get (D := D) hx hb hts inlX12 hown hK hP 55 (jc_55 cI cL ad σ297 τ) rfl 50 (by decide) (hts _ kw_46_13) (fun _ h9 => h9) rfl dX12_game_222 ?_
                    have m323 : σ297 55 50 = (σ52 55 50) := ((f300 50 (by decide)).trans m285)
                    refine jtopr m323 ?_
                    refine lv_iconst (v := 1) hx hb dX12_game_225 (by decide) ?_
                    have g324 := jrg (rfl : (σ52 55 50).toInt = (σ52 55 50).toInt)
                    refine lv_iadd hx hb dX12_game_226 ?_
                    refine lv_topi (fun x325 ex325 => ?_)
                    have tx325 : x325.toInt = (σ52 55 50).toInt + 1 := (jadd ex325 rfl jz_1 (by omega) (by omega)).trans (by omega)
                    refine jput (ty := .int) hx hb hts inlX12 tyX12 tyX12_ok nmX12 hown hK hP hJ hA hS (jc_55 cI cL ad σ297 τ) rfl (k := 50) (by decide) (Nat.le_of_ble_eq_true rfl) (jp_55_50 cI cL ad σ297 τ x325) (hts _ kw_46_13) (fun _ h9 => h9) rfl (by decide +kernel) rfl rfl dX12_game_227 (fun σ326 H locs eσ326 hP hS => ?_)
                    refine lv_goto (tgt := 43) hx hb dX12_game_230 (by decide) ?_
                    have z327 : (σ326 55 12).toInt = (σ 55 12).toInt := (congrArg Int32.toInt (show σ326 55 12 = (σ 55 12) from ((jkp 12 eσ326 (by decide)).trans ((f300 12 (by decide)).trans ((congrFun (jnp 55 eσ284 (by decide)) 12).trans ((congrFun (jnp 55 eσ140 (by decide)) 12).trans ((congrFun (jnp 55 eσ129 (by decide)) 12).trans ((f124 12 (by decide)).trans ((f107 12 (by decide)).trans ((f71 12 (by decide)).trans ((jkp 12 eσ42 (by decide)).trans ((f41 12 (by decide)).trans (f25 12 (by decide))))))))))))))
                    have z328 : (σ326 55 26).toInt = (σ297 55 26).toInt := (congrArg Int32.toInt (show σ326 55 26 = (σ297 55 26) from (jkp 26 eσ326 (by decide))))
                    have z329 : (σ326 55 25).toInt = (σ297 55 25).toInt := (congrArg Int32.toInt (show σ326 55 25 = (σ297 55 25) from (jkp 25 eσ326 (by decide))))
                    have z330 : (σ326 55 10).toInt = (σ 55 10).toInt := (congrArg Int32.toInt (show σ326 55 10 = (σ 55 10) from ((jkp 10 eσ326 (by decide)).trans ((f300 10 (by decide)).trans ((congrFun (jnp 55 eσ284 (by decide)) 10).trans ((congrFun (jnp 55 eσ140 (by decide)) 10).trans ((congrFun (jnp 55 eσ129 (by decide)) 10).trans ((f124 10 (by decide)).trans ((f107 10 (by decide)).trans ((f71 10 (by decide)).trans ((jkp 10 eσ42 (by decide)).trans ((f41 10 (by decide)).trans (f25 10 (by decide))))))))))))))
                    have z331 : (σ326 55 27).toInt = (σ297 55 27).toInt := (congrArg Int32.toInt (show σ326 55 27 = (σ297 55 27) from (jkp 27 eσ326 (by decide))))
                    have z332 : (σ326 55 50).toInt = (σ52 55 50).toInt + 1 := ((congrArg Int32.toInt (show σ326 55 50 = x325 from (jsp eσ326))).trans tx325)
                    have p333 : jKept σ326 := jKept.fr ((jnp 75 eσ326 (by decide)).trans ((f299 75 (by decide)).trans ((jnp 75 eσ284 (by decide)).trans ((jnp 75 eσ140 (by decide)).trans ((jnp 75 eσ129 (by decide)).trans (f123 75 (by decide))))))) ((jnp 76 eσ326 (by decide)).trans ((f299 76 (by decide)).trans ((jnp 76 eσ284 (by decide)).trans ((jnp 76 eσ140 (by decide)).trans ((jnp 76 eσ129 (by decide)).trans (f123 76 (by decide))))))) ((jnp 77 eσ326 (by decide)).trans ((f299 77 (by decide)).trans ((jnp 77 eσ284 (by decide)).trans ((jnp 77 eσ140 (by decide)).trans ((jnp 77 eσ129 (by decide)).trans (f123 77 (by decide))))))) p108
                    have I334 : jI109 σ326 := (show 0 ≤ (σ326 55 50).toInt ∧ (σ326 55 50).toInt ≤ 12 by omega)
                    have w335 : ∀ k : Nat, k < 4 → 0 ≤ (σ326 68 k).toInt ∧ (σ326 68 k).toInt ≤ 3 := (jrr_fr (jnp 68 eσ326 (by decide)) w301)
                    have I336 : jI119 σ326 := w335
                    exact ihlp43 x317 x145 0 σ326 _ _ ls (by have h92 := jz_0; omega) (by have h92 := jz_0; omega) (by have h92 := jz_0; omega) (by have h92 := jz_0; omega) (by have h92 := jz_0; omega) (by have h92 := jz_0; omega) (by have h92 := jz_0; omega) (fun i hi => ((jnp i eσ326 (imp_281 i hi)).trans ((f299 i (imp_283 i hi)).trans ((jnp i eσ284 (imp_288 i hi)).trans ((jnp i eσ140 (imp_289 i hi)).trans ((jnp i eσ129 (imp_290 i hi)).trans ((f123 i (imp_291 i hi)).trans ((f106 i (imp_292 i hi)).trans (f70 i hi))))))))) (fun i hi => ((jkp i eσ326 (imp_293 i hi)).trans ((f300 i (imp_294 i hi)).trans ((congrFun (jnp 55 eσ284 (by decide)) i).trans ((congrFun (jnp 55 eσ140 (by decide)) i).trans ((congrFun (jnp 55 eσ129 (by decide)) i).trans ((f124 i (imp_295 i hi)).trans ((f107 i (imp_296 i hi)).trans (f71 i hi)))))))))  p333 I334 I336 hP hS (lv_sub hl [0, 3, 1, 7, 8, 9] rfl)
                  · have kc322 := jnle c322 rfl tx320
                    refine lv_iconst (v := 1) hx hb dX12_game_213 (by decide) ?_
                    refine lv_goto (tgt := 218) hx hb dX12_game_214 (by decide) ?_
                    refine lv_istore (lv' := [(5, .int 1), (3, .int x317), (9, .int r298), (4, .int x145), (8, .int r122), (7, .int x115), (6, .int r105), (0, .ref (ad 55)), (1, .int a1), (2, .int a2)]) hx hb dX12_game_218 hl (by decide) rfl (fun ls hl => ?_)
                    refine lv_aload_n hx hb dX12_game_220 rfl (lv_at hl 7 rfl) ?_
                    refine lv_dup hx hb dX12_game_221 rfl ?_
                    refine va_get (D := D) hx hb hts inlX12 hown hK hP 55 (jc_55 cI cL ad σ297 τ) rfl 50 (by decide) (hts _ kw_46_13) (fun _ h9 => h9) rfl dX12_game_222 ?_
                    have m337 : σ297 55 50 = (σ52 55 50) := ((f300 50 (by decide)).trans m285)
                    refine jtopr m337 ?_
                    refine lv_iconst (v := 1) hx hb dX12_game_225 (by decide) ?_
                    have g338 := jrg (rfl : (σ52 55 50).toInt = (σ52 55 50).toInt)
                    refine lv_iadd hx hb dX12_game_226 ?_
                    refine lv_topi (fun x339 ex339 => ?_)
                    have tx339 : x339.toInt = (σ52 55 50).toInt + 1 := (jadd ex339 rfl jz_1 (by omega) (by omega)).trans (by omega)
                    refine jput (ty := .int) hx hb hts inlX12 tyX12 tyX12_ok nmX12 hown hK hP hJ hA hS (jc_55 cI cL ad σ297 τ) rfl (k := 50) (by decide) (Nat.le_of_ble_eq_true rfl) (jp_55_50 cI cL ad σ297 τ x339) (hts _ kw_46_13) (fun _ h9 => h9) rfl (by decide +kernel) rfl rfl dX12_game_227 (fun σ340 H locs eσ340 hP hS => ?_)
                    refine lv_goto (tgt := 43) hx hb dX12_game_230 (by decide) ?_
                    have z341 : (σ340 55 12).toInt = (σ 55 12).toInt := (congrArg Int32.toInt (show σ340 55 12 = (σ 55 12) from ((jkp 12 eσ340 (by decide)).trans ((f300 12 (by decide)).trans ((congrFun (jnp 55 eσ284 (by decide)) 12).trans ((congrFun (jnp 55 eσ140 (by decide)) 12).trans ((congrFun (jnp 55 eσ129 (by decide)) 12).trans ((f124 12 (by decide)).trans ((f107 12 (by decide)).trans ((f71 12 (by decide)).trans ((jkp 12 eσ42 (by decide)).trans ((f41 12 (by decide)).trans (f25 12 (by decide))))))))))))))
                    have z342 : (σ340 55 26).toInt = (σ297 55 26).toInt := (congrArg Int32.toInt (show σ340 55 26 = (σ297 55 26) from (jkp 26 eσ340 (by decide))))
                    have z343 : (σ340 55 25).toInt = (σ297 55 25).toInt := (congrArg Int32.toInt (show σ340 55 25 = (σ297 55 25) from (jkp 25 eσ340 (by decide))))
                    have z344 : (σ340 55 10).toInt = (σ 55 10).toInt := (congrArg Int32.toInt (show σ340 55 10 = (σ 55 10) from ((jkp 10 eσ340 (by decide)).trans ((f300 10 (by decide)).trans ((congrFun (jnp 55 eσ284 (by decide)) 10).trans ((congrFun (jnp 55 eσ140 (by decide)) 10).trans ((congrFun (jnp 55 eσ129 (by decide)) 10).trans ((f124 10 (by decide)).trans ((f107 10 (by decide)).trans ((f71 10 (by decide)).trans ((jkp 10 eσ42 (by decide)).trans ((f41 10 (by decide)).trans (f25 10 (by decide))))))))))))))
                    have z345 : (σ340 55 27).toInt = (σ297 55 27).toInt := (congrArg Int32.toInt (show σ340 55 27 = (σ297 55 27) from (jkp 27 eσ340 (by decide))))
                    have z346 : (σ340 55 50).toInt = (σ52 55 50).toInt + 1 := ((congrArg Int32.toInt (show σ340 55 50 = x339 from (jsp eσ340))).trans tx339)
                    have p347 : jKept σ340 := jKept.fr ((jnp 75 eσ340 (by decide)).trans ((f299 75 (by decide)).trans ((jnp 75 eσ284 (by decide)).trans ((jnp 75 eσ140 (by decide)).trans ((jnp 75 eσ129 (by decide)).trans (f123 75 (by decide))))))) ((jnp 76 eσ340 (by decide)).trans ((f299 76 (by decide)).trans ((jnp 76 eσ284 (by decide)).trans ((jnp 76 eσ140 (by decide)).trans ((jnp 76 eσ129 (by decide)).trans (f123 76 (by decide))))))) ((jnp 77 eσ340 (by decide)).trans ((f299 77 (by decide)).trans ((jnp 77 eσ284 (by decide)).trans ((jnp 77 eσ140 (by decide)).trans ((jnp 77 eσ129 (by decide)).trans (f123 77 (by decide))))))) p108
                    have I348 : jI109 σ340 := (show 0 ≤ (σ340 55 50).toInt ∧ (σ340 55 50).toInt ≤ 12 by omega)
                    have w349 : ∀ k : Nat, k < 4 → 0 ≤ (σ340 68 k).toInt ∧ (σ340 68 k).toInt ≤ 3 := (jrr_fr (jnp 68 eσ340 (by decide)) w301)
                    have I350 : jI119 σ340 := w349
                    exact ihlp43 x317 x145 1 σ340 _ _ ls (by have h92 := jz_1; omega) (by have h92 := jz_1; omega) (by have h92 := jz_1; omega) (by have h92 := jz_1; omega) (by have h92 := jz_1; omega) (by have h92 := jz_1; omega) (by have h92 := jz_1; omega) (fun i hi => ((jnp i eσ340 (imp_281 i hi)).trans ((f299 i (imp_283 i hi)).trans ((jnp i eσ284 (imp_288 i hi)).trans ((jnp i eσ140 (imp_289 i hi)).trans ((jnp i eσ129 (imp_290 i hi)).trans ((f123 i (imp_291 i hi)).trans ((f106 i (imp_292 i hi)).trans (f70 i hi))))))))) (fun i hi => ((jkp i eσ340 (imp_293 i hi)).trans ((f300 i (imp_294 i hi)).trans ((congrFun (jnp 55 eσ284 (by decide)) i).trans ((congrFun (jnp 55 eσ140 (by decide)) i).trans ((congrFun (jnp 55 eσ129 (by decide)) i).trans ((f124 i (imp_295 i hi)).trans ((f107 i (imp_296 i hi)).trans (f71 i hi)))))))))  p347 I348 I350 hP hS (lv_sub hl [0, 3, 1, 7, 8, 9] rfl)
                · have kc287 := jeq c287 rfl jz_1
                  refine lv_iconst (v := 1) hx hb dX12_game_178 (by decide) ?_
                  refine lv_goto (tgt := 183) hx hb dX12_game_179 (by decide) ?_
                  have w351 : ∀ k : Nat, k < 4 → 0 ≤ (σ284 68 k).toInt ∧ (σ284 68 k).toInt ≤ 3 := (jrr_fr (jnp 68 eσ284 (by decide)) (jrr_fr (jnp 68 eσ140 (by decide)) w134))
                  have z352 : (σ284 55 6).toInt = (σ 55 6).toInt := (congrArg Int32.toInt (show σ284 55 6 = (σ 55 6) from ((congrFun (jnp 55 eσ284 (by decide)) 6).trans ((congrFun (jnp 55 eσ140 (by decide)) 6).trans ((congrFun (jnp 55 eσ129 (by decide)) 6).trans ((f124 6 (by decide)).trans ((f107 6 (by decide)).trans ((f71 6 (by decide)).trans ((jkp 6 eσ42 (by decide)).trans ((f41 6 (by decide)).trans (f25 6 (by decide))))))))))))
                  have z353 : (σ284 55 27).toInt = (σ52 55 27).toInt := (congrArg Int32.toInt (show σ284 55 27 = (σ52 55 27) from ((congrFun (jnp 55 eσ284 (by decide)) 27).trans ((congrFun (jnp 55 eσ140 (by decide)) 27).trans ((congrFun (jnp 55 eσ129 (by decide)) 27).trans ((f124 27 (by decide)).trans (f107 27 (by decide))))))))
                  have z354 : (σ284 55 25).toInt = (σ52 55 25).toInt := (congrArg Int32.toInt (show σ284 55 25 = (σ52 55 25) from ((congrFun (jnp 55 eσ284 (by decide)) 25).trans ((congrFun (jnp 55 eσ140 (by decide)) 25).trans ((congrFun (jnp 55 eσ129 (by decide)) 25).trans ((f124 25 (by decide)).trans m112))))))
                  have z355 : (σ284 55 26).toInt = (σ52 55 26).toInt := (congrArg Int32.toInt (show σ284 55 26 = (σ52 55 26) from ((congrFun (jnp 55 eσ284 (by decide)) 26).trans ((congrFun (jnp 55 eσ140 (by decide)) 26).trans ((congrFun (jnp 55 eσ129 (by decide)) 26).trans ((f124 26 (by decide)).trans (f107 26 (by decide))))))))
                  have z356 : (σ284 68 0).toInt = (σ52 68 0).toInt := (congrArg Int32.toInt (show σ284 68 0 = (σ52 68 0) from ((congrFun (jnp 68 eσ284 (by decide)) 0).trans ((congrFun (jnp 68 eσ140 (by decide)) 0).trans ((congrFun (jnp 68 eσ129 (by decide)) 0).trans ((congrFun (f123 68 (by decide)) 0).trans (congrFun (f106 68 (by decide)) 0)))))))
                  have z357 : (σ284 68 1).toInt = (σ52 68 1).toInt := (congrArg Int32.toInt (show σ284 68 1 = (σ52 68 1) from ((congrFun (jnp 68 eσ284 (by decide)) 1).trans ((congrFun (jnp 68 eσ140 (by decide)) 1).trans ((congrFun (jnp 68 eσ129 (by decide)) 1).trans ((congrFun (f123 68 (by decide)) 1).trans (congrFun (f106 68 (by decide)) 1)))))))
                  have z358 : (σ284 68 2).toInt = (σ52 68 2).toInt := (congrArg Int32.toInt (show σ284 68 2 = (σ52 68 2) from ((congrFun (jnp 68 eσ284 (by decide)) 2).trans ((congrFun (jnp 68 eσ140 (by decide)) 2).trans ((congrFun (jnp 68 eσ129 (by decide)) 2).trans ((congrFun (f123 68 (by decide)) 2).trans (congrFun (f106 68 (by decide)) 2)))))))
                  have z359 : (σ284 68 3).toInt = (σ52 68 3).toInt := (congrArg Int32.toInt (show σ284 68 3 = (σ52 68 3) from ((congrFun (jnp 68 eσ284 (by decide)) 3).trans ((congrFun (jnp 68 eσ140 (by decide)) 3).trans ((congrFun (jnp 68 eσ129 (by decide)) 3).trans ((congrFun (f123 68 (by decide)) 3).trans (congrFun (f106 68 (by decide)) 3)))))))
                  refine jcallV (As := [.int r105, .int 1]) (rest := []) ⟨hx, hb, hml, hown, hts⟩ hK hP hA hS hZ (c_X12_goes_1 l D cI cL ad zz hJ σ284 τ r105 (r105.toInt) rfl w351 (by omega) (by omega) (by omega) (by omega) (by omega)) cw_RX12_296 (jc_55 cI cL ad σ284 τ) rfl ⟨Nat.le_of_ble_eq_true rfl, Nat.le_of_ble_eq_true rfl⟩ rfl rfl rfl hl.1 rfl (Nat.le_of_ble_eq_true rfl) dX12_game_183 ⟨Nat.zero_le _, Nat.zero_le _⟩ (fun r361 σ360 τ360 H locs h360 hP hS => ?_)
                  obtain ⟨rfl, f362, f363, w364, w365, w366, h360⟩ := h360
                  obtain ⟨k367, k368, k369, h360⟩ := h360
                  have h370 := h360
                  obtain ⟨q376, k371, k372, k373, k374, k375⟩ := h370
                  refine lv_istore (lv' := [(9, .int r361), (3, .int x149), (4, .int x145), (8, .int r122), (7, .int x115), (6, .int r105), (5, .int x47), (0, .ref (ad 55)), (1, .int a1), (2, .int a2)]) hx hb dX12_game_186 hl (by decide) rfl (fun ls hl => ?_)
                  refine lv_iload_n hx hb dX12_game_188 rfl (lv_at hl 1 rfl) ?_
                  refine lv_ldcw (v := 1103515245) hx hb hown (hts _ kw_46_14) dX12_game_189 ?_
                  have g377 := jrg (rfl : x149.toInt = x149.toInt)
                  refine lv_imul hx hb dX12_game_192 ?_
                  refine lv_topi (fun x378 ex378 => ?_)
                  have gx378 := jrg (rfl : x378.toInt = x378.toInt)
                  refine lv_sipush (v := 12345) hx hb dX12_game_193 (by decide) ?_
                  have g379 := jrg (rfl : x378.toInt = x378.toInt)
                  refine lv_iadd hx hb dX12_game_196 ?_
                  refine lv_topi (fun x380 ex380 => ?_)
                  have gx380 := jrg (rfl : x380.toInt = x380.toInt)
                  refine lv_istore_n (lv' := [(3, .int x380), (9, .int r361), (4, .int x145), (8, .int r122), (7, .int x115), (6, .int r105), (5, .int x47), (0, .ref (ad 55)), (1, .int a1), (2, .int a2)]) hx hb dX12_game_197 rfl hl (by decide) rfl (fun ls hl => ?_)
                  refine lv_iload_n hx hb dX12_game_198 rfl (lv_at hl 0 rfl) ?_
                  refine lv_bipush (v := 8) hx hb dX12_game_199 (by decide) ?_
                  refine lv_iushr hx hb dX12_game_201 rfl ?_
                  refine lv_topi (fun x381 ex381 => ?_)
                  have gx381 := jrg (rfl : x381.toInt = x381.toInt)
                  have g382 : 0 ≤ x381.toInt ∧ x381.toInt ≤ 16777215 := jushr8 ex381
                  refine lv_sipush (v := 1000) hx hb dX12_game_202 (by decide) ?_
                  refine lv_irem hx hb dX12_game_205 (by decide) ?_
                  refine lv_topi (fun x383 ex383 => ?_)
                  have tx383 : x383.toInt = (x381.toInt % 1000) := jrem ex383 rfl jz_1000 (by omega)
                  refine lv_aload_n hx hb dX12_game_206 rfl (lv_at hl 7 rfl) ?_
                  refine va_get (D := D) hx hb hts inlX12 hown hK hP 55 (jc_55 cI cL ad σ360 τ) rfl 13 (by decide) (hts _ kw_15_14) (fun _ h9 => h9) rfl dX12_game_207 ?_
                  have m384 : σ360 55 13 = (σ 55 13) := ((f363 13 (by decide)).trans ((congrFun (jnp 55 eσ284 (by decide)) 13).trans ((congrFun (jnp 55 eσ140 (by decide)) 13).trans ((congrFun (jnp 55 eσ129 (by decide)) 13).trans ((f124 13 (by decide)).trans ((f107 13 (by decide)).trans ((f71 13 (by decide)).trans ((jkp 13 eσ42 (by decide)).trans ((f41 13 (by decide)).trans (f25 13 (by decide)))))))))))
                  refine jtopr m384 ?_
                  refine lv_icmp_ge (tgt := 217) hx hb dX12_game_210 (by decide) (fun c385 => ?_) (fun c385 => ?_)
                  · have kc385 := jle c385 rfl tx383
                    refine lv_iconst (v := 0) hx hb dX12_game_217 (by decide) ?_
                    refine lv_istore (lv' := [(5, .int 0), (3, .int x380), (9, .int r361), (4, .int x145), (8, .int r122), (7, .int x115), (6, .int r105), (0, .ref (ad 55)), (1, .int a1), (2, .int a2)]) hx hb dX12_game_218 hl (by decide) rfl (fun ls hl => ?_)
                    refine lv_aload_n hx hb dX12_game_220 rfl (lv_at hl 7 rfl) ?_
                    refine lv_dup hx hb dX12_game_221 rfl ?_
                    refine va_get (D := D) hx hb hts inlX12 hown hK hP 55 (jc_55 cI cL ad σ360 τ) rfl 50 (by decide) (hts _ kw_46_13) (fun _ h9 => h9) rfl dX12_game_222 ?_
                    have m386 : σ360 55 50 = (σ52 55 50) := ((f363 50 (by decide)).trans m285)
                    refine jtopr m386 ?_
                    refine lv_iconst (v := 1) hx hb dX12_game_225 (by decide) ?_
                    have g387 := jrg (rfl : (σ52 55 50).toInt = (σ52 55 50).toInt)
                    refine lv_iadd hx hb dX12_game_226 ?_
                    refine lv_topi (fun x388 ex388 => ?_)
                    have tx388 : x388.toInt = (σ52 55 50).toInt + 1 := (jadd ex388 rfl jz_1 (by omega) (by omega)).trans (by omega)
                    refine jput (ty := .int) hx hb hts inlX12 tyX12 tyX12_ok nmX12 hown hK hP hJ hA hS (jc_55 cI cL ad σ360 τ) rfl (k := 50) (by decide) (Nat.le_of_ble_eq_true rfl) (jp_55_50 cI cL ad σ360 τ x388) (hts _ kw_46_13) (fun _ h9 => h9) rfl (by decide +kernel) rfl rfl dX12_game_227 (fun σ389 H locs eσ389 hP hS => ?_)
                    refine lv_goto (tgt := 43) hx hb dX12_game_230 (by decide) ?_
                    have z390 : (σ389 55 12).toInt = (σ 55 12).toInt := (congrArg Int32.toInt (show σ389 55 12 = (σ 55 12) from ((jkp 12 eσ389 (by decide)).trans ((f363 12 (by decide)).trans ((congrFun (jnp 55 eσ284 (by decide)) 12).trans ((congrFun (jnp 55 eσ140 (by decide)) 12).trans ((congrFun (jnp 55 eσ129 (by decide)) 12).trans ((f124 12 (by decide)).trans ((f107 12 (by decide)).trans ((f71 12 (by decide)).trans ((jkp 12 eσ42 (by decide)).trans ((f41 12 (by decide)).trans (f25 12 (by decide))))))))))))))
                    have z391 : (σ389 55 26).toInt = (σ360 55 26).toInt := (congrArg Int32.toInt (show σ389 55 26 = (σ360 55 26) from (jkp 26 eσ389 (by decide))))
                    have z392 : (σ389 55 25).toInt = (σ360 55 25).toInt := (congrArg Int32.toInt (show σ389 55 25 = (σ360 55 25) from (jkp 25 eσ389 (by decide))))
                    have z393 : (σ389 55 10).toInt = (σ 55 10).toInt := (congrArg Int32.toInt (show σ389 55 10 = (σ 55 10) from ((jkp 10 eσ389 (by decide)).trans ((f363 10 (by decide)).trans ((congrFun (jnp 55 eσ284 (by decide)) 10).trans ((congrFun (jnp 55 eσ140 (by decide)) 10).trans ((congrFun (jnp 55 eσ129 (by decide)) 10).trans ((f124 10 (by decide)).trans ((f107 10 (by decide)).trans ((f71 10 (by decide)).trans ((jkp 10 eσ42 (by decide)).trans ((f41 10 (by decide)).trans (f25 10 (by decide))))))))))))))
                    have z394 : (σ389 55 27).toInt = (σ360 55 27).toInt := (congrArg Int32.toInt (show σ389 55 27 = (σ360 55 27) from (jkp 27 eσ389 (by decide))))
                    have z395 : (σ389 55 50).toInt = (σ52 55 50).toInt + 1 := ((congrArg Int32.toInt (show σ389 55 50 = x388 from (jsp eσ389))).trans tx388)
                    have p396 : jKept σ389 := jKept.fr ((jnp 75 eσ389 (by decide)).trans ((f362 75 (by decide)).trans ((jnp 75 eσ284 (by decide)).trans ((jnp 75 eσ140 (by decide)).trans ((jnp 75 eσ129 (by decide)).trans (f123 75 (by decide))))))) ((jnp 76 eσ389 (by decide)).trans ((f362 76 (by decide)).trans ((jnp 76 eσ284 (by decide)).trans ((jnp 76 eσ140 (by decide)).trans ((jnp 76 eσ129 (by decide)).trans (f123 76 (by decide))))))) ((jnp 77 eσ389 (by decide)).trans ((f362 77 (by decide)).trans ((jnp 77 eσ284 (by decide)).trans ((jnp 77 eσ140 (by decide)).trans ((jnp 77 eσ129 (by decide)).trans (f123 77 (by decide))))))) p108
                    have I397 : jI109 σ389 := (show 0 ≤ (σ389 55 50).toInt ∧ (σ389 55 50).toInt ≤ 12 by omega)
                    have w398 : ∀ k : Nat, k < 4 → 0 ≤ (σ389 68 k).toInt ∧ (σ389 68 k).toInt ≤ 3 := (jrr_fr (jnp 68 eσ389 (by decide)) w364)
                    have I399 : jI119 σ389 := w398
                    exact ihlp43 x380 x145 0 σ389 _ _ ls (by have h92 := jz_0; omega) (by have h92 := jz_0; omega) (by have h92 := jz_0; omega) (by have h92 := jz_0; omega) (by have h92 := jz_0; omega) (by have h92 := jz_0; omega) (by have h92 := jz_0; omega) (fun i hi => ((jnp i eσ389 (imp_281 i hi)).trans ((f362 i (imp_283 i hi)).trans ((jnp i eσ284 (imp_288 i hi)).trans ((jnp i eσ140 (imp_289 i hi)).trans ((jnp i eσ129 (imp_290 i hi)).trans ((f123 i (imp_291 i hi)).trans ((f106 i (imp_292 i hi)).trans (f70 i hi))))))))) (fun i hi => ((jkp i eσ389 (imp_293 i hi)).trans ((f363 i (imp_294 i hi)).trans ((congrFun (jnp 55 eσ284 (by decide)) i).trans ((congrFun (jnp 55 eσ140 (by decide)) i).trans ((congrFun (jnp 55 eσ129 (by decide)) i).trans ((f124 i (imp_295 i hi)).trans ((f107 i (imp_296 i hi)).trans (f71 i hi)))))))))  p396 I397 I399 hP hS (lv_sub hl [0, 3, 1, 7, 8, 9] rfl)
                  · have kc385 := jnle c385 rfl tx383
                    refine lv_iconst (v := 1) hx hb dX12_game_213 (by decide) ?_
                    refine lv_goto (tgt := 218) hx hb dX12_game_214 (by decide) ?_
                    refine lv_istore (lv' := [(5, .int 1), (3, .int x380), (9, .int r361), (4, .int x145), (8, .int r122), (7, .int x115), (6, .int r105), (0, .ref (ad 55)), (1, .int a1), (2, .int a2)]) hx hb dX12_game_218 hl (by decide) rfl (fun ls hl => ?_)
                    refine lv_aload_n hx hb dX12_game_220 rfl (lv_at hl 7 rfl) ?_
                    refine lv_dup hx hb dX12_game_221 rfl ?_
                    refine va_get (D := D) hx hb hts inlX12 hown hK hP 55 (jc_55 cI cL ad σ360 τ) rfl 50 (by decide) (hts _ kw_46_13) (fun _ h9 => h9) rfl dX12_game_222 ?_
                    have m400 : σ360 55 50 = (σ52 55 50) := ((f363 50 (by decide)).trans m285)
                    refine jtopr m400 ?_
                    refine lv_iconst (v := 1) hx hb dX12_game_225 (by decide) ?_
                    have g401 := jrg (rfl : (σ52 55 50).toInt = (σ52 55 50).toInt)
                    refine lv_iadd hx hb dX12_game_226 ?_
                    refine lv_topi (fun x402 ex402 => ?_)
                    have tx402 : x402.toInt = (σ52 55 50).toInt + 1 := (jadd ex402 rfl jz_1 (by omega) (by omega)).trans (by omega)
                    refine jput (ty := .int) hx hb hts inlX12 tyX12 tyX12_ok nmX12 hown hK hP hJ hA hS (jc_55 cI cL ad σ360 τ) rfl (k := 50) (by decide) (Nat.le_of_ble_eq_true rfl) (jp_55_50 cI cL ad σ360 τ x402) (hts _ kw_46_13) (fun _ h9 => h9) rfl (by decide +kernel) rfl rfl dX12_game_227 (fun σ403 H locs eσ403 hP hS => ?_)
                    refine lv_goto (tgt := 43) hx hb dX12_game_230 (by decide) ?_
                    have z404 : (σ403 55 12).toInt = (σ 55 12).toInt := (congrArg Int32.toInt (show σ403 55 12 = (σ 55 12) from ((jkp 12 eσ403 (by decide)).trans ((f363 12 (by decide)).trans ((congrFun (jnp 55 eσ284 (by decide)) 12).trans ((congrFun (jnp 55 eσ140 (by decide)) 12).trans ((congrFun (jnp 55 eσ129 (by decide)) 12).trans ((f124 12 (by decide)).trans ((f107 12 (by decide)).trans ((f71 12 (by decide)).trans ((jkp 12 eσ42 (by decide)).trans ((f41 12 (by decide)).trans (f25 12 (by decide))))))))))))))
                    have z405 : (σ403 55 26).toInt = (σ360 55 26).toInt := (congrArg Int32.toInt (show σ403 55 26 = (σ360 55 26) from (jkp 26 eσ403 (by decide))))
                    have z406 : (σ403 55 25).toInt = (σ360 55 25).toInt := (congrArg Int32.toInt (show σ403 55 25 = (σ360 55 25) from (jkp 25 eσ403 (by decide))))
                    have z407 : (σ403 55 10).toInt = (σ 55 10).toInt := (congrArg Int32.toInt (show σ403 55 10 = (σ 55 10) from ((jkp 10 eσ403 (by decide)).trans ((f363 10 (by decide)).trans ((congrFun (jnp 55 eσ284 (by decide)) 10).trans ((congrFun (jnp 55 eσ140 (by decide)) 10).trans ((congrFun (jnp 55 eσ129 (by decide)) 10).trans ((f124 10 (by decide)).trans ((f107 10 (by decide)).trans ((f71 10 (by decide)).trans ((jkp 10 eσ42 (by decide)).trans ((f41 10 (by decide)).trans (f25 10 (by decide))))))))))))))
                    have z408 : (σ403 55 27).toInt = (σ360 55 27).toInt := (congrArg Int32.toInt (show σ403 55 27 = (σ360 55 27) from (jkp 27 eσ403 (by decide))))
                    have z409 : (σ403 55 50).toInt = (σ52 55 50).toInt + 1 := ((congrArg Int32.toInt (show σ403 55 50 = x402 from (jsp eσ403))).trans tx402)
                    have p410 : jKept σ403 := jKept.fr ((jnp 75 eσ403 (by decide)).trans ((f362 75 (by decide)).trans ((jnp 75 eσ284 (by decide)).trans ((jnp 75 eσ140 (by decide)).trans ((jnp 75 eσ129 (by decide)).trans (f123 75 (by decide))))))) ((jnp 76 eσ403 (by decide)).trans ((f362 76 (by decide)).trans ((jnp 76 eσ284 (by decide)).trans ((jnp 76 eσ140 (by decide)).trans ((jnp 76 eσ129 (by decide)).trans (f123 76 (by decide))))))) ((jnp 77 eσ403 (by decide)).trans ((f362 77 (by decide)).trans ((jnp 77 eσ284 (by decide)).trans ((jnp 77 eσ140 (by decide)).trans ((jnp 77 eσ129 (by decide)).trans (f123 77 (by decide))))))) p108
                    have I411 : jI109 σ403 := (show 0 ≤ (σ403 55 50).toInt ∧ (σ403 55 50).toInt ≤ 12 by omega)
                    have w412 : ∀ k : Nat, k < 4 → 0 ≤ (σ403 68 k).toInt ∧ (σ403 68 k).toInt ≤ 3 := (jrr_fr (jnp 68 eσ403 (by decide)) w364)
                    have I413 : jI119 σ403 := w412
                    exact ihlp43 x380 x145 1 σ403 _ _ ls (by have h92 := jz_1; omega) (by have h92 := jz_1; omega) (by have h92 := jz_1; omega) (by have h92 := jz_1; omega) (by have h92 := jz_1; omega) (by have h92 := jz_1; omega) (by have h92 := jz_1; omega) (fun i hi => ((jnp i eσ403 (imp_281 i hi)).trans ((f362 i (imp_283 i hi)).trans ((jnp i eσ284 (imp_288 i hi)).trans ((jnp i eσ140 (imp_289 i hi)).trans ((jnp i eσ129 (imp_290 i hi)).trans ((f123 i (imp_291 i hi)).trans ((f106 i (imp_292 i hi)).trans (f70 i hi))))))))) (fun i hi => ((jkp i eσ403 (imp_293 i hi)).trans ((f363 i (imp_294 i hi)).trans ((congrFun (jnp 55 eσ284 (by decide)) i).trans ((congrFun (jnp 55 eσ140 (by decide)) i).trans ((congrFun (jnp 55 eσ129 (by decide)) i).trans ((f124 i (imp_295 i hi)).trans ((f107 i (imp_296 i hi)).trans (f71 i hi)))))))))  p410 I411 I413 hP hS (lv_sub hl [0, 3, 1, 7, 8, 9] rfl)
      exact lp43 1000000 a2 0 0 σ42 _ _ ls (by have h90 := t2; have h91 := jz_0; have h92 := jz_0; omega) (by have h90 := t2; have h91 := jz_0; have h92 := jz_0; omega) (by have h90 := t2; have h91 := jz_0; have h92 := jz_0; omega) (by have h90 := t2; have h91 := jz_0; have h92 := jz_0; omega) (by have h90 := t2; have h91 := jz_0; have h92 := jz_0; omega) (by have h90 := t2; have h91 := jz_0; have h92 := jz_0; omega) (by have h90 := t2; have h91 := jz_0; have h92 := jz_0; omega) (fun _ _ => rfl) (fun _ _ => rfl)  p62 I54 I56 hP hS hl
    · have kc20 := jnle c20 rfl jz_8
      refine lv_bipush (v := (-4)) hx hb dX12_game_19 (by decide) ?_
      exact hret (-4) σ τ _ _ _ _ rfl ⟨rfl, (fun _ _ => rfl), (fun _ _ => rfl), hI109, hI119, hs_jKept, trivial⟩ hP hS dX12_game_21
  · obtain ⟨q415, k414⟩ := h17
    have q415 := q415.symm
    subst q415
    refine lv_if_ne (tgt := 10) hx hb dX12_game_5 (by decide) (fun c => absurd (by decide) c) (fun _ => ?_)
    refine lv_iconst (v := (-1)) hx hb dX12_game_8 (by decide) ?_
    exact hret (-1) σ τ _ _ _ _ rfl ⟨rfl, (fun _ _ => rfl), (fun _ _ => rfl), hI109, hI119, hs_jKept, trivial⟩ hP hS dX12_game_9
set_option maxHeartbeats 4000000 in
set_option maxRecDepth 100000 in
theorem c_X12_led (l : Launch) (D : va_G) (cI cL : ClassId) (ad zz : Nat → Nat) (hJ : jD ad) (σ : Nat → Nat → Int32) (τ : Nat → Nat → Int64) (a1 : Int32) (A1 : Int) (t1 : a1.toInt = A1) (a2 : Int32) (A2 : Int) (t2 : a2.toInt = A2) (hI109 : jI109 σ) : jM l yX12_led cX12_led 3 (some .int) ({ frames := 1, cells := 0, slots := 0, locals := 25 }) D cI cL ad zz [.ref (ad 55), .int a1, .int a2] σ τ (fun r σ' τ' => (σ = σ' ∧ τ = τ') ∧ True) := by
  refine jM.of hJ (by decide +kernel) (nt := .int) rfl (Nat.le_of_ble_eq_true rfl) ?_
  intro p e s m args below meth c Q ls hC hret hl hP
  obtain ⟨hx, hb, hr, hml, hown, hts, hK, -, hlocks, hZ⟩ := hC
  have hown : s.vm.findClass RX12 = some m.cls := hown
  have hS : va_S (jA ad) s.heap s.heap [] := va_S.rf
  have hA : ∀ q, jA ad q → jA ad q := fun _ h => h
  have hl : lv_has ls 3 [(0, .ref (ad 55)), (1, .int a1), (2, .int a2)] := hl
  have g1 := jrg t1
  have g2 := jrg t2
  have i1 : 0 ≤ (σ 55 50).toInt ∧ (σ 55 50).toInt ≤ 12 := hI109
  refine lv_iload_n hx hb dX12_led_0 rfl (lv_at hl 1 rfl) ?_
  refine lv_iconst (v := (-1)) hx hb dX12_led_1 (by decide) ?_
  refine lv_icmp_ne (tgt := 18) hx hb dX12_led_2 (by decide) (fun c2 => ?_) (fun c2 => ?_)
  · have kc2 := jne c2 t1 jz_m1
    refine lv_iload_n hx hb dX12_led_18 rfl (lv_at hl 1 rfl) ?_
    refine lv_i2l (v := a1.toInt64) hx hb dX12_led_19 rfl ?_
    refine lv_lconst (v := 0) hx hb dX12_led_20 (by decide) ?_
    refine lv_aload_n hx hb dX12_led_21 rfl (lv_at hl 0 rfl) ?_
    refine va_get (D := D) hx hb hts inlX12 hown hK hP 55 (jc_55 cI cL ad σ τ) rfl 50 (by decide) (hts _ kw_46_13) (fun _ h9 => h9) rfl dX12_led_22 ?_
    refine lv_iconst (v := 1) hx hb dX12_led_25 (by decide) ?_
    have g3 := jrg (rfl : (σ 55 50).toInt = (σ 55 50).toInt)
    refine lv_isub hx hb dX12_led_26 ?_
    refine lv_topi (fun x4 ex4 => ?_)
    have tx4 : x4.toInt = (σ 55 50).toInt - 1 := (jsub ex4 rfl jz_1 (by omega) (by omega)).trans (by omega)
    refine lv_i2l (v := x4.toInt64) hx hb dX12_led_27 rfl ?_
    refine jcallS (As := [.long a1.toInt64, .long 0, .long x4.toInt64]) (rest := []) ⟨hx, hb, hml, hown, hts⟩ hK hP hA hS hZ (c_X12_within l D cI cL ad zz hJ σ τ a1.toInt64 (A1) (jtoL t1) 0 (0) jzl_0 x4.toInt64 ((σ 55 50).toInt - 1) (jtoL tx4)) cw_RX12_136 ⟨Nat.le_of_ble_eq_true rfl, Nat.le_of_ble_eq_true rfl⟩ rfl rfl rfl hl.1 rfl (Nat.le_of_ble_eq_true rfl) dX12_led_28 ⟨Nat.zero_le _, Nat.zero_le _⟩ (fun r6 σ5 τ5 H locs h5 hP hS => ?_)
    obtain ⟨⟨rfl, rfl⟩, h5⟩ := h5
    rcases h5 with h7 | h8
    · obtain ⟨q10, k9⟩ := h7
      have q10 := q10.symm
      subst q10
      refine lv_if_ne (tgt := 36) hx hb dX12_led_31 (by decide) (fun _ => ?_) (fun c => absurd c (by decide))
      refine lv_iload_n hx hb dX12_led_36 rfl (lv_at hl 2 rfl) ?_
      by_cases c11 : a2 = 0
      · have kc11 := jeq c11 t2 jz_0
        refine jtopr c11 ?_
        refine lv_tableIn (off := 27) (tgt := 64) hx hb dX12_led_37 (by decide) (by decide) (by decide) (by decide) ?_
        refine lv_aload_n hx hb dX12_led_64 rfl (lv_at hl 0 rfl) ?_
        refine va_get (D := D) hx hb hts inlX12 hown hK hP 55 (jc_55 cI cL ad σ τ) rfl 51 (by decide) (hts _ kw_8_7) (fun _ h9 => h9) rfl dX12_led_65 ?_
        refine lv_iload_n hx hb dX12_led_68 rfl (lv_at hl 1 rfl) ?_
        refine jald hx hb hK hP (jc_82 cI cL ad σ τ) (jin t1 (by omega) (by omega)) dX12_led_69 ?_
        refine lv_topi (fun x12 ex12 => ?_)
        exact hret x12 σ τ _ _ _ _ rfl ⟨⟨rfl, rfl⟩, trivial⟩ hP hS dX12_led_70
      have kc11 := jne c11 t2 jz_0
      by_cases c13 : a2 = 1
      · have kc13 := jeq c13 t2 jz_1
        refine jtopr c13 ?_
        refine lv_tableIn (off := 34) (tgt := 71) hx hb dX12_led_37 (by decide) (by decide) (by decide) (by decide) ?_
        refine lv_aload_n hx hb dX12_led_71 rfl (lv_at hl 0 rfl) ?_
        refine va_get (D := D) hx hb hts inlX12 hown hK hP 55 (jc_55 cI cL ad σ τ) rfl 52 (by decide) (hts _ kw_8_8) (fun _ h9 => h9) rfl dX12_led_72 ?_
        refine lv_iload_n hx hb dX12_led_75 rfl (lv_at hl 1 rfl) ?_
        refine jald hx hb hK hP (jc_83 cI cL ad σ τ) (jin t1 (by omega) (by omega)) dX12_led_76 ?_
        refine lv_topi (fun x14 ex14 => ?_)
        exact hret x14 σ τ _ _ _ _ rfl ⟨⟨rfl, rfl⟩, trivial⟩ hP hS dX12_led_77
      have kc13 := jne c13 t2 jz_1
      by_cases c15 : a2 = 2
      · have kc15 := jeq c15 t2 jz_2
        refine jtopr c15 ?_
        refine lv_tableIn (off := 41) (tgt := 78) hx hb dX12_led_37 (by decide) (by decide) (by decide) (by decide) ?_
        refine lv_aload_n hx hb dX12_led_78 rfl (lv_at hl 0 rfl) ?_
        refine va_get (D := D) hx hb hts inlX12 hown hK hP 55 (jc_55 cI cL ad σ τ) rfl 53 (by decide) (hts _ kw_8_9) (fun _ h9 => h9) rfl dX12_led_79 ?_
        refine lv_iload_n hx hb dX12_led_82 rfl (lv_at hl 1 rfl) ?_
        refine jald hx hb hK hP (jc_84 cI cL ad σ τ) (jin t1 (by omega) (by omega)) dX12_led_83 ?_
        refine lv_topi (fun x16 ex16 => ?_)
        exact hret x16 σ τ _ _ _ _ rfl ⟨⟨rfl, rfl⟩, trivial⟩ hP hS dX12_led_84
      have kc15 := jne c15 t2 jz_2
      refine lv_tableOut (tgt := 85) hx hb dX12_led_37 (by rw [t2]; omega) (by decide) ?_
      refine lv_iconst (v := (-1)) hx hb dX12_led_85 (by decide) ?_
      exact hret (-1) σ τ _ _ _ _ rfl ⟨⟨rfl, rfl⟩, trivial⟩ hP hS dX12_led_86
    · obtain ⟨q18, k17⟩ := h8
      have q18 := q18.symm
      subst q18
      refine lv_if_ne (tgt := 36) hx hb dX12_led_31 (by decide) (fun c => absurd (by decide) c) (fun _ => ?_)
      refine lv_iconst (v := (-1)) hx hb dX12_led_34 (by decide) ?_
      exact hret (-1) σ τ _ _ _ _ rfl ⟨⟨rfl, rfl⟩, trivial⟩ hP hS dX12_led_35
  · have kc2 := jeq c2 t1 jz_m1
    refine lv_iload_n hx hb dX12_led_5 rfl (lv_at hl 2 rfl) ?_
    refine lv_if_ne (tgt := 16) hx hb dX12_led_6 (by decide) (fun c19 => ?_) (fun c19 => ?_)
    · have kc19 := jne c19 t2 jz_0
      refine lv_iconst (v := (-1)) hx hb dX12_led_16 (by decide) ?_
      exact hret (-1) σ τ _ _ _ _ rfl ⟨⟨rfl, rfl⟩, trivial⟩ hP hS dX12_led_17
    · have kc19 := jeq c19 t2 jz_0
      refine lv_aload_n hx hb dX12_led_9 rfl (lv_at hl 0 rfl) ?_
      refine va_get (D := D) hx hb hts inlX12 hown hK hP 55 (jc_55 cI cL ad σ τ) rfl 50 (by decide) (hts _ kw_46_13) (fun _ h9 => h9) rfl dX12_led_10 ?_
      refine lv_goto (tgt := 17) hx hb dX12_led_13 (by decide) ?_
      exact hret (σ 55 50) σ τ _ _ _ _ rfl ⟨⟨rfl, rfl⟩, trivial⟩ hP hS dX12_led_17
