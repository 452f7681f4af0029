set_option maxHeartbeats 4000000 in
set_option maxRecDepth 100000 in
theorem c_X7_take_9 (l : Launch) (D : va_G) (cI cL : ClassId) (ad : Nat → Nat) (hJ : jD ad) (σ : Nat → Nat → Int32) (τ : Nat → Nat → Int64) (a1 : Int32) (A1 : Int) (t1 : a1.toInt = A1) (a2 : Int32) (A2 : Int) (t2 : a2.toInt = A2) (h9_0 : σ 9 0 = 0) (hp0 : 1 ≤ A1) (hp1 : A1 ≤ 4) : jM l yX7_take cX7_take 4 (some .int) ({ frames := 0, cells := 0, slots := 0, locals := 0 }) D cI cL ad [.ref (ad 9), .int a1, .int a2] σ τ (fun r σ' τ' => (∀ i : Nat, (i < 9 ∨ 10 < i) → σ' i = σ i) ∧ ((r = a1 ∧ True))) := by
  refine jM.of hJ (by decide +kernel) (nt := .int) rfl (Nat.le_of_ble_eq_true rfl) ?_
  intro p e s m args below meth c Q ls hC hret hl hP
  obtain ⟨hx, hb, hr, hml, hown, hts, hK, -, hlocks⟩ := hC
  have hown : s.vm.findClass RX7 = some m.cls := hown
  have hS : va_S (jA ad) s.heap s.heap [] := va_S.rf
  have hA : ∀ q, jA ad q → jA ad q := fun _ h => h
  have hl : lv_has ls 4 [(0, .ref (ad 9)), (1, .int a1), (2, .int a2)] := hl
  have g1 := jrg t1
  have g2 := jrg t2
  refine lv_iconst (v := 0) hx hb dX7_take_0 (by decide) ?_
  refine lv_istore_n (lv' := [(3, .int 0), (0, .ref (ad 9)), (1, .int a1), (2, .int a2)]) hx hb dX7_take_1 rfl hl (by decide) rfl (fun ls hl => ?_)
  refine lv_iload_n hx hb dX7_take_2 rfl (lv_at hl 0 rfl) ?_
  refine lv_iload_n hx hb dX7_take_3 rfl (lv_at hl 2 rfl) ?_
  refine lv_icmp_ge (tgt := 53) hx hb dX7_take_4 (by decide) (fun c => absurd (jle c t1 jz_0) (by omega)) (fun c1 => ?_)
  have kc1 := jnle c1 t1 jz_0
  refine lv_iload_n hx hb dX7_take_7 rfl (lv_at hl 0 rfl) ?_
  refine lv_iconst (v := 4) hx hb dX7_take_8 (by decide) ?_
  refine lv_icmp_ge (tgt := 53) hx hb dX7_take_9 (by decide) (fun c => absurd c (by decide)) (fun _ => ?_)
  refine lv_aload_n hx hb dX7_take_12 rfl (lv_at hl 1 rfl) ?_
  refine va_get (D := D) hx hb hts inlX7 hown hK hP 9 (jc_9 cI cL ad σ τ) rfl 0 (by decide) (hts _ kw_13_0) (fun _ h9 => h9) rfl dX7_take_13 ?_
  refine jtopr h9_0 ?_
  refine lv_bipush (v := 80) hx hb dX7_take_16 (by decide) ?_
  refine lv_icmp_ge (tgt := 53) hx hb dX7_take_18 (by decide) (fun c => absurd c (by decide)) (fun _ => ?_)
  refine lv_aload_n hx hb dX7_take_21 rfl (lv_at hl 1 rfl) ?_
  refine va_get (D := D) hx hb hts inlX7 hown hK hP 9 (jc_9 cI cL ad σ τ) rfl 3 (by decide) (hts _ kw_3_20) (fun _ h9 => h9) rfl dX7_take_22 ?_
  refine lv_aload_n hx hb dX7_take_25 rfl (lv_at hl 1 rfl) ?_
  refine lv_dup hx hb dX7_take_26 rfl ?_
  refine va_get (D := D) hx hb hts inlX7 hown hK hP 9 (jc_9 cI cL ad σ τ) rfl 0 (by decide) (hts _ kw_13_0) (fun _ h9 => h9) rfl dX7_take_27 ?_
  refine jtopr h9_0 ?_
  refine lv_dup_x1 hx hb dX7_take_30 rfl rfl ?_
  refine lv_iconst (v := 1) hx hb dX7_take_31 (by decide) ?_
  refine lv_iadd hx hb dX7_take_32 ?_
  refine jtopr (y := 1) (by decide) ?_
  refine jput (ty := .int) hx hb hts inlX7 tyX7 tyX7_ok nmX7 hown hK hP hJ hA hS (jc_9 cI cL ad σ τ) rfl (k := 0) (by decide) (Nat.le_of_ble_eq_true rfl) (jp_9_0 cI cL ad σ τ 1) (hts _ kw_13_0) (fun _ h9 => h9) rfl (by decide +kernel) rfl rfl dX7_take_33 (fun σ2 H locs eσ2 hP hS => ?_)
  refine lv_iload_n hx hb dX7_take_36 rfl (lv_at hl 3 rfl) ?_
  refine lv_bipush (v := 8) hx hb dX7_take_37 (by decide) ?_
  refine lv_iload_n hx hb dX7_take_39 rfl (lv_at hl 0 rfl) ?_
  refine lv_imul hx hb dX7_take_40 ?_
  refine jtopr (y := 0) (by decide) ?_
  refine lv_iushr hx hb dX7_take_41 rfl ?_
  refine lv_topi (fun x3 ex3 => ?_)
  have gx3 := jrg (rfl : x3.toInt = x3.toInt)
  refine lv_sipush (v := 255) hx hb dX7_take_42 (by decide) ?_
  refine lv_iand hx hb dX7_take_45 ?_
  refine lv_topi (fun x4 ex4 => ?_)
  have gx4 := jrg (rfl : x4.toInt = x4.toInt)
  have g5 : 0 ≤ x4.toInt ∧ x4.toInt ≤ 255 := jmask ex4 8 (by decide) (by decide)
  refine jast hx hb hK hP hJ hA hS (jc_10 cI cL ad σ2 τ) (ja_10 cI cL ad σ2 τ _ _) (jin jz_0 (by omega) (by omega)) dX7_take_46 (fun σ6 H locs eσ6 hP hS => ?_)
  have eσ6 : σ6 = jup σ2 10 0 x4 := eσ6
  refine lv_iinc (v := 1) (lv' := [(3, .int 1), (0, .ref (ad 9)), (1, .int a1), (2, .int a2)]) hx hb dX7_take_47 hl (k := 0) rfl (by decide) (by decide) rfl (fun ls hl => ?_)
  refine lv_goto (tgt := 2) hx hb dX7_take_50 (by decide) ?_
  refine lv_iload_n hx hb dX7_take_2 rfl (lv_at hl 0 rfl) ?_
  refine lv_iload_n hx hb dX7_take_3 rfl (lv_at hl 2 rfl) ?_
  refine lv_icmp_ge (tgt := 53) hx hb dX7_take_4 (by decide) (fun c7 => ?_) (fun c7 => ?_)
  · have kc7 := jle c7 t1 jz_1
    refine lv_aload_n hx hb dX7_take_53 rfl (lv_at hl 1 rfl) ?_
    refine va_get (D := D) hx hb hts inlX7 hown hK hP 9 (jc_9 cI cL ad σ6 τ) rfl 0 (by decide) (hts _ kw_13_0) (fun _ h9 => h9) rfl dX7_take_54 ?_
    have m8 : σ6 9 0 = 1 := (by rw [eσ6, jup_n (by decide)]; exact (by rw [eσ2]; exact jup_s))
    refine jtopr m8 ?_
    exact hret 1 σ6 τ _ _ _ _ rfl ⟨(fun i hi => by rw [eσ6, jup_n (by omega), eσ2, jup_n (by omega)]), ⟨jsame jz_1 t1 (by omega), trivial⟩⟩ hP hS dX7_take_57
  · have kc7 := jnle c7 t1 jz_1
    refine lv_iload_n hx hb dX7_take_7 rfl (lv_at hl 0 rfl) ?_
    refine lv_iconst (v := 4) hx hb dX7_take_8 (by decide) ?_
    refine lv_icmp_ge (tgt := 53) hx hb dX7_take_9 (by decide) (fun c => absurd c (by decide)) (fun _ => ?_)
    refine lv_aload_n hx hb dX7_take_12 rfl (lv_at hl 1 rfl) ?_
    refine va_get (D := D) hx hb hts inlX7 hown hK hP 9 (jc_9 cI cL ad σ6 τ) rfl 0 (by decide) (hts _ kw_13_0) (fun _ h9 => h9) rfl dX7_take_13 ?_
    have m9 : σ6 9 0 = 1 := (by rw [eσ6, jup_n (by decide)]; exact (by rw [eσ2]; exact jup_s))
    refine jtopr m9 ?_
    refine lv_bipush (v := 80) hx hb dX7_take_16 (by decide) ?_
    refine lv_icmp_ge (tgt := 53) hx hb dX7_take_18 (by decide) (fun c => absurd c (by decide)) (fun _ => ?_)
    refine lv_aload_n hx hb dX7_take_21 rfl (lv_at hl 1 rfl) ?_
    refine va_get (D := D) hx hb hts inlX7 hown hK hP 9 (jc_9 cI cL ad σ6 τ) rfl 3 (by decide) (hts _ kw_3_20) (fun _ h9 => h9) rfl dX7_take_22 ?_
    refine lv_aload_n hx hb dX7_take_25 rfl (lv_at hl 1 rfl) ?_
    refine lv_dup hx hb dX7_take_26 rfl ?_
    refine va_get (D := D) hx hb hts inlX7 hown hK hP 9 (jc_9 cI cL ad σ6 τ) rfl 0 (by decide) (hts _ kw_13_0) (fun _ h9 => h9) rfl dX7_take_27 ?_
    refine jtopr m9 ?_
    refine lv_dup_x1 hx hb dX7_take_30 rfl rfl ?_
    refine lv_iconst (v := 1) hx hb dX7_take_31 (by decide) ?_
    refine lv_iadd hx hb dX7_take_32 ?_
    refine jtopr (y := 2) (by decide) ?_
    refine jput (ty := .int) hx hb hts inlX7 tyX7 tyX7_ok nmX7 hown hK hP hJ hA hS (jc_9 cI cL ad σ6 τ) rfl (k := 0) (by decide) (Nat.le_of_ble_eq_true rfl) (jp_9_0 cI cL ad σ6 τ 2) (hts _ kw_13_0) (fun _ h9 => h9) rfl (by decide +kernel) rfl rfl dX7_take_33 (fun σ10 H locs eσ10 hP hS => ?_)
    refine lv_iload_n hx hb dX7_take_36 rfl (lv_at hl 3 rfl) ?_
    refine lv_bipush (v := 8) hx hb dX7_take_37 (by decide) ?_
    refine lv_iload_n hx hb dX7_take_39 rfl (lv_at hl 0 rfl) ?_
    refine lv_imul hx hb dX7_take_40 ?_
    refine jtopr (y := 8) (by decide) ?_
    refine lv_iushr hx hb dX7_take_41 rfl ?_
    refine lv_topi (fun x11 ex11 => ?_)
    have gx11 := jrg (rfl : x11.toInt = x11.toInt)
    refine lv_sipush (v := 255) hx hb dX7_take_42 (by decide) ?_
    refine lv_iand hx hb dX7_take_45 ?_
    refine lv_topi (fun x12 ex12 => ?_)
    have gx12 := jrg (rfl : x12.toInt = x12.toInt)
    have g13 : 0 ≤ x12.toInt ∧ x12.toInt ≤ 255 := jmask ex12 8 (by decide) (by decide)
    refine jast hx hb hK hP hJ hA hS (jc_10 cI cL ad σ10 τ) (ja_10 cI cL ad σ10 τ _ _) (jin jz_1 (by omega) (by omega)) dX7_take_46 (fun σ14 H locs eσ14 hP hS => ?_)
    have eσ14 : σ14 = jup σ10 10 1 x12 := eσ14
    refine lv_iinc (v := 2) (lv' := [(3, .int 2), (0, .ref (ad 9)), (1, .int a1), (2, .int a2)]) hx hb dX7_take_47 hl (k := 0) rfl (by decide) (by decide) rfl (fun ls hl => ?_)
    refine lv_goto (tgt := 2) hx hb dX7_take_50 (by decide) ?_
    refine lv_iload_n hx hb dX7_take_2 rfl (lv_at hl 0 rfl) ?_
    refine lv_iload_n hx hb dX7_take_3 rfl (lv_at hl 2 rfl) ?_
    refine lv_icmp_ge (tgt := 53) hx hb dX7_take_4 (by decide) (fun c15 => ?_) (fun c15 => ?_)
    · have kc15 := jle c15 t1 jz_2
      refine lv_aload_n hx hb dX7_take_53 rfl (lv_at hl 1 rfl) ?_
      refine va_get (D := D) hx hb hts inlX7 hown hK hP 9 (jc_9 cI cL ad σ14 τ) rfl 0 (by decide) (hts _ kw_13_0) (fun _ h9 => h9) rfl dX7_take_54 ?_
      have m16 : σ14 9 0 = 2 := (by rw [eσ14, jup_n (by decide)]; exact (by rw [eσ10]; exact jup_s))
      refine jtopr m16 ?_
      exact hret 2 σ14 τ _ _ _ _ rfl ⟨(fun i hi => by rw [eσ14, jup_n (by omega), eσ10, jup_n (by omega), eσ6, jup_n (by omega), eσ2, jup_n (by omega)]), ⟨jsame jz_2 t1 (by omega), trivial⟩⟩ hP hS dX7_take_57
    · have kc15 := jnle c15 t1 jz_2
      refine lv_iload_n hx hb dX7_take_7 rfl (lv_at hl 0 rfl) ?_
      refine lv_iconst (v := 4) hx hb dX7_take_8 (by decide) ?_
      refine lv_icmp_ge (tgt := 53) hx hb dX7_take_9 (by decide) (fun c => absurd c (by decide)) (fun _ => ?_)
      refine lv_aload_n hx hb dX7_take_12 rfl (lv_at hl 1 rfl) ?_
      refine va_get (D := D) hx hb hts inlX7 hown hK hP 9 (jc_9 cI cL ad σ14 τ) rfl 0 (by decide) (hts _ kw_13_0) (fun _ h9 => h9) rfl dX7_take_13 ?_
      have m17 : σ14 9 0 = 2 := (by rw [eσ14, jup_n (by decide)]; exact (by rw [eσ10]; exact jup_s))
      refine jtopr m17 ?_
      refine lv_bipush (v := 80) hx hb dX7_take_16 (by decide) ?_
      refine lv_icmp_ge (tgt := 53) hx hb dX7_take_18 (by decide) (fun c => absurd c (by decide)) (fun _ => ?_)
      refine lv_aload_n hx hb dX7_take_21 rfl (lv_at hl 1 rfl) ?_
      refine va_get (D := D) hx hb hts inlX7 hown hK hP 9 (jc_9 cI cL ad σ14 τ) rfl 3 (by decide) (hts _ kw_3_20) (fun _ h9 => h9) rfl dX7_take_22 ?_
      refine lv_aload_n hx hb dX7_take_25 rfl (lv_at hl 1 rfl) ?_
      refine lv_dup hx hb dX7_take_26 rfl ?_
      refine va_get (D := D) hx hb hts inlX7 hown hK hP 9 (jc_9 cI cL ad σ14 τ) rfl 0 (by decide) (hts _ kw_13_0) (fun _ h9 => h9) rfl dX7_take_27 ?_
      refine jtopr m17 ?_
      refine lv_dup_x1 hx hb dX7_take_30 rfl rfl ?_
      refine lv_iconst (v := 1) hx hb dX7_take_31 (by decide) ?_
      refine lv_iadd hx hb dX7_take_32 ?_
      refine jtopr (y := 3) (by decide) ?_
      refine jput (ty := .int) hx hb hts inlX7 tyX7 tyX7_ok nmX7 hown hK hP hJ hA hS (jc_9 cI cL ad σ14 τ) rfl (k := 0) (by decide) (Nat.le_of_ble_eq_true rfl) (jp_9_0 cI cL ad σ14 τ 3) (hts _ kw_13_0) (fun _ h9 => h9) rfl (by decide +kernel) rfl rfl dX7_take_33 (fun σ18 H locs eσ18 hP hS => ?_)
      refine lv_iload_n hx hb dX7_take_36 rfl (lv_at hl 3 rfl) ?_
      refine lv_bipush (v := 8) hx hb dX7_take_37 (by decide) ?_
      refine lv_iload_n hx hb dX7_take_39 rfl (lv_at hl 0 rfl) ?_
      refine lv_imul hx hb dX7_take_40 ?_
      refine jtopr (y := 16) (by decide) ?_
      refine lv_iushr hx hb dX7_take_41 rfl ?_
      refine lv_topi (fun x19 ex19 => ?_)
      have gx19 := jrg (rfl : x19.toInt = x19.toInt)
      refine lv_sipush (v := 255) hx hb dX7_take_42 (by decide) ?_
      refine lv_iand hx hb dX7_take_45 ?_
      refine lv_topi (fun x20 ex20 => ?_)
      have gx20 := jrg (rfl : x20.toInt = x20.toInt)
      have g21 : 0 ≤ x20.toInt ∧ x20.toInt ≤ 255 := jmask ex20 8 (by decide) (by decide)
      refine jast hx hb hK hP hJ hA hS (jc_10 cI cL ad σ18 τ) (ja_10 cI cL ad σ18 τ _ _) (jin jz_2 (by omega) (by omega)) dX7_take_46 (fun σ22 H locs eσ22 hP hS => ?_)
      have eσ22 : σ22 = jup σ18 10 2 x20 := eσ22
      refine lv_iinc (v := 3) (lv' := [(3, .int 3), (0, .ref (ad 9)), (1, .int a1), (2, .int a2)]) hx hb dX7_take_47 hl (k := 0) rfl (by decide) (by decide) rfl (fun ls hl => ?_)
      refine lv_goto (tgt := 2) hx hb dX7_take_50 (by decide) ?_
      refine lv_iload_n hx hb dX7_take_2 rfl (lv_at hl 0 rfl) ?_
      refine lv_iload_n hx hb dX7_take_3 rfl (lv_at hl 2 rfl) ?_
      refine lv_icmp_ge (tgt := 53) hx hb dX7_take_4 (by decide) (fun c23 => ?_) (fun c23 => ?_)
      · have kc23 := jle c23 t1 jz_3
        refine lv_aload_n hx hb dX7_take_53 rfl (lv_at hl 1 rfl) ?_
        refine va_get (D := D) hx hb hts inlX7 hown hK hP 9 (jc_9 cI cL ad σ22 τ) rfl 0 (by decide) (hts _ kw_13_0) (fun _ h9 => h9) rfl dX7_take_54 ?_
        have m24 : σ22 9 0 = 3 := (by rw [eσ22, jup_n (by decide)]; exact (by rw [eσ18]; exact jup_s))
        refine jtopr m24 ?_
        exact hret 3 σ22 τ _ _ _ _ rfl ⟨(fun i hi => by rw [eσ22, jup_n (by omega), eσ18, jup_n (by omega), eσ14, jup_n (by omega), eσ10, jup_n (by omega), eσ6, jup_n (by omega), eσ2, jup_n (by omega)]), ⟨jsame jz_3 t1 (by omega), trivial⟩⟩ hP hS dX7_take_57
      · have kc23 := jnle c23 t1 jz_3
        refine lv_iload_n hx hb dX7_take_7 rfl (lv_at hl 0 rfl) ?_
        refine lv_iconst (v := 4) hx hb dX7_take_8 (by decide) ?_
        refine lv_icmp_ge (tgt := 53) hx hb dX7_take_9 (by decide) (fun c => absurd c (by decide)) (fun _ => ?_)
        refine lv_aload_n hx hb dX7_take_12 rfl (lv_at hl 1 rfl) ?_
        refine va_get (D := D) hx hb hts inlX7 hown hK hP 9 (jc_9 cI cL ad σ22 τ) rfl 0 (by decide) (hts _ kw_13_0) (fun _ h9 => h9) rfl dX7_take_13 ?_
        have m25 : σ22 9 0 = 3 := (by rw [eσ22, jup_n (by decide)]; exact (by rw [eσ18]; exact jup_s))
        refine jtopr m25 ?_
        refine lv_bipush (v := 80) hx hb dX7_take_16 (by decide) ?_
        refine lv_icmp_ge (tgt := 53) hx hb dX7_take_18 (by decide) (fun c => absurd c (by decide)) (fun _ => ?_)
        refine lv_aload_n hx hb dX7_take_21 rfl (lv_at hl 1 rfl) ?_
        refine va_get (D := D) hx hb hts inlX7 hown hK hP 9 (jc_9 cI cL ad σ22 τ) rfl 3 (by decide) (hts _ kw_3_20) (fun _ h9 => h9) rfl dX7_take_22 ?_
        refine lv_aload_n hx hb dX7_take_25 rfl (lv_at hl 1 rfl) ?_
        refine lv_dup hx hb dX7_take_26 rfl ?_
        refine va_get (D := D) hx hb hts inlX7 hown hK hP 9 (jc_9 cI cL ad σ22 τ) rfl 0 (by decide) (hts _ kw_13_0) (fun _ h9 => h9) rfl dX7_take_27 ?_
        refine jtopr m25 ?_
        refine lv_dup_x1 hx hb dX7_take_30 rfl rfl ?_
        refine lv_iconst (v := 1) hx hb dX7_take_31 (by decide) ?_
        refine lv_iadd hx hb dX7_take_32 ?_
        refine jtopr (y := 4) (by decide) ?_
        refine jput (ty := .int) hx hb hts inlX7 tyX7 tyX7_ok nmX7 hown hK hP hJ hA hS (jc_9 cI cL ad σ22 τ) rfl (k := 0) (by decide) (Nat.le_of_ble_eq_true rfl) (jp_9_0 cI cL ad σ22 τ 4) (hts _ kw_13_0) (fun _ h9 => h9) rfl (by decide +kernel) rfl rfl dX7_take_33 (fun σ26 H locs eσ26 hP hS => ?_)
        refine lv_iload_n hx hb dX7_take_36 rfl (lv_at hl 3 rfl) ?_
        refine lv_bipush (v := 8) hx hb dX7_take_37 (by decide) ?_
        refine lv_iload_n hx hb dX7_take_39 rfl (lv_at hl 0 rfl) ?_
        refine lv_imul hx hb dX7_take_40 ?_
        refine jtopr (y := 24) (by decide) ?_
        refine lv_iushr hx hb dX7_take_41 rfl ?_
        refine lv_topi (fun x27 ex27 => ?_)
        have gx27 := jrg (rfl : x27.toInt = x27.toInt)
        refine lv_sipush (v := 255) hx hb dX7_take_42 (by decide) ?_
        refine lv_iand hx hb dX7_take_45 ?_
        refine lv_topi (fun x28 ex28 => ?_)
        have gx28 := jrg (rfl : x28.toInt = x28.toInt)
        have g29 : 0 ≤ x28.toInt ∧ x28.toInt ≤ 255 := jmask ex28 8 (by decide) (by decide)
        refine jast hx hb hK hP hJ hA hS (jc_10 cI cL ad σ26 τ) (ja_10 cI cL ad σ26 τ _ _) (jin jz_3 (by omega) (by omega)) dX7_take_46 (fun σ30 H locs eσ30 hP hS => ?_)
        have eσ30 : σ30 = jup σ26 10 3 x28 := eσ30
        refine lv_iinc (v := 4) (lv' := [(3, .int 4), (0, .ref (ad 9)), (1, .int a1), (2, .int a2)]) hx hb dX7_take_47 hl (k := 0) rfl (by decide) (by decide) rfl (fun ls hl => ?_)
        refine lv_goto (tgt := 2) hx hb dX7_take_50 (by decide) ?_
        refine lv_iload_n hx hb dX7_take_2 rfl (lv_at hl 0 rfl) ?_
        refine lv_iload_n hx hb dX7_take_3 rfl (lv_at hl 2 rfl) ?_
        refine lv_icmp_ge (tgt := 53) hx hb dX7_take_4 (by decide) (fun c31 => ?_) (fun c => absurd (jnle c t1 jz_4) (by omega))
        have kc31 := jle c31 t1 jz_4
        refine lv_aload_n hx hb dX7_take_53 rfl (lv_at hl 1 rfl) ?_
        refine va_get (D := D) hx hb hts inlX7 hown hK hP 9 (jc_9 cI cL ad σ30 τ) rfl 0 (by decide) (hts _ kw_13_0) (fun _ h9 => h9) rfl dX7_take_54 ?_
        have m32 : σ30 9 0 = 4 := (by rw [eσ30, jup_n (by decide)]; exact (by rw [eσ26]; exact jup_s))
        refine jtopr m32 ?_
        exact hret 4 σ30 τ _ _ _ _ rfl ⟨(fun i hi => by rw [eσ30, jup_n (by omega), eσ26, jup_n (by omega), eσ22, jup_n (by omega), eσ18, jup_n (by omega), eσ14, jup_n (by omega), eσ10, jup_n (by omega), eσ6, jup_n (by omega), eσ2, jup_n (by omega)]), ⟨jsame jz_4 t1 (by omega), trivial⟩⟩ hP hS dX7_take_57
set_option maxHeartbeats 4000000 in
set_option maxRecDepth 100000 in
theorem c_X11_feed (l : Launch) (D : va_G) (cI cL : ClassId) (ad : Nat → Nat) (hJ : jD ad) (σ : Nat → Nat → Int32) (τ : Nat → Nat → Int64) (a1 : Int32) (A1 : Int) (t1 : a1.toInt = A1) (a2 : Int32) (A2 : Int) (t2 : a2.toInt = A2) (h9_0 : σ 9 0 = 0) : jM l yX11_feed cX11_feed 3 (some .int) ({ frames := 1, cells := 0, slots := 0, locals := 23 }) D cI cL ad [.ref (ad 0), .int a1, .int a2] σ τ (fun r σ' τ' => (∀ i : Nat, (i < 0 ∨ 54 < i) → σ' i = σ i) ∧ r = (if 1 ≤ A1 ∧ A1 ≤ 4 then a1 else -1)) := by
  refine jM.of hJ (by decide +kernel) (nt := .int) rfl (Nat.le_of_ble_eq_true rfl) ?_
  intro p e s m args below meth c Q ls hC hret hl hP
  obtain ⟨hx, hb, hr, hml, hown, hts, hK, -, hlocks⟩ := hC
  have hown : s.vm.findClass RX11 = some m.cls := hown
  have hS : va_S (jA ad) s.heap s.heap [] := va_S.rf
  have hA : ∀ q, jA ad q → jA ad q := fun _ h => h
  have hl : lv_has ls 3 [(0, .ref (ad 0)), (1, .int a1), (2, .int a2)] := hl
  have g1 := jrg t1
  have g2 := jrg t2
  refine lv_iload_n hx hb dX11_feed_0 rfl (lv_at hl 1 rfl) ?_
  refine lv_iconst (v := 1) hx hb dX11_feed_1 (by decide) ?_
  refine lv_iconst (v := 4) hx hb dX11_feed_2 (by decide) ?_
  refine jcallS (As := [.int a1, .int 1, .int 4]) (rest := []) ⟨hx, hb, hml, hown, hts⟩ hK hP hA hS (c_X11_outside l D cI cL ad hJ σ τ a1 (A1) t1 1 (1) jz_1 4 (4) jz_4) cw_RX11_94 ⟨Nat.le_of_ble_eq_true rfl, Nat.le_of_ble_eq_true rfl⟩ rfl rfl rfl hl.1 rfl (Nat.le_of_ble_eq_true rfl) dX11_feed_3 ⟨Nat.zero_le _, Nat.zero_le _⟩ (fun r2 σ1 τ1 H locs h1 hP hS => ?_)
  obtain ⟨⟨rfl, rfl⟩, h1⟩ := h1
  rcases h1 with h3 | h4
  · obtain ⟨q6, k5⟩ := h3
    have q6 := q6.symm
    subst q6
    refine lv_if_eq (tgt := 11) hx hb dX11_feed_6 (by decide) (fun c => absurd c (by decide)) (fun _ => ?_)
    refine lv_iconst (v := (-1)) hx hb dX11_feed_9 (by decide) ?_
    exact hret (-1) σ τ _ _ _ _ rfl ⟨(fun _ _ => rfl), (by (repeat' split) <;> first | rfl | omega | exact jsame jz_m1 t1 (by omega) | exact jsame jz_m1 t2 (by omega) | (exfalso; omega))⟩ hP hS dX11_feed_10
  · obtain ⟨q8, k7⟩ := h4
    have q8 := q8.symm
    subst q8
    refine lv_if_eq (tgt := 11) hx hb dX11_feed_6 (by decide) (fun _ => ?_) (fun c => absurd (by decide) c)
    refine lv_aload_n hx hb dX11_feed_11 rfl (lv_at hl 0 rfl) ?_
    refine va_get (D := D) hx hb hts inlX11 hown hK hP 0 (jc_0 cI cL ad σ τ) rfl 1 (by decide) (hts _ kw_1_20) (fun _ h9 => h9) rfl dX11_feed_12 ?_
    refine va_get (D := D) hx hb hts inlX7 hown hK hP 9 (jc_9 cI cL ad σ τ) rfl 0 (by decide) (hts _ kw_12_19) (fun _ h9 => h9) rfl dX11_feed_15 ?_
    refine jtopr h9_0 ?_
    refine lv_iload_n hx hb dX11_feed_18 rfl (lv_at hl 1 rfl) ?_
    refine lv_iadd hx hb dX11_feed_19 ?_
    refine jtopr (y := a1) (by rw [Int32.zero_add]) ?_
    refine lv_bipush (v := 80) hx hb dX11_feed_20 (by decide) ?_
    refine lv_icmp_le (tgt := 28) hx hb dX11_feed_22 (by decide) (fun c9 => ?_) (fun c => absurd (jnle c t1 jz_80) (by omega))
    have kc9 := jle c9 t1 jz_80
    refine lv_aload_n hx hb dX11_feed_28 rfl (lv_at hl 0 rfl) ?_
    refine va_get (D := D) hx hb hts inlX11 hown hK hP 0 (jc_0 cI cL ad σ τ) rfl 1 (by decide) (hts _ kw_1_20) (fun _ h9 => h9) rfl dX11_feed_29 ?_
    refine lv_iload_n hx hb dX11_feed_32 rfl (lv_at hl 1 rfl) ?_
    refine lv_iload_n hx hb dX11_feed_33 rfl (lv_at hl 2 rfl) ?_
    refine jcallV (As := [.int a1, .int a2]) (rest := []) ⟨hx, hb, hml, hown, hts⟩ hK hP hA hS (c_X7_take_9 l D cI cL ad hJ σ τ a1 (A1) t1 a2 (A2) t2 h9_0 (by omega) (by omega)) cw_RX11_127 (jc_9 cI cL ad σ τ) rfl ⟨Nat.le_of_ble_eq_true rfl, Nat.le_of_ble_eq_true rfl⟩ rfl rfl rfl hl.1 rfl (Nat.le_of_ble_eq_true rfl) dX11_feed_34 ⟨Nat.zero_le _, Nat.zero_le _⟩ (fun r11 σ10 τ10 H locs h10 hP hS => ?_)
    obtain ⟨f12, h10⟩ := h10
    have h13 := h10
    obtain ⟨q15, k14⟩ := h13
    have q15 := q15.symm
    subst q15
    exact hret a1 σ10 τ10 _ _ _ _ rfl ⟨(fun i hi => by rw [f12 i (by omega)]), (by (repeat' split) <;> first | rfl | omega | exact jsame t1 t1 (by omega) | exact jsame t1 t2 (by omega) | (exfalso; omega))⟩ hP hS dX11_feed_37
set_option maxHeartbeats 4000000 in
set_option maxRecDepth 100000 in
theorem c_X7_begin_9 (l : Launch) (D : va_G) (cI cL : ClassId) (ad : Nat → Nat) (hJ : jD ad) (σ : Nat → Nat → Int32) (τ : Nat → Nat → Int64) (h9_0 : σ 9 0 = 0) : jMv l yX7_begin cX7_begin 1 none ({ frames := 0, cells := 0, slots := 0, locals := 0 }) D cI cL ad [.ref (ad 9)] σ τ (fun σ' τ' => (∀ i : Nat, (i < 9 ∨ 9 < i) → σ' i = σ i) ∧ σ' 9 0 = 0 ∧ σ' 9 1 = 0 ∧ σ' 9 2 = (-1) ∧ True) := by
  refine jMv.of hJ (by decide +kernel) rfl (Nat.le_of_ble_eq_true rfl) ?_
  intro p e s m args below meth c Q ls hC hret hl hP
  obtain ⟨hx, hb, hr, hml, hown, hts, hK, -, hlocks⟩ := hC
  have hown : s.vm.findClass RX7 = some m.cls := hown
  have hS : va_S (jA ad) s.heap s.heap [] := va_S.rf
  have hA : ∀ q, jA ad q → jA ad q := fun _ h => h
  have hl : lv_has ls 1 [(0, .ref (ad 9))] := hl
  refine lv_aload_n hx hb dX7_begin_0 rfl (lv_at hl 0 rfl) ?_
  refine lv_iconst (v := 0) hx hb dX7_begin_1 (by decide) ?_
  refine jput (ty := .int) hx hb hts inlX7 tyX7 tyX7_ok nmX7 hown hK hP hJ hA hS (jc_9 cI cL ad σ τ) rfl (k := 1) (by decide) (Nat.le_of_ble_eq_true rfl) (jp_9_1 cI cL ad σ τ 0) (hts _ kw_13_17) (fun _ h9 => h9) rfl (by decide +kernel) rfl rfl dX7_begin_2 (fun σ1 H locs eσ1 hP hS => ?_)
  refine lv_aload_n hx hb dX7_begin_5 rfl (lv_at hl 0 rfl) ?_
  refine lv_iconst (v := (-1)) hx hb dX7_begin_6 (by decide) ?_
  refine jput (ty := .int) hx hb hts inlX7 tyX7 tyX7_ok nmX7 hown hK hP hJ hA hS (jc_9 cI cL ad σ1 τ) rfl (k := 2) (by decide) (Nat.le_of_ble_eq_true rfl) (jp_9_2 cI cL ad σ1 τ (-1)) (hts _ kw_14_6) (fun _ h9 => h9) rfl (by decide +kernel) rfl rfl dX7_begin_7 (fun σ2 H locs eσ2 hP hS => ?_)
  have m3 : σ2 9 0 = 0 := (by rw [eσ2, jup_k (by decide)]; exact (by rw [eσ1, jup_k (by decide)]; exact h9_0))
  have m4 : σ2 9 1 = 0 := (by rw [eσ2, jup_k (by decide)]; exact (by rw [eσ1]; exact jup_s))
  have m5 : σ2 9 2 = (-1) := (by rw [eσ2]; exact jup_s)
  exact hret σ2 τ _ _ _ _ ⟨(fun i hi => by rw [eσ2, jup_n (by omega), eσ1, jup_n (by omega)]), m3, m4, m5, trivial⟩ hP hS dX7_begin_10
set_option maxHeartbeats 4000000 in
set_option maxRecDepth 100000 in
theorem c_X7_sign_9 (l : Launch) (D : va_G) (cI cL : ClassId) (ad : Nat → Nat) (hJ : jD ad) (σ : Nat → Nat → Int32) (τ : Nat → Nat → Int64) (h9_0 : σ 9 0 = 0) (h9_1 : σ 9 1 = 0) : jM l yX7_sign cX7_sign 1 (some .int) ({ frames := 0, cells := 0, slots := 0, locals := 0 }) D cI cL ad [.ref (ad 9)] σ τ (fun r σ' τ' => (σ = σ' ∧ τ = τ') ∧ ((r = (-1) ∧ True))) := by
  refine jM.of hJ (by decide +kernel) (nt := .int) rfl (Nat.le_of_ble_eq_true rfl) ?_
  intro p e s m args below meth c Q ls hC hret hl hP
  obtain ⟨hx, hb, hr, hml, hown, hts, hK, -, hlocks⟩ := hC
  have hown : s.vm.findClass RX7 = some m.cls := hown
  have hS : va_S (jA ad) s.heap s.heap [] := va_S.rf
  have hA : ∀ q, jA ad q → jA ad q := fun _ h => h
  have hl : lv_has ls 1 [(0, .ref (ad 9))] := hl
  refine lv_aload_n hx hb dX7_sign_0 rfl (lv_at hl 0 rfl) ?_
  refine va_get (D := D) hx hb hts inlX7 hown hK hP 9 (jc_9 cI cL ad σ τ) rfl 1 (by decide) (hts _ kw_13_17) (fun _ h9 => h9) rfl dX7_sign_1 ?_
  refine jtopr h9_1 ?_
  refine lv_if_lt (tgt := 30) hx hb dX7_sign_4 (by decide) (fun c => absurd c (by decide)) (fun _ => ?_)
  refine lv_aload_n hx hb dX7_sign_7 rfl (lv_at hl 0 rfl) ?_
  refine va_get (D := D) hx hb hts inlX7 hown hK hP 9 (jc_9 cI cL ad σ τ) rfl 1 (by decide) (hts _ kw_13_17) (fun _ h9 => h9) rfl dX7_sign_8 ?_
  refine jtopr h9_1 ?_
  refine lv_aload_n hx hb dX7_sign_11 rfl (lv_at hl 0 rfl) ?_
  refine va_get (D := D) hx hb hts inlX7 hown hK hP 9 (jc_9 cI cL ad σ τ) rfl 0 (by decide) (hts _ kw_13_0) (fun _ h9 => h9) rfl dX7_sign_12 ?_
  refine jtopr h9_0 ?_
  refine lv_icmp_ge (tgt := 30) hx hb dX7_sign_15 (by decide) (fun _ => ?_) (fun c => absurd (by decide) c)
  refine lv_iconst (v := (-1)) hx hb dX7_sign_30 (by decide) ?_
  exact hret (-1) σ τ _ _ _ _ rfl ⟨⟨rfl, rfl⟩, ⟨rfl, trivial⟩⟩ hP hS dX7_sign_31
set_option maxHeartbeats 4000000 in
set_option maxRecDepth 100000 in
theorem c_X7_isDigit (l : Launch) (D : va_G) (cI cL : ClassId) (ad : Nat → Nat) (hJ : jD ad) (σ : Nat → Nat → Int32) (τ : Nat → Nat → Int64) : jM l yX7_isDigit cX7_isDigit 1 (some .boolean) ({ frames := 0, cells := 0, slots := 0, locals := 0 }) D cI cL ad [.int (-1)] σ τ (fun r σ' τ' => (σ = σ' ∧ τ = τ') ∧ ((r = 0 ∧ True))) := by
  refine jM.of hJ (by decide +kernel) (nt := .boolean) rfl (Nat.le_of_ble_eq_true rfl) ?_
  intro p e s m args below meth c Q ls hC hret hl hP
  obtain ⟨hx, hb, hr, hml, hown, hts, hK, -, hlocks⟩ := hC
  have hown : s.vm.findClass RX7 = some m.cls := hown
  have hS : va_S (jA ad) s.heap s.heap [] := va_S.rf
  have hA : ∀ q, jA ad q → jA ad q := fun _ h => h
  have hl : lv_has ls 1 [(0, .int (-1))] := hl
  refine lv_iload_n hx hb dX7_isDigit_0 rfl (lv_at hl 0 rfl) ?_
  refine lv_bipush (v := 48) hx hb dX7_isDigit_1 (by decide) ?_
  refine lv_icmp_lt (tgt := 16) hx hb dX7_isDigit_3 (by decide) (fun _ => ?_) (fun c => absurd (by decide) c)
  refine lv_iconst (v := 0) hx hb dX7_isDigit_16 (by decide) ?_
  exact hret 0 σ τ _ _ _ _ rfl ⟨⟨rfl, rfl⟩, ⟨rfl, trivial⟩⟩ hP hS dX7_isDigit_17
set_option maxHeartbeats 4000000 in
set_option maxRecDepth 100000 in
theorem c_X7_nameOf (l : Launch) (D : va_G) (cI cL : ClassId) (ad : Nat → Nat) (hJ : jD ad) (σ : Nat → Nat → Int32) (τ : Nat → Nat → Int64) : jM l yX7_nameOf cX7_nameOf 1 (some .int) ({ frames := 0, cells := 0, slots := 0, locals := 0 }) D cI cL ad [.int (-1)] σ τ (fun r σ' τ' => (σ = σ' ∧ τ = τ') ∧ ((r = (-1) ∧ True))) := by
  refine jM.of hJ (by decide +kernel) (nt := .int) rfl (Nat.le_of_ble_eq_true rfl) ?_
  intro p e s m args below meth c Q ls hC hret hl hP
  obtain ⟨hx, hb, hr, hml, hown, hts, hK, -, hlocks⟩ := hC
  have hown : s.vm.findClass RX7 = some m.cls := hown
  have hS : va_S (jA ad) s.heap s.heap [] := va_S.rf
  have hA : ∀ q, jA ad q → jA ad q := fun _ h => h
  have hl : lv_has ls 1 [(0, .int (-1))] := hl
  refine lv_iload_n hx hb dX7_nameOf_0 rfl (lv_at hl 0 rfl) ?_
  refine lv_tableOut (tgt := 122) hx hb dX7_nameOf_1 (by decide) (by decide) ?_
  refine lv_iconst (v := (-1)) hx hb dX7_nameOf_122 (by decide) ?_
  exact hret (-1) σ τ _ _ _ _ rfl ⟨⟨rfl, rfl⟩, ⟨rfl, trivial⟩⟩ hP hS dX7_nameOf_123
set_option maxHeartbeats 4000000 in
set_option maxRecDepth 100000 in
theorem c_X7_fail_9 (l : Launch) (D : va_G) (cI cL : ClassId) (ad : Nat → Nat) (hJ : jD ad) (σ : Nat → Nat → Int32) (τ : Nat → Nat → Int64) (a1 : Int32) (A1 : Int) (t1 : a1.toInt = A1) (h9_0 : σ 9 0 = 0) (h9_1 : σ 9 1 = 0) (h9_2 : σ 9 2 = (-1)) : jMv l yX7_fail cX7_fail 2 none ({ frames := 0, cells := 0, slots := 0, locals := 0 }) D cI cL ad [.ref (ad 9), .int a1] σ τ (fun σ' τ' => (∀ i : Nat, (i < 9 ∨ 9 < i) → σ' i = σ i) ∧ σ' 9 0 = 0 ∧ σ' 9 1 = 0 ∧ σ' 9 2 = a1 ∧ True) := by
  refine jMv.of hJ (by decide +kernel) rfl (Nat.le_of_ble_eq_true rfl) ?_
  intro p e s m args below meth c Q ls hC hret hl hP
  obtain ⟨hx, hb, hr, hml, hown, hts, hK, -, hlocks⟩ := hC
  have hown : s.vm.findClass RX7 = some m.cls := hown
  have hS : va_S (jA ad) s.heap s.heap [] := va_S.rf
  have hA : ∀ q, jA ad q → jA ad q := fun _ h => h
  have hl : lv_has ls 2 [(0, .ref (ad 9)), (1, .int a1)] := hl
  have g1 := jrg t1
  refine lv_aload_n hx hb dX7_fail_0 rfl (lv_at hl 0 rfl) ?_
  refine va_get (D := D) hx hb hts inlX7 hown hK hP 9 (jc_9 cI cL ad σ τ) rfl 2 (by decide) (hts _ kw_14_6) (fun _ h9 => h9) rfl dX7_fail_1 ?_
  refine jtopr h9_2 ?_
  refine lv_iconst (v := (-1)) hx hb dX7_fail_4 (by decide) ?_
  refine lv_icmp_ne (tgt := 13) hx hb dX7_fail_5 (by decide) (fun c => absurd (by decide) c) (fun _ => ?_)
  refine lv_aload_n hx hb dX7_fail_8 rfl (lv_at hl 0 rfl) ?_
  refine lv_iload_n hx hb dX7_fail_9 rfl (lv_at hl 1 rfl) ?_
  refine jput (ty := .int) hx hb hts inlX7 tyX7 tyX7_ok nmX7 hown hK hP hJ hA hS (jc_9 cI cL ad σ τ) rfl (k := 2) (by decide) (Nat.le_of_ble_eq_true rfl) (jp_9_2 cI cL ad σ τ a1) (hts _ kw_14_6) (fun _ h9 => h9) rfl (by decide +kernel) rfl rfl dX7_fail_10 (fun σ1 H locs eσ1 hP hS => ?_)
  have m2 : σ1 9 0 = 0 := (by rw [eσ1, jup_k (by decide)]; exact h9_0)
  have m3 : σ1 9 1 = 0 := (by rw [eσ1, jup_k (by decide)]; exact h9_1)
  have m4 : σ1 9 2 = a1 := (by rw [eσ1]; exact jup_s)
  exact hret σ1 τ _ _ _ _ ⟨(fun i hi => by rw [eσ1, jup_n (by omega)]), m2, m3, m4, trivial⟩ hP hS dX7_fail_13
set_option maxHeartbeats 4000000 in
set_option maxRecDepth 100000 in
theorem c_X7_skip_9 (l : Launch) (D : va_G) (cI cL : ClassId) (ad : Nat → Nat) (hJ : jD ad) (σ : Nat → Nat → Int32) (τ : Nat → Nat → Int64) (a1 : Int32) (A1 : Int) (t1 : a1.toInt = A1) (h9_2 : σ 9 2 = 0) : jM l yX7_skip cX7_skip 2 (some .boolean) ({ frames := 0, cells := 0, slots := 0, locals := 0 }) D cI cL ad [.ref (ad 9), .int a1] σ τ (fun r σ' τ' => (σ = σ' ∧ τ = τ') ∧ ((r = 0 ∧ True))) := by
  refine jM.of hJ (by decide +kernel) (nt := .boolean) rfl (Nat.le_of_ble_eq_true rfl) ?_
  intro p e s m args below meth c Q ls hC hret hl hP
  obtain ⟨hx, hb, hr, hml, hown, hts, hK, -, hlocks⟩ := hC
  have hown : s.vm.findClass RX7 = some m.cls := hown
  have hS : va_S (jA ad) s.heap s.heap [] := va_S.rf
  have hA : ∀ q, jA ad q → jA ad q := fun _ h => h
  have hl : lv_has ls 2 [(0, .ref (ad 9)), (1, .int a1)] := hl
  have g1 := jrg t1
  refine lv_aload_n hx hb dX7_skip_0 rfl (lv_at hl 0 rfl) ?_
  refine va_get (D := D) hx hb hts inlX7 hown hK hP 9 (jc_9 cI cL ad σ τ) rfl 2 (by decide) (hts _ kw_14_6) (fun _ h9 => h9) rfl dX7_skip_1 ?_
  refine jtopr h9_2 ?_
  refine lv_iconst (v := (-1)) hx hb dX7_skip_4 (by decide) ?_
  refine lv_icmp_ne (tgt := 16) hx hb dX7_skip_5 (by decide) (fun _ => ?_) (fun c => absurd c (by decide))
  refine lv_iconst (v := 0) hx hb dX7_skip_16 (by decide) ?_
  exact hret 0 σ τ _ _ _ _ rfl ⟨⟨rfl, rfl⟩, ⟨rfl, trivial⟩⟩ hP hS dX7_skip_17
set_option maxHeartbeats 4000000 in
set_option maxRecDepth 100000 in
theorem c_X7_end_9 (l : Launch) (D : va_G) (cI cL : ClassId) (ad : Nat → Nat) (hJ : jD ad) (σ : Nat → Nat → Int32) (τ : Nat → Nat → Int64) (h9_2 : σ 9 2 = 0) : jM l yX7_end cX7_end 1 (some .int) ({ frames := 0, cells := 0, slots := 0, locals := 0 }) D cI cL ad [.ref (ad 9)] σ τ (fun r σ' τ' => (∀ i : Nat, (i < 9 ∨ 9 < i) → σ' i = σ i) ∧ σ' 9 0 = 0 ∧ σ' 9 2 = 0 ∧ ((r = 0 ∧ True))) := by
  refine jM.of hJ (by decide +kernel) (nt := .int) rfl (Nat.le_of_ble_eq_true rfl) ?_
  intro p e s m args below meth c Q ls hC hret hl hP
  obtain ⟨hx, hb, hr, hml, hown, hts, hK, -, hlocks⟩ := hC
  have hown : s.vm.findClass RX7 = some m.cls := hown
  have hS : va_S (jA ad) s.heap s.heap [] := va_S.rf
  have hA : ∀ q, jA ad q → jA ad q := fun _ h => h
  have hl : lv_has ls 1 [(0, .ref (ad 9))] := hl
  refine lv_aload_n hx hb dX7_end_0 rfl (lv_at hl 0 rfl) ?_
  refine va_get (D := D) hx hb hts inlX7 hown hK hP 9 (jc_9 cI cL ad σ τ) rfl 2 (by decide) (hts _ kw_14_6) (fun _ h9 => h9) rfl dX7_end_1 ?_
  refine jtopr h9_2 ?_
  refine lv_iconst (v := (-1)) hx hb dX7_end_4 (by decide) ?_
  refine lv_icmp_ne (tgt := 27) hx hb dX7_end_5 (by decide) (fun _ => ?_) (fun c => absurd c (by decide))
  refine lv_aload_n hx hb dX7_end_27 rfl (lv_at hl 0 rfl) ?_
  refine lv_iconst (v := 0) hx hb dX7_end_28 (by decide) ?_
  refine jput (ty := .int) hx hb hts inlX7 tyX7 tyX7_ok nmX7 hown hK hP hJ hA hS (jc_9 cI cL ad σ τ) rfl (k := 0) (by decide) (Nat.le_of_ble_eq_true rfl) (jp_9_0 cI cL ad σ τ 0) (hts _ kw_13_0) (fun _ h9 => h9) rfl (by decide +kernel) rfl rfl dX7_end_29 (fun σ1 H locs eσ1 hP hS => ?_)
  refine lv_aload_n hx hb dX7_end_32 rfl (lv_at hl 0 rfl) ?_
  refine va_get (D := D) hx hb hts inlX7 hown hK hP 9 (jc_9 cI cL ad σ1 τ) rfl 2 (by decide) (hts _ kw_14_6) (fun _ h9 => h9) rfl dX7_end_33 ?_
  have m2 : σ1 9 2 = 0 := (by rw [eσ1, jup_k (by decide)]; exact h9_2)
  refine jtopr m2 ?_
  have m3 : σ1 9 0 = 0 := (by rw [eσ1]; exact jup_s)
  exact hret 0 σ1 τ _ _ _ _ rfl ⟨(fun i hi => by rw [eσ1, jup_n (by omega)]), m3, m2, ⟨rfl, trivial⟩⟩ hP hS dX7_end_36
set_option maxHeartbeats 4000000 in
set_option maxRecDepth 100000 in
theorem c_X7_readOrder_9 (l : Launch) (D : va_G) (cI cL : ClassId) (ad : Nat → Nat) (hJ : jD ad) (σ : Nat → Nat → Int32) (τ : Nat → Nat → Int64) (h9_0 : σ 9 0 = 0) : jM l yX7_readOrder cX7_readOrder 6 (some .int) ({ frames := 1, cells := 0, slots := 0, locals := 21 }) D cI cL ad [.ref (ad 9), .ref (ad 16)] σ τ (fun r σ' τ' => (∀ i : Nat, (i < 9 ∨ 11 < i) → σ' i = σ i) ∧ ((r = 0 ∧ True))) := by
  refine jM.of hJ (by decide +kernel) (nt := .int) rfl (Nat.le_of_ble_eq_true rfl) ?_
  intro p e s m args below meth c Q ls hC hret hl hP
  obtain ⟨hx, hb, hr, hml, hown, hts, hK, -, hlocks⟩ := hC
  have hown : s.vm.findClass RX7 = some m.cls := hown
  have hS : va_S (jA ad) s.heap s.heap [] := va_S.rf
  have hA : ∀ q, jA ad q → jA ad q := fun _ h => h
  have hl : lv_has ls 6 [(0, .ref (ad 9)), (1, .ref (ad 16))] := hl
  refine lv_aload_n hx hb dX7_readOrder_0 rfl (lv_at hl 0 rfl) ?_
  refine jcallVv (As := []) (rest := []) ⟨hx, hb, hml, hown, hts⟩ hK hP hA hS (c_X7_begin_9 l D cI cL ad hJ σ τ h9_0) cw_RX7_47 (jc_9 cI cL ad σ τ) rfl ⟨Nat.le_of_ble_eq_true rfl, Nat.le_of_ble_eq_true rfl⟩ rfl rfl rfl hl.1 rfl (Nat.le_of_ble_eq_true rfl) dX7_readOrder_1 ⟨Nat.zero_le _, Nat.zero_le _⟩ (fun σ1 τ1 H locs h1 hP hS => ?_)
  obtain ⟨f3, m4, m5, m6, h1⟩ := h1
  refine lv_iconst (v := 0) hx hb dX7_readOrder_4 (by decide) ?_
  refine lv_istore_n (lv' := [(2, .int 0), (0, .ref (ad 9)), (1, .ref (ad 16))]) hx hb dX7_readOrder_5 rfl hl (by decide) rfl (fun ls hl => ?_)
  refine lv_bipush (v := 8) hx hb dX7_readOrder_6 (by decide) ?_
  refine lv_istore_n (lv' := [(3, .int 8), (2, .int 0), (0, .ref (ad 9)), (1, .ref (ad 16))]) hx hb dX7_readOrder_8 rfl hl (by decide) rfl (fun ls hl => ?_)
  refine lv_iconst (v := 0) hx hb dX7_readOrder_9 (by decide) ?_
  refine lv_istore (lv' := [(4, .int 0), (3, .int 8), (2, .int 0), (0, .ref (ad 9)), (1, .ref (ad 16))]) hx hb dX7_readOrder_10 hl (by decide) rfl (fun ls hl => ?_)
  refine lv_iload_n hx hb dX7_readOrder_12 rfl (lv_at hl 2 rfl) ?_
  refine lv_bipush (v := 8) hx hb dX7_readOrder_13 (by decide) ?_
  refine lv_icmp_ge (tgt := 67) hx hb dX7_readOrder_15 (by decide) (fun c => absurd c (by decide)) (fun _ => ?_)
  refine lv_aload_n hx hb dX7_readOrder_18 rfl (lv_at hl 3 rfl) ?_
  refine jcallV (As := []) (rest := []) ⟨hx, hb, hml, hown, hts⟩ hK hP hA hS (c_X7_sign_9 l D cI cL ad hJ σ1 τ1 m4 m5) cw_RX7_35 (jc_9 cI cL ad σ1 τ1) rfl ⟨Nat.le_of_ble_eq_true rfl, Nat.le_of_ble_eq_true rfl⟩ rfl rfl rfl hl.1 rfl (Nat.le_of_ble_eq_true rfl) dX7_readOrder_19 ⟨Nat.zero_le _, Nat.zero_le _⟩ (fun r8 σ7 τ7 H locs h7 hP hS => ?_)
  obtain ⟨⟨rfl, rfl⟩, h7⟩ := h7
  have h9 := h7
  obtain ⟨q11, k10⟩ := h9
  have q11 := q11.symm
  subst q11
  refine lv_bipush (v := 48) hx hb dX7_readOrder_22 (by decide) ?_
  refine lv_icmp_lt (tgt := 67) hx hb dX7_readOrder_24 (by decide) (fun _ => ?_) (fun c => absurd (by decide) c)
  refine lv_iload_n hx hb dX7_readOrder_67 rfl (lv_at hl 2 rfl) ?_
  refine lv_if_ne (tgt := 79) hx hb dX7_readOrder_68 (by decide) (fun c => absurd (by decide) c) (fun _ => ?_)
  refine lv_aload_n hx hb dX7_readOrder_71 rfl (lv_at hl 3 rfl) ?_
  refine lv_aload_n hx hb dX7_readOrder_72 rfl (lv_at hl 3 rfl) ?_
  refine va_get (D := D) hx hb hts inlX7 hown hK hP 9 (jc_9 cI cL ad σ1 τ1) rfl 1 (by decide) (hts _ kw_13_17) (fun _ h9 => h9) rfl dX7_readOrder_73 ?_
  refine jtopr m5 ?_
  refine jcallVv (As := [.int 0]) (rest := []) ⟨hx, hb, hml, hown, hts⟩ hK hP hA hS (c_X7_fail_9 l D cI cL ad hJ σ1 τ1 0 (0) jz_0 m4 m5 m6) cw_RX7_43 (jc_9 cI cL ad σ1 τ1) rfl ⟨Nat.le_of_ble_eq_true rfl, Nat.le_of_ble_eq_true rfl⟩ rfl rfl rfl hl.1 rfl (Nat.le_of_ble_eq_true rfl) dX7_readOrder_76 ⟨Nat.zero_le _, Nat.zero_le _⟩ (fun σ12 τ12 H locs h12 hP hS => ?_)
  obtain ⟨f14, m15, m16, m17, h12⟩ := h12
  refine lv_aload_n hx hb dX7_readOrder_79 rfl (lv_at hl 3 rfl) ?_
  refine lv_bipush (v := 58) hx hb dX7_readOrder_80 (by decide) ?_
  refine jcallV (As := [.int 58]) (rest := []) ⟨hx, hb, hml, hown, hts⟩ hK hP hA hS (c_X7_skip_9 l D cI cL ad hJ σ12 τ12 58 (58) jz_58 m17) cw_RX7_50 (jc_9 cI cL ad σ12 τ12) rfl ⟨Nat.le_of_ble_eq_true rfl, Nat.le_of_ble_eq_true rfl⟩ rfl rfl rfl hl.1 rfl (Nat.le_of_ble_eq_true rfl) dX7_readOrder_82 ⟨Nat.zero_le _, Nat.zero_le _⟩ (fun r19 σ18 τ18 H locs h18 hP hS => ?_)
  obtain ⟨⟨rfl, rfl⟩, h18⟩ := h18
  have h20 := h18
  obtain ⟨q22, k21⟩ := h20
  have q22 := q22.symm
  subst q22
  refine lv_if_eq (tgt := 117) hx hb dX7_readOrder_85 (by decide) (fun _ => ?_) (fun c => absurd (by decide) c)
  refine lv_aload_n hx hb dX7_readOrder_117 rfl (lv_at hl 3 rfl) ?_
  refine lv_bipush (v := 114) hx hb dX7_readOrder_118 (by decide) ?_
  refine jcallV (As := [.int 114]) (rest := []) ⟨hx, hb, hml, hown, hts⟩ hK hP hA hS (c_X7_skip_9 l D cI cL ad hJ σ12 τ12 114 (114) jz_114 m17) cw_RX7_50 (jc_9 cI cL ad σ12 τ12) rfl ⟨Nat.le_of_ble_eq_true rfl, Nat.le_of_ble_eq_true rfl⟩ rfl rfl rfl hl.1 rfl (Nat.le_of_ble_eq_true rfl) dX7_readOrder_120 ⟨Nat.zero_le _, Nat.zero_le _⟩ (fun r24 σ23 τ23 H locs h23 hP hS => ?_)
  obtain ⟨⟨rfl, rfl⟩, h23⟩ := h23
  have h25 := h23
  obtain ⟨q27, k26⟩ := h25
  have q27 := q27.symm
  subst q27
  refine lv_if_eq (tgt := 133) hx hb dX7_readOrder_123 (by decide) (fun _ => ?_) (fun c => absurd (by decide) c)
  refine lv_aload_n hx hb dX7_readOrder_133 rfl (lv_at hl 3 rfl) ?_
  refine jcallV (As := []) (rest := []) ⟨hx, hb, hml, hown, hts⟩ hK hP hA hS (c_X7_end_9 l D cI cL ad hJ σ12 τ12 m17) cw_RX7_57 (jc_9 cI cL ad σ12 τ12) rfl ⟨Nat.le_of_ble_eq_true rfl, Nat.le_of_ble_eq_true rfl⟩ rfl rfl rfl hl.1 rfl (Nat.le_of_ble_eq_true rfl) dX7_readOrder_134 ⟨Nat.zero_le _, Nat.zero_le _⟩ (fun r29 σ28 τ28 H locs h28 hP hS => ?_)
  obtain ⟨f30, m31, m32, h28⟩ := h28
  have h33 := h28
  obtain ⟨q35, k34⟩ := h33
  have q35 := q35.symm
  subst q35
  refine lv_istore (lv' := [(5, .int 0), (4, .int 0), (3, .int 8), (2, .int 0), (0, .ref (ad 9)), (1, .ref (ad 16))]) hx hb dX7_readOrder_137 hl (by decide) rfl (fun ls hl => ?_)
  refine lv_iload hx hb dX7_readOrder_139 (lv_at hl 0 rfl) ?_
  refine lv_iconst (v := (-1)) hx hb dX7_readOrder_141 (by decide) ?_
  refine lv_icmp_eq (tgt := 148) hx hb dX7_readOrder_142 (by decide) (fun c => absurd c (by decide)) (fun _ => ?_)
  refine lv_iload hx hb dX7_readOrder_145 (lv_at hl 0 rfl) ?_
  exact hret 0 σ28 τ28 _ _ _ _ rfl ⟨(fun i hi => by rw [f30 i (by omega), f14 i (by omega), f3 i (by omega)]), ⟨rfl, trivial⟩⟩ hP hS dX7_readOrder_147
set_option maxHeartbeats 4000000 in
set_option maxRecDepth 100000 in
theorem c_X11_order (l : Launch) (D : va_G) (cI cL : ClassId) (ad : Nat → Nat) (hJ : jD ad) (σ : Nat → Nat → Int32) (τ : Nat → Nat → Int64) (h9_0 : σ 9 0 = 0) : jM l yX11_order cX11_order 2 (some .int) ({ frames := 2, cells := 0, slots := 0, locals := 46 }) D cI cL ad [.ref (ad 0)] σ τ (fun r σ' τ' => (∀ i : Nat, (i < 0 ∨ 54 < i) → σ' i = σ i) ∧ r = (-100)) := by
  refine jM.of hJ (by decide +kernel) (nt := .int) rfl (Nat.le_of_ble_eq_true rfl) ?_
  intro p e s m args below meth c Q ls hC hret hl hP
  obtain ⟨hx, hb, hr, hml, hown, hts, hK, -, hlocks⟩ := hC
  have hown : s.vm.findClass RX11 = some m.cls := hown
  have hS : va_S (jA ad) s.heap s.heap [] := va_S.rf
  have hA : ∀ q, jA ad q → jA ad q := fun _ h => h
  have hl : lv_has ls 2 [(0, .ref (ad 0))] := hl
  refine lv_aload_n hx hb dX11_order_0 rfl (lv_at hl 0 rfl) ?_
  refine va_get (D := D) hx hb hts inlX11 hown hK hP 0 (jc_0 cI cL ad σ τ) rfl 1 (by decide) (hts _ kw_1_20) (fun _ h9 => h9) rfl dX11_order_1 ?_
  refine lv_aload_n hx hb dX11_order_4 rfl (lv_at hl 0 rfl) ?_
  refine va_get (D := D) hx hb hts inlX11 hown hK hP 0 (jc_0 cI cL ad σ τ) rfl 2 (by decide) (hts _ kw_2_0) (fun _ h9 => h9) rfl dX11_order_5 ?_
  refine jcallV (As := [.ref (ad 16)]) (rest := []) ⟨hx, hb, hml, hown, hts⟩ hK hP hA hS (c_X7_readOrder_9 l D cI cL ad hJ σ τ h9_0) cw_RX11_130 (jc_9 cI cL ad σ τ) rfl ⟨Nat.le_of_ble_eq_true rfl, Nat.le_of_ble_eq_true rfl⟩ rfl rfl rfl hl.1 rfl (Nat.le_of_ble_eq_true rfl) dX11_order_8 ⟨Nat.zero_le _, Nat.zero_le _⟩ (fun r2 σ1 τ1 H locs h1 hP hS => ?_)
  obtain ⟨f3, h1⟩ := h1
  have h4 := h1
  obtain ⟨q6, k5⟩ := h4
  have q6 := q6.symm
  subst q6
  refine lv_istore_n (lv' := [(1, .int 0), (0, .ref (ad 0))]) hx hb dX11_order_11 rfl hl (by decide) rfl (fun ls hl => ?_)
  refine lv_iload_n hx hb dX11_order_12 rfl (lv_at hl 0 rfl) ?_
  refine lv_if_lt (tgt := 21) hx hb dX11_order_13 (by decide) (fun c => absurd c (by decide)) (fun _ => ?_)
  refine lv_bipush (v := (-100)) hx hb dX11_order_16 (by decide) ?_
  refine lv_iload_n hx hb dX11_order_18 rfl (lv_at hl 0 rfl) ?_
  refine lv_isub hx hb dX11_order_19 ?_
  refine jtopr (y := (-100)) (by decide) ?_
  exact hret (-100) σ1 τ1 _ _ _ _ rfl ⟨(fun i hi => by rw [f3 i (by omega)]), (by (repeat' split) <;> first | rfl | omega | (exfalso; omega))⟩ hP hS dX11_order_20
set_option maxHeartbeats 4000000 in
set_option maxRecDepth 100000 in
theorem c_X10_begin_12 (l : Launch) (D : va_G) (cI cL : ClassId) (ad : Nat → Nat) (hJ : jD ad) (σ : Nat → Nat → Int32) (τ : Nat → Nat → Int64) : jMv l yX10_begin cX10_begin 1 none ({ frames := 0, cells := 0, slots := 0, locals := 0 }) D cI cL ad [.ref (ad 12)] σ τ (fun σ' τ' => (∀ i : Nat, (i < 12 ∨ 12 < i) → σ' i = σ i) ∧ σ' 12 0 = 0 ∧ σ' 12 1 = 0 ∧ True) := by
  refine jMv.of hJ (by decide +kernel) rfl (Nat.le_of_ble_eq_true rfl) ?_
  intro p e s m args below meth c Q ls hC hret hl hP
  obtain ⟨hx, hb, hr, hml, hown, hts, hK, -, hlocks⟩ := hC
  have hown : s.vm.findClass RX10 = some m.cls := hown
  have hS : va_S (jA ad) s.heap s.heap [] := va_S.rf
  have hA : ∀ q, jA ad q → jA ad q := fun _ h => h
  have hl : lv_has ls 1 [(0, .ref (ad 12))] := hl
  refine lv_aload_n hx hb dX10_begin_0 rfl (lv_at hl 0 rfl) ?_
  refine lv_iconst (v := 0) hx hb dX10_begin_1 (by decide) ?_
  refine jput (ty := .int) hx hb hts inlX10 tyX10 tyX10_ok nmX10 hown hK hP hJ hA hS (jc_12 cI cL ad σ τ) rfl (k := 0) (by decide) (Nat.le_of_ble_eq_true rfl) (jp_12_0 cI cL ad σ τ 0) (hts _ kw_16_20) (fun _ h9 => h9) rfl (by decide +kernel) rfl rfl dX10_begin_2 (fun σ1 H locs eσ1 hP hS => ?_)
  refine lv_aload_n hx hb dX10_begin_5 rfl (lv_at hl 0 rfl) ?_
  refine lv_iconst (v := 0) hx hb dX10_begin_6 (by decide) ?_
  refine jput (ty := .int) hx hb hts inlX10 tyX10 tyX10_ok nmX10 hown hK hP hJ hA hS (jc_12 cI cL ad σ1 τ) rfl (k := 1) (by decide) (Nat.le_of_ble_eq_true rfl) (jp_12_1 cI cL ad σ1 τ 0) (hts _ kw_16_21) (fun _ h9 => h9) rfl (by decide +kernel) rfl rfl dX10_begin_7 (fun σ2 H locs eσ2 hP hS => ?_)
  have m3 : σ2 12 0 = 0 := (by rw [eσ2, jup_k (by decide)]; exact (by rw [eσ1]; exact jup_s))
  have m4 : σ2 12 1 = 0 := (by rw [eσ2]; exact jup_s)
  exact hret σ2 τ _ _ _ _ ⟨(fun i hi => by rw [eσ2, jup_n (by omega), eσ1, jup_n (by omega)]), m3, m4, trivial⟩ hP hS dX10_begin_10
set_option maxHeartbeats 4000000 in
set_option maxRecDepth 100000 in
theorem c_X10_add_12 (l : Launch) (D : va_G) (cI cL : ClassId) (ad : Nat → Nat) (hJ : jD ad) (σ : Nat → Nat → Int32) (τ : Nat → Nat → Int64) (h12_0 : σ 12 0 = 0) : jMv l yX10_add cX10_add 2 none ({ frames := 0, cells := 0, slots := 0, locals := 0 }) D cI cL ad [.ref (ad 12), .int 20059] σ τ (fun σ' τ' => (∀ i : Nat, (i < 12 ∨ 13 < i) → σ' i = σ i) ∧ True) := by
  refine jMv.of hJ (by decide +kernel) rfl (Nat.le_of_ble_eq_true rfl) ?_
  intro p e s m args below meth c Q ls hC hret hl hP
  obtain ⟨hx, hb, hr, hml, hown, hts, hK, -, hlocks⟩ := hC
  have hown : s.vm.findClass RX10 = some m.cls := hown
  have hS : va_S (jA ad) s.heap s.heap [] := va_S.rf
  have hA : ∀ q, jA ad q → jA ad q := fun _ h => h
  have hl : lv_has ls 2 [(0, .ref (ad 12)), (1, .int 20059)] := hl
  refine lv_aload_n hx hb dX10_add_0 rfl (lv_at hl 0 rfl) ?_
  refine va_get (D := D) hx hb hts inlX10 hown hK hP 12 (jc_12 cI cL ad σ τ) rfl 0 (by decide) (hts _ kw_16_20) (fun _ h9 => h9) rfl dX10_add_1 ?_
  refine jtopr h12_0 ?_
  refine lv_sipush (v := 160) hx hb dX10_add_4 (by decide) ?_
  refine lv_icmp_lt (tgt := 11) hx hb dX10_add_7 (by decide) (fun _ => ?_) (fun c => absurd (by decide) c)
  refine lv_aload_n hx hb dX10_add_11 rfl (lv_at hl 0 rfl) ?_
  refine va_get (D := D) hx hb hts inlX10 hown hK hP 12 (jc_12 cI cL ad σ τ) rfl 2 (by decide) (hts _ kw_4_3) (fun _ h9 => h9) rfl dX10_add_12 ?_
  refine lv_aload_n hx hb dX10_add_15 rfl (lv_at hl 0 rfl) ?_
  refine lv_dup hx hb dX10_add_16 rfl ?_
  refine va_get (D := D) hx hb hts inlX10 hown hK hP 12 (jc_12 cI cL ad σ τ) rfl 0 (by decide) (hts _ kw_16_20) (fun _ h9 => h9) rfl dX10_add_17 ?_
  refine jtopr h12_0 ?_
  refine lv_dup_x1 hx hb dX10_add_20 rfl rfl ?_
  refine lv_iconst (v := 1) hx hb dX10_add_21 (by decide) ?_
  refine lv_iadd hx hb dX10_add_22 ?_
  refine jtopr (y := 1) (by decide) ?_
  refine jput (ty := .int) hx hb hts inlX10 tyX10 tyX10_ok nmX10 hown hK hP hJ hA hS (jc_12 cI cL ad σ τ) rfl (k := 0) (by decide) (Nat.le_of_ble_eq_true rfl) (jp_12_0 cI cL ad σ τ 1) (hts _ kw_16_20) (fun _ h9 => h9) rfl (by decide +kernel) rfl rfl dX10_add_23 (fun σ1 H locs eσ1 hP hS => ?_)
  refine lv_iload_n hx hb dX10_add_26 rfl (lv_at hl 1 rfl) ?_
  refine jast hx hb hK hP hJ hA hS (jc_13 cI cL ad σ1 τ) (ja_13 cI cL ad σ1 τ _ _) (jin jz_0 (by omega) (by omega)) dX10_add_27 (fun σ2 H locs eσ2 hP hS => ?_)
  have eσ2 : σ2 = jup σ1 13 0 20059 := eσ2
  refine lv_iload_n hx hb dX10_add_28 rfl (lv_at hl 1 rfl) ?_
  refine lv_sipush (v := 10000) hx hb dX10_add_29 (by decide) ?_
  refine lv_icmp_lt (tgt := 58) hx hb dX10_add_32 (by decide) (fun c => absurd c (by decide)) (fun _ => ?_)
  refine lv_iload_n hx hb dX10_add_35 rfl (lv_at hl 1 rfl) ?_
  refine lv_sipush (v := 10008) hx hb dX10_add_36 (by decide) ?_
  refine lv_icmp_ge (tgt := 58) hx hb dX10_add_39 (by decide) (fun _ => ?_) (fun c => absurd (by decide) c)
  exact hret σ2 τ _ _ _ _ ⟨(fun i hi => by rw [eσ2, jup_n (by omega), eσ1, jup_n (by omega)]), trivial⟩ hP hS dX10_add_58
set_option maxHeartbeats 4000000 in
set_option maxRecDepth 100000 in
theorem c_X7_operand_9 (l : Launch) (D : va_G) (cI cL : ClassId) (ad : Nat → Nat) (hJ : jD ad) (σ : Nat → Nat → Int32) (τ : Nat → Nat → Int64) (h9_0 : σ 9 0 = 0) (h9_1 : σ 9 1 = 0) (h9_2 : σ 9 2 = (-1)) : jMv l yX7_operand cX7_operand 3 none ({ frames := 1, cells := 0, slots := 0, locals := 21 }) D cI cL ad [.ref (ad 9), .int 0] σ τ (fun σ' τ' => (∀ i : Nat, (i < 9 ∨ 9 < i) → σ' i = σ i) ∧ σ' 9 0 = 0 ∧ σ' 9 1 = 0 ∧ σ' 9 2 = 0 ∧ True) := by
  refine jMv.of hJ (by decide +kernel) rfl (Nat.le_of_ble_eq_true rfl) ?_
  intro p e s m args below meth c Q ls hC hret hl hP
  obtain ⟨hx, hb, hr, hml, hown, hts, hK, -, hlocks⟩ := hC
  have hown : s.vm.findClass RX7 = some m.cls := hown
  have hS : va_S (jA ad) s.heap s.heap [] := va_S.rf
  have hA : ∀ q, jA ad q → jA ad q := fun _ h => h
  have hl : lv_has ls 3 [(0, .ref (ad 9)), (1, .int 0)] := hl
  refine lv_aload_n hx hb dX7_operand_0 rfl (lv_at hl 0 rfl) ?_
  refine va_get (D := D) hx hb hts inlX7 hown hK hP 9 (jc_9 cI cL ad σ τ) rfl 2 (by decide) (hts _ kw_14_6) (fun _ h9 => h9) rfl dX7_operand_1 ?_
  refine jtopr h9_2 ?_
  refine lv_iconst (v := (-1)) hx hb dX7_operand_4 (by decide) ?_
  refine lv_icmp_eq (tgt := 9) hx hb dX7_operand_5 (by decide) (fun _ => ?_) (fun c => absurd (by decide) c)
  refine lv_aload_n hx hb dX7_operand_9 rfl (lv_at hl 0 rfl) ?_
  refine jcallV (As := []) (rest := []) ⟨hx, hb, hml, hown, hts⟩ hK hP hA hS (c_X7_sign_9 l D cI cL ad hJ σ τ h9_0 h9_1) cw_RX7_35 (jc_9 cI cL ad σ τ) rfl ⟨Nat.le_of_ble_eq_true rfl, Nat.le_of_ble_eq_true rfl⟩ rfl rfl rfl hl.1 rfl (Nat.le_of_ble_eq_true rfl) dX7_operand_10 ⟨Nat.zero_le _, Nat.zero_le _⟩ (fun r2 σ1 τ1 H locs h1 hP hS => ?_)
  obtain ⟨⟨rfl, rfl⟩, h1⟩ := h1
  have h3 := h1
  obtain ⟨q5, k4⟩ := h3
  have q5 := q5.symm
  subst q5
  refine lv_istore_n (lv' := [(2, .int (-1)), (0, .ref (ad 9)), (1, .int 0)]) hx hb dX7_operand_13 rfl hl (by decide) rfl (fun ls hl => ?_)
  refine lv_iload_n hx hb dX7_operand_14 rfl (lv_at hl 0 rfl) ?_
  refine jcallS (As := [.int (-1)]) (rest := []) ⟨hx, hb, hml, hown, hts⟩ hK hP hA hS (c_X7_isDigit l D cI cL ad hJ σ τ) cw_RX7_39 ⟨Nat.le_of_ble_eq_true rfl, Nat.le_of_ble_eq_true rfl⟩ rfl rfl rfl hl.1 rfl (Nat.le_of_ble_eq_true rfl) dX7_operand_15 ⟨Nat.zero_le _, Nat.zero_le _⟩ (fun r7 σ6 τ6 H locs h6 hP hS => ?_)
  obtain ⟨⟨rfl, rfl⟩, h6⟩ := h6
  have h8 := h6
  obtain ⟨q10, k9⟩ := h8
  have q10 := q10.symm
  subst q10
  refine lv_if_eq (tgt := 36) hx hb dX7_operand_18 (by decide) (fun _ => ?_) (fun c => absurd (by decide) c)
  refine lv_iload_n hx hb dX7_operand_36 rfl (lv_at hl 0 rfl) ?_
  refine jcallS (As := [.int (-1)]) (rest := []) ⟨hx, hb, hml, hown, hts⟩ hK hP hA hS (c_X7_nameOf l D cI cL ad hJ σ τ) cw_RX7_101 ⟨Nat.le_of_ble_eq_true rfl, Nat.le_of_ble_eq_true rfl⟩ rfl rfl rfl hl.1 rfl (Nat.le_of_ble_eq_true rfl) dX7_operand_37 ⟨Nat.zero_le _, Nat.zero_le _⟩ (fun r12 σ11 τ11 H locs h11 hP hS => ?_)
  obtain ⟨⟨rfl, rfl⟩, h11⟩ := h11
  have h13 := h11
  obtain ⟨q15, k14⟩ := h13
  have q15 := q15.symm
  subst q15
  refine lv_if_lt (tgt := 71) hx hb dX7_operand_40 (by decide) (fun _ => ?_) (fun c => absurd (by decide) c)
  refine lv_iload_n hx hb dX7_operand_71 rfl (lv_at hl 2 rfl) ?_
  refine lv_bipush (v := 6) hx hb dX7_operand_72 (by decide) ?_
  refine lv_icmp_ge (tgt := 133) hx hb dX7_operand_74 (by decide) (fun c => absurd c (by decide)) (fun _ => ?_)
  refine lv_iload_n hx hb dX7_operand_77 rfl (lv_at hl 0 rfl) ?_
  refine lv_bipush (v := 33) hx hb dX7_operand_78 (by decide) ?_
  refine lv_icmp_eq (tgt := 89) hx hb dX7_operand_80 (by decide) (fun c => absurd c (by decide)) (fun _ => ?_)
  refine lv_iload_n hx hb dX7_operand_83 rfl (lv_at hl 0 rfl) ?_
  refine lv_bipush (v := 45) hx hb dX7_operand_84 (by decide) ?_
  refine lv_icmp_ne (tgt := 133) hx hb dX7_operand_86 (by decide) (fun _ => ?_) (fun c => absurd c (by decide))
  refine lv_iload_n hx hb dX7_operand_133 rfl (lv_at hl 2 rfl) ?_
  refine lv_bipush (v := 6) hx hb dX7_operand_134 (by decide) ?_
  refine lv_icmp_ge (tgt := 183) hx hb dX7_operand_136 (by decide) (fun c => absurd c (by decide)) (fun _ => ?_)
  refine lv_iload_n hx hb dX7_operand_139 rfl (lv_at hl 0 rfl) ?_
  refine lv_bipush (v := 40) hx hb dX7_operand_140 (by decide) ?_
  refine lv_icmp_ne (tgt := 183) hx hb dX7_operand_142 (by decide) (fun _ => ?_) (fun c => absurd c (by decide))
  refine lv_aload_n hx hb dX7_operand_183 rfl (lv_at hl 1 rfl) ?_
  refine lv_aload_n hx hb dX7_operand_184 rfl (lv_at hl 1 rfl) ?_
  refine va_get (D := D) hx hb hts inlX7 hown hK hP 9 (jc_9 cI cL ad σ τ) rfl 1 (by decide) (hts _ kw_13_17) (fun _ h9 => h9) rfl dX7_operand_185 ?_
  refine jtopr h9_1 ?_
  refine jcallVv (As := [.int 0]) (rest := []) ⟨hx, hb, hml, hown, hts⟩ hK hP hA hS (c_X7_fail_9 l D cI cL ad hJ σ τ 0 (0) jz_0 h9_0 h9_1 h9_2) cw_RX7_43 (jc_9 cI cL ad σ τ) rfl ⟨Nat.le_of_ble_eq_true rfl, Nat.le_of_ble_eq_true rfl⟩ rfl rfl rfl hl.1 rfl (Nat.le_of_ble_eq_true rfl) dX7_operand_188 ⟨Nat.zero_le _, Nat.zero_le _⟩ (fun σ16 τ16 H locs h16 hP hS => ?_)
  obtain ⟨f18, m19, m20, m21, h16⟩ := h16
  exact hret σ16 τ16 _ _ _ _ ⟨(fun i hi => by rw [f18 i (by omega)]), m19, m20, m21, trivial⟩ hP hS dX7_operand_191
set_option maxHeartbeats 4000000 in
set_option maxRecDepth 100000 in
theorem c_X7_part_5 (l : Launch) (D : va_G) (cI cL : ClassId) (ad : Nat → Nat) (hJ : jD ad) (σ : Nat → Nat → Int32) (τ : Nat → Nat → Int64) (h9_0 : σ 9 0 = 0) (h9_1 : σ 9 1 = 0) (h9_2 : σ 9 2 = (-1)) : jMv l yX7_part cX7_part 5 none ({ frames := 2, cells := 0, slots := 0, locals := 43 }) D cI cL ad [.ref (ad 9), .int 5, .int 0] σ τ (fun σ' τ' => (∀ i : Nat, (i < 9 ∨ 9 < i) → σ' i = σ i) ∧ σ' 9 0 = 0 ∧ σ' 9 1 = 0 ∧ σ' 9 2 = 0 ∧ True) := by
  refine jMv.of hJ (by decide +kernel) rfl (Nat.le_of_ble_eq_true rfl) ?_
  intro p e s m args below meth c Q ls hC hret hl hP
  obtain ⟨hx, hb, hr, hml, hown, hts, hK, -, hlocks⟩ := hC
  have hown : s.vm.findClass RX7 = some m.cls := hown
  have hS : va_S (jA ad) s.heap s.heap [] := va_S.rf
  have hA : ∀ q, jA ad q → jA ad q := fun _ h => h
  have hl : lv_has ls 5 [(0, .ref (ad 9)), (1, .int 5), (2, .int 0)] := hl
  refine lv_iload_n hx hb dX7_part_0 rfl (lv_at hl 1 rfl) ?_
  refine lv_iconst (v := 5) hx hb dX7_part_1 (by decide) ?_
  refine lv_icmp_lt (tgt := 11) hx hb dX7_part_2 (by decide) (fun c => absurd c (by decide)) (fun _ => ?_)
  refine lv_aload_n hx hb dX7_part_5 rfl (lv_at hl 0 rfl) ?_
  refine lv_iload_n hx hb dX7_part_6 rfl (lv_at hl 2 rfl) ?_
  refine jcallVv (As := [.int 0]) (rest := []) ⟨hx, hb, hml, hown, hts⟩ hK hP hA hS (c_X7_operand_9 l D cI cL ad hJ σ τ h9_0 h9_1 h9_2) cw_RX7_95 (jc_9 cI cL ad σ τ) rfl ⟨Nat.le_of_ble_eq_true rfl, Nat.le_of_ble_eq_true rfl⟩ rfl rfl rfl hl.1 rfl (Nat.le_of_ble_eq_true rfl) dX7_part_7 ⟨Nat.zero_le _, Nat.zero_le _⟩ (fun σ1 τ1 H locs h1 hP hS => ?_)
  obtain ⟨f3, m4, m5, m6, h1⟩ := h1
  exact hret σ1 τ1 _ _ _ _ ⟨(fun i hi => by rw [f3 i (by omega)]), m4, m5, m6, trivial⟩ hP hS dX7_part_10
set_option maxHeartbeats 4000000 in
set_option maxRecDepth 100000 in
theorem c_X7_part_4 (l : Launch) (D : va_G) (cI cL : ClassId) (ad : Nat → Nat) (hJ : jD ad) (σ : Nat → Nat → Int32) (τ : Nat → Nat → Int64) (h9_0 : σ 9 0 = 0) (h9_1 : σ 9 1 = 0) (h9_2 : σ 9 2 = (-1)) : jMv l yX7_part cX7_part 5 none ({ frames := 3, cells := 0, slots := 0, locals := 67 }) D cI cL ad [.ref (ad 9), .int 4, .int 0] σ τ (fun σ' τ' => (∀ i : Nat, (i < 9 ∨ 9 < i) → σ' i = σ i) ∧ σ' 9 0 = 0 ∧ σ' 9 1 = 0 ∧ σ' 9 2 = 0 ∧ True) := by
  refine jMv.of hJ (by decide +kernel) rfl (Nat.le_of_ble_eq_true rfl) ?_
  intro p e s m args below meth c Q ls hC hret hl hP
  obtain ⟨hx, hb, hr, hml, hown, hts, hK, -, hlocks⟩ := hC
  have hown : s.vm.findClass RX7 = some m.cls := hown
  have hS : va_S (jA ad) s.heap s.heap [] := va_S.rf
  have hA : ∀ q, jA ad q → jA ad q := fun _ h => h
  have hl : lv_has ls 5 [(0, .ref (ad 9)), (1, .int 4), (2, .int 0)] := hl
  refine lv_iload_n hx hb dX7_part_0 rfl (lv_at hl 1 rfl) ?_
  refine lv_iconst (v := 5) hx hb dX7_part_1 (by decide) ?_
  refine lv_icmp_lt (tgt := 11) hx hb dX7_part_2 (by decide) (fun _ => ?_) (fun c => absurd (by decide) c)
  refine lv_aload_n hx hb dX7_part_11 rfl (lv_at hl 0 rfl) ?_
  refine lv_iload_n hx hb dX7_part_12 rfl (lv_at hl 1 rfl) ?_
  refine lv_iconst (v := 1) hx hb dX7_part_13 (by decide) ?_
  refine lv_iadd hx hb dX7_part_14 ?_
  refine jtopr (y := 5) (by decide) ?_
  refine lv_iload_n hx hb dX7_part_15 rfl (lv_at hl 2 rfl) ?_
  refine jcallVv (As := [.int 5, .int 0]) (rest := []) ⟨hx, hb, hml, hown, hts⟩ hK hP hA hS (c_X7_part_5 l D cI cL ad hJ σ τ h9_0 h9_1 h9_2) cw_RX7_82 (jc_9 cI cL ad σ τ) rfl ⟨Nat.le_of_ble_eq_true rfl, Nat.le_of_ble_eq_true rfl⟩ rfl rfl rfl hl.1 rfl (Nat.le_of_ble_eq_true rfl) dX7_part_16 ⟨Nat.zero_le _, Nat.zero_le _⟩ (fun σ1 τ1 H locs h1 hP hS => ?_)
  obtain ⟨f3, m4, m5, m6, h1⟩ := h1
  refine lv_iconst (v := 0) hx hb dX7_part_19 (by decide) ?_
  refine lv_istore_n (lv' := [(3, .int 0), (0, .ref (ad 9)), (1, .int 4), (2, .int 0)]) hx hb dX7_part_20 rfl hl (by decide) rfl (fun ls hl => ?_)
  refine lv_iload_n hx hb dX7_part_21 rfl (lv_at hl 0 rfl) ?_
  refine lv_bipush (v := 80) hx hb dX7_part_22 (by decide) ?_
  refine lv_icmp_ge (tgt := 95) hx hb dX7_part_24 (by decide) (fun c => absurd c (by decide)) (fun _ => ?_)
  refine lv_aload_n hx hb dX7_part_27 rfl (lv_at hl 1 rfl) ?_
  refine va_get (D := D) hx hb hts inlX7 hown hK hP 9 (jc_9 cI cL ad σ1 τ1) rfl 2 (by decide) (hts _ kw_14_6) (fun _ h9 => h9) rfl dX7_part_28 ?_
  refine jtopr m6 ?_
  refine lv_iconst (v := (-1)) hx hb dX7_part_31 (by decide) ?_
  refine lv_icmp_ne (tgt := 95) hx hb dX7_part_32 (by decide) (fun _ => ?_) (fun c => absurd c (by decide))
  exact hret σ1 τ1 _ _ _ _ ⟨(fun i hi => by rw [f3 i (by omega)]), m4, m5, m6, trivial⟩ hP hS dX7_part_95
set_option maxHeartbeats 4000000 in
set_option maxRecDepth 100000 in
theorem c_X7_part_3 (l : Launch) (D : va_G) (cI cL : ClassId) (ad : Nat → Nat) (hJ : jD ad) (σ : Nat → Nat → Int32) (τ : Nat → Nat → Int64) (h9_0 : σ 9 0 = 0) (h9_1 : σ 9 1 = 0) (h9_2 : σ 9 2 = (-1)) : jMv l yX7_part cX7_part 5 none ({ frames := 4, cells := 0, slots := 0, locals := 91 }) D cI cL ad [.ref (ad 9), .int 3, .int 0] σ τ (fun σ' τ' => (∀ i : Nat, (i < 9 ∨ 9 < i) → σ' i = σ i) ∧ σ' 9 0 = 0 ∧ σ' 9 1 = 0 ∧ σ' 9 2 = 0 ∧ True) := by
  refine jMv.of hJ (by decide +kernel) rfl (Nat.le_of_ble_eq_true rfl) ?_
  intro p e s m args below meth c Q ls hC hret hl hP
  obtain ⟨hx, hb, hr, hml, hown, hts, hK, -, hlocks⟩ := hC
  have hown : s.vm.findClass RX7 = some m.cls := hown
  have hS : va_S (jA ad) s.heap s.heap [] := va_S.rf
  have hA : ∀ q, jA ad q → jA ad q := fun _ h => h
  have hl : lv_has ls 5 [(0, .ref (ad 9)), (1, .int 3), (2, .int 0)] := hl
  refine lv_iload_n hx hb dX7_part_0 rfl (lv_at hl 1 rfl) ?_
  refine lv_iconst (v := 5) hx hb dX7_part_1 (by decide) ?_
  refine lv_icmp_lt (tgt := 11) hx hb dX7_part_2 (by decide) (fun _ => ?_) (fun c => absurd (by decide) c)
  refine lv_aload_n hx hb dX7_part_11 rfl (lv_at hl 0 rfl) ?_
  refine lv_iload_n hx hb dX7_part_12 rfl (lv_at hl 1 rfl) ?_
  refine lv_iconst (v := 1) hx hb dX7_part_13 (by decide) ?_
  refine lv_iadd hx hb dX7_part_14 ?_
  refine jtopr (y := 4) (by decide) ?_
  refine lv_iload_n hx hb dX7_part_15 rfl (lv_at hl 2 rfl) ?_
  refine jcallVv (As := [.int 4, .int 0]) (rest := []) ⟨hx, hb, hml, hown, hts⟩ hK hP hA hS (c_X7_part_4 l D cI cL ad hJ σ τ h9_0 h9_1 h9_2) cw_RX7_82 (jc_9 cI cL ad σ τ) rfl ⟨Nat.le_of_ble_eq_true rfl, Nat.le_of_ble_eq_true rfl⟩ rfl rfl rfl hl.1 rfl (Nat.le_of_ble_eq_true rfl) dX7_part_16 ⟨Nat.zero_le _, Nat.zero_le _⟩ (fun σ1 τ1 H locs h1 hP hS => ?_)
  obtain ⟨f3, m4, m5, m6, h1⟩ := h1
  refine lv_iconst (v := 0) hx hb dX7_part_19 (by decide) ?_
  refine lv_istore_n (lv' := [(3, .int 0), (0, .ref (ad 9)), (1, .int 3), (2, .int 0)]) hx hb dX7_part_20 rfl hl (by decide) rfl (fun ls hl => ?_)
  refine lv_iload_n hx hb dX7_part_21 rfl (lv_at hl 0 rfl) ?_
  refine lv_bipush (v := 80) hx hb dX7_part_22 (by decide) ?_
  refine lv_icmp_ge (tgt := 95) hx hb dX7_part_24 (by decide) (fun c => absurd c (by decide)) (fun _ => ?_)
  refine lv_aload_n hx hb dX7_part_27 rfl (lv_at hl 1 rfl) ?_
  refine va_get (D := D) hx hb hts inlX7 hown hK hP 9 (jc_9 cI cL ad σ1 τ1) rfl 2 (by decide) (hts _ kw_14_6) (fun _ h9 => h9) rfl dX7_part_28 ?_
  refine jtopr m6 ?_
  refine lv_iconst (v := (-1)) hx hb dX7_part_31 (by decide) ?_
  refine lv_icmp_ne (tgt := 95) hx hb dX7_part_32 (by decide) (fun _ => ?_) (fun c => absurd c (by decide))
  exact hret σ1 τ1 _ _ _ _ ⟨(fun i hi => by rw [f3 i (by omega)]), m4, m5, m6, trivial⟩ hP hS dX7_part_95
set_option maxHeartbeats 4000000 in
set_option maxRecDepth 100000 in
theorem c_X7_part_2 (l : Launch) (D : va_G) (cI cL : ClassId) (ad : Nat → Nat) (hJ : jD ad) (σ : Nat → Nat → Int32) (τ : Nat → Nat → Int64) (h9_0 : σ 9 0 = 0) (h9_1 : σ 9 1 = 0) (h9_2 : σ 9 2 = (-1)) : jMv l yX7_part cX7_part 5 none ({ frames := 5, cells := 0, slots := 0, locals := 115 }) D cI cL ad [.ref (ad 9), .int 2, .int 0] σ τ (fun σ' τ' => (∀ i : Nat, (i < 9 ∨ 9 < i) → σ' i = σ i) ∧ σ' 9 0 = 0 ∧ σ' 9 1 = 0 ∧ σ' 9 2 = 0 ∧ True) := by
  refine jMv.of hJ (by decide +kernel) rfl (Nat.le_of_ble_eq_true rfl) ?_
  intro p e s m args below meth c Q ls hC hret hl hP
  obtain ⟨hx, hb, hr, hml, hown, hts, hK, -, hlocks⟩ := hC
  have hown : s.vm.findClass RX7 = some m.cls := hown
  have hS : va_S (jA ad) s.heap s.heap [] := va_S.rf
  have hA : ∀ q, jA ad q → jA ad q := fun _ h => h
  have hl : lv_has ls 5 [(0, .ref (ad 9)), (1, .int 2), (2, .int 0)] := hl
  refine lv_iload_n hx hb dX7_part_0 rfl (lv_at hl 1 rfl) ?_
  refine lv_iconst (v := 5) hx hb dX7_part_1 (by decide) ?_
  refine lv_icmp_lt (tgt := 11) hx hb dX7_part_2 (by decide) (fun _ => ?_) (fun c => absurd (by decide) c)
  refine lv_aload_n hx hb dX7_part_11 rfl (lv_at hl 0 rfl) ?_
  refine lv_iload_n hx hb dX7_part_12 rfl (lv_at hl 1 rfl) ?_
  refine lv_iconst (v := 1) hx hb dX7_part_13 (by decide) ?_
  refine lv_iadd hx hb dX7_part_14 ?_
  refine jtopr (y := 3) (by decide) ?_
  refine lv_iload_n hx hb dX7_part_15 rfl (lv_at hl 2 rfl) ?_
  refine jcallVv (As := [.int 3, .int 0]) (rest := []) ⟨hx, hb, hml, hown, hts⟩ hK hP hA hS (c_X7_part_3 l D cI cL ad hJ σ τ h9_0 h9_1 h9_2) cw_RX7_82 (jc_9 cI cL ad σ τ) rfl ⟨Nat.le_of_ble_eq_true rfl, Nat.le_of_ble_eq_true rfl⟩ rfl rfl rfl hl.1 rfl (Nat.le_of_ble_eq_true rfl) dX7_part_16 ⟨Nat.zero_le _, Nat.zero_le _⟩ (fun σ1 τ1 H locs h1 hP hS => ?_)
  obtain ⟨f3, m4, m5, m6, h1⟩ := h1
  refine lv_iconst (v := 0) hx hb dX7_part_19 (by decide) ?_
  refine lv_istore_n (lv' := [(3, .int 0), (0, .ref (ad 9)), (1, .int 2), (2, .int 0)]) hx hb dX7_part_20 rfl hl (by decide) rfl (fun ls hl => ?_)
  refine lv_iload_n hx hb dX7_part_21 rfl (lv_at hl 0 rfl) ?_
  refine lv_bipush (v := 80) hx hb dX7_part_22 (by decide) ?_
  refine lv_icmp_ge (tgt := 95) hx hb dX7_part_24 (by decide) (fun c => absurd c (by decide)) (fun _ => ?_)
  refine lv_aload_n hx hb dX7_part_27 rfl (lv_at hl 1 rfl) ?_
  refine va_get (D := D) hx hb hts inlX7 hown hK hP 9 (jc_9 cI cL ad σ1 τ1) rfl 2 (by decide) (hts _ kw_14_6) (fun _ h9 => h9) rfl dX7_part_28 ?_
  refine jtopr m6 ?_
  refine lv_iconst (v := (-1)) hx hb dX7_part_31 (by decide) ?_
  refine lv_icmp_ne (tgt := 95) hx hb dX7_part_32 (by decide) (fun _ => ?_) (fun c => absurd c (by decide))
  exact hret σ1 τ1 _ _ _ _ ⟨(fun i hi => by rw [f3 i (by omega)]), m4, m5, m6, trivial⟩ hP hS dX7_part_95
set_option maxHeartbeats 4000000 in
set_option maxRecDepth 100000 in
theorem c_X7_part_1 (l : Launch) (D : va_G) (cI cL : ClassId) (ad : Nat → Nat) (hJ : jD ad) (σ : Nat → Nat → Int32) (τ : Nat → Nat → Int64) (h9_0 : σ 9 0 = 0) (h9_1 : σ 9 1 = 0) (h9_2 : σ 9 2 = (-1)) : jMv l yX7_part cX7_part 5 none ({ frames := 6, cells := 0, slots := 0, locals := 139 }) D cI cL ad [.ref (ad 9), .int 1, .int 0] σ τ (fun σ' τ' => (∀ i : Nat, (i < 9 ∨ 9 < i) → σ' i = σ i) ∧ σ' 9 0 = 0 ∧ σ' 9 1 = 0 ∧ σ' 9 2 = 0 ∧ True) := by
  refine jMv.of hJ (by decide +kernel) rfl (Nat.le_of_ble_eq_true rfl) ?_
  intro p e s m args below meth c Q ls hC hret hl hP
  obtain ⟨hx, hb, hr, hml, hown, hts, hK, -, hlocks⟩ := hC
  have hown : s.vm.findClass RX7 = some m.cls := hown
  have hS : va_S (jA ad) s.heap s.heap [] := va_S.rf
  have hA : ∀ q, jA ad q → jA ad q := fun _ h => h
  have hl : lv_has ls 5 [(0, .ref (ad 9)), (1, .int 1), (2, .int 0)] := hl
  refine lv_iload_n hx hb dX7_part_0 rfl (lv_at hl 1 rfl) ?_
  refine lv_iconst (v := 5) hx hb dX7_part_1 (by decide) ?_
  refine lv_icmp_lt (tgt := 11) hx hb dX7_part_2 (by decide) (fun _ => ?_) (fun c => absurd (by decide) c)
  refine lv_aload_n hx hb dX7_part_11 rfl (lv_at hl 0 rfl) ?_
  refine lv_iload_n hx hb dX7_part_12 rfl (lv_at hl 1 rfl) ?_
  refine lv_iconst (v := 1) hx hb dX7_part_13 (by decide) ?_
  refine lv_iadd hx hb dX7_part_14 ?_
  refine jtopr (y := 2) (by decide) ?_
  refine lv_iload_n hx hb dX7_part_15 rfl (lv_at hl 2 rfl) ?_
  refine jcallVv (As := [.int 2, .int 0]) (rest := []) ⟨hx, hb, hml, hown, hts⟩ hK hP hA hS (c_X7_part_2 l D cI cL ad hJ σ τ h9_0 h9_1 h9_2) cw_RX7_82 (jc_9 cI cL ad σ τ) rfl ⟨Nat.le_of_ble_eq_true rfl, Nat.le_of_ble_eq_true rfl⟩ rfl rfl rfl hl.1 rfl (Nat.le_of_ble_eq_true rfl) dX7_part_16 ⟨Nat.zero_le _, Nat.zero_le _⟩ (fun σ1 τ1 H locs h1 hP hS => ?_)
  obtain ⟨f3, m4, m5, m6, h1⟩ := h1
  refine lv_iconst (v := 0) hx hb dX7_part_19 (by decide) ?_
  refine lv_istore_n (lv' := [(3, .int 0), (0, .ref (ad 9)), (1, .int 1), (2, .int 0)]) hx hb dX7_part_20 rfl hl (by decide) rfl (fun ls hl => ?_)
  refine lv_iload_n hx hb dX7_part_21 rfl (lv_at hl 0 rfl) ?_
  refine lv_bipush (v := 80) hx hb dX7_part_22 (by decide) ?_
  refine lv_icmp_ge (tgt := 95) hx hb dX7_part_24 (by decide) (fun c => absurd c (by decide)) (fun _ => ?_)
  refine lv_aload_n hx hb dX7_part_27 rfl (lv_at hl 1 rfl) ?_
  refine va_get (D := D) hx hb hts inlX7 hown hK hP 9 (jc_9 cI cL ad σ1 τ1) rfl 2 (by decide) (hts _ kw_14_6) (fun _ h9 => h9) rfl dX7_part_28 ?_
  refine jtopr m6 ?_
  refine lv_iconst (v := (-1)) hx hb dX7_part_31 (by decide) ?_
  refine lv_icmp_ne (tgt := 95) hx hb dX7_part_32 (by decide) (fun _ => ?_) (fun c => absurd c (by decide))
  exact hret σ1 τ1 _ _ _ _ ⟨(fun i hi => by rw [f3 i (by omega)]), m4, m5, m6, trivial⟩ hP hS dX7_part_95
set_option maxHeartbeats 4000000 in
set_option maxRecDepth 100000 in
theorem c_X7_part_0 (l : Launch) (D : va_G) (cI cL : ClassId) (ad : Nat → Nat) (hJ : jD ad) (σ : Nat → Nat → Int32) (τ : Nat → Nat → Int64) (h9_0 : σ 9 0 = 0) (h9_1 : σ 9 1 = 0) (h9_2 : σ 9 2 = (-1)) : jMv l yX7_part cX7_part 5 none ({ frames := 7, cells := 0, slots := 0, locals := 163 }) D cI cL ad [.ref (ad 9), .int 0, .int 0] σ τ (fun σ' τ' => (∀ i : Nat, (i < 9 ∨ 9 < i) → σ' i = σ i) ∧ σ' 9 0 = 0 ∧ σ' 9 1 = 0 ∧ σ' 9 2 = 0 ∧ True) := by
  refine jMv.of hJ (by decide +kernel) rfl (Nat.le_of_ble_eq_true rfl) ?_
  intro p e s m args below meth c Q ls hC hret hl hP
  obtain ⟨hx, hb, hr, hml, hown, hts, hK, -, hlocks⟩ := hC
  have hown : s.vm.findClass RX7 = some m.cls := hown
  have hS : va_S (jA ad) s.heap s.heap [] := va_S.rf
  have hA : ∀ q, jA ad q → jA ad q := fun _ h => h
  have hl : lv_has ls 5 [(0, .ref (ad 9)), (1, .int 0), (2, .int 0)] := hl
  refine lv_iload_n hx hb dX7_part_0 rfl (lv_at hl 1 rfl) ?_
  refine lv_iconst (v := 5) hx hb dX7_part_1 (by decide) ?_
  refine lv_icmp_lt (tgt := 11) hx hb dX7_part_2 (by decide) (fun _ => ?_) (fun c => absurd (by decide) c)
  refine lv_aload_n hx hb dX7_part_11 rfl (lv_at hl 0 rfl) ?_
  refine lv_iload_n hx hb dX7_part_12 rfl (lv_at hl 1 rfl) ?_
  refine lv_iconst (v := 1) hx hb dX7_part_13 (by decide) ?_
  refine lv_iadd hx hb dX7_part_14 ?_
  refine jtopr (y := 1) (by decide) ?_
  refine lv_iload_n hx hb dX7_part_15 rfl (lv_at hl 2 rfl) ?_
  refine jcallVv (As := [.int 1, .int 0]) (rest := []) ⟨hx, hb, hml, hown, hts⟩ hK hP hA hS (c_X7_part_1 l D cI cL ad hJ σ τ h9_0 h9_1 h9_2) cw_RX7_82 (jc_9 cI cL ad σ τ) rfl ⟨Nat.le_of_ble_eq_true rfl, Nat.le_of_ble_eq_true rfl⟩ rfl rfl rfl hl.1 rfl (Nat.le_of_ble_eq_true rfl) dX7_part_16 ⟨Nat.zero_le _, Nat.zero_le _⟩ (fun σ1 τ1 H locs h1 hP hS => ?_)
  obtain ⟨f3, m4, m5, m6, h1⟩ := h1
  refine lv_iconst (v := 0) hx hb dX7_part_19 (by decide) ?_
  refine lv_istore_n (lv' := [(3, .int 0), (0, .ref (ad 9)), (1, .int 0), (2, .int 0)]) hx hb dX7_part_20 rfl hl (by decide) rfl (fun ls hl => ?_)
  refine lv_iload_n hx hb dX7_part_21 rfl (lv_at hl 0 rfl) ?_
  refine lv_bipush (v := 80) hx hb dX7_part_22 (by decide) ?_
  refine lv_icmp_ge (tgt := 95) hx hb dX7_part_24 (by decide) (fun c => absurd c (by decide)) (fun _ => ?_)
  refine lv_aload_n hx hb dX7_part_27 rfl (lv_at hl 1 rfl) ?_
  refine va_get (D := D) hx hb hts inlX7 hown hK hP 9 (jc_9 cI cL ad σ1 τ1) rfl 2 (by decide) (hts _ kw_14_6) (fun _ h9 => h9) rfl dX7_part_28 ?_
  refine jtopr m6 ?_
  refine lv_iconst (v := (-1)) hx hb dX7_part_31 (by decide) ?_
  refine lv_icmp_ne (tgt := 95) hx hb dX7_part_32 (by decide) (fun _ => ?_) (fun c => absurd c (by decide))
  exact hret σ1 τ1 _ _ _ _ ⟨(fun i hi => by rw [f3 i (by omega)]), m4, m5, m6, trivial⟩ hP hS dX7_part_95
set_option maxHeartbeats 4000000 in
set_option maxRecDepth 100000 in
theorem c_X7_readLine_9 (l : Launch) (D : va_G) (cI cL : ClassId) (ad : Nat → Nat) (hJ : jD ad) (σ : Nat → Nat → Int32) (τ : Nat → Nat → Int64) (h9_0 : σ 9 0 = 0) (h9_1 : σ 9 1 = 0) (h9_2 : σ 9 2 = (-1)) (h12_0 : σ 12 0 = 0) : jMv l yX7_readLine cX7_readLine 2 none ({ frames := 8, cells := 0, slots := 0, locals := 187 }) D cI cL ad [.ref (ad 9)] σ τ (fun σ' τ' => (∀ i : Nat, (i < 9 ∨ 9 < i) ∧ (i < 12 ∨ 13 < i) → σ' i = σ i) ∧ σ' 9 0 = 0 ∧ σ' 9 1 = 0 ∧ σ' 9 2 = 0 ∧ True) := by
  refine jMv.of hJ (by decide +kernel) rfl (Nat.le_of_ble_eq_true rfl) ?_
  intro p e s m args below meth c Q ls hC hret hl hP
  obtain ⟨hx, hb, hr, hml, hown, hts, hK, -, hlocks⟩ := hC
  have hown : s.vm.findClass RX7 = some m.cls := hown
  have hS : va_S (jA ad) s.heap s.heap [] := va_S.rf
  have hA : ∀ q, jA ad q → jA ad q := fun _ h => h
  have hl : lv_has ls 2 [(0, .ref (ad 9))] := hl
  refine lv_aload_n hx hb dX7_readLine_0 rfl (lv_at hl 0 rfl) ?_
  refine lv_iconst (v := 0) hx hb dX7_readLine_1 (by decide) ?_
  refine lv_iconst (v := 0) hx hb dX7_readLine_2 (by decide) ?_
  refine jcallVv (As := [.int 0, .int 0]) (rest := []) ⟨hx, hb, hml, hown, hts⟩ hK hP hA hS (c_X7_part_0 l D cI cL ad hJ σ τ h9_0 h9_1 h9_2) cw_RX7_82 (jc_9 cI cL ad σ τ) rfl ⟨Nat.le_of_ble_eq_true rfl, Nat.le_of_ble_eq_true rfl⟩ rfl rfl rfl hl.1 rfl (Nat.le_of_ble_eq_true rfl) dX7_readLine_3 ⟨Nat.zero_le _, Nat.zero_le _⟩ (fun σ1 τ1 H locs h1 hP hS => ?_)
  obtain ⟨f3, m4, m5, m6, h1⟩ := h1
  refine lv_iconst (v := (-1)) hx hb dX7_readLine_6 (by decide) ?_
  refine lv_istore_n (lv' := [(1, .int (-1)), (0, .ref (ad 9))]) hx hb dX7_readLine_7 rfl hl (by decide) rfl (fun ls hl => ?_)
  refine lv_aload_n hx hb dX7_readLine_8 rfl (lv_at hl 1 rfl) ?_
  refine lv_bipush (v := 63) hx hb dX7_readLine_9 (by decide) ?_
  refine jcallV (As := [.int 63]) (rest := []) ⟨hx, hb, hml, hown, hts⟩ hK hP hA hS (c_X7_skip_9 l D cI cL ad hJ σ1 τ1 63 (63) jz_63 m6) cw_RX7_50 (jc_9 cI cL ad σ1 τ1) rfl ⟨Nat.le_of_ble_eq_true rfl, Nat.le_of_ble_eq_true rfl⟩ rfl rfl rfl hl.1 rfl (Nat.le_of_ble_eq_true rfl) dX7_readLine_11 ⟨Nat.zero_le _, Nat.zero_le _⟩ (fun r8 σ7 τ7 H locs h7 hP hS => ?_)
  obtain ⟨⟨rfl, rfl⟩, h7⟩ := h7
  have h9 := h7
  obtain ⟨q11, k10⟩ := h9
  have q11 := q11.symm
  subst q11
  refine lv_if_eq (tgt := 49) hx hb dX7_readLine_14 (by decide) (fun _ => ?_) (fun c => absurd (by decide) c)
  refine lv_aload_n hx hb dX7_readLine_49 rfl (lv_at hl 1 rfl) ?_
  refine va_get (D := D) hx hb hts inlX7 hown hK hP 9 (jc_9 cI cL ad σ1 τ1) rfl 5 (by decide) (hts _ kw_3_23) (fun _ h9 => h9) rfl dX7_readLine_50 ?_
  refine lv_sipush (v := 20059) hx hb dX7_readLine_53 (by decide) ?_
  have m12 : σ1 12 0 = 0 := (by rw [f3 12 (by omega)]; exact h12_0)
  refine jcallVv (As := [.int 20059]) (rest := []) ⟨hx, hb, hml, hown, hts⟩ hK hP hA hS (c_X10_add_12 l D cI cL ad hJ σ1 τ1 m12) cw_RX7_86 (jc_12 cI cL ad σ1 τ1) rfl ⟨Nat.le_of_ble_eq_true rfl, Nat.le_of_ble_eq_true rfl⟩ rfl rfl rfl hl.1 rfl (Nat.le_of_ble_eq_true rfl) dX7_readLine_56 ⟨Nat.zero_le _, Nat.zero_le _⟩ (fun σ13 τ13 H locs h13 hP hS => ?_)
  obtain ⟨f15, h13⟩ := h13
  refine lv_iload_n hx hb dX7_readLine_59 rfl (lv_at hl 0 rfl) ?_
  refine lv_if_lt (tgt := 86) hx hb dX7_readLine_60 (by decide) (fun _ => ?_) (fun c => absurd (by decide) c)
  have m16 : σ13 9 0 = 0 := (by rw [f15 9 (by omega)]; exact m4)
  have m17 : σ13 9 1 = 0 := (by rw [f15 9 (by omega)]; exact m5)
  have m18 : σ13 9 2 = 0 := (by rw [f15 9 (by omega)]; exact m6)
  exact hret σ13 τ13 _ _ _ _ ⟨(fun i hi => by rw [f15 i (by omega), f3 i (by omega)]), m16, m17, m18, trivial⟩ hP hS dX7_readLine_86
set_option maxHeartbeats 4000000 in
set_option maxRecDepth 100000 in
theorem c_X7_readText_18 (l : Launch) (D : va_G) (cI cL : ClassId) (ad : Nat → Nat) (hJ : jD ad) (σ : Nat → Nat → Int32) (τ : Nat → Nat → Int64) (h9_0 : σ 9 0 = 0) : jM l yX7_readText cX7_readText 3 (some .int) ({ frames := 9, cells := 0, slots := 0, locals := 208 }) D cI cL ad [.ref (ad 9), .ref (ad 18)] σ τ (fun r σ' τ' => (∀ i : Nat, (i < 9 ∨ 15 < i) → σ' i = σ i) ∧ ((r = 0 ∧ True))) := by
  refine jM.of hJ (by decide +kernel) (nt := .int) rfl (Nat.le_of_ble_eq_true rfl) ?_
  intro p e s m args below meth c Q ls hC hret hl hP
  obtain ⟨hx, hb, hr, hml, hown, hts, hK, -, hlocks⟩ := hC
  have hown : s.vm.findClass RX7 = some m.cls := hown
  have hS : va_S (jA ad) s.heap s.heap [] := va_S.rf
  have hA : ∀ q, jA ad q → jA ad q := fun _ h => h
  have hl : lv_has ls 3 [(0, .ref (ad 9)), (1, .ref (ad 18))] := hl
  refine lv_aload_n hx hb dX7_readText_0 rfl (lv_at hl 0 rfl) ?_
  refine jcallVv (As := []) (rest := []) ⟨hx, hb, hml, hown, hts⟩ hK hP hA hS (c_X7_begin_9 l D cI cL ad hJ σ τ h9_0) cw_RX7_47 (jc_9 cI cL ad σ τ) rfl ⟨Nat.le_of_ble_eq_true rfl, Nat.le_of_ble_eq_true rfl⟩ rfl rfl rfl hl.1 rfl (Nat.le_of_ble_eq_true rfl) dX7_readText_1 ⟨Nat.zero_le _, Nat.zero_le _⟩ (fun σ1 τ1 H locs h1 hP hS => ?_)
  obtain ⟨f3, m4, m5, m6, h1⟩ := h1
  refine lv_aload_n hx hb dX7_readText_4 rfl (lv_at hl 0 rfl) ?_
  refine va_get (D := D) hx hb hts inlX7 hown hK hP 9 (jc_9 cI cL ad σ1 τ1) rfl 5 (by decide) (hts _ kw_3_23) (fun _ h9 => h9) rfl dX7_readText_5 ?_
  refine jcallVv (As := []) (rest := []) ⟨hx, hb, hml, hown, hts⟩ hK hP hA hS (c_X10_begin_12 l D cI cL ad hJ σ1 τ1) cw_RX7_74 (jc_12 cI cL ad σ1 τ1) rfl ⟨Nat.le_of_ble_eq_true rfl, Nat.le_of_ble_eq_true rfl⟩ rfl rfl rfl hl.1 rfl (Nat.le_of_ble_eq_true rfl) dX7_readText_8 ⟨Nat.zero_le _, Nat.zero_le _⟩ (fun σ7 τ7 H locs h7 hP hS => ?_)
  obtain ⟨f9, m10, m11, h7⟩ := h7
  refine lv_aload_n hx hb dX7_readText_11 rfl (lv_at hl 0 rfl) ?_
  have m12 : σ7 9 0 = 0 := (by rw [f9 9 (by omega)]; exact m4)
  have m13 : σ7 9 1 = 0 := (by rw [f9 9 (by omega)]; exact m5)
  have m14 : σ7 9 2 = (-1) := (by rw [f9 9 (by omega)]; exact m6)
  refine jcallVv (As := []) (rest := []) ⟨hx, hb, hml, hown, hts⟩ hK hP hA hS (c_X7_readLine_9 l D cI cL ad hJ σ7 τ7 m12 m13 m14 m10) cw_RX7_75 (jc_9 cI cL ad σ7 τ7) rfl ⟨Nat.le_of_ble_eq_true rfl, Nat.le_of_ble_eq_true rfl⟩ rfl rfl rfl hl.1 rfl (Nat.le_of_ble_eq_true rfl) dX7_readText_12 ⟨Nat.zero_le _, Nat.zero_le _⟩ (fun σ15 τ15 H locs h15 hP hS => ?_)
  obtain ⟨f17, m18, m19, m20, h15⟩ := h15
  refine lv_iconst (v := 0) hx hb dX7_readText_15 (by decide) ?_
  refine lv_istore_n (lv' := [(2, .int 0), (0, .ref (ad 9)), (1, .ref (ad 18))]) hx hb dX7_readText_16 rfl hl (by decide) rfl (fun ls hl => ?_)
  refine lv_iload_n hx hb dX7_readText_17 rfl (lv_at hl 0 rfl) ?_
  refine lv_bipush (v := 80) hx hb dX7_readText_18 (by decide) ?_
  refine lv_icmp_ge (tgt := 42) hx hb dX7_readText_20 (by decide) (fun c => absurd c (by decide)) (fun _ => ?_)
  refine lv_aload_n hx hb dX7_readText_23 rfl (lv_at hl 1 rfl) ?_
  refine lv_bipush (v := 59) hx hb dX7_readText_24 (by decide) ?_
  refine jcallV (As := [.int 59]) (rest := []) ⟨hx, hb, hml, hown, hts⟩ hK hP hA hS (c_X7_skip_9 l D cI cL ad hJ σ15 τ15 59 (59) jz_59 m20) cw_RX7_50 (jc_9 cI cL ad σ15 τ15) rfl ⟨Nat.le_of_ble_eq_true rfl, Nat.le_of_ble_eq_true rfl⟩ rfl rfl rfl hl.1 rfl (Nat.le_of_ble_eq_true rfl) dX7_readText_26 ⟨Nat.zero_le _, Nat.zero_le _⟩ (fun r22 σ21 τ21 H locs h21 hP hS => ?_)
  obtain ⟨⟨rfl, rfl⟩, h21⟩ := h21
  have h23 := h21
  obtain ⟨q25, k24⟩ := h23
  have q25 := q25.symm
  subst q25
  refine lv_if_eq (tgt := 42) hx hb dX7_readText_29 (by decide) (fun _ => ?_) (fun c => absurd (by decide) c)
  refine lv_aload_n hx hb dX7_readText_42 rfl (lv_at hl 1 rfl) ?_
  refine jcallV (As := []) (rest := []) ⟨hx, hb, hml, hown, hts⟩ hK hP hA hS (c_X7_end_9 l D cI cL ad hJ σ15 τ15 m20) cw_RX7_57 (jc_9 cI cL ad σ15 τ15) rfl ⟨Nat.le_of_ble_eq_true rfl, Nat.le_of_ble_eq_true rfl⟩ rfl rfl rfl hl.1 rfl (Nat.le_of_ble_eq_true rfl) dX7_readText_43 ⟨Nat.zero_le _, Nat.zero_le _⟩ (fun r27 σ26 τ26 H locs h26 hP hS => ?_)
  obtain ⟨f28, m29, m30, h26⟩ := h26
  have h31 := h26
  obtain ⟨q33, k32⟩ := h31
  have q33 := q33.symm
  subst q33
  refine lv_istore_n (lv' := [(2, .int 0), (0, .ref (ad 9)), (1, .ref (ad 18))]) hx hb dX7_readText_46 rfl hl (by decide) rfl (fun ls hl => ?_)
  refine lv_iload_n hx hb dX7_readText_47 rfl (lv_at hl 0 rfl) ?_
  refine lv_iconst (v := (-1)) hx hb dX7_readText_48 (by decide) ?_
  refine lv_icmp_ne (tgt := 60) hx hb dX7_readText_49 (by decide) (fun _ => ?_) (fun c => absurd c (by decide))
  refine lv_iload_n hx hb dX7_readText_60 rfl (lv_at hl 0 rfl) ?_
  exact hret 0 σ26 τ26 _ _ _ _ rfl ⟨(fun i hi => by rw [f28 i (by omega), f17 i (by omega), f9 i (by omega), f3 i (by omega)]), ⟨rfl, trivial⟩⟩ hP hS dX7_readText_61
set_option maxHeartbeats 4000000 in
set_option maxRecDepth 100000 in
theorem c_X7_readText_22 (l : Launch) (D : va_G) (cI cL : ClassId) (ad : Nat → Nat) (hJ : jD ad) (σ : Nat → Nat → Int32) (τ : Nat → Nat → Int64) (h9_0 : σ 9 0 = 0) : jM l yX7_readText cX7_readText 3 (some .int) ({ frames := 9, cells := 0, slots := 0, locals := 208 }) D cI cL ad [.ref (ad 9), .ref (ad 22)] σ τ (fun r σ' τ' => (∀ i : Nat, (i < 9 ∨ 15 < i) → σ' i = σ i) ∧ ((r = 0 ∧ True))) := by
  refine jM.of hJ (by decide +kernel) (nt := .int) rfl (Nat.le_of_ble_eq_true rfl) ?_
  intro p e s m args below meth c Q ls hC hret hl hP
  obtain ⟨hx, hb, hr, hml, hown, hts, hK, -, hlocks⟩ := hC
  have hown : s.vm.findClass RX7 = some m.cls := hown
  have hS : va_S (jA ad) s.heap s.heap [] := va_S.rf
  have hA : ∀ q, jA ad q → jA ad q := fun _ h => h
  have hl : lv_has ls 3 [(0, .ref (ad 9)), (1, .ref (ad 22))] := hl
  refine lv_aload_n hx hb dX7_readText_0 rfl (lv_at hl 0 rfl) ?_
  refine jcallVv (As := []) (rest := []) ⟨hx, hb, hml, hown, hts⟩ hK hP hA hS (c_X7_begin_9 l D cI cL ad hJ σ τ h9_0) cw_RX7_47 (jc_9 cI cL ad σ τ) rfl ⟨Nat.le_of_ble_eq_true rfl, Nat.le_of_ble_eq_true rfl⟩ rfl rfl rfl hl.1 rfl (Nat.le_of_ble_eq_true rfl) dX7_readText_1 ⟨Nat.zero_le _, Nat.zero_le _⟩ (fun σ1 τ1 H locs h1 hP hS => ?_)
  obtain ⟨f3, m4, m5, m6, h1⟩ := h1
  refine lv_aload_n hx hb dX7_readText_4 rfl (lv_at hl 0 rfl) ?_
  refine va_get (D := D) hx hb hts inlX7 hown hK hP 9 (jc_9 cI cL ad σ1 τ1) rfl 5 (by decide) (hts _ kw_3_23) (fun _ h9 => h9) rfl dX7_readText_5 ?_
  refine jcallVv (As := []) (rest := []) ⟨hx, hb, hml, hown, hts⟩ hK hP hA hS (c_X10_begin_12 l D cI cL ad hJ σ1 τ1) cw_RX7_74 (jc_12 cI cL ad σ1 τ1) rfl ⟨Nat.le_of_ble_eq_true rfl, Nat.le_of_ble_eq_true rfl⟩ rfl rfl rfl hl.1 rfl (Nat.le_of_ble_eq_true rfl) dX7_readText_8 ⟨Nat.zero_le _, Nat.zero_le _⟩ (fun σ7 τ7 H locs h7 hP hS => ?_)
  obtain ⟨f9, m10, m11, h7⟩ := h7
  refine lv_aload_n hx hb dX7_readText_11 rfl (lv_at hl 0 rfl) ?_
  have m12 : σ7 9 0 = 0 := (by rw [f9 9 (by omega)]; exact m4)
  have m13 : σ7 9 1 = 0 := (by rw [f9 9 (by omega)]; exact m5)
  have m14 : σ7 9 2 = (-1) := (by rw [f9 9 (by omega)]; exact m6)
  refine jcallVv (As := []) (rest := []) ⟨hx, hb, hml, hown, hts⟩ hK hP hA hS (c_X7_readLine_9 l D cI cL ad hJ σ7 τ7 m12 m13 m14 m10) cw_RX7_75 (jc_9 cI cL ad σ7 τ7) rfl ⟨Nat.le_of_ble_eq_true rfl, Nat.le_of_ble_eq_true rfl⟩ rfl rfl rfl hl.1 rfl (Nat.le_of_ble_eq_true rfl) dX7_readText_12 ⟨Nat.zero_le _, Nat.zero_le _⟩ (fun σ15 τ15 H locs h15 hP hS => ?_)
  obtain ⟨f17, m18, m19, m20, h15⟩ := h15
  refine lv_iconst (v := 0) hx hb dX7_readText_15 (by decide) ?_
  refine lv_istore_n (lv' := [(2, .int 0), (0, .ref (ad 9)), (1, .ref (ad 22))]) hx hb dX7_readText_16 rfl hl (by decide) rfl (fun ls hl => ?_)
  refine lv_iload_n hx hb dX7_readText_17 rfl (lv_at hl 0 rfl) ?_
  refine lv_bipush (v := 80) hx hb dX7_readText_18 (by decide) ?_
  refine lv_icmp_ge (tgt := 42) hx hb dX7_readText_20 (by decide) (fun c => absurd c (by decide)) (fun _ => ?_)
  refine lv_aload_n hx hb dX7_readText_23 rfl (lv_at hl 1 rfl) ?_
  refine lv_bipush (v := 59) hx hb dX7_readText_24 (by decide) ?_
  refine jcallV (As := [.int 59]) (rest := []) ⟨hx, hb, hml, hown, hts⟩ hK hP hA hS (c_X7_skip_9 l D cI cL ad hJ σ15 τ15 59 (59) jz_59 m20) cw_RX7_50 (jc_9 cI cL ad σ15 τ15) rfl ⟨Nat.le_of_ble_eq_true rfl, Nat.le_of_ble_eq_true rfl⟩ rfl rfl rfl hl.1 rfl (Nat.le_of_ble_eq_true rfl) dX7_readText_26 ⟨Nat.zero_le _, Nat.zero_le _⟩ (fun r22 σ21 τ21 H locs h21 hP hS => ?_)
  obtain ⟨⟨rfl, rfl⟩, h21⟩ := h21
  have h23 := h21
  obtain ⟨q25, k24⟩ := h23
  have q25 := q25.symm
  subst q25
  refine lv_if_eq (tgt := 42) hx hb dX7_readText_29 (by decide) (fun _ => ?_) (fun c => absurd (by decide) c)
  refine lv_aload_n hx hb dX7_readText_42 rfl (lv_at hl 1 rfl) ?_
  refine jcallV (As := []) (rest := []) ⟨hx, hb, hml, hown, hts⟩ hK hP hA hS (c_X7_end_9 l D cI cL ad hJ σ15 τ15 m20) cw_RX7_57 (jc_9 cI cL ad σ15 τ15) rfl ⟨Nat.le_of_ble_eq_true rfl, Nat.le_of_ble_eq_true rfl⟩ rfl rfl rfl hl.1 rfl (Nat.le_of_ble_eq_true rfl) dX7_readText_43 ⟨Nat.zero_le _, Nat.zero_le _⟩ (fun r27 σ26 τ26 H locs h26 hP hS => ?_)
  obtain ⟨f28, m29, m30, h26⟩ := h26
  have h31 := h26
  obtain ⟨q33, k32⟩ := h31
  have q33 := q33.symm
  subst q33
  refine lv_istore_n (lv' := [(2, .int 0), (0, .ref (ad 9)), (1, .ref (ad 22))]) hx hb dX7_readText_46 rfl hl (by decide) rfl (fun ls hl => ?_)
  refine lv_iload_n hx hb dX7_readText_47 rfl (lv_at hl 0 rfl) ?_
  refine lv_iconst (v := (-1)) hx hb dX7_readText_48 (by decide) ?_
  refine lv_icmp_ne (tgt := 60) hx hb dX7_readText_49 (by decide) (fun _ => ?_) (fun c => absurd c (by decide))
  refine lv_iload_n hx hb dX7_readText_60 rfl (lv_at hl 0 rfl) ?_
  exact hret 0 σ26 τ26 _ _ _ _ rfl ⟨(fun i hi => by rw [f28 i (by omega), f17 i (by omega), f9 i (by omega), f3 i (by omega)]), ⟨rfl, trivial⟩⟩ hP hS dX7_readText_61
set_option maxHeartbeats 4000000 in
set_option maxRecDepth 100000 in
theorem c_X11_text (l : Launch) (D : va_G) (cI cL : ClassId) (ad : Nat → Nat) (hJ : jD ad) (σ : Nat → Nat → Int32) (τ : Nat → Nat → Int64) (a1 : Int32) (A1 : Int) (t1 : a1.toInt = A1) (h9_0 : σ 9 0 = 0) : jM l yX11_text cX11_text 3 (some .int) ({ frames := 10, cells := 0, slots := 0, locals := 230 }) D cI cL ad [.ref (ad 0), .int a1] σ τ (fun r σ' τ' => (∀ i : Nat, (i < 0 ∨ 54 < i) → σ' i = σ i) ∧ r = (if 0 ≤ A1 ∧ A1 ≤ 1 then -100 else -1)) := by
  refine jM.of hJ (by decide +kernel) (nt := .int) rfl (Nat.le_of_ble_eq_true rfl) ?_
  intro p e s m args below meth c Q ls hC hret hl hP
  obtain ⟨hx, hb, hr, hml, hown, hts, hK, -, hlocks⟩ := hC
  have hown : s.vm.findClass RX11 = some m.cls := hown
  have hS : va_S (jA ad) s.heap s.heap [] := va_S.rf
  have hA : ∀ q, jA ad q → jA ad q := fun _ h => h
  have hl : lv_has ls 3 [(0, .ref (ad 0)), (1, .int a1)] := hl
  have g1 := jrg t1
  refine lv_iload_n hx hb dX11_text_0 rfl (lv_at hl 1 rfl) ?_
  refine lv_iconst (v := 0) hx hb dX11_text_1 (by decide) ?_
  refine lv_iconst (v := 1) hx hb dX11_text_2 (by decide) ?_
  refine jcallS (As := [.int a1, .int 0, .int 1]) (rest := []) ⟨hx, hb, hml, hown, hts⟩ hK hP hA hS (c_X11_outside l D cI cL ad hJ σ τ a1 (A1) t1 0 (0) jz_0 1 (1) jz_1) cw_RX11_94 ⟨Nat.le_of_ble_eq_true rfl, Nat.le_of_ble_eq_true rfl⟩ rfl rfl rfl hl.1 rfl (Nat.le_of_ble_eq_true rfl) dX11_text_3 ⟨Nat.zero_le _, Nat.zero_le _⟩ (fun r2 σ1 τ1 H locs h1 hP hS => ?_)
  obtain ⟨⟨rfl, rfl⟩, h1⟩ := h1
  rcases h1 with h3 | h4
  · obtain ⟨q6, k5⟩ := h3
    have q6 := q6.symm
    subst q6
    refine lv_if_eq (tgt := 11) hx hb dX11_text_6 (by decide) (fun c => absurd c (by decide)) (fun _ => ?_)
    refine lv_iconst (v := (-1)) hx hb dX11_text_9 (by decide) ?_
    exact hret (-1) σ τ _ _ _ _ rfl ⟨(fun _ _ => rfl), (by (repeat' split) <;> first | rfl | omega | exact jsame jz_m1 t1 (by omega) | (exfalso; omega))⟩ hP hS dX11_text_10
  · obtain ⟨q8, k7⟩ := h4
    have q8 := q8.symm
    subst q8
    refine lv_if_eq (tgt := 11) hx hb dX11_text_6 (by decide) (fun _ => ?_) (fun c => absurd (by decide) c)
    refine lv_aload_n hx hb dX11_text_11 rfl (lv_at hl 0 rfl) ?_
    refine va_get (D := D) hx hb hts inlX11 hown hK hP 0 (jc_0 cI cL ad σ τ) rfl 1 (by decide) (hts _ kw_1_20) (fun _ h9 => h9) rfl dX11_text_12 ?_
    refine lv_iload_n hx hb dX11_text_15 rfl (lv_at hl 1 rfl) ?_
    refine lv_if_ne (tgt := 26) hx hb dX11_text_16 (by decide) (fun c9 => ?_) (fun c9 => ?_)
    · have kc9 := jne c9 t1 jz_0
      refine lv_aload_n hx hb dX11_text_26 rfl (lv_at hl 0 rfl) ?_
      refine va_get (D := D) hx hb hts inlX11 hown hK hP 0 (jc_0 cI cL ad σ τ) rfl 4 (by decide) (hts _ kw_2_5) (fun _ h9 => h9) rfl dX11_text_27 ?_
      refine jcallV (As := [.ref (ad 22)]) (rest := []) ⟨hx, hb, hml, hown, hts⟩ hK hP hA hS (c_X7_readText_22 l D cI cL ad hJ σ τ h9_0) cw_RX11_136 (jc_9 cI cL ad σ τ) rfl ⟨Nat.le_of_ble_eq_true rfl, Nat.le_of_ble_eq_true rfl⟩ rfl rfl rfl hl.1 rfl (Nat.le_of_ble_eq_true rfl) dX11_text_30 ⟨Nat.zero_le _, Nat.zero_le _⟩ (fun r11 σ10 τ10 H locs h10 hP hS => ?_)
      obtain ⟨f12, h10⟩ := h10
      have h13 := h10
      obtain ⟨q15, k14⟩ := h13
      have q15 := q15.symm
      subst q15
      refine lv_istore_n (lv' := [(2, .int 0), (0, .ref (ad 0)), (1, .int a1)]) hx hb dX11_text_33 rfl hl (by decide) rfl (fun ls hl => ?_)
      refine lv_iload_n hx hb dX11_text_34 rfl (lv_at hl 0 rfl) ?_
      refine lv_if_lt (tgt := 43) hx hb dX11_text_35 (by decide) (fun c => absurd c (by decide)) (fun _ => ?_)
      refine lv_bipush (v := (-100)) hx hb dX11_text_38 (by decide) ?_
      refine lv_iload_n hx hb dX11_text_40 rfl (lv_at hl 0 rfl) ?_
      refine lv_isub hx hb dX11_text_41 ?_
      refine jtopr (y := (-100)) (by decide) ?_
      exact hret (-100) σ10 τ10 _ _ _ _ rfl ⟨(fun i hi => by rw [f12 i (by omega)]), (by (repeat' split) <;> first | rfl | omega | exact jsame jz_m100 t1 (by omega) | (exfalso; omega))⟩ hP hS dX11_text_42
    · have kc9 := jeq c9 t1 jz_0
      refine lv_aload_n hx hb dX11_text_19 rfl (lv_at hl 0 rfl) ?_
      refine va_get (D := D) hx hb hts inlX11 hown hK hP 0 (jc_0 cI cL ad σ τ) rfl 3 (by decide) (hts _ kw_2_4) (fun _ h9 => h9) rfl dX11_text_20 ?_
      refine lv_goto (tgt := 30) hx hb dX11_text_23 (by decide) ?_
      refine jcallV (As := [.ref (ad 18)]) (rest := []) ⟨hx, hb, hml, hown, hts⟩ hK hP hA hS (c_X7_readText_18 l D cI cL ad hJ σ τ h9_0) cw_RX11_136 (jc_9 cI cL ad σ τ) rfl ⟨Nat.le_of_ble_eq_true rfl, Nat.le_of_ble_eq_true rfl⟩ rfl rfl rfl hl.1 rfl (Nat.le_of_ble_eq_true rfl) dX11_text_30 ⟨Nat.zero_le _, Nat.zero_le _⟩ (fun r17 σ16 τ16 H locs h16 hP hS => ?_)
      obtain ⟨f18, h16⟩ := h16
      have h19 := h16
      obtain ⟨q21, k20⟩ := h19
      have q21 := q21.symm
      subst q21
      refine lv_istore_n (lv' := [(2, .int 0), (0, .ref (ad 0)), (1, .int a1)]) hx hb dX11_text_33 rfl hl (by decide) rfl (fun ls hl => ?_)
      refine lv_iload_n hx hb dX11_text_34 rfl (lv_at hl 0 rfl) ?_
      refine lv_if_lt (tgt := 43) hx hb dX11_text_35 (by decide) (fun c => absurd c (by decide)) (fun _ => ?_)
      refine lv_bipush (v := (-100)) hx hb dX11_text_38 (by decide) ?_
      refine lv_iload_n hx hb dX11_text_40 rfl (lv_at hl 0 rfl) ?_
      refine lv_isub hx hb dX11_text_41 ?_
      refine jtopr (y := (-100)) (by decide) ?_
      exact hret (-100) σ16 τ16 _ _ _ _ rfl ⟨(fun i hi => by rw [f18 i (by omega)]), (by (repeat' split) <;> first | rfl | omega | exact jsame jz_m100 t1 (by omega) | (exfalso; omega))⟩ hP hS dX11_text_42
set_option maxHeartbeats 4000000 in
set_option maxRecDepth 100000 in
theorem c_X6_sortAt_16 (l : Launch) (D : va_G) (cI cL : ClassId) (ad : Nat → Nat) (hJ : jD ad) (σ : Nat → Nat → Int32) (τ : Nat → Nat → Int64) (a1 : Int32) (A1 : Int) (t1 : a1.toInt = A1) (ha17 : ∀ k : Nat, σ 17 k = 0) : jM l yX6_sortAt cX6_sortAt 2 (some .int) ({ frames := 0, cells := 0, slots := 0, locals := 0 }) D cI cL ad [.ref (ad 16), .int a1] σ τ (fun r σ' τ' => (σ = σ' ∧ τ = τ') ∧ ((r = 0 ∧ True))) := by
  refine jM.of hJ (by decide +kernel) (nt := .int) rfl (Nat.le_of_ble_eq_true rfl) ?_
  intro p e s m args below meth c Q ls hC hret hl hP
  obtain ⟨hx, hb, hr, hml, hown, hts, hK, -, hlocks⟩ := hC
  have hown : s.vm.findClass RX6 = some m.cls := hown
  have hS : va_S (jA ad) s.heap s.heap [] := va_S.rf
  have hA : ∀ q, jA ad q → jA ad q := fun _ h => h
  have hl : lv_has ls 2 [(0, .ref (ad 16)), (1, .int a1)] := hl
  have g1 := jrg t1
  refine lv_iload_n hx hb dX6_sortAt_0 rfl (lv_at hl 1 rfl) ?_
  refine lv_if_lt (tgt := 10) hx hb dX6_sortAt_1 (by decide) (fun c1 => ?_) (fun c1 => ?_)
  · have kc1 := jlt c1 t1 jz_0
    refine lv_iconst (v := 0) hx hb dX6_sortAt_10 (by decide) ?_
    refine lv_goto (tgt := 20) hx hb dX6_sortAt_11 (by decide) ?_
    exact hret 0 σ τ _ _ _ _ rfl ⟨⟨rfl, rfl⟩, ⟨rfl, trivial⟩⟩ hP hS dX6_sortAt_20
  · have kc1 := jnlt c1 t1 jz_0
    refine lv_iload_n hx hb dX6_sortAt_4 rfl (lv_at hl 1 rfl) ?_
    refine lv_bipush (v := 8) hx hb dX6_sortAt_5 (by decide) ?_
    refine lv_icmp_lt (tgt := 14) hx hb dX6_sortAt_7 (by decide) (fun c2 => ?_) (fun c2 => ?_)
    · have kc2 := jlt c2 t1 jz_8
      refine lv_aload_n hx hb dX6_sortAt_14 rfl (lv_at hl 0 rfl) ?_
      refine va_get (D := D) hx hb hts inlX6 hown hK hP 16 (jc_16 cI cL ad σ τ) rfl 3 (by decide) (hts _ kw_4_11) (fun _ h9 => h9) rfl dX6_sortAt_15 ?_
      refine lv_iload_n hx hb dX6_sortAt_18 rfl (lv_at hl 1 rfl) ?_
      refine jald hx hb hK hP (jc_17 cI cL ad σ τ) (jin t1 (by omega) (by omega)) dX6_sortAt_19 ?_
      refine jtopr (ha17 _) ?_
      exact hret 0 σ τ _ _ _ _ rfl ⟨⟨rfl, rfl⟩, ⟨rfl, trivial⟩⟩ hP hS dX6_sortAt_20
    · have kc2 := jnlt c2 t1 jz_8
      refine lv_iconst (v := 0) hx hb dX6_sortAt_10 (by decide) ?_
      refine lv_goto (tgt := 20) hx hb dX6_sortAt_11 (by decide) ?_
      exact hret 0 σ τ _ _ _ _ rfl ⟨⟨rfl, rfl⟩, ⟨rfl, trivial⟩⟩ hP hS dX6_sortAt_20
set_option maxHeartbeats 4000000 in
set_option maxRecDepth 100000 in
theorem c_X11_of (l : Launch) (D : va_G) (cI cL : ClassId) (ad : Nat → Nat) (hJ : jD ad) (σ : Nat → Nat → Int32) (τ : Nat → Nat → Int64) (a1 : Int32) (A1 : Int) (t1 : a1.toInt = A1) (h16_0 : σ 16 0 = 1) (h16_1 : σ 16 1 = 8) (h16_2 : σ 16 2 = 0) (ha17 : ∀ k : Nat, σ 17 k = 0) : jM l yX11_of cX11_of 2 (some .int) ({ frames := 1, cells := 0, slots := 0, locals := 21 }) D cI cL ad [.ref (ad 0), .int a1] σ τ (fun r σ' τ' => (∀ i : Nat, (i < 0 ∨ 54 < i) → σ' i = σ i) ∧ r = (if A1 = 0 then 1 else if A1 = 1 then 8 else if A1 = 2 then 0 else if A1 = 10 then 0 else -1)) := by
  refine jM.of hJ (by decide +kernel) (nt := .int) rfl (Nat.le_of_ble_eq_true rfl) ?_
  intro p e s m args below meth c Q ls hC hret hl hP
  obtain ⟨hx, hb, hr, hml, hown, hts, hK, -, hlocks⟩ := hC
  have hown : s.vm.findClass RX11 = some m.cls := hown
  have hS : va_S (jA ad) s.heap s.heap [] := va_S.rf
  have hA : ∀ q, jA ad q → jA ad q := fun _ h => h
  have hl : lv_has ls 2 [(0, .ref (ad 0)), (1, .int a1)] := hl
  have g1 := jrg t1
  refine lv_iload_n hx hb dX11_of_0 rfl (lv_at hl 1 rfl) ?_
  refine lv_if_ne (tgt := 12) hx hb dX11_of_1 (by decide) (fun c1 => ?_) (fun c1 => ?_)
  · have kc1 := jne c1 t1 jz_0
    refine lv_iload_n hx hb dX11_of_12 rfl (lv_at hl 1 rfl) ?_
    refine lv_iconst (v := 1) hx hb dX11_of_13 (by decide) ?_
    refine lv_icmp_ne (tgt := 25) hx hb dX11_of_14 (by decide) (fun c2 => ?_) (fun c2 => ?_)
    · have kc2 := jne c2 t1 jz_1
      refine lv_iload_n hx hb dX11_of_25 rfl (lv_at hl 1 rfl) ?_
      refine lv_iconst (v := 2) hx hb dX11_of_26 (by decide) ?_
      refine lv_icmp_ne (tgt := 38) hx hb dX11_of_27 (by decide) (fun c3 => ?_) (fun c3 => ?_)
      · have kc3 := jne c3 t1 jz_2
        refine lv_iload_n hx hb dX11_of_38 rfl (lv_at hl 1 rfl) ?_
        refine lv_bipush (v := 10) hx hb dX11_of_39 (by decide) ?_
        refine lv_icmp_lt (tgt := 58) hx hb dX11_of_41 (by decide) (fun c4 => ?_) (fun c4 => ?_)
        · have kc4 := jlt c4 t1 jz_10
          refine lv_iconst (v := (-1)) hx hb dX11_of_58 (by decide) ?_
          exact hret (-1) σ τ _ _ _ _ rfl ⟨(fun _ _ => rfl), (by (repeat' split) <;> first | rfl | omega | exact jsame jz_m1 t1 (by omega) | (exfalso; omega))⟩ hP hS dX11_of_59
        · have kc4 := jnlt c4 t1 jz_10
          refine lv_iload_n hx hb dX11_of_44 rfl (lv_at hl 1 rfl) ?_
          refine lv_bipush (v := 10) hx hb dX11_of_45 (by decide) ?_
          refine lv_isub hx hb dX11_of_47 ?_
          refine lv_topi (fun x5 ex5 => ?_)
          have tx5 : x5.toInt = A1 - 10 := (jsub ex5 t1 jz_10 (by omega) (by omega)).trans (by omega)
          refine lv_aload_n hx hb dX11_of_48 rfl (lv_at hl 0 rfl) ?_
          refine va_get (D := D) hx hb hts inlX11 hown hK hP 0 (jc_0 cI cL ad σ τ) rfl 2 (by decide) (hts _ kw_2_0) (fun _ h9 => h9) rfl dX11_of_49 ?_
          refine va_get (D := D) hx hb hts inlX6 hown hK hP 16 (jc_16 cI cL ad σ τ) rfl 0 (by decide) (hts _ kw_13_12) (fun _ h9 => h9) rfl dX11_of_52 ?_
          refine jtopr h16_0 ?_
          refine lv_icmp_lt (tgt := 60) hx hb dX11_of_55 (by decide) (fun c6 => ?_) (fun c6 => ?_)
          · have kc6 := jlt c6 tx5 jz_1
            refine lv_aload_n hx hb dX11_of_60 rfl (lv_at hl 0 rfl) ?_
            refine va_get (D := D) hx hb hts inlX11 hown hK hP 0 (jc_0 cI cL ad σ τ) rfl 2 (by decide) (hts _ kw_2_0) (fun _ h9 => h9) rfl dX11_of_61 ?_
            refine lv_iload_n hx hb dX11_of_64 rfl (lv_at hl 1 rfl) ?_
            refine lv_bipush (v := 10) hx hb dX11_of_65 (by decide) ?_
            refine lv_isub hx hb dX11_of_67 ?_
            refine lv_topi (fun x7 ex7 => ?_)
            have tx7 : x7.toInt = A1 - 10 := (jsub ex7 t1 jz_10 (by omega) (by omega)).trans (by omega)
            refine jcallV (As := [.int x7]) (rest := []) ⟨hx, hb, hml, hown, hts⟩ hK hP hA hS (c_X6_sortAt_16 l D cI cL ad hJ σ τ x7 (A1 - 10) tx7 ha17) cw_RX11_149 (jc_16 cI cL ad σ τ) rfl ⟨Nat.le_of_ble_eq_true rfl, Nat.le_of_ble_eq_true rfl⟩ rfl rfl rfl hl.1 rfl (Nat.le_of_ble_eq_true rfl) dX11_of_68 ⟨Nat.zero_le _, Nat.zero_le _⟩ (fun r9 σ8 τ8 H locs h8 hP hS => ?_)
            obtain ⟨⟨rfl, rfl⟩, h8⟩ := h8
            have h10 := h8
            obtain ⟨q12, k11⟩ := h10
            have q12 := q12.symm
            subst q12
            exact hret 0 σ τ _ _ _ _ rfl ⟨(fun _ _ => rfl), (by (repeat' split) <;> first | rfl | omega | exact jsame jz_0 t1 (by omega) | (exfalso; omega))⟩ hP hS dX11_of_71
          · have kc6 := jnlt c6 tx5 jz_1
            refine lv_iconst (v := (-1)) hx hb dX11_of_58 (by decide) ?_
            exact hret (-1) σ τ _ _ _ _ rfl ⟨(fun _ _ => rfl), (by (repeat' split) <;> first | rfl | omega | exact jsame jz_m1 t1 (by omega) | (exfalso; omega))⟩ hP hS dX11_of_59
      · have kc3 := jeq c3 t1 jz_2
        refine lv_aload_n hx hb dX11_of_30 rfl (lv_at hl 0 rfl) ?_
        refine va_get (D := D) hx hb hts inlX11 hown hK hP 0 (jc_0 cI cL ad σ τ) rfl 2 (by decide) (hts _ kw_2_0) (fun _ h9 => h9) rfl dX11_of_31 ?_
        refine va_get (D := D) hx hb hts inlX6 hown hK hP 16 (jc_16 cI cL ad σ τ) rfl 2 (by decide) (hts _ kw_20_6) (fun _ h9 => h9) rfl dX11_of_34 ?_
        refine jtopr h16_2 ?_
        exact hret 0 σ τ _ _ _ _ rfl ⟨(fun _ _ => rfl), (by (repeat' split) <;> first | rfl | omega | exact jsame jz_0 t1 (by omega) | (exfalso; omega))⟩ hP hS dX11_of_37
    · have kc2 := jeq c2 t1 jz_1
      refine lv_aload_n hx hb dX11_of_17 rfl (lv_at hl 0 rfl) ?_
      refine va_get (D := D) hx hb hts inlX11 hown hK hP 0 (jc_0 cI cL ad σ τ) rfl 2 (by decide) (hts _ kw_2_0) (fun _ h9 => h9) rfl dX11_of_18 ?_
      refine va_get (D := D) hx hb hts inlX6 hown hK hP 16 (jc_16 cI cL ad σ τ) rfl 1 (by decide) (hts _ kw_20_5) (fun _ h9 => h9) rfl dX11_of_21 ?_
      refine jtopr h16_1 ?_
      exact hret 8 σ τ _ _ _ _ rfl ⟨(fun _ _ => rfl), (by (repeat' split) <;> first | rfl | omega | exact jsame jz_8 t1 (by omega) | (exfalso; omega))⟩ hP hS dX11_of_24
  · have kc1 := jeq c1 t1 jz_0
    refine lv_aload_n hx hb dX11_of_4 rfl (lv_at hl 0 rfl) ?_
    refine va_get (D := D) hx hb hts inlX11 hown hK hP 0 (jc_0 cI cL ad σ τ) rfl 2 (by decide) (hts _ kw_2_0) (fun _ h9 => h9) rfl dX11_of_5 ?_
    refine va_get (D := D) hx hb hts inlX6 hown hK hP 16 (jc_16 cI cL ad σ τ) rfl 0 (by decide) (hts _ kw_13_12) (fun _ h9 => h9) rfl dX11_of_8 ?_
    refine jtopr h16_0 ?_
    exact hret 1 σ τ _ _ _ _ rfl ⟨(fun _ _ => rfl), (by (repeat' split) <;> first | rfl | omega | exact jsame jz_1 t1 (by omega) | (exfalso; omega))⟩ hP hS dX11_of_11
set_option maxHeartbeats 4000000 in
set_option maxRecDepth 100000 in
theorem c_X11_over (l : Launch) (D : va_G) (cI cL : ClassId) (ad : Nat → Nat) (hJ : jD ad) (σ : Nat → Nat → Int32) (τ : Nat → Nat → Int64) (a1 : Int32) (A1 : Int) (t1 : a1.toInt = A1) (a2 : Int32) (A2 : Int) (t2 : a2.toInt = A2) (a3 : Int32) (A3 : Int) (t3 : a3.toInt = A3) (h2_0 : σ 2 0 = 0) : jM l yX11_over cX11_over 7 (some .int) ({ frames := 2, cells := 0, slots := 0, locals := 43 }) D cI cL ad [.ref (ad 0), .int a1, .int a2, .int a3] σ τ (fun r σ' τ' => (∀ i : Nat, (i < 0 ∨ 54 < i) → σ' i = σ i) ∧ r = (-1)) := by
  refine jM.of hJ (by decide +kernel) (nt := .int) rfl (Nat.le_of_ble_eq_true rfl) ?_
  intro p e s m args below meth c Q ls hC hret hl hP
  obtain ⟨hx, hb, hr, hml, hown, hts, hK, -, hlocks⟩ := hC
  have hown : s.vm.findClass RX11 = some m.cls := hown
  have hS : va_S (jA ad) s.heap s.heap [] := va_S.rf
  have hA : ∀ q, jA ad q → jA ad q := fun _ h => h
  have hl : lv_has ls 7 [(0, .ref (ad 0)), (1, .int a1), (2, .int a2), (3, .int a3)] := hl
  have g1 := jrg t1
  have g2 := jrg t2
  have g3 := jrg t3
  refine lv_iload_n hx hb dX11_over_0 rfl (lv_at hl 1 rfl) ?_
  refine lv_if_lt (tgt := 17) hx hb dX11_over_1 (by decide) (fun c1 => ?_) (fun c1 => ?_)
  · have kc1 := jlt c1 t1 jz_0
    refine lv_iconst (v := (-1)) hx hb dX11_over_17 (by decide) ?_
    exact hret (-1) σ τ _ _ _ _ rfl ⟨(fun _ _ => rfl), (by (repeat' split) <;> first | rfl | omega | exact jsame jz_m1 t1 (by omega) | exact jsame jz_m1 t2 (by omega) | exact jsame jz_m1 t3 (by omega) | (exfalso; omega))⟩ hP hS dX11_over_18
  · have kc1 := jnlt c1 t1 jz_0
    refine lv_iload_n hx hb dX11_over_4 rfl (lv_at hl 2 rfl) ?_
    refine lv_if_lt (tgt := 17) hx hb dX11_over_5 (by decide) (fun c2 => ?_) (fun c2 => ?_)
    · have kc2 := jlt c2 t2 jz_0
      refine lv_iconst (v := (-1)) hx hb dX11_over_17 (by decide) ?_
      exact hret (-1) σ τ _ _ _ _ rfl ⟨(fun _ _ => rfl), (by (repeat' split) <;> first | rfl | omega | exact jsame jz_m1 t1 (by omega) | exact jsame jz_m1 t2 (by omega) | exact jsame jz_m1 t3 (by omega) | (exfalso; omega))⟩ hP hS dX11_over_18
    · have kc2 := jnlt c2 t2 jz_0
      refine lv_iload_n hx hb dX11_over_8 rfl (lv_at hl 3 rfl) ?_
      refine lv_iconst (v := 0) hx hb dX11_over_9 (by decide) ?_
      refine lv_iconst (v := 1) hx hb dX11_over_10 (by decide) ?_
      refine jcallS (As := [.int a3, .int 0, .int 1]) (rest := []) ⟨hx, hb, hml, hown, hts⟩ hK hP hA hS (c_X11_outside l D cI cL ad hJ σ τ a3 (A3) t3 0 (0) jz_0 1 (1) jz_1) cw_RX11_94 ⟨Nat.le_of_ble_eq_true rfl, Nat.le_of_ble_eq_true rfl⟩ rfl rfl rfl hl.1 rfl (Nat.le_of_ble_eq_true rfl) dX11_over_11 ⟨Nat.zero_le _, Nat.zero_le _⟩ (fun r4 σ3 τ3 H locs h3 hP hS => ?_)
      obtain ⟨⟨rfl, rfl⟩, h3⟩ := h3
      rcases h3 with h5 | h6
      · obtain ⟨q8, k7⟩ := h5
        have q8 := q8.symm
        subst q8
        refine lv_if_eq (tgt := 19) hx hb dX11_over_14 (by decide) (fun c => absurd c (by decide)) (fun _ => ?_)
        refine lv_iconst (v := (-1)) hx hb dX11_over_17 (by decide) ?_
        exact hret (-1) σ τ _ _ _ _ rfl ⟨(fun _ _ => rfl), (by (repeat' split) <;> first | rfl | omega | exact jsame jz_m1 t1 (by omega) | exact jsame jz_m1 t2 (by omega) | exact jsame jz_m1 t3 (by omega) | (exfalso; omega))⟩ hP hS dX11_over_18
      · obtain ⟨q10, k9⟩ := h6
        have q10 := q10.symm
        subst q10
        refine lv_if_eq (tgt := 19) hx hb dX11_over_14 (by decide) (fun _ => ?_) (fun c => absurd (by decide) c)
        refine lv_iload_n hx hb dX11_over_19 rfl (lv_at hl 1 rfl) ?_
        refine lv_bipush (v := 100) hx hb dX11_over_20 (by decide) ?_
        refine lv_idiv hx hb dX11_over_22 (by decide) ?_
        refine lv_topi (fun x11 ex11 => ?_)
        have tx11 : x11.toInt = (A1 / 100) := jdiv ex11 t1 jz_100 (by omega) (by omega)
        refine lv_istore (lv' := [(4, .int x11), (0, .ref (ad 0)), (1, .int a1), (2, .int a2), (3, .int a3)]) hx hb dX11_over_23 hl (by decide) rfl (fun ls hl => ?_)
        refine lv_iload_n hx hb dX11_over_25 rfl (lv_at hl 2 rfl) ?_
        refine lv_bipush (v := 10) hx hb dX11_over_26 (by decide) ?_
        refine lv_idiv hx hb dX11_over_28 (by decide) ?_
        refine lv_topi (fun x12 ex12 => ?_)
        have tx12 : x12.toInt = (A1 / 10) := jdiv ex12 t1 jz_10 (by omega) (by omega)
        refine lv_bipush (v := 10) hx hb dX11_over_29 (by decide) ?_
        refine lv_irem hx hb dX11_over_31 (by decide) ?_
        refine lv_topi (fun x13 ex13 => ?_)
        have tx13 : x13.toInt = (((A1 / 10)) % 10) := jrem ex13 tx12 jz_10 (by omega)
        refine lv_istore (lv' := [(5, .int x13), (4, .int x11), (0, .ref (ad 0)), (1, .int a1), (2, .int a2), (3, .int a3)]) hx hb dX11_over_32 hl (by decide) rfl (fun ls hl => ?_)
        refine lv_iload_n hx hb dX11_over_34 rfl (lv_at hl 3 rfl) ?_
        refine lv_bipush (v := 10) hx hb dX11_over_35 (by decide) ?_
        refine lv_irem hx hb dX11_over_37 (by decide) ?_
        refine lv_topi (fun x14 ex14 => ?_)
        have tx14 : x14.toInt = (A1 % 10) := jrem ex14 t1 jz_10 (by omega)
        refine lv_istore (lv' := [(6, .int x14), (5, .int x13), (4, .int x11), (0, .ref (ad 0)), (1, .int a1), (2, .int a2), (3, .int a3)]) hx hb dX11_over_38 hl (by decide) rfl (fun ls hl => ?_)
        refine lv_aload_n hx hb dX11_over_40 rfl (lv_at hl 3 rfl) ?_
        refine lv_iload hx hb dX11_over_41 (lv_at hl 2 rfl) ?_
        refine jcallV (As := [.int x11]) (rest := []) ⟨hx, hb, hml, hown, hts⟩ hK hP hA hS (c_X11_noBowler l D cI cL ad hJ σ τ x11 ((A1 / 100)) tx11 h2_0) cw_RX11_152 (jc_0 cI cL ad σ τ) rfl ⟨Nat.le_of_ble_eq_true rfl, Nat.le_of_ble_eq_true rfl⟩ rfl rfl rfl hl.1 rfl (Nat.le_of_ble_eq_true rfl) dX11_over_43 ⟨Nat.zero_le _, Nat.zero_le _⟩ (fun r16 σ15 τ15 H locs h15 hP hS => ?_)
        obtain ⟨⟨rfl, rfl⟩, h15⟩ := h15
        have h17 := h15
        obtain ⟨q19, k18⟩ := h17
        have q19 := q19.symm
        subst q19
        refine lv_if_ne (tgt := 61) hx hb dX11_over_46 (by decide) (fun _ => ?_) (fun c => absurd c (by decide))
        refine lv_iconst (v := (-1)) hx hb dX11_over_61 (by decide) ?_
        exact hret (-1) σ τ _ _ _ _ rfl ⟨(fun _ _ => rfl), (by (repeat' split) <;> first | rfl | omega | exact jsame jz_m1 t1 (by omega) | exact jsame jz_m1 t2 (by omega) | exact jsame jz_m1 t3 (by omega) | (exfalso; omega))⟩ hP hS dX11_over_62
set_option maxHeartbeats 4000000 in
set_option maxRecDepth 100000 in
theorem c_X11_puts (l : Launch) (D : va_G) (cI cL : ClassId) (ad : Nat → Nat) (hJ : jD ad) (σ : Nat → Nat → Int32) (τ : Nat → Nat → Int64) (a1 : Int32) (A1 : Int) (t1 : a1.toInt = A1) (h38_0 : σ 38 0 = 0) : jM l yX11_puts cX11_puts 6 (some .int) ({ frames := 2, cells := 0, slots := 0, locals := 43 }) D cI cL ad [.ref (ad 0), .int a1] σ τ (fun r σ' τ' => (∀ i : Nat, (i < 0 ∨ 54 < i) → σ' i = σ i) ∧ r = (-1)) := by
  refine jM.of hJ (by decide +kernel) (nt := .int) rfl (Nat.le_of_ble_eq_true rfl) ?_
  intro p e s m args below meth c Q ls hC hret hl hP
  obtain ⟨hx, hb, hr, hml, hown, hts, hK, -, hlocks⟩ := hC
  have hown : s.vm.findClass RX11 = some m.cls := hown
  have hS : va_S (jA ad) s.heap s.heap [] := va_S.rf
  have hA : ∀ q, jA ad q → jA ad q := fun _ h => h
  have hl : lv_has ls 6 [(0, .ref (ad 0)), (1, .int a1)] := hl
  have g1 := jrg t1
  refine lv_aload_n hx hb dX11_puts_0 rfl (lv_at hl 0 rfl) ?_
  refine lv_iload_n hx hb dX11_puts_1 rfl (lv_at hl 1 rfl) ?_
  refine jcallV (As := [.int a1]) (rest := []) ⟨hx, hb, hml, hown, hts⟩ hK hP hA hS (c_X11_noRule l D cI cL ad hJ σ τ a1 (A1) t1 h38_0) cw_RX11_177 (jc_0 cI cL ad σ τ) rfl ⟨Nat.le_of_ble_eq_true rfl, Nat.le_of_ble_eq_true rfl⟩ rfl rfl rfl hl.1 rfl (Nat.le_of_ble_eq_true rfl) dX11_puts_2 ⟨Nat.zero_le _, Nat.zero_le _⟩ (fun r2 σ1 τ1 H locs h1 hP hS => ?_)
  obtain ⟨⟨rfl, rfl⟩, h1⟩ := h1
  have h3 := h1
  obtain ⟨q5, k4⟩ := h3
  have q5 := q5.symm
  subst q5
  refine lv_if_eq (tgt := 10) hx hb dX11_puts_5 (by decide) (fun c => absurd c (by decide)) (fun _ => ?_)
  refine lv_iconst (v := (-1)) hx hb dX11_puts_8 (by decide) ?_
  exact hret (-1) σ τ _ _ _ _ rfl ⟨(fun _ _ => rfl), (by (repeat' split) <;> first | rfl | omega | exact jsame jz_m1 t1 (by omega) | (exfalso; omega))⟩ hP hS dX11_puts_9
set_option maxHeartbeats 4000000 in
set_option maxRecDepth 100000 in
theorem c_X11_mean (l : Launch) (D : va_G) (cI cL : ClassId) (ad : Nat → Nat) (hJ : jD ad) (σ : Nat → Nat → Int32) (τ : Nat → Nat → Int64) (a1 : Int32) (A1 : Int) (t1 : a1.toInt = A1) (h38_0 : σ 38 0 = 0) : jM l yX11_mean cX11_mean 2 (some .int) ({ frames := 2, cells := 0, slots := 0, locals := 43 }) D cI cL ad [.ref (ad 0), .int a1] σ τ (fun r σ' τ' => (∀ i : Nat, (i < 0 ∨ 54 < i) → σ' i = σ i) ∧ r = (-1)) := by
  refine jM.of hJ (by decide +kernel) (nt := .int) rfl (Nat.le_of_ble_eq_true rfl) ?_
  intro p e s m args below meth c Q ls hC hret hl hP
  obtain ⟨hx, hb, hr, hml, hown, hts, hK, -, hlocks⟩ := hC
  have hown : s.vm.findClass RX11 = some m.cls := hown
  have hS : va_S (jA ad) s.heap s.heap [] := va_S.rf
  have hA : ∀ q, jA ad q → jA ad q := fun _ h => h
  have hl : lv_has ls 2 [(0, .ref (ad 0)), (1, .int a1)] := hl
  have g1 := jrg t1
  refine lv_aload_n hx hb dX11_mean_0 rfl (lv_at hl 0 rfl) ?_
  refine lv_iload_n hx hb dX11_mean_1 rfl (lv_at hl 1 rfl) ?_
  refine jcallV (As := [.int a1]) (rest := []) ⟨hx, hb, hml, hown, hts⟩ hK hP hA hS (c_X11_noRule l D cI cL ad hJ σ τ a1 (A1) t1 h38_0) cw_RX11_177 (jc_0 cI cL ad σ τ) rfl ⟨Nat.le_of_ble_eq_true rfl, Nat.le_of_ble_eq_true rfl⟩ rfl rfl rfl hl.1 rfl (Nat.le_of_ble_eq_true rfl) dX11_mean_2 ⟨Nat.zero_le _, Nat.zero_le _⟩ (fun r2 σ1 τ1 H locs h1 hP hS => ?_)
  obtain ⟨⟨rfl, rfl⟩, h1⟩ := h1
  have h3 := h1
  obtain ⟨q5, k4⟩ := h3
  have q5 := q5.symm
  subst q5
  refine lv_if_eq (tgt := 10) hx hb dX11_mean_5 (by decide) (fun c => absurd c (by decide)) (fun _ => ?_)
  refine lv_iconst (v := (-1)) hx hb dX11_mean_8 (by decide) ?_
  exact hret (-1) σ τ _ _ _ _ rfl ⟨(fun _ _ => rfl), (by (repeat' split) <;> first | rfl | omega | exact jsame jz_m1 t1 (by omega) | (exfalso; omega))⟩ hP hS dX11_mean_9
set_option maxHeartbeats 4000000 in
set_option maxRecDepth 100000 in
theorem c_X11_game (l : Launch) (D : va_G) (cI cL : ClassId) (ad : Nat → Nat) (hJ : jD ad) (σ : Nat → Nat → Int32) (τ : Nat → Nat → Int64) (a1 : Int32) (A1 : Int) (t1 : a1.toInt = A1) (a2 : Int32) (A2 : Int) (t2 : a2.toInt = A2) (h38_0 : σ 38 0 = 0) : jM l yX11_game cX11_game 3 (some .int) ({ frames := 2, cells := 0, slots := 0, locals := 43 }) D cI cL ad [.ref (ad 0), .int a1, .int a2] σ τ (fun r σ' τ' => (∀ i : Nat, (i < 0 ∨ 54 < i) → σ' i = σ i) ∧ r = (-1)) := by
  refine jM.of hJ (by decide +kernel) (nt := .int) rfl (Nat.le_of_ble_eq_true rfl) ?_
  intro p e s m args below meth c Q ls hC hret hl hP
  obtain ⟨hx, hb, hr, hml, hown, hts, hK, -, hlocks⟩ := hC
  have hown : s.vm.findClass RX11 = some m.cls := hown
  have hS : va_S (jA ad) s.heap s.heap [] := va_S.rf
  have hA : ∀ q, jA ad q → jA ad q := fun _ h => h
  have hl : lv_has ls 3 [(0, .ref (ad 0)), (1, .int a1), (2, .int a2)] := hl
  have g1 := jrg t1
  have g2 := jrg t2
  refine lv_aload_n hx hb dX11_game_0 rfl (lv_at hl 0 rfl) ?_
  refine lv_iload_n hx hb dX11_game_1 rfl (lv_at hl 1 rfl) ?_
  refine jcallV (As := [.int a1]) (rest := []) ⟨hx, hb, hml, hown, hts⟩ hK hP hA hS (c_X11_noRule l D cI cL ad hJ σ τ a1 (A1) t1 h38_0) cw_RX11_177 (jc_0 cI cL ad σ τ) rfl ⟨Nat.le_of_ble_eq_true rfl, Nat.le_of_ble_eq_true rfl⟩ rfl rfl rfl hl.1 rfl (Nat.le_of_ble_eq_true rfl) dX11_game_2 ⟨Nat.zero_le _, Nat.zero_le _⟩ (fun r2 σ1 τ1 H locs h1 hP hS => ?_)
  obtain ⟨⟨rfl, rfl⟩, h1⟩ := h1
  have h3 := h1
  obtain ⟨q5, k4⟩ := h3
  have q5 := q5.symm
  subst q5
  refine lv_if_eq (tgt := 10) hx hb dX11_game_5 (by decide) (fun c => absurd c (by decide)) (fun _ => ?_)
  refine lv_iconst (v := (-1)) hx hb dX11_game_8 (by decide) ?_
  exact hret (-1) σ τ _ _ _ _ rfl ⟨(fun _ _ => rfl), (by (repeat' split) <;> first | rfl | omega | exact jsame jz_m1 t1 (by omega) | exact jsame jz_m1 t2 (by omega) | (exfalso; omega))⟩ hP hS dX11_game_9
set_option maxHeartbeats 4000000 in
set_option maxRecDepth 100000 in
theorem c_X11_likely (l : Launch) (D : va_G) (cI cL : ClassId) (ad : Nat → Nat) (hJ : jD ad) (σ : Nat → Nat → Int32) (τ : Nat → Nat → Int64) (a1 : Int32) (A1 : Int) (t1 : a1.toInt = A1) (a2 : Int32) (A2 : Int) (t2 : a2.toInt = A2) (h38_0 : σ 38 0 = 0) : jM l yX11_likely cX11_likely 3 (some .int) ({ frames := 2, cells := 0, slots := 0, locals := 43 }) D cI cL ad [.ref (ad 0), .int a1, .int a2] σ τ (fun r σ' τ' => (∀ i : Nat, (i < 0 ∨ 54 < i) → σ' i = σ i) ∧ r = (-1)) := by
  refine jM.of hJ (by decide +kernel) (nt := .int) rfl (Nat.le_of_ble_eq_true rfl) ?_
  intro p e s m args below meth c Q ls hC hret hl hP
  obtain ⟨hx, hb, hr, hml, hown, hts, hK, -, hlocks⟩ := hC
  have hown : s.vm.findClass RX11 = some m.cls := hown
  have hS : va_S (jA ad) s.heap s.heap [] := va_S.rf
  have hA : ∀ q, jA ad q → jA ad q := fun _ h => h
  have hl : lv_has ls 3 [(0, .ref (ad 0)), (1, .int a1), (2, .int a2)] := hl
  have g1 := jrg t1
  have g2 := jrg t2
  refine lv_aload_n hx hb dX11_likely_0 rfl (lv_at hl 0 rfl) ?_
  refine lv_iload_n hx hb dX11_likely_1 rfl (lv_at hl 1 rfl) ?_
  refine jcallV (As := [.int a1]) (rest := []) ⟨hx, hb, hml, hown, hts⟩ hK hP hA hS (c_X11_noRule l D cI cL ad hJ σ τ a1 (A1) t1 h38_0) cw_RX11_177 (jc_0 cI cL ad σ τ) rfl ⟨Nat.le_of_ble_eq_true rfl, Nat.le_of_ble_eq_true rfl⟩ rfl rfl rfl hl.1 rfl (Nat.le_of_ble_eq_true rfl) dX11_likely_2 ⟨Nat.zero_le _, Nat.zero_le _⟩ (fun r2 σ1 τ1 H locs h1 hP hS => ?_)
  obtain ⟨⟨rfl, rfl⟩, h1⟩ := h1
  have h3 := h1
  obtain ⟨q5, k4⟩ := h3
  have q5 := q5.symm
  subst q5
  refine lv_if_ne (tgt := 19) hx hb dX11_likely_5 (by decide) (fun _ => ?_) (fun c => absurd c (by decide))
  refine lv_iconst (v := (-1)) hx hb dX11_likely_19 (by decide) ?_
  exact hret (-1) σ τ _ _ _ _ rfl ⟨(fun _ _ => rfl), (by (repeat' split) <;> first | rfl | omega | exact jsame jz_m1 t1 (by omega) | exact jsame jz_m1 t2 (by omega) | (exfalso; omega))⟩ hP hS dX11_likely_20
