set_option maxHeartbeats 4000000 in
set_option maxRecDepth 100000 in
theorem c_X11_outside (l : Launch) (D : va_G) (cI cL : ClassId) (ad zz : Nat → Nat) (hJ : jD ad) (σ : Nat → Nat → Int32) (τ : Nat → Nat → Int64) (a1 : Int32) (A1 : Int) (t1 : a1.toInt = A1) (a2 : Int32) (A2 : Int) (t2 : a2.toInt = A2) (a3 : Int32) (A3 : Int) (t3 : a3.toInt = A3) : jM l yX11_outside cX11_outside 3 (some .boolean) ({ frames := 0, cells := 0, slots := 0, locals := 0 }) D cI cL ad zz [.int a1, .int a2, .int a3] σ τ (fun r σ' τ' => (σ = σ' ∧ τ = τ') ∧ ((r = 1 ∧ ((A1 < A2) ∨ (A3 < A1))) ∨ (r = 0 ∧ (A2 ≤ A1 ∧ A1 ≤ A3)))) := by
  refine jM.of hJ (by decide +kernel) (nt := .boolean) rfl (Nat.le_of_ble_eq_true rfl) ?_
  intro p e s m args below meth c Q ls hC hret hl hP
  obtain ⟨hx, hb, hr, hml, hown, hts, hK, -, hlocks, hZ⟩ := hC
  have hown : s.vm.findClass RX11 = some m.cls := hown
  have hS : va_S (jA ad) s.heap s.heap [] := va_S.rf
  have hA : ∀ q, jA ad q → jA ad q := fun _ h => h
  have hl : lv_has ls 3 [(0, .int a1), (1, .int a2), (2, .int a3)] := hl
  have g1 := jrg t1
  have g2 := jrg t2
  have g3 := jrg t3
  refine lv_iload_n hx hb dX11_outside_0 rfl (lv_at hl 0 rfl) ?_
  refine lv_iload_n hx hb dX11_outside_1 rfl (lv_at hl 1 rfl) ?_
  refine lv_icmp_lt (tgt := 10) hx hb dX11_outside_2 (by decide) (fun c1 => ?_) (fun c1 => ?_)
  · have kc1 := jlt c1 t1 t2
    refine lv_iconst (v := 1) hx hb dX11_outside_10 (by decide) ?_
    refine lv_goto (tgt := 15) hx hb dX11_outside_11 (by decide) ?_
    exact hret 1 σ τ _ _ _ _ rfl ⟨⟨rfl, rfl⟩, Or.inl ⟨rfl, (by have h9 := jz_1; omega)⟩⟩ hP hS dX11_outside_15
  · have kc1 := jnlt c1 t1 t2
    refine lv_iload_n hx hb dX11_outside_5 rfl (lv_at hl 0 rfl) ?_
    refine lv_iload_n hx hb dX11_outside_6 rfl (lv_at hl 2 rfl) ?_
    refine lv_icmp_le (tgt := 14) hx hb dX11_outside_7 (by decide) (fun c2 => ?_) (fun c2 => ?_)
    · have kc2 := jle c2 t1 t3
      refine lv_iconst (v := 0) hx hb dX11_outside_14 (by decide) ?_
      exact hret 0 σ τ _ _ _ _ rfl ⟨⟨rfl, rfl⟩, Or.inr (⟨rfl, (by have h9 := jz_0; omega)⟩)⟩ hP hS dX11_outside_15
    · have kc2 := jnle c2 t1 t3
      refine lv_iconst (v := 1) hx hb dX11_outside_10 (by decide) ?_
      refine lv_goto (tgt := 15) hx hb dX11_outside_11 (by decide) ?_
      exact hret 1 σ τ _ _ _ _ rfl ⟨⟨rfl, rfl⟩, Or.inl ⟨rfl, (by have h9 := jz_1; omega)⟩⟩ hP hS dX11_outside_15
set_option maxHeartbeats 4000000 in
set_option maxRecDepth 100000 in
theorem c_X12_within (l : Launch) (D : va_G) (cI cL : ClassId) (ad zz : Nat → Nat) (hJ : jD ad) (σ : Nat → Nat → Int32) (τ : Nat → Nat → Int64) (a1 : Int64) (A1 : Int) (t1 : a1.toInt = A1) (a2 : Int64) (A2 : Int) (t2 : a2.toInt = A2) (a3 : Int64) (A3 : Int) (t3 : a3.toInt = A3) : jM l yX12_within cX12_within 6 (some .boolean) ({ frames := 0, cells := 0, slots := 0, locals := 0 }) D cI cL ad zz [.long a1, .long a2, .long a3] σ τ (fun r σ' τ' => (σ = σ' ∧ τ = τ') ∧ ((r = 1 ∧ (A2 ≤ A1 ∧ A1 ≤ A3)) ∨ (r = 0 ∧ ((A1 < A2) ∨ (A3 < A1))))) := by
  refine jM.of hJ (by decide +kernel) (nt := .boolean) rfl (Nat.le_of_ble_eq_true rfl) ?_
  intro p e s m args below meth c Q ls hC hret hl hP
  obtain ⟨hx, hb, hr, hml, hown, hts, hK, -, hlocks, hZ⟩ := hC
  have hown : s.vm.findClass RX12 = some m.cls := hown
  have hS : va_S (jA ad) s.heap s.heap [] := va_S.rf
  have hA : ∀ q, jA ad q → jA ad q := fun _ h => h
  have hl : lv_has ls 6 [(0, .long a1), (2, .long a2), (4, .long a3)] := hl
  have g1 := jrgL t1
  have g2 := jrgL t2
  have g3 := jrgL t3
  refine lv_lload_n hx hb dX12_within_0 rfl (lv_at hl 0 rfl) ?_
  refine lv_lload_n hx hb dX12_within_1 rfl (lv_at hl 1 rfl) ?_
  refine W.lcmp hx hb dX12_within_2 ?_
  refine lv_if_lt (tgt := 17) hx hb dX12_within_3 (by decide) (fun c1 => ?_) (fun c1 => ?_)
  · have kc1 := jclt c1 t1 t2
    refine lv_iconst (v := 0) hx hb dX12_within_17 (by decide) ?_
    exact hret 0 σ τ _ _ _ _ rfl ⟨⟨rfl, rfl⟩, Or.inr (⟨rfl, (by have h9 := jz_0; omega)⟩)⟩ hP hS dX12_within_18
  · have kc1 := jcnlt c1 t1 t2
    refine lv_lload_n hx hb dX12_within_6 rfl (lv_at hl 0 rfl) ?_
    refine lv_lload hx hb dX12_within_7 (lv_at hl 2 rfl) ?_
    refine W.lcmp hx hb dX12_within_9 ?_
    refine lv_if_gt (tgt := 17) hx hb dX12_within_10 (by decide) (fun c2 => ?_) (fun c2 => ?_)
    · have kc2 := jcgt c2 t1 t3
      refine lv_iconst (v := 0) hx hb dX12_within_17 (by decide) ?_
      exact hret 0 σ τ _ _ _ _ rfl ⟨⟨rfl, rfl⟩, Or.inr (⟨rfl, (by have h9 := jz_0; omega)⟩)⟩ hP hS dX12_within_18
    · have kc2 := jcngt c2 t1 t3
      refine lv_iconst (v := 1) hx hb dX12_within_13 (by decide) ?_
      refine lv_goto (tgt := 18) hx hb dX12_within_14 (by decide) ?_
      exact hret 1 σ τ _ _ _ _ rfl ⟨⟨rfl, rfl⟩, Or.inl ⟨rfl, (by have h9 := jz_1; omega)⟩⟩ hP hS dX12_within_18
set_option maxHeartbeats 4000000 in
set_option maxRecDepth 100000 in
theorem c_X11_noBowler (l : Launch) (D : va_G) (cI cL : ClassId) (ad zz : Nat → Nat) (hJ : jD ad) (σ : Nat → Nat → Int32) (τ : Nat → Nat → Int64) (a1 : Int32) (A1 : Int) (t1 : a1.toInt = A1) (hI2 : jI2 σ) : jM l yX11_noBowler cX11_noBowler 2 (some .boolean) ({ frames := 1, cells := 0, slots := 0, locals := 22 }) D cI cL ad zz [.ref (ad 0), .int a1] σ τ (fun r σ' τ' => (σ = σ' ∧ τ = τ') ∧ ((r = 1 ∧ ((A1 < 0) ∨ ((σ 2 0).toInt ≤ A1))) ∨ (r = 0 ∧ (0 ≤ A1 ∧ A1 < (σ 2 0).toInt)))) := by
  refine jM.of hJ (by decide +kernel) (nt := .boolean) rfl (Nat.le_of_ble_eq_true rfl) ?_
  intro p e s m args below meth c Q ls hC hret hl hP
  obtain ⟨hx, hb, hr, hml, hown, hts, hK, -, hlocks, hZ⟩ := hC
  have hown : s.vm.findClass RX11 = some m.cls := hown
  have hS : va_S (jA ad) s.heap s.heap [] := va_S.rf
  have hA : ∀ q, jA ad q → jA ad q := fun _ h => h
  have hl : lv_has ls 2 [(0, .ref (ad 0)), (1, .int a1)] := hl
  have g1 := jrg t1
  obtain ⟨i1, i2, i3, i4, i5, w6⟩ : (0 ≤ (σ 2 0).toInt ∧ (σ 2 0).toInt ≤ 4) ∧ (0 ≤ (σ 2 1).toInt ∧ (σ 2 1).toInt ≤ 3) ∧ (0 ≤ (σ 2 2).toInt) ∧ (0 ≤ (σ 2 3).toInt) ∧ ((σ 2 2).toInt + (σ 2 3).toInt ≤ 40) ∧ (∀ k : Nat, k < 40 → 0 ≤ (σ 6 k).toInt ∧ (σ 6 k).toInt ≤ 67) := hI2
  refine lv_iload_n hx hb dX11_noBowler_0 rfl (lv_at hl 1 rfl) ?_
  refine lv_iconst (v := 0) hx hb dX11_noBowler_1 (by decide) ?_
  refine lv_aload_n hx hb dX11_noBowler_2 rfl (lv_at hl 0 rfl) ?_
  refine va_get (D := D) hx hb hts inlX11 hown hK hP 0 (jc_0 cI cL ad σ τ) rfl 0 (by decide) (hts _ kw_1_16) (fun _ h9 => h9) rfl dX11_noBowler_3 ?_
  refine va_get (D := D) hx hb hts inlX4 hown hK hP 2 (jc_2 cI cL ad σ τ) rfl 0 (by decide) (hts _ kw_8_21) (fun _ h9 => h9) rfl dX11_noBowler_6 ?_
  refine lv_iconst (v := 1) hx hb dX11_noBowler_9 (by decide) ?_
  refine lv_isub hx hb dX11_noBowler_10 ?_
  refine lv_topi (fun x7 ex7 => ?_)
  have tx7 : x7.toInt = (σ 2 0).toInt - 1 := (jsub ex7 rfl jz_1 (by omega) (by omega)).trans (by omega)
  refine jcallS (As := [.int a1, .int 0, .int x7]) (rest := []) ⟨hx, hb, hml, hown, hts⟩ hK hP hA hS hZ (c_X11_outside l D cI cL ad zz hJ σ τ a1 (A1) t1 0 (0) jz_0 x7 ((σ 2 0).toInt - 1) tx7) cw_RX11_94 ⟨Nat.le_of_ble_eq_true rfl, Nat.le_of_ble_eq_true rfl⟩ rfl rfl rfl hl.1 rfl (Nat.le_of_ble_eq_true rfl) dX11_noBowler_11 ⟨Nat.zero_le _, Nat.zero_le _⟩ (fun r9 σ8 τ8 H locs h8 hP hS => ?_)
  obtain ⟨⟨rfl, rfl⟩, h8⟩ := h8
  rcases h8 with h10 | h11
  · obtain ⟨q13, k12⟩ := h10
    have q13 := q13.symm
    subst q13
    exact hret 1 σ τ _ _ _ _ rfl ⟨⟨rfl, rfl⟩, Or.inl ⟨rfl, (by have h9 := jz_1; omega)⟩⟩ hP hS dX11_noBowler_14
  · obtain ⟨q15, k14⟩ := h11
    have q15 := q15.symm
    subst q15
    exact hret 0 σ τ _ _ _ _ rfl ⟨⟨rfl, rfl⟩, Or.inr (⟨rfl, (by have h9 := jz_0; omega)⟩)⟩ hP hS dX11_noBowler_14
set_option maxHeartbeats 4000000 in
set_option maxRecDepth 100000 in
theorem c_X11_noRule (l : Launch) (D : va_G) (cI cL : ClassId) (ad zz : Nat → Nat) (hJ : jD ad) (σ : Nat → Nat → Int32) (τ : Nat → Nat → Int64) (a1 : Int32) (A1 : Int) (t1 : a1.toInt = A1) (hI38 : jI38 σ) : jM l yX11_noRule cX11_noRule 2 (some .boolean) ({ frames := 1, cells := 0, slots := 0, locals := 22 }) D cI cL ad zz [.ref (ad 0), .int a1] σ τ (fun r σ' τ' => (σ = σ' ∧ τ = τ') ∧ ((r = 1 ∧ ((A1 < 0) ∨ ((σ 38 0).toInt ≤ A1))) ∨ (r = 0 ∧ (0 ≤ A1 ∧ A1 < (σ 38 0).toInt)))) := by
  refine jM.of hJ (by decide +kernel) (nt := .boolean) rfl (Nat.le_of_ble_eq_true rfl) ?_
  intro p e s m args below meth c Q ls hC hret hl hP
  obtain ⟨hx, hb, hr, hml, hown, hts, hK, -, hlocks, hZ⟩ := hC
  have hown : s.vm.findClass RX11 = some m.cls := hown
  have hS : va_S (jA ad) s.heap s.heap [] := va_S.rf
  have hA : ∀ q, jA ad q → jA ad q := fun _ h => h
  have hl : lv_has ls 2 [(0, .ref (ad 0)), (1, .int a1)] := hl
  have g1 := jrg t1
  obtain ⟨i1, i2, w3⟩ : (0 ≤ (σ 38 0).toInt ∧ (σ 38 0).toInt ≤ 20) ∧ (0 ≤ (σ 38 1).toInt ∧ (σ 38 1).toInt ≤ 1000) ∧ (∀ k : Nat, k < 20 → 0 ≤ (σ 39 k).toInt ∧ (σ 39 k).toInt ≤ 6) := hI38
  refine lv_iload_n hx hb dX11_noRule_0 rfl (lv_at hl 1 rfl) ?_
  refine lv_iconst (v := 0) hx hb dX11_noRule_1 (by decide) ?_
  refine lv_aload_n hx hb dX11_noRule_2 rfl (lv_at hl 0 rfl) ?_
  refine va_get (D := D) hx hb hts inlX11 hown hK hP 0 (jc_0 cI cL ad σ τ) rfl 7 (by decide) (hts _ kw_2_17) (fun _ h9 => h9) rfl dX11_noRule_3 ?_
  refine va_get (D := D) hx hb hts inlX8 hown hK hP 38 (jc_38 cI cL ad σ τ) rfl 0 (by decide) (hts _ kw_24_8) (fun _ h9 => h9) rfl dX11_noRule_6 ?_
  refine lv_iconst (v := 1) hx hb dX11_noRule_9 (by decide) ?_
  refine lv_isub hx hb dX11_noRule_10 ?_
  refine lv_topi (fun x4 ex4 => ?_)
  have tx4 : x4.toInt = (σ 38 0).toInt - 1 := (jsub ex4 rfl jz_1 (by omega) (by omega)).trans (by omega)
  refine jcallS (As := [.int a1, .int 0, .int x4]) (rest := []) ⟨hx, hb, hml, hown, hts⟩ hK hP hA hS hZ (c_X11_outside l D cI cL ad zz hJ σ τ a1 (A1) t1 0 (0) jz_0 x4 ((σ 38 0).toInt - 1) tx4) cw_RX11_94 ⟨Nat.le_of_ble_eq_true rfl, Nat.le_of_ble_eq_true rfl⟩ rfl rfl rfl hl.1 rfl (Nat.le_of_ble_eq_true rfl) dX11_noRule_11 ⟨Nat.zero_le _, Nat.zero_le _⟩ (fun r6 σ5 τ5 H locs h5 hP hS => ?_)
  obtain ⟨⟨rfl, rfl⟩, h5⟩ := h5
  rcases h5 with h7 | h8
  · obtain ⟨q10, k9⟩ := h7
    have q10 := q10.symm
    subst q10
    exact hret 1 σ τ _ _ _ _ rfl ⟨⟨rfl, rfl⟩, Or.inl ⟨rfl, (by have h9 := jz_1; omega)⟩⟩ hP hS dX11_noRule_14
  · obtain ⟨q12, k11⟩ := h8
    have q12 := q12.symm
    subst q12
    exact hret 0 σ τ _ _ _ _ rfl ⟨⟨rfl, rfl⟩, Or.inr (⟨rfl, (by have h9 := jz_0; omega)⟩)⟩ hP hS dX11_noRule_14
set_option maxHeartbeats 4000000 in
set_option maxRecDepth 100000 in
theorem c_X11_noShelf (l : Launch) (D : va_G) (cI cL : ClassId) (ad zz : Nat → Nat) (hJ : jD ad) (σ : Nat → Nat → Int32) (τ : Nat → Nat → Int64) (a1 : Int32) (A1 : Int) (t1 : a1.toInt = A1) : jM l yX11_noShelf cX11_noShelf 1 (some .boolean) ({ frames := 1, cells := 0, slots := 0, locals := 22 }) D cI cL ad zz [.int a1] σ τ (fun r σ' τ' => (σ = σ' ∧ τ = τ') ∧ ((r = 1 ∧ ((A1 < 0) ∨ (6 ≤ A1))) ∨ (r = 0 ∧ (0 ≤ A1 ∧ A1 < 6)))) := by
  refine jM.of hJ (by decide +kernel) (nt := .boolean) rfl (Nat.le_of_ble_eq_true rfl) ?_
  intro p e s m args below meth c Q ls hC hret hl hP
  obtain ⟨hx, hb, hr, hml, hown, hts, hK, -, hlocks, hZ⟩ := hC
  have hown : s.vm.findClass RX11 = some m.cls := hown
  have hS : va_S (jA ad) s.heap s.heap [] := va_S.rf
  have hA : ∀ q, jA ad q → jA ad q := fun _ h => h
  have hl : lv_has ls 1 [(0, .int a1)] := hl
  have g1 := jrg t1
  refine lv_iload_n hx hb dX11_noShelf_0 rfl (lv_at hl 0 rfl) ?_
  refine lv_iconst (v := 0) hx hb dX11_noShelf_1 (by decide) ?_
  refine lv_iconst (v := 5) hx hb dX11_noShelf_2 (by decide) ?_
  refine jcallS (As := [.int a1, .int 0, .int 5]) (rest := []) ⟨hx, hb, hml, hown, hts⟩ hK hP hA hS hZ (c_X11_outside l D cI cL ad zz hJ σ τ a1 (A1) t1 0 (0) jz_0 5 (5) jz_5) cw_RX11_94 ⟨Nat.le_of_ble_eq_true rfl, Nat.le_of_ble_eq_true rfl⟩ rfl rfl rfl hl.1 rfl (Nat.le_of_ble_eq_true rfl) dX11_noShelf_3 ⟨Nat.zero_le _, Nat.zero_le _⟩ (fun r2 σ1 τ1 H locs h1 hP hS => ?_)
  obtain ⟨⟨rfl, rfl⟩, h1⟩ := h1
  rcases h1 with h3 | h4
  · obtain ⟨q6, k5⟩ := h3
    have q6 := q6.symm
    subst q6
    exact hret 1 σ τ _ _ _ _ rfl ⟨⟨rfl, rfl⟩, Or.inl ⟨rfl, (by have h9 := jz_1; omega)⟩⟩ hP hS dX11_noShelf_6
  · obtain ⟨q8, k7⟩ := h4
    have q8 := q8.symm
    subst q8
    exact hret 0 σ τ _ _ _ _ rfl ⟨⟨rfl, rfl⟩, Or.inr (⟨rfl, (by have h9 := jz_0; omega)⟩)⟩ hP hS dX11_noShelf_6
set_option maxHeartbeats 4000000 in
set_option maxRecDepth 100000 in
theorem c_X4_at_2 (l : Launch) (D : va_G) (cI cL : ClassId) (ad zz : Nat → Nat) (hJ : jD ad) (σ : Nat → Nat → Int32) (τ : Nat → Nat → Int64) (a1 : Int32) (A1 : Int) (t1 : a1.toInt = A1) : jM l yX4_at cX4_at 2 (some .int) ({ frames := 0, cells := 0, slots := 0, locals := 0 }) D cI cL ad zz [.ref (ad 2), .int a1] σ τ (fun r σ' τ' => (σ = σ' ∧ τ = τ') ∧ True) := by
  refine jM.of hJ (by decide +kernel) (nt := .int) rfl (Nat.le_of_ble_eq_true rfl) ?_
  intro p e s m args below meth c Q ls hC hret hl hP
  obtain ⟨hx, hb, hr, hml, hown, hts, hK, -, hlocks, hZ⟩ := hC
  have hown : s.vm.findClass RX4 = some m.cls := hown
  have hS : va_S (jA ad) s.heap s.heap [] := va_S.rf
  have hA : ∀ q, jA ad q → jA ad q := fun _ h => h
  have hl : lv_has ls 2 [(0, .ref (ad 2)), (1, .int a1)] := hl
  have g1 := jrg t1
  refine lv_iload_n hx hb dX4_at_0 rfl (lv_at hl 1 rfl) ?_
  refine lv_if_lt (tgt := 10) hx hb dX4_at_1 (by decide) (fun c1 => ?_) (fun c1 => ?_)
  · have kc1 := jlt c1 t1 jz_0
    refine lv_iconst (v := 0) hx hb dX4_at_10 (by decide) ?_
    refine lv_goto (tgt := 20) hx hb dX4_at_11 (by decide) ?_
    exact hret 0 σ τ _ _ _ _ rfl ⟨⟨rfl, rfl⟩, trivial⟩ hP hS dX4_at_20
  · have kc1 := jnlt c1 t1 jz_0
    refine lv_iload_n hx hb dX4_at_4 rfl (lv_at hl 1 rfl) ?_
    refine lv_bipush (v := 68) hx hb dX4_at_5 (by decide) ?_
    refine lv_icmp_lt (tgt := 14) hx hb dX4_at_7 (by decide) (fun c2 => ?_) (fun c2 => ?_)
    · have kc2 := jlt c2 t1 jz_68
      refine lv_aload_n hx hb dX4_at_14 rfl (lv_at hl 0 rfl) ?_
      refine va_get (D := D) hx hb hts inlX4 hown hK hP 2 (jc_2 cI cL ad σ τ) rfl 4 (by decide) (hts _ kw_3_11) (fun _ h9 => h9) rfl dX4_at_15 ?_
      refine lv_iload_n hx hb dX4_at_18 rfl (lv_at hl 1 rfl) ?_
      refine jald hx hb hK hP (jc_3 cI cL ad σ τ) (jin t1 (by omega) (by omega)) dX4_at_19 ?_
      refine lv_topi (fun x3 ex3 => ?_)
      exact hret x3 σ τ _ _ _ _ rfl ⟨⟨rfl, rfl⟩, trivial⟩ hP hS dX4_at_20
    · have kc2 := jnlt c2 t1 jz_68
      refine lv_iconst (v := 0) hx hb dX4_at_10 (by decide) ?_
      refine lv_goto (tgt := 20) hx hb dX4_at_11 (by decide) ?_
      exact hret 0 σ τ _ _ _ _ rfl ⟨⟨rfl, rfl⟩, trivial⟩ hP hS dX4_at_20
set_option maxHeartbeats 4000000 in
set_option maxRecDepth 100000 in
theorem c_X4_oversOf_2 (l : Launch) (D : va_G) (cI cL : ClassId) (ad zz : Nat → Nat) (hJ : jD ad) (σ : Nat → Nat → Int32) (τ : Nat → Nat → Int64) (a1 : Int32) (A1 : Int) (t1 : a1.toInt = A1) : jM l yX4_oversOf cX4_oversOf 2 (some .int) ({ frames := 1, cells := 0, slots := 0, locals := 21 }) D cI cL ad zz [.ref (ad 2), .int a1] σ τ (fun r σ' τ' => (σ = σ' ∧ τ = τ') ∧ True) := by
  refine jM.of hJ (by decide +kernel) (nt := .int) rfl (Nat.le_of_ble_eq_true rfl) ?_
  intro p e s m args below meth c Q ls hC hret hl hP
  obtain ⟨hx, hb, hr, hml, hown, hts, hK, -, hlocks, hZ⟩ := hC
  have hown : s.vm.findClass RX4 = some m.cls := hown
  have hS : va_S (jA ad) s.heap s.heap [] := va_S.rf
  have hA : ∀ q, jA ad q → jA ad q := fun _ h => h
  have hl : lv_has ls 2 [(0, .ref (ad 2)), (1, .int a1)] := hl
  have g1 := jrg t1
  refine lv_aload_n hx hb dX4_oversOf_0 rfl (lv_at hl 0 rfl) ?_
  refine lv_bipush (v := 32) hx hb dX4_oversOf_1 (by decide) ?_
  refine lv_iload_n hx hb dX4_oversOf_3 rfl (lv_at hl 1 rfl) ?_
  refine lv_iadd hx hb dX4_oversOf_4 ?_
  refine lv_topi (fun x1 ex1 => ?_)
  have gx1 := jrg (rfl : x1.toInt = x1.toInt)
  refine jcallV (As := [.int x1]) (rest := []) ⟨hx, hb, hml, hown, hts⟩ hK hP hA hS hZ (c_X4_at_2 l D cI cL ad zz hJ σ τ x1 (x1.toInt) rfl) cw_RX4_34 (jc_2 cI cL ad σ τ) rfl ⟨Nat.le_of_ble_eq_true rfl, Nat.le_of_ble_eq_true rfl⟩ rfl rfl rfl hl.1 rfl (Nat.le_of_ble_eq_true rfl) dX4_oversOf_5 ⟨Nat.zero_le _, Nat.zero_le _⟩ (fun r3 σ2 τ2 H locs h2 hP hS => ?_)
  obtain ⟨⟨rfl, rfl⟩, h2⟩ := h2
  exact hret r3 σ τ _ _ _ _ rfl ⟨⟨rfl, rfl⟩, trivial⟩ hP hS dX4_oversOf_8
set_option maxHeartbeats 4000000 in
set_option maxRecDepth 100000 in
theorem c_X4_edgeIn_2 (l : Launch) (D : va_G) (cI cL : ClassId) (ad zz : Nat → Nat) (hJ : jD ad) (σ : Nat → Nat → Int32) (τ : Nat → Nat → Int64) (a1 : Int32) (A1 : Int) (t1 : a1.toInt = A1) (a2 : Int32) (A2 : Int) (t2 : a2.toInt = A2) (a3 : Int32) (A3 : Int) (t3 : a3.toInt = A3) : jM l yX4_edgeIn cX4_edgeIn 4 (some .int) ({ frames := 1, cells := 0, slots := 0, locals := 21 }) D cI cL ad zz [.ref (ad 2), .int a1, .int a2, .int a3] σ τ (fun r σ' τ' => (σ = σ' ∧ τ = τ') ∧ True) := by
  refine jM.of hJ (by decide +kernel) (nt := .int) rfl (Nat.le_of_ble_eq_true rfl) ?_
  intro p e s m args below meth c Q ls hC hret hl hP
  obtain ⟨hx, hb, hr, hml, hown, hts, hK, -, hlocks, hZ⟩ := hC
  have hown : s.vm.findClass RX4 = some m.cls := hown
  have hS : va_S (jA ad) s.heap s.heap [] := va_S.rf
  have hA : ∀ q, jA ad q → jA ad q := fun _ h => h
  have hl : lv_has ls 4 [(0, .ref (ad 2)), (1, .int a1), (2, .int a2), (3, .int a3)] := hl
  have g1 := jrg t1
  have g2 := jrg t2
  have g3 := jrg t3
  refine lv_aload_n hx hb dX4_edgeIn_0 rfl (lv_at hl 0 rfl) ?_
  refine lv_iconst (v := 0) hx hb dX4_edgeIn_1 (by decide) ?_
  refine lv_iload_n hx hb dX4_edgeIn_2 rfl (lv_at hl 2 rfl) ?_
  refine lv_iconst (v := 4) hx hb dX4_edgeIn_3 (by decide) ?_
  refine lv_imul hx hb dX4_edgeIn_4 ?_
  refine lv_topi (fun x1 ex1 => ?_)
  have gx1 := jrg (rfl : x1.toInt = x1.toInt)
  refine lv_iadd hx hb dX4_edgeIn_5 ?_
  refine jtopr (y := x1) (by rw [Int32.zero_add]) ?_
  refine lv_iload_n hx hb dX4_edgeIn_6 rfl (lv_at hl 3 rfl) ?_
  refine lv_iadd hx hb dX4_edgeIn_7 ?_
  refine lv_topi (fun x2 ex2 => ?_)
  have gx2 := jrg (rfl : x2.toInt = x2.toInt)
  refine jcallV (As := [.int x2]) (rest := []) ⟨hx, hb, hml, hown, hts⟩ hK hP hA hS hZ (c_X4_at_2 l D cI cL ad zz hJ σ τ x2 (x2.toInt) rfl) cw_RX4_34 (jc_2 cI cL ad σ τ) rfl ⟨Nat.le_of_ble_eq_true rfl, Nat.le_of_ble_eq_true rfl⟩ rfl rfl rfl hl.1 rfl (Nat.le_of_ble_eq_true rfl) dX4_edgeIn_8 ⟨Nat.zero_le _, Nat.zero_le _⟩ (fun r4 σ3 τ3 H locs h3 hP hS => ?_)
  obtain ⟨⟨rfl, rfl⟩, h3⟩ := h3
  refine lv_aload_n hx hb dX4_edgeIn_11 rfl (lv_at hl 0 rfl) ?_
  refine lv_bipush (v := 36) hx hb dX4_edgeIn_12 (by decide) ?_
  refine lv_iload_n hx hb dX4_edgeIn_14 rfl (lv_at hl 1 rfl) ?_
  refine lv_iconst (v := 4) hx hb dX4_edgeIn_15 (by decide) ?_
  refine lv_imul hx hb dX4_edgeIn_16 ?_
  refine lv_topi (fun x5 ex5 => ?_)
  have gx5 := jrg (rfl : x5.toInt = x5.toInt)
  refine lv_iadd hx hb dX4_edgeIn_17 ?_
  refine lv_topi (fun x6 ex6 => ?_)
  have gx6 := jrg (rfl : x6.toInt = x6.toInt)
  refine lv_iload_n hx hb dX4_edgeIn_18 rfl (lv_at hl 3 rfl) ?_
  refine lv_iadd hx hb dX4_edgeIn_19 ?_
  refine lv_topi (fun x7 ex7 => ?_)
  have gx7 := jrg (rfl : x7.toInt = x7.toInt)
  refine jcallV (As := [.int x7]) (rest := [.int r4]) ⟨hx, hb, hml, hown, hts⟩ hK hP hA hS hZ (c_X4_at_2 l D cI cL ad zz hJ σ τ x7 (x7.toInt) rfl) cw_RX4_34 (jc_2 cI cL ad σ τ) rfl ⟨Nat.le_of_ble_eq_true rfl, Nat.le_of_ble_eq_true rfl⟩ rfl rfl rfl hl.1 rfl (Nat.le_of_ble_eq_true rfl) dX4_edgeIn_20 ⟨Nat.zero_le _, Nat.zero_le _⟩ (fun r9 σ8 τ8 H locs h8 hP hS => ?_)
  obtain ⟨⟨rfl, rfl⟩, h8⟩ := h8
  refine lv_iadd hx hb dX4_edgeIn_23 ?_
  refine lv_topi (fun x10 ex10 => ?_)
  have gx10 := jrg (rfl : x10.toInt = x10.toInt)
  exact hret x10 σ τ _ _ _ _ rfl ⟨⟨rfl, rfl⟩, trivial⟩ hP hS dX4_edgeIn_24
set_option maxHeartbeats 4000000 in
set_option maxRecDepth 100000 in
theorem c_X4_runsIn_2 (l : Launch) (D : va_G) (cI cL : ClassId) (ad zz : Nat → Nat) (hJ : jD ad) (σ : Nat → Nat → Int32) (τ : Nat → Nat → Int64) (a1 : Int32) (A1 : Int) (t1 : a1.toInt = A1) (a2 : Int32) (A2 : Int) (t2 : a2.toInt = A2) (a3 : Int32) (A3 : Int) (t3 : a3.toInt = A3) : jM l yX4_runsIn cX4_runsIn 4 (some .int) ({ frames := 1, cells := 0, slots := 0, locals := 21 }) D cI cL ad zz [.ref (ad 2), .int a1, .int a2, .int a3] σ τ (fun r σ' τ' => (σ = σ' ∧ τ = τ') ∧ True) := by
  refine jM.of hJ (by decide +kernel) (nt := .int) rfl (Nat.le_of_ble_eq_true rfl) ?_
  intro p e s m args below meth c Q ls hC hret hl hP
  obtain ⟨hx, hb, hr, hml, hown, hts, hK, -, hlocks, hZ⟩ := hC
  have hown : s.vm.findClass RX4 = some m.cls := hown
  have hS : va_S (jA ad) s.heap s.heap [] := va_S.rf
  have hA : ∀ q, jA ad q → jA ad q := fun _ h => h
  have hl : lv_has ls 4 [(0, .ref (ad 2)), (1, .int a1), (2, .int a2), (3, .int a3)] := hl
  have g1 := jrg t1
  have g2 := jrg t2
  have g3 := jrg t3
  refine lv_iload_n hx hb dX4_runsIn_0 rfl (lv_at hl 2 rfl) ?_
  refine lv_if_lt (tgt := 9) hx hb dX4_runsIn_1 (by decide) (fun c1 => ?_) (fun c1 => ?_)
  · have kc1 := jlt c1 t2 jz_0
    refine lv_iconst (v := 0) hx hb dX4_runsIn_9 (by decide) ?_
    exact hret 0 σ τ _ _ _ _ rfl ⟨⟨rfl, rfl⟩, trivial⟩ hP hS dX4_runsIn_10
  · have kc1 := jnlt c1 t2 jz_0
    refine lv_iload_n hx hb dX4_runsIn_4 rfl (lv_at hl 2 rfl) ?_
    refine lv_iconst (v := 4) hx hb dX4_runsIn_5 (by decide) ?_
    refine lv_icmp_lt (tgt := 11) hx hb dX4_runsIn_6 (by decide) (fun c2 => ?_) (fun c2 => ?_)
    · have kc2 := jlt c2 t2 jz_4
      refine lv_aload_n hx hb dX4_runsIn_11 rfl (lv_at hl 0 rfl) ?_
      refine va_get (D := D) hx hb hts inlX4 hown hK hP 2 (jc_2 cI cL ad σ τ) rfl 6 (by decide) (hts _ kw_3_13) (fun _ h9 => h9) rfl dX4_runsIn_12 ?_
      refine lv_iload_n hx hb dX4_runsIn_15 rfl (lv_at hl 2 rfl) ?_
      refine jald hx hb hK hP (jc_5 cI cL ad σ τ) (jin t2 (by omega) (by omega)) dX4_runsIn_16 ?_
      refine lv_topi (fun x3 ex3 => ?_)
      refine lv_aload_n hx hb dX4_runsIn_17 rfl (lv_at hl 0 rfl) ?_
      refine lv_bipush (v := 16) hx hb dX4_runsIn_18 (by decide) ?_
      refine lv_iload_n hx hb dX4_runsIn_20 rfl (lv_at hl 2 rfl) ?_
      refine lv_iconst (v := 4) hx hb dX4_runsIn_21 (by decide) ?_
      refine lv_imul hx hb dX4_runsIn_22 ?_
      refine lv_topi (fun x4 ex4 => ?_)
      have tx4 : x4.toInt = 4 * A2 := (jmul ex4 t2 jz_4 (by omega) (by omega)).trans (by omega)
      refine lv_iadd hx hb dX4_runsIn_23 ?_
      refine lv_topi (fun x5 ex5 => ?_)
      have tx5 : x5.toInt = 4 * A2 + 16 := (jadd ex5 jz_16 tx4 (by omega) (by omega)).trans (by omega)
      refine lv_iload_n hx hb dX4_runsIn_24 rfl (lv_at hl 3 rfl) ?_
      refine lv_iadd hx hb dX4_runsIn_25 ?_
      refine lv_topi (fun x6 ex6 => ?_)
      have gx6 := jrg (rfl : x6.toInt = x6.toInt)
      refine jcallV (As := [.int x6]) (rest := [.int x3]) ⟨hx, hb, hml, hown, hts⟩ hK hP hA hS hZ (c_X4_at_2 l D cI cL ad zz hJ σ τ x6 (x6.toInt) rfl) cw_RX4_34 (jc_2 cI cL ad σ τ) rfl ⟨Nat.le_of_ble_eq_true rfl, Nat.le_of_ble_eq_true rfl⟩ rfl rfl rfl hl.1 rfl (Nat.le_of_ble_eq_true rfl) dX4_runsIn_26 ⟨Nat.zero_le _, Nat.zero_le _⟩ (fun r8 σ7 τ7 H locs h7 hP hS => ?_)
      obtain ⟨⟨rfl, rfl⟩, h7⟩ := h7
      refine lv_iadd hx hb dX4_runsIn_29 ?_
      refine lv_topi (fun x9 ex9 => ?_)
      have gx9 := jrg (rfl : x9.toInt = x9.toInt)
      refine lv_aload_n hx hb dX4_runsIn_30 rfl (lv_at hl 0 rfl) ?_
      refine lv_bipush (v := 52) hx hb dX4_runsIn_31 (by decide) ?_
      refine lv_iload_n hx hb dX4_runsIn_33 rfl (lv_at hl 1 rfl) ?_
      refine lv_iconst (v := 4) hx hb dX4_runsIn_34 (by decide) ?_
      refine lv_imul hx hb dX4_runsIn_35 ?_
      refine lv_topi (fun x10 ex10 => ?_)
      have gx10 := jrg (rfl : x10.toInt = x10.toInt)
      refine lv_iadd hx hb dX4_runsIn_36 ?_
      refine lv_topi (fun x11 ex11 => ?_)
      have gx11 := jrg (rfl : x11.toInt = x11.toInt)
      refine lv_iload_n hx hb dX4_runsIn_37 rfl (lv_at hl 3 rfl) ?_
      refine lv_iadd hx hb dX4_runsIn_38 ?_
      refine lv_topi (fun x12 ex12 => ?_)
      have gx12 := jrg (rfl : x12.toInt = x12.toInt)
      refine jcallV (As := [.int x12]) (rest := [.int x9]) ⟨hx, hb, hml, hown, hts⟩ hK hP hA hS hZ (c_X4_at_2 l D cI cL ad zz hJ σ τ x12 (x12.toInt) rfl) cw_RX4_34 (jc_2 cI cL ad σ τ) rfl ⟨Nat.le_of_ble_eq_true rfl, Nat.le_of_ble_eq_true rfl⟩ rfl rfl rfl hl.1 rfl (Nat.le_of_ble_eq_true rfl) dX4_runsIn_39 ⟨Nat.zero_le _, Nat.zero_le _⟩ (fun r14 σ13 τ13 H locs h13 hP hS => ?_)
      obtain ⟨⟨rfl, rfl⟩, h13⟩ := h13
      refine lv_iadd hx hb dX4_runsIn_42 ?_
      refine lv_topi (fun x15 ex15 => ?_)
      have gx15 := jrg (rfl : x15.toInt = x15.toInt)
      exact hret x15 σ τ _ _ _ _ rfl ⟨⟨rfl, rfl⟩, trivial⟩ hP hS dX4_runsIn_43
    · have kc2 := jnlt c2 t2 jz_4
      refine lv_iconst (v := 0) hx hb dX4_runsIn_9 (by decide) ?_
      exact hret 0 σ τ _ _ _ _ rfl ⟨⟨rfl, rfl⟩, trivial⟩ hP hS dX4_runsIn_10
set_option maxHeartbeats 4000000 in
set_option maxRecDepth 100000 in
theorem c_X4_freshness_2 (l : Launch) (D : va_G) (cI cL : ClassId) (ad zz : Nat → Nat) (hJ : jD ad) (σ : Nat → Nat → Int32) (τ : Nat → Nat → Int64) (a1 : Int32) (A1 : Int) (t1 : a1.toInt = A1) (a2 : Int32) (A2 : Int) (t2 : a2.toInt = A2) : jM l yX4_freshness cX4_freshness 3 (some .int) ({ frames := 1, cells := 0, slots := 0, locals := 21 }) D cI cL ad zz [.ref (ad 2), .int a1, .int a2] σ τ (fun r σ' τ' => (σ = σ' ∧ τ = τ') ∧ True) := by
  refine jM.of hJ (by decide +kernel) (nt := .int) rfl (Nat.le_of_ble_eq_true rfl) ?_
  intro p e s m args below meth c Q ls hC hret hl hP
  obtain ⟨hx, hb, hr, hml, hown, hts, hK, -, hlocks, hZ⟩ := hC
  have hown : s.vm.findClass RX4 = some m.cls := hown
  have hS : va_S (jA ad) s.heap s.heap [] := va_S.rf
  have hA : ∀ q, jA ad q → jA ad q := fun _ h => h
  have hl : lv_has ls 3 [(0, .ref (ad 2)), (1, .int a1), (2, .int a2)] := hl
  have g1 := jrg t1
  have g2 := jrg t2
  refine lv_iload_n hx hb dX4_freshness_0 rfl (lv_at hl 1 rfl) ?_
  refine lv_if_lt (tgt := 9) hx hb dX4_freshness_1 (by decide) (fun c1 => ?_) (fun c1 => ?_)
  · have kc1 := jlt c1 t1 jz_0
    refine lv_iconst (v := 0) hx hb dX4_freshness_9 (by decide) ?_
    exact hret 0 σ τ _ _ _ _ rfl ⟨⟨rfl, rfl⟩, trivial⟩ hP hS dX4_freshness_10
  · have kc1 := jnlt c1 t1 jz_0
    refine lv_iload_n hx hb dX4_freshness_4 rfl (lv_at hl 1 rfl) ?_
    refine lv_iconst (v := 4) hx hb dX4_freshness_5 (by decide) ?_
    refine lv_icmp_lt (tgt := 11) hx hb dX4_freshness_6 (by decide) (fun c2 => ?_) (fun c2 => ?_)
    · have kc2 := jlt c2 t1 jz_4
      refine lv_iconst (v := 0) hx hb dX4_freshness_11 (by decide) ?_
      refine lv_bipush (v := 100) hx hb dX4_freshness_12 (by decide) ?_
      refine lv_aload_n hx hb dX4_freshness_14 rfl (lv_at hl 0 rfl) ?_
      refine va_get (D := D) hx hb hts inlX4 hown hK hP 2 (jc_2 cI cL ad σ τ) rfl 5 (by decide) (hts _ kw_3_12) (fun _ h9 => h9) rfl dX4_freshness_15 ?_
      refine lv_iload_n hx hb dX4_freshness_18 rfl (lv_at hl 1 rfl) ?_
      refine jald hx hb hK hP (jc_4 cI cL ad σ τ) (jin t1 (by omega) (by omega)) dX4_freshness_19 ?_
      refine lv_topi (fun x3 ex3 => ?_)
      refine lv_iload_n hx hb dX4_freshness_20 rfl (lv_at hl 2 rfl) ?_
      refine lv_imul hx hb dX4_freshness_21 ?_
      refine lv_topi (fun x4 ex4 => ?_)
      have gx4 := jrg (rfl : x4.toInt = x4.toInt)
      refine lv_isub hx hb dX4_freshness_22 ?_
      refine lv_topi (fun x5 ex5 => ?_)
      have gx5 := jrg (rfl : x5.toInt = x5.toInt)
      refine va_mmax hx hb (hml.trans hl.1.symm) hown (hts _ kw_21_19) (hts _ kw_21_0) (hts _ kw_21_1) (hts _ kw_21_2) (Nat.le_of_ble_eq_true rfl) (Nat.le_of_ble_eq_true rfl) (Nat.le_of_ble_eq_true rfl) (Nat.le_of_ble_eq_true rfl) dX4_freshness_23 ?_
      refine lv_topi (fun x6 ex6 => ?_)
      have g7 := jmax ex6 jz_0 rfl
      exact hret x6 σ τ _ _ _ _ rfl ⟨⟨rfl, rfl⟩, trivial⟩ hP hS dX4_freshness_26
    · have kc2 := jnlt c2 t1 jz_4
      refine lv_iconst (v := 0) hx hb dX4_freshness_9 (by decide) ?_
      exact hret 0 σ τ _ _ _ _ rfl ⟨⟨rfl, rfl⟩, trivial⟩ hP hS dX4_freshness_10
set_option maxHeartbeats 4000000 in
set_option maxRecDepth 100000 in
theorem c_X4_lowest (l : Launch) (D : va_G) (cI cL : ClassId) (ad zz : Nat → Nat) (hJ : jD ad) (σ : Nat → Nat → Int32) (τ : Nat → Nat → Int64) (a1 : Int32) (A1 : Int) (t1 : a1.toInt = A1) : jM l yX4_lowest cX4_lowest 1 (some .int) ({ frames := 0, cells := 0, slots := 0, locals := 0 }) D cI cL ad zz [.int a1] σ τ (fun r σ' τ' => (σ = σ' ∧ τ = τ') ∧ ((r = 0 ∧ ((A1 < 16) ∨ (32 ≤ A1 ∧ A1 < 36))) ∨ (r = (-200) ∧ (36 ≤ A1 ∧ A1 < 52)) ∨ (r = (-9) ∧ ((16 ≤ A1 ∧ A1 < 32) ∨ (52 ≤ A1))))) := by
  refine jM.of hJ (by decide +kernel) (nt := .int) rfl (Nat.le_of_ble_eq_true rfl) ?_
  intro p e s m args below meth c Q ls hC hret hl hP
  obtain ⟨hx, hb, hr, hml, hown, hts, hK, -, hlocks, hZ⟩ := hC
  have hown : s.vm.findClass RX4 = some m.cls := hown
  have hS : va_S (jA ad) s.heap s.heap [] := va_S.rf
  have hA : ∀ q, jA ad q → jA ad q := fun _ h => h
  have hl : lv_has ls 1 [(0, .int a1)] := hl
  have g1 := jrg t1
  refine lv_iload_n hx hb dX4_lowest_0 rfl (lv_at hl 0 rfl) ?_
  refine lv_bipush (v := 16) hx hb dX4_lowest_1 (by decide) ?_
  refine lv_icmp_lt (tgt := 18) hx hb dX4_lowest_3 (by decide) (fun c1 => ?_) (fun c1 => ?_)
  · have kc1 := jlt c1 t1 jz_16
    refine lv_iconst (v := 0) hx hb dX4_lowest_18 (by decide) ?_
    exact hret 0 σ τ _ _ _ _ rfl ⟨⟨rfl, rfl⟩, Or.inl ⟨rfl, (by have h9 := jz_0; omega)⟩⟩ hP hS dX4_lowest_19
  · have kc1 := jnlt c1 t1 jz_16
    refine lv_iload_n hx hb dX4_lowest_6 rfl (lv_at hl 0 rfl) ?_
    refine lv_bipush (v := 32) hx hb dX4_lowest_7 (by decide) ?_
    refine lv_icmp_lt (tgt := 20) hx hb dX4_lowest_9 (by decide) (fun c2 => ?_) (fun c2 => ?_)
    · have kc2 := jlt c2 t1 jz_32
      refine lv_iload_n hx hb dX4_lowest_20 rfl (lv_at hl 0 rfl) ?_
      refine lv_bipush (v := 36) hx hb dX4_lowest_21 (by decide) ?_
      refine lv_icmp_lt (tgt := 38) hx hb dX4_lowest_23 (by decide) (fun c3 => ?_) (fun c => absurd (jnlt c t1 jz_36) (by omega))
      have kc3 := jlt c3 t1 jz_36
      refine lv_bipush (v := (-9)) hx hb dX4_lowest_38 (by decide) ?_
      exact hret (-9) σ τ _ _ _ _ rfl ⟨⟨rfl, rfl⟩, Or.inr (Or.inr (⟨rfl, (by have h9 := jz_m9; omega)⟩))⟩ hP hS dX4_lowest_40
    · have kc2 := jnlt c2 t1 jz_32
      refine lv_iload_n hx hb dX4_lowest_12 rfl (lv_at hl 0 rfl) ?_
      refine lv_bipush (v := 36) hx hb dX4_lowest_13 (by decide) ?_
      refine lv_icmp_ge (tgt := 20) hx hb dX4_lowest_15 (by decide) (fun c4 => ?_) (fun c4 => ?_)
      · have kc4 := jle c4 jz_36 t1
        refine lv_iload_n hx hb dX4_lowest_20 rfl (lv_at hl 0 rfl) ?_
        refine lv_bipush (v := 36) hx hb dX4_lowest_21 (by decide) ?_
        refine lv_icmp_lt (tgt := 38) hx hb dX4_lowest_23 (by decide) (fun c => absurd (jlt c t1 jz_36) (by omega)) (fun c5 => ?_)
        have kc5 := jnlt c5 t1 jz_36
        refine lv_iload_n hx hb dX4_lowest_26 rfl (lv_at hl 0 rfl) ?_
        refine lv_bipush (v := 52) hx hb dX4_lowest_27 (by decide) ?_
        refine lv_icmp_ge (tgt := 38) hx hb dX4_lowest_29 (by decide) (fun c6 => ?_) (fun c6 => ?_)
        · have kc6 := jle c6 jz_52 t1
          refine lv_bipush (v := (-9)) hx hb dX4_lowest_38 (by decide) ?_
          exact hret (-9) σ τ _ _ _ _ rfl ⟨⟨rfl, rfl⟩, Or.inr (Or.inr (⟨rfl, (by have h9 := jz_m9; omega)⟩))⟩ hP hS dX4_lowest_40
        · have kc6 := jnle c6 jz_52 t1
          refine lv_sipush (v := (-200)) hx hb dX4_lowest_32 (by decide) ?_
          refine lv_goto (tgt := 40) hx hb dX4_lowest_35 (by decide) ?_
          exact hret (-200) σ τ _ _ _ _ rfl ⟨⟨rfl, rfl⟩, Or.inr (Or.inl ⟨rfl, (by have h9 := jz_m200; omega)⟩)⟩ hP hS dX4_lowest_40
      · have kc4 := jnle c4 jz_36 t1
        refine lv_iconst (v := 0) hx hb dX4_lowest_18 (by decide) ?_
        exact hret 0 σ τ _ _ _ _ rfl ⟨⟨rfl, rfl⟩, Or.inl ⟨rfl, (by have h9 := jz_0; omega)⟩⟩ hP hS dX4_lowest_19
set_option maxHeartbeats 4000000 in
set_option maxRecDepth 100000 in
theorem c_X4_highest (l : Launch) (D : va_G) (cI cL : ClassId) (ad zz : Nat → Nat) (hJ : jD ad) (σ : Nat → Nat → Int32) (τ : Nat → Nat → Int64) (a1 : Int32) (A1 : Int) (t1 : a1.toInt = A1) : jM l yX4_highest cX4_highest 1 (some .int) ({ frames := 0, cells := 0, slots := 0, locals := 0 }) D cI cL ad zz [.int a1] σ τ (fun r σ' τ' => (σ = σ' ∧ τ = τ') ∧ ((r = 500 ∧ (A1 < 16)) ∨ (r = 9 ∧ ((16 ≤ A1 ∧ A1 < 32) ∨ (52 ≤ A1))) ∨ (r = 8 ∧ (32 ≤ A1 ∧ A1 < 36)) ∨ (r = 200 ∧ (36 ≤ A1 ∧ A1 < 52)))) := by
  refine jM.of hJ (by decide +kernel) (nt := .int) rfl (Nat.le_of_ble_eq_true rfl) ?_
  intro p e s m args below meth c Q ls hC hret hl hP
  obtain ⟨hx, hb, hr, hml, hown, hts, hK, -, hlocks, hZ⟩ := hC
  have hown : s.vm.findClass RX4 = some m.cls := hown
  have hS : va_S (jA ad) s.heap s.heap [] := va_S.rf
  have hA : ∀ q, jA ad q → jA ad q := fun _ h => h
  have hl : lv_has ls 1 [(0, .int a1)] := hl
  have g1 := jrg t1
  refine lv_iload_n hx hb dX4_highest_0 rfl (lv_at hl 0 rfl) ?_
  refine lv_bipush (v := 16) hx hb dX4_highest_1 (by decide) ?_
  refine lv_icmp_ge (tgt := 10) hx hb dX4_highest_3 (by decide) (fun c1 => ?_) (fun c1 => ?_)
  · have kc1 := jle c1 jz_16 t1
    refine lv_iload_n hx hb dX4_highest_10 rfl (lv_at hl 0 rfl) ?_
    refine lv_bipush (v := 32) hx hb dX4_highest_11 (by decide) ?_
    refine lv_icmp_ge (tgt := 19) hx hb dX4_highest_13 (by decide) (fun c2 => ?_) (fun c2 => ?_)
    · have kc2 := jle c2 jz_32 t1
      refine lv_iload_n hx hb dX4_highest_19 rfl (lv_at hl 0 rfl) ?_
      refine lv_bipush (v := 36) hx hb dX4_highest_20 (by decide) ?_
      refine lv_icmp_ge (tgt := 28) hx hb dX4_highest_22 (by decide) (fun c3 => ?_) (fun c3 => ?_)
      · have kc3 := jle c3 jz_36 t1
        refine lv_iload_n hx hb dX4_highest_28 rfl (lv_at hl 0 rfl) ?_
        refine lv_bipush (v := 52) hx hb dX4_highest_29 (by decide) ?_
        refine lv_icmp_ge (tgt := 40) hx hb dX4_highest_31 (by decide) (fun c4 => ?_) (fun c4 => ?_)
        · have kc4 := jle c4 jz_52 t1
          refine lv_bipush (v := 9) hx hb dX4_highest_40 (by decide) ?_
          exact hret 9 σ τ _ _ _ _ rfl ⟨⟨rfl, rfl⟩, Or.inr (Or.inl ⟨rfl, (by have h9 := jz_9; omega)⟩)⟩ hP hS dX4_highest_42
        · have kc4 := jnle c4 jz_52 t1
          refine lv_sipush (v := 200) hx hb dX4_highest_34 (by decide) ?_
          refine lv_goto (tgt := 42) hx hb dX4_highest_37 (by decide) ?_
          exact hret 200 σ τ _ _ _ _ rfl ⟨⟨rfl, rfl⟩, Or.inr (Or.inr (Or.inr (⟨rfl, (by have h9 := jz_200; omega)⟩)))⟩ hP hS dX4_highest_42
      · have kc3 := jnle c3 jz_36 t1
        refine lv_bipush (v := 8) hx hb dX4_highest_25 (by decide) ?_
        exact hret 8 σ τ _ _ _ _ rfl ⟨⟨rfl, rfl⟩, Or.inr (Or.inr (Or.inl ⟨rfl, (by have h9 := jz_8; omega)⟩))⟩ hP hS dX4_highest_27
    · have kc2 := jnle c2 jz_32 t1
      refine lv_bipush (v := 9) hx hb dX4_highest_16 (by decide) ?_
      exact hret 9 σ τ _ _ _ _ rfl ⟨⟨rfl, rfl⟩, Or.inr (Or.inl ⟨rfl, (by have h9 := jz_9; omega)⟩)⟩ hP hS dX4_highest_18
  · have kc1 := jnle c1 jz_16 t1
    refine lv_sipush (v := 500) hx hb dX4_highest_6 (by decide) ?_
    exact hret 500 σ τ _ _ _ _ rfl ⟨⟨rfl, rfl⟩, Or.inl ⟨rfl, (by have h9 := jz_500; omega)⟩⟩ hP hS dX4_highest_9
set_option maxHeartbeats 4000000 in
set_option maxRecDepth 100000 in
theorem c_X4_join_2 (l : Launch) (D : va_G) (cI cL : ClassId) (ad zz : Nat → Nat) (hJ : jD ad) (σ : Nat → Nat → Int32) (τ : Nat → Nat → Int64) (a1 : Int32) (A1 : Int) (t1 : a1.toInt = A1) (a2 : Int32) (A2 : Int) (t2 : a2.toInt = A2) (a3 : Int32) (A3 : Int) (t3 : a3.toInt = A3) (hI2 : jI2 σ) : jM l yX4_join cX4_join 6 (some .int) ({ frames := 0, cells := 0, slots := 0, locals := 0 }) D cI cL ad zz [.ref (ad 2), .int a1, .int a2, .int a3] σ τ (fun r σ' τ' => (∀ i : Nat, (i < 2 ∨ 5 < i) → σ' i = σ i) ∧ (∀ k : Nat, (k < 0 ∨ 0 < k) → σ' 2 k = σ 2 k) ∧ (jI2 σ') ∧ ((r = (-3) ∧ ((σ 2 0).toInt = 4) ∧ ((σ' 2 0).toInt = (σ 2 0).toInt)) ∨ (True ∧ ((σ 2 0).toInt < 4) ∧ (r.toInt = (σ 2 0).toInt) ∧ ((σ' 2 0).toInt = (σ 2 0).toInt + 1)))) := by
  refine jM.of hJ (by decide +kernel) (nt := .int) rfl (Nat.le_of_ble_eq_true rfl) ?_
  intro p e s m args below meth c Q ls hC hret hl hP
  obtain ⟨hx, hb, hr, hml, hown, hts, hK, -, hlocks, hZ⟩ := hC
  have hown : s.vm.findClass RX4 = some m.cls := hown
  have hS : va_S (jA ad) s.heap s.heap [] := va_S.rf
  have hA : ∀ q, jA ad q → jA ad q := fun _ h => h
  have hl : lv_has ls 6 [(0, .ref (ad 2)), (1, .int a1), (2, .int a2), (3, .int a3)] := hl
  have g1 := jrg t1
  have g2 := jrg t2
  have g3 := jrg t3
  obtain ⟨i1, i2, i3, i4, i5, w6⟩ : (0 ≤ (σ 2 0).toInt ∧ (σ 2 0).toInt ≤ 4) ∧ (0 ≤ (σ 2 1).toInt ∧ (σ 2 1).toInt ≤ 3) ∧ (0 ≤ (σ 2 2).toInt) ∧ (0 ≤ (σ 2 3).toInt) ∧ ((σ 2 2).toInt + (σ 2 3).toInt ≤ 40) ∧ (∀ k : Nat, k < 40 → 0 ≤ (σ 6 k).toInt ∧ (σ 6 k).toInt ≤ 67) := hI2
  refine lv_aload_n hx hb dX4_join_0 rfl (lv_at hl 0 rfl) ?_
  refine va_get (D := D) hx hb hts inlX4 hown hK hP 2 (jc_2 cI cL ad σ τ) rfl 0 (by decide) (hts _ kw_9_5) (fun _ h9 => h9) rfl dX4_join_1 ?_
  refine lv_istore (lv' := [(4, .int (σ 2 0)), (0, .ref (ad 2)), (1, .int a1), (2, .int a2), (3, .int a3)]) hx hb dX4_join_4 hl (by decide) rfl (fun ls hl => ?_)
  refine lv_iload hx hb dX4_join_6 (lv_at hl 0 rfl) ?_
  refine lv_iconst (v := 4) hx hb dX4_join_8 (by decide) ?_
  refine lv_icmp_lt (tgt := 15) hx hb dX4_join_9 (by decide) (fun c7 => ?_) (fun c7 => ?_)
  · have kc7 := jlt c7 rfl jz_4
    refine lv_aload_n hx hb dX4_join_15 rfl (lv_at hl 1 rfl) ?_
    refine va_get (D := D) hx hb hts inlX4 hown hK hP 2 (jc_2 cI cL ad σ τ) rfl 5 (by decide) (hts _ kw_3_12) (fun _ h9 => h9) rfl dX4_join_16 ?_
    refine lv_iload hx hb dX4_join_19 (lv_at hl 0 rfl) ?_
    refine lv_iload_n hx hb dX4_join_21 rfl (lv_at hl 3 rfl) ?_
    refine jast hx hb hK hP hJ hA hS (jc_4 cI cL ad σ τ) (ja_4 cI cL ad σ τ _ _) (jin rfl (by omega) (by omega)) dX4_join_22 (fun σ8 H locs eσ8 hP hS => ?_)
    refine lv_aload_n hx hb dX4_join_23 rfl (lv_at hl 1 rfl) ?_
    refine va_get (D := D) hx hb hts inlX4 hown hK hP 2 (jc_2 cI cL ad σ8 τ) rfl 6 (by decide) (hts _ kw_3_13) (fun _ h9 => h9) rfl dX4_join_24 ?_
    refine lv_iload hx hb dX4_join_27 (lv_at hl 0 rfl) ?_
    refine lv_iload_n hx hb dX4_join_29 rfl (lv_at hl 4 rfl) ?_
    refine jast hx hb hK hP hJ hA hS (jc_5 cI cL ad σ8 τ) (ja_5 cI cL ad σ8 τ _ _) (jin rfl (by omega) (by omega)) dX4_join_30 (fun σ9 H locs eσ9 hP hS => ?_)
    refine lv_aload_n hx hb dX4_join_31 rfl (lv_at hl 1 rfl) ?_
    refine va_get (D := D) hx hb hts inlX4 hown hK hP 2 (jc_2 cI cL ad σ9 τ) rfl 4 (by decide) (hts _ kw_3_11) (fun _ h9 => h9) rfl dX4_join_32 ?_
    refine lv_bipush (v := 32) hx hb dX4_join_35 (by decide) ?_
    refine lv_iload hx hb dX4_join_37 (lv_at hl 0 rfl) ?_
    refine lv_iadd hx hb dX4_join_39 ?_
    refine lv_topi (fun x10 ex10 => ?_)
    have tx10 : x10.toInt = (σ 2 0).toInt + 32 := (jadd ex10 jz_32 rfl (by omega) (by omega)).trans (by omega)
    refine lv_iload_n hx hb dX4_join_40 rfl (lv_at hl 2 rfl) ?_
    refine jast hx hb hK hP hJ hA hS (jc_3 cI cL ad σ9 τ) (ja_3 cI cL ad σ9 τ _ _) (jin tx10 (by omega) (by omega)) dX4_join_41 (fun σ11 H locs eσ11 hP hS => ?_)
    refine lv_iconst (v := 0) hx hb dX4_join_42 (by decide) ?_
    refine lv_istore (lv' := [(5, .int 0), (4, .int (σ 2 0)), (0, .ref (ad 2)), (1, .int a1), (2, .int a2), (3, .int a3)]) hx hb dX4_join_43 hl (by decide) rfl (fun ls hl => ?_)
    refine lv_iload hx hb dX4_join_45 (lv_at hl 0 rfl) ?_
    refine lv_iconst (v := 4) hx hb dX4_join_47 (by decide) ?_
    refine lv_icmp_ge (tgt := 73) hx hb dX4_join_48 (by decide) (fun c => absurd c (by decide)) (fun _ => ?_)
    refine lv_aload_n hx hb dX4_join_51 rfl (lv_at hl 2 rfl) ?_
    refine va_get (D := D) hx hb hts inlX4 hown hK hP 2 (jc_2 cI cL ad σ11 τ) rfl 4 (by decide) (hts _ kw_3_11) (fun _ h9 => h9) rfl dX4_join_52 ?_
    refine lv_iconst (v := 0) hx hb dX4_join_55 (by decide) ?_
    refine lv_iload hx hb dX4_join_56 (lv_at hl 1 rfl) ?_
    refine lv_iconst (v := 4) hx hb dX4_join_58 (by decide) ?_
    refine lv_imul hx hb dX4_join_59 ?_
    refine lv_topi (fun x12 ex12 => ?_)
    have tx12 : x12.toInt = 4 * (σ 2 0).toInt := (jmul ex12 rfl jz_4 (by omega) (by omega)).trans (by omega)
    refine lv_iadd hx hb dX4_join_60 ?_
    refine jtopr (y := x12) (by rw [Int32.zero_add]) ?_
    refine lv_iload hx hb dX4_join_61 (lv_at hl 0 rfl) ?_
    refine lv_iadd hx hb dX4_join_63 ?_
    refine jtopr (y := x12) (by rw [Int32.add_zero]) ?_
    refine lv_bipush (v := 100) hx hb dX4_join_64 (by decide) ?_
    refine jast hx hb hK hP hJ hA hS (jc_3 cI cL ad σ11 τ) (ja_3 cI cL ad σ11 τ _ _) (jin tx12 (by omega) (by omega)) dX4_join_66 (fun σ13 H locs eσ13 hP hS => ?_)
    refine lv_iinc (v := 1) (lv' := [(5, .int 1), (4, .int (σ 2 0)), (0, .ref (ad 2)), (1, .int a1), (2, .int a2), (3, .int a3)]) hx hb dX4_join_67 hl (k := 0) rfl (by decide) (by decide) rfl (fun ls hl => ?_)
    refine lv_goto (tgt := 45) hx hb dX4_join_70 (by decide) ?_
    refine lv_iload hx hb dX4_join_45 (lv_at hl 0 rfl) ?_
    refine lv_iconst (v := 4) hx hb dX4_join_47 (by decide) ?_
    refine lv_icmp_ge (tgt := 73) hx hb dX4_join_48 (by decide) (fun c => absurd c (by decide)) (fun _ => ?_)
    refine lv_aload_n hx hb dX4_join_51 rfl (lv_at hl 2 rfl) ?_
    refine va_get (D := D) hx hb hts inlX4 hown hK hP 2 (jc_2 cI cL ad σ13 τ) rfl 4 (by decide) (hts _ kw_3_11) (fun _ h9 => h9) rfl dX4_join_52 ?_
    refine lv_iconst (v := 0) hx hb dX4_join_55 (by decide) ?_
    refine lv_iload hx hb dX4_join_56 (lv_at hl 1 rfl) ?_
    refine lv_iconst (v := 4) hx hb dX4_join_58 (by decide) ?_
    refine lv_imul hx hb dX4_join_59 ?_
    refine lv_topi (fun x14 ex14 => ?_)
    have tx14 : x14.toInt = 4 * (σ 2 0).toInt := (jmul ex14 rfl jz_4 (by omega) (by omega)).trans (by omega)
    refine lv_iadd hx hb dX4_join_60 ?_
    refine jtopr (y := x14) (by rw [Int32.zero_add]) ?_
    refine lv_iload hx hb dX4_join_61 (lv_at hl 0 rfl) ?_
    refine lv_iadd hx hb dX4_join_63 ?_
    refine lv_topi (fun x15 ex15 => ?_)
    have tx15 : x15.toInt = 4 * (σ 2 0).toInt + 1 := (jadd ex15 tx14 jz_1 (by omega) (by omega)).trans (by omega)
    refine lv_bipush (v := 100) hx hb dX4_join_64 (by decide) ?_
    refine jast hx hb hK hP hJ hA hS (jc_3 cI cL ad σ13 τ) (ja_3 cI cL ad σ13 τ _ _) (jin tx15 (by omega) (by omega)) dX4_join_66 (fun σ16 H locs eσ16 hP hS => ?_)
    refine lv_iinc (v := 2) (lv' := [(5, .int 2), (4, .int (σ 2 0)), (0, .ref (ad 2)), (1, .int a1), (2, .int a2), (3, .int a3)]) hx hb dX4_join_67 hl (k := 0) rfl (by decide) (by decide) rfl (fun ls hl => ?_)
    refine lv_goto (tgt := 45) hx hb dX4_join_70 (by decide) ?_
    refine lv_iload hx hb dX4_join_45 (lv_at hl 0 rfl) ?_
    refine lv_iconst (v := 4) hx hb dX4_join_47 (by decide) ?_
    refine lv_icmp_ge (tgt := 73) hx hb dX4_join_48 (by decide) (fun c => absurd c (by decide)) (fun _ => ?_)
    refine lv_aload_n hx hb dX4_join_51 rfl (lv_at hl 2 rfl) ?_
    refine va_get (D := D) hx hb hts inlX4 hown hK hP 2 (jc_2 cI cL ad σ16 τ) rfl 4 (by decide) (hts _ kw_3_11) (fun _ h9 => h9) rfl dX4_join_52 ?_
    refine lv_iconst (v := 0) hx hb dX4_join_55 (by decide) ?_
    refine lv_iload hx hb dX4_join_56 (lv_at hl 1 rfl) ?_
    refine lv_iconst (v := 4) hx hb dX4_join_58 (by decide) ?_
    refine lv_imul hx hb dX4_join_59 ?_
    refine lv_topi (fun x17 ex17 => ?_)
    have tx17 : x17.toInt = 4 * (σ 2 0).toInt := (jmul ex17 rfl jz_4 (by omega) (by omega)).trans (by omega)
    refine lv_iadd hx hb dX4_join_60 ?_
    refine jtopr (y := x17) (by rw [Int32.zero_add]) ?_
    refine lv_iload hx hb dX4_join_61 (lv_at hl 0 rfl) ?_
    refine lv_iadd hx hb dX4_join_63 ?_
    refine lv_topi (fun x18 ex18 => ?_)
    have tx18 : x18.toInt = 4 * (σ 2 0).toInt + 2 := (jadd ex18 tx17 jz_2 (by omega) (by omega)).trans (by omega)
    refine lv_bipush (v := 100) hx hb dX4_join_64 (by decide) ?_
    refine jast hx hb hK hP hJ hA hS (jc_3 cI cL ad σ16 τ) (ja_3 cI cL ad σ16 τ _ _) (jin tx18 (by omega) (by omega)) dX4_join_66 (fun σ19 H locs eσ19 hP hS => ?_)
    refine lv_iinc (v := 3) (lv' := [(5, .int 3), (4, .int (σ 2 0)), (0, .ref (ad 2)), (1, .int a1), (2, .int a2), (3, .int a3)]) hx hb dX4_join_67 hl (k := 0) rfl (by decide) (by decide) rfl (fun ls hl => ?_)
    refine lv_goto (tgt := 45) hx hb dX4_join_70 (by decide) ?_
    refine lv_iload hx hb dX4_join_45 (lv_at hl 0 rfl) ?_
    refine lv_iconst (v := 4) hx hb dX4_join_47 (by decide) ?_
    refine lv_icmp_ge (tgt := 73) hx hb dX4_join_48 (by decide) (fun c => absurd c (by decide)) (fun _ => ?_)
    refine lv_aload_n hx hb dX4_join_51 rfl (lv_at hl 2 rfl) ?_
    refine va_get (D := D) hx hb hts inlX4 hown hK hP 2 (jc_2 cI cL ad σ19 τ) rfl 4 (by decide) (hts _ kw_3_11) (fun _ h9 => h9) rfl dX4_join_52 ?_
    refine lv_iconst (v := 0) hx hb dX4_join_55 (by decide) ?_
    refine lv_iload hx hb dX4_join_56 (lv_at hl 1 rfl) ?_
    refine lv_iconst (v := 4) hx hb dX4_join_58 (by decide) ?_
    refine lv_imul hx hb dX4_join_59 ?_
    refine lv_topi (fun x20 ex20 => ?_)
    have tx20 : x20.toInt = 4 * (σ 2 0).toInt := (jmul ex20 rfl jz_4 (by omega) (by omega)).trans (by omega)
    refine lv_iadd hx hb dX4_join_60 ?_
    refine jtopr (y := x20) (by rw [Int32.zero_add]) ?_
    refine lv_iload hx hb dX4_join_61 (lv_at hl 0 rfl) ?_
    refine lv_iadd hx hb dX4_join_63 ?_
    refine lv_topi (fun x21 ex21 => ?_)
    have tx21 : x21.toInt = 4 * (σ 2 0).toInt + 3 := (jadd ex21 tx20 jz_3 (by omega) (by omega)).trans (by omega)
    refine lv_bipush (v := 100) hx hb dX4_join_64 (by decide) ?_
    refine jast hx hb hK hP hJ hA hS (jc_3 cI cL ad σ19 τ) (ja_3 cI cL ad σ19 τ _ _) (jin tx21 (by omega) (by omega)) dX4_join_66 (fun σ22 H locs eσ22 hP hS => ?_)
    refine lv_iinc (v := 4) (lv' := [(5, .int 4), (4, .int (σ 2 0)), (0, .ref (ad 2)), (1, .int a1), (2, .int a2), (3, .int a3)]) hx hb dX4_join_67 hl (k := 0) rfl (by decide) (by decide) rfl (fun ls hl => ?_)
    refine lv_goto (tgt := 45) hx hb dX4_join_70 (by decide) ?_
    refine lv_iload hx hb dX4_join_45 (lv_at hl 0 rfl) ?_
    refine lv_iconst (v := 4) hx hb dX4_join_47 (by decide) ?_
    refine lv_icmp_ge (tgt := 73) hx hb dX4_join_48 (by decide) (fun _ => ?_) (fun c => absurd (by decide) c)
    refine lv_aload_n hx hb dX4_join_73 rfl (lv_at hl 2 rfl) ?_
    refine lv_dup hx hb dX4_join_74 rfl ?_
    refine va_get (D := D) hx hb hts inlX4 hown hK hP 2 (jc_2 cI cL ad σ22 τ) rfl 0 (by decide) (hts _ kw_9_5) (fun _ h9 => h9) rfl dX4_join_75 ?_
    have m23 : σ22 2 0 = (σ 2 0) := (by rw [eσ22, jup_n (by decide)]; exact (by rw [eσ19, jup_n (by decide)]; exact (by rw [eσ16, jup_n (by decide)]; exact (by rw [eσ13, jup_n (by decide)]; exact (by rw [eσ11, jup_n (by decide)]; exact (by rw [eσ9, jup_n (by decide)]; exact (by rw [eσ8, jup_n (by decide)])))))))
    refine jtopr m23 ?_
    refine lv_iconst (v := 1) hx hb dX4_join_78 (by decide) ?_
    refine lv_iadd hx hb dX4_join_79 ?_
    refine lv_topi (fun x24 ex24 => ?_)
    have tx24 : x24.toInt = (σ 2 0).toInt + 1 := (jadd ex24 rfl jz_1 (by omega) (by omega)).trans (by omega)
    refine jput (ty := .int) hx hb hts inlX4 tyX4 tyX4_ok nmX4 hown hK hP hJ hA hS (jc_2 cI cL ad σ22 τ) rfl (k := 0) (by decide) (Nat.le_of_ble_eq_true rfl) (jp_2_0 cI cL ad σ22 τ x24) (hts _ kw_9_5) (fun _ h9 => h9) rfl (by decide +kernel) rfl rfl dX4_join_80 (fun σ25 H locs eσ25 hP hS => ?_)
    refine lv_iload hx hb dX4_join_83 (lv_at hl 1 rfl) ?_
    have z26 : (σ25 2 0).toInt = (σ 2 0).toInt + 1 := by rw [(show σ25 2 0 = x24 from (by rw [eσ25]; exact jup_s))]; exact tx24
    have z27 : (σ25 2 1).toInt = (σ 2 1).toInt := by rw [(show σ25 2 1 = (σ 2 1) from (by rw [eσ25, jup_k (by decide)]; exact (by rw [eσ22, jup_n (by decide)]; exact (by rw [eσ19, jup_n (by decide)]; exact (by rw [eσ16, jup_n (by decide)]; exact (by rw [eσ13, jup_n (by decide)]; exact (by rw [eσ11, jup_n (by decide)]; exact (by rw [eσ9, jup_n (by decide)]; exact (by rw [eσ8, jup_n (by decide)])))))))))]
    have z28 : (σ25 2 2).toInt = (σ 2 2).toInt := by rw [(show σ25 2 2 = (σ 2 2) from (by rw [eσ25, jup_k (by decide)]; exact (by rw [eσ22, jup_n (by decide)]; exact (by rw [eσ19, jup_n (by decide)]; exact (by rw [eσ16, jup_n (by decide)]; exact (by rw [eσ13, jup_n (by decide)]; exact (by rw [eσ11, jup_n (by decide)]; exact (by rw [eσ9, jup_n (by decide)]; exact (by rw [eσ8, jup_n (by decide)])))))))))]
    have z29 : (σ25 2 3).toInt = (σ 2 3).toInt := by rw [(show σ25 2 3 = (σ 2 3) from (by rw [eσ25, jup_k (by decide)]; exact (by rw [eσ22, jup_n (by decide)]; exact (by rw [eσ19, jup_n (by decide)]; exact (by rw [eσ16, jup_n (by decide)]; exact (by rw [eσ13, jup_n (by decide)]; exact (by rw [eσ11, jup_n (by decide)]; exact (by rw [eσ9, jup_n (by decide)]; exact (by rw [eσ8, jup_n (by decide)])))))))))]
    have w30 : ∀ k : Nat, k < 40 → 0 ≤ (σ25 6 k).toInt ∧ (σ25 6 k).toInt ≤ 67 := (by rw [eσ25, jup_n (by decide)]; exact (by rw [eσ22, jup_n (by decide)]; exact (by rw [eσ19, jup_n (by decide)]; exact (by rw [eσ16, jup_n (by decide)]; exact (by rw [eσ13, jup_n (by decide)]; exact (by rw [eσ11, jup_n (by decide)]; exact (by rw [eσ9, jup_n (by decide)]; exact (by rw [eσ8, jup_n (by decide)]; exact w6))))))))
    have I31 : jI2 σ25 := ⟨(by omega), (by omega), (by omega), (by omega), (by omega), w30⟩
    exact hret (σ 2 0) σ25 τ _ _ _ _ rfl ⟨(fun i hi => by rw [eσ25, jup_n (by omega), eσ22, jup_n (by omega), eσ19, jup_n (by omega), eσ16, jup_n (by omega), eσ13, jup_n (by omega), eσ11, jup_n (by omega), eσ9, jup_n (by omega), eσ8, jup_n (by omega)]), (fun k hk => by rw [eσ25, jup_k (by omega), eσ22, jup_n (by decide), eσ19, jup_n (by decide), eσ16, jup_n (by decide), eσ13, jup_n (by decide), eσ11, jup_n (by decide), eσ9, jup_n (by decide), eσ8, jup_n (by decide)]), I31, Or.inr (⟨trivial, (by omega), (by omega), (by omega)⟩)⟩ hP hS dX4_join_85
  · have kc7 := jnlt c7 rfl jz_4
    refine lv_bipush (v := (-3)) hx hb dX4_join_12 (by decide) ?_
    have I32 : jI2 σ := ⟨(by omega), (by omega), (by omega), (by omega), (by omega), w6⟩
    exact hret (-3) σ τ _ _ _ _ rfl ⟨(fun _ _ => rfl), (fun _ _ => rfl), I32, Or.inl ⟨rfl, (by have h9 := jz_m3; omega), (by have h9 := jz_m3; omega)⟩⟩ hP hS dX4_join_14
set_option maxHeartbeats 4000000 in
set_option maxRecDepth 100000 in
theorem c_X4_dropOldest_2 (l : Launch) (D : va_G) (cI cL : ClassId) (ad zz : Nat → Nat) (hJ : jD ad) (σ : Nat → Nat → Int32) (τ : Nat → Nat → Int64) (hI2 : jI2 σ) (hp0 : (σ 2 2).toInt = 40) : jMv l yX4_dropOldest cX4_dropOldest 2 none ({ frames := 0, cells := 0, slots := 0, locals := 0 }) D cI cL ad zz [.ref (ad 2)] σ τ (fun σ' τ' => (∀ i : Nat, (i < 2 ∨ 2 < i) ∧ (i < 6 ∨ 8 < i) → σ' i = σ i) ∧ (∀ k : Nat, (k < 2 ∨ 2 < k) → σ' 2 k = σ 2 k) ∧ (∀ k : Nat, k < 40 → 0 ≤ (σ' 6 k).toInt ∧ (σ' 6 k).toInt ≤ 67) ∧ ((σ' 2 2).toInt = 39) ∧ True) := by
  refine jMv.of hJ (by decide +kernel) rfl (Nat.le_of_ble_eq_true rfl) ?_
  intro p e s m args below meth c Q ls hC hret hl hP
  obtain ⟨hx, hb, hr, hml, hown, hts, hK, -, hlocks, hZ⟩ := hC
  have hown : s.vm.findClass RX4 = some m.cls := hown
  have hS : va_S (jA ad) s.heap s.heap [] := va_S.rf
  have hA : ∀ q, jA ad q → jA ad q := fun _ h => h
  have hl : lv_has ls 2 [(0, .ref (ad 2))] := hl
  obtain ⟨i1, i2, i3, i4, i5, w6⟩ : (0 ≤ (σ 2 0).toInt ∧ (σ 2 0).toInt ≤ 4) ∧ (0 ≤ (σ 2 1).toInt ∧ (σ 2 1).toInt ≤ 3) ∧ (0 ≤ (σ 2 2).toInt) ∧ (0 ≤ (σ 2 3).toInt) ∧ ((σ 2 2).toInt + (σ 2 3).toInt ≤ 40) ∧ (∀ k : Nat, k < 40 → 0 ≤ (σ 6 k).toInt ∧ (σ 6 k).toInt ≤ 67) := hI2
  refine lv_iconst (v := 1) hx hb dX4_dropOldest_0 (by decide) ?_
  refine lv_istore_n (lv' := [(1, .int 1), (0, .ref (ad 2))]) hx hb dX4_dropOldest_1 rfl hl (by decide) rfl (fun ls hl => ?_)
  have lp7 : ∀ (n8 : Nat) (x9 : Int32) (σ10 : Nat → Nat → Int32) (τ10 : Nat → Nat → Int64) (H : Heap) (locs : List Loc) (ls : Array Slot), (-x9.toInt + 40 : Int) < n8 → 1 ≤ x9.toInt → x9.toInt ≤ 40 → (∀ i : Nat, (i < 6 ∨ 8 < i) → σ10 i = σ i) → (∀ k : Nat, k < 40 → 0 ≤ (σ10 6 k).toInt ∧ (σ10 6 k).toInt ≤ 67) → jH D cI cL ad σ10 τ10 H → va_S (jA ad) s.heap H locs → lv_has ls 2 [(1, .int x9), (0, .ref (ad 2))] → W p l e ({ frames := 0, cells := 0, slots := 0, locals := 0 }) s m args below meth c H locs 0 0 Q (F0 m 2 ls []) := by
    intro n8
    induction n8 with
    | zero => intro x9 σ10 τ10 H locs ls h11 h12 h13; exact absurd h11 (by omega)
    | succ n8 ihlp7 =>
      intro x9 σ10 τ10 H locs ls h11 h12 h13 f14 w15 hP hS hl
      refine lv_iload_n hx hb dX4_dropOldest_2 rfl (lv_at hl 0 rfl) ?_
      refine lv_bipush (v := 40) hx hb dX4_dropOldest_3 (by decide) ?_
      refine lv_icmp_ge (tgt := 56) hx hb dX4_dropOldest_5 (by decide) (fun c16 => ?_) (fun c16 => ?_)
      · have kc16 := jle c16 jz_40 rfl
        refine lv_aload_n hx hb dX4_dropOldest_56 rfl (lv_at hl 1 rfl) ?_
        refine lv_bipush (v := 39) hx hb dX4_dropOldest_57 (by decide) ?_
        refine jput (ty := .int) hx hb hts inlX4 tyX4 tyX4_ok nmX4 hown hK hP hJ hA hS (jc_2 cI cL ad σ10 τ10) rfl (k := 2) (by decide) (Nat.le_of_ble_eq_true rfl) (jp_2_2 cI cL ad σ10 τ10 39) (hts _ kw_10_17) (fun _ h9 => h9) rfl (by decide +kernel) rfl rfl dX4_dropOldest_59 (fun σ17 H locs eσ17 hP hS => ?_)
        have w18 : ∀ k : Nat, k < 40 → 0 ≤ (σ17 6 k).toInt ∧ (σ17 6 k).toInt ≤ 67 := (by rw [eσ17, jup_n (by decide)]; exact w15)
        have z19 : (σ17 2 2).toInt = 39 := by rw [(show σ17 2 2 = 39 from (by rw [eσ17]; exact jup_s))]; exact jz_39
        exact hret σ17 τ10 _ _ _ _ ⟨(fun i hi => by rw [eσ17, jup_n (by omega), f14 i (by omega)]), (fun k hk => by rw [eσ17, jup_k (by omega), f14 2 (by omega)]), w18, (by omega), trivial⟩ hP hS dX4_dropOldest_62
      · have kc16 := jnle c16 jz_40 rfl
        refine lv_aload_n hx hb dX4_dropOldest_8 rfl (lv_at hl 1 rfl) ?_
        refine va_get (D := D) hx hb hts inlX4 hown hK hP 2 (jc_2 cI cL ad σ10 τ10) rfl 7 (by decide) (hts _ kw_3_14) (fun _ h9 => h9) rfl dX4_dropOldest_9 ?_
        refine lv_iload_n hx hb dX4_dropOldest_12 rfl (lv_at hl 0 rfl) ?_
        refine lv_iconst (v := 1) hx hb dX4_dropOldest_13 (by decide) ?_
        refine lv_isub hx hb dX4_dropOldest_14 ?_
        refine lv_topi (fun x20 ex20 => ?_)
        have tx20 : x20.toInt = x9.toInt - 1 := (jsub ex20 rfl jz_1 (by omega) (by omega)).trans (by omega)
        refine lv_aload_n hx hb dX4_dropOldest_15 rfl (lv_at hl 1 rfl) ?_
        refine va_get (D := D) hx hb hts inlX4 hown hK hP 2 (jc_2 cI cL ad σ10 τ10) rfl 7 (by decide) (hts _ kw_3_14) (fun _ h9 => h9) rfl dX4_dropOldest_16 ?_
        refine lv_iload_n hx hb dX4_dropOldest_19 rfl (lv_at hl 0 rfl) ?_
        refine jald hx hb hK hP (jc_6 cI cL ad σ10 τ10) (jin rfl (by omega) (by omega)) dX4_dropOldest_20 ?_
        have g21 := w15 _ (jnat rfl (n := 40) (by omega) (by decide))
        refine lv_topi (fun x22 ex22 => ?_)
        rw [← ex22] at g21
        refine jast hx hb hK hP hJ hA hS (jc_6 cI cL ad σ10 τ10) (ja_6 cI cL ad σ10 τ10 _ _) (jin tx20 (by omega) (by omega)) dX4_dropOldest_21 (fun σ23 H locs eσ23 hP hS => ?_)
        refine lv_aload_n hx hb dX4_dropOldest_22 rfl (lv_at hl 1 rfl) ?_
        refine va_get (D := D) hx hb hts inlX4 hown hK hP 2 (jc_2 cI cL ad σ23 τ10) rfl 8 (by decide) (hts _ kw_3_15) (fun _ h9 => h9) rfl dX4_dropOldest_23 ?_
        refine lv_iload_n hx hb dX4_dropOldest_26 rfl (lv_at hl 0 rfl) ?_
        refine lv_iconst (v := 1) hx hb dX4_dropOldest_27 (by decide) ?_
        refine lv_isub hx hb dX4_dropOldest_28 ?_
        refine lv_topi (fun x24 ex24 => ?_)
        have tx24 : x24.toInt = x9.toInt - 1 := (jsub ex24 rfl jz_1 (by omega) (by omega)).trans (by omega)
        refine lv_aload_n hx hb dX4_dropOldest_29 rfl (lv_at hl 1 rfl) ?_
        refine va_get (D := D) hx hb hts inlX4 hown hK hP 2 (jc_2 cI cL ad σ23 τ10) rfl 8 (by decide) (hts _ kw_3_15) (fun _ h9 => h9) rfl dX4_dropOldest_30 ?_
        refine lv_iload_n hx hb dX4_dropOldest_33 rfl (lv_at hl 0 rfl) ?_
        refine jald hx hb hK hP (jc_7 cI cL ad σ23 τ10) (jin rfl (by omega) (by omega)) dX4_dropOldest_34 ?_
        refine lv_topi (fun x25 ex25 => ?_)
        refine jast hx hb hK hP hJ hA hS (jc_7 cI cL ad σ23 τ10) (ja_7 cI cL ad σ23 τ10 _ _) (jin tx24 (by omega) (by omega)) dX4_dropOldest_35 (fun σ26 H locs eσ26 hP hS => ?_)
        refine lv_aload_n hx hb dX4_dropOldest_36 rfl (lv_at hl 1 rfl) ?_
        refine va_get (D := D) hx hb hts inlX4 hown hK hP 2 (jc_2 cI cL ad σ26 τ10) rfl 9 (by decide) (hts _ kw_3_16) (fun _ h9 => h9) rfl dX4_dropOldest_37 ?_
        refine lv_iload_n hx hb dX4_dropOldest_40 rfl (lv_at hl 0 rfl) ?_
        refine lv_iconst (v := 1) hx hb dX4_dropOldest_41 (by decide) ?_
        refine lv_isub hx hb dX4_dropOldest_42 ?_
        refine lv_topi (fun x27 ex27 => ?_)
        have tx27 : x27.toInt = x9.toInt - 1 := (jsub ex27 rfl jz_1 (by omega) (by omega)).trans (by omega)
        refine lv_aload_n hx hb dX4_dropOldest_43 rfl (lv_at hl 1 rfl) ?_
        refine va_get (D := D) hx hb hts inlX4 hown hK hP 2 (jc_2 cI cL ad σ26 τ10) rfl 9 (by decide) (hts _ kw_3_16) (fun _ h9 => h9) rfl dX4_dropOldest_44 ?_
        refine lv_iload_n hx hb dX4_dropOldest_47 rfl (lv_at hl 0 rfl) ?_
        refine jald hx hb hK hP (jc_8 cI cL ad σ26 τ10) (jin rfl (by omega) (by omega)) dX4_dropOldest_48 ?_
        refine lv_topi (fun x28 ex28 => ?_)
        refine jast hx hb hK hP hJ hA hS (jc_8 cI cL ad σ26 τ10) (ja_8 cI cL ad σ26 τ10 _ _) (jin tx27 (by omega) (by omega)) dX4_dropOldest_49 (fun σ29 H locs eσ29 hP hS => ?_)
        obtain ⟨x30, ex30⟩ : ∃ y : Int32, y = x9 + 1 := ⟨_, rfl⟩
        have tx30 : x30.toInt = x9.toInt + 1 := (jadd ex30 rfl jz_1 (by omega) (by omega)).trans (by omega)
        refine lv_iinc (v := x30) (lv' := [(1, .int x30), (0, .ref (ad 2))]) hx hb dX4_dropOldest_50 hl (k := 0) rfl (by rw [ex30]; rfl) (by decide) rfl (fun ls hl => ?_)
        refine lv_goto (tgt := 2) hx hb dX4_dropOldest_53 (by decide) ?_
        have w31 : ∀ k : Nat, k < 40 → 0 ≤ (σ29 6 k).toInt ∧ (σ29 6 k).toInt ≤ 67 := (by rw [eσ29, jup_n (by decide)]; exact (by rw [eσ26, jup_n (by decide)]; exact (by rw [eσ23]; exact jrr_up w15 (by omega) (by omega))))
        exact ihlp7 x30 σ29 τ10 _ _ ls (by have h90 := tx30; omega) (by have h90 := tx30; omega) (by have h90 := tx30; omega) (fun i hi => by rw [eσ29, jup_n (by omega), eσ26, jup_n (by omega), eσ23, jup_n (by omega), f14 i hi])   w31 hP hS (lv_sub hl [0, 1] rfl)
  exact lp7 100 1 σ τ _ _ ls (by have h90 := jz_1; omega) (by have h90 := jz_1; omega) (by have h90 := jz_1; omega) (fun _ _ => rfl)  w6 hP hS hl
set_option maxHeartbeats 4000000 in
set_option maxRecDepth 100000 in
theorem c_X4_change_2 (l : Launch) (D : va_G) (cI cL : ClassId) (ad zz : Nat → Nat) (hJ : jD ad) (σ : Nat → Nat → Int32) (τ : Nat → Nat → Int64) (a1 : Int32) (A1 : Int) (t1 : a1.toInt = A1) (a2 : Int32) (A2 : Int) (t2 : a2.toInt = A2) (hI2 : jI2 σ) (hp0 : 0 ≤ A1 ∧ A1 < 68) : jM l yX4_change cX4_change 4 (some .int) ({ frames := 1, cells := 0, slots := 0, locals := 21 }) D cI cL ad zz [.ref (ad 2), .int a1, .int a2] σ τ (fun r σ' τ' => (∀ i : Nat, (i < 2 ∨ 3 < i) ∧ (i < 6 ∨ 8 < i) → σ' i = σ i) ∧ (∀ k : Nat, (k < 2 ∨ 2 < k) ∧ (k < 3 ∨ 3 < k) → σ' 2 k = σ 2 k) ∧ (jI2 σ') ∧ True) := by
  refine jM.of hJ (by decide +kernel) (nt := .int) rfl (Nat.le_of_ble_eq_true rfl) ?_
  intro p e s m args below meth c Q ls hC hret hl hP
  obtain ⟨hx, hb, hr, hml, hown, hts, hK, -, hlocks, hZ⟩ := hC
  have hown : s.vm.findClass RX4 = some m.cls := hown
  have hS : va_S (jA ad) s.heap s.heap [] := va_S.rf
  have hA : ∀ q, jA ad q → jA ad q := fun _ h => h
  have hl : lv_has ls 4 [(0, .ref (ad 2)), (1, .int a1), (2, .int a2)] := hl
  have g1 := jrg t1
  have g2 := jrg t2
  obtain ⟨i1, i2, i3, i4, i5, w6⟩ : (0 ≤ (σ 2 0).toInt ∧ (σ 2 0).toInt ≤ 4) ∧ (0 ≤ (σ 2 1).toInt ∧ (σ 2 1).toInt ≤ 3) ∧ (0 ≤ (σ 2 2).toInt) ∧ (0 ≤ (σ 2 3).toInt) ∧ ((σ 2 2).toInt + (σ 2 3).toInt ≤ 40) ∧ (∀ k : Nat, k < 40 → 0 ≤ (σ 6 k).toInt ∧ (σ 6 k).toInt ≤ 67) := hI2
  refine lv_iload_n hx hb dX4_change_0 rfl (lv_at hl 1 rfl) ?_
  refine lv_if_lt (tgt := 10) hx hb dX4_change_1 (by decide) (fun c => absurd (jlt c t1 jz_0) (by omega)) (fun c7 => ?_)
  have kc7 := jnlt c7 t1 jz_0
  refine lv_iload_n hx hb dX4_change_4 rfl (lv_at hl 1 rfl) ?_
  refine lv_bipush (v := 68) hx hb dX4_change_5 (by decide) ?_
  refine lv_icmp_lt (tgt := 13) hx hb dX4_change_7 (by decide) (fun c8 => ?_) (fun c => absurd (jnlt c t1 jz_68) (by omega))
  have kc8 := jlt c8 t1 jz_68
  refine lv_aload_n hx hb dX4_change_13 rfl (lv_at hl 0 rfl) ?_
  refine va_get (D := D) hx hb hts inlX4 hown hK hP 2 (jc_2 cI cL ad σ τ) rfl 4 (by decide) (hts _ kw_3_11) (fun _ h9 => h9) rfl dX4_change_14 ?_
  refine lv_iload_n hx hb dX4_change_17 rfl (lv_at hl 1 rfl) ?_
  refine jald hx hb hK hP (jc_3 cI cL ad σ τ) (jin t1 (by omega) (by omega)) dX4_change_18 ?_
  refine lv_topi (fun x9 ex9 => ?_)
  refine lv_istore_n (lv' := [(3, .int x9), (0, .ref (ad 2)), (1, .int a1), (2, .int a2)]) hx hb dX4_change_19 rfl hl (by decide) rfl (fun ls hl => ?_)
  refine lv_iload_n hx hb dX4_change_20 rfl (lv_at hl 0 rfl) ?_
  refine lv_iload_n hx hb dX4_change_21 rfl (lv_at hl 3 rfl) ?_
  refine lv_icmp_ne (tgt := 27) hx hb dX4_change_22 (by decide) (fun c10 => ?_) (fun c10 => ?_)
  · have kc10 := jne c10 rfl t2
    refine lv_aload_n hx hb dX4_change_27 rfl (lv_at hl 1 rfl) ?_
    refine va_get (D := D) hx hb hts inlX4 hown hK hP 2 (jc_2 cI cL ad σ τ) rfl 2 (by decide) (hts _ kw_10_17) (fun _ h9 => h9) rfl dX4_change_28 ?_
    refine lv_bipush (v := 40) hx hb dX4_change_31 (by decide) ?_
    refine lv_icmp_lt (tgt := 40) hx hb dX4_change_33 (by decide) (fun c11 => ?_) (fun c11 => ?_)
    · have kc11 := jlt c11 rfl jz_40
      refine lv_aload_n hx hb dX4_change_40 rfl (lv_at hl 1 rfl) ?_
      refine va_get (D := D) hx hb hts inlX4 hown hK hP 2 (jc_2 cI cL ad σ τ) rfl 7 (by decide) (hts _ kw_3_14) (fun _ h9 => h9) rfl dX4_change_41 ?_
      refine lv_aload_n hx hb dX4_change_44 rfl (lv_at hl 1 rfl) ?_
      refine va_get (D := D) hx hb hts inlX4 hown hK hP 2 (jc_2 cI cL ad σ τ) rfl 2 (by decide) (hts _ kw_10_17) (fun _ h9 => h9) rfl dX4_change_45 ?_
      refine lv_iload_n hx hb dX4_change_48 rfl (lv_at hl 2 rfl) ?_
      refine jast hx hb hK hP hJ hA hS (jc_6 cI cL ad σ τ) (ja_6 cI cL ad σ τ _ _) (jin rfl (by omega) (by omega)) dX4_change_49 (fun σ12 H locs eσ12 hP hS => ?_)
      refine lv_aload_n hx hb dX4_change_50 rfl (lv_at hl 1 rfl) ?_
      refine va_get (D := D) hx hb hts inlX4 hown hK hP 2 (jc_2 cI cL ad σ12 τ) rfl 8 (by decide) (hts _ kw_3_15) (fun _ h9 => h9) rfl dX4_change_51 ?_
      refine lv_aload_n hx hb dX4_change_54 rfl (lv_at hl 1 rfl) ?_
      refine va_get (D := D) hx hb hts inlX4 hown hK hP 2 (jc_2 cI cL ad σ12 τ) rfl 2 (by decide) (hts _ kw_10_17) (fun _ h9 => h9) rfl dX4_change_55 ?_
      have m13 : σ12 2 2 = (σ 2 2) := (by rw [eσ12, jup_n (by decide)])
      refine jtopr m13 ?_
      refine lv_iload_n hx hb dX4_change_58 rfl (lv_at hl 0 rfl) ?_
      refine jast hx hb hK hP hJ hA hS (jc_7 cI cL ad σ12 τ) (ja_7 cI cL ad σ12 τ _ _) (jin rfl (by omega) (by omega)) dX4_change_59 (fun σ14 H locs eσ14 hP hS => ?_)
      refine lv_aload_n hx hb dX4_change_60 rfl (lv_at hl 1 rfl) ?_
      refine va_get (D := D) hx hb hts inlX4 hown hK hP 2 (jc_2 cI cL ad σ14 τ) rfl 9 (by decide) (hts _ kw_3_16) (fun _ h9 => h9) rfl dX4_change_61 ?_
      refine lv_aload_n hx hb dX4_change_64 rfl (lv_at hl 1 rfl) ?_
      refine va_get (D := D) hx hb hts inlX4 hown hK hP 2 (jc_2 cI cL ad σ14 τ) rfl 2 (by decide) (hts _ kw_10_17) (fun _ h9 => h9) rfl dX4_change_65 ?_
      have m15 : σ14 2 2 = (σ 2 2) := (by rw [eσ14, jup_n (by decide)]; exact m13)
      refine jtopr m15 ?_
      refine lv_iload_n hx hb dX4_change_68 rfl (lv_at hl 3 rfl) ?_
      refine jast hx hb hK hP hJ hA hS (jc_8 cI cL ad σ14 τ) (ja_8 cI cL ad σ14 τ _ _) (jin rfl (by omega) (by omega)) dX4_change_69 (fun σ16 H locs eσ16 hP hS => ?_)
      refine lv_aload_n hx hb dX4_change_70 rfl (lv_at hl 1 rfl) ?_
      refine lv_dup hx hb dX4_change_71 rfl ?_
      refine va_get (D := D) hx hb hts inlX4 hown hK hP 2 (jc_2 cI cL ad σ16 τ) rfl 2 (by decide) (hts _ kw_10_17) (fun _ h9 => h9) rfl dX4_change_72 ?_
      have m17 : σ16 2 2 = (σ 2 2) := (by rw [eσ16, jup_n (by decide)]; exact m15)
      refine jtopr m17 ?_
      refine lv_iconst (v := 1) hx hb dX4_change_75 (by decide) ?_
      refine lv_iadd hx hb dX4_change_76 ?_
      refine lv_topi (fun x18 ex18 => ?_)
      have tx18 : x18.toInt = (σ 2 2).toInt + 1 := (jadd ex18 rfl jz_1 (by omega) (by omega)).trans (by omega)
      refine jput (ty := .int) hx hb hts inlX4 tyX4 tyX4_ok nmX4 hown hK hP hJ hA hS (jc_2 cI cL ad σ16 τ) rfl (k := 2) (by decide) (Nat.le_of_ble_eq_true rfl) (jp_2_2 cI cL ad σ16 τ x18) (hts _ kw_10_17) (fun _ h9 => h9) rfl (by decide +kernel) rfl rfl dX4_change_77 (fun σ19 H locs eσ19 hP hS => ?_)
      refine lv_aload_n hx hb dX4_change_80 rfl (lv_at hl 1 rfl) ?_
      refine lv_iconst (v := 0) hx hb dX4_change_81 (by decide) ?_
      refine jput (ty := .int) hx hb hts inlX4 tyX4 tyX4_ok nmX4 hown hK hP hJ hA hS (jc_2 cI cL ad σ19 τ) rfl (k := 3) (by decide) (Nat.le_of_ble_eq_true rfl) (jp_2_3 cI cL ad σ19 τ 0) (hts _ kw_10_18) (fun _ h9 => h9) rfl (by decide +kernel) rfl rfl dX4_change_82 (fun σ20 H locs eσ20 hP hS => ?_)
      refine lv_aload_n hx hb dX4_change_85 rfl (lv_at hl 1 rfl) ?_
      refine va_get (D := D) hx hb hts inlX4 hown hK hP 2 (jc_2 cI cL ad σ20 τ) rfl 4 (by decide) (hts _ kw_3_11) (fun _ h9 => h9) rfl dX4_change_86 ?_
      refine lv_iload_n hx hb dX4_change_89 rfl (lv_at hl 2 rfl) ?_
      refine lv_iload_n hx hb dX4_change_90 rfl (lv_at hl 3 rfl) ?_
      refine jast hx hb hK hP hJ hA hS (jc_3 cI cL ad σ20 τ) (ja_3 cI cL ad σ20 τ _ _) (jin t1 (by omega) (by omega)) dX4_change_91 (fun σ21 H locs eσ21 hP hS => ?_)
      refine lv_iload_n hx hb dX4_change_92 rfl (lv_at hl 0 rfl) ?_
      have z22 : (σ21 2 0).toInt = (σ 2 0).toInt := by rw [(show σ21 2 0 = (σ 2 0) from (by rw [eσ21, jup_n (by decide)]; exact (by rw [eσ20, jup_k (by decide)]; exact (by rw [eσ19, jup_k (by decide)]; exact (by rw [eσ16, jup_n (by decide)]; exact (by rw [eσ14, jup_n (by decide)]; exact (by rw [eσ12, jup_n (by decide)])))))))]
      have z23 : (σ21 2 1).toInt = (σ 2 1).toInt := by rw [(show σ21 2 1 = (σ 2 1) from (by rw [eσ21, jup_n (by decide)]; exact (by rw [eσ20, jup_k (by decide)]; exact (by rw [eσ19, jup_k (by decide)]; exact (by rw [eσ16, jup_n (by decide)]; exact (by rw [eσ14, jup_n (by decide)]; exact (by rw [eσ12, jup_n (by decide)])))))))]
      have z24 : (σ21 2 2).toInt = (σ 2 2).toInt + 1 := by rw [(show σ21 2 2 = x18 from (by rw [eσ21, jup_n (by decide)]; exact (by rw [eσ20, jup_k (by decide)]; exact (by rw [eσ19]; exact jup_s))))]; exact tx18
      have z25 : (σ21 2 3).toInt = 0 := by rw [(show σ21 2 3 = 0 from (by rw [eσ21, jup_n (by decide)]; exact (by rw [eσ20]; exact jup_s)))]; exact jz_0
      have w26 : ∀ k : Nat, k < 40 → 0 ≤ (σ21 6 k).toInt ∧ (σ21 6 k).toInt ≤ 67 := (by rw [eσ21, jup_n (by decide)]; exact (by rw [eσ20, jup_n (by decide)]; exact (by rw [eσ19, jup_n (by decide)]; exact (by rw [eσ16, jup_n (by decide)]; exact (by rw [eσ14, jup_n (by decide)]; exact (by rw [eσ12]; exact jrr_up w6 (by have h9 := t1; omega) (by have h9 := t1; omega)))))))
      have I27 : jI2 σ21 := ⟨(by omega), (by omega), (by omega), (by omega), (by omega), w26⟩
      exact hret x9 σ21 τ _ _ _ _ rfl ⟨(fun i hi => by rw [eσ21, jup_n (by omega), eσ20, jup_n (by omega), eσ19, jup_n (by omega), eσ16, jup_n (by omega), eσ14, jup_n (by omega), eσ12, jup_n (by omega)]), (fun k hk => by rw [eσ21, jup_n (by decide), eσ20, jup_k (by omega), eσ19, jup_k (by omega), eσ16, jup_n (by decide), eσ14, jup_n (by decide), eσ12, jup_n (by decide)]), I27, trivial⟩ hP hS dX4_change_93
    · have kc11 := jnlt c11 rfl jz_40
      refine lv_aload_n hx hb dX4_change_36 rfl (lv_at hl 1 rfl) ?_
      have I28 : jI2 σ := ⟨(by omega), (by omega), (by omega), (by omega), (by omega), w6⟩
      refine jcallVv (As := []) (rest := []) ⟨hx, hb, hml, hown, hts⟩ hK hP hA hS hZ (c_X4_dropOldest_2 l D cI cL ad zz hJ σ τ I28 (by omega)) cw_RX4_57 (jc_2 cI cL ad σ τ) rfl ⟨Nat.le_of_ble_eq_true rfl, Nat.le_of_ble_eq_true rfl⟩ rfl rfl rfl hl.1 rfl (Nat.le_of_ble_eq_true rfl) dX4_change_37 ⟨Nat.zero_le _, Nat.zero_le _⟩ (fun σ29 τ29 H locs h29 hP hS => ?_)
      obtain ⟨f31, f32, w33, h29⟩ := h29
      obtain ⟨k34, h29⟩ := h29
      refine lv_aload_n hx hb dX4_change_40 rfl (lv_at hl 1 rfl) ?_
      refine va_get (D := D) hx hb hts inlX4 hown hK hP 2 (jc_2 cI cL ad σ29 τ29) rfl 7 (by decide) (hts _ kw_3_14) (fun _ h9 => h9) rfl dX4_change_41 ?_
      refine lv_aload_n hx hb dX4_change_44 rfl (lv_at hl 1 rfl) ?_
      refine va_get (D := D) hx hb hts inlX4 hown hK hP 2 (jc_2 cI cL ad σ29 τ29) rfl 2 (by decide) (hts _ kw_10_17) (fun _ h9 => h9) rfl dX4_change_45 ?_
      refine lv_iload_n hx hb dX4_change_48 rfl (lv_at hl 2 rfl) ?_
      refine jast hx hb hK hP hJ hA hS (jc_6 cI cL ad σ29 τ29) (ja_6 cI cL ad σ29 τ29 _ _) (jin rfl (by omega) (by omega)) dX4_change_49 (fun σ35 H locs eσ35 hP hS => ?_)
      refine lv_aload_n hx hb dX4_change_50 rfl (lv_at hl 1 rfl) ?_
      refine va_get (D := D) hx hb hts inlX4 hown hK hP 2 (jc_2 cI cL ad σ35 τ29) rfl 8 (by decide) (hts _ kw_3_15) (fun _ h9 => h9) rfl dX4_change_51 ?_
      refine lv_aload_n hx hb dX4_change_54 rfl (lv_at hl 1 rfl) ?_
      refine va_get (D := D) hx hb hts inlX4 hown hK hP 2 (jc_2 cI cL ad σ35 τ29) rfl 2 (by decide) (hts _ kw_10_17) (fun _ h9 => h9) rfl dX4_change_55 ?_
      have m36 : σ35 2 2 = (σ29 2 2) := (by rw [eσ35, jup_n (by decide)])
      refine jtopr m36 ?_
      refine lv_iload_n hx hb dX4_change_58 rfl (lv_at hl 0 rfl) ?_
      refine jast hx hb hK hP hJ hA hS (jc_7 cI cL ad σ35 τ29) (ja_7 cI cL ad σ35 τ29 _ _) (jin rfl (by omega) (by omega)) dX4_change_59 (fun σ37 H locs eσ37 hP hS => ?_)
      refine lv_aload_n hx hb dX4_change_60 rfl (lv_at hl 1 rfl) ?_
      refine va_get (D := D) hx hb hts inlX4 hown hK hP 2 (jc_2 cI cL ad σ37 τ29) rfl 9 (by decide) (hts _ kw_3_16) (fun _ h9 => h9) rfl dX4_change_61 ?_
      refine lv_aload_n hx hb dX4_change_64 rfl (lv_at hl 1 rfl) ?_
      refine va_get (D := D) hx hb hts inlX4 hown hK hP 2 (jc_2 cI cL ad σ37 τ29) rfl 2 (by decide) (hts _ kw_10_17) (fun _ h9 => h9) rfl dX4_change_65 ?_
      have m38 : σ37 2 2 = (σ29 2 2) := (by rw [eσ37, jup_n (by decide)]; exact m36)
      refine jtopr m38 ?_
      refine lv_iload_n hx hb dX4_change_68 rfl (lv_at hl 3 rfl) ?_
      refine jast hx hb hK hP hJ hA hS (jc_8 cI cL ad σ37 τ29) (ja_8 cI cL ad σ37 τ29 _ _) (jin rfl (by omega) (by omega)) dX4_change_69 (fun σ39 H locs eσ39 hP hS => ?_)
      refine lv_aload_n hx hb dX4_change_70 rfl (lv_at hl 1 rfl) ?_
      refine lv_dup hx hb dX4_change_71 rfl ?_
      refine va_get (D := D) hx hb hts inlX4 hown hK hP 2 (jc_2 cI cL ad σ39 τ29) rfl 2 (by decide) (hts _ kw_10_17) (fun _ h9 => h9) rfl dX4_change_72 ?_
      have m40 : σ39 2 2 = (σ29 2 2) := (by rw [eσ39, jup_n (by decide)]; exact m38)
      refine jtopr m40 ?_
      refine lv_iconst (v := 1) hx hb dX4_change_75 (by decide) ?_
      refine lv_iadd hx hb dX4_change_76 ?_
      refine lv_topi (fun x41 ex41 => ?_)
      have tx41 : x41.toInt = (σ29 2 2).toInt + 1 := (jadd ex41 rfl jz_1 (by omega) (by omega)).trans (by omega)
      refine jput (ty := .int) hx hb hts inlX4 tyX4 tyX4_ok nmX4 hown hK hP hJ hA hS (jc_2 cI cL ad σ39 τ29) rfl (k := 2) (by decide) (Nat.le_of_ble_eq_true rfl) (jp_2_2 cI cL ad σ39 τ29 x41) (hts _ kw_10_17) (fun _ h9 => h9) rfl (by decide +kernel) rfl rfl dX4_change_77 (fun σ42 H locs eσ42 hP hS => ?_)
      refine lv_aload_n hx hb dX4_change_80 rfl (lv_at hl 1 rfl) ?_
      refine lv_iconst (v := 0) hx hb dX4_change_81 (by decide) ?_
      refine jput (ty := .int) hx hb hts inlX4 tyX4 tyX4_ok nmX4 hown hK hP hJ hA hS (jc_2 cI cL ad σ42 τ29) rfl (k := 3) (by decide) (Nat.le_of_ble_eq_true rfl) (jp_2_3 cI cL ad σ42 τ29 0) (hts _ kw_10_18) (fun _ h9 => h9) rfl (by decide +kernel) rfl rfl dX4_change_82 (fun σ43 H locs eσ43 hP hS => ?_)
      refine lv_aload_n hx hb dX4_change_85 rfl (lv_at hl 1 rfl) ?_
      refine va_get (D := D) hx hb hts inlX4 hown hK hP 2 (jc_2 cI cL ad σ43 τ29) rfl 4 (by decide) (hts _ kw_3_11) (fun _ h9 => h9) rfl dX4_change_86 ?_
      refine lv_iload_n hx hb dX4_change_89 rfl (lv_at hl 2 rfl) ?_
      refine lv_iload_n hx hb dX4_change_90 rfl (lv_at hl 3 rfl) ?_
      refine jast hx hb hK hP hJ hA hS (jc_3 cI cL ad σ43 τ29) (ja_3 cI cL ad σ43 τ29 _ _) (jin t1 (by omega) (by omega)) dX4_change_91 (fun σ44 H locs eσ44 hP hS => ?_)
      refine lv_iload_n hx hb dX4_change_92 rfl (lv_at hl 0 rfl) ?_
      have z45 : (σ44 2 0).toInt = (σ 2 0).toInt := by rw [(show σ44 2 0 = (σ 2 0) from (by rw [eσ44, jup_n (by decide)]; exact (by rw [eσ43, jup_k (by decide)]; exact (by rw [eσ42, jup_k (by decide)]; exact (by rw [eσ39, jup_n (by decide)]; exact (by rw [eσ37, jup_n (by decide)]; exact (by rw [eσ35, jup_n (by decide)]; exact (by rw [f32 0 (by omega)]))))))))]
      have z46 : (σ44 2 1).toInt = (σ 2 1).toInt := by rw [(show σ44 2 1 = (σ 2 1) from (by rw [eσ44, jup_n (by decide)]; exact (by rw [eσ43, jup_k (by decide)]; exact (by rw [eσ42, jup_k (by decide)]; exact (by rw [eσ39, jup_n (by decide)]; exact (by rw [eσ37, jup_n (by decide)]; exact (by rw [eσ35, jup_n (by decide)]; exact (by rw [f32 1 (by omega)]))))))))]
      have z47 : (σ44 2 2).toInt = (σ29 2 2).toInt + 1 := by rw [(show σ44 2 2 = x41 from (by rw [eσ44, jup_n (by decide)]; exact (by rw [eσ43, jup_k (by decide)]; exact (by rw [eσ42]; exact jup_s))))]; exact tx41
      have z48 : (σ44 2 3).toInt = 0 := by rw [(show σ44 2 3 = 0 from (by rw [eσ44, jup_n (by decide)]; exact (by rw [eσ43]; exact jup_s)))]; exact jz_0
      have w49 : ∀ k : Nat, k < 40 → 0 ≤ (σ44 6 k).toInt ∧ (σ44 6 k).toInt ≤ 67 := (by rw [eσ44, jup_n (by decide)]; exact (by rw [eσ43, jup_n (by decide)]; exact (by rw [eσ42, jup_n (by decide)]; exact (by rw [eσ39, jup_n (by decide)]; exact (by rw [eσ37, jup_n (by decide)]; exact (by rw [eσ35]; exact jrr_up w33 (by have h9 := t1; omega) (by have h9 := t1; omega)))))))
      have I50 : jI2 σ44 := ⟨(by omega), (by omega), (by omega), (by omega), (by omega), w49⟩
      exact hret x9 σ44 τ29 _ _ _ _ rfl ⟨(fun i hi => by rw [eσ44, jup_n (by omega), eσ43, jup_n (by omega), eσ42, jup_n (by omega), eσ39, jup_n (by omega), eσ37, jup_n (by omega), eσ35, jup_n (by omega), f31 i (by omega)]), (fun k hk => by rw [eσ44, jup_n (by decide), eσ43, jup_k (by omega), eσ42, jup_k (by omega), eσ39, jup_n (by decide), eσ37, jup_n (by decide), eσ35, jup_n (by decide), f32 k (by omega)]), I50, trivial⟩ hP hS dX4_change_93
  · have kc10 := jeq c10 rfl t2
    refine lv_iload_n hx hb dX4_change_25 rfl (lv_at hl 0 rfl) ?_
    have I51 : jI2 σ := ⟨(by omega), (by omega), (by omega), (by omega), (by omega), w6⟩
    exact hret x9 σ τ _ _ _ _ rfl ⟨(fun _ _ => rfl), (fun _ _ => rfl), I51, trivial⟩ hP hS dX4_change_26
set_option maxHeartbeats 4000000 in
set_option maxRecDepth 100000 in
theorem c_X4_stepBack_2 (l : Launch) (D : va_G) (cI cL : ClassId) (ad zz : Nat → Nat) (hJ : jD ad) (σ : Nat → Nat → Int32) (τ : Nat → Nat → Int64) (hI2 : jI2 σ) : jM l yX4_stepBack cX4_stepBack 1 (some .int) ({ frames := 0, cells := 0, slots := 0, locals := 0 }) D cI cL ad zz [.ref (ad 2)] σ τ (fun r σ' τ' => (∀ i : Nat, (i < 2 ∨ 3 < i) → σ' i = σ i) ∧ (∀ k : Nat, (k < 2 ∨ 2 < k) ∧ (k < 3 ∨ 3 < k) → σ' 2 k = σ 2 k) ∧ (jI2 σ') ∧ True) := by
  refine jM.of hJ (by decide +kernel) (nt := .int) rfl (Nat.le_of_ble_eq_true rfl) ?_
  intro p e s m args below meth c Q ls hC hret hl hP
  obtain ⟨hx, hb, hr, hml, hown, hts, hK, -, hlocks, hZ⟩ := hC
  have hown : s.vm.findClass RX4 = some m.cls := hown
  have hS : va_S (jA ad) s.heap s.heap [] := va_S.rf
  have hA : ∀ q, jA ad q → jA ad q := fun _ h => h
  have hl : lv_has ls 1 [(0, .ref (ad 2))] := hl
  obtain ⟨i1, i2, i3, i4, i5, w6⟩ : (0 ≤ (σ 2 0).toInt ∧ (σ 2 0).toInt ≤ 4) ∧ (0 ≤ (σ 2 1).toInt ∧ (σ 2 1).toInt ≤ 3) ∧ (0 ≤ (σ 2 2).toInt) ∧ (0 ≤ (σ 2 3).toInt) ∧ ((σ 2 2).toInt + (σ 2 3).toInt ≤ 40) ∧ (∀ k : Nat, k < 40 → 0 ≤ (σ 6 k).toInt ∧ (σ 6 k).toInt ≤ 67) := hI2
  refine lv_aload_n hx hb dX4_stepBack_0 rfl (lv_at hl 0 rfl) ?_
  refine va_get (D := D) hx hb hts inlX4 hown hK hP 2 (jc_2 cI cL ad σ τ) rfl 2 (by decide) (hts _ kw_10_17) (fun _ h9 => h9) rfl dX4_stepBack_1 ?_
  refine lv_if_le (tgt := 16) hx hb dX4_stepBack_4 (by decide) (fun c7 => ?_) (fun c7 => ?_)
  · have kc7 := jle c7 rfl jz_0
    refine lv_bipush (v := (-5)) hx hb dX4_stepBack_16 (by decide) ?_
    have I8 : jI2 σ := ⟨(by omega), (by omega), (by omega), (by omega), (by omega), w6⟩
    exact hret (-5) σ τ _ _ _ _ rfl ⟨(fun _ _ => rfl), (fun _ _ => rfl), I8, trivial⟩ hP hS dX4_stepBack_18
  · have kc7 := jnle c7 rfl jz_0
    refine lv_aload_n hx hb dX4_stepBack_7 rfl (lv_at hl 0 rfl) ?_
    refine va_get (D := D) hx hb hts inlX4 hown hK hP 2 (jc_2 cI cL ad σ τ) rfl 2 (by decide) (hts _ kw_10_17) (fun _ h9 => h9) rfl dX4_stepBack_8 ?_
    refine lv_bipush (v := 40) hx hb dX4_stepBack_11 (by decide) ?_
    refine lv_icmp_le (tgt := 19) hx hb dX4_stepBack_13 (by decide) (fun c9 => ?_) (fun c => absurd (jnle c rfl jz_40) (by omega))
    have kc9 := jle c9 rfl jz_40
    refine lv_aload_n hx hb dX4_stepBack_19 rfl (lv_at hl 0 rfl) ?_
    refine lv_dup hx hb dX4_stepBack_20 rfl ?_
    refine va_get (D := D) hx hb hts inlX4 hown hK hP 2 (jc_2 cI cL ad σ τ) rfl 2 (by decide) (hts _ kw_10_17) (fun _ h9 => h9) rfl dX4_stepBack_21 ?_
    refine lv_iconst (v := 1) hx hb dX4_stepBack_24 (by decide) ?_
    refine lv_isub hx hb dX4_stepBack_25 ?_
    refine lv_topi (fun x10 ex10 => ?_)
    have tx10 : x10.toInt = (σ 2 2).toInt - 1 := (jsub ex10 rfl jz_1 (by omega) (by omega)).trans (by omega)
    refine jput (ty := .int) hx hb hts inlX4 tyX4 tyX4_ok nmX4 hown hK hP hJ hA hS (jc_2 cI cL ad σ τ) rfl (k := 2) (by decide) (Nat.le_of_ble_eq_true rfl) (jp_2_2 cI cL ad σ τ x10) (hts _ kw_10_17) (fun _ h9 => h9) rfl (by decide +kernel) rfl rfl dX4_stepBack_26 (fun σ11 H locs eσ11 hP hS => ?_)
    refine lv_aload_n hx hb dX4_stepBack_29 rfl (lv_at hl 0 rfl) ?_
    refine lv_dup hx hb dX4_stepBack_30 rfl ?_
    refine va_get (D := D) hx hb hts inlX4 hown hK hP 2 (jc_2 cI cL ad σ11 τ) rfl 3 (by decide) (hts _ kw_10_18) (fun _ h9 => h9) rfl dX4_stepBack_31 ?_
    have m12 : σ11 2 3 = (σ 2 3) := (by rw [eσ11, jup_k (by decide)])
    refine jtopr m12 ?_
    refine lv_iconst (v := 1) hx hb dX4_stepBack_34 (by decide) ?_
    refine lv_iadd hx hb dX4_stepBack_35 ?_
    refine lv_topi (fun x13 ex13 => ?_)
    have tx13 : x13.toInt = (σ 2 3).toInt + 1 := (jadd ex13 rfl jz_1 (by omega) (by omega)).trans (by omega)
    refine jput (ty := .int) hx hb hts inlX4 tyX4 tyX4_ok nmX4 hown hK hP hJ hA hS (jc_2 cI cL ad σ11 τ) rfl (k := 3) (by decide) (Nat.le_of_ble_eq_true rfl) (jp_2_3 cI cL ad σ11 τ x13) (hts _ kw_10_18) (fun _ h9 => h9) rfl (by decide +kernel) rfl rfl dX4_stepBack_36 (fun σ14 H locs eσ14 hP hS => ?_)
    refine lv_aload_n hx hb dX4_stepBack_39 rfl (lv_at hl 0 rfl) ?_
    refine va_get (D := D) hx hb hts inlX4 hown hK hP 2 (jc_2 cI cL ad σ14 τ) rfl 4 (by decide) (hts _ kw_3_11) (fun _ h9 => h9) rfl dX4_stepBack_40 ?_
    refine lv_aload_n hx hb dX4_stepBack_43 rfl (lv_at hl 0 rfl) ?_
    refine va_get (D := D) hx hb hts inlX4 hown hK hP 2 (jc_2 cI cL ad σ14 τ) rfl 7 (by decide) (hts _ kw_3_14) (fun _ h9 => h9) rfl dX4_stepBack_44 ?_
    refine lv_aload_n hx hb dX4_stepBack_47 rfl (lv_at hl 0 rfl) ?_
    refine va_get (D := D) hx hb hts inlX4 hown hK hP 2 (jc_2 cI cL ad σ14 τ) rfl 2 (by decide) (hts _ kw_10_17) (fun _ h9 => h9) rfl dX4_stepBack_48 ?_
    have m15 : σ14 2 2 = x10 := (by rw [eσ14, jup_k (by decide)]; exact (by rw [eσ11]; exact jup_s))
    refine jtopr m15 ?_
    refine jald hx hb hK hP (jc_6 cI cL ad σ14 τ) (jin tx10 (by omega) (by omega)) dX4_stepBack_51 ?_
    have w16 : ∀ k : Nat, k < 40 → 0 ≤ (σ14 6 k).toInt ∧ (σ14 6 k).toInt ≤ 67 := (by rw [eσ14, jup_n (by decide)]; exact (by rw [eσ11, jup_n (by decide)]; exact w6))
    have g17 := w16 _ (jnat tx10 (n := 40) (by omega) (by decide))
    refine lv_topi (fun x18 ex18 => ?_)
    rw [← ex18] at g17
    refine lv_aload_n hx hb dX4_stepBack_52 rfl (lv_at hl 0 rfl) ?_
    refine va_get (D := D) hx hb hts inlX4 hown hK hP 2 (jc_2 cI cL ad σ14 τ) rfl 8 (by decide) (hts _ kw_3_15) (fun _ h9 => h9) rfl dX4_stepBack_53 ?_
    refine lv_aload_n hx hb dX4_stepBack_56 rfl (lv_at hl 0 rfl) ?_
    refine va_get (D := D) hx hb hts inlX4 hown hK hP 2 (jc_2 cI cL ad σ14 τ) rfl 2 (by decide) (hts _ kw_10_17) (fun _ h9 => h9) rfl dX4_stepBack_57 ?_
    refine jtopr m15 ?_
    refine jald hx hb hK hP (jc_7 cI cL ad σ14 τ) (jin tx10 (by omega) (by omega)) dX4_stepBack_60 ?_
    refine lv_topi (fun x19 ex19 => ?_)
    refine jast hx hb hK hP hJ hA hS (jc_3 cI cL ad σ14 τ) (ja_3 cI cL ad σ14 τ _ _) (jin rfl (by omega) (by omega)) dX4_stepBack_61 (fun σ20 H locs eσ20 hP hS => ?_)
    refine lv_aload_n hx hb dX4_stepBack_62 rfl (lv_at hl 0 rfl) ?_
    refine va_get (D := D) hx hb hts inlX4 hown hK hP 2 (jc_2 cI cL ad σ20 τ) rfl 2 (by decide) (hts _ kw_10_17) (fun _ h9 => h9) rfl dX4_stepBack_63 ?_
    have m21 : σ20 2 2 = x10 := (by rw [eσ20, jup_n (by decide)]; exact m15)
    refine jtopr m21 ?_
    have z22 : (σ20 2 0).toInt = (σ 2 0).toInt := by rw [(show σ20 2 0 = (σ 2 0) from (by rw [eσ20, jup_n (by decide)]; exact (by rw [eσ14, jup_k (by decide)]; exact (by rw [eσ11, jup_k (by decide)]))))]
    have z23 : (σ20 2 1).toInt = (σ 2 1).toInt := by rw [(show σ20 2 1 = (σ 2 1) from (by rw [eσ20, jup_n (by decide)]; exact (by rw [eσ14, jup_k (by decide)]; exact (by rw [eσ11, jup_k (by decide)]))))]
    have z24 : (σ20 2 2).toInt = (σ 2 2).toInt - 1 := by rw [(show σ20 2 2 = x10 from m21)]; exact tx10
    have z25 : (σ20 2 3).toInt = (σ 2 3).toInt + 1 := by rw [(show σ20 2 3 = x13 from (by rw [eσ20, jup_n (by decide)]; exact (by rw [eσ14]; exact jup_s)))]; exact tx13
    have w26 : ∀ k : Nat, k < 40 → 0 ≤ (σ20 6 k).toInt ∧ (σ20 6 k).toInt ≤ 67 := (by rw [eσ20, jup_n (by decide)]; exact w16)
    have I27 : jI2 σ20 := ⟨(by omega), (by omega), (by omega), (by omega), (by omega), w26⟩
    exact hret x10 σ20 τ _ _ _ _ rfl ⟨(fun i hi => by rw [eσ20, jup_n (by omega), eσ14, jup_n (by omega), eσ11, jup_n (by omega)]), (fun k hk => by rw [eσ20, jup_n (by decide), eσ14, jup_k (by omega), eσ11, jup_k (by omega)]), I27, trivial⟩ hP hS dX4_stepBack_66
set_option maxHeartbeats 4000000 in
set_option maxRecDepth 100000 in
theorem c_X4_stepAgain_2 (l : Launch) (D : va_G) (cI cL : ClassId) (ad zz : Nat → Nat) (hJ : jD ad) (σ : Nat → Nat → Int32) (τ : Nat → Nat → Int64) (hI2 : jI2 σ) : jM l yX4_stepAgain cX4_stepAgain 1 (some .int) ({ frames := 0, cells := 0, slots := 0, locals := 0 }) D cI cL ad zz [.ref (ad 2)] σ τ (fun r σ' τ' => (∀ i : Nat, (i < 2 ∨ 3 < i) → σ' i = σ i) ∧ (∀ k : Nat, (k < 2 ∨ 2 < k) ∧ (k < 3 ∨ 3 < k) → σ' 2 k = σ 2 k) ∧ (jI2 σ') ∧ True) := by
  refine jM.of hJ (by decide +kernel) (nt := .int) rfl (Nat.le_of_ble_eq_true rfl) ?_
  intro p e s m args below meth c Q ls hC hret hl hP
  obtain ⟨hx, hb, hr, hml, hown, hts, hK, -, hlocks, hZ⟩ := hC
  have hown : s.vm.findClass RX4 = some m.cls := hown
  have hS : va_S (jA ad) s.heap s.heap [] := va_S.rf
  have hA : ∀ q, jA ad q → jA ad q := fun _ h => h
  have hl : lv_has ls 1 [(0, .ref (ad 2))] := hl
  obtain ⟨i1, i2, i3, i4, i5, w6⟩ : (0 ≤ (σ 2 0).toInt ∧ (σ 2 0).toInt ≤ 4) ∧ (0 ≤ (σ 2 1).toInt ∧ (σ 2 1).toInt ≤ 3) ∧ (0 ≤ (σ 2 2).toInt) ∧ (0 ≤ (σ 2 3).toInt) ∧ ((σ 2 2).toInt + (σ 2 3).toInt ≤ 40) ∧ (∀ k : Nat, k < 40 → 0 ≤ (σ 6 k).toInt ∧ (σ 6 k).toInt ≤ 67) := hI2
  refine lv_aload_n hx hb dX4_stepAgain_0 rfl (lv_at hl 0 rfl) ?_
  refine va_get (D := D) hx hb hts inlX4 hown hK hP 2 (jc_2 cI cL ad σ τ) rfl 3 (by decide) (hts _ kw_10_18) (fun _ h9 => h9) rfl dX4_stepAgain_1 ?_
  refine lv_if_le (tgt := 16) hx hb dX4_stepAgain_4 (by decide) (fun c7 => ?_) (fun c7 => ?_)
  · have kc7 := jle c7 rfl jz_0
    refine lv_bipush (v := (-5)) hx hb dX4_stepAgain_16 (by decide) ?_
    have I8 : jI2 σ := ⟨(by omega), (by omega), (by omega), (by omega), (by omega), w6⟩
    exact hret (-5) σ τ _ _ _ _ rfl ⟨(fun _ _ => rfl), (fun _ _ => rfl), I8, trivial⟩ hP hS dX4_stepAgain_18
  · have kc7 := jnle c7 rfl jz_0
    refine lv_aload_n hx hb dX4_stepAgain_7 rfl (lv_at hl 0 rfl) ?_
    refine va_get (D := D) hx hb hts inlX4 hown hK hP 2 (jc_2 cI cL ad σ τ) rfl 2 (by decide) (hts _ kw_10_17) (fun _ h9 => h9) rfl dX4_stepAgain_8 ?_
    refine lv_bipush (v := 40) hx hb dX4_stepAgain_11 (by decide) ?_
    refine lv_icmp_lt (tgt := 19) hx hb dX4_stepAgain_13 (by decide) (fun c9 => ?_) (fun c => absurd (jnlt c rfl jz_40) (by omega))
    have kc9 := jlt c9 rfl jz_40
    refine lv_aload_n hx hb dX4_stepAgain_19 rfl (lv_at hl 0 rfl) ?_
    refine va_get (D := D) hx hb hts inlX4 hown hK hP 2 (jc_2 cI cL ad σ τ) rfl 4 (by decide) (hts _ kw_3_11) (fun _ h9 => h9) rfl dX4_stepAgain_20 ?_
    refine lv_aload_n hx hb dX4_stepAgain_23 rfl (lv_at hl 0 rfl) ?_
    refine va_get (D := D) hx hb hts inlX4 hown hK hP 2 (jc_2 cI cL ad σ τ) rfl 7 (by decide) (hts _ kw_3_14) (fun _ h9 => h9) rfl dX4_stepAgain_24 ?_
    refine lv_aload_n hx hb dX4_stepAgain_27 rfl (lv_at hl 0 rfl) ?_
    refine va_get (D := D) hx hb hts inlX4 hown hK hP 2 (jc_2 cI cL ad σ τ) rfl 2 (by decide) (hts _ kw_10_17) (fun _ h9 => h9) rfl dX4_stepAgain_28 ?_
    refine jald hx hb hK hP (jc_6 cI cL ad σ τ) (jin rfl (by omega) (by omega)) dX4_stepAgain_31 ?_
    have g10 := w6 _ (jnat rfl (n := 40) (by omega) (by decide))
    refine lv_topi (fun x11 ex11 => ?_)
    rw [← ex11] at g10
    refine lv_aload_n hx hb dX4_stepAgain_32 rfl (lv_at hl 0 rfl) ?_
    refine va_get (D := D) hx hb hts inlX4 hown hK hP 2 (jc_2 cI cL ad σ τ) rfl 9 (by decide) (hts _ kw_3_16) (fun _ h9 => h9) rfl dX4_stepAgain_33 ?_
    refine lv_aload_n hx hb dX4_stepAgain_36 rfl (lv_at hl 0 rfl) ?_
    refine va_get (D := D) hx hb hts inlX4 hown hK hP 2 (jc_2 cI cL ad σ τ) rfl 2 (by decide) (hts _ kw_10_17) (fun _ h9 => h9) rfl dX4_stepAgain_37 ?_
    refine jald hx hb hK hP (jc_8 cI cL ad σ τ) (jin rfl (by omega) (by omega)) dX4_stepAgain_40 ?_
    refine lv_topi (fun x12 ex12 => ?_)
    refine jast hx hb hK hP hJ hA hS (jc_3 cI cL ad σ τ) (ja_3 cI cL ad σ τ _ _) (jin rfl (by omega) (by omega)) dX4_stepAgain_41 (fun σ13 H locs eσ13 hP hS => ?_)
    refine lv_aload_n hx hb dX4_stepAgain_42 rfl (lv_at hl 0 rfl) ?_
    refine lv_dup hx hb dX4_stepAgain_43 rfl ?_
    refine va_get (D := D) hx hb hts inlX4 hown hK hP 2 (jc_2 cI cL ad σ13 τ) rfl 2 (by decide) (hts _ kw_10_17) (fun _ h9 => h9) rfl dX4_stepAgain_44 ?_
    have m14 : σ13 2 2 = (σ 2 2) := (by rw [eσ13, jup_n (by decide)])
    refine jtopr m14 ?_
    refine lv_iconst (v := 1) hx hb dX4_stepAgain_47 (by decide) ?_
    refine lv_iadd hx hb dX4_stepAgain_48 ?_
    refine lv_topi (fun x15 ex15 => ?_)
    have tx15 : x15.toInt = (σ 2 2).toInt + 1 := (jadd ex15 rfl jz_1 (by omega) (by omega)).trans (by omega)
    refine jput (ty := .int) hx hb hts inlX4 tyX4 tyX4_ok nmX4 hown hK hP hJ hA hS (jc_2 cI cL ad σ13 τ) rfl (k := 2) (by decide) (Nat.le_of_ble_eq_true rfl) (jp_2_2 cI cL ad σ13 τ x15) (hts _ kw_10_17) (fun _ h9 => h9) rfl (by decide +kernel) rfl rfl dX4_stepAgain_49 (fun σ16 H locs eσ16 hP hS => ?_)
    refine lv_aload_n hx hb dX4_stepAgain_52 rfl (lv_at hl 0 rfl) ?_
    refine lv_dup hx hb dX4_stepAgain_53 rfl ?_
    refine va_get (D := D) hx hb hts inlX4 hown hK hP 2 (jc_2 cI cL ad σ16 τ) rfl 3 (by decide) (hts _ kw_10_18) (fun _ h9 => h9) rfl dX4_stepAgain_54 ?_
    have m17 : σ16 2 3 = (σ 2 3) := (by rw [eσ16, jup_k (by decide)]; exact (by rw [eσ13, jup_n (by decide)]))
    refine jtopr m17 ?_
    refine lv_iconst (v := 1) hx hb dX4_stepAgain_57 (by decide) ?_
    refine lv_isub hx hb dX4_stepAgain_58 ?_
    refine lv_topi (fun x18 ex18 => ?_)
    have tx18 : x18.toInt = (σ 2 3).toInt - 1 := (jsub ex18 rfl jz_1 (by omega) (by omega)).trans (by omega)
    refine jput (ty := .int) hx hb hts inlX4 tyX4 tyX4_ok nmX4 hown hK hP hJ hA hS (jc_2 cI cL ad σ16 τ) rfl (k := 3) (by decide) (Nat.le_of_ble_eq_true rfl) (jp_2_3 cI cL ad σ16 τ x18) (hts _ kw_10_18) (fun _ h9 => h9) rfl (by decide +kernel) rfl rfl dX4_stepAgain_59 (fun σ19 H locs eσ19 hP hS => ?_)
    refine lv_aload_n hx hb dX4_stepAgain_62 rfl (lv_at hl 0 rfl) ?_
    refine va_get (D := D) hx hb hts inlX4 hown hK hP 2 (jc_2 cI cL ad σ19 τ) rfl 3 (by decide) (hts _ kw_10_18) (fun _ h9 => h9) rfl dX4_stepAgain_63 ?_
    have m20 : σ19 2 3 = x18 := (by rw [eσ19]; exact jup_s)
    refine jtopr m20 ?_
    have z21 : (σ19 2 0).toInt = (σ 2 0).toInt := by rw [(show σ19 2 0 = (σ 2 0) from (by rw [eσ19, jup_k (by decide)]; exact (by rw [eσ16, jup_k (by decide)]; exact (by rw [eσ13, jup_n (by decide)]))))]
    have z22 : (σ19 2 1).toInt = (σ 2 1).toInt := by rw [(show σ19 2 1 = (σ 2 1) from (by rw [eσ19, jup_k (by decide)]; exact (by rw [eσ16, jup_k (by decide)]; exact (by rw [eσ13, jup_n (by decide)]))))]
    have z23 : (σ19 2 2).toInt = (σ 2 2).toInt + 1 := by rw [(show σ19 2 2 = x15 from (by rw [eσ19, jup_k (by decide)]; exact (by rw [eσ16]; exact jup_s)))]; exact tx15
    have z24 : (σ19 2 3).toInt = (σ 2 3).toInt - 1 := by rw [(show σ19 2 3 = x18 from m20)]; exact tx18
    have w25 : ∀ k : Nat, k < 40 → 0 ≤ (σ19 6 k).toInt ∧ (σ19 6 k).toInt ≤ 67 := (by rw [eσ19, jup_n (by decide)]; exact (by rw [eσ16, jup_n (by decide)]; exact (by rw [eσ13, jup_n (by decide)]; exact w6)))
    have I26 : jI2 σ19 := ⟨(by omega), (by omega), (by omega), (by omega), (by omega), w25⟩
    exact hret x18 σ19 τ _ _ _ _ rfl ⟨(fun i hi => by rw [eσ19, jup_n (by omega), eσ16, jup_n (by omega), eσ13, jup_n (by omega)]), (fun k hk => by rw [eσ19, jup_k (by omega), eσ16, jup_k (by omega), eσ13, jup_n (by decide)]), I26, trivial⟩ hP hS dX4_stepAgain_66
