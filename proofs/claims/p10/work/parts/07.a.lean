set_option maxHeartbeats 4000000 in
theorem jNb_bd {f : Nat → Int32} {n p k q v : Int} (a : jNb f n p k q v) : 0 ≤ q ∧ q ≤ 3 ∧ 0 ≤ v ∧ v ≤ 999 ∧ (q = 0 → v = 0) := by
  rcases a with ⟨a, b, -⟩ | ⟨a, ⟨-, c, d⟩, -, b⟩ | ⟨a, ⟨-, c, d⟩, ⟨-, e, g⟩, -, b⟩ | ⟨a, -, ⟨-, c, d⟩, ⟨-, e, g⟩, ⟨-, i, j⟩, b⟩
  all_goals (refine ⟨by omega, by omega, by omega, by omega, fun h => ?_⟩; omega)
set_option maxHeartbeats 4000000 in
set_option maxRecDepth 100000 in
theorem c_X11_outside (l : Launch) (D : va_G) (cI cL : ClassId) (ad zz : Nat → Nat) (hJ : jD ad) (σ : Nat → Nat → Int32) (τ : Nat → Nat → Int64) (a1 : Int32) (A1 : Int) (t1 : a1.toInt = A1) (a2 : Int32) (A2 : Int) (t2 : a2.toInt = A2) (a3 : Int32) (A3 : Int) (t3 : a3.toInt = A3) : jM l yX11_outside cX11_outside 3 (some .boolean) ({ frames := 0, cells := 0, slots := 0, locals := 0 }) D cI cL ad zz [.int a1, .int a2, .int a3] σ τ (fun r σ' τ' => (σ = σ' ∧ τ = τ') ∧ ((r = 1 ∧ ((A1 < A2) ∨ (A3 < A1))) ∨ (r = 0 ∧ (A2 ≤ A1 ∧ A1 ≤ A3)))) := by
  refine jM.of hJ (by decide +kernel) (nt := .boolean) rfl (Nat.le_of_ble_eq_true rfl) ?_
  intro p e s m args below meth c Q ls hC hret hl hP
  obtain ⟨hx, hb, hr, hml, hown, hts, hK, -, hlocks, hZ⟩ := hC
  have hown : s.vm.findClass RX11 = some m.cls := hown
  have hS : va_S (jA ad) s.heap s.heap [] := va_S.rf
  have hA : ∀ q, jA ad q → jA ad q := fun _ h => h
  have hl : lv_has ls 3 [(0, .int a1), (1, .int a2), (2, .int a3)] := hl
  have g1 := jrg t1
  have g2 := jrg t2
  have g3 := jrg t3
  refine lv_iload_n hx hb dX11_outside_0 rfl (lv_at hl 0 rfl) ?_
  refine lv_iload_n hx hb dX11_outside_1 rfl (lv_at hl 1 rfl) ?_
  refine lv_icmp_lt (tgt := 10) hx hb dX11_outside_2 (of_decide_eq_true rfl) (fun c1 => ?_) (fun c1 => ?_)
  · have kc1 := jlt c1 t1 t2
    refine lv_iconst (v := 1) hx hb dX11_outside_10 (of_decide_eq_true rfl) ?_
    refine lv_goto (tgt := 15) hx hb dX11_outside_11 (of_decide_eq_true rfl) ?_
    exact hret 1 σ τ _ _ _ _ rfl ⟨⟨rfl, rfl⟩, Or.inl ⟨rfl, (by have h9 := jz_1; omega)⟩⟩ hP hS dX11_outside_15
  · have kc1 := jnlt c1 t1 t2
    refine lv_iload_n hx hb dX11_outside_5 rfl (lv_at hl 0 rfl) ?_
    refine lv_iload_n hx hb dX11_outside_6 rfl (lv_at hl 2 rfl) ?_
    refine lv_icmp_le (tgt := 14) hx hb dX11_outside_7 (of_decide_eq_true rfl) (fun c2 => ?_) (fun c2 => ?_)
    · have kc2 := jle c2 t1 t3
      refine lv_iconst (v := 0) hx hb dX11_outside_14 (of_decide_eq_true rfl) ?_
      exact hret 0 σ τ _ _ _ _ rfl ⟨⟨rfl, rfl⟩, Or.inr (⟨rfl, (by have h9 := jz_0; omega)⟩)⟩ hP hS dX11_outside_15
    · have kc2 := jnle c2 t1 t3
      refine lv_iconst (v := 1) hx hb dX11_outside_10 (of_decide_eq_true rfl) ?_
      refine lv_goto (tgt := 15) hx hb dX11_outside_11 (of_decide_eq_true rfl) ?_
      exact hret 1 σ τ _ _ _ _ rfl ⟨⟨rfl, rfl⟩, Or.inl ⟨rfl, (by have h9 := jz_1; omega)⟩⟩ hP hS dX11_outside_15
set_option maxHeartbeats 4000000 in
set_option maxRecDepth 100000 in
theorem c_X12_within (l : Launch) (D : va_G) (cI cL : ClassId) (ad zz : Nat → Nat) (hJ : jD ad) (σ : Nat → Nat → Int32) (τ : Nat → Nat → Int64) (a1 : Int64) (AL1 : Int) (t1 : a1.toInt = AL1) (a2 : Int64) (AL2 : Int) (t2 : a2.toInt = AL2) (a3 : Int64) (AL3 : Int) (t3 : a3.toInt = AL3) : jM l yX12_within cX12_within 6 (some .boolean) ({ frames := 0, cells := 0, slots := 0, locals := 0 }) D cI cL ad zz [.long a1, .long a2, .long a3] σ τ (fun r σ' τ' => (σ = σ' ∧ τ = τ') ∧ ((r = 1 ∧ (AL2 ≤ AL1 ∧ AL1 ≤ AL3)) ∨ (r = 0 ∧ ((AL1 < AL2) ∨ (AL3 < AL1))))) := by
  refine jM.of hJ (by decide +kernel) (nt := .boolean) rfl (Nat.le_of_ble_eq_true rfl) ?_
  intro p e s m args below meth c Q ls hC hret hl hP
  obtain ⟨hx, hb, hr, hml, hown, hts, hK, -, hlocks, hZ⟩ := hC
  have hown : s.vm.findClass RX12 = some m.cls := hown
  have hS : va_S (jA ad) s.heap s.heap [] := va_S.rf
  have hA : ∀ q, jA ad q → jA ad q := fun _ h => h
  have hl : lv_has ls 6 [(0, .long a1), (2, .long a2), (4, .long a3)] := hl
  have g1 := jrgL t1
  have g2 := jrgL t2
  have g3 := jrgL t3
  refine lv_lload_n hx hb dX12_within_0 rfl (lv_at hl 0 rfl) ?_
  refine lv_lload_n hx hb dX12_within_1 rfl (lv_at hl 1 rfl) ?_
  refine W.lcmp hx hb dX12_within_2 ?_
  refine lv_if_lt (tgt := 17) hx hb dX12_within_3 (of_decide_eq_true rfl) (fun c1 => ?_) (fun c1 => ?_)
  · have kc1 := jclt c1 t1 t2
    refine lv_iconst (v := 0) hx hb dX12_within_17 (of_decide_eq_true rfl) ?_
    exact hret 0 σ τ _ _ _ _ rfl ⟨⟨rfl, rfl⟩, Or.inr (⟨rfl, (by have h9 := jz_0; omega)⟩)⟩ hP hS dX12_within_18
  · have kc1 := jcnlt c1 t1 t2
    refine lv_lload_n hx hb dX12_within_6 rfl (lv_at hl 0 rfl) ?_
    refine lv_lload hx hb dX12_within_7 (lv_at hl 2 rfl) ?_
    refine W.lcmp hx hb dX12_within_9 ?_
    refine lv_if_gt (tgt := 17) hx hb dX12_within_10 (of_decide_eq_true rfl) (fun c2 => ?_) (fun c2 => ?_)
    · have kc2 := jcgt c2 t1 t3
      refine lv_iconst (v := 0) hx hb dX12_within_17 (of_decide_eq_true rfl) ?_
      exact hret 0 σ τ _ _ _ _ rfl ⟨⟨rfl, rfl⟩, Or.inr (⟨rfl, (by have h9 := jz_0; omega)⟩)⟩ hP hS dX12_within_18
    · have kc2 := jcngt c2 t1 t3
      refine lv_iconst (v := 1) hx hb dX12_within_13 (of_decide_eq_true rfl) ?_
      refine lv_goto (tgt := 18) hx hb dX12_within_14 (of_decide_eq_true rfl) ?_
      exact hret 1 σ τ _ _ _ _ rfl ⟨⟨rfl, rfl⟩, Or.inl ⟨rfl, (by have h9 := jz_1; omega)⟩⟩ hP hS dX12_within_18
set_option maxHeartbeats 4000000 in
set_option maxRecDepth 100000 in
theorem c_X11_noBowler (l : Launch) (D : va_G) (cI cL : ClassId) (ad zz : Nat → Nat) (hJ : jD ad) (σ : Nat → Nat → Int32) (τ : Nat → Nat → Int64) (a1 : Int32) (A1 : Int) (t1 : a1.toInt = A1) (hI2 : jI2 σ) : jM l yX11_noBowler cX11_noBowler 2 (some .boolean) ({ frames := 1, cells := 0, slots := 0, locals := 22 }) D cI cL ad zz [.ref (ad 0), .int a1] σ τ (fun r σ' τ' => (σ = σ' ∧ τ = τ') ∧ ((r = 1 ∧ ((A1 < 0) ∨ ((σ 2 0).toInt ≤ A1))) ∨ (r = 0 ∧ (0 ≤ A1 ∧ A1 < (σ 2 0).toInt)))) := by
  refine jM.of hJ (by decide +kernel) (nt := .boolean) rfl (Nat.le_of_ble_eq_true rfl) ?_
  intro p e s m args below meth c Q ls hC hret hl hP
  obtain ⟨hx, hb, hr, hml, hown, hts, hK, -, hlocks, hZ⟩ := hC
  have hown : s.vm.findClass RX11 = some m.cls := hown
  have hS : va_S (jA ad) s.heap s.heap [] := va_S.rf
  have hA : ∀ q, jA ad q → jA ad q := fun _ h => h
  have hl : lv_has ls 2 [(0, .ref (ad 0)), (1, .int a1)] := hl
  have g1 := jrg t1
  obtain ⟨i1, i2, i3, i4, i5, w6, w7⟩ : (0 ≤ (σ 2 0).toInt ∧ (σ 2 0).toInt ≤ 4) ∧ (0 ≤ (σ 2 1).toInt ∧ (σ 2 1).toInt ≤ 3) ∧ (0 ≤ (σ 2 2).toInt) ∧ (0 ≤ (σ 2 3).toInt) ∧ ((σ 2 2).toInt + (σ 2 3).toInt ≤ 40) ∧ (∀ k : Nat, k < 40 → 0 ≤ (σ 6 k).toInt ∧ (σ 6 k).toInt ≤ 67) ∧ (∀ k : Nat, k < 4 → 0 ≤ (σ 5 k).toInt ∧ (σ 5 k).toInt ≤ 20) := id hI2
  refine lv_iload_n hx hb dX11_noBowler_0 rfl (lv_at hl 1 rfl) ?_
  refine lv_iconst (v := 0) hx hb dX11_noBowler_1 (of_decide_eq_true rfl) ?_
  refine lv_aload_n hx hb dX11_noBowler_2 rfl (lv_at hl 0 rfl) ?_
  refine va_get (D := D) hx hb hts inlX11 hown hK hP 0 (jc_0 cI cL ad σ τ) rfl 0 (of_decide_eq_true rfl) (hts _ kw_1_16) (fun _ h9 => h9) rfl dX11_noBowler_3 ?_
  refine va_get (D := D) hx hb hts inlX4 hown hK hP 2 (jc_2 cI cL ad σ τ) rfl 0 (of_decide_eq_true rfl) (hts _ kw_8_21) (fun _ h9 => h9) rfl dX11_noBowler_6 ?_
  refine lv_iconst (v := 1) hx hb dX11_noBowler_9 (of_decide_eq_true rfl) ?_
  have g8 := jrg (rfl : (σ 2 0).toInt = (σ 2 0).toInt)
  refine lv_isub hx hb dX11_noBowler_10 ?_
  refine lv_topi (fun x9 ex9 => ?_)
  exact by
   have tx9 : x9.toInt = (σ 2 0).toInt - 1 := (jsub ex9 rfl jz_1 (by omega) (by omega)).trans (by omega)
   refine jcallS (As := [.int a1, .int 0, .int x9]) (rest := []) ⟨hx, hb, hml, hown, hts⟩ hK hP hA hS hZ (c_X11_outside l D cI cL ad zz hJ σ τ a1 (A1) t1 0 (0) jz_0 x9 ((σ 2 0).toInt - 1) tx9) cw_RX11_94 ⟨Nat.le_of_ble_eq_true rfl, Nat.le_of_ble_eq_true rfl⟩ rfl rfl rfl hl.1 rfl (Nat.le_of_ble_eq_true rfl) dX11_noBowler_11 ⟨Nat.zero_le _, Nat.zero_le _⟩ (fun r11 σ10 τ10 H locs h10 hP hS => ?_)
   obtain ⟨⟨rfl, rfl⟩, h10⟩ := h10
   rcases h10 with h12 | h13
   · obtain ⟨q15, k14⟩ := h12
     have q15 := q15.symm
     subst q15
     exact hret 1 σ τ _ _ _ _ rfl ⟨⟨rfl, rfl⟩, Or.inl ⟨rfl, (by have h9 := jz_1; omega)⟩⟩ hP hS dX11_noBowler_14
   · obtain ⟨q17, k16⟩ := h13
     have q17 := q17.symm
     subst q17
     exact hret 0 σ τ _ _ _ _ rfl ⟨⟨rfl, rfl⟩, Or.inr (⟨rfl, (by have h9 := jz_0; omega)⟩)⟩ hP hS dX11_noBowler_14
set_option maxHeartbeats 4000000 in
set_option maxRecDepth 100000 in
theorem c_X11_noRule (l : Launch) (D : va_G) (cI cL : ClassId) (ad zz : Nat → Nat) (hJ : jD ad) (σ : Nat → Nat → Int32) (τ : Nat → Nat → Int64) (a1 : Int32) (A1 : Int) (t1 : a1.toInt = A1) (hI38 : jI38 σ) : jM l yX11_noRule cX11_noRule 2 (some .boolean) ({ frames := 1, cells := 0, slots := 0, locals := 22 }) D cI cL ad zz [.ref (ad 0), .int a1] σ τ (fun r σ' τ' => (σ = σ' ∧ τ = τ') ∧ ((r = 1 ∧ ((A1 < 0) ∨ ((σ 38 0).toInt ≤ A1))) ∨ (r = 0 ∧ (0 ≤ A1 ∧ A1 < (σ 38 0).toInt)))) := by
  refine jM.of hJ (by decide +kernel) (nt := .boolean) rfl (Nat.le_of_ble_eq_true rfl) ?_
  intro p e s m args below meth c Q ls hC hret hl hP
  obtain ⟨hx, hb, hr, hml, hown, hts, hK, -, hlocks, hZ⟩ := hC
  have hown : s.vm.findClass RX11 = some m.cls := hown
  have hS : va_S (jA ad) s.heap s.heap [] := va_S.rf
  have hA : ∀ q, jA ad q → jA ad q := fun _ h => h
  have hl : lv_has ls 2 [(0, .ref (ad 0)), (1, .int a1)] := hl
  have g1 := jrg t1
  obtain ⟨i1, i2, w3⟩ : (0 ≤ (σ 38 0).toInt ∧ (σ 38 0).toInt ≤ 20) ∧ (0 ≤ (σ 38 1).toInt ∧ (σ 38 1).toInt ≤ 1000) ∧ (∀ k : Nat, k < 20 → 0 ≤ (σ 39 k).toInt ∧ (σ 39 k).toInt ≤ 6) := id hI38
  refine lv_iload_n hx hb dX11_noRule_0 rfl (lv_at hl 1 rfl) ?_
  refine lv_iconst (v := 0) hx hb dX11_noRule_1 (of_decide_eq_true rfl) ?_
  refine lv_aload_n hx hb dX11_noRule_2 rfl (lv_at hl 0 rfl) ?_
  refine va_get (D := D) hx hb hts inlX11 hown hK hP 0 (jc_0 cI cL ad σ τ) rfl 7 (of_decide_eq_true rfl) (hts _ kw_2_17) (fun _ h9 => h9) rfl dX11_noRule_3 ?_
  refine va_get (D := D) hx hb hts inlX8 hown hK hP 38 (jc_38 cI cL ad σ τ) rfl 0 (of_decide_eq_true rfl) (hts _ kw_24_8) (fun _ h9 => h9) rfl dX11_noRule_6 ?_
  refine lv_iconst (v := 1) hx hb dX11_noRule_9 (of_decide_eq_true rfl) ?_
  have g4 := jrg (rfl : (σ 38 0).toInt = (σ 38 0).toInt)
  refine lv_isub hx hb dX11_noRule_10 ?_
  refine lv_topi (fun x5 ex5 => ?_)
  exact by
   have tx5 : x5.toInt = (σ 38 0).toInt - 1 := (jsub ex5 rfl jz_1 (by omega) (by omega)).trans (by omega)
   refine jcallS (As := [.int a1, .int 0, .int x5]) (rest := []) ⟨hx, hb, hml, hown, hts⟩ hK hP hA hS hZ (c_X11_outside l D cI cL ad zz hJ σ τ a1 (A1) t1 0 (0) jz_0 x5 ((σ 38 0).toInt - 1) tx5) cw_RX11_94 ⟨Nat.le_of_ble_eq_true rfl, Nat.le_of_ble_eq_true rfl⟩ rfl rfl rfl hl.1 rfl (Nat.le_of_ble_eq_true rfl) dX11_noRule_11 ⟨Nat.zero_le _, Nat.zero_le _⟩ (fun r7 σ6 τ6 H locs h6 hP hS => ?_)
   obtain ⟨⟨rfl, rfl⟩, h6⟩ := h6
   rcases h6 with h8 | h9
   · obtain ⟨q11, k10⟩ := h8
     have q11 := q11.symm
     subst q11
     exact hret 1 σ τ _ _ _ _ rfl ⟨⟨rfl, rfl⟩, Or.inl ⟨rfl, (by have h9 := jz_1; omega)⟩⟩ hP hS dX11_noRule_14
   · obtain ⟨q13, k12⟩ := h9
     have q13 := q13.symm
     subst q13
     exact hret 0 σ τ _ _ _ _ rfl ⟨⟨rfl, rfl⟩, Or.inr (⟨rfl, (by have h9 := jz_0; omega)⟩)⟩ hP hS dX11_noRule_14
set_option maxHeartbeats 4000000 in
set_option maxRecDepth 100000 in
theorem c_X11_noShelf (l : Launch) (D : va_G) (cI cL : ClassId) (ad zz : Nat → Nat) (hJ : jD ad) (σ : Nat → Nat → Int32) (τ : Nat → Nat → Int64) (a1 : Int32) (A1 : Int) (t1 : a1.toInt = A1) : jM l yX11_noShelf cX11_noShelf 1 (some .boolean) ({ frames := 1, cells := 0, slots := 0, locals := 22 }) D cI cL ad zz [.int a1] σ τ (fun r σ' τ' => (σ = σ' ∧ τ = τ') ∧ ((r = 1 ∧ ((A1 < 0) ∨ (6 ≤ A1))) ∨ (r = 0 ∧ (0 ≤ A1 ∧ A1 < 6)))) := by
  refine jM.of hJ (by decide +kernel) (nt := .boolean) rfl (Nat.le_of_ble_eq_true rfl) ?_
  intro p e s m args below meth c Q ls hC hret hl hP
  obtain ⟨hx, hb, hr, hml, hown, hts, hK, -, hlocks, hZ⟩ := hC
  have hown : s.vm.findClass RX11 = some m.cls := hown
  have hS : va_S (jA ad) s.heap s.heap [] := va_S.rf
  have hA : ∀ q, jA ad q → jA ad q := fun _ h => h
  have hl : lv_has ls 1 [(0, .int a1)] := hl
  have g1 := jrg t1
  refine lv_iload_n hx hb dX11_noShelf_0 rfl (lv_at hl 0 rfl) ?_
  refine lv_iconst (v := 0) hx hb dX11_noShelf_1 (of_decide_eq_true rfl) ?_
  refine lv_iconst (v := 5) hx hb dX11_noShelf_2 (of_decide_eq_true rfl) ?_
  refine jcallS (As := [.int a1, .int 0, .int 5]) (rest := []) ⟨hx, hb, hml, hown, hts⟩ hK hP hA hS hZ (c_X11_outside l D cI cL ad zz hJ σ τ a1 (A1) t1 0 (0) jz_0 5 (5) jz_5) cw_RX11_94 ⟨Nat.le_of_ble_eq_true rfl, Nat.le_of_ble_eq_true rfl⟩ rfl rfl rfl hl.1 rfl (Nat.le_of_ble_eq_true rfl) dX11_noShelf_3 ⟨Nat.zero_le _, Nat.zero_le _⟩ (fun r2 σ1 τ1 H locs h1 hP hS => ?_)
  obtain ⟨⟨rfl, rfl⟩, h1⟩ := h1
  rcases h1 with h3 | h4
  · obtain ⟨q6, k5⟩ := h3
    have q6 := q6.symm
    subst q6
    exact hret 1 σ τ _ _ _ _ rfl ⟨⟨rfl, rfl⟩, Or.inl ⟨rfl, (by have h9 := jz_1; omega)⟩⟩ hP hS dX11_noShelf_6
  · obtain ⟨q8, k7⟩ := h4
    have q8 := q8.symm
    subst q8
    exact hret 0 σ τ _ _ _ _ rfl ⟨⟨rfl, rfl⟩, Or.inr (⟨rfl, (by have h9 := jz_0; omega)⟩)⟩ hP hS dX11_noShelf_6
set_option maxHeartbeats 4000000 in
set_option maxRecDepth 100000 in
theorem c_X4_at_2 (l : Launch) (D : va_G) (cI cL : ClassId) (ad zz : Nat → Nat) (hJ : jD ad) (σ : Nat → Nat → Int32) (τ : Nat → Nat → Int64) (a1 : Int32) (A1 : Int) (t1 : a1.toInt = A1) : jM l yX4_at cX4_at 2 (some .int) ({ frames := 0, cells := 0, slots := 0, locals := 0 }) D cI cL ad zz [.ref (ad 2), .int a1] σ τ (fun r σ' τ' => (σ = σ' ∧ τ = τ') ∧ ((r = (σ 3 a1.toNatClampNeg) ∧ (0 ≤ A1 ∧ A1 ≤ 67)) ∨ (r = 0 ∧ ((A1 < 0) ∨ (67 < A1))))) := by
  refine jM.of hJ (by decide +kernel) (nt := .int) rfl (Nat.le_of_ble_eq_true rfl) ?_
  intro p e s m args below meth c Q ls hC hret hl hP
  obtain ⟨hx, hb, hr, hml, hown, hts, hK, -, hlocks, hZ⟩ := hC
  have hown : s.vm.findClass RX4 = some m.cls := hown
  have hS : va_S (jA ad) s.heap s.heap [] := va_S.rf
  have hA : ∀ q, jA ad q → jA ad q := fun _ h => h
  have hl : lv_has ls 2 [(0, .ref (ad 2)), (1, .int a1)] := hl
  have g1 := jrg t1
  refine lv_iload_n hx hb dX4_at_0 rfl (lv_at hl 1 rfl) ?_
  refine lv_if_lt (tgt := 10) hx hb dX4_at_1 (of_decide_eq_true rfl) (fun c1 => ?_) (fun c1 => ?_)
  · have kc1 := jlt c1 t1 jz_0
    refine lv_iconst (v := 0) hx hb dX4_at_10 (of_decide_eq_true rfl) ?_
    refine lv_goto (tgt := 20) hx hb dX4_at_11 (of_decide_eq_true rfl) ?_
    exact hret 0 σ τ _ _ _ _ rfl ⟨⟨rfl, rfl⟩, Or.inr (⟨rfl, (by have h9 := jz_0; omega)⟩)⟩ hP hS dX4_at_20
  · have kc1 := jnlt c1 t1 jz_0
    refine lv_iload_n hx hb dX4_at_4 rfl (lv_at hl 1 rfl) ?_
    refine lv_bipush (v := 68) hx hb dX4_at_5 (of_decide_eq_true rfl) ?_
    refine lv_icmp_lt (tgt := 14) hx hb dX4_at_7 (of_decide_eq_true rfl) (fun c2 => ?_) (fun c2 => ?_)
    · have kc2 := jlt c2 t1 jz_68
      refine lv_aload_n hx hb dX4_at_14 rfl (lv_at hl 0 rfl) ?_
      refine va_get (D := D) hx hb hts inlX4 hown hK hP 2 (jc_2 cI cL ad σ τ) rfl 4 (of_decide_eq_true rfl) (hts _ kw_3_11) (fun _ h9 => h9) rfl dX4_at_15 ?_
      refine lv_iload_n hx hb dX4_at_18 rfl (lv_at hl 1 rfl) ?_
      exact by
       refine jald hx hb hK hP (jc_3 cI cL ad σ τ) (jin t1 (by omega) (by omega)) dX4_at_19 ?_
       refine jtopr (y := (σ 3 a1.toNatClampNeg)) rfl ?_
       exact hret (σ 3 a1.toNatClampNeg) σ τ _ _ _ _ rfl ⟨⟨rfl, rfl⟩, Or.inl ⟨rfl, (by omega)⟩⟩ hP hS dX4_at_20
    · have kc2 := jnlt c2 t1 jz_68
      refine lv_iconst (v := 0) hx hb dX4_at_10 (of_decide_eq_true rfl) ?_
      refine lv_goto (tgt := 20) hx hb dX4_at_11 (of_decide_eq_true rfl) ?_
      exact hret 0 σ τ _ _ _ _ rfl ⟨⟨rfl, rfl⟩, Or.inr (⟨rfl, (by have h9 := jz_0; omega)⟩)⟩ hP hS dX4_at_20
set_option maxHeartbeats 4000000 in
set_option maxRecDepth 100000 in
theorem c_X4_oversOf_2 (l : Launch) (D : va_G) (cI cL : ClassId) (ad zz : Nat → Nat) (hJ : jD ad) (σ : Nat → Nat → Int32) (τ : Nat → Nat → Int64) (a1 : Int32) (A1 : Int) (t1 : a1.toInt = A1) : jM l yX4_oversOf cX4_oversOf 2 (some .int) ({ frames := 1, cells := 0, slots := 0, locals := 21 }) D cI cL ad zz [.ref (ad 2), .int a1] σ τ (fun r σ' τ' => (σ = σ' ∧ τ = τ') ∧ True) := by
  refine jM.of hJ (by decide +kernel) (nt := .int) rfl (Nat.le_of_ble_eq_true rfl) ?_
  intro p e s m args below meth c Q ls hC hret hl hP
  obtain ⟨hx, hb, hr, hml, hown, hts, hK, -, hlocks, hZ⟩ := hC
  have hown : s.vm.findClass RX4 = some m.cls := hown
  have hS : va_S (jA ad) s.heap s.heap [] := va_S.rf
  have hA : ∀ q, jA ad q → jA ad q := fun _ h => h
  have hl : lv_has ls 2 [(0, .ref (ad 2)), (1, .int a1)] := hl
  have g1 := jrg t1
  refine lv_aload_n hx hb dX4_oversOf_0 rfl (lv_at hl 0 rfl) ?_
  refine lv_bipush (v := 32) hx hb dX4_oversOf_1 (of_decide_eq_true rfl) ?_
  refine lv_iload_n hx hb dX4_oversOf_3 rfl (lv_at hl 1 rfl) ?_
  refine lv_iadd hx hb dX4_oversOf_4 ?_
  refine lv_topi (fun x1 ex1 => ?_)
  have gx1 := jrg (rfl : x1.toInt = x1.toInt)
  refine jcallV (As := [.int x1]) (rest := []) ⟨hx, hb, hml, hown, hts⟩ hK hP hA hS hZ (c_X4_at_2 l D cI cL ad zz hJ σ τ x1 (x1.toInt) rfl) cw_RX4_34 (jc_2 cI cL ad σ τ) rfl ⟨Nat.le_of_ble_eq_true rfl, Nat.le_of_ble_eq_true rfl⟩ rfl rfl rfl hl.1 rfl (Nat.le_of_ble_eq_true rfl) dX4_oversOf_5 ⟨Nat.zero_le _, Nat.zero_le _⟩ (fun r3 σ2 τ2 H locs h2 hP hS => ?_)
  obtain ⟨⟨rfl, rfl⟩, h2⟩ := h2
  rcases h2 with h4 | h5
  · obtain ⟨q7, k6⟩ := h4
    have q8 : r3 = (σ 3 x1.toNatClampNeg) := q7.trans rfl
    have q8 := q8.symm
    subst q8
    exact hret (σ 3 x1.toNatClampNeg) σ τ _ _ _ _ rfl ⟨⟨rfl, rfl⟩, trivial⟩ hP hS dX4_oversOf_8
  · obtain ⟨q10, k9⟩ := h5
    have q10 := q10.symm
    subst q10
    exact hret 0 σ τ _ _ _ _ rfl ⟨⟨rfl, rfl⟩, trivial⟩ hP hS dX4_oversOf_8
set_option maxHeartbeats 4000000 in
set_option maxRecDepth 100000 in
theorem c_X4_oversOf_p (l : Launch) (D : va_G) (cI cL : ClassId) (ad zz : Nat → Nat) (hJ : jD ad) (σ : Nat → Nat → Int32) (τ : Nat → Nat → Int64) (a1 : Int32) (A1 : Int) (t1 : a1.toInt = A1) (hp0 : 0 ≤ A1 ∧ A1 ≤ 3) : jM l yX4_oversOf cX4_oversOf 2 (some .int) ({ frames := 1, cells := 0, slots := 0, locals := 21 }) D cI cL ad zz [.ref (ad 2), .int a1] σ τ (fun r σ' τ' => (σ = σ' ∧ τ = τ') ∧ ((0 ≤ A1 ∧ A1 ≤ 3) → r = σ 3 (32 + A1).toNat) ∧ True) := by
  refine jM.of hJ (by decide +kernel) (nt := .int) rfl (Nat.le_of_ble_eq_true rfl) ?_
  intro p e s m args below meth c Q ls hC hret hl hP
  obtain ⟨hx, hb, hr, hml, hown, hts, hK, -, hlocks, hZ⟩ := hC
  have hown : s.vm.findClass RX4 = some m.cls := hown
  have hS : va_S (jA ad) s.heap s.heap [] := va_S.rf
  have hA : ∀ q, jA ad q → jA ad q := fun _ h => h
  have hl : lv_has ls 2 [(0, .ref (ad 2)), (1, .int a1)] := hl
  have g1 := jrg t1
  refine lv_aload_n hx hb dX4_oversOf_0 rfl (lv_at hl 0 rfl) ?_
  refine lv_bipush (v := 32) hx hb dX4_oversOf_1 (of_decide_eq_true rfl) ?_
  refine lv_iload_n hx hb dX4_oversOf_3 rfl (lv_at hl 1 rfl) ?_
  refine lv_iadd hx hb dX4_oversOf_4 ?_
  refine lv_topi (fun x1 ex1 => ?_)
  exact by
   have tx1 : x1.toInt = A1 + 32 := (jadd ex1 jz_32 t1 (by omega) (by omega)).trans (by omega)
   refine jcallV (As := [.int x1]) (rest := []) ⟨hx, hb, hml, hown, hts⟩ hK hP hA hS hZ (c_X4_at_2 l D cI cL ad zz hJ σ τ x1 (A1 + 32) tx1) cw_RX4_34 (jc_2 cI cL ad σ τ) rfl ⟨Nat.le_of_ble_eq_true rfl, Nat.le_of_ble_eq_true rfl⟩ rfl rfl rfl hl.1 rfl (Nat.le_of_ble_eq_true rfl) dX4_oversOf_5 ⟨Nat.zero_le _, Nat.zero_le _⟩ (fun r3 σ2 τ2 H locs h2 hP hS => ?_)
   obtain ⟨⟨rfl, rfl⟩, h2⟩ := h2
   rcases h2 with h4 | h5
   · obtain ⟨q7, k6⟩ := h4
     have q8 : r3 = (σ 3 x1.toNatClampNeg) := q7.trans rfl
     have q8 := q8.symm
     subst q8
     exact hret (σ 3 x1.toNatClampNeg) σ τ _ _ _ _ rfl ⟨⟨rfl, rfl⟩, (fun _ => by rw [jnc (show x1.toInt = 32 + A1 by omega)]), trivial⟩ hP hS dX4_oversOf_8
   · obtain ⟨q10, k9⟩ := h5
     exact absurd (by omega : False) id
set_option maxHeartbeats 4000000 in
set_option maxRecDepth 100000 in
theorem c_X4_edgeIn_2 (l : Launch) (D : va_G) (cI cL : ClassId) (ad zz : Nat → Nat) (hJ : jD ad) (σ : Nat → Nat → Int32) (τ : Nat → Nat → Int64) (a1 : Int32) (A1 : Int) (t1 : a1.toInt = A1) (a2 : Int32) (A2 : Int) (t2 : a2.toInt = A2) (a3 : Int32) (A3 : Int) (t3 : a3.toInt = A3) (hp0 : 0 ≤ A1 ∧ A1 ≤ 3) (hp1 : 0 ≤ A2 ∧ A2 ≤ 3) (hp2 : 0 ≤ A3 ∧ A3 ≤ 3) : jM l yX4_edgeIn cX4_edgeIn 4 (some .int) ({ frames := 1, cells := 0, slots := 0, locals := 21 }) D cI cL ad zz [.ref (ad 2), .int a1, .int a2, .int a3] σ τ (fun r σ' τ' => (σ = σ' ∧ τ = τ') ∧ (r = σ 3 (4 * (A2) + (A3)).toNat + σ 3 (36 + 4 * (A1) + (A3)).toNat) ∧ True) := by
  refine jM.of hJ (by decide +kernel) (nt := .int) rfl (Nat.le_of_ble_eq_true rfl) ?_
  intro p e s m args below meth c Q ls hC hret hl hP
  obtain ⟨hx, hb, hr, hml, hown, hts, hK, -, hlocks, hZ⟩ := hC
  have hown : s.vm.findClass RX4 = some m.cls := hown
  have hS : va_S (jA ad) s.heap s.heap [] := va_S.rf
  have hA : ∀ q, jA ad q → jA ad q := fun _ h => h
  have hl : lv_has ls 4 [(0, .ref (ad 2)), (1, .int a1), (2, .int a2), (3, .int a3)] := hl
  have g1 := jrg t1
  have g2 := jrg t2
  have g3 := jrg t3
  refine lv_aload_n hx hb dX4_edgeIn_0 rfl (lv_at hl 0 rfl) ?_
  refine lv_iconst (v := 0) hx hb dX4_edgeIn_1 (of_decide_eq_true rfl) ?_
  refine lv_iload_n hx hb dX4_edgeIn_2 rfl (lv_at hl 2 rfl) ?_
  refine lv_iconst (v := 4) hx hb dX4_edgeIn_3 (of_decide_eq_true rfl) ?_
  refine lv_imul hx hb dX4_edgeIn_4 ?_
  refine lv_topi (fun x1 ex1 => ?_)
  exact by
   have tx1 : x1.toInt = 4 * A2 := (jmul ex1 t2 jz_4 (by omega) (by omega)).trans (by omega)
   refine lv_iadd hx hb dX4_edgeIn_5 ?_
   refine jtopr (y := x1) (by rw [Int32.zero_add]) ?_
   refine lv_iload_n hx hb dX4_edgeIn_6 rfl (lv_at hl 3 rfl) ?_
   refine lv_iadd hx hb dX4_edgeIn_7 ?_
   refine lv_topi (fun x2 ex2 => ?_)
   have tx2 : x2.toInt = 4 * A2 + A3 := (jadd ex2 tx1 t3 (by omega) (by omega)).trans (by omega)
   refine jcallV (As := [.int x2]) (rest := []) ⟨hx, hb, hml, hown, hts⟩ hK hP hA hS hZ (c_X4_at_2 l D cI cL ad zz hJ σ τ x2 (4 * A2 + A3) tx2) cw_RX4_34 (jc_2 cI cL ad σ τ) rfl ⟨Nat.le_of_ble_eq_true rfl, Nat.le_of_ble_eq_true rfl⟩ rfl rfl rfl hl.1 rfl (Nat.le_of_ble_eq_true rfl) dX4_edgeIn_8 ⟨Nat.zero_le _, Nat.zero_le _⟩ (fun r4 σ3 τ3 H locs h3 hP hS => ?_)
   obtain ⟨⟨rfl, rfl⟩, h3⟩ := h3
   exact by
    rcases h3 with h5 | h6
    · obtain ⟨q8, k7⟩ := h5
      have q9 : r4 = (σ 3 x2.toNatClampNeg) := q8.trans rfl
      have q9 := q9.symm
      subst q9
      refine lv_aload_n hx hb dX4_edgeIn_11 rfl (lv_at hl 0 rfl) ?_
      refine lv_bipush (v := 36) hx hb dX4_edgeIn_12 (of_decide_eq_true rfl) ?_
      refine lv_iload_n hx hb dX4_edgeIn_14 rfl (lv_at hl 1 rfl) ?_
      refine lv_iconst (v := 4) hx hb dX4_edgeIn_15 (of_decide_eq_true rfl) ?_
      refine lv_imul hx hb dX4_edgeIn_16 ?_
      refine lv_topi (fun x10 ex10 => ?_)
      exact by
       have tx10 : x10.toInt = 4 * A1 := (jmul ex10 t1 jz_4 (by omega) (by omega)).trans (by omega)
       refine lv_iadd hx hb dX4_edgeIn_17 ?_
       refine lv_topi (fun x11 ex11 => ?_)
       have tx11 : x11.toInt = 4 * A1 + 36 := (jadd ex11 jz_36 tx10 (by omega) (by omega)).trans (by omega)
       refine lv_iload_n hx hb dX4_edgeIn_18 rfl (lv_at hl 3 rfl) ?_
       refine lv_iadd hx hb dX4_edgeIn_19 ?_
       refine lv_topi (fun x12 ex12 => ?_)
       have tx12 : x12.toInt = 4 * A1 + A3 + 36 := (jadd ex12 tx11 t3 (by omega) (by omega)).trans (by omega)
       refine jcallV (As := [.int x12]) (rest := [.int (σ 3 x2.toNatClampNeg)]) ⟨hx, hb, hml, hown, hts⟩ hK hP hA hS hZ (c_X4_at_2 l D cI cL ad zz hJ σ τ x12 (4 * A1 + A3 + 36) tx12) cw_RX4_34 (jc_2 cI cL ad σ τ) rfl ⟨Nat.le_of_ble_eq_true rfl, Nat.le_of_ble_eq_true rfl⟩ rfl rfl rfl hl.1 rfl (Nat.le_of_ble_eq_true rfl) dX4_edgeIn_20 ⟨Nat.zero_le _, Nat.zero_le _⟩ (fun r14 σ13 τ13 H locs h13 hP hS => ?_)
       exact by
        obtain ⟨⟨rfl, rfl⟩, h13⟩ := h13
        rcases h13 with h15 | h16
        · obtain ⟨q18, k17⟩ := h15
          have q19 : r14 = (σ 3 x12.toNatClampNeg) := q18.trans rfl
          have q19 := q19.symm
          subst q19
          have g20 := jrg (rfl : (σ 3 x2.toNatClampNeg).toInt = (σ 3 x2.toNatClampNeg).toInt)
          have g21 := jrg (rfl : (σ 3 x12.toNatClampNeg).toInt = (σ 3 x12.toNatClampNeg).toInt)
          refine lv_iadd hx hb dX4_edgeIn_23 ?_
          refine lv_topi (fun x22 ex22 => ?_)
          have gx22 := jrg (rfl : x22.toInt = x22.toInt)
          exact hret x22 σ τ _ _ _ _ rfl ⟨⟨rfl, rfl⟩, (by rw [ex22, jnc (show x2.toInt = 4 * (A2) + (A3) by omega), jnc (show x12.toInt = 36 + 4 * (A1) + (A3) by omega)]), trivial⟩ hP hS dX4_edgeIn_24
        · obtain ⟨q24, k23⟩ := h16
          exact absurd (by omega : False) id
    · obtain ⟨q26, k25⟩ := h6
      exact absurd (by omega : False) id
set_option maxHeartbeats 4000000 in
set_option maxRecDepth 100000 in
theorem c_X4_runsIn_2 (l : Launch) (D : va_G) (cI cL : ClassId) (ad zz : Nat → Nat) (hJ : jD ad) (σ : Nat → Nat → Int32) (τ : Nat → Nat → Int64) (a1 : Int32) (A1 : Int) (t1 : a1.toInt = A1) (a2 : Int32) (A2 : Int) (t2 : a2.toInt = A2) (a3 : Int32) (A3 : Int) (t3 : a3.toInt = A3) (hp0 : 0 ≤ A1 ∧ A1 ≤ 3) (hp1 : 0 ≤ A2 ∧ A2 ≤ 3) (hp2 : 0 ≤ A3 ∧ A3 ≤ 3) : jM l yX4_runsIn cX4_runsIn 4 (some .int) ({ frames := 1, cells := 0, slots := 0, locals := 21 }) D cI cL ad zz [.ref (ad 2), .int a1, .int a2, .int a3] σ τ (fun r σ' τ' => (σ = σ' ∧ τ = τ') ∧ (r = σ 5 (A2).toNat + σ 3 (16 + 4 * (A2) + (A3)).toNat + σ 3 (52 + 4 * (A1) + (A3)).toNat) ∧ True) := by
  refine jM.of hJ (by decide +kernel) (nt := .int) rfl (Nat.le_of_ble_eq_true rfl) ?_
  intro p e s m args below meth c Q ls hC hret hl hP
  obtain ⟨hx, hb, hr, hml, hown, hts, hK, -, hlocks, hZ⟩ := hC
  have hown : s.vm.findClass RX4 = some m.cls := hown
  have hS : va_S (jA ad) s.heap s.heap [] := va_S.rf
  have hA : ∀ q, jA ad q → jA ad q := fun _ h => h
  have hl : lv_has ls 4 [(0, .ref (ad 2)), (1, .int a1), (2, .int a2), (3, .int a3)] := hl
  have g1 := jrg t1
  have g2 := jrg t2
  have g3 := jrg t3
  refine lv_iload_n hx hb dX4_runsIn_0 rfl (lv_at hl 2 rfl) ?_
  exact by
   refine lv_if_lt (tgt := 9) hx hb dX4_runsIn_1 (of_decide_eq_true rfl) (fun c => absurd (jlt c t2 jz_0) (by omega)) (fun c1 => ?_)
   have kc1 := jnlt c1 t2 jz_0
   refine lv_iload_n hx hb dX4_runsIn_4 rfl (lv_at hl 2 rfl) ?_
   refine lv_iconst (v := 4) hx hb dX4_runsIn_5 (of_decide_eq_true rfl) ?_
   refine lv_icmp_lt (tgt := 11) hx hb dX4_runsIn_6 (of_decide_eq_true rfl) (fun c2 => ?_) (fun c => absurd (jnlt c t2 jz_4) (by omega))
   have kc2 := jlt c2 t2 jz_4
   refine lv_aload_n hx hb dX4_runsIn_11 rfl (lv_at hl 0 rfl) ?_
   refine va_get (D := D) hx hb hts inlX4 hown hK hP 2 (jc_2 cI cL ad σ τ) rfl 6 (of_decide_eq_true rfl) (hts _ kw_3_13) (fun _ h9 => h9) rfl dX4_runsIn_12 ?_
   refine lv_iload_n hx hb dX4_runsIn_15 rfl (lv_at hl 2 rfl) ?_
   exact by
    refine jald hx hb hK hP (jc_5 cI cL ad σ τ) (jin t2 (by omega) (by omega)) dX4_runsIn_16 ?_
    refine jtopr (y := (σ 5 a2.toNatClampNeg)) rfl ?_
    refine lv_aload_n hx hb dX4_runsIn_17 rfl (lv_at hl 0 rfl) ?_
    refine lv_bipush (v := 16) hx hb dX4_runsIn_18 (of_decide_eq_true rfl) ?_
    refine lv_iload_n hx hb dX4_runsIn_20 rfl (lv_at hl 2 rfl) ?_
    refine lv_iconst (v := 4) hx hb dX4_runsIn_21 (of_decide_eq_true rfl) ?_
    refine lv_imul hx hb dX4_runsIn_22 ?_
    refine lv_topi (fun x3 ex3 => ?_)
    have tx3 : x3.toInt = 4 * A2 := (jmul ex3 t2 jz_4 (by omega) (by omega)).trans (by omega)
    exact by
     refine lv_iadd hx hb dX4_runsIn_23 ?_
     refine lv_topi (fun x4 ex4 => ?_)
     have tx4 : x4.toInt = 4 * A2 + 16 := (jadd ex4 jz_16 tx3 (by omega) (by omega)).trans (by omega)
     refine lv_iload_n hx hb dX4_runsIn_24 rfl (lv_at hl 3 rfl) ?_
     refine lv_iadd hx hb dX4_runsIn_25 ?_
     refine lv_topi (fun x5 ex5 => ?_)
     have tx5 : x5.toInt = 4 * A2 + A3 + 16 := (jadd ex5 tx4 t3 (by omega) (by omega)).trans (by omega)
     refine jcallV (As := [.int x5]) (rest := [.int (σ 5 a2.toNatClampNeg)]) ⟨hx, hb, hml, hown, hts⟩ hK hP hA hS hZ (c_X4_at_2 l D cI cL ad zz hJ σ τ x5 (4 * A2 + A3 + 16) tx5) cw_RX4_34 (jc_2 cI cL ad σ τ) rfl ⟨Nat.le_of_ble_eq_true rfl, Nat.le_of_ble_eq_true rfl⟩ rfl rfl rfl hl.1 rfl (Nat.le_of_ble_eq_true rfl) dX4_runsIn_26 ⟨Nat.zero_le _, Nat.zero_le _⟩ (fun r7 σ6 τ6 H locs h6 hP hS => ?_)
     obtain ⟨⟨rfl, rfl⟩, h6⟩ := h6
     exact by
      rcases h6 with h8 | h9
      · obtain ⟨q11, k10⟩ := h8
        have q12 : r7 = (σ 3 x5.toNatClampNeg) := q11.trans rfl
        have q12 := q12.symm
        subst q12
        have g13 := jrg (rfl : (σ 5 a2.toNatClampNeg).toInt = (σ 5 a2.toNatClampNeg).toInt)
        have g14 := jrg (rfl : (σ 3 x5.toNatClampNeg).toInt = (σ 3 x5.toNatClampNeg).toInt)
        refine lv_iadd hx hb dX4_runsIn_29 ?_
        refine lv_topi (fun x15 ex15 => ?_)
        have gx15 := jrg (rfl : x15.toInt = x15.toInt)
        refine lv_aload_n hx hb dX4_runsIn_30 rfl (lv_at hl 0 rfl) ?_
        refine lv_bipush (v := 52) hx hb dX4_runsIn_31 (of_decide_eq_true rfl) ?_
        refine lv_iload_n hx hb dX4_runsIn_33 rfl (lv_at hl 1 rfl) ?_
        refine lv_iconst (v := 4) hx hb dX4_runsIn_34 (of_decide_eq_true rfl) ?_
        refine lv_imul hx hb dX4_runsIn_35 ?_
        refine lv_topi (fun x16 ex16 => ?_)
        exact by
         have tx16 : x16.toInt = 4 * A1 := (jmul ex16 t1 jz_4 (by omega) (by omega)).trans (by omega)
         refine lv_iadd hx hb dX4_runsIn_36 ?_
         refine lv_topi (fun x17 ex17 => ?_)
         have tx17 : x17.toInt = 4 * A1 + 52 := (jadd ex17 jz_52 tx16 (by omega) (by omega)).trans (by omega)
         refine lv_iload_n hx hb dX4_runsIn_37 rfl (lv_at hl 3 rfl) ?_
         refine lv_iadd hx hb dX4_runsIn_38 ?_
         refine lv_topi (fun x18 ex18 => ?_)
         have tx18 : x18.toInt = 4 * A1 + A3 + 52 := (jadd ex18 tx17 t3 (by omega) (by omega)).trans (by omega)
         refine jcallV (As := [.int x18]) (rest := [.int x15]) ⟨hx, hb, hml, hown, hts⟩ hK hP hA hS hZ (c_X4_at_2 l D cI cL ad zz hJ σ τ x18 (4 * A1 + A3 + 52) tx18) cw_RX4_34 (jc_2 cI cL ad σ τ) rfl ⟨Nat.le_of_ble_eq_true rfl, Nat.le_of_ble_eq_true rfl⟩ rfl rfl rfl hl.1 rfl (Nat.le_of_ble_eq_true rfl) dX4_runsIn_39 ⟨Nat.zero_le _, Nat.zero_le _⟩ (fun r20 σ19 τ19 H locs h19 hP hS => ?_)
         exact by
          obtain ⟨⟨rfl, rfl⟩, h19⟩ := h19
          rcases h19 with h21 | h22
          · obtain ⟨q24, k23⟩ := h21
            have q25 : r20 = (σ 3 x18.toNatClampNeg) := q24.trans rfl
            have q25 := q25.symm
            subst q25
            have g26 := jrg (rfl : x15.toInt = x15.toInt)
            have g27 := jrg (rfl : (σ 3 x18.toNatClampNeg).toInt = (σ 3 x18.toNatClampNeg).toInt)
            refine lv_iadd hx hb dX4_runsIn_42 ?_
            refine lv_topi (fun x28 ex28 => ?_)
            have gx28 := jrg (rfl : x28.toInt = x28.toInt)
            exact hret x28 σ τ _ _ _ _ rfl ⟨⟨rfl, rfl⟩, (by rw [ex28, ex15, jnc (show a2.toInt = A2 by have h9 := t2; omega), jnc (show x5.toInt = 16 + 4 * (A2) + (A3) by omega), jnc (show x18.toInt = 52 + 4 * (A1) + (A3) by omega)]), trivial⟩ hP hS dX4_runsIn_43
          · obtain ⟨q30, k29⟩ := h22
            exact absurd (by omega : False) id
      · obtain ⟨q32, k31⟩ := h9
        exact absurd (by omega : False) id
set_option maxHeartbeats 4000000 in
set_option maxRecDepth 100000 in
theorem c_X4_freshness_2 (l : Launch) (D : va_G) (cI cL : ClassId) (ad zz : Nat → Nat) (hJ : jD ad) (σ : Nat → Nat → Int32) (τ : Nat → Nat → Int64) (a1 : Int32) (A1 : Int) (t1 : a1.toInt = A1) (a2 : Int32) (A2 : Int) (t2 : a2.toInt = A2) (hp0 : 0 ≤ A1 ∧ A1 ≤ 3) : jM l yX4_freshness cX4_freshness 3 (some .int) ({ frames := 1, cells := 0, slots := 0, locals := 21 }) D cI cL ad zz [.ref (ad 2), .int a1, .int a2] σ τ (fun r σ' τ' => (σ = σ' ∧ τ = τ') ∧ (r = jFr (σ 4 (A1).toNat) a2) ∧ True) := by
  refine jM.of hJ (by decide +kernel) (nt := .int) rfl (Nat.le_of_ble_eq_true rfl) ?_
  intro p e s m args below meth c Q ls hC hret hl hP
  obtain ⟨hx, hb, hr, hml, hown, hts, hK, -, hlocks, hZ⟩ := hC
  have hown : s.vm.findClass RX4 = some m.cls := hown
  have hS : va_S (jA ad) s.heap s.heap [] := va_S.rf
  have hA : ∀ q, jA ad q → jA ad q := fun _ h => h
  have hl : lv_has ls 3 [(0, .ref (ad 2)), (1, .int a1), (2, .int a2)] := hl
  have g1 := jrg t1
  have g2 := jrg t2
  refine lv_iload_n hx hb dX4_freshness_0 rfl (lv_at hl 1 rfl) ?_
  exact by
   refine lv_if_lt (tgt := 9) hx hb dX4_freshness_1 (of_decide_eq_true rfl) (fun c => absurd (jlt c t1 jz_0) (by omega)) (fun c1 => ?_)
   have kc1 := jnlt c1 t1 jz_0
   refine lv_iload_n hx hb dX4_freshness_4 rfl (lv_at hl 1 rfl) ?_
   refine lv_iconst (v := 4) hx hb dX4_freshness_5 (of_decide_eq_true rfl) ?_
   refine lv_icmp_lt (tgt := 11) hx hb dX4_freshness_6 (of_decide_eq_true rfl) (fun c2 => ?_) (fun c => absurd (jnlt c t1 jz_4) (by omega))
   have kc2 := jlt c2 t1 jz_4
   refine lv_iconst (v := 0) hx hb dX4_freshness_11 (of_decide_eq_true rfl) ?_
   refine lv_bipush (v := 100) hx hb dX4_freshness_12 (of_decide_eq_true rfl) ?_
   refine lv_aload_n hx hb dX4_freshness_14 rfl (lv_at hl 0 rfl) ?_
   exact by
    refine va_get (D := D) hx hb hts inlX4 hown hK hP 2 (jc_2 cI cL ad σ τ) rfl 5 (of_decide_eq_true rfl) (hts _ kw_3_12) (fun _ h9 => h9) rfl dX4_freshness_15 ?_
    refine lv_iload_n hx hb dX4_freshness_18 rfl (lv_at hl 1 rfl) ?_
    refine jald hx hb hK hP (jc_4 cI cL ad σ τ) (jin t1 (by omega) (by omega)) dX4_freshness_19 ?_
    refine jtopr (y := (σ 4 a1.toNatClampNeg)) rfl ?_
    refine lv_iload_n hx hb dX4_freshness_20 rfl (lv_at hl 2 rfl) ?_
    have g3 := jrg (rfl : (σ 4 a1.toNatClampNeg).toInt = (σ 4 a1.toNatClampNeg).toInt)
    refine lv_imul hx hb dX4_freshness_21 ?_
    refine lv_topi (fun x4 ex4 => ?_)
    have gx4 := jrg (rfl : x4.toInt = x4.toInt)
    exact by
     have g5 := jrg (rfl : x4.toInt = x4.toInt)
     refine lv_isub hx hb dX4_freshness_22 ?_
     refine lv_topi (fun x6 ex6 => ?_)
     have gx6 := jrg (rfl : x6.toInt = x6.toInt)
     refine va_mmax hx hb (hml.trans hl.1.symm) hown (hts _ kw_21_19) (hts _ kw_21_0) (hts _ kw_21_1) (hts _ kw_21_2) (Nat.le_of_ble_eq_true rfl) (Nat.le_of_ble_eq_true rfl) (Nat.le_of_ble_eq_true rfl) (Nat.le_of_ble_eq_true rfl) dX4_freshness_23 ?_
     refine lv_topi (fun x7 ex7 => ?_)
     have g8 := jmax ex7 jz_0 rfl
     exact by exact hret x7 σ τ _ _ _ _ rfl ⟨⟨rfl, rfl⟩, (by have h8 : 100 - σ 4 (A1).toNat * a2 = x6 := (by rw [ex6, ex4, jnc (show a1.toInt = A1 by have h9 := t1; omega)]); unfold jFr; rw [h8]; exact Int32.toInt_inj.mp (by split <;> first | (rw [jz_0]; omega) | omega)), trivial⟩ hP hS dX4_freshness_26
set_option maxHeartbeats 4000000 in
set_option maxRecDepth 100000 in
theorem c_X4_lowest (l : Launch) (D : va_G) (cI cL : ClassId) (ad zz : Nat → Nat) (hJ : jD ad) (σ : Nat → Nat → Int32) (τ : Nat → Nat → Int64) (a1 : Int32) (A1 : Int) (t1 : a1.toInt = A1) : jM l yX4_lowest cX4_lowest 1 (some .int) ({ frames := 0, cells := 0, slots := 0, locals := 0 }) D cI cL ad zz [.int a1] σ τ (fun r σ' τ' => (σ = σ' ∧ τ = τ') ∧ ((r = 0 ∧ ((A1 < 16) ∨ (32 ≤ A1 ∧ A1 < 36))) ∨ (r = (-200) ∧ (36 ≤ A1 ∧ A1 < 52)) ∨ (r = (-9) ∧ ((16 ≤ A1 ∧ A1 < 32) ∨ (52 ≤ A1))))) := by
  refine jM.of hJ (by decide +kernel) (nt := .int) rfl (Nat.le_of_ble_eq_true rfl) ?_
  intro p e s m args below meth c Q ls hC hret hl hP
  obtain ⟨hx, hb, hr, hml, hown, hts, hK, -, hlocks, hZ⟩ := hC
  have hown : s.vm.findClass RX4 = some m.cls := hown
  have hS : va_S (jA ad) s.heap s.heap [] := va_S.rf
  have hA : ∀ q, jA ad q → jA ad q := fun _ h => h
  have hl : lv_has ls 1 [(0, .int a1)] := hl
  have g1 := jrg t1
  refine lv_iload_n hx hb dX4_lowest_0 rfl (lv_at hl 0 rfl) ?_
  refine lv_bipush (v := 16) hx hb dX4_lowest_1 (of_decide_eq_true rfl) ?_
  refine lv_icmp_lt (tgt := 18) hx hb dX4_lowest_3 (of_decide_eq_true rfl) (fun c1 => ?_) (fun c1 => ?_)
  · have kc1 := jlt c1 t1 jz_16
    refine lv_iconst (v := 0) hx hb dX4_lowest_18 (of_decide_eq_true rfl) ?_
    exact hret 0 σ τ _ _ _ _ rfl ⟨⟨rfl, rfl⟩, Or.inl ⟨rfl, (by have h9 := jz_0; omega)⟩⟩ hP hS dX4_lowest_19
  · have kc1 := jnlt c1 t1 jz_16
    refine lv_iload_n hx hb dX4_lowest_6 rfl (lv_at hl 0 rfl) ?_
    refine lv_bipush (v := 32) hx hb dX4_lowest_7 (of_decide_eq_true rfl) ?_
    refine lv_icmp_lt (tgt := 20) hx hb dX4_lowest_9 (of_decide_eq_true rfl) (fun c2 => ?_) (fun c2 => ?_)
    · have kc2 := jlt c2 t1 jz_32
      refine lv_iload_n hx hb dX4_lowest_20 rfl (lv_at hl 0 rfl) ?_
      refine lv_bipush (v := 36) hx hb dX4_lowest_21 (of_decide_eq_true rfl) ?_
      exact by
       refine lv_icmp_lt (tgt := 38) hx hb dX4_lowest_23 (of_decide_eq_true rfl) (fun c3 => ?_) (fun c => absurd (jnlt c t1 jz_36) (by omega))
       have kc3 := jlt c3 t1 jz_36
       refine lv_bipush (v := (-9)) hx hb dX4_lowest_38 (of_decide_eq_true rfl) ?_
       exact hret (-9) σ τ _ _ _ _ rfl ⟨⟨rfl, rfl⟩, Or.inr (Or.inr (⟨rfl, (by have h9 := jz_m9; omega)⟩))⟩ hP hS dX4_lowest_40
    · have kc2 := jnlt c2 t1 jz_32
      refine lv_iload_n hx hb dX4_lowest_12 rfl (lv_at hl 0 rfl) ?_
      refine lv_bipush (v := 36) hx hb dX4_lowest_13 (of_decide_eq_true rfl) ?_
      refine lv_icmp_ge (tgt := 20) hx hb dX4_lowest_15 (of_decide_eq_true rfl) (fun c4 => ?_) (fun c4 => ?_)
      · have kc4 := jle c4 jz_36 t1
        refine lv_iload_n hx hb dX4_lowest_20 rfl (lv_at hl 0 rfl) ?_
        refine lv_bipush (v := 36) hx hb dX4_lowest_21 (of_decide_eq_true rfl) ?_
        exact by
         refine lv_icmp_lt (tgt := 38) hx hb dX4_lowest_23 (of_decide_eq_true rfl) (fun c => absurd (jlt c t1 jz_36) (by omega)) (fun c5 => ?_)
         have kc5 := jnlt c5 t1 jz_36
         refine lv_iload_n hx hb dX4_lowest_26 rfl (lv_at hl 0 rfl) ?_
         refine lv_bipush (v := 52) hx hb dX4_lowest_27 (of_decide_eq_true rfl) ?_
         refine lv_icmp_ge (tgt := 38) hx hb dX4_lowest_29 (of_decide_eq_true rfl) (fun c6 => ?_) (fun c6 => ?_)
         · have kc6 := jle c6 jz_52 t1
           refine lv_bipush (v := (-9)) hx hb dX4_lowest_38 (of_decide_eq_true rfl) ?_
           exact hret (-9) σ τ _ _ _ _ rfl ⟨⟨rfl, rfl⟩, Or.inr (Or.inr (⟨rfl, (by have h9 := jz_m9; omega)⟩))⟩ hP hS dX4_lowest_40
         · have kc6 := jnle c6 jz_52 t1
           refine lv_sipush (v := (-200)) hx hb dX4_lowest_32 (of_decide_eq_true rfl) ?_
           refine lv_goto (tgt := 40) hx hb dX4_lowest_35 (of_decide_eq_true rfl) ?_
           exact hret (-200) σ τ _ _ _ _ rfl ⟨⟨rfl, rfl⟩, Or.inr (Or.inl ⟨rfl, (by have h9 := jz_m200; omega)⟩)⟩ hP hS dX4_lowest_40
      · have kc4 := jnle c4 jz_36 t1
        refine lv_iconst (v := 0) hx hb dX4_lowest_18 (of_decide_eq_true rfl) ?_
        exact hret 0 σ τ _ _ _ _ rfl ⟨⟨rfl, rfl⟩, Or.inl ⟨rfl, (by have h9 := jz_0; omega)⟩⟩ hP hS dX4_lowest_19
set_option maxHeartbeats 4000000 in
set_option maxRecDepth 100000 in
theorem c_X4_highest (l : Launch) (D : va_G) (cI cL : ClassId) (ad zz : Nat → Nat) (hJ : jD ad) (σ : Nat → Nat → Int32) (τ : Nat → Nat → Int64) (a1 : Int32) (A1 : Int) (t1 : a1.toInt = A1) : jM l yX4_highest cX4_highest 1 (some .int) ({ frames := 0, cells := 0, slots := 0, locals := 0 }) D cI cL ad zz [.int a1] σ τ (fun r σ' τ' => (σ = σ' ∧ τ = τ') ∧ ((r = 500 ∧ (A1 < 16)) ∨ (r = 9 ∧ ((16 ≤ A1 ∧ A1 < 32) ∨ (52 ≤ A1))) ∨ (r = 8 ∧ (32 ≤ A1 ∧ A1 < 36)) ∨ (r = 200 ∧ (36 ≤ A1 ∧ A1 < 52)))) := by
  refine jM.of hJ (by decide +kernel) (nt := .int) rfl (Nat.le_of_ble_eq_true rfl) ?_
  intro p e s m args below meth c Q ls hC hret hl hP
  obtain ⟨hx, hb, hr, hml, hown, hts, hK, -, hlocks, hZ⟩ := hC
  have hown : s.vm.findClass RX4 = some m.cls := hown
  have hS : va_S (jA ad) s.heap s.heap [] := va_S.rf
  have hA : ∀ q, jA ad q → jA ad q := fun _ h => h
  have hl : lv_has ls 1 [(0, .int a1)] := hl
  have g1 := jrg t1
  refine lv_iload_n hx hb dX4_highest_0 rfl (lv_at hl 0 rfl) ?_
  refine lv_bipush (v := 16) hx hb dX4_highest_1 (of_decide_eq_true rfl) ?_
  refine lv_icmp_ge (tgt := 10) hx hb dX4_highest_3 (of_decide_eq_true rfl) (fun c1 => ?_) (fun c1 => ?_)
  · have kc1 := jle c1 jz_16 t1
    refine lv_iload_n hx hb dX4_highest_10 rfl (lv_at hl 0 rfl) ?_
    refine lv_bipush (v := 32) hx hb dX4_highest_11 (of_decide_eq_true rfl) ?_
    refine lv_icmp_ge (tgt := 19) hx hb dX4_highest_13 (of_decide_eq_true rfl) (fun c2 => ?_) (fun c2 => ?_)
    · have kc2 := jle c2 jz_32 t1
      refine lv_iload_n hx hb dX4_highest_19 rfl (lv_at hl 0 rfl) ?_
      refine lv_bipush (v := 36) hx hb dX4_highest_20 (of_decide_eq_true rfl) ?_
      refine lv_icmp_ge (tgt := 28) hx hb dX4_highest_22 (of_decide_eq_true rfl) (fun c3 => ?_) (fun c3 => ?_)
      · have kc3 := jle c3 jz_36 t1
        refine lv_iload_n hx hb dX4_highest_28 rfl (lv_at hl 0 rfl) ?_
        refine lv_bipush (v := 52) hx hb dX4_highest_29 (of_decide_eq_true rfl) ?_
        refine lv_icmp_ge (tgt := 40) hx hb dX4_highest_31 (of_decide_eq_true rfl) (fun c4 => ?_) (fun c4 => ?_)
        · have kc4 := jle c4 jz_52 t1
          refine lv_bipush (v := 9) hx hb dX4_highest_40 (of_decide_eq_true rfl) ?_
          exact hret 9 σ τ _ _ _ _ rfl ⟨⟨rfl, rfl⟩, Or.inr (Or.inl ⟨rfl, (by have h9 := jz_9; omega)⟩)⟩ hP hS dX4_highest_42
        · have kc4 := jnle c4 jz_52 t1
          refine lv_sipush (v := 200) hx hb dX4_highest_34 (of_decide_eq_true rfl) ?_
          refine lv_goto (tgt := 42) hx hb dX4_highest_37 (of_decide_eq_true rfl) ?_
          exact hret 200 σ τ _ _ _ _ rfl ⟨⟨rfl, rfl⟩, Or.inr (Or.inr (Or.inr (⟨rfl, (by have h9 := jz_200; omega)⟩)))⟩ hP hS dX4_highest_42
      · have kc3 := jnle c3 jz_36 t1
        refine lv_bipush (v := 8) hx hb dX4_highest_25 (of_decide_eq_true rfl) ?_
        exact hret 8 σ τ _ _ _ _ rfl ⟨⟨rfl, rfl⟩, Or.inr (Or.inr (Or.inl ⟨rfl, (by have h9 := jz_8; omega)⟩))⟩ hP hS dX4_highest_27
    · have kc2 := jnle c2 jz_32 t1
      refine lv_bipush (v := 9) hx hb dX4_highest_16 (of_decide_eq_true rfl) ?_
      exact hret 9 σ τ _ _ _ _ rfl ⟨⟨rfl, rfl⟩, Or.inr (Or.inl ⟨rfl, (by have h9 := jz_9; omega)⟩)⟩ hP hS dX4_highest_18
  · have kc1 := jnle c1 jz_16 t1
    refine lv_sipush (v := 500) hx hb dX4_highest_6 (of_decide_eq_true rfl) ?_
    exact hret 500 σ τ _ _ _ _ rfl ⟨⟨rfl, rfl⟩, Or.inl ⟨rfl, (by have h9 := jz_500; omega)⟩⟩ hP hS dX4_highest_9
set_option maxHeartbeats 4000000 in
set_option maxRecDepth 100000 in
theorem c_X4_join_2 (l : Launch) (D : va_G) (cI cL : ClassId) (ad zz : Nat → Nat) (hJ : jD ad) (σ : Nat → Nat → Int32) (τ : Nat → Nat → Int64) (a1 : Int32) (A1 : Int) (t1 : a1.toInt = A1) (a2 : Int32) (A2 : Int) (t2 : a2.toInt = A2) (a3 : Int32) (A3 : Int) (t3 : a3.toInt = A3) (hI2 : jI2 σ) (hp0 : 0 ≤ A3 ∧ A3 ≤ 20) : jM l yX4_join cX4_join 6 (some .int) ({ frames := 0, cells := 0, slots := 0, locals := 0 }) D cI cL ad zz [.ref (ad 2), .int a1, .int a2, .int a3] σ τ (fun r σ' τ' => τ = τ' ∧ (∀ i : Nat, (i < 2 ∨ 5 < i) → σ' i = σ i) ∧ (∀ k : Nat, (k < 0 ∨ 0 < k) → σ' 2 k = σ 2 k) ∧ (jI2 σ') ∧ ((r = (-3) ∧ ((σ 2 0).toInt = 4) ∧ ((σ' 2 0).toInt = (σ 2 0).toInt) ∧ (σ' 3 = σ 3 ∧ σ' 4 = σ 4 ∧ σ' 5 = σ 5)) ∨ (True ∧ ((σ 2 0).toInt < 4) ∧ (r.toInt = (σ 2 0).toInt) ∧ ((σ' 2 0).toInt = (σ 2 0).toInt + 1) ∧ (jJn ((σ 2 0).toInt) a1 (σ 3) (σ' 3)) ∧ (σ' 4 = jupd (σ 4) ((σ 2 0).toInt).toNat a2 ∧ σ' 5 = jupd (σ 5) ((σ 2 0).toInt).toNat a3)))) := by
  refine jM.of hJ (by decide +kernel) (nt := .int) rfl (Nat.le_of_ble_eq_true rfl) ?_
  intro p e s m args below meth c Q ls hC hret hl hP
  obtain ⟨hx, hb, hr, hml, hown, hts, hK, -, hlocks, hZ⟩ := hC
  have hown : s.vm.findClass RX4 = some m.cls := hown
  have hS : va_S (jA ad) s.heap s.heap [] := va_S.rf
  have hA : ∀ q, jA ad q → jA ad q := fun _ h => h
  have hl : lv_has ls 6 [(0, .ref (ad 2)), (1, .int a1), (2, .int a2), (3, .int a3)] := hl
  have g1 := jrg t1
  have g2 := jrg t2
  have g3 := jrg t3
  obtain ⟨i1, i2, i3, i4, i5, w6, w7⟩ : (0 ≤ (σ 2 0).toInt ∧ (σ 2 0).toInt ≤ 4) ∧ (0 ≤ (σ 2 1).toInt ∧ (σ 2 1).toInt ≤ 3) ∧ (0 ≤ (σ 2 2).toInt) ∧ (0 ≤ (σ 2 3).toInt) ∧ ((σ 2 2).toInt + (σ 2 3).toInt ≤ 40) ∧ (∀ k : Nat, k < 40 → 0 ≤ (σ 6 k).toInt ∧ (σ 6 k).toInt ≤ 67) ∧ (∀ k : Nat, k < 4 → 0 ≤ (σ 5 k).toInt ∧ (σ 5 k).toInt ≤ 20) := id hI2
  refine lv_aload_n hx hb dX4_join_0 rfl (lv_at hl 0 rfl) ?_
  refine va_get (D := D) hx hb hts inlX4 hown hK hP 2 (jc_2 cI cL ad σ τ) rfl 0 (of_decide_eq_true rfl) (hts _ kw_9_5) (fun _ h9 => h9) rfl dX4_join_1 ?_
  refine lv_istore (lv' := [(4, .int (σ 2 0)), (0, .ref (ad 2)), (1, .int a1), (2, .int a2), (3, .int a3)]) hx hb dX4_join_4 hl (of_decide_eq_true rfl) rfl (fun ls hl => ?_)
  refine lv_iload hx hb dX4_join_6 (lv_at hl 0 rfl) ?_
  refine lv_iconst (v := 4) hx hb dX4_join_8 (of_decide_eq_true rfl) ?_
  refine lv_icmp_lt (tgt := 15) hx hb dX4_join_9 (of_decide_eq_true rfl) (fun c8 => ?_) (fun c8 => ?_)
  · have kc8 := jlt c8 rfl jz_4
    refine lv_aload_n hx hb dX4_join_15 rfl (lv_at hl 1 rfl) ?_
    refine va_get (D := D) hx hb hts inlX4 hown hK hP 2 (jc_2 cI cL ad σ τ) rfl 5 (of_decide_eq_true rfl) (hts _ kw_3_12) (fun _ h9 => h9) rfl dX4_join_16 ?_
    refine lv_iload hx hb dX4_join_19 (lv_at hl 0 rfl) ?_
    refine lv_iload_n hx hb dX4_join_21 rfl (lv_at hl 3 rfl) ?_
    exact by
     refine jast hx hb hK hP hJ hA hS (jc_4 cI cL ad σ τ) (ja_4 cI cL ad σ τ _ _) (jin rfl (by omega) (by omega)) dX4_join_22 (fun σ9 H locs eσ9 hP hS => ?_)
     refine lv_aload_n hx hb dX4_join_23 rfl (lv_at hl 1 rfl) ?_
     refine va_get (D := D) hx hb hts inlX4 hown hK hP 2 (jc_2 cI cL ad σ9 τ) rfl 6 (of_decide_eq_true rfl) (hts _ kw_3_13) (fun _ h9 => h9) rfl dX4_join_24 ?_
     refine lv_iload hx hb dX4_join_27 (lv_at hl 0 rfl) ?_
     refine lv_iload_n hx hb dX4_join_29 rfl (lv_at hl 4 rfl) ?_
     refine jast hx hb hK hP hJ hA hS (jc_5 cI cL ad σ9 τ) (ja_5 cI cL ad σ9 τ _ _) (jin rfl (by omega) (by omega)) dX4_join_30 (fun σ10 H locs eσ10 hP hS => ?_)
     refine lv_aload_n hx hb dX4_join_31 rfl (lv_at hl 1 rfl) ?_
     refine va_get (D := D) hx hb hts inlX4 hown hK hP 2 (jc_2 cI cL ad σ10 τ) rfl 4 (of_decide_eq_true rfl) (hts _ kw_3_11) (fun _ h9 => h9) rfl dX4_join_32 ?_
     refine lv_bipush (v := 32) hx hb dX4_join_35 (of_decide_eq_true rfl) ?_
     exact by
      refine lv_iload hx hb dX4_join_37 (lv_at hl 0 rfl) ?_
      have g11 := jrg (rfl : (σ 2 0).toInt = (σ 2 0).toInt)
      refine lv_iadd hx hb dX4_join_39 ?_
      refine lv_topi (fun x12 ex12 => ?_)
      have tx12 : x12.toInt = (σ 2 0).toInt + 32 := (jadd ex12 jz_32 rfl (by omega) (by omega)).trans (by omega)
      refine lv_iload_n hx hb dX4_join_40 rfl (lv_at hl 2 rfl) ?_
      refine jast hx hb hK hP hJ hA hS (jc_3 cI cL ad σ10 τ) (ja_3 cI cL ad σ10 τ _ _) (jin tx12 (by omega) (by omega)) dX4_join_41 (fun σ13 H locs eσ13 hP hS => ?_)
      refine lv_iconst (v := 0) hx hb dX4_join_42 (of_decide_eq_true rfl) ?_
      refine lv_istore (lv' := [(5, .int 0), (4, .int (σ 2 0)), (0, .ref (ad 2)), (1, .int a1), (2, .int a2), (3, .int a3)]) hx hb dX4_join_43 hl (of_decide_eq_true rfl) rfl (fun ls hl => ?_)
      exact by
       refine lv_iload hx hb dX4_join_45 (lv_at hl 0 rfl) ?_
       refine lv_iconst (v := 4) hx hb dX4_join_47 (of_decide_eq_true rfl) ?_
       refine lv_icmp_ge (tgt := 73) hx hb dX4_join_48 (of_decide_eq_true rfl) (fun c => absurd c (of_decide_eq_true rfl)) (fun _ => ?_)
       refine lv_aload_n hx hb dX4_join_51 rfl (lv_at hl 2 rfl) ?_
       refine va_get (D := D) hx hb hts inlX4 hown hK hP 2 (jc_2 cI cL ad σ13 τ) rfl 4 (of_decide_eq_true rfl) (hts _ kw_3_11) (fun _ h9 => h9) rfl dX4_join_52 ?_
       refine lv_iconst (v := 0) hx hb dX4_join_55 (of_decide_eq_true rfl) ?_
       refine lv_iload hx hb dX4_join_56 (lv_at hl 1 rfl) ?_
       refine lv_iconst (v := 4) hx hb dX4_join_58 (of_decide_eq_true rfl) ?_
       refine lv_imul hx hb dX4_join_59 ?_
       refine lv_topi (fun x14 ex14 => ?_)
       exact by
        have tx14 : x14.toInt = 4 * (σ 2 0).toInt := (jmul ex14 rfl jz_4 (by omega) (by omega)).trans (by omega)
        refine lv_iadd hx hb dX4_join_60 ?_
        refine jtopr (y := x14) (by rw [Int32.zero_add]) ?_
        refine lv_iload hx hb dX4_join_61 (lv_at hl 0 rfl) ?_
        refine lv_iadd hx hb dX4_join_63 ?_
        refine jtopr (y := x14) (by rw [Int32.add_zero]) ?_
        refine lv_bipush (v := 100) hx hb dX4_join_64 (of_decide_eq_true rfl) ?_
        refine jast hx hb hK hP hJ hA hS (jc_3 cI cL ad σ13 τ) (ja_3 cI cL ad σ13 τ _ _) (jin tx14 (by omega) (by omega)) dX4_join_66 (fun σ15 H locs eσ15 hP hS => ?_)
        refine lv_iinc (v := 1) (lv' := [(5, .int 1), (4, .int (σ 2 0)), (0, .ref (ad 2)), (1, .int a1), (2, .int a2), (3, .int a3)]) hx hb dX4_join_67 hl (k := 0) rfl (of_decide_eq_true rfl) (of_decide_eq_true rfl) rfl (fun ls hl => ?_)
        exact by
         refine lv_goto (tgt := 45) hx hb dX4_join_70 (of_decide_eq_true rfl) ?_
         refine lv_iload hx hb dX4_join_45 (lv_at hl 0 rfl) ?_
         refine lv_iconst (v := 4) hx hb dX4_join_47 (of_decide_eq_true rfl) ?_
         refine lv_icmp_ge (tgt := 73) hx hb dX4_join_48 (of_decide_eq_true rfl) (fun c => absurd c (of_decide_eq_true rfl)) (fun _ => ?_)
         refine lv_aload_n hx hb dX4_join_51 rfl (lv_at hl 2 rfl) ?_
         refine va_get (D := D) hx hb hts inlX4 hown hK hP 2 (jc_2 cI cL ad σ15 τ) rfl 4 (of_decide_eq_true rfl) (hts _ kw_3_11) (fun _ h9 => h9) rfl dX4_join_52 ?_
         refine lv_iconst (v := 0) hx hb dX4_join_55 (of_decide_eq_true rfl) ?_
         refine lv_iload hx hb dX4_join_56 (lv_at hl 1 rfl) ?_
         refine lv_iconst (v := 4) hx hb dX4_join_58 (of_decide_eq_true rfl) ?_
         refine lv_imul hx hb dX4_join_59 ?_
         refine lv_topi (fun x16 ex16 => ?_)
         exact by
          have tx16 : x16.toInt = 4 * (σ 2 0).toInt := (jmul ex16 rfl jz_4 (by omega) (by omega)).trans (by omega)
          refine lv_iadd hx hb dX4_join_60 ?_
          refine jtopr (y := x16) (by rw [Int32.zero_add]) ?_
          refine lv_iload hx hb dX4_join_61 (lv_at hl 0 rfl) ?_
          refine lv_iadd hx hb dX4_join_63 ?_
          refine lv_topi (fun x17 ex17 => ?_)
          have tx17 : x17.toInt = 4 * (σ 2 0).toInt + 1 := (jadd ex17 tx16 jz_1 (by omega) (by omega)).trans (by omega)
          refine lv_bipush (v := 100) hx hb dX4_join_64 (of_decide_eq_true rfl) ?_
          refine jast hx hb hK hP hJ hA hS (jc_3 cI cL ad σ15 τ) (ja_3 cI cL ad σ15 τ _ _) (jin tx17 (by omega) (by omega)) dX4_join_66 (fun σ18 H locs eσ18 hP hS => ?_)
          exact by
           refine lv_iinc (v := 2) (lv' := [(5, .int 2), (4, .int (σ 2 0)), (0, .ref (ad 2)), (1, .int a1), (2, .int a2), (3, .int a3)]) hx hb dX4_join_67 hl (k := 0) rfl (of_decide_eq_true rfl) (of_decide_eq_true rfl) rfl (fun ls hl => ?_)
           refine lv_goto (tgt := 45) hx hb dX4_join_70 (of_decide_eq_true rfl) ?_
           refine lv_iload hx hb dX4_join_45 (lv_at hl 0 rfl) ?_
           refine lv_iconst (v := 4) hx hb dX4_join_47 (of_decide_eq_true rfl) ?_
           refine lv_icmp_ge (tgt := 73) hx hb dX4_join_48 (of_decide_eq_true rfl) (fun c => absurd c (of_decide_eq_true rfl)) (fun _ => ?_)
           refine lv_aload_n hx hb dX4_join_51 rfl (lv_at hl 2 rfl) ?_
           refine va_get (D := D) hx hb hts inlX4 hown hK hP 2 (jc_2 cI cL ad σ18 τ) rfl 4 (of_decide_eq_true rfl) (hts _ kw_3_11) (fun _ h9 => h9) rfl dX4_join_52 ?_
           refine lv_iconst (v := 0) hx hb dX4_join_55 (of_decide_eq_true rfl) ?_
           refine lv_iload hx hb dX4_join_56 (lv_at hl 1 rfl) ?_
           refine lv_iconst (v := 4) hx hb dX4_join_58 (of_decide_eq_true rfl) ?_
           refine lv_imul hx hb dX4_join_59 ?_
           refine lv_topi (fun x19 ex19 => ?_)
           exact by
            have tx19 : x19.toInt = 4 * (σ 2 0).toInt := (jmul ex19 rfl jz_4 (by omega) (by omega)).trans (by omega)
            refine lv_iadd hx hb dX4_join_60 ?_
            refine jtopr (y := x19) (by rw [Int32.zero_add]) ?_
            refine lv_iload hx hb dX4_join_61 (lv_at hl 0 rfl) ?_
            refine lv_iadd hx hb dX4_join_63 ?_
            refine lv_topi (fun x20 ex20 => ?_)
            have tx20 : x20.toInt = 4 * (σ 2 0).toInt + 2 := (jadd ex20 tx19 jz_2 (by omega) (by omega)).trans (by omega)
            refine lv_bipush (v := 100) hx hb dX4_join_64 (of_decide_eq_true rfl) ?_
            refine jast hx hb hK hP hJ hA hS (jc_3 cI cL ad σ18 τ) (ja_3 cI cL ad σ18 τ _ _) (jin tx20 (by omega) (by omega)) dX4_join_66 (fun σ21 H locs eσ21 hP hS => ?_)
            exact by
             refine lv_iinc (v := 3) (lv' := [(5, .int 3), (4, .int (σ 2 0)), (0, .ref (ad 2)), (1, .int a1), (2, .int a2), (3, .int a3)]) hx hb dX4_join_67 hl (k := 0) rfl (of_decide_eq_true rfl) (of_decide_eq_true rfl) rfl (fun ls hl => ?_)
             refine lv_goto (tgt := 45) hx hb dX4_join_70 (of_decide_eq_true rfl) ?_
             refine lv_iload hx hb dX4_join_45 (lv_at hl 0 rfl) ?_
             refine lv_iconst (v := 4) hx hb dX4_join_47 (of_decide_eq_true rfl) ?_
             refine lv_icmp_ge (tgt := 73) hx hb dX4_join_48 (of_decide_eq_true rfl) (fun c => absurd c (of_decide_eq_true rfl)) (fun _ => ?_)
             refine lv_aload_n hx hb dX4_join_51 rfl (lv_at hl 2 rfl) ?_
             refine va_get (D := D) hx hb hts inlX4 hown hK hP 2 (jc_2 cI cL ad σ21 τ) rfl 4 (of_decide_eq_true rfl) (hts _ kw_3_11) (fun _ h9 => h9) rfl dX4_join_52 ?_
             refine lv_iconst (v := 0) hx hb dX4_join_55 (of_decide_eq_true rfl) ?_
             refine lv_iload hx hb dX4_join_56 (lv_at hl 1 rfl) ?_
             refine lv_iconst (v := 4) hx hb dX4_join_58 (of_decide_eq_true rfl) ?_
             refine lv_imul hx hb dX4_join_59 ?_
             refine lv_topi (fun x22 ex22 => ?_)
             exact by
              have tx22 : x22.toInt = 4 * (σ 2 0).toInt := (jmul ex22 rfl jz_4 (by omega) (by omega)).trans (by omega)
              refine lv_iadd hx hb dX4_join_60 ?_
              refine jtopr (y := x22) (by rw [Int32.zero_add]) ?_
              refine lv_iload hx hb dX4_join_61 (lv_at hl 0 rfl) ?_
              refine lv_iadd hx hb dX4_join_63 ?_
              refine lv_topi (fun x23 ex23 => ?_)
              have tx23 : x23.toInt = 4 * (σ 2 0).toInt + 3 := (jadd ex23 tx22 jz_3 (by omega) (by omega)).trans (by omega)
              refine lv_bipush (v := 100) hx hb dX4_join_64 (of_decide_eq_true rfl) ?_
              refine jast hx hb hK hP hJ hA hS (jc_3 cI cL ad σ21 τ) (ja_3 cI cL ad σ21 τ _ _) (jin tx23 (by omega) (by omega)) dX4_join_66 (fun σ24 H locs eσ24 hP hS => ?_)
              exact by
               refine lv_iinc (v := 4) (lv' := [(5, .int 4), (4, .int (σ 2 0)), (0, .ref (ad 2)), (1, .int a1), (2, .int a2), (3, .int a3)]) hx hb dX4_join_67 hl (k := 0) rfl (of_decide_eq_true rfl) (of_decide_eq_true rfl) rfl (fun ls hl => ?_)
               refine lv_goto (tgt := 45) hx hb dX4_join_70 (of_decide_eq_true rfl) ?_
               refine lv_iload hx hb dX4_join_45 (lv_at hl 0 rfl) ?_
               refine lv_iconst (v := 4) hx hb dX4_join_47 (of_decide_eq_true rfl) ?_
               refine lv_icmp_ge (tgt := 73) hx hb dX4_join_48 (of_decide_eq_true rfl) (fun _ => ?_) (fun c => absurd (of_decide_eq_true rfl) c)
               refine lv_aload_n hx hb dX4_join_73 rfl (lv_at hl 2 rfl) ?_
               refine lv_dup hx hb dX4_join_74 rfl ?_
               refine va_get (D := D) hx hb hts inlX4 hown hK hP 2 (jc_2 cI cL ad σ24 τ) rfl 0 (of_decide_eq_true rfl) (hts _ kw_9_5) (fun _ h9 => h9) rfl dX4_join_75 ?_
               have m25 : σ24 2 0 = (σ 2 0) := ((congrFun (jnp 2 eσ24 (of_decide_eq_true rfl)) 0).trans ((congrFun (jnp 2 eσ21 (of_decide_eq_true rfl)) 0).trans ((congrFun (jnp 2 eσ18 (of_decide_eq_true rfl)) 0).trans ((congrFun (jnp 2 eσ15 (of_decide_eq_true rfl)) 0).trans ((congrFun (jnp 2 eσ13 (of_decide_eq_true rfl)) 0).trans ((congrFun (jnp 2 eσ10 (of_decide_eq_true rfl)) 0).trans (congrFun (jnp 2 eσ9 (of_decide_eq_true rfl)) 0)))))))
               refine jtopr m25 ?_
               refine lv_iconst (v := 1) hx hb dX4_join_78 (of_decide_eq_true rfl) ?_
               refine lv_iadd hx hb dX4_join_79 ?_
               refine lv_topi (fun x26 ex26 => ?_)
               exact by
                have tx26 : x26.toInt = (σ 2 0).toInt + 1 := (jadd ex26 rfl jz_1 (by omega) (by omega)).trans (by omega)
                refine jput (ty := .int) hx hb hts inlX4 tyX4 tyX4_ok nmX4 hown hK hP hJ hA hS (jc_2 cI cL ad σ24 τ) rfl (k := 0) (of_decide_eq_true rfl) (Nat.le_of_ble_eq_true rfl) (jp_2_0 cI cL ad σ24 τ x26) (hts _ kw_9_5) (fun _ h9 => h9) rfl (by decide +kernel) rfl rfl dX4_join_80 (fun σ27 H locs eσ27 hP hS => ?_)
                refine lv_iload hx hb dX4_join_83 (lv_at hl 1 rfl) ?_
                have z28 : (σ27 2 0).toInt = (σ 2 0).toInt + 1 := ((congrArg Int32.toInt (show σ27 2 0 = x26 from (jsp eσ27))).trans tx26)
                have z29 : (σ27 2 1).toInt = (σ 2 1).toInt := (congrArg Int32.toInt (show σ27 2 1 = (σ 2 1) from ((jkp 1 eσ27 (of_decide_eq_true rfl)).trans ((congrFun (jnp 2 eσ24 (of_decide_eq_true rfl)) 1).trans ((congrFun (jnp 2 eσ21 (of_decide_eq_true rfl)) 1).trans ((congrFun (jnp 2 eσ18 (of_decide_eq_true rfl)) 1).trans ((congrFun (jnp 2 eσ15 (of_decide_eq_true rfl)) 1).trans ((congrFun (jnp 2 eσ13 (of_decide_eq_true rfl)) 1).trans ((congrFun (jnp 2 eσ10 (of_decide_eq_true rfl)) 1).trans (congrFun (jnp 2 eσ9 (of_decide_eq_true rfl)) 1))))))))))
                have z30 : (σ27 2 2).toInt = (σ 2 2).toInt := (congrArg Int32.toInt (show σ27 2 2 = (σ 2 2) from ((jkp 2 eσ27 (of_decide_eq_true rfl)).trans ((congrFun (jnp 2 eσ24 (of_decide_eq_true rfl)) 2).trans ((congrFun (jnp 2 eσ21 (of_decide_eq_true rfl)) 2).trans ((congrFun (jnp 2 eσ18 (of_decide_eq_true rfl)) 2).trans ((congrFun (jnp 2 eσ15 (of_decide_eq_true rfl)) 2).trans ((congrFun (jnp 2 eσ13 (of_decide_eq_true rfl)) 2).trans ((congrFun (jnp 2 eσ10 (of_decide_eq_true rfl)) 2).trans (congrFun (jnp 2 eσ9 (of_decide_eq_true rfl)) 2))))))))))
                have z31 : (σ27 2 3).toInt = (σ 2 3).toInt := (congrArg Int32.toInt (show σ27 2 3 = (σ 2 3) from ((jkp 3 eσ27 (of_decide_eq_true rfl)).trans ((congrFun (jnp 2 eσ24 (of_decide_eq_true rfl)) 3).trans ((congrFun (jnp 2 eσ21 (of_decide_eq_true rfl)) 3).trans ((congrFun (jnp 2 eσ18 (of_decide_eq_true rfl)) 3).trans ((congrFun (jnp 2 eσ15 (of_decide_eq_true rfl)) 3).trans ((congrFun (jnp 2 eσ13 (of_decide_eq_true rfl)) 3).trans ((congrFun (jnp 2 eσ10 (of_decide_eq_true rfl)) 3).trans (congrFun (jnp 2 eσ9 (of_decide_eq_true rfl)) 3))))))))))
                have w32 : ∀ k : Nat, k < 40 → 0 ≤ (σ27 6 k).toInt ∧ (σ27 6 k).toInt ≤ 67 := (jrr_fr (jnp 6 eσ27 (of_decide_eq_true rfl)) (jrr_fr (jnp 6 eσ24 (of_decide_eq_true rfl)) (jrr_fr (jnp 6 eσ21 (of_decide_eq_true rfl)) (jrr_fr (jnp 6 eσ18 (of_decide_eq_true rfl)) (jrr_fr (jnp 6 eσ15 (of_decide_eq_true rfl)) (jrr_fr (jnp 6 eσ13 (of_decide_eq_true rfl)) (jrr_fr (jnp 6 eσ10 (of_decide_eq_true rfl)) (jrr_fr (jnp 6 eσ9 (of_decide_eq_true rfl)) w6))))))))
                have w33 : ∀ k : Nat, k < 4 → 0 ≤ (σ27 5 k).toInt ∧ (σ27 5 k).toInt ≤ 20 := (jrr_fr (jnp 5 eσ27 (of_decide_eq_true rfl)) (jrr_fr (jnp 5 eσ24 (of_decide_eq_true rfl)) (jrr_fr (jnp 5 eσ21 (of_decide_eq_true rfl)) (jrr_fr (jnp 5 eσ18 (of_decide_eq_true rfl)) (jrr_fr (jnp 5 eσ15 (of_decide_eq_true rfl)) (jrr_fr (jnp 5 eσ13 (of_decide_eq_true rfl)) (by rw [eσ10]; exact jrr_up (jrr_fr (jnp 5 eσ9 (of_decide_eq_true rfl)) w7) (by have h9 := t3; omega) (by have h9 := t3; omega))))))))
                exact by
                 have I34 : jI2 σ27 := ⟨(by omega), (by omega), (by omega), (by omega), (by omega), w32, w33⟩
                 exact by exact hret (σ 2 0) σ27 τ _ _ _ _ rfl ⟨rfl, (fun i hi => ((jnp i eσ27 (imp_0 i hi)).trans ((jnp i eσ24 (imp_1 i hi)).trans ((jnp i eσ21 (imp_1 i hi)).trans ((jnp i eσ18 (imp_1 i hi)).trans ((jnp i eσ15 (imp_1 i hi)).trans ((jnp i eσ13 (imp_1 i hi)).trans ((jnp i eσ10 (imp_2 i hi)).trans (jnp i eσ9 (imp_3 i hi)))))))))), (fun i hi => ((jkp i eσ27 (imp_4 i hi)).trans ((congrFun (jnp 2 eσ24 (of_decide_eq_true rfl)) i).trans ((congrFun (jnp 2 eσ21 (of_decide_eq_true rfl)) i).trans ((congrFun (jnp 2 eσ18 (of_decide_eq_true rfl)) i).trans ((congrFun (jnp 2 eσ15 (of_decide_eq_true rfl)) i).trans ((congrFun (jnp 2 eσ13 (of_decide_eq_true rfl)) i).trans ((congrFun (jnp 2 eσ10 (of_decide_eq_true rfl)) i).trans (congrFun (jnp 2 eσ9 (of_decide_eq_true rfl)) i))))))))), I34, Or.inr (⟨trivial, (by omega), (by omega), (by omega), (by unfold jJn; rw [eσ27, jup_n (of_decide_eq_true rfl), eσ24, jup_row, eσ21, jup_row, eσ18, jup_row, eσ15, jup_row, eσ13, jup_row, eσ10, jup_n (of_decide_eq_true rfl), eσ9, jup_n (of_decide_eq_true rfl), jnc (show x12.toInt = 32 + (σ 2 0).toInt by have h9 := tx12; omega), jnc (show x14.toInt = 4 * (σ 2 0).toInt by have h9 := tx14; omega), jnc (show x17.toInt = 4 * (σ 2 0).toInt + 1 by have h9 := tx17; omega), jnc (show x20.toInt = 4 * (σ 2 0).toInt + 2 by have h9 := tx20; omega), jnc (show x23.toInt = 4 * (σ 2 0).toInt + 3 by have h9 := tx23; omega)]), ⟨(by rw [eσ27, jup_n (of_decide_eq_true rfl), eσ24, jup_n (of_decide_eq_true rfl), eσ21, jup_n (of_decide_eq_true rfl), eσ18, jup_n (of_decide_eq_true rfl), eσ15, jup_n (of_decide_eq_true rfl), eσ13, jup_n (of_decide_eq_true rfl), eσ10, jup_n (of_decide_eq_true rfl), eσ9, jup_row, jnc (show (σ 2 0).toInt = (σ 2 0).toInt by omega)]), (by rw [eσ27, jup_n (of_decide_eq_true rfl), eσ24, jup_n (of_decide_eq_true rfl), eσ21, jup_n (of_decide_eq_true rfl), eσ18, jup_n (of_decide_eq_true rfl), eσ15, jup_n (of_decide_eq_true rfl), eσ13, jup_n (of_decide_eq_true rfl), eσ10, jup_row, eσ9, jup_n (of_decide_eq_true rfl), jnc (show (σ 2 0).toInt = (σ 2 0).toInt by omega)])⟩⟩)⟩ hP hS dX4_join_85
  · have kc8 := jnlt c8 rfl jz_4
    refine lv_bipush (v := (-3)) hx hb dX4_join_12 (of_decide_eq_true rfl) ?_
    exact by exact hret (-3) σ τ _ _ _ _ rfl ⟨rfl, (fun _ _ => rfl), (fun _ _ => rfl), hI2, Or.inl ⟨rfl, (by have h9 := jz_m3; omega), (by have h9 := jz_m3; omega), ⟨rfl, rfl, rfl⟩⟩⟩ hP hS dX4_join_14
set_option maxHeartbeats 4000000 in
set_option maxRecDepth 100000 in
theorem c_X4_dropOldest_2 (l : Launch) (D : va_G) (cI cL : ClassId) (ad zz : Nat → Nat) (hJ : jD ad) (σ : Nat → Nat → Int32) (τ : Nat → Nat → Int64) (hI2 : jI2 σ) (hp0 : (σ 2 2).toInt = 40) : jMv l yX4_dropOldest cX4_dropOldest 2 none ({ frames := 0, cells := 0, slots := 0, locals := 0 }) D cI cL ad zz [.ref (ad 2)] σ τ (fun σ' τ' => τ = τ' ∧ (∀ i : Nat, (i < 2 ∨ 2 < i) ∧ (i < 6 ∨ 8 < i) → σ' i = σ i) ∧ (∀ k : Nat, (k < 2 ∨ 2 < k) → σ' 2 k = σ 2 k) ∧ (∀ k : Nat, k < 40 → 0 ≤ (σ' 6 k).toInt ∧ (σ' 6 k).toInt ≤ 67) ∧ (jSh (σ 6) (σ' 6) ∧ jSh (σ 7) (σ' 7) ∧ jSh (σ 8) (σ' 8)) ∧ ((σ' 2 2).toInt = 39) ∧ True) := by
  refine jMv.of hJ (by decide +kernel) rfl (Nat.le_of_ble_eq_true rfl) ?_
  intro p e s m args below meth c Q ls hC hret hl hP
  obtain ⟨hx, hb, hr, hml, hown, hts, hK, -, hlocks, hZ⟩ := hC
  have hown : s.vm.findClass RX4 = some m.cls := hown
  have hS : va_S (jA ad) s.heap s.heap [] := va_S.rf
  have hA : ∀ q, jA ad q → jA ad q := fun _ h => h
  have hl : lv_has ls 2 [(0, .ref (ad 2))] := hl
  obtain ⟨i1, i2, i3, i4, i5, w6, w7⟩ : (0 ≤ (σ 2 0).toInt ∧ (σ 2 0).toInt ≤ 4) ∧ (0 ≤ (σ 2 1).toInt ∧ (σ 2 1).toInt ≤ 3) ∧ (0 ≤ (σ 2 2).toInt) ∧ (0 ≤ (σ 2 3).toInt) ∧ ((σ 2 2).toInt + (σ 2 3).toInt ≤ 40) ∧ (∀ k : Nat, k < 40 → 0 ≤ (σ 6 k).toInt ∧ (σ 6 k).toInt ≤ 67) ∧ (∀ k : Nat, k < 4 → 0 ≤ (σ 5 k).toInt ∧ (σ 5 k).toInt ≤ 20) := id hI2
  refine lv_iconst (v := 1) hx hb dX4_dropOldest_0 (of_decide_eq_true rfl) ?_
  refine lv_istore_n (lv' := [(1, .int 1), (0, .ref (ad 2))]) hx hb dX4_dropOldest_1 rfl hl (of_decide_eq_true rfl) rfl (fun ls hl => ?_)
  have lp8 : ∀ (n9 : Nat) (x10 : Int32) (σ11 : Nat → Nat → Int32) (H : Heap) (locs : List Loc) (ls : Array Slot), (-x10.toInt + 40 : Int) < n9 → 1 ≤ x10.toInt → x10.toInt ≤ 40 → (∀ i : Nat, (i < 6 ∨ 8 < i) → σ11 i = σ i) → jI2 σ11 → (jShi (x10.toInt).toNat (σ 6) (σ11 6) ∧ jShi (x10.toInt).toNat (σ 7) (σ11 7) ∧ jShi (x10.toInt).toNat (σ 8) (σ11 8)) → jH D cI cL ad σ11 τ H → va_S (jA ad) s.heap H locs → lv_has ls 2 [(1, .int x10), (0, .ref (ad 2))] → W p l e ({ frames := 0, cells := 0, slots := 0, locals := 0 }) s m args below meth c H locs 0 0 Q (F0 m 2 ls []) := by
    intro n9
    induction n9 with
    | zero => intro x10 σ11 H locs ls h13 h14 h15; exact absurd h13 (by omega)
    | succ n9 ihlp8 =>
      intro x10 σ11 H locs ls h13 h14 h15 f16 p17 q18 hP hS hl
      exact by
       obtain ⟨i19, i20, i21, i22, i23, w24, w25⟩ : (0 ≤ (σ11 2 0).toInt ∧ (σ11 2 0).toInt ≤ 4) ∧ (0 ≤ (σ11 2 1).toInt ∧ (σ11 2 1).toInt ≤ 3) ∧ (0 ≤ (σ11 2 2).toInt) ∧ (0 ≤ (σ11 2 3).toInt) ∧ ((σ11 2 2).toInt + (σ11 2 3).toInt ≤ 40) ∧ (∀ k : Nat, k < 40 → 0 ≤ (σ11 6 k).toInt ∧ (σ11 6 k).toInt ≤ 67) ∧ (∀ k : Nat, k < 4 → 0 ≤ (σ11 5 k).toInt ∧ (σ11 5 k).toInt ≤ 20) := id p17
       have z26 : (σ11 2 0).toInt = (σ 2 0).toInt := (congrArg Int32.toInt (show σ11 2 0 = (σ 2 0) from (congrFun (f16 2 (of_decide_eq_true rfl)) 0)))
       have z27 : (σ11 2 1).toInt = (σ 2 1).toInt := (congrArg Int32.toInt (show σ11 2 1 = (σ 2 1) from (congrFun (f16 2 (of_decide_eq_true rfl)) 1)))
       have z28 : (σ11 2 2).toInt = (σ 2 2).toInt := (congrArg Int32.toInt (show σ11 2 2 = (σ 2 2) from (congrFun (f16 2 (of_decide_eq_true rfl)) 2)))
       have z29 : (σ11 2 3).toInt = (σ 2 3).toInt := (congrArg Int32.toInt (show σ11 2 3 = (σ 2 3) from (congrFun (f16 2 (of_decide_eq_true rfl)) 3)))
       refine lv_iload_n hx hb dX4_dropOldest_2 rfl (lv_at hl 0 rfl) ?_
       refine lv_bipush (v := 40) hx hb dX4_dropOldest_3 (of_decide_eq_true rfl) ?_
       refine lv_icmp_ge (tgt := 56) hx hb dX4_dropOldest_5 (of_decide_eq_true rfl) (fun c30 => ?_) (fun c30 => ?_)
       · have kc30 := jle c30 jz_40 rfl
         refine lv_aload_n hx hb dX4_dropOldest_56 rfl (lv_at hl 1 rfl) ?_
         refine lv_bipush (v := 39) hx hb dX4_dropOldest_57 (of_decide_eq_true rfl) ?_
         refine jput (ty := .int) hx hb hts inlX4 tyX4 tyX4_ok nmX4 hown hK hP hJ hA hS (jc_2 cI cL ad σ11 τ) rfl (k := 2) (of_decide_eq_true rfl) (Nat.le_of_ble_eq_true rfl) (jp_2_2 cI cL ad σ11 τ 39) (hts _ kw_10_17) (fun _ h9 => h9) rfl (by decide +kernel) rfl rfl dX4_dropOldest_59 (fun σ31 H locs eσ31 hP hS => ?_)
         have w32 : ∀ k : Nat, k < 40 → 0 ≤ (σ31 6 k).toInt ∧ (σ31 6 k).toInt ≤ 67 := (jrr_fr (jnp 6 eσ31 (of_decide_eq_true rfl)) w24)
         have z33 : (σ31 2 2).toInt = 39 := ((congrArg Int32.toInt (show σ31 2 2 = 39 from (jsp eσ31))).trans jz_39)
         exact by exact hret σ31 τ _ _ _ _ ⟨rfl, (fun i hi => ((jnp i eσ31 (imp_5 i hi)).trans (f16 i (imp_6 i hi)))), (fun i hi => ((jkp i eσ31 (imp_7 i hi)).trans (congrFun (f16 2 (of_decide_eq_true rfl)) i))), w32, ⟨(by rw [eσ31, jup_n (of_decide_eq_true rfl)]; exact (jShi.fin q18.1 (by omega))), (by rw [eσ31, jup_n (of_decide_eq_true rfl)]; exact (jShi.fin q18.2.1 (by omega))), (by rw [eσ31, jup_n (of_decide_eq_true rfl)]; exact (jShi.fin q18.2.2 (by omega)))⟩, (by omega), trivial⟩ hP hS dX4_dropOldest_62
       · have kc30 := jnle c30 jz_40 rfl
         refine lv_aload_n hx hb dX4_dropOldest_8 rfl (lv_at hl 1 rfl) ?_
         refine va_get (D := D) hx hb hts inlX4 hown hK hP 2 (jc_2 cI cL ad σ11 τ) rfl 7 (of_decide_eq_true rfl) (hts _ kw_3_14) (fun _ h9 => h9) rfl dX4_dropOldest_9 ?_
         refine lv_iload_n hx hb dX4_dropOldest_12 rfl (lv_at hl 0 rfl) ?_
         refine lv_iconst (v := 1) hx hb dX4_dropOldest_13 (of_decide_eq_true rfl) ?_
         have g34 := jrg (rfl : x10.toInt = x10.toInt)
         refine lv_isub hx hb dX4_dropOldest_14 ?_
         refine lv_topi (fun x35 ex35 => ?_)
         exact by
          have tx35 : x35.toInt = x10.toInt - 1 := (jsub ex35 rfl jz_1 (by omega) (by omega)).trans (by omega)
          refine lv_aload_n hx hb dX4_dropOldest_15 rfl (lv_at hl 1 rfl) ?_
          refine va_get (D := D) hx hb hts inlX4 hown hK hP 2 (jc_2 cI cL ad σ11 τ) rfl 7 (of_decide_eq_true rfl) (hts _ kw_3_14) (fun _ h9 => h9) rfl dX4_dropOldest_16 ?_
          refine lv_iload_n hx hb dX4_dropOldest_19 rfl (lv_at hl 0 rfl) ?_
          refine jald hx hb hK hP (jc_6 cI cL ad σ11 τ) (jin rfl (by omega) (by omega)) dX4_dropOldest_20 ?_
          have g36 := w24 _ (jnat (x := x10) rfl (n := 40) (by omega) (of_decide_eq_true rfl))
          refine jtopr (y := (σ11 6 x10.toNatClampNeg)) rfl ?_
          refine jast hx hb hK hP hJ hA hS (jc_6 cI cL ad σ11 τ) (ja_6 cI cL ad σ11 τ _ _) (jin tx35 (by omega) (by omega)) dX4_dropOldest_21 (fun σ37 H locs eσ37 hP hS => ?_)
          refine lv_aload_n hx hb dX4_dropOldest_22 rfl (lv_at hl 1 rfl) ?_
          exact by
           refine va_get (D := D) hx hb hts inlX4 hown hK hP 2 (jc_2 cI cL ad σ37 τ) rfl 8 (of_decide_eq_true rfl) (hts _ kw_3_15) (fun _ h9 => h9) rfl dX4_dropOldest_23 ?_
           refine lv_iload_n hx hb dX4_dropOldest_26 rfl (lv_at hl 0 rfl) ?_
           refine lv_iconst (v := 1) hx hb dX4_dropOldest_27 (of_decide_eq_true rfl) ?_
           refine lv_isub hx hb dX4_dropOldest_28 ?_
           refine lv_topi (fun x38 ex38 => ?_)
           have tx38 : x38.toInt = x10.toInt - 1 := (jsub ex38 rfl jz_1 (by omega) (by omega)).trans (by omega)
           refine lv_aload_n hx hb dX4_dropOldest_29 rfl (lv_at hl 1 rfl) ?_
           refine va_get (D := D) hx hb hts inlX4 hown hK hP 2 (jc_2 cI cL ad σ37 τ) rfl 8 (of_decide_eq_true rfl) (hts _ kw_3_15) (fun _ h9 => h9) rfl dX4_dropOldest_30 ?_
           refine lv_iload_n hx hb dX4_dropOldest_33 rfl (lv_at hl 0 rfl) ?_
           exact by
            refine jald hx hb hK hP (jc_7 cI cL ad σ37 τ) (jin rfl (by omega) (by omega)) dX4_dropOldest_34 ?_
            refine jtopr (y := (σ11 7 x10.toNatClampNeg)) (by rw [jnp 7 eσ37 (of_decide_eq_true rfl)]) ?_
            refine jast hx hb hK hP hJ hA hS (jc_7 cI cL ad σ37 τ) (ja_7 cI cL ad σ37 τ _ _) (jin tx38 (by omega) (by omega)) dX4_dropOldest_35 (fun σ39 H locs eσ39 hP hS => ?_)
            refine lv_aload_n hx hb dX4_dropOldest_36 rfl (lv_at hl 1 rfl) ?_
            refine va_get (D := D) hx hb hts inlX4 hown hK hP 2 (jc_2 cI cL ad σ39 τ) rfl 9 (of_decide_eq_true rfl) (hts _ kw_3_16) (fun _ h9 => h9) rfl dX4_dropOldest_37 ?_
            refine lv_iload_n hx hb dX4_dropOldest_40 rfl (lv_at hl 0 rfl) ?_
            refine lv_iconst (v := 1) hx hb dX4_dropOldest_41 (of_decide_eq_true rfl) ?_
            refine lv_isub hx hb dX4_dropOldest_42 ?_
            refine lv_topi (fun x40 ex40 => ?_)
            exact by
             have tx40 : x40.toInt = x10.toInt - 1 := (jsub ex40 rfl jz_1 (by omega) (by omega)).trans (by omega)
             refine lv_aload_n hx hb dX4_dropOldest_43 rfl (lv_at hl 1 rfl) ?_
             refine va_get (D := D) hx hb hts inlX4 hown hK hP 2 (jc_2 cI cL ad σ39 τ) rfl 9 (of_decide_eq_true rfl) (hts _ kw_3_16) (fun _ h9 => h9) rfl dX4_dropOldest_44 ?_
             refine lv_iload_n hx hb dX4_dropOldest_47 rfl (lv_at hl 0 rfl) ?_
             refine jald hx hb hK hP (jc_8 cI cL ad σ39 τ) (jin rfl (by omega) (by omega)) dX4_dropOldest_48 ?_
             refine jtopr (y := (σ11 8 x10.toNatClampNeg)) (by rw [jnp 8 eσ39 (of_decide_eq_true rfl), jnp 8 eσ37 (of_decide_eq_true rfl)]) ?_
             refine jast hx hb hK hP hJ hA hS (jc_8 cI cL ad σ39 τ) (ja_8 cI cL ad σ39 τ _ _) (jin tx40 (by omega) (by omega)) dX4_dropOldest_49 (fun σ41 H locs eσ41 hP hS => ?_)
             obtain ⟨x42, ex42⟩ : ∃ y : Int32, y = x10 + 1 := ⟨_, rfl⟩
             have tx42 : x42.toInt = x10.toInt + 1 := (jadd ex42 rfl jz_1 (by omega) (by omega)).trans (by omega)
             exact by
              refine lv_iinc (v := x42) (lv' := [(1, .int x42), (0, .ref (ad 2))]) hx hb dX4_dropOldest_50 hl (k := 0) rfl (by rw [ex42]; rfl) (of_decide_eq_true rfl) rfl (fun ls hl => ?_)
              refine lv_goto (tgt := 2) hx hb dX4_dropOldest_53 (of_decide_eq_true rfl) ?_
              have z43 : (σ41 2 0).toInt = (σ 2 0).toInt := (congrArg Int32.toInt (show σ41 2 0 = (σ 2 0) from ((congrFun (jnp 2 eσ41 (of_decide_eq_true rfl)) 0).trans ((congrFun (jnp 2 eσ39 (of_decide_eq_true rfl)) 0).trans ((congrFun (jnp 2 eσ37 (of_decide_eq_true rfl)) 0).trans (congrFun (f16 2 (of_decide_eq_true rfl)) 0))))))
              have z44 : (σ41 2 1).toInt = (σ 2 1).toInt := (congrArg Int32.toInt (show σ41 2 1 = (σ 2 1) from ((congrFun (jnp 2 eσ41 (of_decide_eq_true rfl)) 1).trans ((congrFun (jnp 2 eσ39 (of_decide_eq_true rfl)) 1).trans ((congrFun (jnp 2 eσ37 (of_decide_eq_true rfl)) 1).trans (congrFun (f16 2 (of_decide_eq_true rfl)) 1))))))
              have z45 : (σ41 2 2).toInt = (σ 2 2).toInt := (congrArg Int32.toInt (show σ41 2 2 = (σ 2 2) from ((congrFun (jnp 2 eσ41 (of_decide_eq_true rfl)) 2).trans ((congrFun (jnp 2 eσ39 (of_decide_eq_true rfl)) 2).trans ((congrFun (jnp 2 eσ37 (of_decide_eq_true rfl)) 2).trans (congrFun (f16 2 (of_decide_eq_true rfl)) 2))))))
              have z46 : (σ41 2 3).toInt = (σ 2 3).toInt := (congrArg Int32.toInt (show σ41 2 3 = (σ 2 3) from ((congrFun (jnp 2 eσ41 (of_decide_eq_true rfl)) 3).trans ((congrFun (jnp 2 eσ39 (of_decide_eq_true rfl)) 3).trans ((congrFun (jnp 2 eσ37 (of_decide_eq_true rfl)) 3).trans (congrFun (f16 2 (of_decide_eq_true rfl)) 3))))))
              have w47 : ∀ k : Nat, k < 40 → 0 ≤ (σ41 6 k).toInt ∧ (σ41 6 k).toInt ≤ 67 := (jrr_fr (jnp 6 eσ41 (of_decide_eq_true rfl)) (jrr_fr (jnp 6 eσ39 (of_decide_eq_true rfl)) (by rw [eσ37]; exact jrr_up w24 (by omega) (by omega))))
              have w48 : ∀ k : Nat, k < 4 → 0 ≤ (σ41 5 k).toInt ∧ (σ41 5 k).toInt ≤ 20 := (jrr_fr (jnp 5 eσ41 (of_decide_eq_true rfl)) (jrr_fr (jnp 5 eσ39 (of_decide_eq_true rfl)) (jrr_fr (jnp 5 eσ37 (of_decide_eq_true rfl)) w25)))
              have I49 : jI2 σ41 := ⟨(by omega), (by omega), (by omega), (by omega), (by omega), w47, w48⟩
              exact by exact ihlp8 x42 σ41 _ _ ls (by have h90 := tx42; omega) (by have h90 := tx42; omega) (by have h90 := tx42; omega) (fun i hi => ((jnp i eσ41 (imp_8 i hi)).trans ((jnp i eσ39 (imp_9 i hi)).trans ((jnp i eσ37 (imp_10 i hi)).trans (f16 i hi)))))   I49 ⟨(jShi.step q18.1 (by rw [eσ41, jup_n (of_decide_eq_true rfl), eσ39, jup_n (of_decide_eq_true rfl), eσ37, jup_row, jnc (show x35.toInt = x10.toInt - 1 by have h9 := tx35; omega), jnc (rfl : x10.toInt = x10.toInt)]) (by omega) (by have h9 := tx42; omega)), (jShi.step q18.2.1 (by rw [eσ41, jup_n (of_decide_eq_true rfl), eσ39, jup_row, eσ37, jup_n (of_decide_eq_true rfl), jnc (show x38.toInt = x10.toInt - 1 by have h9 := tx38; omega), jnc (rfl : x10.toInt = x10.toInt)]) (by omega) (by have h9 := tx42; omega)), (jShi.step q18.2.2 (by rw [eσ41, jup_row, eσ39, jup_n (of_decide_eq_true rfl), eσ37, jup_n (of_decide_eq_true rfl), jnc (show x40.toInt = x10.toInt - 1 by have h9 := tx40; omega), jnc (rfl : x10.toInt = x10.toInt)]) (by omega) (by have h9 := tx42; omega))⟩ hP hS (lv_sub hl [0, 1] rfl)
  exact by exact lp8 1000000 1 σ _ _ ls (by have h90 := jz_1; omega) (by have h90 := jz_1; omega) (by have h90 := jz_1; omega) (fun _ _ => rfl)  hI2 ⟨(jShi.first (by have h9 := jz_1; omega)), (jShi.first (by have h9 := jz_1; omega)), (jShi.first (by have h9 := jz_1; omega))⟩ hP hS hl
set_option maxHeartbeats 4000000 in
set_option maxRecDepth 100000 in
theorem c_X4_change_2 (l : Launch) (D : va_G) (cI cL : ClassId) (ad zz : Nat → Nat) (hJ : jD ad) (σ : Nat → Nat → Int32) (τ : Nat → Nat → Int64) (a1 : Int32) (A1 : Int) (t1 : a1.toInt = A1) (a2 : Int32) (A2 : Int) (t2 : a2.toInt = A2) (hI2 : jI2 σ) (hp0 : 0 ≤ A1 ∧ A1 < 68) : jM l yX4_change cX4_change 4 (some .int) ({ frames := 1, cells := 0, slots := 0, locals := 21 }) D cI cL ad zz [.ref (ad 2), .int a1, .int a2] σ τ (fun r σ' τ' => τ = τ' ∧ (∀ i : Nat, (i < 2 ∨ 3 < i) ∧ (i < 6 ∨ 8 < i) → σ' i = σ i) ∧ (∀ k : Nat, (k < 2 ∨ 2 < k) ∧ (k < 3 ∨ 3 < k) → σ' 2 k = σ 2 k) ∧ (jI2 σ') ∧ (jChg (A1) a2 r (σ 3) (σ' 3) (σ 6) (σ' 6) (σ 7) (σ' 7) (σ 8) (σ' 8) (σ 2 2).toInt (σ' 2 2).toInt ((σ 2 2).toInt + (σ 2 3).toInt) ((σ' 2 2).toInt + (σ' 2 3).toInt)) ∧ True) := by
  refine jM.of hJ (by decide +kernel) (nt := .int) rfl (Nat.le_of_ble_eq_true rfl) ?_
  intro p e s m args below meth c Q ls hC hret hl hP
  obtain ⟨hx, hb, hr, hml, hown, hts, hK, -, hlocks, hZ⟩ := hC
  have hown : s.vm.findClass RX4 = some m.cls := hown
  have hS : va_S (jA ad) s.heap s.heap [] := va_S.rf
  have hA : ∀ q, jA ad q → jA ad q := fun _ h => h
  have hl : lv_has ls 4 [(0, .ref (ad 2)), (1, .int a1), (2, .int a2)] := hl
  have g1 := jrg t1
  have g2 := jrg t2
  obtain ⟨i1, i2, i3, i4, i5, w6, w7⟩ : (0 ≤ (σ 2 0).toInt ∧ (σ 2 0).toInt ≤ 4) ∧ (0 ≤ (σ 2 1).toInt ∧ (σ 2 1).toInt ≤ 3) ∧ (0 ≤ (σ 2 2).toInt) ∧ (0 ≤ (σ 2 3).toInt) ∧ ((σ 2 2).toInt + (σ 2 3).toInt ≤ 40) ∧ (∀ k : Nat, k < 40 → 0 ≤ (σ 6 k).toInt ∧ (σ 6 k).toInt ≤ 67) ∧ (∀ k : Nat, k < 4 → 0 ≤ (σ 5 k).toInt ∧ (σ 5 k).toInt ≤ 20) := id hI2
  refine lv_iload_n hx hb dX4_change_0 rfl (lv_at hl 1 rfl) ?_
  exact by
   refine lv_if_lt (tgt := 10) hx hb dX4_change_1 (of_decide_eq_true rfl) (fun c => absurd (jlt c t1 jz_0) (by omega)) (fun c8 => ?_)
   have kc8 := jnlt c8 t1 jz_0
   refine lv_iload_n hx hb dX4_change_4 rfl (lv_at hl 1 rfl) ?_
   refine lv_bipush (v := 68) hx hb dX4_change_5 (of_decide_eq_true rfl) ?_
   refine lv_icmp_lt (tgt := 13) hx hb dX4_change_7 (of_decide_eq_true rfl) (fun c9 => ?_) (fun c => absurd (jnlt c t1 jz_68) (by omega))
   have kc9 := jlt c9 t1 jz_68
   refine lv_aload_n hx hb dX4_change_13 rfl (lv_at hl 0 rfl) ?_
   refine va_get (D := D) hx hb hts inlX4 hown hK hP 2 (jc_2 cI cL ad σ τ) rfl 4 (of_decide_eq_true rfl) (hts _ kw_3_11) (fun _ h9 => h9) rfl dX4_change_14 ?_
   refine lv_iload_n hx hb dX4_change_17 rfl (lv_at hl 1 rfl) ?_
   exact by
    refine jald hx hb hK hP (jc_3 cI cL ad σ τ) (jin t1 (by omega) (by omega)) dX4_change_18 ?_
    refine jtopr (y := (σ 3 a1.toNatClampNeg)) rfl ?_
    refine lv_istore_n (lv' := [(3, .int (σ 3 a1.toNatClampNeg)), (0, .ref (ad 2)), (1, .int a1), (2, .int a2)]) hx hb dX4_change_19 rfl hl (of_decide_eq_true rfl) rfl (fun ls hl => ?_)
    refine lv_iload_n hx hb dX4_change_20 rfl (lv_at hl 0 rfl) ?_
    refine lv_iload_n hx hb dX4_change_21 rfl (lv_at hl 3 rfl) ?_
    refine lv_icmp_ne (tgt := 27) hx hb dX4_change_22 (of_decide_eq_true rfl) (fun c10 => ?_) (fun c10 => ?_)
    · have kc10 := jne c10 rfl t2
      refine lv_aload_n hx hb dX4_change_27 rfl (lv_at hl 1 rfl) ?_
      refine va_get (D := D) hx hb hts inlX4 hown hK hP 2 (jc_2 cI cL ad σ τ) rfl 2 (of_decide_eq_true rfl) (hts _ kw_10_17) (fun _ h9 => h9) rfl dX4_change_28 ?_
      refine lv_bipush (v := 40) hx hb dX4_change_31 (of_decide_eq_true rfl) ?_
      refine lv_icmp_lt (tgt := 40) hx hb dX4_change_33 (of_decide_eq_true rfl) (fun c11 => ?_) (fun c11 => ?_)
      · have kc11 := jlt c11 rfl jz_40
        refine lv_aload_n hx hb dX4_change_40 rfl (lv_at hl 1 rfl) ?_
        refine va_get (D := D) hx hb hts inlX4 hown hK hP 2 (jc_2 cI cL ad σ τ) rfl 7 (of_decide_eq_true rfl) (hts _ kw_3_14) (fun _ h9 => h9) rfl dX4_change_41 ?_
        refine lv_aload_n hx hb dX4_change_44 rfl (lv_at hl 1 rfl) ?_
        refine va_get (D := D) hx hb hts inlX4 hown hK hP 2 (jc_2 cI cL ad σ τ) rfl 2 (of_decide_eq_true rfl) (hts _ kw_10_17) (fun _ h9 => h9) rfl dX4_change_45 ?_
        refine lv_iload_n hx hb dX4_change_48 rfl (lv_at hl 2 rfl) ?_
        exact by
         refine jast hx hb hK hP hJ hA hS (jc_6 cI cL ad σ τ) (ja_6 cI cL ad σ τ _ _) (jin rfl (by omega) (by omega)) dX4_change_49 (fun σ12 H locs eσ12 hP hS => ?_)
         refine lv_aload_n hx hb dX4_change_50 rfl (lv_at hl 1 rfl) ?_
         refine va_get (D := D) hx hb hts inlX4 hown hK hP 2 (jc_2 cI cL ad σ12 τ) rfl 8 (of_decide_eq_true rfl) (hts _ kw_3_15) (fun _ h9 => h9) rfl dX4_change_51 ?_
         refine lv_aload_n hx hb dX4_change_54 rfl (lv_at hl 1 rfl) ?_
         refine va_get (D := D) hx hb hts inlX4 hown hK hP 2 (jc_2 cI cL ad σ12 τ) rfl 2 (of_decide_eq_true rfl) (hts _ kw_10_17) (fun _ h9 => h9) rfl dX4_change_55 ?_
         have m13 : σ12 2 2 = (σ 2 2) := (congrFun (jnp 2 eσ12 (of_decide_eq_true rfl)) 2)
         refine jtopr m13 ?_
         refine lv_iload_n hx hb dX4_change_58 rfl (lv_at hl 0 rfl) ?_
         refine jast hx hb hK hP hJ hA hS (jc_7 cI cL ad σ12 τ) (ja_7 cI cL ad σ12 τ _ _) (jin rfl (by omega) (by omega)) dX4_change_59 (fun σ14 H locs eσ14 hP hS => ?_)
         exact by
          refine lv_aload_n hx hb dX4_change_60 rfl (lv_at hl 1 rfl) ?_
          refine va_get (D := D) hx hb hts inlX4 hown hK hP 2 (jc_2 cI cL ad σ14 τ) rfl 9 (of_decide_eq_true rfl) (hts _ kw_3_16) (fun _ h9 => h9) rfl dX4_change_61 ?_
          refine lv_aload_n hx hb dX4_change_64 rfl (lv_at hl 1 rfl) ?_
          refine va_get (D := D) hx hb hts inlX4 hown hK hP 2 (jc_2 cI cL ad σ14 τ) rfl 2 (of_decide_eq_true rfl) (hts _ kw_10_17) (fun _ h9 => h9) rfl dX4_change_65 ?_
          have m15 : σ14 2 2 = (σ 2 2) := ((congrFun (jnp 2 eσ14 (of_decide_eq_true rfl)) 2).trans m13)
          refine jtopr m15 ?_
          refine lv_iload_n hx hb dX4_change_68 rfl (lv_at hl 3 rfl) ?_
          refine jast hx hb hK hP hJ hA hS (jc_8 cI cL ad σ14 τ) (ja_8 cI cL ad σ14 τ _ _) (jin rfl (by omega) (by omega)) dX4_change_69 (fun σ16 H locs eσ16 hP hS => ?_)
          refine lv_aload_n hx hb dX4_change_70 rfl (lv_at hl 1 rfl) ?_
          exact by
           refine lv_dup hx hb dX4_change_71 rfl ?_
           refine va_get (D := D) hx hb hts inlX4 hown hK hP 2 (jc_2 cI cL ad σ16 τ) rfl 2 (of_decide_eq_true rfl) (hts _ kw_10_17) (fun _ h9 => h9) rfl dX4_change_72 ?_
           have m17 : σ16 2 2 = (σ 2 2) := ((congrFun (jnp 2 eσ16 (of_decide_eq_true rfl)) 2).trans m15)
           refine jtopr m17 ?_
           refine lv_iconst (v := 1) hx hb dX4_change_75 (of_decide_eq_true rfl) ?_
           have g18 := jrg (rfl : (σ 2 2).toInt = (σ 2 2).toInt)
           refine lv_iadd hx hb dX4_change_76 ?_
           refine lv_topi (fun x19 ex19 => ?_)
           have tx19 : x19.toInt = (σ 2 2).toInt + 1 := (jadd ex19 rfl jz_1 (by omega) (by omega)).trans (by omega)
           exact by
            refine jput (ty := .int) hx hb hts inlX4 tyX4 tyX4_ok nmX4 hown hK hP hJ hA hS (jc_2 cI cL ad σ16 τ) rfl (k := 2) (of_decide_eq_true rfl) (Nat.le_of_ble_eq_true rfl) (jp_2_2 cI cL ad σ16 τ x19) (hts _ kw_10_17) (fun _ h9 => h9) rfl (by decide +kernel) rfl rfl dX4_change_77 (fun σ20 H locs eσ20 hP hS => ?_)
            refine lv_aload_n hx hb dX4_change_80 rfl (lv_at hl 1 rfl) ?_
            refine lv_iconst (v := 0) hx hb dX4_change_81 (of_decide_eq_true rfl) ?_
            refine jput (ty := .int) hx hb hts inlX4 tyX4 tyX4_ok nmX4 hown hK hP hJ hA hS (jc_2 cI cL ad σ20 τ) rfl (k := 3) (of_decide_eq_true rfl) (Nat.le_of_ble_eq_true rfl) (jp_2_3 cI cL ad σ20 τ 0) (hts _ kw_10_18) (fun _ h9 => h9) rfl (by decide +kernel) rfl rfl dX4_change_82 (fun σ21 H locs eσ21 hP hS => ?_)
            refine lv_aload_n hx hb dX4_change_85 rfl (lv_at hl 1 rfl) ?_
            refine va_get (D := D) hx hb hts inlX4 hown hK hP 2 (jc_2 cI cL ad σ21 τ) rfl 4 (of_decide_eq_true rfl) (hts _ kw_3_11) (fun _ h9 => h9) rfl dX4_change_86 ?_
            refine lv_iload_n hx hb dX4_change_89 rfl (lv_at hl 2 rfl) ?_
            refine lv_iload_n hx hb dX4_change_90 rfl (lv_at hl 3 rfl) ?_
            refine jast hx hb hK hP hJ hA hS (jc_3 cI cL ad σ21 τ) (ja_3 cI cL ad σ21 τ _ _) (jin t1 (by omega) (by omega)) dX4_change_91 (fun σ22 H locs eσ22 hP hS => ?_)
            exact by
             refine lv_iload_n hx hb dX4_change_92 rfl (lv_at hl 0 rfl) ?_
             have z23 : (σ22 2 0).toInt = (σ 2 0).toInt := (congrArg Int32.toInt (show σ22 2 0 = (σ 2 0) from ((congrFun (jnp 2 eσ22 (of_decide_eq_true rfl)) 0).trans ((jkp 0 eσ21 (of_decide_eq_true rfl)).trans ((jkp 0 eσ20 (of_decide_eq_true rfl)).trans ((congrFun (jnp 2 eσ16 (of_decide_eq_true rfl)) 0).trans ((congrFun (jnp 2 eσ14 (of_decide_eq_true rfl)) 0).trans (congrFun (jnp 2 eσ12 (of_decide_eq_true rfl)) 0))))))))
             have z24 : (σ22 2 1).toInt = (σ 2 1).toInt := (congrArg Int32.toInt (show σ22 2 1 = (σ 2 1) from ((congrFun (jnp 2 eσ22 (of_decide_eq_true rfl)) 1).trans ((jkp 1 eσ21 (of_decide_eq_true rfl)).trans ((jkp 1 eσ20 (of_decide_eq_true rfl)).trans ((congrFun (jnp 2 eσ16 (of_decide_eq_true rfl)) 1).trans ((congrFun (jnp 2 eσ14 (of_decide_eq_true rfl)) 1).trans (congrFun (jnp 2 eσ12 (of_decide_eq_true rfl)) 1))))))))
             have z25 : (σ22 2 2).toInt = (σ 2 2).toInt + 1 := ((congrArg Int32.toInt (show σ22 2 2 = x19 from ((congrFun (jnp 2 eσ22 (of_decide_eq_true rfl)) 2).trans ((jkp 2 eσ21 (of_decide_eq_true rfl)).trans (jsp eσ20))))).trans tx19)
             have z26 : (σ22 2 3).toInt = 0 := ((congrArg Int32.toInt (show σ22 2 3 = 0 from ((congrFun (jnp 2 eσ22 (of_decide_eq_true rfl)) 3).trans (jsp eσ21)))).trans jz_0)
             have w27 : ∀ k : Nat, k < 40 → 0 ≤ (σ22 6 k).toInt ∧ (σ22 6 k).toInt ≤ 67 := (jrr_fr (jnp 6 eσ22 (of_decide_eq_true rfl)) (jrr_fr (jnp 6 eσ21 (of_decide_eq_true rfl)) (jrr_fr (jnp 6 eσ20 (of_decide_eq_true rfl)) (jrr_fr (jnp 6 eσ16 (of_decide_eq_true rfl)) (jrr_fr (jnp 6 eσ14 (of_decide_eq_true rfl)) (by rw [eσ12]; exact jrr_up w6 (by have h9 := t1; omega) (by have h9 := t1; omega)))))))
             have w28 : ∀ k : Nat, k < 4 → 0 ≤ (σ22 5 k).toInt ∧ (σ22 5 k).toInt ≤ 20 := (jrr_fr (jnp 5 eσ22 (of_decide_eq_true rfl)) (jrr_fr (jnp 5 eσ21 (of_decide_eq_true rfl)) (jrr_fr (jnp 5 eσ20 (of_decide_eq_true rfl)) (jrr_fr (jnp 5 eσ16 (of_decide_eq_true rfl)) (jrr_fr (jnp 5 eσ14 (of_decide_eq_true rfl)) (jrr_fr (jnp 5 eσ12 (of_decide_eq_true rfl)) w7))))))
             have I29 : jI2 σ22 := ⟨(by omega), (by omega), (by omega), (by omega), (by omega), w27, w28⟩
             exact by exact hret (σ 3 a1.toNatClampNeg) σ22 τ _ _ _ _ rfl ⟨rfl, (fun i hi => ((jnp i eσ22 (imp_11 i hi)).trans ((jnp i eσ21 (imp_12 i hi)).trans ((jnp i eσ20 (imp_12 i hi)).trans ((jnp i eσ16 (imp_13 i hi)).trans ((jnp i eσ14 (imp_14 i hi)).trans (jnp i eσ12 (imp_15 i hi)))))))), (fun i hi => ((congrFun (jnp 2 eσ22 (of_decide_eq_true rfl)) i).trans ((jkp i eσ21 (imp_16 i hi)).trans ((jkp i eσ20 (imp_17 i hi)).trans ((congrFun (jnp 2 eσ16 (of_decide_eq_true rfl)) i).trans ((congrFun (jnp 2 eσ14 (of_decide_eq_true rfl)) i).trans (congrFun (jnp 2 eσ12 (of_decide_eq_true rfl)) i))))))), I29, ⟨(by rw [← jnc t1]), Or.inr ⟨(fun h => absurd (congrArg Int32.toInt h) (by have h9 := t2; omega)), (by omega), (by rw [eσ22, jup_row, eσ21, jup_n (of_decide_eq_true rfl), eσ20, jup_n (of_decide_eq_true rfl), eσ16, jup_n (of_decide_eq_true rfl), eσ14, jup_n (of_decide_eq_true rfl), eσ12, jup_n (of_decide_eq_true rfl), jnc t1]), σ 6, σ 7, σ 8, a1, t1, Or.inl ⟨(by omega), (by omega), rfl, rfl, rfl⟩, ((show σ22 6 = jupd (σ 6) (σ 2 2).toNatClampNeg a1 by rw [eσ22, jup_n (of_decide_eq_true rfl), eσ21, jup_n (of_decide_eq_true rfl), eσ20, jup_n (of_decide_eq_true rfl), eσ16, jup_n (of_decide_eq_true rfl), eσ14, jup_n (of_decide_eq_true rfl), eσ12, jup_row]).trans (by rw [jnc (show (σ 2 2).toInt = (σ22 2 2).toInt - 1 by omega)])), ((show σ22 7 = jupd (σ 7) (σ 2 2).toNatClampNeg (σ 3 a1.toNatClampNeg) by rw [eσ22, jup_n (of_decide_eq_true rfl), eσ21, jup_n (of_decide_eq_true rfl), eσ20, jup_n (of_decide_eq_true rfl), eσ16, jup_n (of_decide_eq_true rfl), eσ14, jup_row, eσ12, jup_n (of_decide_eq_true rfl)]).trans (by rw [jnc (show (σ 2 2).toInt = (σ22 2 2).toInt - 1 by omega)])), ((show σ22 8 = jupd (σ 8) (σ 2 2).toNatClampNeg a2 by rw [eσ22, jup_n (of_decide_eq_true rfl), eσ21, jup_n (of_decide_eq_true rfl), eσ20, jup_n (of_decide_eq_true rfl), eσ16, jup_row, eσ14, jup_n (of_decide_eq_true rfl), eσ12, jup_n (of_decide_eq_true rfl)]).trans (by rw [jnc (show (σ 2 2).toInt = (σ22 2 2).toInt - 1 by omega)]))⟩⟩, trivial⟩ hP hS dX4_change_93
      · exact by
         have kc11 := jnlt c11 rfl jz_40
         refine lv_aload_n hx hb dX4_change_36 rfl (lv_at hl 1 rfl) ?_
         refine jcallVv (As := []) (rest := []) ⟨hx, hb, hml, hown, hts⟩ hK hP hA hS hZ (c_X4_dropOldest_2 l D cI cL ad zz hJ σ τ hI2 (by omega)) cw_RX4_57 (jc_2 cI cL ad σ τ) rfl ⟨Nat.le_of_ble_eq_true rfl, Nat.le_of_ble_eq_true rfl⟩ rfl rfl rfl hl.1 rfl (Nat.le_of_ble_eq_true rfl) dX4_change_37 ⟨Nat.zero_le _, Nat.zero_le _⟩ (fun σ30 τ30 H locs h30 hP hS => ?_)
         obtain ⟨rfl, f32, f33, w34, w35, h30⟩ := h30
         obtain ⟨k37, h30⟩ := h30
         refine lv_aload_n hx hb dX4_change_40 rfl (lv_at hl 1 rfl) ?_
         refine va_get (D := D) hx hb hts inlX4 hown hK hP 2 (jc_2 cI cL ad σ30 τ) rfl 7 (of_decide_eq_true rfl) (hts _ kw_3_14) (fun _ h9 => h9) rfl dX4_change_41 ?_
         refine lv_aload_n hx hb dX4_change_44 rfl (lv_at hl 1 rfl) ?_
         refine va_get (D := D) hx hb hts inlX4 hown hK hP 2 (jc_2 cI cL ad σ30 τ) rfl 2 (of_decide_eq_true rfl) (hts _ kw_10_17) (fun _ h9 => h9) rfl dX4_change_45 ?_
         exact by
          refine lv_iload_n hx hb dX4_change_48 rfl (lv_at hl 2 rfl) ?_
          refine jast hx hb hK hP hJ hA hS (jc_6 cI cL ad σ30 τ) (ja_6 cI cL ad σ30 τ _ _) (jin rfl (by omega) (by omega)) dX4_change_49 (fun σ38 H locs eσ38 hP hS => ?_)
          refine lv_aload_n hx hb dX4_change_50 rfl (lv_at hl 1 rfl) ?_
          refine va_get (D := D) hx hb hts inlX4 hown hK hP 2 (jc_2 cI cL ad σ38 τ) rfl 8 (of_decide_eq_true rfl) (hts _ kw_3_15) (fun _ h9 => h9) rfl dX4_change_51 ?_
          refine lv_aload_n hx hb dX4_change_54 rfl (lv_at hl 1 rfl) ?_
          refine va_get (D := D) hx hb hts inlX4 hown hK hP 2 (jc_2 cI cL ad σ38 τ) rfl 2 (of_decide_eq_true rfl) (hts _ kw_10_17) (fun _ h9 => h9) rfl dX4_change_55 ?_
          have m39 : σ38 2 2 = (σ30 2 2) := (congrFun (jnp 2 eσ38 (of_decide_eq_true rfl)) 2)
          refine jtopr m39 ?_
          refine lv_iload_n hx hb dX4_change_58 rfl (lv_at hl 0 rfl) ?_
          exact by
           refine jast hx hb hK hP hJ hA hS (jc_7 cI cL ad σ38 τ) (ja_7 cI cL ad σ38 τ _ _) (jin rfl (by omega) (by omega)) dX4_change_59 (fun σ40 H locs eσ40 hP hS => ?_)
           refine lv_aload_n hx hb dX4_change_60 rfl (lv_at hl 1 rfl) ?_
           refine va_get (D := D) hx hb hts inlX4 hown hK hP 2 (jc_2 cI cL ad σ40 τ) rfl 9 (of_decide_eq_true rfl) (hts _ kw_3_16) (fun _ h9 => h9) rfl dX4_change_61 ?_
           refine lv_aload_n hx hb dX4_change_64 rfl (lv_at hl 1 rfl) ?_
           refine va_get (D := D) hx hb hts inlX4 hown hK hP 2 (jc_2 cI cL ad σ40 τ) rfl 2 (of_decide_eq_true rfl) (hts _ kw_10_17) (fun _ h9 => h9) rfl dX4_change_65 ?_
           have m41 : σ40 2 2 = (σ30 2 2) := ((congrFun (jnp 2 eσ40 (of_decide_eq_true rfl)) 2).trans m39)
           refine jtopr m41 ?_
           refine lv_iload_n hx hb dX4_change_68 rfl (lv_at hl 3 rfl) ?_
           refine jast hx hb hK hP hJ hA hS (jc_8 cI cL ad σ40 τ) (ja_8 cI cL ad σ40 τ _ _) (jin rfl (by omega) (by omega)) dX4_change_69 (fun σ42 H locs eσ42 hP hS => ?_)
           exact by
            refine lv_aload_n hx hb dX4_change_70 rfl (lv_at hl 1 rfl) ?_
            refine lv_dup hx hb dX4_change_71 rfl ?_
            refine va_get (D := D) hx hb hts inlX4 hown hK hP 2 (jc_2 cI cL ad σ42 τ) rfl 2 (of_decide_eq_true rfl) (hts _ kw_10_17) (fun _ h9 => h9) rfl dX4_change_72 ?_
            have m43 : σ42 2 2 = (σ30 2 2) := ((congrFun (jnp 2 eσ42 (of_decide_eq_true rfl)) 2).trans m41)
            refine jtopr m43 ?_
            refine lv_iconst (v := 1) hx hb dX4_change_75 (of_decide_eq_true rfl) ?_
            have g44 := jrg (rfl : (σ30 2 2).toInt = (σ30 2 2).toInt)
            refine lv_iadd hx hb dX4_change_76 ?_
            refine lv_topi (fun x45 ex45 => ?_)
            exact by
             have tx45 : x45.toInt = (σ30 2 2).toInt + 1 := (jadd ex45 rfl jz_1 (by omega) (by omega)).trans (by omega)
             refine jput (ty := .int) hx hb hts inlX4 tyX4 tyX4_ok nmX4 hown hK hP hJ hA hS (jc_2 cI cL ad σ42 τ) rfl (k := 2) (of_decide_eq_true rfl) (Nat.le_of_ble_eq_true rfl) (jp_2_2 cI cL ad σ42 τ x45) (hts _ kw_10_17) (fun _ h9 => h9) rfl (by decide +kernel) rfl rfl dX4_change_77 (fun σ46 H locs eσ46 hP hS => ?_)
             refine lv_aload_n hx hb dX4_change_80 rfl (lv_at hl 1 rfl) ?_
             refine lv_iconst (v := 0) hx hb dX4_change_81 (of_decide_eq_true rfl) ?_
             refine jput (ty := .int) hx hb hts inlX4 tyX4 tyX4_ok nmX4 hown hK hP hJ hA hS (jc_2 cI cL ad σ46 τ) rfl (k := 3) (of_decide_eq_true rfl) (Nat.le_of_ble_eq_true rfl) (jp_2_3 cI cL ad σ46 τ 0) (hts _ kw_10_18) (fun _ h9 => h9) rfl (by decide +kernel) rfl rfl dX4_change_82 (fun σ47 H locs eσ47 hP hS => ?_)
             refine lv_aload_n hx hb dX4_change_85 rfl (lv_at hl 1 rfl) ?_
             refine va_get (D := D) hx hb hts inlX4 hown hK hP 2 (jc_2 cI cL ad σ47 τ) rfl 4 (of_decide_eq_true rfl) (hts _ kw_3_11) (fun _ h9 => h9) rfl dX4_change_86 ?_
             refine lv_iload_n hx hb dX4_change_89 rfl (lv_at hl 2 rfl) ?_
             refine lv_iload_n hx hb dX4_change_90 rfl (lv_at hl 3 rfl) ?_
             exact by
              refine jast hx hb hK hP hJ hA hS (jc_3 cI cL ad σ47 τ) (ja_3 cI cL ad σ47 τ _ _) (jin t1 (by omega) (by omega)) dX4_change_91 (fun σ48 H locs eσ48 hP hS => ?_)
              refine lv_iload_n hx hb dX4_change_92 rfl (lv_at hl 0 rfl) ?_
              have z49 : (σ48 2 0).toInt = (σ 2 0).toInt := (congrArg Int32.toInt (show σ48 2 0 = (σ 2 0) from ((congrFun (jnp 2 eσ48 (of_decide_eq_true rfl)) 0).trans ((jkp 0 eσ47 (of_decide_eq_true rfl)).trans ((jkp 0 eσ46 (of_decide_eq_true rfl)).trans ((congrFun (jnp 2 eσ42 (of_decide_eq_true rfl)) 0).trans ((congrFun (jnp 2 eσ40 (of_decide_eq_true rfl)) 0).trans ((congrFun (jnp 2 eσ38 (of_decide_eq_true rfl)) 0).trans (f33 0 (of_decide_eq_true rfl))))))))))
              have z50 : (σ48 2 1).toInt = (σ 2 1).toInt := (congrArg Int32.toInt (show σ48 2 1 = (σ 2 1) from ((congrFun (jnp 2 eσ48 (of_decide_eq_true rfl)) 1).trans ((jkp 1 eσ47 (of_decide_eq_true rfl)).trans ((jkp 1 eσ46 (of_decide_eq_true rfl)).trans ((congrFun (jnp 2 eσ42 (of_decide_eq_true rfl)) 1).trans ((congrFun (jnp 2 eσ40 (of_decide_eq_true rfl)) 1).trans ((congrFun (jnp 2 eσ38 (of_decide_eq_true rfl)) 1).trans (f33 1 (of_decide_eq_true rfl))))))))))
              have z51 : (σ48 2 2).toInt = (σ30 2 2).toInt + 1 := ((congrArg Int32.toInt (show σ48 2 2 = x45 from ((congrFun (jnp 2 eσ48 (of_decide_eq_true rfl)) 2).trans ((jkp 2 eσ47 (of_decide_eq_true rfl)).trans (jsp eσ46))))).trans tx45)
              have z52 : (σ48 2 3).toInt = 0 := ((congrArg Int32.toInt (show σ48 2 3 = 0 from ((congrFun (jnp 2 eσ48 (of_decide_eq_true rfl)) 3).trans (jsp eσ47)))).trans jz_0)
              have w53 : ∀ k : Nat, k < 40 → 0 ≤ (σ48 6 k).toInt ∧ (σ48 6 k).toInt ≤ 67 := (jrr_fr (jnp 6 eσ48 (of_decide_eq_true rfl)) (jrr_fr (jnp 6 eσ47 (of_decide_eq_true rfl)) (jrr_fr (jnp 6 eσ46 (of_decide_eq_true rfl)) (jrr_fr (jnp 6 eσ42 (of_decide_eq_true rfl)) (jrr_fr (jnp 6 eσ40 (of_decide_eq_true rfl)) (by rw [eσ38]; exact jrr_up w34 (by have h9 := t1; omega) (by have h9 := t1; omega)))))))
              have w54 : ∀ k : Nat, k < 4 → 0 ≤ (σ48 5 k).toInt ∧ (σ48 5 k).toInt ≤ 20 := (jrr_fr (jnp 5 eσ48 (of_decide_eq_true rfl)) (jrr_fr (jnp 5 eσ47 (of_decide_eq_true rfl)) (jrr_fr (jnp 5 eσ46 (of_decide_eq_true rfl)) (jrr_fr (jnp 5 eσ42 (of_decide_eq_true rfl)) (jrr_fr (jnp 5 eσ40 (of_decide_eq_true rfl)) (jrr_fr (jnp 5 eσ38 (of_decide_eq_true rfl)) (jrr_fr (f32 5 (of_decide_eq_true rfl)) w7)))))))
              have I55 : jI2 σ48 := ⟨(by omega), (by omega), (by omega), (by omega), (by omega), w53, w54⟩
              exact by exact hret (σ 3 a1.toNatClampNeg) σ48 τ _ _ _ _ rfl ⟨rfl, (fun i hi => ((jnp i eσ48 (imp_11 i hi)).trans ((jnp i eσ47 (imp_12 i hi)).trans ((jnp i eσ46 (imp_12 i hi)).trans ((jnp i eσ42 (imp_13 i hi)).trans ((jnp i eσ40 (imp_14 i hi)).trans ((jnp i eσ38 (imp_15 i hi)).trans (f32 i (imp_18 i hi))))))))), (fun i hi => ((congrFun (jnp 2 eσ48 (of_decide_eq_true rfl)) i).trans ((jkp i eσ47 (imp_16 i hi)).trans ((jkp i eσ46 (imp_17 i hi)).trans ((congrFun (jnp 2 eσ42 (of_decide_eq_true rfl)) i).trans ((congrFun (jnp 2 eσ40 (of_decide_eq_true rfl)) i).trans ((congrFun (jnp 2 eσ38 (of_decide_eq_true rfl)) i).trans (f33 i (imp_19 i hi))))))))), I55, ⟨(by rw [← jnc t1]), Or.inr ⟨(fun h => absurd (congrArg Int32.toInt h) (by have h9 := t2; omega)), (by omega), (by rw [eσ48, jup_row, eσ47, jup_n (of_decide_eq_true rfl), eσ46, jup_n (of_decide_eq_true rfl), eσ42, jup_n (of_decide_eq_true rfl), eσ40, jup_n (of_decide_eq_true rfl), eσ38, jup_n (of_decide_eq_true rfl), f32 3 (of_decide_eq_true rfl), jnc t1]), σ30 6, σ30 7, σ30 8, a1, t1, Or.inr ⟨(by omega), (by omega), w35.1, w35.2.1, w35.2.2⟩, ((show σ48 6 = jupd (σ30 6) (σ30 2 2).toNatClampNeg a1 by rw [eσ48, jup_n (of_decide_eq_true rfl), eσ47, jup_n (of_decide_eq_true rfl), eσ46, jup_n (of_decide_eq_true rfl), eσ42, jup_n (of_decide_eq_true rfl), eσ40, jup_n (of_decide_eq_true rfl), eσ38, jup_row]).trans (by rw [jnc (show (σ30 2 2).toInt = (σ48 2 2).toInt - 1 by omega)])), ((show σ48 7 = jupd (σ30 7) (σ30 2 2).toNatClampNeg (σ 3 a1.toNatClampNeg) by rw [eσ48, jup_n (of_decide_eq_true rfl), eσ47, jup_n (of_decide_eq_true rfl), eσ46, jup_n (of_decide_eq_true rfl), eσ42, jup_n (of_decide_eq_true rfl), eσ40, jup_row, eσ38, jup_n (of_decide_eq_true rfl)]).trans (by rw [jnc (show (σ30 2 2).toInt = (σ48 2 2).toInt - 1 by omega)])), ((show σ48 8 = jupd (σ30 8) (σ30 2 2).toNatClampNeg a2 by rw [eσ48, jup_n (of_decide_eq_true rfl), eσ47, jup_n (of_decide_eq_true rfl), eσ46, jup_n (of_decide_eq_true rfl), eσ42, jup_row, eσ40, jup_n (of_decide_eq_true rfl), eσ38, jup_n (of_decide_eq_true rfl)]).trans (by rw [jnc (show (σ30 2 2).toInt = (σ48 2 2).toInt - 1 by omega)]))⟩⟩, trivial⟩ hP hS dX4_change_93
    · exact by
       have kc10 := jeq c10 rfl t2
       refine lv_iload_n hx hb dX4_change_25 rfl (lv_at hl 0 rfl) ?_
       exact by exact hret (σ 3 a1.toNatClampNeg) σ τ _ _ _ _ rfl ⟨rfl, (fun _ _ => rfl), (fun _ _ => rfl), hI2, ⟨(by rw [← jnc t1]), Or.inl ⟨jsame rfl t2 (by omega), rfl, rfl, rfl, rfl, rfl, rfl⟩⟩, trivial⟩ hP hS dX4_change_26
set_option maxHeartbeats 4000000 in
set_option maxRecDepth 100000 in
theorem c_X4_stepBack_2 (l : Launch) (D : va_G) (cI cL : ClassId) (ad zz : Nat → Nat) (hJ : jD ad) (σ : Nat → Nat → Int32) (τ : Nat → Nat → Int64) (hI2 : jI2 σ) : jM l yX4_stepBack cX4_stepBack 1 (some .int) ({ frames := 0, cells := 0, slots := 0, locals := 0 }) D cI cL ad zz [.ref (ad 2)] σ τ (fun r σ' τ' => τ = τ' ∧ (∀ i : Nat, (i < 2 ∨ 3 < i) → σ' i = σ i) ∧ (∀ k : Nat, (k < 2 ∨ 2 < k) ∧ (k < 3 ∨ 3 < k) → σ' 2 k = σ 2 k) ∧ (jI2 σ') ∧ ((r = (-5) ∧ (((σ 2 2).toInt ≤ 0) ∨ (40 < (σ 2 2).toInt)) ∧ ((σ' 2 2).toInt = (σ 2 2).toInt) ∧ ((σ' 2 3).toInt = (σ 2 3).toInt) ∧ (σ' 3 = σ 3)) ∨ (True ∧ (1 ≤ (σ 2 2).toInt) ∧ ((σ 2 2).toInt ≤ 40) ∧ (r.toInt = (σ 2 2).toInt - 1) ∧ ((σ' 2 2).toInt = (σ 2 2).toInt - 1) ∧ ((σ' 2 3).toInt = (σ 2 3).toInt + 1) ∧ (σ' 3 = jupd (σ 3) (σ 6 (r.toInt).toNat).toInt.toNat (σ 7 (r.toInt).toNat))))) := by
  refine jM.of hJ (by decide +kernel) (nt := .int) rfl (Nat.le_of_ble_eq_true rfl) ?_
  intro p e s m args below meth c Q ls hC hret hl hP
  obtain ⟨hx, hb, hr, hml, hown, hts, hK, -, hlocks, hZ⟩ := hC
  have hown : s.vm.findClass RX4 = some m.cls := hown
  have hS : va_S (jA ad) s.heap s.heap [] := va_S.rf
  have hA : ∀ q, jA ad q → jA ad q := fun _ h => h
  have hl : lv_has ls 1 [(0, .ref (ad 2))] := hl
  obtain ⟨i1, i2, i3, i4, i5, w6, w7⟩ : (0 ≤ (σ 2 0).toInt ∧ (σ 2 0).toInt ≤ 4) ∧ (0 ≤ (σ 2 1).toInt ∧ (σ 2 1).toInt ≤ 3) ∧ (0 ≤ (σ 2 2).toInt) ∧ (0 ≤ (σ 2 3).toInt) ∧ ((σ 2 2).toInt + (σ 2 3).toInt ≤ 40) ∧ (∀ k : Nat, k < 40 → 0 ≤ (σ 6 k).toInt ∧ (σ 6 k).toInt ≤ 67) ∧ (∀ k : Nat, k < 4 → 0 ≤ (σ 5 k).toInt ∧ (σ 5 k).toInt ≤ 20) := id hI2
  refine lv_aload_n hx hb dX4_stepBack_0 rfl (lv_at hl 0 rfl) ?_
  refine va_get (D := D) hx hb hts inlX4 hown hK hP 2 (jc_2 cI cL ad σ τ) rfl 2 (of_decide_eq_true rfl) (hts _ kw_10_17) (fun _ h9 => h9) rfl dX4_stepBack_1 ?_
  refine lv_if_le (tgt := 16) hx hb dX4_stepBack_4 (of_decide_eq_true rfl) (fun c8 => ?_) (fun c8 => ?_)
  · have kc8 := jle c8 rfl jz_0
    refine lv_bipush (v := (-5)) hx hb dX4_stepBack_16 (of_decide_eq_true rfl) ?_
    exact by exact hret (-5) σ τ _ _ _ _ rfl ⟨rfl, (fun _ _ => rfl), (fun _ _ => rfl), hI2, Or.inl ⟨rfl, (by have h9 := jz_m5; omega), (by have h9 := jz_m5; omega), (by have h9 := jz_m5; omega), rfl⟩⟩ hP hS dX4_stepBack_18
  · have kc8 := jnle c8 rfl jz_0
    refine lv_aload_n hx hb dX4_stepBack_7 rfl (lv_at hl 0 rfl) ?_
    refine va_get (D := D) hx hb hts inlX4 hown hK hP 2 (jc_2 cI cL ad σ τ) rfl 2 (of_decide_eq_true rfl) (hts _ kw_10_17) (fun _ h9 => h9) rfl dX4_stepBack_8 ?_
    refine lv_bipush (v := 40) hx hb dX4_stepBack_11 (of_decide_eq_true rfl) ?_
    exact by
     refine lv_icmp_le (tgt := 19) hx hb dX4_stepBack_13 (of_decide_eq_true rfl) (fun c9 => ?_) (fun c => absurd (jnle c rfl jz_40) (by omega))
     have kc9 := jle c9 rfl jz_40
     refine lv_aload_n hx hb dX4_stepBack_19 rfl (lv_at hl 0 rfl) ?_
     refine lv_dup hx hb dX4_stepBack_20 rfl ?_
     refine va_get (D := D) hx hb hts inlX4 hown hK hP 2 (jc_2 cI cL ad σ τ) rfl 2 (of_decide_eq_true rfl) (hts _ kw_10_17) (fun _ h9 => h9) rfl dX4_stepBack_21 ?_
     refine lv_iconst (v := 1) hx hb dX4_stepBack_24 (of_decide_eq_true rfl) ?_
     have g10 := jrg (rfl : (σ 2 2).toInt = (σ 2 2).toInt)
     refine lv_isub hx hb dX4_stepBack_25 ?_
     refine lv_topi (fun x11 ex11 => ?_)
     exact by
      have tx11 : x11.toInt = (σ 2 2).toInt - 1 := (jsub ex11 rfl jz_1 (by omega) (by omega)).trans (by omega)
      refine jput (ty := .int) hx hb hts inlX4 tyX4 tyX4_ok nmX4 hown hK hP hJ hA hS (jc_2 cI cL ad σ τ) rfl (k := 2) (of_decide_eq_true rfl) (Nat.le_of_ble_eq_true rfl) (jp_2_2 cI cL ad σ τ x11) (hts _ kw_10_17) (fun _ h9 => h9) rfl (by decide +kernel) rfl rfl dX4_stepBack_26 (fun σ12 H locs eσ12 hP hS => ?_)
      refine lv_aload_n hx hb dX4_stepBack_29 rfl (lv_at hl 0 rfl) ?_
      refine lv_dup hx hb dX4_stepBack_30 rfl ?_
      refine va_get (D := D) hx hb hts inlX4 hown hK hP 2 (jc_2 cI cL ad σ12 τ) rfl 3 (of_decide_eq_true rfl) (hts _ kw_10_18) (fun _ h9 => h9) rfl dX4_stepBack_31 ?_
      have m13 : σ12 2 3 = (σ 2 3) := (jkp 3 eσ12 (of_decide_eq_true rfl))
      refine jtopr m13 ?_
      refine lv_iconst (v := 1) hx hb dX4_stepBack_34 (of_decide_eq_true rfl) ?_
      have g14 := jrg (rfl : (σ 2 3).toInt = (σ 2 3).toInt)
      refine lv_iadd hx hb dX4_stepBack_35 ?_
      refine lv_topi (fun x15 ex15 => ?_)
      exact by
       have tx15 : x15.toInt = (σ 2 3).toInt + 1 := (jadd ex15 rfl jz_1 (by omega) (by omega)).trans (by omega)
       refine jput (ty := .int) hx hb hts inlX4 tyX4 tyX4_ok nmX4 hown hK hP hJ hA hS (jc_2 cI cL ad σ12 τ) rfl (k := 3) (of_decide_eq_true rfl) (Nat.le_of_ble_eq_true rfl) (jp_2_3 cI cL ad σ12 τ x15) (hts _ kw_10_18) (fun _ h9 => h9) rfl (by decide +kernel) rfl rfl dX4_stepBack_36 (fun σ16 H locs eσ16 hP hS => ?_)
       refine lv_aload_n hx hb dX4_stepBack_39 rfl (lv_at hl 0 rfl) ?_
       refine va_get (D := D) hx hb hts inlX4 hown hK hP 2 (jc_2 cI cL ad σ16 τ) rfl 4 (of_decide_eq_true rfl) (hts _ kw_3_11) (fun _ h9 => h9) rfl dX4_stepBack_40 ?_
       refine lv_aload_n hx hb dX4_stepBack_43 rfl (lv_at hl 0 rfl) ?_
       refine va_get (D := D) hx hb hts inlX4 hown hK hP 2 (jc_2 cI cL ad σ16 τ) rfl 7 (of_decide_eq_true rfl) (hts _ kw_3_14) (fun _ h9 => h9) rfl dX4_stepBack_44 ?_
       refine lv_aload_n hx hb dX4_stepBack_47 rfl (lv_at hl 0 rfl) ?_
       refine va_get (D := D) hx hb hts inlX4 hown hK hP 2 (jc_2 cI cL ad σ16 τ) rfl 2 (of_decide_eq_true rfl) (hts _ kw_10_17) (fun _ h9 => h9) rfl dX4_stepBack_48 ?_
       have m17 : σ16 2 2 = x11 := ((jkp 2 eσ16 (of_decide_eq_true rfl)).trans (jsp eσ12))
       refine jtopr m17 ?_
       exact by
        refine jald hx hb hK hP (jc_6 cI cL ad σ16 τ) (jin tx11 (by omega) (by omega)) dX4_stepBack_51 ?_
        have w18 : ∀ k : Nat, k < 40 → 0 ≤ (σ16 6 k).toInt ∧ (σ16 6 k).toInt ≤ 67 := (jrr_fr (jnp 6 eσ16 (of_decide_eq_true rfl)) (jrr_fr (jnp 6 eσ12 (of_decide_eq_true rfl)) w6))
        have g19 := w18 _ (jnat (x := x11) tx11 (n := 40) (by omega) (of_decide_eq_true rfl))
        refine jtopr (y := (σ 6 x11.toNatClampNeg)) (by rw [jnp 6 eσ16 (of_decide_eq_true rfl), jnp 6 eσ12 (of_decide_eq_true rfl)]) ?_
        rw [jnp 6 eσ16 (of_decide_eq_true rfl), jnp 6 eσ12 (of_decide_eq_true rfl)] at g19
        refine lv_aload_n hx hb dX4_stepBack_52 rfl (lv_at hl 0 rfl) ?_
        refine va_get (D := D) hx hb hts inlX4 hown hK hP 2 (jc_2 cI cL ad σ16 τ) rfl 8 (of_decide_eq_true rfl) (hts _ kw_3_15) (fun _ h9 => h9) rfl dX4_stepBack_53 ?_
        refine lv_aload_n hx hb dX4_stepBack_56 rfl (lv_at hl 0 rfl) ?_
        refine va_get (D := D) hx hb hts inlX4 hown hK hP 2 (jc_2 cI cL ad σ16 τ) rfl 2 (of_decide_eq_true rfl) (hts _ kw_10_17) (fun _ h9 => h9) rfl dX4_stepBack_57 ?_
        exact by
         refine jtopr m17 ?_
         refine jald hx hb hK hP (jc_7 cI cL ad σ16 τ) (jin tx11 (by omega) (by omega)) dX4_stepBack_60 ?_
         refine jtopr (y := (σ 7 x11.toNatClampNeg)) (by rw [jnp 7 eσ16 (of_decide_eq_true rfl), jnp 7 eσ12 (of_decide_eq_true rfl)]) ?_
         refine jast hx hb hK hP hJ hA hS (jc_3 cI cL ad σ16 τ) (ja_3 cI cL ad σ16 τ _ _) (jin rfl (by omega) (by omega)) dX4_stepBack_61 (fun σ20 H locs eσ20 hP hS => ?_)
         refine lv_aload_n hx hb dX4_stepBack_62 rfl (lv_at hl 0 rfl) ?_
         refine va_get (D := D) hx hb hts inlX4 hown hK hP 2 (jc_2 cI cL ad σ20 τ) rfl 2 (of_decide_eq_true rfl) (hts _ kw_10_17) (fun _ h9 => h9) rfl dX4_stepBack_63 ?_
         have m21 : σ20 2 2 = x11 := ((congrFun (jnp 2 eσ20 (of_decide_eq_true rfl)) 2).trans m17)
         refine jtopr m21 ?_
         have z22 : (σ20 2 0).toInt = (σ 2 0).toInt := (congrArg Int32.toInt (show σ20 2 0 = (σ 2 0) from ((congrFun (jnp 2 eσ20 (of_decide_eq_true rfl)) 0).trans ((jkp 0 eσ16 (of_decide_eq_true rfl)).trans (jkp 0 eσ12 (of_decide_eq_true rfl))))))
         exact by
          have z23 : (σ20 2 1).toInt = (σ 2 1).toInt := (congrArg Int32.toInt (show σ20 2 1 = (σ 2 1) from ((congrFun (jnp 2 eσ20 (of_decide_eq_true rfl)) 1).trans ((jkp 1 eσ16 (of_decide_eq_true rfl)).trans (jkp 1 eσ12 (of_decide_eq_true rfl))))))
          have z24 : (σ20 2 2).toInt = (σ 2 2).toInt - 1 := ((congrArg Int32.toInt (show σ20 2 2 = x11 from m21)).trans tx11)
          have z25 : (σ20 2 3).toInt = (σ 2 3).toInt + 1 := ((congrArg Int32.toInt (show σ20 2 3 = x15 from ((congrFun (jnp 2 eσ20 (of_decide_eq_true rfl)) 3).trans (jsp eσ16)))).trans tx15)
          have w26 : ∀ k : Nat, k < 40 → 0 ≤ (σ20 6 k).toInt ∧ (σ20 6 k).toInt ≤ 67 := (jrr_fr (jnp 6 eσ20 (of_decide_eq_true rfl)) w18)
          have w27 : ∀ k : Nat, k < 4 → 0 ≤ (σ20 5 k).toInt ∧ (σ20 5 k).toInt ≤ 20 := (jrr_fr (jnp 5 eσ20 (of_decide_eq_true rfl)) (jrr_fr (jnp 5 eσ16 (of_decide_eq_true rfl)) (jrr_fr (jnp 5 eσ12 (of_decide_eq_true rfl)) w7)))
          have I28 : jI2 σ20 := ⟨(by omega), (by omega), (by omega), (by omega), (by omega), w26, w27⟩
          exact by exact hret x11 σ20 τ _ _ _ _ rfl ⟨rfl, (fun i hi => ((jnp i eσ20 (imp_20 i hi)).trans ((jnp i eσ16 (imp_21 i hi)).trans (jnp i eσ12 (imp_21 i hi))))), (fun i hi => ((congrFun (jnp 2 eσ20 (of_decide_eq_true rfl)) i).trans ((jkp i eσ16 (imp_16 i hi)).trans (jkp i eσ12 (imp_17 i hi))))), I28, Or.inr (⟨trivial, (by have h9 := tx11; omega), (by have h9 := tx11; omega), (by have h9 := tx11; omega), (by have h9 := tx11; omega), (by have h9 := tx11; omega), (by rw [eσ20, jup_row, eσ16, jup_n (of_decide_eq_true rfl), eσ12, jup_n (of_decide_eq_true rfl), jnc (rfl : (σ 6 x11.toNatClampNeg).toInt = (σ 6 x11.toNatClampNeg).toInt), jnc (show x11.toInt = x11.toInt by have h9 := tx11; omega)])⟩)⟩ hP hS dX4_stepBack_66
set_option maxHeartbeats 4000000 in
set_option maxRecDepth 100000 in
theorem c_X4_stepAgain_2 (l : Launch) (D : va_G) (cI cL : ClassId) (ad zz : Nat → Nat) (hJ : jD ad) (σ : Nat → Nat → Int32) (τ : Nat → Nat → Int64) (hI2 : jI2 σ) : jM l yX4_stepAgain cX4_stepAgain 1 (some .int) ({ frames := 0, cells := 0, slots := 0, locals := 0 }) D cI cL ad zz [.ref (ad 2)] σ τ (fun r σ' τ' => τ = τ' ∧ (∀ i : Nat, (i < 2 ∨ 3 < i) → σ' i = σ i) ∧ (∀ k : Nat, (k < 2 ∨ 2 < k) ∧ (k < 3 ∨ 3 < k) → σ' 2 k = σ 2 k) ∧ (jI2 σ') ∧ ((r = (-5) ∧ (((σ 2 3).toInt ≤ 0) ∨ (40 ≤ (σ 2 2).toInt)) ∧ ((σ' 2 2).toInt = (σ 2 2).toInt) ∧ ((σ' 2 3).toInt = (σ 2 3).toInt) ∧ (σ' 3 = σ 3)) ∨ (True ∧ (1 ≤ (σ 2 3).toInt) ∧ ((σ 2 2).toInt < 40) ∧ (r.toInt = (σ 2 3).toInt - 1) ∧ ((σ' 2 2).toInt = (σ 2 2).toInt + 1) ∧ ((σ' 2 3).toInt = (σ 2 3).toInt - 1) ∧ (σ' 3 = jupd (σ 3) (σ 6 ((σ 2 2).toInt).toNat).toInt.toNat (σ 8 ((σ 2 2).toInt).toNat))))) := by
  refine jM.of hJ (by decide +kernel) (nt := .int) rfl (Nat.le_of_ble_eq_true rfl) ?_
  intro p e s m args below meth c Q ls hC hret hl hP
  obtain ⟨hx, hb, hr, hml, hown, hts, hK, -, hlocks, hZ⟩ := hC
  have hown : s.vm.findClass RX4 = some m.cls := hown
  have hS : va_S (jA ad) s.heap s.heap [] := va_S.rf
  have hA : ∀ q, jA ad q → jA ad q := fun _ h => h
  have hl : lv_has ls 1 [(0, .ref (ad 2))] := hl
  obtain ⟨i1, i2, i3, i4, i5, w6, w7⟩ : (0 ≤ (σ 2 0).toInt ∧ (σ 2 0).toInt ≤ 4) ∧ (0 ≤ (σ 2 1).toInt ∧ (σ 2 1).toInt ≤ 3) ∧ (0 ≤ (σ 2 2).toInt) ∧ (0 ≤ (σ 2 3).toInt) ∧ ((σ 2 2).toInt + (σ 2 3).toInt ≤ 40) ∧ (∀ k : Nat, k < 40 → 0 ≤ (σ 6 k).toInt ∧ (σ 6 k).toInt ≤ 67) ∧ (∀ k : Nat, k < 4 → 0 ≤ (σ 5 k).toInt ∧ (σ 5 k).toInt ≤ 20) := id hI2
  refine lv_aload_n hx hb dX4_stepAgain_0 rfl (lv_at hl 0 rfl) ?_
  refine va_get (D := D) hx hb hts inlX4 hown hK hP 2 (jc_2 cI cL ad σ τ) rfl 3 (of_decide_eq_true rfl) (hts _ kw_10_18) (fun _ h9 => h9) rfl dX4_stepAgain_1 ?_
  refine lv_if_le (tgt := 16) hx hb dX4_stepAgain_4 (of_decide_eq_true rfl) (fun c8 => ?_) (fun c8 => ?_)
  · have kc8 := jle c8 rfl jz_0
    refine lv_bipush (v := (-5)) hx hb dX4_stepAgain_16 (of_decide_eq_true rfl) ?_
    exact by exact hret (-5) σ τ _ _ _ _ rfl ⟨rfl, (fun _ _ => rfl), (fun _ _ => rfl), hI2, Or.inl ⟨rfl, (by have h9 := jz_m5; omega), (by have h9 := jz_m5; omega), (by have h9 := jz_m5; omega), rfl⟩⟩ hP hS dX4_stepAgain_18
  · have kc8 := jnle c8 rfl jz_0
    refine lv_aload_n hx hb dX4_stepAgain_7 rfl (lv_at hl 0 rfl) ?_
    refine va_get (D := D) hx hb hts inlX4 hown hK hP 2 (jc_2 cI cL ad σ τ) rfl 2 (of_decide_eq_true rfl) (hts _ kw_10_17) (fun _ h9 => h9) rfl dX4_stepAgain_8 ?_
    refine lv_bipush (v := 40) hx hb dX4_stepAgain_11 (of_decide_eq_true rfl) ?_
    exact by
     refine lv_icmp_lt (tgt := 19) hx hb dX4_stepAgain_13 (of_decide_eq_true rfl) (fun c9 => ?_) (fun c => absurd (jnlt c rfl jz_40) (by omega))
     have kc9 := jlt c9 rfl jz_40
     refine lv_aload_n hx hb dX4_stepAgain_19 rfl (lv_at hl 0 rfl) ?_
     refine va_get (D := D) hx hb hts inlX4 hown hK hP 2 (jc_2 cI cL ad σ τ) rfl 4 (of_decide_eq_true rfl) (hts _ kw_3_11) (fun _ h9 => h9) rfl dX4_stepAgain_20 ?_
     refine lv_aload_n hx hb dX4_stepAgain_23 rfl (lv_at hl 0 rfl) ?_
     refine va_get (D := D) hx hb hts inlX4 hown hK hP 2 (jc_2 cI cL ad σ τ) rfl 7 (of_decide_eq_true rfl) (hts _ kw_3_14) (fun _ h9 => h9) rfl dX4_stepAgain_24 ?_
     refine lv_aload_n hx hb dX4_stepAgain_27 rfl (lv_at hl 0 rfl) ?_
     refine va_get (D := D) hx hb hts inlX4 hown hK hP 2 (jc_2 cI cL ad σ τ) rfl 2 (of_decide_eq_true rfl) (hts _ kw_10_17) (fun _ h9 => h9) rfl dX4_stepAgain_28 ?_
     refine jald hx hb hK hP (jc_6 cI cL ad σ τ) (jin rfl (by omega) (by omega)) dX4_stepAgain_31 ?_
     exact by
      have g10 := w6 _ (jnat (x := (σ 2 2)) rfl (n := 40) (by omega) (of_decide_eq_true rfl))
      refine jtopr (y := (σ 6 (σ 2 2).toNatClampNeg)) rfl ?_
      refine lv_aload_n hx hb dX4_stepAgain_32 rfl (lv_at hl 0 rfl) ?_
      refine va_get (D := D) hx hb hts inlX4 hown hK hP 2 (jc_2 cI cL ad σ τ) rfl 9 (of_decide_eq_true rfl) (hts _ kw_3_16) (fun _ h9 => h9) rfl dX4_stepAgain_33 ?_
      refine lv_aload_n hx hb dX4_stepAgain_36 rfl (lv_at hl 0 rfl) ?_
      refine va_get (D := D) hx hb hts inlX4 hown hK hP 2 (jc_2 cI cL ad σ τ) rfl 2 (of_decide_eq_true rfl) (hts _ kw_10_17) (fun _ h9 => h9) rfl dX4_stepAgain_37 ?_
      refine jald hx hb hK hP (jc_8 cI cL ad σ τ) (jin rfl (by omega) (by omega)) dX4_stepAgain_40 ?_
      refine jtopr (y := (σ 8 (σ 2 2).toNatClampNeg)) rfl ?_
      refine jast hx hb hK hP hJ hA hS (jc_3 cI cL ad σ τ) (ja_3 cI cL ad σ τ _ _) (jin rfl (by omega) (by omega)) dX4_stepAgain_41 (fun σ11 H locs eσ11 hP hS => ?_)
      exact by
       refine lv_aload_n hx hb dX4_stepAgain_42 rfl (lv_at hl 0 rfl) ?_
       refine lv_dup hx hb dX4_stepAgain_43 rfl ?_
       refine va_get (D := D) hx hb hts inlX4 hown hK hP 2 (jc_2 cI cL ad σ11 τ) rfl 2 (of_decide_eq_true rfl) (hts _ kw_10_17) (fun _ h9 => h9) rfl dX4_stepAgain_44 ?_
       have m12 : σ11 2 2 = (σ 2 2) := (congrFun (jnp 2 eσ11 (of_decide_eq_true rfl)) 2)
       refine jtopr m12 ?_
       refine lv_iconst (v := 1) hx hb dX4_stepAgain_47 (of_decide_eq_true rfl) ?_
       have g13 := jrg (rfl : (σ 2 2).toInt = (σ 2 2).toInt)
       refine lv_iadd hx hb dX4_stepAgain_48 ?_
       refine lv_topi (fun x14 ex14 => ?_)
       exact by
        have tx14 : x14.toInt = (σ 2 2).toInt + 1 := (jadd ex14 rfl jz_1 (by omega) (by omega)).trans (by omega)
        refine jput (ty := .int) hx hb hts inlX4 tyX4 tyX4_ok nmX4 hown hK hP hJ hA hS (jc_2 cI cL ad σ11 τ) rfl (k := 2) (of_decide_eq_true rfl) (Nat.le_of_ble_eq_true rfl) (jp_2_2 cI cL ad σ11 τ x14) (hts _ kw_10_17) (fun _ h9 => h9) rfl (by decide +kernel) rfl rfl dX4_stepAgain_49 (fun σ15 H locs eσ15 hP hS => ?_)
        refine lv_aload_n hx hb dX4_stepAgain_52 rfl (lv_at hl 0 rfl) ?_
        refine lv_dup hx hb dX4_stepAgain_53 rfl ?_
        refine va_get (D := D) hx hb hts inlX4 hown hK hP 2 (jc_2 cI cL ad σ15 τ) rfl 3 (of_decide_eq_true rfl) (hts _ kw_10_18) (fun _ h9 => h9) rfl dX4_stepAgain_54 ?_
        have m16 : σ15 2 3 = (σ 2 3) := ((jkp 3 eσ15 (of_decide_eq_true rfl)).trans (congrFun (jnp 2 eσ11 (of_decide_eq_true rfl)) 3))
        refine jtopr m16 ?_
        refine lv_iconst (v := 1) hx hb dX4_stepAgain_57 (of_decide_eq_true rfl) ?_
        have g17 := jrg (rfl : (σ 2 3).toInt = (σ 2 3).toInt)
        refine lv_isub hx hb dX4_stepAgain_58 ?_
        refine lv_topi (fun x18 ex18 => ?_)
        exact by
         have tx18 : x18.toInt = (σ 2 3).toInt - 1 := (jsub ex18 rfl jz_1 (by omega) (by omega)).trans (by omega)
         refine jput (ty := .int) hx hb hts inlX4 tyX4 tyX4_ok nmX4 hown hK hP hJ hA hS (jc_2 cI cL ad σ15 τ) rfl (k := 3) (of_decide_eq_true rfl) (Nat.le_of_ble_eq_true rfl) (jp_2_3 cI cL ad σ15 τ x18) (hts _ kw_10_18) (fun _ h9 => h9) rfl (by decide +kernel) rfl rfl dX4_stepAgain_59 (fun σ19 H locs eσ19 hP hS => ?_)
         refine lv_aload_n hx hb dX4_stepAgain_62 rfl (lv_at hl 0 rfl) ?_
         refine va_get (D := D) hx hb hts inlX4 hown hK hP 2 (jc_2 cI cL ad σ19 τ) rfl 3 (of_decide_eq_true rfl) (hts _ kw_10_18) (fun _ h9 => h9) rfl dX4_stepAgain_63 ?_
         have m20 : σ19 2 3 = x18 := (jsp eσ19)
         refine jtopr m20 ?_
         have z21 : (σ19 2 0).toInt = (σ 2 0).toInt := (congrArg Int32.toInt (show σ19 2 0 = (σ 2 0) from ((jkp 0 eσ19 (of_decide_eq_true rfl)).trans ((jkp 0 eσ15 (of_decide_eq_true rfl)).trans (congrFun (jnp 2 eσ11 (of_decide_eq_true rfl)) 0)))))
         have z22 : (σ19 2 1).toInt = (σ 2 1).toInt := (congrArg Int32.toInt (show σ19 2 1 = (σ 2 1) from ((jkp 1 eσ19 (of_decide_eq_true rfl)).trans ((jkp 1 eσ15 (of_decide_eq_true rfl)).trans (congrFun (jnp 2 eσ11 (of_decide_eq_true rfl)) 1)))))
         have z23 : (σ19 2 2).toInt = (σ 2 2).toInt + 1 := ((congrArg Int32.toInt (show σ19 2 2 = x14 from ((jkp 2 eσ19 (of_decide_eq_true rfl)).trans (jsp eσ15)))).trans tx14)
         have z24 : (σ19 2 3).toInt = (σ 2 3).toInt - 1 := ((congrArg Int32.toInt (show σ19 2 3 = x18 from m20)).trans tx18)
         have w25 : ∀ k : Nat, k < 40 → 0 ≤ (σ19 6 k).toInt ∧ (σ19 6 k).toInt ≤ 67 := (jrr_fr (jnp 6 eσ19 (of_decide_eq_true rfl)) (jrr_fr (jnp 6 eσ15 (of_decide_eq_true rfl)) (jrr_fr (jnp 6 eσ11 (of_decide_eq_true rfl)) w6)))
         have w26 : ∀ k : Nat, k < 4 → 0 ≤ (σ19 5 k).toInt ∧ (σ19 5 k).toInt ≤ 20 := (jrr_fr (jnp 5 eσ19 (of_decide_eq_true rfl)) (jrr_fr (jnp 5 eσ15 (of_decide_eq_true rfl)) (jrr_fr (jnp 5 eσ11 (of_decide_eq_true rfl)) w7)))
         exact by
          have I27 : jI2 σ19 := ⟨(by omega), (by omega), (by omega), (by omega), (by omega), w25, w26⟩
          exact by exact hret x18 σ19 τ _ _ _ _ rfl ⟨rfl, (fun i hi => ((jnp i eσ19 (imp_21 i hi)).trans ((jnp i eσ15 (imp_21 i hi)).trans (jnp i eσ11 (imp_20 i hi))))), (fun i hi => ((jkp i eσ19 (imp_16 i hi)).trans ((jkp i eσ15 (imp_17 i hi)).trans (congrFun (jnp 2 eσ11 (of_decide_eq_true rfl)) i)))), I27, Or.inr (⟨trivial, (by have h9 := tx18; omega), (by have h9 := tx18; omega), (by have h9 := tx18; omega), (by have h9 := tx18; omega), (by have h9 := tx18; omega), (by rw [eσ19, jup_n (of_decide_eq_true rfl), eσ15, jup_n (of_decide_eq_true rfl), eσ11, jup_row, jnc (rfl : (σ 6 (σ 2 2).toNatClampNeg).toInt = (σ 6 (σ 2 2).toNatClampNeg).toInt), jnc (show (σ 2 2).toInt = (σ 2 2).toInt by have h9 := tx18; omega)])⟩)⟩ hP hS dX4_stepAgain_66
set_option maxHeartbeats 4000000 in
set_option maxRecDepth 100000 in
theorem c_X0_last (l : Launch) (D : va_G) (cI cL : ClassId) (ad zz : Nat → Nat) (hJ : jD ad) (σ : Nat → Nat → Int32) (τ : Nat → Nat → Int64) (a1 : Int32) (A1 : Int) (t1 : a1.toInt = A1) : jM l yX0_last cX0_last 1 (some .int) ({ frames := 0, cells := 0, slots := 0, locals := 0 }) D cI cL ad zz [.int a1] σ τ (fun r σ' τ' => (σ = σ' ∧ τ = τ') ∧ (r.toInt = (jLa a1).toInt - 1) ∧ True) := by
  refine jM.of hJ (by decide +kernel) (nt := .int) rfl (Nat.le_of_ble_eq_true rfl) ?_
  intro p e s m args below meth c Q ls hC hret hl hP
  obtain ⟨hx, hb, hr, hml, hown, hts, hK, -, hlocks, hZ⟩ := hC
  have hown : s.vm.findClass RX0 = some m.cls := hown
  have hS : va_S (jA ad) s.heap s.heap [] := va_S.rf
  have hA : ∀ q, jA ad q → jA ad q := fun _ h => h
  have hl : lv_has ls 1 [(0, .int a1)] := hl
  have g1 := jrg t1
  refine lv_iload_n hx hb dX0_last_0 rfl (lv_at hl 0 rfl) ?_
  refine lv_bipush (v := 7) hx hb dX0_last_1 (of_decide_eq_true rfl) ?_
  refine lv_iand hx hb dX0_last_3 ?_
  refine lv_topi (fun x1 ex1 => ?_)
  have gx1 := jrg (rfl : x1.toInt = x1.toInt)
  have g2 : 0 ≤ x1.toInt ∧ x1.toInt ≤ 7 := jmask ex1 3 (of_decide_eq_true rfl) (of_decide_eq_true rfl)
  refine lv_iconst (v := 1) hx hb dX0_last_4 (of_decide_eq_true rfl) ?_
  have g3 := jrg (rfl : x1.toInt = x1.toInt)
  refine lv_isub hx hb dX0_last_5 ?_
  refine lv_topi (fun x4 ex4 => ?_)
  exact by
   have tx4 : x4.toInt = x1.toInt - 1 := (jsub ex4 rfl jz_1 (by omega) (by omega)).trans (by omega)
   exact hret x4 σ τ _ _ _ _ rfl ⟨⟨rfl, rfl⟩, (by have h9 := tx4; have w := congrArg Int32.toInt (show x1 = jLa a1 from by rw [ex1]; rfl); omega), trivial⟩ hP hS dX0_last_6
set_option maxHeartbeats 4000000 in
set_option maxRecDepth 100000 in
theorem c_X0_steps (l : Launch) (D : va_G) (cI cL : ClassId) (ad zz : Nat → Nat) (hJ : jD ad) (σ : Nat → Nat → Int32) (τ : Nat → Nat → Int64) (a1 : Int32) (A1 : Int) (t1 : a1.toInt = A1) (a2 : Int32) (A2 : Int) (t2 : a2.toInt = A2) : jM l yX0_steps cX0_steps 2 (some .int) ({ frames := 0, cells := 0, slots := 0, locals := 0 }) D cI cL ad zz [.int a1, .int a2] σ τ (fun r σ' τ' => (σ = σ' ∧ τ = τ') ∧ (r = jSt a1 a2) ∧ ((True ∧ (0 ≤ r.toInt ∧ r.toInt ≤ 3)))) := by
  refine jM.of hJ (by decide +kernel) (nt := .int) rfl (Nat.le_of_ble_eq_true rfl) ?_
  intro p e s m args below meth c Q ls hC hret hl hP
  obtain ⟨hx, hb, hr, hml, hown, hts, hK, -, hlocks, hZ⟩ := hC
  have hown : s.vm.findClass RX0 = some m.cls := hown
  have hS : va_S (jA ad) s.heap s.heap [] := va_S.rf
  have hA : ∀ q, jA ad q → jA ad q := fun _ h => h
  have hl : lv_has ls 2 [(0, .int a1), (1, .int a2)] := hl
  have g1 := jrg t1
  have g2 := jrg t2
  refine lv_iload_n hx hb dX0_steps_0 rfl (lv_at hl 0 rfl) ?_
  refine lv_iconst (v := 3) hx hb dX0_steps_1 (of_decide_eq_true rfl) ?_
  refine lv_iconst (v := 2) hx hb dX0_steps_2 (of_decide_eq_true rfl) ?_
  refine lv_iload_n hx hb dX0_steps_3 rfl (lv_at hl 1 rfl) ?_
  refine lv_imul hx hb dX0_steps_4 ?_
  refine lv_topi (fun x1 ex1 => ?_)
  have gx1 := jrg (rfl : x1.toInt = x1.toInt)
  have g2 := jrg (rfl : x1.toInt = x1.toInt)
  refine lv_iadd hx hb dX0_steps_5 ?_
  refine lv_topi (fun x3 ex3 => ?_)
  have gx3 := jrg (rfl : x3.toInt = x3.toInt)
  refine lv_ishr hx hb dX0_steps_6 ?_
  refine lv_topi (fun x4 ex4 => ?_)
  have gx4 := jrg (rfl : x4.toInt = x4.toInt)
  refine lv_iconst (v := 3) hx hb dX0_steps_7 (of_decide_eq_true rfl) ?_
  refine lv_iand hx hb dX0_steps_8 ?_
  refine lv_topi (fun x5 ex5 => ?_)
  have gx5 := jrg (rfl : x5.toInt = x5.toInt)
  have g6 : 0 ≤ x5.toInt ∧ x5.toInt ≤ 3 := jmask ex5 2 (of_decide_eq_true rfl) (of_decide_eq_true rfl)
  exact by exact hret x5 σ τ _ _ _ _ rfl ⟨⟨rfl, rfl⟩, (by rw [ex5, ex4, ex3, ex1]; rfl), ⟨trivial, (by omega)⟩⟩ hP hS dX0_steps_9
set_option maxHeartbeats 4000000 in
set_option maxRecDepth 100000 in
theorem c_X0_left (l : Launch) (D : va_G) (cI cL : ClassId) (ad zz : Nat → Nat) (hJ : jD ad) (σ : Nat → Nat → Int32) (τ : Nat → Nat → Int64) (a1 : Int32) (A1 : Int) (t1 : a1.toInt = A1) (a2 : Int32) (A2 : Int) (t2 : a2.toInt = A2) : jM l yX0_left cX0_left 2 (some .int) ({ frames := 0, cells := 0, slots := 0, locals := 0 }) D cI cL ad zz [.int a1, .int a2] σ τ (fun r σ' τ' => (σ = σ' ∧ τ = τ') ∧ (r = jLf a1 a2) ∧ ((True ∧ (0 ≤ r.toInt ∧ r.toInt ≤ 15)))) := by
  refine jM.of hJ (by decide +kernel) (nt := .int) rfl (Nat.le_of_ble_eq_true rfl) ?_
  intro p e s m args below meth c Q ls hC hret hl hP
  obtain ⟨hx, hb, hr, hml, hown, hts, hK, -, hlocks, hZ⟩ := hC
  have hown : s.vm.findClass RX0 = some m.cls := hown
  have hS : va_S (jA ad) s.heap s.heap [] := va_S.rf
  have hA : ∀ q, jA ad q → jA ad q := fun _ h => h
  have hl : lv_has ls 2 [(0, .int a1), (1, .int a2)] := hl
  have g1 := jrg t1
  have g2 := jrg t2
  refine lv_iload_n hx hb dX0_left_0 rfl (lv_at hl 0 rfl) ?_
  refine lv_bipush (v := 11) hx hb dX0_left_1 (of_decide_eq_true rfl) ?_
  refine lv_iconst (v := 4) hx hb dX0_left_3 (of_decide_eq_true rfl) ?_
  refine lv_iload_n hx hb dX0_left_4 rfl (lv_at hl 1 rfl) ?_
  refine lv_imul hx hb dX0_left_5 ?_
  refine lv_topi (fun x1 ex1 => ?_)
  have gx1 := jrg (rfl : x1.toInt = x1.toInt)
  have g2 := jrg (rfl : x1.toInt = x1.toInt)
  refine lv_iadd hx hb dX0_left_6 ?_
  refine lv_topi (fun x3 ex3 => ?_)
  have gx3 := jrg (rfl : x3.toInt = x3.toInt)
  refine lv_ishr hx hb dX0_left_7 ?_
  refine lv_topi (fun x4 ex4 => ?_)
  have gx4 := jrg (rfl : x4.toInt = x4.toInt)
  refine lv_bipush (v := 15) hx hb dX0_left_8 (of_decide_eq_true rfl) ?_
  refine lv_iand hx hb dX0_left_10 ?_
  refine lv_topi (fun x5 ex5 => ?_)
  have gx5 := jrg (rfl : x5.toInt = x5.toInt)
  have g6 : 0 ≤ x5.toInt ∧ x5.toInt ≤ 15 := jmask ex5 4 (of_decide_eq_true rfl) (of_decide_eq_true rfl)
  exact by exact hret x5 σ τ _ _ _ _ rfl ⟨⟨rfl, rfl⟩, (by rw [ex5, ex4, ex3, ex1]; rfl), ⟨trivial, (by omega)⟩⟩ hP hS dX0_left_11
set_option maxHeartbeats 4000000 in
set_option maxRecDepth 100000 in
theorem c_X0_withSteps_r (l : Launch) (D : va_G) (cI cL : ClassId) (ad zz : Nat → Nat) (hJ : jD ad) (σ : Nat → Nat → Int32) (τ : Nat → Nat → Int64) (a1 : Int32) (A1 : Int) (t1 : a1.toInt = A1) (a2 : Int32) (A2 : Int) (t2 : a2.toInt = A2) (a3 : Int32) (A3 : Int) (t3 : a3.toInt = A3) (hp0 : 0 ≤ A1 ∧ A1 ≤ 134217727) (hp1 : 0 ≤ A2 ∧ A2 ≤ 3) : jM l yX0_withSteps cX0_withSteps 4 (some .int) ({ frames := 0, cells := 0, slots := 0, locals := 0 }) D cI cL ad zz [.int a1, .int a2, .int a3] σ τ (fun r σ' τ' => (σ = σ' ∧ τ = τ') ∧ (r = jWs a1 a2 a3) ∧ ((True ∧ (0 ≤ r.toInt ∧ r.toInt ≤ 134217727)))) := by
  refine jM.of hJ (by decide +kernel) (nt := .int) rfl (Nat.le_of_ble_eq_true rfl) ?_
  intro p e s m args below meth c Q ls hC hret hl hP
  obtain ⟨hx, hb, hr, hml, hown, hts, hK, -, hlocks, hZ⟩ := hC
  have hown : s.vm.findClass RX0 = some m.cls := hown
  have hS : va_S (jA ad) s.heap s.heap [] := va_S.rf
  have hA : ∀ q, jA ad q → jA ad q := fun _ h => h
  have hl : lv_has ls 4 [(0, .int a1), (1, .int a2), (2, .int a3)] := hl
  have g1 := jrg t1
  have g2 := jrg t2
  have g3 := jrg t3
  refine lv_iconst (v := 3) hx hb dX0_withSteps_0 (of_decide_eq_true rfl) ?_
  refine lv_iconst (v := 2) hx hb dX0_withSteps_1 (of_decide_eq_true rfl) ?_
  refine lv_iload_n hx hb dX0_withSteps_2 rfl (lv_at hl 1 rfl) ?_
  refine lv_imul hx hb dX0_withSteps_3 ?_
  refine lv_topi (fun x1 ex1 => ?_)
  exact by
   have tx1 : x1.toInt = 2 * A2 := (jmul ex1 jz_2 t2 (by omega) (by omega)).trans (by omega)
   refine lv_iadd hx hb dX0_withSteps_4 ?_
   refine lv_topi (fun x2 ex2 => ?_)
   have tx2 : x2.toInt = 2 * A2 + 3 := (jadd ex2 jz_3 tx1 (by omega) (by omega)).trans (by omega)
   refine lv_istore_n (lv' := [(3, .int x2), (0, .int a1), (1, .int a2), (2, .int a3)]) hx hb dX0_withSteps_5 rfl hl (of_decide_eq_true rfl) rfl (fun ls hl => ?_)
   refine lv_iload_n hx hb dX0_withSteps_6 rfl (lv_at hl 1 rfl) ?_
   refine lv_iconst (v := 3) hx hb dX0_withSteps_7 (of_decide_eq_true rfl) ?_
   refine lv_iload_n hx hb dX0_withSteps_8 rfl (lv_at hl 0 rfl) ?_
   refine lv_ishl hx hb dX0_withSteps_9 ?_
   exact by
    refine lv_topi (fun x3 ex3 => ?_)
    have gx3 := jrg (rfl : x3.toInt = x3.toInt)
    refine lv_iconst (v := (-1)) hx hb dX0_withSteps_10 (of_decide_eq_true rfl) ?_
    refine lv_ixor hx hb dX0_withSteps_11 ?_
    refine lv_topi (fun x4 ex4 => ?_)
    have gx4 := jrg (rfl : x4.toInt = x4.toInt)
    refine lv_iand hx hb dX0_withSteps_12 ?_
    refine lv_topi (fun x5 ex5 => ?_)
    have gx5 := jrg (rfl : x5.toInt = x5.toInt)
    refine lv_iload_n hx hb dX0_withSteps_13 rfl (lv_at hl 3 rfl) ?_
    refine lv_iconst (v := 3) hx hb dX0_withSteps_14 (of_decide_eq_true rfl) ?_
    refine lv_iand hx hb dX0_withSteps_15 ?_
    refine lv_topi (fun x6 ex6 => ?_)
    have gx6 := jrg (rfl : x6.toInt = x6.toInt)
    have g7 : 0 ≤ x6.toInt ∧ x6.toInt ≤ 3 := jmask ex6 2 (of_decide_eq_true rfl) (of_decide_eq_true rfl)
    refine lv_iload_n hx hb dX0_withSteps_16 rfl (lv_at hl 0 rfl) ?_
    refine lv_ishl hx hb dX0_withSteps_17 ?_
    refine lv_topi (fun x8 ex8 => ?_)
    have gx8 := jrg (rfl : x8.toInt = x8.toInt)
    refine lv_ior hx hb dX0_withSteps_18 ?_
    refine lv_topi (fun x9 ex9 => ?_)
    have gx9 := jrg (rfl : x9.toInt = x9.toInt)
    have h10 : x9 = jWs a1 a2 a3 := by rw [ex9, ex8, ex6, ex5, ex4, ex3, ex2, ex1]; rfl
    exact by
     have t11 : jT27 x9 := by rw [h10]; exact jT27_Ws ⟨by omega, by omega⟩ (by omega) (by omega)
     have k12 := t11.1
     have k13 := t11.2
     exact by exact hret x9 σ τ _ _ _ _ rfl ⟨⟨rfl, rfl⟩, (by rw [ex9, ex8, ex6, ex5, ex4, ex3, ex2, ex1]; rfl), ⟨trivial, (by omega)⟩⟩ hP hS dX0_withSteps_19
set_option maxHeartbeats 4000000 in
set_option maxRecDepth 100000 in
theorem c_X0_withSteps (l : Launch) (D : va_G) (cI cL : ClassId) (ad zz : Nat → Nat) (hJ : jD ad) (σ : Nat → Nat → Int32) (τ : Nat → Nat → Int64) (a1 : Int32) (A1 : Int) (t1 : a1.toInt = A1) (a2 : Int32) (A2 : Int) (t2 : a2.toInt = A2) (a3 : Int32) (A3 : Int) (t3 : a3.toInt = A3) : jM l yX0_withSteps cX0_withSteps 4 (some .int) ({ frames := 0, cells := 0, slots := 0, locals := 0 }) D cI cL ad zz [.int a1, .int a2, .int a3] σ τ (fun r σ' τ' => (σ = σ' ∧ τ = τ') ∧ (r = jWs a1 a2 a3) ∧ True) := by
  refine jM.of hJ (by decide +kernel) (nt := .int) rfl (Nat.le_of_ble_eq_true rfl) ?_
  intro p e s m args below meth c Q ls hC hret hl hP
  obtain ⟨hx, hb, hr, hml, hown, hts, hK, -, hlocks, hZ⟩ := hC
  have hown : s.vm.findClass RX0 = some m.cls := hown
  have hS : va_S (jA ad) s.heap s.heap [] := va_S.rf
  have hA : ∀ q, jA ad q → jA ad q := fun _ h => h
  have hl : lv_has ls 4 [(0, .int a1), (1, .int a2), (2, .int a3)] := hl
  have g1 := jrg t1
  have g2 := jrg t2
  have g3 := jrg t3
  refine lv_iconst (v := 3) hx hb dX0_withSteps_0 (of_decide_eq_true rfl) ?_
  refine lv_iconst (v := 2) hx hb dX0_withSteps_1 (of_decide_eq_true rfl) ?_
  refine lv_iload_n hx hb dX0_withSteps_2 rfl (lv_at hl 1 rfl) ?_
  refine lv_imul hx hb dX0_withSteps_3 ?_
  refine lv_topi (fun x1 ex1 => ?_)
  have gx1 := jrg (rfl : x1.toInt = x1.toInt)
  have g2 := jrg (rfl : x1.toInt = x1.toInt)
  refine lv_iadd hx hb dX0_withSteps_4 ?_
  refine lv_topi (fun x3 ex3 => ?_)
  have gx3 := jrg (rfl : x3.toInt = x3.toInt)
  refine lv_istore_n (lv' := [(3, .int x3), (0, .int a1), (1, .int a2), (2, .int a3)]) hx hb dX0_withSteps_5 rfl hl (of_decide_eq_true rfl) rfl (fun ls hl => ?_)
  refine lv_iload_n hx hb dX0_withSteps_6 rfl (lv_at hl 1 rfl) ?_
  refine lv_iconst (v := 3) hx hb dX0_withSteps_7 (of_decide_eq_true rfl) ?_
  refine lv_iload_n hx hb dX0_withSteps_8 rfl (lv_at hl 0 rfl) ?_
  refine lv_ishl hx hb dX0_withSteps_9 ?_
  refine lv_topi (fun x4 ex4 => ?_)
  have gx4 := jrg (rfl : x4.toInt = x4.toInt)
  refine lv_iconst (v := (-1)) hx hb dX0_withSteps_10 (of_decide_eq_true rfl) ?_
  refine lv_ixor hx hb dX0_withSteps_11 ?_
  refine lv_topi (fun x5 ex5 => ?_)
  have gx5 := jrg (rfl : x5.toInt = x5.toInt)
  refine lv_iand hx hb dX0_withSteps_12 ?_
  refine lv_topi (fun x6 ex6 => ?_)
  have gx6 := jrg (rfl : x6.toInt = x6.toInt)
  refine lv_iload_n hx hb dX0_withSteps_13 rfl (lv_at hl 3 rfl) ?_
  refine lv_iconst (v := 3) hx hb dX0_withSteps_14 (of_decide_eq_true rfl) ?_
  refine lv_iand hx hb dX0_withSteps_15 ?_
  refine lv_topi (fun x7 ex7 => ?_)
  have gx7 := jrg (rfl : x7.toInt = x7.toInt)
  have g8 : 0 ≤ x7.toInt ∧ x7.toInt ≤ 3 := jmask ex7 2 (of_decide_eq_true rfl) (of_decide_eq_true rfl)
  refine lv_iload_n hx hb dX0_withSteps_16 rfl (lv_at hl 0 rfl) ?_
  refine lv_ishl hx hb dX0_withSteps_17 ?_
  refine lv_topi (fun x9 ex9 => ?_)
  have gx9 := jrg (rfl : x9.toInt = x9.toInt)
  refine lv_ior hx hb dX0_withSteps_18 ?_
  refine lv_topi (fun x10 ex10 => ?_)
  have gx10 := jrg (rfl : x10.toInt = x10.toInt)
  exact hret x10 σ τ _ _ _ _ rfl ⟨⟨rfl, rfl⟩, (by rw [ex10, ex9, ex7, ex6, ex5, ex4, ex3, ex1]; rfl), trivial⟩ hP hS dX0_withSteps_19
set_option maxHeartbeats 4000000 in
set_option maxRecDepth 100000 in
theorem c_X0_withLeft_r (l : Launch) (D : va_G) (cI cL : ClassId) (ad zz : Nat → Nat) (hJ : jD ad) (σ : Nat → Nat → Int32) (τ : Nat → Nat → Int64) (a1 : Int32) (A1 : Int) (t1 : a1.toInt = A1) (a2 : Int32) (A2 : Int) (t2 : a2.toInt = A2) (a3 : Int32) (A3 : Int) (t3 : a3.toInt = A3) (hp0 : 0 ≤ A1 ∧ A1 ≤ 134217727) (hp1 : 0 ≤ A2 ∧ A2 ≤ 3) : jM l yX0_withLeft cX0_withLeft 4 (some .int) ({ frames := 0, cells := 0, slots := 0, locals := 0 }) D cI cL ad zz [.int a1, .int a2, .int a3] σ τ (fun r σ' τ' => (σ = σ' ∧ τ = τ') ∧ (r = jWl a1 a2 a3) ∧ ((True ∧ (0 ≤ r.toInt ∧ r.toInt ≤ 134217727)))) := by
  refine jM.of hJ (by decide +kernel) (nt := .int) rfl (Nat.le_of_ble_eq_true rfl) ?_
  intro p e s m args below meth c Q ls hC hret hl hP
  obtain ⟨hx, hb, hr, hml, hown, hts, hK, -, hlocks, hZ⟩ := hC
  have hown : s.vm.findClass RX0 = some m.cls := hown
  have hS : va_S (jA ad) s.heap s.heap [] := va_S.rf
  have hA : ∀ q, jA ad q → jA ad q := fun _ h => h
  have hl : lv_has ls 4 [(0, .int a1), (1, .int a2), (2, .int a3)] := hl
  have g1 := jrg t1
  have g2 := jrg t2
  have g3 := jrg t3
  refine lv_bipush (v := 11) hx hb dX0_withLeft_0 (of_decide_eq_true rfl) ?_
  refine lv_iconst (v := 4) hx hb dX0_withLeft_2 (of_decide_eq_true rfl) ?_
  refine lv_iload_n hx hb dX0_withLeft_3 rfl (lv_at hl 1 rfl) ?_
  refine lv_imul hx hb dX0_withLeft_4 ?_
  refine lv_topi (fun x1 ex1 => ?_)
  exact by
   have tx1 : x1.toInt = 4 * A2 := (jmul ex1 jz_4 t2 (by omega) (by omega)).trans (by omega)
   refine lv_iadd hx hb dX0_withLeft_5 ?_
   refine lv_topi (fun x2 ex2 => ?_)
   have tx2 : x2.toInt = 4 * A2 + 11 := (jadd ex2 jz_11 tx1 (by omega) (by omega)).trans (by omega)
   refine lv_istore_n (lv' := [(3, .int x2), (0, .int a1), (1, .int a2), (2, .int a3)]) hx hb dX0_withLeft_6 rfl hl (of_decide_eq_true rfl) rfl (fun ls hl => ?_)
   refine lv_iload_n hx hb dX0_withLeft_7 rfl (lv_at hl 1 rfl) ?_
   refine lv_bipush (v := 15) hx hb dX0_withLeft_8 (of_decide_eq_true rfl) ?_
   refine lv_iload_n hx hb dX0_withLeft_10 rfl (lv_at hl 0 rfl) ?_
   refine lv_ishl hx hb dX0_withLeft_11 ?_
   exact by
    refine lv_topi (fun x3 ex3 => ?_)
    have gx3 := jrg (rfl : x3.toInt = x3.toInt)
    refine lv_iconst (v := (-1)) hx hb dX0_withLeft_12 (of_decide_eq_true rfl) ?_
    refine lv_ixor hx hb dX0_withLeft_13 ?_
    refine lv_topi (fun x4 ex4 => ?_)
    have gx4 := jrg (rfl : x4.toInt = x4.toInt)
    refine lv_iand hx hb dX0_withLeft_14 ?_
    refine lv_topi (fun x5 ex5 => ?_)
    have gx5 := jrg (rfl : x5.toInt = x5.toInt)
    refine lv_iload_n hx hb dX0_withLeft_15 rfl (lv_at hl 3 rfl) ?_
    refine lv_bipush (v := 15) hx hb dX0_withLeft_16 (of_decide_eq_true rfl) ?_
    refine lv_iand hx hb dX0_withLeft_18 ?_
    refine lv_topi (fun x6 ex6 => ?_)
    have gx6 := jrg (rfl : x6.toInt = x6.toInt)
    have g7 : 0 ≤ x6.toInt ∧ x6.toInt ≤ 15 := jmask ex6 4 (of_decide_eq_true rfl) (of_decide_eq_true rfl)
    refine lv_iload_n hx hb dX0_withLeft_19 rfl (lv_at hl 0 rfl) ?_
    refine lv_ishl hx hb dX0_withLeft_20 ?_
    refine lv_topi (fun x8 ex8 => ?_)
    have gx8 := jrg (rfl : x8.toInt = x8.toInt)
    refine lv_ior hx hb dX0_withLeft_21 ?_
    refine lv_topi (fun x9 ex9 => ?_)
    have gx9 := jrg (rfl : x9.toInt = x9.toInt)
    have h10 : x9 = jWl a1 a2 a3 := by rw [ex9, ex8, ex6, ex5, ex4, ex3, ex2, ex1]; rfl
    exact by
     have t11 : jT27 x9 := by rw [h10]; exact jT27_Wl ⟨by omega, by omega⟩ (by omega) (by omega)
     have k12 := t11.1
     have k13 := t11.2
     exact by exact hret x9 σ τ _ _ _ _ rfl ⟨⟨rfl, rfl⟩, (by rw [ex9, ex8, ex6, ex5, ex4, ex3, ex2, ex1]; rfl), ⟨trivial, (by omega)⟩⟩ hP hS dX0_withLeft_22
set_option maxHeartbeats 4000000 in
set_option maxRecDepth 100000 in
theorem c_X0_withLeft (l : Launch) (D : va_G) (cI cL : ClassId) (ad zz : Nat → Nat) (hJ : jD ad) (σ : Nat → Nat → Int32) (τ : Nat → Nat → Int64) (a1 : Int32) (A1 : Int) (t1 : a1.toInt = A1) (a2 : Int32) (A2 : Int) (t2 : a2.toInt = A2) (a3 : Int32) (A3 : Int) (t3 : a3.toInt = A3) : jM l yX0_withLeft cX0_withLeft 4 (some .int) ({ frames := 0, cells := 0, slots := 0, locals := 0 }) D cI cL ad zz [.int a1, .int a2, .int a3] σ τ (fun r σ' τ' => (σ = σ' ∧ τ = τ') ∧ (r = jWl a1 a2 a3) ∧ True) := by
  refine jM.of hJ (by decide +kernel) (nt := .int) rfl (Nat.le_of_ble_eq_true rfl) ?_
  intro p e s m args below meth c Q ls hC hret hl hP
  obtain ⟨hx, hb, hr, hml, hown, hts, hK, -, hlocks, hZ⟩ := hC
  have hown : s.vm.findClass RX0 = some m.cls := hown
  have hS : va_S (jA ad) s.heap s.heap [] := va_S.rf
  have hA : ∀ q, jA ad q → jA ad q := fun _ h => h
  have hl : lv_has ls 4 [(0, .int a1), (1, .int a2), (2, .int a3)] := hl
  have g1 := jrg t1
  have g2 := jrg t2
  have g3 := jrg t3
  refine lv_bipush (v := 11) hx hb dX0_withLeft_0 (of_decide_eq_true rfl) ?_
  refine lv_iconst (v := 4) hx hb dX0_withLeft_2 (of_decide_eq_true rfl) ?_
  refine lv_iload_n hx hb dX0_withLeft_3 rfl (lv_at hl 1 rfl) ?_
  refine lv_imul hx hb dX0_withLeft_4 ?_
  refine lv_topi (fun x1 ex1 => ?_)
  have gx1 := jrg (rfl : x1.toInt = x1.toInt)
  have g2 := jrg (rfl : x1.toInt = x1.toInt)
  refine lv_iadd hx hb dX0_withLeft_5 ?_
  refine lv_topi (fun x3 ex3 => ?_)
  have gx3 := jrg (rfl : x3.toInt = x3.toInt)
  refine lv_istore_n (lv' := [(3, .int x3), (0, .int a1), (1, .int a2), (2, .int a3)]) hx hb dX0_withLeft_6 rfl hl (of_decide_eq_true rfl) rfl (fun ls hl => ?_)
  refine lv_iload_n hx hb dX0_withLeft_7 rfl (lv_at hl 1 rfl) ?_
  refine lv_bipush (v := 15) hx hb dX0_withLeft_8 (of_decide_eq_true rfl) ?_
  refine lv_iload_n hx hb dX0_withLeft_10 rfl (lv_at hl 0 rfl) ?_
  refine lv_ishl hx hb dX0_withLeft_11 ?_
  refine lv_topi (fun x4 ex4 => ?_)
  have gx4 := jrg (rfl : x4.toInt = x4.toInt)
  refine lv_iconst (v := (-1)) hx hb dX0_withLeft_12 (of_decide_eq_true rfl) ?_
  refine lv_ixor hx hb dX0_withLeft_13 ?_
  refine lv_topi (fun x5 ex5 => ?_)
  have gx5 := jrg (rfl : x5.toInt = x5.toInt)
  refine lv_iand hx hb dX0_withLeft_14 ?_
  refine lv_topi (fun x6 ex6 => ?_)
  have gx6 := jrg (rfl : x6.toInt = x6.toInt)
  refine lv_iload_n hx hb dX0_withLeft_15 rfl (lv_at hl 3 rfl) ?_
  refine lv_bipush (v := 15) hx hb dX0_withLeft_16 (of_decide_eq_true rfl) ?_
  refine lv_iand hx hb dX0_withLeft_18 ?_
  refine lv_topi (fun x7 ex7 => ?_)
  have gx7 := jrg (rfl : x7.toInt = x7.toInt)
  have g8 : 0 ≤ x7.toInt ∧ x7.toInt ≤ 15 := jmask ex7 4 (of_decide_eq_true rfl) (of_decide_eq_true rfl)
  refine lv_iload_n hx hb dX0_withLeft_19 rfl (lv_at hl 0 rfl) ?_
  refine lv_ishl hx hb dX0_withLeft_20 ?_
  refine lv_topi (fun x9 ex9 => ?_)
  have gx9 := jrg (rfl : x9.toInt = x9.toInt)
  refine lv_ior hx hb dX0_withLeft_21 ?_
  refine lv_topi (fun x10 ex10 => ?_)
  have gx10 := jrg (rfl : x10.toInt = x10.toInt)
  exact hret x10 σ τ _ _ _ _ rfl ⟨⟨rfl, rfl⟩, (by rw [ex10, ex9, ex7, ex6, ex5, ex4, ex3, ex1]; rfl), trivial⟩ hP hS dX0_withLeft_22
set_option maxHeartbeats 4000000 in
set_option maxRecDepth 100000 in
theorem c_X4_freshAttack_2 (l : Launch) (D : va_G) (cI cL : ClassId) (ad zz : Nat → Nat) (hJ : jD ad) (σ : Nat → Nat → Int32) (τ : Nat → Nat → Int64) (hI2 : jI2 σ) : jM l yX4_freshAttack cX4_freshAttack 3 (some .int) ({ frames := 2, cells := 0, slots := 0, locals := 42 }) D cI cL ad zz [.ref (ad 2)] σ τ (fun r σ' τ' => (σ = σ' ∧ τ = τ') ∧ ((jOk (σ 3) → jAz (σ 3) ((σ 2 0).toInt) r)) ∧ ((∀ c : Nat, c < 4 → jst r c = 0)) ∧ ((True ∧ (0 ≤ r.toInt ∧ r.toInt ≤ 134217727)))) := by
  refine jM.of hJ (by decide +kernel) (nt := .int) rfl (Nat.le_of_ble_eq_true rfl) ?_
  intro p e s m args below meth c Q ls hC hret hl hP
  obtain ⟨hx, hb, hr, hml, hown, hts, hK, -, hlocks, hZ⟩ := hC
  have hown : s.vm.findClass RX4 = some m.cls := hown
  have hS : va_S (jA ad) s.heap s.heap [] := va_S.rf
  have hA : ∀ q, jA ad q → jA ad q := fun _ h => h
  have hl : lv_has ls 3 [(0, .ref (ad 2))] := hl
  obtain ⟨i1, i2, i3, i4, i5, w6, w7⟩ : (0 ≤ (σ 2 0).toInt ∧ (σ 2 0).toInt ≤ 4) ∧ (0 ≤ (σ 2 1).toInt ∧ (σ 2 1).toInt ≤ 3) ∧ (0 ≤ (σ 2 2).toInt) ∧ (0 ≤ (σ 2 3).toInt) ∧ ((σ 2 2).toInt + (σ 2 3).toInt ≤ 40) ∧ (∀ k : Nat, k < 40 → 0 ≤ (σ 6 k).toInt ∧ (σ 6 k).toInt ≤ 67) ∧ (∀ k : Nat, k < 4 → 0 ≤ (σ 5 k).toInt ∧ (σ 5 k).toInt ≤ 20) := id hI2
  refine lv_iconst (v := 0) hx hb dX4_freshAttack_0 (of_decide_eq_true rfl) ?_
  refine lv_istore_n (lv' := [(1, .int 0), (0, .ref (ad 2))]) hx hb dX4_freshAttack_1 rfl hl (of_decide_eq_true rfl) rfl (fun ls hl => ?_)
  refine lv_iconst (v := 0) hx hb dX4_freshAttack_2 (of_decide_eq_true rfl) ?_
  refine lv_istore_n (lv' := [(2, .int 0), (1, .int 0), (0, .ref (ad 2))]) hx hb dX4_freshAttack_3 rfl hl (of_decide_eq_true rfl) rfl (fun ls hl => ?_)
  have lp8 : ∀ (n9 : Nat) (x10 : Int32) (x11 : Int32) (H : Heap) (locs : List Loc) (ls : Array Slot), (-x11.toInt + 4 : Int) < n9 → 0 ≤ x10.toInt → x10.toInt ≤ 134217727 → 0 ≤ x11.toInt → x11.toInt ≤ 4 → x11.toInt ≤ (σ 2 0).toInt → ((jOk (σ 3) → jAz (σ 3) (x11.toInt) x10)) → ((∀ c : Nat, c < 4 → jst x10 c = 0)) → jH D cI cL ad σ τ H → va_S (jA ad) s.heap H locs → lv_has ls 3 [(2, .int x11), (1, .int x10), (0, .ref (ad 2))] → W p l e ({ frames := 2, cells := 0, slots := 0, locals := 42 }) s m args below meth c H locs 0 0 Q (F0 m 4 ls []) := by
    intro n9
    induction n9 with
    | zero => intro x10 x11 H locs ls h13 h14 h15 h16 h17 h18; exact absurd h13 (by omega)
    | succ n9 ihlp8 =>
      intro x10 x11 H locs ls h13 h14 h15 h16 h17 h18 q20 q21 hP hS hl
      exact by
       refine lv_iload_n hx hb dX4_freshAttack_4 rfl (lv_at hl 0 rfl) ?_
       refine lv_aload_n hx hb dX4_freshAttack_5 rfl (lv_at hl 2 rfl) ?_
       refine va_get (D := D) hx hb hts inlX4 hown hK hP 2 (jc_2 cI cL ad σ τ) rfl 0 (of_decide_eq_true rfl) (hts _ kw_9_5) (fun _ h9 => h9) rfl dX4_freshAttack_6 ?_
       refine lv_icmp_ge (tgt := 29) hx hb dX4_freshAttack_9 (of_decide_eq_true rfl) (fun c22 => ?_) (fun c22 => ?_)
       · have kc22 := jle c22 rfl rfl
         refine lv_iload_n hx hb dX4_freshAttack_29 rfl (lv_at hl 1 rfl) ?_
         exact hret x10 σ τ _ _ _ _ rfl ⟨⟨rfl, rfl⟩, (fun ok => by rw [show (σ 2 0).toInt = x11.toInt by omega]; exact q20 ok), q21, ⟨trivial, (by omega)⟩⟩ hP hS dX4_freshAttack_30
       · have kc22 := jnle c22 rfl rfl
         refine lv_iload_n hx hb dX4_freshAttack_12 rfl (lv_at hl 1 rfl) ?_
         refine lv_iload_n hx hb dX4_freshAttack_13 rfl (lv_at hl 0 rfl) ?_
         refine lv_aload_n hx hb dX4_freshAttack_14 rfl (lv_at hl 2 rfl) ?_
         refine lv_iload_n hx hb dX4_freshAttack_15 rfl (lv_at hl 0 rfl) ?_
         exact by
          refine jcallV (As := [.int x11]) (rest := [.int x11, .int x10]) ⟨hx, hb, hml, hown, hts⟩ hK hP hA hS hZ (c_X4_oversOf_p l D cI cL ad zz hJ σ τ x11 (x11.toInt) rfl (by omega)) cw_RX4_38 (jc_2 cI cL ad σ τ) rfl ⟨Nat.le_of_ble_eq_true rfl, Nat.le_of_ble_eq_true rfl⟩ rfl rfl rfl hl.1 rfl (Nat.le_of_ble_eq_true rfl) dX4_freshAttack_16 ⟨Nat.zero_le _, Nat.zero_le _⟩ (fun r24 σ23 τ23 H locs h23 hP hS => ?_)
          obtain ⟨⟨rfl, rfl⟩, w25, h23⟩ := h23
          refine jcallS (As := [.int x10, .int x11, .int r24]) (rest := []) ⟨hx, hb, hml, hown, hts⟩ hK hP hA hS hZ (c_X0_withLeft_r l D cI cL ad zz hJ σ τ x10 (x10.toInt) rfl x11 (x11.toInt) rfl r24 (r24.toInt) rfl (by omega) (by omega)) cw_RX4_41 ⟨Nat.le_of_ble_eq_true rfl, Nat.le_of_ble_eq_true rfl⟩ rfl rfl rfl hl.1 rfl (Nat.le_of_ble_eq_true rfl) dX4_freshAttack_19 ⟨Nat.zero_le _, Nat.zero_le _⟩ (fun r27 σ26 τ26 H locs h26 hP hS => ?_)
          obtain ⟨⟨rfl, rfl⟩, w28, h26⟩ := h26
          have k29 := congrArg Int32.toInt w28
          have h30 := h26
          obtain ⟨q32, k31⟩ := h30
          refine lv_istore_n (lv' := [(1, .int r27), (2, .int x11), (0, .ref (ad 2))]) hx hb dX4_freshAttack_22 rfl hl (of_decide_eq_true rfl) rfl (fun ls hl => ?_)
          obtain ⟨x33, ex33⟩ : ∃ y : Int32, y = x11 + 1 := ⟨_, rfl⟩
          exact by
           have tx33 : x33.toInt = x11.toInt + 1 := (jadd ex33 rfl jz_1 (by omega) (by omega)).trans (by omega)
           refine lv_iinc (v := x33) (lv' := [(2, .int x33), (1, .int r27), (0, .ref (ad 2))]) hx hb dX4_freshAttack_23 hl (k := 1) rfl (by rw [ex33]; rfl) (of_decide_eq_true rfl) rfl (fun ls hl => ?_)
           refine lv_goto (tgt := 4) hx hb dX4_freshAttack_26 (of_decide_eq_true rfl) ?_
           exact by exact ihlp8 r27 x33 _ _ ls (by have h91 := tx33; omega) (by have h91 := tx33; omega) (by have h91 := tx33; omega) (by have h91 := tx33; omega) (by have h91 := tx33; omega) (by have h91 := tx33; omega)   (fun ok => jAz.step (q20 ok) w28 (rfl : x11.toInt = x11.toInt) (by omega) (by omega) (w25 (by omega)) ok (by have h9 := tx33; omega)) (fun c hc => by rw [w28, jst_Wl (by omega) (by omega) c hc]; exact q21 c hc) hP hS (lv_sub hl [0, 1, 2] rfl)
  exact by exact lp8 1000000 0 0 _ _ ls (by have h90 := jz_0; have h91 := jz_0; omega) (by have h90 := jz_0; have h91 := jz_0; omega) (by have h90 := jz_0; have h91 := jz_0; omega) (by have h90 := jz_0; have h91 := jz_0; omega) (by have h90 := jz_0; have h91 := jz_0; omega) (by have h90 := jz_0; have h91 := jz_0; omega)  (fun _ => jAz.first (by have h9 := jz_0; omega)) (fun c hc => (show ∀ c : Nat, c < 4 → jst 0 c = 0 by decide) c hc) hP hS hl
set_option maxHeartbeats 4000000 in
set_option maxRecDepth 100000 in
theorem c_X0_mayBowl (l : Launch) (D : va_G) (cI cL : ClassId) (ad zz : Nat → Nat) (hJ : jD ad) (σ : Nat → Nat → Int32) (τ : Nat → Nat → Int64) (a1 : Int32) (A1 : Int) (t1 : a1.toInt = A1) (a2 : Int32) (A2 : Int) (t2 : a2.toInt = A2) : jM l yX0_mayBowl cX0_mayBowl 2 (some .boolean) ({ frames := 1, cells := 0, slots := 0, locals := 21 }) D cI cL ad zz [.int a1, .int a2] σ τ (fun r σ' τ' => (σ = σ' ∧ τ = τ') ∧ (((r = 1 ∧ jMb a1 a2) ∨ (r = 0 ∧ ¬ jMb a1 a2))) ∧ ((r = 1 ∧ (0 ≤ A2 ∧ A2 ≤ 3)) ∨ (r = 0 ∧ True))) := by
  refine jM.of hJ (by decide +kernel) (nt := .boolean) rfl (Nat.le_of_ble_eq_true rfl) ?_
  intro p e s m args below meth c Q ls hC hret hl hP
  obtain ⟨hx, hb, hr, hml, hown, hts, hK, -, hlocks, hZ⟩ := hC
  have hown : s.vm.findClass RX0 = some m.cls := hown
  have hS : va_S (jA ad) s.heap s.heap [] := va_S.rf
  have hA : ∀ q, jA ad q → jA ad q := fun _ h => h
  have hl : lv_has ls 2 [(0, .int a1), (1, .int a2)] := hl
  have g1 := jrg t1
  have g2 := jrg t2
  refine lv_iload_n hx hb dX0_mayBowl_0 rfl (lv_at hl 1 rfl) ?_
  refine lv_if_lt (tgt := 29) hx hb dX0_mayBowl_1 (of_decide_eq_true rfl) (fun c1 => ?_) (fun c1 => ?_)
  · have kc1 := jlt c1 t2 jz_0
    refine lv_iconst (v := 0) hx hb dX0_mayBowl_29 (of_decide_eq_true rfl) ?_
    exact hret 0 σ τ _ _ _ _ rfl ⟨⟨rfl, rfl⟩, (Or.inr ⟨rfl, (by unfold jMb; omega)⟩), Or.inr (⟨rfl, trivial⟩)⟩ hP hS dX0_mayBowl_30
  · have kc1 := jnlt c1 t2 jz_0
    refine lv_iload_n hx hb dX0_mayBowl_4 rfl (lv_at hl 1 rfl) ?_
    refine lv_iconst (v := 4) hx hb dX0_mayBowl_5 (of_decide_eq_true rfl) ?_
    refine lv_icmp_ge (tgt := 29) hx hb dX0_mayBowl_6 (of_decide_eq_true rfl) (fun c2 => ?_) (fun c2 => ?_)
    · have kc2 := jle c2 jz_4 t2
      refine lv_iconst (v := 0) hx hb dX0_mayBowl_29 (of_decide_eq_true rfl) ?_
      exact hret 0 σ τ _ _ _ _ rfl ⟨⟨rfl, rfl⟩, (Or.inr ⟨rfl, (by unfold jMb; omega)⟩), Or.inr (⟨rfl, trivial⟩)⟩ hP hS dX0_mayBowl_30
    · have kc2 := jnle c2 jz_4 t2
      refine lv_iload_n hx hb dX0_mayBowl_9 rfl (lv_at hl 0 rfl) ?_
      refine lv_iload_n hx hb dX0_mayBowl_10 rfl (lv_at hl 1 rfl) ?_
      refine jcallS (As := [.int a1, .int a2]) (rest := []) ⟨hx, hb, hml, hown, hts⟩ hK hP hA hS hZ (c_X0_left l D cI cL ad zz hJ σ τ a1 (A1) t1 a2 (A2) t2) cw_RX0_11 ⟨Nat.le_of_ble_eq_true rfl, Nat.le_of_ble_eq_true rfl⟩ rfl rfl rfl hl.1 rfl (Nat.le_of_ble_eq_true rfl) dX0_mayBowl_11 ⟨Nat.zero_le _, Nat.zero_le _⟩ (fun r4 σ3 τ3 H locs h3 hP hS => ?_)
      obtain ⟨⟨rfl, rfl⟩, w5, h3⟩ := h3
      have k6 := congrArg Int32.toInt w5
      have h7 := h3
      obtain ⟨q9, k8⟩ := h7
      refine lv_if_le (tgt := 29) hx hb dX0_mayBowl_14 (of_decide_eq_true rfl) (fun c10 => ?_) (fun c10 => ?_)
      · have kc10 := jle c10 rfl jz_0
        refine lv_iconst (v := 0) hx hb dX0_mayBowl_29 (of_decide_eq_true rfl) ?_
        exact hret 0 σ τ _ _ _ _ rfl ⟨⟨rfl, rfl⟩, (Or.inr ⟨rfl, (by unfold jMb; omega)⟩), Or.inr (⟨rfl, trivial⟩)⟩ hP hS dX0_mayBowl_30
      · have kc10 := jnle c10 rfl jz_0
        refine lv_iload_n hx hb dX0_mayBowl_17 rfl (lv_at hl 0 rfl) ?_
        refine jcallS (As := [.int a1]) (rest := []) ⟨hx, hb, hml, hown, hts⟩ hK hP hA hS hZ (c_X0_last l D cI cL ad zz hJ σ τ a1 (A1) t1) cw_RX0_15 ⟨Nat.le_of_ble_eq_true rfl, Nat.le_of_ble_eq_true rfl⟩ rfl rfl rfl hl.1 rfl (Nat.le_of_ble_eq_true rfl) dX0_mayBowl_18 ⟨Nat.zero_le _, Nat.zero_le _⟩ (fun r12 σ11 τ11 H locs h11 hP hS => ?_)
        obtain ⟨⟨rfl, rfl⟩, w13, h11⟩ := h11
        refine lv_iload_n hx hb dX0_mayBowl_21 rfl (lv_at hl 1 rfl) ?_
        refine lv_icmp_eq (tgt := 29) hx hb dX0_mayBowl_22 (of_decide_eq_true rfl) (fun c14 => ?_) (fun c14 => ?_)
        · have kc14 := jeq c14 rfl t2
          refine lv_iconst (v := 0) hx hb dX0_mayBowl_29 (of_decide_eq_true rfl) ?_
          exact hret 0 σ τ _ _ _ _ rfl ⟨⟨rfl, rfl⟩, (Or.inr ⟨rfl, (by unfold jMb; omega)⟩), Or.inr (⟨rfl, trivial⟩)⟩ hP hS dX0_mayBowl_30
        · have kc14 := jne c14 rfl t2
          refine lv_iconst (v := 1) hx hb dX0_mayBowl_25 (of_decide_eq_true rfl) ?_
          refine lv_goto (tgt := 30) hx hb dX0_mayBowl_26 (of_decide_eq_true rfl) ?_
          exact by exact hret 1 σ τ _ _ _ _ rfl ⟨⟨rfl, rfl⟩, (Or.inl ⟨rfl, (by unfold jMb; omega)⟩), Or.inl ⟨rfl, (by have h9 := jz_1; omega)⟩⟩ hP hS dX0_mayBowl_30
set_option maxHeartbeats 4000000 in
set_option maxRecDepth 100000 in
theorem c_X0_first (l : Launch) (D : va_G) (cI cL : ClassId) (ad zz : Nat → Nat) (hJ : jD ad) (σ : Nat → Nat → Int32) (τ : Nat → Nat → Int64) (a1 : Int32) (A1 : Int) (t1 : a1.toInt = A1) : jM l yX0_first cX0_first 2 (some .int) ({ frames := 2, cells := 0, slots := 0, locals := 42 }) D cI cL ad zz [.int a1] σ τ (fun r σ' τ' => (σ = σ' ∧ τ = τ') ∧ (((∀ b : Int32, jMb a1 b → 0 ≤ r.toInt) ∧ (0 ≤ r.toInt → jMb a1 r))) ∧ ((True ∧ ((-1) ≤ r.toInt ∧ r.toInt ≤ 3)))) := by
  refine jM.of hJ (by decide +kernel) (nt := .int) rfl (Nat.le_of_ble_eq_true rfl) ?_
  intro p e s m args below meth c Q ls hC hret hl hP
  obtain ⟨hx, hb, hr, hml, hown, hts, hK, -, hlocks, hZ⟩ := hC
  have hown : s.vm.findClass RX0 = some m.cls := hown
  have hS : va_S (jA ad) s.heap s.heap [] := va_S.rf
  have hA : ∀ q, jA ad q → jA ad q := fun _ h => h
  have hl : lv_has ls 2 [(0, .int a1)] := hl
  have g1 := jrg t1
  refine lv_iconst (v := 0) hx hb dX0_first_0 (of_decide_eq_true rfl) ?_
  refine lv_istore_n (lv' := [(1, .int 0), (0, .int a1)]) hx hb dX0_first_1 rfl hl (of_decide_eq_true rfl) rfl (fun ls hl => ?_)
  have lp1 : ∀ (n2 : Nat) (x3 : Int32) (H : Heap) (locs : List Loc) (ls : Array Slot), (-x3.toInt + 4 : Int) < n2 → 0 ≤ x3.toInt → x3.toInt ≤ 4 → ((∀ b : Int32, jMb a1 b → x3.toInt ≤ b.toInt)) → jH D cI cL ad σ τ H → va_S (jA ad) s.heap H locs → lv_has ls 2 [(1, .int x3), (0, .int a1)] → W p l e ({ frames := 2, cells := 0, slots := 0, locals := 42 }) s m args below meth c H locs 0 0 Q (F0 m 2 ls []) := by
    intro n2
    induction n2 with
    | zero => intro x3 H locs ls h5 h6 h7; exact absurd h5 (by omega)
    | succ n2 ihlp1 =>
      intro x3 H locs ls h5 h6 h7 q9 hP hS hl
      exact by
       refine lv_iload_n hx hb dX0_first_2 rfl (lv_at hl 0 rfl) ?_
       refine lv_iconst (v := 4) hx hb dX0_first_3 (of_decide_eq_true rfl) ?_
       refine lv_icmp_ge (tgt := 23) hx hb dX0_first_4 (of_decide_eq_true rfl) (fun c10 => ?_) (fun c10 => ?_)
       · have kc10 := jle c10 jz_4 rfl
         refine lv_iconst (v := (-1)) hx hb dX0_first_23 (of_decide_eq_true rfl) ?_
         exact by exact hret (-1) σ τ _ _ _ _ rfl ⟨⟨rfl, rfl⟩, ⟨(fun b hb => absurd (q9 b hb) (by have w := hb.1; omega)), (fun z => absurd z (of_decide_eq_true rfl))⟩, ⟨trivial, (by have h9 := jz_m1; omega)⟩⟩ hP hS dX0_first_24
       · have kc10 := jnle c10 jz_4 rfl
         refine lv_iload_n hx hb dX0_first_7 rfl (lv_at hl 1 rfl) ?_
         refine lv_iload_n hx hb dX0_first_8 rfl (lv_at hl 0 rfl) ?_
         refine jcallS (As := [.int a1, .int x3]) (rest := []) ⟨hx, hb, hml, hown, hts⟩ hK hP hA hS hZ (c_X0_mayBowl l D cI cL ad zz hJ σ τ a1 (A1) t1 x3 (x3.toInt) rfl) cw_RX0_19 ⟨Nat.le_of_ble_eq_true rfl, Nat.le_of_ble_eq_true rfl⟩ rfl rfl rfl hl.1 rfl (Nat.le_of_ble_eq_true rfl) dX0_first_9 ⟨Nat.zero_le _, Nat.zero_le _⟩ (fun r12 σ11 τ11 H locs h11 hP hS => ?_)
         obtain ⟨⟨rfl, rfl⟩, w13, h11⟩ := h11
         rcases h11 with h14 | h15
         · obtain ⟨q17, k16⟩ := h14
           have q17 := q17.symm
           subst q17
           refine lv_if_eq (tgt := 17) hx hb dX0_first_12 (of_decide_eq_true rfl) (fun c => absurd c (of_decide_eq_true rfl)) (fun _ => ?_)
           refine lv_iload_n hx hb dX0_first_15 rfl (lv_at hl 0 rfl) ?_
           exact hret x3 σ τ _ _ _ _ rfl ⟨⟨rfl, rfl⟩, ⟨(fun _ _ => by omega), (fun _ => w13.elim (fun w => w.2) (fun w => absurd w.1 (of_decide_eq_true rfl)))⟩, ⟨trivial, (by omega)⟩⟩ hP hS dX0_first_16
         · obtain ⟨q19, k18⟩ := h15
           have q19 := q19.symm
           subst q19
           refine lv_if_eq (tgt := 17) hx hb dX0_first_12 (of_decide_eq_true rfl) (fun _ => ?_) (fun c => absurd (of_decide_eq_true rfl) c)
           obtain ⟨x20, ex20⟩ : ∃ y : Int32, y = x3 + 1 := ⟨_, rfl⟩
           exact by
            have tx20 : x20.toInt = x3.toInt + 1 := (jadd ex20 rfl jz_1 (by omega) (by omega)).trans (by omega)
            refine lv_iinc (v := x20) (lv' := [(1, .int x20), (0, .int a1)]) hx hb dX0_first_17 hl (k := 0) rfl (by rw [ex20]; rfl) (of_decide_eq_true rfl) rfl (fun ls hl => ?_)
            refine lv_goto (tgt := 2) hx hb dX0_first_20 (of_decide_eq_true rfl) ?_
            exact by exact ihlp1 x20 _ _ ls (by have h90 := tx20; omega) (by have h90 := tx20; omega) (by have h90 := tx20; omega)   (fun b hb => by
              have w := q9 b hb
              by_cases e : b.toInt = x3.toInt
              · rw [Int32.toInt_inj.mp e] at hb; rcases w13 with z | z
                · first | exact absurd z.1 (of_decide_eq_true rfl) | exact absurd (congrArg Int32.toInt z.1) (by rw [jz_1]; omega)
                · exact absurd hb z.2
              · exact by
                 have h9 := tx20; omega) hP hS (lv_sub hl [0, 1] rfl)
  exact by exact lp1 1000000 0 _ _ ls (by have h90 := jz_0; omega) (by have h90 := jz_0; omega) (by have h90 := jz_0; omega)  (fun b hb => by have w := hb.1; have h9 := jz_0; omega) hP hS hl
set_option maxHeartbeats 4000000 in
set_option maxRecDepth 100000 in
theorem c_X0_after_r (l : Launch) (D : va_G) (cI cL : ClassId) (ad zz : Nat → Nat) (hJ : jD ad) (σ : Nat → Nat → Int32) (τ : Nat → Nat → Int64) (a1 : Int32) (A1 : Int) (t1 : a1.toInt = A1) (a2 : Int32) (A2 : Int) (t2 : a2.toInt = A2) (hp0 : 0 ≤ A1 ∧ A1 ≤ 134217727) : jM l yX0_after cX0_after 5 (some .int) ({ frames := 1, cells := 0, slots := 0, locals := 23 }) D cI cL ad zz [.int a1, .int a2] σ τ (fun r σ' τ' => (σ = σ' ∧ τ = τ') ∧ ((0 ≤ A2 → A2 ≤ 3 → jAf a1 a2 r)) ∧ ((0 ≤ A2 → A2 ≤ 3 → jAg a1 (A2).toNat r)) ∧ ((True ∧ (0 ≤ r.toInt ∧ r.toInt ≤ 134217727)))) := by
  refine jM.of hJ (by decide +kernel) (nt := .int) rfl (Nat.le_of_ble_eq_true rfl) ?_
  intro p e s m args below meth c Q ls hC hret hl hP
  obtain ⟨hx, hb, hr, hml, hown, hts, hK, -, hlocks, hZ⟩ := hC
  have hown : s.vm.findClass RX0 = some m.cls := hown
  have hS : va_S (jA ad) s.heap s.heap [] := va_S.rf
  have hA : ∀ q, jA ad q → jA ad q := fun _ h => h
  have hl : lv_has ls 5 [(0, .int a1), (1, .int a2)] := hl
  have g1 := jrg t1
  have g2 := jrg t2
  refine lv_iload_n hx hb dX0_after_0 rfl (lv_at hl 1 rfl) ?_
  refine lv_if_lt (tgt := 9) hx hb dX0_after_1 (of_decide_eq_true rfl) (fun c1 => ?_) (fun c1 => ?_)
  · have kc1 := jlt c1 t2 jz_0
    refine lv_iload_n hx hb dX0_after_9 rfl (lv_at hl 0 rfl) ?_
    exact by exact hret a1 σ τ _ _ _ _ rfl ⟨⟨rfl, rfl⟩, (fun h9 h8 => False.elim (by omega)), (fun h9 h8 => False.elim (by omega)), ⟨trivial, (by have h9 := t1; omega)⟩⟩ hP hS dX0_after_10
  · have kc1 := jnlt c1 t2 jz_0
    refine lv_iload_n hx hb dX0_after_4 rfl (lv_at hl 1 rfl) ?_
    refine lv_iconst (v := 4) hx hb dX0_after_5 (of_decide_eq_true rfl) ?_
    refine lv_icmp_lt (tgt := 11) hx hb dX0_after_6 (of_decide_eq_true rfl) (fun c2 => ?_) (fun c2 => ?_)
    · have kc2 := jlt c2 t2 jz_4
      refine lv_iload_n hx hb dX0_after_11 rfl (lv_at hl 0 rfl) ?_
      refine lv_bipush (v := (-8)) hx hb dX0_after_12 (of_decide_eq_true rfl) ?_
      refine lv_iand hx hb dX0_after_14 ?_
      refine lv_topi (fun x3 ex3 => ?_)
      have gx3 := jrg (rfl : x3.toInt = x3.toInt)
      refine lv_iload_n hx hb dX0_after_15 rfl (lv_at hl 1 rfl) ?_
      refine lv_iconst (v := 1) hx hb dX0_after_16 (of_decide_eq_true rfl) ?_
      refine lv_iadd hx hb dX0_after_17 ?_
      refine lv_topi (fun x4 ex4 => ?_)
      exact by
       have tx4 : x4.toInt = A2 + 1 := (jadd ex4 t2 jz_1 (by omega) (by omega)).trans (by omega)
       refine lv_ior hx hb dX0_after_18 ?_
       refine lv_topi (fun x5 ex5 => ?_)
       have gx5 := jrg (rfl : x5.toInt = x5.toInt)
       refine lv_istore_n (lv' := [(2, .int x5), (0, .int a1), (1, .int a2)]) hx hb dX0_after_19 rfl hl (of_decide_eq_true rfl) rfl (fun ls hl => ?_)
       have t6 : jT27 x5 := by rw [ex5, ex3]; exact jT27_Wa ⟨by omega, by omega⟩ (by omega) (by omega)
       have k7 := t6.1
       have k8 := t6.2
       refine lv_iconst (v := 0) hx hb dX0_after_20 (of_decide_eq_true rfl) ?_
       exact by
        refine lv_istore_n (lv' := [(3, .int 0), (2, .int x5), (0, .int a1), (1, .int a2)]) hx hb dX0_after_21 rfl hl (of_decide_eq_true rfl) rfl (fun ls hl => ?_)
        have lp9 : ∀ (n10 : Nat) (x11 : Int32) (x12 : Int32) (H : Heap) (locs : List Loc) (ls : Array Slot), (-x12.toInt + 4 : Int) < n10 → 0 ≤ x11.toInt → x11.toInt ≤ 134217727 → 0 ≤ x12.toInt → x12.toInt ≤ 4 → (jAl a1 a2 x11) → (jAh a1 x11 (a2.toInt) (x12.toInt)) → jH D cI cL ad σ τ H → va_S (jA ad) s.heap H locs → lv_has ls 5 [(3, .int x12), (2, .int x11), (0, .int a1), (1, .int a2)] → W p l e ({ frames := 1, cells := 0, slots := 0, locals := 23 }) s m args below meth c H locs 0 0 Q (F0 m 22 ls []) := by
          intro n10
          induction n10 with
          | zero => intro x11 x12 H locs ls h15 h16 h17 h18 h19; exact absurd h15 (by omega)
          | succ n10 ihlp9 =>
            intro x11 x12 H locs ls h15 h16 h17 h18 h19 q21 q22 hP hS hl
            refine lv_iload_n hx hb dX0_after_22 rfl (lv_at hl 0 rfl) ?_
            refine lv_iconst (v := 4) hx hb dX0_after_23 (of_decide_eq_true rfl) ?_
            exact by
             refine lv_icmp_ge (tgt := 70) hx hb dX0_after_24 (of_decide_eq_true rfl) (fun c23 => ?_) (fun c23 => ?_)
             · have kc23 := jle c23 jz_4 rfl
               refine lv_iload_n hx hb dX0_after_70 rfl (lv_at hl 1 rfl) ?_
               refine lv_iload_n hx hb dX0_after_71 rfl (lv_at hl 3 rfl) ?_
               refine lv_iconst (v := 0) hx hb dX0_after_72 (of_decide_eq_true rfl) ?_
               refine lv_iload_n hx hb dX0_after_73 rfl (lv_at hl 2 rfl) ?_
               refine lv_iload_n hx hb dX0_after_74 rfl (lv_at hl 3 rfl) ?_
               refine jcallS (As := [.int a1, .int a2]) (rest := [.int 0, .int a2, .int x11]) ⟨hx, hb, hml, hown, hts⟩ hK hP hA hS hZ (c_X0_left l D cI cL ad zz hJ σ τ a1 (A1) t1 a2 (A2) t2) cw_RX0_11 ⟨Nat.le_of_ble_eq_true rfl, Nat.le_of_ble_eq_true rfl⟩ rfl rfl rfl hl.1 rfl (Nat.le_of_ble_eq_true rfl) dX0_after_75 ⟨Nat.zero_le _, Nat.zero_le _⟩ (fun r25 σ24 τ24 H locs h24 hP hS => ?_)
               obtain ⟨⟨rfl, rfl⟩, w26, h24⟩ := h24
               have k27 := congrArg Int32.toInt w26
               have h28 := h24
               obtain ⟨q30, k29⟩ := h28
               refine lv_iconst (v := 1) hx hb dX0_after_78 (of_decide_eq_true rfl) ?_
               have g31 := jrg (rfl : r25.toInt = r25.toInt)
               refine lv_isub hx hb dX0_after_79 ?_
               refine lv_topi (fun x32 ex32 => ?_)
               exact by
                have tx32 : x32.toInt = r25.toInt - 1 := (jsub ex32 rfl jz_1 (by omega) (by omega)).trans (by omega)
                refine va_mmax hx hb (hml.trans hl.1.symm) hown (hts _ kw_26_12) (hts _ kw_21_0) (hts _ kw_21_1) (hts _ kw_21_2) (Nat.le_of_ble_eq_true rfl) (Nat.le_of_ble_eq_true rfl) (Nat.le_of_ble_eq_true rfl) (Nat.le_of_ble_eq_true rfl) dX0_after_80 ?_
                refine lv_topi (fun x33 ex33 => ?_)
                have g34 := jmax ex33 jz_0 tx32
                refine jcallS (As := [.int x11, .int a2, .int x33]) (rest := []) ⟨hx, hb, hml, hown, hts⟩ hK hP hA hS hZ (c_X0_withLeft_r l D cI cL ad zz hJ σ τ x11 (x11.toInt) rfl a2 (A2) t2 x33 (x33.toInt) rfl (by omega) (by omega)) cw_RX0_38 ⟨Nat.le_of_ble_eq_true rfl, Nat.le_of_ble_eq_true rfl⟩ rfl rfl rfl hl.1 rfl (Nat.le_of_ble_eq_true rfl) dX0_after_83 ⟨Nat.zero_le _, Nat.zero_le _⟩ (fun r36 σ35 τ35 H locs h35 hP hS => ?_)
                obtain ⟨⟨rfl, rfl⟩, w37, h35⟩ := h35
                have k38 := congrArg Int32.toInt w37
                have h39 := h35
                obtain ⟨q41, k40⟩ := h39
                exact by exact hret r36 σ τ _ _ _ _ rfl ⟨⟨rfl, rfl⟩, (fun h9 h8 => q21.fin w37 (by have h9 := t2; omega) (by have h9 := t2; omega) (by have w := congrArg Int32.toInt w26; have u := jLf_r a1 a2; unfold jmx; split <;> omega) (jLf_r _ _).2), (fun h9 h8 => by rw [← t2]; exact q22.fin w37 rfl (by have h9 := t2; omega) (by have h9 := t2; omega) (by omega) w26 (by omega)), ⟨trivial, (by omega)⟩⟩ hP hS dX0_after_86
             · exact by
                have kc23 := jnle c23 jz_4 rfl
                refine lv_iload_n hx hb dX0_after_27 rfl (lv_at hl 2 rfl) ?_
                refine lv_iload_n hx hb dX0_after_28 rfl (lv_at hl 0 rfl) ?_
                refine jcallS (As := [.int a1, .int x12]) (rest := []) ⟨hx, hb, hml, hown, hts⟩ hK hP hA hS hZ (c_X0_steps l D cI cL ad zz hJ σ τ a1 (A1) t1 x12 (x12.toInt) rfl) cw_RX0_23 ⟨Nat.le_of_ble_eq_true rfl, Nat.le_of_ble_eq_true rfl⟩ rfl rfl rfl hl.1 rfl (Nat.le_of_ble_eq_true rfl) dX0_after_29 ⟨Nat.zero_le _, Nat.zero_le _⟩ (fun r43 σ42 τ42 H locs h42 hP hS => ?_)
                obtain ⟨⟨rfl, rfl⟩, w44, h42⟩ := h42
                have k45 := congrArg Int32.toInt w44
                have h46 := h42
                obtain ⟨q48, k47⟩ := h46
                refine lv_istore (lv' := [(4, .int r43), (3, .int x12), (2, .int x11), (0, .int a1), (1, .int a2)]) hx hb dX0_after_32 hl (of_decide_eq_true rfl) rfl (fun ls hl => ?_)
                refine lv_iload_n hx hb dX0_after_34 rfl (lv_at hl 2 rfl) ?_
                refine lv_iload_n hx hb dX0_after_35 rfl (lv_at hl 1 rfl) ?_
                refine lv_iload_n hx hb dX0_after_36 rfl (lv_at hl 1 rfl) ?_
                refine lv_iload_n hx hb dX0_after_37 rfl (lv_at hl 4 rfl) ?_
                refine lv_icmp_ne (tgt := 52) hx hb dX0_after_38 (of_decide_eq_true rfl) (fun c49 => ?_) (fun c49 => ?_)
                · have kc49 := jne c49 rfl t2
                  refine lv_iconst (v := 0) hx hb dX0_after_52 (of_decide_eq_true rfl) ?_
                  refine lv_iload hx hb dX0_after_53 (lv_at hl 0 rfl) ?_
                  refine lv_iconst (v := 1) hx hb dX0_after_55 (of_decide_eq_true rfl) ?_
                  have g50 := jrg (rfl : r43.toInt = r43.toInt)
                  refine lv_isub hx hb dX0_after_56 ?_
                  refine lv_topi (fun x51 ex51 => ?_)
                  exact by
                   have tx51 : x51.toInt = r43.toInt - 1 := (jsub ex51 rfl jz_1 (by omega) (by omega)).trans (by omega)
                   refine va_mmax hx hb (hml.trans hl.1.symm) hown (hts _ kw_26_12) (hts _ kw_21_0) (hts _ kw_21_1) (hts _ kw_21_2) (Nat.le_of_ble_eq_true rfl) (Nat.le_of_ble_eq_true rfl) (Nat.le_of_ble_eq_true rfl) (Nat.le_of_ble_eq_true rfl) dX0_after_57 ?_
                   refine lv_topi (fun x52 ex52 => ?_)
                   have g53 := jmax ex52 jz_0 tx51
                   refine jcallS (As := [.int x11, .int x12, .int x52]) (rest := []) ⟨hx, hb, hml, hown, hts⟩ hK hP hA hS hZ (c_X0_withSteps_r l D cI cL ad zz hJ σ τ x11 (x11.toInt) rfl x12 (x12.toInt) rfl x52 (x52.toInt) rfl (by omega) (by omega)) cw_RX0_34 ⟨Nat.le_of_ble_eq_true rfl, Nat.le_of_ble_eq_true rfl⟩ rfl rfl rfl hl.1 rfl (Nat.le_of_ble_eq_true rfl) dX0_after_60 ⟨Nat.zero_le _, Nat.zero_le _⟩ (fun r55 σ54 τ54 H locs h54 hP hS => ?_)
                   obtain ⟨⟨rfl, rfl⟩, w56, h54⟩ := h54
                   have k57 := congrArg Int32.toInt w56
                   have h58 := h54
                   obtain ⟨q60, k59⟩ := h58
                   exact by
                    refine lv_istore_n (lv' := [(2, .int r55), (4, .int r43), (3, .int x12), (0, .int a1), (1, .int a2)]) hx hb dX0_after_63 rfl hl (of_decide_eq_true rfl) rfl (fun ls hl => ?_)
                    obtain ⟨x61, ex61⟩ : ∃ y : Int32, y = x12 + 1 := ⟨_, rfl⟩
                    have tx61 : x61.toInt = x12.toInt + 1 := (jadd ex61 rfl jz_1 (by omega) (by omega)).trans (by omega)
                    refine lv_iinc (v := x61) (lv' := [(3, .int x61), (2, .int r55), (4, .int r43), (0, .int a1), (1, .int a2)]) hx hb dX0_after_64 hl (k := 2) rfl (by rw [ex61]; rfl) (of_decide_eq_true rfl) rfl (fun ls hl => ?_)
                    refine lv_goto (tgt := 22) hx hb dX0_after_67 (of_decide_eq_true rfl) ?_
                    exact by exact ihlp9 r55 x61 _ _ ls (by have h91 := tx61; omega) (by have h91 := tx61; omega) (by have h91 := tx61; omega) (by have h91 := tx61; omega) (by have h91 := tx61; omega)   (jAl.step q21 w56 (by omega) (by omega)) (jAh.step q22 w56 rfl (by omega) (by omega) w44 (by omega) (by have h9 := tx61; omega)) hP hS (lv_sub hl [0, 1, 3, 4] rfl)
                · have kc49 := jeq c49 rfl t2
                  refine lv_iconst (v := 3) hx hb dX0_after_41 (of_decide_eq_true rfl) ?_
                  refine lv_iload hx hb dX0_after_42 (lv_at hl 0 rfl) ?_
                  exact by
                   refine lv_iconst (v := 1) hx hb dX0_after_44 (of_decide_eq_true rfl) ?_
                   have g62 := jrg (rfl : r43.toInt = r43.toInt)
                   refine lv_iadd hx hb dX0_after_45 ?_
                   refine lv_topi (fun x63 ex63 => ?_)
                   have tx63 : x63.toInt = r43.toInt + 1 := (jadd ex63 rfl jz_1 (by omega) (by omega)).trans (by omega)
                   refine va_mmin hx hb (hml.trans hl.1.symm) hown (hts _ kw_26_11) (hts _ kw_22_11) (hts _ kw_21_1) (hts _ kw_22_12) (Nat.le_of_ble_eq_true rfl) (Nat.le_of_ble_eq_true rfl) (Nat.le_of_ble_eq_true rfl) (Nat.le_of_ble_eq_true rfl) dX0_after_46 ?_
                   refine lv_topi (fun x64 ex64 => ?_)
                   have g65 := jmin ex64 jz_3 tx63
                   refine lv_goto (tgt := 60) hx hb dX0_after_49 (of_decide_eq_true rfl) ?_
                   exact by
                    refine jcallS (As := [.int x11, .int x12, .int x64]) (rest := []) ⟨hx, hb, hml, hown, hts⟩ hK hP hA hS hZ (c_X0_withSteps_r l D cI cL ad zz hJ σ τ x11 (x11.toInt) rfl x12 (x12.toInt) rfl x64 (x64.toInt) rfl (by omega) (by omega)) cw_RX0_34 ⟨Nat.le_of_ble_eq_true rfl, Nat.le_of_ble_eq_true rfl⟩ rfl rfl rfl hl.1 rfl (Nat.le_of_ble_eq_true rfl) dX0_after_60 ⟨Nat.zero_le _, Nat.zero_le _⟩ (fun r67 σ66 τ66 H locs h66 hP hS => ?_)
                    obtain ⟨⟨rfl, rfl⟩, w68, h66⟩ := h66
                    have k69 := congrArg Int32.toInt w68
                    have h70 := h66
                    obtain ⟨q72, k71⟩ := h70
                    refine lv_istore_n (lv' := [(2, .int r67), (4, .int r43), (3, .int x12), (0, .int a1), (1, .int a2)]) hx hb dX0_after_63 rfl hl (of_decide_eq_true rfl) rfl (fun ls hl => ?_)
                    obtain ⟨x73, ex73⟩ : ∃ y : Int32, y = x12 + 1 := ⟨_, rfl⟩
                    have tx73 : x73.toInt = x12.toInt + 1 := (jadd ex73 rfl jz_1 (by omega) (by omega)).trans (by omega)
                    refine lv_iinc (v := x73) (lv' := [(3, .int x73), (2, .int r67), (4, .int r43), (0, .int a1), (1, .int a2)]) hx hb dX0_after_64 hl (k := 2) rfl (by rw [ex73]; rfl) (of_decide_eq_true rfl) rfl (fun ls hl => ?_)
                    exact by
                     refine lv_goto (tgt := 22) hx hb dX0_after_67 (of_decide_eq_true rfl) ?_
                     exact by exact ihlp9 r67 x73 _ _ ls (by have h91 := tx73; omega) (by have h91 := tx73; omega) (by have h91 := tx73; omega) (by have h91 := tx73; omega) (by have h91 := tx73; omega)   (jAl.step q21 w68 (by omega) (by omega)) (jAh.step q22 w68 rfl (by omega) (by omega) w44 (by omega) (by have h9 := tx73; omega)) hP hS (lv_sub hl [0, 1, 3, 4] rfl)
        exact by exact lp9 1000000 x5 0 _ _ ls (by have h91 := jz_0; omega) (by have h91 := jz_0; omega) (by have h91 := jz_0; omega) (by have h91 := jz_0; omega) (by have h91 := jz_0; omega)  (jAl.first (n := x4) (by rw [ex5, ex3]; rfl) (by omega) (by omega) (by omega)) (jAh.first (m := x4) (by rw [ex5, ex3]; rfl) (by omega) (by omega) (by omega) (by have h9 := jz_0; omega)) hP hS hl
    · have kc2 := jnlt c2 t2 jz_4
      refine lv_iload_n hx hb dX0_after_9 rfl (lv_at hl 0 rfl) ?_
      exact by exact hret a1 σ τ _ _ _ _ rfl ⟨⟨rfl, rfl⟩, (fun h9 h8 => False.elim (by omega)), (fun h9 h8 => False.elim (by omega)), ⟨trivial, (by have h9 := t1; omega)⟩⟩ hP hS dX0_after_10
set_option maxHeartbeats 4000000 in
set_option maxRecDepth 100000 in
theorem c_X0_after (l : Launch) (D : va_G) (cI cL : ClassId) (ad zz : Nat → Nat) (hJ : jD ad) (σ : Nat → Nat → Int32) (τ : Nat → Nat → Int64) (a1 : Int32) (A1 : Int) (t1 : a1.toInt = A1) (a2 : Int32) (A2 : Int) (t2 : a2.toInt = A2) : jM l yX0_after cX0_after 5 (some .int) ({ frames := 1, cells := 0, slots := 0, locals := 23 }) D cI cL ad zz [.int a1, .int a2] σ τ (fun r σ' τ' => (σ = σ' ∧ τ = τ') ∧ ((0 ≤ A2 → A2 ≤ 3 → jAf a1 a2 r)) ∧ ((0 ≤ A2 → A2 ≤ 3 → jAg a1 (A2).toNat r)) ∧ True) := by
  refine jM.of hJ (by decide +kernel) (nt := .int) rfl (Nat.le_of_ble_eq_true rfl) ?_
  intro p e s m args below meth c Q ls hC hret hl hP
  obtain ⟨hx, hb, hr, hml, hown, hts, hK, -, hlocks, hZ⟩ := hC
  have hown : s.vm.findClass RX0 = some m.cls := hown
  have hS : va_S (jA ad) s.heap s.heap [] := va_S.rf
  have hA : ∀ q, jA ad q → jA ad q := fun _ h => h
  have hl : lv_has ls 5 [(0, .int a1), (1, .int a2)] := hl
  have g1 := jrg t1
  have g2 := jrg t2
  refine lv_iload_n hx hb dX0_after_0 rfl (lv_at hl 1 rfl) ?_
  refine lv_if_lt (tgt := 9) hx hb dX0_after_1 (of_decide_eq_true rfl) (fun c1 => ?_) (fun c1 => ?_)
  · have kc1 := jlt c1 t2 jz_0
    refine lv_iload_n hx hb dX0_after_9 rfl (lv_at hl 0 rfl) ?_
    exact by exact hret a1 σ τ _ _ _ _ rfl ⟨⟨rfl, rfl⟩, (fun h9 h8 => False.elim (by omega)), (fun h9 h8 => False.elim (by omega)), trivial⟩ hP hS dX0_after_10
  · have kc1 := jnlt c1 t2 jz_0
    refine lv_iload_n hx hb dX0_after_4 rfl (lv_at hl 1 rfl) ?_
    refine lv_iconst (v := 4) hx hb dX0_after_5 (of_decide_eq_true rfl) ?_
    refine lv_icmp_lt (tgt := 11) hx hb dX0_after_6 (of_decide_eq_true rfl) (fun c2 => ?_) (fun c2 => ?_)
    · have kc2 := jlt c2 t2 jz_4
      refine lv_iload_n hx hb dX0_after_11 rfl (lv_at hl 0 rfl) ?_
      refine lv_bipush (v := (-8)) hx hb dX0_after_12 (of_decide_eq_true rfl) ?_
      refine lv_iand hx hb dX0_after_14 ?_
      refine lv_topi (fun x3 ex3 => ?_)
      have gx3 := jrg (rfl : x3.toInt = x3.toInt)
      refine lv_iload_n hx hb dX0_after_15 rfl (lv_at hl 1 rfl) ?_
      refine lv_iconst (v := 1) hx hb dX0_after_16 (of_decide_eq_true rfl) ?_
      refine lv_iadd hx hb dX0_after_17 ?_
      refine lv_topi (fun x4 ex4 => ?_)
      exact by
       have tx4 : x4.toInt = A2 + 1 := (jadd ex4 t2 jz_1 (by omega) (by omega)).trans (by omega)
       refine lv_ior hx hb dX0_after_18 ?_
       refine lv_topi (fun x5 ex5 => ?_)
       have gx5 := jrg (rfl : x5.toInt = x5.toInt)
       refine lv_istore_n (lv' := [(2, .int x5), (0, .int a1), (1, .int a2)]) hx hb dX0_after_19 rfl hl (of_decide_eq_true rfl) rfl (fun ls hl => ?_)
       refine lv_iconst (v := 0) hx hb dX0_after_20 (of_decide_eq_true rfl) ?_
       refine lv_istore_n (lv' := [(3, .int 0), (2, .int x5), (0, .int a1), (1, .int a2)]) hx hb dX0_after_21 rfl hl (of_decide_eq_true rfl) rfl (fun ls hl => ?_)
       have lp6 : ∀ (n7 : Nat) (x8 : Int32) (x9 : Int32) (H : Heap) (locs : List Loc) (ls : Array Slot), (-x9.toInt + 4 : Int) < n7 → 0 ≤ x9.toInt → x9.toInt ≤ 4 → (jAl a1 a2 x8) → (jAh a1 x8 (a2.toInt) (x9.toInt)) → jH D cI cL ad σ τ H → va_S (jA ad) s.heap H locs → lv_has ls 5 [(3, .int x9), (2, .int x8), (0, .int a1), (1, .int a2)] → W p l e ({ frames := 1, cells := 0, slots := 0, locals := 23 }) s m args below meth c H locs 0 0 Q (F0 m 22 ls []) := by
         intro n7
         induction n7 with
         | zero => intro x8 x9 H locs ls h12 h13 h14; have gx8 := jrg (rfl : x8.toInt = x8.toInt); exact absurd h12 (by omega)
         | succ n7 ihlp6 =>
           intro x8 x9 H locs ls h12 h13 h14 q16 q17 hP hS hl
           exact by
            have gx8 := jrg (rfl : x8.toInt = x8.toInt)
            refine lv_iload_n hx hb dX0_after_22 rfl (lv_at hl 0 rfl) ?_
            refine lv_iconst (v := 4) hx hb dX0_after_23 (of_decide_eq_true rfl) ?_
            refine lv_icmp_ge (tgt := 70) hx hb dX0_after_24 (of_decide_eq_true rfl) (fun c18 => ?_) (fun c18 => ?_)
            · have kc18 := jle c18 jz_4 rfl
              refine lv_iload_n hx hb dX0_after_70 rfl (lv_at hl 1 rfl) ?_
              refine lv_iload_n hx hb dX0_after_71 rfl (lv_at hl 3 rfl) ?_
              refine lv_iconst (v := 0) hx hb dX0_after_72 (of_decide_eq_true rfl) ?_
              refine lv_iload_n hx hb dX0_after_73 rfl (lv_at hl 2 rfl) ?_
              refine lv_iload_n hx hb dX0_after_74 rfl (lv_at hl 3 rfl) ?_
              refine jcallS (As := [.int a1, .int a2]) (rest := [.int 0, .int a2, .int x8]) ⟨hx, hb, hml, hown, hts⟩ hK hP hA hS hZ (c_X0_left l D cI cL ad zz hJ σ τ a1 (A1) t1 a2 (A2) t2) cw_RX0_11 ⟨Nat.le_of_ble_eq_true rfl, Nat.le_of_ble_eq_true rfl⟩ rfl rfl rfl hl.1 rfl (Nat.le_of_ble_eq_true rfl) dX0_after_75 ⟨Nat.zero_le _, Nat.zero_le _⟩ (fun r20 σ19 τ19 H locs h19 hP hS => ?_)
              obtain ⟨⟨rfl, rfl⟩, w21, h19⟩ := h19
              have k22 := congrArg Int32.toInt w21
              have h23 := h19
              obtain ⟨q25, k24⟩ := h23
              refine lv_iconst (v := 1) hx hb dX0_after_78 (of_decide_eq_true rfl) ?_
              have g26 := jrg (rfl : r20.toInt = r20.toInt)
              refine lv_isub hx hb dX0_after_79 ?_
              refine lv_topi (fun x27 ex27 => ?_)
              exact by
               have tx27 : x27.toInt = r20.toInt - 1 := (jsub ex27 rfl jz_1 (by omega) (by omega)).trans (by omega)
               refine va_mmax hx hb (hml.trans hl.1.symm) hown (hts _ kw_26_12) (hts _ kw_21_0) (hts _ kw_21_1) (hts _ kw_21_2) (Nat.le_of_ble_eq_true rfl) (Nat.le_of_ble_eq_true rfl) (Nat.le_of_ble_eq_true rfl) (Nat.le_of_ble_eq_true rfl) dX0_after_80 ?_
               refine lv_topi (fun x28 ex28 => ?_)
               have g29 := jmax ex28 jz_0 tx27
               refine jcallS (As := [.int x8, .int a2, .int x28]) (rest := []) ⟨hx, hb, hml, hown, hts⟩ hK hP hA hS hZ (c_X0_withLeft l D cI cL ad zz hJ σ τ x8 (x8.toInt) rfl a2 (A2) t2 x28 (x28.toInt) rfl) cw_RX0_38 ⟨Nat.le_of_ble_eq_true rfl, Nat.le_of_ble_eq_true rfl⟩ rfl rfl rfl hl.1 rfl (Nat.le_of_ble_eq_true rfl) dX0_after_83 ⟨Nat.zero_le _, Nat.zero_le _⟩ (fun r31 σ30 τ30 H locs h30 hP hS => ?_)
               obtain ⟨⟨rfl, rfl⟩, w32, h30⟩ := h30
               have k33 := congrArg Int32.toInt w32
               exact by exact hret r31 σ τ _ _ _ _ rfl ⟨⟨rfl, rfl⟩, (fun h9 h8 => q16.fin w32 (by have h9 := t2; omega) (by have h9 := t2; omega) (by have w := congrArg Int32.toInt w21; have u := jLf_r a1 a2; unfold jmx; split <;> omega) (jLf_r _ _).2), (fun h9 h8 => by rw [← t2]; exact q17.fin w32 rfl (by have h9 := t2; omega) (by have h9 := t2; omega) (by omega) w21 (by omega)), trivial⟩ hP hS dX0_after_86
            · have kc18 := jnle c18 jz_4 rfl
              refine lv_iload_n hx hb dX0_after_27 rfl (lv_at hl 2 rfl) ?_
              refine lv_iload_n hx hb dX0_after_28 rfl (lv_at hl 0 rfl) ?_
              refine jcallS (As := [.int a1, .int x9]) (rest := []) ⟨hx, hb, hml, hown, hts⟩ hK hP hA hS hZ (c_X0_steps l D cI cL ad zz hJ σ τ a1 (A1) t1 x9 (x9.toInt) rfl) cw_RX0_23 ⟨Nat.le_of_ble_eq_true rfl, Nat.le_of_ble_eq_true rfl⟩ rfl rfl rfl hl.1 rfl (Nat.le_of_ble_eq_true rfl) dX0_after_29 ⟨Nat.zero_le _, Nat.zero_le _⟩ (fun r35 σ34 τ34 H locs h34 hP hS => ?_)
              obtain ⟨⟨rfl, rfl⟩, w36, h34⟩ := h34
              have k37 := congrArg Int32.toInt w36
              have h38 := h34
              obtain ⟨q40, k39⟩ := h38
              refine lv_istore (lv' := [(4, .int r35), (3, .int x9), (2, .int x8), (0, .int a1), (1, .int a2)]) hx hb dX0_after_32 hl (of_decide_eq_true rfl) rfl (fun ls hl => ?_)
              refine lv_iload_n hx hb dX0_after_34 rfl (lv_at hl 2 rfl) ?_
              refine lv_iload_n hx hb dX0_after_35 rfl (lv_at hl 1 rfl) ?_
              refine lv_iload_n hx hb dX0_after_36 rfl (lv_at hl 1 rfl) ?_
              refine lv_iload_n hx hb dX0_after_37 rfl (lv_at hl 4 rfl) ?_
              refine lv_icmp_ne (tgt := 52) hx hb dX0_after_38 (of_decide_eq_true rfl) (fun c41 => ?_) (fun c41 => ?_)
              · have kc41 := jne c41 rfl t2
                refine lv_iconst (v := 0) hx hb dX0_after_52 (of_decide_eq_true rfl) ?_
                refine lv_iload hx hb dX0_after_53 (lv_at hl 0 rfl) ?_
                refine lv_iconst (v := 1) hx hb dX0_after_55 (of_decide_eq_true rfl) ?_
                have g42 := jrg (rfl : r35.toInt = r35.toInt)
                refine lv_isub hx hb dX0_after_56 ?_
                refine lv_topi (fun x43 ex43 => ?_)
                exact by
                 have tx43 : x43.toInt = r35.toInt - 1 := (jsub ex43 rfl jz_1 (by omega) (by omega)).trans (by omega)
                 refine va_mmax hx hb (hml.trans hl.1.symm) hown (hts _ kw_26_12) (hts _ kw_21_0) (hts _ kw_21_1) (hts _ kw_21_2) (Nat.le_of_ble_eq_true rfl) (Nat.le_of_ble_eq_true rfl) (Nat.le_of_ble_eq_true rfl) (Nat.le_of_ble_eq_true rfl) dX0_after_57 ?_
                 refine lv_topi (fun x44 ex44 => ?_)
                 have g45 := jmax ex44 jz_0 tx43
                 refine jcallS (As := [.int x8, .int x9, .int x44]) (rest := []) ⟨hx, hb, hml, hown, hts⟩ hK hP hA hS hZ (c_X0_withSteps l D cI cL ad zz hJ σ τ x8 (x8.toInt) rfl x9 (x9.toInt) rfl x44 (x44.toInt) rfl) cw_RX0_34 ⟨Nat.le_of_ble_eq_true rfl, Nat.le_of_ble_eq_true rfl⟩ rfl rfl rfl hl.1 rfl (Nat.le_of_ble_eq_true rfl) dX0_after_60 ⟨Nat.zero_le _, Nat.zero_le _⟩ (fun r47 σ46 τ46 H locs h46 hP hS => ?_)
                 obtain ⟨⟨rfl, rfl⟩, w48, h46⟩ := h46
                 have k49 := congrArg Int32.toInt w48
                 refine lv_istore_n (lv' := [(2, .int r47), (4, .int r35), (3, .int x9), (0, .int a1), (1, .int a2)]) hx hb dX0_after_63 rfl hl (of_decide_eq_true rfl) rfl (fun ls hl => ?_)
                 obtain ⟨x50, ex50⟩ : ∃ y : Int32, y = x9 + 1 := ⟨_, rfl⟩
                 exact by
                  have tx50 : x50.toInt = x9.toInt + 1 := (jadd ex50 rfl jz_1 (by omega) (by omega)).trans (by omega)
                  refine lv_iinc (v := x50) (lv' := [(3, .int x50), (2, .int r47), (4, .int r35), (0, .int a1), (1, .int a2)]) hx hb dX0_after_64 hl (k := 2) rfl (by rw [ex50]; rfl) (of_decide_eq_true rfl) rfl (fun ls hl => ?_)
                  refine lv_goto (tgt := 22) hx hb dX0_after_67 (of_decide_eq_true rfl) ?_
                  exact by exact ihlp6 r47 x50 _ _ ls (by have h91 := tx50; omega) (by have h91 := tx50; omega) (by have h91 := tx50; omega)   (jAl.step q16 w48 (by omega) (by omega)) (jAh.step q17 w48 rfl (by omega) (by omega) w36 (by omega) (by have h9 := tx50; omega)) hP hS (lv_sub hl [0, 1, 3, 4] rfl)
              · have kc41 := jeq c41 rfl t2
                refine lv_iconst (v := 3) hx hb dX0_after_41 (of_decide_eq_true rfl) ?_
                refine lv_iload hx hb dX0_after_42 (lv_at hl 0 rfl) ?_
                refine lv_iconst (v := 1) hx hb dX0_after_44 (of_decide_eq_true rfl) ?_
                have g51 := jrg (rfl : r35.toInt = r35.toInt)
                exact by
                 refine lv_iadd hx hb dX0_after_45 ?_
                 refine lv_topi (fun x52 ex52 => ?_)
                 have tx52 : x52.toInt = r35.toInt + 1 := (jadd ex52 rfl jz_1 (by omega) (by omega)).trans (by omega)
                 refine va_mmin hx hb (hml.trans hl.1.symm) hown (hts _ kw_26_11) (hts _ kw_22_11) (hts _ kw_21_1) (hts _ kw_22_12) (Nat.le_of_ble_eq_true rfl) (Nat.le_of_ble_eq_true rfl) (Nat.le_of_ble_eq_true rfl) (Nat.le_of_ble_eq_true rfl) dX0_after_46 ?_
                 refine lv_topi (fun x53 ex53 => ?_)
                 have g54 := jmin ex53 jz_3 tx52
                 refine lv_goto (tgt := 60) hx hb dX0_after_49 (of_decide_eq_true rfl) ?_
                 refine jcallS (As := [.int x8, .int x9, .int x53]) (rest := []) ⟨hx, hb, hml, hown, hts⟩ hK hP hA hS hZ (c_X0_withSteps l D cI cL ad zz hJ σ τ x8 (x8.toInt) rfl x9 (x9.toInt) rfl x53 (x53.toInt) rfl) cw_RX0_34 ⟨Nat.le_of_ble_eq_true rfl, Nat.le_of_ble_eq_true rfl⟩ rfl rfl rfl hl.1 rfl (Nat.le_of_ble_eq_true rfl) dX0_after_60 ⟨Nat.zero_le _, Nat.zero_le _⟩ (fun r56 σ55 τ55 H locs h55 hP hS => ?_)
                 obtain ⟨⟨rfl, rfl⟩, w57, h55⟩ := h55
                 exact by
                  have k58 := congrArg Int32.toInt w57
                  refine lv_istore_n (lv' := [(2, .int r56), (4, .int r35), (3, .int x9), (0, .int a1), (1, .int a2)]) hx hb dX0_after_63 rfl hl (of_decide_eq_true rfl) rfl (fun ls hl => ?_)
                  obtain ⟨x59, ex59⟩ : ∃ y : Int32, y = x9 + 1 := ⟨_, rfl⟩
                  have tx59 : x59.toInt = x9.toInt + 1 := (jadd ex59 rfl jz_1 (by omega) (by omega)).trans (by omega)
                  refine lv_iinc (v := x59) (lv' := [(3, .int x59), (2, .int r56), (4, .int r35), (0, .int a1), (1, .int a2)]) hx hb dX0_after_64 hl (k := 2) rfl (by rw [ex59]; rfl) (of_decide_eq_true rfl) rfl (fun ls hl => ?_)
                  refine lv_goto (tgt := 22) hx hb dX0_after_67 (of_decide_eq_true rfl) ?_
                  exact by exact ihlp6 r56 x59 _ _ ls (by have h91 := tx59; omega) (by have h91 := tx59; omega) (by have h91 := tx59; omega)   (jAl.step q16 w57 (by omega) (by omega)) (jAh.step q17 w57 rfl (by omega) (by omega) w36 (by omega) (by have h9 := tx59; omega)) hP hS (lv_sub hl [0, 1, 3, 4] rfl)
       exact by exact lp6 1000000 x5 0 _ _ ls (by have h91 := jz_0; omega) (by have h91 := jz_0; omega) (by have h91 := jz_0; omega)  (jAl.first (n := x4) (by rw [ex5, ex3]; rfl) (by omega) (by omega) (by omega)) (jAh.first (m := x4) (by rw [ex5, ex3]; rfl) (by omega) (by omega) (by omega) (by have h9 := jz_0; omega)) hP hS hl
    · have kc2 := jnlt c2 t2 jz_4
      exact by
       refine lv_iload_n hx hb dX0_after_9 rfl (lv_at hl 0 rfl) ?_
       exact by exact hret a1 σ τ _ _ _ _ rfl ⟨⟨rfl, rfl⟩, (fun h9 h8 => False.elim (by omega)), (fun h9 h8 => False.elim (by omega)), trivial⟩ hP hS dX0_after_10
