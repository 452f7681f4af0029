set_option maxHeartbeats 4000000 in
set_option maxRecDepth 100000 in
theorem c_X11_outside (l : Launch) (D : va_G) (cI cL : ClassId) (ad : Nat → Nat) (hJ : jD ad) (σ : Nat → Nat → Int32) (τ : Nat → Nat → Int64) (a1 : Int32) (A1 : Int) (t1 : a1.toInt = A1) (a2 : Int32) (A2 : Int) (t2 : a2.toInt = A2) (a3 : Int32) (A3 : Int) (t3 : a3.toInt = A3) : jM l yX11_outside cX11_outside 3 (some .boolean) ({ frames := 0, cells := 0, slots := 0, locals := 0 }) D cI cL ad [.int a1, .int a2, .int a3] σ τ (fun r σ' τ' => (σ = σ' ∧ τ = τ') ∧ ((r = 1 ∧ ((A1 < A2) ∨ (A3 < A1))) ∨ (r = 0 ∧ (A2 ≤ A1 ∧ A1 ≤ A3)))) := by
  refine jM.of hJ (by decide +kernel) (nt := .boolean) rfl (Nat.le_of_ble_eq_true rfl) ?_
  intro p e s m args below meth c Q ls hC hret hl hP
  obtain ⟨hx, hb, hr, hml, hown, hts, hK, -, hlocks⟩ := hC
  have hown : s.vm.findClass RX11 = some m.cls := hown
  have hS : va_S (jA ad) s.heap s.heap [] := va_S.rf
  have hA : ∀ q, jA ad q → jA ad q := fun _ h => h
  have hl : lv_has ls 3 [(0, .int a1), (1, .int a2), (2, .int a3)] := hl
  have g1 := jrg t1
  have g2 := jrg t2
  have g3 := jrg t3
  refine lv_iload_n hx hb dX11_outside_0 rfl (lv_at hl 0 rfl) ?_
  refine lv_iload_n hx hb dX11_outside_1 rfl (lv_at hl 1 rfl) ?_
  refine lv_icmp_lt (tgt := 10) hx hb dX11_outside_2 (by decide) (fun c1 => ?_) (fun c1 => ?_)
  · have kc1 := jlt c1 t1 t2
    refine lv_iconst (v := 1) hx hb dX11_outside_10 (by decide) ?_
    refine lv_goto (tgt := 15) hx hb dX11_outside_11 (by decide) ?_
    exact hret 1 σ τ _ _ _ _ rfl ⟨⟨rfl, rfl⟩, Or.inl ⟨rfl, by omega⟩⟩ hP hS dX11_outside_15
  · have kc1 := jnlt c1 t1 t2
    refine lv_iload_n hx hb dX11_outside_5 rfl (lv_at hl 0 rfl) ?_
    refine lv_iload_n hx hb dX11_outside_6 rfl (lv_at hl 2 rfl) ?_
    refine lv_icmp_le (tgt := 14) hx hb dX11_outside_7 (by decide) (fun c2 => ?_) (fun c2 => ?_)
    · have kc2 := jle c2 t1 t3
      refine lv_iconst (v := 0) hx hb dX11_outside_14 (by decide) ?_
      exact hret 0 σ τ _ _ _ _ rfl ⟨⟨rfl, rfl⟩, Or.inr (⟨rfl, by omega⟩)⟩ hP hS dX11_outside_15
    · have kc2 := jnle c2 t1 t3
      refine lv_iconst (v := 1) hx hb dX11_outside_10 (by decide) ?_
      refine lv_goto (tgt := 15) hx hb dX11_outside_11 (by decide) ?_
      exact hret 1 σ τ _ _ _ _ rfl ⟨⟨rfl, rfl⟩, Or.inl ⟨rfl, by omega⟩⟩ hP hS dX11_outside_15
set_option maxHeartbeats 4000000 in
set_option maxRecDepth 100000 in
theorem c_X12_within (l : Launch) (D : va_G) (cI cL : ClassId) (ad : Nat → Nat) (hJ : jD ad) (σ : Nat → Nat → Int32) (τ : Nat → Nat → Int64) (a1 : Int64) (A1 : Int) (t1 : a1.toInt = A1) (a2 : Int64) (A2 : Int) (t2 : a2.toInt = A2) (a3 : Int64) (A3 : Int) (t3 : a3.toInt = A3) : jM l yX12_within cX12_within 6 (some .boolean) ({ frames := 0, cells := 0, slots := 0, locals := 0 }) D cI cL ad [.long a1, .long a2, .long a3] σ τ (fun r σ' τ' => (σ = σ' ∧ τ = τ') ∧ ((r = 1 ∧ (A2 ≤ A1 ∧ A1 ≤ A3)) ∨ (r = 0 ∧ ((A1 < A2) ∨ (A3 < A1))))) := by
  refine jM.of hJ (by decide +kernel) (nt := .boolean) rfl (Nat.le_of_ble_eq_true rfl) ?_
  intro p e s m args below meth c Q ls hC hret hl hP
  obtain ⟨hx, hb, hr, hml, hown, hts, hK, -, hlocks⟩ := hC
  have hown : s.vm.findClass RX12 = some m.cls := hown
  have hS : va_S (jA ad) s.heap s.heap [] := va_S.rf
  have hA : ∀ q, jA ad q → jA ad q := fun _ h => h
  have hl : lv_has ls 6 [(0, .long a1), (2, .long a2), (4, .long a3)] := hl
  have g1 := jrgL t1
  have g2 := jrgL t2
  have g3 := jrgL t3
  refine lv_lload_n hx hb dX12_within_0 rfl (lv_at hl 0 rfl) ?_
  refine lv_lload_n hx hb dX12_within_1 rfl (lv_at hl 1 rfl) ?_
  refine W.lcmp hx hb dX12_within_2 ?_
  refine lv_if_lt (tgt := 17) hx hb dX12_within_3 (by decide) (fun c1 => ?_) (fun c1 => ?_)
  · have kc1 := jclt c1 t1 t2
    refine lv_iconst (v := 0) hx hb dX12_within_17 (by decide) ?_
    exact hret 0 σ τ _ _ _ _ rfl ⟨⟨rfl, rfl⟩, Or.inr (⟨rfl, by omega⟩)⟩ hP hS dX12_within_18
  · have kc1 := jcnlt c1 t1 t2
    refine lv_lload_n hx hb dX12_within_6 rfl (lv_at hl 0 rfl) ?_
    refine lv_lload hx hb dX12_within_7 (lv_at hl 2 rfl) ?_
    refine W.lcmp hx hb dX12_within_9 ?_
    refine lv_if_gt (tgt := 17) hx hb dX12_within_10 (by decide) (fun c2 => ?_) (fun c2 => ?_)
    · have kc2 := jcgt c2 t1 t3
      refine lv_iconst (v := 0) hx hb dX12_within_17 (by decide) ?_
      exact hret 0 σ τ _ _ _ _ rfl ⟨⟨rfl, rfl⟩, Or.inr (⟨rfl, by omega⟩)⟩ hP hS dX12_within_18
    · have kc2 := jcngt c2 t1 t3
      refine lv_iconst (v := 1) hx hb dX12_within_13 (by decide) ?_
      refine lv_goto (tgt := 18) hx hb dX12_within_14 (by decide) ?_
      exact hret 1 σ τ _ _ _ _ rfl ⟨⟨rfl, rfl⟩, Or.inl ⟨rfl, by omega⟩⟩ hP hS dX12_within_18
set_option maxHeartbeats 4000000 in
set_option maxRecDepth 100000 in
theorem c_X11_noBowler (l : Launch) (D : va_G) (cI cL : ClassId) (ad : Nat → Nat) (hJ : jD ad) (σ : Nat → Nat → Int32) (τ : Nat → Nat → Int64) (a1 : Int32) (A1 : Int) (t1 : a1.toInt = A1) (hbo : σ 2 0 = 0) : jM l yX11_noBowler cX11_noBowler 2 (some .boolean) ({ frames := 1, cells := 0, slots := 0, locals := 22 }) D cI cL ad [.ref (ad 0), .int a1] σ τ (fun r σ' τ' => (σ = σ' ∧ τ = τ') ∧ ((r = 1 ∧ True))) := by
  refine jM.of hJ (by decide +kernel) (nt := .boolean) rfl (Nat.le_of_ble_eq_true rfl) ?_
  intro p e s m args below meth c Q ls hC hret hl hP
  obtain ⟨hx, hb, hr, hml, hown, hts, hK, -, hlocks⟩ := hC
  have hown : s.vm.findClass RX11 = some m.cls := hown
  have hS : va_S (jA ad) s.heap s.heap [] := va_S.rf
  have hA : ∀ q, jA ad q → jA ad q := fun _ h => h
  have hl : lv_has ls 2 [(0, .ref (ad 0)), (1, .int a1)] := hl
  have g1 := jrg t1
  refine lv_iload_n hx hb dX11_noBowler_0 rfl (lv_at hl 1 rfl) ?_
  refine lv_iconst (v := 0) hx hb dX11_noBowler_1 (by decide) ?_
  refine lv_aload_n hx hb dX11_noBowler_2 rfl (lv_at hl 0 rfl) ?_
  refine va_get (D := D) hx hb hts inlX11 hown hK hP 0 (jc_0 cI cL ad σ τ) rfl 0 (by decide) (hts _ kw_1_16) (fun _ h9 => h9) rfl dX11_noBowler_3 ?_
  refine va_get (D := D) hx hb hts inlX4 hown hK hP 2 (jc_2 cI cL ad σ τ) rfl 0 (by decide) (hts _ kw_8_21) (fun _ h9 => h9) rfl dX11_noBowler_6 ?_
  refine jtopr hbo ?_
  refine lv_iconst (v := 1) hx hb dX11_noBowler_9 (by decide) ?_
  refine lv_isub hx hb dX11_noBowler_10 ?_
  refine jtopr (y := (-1)) (by decide) ?_
  refine jcallS (As := [.int a1, .int 0, .int (-1)]) (rest := []) ⟨hx, hb, hml, hown, hts⟩ hK hP hA hS (c_X11_outside l D cI cL ad hJ σ τ a1 (A1) t1 0 (0) jz_0 (-1) ((-1)) jz_m1) cw_RX11_94 ⟨Nat.le_of_ble_eq_true rfl, Nat.le_of_ble_eq_true rfl⟩ rfl rfl rfl hl.1 rfl (Nat.le_of_ble_eq_true rfl) dX11_noBowler_11 ⟨Nat.zero_le _, Nat.zero_le _⟩ (fun r2 σ1 τ1 H locs h1 hP hS => ?_)
  obtain ⟨⟨rfl, rfl⟩, h1⟩ := h1
  rcases h1 with h3 | h4
  · obtain ⟨q6, k5⟩ := h3
    subst q6
    exact hret 1 σ τ _ _ _ _ rfl ⟨⟨rfl, rfl⟩, ⟨rfl, trivial⟩⟩ hP hS dX11_noBowler_14
  · obtain ⟨q8, k7⟩ := h4
    exact absurd (by omega : False) id
set_option maxHeartbeats 4000000 in
set_option maxRecDepth 100000 in
theorem c_X11_set (l : Launch) (D : va_G) (cI cL : ClassId) (ad : Nat → Nat) (hJ : jD ad) (σ : Nat → Nat → Int32) (τ : Nat → Nat → Int64) (a1 : Int32) (A1 : Int) (t1 : a1.toInt = A1) (hfi : σ 2 1 = 0) : jM l yX11_set cX11_set 3 (some .int) ({ frames := 1, cells := 0, slots := 0, locals := 22 }) D cI cL ad [.ref (ad 0), .int a1] σ τ (fun r σ' τ' => (∀ i : Nat, (i < 0 ∨ 54 < i) → σ' i = σ i) ∧ r = (if 0 ≤ A1 ∧ A1 ≤ 3 then 0 else -1)) := by
  refine jM.of hJ (by decide +kernel) (nt := .int) rfl (Nat.le_of_ble_eq_true rfl) ?_
  intro p e s m args below meth c Q ls hC hret hl hP
  obtain ⟨hx, hb, hr, hml, hown, hts, hK, -, hlocks⟩ := hC
  have hown : s.vm.findClass RX11 = some m.cls := hown
  have hS : va_S (jA ad) s.heap s.heap [] := va_S.rf
  have hA : ∀ q, jA ad q → jA ad q := fun _ h => h
  have hl : lv_has ls 3 [(0, .ref (ad 0)), (1, .int a1)] := hl
  have g1 := jrg t1
  refine lv_iload_n hx hb dX11_set_0 rfl (lv_at hl 1 rfl) ?_
  refine lv_iconst (v := 0) hx hb dX11_set_1 (by decide) ?_
  refine lv_iconst (v := 3) hx hb dX11_set_2 (by decide) ?_
  refine jcallS (As := [.int a1, .int 0, .int 3]) (rest := []) ⟨hx, hb, hml, hown, hts⟩ hK hP hA hS (c_X11_outside l D cI cL ad hJ σ τ a1 (A1) t1 0 (0) jz_0 3 (3) jz_3) cw_RX11_94 ⟨Nat.le_of_ble_eq_true rfl, Nat.le_of_ble_eq_true rfl⟩ rfl rfl rfl hl.1 rfl (Nat.le_of_ble_eq_true rfl) dX11_set_3 ⟨Nat.zero_le _, Nat.zero_le _⟩ (fun r2 σ1 τ1 H locs h1 hP hS => ?_)
  obtain ⟨⟨rfl, rfl⟩, h1⟩ := h1
  rcases h1 with h3 | h4
  · obtain ⟨q6, k5⟩ := h3
    subst q6
    refine lv_if_eq (tgt := 11) hx hb dX11_set_6 (by decide) (fun c => absurd c (by decide)) (fun _ => ?_)
    refine lv_iconst (v := (-1)) hx hb dX11_set_9 (by decide) ?_
    exact hret (-1) σ τ _ _ _ _ rfl ⟨(fun _ _ => rfl), (by (repeat' split) <;> first | rfl | omega | exact jsame jz_m1 t1 (by omega) | (exfalso; omega))⟩ hP hS dX11_set_10
  · obtain ⟨q8, k7⟩ := h4
    subst q8
    refine lv_if_eq (tgt := 11) hx hb dX11_set_6 (by decide) (fun _ => ?_) (fun c => absurd (by decide) c)
    refine lv_aload_n hx hb dX11_set_11 rfl (lv_at hl 0 rfl) ?_
    refine va_get (D := D) hx hb hts inlX11 hown hK hP 0 (jc_0 cI cL ad σ τ) rfl 0 (by decide) (hts _ kw_1_16) (fun _ h9 => h9) rfl dX11_set_12 ?_
    refine va_get (D := D) hx hb hts inlX4 hown hK hP 2 (jc_2 cI cL ad σ τ) rfl 1 (by decide) (hts _ kw_12_8) (fun _ h9 => h9) rfl dX11_set_15 ?_
    refine jtopr hfi ?_
    refine lv_istore_n (lv' := [(2, .int 0), (0, .ref (ad 0)), (1, .int a1)]) hx hb dX11_set_18 rfl hl (by decide) rfl (fun ls hl => ?_)
    refine lv_aload_n hx hb dX11_set_19 rfl (lv_at hl 1 rfl) ?_
    refine va_get (D := D) hx hb hts inlX11 hown hK hP 0 (jc_0 cI cL ad σ τ) rfl 0 (by decide) (hts _ kw_1_16) (fun _ h9 => h9) rfl dX11_set_20 ?_
    refine lv_iload_n hx hb dX11_set_23 rfl (lv_at hl 2 rfl) ?_
    refine jput (ty := .int) hx hb hts inlX4 tyX4 tyX4_ok nmX4 hown hK hP hJ hA hS (jc_2 cI cL ad σ τ) rfl (k := 1) (by decide) (Nat.le_of_ble_eq_true rfl) (jp_2_1 cI cL ad σ τ a1) (hts _ kw_12_8) (fun _ h9 => h9) rfl (by decide +kernel) rfl rfl dX11_set_24 (fun σ9 H locs eσ9 hP hS => ?_)
    refine lv_iload_n hx hb dX11_set_27 rfl (lv_at hl 0 rfl) ?_
    exact hret 0 σ9 τ _ _ _ _ rfl ⟨(fun i hi => by rw [eσ9, jup_n (by omega)]), (by (repeat' split) <;> first | rfl | omega | exact jsame jz_0 t1 (by omega) | (exfalso; omega))⟩ hP hS dX11_set_28
