set_option maxHeartbeats 4000000 in
set_option maxRecDepth 100000 in
theorem c_X11_outside (l : Launch) (D : va_G) (cI cL : ClassId) (ad : Nat → Nat) (hJ : jD ad) (σ : Nat → Nat → Int32) (τ : Nat → Nat → Int64) (a1 : Int32) (A1 : Int) (t1 : a1.toInt = A1) (a2 : Int32) (A2 : Int) (t2 : a2.toInt = A2) (a3 : Int32) (A3 : Int) (t3 : a3.toInt = A3) : jM l yX11_outside cX11_outside 3 (some .boolean) ({ frames := 0, cells := 0, slots := 0, locals := 0 }) D cI cL ad [.int a1, .int a2, .int a3] σ τ (fun r σ' τ' => (σ = σ' ∧ τ = τ') ∧ ((r = 1 ∧ ((A1 < A2) ∨ (A3 < A1))) ∨ (r = 0 ∧ (A2 ≤ A1 ∧ A1 ≤ A3)))) := by
  refine jM.of hJ (by decide +kernel) (nt := .boolean) rfl (Nat.le_of_ble_eq_true rfl) ?_
  intro p e s m args below meth c Q ls hC hret hl hP
  obtain ⟨hx, hb, hr, hml, hown, hts, hK, -, hlocks⟩ := hC
  have hown : s.vm.findClass RX11 = some m.cls := hown
  have hS : va_S (jA ad) s.heap s.heap [] := va_S.rf
  have hA : ∀ q, jA ad q → jA ad q := fun _ h => h
  have hl : lv_has ls 3 [(0, .int a1), (1, .int a2), (2, .int a3)] := hl
  have g1 := jrg t1
  have g2 := jrg t2
  have g3 := jrg t3
  refine lv_iload_n hx hb dX11_outside_0 rfl (lv_at hl 0 rfl) ?_
  refine lv_iload_n hx hb dX11_outside_1 rfl (lv_at hl 1 rfl) ?_
  refine lv_icmp_lt (tgt := 10) hx hb dX11_outside_2 (by decide) (fun c1 => ?_) (fun c1 => ?_)
  · have kc1 := jlt c1 t1 t2
    refine lv_iconst (v := 1) hx hb dX11_outside_10 (by decide) ?_
    refine lv_goto (tgt := 15) hx hb dX11_outside_11 (by decide) ?_
    exact hret 1 σ τ _ _ _ _ rfl ⟨⟨rfl, rfl⟩, Or.inl ⟨rfl, by omega⟩⟩ hP hS dX11_outside_15
  · have kc1 := jnlt c1 t1 t2
    refine lv_iload_n hx hb dX11_outside_5 rfl (lv_at hl 0 rfl) ?_
    refine lv_iload_n hx hb dX11_outside_6 rfl (lv_at hl 2 rfl) ?_
    refine lv_icmp_le (tgt := 14) hx hb dX11_outside_7 (by decide) (fun c2 => ?_) (fun c2 => ?_)
    · have kc2 := jle c2 t1 t3
      refine lv_iconst (v := 0) hx hb dX11_outside_14 (by decide) ?_
      exact hret 0 σ τ _ _ _ _ rfl ⟨⟨rfl, rfl⟩, Or.inr (⟨rfl, by omega⟩)⟩ hP hS dX11_outside_15
    · have kc2 := jnle c2 t1 t3
      refine lv_iconst (v := 1) hx hb dX11_outside_10 (by decide) ?_
      refine lv_goto (tgt := 15) hx hb dX11_outside_11 (by decide) ?_
      exact hret 1 σ τ _ _ _ _ rfl ⟨⟨rfl, rfl⟩, Or.inl ⟨rfl, by omega⟩⟩ hP hS dX11_outside_15
set_option maxHeartbeats 4000000 in
set_option maxRecDepth 100000 in
theorem c_X12_within (l : Launch) (D : va_G) (cI cL : ClassId) (ad : Nat → Nat) (hJ : jD ad) (σ : Nat → Nat → Int32) (τ : Nat → Nat → Int64) (a1 : Int64) (A1 : Int) (t1 : a1.toInt = A1) (a2 : Int64) (A2 : Int) (t2 : a2.toInt = A2) (a3 : Int64) (A3 : Int) (t3 : a3.toInt = A3) : jM l yX12_within cX12_within 6 (some .boolean) ({ frames := 0, cells := 0, slots := 0, locals := 0 }) D cI cL ad [.long a1, .long a2, .long a3] σ τ (fun r σ' τ' => (σ = σ' ∧ τ = τ') ∧ ((r = 1 ∧ (A2 ≤ A1 ∧ A1 ≤ A3)) ∨ (r = 0 ∧ ((A1 < A2) ∨ (A3 < A1))))) := by
  refine jM.of hJ (by decide +kernel) (nt := .boolean) rfl (Nat.le_of_ble_eq_true rfl) ?_
  intro p e s m args below meth c Q ls hC hret hl hP
  obtain ⟨hx, hb, hr, hml, hown, hts, hK, -, hlocks⟩ := hC
  have hown : s.vm.findClass RX12 = some m.cls := hown
  have hS : va_S (jA ad) s.heap s.heap [] := va_S.rf
  have hA : ∀ q, jA ad q → jA ad q := fun _ h => h
  have hl : lv_has ls 6 [(0, .long a1), (2, .long a2), (4, .long a3)] := hl
  have g1 := jrgL t1
  have g2 := jrgL t2
  have g3 := jrgL t3
  refine lv_lload_n hx hb dX12_within_0 rfl (lv_at hl 0 rfl) ?_
  refine lv_lload_n hx hb dX12_within_1 rfl (lv_at hl 1 rfl) ?_
  refine W.lcmp hx hb dX12_within_2 ?_
  refine lv_if_lt (tgt := 17) hx hb dX12_within_3 (by decide) (fun c1 => ?_) (fun c1 => ?_)
  · have kc1 := jclt c1 t1 t2
    refine lv_iconst (v := 0) hx hb dX12_within_17 (by decide) ?_
    exact hret 0 σ τ _ _ _ _ rfl ⟨⟨rfl, rfl⟩, Or.inr (⟨rfl, by omega⟩)⟩ hP hS dX12_within_18
  · have kc1 := jcnlt c1 t1 t2
    refine lv_lload_n hx hb dX12_within_6 rfl (lv_at hl 0 rfl) ?_
    refine lv_lload hx hb dX12_within_7 (lv_at hl 2 rfl) ?_
    refine W.lcmp hx hb dX12_within_9 ?_
    refine lv_if_gt (tgt := 17) hx hb dX12_within_10 (by decide) (fun c2 => ?_) (fun c2 => ?_)
    · have kc2 := jcgt c2 t1 t3
      refine lv_iconst (v := 0) hx hb dX12_within_17 (by decide) ?_
      exact hret 0 σ τ _ _ _ _ rfl ⟨⟨rfl, rfl⟩, Or.inr (⟨rfl, by omega⟩)⟩ hP hS dX12_within_18
    · have kc2 := jcngt c2 t1 t3
      refine lv_iconst (v := 1) hx hb dX12_within_13 (by decide) ?_
      refine lv_goto (tgt := 18) hx hb dX12_within_14 (by decide) ?_
      exact hret 1 σ τ _ _ _ _ rfl ⟨⟨rfl, rfl⟩, Or.inl ⟨rfl, by omega⟩⟩ hP hS dX12_within_18
set_option maxHeartbeats 4000000 in
set_option maxRecDepth 100000 in
theorem c_X11_noBowler (l : Launch) (D : va_G) (cI cL : ClassId) (ad : Nat → Nat) (hJ : jD ad) (σ : Nat → Nat → Int32) (τ : Nat → Nat → Int64) (a1 : Int32) (A1 : Int) (t1 : a1.toInt = A1) (h2_0 : σ 2 0 = 0) : jM l yX11_noBowler cX11_noBowler 2 (some .boolean) ({ frames := 1, cells := 0, slots := 0, locals := 22 }) D cI cL ad [.ref (ad 0), .int a1] σ τ (fun r σ' τ' => (σ = σ' ∧ τ = τ') ∧ ((r = 1 ∧ True))) := by
  refine jM.of hJ (by decide +kernel) (nt := .boolean) rfl (Nat.le_of_ble_eq_true rfl) ?_
  intro p e s m args below meth c Q ls hC hret hl hP
  obtain ⟨hx, hb, hr, hml, hown, hts, hK, -, hlocks⟩ := hC
  have hown : s.vm.findClass RX11 = some m.cls := hown
  have hS : va_S (jA ad) s.heap s.heap [] := va_S.rf
  have hA : ∀ q, jA ad q → jA ad q := fun _ h => h
  have hl : lv_has ls 2 [(0, .ref (ad 0)), (1, .int a1)] := hl
  have g1 := jrg t1
  refine lv_iload_n hx hb dX11_noBowler_0 rfl (lv_at hl 1 rfl) ?_
  refine lv_iconst (v := 0) hx hb dX11_noBowler_1 (by decide) ?_
  refine lv_aload_n hx hb dX11_noBowler_2 rfl (lv_at hl 0 rfl) ?_
  refine va_get (D := D) hx hb hts inlX11 hown hK hP 0 (jc_0 cI cL ad σ τ) rfl 0 (by decide) (hts _ kw_1_16) (fun _ h9 => h9) rfl dX11_noBowler_3 ?_
  refine va_get (D := D) hx hb hts inlX4 hown hK hP 2 (jc_2 cI cL ad σ τ) rfl 0 (by decide) (hts _ kw_8_21) (fun _ h9 => h9) rfl dX11_noBowler_6 ?_
  refine jtopr h2_0 ?_
  refine lv_iconst (v := 1) hx hb dX11_noBowler_9 (by decide) ?_
  refine lv_isub hx hb dX11_noBowler_10 ?_
  refine jtopr (y := (-1)) (by decide) ?_
  refine jcallS (As := [.int a1, .int 0, .int (-1)]) (rest := []) ⟨hx, hb, hml, hown, hts⟩ hK hP hA hS (c_X11_outside l D cI cL ad hJ σ τ a1 (A1) t1 0 (0) jz_0 (-1) ((-1)) jz_m1) cw_RX11_94 ⟨Nat.le_of_ble_eq_true rfl, Nat.le_of_ble_eq_true rfl⟩ rfl rfl rfl hl.1 rfl (Nat.le_of_ble_eq_true rfl) dX11_noBowler_11 ⟨Nat.zero_le _, Nat.zero_le _⟩ (fun r2 σ1 τ1 H locs h1 hP hS => ?_)
  obtain ⟨⟨rfl, rfl⟩, h1⟩ := h1
  rcases h1 with h3 | h4
  · obtain ⟨q6, k5⟩ := h3
    have q6 := q6.symm
    subst q6
    exact hret 1 σ τ _ _ _ _ rfl ⟨⟨rfl, rfl⟩, ⟨rfl, trivial⟩⟩ hP hS dX11_noBowler_14
  · obtain ⟨q8, k7⟩ := h4
    exact absurd (by omega : False) id
set_option maxHeartbeats 4000000 in
set_option maxRecDepth 100000 in
theorem c_X11_noRule (l : Launch) (D : va_G) (cI cL : ClassId) (ad : Nat → Nat) (hJ : jD ad) (σ : Nat → Nat → Int32) (τ : Nat → Nat → Int64) (a1 : Int32) (A1 : Int) (t1 : a1.toInt = A1) (h38_0 : σ 38 0 = 0) : jM l yX11_noRule cX11_noRule 2 (some .boolean) ({ frames := 1, cells := 0, slots := 0, locals := 22 }) D cI cL ad [.ref (ad 0), .int a1] σ τ (fun r σ' τ' => (σ = σ' ∧ τ = τ') ∧ ((r = 1 ∧ True))) := by
  refine jM.of hJ (by decide +kernel) (nt := .boolean) rfl (Nat.le_of_ble_eq_true rfl) ?_
  intro p e s m args below meth c Q ls hC hret hl hP
  obtain ⟨hx, hb, hr, hml, hown, hts, hK, -, hlocks⟩ := hC
  have hown : s.vm.findClass RX11 = some m.cls := hown
  have hS : va_S (jA ad) s.heap s.heap [] := va_S.rf
  have hA : ∀ q, jA ad q → jA ad q := fun _ h => h
  have hl : lv_has ls 2 [(0, .ref (ad 0)), (1, .int a1)] := hl
  have g1 := jrg t1
  refine lv_iload_n hx hb dX11_noRule_0 rfl (lv_at hl 1 rfl) ?_
  refine lv_iconst (v := 0) hx hb dX11_noRule_1 (by decide) ?_
  refine lv_aload_n hx hb dX11_noRule_2 rfl (lv_at hl 0 rfl) ?_
  refine va_get (D := D) hx hb hts inlX11 hown hK hP 0 (jc_0 cI cL ad σ τ) rfl 7 (by decide) (hts _ kw_2_17) (fun _ h9 => h9) rfl dX11_noRule_3 ?_
  refine va_get (D := D) hx hb hts inlX8 hown hK hP 38 (jc_38 cI cL ad σ τ) rfl 0 (by decide) (hts _ kw_24_8) (fun _ h9 => h9) rfl dX11_noRule_6 ?_
  refine jtopr h38_0 ?_
  refine lv_iconst (v := 1) hx hb dX11_noRule_9 (by decide) ?_
  refine lv_isub hx hb dX11_noRule_10 ?_
  refine jtopr (y := (-1)) (by decide) ?_
  refine jcallS (As := [.int a1, .int 0, .int (-1)]) (rest := []) ⟨hx, hb, hml, hown, hts⟩ hK hP hA hS (c_X11_outside l D cI cL ad hJ σ τ a1 (A1) t1 0 (0) jz_0 (-1) ((-1)) jz_m1) cw_RX11_94 ⟨Nat.le_of_ble_eq_true rfl, Nat.le_of_ble_eq_true rfl⟩ rfl rfl rfl hl.1 rfl (Nat.le_of_ble_eq_true rfl) dX11_noRule_11 ⟨Nat.zero_le _, Nat.zero_le _⟩ (fun r2 σ1 τ1 H locs h1 hP hS => ?_)
  obtain ⟨⟨rfl, rfl⟩, h1⟩ := h1
  rcases h1 with h3 | h4
  · obtain ⟨q6, k5⟩ := h3
    have q6 := q6.symm
    subst q6
    exact hret 1 σ τ _ _ _ _ rfl ⟨⟨rfl, rfl⟩, ⟨rfl, trivial⟩⟩ hP hS dX11_noRule_14
  · obtain ⟨q8, k7⟩ := h4
    exact absurd (by omega : False) id
set_option maxHeartbeats 4000000 in
set_option maxRecDepth 100000 in
theorem c_X11_noShelf (l : Launch) (D : va_G) (cI cL : ClassId) (ad : Nat → Nat) (hJ : jD ad) (σ : Nat → Nat → Int32) (τ : Nat → Nat → Int64) (a1 : Int32) (A1 : Int) (t1 : a1.toInt = A1) : jM l yX11_noShelf cX11_noShelf 1 (some .boolean) ({ frames := 1, cells := 0, slots := 0, locals := 22 }) D cI cL ad [.int a1] σ τ (fun r σ' τ' => (σ = σ' ∧ τ = τ') ∧ ((r = 1 ∧ ((A1 < 0) ∨ (5 < A1))) ∨ (r = 0 ∧ (0 ≤ A1 ∧ A1 ≤ 5)))) := by
  refine jM.of hJ (by decide +kernel) (nt := .boolean) rfl (Nat.le_of_ble_eq_true rfl) ?_
  intro p e s m args below meth c Q ls hC hret hl hP
  obtain ⟨hx, hb, hr, hml, hown, hts, hK, -, hlocks⟩ := hC
  have hown : s.vm.findClass RX11 = some m.cls := hown
  have hS : va_S (jA ad) s.heap s.heap [] := va_S.rf
  have hA : ∀ q, jA ad q → jA ad q := fun _ h => h
  have hl : lv_has ls 1 [(0, .int a1)] := hl
  have g1 := jrg t1
  refine lv_iload_n hx hb dX11_noShelf_0 rfl (lv_at hl 0 rfl) ?_
  refine lv_iconst (v := 0) hx hb dX11_noShelf_1 (by decide) ?_
  refine lv_iconst (v := 5) hx hb dX11_noShelf_2 (by decide) ?_
  refine jcallS (As := [.int a1, .int 0, .int 5]) (rest := []) ⟨hx, hb, hml, hown, hts⟩ hK hP hA hS (c_X11_outside l D cI cL ad hJ σ τ a1 (A1) t1 0 (0) jz_0 5 (5) jz_5) cw_RX11_94 ⟨Nat.le_of_ble_eq_true rfl, Nat.le_of_ble_eq_true rfl⟩ rfl rfl rfl hl.1 rfl (Nat.le_of_ble_eq_true rfl) dX11_noShelf_3 ⟨Nat.zero_le _, Nat.zero_le _⟩ (fun r2 σ1 τ1 H locs h1 hP hS => ?_)
  obtain ⟨⟨rfl, rfl⟩, h1⟩ := h1
  rcases h1 with h3 | h4
  · obtain ⟨q6, k5⟩ := h3
    have q6 := q6.symm
    subst q6
    exact hret 1 σ τ _ _ _ _ rfl ⟨⟨rfl, rfl⟩, Or.inl ⟨rfl, by omega⟩⟩ hP hS dX11_noShelf_6
  · obtain ⟨q8, k7⟩ := h4
    have q8 := q8.symm
    subst q8
    exact hret 0 σ τ _ _ _ _ rfl ⟨⟨rfl, rfl⟩, Or.inr (⟨rfl, by omega⟩)⟩ hP hS dX11_noShelf_6
set_option maxHeartbeats 4000000 in
set_option maxRecDepth 100000 in
theorem c_X4_join_2 (l : Launch) (D : va_G) (cI cL : ClassId) (ad : Nat → Nat) (hJ : jD ad) (σ : Nat → Nat → Int32) (τ : Nat → Nat → Int64) (a1 : Int32) (A1 : Int) (t1 : a1.toInt = A1) (a2 : Int32) (A2 : Int) (t2 : a2.toInt = A2) (a3 : Int32) (A3 : Int) (t3 : a3.toInt = A3) (h2_0 : σ 2 0 = 0) : jM l yX4_join cX4_join 6 (some .int) ({ frames := 0, cells := 0, slots := 0, locals := 0 }) D cI cL ad [.ref (ad 2), .int a1, .int a2, .int a3] σ τ (fun r σ' τ' => (∀ i : Nat, (i < 2 ∨ 5 < i) → σ' i = σ i) ∧ ((r = 0 ∧ True))) := by
  refine jM.of hJ (by decide +kernel) (nt := .int) rfl (Nat.le_of_ble_eq_true rfl) ?_
  intro p e s m args below meth c Q ls hC hret hl hP
  obtain ⟨hx, hb, hr, hml, hown, hts, hK, -, hlocks⟩ := hC
  have hown : s.vm.findClass RX4 = some m.cls := hown
  have hS : va_S (jA ad) s.heap s.heap [] := va_S.rf
  have hA : ∀ q, jA ad q → jA ad q := fun _ h => h
  have hl : lv_has ls 6 [(0, .ref (ad 2)), (1, .int a1), (2, .int a2), (3, .int a3)] := hl
  have g1 := jrg t1
  have g2 := jrg t2
  have g3 := jrg t3
  refine lv_aload_n hx hb dX4_join_0 rfl (lv_at hl 0 rfl) ?_
  refine va_get (D := D) hx hb hts inlX4 hown hK hP 2 (jc_2 cI cL ad σ τ) rfl 0 (by decide) (hts _ kw_9_5) (fun _ h9 => h9) rfl dX4_join_1 ?_
  refine jtopr h2_0 ?_
  refine lv_istore (lv' := [(4, .int 0), (0, .ref (ad 2)), (1, .int a1), (2, .int a2), (3, .int a3)]) hx hb dX4_join_4 hl (by decide) rfl (fun ls hl => ?_)
  refine lv_iload hx hb dX4_join_6 (lv_at hl 0 rfl) ?_
  refine lv_iconst (v := 4) hx hb dX4_join_8 (by decide) ?_
  refine lv_icmp_lt (tgt := 15) hx hb dX4_join_9 (by decide) (fun _ => ?_) (fun c => absurd (by decide) c)
  refine lv_aload_n hx hb dX4_join_15 rfl (lv_at hl 1 rfl) ?_
  refine va_get (D := D) hx hb hts inlX4 hown hK hP 2 (jc_2 cI cL ad σ τ) rfl 5 (by decide) (hts _ kw_3_12) (fun _ h9 => h9) rfl dX4_join_16 ?_
  refine lv_iload hx hb dX4_join_19 (lv_at hl 0 rfl) ?_
  refine lv_iload_n hx hb dX4_join_21 rfl (lv_at hl 3 rfl) ?_
  refine jast hx hb hK hP hJ hA hS (jc_4 cI cL ad σ τ) (ja_4 cI cL ad σ τ _ _) (jin jz_0 (by omega) (by omega)) dX4_join_22 (fun σ1 H locs eσ1 hP hS => ?_)
  have eσ1 : σ1 = jup σ 4 0 a2 := eσ1
  refine lv_aload_n hx hb dX4_join_23 rfl (lv_at hl 1 rfl) ?_
  refine va_get (D := D) hx hb hts inlX4 hown hK hP 2 (jc_2 cI cL ad σ1 τ) rfl 6 (by decide) (hts _ kw_3_13) (fun _ h9 => h9) rfl dX4_join_24 ?_
  refine lv_iload hx hb dX4_join_27 (lv_at hl 0 rfl) ?_
  refine lv_iload_n hx hb dX4_join_29 rfl (lv_at hl 4 rfl) ?_
  refine jast hx hb hK hP hJ hA hS (jc_5 cI cL ad σ1 τ) (ja_5 cI cL ad σ1 τ _ _) (jin jz_0 (by omega) (by omega)) dX4_join_30 (fun σ2 H locs eσ2 hP hS => ?_)
  have eσ2 : σ2 = jup σ1 5 0 a3 := eσ2
  refine lv_aload_n hx hb dX4_join_31 rfl (lv_at hl 1 rfl) ?_
  refine va_get (D := D) hx hb hts inlX4 hown hK hP 2 (jc_2 cI cL ad σ2 τ) rfl 4 (by decide) (hts _ kw_3_11) (fun _ h9 => h9) rfl dX4_join_32 ?_
  refine lv_bipush (v := 32) hx hb dX4_join_35 (by decide) ?_
  refine lv_iload hx hb dX4_join_37 (lv_at hl 0 rfl) ?_
  refine lv_iadd hx hb dX4_join_39 ?_
  refine jtopr (y := 32) (by decide) ?_
  refine lv_iload_n hx hb dX4_join_40 rfl (lv_at hl 2 rfl) ?_
  refine jast hx hb hK hP hJ hA hS (jc_3 cI cL ad σ2 τ) (ja_3 cI cL ad σ2 τ _ _) (jin jz_32 (by omega) (by omega)) dX4_join_41 (fun σ3 H locs eσ3 hP hS => ?_)
  have eσ3 : σ3 = jup σ2 3 32 a1 := eσ3
  refine lv_iconst (v := 0) hx hb dX4_join_42 (by decide) ?_
  refine lv_istore (lv' := [(5, .int 0), (4, .int 0), (0, .ref (ad 2)), (1, .int a1), (2, .int a2), (3, .int a3)]) hx hb dX4_join_43 hl (by decide) rfl (fun ls hl => ?_)
  refine lv_iload hx hb dX4_join_45 (lv_at hl 0 rfl) ?_
  refine lv_iconst (v := 4) hx hb dX4_join_47 (by decide) ?_
  refine lv_icmp_ge (tgt := 73) hx hb dX4_join_48 (by decide) (fun c => absurd c (by decide)) (fun _ => ?_)
  refine lv_aload_n hx hb dX4_join_51 rfl (lv_at hl 2 rfl) ?_
  refine va_get (D := D) hx hb hts inlX4 hown hK hP 2 (jc_2 cI cL ad σ3 τ) rfl 4 (by decide) (hts _ kw_3_11) (fun _ h9 => h9) rfl dX4_join_52 ?_
  refine lv_iconst (v := 0) hx hb dX4_join_55 (by decide) ?_
  refine lv_iload hx hb dX4_join_56 (lv_at hl 1 rfl) ?_
  refine lv_iconst (v := 4) hx hb dX4_join_58 (by decide) ?_
  refine lv_imul hx hb dX4_join_59 ?_
  refine jtopr (y := 0) (by decide) ?_
  refine lv_iadd hx hb dX4_join_60 ?_
  refine jtopr (y := 0) (by decide) ?_
  refine lv_iload hx hb dX4_join_61 (lv_at hl 0 rfl) ?_
  refine lv_iadd hx hb dX4_join_63 ?_
  refine jtopr (y := 0) (by decide) ?_
  refine lv_bipush (v := 100) hx hb dX4_join_64 (by decide) ?_
  refine jast hx hb hK hP hJ hA hS (jc_3 cI cL ad σ3 τ) (ja_3 cI cL ad σ3 τ _ _) (jin jz_0 (by omega) (by omega)) dX4_join_66 (fun σ4 H locs eσ4 hP hS => ?_)
  have eσ4 : σ4 = jup σ3 3 0 100 := eσ4
  refine lv_iinc (v := 1) (lv' := [(5, .int 1), (4, .int 0), (0, .ref (ad 2)), (1, .int a1), (2, .int a2), (3, .int a3)]) hx hb dX4_join_67 hl (k := 0) rfl (by decide) (by decide) rfl (fun ls hl => ?_)
  refine lv_goto (tgt := 45) hx hb dX4_join_70 (by decide) ?_
  refine lv_iload hx hb dX4_join_45 (lv_at hl 0 rfl) ?_
  refine lv_iconst (v := 4) hx hb dX4_join_47 (by decide) ?_
  refine lv_icmp_ge (tgt := 73) hx hb dX4_join_48 (by decide) (fun c => absurd c (by decide)) (fun _ => ?_)
  refine lv_aload_n hx hb dX4_join_51 rfl (lv_at hl 2 rfl) ?_
  refine va_get (D := D) hx hb hts inlX4 hown hK hP 2 (jc_2 cI cL ad σ4 τ) rfl 4 (by decide) (hts _ kw_3_11) (fun _ h9 => h9) rfl dX4_join_52 ?_
  refine lv_iconst (v := 0) hx hb dX4_join_55 (by decide) ?_
  refine lv_iload hx hb dX4_join_56 (lv_at hl 1 rfl) ?_
  refine lv_iconst (v := 4) hx hb dX4_join_58 (by decide) ?_
  refine lv_imul hx hb dX4_join_59 ?_
  refine jtopr (y := 0) (by decide) ?_
  refine lv_iadd hx hb dX4_join_60 ?_
  refine jtopr (y := 0) (by decide) ?_
  refine lv_iload hx hb dX4_join_61 (lv_at hl 0 rfl) ?_
  refine lv_iadd hx hb dX4_join_63 ?_
  refine jtopr (y := 1) (by decide) ?_
  refine lv_bipush (v := 100) hx hb dX4_join_64 (by decide) ?_
  refine jast hx hb hK hP hJ hA hS (jc_3 cI cL ad σ4 τ) (ja_3 cI cL ad σ4 τ _ _) (jin jz_1 (by omega) (by omega)) dX4_join_66 (fun σ5 H locs eσ5 hP hS => ?_)
  have eσ5 : σ5 = jup σ4 3 1 100 := eσ5
  refine lv_iinc (v := 2) (lv' := [(5, .int 2), (4, .int 0), (0, .ref (ad 2)), (1, .int a1), (2, .int a2), (3, .int a3)]) hx hb dX4_join_67 hl (k := 0) rfl (by decide) (by decide) rfl (fun ls hl => ?_)
  refine lv_goto (tgt := 45) hx hb dX4_join_70 (by decide) ?_
  refine lv_iload hx hb dX4_join_45 (lv_at hl 0 rfl) ?_
  refine lv_iconst (v := 4) hx hb dX4_join_47 (by decide) ?_
  refine lv_icmp_ge (tgt := 73) hx hb dX4_join_48 (by decide) (fun c => absurd c (by decide)) (fun _ => ?_)
  refine lv_aload_n hx hb dX4_join_51 rfl (lv_at hl 2 rfl) ?_
  refine va_get (D := D) hx hb hts inlX4 hown hK hP 2 (jc_2 cI cL ad σ5 τ) rfl 4 (by decide) (hts _ kw_3_11) (fun _ h9 => h9) rfl dX4_join_52 ?_
  refine lv_iconst (v := 0) hx hb dX4_join_55 (by decide) ?_
  refine lv_iload hx hb dX4_join_56 (lv_at hl 1 rfl) ?_
  refine lv_iconst (v := 4) hx hb dX4_join_58 (by decide) ?_
  refine lv_imul hx hb dX4_join_59 ?_
  refine jtopr (y := 0) (by decide) ?_
  refine lv_iadd hx hb dX4_join_60 ?_
  refine jtopr (y := 0) (by decide) ?_
  refine lv_iload hx hb dX4_join_61 (lv_at hl 0 rfl) ?_
  refine lv_iadd hx hb dX4_join_63 ?_
  refine jtopr (y := 2) (by decide) ?_
  refine lv_bipush (v := 100) hx hb dX4_join_64 (by decide) ?_
  refine jast hx hb hK hP hJ hA hS (jc_3 cI cL ad σ5 τ) (ja_3 cI cL ad σ5 τ _ _) (jin jz_2 (by omega) (by omega)) dX4_join_66 (fun σ6 H locs eσ6 hP hS => ?_)
  have eσ6 : σ6 = jup σ5 3 2 100 := eσ6
  refine lv_iinc (v := 3) (lv' := [(5, .int 3), (4, .int 0), (0, .ref (ad 2)), (1, .int a1), (2, .int a2), (3, .int a3)]) hx hb dX4_join_67 hl (k := 0) rfl (by decide) (by decide) rfl (fun ls hl => ?_)
  refine lv_goto (tgt := 45) hx hb dX4_join_70 (by decide) ?_
  refine lv_iload hx hb dX4_join_45 (lv_at hl 0 rfl) ?_
  refine lv_iconst (v := 4) hx hb dX4_join_47 (by decide) ?_
  refine lv_icmp_ge (tgt := 73) hx hb dX4_join_48 (by decide) (fun c => absurd c (by decide)) (fun _ => ?_)
  refine lv_aload_n hx hb dX4_join_51 rfl (lv_at hl 2 rfl) ?_
  refine va_get (D := D) hx hb hts inlX4 hown hK hP 2 (jc_2 cI cL ad σ6 τ) rfl 4 (by decide) (hts _ kw_3_11) (fun _ h9 => h9) rfl dX4_join_52 ?_
  refine lv_iconst (v := 0) hx hb dX4_join_55 (by decide) ?_
  refine lv_iload hx hb dX4_join_56 (lv_at hl 1 rfl) ?_
  refine lv_iconst (v := 4) hx hb dX4_join_58 (by decide) ?_
  refine lv_imul hx hb dX4_join_59 ?_
  refine jtopr (y := 0) (by decide) ?_
  refine lv_iadd hx hb dX4_join_60 ?_
  refine jtopr (y := 0) (by decide) ?_
  refine lv_iload hx hb dX4_join_61 (lv_at hl 0 rfl) ?_
  refine lv_iadd hx hb dX4_join_63 ?_
  refine jtopr (y := 3) (by decide) ?_
  refine lv_bipush (v := 100) hx hb dX4_join_64 (by decide) ?_
  refine jast hx hb hK hP hJ hA hS (jc_3 cI cL ad σ6 τ) (ja_3 cI cL ad σ6 τ _ _) (jin jz_3 (by omega) (by omega)) dX4_join_66 (fun σ7 H locs eσ7 hP hS => ?_)
  have eσ7 : σ7 = jup σ6 3 3 100 := eσ7
  refine lv_iinc (v := 4) (lv' := [(5, .int 4), (4, .int 0), (0, .ref (ad 2)), (1, .int a1), (2, .int a2), (3, .int a3)]) hx hb dX4_join_67 hl (k := 0) rfl (by decide) (by decide) rfl (fun ls hl => ?_)
  refine lv_goto (tgt := 45) hx hb dX4_join_70 (by decide) ?_
  refine lv_iload hx hb dX4_join_45 (lv_at hl 0 rfl) ?_
  refine lv_iconst (v := 4) hx hb dX4_join_47 (by decide) ?_
  refine lv_icmp_ge (tgt := 73) hx hb dX4_join_48 (by decide) (fun _ => ?_) (fun c => absurd (by decide) c)
  refine lv_aload_n hx hb dX4_join_73 rfl (lv_at hl 2 rfl) ?_
  refine lv_dup hx hb dX4_join_74 rfl ?_
  refine va_get (D := D) hx hb hts inlX4 hown hK hP 2 (jc_2 cI cL ad σ7 τ) rfl 0 (by decide) (hts _ kw_9_5) (fun _ h9 => h9) rfl dX4_join_75 ?_
  have m8 : σ7 2 0 = 0 := (by rw [eσ7, jup_n (by decide)]; exact (by rw [eσ6, jup_n (by decide)]; exact (by rw [eσ5, jup_n (by decide)]; exact (by rw [eσ4, jup_n (by decide)]; exact (by rw [eσ3, jup_n (by decide)]; exact (by rw [eσ2, jup_n (by decide)]; exact (by rw [eσ1, jup_n (by decide)]; exact h2_0)))))))
  refine jtopr m8 ?_
  refine lv_iconst (v := 1) hx hb dX4_join_78 (by decide) ?_
  refine lv_iadd hx hb dX4_join_79 ?_
  refine jtopr (y := 1) (by decide) ?_
  refine jput (ty := .int) hx hb hts inlX4 tyX4 tyX4_ok nmX4 hown hK hP hJ hA hS (jc_2 cI cL ad σ7 τ) rfl (k := 0) (by decide) (Nat.le_of_ble_eq_true rfl) (jp_2_0 cI cL ad σ7 τ 1) (hts _ kw_9_5) (fun _ h9 => h9) rfl (by decide +kernel) rfl rfl dX4_join_80 (fun σ9 H locs eσ9 hP hS => ?_)
  refine lv_iload hx hb dX4_join_83 (lv_at hl 1 rfl) ?_
  exact hret 0 σ9 τ _ _ _ _ rfl ⟨(fun i hi => by rw [eσ9, jup_n (by omega), eσ7, jup_n (by omega), eσ6, jup_n (by omega), eσ5, jup_n (by omega), eσ4, jup_n (by omega), eσ3, jup_n (by omega), eσ2, jup_n (by omega), eσ1, jup_n (by omega)]), ⟨rfl, trivial⟩⟩ hP hS dX4_join_85
set_option maxHeartbeats 4000000 in
set_option maxRecDepth 100000 in
theorem c_X11_bowler (l : Launch) (D : va_G) (cI cL : ClassId) (ad : Nat → Nat) (hJ : jD ad) (σ : Nat → Nat → Int32) (τ : Nat → Nat → Int64) (a1 : Int32) (A1 : Int) (t1 : a1.toInt = A1) (a2 : Int32) (A2 : Int) (t2 : a2.toInt = A2) (a3 : Int32) (A3 : Int) (t3 : a3.toInt = A3) (h2_0 : σ 2 0 = 0) : jM l yX11_bowler cX11_bowler 4 (some .int) ({ frames := 1, cells := 0, slots := 0, locals := 25 }) D cI cL ad [.ref (ad 0), .int a1, .int a2, .int a3] σ τ (fun r σ' τ' => (∀ i : Nat, (i < 0 ∨ 54 < i) → σ' i = σ i) ∧ r = (if 0 ≤ A1 ∧ A1 ≤ 8 ∧ 0 ≤ A2 ∧ A2 ≤ 50 ∧ 0 ≤ A3 ∧ A3 ≤ 20 then 0 else -1)) := by
  refine jM.of hJ (by decide +kernel) (nt := .int) rfl (Nat.le_of_ble_eq_true rfl) ?_
  intro p e s m args below meth c Q ls hC hret hl hP
  obtain ⟨hx, hb, hr, hml, hown, hts, hK, -, hlocks⟩ := hC
  have hown : s.vm.findClass RX11 = some m.cls := hown
  have hS : va_S (jA ad) s.heap s.heap [] := va_S.rf
  have hA : ∀ q, jA ad q → jA ad q := fun _ h => h
  have hl : lv_has ls 4 [(0, .ref (ad 0)), (1, .int a1), (2, .int a2), (3, .int a3)] := hl
  have g1 := jrg t1
  have g2 := jrg t2
  have g3 := jrg t3
  refine lv_iload_n hx hb dX11_bowler_0 rfl (lv_at hl 1 rfl) ?_
  refine lv_iconst (v := 0) hx hb dX11_bowler_1 (by decide) ?_
  refine lv_bipush (v := 8) hx hb dX11_bowler_2 (by decide) ?_
  refine jcallS (As := [.int a1, .int 0, .int 8]) (rest := []) ⟨hx, hb, hml, hown, hts⟩ hK hP hA hS (c_X11_outside l D cI cL ad hJ σ τ a1 (A1) t1 0 (0) jz_0 8 (8) jz_8) cw_RX11_94 ⟨Nat.le_of_ble_eq_true rfl, Nat.le_of_ble_eq_true rfl⟩ rfl rfl rfl hl.1 rfl (Nat.le_of_ble_eq_true rfl) dX11_bowler_4 ⟨Nat.zero_le _, Nat.zero_le _⟩ (fun r2 σ1 τ1 H locs h1 hP hS => ?_)
  obtain ⟨⟨rfl, rfl⟩, h1⟩ := h1
  rcases h1 with h3 | h4
  · obtain ⟨q6, k5⟩ := h3
    have q6 := q6.symm
    subst q6
    refine lv_if_ne (tgt := 30) hx hb dX11_bowler_7 (by decide) (fun _ => ?_) (fun c => absurd c (by decide))
    refine lv_iconst (v := (-1)) hx hb dX11_bowler_30 (by decide) ?_
    exact hret (-1) σ τ _ _ _ _ rfl ⟨(fun _ _ => rfl), (by (repeat' split) <;> first | rfl | omega | exact jsame jz_m1 t1 (by omega) | exact jsame jz_m1 t2 (by omega) | exact jsame jz_m1 t3 (by omega) | (exfalso; omega))⟩ hP hS dX11_bowler_31
  · obtain ⟨q8, k7⟩ := h4
    have q8 := q8.symm
    subst q8
    refine lv_if_ne (tgt := 30) hx hb dX11_bowler_7 (by decide) (fun c => absurd (by decide) c) (fun _ => ?_)
    refine lv_iload_n hx hb dX11_bowler_10 rfl (lv_at hl 2 rfl) ?_
    refine lv_iconst (v := 0) hx hb dX11_bowler_11 (by decide) ?_
    refine lv_bipush (v := 50) hx hb dX11_bowler_12 (by decide) ?_
    refine jcallS (As := [.int a2, .int 0, .int 50]) (rest := []) ⟨hx, hb, hml, hown, hts⟩ hK hP hA hS (c_X11_outside l D cI cL ad hJ σ τ a2 (A2) t2 0 (0) jz_0 50 (50) jz_50) cw_RX11_94 ⟨Nat.le_of_ble_eq_true rfl, Nat.le_of_ble_eq_true rfl⟩ rfl rfl rfl hl.1 rfl (Nat.le_of_ble_eq_true rfl) dX11_bowler_14 ⟨Nat.zero_le _, Nat.zero_le _⟩ (fun r10 σ9 τ9 H locs h9 hP hS => ?_)
    obtain ⟨⟨rfl, rfl⟩, h9⟩ := h9
    rcases h9 with h11 | h12
    · obtain ⟨q14, k13⟩ := h11
      have q14 := q14.symm
      subst q14
      refine lv_if_ne (tgt := 30) hx hb dX11_bowler_17 (by decide) (fun _ => ?_) (fun c => absurd c (by decide))
      refine lv_iconst (v := (-1)) hx hb dX11_bowler_30 (by decide) ?_
      exact hret (-1) σ τ _ _ _ _ rfl ⟨(fun _ _ => rfl), (by (repeat' split) <;> first | rfl | omega | exact jsame jz_m1 t1 (by omega) | exact jsame jz_m1 t2 (by omega) | exact jsame jz_m1 t3 (by omega) | (exfalso; omega))⟩ hP hS dX11_bowler_31
    · obtain ⟨q16, k15⟩ := h12
      have q16 := q16.symm
      subst q16
      refine lv_if_ne (tgt := 30) hx hb dX11_bowler_17 (by decide) (fun c => absurd (by decide) c) (fun _ => ?_)
      refine lv_iload_n hx hb dX11_bowler_20 rfl (lv_at hl 3 rfl) ?_
      refine lv_iconst (v := 0) hx hb dX11_bowler_21 (by decide) ?_
      refine lv_bipush (v := 20) hx hb dX11_bowler_22 (by decide) ?_
      refine jcallS (As := [.int a3, .int 0, .int 20]) (rest := []) ⟨hx, hb, hml, hown, hts⟩ hK hP hA hS (c_X11_outside l D cI cL ad hJ σ τ a3 (A3) t3 0 (0) jz_0 20 (20) jz_20) cw_RX11_94 ⟨Nat.le_of_ble_eq_true rfl, Nat.le_of_ble_eq_true rfl⟩ rfl rfl rfl hl.1 rfl (Nat.le_of_ble_eq_true rfl) dX11_bowler_24 ⟨Nat.zero_le _, Nat.zero_le _⟩ (fun r18 σ17 τ17 H locs h17 hP hS => ?_)
      obtain ⟨⟨rfl, rfl⟩, h17⟩ := h17
      rcases h17 with h19 | h20
      · obtain ⟨q22, k21⟩ := h19
        have q22 := q22.symm
        subst q22
        refine lv_if_eq (tgt := 32) hx hb dX11_bowler_27 (by decide) (fun c => absurd c (by decide)) (fun _ => ?_)
        refine lv_iconst (v := (-1)) hx hb dX11_bowler_30 (by decide) ?_
        exact hret (-1) σ τ _ _ _ _ rfl ⟨(fun _ _ => rfl), (by (repeat' split) <;> first | rfl | omega | exact jsame jz_m1 t1 (by omega) | exact jsame jz_m1 t2 (by omega) | exact jsame jz_m1 t3 (by omega) | (exfalso; omega))⟩ hP hS dX11_bowler_31
      · obtain ⟨q24, k23⟩ := h20
        have q24 := q24.symm
        subst q24
        refine lv_if_eq (tgt := 32) hx hb dX11_bowler_27 (by decide) (fun _ => ?_) (fun c => absurd (by decide) c)
        refine lv_aload_n hx hb dX11_bowler_32 rfl (lv_at hl 0 rfl) ?_
        refine va_get (D := D) hx hb hts inlX11 hown hK hP 0 (jc_0 cI cL ad σ τ) rfl 0 (by decide) (hts _ kw_1_16) (fun _ h9 => h9) rfl dX11_bowler_33 ?_
        refine va_get (D := D) hx hb hts inlX4 hown hK hP 2 (jc_2 cI cL ad σ τ) rfl 0 (by decide) (hts _ kw_8_21) (fun _ h9 => h9) rfl dX11_bowler_36 ?_
        refine jtopr h2_0 ?_
        refine lv_iconst (v := 4) hx hb dX11_bowler_39 (by decide) ?_
        refine lv_icmp_lt (tgt := 46) hx hb dX11_bowler_40 (by decide) (fun _ => ?_) (fun c => absurd (by decide) c)
        refine lv_aload_n hx hb dX11_bowler_46 rfl (lv_at hl 0 rfl) ?_
        refine va_get (D := D) hx hb hts inlX11 hown hK hP 0 (jc_0 cI cL ad σ τ) rfl 0 (by decide) (hts _ kw_1_16) (fun _ h9 => h9) rfl dX11_bowler_47 ?_
        refine lv_iload_n hx hb dX11_bowler_50 rfl (lv_at hl 1 rfl) ?_
        refine lv_iload_n hx hb dX11_bowler_51 rfl (lv_at hl 2 rfl) ?_
        refine lv_iload_n hx hb dX11_bowler_52 rfl (lv_at hl 3 rfl) ?_
        refine jcallV (As := [.int a1, .int a2, .int a3]) (rest := []) ⟨hx, hb, hml, hown, hts⟩ hK hP hA hS (c_X4_join_2 l D cI cL ad hJ σ τ a1 (A1) t1 a2 (A2) t2 a3 (A3) t3 h2_0) cw_RX11_102 (jc_2 cI cL ad σ τ) rfl ⟨Nat.le_of_ble_eq_true rfl, Nat.le_of_ble_eq_true rfl⟩ rfl rfl rfl hl.1 rfl (Nat.le_of_ble_eq_true rfl) dX11_bowler_53 ⟨Nat.zero_le _, Nat.zero_le _⟩ (fun r26 σ25 τ25 H locs h25 hP hS => ?_)
        obtain ⟨f27, h25⟩ := h25
        have h28 := h25
        obtain ⟨q30, k29⟩ := h28
        have q30 := q30.symm
        subst q30
        exact hret 0 σ25 τ25 _ _ _ _ rfl ⟨(fun i hi => by rw [f27 i (by omega)]), (by (repeat' split) <;> first | rfl | omega | exact jsame jz_0 t1 (by omega) | exact jsame jz_0 t2 (by omega) | exact jsame jz_0 t3 (by omega) | (exfalso; omega))⟩ hP hS dX11_bowler_56
set_option maxHeartbeats 4000000 in
set_option maxRecDepth 100000 in
theorem c_X11_edgePlace (l : Launch) (D : va_G) (cI cL : ClassId) (ad : Nat → Nat) (hJ : jD ad) (σ : Nat → Nat → Int32) (τ : Nat → Nat → Int64) (a1 : Int32) (A1 : Int) (t1 : a1.toInt = A1) (a2 : Int32) (A2 : Int) (t2 : a2.toInt = A2) (h2_0 : σ 2 0 = 0) : jM l yX11_edgePlace cX11_edgePlace 3 (some .int) ({ frames := 2, cells := 0, slots := 0, locals := 43 }) D cI cL ad [.ref (ad 0), .int a1, .int a2] σ τ (fun r σ' τ' => (σ = σ' ∧ τ = τ') ∧ ((r = (-1) ∧ True))) := by
  refine jM.of hJ (by decide +kernel) (nt := .int) rfl (Nat.le_of_ble_eq_true rfl) ?_
  intro p e s m args below meth c Q ls hC hret hl hP
  obtain ⟨hx, hb, hr, hml, hown, hts, hK, -, hlocks⟩ := hC
  have hown : s.vm.findClass RX11 = some m.cls := hown
  have hS : va_S (jA ad) s.heap s.heap [] := va_S.rf
  have hA : ∀ q, jA ad q → jA ad q := fun _ h => h
  have hl : lv_has ls 3 [(0, .ref (ad 0)), (1, .int a1), (2, .int a2)] := hl
  have g1 := jrg t1
  have g2 := jrg t2
  refine lv_iload_n hx hb dX11_edgePlace_0 rfl (lv_at hl 1 rfl) ?_
  refine lv_if_lt (tgt := 15) hx hb dX11_edgePlace_1 (by decide) (fun c1 => ?_) (fun c1 => ?_)
  · have kc1 := jlt c1 t1 jz_0
    refine lv_iconst (v := (-1)) hx hb dX11_edgePlace_15 (by decide) ?_
    exact hret (-1) σ τ _ _ _ _ rfl ⟨⟨rfl, rfl⟩, ⟨rfl, trivial⟩⟩ hP hS dX11_edgePlace_16
  · have kc1 := jnlt c1 t1 jz_0
    refine lv_aload_n hx hb dX11_edgePlace_4 rfl (lv_at hl 0 rfl) ?_
    refine lv_iload_n hx hb dX11_edgePlace_5 rfl (lv_at hl 1 rfl) ?_
    refine lv_bipush (v := 10) hx hb dX11_edgePlace_6 (by decide) ?_
    refine lv_idiv hx hb dX11_edgePlace_8 (by decide) ?_
    refine lv_topi (fun x2 ex2 => ?_)
    have tx2 : x2.toInt = (A1 / 10) := jdiv ex2 t1 jz_10 (by omega) (by omega)
    refine jcallV (As := [.int x2]) (rest := []) ⟨hx, hb, hml, hown, hts⟩ hK hP hA hS (c_X11_noBowler l D cI cL ad hJ σ τ x2 ((A1 / 10)) tx2 h2_0) cw_RX11_152 (jc_0 cI cL ad σ τ) rfl ⟨Nat.le_of_ble_eq_true rfl, Nat.le_of_ble_eq_true rfl⟩ rfl rfl rfl hl.1 rfl (Nat.le_of_ble_eq_true rfl) dX11_edgePlace_9 ⟨Nat.zero_le _, Nat.zero_le _⟩ (fun r4 σ3 τ3 H locs h3 hP hS => ?_)
    obtain ⟨⟨rfl, rfl⟩, h3⟩ := h3
    have h5 := h3
    obtain ⟨q7, k6⟩ := h5
    have q7 := q7.symm
    subst q7
    refine lv_if_eq (tgt := 17) hx hb dX11_edgePlace_12 (by decide) (fun c => absurd c (by decide)) (fun _ => ?_)
    refine lv_iconst (v := (-1)) hx hb dX11_edgePlace_15 (by decide) ?_
    exact hret (-1) σ τ _ _ _ _ rfl ⟨⟨rfl, rfl⟩, ⟨rfl, trivial⟩⟩ hP hS dX11_edgePlace_16
set_option maxHeartbeats 4000000 in
set_option maxRecDepth 100000 in
theorem c_X11_edge (l : Launch) (D : va_G) (cI cL : ClassId) (ad : Nat → Nat) (hJ : jD ad) (σ : Nat → Nat → Int32) (τ : Nat → Nat → Int64) (a1 : Int32) (A1 : Int) (t1 : a1.toInt = A1) (a2 : Int32) (A2 : Int) (t2 : a2.toInt = A2) (a3 : Int32) (A3 : Int) (t3 : a3.toInt = A3) (h2_0 : σ 2 0 = 0) : jM l yX11_edge cX11_edge 5 (some .int) ({ frames := 3, cells := 0, slots := 0, locals := 65 }) D cI cL ad [.ref (ad 0), .int a1, .int a2, .int a3] σ τ (fun r σ' τ' => (∀ i : Nat, (i < 0 ∨ 54 < i) → σ' i = σ i) ∧ r = (-2000000000)) := by
  refine jM.of hJ (by decide +kernel) (nt := .int) rfl (Nat.le_of_ble_eq_true rfl) ?_
  intro p e s m args below meth c Q ls hC hret hl hP
  obtain ⟨hx, hb, hr, hml, hown, hts, hK, -, hlocks⟩ := hC
  have hown : s.vm.findClass RX11 = some m.cls := hown
  have hS : va_S (jA ad) s.heap s.heap [] := va_S.rf
  have hA : ∀ q, jA ad q → jA ad q := fun _ h => h
  have hl : lv_has ls 5 [(0, .ref (ad 0)), (1, .int a1), (2, .int a2), (3, .int a3)] := hl
  have g1 := jrg t1
  have g2 := jrg t2
  have g3 := jrg t3
  refine lv_aload_n hx hb dX11_edge_0 rfl (lv_at hl 0 rfl) ?_
  refine lv_iload_n hx hb dX11_edge_1 rfl (lv_at hl 1 rfl) ?_
  refine lv_iload_n hx hb dX11_edge_2 rfl (lv_at hl 2 rfl) ?_
  refine jcallV (As := [.int a1, .int a2]) (rest := []) ⟨hx, hb, hml, hown, hts⟩ hK hP hA hS (c_X11_edgePlace l D cI cL ad hJ σ τ a1 (A1) t1 a2 (A2) t2 h2_0) cw_RX11_106 (jc_0 cI cL ad σ τ) rfl ⟨Nat.le_of_ble_eq_true rfl, Nat.le_of_ble_eq_true rfl⟩ rfl rfl rfl hl.1 rfl (Nat.le_of_ble_eq_true rfl) dX11_edge_3 ⟨Nat.zero_le _, Nat.zero_le _⟩ (fun r2 σ1 τ1 H locs h1 hP hS => ?_)
  obtain ⟨⟨rfl, rfl⟩, h1⟩ := h1
  have h3 := h1
  obtain ⟨q5, k4⟩ := h3
  have q5 := q5.symm
  subst q5
  refine lv_istore (lv' := [(4, .int (-1)), (0, .ref (ad 0)), (1, .int a1), (2, .int a2), (3, .int a3)]) hx hb dX11_edge_6 hl (by decide) rfl (fun ls hl => ?_)
  refine lv_iload hx hb dX11_edge_8 (lv_at hl 0 rfl) ?_
  refine lv_if_lt (tgt := 30) hx hb dX11_edge_10 (by decide) (fun _ => ?_) (fun c => absurd (by decide) c)
  refine lv_ldc (v := (-2000000000)) hx hb hown (hts _ kw_9_21) dX11_edge_30 ?_
  exact hret (-2000000000) σ τ _ _ _ _ rfl ⟨(fun _ _ => rfl), (by (repeat' split) <;> first | rfl | omega | exact jsame jz_m2000000000 t1 (by omega) | exact jsame jz_m2000000000 t2 (by omega) | exact jsame jz_m2000000000 t3 (by omega) | (exfalso; omega))⟩ hP hS dX11_edge_32
set_option maxHeartbeats 4000000 in
set_option maxRecDepth 100000 in
theorem c_X4_lowest (l : Launch) (D : va_G) (cI cL : ClassId) (ad : Nat → Nat) (hJ : jD ad) (σ : Nat → Nat → Int32) (τ : Nat → Nat → Int64) (a1 : Int32) (A1 : Int) (t1 : a1.toInt = A1) : jM l yX4_lowest cX4_lowest 1 (some .int) ({ frames := 0, cells := 0, slots := 0, locals := 0 }) D cI cL ad [.int a1] σ τ (fun r σ' τ' => (σ = σ' ∧ τ = τ') ∧ ((r = 0 ∧ ((A1 < 16) ∨ (32 ≤ A1 ∧ A1 < 36))) ∨ (r = (-200) ∧ (36 ≤ A1 ∧ A1 < 52)) ∨ (r = (-9) ∧ ((16 ≤ A1 ∧ A1 < 32) ∨ (52 ≤ A1))))) := by
  refine jM.of hJ (by decide +kernel) (nt := .int) rfl (Nat.le_of_ble_eq_true rfl) ?_
  intro p e s m args below meth c Q ls hC hret hl hP
  obtain ⟨hx, hb, hr, hml, hown, hts, hK, -, hlocks⟩ := hC
  have hown : s.vm.findClass RX4 = some m.cls := hown
  have hS : va_S (jA ad) s.heap s.heap [] := va_S.rf
  have hA : ∀ q, jA ad q → jA ad q := fun _ h => h
  have hl : lv_has ls 1 [(0, .int a1)] := hl
  have g1 := jrg t1
  refine lv_iload_n hx hb dX4_lowest_0 rfl (lv_at hl 0 rfl) ?_
  refine lv_bipush (v := 16) hx hb dX4_lowest_1 (by decide) ?_
  refine lv_icmp_lt (tgt := 18) hx hb dX4_lowest_3 (by decide) (fun c1 => ?_) (fun c1 => ?_)
  · have kc1 := jlt c1 t1 jz_16
    refine lv_iconst (v := 0) hx hb dX4_lowest_18 (by decide) ?_
    exact hret 0 σ τ _ _ _ _ rfl ⟨⟨rfl, rfl⟩, Or.inl ⟨rfl, by omega⟩⟩ hP hS dX4_lowest_19
  · have kc1 := jnlt c1 t1 jz_16
    refine lv_iload_n hx hb dX4_lowest_6 rfl (lv_at hl 0 rfl) ?_
    refine lv_bipush (v := 32) hx hb dX4_lowest_7 (by decide) ?_
    refine lv_icmp_lt (tgt := 20) hx hb dX4_lowest_9 (by decide) (fun c2 => ?_) (fun c2 => ?_)
    · have kc2 := jlt c2 t1 jz_32
      refine lv_iload_n hx hb dX4_lowest_20 rfl (lv_at hl 0 rfl) ?_
      refine lv_bipush (v := 36) hx hb dX4_lowest_21 (by decide) ?_
      refine lv_icmp_lt (tgt := 38) hx hb dX4_lowest_23 (by decide) (fun c3 => ?_) (fun c => absurd (jnlt c t1 jz_36) (by omega))
      have kc3 := jlt c3 t1 jz_36
      refine lv_bipush (v := (-9)) hx hb dX4_lowest_38 (by decide) ?_
      exact hret (-9) σ τ _ _ _ _ rfl ⟨⟨rfl, rfl⟩, Or.inr (Or.inr (⟨rfl, by omega⟩))⟩ hP hS dX4_lowest_40
    · have kc2 := jnlt c2 t1 jz_32
      refine lv_iload_n hx hb dX4_lowest_12 rfl (lv_at hl 0 rfl) ?_
      refine lv_bipush (v := 36) hx hb dX4_lowest_13 (by decide) ?_
      refine lv_icmp_ge (tgt := 20) hx hb dX4_lowest_15 (by decide) (fun c4 => ?_) (fun c4 => ?_)
      · have kc4 := jle c4 jz_36 t1
        refine lv_iload_n hx hb dX4_lowest_20 rfl (lv_at hl 0 rfl) ?_
        refine lv_bipush (v := 36) hx hb dX4_lowest_21 (by decide) ?_
        refine lv_icmp_lt (tgt := 38) hx hb dX4_lowest_23 (by decide) (fun c => absurd (jlt c t1 jz_36) (by omega)) (fun c5 => ?_)
        have kc5 := jnlt c5 t1 jz_36
        refine lv_iload_n hx hb dX4_lowest_26 rfl (lv_at hl 0 rfl) ?_
        refine lv_bipush (v := 52) hx hb dX4_lowest_27 (by decide) ?_
        refine lv_icmp_ge (tgt := 38) hx hb dX4_lowest_29 (by decide) (fun c6 => ?_) (fun c6 => ?_)
        · have kc6 := jle c6 jz_52 t1
          refine lv_bipush (v := (-9)) hx hb dX4_lowest_38 (by decide) ?_
          exact hret (-9) σ τ _ _ _ _ rfl ⟨⟨rfl, rfl⟩, Or.inr (Or.inr (⟨rfl, by omega⟩))⟩ hP hS dX4_lowest_40
        · have kc6 := jnle c6 jz_52 t1
          refine lv_sipush (v := (-200)) hx hb dX4_lowest_32 (by decide) ?_
          refine lv_goto (tgt := 40) hx hb dX4_lowest_35 (by decide) ?_
          exact hret (-200) σ τ _ _ _ _ rfl ⟨⟨rfl, rfl⟩, Or.inr (Or.inl ⟨rfl, by omega⟩)⟩ hP hS dX4_lowest_40
      · have kc4 := jnle c4 jz_36 t1
        refine lv_iconst (v := 0) hx hb dX4_lowest_18 (by decide) ?_
        exact hret 0 σ τ _ _ _ _ rfl ⟨⟨rfl, rfl⟩, Or.inl ⟨rfl, by omega⟩⟩ hP hS dX4_lowest_19
set_option maxHeartbeats 4000000 in
set_option maxRecDepth 100000 in
theorem c_X4_highest (l : Launch) (D : va_G) (cI cL : ClassId) (ad : Nat → Nat) (hJ : jD ad) (σ : Nat → Nat → Int32) (τ : Nat → Nat → Int64) (a1 : Int32) (A1 : Int) (t1 : a1.toInt = A1) : jM l yX4_highest cX4_highest 1 (some .int) ({ frames := 0, cells := 0, slots := 0, locals := 0 }) D cI cL ad [.int a1] σ τ (fun r σ' τ' => (σ = σ' ∧ τ = τ') ∧ ((r = 500 ∧ (A1 < 16)) ∨ (r = 9 ∧ ((16 ≤ A1 ∧ A1 < 32) ∨ (52 ≤ A1))) ∨ (r = 8 ∧ (32 ≤ A1 ∧ A1 < 36)) ∨ (r = 200 ∧ (36 ≤ A1 ∧ A1 < 52)))) := by
  refine jM.of hJ (by decide +kernel) (nt := .int) rfl (Nat.le_of_ble_eq_true rfl) ?_
  intro p e s m args below meth c Q ls hC hret hl hP
  obtain ⟨hx, hb, hr, hml, hown, hts, hK, -, hlocks⟩ := hC
  have hown : s.vm.findClass RX4 = some m.cls := hown
  have hS : va_S (jA ad) s.heap s.heap [] := va_S.rf
  have hA : ∀ q, jA ad q → jA ad q := fun _ h => h
  have hl : lv_has ls 1 [(0, .int a1)] := hl
  have g1 := jrg t1
  refine lv_iload_n hx hb dX4_highest_0 rfl (lv_at hl 0 rfl) ?_
  refine lv_bipush (v := 16) hx hb dX4_highest_1 (by decide) ?_
  refine lv_icmp_ge (tgt := 10) hx hb dX4_highest_3 (by decide) (fun c1 => ?_) (fun c1 => ?_)
  · have kc1 := jle c1 jz_16 t1
    refine lv_iload_n hx hb dX4_highest_10 rfl (lv_at hl 0 rfl) ?_
    refine lv_bipush (v := 32) hx hb dX4_highest_11 (by decide) ?_
    refine lv_icmp_ge (tgt := 19) hx hb dX4_highest_13 (by decide) (fun c2 => ?_) (fun c2 => ?_)
    · have kc2 := jle c2 jz_32 t1
      refine lv_iload_n hx hb dX4_highest_19 rfl (lv_at hl 0 rfl) ?_
      refine lv_bipush (v := 36) hx hb dX4_highest_20 (by decide) ?_
      refine lv_icmp_ge (tgt := 28) hx hb dX4_highest_22 (by decide) (fun c3 => ?_) (fun c3 => ?_)
      · have kc3 := jle c3 jz_36 t1
        refine lv_iload_n hx hb dX4_highest_28 rfl (lv_at hl 0 rfl) ?_
        refine lv_bipush (v := 52) hx hb dX4_highest_29 (by decide) ?_
        refine lv_icmp_ge (tgt := 40) hx hb dX4_highest_31 (by decide) (fun c4 => ?_) (fun c4 => ?_)
        · have kc4 := jle c4 jz_52 t1
          refine lv_bipush (v := 9) hx hb dX4_highest_40 (by decide) ?_
          exact hret 9 σ τ _ _ _ _ rfl ⟨⟨rfl, rfl⟩, Or.inr (Or.inl ⟨rfl, by omega⟩)⟩ hP hS dX4_highest_42
        · have kc4 := jnle c4 jz_52 t1
          refine lv_sipush (v := 200) hx hb dX4_highest_34 (by decide) ?_
          refine lv_goto (tgt := 42) hx hb dX4_highest_37 (by decide) ?_
          exact hret 200 σ τ _ _ _ _ rfl ⟨⟨rfl, rfl⟩, Or.inr (Or.inr (Or.inr (⟨rfl, by omega⟩)))⟩ hP hS dX4_highest_42
      · have kc3 := jnle c3 jz_36 t1
        refine lv_bipush (v := 8) hx hb dX4_highest_25 (by decide) ?_
        exact hret 8 σ τ _ _ _ _ rfl ⟨⟨rfl, rfl⟩, Or.inr (Or.inr (Or.inl ⟨rfl, by omega⟩))⟩ hP hS dX4_highest_27
    · have kc2 := jnle c2 jz_32 t1
      refine lv_bipush (v := 9) hx hb dX4_highest_16 (by decide) ?_
      exact hret 9 σ τ _ _ _ _ rfl ⟨⟨rfl, rfl⟩, Or.inr (Or.inl ⟨rfl, by omega⟩)⟩ hP hS dX4_highest_18
  · have kc1 := jnle c1 jz_16 t1
    refine lv_sipush (v := 500) hx hb dX4_highest_6 (by decide) ?_
    exact hret 500 σ τ _ _ _ _ rfl ⟨⟨rfl, rfl⟩, Or.inl ⟨rfl, by omega⟩⟩ hP hS dX4_highest_9
set_option maxHeartbeats 4000000 in
set_option maxRecDepth 100000 in
theorem c_X4_change_2 (l : Launch) (D : va_G) (cI cL : ClassId) (ad : Nat → Nat) (hJ : jD ad) (σ : Nat → Nat → Int32) (τ : Nat → Nat → Int64) (a1 : Int32) (A1 : Int) (t1 : a1.toInt = A1) (a2 : Int32) (A2 : Int) (t2 : a2.toInt = A2) (h2_2 : σ 2 2 = 0) (ha3 : ∀ k : Nat, σ 3 k = 0) (hp0 : 0 ≤ A1) (hp1 : A1 < 68) : jM l yX4_change cX4_change 4 (some .int) ({ frames := 0, cells := 0, slots := 0, locals := 0 }) D cI cL ad [.ref (ad 2), .int a1, .int a2] σ τ (fun r σ' τ' => (∀ i : Nat, (i < 2 ∨ 8 < i) → σ' i = σ i) ∧ ((r = 0 ∧ True))) := by
  refine jM.of hJ (by decide +kernel) (nt := .int) rfl (Nat.le_of_ble_eq_true rfl) ?_
  intro p e s m args below meth c Q ls hC hret hl hP
  obtain ⟨hx, hb, hr, hml, hown, hts, hK, -, hlocks⟩ := hC
  have hown : s.vm.findClass RX4 = some m.cls := hown
  have hS : va_S (jA ad) s.heap s.heap [] := va_S.rf
  have hA : ∀ q, jA ad q → jA ad q := fun _ h => h
  have hl : lv_has ls 4 [(0, .ref (ad 2)), (1, .int a1), (2, .int a2)] := hl
  have g1 := jrg t1
  have g2 := jrg t2
  refine lv_iload_n hx hb dX4_change_0 rfl (lv_at hl 1 rfl) ?_
  refine lv_if_lt (tgt := 10) hx hb dX4_change_1 (by decide) (fun c => absurd (jlt c t1 jz_0) (by omega)) (fun c1 => ?_)
  have kc1 := jnlt c1 t1 jz_0
  refine lv_iload_n hx hb dX4_change_4 rfl (lv_at hl 1 rfl) ?_
  refine lv_bipush (v := 68) hx hb dX4_change_5 (by decide) ?_
  refine lv_icmp_lt (tgt := 13) hx hb dX4_change_7 (by decide) (fun c2 => ?_) (fun c => absurd (jnlt c t1 jz_68) (by omega))
  have kc2 := jlt c2 t1 jz_68
  refine lv_aload_n hx hb dX4_change_13 rfl (lv_at hl 0 rfl) ?_
  refine va_get (D := D) hx hb hts inlX4 hown hK hP 2 (jc_2 cI cL ad σ τ) rfl 4 (by decide) (hts _ kw_3_11) (fun _ h9 => h9) rfl dX4_change_14 ?_
  refine lv_iload_n hx hb dX4_change_17 rfl (lv_at hl 1 rfl) ?_
  refine jald hx hb hK hP (jc_3 cI cL ad σ τ) (jin t1 (by omega) (by omega)) dX4_change_18 ?_
  refine jtopr (ha3 _) ?_
  refine lv_istore_n (lv' := [(3, .int 0), (0, .ref (ad 2)), (1, .int a1), (2, .int a2)]) hx hb dX4_change_19 rfl hl (by decide) rfl (fun ls hl => ?_)
  refine lv_iload_n hx hb dX4_change_20 rfl (lv_at hl 0 rfl) ?_
  refine lv_iload_n hx hb dX4_change_21 rfl (lv_at hl 3 rfl) ?_
  refine lv_icmp_ne (tgt := 27) hx hb dX4_change_22 (by decide) (fun c3 => ?_) (fun c3 => ?_)
  · have kc3 := jne c3 jz_0 t2
    refine lv_aload_n hx hb dX4_change_27 rfl (lv_at hl 1 rfl) ?_
    refine va_get (D := D) hx hb hts inlX4 hown hK hP 2 (jc_2 cI cL ad σ τ) rfl 2 (by decide) (hts _ kw_10_17) (fun _ h9 => h9) rfl dX4_change_28 ?_
    refine jtopr h2_2 ?_
    refine lv_bipush (v := 40) hx hb dX4_change_31 (by decide) ?_
    refine lv_icmp_lt (tgt := 40) hx hb dX4_change_33 (by decide) (fun _ => ?_) (fun c => absurd (by decide) c)
    refine lv_aload_n hx hb dX4_change_40 rfl (lv_at hl 1 rfl) ?_
    refine va_get (D := D) hx hb hts inlX4 hown hK hP 2 (jc_2 cI cL ad σ τ) rfl 7 (by decide) (hts _ kw_3_14) (fun _ h9 => h9) rfl dX4_change_41 ?_
    refine lv_aload_n hx hb dX4_change_44 rfl (lv_at hl 1 rfl) ?_
    refine va_get (D := D) hx hb hts inlX4 hown hK hP 2 (jc_2 cI cL ad σ τ) rfl 2 (by decide) (hts _ kw_10_17) (fun _ h9 => h9) rfl dX4_change_45 ?_
    refine jtopr h2_2 ?_
    refine lv_iload_n hx hb dX4_change_48 rfl (lv_at hl 2 rfl) ?_
    refine jast hx hb hK hP hJ hA hS (jc_6 cI cL ad σ τ) (ja_6 cI cL ad σ τ _ _) (jin jz_0 (by omega) (by omega)) dX4_change_49 (fun σ4 H locs eσ4 hP hS => ?_)
    have eσ4 : σ4 = jup σ 6 0 a1 := eσ4
    refine lv_aload_n hx hb dX4_change_50 rfl (lv_at hl 1 rfl) ?_
    refine va_get (D := D) hx hb hts inlX4 hown hK hP 2 (jc_2 cI cL ad σ4 τ) rfl 8 (by decide) (hts _ kw_3_15) (fun _ h9 => h9) rfl dX4_change_51 ?_
    refine lv_aload_n hx hb dX4_change_54 rfl (lv_at hl 1 rfl) ?_
    refine va_get (D := D) hx hb hts inlX4 hown hK hP 2 (jc_2 cI cL ad σ4 τ) rfl 2 (by decide) (hts _ kw_10_17) (fun _ h9 => h9) rfl dX4_change_55 ?_
    have m5 : σ4 2 2 = 0 := (by rw [eσ4, jup_n (by decide)]; exact h2_2)
    refine jtopr m5 ?_
    refine lv_iload_n hx hb dX4_change_58 rfl (lv_at hl 0 rfl) ?_
    refine jast hx hb hK hP hJ hA hS (jc_7 cI cL ad σ4 τ) (ja_7 cI cL ad σ4 τ _ _) (jin jz_0 (by omega) (by omega)) dX4_change_59 (fun σ6 H locs eσ6 hP hS => ?_)
    have eσ6 : σ6 = jup σ4 7 0 0 := eσ6
    refine lv_aload_n hx hb dX4_change_60 rfl (lv_at hl 1 rfl) ?_
    refine va_get (D := D) hx hb hts inlX4 hown hK hP 2 (jc_2 cI cL ad σ6 τ) rfl 9 (by decide) (hts _ kw_3_16) (fun _ h9 => h9) rfl dX4_change_61 ?_
    refine lv_aload_n hx hb dX4_change_64 rfl (lv_at hl 1 rfl) ?_
    refine va_get (D := D) hx hb hts inlX4 hown hK hP 2 (jc_2 cI cL ad σ6 τ) rfl 2 (by decide) (hts _ kw_10_17) (fun _ h9 => h9) rfl dX4_change_65 ?_
    have m7 : σ6 2 2 = 0 := (by rw [eσ6, jup_n (by decide)]; exact m5)
    refine jtopr m7 ?_
    refine lv_iload_n hx hb dX4_change_68 rfl (lv_at hl 3 rfl) ?_
    refine jast hx hb hK hP hJ hA hS (jc_8 cI cL ad σ6 τ) (ja_8 cI cL ad σ6 τ _ _) (jin jz_0 (by omega) (by omega)) dX4_change_69 (fun σ8 H locs eσ8 hP hS => ?_)
    have eσ8 : σ8 = jup σ6 8 0 a2 := eσ8
    refine lv_aload_n hx hb dX4_change_70 rfl (lv_at hl 1 rfl) ?_
    refine lv_dup hx hb dX4_change_71 rfl ?_
    refine va_get (D := D) hx hb hts inlX4 hown hK hP 2 (jc_2 cI cL ad σ8 τ) rfl 2 (by decide) (hts _ kw_10_17) (fun _ h9 => h9) rfl dX4_change_72 ?_
    have m9 : σ8 2 2 = 0 := (by rw [eσ8, jup_n (by decide)]; exact m7)
    refine jtopr m9 ?_
    refine lv_iconst (v := 1) hx hb dX4_change_75 (by decide) ?_
    refine lv_iadd hx hb dX4_change_76 ?_
    refine jtopr (y := 1) (by decide) ?_
    refine jput (ty := .int) hx hb hts inlX4 tyX4 tyX4_ok nmX4 hown hK hP hJ hA hS (jc_2 cI cL ad σ8 τ) rfl (k := 2) (by decide) (Nat.le_of_ble_eq_true rfl) (jp_2_2 cI cL ad σ8 τ 1) (hts _ kw_10_17) (fun _ h9 => h9) rfl (by decide +kernel) rfl rfl dX4_change_77 (fun σ10 H locs eσ10 hP hS => ?_)
    refine lv_aload_n hx hb dX4_change_80 rfl (lv_at hl 1 rfl) ?_
    refine lv_iconst (v := 0) hx hb dX4_change_81 (by decide) ?_
    refine jput (ty := .int) hx hb hts inlX4 tyX4 tyX4_ok nmX4 hown hK hP hJ hA hS (jc_2 cI cL ad σ10 τ) rfl (k := 3) (by decide) (Nat.le_of_ble_eq_true rfl) (jp_2_3 cI cL ad σ10 τ 0) (hts _ kw_10_18) (fun _ h9 => h9) rfl (by decide +kernel) rfl rfl dX4_change_82 (fun σ11 H locs eσ11 hP hS => ?_)
    refine lv_aload_n hx hb dX4_change_85 rfl (lv_at hl 1 rfl) ?_
    refine va_get (D := D) hx hb hts inlX4 hown hK hP 2 (jc_2 cI cL ad σ11 τ) rfl 4 (by decide) (hts _ kw_3_11) (fun _ h9 => h9) rfl dX4_change_86 ?_
    refine lv_iload_n hx hb dX4_change_89 rfl (lv_at hl 2 rfl) ?_
    refine lv_iload_n hx hb dX4_change_90 rfl (lv_at hl 3 rfl) ?_
    refine jast hx hb hK hP hJ hA hS (jc_3 cI cL ad σ11 τ) (ja_3 cI cL ad σ11 τ _ _) (jin t1 (by omega) (by omega)) dX4_change_91 (fun σ12 H locs eσ12 hP hS => ?_)
    refine lv_iload_n hx hb dX4_change_92 rfl (lv_at hl 0 rfl) ?_
    exact hret 0 σ12 τ _ _ _ _ rfl ⟨(fun i hi => by rw [eσ12, jup_n (by omega), eσ11, jup_n (by omega), eσ10, jup_n (by omega), eσ8, jup_n (by omega), eσ6, jup_n (by omega), eσ4, jup_n (by omega)]), ⟨rfl, trivial⟩⟩ hP hS dX4_change_93
  · have kc3 := jeq c3 jz_0 t2
    refine lv_iload_n hx hb dX4_change_25 rfl (lv_at hl 0 rfl) ?_
    exact hret 0 σ τ _ _ _ _ rfl ⟨(fun _ _ => rfl), ⟨rfl, trivial⟩⟩ hP hS dX4_change_26
set_option maxHeartbeats 4000000 in
set_option maxRecDepth 100000 in
theorem c_X11_field (l : Launch) (D : va_G) (cI cL : ClassId) (ad : Nat → Nat) (hJ : jD ad) (σ : Nat → Nat → Int32) (τ : Nat → Nat → Int64) (a1 : Int32) (A1 : Int) (t1 : a1.toInt = A1) (a2 : Int32) (A2 : Int) (t2 : a2.toInt = A2) (a3 : Int32) (A3 : Int) (t3 : a3.toInt = A3) (h2_2 : σ 2 2 = 0) (ha3 : ∀ k : Nat, σ 3 k = 0) : jM l yX11_field cX11_field 5 (some .int) ({ frames := 1, cells := 0, slots := 0, locals := 23 }) D cI cL ad [.ref (ad 0), .int a1, .int a2, .int a3] σ τ (fun r σ' τ' => (∀ i : Nat, (i < 0 ∨ 54 < i) → σ' i = σ i) ∧ r = (if 0 ≤ A1 ∧ A1 / 10 ≤ 3 ∧ A1 % 10 ≤ 3 ∧ ((A2 = 0 ∧ -200 ≤ A3 ∧ A3 ≤ 200) ∨ (A2 = 1 ∧ -9 ≤ A3 ∧ A3 ≤ 9)) then 0 else -2000000000)) := by
  refine jM.of hJ (by decide +kernel) (nt := .int) rfl (Nat.le_of_ble_eq_true rfl) ?_
  intro p e s m args below meth c Q ls hC hret hl hP
  obtain ⟨hx, hb, hr, hml, hown, hts, hK, -, hlocks⟩ := hC
  have hown : s.vm.findClass RX11 = some m.cls := hown
  have hS : va_S (jA ad) s.heap s.heap [] := va_S.rf
  have hA : ∀ q, jA ad q → jA ad q := fun _ h => h
  have hl : lv_has ls 5 [(0, .ref (ad 0)), (1, .int a1), (2, .int a2), (3, .int a3)] := hl
  have g1 := jrg t1
  have g2 := jrg t2
  have g3 := jrg t3
  refine lv_iload_n hx hb dX11_field_0 rfl (lv_at hl 1 rfl) ?_
  refine lv_if_lt (tgt := 37) hx hb dX11_field_1 (by decide) (fun c1 => ?_) (fun c1 => ?_)
  · have kc1 := jlt c1 t1 jz_0
    refine lv_ldc (v := (-2000000000)) hx hb hown (hts _ kw_9_21) dX11_field_37 ?_
    exact hret (-2000000000) σ τ _ _ _ _ rfl ⟨(fun _ _ => rfl), (by (repeat' split) <;> first | rfl | omega | exact jsame jz_m2000000000 t1 (by omega) | exact jsame jz_m2000000000 t2 (by omega) | exact jsame jz_m2000000000 t3 (by omega) | (exfalso; omega))⟩ hP hS dX11_field_39
  · have kc1 := jnlt c1 t1 jz_0
    refine lv_iload_n hx hb dX11_field_4 rfl (lv_at hl 1 rfl) ?_
    refine lv_bipush (v := 10) hx hb dX11_field_5 (by decide) ?_
    refine lv_idiv hx hb dX11_field_7 (by decide) ?_
    refine lv_topi (fun x2 ex2 => ?_)
    have tx2 : x2.toInt = (A1 / 10) := jdiv ex2 t1 jz_10 (by omega) (by omega)
    refine lv_iconst (v := 0) hx hb dX11_field_8 (by decide) ?_
    refine lv_iconst (v := 3) hx hb dX11_field_9 (by decide) ?_
    refine jcallS (As := [.int x2, .int 0, .int 3]) (rest := []) ⟨hx, hb, hml, hown, hts⟩ hK hP hA hS (c_X11_outside l D cI cL ad hJ σ τ x2 ((A1 / 10)) tx2 0 (0) jz_0 3 (3) jz_3) cw_RX11_94 ⟨Nat.le_of_ble_eq_true rfl, Nat.le_of_ble_eq_true rfl⟩ rfl rfl rfl hl.1 rfl (Nat.le_of_ble_eq_true rfl) dX11_field_10 ⟨Nat.zero_le _, Nat.zero_le _⟩ (fun r4 σ3 τ3 H locs h3 hP hS => ?_)
    obtain ⟨⟨rfl, rfl⟩, h3⟩ := h3
    rcases h3 with h5 | h6
    · obtain ⟨q8, k7⟩ := h5
      have q8 := q8.symm
      subst q8
      refine lv_if_ne (tgt := 37) hx hb dX11_field_13 (by decide) (fun _ => ?_) (fun c => absurd c (by decide))
      refine lv_ldc (v := (-2000000000)) hx hb hown (hts _ kw_9_21) dX11_field_37 ?_
      exact hret (-2000000000) σ τ _ _ _ _ rfl ⟨(fun _ _ => rfl), (by (repeat' split) <;> first | rfl | omega | exact jsame jz_m2000000000 t1 (by omega) | exact jsame jz_m2000000000 t2 (by omega) | exact jsame jz_m2000000000 t3 (by omega) | (exfalso; omega))⟩ hP hS dX11_field_39
    · obtain ⟨q10, k9⟩ := h6
      have q10 := q10.symm
      subst q10
      refine lv_if_ne (tgt := 37) hx hb dX11_field_13 (by decide) (fun c => absurd (by decide) c) (fun _ => ?_)
      refine lv_iload_n hx hb dX11_field_16 rfl (lv_at hl 1 rfl) ?_
      refine lv_bipush (v := 10) hx hb dX11_field_17 (by decide) ?_
      refine lv_irem hx hb dX11_field_19 (by decide) ?_
      refine lv_topi (fun x11 ex11 => ?_)
      have tx11 : x11.toInt = (A1 % 10) := jrem ex11 t1 jz_10 (by omega)
      refine lv_iconst (v := 0) hx hb dX11_field_20 (by decide) ?_
      refine lv_iconst (v := 3) hx hb dX11_field_21 (by decide) ?_
      refine jcallS (As := [.int x11, .int 0, .int 3]) (rest := []) ⟨hx, hb, hml, hown, hts⟩ hK hP hA hS (c_X11_outside l D cI cL ad hJ σ τ x11 ((A1 % 10)) tx11 0 (0) jz_0 3 (3) jz_3) cw_RX11_94 ⟨Nat.le_of_ble_eq_true rfl, Nat.le_of_ble_eq_true rfl⟩ rfl rfl rfl hl.1 rfl (Nat.le_of_ble_eq_true rfl) dX11_field_22 ⟨Nat.zero_le _, Nat.zero_le _⟩ (fun r13 σ12 τ12 H locs h12 hP hS => ?_)
      obtain ⟨⟨rfl, rfl⟩, h12⟩ := h12
      rcases h12 with h14 | h15
      · obtain ⟨q17, k16⟩ := h14
        have q17 := q17.symm
        subst q17
        refine lv_if_ne (tgt := 37) hx hb dX11_field_25 (by decide) (fun _ => ?_) (fun c => absurd c (by decide))
        refine lv_ldc (v := (-2000000000)) hx hb hown (hts _ kw_9_21) dX11_field_37 ?_
        exact hret (-2000000000) σ τ _ _ _ _ rfl ⟨(fun _ _ => rfl), (by (repeat' split) <;> first | rfl | omega | exact jsame jz_m2000000000 t1 (by omega) | exact jsame jz_m2000000000 t2 (by omega) | exact jsame jz_m2000000000 t3 (by omega) | (exfalso; omega))⟩ hP hS dX11_field_39
      · obtain ⟨q19, k18⟩ := h15
        have q19 := q19.symm
        subst q19
        refine lv_if_ne (tgt := 37) hx hb dX11_field_25 (by decide) (fun c => absurd (by decide) c) (fun _ => ?_)
        refine lv_iload_n hx hb dX11_field_28 rfl (lv_at hl 2 rfl) ?_
        refine lv_iconst (v := 0) hx hb dX11_field_29 (by decide) ?_
        refine lv_iconst (v := 1) hx hb dX11_field_30 (by decide) ?_
        refine jcallS (As := [.int a2, .int 0, .int 1]) (rest := []) ⟨hx, hb, hml, hown, hts⟩ hK hP hA hS (c_X11_outside l D cI cL ad hJ σ τ a2 (A2) t2 0 (0) jz_0 1 (1) jz_1) cw_RX11_94 ⟨Nat.le_of_ble_eq_true rfl, Nat.le_of_ble_eq_true rfl⟩ rfl rfl rfl hl.1 rfl (Nat.le_of_ble_eq_true rfl) dX11_field_31 ⟨Nat.zero_le _, Nat.zero_le _⟩ (fun r21 σ20 τ20 H locs h20 hP hS => ?_)
        obtain ⟨⟨rfl, rfl⟩, h20⟩ := h20
        rcases h20 with h22 | h23
        · obtain ⟨q25, k24⟩ := h22
          have q25 := q25.symm
          subst q25
          refine lv_if_eq (tgt := 40) hx hb dX11_field_34 (by decide) (fun c => absurd c (by decide)) (fun _ => ?_)
          refine lv_ldc (v := (-2000000000)) hx hb hown (hts _ kw_9_21) dX11_field_37 ?_
          exact hret (-2000000000) σ τ _ _ _ _ rfl ⟨(fun _ _ => rfl), (by (repeat' split) <;> first | rfl | omega | exact jsame jz_m2000000000 t1 (by omega) | exact jsame jz_m2000000000 t2 (by omega) | exact jsame jz_m2000000000 t3 (by omega) | (exfalso; omega))⟩ hP hS dX11_field_39
        · obtain ⟨q27, k26⟩ := h23
          have q27 := q27.symm
          subst q27
          refine lv_if_eq (tgt := 40) hx hb dX11_field_34 (by decide) (fun _ => ?_) (fun c => absurd (by decide) c)
          refine lv_iload_n hx hb dX11_field_40 rfl (lv_at hl 2 rfl) ?_
          refine lv_if_ne (tgt := 49) hx hb dX11_field_41 (by decide) (fun c28 => ?_) (fun c28 => ?_)
          · have kc28 := jne c28 t2 jz_0
            refine lv_bipush (v := 52) hx hb dX11_field_49 (by decide) ?_
            refine lv_iload_n hx hb dX11_field_51 rfl (lv_at hl 1 rfl) ?_
            refine lv_bipush (v := 10) hx hb dX11_field_52 (by decide) ?_
            refine lv_idiv hx hb dX11_field_54 (by decide) ?_
            refine lv_topi (fun x29 ex29 => ?_)
            have tx29 : x29.toInt = (A1 / 10) := jdiv ex29 t1 jz_10 (by omega) (by omega)
            refine lv_iconst (v := 4) hx hb dX11_field_55 (by decide) ?_
            refine lv_imul hx hb dX11_field_56 ?_
            refine lv_topi (fun x30 ex30 => ?_)
            have tx30 : x30.toInt = 4 * (A1 / 10) := (jmul ex30 tx29 jz_4 (by omega) (by omega)).trans (by omega)
            refine lv_iadd hx hb dX11_field_57 ?_
            refine lv_topi (fun x31 ex31 => ?_)
            have tx31 : x31.toInt = 4 * (A1 / 10) + 52 := (jadd ex31 jz_52 tx30 (by omega) (by omega)).trans (by omega)
            refine lv_iload_n hx hb dX11_field_58 rfl (lv_at hl 1 rfl) ?_
            refine lv_bipush (v := 10) hx hb dX11_field_59 (by decide) ?_
            refine lv_irem hx hb dX11_field_61 (by decide) ?_
            refine lv_topi (fun x32 ex32 => ?_)
            have tx32 : x32.toInt = (A1 % 10) := jrem ex32 t1 jz_10 (by omega)
            refine lv_iadd hx hb dX11_field_62 ?_
            refine lv_topi (fun x33 ex33 => ?_)
            have tx33 : x33.toInt = 4 * (A1 / 10) + (A1 % 10) + 52 := (jadd ex33 tx31 tx32 (by omega) (by omega)).trans (by omega)
            refine lv_istore (lv' := [(4, .int x33), (0, .ref (ad 0)), (1, .int a1), (2, .int a2), (3, .int a3)]) hx hb dX11_field_63 hl (by decide) rfl (fun ls hl => ?_)
            refine lv_iload_n hx hb dX11_field_65 rfl (lv_at hl 4 rfl) ?_
            refine lv_iload hx hb dX11_field_66 (lv_at hl 0 rfl) ?_
            refine jcallS (As := [.int x33]) (rest := [.int a3]) ⟨hx, hb, hml, hown, hts⟩ hK hP hA hS (c_X4_lowest l D cI cL ad hJ σ τ x33 (4 * (A1 / 10) + (A1 % 10) + 52) tx33) cw_RX11_110 ⟨Nat.le_of_ble_eq_true rfl, Nat.le_of_ble_eq_true rfl⟩ rfl rfl rfl hl.1 rfl (Nat.le_of_ble_eq_true rfl) dX11_field_68 ⟨Nat.zero_le _, Nat.zero_le _⟩ (fun r35 σ34 τ34 H locs h34 hP hS => ?_)
            obtain ⟨⟨rfl, rfl⟩, h34⟩ := h34
            rcases h34 with h36 | h37 | h38
            · obtain ⟨q40, k39⟩ := h36
              exact absurd (by omega : False) id
            · obtain ⟨q42, k41⟩ := h37
              exact absurd (by omega : False) id
            · obtain ⟨q44, k43⟩ := h38
              have q44 := q44.symm
              subst q44
              refine lv_iload hx hb dX11_field_71 (lv_at hl 0 rfl) ?_
              refine jcallS (As := [.int x33]) (rest := [.int (-9), .int a3]) ⟨hx, hb, hml, hown, hts⟩ hK hP hA hS (c_X4_highest l D cI cL ad hJ σ τ x33 (4 * (A1 / 10) + (A1 % 10) + 52) tx33) cw_RX11_114 ⟨Nat.le_of_ble_eq_true rfl, Nat.le_of_ble_eq_true rfl⟩ rfl rfl rfl hl.1 rfl (Nat.le_of_ble_eq_true rfl) dX11_field_73 ⟨Nat.zero_le _, Nat.zero_le _⟩ (fun r46 σ45 τ45 H locs h45 hP hS => ?_)
              obtain ⟨⟨rfl, rfl⟩, h45⟩ := h45
              rcases h45 with h47 | h48 | h49 | h50
              · obtain ⟨q52, k51⟩ := h47
                exact absurd (by omega : False) id
              · obtain ⟨q54, k53⟩ := h48
                have q54 := q54.symm
                subst q54
                refine jcallS (As := [.int a3, .int (-9), .int 9]) (rest := []) ⟨hx, hb, hml, hown, hts⟩ hK hP hA hS (c_X11_outside l D cI cL ad hJ σ τ a3 (A3) t3 (-9) ((-9)) jz_m9 9 (9) jz_9) cw_RX11_94 ⟨Nat.le_of_ble_eq_true rfl, Nat.le_of_ble_eq_true rfl⟩ rfl rfl rfl hl.1 rfl (Nat.le_of_ble_eq_true rfl) dX11_field_76 ⟨Nat.zero_le _, Nat.zero_le _⟩ (fun r56 σ55 τ55 H locs h55 hP hS => ?_)
                obtain ⟨⟨rfl, rfl⟩, h55⟩ := h55
                rcases h55 with h57 | h58
                · obtain ⟨q60, k59⟩ := h57
                  have q60 := q60.symm
                  subst q60
                  refine lv_if_eq (tgt := 85) hx hb dX11_field_79 (by decide) (fun c => absurd c (by decide)) (fun _ => ?_)
                  refine lv_ldc (v := (-2000000000)) hx hb hown (hts _ kw_9_21) dX11_field_82 ?_
                  exact hret (-2000000000) σ τ _ _ _ _ rfl ⟨(fun _ _ => rfl), (by (repeat' split) <;> first | rfl | omega | exact jsame jz_m2000000000 t1 (by omega) | exact jsame jz_m2000000000 t2 (by omega) | exact jsame jz_m2000000000 t3 (by omega) | (exfalso; omega))⟩ hP hS dX11_field_84
                · obtain ⟨q62, k61⟩ := h58
                  have q62 := q62.symm
                  subst q62
                  refine lv_if_eq (tgt := 85) hx hb dX11_field_79 (by decide) (fun _ => ?_) (fun c => absurd (by decide) c)
                  refine lv_aload_n hx hb dX11_field_85 rfl (lv_at hl 1 rfl) ?_
                  refine va_get (D := D) hx hb hts inlX11 hown hK hP 0 (jc_0 cI cL ad σ τ) rfl 0 (by decide) (hts _ kw_1_16) (fun _ h9 => h9) rfl dX11_field_86 ?_
                  refine lv_iload hx hb dX11_field_89 (lv_at hl 0 rfl) ?_
                  refine lv_iload_n hx hb dX11_field_91 rfl (lv_at hl 4 rfl) ?_
                  refine jcallV (As := [.int x33, .int a3]) (rest := []) ⟨hx, hb, hml, hown, hts⟩ hK hP hA hS (c_X4_change_2 l D cI cL ad hJ σ τ x33 (4 * (A1 / 10) + (A1 % 10) + 52) tx33 a3 (A3) t3 h2_2 ha3 (by omega) (by omega)) cw_RX11_118 (jc_2 cI cL ad σ τ) rfl ⟨Nat.le_of_ble_eq_true rfl, Nat.le_of_ble_eq_true rfl⟩ rfl rfl rfl hl.1 rfl (Nat.le_of_ble_eq_true rfl) dX11_field_92 ⟨Nat.zero_le _, Nat.zero_le _⟩ (fun r64 σ63 τ63 H locs h63 hP hS => ?_)
                  obtain ⟨f65, h63⟩ := h63
                  have h66 := h63
                  obtain ⟨q68, k67⟩ := h66
                  have q68 := q68.symm
                  subst q68
                  exact hret 0 σ63 τ63 _ _ _ _ rfl ⟨(fun i hi => by rw [f65 i (by omega)]), (by (repeat' split) <;> first | rfl | omega | exact jsame jz_0 t1 (by omega) | exact jsame jz_0 t2 (by omega) | exact jsame jz_0 t3 (by omega) | (exfalso; omega))⟩ hP hS dX11_field_95
              · obtain ⟨q70, k69⟩ := h49
                exact absurd (by omega : False) id
              · obtain ⟨q72, k71⟩ := h50
                exact absurd (by omega : False) id
          · have kc28 := jeq c28 t2 jz_0
            refine lv_bipush (v := 36) hx hb dX11_field_44 (by decide) ?_
            refine lv_goto (tgt := 51) hx hb dX11_field_46 (by decide) ?_
            refine lv_iload_n hx hb dX11_field_51 rfl (lv_at hl 1 rfl) ?_
            refine lv_bipush (v := 10) hx hb dX11_field_52 (by decide) ?_
            refine lv_idiv hx hb dX11_field_54 (by decide) ?_
            refine lv_topi (fun x73 ex73 => ?_)
            have tx73 : x73.toInt = (A1 / 10) := jdiv ex73 t1 jz_10 (by omega) (by omega)
            refine lv_iconst (v := 4) hx hb dX11_field_55 (by decide) ?_
            refine lv_imul hx hb dX11_field_56 ?_
            refine lv_topi (fun x74 ex74 => ?_)
            have tx74 : x74.toInt = 4 * (A1 / 10) := (jmul ex74 tx73 jz_4 (by omega) (by omega)).trans (by omega)
            refine lv_iadd hx hb dX11_field_57 ?_
            refine lv_topi (fun x75 ex75 => ?_)
            have tx75 : x75.toInt = 4 * (A1 / 10) + 36 := (jadd ex75 jz_36 tx74 (by omega) (by omega)).trans (by omega)
            refine lv_iload_n hx hb dX11_field_58 rfl (lv_at hl 1 rfl) ?_
            refine lv_bipush (v := 10) hx hb dX11_field_59 (by decide) ?_
            refine lv_irem hx hb dX11_field_61 (by decide) ?_
            refine lv_topi (fun x76 ex76 => ?_)
            have tx76 : x76.toInt = (A1 % 10) := jrem ex76 t1 jz_10 (by omega)
            refine lv_iadd hx hb dX11_field_62 ?_
            refine lv_topi (fun x77 ex77 => ?_)
            have tx77 : x77.toInt = 4 * (A1 / 10) + (A1 % 10) + 36 := (jadd ex77 tx75 tx76 (by omega) (by omega)).trans (by omega)
            refine lv_istore (lv' := [(4, .int x77), (0, .ref (ad 0)), (1, .int a1), (2, .int a2), (3, .int a3)]) hx hb dX11_field_63 hl (by decide) rfl (fun ls hl => ?_)
            refine lv_iload_n hx hb dX11_field_65 rfl (lv_at hl 4 rfl) ?_
            refine lv_iload hx hb dX11_field_66 (lv_at hl 0 rfl) ?_
            refine jcallS (As := [.int x77]) (rest := [.int a3]) ⟨hx, hb, hml, hown, hts⟩ hK hP hA hS (c_X4_lowest l D cI cL ad hJ σ τ x77 (4 * (A1 / 10) + (A1 % 10) + 36) tx77) cw_RX11_110 ⟨Nat.le_of_ble_eq_true rfl, Nat.le_of_ble_eq_true rfl⟩ rfl rfl rfl hl.1 rfl (Nat.le_of_ble_eq_true rfl) dX11_field_68 ⟨Nat.zero_le _, Nat.zero_le _⟩ (fun r79 σ78 τ78 H locs h78 hP hS => ?_)
            obtain ⟨⟨rfl, rfl⟩, h78⟩ := h78
            rcases h78 with h80 | h81 | h82
            · obtain ⟨q84, k83⟩ := h80
              exact absurd (by omega : False) id
            · obtain ⟨q86, k85⟩ := h81
              have q86 := q86.symm
              subst q86
              refine lv_iload hx hb dX11_field_71 (lv_at hl 0 rfl) ?_
              refine jcallS (As := [.int x77]) (rest := [.int (-200), .int a3]) ⟨hx, hb, hml, hown, hts⟩ hK hP hA hS (c_X4_highest l D cI cL ad hJ σ τ x77 (4 * (A1 / 10) + (A1 % 10) + 36) tx77) cw_RX11_114 ⟨Nat.le_of_ble_eq_true rfl, Nat.le_of_ble_eq_true rfl⟩ rfl rfl rfl hl.1 rfl (Nat.le_of_ble_eq_true rfl) dX11_field_73 ⟨Nat.zero_le _, Nat.zero_le _⟩ (fun r88 σ87 τ87 H locs h87 hP hS => ?_)
              obtain ⟨⟨rfl, rfl⟩, h87⟩ := h87
              rcases h87 with h89 | h90 | h91 | h92
              · obtain ⟨q94, k93⟩ := h89
                exact absurd (by omega : False) id
              · obtain ⟨q96, k95⟩ := h90
                exact absurd (by omega : False) id
              · obtain ⟨q98, k97⟩ := h91
                exact absurd (by omega : False) id
              · obtain ⟨q100, k99⟩ := h92
                have q100 := q100.symm
                subst q100
                refine jcallS (As := [.int a3, .int (-200), .int 200]) (rest := []) ⟨hx, hb, hml, hown, hts⟩ hK hP hA hS (c_X11_outside l D cI cL ad hJ σ τ a3 (A3) t3 (-200) ((-200)) jz_m200 200 (200) jz_200) cw_RX11_94 ⟨Nat.le_of_ble_eq_true rfl, Nat.le_of_ble_eq_true rfl⟩ rfl rfl rfl hl.1 rfl (Nat.le_of_ble_eq_true rfl) dX11_field_76 ⟨Nat.zero_le _, Nat.zero_le _⟩ (fun r102 σ101 τ101 H locs h101 hP hS => ?_)
                obtain ⟨⟨rfl, rfl⟩, h101⟩ := h101
                rcases h101 with h103 | h104
                · obtain ⟨q106, k105⟩ := h103
                  have q106 := q106.symm
                  subst q106
                  refine lv_if_eq (tgt := 85) hx hb dX11_field_79 (by decide) (fun c => absurd c (by decide)) (fun _ => ?_)
                  refine lv_ldc (v := (-2000000000)) hx hb hown (hts _ kw_9_21) dX11_field_82 ?_
                  exact hret (-2000000000) σ τ _ _ _ _ rfl ⟨(fun _ _ => rfl), (by (repeat' split) <;> first | rfl | omega | exact jsame jz_m2000000000 t1 (by omega) | exact jsame jz_m2000000000 t2 (by omega) | exact jsame jz_m2000000000 t3 (by omega) | (exfalso; omega))⟩ hP hS dX11_field_84
                · obtain ⟨q108, k107⟩ := h104
                  have q108 := q108.symm
                  subst q108
                  refine lv_if_eq (tgt := 85) hx hb dX11_field_79 (by decide) (fun _ => ?_) (fun c => absurd (by decide) c)
                  refine lv_aload_n hx hb dX11_field_85 rfl (lv_at hl 1 rfl) ?_
                  refine va_get (D := D) hx hb hts inlX11 hown hK hP 0 (jc_0 cI cL ad σ τ) rfl 0 (by decide) (hts _ kw_1_16) (fun _ h9 => h9) rfl dX11_field_86 ?_
                  refine lv_iload hx hb dX11_field_89 (lv_at hl 0 rfl) ?_
                  refine lv_iload_n hx hb dX11_field_91 rfl (lv_at hl 4 rfl) ?_
                  refine jcallV (As := [.int x77, .int a3]) (rest := []) ⟨hx, hb, hml, hown, hts⟩ hK hP hA hS (c_X4_change_2 l D cI cL ad hJ σ τ x77 (4 * (A1 / 10) + (A1 % 10) + 36) tx77 a3 (A3) t3 h2_2 ha3 (by omega) (by omega)) cw_RX11_118 (jc_2 cI cL ad σ τ) rfl ⟨Nat.le_of_ble_eq_true rfl, Nat.le_of_ble_eq_true rfl⟩ rfl rfl rfl hl.1 rfl (Nat.le_of_ble_eq_true rfl) dX11_field_92 ⟨Nat.zero_le _, Nat.zero_le _⟩ (fun r110 σ109 τ109 H locs h109 hP hS => ?_)
                  obtain ⟨f111, h109⟩ := h109
                  have h112 := h109
                  obtain ⟨q114, k113⟩ := h112
                  have q114 := q114.symm
                  subst q114
                  exact hret 0 σ109 τ109 _ _ _ _ rfl ⟨(fun i hi => by rw [f111 i (by omega)]), (by (repeat' split) <;> first | rfl | omega | exact jsame jz_0 t1 (by omega) | exact jsame jz_0 t2 (by omega) | exact jsame jz_0 t3 (by omega) | (exfalso; omega))⟩ hP hS dX11_field_95
            · obtain ⟨q116, k115⟩ := h82
              exact absurd (by omega : False) id
set_option maxHeartbeats 4000000 in
set_option maxRecDepth 100000 in
theorem c_X11_set (l : Launch) (D : va_G) (cI cL : ClassId) (ad : Nat → Nat) (hJ : jD ad) (σ : Nat → Nat → Int32) (τ : Nat → Nat → Int64) (a1 : Int32) (A1 : Int) (t1 : a1.toInt = A1) (h2_1 : σ 2 1 = 0) : jM l yX11_set cX11_set 3 (some .int) ({ frames := 1, cells := 0, slots := 0, locals := 22 }) D cI cL ad [.ref (ad 0), .int a1] σ τ (fun r σ' τ' => (∀ i : Nat, (i < 0 ∨ 54 < i) → σ' i = σ i) ∧ r = (if 0 ≤ A1 ∧ A1 ≤ 3 then 0 else -1)) := by
  refine jM.of hJ (by decide +kernel) (nt := .int) rfl (Nat.le_of_ble_eq_true rfl) ?_
  intro p e s m args below meth c Q ls hC hret hl hP
  obtain ⟨hx, hb, hr, hml, hown, hts, hK, -, hlocks⟩ := hC
  have hown : s.vm.findClass RX11 = some m.cls := hown
  have hS : va_S (jA ad) s.heap s.heap [] := va_S.rf
  have hA : ∀ q, jA ad q → jA ad q := fun _ h => h
  have hl : lv_has ls 3 [(0, .ref (ad 0)), (1, .int a1)] := hl
  have g1 := jrg t1
  refine lv_iload_n hx hb dX11_set_0 rfl (lv_at hl 1 rfl) ?_
  refine lv_iconst (v := 0) hx hb dX11_set_1 (by decide) ?_
  refine lv_iconst (v := 3) hx hb dX11_set_2 (by decide) ?_
  refine jcallS (As := [.int a1, .int 0, .int 3]) (rest := []) ⟨hx, hb, hml, hown, hts⟩ hK hP hA hS (c_X11_outside l D cI cL ad hJ σ τ a1 (A1) t1 0 (0) jz_0 3 (3) jz_3) cw_RX11_94 ⟨Nat.le_of_ble_eq_true rfl, Nat.le_of_ble_eq_true rfl⟩ rfl rfl rfl hl.1 rfl (Nat.le_of_ble_eq_true rfl) dX11_set_3 ⟨Nat.zero_le _, Nat.zero_le _⟩ (fun r2 σ1 τ1 H locs h1 hP hS => ?_)
  obtain ⟨⟨rfl, rfl⟩, h1⟩ := h1
  rcases h1 with h3 | h4
  · obtain ⟨q6, k5⟩ := h3
    have q6 := q6.symm
    subst q6
    refine lv_if_eq (tgt := 11) hx hb dX11_set_6 (by decide) (fun c => absurd c (by decide)) (fun _ => ?_)
    refine lv_iconst (v := (-1)) hx hb dX11_set_9 (by decide) ?_
    exact hret (-1) σ τ _ _ _ _ rfl ⟨(fun _ _ => rfl), (by (repeat' split) <;> first | rfl | omega | exact jsame jz_m1 t1 (by omega) | (exfalso; omega))⟩ hP hS dX11_set_10
  · obtain ⟨q8, k7⟩ := h4
    have q8 := q8.symm
    subst q8
    refine lv_if_eq (tgt := 11) hx hb dX11_set_6 (by decide) (fun _ => ?_) (fun c => absurd (by decide) c)
    refine lv_aload_n hx hb dX11_set_11 rfl (lv_at hl 0 rfl) ?_
    refine va_get (D := D) hx hb hts inlX11 hown hK hP 0 (jc_0 cI cL ad σ τ) rfl 0 (by decide) (hts _ kw_1_16) (fun _ h9 => h9) rfl dX11_set_12 ?_
    refine va_get (D := D) hx hb hts inlX4 hown hK hP 2 (jc_2 cI cL ad σ τ) rfl 1 (by decide) (hts _ kw_12_8) (fun _ h9 => h9) rfl dX11_set_15 ?_
    refine jtopr h2_1 ?_
    refine lv_istore_n (lv' := [(2, .int 0), (0, .ref (ad 0)), (1, .int a1)]) hx hb dX11_set_18 rfl hl (by decide) rfl (fun ls hl => ?_)
    refine lv_aload_n hx hb dX11_set_19 rfl (lv_at hl 1 rfl) ?_
    refine va_get (D := D) hx hb hts inlX11 hown hK hP 0 (jc_0 cI cL ad σ τ) rfl 0 (by decide) (hts _ kw_1_16) (fun _ h9 => h9) rfl dX11_set_20 ?_
    refine lv_iload_n hx hb dX11_set_23 rfl (lv_at hl 2 rfl) ?_
    refine jput (ty := .int) hx hb hts inlX4 tyX4 tyX4_ok nmX4 hown hK hP hJ hA hS (jc_2 cI cL ad σ τ) rfl (k := 1) (by decide) (Nat.le_of_ble_eq_true rfl) (jp_2_1 cI cL ad σ τ a1) (hts _ kw_12_8) (fun _ h9 => h9) rfl (by decide +kernel) rfl rfl dX11_set_24 (fun σ9 H locs eσ9 hP hS => ?_)
    refine lv_iload_n hx hb dX11_set_27 rfl (lv_at hl 0 rfl) ?_
    exact hret 0 σ9 τ _ _ _ _ rfl ⟨(fun i hi => by rw [eσ9, jup_n (by omega)]), (by (repeat' split) <;> first | rfl | omega | exact jsame jz_0 t1 (by omega) | (exfalso; omega))⟩ hP hS dX11_set_28
