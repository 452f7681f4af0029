set_option maxHeartbeats 4000000 in
set_option maxRecDepth 100000 in
theorem c_X0_left (l : Launch) (D : va_G) (cI cL : ClassId) (ad : Nat → Nat) (hJ : jD ad) (σ : Nat → Nat → Int32) (τ : Nat → Nat → Int64) (a2 : Int32) (A2 : Int) (t2 : a2.toInt = A2) : jM l yX0_left cX0_left 2 (some .int) ({ frames := 0, cells := 0, slots := 0, locals := 0 }) D cI cL ad [.int 0, .int a2] σ τ (fun r σ' τ' => (σ = σ' ∧ τ = τ') ∧ ((r = 0 ∧ True))) := by
  refine jM.of hJ (by decide +kernel) (nt := .int) rfl (Nat.le_of_ble_eq_true rfl) ?_
  intro p e s m args below meth c Q ls hC hret hl hP
  obtain ⟨hx, hb, hr, hml, hown, hts, hK, -, hlocks⟩ := hC
  have hown : s.vm.findClass RX0 = some m.cls := hown
  have hS : va_S (jA ad) s.heap s.heap [] := va_S.rf
  have hA : ∀ q, jA ad q → jA ad q := fun _ h => h
  have hl : lv_has ls 2 [(0, .int 0), (1, .int a2)] := hl
  have g2 := jrg t2
  refine lv_iload_n hx hb dX0_left_0 rfl (lv_at hl 0 rfl) ?_
  refine lv_bipush (v := 11) hx hb dX0_left_1 (by decide) ?_
  refine lv_iconst (v := 4) hx hb dX0_left_3 (by decide) ?_
  refine lv_iload_n hx hb dX0_left_4 rfl (lv_at hl 1 rfl) ?_
  refine lv_imul hx hb dX0_left_5 ?_
  refine lv_topi (fun x1 ex1 => ?_)
  have gx1 := jrg (rfl : x1.toInt = x1.toInt)
  refine lv_iadd hx hb dX0_left_6 ?_
  refine lv_topi (fun x2 ex2 => ?_)
  have gx2 := jrg (rfl : x2.toInt = x2.toInt)
  refine lv_ishr hx hb dX0_left_7 ?_
  refine jtopr (y := 0) (by simp) ?_
  refine lv_bipush (v := 15) hx hb dX0_left_8 (by decide) ?_
  refine lv_iand hx hb dX0_left_10 ?_
  refine jtopr (y := 0) (by decide) ?_
  exact hret 0 σ τ _ _ _ _ rfl ⟨⟨rfl, rfl⟩, ⟨rfl, trivial⟩⟩ hP hS dX0_left_11
set_option maxHeartbeats 4000000 in
set_option maxRecDepth 100000 in
theorem c_X0_last (l : Launch) (D : va_G) (cI cL : ClassId) (ad : Nat → Nat) (hJ : jD ad) (σ : Nat → Nat → Int32) (τ : Nat → Nat → Int64) : jM l yX0_last cX0_last 1 (some .int) ({ frames := 0, cells := 0, slots := 0, locals := 0 }) D cI cL ad [.int 0] σ τ (fun r σ' τ' => (σ = σ' ∧ τ = τ') ∧ ((r = (-1) ∧ True))) := by
  refine jM.of hJ (by decide +kernel) (nt := .int) rfl (Nat.le_of_ble_eq_true rfl) ?_
  intro p e s m args below meth c Q ls hC hret hl hP
  obtain ⟨hx, hb, hr, hml, hown, hts, hK, -, hlocks⟩ := hC
  have hown : s.vm.findClass RX0 = some m.cls := hown
  have hS : va_S (jA ad) s.heap s.heap [] := va_S.rf
  have hA : ∀ q, jA ad q → jA ad q := fun _ h => h
  have hl : lv_has ls 1 [(0, .int 0)] := hl
  refine lv_iload_n hx hb dX0_last_0 rfl (lv_at hl 0 rfl) ?_
  refine lv_bipush (v := 7) hx hb dX0_last_1 (by decide) ?_
  refine lv_iand hx hb dX0_last_3 ?_
  refine jtopr (y := 0) (by decide) ?_
  refine lv_iconst (v := 1) hx hb dX0_last_4 (by decide) ?_
  refine lv_isub hx hb dX0_last_5 ?_
  refine jtopr (y := (-1)) (by decide) ?_
  exact hret (-1) σ τ _ _ _ _ rfl ⟨⟨rfl, rfl⟩, ⟨rfl, trivial⟩⟩ hP hS dX0_last_6
set_option maxHeartbeats 4000000 in
set_option maxRecDepth 100000 in
theorem c_X0_steps (l : Launch) (D : va_G) (cI cL : ClassId) (ad : Nat → Nat) (hJ : jD ad) (σ : Nat → Nat → Int32) (τ : Nat → Nat → Int64) (a2 : Int32) (A2 : Int) (t2 : a2.toInt = A2) : jM l yX0_steps cX0_steps 2 (some .int) ({ frames := 0, cells := 0, slots := 0, locals := 0 }) D cI cL ad [.int 0, .int a2] σ τ (fun r σ' τ' => (σ = σ' ∧ τ = τ') ∧ ((r = 0 ∧ True))) := by
  refine jM.of hJ (by decide +kernel) (nt := .int) rfl (Nat.le_of_ble_eq_true rfl) ?_
  intro p e s m args below meth c Q ls hC hret hl hP
  obtain ⟨hx, hb, hr, hml, hown, hts, hK, -, hlocks⟩ := hC
  have hown : s.vm.findClass RX0 = some m.cls := hown
  have hS : va_S (jA ad) s.heap s.heap [] := va_S.rf
  have hA : ∀ q, jA ad q → jA ad q := fun _ h => h
  have hl : lv_has ls 2 [(0, .int 0), (1, .int a2)] := hl
  have g2 := jrg t2
  refine lv_iload_n hx hb dX0_steps_0 rfl (lv_at hl 0 rfl) ?_
  refine lv_iconst (v := 3) hx hb dX0_steps_1 (by decide) ?_
  refine lv_iconst (v := 2) hx hb dX0_steps_2 (by decide) ?_
  refine lv_iload_n hx hb dX0_steps_3 rfl (lv_at hl 1 rfl) ?_
  refine lv_imul hx hb dX0_steps_4 ?_
  refine lv_topi (fun x1 ex1 => ?_)
  have gx1 := jrg (rfl : x1.toInt = x1.toInt)
  refine lv_iadd hx hb dX0_steps_5 ?_
  refine lv_topi (fun x2 ex2 => ?_)
  have gx2 := jrg (rfl : x2.toInt = x2.toInt)
  refine lv_ishr hx hb dX0_steps_6 ?_
  refine jtopr (y := 0) (by simp) ?_
  refine lv_iconst (v := 3) hx hb dX0_steps_7 (by decide) ?_
  refine lv_iand hx hb dX0_steps_8 ?_
  refine jtopr (y := 0) (by decide) ?_
  exact hret 0 σ τ _ _ _ _ rfl ⟨⟨rfl, rfl⟩, ⟨rfl, trivial⟩⟩ hP hS dX0_steps_9
set_option maxHeartbeats 4000000 in
set_option maxRecDepth 100000 in
theorem c_X0_withSteps (l : Launch) (D : va_G) (cI cL : ClassId) (ad : Nat → Nat) (hJ : jD ad) (σ : Nat → Nat → Int32) (τ : Nat → Nat → Int64) (a2 : Int32) (A2 : Int) (t2 : a2.toInt = A2) : jM l yX0_withSteps cX0_withSteps 4 (some .int) ({ frames := 0, cells := 0, slots := 0, locals := 0 }) D cI cL ad [.int 0, .int a2, .int 0] σ τ (fun r σ' τ' => (σ = σ' ∧ τ = τ') ∧ ((r = 0 ∧ True))) := by
  refine jM.of hJ (by decide +kernel) (nt := .int) rfl (Nat.le_of_ble_eq_true rfl) ?_
  intro p e s m args below meth c Q ls hC hret hl hP
  obtain ⟨hx, hb, hr, hml, hown, hts, hK, -, hlocks⟩ := hC
  have hown : s.vm.findClass RX0 = some m.cls := hown
  have hS : va_S (jA ad) s.heap s.heap [] := va_S.rf
  have hA : ∀ q, jA ad q → jA ad q := fun _ h => h
  have hl : lv_has ls 4 [(0, .int 0), (1, .int a2), (2, .int 0)] := hl
  have g2 := jrg t2
  refine lv_iconst (v := 3) hx hb dX0_withSteps_0 (by decide) ?_
  refine lv_iconst (v := 2) hx hb dX0_withSteps_1 (by decide) ?_
  refine lv_iload_n hx hb dX0_withSteps_2 rfl (lv_at hl 1 rfl) ?_
  refine lv_imul hx hb dX0_withSteps_3 ?_
  refine lv_topi (fun x1 ex1 => ?_)
  have gx1 := jrg (rfl : x1.toInt = x1.toInt)
  refine lv_iadd hx hb dX0_withSteps_4 ?_
  refine lv_topi (fun x2 ex2 => ?_)
  have gx2 := jrg (rfl : x2.toInt = x2.toInt)
  refine lv_istore_n (lv' := [(3, .int x2), (0, .int 0), (1, .int a2), (2, .int 0)]) hx hb dX0_withSteps_5 rfl hl (by decide) rfl (fun ls hl => ?_)
  refine lv_iload_n hx hb dX0_withSteps_6 rfl (lv_at hl 1 rfl) ?_
  refine lv_iconst (v := 3) hx hb dX0_withSteps_7 (by decide) ?_
  refine lv_iload_n hx hb dX0_withSteps_8 rfl (lv_at hl 0 rfl) ?_
  refine lv_ishl hx hb dX0_withSteps_9 ?_
  refine lv_topi (fun x3 ex3 => ?_)
  have gx3 := jrg (rfl : x3.toInt = x3.toInt)
  refine lv_iconst (v := (-1)) hx hb dX0_withSteps_10 (by decide) ?_
  refine lv_ixor hx hb dX0_withSteps_11 ?_
  refine lv_topi (fun x4 ex4 => ?_)
  have gx4 := jrg (rfl : x4.toInt = x4.toInt)
  refine lv_iand hx hb dX0_withSteps_12 ?_
  refine jtopr (y := 0) (by simp) ?_
  refine lv_iload_n hx hb dX0_withSteps_13 rfl (lv_at hl 3 rfl) ?_
  refine lv_iconst (v := 3) hx hb dX0_withSteps_14 (by decide) ?_
  refine lv_iand hx hb dX0_withSteps_15 ?_
  refine jtopr (y := 0) (by decide) ?_
  refine lv_iload_n hx hb dX0_withSteps_16 rfl (lv_at hl 0 rfl) ?_
  refine lv_ishl hx hb dX0_withSteps_17 ?_
  refine jtopr (y := 0) (by simp) ?_
  refine lv_ior hx hb dX0_withSteps_18 ?_
  refine jtopr (y := 0) (by decide) ?_
  exact hret 0 σ τ _ _ _ _ rfl ⟨⟨rfl, rfl⟩, ⟨rfl, trivial⟩⟩ hP hS dX0_withSteps_19
set_option maxHeartbeats 4000000 in
set_option maxRecDepth 100000 in
theorem c_X0_mayBowl (l : Launch) (D : va_G) (cI cL : ClassId) (ad : Nat → Nat) (hJ : jD ad) (σ : Nat → Nat → Int32) (τ : Nat → Nat → Int64) (a2 : Int32) (A2 : Int) (t2 : a2.toInt = A2) : jM l yX0_mayBowl cX0_mayBowl 2 (some .boolean) ({ frames := 1, cells := 0, slots := 0, locals := 21 }) D cI cL ad [.int 0, .int a2] σ τ (fun r σ' τ' => (σ = σ' ∧ τ = τ') ∧ ((r = 0 ∧ True))) := by
  refine jM.of hJ (by decide +kernel) (nt := .boolean) rfl (Nat.le_of_ble_eq_true rfl) ?_
  intro p e s m args below meth c Q ls hC hret hl hP
  obtain ⟨hx, hb, hr, hml, hown, hts, hK, -, hlocks⟩ := hC
  have hown : s.vm.findClass RX0 = some m.cls := hown
  have hS : va_S (jA ad) s.heap s.heap [] := va_S.rf
  have hA : ∀ q, jA ad q → jA ad q := fun _ h => h
  have hl : lv_has ls 2 [(0, .int 0), (1, .int a2)] := hl
  have g2 := jrg t2
  refine lv_iload_n hx hb dX0_mayBowl_0 rfl (lv_at hl 1 rfl) ?_
  refine lv_if_lt (tgt := 29) hx hb dX0_mayBowl_1 (by decide) (fun c1 => ?_) (fun c1 => ?_)
  · have kc1 := jlt c1 t2 jz_0
    refine lv_iconst (v := 0) hx hb dX0_mayBowl_29 (by decide) ?_
    exact hret 0 σ τ _ _ _ _ rfl ⟨⟨rfl, rfl⟩, ⟨rfl, trivial⟩⟩ hP hS dX0_mayBowl_30
  · have kc1 := jnlt c1 t2 jz_0
    refine lv_iload_n hx hb dX0_mayBowl_4 rfl (lv_at hl 1 rfl) ?_
    refine lv_iconst (v := 4) hx hb dX0_mayBowl_5 (by decide) ?_
    refine lv_icmp_ge (tgt := 29) hx hb dX0_mayBowl_6 (by decide) (fun c2 => ?_) (fun c2 => ?_)
    · have kc2 := jle c2 jz_4 t2
      refine lv_iconst (v := 0) hx hb dX0_mayBowl_29 (by decide) ?_
      exact hret 0 σ τ _ _ _ _ rfl ⟨⟨rfl, rfl⟩, ⟨rfl, trivial⟩⟩ hP hS dX0_mayBowl_30
    · have kc2 := jnle c2 jz_4 t2
      refine lv_iload_n hx hb dX0_mayBowl_9 rfl (lv_at hl 0 rfl) ?_
      refine lv_iload_n hx hb dX0_mayBowl_10 rfl (lv_at hl 1 rfl) ?_
      refine jcallS (As := [.int 0, .int a2]) (rest := []) ⟨hx, hb, hml, hown, hts⟩ hK hP hA hS (c_X0_left l D cI cL ad hJ σ τ a2 (A2) t2) cw_RX0_11 ⟨Nat.le_of_ble_eq_true rfl, Nat.le_of_ble_eq_true rfl⟩ rfl rfl rfl hl.1 rfl (Nat.le_of_ble_eq_true rfl) dX0_mayBowl_11 ⟨Nat.zero_le _, Nat.zero_le _⟩ (fun r4 σ3 τ3 H locs h3 hP hS => ?_)
      obtain ⟨⟨rfl, rfl⟩, h3⟩ := h3
      have h5 := h3
      obtain ⟨q7, k6⟩ := h5
      have q7 := q7.symm
      subst q7
      refine lv_if_le (tgt := 29) hx hb dX0_mayBowl_14 (by decide) (fun _ => ?_) (fun c => absurd (by decide) c)
      refine lv_iconst (v := 0) hx hb dX0_mayBowl_29 (by decide) ?_
      exact hret 0 σ τ _ _ _ _ rfl ⟨⟨rfl, rfl⟩, ⟨rfl, trivial⟩⟩ hP hS dX0_mayBowl_30
set_option maxHeartbeats 4000000 in
set_option maxRecDepth 100000 in
theorem c_X0_first (l : Launch) (D : va_G) (cI cL : ClassId) (ad : Nat → Nat) (hJ : jD ad) (σ : Nat → Nat → Int32) (τ : Nat → Nat → Int64) : jM l yX0_first cX0_first 2 (some .int) ({ frames := 2, cells := 0, slots := 0, locals := 42 }) D cI cL ad [.int 0] σ τ (fun r σ' τ' => (σ = σ' ∧ τ = τ') ∧ ((r = (-1) ∧ True))) := by
  refine jM.of hJ (by decide +kernel) (nt := .int) rfl (Nat.le_of_ble_eq_true rfl) ?_
  intro p e s m args below meth c Q ls hC hret hl hP
  obtain ⟨hx, hb, hr, hml, hown, hts, hK, -, hlocks⟩ := hC
  have hown : s.vm.findClass RX0 = some m.cls := hown
  have hS : va_S (jA ad) s.heap s.heap [] := va_S.rf
  have hA : ∀ q, jA ad q → jA ad q := fun _ h => h
  have hl : lv_has ls 2 [(0, .int 0)] := hl
  refine lv_iconst (v := 0) hx hb dX0_first_0 (by decide) ?_
  refine lv_istore_n (lv' := [(1, .int 0), (0, .int 0)]) hx hb dX0_first_1 rfl hl (by decide) rfl (fun ls hl => ?_)
  refine lv_iload_n hx hb dX0_first_2 rfl (lv_at hl 0 rfl) ?_
  refine lv_iconst (v := 4) hx hb dX0_first_3 (by decide) ?_
  refine lv_icmp_ge (tgt := 23) hx hb dX0_first_4 (by decide) (fun c => absurd c (by decide)) (fun _ => ?_)
  refine lv_iload_n hx hb dX0_first_7 rfl (lv_at hl 1 rfl) ?_
  refine lv_iload_n hx hb dX0_first_8 rfl (lv_at hl 0 rfl) ?_
  refine jcallS (As := [.int 0, .int 0]) (rest := []) ⟨hx, hb, hml, hown, hts⟩ hK hP hA hS (c_X0_mayBowl l D cI cL ad hJ σ τ 0 (0) jz_0) cw_RX0_19 ⟨Nat.le_of_ble_eq_true rfl, Nat.le_of_ble_eq_true rfl⟩ rfl rfl rfl hl.1 rfl (Nat.le_of_ble_eq_true rfl) dX0_first_9 ⟨Nat.zero_le _, Nat.zero_le _⟩ (fun r2 σ1 τ1 H locs h1 hP hS => ?_)
  obtain ⟨⟨rfl, rfl⟩, h1⟩ := h1
  have h3 := h1
  obtain ⟨q5, k4⟩ := h3
  have q5 := q5.symm
  subst q5
  refine lv_if_eq (tgt := 17) hx hb dX0_first_12 (by decide) (fun _ => ?_) (fun c => absurd (by decide) c)
  refine lv_iinc (v := 1) (lv' := [(1, .int 1), (0, .int 0)]) hx hb dX0_first_17 hl (k := 0) rfl (by decide) (by decide) rfl (fun ls hl => ?_)
  refine lv_goto (tgt := 2) hx hb dX0_first_20 (by decide) ?_
  refine lv_iload_n hx hb dX0_first_2 rfl (lv_at hl 0 rfl) ?_
  refine lv_iconst (v := 4) hx hb dX0_first_3 (by decide) ?_
  refine lv_icmp_ge (tgt := 23) hx hb dX0_first_4 (by decide) (fun c => absurd c (by decide)) (fun _ => ?_)
  refine lv_iload_n hx hb dX0_first_7 rfl (lv_at hl 1 rfl) ?_
  refine lv_iload_n hx hb dX0_first_8 rfl (lv_at hl 0 rfl) ?_
  refine jcallS (As := [.int 0, .int 1]) (rest := []) ⟨hx, hb, hml, hown, hts⟩ hK hP hA hS (c_X0_mayBowl l D cI cL ad hJ σ τ 1 (1) jz_1) cw_RX0_19 ⟨Nat.le_of_ble_eq_true rfl, Nat.le_of_ble_eq_true rfl⟩ rfl rfl rfl hl.1 rfl (Nat.le_of_ble_eq_true rfl) dX0_first_9 ⟨Nat.zero_le _, Nat.zero_le _⟩ (fun r7 σ6 τ6 H locs h6 hP hS => ?_)
  obtain ⟨⟨rfl, rfl⟩, h6⟩ := h6
  have h8 := h6
  obtain ⟨q10, k9⟩ := h8
  have q10 := q10.symm
  subst q10
  refine lv_if_eq (tgt := 17) hx hb dX0_first_12 (by decide) (fun _ => ?_) (fun c => absurd (by decide) c)
  refine lv_iinc (v := 2) (lv' := [(1, .int 2), (0, .int 0)]) hx hb dX0_first_17 hl (k := 0) rfl (by decide) (by decide) rfl (fun ls hl => ?_)
  refine lv_goto (tgt := 2) hx hb dX0_first_20 (by decide) ?_
  refine lv_iload_n hx hb dX0_first_2 rfl (lv_at hl 0 rfl) ?_
  refine lv_iconst (v := 4) hx hb dX0_first_3 (by decide) ?_
  refine lv_icmp_ge (tgt := 23) hx hb dX0_first_4 (by decide) (fun c => absurd c (by decide)) (fun _ => ?_)
  refine lv_iload_n hx hb dX0_first_7 rfl (lv_at hl 1 rfl) ?_
  refine lv_iload_n hx hb dX0_first_8 rfl (lv_at hl 0 rfl) ?_
  refine jcallS (As := [.int 0, .int 2]) (rest := []) ⟨hx, hb, hml, hown, hts⟩ hK hP hA hS (c_X0_mayBowl l D cI cL ad hJ σ τ 2 (2) jz_2) cw_RX0_19 ⟨Nat.le_of_ble_eq_true rfl, Nat.le_of_ble_eq_true rfl⟩ rfl rfl rfl hl.1 rfl (Nat.le_of_ble_eq_true rfl) dX0_first_9 ⟨Nat.zero_le _, Nat.zero_le _⟩ (fun r12 σ11 τ11 H locs h11 hP hS => ?_)
  obtain ⟨⟨rfl, rfl⟩, h11⟩ := h11
  have h13 := h11
  obtain ⟨q15, k14⟩ := h13
  have q15 := q15.symm
  subst q15
  refine lv_if_eq (tgt := 17) hx hb dX0_first_12 (by decide) (fun _ => ?_) (fun c => absurd (by decide) c)
  refine lv_iinc (v := 3) (lv' := [(1, .int 3), (0, .int 0)]) hx hb dX0_first_17 hl (k := 0) rfl (by decide) (by decide) rfl (fun ls hl => ?_)
  refine lv_goto (tgt := 2) hx hb dX0_first_20 (by decide) ?_
  refine lv_iload_n hx hb dX0_first_2 rfl (lv_at hl 0 rfl) ?_
  refine lv_iconst (v := 4) hx hb dX0_first_3 (by decide) ?_
  refine lv_icmp_ge (tgt := 23) hx hb dX0_first_4 (by decide) (fun c => absurd c (by decide)) (fun _ => ?_)
  refine lv_iload_n hx hb dX0_first_7 rfl (lv_at hl 1 rfl) ?_
  refine lv_iload_n hx hb dX0_first_8 rfl (lv_at hl 0 rfl) ?_
  refine jcallS (As := [.int 0, .int 3]) (rest := []) ⟨hx, hb, hml, hown, hts⟩ hK hP hA hS (c_X0_mayBowl l D cI cL ad hJ σ τ 3 (3) jz_3) cw_RX0_19 ⟨Nat.le_of_ble_eq_true rfl, Nat.le_of_ble_eq_true rfl⟩ rfl rfl rfl hl.1 rfl (Nat.le_of_ble_eq_true rfl) dX0_first_9 ⟨Nat.zero_le _, Nat.zero_le _⟩ (fun r17 σ16 τ16 H locs h16 hP hS => ?_)
  obtain ⟨⟨rfl, rfl⟩, h16⟩ := h16
  have h18 := h16
  obtain ⟨q20, k19⟩ := h18
  have q20 := q20.symm
  subst q20
  refine lv_if_eq (tgt := 17) hx hb dX0_first_12 (by decide) (fun _ => ?_) (fun c => absurd (by decide) c)
  refine lv_iinc (v := 4) (lv' := [(1, .int 4), (0, .int 0)]) hx hb dX0_first_17 hl (k := 0) rfl (by decide) (by decide) rfl (fun ls hl => ?_)
  refine lv_goto (tgt := 2) hx hb dX0_first_20 (by decide) ?_
  refine lv_iload_n hx hb dX0_first_2 rfl (lv_at hl 0 rfl) ?_
  refine lv_iconst (v := 4) hx hb dX0_first_3 (by decide) ?_
  refine lv_icmp_ge (tgt := 23) hx hb dX0_first_4 (by decide) (fun _ => ?_) (fun c => absurd (by decide) c)
  refine lv_iconst (v := (-1)) hx hb dX0_first_23 (by decide) ?_
  exact hret (-1) σ τ _ _ _ _ rfl ⟨⟨rfl, rfl⟩, ⟨rfl, trivial⟩⟩ hP hS dX0_first_24
set_option maxHeartbeats 4000000 in
set_option maxRecDepth 100000 in
theorem c_X6_ended_16 (l : Launch) (D : va_G) (cI cL : ClassId) (ad : Nat → Nat) (hJ : jD ad) (σ : Nat → Nat → Int32) (τ : Nat → Nat → Int64) (h16_0 : σ 16 0 = 1) (h16_1 : σ 16 1 = 8) : jM l yX6_ended cX6_ended 4 (some .boolean) ({ frames := 3, cells := 0, slots := 0, locals := 63 }) D cI cL ad [.ref (ad 16), .int 0, .int 0, .int 0] σ τ (fun r σ' τ' => (σ = σ' ∧ τ = τ') ∧ ((r = 1 ∧ True))) := by
  refine jM.of hJ (by decide +kernel) (nt := .boolean) rfl (Nat.le_of_ble_eq_true rfl) ?_
  intro p e s m args below meth c Q ls hC hret hl hP
  obtain ⟨hx, hb, hr, hml, hown, hts, hK, -, hlocks⟩ := hC
  have hown : s.vm.findClass RX6 = some m.cls := hown
  have hS : va_S (jA ad) s.heap s.heap [] := va_S.rf
  have hA : ∀ q, jA ad q → jA ad q := fun _ h => h
  have hl : lv_has ls 4 [(0, .ref (ad 16)), (1, .int 0), (2, .int 0), (3, .int 0)] := hl
  refine lv_iload_n hx hb dX6_ended_0 rfl (lv_at hl 2 rfl) ?_
  refine lv_aload_n hx hb dX6_ended_1 rfl (lv_at hl 0 rfl) ?_
  refine va_get (D := D) hx hb hts inlX6 hown hK hP 16 (jc_16 cI cL ad σ τ) rfl 0 (by decide) (hts _ kw_4_9) (fun _ h9 => h9) rfl dX6_ended_2 ?_
  refine jtopr h16_0 ?_
  refine lv_icmp_ge (tgt := 23) hx hb dX6_ended_5 (by decide) (fun c => absurd c (by decide)) (fun _ => ?_)
  refine lv_iload_n hx hb dX6_ended_8 rfl (lv_at hl 1 rfl) ?_
  refine lv_aload_n hx hb dX6_ended_9 rfl (lv_at hl 0 rfl) ?_
  refine va_get (D := D) hx hb hts inlX6 hown hK hP 16 (jc_16 cI cL ad σ τ) rfl 1 (by decide) (hts _ kw_4_10) (fun _ h9 => h9) rfl dX6_ended_10 ?_
  refine jtopr h16_1 ?_
  refine lv_icmp_ge (tgt := 23) hx hb dX6_ended_13 (by decide) (fun c => absurd c (by decide)) (fun _ => ?_)
  refine lv_iload_n hx hb dX6_ended_16 rfl (lv_at hl 3 rfl) ?_
  refine jcallS (As := [.int 0]) (rest := []) ⟨hx, hb, hml, hown, hts⟩ hK hP hA hS (c_X0_first l D cI cL ad hJ σ τ) cw_RX6_22 ⟨Nat.le_of_ble_eq_true rfl, Nat.le_of_ble_eq_true rfl⟩ rfl rfl rfl hl.1 rfl (Nat.le_of_ble_eq_true rfl) dX6_ended_17 ⟨Nat.zero_le _, Nat.zero_le _⟩ (fun r2 σ1 τ1 H locs h1 hP hS => ?_)
  obtain ⟨⟨rfl, rfl⟩, h1⟩ := h1
  have h3 := h1
  obtain ⟨q5, k4⟩ := h3
  have q5 := q5.symm
  subst q5
  refine lv_if_ge (tgt := 27) hx hb dX6_ended_20 (by decide) (fun c => absurd c (by decide)) (fun _ => ?_)
  refine lv_iconst (v := 1) hx hb dX6_ended_23 (by decide) ?_
  refine lv_goto (tgt := 28) hx hb dX6_ended_24 (by decide) ?_
  exact hret 1 σ τ _ _ _ _ rfl ⟨⟨rfl, rfl⟩, ⟨rfl, trivial⟩⟩ hP hS dX6_ended_28
set_option maxHeartbeats 4000000 in
set_option maxRecDepth 100000 in
theorem c_X4_freshAttack_2 (l : Launch) (D : va_G) (cI cL : ClassId) (ad : Nat → Nat) (hJ : jD ad) (σ : Nat → Nat → Int32) (τ : Nat → Nat → Int64) (h2_0 : σ 2 0 = 0) : jM l yX4_freshAttack cX4_freshAttack 3 (some .int) ({ frames := 0, cells := 0, slots := 0, locals := 0 }) D cI cL ad [.ref (ad 2)] σ τ (fun r σ' τ' => (σ = σ' ∧ τ = τ') ∧ ((r = 0 ∧ True))) := by
  refine jM.of hJ (by decide +kernel) (nt := .int) rfl (Nat.le_of_ble_eq_true rfl) ?_
  intro p e s m args below meth c Q ls hC hret hl hP
  obtain ⟨hx, hb, hr, hml, hown, hts, hK, -, hlocks⟩ := hC
  have hown : s.vm.findClass RX4 = some m.cls := hown
  have hS : va_S (jA ad) s.heap s.heap [] := va_S.rf
  have hA : ∀ q, jA ad q → jA ad q := fun _ h => h
  have hl : lv_has ls 3 [(0, .ref (ad 2))] := hl
  refine lv_iconst (v := 0) hx hb dX4_freshAttack_0 (by decide) ?_
  refine lv_istore_n (lv' := [(1, .int 0), (0, .ref (ad 2))]) hx hb dX4_freshAttack_1 rfl hl (by decide) rfl (fun ls hl => ?_)
  refine lv_iconst (v := 0) hx hb dX4_freshAttack_2 (by decide) ?_
  refine lv_istore_n (lv' := [(2, .int 0), (1, .int 0), (0, .ref (ad 2))]) hx hb dX4_freshAttack_3 rfl hl (by decide) rfl (fun ls hl => ?_)
  refine lv_iload_n hx hb dX4_freshAttack_4 rfl (lv_at hl 0 rfl) ?_
  refine lv_aload_n hx hb dX4_freshAttack_5 rfl (lv_at hl 2 rfl) ?_
  refine va_get (D := D) hx hb hts inlX4 hown hK hP 2 (jc_2 cI cL ad σ τ) rfl 0 (by decide) (hts _ kw_9_5) (fun _ h9 => h9) rfl dX4_freshAttack_6 ?_
  refine jtopr h2_0 ?_
  refine lv_icmp_ge (tgt := 29) hx hb dX4_freshAttack_9 (by decide) (fun _ => ?_) (fun c => absurd (by decide) c)
  refine lv_iload_n hx hb dX4_freshAttack_29 rfl (lv_at hl 1 rfl) ?_
  exact hret 0 σ τ _ _ _ _ rfl ⟨⟨rfl, rfl⟩, ⟨rfl, trivial⟩⟩ hP hS dX4_freshAttack_30
set_option maxHeartbeats 4000000 in
set_option maxRecDepth 100000 in
theorem c_X2_outs_47 (l : Launch) (D : va_G) (cI cL : ClassId) (ad : Nat → Nat) (hJ : jD ad) (σ : Nat → Nat → Int32) (τ : Nat → Nat → Int64) : jM l yX2_outs cX2_outs 4 (some .int) ({ frames := 0, cells := 0, slots := 0, locals := 0 }) D cI cL ad [.ref (ad 47), .int 0] σ τ (fun r σ' τ' => (σ = σ' ∧ τ = τ') ∧ ((r = 0 ∧ True))) := by
  refine jM.of hJ (by decide +kernel) (nt := .int) rfl (Nat.le_of_ble_eq_true rfl) ?_
  intro p e s m args below meth c Q ls hC hret hl hP
  obtain ⟨hx, hb, hr, hml, hown, hts, hK, -, hlocks⟩ := hC
  have hown : s.vm.findClass RX2 = some m.cls := hown
  have hS : va_S (jA ad) s.heap s.heap [] := va_S.rf
  have hA : ∀ q, jA ad q → jA ad q := fun _ h => h
  have hl : lv_has ls 4 [(0, .ref (ad 47)), (1, .int 0)] := hl
  refine lv_iconst (v := 0) hx hb dX2_outs_0 (by decide) ?_
  refine lv_istore_n (lv' := [(2, .int 0), (0, .ref (ad 47)), (1, .int 0)]) hx hb dX2_outs_1 rfl hl (by decide) rfl (fun ls hl => ?_)
  refine lv_iconst (v := 0) hx hb dX2_outs_2 (by decide) ?_
  refine lv_istore_n (lv' := [(3, .int 0), (2, .int 0), (0, .ref (ad 47)), (1, .int 0)]) hx hb dX2_outs_3 rfl hl (by decide) rfl (fun ls hl => ?_)
  refine lv_iload_n hx hb dX2_outs_4 rfl (lv_at hl 0 rfl) ?_
  refine lv_iload_n hx hb dX2_outs_5 rfl (lv_at hl 3 rfl) ?_
  refine lv_icmp_ge (tgt := 32) hx hb dX2_outs_6 (by decide) (fun _ => ?_) (fun c => absurd (by decide) c)
  refine lv_iload_n hx hb dX2_outs_32 rfl (lv_at hl 1 rfl) ?_
  exact hret 0 σ τ _ _ _ _ rfl ⟨⟨rfl, rfl⟩, ⟨rfl, trivial⟩⟩ hP hS dX2_outs_33
set_option maxHeartbeats 4000000 in
set_option maxRecDepth 100000 in
theorem c_X2_attackAhead_47 (l : Launch) (D : va_G) (cI cL : ClassId) (ad : Nat → Nat) (hJ : jD ad) (σ : Nat → Nat → Int32) (τ : Nat → Nat → Int64) (h2_0 : σ 2 0 = 0) : jM l yX2_attackAhead cX2_attackAhead 5 (some .int) ({ frames := 1, cells := 0, slots := 0, locals := 22 }) D cI cL ad [.ref (ad 47), .int 0, .ref (ad 2)] σ τ (fun r σ' τ' => (σ = σ' ∧ τ = τ') ∧ ((r = 0 ∧ True))) := by
  refine jM.of hJ (by decide +kernel) (nt := .int) rfl (Nat.le_of_ble_eq_true rfl) ?_
  intro p e s m args below meth c Q ls hC hret hl hP
  obtain ⟨hx, hb, hr, hml, hown, hts, hK, -, hlocks⟩ := hC
  have hown : s.vm.findClass RX2 = some m.cls := hown
  have hS : va_S (jA ad) s.heap s.heap [] := va_S.rf
  have hA : ∀ q, jA ad q → jA ad q := fun _ h => h
  have hl : lv_has ls 5 [(0, .ref (ad 47)), (1, .int 0), (2, .ref (ad 2))] := hl
  refine lv_aload_n hx hb dX2_attackAhead_0 rfl (lv_at hl 2 rfl) ?_
  refine jcallV (As := []) (rest := []) ⟨hx, hb, hml, hown, hts⟩ hK hP hA hS (c_X4_freshAttack_2 l D cI cL ad hJ σ τ h2_0) cw_RX2_28 (jc_2 cI cL ad σ τ) rfl ⟨Nat.le_of_ble_eq_true rfl, Nat.le_of_ble_eq_true rfl⟩ rfl rfl rfl hl.1 rfl (Nat.le_of_ble_eq_true rfl) dX2_attackAhead_1 ⟨Nat.zero_le _, Nat.zero_le _⟩ (fun r2 σ1 τ1 H locs h1 hP hS => ?_)
  obtain ⟨⟨rfl, rfl⟩, h1⟩ := h1
  have h3 := h1
  obtain ⟨q5, k4⟩ := h3
  have q5 := q5.symm
  subst q5
  refine lv_istore_n (lv' := [(3, .int 0), (0, .ref (ad 47)), (1, .int 0), (2, .ref (ad 2))]) hx hb dX2_attackAhead_4 rfl hl (by decide) rfl (fun ls hl => ?_)
  refine lv_iconst (v := 0) hx hb dX2_attackAhead_5 (by decide) ?_
  refine lv_istore (lv' := [(4, .int 0), (3, .int 0), (0, .ref (ad 47)), (1, .int 0), (2, .ref (ad 2))]) hx hb dX2_attackAhead_6 hl (by decide) rfl (fun ls hl => ?_)
  refine lv_iload hx hb dX2_attackAhead_8 (lv_at hl 0 rfl) ?_
  refine lv_iload_n hx hb dX2_attackAhead_10 rfl (lv_at hl 3 rfl) ?_
  refine lv_icmp_ge (tgt := 41) hx hb dX2_attackAhead_11 (by decide) (fun _ => ?_) (fun c => absurd (by decide) c)
  refine lv_iload_n hx hb dX2_attackAhead_41 rfl (lv_at hl 1 rfl) ?_
  exact hret 0 σ τ _ _ _ _ rfl ⟨⟨rfl, rfl⟩, ⟨rfl, trivial⟩⟩ hP hS dX2_attackAhead_42
set_option maxHeartbeats 4000000 in
set_option maxRecDepth 100000 in
theorem c_X11_best (l : Launch) (D : va_G) (cI cL : ClassId) (ad : Nat → Nat) (hJ : jD ad) (σ : Nat → Nat → Int32) (τ : Nat → Nat → Int64) (a1 : Int32) (A1 : Int) (t1 : a1.toInt = A1) (h2_0 : σ 2 0 = 0) (h16_0 : σ 16 0 = 1) (h16_1 : σ 16 1 = 8) (h47_0 : σ 47 0 = 0) : jM l yX11_best cX11_best 5 (some .int) ({ frames := 4, cells := 0, slots := 0, locals := 86 }) D cI cL ad [.ref (ad 0), .int a1] σ τ (fun r σ' τ' => (∀ i : Nat, (i < 0 ∨ 54 < i) → σ' i = σ i) ∧ r = (if A1 = 0 then 0 else if A1 = 1 then -2 else -1)) := by
  refine jM.of hJ (by decide +kernel) (nt := .int) rfl (Nat.le_of_ble_eq_true rfl) ?_
  intro p e s m args below meth c Q ls hC hret hl hP
  obtain ⟨hx, hb, hr, hml, hown, hts, hK, -, hlocks⟩ := hC
  have hown : s.vm.findClass RX11 = some m.cls := hown
  have hS : va_S (jA ad) s.heap s.heap [] := va_S.rf
  have hA : ∀ q, jA ad q → jA ad q := fun _ h => h
  have hl : lv_has ls 5 [(0, .ref (ad 0)), (1, .int a1)] := hl
  have g1 := jrg t1
  refine lv_iload_n hx hb dX11_best_0 rfl (lv_at hl 1 rfl) ?_
  refine lv_iconst (v := 0) hx hb dX11_best_1 (by decide) ?_
  refine lv_iconst (v := 1) hx hb dX11_best_2 (by decide) ?_
  refine jcallS (As := [.int a1, .int 0, .int 1]) (rest := []) ⟨hx, hb, hml, hown, hts⟩ hK hP hA hS (c_X11_outside l D cI cL ad hJ σ τ a1 (A1) t1 0 (0) jz_0 1 (1) jz_1) cw_RX11_94 ⟨Nat.le_of_ble_eq_true rfl, Nat.le_of_ble_eq_true rfl⟩ rfl rfl rfl hl.1 rfl (Nat.le_of_ble_eq_true rfl) dX11_best_3 ⟨Nat.zero_le _, Nat.zero_le _⟩ (fun r2 σ1 τ1 H locs h1 hP hS => ?_)
  obtain ⟨⟨rfl, rfl⟩, h1⟩ := h1
  rcases h1 with h3 | h4
  · obtain ⟨q6, k5⟩ := h3
    have q6 := q6.symm
    subst q6
    refine lv_if_eq (tgt := 11) hx hb dX11_best_6 (by decide) (fun c => absurd c (by decide)) (fun _ => ?_)
    refine lv_iconst (v := (-1)) hx hb dX11_best_9 (by decide) ?_
    exact hret (-1) σ τ _ _ _ _ rfl ⟨(fun _ _ => rfl), (by (repeat' split) <;> first | rfl | omega | exact jsame jz_m1 t1 (by omega) | (exfalso; omega))⟩ hP hS dX11_best_10
  · obtain ⟨q8, k7⟩ := h4
    have q8 := q8.symm
    subst q8
    refine lv_if_eq (tgt := 11) hx hb dX11_best_6 (by decide) (fun _ => ?_) (fun c => absurd (by decide) c)
    refine lv_aload_n hx hb dX11_best_11 rfl (lv_at hl 0 rfl) ?_
    refine va_get (D := D) hx hb hts inlX11 hown hK hP 0 (jc_0 cI cL ad σ τ) rfl 9 (by decide) (hts _ kw_3_1) (fun _ h9 => h9) rfl dX11_best_12 ?_
    refine va_get (D := D) hx hb hts inlX2 hown hK hP 47 (jc_47 cI cL ad σ τ) rfl 0 (by decide) (hts _ kw_13_11) (fun _ h9 => h9) rfl dX11_best_15 ?_
    refine jtopr h47_0 ?_
    refine lv_istore_n (lv' := [(2, .int 0), (0, .ref (ad 0)), (1, .int a1)]) hx hb dX11_best_18 rfl hl (by decide) rfl (fun ls hl => ?_)
    refine lv_aload_n hx hb dX11_best_19 rfl (lv_at hl 1 rfl) ?_
    refine va_get (D := D) hx hb hts inlX11 hown hK hP 0 (jc_0 cI cL ad σ τ) rfl 9 (by decide) (hts _ kw_3_1) (fun _ h9 => h9) rfl dX11_best_20 ?_
    refine lv_aload_n hx hb dX11_best_23 rfl (lv_at hl 1 rfl) ?_
    refine va_get (D := D) hx hb hts inlX11 hown hK hP 0 (jc_0 cI cL ad σ τ) rfl 9 (by decide) (hts _ kw_3_1) (fun _ h9 => h9) rfl dX11_best_24 ?_
    refine va_get (D := D) hx hb hts inlX2 hown hK hP 47 (jc_47 cI cL ad σ τ) rfl 0 (by decide) (hts _ kw_13_11) (fun _ h9 => h9) rfl dX11_best_27 ?_
    refine jtopr h47_0 ?_
    refine jcallV (As := [.int 0]) (rest := []) ⟨hx, hb, hml, hown, hts⟩ hK hP hA hS (c_X2_outs_47 l D cI cL ad hJ σ τ) cw_RX11_180 (jc_47 cI cL ad σ τ) rfl ⟨Nat.le_of_ble_eq_true rfl, Nat.le_of_ble_eq_true rfl⟩ rfl rfl rfl hl.1 rfl (Nat.le_of_ble_eq_true rfl) dX11_best_30 ⟨Nat.zero_le _, Nat.zero_le _⟩ (fun r10 σ9 τ9 H locs h9 hP hS => ?_)
    obtain ⟨⟨rfl, rfl⟩, h9⟩ := h9
    have h11 := h9
    obtain ⟨q13, k12⟩ := h11
    have q13 := q13.symm
    subst q13
    refine lv_istore_n (lv' := [(3, .int 0), (2, .int 0), (0, .ref (ad 0)), (1, .int a1)]) hx hb dX11_best_33 rfl hl (by decide) rfl (fun ls hl => ?_)
    refine lv_aload_n hx hb dX11_best_34 rfl (lv_at hl 2 rfl) ?_
    refine va_get (D := D) hx hb hts inlX11 hown hK hP 0 (jc_0 cI cL ad σ τ) rfl 2 (by decide) (hts _ kw_2_0) (fun _ h9 => h9) rfl dX11_best_35 ?_
    refine va_get (D := D) hx hb hts inlX6 hown hK hP 16 (jc_16 cI cL ad σ τ) rfl 1 (by decide) (hts _ kw_20_5) (fun _ h9 => h9) rfl dX11_best_38 ?_
    refine jtopr h16_1 ?_
    refine lv_iload_n hx hb dX11_best_41 rfl (lv_at hl 1 rfl) ?_
    refine lv_isub hx hb dX11_best_42 ?_
    refine jtopr (y := 8) (by decide) ?_
    refine lv_bipush (v := 8) hx hb dX11_best_43 (by decide) ?_
    refine lv_icmp_le (tgt := 51) hx hb dX11_best_45 (by decide) (fun _ => ?_) (fun c => absurd (by decide) c)
    refine lv_aload_n hx hb dX11_best_51 rfl (lv_at hl 2 rfl) ?_
    refine va_get (D := D) hx hb hts inlX11 hown hK hP 0 (jc_0 cI cL ad σ τ) rfl 9 (by decide) (hts _ kw_3_1) (fun _ h9 => h9) rfl dX11_best_52 ?_
    refine lv_iload_n hx hb dX11_best_55 rfl (lv_at hl 1 rfl) ?_
    refine lv_aload_n hx hb dX11_best_56 rfl (lv_at hl 2 rfl) ?_
    refine va_get (D := D) hx hb hts inlX11 hown hK hP 0 (jc_0 cI cL ad σ τ) rfl 0 (by decide) (hts _ kw_1_16) (fun _ h9 => h9) rfl dX11_best_57 ?_
    refine jcallV (As := [.int 0, .ref (ad 2)]) (rest := []) ⟨hx, hb, hml, hown, hts⟩ hK hP hA hS (c_X2_attackAhead_47 l D cI cL ad hJ σ τ h2_0) cw_RX11_186 (jc_47 cI cL ad σ τ) rfl ⟨Nat.le_of_ble_eq_true rfl, Nat.le_of_ble_eq_true rfl⟩ rfl rfl rfl hl.1 rfl (Nat.le_of_ble_eq_true rfl) dX11_best_60 ⟨Nat.zero_le _, Nat.zero_le _⟩ (fun r15 σ14 τ14 H locs h14 hP hS => ?_)
    obtain ⟨⟨rfl, rfl⟩, h14⟩ := h14
    have h16 := h14
    obtain ⟨q18, k17⟩ := h16
    have q18 := q18.symm
    subst q18
    refine lv_istore (lv' := [(4, .int 0), (3, .int 0), (2, .int 0), (0, .ref (ad 0)), (1, .int a1)]) hx hb dX11_best_63 hl (by decide) rfl (fun ls hl => ?_)
    refine lv_aload_n hx hb dX11_best_65 rfl (lv_at hl 3 rfl) ?_
    refine va_get (D := D) hx hb hts inlX11 hown hK hP 0 (jc_0 cI cL ad σ τ) rfl 2 (by decide) (hts _ kw_2_0) (fun _ h9 => h9) rfl dX11_best_66 ?_
    refine lv_iload_n hx hb dX11_best_69 rfl (lv_at hl 2 rfl) ?_
    refine lv_iload_n hx hb dX11_best_70 rfl (lv_at hl 1 rfl) ?_
    refine lv_iload hx hb dX11_best_71 (lv_at hl 0 rfl) ?_
    refine jcallV (As := [.int 0, .int 0, .int 0]) (rest := []) ⟨hx, hb, hml, hown, hts⟩ hK hP hA hS (c_X6_ended_16 l D cI cL ad hJ σ τ h16_0 h16_1) cw_RX11_190 (jc_16 cI cL ad σ τ) rfl ⟨Nat.le_of_ble_eq_true rfl, Nat.le_of_ble_eq_true rfl⟩ rfl rfl rfl hl.1 rfl (Nat.le_of_ble_eq_true rfl) dX11_best_73 ⟨Nat.zero_le _, Nat.zero_le _⟩ (fun r20 σ19 τ19 H locs h19 hP hS => ?_)
    obtain ⟨⟨rfl, rfl⟩, h19⟩ := h19
    have h21 := h19
    obtain ⟨q23, k22⟩ := h21
    have q23 := q23.symm
    subst q23
    refine lv_if_eq (tgt := 90) hx hb dX11_best_76 (by decide) (fun c => absurd c (by decide)) (fun _ => ?_)
    refine lv_iload_n hx hb dX11_best_79 rfl (lv_at hl 4 rfl) ?_
    refine lv_if_ne (tgt := 87) hx hb dX11_best_80 (by decide) (fun c24 => ?_) (fun c24 => ?_)
    · have kc24 := jne c24 t1 jz_0
      refine lv_bipush (v := (-2)) hx hb dX11_best_87 (by decide) ?_
      exact hret (-2) σ τ _ _ _ _ rfl ⟨(fun _ _ => rfl), (by (repeat' split) <;> first | rfl | omega | exact jsame jz_m2 t1 (by omega) | (exfalso; omega))⟩ hP hS dX11_best_89
    · have kc24 := jeq c24 t1 jz_0
      refine lv_iconst (v := 0) hx hb dX11_best_83 (by decide) ?_
      refine lv_goto (tgt := 89) hx hb dX11_best_84 (by decide) ?_
      exact hret 0 σ τ _ _ _ _ rfl ⟨(fun _ _ => rfl), (by (repeat' split) <;> first | rfl | omega | exact jsame jz_0 t1 (by omega) | (exfalso; omega))⟩ hP hS dX11_best_89
set_option maxHeartbeats 4000000 in
set_option maxRecDepth 100000 in
theorem c_X11_worth (l : Launch) (D : va_G) (cI cL : ClassId) (ad : Nat → Nat) (hJ : jD ad) (σ : Nat → Nat → Int32) (τ : Nat → Nat → Int64) (a1 : Int32) (A1 : Int) (t1 : a1.toInt = A1) (a2 : Int32) (A2 : Int) (t2 : a2.toInt = A2) (h2_0 : σ 2 0 = 0) : jM l yX11_worth cX11_worth 7 (some .int) ({ frames := 2, cells := 0, slots := 0, locals := 43 }) D cI cL ad [.ref (ad 0), .int a1, .int a2] σ τ (fun r σ' τ' => (∀ i : Nat, (i < 0 ∨ 54 < i) → σ' i = σ i) ∧ r = (-2000000000)) := by
  refine jM.of hJ (by decide +kernel) (nt := .int) rfl (Nat.le_of_ble_eq_true rfl) ?_
  intro p e s m args below meth c Q ls hC hret hl hP
  obtain ⟨hx, hb, hr, hml, hown, hts, hK, -, hlocks⟩ := hC
  have hown : s.vm.findClass RX11 = some m.cls := hown
  have hS : va_S (jA ad) s.heap s.heap [] := va_S.rf
  have hA : ∀ q, jA ad q → jA ad q := fun _ h => h
  have hl : lv_has ls 7 [(0, .ref (ad 0)), (1, .int a1), (2, .int a2)] := hl
  have g1 := jrg t1
  have g2 := jrg t2
  refine lv_aload_n hx hb dX11_worth_0 rfl (lv_at hl 0 rfl) ?_
  refine lv_iload_n hx hb dX11_worth_1 rfl (lv_at hl 1 rfl) ?_
  refine jcallV (As := [.int a1]) (rest := []) ⟨hx, hb, hml, hown, hts⟩ hK hP hA hS (c_X11_noBowler l D cI cL ad hJ σ τ a1 (A1) t1 h2_0) cw_RX11_152 (jc_0 cI cL ad σ τ) rfl ⟨Nat.le_of_ble_eq_true rfl, Nat.le_of_ble_eq_true rfl⟩ rfl rfl rfl hl.1 rfl (Nat.le_of_ble_eq_true rfl) dX11_worth_2 ⟨Nat.zero_le _, Nat.zero_le _⟩ (fun r2 σ1 τ1 H locs h1 hP hS => ?_)
  obtain ⟨⟨rfl, rfl⟩, h1⟩ := h1
  have h3 := h1
  obtain ⟨q5, k4⟩ := h3
  have q5 := q5.symm
  subst q5
  refine lv_if_ne (tgt := 29) hx hb dX11_worth_5 (by decide) (fun _ => ?_) (fun c => absurd c (by decide))
  refine lv_ldc (v := (-2000000000)) hx hb hown (hts _ kw_9_21) dX11_worth_29 ?_
  exact hret (-2000000000) σ τ _ _ _ _ rfl ⟨(fun _ _ => rfl), (by (repeat' split) <;> first | rfl | omega | exact jsame jz_m2000000000 t1 (by omega) | exact jsame jz_m2000000000 t2 (by omega) | (exfalso; omega))⟩ hP hS dX11_worth_31
set_option maxHeartbeats 4000000 in
set_option maxRecDepth 100000 in
theorem c_X11_kept (l : Launch) (D : va_G) (cI cL : ClassId) (ad : Nat → Nat) (hJ : jD ad) (σ : Nat → Nat → Int32) (τ : Nat → Nat → Int64) (a1 : Int32) (A1 : Int) (t1 : a1.toInt = A1) (h2_0 : σ 2 0 = 0) : jM l yX11_kept cX11_kept 5 (some .int) ({ frames := 2, cells := 0, slots := 0, locals := 43 }) D cI cL ad [.ref (ad 0), .int a1] σ τ (fun r σ' τ' => (∀ i : Nat, (i < 0 ∨ 54 < i) → σ' i = σ i) ∧ r = (-1)) := by
  refine jM.of hJ (by decide +kernel) (nt := .int) rfl (Nat.le_of_ble_eq_true rfl) ?_
  intro p e s m args below meth c Q ls hC hret hl hP
  obtain ⟨hx, hb, hr, hml, hown, hts, hK, -, hlocks⟩ := hC
  have hown : s.vm.findClass RX11 = some m.cls := hown
  have hS : va_S (jA ad) s.heap s.heap [] := va_S.rf
  have hA : ∀ q, jA ad q → jA ad q := fun _ h => h
  have hl : lv_has ls 5 [(0, .ref (ad 0)), (1, .int a1)] := hl
  have g1 := jrg t1
  refine lv_aload_n hx hb dX11_kept_0 rfl (lv_at hl 0 rfl) ?_
  refine lv_iload_n hx hb dX11_kept_1 rfl (lv_at hl 1 rfl) ?_
  refine jcallV (As := [.int a1]) (rest := []) ⟨hx, hb, hml, hown, hts⟩ hK hP hA hS (c_X11_noBowler l D cI cL ad hJ σ τ a1 (A1) t1 h2_0) cw_RX11_152 (jc_0 cI cL ad σ τ) rfl ⟨Nat.le_of_ble_eq_true rfl, Nat.le_of_ble_eq_true rfl⟩ rfl rfl rfl hl.1 rfl (Nat.le_of_ble_eq_true rfl) dX11_kept_2 ⟨Nat.zero_le _, Nat.zero_le _⟩ (fun r2 σ1 τ1 H locs h1 hP hS => ?_)
  obtain ⟨⟨rfl, rfl⟩, h1⟩ := h1
  have h3 := h1
  obtain ⟨q5, k4⟩ := h3
  have q5 := q5.symm
  subst q5
  refine lv_if_eq (tgt := 10) hx hb dX11_kept_5 (by decide) (fun c => absurd c (by decide)) (fun _ => ?_)
  refine lv_iconst (v := (-1)) hx hb dX11_kept_8 (by decide) ?_
  exact hret (-1) σ τ _ _ _ _ rfl ⟨(fun _ _ => rfl), (by (repeat' split) <;> first | rfl | omega | exact jsame jz_m1 t1 (by omega) | (exfalso; omega))⟩ hP hS dX11_kept_9
set_option maxHeartbeats 4000000 in
set_option maxRecDepth 100000 in
theorem c_X11_learn (l : Launch) (D : va_G) (cI cL : ClassId) (ad : Nat → Nat) (hJ : jD ad) (σ : Nat → Nat → Int32) (τ : Nat → Nat → Int64) (a1 : Int32) (A1 : Int) (t1 : a1.toInt = A1) (a2 : Int32) (A2 : Int) (t2 : a2.toInt = A2) (h2_0 : σ 2 0 = 0) : jM l yX11_learn cX11_learn 5 (some .int) ({ frames := 3, cells := 0, slots := 0, locals := 65 }) D cI cL ad [.ref (ad 0), .int a1, .int a2] σ τ (fun r σ' τ' => (∀ i : Nat, (i < 0 ∨ 54 < i) → σ' i = σ i) ∧ r = (-1)) := by
  refine jM.of hJ (by decide +kernel) (nt := .int) rfl (Nat.le_of_ble_eq_true rfl) ?_
  intro p e s m args below meth c Q ls hC hret hl hP
  obtain ⟨hx, hb, hr, hml, hown, hts, hK, -, hlocks⟩ := hC
  have hown : s.vm.findClass RX11 = some m.cls := hown
  have hS : va_S (jA ad) s.heap s.heap [] := va_S.rf
  have hA : ∀ q, jA ad q → jA ad q := fun _ h => h
  have hl : lv_has ls 5 [(0, .ref (ad 0)), (1, .int a1), (2, .int a2)] := hl
  have g1 := jrg t1
  have g2 := jrg t2
  refine lv_aload_n hx hb dX11_learn_0 rfl (lv_at hl 0 rfl) ?_
  refine lv_iload_n hx hb dX11_learn_1 rfl (lv_at hl 1 rfl) ?_
  refine lv_iconst (v := 0) hx hb dX11_learn_2 (by decide) ?_
  refine jcallV (As := [.int a1, .int 0]) (rest := []) ⟨hx, hb, hml, hown, hts⟩ hK hP hA hS (c_X11_edgePlace l D cI cL ad hJ σ τ a1 (A1) t1 0 (0) jz_0 h2_0) cw_RX11_106 (jc_0 cI cL ad σ τ) rfl ⟨Nat.le_of_ble_eq_true rfl, Nat.le_of_ble_eq_true rfl⟩ rfl rfl rfl hl.1 rfl (Nat.le_of_ble_eq_true rfl) dX11_learn_3 ⟨Nat.zero_le _, Nat.zero_le _⟩ (fun r2 σ1 τ1 H locs h1 hP hS => ?_)
  obtain ⟨⟨rfl, rfl⟩, h1⟩ := h1
  have h3 := h1
  obtain ⟨q5, k4⟩ := h3
  have q5 := q5.symm
  subst q5
  refine lv_istore_n (lv' := [(3, .int (-1)), (0, .ref (ad 0)), (1, .int a1), (2, .int a2)]) hx hb dX11_learn_6 rfl hl (by decide) rfl (fun ls hl => ?_)
  refine lv_iload_n hx hb dX11_learn_7 rfl (lv_at hl 0 rfl) ?_
  refine lv_if_lt (tgt := 33) hx hb dX11_learn_8 (by decide) (fun _ => ?_) (fun c => absurd (by decide) c)
  refine lv_iconst (v := (-1)) hx hb dX11_learn_33 (by decide) ?_
  exact hret (-1) σ τ _ _ _ _ rfl ⟨(fun _ _ => rfl), (by (repeat' split) <;> first | rfl | omega | exact jsame jz_m1 t1 (by omega) | exact jsame jz_m1 t2 (by omega) | (exfalso; omega))⟩ hP hS dX11_learn_34
set_option maxHeartbeats 4000000 in
set_option maxRecDepth 100000 in
theorem c_X11_book (l : Launch) (D : va_G) (cI cL : ClassId) (ad : Nat → Nat) (hJ : jD ad) (σ : Nat → Nat → Int32) (τ : Nat → Nat → Int64) (a1 : Int32) (A1 : Int) (t1 : a1.toInt = A1) (a2 : Int32) (A2 : Int) (t2 : a2.toInt = A2) (h2_0 : σ 2 0 = 0) : jM l yX11_book cX11_book 3 (some .int) ({ frames := 2, cells := 0, slots := 0, locals := 43 }) D cI cL ad [.ref (ad 0), .int a1, .int a2] σ τ (fun r σ' τ' => (∀ i : Nat, (i < 0 ∨ 54 < i) → σ' i = σ i) ∧ r = (-1)) := by
  refine jM.of hJ (by decide +kernel) (nt := .int) rfl (Nat.le_of_ble_eq_true rfl) ?_
  intro p e s m args below meth c Q ls hC hret hl hP
  obtain ⟨hx, hb, hr, hml, hown, hts, hK, -, hlocks⟩ := hC
  have hown : s.vm.findClass RX11 = some m.cls := hown
  have hS : va_S (jA ad) s.heap s.heap [] := va_S.rf
  have hA : ∀ q, jA ad q → jA ad q := fun _ h => h
  have hl : lv_has ls 3 [(0, .ref (ad 0)), (1, .int a1), (2, .int a2)] := hl
  have g1 := jrg t1
  have g2 := jrg t2
  refine lv_aload_n hx hb dX11_book_0 rfl (lv_at hl 0 rfl) ?_
  refine lv_iload_n hx hb dX11_book_1 rfl (lv_at hl 1 rfl) ?_
  refine jcallV (As := [.int a1]) (rest := []) ⟨hx, hb, hml, hown, hts⟩ hK hP hA hS (c_X11_noBowler l D cI cL ad hJ σ τ a1 (A1) t1 h2_0) cw_RX11_152 (jc_0 cI cL ad σ τ) rfl ⟨Nat.le_of_ble_eq_true rfl, Nat.le_of_ble_eq_true rfl⟩ rfl rfl rfl hl.1 rfl (Nat.le_of_ble_eq_true rfl) dX11_book_2 ⟨Nat.zero_le _, Nat.zero_le _⟩ (fun r2 σ1 τ1 H locs h1 hP hS => ?_)
  obtain ⟨⟨rfl, rfl⟩, h1⟩ := h1
  have h3 := h1
  obtain ⟨q5, k4⟩ := h3
  have q5 := q5.symm
  subst q5
  refine lv_if_ne (tgt := 17) hx hb dX11_book_5 (by decide) (fun _ => ?_) (fun c => absurd c (by decide))
  refine lv_iconst (v := (-1)) hx hb dX11_book_17 (by decide) ?_
  exact hret (-1) σ τ _ _ _ _ rfl ⟨(fun _ _ => rfl), (by (repeat' split) <;> first | rfl | omega | exact jsame jz_m1 t1 (by omega) | exact jsame jz_m1 t2 (by omega) | (exfalso; omega))⟩ hP hS dX11_book_18
set_option maxHeartbeats 4000000 in
set_option maxRecDepth 100000 in
theorem c_X11_close (l : Launch) (D : va_G) (cI cL : ClassId) (ad : Nat → Nat) (hJ : jD ad) (σ : Nat → Nat → Int32) (τ : Nat → Nat → Int64) (h47_0 : σ 47 0 = 0) : jM l yX11_close cX11_close 2 (some .int) ({ frames := 0, cells := 0, slots := 0, locals := 0 }) D cI cL ad [.ref (ad 0)] σ τ (fun r σ' τ' => (∀ i : Nat, (i < 0 ∨ 54 < i) → σ' i = σ i) ∧ r = (0)) := by
  refine jM.of hJ (by decide +kernel) (nt := .int) rfl (Nat.le_of_ble_eq_true rfl) ?_
  intro p e s m args below meth c Q ls hC hret hl hP
  obtain ⟨hx, hb, hr, hml, hown, hts, hK, -, hlocks⟩ := hC
  have hown : s.vm.findClass RX11 = some m.cls := hown
  have hS : va_S (jA ad) s.heap s.heap [] := va_S.rf
  have hA : ∀ q, jA ad q → jA ad q := fun _ h => h
  have hl : lv_has ls 2 [(0, .ref (ad 0))] := hl
  refine lv_aload_n hx hb dX11_close_0 rfl (lv_at hl 0 rfl) ?_
  refine va_get (D := D) hx hb hts inlX11 hown hK hP 0 (jc_0 cI cL ad σ τ) rfl 9 (by decide) (hts _ kw_3_1) (fun _ h9 => h9) rfl dX11_close_1 ?_
  refine va_get (D := D) hx hb hts inlX2 hown hK hP 47 (jc_47 cI cL ad σ τ) rfl 0 (by decide) (hts _ kw_13_11) (fun _ h9 => h9) rfl dX11_close_4 ?_
  refine jtopr h47_0 ?_
  refine lv_istore_n (lv' := [(1, .int 0), (0, .ref (ad 0))]) hx hb dX11_close_7 rfl hl (by decide) rfl (fun ls hl => ?_)
  refine lv_aload_n hx hb dX11_close_8 rfl (lv_at hl 1 rfl) ?_
  refine va_get (D := D) hx hb hts inlX11 hown hK hP 0 (jc_0 cI cL ad σ τ) rfl 9 (by decide) (hts _ kw_3_1) (fun _ h9 => h9) rfl dX11_close_9 ?_
  refine lv_iconst (v := 0) hx hb dX11_close_12 (by decide) ?_
  refine jput (ty := .int) hx hb hts inlX2 tyX2 tyX2_ok nmX2 hown hK hP hJ hA hS (jc_47 cI cL ad σ τ) rfl (k := 0) (by decide) (Nat.le_of_ble_eq_true rfl) (jp_47_0 cI cL ad σ τ 0) (hts _ kw_13_11) (fun _ h9 => h9) rfl (by decide +kernel) rfl rfl dX11_close_13 (fun σ1 H locs eσ1 hP hS => ?_)
  refine lv_iload_n hx hb dX11_close_16 rfl (lv_at hl 0 rfl) ?_
  exact hret 0 σ1 τ _ _ _ _ rfl ⟨(fun i hi => by rw [eσ1, jup_n (by omega)]), (by (repeat' split) <;> first | rfl | omega | (exfalso; omega))⟩ hP hS dX11_close_17
set_option maxHeartbeats 4000000 in
set_option maxRecDepth 100000 in
theorem c_X11_cost (l : Launch) (D : va_G) (cI cL : ClassId) (ad : Nat → Nat) (hJ : jD ad) (σ : Nat → Nat → Int32) (τ : Nat → Nat → Int64) (a1 : Int32) (A1 : Int) (t1 : a1.toInt = A1) (h47_0 : σ 47 0 = 0) : jM l yX11_cost cX11_cost 2 (some .int) ({ frames := 1, cells := 0, slots := 0, locals := 22 }) D cI cL ad [.ref (ad 0), .int a1] σ τ (fun r σ' τ' => (∀ i : Nat, (i < 0 ∨ 54 < i) → σ' i = σ i) ∧ r = (-2000000000)) := by
  refine jM.of hJ (by decide +kernel) (nt := .int) rfl (Nat.le_of_ble_eq_true rfl) ?_
  intro p e s m args below meth c Q ls hC hret hl hP
  obtain ⟨hx, hb, hr, hml, hown, hts, hK, -, hlocks⟩ := hC
  have hown : s.vm.findClass RX11 = some m.cls := hown
  have hS : va_S (jA ad) s.heap s.heap [] := va_S.rf
  have hA : ∀ q, jA ad q → jA ad q := fun _ h => h
  have hl : lv_has ls 2 [(0, .ref (ad 0)), (1, .int a1)] := hl
  have g1 := jrg t1
  refine lv_iload_n hx hb dX11_cost_0 rfl (lv_at hl 1 rfl) ?_
  refine lv_iconst (v := 0) hx hb dX11_cost_1 (by decide) ?_
  refine lv_aload_n hx hb dX11_cost_2 rfl (lv_at hl 0 rfl) ?_
  refine va_get (D := D) hx hb hts inlX11 hown hK hP 0 (jc_0 cI cL ad σ τ) rfl 9 (by decide) (hts _ kw_3_1) (fun _ h9 => h9) rfl dX11_cost_3 ?_
  refine va_get (D := D) hx hb hts inlX2 hown hK hP 47 (jc_47 cI cL ad σ τ) rfl 0 (by decide) (hts _ kw_13_11) (fun _ h9 => h9) rfl dX11_cost_6 ?_
  refine jtopr h47_0 ?_
  refine lv_iconst (v := 1) hx hb dX11_cost_9 (by decide) ?_
  refine lv_isub hx hb dX11_cost_10 ?_
  refine jtopr (y := (-1)) (by decide) ?_
  refine jcallS (As := [.int a1, .int 0, .int (-1)]) (rest := []) ⟨hx, hb, hml, hown, hts⟩ hK hP hA hS (c_X11_outside l D cI cL ad hJ σ τ a1 (A1) t1 0 (0) jz_0 (-1) ((-1)) jz_m1) cw_RX11_94 ⟨Nat.le_of_ble_eq_true rfl, Nat.le_of_ble_eq_true rfl⟩ rfl rfl rfl hl.1 rfl (Nat.le_of_ble_eq_true rfl) dX11_cost_11 ⟨Nat.zero_le _, Nat.zero_le _⟩ (fun r2 σ1 τ1 H locs h1 hP hS => ?_)
  obtain ⟨⟨rfl, rfl⟩, h1⟩ := h1
  rcases h1 with h3 | h4
  · obtain ⟨q6, k5⟩ := h3
    have q6 := q6.symm
    subst q6
    refine lv_if_ne (tgt := 31) hx hb dX11_cost_14 (by decide) (fun _ => ?_) (fun c => absurd c (by decide))
    refine lv_ldc (v := (-2000000000)) hx hb hown (hts _ kw_9_21) dX11_cost_31 ?_
    exact hret (-2000000000) σ τ _ _ _ _ rfl ⟨(fun _ _ => rfl), (by (repeat' split) <;> first | rfl | omega | exact jsame jz_m2000000000 t1 (by omega) | (exfalso; omega))⟩ hP hS dX11_cost_33
  · obtain ⟨q8, k7⟩ := h4
    exact absurd (by omega : False) id
set_option maxHeartbeats 4000000 in
set_option maxRecDepth 100000 in
theorem c_X11_lost (l : Launch) (D : va_G) (cI cL : ClassId) (ad : Nat → Nat) (hJ : jD ad) (σ : Nat → Nat → Int32) (τ : Nat → Nat → Int64) (a1 : Int32) (A1 : Int) (t1 : a1.toInt = A1) (h47_0 : σ 47 0 = 0) : jM l yX11_lost cX11_lost 7 (some .int) ({ frames := 1, cells := 0, slots := 0, locals := 22 }) D cI cL ad [.ref (ad 0), .int a1] σ τ (fun r σ' τ' => (∀ i : Nat, (i < 0 ∨ 54 < i) → σ' i = σ i) ∧ r = (-1)) := by
  refine jM.of hJ (by decide +kernel) (nt := .int) rfl (Nat.le_of_ble_eq_true rfl) ?_
  intro p e s m args below meth c Q ls hC hret hl hP
  obtain ⟨hx, hb, hr, hml, hown, hts, hK, -, hlocks⟩ := hC
  have hown : s.vm.findClass RX11 = some m.cls := hown
  have hS : va_S (jA ad) s.heap s.heap [] := va_S.rf
  have hA : ∀ q, jA ad q → jA ad q := fun _ h => h
  have hl : lv_has ls 7 [(0, .ref (ad 0)), (1, .int a1)] := hl
  have g1 := jrg t1
  refine lv_iload_n hx hb dX11_lost_0 rfl (lv_at hl 1 rfl) ?_
  refine lv_iconst (v := 0) hx hb dX11_lost_1 (by decide) ?_
  refine lv_iconst (v := 2) hx hb dX11_lost_2 (by decide) ?_
  refine jcallS (As := [.int a1, .int 0, .int 2]) (rest := []) ⟨hx, hb, hml, hown, hts⟩ hK hP hA hS (c_X11_outside l D cI cL ad hJ σ τ a1 (A1) t1 0 (0) jz_0 2 (2) jz_2) cw_RX11_94 ⟨Nat.le_of_ble_eq_true rfl, Nat.le_of_ble_eq_true rfl⟩ rfl rfl rfl hl.1 rfl (Nat.le_of_ble_eq_true rfl) dX11_lost_3 ⟨Nat.zero_le _, Nat.zero_le _⟩ (fun r2 σ1 τ1 H locs h1 hP hS => ?_)
  obtain ⟨⟨rfl, rfl⟩, h1⟩ := h1
  rcases h1 with h3 | h4
  · obtain ⟨q6, k5⟩ := h3
    have q6 := q6.symm
    subst q6
    refine lv_if_ne (tgt := 19) hx hb dX11_lost_6 (by decide) (fun _ => ?_) (fun c => absurd c (by decide))
    refine lv_iconst (v := (-1)) hx hb dX11_lost_19 (by decide) ?_
    exact hret (-1) σ τ _ _ _ _ rfl ⟨(fun _ _ => rfl), (by (repeat' split) <;> first | rfl | omega | exact jsame jz_m1 t1 (by omega) | (exfalso; omega))⟩ hP hS dX11_lost_20
  · obtain ⟨q8, k7⟩ := h4
    have q8 := q8.symm
    subst q8
    refine lv_if_ne (tgt := 19) hx hb dX11_lost_6 (by decide) (fun c => absurd (by decide) c) (fun _ => ?_)
    refine lv_aload_n hx hb dX11_lost_9 rfl (lv_at hl 0 rfl) ?_
    refine va_get (D := D) hx hb hts inlX11 hown hK hP 0 (jc_0 cI cL ad σ τ) rfl 9 (by decide) (hts _ kw_3_1) (fun _ h9 => h9) rfl dX11_lost_10 ?_
    refine va_get (D := D) hx hb hts inlX2 hown hK hP 47 (jc_47 cI cL ad σ τ) rfl 0 (by decide) (hts _ kw_13_11) (fun _ h9 => h9) rfl dX11_lost_13 ?_
    refine jtopr h47_0 ?_
    refine lv_if_ne (tgt := 21) hx hb dX11_lost_16 (by decide) (fun c => absurd (by decide) c) (fun _ => ?_)
    refine lv_iconst (v := (-1)) hx hb dX11_lost_19 (by decide) ?_
    exact hret (-1) σ τ _ _ _ _ rfl ⟨(fun _ _ => rfl), (by (repeat' split) <;> first | rfl | omega | exact jsame jz_m1 t1 (by omega) | (exfalso; omega))⟩ hP hS dX11_lost_20
set_option maxHeartbeats 4000000 in
set_option maxRecDepth 100000 in
theorem c_X11_led (l : Launch) (D : va_G) (cI cL : ClassId) (ad : Nat → Nat) (hJ : jD ad) (σ : Nat → Nat → Int32) (τ : Nat → Nat → Int64) (a1 : Int32) (A1 : Int) (t1 : a1.toInt = A1) (a2 : Int32) (A2 : Int) (t2 : a2.toInt = A2) (h43_8 : σ 43 8 = 0) : jM l yX11_led cX11_led 3 (some .int) ({ frames := 1, cells := 0, slots := 0, locals := 22 }) D cI cL ad [.ref (ad 0), .int a1, .int a2] σ τ (fun r σ' τ' => (∀ i : Nat, (i < 0 ∨ 54 < i) → σ' i = σ i) ∧ r = (if A1 = -1 ∧ A2 = 0 then 0 else -1)) := by
  refine jM.of hJ (by decide +kernel) (nt := .int) rfl (Nat.le_of_ble_eq_true rfl) ?_
  intro p e s m args below meth c Q ls hC hret hl hP
  obtain ⟨hx, hb, hr, hml, hown, hts, hK, -, hlocks⟩ := hC
  have hown : s.vm.findClass RX11 = some m.cls := hown
  have hS : va_S (jA ad) s.heap s.heap [] := va_S.rf
  have hA : ∀ q, jA ad q → jA ad q := fun _ h => h
  have hl : lv_has ls 3 [(0, .ref (ad 0)), (1, .int a1), (2, .int a2)] := hl
  have g1 := jrg t1
  have g2 := jrg t2
  refine lv_iload_n hx hb dX11_led_0 rfl (lv_at hl 1 rfl) ?_
  refine lv_iconst (v := (-1)) hx hb dX11_led_1 (by decide) ?_
  refine lv_icmp_ne (tgt := 17) hx hb dX11_led_2 (by decide) (fun c1 => ?_) (fun c1 => ?_)
  · have kc1 := jne c1 t1 jz_m1
    refine lv_iload_n hx hb dX11_led_17 rfl (lv_at hl 1 rfl) ?_
    refine lv_iconst (v := 0) hx hb dX11_led_18 (by decide) ?_
    refine lv_aload_n hx hb dX11_led_19 rfl (lv_at hl 0 rfl) ?_
    refine va_get (D := D) hx hb hts inlX11 hown hK hP 0 (jc_0 cI cL ad σ τ) rfl 8 (by decide) (hts _ kw_2_21) (fun _ h9 => h9) rfl dX11_led_20 ?_
    refine va_get (D := D) hx hb hts inlX3 hown hK hP 43 (jc_43 cI cL ad σ τ) rfl 8 (by decide) (hts _ kw_46_19) (fun _ h9 => h9) rfl dX11_led_23 ?_
    refine jtopr h43_8 ?_
    refine lv_iconst (v := 1) hx hb dX11_led_26 (by decide) ?_
    refine lv_isub hx hb dX11_led_27 ?_
    refine jtopr (y := (-1)) (by decide) ?_
    refine jcallS (As := [.int a1, .int 0, .int (-1)]) (rest := []) ⟨hx, hb, hml, hown, hts⟩ hK hP hA hS (c_X11_outside l D cI cL ad hJ σ τ a1 (A1) t1 0 (0) jz_0 (-1) ((-1)) jz_m1) cw_RX11_94 ⟨Nat.le_of_ble_eq_true rfl, Nat.le_of_ble_eq_true rfl⟩ rfl rfl rfl hl.1 rfl (Nat.le_of_ble_eq_true rfl) dX11_led_28 ⟨Nat.zero_le _, Nat.zero_le _⟩ (fun r3 σ2 τ2 H locs h2 hP hS => ?_)
    obtain ⟨⟨rfl, rfl⟩, h2⟩ := h2
    rcases h2 with h4 | h5
    · obtain ⟨q7, k6⟩ := h4
      have q7 := q7.symm
      subst q7
      refine lv_if_ne (tgt := 43) hx hb dX11_led_31 (by decide) (fun _ => ?_) (fun c => absurd c (by decide))
      refine lv_iconst (v := (-1)) hx hb dX11_led_43 (by decide) ?_
      exact hret (-1) σ τ _ _ _ _ rfl ⟨(fun _ _ => rfl), (by (repeat' split) <;> first | rfl | omega | exact jsame jz_m1 t1 (by omega) | exact jsame jz_m1 t2 (by omega) | (exfalso; omega))⟩ hP hS dX11_led_44
    · obtain ⟨q9, k8⟩ := h5
      exact absurd (by omega : False) id
  · have kc1 := jeq c1 t1 jz_m1
    refine lv_iload_n hx hb dX11_led_5 rfl (lv_at hl 2 rfl) ?_
    refine lv_if_ne (tgt := 17) hx hb dX11_led_6 (by decide) (fun c10 => ?_) (fun c10 => ?_)
    · have kc10 := jne c10 t2 jz_0
      refine lv_iload_n hx hb dX11_led_17 rfl (lv_at hl 1 rfl) ?_
      refine lv_iconst (v := 0) hx hb dX11_led_18 (by decide) ?_
      refine lv_aload_n hx hb dX11_led_19 rfl (lv_at hl 0 rfl) ?_
      refine va_get (D := D) hx hb hts inlX11 hown hK hP 0 (jc_0 cI cL ad σ τ) rfl 8 (by decide) (hts _ kw_2_21) (fun _ h9 => h9) rfl dX11_led_20 ?_
      refine va_get (D := D) hx hb hts inlX3 hown hK hP 43 (jc_43 cI cL ad σ τ) rfl 8 (by decide) (hts _ kw_46_19) (fun _ h9 => h9) rfl dX11_led_23 ?_
      refine jtopr h43_8 ?_
      refine lv_iconst (v := 1) hx hb dX11_led_26 (by decide) ?_
      refine lv_isub hx hb dX11_led_27 ?_
      refine jtopr (y := (-1)) (by decide) ?_
      refine jcallS (As := [.int a1, .int 0, .int (-1)]) (rest := []) ⟨hx, hb, hml, hown, hts⟩ hK hP hA hS (c_X11_outside l D cI cL ad hJ σ τ a1 (A1) t1 0 (0) jz_0 (-1) ((-1)) jz_m1) cw_RX11_94 ⟨Nat.le_of_ble_eq_true rfl, Nat.le_of_ble_eq_true rfl⟩ rfl rfl rfl hl.1 rfl (Nat.le_of_ble_eq_true rfl) dX11_led_28 ⟨Nat.zero_le _, Nat.zero_le _⟩ (fun r12 σ11 τ11 H locs h11 hP hS => ?_)
      obtain ⟨⟨rfl, rfl⟩, h11⟩ := h11
      rcases h11 with h13 | h14
      · obtain ⟨q16, k15⟩ := h13
        have q16 := q16.symm
        subst q16
        refine lv_if_ne (tgt := 43) hx hb dX11_led_31 (by decide) (fun _ => ?_) (fun c => absurd c (by decide))
        refine lv_iconst (v := (-1)) hx hb dX11_led_43 (by decide) ?_
        exact hret (-1) σ τ _ _ _ _ rfl ⟨(fun _ _ => rfl), (by (repeat' split) <;> first | rfl | omega | exact jsame jz_m1 t1 (by omega) | exact jsame jz_m1 t2 (by omega) | (exfalso; omega))⟩ hP hS dX11_led_44
      · obtain ⟨q18, k17⟩ := h14
        exact absurd (by omega : False) id
    · have kc10 := jeq c10 t2 jz_0
      refine lv_aload_n hx hb dX11_led_9 rfl (lv_at hl 0 rfl) ?_
      refine va_get (D := D) hx hb hts inlX11 hown hK hP 0 (jc_0 cI cL ad σ τ) rfl 8 (by decide) (hts _ kw_2_21) (fun _ h9 => h9) rfl dX11_led_10 ?_
      refine va_get (D := D) hx hb hts inlX3 hown hK hP 43 (jc_43 cI cL ad σ τ) rfl 8 (by decide) (hts _ kw_46_19) (fun _ h9 => h9) rfl dX11_led_13 ?_
      refine jtopr h43_8 ?_
      exact hret 0 σ τ _ _ _ _ rfl ⟨(fun _ _ => rfl), (by (repeat' split) <;> first | rfl | omega | exact jsame jz_0 t1 (by omega) | exact jsame jz_0 t2 (by omega) | (exfalso; omega))⟩ hP hS dX11_led_16
set_option maxHeartbeats 4000000 in
set_option maxRecDepth 100000 in
theorem c_X11_undo (l : Launch) (D : va_G) (cI cL : ClassId) (ad : Nat → Nat) (hJ : jD ad) (σ : Nat → Nat → Int32) (τ : Nat → Nat → Int64) (h2_2 : σ 2 2 = 0) : jM l yX11_undo cX11_undo 1 (some .int) ({ frames := 0, cells := 0, slots := 0, locals := 0 }) D cI cL ad [.ref (ad 0)] σ τ (fun r σ' τ' => (∀ i : Nat, (i < 0 ∨ 54 < i) → σ' i = σ i) ∧ r = (-5)) := by
  refine jM.of hJ (by decide +kernel) (nt := .int) rfl (Nat.le_of_ble_eq_true rfl) ?_
  intro p e s m args below meth c Q ls hC hret hl hP
  obtain ⟨hx, hb, hr, hml, hown, hts, hK, -, hlocks⟩ := hC
  have hown : s.vm.findClass RX11 = some m.cls := hown
  have hS : va_S (jA ad) s.heap s.heap [] := va_S.rf
  have hA : ∀ q, jA ad q → jA ad q := fun _ h => h
  have hl : lv_has ls 1 [(0, .ref (ad 0))] := hl
  refine lv_aload_n hx hb dX11_undo_0 rfl (lv_at hl 0 rfl) ?_
  refine va_get (D := D) hx hb hts inlX11 hown hK hP 0 (jc_0 cI cL ad σ τ) rfl 0 (by decide) (hts _ kw_1_16) (fun _ h9 => h9) rfl dX11_undo_1 ?_
  refine va_get (D := D) hx hb hts inlX4 hown hK hP 2 (jc_2 cI cL ad σ τ) rfl 2 (by decide) (hts _ kw_47_8) (fun _ h9 => h9) rfl dX11_undo_4 ?_
  refine jtopr h2_2 ?_
  refine lv_if_ne (tgt := 15) hx hb dX11_undo_7 (by decide) (fun c => absurd (by decide) c) (fun _ => ?_)
  refine lv_bipush (v := (-5)) hx hb dX11_undo_10 (by decide) ?_
  refine lv_goto (tgt := 22) hx hb dX11_undo_12 (by decide) ?_
  exact hret (-5) σ τ _ _ _ _ rfl ⟨(fun _ _ => rfl), (by (repeat' split) <;> first | rfl | omega | (exfalso; omega))⟩ hP hS dX11_undo_22
set_option maxHeartbeats 4000000 in
set_option maxRecDepth 100000 in
theorem c_X11_redo (l : Launch) (D : va_G) (cI cL : ClassId) (ad : Nat → Nat) (hJ : jD ad) (σ : Nat → Nat → Int32) (τ : Nat → Nat → Int64) (h2_3 : σ 2 3 = 0) : jM l yX11_redo cX11_redo 1 (some .int) ({ frames := 0, cells := 0, slots := 0, locals := 0 }) D cI cL ad [.ref (ad 0)] σ τ (fun r σ' τ' => (∀ i : Nat, (i < 0 ∨ 54 < i) → σ' i = σ i) ∧ r = (-5)) := by
  refine jM.of hJ (by decide +kernel) (nt := .int) rfl (Nat.le_of_ble_eq_true rfl) ?_
  intro p e s m args below meth c Q ls hC hret hl hP
  obtain ⟨hx, hb, hr, hml, hown, hts, hK, -, hlocks⟩ := hC
  have hown : s.vm.findClass RX11 = some m.cls := hown
  have hS : va_S (jA ad) s.heap s.heap [] := va_S.rf
  have hA : ∀ q, jA ad q → jA ad q := fun _ h => h
  have hl : lv_has ls 1 [(0, .ref (ad 0))] := hl
  refine lv_aload_n hx hb dX11_redo_0 rfl (lv_at hl 0 rfl) ?_
  refine va_get (D := D) hx hb hts inlX11 hown hK hP 0 (jc_0 cI cL ad σ τ) rfl 0 (by decide) (hts _ kw_1_16) (fun _ h9 => h9) rfl dX11_redo_1 ?_
  refine va_get (D := D) hx hb hts inlX4 hown hK hP 2 (jc_2 cI cL ad σ τ) rfl 3 (by decide) (hts _ kw_47_21) (fun _ h9 => h9) rfl dX11_redo_4 ?_
  refine jtopr h2_3 ?_
  refine lv_if_ne (tgt := 15) hx hb dX11_redo_7 (by decide) (fun c => absurd (by decide) c) (fun _ => ?_)
  refine lv_bipush (v := (-5)) hx hb dX11_redo_10 (by decide) ?_
  refine lv_goto (tgt := 22) hx hb dX11_redo_12 (by decide) ?_
  exact hret (-5) σ τ _ _ _ _ rfl ⟨(fun _ _ => rfl), (by (repeat' split) <;> first | rfl | omega | (exfalso; omega))⟩ hP hS dX11_redo_22
set_option maxHeartbeats 4000000 in
set_option maxRecDepth 100000 in
theorem c_X11_act (l : Launch) (D : va_G) (cI cL : ClassId) (ad : Nat → Nat) (hJ : jD ad) (σ : Nat → Nat → Int32) (τ : Nat → Nat → Int64) (a1 : Int32) (A1 : Int) (t1 : a1.toInt = A1) (a2 : Int32) (A2 : Int) (t2 : a2.toInt = A2) (a3 : Int32) (A3 : Int) (t3 : a3.toInt = A3) (h38_0 : σ 38 0 = 0) : jM l yX11_act cX11_act 4 (some .int) ({ frames := 2, cells := 0, slots := 0, locals := 43 }) D cI cL ad [.ref (ad 0), .int a1, .int a2, .int a3] σ τ (fun r σ' τ' => (∀ i : Nat, (i < 0 ∨ 54 < i) → σ' i = σ i) ∧ r = (0)) := by
  refine jM.of hJ (by decide +kernel) (nt := .int) rfl (Nat.le_of_ble_eq_true rfl) ?_
  intro p e s m args below meth c Q ls hC hret hl hP
  obtain ⟨hx, hb, hr, hml, hown, hts, hK, -, hlocks⟩ := hC
  have hown : s.vm.findClass RX11 = some m.cls := hown
  have hS : va_S (jA ad) s.heap s.heap [] := va_S.rf
  have hA : ∀ q, jA ad q → jA ad q := fun _ h => h
  have hl : lv_has ls 4 [(0, .ref (ad 0)), (1, .int a1), (2, .int a2), (3, .int a3)] := hl
  have g1 := jrg t1
  have g2 := jrg t2
  have g3 := jrg t3
  refine lv_aload_n hx hb dX11_act_0 rfl (lv_at hl 0 rfl) ?_
  refine va_get (D := D) hx hb hts inlX11 hown hK hP 0 (jc_0 cI cL ad σ τ) rfl 7 (by decide) (hts _ kw_2_17) (fun _ h9 => h9) rfl dX11_act_1 ?_
  refine lv_iconst (v := 0) hx hb dX11_act_4 (by decide) ?_
  refine jput (ty := .int) hx hb hts inlX8 tyX8 tyX8_ok nmX8 hown hK hP hJ hA hS (jc_38 cI cL ad σ τ) rfl (k := 1) (by decide) (Nat.le_of_ble_eq_true rfl) (jp_38_1 cI cL ad σ τ 0) (hts _ kw_48_10) (fun _ h9 => h9) rfl (by decide +kernel) rfl rfl dX11_act_5 (fun σ1 H locs eσ1 hP hS => ?_)
  refine lv_aload_n hx hb dX11_act_8 rfl (lv_at hl 0 rfl) ?_
  refine lv_iload_n hx hb dX11_act_9 rfl (lv_at hl 1 rfl) ?_
  have m2 : σ1 38 0 = 0 := (by rw [eσ1, jup_k (by decide)]; exact h38_0)
  refine jcallV (As := [.int a1]) (rest := []) ⟨hx, hb, hml, hown, hts⟩ hK hP hA hS (c_X11_noRule l D cI cL ad hJ σ1 τ a1 (A1) t1 m2) cw_RX11_177 (jc_0 cI cL ad σ1 τ) rfl ⟨Nat.le_of_ble_eq_true rfl, Nat.le_of_ble_eq_true rfl⟩ rfl rfl rfl hl.1 rfl (Nat.le_of_ble_eq_true rfl) dX11_act_10 ⟨Nat.zero_le _, Nat.zero_le _⟩ (fun r4 σ3 τ3 H locs h3 hP hS => ?_)
  obtain ⟨⟨rfl, rfl⟩, h3⟩ := h3
  have h5 := h3
  obtain ⟨q7, k6⟩ := h5
  have q7 := q7.symm
  subst q7
  refine lv_if_ne (tgt := 25) hx hb dX11_act_13 (by decide) (fun _ => ?_) (fun c => absurd c (by decide))
  refine lv_iconst (v := 0) hx hb dX11_act_25 (by decide) ?_
  exact hret 0 σ1 τ _ _ _ _ rfl ⟨(fun i hi => by rw [eσ1, jup_n (by omega)]), (by (repeat' split) <;> first | rfl | omega | exact jsame jz_0 t1 (by omega) | exact jsame jz_0 t2 (by omega) | exact jsame jz_0 t3 (by omega) | (exfalso; omega))⟩ hP hS dX11_act_26
set_option maxHeartbeats 4000000 in
set_option maxRecDepth 100000 in
theorem c_X11_trace (l : Launch) (D : va_G) (cI cL : ClassId) (ad : Nat → Nat) (hJ : jD ad) (σ : Nat → Nat → Int32) (τ : Nat → Nat → Int64) (a1 : Int32) (A1 : Int) (t1 : a1.toInt = A1) (h38_1 : σ 38 1 = 0) : jM l yX11_trace cX11_trace 2 (some .int) ({ frames := 1, cells := 0, slots := 0, locals := 22 }) D cI cL ad [.ref (ad 0), .int a1] σ τ (fun r σ' τ' => (∀ i : Nat, (i < 0 ∨ 54 < i) → σ' i = σ i) ∧ r = (-1)) := by
  refine jM.of hJ (by decide +kernel) (nt := .int) rfl (Nat.le_of_ble_eq_true rfl) ?_
  intro p e s m args below meth c Q ls hC hret hl hP
  obtain ⟨hx, hb, hr, hml, hown, hts, hK, -, hlocks⟩ := hC
  have hown : s.vm.findClass RX11 = some m.cls := hown
  have hS : va_S (jA ad) s.heap s.heap [] := va_S.rf
  have hA : ∀ q, jA ad q → jA ad q := fun _ h => h
  have hl : lv_has ls 2 [(0, .ref (ad 0)), (1, .int a1)] := hl
  have g1 := jrg t1
  refine lv_iload_n hx hb dX11_trace_0 rfl (lv_at hl 1 rfl) ?_
  refine lv_iconst (v := 0) hx hb dX11_trace_1 (by decide) ?_
  refine lv_aload_n hx hb dX11_trace_2 rfl (lv_at hl 0 rfl) ?_
  refine va_get (D := D) hx hb hts inlX11 hown hK hP 0 (jc_0 cI cL ad σ τ) rfl 7 (by decide) (hts _ kw_2_17) (fun _ h9 => h9) rfl dX11_trace_3 ?_
  refine va_get (D := D) hx hb hts inlX8 hown hK hP 38 (jc_38 cI cL ad σ τ) rfl 1 (by decide) (hts _ kw_48_10) (fun _ h9 => h9) rfl dX11_trace_6 ?_
  refine jtopr h38_1 ?_
  refine lv_bipush (v := 24) hx hb dX11_trace_9 (by decide) ?_
  refine va_mmin hx hb (hml.trans hl.1.symm) hown (hts _ kw_41_3) (hts _ kw_22_11) (hts _ kw_21_1) (hts _ kw_22_12) (Nat.le_of_ble_eq_true rfl) (Nat.le_of_ble_eq_true rfl) (Nat.le_of_ble_eq_true rfl) (Nat.le_of_ble_eq_true rfl) dX11_trace_11 ?_
  refine jtopr (y := 0) (by decide) ?_
  refine lv_iconst (v := 1) hx hb dX11_trace_14 (by decide) ?_
  refine lv_isub hx hb dX11_trace_15 ?_
  refine jtopr (y := (-1)) (by decide) ?_
  refine jcallS (As := [.int a1, .int 0, .int (-1)]) (rest := []) ⟨hx, hb, hml, hown, hts⟩ hK hP hA hS (c_X11_outside l D cI cL ad hJ σ τ a1 (A1) t1 0 (0) jz_0 (-1) ((-1)) jz_m1) cw_RX11_94 ⟨Nat.le_of_ble_eq_true rfl, Nat.le_of_ble_eq_true rfl⟩ rfl rfl rfl hl.1 rfl (Nat.le_of_ble_eq_true rfl) dX11_trace_16 ⟨Nat.zero_le _, Nat.zero_le _⟩ (fun r2 σ1 τ1 H locs h1 hP hS => ?_)
  obtain ⟨⟨rfl, rfl⟩, h1⟩ := h1
  rcases h1 with h3 | h4
  · obtain ⟨q6, k5⟩ := h3
    have q6 := q6.symm
    subst q6
    refine lv_if_eq (tgt := 24) hx hb dX11_trace_19 (by decide) (fun c => absurd c (by decide)) (fun _ => ?_)
    refine lv_iconst (v := (-1)) hx hb dX11_trace_22 (by decide) ?_
    exact hret (-1) σ τ _ _ _ _ rfl ⟨(fun _ _ => rfl), (by (repeat' split) <;> first | rfl | omega | exact jsame jz_m1 t1 (by omega) | (exfalso; omega))⟩ hP hS dX11_trace_23
  · obtain ⟨q8, k7⟩ := h4
    exact absurd (by omega : False) id
set_option maxHeartbeats 4000000 in
set_option maxRecDepth 100000 in
theorem c_X11_count (l : Launch) (D : va_G) (cI cL : ClassId) (ad : Nat → Nat) (hJ : jD ad) (σ : Nat → Nat → Int32) (τ : Nat → Nat → Int64) (a1 : Int32) (A1 : Int) (t1 : a1.toInt = A1) (h2_0 : σ 2 0 = 0) (h2_2 : σ 2 2 = 0) (h9_0 : σ 9 0 = 0) (h38_0 : σ 38 0 = 0) (h38_1 : σ 38 1 = 0) (h47_0 : σ 47 0 = 0) : jM l yX11_count cX11_count 2 (some .int) ({ frames := 0, cells := 0, slots := 0, locals := 0 }) D cI cL ad [.ref (ad 0), .int a1] σ τ (fun r σ' τ' => (∀ i : Nat, (i < 0 ∨ 54 < i) → σ' i = σ i) ∧ r = (if 0 ≤ A1 ∧ A1 ≤ 5 then 0 else -1)) := by
  refine jM.of hJ (by decide +kernel) (nt := .int) rfl (Nat.le_of_ble_eq_true rfl) ?_
  intro p e s m args below meth c Q ls hC hret hl hP
  obtain ⟨hx, hb, hr, hml, hown, hts, hK, -, hlocks⟩ := hC
  have hown : s.vm.findClass RX11 = some m.cls := hown
  have hS : va_S (jA ad) s.heap s.heap [] := va_S.rf
  have hA : ∀ q, jA ad q → jA ad q := fun _ h => h
  have hl : lv_has ls 2 [(0, .ref (ad 0)), (1, .int a1)] := hl
  have g1 := jrg t1
  refine lv_iload_n hx hb dX11_count_0 rfl (lv_at hl 1 rfl) ?_
  by_cases c1 : a1 = 0
  · have kc1 := jeq c1 t1 jz_0
    refine jtopr c1 ?_
    refine lv_tableIn (off := 39) (tgt := 40) hx hb dX11_count_1 (by decide) (by decide) (by decide) (by decide) ?_
    refine lv_aload_n hx hb dX11_count_40 rfl (lv_at hl 0 rfl) ?_
    refine va_get (D := D) hx hb hts inlX11 hown hK hP 0 (jc_0 cI cL ad σ τ) rfl 0 (by decide) (hts _ kw_1_16) (fun _ h9 => h9) rfl dX11_count_41 ?_
    refine va_get (D := D) hx hb hts inlX4 hown hK hP 2 (jc_2 cI cL ad σ τ) rfl 0 (by decide) (hts _ kw_8_21) (fun _ h9 => h9) rfl dX11_count_44 ?_
    refine jtopr h2_0 ?_
    exact hret 0 σ τ _ _ _ _ rfl ⟨(fun _ _ => rfl), (by (repeat' split) <;> first | rfl | omega | exact jsame jz_0 t1 (by omega) | (exfalso; omega))⟩ hP hS dX11_count_47
  have kc1 := jne c1 t1 jz_0
  by_cases c2 : a1 = 1
  · have kc2 := jeq c2 t1 jz_1
    refine jtopr c2 ?_
    refine lv_tableIn (off := 47) (tgt := 48) hx hb dX11_count_1 (by decide) (by decide) (by decide) (by decide) ?_
    refine lv_aload_n hx hb dX11_count_48 rfl (lv_at hl 0 rfl) ?_
    refine va_get (D := D) hx hb hts inlX11 hown hK hP 0 (jc_0 cI cL ad σ τ) rfl 7 (by decide) (hts _ kw_2_17) (fun _ h9 => h9) rfl dX11_count_49 ?_
    refine va_get (D := D) hx hb hts inlX8 hown hK hP 38 (jc_38 cI cL ad σ τ) rfl 0 (by decide) (hts _ kw_24_8) (fun _ h9 => h9) rfl dX11_count_52 ?_
    refine jtopr h38_0 ?_
    exact hret 0 σ τ _ _ _ _ rfl ⟨(fun _ _ => rfl), (by (repeat' split) <;> first | rfl | omega | exact jsame jz_0 t1 (by omega) | (exfalso; omega))⟩ hP hS dX11_count_55
  have kc2 := jne c2 t1 jz_1
  by_cases c3 : a1 = 2
  · have kc3 := jeq c3 t1 jz_2
    refine jtopr c3 ?_
    refine lv_tableIn (off := 55) (tgt := 56) hx hb dX11_count_1 (by decide) (by decide) (by decide) (by decide) ?_
    refine lv_aload_n hx hb dX11_count_56 rfl (lv_at hl 0 rfl) ?_
    refine va_get (D := D) hx hb hts inlX11 hown hK hP 0 (jc_0 cI cL ad σ τ) rfl 1 (by decide) (hts _ kw_1_20) (fun _ h9 => h9) rfl dX11_count_57 ?_
    refine va_get (D := D) hx hb hts inlX7 hown hK hP 9 (jc_9 cI cL ad σ τ) rfl 0 (by decide) (hts _ kw_12_19) (fun _ h9 => h9) rfl dX11_count_60 ?_
    refine jtopr h9_0 ?_
    exact hret 0 σ τ _ _ _ _ rfl ⟨(fun _ _ => rfl), (by (repeat' split) <;> first | rfl | omega | exact jsame jz_0 t1 (by omega) | (exfalso; omega))⟩ hP hS dX11_count_63
  have kc3 := jne c3 t1 jz_2
  by_cases c4 : a1 = 3
  · have kc4 := jeq c4 t1 jz_3
    refine jtopr c4 ?_
    refine lv_tableIn (off := 63) (tgt := 64) hx hb dX11_count_1 (by decide) (by decide) (by decide) (by decide) ?_
    refine lv_aload_n hx hb dX11_count_64 rfl (lv_at hl 0 rfl) ?_
    refine va_get (D := D) hx hb hts inlX11 hown hK hP 0 (jc_0 cI cL ad σ τ) rfl 9 (by decide) (hts _ kw_3_1) (fun _ h9 => h9) rfl dX11_count_65 ?_
    refine va_get (D := D) hx hb hts inlX2 hown hK hP 47 (jc_47 cI cL ad σ τ) rfl 0 (by decide) (hts _ kw_13_11) (fun _ h9 => h9) rfl dX11_count_68 ?_
    refine jtopr h47_0 ?_
    exact hret 0 σ τ _ _ _ _ rfl ⟨(fun _ _ => rfl), (by (repeat' split) <;> first | rfl | omega | exact jsame jz_0 t1 (by omega) | (exfalso; omega))⟩ hP hS dX11_count_71
  have kc4 := jne c4 t1 jz_3
  by_cases c5 : a1 = 4
  · have kc5 := jeq c5 t1 jz_4
    refine jtopr c5 ?_
    refine lv_tableIn (off := 71) (tgt := 72) hx hb dX11_count_1 (by decide) (by decide) (by decide) (by decide) ?_
    refine lv_aload_n hx hb dX11_count_72 rfl (lv_at hl 0 rfl) ?_
    refine va_get (D := D) hx hb hts inlX11 hown hK hP 0 (jc_0 cI cL ad σ τ) rfl 0 (by decide) (hts _ kw_1_16) (fun _ h9 => h9) rfl dX11_count_73 ?_
    refine va_get (D := D) hx hb hts inlX4 hown hK hP 2 (jc_2 cI cL ad σ τ) rfl 2 (by decide) (hts _ kw_47_8) (fun _ h9 => h9) rfl dX11_count_76 ?_
    refine jtopr h2_2 ?_
    exact hret 0 σ τ _ _ _ _ rfl ⟨(fun _ _ => rfl), (by (repeat' split) <;> first | rfl | omega | exact jsame jz_0 t1 (by omega) | (exfalso; omega))⟩ hP hS dX11_count_79
  have kc5 := jne c5 t1 jz_4
  by_cases c6 : a1 = 5
  · have kc6 := jeq c6 t1 jz_5
    refine jtopr c6 ?_
    refine lv_tableIn (off := 79) (tgt := 80) hx hb dX11_count_1 (by decide) (by decide) (by decide) (by decide) ?_
    refine lv_aload_n hx hb dX11_count_80 rfl (lv_at hl 0 rfl) ?_
    refine va_get (D := D) hx hb hts inlX11 hown hK hP 0 (jc_0 cI cL ad σ τ) rfl 7 (by decide) (hts _ kw_2_17) (fun _ h9 => h9) rfl dX11_count_81 ?_
    refine va_get (D := D) hx hb hts inlX8 hown hK hP 38 (jc_38 cI cL ad σ τ) rfl 1 (by decide) (hts _ kw_48_10) (fun _ h9 => h9) rfl dX11_count_84 ?_
    refine jtopr h38_1 ?_
    exact hret 0 σ τ _ _ _ _ rfl ⟨(fun _ _ => rfl), (by (repeat' split) <;> first | rfl | omega | exact jsame jz_0 t1 (by omega) | (exfalso; omega))⟩ hP hS dX11_count_87
  have kc6 := jne c6 t1 jz_5
  refine lv_tableOut (tgt := 88) hx hb dX11_count_1 (by rw [t1]; omega) (by decide) ?_
  refine lv_iconst (v := (-1)) hx hb dX11_count_88 (by decide) ?_
  exact hret (-1) σ τ _ _ _ _ rfl ⟨(fun _ _ => rfl), (by (repeat' split) <;> first | rfl | omega | exact jsame jz_m1 t1 (by omega) | (exfalso; omega))⟩ hP hS dX11_count_89
set_option maxHeartbeats 4000000 in
set_option maxRecDepth 100000 in
theorem c_X9_isNone (l : Launch) (D : va_G) (cI cL : ClassId) (ad : Nat → Nat) (hJ : jD ad) (σ : Nat → Nat → Int32) (τ : Nat → Nat → Int64) (a1 : Int32) (A1 : Int) (t1 : a1.toInt = A1) : jM l yX9_isNone cX9_isNone 1 (some .boolean) ({ frames := 0, cells := 0, slots := 0, locals := 0 }) D cI cL ad [.int a1] σ τ (fun r σ' τ' => (σ = σ' ∧ τ = τ') ∧ ((r = 1 ∧ ((A1 < 0) ∨ (5 < A1))) ∨ (r = 0 ∧ (0 ≤ A1 ∧ A1 ≤ 5)))) := by
  refine jM.of hJ (by decide +kernel) (nt := .boolean) rfl (Nat.le_of_ble_eq_true rfl) ?_
  intro p e s m args below meth c Q ls hC hret hl hP
  obtain ⟨hx, hb, hr, hml, hown, hts, hK, -, hlocks⟩ := hC
  have hown : s.vm.findClass RX9 = some m.cls := hown
  have hS : va_S (jA ad) s.heap s.heap [] := va_S.rf
  have hA : ∀ q, jA ad q → jA ad q := fun _ h => h
  have hl : lv_has ls 1 [(0, .int a1)] := hl
  have g1 := jrg t1
  refine lv_iload_n hx hb dX9_isNone_0 rfl (lv_at hl 0 rfl) ?_
  refine lv_if_lt (tgt := 10) hx hb dX9_isNone_1 (by decide) (fun c1 => ?_) (fun c1 => ?_)
  · have kc1 := jlt c1 t1 jz_0
    refine lv_iconst (v := 1) hx hb dX9_isNone_10 (by decide) ?_
    refine lv_goto (tgt := 15) hx hb dX9_isNone_11 (by decide) ?_
    exact hret 1 σ τ _ _ _ _ rfl ⟨⟨rfl, rfl⟩, Or.inl ⟨rfl, by omega⟩⟩ hP hS dX9_isNone_15
  · have kc1 := jnlt c1 t1 jz_0
    refine lv_iload_n hx hb dX9_isNone_4 rfl (lv_at hl 0 rfl) ?_
    refine lv_bipush (v := 6) hx hb dX9_isNone_5 (by decide) ?_
    refine lv_icmp_lt (tgt := 14) hx hb dX9_isNone_7 (by decide) (fun c2 => ?_) (fun c2 => ?_)
    · have kc2 := jlt c2 t1 jz_6
      refine lv_iconst (v := 0) hx hb dX9_isNone_14 (by decide) ?_
      exact hret 0 σ τ _ _ _ _ rfl ⟨⟨rfl, rfl⟩, Or.inr (⟨rfl, by omega⟩)⟩ hP hS dX9_isNone_15
    · have kc2 := jnlt c2 t1 jz_6
      refine lv_iconst (v := 1) hx hb dX9_isNone_10 (by decide) ?_
      refine lv_goto (tgt := 15) hx hb dX9_isNone_11 (by decide) ?_
      exact hret 1 σ τ _ _ _ _ rfl ⟨⟨rfl, rfl⟩, Or.inl ⟨rfl, by omega⟩⟩ hP hS dX9_isNone_15
set_option maxHeartbeats 4000000 in
set_option maxRecDepth 100000 in
theorem c_X9_isEmpty_50 (l : Launch) (D : va_G) (cI cL : ClassId) (ad : Nat → Nat) (hJ : jD ad) (σ : Nat → Nat → Int32) (τ : Nat → Nat → Int64) (a1 : Int32) (A1 : Int) (t1 : a1.toInt = A1) (ha51 : ∀ k : Nat, k < 6 → σ 51 k = (-2)) : jM l yX9_isEmpty cX9_isEmpty 2 (some .boolean) ({ frames := 1, cells := 0, slots := 0, locals := 20 }) D cI cL ad [.ref (ad 50), .int a1] σ τ (fun r σ' τ' => (σ = σ' ∧ τ = τ') ∧ ((r = 1 ∧ True))) := by
  refine jM.of hJ (by decide +kernel) (nt := .boolean) rfl (Nat.le_of_ble_eq_true rfl) ?_
  intro p e s m args below meth c Q ls hC hret hl hP
  obtain ⟨hx, hb, hr, hml, hown, hts, hK, -, hlocks⟩ := hC
  have hown : s.vm.findClass RX9 = some m.cls := hown
  have hS : va_S (jA ad) s.heap s.heap [] := va_S.rf
  have hA : ∀ q, jA ad q → jA ad q := fun _ h => h
  have hl : lv_has ls 2 [(0, .ref (ad 50)), (1, .int a1)] := hl
  have g1 := jrg t1
  refine lv_iload_n hx hb dX9_isEmpty_0 rfl (lv_at hl 1 rfl) ?_
  refine jcallS (As := [.int a1]) (rest := []) ⟨hx, hb, hml, hown, hts⟩ hK hP hA hS (c_X9_isNone l D cI cL ad hJ σ τ a1 (A1) t1) cw_RX9_29 ⟨Nat.le_of_ble_eq_true rfl, Nat.le_of_ble_eq_true rfl⟩ rfl rfl rfl hl.1 rfl (Nat.le_of_ble_eq_true rfl) dX9_isEmpty_1 ⟨Nat.zero_le _, Nat.zero_le _⟩ (fun r2 σ1 τ1 H locs h1 hP hS => ?_)
  obtain ⟨⟨rfl, rfl⟩, h1⟩ := h1
  rcases h1 with h3 | h4
  · obtain ⟨q6, k5⟩ := h3
    have q6 := q6.symm
    subst q6
    refine lv_if_ne (tgt := 18) hx hb dX9_isEmpty_4 (by decide) (fun _ => ?_) (fun c => absurd c (by decide))
    refine lv_iconst (v := 1) hx hb dX9_isEmpty_18 (by decide) ?_
    refine lv_goto (tgt := 23) hx hb dX9_isEmpty_19 (by decide) ?_
    exact hret 1 σ τ _ _ _ _ rfl ⟨⟨rfl, rfl⟩, ⟨rfl, trivial⟩⟩ hP hS dX9_isEmpty_23
  · obtain ⟨q8, k7⟩ := h4
    have q8 := q8.symm
    subst q8
    refine lv_if_ne (tgt := 18) hx hb dX9_isEmpty_4 (by decide) (fun c => absurd (by decide) c) (fun _ => ?_)
    refine lv_aload_n hx hb dX9_isEmpty_7 rfl (lv_at hl 0 rfl) ?_
    refine va_get (D := D) hx hb hts inlX9 hown hK hP 50 (jc_50 cI cL ad σ τ) rfl 1 (by decide) (hts _ kw_6_16) (fun _ h9 => h9) rfl dX9_isEmpty_8 ?_
    refine lv_iload_n hx hb dX9_isEmpty_11 rfl (lv_at hl 1 rfl) ?_
    refine jald hx hb hK hP (jc_51 cI cL ad σ τ) (jin t1 (by omega) (by omega)) dX9_isEmpty_12 ?_
    refine jtopr (ha51 _ (jnat t1 (by omega) (by decide))) ?_
    refine lv_bipush (v := (-2)) hx hb dX9_isEmpty_13 (by decide) ?_
    refine lv_icmp_ne (tgt := 22) hx hb dX9_isEmpty_15 (by decide) (fun c => absurd (by decide) c) (fun _ => ?_)
    refine lv_iconst (v := 1) hx hb dX9_isEmpty_18 (by decide) ?_
    refine lv_goto (tgt := 23) hx hb dX9_isEmpty_19 (by decide) ?_
    exact hret 1 σ τ _ _ _ _ rfl ⟨⟨rfl, rfl⟩, ⟨rfl, trivial⟩⟩ hP hS dX9_isEmpty_23
set_option maxHeartbeats 4000000 in
set_option maxRecDepth 100000 in
theorem c_X9_sortOf_50 (l : Launch) (D : va_G) (cI cL : ClassId) (ad : Nat → Nat) (hJ : jD ad) (σ : Nat → Nat → Int32) (τ : Nat → Nat → Int64) (a1 : Int32) (A1 : Int) (t1 : a1.toInt = A1) (ha51 : ∀ k : Nat, k < 6 → σ 51 k = (-2)) : jM l yX9_sortOf cX9_sortOf 2 (some .int) ({ frames := 2, cells := 0, slots := 0, locals := 41 }) D cI cL ad [.ref (ad 50), .int a1] σ τ (fun r σ' τ' => (σ = σ' ∧ τ = τ') ∧ ((r = (-1) ∧ True))) := by
  refine jM.of hJ (by decide +kernel) (nt := .int) rfl (Nat.le_of_ble_eq_true rfl) ?_
  intro p e s m args below meth c Q ls hC hret hl hP
  obtain ⟨hx, hb, hr, hml, hown, hts, hK, -, hlocks⟩ := hC
  have hown : s.vm.findClass RX9 = some m.cls := hown
  have hS : va_S (jA ad) s.heap s.heap [] := va_S.rf
  have hA : ∀ q, jA ad q → jA ad q := fun _ h => h
  have hl : lv_has ls 2 [(0, .ref (ad 50)), (1, .int a1)] := hl
  have g1 := jrg t1
  refine lv_aload_n hx hb dX9_sortOf_0 rfl (lv_at hl 0 rfl) ?_
  refine lv_iload_n hx hb dX9_sortOf_1 rfl (lv_at hl 1 rfl) ?_
  refine jcallV (As := [.int a1]) (rest := []) ⟨hx, hb, hml, hown, hts⟩ hK hP hA hS (c_X9_isEmpty_50 l D cI cL ad hJ σ τ a1 (A1) t1 ha51) cw_RX9_33 (jc_50 cI cL ad σ τ) rfl ⟨Nat.le_of_ble_eq_true rfl, Nat.le_of_ble_eq_true rfl⟩ rfl rfl rfl hl.1 rfl (Nat.le_of_ble_eq_true rfl) dX9_sortOf_2 ⟨Nat.zero_le _, Nat.zero_le _⟩ (fun r2 σ1 τ1 H locs h1 hP hS => ?_)
  obtain ⟨⟨rfl, rfl⟩, h1⟩ := h1
  have h3 := h1
  obtain ⟨q5, k4⟩ := h3
  have q5 := q5.symm
  subst q5
  refine lv_if_eq (tgt := 12) hx hb dX9_sortOf_5 (by decide) (fun c => absurd c (by decide)) (fun _ => ?_)
  refine lv_iconst (v := (-1)) hx hb dX9_sortOf_8 (by decide) ?_
  refine lv_goto (tgt := 18) hx hb dX9_sortOf_9 (by decide) ?_
  exact hret (-1) σ τ _ _ _ _ rfl ⟨⟨rfl, rfl⟩, ⟨rfl, trivial⟩⟩ hP hS dX9_sortOf_18
set_option maxHeartbeats 4000000 in
set_option maxRecDepth 100000 in
theorem c_X9_lengthOf_50 (l : Launch) (D : va_G) (cI cL : ClassId) (ad : Nat → Nat) (hJ : jD ad) (σ : Nat → Nat → Int32) (τ : Nat → Nat → Int64) (a1 : Int32) (A1 : Int) (t1 : a1.toInt = A1) (ha51 : ∀ k : Nat, k < 6 → σ 51 k = (-2)) : jM l yX9_lengthOf cX9_lengthOf 2 (some .int) ({ frames := 3, cells := 0, slots := 0, locals := 62 }) D cI cL ad [.ref (ad 50), .int a1] σ τ (fun r σ' τ' => (σ = σ' ∧ τ = τ') ∧ ((r = 0 ∧ True))) := by
  refine jM.of hJ (by decide +kernel) (nt := .int) rfl (Nat.le_of_ble_eq_true rfl) ?_
  intro p e s m args below meth c Q ls hC hret hl hP
  obtain ⟨hx, hb, hr, hml, hown, hts, hK, -, hlocks⟩ := hC
  have hown : s.vm.findClass RX9 = some m.cls := hown
  have hS : va_S (jA ad) s.heap s.heap [] := va_S.rf
  have hA : ∀ q, jA ad q → jA ad q := fun _ h => h
  have hl : lv_has ls 2 [(0, .ref (ad 50)), (1, .int a1)] := hl
  have g1 := jrg t1
  refine lv_aload_n hx hb dX9_lengthOf_0 rfl (lv_at hl 0 rfl) ?_
  refine lv_iload_n hx hb dX9_lengthOf_1 rfl (lv_at hl 1 rfl) ?_
  refine jcallV (As := [.int a1]) (rest := []) ⟨hx, hb, hml, hown, hts⟩ hK hP hA hS (c_X9_sortOf_50 l D cI cL ad hJ σ τ a1 (A1) t1 ha51) cw_RX9_36 (jc_50 cI cL ad σ τ) rfl ⟨Nat.le_of_ble_eq_true rfl, Nat.le_of_ble_eq_true rfl⟩ rfl rfl rfl hl.1 rfl (Nat.le_of_ble_eq_true rfl) dX9_lengthOf_2 ⟨Nat.zero_le _, Nat.zero_le _⟩ (fun r2 σ1 τ1 H locs h1 hP hS => ?_)
  obtain ⟨⟨rfl, rfl⟩, h1⟩ := h1
  have h3 := h1
  obtain ⟨q5, k4⟩ := h3
  have q5 := q5.symm
  subst q5
  refine lv_iconst (v := (-1)) hx hb dX9_lengthOf_5 (by decide) ?_
  refine lv_icmp_ne (tgt := 13) hx hb dX9_lengthOf_6 (by decide) (fun c => absurd (by decide) c) (fun _ => ?_)
  refine lv_iconst (v := 0) hx hb dX9_lengthOf_9 (by decide) ?_
  refine lv_goto (tgt := 19) hx hb dX9_lengthOf_10 (by decide) ?_
  exact hret 0 σ τ _ _ _ _ rfl ⟨⟨rfl, rfl⟩, ⟨rfl, trivial⟩⟩ hP hS dX9_lengthOf_19
set_option maxHeartbeats 4000000 in
set_option maxRecDepth 100000 in
theorem c_X9_refusal_50 (l : Launch) (D : va_G) (cI cL : ClassId) (ad : Nat → Nat) (hJ : jD ad) (σ : Nat → Nat → Int32) (τ : Nat → Nat → Int64) (a1 : Int32) (A1 : Int) (t1 : a1.toInt = A1) (a2 : Int32) (A2 : Int) (t2 : a2.toInt = A2) (ha51 : ∀ k : Nat, k < 6 → σ 51 k = (-2)) : jM l yX9_refusal cX9_refusal 3 (some .int) ({ frames := 2, cells := 0, slots := 0, locals := 41 }) D cI cL ad [.ref (ad 50), .int a1, .int a2] σ τ (fun r σ' τ' => (σ = σ' ∧ τ = τ') ∧ ((r = (-11) ∧ True))) := by
  refine jM.of hJ (by decide +kernel) (nt := .int) rfl (Nat.le_of_ble_eq_true rfl) ?_
  intro p e s m args below meth c Q ls hC hret hl hP
  obtain ⟨hx, hb, hr, hml, hown, hts, hK, -, hlocks⟩ := hC
  have hown : s.vm.findClass RX9 = some m.cls := hown
  have hS : va_S (jA ad) s.heap s.heap [] := va_S.rf
  have hA : ∀ q, jA ad q → jA ad q := fun _ h => h
  have hl : lv_has ls 3 [(0, .ref (ad 50)), (1, .int a1), (2, .int a2)] := hl
  have g1 := jrg t1
  have g2 := jrg t2
  refine lv_aload_n hx hb dX9_refusal_0 rfl (lv_at hl 0 rfl) ?_
  refine lv_iload_n hx hb dX9_refusal_1 rfl (lv_at hl 1 rfl) ?_
  refine jcallV (As := [.int a1]) (rest := []) ⟨hx, hb, hml, hown, hts⟩ hK hP hA hS (c_X9_isEmpty_50 l D cI cL ad hJ σ τ a1 (A1) t1 ha51) cw_RX9_33 (jc_50 cI cL ad σ τ) rfl ⟨Nat.le_of_ble_eq_true rfl, Nat.le_of_ble_eq_true rfl⟩ rfl rfl rfl hl.1 rfl (Nat.le_of_ble_eq_true rfl) dX9_refusal_2 ⟨Nat.zero_le _, Nat.zero_le _⟩ (fun r2 σ1 τ1 H locs h1 hP hS => ?_)
  obtain ⟨⟨rfl, rfl⟩, h1⟩ := h1
  have h3 := h1
  obtain ⟨q5, k4⟩ := h3
  have q5 := q5.symm
  subst q5
  refine lv_if_eq (tgt := 11) hx hb dX9_refusal_5 (by decide) (fun c => absurd c (by decide)) (fun _ => ?_)
  refine lv_bipush (v := (-11)) hx hb dX9_refusal_8 (by decide) ?_
  exact hret (-11) σ τ _ _ _ _ rfl ⟨⟨rfl, rfl⟩, ⟨rfl, trivial⟩⟩ hP hS dX9_refusal_10
set_option maxHeartbeats 4000000 in
set_option maxRecDepth 100000 in
theorem c_X11_books (l : Launch) (D : va_G) (cI cL : ClassId) (ad : Nat → Nat) (hJ : jD ad) (σ : Nat → Nat → Int32) (τ : Nat → Nat → Int64) (a1 : Int32) (A1 : Int) (t1 : a1.toInt = A1) (a2 : Int32) (A2 : Int) (t2 : a2.toInt = A2) (ha51 : ∀ k : Nat, k < 6 → σ 51 k = (-2)) : jM l yX11_books cX11_books 6 (some .int) ({ frames := 4, cells := 0, slots := 0, locals := 83 }) D cI cL ad [.ref (ad 0), .int a1, .int a2] σ τ (fun r σ' τ' => (∀ i : Nat, (i < 0 ∨ 54 < i) → σ' i = σ i) ∧ r = (if 0 ≤ A1 ∧ A1 ≤ 5 then 0 else -1)) := by
  refine jM.of hJ (by decide +kernel) (nt := .int) rfl (Nat.le_of_ble_eq_true rfl) ?_
  intro p e s m args below meth c Q ls hC hret hl hP
  obtain ⟨hx, hb, hr, hml, hown, hts, hK, -, hlocks⟩ := hC
  have hown : s.vm.findClass RX11 = some m.cls := hown
  have hS : va_S (jA ad) s.heap s.heap [] := va_S.rf
  have hA : ∀ q, jA ad q → jA ad q := fun _ h => h
  have hl : lv_has ls 6 [(0, .ref (ad 0)), (1, .int a1), (2, .int a2)] := hl
  have g1 := jrg t1
  have g2 := jrg t2
  refine lv_iload_n hx hb dX11_books_0 rfl (lv_at hl 1 rfl) ?_
  refine jcallS (As := [.int a1]) (rest := []) ⟨hx, hb, hml, hown, hts⟩ hK hP hA hS (c_X11_noShelf l D cI cL ad hJ σ τ a1 (A1) t1) cw_RX11_249 ⟨Nat.le_of_ble_eq_true rfl, Nat.le_of_ble_eq_true rfl⟩ rfl rfl rfl hl.1 rfl (Nat.le_of_ble_eq_true rfl) dX11_books_1 ⟨Nat.zero_le _, Nat.zero_le _⟩ (fun r2 σ1 τ1 H locs h1 hP hS => ?_)
  obtain ⟨⟨rfl, rfl⟩, h1⟩ := h1
  rcases h1 with h3 | h4
  · obtain ⟨q6, k5⟩ := h3
    have q6 := q6.symm
    subst q6
    refine lv_if_eq (tgt := 9) hx hb dX11_books_4 (by decide) (fun c => absurd c (by decide)) (fun _ => ?_)
    refine lv_iconst (v := (-1)) hx hb dX11_books_7 (by decide) ?_
    exact hret (-1) σ τ _ _ _ _ rfl ⟨(fun _ _ => rfl), (by (repeat' split) <;> first | rfl | omega | exact jsame jz_m1 t1 (by omega) | exact jsame jz_m1 t2 (by omega) | (exfalso; omega))⟩ hP hS dX11_books_8
  · obtain ⟨q8, k7⟩ := h4
    have q8 := q8.symm
    subst q8
    refine lv_if_eq (tgt := 9) hx hb dX11_books_4 (by decide) (fun _ => ?_) (fun c => absurd (by decide) c)
    refine lv_aload_n hx hb dX11_books_9 rfl (lv_at hl 0 rfl) ?_
    refine va_get (D := D) hx hb hts inlX11 hown hK hP 0 (jc_0 cI cL ad σ τ) rfl 10 (by decide) (hts _ kw_3_5) (fun _ h9 => h9) rfl dX11_books_10 ?_
    refine lv_iload_n hx hb dX11_books_13 rfl (lv_at hl 1 rfl) ?_
    refine jcallV (As := [.int a1]) (rest := []) ⟨hx, hb, hml, hown, hts⟩ hK hP hA hS (c_X9_isEmpty_50 l D cI cL ad hJ σ τ a1 (A1) t1 ha51) cw_RX11_252 (jc_50 cI cL ad σ τ) rfl ⟨Nat.le_of_ble_eq_true rfl, Nat.le_of_ble_eq_true rfl⟩ rfl rfl rfl hl.1 rfl (Nat.le_of_ble_eq_true rfl) dX11_books_14 ⟨Nat.zero_le _, Nat.zero_le _⟩ (fun r10 σ9 τ9 H locs h9 hP hS => ?_)
    obtain ⟨⟨rfl, rfl⟩, h9⟩ := h9
    have h11 := h9
    obtain ⟨q13, k12⟩ := h11
    have q13 := q13.symm
    subst q13
    refine lv_if_ne (tgt := 34) hx hb dX11_books_17 (by decide) (fun _ => ?_) (fun c => absurd c (by decide))
    refine lv_aload_n hx hb dX11_books_34 rfl (lv_at hl 0 rfl) ?_
    refine va_get (D := D) hx hb hts inlX11 hown hK hP 0 (jc_0 cI cL ad σ τ) rfl 9 (by decide) (hts _ kw_3_1) (fun _ h9 => h9) rfl dX11_books_35 ?_
    refine lv_iconst (v := 0) hx hb dX11_books_38 (by decide) ?_
    refine jput (ty := .int) hx hb hts inlX2 tyX2 tyX2_ok nmX2 hown hK hP hJ hA hS (jc_47 cI cL ad σ τ) rfl (k := 0) (by decide) (Nat.le_of_ble_eq_true rfl) (jp_47_0 cI cL ad σ τ 0) (hts _ kw_13_11) (fun _ h9 => h9) rfl (by decide +kernel) rfl rfl dX11_books_39 (fun σ14 H locs eσ14 hP hS => ?_)
    refine lv_aload_n hx hb dX11_books_42 rfl (lv_at hl 0 rfl) ?_
    refine va_get (D := D) hx hb hts inlX11 hown hK hP 0 (jc_0 cI cL ad σ14 τ) rfl 10 (by decide) (hts _ kw_3_5) (fun _ h9 => h9) rfl dX11_books_43 ?_
    refine lv_iload_n hx hb dX11_books_46 rfl (lv_at hl 1 rfl) ?_
    have m15 : ∀ k : Nat, k < 6 → σ14 51 k = (-2) := (by rw [eσ14, jup_n (by decide)]; exact ha51)
    refine jcallV (As := [.int a1]) (rest := []) ⟨hx, hb, hml, hown, hts⟩ hK hP hA hS (c_X9_lengthOf_50 l D cI cL ad hJ σ14 τ a1 (A1) t1 m15) cw_RX11_258 (jc_50 cI cL ad σ14 τ) rfl ⟨Nat.le_of_ble_eq_true rfl, Nat.le_of_ble_eq_true rfl⟩ rfl rfl rfl hl.1 rfl (Nat.le_of_ble_eq_true rfl) dX11_books_47 ⟨Nat.zero_le _, Nat.zero_le _⟩ (fun r17 σ16 τ16 H locs h16 hP hS => ?_)
    obtain ⟨⟨rfl, rfl⟩, h16⟩ := h16
    have h18 := h16
    obtain ⟨q20, k19⟩ := h18
    have q20 := q20.symm
    subst q20
    refine lv_istore_n (lv' := [(3, .int 0), (0, .ref (ad 0)), (1, .int a1), (2, .int a2)]) hx hb dX11_books_50 rfl hl (by decide) rfl (fun ls hl => ?_)
    refine lv_iload_n hx hb dX11_books_51 rfl (lv_at hl 3 rfl) ?_
    refine lv_if_lt (tgt := 60) hx hb dX11_books_52 (by decide) (fun c21 => ?_) (fun c21 => ?_)
    · have kc21 := jlt c21 t2 jz_0
      refine lv_iconst (v := 0) hx hb dX11_books_60 (by decide) ?_
      exact hret 0 σ14 τ _ _ _ _ rfl ⟨(fun i hi => by rw [eσ14, jup_n (by omega)]), (by (repeat' split) <;> first | rfl | omega | exact jsame jz_0 t1 (by omega) | exact jsame jz_0 t2 (by omega) | (exfalso; omega))⟩ hP hS dX11_books_61
    · have kc21 := jnlt c21 t2 jz_0
      refine lv_iload_n hx hb dX11_books_55 rfl (lv_at hl 3 rfl) ?_
      refine lv_iload_n hx hb dX11_books_56 rfl (lv_at hl 0 rfl) ?_
      refine lv_icmp_lt (tgt := 62) hx hb dX11_books_57 (by decide) (fun c => absurd (jlt c t2 jz_0) (by omega)) (fun c22 => ?_)
      have kc22 := jnlt c22 t2 jz_0
      refine lv_iconst (v := 0) hx hb dX11_books_60 (by decide) ?_
      exact hret 0 σ14 τ _ _ _ _ rfl ⟨(fun i hi => by rw [eσ14, jup_n (by omega)]), (by (repeat' split) <;> first | rfl | omega | exact jsame jz_0 t1 (by omega) | exact jsame jz_0 t2 (by omega) | (exfalso; omega))⟩ hP hS dX11_books_61
set_option maxHeartbeats 4000000 in
set_option maxRecDepth 100000 in
theorem c_X9_hold_50 (l : Launch) (D : va_G) (cI cL : ClassId) (ad : Nat → Nat) (hJ : jD ad) (σ : Nat → Nat → Int32) (τ : Nat → Nat → Int64) (a1 : Int32) (A1 : Int) (t1 : a1.toInt = A1) (a2 : Int32) (A2 : Int) (t2 : a2.toInt = A2) (h38_0 : σ 38 0 = 0) : jMv l yX9_hold cX9_hold 3 none ({ frames := 1, cells := 0, slots := 0, locals := 20 }) D cI cL ad [.ref (ad 50), .int a1, .int a2] σ τ (fun σ' τ' => (∀ i : Nat, (i < 51 ∨ 53 < i) → σ' i = σ i) ∧ True) := by
  refine jMv.of hJ (by decide +kernel) rfl (Nat.le_of_ble_eq_true rfl) ?_
  intro p e s m args below meth c Q ls hC hret hl hP
  obtain ⟨hx, hb, hr, hml, hown, hts, hK, -, hlocks⟩ := hC
  have hown : s.vm.findClass RX9 = some m.cls := hown
  have hS : va_S (jA ad) s.heap s.heap [] := va_S.rf
  have hA : ∀ q, jA ad q → jA ad q := fun _ h => h
  have hl : lv_has ls 3 [(0, .ref (ad 50)), (1, .int a1), (2, .int a2)] := hl
  have g1 := jrg t1
  have g2 := jrg t2
  refine lv_iload_n hx hb dX9_hold_0 rfl (lv_at hl 1 rfl) ?_
  refine jcallS (As := [.int a1]) (rest := []) ⟨hx, hb, hml, hown, hts⟩ hK hP hA hS (c_X9_isNone l D cI cL ad hJ σ τ a1 (A1) t1) cw_RX9_29 ⟨Nat.le_of_ble_eq_true rfl, Nat.le_of_ble_eq_true rfl⟩ rfl rfl rfl hl.1 rfl (Nat.le_of_ble_eq_true rfl) dX9_hold_1 ⟨Nat.zero_le _, Nat.zero_le _⟩ (fun r2 σ1 τ1 H locs h1 hP hS => ?_)
  obtain ⟨⟨rfl, rfl⟩, h1⟩ := h1
  rcases h1 with h3 | h4
  · obtain ⟨q6, k5⟩ := h3
    have q6 := q6.symm
    subst q6
    refine lv_if_ne (tgt := 18) hx hb dX9_hold_4 (by decide) (fun _ => ?_) (fun c => absurd c (by decide))
    exact hret σ τ _ _ _ _ ⟨(fun _ _ => rfl), trivial⟩ hP hS dX9_hold_18
  · obtain ⟨q8, k7⟩ := h4
    have q8 := q8.symm
    subst q8
    refine lv_if_ne (tgt := 18) hx hb dX9_hold_4 (by decide) (fun c => absurd (by decide) c) (fun _ => ?_)
    refine lv_iload_n hx hb dX9_hold_7 rfl (lv_at hl 2 rfl) ?_
    refine lv_aload_n hx hb dX9_hold_8 rfl (lv_at hl 0 rfl) ?_
    refine va_get (D := D) hx hb hts inlX9 hown hK hP 50 (jc_50 cI cL ad σ τ) rfl 0 (by decide) (hts _ kw_6_21) (fun _ h9 => h9) rfl dX9_hold_9 ?_
    refine va_get (D := D) hx hb hts inlX8 hown hK hP 38 (jc_38 cI cL ad σ τ) rfl 0 (by decide) (hts _ kw_51_2) (fun _ h9 => h9) rfl dX9_hold_12 ?_
    refine jtopr h38_0 ?_
    refine lv_icmp_lt (tgt := 19) hx hb dX9_hold_15 (by decide) (fun c9 => ?_) (fun c9 => ?_)
    · have kc9 := jlt c9 t2 jz_0
      refine lv_aload_n hx hb dX9_hold_19 rfl (lv_at hl 0 rfl) ?_
      refine va_get (D := D) hx hb hts inlX9 hown hK hP 50 (jc_50 cI cL ad σ τ) rfl 1 (by decide) (hts _ kw_6_16) (fun _ h9 => h9) rfl dX9_hold_20 ?_
      refine lv_iload_n hx hb dX9_hold_23 rfl (lv_at hl 1 rfl) ?_
      refine lv_iload_n hx hb dX9_hold_24 rfl (lv_at hl 2 rfl) ?_
      refine lv_if_ge (tgt := 33) hx hb dX9_hold_25 (by decide) (fun c => absurd (jle c jz_0 t2) (by omega)) (fun c10 => ?_)
      have kc10 := jnle c10 jz_0 t2
      refine lv_bipush (v := (-2)) hx hb dX9_hold_28 (by decide) ?_
      refine lv_goto (tgt := 34) hx hb dX9_hold_30 (by decide) ?_
      refine jast hx hb hK hP hJ hA hS (jc_51 cI cL ad σ τ) (ja_51 cI cL ad σ τ _ _) (jin t1 (by omega) (by omega)) dX9_hold_34 (fun σ11 H locs eσ11 hP hS => ?_)
      refine lv_aload_n hx hb dX9_hold_35 rfl (lv_at hl 0 rfl) ?_
      refine va_get (D := D) hx hb hts inlX9 hown hK hP 50 (jc_50 cI cL ad σ11 τ) rfl 3 (by decide) (hts _ kw_6_18) (fun _ h9 => h9) rfl dX9_hold_36 ?_
      refine lv_iload_n hx hb dX9_hold_39 rfl (lv_at hl 1 rfl) ?_
      refine lv_iload_n hx hb dX9_hold_40 rfl (lv_at hl 2 rfl) ?_
      refine lv_if_ge (tgt := 48) hx hb dX9_hold_41 (by decide) (fun c => absurd (jle c jz_0 t2) (by omega)) (fun c12 => ?_)
      have kc12 := jnle c12 jz_0 t2
      refine lv_iconst (v := (-1)) hx hb dX9_hold_44 (by decide) ?_
      refine lv_goto (tgt := 49) hx hb dX9_hold_45 (by decide) ?_
      refine jast hx hb hK hP hJ hA hS (jc_53 cI cL ad σ11 τ) (ja_53 cI cL ad σ11 τ _ _) (jin t1 (by omega) (by omega)) dX9_hold_49 (fun σ13 H locs eσ13 hP hS => ?_)
      refine lv_aload_n hx hb dX9_hold_50 rfl (lv_at hl 0 rfl) ?_
      refine va_get (D := D) hx hb hts inlX9 hown hK hP 50 (jc_50 cI cL ad σ13 τ) rfl 2 (by decide) (hts _ kw_6_17) (fun _ h9 => h9) rfl dX9_hold_51 ?_
      refine lv_iload_n hx hb dX9_hold_54 rfl (lv_at hl 1 rfl) ?_
      refine lv_iconst (v := 0) hx hb dX9_hold_55 (by decide) ?_
      refine jast hx hb hK hP hJ hA hS (jc_52 cI cL ad σ13 τ) (ja_52 cI cL ad σ13 τ _ _) (jin t1 (by omega) (by omega)) dX9_hold_56 (fun σ14 H locs eσ14 hP hS => ?_)
      exact hret σ14 τ _ _ _ _ ⟨(fun i hi => by rw [eσ14, jup_n (by omega), eσ13, jup_n (by omega), eσ11, jup_n (by omega)]), trivial⟩ hP hS dX9_hold_57
    · have kc9 := jnlt c9 t2 jz_0
      exact hret σ τ _ _ _ _ ⟨(fun _ _ => rfl), trivial⟩ hP hS dX9_hold_18
set_option maxHeartbeats 4000000 in
set_option maxRecDepth 100000 in
theorem c_X11_keep (l : Launch) (D : va_G) (cI cL : ClassId) (ad : Nat → Nat) (hJ : jD ad) (σ : Nat → Nat → Int32) (τ : Nat → Nat → Int64) (a1 : Int32) (A1 : Int) (t1 : a1.toInt = A1) (a2 : Int32) (A2 : Int) (t2 : a2.toInt = A2) (h38_0 : σ 38 0 = 0) : jM l yX11_keep cX11_keep 3 (some .int) ({ frames := 2, cells := 0, slots := 0, locals := 43 }) D cI cL ad [.ref (ad 0), .int a1, .int a2] σ τ (fun r σ' τ' => (∀ i : Nat, (i < 0 ∨ 54 < i) → σ' i = σ i) ∧ r = (if 0 ≤ A1 ∧ A1 ≤ 5 ∧ A2 = -1 then 1 else -1)) := by
  refine jM.of hJ (by decide +kernel) (nt := .int) rfl (Nat.le_of_ble_eq_true rfl) ?_
  intro p e s m args below meth c Q ls hC hret hl hP
  obtain ⟨hx, hb, hr, hml, hown, hts, hK, -, hlocks⟩ := hC
  have hown : s.vm.findClass RX11 = some m.cls := hown
  have hS : va_S (jA ad) s.heap s.heap [] := va_S.rf
  have hA : ∀ q, jA ad q → jA ad q := fun _ h => h
  have hl : lv_has ls 3 [(0, .ref (ad 0)), (1, .int a1), (2, .int a2)] := hl
  have g1 := jrg t1
  have g2 := jrg t2
  refine lv_iload_n hx hb dX11_keep_0 rfl (lv_at hl 1 rfl) ?_
  refine jcallS (As := [.int a1]) (rest := []) ⟨hx, hb, hml, hown, hts⟩ hK hP hA hS (c_X11_noShelf l D cI cL ad hJ σ τ a1 (A1) t1) cw_RX11_249 ⟨Nat.le_of_ble_eq_true rfl, Nat.le_of_ble_eq_true rfl⟩ rfl rfl rfl hl.1 rfl (Nat.le_of_ble_eq_true rfl) dX11_keep_1 ⟨Nat.zero_le _, Nat.zero_le _⟩ (fun r2 σ1 τ1 H locs h1 hP hS => ?_)
  obtain ⟨⟨rfl, rfl⟩, h1⟩ := h1
  rcases h1 with h3 | h4
  · obtain ⟨q6, k5⟩ := h3
    have q6 := q6.symm
    subst q6
    refine lv_if_ne (tgt := 20) hx hb dX11_keep_4 (by decide) (fun _ => ?_) (fun c => absurd c (by decide))
    refine lv_iconst (v := (-1)) hx hb dX11_keep_20 (by decide) ?_
    exact hret (-1) σ τ _ _ _ _ rfl ⟨(fun _ _ => rfl), (by (repeat' split) <;> first | rfl | omega | exact jsame jz_m1 t1 (by omega) | exact jsame jz_m1 t2 (by omega) | (exfalso; omega))⟩ hP hS dX11_keep_21
  · obtain ⟨q8, k7⟩ := h4
    have q8 := q8.symm
    subst q8
    refine lv_if_ne (tgt := 20) hx hb dX11_keep_4 (by decide) (fun c => absurd (by decide) c) (fun _ => ?_)
    refine lv_iload_n hx hb dX11_keep_7 rfl (lv_at hl 2 rfl) ?_
    refine lv_iconst (v := (-1)) hx hb dX11_keep_8 (by decide) ?_
    refine lv_icmp_eq (tgt := 22) hx hb dX11_keep_9 (by decide) (fun c9 => ?_) (fun c9 => ?_)
    · have kc9 := jeq c9 t2 jz_m1
      refine lv_aload_n hx hb dX11_keep_22 rfl (lv_at hl 0 rfl) ?_
      refine va_get (D := D) hx hb hts inlX11 hown hK hP 0 (jc_0 cI cL ad σ τ) rfl 10 (by decide) (hts _ kw_3_5) (fun _ h9 => h9) rfl dX11_keep_23 ?_
      refine lv_iload_n hx hb dX11_keep_26 rfl (lv_at hl 1 rfl) ?_
      refine lv_iload_n hx hb dX11_keep_27 rfl (lv_at hl 2 rfl) ?_
      refine jcallVv (As := [.int a1, .int a2]) (rest := []) ⟨hx, hb, hml, hown, hts⟩ hK hP hA hS (c_X9_hold_50 l D cI cL ad hJ σ τ a1 (A1) t1 a2 (A2) t2 h38_0) cw_RX11_298 (jc_50 cI cL ad σ τ) rfl ⟨Nat.le_of_ble_eq_true rfl, Nat.le_of_ble_eq_true rfl⟩ rfl rfl rfl hl.1 rfl (Nat.le_of_ble_eq_true rfl) dX11_keep_28 ⟨Nat.zero_le _, Nat.zero_le _⟩ (fun σ10 τ10 H locs h10 hP hS => ?_)
      obtain ⟨f12, h10⟩ := h10
      refine lv_iconst (v := 1) hx hb dX11_keep_31 (by decide) ?_
      exact hret 1 σ10 τ10 _ _ _ _ rfl ⟨(fun i hi => by rw [f12 i (by omega)]), (by (repeat' split) <;> first | rfl | omega | exact jsame jz_1 t1 (by omega) | exact jsame jz_1 t2 (by omega) | (exfalso; omega))⟩ hP hS dX11_keep_32
    · have kc9 := jne c9 t2 jz_m1
      refine lv_aload_n hx hb dX11_keep_12 rfl (lv_at hl 0 rfl) ?_
      refine lv_iload_n hx hb dX11_keep_13 rfl (lv_at hl 2 rfl) ?_
      refine jcallV (As := [.int a2]) (rest := []) ⟨hx, hb, hml, hown, hts⟩ hK hP hA hS (c_X11_noRule l D cI cL ad hJ σ τ a2 (A2) t2 h38_0) cw_RX11_177 (jc_0 cI cL ad σ τ) rfl ⟨Nat.le_of_ble_eq_true rfl, Nat.le_of_ble_eq_true rfl⟩ rfl rfl rfl hl.1 rfl (Nat.le_of_ble_eq_true rfl) dX11_keep_14 ⟨Nat.zero_le _, Nat.zero_le _⟩ (fun r14 σ13 τ13 H locs h13 hP hS => ?_)
      obtain ⟨⟨rfl, rfl⟩, h13⟩ := h13
      have h15 := h13
      obtain ⟨q17, k16⟩ := h15
      have q17 := q17.symm
      subst q17
      refine lv_if_eq (tgt := 22) hx hb dX11_keep_17 (by decide) (fun c => absurd c (by decide)) (fun _ => ?_)
      refine lv_iconst (v := (-1)) hx hb dX11_keep_20 (by decide) ?_
      exact hret (-1) σ τ _ _ _ _ rfl ⟨(fun _ _ => rfl), (by (repeat' split) <;> first | rfl | omega | exact jsame jz_m1 t1 (by omega) | exact jsame jz_m1 t2 (by omega) | (exfalso; omega))⟩ hP hS dX11_keep_21
set_option maxHeartbeats 4000000 in
set_option maxRecDepth 100000 in
theorem c_X9_lay_50 (l : Launch) (D : va_G) (cI cL : ClassId) (ad : Nat → Nat) (hJ : jD ad) (σ : Nat → Nat → Int32) (τ : Nat → Nat → Int64) (a1 : Int32) (A1 : Int) (t1 : a1.toInt = A1) (a2 : Int32) (A2 : Int) (t2 : a2.toInt = A2) (a3 : Int32) (A3 : Int) (t3 : a3.toInt = A3) (hp0 : 0 ≤ A1) (hp1 : A1 ≤ 5) (hp2 : 0 ≤ A3) (hp3 : A3 ≤ 60) : jMv l yX9_lay cX9_lay 5 none ({ frames := 1, cells := 0, slots := 0, locals := 20 }) D cI cL ad [.ref (ad 50), .int a1, .int a2, .int a3] σ τ (fun σ' τ' => (∀ i : Nat, (i < 51 ∨ 53 < i) → σ' i = σ i) ∧ True) := by
  refine jMv.of hJ (by decide +kernel) rfl (Nat.le_of_ble_eq_true rfl) ?_
  intro p e s m args below meth c Q ls hC hret hl hP
  obtain ⟨hx, hb, hr, hml, hown, hts, hK, -, hlocks⟩ := hC
  have hown : s.vm.findClass RX9 = some m.cls := hown
  have hS : va_S (jA ad) s.heap s.heap [] := va_S.rf
  have hA : ∀ q, jA ad q → jA ad q := fun _ h => h
  have hl : lv_has ls 5 [(0, .ref (ad 50)), (1, .int a1), (2, .int a2), (3, .int a3)] := hl
  have g1 := jrg t1
  have g2 := jrg t2
  have g3 := jrg t3
  refine lv_iload_n hx hb dX9_lay_0 rfl (lv_at hl 1 rfl) ?_
  refine jcallS (As := [.int a1]) (rest := []) ⟨hx, hb, hml, hown, hts⟩ hK hP hA hS (c_X9_isNone l D cI cL ad hJ σ τ a1 (A1) t1) cw_RX9_29 ⟨Nat.le_of_ble_eq_true rfl, Nat.le_of_ble_eq_true rfl⟩ rfl rfl rfl hl.1 rfl (Nat.le_of_ble_eq_true rfl) dX9_lay_1 ⟨Nat.zero_le _, Nat.zero_le _⟩ (fun r2 σ1 τ1 H locs h1 hP hS => ?_)
  obtain ⟨⟨rfl, rfl⟩, h1⟩ := h1
  rcases h1 with h3 | h4
  · obtain ⟨q6, k5⟩ := h3
    exact absurd (by omega : False) id
  · obtain ⟨q8, k7⟩ := h4
    have q8 := q8.symm
    subst q8
    refine lv_if_ne (tgt := 17) hx hb dX9_lay_4 (by decide) (fun c => absurd (by decide) c) (fun _ => ?_)
    refine lv_iload_n hx hb dX9_lay_7 rfl (lv_at hl 3 rfl) ?_
    refine lv_if_lt (tgt := 17) hx hb dX9_lay_8 (by decide) (fun c => absurd (jlt c t3 jz_0) (by omega)) (fun c9 => ?_)
    have kc9 := jnlt c9 t3 jz_0
    refine lv_iload_n hx hb dX9_lay_11 rfl (lv_at hl 3 rfl) ?_
    refine lv_bipush (v := 60) hx hb dX9_lay_12 (by decide) ?_
    refine lv_icmp_le (tgt := 18) hx hb dX9_lay_14 (by decide) (fun c10 => ?_) (fun c => absurd (jnle c t3 jz_60) (by omega))
    have kc10 := jle c10 t3 jz_60
    refine lv_aload_n hx hb dX9_lay_18 rfl (lv_at hl 0 rfl) ?_
    refine va_get (D := D) hx hb hts inlX9 hown hK hP 50 (jc_50 cI cL ad σ τ) rfl 1 (by decide) (hts _ kw_6_16) (fun _ h9 => h9) rfl dX9_lay_19 ?_
    refine lv_iload_n hx hb dX9_lay_22 rfl (lv_at hl 1 rfl) ?_
    refine lv_iload_n hx hb dX9_lay_23 rfl (lv_at hl 2 rfl) ?_
    refine jast hx hb hK hP hJ hA hS (jc_51 cI cL ad σ τ) (ja_51 cI cL ad σ τ _ _) (jin t1 (by omega) (by omega)) dX9_lay_24 (fun σ11 H locs eσ11 hP hS => ?_)
    refine lv_aload_n hx hb dX9_lay_25 rfl (lv_at hl 0 rfl) ?_
    refine va_get (D := D) hx hb hts inlX9 hown hK hP 50 (jc_50 cI cL ad σ11 τ) rfl 2 (by decide) (hts _ kw_6_17) (fun _ h9 => h9) rfl dX9_lay_26 ?_
    refine lv_iload_n hx hb dX9_lay_29 rfl (lv_at hl 1 rfl) ?_
    refine lv_iload_n hx hb dX9_lay_30 rfl (lv_at hl 3 rfl) ?_
    refine jast hx hb hK hP hJ hA hS (jc_52 cI cL ad σ11 τ) (ja_52 cI cL ad σ11 τ _ _) (jin t1 (by omega) (by omega)) dX9_lay_31 (fun σ12 H locs eσ12 hP hS => ?_)
    refine lv_aload_n hx hb dX9_lay_32 rfl (lv_at hl 0 rfl) ?_
    refine va_get (D := D) hx hb hts inlX9 hown hK hP 50 (jc_50 cI cL ad σ12 τ) rfl 3 (by decide) (hts _ kw_6_18) (fun _ h9 => h9) rfl dX9_lay_33 ?_
    refine lv_iload_n hx hb dX9_lay_36 rfl (lv_at hl 1 rfl) ?_
    refine lv_iconst (v := (-1)) hx hb dX9_lay_37 (by decide) ?_
    refine jast hx hb hK hP hJ hA hS (jc_53 cI cL ad σ12 τ) (ja_53 cI cL ad σ12 τ _ _) (jin t1 (by omega) (by omega)) dX9_lay_38 (fun σ13 H locs eσ13 hP hS => ?_)
    refine lv_iconst (v := 0) hx hb dX9_lay_39 (by decide) ?_
    refine lv_istore (lv' := [(4, .int 0), (0, .ref (ad 50)), (1, .int a1), (2, .int a2), (3, .int a3)]) hx hb dX9_lay_40 hl (by decide) rfl (fun ls hl => ?_)
    have lp14 : ∀ (n15 : Nat) (x16 : Int32) (σ17 : Nat → Nat → Int32) (τ17 : Nat → Nat → Int64) (H : Heap) (locs : List Loc) (ls : Array Slot), (A3 - x16.toInt : Int) < n15 → 0 ≤ x16.toInt → x16.toInt ≤ A3 → (∀ i : Nat, (0 = 0) → σ17 i = σ13 i) → jH D cI cL ad σ17 τ17 H → va_S (jA ad) s.heap H locs → lv_has ls 5 [(4, .int x16), (0, .ref (ad 50)), (1, .int a1), (2, .int a2), (3, .int a3)] → W p l e ({ frames := 1, cells := 0, slots := 0, locals := 20 }) s m args below meth c H locs 0 0 Q (F0 m 42 ls []) := by
      intro n15
      induction n15 with
      | zero => intro x16 σ17 τ17 H locs ls h18 h19 h20; exact absurd h18 (by omega)
      | succ n15 ihlp14 =>
        intro x16 σ17 τ17 H locs ls h18 h19 h20 f21 hP hS hl
        refine lv_iload hx hb dX9_lay_42 (lv_at hl 0 rfl) ?_
        refine lv_iload_n hx hb dX9_lay_44 rfl (lv_at hl 4 rfl) ?_
        refine lv_icmp_ge (tgt := 67) hx hb dX9_lay_45 (by decide) (fun c22 => ?_) (fun c22 => ?_)
        · have kc22 := jle c22 t3 rfl
          exact hret σ17 τ17 _ _ _ _ ⟨(fun i hi => by rw [f21 i (by omega), eσ13, jup_n (by omega), eσ12, jup_n (by omega), eσ11, jup_n (by omega)]), trivial⟩ hP hS dX9_lay_67
        · have kc22 := jnle c22 t3 rfl
          refine lv_aload_n hx hb dX9_lay_48 rfl (lv_at hl 1 rfl) ?_
          refine va_get (D := D) hx hb hts inlX9 hown hK hP 50 (jc_50 cI cL ad σ17 τ17) rfl 4 (by decide) (hts _ kw_6_20) (fun _ h9 => h9) rfl dX9_lay_49 ?_
          refine lv_iload_n hx hb dX9_lay_52 rfl (lv_at hl 2 rfl) ?_
          refine lv_bipush (v := 60) hx hb dX9_lay_53 (by decide) ?_
          refine lv_imul hx hb dX9_lay_55 ?_
          refine lv_topi (fun x23 ex23 => ?_)
          have tx23 : x23.toInt = 60 * A1 := (jmul ex23 t1 jz_60 (by omega) (by omega)).trans (by omega)
          refine lv_iload hx hb dX9_lay_56 (lv_at hl 0 rfl) ?_
          refine lv_iadd hx hb dX9_lay_58 ?_
          refine lv_topi (fun x24 ex24 => ?_)
          have tx24 : x24.toInt = 60 * A1 + x16.toInt := (jadd ex24 tx23 rfl (by omega) (by omega)).trans (by omega)
          refine lv_lconst (v := 0) hx hb dX9_lay_59 (by decide) ?_
          refine jastL hx hb hK hP hJ hA hS (jc_54 cI cL ad σ17 τ17) (ja_54 cI cL ad σ17 τ17 _ _) (jin tx24 (by omega) (by omega)) dX9_lay_60 (fun τ25 H locs eτ25 hP hS => ?_)
          obtain ⟨x26, ex26⟩ : ∃ y : Int32, y = x16 + 1 := ⟨_, rfl⟩
          have tx26 : x26.toInt = x16.toInt + 1 := (jadd ex26 rfl jz_1 (by omega) (by omega)).trans (by omega)
          refine lv_iinc (v := x26) (lv' := [(4, .int x26), (0, .ref (ad 50)), (1, .int a1), (2, .int a2), (3, .int a3)]) hx hb dX9_lay_61 hl (k := 0) rfl (by rw [ex26]; rfl) (by decide) rfl (fun ls hl => ?_)
          refine lv_goto (tgt := 42) hx hb dX9_lay_64 (by decide) ?_
          exact ihlp14 x26 σ17 τ25 _ _ ls (by have h90 := tx26; omega) (by have h90 := tx26; omega) (by have h90 := tx26; omega) (fun i hi => by rw [f21 i hi])  hP hS (lv_sub hl [0, 1, 2, 3, 4] rfl)
    exact lp14 100 0 σ13 τ _ _ ls (by have h90 := jz_0; omega) (by have h90 := jz_0; omega) (by have h90 := jz_0; omega) (fun _ _ => rfl)  hP hS hl
set_option maxHeartbeats 4000000 in
set_option maxRecDepth 100000 in
theorem c_X11_row (l : Launch) (D : va_G) (cI cL : ClassId) (ad : Nat → Nat) (hJ : jD ad) (σ : Nat → Nat → Int32) (τ : Nat → Nat → Int64) (a1 : Int32) (A1 : Int) (t1 : a1.toInt = A1) (a2 : Int32) (A2 : Int) (t2 : a2.toInt = A2) (a3 : Int32) (A3 : Int) (t3 : a3.toInt = A3) : jM l yX11_row cX11_row 4 (some .int) ({ frames := 2, cells := 0, slots := 0, locals := 44 }) D cI cL ad [.ref (ad 0), .int a1, .int a2, .int a3] σ τ (fun r σ' τ' => (∀ i : Nat, (i < 0 ∨ 54 < i) → σ' i = σ i) ∧ r = (if ¬ (0 ≤ A1 ∧ A1 ≤ 5) ∨ ¬ (0 ≤ A2 ∧ A2 ≤ 4) ∨ 60 < A3 then -1 else if A3 < 0 then -14 else 1)) := by
  refine jM.of hJ (by decide +kernel) (nt := .int) rfl (Nat.le_of_ble_eq_true rfl) ?_
  intro p e s m args below meth c Q ls hC hret hl hP
  obtain ⟨hx, hb, hr, hml, hown, hts, hK, -, hlocks⟩ := hC
  have hown : s.vm.findClass RX11 = some m.cls := hown
  have hS : va_S (jA ad) s.heap s.heap [] := va_S.rf
  have hA : ∀ q, jA ad q → jA ad q := fun _ h => h
  have hl : lv_has ls 4 [(0, .ref (ad 0)), (1, .int a1), (2, .int a2), (3, .int a3)] := hl
  have g1 := jrg t1
  have g2 := jrg t2
  have g3 := jrg t3
  refine lv_iload_n hx hb dX11_row_0 rfl (lv_at hl 1 rfl) ?_
  refine jcallS (As := [.int a1]) (rest := []) ⟨hx, hb, hml, hown, hts⟩ hK hP hA hS (c_X11_noShelf l D cI cL ad hJ σ τ a1 (A1) t1) cw_RX11_249 ⟨Nat.le_of_ble_eq_true rfl, Nat.le_of_ble_eq_true rfl⟩ rfl rfl rfl hl.1 rfl (Nat.le_of_ble_eq_true rfl) dX11_row_1 ⟨Nat.zero_le _, Nat.zero_le _⟩ (fun r2 σ1 τ1 H locs h1 hP hS => ?_)
  obtain ⟨⟨rfl, rfl⟩, h1⟩ := h1
  rcases h1 with h3 | h4
  · obtain ⟨q6, k5⟩ := h3
    have q6 := q6.symm
    subst q6
    refine lv_if_ne (tgt := 22) hx hb dX11_row_4 (by decide) (fun _ => ?_) (fun c => absurd c (by decide))
    refine lv_iconst (v := (-1)) hx hb dX11_row_22 (by decide) ?_
    exact hret (-1) σ τ _ _ _ _ rfl ⟨(fun _ _ => rfl), (by (repeat' split) <;> first | rfl | omega | exact jsame jz_m1 t1 (by omega) | exact jsame jz_m1 t2 (by omega) | exact jsame jz_m1 t3 (by omega) | (exfalso; omega))⟩ hP hS dX11_row_23
  · obtain ⟨q8, k7⟩ := h4
    have q8 := q8.symm
    subst q8
    refine lv_if_ne (tgt := 22) hx hb dX11_row_4 (by decide) (fun c => absurd (by decide) c) (fun _ => ?_)
    refine lv_iload_n hx hb dX11_row_7 rfl (lv_at hl 2 rfl) ?_
    refine lv_iconst (v := 0) hx hb dX11_row_8 (by decide) ?_
    refine lv_iconst (v := 4) hx hb dX11_row_9 (by decide) ?_
    refine jcallS (As := [.int a2, .int 0, .int 4]) (rest := []) ⟨hx, hb, hml, hown, hts⟩ hK hP hA hS (c_X11_outside l D cI cL ad hJ σ τ a2 (A2) t2 0 (0) jz_0 4 (4) jz_4) cw_RX11_94 ⟨Nat.le_of_ble_eq_true rfl, Nat.le_of_ble_eq_true rfl⟩ rfl rfl rfl hl.1 rfl (Nat.le_of_ble_eq_true rfl) dX11_row_10 ⟨Nat.zero_le _, Nat.zero_le _⟩ (fun r10 σ9 τ9 H locs h9 hP hS => ?_)
    obtain ⟨⟨rfl, rfl⟩, h9⟩ := h9
    rcases h9 with h11 | h12
    · obtain ⟨q14, k13⟩ := h11
      have q14 := q14.symm
      subst q14
      refine lv_if_ne (tgt := 22) hx hb dX11_row_13 (by decide) (fun _ => ?_) (fun c => absurd c (by decide))
      refine lv_iconst (v := (-1)) hx hb dX11_row_22 (by decide) ?_
      exact hret (-1) σ τ _ _ _ _ rfl ⟨(fun _ _ => rfl), (by (repeat' split) <;> first | rfl | omega | exact jsame jz_m1 t1 (by omega) | exact jsame jz_m1 t2 (by omega) | exact jsame jz_m1 t3 (by omega) | (exfalso; omega))⟩ hP hS dX11_row_23
    · obtain ⟨q16, k15⟩ := h12
      have q16 := q16.symm
      subst q16
      refine lv_if_ne (tgt := 22) hx hb dX11_row_13 (by decide) (fun c => absurd (by decide) c) (fun _ => ?_)
      refine lv_iload_n hx hb dX11_row_16 rfl (lv_at hl 3 rfl) ?_
      refine lv_bipush (v := 60) hx hb dX11_row_17 (by decide) ?_
      refine lv_icmp_le (tgt := 24) hx hb dX11_row_19 (by decide) (fun c17 => ?_) (fun c17 => ?_)
      · have kc17 := jle c17 t3 jz_60
        refine lv_iload_n hx hb dX11_row_24 rfl (lv_at hl 3 rfl) ?_
        refine lv_if_ge (tgt := 31) hx hb dX11_row_25 (by decide) (fun c18 => ?_) (fun c18 => ?_)
        · have kc18 := jle c18 jz_0 t3
          refine lv_aload_n hx hb dX11_row_31 rfl (lv_at hl 0 rfl) ?_
          refine va_get (D := D) hx hb hts inlX11 hown hK hP 0 (jc_0 cI cL ad σ τ) rfl 10 (by decide) (hts _ kw_3_5) (fun _ h9 => h9) rfl dX11_row_32 ?_
          refine lv_iload_n hx hb dX11_row_35 rfl (lv_at hl 1 rfl) ?_
          refine lv_iload_n hx hb dX11_row_36 rfl (lv_at hl 2 rfl) ?_
          refine lv_iload_n hx hb dX11_row_37 rfl (lv_at hl 3 rfl) ?_
          refine jcallVv (As := [.int a1, .int a2, .int a3]) (rest := []) ⟨hx, hb, hml, hown, hts⟩ hK hP hA hS (c_X9_lay_50 l D cI cL ad hJ σ τ a1 (A1) t1 a2 (A2) t2 a3 (A3) t3 (by omega) (by omega) (by omega) (by omega)) cw_RX11_302 (jc_50 cI cL ad σ τ) rfl ⟨Nat.le_of_ble_eq_true rfl, Nat.le_of_ble_eq_true rfl⟩ rfl rfl rfl hl.1 rfl (Nat.le_of_ble_eq_true rfl) dX11_row_38 ⟨Nat.zero_le _, Nat.zero_le _⟩ (fun σ19 τ19 H locs h19 hP hS => ?_)
          obtain ⟨f21, h19⟩ := h19
          refine lv_iconst (v := 1) hx hb dX11_row_41 (by decide) ?_
          exact hret 1 σ19 τ19 _ _ _ _ rfl ⟨(fun i hi => by rw [f21 i (by omega)]), (by (repeat' split) <;> first | rfl | omega | exact jsame jz_1 t1 (by omega) | exact jsame jz_1 t2 (by omega) | exact jsame jz_1 t3 (by omega) | (exfalso; omega))⟩ hP hS dX11_row_42
        · have kc18 := jnle c18 jz_0 t3
          refine lv_bipush (v := (-14)) hx hb dX11_row_28 (by decide) ?_
          exact hret (-14) σ τ _ _ _ _ rfl ⟨(fun _ _ => rfl), (by (repeat' split) <;> first | rfl | omega | exact jsame jz_m14 t1 (by omega) | exact jsame jz_m14 t2 (by omega) | exact jsame jz_m14 t3 (by omega) | (exfalso; omega))⟩ hP hS dX11_row_30
      · have kc17 := jnle c17 t3 jz_60
        refine lv_iconst (v := (-1)) hx hb dX11_row_22 (by decide) ?_
        exact hret (-1) σ τ _ _ _ _ rfl ⟨(fun _ _ => rfl), (by (repeat' split) <;> first | rfl | omega | exact jsame jz_m1 t1 (by omega) | exact jsame jz_m1 t2 (by omega) | exact jsame jz_m1 t3 (by omega) | (exfalso; omega))⟩ hP hS dX11_row_23
set_option maxHeartbeats 4000000 in
set_option maxRecDepth 100000 in
theorem c_X11_put (l : Launch) (D : va_G) (cI cL : ClassId) (ad : Nat → Nat) (hJ : jD ad) (σ : Nat → Nat → Int32) (τ : Nat → Nat → Int64) (a1 : Int32) (A1 : Int) (t1 : a1.toInt = A1) (a2 : Int32) (A2 : Int) (t2 : a2.toInt = A2) (a3 : Int64) (A3 : Int) (t3 : a3.toInt = A3) (ha51 : ∀ k : Nat, k < 6 → σ 51 k = (-2)) : jM l yX11_put cX11_put 6 (some .int) ({ frames := 3, cells := 0, slots := 0, locals := 63 }) D cI cL ad [.ref (ad 0), .int a1, .int a2, .long a3] σ τ (fun r σ' τ' => (∀ i : Nat, (i < 0 ∨ 54 < i) → σ' i = σ i) ∧ r = (if 0 ≤ A1 ∧ A1 ≤ 5 then -11 else -1)) := by
  refine jM.of hJ (by decide +kernel) (nt := .int) rfl (Nat.le_of_ble_eq_true rfl) ?_
  intro p e s m args below meth c Q ls hC hret hl hP
  obtain ⟨hx, hb, hr, hml, hown, hts, hK, -, hlocks⟩ := hC
  have hown : s.vm.findClass RX11 = some m.cls := hown
  have hS : va_S (jA ad) s.heap s.heap [] := va_S.rf
  have hA : ∀ q, jA ad q → jA ad q := fun _ h => h
  have hl : lv_has ls 6 [(0, .ref (ad 0)), (1, .int a1), (2, .int a2), (3, .long a3)] := hl
  have g1 := jrg t1
  have g2 := jrg t2
  have g3 := jrgL t3
  refine lv_iload_n hx hb dX11_put_0 rfl (lv_at hl 1 rfl) ?_
  refine jcallS (As := [.int a1]) (rest := []) ⟨hx, hb, hml, hown, hts⟩ hK hP hA hS (c_X11_noShelf l D cI cL ad hJ σ τ a1 (A1) t1) cw_RX11_249 ⟨Nat.le_of_ble_eq_true rfl, Nat.le_of_ble_eq_true rfl⟩ rfl rfl rfl hl.1 rfl (Nat.le_of_ble_eq_true rfl) dX11_put_1 ⟨Nat.zero_le _, Nat.zero_le _⟩ (fun r2 σ1 τ1 H locs h1 hP hS => ?_)
  obtain ⟨⟨rfl, rfl⟩, h1⟩ := h1
  rcases h1 with h3 | h4
  · obtain ⟨q6, k5⟩ := h3
    have q6 := q6.symm
    subst q6
    refine lv_if_eq (tgt := 9) hx hb dX11_put_4 (by decide) (fun c => absurd c (by decide)) (fun _ => ?_)
    refine lv_iconst (v := (-1)) hx hb dX11_put_7 (by decide) ?_
    exact hret (-1) σ τ _ _ _ _ rfl ⟨(fun _ _ => rfl), (by (repeat' split) <;> first | rfl | omega | exact jsame jz_m1 t1 (by omega) | exact jsame jz_m1 t2 (by omega) | (exfalso; omega))⟩ hP hS dX11_put_8
  · obtain ⟨q8, k7⟩ := h4
    have q8 := q8.symm
    subst q8
    refine lv_if_eq (tgt := 9) hx hb dX11_put_4 (by decide) (fun _ => ?_) (fun c => absurd (by decide) c)
    refine lv_aload_n hx hb dX11_put_9 rfl (lv_at hl 0 rfl) ?_
    refine va_get (D := D) hx hb hts inlX11 hown hK hP 0 (jc_0 cI cL ad σ τ) rfl 10 (by decide) (hts _ kw_3_5) (fun _ h9 => h9) rfl dX11_put_10 ?_
    refine lv_iload_n hx hb dX11_put_13 rfl (lv_at hl 1 rfl) ?_
    refine lv_iload_n hx hb dX11_put_14 rfl (lv_at hl 2 rfl) ?_
    refine jcallV (As := [.int a1, .int a2]) (rest := []) ⟨hx, hb, hml, hown, hts⟩ hK hP hA hS (c_X9_refusal_50 l D cI cL ad hJ σ τ a1 (A1) t1 a2 (A2) t2 ha51) cw_RX11_304 (jc_50 cI cL ad σ τ) rfl ⟨Nat.le_of_ble_eq_true rfl, Nat.le_of_ble_eq_true rfl⟩ rfl rfl rfl hl.1 rfl (Nat.le_of_ble_eq_true rfl) dX11_put_15 ⟨Nat.zero_le _, Nat.zero_le _⟩ (fun r10 σ9 τ9 H locs h9 hP hS => ?_)
    obtain ⟨⟨rfl, rfl⟩, h9⟩ := h9
    have h11 := h9
    obtain ⟨q13, k12⟩ := h11
    have q13 := q13.symm
    subst q13
    refine lv_istore (lv' := [(5, .int (-11)), (0, .ref (ad 0)), (1, .int a1), (2, .int a2), (3, .long a3)]) hx hb dX11_put_18 hl (by decide) rfl (fun ls hl => ?_)
    refine lv_iload hx hb dX11_put_20 (lv_at hl 0 rfl) ?_
    refine lv_if_ge (tgt := 28) hx hb dX11_put_22 (by decide) (fun c => absurd c (by decide)) (fun _ => ?_)
    refine lv_iload hx hb dX11_put_25 (lv_at hl 0 rfl) ?_
    exact hret (-11) σ τ _ _ _ _ rfl ⟨(fun _ _ => rfl), (by (repeat' split) <;> first | rfl | omega | exact jsame jz_m11 t1 (by omega) | exact jsame jz_m11 t2 (by omega) | (exfalso; omega))⟩ hP hS dX11_put_27
set_option maxHeartbeats 4000000 in
set_option maxRecDepth 100000 in
theorem c_X11_element (l : Launch) (D : va_G) (cI cL : ClassId) (ad : Nat → Nat) (hJ : jD ad) (σ : Nat → Nat → Int32) (τ : Nat → Nat → Int64) (a1 : Int32) (A1 : Int) (t1 : a1.toInt = A1) (a2 : Int32) (A2 : Int) (t2 : a2.toInt = A2) (ha51 : ∀ k : Nat, k < 6 → σ 51 k = (-2)) : jMl l yX11_element cX11_element 3 (some .long) ({ frames := 3, cells := 0, slots := 0, locals := 63 }) D cI cL ad [.ref (ad 0), .int a1, .int a2] σ τ (fun r σ' τ' => (∀ i : Nat, (i < 0 ∨ 54 < i) → σ' i = σ i) ∧ r = (-9223372036854775808)) := by
  refine jMl.of hJ (by decide +kernel) rfl (Nat.le_of_ble_eq_true rfl) ?_
  intro p e s m args below meth c Q ls hC hret hl hP
  obtain ⟨hx, hb, hr, hml, hown, hts, hK, -, hlocks⟩ := hC
  have hown : s.vm.findClass RX11 = some m.cls := hown
  have hS : va_S (jA ad) s.heap s.heap [] := va_S.rf
  have hA : ∀ q, jA ad q → jA ad q := fun _ h => h
  have hl : lv_has ls 3 [(0, .ref (ad 0)), (1, .int a1), (2, .int a2)] := hl
  have g1 := jrg t1
  have g2 := jrg t2
  refine lv_iload_n hx hb dX11_element_0 rfl (lv_at hl 1 rfl) ?_
  refine jcallS (As := [.int a1]) (rest := []) ⟨hx, hb, hml, hown, hts⟩ hK hP hA hS (c_X11_noShelf l D cI cL ad hJ σ τ a1 (A1) t1) cw_RX11_249 ⟨Nat.le_of_ble_eq_true rfl, Nat.le_of_ble_eq_true rfl⟩ rfl rfl rfl hl.1 rfl (Nat.le_of_ble_eq_true rfl) dX11_element_1 ⟨Nat.zero_le _, Nat.zero_le _⟩ (fun r2 σ1 τ1 H locs h1 hP hS => ?_)
  obtain ⟨⟨rfl, rfl⟩, h1⟩ := h1
  rcases h1 with h3 | h4
  · obtain ⟨q6, k5⟩ := h3
    have q6 := q6.symm
    subst q6
    refine lv_if_ne (tgt := 19) hx hb dX11_element_4 (by decide) (fun _ => ?_) (fun c => absurd c (by decide))
    refine lv_ldc2 (v := (-9223372036854775808)) hx hb hown (hts _ kw_52_22) dX11_element_19 ?_
    exact hret (-9223372036854775808) σ τ _ _ _ _ ⟨(fun _ _ => rfl), (by (repeat' split) <;> first | rfl | omega | exact jsame jzl_m9223372036854775808 t1 (by omega) | exact jsame jzl_m9223372036854775808 t2 (by omega) | (exfalso; omega))⟩ hP hS dX11_element_22
  · obtain ⟨q8, k7⟩ := h4
    have q8 := q8.symm
    subst q8
    refine lv_if_ne (tgt := 19) hx hb dX11_element_4 (by decide) (fun c => absurd (by decide) c) (fun _ => ?_)
    refine lv_aload_n hx hb dX11_element_7 rfl (lv_at hl 0 rfl) ?_
    refine va_get (D := D) hx hb hts inlX11 hown hK hP 0 (jc_0 cI cL ad σ τ) rfl 10 (by decide) (hts _ kw_3_5) (fun _ h9 => h9) rfl dX11_element_8 ?_
    refine lv_iload_n hx hb dX11_element_11 rfl (lv_at hl 1 rfl) ?_
    refine lv_iload_n hx hb dX11_element_12 rfl (lv_at hl 2 rfl) ?_
    refine jcallV (As := [.int a1, .int a2]) (rest := []) ⟨hx, hb, hml, hown, hts⟩ hK hP hA hS (c_X9_refusal_50 l D cI cL ad hJ σ τ a1 (A1) t1 a2 (A2) t2 ha51) cw_RX11_304 (jc_50 cI cL ad σ τ) rfl ⟨Nat.le_of_ble_eq_true rfl, Nat.le_of_ble_eq_true rfl⟩ rfl rfl rfl hl.1 rfl (Nat.le_of_ble_eq_true rfl) dX11_element_13 ⟨Nat.zero_le _, Nat.zero_le _⟩ (fun r10 σ9 τ9 H locs h9 hP hS => ?_)
    obtain ⟨⟨rfl, rfl⟩, h9⟩ := h9
    have h11 := h9
    obtain ⟨q13, k12⟩ := h11
    have q13 := q13.symm
    subst q13
    refine lv_if_ge (tgt := 23) hx hb dX11_element_16 (by decide) (fun c => absurd c (by decide)) (fun _ => ?_)
    refine lv_ldc2 (v := (-9223372036854775808)) hx hb hown (hts _ kw_52_22) dX11_element_19 ?_
    exact hret (-9223372036854775808) σ τ _ _ _ _ ⟨(fun _ _ => rfl), (by (repeat' split) <;> first | rfl | omega | exact jsame jzl_m9223372036854775808 t1 (by omega) | exact jsame jzl_m9223372036854775808 t2 (by omega) | (exfalso; omega))⟩ hP hS dX11_element_22
set_option maxHeartbeats 4000000 in
set_option maxRecDepth 100000 in
theorem c_X11_shift (l : Launch) (D : va_G) (cI cL : ClassId) (ad : Nat → Nat) (hJ : jD ad) (σ : Nat → Nat → Int32) (τ : Nat → Nat → Int64) (a1 : Int32) (A1 : Int) (t1 : a1.toInt = A1) (a2 : Int32) (A2 : Int) (t2 : a2.toInt = A2) (a3 : Int32) (A3 : Int) (t3 : a3.toInt = A3) (a4 : Int32) (A4 : Int) (t4 : a4.toInt = A4) (a5 : Int32) (A5 : Int) (t5 : a5.toInt = A5) (ha51 : ∀ k : Nat, k < 6 → σ 51 k = (-2)) : jM l yX11_shift cX11_shift 7 (some .int) ({ frames := 2, cells := 0, slots := 0, locals := 42 }) D cI cL ad [.ref (ad 0), .int a1, .int a2, .int a3, .int a4, .int a5] σ τ (fun r σ' τ' => (∀ i : Nat, (i < 0 ∨ 54 < i) → σ' i = σ i) ∧ r = (if 0 ≤ A1 ∧ A1 ≤ 5 ∧ 0 ≤ A3 ∧ A3 ≤ 5 then -11 else -1)) := by
  refine jM.of hJ (by decide +kernel) (nt := .int) rfl (Nat.le_of_ble_eq_true rfl) ?_
  intro p e s m args below meth c Q ls hC hret hl hP
  obtain ⟨hx, hb, hr, hml, hown, hts, hK, -, hlocks⟩ := hC
  have hown : s.vm.findClass RX11 = some m.cls := hown
  have hS : va_S (jA ad) s.heap s.heap [] := va_S.rf
  have hA : ∀ q, jA ad q → jA ad q := fun _ h => h
  have hl : lv_has ls 7 [(0, .ref (ad 0)), (1, .int a1), (2, .int a2), (3, .int a3), (4, .int a4), (5, .int a5)] := hl
  have g1 := jrg t1
  have g2 := jrg t2
  have g3 := jrg t3
  have g4 := jrg t4
  have g5 := jrg t5
  refine lv_iload_n hx hb dX11_shift_0 rfl (lv_at hl 1 rfl) ?_
  refine jcallS (As := [.int a1]) (rest := []) ⟨hx, hb, hml, hown, hts⟩ hK hP hA hS (c_X11_noShelf l D cI cL ad hJ σ τ a1 (A1) t1) cw_RX11_249 ⟨Nat.le_of_ble_eq_true rfl, Nat.le_of_ble_eq_true rfl⟩ rfl rfl rfl hl.1 rfl (Nat.le_of_ble_eq_true rfl) dX11_shift_1 ⟨Nat.zero_le _, Nat.zero_le _⟩ (fun r2 σ1 τ1 H locs h1 hP hS => ?_)
  obtain ⟨⟨rfl, rfl⟩, h1⟩ := h1
  rcases h1 with h3 | h4
  · obtain ⟨q6, k5⟩ := h3
    have q6 := q6.symm
    subst q6
    refine lv_if_ne (tgt := 14) hx hb dX11_shift_4 (by decide) (fun _ => ?_) (fun c => absurd c (by decide))
    refine lv_iconst (v := (-1)) hx hb dX11_shift_14 (by decide) ?_
    exact hret (-1) σ τ _ _ _ _ rfl ⟨(fun _ _ => rfl), (by (repeat' split) <;> first | rfl | omega | exact jsame jz_m1 t1 (by omega) | exact jsame jz_m1 t2 (by omega) | exact jsame jz_m1 t3 (by omega) | exact jsame jz_m1 t4 (by omega) | exact jsame jz_m1 t5 (by omega) | (exfalso; omega))⟩ hP hS dX11_shift_15
  · obtain ⟨q8, k7⟩ := h4
    have q8 := q8.symm
    subst q8
    refine lv_if_ne (tgt := 14) hx hb dX11_shift_4 (by decide) (fun c => absurd (by decide) c) (fun _ => ?_)
    refine lv_iload_n hx hb dX11_shift_7 rfl (lv_at hl 3 rfl) ?_
    refine jcallS (As := [.int a3]) (rest := []) ⟨hx, hb, hml, hown, hts⟩ hK hP hA hS (c_X11_noShelf l D cI cL ad hJ σ τ a3 (A3) t3) cw_RX11_249 ⟨Nat.le_of_ble_eq_true rfl, Nat.le_of_ble_eq_true rfl⟩ rfl rfl rfl hl.1 rfl (Nat.le_of_ble_eq_true rfl) dX11_shift_8 ⟨Nat.zero_le _, Nat.zero_le _⟩ (fun r10 σ9 τ9 H locs h9 hP hS => ?_)
    obtain ⟨⟨rfl, rfl⟩, h9⟩ := h9
    rcases h9 with h11 | h12
    · obtain ⟨q14, k13⟩ := h11
      have q14 := q14.symm
      subst q14
      refine lv_if_eq (tgt := 16) hx hb dX11_shift_11 (by decide) (fun c => absurd c (by decide)) (fun _ => ?_)
      refine lv_iconst (v := (-1)) hx hb dX11_shift_14 (by decide) ?_
      exact hret (-1) σ τ _ _ _ _ rfl ⟨(fun _ _ => rfl), (by (repeat' split) <;> first | rfl | omega | exact jsame jz_m1 t1 (by omega) | exact jsame jz_m1 t2 (by omega) | exact jsame jz_m1 t3 (by omega) | exact jsame jz_m1 t4 (by omega) | exact jsame jz_m1 t5 (by omega) | (exfalso; omega))⟩ hP hS dX11_shift_15
    · obtain ⟨q16, k15⟩ := h12
      have q16 := q16.symm
      subst q16
      refine lv_if_eq (tgt := 16) hx hb dX11_shift_11 (by decide) (fun _ => ?_) (fun c => absurd (by decide) c)
      refine lv_aload_n hx hb dX11_shift_16 rfl (lv_at hl 0 rfl) ?_
      refine va_get (D := D) hx hb hts inlX11 hown hK hP 0 (jc_0 cI cL ad σ τ) rfl 10 (by decide) (hts _ kw_3_5) (fun _ h9 => h9) rfl dX11_shift_17 ?_
      refine lv_iload_n hx hb dX11_shift_20 rfl (lv_at hl 1 rfl) ?_
      refine jcallV (As := [.int a1]) (rest := []) ⟨hx, hb, hml, hown, hts⟩ hK hP hA hS (c_X9_isEmpty_50 l D cI cL ad hJ σ τ a1 (A1) t1 ha51) cw_RX11_252 (jc_50 cI cL ad σ τ) rfl ⟨Nat.le_of_ble_eq_true rfl, Nat.le_of_ble_eq_true rfl⟩ rfl rfl rfl hl.1 rfl (Nat.le_of_ble_eq_true rfl) dX11_shift_21 ⟨Nat.zero_le _, Nat.zero_le _⟩ (fun r18 σ17 τ17 H locs h17 hP hS => ?_)
      obtain ⟨⟨rfl, rfl⟩, h17⟩ := h17
      have h19 := h17
      obtain ⟨q21, k20⟩ := h19
      have q21 := q21.symm
      subst q21
      refine lv_if_ne (tgt := 38) hx hb dX11_shift_24 (by decide) (fun _ => ?_) (fun c => absurd c (by decide))
      refine lv_bipush (v := (-11)) hx hb dX11_shift_38 (by decide) ?_
      exact hret (-11) σ τ _ _ _ _ rfl ⟨(fun _ _ => rfl), (by (repeat' split) <;> first | rfl | omega | exact jsame jz_m11 t1 (by omega) | exact jsame jz_m11 t2 (by omega) | exact jsame jz_m11 t3 (by omega) | exact jsame jz_m11 t4 (by omega) | exact jsame jz_m11 t5 (by omega) | (exfalso; omega))⟩ hP hS dX11_shift_40
set_option maxHeartbeats 4000000 in
set_option maxRecDepth 100000 in
theorem c_X11_taken (l : Launch) (D : va_G) (cI cL : ClassId) (ad : Nat → Nat) (hJ : jD ad) (σ : Nat → Nat → Int32) (τ : Nat → Nat → Int64) (a1 : Int32) (A1 : Int) (t1 : a1.toInt = A1) (a2 : Int32) (A2 : Int) (t2 : a2.toInt = A2) (ha51 : ∀ k : Nat, k < 6 → σ 51 k = (-2)) : jM l yX11_taken cX11_taken 4 (some .int) ({ frames := 2, cells := 0, slots := 0, locals := 42 }) D cI cL ad [.ref (ad 0), .int a1, .int a2] σ τ (fun r σ' τ' => (∀ i : Nat, (i < 0 ∨ 54 < i) → σ' i = σ i) ∧ r = (if 0 ≤ A1 ∧ A1 ≤ 5 ∧ 0 ≤ A2 ∧ A2 ≤ 6 then -11 else -1)) := by
  refine jM.of hJ (by decide +kernel) (nt := .int) rfl (Nat.le_of_ble_eq_true rfl) ?_
  intro p e s m args below meth c Q ls hC hret hl hP
  obtain ⟨hx, hb, hr, hml, hown, hts, hK, -, hlocks⟩ := hC
  have hown : s.vm.findClass RX11 = some m.cls := hown
  have hS : va_S (jA ad) s.heap s.heap [] := va_S.rf
  have hA : ∀ q, jA ad q → jA ad q := fun _ h => h
  have hl : lv_has ls 4 [(0, .ref (ad 0)), (1, .int a1), (2, .int a2)] := hl
  have g1 := jrg t1
  have g2 := jrg t2
  refine lv_iload_n hx hb dX11_taken_0 rfl (lv_at hl 1 rfl) ?_
  refine jcallS (As := [.int a1]) (rest := []) ⟨hx, hb, hml, hown, hts⟩ hK hP hA hS (c_X11_noShelf l D cI cL ad hJ σ τ a1 (A1) t1) cw_RX11_249 ⟨Nat.le_of_ble_eq_true rfl, Nat.le_of_ble_eq_true rfl⟩ rfl rfl rfl hl.1 rfl (Nat.le_of_ble_eq_true rfl) dX11_taken_1 ⟨Nat.zero_le _, Nat.zero_le _⟩ (fun r2 σ1 τ1 H locs h1 hP hS => ?_)
  obtain ⟨⟨rfl, rfl⟩, h1⟩ := h1
  rcases h1 with h3 | h4
  · obtain ⟨q6, k5⟩ := h3
    have q6 := q6.symm
    subst q6
    refine lv_if_ne (tgt := 17) hx hb dX11_taken_4 (by decide) (fun _ => ?_) (fun c => absurd c (by decide))
    refine lv_iconst (v := (-1)) hx hb dX11_taken_17 (by decide) ?_
    exact hret (-1) σ τ _ _ _ _ rfl ⟨(fun _ _ => rfl), (by (repeat' split) <;> first | rfl | omega | exact jsame jz_m1 t1 (by omega) | exact jsame jz_m1 t2 (by omega) | (exfalso; omega))⟩ hP hS dX11_taken_18
  · obtain ⟨q8, k7⟩ := h4
    have q8 := q8.symm
    subst q8
    refine lv_if_ne (tgt := 17) hx hb dX11_taken_4 (by decide) (fun c => absurd (by decide) c) (fun _ => ?_)
    refine lv_iload_n hx hb dX11_taken_7 rfl (lv_at hl 2 rfl) ?_
    refine lv_iconst (v := 0) hx hb dX11_taken_8 (by decide) ?_
    refine lv_bipush (v := 6) hx hb dX11_taken_9 (by decide) ?_
    refine jcallS (As := [.int a2, .int 0, .int 6]) (rest := []) ⟨hx, hb, hml, hown, hts⟩ hK hP hA hS (c_X11_outside l D cI cL ad hJ σ τ a2 (A2) t2 0 (0) jz_0 6 (6) jz_6) cw_RX11_94 ⟨Nat.le_of_ble_eq_true rfl, Nat.le_of_ble_eq_true rfl⟩ rfl rfl rfl hl.1 rfl (Nat.le_of_ble_eq_true rfl) dX11_taken_11 ⟨Nat.zero_le _, Nat.zero_le _⟩ (fun r10 σ9 τ9 H locs h9 hP hS => ?_)
    obtain ⟨⟨rfl, rfl⟩, h9⟩ := h9
    rcases h9 with h11 | h12
    · obtain ⟨q14, k13⟩ := h11
      have q14 := q14.symm
      subst q14
      refine lv_if_eq (tgt := 19) hx hb dX11_taken_14 (by decide) (fun c => absurd c (by decide)) (fun _ => ?_)
      refine lv_iconst (v := (-1)) hx hb dX11_taken_17 (by decide) ?_
      exact hret (-1) σ τ _ _ _ _ rfl ⟨(fun _ _ => rfl), (by (repeat' split) <;> first | rfl | omega | exact jsame jz_m1 t1 (by omega) | exact jsame jz_m1 t2 (by omega) | (exfalso; omega))⟩ hP hS dX11_taken_18
    · obtain ⟨q16, k15⟩ := h12
      have q16 := q16.symm
      subst q16
      refine lv_if_eq (tgt := 19) hx hb dX11_taken_14 (by decide) (fun _ => ?_) (fun c => absurd (by decide) c)
      refine lv_aload_n hx hb dX11_taken_19 rfl (lv_at hl 0 rfl) ?_
      refine va_get (D := D) hx hb hts inlX11 hown hK hP 0 (jc_0 cI cL ad σ τ) rfl 10 (by decide) (hts _ kw_3_5) (fun _ h9 => h9) rfl dX11_taken_20 ?_
      refine lv_iload_n hx hb dX11_taken_23 rfl (lv_at hl 1 rfl) ?_
      refine jcallV (As := [.int a1]) (rest := []) ⟨hx, hb, hml, hown, hts⟩ hK hP hA hS (c_X9_isEmpty_50 l D cI cL ad hJ σ τ a1 (A1) t1 ha51) cw_RX11_252 (jc_50 cI cL ad σ τ) rfl ⟨Nat.le_of_ble_eq_true rfl, Nat.le_of_ble_eq_true rfl⟩ rfl rfl rfl hl.1 rfl (Nat.le_of_ble_eq_true rfl) dX11_taken_24 ⟨Nat.zero_le _, Nat.zero_le _⟩ (fun r18 σ17 τ17 H locs h17 hP hS => ?_)
      obtain ⟨⟨rfl, rfl⟩, h17⟩ := h17
      have h19 := h17
      obtain ⟨q21, k20⟩ := h19
      have q21 := q21.symm
      subst q21
      refine lv_if_eq (tgt := 33) hx hb dX11_taken_27 (by decide) (fun c => absurd c (by decide)) (fun _ => ?_)
      refine lv_bipush (v := (-11)) hx hb dX11_taken_30 (by decide) ?_
      exact hret (-11) σ τ _ _ _ _ rfl ⟨(fun _ _ => rfl), (by (repeat' split) <;> first | rfl | omega | exact jsame jz_m11 t1 (by omega) | exact jsame jz_m11 t2 (by omega) | (exfalso; omega))⟩ hP hS dX11_taken_32
