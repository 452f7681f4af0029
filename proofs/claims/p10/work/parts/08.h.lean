set_option maxHeartbeats 4000000 in
set_option maxRecDepth 100000 in
theorem c_X12_begins_1_0 (l : Launch) (D : va_G) (cI cL : ClassId) (ad zz : Nat → Nat) (hJ : jD ad) (σ : Nat → Nat → Int32) (τ : Nat → Nat → Int64) (h55_55 : σ 55 55 = 0) : jMv l yX12_begins cX12_begins 2 none ({ frames := 0, cells := 0, slots := 0, locals := 0 }) D cI cL ad zz [.ref (ad 55), .int 1] σ τ (fun σ' τ' => τ = τ' ∧ (∀ i : Nat, (i < 55 ∨ 55 < i) ∧ (i < 85 ∨ 85 < i) → σ' i = σ i) ∧ (∀ k : Nat, (k < 55 ∨ 55 < k) → σ' 55 k = σ 55 k) ∧ (∀ k : Nat, (k < 0 ∨ 0 < k) → σ' 85 k = σ 85 k) ∧ (σ' 55 55 = 1) ∧ (σ' 85 0 = 1) ∧ True) := by
  refine jMv.of hJ (by decide +kernel) rfl (Nat.le_of_ble_eq_true rfl) ?_
  intro p e s m args below meth c Q ls hC hret hl hP
  obtain ⟨hx, hb, hr, hml, hown, hts, hK, -, hlocks, hZ⟩ := hC
  have hown : s.vm.findClass RX12 = some m.cls := hown
  have hS : va_S (jA ad) s.heap s.heap [] := va_S.rf
  have hA : ∀ q, jA ad q → jA ad q := fun _ h => h
  have hl : lv_has ls 2 [(0, .ref (ad 55)), (1, .int 1)] := hl
  refine lv_aload_n hx hb dX12_begins_0 rfl (lv_at hl 0 rfl) ?_
  refine va_get (D := D) hx hb hts inlX12 hown hK hP 55 (jc_55 cI cL ad σ τ) rfl 55 (of_decide_eq_true rfl) (hts _ kw_49_7) (fun _ h9 => h9) rfl dX12_begins_1 ?_
  refine jtopr h55_55 ?_
  refine lv_bipush (v := 24) hx hb dX12_begins_4 (of_decide_eq_true rfl) ?_
  refine lv_icmp_ge (tgt := 19) hx hb dX12_begins_6 (of_decide_eq_true rfl) (fun c => absurd c (of_decide_eq_true rfl)) (fun _ => ?_)
  refine lv_aload_n hx hb dX12_begins_9 rfl (lv_at hl 0 rfl) ?_
  refine va_get (D := D) hx hb hts inlX12 hown hK hP 55 (jc_55 cI cL ad σ τ) rfl 54 (of_decide_eq_true rfl) (hts _ kw_8_10) (fun _ h9 => h9) rfl dX12_begins_10 ?_
  refine lv_aload_n hx hb dX12_begins_13 rfl (lv_at hl 0 rfl) ?_
  refine va_get (D := D) hx hb hts inlX12 hown hK hP 55 (jc_55 cI cL ad σ τ) rfl 55 (of_decide_eq_true rfl) (hts _ kw_49_7) (fun _ h9 => h9) rfl dX12_begins_14 ?_
  refine jtopr h55_55 ?_
  refine lv_iload_n hx hb dX12_begins_17 rfl (lv_at hl 1 rfl) ?_
  exact by
   refine jast hx hb hK hP hJ hA hS (jc_85 cI cL ad σ τ) (ja_85 cI cL ad σ τ _ _) (jin jz_0 (by omega) (by omega)) dX12_begins_18 (fun σ1 H locs eσ1 hP hS => ?_)
   have eσ1 : σ1 = jup σ 85 0 1 := eσ1
   refine lv_aload_n hx hb dX12_begins_19 rfl (lv_at hl 0 rfl) ?_
   refine lv_dup hx hb dX12_begins_20 rfl ?_
   refine va_get (D := D) hx hb hts inlX12 hown hK hP 55 (jc_55 cI cL ad σ1 τ) rfl 55 (of_decide_eq_true rfl) (hts _ kw_49_7) (fun _ h9 => h9) rfl dX12_begins_21 ?_
   have m2 : σ1 55 55 = 0 := ((congrFun (jnp 55 eσ1 (of_decide_eq_true rfl)) 55).trans h55_55)
   refine jtopr m2 ?_
   refine lv_iconst (v := 1) hx hb dX12_begins_24 (of_decide_eq_true rfl) ?_
   refine lv_iadd hx hb dX12_begins_25 ?_
   refine jtopr (y := 1) (of_decide_eq_true rfl) ?_
   refine jput (ty := .int) hx hb hts inlX12 tyX12 tyX12_ok nmX12 hown hK hP hJ hA hS (jc_55 cI cL ad σ1 τ) rfl (k := 55) (of_decide_eq_true rfl) (Nat.le_of_ble_eq_true rfl) (jp_55_55 cI cL ad σ1 τ 1) (hts _ kw_49_7) (fun _ h9 => h9) rfl (by decide +kernel) rfl rfl dX12_begins_26 (fun σ3 H locs eσ3 hP hS => ?_)
   have m4 : σ3 55 55 = 1 := (jsp eσ3)
   have m5 : σ3 85 0 = 1 := ((congrFun (jnp 85 eσ3 (of_decide_eq_true rfl)) 0).trans (jsp eσ1))
   exact hret σ3 τ _ _ _ _ ⟨rfl, (fun i hi => ((jnp i eσ3 (imp_350 i hi)).trans (jnp i eσ1 (imp_351 i hi)))), (fun i hi => ((jkp i eσ3 (imp_165 i hi)).trans (congrFun (jnp 55 eσ1 (of_decide_eq_true rfl)) i))), (fun i hi => ((congrFun (jnp 85 eσ3 (of_decide_eq_true rfl)) i).trans (jkp i eσ1 (imp_4 i hi)))), m4, m5, trivial⟩ hP hS dX12_begins_29
set_option maxHeartbeats 4000000 in
set_option maxRecDepth 100000 in
theorem c_X12_putsAs_0_0_0 (l : Launch) (D : va_G) (cI cL : ClassId) (ad zz : Nat → Nat) (hJ : jD ad) (σ : Nat → Nat → Int32) (τ : Nat → Nat → Int64) (a2 : Int32) (A2 : Int) (t2 : a2.toInt = A2) (h55_55 : σ 55 55 = 0) (hp0 : (σ 55 56).toInt = 0) : jM l yX12_putsAs cX12_putsAs 3 (some .int) ({ frames := 1, cells := 0, slots := 0, locals := 21 }) D cI cL ad zz [.ref (ad 55), .int 0, .int a2] σ τ (fun r σ' τ' => τ = τ' ∧ (∀ i : Nat, (i < 55 ∨ 55 < i) ∧ (i < 85 ∨ 85 < i) → σ' i = σ i) ∧ (∀ k : Nat, (k < 55 ∨ 55 < k) → σ' 55 k = σ 55 k) ∧ (∀ k : Nat, (k < 0 ∨ 0 < k) → σ' 85 k = σ 85 k) ∧ (σ' 55 55 = 1) ∧ (σ' 85 0 = 1) ∧ ((r = (a2 + (σ 55 57)) ∧ True))) := by
  refine jM.of hJ (by decide +kernel) (nt := .int) rfl (Nat.le_of_ble_eq_true rfl) ?_
  intro p e s m args below meth c Q ls hC hret hl hP
  obtain ⟨hx, hb, hr, hml, hown, hts, hK, -, hlocks, hZ⟩ := hC
  have hown : s.vm.findClass RX12 = some m.cls := hown
  have hS : va_S (jA ad) s.heap s.heap [] := va_S.rf
  have hA : ∀ q, jA ad q → jA ad q := fun _ h => h
  have hl : lv_has ls 3 [(0, .ref (ad 55)), (1, .int 0), (2, .int a2)] := hl
  have g2 := jrg t2
  refine lv_iload_n hx hb dX12_putsAs_0 rfl (lv_at hl 1 rfl) ?_
  refine lv_iconst (v := 4) hx hb dX12_putsAs_1 (of_decide_eq_true rfl) ?_
  refine lv_icmp_ne (tgt := 20) hx hb dX12_putsAs_2 (of_decide_eq_true rfl) (fun _ => ?_) (fun c => absurd c (of_decide_eq_true rfl))
  refine lv_iload_n hx hb dX12_putsAs_20 rfl (lv_at hl 1 rfl) ?_
  refine lv_iconst (v := 1) hx hb dX12_putsAs_21 (of_decide_eq_true rfl) ?_
  refine lv_icmp_ne (tgt := 40) hx hb dX12_putsAs_22 (of_decide_eq_true rfl) (fun _ => ?_) (fun c => absurd c (of_decide_eq_true rfl))
  refine lv_aload_n hx hb dX12_putsAs_40 rfl (lv_at hl 0 rfl) ?_
  refine lv_iconst (v := 1) hx hb dX12_putsAs_41 (of_decide_eq_true rfl) ?_
  refine jcallVv (As := [.int 1]) (rest := []) ⟨hx, hb, hml, hown, hts⟩ hK hP hA hS hZ (c_X12_begins_1_0 l D cI cL ad zz hJ σ τ h55_55) cw_RX12_379 (jc_55 cI cL ad σ τ) rfl ⟨Nat.le_of_ble_eq_true rfl, Nat.le_of_ble_eq_true rfl⟩ rfl rfl rfl hl.1 rfl (Nat.le_of_ble_eq_true rfl) dX12_putsAs_42 ⟨Nat.zero_le _, Nat.zero_le _⟩ (fun σ1 τ1 H locs h1 hP hS => ?_)
  obtain ⟨rfl, f3, f4, f5, m6, m7, h1⟩ := h1
  refine lv_iload_n hx hb dX12_putsAs_45 rfl (lv_at hl 2 rfl) ?_
  refine lv_aload_n hx hb dX12_putsAs_46 rfl (lv_at hl 0 rfl) ?_
  refine va_get (D := D) hx hb hts inlX12 hown hK hP 55 (jc_55 cI cL ad σ1 τ) rfl 57 (of_decide_eq_true rfl) (hts _ kw_49_9) (fun _ h9 => h9) rfl dX12_putsAs_47 ?_
  have m9 : σ1 55 57 = (σ 55 57) := (f4 57 (of_decide_eq_true rfl))
  refine jtopr m9 ?_
  have g10 := jrg (rfl : (σ 55 57).toInt = (σ 55 57).toInt)
  refine lv_iadd hx hb dX12_putsAs_50 ?_
  refine lv_topi (fun x11 ex11 => ?_)
  have gx11 := jrg (rfl : x11.toInt = x11.toInt)
  exact hret x11 σ1 τ _ _ _ _ rfl ⟨rfl, (fun i hi => (f3 i hi)), (fun i hi => (f4 i hi)), (fun i hi => (f5 i hi)), m6, m7, ⟨(by rw [ex11]), trivial⟩⟩ hP hS dX12_putsAs_51
set_option maxHeartbeats 4000000 in
set_option maxRecDepth 100000 in
theorem c_X12_begins_10_0 (l : Launch) (D : va_G) (cI cL : ClassId) (ad zz : Nat → Nat) (hJ : jD ad) (σ : Nat → Nat → Int32) (τ : Nat → Nat → Int64) (h55_55 : σ 55 55 = 0) : jMv l yX12_begins cX12_begins 2 none ({ frames := 0, cells := 0, slots := 0, locals := 0 }) D cI cL ad zz [.ref (ad 55), .int 10] σ τ (fun σ' τ' => τ = τ' ∧ (∀ i : Nat, (i < 55 ∨ 55 < i) ∧ (i < 85 ∨ 85 < i) → σ' i = σ i) ∧ (∀ k : Nat, (k < 55 ∨ 55 < k) → σ' 55 k = σ 55 k) ∧ (∀ k : Nat, (k < 0 ∨ 0 < k) → σ' 85 k = σ 85 k) ∧ (σ' 55 55 = 1) ∧ (σ' 85 0 = 10) ∧ True) := by
  refine jMv.of hJ (by decide +kernel) rfl (Nat.le_of_ble_eq_true rfl) ?_
  intro p e s m args below meth c Q ls hC hret hl hP
  obtain ⟨hx, hb, hr, hml, hown, hts, hK, -, hlocks, hZ⟩ := hC
  have hown : s.vm.findClass RX12 = some m.cls := hown
  have hS : va_S (jA ad) s.heap s.heap [] := va_S.rf
  have hA : ∀ q, jA ad q → jA ad q := fun _ h => h
  have hl : lv_has ls 2 [(0, .ref (ad 55)), (1, .int 10)] := hl
  refine lv_aload_n hx hb dX12_begins_0 rfl (lv_at hl 0 rfl) ?_
  refine va_get (D := D) hx hb hts inlX12 hown hK hP 55 (jc_55 cI cL ad σ τ) rfl 55 (of_decide_eq_true rfl) (hts _ kw_49_7) (fun _ h9 => h9) rfl dX12_begins_1 ?_
  refine jtopr h55_55 ?_
  refine lv_bipush (v := 24) hx hb dX12_begins_4 (of_decide_eq_true rfl) ?_
  refine lv_icmp_ge (tgt := 19) hx hb dX12_begins_6 (of_decide_eq_true rfl) (fun c => absurd c (of_decide_eq_true rfl)) (fun _ => ?_)
  refine lv_aload_n hx hb dX12_begins_9 rfl (lv_at hl 0 rfl) ?_
  refine va_get (D := D) hx hb hts inlX12 hown hK hP 55 (jc_55 cI cL ad σ τ) rfl 54 (of_decide_eq_true rfl) (hts _ kw_8_10) (fun _ h9 => h9) rfl dX12_begins_10 ?_
  refine lv_aload_n hx hb dX12_begins_13 rfl (lv_at hl 0 rfl) ?_
  refine va_get (D := D) hx hb hts inlX12 hown hK hP 55 (jc_55 cI cL ad σ τ) rfl 55 (of_decide_eq_true rfl) (hts _ kw_49_7) (fun _ h9 => h9) rfl dX12_begins_14 ?_
  refine jtopr h55_55 ?_
  refine lv_iload_n hx hb dX12_begins_17 rfl (lv_at hl 1 rfl) ?_
  exact by
   refine jast hx hb hK hP hJ hA hS (jc_85 cI cL ad σ τ) (ja_85 cI cL ad σ τ _ _) (jin jz_0 (by omega) (by omega)) dX12_begins_18 (fun σ1 H locs eσ1 hP hS => ?_)
   have eσ1 : σ1 = jup σ 85 0 10 := eσ1
   refine lv_aload_n hx hb dX12_begins_19 rfl (lv_at hl 0 rfl) ?_
   refine lv_dup hx hb dX12_begins_20 rfl ?_
   refine va_get (D := D) hx hb hts inlX12 hown hK hP 55 (jc_55 cI cL ad σ1 τ) rfl 55 (of_decide_eq_true rfl) (hts _ kw_49_7) (fun _ h9 => h9) rfl dX12_begins_21 ?_
   have m2 : σ1 55 55 = 0 := ((congrFun (jnp 55 eσ1 (of_decide_eq_true rfl)) 55).trans h55_55)
   refine jtopr m2 ?_
   refine lv_iconst (v := 1) hx hb dX12_begins_24 (of_decide_eq_true rfl) ?_
   refine lv_iadd hx hb dX12_begins_25 ?_
   refine jtopr (y := 1) (of_decide_eq_true rfl) ?_
   refine jput (ty := .int) hx hb hts inlX12 tyX12 tyX12_ok nmX12 hown hK hP hJ hA hS (jc_55 cI cL ad σ1 τ) rfl (k := 55) (of_decide_eq_true rfl) (Nat.le_of_ble_eq_true rfl) (jp_55_55 cI cL ad σ1 τ 1) (hts _ kw_49_7) (fun _ h9 => h9) rfl (by decide +kernel) rfl rfl dX12_begins_26 (fun σ3 H locs eσ3 hP hS => ?_)
   have m4 : σ3 55 55 = 1 := (jsp eσ3)
   have m5 : σ3 85 0 = 10 := ((congrFun (jnp 85 eσ3 (of_decide_eq_true rfl)) 0).trans (jsp eσ1))
   exact hret σ3 τ _ _ _ _ ⟨rfl, (fun i hi => ((jnp i eσ3 (imp_350 i hi)).trans (jnp i eσ1 (imp_351 i hi)))), (fun i hi => ((jkp i eσ3 (imp_165 i hi)).trans (congrFun (jnp 55 eσ1 (of_decide_eq_true rfl)) i))), (fun i hi => ((congrFun (jnp 85 eσ3 (of_decide_eq_true rfl)) i).trans (jkp i eσ1 (imp_4 i hi)))), m4, m5, trivial⟩ hP hS dX12_begins_29
set_option maxHeartbeats 4000000 in
set_option maxRecDepth 100000 in
theorem c_X12_begins_1_1 (l : Launch) (D : va_G) (cI cL : ClassId) (ad zz : Nat → Nat) (hJ : jD ad) (σ : Nat → Nat → Int32) (τ : Nat → Nat → Int64) (h55_55 : σ 55 55 = 1) : jMv l yX12_begins cX12_begins 2 none ({ frames := 0, cells := 0, slots := 0, locals := 0 }) D cI cL ad zz [.ref (ad 55), .int 1] σ τ (fun σ' τ' => τ = τ' ∧ (∀ i : Nat, (i < 55 ∨ 55 < i) ∧ (i < 85 ∨ 85 < i) → σ' i = σ i) ∧ (∀ k : Nat, (k < 55 ∨ 55 < k) → σ' 55 k = σ 55 k) ∧ (∀ k : Nat, (k < 1 ∨ 1 < k) → σ' 85 k = σ 85 k) ∧ (σ' 55 55 = 2) ∧ (σ' 85 1 = 1) ∧ True) := by
  refine jMv.of hJ (by decide +kernel) rfl (Nat.le_of_ble_eq_true rfl) ?_
  intro p e s m args below meth c Q ls hC hret hl hP
  obtain ⟨hx, hb, hr, hml, hown, hts, hK, -, hlocks, hZ⟩ := hC
  have hown : s.vm.findClass RX12 = some m.cls := hown
  have hS : va_S (jA ad) s.heap s.heap [] := va_S.rf
  have hA : ∀ q, jA ad q → jA ad q := fun _ h => h
  have hl : lv_has ls 2 [(0, .ref (ad 55)), (1, .int 1)] := hl
  refine lv_aload_n hx hb dX12_begins_0 rfl (lv_at hl 0 rfl) ?_
  refine va_get (D := D) hx hb hts inlX12 hown hK hP 55 (jc_55 cI cL ad σ τ) rfl 55 (of_decide_eq_true rfl) (hts _ kw_49_7) (fun _ h9 => h9) rfl dX12_begins_1 ?_
  refine jtopr h55_55 ?_
  refine lv_bipush (v := 24) hx hb dX12_begins_4 (of_decide_eq_true rfl) ?_
  refine lv_icmp_ge (tgt := 19) hx hb dX12_begins_6 (of_decide_eq_true rfl) (fun c => absurd c (of_decide_eq_true rfl)) (fun _ => ?_)
  refine lv_aload_n hx hb dX12_begins_9 rfl (lv_at hl 0 rfl) ?_
  refine va_get (D := D) hx hb hts inlX12 hown hK hP 55 (jc_55 cI cL ad σ τ) rfl 54 (of_decide_eq_true rfl) (hts _ kw_8_10) (fun _ h9 => h9) rfl dX12_begins_10 ?_
  refine lv_aload_n hx hb dX12_begins_13 rfl (lv_at hl 0 rfl) ?_
  refine va_get (D := D) hx hb hts inlX12 hown hK hP 55 (jc_55 cI cL ad σ τ) rfl 55 (of_decide_eq_true rfl) (hts _ kw_49_7) (fun _ h9 => h9) rfl dX12_begins_14 ?_
  refine jtopr h55_55 ?_
  refine lv_iload_n hx hb dX12_begins_17 rfl (lv_at hl 1 rfl) ?_
  exact by
   refine jast hx hb hK hP hJ hA hS (jc_85 cI cL ad σ τ) (ja_85 cI cL ad σ τ _ _) (jin jz_1 (by omega) (by omega)) dX12_begins_18 (fun σ1 H locs eσ1 hP hS => ?_)
   have eσ1 : σ1 = jup σ 85 1 1 := eσ1
   refine lv_aload_n hx hb dX12_begins_19 rfl (lv_at hl 0 rfl) ?_
   refine lv_dup hx hb dX12_begins_20 rfl ?_
   refine va_get (D := D) hx hb hts inlX12 hown hK hP 55 (jc_55 cI cL ad σ1 τ) rfl 55 (of_decide_eq_true rfl) (hts _ kw_49_7) (fun _ h9 => h9) rfl dX12_begins_21 ?_
   have m2 : σ1 55 55 = 1 := ((congrFun (jnp 55 eσ1 (of_decide_eq_true rfl)) 55).trans h55_55)
   refine jtopr m2 ?_
   refine lv_iconst (v := 1) hx hb dX12_begins_24 (of_decide_eq_true rfl) ?_
   refine lv_iadd hx hb dX12_begins_25 ?_
   refine jtopr (y := 2) (of_decide_eq_true rfl) ?_
   refine jput (ty := .int) hx hb hts inlX12 tyX12 tyX12_ok nmX12 hown hK hP hJ hA hS (jc_55 cI cL ad σ1 τ) rfl (k := 55) (of_decide_eq_true rfl) (Nat.le_of_ble_eq_true rfl) (jp_55_55 cI cL ad σ1 τ 2) (hts _ kw_49_7) (fun _ h9 => h9) rfl (by decide +kernel) rfl rfl dX12_begins_26 (fun σ3 H locs eσ3 hP hS => ?_)
   have m4 : σ3 55 55 = 2 := (jsp eσ3)
   have m5 : σ3 85 1 = 1 := ((congrFun (jnp 85 eσ3 (of_decide_eq_true rfl)) 1).trans (jsp eσ1))
   exact hret σ3 τ _ _ _ _ ⟨rfl, (fun i hi => ((jnp i eσ3 (imp_350 i hi)).trans (jnp i eσ1 (imp_351 i hi)))), (fun i hi => ((jkp i eσ3 (imp_165 i hi)).trans (congrFun (jnp 55 eσ1 (of_decide_eq_true rfl)) i))), (fun i hi => ((congrFun (jnp 85 eσ3 (of_decide_eq_true rfl)) i).trans (jkp i eσ1 (imp_42 i hi)))), m4, m5, trivial⟩ hP hS dX12_begins_29
set_option maxHeartbeats 4000000 in
set_option maxRecDepth 100000 in
theorem c_X12_putsAs_0_0_1 (l : Launch) (D : va_G) (cI cL : ClassId) (ad zz : Nat → Nat) (hJ : jD ad) (σ : Nat → Nat → Int32) (τ : Nat → Nat → Int64) (a2 : Int32) (A2 : Int) (t2 : a2.toInt = A2) (h55_55 : σ 55 55 = 1) (hp0 : (σ 55 56).toInt = 0) : jM l yX12_putsAs cX12_putsAs 3 (some .int) ({ frames := 1, cells := 0, slots := 0, locals := 21 }) D cI cL ad zz [.ref (ad 55), .int 0, .int a2] σ τ (fun r σ' τ' => τ = τ' ∧ (∀ i : Nat, (i < 55 ∨ 55 < i) ∧ (i < 85 ∨ 85 < i) → σ' i = σ i) ∧ (∀ k : Nat, (k < 55 ∨ 55 < k) → σ' 55 k = σ 55 k) ∧ (∀ k : Nat, (k < 1 ∨ 1 < k) → σ' 85 k = σ 85 k) ∧ (σ' 55 55 = 2) ∧ (σ' 85 1 = 1) ∧ ((r = (a2 + (σ 55 57)) ∧ True))) := by
  refine jM.of hJ (by decide +kernel) (nt := .int) rfl (Nat.le_of_ble_eq_true rfl) ?_
  intro p e s m args below meth c Q ls hC hret hl hP
  obtain ⟨hx, hb, hr, hml, hown, hts, hK, -, hlocks, hZ⟩ := hC
  have hown : s.vm.findClass RX12 = some m.cls := hown
  have hS : va_S (jA ad) s.heap s.heap [] := va_S.rf
  have hA : ∀ q, jA ad q → jA ad q := fun _ h => h
  have hl : lv_has ls 3 [(0, .ref (ad 55)), (1, .int 0), (2, .int a2)] := hl
  have g2 := jrg t2
  refine lv_iload_n hx hb dX12_putsAs_0 rfl (lv_at hl 1 rfl) ?_
  refine lv_iconst (v := 4) hx hb dX12_putsAs_1 (of_decide_eq_true rfl) ?_
  refine lv_icmp_ne (tgt := 20) hx hb dX12_putsAs_2 (of_decide_eq_true rfl) (fun _ => ?_) (fun c => absurd c (of_decide_eq_true rfl))
  refine lv_iload_n hx hb dX12_putsAs_20 rfl (lv_at hl 1 rfl) ?_
  refine lv_iconst (v := 1) hx hb dX12_putsAs_21 (of_decide_eq_true rfl) ?_
  refine lv_icmp_ne (tgt := 40) hx hb dX12_putsAs_22 (of_decide_eq_true rfl) (fun _ => ?_) (fun c => absurd c (of_decide_eq_true rfl))
  refine lv_aload_n hx hb dX12_putsAs_40 rfl (lv_at hl 0 rfl) ?_
  refine lv_iconst (v := 1) hx hb dX12_putsAs_41 (of_decide_eq_true rfl) ?_
  refine jcallVv (As := [.int 1]) (rest := []) ⟨hx, hb, hml, hown, hts⟩ hK hP hA hS hZ (c_X12_begins_1_1 l D cI cL ad zz hJ σ τ h55_55) cw_RX12_379 (jc_55 cI cL ad σ τ) rfl ⟨Nat.le_of_ble_eq_true rfl, Nat.le_of_ble_eq_true rfl⟩ rfl rfl rfl hl.1 rfl (Nat.le_of_ble_eq_true rfl) dX12_putsAs_42 ⟨Nat.zero_le _, Nat.zero_le _⟩ (fun σ1 τ1 H locs h1 hP hS => ?_)
  obtain ⟨rfl, f3, f4, f5, m6, m7, h1⟩ := h1
  refine lv_iload_n hx hb dX12_putsAs_45 rfl (lv_at hl 2 rfl) ?_
  refine lv_aload_n hx hb dX12_putsAs_46 rfl (lv_at hl 0 rfl) ?_
  refine va_get (D := D) hx hb hts inlX12 hown hK hP 55 (jc_55 cI cL ad σ1 τ) rfl 57 (of_decide_eq_true rfl) (hts _ kw_49_9) (fun _ h9 => h9) rfl dX12_putsAs_47 ?_
  have m9 : σ1 55 57 = (σ 55 57) := (f4 57 (of_decide_eq_true rfl))
  refine jtopr m9 ?_
  have g10 := jrg (rfl : (σ 55 57).toInt = (σ 55 57).toInt)
  refine lv_iadd hx hb dX12_putsAs_50 ?_
  refine lv_topi (fun x11 ex11 => ?_)
  have gx11 := jrg (rfl : x11.toInt = x11.toInt)
  exact hret x11 σ1 τ _ _ _ _ rfl ⟨rfl, (fun i hi => (f3 i hi)), (fun i hi => (f4 i hi)), (fun i hi => (f5 i hi)), m6, m7, ⟨(by rw [ex11]), trivial⟩⟩ hP hS dX12_putsAs_51
set_option maxHeartbeats 4000000 in
set_option maxRecDepth 100000 in
theorem c_X12_holdsAs_0_0_0 (l : Launch) (D : va_G) (cI cL : ClassId) (ad zz : Nat → Nat) (hJ : jD ad) (σ : Nat → Nat → Int32) (τ : Nat → Nat → Int64) (a2 : Int32) (A2 : Int) (t2 : a2.toInt = A2) (h55_55 : σ 55 55 = 0) (hp0 : (σ 55 56).toInt = 0) : jM l yX12_holdsAs cX12_holdsAs 4 (some .int) ({ frames := 2, cells := 0, slots := 0, locals := 43 }) D cI cL ad zz [.ref (ad 55), .int 0, .int a2] σ τ (fun r σ' τ' => τ = τ' ∧ (∀ i : Nat, (i < 55 ∨ 55 < i) ∧ (i < 85 ∨ 85 < i) → σ' i = σ i) ∧ (∀ k : Nat, (k < 55 ∨ 55 < k) → σ' 55 k = σ 55 k) ∧ (∀ k : Nat, (k < 0 ∨ 0 < k) ∧ (k < 1 ∨ 1 < k) → σ' 85 k = σ 85 k) ∧ (σ' 55 55 = 2) ∧ (σ' 85 0 = 10) ∧ (σ' 85 1 = 1) ∧ ((r = ((a2 + (σ 55 57)) * 2) ∧ True))) := by
  refine jM.of hJ (by decide +kernel) (nt := .int) rfl (Nat.le_of_ble_eq_true rfl) ?_
  intro p e s m args below meth c Q ls hC hret hl hP
  obtain ⟨hx, hb, hr, hml, hown, hts, hK, -, hlocks, hZ⟩ := hC
  have hown : s.vm.findClass RX12 = some m.cls := hown
  have hS : va_S (jA ad) s.heap s.heap [] := va_S.rf
  have hA : ∀ q, jA ad q → jA ad q := fun _ h => h
  have hl : lv_has ls 4 [(0, .ref (ad 55)), (1, .int 0), (2, .int a2)] := hl
  have g2 := jrg t2
  refine lv_iload_n hx hb dX12_holdsAs_0 rfl (lv_at hl 1 rfl) ?_
  refine lv_iconst (v := 3) hx hb dX12_holdsAs_1 (of_decide_eq_true rfl) ?_
  refine lv_icmp_eq (tgt := 10) hx hb dX12_holdsAs_2 (of_decide_eq_true rfl) (fun c => absurd c (of_decide_eq_true rfl)) (fun _ => ?_)
  refine lv_iload_n hx hb dX12_holdsAs_5 rfl (lv_at hl 1 rfl) ?_
  refine lv_iconst (v := 5) hx hb dX12_holdsAs_6 (of_decide_eq_true rfl) ?_
  refine lv_icmp_ne (tgt := 24) hx hb dX12_holdsAs_7 (of_decide_eq_true rfl) (fun _ => ?_) (fun c => absurd c (of_decide_eq_true rfl))
  refine lv_iload_n hx hb dX12_holdsAs_24 rfl (lv_at hl 1 rfl) ?_
  refine lv_bipush (v := 6) hx hb dX12_holdsAs_25 (of_decide_eq_true rfl) ?_
  refine lv_icmp_ne (tgt := 55) hx hb dX12_holdsAs_27 (of_decide_eq_true rfl) (fun _ => ?_) (fun c => absurd c (of_decide_eq_true rfl))
  refine lv_aload_n hx hb dX12_holdsAs_55 rfl (lv_at hl 0 rfl) ?_
  refine lv_bipush (v := 10) hx hb dX12_holdsAs_56 (of_decide_eq_true rfl) ?_
  refine jcallVv (As := [.int 10]) (rest := []) ⟨hx, hb, hml, hown, hts⟩ hK hP hA hS hZ (c_X12_begins_10_0 l D cI cL ad zz hJ σ τ h55_55) cw_RX12_379 (jc_55 cI cL ad σ τ) rfl ⟨Nat.le_of_ble_eq_true rfl, Nat.le_of_ble_eq_true rfl⟩ rfl rfl rfl hl.1 rfl (Nat.le_of_ble_eq_true rfl) dX12_holdsAs_58 ⟨Nat.zero_le _, Nat.zero_le _⟩ (fun σ1 τ1 H locs h1 hP hS => ?_)
  obtain ⟨rfl, f3, f4, f5, m6, m7, h1⟩ := h1
  refine lv_aload_n hx hb dX12_holdsAs_61 rfl (lv_at hl 0 rfl) ?_
  refine lv_aload_n hx hb dX12_holdsAs_62 rfl (lv_at hl 0 rfl) ?_
  refine va_get (D := D) hx hb hts inlX12 hown hK hP 55 (jc_55 cI cL ad σ1 τ) rfl 56 (of_decide_eq_true rfl) (hts _ kw_49_8) (fun _ h9 => h9) rfl dX12_holdsAs_63 ?_
  have m9 : σ1 55 56 = (σ 55 56) := (f4 56 (of_decide_eq_true rfl))
  refine jtopr m9 ?_
  exact by
   refine jtopr (jsame (rfl : (σ 55 56).toInt = (σ 55 56).toInt) jz_0 (by omega)) ?_
   refine lv_iload_n hx hb dX12_holdsAs_66 rfl (lv_at hl 2 rfl) ?_
   have z10 : (σ1 55 56).toInt = (σ 55 56).toInt := (congrArg Int32.toInt (show σ1 55 56 = (σ 55 56) from m9))
   refine jcallV (As := [.int 0, .int a2]) (rest := []) ⟨hx, hb, hml, hown, hts⟩ hK hP hA hS hZ (c_X12_putsAs_0_0_1 l D cI cL ad zz hJ σ1 τ a2 (A2) t2 m6 (by omega)) cw_RX12_382 (jc_55 cI cL ad σ1 τ) rfl ⟨Nat.le_of_ble_eq_true rfl, Nat.le_of_ble_eq_true rfl⟩ rfl rfl rfl hl.1 rfl (Nat.le_of_ble_eq_true rfl) dX12_holdsAs_67 ⟨Nat.zero_le _, Nat.zero_le _⟩ (fun r12 σ11 τ11 H locs h11 hP hS => ?_)
   obtain ⟨rfl, f13, f14, f15, m16, m17, h11⟩ := h11
   have h19 := h11
   obtain ⟨q21, k20⟩ := h19
   have q21 := q21.symm
   subst q21
   exact by
    refine lv_iconst (v := 2) hx hb dX12_holdsAs_70 (of_decide_eq_true rfl) ?_
    have g22 := jrg (rfl : (a2 + (σ1 55 57)).toInt = (a2 + (σ1 55 57)).toInt)
    refine lv_imul hx hb dX12_holdsAs_71 ?_
    refine lv_topi (fun x23 ex23 => ?_)
    have gx23 := jrg (rfl : x23.toInt = x23.toInt)
    have m24 : σ11 85 0 = 10 := ((f15 0 (of_decide_eq_true rfl)).trans m7)
    exact hret x23 σ11 τ _ _ _ _ rfl ⟨rfl, (fun i hi => ((f13 i hi).trans (f3 i hi))), (fun i hi => ((f14 i hi).trans (f4 i hi))), (fun i hi => ((f15 i (imp_307 i hi)).trans (f5 i (imp_352 i hi)))), m16, m24, m17, ⟨(by rw [ex23, (show σ1 55 57 = σ 55 57 from (f4 57 (of_decide_eq_true rfl)))]), trivial⟩⟩ hP hS dX12_holdsAs_72
set_option maxHeartbeats 4000000 in
set_option maxRecDepth 100000 in
theorem c_X12_begins_11_0 (l : Launch) (D : va_G) (cI cL : ClassId) (ad zz : Nat → Nat) (hJ : jD ad) (σ : Nat → Nat → Int32) (τ : Nat → Nat → Int64) (h55_55 : σ 55 55 = 0) : jMv l yX12_begins cX12_begins 2 none ({ frames := 0, cells := 0, slots := 0, locals := 0 }) D cI cL ad zz [.ref (ad 55), .int 11] σ τ (fun σ' τ' => τ = τ' ∧ (∀ i : Nat, (i < 55 ∨ 55 < i) ∧ (i < 85 ∨ 85 < i) → σ' i = σ i) ∧ (∀ k : Nat, (k < 55 ∨ 55 < k) → σ' 55 k = σ 55 k) ∧ (∀ k : Nat, (k < 0 ∨ 0 < k) → σ' 85 k = σ 85 k) ∧ (σ' 55 55 = 1) ∧ (σ' 85 0 = 11) ∧ True) := by
  refine jMv.of hJ (by decide +kernel) rfl (Nat.le_of_ble_eq_true rfl) ?_
  intro p e s m args below meth c Q ls hC hret hl hP
  obtain ⟨hx, hb, hr, hml, hown, hts, hK, -, hlocks, hZ⟩ := hC
  have hown : s.vm.findClass RX12 = some m.cls := hown
  have hS : va_S (jA ad) s.heap s.heap [] := va_S.rf
  have hA : ∀ q, jA ad q → jA ad q := fun _ h => h
  have hl : lv_has ls 2 [(0, .ref (ad 55)), (1, .int 11)] := hl
  refine lv_aload_n hx hb dX12_begins_0 rfl (lv_at hl 0 rfl) ?_
  refine va_get (D := D) hx hb hts inlX12 hown hK hP 55 (jc_55 cI cL ad σ τ) rfl 55 (of_decide_eq_true rfl) (hts _ kw_49_7) (fun _ h9 => h9) rfl dX12_begins_1 ?_
  refine jtopr h55_55 ?_
  refine lv_bipush (v := 24) hx hb dX12_begins_4 (of_decide_eq_true rfl) ?_
  refine lv_icmp_ge (tgt := 19) hx hb dX12_begins_6 (of_decide_eq_true rfl) (fun c => absurd c (of_decide_eq_true rfl)) (fun _ => ?_)
  refine lv_aload_n hx hb dX12_begins_9 rfl (lv_at hl 0 rfl) ?_
  refine va_get (D := D) hx hb hts inlX12 hown hK hP 55 (jc_55 cI cL ad σ τ) rfl 54 (of_decide_eq_true rfl) (hts _ kw_8_10) (fun _ h9 => h9) rfl dX12_begins_10 ?_
  refine lv_aload_n hx hb dX12_begins_13 rfl (lv_at hl 0 rfl) ?_
  refine va_get (D := D) hx hb hts inlX12 hown hK hP 55 (jc_55 cI cL ad σ τ) rfl 55 (of_decide_eq_true rfl) (hts _ kw_49_7) (fun _ h9 => h9) rfl dX12_begins_14 ?_
  refine jtopr h55_55 ?_
  refine lv_iload_n hx hb dX12_begins_17 rfl (lv_at hl 1 rfl) ?_
  exact by
   refine jast hx hb hK hP hJ hA hS (jc_85 cI cL ad σ τ) (ja_85 cI cL ad σ τ _ _) (jin jz_0 (by omega) (by omega)) dX12_begins_18 (fun σ1 H locs eσ1 hP hS => ?_)
   have eσ1 : σ1 = jup σ 85 0 11 := eσ1
   refine lv_aload_n hx hb dX12_begins_19 rfl (lv_at hl 0 rfl) ?_
   refine lv_dup hx hb dX12_begins_20 rfl ?_
   refine va_get (D := D) hx hb hts inlX12 hown hK hP 55 (jc_55 cI cL ad σ1 τ) rfl 55 (of_decide_eq_true rfl) (hts _ kw_49_7) (fun _ h9 => h9) rfl dX12_begins_21 ?_
   have m2 : σ1 55 55 = 0 := ((congrFun (jnp 55 eσ1 (of_decide_eq_true rfl)) 55).trans h55_55)
   refine jtopr m2 ?_
   refine lv_iconst (v := 1) hx hb dX12_begins_24 (of_decide_eq_true rfl) ?_
   refine lv_iadd hx hb dX12_begins_25 ?_
   refine jtopr (y := 1) (of_decide_eq_true rfl) ?_
   refine jput (ty := .int) hx hb hts inlX12 tyX12 tyX12_ok nmX12 hown hK hP hJ hA hS (jc_55 cI cL ad σ1 τ) rfl (k := 55) (of_decide_eq_true rfl) (Nat.le_of_ble_eq_true rfl) (jp_55_55 cI cL ad σ1 τ 1) (hts _ kw_49_7) (fun _ h9 => h9) rfl (by decide +kernel) rfl rfl dX12_begins_26 (fun σ3 H locs eσ3 hP hS => ?_)
   have m4 : σ3 55 55 = 1 := (jsp eσ3)
   have m5 : σ3 85 0 = 11 := ((congrFun (jnp 85 eσ3 (of_decide_eq_true rfl)) 0).trans (jsp eσ1))
   exact hret σ3 τ _ _ _ _ ⟨rfl, (fun i hi => ((jnp i eσ3 (imp_350 i hi)).trans (jnp i eσ1 (imp_351 i hi)))), (fun i hi => ((jkp i eσ3 (imp_165 i hi)).trans (congrFun (jnp 55 eσ1 (of_decide_eq_true rfl)) i))), (fun i hi => ((congrFun (jnp 85 eσ3 (of_decide_eq_true rfl)) i).trans (jkp i eσ1 (imp_4 i hi)))), m4, m5, trivial⟩ hP hS dX12_begins_29
set_option maxHeartbeats 4000000 in
set_option maxRecDepth 100000 in
theorem c_X12_givesAs_0_0_0 (l : Launch) (D : va_G) (cI cL : ClassId) (ad zz : Nat → Nat) (hJ : jD ad) (σ : Nat → Nat → Int32) (τ : Nat → Nat → Int64) (a2 : Int32) (A2 : Int) (t2 : a2.toInt = A2) (h55_55 : σ 55 55 = 0) (hp0 : (σ 55 56).toInt = 0) : jM l yX12_givesAs cX12_givesAs 4 (some .int) ({ frames := 1, cells := 0, slots := 0, locals := 21 }) D cI cL ad zz [.ref (ad 55), .int 0, .int a2] σ τ (fun r σ' τ' => τ = τ' ∧ (∀ i : Nat, (i < 55 ∨ 55 < i) ∧ (i < 85 ∨ 85 < i) → σ' i = σ i) ∧ (∀ k : Nat, (k < 55 ∨ 55 < k) → σ' 55 k = σ 55 k) ∧ (∀ k : Nat, (k < 0 ∨ 0 < k) → σ' 85 k = σ 85 k) ∧ (σ' 55 55 = 1) ∧ (σ' 85 0 = 11) ∧ ((r = (a2 ^^^ (σ 55 57)) ∧ True))) := by
  refine jM.of hJ (by decide +kernel) (nt := .int) rfl (Nat.le_of_ble_eq_true rfl) ?_
  intro p e s m args below meth c Q ls hC hret hl hP
  obtain ⟨hx, hb, hr, hml, hown, hts, hK, -, hlocks, hZ⟩ := hC
  have hown : s.vm.findClass RX12 = some m.cls := hown
  have hS : va_S (jA ad) s.heap s.heap [] := va_S.rf
  have hA : ∀ q, jA ad q → jA ad q := fun _ h => h
  have hl : lv_has ls 4 [(0, .ref (ad 55)), (1, .int 0), (2, .int a2)] := hl
  have g2 := jrg t2
  refine lv_iload_n hx hb dX12_givesAs_0 rfl (lv_at hl 1 rfl) ?_
  refine lv_iconst (v := 5) hx hb dX12_givesAs_1 (of_decide_eq_true rfl) ?_
  refine lv_icmp_ne (tgt := 30) hx hb dX12_givesAs_2 (of_decide_eq_true rfl) (fun _ => ?_) (fun c => absurd c (of_decide_eq_true rfl))
  refine lv_iload_n hx hb dX12_givesAs_30 rfl (lv_at hl 1 rfl) ?_
  refine lv_iconst (v := 2) hx hb dX12_givesAs_31 (of_decide_eq_true rfl) ?_
  refine lv_icmp_eq (tgt := 40) hx hb dX12_givesAs_32 (of_decide_eq_true rfl) (fun c => absurd c (of_decide_eq_true rfl)) (fun _ => ?_)
  refine lv_iload_n hx hb dX12_givesAs_35 rfl (lv_at hl 1 rfl) ?_
  refine lv_iconst (v := 3) hx hb dX12_givesAs_36 (of_decide_eq_true rfl) ?_
  refine lv_icmp_ne (tgt := 55) hx hb dX12_givesAs_37 (of_decide_eq_true rfl) (fun _ => ?_) (fun c => absurd c (of_decide_eq_true rfl))
  refine lv_aload_n hx hb dX12_givesAs_55 rfl (lv_at hl 0 rfl) ?_
  refine lv_bipush (v := 11) hx hb dX12_givesAs_56 (of_decide_eq_true rfl) ?_
  refine jcallVv (As := [.int 11]) (rest := []) ⟨hx, hb, hml, hown, hts⟩ hK hP hA hS hZ (c_X12_begins_11_0 l D cI cL ad zz hJ σ τ h55_55) cw_RX12_379 (jc_55 cI cL ad σ τ) rfl ⟨Nat.le_of_ble_eq_true rfl, Nat.le_of_ble_eq_true rfl⟩ rfl rfl rfl hl.1 rfl (Nat.le_of_ble_eq_true rfl) dX12_givesAs_58 ⟨Nat.zero_le _, Nat.zero_le _⟩ (fun σ1 τ1 H locs h1 hP hS => ?_)
  obtain ⟨rfl, f3, f4, f5, m6, m7, h1⟩ := h1
  refine lv_iload_n hx hb dX12_givesAs_61 rfl (lv_at hl 2 rfl) ?_
  refine lv_aload_n hx hb dX12_givesAs_62 rfl (lv_at hl 0 rfl) ?_
  refine va_get (D := D) hx hb hts inlX12 hown hK hP 55 (jc_55 cI cL ad σ1 τ) rfl 57 (of_decide_eq_true rfl) (hts _ kw_49_9) (fun _ h9 => h9) rfl dX12_givesAs_63 ?_
  have m9 : σ1 55 57 = (σ 55 57) := (f4 57 (of_decide_eq_true rfl))
  refine jtopr m9 ?_
  refine lv_ixor hx hb dX12_givesAs_66 ?_
  refine lv_topi (fun x10 ex10 => ?_)
  have gx10 := jrg (rfl : x10.toInt = x10.toInt)
  exact hret x10 σ1 τ _ _ _ _ rfl ⟨rfl, (fun i hi => (f3 i hi)), (fun i hi => (f4 i hi)), (fun i hi => (f5 i hi)), m6, m7, ⟨(by rw [ex10]), trivial⟩⟩ hP hS dX12_givesAs_67
set_option maxHeartbeats 4000000 in
set_option maxRecDepth 100000 in
theorem c_X12_begins_2_0 (l : Launch) (D : va_G) (cI cL : ClassId) (ad zz : Nat → Nat) (hJ : jD ad) (σ : Nat → Nat → Int32) (τ : Nat → Nat → Int64) (h55_55 : σ 55 55 = 0) : jMv l yX12_begins cX12_begins 2 none ({ frames := 0, cells := 0, slots := 0, locals := 0 }) D cI cL ad zz [.ref (ad 55), .int 2] σ τ (fun σ' τ' => τ = τ' ∧ (∀ i : Nat, (i < 55 ∨ 55 < i) ∧ (i < 85 ∨ 85 < i) → σ' i = σ i) ∧ (∀ k : Nat, (k < 55 ∨ 55 < k) → σ' 55 k = σ 55 k) ∧ (∀ k : Nat, (k < 0 ∨ 0 < k) → σ' 85 k = σ 85 k) ∧ (σ' 55 55 = 1) ∧ (σ' 85 0 = 2) ∧ True) := by
  refine jMv.of hJ (by decide +kernel) rfl (Nat.le_of_ble_eq_true rfl) ?_
  intro p e s m args below meth c Q ls hC hret hl hP
  obtain ⟨hx, hb, hr, hml, hown, hts, hK, -, hlocks, hZ⟩ := hC
  have hown : s.vm.findClass RX12 = some m.cls := hown
  have hS : va_S (jA ad) s.heap s.heap [] := va_S.rf
  have hA : ∀ q, jA ad q → jA ad q := fun _ h => h
  have hl : lv_has ls 2 [(0, .ref (ad 55)), (1, .int 2)] := hl
  refine lv_aload_n hx hb dX12_begins_0 rfl (lv_at hl 0 rfl) ?_
  refine va_get (D := D) hx hb hts inlX12 hown hK hP 55 (jc_55 cI cL ad σ τ) rfl 55 (of_decide_eq_true rfl) (hts _ kw_49_7) (fun _ h9 => h9) rfl dX12_begins_1 ?_
  refine jtopr h55_55 ?_
  refine lv_bipush (v := 24) hx hb dX12_begins_4 (of_decide_eq_true rfl) ?_
  refine lv_icmp_ge (tgt := 19) hx hb dX12_begins_6 (of_decide_eq_true rfl) (fun c => absurd c (of_decide_eq_true rfl)) (fun _ => ?_)
  refine lv_aload_n hx hb dX12_begins_9 rfl (lv_at hl 0 rfl) ?_
  refine va_get (D := D) hx hb hts inlX12 hown hK hP 55 (jc_55 cI cL ad σ τ) rfl 54 (of_decide_eq_true rfl) (hts _ kw_8_10) (fun _ h9 => h9) rfl dX12_begins_10 ?_
  refine lv_aload_n hx hb dX12_begins_13 rfl (lv_at hl 0 rfl) ?_
  refine va_get (D := D) hx hb hts inlX12 hown hK hP 55 (jc_55 cI cL ad σ τ) rfl 55 (of_decide_eq_true rfl) (hts _ kw_49_7) (fun _ h9 => h9) rfl dX12_begins_14 ?_
  refine jtopr h55_55 ?_
  refine lv_iload_n hx hb dX12_begins_17 rfl (lv_at hl 1 rfl) ?_
  exact by
   refine jast hx hb hK hP hJ hA hS (jc_85 cI cL ad σ τ) (ja_85 cI cL ad σ τ _ _) (jin jz_0 (by omega) (by omega)) dX12_begins_18 (fun σ1 H locs eσ1 hP hS => ?_)
   have eσ1 : σ1 = jup σ 85 0 2 := eσ1
   refine lv_aload_n hx hb dX12_begins_19 rfl (lv_at hl 0 rfl) ?_
   refine lv_dup hx hb dX12_begins_20 rfl ?_
   refine va_get (D := D) hx hb hts inlX12 hown hK hP 55 (jc_55 cI cL ad σ1 τ) rfl 55 (of_decide_eq_true rfl) (hts _ kw_49_7) (fun _ h9 => h9) rfl dX12_begins_21 ?_
   have m2 : σ1 55 55 = 0 := ((congrFun (jnp 55 eσ1 (of_decide_eq_true rfl)) 55).trans h55_55)
   refine jtopr m2 ?_
   refine lv_iconst (v := 1) hx hb dX12_begins_24 (of_decide_eq_true rfl) ?_
   refine lv_iadd hx hb dX12_begins_25 ?_
   refine jtopr (y := 1) (of_decide_eq_true rfl) ?_
   refine jput (ty := .int) hx hb hts inlX12 tyX12 tyX12_ok nmX12 hown hK hP hJ hA hS (jc_55 cI cL ad σ1 τ) rfl (k := 55) (of_decide_eq_true rfl) (Nat.le_of_ble_eq_true rfl) (jp_55_55 cI cL ad σ1 τ 1) (hts _ kw_49_7) (fun _ h9 => h9) rfl (by decide +kernel) rfl rfl dX12_begins_26 (fun σ3 H locs eσ3 hP hS => ?_)
   have m4 : σ3 55 55 = 1 := (jsp eσ3)
   have m5 : σ3 85 0 = 2 := ((congrFun (jnp 85 eσ3 (of_decide_eq_true rfl)) 0).trans (jsp eσ1))
   exact hret σ3 τ _ _ _ _ ⟨rfl, (fun i hi => ((jnp i eσ3 (imp_350 i hi)).trans (jnp i eσ1 (imp_351 i hi)))), (fun i hi => ((jkp i eσ3 (imp_165 i hi)).trans (congrFun (jnp 55 eσ1 (of_decide_eq_true rfl)) i))), (fun i hi => ((congrFun (jnp 85 eσ3 (of_decide_eq_true rfl)) i).trans (jkp i eσ1 (imp_4 i hi)))), m4, m5, trivial⟩ hP hS dX12_begins_29
set_option maxHeartbeats 4000000 in
set_option maxRecDepth 100000 in
theorem c_X12_begins_10_1 (l : Launch) (D : va_G) (cI cL : ClassId) (ad zz : Nat → Nat) (hJ : jD ad) (σ : Nat → Nat → Int32) (τ : Nat → Nat → Int64) (h55_55 : σ 55 55 = 1) : jMv l yX12_begins cX12_begins 2 none ({ frames := 0, cells := 0, slots := 0, locals := 0 }) D cI cL ad zz [.ref (ad 55), .int 10] σ τ (fun σ' τ' => τ = τ' ∧ (∀ i : Nat, (i < 55 ∨ 55 < i) ∧ (i < 85 ∨ 85 < i) → σ' i = σ i) ∧ (∀ k : Nat, (k < 55 ∨ 55 < k) → σ' 55 k = σ 55 k) ∧ (∀ k : Nat, (k < 1 ∨ 1 < k) → σ' 85 k = σ 85 k) ∧ (σ' 55 55 = 2) ∧ (σ' 85 1 = 10) ∧ True) := by
  refine jMv.of hJ (by decide +kernel) rfl (Nat.le_of_ble_eq_true rfl) ?_
  intro p e s m args below meth c Q ls hC hret hl hP
  obtain ⟨hx, hb, hr, hml, hown, hts, hK, -, hlocks, hZ⟩ := hC
  have hown : s.vm.findClass RX12 = some m.cls := hown
  have hS : va_S (jA ad) s.heap s.heap [] := va_S.rf
  have hA : ∀ q, jA ad q → jA ad q := fun _ h => h
  have hl : lv_has ls 2 [(0, .ref (ad 55)), (1, .int 10)] := hl
  refine lv_aload_n hx hb dX12_begins_0 rfl (lv_at hl 0 rfl) ?_
  refine va_get (D := D) hx hb hts inlX12 hown hK hP 55 (jc_55 cI cL ad σ τ) rfl 55 (of_decide_eq_true rfl) (hts _ kw_49_7) (fun _ h9 => h9) rfl dX12_begins_1 ?_
  refine jtopr h55_55 ?_
  refine lv_bipush (v := 24) hx hb dX12_begins_4 (of_decide_eq_true rfl) ?_
  refine lv_icmp_ge (tgt := 19) hx hb dX12_begins_6 (of_decide_eq_true rfl) (fun c => absurd c (of_decide_eq_true rfl)) (fun _ => ?_)
  refine lv_aload_n hx hb dX12_begins_9 rfl (lv_at hl 0 rfl) ?_
  refine va_get (D := D) hx hb hts inlX12 hown hK hP 55 (jc_55 cI cL ad σ τ) rfl 54 (of_decide_eq_true rfl) (hts _ kw_8_10) (fun _ h9 => h9) rfl dX12_begins_10 ?_
  refine lv_aload_n hx hb dX12_begins_13 rfl (lv_at hl 0 rfl) ?_
  refine va_get (D := D) hx hb hts inlX12 hown hK hP 55 (jc_55 cI cL ad σ τ) rfl 55 (of_decide_eq_true rfl) (hts _ kw_49_7) (fun _ h9 => h9) rfl dX12_begins_14 ?_
  refine jtopr h55_55 ?_
  refine lv_iload_n hx hb dX12_begins_17 rfl (lv_at hl 1 rfl) ?_
  exact by
   refine jast hx hb hK hP hJ hA hS (jc_85 cI cL ad σ τ) (ja_85 cI cL ad σ τ _ _) (jin jz_1 (by omega) (by omega)) dX12_begins_18 (fun σ1 H locs eσ1 hP hS => ?_)
   have eσ1 : σ1 = jup σ 85 1 10 := eσ1
   refine lv_aload_n hx hb dX12_begins_19 rfl (lv_at hl 0 rfl) ?_
   refine lv_dup hx hb dX12_begins_20 rfl ?_
   refine va_get (D := D) hx hb hts inlX12 hown hK hP 55 (jc_55 cI cL ad σ1 τ) rfl 55 (of_decide_eq_true rfl) (hts _ kw_49_7) (fun _ h9 => h9) rfl dX12_begins_21 ?_
   have m2 : σ1 55 55 = 1 := ((congrFun (jnp 55 eσ1 (of_decide_eq_true rfl)) 55).trans h55_55)
   refine jtopr m2 ?_
   refine lv_iconst (v := 1) hx hb dX12_begins_24 (of_decide_eq_true rfl) ?_
   refine lv_iadd hx hb dX12_begins_25 ?_
   refine jtopr (y := 2) (of_decide_eq_true rfl) ?_
   refine jput (ty := .int) hx hb hts inlX12 tyX12 tyX12_ok nmX12 hown hK hP hJ hA hS (jc_55 cI cL ad σ1 τ) rfl (k := 55) (of_decide_eq_true rfl) (Nat.le_of_ble_eq_true rfl) (jp_55_55 cI cL ad σ1 τ 2) (hts _ kw_49_7) (fun _ h9 => h9) rfl (by decide +kernel) rfl rfl dX12_begins_26 (fun σ3 H locs eσ3 hP hS => ?_)
   have m4 : σ3 55 55 = 2 := (jsp eσ3)
   have m5 : σ3 85 1 = 10 := ((congrFun (jnp 85 eσ3 (of_decide_eq_true rfl)) 1).trans (jsp eσ1))
   exact hret σ3 τ _ _ _ _ ⟨rfl, (fun i hi => ((jnp i eσ3 (imp_350 i hi)).trans (jnp i eσ1 (imp_351 i hi)))), (fun i hi => ((jkp i eσ3 (imp_165 i hi)).trans (congrFun (jnp 55 eσ1 (of_decide_eq_true rfl)) i))), (fun i hi => ((congrFun (jnp 85 eσ3 (of_decide_eq_true rfl)) i).trans (jkp i eσ1 (imp_42 i hi)))), m4, m5, trivial⟩ hP hS dX12_begins_29
set_option maxHeartbeats 4000000 in
set_option maxRecDepth 100000 in
theorem c_X12_begins_1_2 (l : Launch) (D : va_G) (cI cL : ClassId) (ad zz : Nat → Nat) (hJ : jD ad) (σ : Nat → Nat → Int32) (τ : Nat → Nat → Int64) (h55_55 : σ 55 55 = 2) : jMv l yX12_begins cX12_begins 2 none ({ frames := 0, cells := 0, slots := 0, locals := 0 }) D cI cL ad zz [.ref (ad 55), .int 1] σ τ (fun σ' τ' => τ = τ' ∧ (∀ i : Nat, (i < 55 ∨ 55 < i) ∧ (i < 85 ∨ 85 < i) → σ' i = σ i) ∧ (∀ k : Nat, (k < 55 ∨ 55 < k) → σ' 55 k = σ 55 k) ∧ (∀ k : Nat, (k < 2 ∨ 2 < k) → σ' 85 k = σ 85 k) ∧ (σ' 55 55 = 3) ∧ (σ' 85 2 = 1) ∧ True) := by
  refine jMv.of hJ (by decide +kernel) rfl (Nat.le_of_ble_eq_true rfl) ?_
  intro p e s m args below meth c Q ls hC hret hl hP
  obtain ⟨hx, hb, hr, hml, hown, hts, hK, -, hlocks, hZ⟩ := hC
  have hown : s.vm.findClass RX12 = some m.cls := hown
  have hS : va_S (jA ad) s.heap s.heap [] := va_S.rf
  have hA : ∀ q, jA ad q → jA ad q := fun _ h => h
  have hl : lv_has ls 2 [(0, .ref (ad 55)), (1, .int 1)] := hl
  refine lv_aload_n hx hb dX12_begins_0 rfl (lv_at hl 0 rfl) ?_
  refine va_get (D := D) hx hb hts inlX12 hown hK hP 55 (jc_55 cI cL ad σ τ) rfl 55 (of_decide_eq_true rfl) (hts _ kw_49_7) (fun _ h9 => h9) rfl dX12_begins_1 ?_
  refine jtopr h55_55 ?_
  refine lv_bipush (v := 24) hx hb dX12_begins_4 (of_decide_eq_true rfl) ?_
  refine lv_icmp_ge (tgt := 19) hx hb dX12_begins_6 (of_decide_eq_true rfl) (fun c => absurd c (of_decide_eq_true rfl)) (fun _ => ?_)
  refine lv_aload_n hx hb dX12_begins_9 rfl (lv_at hl 0 rfl) ?_
  refine va_get (D := D) hx hb hts inlX12 hown hK hP 55 (jc_55 cI cL ad σ τ) rfl 54 (of_decide_eq_true rfl) (hts _ kw_8_10) (fun _ h9 => h9) rfl dX12_begins_10 ?_
  refine lv_aload_n hx hb dX12_begins_13 rfl (lv_at hl 0 rfl) ?_
  refine va_get (D := D) hx hb hts inlX12 hown hK hP 55 (jc_55 cI cL ad σ τ) rfl 55 (of_decide_eq_true rfl) (hts _ kw_49_7) (fun _ h9 => h9) rfl dX12_begins_14 ?_
  refine jtopr h55_55 ?_
  refine lv_iload_n hx hb dX12_begins_17 rfl (lv_at hl 1 rfl) ?_
  exact by
   refine jast hx hb hK hP hJ hA hS (jc_85 cI cL ad σ τ) (ja_85 cI cL ad σ τ _ _) (jin jz_2 (by omega) (by omega)) dX12_begins_18 (fun σ1 H locs eσ1 hP hS => ?_)
   have eσ1 : σ1 = jup σ 85 2 1 := eσ1
   refine lv_aload_n hx hb dX12_begins_19 rfl (lv_at hl 0 rfl) ?_
   refine lv_dup hx hb dX12_begins_20 rfl ?_
   refine va_get (D := D) hx hb hts inlX12 hown hK hP 55 (jc_55 cI cL ad σ1 τ) rfl 55 (of_decide_eq_true rfl) (hts _ kw_49_7) (fun _ h9 => h9) rfl dX12_begins_21 ?_
   have m2 : σ1 55 55 = 2 := ((congrFun (jnp 55 eσ1 (of_decide_eq_true rfl)) 55).trans h55_55)
   refine jtopr m2 ?_
   refine lv_iconst (v := 1) hx hb dX12_begins_24 (of_decide_eq_true rfl) ?_
   refine lv_iadd hx hb dX12_begins_25 ?_
   refine jtopr (y := 3) (of_decide_eq_true rfl) ?_
   refine jput (ty := .int) hx hb hts inlX12 tyX12 tyX12_ok nmX12 hown hK hP hJ hA hS (jc_55 cI cL ad σ1 τ) rfl (k := 55) (of_decide_eq_true rfl) (Nat.le_of_ble_eq_true rfl) (jp_55_55 cI cL ad σ1 τ 3) (hts _ kw_49_7) (fun _ h9 => h9) rfl (by decide +kernel) rfl rfl dX12_begins_26 (fun σ3 H locs eσ3 hP hS => ?_)
   have m4 : σ3 55 55 = 3 := (jsp eσ3)
   have m5 : σ3 85 2 = 1 := ((congrFun (jnp 85 eσ3 (of_decide_eq_true rfl)) 2).trans (jsp eσ1))
   exact hret σ3 τ _ _ _ _ ⟨rfl, (fun i hi => ((jnp i eσ3 (imp_350 i hi)).trans (jnp i eσ1 (imp_351 i hi)))), (fun i hi => ((jkp i eσ3 (imp_165 i hi)).trans (congrFun (jnp 55 eσ1 (of_decide_eq_true rfl)) i))), (fun i hi => ((congrFun (jnp 85 eσ3 (of_decide_eq_true rfl)) i).trans (jkp i eσ1 (imp_7 i hi)))), m4, m5, trivial⟩ hP hS dX12_begins_29
set_option maxHeartbeats 4000000 in
set_option maxRecDepth 100000 in
theorem c_X12_putsAs_0_0_2 (l : Launch) (D : va_G) (cI cL : ClassId) (ad zz : Nat → Nat) (hJ : jD ad) (σ : Nat → Nat → Int32) (τ : Nat → Nat → Int64) (a2 : Int32) (A2 : Int) (t2 : a2.toInt = A2) (h55_55 : σ 55 55 = 2) (hp0 : (σ 55 56).toInt = 0) : jM l yX12_putsAs cX12_putsAs 3 (some .int) ({ frames := 1, cells := 0, slots := 0, locals := 21 }) D cI cL ad zz [.ref (ad 55), .int 0, .int a2] σ τ (fun r σ' τ' => τ = τ' ∧ (∀ i : Nat, (i < 55 ∨ 55 < i) ∧ (i < 85 ∨ 85 < i) → σ' i = σ i) ∧ (∀ k : Nat, (k < 55 ∨ 55 < k) → σ' 55 k = σ 55 k) ∧ (∀ k : Nat, (k < 2 ∨ 2 < k) → σ' 85 k = σ 85 k) ∧ (σ' 55 55 = 3) ∧ (σ' 85 2 = 1) ∧ ((r = (a2 + (σ 55 57)) ∧ True))) := by
  refine jM.of hJ (by decide +kernel) (nt := .int) rfl (Nat.le_of_ble_eq_true rfl) ?_
  intro p e s m args below meth c Q ls hC hret hl hP
  obtain ⟨hx, hb, hr, hml, hown, hts, hK, -, hlocks, hZ⟩ := hC
  have hown : s.vm.findClass RX12 = some m.cls := hown
  have hS : va_S (jA ad) s.heap s.heap [] := va_S.rf
  have hA : ∀ q, jA ad q → jA ad q := fun _ h => h
  have hl : lv_has ls 3 [(0, .ref (ad 55)), (1, .int 0), (2, .int a2)] := hl
  have g2 := jrg t2
  refine lv_iload_n hx hb dX12_putsAs_0 rfl (lv_at hl 1 rfl) ?_
  refine lv_iconst (v := 4) hx hb dX12_putsAs_1 (of_decide_eq_true rfl) ?_
  refine lv_icmp_ne (tgt := 20) hx hb dX12_putsAs_2 (of_decide_eq_true rfl) (fun _ => ?_) (fun c => absurd c (of_decide_eq_true rfl))
  refine lv_iload_n hx hb dX12_putsAs_20 rfl (lv_at hl 1 rfl) ?_
  refine lv_iconst (v := 1) hx hb dX12_putsAs_21 (of_decide_eq_true rfl) ?_
  refine lv_icmp_ne (tgt := 40) hx hb dX12_putsAs_22 (of_decide_eq_true rfl) (fun _ => ?_) (fun c => absurd c (of_decide_eq_true rfl))
  refine lv_aload_n hx hb dX12_putsAs_40 rfl (lv_at hl 0 rfl) ?_
  refine lv_iconst (v := 1) hx hb dX12_putsAs_41 (of_decide_eq_true rfl) ?_
  refine jcallVv (As := [.int 1]) (rest := []) ⟨hx, hb, hml, hown, hts⟩ hK hP hA hS hZ (c_X12_begins_1_2 l D cI cL ad zz hJ σ τ h55_55) cw_RX12_379 (jc_55 cI cL ad σ τ) rfl ⟨Nat.le_of_ble_eq_true rfl, Nat.le_of_ble_eq_true rfl⟩ rfl rfl rfl hl.1 rfl (Nat.le_of_ble_eq_true rfl) dX12_putsAs_42 ⟨Nat.zero_le _, Nat.zero_le _⟩ (fun σ1 τ1 H locs h1 hP hS => ?_)
  obtain ⟨rfl, f3, f4, f5, m6, m7, h1⟩ := h1
  refine lv_iload_n hx hb dX12_putsAs_45 rfl (lv_at hl 2 rfl) ?_
  refine lv_aload_n hx hb dX12_putsAs_46 rfl (lv_at hl 0 rfl) ?_
  refine va_get (D := D) hx hb hts inlX12 hown hK hP 55 (jc_55 cI cL ad σ1 τ) rfl 57 (of_decide_eq_true rfl) (hts _ kw_49_9) (fun _ h9 => h9) rfl dX12_putsAs_47 ?_
  have m9 : σ1 55 57 = (σ 55 57) := (f4 57 (of_decide_eq_true rfl))
  refine jtopr m9 ?_
  have g10 := jrg (rfl : (σ 55 57).toInt = (σ 55 57).toInt)
  refine lv_iadd hx hb dX12_putsAs_50 ?_
  refine lv_topi (fun x11 ex11 => ?_)
  have gx11 := jrg (rfl : x11.toInt = x11.toInt)
  exact hret x11 σ1 τ _ _ _ _ rfl ⟨rfl, (fun i hi => (f3 i hi)), (fun i hi => (f4 i hi)), (fun i hi => (f5 i hi)), m6, m7, ⟨(by rw [ex11]), trivial⟩⟩ hP hS dX12_putsAs_51
set_option maxHeartbeats 4000000 in
set_option maxRecDepth 100000 in
theorem c_X12_holdsAs_0_0_1 (l : Launch) (D : va_G) (cI cL : ClassId) (ad zz : Nat → Nat) (hJ : jD ad) (σ : Nat → Nat → Int32) (τ : Nat → Nat → Int64) (a2 : Int32) (A2 : Int) (t2 : a2.toInt = A2) (h55_55 : σ 55 55 = 1) (hp0 : (σ 55 56).toInt = 0) : jM l yX12_holdsAs cX12_holdsAs 4 (some .int) ({ frames := 2, cells := 0, slots := 0, locals := 43 }) D cI cL ad zz [.ref (ad 55), .int 0, .int a2] σ τ (fun r σ' τ' => τ = τ' ∧ (∀ i : Nat, (i < 55 ∨ 55 < i) ∧ (i < 85 ∨ 85 < i) → σ' i = σ i) ∧ (∀ k : Nat, (k < 55 ∨ 55 < k) → σ' 55 k = σ 55 k) ∧ (∀ k : Nat, (k < 1 ∨ 1 < k) ∧ (k < 2 ∨ 2 < k) → σ' 85 k = σ 85 k) ∧ (σ' 55 55 = 3) ∧ (σ' 85 1 = 10) ∧ (σ' 85 2 = 1) ∧ ((r = ((a2 + (σ 55 57)) * 2) ∧ True))) := by
  refine jM.of hJ (by decide +kernel) (nt := .int) rfl (Nat.le_of_ble_eq_true rfl) ?_
  intro p e s m args below meth c Q ls hC hret hl hP
  obtain ⟨hx, hb, hr, hml, hown, hts, hK, -, hlocks, hZ⟩ := hC
  have hown : s.vm.findClass RX12 = some m.cls := hown
  have hS : va_S (jA ad) s.heap s.heap [] := va_S.rf
  have hA : ∀ q, jA ad q → jA ad q := fun _ h => h
  have hl : lv_has ls 4 [(0, .ref (ad 55)), (1, .int 0), (2, .int a2)] := hl
  have g2 := jrg t2
  refine lv_iload_n hx hb dX12_holdsAs_0 rfl (lv_at hl 1 rfl) ?_
  refine lv_iconst (v := 3) hx hb dX12_holdsAs_1 (of_decide_eq_true rfl) ?_
  refine lv_icmp_eq (tgt := 10) hx hb dX12_holdsAs_2 (of_decide_eq_true rfl) (fun c => absurd c (of_decide_eq_true rfl)) (fun _ => ?_)
  refine lv_iload_n hx hb dX12_holdsAs_5 rfl (lv_at hl 1 rfl) ?_
  refine lv_iconst (v := 5) hx hb dX12_holdsAs_6 (of_decide_eq_true rfl) ?_
  refine lv_icmp_ne (tgt := 24) hx hb dX12_holdsAs_7 (of_decide_eq_true rfl) (fun _ => ?_) (fun c => absurd c (of_decide_eq_true rfl))
  refine lv_iload_n hx hb dX12_holdsAs_24 rfl (lv_at hl 1 rfl) ?_
  refine lv_bipush (v := 6) hx hb dX12_holdsAs_25 (of_decide_eq_true rfl) ?_
  refine lv_icmp_ne (tgt := 55) hx hb dX12_holdsAs_27 (of_decide_eq_true rfl) (fun _ => ?_) (fun c => absurd c (of_decide_eq_true rfl))
  refine lv_aload_n hx hb dX12_holdsAs_55 rfl (lv_at hl 0 rfl) ?_
  refine lv_bipush (v := 10) hx hb dX12_holdsAs_56 (of_decide_eq_true rfl) ?_
  refine jcallVv (As := [.int 10]) (rest := []) ⟨hx, hb, hml, hown, hts⟩ hK hP hA hS hZ (c_X12_begins_10_1 l D cI cL ad zz hJ σ τ h55_55) cw_RX12_379 (jc_55 cI cL ad σ τ) rfl ⟨Nat.le_of_ble_eq_true rfl, Nat.le_of_ble_eq_true rfl⟩ rfl rfl rfl hl.1 rfl (Nat.le_of_ble_eq_true rfl) dX12_holdsAs_58 ⟨Nat.zero_le _, Nat.zero_le _⟩ (fun σ1 τ1 H locs h1 hP hS => ?_)
  obtain ⟨rfl, f3, f4, f5, m6, m7, h1⟩ := h1
  refine lv_aload_n hx hb dX12_holdsAs_61 rfl (lv_at hl 0 rfl) ?_
  refine lv_aload_n hx hb dX12_holdsAs_62 rfl (lv_at hl 0 rfl) ?_
  refine va_get (D := D) hx hb hts inlX12 hown hK hP 55 (jc_55 cI cL ad σ1 τ) rfl 56 (of_decide_eq_true rfl) (hts _ kw_49_8) (fun _ h9 => h9) rfl dX12_holdsAs_63 ?_
  have m9 : σ1 55 56 = (σ 55 56) := (f4 56 (of_decide_eq_true rfl))
  refine jtopr m9 ?_
  exact by
   refine jtopr (jsame (rfl : (σ 55 56).toInt = (σ 55 56).toInt) jz_0 (by omega)) ?_
   refine lv_iload_n hx hb dX12_holdsAs_66 rfl (lv_at hl 2 rfl) ?_
   have z10 : (σ1 55 56).toInt = (σ 55 56).toInt := (congrArg Int32.toInt (show σ1 55 56 = (σ 55 56) from m9))
   refine jcallV (As := [.int 0, .int a2]) (rest := []) ⟨hx, hb, hml, hown, hts⟩ hK hP hA hS hZ (c_X12_putsAs_0_0_2 l D cI cL ad zz hJ σ1 τ a2 (A2) t2 m6 (by omega)) cw_RX12_382 (jc_55 cI cL ad σ1 τ) rfl ⟨Nat.le_of_ble_eq_true rfl, Nat.le_of_ble_eq_true rfl⟩ rfl rfl rfl hl.1 rfl (Nat.le_of_ble_eq_true rfl) dX12_holdsAs_67 ⟨Nat.zero_le _, Nat.zero_le _⟩ (fun r12 σ11 τ11 H locs h11 hP hS => ?_)
   obtain ⟨rfl, f13, f14, f15, m16, m17, h11⟩ := h11
   have h19 := h11
   obtain ⟨q21, k20⟩ := h19
   have q21 := q21.symm
   subst q21
   exact by
    refine lv_iconst (v := 2) hx hb dX12_holdsAs_70 (of_decide_eq_true rfl) ?_
    have g22 := jrg (rfl : (a2 + (σ1 55 57)).toInt = (a2 + (σ1 55 57)).toInt)
    refine lv_imul hx hb dX12_holdsAs_71 ?_
    refine lv_topi (fun x23 ex23 => ?_)
    have gx23 := jrg (rfl : x23.toInt = x23.toInt)
    have m24 : σ11 85 1 = 10 := ((f15 1 (of_decide_eq_true rfl)).trans m7)
    exact hret x23 σ11 τ _ _ _ _ rfl ⟨rfl, (fun i hi => ((f13 i hi).trans (f3 i hi))), (fun i hi => ((f14 i hi).trans (f4 i hi))), (fun i hi => ((f15 i (imp_43 i hi)).trans (f5 i (imp_55 i hi)))), m16, m24, m17, ⟨(by rw [ex23, (show σ1 55 57 = σ 55 57 from (f4 57 (of_decide_eq_true rfl)))]), trivial⟩⟩ hP hS dX12_holdsAs_72
set_option maxHeartbeats 4000000 in
set_option maxRecDepth 100000 in
theorem c_X12_begins_11_3 (l : Launch) (D : va_G) (cI cL : ClassId) (ad zz : Nat → Nat) (hJ : jD ad) (σ : Nat → Nat → Int32) (τ : Nat → Nat → Int64) (h55_55 : σ 55 55 = 3) : jMv l yX12_begins cX12_begins 2 none ({ frames := 0, cells := 0, slots := 0, locals := 0 }) D cI cL ad zz [.ref (ad 55), .int 11] σ τ (fun σ' τ' => τ = τ' ∧ (∀ i : Nat, (i < 55 ∨ 55 < i) ∧ (i < 85 ∨ 85 < i) → σ' i = σ i) ∧ (∀ k : Nat, (k < 55 ∨ 55 < k) → σ' 55 k = σ 55 k) ∧ (∀ k : Nat, (k < 3 ∨ 3 < k) → σ' 85 k = σ 85 k) ∧ (σ' 55 55 = 4) ∧ (σ' 85 3 = 11) ∧ True) := by
  refine jMv.of hJ (by decide +kernel) rfl (Nat.le_of_ble_eq_true rfl) ?_
  intro p e s m args below meth c Q ls hC hret hl hP
  obtain ⟨hx, hb, hr, hml, hown, hts, hK, -, hlocks, hZ⟩ := hC
  have hown : s.vm.findClass RX12 = some m.cls := hown
  have hS : va_S (jA ad) s.heap s.heap [] := va_S.rf
  have hA : ∀ q, jA ad q → jA ad q := fun _ h => h
  have hl : lv_has ls 2 [(0, .ref (ad 55)), (1, .int 11)] := hl
  refine lv_aload_n hx hb dX12_begins_0 rfl (lv_at hl 0 rfl) ?_
  refine va_get (D := D) hx hb hts inlX12 hown hK hP 55 (jc_55 cI cL ad σ τ) rfl 55 (of_decide_eq_true rfl) (hts _ kw_49_7) (fun _ h9 => h9) rfl dX12_begins_1 ?_
  refine jtopr h55_55 ?_
  refine lv_bipush (v := 24) hx hb dX12_begins_4 (of_decide_eq_true rfl) ?_
  refine lv_icmp_ge (tgt := 19) hx hb dX12_begins_6 (of_decide_eq_true rfl) (fun c => absurd c (of_decide_eq_true rfl)) (fun _ => ?_)
  refine lv_aload_n hx hb dX12_begins_9 rfl (lv_at hl 0 rfl) ?_
  refine va_get (D := D) hx hb hts inlX12 hown hK hP 55 (jc_55 cI cL ad σ τ) rfl 54 (of_decide_eq_true rfl) (hts _ kw_8_10) (fun _ h9 => h9) rfl dX12_begins_10 ?_
  refine lv_aload_n hx hb dX12_begins_13 rfl (lv_at hl 0 rfl) ?_
  refine va_get (D := D) hx hb hts inlX12 hown hK hP 55 (jc_55 cI cL ad σ τ) rfl 55 (of_decide_eq_true rfl) (hts _ kw_49_7) (fun _ h9 => h9) rfl dX12_begins_14 ?_
  refine jtopr h55_55 ?_
  refine lv_iload_n hx hb dX12_begins_17 rfl (lv_at hl 1 rfl) ?_
  exact by
   refine jast hx hb hK hP hJ hA hS (jc_85 cI cL ad σ τ) (ja_85 cI cL ad σ τ _ _) (jin jz_3 (by omega) (by omega)) dX12_begins_18 (fun σ1 H locs eσ1 hP hS => ?_)
   have eσ1 : σ1 = jup σ 85 3 11 := eσ1
   refine lv_aload_n hx hb dX12_begins_19 rfl (lv_at hl 0 rfl) ?_
   refine lv_dup hx hb dX12_begins_20 rfl ?_
   refine va_get (D := D) hx hb hts inlX12 hown hK hP 55 (jc_55 cI cL ad σ1 τ) rfl 55 (of_decide_eq_true rfl) (hts _ kw_49_7) (fun _ h9 => h9) rfl dX12_begins_21 ?_
   have m2 : σ1 55 55 = 3 := ((congrFun (jnp 55 eσ1 (of_decide_eq_true rfl)) 55).trans h55_55)
   refine jtopr m2 ?_
   refine lv_iconst (v := 1) hx hb dX12_begins_24 (of_decide_eq_true rfl) ?_
   refine lv_iadd hx hb dX12_begins_25 ?_
   refine jtopr (y := 4) (of_decide_eq_true rfl) ?_
   refine jput (ty := .int) hx hb hts inlX12 tyX12 tyX12_ok nmX12 hown hK hP hJ hA hS (jc_55 cI cL ad σ1 τ) rfl (k := 55) (of_decide_eq_true rfl) (Nat.le_of_ble_eq_true rfl) (jp_55_55 cI cL ad σ1 τ 4) (hts _ kw_49_7) (fun _ h9 => h9) rfl (by decide +kernel) rfl rfl dX12_begins_26 (fun σ3 H locs eσ3 hP hS => ?_)
   have m4 : σ3 55 55 = 4 := (jsp eσ3)
   have m5 : σ3 85 3 = 11 := ((congrFun (jnp 85 eσ3 (of_decide_eq_true rfl)) 3).trans (jsp eσ1))
   exact hret σ3 τ _ _ _ _ ⟨rfl, (fun i hi => ((jnp i eσ3 (imp_350 i hi)).trans (jnp i eσ1 (imp_351 i hi)))), (fun i hi => ((jkp i eσ3 (imp_165 i hi)).trans (congrFun (jnp 55 eσ1 (of_decide_eq_true rfl)) i))), (fun i hi => ((congrFun (jnp 85 eσ3 (of_decide_eq_true rfl)) i).trans (jkp i eσ1 (imp_308 i hi)))), m4, m5, trivial⟩ hP hS dX12_begins_29
set_option maxHeartbeats 4000000 in
set_option maxRecDepth 100000 in
theorem c_X12_givesAs_0_0_3_x1 (l : Launch) (D : va_G) (cI cL : ClassId) (ad zz : Nat → Nat) (hJ : jD ad) (σ : Nat → Nat → Int32) (τ : Nat → Nat → Int64) (h55_55 : σ 55 55 = 3) (hp0 : (σ 55 56).toInt = 0) : jM l yX12_givesAs cX12_givesAs 4 (some .int) ({ frames := 1, cells := 0, slots := 0, locals := 21 }) D cI cL ad zz [.ref (ad 55), .int 0, .int 1] σ τ (fun r σ' τ' => τ = τ' ∧ (∀ i : Nat, (i < 55 ∨ 55 < i) ∧ (i < 85 ∨ 85 < i) → σ' i = σ i) ∧ (∀ k : Nat, (k < 55 ∨ 55 < k) → σ' 55 k = σ 55 k) ∧ (∀ k : Nat, (k < 3 ∨ 3 < k) → σ' 85 k = σ 85 k) ∧ (σ' 55 55 = 4) ∧ (σ' 85 3 = 11) ∧ ((r = (1 ^^^ (σ 55 57)) ∧ True))) := by
  refine jM.of hJ (by decide +kernel) (nt := .int) rfl (Nat.le_of_ble_eq_true rfl) ?_
  intro p e s m args below meth c Q ls hC hret hl hP
  obtain ⟨hx, hb, hr, hml, hown, hts, hK, -, hlocks, hZ⟩ := hC
  have hown : s.vm.findClass RX12 = some m.cls := hown
  have hS : va_S (jA ad) s.heap s.heap [] := va_S.rf
  have hA : ∀ q, jA ad q → jA ad q := fun _ h => h
  have hl : lv_has ls 4 [(0, .ref (ad 55)), (1, .int 0), (2, .int 1)] := hl
  refine lv_iload_n hx hb dX12_givesAs_0 rfl (lv_at hl 1 rfl) ?_
  refine lv_iconst (v := 5) hx hb dX12_givesAs_1 (of_decide_eq_true rfl) ?_
  refine lv_icmp_ne (tgt := 30) hx hb dX12_givesAs_2 (of_decide_eq_true rfl) (fun _ => ?_) (fun c => absurd c (of_decide_eq_true rfl))
  refine lv_iload_n hx hb dX12_givesAs_30 rfl (lv_at hl 1 rfl) ?_
  refine lv_iconst (v := 2) hx hb dX12_givesAs_31 (of_decide_eq_true rfl) ?_
  refine lv_icmp_eq (tgt := 40) hx hb dX12_givesAs_32 (of_decide_eq_true rfl) (fun c => absurd c (of_decide_eq_true rfl)) (fun _ => ?_)
  refine lv_iload_n hx hb dX12_givesAs_35 rfl (lv_at hl 1 rfl) ?_
  refine lv_iconst (v := 3) hx hb dX12_givesAs_36 (of_decide_eq_true rfl) ?_
  refine lv_icmp_ne (tgt := 55) hx hb dX12_givesAs_37 (of_decide_eq_true rfl) (fun _ => ?_) (fun c => absurd c (of_decide_eq_true rfl))
  refine lv_aload_n hx hb dX12_givesAs_55 rfl (lv_at hl 0 rfl) ?_
  refine lv_bipush (v := 11) hx hb dX12_givesAs_56 (of_decide_eq_true rfl) ?_
  refine jcallVv (As := [.int 11]) (rest := []) ⟨hx, hb, hml, hown, hts⟩ hK hP hA hS hZ (c_X12_begins_11_3 l D cI cL ad zz hJ σ τ h55_55) cw_RX12_379 (jc_55 cI cL ad σ τ) rfl ⟨Nat.le_of_ble_eq_true rfl, Nat.le_of_ble_eq_true rfl⟩ rfl rfl rfl hl.1 rfl (Nat.le_of_ble_eq_true rfl) dX12_givesAs_58 ⟨Nat.zero_le _, Nat.zero_le _⟩ (fun σ1 τ1 H locs h1 hP hS => ?_)
  obtain ⟨rfl, f3, f4, f5, m6, m7, h1⟩ := h1
  refine lv_iload_n hx hb dX12_givesAs_61 rfl (lv_at hl 2 rfl) ?_
  refine lv_aload_n hx hb dX12_givesAs_62 rfl (lv_at hl 0 rfl) ?_
  refine va_get (D := D) hx hb hts inlX12 hown hK hP 55 (jc_55 cI cL ad σ1 τ) rfl 57 (of_decide_eq_true rfl) (hts _ kw_49_9) (fun _ h9 => h9) rfl dX12_givesAs_63 ?_
  have m9 : σ1 55 57 = (σ 55 57) := (f4 57 (of_decide_eq_true rfl))
  refine jtopr m9 ?_
  refine lv_ixor hx hb dX12_givesAs_66 ?_
  refine lv_topi (fun x10 ex10 => ?_)
  have gx10 := jrg (rfl : x10.toInt = x10.toInt)
  exact hret x10 σ1 τ _ _ _ _ rfl ⟨rfl, (fun i hi => (f3 i hi)), (fun i hi => (f4 i hi)), (fun i hi => (f5 i hi)), m6, m7, ⟨(by rw [ex10]), trivial⟩⟩ hP hS dX12_givesAs_67
set_option maxHeartbeats 4000000 in
set_option maxRecDepth 100000 in
theorem c_X12_tellsAs_0_0_0 (l : Launch) (D : va_G) (cI cL : ClassId) (ad zz : Nat → Nat) (hJ : jD ad) (σ : Nat → Nat → Int32) (τ : Nat → Nat → Int64) (a2 : Int32) (A2 : Int) (t2 : a2.toInt = A2) (h55_55 : σ 55 55 = 0) (hp0 : (σ 55 56).toInt = 0) : jM l yX12_tellsAs cX12_tellsAs 4 (some .int) ({ frames := 3, cells := 0, slots := 0, locals := 66 }) D cI cL ad zz [.ref (ad 55), .int 0, .int a2] σ τ (fun r σ' τ' => τ = τ' ∧ (∀ i : Nat, (i < 55 ∨ 55 < i) ∧ (i < 85 ∨ 85 < i) → σ' i = σ i) ∧ (∀ k : Nat, (k < 55 ∨ 55 < k) → σ' 55 k = σ 55 k) ∧ (∀ k : Nat, (k < 0 ∨ 0 < k) ∧ (k < 1 ∨ 1 < k) ∧ (k < 2 ∨ 2 < k) ∧ (k < 3 ∨ 3 < k) → σ' 85 k = σ 85 k) ∧ (σ' 55 55 = 4) ∧ (σ' 85 0 = 2) ∧ (σ' 85 1 = 10) ∧ (σ' 85 2 = 1) ∧ (σ' 85 3 = 11) ∧ ((r = (((a2 + (σ 55 57)) * 2) - (1 ^^^ (σ 55 57))) ∧ True))) := by
  refine jM.of hJ (by decide +kernel) (nt := .int) rfl (Nat.le_of_ble_eq_true rfl) ?_
  intro p e s m args below meth c Q ls hC hret hl hP
  obtain ⟨hx, hb, hr, hml, hown, hts, hK, -, hlocks, hZ⟩ := hC
  have hown : s.vm.findClass RX12 = some m.cls := hown
  have hS : va_S (jA ad) s.heap s.heap [] := va_S.rf
  have hA : ∀ q, jA ad q → jA ad q := fun _ h => h
  have hl : lv_has ls 4 [(0, .ref (ad 55)), (1, .int 0), (2, .int a2)] := hl
  have g2 := jrg t2
  refine lv_iload_n hx hb dX12_tellsAs_0 rfl (lv_at hl 1 rfl) ?_
  refine lv_iconst (v := 4) hx hb dX12_tellsAs_1 (of_decide_eq_true rfl) ?_
  refine lv_icmp_ne (tgt := 20) hx hb dX12_tellsAs_2 (of_decide_eq_true rfl) (fun _ => ?_) (fun c => absurd c (of_decide_eq_true rfl))
  refine lv_aload_n hx hb dX12_tellsAs_20 rfl (lv_at hl 0 rfl) ?_
  refine lv_iconst (v := 2) hx hb dX12_tellsAs_21 (of_decide_eq_true rfl) ?_
  refine jcallVv (As := [.int 2]) (rest := []) ⟨hx, hb, hml, hown, hts⟩ hK hP hA hS hZ (c_X12_begins_2_0 l D cI cL ad zz hJ σ τ h55_55) cw_RX12_379 (jc_55 cI cL ad σ τ) rfl ⟨Nat.le_of_ble_eq_true rfl, Nat.le_of_ble_eq_true rfl⟩ rfl rfl rfl hl.1 rfl (Nat.le_of_ble_eq_true rfl) dX12_tellsAs_22 ⟨Nat.zero_le _, Nat.zero_le _⟩ (fun σ1 τ1 H locs h1 hP hS => ?_)
  obtain ⟨rfl, f3, f4, f5, m6, m7, h1⟩ := h1
  refine lv_aload_n hx hb dX12_tellsAs_25 rfl (lv_at hl 0 rfl) ?_
  refine lv_aload_n hx hb dX12_tellsAs_26 rfl (lv_at hl 0 rfl) ?_
  refine va_get (D := D) hx hb hts inlX12 hown hK hP 55 (jc_55 cI cL ad σ1 τ) rfl 56 (of_decide_eq_true rfl) (hts _ kw_49_8) (fun _ h9 => h9) rfl dX12_tellsAs_27 ?_
  have m9 : σ1 55 56 = (σ 55 56) := (f4 56 (of_decide_eq_true rfl))
  refine jtopr m9 ?_
  exact by
   refine jtopr (jsame (rfl : (σ 55 56).toInt = (σ 55 56).toInt) jz_0 (by omega)) ?_
   refine lv_iload_n hx hb dX12_tellsAs_30 rfl (lv_at hl 2 rfl) ?_
   have z10 : (σ1 55 56).toInt = (σ 55 56).toInt := (congrArg Int32.toInt (show σ1 55 56 = (σ 55 56) from m9))
   refine jcallV (As := [.int 0, .int a2]) (rest := []) ⟨hx, hb, hml, hown, hts⟩ hK hP hA hS hZ (c_X12_holdsAs_0_0_1 l D cI cL ad zz hJ σ1 τ a2 (A2) t2 m6 (by omega)) cw_RX12_388 (jc_55 cI cL ad σ1 τ) rfl ⟨Nat.le_of_ble_eq_true rfl, Nat.le_of_ble_eq_true rfl⟩ rfl rfl rfl hl.1 rfl (Nat.le_of_ble_eq_true rfl) dX12_tellsAs_31 ⟨Nat.zero_le _, Nat.zero_le _⟩ (fun r12 σ11 τ11 H locs h11 hP hS => ?_)
   obtain ⟨rfl, f13, f14, f15, m16, m17, m18, h11⟩ := h11
   have h20 := h11
   obtain ⟨q22, k21⟩ := h20
   have q22 := q22.symm
   subst q22
   exact by
    refine lv_istore_n (lv' := [(3, .int ((a2 + (σ1 55 57)) * 2)), (0, .ref (ad 55)), (1, .int 0), (2, .int a2)]) hx hb dX12_tellsAs_34 rfl hl (of_decide_eq_true rfl) rfl (fun ls hl => ?_)
    refine lv_iload_n hx hb dX12_tellsAs_35 rfl (lv_at hl 0 rfl) ?_
    refine lv_aload_n hx hb dX12_tellsAs_36 rfl (lv_at hl 1 rfl) ?_
    refine lv_aload_n hx hb dX12_tellsAs_37 rfl (lv_at hl 1 rfl) ?_
    refine va_get (D := D) hx hb hts inlX12 hown hK hP 55 (jc_55 cI cL ad σ11 τ) rfl 56 (of_decide_eq_true rfl) (hts _ kw_49_8) (fun _ h9 => h9) rfl dX12_tellsAs_38 ?_
    have m23 : σ11 55 56 = (σ 55 56) := ((f14 56 (of_decide_eq_true rfl)).trans m9)
    refine jtopr m23 ?_
    refine jtopr (jsame (rfl : (σ 55 56).toInt = (σ 55 56).toInt) jz_0 (by omega)) ?_
    refine lv_iconst (v := 1) hx hb dX12_tellsAs_41 (of_decide_eq_true rfl) ?_
    exact by
     have z24 : (σ11 55 56).toInt = (σ 55 56).toInt := (congrArg Int32.toInt (show σ11 55 56 = (σ 55 56) from m23))
     refine jcallV (As := [.int 0, .int 1]) (rest := [.int ((a2 + (σ1 55 57)) * 2)]) ⟨hx, hb, hml, hown, hts⟩ hK hP hA hS hZ (c_X12_givesAs_0_0_3_x1 l D cI cL ad zz hJ σ11 τ m16 (by omega)) cw_RX12_394 (jc_55 cI cL ad σ11 τ) rfl ⟨Nat.le_of_ble_eq_true rfl, Nat.le_of_ble_eq_true rfl⟩ rfl rfl rfl hl.1 rfl (Nat.le_of_ble_eq_true rfl) dX12_tellsAs_42 ⟨Nat.zero_le _, Nat.zero_le _⟩ (fun r26 σ25 τ25 H locs h25 hP hS => ?_)
     obtain ⟨rfl, f27, f28, f29, m30, m31, h25⟩ := h25
     have h33 := h25
     obtain ⟨q35, k34⟩ := h33
     have q35 := q35.symm
     subst q35
     have g36 := jrg (rfl : ((a2 + (σ1 55 57)) * 2).toInt = ((a2 + (σ1 55 57)) * 2).toInt)
     have g37 := jrg (rfl : (1 ^^^ (σ11 55 57)).toInt = (1 ^^^ (σ11 55 57)).toInt)
     exact by
      refine lv_isub hx hb dX12_tellsAs_45 ?_
      refine lv_topi (fun x38 ex38 => ?_)
      have gx38 := jrg (rfl : x38.toInt = x38.toInt)
      have m39 : σ25 85 0 = 2 := ((f29 0 (of_decide_eq_true rfl)).trans ((f15 0 (of_decide_eq_true rfl)).trans m7))
      have m40 : σ25 85 1 = 10 := ((f29 1 (of_decide_eq_true rfl)).trans m17)
      have m41 : σ25 85 2 = 1 := ((f29 2 (of_decide_eq_true rfl)).trans m18)
      exact hret x38 σ25 τ _ _ _ _ rfl ⟨rfl, (fun i hi => ((f27 i hi).trans ((f13 i hi).trans (f3 i hi)))), (fun i hi => ((f28 i hi).trans ((f14 i hi).trans (f4 i hi)))), (fun i hi => ((f29 i (imp_309 i hi)).trans ((f15 i (imp_310 i hi)).trans (f5 i (imp_353 i hi))))), m30, m39, m40, m41, m31, ⟨(by rw [ex38, (show σ1 55 57 = σ 55 57 from (f4 57 (of_decide_eq_true rfl))), (show σ11 55 57 = σ 55 57 from ((f14 57 (of_decide_eq_true rfl)).trans (f4 57 (of_decide_eq_true rfl))))]), trivial⟩⟩ hP hS dX12_tellsAs_46
set_option maxHeartbeats 4000000 in
set_option maxRecDepth 100000 in
theorem c_X12_begins_20_0 (l : Launch) (D : va_G) (cI cL : ClassId) (ad zz : Nat → Nat) (hJ : jD ad) (σ : Nat → Nat → Int32) (τ : Nat → Nat → Int64) (h55_55 : σ 55 55 = 0) : jMv l yX12_begins cX12_begins 2 none ({ frames := 0, cells := 0, slots := 0, locals := 0 }) D cI cL ad zz [.ref (ad 55), .int 20] σ τ (fun σ' τ' => τ = τ' ∧ (∀ i : Nat, (i < 55 ∨ 55 < i) ∧ (i < 85 ∨ 85 < i) → σ' i = σ i) ∧ (∀ k : Nat, (k < 55 ∨ 55 < k) → σ' 55 k = σ 55 k) ∧ (∀ k : Nat, (k < 0 ∨ 0 < k) → σ' 85 k = σ 85 k) ∧ (σ' 55 55 = 1) ∧ (σ' 85 0 = 20) ∧ True) := by
  refine jMv.of hJ (by decide +kernel) rfl (Nat.le_of_ble_eq_true rfl) ?_
  intro p e s m args below meth c Q ls hC hret hl hP
  obtain ⟨hx, hb, hr, hml, hown, hts, hK, -, hlocks, hZ⟩ := hC
  have hown : s.vm.findClass RX12 = some m.cls := hown
  have hS : va_S (jA ad) s.heap s.heap [] := va_S.rf
  have hA : ∀ q, jA ad q → jA ad q := fun _ h => h
  have hl : lv_has ls 2 [(0, .ref (ad 55)), (1, .int 20)] := hl
  refine lv_aload_n hx hb dX12_begins_0 rfl (lv_at hl 0 rfl) ?_
  refine va_get (D := D) hx hb hts inlX12 hown hK hP 55 (jc_55 cI cL ad σ τ) rfl 55 (of_decide_eq_true rfl) (hts _ kw_49_7) (fun _ h9 => h9) rfl dX12_begins_1 ?_
  refine jtopr h55_55 ?_
  refine lv_bipush (v := 24) hx hb dX12_begins_4 (of_decide_eq_true rfl) ?_
  refine lv_icmp_ge (tgt := 19) hx hb dX12_begins_6 (of_decide_eq_true rfl) (fun c => absurd c (of_decide_eq_true rfl)) (fun _ => ?_)
  refine lv_aload_n hx hb dX12_begins_9 rfl (lv_at hl 0 rfl) ?_
  refine va_get (D := D) hx hb hts inlX12 hown hK hP 55 (jc_55 cI cL ad σ τ) rfl 54 (of_decide_eq_true rfl) (hts _ kw_8_10) (fun _ h9 => h9) rfl dX12_begins_10 ?_
  refine lv_aload_n hx hb dX12_begins_13 rfl (lv_at hl 0 rfl) ?_
  refine va_get (D := D) hx hb hts inlX12 hown hK hP 55 (jc_55 cI cL ad σ τ) rfl 55 (of_decide_eq_true rfl) (hts _ kw_49_7) (fun _ h9 => h9) rfl dX12_begins_14 ?_
  refine jtopr h55_55 ?_
  refine lv_iload_n hx hb dX12_begins_17 rfl (lv_at hl 1 rfl) ?_
  exact by
   refine jast hx hb hK hP hJ hA hS (jc_85 cI cL ad σ τ) (ja_85 cI cL ad σ τ _ _) (jin jz_0 (by omega) (by omega)) dX12_begins_18 (fun σ1 H locs eσ1 hP hS => ?_)
   have eσ1 : σ1 = jup σ 85 0 20 := eσ1
   refine lv_aload_n hx hb dX12_begins_19 rfl (lv_at hl 0 rfl) ?_
   refine lv_dup hx hb dX12_begins_20 rfl ?_
   refine va_get (D := D) hx hb hts inlX12 hown hK hP 55 (jc_55 cI cL ad σ1 τ) rfl 55 (of_decide_eq_true rfl) (hts _ kw_49_7) (fun _ h9 => h9) rfl dX12_begins_21 ?_
   have m2 : σ1 55 55 = 0 := ((congrFun (jnp 55 eσ1 (of_decide_eq_true rfl)) 55).trans h55_55)
   refine jtopr m2 ?_
   refine lv_iconst (v := 1) hx hb dX12_begins_24 (of_decide_eq_true rfl) ?_
   refine lv_iadd hx hb dX12_begins_25 ?_
   refine jtopr (y := 1) (of_decide_eq_true rfl) ?_
   refine jput (ty := .int) hx hb hts inlX12 tyX12 tyX12_ok nmX12 hown hK hP hJ hA hS (jc_55 cI cL ad σ1 τ) rfl (k := 55) (of_decide_eq_true rfl) (Nat.le_of_ble_eq_true rfl) (jp_55_55 cI cL ad σ1 τ 1) (hts _ kw_49_7) (fun _ h9 => h9) rfl (by decide +kernel) rfl rfl dX12_begins_26 (fun σ3 H locs eσ3 hP hS => ?_)
   have m4 : σ3 55 55 = 1 := (jsp eσ3)
   have m5 : σ3 85 0 = 20 := ((congrFun (jnp 85 eσ3 (of_decide_eq_true rfl)) 0).trans (jsp eσ1))
   exact hret σ3 τ _ _ _ _ ⟨rfl, (fun i hi => ((jnp i eσ3 (imp_350 i hi)).trans (jnp i eσ1 (imp_351 i hi)))), (fun i hi => ((jkp i eσ3 (imp_165 i hi)).trans (congrFun (jnp 55 eσ1 (of_decide_eq_true rfl)) i))), (fun i hi => ((congrFun (jnp 85 eσ3 (of_decide_eq_true rfl)) i).trans (jkp i eσ1 (imp_4 i hi)))), m4, m5, trivial⟩ hP hS dX12_begins_29
set_option maxHeartbeats 4000000 in
set_option maxRecDepth 100000 in
theorem c_X12_putsAs_1_0_1 (l : Launch) (D : va_G) (cI cL : ClassId) (ad zz : Nat → Nat) (hJ : jD ad) (σ : Nat → Nat → Int32) (τ : Nat → Nat → Int64) (a2 : Int32) (A2 : Int) (t2 : a2.toInt = A2) (h55_55 : σ 55 55 = 1) (hp0 : (σ 55 56).toInt = 1) : jM l yX12_putsAs cX12_putsAs 3 (some .int) ({ frames := 1, cells := 0, slots := 0, locals := 21 }) D cI cL ad zz [.ref (ad 55), .int 0, .int a2] σ τ (fun r σ' τ' => τ = τ' ∧ (∀ i : Nat, (i < 55 ∨ 55 < i) ∧ (i < 85 ∨ 85 < i) → σ' i = σ i) ∧ (∀ k : Nat, (k < 55 ∨ 55 < k) → σ' 55 k = σ 55 k) ∧ (∀ k : Nat, (k < 1 ∨ 1 < k) → σ' 85 k = σ 85 k) ∧ (σ' 55 55 = 2) ∧ (σ' 85 1 = 1) ∧ ((r = (a2 + (σ 55 57)) ∧ True))) := by
  refine jM.of hJ (by decide +kernel) (nt := .int) rfl (Nat.le_of_ble_eq_true rfl) ?_
  intro p e s m args below meth c Q ls hC hret hl hP
  obtain ⟨hx, hb, hr, hml, hown, hts, hK, -, hlocks, hZ⟩ := hC
  have hown : s.vm.findClass RX12 = some m.cls := hown
  have hS : va_S (jA ad) s.heap s.heap [] := va_S.rf
  have hA : ∀ q, jA ad q → jA ad q := fun _ h => h
  have hl : lv_has ls 3 [(0, .ref (ad 55)), (1, .int 0), (2, .int a2)] := hl
  have g2 := jrg t2
  refine lv_iload_n hx hb dX12_putsAs_0 rfl (lv_at hl 1 rfl) ?_
  refine lv_iconst (v := 4) hx hb dX12_putsAs_1 (of_decide_eq_true rfl) ?_
  refine lv_icmp_ne (tgt := 20) hx hb dX12_putsAs_2 (of_decide_eq_true rfl) (fun _ => ?_) (fun c => absurd c (of_decide_eq_true rfl))
  refine lv_iload_n hx hb dX12_putsAs_20 rfl (lv_at hl 1 rfl) ?_
  refine lv_iconst (v := 1) hx hb dX12_putsAs_21 (of_decide_eq_true rfl) ?_
  refine lv_icmp_ne (tgt := 40) hx hb dX12_putsAs_22 (of_decide_eq_true rfl) (fun _ => ?_) (fun c => absurd c (of_decide_eq_true rfl))
  refine lv_aload_n hx hb dX12_putsAs_40 rfl (lv_at hl 0 rfl) ?_
  refine lv_iconst (v := 1) hx hb dX12_putsAs_41 (of_decide_eq_true rfl) ?_
  refine jcallVv (As := [.int 1]) (rest := []) ⟨hx, hb, hml, hown, hts⟩ hK hP hA hS hZ (c_X12_begins_1_1 l D cI cL ad zz hJ σ τ h55_55) cw_RX12_379 (jc_55 cI cL ad σ τ) rfl ⟨Nat.le_of_ble_eq_true rfl, Nat.le_of_ble_eq_true rfl⟩ rfl rfl rfl hl.1 rfl (Nat.le_of_ble_eq_true rfl) dX12_putsAs_42 ⟨Nat.zero_le _, Nat.zero_le _⟩ (fun σ1 τ1 H locs h1 hP hS => ?_)
  obtain ⟨rfl, f3, f4, f5, m6, m7, h1⟩ := h1
  refine lv_iload_n hx hb dX12_putsAs_45 rfl (lv_at hl 2 rfl) ?_
  refine lv_aload_n hx hb dX12_putsAs_46 rfl (lv_at hl 0 rfl) ?_
  refine va_get (D := D) hx hb hts inlX12 hown hK hP 55 (jc_55 cI cL ad σ1 τ) rfl 57 (of_decide_eq_true rfl) (hts _ kw_49_9) (fun _ h9 => h9) rfl dX12_putsAs_47 ?_
  have m9 : σ1 55 57 = (σ 55 57) := (f4 57 (of_decide_eq_true rfl))
  refine jtopr m9 ?_
  have g10 := jrg (rfl : (σ 55 57).toInt = (σ 55 57).toInt)
  refine lv_iadd hx hb dX12_putsAs_50 ?_
  refine lv_topi (fun x11 ex11 => ?_)
  have gx11 := jrg (rfl : x11.toInt = x11.toInt)
  exact hret x11 σ1 τ _ _ _ _ rfl ⟨rfl, (fun i hi => (f3 i hi)), (fun i hi => (f4 i hi)), (fun i hi => (f5 i hi)), m6, m7, ⟨(by rw [ex11]), trivial⟩⟩ hP hS dX12_putsAs_51
set_option maxHeartbeats 4000000 in
set_option maxRecDepth 100000 in
theorem c_X12_putsAs_1_1_0 (l : Launch) (D : va_G) (cI cL : ClassId) (ad zz : Nat → Nat) (hJ : jD ad) (σ : Nat → Nat → Int32) (τ : Nat → Nat → Int64) (a2 : Int32) (A2 : Int) (t2 : a2.toInt = A2) (h55_55 : σ 55 55 = 0) (hp0 : (σ 55 56).toInt = 1) : jM l yX12_putsAs cX12_putsAs 3 (some .int) ({ frames := 2, cells := 0, slots := 0, locals := 43 }) D cI cL ad zz [.ref (ad 55), .int 1, .int a2] σ τ (fun r σ' τ' => τ = τ' ∧ (∀ i : Nat, (i < 55 ∨ 55 < i) ∧ (i < 85 ∨ 85 < i) → σ' i = σ i) ∧ (∀ k : Nat, (k < 55 ∨ 55 < k) → σ' 55 k = σ 55 k) ∧ (∀ k : Nat, (k < 0 ∨ 0 < k) ∧ (k < 1 ∨ 1 < k) → σ' 85 k = σ 85 k) ∧ (σ' 55 55 = 2) ∧ (σ' 85 0 = 20) ∧ (σ' 85 1 = 1) ∧ ((r = ((a2 + (σ 55 57)) + 3) ∧ True))) := by
  refine jM.of hJ (by decide +kernel) (nt := .int) rfl (Nat.le_of_ble_eq_true rfl) ?_
  intro p e s m args below meth c Q ls hC hret hl hP
  obtain ⟨hx, hb, hr, hml, hown, hts, hK, -, hlocks, hZ⟩ := hC
  have hown : s.vm.findClass RX12 = some m.cls := hown
  have hS : va_S (jA ad) s.heap s.heap [] := va_S.rf
  have hA : ∀ q, jA ad q → jA ad q := fun _ h => h
  have hl : lv_has ls 3 [(0, .ref (ad 55)), (1, .int 1), (2, .int a2)] := hl
  have g2 := jrg t2
  refine lv_iload_n hx hb dX12_putsAs_0 rfl (lv_at hl 1 rfl) ?_
  refine lv_iconst (v := 4) hx hb dX12_putsAs_1 (of_decide_eq_true rfl) ?_
  refine lv_icmp_ne (tgt := 20) hx hb dX12_putsAs_2 (of_decide_eq_true rfl) (fun _ => ?_) (fun c => absurd c (of_decide_eq_true rfl))
  refine lv_iload_n hx hb dX12_putsAs_20 rfl (lv_at hl 1 rfl) ?_
  refine lv_iconst (v := 1) hx hb dX12_putsAs_21 (of_decide_eq_true rfl) ?_
  refine lv_icmp_ne (tgt := 40) hx hb dX12_putsAs_22 (of_decide_eq_true rfl) (fun c => absurd (of_decide_eq_true rfl) c) (fun _ => ?_)
  refine lv_aload_n hx hb dX12_putsAs_25 rfl (lv_at hl 0 rfl) ?_
  refine lv_bipush (v := 20) hx hb dX12_putsAs_26 (of_decide_eq_true rfl) ?_
  refine jcallVv (As := [.int 20]) (rest := []) ⟨hx, hb, hml, hown, hts⟩ hK hP hA hS hZ (c_X12_begins_20_0 l D cI cL ad zz hJ σ τ h55_55) cw_RX12_379 (jc_55 cI cL ad σ τ) rfl ⟨Nat.le_of_ble_eq_true rfl, Nat.le_of_ble_eq_true rfl⟩ rfl rfl rfl hl.1 rfl (Nat.le_of_ble_eq_true rfl) dX12_putsAs_28 ⟨Nat.zero_le _, Nat.zero_le _⟩ (fun σ1 τ1 H locs h1 hP hS => ?_)
  obtain ⟨rfl, f3, f4, f5, m6, m7, h1⟩ := h1
  refine lv_aload_n hx hb dX12_putsAs_31 rfl (lv_at hl 0 rfl) ?_
  refine lv_iconst (v := 0) hx hb dX12_putsAs_32 (of_decide_eq_true rfl) ?_
  refine lv_iload_n hx hb dX12_putsAs_33 rfl (lv_at hl 2 rfl) ?_
  have z9 : (σ1 55 56).toInt = (σ 55 56).toInt := (congrArg Int32.toInt (show σ1 55 56 = (σ 55 56) from (f4 56 (of_decide_eq_true rfl))))
  exact by
   refine jcallV (As := [.int 0, .int a2]) (rest := []) ⟨hx, hb, hml, hown, hts⟩ hK hP hA hS hZ (c_X12_putsAs_1_0_1 l D cI cL ad zz hJ σ1 τ a2 (A2) t2 m6 (by omega)) cw_RX12_382 (jc_55 cI cL ad σ1 τ) rfl ⟨Nat.le_of_ble_eq_true rfl, Nat.le_of_ble_eq_true rfl⟩ rfl rfl rfl hl.1 rfl (Nat.le_of_ble_eq_true rfl) dX12_putsAs_34 ⟨Nat.zero_le _, Nat.zero_le _⟩ (fun r11 σ10 τ10 H locs h10 hP hS => ?_)
   obtain ⟨rfl, f12, f13, f14, m15, m16, h10⟩ := h10
   have h18 := h10
   obtain ⟨q20, k19⟩ := h18
   have q20 := q20.symm
   subst q20
   refine lv_iconst (v := 3) hx hb dX12_putsAs_37 (of_decide_eq_true rfl) ?_
   have g21 := jrg (rfl : (a2 + (σ1 55 57)).toInt = (a2 + (σ1 55 57)).toInt)
   refine lv_iadd hx hb dX12_putsAs_38 ?_
   refine lv_topi (fun x22 ex22 => ?_)
   have gx22 := jrg (rfl : x22.toInt = x22.toInt)
   have m23 : σ10 85 0 = 20 := ((f14 0 (of_decide_eq_true rfl)).trans m7)
   exact hret x22 σ10 τ _ _ _ _ rfl ⟨rfl, (fun i hi => ((f12 i hi).trans (f3 i hi))), (fun i hi => ((f13 i hi).trans (f4 i hi))), (fun i hi => ((f14 i (imp_307 i hi)).trans (f5 i (imp_352 i hi)))), m15, m23, m16, ⟨(by rw [ex22, (show σ1 55 57 = σ 55 57 from (f4 57 (of_decide_eq_true rfl)))]), trivial⟩⟩ hP hS dX12_putsAs_39
set_option maxHeartbeats 4000000 in
set_option maxRecDepth 100000 in
theorem c_X12_begins_20_1 (l : Launch) (D : va_G) (cI cL : ClassId) (ad zz : Nat → Nat) (hJ : jD ad) (σ : Nat → Nat → Int32) (τ : Nat → Nat → Int64) (h55_55 : σ 55 55 = 1) : jMv l yX12_begins cX12_begins 2 none ({ frames := 0, cells := 0, slots := 0, locals := 0 }) D cI cL ad zz [.ref (ad 55), .int 20] σ τ (fun σ' τ' => τ = τ' ∧ (∀ i : Nat, (i < 55 ∨ 55 < i) ∧ (i < 85 ∨ 85 < i) → σ' i = σ i) ∧ (∀ k : Nat, (k < 55 ∨ 55 < k) → σ' 55 k = σ 55 k) ∧ (∀ k : Nat, (k < 1 ∨ 1 < k) → σ' 85 k = σ 85 k) ∧ (σ' 55 55 = 2) ∧ (σ' 85 1 = 20) ∧ True) := by
  refine jMv.of hJ (by decide +kernel) rfl (Nat.le_of_ble_eq_true rfl) ?_
  intro p e s m args below meth c Q ls hC hret hl hP
  obtain ⟨hx, hb, hr, hml, hown, hts, hK, -, hlocks, hZ⟩ := hC
  have hown : s.vm.findClass RX12 = some m.cls := hown
  have hS : va_S (jA ad) s.heap s.heap [] := va_S.rf
  have hA : ∀ q, jA ad q → jA ad q := fun _ h => h
  have hl : lv_has ls 2 [(0, .ref (ad 55)), (1, .int 20)] := hl
  refine lv_aload_n hx hb dX12_begins_0 rfl (lv_at hl 0 rfl) ?_
  refine va_get (D := D) hx hb hts inlX12 hown hK hP 55 (jc_55 cI cL ad σ τ) rfl 55 (of_decide_eq_true rfl) (hts _ kw_49_7) (fun _ h9 => h9) rfl dX12_begins_1 ?_
  refine jtopr h55_55 ?_
  refine lv_bipush (v := 24) hx hb dX12_begins_4 (of_decide_eq_true rfl) ?_
  refine lv_icmp_ge (tgt := 19) hx hb dX12_begins_6 (of_decide_eq_true rfl) (fun c => absurd c (of_decide_eq_true rfl)) (fun _ => ?_)
  refine lv_aload_n hx hb dX12_begins_9 rfl (lv_at hl 0 rfl) ?_
  refine va_get (D := D) hx hb hts inlX12 hown hK hP 55 (jc_55 cI cL ad σ τ) rfl 54 (of_decide_eq_true rfl) (hts _ kw_8_10) (fun _ h9 => h9) rfl dX12_begins_10 ?_
  refine lv_aload_n hx hb dX12_begins_13 rfl (lv_at hl 0 rfl) ?_
  refine va_get (D := D) hx hb hts inlX12 hown hK hP 55 (jc_55 cI cL ad σ τ) rfl 55 (of_decide_eq_true rfl) (hts _ kw_49_7) (fun _ h9 => h9) rfl dX12_begins_14 ?_
  refine jtopr h55_55 ?_
  refine lv_iload_n hx hb dX12_begins_17 rfl (lv_at hl 1 rfl) ?_
  exact by
   refine jast hx hb hK hP hJ hA hS (jc_85 cI cL ad σ τ) (ja_85 cI cL ad σ τ _ _) (jin jz_1 (by omega) (by omega)) dX12_begins_18 (fun σ1 H locs eσ1 hP hS => ?_)
   have eσ1 : σ1 = jup σ 85 1 20 := eσ1
   refine lv_aload_n hx hb dX12_begins_19 rfl (lv_at hl 0 rfl) ?_
   refine lv_dup hx hb dX12_begins_20 rfl ?_
   refine va_get (D := D) hx hb hts inlX12 hown hK hP 55 (jc_55 cI cL ad σ1 τ) rfl 55 (of_decide_eq_true rfl) (hts _ kw_49_7) (fun _ h9 => h9) rfl dX12_begins_21 ?_
   have m2 : σ1 55 55 = 1 := ((congrFun (jnp 55 eσ1 (of_decide_eq_true rfl)) 55).trans h55_55)
   refine jtopr m2 ?_
   refine lv_iconst (v := 1) hx hb dX12_begins_24 (of_decide_eq_true rfl) ?_
   refine lv_iadd hx hb dX12_begins_25 ?_
   refine jtopr (y := 2) (of_decide_eq_true rfl) ?_
   refine jput (ty := .int) hx hb hts inlX12 tyX12 tyX12_ok nmX12 hown hK hP hJ hA hS (jc_55 cI cL ad σ1 τ) rfl (k := 55) (of_decide_eq_true rfl) (Nat.le_of_ble_eq_true rfl) (jp_55_55 cI cL ad σ1 τ 2) (hts _ kw_49_7) (fun _ h9 => h9) rfl (by decide +kernel) rfl rfl dX12_begins_26 (fun σ3 H locs eσ3 hP hS => ?_)
   have m4 : σ3 55 55 = 2 := (jsp eσ3)
   have m5 : σ3 85 1 = 20 := ((congrFun (jnp 85 eσ3 (of_decide_eq_true rfl)) 1).trans (jsp eσ1))
   exact hret σ3 τ _ _ _ _ ⟨rfl, (fun i hi => ((jnp i eσ3 (imp_350 i hi)).trans (jnp i eσ1 (imp_351 i hi)))), (fun i hi => ((jkp i eσ3 (imp_165 i hi)).trans (congrFun (jnp 55 eσ1 (of_decide_eq_true rfl)) i))), (fun i hi => ((congrFun (jnp 85 eσ3 (of_decide_eq_true rfl)) i).trans (jkp i eσ1 (imp_42 i hi)))), m4, m5, trivial⟩ hP hS dX12_begins_29
set_option maxHeartbeats 4000000 in
set_option maxRecDepth 100000 in
theorem c_X12_putsAs_1_0_2 (l : Launch) (D : va_G) (cI cL : ClassId) (ad zz : Nat → Nat) (hJ : jD ad) (σ : Nat → Nat → Int32) (τ : Nat → Nat → Int64) (a2 : Int32) (A2 : Int) (t2 : a2.toInt = A2) (h55_55 : σ 55 55 = 2) (hp0 : (σ 55 56).toInt = 1) : jM l yX12_putsAs cX12_putsAs 3 (some .int) ({ frames := 1, cells := 0, slots := 0, locals := 21 }) D cI cL ad zz [.ref (ad 55), .int 0, .int a2] σ τ (fun r σ' τ' => τ = τ' ∧ (∀ i : Nat, (i < 55 ∨ 55 < i) ∧ (i < 85 ∨ 85 < i) → σ' i = σ i) ∧ (∀ k : Nat, (k < 55 ∨ 55 < k) → σ' 55 k = σ 55 k) ∧ (∀ k : Nat, (k < 2 ∨ 2 < k) → σ' 85 k = σ 85 k) ∧ (σ' 55 55 = 3) ∧ (σ' 85 2 = 1) ∧ ((r = (a2 + (σ 55 57)) ∧ True))) := by
  refine jM.of hJ (by decide +kernel) (nt := .int) rfl (Nat.le_of_ble_eq_true rfl) ?_
  intro p e s m args below meth c Q ls hC hret hl hP
  obtain ⟨hx, hb, hr, hml, hown, hts, hK, -, hlocks, hZ⟩ := hC
  have hown : s.vm.findClass RX12 = some m.cls := hown
  have hS : va_S (jA ad) s.heap s.heap [] := va_S.rf
  have hA : ∀ q, jA ad q → jA ad q := fun _ h => h
  have hl : lv_has ls 3 [(0, .ref (ad 55)), (1, .int 0), (2, .int a2)] := hl
  have g2 := jrg t2
  refine lv_iload_n hx hb dX12_putsAs_0 rfl (lv_at hl 1 rfl) ?_
  refine lv_iconst (v := 4) hx hb dX12_putsAs_1 (of_decide_eq_true rfl) ?_
  refine lv_icmp_ne (tgt := 20) hx hb dX12_putsAs_2 (of_decide_eq_true rfl) (fun _ => ?_) (fun c => absurd c (of_decide_eq_true rfl))
  refine lv_iload_n hx hb dX12_putsAs_20 rfl (lv_at hl 1 rfl) ?_
  refine lv_iconst (v := 1) hx hb dX12_putsAs_21 (of_decide_eq_true rfl) ?_
  refine lv_icmp_ne (tgt := 40) hx hb dX12_putsAs_22 (of_decide_eq_true rfl) (fun _ => ?_) (fun c => absurd c (of_decide_eq_true rfl))
  refine lv_aload_n hx hb dX12_putsAs_40 rfl (lv_at hl 0 rfl) ?_
  refine lv_iconst (v := 1) hx hb dX12_putsAs_41 (of_decide_eq_true rfl) ?_
  refine jcallVv (As := [.int 1]) (rest := []) ⟨hx, hb, hml, hown, hts⟩ hK hP hA hS hZ (c_X12_begins_1_2 l D cI cL ad zz hJ σ τ h55_55) cw_RX12_379 (jc_55 cI cL ad σ τ) rfl ⟨Nat.le_of_ble_eq_true rfl, Nat.le_of_ble_eq_true rfl⟩ rfl rfl rfl hl.1 rfl (Nat.le_of_ble_eq_true rfl) dX12_putsAs_42 ⟨Nat.zero_le _, Nat.zero_le _⟩ (fun σ1 τ1 H locs h1 hP hS => ?_)
  obtain ⟨rfl, f3, f4, f5, m6, m7, h1⟩ := h1
  refine lv_iload_n hx hb dX12_putsAs_45 rfl (lv_at hl 2 rfl) ?_
  refine lv_aload_n hx hb dX12_putsAs_46 rfl (lv_at hl 0 rfl) ?_
  refine va_get (D := D) hx hb hts inlX12 hown hK hP 55 (jc_55 cI cL ad σ1 τ) rfl 57 (of_decide_eq_true rfl) (hts _ kw_49_9) (fun _ h9 => h9) rfl dX12_putsAs_47 ?_
  have m9 : σ1 55 57 = (σ 55 57) := (f4 57 (of_decide_eq_true rfl))
  refine jtopr m9 ?_
  have g10 := jrg (rfl : (σ 55 57).toInt = (σ 55 57).toInt)
  refine lv_iadd hx hb dX12_putsAs_50 ?_
  refine lv_topi (fun x11 ex11 => ?_)
  have gx11 := jrg (rfl : x11.toInt = x11.toInt)
  exact hret x11 σ1 τ _ _ _ _ rfl ⟨rfl, (fun i hi => (f3 i hi)), (fun i hi => (f4 i hi)), (fun i hi => (f5 i hi)), m6, m7, ⟨(by rw [ex11]), trivial⟩⟩ hP hS dX12_putsAs_51
set_option maxHeartbeats 4000000 in
set_option maxRecDepth 100000 in
theorem c_X12_putsAs_1_1_1 (l : Launch) (D : va_G) (cI cL : ClassId) (ad zz : Nat → Nat) (hJ : jD ad) (σ : Nat → Nat → Int32) (τ : Nat → Nat → Int64) (a2 : Int32) (A2 : Int) (t2 : a2.toInt = A2) (h55_55 : σ 55 55 = 1) (hp0 : (σ 55 56).toInt = 1) : jM l yX12_putsAs cX12_putsAs 3 (some .int) ({ frames := 2, cells := 0, slots := 0, locals := 43 }) D cI cL ad zz [.ref (ad 55), .int 1, .int a2] σ τ (fun r σ' τ' => τ = τ' ∧ (∀ i : Nat, (i < 55 ∨ 55 < i) ∧ (i < 85 ∨ 85 < i) → σ' i = σ i) ∧ (∀ k : Nat, (k < 55 ∨ 55 < k) → σ' 55 k = σ 55 k) ∧ (∀ k : Nat, (k < 1 ∨ 1 < k) ∧ (k < 2 ∨ 2 < k) → σ' 85 k = σ 85 k) ∧ (σ' 55 55 = 3) ∧ (σ' 85 1 = 20) ∧ (σ' 85 2 = 1) ∧ ((r = ((a2 + (σ 55 57)) + 3) ∧ True))) := by
  refine jM.of hJ (by decide +kernel) (nt := .int) rfl (Nat.le_of_ble_eq_true rfl) ?_
  intro p e s m args below meth c Q ls hC hret hl hP
  obtain ⟨hx, hb, hr, hml, hown, hts, hK, -, hlocks, hZ⟩ := hC
  have hown : s.vm.findClass RX12 = some m.cls := hown
  have hS : va_S (jA ad) s.heap s.heap [] := va_S.rf
  have hA : ∀ q, jA ad q → jA ad q := fun _ h => h
  have hl : lv_has ls 3 [(0, .ref (ad 55)), (1, .int 1), (2, .int a2)] := hl
  have g2 := jrg t2
  refine lv_iload_n hx hb dX12_putsAs_0 rfl (lv_at hl 1 rfl) ?_
  refine lv_iconst (v := 4) hx hb dX12_putsAs_1 (of_decide_eq_true rfl) ?_
  refine lv_icmp_ne (tgt := 20) hx hb dX12_putsAs_2 (of_decide_eq_true rfl) (fun _ => ?_) (fun c => absurd c (of_decide_eq_true rfl))
  refine lv_iload_n hx hb dX12_putsAs_20 rfl (lv_at hl 1 rfl) ?_
  refine lv_iconst (v := 1) hx hb dX12_putsAs_21 (of_decide_eq_true rfl) ?_
  refine lv_icmp_ne (tgt := 40) hx hb dX12_putsAs_22 (of_decide_eq_true rfl) (fun c => absurd (of_decide_eq_true rfl) c) (fun _ => ?_)
  refine lv_aload_n hx hb dX12_putsAs_25 rfl (lv_at hl 0 rfl) ?_
  refine lv_bipush (v := 20) hx hb dX12_putsAs_26 (of_decide_eq_true rfl) ?_
  refine jcallVv (As := [.int 20]) (rest := []) ⟨hx, hb, hml, hown, hts⟩ hK hP hA hS hZ (c_X12_begins_20_1 l D cI cL ad zz hJ σ τ h55_55) cw_RX12_379 (jc_55 cI cL ad σ τ) rfl ⟨Nat.le_of_ble_eq_true rfl, Nat.le_of_ble_eq_true rfl⟩ rfl rfl rfl hl.1 rfl (Nat.le_of_ble_eq_true rfl) dX12_putsAs_28 ⟨Nat.zero_le _, Nat.zero_le _⟩ (fun σ1 τ1 H locs h1 hP hS => ?_)
  obtain ⟨rfl, f3, f4, f5, m6, m7, h1⟩ := h1
  refine lv_aload_n hx hb dX12_putsAs_31 rfl (lv_at hl 0 rfl) ?_
  refine lv_iconst (v := 0) hx hb dX12_putsAs_32 (of_decide_eq_true rfl) ?_
  refine lv_iload_n hx hb dX12_putsAs_33 rfl (lv_at hl 2 rfl) ?_
  have z9 : (σ1 55 56).toInt = (σ 55 56).toInt := (congrArg Int32.toInt (show σ1 55 56 = (σ 55 56) from (f4 56 (of_decide_eq_true rfl))))
  exact by
   refine jcallV (As := [.int 0, .int a2]) (rest := []) ⟨hx, hb, hml, hown, hts⟩ hK hP hA hS hZ (c_X12_putsAs_1_0_2 l D cI cL ad zz hJ σ1 τ a2 (A2) t2 m6 (by omega)) cw_RX12_382 (jc_55 cI cL ad σ1 τ) rfl ⟨Nat.le_of_ble_eq_true rfl, Nat.le_of_ble_eq_true rfl⟩ rfl rfl rfl hl.1 rfl (Nat.le_of_ble_eq_true rfl) dX12_putsAs_34 ⟨Nat.zero_le _, Nat.zero_le _⟩ (fun r11 σ10 τ10 H locs h10 hP hS => ?_)
   obtain ⟨rfl, f12, f13, f14, m15, m16, h10⟩ := h10
   have h18 := h10
   obtain ⟨q20, k19⟩ := h18
   have q20 := q20.symm
   subst q20
   refine lv_iconst (v := 3) hx hb dX12_putsAs_37 (of_decide_eq_true rfl) ?_
   have g21 := jrg (rfl : (a2 + (σ1 55 57)).toInt = (a2 + (σ1 55 57)).toInt)
   refine lv_iadd hx hb dX12_putsAs_38 ?_
   refine lv_topi (fun x22 ex22 => ?_)
   have gx22 := jrg (rfl : x22.toInt = x22.toInt)
   have m23 : σ10 85 1 = 20 := ((f14 1 (of_decide_eq_true rfl)).trans m7)
   exact hret x22 σ10 τ _ _ _ _ rfl ⟨rfl, (fun i hi => ((f12 i hi).trans (f3 i hi))), (fun i hi => ((f13 i hi).trans (f4 i hi))), (fun i hi => ((f14 i (imp_43 i hi)).trans (f5 i (imp_55 i hi)))), m15, m23, m16, ⟨(by rw [ex22, (show σ1 55 57 = σ 55 57 from (f4 57 (of_decide_eq_true rfl)))]), trivial⟩⟩ hP hS dX12_putsAs_39
set_option maxHeartbeats 4000000 in
set_option maxRecDepth 100000 in
theorem c_X12_holdsAs_1_1_0 (l : Launch) (D : va_G) (cI cL : ClassId) (ad zz : Nat → Nat) (hJ : jD ad) (σ : Nat → Nat → Int32) (τ : Nat → Nat → Int64) (a2 : Int32) (A2 : Int) (t2 : a2.toInt = A2) (h55_55 : σ 55 55 = 0) (hp0 : (σ 55 56).toInt = 1) : jM l yX12_holdsAs cX12_holdsAs 4 (some .int) ({ frames := 3, cells := 0, slots := 0, locals := 65 }) D cI cL ad zz [.ref (ad 55), .int 1, .int a2] σ τ (fun r σ' τ' => τ = τ' ∧ (∀ i : Nat, (i < 55 ∨ 55 < i) ∧ (i < 85 ∨ 85 < i) → σ' i = σ i) ∧ (∀ k : Nat, (k < 55 ∨ 55 < k) → σ' 55 k = σ 55 k) ∧ (∀ k : Nat, (k < 0 ∨ 0 < k) ∧ (k < 1 ∨ 1 < k) ∧ (k < 2 ∨ 2 < k) → σ' 85 k = σ 85 k) ∧ (σ' 55 55 = 3) ∧ (σ' 85 0 = 10) ∧ (σ' 85 1 = 20) ∧ (σ' 85 2 = 1) ∧ ((r = (((a2 + (σ 55 57)) + 3) * 2) ∧ True))) := by
  refine jM.of hJ (by decide +kernel) (nt := .int) rfl (Nat.le_of_ble_eq_true rfl) ?_
  intro p e s m args below meth c Q ls hC hret hl hP
  obtain ⟨hx, hb, hr, hml, hown, hts, hK, -, hlocks, hZ⟩ := hC
  have hown : s.vm.findClass RX12 = some m.cls := hown
  have hS : va_S (jA ad) s.heap s.heap [] := va_S.rf
  have hA : ∀ q, jA ad q → jA ad q := fun _ h => h
  have hl : lv_has ls 4 [(0, .ref (ad 55)), (1, .int 1), (2, .int a2)] := hl
  have g2 := jrg t2
  refine lv_iload_n hx hb dX12_holdsAs_0 rfl (lv_at hl 1 rfl) ?_
  refine lv_iconst (v := 3) hx hb dX12_holdsAs_1 (of_decide_eq_true rfl) ?_
  refine lv_icmp_eq (tgt := 10) hx hb dX12_holdsAs_2 (of_decide_eq_true rfl) (fun c => absurd c (of_decide_eq_true rfl)) (fun _ => ?_)
  refine lv_iload_n hx hb dX12_holdsAs_5 rfl (lv_at hl 1 rfl) ?_
  refine lv_iconst (v := 5) hx hb dX12_holdsAs_6 (of_decide_eq_true rfl) ?_
  refine lv_icmp_ne (tgt := 24) hx hb dX12_holdsAs_7 (of_decide_eq_true rfl) (fun _ => ?_) (fun c => absurd c (of_decide_eq_true rfl))
  refine lv_iload_n hx hb dX12_holdsAs_24 rfl (lv_at hl 1 rfl) ?_
  refine lv_bipush (v := 6) hx hb dX12_holdsAs_25 (of_decide_eq_true rfl) ?_
  refine lv_icmp_ne (tgt := 55) hx hb dX12_holdsAs_27 (of_decide_eq_true rfl) (fun _ => ?_) (fun c => absurd c (of_decide_eq_true rfl))
  refine lv_aload_n hx hb dX12_holdsAs_55 rfl (lv_at hl 0 rfl) ?_
  refine lv_bipush (v := 10) hx hb dX12_holdsAs_56 (of_decide_eq_true rfl) ?_
  refine jcallVv (As := [.int 10]) (rest := []) ⟨hx, hb, hml, hown, hts⟩ hK hP hA hS hZ (c_X12_begins_10_0 l D cI cL ad zz hJ σ τ h55_55) cw_RX12_379 (jc_55 cI cL ad σ τ) rfl ⟨Nat.le_of_ble_eq_true rfl, Nat.le_of_ble_eq_true rfl⟩ rfl rfl rfl hl.1 rfl (Nat.le_of_ble_eq_true rfl) dX12_holdsAs_58 ⟨Nat.zero_le _, Nat.zero_le _⟩ (fun σ1 τ1 H locs h1 hP hS => ?_)
  obtain ⟨rfl, f3, f4, f5, m6, m7, h1⟩ := h1
  refine lv_aload_n hx hb dX12_holdsAs_61 rfl (lv_at hl 0 rfl) ?_
  refine lv_aload_n hx hb dX12_holdsAs_62 rfl (lv_at hl 0 rfl) ?_
  refine va_get (D := D) hx hb hts inlX12 hown hK hP 55 (jc_55 cI cL ad σ1 τ) rfl 56 (of_decide_eq_true rfl) (hts _ kw_49_8) (fun _ h9 => h9) rfl dX12_holdsAs_63 ?_
  have m9 : σ1 55 56 = (σ 55 56) := (f4 56 (of_decide_eq_true rfl))
  refine jtopr m9 ?_
  exact by
   refine jtopr (jsame (rfl : (σ 55 56).toInt = (σ 55 56).toInt) jz_1 (by omega)) ?_
   refine lv_iload_n hx hb dX12_holdsAs_66 rfl (lv_at hl 2 rfl) ?_
   have z10 : (σ1 55 56).toInt = (σ 55 56).toInt := (congrArg Int32.toInt (show σ1 55 56 = (σ 55 56) from m9))
   refine jcallV (As := [.int 1, .int a2]) (rest := []) ⟨hx, hb, hml, hown, hts⟩ hK hP hA hS hZ (c_X12_putsAs_1_1_1 l D cI cL ad zz hJ σ1 τ a2 (A2) t2 m6 (by omega)) cw_RX12_382 (jc_55 cI cL ad σ1 τ) rfl ⟨Nat.le_of_ble_eq_true rfl, Nat.le_of_ble_eq_true rfl⟩ rfl rfl rfl hl.1 rfl (Nat.le_of_ble_eq_true rfl) dX12_holdsAs_67 ⟨Nat.zero_le _, Nat.zero_le _⟩ (fun r12 σ11 τ11 H locs h11 hP hS => ?_)
   obtain ⟨rfl, f13, f14, f15, m16, m17, m18, h11⟩ := h11
   have h20 := h11
   obtain ⟨q22, k21⟩ := h20
   have q22 := q22.symm
   subst q22
   exact by
    refine lv_iconst (v := 2) hx hb dX12_holdsAs_70 (of_decide_eq_true rfl) ?_
    have g23 := jrg (rfl : ((a2 + (σ1 55 57)) + 3).toInt = ((a2 + (σ1 55 57)) + 3).toInt)
    refine lv_imul hx hb dX12_holdsAs_71 ?_
    refine lv_topi (fun x24 ex24 => ?_)
    have gx24 := jrg (rfl : x24.toInt = x24.toInt)
    have m25 : σ11 85 0 = 10 := ((f15 0 (of_decide_eq_true rfl)).trans m7)
    exact hret x24 σ11 τ _ _ _ _ rfl ⟨rfl, (fun i hi => ((f13 i hi).trans (f3 i hi))), (fun i hi => ((f14 i hi).trans (f4 i hi))), (fun i hi => ((f15 i (imp_49 i hi)).trans (f5 i (imp_354 i hi)))), m16, m25, m17, m18, ⟨(by rw [ex24, (show σ1 55 57 = σ 55 57 from (f4 57 (of_decide_eq_true rfl)))]), trivial⟩⟩ hP hS dX12_holdsAs_72
set_option maxHeartbeats 4000000 in
set_option maxRecDepth 100000 in
theorem c_X12_givesAs_1_1_0 (l : Launch) (D : va_G) (cI cL : ClassId) (ad zz : Nat → Nat) (hJ : jD ad) (σ : Nat → Nat → Int32) (τ : Nat → Nat → Int64) (a2 : Int32) (A2 : Int) (t2 : a2.toInt = A2) (h55_55 : σ 55 55 = 0) (hp0 : (σ 55 56).toInt = 1) : jM l yX12_givesAs cX12_givesAs 4 (some .int) ({ frames := 1, cells := 0, slots := 0, locals := 21 }) D cI cL ad zz [.ref (ad 55), .int 1, .int a2] σ τ (fun r σ' τ' => τ = τ' ∧ (∀ i : Nat, (i < 55 ∨ 55 < i) ∧ (i < 85 ∨ 85 < i) → σ' i = σ i) ∧ (∀ k : Nat, (k < 55 ∨ 55 < k) → σ' 55 k = σ 55 k) ∧ (∀ k : Nat, (k < 0 ∨ 0 < k) → σ' 85 k = σ 85 k) ∧ (σ' 55 55 = 1) ∧ (σ' 85 0 = 11) ∧ ((r = (a2 ^^^ (σ 55 57)) ∧ True))) := by
  refine jM.of hJ (by decide +kernel) (nt := .int) rfl (Nat.le_of_ble_eq_true rfl) ?_
  intro p e s m args below meth c Q ls hC hret hl hP
  obtain ⟨hx, hb, hr, hml, hown, hts, hK, -, hlocks, hZ⟩ := hC
  have hown : s.vm.findClass RX12 = some m.cls := hown
  have hS : va_S (jA ad) s.heap s.heap [] := va_S.rf
  have hA : ∀ q, jA ad q → jA ad q := fun _ h => h
  have hl : lv_has ls 4 [(0, .ref (ad 55)), (1, .int 1), (2, .int a2)] := hl
  have g2 := jrg t2
  refine lv_iload_n hx hb dX12_givesAs_0 rfl (lv_at hl 1 rfl) ?_
  refine lv_iconst (v := 5) hx hb dX12_givesAs_1 (of_decide_eq_true rfl) ?_
  refine lv_icmp_ne (tgt := 30) hx hb dX12_givesAs_2 (of_decide_eq_true rfl) (fun _ => ?_) (fun c => absurd c (of_decide_eq_true rfl))
  refine lv_iload_n hx hb dX12_givesAs_30 rfl (lv_at hl 1 rfl) ?_
  refine lv_iconst (v := 2) hx hb dX12_givesAs_31 (of_decide_eq_true rfl) ?_
  refine lv_icmp_eq (tgt := 40) hx hb dX12_givesAs_32 (of_decide_eq_true rfl) (fun c => absurd c (of_decide_eq_true rfl)) (fun _ => ?_)
  refine lv_iload_n hx hb dX12_givesAs_35 rfl (lv_at hl 1 rfl) ?_
  refine lv_iconst (v := 3) hx hb dX12_givesAs_36 (of_decide_eq_true rfl) ?_
  refine lv_icmp_ne (tgt := 55) hx hb dX12_givesAs_37 (of_decide_eq_true rfl) (fun _ => ?_) (fun c => absurd c (of_decide_eq_true rfl))
  refine lv_aload_n hx hb dX12_givesAs_55 rfl (lv_at hl 0 rfl) ?_
  refine lv_bipush (v := 11) hx hb dX12_givesAs_56 (of_decide_eq_true rfl) ?_
  refine jcallVv (As := [.int 11]) (rest := []) ⟨hx, hb, hml, hown, hts⟩ hK hP hA hS hZ (c_X12_begins_11_0 l D cI cL ad zz hJ σ τ h55_55) cw_RX12_379 (jc_55 cI cL ad σ τ) rfl ⟨Nat.le_of_ble_eq_true rfl, Nat.le_of_ble_eq_true rfl⟩ rfl rfl rfl hl.1 rfl (Nat.le_of_ble_eq_true rfl) dX12_givesAs_58 ⟨Nat.zero_le _, Nat.zero_le _⟩ (fun σ1 τ1 H locs h1 hP hS => ?_)
  obtain ⟨rfl, f3, f4, f5, m6, m7, h1⟩ := h1
  refine lv_iload_n hx hb dX12_givesAs_61 rfl (lv_at hl 2 rfl) ?_
  refine lv_aload_n hx hb dX12_givesAs_62 rfl (lv_at hl 0 rfl) ?_
  refine va_get (D := D) hx hb hts inlX12 hown hK hP 55 (jc_55 cI cL ad σ1 τ) rfl 57 (of_decide_eq_true rfl) (hts _ kw_49_9) (fun _ h9 => h9) rfl dX12_givesAs_63 ?_
  have m9 : σ1 55 57 = (σ 55 57) := (f4 57 (of_decide_eq_true rfl))
  refine jtopr m9 ?_
  refine lv_ixor hx hb dX12_givesAs_66 ?_
  refine lv_topi (fun x10 ex10 => ?_)
  have gx10 := jrg (rfl : x10.toInt = x10.toInt)
  exact hret x10 σ1 τ _ _ _ _ rfl ⟨rfl, (fun i hi => (f3 i hi)), (fun i hi => (f4 i hi)), (fun i hi => (f5 i hi)), m6, m7, ⟨(by rw [ex10]), trivial⟩⟩ hP hS dX12_givesAs_67
set_option maxHeartbeats 4000000 in
set_option maxRecDepth 100000 in
theorem c_X12_begins_20_2 (l : Launch) (D : va_G) (cI cL : ClassId) (ad zz : Nat → Nat) (hJ : jD ad) (σ : Nat → Nat → Int32) (τ : Nat → Nat → Int64) (h55_55 : σ 55 55 = 2) : jMv l yX12_begins cX12_begins 2 none ({ frames := 0, cells := 0, slots := 0, locals := 0 }) D cI cL ad zz [.ref (ad 55), .int 20] σ τ (fun σ' τ' => τ = τ' ∧ (∀ i : Nat, (i < 55 ∨ 55 < i) ∧ (i < 85 ∨ 85 < i) → σ' i = σ i) ∧ (∀ k : Nat, (k < 55 ∨ 55 < k) → σ' 55 k = σ 55 k) ∧ (∀ k : Nat, (k < 2 ∨ 2 < k) → σ' 85 k = σ 85 k) ∧ (σ' 55 55 = 3) ∧ (σ' 85 2 = 20) ∧ True) := by
  refine jMv.of hJ (by decide +kernel) rfl (Nat.le_of_ble_eq_true rfl) ?_
  intro p e s m args below meth c Q ls hC hret hl hP
  obtain ⟨hx, hb, hr, hml, hown, hts, hK, -, hlocks, hZ⟩ := hC
  have hown : s.vm.findClass RX12 = some m.cls := hown
  have hS : va_S (jA ad) s.heap s.heap [] := va_S.rf
  have hA : ∀ q, jA ad q → jA ad q := fun _ h => h
  have hl : lv_has ls 2 [(0, .ref (ad 55)), (1, .int 20)] := hl
  refine lv_aload_n hx hb dX12_begins_0 rfl (lv_at hl 0 rfl) ?_
  refine va_get (D := D) hx hb hts inlX12 hown hK hP 55 (jc_55 cI cL ad σ τ) rfl 55 (of_decide_eq_true rfl) (hts _ kw_49_7) (fun _ h9 => h9) rfl dX12_begins_1 ?_
  refine jtopr h55_55 ?_
  refine lv_bipush (v := 24) hx hb dX12_begins_4 (of_decide_eq_true rfl) ?_
  refine lv_icmp_ge (tgt := 19) hx hb dX12_begins_6 (of_decide_eq_true rfl) (fun c => absurd c (of_decide_eq_true rfl)) (fun _ => ?_)
  refine lv_aload_n hx hb dX12_begins_9 rfl (lv_at hl 0 rfl) ?_
  refine va_get (D := D) hx hb hts inlX12 hown hK hP 55 (jc_55 cI cL ad σ τ) rfl 54 (of_decide_eq_true rfl) (hts _ kw_8_10) (fun _ h9 => h9) rfl dX12_begins_10 ?_
  refine lv_aload_n hx hb dX12_begins_13 rfl (lv_at hl 0 rfl) ?_
  refine va_get (D := D) hx hb hts inlX12 hown hK hP 55 (jc_55 cI cL ad σ τ) rfl 55 (of_decide_eq_true rfl) (hts _ kw_49_7) (fun _ h9 => h9) rfl dX12_begins_14 ?_
  refine jtopr h55_55 ?_
  refine lv_iload_n hx hb dX12_begins_17 rfl (lv_at hl 1 rfl) ?_
  exact by
   refine jast hx hb hK hP hJ hA hS (jc_85 cI cL ad σ τ) (ja_85 cI cL ad σ τ _ _) (jin jz_2 (by omega) (by omega)) dX12_begins_18 (fun σ1 H locs eσ1 hP hS => ?_)
   have eσ1 : σ1 = jup σ 85 2 20 := eσ1
   refine lv_aload_n hx hb dX12_begins_19 rfl (lv_at hl 0 rfl) ?_
   refine lv_dup hx hb dX12_begins_20 rfl ?_
   refine va_get (D := D) hx hb hts inlX12 hown hK hP 55 (jc_55 cI cL ad σ1 τ) rfl 55 (of_decide_eq_true rfl) (hts _ kw_49_7) (fun _ h9 => h9) rfl dX12_begins_21 ?_
   have m2 : σ1 55 55 = 2 := ((congrFun (jnp 55 eσ1 (of_decide_eq_true rfl)) 55).trans h55_55)
   refine jtopr m2 ?_
   refine lv_iconst (v := 1) hx hb dX12_begins_24 (of_decide_eq_true rfl) ?_
   refine lv_iadd hx hb dX12_begins_25 ?_
   refine jtopr (y := 3) (of_decide_eq_true rfl) ?_
   refine jput (ty := .int) hx hb hts inlX12 tyX12 tyX12_ok nmX12 hown hK hP hJ hA hS (jc_55 cI cL ad σ1 τ) rfl (k := 55) (of_decide_eq_true rfl) (Nat.le_of_ble_eq_true rfl) (jp_55_55 cI cL ad σ1 τ 3) (hts _ kw_49_7) (fun _ h9 => h9) rfl (by decide +kernel) rfl rfl dX12_begins_26 (fun σ3 H locs eσ3 hP hS => ?_)
   have m4 : σ3 55 55 = 3 := (jsp eσ3)
   have m5 : σ3 85 2 = 20 := ((congrFun (jnp 85 eσ3 (of_decide_eq_true rfl)) 2).trans (jsp eσ1))
   exact hret σ3 τ _ _ _ _ ⟨rfl, (fun i hi => ((jnp i eσ3 (imp_350 i hi)).trans (jnp i eσ1 (imp_351 i hi)))), (fun i hi => ((jkp i eσ3 (imp_165 i hi)).trans (congrFun (jnp 55 eσ1 (of_decide_eq_true rfl)) i))), (fun i hi => ((congrFun (jnp 85 eσ3 (of_decide_eq_true rfl)) i).trans (jkp i eσ1 (imp_7 i hi)))), m4, m5, trivial⟩ hP hS dX12_begins_29
set_option maxHeartbeats 4000000 in
set_option maxRecDepth 100000 in
theorem c_X12_begins_1_3 (l : Launch) (D : va_G) (cI cL : ClassId) (ad zz : Nat → Nat) (hJ : jD ad) (σ : Nat → Nat → Int32) (τ : Nat → Nat → Int64) (h55_55 : σ 55 55 = 3) : jMv l yX12_begins cX12_begins 2 none ({ frames := 0, cells := 0, slots := 0, locals := 0 }) D cI cL ad zz [.ref (ad 55), .int 1] σ τ (fun σ' τ' => τ = τ' ∧ (∀ i : Nat, (i < 55 ∨ 55 < i) ∧ (i < 85 ∨ 85 < i) → σ' i = σ i) ∧ (∀ k : Nat, (k < 55 ∨ 55 < k) → σ' 55 k = σ 55 k) ∧ (∀ k : Nat, (k < 3 ∨ 3 < k) → σ' 85 k = σ 85 k) ∧ (σ' 55 55 = 4) ∧ (σ' 85 3 = 1) ∧ True) := by
  refine jMv.of hJ (by decide +kernel) rfl (Nat.le_of_ble_eq_true rfl) ?_
  intro p e s m args below meth c Q ls hC hret hl hP
  obtain ⟨hx, hb, hr, hml, hown, hts, hK, -, hlocks, hZ⟩ := hC
  have hown : s.vm.findClass RX12 = some m.cls := hown
  have hS : va_S (jA ad) s.heap s.heap [] := va_S.rf
  have hA : ∀ q, jA ad q → jA ad q := fun _ h => h
  have hl : lv_has ls 2 [(0, .ref (ad 55)), (1, .int 1)] := hl
  refine lv_aload_n hx hb dX12_begins_0 rfl (lv_at hl 0 rfl) ?_
  refine va_get (D := D) hx hb hts inlX12 hown hK hP 55 (jc_55 cI cL ad σ τ) rfl 55 (of_decide_eq_true rfl) (hts _ kw_49_7) (fun _ h9 => h9) rfl dX12_begins_1 ?_
  refine jtopr h55_55 ?_
  refine lv_bipush (v := 24) hx hb dX12_begins_4 (of_decide_eq_true rfl) ?_
  refine lv_icmp_ge (tgt := 19) hx hb dX12_begins_6 (of_decide_eq_true rfl) (fun c => absurd c (of_decide_eq_true rfl)) (fun _ => ?_)
  refine lv_aload_n hx hb dX12_begins_9 rfl (lv_at hl 0 rfl) ?_
  refine va_get (D := D) hx hb hts inlX12 hown hK hP 55 (jc_55 cI cL ad σ τ) rfl 54 (of_decide_eq_true rfl) (hts _ kw_8_10) (fun _ h9 => h9) rfl dX12_begins_10 ?_
  refine lv_aload_n hx hb dX12_begins_13 rfl (lv_at hl 0 rfl) ?_
  refine va_get (D := D) hx hb hts inlX12 hown hK hP 55 (jc_55 cI cL ad σ τ) rfl 55 (of_decide_eq_true rfl) (hts _ kw_49_7) (fun _ h9 => h9) rfl dX12_begins_14 ?_
  refine jtopr h55_55 ?_
  refine lv_iload_n hx hb dX12_begins_17 rfl (lv_at hl 1 rfl) ?_
  exact by
   refine jast hx hb hK hP hJ hA hS (jc_85 cI cL ad σ τ) (ja_85 cI cL ad σ τ _ _) (jin jz_3 (by omega) (by omega)) dX12_begins_18 (fun σ1 H locs eσ1 hP hS => ?_)
   have eσ1 : σ1 = jup σ 85 3 1 := eσ1
   refine lv_aload_n hx hb dX12_begins_19 rfl (lv_at hl 0 rfl) ?_
   refine lv_dup hx hb dX12_begins_20 rfl ?_
   refine va_get (D := D) hx hb hts inlX12 hown hK hP 55 (jc_55 cI cL ad σ1 τ) rfl 55 (of_decide_eq_true rfl) (hts _ kw_49_7) (fun _ h9 => h9) rfl dX12_begins_21 ?_
   have m2 : σ1 55 55 = 3 := ((congrFun (jnp 55 eσ1 (of_decide_eq_true rfl)) 55).trans h55_55)
   refine jtopr m2 ?_
   refine lv_iconst (v := 1) hx hb dX12_begins_24 (of_decide_eq_true rfl) ?_
   refine lv_iadd hx hb dX12_begins_25 ?_
   refine jtopr (y := 4) (of_decide_eq_true rfl) ?_
   refine jput (ty := .int) hx hb hts inlX12 tyX12 tyX12_ok nmX12 hown hK hP hJ hA hS (jc_55 cI cL ad σ1 τ) rfl (k := 55) (of_decide_eq_true rfl) (Nat.le_of_ble_eq_true rfl) (jp_55_55 cI cL ad σ1 τ 4) (hts _ kw_49_7) (fun _ h9 => h9) rfl (by decide +kernel) rfl rfl dX12_begins_26 (fun σ3 H locs eσ3 hP hS => ?_)
   have m4 : σ3 55 55 = 4 := (jsp eσ3)
   have m5 : σ3 85 3 = 1 := ((congrFun (jnp 85 eσ3 (of_decide_eq_true rfl)) 3).trans (jsp eσ1))
   exact hret σ3 τ _ _ _ _ ⟨rfl, (fun i hi => ((jnp i eσ3 (imp_350 i hi)).trans (jnp i eσ1 (imp_351 i hi)))), (fun i hi => ((jkp i eσ3 (imp_165 i hi)).trans (congrFun (jnp 55 eσ1 (of_decide_eq_true rfl)) i))), (fun i hi => ((congrFun (jnp 85 eσ3 (of_decide_eq_true rfl)) i).trans (jkp i eσ1 (imp_308 i hi)))), m4, m5, trivial⟩ hP hS dX12_begins_29
set_option maxHeartbeats 4000000 in
set_option maxRecDepth 100000 in
theorem c_X12_putsAs_1_0_3 (l : Launch) (D : va_G) (cI cL : ClassId) (ad zz : Nat → Nat) (hJ : jD ad) (σ : Nat → Nat → Int32) (τ : Nat → Nat → Int64) (a2 : Int32) (A2 : Int) (t2 : a2.toInt = A2) (h55_55 : σ 55 55 = 3) (hp0 : (σ 55 56).toInt = 1) : jM l yX12_putsAs cX12_putsAs 3 (some .int) ({ frames := 1, cells := 0, slots := 0, locals := 21 }) D cI cL ad zz [.ref (ad 55), .int 0, .int a2] σ τ (fun r σ' τ' => τ = τ' ∧ (∀ i : Nat, (i < 55 ∨ 55 < i) ∧ (i < 85 ∨ 85 < i) → σ' i = σ i) ∧ (∀ k : Nat, (k < 55 ∨ 55 < k) → σ' 55 k = σ 55 k) ∧ (∀ k : Nat, (k < 3 ∨ 3 < k) → σ' 85 k = σ 85 k) ∧ (σ' 55 55 = 4) ∧ (σ' 85 3 = 1) ∧ ((r = (a2 + (σ 55 57)) ∧ True))) := by
  refine jM.of hJ (by decide +kernel) (nt := .int) rfl (Nat.le_of_ble_eq_true rfl) ?_
  intro p e s m args below meth c Q ls hC hret hl hP
  obtain ⟨hx, hb, hr, hml, hown, hts, hK, -, hlocks, hZ⟩ := hC
  have hown : s.vm.findClass RX12 = some m.cls := hown
  have hS : va_S (jA ad) s.heap s.heap [] := va_S.rf
  have hA : ∀ q, jA ad q → jA ad q := fun _ h => h
  have hl : lv_has ls 3 [(0, .ref (ad 55)), (1, .int 0), (2, .int a2)] := hl
  have g2 := jrg t2
  refine lv_iload_n hx hb dX12_putsAs_0 rfl (lv_at hl 1 rfl) ?_
  refine lv_iconst (v := 4) hx hb dX12_putsAs_1 (of_decide_eq_true rfl) ?_
  refine lv_icmp_ne (tgt := 20) hx hb dX12_putsAs_2 (of_decide_eq_true rfl) (fun _ => ?_) (fun c => absurd c (of_decide_eq_true rfl))
  refine lv_iload_n hx hb dX12_putsAs_20 rfl (lv_at hl 1 rfl) ?_
  refine lv_iconst (v := 1) hx hb dX12_putsAs_21 (of_decide_eq_true rfl) ?_
  refine lv_icmp_ne (tgt := 40) hx hb dX12_putsAs_22 (of_decide_eq_true rfl) (fun _ => ?_) (fun c => absurd c (of_decide_eq_true rfl))
  refine lv_aload_n hx hb dX12_putsAs_40 rfl (lv_at hl 0 rfl) ?_
  refine lv_iconst (v := 1) hx hb dX12_putsAs_41 (of_decide_eq_true rfl) ?_
  refine jcallVv (As := [.int 1]) (rest := []) ⟨hx, hb, hml, hown, hts⟩ hK hP hA hS hZ (c_X12_begins_1_3 l D cI cL ad zz hJ σ τ h55_55) cw_RX12_379 (jc_55 cI cL ad σ τ) rfl ⟨Nat.le_of_ble_eq_true rfl, Nat.le_of_ble_eq_true rfl⟩ rfl rfl rfl hl.1 rfl (Nat.le_of_ble_eq_true rfl) dX12_putsAs_42 ⟨Nat.zero_le _, Nat.zero_le _⟩ (fun σ1 τ1 H locs h1 hP hS => ?_)
  obtain ⟨rfl, f3, f4, f5, m6, m7, h1⟩ := h1
  refine lv_iload_n hx hb dX12_putsAs_45 rfl (lv_at hl 2 rfl) ?_
  refine lv_aload_n hx hb dX12_putsAs_46 rfl (lv_at hl 0 rfl) ?_
  refine va_get (D := D) hx hb hts inlX12 hown hK hP 55 (jc_55 cI cL ad σ1 τ) rfl 57 (of_decide_eq_true rfl) (hts _ kw_49_9) (fun _ h9 => h9) rfl dX12_putsAs_47 ?_
  have m9 : σ1 55 57 = (σ 55 57) := (f4 57 (of_decide_eq_true rfl))
  refine jtopr m9 ?_
  have g10 := jrg (rfl : (σ 55 57).toInt = (σ 55 57).toInt)
  refine lv_iadd hx hb dX12_putsAs_50 ?_
  refine lv_topi (fun x11 ex11 => ?_)
  have gx11 := jrg (rfl : x11.toInt = x11.toInt)
  exact hret x11 σ1 τ _ _ _ _ rfl ⟨rfl, (fun i hi => (f3 i hi)), (fun i hi => (f4 i hi)), (fun i hi => (f5 i hi)), m6, m7, ⟨(by rw [ex11]), trivial⟩⟩ hP hS dX12_putsAs_51
set_option maxHeartbeats 4000000 in
set_option maxRecDepth 100000 in
theorem c_X12_putsAs_1_1_2 (l : Launch) (D : va_G) (cI cL : ClassId) (ad zz : Nat → Nat) (hJ : jD ad) (σ : Nat → Nat → Int32) (τ : Nat → Nat → Int64) (a2 : Int32) (A2 : Int) (t2 : a2.toInt = A2) (h55_55 : σ 55 55 = 2) (hp0 : (σ 55 56).toInt = 1) : jM l yX12_putsAs cX12_putsAs 3 (some .int) ({ frames := 2, cells := 0, slots := 0, locals := 43 }) D cI cL ad zz [.ref (ad 55), .int 1, .int a2] σ τ (fun r σ' τ' => τ = τ' ∧ (∀ i : Nat, (i < 55 ∨ 55 < i) ∧ (i < 85 ∨ 85 < i) → σ' i = σ i) ∧ (∀ k : Nat, (k < 55 ∨ 55 < k) → σ' 55 k = σ 55 k) ∧ (∀ k : Nat, (k < 2 ∨ 2 < k) ∧ (k < 3 ∨ 3 < k) → σ' 85 k = σ 85 k) ∧ (σ' 55 55 = 4) ∧ (σ' 85 2 = 20) ∧ (σ' 85 3 = 1) ∧ ((r = ((a2 + (σ 55 57)) + 3) ∧ True))) := by
  refine jM.of hJ (by decide +kernel) (nt := .int) rfl (Nat.le_of_ble_eq_true rfl) ?_
  intro p e s m args below meth c Q ls hC hret hl hP
  obtain ⟨hx, hb, hr, hml, hown, hts, hK, -, hlocks, hZ⟩ := hC
  have hown : s.vm.findClass RX12 = some m.cls := hown
  have hS : va_S (jA ad) s.heap s.heap [] := va_S.rf
  have hA : ∀ q, jA ad q → jA ad q := fun _ h => h
  have hl : lv_has ls 3 [(0, .ref (ad 55)), (1, .int 1), (2, .int a2)] := hl
  have g2 := jrg t2
  refine lv_iload_n hx hb dX12_putsAs_0 rfl (lv_at hl 1 rfl) ?_
  refine lv_iconst (v := 4) hx hb dX12_putsAs_1 (of_decide_eq_true rfl) ?_
  refine lv_icmp_ne (tgt := 20) hx hb dX12_putsAs_2 (of_decide_eq_true rfl) (fun _ => ?_) (fun c => absurd c (of_decide_eq_true rfl))
  refine lv_iload_n hx hb dX12_putsAs_20 rfl (lv_at hl 1 rfl) ?_
  refine lv_iconst (v := 1) hx hb dX12_putsAs_21 (of_decide_eq_true rfl) ?_
  refine lv_icmp_ne (tgt := 40) hx hb dX12_putsAs_22 (of_decide_eq_true rfl) (fun c => absurd (of_decide_eq_true rfl) c) (fun _ => ?_)
  refine lv_aload_n hx hb dX12_putsAs_25 rfl (lv_at hl 0 rfl) ?_
  refine lv_bipush (v := 20) hx hb dX12_putsAs_26 (of_decide_eq_true rfl) ?_
  refine jcallVv (As := [.int 20]) (rest := []) ⟨hx, hb, hml, hown, hts⟩ hK hP hA hS hZ (c_X12_begins_20_2 l D cI cL ad zz hJ σ τ h55_55) cw_RX12_379 (jc_55 cI cL ad σ τ) rfl ⟨Nat.le_of_ble_eq_true rfl, Nat.le_of_ble_eq_true rfl⟩ rfl rfl rfl hl.1 rfl (Nat.le_of_ble_eq_true rfl) dX12_putsAs_28 ⟨Nat.zero_le _, Nat.zero_le _⟩ (fun σ1 τ1 H locs h1 hP hS => ?_)
  obtain ⟨rfl, f3, f4, f5, m6, m7, h1⟩ := h1
  refine lv_aload_n hx hb dX12_putsAs_31 rfl (lv_at hl 0 rfl) ?_
  refine lv_iconst (v := 0) hx hb dX12_putsAs_32 (of_decide_eq_true rfl) ?_
  refine lv_iload_n hx hb dX12_putsAs_33 rfl (lv_at hl 2 rfl) ?_
  have z9 : (σ1 55 56).toInt = (σ 55 56).toInt := (congrArg Int32.toInt (show σ1 55 56 = (σ 55 56) from (f4 56 (of_decide_eq_true rfl))))
  exact by
   refine jcallV (As := [.int 0, .int a2]) (rest := []) ⟨hx, hb, hml, hown, hts⟩ hK hP hA hS hZ (c_X12_putsAs_1_0_3 l D cI cL ad zz hJ σ1 τ a2 (A2) t2 m6 (by omega)) cw_RX12_382 (jc_55 cI cL ad σ1 τ) rfl ⟨Nat.le_of_ble_eq_true rfl, Nat.le_of_ble_eq_true rfl⟩ rfl rfl rfl hl.1 rfl (Nat.le_of_ble_eq_true rfl) dX12_putsAs_34 ⟨Nat.zero_le _, Nat.zero_le _⟩ (fun r11 σ10 τ10 H locs h10 hP hS => ?_)
   obtain ⟨rfl, f12, f13, f14, m15, m16, h10⟩ := h10
   have h18 := h10
   obtain ⟨q20, k19⟩ := h18
   have q20 := q20.symm
   subst q20
   refine lv_iconst (v := 3) hx hb dX12_putsAs_37 (of_decide_eq_true rfl) ?_
   have g21 := jrg (rfl : (a2 + (σ1 55 57)).toInt = (a2 + (σ1 55 57)).toInt)
   refine lv_iadd hx hb dX12_putsAs_38 ?_
   refine lv_topi (fun x22 ex22 => ?_)
   have gx22 := jrg (rfl : x22.toInt = x22.toInt)
   have m23 : σ10 85 2 = 20 := ((f14 2 (of_decide_eq_true rfl)).trans m7)
   exact hret x22 σ10 τ _ _ _ _ rfl ⟨rfl, (fun i hi => ((f12 i hi).trans (f3 i hi))), (fun i hi => ((f13 i hi).trans (f4 i hi))), (fun i hi => ((f14 i (imp_312 i hi)).trans (f5 i (imp_19 i hi)))), m15, m23, m16, ⟨(by rw [ex22, (show σ1 55 57 = σ 55 57 from (f4 57 (of_decide_eq_true rfl)))]), trivial⟩⟩ hP hS dX12_putsAs_39
set_option maxHeartbeats 4000000 in
set_option maxRecDepth 100000 in
theorem c_X12_holdsAs_1_1_1 (l : Launch) (D : va_G) (cI cL : ClassId) (ad zz : Nat → Nat) (hJ : jD ad) (σ : Nat → Nat → Int32) (τ : Nat → Nat → Int64) (a2 : Int32) (A2 : Int) (t2 : a2.toInt = A2) (h55_55 : σ 55 55 = 1) (hp0 : (σ 55 56).toInt = 1) : jM l yX12_holdsAs cX12_holdsAs 4 (some .int) ({ frames := 3, cells := 0, slots := 0, locals := 65 }) D cI cL ad zz [.ref (ad 55), .int 1, .int a2] σ τ (fun r σ' τ' => τ = τ' ∧ (∀ i : Nat, (i < 55 ∨ 55 < i) ∧ (i < 85 ∨ 85 < i) → σ' i = σ i) ∧ (∀ k : Nat, (k < 55 ∨ 55 < k) → σ' 55 k = σ 55 k) ∧ (∀ k : Nat, (k < 1 ∨ 1 < k) ∧ (k < 2 ∨ 2 < k) ∧ (k < 3 ∨ 3 < k) → σ' 85 k = σ 85 k) ∧ (σ' 55 55 = 4) ∧ (σ' 85 1 = 10) ∧ (σ' 85 2 = 20) ∧ (σ' 85 3 = 1) ∧ ((r = (((a2 + (σ 55 57)) + 3) * 2) ∧ True))) := by
  refine jM.of hJ (by decide +kernel) (nt := .int) rfl (Nat.le_of_ble_eq_true rfl) ?_
  intro p e s m args below meth c Q ls hC hret hl hP
  obtain ⟨hx, hb, hr, hml, hown, hts, hK, -, hlocks, hZ⟩ := hC
  have hown : s.vm.findClass RX12 = some m.cls := hown
  have hS : va_S (jA ad) s.heap s.heap [] := va_S.rf
  have hA : ∀ q, jA ad q → jA ad q := fun _ h => h
  have hl : lv_has ls 4 [(0, .ref (ad 55)), (1, .int 1), (2, .int a2)] := hl
  have g2 := jrg t2
  refine lv_iload_n hx hb dX12_holdsAs_0 rfl (lv_at hl 1 rfl) ?_
  refine lv_iconst (v := 3) hx hb dX12_holdsAs_1 (of_decide_eq_true rfl) ?_
  refine lv_icmp_eq (tgt := 10) hx hb dX12_holdsAs_2 (of_decide_eq_true rfl) (fun c => absurd c (of_decide_eq_true rfl)) (fun _ => ?_)
  refine lv_iload_n hx hb dX12_holdsAs_5 rfl (lv_at hl 1 rfl) ?_
  refine lv_iconst (v := 5) hx hb dX12_holdsAs_6 (of_decide_eq_true rfl) ?_
  refine lv_icmp_ne (tgt := 24) hx hb dX12_holdsAs_7 (of_decide_eq_true rfl) (fun _ => ?_) (fun c => absurd c (of_decide_eq_true rfl))
  refine lv_iload_n hx hb dX12_holdsAs_24 rfl (lv_at hl 1 rfl) ?_
  refine lv_bipush (v := 6) hx hb dX12_holdsAs_25 (of_decide_eq_true rfl) ?_
  refine lv_icmp_ne (tgt := 55) hx hb dX12_holdsAs_27 (of_decide_eq_true rfl) (fun _ => ?_) (fun c => absurd c (of_decide_eq_true rfl))
  refine lv_aload_n hx hb dX12_holdsAs_55 rfl (lv_at hl 0 rfl) ?_
  refine lv_bipush (v := 10) hx hb dX12_holdsAs_56 (of_decide_eq_true rfl) ?_
  refine jcallVv (As := [.int 10]) (rest := []) ⟨hx, hb, hml, hown, hts⟩ hK hP hA hS hZ (c_X12_begins_10_1 l D cI cL ad zz hJ σ τ h55_55) cw_RX12_379 (jc_55 cI cL ad σ τ) rfl ⟨Nat.le_of_ble_eq_true rfl, Nat.le_of_ble_eq_true rfl⟩ rfl rfl rfl hl.1 rfl (Nat.le_of_ble_eq_true rfl) dX12_holdsAs_58 ⟨Nat.zero_le _, Nat.zero_le _⟩ (fun σ1 τ1 H locs h1 hP hS => ?_)
  obtain ⟨rfl, f3, f4, f5, m6, m7, h1⟩ := h1
  refine lv_aload_n hx hb dX12_holdsAs_61 rfl (lv_at hl 0 rfl) ?_
  refine lv_aload_n hx hb dX12_holdsAs_62 rfl (lv_at hl 0 rfl) ?_
  refine va_get (D := D) hx hb hts inlX12 hown hK hP 55 (jc_55 cI cL ad σ1 τ) rfl 56 (of_decide_eq_true rfl) (hts _ kw_49_8) (fun _ h9 => h9) rfl dX12_holdsAs_63 ?_
  have m9 : σ1 55 56 = (σ 55 56) := (f4 56 (of_decide_eq_true rfl))
  refine jtopr m9 ?_
  exact by
   refine jtopr (jsame (rfl : (σ 55 56).toInt = (σ 55 56).toInt) jz_1 (by omega)) ?_
   refine lv_iload_n hx hb dX12_holdsAs_66 rfl (lv_at hl 2 rfl) ?_
   have z10 : (σ1 55 56).toInt = (σ 55 56).toInt := (congrArg Int32.toInt (show σ1 55 56 = (σ 55 56) from m9))
   refine jcallV (As := [.int 1, .int a2]) (rest := []) ⟨hx, hb, hml, hown, hts⟩ hK hP hA hS hZ (c_X12_putsAs_1_1_2 l D cI cL ad zz hJ σ1 τ a2 (A2) t2 m6 (by omega)) cw_RX12_382 (jc_55 cI cL ad σ1 τ) rfl ⟨Nat.le_of_ble_eq_true rfl, Nat.le_of_ble_eq_true rfl⟩ rfl rfl rfl hl.1 rfl (Nat.le_of_ble_eq_true rfl) dX12_holdsAs_67 ⟨Nat.zero_le _, Nat.zero_le _⟩ (fun r12 σ11 τ11 H locs h11 hP hS => ?_)
   obtain ⟨rfl, f13, f14, f15, m16, m17, m18, h11⟩ := h11
   have h20 := h11
   obtain ⟨q22, k21⟩ := h20
   have q22 := q22.symm
   subst q22
   exact by
    refine lv_iconst (v := 2) hx hb dX12_holdsAs_70 (of_decide_eq_true rfl) ?_
    have g23 := jrg (rfl : ((a2 + (σ1 55 57)) + 3).toInt = ((a2 + (σ1 55 57)) + 3).toInt)
    refine lv_imul hx hb dX12_holdsAs_71 ?_
    refine lv_topi (fun x24 ex24 => ?_)
    have gx24 := jrg (rfl : x24.toInt = x24.toInt)
    have m25 : σ11 85 1 = 10 := ((f15 1 (of_decide_eq_true rfl)).trans m7)
    exact hret x24 σ11 τ _ _ _ _ rfl ⟨rfl, (fun i hi => ((f13 i hi).trans (f3 i hi))), (fun i hi => ((f14 i hi).trans (f4 i hi))), (fun i hi => ((f15 i (imp_313 i hi)).trans (f5 i (imp_355 i hi)))), m16, m25, m17, m18, ⟨(by rw [ex24, (show σ1 55 57 = σ 55 57 from (f4 57 (of_decide_eq_true rfl)))]), trivial⟩⟩ hP hS dX12_holdsAs_72
set_option maxHeartbeats 4000000 in
set_option maxRecDepth 100000 in
theorem c_X12_begins_11_4 (l : Launch) (D : va_G) (cI cL : ClassId) (ad zz : Nat → Nat) (hJ : jD ad) (σ : Nat → Nat → Int32) (τ : Nat → Nat → Int64) (h55_55 : σ 55 55 = 4) : jMv l yX12_begins cX12_begins 2 none ({ frames := 0, cells := 0, slots := 0, locals := 0 }) D cI cL ad zz [.ref (ad 55), .int 11] σ τ (fun σ' τ' => τ = τ' ∧ (∀ i : Nat, (i < 55 ∨ 55 < i) ∧ (i < 85 ∨ 85 < i) → σ' i = σ i) ∧ (∀ k : Nat, (k < 55 ∨ 55 < k) → σ' 55 k = σ 55 k) ∧ (∀ k : Nat, (k < 4 ∨ 4 < k) → σ' 85 k = σ 85 k) ∧ (σ' 55 55 = 5) ∧ (σ' 85 4 = 11) ∧ True) := by
  refine jMv.of hJ (by decide +kernel) rfl (Nat.le_of_ble_eq_true rfl) ?_
  intro p e s m args below meth c Q ls hC hret hl hP
  obtain ⟨hx, hb, hr, hml, hown, hts, hK, -, hlocks, hZ⟩ := hC
  have hown : s.vm.findClass RX12 = some m.cls := hown
  have hS : va_S (jA ad) s.heap s.heap [] := va_S.rf
  have hA : ∀ q, jA ad q → jA ad q := fun _ h => h
  have hl : lv_has ls 2 [(0, .ref (ad 55)), (1, .int 11)] := hl
  refine lv_aload_n hx hb dX12_begins_0 rfl (lv_at hl 0 rfl) ?_
  refine va_get (D := D) hx hb hts inlX12 hown hK hP 55 (jc_55 cI cL ad σ τ) rfl 55 (of_decide_eq_true rfl) (hts _ kw_49_7) (fun _ h9 => h9) rfl dX12_begins_1 ?_
  refine jtopr h55_55 ?_
  refine lv_bipush (v := 24) hx hb dX12_begins_4 (of_decide_eq_true rfl) ?_
  refine lv_icmp_ge (tgt := 19) hx hb dX12_begins_6 (of_decide_eq_true rfl) (fun c => absurd c (of_decide_eq_true rfl)) (fun _ => ?_)
  refine lv_aload_n hx hb dX12_begins_9 rfl (lv_at hl 0 rfl) ?_
  refine va_get (D := D) hx hb hts inlX12 hown hK hP 55 (jc_55 cI cL ad σ τ) rfl 54 (of_decide_eq_true rfl) (hts _ kw_8_10) (fun _ h9 => h9) rfl dX12_begins_10 ?_
  refine lv_aload_n hx hb dX12_begins_13 rfl (lv_at hl 0 rfl) ?_
  refine va_get (D := D) hx hb hts inlX12 hown hK hP 55 (jc_55 cI cL ad σ τ) rfl 55 (of_decide_eq_true rfl) (hts _ kw_49_7) (fun _ h9 => h9) rfl dX12_begins_14 ?_
  refine jtopr h55_55 ?_
  refine lv_iload_n hx hb dX12_begins_17 rfl (lv_at hl 1 rfl) ?_
  exact by
   refine jast hx hb hK hP hJ hA hS (jc_85 cI cL ad σ τ) (ja_85 cI cL ad σ τ _ _) (jin jz_4 (by omega) (by omega)) dX12_begins_18 (fun σ1 H locs eσ1 hP hS => ?_)
   have eσ1 : σ1 = jup σ 85 4 11 := eσ1
   refine lv_aload_n hx hb dX12_begins_19 rfl (lv_at hl 0 rfl) ?_
   refine lv_dup hx hb dX12_begins_20 rfl ?_
   refine va_get (D := D) hx hb hts inlX12 hown hK hP 55 (jc_55 cI cL ad σ1 τ) rfl 55 (of_decide_eq_true rfl) (hts _ kw_49_7) (fun _ h9 => h9) rfl dX12_begins_21 ?_
   have m2 : σ1 55 55 = 4 := ((congrFun (jnp 55 eσ1 (of_decide_eq_true rfl)) 55).trans h55_55)
   refine jtopr m2 ?_
   refine lv_iconst (v := 1) hx hb dX12_begins_24 (of_decide_eq_true rfl) ?_
   refine lv_iadd hx hb dX12_begins_25 ?_
   refine jtopr (y := 5) (of_decide_eq_true rfl) ?_
   refine jput (ty := .int) hx hb hts inlX12 tyX12 tyX12_ok nmX12 hown hK hP hJ hA hS (jc_55 cI cL ad σ1 τ) rfl (k := 55) (of_decide_eq_true rfl) (Nat.le_of_ble_eq_true rfl) (jp_55_55 cI cL ad σ1 τ 5) (hts _ kw_49_7) (fun _ h9 => h9) rfl (by decide +kernel) rfl rfl dX12_begins_26 (fun σ3 H locs eσ3 hP hS => ?_)
   have m4 : σ3 55 55 = 5 := (jsp eσ3)
   have m5 : σ3 85 4 = 11 := ((congrFun (jnp 85 eσ3 (of_decide_eq_true rfl)) 4).trans (jsp eσ1))
   exact hret σ3 τ _ _ _ _ ⟨rfl, (fun i hi => ((jnp i eσ3 (imp_350 i hi)).trans (jnp i eσ1 (imp_351 i hi)))), (fun i hi => ((jkp i eσ3 (imp_165 i hi)).trans (congrFun (jnp 55 eσ1 (of_decide_eq_true rfl)) i))), (fun i hi => ((congrFun (jnp 85 eσ3 (of_decide_eq_true rfl)) i).trans (jkp i eσ1 (imp_315 i hi)))), m4, m5, trivial⟩ hP hS dX12_begins_29
set_option maxHeartbeats 4000000 in
set_option maxRecDepth 100000 in
theorem c_X12_givesAs_1_1_4_x1 (l : Launch) (D : va_G) (cI cL : ClassId) (ad zz : Nat → Nat) (hJ : jD ad) (σ : Nat → Nat → Int32) (τ : Nat → Nat → Int64) (h55_55 : σ 55 55 = 4) (hp0 : (σ 55 56).toInt = 1) : jM l yX12_givesAs cX12_givesAs 4 (some .int) ({ frames := 1, cells := 0, slots := 0, locals := 21 }) D cI cL ad zz [.ref (ad 55), .int 1, .int 1] σ τ (fun r σ' τ' => τ = τ' ∧ (∀ i : Nat, (i < 55 ∨ 55 < i) ∧ (i < 85 ∨ 85 < i) → σ' i = σ i) ∧ (∀ k : Nat, (k < 55 ∨ 55 < k) → σ' 55 k = σ 55 k) ∧ (∀ k : Nat, (k < 4 ∨ 4 < k) → σ' 85 k = σ 85 k) ∧ (σ' 55 55 = 5) ∧ (σ' 85 4 = 11) ∧ ((r = (1 ^^^ (σ 55 57)) ∧ True))) := by
  refine jM.of hJ (by decide +kernel) (nt := .int) rfl (Nat.le_of_ble_eq_true rfl) ?_
  intro p e s m args below meth c Q ls hC hret hl hP
  obtain ⟨hx, hb, hr, hml, hown, hts, hK, -, hlocks, hZ⟩ := hC
  have hown : s.vm.findClass RX12 = some m.cls := hown
  have hS : va_S (jA ad) s.heap s.heap [] := va_S.rf
  have hA : ∀ q, jA ad q → jA ad q := fun _ h => h
  have hl : lv_has ls 4 [(0, .ref (ad 55)), (1, .int 1), (2, .int 1)] := hl
  refine lv_iload_n hx hb dX12_givesAs_0 rfl (lv_at hl 1 rfl) ?_
  refine lv_iconst (v := 5) hx hb dX12_givesAs_1 (of_decide_eq_true rfl) ?_
  refine lv_icmp_ne (tgt := 30) hx hb dX12_givesAs_2 (of_decide_eq_true rfl) (fun _ => ?_) (fun c => absurd c (of_decide_eq_true rfl))
  refine lv_iload_n hx hb dX12_givesAs_30 rfl (lv_at hl 1 rfl) ?_
  refine lv_iconst (v := 2) hx hb dX12_givesAs_31 (of_decide_eq_true rfl) ?_
  refine lv_icmp_eq (tgt := 40) hx hb dX12_givesAs_32 (of_decide_eq_true rfl) (fun c => absurd c (of_decide_eq_true rfl)) (fun _ => ?_)
  refine lv_iload_n hx hb dX12_givesAs_35 rfl (lv_at hl 1 rfl) ?_
  refine lv_iconst (v := 3) hx hb dX12_givesAs_36 (of_decide_eq_true rfl) ?_
  refine lv_icmp_ne (tgt := 55) hx hb dX12_givesAs_37 (of_decide_eq_true rfl) (fun _ => ?_) (fun c => absurd c (of_decide_eq_true rfl))
  refine lv_aload_n hx hb dX12_givesAs_55 rfl (lv_at hl 0 rfl) ?_
  refine lv_bipush (v := 11) hx hb dX12_givesAs_56 (of_decide_eq_true rfl) ?_
  refine jcallVv (As := [.int 11]) (rest := []) ⟨hx, hb, hml, hown, hts⟩ hK hP hA hS hZ (c_X12_begins_11_4 l D cI cL ad zz hJ σ τ h55_55) cw_RX12_379 (jc_55 cI cL ad σ τ) rfl ⟨Nat.le_of_ble_eq_true rfl, Nat.le_of_ble_eq_true rfl⟩ rfl rfl rfl hl.1 rfl (Nat.le_of_ble_eq_true rfl) dX12_givesAs_58 ⟨Nat.zero_le _, Nat.zero_le _⟩ (fun σ1 τ1 H locs h1 hP hS => ?_)
  obtain ⟨rfl, f3, f4, f5, m6, m7, h1⟩ := h1
  refine lv_iload_n hx hb dX12_givesAs_61 rfl (lv_at hl 2 rfl) ?_
  refine lv_aload_n hx hb dX12_givesAs_62 rfl (lv_at hl 0 rfl) ?_
  refine va_get (D := D) hx hb hts inlX12 hown hK hP 55 (jc_55 cI cL ad σ1 τ) rfl 57 (of_decide_eq_true rfl) (hts _ kw_49_9) (fun _ h9 => h9) rfl dX12_givesAs_63 ?_
  have m9 : σ1 55 57 = (σ 55 57) := (f4 57 (of_decide_eq_true rfl))
  refine jtopr m9 ?_
  refine lv_ixor hx hb dX12_givesAs_66 ?_
  refine lv_topi (fun x10 ex10 => ?_)
  have gx10 := jrg (rfl : x10.toInt = x10.toInt)
  exact hret x10 σ1 τ _ _ _ _ rfl ⟨rfl, (fun i hi => (f3 i hi)), (fun i hi => (f4 i hi)), (fun i hi => (f5 i hi)), m6, m7, ⟨(by rw [ex10]), trivial⟩⟩ hP hS dX12_givesAs_67
set_option maxHeartbeats 4000000 in
set_option maxRecDepth 100000 in
theorem c_X12_tellsAs_1_1_0 (l : Launch) (D : va_G) (cI cL : ClassId) (ad zz : Nat → Nat) (hJ : jD ad) (σ : Nat → Nat → Int32) (τ : Nat → Nat → Int64) (a2 : Int32) (A2 : Int) (t2 : a2.toInt = A2) (h55_55 : σ 55 55 = 0) (hp0 : (σ 55 56).toInt = 1) : jM l yX12_tellsAs cX12_tellsAs 4 (some .int) ({ frames := 4, cells := 0, slots := 0, locals := 88 }) D cI cL ad zz [.ref (ad 55), .int 1, .int a2] σ τ (fun r σ' τ' => τ = τ' ∧ (∀ i : Nat, (i < 55 ∨ 55 < i) ∧ (i < 85 ∨ 85 < i) → σ' i = σ i) ∧ (∀ k : Nat, (k < 55 ∨ 55 < k) → σ' 55 k = σ 55 k) ∧ (∀ k : Nat, (k < 0 ∨ 0 < k) ∧ (k < 1 ∨ 1 < k) ∧ (k < 2 ∨ 2 < k) ∧ (k < 3 ∨ 3 < k) ∧ (k < 4 ∨ 4 < k) → σ' 85 k = σ 85 k) ∧ (σ' 55 55 = 5) ∧ (σ' 85 0 = 2) ∧ (σ' 85 1 = 10) ∧ (σ' 85 2 = 20) ∧ (σ' 85 3 = 1) ∧ (σ' 85 4 = 11) ∧ ((r = ((((a2 + (σ 55 57)) + 3) * 2) - (1 ^^^ (σ 55 57))) ∧ True))) := by
  refine jM.of hJ (by decide +kernel) (nt := .int) rfl (Nat.le_of_ble_eq_true rfl) ?_
  intro p e s m args below meth c Q ls hC hret hl hP
  obtain ⟨hx, hb, hr, hml, hown, hts, hK, -, hlocks, hZ⟩ := hC
  have hown : s.vm.findClass RX12 = some m.cls := hown
  have hS : va_S (jA ad) s.heap s.heap [] := va_S.rf
  have hA : ∀ q, jA ad q → jA ad q := fun _ h => h
  have hl : lv_has ls 4 [(0, .ref (ad 55)), (1, .int 1), (2, .int a2)] := hl
  have g2 := jrg t2
  refine lv_iload_n hx hb dX12_tellsAs_0 rfl (lv_at hl 1 rfl) ?_
  refine lv_iconst (v := 4) hx hb dX12_tellsAs_1 (of_decide_eq_true rfl) ?_
  refine lv_icmp_ne (tgt := 20) hx hb dX12_tellsAs_2 (of_decide_eq_true rfl) (fun _ => ?_) (fun c => absurd c (of_decide_eq_true rfl))
  refine lv_aload_n hx hb dX12_tellsAs_20 rfl (lv_at hl 0 rfl) ?_
  refine lv_iconst (v := 2) hx hb dX12_tellsAs_21 (of_decide_eq_true rfl) ?_
  refine jcallVv (As := [.int 2]) (rest := []) ⟨hx, hb, hml, hown, hts⟩ hK hP hA hS hZ (c_X12_begins_2_0 l D cI cL ad zz hJ σ τ h55_55) cw_RX12_379 (jc_55 cI cL ad σ τ) rfl ⟨Nat.le_of_ble_eq_true rfl, Nat.le_of_ble_eq_true rfl⟩ rfl rfl rfl hl.1 rfl (Nat.le_of_ble_eq_true rfl) dX12_tellsAs_22 ⟨Nat.zero_le _, Nat.zero_le _⟩ (fun σ1 τ1 H locs h1 hP hS => ?_)
  obtain ⟨rfl, f3, f4, f5, m6, m7, h1⟩ := h1
  refine lv_aload_n hx hb dX12_tellsAs_25 rfl (lv_at hl 0 rfl) ?_
  refine lv_aload_n hx hb dX12_tellsAs_26 rfl (lv_at hl 0 rfl) ?_
  refine va_get (D := D) hx hb hts inlX12 hown hK hP 55 (jc_55 cI cL ad σ1 τ) rfl 56 (of_decide_eq_true rfl) (hts _ kw_49_8) (fun _ h9 => h9) rfl dX12_tellsAs_27 ?_
  have m9 : σ1 55 56 = (σ 55 56) := (f4 56 (of_decide_eq_true rfl))
  refine jtopr m9 ?_
  exact by
   refine jtopr (jsame (rfl : (σ 55 56).toInt = (σ 55 56).toInt) jz_1 (by omega)) ?_
   refine lv_iload_n hx hb dX12_tellsAs_30 rfl (lv_at hl 2 rfl) ?_
   have z10 : (σ1 55 56).toInt = (σ 55 56).toInt := (congrArg Int32.toInt (show σ1 55 56 = (σ 55 56) from m9))
   refine jcallV (As := [.int 1, .int a2]) (rest := []) ⟨hx, hb, hml, hown, hts⟩ hK hP hA hS hZ (c_X12_holdsAs_1_1_1 l D cI cL ad zz hJ σ1 τ a2 (A2) t2 m6 (by omega)) cw_RX12_388 (jc_55 cI cL ad σ1 τ) rfl ⟨Nat.le_of_ble_eq_true rfl, Nat.le_of_ble_eq_true rfl⟩ rfl rfl rfl hl.1 rfl (Nat.le_of_ble_eq_true rfl) dX12_tellsAs_31 ⟨Nat.zero_le _, Nat.zero_le _⟩ (fun r12 σ11 τ11 H locs h11 hP hS => ?_)
   obtain ⟨rfl, f13, f14, f15, m16, m17, m18, m19, h11⟩ := h11
   have h21 := h11
   obtain ⟨q23, k22⟩ := h21
   have q23 := q23.symm
   subst q23
   exact by
    refine lv_istore_n (lv' := [(3, .int (((a2 + (σ1 55 57)) + 3) * 2)), (0, .ref (ad 55)), (1, .int 1), (2, .int a2)]) hx hb dX12_tellsAs_34 rfl hl (of_decide_eq_true rfl) rfl (fun ls hl => ?_)
    refine lv_iload_n hx hb dX12_tellsAs_35 rfl (lv_at hl 0 rfl) ?_
    refine lv_aload_n hx hb dX12_tellsAs_36 rfl (lv_at hl 1 rfl) ?_
    refine lv_aload_n hx hb dX12_tellsAs_37 rfl (lv_at hl 1 rfl) ?_
    refine va_get (D := D) hx hb hts inlX12 hown hK hP 55 (jc_55 cI cL ad σ11 τ) rfl 56 (of_decide_eq_true rfl) (hts _ kw_49_8) (fun _ h9 => h9) rfl dX12_tellsAs_38 ?_
    have m24 : σ11 55 56 = (σ 55 56) := ((f14 56 (of_decide_eq_true rfl)).trans m9)
    refine jtopr m24 ?_
    refine jtopr (jsame (rfl : (σ 55 56).toInt = (σ 55 56).toInt) jz_1 (by omega)) ?_
    refine lv_iconst (v := 1) hx hb dX12_tellsAs_41 (of_decide_eq_true rfl) ?_
    exact by
     have z25 : (σ11 55 56).toInt = (σ 55 56).toInt := (congrArg Int32.toInt (show σ11 55 56 = (σ 55 56) from m24))
     refine jcallV (As := [.int 1, .int 1]) (rest := [.int (((a2 + (σ1 55 57)) + 3) * 2)]) ⟨hx, hb, hml, hown, hts⟩ hK hP hA hS hZ (c_X12_givesAs_1_1_4_x1 l D cI cL ad zz hJ σ11 τ m16 (by omega)) cw_RX12_394 (jc_55 cI cL ad σ11 τ) rfl ⟨Nat.le_of_ble_eq_true rfl, Nat.le_of_ble_eq_true rfl⟩ rfl rfl rfl hl.1 rfl (Nat.le_of_ble_eq_true rfl) dX12_tellsAs_42 ⟨Nat.zero_le _, Nat.zero_le _⟩ (fun r27 σ26 τ26 H locs h26 hP hS => ?_)
     obtain ⟨rfl, f28, f29, f30, m31, m32, h26⟩ := h26
     have h34 := h26
     obtain ⟨q36, k35⟩ := h34
     have q36 := q36.symm
     subst q36
     have g37 := jrg (rfl : (((a2 + (σ1 55 57)) + 3) * 2).toInt = (((a2 + (σ1 55 57)) + 3) * 2).toInt)
     have g38 := jrg (rfl : (1 ^^^ (σ11 55 57)).toInt = (1 ^^^ (σ11 55 57)).toInt)
     exact by
      refine lv_isub hx hb dX12_tellsAs_45 ?_
      refine lv_topi (fun x39 ex39 => ?_)
      have gx39 := jrg (rfl : x39.toInt = x39.toInt)
      have m40 : σ26 85 0 = 2 := ((f30 0 (of_decide_eq_true rfl)).trans ((f15 0 (of_decide_eq_true rfl)).trans m7))
      have m41 : σ26 85 1 = 10 := ((f30 1 (of_decide_eq_true rfl)).trans m17)
      have m42 : σ26 85 2 = 20 := ((f30 2 (of_decide_eq_true rfl)).trans m18)
      have m43 : σ26 85 3 = 1 := ((f30 3 (of_decide_eq_true rfl)).trans m19)
      exact hret x39 σ26 τ _ _ _ _ rfl ⟨rfl, (fun i hi => ((f28 i hi).trans ((f13 i hi).trans (f3 i hi)))), (fun i hi => ((f29 i hi).trans ((f14 i hi).trans (f4 i hi)))), (fun i hi => ((f30 i (imp_316 i hi)).trans ((f15 i (imp_317 i hi)).trans (f5 i (imp_356 i hi))))), m31, m40, m41, m42, m43, m32, ⟨(by rw [ex39, (show σ1 55 57 = σ 55 57 from (f4 57 (of_decide_eq_true rfl))), (show σ11 55 57 = σ 55 57 from ((f14 57 (of_decide_eq_true rfl)).trans (f4 57 (of_decide_eq_true rfl))))]), trivial⟩⟩ hP hS dX12_tellsAs_46
set_option maxHeartbeats 4000000 in
set_option maxRecDepth 100000 in
theorem c_X12_putsAs_2_2_0 (l : Launch) (D : va_G) (cI cL : ClassId) (ad zz : Nat → Nat) (hJ : jD ad) (σ : Nat → Nat → Int32) (τ : Nat → Nat → Int64) (a2 : Int32) (A2 : Int) (t2 : a2.toInt = A2) (h55_55 : σ 55 55 = 0) (hp0 : (σ 55 56).toInt = 2) : jM l yX12_putsAs cX12_putsAs 3 (some .int) ({ frames := 1, cells := 0, slots := 0, locals := 21 }) D cI cL ad zz [.ref (ad 55), .int 2, .int a2] σ τ (fun r σ' τ' => τ = τ' ∧ (∀ i : Nat, (i < 55 ∨ 55 < i) ∧ (i < 85 ∨ 85 < i) → σ' i = σ i) ∧ (∀ k : Nat, (k < 55 ∨ 55 < k) → σ' 55 k = σ 55 k) ∧ (∀ k : Nat, (k < 0 ∨ 0 < k) → σ' 85 k = σ 85 k) ∧ (σ' 55 55 = 1) ∧ (σ' 85 0 = 1) ∧ ((r = (a2 + (σ 55 57)) ∧ True))) := by
  refine jM.of hJ (by decide +kernel) (nt := .int) rfl (Nat.le_of_ble_eq_true rfl) ?_
  intro p e s m args below meth c Q ls hC hret hl hP
  obtain ⟨hx, hb, hr, hml, hown, hts, hK, -, hlocks, hZ⟩ := hC
  have hown : s.vm.findClass RX12 = some m.cls := hown
  have hS : va_S (jA ad) s.heap s.heap [] := va_S.rf
  have hA : ∀ q, jA ad q → jA ad q := fun _ h => h
  have hl : lv_has ls 3 [(0, .ref (ad 55)), (1, .int 2), (2, .int a2)] := hl
  have g2 := jrg t2
  refine lv_iload_n hx hb dX12_putsAs_0 rfl (lv_at hl 1 rfl) ?_
  refine lv_iconst (v := 4) hx hb dX12_putsAs_1 (of_decide_eq_true rfl) ?_
  refine lv_icmp_ne (tgt := 20) hx hb dX12_putsAs_2 (of_decide_eq_true rfl) (fun _ => ?_) (fun c => absurd c (of_decide_eq_true rfl))
  refine lv_iload_n hx hb dX12_putsAs_20 rfl (lv_at hl 1 rfl) ?_
  refine lv_iconst (v := 1) hx hb dX12_putsAs_21 (of_decide_eq_true rfl) ?_
  refine lv_icmp_ne (tgt := 40) hx hb dX12_putsAs_22 (of_decide_eq_true rfl) (fun _ => ?_) (fun c => absurd c (of_decide_eq_true rfl))
  refine lv_aload_n hx hb dX12_putsAs_40 rfl (lv_at hl 0 rfl) ?_
  refine lv_iconst (v := 1) hx hb dX12_putsAs_41 (of_decide_eq_true rfl) ?_
  refine jcallVv (As := [.int 1]) (rest := []) ⟨hx, hb, hml, hown, hts⟩ hK hP hA hS hZ (c_X12_begins_1_0 l D cI cL ad zz hJ σ τ h55_55) cw_RX12_379 (jc_55 cI cL ad σ τ) rfl ⟨Nat.le_of_ble_eq_true rfl, Nat.le_of_ble_eq_true rfl⟩ rfl rfl rfl hl.1 rfl (Nat.le_of_ble_eq_true rfl) dX12_putsAs_42 ⟨Nat.zero_le _, Nat.zero_le _⟩ (fun σ1 τ1 H locs h1 hP hS => ?_)
  obtain ⟨rfl, f3, f4, f5, m6, m7, h1⟩ := h1
  refine lv_iload_n hx hb dX12_putsAs_45 rfl (lv_at hl 2 rfl) ?_
  refine lv_aload_n hx hb dX12_putsAs_46 rfl (lv_at hl 0 rfl) ?_
  refine va_get (D := D) hx hb hts inlX12 hown hK hP 55 (jc_55 cI cL ad σ1 τ) rfl 57 (of_decide_eq_true rfl) (hts _ kw_49_9) (fun _ h9 => h9) rfl dX12_putsAs_47 ?_
  have m9 : σ1 55 57 = (σ 55 57) := (f4 57 (of_decide_eq_true rfl))
  refine jtopr m9 ?_
  have g10 := jrg (rfl : (σ 55 57).toInt = (σ 55 57).toInt)
  refine lv_iadd hx hb dX12_putsAs_50 ?_
  refine lv_topi (fun x11 ex11 => ?_)
  have gx11 := jrg (rfl : x11.toInt = x11.toInt)
  exact hret x11 σ1 τ _ _ _ _ rfl ⟨rfl, (fun i hi => (f3 i hi)), (fun i hi => (f4 i hi)), (fun i hi => (f5 i hi)), m6, m7, ⟨(by rw [ex11]), trivial⟩⟩ hP hS dX12_putsAs_51
set_option maxHeartbeats 4000000 in
set_option maxRecDepth 100000 in
theorem c_X12_putsAs_2_2_1 (l : Launch) (D : va_G) (cI cL : ClassId) (ad zz : Nat → Nat) (hJ : jD ad) (σ : Nat → Nat → Int32) (τ : Nat → Nat → Int64) (a2 : Int32) (A2 : Int) (t2 : a2.toInt = A2) (h55_55 : σ 55 55 = 1) (hp0 : (σ 55 56).toInt = 2) : jM l yX12_putsAs cX12_putsAs 3 (some .int) ({ frames := 1, cells := 0, slots := 0, locals := 21 }) D cI cL ad zz [.ref (ad 55), .int 2, .int a2] σ τ (fun r σ' τ' => τ = τ' ∧ (∀ i : Nat, (i < 55 ∨ 55 < i) ∧ (i < 85 ∨ 85 < i) → σ' i = σ i) ∧ (∀ k : Nat, (k < 55 ∨ 55 < k) → σ' 55 k = σ 55 k) ∧ (∀ k : Nat, (k < 1 ∨ 1 < k) → σ' 85 k = σ 85 k) ∧ (σ' 55 55 = 2) ∧ (σ' 85 1 = 1) ∧ ((r = (a2 + (σ 55 57)) ∧ True))) := by
  refine jM.of hJ (by decide +kernel) (nt := .int) rfl (Nat.le_of_ble_eq_true rfl) ?_
  intro p e s m args below meth c Q ls hC hret hl hP
  obtain ⟨hx, hb, hr, hml, hown, hts, hK, -, hlocks, hZ⟩ := hC
  have hown : s.vm.findClass RX12 = some m.cls := hown
  have hS : va_S (jA ad) s.heap s.heap [] := va_S.rf
  have hA : ∀ q, jA ad q → jA ad q := fun _ h => h
  have hl : lv_has ls 3 [(0, .ref (ad 55)), (1, .int 2), (2, .int a2)] := hl
  have g2 := jrg t2
  refine lv_iload_n hx hb dX12_putsAs_0 rfl (lv_at hl 1 rfl) ?_
  refine lv_iconst (v := 4) hx hb dX12_putsAs_1 (of_decide_eq_true rfl) ?_
  refine lv_icmp_ne (tgt := 20) hx hb dX12_putsAs_2 (of_decide_eq_true rfl) (fun _ => ?_) (fun c => absurd c (of_decide_eq_true rfl))
  refine lv_iload_n hx hb dX12_putsAs_20 rfl (lv_at hl 1 rfl) ?_
  refine lv_iconst (v := 1) hx hb dX12_putsAs_21 (of_decide_eq_true rfl) ?_
  refine lv_icmp_ne (tgt := 40) hx hb dX12_putsAs_22 (of_decide_eq_true rfl) (fun _ => ?_) (fun c => absurd c (of_decide_eq_true rfl))
  refine lv_aload_n hx hb dX12_putsAs_40 rfl (lv_at hl 0 rfl) ?_
  refine lv_iconst (v := 1) hx hb dX12_putsAs_41 (of_decide_eq_true rfl) ?_
  refine jcallVv (As := [.int 1]) (rest := []) ⟨hx, hb, hml, hown, hts⟩ hK hP hA hS hZ (c_X12_begins_1_1 l D cI cL ad zz hJ σ τ h55_55) cw_RX12_379 (jc_55 cI cL ad σ τ) rfl ⟨Nat.le_of_ble_eq_true rfl, Nat.le_of_ble_eq_true rfl⟩ rfl rfl rfl hl.1 rfl (Nat.le_of_ble_eq_true rfl) dX12_putsAs_42 ⟨Nat.zero_le _, Nat.zero_le _⟩ (fun σ1 τ1 H locs h1 hP hS => ?_)
  obtain ⟨rfl, f3, f4, f5, m6, m7, h1⟩ := h1
  refine lv_iload_n hx hb dX12_putsAs_45 rfl (lv_at hl 2 rfl) ?_
  refine lv_aload_n hx hb dX12_putsAs_46 rfl (lv_at hl 0 rfl) ?_
  refine va_get (D := D) hx hb hts inlX12 hown hK hP 55 (jc_55 cI cL ad σ1 τ) rfl 57 (of_decide_eq_true rfl) (hts _ kw_49_9) (fun _ h9 => h9) rfl dX12_putsAs_47 ?_
  have m9 : σ1 55 57 = (σ 55 57) := (f4 57 (of_decide_eq_true rfl))
  refine jtopr m9 ?_
  have g10 := jrg (rfl : (σ 55 57).toInt = (σ 55 57).toInt)
  refine lv_iadd hx hb dX12_putsAs_50 ?_
  refine lv_topi (fun x11 ex11 => ?_)
  have gx11 := jrg (rfl : x11.toInt = x11.toInt)
  exact hret x11 σ1 τ _ _ _ _ rfl ⟨rfl, (fun i hi => (f3 i hi)), (fun i hi => (f4 i hi)), (fun i hi => (f5 i hi)), m6, m7, ⟨(by rw [ex11]), trivial⟩⟩ hP hS dX12_putsAs_51
set_option maxHeartbeats 4000000 in
set_option maxRecDepth 100000 in
theorem c_X12_holdsAs_2_2_0 (l : Launch) (D : va_G) (cI cL : ClassId) (ad zz : Nat → Nat) (hJ : jD ad) (σ : Nat → Nat → Int32) (τ : Nat → Nat → Int64) (a2 : Int32) (A2 : Int) (t2 : a2.toInt = A2) (h55_55 : σ 55 55 = 0) (hp0 : (σ 55 56).toInt = 2) : jM l yX12_holdsAs cX12_holdsAs 4 (some .int) ({ frames := 2, cells := 0, slots := 0, locals := 43 }) D cI cL ad zz [.ref (ad 55), .int 2, .int a2] σ τ (fun r σ' τ' => τ = τ' ∧ (∀ i : Nat, (i < 55 ∨ 55 < i) ∧ (i < 85 ∨ 85 < i) → σ' i = σ i) ∧ (∀ k : Nat, (k < 55 ∨ 55 < k) → σ' 55 k = σ 55 k) ∧ (∀ k : Nat, (k < 0 ∨ 0 < k) ∧ (k < 1 ∨ 1 < k) → σ' 85 k = σ 85 k) ∧ (σ' 55 55 = 2) ∧ (σ' 85 0 = 10) ∧ (σ' 85 1 = 1) ∧ ((r = ((a2 + (σ 55 57)) * 2) ∧ True))) := by
  refine jM.of hJ (by decide +kernel) (nt := .int) rfl (Nat.le_of_ble_eq_true rfl) ?_
  intro p e s m args below meth c Q ls hC hret hl hP
  obtain ⟨hx, hb, hr, hml, hown, hts, hK, -, hlocks, hZ⟩ := hC
  have hown : s.vm.findClass RX12 = some m.cls := hown
  have hS : va_S (jA ad) s.heap s.heap [] := va_S.rf
  have hA : ∀ q, jA ad q → jA ad q := fun _ h => h
  have hl : lv_has ls 4 [(0, .ref (ad 55)), (1, .int 2), (2, .int a2)] := hl
  have g2 := jrg t2
  refine lv_iload_n hx hb dX12_holdsAs_0 rfl (lv_at hl 1 rfl) ?_
  refine lv_iconst (v := 3) hx hb dX12_holdsAs_1 (of_decide_eq_true rfl) ?_
  refine lv_icmp_eq (tgt := 10) hx hb dX12_holdsAs_2 (of_decide_eq_true rfl) (fun c => absurd c (of_decide_eq_true rfl)) (fun _ => ?_)
  refine lv_iload_n hx hb dX12_holdsAs_5 rfl (lv_at hl 1 rfl) ?_
  refine lv_iconst (v := 5) hx hb dX12_holdsAs_6 (of_decide_eq_true rfl) ?_
  refine lv_icmp_ne (tgt := 24) hx hb dX12_holdsAs_7 (of_decide_eq_true rfl) (fun _ => ?_) (fun c => absurd c (of_decide_eq_true rfl))
  refine lv_iload_n hx hb dX12_holdsAs_24 rfl (lv_at hl 1 rfl) ?_
  refine lv_bipush (v := 6) hx hb dX12_holdsAs_25 (of_decide_eq_true rfl) ?_
  refine lv_icmp_ne (tgt := 55) hx hb dX12_holdsAs_27 (of_decide_eq_true rfl) (fun _ => ?_) (fun c => absurd c (of_decide_eq_true rfl))
  refine lv_aload_n hx hb dX12_holdsAs_55 rfl (lv_at hl 0 rfl) ?_
  refine lv_bipush (v := 10) hx hb dX12_holdsAs_56 (of_decide_eq_true rfl) ?_
  refine jcallVv (As := [.int 10]) (rest := []) ⟨hx, hb, hml, hown, hts⟩ hK hP hA hS hZ (c_X12_begins_10_0 l D cI cL ad zz hJ σ τ h55_55) cw_RX12_379 (jc_55 cI cL ad σ τ) rfl ⟨Nat.le_of_ble_eq_true rfl, Nat.le_of_ble_eq_true rfl⟩ rfl rfl rfl hl.1 rfl (Nat.le_of_ble_eq_true rfl) dX12_holdsAs_58 ⟨Nat.zero_le _, Nat.zero_le _⟩ (fun σ1 τ1 H locs h1 hP hS => ?_)
  obtain ⟨rfl, f3, f4, f5, m6, m7, h1⟩ := h1
  refine lv_aload_n hx hb dX12_holdsAs_61 rfl (lv_at hl 0 rfl) ?_
  refine lv_aload_n hx hb dX12_holdsAs_62 rfl (lv_at hl 0 rfl) ?_
  refine va_get (D := D) hx hb hts inlX12 hown hK hP 55 (jc_55 cI cL ad σ1 τ) rfl 56 (of_decide_eq_true rfl) (hts _ kw_49_8) (fun _ h9 => h9) rfl dX12_holdsAs_63 ?_
  have m9 : σ1 55 56 = (σ 55 56) := (f4 56 (of_decide_eq_true rfl))
  refine jtopr m9 ?_
  exact by
   refine jtopr (jsame (rfl : (σ 55 56).toInt = (σ 55 56).toInt) jz_2 (by omega)) ?_
   refine lv_iload_n hx hb dX12_holdsAs_66 rfl (lv_at hl 2 rfl) ?_
   have z10 : (σ1 55 56).toInt = (σ 55 56).toInt := (congrArg Int32.toInt (show σ1 55 56 = (σ 55 56) from m9))
   refine jcallV (As := [.int 2, .int a2]) (rest := []) ⟨hx, hb, hml, hown, hts⟩ hK hP hA hS hZ (c_X12_putsAs_2_2_1 l D cI cL ad zz hJ σ1 τ a2 (A2) t2 m6 (by omega)) cw_RX12_382 (jc_55 cI cL ad σ1 τ) rfl ⟨Nat.le_of_ble_eq_true rfl, Nat.le_of_ble_eq_true rfl⟩ rfl rfl rfl hl.1 rfl (Nat.le_of_ble_eq_true rfl) dX12_holdsAs_67 ⟨Nat.zero_le _, Nat.zero_le _⟩ (fun r12 σ11 τ11 H locs h11 hP hS => ?_)
   obtain ⟨rfl, f13, f14, f15, m16, m17, h11⟩ := h11
   have h19 := h11
   obtain ⟨q21, k20⟩ := h19
   have q21 := q21.symm
   subst q21
   exact by
    refine lv_iconst (v := 2) hx hb dX12_holdsAs_70 (of_decide_eq_true rfl) ?_
    have g22 := jrg (rfl : (a2 + (σ1 55 57)).toInt = (a2 + (σ1 55 57)).toInt)
    refine lv_imul hx hb dX12_holdsAs_71 ?_
    refine lv_topi (fun x23 ex23 => ?_)
    have gx23 := jrg (rfl : x23.toInt = x23.toInt)
    have m24 : σ11 85 0 = 10 := ((f15 0 (of_decide_eq_true rfl)).trans m7)
    exact hret x23 σ11 τ _ _ _ _ rfl ⟨rfl, (fun i hi => ((f13 i hi).trans (f3 i hi))), (fun i hi => ((f14 i hi).trans (f4 i hi))), (fun i hi => ((f15 i (imp_307 i hi)).trans (f5 i (imp_352 i hi)))), m16, m24, m17, ⟨(by rw [ex23, (show σ1 55 57 = σ 55 57 from (f4 57 (of_decide_eq_true rfl)))]), trivial⟩⟩ hP hS dX12_holdsAs_72
set_option maxHeartbeats 4000000 in
set_option maxRecDepth 100000 in
theorem c_X12_begins_30_0 (l : Launch) (D : va_G) (cI cL : ClassId) (ad zz : Nat → Nat) (hJ : jD ad) (σ : Nat → Nat → Int32) (τ : Nat → Nat → Int64) (h55_55 : σ 55 55 = 0) : jMv l yX12_begins cX12_begins 2 none ({ frames := 0, cells := 0, slots := 0, locals := 0 }) D cI cL ad zz [.ref (ad 55), .int 30] σ τ (fun σ' τ' => τ = τ' ∧ (∀ i : Nat, (i < 55 ∨ 55 < i) ∧ (i < 85 ∨ 85 < i) → σ' i = σ i) ∧ (∀ k : Nat, (k < 55 ∨ 55 < k) → σ' 55 k = σ 55 k) ∧ (∀ k : Nat, (k < 0 ∨ 0 < k) → σ' 85 k = σ 85 k) ∧ (σ' 55 55 = 1) ∧ (σ' 85 0 = 30) ∧ True) := by
  refine jMv.of hJ (by decide +kernel) rfl (Nat.le_of_ble_eq_true rfl) ?_
  intro p e s m args below meth c Q ls hC hret hl hP
  obtain ⟨hx, hb, hr, hml, hown, hts, hK, -, hlocks, hZ⟩ := hC
  have hown : s.vm.findClass RX12 = some m.cls := hown
  have hS : va_S (jA ad) s.heap s.heap [] := va_S.rf
  have hA : ∀ q, jA ad q → jA ad q := fun _ h => h
  have hl : lv_has ls 2 [(0, .ref (ad 55)), (1, .int 30)] := hl
  refine lv_aload_n hx hb dX12_begins_0 rfl (lv_at hl 0 rfl) ?_
  refine va_get (D := D) hx hb hts inlX12 hown hK hP 55 (jc_55 cI cL ad σ τ) rfl 55 (of_decide_eq_true rfl) (hts _ kw_49_7) (fun _ h9 => h9) rfl dX12_begins_1 ?_
  refine jtopr h55_55 ?_
  refine lv_bipush (v := 24) hx hb dX12_begins_4 (of_decide_eq_true rfl) ?_
  refine lv_icmp_ge (tgt := 19) hx hb dX12_begins_6 (of_decide_eq_true rfl) (fun c => absurd c (of_decide_eq_true rfl)) (fun _ => ?_)
  refine lv_aload_n hx hb dX12_begins_9 rfl (lv_at hl 0 rfl) ?_
  refine va_get (D := D) hx hb hts inlX12 hown hK hP 55 (jc_55 cI cL ad σ τ) rfl 54 (of_decide_eq_true rfl) (hts _ kw_8_10) (fun _ h9 => h9) rfl dX12_begins_10 ?_
  refine lv_aload_n hx hb dX12_begins_13 rfl (lv_at hl 0 rfl) ?_
  refine va_get (D := D) hx hb hts inlX12 hown hK hP 55 (jc_55 cI cL ad σ τ) rfl 55 (of_decide_eq_true rfl) (hts _ kw_49_7) (fun _ h9 => h9) rfl dX12_begins_14 ?_
  refine jtopr h55_55 ?_
  refine lv_iload_n hx hb dX12_begins_17 rfl (lv_at hl 1 rfl) ?_
  exact by
   refine jast hx hb hK hP hJ hA hS (jc_85 cI cL ad σ τ) (ja_85 cI cL ad σ τ _ _) (jin jz_0 (by omega) (by omega)) dX12_begins_18 (fun σ1 H locs eσ1 hP hS => ?_)
   have eσ1 : σ1 = jup σ 85 0 30 := eσ1
   refine lv_aload_n hx hb dX12_begins_19 rfl (lv_at hl 0 rfl) ?_
   refine lv_dup hx hb dX12_begins_20 rfl ?_
   refine va_get (D := D) hx hb hts inlX12 hown hK hP 55 (jc_55 cI cL ad σ1 τ) rfl 55 (of_decide_eq_true rfl) (hts _ kw_49_7) (fun _ h9 => h9) rfl dX12_begins_21 ?_
   have m2 : σ1 55 55 = 0 := ((congrFun (jnp 55 eσ1 (of_decide_eq_true rfl)) 55).trans h55_55)
   refine jtopr m2 ?_
   refine lv_iconst (v := 1) hx hb dX12_begins_24 (of_decide_eq_true rfl) ?_
   refine lv_iadd hx hb dX12_begins_25 ?_
   refine jtopr (y := 1) (of_decide_eq_true rfl) ?_
   refine jput (ty := .int) hx hb hts inlX12 tyX12 tyX12_ok nmX12 hown hK hP hJ hA hS (jc_55 cI cL ad σ1 τ) rfl (k := 55) (of_decide_eq_true rfl) (Nat.le_of_ble_eq_true rfl) (jp_55_55 cI cL ad σ1 τ 1) (hts _ kw_49_7) (fun _ h9 => h9) rfl (by decide +kernel) rfl rfl dX12_begins_26 (fun σ3 H locs eσ3 hP hS => ?_)
   have m4 : σ3 55 55 = 1 := (jsp eσ3)
   have m5 : σ3 85 0 = 30 := ((congrFun (jnp 85 eσ3 (of_decide_eq_true rfl)) 0).trans (jsp eσ1))
   exact hret σ3 τ _ _ _ _ ⟨rfl, (fun i hi => ((jnp i eσ3 (imp_350 i hi)).trans (jnp i eσ1 (imp_351 i hi)))), (fun i hi => ((jkp i eσ3 (imp_165 i hi)).trans (congrFun (jnp 55 eσ1 (of_decide_eq_true rfl)) i))), (fun i hi => ((congrFun (jnp 85 eσ3 (of_decide_eq_true rfl)) i).trans (jkp i eσ1 (imp_4 i hi)))), m4, m5, trivial⟩ hP hS dX12_begins_29
set_option maxHeartbeats 4000000 in
set_option maxRecDepth 100000 in
theorem c_X12_begins_11_1 (l : Launch) (D : va_G) (cI cL : ClassId) (ad zz : Nat → Nat) (hJ : jD ad) (σ : Nat → Nat → Int32) (τ : Nat → Nat → Int64) (h55_55 : σ 55 55 = 1) : jMv l yX12_begins cX12_begins 2 none ({ frames := 0, cells := 0, slots := 0, locals := 0 }) D cI cL ad zz [.ref (ad 55), .int 11] σ τ (fun σ' τ' => τ = τ' ∧ (∀ i : Nat, (i < 55 ∨ 55 < i) ∧ (i < 85 ∨ 85 < i) → σ' i = σ i) ∧ (∀ k : Nat, (k < 55 ∨ 55 < k) → σ' 55 k = σ 55 k) ∧ (∀ k : Nat, (k < 1 ∨ 1 < k) → σ' 85 k = σ 85 k) ∧ (σ' 55 55 = 2) ∧ (σ' 85 1 = 11) ∧ True) := by
  refine jMv.of hJ (by decide +kernel) rfl (Nat.le_of_ble_eq_true rfl) ?_
  intro p e s m args below meth c Q ls hC hret hl hP
  obtain ⟨hx, hb, hr, hml, hown, hts, hK, -, hlocks, hZ⟩ := hC
  have hown : s.vm.findClass RX12 = some m.cls := hown
  have hS : va_S (jA ad) s.heap s.heap [] := va_S.rf
  have hA : ∀ q, jA ad q → jA ad q := fun _ h => h
  have hl : lv_has ls 2 [(0, .ref (ad 55)), (1, .int 11)] := hl
  refine lv_aload_n hx hb dX12_begins_0 rfl (lv_at hl 0 rfl) ?_
  refine va_get (D := D) hx hb hts inlX12 hown hK hP 55 (jc_55 cI cL ad σ τ) rfl 55 (of_decide_eq_true rfl) (hts _ kw_49_7) (fun _ h9 => h9) rfl dX12_begins_1 ?_
  refine jtopr h55_55 ?_
  refine lv_bipush (v := 24) hx hb dX12_begins_4 (of_decide_eq_true rfl) ?_
  refine lv_icmp_ge (tgt := 19) hx hb dX12_begins_6 (of_decide_eq_true rfl) (fun c => absurd c (of_decide_eq_true rfl)) (fun _ => ?_)
  refine lv_aload_n hx hb dX12_begins_9 rfl (lv_at hl 0 rfl) ?_
  refine va_get (D := D) hx hb hts inlX12 hown hK hP 55 (jc_55 cI cL ad σ τ) rfl 54 (of_decide_eq_true rfl) (hts _ kw_8_10) (fun _ h9 => h9) rfl dX12_begins_10 ?_
  refine lv_aload_n hx hb dX12_begins_13 rfl (lv_at hl 0 rfl) ?_
  refine va_get (D := D) hx hb hts inlX12 hown hK hP 55 (jc_55 cI cL ad σ τ) rfl 55 (of_decide_eq_true rfl) (hts _ kw_49_7) (fun _ h9 => h9) rfl dX12_begins_14 ?_
  refine jtopr h55_55 ?_
  refine lv_iload_n hx hb dX12_begins_17 rfl (lv_at hl 1 rfl) ?_
  exact by
   refine jast hx hb hK hP hJ hA hS (jc_85 cI cL ad σ τ) (ja_85 cI cL ad σ τ _ _) (jin jz_1 (by omega) (by omega)) dX12_begins_18 (fun σ1 H locs eσ1 hP hS => ?_)
   have eσ1 : σ1 = jup σ 85 1 11 := eσ1
   refine lv_aload_n hx hb dX12_begins_19 rfl (lv_at hl 0 rfl) ?_
   refine lv_dup hx hb dX12_begins_20 rfl ?_
   refine va_get (D := D) hx hb hts inlX12 hown hK hP 55 (jc_55 cI cL ad σ1 τ) rfl 55 (of_decide_eq_true rfl) (hts _ kw_49_7) (fun _ h9 => h9) rfl dX12_begins_21 ?_
   have m2 : σ1 55 55 = 1 := ((congrFun (jnp 55 eσ1 (of_decide_eq_true rfl)) 55).trans h55_55)
   refine jtopr m2 ?_
   refine lv_iconst (v := 1) hx hb dX12_begins_24 (of_decide_eq_true rfl) ?_
   refine lv_iadd hx hb dX12_begins_25 ?_
   refine jtopr (y := 2) (of_decide_eq_true rfl) ?_
   refine jput (ty := .int) hx hb hts inlX12 tyX12 tyX12_ok nmX12 hown hK hP hJ hA hS (jc_55 cI cL ad σ1 τ) rfl (k := 55) (of_decide_eq_true rfl) (Nat.le_of_ble_eq_true rfl) (jp_55_55 cI cL ad σ1 τ 2) (hts _ kw_49_7) (fun _ h9 => h9) rfl (by decide +kernel) rfl rfl dX12_begins_26 (fun σ3 H locs eσ3 hP hS => ?_)
   have m4 : σ3 55 55 = 2 := (jsp eσ3)
   have m5 : σ3 85 1 = 11 := ((congrFun (jnp 85 eσ3 (of_decide_eq_true rfl)) 1).trans (jsp eσ1))
   exact hret σ3 τ _ _ _ _ ⟨rfl, (fun i hi => ((jnp i eσ3 (imp_350 i hi)).trans (jnp i eσ1 (imp_351 i hi)))), (fun i hi => ((jkp i eσ3 (imp_165 i hi)).trans (congrFun (jnp 55 eσ1 (of_decide_eq_true rfl)) i))), (fun i hi => ((congrFun (jnp 85 eσ3 (of_decide_eq_true rfl)) i).trans (jkp i eσ1 (imp_42 i hi)))), m4, m5, trivial⟩ hP hS dX12_begins_29
set_option maxHeartbeats 4000000 in
set_option maxRecDepth 100000 in
theorem c_X12_givesAs_2_0_1 (l : Launch) (D : va_G) (cI cL : ClassId) (ad zz : Nat → Nat) (hJ : jD ad) (σ : Nat → Nat → Int32) (τ : Nat → Nat → Int64) (a2 : Int32) (A2 : Int) (t2 : a2.toInt = A2) (h55_55 : σ 55 55 = 1) (hp0 : (σ 55 56).toInt = 2) : jM l yX12_givesAs cX12_givesAs 4 (some .int) ({ frames := 1, cells := 0, slots := 0, locals := 21 }) D cI cL ad zz [.ref (ad 55), .int 0, .int a2] σ τ (fun r σ' τ' => τ = τ' ∧ (∀ i : Nat, (i < 55 ∨ 55 < i) ∧ (i < 85 ∨ 85 < i) → σ' i = σ i) ∧ (∀ k : Nat, (k < 55 ∨ 55 < k) → σ' 55 k = σ 55 k) ∧ (∀ k : Nat, (k < 1 ∨ 1 < k) → σ' 85 k = σ 85 k) ∧ (σ' 55 55 = 2) ∧ (σ' 85 1 = 11) ∧ ((r = (a2 ^^^ (σ 55 57)) ∧ True))) := by
  refine jM.of hJ (by decide +kernel) (nt := .int) rfl (Nat.le_of_ble_eq_true rfl) ?_
  intro p e s m args below meth c Q ls hC hret hl hP
  obtain ⟨hx, hb, hr, hml, hown, hts, hK, -, hlocks, hZ⟩ := hC
  have hown : s.vm.findClass RX12 = some m.cls := hown
  have hS : va_S (jA ad) s.heap s.heap [] := va_S.rf
  have hA : ∀ q, jA ad q → jA ad q := fun _ h => h
  have hl : lv_has ls 4 [(0, .ref (ad 55)), (1, .int 0), (2, .int a2)] := hl
  have g2 := jrg t2
  refine lv_iload_n hx hb dX12_givesAs_0 rfl (lv_at hl 1 rfl) ?_
  refine lv_iconst (v := 5) hx hb dX12_givesAs_1 (of_decide_eq_true rfl) ?_
  refine lv_icmp_ne (tgt := 30) hx hb dX12_givesAs_2 (of_decide_eq_true rfl) (fun _ => ?_) (fun c => absurd c (of_decide_eq_true rfl))
  refine lv_iload_n hx hb dX12_givesAs_30 rfl (lv_at hl 1 rfl) ?_
  refine lv_iconst (v := 2) hx hb dX12_givesAs_31 (of_decide_eq_true rfl) ?_
  refine lv_icmp_eq (tgt := 40) hx hb dX12_givesAs_32 (of_decide_eq_true rfl) (fun c => absurd c (of_decide_eq_true rfl)) (fun _ => ?_)
  refine lv_iload_n hx hb dX12_givesAs_35 rfl (lv_at hl 1 rfl) ?_
  refine lv_iconst (v := 3) hx hb dX12_givesAs_36 (of_decide_eq_true rfl) ?_
  refine lv_icmp_ne (tgt := 55) hx hb dX12_givesAs_37 (of_decide_eq_true rfl) (fun _ => ?_) (fun c => absurd c (of_decide_eq_true rfl))
  refine lv_aload_n hx hb dX12_givesAs_55 rfl (lv_at hl 0 rfl) ?_
  refine lv_bipush (v := 11) hx hb dX12_givesAs_56 (of_decide_eq_true rfl) ?_
  refine jcallVv (As := [.int 11]) (rest := []) ⟨hx, hb, hml, hown, hts⟩ hK hP hA hS hZ (c_X12_begins_11_1 l D cI cL ad zz hJ σ τ h55_55) cw_RX12_379 (jc_55 cI cL ad σ τ) rfl ⟨Nat.le_of_ble_eq_true rfl, Nat.le_of_ble_eq_true rfl⟩ rfl rfl rfl hl.1 rfl (Nat.le_of_ble_eq_true rfl) dX12_givesAs_58 ⟨Nat.zero_le _, Nat.zero_le _⟩ (fun σ1 τ1 H locs h1 hP hS => ?_)
  obtain ⟨rfl, f3, f4, f5, m6, m7, h1⟩ := h1
  refine lv_iload_n hx hb dX12_givesAs_61 rfl (lv_at hl 2 rfl) ?_
  refine lv_aload_n hx hb dX12_givesAs_62 rfl (lv_at hl 0 rfl) ?_
  refine va_get (D := D) hx hb hts inlX12 hown hK hP 55 (jc_55 cI cL ad σ1 τ) rfl 57 (of_decide_eq_true rfl) (hts _ kw_49_9) (fun _ h9 => h9) rfl dX12_givesAs_63 ?_
  have m9 : σ1 55 57 = (σ 55 57) := (f4 57 (of_decide_eq_true rfl))
  refine jtopr m9 ?_
  refine lv_ixor hx hb dX12_givesAs_66 ?_
  refine lv_topi (fun x10 ex10 => ?_)
  have gx10 := jrg (rfl : x10.toInt = x10.toInt)
  exact hret x10 σ1 τ _ _ _ _ rfl ⟨rfl, (fun i hi => (f3 i hi)), (fun i hi => (f4 i hi)), (fun i hi => (f5 i hi)), m6, m7, ⟨(by rw [ex10]), trivial⟩⟩ hP hS dX12_givesAs_67
set_option maxHeartbeats 4000000 in
set_option maxRecDepth 100000 in
theorem c_X12_givesAs_2_2_0 (l : Launch) (D : va_G) (cI cL : ClassId) (ad zz : Nat → Nat) (hJ : jD ad) (σ : Nat → Nat → Int32) (τ : Nat → Nat → Int64) (a2 : Int32) (A2 : Int) (t2 : a2.toInt = A2) (h55_55 : σ 55 55 = 0) (hp0 : (σ 55 56).toInt = 2) : jM l yX12_givesAs cX12_givesAs 4 (some .int) ({ frames := 2, cells := 0, slots := 0, locals := 44 }) D cI cL ad zz [.ref (ad 55), .int 2, .int a2] σ τ (fun r σ' τ' => τ = τ' ∧ (∀ i : Nat, (i < 55 ∨ 55 < i) ∧ (i < 85 ∨ 85 < i) → σ' i = σ i) ∧ (∀ k : Nat, (k < 55 ∨ 55 < k) → σ' 55 k = σ 55 k) ∧ (∀ k : Nat, (k < 0 ∨ 0 < k) ∧ (k < 1 ∨ 1 < k) → σ' 85 k = σ 85 k) ∧ (σ' 55 55 = 2) ∧ (σ' 85 0 = 30) ∧ (σ' 85 1 = 11) ∧ ((r = ((a2 ^^^ (σ 55 57)) * 3) ∧ True))) := by
  refine jM.of hJ (by decide +kernel) (nt := .int) rfl (Nat.le_of_ble_eq_true rfl) ?_
  intro p e s m args below meth c Q ls hC hret hl hP
  obtain ⟨hx, hb, hr, hml, hown, hts, hK, -, hlocks, hZ⟩ := hC
  have hown : s.vm.findClass RX12 = some m.cls := hown
  have hS : va_S (jA ad) s.heap s.heap [] := va_S.rf
  have hA : ∀ q, jA ad q → jA ad q := fun _ h => h
  have hl : lv_has ls 4 [(0, .ref (ad 55)), (1, .int 2), (2, .int a2)] := hl
  have g2 := jrg t2
  refine lv_iload_n hx hb dX12_givesAs_0 rfl (lv_at hl 1 rfl) ?_
  refine lv_iconst (v := 5) hx hb dX12_givesAs_1 (of_decide_eq_true rfl) ?_
  refine lv_icmp_ne (tgt := 30) hx hb dX12_givesAs_2 (of_decide_eq_true rfl) (fun _ => ?_) (fun c => absurd c (of_decide_eq_true rfl))
  refine lv_iload_n hx hb dX12_givesAs_30 rfl (lv_at hl 1 rfl) ?_
  refine lv_iconst (v := 2) hx hb dX12_givesAs_31 (of_decide_eq_true rfl) ?_
  refine lv_icmp_eq (tgt := 40) hx hb dX12_givesAs_32 (of_decide_eq_true rfl) (fun _ => ?_) (fun c => absurd (of_decide_eq_true rfl) c)
  refine lv_aload_n hx hb dX12_givesAs_40 rfl (lv_at hl 0 rfl) ?_
  refine lv_bipush (v := 30) hx hb dX12_givesAs_41 (of_decide_eq_true rfl) ?_
  refine jcallVv (As := [.int 30]) (rest := []) ⟨hx, hb, hml, hown, hts⟩ hK hP hA hS hZ (c_X12_begins_30_0 l D cI cL ad zz hJ σ τ h55_55) cw_RX12_379 (jc_55 cI cL ad σ τ) rfl ⟨Nat.le_of_ble_eq_true rfl, Nat.le_of_ble_eq_true rfl⟩ rfl rfl rfl hl.1 rfl (Nat.le_of_ble_eq_true rfl) dX12_givesAs_43 ⟨Nat.zero_le _, Nat.zero_le _⟩ (fun σ1 τ1 H locs h1 hP hS => ?_)
  obtain ⟨rfl, f3, f4, f5, m6, m7, h1⟩ := h1
  refine lv_aload_n hx hb dX12_givesAs_46 rfl (lv_at hl 0 rfl) ?_
  refine lv_iconst (v := 0) hx hb dX12_givesAs_47 (of_decide_eq_true rfl) ?_
  refine lv_iload_n hx hb dX12_givesAs_48 rfl (lv_at hl 2 rfl) ?_
  have z9 : (σ1 55 56).toInt = (σ 55 56).toInt := (congrArg Int32.toInt (show σ1 55 56 = (σ 55 56) from (f4 56 (of_decide_eq_true rfl))))
  exact by
   refine jcallV (As := [.int 0, .int a2]) (rest := []) ⟨hx, hb, hml, hown, hts⟩ hK hP hA hS hZ (c_X12_givesAs_2_0_1 l D cI cL ad zz hJ σ1 τ a2 (A2) t2 m6 (by omega)) cw_RX12_394 (jc_55 cI cL ad σ1 τ) rfl ⟨Nat.le_of_ble_eq_true rfl, Nat.le_of_ble_eq_true rfl⟩ rfl rfl rfl hl.1 rfl (Nat.le_of_ble_eq_true rfl) dX12_givesAs_49 ⟨Nat.zero_le _, Nat.zero_le _⟩ (fun r11 σ10 τ10 H locs h10 hP hS => ?_)
   obtain ⟨rfl, f12, f13, f14, m15, m16, h10⟩ := h10
   have h18 := h10
   obtain ⟨q20, k19⟩ := h18
   have q20 := q20.symm
   subst q20
   refine lv_iconst (v := 3) hx hb dX12_givesAs_52 (of_decide_eq_true rfl) ?_
   have g21 := jrg (rfl : (a2 ^^^ (σ1 55 57)).toInt = (a2 ^^^ (σ1 55 57)).toInt)
   refine lv_imul hx hb dX12_givesAs_53 ?_
   refine lv_topi (fun x22 ex22 => ?_)
   have gx22 := jrg (rfl : x22.toInt = x22.toInt)
   have m23 : σ10 85 0 = 30 := ((f14 0 (of_decide_eq_true rfl)).trans m7)
   exact hret x22 σ10 τ _ _ _ _ rfl ⟨rfl, (fun i hi => ((f12 i hi).trans (f3 i hi))), (fun i hi => ((f13 i hi).trans (f4 i hi))), (fun i hi => ((f14 i (imp_307 i hi)).trans (f5 i (imp_352 i hi)))), m15, m23, m16, ⟨(by rw [ex22, (show σ1 55 57 = σ 55 57 from (f4 57 (of_decide_eq_true rfl)))]), trivial⟩⟩ hP hS dX12_givesAs_54
set_option maxHeartbeats 4000000 in
set_option maxRecDepth 100000 in
theorem c_X12_putsAs_2_2_2 (l : Launch) (D : va_G) (cI cL : ClassId) (ad zz : Nat → Nat) (hJ : jD ad) (σ : Nat → Nat → Int32) (τ : Nat → Nat → Int64) (a2 : Int32) (A2 : Int) (t2 : a2.toInt = A2) (h55_55 : σ 55 55 = 2) (hp0 : (σ 55 56).toInt = 2) : jM l yX12_putsAs cX12_putsAs 3 (some .int) ({ frames := 1, cells := 0, slots := 0, locals := 21 }) D cI cL ad zz [.ref (ad 55), .int 2, .int a2] σ τ (fun r σ' τ' => τ = τ' ∧ (∀ i : Nat, (i < 55 ∨ 55 < i) ∧ (i < 85 ∨ 85 < i) → σ' i = σ i) ∧ (∀ k : Nat, (k < 55 ∨ 55 < k) → σ' 55 k = σ 55 k) ∧ (∀ k : Nat, (k < 2 ∨ 2 < k) → σ' 85 k = σ 85 k) ∧ (σ' 55 55 = 3) ∧ (σ' 85 2 = 1) ∧ ((r = (a2 + (σ 55 57)) ∧ True))) := by
  refine jM.of hJ (by decide +kernel) (nt := .int) rfl (Nat.le_of_ble_eq_true rfl) ?_
  intro p e s m args below meth c Q ls hC hret hl hP
  obtain ⟨hx, hb, hr, hml, hown, hts, hK, -, hlocks, hZ⟩ := hC
  have hown : s.vm.findClass RX12 = some m.cls := hown
  have hS : va_S (jA ad) s.heap s.heap [] := va_S.rf
  have hA : ∀ q, jA ad q → jA ad q := fun _ h => h
  have hl : lv_has ls 3 [(0, .ref (ad 55)), (1, .int 2), (2, .int a2)] := hl
  have g2 := jrg t2
  refine lv_iload_n hx hb dX12_putsAs_0 rfl (lv_at hl 1 rfl) ?_
  refine lv_iconst (v := 4) hx hb dX12_putsAs_1 (of_decide_eq_true rfl) ?_
  refine lv_icmp_ne (tgt := 20) hx hb dX12_putsAs_2 (of_decide_eq_true rfl) (fun _ => ?_) (fun c => absurd c (of_decide_eq_true rfl))
  refine lv_iload_n hx hb dX12_putsAs_20 rfl (lv_at hl 1 rfl) ?_
  refine lv_iconst (v := 1) hx hb dX12_putsAs_21 (of_decide_eq_true rfl) ?_
  refine lv_icmp_ne (tgt := 40) hx hb dX12_putsAs_22 (of_decide_eq_true rfl) (fun _ => ?_) (fun c => absurd c (of_decide_eq_true rfl))
  refine lv_aload_n hx hb dX12_putsAs_40 rfl (lv_at hl 0 rfl) ?_
  refine lv_iconst (v := 1) hx hb dX12_putsAs_41 (of_decide_eq_true rfl) ?_
  refine jcallVv (As := [.int 1]) (rest := []) ⟨hx, hb, hml, hown, hts⟩ hK hP hA hS hZ (c_X12_begins_1_2 l D cI cL ad zz hJ σ τ h55_55) cw_RX12_379 (jc_55 cI cL ad σ τ) rfl ⟨Nat.le_of_ble_eq_true rfl, Nat.le_of_ble_eq_true rfl⟩ rfl rfl rfl hl.1 rfl (Nat.le_of_ble_eq_true rfl) dX12_putsAs_42 ⟨Nat.zero_le _, Nat.zero_le _⟩ (fun σ1 τ1 H locs h1 hP hS => ?_)
  obtain ⟨rfl, f3, f4, f5, m6, m7, h1⟩ := h1
  refine lv_iload_n hx hb dX12_putsAs_45 rfl (lv_at hl 2 rfl) ?_
  refine lv_aload_n hx hb dX12_putsAs_46 rfl (lv_at hl 0 rfl) ?_
  refine va_get (D := D) hx hb hts inlX12 hown hK hP 55 (jc_55 cI cL ad σ1 τ) rfl 57 (of_decide_eq_true rfl) (hts _ kw_49_9) (fun _ h9 => h9) rfl dX12_putsAs_47 ?_
  have m9 : σ1 55 57 = (σ 55 57) := (f4 57 (of_decide_eq_true rfl))
  refine jtopr m9 ?_
  have g10 := jrg (rfl : (σ 55 57).toInt = (σ 55 57).toInt)
  refine lv_iadd hx hb dX12_putsAs_50 ?_
  refine lv_topi (fun x11 ex11 => ?_)
  have gx11 := jrg (rfl : x11.toInt = x11.toInt)
  exact hret x11 σ1 τ _ _ _ _ rfl ⟨rfl, (fun i hi => (f3 i hi)), (fun i hi => (f4 i hi)), (fun i hi => (f5 i hi)), m6, m7, ⟨(by rw [ex11]), trivial⟩⟩ hP hS dX12_putsAs_51
set_option maxHeartbeats 4000000 in
set_option maxRecDepth 100000 in
theorem c_X12_holdsAs_2_2_1 (l : Launch) (D : va_G) (cI cL : ClassId) (ad zz : Nat → Nat) (hJ : jD ad) (σ : Nat → Nat → Int32) (τ : Nat → Nat → Int64) (a2 : Int32) (A2 : Int) (t2 : a2.toInt = A2) (h55_55 : σ 55 55 = 1) (hp0 : (σ 55 56).toInt = 2) : jM l yX12_holdsAs cX12_holdsAs 4 (some .int) ({ frames := 2, cells := 0, slots := 0, locals := 43 }) D cI cL ad zz [.ref (ad 55), .int 2, .int a2] σ τ (fun r σ' τ' => τ = τ' ∧ (∀ i : Nat, (i < 55 ∨ 55 < i) ∧ (i < 85 ∨ 85 < i) → σ' i = σ i) ∧ (∀ k : Nat, (k < 55 ∨ 55 < k) → σ' 55 k = σ 55 k) ∧ (∀ k : Nat, (k < 1 ∨ 1 < k) ∧ (k < 2 ∨ 2 < k) → σ' 85 k = σ 85 k) ∧ (σ' 55 55 = 3) ∧ (σ' 85 1 = 10) ∧ (σ' 85 2 = 1) ∧ ((r = ((a2 + (σ 55 57)) * 2) ∧ True))) := by
  refine jM.of hJ (by decide +kernel) (nt := .int) rfl (Nat.le_of_ble_eq_true rfl) ?_
  intro p e s m args below meth c Q ls hC hret hl hP
  obtain ⟨hx, hb, hr, hml, hown, hts, hK, -, hlocks, hZ⟩ := hC
  have hown : s.vm.findClass RX12 = some m.cls := hown
  have hS : va_S (jA ad) s.heap s.heap [] := va_S.rf
  have hA : ∀ q, jA ad q → jA ad q := fun _ h => h
  have hl : lv_has ls 4 [(0, .ref (ad 55)), (1, .int 2), (2, .int a2)] := hl
  have g2 := jrg t2
  refine lv_iload_n hx hb dX12_holdsAs_0 rfl (lv_at hl 1 rfl) ?_
  refine lv_iconst (v := 3) hx hb dX12_holdsAs_1 (of_decide_eq_true rfl) ?_
  refine lv_icmp_eq (tgt := 10) hx hb dX12_holdsAs_2 (of_decide_eq_true rfl) (fun c => absurd c (of_decide_eq_true rfl)) (fun _ => ?_)
  refine lv_iload_n hx hb dX12_holdsAs_5 rfl (lv_at hl 1 rfl) ?_
  refine lv_iconst (v := 5) hx hb dX12_holdsAs_6 (of_decide_eq_true rfl) ?_
  refine lv_icmp_ne (tgt := 24) hx hb dX12_holdsAs_7 (of_decide_eq_true rfl) (fun _ => ?_) (fun c => absurd c (of_decide_eq_true rfl))
  refine lv_iload_n hx hb dX12_holdsAs_24 rfl (lv_at hl 1 rfl) ?_
  refine lv_bipush (v := 6) hx hb dX12_holdsAs_25 (of_decide_eq_true rfl) ?_
  refine lv_icmp_ne (tgt := 55) hx hb dX12_holdsAs_27 (of_decide_eq_true rfl) (fun _ => ?_) (fun c => absurd c (of_decide_eq_true rfl))
  refine lv_aload_n hx hb dX12_holdsAs_55 rfl (lv_at hl 0 rfl) ?_
  refine lv_bipush (v := 10) hx hb dX12_holdsAs_56 (of_decide_eq_true rfl) ?_
  refine jcallVv (As := [.int 10]) (rest := []) ⟨hx, hb, hml, hown, hts⟩ hK hP hA hS hZ (c_X12_begins_10_1 l D cI cL ad zz hJ σ τ h55_55) cw_RX12_379 (jc_55 cI cL ad σ τ) rfl ⟨Nat.le_of_ble_eq_true rfl, Nat.le_of_ble_eq_true rfl⟩ rfl rfl rfl hl.1 rfl (Nat.le_of_ble_eq_true rfl) dX12_holdsAs_58 ⟨Nat.zero_le _, Nat.zero_le _⟩ (fun σ1 τ1 H locs h1 hP hS => ?_)
  obtain ⟨rfl, f3, f4, f5, m6, m7, h1⟩ := h1
  refine lv_aload_n hx hb dX12_holdsAs_61 rfl (lv_at hl 0 rfl) ?_
  refine lv_aload_n hx hb dX12_holdsAs_62 rfl (lv_at hl 0 rfl) ?_
  refine va_get (D := D) hx hb hts inlX12 hown hK hP 55 (jc_55 cI cL ad σ1 τ) rfl 56 (of_decide_eq_true rfl) (hts _ kw_49_8) (fun _ h9 => h9) rfl dX12_holdsAs_63 ?_
  have m9 : σ1 55 56 = (σ 55 56) := (f4 56 (of_decide_eq_true rfl))
  refine jtopr m9 ?_
  exact by
   refine jtopr (jsame (rfl : (σ 55 56).toInt = (σ 55 56).toInt) jz_2 (by omega)) ?_
   refine lv_iload_n hx hb dX12_holdsAs_66 rfl (lv_at hl 2 rfl) ?_
   have z10 : (σ1 55 56).toInt = (σ 55 56).toInt := (congrArg Int32.toInt (show σ1 55 56 = (σ 55 56) from m9))
   refine jcallV (As := [.int 2, .int a2]) (rest := []) ⟨hx, hb, hml, hown, hts⟩ hK hP hA hS hZ (c_X12_putsAs_2_2_2 l D cI cL ad zz hJ σ1 τ a2 (A2) t2 m6 (by omega)) cw_RX12_382 (jc_55 cI cL ad σ1 τ) rfl ⟨Nat.le_of_ble_eq_true rfl, Nat.le_of_ble_eq_true rfl⟩ rfl rfl rfl hl.1 rfl (Nat.le_of_ble_eq_true rfl) dX12_holdsAs_67 ⟨Nat.zero_le _, Nat.zero_le _⟩ (fun r12 σ11 τ11 H locs h11 hP hS => ?_)
   obtain ⟨rfl, f13, f14, f15, m16, m17, h11⟩ := h11
   have h19 := h11
   obtain ⟨q21, k20⟩ := h19
   have q21 := q21.symm
   subst q21
   exact by
    refine lv_iconst (v := 2) hx hb dX12_holdsAs_70 (of_decide_eq_true rfl) ?_
    have g22 := jrg (rfl : (a2 + (σ1 55 57)).toInt = (a2 + (σ1 55 57)).toInt)
    refine lv_imul hx hb dX12_holdsAs_71 ?_
    refine lv_topi (fun x23 ex23 => ?_)
    have gx23 := jrg (rfl : x23.toInt = x23.toInt)
    have m24 : σ11 85 1 = 10 := ((f15 1 (of_decide_eq_true rfl)).trans m7)
    exact hret x23 σ11 τ _ _ _ _ rfl ⟨rfl, (fun i hi => ((f13 i hi).trans (f3 i hi))), (fun i hi => ((f14 i hi).trans (f4 i hi))), (fun i hi => ((f15 i (imp_43 i hi)).trans (f5 i (imp_55 i hi)))), m16, m24, m17, ⟨(by rw [ex23, (show σ1 55 57 = σ 55 57 from (f4 57 (of_decide_eq_true rfl)))]), trivial⟩⟩ hP hS dX12_holdsAs_72
set_option maxHeartbeats 4000000 in
set_option maxRecDepth 100000 in
theorem c_X12_begins_30_3 (l : Launch) (D : va_G) (cI cL : ClassId) (ad zz : Nat → Nat) (hJ : jD ad) (σ : Nat → Nat → Int32) (τ : Nat → Nat → Int64) (h55_55 : σ 55 55 = 3) : jMv l yX12_begins cX12_begins 2 none ({ frames := 0, cells := 0, slots := 0, locals := 0 }) D cI cL ad zz [.ref (ad 55), .int 30] σ τ (fun σ' τ' => τ = τ' ∧ (∀ i : Nat, (i < 55 ∨ 55 < i) ∧ (i < 85 ∨ 85 < i) → σ' i = σ i) ∧ (∀ k : Nat, (k < 55 ∨ 55 < k) → σ' 55 k = σ 55 k) ∧ (∀ k : Nat, (k < 3 ∨ 3 < k) → σ' 85 k = σ 85 k) ∧ (σ' 55 55 = 4) ∧ (σ' 85 3 = 30) ∧ True) := by
  refine jMv.of hJ (by decide +kernel) rfl (Nat.le_of_ble_eq_true rfl) ?_
  intro p e s m args below meth c Q ls hC hret hl hP
  obtain ⟨hx, hb, hr, hml, hown, hts, hK, -, hlocks, hZ⟩ := hC
  have hown : s.vm.findClass RX12 = some m.cls := hown
  have hS : va_S (jA ad) s.heap s.heap [] := va_S.rf
  have hA : ∀ q, jA ad q → jA ad q := fun _ h => h
  have hl : lv_has ls 2 [(0, .ref (ad 55)), (1, .int 30)] := hl
  refine lv_aload_n hx hb dX12_begins_0 rfl (lv_at hl 0 rfl) ?_
  refine va_get (D := D) hx hb hts inlX12 hown hK hP 55 (jc_55 cI cL ad σ τ) rfl 55 (of_decide_eq_true rfl) (hts _ kw_49_7) (fun _ h9 => h9) rfl dX12_begins_1 ?_
  refine jtopr h55_55 ?_
  refine lv_bipush (v := 24) hx hb dX12_begins_4 (of_decide_eq_true rfl) ?_
  refine lv_icmp_ge (tgt := 19) hx hb dX12_begins_6 (of_decide_eq_true rfl) (fun c => absurd c (of_decide_eq_true rfl)) (fun _ => ?_)
  refine lv_aload_n hx hb dX12_begins_9 rfl (lv_at hl 0 rfl) ?_
  refine va_get (D := D) hx hb hts inlX12 hown hK hP 55 (jc_55 cI cL ad σ τ) rfl 54 (of_decide_eq_true rfl) (hts _ kw_8_10) (fun _ h9 => h9) rfl dX12_begins_10 ?_
  refine lv_aload_n hx hb dX12_begins_13 rfl (lv_at hl 0 rfl) ?_
  refine va_get (D := D) hx hb hts inlX12 hown hK hP 55 (jc_55 cI cL ad σ τ) rfl 55 (of_decide_eq_true rfl) (hts _ kw_49_7) (fun _ h9 => h9) rfl dX12_begins_14 ?_
  refine jtopr h55_55 ?_
  refine lv_iload_n hx hb dX12_begins_17 rfl (lv_at hl 1 rfl) ?_
  exact by
   refine jast hx hb hK hP hJ hA hS (jc_85 cI cL ad σ τ) (ja_85 cI cL ad σ τ _ _) (jin jz_3 (by omega) (by omega)) dX12_begins_18 (fun σ1 H locs eσ1 hP hS => ?_)
   have eσ1 : σ1 = jup σ 85 3 30 := eσ1
   refine lv_aload_n hx hb dX12_begins_19 rfl (lv_at hl 0 rfl) ?_
   refine lv_dup hx hb dX12_begins_20 rfl ?_
   refine va_get (D := D) hx hb hts inlX12 hown hK hP 55 (jc_55 cI cL ad σ1 τ) rfl 55 (of_decide_eq_true rfl) (hts _ kw_49_7) (fun _ h9 => h9) rfl dX12_begins_21 ?_
   have m2 : σ1 55 55 = 3 := ((congrFun (jnp 55 eσ1 (of_decide_eq_true rfl)) 55).trans h55_55)
   refine jtopr m2 ?_
   refine lv_iconst (v := 1) hx hb dX12_begins_24 (of_decide_eq_true rfl) ?_
   refine lv_iadd hx hb dX12_begins_25 ?_
   refine jtopr (y := 4) (of_decide_eq_true rfl) ?_
   refine jput (ty := .int) hx hb hts inlX12 tyX12 tyX12_ok nmX12 hown hK hP hJ hA hS (jc_55 cI cL ad σ1 τ) rfl (k := 55) (of_decide_eq_true rfl) (Nat.le_of_ble_eq_true rfl) (jp_55_55 cI cL ad σ1 τ 4) (hts _ kw_49_7) (fun _ h9 => h9) rfl (by decide +kernel) rfl rfl dX12_begins_26 (fun σ3 H locs eσ3 hP hS => ?_)
   have m4 : σ3 55 55 = 4 := (jsp eσ3)
   have m5 : σ3 85 3 = 30 := ((congrFun (jnp 85 eσ3 (of_decide_eq_true rfl)) 3).trans (jsp eσ1))
   exact hret σ3 τ _ _ _ _ ⟨rfl, (fun i hi => ((jnp i eσ3 (imp_350 i hi)).trans (jnp i eσ1 (imp_351 i hi)))), (fun i hi => ((jkp i eσ3 (imp_165 i hi)).trans (congrFun (jnp 55 eσ1 (of_decide_eq_true rfl)) i))), (fun i hi => ((congrFun (jnp 85 eσ3 (of_decide_eq_true rfl)) i).trans (jkp i eσ1 (imp_308 i hi)))), m4, m5, trivial⟩ hP hS dX12_begins_29
set_option maxHeartbeats 4000000 in
set_option maxRecDepth 100000 in
theorem c_X12_givesAs_2_0_4_x1 (l : Launch) (D : va_G) (cI cL : ClassId) (ad zz : Nat → Nat) (hJ : jD ad) (σ : Nat → Nat → Int32) (τ : Nat → Nat → Int64) (h55_55 : σ 55 55 = 4) (hp0 : (σ 55 56).toInt = 2) : jM l yX12_givesAs cX12_givesAs 4 (some .int) ({ frames := 1, cells := 0, slots := 0, locals := 21 }) D cI cL ad zz [.ref (ad 55), .int 0, .int 1] σ τ (fun r σ' τ' => τ = τ' ∧ (∀ i : Nat, (i < 55 ∨ 55 < i) ∧ (i < 85 ∨ 85 < i) → σ' i = σ i) ∧ (∀ k : Nat, (k < 55 ∨ 55 < k) → σ' 55 k = σ 55 k) ∧ (∀ k : Nat, (k < 4 ∨ 4 < k) → σ' 85 k = σ 85 k) ∧ (σ' 55 55 = 5) ∧ (σ' 85 4 = 11) ∧ ((r = (1 ^^^ (σ 55 57)) ∧ True))) := by
  refine jM.of hJ (by decide +kernel) (nt := .int) rfl (Nat.le_of_ble_eq_true rfl) ?_
  intro p e s m args below meth c Q ls hC hret hl hP
  obtain ⟨hx, hb, hr, hml, hown, hts, hK, -, hlocks, hZ⟩ := hC
  have hown : s.vm.findClass RX12 = some m.cls := hown
  have hS : va_S (jA ad) s.heap s.heap [] := va_S.rf
  have hA : ∀ q, jA ad q → jA ad q := fun _ h => h
  have hl : lv_has ls 4 [(0, .ref (ad 55)), (1, .int 0), (2, .int 1)] := hl
  refine lv_iload_n hx hb dX12_givesAs_0 rfl (lv_at hl 1 rfl) ?_
  refine lv_iconst (v := 5) hx hb dX12_givesAs_1 (of_decide_eq_true rfl) ?_
  refine lv_icmp_ne (tgt := 30) hx hb dX12_givesAs_2 (of_decide_eq_true rfl) (fun _ => ?_) (fun c => absurd c (of_decide_eq_true rfl))
  refine lv_iload_n hx hb dX12_givesAs_30 rfl (lv_at hl 1 rfl) ?_
  refine lv_iconst (v := 2) hx hb dX12_givesAs_31 (of_decide_eq_true rfl) ?_
  refine lv_icmp_eq (tgt := 40) hx hb dX12_givesAs_32 (of_decide_eq_true rfl) (fun c => absurd c (of_decide_eq_true rfl)) (fun _ => ?_)
  refine lv_iload_n hx hb dX12_givesAs_35 rfl (lv_at hl 1 rfl) ?_
  refine lv_iconst (v := 3) hx hb dX12_givesAs_36 (of_decide_eq_true rfl) ?_
  refine lv_icmp_ne (tgt := 55) hx hb dX12_givesAs_37 (of_decide_eq_true rfl) (fun _ => ?_) (fun c => absurd c (of_decide_eq_true rfl))
  refine lv_aload_n hx hb dX12_givesAs_55 rfl (lv_at hl 0 rfl) ?_
  refine lv_bipush (v := 11) hx hb dX12_givesAs_56 (of_decide_eq_true rfl) ?_
  refine jcallVv (As := [.int 11]) (rest := []) ⟨hx, hb, hml, hown, hts⟩ hK hP hA hS hZ (c_X12_begins_11_4 l D cI cL ad zz hJ σ τ h55_55) cw_RX12_379 (jc_55 cI cL ad σ τ) rfl ⟨Nat.le_of_ble_eq_true rfl, Nat.le_of_ble_eq_true rfl⟩ rfl rfl rfl hl.1 rfl (Nat.le_of_ble_eq_true rfl) dX12_givesAs_58 ⟨Nat.zero_le _, Nat.zero_le _⟩ (fun σ1 τ1 H locs h1 hP hS => ?_)
  obtain ⟨rfl, f3, f4, f5, m6, m7, h1⟩ := h1
  refine lv_iload_n hx hb dX12_givesAs_61 rfl (lv_at hl 2 rfl) ?_
  refine lv_aload_n hx hb dX12_givesAs_62 rfl (lv_at hl 0 rfl) ?_
  refine va_get (D := D) hx hb hts inlX12 hown hK hP 55 (jc_55 cI cL ad σ1 τ) rfl 57 (of_decide_eq_true rfl) (hts _ kw_49_9) (fun _ h9 => h9) rfl dX12_givesAs_63 ?_
  have m9 : σ1 55 57 = (σ 55 57) := (f4 57 (of_decide_eq_true rfl))
  refine jtopr m9 ?_
  refine lv_ixor hx hb dX12_givesAs_66 ?_
  refine lv_topi (fun x10 ex10 => ?_)
  have gx10 := jrg (rfl : x10.toInt = x10.toInt)
  exact hret x10 σ1 τ _ _ _ _ rfl ⟨rfl, (fun i hi => (f3 i hi)), (fun i hi => (f4 i hi)), (fun i hi => (f5 i hi)), m6, m7, ⟨(by rw [ex10]), trivial⟩⟩ hP hS dX12_givesAs_67
set_option maxHeartbeats 4000000 in
set_option maxRecDepth 100000 in
theorem c_X12_givesAs_2_2_3_x1 (l : Launch) (D : va_G) (cI cL : ClassId) (ad zz : Nat → Nat) (hJ : jD ad) (σ : Nat → Nat → Int32) (τ : Nat → Nat → Int64) (h55_55 : σ 55 55 = 3) (hp0 : (σ 55 56).toInt = 2) : jM l yX12_givesAs cX12_givesAs 4 (some .int) ({ frames := 2, cells := 0, slots := 0, locals := 44 }) D cI cL ad zz [.ref (ad 55), .int 2, .int 1] σ τ (fun r σ' τ' => τ = τ' ∧ (∀ i : Nat, (i < 55 ∨ 55 < i) ∧ (i < 85 ∨ 85 < i) → σ' i = σ i) ∧ (∀ k : Nat, (k < 55 ∨ 55 < k) → σ' 55 k = σ 55 k) ∧ (∀ k : Nat, (k < 3 ∨ 3 < k) ∧ (k < 4 ∨ 4 < k) → σ' 85 k = σ 85 k) ∧ (σ' 55 55 = 5) ∧ (σ' 85 3 = 30) ∧ (σ' 85 4 = 11) ∧ ((r = ((1 ^^^ (σ 55 57)) * 3) ∧ True))) := by
  refine jM.of hJ (by decide +kernel) (nt := .int) rfl (Nat.le_of_ble_eq_true rfl) ?_
  intro p e s m args below meth c Q ls hC hret hl hP
  obtain ⟨hx, hb, hr, hml, hown, hts, hK, -, hlocks, hZ⟩ := hC
  have hown : s.vm.findClass RX12 = some m.cls := hown
  have hS : va_S (jA ad) s.heap s.heap [] := va_S.rf
  have hA : ∀ q, jA ad q → jA ad q := fun _ h => h
  have hl : lv_has ls 4 [(0, .ref (ad 55)), (1, .int 2), (2, .int 1)] := hl
  refine lv_iload_n hx hb dX12_givesAs_0 rfl (lv_at hl 1 rfl) ?_
  refine lv_iconst (v := 5) hx hb dX12_givesAs_1 (of_decide_eq_true rfl) ?_
  refine lv_icmp_ne (tgt := 30) hx hb dX12_givesAs_2 (of_decide_eq_true rfl) (fun _ => ?_) (fun c => absurd c (of_decide_eq_true rfl))
  refine lv_iload_n hx hb dX12_givesAs_30 rfl (lv_at hl 1 rfl) ?_
  refine lv_iconst (v := 2) hx hb dX12_givesAs_31 (of_decide_eq_true rfl) ?_
  refine lv_icmp_eq (tgt := 40) hx hb dX12_givesAs_32 (of_decide_eq_true rfl) (fun _ => ?_) (fun c => absurd (of_decide_eq_true rfl) c)
  refine lv_aload_n hx hb dX12_givesAs_40 rfl (lv_at hl 0 rfl) ?_
  refine lv_bipush (v := 30) hx hb dX12_givesAs_41 (of_decide_eq_true rfl) ?_
  refine jcallVv (As := [.int 30]) (rest := []) ⟨hx, hb, hml, hown, hts⟩ hK hP hA hS hZ (c_X12_begins_30_3 l D cI cL ad zz hJ σ τ h55_55) cw_RX12_379 (jc_55 cI cL ad σ τ) rfl ⟨Nat.le_of_ble_eq_true rfl, Nat.le_of_ble_eq_true rfl⟩ rfl rfl rfl hl.1 rfl (Nat.le_of_ble_eq_true rfl) dX12_givesAs_43 ⟨Nat.zero_le _, Nat.zero_le _⟩ (fun σ1 τ1 H locs h1 hP hS => ?_)
  obtain ⟨rfl, f3, f4, f5, m6, m7, h1⟩ := h1
  refine lv_aload_n hx hb dX12_givesAs_46 rfl (lv_at hl 0 rfl) ?_
  refine lv_iconst (v := 0) hx hb dX12_givesAs_47 (of_decide_eq_true rfl) ?_
  refine lv_iload_n hx hb dX12_givesAs_48 rfl (lv_at hl 2 rfl) ?_
  have z9 : (σ1 55 56).toInt = (σ 55 56).toInt := (congrArg Int32.toInt (show σ1 55 56 = (σ 55 56) from (f4 56 (of_decide_eq_true rfl))))
  exact by
   refine jcallV (As := [.int 0, .int 1]) (rest := []) ⟨hx, hb, hml, hown, hts⟩ hK hP hA hS hZ (c_X12_givesAs_2_0_4_x1 l D cI cL ad zz hJ σ1 τ m6 (by omega)) cw_RX12_394 (jc_55 cI cL ad σ1 τ) rfl ⟨Nat.le_of_ble_eq_true rfl, Nat.le_of_ble_eq_true rfl⟩ rfl rfl rfl hl.1 rfl (Nat.le_of_ble_eq_true rfl) dX12_givesAs_49 ⟨Nat.zero_le _, Nat.zero_le _⟩ (fun r11 σ10 τ10 H locs h10 hP hS => ?_)
   obtain ⟨rfl, f12, f13, f14, m15, m16, h10⟩ := h10
   have h18 := h10
   obtain ⟨q20, k19⟩ := h18
   have q20 := q20.symm
   subst q20
   refine lv_iconst (v := 3) hx hb dX12_givesAs_52 (of_decide_eq_true rfl) ?_
   have g21 := jrg (rfl : (1 ^^^ (σ1 55 57)).toInt = (1 ^^^ (σ1 55 57)).toInt)
   refine lv_imul hx hb dX12_givesAs_53 ?_
   refine lv_topi (fun x22 ex22 => ?_)
   have gx22 := jrg (rfl : x22.toInt = x22.toInt)
   have m23 : σ10 85 3 = 30 := ((f14 3 (of_decide_eq_true rfl)).trans m7)
   exact hret x22 σ10 τ _ _ _ _ rfl ⟨rfl, (fun i hi => ((f12 i hi).trans (f3 i hi))), (fun i hi => ((f13 i hi).trans (f4 i hi))), (fun i hi => ((f14 i (imp_319 i hi)).trans (f5 i (imp_357 i hi)))), m15, m23, m16, ⟨(by rw [ex22, (show σ1 55 57 = σ 55 57 from (f4 57 (of_decide_eq_true rfl)))]), trivial⟩⟩ hP hS dX12_givesAs_54
set_option maxHeartbeats 4000000 in
set_option maxRecDepth 100000 in
theorem c_X12_tellsAs_2_2_0 (l : Launch) (D : va_G) (cI cL : ClassId) (ad zz : Nat → Nat) (hJ : jD ad) (σ : Nat → Nat → Int32) (τ : Nat → Nat → Int64) (a2 : Int32) (A2 : Int) (t2 : a2.toInt = A2) (h55_55 : σ 55 55 = 0) (hp0 : (σ 55 56).toInt = 2) : jM l yX12_tellsAs cX12_tellsAs 4 (some .int) ({ frames := 3, cells := 0, slots := 0, locals := 67 }) D cI cL ad zz [.ref (ad 55), .int 2, .int a2] σ τ (fun r σ' τ' => τ = τ' ∧ (∀ i : Nat, (i < 55 ∨ 55 < i) ∧ (i < 85 ∨ 85 < i) → σ' i = σ i) ∧ (∀ k : Nat, (k < 55 ∨ 55 < k) → σ' 55 k = σ 55 k) ∧ (∀ k : Nat, (k < 0 ∨ 0 < k) ∧ (k < 1 ∨ 1 < k) ∧ (k < 2 ∨ 2 < k) ∧ (k < 3 ∨ 3 < k) ∧ (k < 4 ∨ 4 < k) → σ' 85 k = σ 85 k) ∧ (σ' 55 55 = 5) ∧ (σ' 85 0 = 2) ∧ (σ' 85 1 = 10) ∧ (σ' 85 2 = 1) ∧ (σ' 85 3 = 30) ∧ (σ' 85 4 = 11) ∧ ((r = (((a2 + (σ 55 57)) * 2) - ((1 ^^^ (σ 55 57)) * 3)) ∧ True))) := by
  refine jM.of hJ (by decide +kernel) (nt := .int) rfl (Nat.le_of_ble_eq_true rfl) ?_
  intro p e s m args below meth c Q ls hC hret hl hP
  obtain ⟨hx, hb, hr, hml, hown, hts, hK, -, hlocks, hZ⟩ := hC
  have hown : s.vm.findClass RX12 = some m.cls := hown
  have hS : va_S (jA ad) s.heap s.heap [] := va_S.rf
  have hA : ∀ q, jA ad q → jA ad q := fun _ h => h
  have hl : lv_has ls 4 [(0, .ref (ad 55)), (1, .int 2), (2, .int a2)] := hl
  have g2 := jrg t2
  refine lv_iload_n hx hb dX12_tellsAs_0 rfl (lv_at hl 1 rfl) ?_
  refine lv_iconst (v := 4) hx hb dX12_tellsAs_1 (of_decide_eq_true rfl) ?_
  refine lv_icmp_ne (tgt := 20) hx hb dX12_tellsAs_2 (of_decide_eq_true rfl) (fun _ => ?_) (fun c => absurd c (of_decide_eq_true rfl))
  refine lv_aload_n hx hb dX12_tellsAs_20 rfl (lv_at hl 0 rfl) ?_
  refine lv_iconst (v := 2) hx hb dX12_tellsAs_21 (of_decide_eq_true rfl) ?_
  refine jcallVv (As := [.int 2]) (rest := []) ⟨hx, hb, hml, hown, hts⟩ hK hP hA hS hZ (c_X12_begins_2_0 l D cI cL ad zz hJ σ τ h55_55) cw_RX12_379 (jc_55 cI cL ad σ τ) rfl ⟨Nat.le_of_ble_eq_true rfl, Nat.le_of_ble_eq_true rfl⟩ rfl rfl rfl hl.1 rfl (Nat.le_of_ble_eq_true rfl) dX12_tellsAs_22 ⟨Nat.zero_le _, Nat.zero_le _⟩ (fun σ1 τ1 H locs h1 hP hS => ?_)
  obtain ⟨rfl, f3, f4, f5, m6, m7, h1⟩ := h1
  refine lv_aload_n hx hb dX12_tellsAs_25 rfl (lv_at hl 0 rfl) ?_
  refine lv_aload_n hx hb dX12_tellsAs_26 rfl (lv_at hl 0 rfl) ?_
  refine va_get (D := D) hx hb hts inlX12 hown hK hP 55 (jc_55 cI cL ad σ1 τ) rfl 56 (of_decide_eq_true rfl) (hts _ kw_49_8) (fun _ h9 => h9) rfl dX12_tellsAs_27 ?_
  have m9 : σ1 55 56 = (σ 55 56) := (f4 56 (of_decide_eq_true rfl))
  refine jtopr m9 ?_
  exact by
   refine jtopr (jsame (rfl : (σ 55 56).toInt = (σ 55 56).toInt) jz_2 (by omega)) ?_
   refine lv_iload_n hx hb dX12_tellsAs_30 rfl (lv_at hl 2 rfl) ?_
   have z10 : (σ1 55 56).toInt = (σ 55 56).toInt := (congrArg Int32.toInt (show σ1 55 56 = (σ 55 56) from m9))
   refine jcallV (As := [.int 2, .int a2]) (rest := []) ⟨hx, hb, hml, hown, hts⟩ hK hP hA hS hZ (c_X12_holdsAs_2_2_1 l D cI cL ad zz hJ σ1 τ a2 (A2) t2 m6 (by omega)) cw_RX12_388 (jc_55 cI cL ad σ1 τ) rfl ⟨Nat.le_of_ble_eq_true rfl, Nat.le_of_ble_eq_true rfl⟩ rfl rfl rfl hl.1 rfl (Nat.le_of_ble_eq_true rfl) dX12_tellsAs_31 ⟨Nat.zero_le _, Nat.zero_le _⟩ (fun r12 σ11 τ11 H locs h11 hP hS => ?_)
   obtain ⟨rfl, f13, f14, f15, m16, m17, m18, h11⟩ := h11
   have h20 := h11
   obtain ⟨q22, k21⟩ := h20
   have q22 := q22.symm
   subst q22
   exact by
    refine lv_istore_n (lv' := [(3, .int ((a2 + (σ1 55 57)) * 2)), (0, .ref (ad 55)), (1, .int 2), (2, .int a2)]) hx hb dX12_tellsAs_34 rfl hl (of_decide_eq_true rfl) rfl (fun ls hl => ?_)
    refine lv_iload_n hx hb dX12_tellsAs_35 rfl (lv_at hl 0 rfl) ?_
    refine lv_aload_n hx hb dX12_tellsAs_36 rfl (lv_at hl 1 rfl) ?_
    refine lv_aload_n hx hb dX12_tellsAs_37 rfl (lv_at hl 1 rfl) ?_
    refine va_get (D := D) hx hb hts inlX12 hown hK hP 55 (jc_55 cI cL ad σ11 τ) rfl 56 (of_decide_eq_true rfl) (hts _ kw_49_8) (fun _ h9 => h9) rfl dX12_tellsAs_38 ?_
    have m23 : σ11 55 56 = (σ 55 56) := ((f14 56 (of_decide_eq_true rfl)).trans m9)
    refine jtopr m23 ?_
    refine jtopr (jsame (rfl : (σ 55 56).toInt = (σ 55 56).toInt) jz_2 (by omega)) ?_
    refine lv_iconst (v := 1) hx hb dX12_tellsAs_41 (of_decide_eq_true rfl) ?_
    exact by
     have z24 : (σ11 55 56).toInt = (σ 55 56).toInt := (congrArg Int32.toInt (show σ11 55 56 = (σ 55 56) from m23))
     refine jcallV (As := [.int 2, .int 1]) (rest := [.int ((a2 + (σ1 55 57)) * 2)]) ⟨hx, hb, hml, hown, hts⟩ hK hP hA hS hZ (c_X12_givesAs_2_2_3_x1 l D cI cL ad zz hJ σ11 τ m16 (by omega)) cw_RX12_394 (jc_55 cI cL ad σ11 τ) rfl ⟨Nat.le_of_ble_eq_true rfl, Nat.le_of_ble_eq_true rfl⟩ rfl rfl rfl hl.1 rfl (Nat.le_of_ble_eq_true rfl) dX12_tellsAs_42 ⟨Nat.zero_le _, Nat.zero_le _⟩ (fun r26 σ25 τ25 H locs h25 hP hS => ?_)
     obtain ⟨rfl, f27, f28, f29, m30, m31, m32, h25⟩ := h25
     have h34 := h25
     obtain ⟨q36, k35⟩ := h34
     have q36 := q36.symm
     subst q36
     have g37 := jrg (rfl : ((a2 + (σ1 55 57)) * 2).toInt = ((a2 + (σ1 55 57)) * 2).toInt)
     have g38 := jrg (rfl : ((1 ^^^ (σ11 55 57)) * 3).toInt = ((1 ^^^ (σ11 55 57)) * 3).toInt)
     exact by
      refine lv_isub hx hb dX12_tellsAs_45 ?_
      refine lv_topi (fun x39 ex39 => ?_)
      have gx39 := jrg (rfl : x39.toInt = x39.toInt)
      have m40 : σ25 85 0 = 2 := ((f29 0 (of_decide_eq_true rfl)).trans ((f15 0 (of_decide_eq_true rfl)).trans m7))
      have m41 : σ25 85 1 = 10 := ((f29 1 (of_decide_eq_true rfl)).trans m17)
      have m42 : σ25 85 2 = 1 := ((f29 2 (of_decide_eq_true rfl)).trans m18)
      exact hret x39 σ25 τ _ _ _ _ rfl ⟨rfl, (fun i hi => ((f27 i hi).trans ((f13 i hi).trans (f3 i hi)))), (fun i hi => ((f28 i hi).trans ((f14 i hi).trans (f4 i hi)))), (fun i hi => ((f29 i (imp_321 i hi)).trans ((f15 i (imp_322 i hi)).trans (f5 i (imp_356 i hi))))), m30, m40, m41, m42, m31, m32, ⟨(by rw [ex39, (show σ1 55 57 = σ 55 57 from (f4 57 (of_decide_eq_true rfl))), (show σ11 55 57 = σ 55 57 from ((f14 57 (of_decide_eq_true rfl)).trans (f4 57 (of_decide_eq_true rfl))))]), trivial⟩⟩ hP hS dX12_tellsAs_46
set_option maxHeartbeats 4000000 in
set_option maxRecDepth 100000 in
theorem c_X12_putsAs_3_3_0 (l : Launch) (D : va_G) (cI cL : ClassId) (ad zz : Nat → Nat) (hJ : jD ad) (σ : Nat → Nat → Int32) (τ : Nat → Nat → Int64) (a2 : Int32) (A2 : Int) (t2 : a2.toInt = A2) (h55_55 : σ 55 55 = 0) (hp0 : (σ 55 56).toInt = 3) : jM l yX12_putsAs cX12_putsAs 3 (some .int) ({ frames := 1, cells := 0, slots := 0, locals := 21 }) D cI cL ad zz [.ref (ad 55), .int 3, .int a2] σ τ (fun r σ' τ' => τ = τ' ∧ (∀ i : Nat, (i < 55 ∨ 55 < i) ∧ (i < 85 ∨ 85 < i) → σ' i = σ i) ∧ (∀ k : Nat, (k < 55 ∨ 55 < k) → σ' 55 k = σ 55 k) ∧ (∀ k : Nat, (k < 0 ∨ 0 < k) → σ' 85 k = σ 85 k) ∧ (σ' 55 55 = 1) ∧ (σ' 85 0 = 1) ∧ ((r = (a2 + (σ 55 57)) ∧ True))) := by
  refine jM.of hJ (by decide +kernel) (nt := .int) rfl (Nat.le_of_ble_eq_true rfl) ?_
  intro p e s m args below meth c Q ls hC hret hl hP
  obtain ⟨hx, hb, hr, hml, hown, hts, hK, -, hlocks, hZ⟩ := hC
  have hown : s.vm.findClass RX12 = some m.cls := hown
  have hS : va_S (jA ad) s.heap s.heap [] := va_S.rf
  have hA : ∀ q, jA ad q → jA ad q := fun _ h => h
  have hl : lv_has ls 3 [(0, .ref (ad 55)), (1, .int 3), (2, .int a2)] := hl
  have g2 := jrg t2
  refine lv_iload_n hx hb dX12_putsAs_0 rfl (lv_at hl 1 rfl) ?_
  refine lv_iconst (v := 4) hx hb dX12_putsAs_1 (of_decide_eq_true rfl) ?_
  refine lv_icmp_ne (tgt := 20) hx hb dX12_putsAs_2 (of_decide_eq_true rfl) (fun _ => ?_) (fun c => absurd c (of_decide_eq_true rfl))
  refine lv_iload_n hx hb dX12_putsAs_20 rfl (lv_at hl 1 rfl) ?_
  refine lv_iconst (v := 1) hx hb dX12_putsAs_21 (of_decide_eq_true rfl) ?_
  refine lv_icmp_ne (tgt := 40) hx hb dX12_putsAs_22 (of_decide_eq_true rfl) (fun _ => ?_) (fun c => absurd c (of_decide_eq_true rfl))
  refine lv_aload_n hx hb dX12_putsAs_40 rfl (lv_at hl 0 rfl) ?_
  refine lv_iconst (v := 1) hx hb dX12_putsAs_41 (of_decide_eq_true rfl) ?_
  refine jcallVv (As := [.int 1]) (rest := []) ⟨hx, hb, hml, hown, hts⟩ hK hP hA hS hZ (c_X12_begins_1_0 l D cI cL ad zz hJ σ τ h55_55) cw_RX12_379 (jc_55 cI cL ad σ τ) rfl ⟨Nat.le_of_ble_eq_true rfl, Nat.le_of_ble_eq_true rfl⟩ rfl rfl rfl hl.1 rfl (Nat.le_of_ble_eq_true rfl) dX12_putsAs_42 ⟨Nat.zero_le _, Nat.zero_le _⟩ (fun σ1 τ1 H locs h1 hP hS => ?_)
  obtain ⟨rfl, f3, f4, f5, m6, m7, h1⟩ := h1
  refine lv_iload_n hx hb dX12_putsAs_45 rfl (lv_at hl 2 rfl) ?_
  refine lv_aload_n hx hb dX12_putsAs_46 rfl (lv_at hl 0 rfl) ?_
  refine va_get (D := D) hx hb hts inlX12 hown hK hP 55 (jc_55 cI cL ad σ1 τ) rfl 57 (of_decide_eq_true rfl) (hts _ kw_49_9) (fun _ h9 => h9) rfl dX12_putsAs_47 ?_
  have m9 : σ1 55 57 = (σ 55 57) := (f4 57 (of_decide_eq_true rfl))
  refine jtopr m9 ?_
  have g10 := jrg (rfl : (σ 55 57).toInt = (σ 55 57).toInt)
  refine lv_iadd hx hb dX12_putsAs_50 ?_
  refine lv_topi (fun x11 ex11 => ?_)
  have gx11 := jrg (rfl : x11.toInt = x11.toInt)
  exact hret x11 σ1 τ _ _ _ _ rfl ⟨rfl, (fun i hi => (f3 i hi)), (fun i hi => (f4 i hi)), (fun i hi => (f5 i hi)), m6, m7, ⟨(by rw [ex11]), trivial⟩⟩ hP hS dX12_putsAs_51
set_option maxHeartbeats 4000000 in
set_option maxRecDepth 100000 in
theorem c_X12_begins_40_0 (l : Launch) (D : va_G) (cI cL : ClassId) (ad zz : Nat → Nat) (hJ : jD ad) (σ : Nat → Nat → Int32) (τ : Nat → Nat → Int64) (h55_55 : σ 55 55 = 0) : jMv l yX12_begins cX12_begins 2 none ({ frames := 0, cells := 0, slots := 0, locals := 0 }) D cI cL ad zz [.ref (ad 55), .int 40] σ τ (fun σ' τ' => τ = τ' ∧ (∀ i : Nat, (i < 55 ∨ 55 < i) ∧ (i < 85 ∨ 85 < i) → σ' i = σ i) ∧ (∀ k : Nat, (k < 55 ∨ 55 < k) → σ' 55 k = σ 55 k) ∧ (∀ k : Nat, (k < 0 ∨ 0 < k) → σ' 85 k = σ 85 k) ∧ (σ' 55 55 = 1) ∧ (σ' 85 0 = 40) ∧ True) := by
  refine jMv.of hJ (by decide +kernel) rfl (Nat.le_of_ble_eq_true rfl) ?_
  intro p e s m args below meth c Q ls hC hret hl hP
  obtain ⟨hx, hb, hr, hml, hown, hts, hK, -, hlocks, hZ⟩ := hC
  have hown : s.vm.findClass RX12 = some m.cls := hown
  have hS : va_S (jA ad) s.heap s.heap [] := va_S.rf
  have hA : ∀ q, jA ad q → jA ad q := fun _ h => h
  have hl : lv_has ls 2 [(0, .ref (ad 55)), (1, .int 40)] := hl
  refine lv_aload_n hx hb dX12_begins_0 rfl (lv_at hl 0 rfl) ?_
  refine va_get (D := D) hx hb hts inlX12 hown hK hP 55 (jc_55 cI cL ad σ τ) rfl 55 (of_decide_eq_true rfl) (hts _ kw_49_7) (fun _ h9 => h9) rfl dX12_begins_1 ?_
  refine jtopr h55_55 ?_
  refine lv_bipush (v := 24) hx hb dX12_begins_4 (of_decide_eq_true rfl) ?_
  refine lv_icmp_ge (tgt := 19) hx hb dX12_begins_6 (of_decide_eq_true rfl) (fun c => absurd c (of_decide_eq_true rfl)) (fun _ => ?_)
  refine lv_aload_n hx hb dX12_begins_9 rfl (lv_at hl 0 rfl) ?_
  refine va_get (D := D) hx hb hts inlX12 hown hK hP 55 (jc_55 cI cL ad σ τ) rfl 54 (of_decide_eq_true rfl) (hts _ kw_8_10) (fun _ h9 => h9) rfl dX12_begins_10 ?_
  refine lv_aload_n hx hb dX12_begins_13 rfl (lv_at hl 0 rfl) ?_
  refine va_get (D := D) hx hb hts inlX12 hown hK hP 55 (jc_55 cI cL ad σ τ) rfl 55 (of_decide_eq_true rfl) (hts _ kw_49_7) (fun _ h9 => h9) rfl dX12_begins_14 ?_
  refine jtopr h55_55 ?_
  refine lv_iload_n hx hb dX12_begins_17 rfl (lv_at hl 1 rfl) ?_
  exact by
   refine jast hx hb hK hP hJ hA hS (jc_85 cI cL ad σ τ) (ja_85 cI cL ad σ τ _ _) (jin jz_0 (by omega) (by omega)) dX12_begins_18 (fun σ1 H locs eσ1 hP hS => ?_)
   have eσ1 : σ1 = jup σ 85 0 40 := eσ1
   refine lv_aload_n hx hb dX12_begins_19 rfl (lv_at hl 0 rfl) ?_
   refine lv_dup hx hb dX12_begins_20 rfl ?_
   refine va_get (D := D) hx hb hts inlX12 hown hK hP 55 (jc_55 cI cL ad σ1 τ) rfl 55 (of_decide_eq_true rfl) (hts _ kw_49_7) (fun _ h9 => h9) rfl dX12_begins_21 ?_
   have m2 : σ1 55 55 = 0 := ((congrFun (jnp 55 eσ1 (of_decide_eq_true rfl)) 55).trans h55_55)
   refine jtopr m2 ?_
   refine lv_iconst (v := 1) hx hb dX12_begins_24 (of_decide_eq_true rfl) ?_
   refine lv_iadd hx hb dX12_begins_25 ?_
   refine jtopr (y := 1) (of_decide_eq_true rfl) ?_
   refine jput (ty := .int) hx hb hts inlX12 tyX12 tyX12_ok nmX12 hown hK hP hJ hA hS (jc_55 cI cL ad σ1 τ) rfl (k := 55) (of_decide_eq_true rfl) (Nat.le_of_ble_eq_true rfl) (jp_55_55 cI cL ad σ1 τ 1) (hts _ kw_49_7) (fun _ h9 => h9) rfl (by decide +kernel) rfl rfl dX12_begins_26 (fun σ3 H locs eσ3 hP hS => ?_)
   have m4 : σ3 55 55 = 1 := (jsp eσ3)
   have m5 : σ3 85 0 = 40 := ((congrFun (jnp 85 eσ3 (of_decide_eq_true rfl)) 0).trans (jsp eσ1))
   exact hret σ3 τ _ _ _ _ ⟨rfl, (fun i hi => ((jnp i eσ3 (imp_350 i hi)).trans (jnp i eσ1 (imp_351 i hi)))), (fun i hi => ((jkp i eσ3 (imp_165 i hi)).trans (congrFun (jnp 55 eσ1 (of_decide_eq_true rfl)) i))), (fun i hi => ((congrFun (jnp 85 eσ3 (of_decide_eq_true rfl)) i).trans (jkp i eσ1 (imp_4 i hi)))), m4, m5, trivial⟩ hP hS dX12_begins_29
set_option maxHeartbeats 4000000 in
set_option maxRecDepth 100000 in
theorem c_X12_putsAs_3_3_2 (l : Launch) (D : va_G) (cI cL : ClassId) (ad zz : Nat → Nat) (hJ : jD ad) (σ : Nat → Nat → Int32) (τ : Nat → Nat → Int64) (a2 : Int32) (A2 : Int) (t2 : a2.toInt = A2) (h55_55 : σ 55 55 = 2) (hp0 : (σ 55 56).toInt = 3) : jM l yX12_putsAs cX12_putsAs 3 (some .int) ({ frames := 1, cells := 0, slots := 0, locals := 21 }) D cI cL ad zz [.ref (ad 55), .int 3, .int a2] σ τ (fun r σ' τ' => τ = τ' ∧ (∀ i : Nat, (i < 55 ∨ 55 < i) ∧ (i < 85 ∨ 85 < i) → σ' i = σ i) ∧ (∀ k : Nat, (k < 55 ∨ 55 < k) → σ' 55 k = σ 55 k) ∧ (∀ k : Nat, (k < 2 ∨ 2 < k) → σ' 85 k = σ 85 k) ∧ (σ' 55 55 = 3) ∧ (σ' 85 2 = 1) ∧ ((r = (a2 + (σ 55 57)) ∧ True))) := by
  refine jM.of hJ (by decide +kernel) (nt := .int) rfl (Nat.le_of_ble_eq_true rfl) ?_
  intro p e s m args below meth c Q ls hC hret hl hP
  obtain ⟨hx, hb, hr, hml, hown, hts, hK, -, hlocks, hZ⟩ := hC
  have hown : s.vm.findClass RX12 = some m.cls := hown
  have hS : va_S (jA ad) s.heap s.heap [] := va_S.rf
  have hA : ∀ q, jA ad q → jA ad q := fun _ h => h
  have hl : lv_has ls 3 [(0, .ref (ad 55)), (1, .int 3), (2, .int a2)] := hl
  have g2 := jrg t2
  refine lv_iload_n hx hb dX12_putsAs_0 rfl (lv_at hl 1 rfl) ?_
  refine lv_iconst (v := 4) hx hb dX12_putsAs_1 (of_decide_eq_true rfl) ?_
  refine lv_icmp_ne (tgt := 20) hx hb dX12_putsAs_2 (of_decide_eq_true rfl) (fun _ => ?_) (fun c => absurd c (of_decide_eq_true rfl))
  refine lv_iload_n hx hb dX12_putsAs_20 rfl (lv_at hl 1 rfl) ?_
  refine lv_iconst (v := 1) hx hb dX12_putsAs_21 (of_decide_eq_true rfl) ?_
  refine lv_icmp_ne (tgt := 40) hx hb dX12_putsAs_22 (of_decide_eq_true rfl) (fun _ => ?_) (fun c => absurd c (of_decide_eq_true rfl))
  refine lv_aload_n hx hb dX12_putsAs_40 rfl (lv_at hl 0 rfl) ?_
  refine lv_iconst (v := 1) hx hb dX12_putsAs_41 (of_decide_eq_true rfl) ?_
  refine jcallVv (As := [.int 1]) (rest := []) ⟨hx, hb, hml, hown, hts⟩ hK hP hA hS hZ (c_X12_begins_1_2 l D cI cL ad zz hJ σ τ h55_55) cw_RX12_379 (jc_55 cI cL ad σ τ) rfl ⟨Nat.le_of_ble_eq_true rfl, Nat.le_of_ble_eq_true rfl⟩ rfl rfl rfl hl.1 rfl (Nat.le_of_ble_eq_true rfl) dX12_putsAs_42 ⟨Nat.zero_le _, Nat.zero_le _⟩ (fun σ1 τ1 H locs h1 hP hS => ?_)
  obtain ⟨rfl, f3, f4, f5, m6, m7, h1⟩ := h1
  refine lv_iload_n hx hb dX12_putsAs_45 rfl (lv_at hl 2 rfl) ?_
  refine lv_aload_n hx hb dX12_putsAs_46 rfl (lv_at hl 0 rfl) ?_
  refine va_get (D := D) hx hb hts inlX12 hown hK hP 55 (jc_55 cI cL ad σ1 τ) rfl 57 (of_decide_eq_true rfl) (hts _ kw_49_9) (fun _ h9 => h9) rfl dX12_putsAs_47 ?_
  have m9 : σ1 55 57 = (σ 55 57) := (f4 57 (of_decide_eq_true rfl))
  refine jtopr m9 ?_
  have g10 := jrg (rfl : (σ 55 57).toInt = (σ 55 57).toInt)
  refine lv_iadd hx hb dX12_putsAs_50 ?_
  refine lv_topi (fun x11 ex11 => ?_)
  have gx11 := jrg (rfl : x11.toInt = x11.toInt)
  exact hret x11 σ1 τ _ _ _ _ rfl ⟨rfl, (fun i hi => (f3 i hi)), (fun i hi => (f4 i hi)), (fun i hi => (f5 i hi)), m6, m7, ⟨(by rw [ex11]), trivial⟩⟩ hP hS dX12_putsAs_51
set_option maxHeartbeats 4000000 in
set_option maxRecDepth 100000 in
theorem c_X12_holdsAs_3_0_1 (l : Launch) (D : va_G) (cI cL : ClassId) (ad zz : Nat → Nat) (hJ : jD ad) (σ : Nat → Nat → Int32) (τ : Nat → Nat → Int64) (a2 : Int32) (A2 : Int) (t2 : a2.toInt = A2) (h55_55 : σ 55 55 = 1) (hp0 : (σ 55 56).toInt = 3) : jM l yX12_holdsAs cX12_holdsAs 4 (some .int) ({ frames := 2, cells := 0, slots := 0, locals := 43 }) D cI cL ad zz [.ref (ad 55), .int 0, .int a2] σ τ (fun r σ' τ' => τ = τ' ∧ (∀ i : Nat, (i < 55 ∨ 55 < i) ∧ (i < 85 ∨ 85 < i) → σ' i = σ i) ∧ (∀ k : Nat, (k < 55 ∨ 55 < k) → σ' 55 k = σ 55 k) ∧ (∀ k : Nat, (k < 1 ∨ 1 < k) ∧ (k < 2 ∨ 2 < k) → σ' 85 k = σ 85 k) ∧ (σ' 55 55 = 3) ∧ (σ' 85 1 = 10) ∧ (σ' 85 2 = 1) ∧ ((r = ((a2 + (σ 55 57)) * 2) ∧ True))) := by
  refine jM.of hJ (by decide +kernel) (nt := .int) rfl (Nat.le_of_ble_eq_true rfl) ?_
  intro p e s m args below meth c Q ls hC hret hl hP
  obtain ⟨hx, hb, hr, hml, hown, hts, hK, -, hlocks, hZ⟩ := hC
  have hown : s.vm.findClass RX12 = some m.cls := hown
  have hS : va_S (jA ad) s.heap s.heap [] := va_S.rf
  have hA : ∀ q, jA ad q → jA ad q := fun _ h => h
  have hl : lv_has ls 4 [(0, .ref (ad 55)), (1, .int 0), (2, .int a2)] := hl
  have g2 := jrg t2
  refine lv_iload_n hx hb dX12_holdsAs_0 rfl (lv_at hl 1 rfl) ?_
  refine lv_iconst (v := 3) hx hb dX12_holdsAs_1 (of_decide_eq_true rfl) ?_
  refine lv_icmp_eq (tgt := 10) hx hb dX12_holdsAs_2 (of_decide_eq_true rfl) (fun c => absurd c (of_decide_eq_true rfl)) (fun _ => ?_)
  refine lv_iload_n hx hb dX12_holdsAs_5 rfl (lv_at hl 1 rfl) ?_
  refine lv_iconst (v := 5) hx hb dX12_holdsAs_6 (of_decide_eq_true rfl) ?_
  refine lv_icmp_ne (tgt := 24) hx hb dX12_holdsAs_7 (of_decide_eq_true rfl) (fun _ => ?_) (fun c => absurd c (of_decide_eq_true rfl))
  refine lv_iload_n hx hb dX12_holdsAs_24 rfl (lv_at hl 1 rfl) ?_
  refine lv_bipush (v := 6) hx hb dX12_holdsAs_25 (of_decide_eq_true rfl) ?_
  refine lv_icmp_ne (tgt := 55) hx hb dX12_holdsAs_27 (of_decide_eq_true rfl) (fun _ => ?_) (fun c => absurd c (of_decide_eq_true rfl))
  refine lv_aload_n hx hb dX12_holdsAs_55 rfl (lv_at hl 0 rfl) ?_
  refine lv_bipush (v := 10) hx hb dX12_holdsAs_56 (of_decide_eq_true rfl) ?_
  refine jcallVv (As := [.int 10]) (rest := []) ⟨hx, hb, hml, hown, hts⟩ hK hP hA hS hZ (c_X12_begins_10_1 l D cI cL ad zz hJ σ τ h55_55) cw_RX12_379 (jc_55 cI cL ad σ τ) rfl ⟨Nat.le_of_ble_eq_true rfl, Nat.le_of_ble_eq_true rfl⟩ rfl rfl rfl hl.1 rfl (Nat.le_of_ble_eq_true rfl) dX12_holdsAs_58 ⟨Nat.zero_le _, Nat.zero_le _⟩ (fun σ1 τ1 H locs h1 hP hS => ?_)
  obtain ⟨rfl, f3, f4, f5, m6, m7, h1⟩ := h1
  refine lv_aload_n hx hb dX12_holdsAs_61 rfl (lv_at hl 0 rfl) ?_
  refine lv_aload_n hx hb dX12_holdsAs_62 rfl (lv_at hl 0 rfl) ?_
  refine va_get (D := D) hx hb hts inlX12 hown hK hP 55 (jc_55 cI cL ad σ1 τ) rfl 56 (of_decide_eq_true rfl) (hts _ kw_49_8) (fun _ h9 => h9) rfl dX12_holdsAs_63 ?_
  have m9 : σ1 55 56 = (σ 55 56) := (f4 56 (of_decide_eq_true rfl))
  refine jtopr m9 ?_
  exact by
   refine jtopr (jsame (rfl : (σ 55 56).toInt = (σ 55 56).toInt) jz_3 (by omega)) ?_
   refine lv_iload_n hx hb dX12_holdsAs_66 rfl (lv_at hl 2 rfl) ?_
   have z10 : (σ1 55 56).toInt = (σ 55 56).toInt := (congrArg Int32.toInt (show σ1 55 56 = (σ 55 56) from m9))
   refine jcallV (As := [.int 3, .int a2]) (rest := []) ⟨hx, hb, hml, hown, hts⟩ hK hP hA hS hZ (c_X12_putsAs_3_3_2 l D cI cL ad zz hJ σ1 τ a2 (A2) t2 m6 (by omega)) cw_RX12_382 (jc_55 cI cL ad σ1 τ) rfl ⟨Nat.le_of_ble_eq_true rfl, Nat.le_of_ble_eq_true rfl⟩ rfl rfl rfl hl.1 rfl (Nat.le_of_ble_eq_true rfl) dX12_holdsAs_67 ⟨Nat.zero_le _, Nat.zero_le _⟩ (fun r12 σ11 τ11 H locs h11 hP hS => ?_)
   obtain ⟨rfl, f13, f14, f15, m16, m17, h11⟩ := h11
   have h19 := h11
   obtain ⟨q21, k20⟩ := h19
   have q21 := q21.symm
   subst q21
   exact by
    refine lv_iconst (v := 2) hx hb dX12_holdsAs_70 (of_decide_eq_true rfl) ?_
    have g22 := jrg (rfl : (a2 + (σ1 55 57)).toInt = (a2 + (σ1 55 57)).toInt)
    refine lv_imul hx hb dX12_holdsAs_71 ?_
    refine lv_topi (fun x23 ex23 => ?_)
    have gx23 := jrg (rfl : x23.toInt = x23.toInt)
    have m24 : σ11 85 1 = 10 := ((f15 1 (of_decide_eq_true rfl)).trans m7)
    exact hret x23 σ11 τ _ _ _ _ rfl ⟨rfl, (fun i hi => ((f13 i hi).trans (f3 i hi))), (fun i hi => ((f14 i hi).trans (f4 i hi))), (fun i hi => ((f15 i (imp_43 i hi)).trans (f5 i (imp_55 i hi)))), m16, m24, m17, ⟨(by rw [ex23, (show σ1 55 57 = σ 55 57 from (f4 57 (of_decide_eq_true rfl)))]), trivial⟩⟩ hP hS dX12_holdsAs_72
set_option maxHeartbeats 4000000 in
set_option maxRecDepth 100000 in
theorem c_X12_holdsAs_3_3_0 (l : Launch) (D : va_G) (cI cL : ClassId) (ad zz : Nat → Nat) (hJ : jD ad) (σ : Nat → Nat → Int32) (τ : Nat → Nat → Int64) (a2 : Int32) (A2 : Int) (t2 : a2.toInt = A2) (h55_55 : σ 55 55 = 0) (hp0 : (σ 55 56).toInt = 3) : jM l yX12_holdsAs cX12_holdsAs 4 (some .int) ({ frames := 3, cells := 0, slots := 0, locals := 66 }) D cI cL ad zz [.ref (ad 55), .int 3, .int a2] σ τ (fun r σ' τ' => τ = τ' ∧ (∀ i : Nat, (i < 55 ∨ 55 < i) ∧ (i < 85 ∨ 85 < i) → σ' i = σ i) ∧ (∀ k : Nat, (k < 55 ∨ 55 < k) → σ' 55 k = σ 55 k) ∧ (∀ k : Nat, (k < 0 ∨ 0 < k) ∧ (k < 1 ∨ 1 < k) ∧ (k < 2 ∨ 2 < k) → σ' 85 k = σ 85 k) ∧ (σ' 55 55 = 3) ∧ (σ' 85 0 = 40) ∧ (σ' 85 1 = 10) ∧ (σ' 85 2 = 1) ∧ ((r = (-((a2 + (σ 55 57)) * 2)) ∧ True))) := by
  refine jM.of hJ (by decide +kernel) (nt := .int) rfl (Nat.le_of_ble_eq_true rfl) ?_
  intro p e s m args below meth c Q ls hC hret hl hP
  obtain ⟨hx, hb, hr, hml, hown, hts, hK, -, hlocks, hZ⟩ := hC
  have hown : s.vm.findClass RX12 = some m.cls := hown
  have hS : va_S (jA ad) s.heap s.heap [] := va_S.rf
  have hA : ∀ q, jA ad q → jA ad q := fun _ h => h
  have hl : lv_has ls 4 [(0, .ref (ad 55)), (1, .int 3), (2, .int a2)] := hl
  have g2 := jrg t2
  refine lv_iload_n hx hb dX12_holdsAs_0 rfl (lv_at hl 1 rfl) ?_
  refine lv_iconst (v := 3) hx hb dX12_holdsAs_1 (of_decide_eq_true rfl) ?_
  refine lv_icmp_eq (tgt := 10) hx hb dX12_holdsAs_2 (of_decide_eq_true rfl) (fun _ => ?_) (fun c => absurd (of_decide_eq_true rfl) c)
  refine lv_aload_n hx hb dX12_holdsAs_10 rfl (lv_at hl 0 rfl) ?_
  refine lv_bipush (v := 40) hx hb dX12_holdsAs_11 (of_decide_eq_true rfl) ?_
  refine jcallVv (As := [.int 40]) (rest := []) ⟨hx, hb, hml, hown, hts⟩ hK hP hA hS hZ (c_X12_begins_40_0 l D cI cL ad zz hJ σ τ h55_55) cw_RX12_379 (jc_55 cI cL ad σ τ) rfl ⟨Nat.le_of_ble_eq_true rfl, Nat.le_of_ble_eq_true rfl⟩ rfl rfl rfl hl.1 rfl (Nat.le_of_ble_eq_true rfl) dX12_holdsAs_13 ⟨Nat.zero_le _, Nat.zero_le _⟩ (fun σ1 τ1 H locs h1 hP hS => ?_)
  obtain ⟨rfl, f3, f4, f5, m6, m7, h1⟩ := h1
  refine lv_aload_n hx hb dX12_holdsAs_16 rfl (lv_at hl 0 rfl) ?_
  refine lv_iconst (v := 0) hx hb dX12_holdsAs_17 (of_decide_eq_true rfl) ?_
  refine lv_iload_n hx hb dX12_holdsAs_18 rfl (lv_at hl 2 rfl) ?_
  have z9 : (σ1 55 56).toInt = (σ 55 56).toInt := (congrArg Int32.toInt (show σ1 55 56 = (σ 55 56) from (f4 56 (of_decide_eq_true rfl))))
  exact by
   refine jcallV (As := [.int 0, .int a2]) (rest := []) ⟨hx, hb, hml, hown, hts⟩ hK hP hA hS hZ (c_X12_holdsAs_3_0_1 l D cI cL ad zz hJ σ1 τ a2 (A2) t2 m6 (by omega)) cw_RX12_388 (jc_55 cI cL ad σ1 τ) rfl ⟨Nat.le_of_ble_eq_true rfl, Nat.le_of_ble_eq_true rfl⟩ rfl rfl rfl hl.1 rfl (Nat.le_of_ble_eq_true rfl) dX12_holdsAs_19 ⟨Nat.zero_le _, Nat.zero_le _⟩ (fun r11 σ10 τ10 H locs h10 hP hS => ?_)
   obtain ⟨rfl, f12, f13, f14, m15, m16, m17, h10⟩ := h10
   have h19 := h10
   obtain ⟨q21, k20⟩ := h19
   have q21 := q21.symm
   subst q21
   refine lv_ineg hx hb dX12_holdsAs_22 ?_
   refine lv_topi (fun x22 ex22 => ?_)
   have gx22 := jrg (rfl : x22.toInt = x22.toInt)
   have m23 : σ10 85 0 = 40 := ((f14 0 (of_decide_eq_true rfl)).trans m7)
   exact hret x22 σ10 τ _ _ _ _ rfl ⟨rfl, (fun i hi => ((f12 i hi).trans (f3 i hi))), (fun i hi => ((f13 i hi).trans (f4 i hi))), (fun i hi => ((f14 i (imp_49 i hi)).trans (f5 i (imp_354 i hi)))), m15, m23, m16, m17, ⟨(by rw [ex22, (show σ1 55 57 = σ 55 57 from (f4 57 (of_decide_eq_true rfl)))]), trivial⟩⟩ hP hS dX12_holdsAs_23
set_option maxHeartbeats 4000000 in
set_option maxRecDepth 100000 in
theorem c_X12_givesAs_3_0_1 (l : Launch) (D : va_G) (cI cL : ClassId) (ad zz : Nat → Nat) (hJ : jD ad) (σ : Nat → Nat → Int32) (τ : Nat → Nat → Int64) (a2 : Int32) (A2 : Int) (t2 : a2.toInt = A2) (h55_55 : σ 55 55 = 1) (hp0 : (σ 55 56).toInt = 3) : jM l yX12_givesAs cX12_givesAs 4 (some .int) ({ frames := 1, cells := 0, slots := 0, locals := 21 }) D cI cL ad zz [.ref (ad 55), .int 0, .int a2] σ τ (fun r σ' τ' => τ = τ' ∧ (∀ i : Nat, (i < 55 ∨ 55 < i) ∧ (i < 85 ∨ 85 < i) → σ' i = σ i) ∧ (∀ k : Nat, (k < 55 ∨ 55 < k) → σ' 55 k = σ 55 k) ∧ (∀ k : Nat, (k < 1 ∨ 1 < k) → σ' 85 k = σ 85 k) ∧ (σ' 55 55 = 2) ∧ (σ' 85 1 = 11) ∧ ((r = (a2 ^^^ (σ 55 57)) ∧ True))) := by
  refine jM.of hJ (by decide +kernel) (nt := .int) rfl (Nat.le_of_ble_eq_true rfl) ?_
  intro p e s m args below meth c Q ls hC hret hl hP
  obtain ⟨hx, hb, hr, hml, hown, hts, hK, -, hlocks, hZ⟩ := hC
  have hown : s.vm.findClass RX12 = some m.cls := hown
  have hS : va_S (jA ad) s.heap s.heap [] := va_S.rf
  have hA : ∀ q, jA ad q → jA ad q := fun _ h => h
  have hl : lv_has ls 4 [(0, .ref (ad 55)), (1, .int 0), (2, .int a2)] := hl
  have g2 := jrg t2
  refine lv_iload_n hx hb dX12_givesAs_0 rfl (lv_at hl 1 rfl) ?_
  refine lv_iconst (v := 5) hx hb dX12_givesAs_1 (of_decide_eq_true rfl) ?_
  refine lv_icmp_ne (tgt := 30) hx hb dX12_givesAs_2 (of_decide_eq_true rfl) (fun _ => ?_) (fun c => absurd c (of_decide_eq_true rfl))
  refine lv_iload_n hx hb dX12_givesAs_30 rfl (lv_at hl 1 rfl) ?_
  refine lv_iconst (v := 2) hx hb dX12_givesAs_31 (of_decide_eq_true rfl) ?_
  refine lv_icmp_eq (tgt := 40) hx hb dX12_givesAs_32 (of_decide_eq_true rfl) (fun c => absurd c (of_decide_eq_true rfl)) (fun _ => ?_)
  refine lv_iload_n hx hb dX12_givesAs_35 rfl (lv_at hl 1 rfl) ?_
  refine lv_iconst (v := 3) hx hb dX12_givesAs_36 (of_decide_eq_true rfl) ?_
  refine lv_icmp_ne (tgt := 55) hx hb dX12_givesAs_37 (of_decide_eq_true rfl) (fun _ => ?_) (fun c => absurd c (of_decide_eq_true rfl))
  refine lv_aload_n hx hb dX12_givesAs_55 rfl (lv_at hl 0 rfl) ?_
  refine lv_bipush (v := 11) hx hb dX12_givesAs_56 (of_decide_eq_true rfl) ?_
  refine jcallVv (As := [.int 11]) (rest := []) ⟨hx, hb, hml, hown, hts⟩ hK hP hA hS hZ (c_X12_begins_11_1 l D cI cL ad zz hJ σ τ h55_55) cw_RX12_379 (jc_55 cI cL ad σ τ) rfl ⟨Nat.le_of_ble_eq_true rfl, Nat.le_of_ble_eq_true rfl⟩ rfl rfl rfl hl.1 rfl (Nat.le_of_ble_eq_true rfl) dX12_givesAs_58 ⟨Nat.zero_le _, Nat.zero_le _⟩ (fun σ1 τ1 H locs h1 hP hS => ?_)
  obtain ⟨rfl, f3, f4, f5, m6, m7, h1⟩ := h1
  refine lv_iload_n hx hb dX12_givesAs_61 rfl (lv_at hl 2 rfl) ?_
  refine lv_aload_n hx hb dX12_givesAs_62 rfl (lv_at hl 0 rfl) ?_
  refine va_get (D := D) hx hb hts inlX12 hown hK hP 55 (jc_55 cI cL ad σ1 τ) rfl 57 (of_decide_eq_true rfl) (hts _ kw_49_9) (fun _ h9 => h9) rfl dX12_givesAs_63 ?_
  have m9 : σ1 55 57 = (σ 55 57) := (f4 57 (of_decide_eq_true rfl))
  refine jtopr m9 ?_
  refine lv_ixor hx hb dX12_givesAs_66 ?_
  refine lv_topi (fun x10 ex10 => ?_)
  have gx10 := jrg (rfl : x10.toInt = x10.toInt)
  exact hret x10 σ1 τ _ _ _ _ rfl ⟨rfl, (fun i hi => (f3 i hi)), (fun i hi => (f4 i hi)), (fun i hi => (f5 i hi)), m6, m7, ⟨(by rw [ex10]), trivial⟩⟩ hP hS dX12_givesAs_67
set_option maxHeartbeats 4000000 in
set_option maxRecDepth 100000 in
theorem c_X12_givesAs_3_3_0 (l : Launch) (D : va_G) (cI cL : ClassId) (ad zz : Nat → Nat) (hJ : jD ad) (σ : Nat → Nat → Int32) (τ : Nat → Nat → Int64) (a2 : Int32) (A2 : Int) (t2 : a2.toInt = A2) (h55_55 : σ 55 55 = 0) (hp0 : (σ 55 56).toInt = 3) : jM l yX12_givesAs cX12_givesAs 4 (some .int) ({ frames := 2, cells := 0, slots := 0, locals := 44 }) D cI cL ad zz [.ref (ad 55), .int 3, .int a2] σ τ (fun r σ' τ' => τ = τ' ∧ (∀ i : Nat, (i < 55 ∨ 55 < i) ∧ (i < 85 ∨ 85 < i) → σ' i = σ i) ∧ (∀ k : Nat, (k < 55 ∨ 55 < k) → σ' 55 k = σ 55 k) ∧ (∀ k : Nat, (k < 0 ∨ 0 < k) ∧ (k < 1 ∨ 1 < k) → σ' 85 k = σ 85 k) ∧ (σ' 55 55 = 2) ∧ (σ' 85 0 = 30) ∧ (σ' 85 1 = 11) ∧ ((r = ((a2 ^^^ (σ 55 57)) * 3) ∧ True))) := by
  refine jM.of hJ (by decide +kernel) (nt := .int) rfl (Nat.le_of_ble_eq_true rfl) ?_
  intro p e s m args below meth c Q ls hC hret hl hP
  obtain ⟨hx, hb, hr, hml, hown, hts, hK, -, hlocks, hZ⟩ := hC
  have hown : s.vm.findClass RX12 = some m.cls := hown
  have hS : va_S (jA ad) s.heap s.heap [] := va_S.rf
  have hA : ∀ q, jA ad q → jA ad q := fun _ h => h
  have hl : lv_has ls 4 [(0, .ref (ad 55)), (1, .int 3), (2, .int a2)] := hl
  have g2 := jrg t2
  refine lv_iload_n hx hb dX12_givesAs_0 rfl (lv_at hl 1 rfl) ?_
  refine lv_iconst (v := 5) hx hb dX12_givesAs_1 (of_decide_eq_true rfl) ?_
  refine lv_icmp_ne (tgt := 30) hx hb dX12_givesAs_2 (of_decide_eq_true rfl) (fun _ => ?_) (fun c => absurd c (of_decide_eq_true rfl))
  refine lv_iload_n hx hb dX12_givesAs_30 rfl (lv_at hl 1 rfl) ?_
  refine lv_iconst (v := 2) hx hb dX12_givesAs_31 (of_decide_eq_true rfl) ?_
  refine lv_icmp_eq (tgt := 40) hx hb dX12_givesAs_32 (of_decide_eq_true rfl) (fun c => absurd c (of_decide_eq_true rfl)) (fun _ => ?_)
  refine lv_iload_n hx hb dX12_givesAs_35 rfl (lv_at hl 1 rfl) ?_
  refine lv_iconst (v := 3) hx hb dX12_givesAs_36 (of_decide_eq_true rfl) ?_
  refine lv_icmp_ne (tgt := 55) hx hb dX12_givesAs_37 (of_decide_eq_true rfl) (fun c => absurd (of_decide_eq_true rfl) c) (fun _ => ?_)
  refine lv_aload_n hx hb dX12_givesAs_40 rfl (lv_at hl 0 rfl) ?_
  refine lv_bipush (v := 30) hx hb dX12_givesAs_41 (of_decide_eq_true rfl) ?_
  refine jcallVv (As := [.int 30]) (rest := []) ⟨hx, hb, hml, hown, hts⟩ hK hP hA hS hZ (c_X12_begins_30_0 l D cI cL ad zz hJ σ τ h55_55) cw_RX12_379 (jc_55 cI cL ad σ τ) rfl ⟨Nat.le_of_ble_eq_true rfl, Nat.le_of_ble_eq_true rfl⟩ rfl rfl rfl hl.1 rfl (Nat.le_of_ble_eq_true rfl) dX12_givesAs_43 ⟨Nat.zero_le _, Nat.zero_le _⟩ (fun σ1 τ1 H locs h1 hP hS => ?_)
  obtain ⟨rfl, f3, f4, f5, m6, m7, h1⟩ := h1
  refine lv_aload_n hx hb dX12_givesAs_46 rfl (lv_at hl 0 rfl) ?_
  refine lv_iconst (v := 0) hx hb dX12_givesAs_47 (of_decide_eq_true rfl) ?_
  refine lv_iload_n hx hb dX12_givesAs_48 rfl (lv_at hl 2 rfl) ?_
  have z9 : (σ1 55 56).toInt = (σ 55 56).toInt := (congrArg Int32.toInt (show σ1 55 56 = (σ 55 56) from (f4 56 (of_decide_eq_true rfl))))
  exact by
   refine jcallV (As := [.int 0, .int a2]) (rest := []) ⟨hx, hb, hml, hown, hts⟩ hK hP hA hS hZ (c_X12_givesAs_3_0_1 l D cI cL ad zz hJ σ1 τ a2 (A2) t2 m6 (by omega)) cw_RX12_394 (jc_55 cI cL ad σ1 τ) rfl ⟨Nat.le_of_ble_eq_true rfl, Nat.le_of_ble_eq_true rfl⟩ rfl rfl rfl hl.1 rfl (Nat.le_of_ble_eq_true rfl) dX12_givesAs_49 ⟨Nat.zero_le _, Nat.zero_le _⟩ (fun r11 σ10 τ10 H locs h10 hP hS => ?_)
   obtain ⟨rfl, f12, f13, f14, m15, m16, h10⟩ := h10
   have h18 := h10
   obtain ⟨q20, k19⟩ := h18
   have q20 := q20.symm
   subst q20
   refine lv_iconst (v := 3) hx hb dX12_givesAs_52 (of_decide_eq_true rfl) ?_
   have g21 := jrg (rfl : (a2 ^^^ (σ1 55 57)).toInt = (a2 ^^^ (σ1 55 57)).toInt)
   refine lv_imul hx hb dX12_givesAs_53 ?_
   refine lv_topi (fun x22 ex22 => ?_)
   have gx22 := jrg (rfl : x22.toInt = x22.toInt)
   have m23 : σ10 85 0 = 30 := ((f14 0 (of_decide_eq_true rfl)).trans m7)
   exact hret x22 σ10 τ _ _ _ _ rfl ⟨rfl, (fun i hi => ((f12 i hi).trans (f3 i hi))), (fun i hi => ((f13 i hi).trans (f4 i hi))), (fun i hi => ((f14 i (imp_307 i hi)).trans (f5 i (imp_352 i hi)))), m15, m23, m16, ⟨(by rw [ex22, (show σ1 55 57 = σ 55 57 from (f4 57 (of_decide_eq_true rfl)))]), trivial⟩⟩ hP hS dX12_givesAs_54
set_option maxHeartbeats 4000000 in
set_option maxRecDepth 100000 in
theorem c_X12_begins_40_1 (l : Launch) (D : va_G) (cI cL : ClassId) (ad zz : Nat → Nat) (hJ : jD ad) (σ : Nat → Nat → Int32) (τ : Nat → Nat → Int64) (h55_55 : σ 55 55 = 1) : jMv l yX12_begins cX12_begins 2 none ({ frames := 0, cells := 0, slots := 0, locals := 0 }) D cI cL ad zz [.ref (ad 55), .int 40] σ τ (fun σ' τ' => τ = τ' ∧ (∀ i : Nat, (i < 55 ∨ 55 < i) ∧ (i < 85 ∨ 85 < i) → σ' i = σ i) ∧ (∀ k : Nat, (k < 55 ∨ 55 < k) → σ' 55 k = σ 55 k) ∧ (∀ k : Nat, (k < 1 ∨ 1 < k) → σ' 85 k = σ 85 k) ∧ (σ' 55 55 = 2) ∧ (σ' 85 1 = 40) ∧ True) := by
  refine jMv.of hJ (by decide +kernel) rfl (Nat.le_of_ble_eq_true rfl) ?_
  intro p e s m args below meth c Q ls hC hret hl hP
  obtain ⟨hx, hb, hr, hml, hown, hts, hK, -, hlocks, hZ⟩ := hC
  have hown : s.vm.findClass RX12 = some m.cls := hown
  have hS : va_S (jA ad) s.heap s.heap [] := va_S.rf
  have hA : ∀ q, jA ad q → jA ad q := fun _ h => h
  have hl : lv_has ls 2 [(0, .ref (ad 55)), (1, .int 40)] := hl
  refine lv_aload_n hx hb dX12_begins_0 rfl (lv_at hl 0 rfl) ?_
  refine va_get (D := D) hx hb hts inlX12 hown hK hP 55 (jc_55 cI cL ad σ τ) rfl 55 (of_decide_eq_true rfl) (hts _ kw_49_7) (fun _ h9 => h9) rfl dX12_begins_1 ?_
  refine jtopr h55_55 ?_
  refine lv_bipush (v := 24) hx hb dX12_begins_4 (of_decide_eq_true rfl) ?_
  refine lv_icmp_ge (tgt := 19) hx hb dX12_begins_6 (of_decide_eq_true rfl) (fun c => absurd c (of_decide_eq_true rfl)) (fun _ => ?_)
  refine lv_aload_n hx hb dX12_begins_9 rfl (lv_at hl 0 rfl) ?_
  refine va_get (D := D) hx hb hts inlX12 hown hK hP 55 (jc_55 cI cL ad σ τ) rfl 54 (of_decide_eq_true rfl) (hts _ kw_8_10) (fun _ h9 => h9) rfl dX12_begins_10 ?_
  refine lv_aload_n hx hb dX12_begins_13 rfl (lv_at hl 0 rfl) ?_
  refine va_get (D := D) hx hb hts inlX12 hown hK hP 55 (jc_55 cI cL ad σ τ) rfl 55 (of_decide_eq_true rfl) (hts _ kw_49_7) (fun _ h9 => h9) rfl dX12_begins_14 ?_
  refine jtopr h55_55 ?_
  refine lv_iload_n hx hb dX12_begins_17 rfl (lv_at hl 1 rfl) ?_
  exact by
   refine jast hx hb hK hP hJ hA hS (jc_85 cI cL ad σ τ) (ja_85 cI cL ad σ τ _ _) (jin jz_1 (by omega) (by omega)) dX12_begins_18 (fun σ1 H locs eσ1 hP hS => ?_)
   have eσ1 : σ1 = jup σ 85 1 40 := eσ1
   refine lv_aload_n hx hb dX12_begins_19 rfl (lv_at hl 0 rfl) ?_
   refine lv_dup hx hb dX12_begins_20 rfl ?_
   refine va_get (D := D) hx hb hts inlX12 hown hK hP 55 (jc_55 cI cL ad σ1 τ) rfl 55 (of_decide_eq_true rfl) (hts _ kw_49_7) (fun _ h9 => h9) rfl dX12_begins_21 ?_
   have m2 : σ1 55 55 = 1 := ((congrFun (jnp 55 eσ1 (of_decide_eq_true rfl)) 55).trans h55_55)
   refine jtopr m2 ?_
   refine lv_iconst (v := 1) hx hb dX12_begins_24 (of_decide_eq_true rfl) ?_
   refine lv_iadd hx hb dX12_begins_25 ?_
   refine jtopr (y := 2) (of_decide_eq_true rfl) ?_
   refine jput (ty := .int) hx hb hts inlX12 tyX12 tyX12_ok nmX12 hown hK hP hJ hA hS (jc_55 cI cL ad σ1 τ) rfl (k := 55) (of_decide_eq_true rfl) (Nat.le_of_ble_eq_true rfl) (jp_55_55 cI cL ad σ1 τ 2) (hts _ kw_49_7) (fun _ h9 => h9) rfl (by decide +kernel) rfl rfl dX12_begins_26 (fun σ3 H locs eσ3 hP hS => ?_)
   have m4 : σ3 55 55 = 2 := (jsp eσ3)
   have m5 : σ3 85 1 = 40 := ((congrFun (jnp 85 eσ3 (of_decide_eq_true rfl)) 1).trans (jsp eσ1))
   exact hret σ3 τ _ _ _ _ ⟨rfl, (fun i hi => ((jnp i eσ3 (imp_350 i hi)).trans (jnp i eσ1 (imp_351 i hi)))), (fun i hi => ((jkp i eσ3 (imp_165 i hi)).trans (congrFun (jnp 55 eσ1 (of_decide_eq_true rfl)) i))), (fun i hi => ((congrFun (jnp 85 eσ3 (of_decide_eq_true rfl)) i).trans (jkp i eσ1 (imp_42 i hi)))), m4, m5, trivial⟩ hP hS dX12_begins_29
set_option maxHeartbeats 4000000 in
set_option maxRecDepth 100000 in
theorem c_X12_begins_10_2 (l : Launch) (D : va_G) (cI cL : ClassId) (ad zz : Nat → Nat) (hJ : jD ad) (σ : Nat → Nat → Int32) (τ : Nat → Nat → Int64) (h55_55 : σ 55 55 = 2) : jMv l yX12_begins cX12_begins 2 none ({ frames := 0, cells := 0, slots := 0, locals := 0 }) D cI cL ad zz [.ref (ad 55), .int 10] σ τ (fun σ' τ' => τ = τ' ∧ (∀ i : Nat, (i < 55 ∨ 55 < i) ∧ (i < 85 ∨ 85 < i) → σ' i = σ i) ∧ (∀ k : Nat, (k < 55 ∨ 55 < k) → σ' 55 k = σ 55 k) ∧ (∀ k : Nat, (k < 2 ∨ 2 < k) → σ' 85 k = σ 85 k) ∧ (σ' 55 55 = 3) ∧ (σ' 85 2 = 10) ∧ True) := by
  refine jMv.of hJ (by decide +kernel) rfl (Nat.le_of_ble_eq_true rfl) ?_
  intro p e s m args below meth c Q ls hC hret hl hP
  obtain ⟨hx, hb, hr, hml, hown, hts, hK, -, hlocks, hZ⟩ := hC
  have hown : s.vm.findClass RX12 = some m.cls := hown
  have hS : va_S (jA ad) s.heap s.heap [] := va_S.rf
  have hA : ∀ q, jA ad q → jA ad q := fun _ h => h
  have hl : lv_has ls 2 [(0, .ref (ad 55)), (1, .int 10)] := hl
  refine lv_aload_n hx hb dX12_begins_0 rfl (lv_at hl 0 rfl) ?_
  refine va_get (D := D) hx hb hts inlX12 hown hK hP 55 (jc_55 cI cL ad σ τ) rfl 55 (of_decide_eq_true rfl) (hts _ kw_49_7) (fun _ h9 => h9) rfl dX12_begins_1 ?_
  refine jtopr h55_55 ?_
  refine lv_bipush (v := 24) hx hb dX12_begins_4 (of_decide_eq_true rfl) ?_
  refine lv_icmp_ge (tgt := 19) hx hb dX12_begins_6 (of_decide_eq_true rfl) (fun c => absurd c (of_decide_eq_true rfl)) (fun _ => ?_)
  refine lv_aload_n hx hb dX12_begins_9 rfl (lv_at hl 0 rfl) ?_
  refine va_get (D := D) hx hb hts inlX12 hown hK hP 55 (jc_55 cI cL ad σ τ) rfl 54 (of_decide_eq_true rfl) (hts _ kw_8_10) (fun _ h9 => h9) rfl dX12_begins_10 ?_
  refine lv_aload_n hx hb dX12_begins_13 rfl (lv_at hl 0 rfl) ?_
  refine va_get (D := D) hx hb hts inlX12 hown hK hP 55 (jc_55 cI cL ad σ τ) rfl 55 (of_decide_eq_true rfl) (hts _ kw_49_7) (fun _ h9 => h9) rfl dX12_begins_14 ?_
  refine jtopr h55_55 ?_
  refine lv_iload_n hx hb dX12_begins_17 rfl (lv_at hl 1 rfl) ?_
  exact by
   refine jast hx hb hK hP hJ hA hS (jc_85 cI cL ad σ τ) (ja_85 cI cL ad σ τ _ _) (jin jz_2 (by omega) (by omega)) dX12_begins_18 (fun σ1 H locs eσ1 hP hS => ?_)
   have eσ1 : σ1 = jup σ 85 2 10 := eσ1
   refine lv_aload_n hx hb dX12_begins_19 rfl (lv_at hl 0 rfl) ?_
   refine lv_dup hx hb dX12_begins_20 rfl ?_
   refine va_get (D := D) hx hb hts inlX12 hown hK hP 55 (jc_55 cI cL ad σ1 τ) rfl 55 (of_decide_eq_true rfl) (hts _ kw_49_7) (fun _ h9 => h9) rfl dX12_begins_21 ?_
   have m2 : σ1 55 55 = 2 := ((congrFun (jnp 55 eσ1 (of_decide_eq_true rfl)) 55).trans h55_55)
   refine jtopr m2 ?_
   refine lv_iconst (v := 1) hx hb dX12_begins_24 (of_decide_eq_true rfl) ?_
   refine lv_iadd hx hb dX12_begins_25 ?_
   refine jtopr (y := 3) (of_decide_eq_true rfl) ?_
   refine jput (ty := .int) hx hb hts inlX12 tyX12 tyX12_ok nmX12 hown hK hP hJ hA hS (jc_55 cI cL ad σ1 τ) rfl (k := 55) (of_decide_eq_true rfl) (Nat.le_of_ble_eq_true rfl) (jp_55_55 cI cL ad σ1 τ 3) (hts _ kw_49_7) (fun _ h9 => h9) rfl (by decide +kernel) rfl rfl dX12_begins_26 (fun σ3 H locs eσ3 hP hS => ?_)
   have m4 : σ3 55 55 = 3 := (jsp eσ3)
   have m5 : σ3 85 2 = 10 := ((congrFun (jnp 85 eσ3 (of_decide_eq_true rfl)) 2).trans (jsp eσ1))
   exact hret σ3 τ _ _ _ _ ⟨rfl, (fun i hi => ((jnp i eσ3 (imp_350 i hi)).trans (jnp i eσ1 (imp_351 i hi)))), (fun i hi => ((jkp i eσ3 (imp_165 i hi)).trans (congrFun (jnp 55 eσ1 (of_decide_eq_true rfl)) i))), (fun i hi => ((congrFun (jnp 85 eσ3 (of_decide_eq_true rfl)) i).trans (jkp i eσ1 (imp_7 i hi)))), m4, m5, trivial⟩ hP hS dX12_begins_29
set_option maxHeartbeats 4000000 in
set_option maxRecDepth 100000 in
theorem c_X12_putsAs_3_3_3 (l : Launch) (D : va_G) (cI cL : ClassId) (ad zz : Nat → Nat) (hJ : jD ad) (σ : Nat → Nat → Int32) (τ : Nat → Nat → Int64) (a2 : Int32) (A2 : Int) (t2 : a2.toInt = A2) (h55_55 : σ 55 55 = 3) (hp0 : (σ 55 56).toInt = 3) : jM l yX12_putsAs cX12_putsAs 3 (some .int) ({ frames := 1, cells := 0, slots := 0, locals := 21 }) D cI cL ad zz [.ref (ad 55), .int 3, .int a2] σ τ (fun r σ' τ' => τ = τ' ∧ (∀ i : Nat, (i < 55 ∨ 55 < i) ∧ (i < 85 ∨ 85 < i) → σ' i = σ i) ∧ (∀ k : Nat, (k < 55 ∨ 55 < k) → σ' 55 k = σ 55 k) ∧ (∀ k : Nat, (k < 3 ∨ 3 < k) → σ' 85 k = σ 85 k) ∧ (σ' 55 55 = 4) ∧ (σ' 85 3 = 1) ∧ ((r = (a2 + (σ 55 57)) ∧ True))) := by
  refine jM.of hJ (by decide +kernel) (nt := .int) rfl (Nat.le_of_ble_eq_true rfl) ?_
  intro p e s m args below meth c Q ls hC hret hl hP
  obtain ⟨hx, hb, hr, hml, hown, hts, hK, -, hlocks, hZ⟩ := hC
  have hown : s.vm.findClass RX12 = some m.cls := hown
  have hS : va_S (jA ad) s.heap s.heap [] := va_S.rf
  have hA : ∀ q, jA ad q → jA ad q := fun _ h => h
  have hl : lv_has ls 3 [(0, .ref (ad 55)), (1, .int 3), (2, .int a2)] := hl
  have g2 := jrg t2
  refine lv_iload_n hx hb dX12_putsAs_0 rfl (lv_at hl 1 rfl) ?_
  refine lv_iconst (v := 4) hx hb dX12_putsAs_1 (of_decide_eq_true rfl) ?_
  refine lv_icmp_ne (tgt := 20) hx hb dX12_putsAs_2 (of_decide_eq_true rfl) (fun _ => ?_) (fun c => absurd c (of_decide_eq_true rfl))
  refine lv_iload_n hx hb dX12_putsAs_20 rfl (lv_at hl 1 rfl) ?_
  refine lv_iconst (v := 1) hx hb dX12_putsAs_21 (of_decide_eq_true rfl) ?_
  refine lv_icmp_ne (tgt := 40) hx hb dX12_putsAs_22 (of_decide_eq_true rfl) (fun _ => ?_) (fun c => absurd c (of_decide_eq_true rfl))
  refine lv_aload_n hx hb dX12_putsAs_40 rfl (lv_at hl 0 rfl) ?_
  refine lv_iconst (v := 1) hx hb dX12_putsAs_41 (of_decide_eq_true rfl) ?_
  refine jcallVv (As := [.int 1]) (rest := []) ⟨hx, hb, hml, hown, hts⟩ hK hP hA hS hZ (c_X12_begins_1_3 l D cI cL ad zz hJ σ τ h55_55) cw_RX12_379 (jc_55 cI cL ad σ τ) rfl ⟨Nat.le_of_ble_eq_true rfl, Nat.le_of_ble_eq_true rfl⟩ rfl rfl rfl hl.1 rfl (Nat.le_of_ble_eq_true rfl) dX12_putsAs_42 ⟨Nat.zero_le _, Nat.zero_le _⟩ (fun σ1 τ1 H locs h1 hP hS => ?_)
  obtain ⟨rfl, f3, f4, f5, m6, m7, h1⟩ := h1
  refine lv_iload_n hx hb dX12_putsAs_45 rfl (lv_at hl 2 rfl) ?_
  refine lv_aload_n hx hb dX12_putsAs_46 rfl (lv_at hl 0 rfl) ?_
  refine va_get (D := D) hx hb hts inlX12 hown hK hP 55 (jc_55 cI cL ad σ1 τ) rfl 57 (of_decide_eq_true rfl) (hts _ kw_49_9) (fun _ h9 => h9) rfl dX12_putsAs_47 ?_
  have m9 : σ1 55 57 = (σ 55 57) := (f4 57 (of_decide_eq_true rfl))
  refine jtopr m9 ?_
  have g10 := jrg (rfl : (σ 55 57).toInt = (σ 55 57).toInt)
  refine lv_iadd hx hb dX12_putsAs_50 ?_
  refine lv_topi (fun x11 ex11 => ?_)
  have gx11 := jrg (rfl : x11.toInt = x11.toInt)
  exact hret x11 σ1 τ _ _ _ _ rfl ⟨rfl, (fun i hi => (f3 i hi)), (fun i hi => (f4 i hi)), (fun i hi => (f5 i hi)), m6, m7, ⟨(by rw [ex11]), trivial⟩⟩ hP hS dX12_putsAs_51
set_option maxHeartbeats 4000000 in
set_option maxRecDepth 100000 in
theorem c_X12_holdsAs_3_0_2 (l : Launch) (D : va_G) (cI cL : ClassId) (ad zz : Nat → Nat) (hJ : jD ad) (σ : Nat → Nat → Int32) (τ : Nat → Nat → Int64) (a2 : Int32) (A2 : Int) (t2 : a2.toInt = A2) (h55_55 : σ 55 55 = 2) (hp0 : (σ 55 56).toInt = 3) : jM l yX12_holdsAs cX12_holdsAs 4 (some .int) ({ frames := 2, cells := 0, slots := 0, locals := 43 }) D cI cL ad zz [.ref (ad 55), .int 0, .int a2] σ τ (fun r σ' τ' => τ = τ' ∧ (∀ i : Nat, (i < 55 ∨ 55 < i) ∧ (i < 85 ∨ 85 < i) → σ' i = σ i) ∧ (∀ k : Nat, (k < 55 ∨ 55 < k) → σ' 55 k = σ 55 k) ∧ (∀ k : Nat, (k < 2 ∨ 2 < k) ∧ (k < 3 ∨ 3 < k) → σ' 85 k = σ 85 k) ∧ (σ' 55 55 = 4) ∧ (σ' 85 2 = 10) ∧ (σ' 85 3 = 1) ∧ ((r = ((a2 + (σ 55 57)) * 2) ∧ True))) := by
  refine jM.of hJ (by decide +kernel) (nt := .int) rfl (Nat.le_of_ble_eq_true rfl) ?_
  intro p e s m args below meth c Q ls hC hret hl hP
  obtain ⟨hx, hb, hr, hml, hown, hts, hK, -, hlocks, hZ⟩ := hC
  have hown : s.vm.findClass RX12 = some m.cls := hown
  have hS : va_S (jA ad) s.heap s.heap [] := va_S.rf
  have hA : ∀ q, jA ad q → jA ad q := fun _ h => h
  have hl : lv_has ls 4 [(0, .ref (ad 55)), (1, .int 0), (2, .int a2)] := hl
  have g2 := jrg t2
  refine lv_iload_n hx hb dX12_holdsAs_0 rfl (lv_at hl 1 rfl) ?_
  refine lv_iconst (v := 3) hx hb dX12_holdsAs_1 (of_decide_eq_true rfl) ?_
  refine lv_icmp_eq (tgt := 10) hx hb dX12_holdsAs_2 (of_decide_eq_true rfl) (fun c => absurd c (of_decide_eq_true rfl)) (fun _ => ?_)
  refine lv_iload_n hx hb dX12_holdsAs_5 rfl (lv_at hl 1 rfl) ?_
  refine lv_iconst (v := 5) hx hb dX12_holdsAs_6 (of_decide_eq_true rfl) ?_
  refine lv_icmp_ne (tgt := 24) hx hb dX12_holdsAs_7 (of_decide_eq_true rfl) (fun _ => ?_) (fun c => absurd c (of_decide_eq_true rfl))
  refine lv_iload_n hx hb dX12_holdsAs_24 rfl (lv_at hl 1 rfl) ?_
  refine lv_bipush (v := 6) hx hb dX12_holdsAs_25 (of_decide_eq_true rfl) ?_
  refine lv_icmp_ne (tgt := 55) hx hb dX12_holdsAs_27 (of_decide_eq_true rfl) (fun _ => ?_) (fun c => absurd c (of_decide_eq_true rfl))
  refine lv_aload_n hx hb dX12_holdsAs_55 rfl (lv_at hl 0 rfl) ?_
  refine lv_bipush (v := 10) hx hb dX12_holdsAs_56 (of_decide_eq_true rfl) ?_
  refine jcallVv (As := [.int 10]) (rest := []) ⟨hx, hb, hml, hown, hts⟩ hK hP hA hS hZ (c_X12_begins_10_2 l D cI cL ad zz hJ σ τ h55_55) cw_RX12_379 (jc_55 cI cL ad σ τ) rfl ⟨Nat.le_of_ble_eq_true rfl, Nat.le_of_ble_eq_true rfl⟩ rfl rfl rfl hl.1 rfl (Nat.le_of_ble_eq_true rfl) dX12_holdsAs_58 ⟨Nat.zero_le _, Nat.zero_le _⟩ (fun σ1 τ1 H locs h1 hP hS => ?_)
  obtain ⟨rfl, f3, f4, f5, m6, m7, h1⟩ := h1
  refine lv_aload_n hx hb dX12_holdsAs_61 rfl (lv_at hl 0 rfl) ?_
  refine lv_aload_n hx hb dX12_holdsAs_62 rfl (lv_at hl 0 rfl) ?_
  refine va_get (D := D) hx hb hts inlX12 hown hK hP 55 (jc_55 cI cL ad σ1 τ) rfl 56 (of_decide_eq_true rfl) (hts _ kw_49_8) (fun _ h9 => h9) rfl dX12_holdsAs_63 ?_
  have m9 : σ1 55 56 = (σ 55 56) := (f4 56 (of_decide_eq_true rfl))
  refine jtopr m9 ?_
  exact by
   refine jtopr (jsame (rfl : (σ 55 56).toInt = (σ 55 56).toInt) jz_3 (by omega)) ?_
   refine lv_iload_n hx hb dX12_holdsAs_66 rfl (lv_at hl 2 rfl) ?_
   have z10 : (σ1 55 56).toInt = (σ 55 56).toInt := (congrArg Int32.toInt (show σ1 55 56 = (σ 55 56) from m9))
   refine jcallV (As := [.int 3, .int a2]) (rest := []) ⟨hx, hb, hml, hown, hts⟩ hK hP hA hS hZ (c_X12_putsAs_3_3_3 l D cI cL ad zz hJ σ1 τ a2 (A2) t2 m6 (by omega)) cw_RX12_382 (jc_55 cI cL ad σ1 τ) rfl ⟨Nat.le_of_ble_eq_true rfl, Nat.le_of_ble_eq_true rfl⟩ rfl rfl rfl hl.1 rfl (Nat.le_of_ble_eq_true rfl) dX12_holdsAs_67 ⟨Nat.zero_le _, Nat.zero_le _⟩ (fun r12 σ11 τ11 H locs h11 hP hS => ?_)
   obtain ⟨rfl, f13, f14, f15, m16, m17, h11⟩ := h11
   have h19 := h11
   obtain ⟨q21, k20⟩ := h19
   have q21 := q21.symm
   subst q21
   exact by
    refine lv_iconst (v := 2) hx hb dX12_holdsAs_70 (of_decide_eq_true rfl) ?_
    have g22 := jrg (rfl : (a2 + (σ1 55 57)).toInt = (a2 + (σ1 55 57)).toInt)
    refine lv_imul hx hb dX12_holdsAs_71 ?_
    refine lv_topi (fun x23 ex23 => ?_)
    have gx23 := jrg (rfl : x23.toInt = x23.toInt)
    have m24 : σ11 85 2 = 10 := ((f15 2 (of_decide_eq_true rfl)).trans m7)
    exact hret x23 σ11 τ _ _ _ _ rfl ⟨rfl, (fun i hi => ((f13 i hi).trans (f3 i hi))), (fun i hi => ((f14 i hi).trans (f4 i hi))), (fun i hi => ((f15 i (imp_312 i hi)).trans (f5 i (imp_19 i hi)))), m16, m24, m17, ⟨(by rw [ex23, (show σ1 55 57 = σ 55 57 from (f4 57 (of_decide_eq_true rfl)))]), trivial⟩⟩ hP hS dX12_holdsAs_72
set_option maxHeartbeats 4000000 in
set_option maxRecDepth 100000 in
theorem c_X12_holdsAs_3_3_1 (l : Launch) (D : va_G) (cI cL : ClassId) (ad zz : Nat → Nat) (hJ : jD ad) (σ : Nat → Nat → Int32) (τ : Nat → Nat → Int64) (a2 : Int32) (A2 : Int) (t2 : a2.toInt = A2) (h55_55 : σ 55 55 = 1) (hp0 : (σ 55 56).toInt = 3) : jM l yX12_holdsAs cX12_holdsAs 4 (some .int) ({ frames := 3, cells := 0, slots := 0, locals := 66 }) D cI cL ad zz [.ref (ad 55), .int 3, .int a2] σ τ (fun r σ' τ' => τ = τ' ∧ (∀ i : Nat, (i < 55 ∨ 55 < i) ∧ (i < 85 ∨ 85 < i) → σ' i = σ i) ∧ (∀ k : Nat, (k < 55 ∨ 55 < k) → σ' 55 k = σ 55 k) ∧ (∀ k : Nat, (k < 1 ∨ 1 < k) ∧ (k < 2 ∨ 2 < k) ∧ (k < 3 ∨ 3 < k) → σ' 85 k = σ 85 k) ∧ (σ' 55 55 = 4) ∧ (σ' 85 1 = 40) ∧ (σ' 85 2 = 10) ∧ (σ' 85 3 = 1) ∧ ((r = (-((a2 + (σ 55 57)) * 2)) ∧ True))) := by
  refine jM.of hJ (by decide +kernel) (nt := .int) rfl (Nat.le_of_ble_eq_true rfl) ?_
  intro p e s m args below meth c Q ls hC hret hl hP
  obtain ⟨hx, hb, hr, hml, hown, hts, hK, -, hlocks, hZ⟩ := hC
  have hown : s.vm.findClass RX12 = some m.cls := hown
  have hS : va_S (jA ad) s.heap s.heap [] := va_S.rf
  have hA : ∀ q, jA ad q → jA ad q := fun _ h => h
  have hl : lv_has ls 4 [(0, .ref (ad 55)), (1, .int 3), (2, .int a2)] := hl
  have g2 := jrg t2
  refine lv_iload_n hx hb dX12_holdsAs_0 rfl (lv_at hl 1 rfl) ?_
  refine lv_iconst (v := 3) hx hb dX12_holdsAs_1 (of_decide_eq_true rfl) ?_
  refine lv_icmp_eq (tgt := 10) hx hb dX12_holdsAs_2 (of_decide_eq_true rfl) (fun _ => ?_) (fun c => absurd (of_decide_eq_true rfl) c)
  refine lv_aload_n hx hb dX12_holdsAs_10 rfl (lv_at hl 0 rfl) ?_
  refine lv_bipush (v := 40) hx hb dX12_holdsAs_11 (of_decide_eq_true rfl) ?_
  refine jcallVv (As := [.int 40]) (rest := []) ⟨hx, hb, hml, hown, hts⟩ hK hP hA hS hZ (c_X12_begins_40_1 l D cI cL ad zz hJ σ τ h55_55) cw_RX12_379 (jc_55 cI cL ad σ τ) rfl ⟨Nat.le_of_ble_eq_true rfl, Nat.le_of_ble_eq_true rfl⟩ rfl rfl rfl hl.1 rfl (Nat.le_of_ble_eq_true rfl) dX12_holdsAs_13 ⟨Nat.zero_le _, Nat.zero_le _⟩ (fun σ1 τ1 H locs h1 hP hS => ?_)
  obtain ⟨rfl, f3, f4, f5, m6, m7, h1⟩ := h1
  refine lv_aload_n hx hb dX12_holdsAs_16 rfl (lv_at hl 0 rfl) ?_
  refine lv_iconst (v := 0) hx hb dX12_holdsAs_17 (of_decide_eq_true rfl) ?_
  refine lv_iload_n hx hb dX12_holdsAs_18 rfl (lv_at hl 2 rfl) ?_
  have z9 : (σ1 55 56).toInt = (σ 55 56).toInt := (congrArg Int32.toInt (show σ1 55 56 = (σ 55 56) from (f4 56 (of_decide_eq_true rfl))))
  exact by
   refine jcallV (As := [.int 0, .int a2]) (rest := []) ⟨hx, hb, hml, hown, hts⟩ hK hP hA hS hZ (c_X12_holdsAs_3_0_2 l D cI cL ad zz hJ σ1 τ a2 (A2) t2 m6 (by omega)) cw_RX12_388 (jc_55 cI cL ad σ1 τ) rfl ⟨Nat.le_of_ble_eq_true rfl, Nat.le_of_ble_eq_true rfl⟩ rfl rfl rfl hl.1 rfl (Nat.le_of_ble_eq_true rfl) dX12_holdsAs_19 ⟨Nat.zero_le _, Nat.zero_le _⟩ (fun r11 σ10 τ10 H locs h10 hP hS => ?_)
   obtain ⟨rfl, f12, f13, f14, m15, m16, m17, h10⟩ := h10
   have h19 := h10
   obtain ⟨q21, k20⟩ := h19
   have q21 := q21.symm
   subst q21
   refine lv_ineg hx hb dX12_holdsAs_22 ?_
   refine lv_topi (fun x22 ex22 => ?_)
   have gx22 := jrg (rfl : x22.toInt = x22.toInt)
   have m23 : σ10 85 1 = 40 := ((f14 1 (of_decide_eq_true rfl)).trans m7)
   exact hret x22 σ10 τ _ _ _ _ rfl ⟨rfl, (fun i hi => ((f12 i hi).trans (f3 i hi))), (fun i hi => ((f13 i hi).trans (f4 i hi))), (fun i hi => ((f14 i (imp_313 i hi)).trans (f5 i (imp_355 i hi)))), m15, m23, m16, m17, ⟨(by rw [ex22, (show σ1 55 57 = σ 55 57 from (f4 57 (of_decide_eq_true rfl)))]), trivial⟩⟩ hP hS dX12_holdsAs_23
set_option maxHeartbeats 4000000 in
set_option maxRecDepth 100000 in
theorem c_X12_begins_30_4 (l : Launch) (D : va_G) (cI cL : ClassId) (ad zz : Nat → Nat) (hJ : jD ad) (σ : Nat → Nat → Int32) (τ : Nat → Nat → Int64) (h55_55 : σ 55 55 = 4) : jMv l yX12_begins cX12_begins 2 none ({ frames := 0, cells := 0, slots := 0, locals := 0 }) D cI cL ad zz [.ref (ad 55), .int 30] σ τ (fun σ' τ' => τ = τ' ∧ (∀ i : Nat, (i < 55 ∨ 55 < i) ∧ (i < 85 ∨ 85 < i) → σ' i = σ i) ∧ (∀ k : Nat, (k < 55 ∨ 55 < k) → σ' 55 k = σ 55 k) ∧ (∀ k : Nat, (k < 4 ∨ 4 < k) → σ' 85 k = σ 85 k) ∧ (σ' 55 55 = 5) ∧ (σ' 85 4 = 30) ∧ True) := by
  refine jMv.of hJ (by decide +kernel) rfl (Nat.le_of_ble_eq_true rfl) ?_
  intro p e s m args below meth c Q ls hC hret hl hP
  obtain ⟨hx, hb, hr, hml, hown, hts, hK, -, hlocks, hZ⟩ := hC
  have hown : s.vm.findClass RX12 = some m.cls := hown
  have hS : va_S (jA ad) s.heap s.heap [] := va_S.rf
  have hA : ∀ q, jA ad q → jA ad q := fun _ h => h
  have hl : lv_has ls 2 [(0, .ref (ad 55)), (1, .int 30)] := hl
  refine lv_aload_n hx hb dX12_begins_0 rfl (lv_at hl 0 rfl) ?_
  refine va_get (D := D) hx hb hts inlX12 hown hK hP 55 (jc_55 cI cL ad σ τ) rfl 55 (of_decide_eq_true rfl) (hts _ kw_49_7) (fun _ h9 => h9) rfl dX12_begins_1 ?_
  refine jtopr h55_55 ?_
  refine lv_bipush (v := 24) hx hb dX12_begins_4 (of_decide_eq_true rfl) ?_
  refine lv_icmp_ge (tgt := 19) hx hb dX12_begins_6 (of_decide_eq_true rfl) (fun c => absurd c (of_decide_eq_true rfl)) (fun _ => ?_)
  refine lv_aload_n hx hb dX12_begins_9 rfl (lv_at hl 0 rfl) ?_
  refine va_get (D := D) hx hb hts inlX12 hown hK hP 55 (jc_55 cI cL ad σ τ) rfl 54 (of_decide_eq_true rfl) (hts _ kw_8_10) (fun _ h9 => h9) rfl dX12_begins_10 ?_
  refine lv_aload_n hx hb dX12_begins_13 rfl (lv_at hl 0 rfl) ?_
  refine va_get (D := D) hx hb hts inlX12 hown hK hP 55 (jc_55 cI cL ad σ τ) rfl 55 (of_decide_eq_true rfl) (hts _ kw_49_7) (fun _ h9 => h9) rfl dX12_begins_14 ?_
  refine jtopr h55_55 ?_
  refine lv_iload_n hx hb dX12_begins_17 rfl (lv_at hl 1 rfl) ?_
  exact by
   refine jast hx hb hK hP hJ hA hS (jc_85 cI cL ad σ τ) (ja_85 cI cL ad σ τ _ _) (jin jz_4 (by omega) (by omega)) dX12_begins_18 (fun σ1 H locs eσ1 hP hS => ?_)
   have eσ1 : σ1 = jup σ 85 4 30 := eσ1
   refine lv_aload_n hx hb dX12_begins_19 rfl (lv_at hl 0 rfl) ?_
   refine lv_dup hx hb dX12_begins_20 rfl ?_
   refine va_get (D := D) hx hb hts inlX12 hown hK hP 55 (jc_55 cI cL ad σ1 τ) rfl 55 (of_decide_eq_true rfl) (hts _ kw_49_7) (fun _ h9 => h9) rfl dX12_begins_21 ?_
   have m2 : σ1 55 55 = 4 := ((congrFun (jnp 55 eσ1 (of_decide_eq_true rfl)) 55).trans h55_55)
   refine jtopr m2 ?_
   refine lv_iconst (v := 1) hx hb dX12_begins_24 (of_decide_eq_true rfl) ?_
   refine lv_iadd hx hb dX12_begins_25 ?_
   refine jtopr (y := 5) (of_decide_eq_true rfl) ?_
   refine jput (ty := .int) hx hb hts inlX12 tyX12 tyX12_ok nmX12 hown hK hP hJ hA hS (jc_55 cI cL ad σ1 τ) rfl (k := 55) (of_decide_eq_true rfl) (Nat.le_of_ble_eq_true rfl) (jp_55_55 cI cL ad σ1 τ 5) (hts _ kw_49_7) (fun _ h9 => h9) rfl (by decide +kernel) rfl rfl dX12_begins_26 (fun σ3 H locs eσ3 hP hS => ?_)
   have m4 : σ3 55 55 = 5 := (jsp eσ3)
   have m5 : σ3 85 4 = 30 := ((congrFun (jnp 85 eσ3 (of_decide_eq_true rfl)) 4).trans (jsp eσ1))
   exact hret σ3 τ _ _ _ _ ⟨rfl, (fun i hi => ((jnp i eσ3 (imp_350 i hi)).trans (jnp i eσ1 (imp_351 i hi)))), (fun i hi => ((jkp i eσ3 (imp_165 i hi)).trans (congrFun (jnp 55 eσ1 (of_decide_eq_true rfl)) i))), (fun i hi => ((congrFun (jnp 85 eσ3 (of_decide_eq_true rfl)) i).trans (jkp i eσ1 (imp_315 i hi)))), m4, m5, trivial⟩ hP hS dX12_begins_29
set_option maxHeartbeats 4000000 in
set_option maxRecDepth 100000 in
theorem c_X12_begins_11_5 (l : Launch) (D : va_G) (cI cL : ClassId) (ad zz : Nat → Nat) (hJ : jD ad) (σ : Nat → Nat → Int32) (τ : Nat → Nat → Int64) (h55_55 : σ 55 55 = 5) : jMv l yX12_begins cX12_begins 2 none ({ frames := 0, cells := 0, slots := 0, locals := 0 }) D cI cL ad zz [.ref (ad 55), .int 11] σ τ (fun σ' τ' => τ = τ' ∧ (∀ i : Nat, (i < 55 ∨ 55 < i) ∧ (i < 85 ∨ 85 < i) → σ' i = σ i) ∧ (∀ k : Nat, (k < 55 ∨ 55 < k) → σ' 55 k = σ 55 k) ∧ (∀ k : Nat, (k < 5 ∨ 5 < k) → σ' 85 k = σ 85 k) ∧ (σ' 55 55 = 6) ∧ (σ' 85 5 = 11) ∧ True) := by
  refine jMv.of hJ (by decide +kernel) rfl (Nat.le_of_ble_eq_true rfl) ?_
  intro p e s m args below meth c Q ls hC hret hl hP
  obtain ⟨hx, hb, hr, hml, hown, hts, hK, -, hlocks, hZ⟩ := hC
  have hown : s.vm.findClass RX12 = some m.cls := hown
  have hS : va_S (jA ad) s.heap s.heap [] := va_S.rf
  have hA : ∀ q, jA ad q → jA ad q := fun _ h => h
  have hl : lv_has ls 2 [(0, .ref (ad 55)), (1, .int 11)] := hl
  refine lv_aload_n hx hb dX12_begins_0 rfl (lv_at hl 0 rfl) ?_
  refine va_get (D := D) hx hb hts inlX12 hown hK hP 55 (jc_55 cI cL ad σ τ) rfl 55 (of_decide_eq_true rfl) (hts _ kw_49_7) (fun _ h9 => h9) rfl dX12_begins_1 ?_
  refine jtopr h55_55 ?_
  refine lv_bipush (v := 24) hx hb dX12_begins_4 (of_decide_eq_true rfl) ?_
  refine lv_icmp_ge (tgt := 19) hx hb dX12_begins_6 (of_decide_eq_true rfl) (fun c => absurd c (of_decide_eq_true rfl)) (fun _ => ?_)
  refine lv_aload_n hx hb dX12_begins_9 rfl (lv_at hl 0 rfl) ?_
  refine va_get (D := D) hx hb hts inlX12 hown hK hP 55 (jc_55 cI cL ad σ τ) rfl 54 (of_decide_eq_true rfl) (hts _ kw_8_10) (fun _ h9 => h9) rfl dX12_begins_10 ?_
  refine lv_aload_n hx hb dX12_begins_13 rfl (lv_at hl 0 rfl) ?_
  refine va_get (D := D) hx hb hts inlX12 hown hK hP 55 (jc_55 cI cL ad σ τ) rfl 55 (of_decide_eq_true rfl) (hts _ kw_49_7) (fun _ h9 => h9) rfl dX12_begins_14 ?_
  refine jtopr h55_55 ?_
  refine lv_iload_n hx hb dX12_begins_17 rfl (lv_at hl 1 rfl) ?_
  exact by
   refine jast hx hb hK hP hJ hA hS (jc_85 cI cL ad σ τ) (ja_85 cI cL ad σ τ _ _) (jin jz_5 (by omega) (by omega)) dX12_begins_18 (fun σ1 H locs eσ1 hP hS => ?_)
   have eσ1 : σ1 = jup σ 85 5 11 := eσ1
   refine lv_aload_n hx hb dX12_begins_19 rfl (lv_at hl 0 rfl) ?_
   refine lv_dup hx hb dX12_begins_20 rfl ?_
   refine va_get (D := D) hx hb hts inlX12 hown hK hP 55 (jc_55 cI cL ad σ1 τ) rfl 55 (of_decide_eq_true rfl) (hts _ kw_49_7) (fun _ h9 => h9) rfl dX12_begins_21 ?_
   have m2 : σ1 55 55 = 5 := ((congrFun (jnp 55 eσ1 (of_decide_eq_true rfl)) 55).trans h55_55)
   refine jtopr m2 ?_
   refine lv_iconst (v := 1) hx hb dX12_begins_24 (of_decide_eq_true rfl) ?_
   refine lv_iadd hx hb dX12_begins_25 ?_
   refine jtopr (y := 6) (of_decide_eq_true rfl) ?_
   refine jput (ty := .int) hx hb hts inlX12 tyX12 tyX12_ok nmX12 hown hK hP hJ hA hS (jc_55 cI cL ad σ1 τ) rfl (k := 55) (of_decide_eq_true rfl) (Nat.le_of_ble_eq_true rfl) (jp_55_55 cI cL ad σ1 τ 6) (hts _ kw_49_7) (fun _ h9 => h9) rfl (by decide +kernel) rfl rfl dX12_begins_26 (fun σ3 H locs eσ3 hP hS => ?_)
   have m4 : σ3 55 55 = 6 := (jsp eσ3)
   have m5 : σ3 85 5 = 11 := ((congrFun (jnp 85 eσ3 (of_decide_eq_true rfl)) 5).trans (jsp eσ1))
   exact hret σ3 τ _ _ _ _ ⟨rfl, (fun i hi => ((jnp i eσ3 (imp_350 i hi)).trans (jnp i eσ1 (imp_351 i hi)))), (fun i hi => ((jkp i eσ3 (imp_165 i hi)).trans (congrFun (jnp 55 eσ1 (of_decide_eq_true rfl)) i))), (fun i hi => ((congrFun (jnp 85 eσ3 (of_decide_eq_true rfl)) i).trans (jkp i eσ1 (imp_159 i hi)))), m4, m5, trivial⟩ hP hS dX12_begins_29
set_option maxHeartbeats 4000000 in
set_option maxRecDepth 100000 in
theorem c_X12_givesAs_3_0_5_x1 (l : Launch) (D : va_G) (cI cL : ClassId) (ad zz : Nat → Nat) (hJ : jD ad) (σ : Nat → Nat → Int32) (τ : Nat → Nat → Int64) (h55_55 : σ 55 55 = 5) (hp0 : (σ 55 56).toInt = 3) : jM l yX12_givesAs cX12_givesAs 4 (some .int) ({ frames := 1, cells := 0, slots := 0, locals := 21 }) D cI cL ad zz [.ref (ad 55), .int 0, .int 1] σ τ (fun r σ' τ' => τ = τ' ∧ (∀ i : Nat, (i < 55 ∨ 55 < i) ∧ (i < 85 ∨ 85 < i) → σ' i = σ i) ∧ (∀ k : Nat, (k < 55 ∨ 55 < k) → σ' 55 k = σ 55 k) ∧ (∀ k : Nat, (k < 5 ∨ 5 < k) → σ' 85 k = σ 85 k) ∧ (σ' 55 55 = 6) ∧ (σ' 85 5 = 11) ∧ ((r = (1 ^^^ (σ 55 57)) ∧ True))) := by
  refine jM.of hJ (by decide +kernel) (nt := .int) rfl (Nat.le_of_ble_eq_true rfl) ?_
  intro p e s m args below meth c Q ls hC hret hl hP
  obtain ⟨hx, hb, hr, hml, hown, hts, hK, -, hlocks, hZ⟩ := hC
  have hown : s.vm.findClass RX12 = some m.cls := hown
  have hS : va_S (jA ad) s.heap s.heap [] := va_S.rf
  have hA : ∀ q, jA ad q → jA ad q := fun _ h => h
  have hl : lv_has ls 4 [(0, .ref (ad 55)), (1, .int 0), (2, .int 1)] := hl
  refine lv_iload_n hx hb dX12_givesAs_0 rfl (lv_at hl 1 rfl) ?_
  refine lv_iconst (v := 5) hx hb dX12_givesAs_1 (of_decide_eq_true rfl) ?_
  refine lv_icmp_ne (tgt := 30) hx hb dX12_givesAs_2 (of_decide_eq_true rfl) (fun _ => ?_) (fun c => absurd c (of_decide_eq_true rfl))
  refine lv_iload_n hx hb dX12_givesAs_30 rfl (lv_at hl 1 rfl) ?_
  refine lv_iconst (v := 2) hx hb dX12_givesAs_31 (of_decide_eq_true rfl) ?_
  refine lv_icmp_eq (tgt := 40) hx hb dX12_givesAs_32 (of_decide_eq_true rfl) (fun c => absurd c (of_decide_eq_true rfl)) (fun _ => ?_)
  refine lv_iload_n hx hb dX12_givesAs_35 rfl (lv_at hl 1 rfl) ?_
  refine lv_iconst (v := 3) hx hb dX12_givesAs_36 (of_decide_eq_true rfl) ?_
  refine lv_icmp_ne (tgt := 55) hx hb dX12_givesAs_37 (of_decide_eq_true rfl) (fun _ => ?_) (fun c => absurd c (of_decide_eq_true rfl))
  refine lv_aload_n hx hb dX12_givesAs_55 rfl (lv_at hl 0 rfl) ?_
  refine lv_bipush (v := 11) hx hb dX12_givesAs_56 (of_decide_eq_true rfl) ?_
  refine jcallVv (As := [.int 11]) (rest := []) ⟨hx, hb, hml, hown, hts⟩ hK hP hA hS hZ (c_X12_begins_11_5 l D cI cL ad zz hJ σ τ h55_55) cw_RX12_379 (jc_55 cI cL ad σ τ) rfl ⟨Nat.le_of_ble_eq_true rfl, Nat.le_of_ble_eq_true rfl⟩ rfl rfl rfl hl.1 rfl (Nat.le_of_ble_eq_true rfl) dX12_givesAs_58 ⟨Nat.zero_le _, Nat.zero_le _⟩ (fun σ1 τ1 H locs h1 hP hS => ?_)
  obtain ⟨rfl, f3, f4, f5, m6, m7, h1⟩ := h1
  refine lv_iload_n hx hb dX12_givesAs_61 rfl (lv_at hl 2 rfl) ?_
  refine lv_aload_n hx hb dX12_givesAs_62 rfl (lv_at hl 0 rfl) ?_
  refine va_get (D := D) hx hb hts inlX12 hown hK hP 55 (jc_55 cI cL ad σ1 τ) rfl 57 (of_decide_eq_true rfl) (hts _ kw_49_9) (fun _ h9 => h9) rfl dX12_givesAs_63 ?_
  have m9 : σ1 55 57 = (σ 55 57) := (f4 57 (of_decide_eq_true rfl))
  refine jtopr m9 ?_
  refine lv_ixor hx hb dX12_givesAs_66 ?_
  refine lv_topi (fun x10 ex10 => ?_)
  have gx10 := jrg (rfl : x10.toInt = x10.toInt)
  exact hret x10 σ1 τ _ _ _ _ rfl ⟨rfl, (fun i hi => (f3 i hi)), (fun i hi => (f4 i hi)), (fun i hi => (f5 i hi)), m6, m7, ⟨(by rw [ex10]), trivial⟩⟩ hP hS dX12_givesAs_67
set_option maxHeartbeats 4000000 in
set_option maxRecDepth 100000 in
theorem c_X12_givesAs_3_3_4_x1 (l : Launch) (D : va_G) (cI cL : ClassId) (ad zz : Nat → Nat) (hJ : jD ad) (σ : Nat → Nat → Int32) (τ : Nat → Nat → Int64) (h55_55 : σ 55 55 = 4) (hp0 : (σ 55 56).toInt = 3) : jM l yX12_givesAs cX12_givesAs 4 (some .int) ({ frames := 2, cells := 0, slots := 0, locals := 44 }) D cI cL ad zz [.ref (ad 55), .int 3, .int 1] σ τ (fun r σ' τ' => τ = τ' ∧ (∀ i : Nat, (i < 55 ∨ 55 < i) ∧ (i < 85 ∨ 85 < i) → σ' i = σ i) ∧ (∀ k : Nat, (k < 55 ∨ 55 < k) → σ' 55 k = σ 55 k) ∧ (∀ k : Nat, (k < 4 ∨ 4 < k) ∧ (k < 5 ∨ 5 < k) → σ' 85 k = σ 85 k) ∧ (σ' 55 55 = 6) ∧ (σ' 85 4 = 30) ∧ (σ' 85 5 = 11) ∧ ((r = ((1 ^^^ (σ 55 57)) * 3) ∧ True))) := by
  refine jM.of hJ (by decide +kernel) (nt := .int) rfl (Nat.le_of_ble_eq_true rfl) ?_
  intro p e s m args below meth c Q ls hC hret hl hP
  obtain ⟨hx, hb, hr, hml, hown, hts, hK, -, hlocks, hZ⟩ := hC
  have hown : s.vm.findClass RX12 = some m.cls := hown
  have hS : va_S (jA ad) s.heap s.heap [] := va_S.rf
  have hA : ∀ q, jA ad q → jA ad q := fun _ h => h
  have hl : lv_has ls 4 [(0, .ref (ad 55)), (1, .int 3), (2, .int 1)] := hl
  refine lv_iload_n hx hb dX12_givesAs_0 rfl (lv_at hl 1 rfl) ?_
  refine lv_iconst (v := 5) hx hb dX12_givesAs_1 (of_decide_eq_true rfl) ?_
  refine lv_icmp_ne (tgt := 30) hx hb dX12_givesAs_2 (of_decide_eq_true rfl) (fun _ => ?_) (fun c => absurd c (of_decide_eq_true rfl))
  refine lv_iload_n hx hb dX12_givesAs_30 rfl (lv_at hl 1 rfl) ?_
  refine lv_iconst (v := 2) hx hb dX12_givesAs_31 (of_decide_eq_true rfl) ?_
  refine lv_icmp_eq (tgt := 40) hx hb dX12_givesAs_32 (of_decide_eq_true rfl) (fun c => absurd c (of_decide_eq_true rfl)) (fun _ => ?_)
  refine lv_iload_n hx hb dX12_givesAs_35 rfl (lv_at hl 1 rfl) ?_
  refine lv_iconst (v := 3) hx hb dX12_givesAs_36 (of_decide_eq_true rfl) ?_
  refine lv_icmp_ne (tgt := 55) hx hb dX12_givesAs_37 (of_decide_eq_true rfl) (fun c => absurd (of_decide_eq_true rfl) c) (fun _ => ?_)
  refine lv_aload_n hx hb dX12_givesAs_40 rfl (lv_at hl 0 rfl) ?_
  refine lv_bipush (v := 30) hx hb dX12_givesAs_41 (of_decide_eq_true rfl) ?_
  refine jcallVv (As := [.int 30]) (rest := []) ⟨hx, hb, hml, hown, hts⟩ hK hP hA hS hZ (c_X12_begins_30_4 l D cI cL ad zz hJ σ τ h55_55) cw_RX12_379 (jc_55 cI cL ad σ τ) rfl ⟨Nat.le_of_ble_eq_true rfl, Nat.le_of_ble_eq_true rfl⟩ rfl rfl rfl hl.1 rfl (Nat.le_of_ble_eq_true rfl) dX12_givesAs_43 ⟨Nat.zero_le _, Nat.zero_le _⟩ (fun σ1 τ1 H locs h1 hP hS => ?_)
  obtain ⟨rfl, f3, f4, f5, m6, m7, h1⟩ := h1
  refine lv_aload_n hx hb dX12_givesAs_46 rfl (lv_at hl 0 rfl) ?_
  refine lv_iconst (v := 0) hx hb dX12_givesAs_47 (of_decide_eq_true rfl) ?_
  refine lv_iload_n hx hb dX12_givesAs_48 rfl (lv_at hl 2 rfl) ?_
  have z9 : (σ1 55 56).toInt = (σ 55 56).toInt := (congrArg Int32.toInt (show σ1 55 56 = (σ 55 56) from (f4 56 (of_decide_eq_true rfl))))
  exact by
   refine jcallV (As := [.int 0, .int 1]) (rest := []) ⟨hx, hb, hml, hown, hts⟩ hK hP hA hS hZ (c_X12_givesAs_3_0_5_x1 l D cI cL ad zz hJ σ1 τ m6 (by omega)) cw_RX12_394 (jc_55 cI cL ad σ1 τ) rfl ⟨Nat.le_of_ble_eq_true rfl, Nat.le_of_ble_eq_true rfl⟩ rfl rfl rfl hl.1 rfl (Nat.le_of_ble_eq_true rfl) dX12_givesAs_49 ⟨Nat.zero_le _, Nat.zero_le _⟩ (fun r11 σ10 τ10 H locs h10 hP hS => ?_)
   obtain ⟨rfl, f12, f13, f14, m15, m16, h10⟩ := h10
   have h18 := h10
   obtain ⟨q20, k19⟩ := h18
   have q20 := q20.symm
   subst q20
   refine lv_iconst (v := 3) hx hb dX12_givesAs_52 (of_decide_eq_true rfl) ?_
   have g21 := jrg (rfl : (1 ^^^ (σ1 55 57)).toInt = (1 ^^^ (σ1 55 57)).toInt)
   refine lv_imul hx hb dX12_givesAs_53 ?_
   refine lv_topi (fun x22 ex22 => ?_)
   have gx22 := jrg (rfl : x22.toInt = x22.toInt)
   have m23 : σ10 85 4 = 30 := ((f14 4 (of_decide_eq_true rfl)).trans m7)
   exact hret x22 σ10 τ _ _ _ _ rfl ⟨rfl, (fun i hi => ((f12 i hi).trans (f3 i hi))), (fun i hi => ((f13 i hi).trans (f4 i hi))), (fun i hi => ((f14 i (imp_323 i hi)).trans (f5 i (imp_358 i hi)))), m15, m23, m16, ⟨(by rw [ex22, (show σ1 55 57 = σ 55 57 from (f4 57 (of_decide_eq_true rfl)))]), trivial⟩⟩ hP hS dX12_givesAs_54
set_option maxHeartbeats 4000000 in
set_option maxRecDepth 100000 in
theorem c_X12_tellsAs_3_3_0 (l : Launch) (D : va_G) (cI cL : ClassId) (ad zz : Nat → Nat) (hJ : jD ad) (σ : Nat → Nat → Int32) (τ : Nat → Nat → Int64) (a2 : Int32) (A2 : Int) (t2 : a2.toInt = A2) (h55_55 : σ 55 55 = 0) (hp0 : (σ 55 56).toInt = 3) : jM l yX12_tellsAs cX12_tellsAs 4 (some .int) ({ frames := 4, cells := 0, slots := 0, locals := 89 }) D cI cL ad zz [.ref (ad 55), .int 3, .int a2] σ τ (fun r σ' τ' => τ = τ' ∧ (∀ i : Nat, (i < 55 ∨ 55 < i) ∧ (i < 85 ∨ 85 < i) → σ' i = σ i) ∧ (∀ k : Nat, (k < 55 ∨ 55 < k) → σ' 55 k = σ 55 k) ∧ (∀ k : Nat, (k < 0 ∨ 0 < k) ∧ (k < 1 ∨ 1 < k) ∧ (k < 2 ∨ 2 < k) ∧ (k < 3 ∨ 3 < k) ∧ (k < 4 ∨ 4 < k) ∧ (k < 5 ∨ 5 < k) → σ' 85 k = σ 85 k) ∧ (σ' 55 55 = 6) ∧ (σ' 85 0 = 2) ∧ (σ' 85 1 = 40) ∧ (σ' 85 2 = 10) ∧ (σ' 85 3 = 1) ∧ (σ' 85 4 = 30) ∧ (σ' 85 5 = 11) ∧ ((r = ((-((a2 + (σ 55 57)) * 2)) - ((1 ^^^ (σ 55 57)) * 3)) ∧ True))) := by
  refine jM.of hJ (by decide +kernel) (nt := .int) rfl (Nat.le_of_ble_eq_true rfl) ?_
  intro p e s m args below meth c Q ls hC hret hl hP
  obtain ⟨hx, hb, hr, hml, hown, hts, hK, -, hlocks, hZ⟩ := hC
  have hown : s.vm.findClass RX12 = some m.cls := hown
  have hS : va_S (jA ad) s.heap s.heap [] := va_S.rf
  have hA : ∀ q, jA ad q → jA ad q := fun _ h => h
  have hl : lv_has ls 4 [(0, .ref (ad 55)), (1, .int 3), (2, .int a2)] := hl
  have g2 := jrg t2
  refine lv_iload_n hx hb dX12_tellsAs_0 rfl (lv_at hl 1 rfl) ?_
  refine lv_iconst (v := 4) hx hb dX12_tellsAs_1 (of_decide_eq_true rfl) ?_
  refine lv_icmp_ne (tgt := 20) hx hb dX12_tellsAs_2 (of_decide_eq_true rfl) (fun _ => ?_) (fun c => absurd c (of_decide_eq_true rfl))
  refine lv_aload_n hx hb dX12_tellsAs_20 rfl (lv_at hl 0 rfl) ?_
  refine lv_iconst (v := 2) hx hb dX12_tellsAs_21 (of_decide_eq_true rfl) ?_
  refine jcallVv (As := [.int 2]) (rest := []) ⟨hx, hb, hml, hown, hts⟩ hK hP hA hS hZ (c_X12_begins_2_0 l D cI cL ad zz hJ σ τ h55_55) cw_RX12_379 (jc_55 cI cL ad σ τ) rfl ⟨Nat.le_of_ble_eq_true rfl, Nat.le_of_ble_eq_true rfl⟩ rfl rfl rfl hl.1 rfl (Nat.le_of_ble_eq_true rfl) dX12_tellsAs_22 ⟨Nat.zero_le _, Nat.zero_le _⟩ (fun σ1 τ1 H locs h1 hP hS => ?_)
  obtain ⟨rfl, f3, f4, f5, m6, m7, h1⟩ := h1
  refine lv_aload_n hx hb dX12_tellsAs_25 rfl (lv_at hl 0 rfl) ?_
  refine lv_aload_n hx hb dX12_tellsAs_26 rfl (lv_at hl 0 rfl) ?_
  refine va_get (D := D) hx hb hts inlX12 hown hK hP 55 (jc_55 cI cL ad σ1 τ) rfl 56 (of_decide_eq_true rfl) (hts _ kw_49_8) (fun _ h9 => h9) rfl dX12_tellsAs_27 ?_
  have m9 : σ1 55 56 = (σ 55 56) := (f4 56 (of_decide_eq_true rfl))
  refine jtopr m9 ?_
  exact by
   refine jtopr (jsame (rfl : (σ 55 56).toInt = (σ 55 56).toInt) jz_3 (by omega)) ?_
   refine lv_iload_n hx hb dX12_tellsAs_30 rfl (lv_at hl 2 rfl) ?_
   have z10 : (σ1 55 56).toInt = (σ 55 56).toInt := (congrArg Int32.toInt (show σ1 55 56 = (σ 55 56) from m9))
   refine jcallV (As := [.int 3, .int a2]) (rest := []) ⟨hx, hb, hml, hown, hts⟩ hK hP hA hS hZ (c_X12_holdsAs_3_3_1 l D cI cL ad zz hJ σ1 τ a2 (A2) t2 m6 (by omega)) cw_RX12_388 (jc_55 cI cL ad σ1 τ) rfl ⟨Nat.le_of_ble_eq_true rfl, Nat.le_of_ble_eq_true rfl⟩ rfl rfl rfl hl.1 rfl (Nat.le_of_ble_eq_true rfl) dX12_tellsAs_31 ⟨Nat.zero_le _, Nat.zero_le _⟩ (fun r12 σ11 τ11 H locs h11 hP hS => ?_)
   obtain ⟨rfl, f13, f14, f15, m16, m17, m18, m19, h11⟩ := h11
   have h21 := h11
   obtain ⟨q23, k22⟩ := h21
   have q23 := q23.symm
   subst q23
   exact by
    refine lv_istore_n (lv' := [(3, .int (-((a2 + (σ1 55 57)) * 2))), (0, .ref (ad 55)), (1, .int 3), (2, .int a2)]) hx hb dX12_tellsAs_34 rfl hl (of_decide_eq_true rfl) rfl (fun ls hl => ?_)
    refine lv_iload_n hx hb dX12_tellsAs_35 rfl (lv_at hl 0 rfl) ?_
    refine lv_aload_n hx hb dX12_tellsAs_36 rfl (lv_at hl 1 rfl) ?_
    refine lv_aload_n hx hb dX12_tellsAs_37 rfl (lv_at hl 1 rfl) ?_
    refine va_get (D := D) hx hb hts inlX12 hown hK hP 55 (jc_55 cI cL ad σ11 τ) rfl 56 (of_decide_eq_true rfl) (hts _ kw_49_8) (fun _ h9 => h9) rfl dX12_tellsAs_38 ?_
    have m24 : σ11 55 56 = (σ 55 56) := ((f14 56 (of_decide_eq_true rfl)).trans m9)
    refine jtopr m24 ?_
    refine jtopr (jsame (rfl : (σ 55 56).toInt = (σ 55 56).toInt) jz_3 (by omega)) ?_
    refine lv_iconst (v := 1) hx hb dX12_tellsAs_41 (of_decide_eq_true rfl) ?_
    exact by
     have z25 : (σ11 55 56).toInt = (σ 55 56).toInt := (congrArg Int32.toInt (show σ11 55 56 = (σ 55 56) from m24))
     refine jcallV (As := [.int 3, .int 1]) (rest := [.int (-((a2 + (σ1 55 57)) * 2))]) ⟨hx, hb, hml, hown, hts⟩ hK hP hA hS hZ (c_X12_givesAs_3_3_4_x1 l D cI cL ad zz hJ σ11 τ m16 (by omega)) cw_RX12_394 (jc_55 cI cL ad σ11 τ) rfl ⟨Nat.le_of_ble_eq_true rfl, Nat.le_of_ble_eq_true rfl⟩ rfl rfl rfl hl.1 rfl (Nat.le_of_ble_eq_true rfl) dX12_tellsAs_42 ⟨Nat.zero_le _, Nat.zero_le _⟩ (fun r27 σ26 τ26 H locs h26 hP hS => ?_)
     obtain ⟨rfl, f28, f29, f30, m31, m32, m33, h26⟩ := h26
     have h35 := h26
     obtain ⟨q37, k36⟩ := h35
     have q37 := q37.symm
     subst q37
     have g38 := jrg (rfl : (-((a2 + (σ1 55 57)) * 2)).toInt = (-((a2 + (σ1 55 57)) * 2)).toInt)
     have g39 := jrg (rfl : ((1 ^^^ (σ11 55 57)) * 3).toInt = ((1 ^^^ (σ11 55 57)) * 3).toInt)
     exact by
      refine lv_isub hx hb dX12_tellsAs_45 ?_
      refine lv_topi (fun x40 ex40 => ?_)
      have gx40 := jrg (rfl : x40.toInt = x40.toInt)
      have m41 : σ26 85 0 = 2 := ((f30 0 (of_decide_eq_true rfl)).trans ((f15 0 (of_decide_eq_true rfl)).trans m7))
      have m42 : σ26 85 1 = 40 := ((f30 1 (of_decide_eq_true rfl)).trans m17)
      have m43 : σ26 85 2 = 10 := ((f30 2 (of_decide_eq_true rfl)).trans m18)
      have m44 : σ26 85 3 = 1 := ((f30 3 (of_decide_eq_true rfl)).trans m19)
      exact hret x40 σ26 τ _ _ _ _ rfl ⟨rfl, (fun i hi => ((f28 i hi).trans ((f13 i hi).trans (f3 i hi)))), (fun i hi => ((f29 i hi).trans ((f14 i hi).trans (f4 i hi)))), (fun i hi => ((f30 i (imp_324 i hi)).trans ((f15 i (imp_325 i hi)).trans (f5 i (imp_359 i hi))))), m31, m41, m42, m43, m44, m32, m33, ⟨(by rw [ex40, (show σ1 55 57 = σ 55 57 from (f4 57 (of_decide_eq_true rfl))), (show σ11 55 57 = σ 55 57 from ((f14 57 (of_decide_eq_true rfl)).trans (f4 57 (of_decide_eq_true rfl))))]), trivial⟩⟩ hP hS dX12_tellsAs_46
set_option maxHeartbeats 4000000 in
set_option maxRecDepth 100000 in
theorem c_X12_begins_50_0 (l : Launch) (D : va_G) (cI cL : ClassId) (ad zz : Nat → Nat) (hJ : jD ad) (σ : Nat → Nat → Int32) (τ : Nat → Nat → Int64) (h55_55 : σ 55 55 = 0) : jMv l yX12_begins cX12_begins 2 none ({ frames := 0, cells := 0, slots := 0, locals := 0 }) D cI cL ad zz [.ref (ad 55), .int 50] σ τ (fun σ' τ' => τ = τ' ∧ (∀ i : Nat, (i < 55 ∨ 55 < i) ∧ (i < 85 ∨ 85 < i) → σ' i = σ i) ∧ (∀ k : Nat, (k < 55 ∨ 55 < k) → σ' 55 k = σ 55 k) ∧ (∀ k : Nat, (k < 0 ∨ 0 < k) → σ' 85 k = σ 85 k) ∧ (σ' 55 55 = 1) ∧ (σ' 85 0 = 50) ∧ True) := by
  refine jMv.of hJ (by decide +kernel) rfl (Nat.le_of_ble_eq_true rfl) ?_
  intro p e s m args below meth c Q ls hC hret hl hP
  obtain ⟨hx, hb, hr, hml, hown, hts, hK, -, hlocks, hZ⟩ := hC
  have hown : s.vm.findClass RX12 = some m.cls := hown
  have hS : va_S (jA ad) s.heap s.heap [] := va_S.rf
  have hA : ∀ q, jA ad q → jA ad q := fun _ h => h
  have hl : lv_has ls 2 [(0, .ref (ad 55)), (1, .int 50)] := hl
  refine lv_aload_n hx hb dX12_begins_0 rfl (lv_at hl 0 rfl) ?_
  refine va_get (D := D) hx hb hts inlX12 hown hK hP 55 (jc_55 cI cL ad σ τ) rfl 55 (of_decide_eq_true rfl) (hts _ kw_49_7) (fun _ h9 => h9) rfl dX12_begins_1 ?_
  refine jtopr h55_55 ?_
  refine lv_bipush (v := 24) hx hb dX12_begins_4 (of_decide_eq_true rfl) ?_
  refine lv_icmp_ge (tgt := 19) hx hb dX12_begins_6 (of_decide_eq_true rfl) (fun c => absurd c (of_decide_eq_true rfl)) (fun _ => ?_)
  refine lv_aload_n hx hb dX12_begins_9 rfl (lv_at hl 0 rfl) ?_
  refine va_get (D := D) hx hb hts inlX12 hown hK hP 55 (jc_55 cI cL ad σ τ) rfl 54 (of_decide_eq_true rfl) (hts _ kw_8_10) (fun _ h9 => h9) rfl dX12_begins_10 ?_
  refine lv_aload_n hx hb dX12_begins_13 rfl (lv_at hl 0 rfl) ?_
  refine va_get (D := D) hx hb hts inlX12 hown hK hP 55 (jc_55 cI cL ad σ τ) rfl 55 (of_decide_eq_true rfl) (hts _ kw_49_7) (fun _ h9 => h9) rfl dX12_begins_14 ?_
  refine jtopr h55_55 ?_
  refine lv_iload_n hx hb dX12_begins_17 rfl (lv_at hl 1 rfl) ?_
  exact by
   refine jast hx hb hK hP hJ hA hS (jc_85 cI cL ad σ τ) (ja_85 cI cL ad σ τ _ _) (jin jz_0 (by omega) (by omega)) dX12_begins_18 (fun σ1 H locs eσ1 hP hS => ?_)
   have eσ1 : σ1 = jup σ 85 0 50 := eσ1
   refine lv_aload_n hx hb dX12_begins_19 rfl (lv_at hl 0 rfl) ?_
   refine lv_dup hx hb dX12_begins_20 rfl ?_
   refine va_get (D := D) hx hb hts inlX12 hown hK hP 55 (jc_55 cI cL ad σ1 τ) rfl 55 (of_decide_eq_true rfl) (hts _ kw_49_7) (fun _ h9 => h9) rfl dX12_begins_21 ?_
   have m2 : σ1 55 55 = 0 := ((congrFun (jnp 55 eσ1 (of_decide_eq_true rfl)) 55).trans h55_55)
   refine jtopr m2 ?_
   refine lv_iconst (v := 1) hx hb dX12_begins_24 (of_decide_eq_true rfl) ?_
   refine lv_iadd hx hb dX12_begins_25 ?_
   refine jtopr (y := 1) (of_decide_eq_true rfl) ?_
   refine jput (ty := .int) hx hb hts inlX12 tyX12 tyX12_ok nmX12 hown hK hP hJ hA hS (jc_55 cI cL ad σ1 τ) rfl (k := 55) (of_decide_eq_true rfl) (Nat.le_of_ble_eq_true rfl) (jp_55_55 cI cL ad σ1 τ 1) (hts _ kw_49_7) (fun _ h9 => h9) rfl (by decide +kernel) rfl rfl dX12_begins_26 (fun σ3 H locs eσ3 hP hS => ?_)
   have m4 : σ3 55 55 = 1 := (jsp eσ3)
   have m5 : σ3 85 0 = 50 := ((congrFun (jnp 85 eσ3 (of_decide_eq_true rfl)) 0).trans (jsp eσ1))
   exact hret σ3 τ _ _ _ _ ⟨rfl, (fun i hi => ((jnp i eσ3 (imp_350 i hi)).trans (jnp i eσ1 (imp_351 i hi)))), (fun i hi => ((jkp i eσ3 (imp_165 i hi)).trans (congrFun (jnp 55 eσ1 (of_decide_eq_true rfl)) i))), (fun i hi => ((congrFun (jnp 85 eσ3 (of_decide_eq_true rfl)) i).trans (jkp i eσ1 (imp_4 i hi)))), m4, m5, trivial⟩ hP hS dX12_begins_29
set_option maxHeartbeats 4000000 in
set_option maxRecDepth 100000 in
theorem c_X12_putsAs_4_0_2 (l : Launch) (D : va_G) (cI cL : ClassId) (ad zz : Nat → Nat) (hJ : jD ad) (σ : Nat → Nat → Int32) (τ : Nat → Nat → Int64) (a2 : Int32) (A2 : Int) (t2 : a2.toInt = A2) (h55_55 : σ 55 55 = 2) (hp0 : (σ 55 56).toInt = 4) : jM l yX12_putsAs cX12_putsAs 3 (some .int) ({ frames := 1, cells := 0, slots := 0, locals := 21 }) D cI cL ad zz [.ref (ad 55), .int 0, .int a2] σ τ (fun r σ' τ' => τ = τ' ∧ (∀ i : Nat, (i < 55 ∨ 55 < i) ∧ (i < 85 ∨ 85 < i) → σ' i = σ i) ∧ (∀ k : Nat, (k < 55 ∨ 55 < k) → σ' 55 k = σ 55 k) ∧ (∀ k : Nat, (k < 2 ∨ 2 < k) → σ' 85 k = σ 85 k) ∧ (σ' 55 55 = 3) ∧ (σ' 85 2 = 1) ∧ ((r = (a2 + (σ 55 57)) ∧ True))) := by
  refine jM.of hJ (by decide +kernel) (nt := .int) rfl (Nat.le_of_ble_eq_true rfl) ?_
  intro p e s m args below meth c Q ls hC hret hl hP
  obtain ⟨hx, hb, hr, hml, hown, hts, hK, -, hlocks, hZ⟩ := hC
  have hown : s.vm.findClass RX12 = some m.cls := hown
  have hS : va_S (jA ad) s.heap s.heap [] := va_S.rf
  have hA : ∀ q, jA ad q → jA ad q := fun _ h => h
  have hl : lv_has ls 3 [(0, .ref (ad 55)), (1, .int 0), (2, .int a2)] := hl
  have g2 := jrg t2
  refine lv_iload_n hx hb dX12_putsAs_0 rfl (lv_at hl 1 rfl) ?_
  refine lv_iconst (v := 4) hx hb dX12_putsAs_1 (of_decide_eq_true rfl) ?_
  refine lv_icmp_ne (tgt := 20) hx hb dX12_putsAs_2 (of_decide_eq_true rfl) (fun _ => ?_) (fun c => absurd c (of_decide_eq_true rfl))
  refine lv_iload_n hx hb dX12_putsAs_20 rfl (lv_at hl 1 rfl) ?_
  refine lv_iconst (v := 1) hx hb dX12_putsAs_21 (of_decide_eq_true rfl) ?_
  refine lv_icmp_ne (tgt := 40) hx hb dX12_putsAs_22 (of_decide_eq_true rfl) (fun _ => ?_) (fun c => absurd c (of_decide_eq_true rfl))
  refine lv_aload_n hx hb dX12_putsAs_40 rfl (lv_at hl 0 rfl) ?_
  refine lv_iconst (v := 1) hx hb dX12_putsAs_41 (of_decide_eq_true rfl) ?_
  refine jcallVv (As := [.int 1]) (rest := []) ⟨hx, hb, hml, hown, hts⟩ hK hP hA hS hZ (c_X12_begins_1_2 l D cI cL ad zz hJ σ τ h55_55) cw_RX12_379 (jc_55 cI cL ad σ τ) rfl ⟨Nat.le_of_ble_eq_true rfl, Nat.le_of_ble_eq_true rfl⟩ rfl rfl rfl hl.1 rfl (Nat.le_of_ble_eq_true rfl) dX12_putsAs_42 ⟨Nat.zero_le _, Nat.zero_le _⟩ (fun σ1 τ1 H locs h1 hP hS => ?_)
  obtain ⟨rfl, f3, f4, f5, m6, m7, h1⟩ := h1
  refine lv_iload_n hx hb dX12_putsAs_45 rfl (lv_at hl 2 rfl) ?_
  refine lv_aload_n hx hb dX12_putsAs_46 rfl (lv_at hl 0 rfl) ?_
  refine va_get (D := D) hx hb hts inlX12 hown hK hP 55 (jc_55 cI cL ad σ1 τ) rfl 57 (of_decide_eq_true rfl) (hts _ kw_49_9) (fun _ h9 => h9) rfl dX12_putsAs_47 ?_
  have m9 : σ1 55 57 = (σ 55 57) := (f4 57 (of_decide_eq_true rfl))
  refine jtopr m9 ?_
  have g10 := jrg (rfl : (σ 55 57).toInt = (σ 55 57).toInt)
  refine lv_iadd hx hb dX12_putsAs_50 ?_
  refine lv_topi (fun x11 ex11 => ?_)
  have gx11 := jrg (rfl : x11.toInt = x11.toInt)
  exact hret x11 σ1 τ _ _ _ _ rfl ⟨rfl, (fun i hi => (f3 i hi)), (fun i hi => (f4 i hi)), (fun i hi => (f5 i hi)), m6, m7, ⟨(by rw [ex11]), trivial⟩⟩ hP hS dX12_putsAs_51
set_option maxHeartbeats 4000000 in
set_option maxRecDepth 100000 in
theorem c_X12_putsAs_4_1_1 (l : Launch) (D : va_G) (cI cL : ClassId) (ad zz : Nat → Nat) (hJ : jD ad) (σ : Nat → Nat → Int32) (τ : Nat → Nat → Int64) (a2 : Int32) (A2 : Int) (t2 : a2.toInt = A2) (h55_55 : σ 55 55 = 1) (hp0 : (σ 55 56).toInt = 4) : jM l yX12_putsAs cX12_putsAs 3 (some .int) ({ frames := 2, cells := 0, slots := 0, locals := 43 }) D cI cL ad zz [.ref (ad 55), .int 1, .int a2] σ τ (fun r σ' τ' => τ = τ' ∧ (∀ i : Nat, (i < 55 ∨ 55 < i) ∧ (i < 85 ∨ 85 < i) → σ' i = σ i) ∧ (∀ k : Nat, (k < 55 ∨ 55 < k) → σ' 55 k = σ 55 k) ∧ (∀ k : Nat, (k < 1 ∨ 1 < k) ∧ (k < 2 ∨ 2 < k) → σ' 85 k = σ 85 k) ∧ (σ' 55 55 = 3) ∧ (σ' 85 1 = 20) ∧ (σ' 85 2 = 1) ∧ ((r = ((a2 + (σ 55 57)) + 3) ∧ True))) := by
  refine jM.of hJ (by decide +kernel) (nt := .int) rfl (Nat.le_of_ble_eq_true rfl) ?_
  intro p e s m args below meth c Q ls hC hret hl hP
  obtain ⟨hx, hb, hr, hml, hown, hts, hK, -, hlocks, hZ⟩ := hC
  have hown : s.vm.findClass RX12 = some m.cls := hown
  have hS : va_S (jA ad) s.heap s.heap [] := va_S.rf
  have hA : ∀ q, jA ad q → jA ad q := fun _ h => h
  have hl : lv_has ls 3 [(0, .ref (ad 55)), (1, .int 1), (2, .int a2)] := hl
  have g2 := jrg t2
  refine lv_iload_n hx hb dX12_putsAs_0 rfl (lv_at hl 1 rfl) ?_
  refine lv_iconst (v := 4) hx hb dX12_putsAs_1 (of_decide_eq_true rfl) ?_
  refine lv_icmp_ne (tgt := 20) hx hb dX12_putsAs_2 (of_decide_eq_true rfl) (fun _ => ?_) (fun c => absurd c (of_decide_eq_true rfl))
  refine lv_iload_n hx hb dX12_putsAs_20 rfl (lv_at hl 1 rfl) ?_
  refine lv_iconst (v := 1) hx hb dX12_putsAs_21 (of_decide_eq_true rfl) ?_
  refine lv_icmp_ne (tgt := 40) hx hb dX12_putsAs_22 (of_decide_eq_true rfl) (fun c => absurd (of_decide_eq_true rfl) c) (fun _ => ?_)
  refine lv_aload_n hx hb dX12_putsAs_25 rfl (lv_at hl 0 rfl) ?_
  refine lv_bipush (v := 20) hx hb dX12_putsAs_26 (of_decide_eq_true rfl) ?_
  refine jcallVv (As := [.int 20]) (rest := []) ⟨hx, hb, hml, hown, hts⟩ hK hP hA hS hZ (c_X12_begins_20_1 l D cI cL ad zz hJ σ τ h55_55) cw_RX12_379 (jc_55 cI cL ad σ τ) rfl ⟨Nat.le_of_ble_eq_true rfl, Nat.le_of_ble_eq_true rfl⟩ rfl rfl rfl hl.1 rfl (Nat.le_of_ble_eq_true rfl) dX12_putsAs_28 ⟨Nat.zero_le _, Nat.zero_le _⟩ (fun σ1 τ1 H locs h1 hP hS => ?_)
  obtain ⟨rfl, f3, f4, f5, m6, m7, h1⟩ := h1
  refine lv_aload_n hx hb dX12_putsAs_31 rfl (lv_at hl 0 rfl) ?_
  refine lv_iconst (v := 0) hx hb dX12_putsAs_32 (of_decide_eq_true rfl) ?_
  refine lv_iload_n hx hb dX12_putsAs_33 rfl (lv_at hl 2 rfl) ?_
  have z9 : (σ1 55 56).toInt = (σ 55 56).toInt := (congrArg Int32.toInt (show σ1 55 56 = (σ 55 56) from (f4 56 (of_decide_eq_true rfl))))
  exact by
   refine jcallV (As := [.int 0, .int a2]) (rest := []) ⟨hx, hb, hml, hown, hts⟩ hK hP hA hS hZ (c_X12_putsAs_4_0_2 l D cI cL ad zz hJ σ1 τ a2 (A2) t2 m6 (by omega)) cw_RX12_382 (jc_55 cI cL ad σ1 τ) rfl ⟨Nat.le_of_ble_eq_true rfl, Nat.le_of_ble_eq_true rfl⟩ rfl rfl rfl hl.1 rfl (Nat.le_of_ble_eq_true rfl) dX12_putsAs_34 ⟨Nat.zero_le _, Nat.zero_le _⟩ (fun r11 σ10 τ10 H locs h10 hP hS => ?_)
   obtain ⟨rfl, f12, f13, f14, m15, m16, h10⟩ := h10
   have h18 := h10
   obtain ⟨q20, k19⟩ := h18
   have q20 := q20.symm
   subst q20
   refine lv_iconst (v := 3) hx hb dX12_putsAs_37 (of_decide_eq_true rfl) ?_
   have g21 := jrg (rfl : (a2 + (σ1 55 57)).toInt = (a2 + (σ1 55 57)).toInt)
   refine lv_iadd hx hb dX12_putsAs_38 ?_
   refine lv_topi (fun x22 ex22 => ?_)
   have gx22 := jrg (rfl : x22.toInt = x22.toInt)
   have m23 : σ10 85 1 = 20 := ((f14 1 (of_decide_eq_true rfl)).trans m7)
   exact hret x22 σ10 τ _ _ _ _ rfl ⟨rfl, (fun i hi => ((f12 i hi).trans (f3 i hi))), (fun i hi => ((f13 i hi).trans (f4 i hi))), (fun i hi => ((f14 i (imp_43 i hi)).trans (f5 i (imp_55 i hi)))), m15, m23, m16, ⟨(by rw [ex22, (show σ1 55 57 = σ 55 57 from (f4 57 (of_decide_eq_true rfl)))]), trivial⟩⟩ hP hS dX12_putsAs_39
set_option maxHeartbeats 4000000 in
set_option maxRecDepth 100000 in
theorem c_X12_putsAs_4_4_0 (l : Launch) (D : va_G) (cI cL : ClassId) (ad zz : Nat → Nat) (hJ : jD ad) (σ : Nat → Nat → Int32) (τ : Nat → Nat → Int64) (a2 : Int32) (A2 : Int) (t2 : a2.toInt = A2) (h55_55 : σ 55 55 = 0) (hp0 : (σ 55 56).toInt = 4) : jM l yX12_putsAs cX12_putsAs 3 (some .int) ({ frames := 3, cells := 0, slots := 0, locals := 65 }) D cI cL ad zz [.ref (ad 55), .int 4, .int a2] σ τ (fun r σ' τ' => τ = τ' ∧ (∀ i : Nat, (i < 55 ∨ 55 < i) ∧ (i < 85 ∨ 85 < i) → σ' i = σ i) ∧ (∀ k : Nat, (k < 55 ∨ 55 < k) → σ' 55 k = σ 55 k) ∧ (∀ k : Nat, (k < 0 ∨ 0 < k) ∧ (k < 1 ∨ 1 < k) ∧ (k < 2 ∨ 2 < k) → σ' 85 k = σ 85 k) ∧ (σ' 55 55 = 3) ∧ (σ' 85 0 = 50) ∧ (σ' 85 1 = 20) ∧ (σ' 85 2 = 1) ∧ ((r = (((a2 + 1) + (σ 55 57)) + 3) ∧ True))) := by
  refine jM.of hJ (by decide +kernel) (nt := .int) rfl (Nat.le_of_ble_eq_true rfl) ?_
  intro p e s m args below meth c Q ls hC hret hl hP
  obtain ⟨hx, hb, hr, hml, hown, hts, hK, -, hlocks, hZ⟩ := hC
  have hown : s.vm.findClass RX12 = some m.cls := hown
  have hS : va_S (jA ad) s.heap s.heap [] := va_S.rf
  have hA : ∀ q, jA ad q → jA ad q := fun _ h => h
  have hl : lv_has ls 3 [(0, .ref (ad 55)), (1, .int 4), (2, .int a2)] := hl
  have g2 := jrg t2
  refine lv_iload_n hx hb dX12_putsAs_0 rfl (lv_at hl 1 rfl) ?_
  refine lv_iconst (v := 4) hx hb dX12_putsAs_1 (of_decide_eq_true rfl) ?_
  refine lv_icmp_ne (tgt := 20) hx hb dX12_putsAs_2 (of_decide_eq_true rfl) (fun c => absurd (of_decide_eq_true rfl) c) (fun _ => ?_)
  refine lv_aload_n hx hb dX12_putsAs_5 rfl (lv_at hl 0 rfl) ?_
  refine lv_bipush (v := 50) hx hb dX12_putsAs_6 (of_decide_eq_true rfl) ?_
  refine jcallVv (As := [.int 50]) (rest := []) ⟨hx, hb, hml, hown, hts⟩ hK hP hA hS hZ (c_X12_begins_50_0 l D cI cL ad zz hJ σ τ h55_55) cw_RX12_379 (jc_55 cI cL ad σ τ) rfl ⟨Nat.le_of_ble_eq_true rfl, Nat.le_of_ble_eq_true rfl⟩ rfl rfl rfl hl.1 rfl (Nat.le_of_ble_eq_true rfl) dX12_putsAs_8 ⟨Nat.zero_le _, Nat.zero_le _⟩ (fun σ1 τ1 H locs h1 hP hS => ?_)
  obtain ⟨rfl, f3, f4, f5, m6, m7, h1⟩ := h1
  refine lv_aload_n hx hb dX12_putsAs_11 rfl (lv_at hl 0 rfl) ?_
  refine lv_iconst (v := 1) hx hb dX12_putsAs_12 (of_decide_eq_true rfl) ?_
  refine lv_iload_n hx hb dX12_putsAs_13 rfl (lv_at hl 2 rfl) ?_
  refine lv_iconst (v := 1) hx hb dX12_putsAs_14 (of_decide_eq_true rfl) ?_
  refine lv_iadd hx hb dX12_putsAs_15 ?_
  refine lv_topi (fun x9 ex9 => ?_)
  have gx9 := jrg (rfl : x9.toInt = x9.toInt)
  have z10 : (σ1 55 56).toInt = (σ 55 56).toInt := (congrArg Int32.toInt (show σ1 55 56 = (σ 55 56) from (f4 56 (of_decide_eq_true rfl))))
  exact by
   refine jcallV (As := [.int 1, .int x9]) (rest := []) ⟨hx, hb, hml, hown, hts⟩ hK hP hA hS hZ (c_X12_putsAs_4_1_1 l D cI cL ad zz hJ σ1 τ x9 (x9.toInt) rfl m6 (by omega)) cw_RX12_382 (jc_55 cI cL ad σ1 τ) rfl ⟨Nat.le_of_ble_eq_true rfl, Nat.le_of_ble_eq_true rfl⟩ rfl rfl rfl hl.1 rfl (Nat.le_of_ble_eq_true rfl) dX12_putsAs_16 ⟨Nat.zero_le _, Nat.zero_le _⟩ (fun r12 σ11 τ11 H locs h11 hP hS => ?_)
   obtain ⟨rfl, f13, f14, f15, m16, m17, m18, h11⟩ := h11
   have h20 := h11
   obtain ⟨q22, k21⟩ := h20
   have q22 := q22.symm
   subst q22
   have m23 : σ11 85 0 = 50 := ((f15 0 (of_decide_eq_true rfl)).trans m7)
   exact hret ((x9 + (σ1 55 57)) + 3) σ11 τ _ _ _ _ rfl ⟨rfl, (fun i hi => ((f13 i hi).trans (f3 i hi))), (fun i hi => ((f14 i hi).trans (f4 i hi))), (fun i hi => ((f15 i (imp_49 i hi)).trans (f5 i (imp_354 i hi)))), m16, m23, m17, m18, ⟨(by rw [ex9, (show σ1 55 57 = σ 55 57 from (f4 57 (of_decide_eq_true rfl)))]), trivial⟩⟩ hP hS dX12_putsAs_19
set_option maxHeartbeats 4000000 in
set_option maxRecDepth 100000 in
theorem c_X12_begins_50_1 (l : Launch) (D : va_G) (cI cL : ClassId) (ad zz : Nat → Nat) (hJ : jD ad) (σ : Nat → Nat → Int32) (τ : Nat → Nat → Int64) (h55_55 : σ 55 55 = 1) : jMv l yX12_begins cX12_begins 2 none ({ frames := 0, cells := 0, slots := 0, locals := 0 }) D cI cL ad zz [.ref (ad 55), .int 50] σ τ (fun σ' τ' => τ = τ' ∧ (∀ i : Nat, (i < 55 ∨ 55 < i) ∧ (i < 85 ∨ 85 < i) → σ' i = σ i) ∧ (∀ k : Nat, (k < 55 ∨ 55 < k) → σ' 55 k = σ 55 k) ∧ (∀ k : Nat, (k < 1 ∨ 1 < k) → σ' 85 k = σ 85 k) ∧ (σ' 55 55 = 2) ∧ (σ' 85 1 = 50) ∧ True) := by
  refine jMv.of hJ (by decide +kernel) rfl (Nat.le_of_ble_eq_true rfl) ?_
  intro p e s m args below meth c Q ls hC hret hl hP
  obtain ⟨hx, hb, hr, hml, hown, hts, hK, -, hlocks, hZ⟩ := hC
  have hown : s.vm.findClass RX12 = some m.cls := hown
  have hS : va_S (jA ad) s.heap s.heap [] := va_S.rf
  have hA : ∀ q, jA ad q → jA ad q := fun _ h => h
  have hl : lv_has ls 2 [(0, .ref (ad 55)), (1, .int 50)] := hl
  refine lv_aload_n hx hb dX12_begins_0 rfl (lv_at hl 0 rfl) ?_
  refine va_get (D := D) hx hb hts inlX12 hown hK hP 55 (jc_55 cI cL ad σ τ) rfl 55 (of_decide_eq_true rfl) (hts _ kw_49_7) (fun _ h9 => h9) rfl dX12_begins_1 ?_
  refine jtopr h55_55 ?_
  refine lv_bipush (v := 24) hx hb dX12_begins_4 (of_decide_eq_true rfl) ?_
  refine lv_icmp_ge (tgt := 19) hx hb dX12_begins_6 (of_decide_eq_true rfl) (fun c => absurd c (of_decide_eq_true rfl)) (fun _ => ?_)
  refine lv_aload_n hx hb dX12_begins_9 rfl (lv_at hl 0 rfl) ?_
  refine va_get (D := D) hx hb hts inlX12 hown hK hP 55 (jc_55 cI cL ad σ τ) rfl 54 (of_decide_eq_true rfl) (hts _ kw_8_10) (fun _ h9 => h9) rfl dX12_begins_10 ?_
  refine lv_aload_n hx hb dX12_begins_13 rfl (lv_at hl 0 rfl) ?_
  refine va_get (D := D) hx hb hts inlX12 hown hK hP 55 (jc_55 cI cL ad σ τ) rfl 55 (of_decide_eq_true rfl) (hts _ kw_49_7) (fun _ h9 => h9) rfl dX12_begins_14 ?_
  refine jtopr h55_55 ?_
  refine lv_iload_n hx hb dX12_begins_17 rfl (lv_at hl 1 rfl) ?_
  exact by
   refine jast hx hb hK hP hJ hA hS (jc_85 cI cL ad σ τ) (ja_85 cI cL ad σ τ _ _) (jin jz_1 (by omega) (by omega)) dX12_begins_18 (fun σ1 H locs eσ1 hP hS => ?_)
   have eσ1 : σ1 = jup σ 85 1 50 := eσ1
   refine lv_aload_n hx hb dX12_begins_19 rfl (lv_at hl 0 rfl) ?_
   refine lv_dup hx hb dX12_begins_20 rfl ?_
   refine va_get (D := D) hx hb hts inlX12 hown hK hP 55 (jc_55 cI cL ad σ1 τ) rfl 55 (of_decide_eq_true rfl) (hts _ kw_49_7) (fun _ h9 => h9) rfl dX12_begins_21 ?_
   have m2 : σ1 55 55 = 1 := ((congrFun (jnp 55 eσ1 (of_decide_eq_true rfl)) 55).trans h55_55)
   refine jtopr m2 ?_
   refine lv_iconst (v := 1) hx hb dX12_begins_24 (of_decide_eq_true rfl) ?_
   refine lv_iadd hx hb dX12_begins_25 ?_
   refine jtopr (y := 2) (of_decide_eq_true rfl) ?_
   refine jput (ty := .int) hx hb hts inlX12 tyX12 tyX12_ok nmX12 hown hK hP hJ hA hS (jc_55 cI cL ad σ1 τ) rfl (k := 55) (of_decide_eq_true rfl) (Nat.le_of_ble_eq_true rfl) (jp_55_55 cI cL ad σ1 τ 2) (hts _ kw_49_7) (fun _ h9 => h9) rfl (by decide +kernel) rfl rfl dX12_begins_26 (fun σ3 H locs eσ3 hP hS => ?_)
   have m4 : σ3 55 55 = 2 := (jsp eσ3)
   have m5 : σ3 85 1 = 50 := ((congrFun (jnp 85 eσ3 (of_decide_eq_true rfl)) 1).trans (jsp eσ1))
   exact hret σ3 τ _ _ _ _ ⟨rfl, (fun i hi => ((jnp i eσ3 (imp_350 i hi)).trans (jnp i eσ1 (imp_351 i hi)))), (fun i hi => ((jkp i eσ3 (imp_165 i hi)).trans (congrFun (jnp 55 eσ1 (of_decide_eq_true rfl)) i))), (fun i hi => ((congrFun (jnp 85 eσ3 (of_decide_eq_true rfl)) i).trans (jkp i eσ1 (imp_42 i hi)))), m4, m5, trivial⟩ hP hS dX12_begins_29
set_option maxHeartbeats 4000000 in
set_option maxRecDepth 100000 in
theorem c_X12_putsAs_4_0_3 (l : Launch) (D : va_G) (cI cL : ClassId) (ad zz : Nat → Nat) (hJ : jD ad) (σ : Nat → Nat → Int32) (τ : Nat → Nat → Int64) (a2 : Int32) (A2 : Int) (t2 : a2.toInt = A2) (h55_55 : σ 55 55 = 3) (hp0 : (σ 55 56).toInt = 4) : jM l yX12_putsAs cX12_putsAs 3 (some .int) ({ frames := 1, cells := 0, slots := 0, locals := 21 }) D cI cL ad zz [.ref (ad 55), .int 0, .int a2] σ τ (fun r σ' τ' => τ = τ' ∧ (∀ i : Nat, (i < 55 ∨ 55 < i) ∧ (i < 85 ∨ 85 < i) → σ' i = σ i) ∧ (∀ k : Nat, (k < 55 ∨ 55 < k) → σ' 55 k = σ 55 k) ∧ (∀ k : Nat, (k < 3 ∨ 3 < k) → σ' 85 k = σ 85 k) ∧ (σ' 55 55 = 4) ∧ (σ' 85 3 = 1) ∧ ((r = (a2 + (σ 55 57)) ∧ True))) := by
  refine jM.of hJ (by decide +kernel) (nt := .int) rfl (Nat.le_of_ble_eq_true rfl) ?_
  intro p e s m args below meth c Q ls hC hret hl hP
  obtain ⟨hx, hb, hr, hml, hown, hts, hK, -, hlocks, hZ⟩ := hC
  have hown : s.vm.findClass RX12 = some m.cls := hown
  have hS : va_S (jA ad) s.heap s.heap [] := va_S.rf
  have hA : ∀ q, jA ad q → jA ad q := fun _ h => h
  have hl : lv_has ls 3 [(0, .ref (ad 55)), (1, .int 0), (2, .int a2)] := hl
  have g2 := jrg t2
  refine lv_iload_n hx hb dX12_putsAs_0 rfl (lv_at hl 1 rfl) ?_
  refine lv_iconst (v := 4) hx hb dX12_putsAs_1 (of_decide_eq_true rfl) ?_
  refine lv_icmp_ne (tgt := 20) hx hb dX12_putsAs_2 (of_decide_eq_true rfl) (fun _ => ?_) (fun c => absurd c (of_decide_eq_true rfl))
  refine lv_iload_n hx hb dX12_putsAs_20 rfl (lv_at hl 1 rfl) ?_
  refine lv_iconst (v := 1) hx hb dX12_putsAs_21 (of_decide_eq_true rfl) ?_
  refine lv_icmp_ne (tgt := 40) hx hb dX12_putsAs_22 (of_decide_eq_true rfl) (fun _ => ?_) (fun c => absurd c (of_decide_eq_true rfl))
  refine lv_aload_n hx hb dX12_putsAs_40 rfl (lv_at hl 0 rfl) ?_
  refine lv_iconst (v := 1) hx hb dX12_putsAs_41 (of_decide_eq_true rfl) ?_
  refine jcallVv (As := [.int 1]) (rest := []) ⟨hx, hb, hml, hown, hts⟩ hK hP hA hS hZ (c_X12_begins_1_3 l D cI cL ad zz hJ σ τ h55_55) cw_RX12_379 (jc_55 cI cL ad σ τ) rfl ⟨Nat.le_of_ble_eq_true rfl, Nat.le_of_ble_eq_true rfl⟩ rfl rfl rfl hl.1 rfl (Nat.le_of_ble_eq_true rfl) dX12_putsAs_42 ⟨Nat.zero_le _, Nat.zero_le _⟩ (fun σ1 τ1 H locs h1 hP hS => ?_)
  obtain ⟨rfl, f3, f4, f5, m6, m7, h1⟩ := h1
  refine lv_iload_n hx hb dX12_putsAs_45 rfl (lv_at hl 2 rfl) ?_
  refine lv_aload_n hx hb dX12_putsAs_46 rfl (lv_at hl 0 rfl) ?_
  refine va_get (D := D) hx hb hts inlX12 hown hK hP 55 (jc_55 cI cL ad σ1 τ) rfl 57 (of_decide_eq_true rfl) (hts _ kw_49_9) (fun _ h9 => h9) rfl dX12_putsAs_47 ?_
  have m9 : σ1 55 57 = (σ 55 57) := (f4 57 (of_decide_eq_true rfl))
  refine jtopr m9 ?_
  have g10 := jrg (rfl : (σ 55 57).toInt = (σ 55 57).toInt)
  refine lv_iadd hx hb dX12_putsAs_50 ?_
  refine lv_topi (fun x11 ex11 => ?_)
  have gx11 := jrg (rfl : x11.toInt = x11.toInt)
  exact hret x11 σ1 τ _ _ _ _ rfl ⟨rfl, (fun i hi => (f3 i hi)), (fun i hi => (f4 i hi)), (fun i hi => (f5 i hi)), m6, m7, ⟨(by rw [ex11]), trivial⟩⟩ hP hS dX12_putsAs_51
set_option maxHeartbeats 4000000 in
set_option maxRecDepth 100000 in
theorem c_X12_putsAs_4_1_2 (l : Launch) (D : va_G) (cI cL : ClassId) (ad zz : Nat → Nat) (hJ : jD ad) (σ : Nat → Nat → Int32) (τ : Nat → Nat → Int64) (a2 : Int32) (A2 : Int) (t2 : a2.toInt = A2) (h55_55 : σ 55 55 = 2) (hp0 : (σ 55 56).toInt = 4) : jM l yX12_putsAs cX12_putsAs 3 (some .int) ({ frames := 2, cells := 0, slots := 0, locals := 43 }) D cI cL ad zz [.ref (ad 55), .int 1, .int a2] σ τ (fun r σ' τ' => τ = τ' ∧ (∀ i : Nat, (i < 55 ∨ 55 < i) ∧ (i < 85 ∨ 85 < i) → σ' i = σ i) ∧ (∀ k : Nat, (k < 55 ∨ 55 < k) → σ' 55 k = σ 55 k) ∧ (∀ k : Nat, (k < 2 ∨ 2 < k) ∧ (k < 3 ∨ 3 < k) → σ' 85 k = σ 85 k) ∧ (σ' 55 55 = 4) ∧ (σ' 85 2 = 20) ∧ (σ' 85 3 = 1) ∧ ((r = ((a2 + (σ 55 57)) + 3) ∧ True))) := by
  refine jM.of hJ (by decide +kernel) (nt := .int) rfl (Nat.le_of_ble_eq_true rfl) ?_
  intro p e s m args below meth c Q ls hC hret hl hP
  obtain ⟨hx, hb, hr, hml, hown, hts, hK, -, hlocks, hZ⟩ := hC
  have hown : s.vm.findClass RX12 = some m.cls := hown
  have hS : va_S (jA ad) s.heap s.heap [] := va_S.rf
  have hA : ∀ q, jA ad q → jA ad q := fun _ h => h
  have hl : lv_has ls 3 [(0, .ref (ad 55)), (1, .int 1), (2, .int a2)] := hl
  have g2 := jrg t2
  refine lv_iload_n hx hb dX12_putsAs_0 rfl (lv_at hl 1 rfl) ?_
  refine lv_iconst (v := 4) hx hb dX12_putsAs_1 (of_decide_eq_true rfl) ?_
  refine lv_icmp_ne (tgt := 20) hx hb dX12_putsAs_2 (of_decide_eq_true rfl) (fun _ => ?_) (fun c => absurd c (of_decide_eq_true rfl))
  refine lv_iload_n hx hb dX12_putsAs_20 rfl (lv_at hl 1 rfl) ?_
  refine lv_iconst (v := 1) hx hb dX12_putsAs_21 (of_decide_eq_true rfl) ?_
  refine lv_icmp_ne (tgt := 40) hx hb dX12_putsAs_22 (of_decide_eq_true rfl) (fun c => absurd (of_decide_eq_true rfl) c) (fun _ => ?_)
  refine lv_aload_n hx hb dX12_putsAs_25 rfl (lv_at hl 0 rfl) ?_
  refine lv_bipush (v := 20) hx hb dX12_putsAs_26 (of_decide_eq_true rfl) ?_
  refine jcallVv (As := [.int 20]) (rest := []) ⟨hx, hb, hml, hown, hts⟩ hK hP hA hS hZ (c_X12_begins_20_2 l D cI cL ad zz hJ σ τ h55_55) cw_RX12_379 (jc_55 cI cL ad σ τ) rfl ⟨Nat.le_of_ble_eq_true rfl, Nat.le_of_ble_eq_true rfl⟩ rfl rfl rfl hl.1 rfl (Nat.le_of_ble_eq_true rfl) dX12_putsAs_28 ⟨Nat.zero_le _, Nat.zero_le _⟩ (fun σ1 τ1 H locs h1 hP hS => ?_)
  obtain ⟨rfl, f3, f4, f5, m6, m7, h1⟩ := h1
  refine lv_aload_n hx hb dX12_putsAs_31 rfl (lv_at hl 0 rfl) ?_
  refine lv_iconst (v := 0) hx hb dX12_putsAs_32 (of_decide_eq_true rfl) ?_
  refine lv_iload_n hx hb dX12_putsAs_33 rfl (lv_at hl 2 rfl) ?_
  have z9 : (σ1 55 56).toInt = (σ 55 56).toInt := (congrArg Int32.toInt (show σ1 55 56 = (σ 55 56) from (f4 56 (of_decide_eq_true rfl))))
  exact by
   refine jcallV (As := [.int 0, .int a2]) (rest := []) ⟨hx, hb, hml, hown, hts⟩ hK hP hA hS hZ (c_X12_putsAs_4_0_3 l D cI cL ad zz hJ σ1 τ a2 (A2) t2 m6 (by omega)) cw_RX12_382 (jc_55 cI cL ad σ1 τ) rfl ⟨Nat.le_of_ble_eq_true rfl, Nat.le_of_ble_eq_true rfl⟩ rfl rfl rfl hl.1 rfl (Nat.le_of_ble_eq_true rfl) dX12_putsAs_34 ⟨Nat.zero_le _, Nat.zero_le _⟩ (fun r11 σ10 τ10 H locs h10 hP hS => ?_)
   obtain ⟨rfl, f12, f13, f14, m15, m16, h10⟩ := h10
   have h18 := h10
   obtain ⟨q20, k19⟩ := h18
   have q20 := q20.symm
   subst q20
   refine lv_iconst (v := 3) hx hb dX12_putsAs_37 (of_decide_eq_true rfl) ?_
   have g21 := jrg (rfl : (a2 + (σ1 55 57)).toInt = (a2 + (σ1 55 57)).toInt)
   refine lv_iadd hx hb dX12_putsAs_38 ?_
   refine lv_topi (fun x22 ex22 => ?_)
   have gx22 := jrg (rfl : x22.toInt = x22.toInt)
   have m23 : σ10 85 2 = 20 := ((f14 2 (of_decide_eq_true rfl)).trans m7)
   exact hret x22 σ10 τ _ _ _ _ rfl ⟨rfl, (fun i hi => ((f12 i hi).trans (f3 i hi))), (fun i hi => ((f13 i hi).trans (f4 i hi))), (fun i hi => ((f14 i (imp_312 i hi)).trans (f5 i (imp_19 i hi)))), m15, m23, m16, ⟨(by rw [ex22, (show σ1 55 57 = σ 55 57 from (f4 57 (of_decide_eq_true rfl)))]), trivial⟩⟩ hP hS dX12_putsAs_39
set_option maxHeartbeats 4000000 in
set_option maxRecDepth 100000 in
theorem c_X12_putsAs_4_4_1 (l : Launch) (D : va_G) (cI cL : ClassId) (ad zz : Nat → Nat) (hJ : jD ad) (σ : Nat → Nat → Int32) (τ : Nat → Nat → Int64) (a2 : Int32) (A2 : Int) (t2 : a2.toInt = A2) (h55_55 : σ 55 55 = 1) (hp0 : (σ 55 56).toInt = 4) : jM l yX12_putsAs cX12_putsAs 3 (some .int) ({ frames := 3, cells := 0, slots := 0, locals := 65 }) D cI cL ad zz [.ref (ad 55), .int 4, .int a2] σ τ (fun r σ' τ' => τ = τ' ∧ (∀ i : Nat, (i < 55 ∨ 55 < i) ∧ (i < 85 ∨ 85 < i) → σ' i = σ i) ∧ (∀ k : Nat, (k < 55 ∨ 55 < k) → σ' 55 k = σ 55 k) ∧ (∀ k : Nat, (k < 1 ∨ 1 < k) ∧ (k < 2 ∨ 2 < k) ∧ (k < 3 ∨ 3 < k) → σ' 85 k = σ 85 k) ∧ (σ' 55 55 = 4) ∧ (σ' 85 1 = 50) ∧ (σ' 85 2 = 20) ∧ (σ' 85 3 = 1) ∧ ((r = (((a2 + 1) + (σ 55 57)) + 3) ∧ True))) := by
  refine jM.of hJ (by decide +kernel) (nt := .int) rfl (Nat.le_of_ble_eq_true rfl) ?_
  intro p e s m args below meth c Q ls hC hret hl hP
  obtain ⟨hx, hb, hr, hml, hown, hts, hK, -, hlocks, hZ⟩ := hC
  have hown : s.vm.findClass RX12 = some m.cls := hown
  have hS : va_S (jA ad) s.heap s.heap [] := va_S.rf
  have hA : ∀ q, jA ad q → jA ad q := fun _ h => h
  have hl : lv_has ls 3 [(0, .ref (ad 55)), (1, .int 4), (2, .int a2)] := hl
  have g2 := jrg t2
  refine lv_iload_n hx hb dX12_putsAs_0 rfl (lv_at hl 1 rfl) ?_
  refine lv_iconst (v := 4) hx hb dX12_putsAs_1 (of_decide_eq_true rfl) ?_
  refine lv_icmp_ne (tgt := 20) hx hb dX12_putsAs_2 (of_decide_eq_true rfl) (fun c => absurd (of_decide_eq_true rfl) c) (fun _ => ?_)
  refine lv_aload_n hx hb dX12_putsAs_5 rfl (lv_at hl 0 rfl) ?_
  refine lv_bipush (v := 50) hx hb dX12_putsAs_6 (of_decide_eq_true rfl) ?_
  refine jcallVv (As := [.int 50]) (rest := []) ⟨hx, hb, hml, hown, hts⟩ hK hP hA hS hZ (c_X12_begins_50_1 l D cI cL ad zz hJ σ τ h55_55) cw_RX12_379 (jc_55 cI cL ad σ τ) rfl ⟨Nat.le_of_ble_eq_true rfl, Nat.le_of_ble_eq_true rfl⟩ rfl rfl rfl hl.1 rfl (Nat.le_of_ble_eq_true rfl) dX12_putsAs_8 ⟨Nat.zero_le _, Nat.zero_le _⟩ (fun σ1 τ1 H locs h1 hP hS => ?_)
  obtain ⟨rfl, f3, f4, f5, m6, m7, h1⟩ := h1
  refine lv_aload_n hx hb dX12_putsAs_11 rfl (lv_at hl 0 rfl) ?_
  refine lv_iconst (v := 1) hx hb dX12_putsAs_12 (of_decide_eq_true rfl) ?_
  refine lv_iload_n hx hb dX12_putsAs_13 rfl (lv_at hl 2 rfl) ?_
  refine lv_iconst (v := 1) hx hb dX12_putsAs_14 (of_decide_eq_true rfl) ?_
  refine lv_iadd hx hb dX12_putsAs_15 ?_
  refine lv_topi (fun x9 ex9 => ?_)
  have gx9 := jrg (rfl : x9.toInt = x9.toInt)
  have z10 : (σ1 55 56).toInt = (σ 55 56).toInt := (congrArg Int32.toInt (show σ1 55 56 = (σ 55 56) from (f4 56 (of_decide_eq_true rfl))))
  exact by
   refine jcallV (As := [.int 1, .int x9]) (rest := []) ⟨hx, hb, hml, hown, hts⟩ hK hP hA hS hZ (c_X12_putsAs_4_1_2 l D cI cL ad zz hJ σ1 τ x9 (x9.toInt) rfl m6 (by omega)) cw_RX12_382 (jc_55 cI cL ad σ1 τ) rfl ⟨Nat.le_of_ble_eq_true rfl, Nat.le_of_ble_eq_true rfl⟩ rfl rfl rfl hl.1 rfl (Nat.le_of_ble_eq_true rfl) dX12_putsAs_16 ⟨Nat.zero_le _, Nat.zero_le _⟩ (fun r12 σ11 τ11 H locs h11 hP hS => ?_)
   obtain ⟨rfl, f13, f14, f15, m16, m17, m18, h11⟩ := h11
   have h20 := h11
   obtain ⟨q22, k21⟩ := h20
   have q22 := q22.symm
   subst q22
   have m23 : σ11 85 1 = 50 := ((f15 1 (of_decide_eq_true rfl)).trans m7)
   exact hret ((x9 + (σ1 55 57)) + 3) σ11 τ _ _ _ _ rfl ⟨rfl, (fun i hi => ((f13 i hi).trans (f3 i hi))), (fun i hi => ((f14 i hi).trans (f4 i hi))), (fun i hi => ((f15 i (imp_313 i hi)).trans (f5 i (imp_355 i hi)))), m16, m23, m17, m18, ⟨(by rw [ex9, (show σ1 55 57 = σ 55 57 from (f4 57 (of_decide_eq_true rfl)))]), trivial⟩⟩ hP hS dX12_putsAs_19
set_option maxHeartbeats 4000000 in
set_option maxRecDepth 100000 in
theorem c_X12_holdsAs_4_4_0 (l : Launch) (D : va_G) (cI cL : ClassId) (ad zz : Nat → Nat) (hJ : jD ad) (σ : Nat → Nat → Int32) (τ : Nat → Nat → Int64) (a2 : Int32) (A2 : Int) (t2 : a2.toInt = A2) (h55_55 : σ 55 55 = 0) (hp0 : (σ 55 56).toInt = 4) : jM l yX12_holdsAs cX12_holdsAs 4 (some .int) ({ frames := 4, cells := 0, slots := 0, locals := 87 }) D cI cL ad zz [.ref (ad 55), .int 4, .int a2] σ τ (fun r σ' τ' => τ = τ' ∧ (∀ i : Nat, (i < 55 ∨ 55 < i) ∧ (i < 85 ∨ 85 < i) → σ' i = σ i) ∧ (∀ k : Nat, (k < 55 ∨ 55 < k) → σ' 55 k = σ 55 k) ∧ (∀ k : Nat, (k < 0 ∨ 0 < k) ∧ (k < 1 ∨ 1 < k) ∧ (k < 2 ∨ 2 < k) ∧ (k < 3 ∨ 3 < k) → σ' 85 k = σ 85 k) ∧ (σ' 55 55 = 4) ∧ (σ' 85 0 = 10) ∧ (σ' 85 1 = 50) ∧ (σ' 85 2 = 20) ∧ (σ' 85 3 = 1) ∧ ((r = ((((a2 + 1) + (σ 55 57)) + 3) * 2) ∧ True))) := by
  refine jM.of hJ (by decide +kernel) (nt := .int) rfl (Nat.le_of_ble_eq_true rfl) ?_
  intro p e s m args below meth c Q ls hC hret hl hP
  obtain ⟨hx, hb, hr, hml, hown, hts, hK, -, hlocks, hZ⟩ := hC
  have hown : s.vm.findClass RX12 = some m.cls := hown
  have hS : va_S (jA ad) s.heap s.heap [] := va_S.rf
  have hA : ∀ q, jA ad q → jA ad q := fun _ h => h
  have hl : lv_has ls 4 [(0, .ref (ad 55)), (1, .int 4), (2, .int a2)] := hl
  have g2 := jrg t2
  refine lv_iload_n hx hb dX12_holdsAs_0 rfl (lv_at hl 1 rfl) ?_
  refine lv_iconst (v := 3) hx hb dX12_holdsAs_1 (of_decide_eq_true rfl) ?_
  refine lv_icmp_eq (tgt := 10) hx hb dX12_holdsAs_2 (of_decide_eq_true rfl) (fun c => absurd c (of_decide_eq_true rfl)) (fun _ => ?_)
  refine lv_iload_n hx hb dX12_holdsAs_5 rfl (lv_at hl 1 rfl) ?_
  refine lv_iconst (v := 5) hx hb dX12_holdsAs_6 (of_decide_eq_true rfl) ?_
  refine lv_icmp_ne (tgt := 24) hx hb dX12_holdsAs_7 (of_decide_eq_true rfl) (fun _ => ?_) (fun c => absurd c (of_decide_eq_true rfl))
  refine lv_iload_n hx hb dX12_holdsAs_24 rfl (lv_at hl 1 rfl) ?_
  refine lv_bipush (v := 6) hx hb dX12_holdsAs_25 (of_decide_eq_true rfl) ?_
  refine lv_icmp_ne (tgt := 55) hx hb dX12_holdsAs_27 (of_decide_eq_true rfl) (fun _ => ?_) (fun c => absurd c (of_decide_eq_true rfl))
  refine lv_aload_n hx hb dX12_holdsAs_55 rfl (lv_at hl 0 rfl) ?_
  refine lv_bipush (v := 10) hx hb dX12_holdsAs_56 (of_decide_eq_true rfl) ?_
  refine jcallVv (As := [.int 10]) (rest := []) ⟨hx, hb, hml, hown, hts⟩ hK hP hA hS hZ (c_X12_begins_10_0 l D cI cL ad zz hJ σ τ h55_55) cw_RX12_379 (jc_55 cI cL ad σ τ) rfl ⟨Nat.le_of_ble_eq_true rfl, Nat.le_of_ble_eq_true rfl⟩ rfl rfl rfl hl.1 rfl (Nat.le_of_ble_eq_true rfl) dX12_holdsAs_58 ⟨Nat.zero_le _, Nat.zero_le _⟩ (fun σ1 τ1 H locs h1 hP hS => ?_)
  obtain ⟨rfl, f3, f4, f5, m6, m7, h1⟩ := h1
  refine lv_aload_n hx hb dX12_holdsAs_61 rfl (lv_at hl 0 rfl) ?_
  refine lv_aload_n hx hb dX12_holdsAs_62 rfl (lv_at hl 0 rfl) ?_
  refine va_get (D := D) hx hb hts inlX12 hown hK hP 55 (jc_55 cI cL ad σ1 τ) rfl 56 (of_decide_eq_true rfl) (hts _ kw_49_8) (fun _ h9 => h9) rfl dX12_holdsAs_63 ?_
  have m9 : σ1 55 56 = (σ 55 56) := (f4 56 (of_decide_eq_true rfl))
  refine jtopr m9 ?_
  exact by
   refine jtopr (jsame (rfl : (σ 55 56).toInt = (σ 55 56).toInt) jz_4 (by omega)) ?_
   refine lv_iload_n hx hb dX12_holdsAs_66 rfl (lv_at hl 2 rfl) ?_
   have z10 : (σ1 55 56).toInt = (σ 55 56).toInt := (congrArg Int32.toInt (show σ1 55 56 = (σ 55 56) from m9))
   refine jcallV (As := [.int 4, .int a2]) (rest := []) ⟨hx, hb, hml, hown, hts⟩ hK hP hA hS hZ (c_X12_putsAs_4_4_1 l D cI cL ad zz hJ σ1 τ a2 (A2) t2 m6 (by omega)) cw_RX12_382 (jc_55 cI cL ad σ1 τ) rfl ⟨Nat.le_of_ble_eq_true rfl, Nat.le_of_ble_eq_true rfl⟩ rfl rfl rfl hl.1 rfl (Nat.le_of_ble_eq_true rfl) dX12_holdsAs_67 ⟨Nat.zero_le _, Nat.zero_le _⟩ (fun r12 σ11 τ11 H locs h11 hP hS => ?_)
   obtain ⟨rfl, f13, f14, f15, m16, m17, m18, m19, h11⟩ := h11
   have h21 := h11
   obtain ⟨q23, k22⟩ := h21
   have q23 := q23.symm
   subst q23
   exact by
    refine lv_iconst (v := 2) hx hb dX12_holdsAs_70 (of_decide_eq_true rfl) ?_
    have g24 := jrg (rfl : (((a2 + 1) + (σ1 55 57)) + 3).toInt = (((a2 + 1) + (σ1 55 57)) + 3).toInt)
    refine lv_imul hx hb dX12_holdsAs_71 ?_
    refine lv_topi (fun x25 ex25 => ?_)
    have gx25 := jrg (rfl : x25.toInt = x25.toInt)
    have m26 : σ11 85 0 = 10 := ((f15 0 (of_decide_eq_true rfl)).trans m7)
    exact hret x25 σ11 τ _ _ _ _ rfl ⟨rfl, (fun i hi => ((f13 i hi).trans (f3 i hi))), (fun i hi => ((f14 i hi).trans (f4 i hi))), (fun i hi => ((f15 i (imp_327 i hi)).trans (f5 i (imp_353 i hi)))), m16, m26, m17, m18, m19, ⟨(by rw [ex25, (show σ1 55 57 = σ 55 57 from (f4 57 (of_decide_eq_true rfl)))]), trivial⟩⟩ hP hS dX12_holdsAs_72
set_option maxHeartbeats 4000000 in
set_option maxRecDepth 100000 in
theorem c_X12_givesAs_4_4_0 (l : Launch) (D : va_G) (cI cL : ClassId) (ad zz : Nat → Nat) (hJ : jD ad) (σ : Nat → Nat → Int32) (τ : Nat → Nat → Int64) (a2 : Int32) (A2 : Int) (t2 : a2.toInt = A2) (h55_55 : σ 55 55 = 0) (hp0 : (σ 55 56).toInt = 4) : jM l yX12_givesAs cX12_givesAs 4 (some .int) ({ frames := 1, cells := 0, slots := 0, locals := 21 }) D cI cL ad zz [.ref (ad 55), .int 4, .int a2] σ τ (fun r σ' τ' => τ = τ' ∧ (∀ i : Nat, (i < 55 ∨ 55 < i) ∧ (i < 85 ∨ 85 < i) → σ' i = σ i) ∧ (∀ k : Nat, (k < 55 ∨ 55 < k) → σ' 55 k = σ 55 k) ∧ (∀ k : Nat, (k < 0 ∨ 0 < k) → σ' 85 k = σ 85 k) ∧ (σ' 55 55 = 1) ∧ (σ' 85 0 = 11) ∧ ((r = (a2 ^^^ (σ 55 57)) ∧ True))) := by
  refine jM.of hJ (by decide +kernel) (nt := .int) rfl (Nat.le_of_ble_eq_true rfl) ?_
  intro p e s m args below meth c Q ls hC hret hl hP
  obtain ⟨hx, hb, hr, hml, hown, hts, hK, -, hlocks, hZ⟩ := hC
  have hown : s.vm.findClass RX12 = some m.cls := hown
  have hS : va_S (jA ad) s.heap s.heap [] := va_S.rf
  have hA : ∀ q, jA ad q → jA ad q := fun _ h => h
  have hl : lv_has ls 4 [(0, .ref (ad 55)), (1, .int 4), (2, .int a2)] := hl
  have g2 := jrg t2
  refine lv_iload_n hx hb dX12_givesAs_0 rfl (lv_at hl 1 rfl) ?_
  refine lv_iconst (v := 5) hx hb dX12_givesAs_1 (of_decide_eq_true rfl) ?_
  refine lv_icmp_ne (tgt := 30) hx hb dX12_givesAs_2 (of_decide_eq_true rfl) (fun _ => ?_) (fun c => absurd c (of_decide_eq_true rfl))
  refine lv_iload_n hx hb dX12_givesAs_30 rfl (lv_at hl 1 rfl) ?_
  refine lv_iconst (v := 2) hx hb dX12_givesAs_31 (of_decide_eq_true rfl) ?_
  refine lv_icmp_eq (tgt := 40) hx hb dX12_givesAs_32 (of_decide_eq_true rfl) (fun c => absurd c (of_decide_eq_true rfl)) (fun _ => ?_)
  refine lv_iload_n hx hb dX12_givesAs_35 rfl (lv_at hl 1 rfl) ?_
  refine lv_iconst (v := 3) hx hb dX12_givesAs_36 (of_decide_eq_true rfl) ?_
  refine lv_icmp_ne (tgt := 55) hx hb dX12_givesAs_37 (of_decide_eq_true rfl) (fun _ => ?_) (fun c => absurd c (of_decide_eq_true rfl))
  refine lv_aload_n hx hb dX12_givesAs_55 rfl (lv_at hl 0 rfl) ?_
  refine lv_bipush (v := 11) hx hb dX12_givesAs_56 (of_decide_eq_true rfl) ?_
  refine jcallVv (As := [.int 11]) (rest := []) ⟨hx, hb, hml, hown, hts⟩ hK hP hA hS hZ (c_X12_begins_11_0 l D cI cL ad zz hJ σ τ h55_55) cw_RX12_379 (jc_55 cI cL ad σ τ) rfl ⟨Nat.le_of_ble_eq_true rfl, Nat.le_of_ble_eq_true rfl⟩ rfl rfl rfl hl.1 rfl (Nat.le_of_ble_eq_true rfl) dX12_givesAs_58 ⟨Nat.zero_le _, Nat.zero_le _⟩ (fun σ1 τ1 H locs h1 hP hS => ?_)
  obtain ⟨rfl, f3, f4, f5, m6, m7, h1⟩ := h1
  refine lv_iload_n hx hb dX12_givesAs_61 rfl (lv_at hl 2 rfl) ?_
  refine lv_aload_n hx hb dX12_givesAs_62 rfl (lv_at hl 0 rfl) ?_
  refine va_get (D := D) hx hb hts inlX12 hown hK hP 55 (jc_55 cI cL ad σ1 τ) rfl 57 (of_decide_eq_true rfl) (hts _ kw_49_9) (fun _ h9 => h9) rfl dX12_givesAs_63 ?_
  have m9 : σ1 55 57 = (σ 55 57) := (f4 57 (of_decide_eq_true rfl))
  refine jtopr m9 ?_
  refine lv_ixor hx hb dX12_givesAs_66 ?_
  refine lv_topi (fun x10 ex10 => ?_)
  have gx10 := jrg (rfl : x10.toInt = x10.toInt)
  exact hret x10 σ1 τ _ _ _ _ rfl ⟨rfl, (fun i hi => (f3 i hi)), (fun i hi => (f4 i hi)), (fun i hi => (f5 i hi)), m6, m7, ⟨(by rw [ex10]), trivial⟩⟩ hP hS dX12_givesAs_67
set_option maxHeartbeats 4000000 in
set_option maxRecDepth 100000 in
theorem c_X12_begins_51_0 (l : Launch) (D : va_G) (cI cL : ClassId) (ad zz : Nat → Nat) (hJ : jD ad) (σ : Nat → Nat → Int32) (τ : Nat → Nat → Int64) (h55_55 : σ 55 55 = 0) : jMv l yX12_begins cX12_begins 2 none ({ frames := 0, cells := 0, slots := 0, locals := 0 }) D cI cL ad zz [.ref (ad 55), .int 51] σ τ (fun σ' τ' => τ = τ' ∧ (∀ i : Nat, (i < 55 ∨ 55 < i) ∧ (i < 85 ∨ 85 < i) → σ' i = σ i) ∧ (∀ k : Nat, (k < 55 ∨ 55 < k) → σ' 55 k = σ 55 k) ∧ (∀ k : Nat, (k < 0 ∨ 0 < k) → σ' 85 k = σ 85 k) ∧ (σ' 55 55 = 1) ∧ (σ' 85 0 = 51) ∧ True) := by
  refine jMv.of hJ (by decide +kernel) rfl (Nat.le_of_ble_eq_true rfl) ?_
  intro p e s m args below meth c Q ls hC hret hl hP
  obtain ⟨hx, hb, hr, hml, hown, hts, hK, -, hlocks, hZ⟩ := hC
  have hown : s.vm.findClass RX12 = some m.cls := hown
  have hS : va_S (jA ad) s.heap s.heap [] := va_S.rf
  have hA : ∀ q, jA ad q → jA ad q := fun _ h => h
  have hl : lv_has ls 2 [(0, .ref (ad 55)), (1, .int 51)] := hl
  refine lv_aload_n hx hb dX12_begins_0 rfl (lv_at hl 0 rfl) ?_
  refine va_get (D := D) hx hb hts inlX12 hown hK hP 55 (jc_55 cI cL ad σ τ) rfl 55 (of_decide_eq_true rfl) (hts _ kw_49_7) (fun _ h9 => h9) rfl dX12_begins_1 ?_
  refine jtopr h55_55 ?_
  refine lv_bipush (v := 24) hx hb dX12_begins_4 (of_decide_eq_true rfl) ?_
  refine lv_icmp_ge (tgt := 19) hx hb dX12_begins_6 (of_decide_eq_true rfl) (fun c => absurd c (of_decide_eq_true rfl)) (fun _ => ?_)
  refine lv_aload_n hx hb dX12_begins_9 rfl (lv_at hl 0 rfl) ?_
  refine va_get (D := D) hx hb hts inlX12 hown hK hP 55 (jc_55 cI cL ad σ τ) rfl 54 (of_decide_eq_true rfl) (hts _ kw_8_10) (fun _ h9 => h9) rfl dX12_begins_10 ?_
  refine lv_aload_n hx hb dX12_begins_13 rfl (lv_at hl 0 rfl) ?_
  refine va_get (D := D) hx hb hts inlX12 hown hK hP 55 (jc_55 cI cL ad σ τ) rfl 55 (of_decide_eq_true rfl) (hts _ kw_49_7) (fun _ h9 => h9) rfl dX12_begins_14 ?_
  refine jtopr h55_55 ?_
  refine lv_iload_n hx hb dX12_begins_17 rfl (lv_at hl 1 rfl) ?_
  exact by
   refine jast hx hb hK hP hJ hA hS (jc_85 cI cL ad σ τ) (ja_85 cI cL ad σ τ _ _) (jin jz_0 (by omega) (by omega)) dX12_begins_18 (fun σ1 H locs eσ1 hP hS => ?_)
   have eσ1 : σ1 = jup σ 85 0 51 := eσ1
   refine lv_aload_n hx hb dX12_begins_19 rfl (lv_at hl 0 rfl) ?_
   refine lv_dup hx hb dX12_begins_20 rfl ?_
   refine va_get (D := D) hx hb hts inlX12 hown hK hP 55 (jc_55 cI cL ad σ1 τ) rfl 55 (of_decide_eq_true rfl) (hts _ kw_49_7) (fun _ h9 => h9) rfl dX12_begins_21 ?_
   have m2 : σ1 55 55 = 0 := ((congrFun (jnp 55 eσ1 (of_decide_eq_true rfl)) 55).trans h55_55)
   refine jtopr m2 ?_
   refine lv_iconst (v := 1) hx hb dX12_begins_24 (of_decide_eq_true rfl) ?_
   refine lv_iadd hx hb dX12_begins_25 ?_
   refine jtopr (y := 1) (of_decide_eq_true rfl) ?_
   refine jput (ty := .int) hx hb hts inlX12 tyX12 tyX12_ok nmX12 hown hK hP hJ hA hS (jc_55 cI cL ad σ1 τ) rfl (k := 55) (of_decide_eq_true rfl) (Nat.le_of_ble_eq_true rfl) (jp_55_55 cI cL ad σ1 τ 1) (hts _ kw_49_7) (fun _ h9 => h9) rfl (by decide +kernel) rfl rfl dX12_begins_26 (fun σ3 H locs eσ3 hP hS => ?_)
   have m4 : σ3 55 55 = 1 := (jsp eσ3)
   have m5 : σ3 85 0 = 51 := ((congrFun (jnp 85 eσ3 (of_decide_eq_true rfl)) 0).trans (jsp eσ1))
   exact hret σ3 τ _ _ _ _ ⟨rfl, (fun i hi => ((jnp i eσ3 (imp_350 i hi)).trans (jnp i eσ1 (imp_351 i hi)))), (fun i hi => ((jkp i eσ3 (imp_165 i hi)).trans (congrFun (jnp 55 eσ1 (of_decide_eq_true rfl)) i))), (fun i hi => ((congrFun (jnp 85 eσ3 (of_decide_eq_true rfl)) i).trans (jkp i eσ1 (imp_4 i hi)))), m4, m5, trivial⟩ hP hS dX12_begins_29
set_option maxHeartbeats 4000000 in
set_option maxRecDepth 100000 in
theorem c_X12_begins_2_1 (l : Launch) (D : va_G) (cI cL : ClassId) (ad zz : Nat → Nat) (hJ : jD ad) (σ : Nat → Nat → Int32) (τ : Nat → Nat → Int64) (h55_55 : σ 55 55 = 1) : jMv l yX12_begins cX12_begins 2 none ({ frames := 0, cells := 0, slots := 0, locals := 0 }) D cI cL ad zz [.ref (ad 55), .int 2] σ τ (fun σ' τ' => τ = τ' ∧ (∀ i : Nat, (i < 55 ∨ 55 < i) ∧ (i < 85 ∨ 85 < i) → σ' i = σ i) ∧ (∀ k : Nat, (k < 55 ∨ 55 < k) → σ' 55 k = σ 55 k) ∧ (∀ k : Nat, (k < 1 ∨ 1 < k) → σ' 85 k = σ 85 k) ∧ (σ' 55 55 = 2) ∧ (σ' 85 1 = 2) ∧ True) := by
  refine jMv.of hJ (by decide +kernel) rfl (Nat.le_of_ble_eq_true rfl) ?_
  intro p e s m args below meth c Q ls hC hret hl hP
  obtain ⟨hx, hb, hr, hml, hown, hts, hK, -, hlocks, hZ⟩ := hC
  have hown : s.vm.findClass RX12 = some m.cls := hown
  have hS : va_S (jA ad) s.heap s.heap [] := va_S.rf
  have hA : ∀ q, jA ad q → jA ad q := fun _ h => h
  have hl : lv_has ls 2 [(0, .ref (ad 55)), (1, .int 2)] := hl
  refine lv_aload_n hx hb dX12_begins_0 rfl (lv_at hl 0 rfl) ?_
  refine va_get (D := D) hx hb hts inlX12 hown hK hP 55 (jc_55 cI cL ad σ τ) rfl 55 (of_decide_eq_true rfl) (hts _ kw_49_7) (fun _ h9 => h9) rfl dX12_begins_1 ?_
  refine jtopr h55_55 ?_
  refine lv_bipush (v := 24) hx hb dX12_begins_4 (of_decide_eq_true rfl) ?_
  refine lv_icmp_ge (tgt := 19) hx hb dX12_begins_6 (of_decide_eq_true rfl) (fun c => absurd c (of_decide_eq_true rfl)) (fun _ => ?_)
  refine lv_aload_n hx hb dX12_begins_9 rfl (lv_at hl 0 rfl) ?_
  refine va_get (D := D) hx hb hts inlX12 hown hK hP 55 (jc_55 cI cL ad σ τ) rfl 54 (of_decide_eq_true rfl) (hts _ kw_8_10) (fun _ h9 => h9) rfl dX12_begins_10 ?_
  refine lv_aload_n hx hb dX12_begins_13 rfl (lv_at hl 0 rfl) ?_
  refine va_get (D := D) hx hb hts inlX12 hown hK hP 55 (jc_55 cI cL ad σ τ) rfl 55 (of_decide_eq_true rfl) (hts _ kw_49_7) (fun _ h9 => h9) rfl dX12_begins_14 ?_
  refine jtopr h55_55 ?_
  refine lv_iload_n hx hb dX12_begins_17 rfl (lv_at hl 1 rfl) ?_
  exact by
   refine jast hx hb hK hP hJ hA hS (jc_85 cI cL ad σ τ) (ja_85 cI cL ad σ τ _ _) (jin jz_1 (by omega) (by omega)) dX12_begins_18 (fun σ1 H locs eσ1 hP hS => ?_)
   have eσ1 : σ1 = jup σ 85 1 2 := eσ1
   refine lv_aload_n hx hb dX12_begins_19 rfl (lv_at hl 0 rfl) ?_
   refine lv_dup hx hb dX12_begins_20 rfl ?_
   refine va_get (D := D) hx hb hts inlX12 hown hK hP 55 (jc_55 cI cL ad σ1 τ) rfl 55 (of_decide_eq_true rfl) (hts _ kw_49_7) (fun _ h9 => h9) rfl dX12_begins_21 ?_
   have m2 : σ1 55 55 = 1 := ((congrFun (jnp 55 eσ1 (of_decide_eq_true rfl)) 55).trans h55_55)
   refine jtopr m2 ?_
   refine lv_iconst (v := 1) hx hb dX12_begins_24 (of_decide_eq_true rfl) ?_
   refine lv_iadd hx hb dX12_begins_25 ?_
   refine jtopr (y := 2) (of_decide_eq_true rfl) ?_
   refine jput (ty := .int) hx hb hts inlX12 tyX12 tyX12_ok nmX12 hown hK hP hJ hA hS (jc_55 cI cL ad σ1 τ) rfl (k := 55) (of_decide_eq_true rfl) (Nat.le_of_ble_eq_true rfl) (jp_55_55 cI cL ad σ1 τ 2) (hts _ kw_49_7) (fun _ h9 => h9) rfl (by decide +kernel) rfl rfl dX12_begins_26 (fun σ3 H locs eσ3 hP hS => ?_)
   have m4 : σ3 55 55 = 2 := (jsp eσ3)
   have m5 : σ3 85 1 = 2 := ((congrFun (jnp 85 eσ3 (of_decide_eq_true rfl)) 1).trans (jsp eσ1))
   exact hret σ3 τ _ _ _ _ ⟨rfl, (fun i hi => ((jnp i eσ3 (imp_350 i hi)).trans (jnp i eσ1 (imp_351 i hi)))), (fun i hi => ((jkp i eσ3 (imp_165 i hi)).trans (congrFun (jnp 55 eσ1 (of_decide_eq_true rfl)) i))), (fun i hi => ((congrFun (jnp 85 eσ3 (of_decide_eq_true rfl)) i).trans (jkp i eσ1 (imp_42 i hi)))), m4, m5, trivial⟩ hP hS dX12_begins_29
set_option maxHeartbeats 4000000 in
set_option maxRecDepth 100000 in
theorem c_X12_begins_50_3 (l : Launch) (D : va_G) (cI cL : ClassId) (ad zz : Nat → Nat) (hJ : jD ad) (σ : Nat → Nat → Int32) (τ : Nat → Nat → Int64) (h55_55 : σ 55 55 = 3) : jMv l yX12_begins cX12_begins 2 none ({ frames := 0, cells := 0, slots := 0, locals := 0 }) D cI cL ad zz [.ref (ad 55), .int 50] σ τ (fun σ' τ' => τ = τ' ∧ (∀ i : Nat, (i < 55 ∨ 55 < i) ∧ (i < 85 ∨ 85 < i) → σ' i = σ i) ∧ (∀ k : Nat, (k < 55 ∨ 55 < k) → σ' 55 k = σ 55 k) ∧ (∀ k : Nat, (k < 3 ∨ 3 < k) → σ' 85 k = σ 85 k) ∧ (σ' 55 55 = 4) ∧ (σ' 85 3 = 50) ∧ True) := by
  refine jMv.of hJ (by decide +kernel) rfl (Nat.le_of_ble_eq_true rfl) ?_
  intro p e s m args below meth c Q ls hC hret hl hP
  obtain ⟨hx, hb, hr, hml, hown, hts, hK, -, hlocks, hZ⟩ := hC
  have hown : s.vm.findClass RX12 = some m.cls := hown
  have hS : va_S (jA ad) s.heap s.heap [] := va_S.rf
  have hA : ∀ q, jA ad q → jA ad q := fun _ h => h
  have hl : lv_has ls 2 [(0, .ref (ad 55)), (1, .int 50)] := hl
  refine lv_aload_n hx hb dX12_begins_0 rfl (lv_at hl 0 rfl) ?_
  refine va_get (D := D) hx hb hts inlX12 hown hK hP 55 (jc_55 cI cL ad σ τ) rfl 55 (of_decide_eq_true rfl) (hts _ kw_49_7) (fun _ h9 => h9) rfl dX12_begins_1 ?_
  refine jtopr h55_55 ?_
  refine lv_bipush (v := 24) hx hb dX12_begins_4 (of_decide_eq_true rfl) ?_
  refine lv_icmp_ge (tgt := 19) hx hb dX12_begins_6 (of_decide_eq_true rfl) (fun c => absurd c (of_decide_eq_true rfl)) (fun _ => ?_)
  refine lv_aload_n hx hb dX12_begins_9 rfl (lv_at hl 0 rfl) ?_
  refine va_get (D := D) hx hb hts inlX12 hown hK hP 55 (jc_55 cI cL ad σ τ) rfl 54 (of_decide_eq_true rfl) (hts _ kw_8_10) (fun _ h9 => h9) rfl dX12_begins_10 ?_
  refine lv_aload_n hx hb dX12_begins_13 rfl (lv_at hl 0 rfl) ?_
  refine va_get (D := D) hx hb hts inlX12 hown hK hP 55 (jc_55 cI cL ad σ τ) rfl 55 (of_decide_eq_true rfl) (hts _ kw_49_7) (fun _ h9 => h9) rfl dX12_begins_14 ?_
  refine jtopr h55_55 ?_
  refine lv_iload_n hx hb dX12_begins_17 rfl (lv_at hl 1 rfl) ?_
  exact by
   refine jast hx hb hK hP hJ hA hS (jc_85 cI cL ad σ τ) (ja_85 cI cL ad σ τ _ _) (jin jz_3 (by omega) (by omega)) dX12_begins_18 (fun σ1 H locs eσ1 hP hS => ?_)
   have eσ1 : σ1 = jup σ 85 3 50 := eσ1
   refine lv_aload_n hx hb dX12_begins_19 rfl (lv_at hl 0 rfl) ?_
   refine lv_dup hx hb dX12_begins_20 rfl ?_
   refine va_get (D := D) hx hb hts inlX12 hown hK hP 55 (jc_55 cI cL ad σ1 τ) rfl 55 (of_decide_eq_true rfl) (hts _ kw_49_7) (fun _ h9 => h9) rfl dX12_begins_21 ?_
   have m2 : σ1 55 55 = 3 := ((congrFun (jnp 55 eσ1 (of_decide_eq_true rfl)) 55).trans h55_55)
   refine jtopr m2 ?_
   refine lv_iconst (v := 1) hx hb dX12_begins_24 (of_decide_eq_true rfl) ?_
   refine lv_iadd hx hb dX12_begins_25 ?_
   refine jtopr (y := 4) (of_decide_eq_true rfl) ?_
   refine jput (ty := .int) hx hb hts inlX12 tyX12 tyX12_ok nmX12 hown hK hP hJ hA hS (jc_55 cI cL ad σ1 τ) rfl (k := 55) (of_decide_eq_true rfl) (Nat.le_of_ble_eq_true rfl) (jp_55_55 cI cL ad σ1 τ 4) (hts _ kw_49_7) (fun _ h9 => h9) rfl (by decide +kernel) rfl rfl dX12_begins_26 (fun σ3 H locs eσ3 hP hS => ?_)
   have m4 : σ3 55 55 = 4 := (jsp eσ3)
   have m5 : σ3 85 3 = 50 := ((congrFun (jnp 85 eσ3 (of_decide_eq_true rfl)) 3).trans (jsp eσ1))
   exact hret σ3 τ _ _ _ _ ⟨rfl, (fun i hi => ((jnp i eσ3 (imp_350 i hi)).trans (jnp i eσ1 (imp_351 i hi)))), (fun i hi => ((jkp i eσ3 (imp_165 i hi)).trans (congrFun (jnp 55 eσ1 (of_decide_eq_true rfl)) i))), (fun i hi => ((congrFun (jnp 85 eσ3 (of_decide_eq_true rfl)) i).trans (jkp i eσ1 (imp_308 i hi)))), m4, m5, trivial⟩ hP hS dX12_begins_29
set_option maxHeartbeats 4000000 in
set_option maxRecDepth 100000 in
theorem c_X12_begins_20_4 (l : Launch) (D : va_G) (cI cL : ClassId) (ad zz : Nat → Nat) (hJ : jD ad) (σ : Nat → Nat → Int32) (τ : Nat → Nat → Int64) (h55_55 : σ 55 55 = 4) : jMv l yX12_begins cX12_begins 2 none ({ frames := 0, cells := 0, slots := 0, locals := 0 }) D cI cL ad zz [.ref (ad 55), .int 20] σ τ (fun σ' τ' => τ = τ' ∧ (∀ i : Nat, (i < 55 ∨ 55 < i) ∧ (i < 85 ∨ 85 < i) → σ' i = σ i) ∧ (∀ k : Nat, (k < 55 ∨ 55 < k) → σ' 55 k = σ 55 k) ∧ (∀ k : Nat, (k < 4 ∨ 4 < k) → σ' 85 k = σ 85 k) ∧ (σ' 55 55 = 5) ∧ (σ' 85 4 = 20) ∧ True) := by
  refine jMv.of hJ (by decide +kernel) rfl (Nat.le_of_ble_eq_true rfl) ?_
  intro p e s m args below meth c Q ls hC hret hl hP
  obtain ⟨hx, hb, hr, hml, hown, hts, hK, -, hlocks, hZ⟩ := hC
  have hown : s.vm.findClass RX12 = some m.cls := hown
  have hS : va_S (jA ad) s.heap s.heap [] := va_S.rf
  have hA : ∀ q, jA ad q → jA ad q := fun _ h => h
  have hl : lv_has ls 2 [(0, .ref (ad 55)), (1, .int 20)] := hl
  refine lv_aload_n hx hb dX12_begins_0 rfl (lv_at hl 0 rfl) ?_
  refine va_get (D := D) hx hb hts inlX12 hown hK hP 55 (jc_55 cI cL ad σ τ) rfl 55 (of_decide_eq_true rfl) (hts _ kw_49_7) (fun _ h9 => h9) rfl dX12_begins_1 ?_
  refine jtopr h55_55 ?_
  refine lv_bipush (v := 24) hx hb dX12_begins_4 (of_decide_eq_true rfl) ?_
  refine lv_icmp_ge (tgt := 19) hx hb dX12_begins_6 (of_decide_eq_true rfl) (fun c => absurd c (of_decide_eq_true rfl)) (fun _ => ?_)
  refine lv_aload_n hx hb dX12_begins_9 rfl (lv_at hl 0 rfl) ?_
  refine va_get (D := D) hx hb hts inlX12 hown hK hP 55 (jc_55 cI cL ad σ τ) rfl 54 (of_decide_eq_true rfl) (hts _ kw_8_10) (fun _ h9 => h9) rfl dX12_begins_10 ?_
  refine lv_aload_n hx hb dX12_begins_13 rfl (lv_at hl 0 rfl) ?_
  refine va_get (D := D) hx hb hts inlX12 hown hK hP 55 (jc_55 cI cL ad σ τ) rfl 55 (of_decide_eq_true rfl) (hts _ kw_49_7) (fun _ h9 => h9) rfl dX12_begins_14 ?_
  refine jtopr h55_55 ?_
  refine lv_iload_n hx hb dX12_begins_17 rfl (lv_at hl 1 rfl) ?_
  exact by
   refine jast hx hb hK hP hJ hA hS (jc_85 cI cL ad σ τ) (ja_85 cI cL ad σ τ _ _) (jin jz_4 (by omega) (by omega)) dX12_begins_18 (fun σ1 H locs eσ1 hP hS => ?_)
   have eσ1 : σ1 = jup σ 85 4 20 := eσ1
   refine lv_aload_n hx hb dX12_begins_19 rfl (lv_at hl 0 rfl) ?_
   refine lv_dup hx hb dX12_begins_20 rfl ?_
   refine va_get (D := D) hx hb hts inlX12 hown hK hP 55 (jc_55 cI cL ad σ1 τ) rfl 55 (of_decide_eq_true rfl) (hts _ kw_49_7) (fun _ h9 => h9) rfl dX12_begins_21 ?_
   have m2 : σ1 55 55 = 4 := ((congrFun (jnp 55 eσ1 (of_decide_eq_true rfl)) 55).trans h55_55)
   refine jtopr m2 ?_
   refine lv_iconst (v := 1) hx hb dX12_begins_24 (of_decide_eq_true rfl) ?_
   refine lv_iadd hx hb dX12_begins_25 ?_
   refine jtopr (y := 5) (of_decide_eq_true rfl) ?_
   refine jput (ty := .int) hx hb hts inlX12 tyX12 tyX12_ok nmX12 hown hK hP hJ hA hS (jc_55 cI cL ad σ1 τ) rfl (k := 55) (of_decide_eq_true rfl) (Nat.le_of_ble_eq_true rfl) (jp_55_55 cI cL ad σ1 τ 5) (hts _ kw_49_7) (fun _ h9 => h9) rfl (by decide +kernel) rfl rfl dX12_begins_26 (fun σ3 H locs eσ3 hP hS => ?_)
   have m4 : σ3 55 55 = 5 := (jsp eσ3)
   have m5 : σ3 85 4 = 20 := ((congrFun (jnp 85 eσ3 (of_decide_eq_true rfl)) 4).trans (jsp eσ1))
   exact hret σ3 τ _ _ _ _ ⟨rfl, (fun i hi => ((jnp i eσ3 (imp_350 i hi)).trans (jnp i eσ1 (imp_351 i hi)))), (fun i hi => ((jkp i eσ3 (imp_165 i hi)).trans (congrFun (jnp 55 eσ1 (of_decide_eq_true rfl)) i))), (fun i hi => ((congrFun (jnp 85 eσ3 (of_decide_eq_true rfl)) i).trans (jkp i eσ1 (imp_315 i hi)))), m4, m5, trivial⟩ hP hS dX12_begins_29
set_option maxHeartbeats 4000000 in
set_option maxRecDepth 100000 in
theorem c_X12_begins_1_5 (l : Launch) (D : va_G) (cI cL : ClassId) (ad zz : Nat → Nat) (hJ : jD ad) (σ : Nat → Nat → Int32) (τ : Nat → Nat → Int64) (h55_55 : σ 55 55 = 5) : jMv l yX12_begins cX12_begins 2 none ({ frames := 0, cells := 0, slots := 0, locals := 0 }) D cI cL ad zz [.ref (ad 55), .int 1] σ τ (fun σ' τ' => τ = τ' ∧ (∀ i : Nat, (i < 55 ∨ 55 < i) ∧ (i < 85 ∨ 85 < i) → σ' i = σ i) ∧ (∀ k : Nat, (k < 55 ∨ 55 < k) → σ' 55 k = σ 55 k) ∧ (∀ k : Nat, (k < 5 ∨ 5 < k) → σ' 85 k = σ 85 k) ∧ (σ' 55 55 = 6) ∧ (σ' 85 5 = 1) ∧ True) := by
  refine jMv.of hJ (by decide +kernel) rfl (Nat.le_of_ble_eq_true rfl) ?_
  intro p e s m args below meth c Q ls hC hret hl hP
  obtain ⟨hx, hb, hr, hml, hown, hts, hK, -, hlocks, hZ⟩ := hC
  have hown : s.vm.findClass RX12 = some m.cls := hown
  have hS : va_S (jA ad) s.heap s.heap [] := va_S.rf
  have hA : ∀ q, jA ad q → jA ad q := fun _ h => h
  have hl : lv_has ls 2 [(0, .ref (ad 55)), (1, .int 1)] := hl
  refine lv_aload_n hx hb dX12_begins_0 rfl (lv_at hl 0 rfl) ?_
  refine va_get (D := D) hx hb hts inlX12 hown hK hP 55 (jc_55 cI cL ad σ τ) rfl 55 (of_decide_eq_true rfl) (hts _ kw_49_7) (fun _ h9 => h9) rfl dX12_begins_1 ?_
  refine jtopr h55_55 ?_
  refine lv_bipush (v := 24) hx hb dX12_begins_4 (of_decide_eq_true rfl) ?_
  refine lv_icmp_ge (tgt := 19) hx hb dX12_begins_6 (of_decide_eq_true rfl) (fun c => absurd c (of_decide_eq_true rfl)) (fun _ => ?_)
  refine lv_aload_n hx hb dX12_begins_9 rfl (lv_at hl 0 rfl) ?_
  refine va_get (D := D) hx hb hts inlX12 hown hK hP 55 (jc_55 cI cL ad σ τ) rfl 54 (of_decide_eq_true rfl) (hts _ kw_8_10) (fun _ h9 => h9) rfl dX12_begins_10 ?_
  refine lv_aload_n hx hb dX12_begins_13 rfl (lv_at hl 0 rfl) ?_
  refine va_get (D := D) hx hb hts inlX12 hown hK hP 55 (jc_55 cI cL ad σ τ) rfl 55 (of_decide_eq_true rfl) (hts _ kw_49_7) (fun _ h9 => h9) rfl dX12_begins_14 ?_
  refine jtopr h55_55 ?_
  refine lv_iload_n hx hb dX12_begins_17 rfl (lv_at hl 1 rfl) ?_
  exact by
   refine jast hx hb hK hP hJ hA hS (jc_85 cI cL ad σ τ) (ja_85 cI cL ad σ τ _ _) (jin jz_5 (by omega) (by omega)) dX12_begins_18 (fun σ1 H locs eσ1 hP hS => ?_)
   have eσ1 : σ1 = jup σ 85 5 1 := eσ1
   refine lv_aload_n hx hb dX12_begins_19 rfl (lv_at hl 0 rfl) ?_
   refine lv_dup hx hb dX12_begins_20 rfl ?_
   refine va_get (D := D) hx hb hts inlX12 hown hK hP 55 (jc_55 cI cL ad σ1 τ) rfl 55 (of_decide_eq_true rfl) (hts _ kw_49_7) (fun _ h9 => h9) rfl dX12_begins_21 ?_
   have m2 : σ1 55 55 = 5 := ((congrFun (jnp 55 eσ1 (of_decide_eq_true rfl)) 55).trans h55_55)
   refine jtopr m2 ?_
   refine lv_iconst (v := 1) hx hb dX12_begins_24 (of_decide_eq_true rfl) ?_
   refine lv_iadd hx hb dX12_begins_25 ?_
   refine jtopr (y := 6) (of_decide_eq_true rfl) ?_
   refine jput (ty := .int) hx hb hts inlX12 tyX12 tyX12_ok nmX12 hown hK hP hJ hA hS (jc_55 cI cL ad σ1 τ) rfl (k := 55) (of_decide_eq_true rfl) (Nat.le_of_ble_eq_true rfl) (jp_55_55 cI cL ad σ1 τ 6) (hts _ kw_49_7) (fun _ h9 => h9) rfl (by decide +kernel) rfl rfl dX12_begins_26 (fun σ3 H locs eσ3 hP hS => ?_)
   have m4 : σ3 55 55 = 6 := (jsp eσ3)
   have m5 : σ3 85 5 = 1 := ((congrFun (jnp 85 eσ3 (of_decide_eq_true rfl)) 5).trans (jsp eσ1))
   exact hret σ3 τ _ _ _ _ ⟨rfl, (fun i hi => ((jnp i eσ3 (imp_350 i hi)).trans (jnp i eσ1 (imp_351 i hi)))), (fun i hi => ((jkp i eσ3 (imp_165 i hi)).trans (congrFun (jnp 55 eσ1 (of_decide_eq_true rfl)) i))), (fun i hi => ((congrFun (jnp 85 eσ3 (of_decide_eq_true rfl)) i).trans (jkp i eσ1 (imp_159 i hi)))), m4, m5, trivial⟩ hP hS dX12_begins_29
set_option maxHeartbeats 4000000 in
set_option maxRecDepth 100000 in
theorem c_X12_putsAs_4_0_5 (l : Launch) (D : va_G) (cI cL : ClassId) (ad zz : Nat → Nat) (hJ : jD ad) (σ : Nat → Nat → Int32) (τ : Nat → Nat → Int64) (a2 : Int32) (A2 : Int) (t2 : a2.toInt = A2) (h55_55 : σ 55 55 = 5) (hp0 : (σ 55 56).toInt = 4) : jM l yX12_putsAs cX12_putsAs 3 (some .int) ({ frames := 1, cells := 0, slots := 0, locals := 21 }) D cI cL ad zz [.ref (ad 55), .int 0, .int a2] σ τ (fun r σ' τ' => τ = τ' ∧ (∀ i : Nat, (i < 55 ∨ 55 < i) ∧ (i < 85 ∨ 85 < i) → σ' i = σ i) ∧ (∀ k : Nat, (k < 55 ∨ 55 < k) → σ' 55 k = σ 55 k) ∧ (∀ k : Nat, (k < 5 ∨ 5 < k) → σ' 85 k = σ 85 k) ∧ (σ' 55 55 = 6) ∧ (σ' 85 5 = 1) ∧ ((r = (a2 + (σ 55 57)) ∧ True))) := by
  refine jM.of hJ (by decide +kernel) (nt := .int) rfl (Nat.le_of_ble_eq_true rfl) ?_
  intro p e s m args below meth c Q ls hC hret hl hP
  obtain ⟨hx, hb, hr, hml, hown, hts, hK, -, hlocks, hZ⟩ := hC
  have hown : s.vm.findClass RX12 = some m.cls := hown
  have hS : va_S (jA ad) s.heap s.heap [] := va_S.rf
  have hA : ∀ q, jA ad q → jA ad q := fun _ h => h
  have hl : lv_has ls 3 [(0, .ref (ad 55)), (1, .int 0), (2, .int a2)] := hl
  have g2 := jrg t2
  refine lv_iload_n hx hb dX12_putsAs_0 rfl (lv_at hl 1 rfl) ?_
  refine lv_iconst (v := 4) hx hb dX12_putsAs_1 (of_decide_eq_true rfl) ?_
  refine lv_icmp_ne (tgt := 20) hx hb dX12_putsAs_2 (of_decide_eq_true rfl) (fun _ => ?_) (fun c => absurd c (of_decide_eq_true rfl))
  refine lv_iload_n hx hb dX12_putsAs_20 rfl (lv_at hl 1 rfl) ?_
  refine lv_iconst (v := 1) hx hb dX12_putsAs_21 (of_decide_eq_true rfl) ?_
  refine lv_icmp_ne (tgt := 40) hx hb dX12_putsAs_22 (of_decide_eq_true rfl) (fun _ => ?_) (fun c => absurd c (of_decide_eq_true rfl))
  refine lv_aload_n hx hb dX12_putsAs_40 rfl (lv_at hl 0 rfl) ?_
  refine lv_iconst (v := 1) hx hb dX12_putsAs_41 (of_decide_eq_true rfl) ?_
  refine jcallVv (As := [.int 1]) (rest := []) ⟨hx, hb, hml, hown, hts⟩ hK hP hA hS hZ (c_X12_begins_1_5 l D cI cL ad zz hJ σ τ h55_55) cw_RX12_379 (jc_55 cI cL ad σ τ) rfl ⟨Nat.le_of_ble_eq_true rfl, Nat.le_of_ble_eq_true rfl⟩ rfl rfl rfl hl.1 rfl (Nat.le_of_ble_eq_true rfl) dX12_putsAs_42 ⟨Nat.zero_le _, Nat.zero_le _⟩ (fun σ1 τ1 H locs h1 hP hS => ?_)
  obtain ⟨rfl, f3, f4, f5, m6, m7, h1⟩ := h1
  refine lv_iload_n hx hb dX12_putsAs_45 rfl (lv_at hl 2 rfl) ?_
  refine lv_aload_n hx hb dX12_putsAs_46 rfl (lv_at hl 0 rfl) ?_
  refine va_get (D := D) hx hb hts inlX12 hown hK hP 55 (jc_55 cI cL ad σ1 τ) rfl 57 (of_decide_eq_true rfl) (hts _ kw_49_9) (fun _ h9 => h9) rfl dX12_putsAs_47 ?_
  have m9 : σ1 55 57 = (σ 55 57) := (f4 57 (of_decide_eq_true rfl))
  refine jtopr m9 ?_
  have g10 := jrg (rfl : (σ 55 57).toInt = (σ 55 57).toInt)
  refine lv_iadd hx hb dX12_putsAs_50 ?_
  refine lv_topi (fun x11 ex11 => ?_)
  have gx11 := jrg (rfl : x11.toInt = x11.toInt)
  exact hret x11 σ1 τ _ _ _ _ rfl ⟨rfl, (fun i hi => (f3 i hi)), (fun i hi => (f4 i hi)), (fun i hi => (f5 i hi)), m6, m7, ⟨(by rw [ex11]), trivial⟩⟩ hP hS dX12_putsAs_51
set_option maxHeartbeats 4000000 in
set_option maxRecDepth 100000 in
theorem c_X12_putsAs_4_1_4 (l : Launch) (D : va_G) (cI cL : ClassId) (ad zz : Nat → Nat) (hJ : jD ad) (σ : Nat → Nat → Int32) (τ : Nat → Nat → Int64) (a2 : Int32) (A2 : Int) (t2 : a2.toInt = A2) (h55_55 : σ 55 55 = 4) (hp0 : (σ 55 56).toInt = 4) : jM l yX12_putsAs cX12_putsAs 3 (some .int) ({ frames := 2, cells := 0, slots := 0, locals := 43 }) D cI cL ad zz [.ref (ad 55), .int 1, .int a2] σ τ (fun r σ' τ' => τ = τ' ∧ (∀ i : Nat, (i < 55 ∨ 55 < i) ∧ (i < 85 ∨ 85 < i) → σ' i = σ i) ∧ (∀ k : Nat, (k < 55 ∨ 55 < k) → σ' 55 k = σ 55 k) ∧ (∀ k : Nat, (k < 4 ∨ 4 < k) ∧ (k < 5 ∨ 5 < k) → σ' 85 k = σ 85 k) ∧ (σ' 55 55 = 6) ∧ (σ' 85 4 = 20) ∧ (σ' 85 5 = 1) ∧ ((r = ((a2 + (σ 55 57)) + 3) ∧ True))) := by
  refine jM.of hJ (by decide +kernel) (nt := .int) rfl (Nat.le_of_ble_eq_true rfl) ?_
  intro p e s m args below meth c Q ls hC hret hl hP
  obtain ⟨hx, hb, hr, hml, hown, hts, hK, -, hlocks, hZ⟩ := hC
  have hown : s.vm.findClass RX12 = some m.cls := hown
  have hS : va_S (jA ad) s.heap s.heap [] := va_S.rf
  have hA : ∀ q, jA ad q → jA ad q := fun _ h => h
  have hl : lv_has ls 3 [(0, .ref (ad 55)), (1, .int 1), (2, .int a2)] := hl
  have g2 := jrg t2
  refine lv_iload_n hx hb dX12_putsAs_0 rfl (lv_at hl 1 rfl) ?_
  refine lv_iconst (v := 4) hx hb dX12_putsAs_1 (of_decide_eq_true rfl) ?_
  refine lv_icmp_ne (tgt := 20) hx hb dX12_putsAs_2 (of_decide_eq_true rfl) (fun _ => ?_) (fun c => absurd c (of_decide_eq_true rfl))
  refine lv_iload_n hx hb dX12_putsAs_20 rfl (lv_at hl 1 rfl) ?_
  refine lv_iconst (v := 1) hx hb dX12_putsAs_21 (of_decide_eq_true rfl) ?_
  refine lv_icmp_ne (tgt := 40) hx hb dX12_putsAs_22 (of_decide_eq_true rfl) (fun c => absurd (of_decide_eq_true rfl) c) (fun _ => ?_)
  refine lv_aload_n hx hb dX12_putsAs_25 rfl (lv_at hl 0 rfl) ?_
  refine lv_bipush (v := 20) hx hb dX12_putsAs_26 (of_decide_eq_true rfl) ?_
  refine jcallVv (As := [.int 20]) (rest := []) ⟨hx, hb, hml, hown, hts⟩ hK hP hA hS hZ (c_X12_begins_20_4 l D cI cL ad zz hJ σ τ h55_55) cw_RX12_379 (jc_55 cI cL ad σ τ) rfl ⟨Nat.le_of_ble_eq_true rfl, Nat.le_of_ble_eq_true rfl⟩ rfl rfl rfl hl.1 rfl (Nat.le_of_ble_eq_true rfl) dX12_putsAs_28 ⟨Nat.zero_le _, Nat.zero_le _⟩ (fun σ1 τ1 H locs h1 hP hS => ?_)
  obtain ⟨rfl, f3, f4, f5, m6, m7, h1⟩ := h1
  refine lv_aload_n hx hb dX12_putsAs_31 rfl (lv_at hl 0 rfl) ?_
  refine lv_iconst (v := 0) hx hb dX12_putsAs_32 (of_decide_eq_true rfl) ?_
  refine lv_iload_n hx hb dX12_putsAs_33 rfl (lv_at hl 2 rfl) ?_
  have z9 : (σ1 55 56).toInt = (σ 55 56).toInt := (congrArg Int32.toInt (show σ1 55 56 = (σ 55 56) from (f4 56 (of_decide_eq_true rfl))))
  exact by
   refine jcallV (As := [.int 0, .int a2]) (rest := []) ⟨hx, hb, hml, hown, hts⟩ hK hP hA hS hZ (c_X12_putsAs_4_0_5 l D cI cL ad zz hJ σ1 τ a2 (A2) t2 m6 (by omega)) cw_RX12_382 (jc_55 cI cL ad σ1 τ) rfl ⟨Nat.le_of_ble_eq_true rfl, Nat.le_of_ble_eq_true rfl⟩ rfl rfl rfl hl.1 rfl (Nat.le_of_ble_eq_true rfl) dX12_putsAs_34 ⟨Nat.zero_le _, Nat.zero_le _⟩ (fun r11 σ10 τ10 H locs h10 hP hS => ?_)
   obtain ⟨rfl, f12, f13, f14, m15, m16, h10⟩ := h10
   have h18 := h10
   obtain ⟨q20, k19⟩ := h18
   have q20 := q20.symm
   subst q20
   refine lv_iconst (v := 3) hx hb dX12_putsAs_37 (of_decide_eq_true rfl) ?_
   have g21 := jrg (rfl : (a2 + (σ1 55 57)).toInt = (a2 + (σ1 55 57)).toInt)
   refine lv_iadd hx hb dX12_putsAs_38 ?_
   refine lv_topi (fun x22 ex22 => ?_)
   have gx22 := jrg (rfl : x22.toInt = x22.toInt)
   have m23 : σ10 85 4 = 20 := ((f14 4 (of_decide_eq_true rfl)).trans m7)
   exact hret x22 σ10 τ _ _ _ _ rfl ⟨rfl, (fun i hi => ((f12 i hi).trans (f3 i hi))), (fun i hi => ((f13 i hi).trans (f4 i hi))), (fun i hi => ((f14 i (imp_323 i hi)).trans (f5 i (imp_358 i hi)))), m15, m23, m16, ⟨(by rw [ex22, (show σ1 55 57 = σ 55 57 from (f4 57 (of_decide_eq_true rfl)))]), trivial⟩⟩ hP hS dX12_putsAs_39
set_option maxHeartbeats 4000000 in
set_option maxRecDepth 100000 in
theorem c_X12_putsAs_4_4_3 (l : Launch) (D : va_G) (cI cL : ClassId) (ad zz : Nat → Nat) (hJ : jD ad) (σ : Nat → Nat → Int32) (τ : Nat → Nat → Int64) (a2 : Int32) (A2 : Int) (t2 : a2.toInt = A2) (h55_55 : σ 55 55 = 3) (hp0 : (σ 55 56).toInt = 4) : jM l yX12_putsAs cX12_putsAs 3 (some .int) ({ frames := 3, cells := 0, slots := 0, locals := 65 }) D cI cL ad zz [.ref (ad 55), .int 4, .int a2] σ τ (fun r σ' τ' => τ = τ' ∧ (∀ i : Nat, (i < 55 ∨ 55 < i) ∧ (i < 85 ∨ 85 < i) → σ' i = σ i) ∧ (∀ k : Nat, (k < 55 ∨ 55 < k) → σ' 55 k = σ 55 k) ∧ (∀ k : Nat, (k < 3 ∨ 3 < k) ∧ (k < 4 ∨ 4 < k) ∧ (k < 5 ∨ 5 < k) → σ' 85 k = σ 85 k) ∧ (σ' 55 55 = 6) ∧ (σ' 85 3 = 50) ∧ (σ' 85 4 = 20) ∧ (σ' 85 5 = 1) ∧ ((r = (((a2 + 1) + (σ 55 57)) + 3) ∧ True))) := by
  refine jM.of hJ (by decide +kernel) (nt := .int) rfl (Nat.le_of_ble_eq_true rfl) ?_
  intro p e s m args below meth c Q ls hC hret hl hP
  obtain ⟨hx, hb, hr, hml, hown, hts, hK, -, hlocks, hZ⟩ := hC
  have hown : s.vm.findClass RX12 = some m.cls := hown
  have hS : va_S (jA ad) s.heap s.heap [] := va_S.rf
  have hA : ∀ q, jA ad q → jA ad q := fun _ h => h
  have hl : lv_has ls 3 [(0, .ref (ad 55)), (1, .int 4), (2, .int a2)] := hl
  have g2 := jrg t2
  refine lv_iload_n hx hb dX12_putsAs_0 rfl (lv_at hl 1 rfl) ?_
  refine lv_iconst (v := 4) hx hb dX12_putsAs_1 (of_decide_eq_true rfl) ?_
  refine lv_icmp_ne (tgt := 20) hx hb dX12_putsAs_2 (of_decide_eq_true rfl) (fun c => absurd (of_decide_eq_true rfl) c) (fun _ => ?_)
  refine lv_aload_n hx hb dX12_putsAs_5 rfl (lv_at hl 0 rfl) ?_
  refine lv_bipush (v := 50) hx hb dX12_putsAs_6 (of_decide_eq_true rfl) ?_
  refine jcallVv (As := [.int 50]) (rest := []) ⟨hx, hb, hml, hown, hts⟩ hK hP hA hS hZ (c_X12_begins_50_3 l D cI cL ad zz hJ σ τ h55_55) cw_RX12_379 (jc_55 cI cL ad σ τ) rfl ⟨Nat.le_of_ble_eq_true rfl, Nat.le_of_ble_eq_true rfl⟩ rfl rfl rfl hl.1 rfl (Nat.le_of_ble_eq_true rfl) dX12_putsAs_8 ⟨Nat.zero_le _, Nat.zero_le _⟩ (fun σ1 τ1 H locs h1 hP hS => ?_)
  obtain ⟨rfl, f3, f4, f5, m6, m7, h1⟩ := h1
  refine lv_aload_n hx hb dX12_putsAs_11 rfl (lv_at hl 0 rfl) ?_
  refine lv_iconst (v := 1) hx hb dX12_putsAs_12 (of_decide_eq_true rfl) ?_
  refine lv_iload_n hx hb dX12_putsAs_13 rfl (lv_at hl 2 rfl) ?_
  refine lv_iconst (v := 1) hx hb dX12_putsAs_14 (of_decide_eq_true rfl) ?_
  refine lv_iadd hx hb dX12_putsAs_15 ?_
  refine lv_topi (fun x9 ex9 => ?_)
  have gx9 := jrg (rfl : x9.toInt = x9.toInt)
  have z10 : (σ1 55 56).toInt = (σ 55 56).toInt := (congrArg Int32.toInt (show σ1 55 56 = (σ 55 56) from (f4 56 (of_decide_eq_true rfl))))
  exact by
   refine jcallV (As := [.int 1, .int x9]) (rest := []) ⟨hx, hb, hml, hown, hts⟩ hK hP hA hS hZ (c_X12_putsAs_4_1_4 l D cI cL ad zz hJ σ1 τ x9 (x9.toInt) rfl m6 (by omega)) cw_RX12_382 (jc_55 cI cL ad σ1 τ) rfl ⟨Nat.le_of_ble_eq_true rfl, Nat.le_of_ble_eq_true rfl⟩ rfl rfl rfl hl.1 rfl (Nat.le_of_ble_eq_true rfl) dX12_putsAs_16 ⟨Nat.zero_le _, Nat.zero_le _⟩ (fun r12 σ11 τ11 H locs h11 hP hS => ?_)
   obtain ⟨rfl, f13, f14, f15, m16, m17, m18, h11⟩ := h11
   have h20 := h11
   obtain ⟨q22, k21⟩ := h20
   have q22 := q22.symm
   subst q22
   have m23 : σ11 85 3 = 50 := ((f15 3 (of_decide_eq_true rfl)).trans m7)
   exact hret ((x9 + (σ1 55 57)) + 3) σ11 τ _ _ _ _ rfl ⟨rfl, (fun i hi => ((f13 i hi).trans (f3 i hi))), (fun i hi => ((f14 i hi).trans (f4 i hi))), (fun i hi => ((f15 i (imp_328 i hi)).trans (f5 i (imp_360 i hi)))), m16, m23, m17, m18, ⟨(by rw [ex9, (show σ1 55 57 = σ 55 57 from (f4 57 (of_decide_eq_true rfl)))]), trivial⟩⟩ hP hS dX12_putsAs_19
set_option maxHeartbeats 4000000 in
set_option maxRecDepth 100000 in
theorem c_X12_holdsAs_4_4_2 (l : Launch) (D : va_G) (cI cL : ClassId) (ad zz : Nat → Nat) (hJ : jD ad) (σ : Nat → Nat → Int32) (τ : Nat → Nat → Int64) (a2 : Int32) (A2 : Int) (t2 : a2.toInt = A2) (h55_55 : σ 55 55 = 2) (hp0 : (σ 55 56).toInt = 4) : jM l yX12_holdsAs cX12_holdsAs 4 (some .int) ({ frames := 4, cells := 0, slots := 0, locals := 87 }) D cI cL ad zz [.ref (ad 55), .int 4, .int a2] σ τ (fun r σ' τ' => τ = τ' ∧ (∀ i : Nat, (i < 55 ∨ 55 < i) ∧ (i < 85 ∨ 85 < i) → σ' i = σ i) ∧ (∀ k : Nat, (k < 55 ∨ 55 < k) → σ' 55 k = σ 55 k) ∧ (∀ k : Nat, (k < 2 ∨ 2 < k) ∧ (k < 3 ∨ 3 < k) ∧ (k < 4 ∨ 4 < k) ∧ (k < 5 ∨ 5 < k) → σ' 85 k = σ 85 k) ∧ (σ' 55 55 = 6) ∧ (σ' 85 2 = 10) ∧ (σ' 85 3 = 50) ∧ (σ' 85 4 = 20) ∧ (σ' 85 5 = 1) ∧ ((r = ((((a2 + 1) + (σ 55 57)) + 3) * 2) ∧ True))) := by
  refine jM.of hJ (by decide +kernel) (nt := .int) rfl (Nat.le_of_ble_eq_true rfl) ?_
  intro p e s m args below meth c Q ls hC hret hl hP
  obtain ⟨hx, hb, hr, hml, hown, hts, hK, -, hlocks, hZ⟩ := hC
  have hown : s.vm.findClass RX12 = some m.cls := hown
  have hS : va_S (jA ad) s.heap s.heap [] := va_S.rf
  have hA : ∀ q, jA ad q → jA ad q := fun _ h => h
  have hl : lv_has ls 4 [(0, .ref (ad 55)), (1, .int 4), (2, .int a2)] := hl
  have g2 := jrg t2
  refine lv_iload_n hx hb dX12_holdsAs_0 rfl (lv_at hl 1 rfl) ?_
  refine lv_iconst (v := 3) hx hb dX12_holdsAs_1 (of_decide_eq_true rfl) ?_
  refine lv_icmp_eq (tgt := 10) hx hb dX12_holdsAs_2 (of_decide_eq_true rfl) (fun c => absurd c (of_decide_eq_true rfl)) (fun _ => ?_)
  refine lv_iload_n hx hb dX12_holdsAs_5 rfl (lv_at hl 1 rfl) ?_
  refine lv_iconst (v := 5) hx hb dX12_holdsAs_6 (of_decide_eq_true rfl) ?_
  refine lv_icmp_ne (tgt := 24) hx hb dX12_holdsAs_7 (of_decide_eq_true rfl) (fun _ => ?_) (fun c => absurd c (of_decide_eq_true rfl))
  refine lv_iload_n hx hb dX12_holdsAs_24 rfl (lv_at hl 1 rfl) ?_
  refine lv_bipush (v := 6) hx hb dX12_holdsAs_25 (of_decide_eq_true rfl) ?_
  refine lv_icmp_ne (tgt := 55) hx hb dX12_holdsAs_27 (of_decide_eq_true rfl) (fun _ => ?_) (fun c => absurd c (of_decide_eq_true rfl))
  refine lv_aload_n hx hb dX12_holdsAs_55 rfl (lv_at hl 0 rfl) ?_
  refine lv_bipush (v := 10) hx hb dX12_holdsAs_56 (of_decide_eq_true rfl) ?_
  refine jcallVv (As := [.int 10]) (rest := []) ⟨hx, hb, hml, hown, hts⟩ hK hP hA hS hZ (c_X12_begins_10_2 l D cI cL ad zz hJ σ τ h55_55) cw_RX12_379 (jc_55 cI cL ad σ τ) rfl ⟨Nat.le_of_ble_eq_true rfl, Nat.le_of_ble_eq_true rfl⟩ rfl rfl rfl hl.1 rfl (Nat.le_of_ble_eq_true rfl) dX12_holdsAs_58 ⟨Nat.zero_le _, Nat.zero_le _⟩ (fun σ1 τ1 H locs h1 hP hS => ?_)
  obtain ⟨rfl, f3, f4, f5, m6, m7, h1⟩ := h1
  refine lv_aload_n hx hb dX12_holdsAs_61 rfl (lv_at hl 0 rfl) ?_
  refine lv_aload_n hx hb dX12_holdsAs_62 rfl (lv_at hl 0 rfl) ?_
  refine va_get (D := D) hx hb hts inlX12 hown hK hP 55 (jc_55 cI cL ad σ1 τ) rfl 56 (of_decide_eq_true rfl) (hts _ kw_49_8) (fun _ h9 => h9) rfl dX12_holdsAs_63 ?_
  have m9 : σ1 55 56 = (σ 55 56) := (f4 56 (of_decide_eq_true rfl))
  refine jtopr m9 ?_
  exact by
   refine jtopr (jsame (rfl : (σ 55 56).toInt = (σ 55 56).toInt) jz_4 (by omega)) ?_
   refine lv_iload_n hx hb dX12_holdsAs_66 rfl (lv_at hl 2 rfl) ?_
   have z10 : (σ1 55 56).toInt = (σ 55 56).toInt := (congrArg Int32.toInt (show σ1 55 56 = (σ 55 56) from m9))
   refine jcallV (As := [.int 4, .int a2]) (rest := []) ⟨hx, hb, hml, hown, hts⟩ hK hP hA hS hZ (c_X12_putsAs_4_4_3 l D cI cL ad zz hJ σ1 τ a2 (A2) t2 m6 (by omega)) cw_RX12_382 (jc_55 cI cL ad σ1 τ) rfl ⟨Nat.le_of_ble_eq_true rfl, Nat.le_of_ble_eq_true rfl⟩ rfl rfl rfl hl.1 rfl (Nat.le_of_ble_eq_true rfl) dX12_holdsAs_67 ⟨Nat.zero_le _, Nat.zero_le _⟩ (fun r12 σ11 τ11 H locs h11 hP hS => ?_)
   obtain ⟨rfl, f13, f14, f15, m16, m17, m18, m19, h11⟩ := h11
   have h21 := h11
   obtain ⟨q23, k22⟩ := h21
   have q23 := q23.symm
   subst q23
   exact by
    refine lv_iconst (v := 2) hx hb dX12_holdsAs_70 (of_decide_eq_true rfl) ?_
    have g24 := jrg (rfl : (((a2 + 1) + (σ1 55 57)) + 3).toInt = (((a2 + 1) + (σ1 55 57)) + 3).toInt)
    refine lv_imul hx hb dX12_holdsAs_71 ?_
    refine lv_topi (fun x25 ex25 => ?_)
    have gx25 := jrg (rfl : x25.toInt = x25.toInt)
    have m26 : σ11 85 2 = 10 := ((f15 2 (of_decide_eq_true rfl)).trans m7)
    exact hret x25 σ11 τ _ _ _ _ rfl ⟨rfl, (fun i hi => ((f13 i hi).trans (f3 i hi))), (fun i hi => ((f14 i hi).trans (f4 i hi))), (fun i hi => ((f15 i (imp_330 i hi)).trans (f5 i (imp_361 i hi)))), m16, m26, m17, m18, m19, ⟨(by rw [ex25, (show σ1 55 57 = σ 55 57 from (f4 57 (of_decide_eq_true rfl)))]), trivial⟩⟩ hP hS dX12_holdsAs_72
set_option maxHeartbeats 4000000 in
set_option maxRecDepth 100000 in
theorem c_X12_begins_11_6 (l : Launch) (D : va_G) (cI cL : ClassId) (ad zz : Nat → Nat) (hJ : jD ad) (σ : Nat → Nat → Int32) (τ : Nat → Nat → Int64) (h55_55 : σ 55 55 = 6) : jMv l yX12_begins cX12_begins 2 none ({ frames := 0, cells := 0, slots := 0, locals := 0 }) D cI cL ad zz [.ref (ad 55), .int 11] σ τ (fun σ' τ' => τ = τ' ∧ (∀ i : Nat, (i < 55 ∨ 55 < i) ∧ (i < 85 ∨ 85 < i) → σ' i = σ i) ∧ (∀ k : Nat, (k < 55 ∨ 55 < k) → σ' 55 k = σ 55 k) ∧ (∀ k : Nat, (k < 6 ∨ 6 < k) → σ' 85 k = σ 85 k) ∧ (σ' 55 55 = 7) ∧ (σ' 85 6 = 11) ∧ True) := by
  refine jMv.of hJ (by decide +kernel) rfl (Nat.le_of_ble_eq_true rfl) ?_
  intro p e s m args below meth c Q ls hC hret hl hP
  obtain ⟨hx, hb, hr, hml, hown, hts, hK, -, hlocks, hZ⟩ := hC
  have hown : s.vm.findClass RX12 = some m.cls := hown
  have hS : va_S (jA ad) s.heap s.heap [] := va_S.rf
  have hA : ∀ q, jA ad q → jA ad q := fun _ h => h
  have hl : lv_has ls 2 [(0, .ref (ad 55)), (1, .int 11)] := hl
  refine lv_aload_n hx hb dX12_begins_0 rfl (lv_at hl 0 rfl) ?_
  refine va_get (D := D) hx hb hts inlX12 hown hK hP 55 (jc_55 cI cL ad σ τ) rfl 55 (of_decide_eq_true rfl) (hts _ kw_49_7) (fun _ h9 => h9) rfl dX12_begins_1 ?_
  refine jtopr h55_55 ?_
  refine lv_bipush (v := 24) hx hb dX12_begins_4 (of_decide_eq_true rfl) ?_
  refine lv_icmp_ge (tgt := 19) hx hb dX12_begins_6 (of_decide_eq_true rfl) (fun c => absurd c (of_decide_eq_true rfl)) (fun _ => ?_)
  refine lv_aload_n hx hb dX12_begins_9 rfl (lv_at hl 0 rfl) ?_
  refine va_get (D := D) hx hb hts inlX12 hown hK hP 55 (jc_55 cI cL ad σ τ) rfl 54 (of_decide_eq_true rfl) (hts _ kw_8_10) (fun _ h9 => h9) rfl dX12_begins_10 ?_
  refine lv_aload_n hx hb dX12_begins_13 rfl (lv_at hl 0 rfl) ?_
  refine va_get (D := D) hx hb hts inlX12 hown hK hP 55 (jc_55 cI cL ad σ τ) rfl 55 (of_decide_eq_true rfl) (hts _ kw_49_7) (fun _ h9 => h9) rfl dX12_begins_14 ?_
  refine jtopr h55_55 ?_
  refine lv_iload_n hx hb dX12_begins_17 rfl (lv_at hl 1 rfl) ?_
  exact by
   refine jast hx hb hK hP hJ hA hS (jc_85 cI cL ad σ τ) (ja_85 cI cL ad σ τ _ _) (jin jz_6 (by omega) (by omega)) dX12_begins_18 (fun σ1 H locs eσ1 hP hS => ?_)
   have eσ1 : σ1 = jup σ 85 6 11 := eσ1
   refine lv_aload_n hx hb dX12_begins_19 rfl (lv_at hl 0 rfl) ?_
   refine lv_dup hx hb dX12_begins_20 rfl ?_
   refine va_get (D := D) hx hb hts inlX12 hown hK hP 55 (jc_55 cI cL ad σ1 τ) rfl 55 (of_decide_eq_true rfl) (hts _ kw_49_7) (fun _ h9 => h9) rfl dX12_begins_21 ?_
   have m2 : σ1 55 55 = 6 := ((congrFun (jnp 55 eσ1 (of_decide_eq_true rfl)) 55).trans h55_55)
   refine jtopr m2 ?_
   refine lv_iconst (v := 1) hx hb dX12_begins_24 (of_decide_eq_true rfl) ?_
   refine lv_iadd hx hb dX12_begins_25 ?_
   refine jtopr (y := 7) (of_decide_eq_true rfl) ?_
   refine jput (ty := .int) hx hb hts inlX12 tyX12 tyX12_ok nmX12 hown hK hP hJ hA hS (jc_55 cI cL ad σ1 τ) rfl (k := 55) (of_decide_eq_true rfl) (Nat.le_of_ble_eq_true rfl) (jp_55_55 cI cL ad σ1 τ 7) (hts _ kw_49_7) (fun _ h9 => h9) rfl (by decide +kernel) rfl rfl dX12_begins_26 (fun σ3 H locs eσ3 hP hS => ?_)
   have m4 : σ3 55 55 = 7 := (jsp eσ3)
   have m5 : σ3 85 6 = 11 := ((congrFun (jnp 85 eσ3 (of_decide_eq_true rfl)) 6).trans (jsp eσ1))
   exact hret σ3 τ _ _ _ _ ⟨rfl, (fun i hi => ((jnp i eσ3 (imp_350 i hi)).trans (jnp i eσ1 (imp_351 i hi)))), (fun i hi => ((jkp i eσ3 (imp_165 i hi)).trans (congrFun (jnp 55 eσ1 (of_decide_eq_true rfl)) i))), (fun i hi => ((congrFun (jnp 85 eσ3 (of_decide_eq_true rfl)) i).trans (jkp i eσ1 (imp_164 i hi)))), m4, m5, trivial⟩ hP hS dX12_begins_29
set_option maxHeartbeats 4000000 in
set_option maxRecDepth 100000 in
theorem c_X12_givesAs_4_4_6_x1 (l : Launch) (D : va_G) (cI cL : ClassId) (ad zz : Nat → Nat) (hJ : jD ad) (σ : Nat → Nat → Int32) (τ : Nat → Nat → Int64) (h55_55 : σ 55 55 = 6) (hp0 : (σ 55 56).toInt = 4) : jM l yX12_givesAs cX12_givesAs 4 (some .int) ({ frames := 1, cells := 0, slots := 0, locals := 21 }) D cI cL ad zz [.ref (ad 55), .int 4, .int 1] σ τ (fun r σ' τ' => τ = τ' ∧ (∀ i : Nat, (i < 55 ∨ 55 < i) ∧ (i < 85 ∨ 85 < i) → σ' i = σ i) ∧ (∀ k : Nat, (k < 55 ∨ 55 < k) → σ' 55 k = σ 55 k) ∧ (∀ k : Nat, (k < 6 ∨ 6 < k) → σ' 85 k = σ 85 k) ∧ (σ' 55 55 = 7) ∧ (σ' 85 6 = 11) ∧ ((r = (1 ^^^ (σ 55 57)) ∧ True))) := by
  refine jM.of hJ (by decide +kernel) (nt := .int) rfl (Nat.le_of_ble_eq_true rfl) ?_
  intro p e s m args below meth c Q ls hC hret hl hP
  obtain ⟨hx, hb, hr, hml, hown, hts, hK, -, hlocks, hZ⟩ := hC
  have hown : s.vm.findClass RX12 = some m.cls := hown
  have hS : va_S (jA ad) s.heap s.heap [] := va_S.rf
  have hA : ∀ q, jA ad q → jA ad q := fun _ h => h
  have hl : lv_has ls 4 [(0, .ref (ad 55)), (1, .int 4), (2, .int 1)] := hl
  refine lv_iload_n hx hb dX12_givesAs_0 rfl (lv_at hl 1 rfl) ?_
  refine lv_iconst (v := 5) hx hb dX12_givesAs_1 (of_decide_eq_true rfl) ?_
  refine lv_icmp_ne (tgt := 30) hx hb dX12_givesAs_2 (of_decide_eq_true rfl) (fun _ => ?_) (fun c => absurd c (of_decide_eq_true rfl))
  refine lv_iload_n hx hb dX12_givesAs_30 rfl (lv_at hl 1 rfl) ?_
  refine lv_iconst (v := 2) hx hb dX12_givesAs_31 (of_decide_eq_true rfl) ?_
  refine lv_icmp_eq (tgt := 40) hx hb dX12_givesAs_32 (of_decide_eq_true rfl) (fun c => absurd c (of_decide_eq_true rfl)) (fun _ => ?_)
  refine lv_iload_n hx hb dX12_givesAs_35 rfl (lv_at hl 1 rfl) ?_
  refine lv_iconst (v := 3) hx hb dX12_givesAs_36 (of_decide_eq_true rfl) ?_
  refine lv_icmp_ne (tgt := 55) hx hb dX12_givesAs_37 (of_decide_eq_true rfl) (fun _ => ?_) (fun c => absurd c (of_decide_eq_true rfl))
  refine lv_aload_n hx hb dX12_givesAs_55 rfl (lv_at hl 0 rfl) ?_
  refine lv_bipush (v := 11) hx hb dX12_givesAs_56 (of_decide_eq_true rfl) ?_
  refine jcallVv (As := [.int 11]) (rest := []) ⟨hx, hb, hml, hown, hts⟩ hK hP hA hS hZ (c_X12_begins_11_6 l D cI cL ad zz hJ σ τ h55_55) cw_RX12_379 (jc_55 cI cL ad σ τ) rfl ⟨Nat.le_of_ble_eq_true rfl, Nat.le_of_ble_eq_true rfl⟩ rfl rfl rfl hl.1 rfl (Nat.le_of_ble_eq_true rfl) dX12_givesAs_58 ⟨Nat.zero_le _, Nat.zero_le _⟩ (fun σ1 τ1 H locs h1 hP hS => ?_)
  obtain ⟨rfl, f3, f4, f5, m6, m7, h1⟩ := h1
  refine lv_iload_n hx hb dX12_givesAs_61 rfl (lv_at hl 2 rfl) ?_
  refine lv_aload_n hx hb dX12_givesAs_62 rfl (lv_at hl 0 rfl) ?_
  refine va_get (D := D) hx hb hts inlX12 hown hK hP 55 (jc_55 cI cL ad σ1 τ) rfl 57 (of_decide_eq_true rfl) (hts _ kw_49_9) (fun _ h9 => h9) rfl dX12_givesAs_63 ?_
  have m9 : σ1 55 57 = (σ 55 57) := (f4 57 (of_decide_eq_true rfl))
  refine jtopr m9 ?_
  refine lv_ixor hx hb dX12_givesAs_66 ?_
  refine lv_topi (fun x10 ex10 => ?_)
  have gx10 := jrg (rfl : x10.toInt = x10.toInt)
  exact hret x10 σ1 τ _ _ _ _ rfl ⟨rfl, (fun i hi => (f3 i hi)), (fun i hi => (f4 i hi)), (fun i hi => (f5 i hi)), m6, m7, ⟨(by rw [ex10]), trivial⟩⟩ hP hS dX12_givesAs_67
set_option maxHeartbeats 4000000 in
set_option maxRecDepth 100000 in
theorem c_X12_tellsAs_4_1_1 (l : Launch) (D : va_G) (cI cL : ClassId) (ad zz : Nat → Nat) (hJ : jD ad) (σ : Nat → Nat → Int32) (τ : Nat → Nat → Int64) (a2 : Int32) (A2 : Int) (t2 : a2.toInt = A2) (h55_55 : σ 55 55 = 1) (hp0 : (σ 55 56).toInt = 4) : jM l yX12_tellsAs cX12_tellsAs 4 (some .int) ({ frames := 5, cells := 0, slots := 0, locals := 110 }) D cI cL ad zz [.ref (ad 55), .int 1, .int a2] σ τ (fun r σ' τ' => τ = τ' ∧ (∀ i : Nat, (i < 55 ∨ 55 < i) ∧ (i < 85 ∨ 85 < i) → σ' i = σ i) ∧ (∀ k : Nat, (k < 55 ∨ 55 < k) → σ' 55 k = σ 55 k) ∧ (∀ k : Nat, (k < 1 ∨ 1 < k) ∧ (k < 2 ∨ 2 < k) ∧ (k < 3 ∨ 3 < k) ∧ (k < 4 ∨ 4 < k) ∧ (k < 5 ∨ 5 < k) ∧ (k < 6 ∨ 6 < k) → σ' 85 k = σ 85 k) ∧ (σ' 55 55 = 7) ∧ (σ' 85 1 = 2) ∧ (σ' 85 2 = 10) ∧ (σ' 85 3 = 50) ∧ (σ' 85 4 = 20) ∧ (σ' 85 5 = 1) ∧ (σ' 85 6 = 11) ∧ ((r = (((((a2 + 1) + (σ 55 57)) + 3) * 2) - (1 ^^^ (σ 55 57))) ∧ True))) := by
  refine jM.of hJ (by decide +kernel) (nt := .int) rfl (Nat.le_of_ble_eq_true rfl) ?_
  intro p e s m args below meth c Q ls hC hret hl hP
  obtain ⟨hx, hb, hr, hml, hown, hts, hK, -, hlocks, hZ⟩ := hC
  have hown : s.vm.findClass RX12 = some m.cls := hown
  have hS : va_S (jA ad) s.heap s.heap [] := va_S.rf
  have hA : ∀ q, jA ad q → jA ad q := fun _ h => h
  have hl : lv_has ls 4 [(0, .ref (ad 55)), (1, .int 1), (2, .int a2)] := hl
  have g2 := jrg t2
  refine lv_iload_n hx hb dX12_tellsAs_0 rfl (lv_at hl 1 rfl) ?_
  refine lv_iconst (v := 4) hx hb dX12_tellsAs_1 (of_decide_eq_true rfl) ?_
  refine lv_icmp_ne (tgt := 20) hx hb dX12_tellsAs_2 (of_decide_eq_true rfl) (fun _ => ?_) (fun c => absurd c (of_decide_eq_true rfl))
  refine lv_aload_n hx hb dX12_tellsAs_20 rfl (lv_at hl 0 rfl) ?_
  refine lv_iconst (v := 2) hx hb dX12_tellsAs_21 (of_decide_eq_true rfl) ?_
  refine jcallVv (As := [.int 2]) (rest := []) ⟨hx, hb, hml, hown, hts⟩ hK hP hA hS hZ (c_X12_begins_2_1 l D cI cL ad zz hJ σ τ h55_55) cw_RX12_379 (jc_55 cI cL ad σ τ) rfl ⟨Nat.le_of_ble_eq_true rfl, Nat.le_of_ble_eq_true rfl⟩ rfl rfl rfl hl.1 rfl (Nat.le_of_ble_eq_true rfl) dX12_tellsAs_22 ⟨Nat.zero_le _, Nat.zero_le _⟩ (fun σ1 τ1 H locs h1 hP hS => ?_)
  obtain ⟨rfl, f3, f4, f5, m6, m7, h1⟩ := h1
  refine lv_aload_n hx hb dX12_tellsAs_25 rfl (lv_at hl 0 rfl) ?_
  refine lv_aload_n hx hb dX12_tellsAs_26 rfl (lv_at hl 0 rfl) ?_
  refine va_get (D := D) hx hb hts inlX12 hown hK hP 55 (jc_55 cI cL ad σ1 τ) rfl 56 (of_decide_eq_true rfl) (hts _ kw_49_8) (fun _ h9 => h9) rfl dX12_tellsAs_27 ?_
  have m9 : σ1 55 56 = (σ 55 56) := (f4 56 (of_decide_eq_true rfl))
  refine jtopr m9 ?_
  exact by
   refine jtopr (jsame (rfl : (σ 55 56).toInt = (σ 55 56).toInt) jz_4 (by omega)) ?_
   refine lv_iload_n hx hb dX12_tellsAs_30 rfl (lv_at hl 2 rfl) ?_
   have z10 : (σ1 55 56).toInt = (σ 55 56).toInt := (congrArg Int32.toInt (show σ1 55 56 = (σ 55 56) from m9))
   refine jcallV (As := [.int 4, .int a2]) (rest := []) ⟨hx, hb, hml, hown, hts⟩ hK hP hA hS hZ (c_X12_holdsAs_4_4_2 l D cI cL ad zz hJ σ1 τ a2 (A2) t2 m6 (by omega)) cw_RX12_388 (jc_55 cI cL ad σ1 τ) rfl ⟨Nat.le_of_ble_eq_true rfl, Nat.le_of_ble_eq_true rfl⟩ rfl rfl rfl hl.1 rfl (Nat.le_of_ble_eq_true rfl) dX12_tellsAs_31 ⟨Nat.zero_le _, Nat.zero_le _⟩ (fun r12 σ11 τ11 H locs h11 hP hS => ?_)
   obtain ⟨rfl, f13, f14, f15, m16, m17, m18, m19, m20, h11⟩ := h11
   have h22 := h11
   obtain ⟨q24, k23⟩ := h22
   have q24 := q24.symm
   subst q24
   exact by
    refine lv_istore_n (lv' := [(3, .int ((((a2 + 1) + (σ1 55 57)) + 3) * 2)), (0, .ref (ad 55)), (1, .int 1), (2, .int a2)]) hx hb dX12_tellsAs_34 rfl hl (of_decide_eq_true rfl) rfl (fun ls hl => ?_)
    refine lv_iload_n hx hb dX12_tellsAs_35 rfl (lv_at hl 0 rfl) ?_
    refine lv_aload_n hx hb dX12_tellsAs_36 rfl (lv_at hl 1 rfl) ?_
    refine lv_aload_n hx hb dX12_tellsAs_37 rfl (lv_at hl 1 rfl) ?_
    refine va_get (D := D) hx hb hts inlX12 hown hK hP 55 (jc_55 cI cL ad σ11 τ) rfl 56 (of_decide_eq_true rfl) (hts _ kw_49_8) (fun _ h9 => h9) rfl dX12_tellsAs_38 ?_
    have m25 : σ11 55 56 = (σ 55 56) := ((f14 56 (of_decide_eq_true rfl)).trans m9)
    refine jtopr m25 ?_
    refine jtopr (jsame (rfl : (σ 55 56).toInt = (σ 55 56).toInt) jz_4 (by omega)) ?_
    refine lv_iconst (v := 1) hx hb dX12_tellsAs_41 (of_decide_eq_true rfl) ?_
    exact by
     have z26 : (σ11 55 56).toInt = (σ 55 56).toInt := (congrArg Int32.toInt (show σ11 55 56 = (σ 55 56) from m25))
     refine jcallV (As := [.int 4, .int 1]) (rest := [.int ((((a2 + 1) + (σ1 55 57)) + 3) * 2)]) ⟨hx, hb, hml, hown, hts⟩ hK hP hA hS hZ (c_X12_givesAs_4_4_6_x1 l D cI cL ad zz hJ σ11 τ m16 (by omega)) cw_RX12_394 (jc_55 cI cL ad σ11 τ) rfl ⟨Nat.le_of_ble_eq_true rfl, Nat.le_of_ble_eq_true rfl⟩ rfl rfl rfl hl.1 rfl (Nat.le_of_ble_eq_true rfl) dX12_tellsAs_42 ⟨Nat.zero_le _, Nat.zero_le _⟩ (fun r28 σ27 τ27 H locs h27 hP hS => ?_)
     obtain ⟨rfl, f29, f30, f31, m32, m33, h27⟩ := h27
     have h35 := h27
     obtain ⟨q37, k36⟩ := h35
     have q37 := q37.symm
     subst q37
     have g38 := jrg (rfl : ((((a2 + 1) + (σ1 55 57)) + 3) * 2).toInt = ((((a2 + 1) + (σ1 55 57)) + 3) * 2).toInt)
     have g39 := jrg (rfl : (1 ^^^ (σ11 55 57)).toInt = (1 ^^^ (σ11 55 57)).toInt)
     exact by
      refine lv_isub hx hb dX12_tellsAs_45 ?_
      refine lv_topi (fun x40 ex40 => ?_)
      have gx40 := jrg (rfl : x40.toInt = x40.toInt)
      have m41 : σ27 85 1 = 2 := ((f31 1 (of_decide_eq_true rfl)).trans ((f15 1 (of_decide_eq_true rfl)).trans m7))
      have m42 : σ27 85 2 = 10 := ((f31 2 (of_decide_eq_true rfl)).trans m17)
      have m43 : σ27 85 3 = 50 := ((f31 3 (of_decide_eq_true rfl)).trans m18)
      have m44 : σ27 85 4 = 20 := ((f31 4 (of_decide_eq_true rfl)).trans m19)
      have m45 : σ27 85 5 = 1 := ((f31 5 (of_decide_eq_true rfl)).trans m20)
      exact hret x40 σ27 τ _ _ _ _ rfl ⟨rfl, (fun i hi => ((f29 i hi).trans ((f13 i hi).trans (f3 i hi)))), (fun i hi => ((f30 i hi).trans ((f14 i hi).trans (f4 i hi)))), (fun i hi => ((f31 i (imp_332 i hi)).trans ((f15 i (imp_333 i hi)).trans (f5 i (imp_362 i hi))))), m32, m41, m42, m43, m44, m45, m33, ⟨(by rw [ex40, (show σ1 55 57 = σ 55 57 from (f4 57 (of_decide_eq_true rfl))), (show σ11 55 57 = σ 55 57 from ((f14 57 (of_decide_eq_true rfl)).trans (f4 57 (of_decide_eq_true rfl))))]), trivial⟩⟩ hP hS dX12_tellsAs_46
set_option maxHeartbeats 4000000 in
set_option maxRecDepth 100000 in
theorem c_X12_tellsAs_4_4_0 (l : Launch) (D : va_G) (cI cL : ClassId) (ad zz : Nat → Nat) (hJ : jD ad) (σ : Nat → Nat → Int32) (τ : Nat → Nat → Int64) (a2 : Int32) (A2 : Int) (t2 : a2.toInt = A2) (h55_55 : σ 55 55 = 0) (hp0 : (σ 55 56).toInt = 4) : jM l yX12_tellsAs cX12_tellsAs 4 (some .int) ({ frames := 6, cells := 0, slots := 0, locals := 133 }) D cI cL ad zz [.ref (ad 55), .int 4, .int a2] σ τ (fun r σ' τ' => τ = τ' ∧ (∀ i : Nat, (i < 55 ∨ 55 < i) ∧ (i < 85 ∨ 85 < i) → σ' i = σ i) ∧ (∀ k : Nat, (k < 55 ∨ 55 < k) → σ' 55 k = σ 55 k) ∧ (∀ k : Nat, (k < 0 ∨ 0 < k) ∧ (k < 1 ∨ 1 < k) ∧ (k < 2 ∨ 2 < k) ∧ (k < 3 ∨ 3 < k) ∧ (k < 4 ∨ 4 < k) ∧ (k < 5 ∨ 5 < k) ∧ (k < 6 ∨ 6 < k) → σ' 85 k = σ 85 k) ∧ (σ' 55 55 = 7) ∧ (σ' 85 0 = 51) ∧ (σ' 85 1 = 2) ∧ (σ' 85 2 = 10) ∧ (σ' 85 3 = 50) ∧ (σ' 85 4 = 20) ∧ (σ' 85 5 = 1) ∧ (σ' 85 6 = 11) ∧ ((r = ((((((a2 + 1) + (σ 55 57)) + 3) * 2) - (1 ^^^ (σ 55 57))) ^^^ 5) ∧ True))) := by
  refine jM.of hJ (by decide +kernel) (nt := .int) rfl (Nat.le_of_ble_eq_true rfl) ?_
  intro p e s m args below meth c Q ls hC hret hl hP
  obtain ⟨hx, hb, hr, hml, hown, hts, hK, -, hlocks, hZ⟩ := hC
  have hown : s.vm.findClass RX12 = some m.cls := hown
  have hS : va_S (jA ad) s.heap s.heap [] := va_S.rf
  have hA : ∀ q, jA ad q → jA ad q := fun _ h => h
  have hl : lv_has ls 4 [(0, .ref (ad 55)), (1, .int 4), (2, .int a2)] := hl
  have g2 := jrg t2
  refine lv_iload_n hx hb dX12_tellsAs_0 rfl (lv_at hl 1 rfl) ?_
  refine lv_iconst (v := 4) hx hb dX12_tellsAs_1 (of_decide_eq_true rfl) ?_
  refine lv_icmp_ne (tgt := 20) hx hb dX12_tellsAs_2 (of_decide_eq_true rfl) (fun c => absurd (of_decide_eq_true rfl) c) (fun _ => ?_)
  refine lv_aload_n hx hb dX12_tellsAs_5 rfl (lv_at hl 0 rfl) ?_
  refine lv_bipush (v := 51) hx hb dX12_tellsAs_6 (of_decide_eq_true rfl) ?_
  refine jcallVv (As := [.int 51]) (rest := []) ⟨hx, hb, hml, hown, hts⟩ hK hP hA hS hZ (c_X12_begins_51_0 l D cI cL ad zz hJ σ τ h55_55) cw_RX12_379 (jc_55 cI cL ad σ τ) rfl ⟨Nat.le_of_ble_eq_true rfl, Nat.le_of_ble_eq_true rfl⟩ rfl rfl rfl hl.1 rfl (Nat.le_of_ble_eq_true rfl) dX12_tellsAs_8 ⟨Nat.zero_le _, Nat.zero_le _⟩ (fun σ1 τ1 H locs h1 hP hS => ?_)
  obtain ⟨rfl, f3, f4, f5, m6, m7, h1⟩ := h1
  refine lv_aload_n hx hb dX12_tellsAs_11 rfl (lv_at hl 0 rfl) ?_
  refine lv_iconst (v := 1) hx hb dX12_tellsAs_12 (of_decide_eq_true rfl) ?_
  refine lv_iload_n hx hb dX12_tellsAs_13 rfl (lv_at hl 2 rfl) ?_
  have z9 : (σ1 55 56).toInt = (σ 55 56).toInt := (congrArg Int32.toInt (show σ1 55 56 = (σ 55 56) from (f4 56 (of_decide_eq_true rfl))))
  exact by
   refine jcallV (As := [.int 1, .int a2]) (rest := []) ⟨hx, hb, hml, hown, hts⟩ hK hP hA hS hZ (c_X12_tellsAs_4_1_1 l D cI cL ad zz hJ σ1 τ a2 (A2) t2 m6 (by omega)) cw_RX12_397 (jc_55 cI cL ad σ1 τ) rfl ⟨Nat.le_of_ble_eq_true rfl, Nat.le_of_ble_eq_true rfl⟩ rfl rfl rfl hl.1 rfl (Nat.le_of_ble_eq_true rfl) dX12_tellsAs_14 ⟨Nat.zero_le _, Nat.zero_le _⟩ (fun r11 σ10 τ10 H locs h10 hP hS => ?_)
   obtain ⟨rfl, f12, f13, f14, m15, m16, m17, m18, m19, m20, m21, h10⟩ := h10
   have h23 := h10
   obtain ⟨q25, k24⟩ := h23
   have q25 := q25.symm
   subst q25
   refine lv_iconst (v := 5) hx hb dX12_tellsAs_17 (of_decide_eq_true rfl) ?_
   refine lv_ixor hx hb dX12_tellsAs_18 ?_
   refine lv_topi (fun x26 ex26 => ?_)
   have gx26 := jrg (rfl : x26.toInt = x26.toInt)
   have m27 : σ10 85 0 = 51 := ((f14 0 (of_decide_eq_true rfl)).trans m7)
   exact hret x26 σ10 τ _ _ _ _ rfl ⟨rfl, (fun i hi => ((f12 i hi).trans (f3 i hi))), (fun i hi => ((f13 i hi).trans (f4 i hi))), (fun i hi => ((f14 i (imp_335 i hi)).trans (f5 i (imp_363 i hi)))), m15, m27, m16, m17, m18, m19, m20, m21, ⟨(by rw [ex26, (show σ1 55 57 = σ 55 57 from (f4 57 (of_decide_eq_true rfl)))]), trivial⟩⟩ hP hS dX12_tellsAs_19
set_option maxHeartbeats 4000000 in
set_option maxRecDepth 100000 in
theorem c_X12_putsAs_5_5_0 (l : Launch) (D : va_G) (cI cL : ClassId) (ad zz : Nat → Nat) (hJ : jD ad) (σ : Nat → Nat → Int32) (τ : Nat → Nat → Int64) (a2 : Int32) (A2 : Int) (t2 : a2.toInt = A2) (h55_55 : σ 55 55 = 0) (hp0 : (σ 55 56).toInt = 5) : jM l yX12_putsAs cX12_putsAs 3 (some .int) ({ frames := 1, cells := 0, slots := 0, locals := 21 }) D cI cL ad zz [.ref (ad 55), .int 5, .int a2] σ τ (fun r σ' τ' => τ = τ' ∧ (∀ i : Nat, (i < 55 ∨ 55 < i) ∧ (i < 85 ∨ 85 < i) → σ' i = σ i) ∧ (∀ k : Nat, (k < 55 ∨ 55 < k) → σ' 55 k = σ 55 k) ∧ (∀ k : Nat, (k < 0 ∨ 0 < k) → σ' 85 k = σ 85 k) ∧ (σ' 55 55 = 1) ∧ (σ' 85 0 = 1) ∧ ((r = (a2 + (σ 55 57)) ∧ True))) := by
  refine jM.of hJ (by decide +kernel) (nt := .int) rfl (Nat.le_of_ble_eq_true rfl) ?_
  intro p e s m args below meth c Q ls hC hret hl hP
  obtain ⟨hx, hb, hr, hml, hown, hts, hK, -, hlocks, hZ⟩ := hC
  have hown : s.vm.findClass RX12 = some m.cls := hown
  have hS : va_S (jA ad) s.heap s.heap [] := va_S.rf
  have hA : ∀ q, jA ad q → jA ad q := fun _ h => h
  have hl : lv_has ls 3 [(0, .ref (ad 55)), (1, .int 5), (2, .int a2)] := hl
  have g2 := jrg t2
  refine lv_iload_n hx hb dX12_putsAs_0 rfl (lv_at hl 1 rfl) ?_
  refine lv_iconst (v := 4) hx hb dX12_putsAs_1 (of_decide_eq_true rfl) ?_
  refine lv_icmp_ne (tgt := 20) hx hb dX12_putsAs_2 (of_decide_eq_true rfl) (fun _ => ?_) (fun c => absurd c (of_decide_eq_true rfl))
  refine lv_iload_n hx hb dX12_putsAs_20 rfl (lv_at hl 1 rfl) ?_
  refine lv_iconst (v := 1) hx hb dX12_putsAs_21 (of_decide_eq_true rfl) ?_
  refine lv_icmp_ne (tgt := 40) hx hb dX12_putsAs_22 (of_decide_eq_true rfl) (fun _ => ?_) (fun c => absurd c (of_decide_eq_true rfl))
  refine lv_aload_n hx hb dX12_putsAs_40 rfl (lv_at hl 0 rfl) ?_
  refine lv_iconst (v := 1) hx hb dX12_putsAs_41 (of_decide_eq_true rfl) ?_
  refine jcallVv (As := [.int 1]) (rest := []) ⟨hx, hb, hml, hown, hts⟩ hK hP hA hS hZ (c_X12_begins_1_0 l D cI cL ad zz hJ σ τ h55_55) cw_RX12_379 (jc_55 cI cL ad σ τ) rfl ⟨Nat.le_of_ble_eq_true rfl, Nat.le_of_ble_eq_true rfl⟩ rfl rfl rfl hl.1 rfl (Nat.le_of_ble_eq_true rfl) dX12_putsAs_42 ⟨Nat.zero_le _, Nat.zero_le _⟩ (fun σ1 τ1 H locs h1 hP hS => ?_)
  obtain ⟨rfl, f3, f4, f5, m6, m7, h1⟩ := h1
  refine lv_iload_n hx hb dX12_putsAs_45 rfl (lv_at hl 2 rfl) ?_
  refine lv_aload_n hx hb dX12_putsAs_46 rfl (lv_at hl 0 rfl) ?_
  refine va_get (D := D) hx hb hts inlX12 hown hK hP 55 (jc_55 cI cL ad σ1 τ) rfl 57 (of_decide_eq_true rfl) (hts _ kw_49_9) (fun _ h9 => h9) rfl dX12_putsAs_47 ?_
  have m9 : σ1 55 57 = (σ 55 57) := (f4 57 (of_decide_eq_true rfl))
  refine jtopr m9 ?_
  have g10 := jrg (rfl : (σ 55 57).toInt = (σ 55 57).toInt)
  refine lv_iadd hx hb dX12_putsAs_50 ?_
  refine lv_topi (fun x11 ex11 => ?_)
  have gx11 := jrg (rfl : x11.toInt = x11.toInt)
  exact hret x11 σ1 τ _ _ _ _ rfl ⟨rfl, (fun i hi => (f3 i hi)), (fun i hi => (f4 i hi)), (fun i hi => (f5 i hi)), m6, m7, ⟨(by rw [ex11]), trivial⟩⟩ hP hS dX12_putsAs_51
set_option maxHeartbeats 4000000 in
set_option maxRecDepth 100000 in
theorem c_X12_putsAs_5_5_2 (l : Launch) (D : va_G) (cI cL : ClassId) (ad zz : Nat → Nat) (hJ : jD ad) (σ : Nat → Nat → Int32) (τ : Nat → Nat → Int64) (a2 : Int32) (A2 : Int) (t2 : a2.toInt = A2) (h55_55 : σ 55 55 = 2) (hp0 : (σ 55 56).toInt = 5) : jM l yX12_putsAs cX12_putsAs 3 (some .int) ({ frames := 1, cells := 0, slots := 0, locals := 21 }) D cI cL ad zz [.ref (ad 55), .int 5, .int a2] σ τ (fun r σ' τ' => τ = τ' ∧ (∀ i : Nat, (i < 55 ∨ 55 < i) ∧ (i < 85 ∨ 85 < i) → σ' i = σ i) ∧ (∀ k : Nat, (k < 55 ∨ 55 < k) → σ' 55 k = σ 55 k) ∧ (∀ k : Nat, (k < 2 ∨ 2 < k) → σ' 85 k = σ 85 k) ∧ (σ' 55 55 = 3) ∧ (σ' 85 2 = 1) ∧ ((r = (a2 + (σ 55 57)) ∧ True))) := by
  refine jM.of hJ (by decide +kernel) (nt := .int) rfl (Nat.le_of_ble_eq_true rfl) ?_
  intro p e s m args below meth c Q ls hC hret hl hP
  obtain ⟨hx, hb, hr, hml, hown, hts, hK, -, hlocks, hZ⟩ := hC
  have hown : s.vm.findClass RX12 = some m.cls := hown
  have hS : va_S (jA ad) s.heap s.heap [] := va_S.rf
  have hA : ∀ q, jA ad q → jA ad q := fun _ h => h
  have hl : lv_has ls 3 [(0, .ref (ad 55)), (1, .int 5), (2, .int a2)] := hl
  have g2 := jrg t2
  refine lv_iload_n hx hb dX12_putsAs_0 rfl (lv_at hl 1 rfl) ?_
  refine lv_iconst (v := 4) hx hb dX12_putsAs_1 (of_decide_eq_true rfl) ?_
  refine lv_icmp_ne (tgt := 20) hx hb dX12_putsAs_2 (of_decide_eq_true rfl) (fun _ => ?_) (fun c => absurd c (of_decide_eq_true rfl))
  refine lv_iload_n hx hb dX12_putsAs_20 rfl (lv_at hl 1 rfl) ?_
  refine lv_iconst (v := 1) hx hb dX12_putsAs_21 (of_decide_eq_true rfl) ?_
  refine lv_icmp_ne (tgt := 40) hx hb dX12_putsAs_22 (of_decide_eq_true rfl) (fun _ => ?_) (fun c => absurd c (of_decide_eq_true rfl))
  refine lv_aload_n hx hb dX12_putsAs_40 rfl (lv_at hl 0 rfl) ?_
  refine lv_iconst (v := 1) hx hb dX12_putsAs_41 (of_decide_eq_true rfl) ?_
  refine jcallVv (As := [.int 1]) (rest := []) ⟨hx, hb, hml, hown, hts⟩ hK hP hA hS hZ (c_X12_begins_1_2 l D cI cL ad zz hJ σ τ h55_55) cw_RX12_379 (jc_55 cI cL ad σ τ) rfl ⟨Nat.le_of_ble_eq_true rfl, Nat.le_of_ble_eq_true rfl⟩ rfl rfl rfl hl.1 rfl (Nat.le_of_ble_eq_true rfl) dX12_putsAs_42 ⟨Nat.zero_le _, Nat.zero_le _⟩ (fun σ1 τ1 H locs h1 hP hS => ?_)
  obtain ⟨rfl, f3, f4, f5, m6, m7, h1⟩ := h1
  refine lv_iload_n hx hb dX12_putsAs_45 rfl (lv_at hl 2 rfl) ?_
  refine lv_aload_n hx hb dX12_putsAs_46 rfl (lv_at hl 0 rfl) ?_
  refine va_get (D := D) hx hb hts inlX12 hown hK hP 55 (jc_55 cI cL ad σ1 τ) rfl 57 (of_decide_eq_true rfl) (hts _ kw_49_9) (fun _ h9 => h9) rfl dX12_putsAs_47 ?_
  have m9 : σ1 55 57 = (σ 55 57) := (f4 57 (of_decide_eq_true rfl))
  refine jtopr m9 ?_
  have g10 := jrg (rfl : (σ 55 57).toInt = (σ 55 57).toInt)
  refine lv_iadd hx hb dX12_putsAs_50 ?_
  refine lv_topi (fun x11 ex11 => ?_)
  have gx11 := jrg (rfl : x11.toInt = x11.toInt)
  exact hret x11 σ1 τ _ _ _ _ rfl ⟨rfl, (fun i hi => (f3 i hi)), (fun i hi => (f4 i hi)), (fun i hi => (f5 i hi)), m6, m7, ⟨(by rw [ex11]), trivial⟩⟩ hP hS dX12_putsAs_51
set_option maxHeartbeats 4000000 in
set_option maxRecDepth 100000 in
theorem c_X12_holdsAs_5_0_1 (l : Launch) (D : va_G) (cI cL : ClassId) (ad zz : Nat → Nat) (hJ : jD ad) (σ : Nat → Nat → Int32) (τ : Nat → Nat → Int64) (a2 : Int32) (A2 : Int) (t2 : a2.toInt = A2) (h55_55 : σ 55 55 = 1) (hp0 : (σ 55 56).toInt = 5) : jM l yX12_holdsAs cX12_holdsAs 4 (some .int) ({ frames := 2, cells := 0, slots := 0, locals := 43 }) D cI cL ad zz [.ref (ad 55), .int 0, .int a2] σ τ (fun r σ' τ' => τ = τ' ∧ (∀ i : Nat, (i < 55 ∨ 55 < i) ∧ (i < 85 ∨ 85 < i) → σ' i = σ i) ∧ (∀ k : Nat, (k < 55 ∨ 55 < k) → σ' 55 k = σ 55 k) ∧ (∀ k : Nat, (k < 1 ∨ 1 < k) ∧ (k < 2 ∨ 2 < k) → σ' 85 k = σ 85 k) ∧ (σ' 55 55 = 3) ∧ (σ' 85 1 = 10) ∧ (σ' 85 2 = 1) ∧ ((r = ((a2 + (σ 55 57)) * 2) ∧ True))) := by
  refine jM.of hJ (by decide +kernel) (nt := .int) rfl (Nat.le_of_ble_eq_true rfl) ?_
  intro p e s m args below meth c Q ls hC hret hl hP
  obtain ⟨hx, hb, hr, hml, hown, hts, hK, -, hlocks, hZ⟩ := hC
  have hown : s.vm.findClass RX12 = some m.cls := hown
  have hS : va_S (jA ad) s.heap s.heap [] := va_S.rf
  have hA : ∀ q, jA ad q → jA ad q := fun _ h => h
  have hl : lv_has ls 4 [(0, .ref (ad 55)), (1, .int 0), (2, .int a2)] := hl
  have g2 := jrg t2
  refine lv_iload_n hx hb dX12_holdsAs_0 rfl (lv_at hl 1 rfl) ?_
  refine lv_iconst (v := 3) hx hb dX12_holdsAs_1 (of_decide_eq_true rfl) ?_
  refine lv_icmp_eq (tgt := 10) hx hb dX12_holdsAs_2 (of_decide_eq_true rfl) (fun c => absurd c (of_decide_eq_true rfl)) (fun _ => ?_)
  refine lv_iload_n hx hb dX12_holdsAs_5 rfl (lv_at hl 1 rfl) ?_
  refine lv_iconst (v := 5) hx hb dX12_holdsAs_6 (of_decide_eq_true rfl) ?_
  refine lv_icmp_ne (tgt := 24) hx hb dX12_holdsAs_7 (of_decide_eq_true rfl) (fun _ => ?_) (fun c => absurd c (of_decide_eq_true rfl))
  refine lv_iload_n hx hb dX12_holdsAs_24 rfl (lv_at hl 1 rfl) ?_
  refine lv_bipush (v := 6) hx hb dX12_holdsAs_25 (of_decide_eq_true rfl) ?_
  refine lv_icmp_ne (tgt := 55) hx hb dX12_holdsAs_27 (of_decide_eq_true rfl) (fun _ => ?_) (fun c => absurd c (of_decide_eq_true rfl))
  refine lv_aload_n hx hb dX12_holdsAs_55 rfl (lv_at hl 0 rfl) ?_
  refine lv_bipush (v := 10) hx hb dX12_holdsAs_56 (of_decide_eq_true rfl) ?_
  refine jcallVv (As := [.int 10]) (rest := []) ⟨hx, hb, hml, hown, hts⟩ hK hP hA hS hZ (c_X12_begins_10_1 l D cI cL ad zz hJ σ τ h55_55) cw_RX12_379 (jc_55 cI cL ad σ τ) rfl ⟨Nat.le_of_ble_eq_true rfl, Nat.le_of_ble_eq_true rfl⟩ rfl rfl rfl hl.1 rfl (Nat.le_of_ble_eq_true rfl) dX12_holdsAs_58 ⟨Nat.zero_le _, Nat.zero_le _⟩ (fun σ1 τ1 H locs h1 hP hS => ?_)
  obtain ⟨rfl, f3, f4, f5, m6, m7, h1⟩ := h1
  refine lv_aload_n hx hb dX12_holdsAs_61 rfl (lv_at hl 0 rfl) ?_
  refine lv_aload_n hx hb dX12_holdsAs_62 rfl (lv_at hl 0 rfl) ?_
  refine va_get (D := D) hx hb hts inlX12 hown hK hP 55 (jc_55 cI cL ad σ1 τ) rfl 56 (of_decide_eq_true rfl) (hts _ kw_49_8) (fun _ h9 => h9) rfl dX12_holdsAs_63 ?_
  have m9 : σ1 55 56 = (σ 55 56) := (f4 56 (of_decide_eq_true rfl))
  refine jtopr m9 ?_
  exact by
   refine jtopr (jsame (rfl : (σ 55 56).toInt = (σ 55 56).toInt) jz_5 (by omega)) ?_
   refine lv_iload_n hx hb dX12_holdsAs_66 rfl (lv_at hl 2 rfl) ?_
   have z10 : (σ1 55 56).toInt = (σ 55 56).toInt := (congrArg Int32.toInt (show σ1 55 56 = (σ 55 56) from m9))
   refine jcallV (As := [.int 5, .int a2]) (rest := []) ⟨hx, hb, hml, hown, hts⟩ hK hP hA hS hZ (c_X12_putsAs_5_5_2 l D cI cL ad zz hJ σ1 τ a2 (A2) t2 m6 (by omega)) cw_RX12_382 (jc_55 cI cL ad σ1 τ) rfl ⟨Nat.le_of_ble_eq_true rfl, Nat.le_of_ble_eq_true rfl⟩ rfl rfl rfl hl.1 rfl (Nat.le_of_ble_eq_true rfl) dX12_holdsAs_67 ⟨Nat.zero_le _, Nat.zero_le _⟩ (fun r12 σ11 τ11 H locs h11 hP hS => ?_)
   obtain ⟨rfl, f13, f14, f15, m16, m17, h11⟩ := h11
   have h19 := h11
   obtain ⟨q21, k20⟩ := h19
   have q21 := q21.symm
   subst q21
   exact by
    refine lv_iconst (v := 2) hx hb dX12_holdsAs_70 (of_decide_eq_true rfl) ?_
    have g22 := jrg (rfl : (a2 + (σ1 55 57)).toInt = (a2 + (σ1 55 57)).toInt)
    refine lv_imul hx hb dX12_holdsAs_71 ?_
    refine lv_topi (fun x23 ex23 => ?_)
    have gx23 := jrg (rfl : x23.toInt = x23.toInt)
    have m24 : σ11 85 1 = 10 := ((f15 1 (of_decide_eq_true rfl)).trans m7)
    exact hret x23 σ11 τ _ _ _ _ rfl ⟨rfl, (fun i hi => ((f13 i hi).trans (f3 i hi))), (fun i hi => ((f14 i hi).trans (f4 i hi))), (fun i hi => ((f15 i (imp_43 i hi)).trans (f5 i (imp_55 i hi)))), m16, m24, m17, ⟨(by rw [ex23, (show σ1 55 57 = σ 55 57 from (f4 57 (of_decide_eq_true rfl)))]), trivial⟩⟩ hP hS dX12_holdsAs_72
set_option maxHeartbeats 4000000 in
set_option maxRecDepth 100000 in
theorem c_X12_holdsAs_5_5_0 (l : Launch) (D : va_G) (cI cL : ClassId) (ad zz : Nat → Nat) (hJ : jD ad) (σ : Nat → Nat → Int32) (τ : Nat → Nat → Int64) (a2 : Int32) (A2 : Int) (t2 : a2.toInt = A2) (h55_55 : σ 55 55 = 0) (hp0 : (σ 55 56).toInt = 5) : jM l yX12_holdsAs cX12_holdsAs 4 (some .int) ({ frames := 3, cells := 0, slots := 0, locals := 66 }) D cI cL ad zz [.ref (ad 55), .int 5, .int a2] σ τ (fun r σ' τ' => τ = τ' ∧ (∀ i : Nat, (i < 55 ∨ 55 < i) ∧ (i < 85 ∨ 85 < i) → σ' i = σ i) ∧ (∀ k : Nat, (k < 55 ∨ 55 < k) → σ' 55 k = σ 55 k) ∧ (∀ k : Nat, (k < 0 ∨ 0 < k) ∧ (k < 1 ∨ 1 < k) ∧ (k < 2 ∨ 2 < k) → σ' 85 k = σ 85 k) ∧ (σ' 55 55 = 3) ∧ (σ' 85 0 = 40) ∧ (σ' 85 1 = 10) ∧ (σ' 85 2 = 1) ∧ ((r = (-((a2 + (σ 55 57)) * 2)) ∧ True))) := by
  refine jM.of hJ (by decide +kernel) (nt := .int) rfl (Nat.le_of_ble_eq_true rfl) ?_
  intro p e s m args below meth c Q ls hC hret hl hP
  obtain ⟨hx, hb, hr, hml, hown, hts, hK, -, hlocks, hZ⟩ := hC
  have hown : s.vm.findClass RX12 = some m.cls := hown
  have hS : va_S (jA ad) s.heap s.heap [] := va_S.rf
  have hA : ∀ q, jA ad q → jA ad q := fun _ h => h
  have hl : lv_has ls 4 [(0, .ref (ad 55)), (1, .int 5), (2, .int a2)] := hl
  have g2 := jrg t2
  refine lv_iload_n hx hb dX12_holdsAs_0 rfl (lv_at hl 1 rfl) ?_
  refine lv_iconst (v := 3) hx hb dX12_holdsAs_1 (of_decide_eq_true rfl) ?_
  refine lv_icmp_eq (tgt := 10) hx hb dX12_holdsAs_2 (of_decide_eq_true rfl) (fun c => absurd c (of_decide_eq_true rfl)) (fun _ => ?_)
  refine lv_iload_n hx hb dX12_holdsAs_5 rfl (lv_at hl 1 rfl) ?_
  refine lv_iconst (v := 5) hx hb dX12_holdsAs_6 (of_decide_eq_true rfl) ?_
  refine lv_icmp_ne (tgt := 24) hx hb dX12_holdsAs_7 (of_decide_eq_true rfl) (fun c => absurd (of_decide_eq_true rfl) c) (fun _ => ?_)
  refine lv_aload_n hx hb dX12_holdsAs_10 rfl (lv_at hl 0 rfl) ?_
  refine lv_bipush (v := 40) hx hb dX12_holdsAs_11 (of_decide_eq_true rfl) ?_
  refine jcallVv (As := [.int 40]) (rest := []) ⟨hx, hb, hml, hown, hts⟩ hK hP hA hS hZ (c_X12_begins_40_0 l D cI cL ad zz hJ σ τ h55_55) cw_RX12_379 (jc_55 cI cL ad σ τ) rfl ⟨Nat.le_of_ble_eq_true rfl, Nat.le_of_ble_eq_true rfl⟩ rfl rfl rfl hl.1 rfl (Nat.le_of_ble_eq_true rfl) dX12_holdsAs_13 ⟨Nat.zero_le _, Nat.zero_le _⟩ (fun σ1 τ1 H locs h1 hP hS => ?_)
  obtain ⟨rfl, f3, f4, f5, m6, m7, h1⟩ := h1
  refine lv_aload_n hx hb dX12_holdsAs_16 rfl (lv_at hl 0 rfl) ?_
  refine lv_iconst (v := 0) hx hb dX12_holdsAs_17 (of_decide_eq_true rfl) ?_
  refine lv_iload_n hx hb dX12_holdsAs_18 rfl (lv_at hl 2 rfl) ?_
  have z9 : (σ1 55 56).toInt = (σ 55 56).toInt := (congrArg Int32.toInt (show σ1 55 56 = (σ 55 56) from (f4 56 (of_decide_eq_true rfl))))
  exact by
   refine jcallV (As := [.int 0, .int a2]) (rest := []) ⟨hx, hb, hml, hown, hts⟩ hK hP hA hS hZ (c_X12_holdsAs_5_0_1 l D cI cL ad zz hJ σ1 τ a2 (A2) t2 m6 (by omega)) cw_RX12_388 (jc_55 cI cL ad σ1 τ) rfl ⟨Nat.le_of_ble_eq_true rfl, Nat.le_of_ble_eq_true rfl⟩ rfl rfl rfl hl.1 rfl (Nat.le_of_ble_eq_true rfl) dX12_holdsAs_19 ⟨Nat.zero_le _, Nat.zero_le _⟩ (fun r11 σ10 τ10 H locs h10 hP hS => ?_)
   obtain ⟨rfl, f12, f13, f14, m15, m16, m17, h10⟩ := h10
   have h19 := h10
   obtain ⟨q21, k20⟩ := h19
   have q21 := q21.symm
   subst q21
   refine lv_ineg hx hb dX12_holdsAs_22 ?_
   refine lv_topi (fun x22 ex22 => ?_)
   have gx22 := jrg (rfl : x22.toInt = x22.toInt)
   have m23 : σ10 85 0 = 40 := ((f14 0 (of_decide_eq_true rfl)).trans m7)
   exact hret x22 σ10 τ _ _ _ _ rfl ⟨rfl, (fun i hi => ((f12 i hi).trans (f3 i hi))), (fun i hi => ((f13 i hi).trans (f4 i hi))), (fun i hi => ((f14 i (imp_49 i hi)).trans (f5 i (imp_354 i hi)))), m15, m23, m16, m17, ⟨(by rw [ex22, (show σ1 55 57 = σ 55 57 from (f4 57 (of_decide_eq_true rfl)))]), trivial⟩⟩ hP hS dX12_holdsAs_23
set_option maxHeartbeats 4000000 in
set_option maxRecDepth 100000 in
theorem c_X12_begins_60_0 (l : Launch) (D : va_G) (cI cL : ClassId) (ad zz : Nat → Nat) (hJ : jD ad) (σ : Nat → Nat → Int32) (τ : Nat → Nat → Int64) (h55_55 : σ 55 55 = 0) : jMv l yX12_begins cX12_begins 2 none ({ frames := 0, cells := 0, slots := 0, locals := 0 }) D cI cL ad zz [.ref (ad 55), .int 60] σ τ (fun σ' τ' => τ = τ' ∧ (∀ i : Nat, (i < 55 ∨ 55 < i) ∧ (i < 85 ∨ 85 < i) → σ' i = σ i) ∧ (∀ k : Nat, (k < 55 ∨ 55 < k) → σ' 55 k = σ 55 k) ∧ (∀ k : Nat, (k < 0 ∨ 0 < k) → σ' 85 k = σ 85 k) ∧ (σ' 55 55 = 1) ∧ (σ' 85 0 = 60) ∧ True) := by
  refine jMv.of hJ (by decide +kernel) rfl (Nat.le_of_ble_eq_true rfl) ?_
  intro p e s m args below meth c Q ls hC hret hl hP
  obtain ⟨hx, hb, hr, hml, hown, hts, hK, -, hlocks, hZ⟩ := hC
  have hown : s.vm.findClass RX12 = some m.cls := hown
  have hS : va_S (jA ad) s.heap s.heap [] := va_S.rf
  have hA : ∀ q, jA ad q → jA ad q := fun _ h => h
  have hl : lv_has ls 2 [(0, .ref (ad 55)), (1, .int 60)] := hl
  refine lv_aload_n hx hb dX12_begins_0 rfl (lv_at hl 0 rfl) ?_
  refine va_get (D := D) hx hb hts inlX12 hown hK hP 55 (jc_55 cI cL ad σ τ) rfl 55 (of_decide_eq_true rfl) (hts _ kw_49_7) (fun _ h9 => h9) rfl dX12_begins_1 ?_
  refine jtopr h55_55 ?_
  refine lv_bipush (v := 24) hx hb dX12_begins_4 (of_decide_eq_true rfl) ?_
  refine lv_icmp_ge (tgt := 19) hx hb dX12_begins_6 (of_decide_eq_true rfl) (fun c => absurd c (of_decide_eq_true rfl)) (fun _ => ?_)
  refine lv_aload_n hx hb dX12_begins_9 rfl (lv_at hl 0 rfl) ?_
  refine va_get (D := D) hx hb hts inlX12 hown hK hP 55 (jc_55 cI cL ad σ τ) rfl 54 (of_decide_eq_true rfl) (hts _ kw_8_10) (fun _ h9 => h9) rfl dX12_begins_10 ?_
  refine lv_aload_n hx hb dX12_begins_13 rfl (lv_at hl 0 rfl) ?_
  refine va_get (D := D) hx hb hts inlX12 hown hK hP 55 (jc_55 cI cL ad σ τ) rfl 55 (of_decide_eq_true rfl) (hts _ kw_49_7) (fun _ h9 => h9) rfl dX12_begins_14 ?_
  refine jtopr h55_55 ?_
  refine lv_iload_n hx hb dX12_begins_17 rfl (lv_at hl 1 rfl) ?_
  exact by
   refine jast hx hb hK hP hJ hA hS (jc_85 cI cL ad σ τ) (ja_85 cI cL ad σ τ _ _) (jin jz_0 (by omega) (by omega)) dX12_begins_18 (fun σ1 H locs eσ1 hP hS => ?_)
   have eσ1 : σ1 = jup σ 85 0 60 := eσ1
   refine lv_aload_n hx hb dX12_begins_19 rfl (lv_at hl 0 rfl) ?_
   refine lv_dup hx hb dX12_begins_20 rfl ?_
   refine va_get (D := D) hx hb hts inlX12 hown hK hP 55 (jc_55 cI cL ad σ1 τ) rfl 55 (of_decide_eq_true rfl) (hts _ kw_49_7) (fun _ h9 => h9) rfl dX12_begins_21 ?_
   have m2 : σ1 55 55 = 0 := ((congrFun (jnp 55 eσ1 (of_decide_eq_true rfl)) 55).trans h55_55)
   refine jtopr m2 ?_
   refine lv_iconst (v := 1) hx hb dX12_begins_24 (of_decide_eq_true rfl) ?_
   refine lv_iadd hx hb dX12_begins_25 ?_
   refine jtopr (y := 1) (of_decide_eq_true rfl) ?_
   refine jput (ty := .int) hx hb hts inlX12 tyX12 tyX12_ok nmX12 hown hK hP hJ hA hS (jc_55 cI cL ad σ1 τ) rfl (k := 55) (of_decide_eq_true rfl) (Nat.le_of_ble_eq_true rfl) (jp_55_55 cI cL ad σ1 τ 1) (hts _ kw_49_7) (fun _ h9 => h9) rfl (by decide +kernel) rfl rfl dX12_begins_26 (fun σ3 H locs eσ3 hP hS => ?_)
   have m4 : σ3 55 55 = 1 := (jsp eσ3)
   have m5 : σ3 85 0 = 60 := ((congrFun (jnp 85 eσ3 (of_decide_eq_true rfl)) 0).trans (jsp eσ1))
   exact hret σ3 τ _ _ _ _ ⟨rfl, (fun i hi => ((jnp i eσ3 (imp_350 i hi)).trans (jnp i eσ1 (imp_351 i hi)))), (fun i hi => ((jkp i eσ3 (imp_165 i hi)).trans (congrFun (jnp 55 eσ1 (of_decide_eq_true rfl)) i))), (fun i hi => ((congrFun (jnp 85 eσ3 (of_decide_eq_true rfl)) i).trans (jkp i eσ1 (imp_4 i hi)))), m4, m5, trivial⟩ hP hS dX12_begins_29
set_option maxHeartbeats 4000000 in
set_option maxRecDepth 100000 in
theorem c_X12_begins_30_1 (l : Launch) (D : va_G) (cI cL : ClassId) (ad zz : Nat → Nat) (hJ : jD ad) (σ : Nat → Nat → Int32) (τ : Nat → Nat → Int64) (h55_55 : σ 55 55 = 1) : jMv l yX12_begins cX12_begins 2 none ({ frames := 0, cells := 0, slots := 0, locals := 0 }) D cI cL ad zz [.ref (ad 55), .int 30] σ τ (fun σ' τ' => τ = τ' ∧ (∀ i : Nat, (i < 55 ∨ 55 < i) ∧ (i < 85 ∨ 85 < i) → σ' i = σ i) ∧ (∀ k : Nat, (k < 55 ∨ 55 < k) → σ' 55 k = σ 55 k) ∧ (∀ k : Nat, (k < 1 ∨ 1 < k) → σ' 85 k = σ 85 k) ∧ (σ' 55 55 = 2) ∧ (σ' 85 1 = 30) ∧ True) := by
  refine jMv.of hJ (by decide +kernel) rfl (Nat.le_of_ble_eq_true rfl) ?_
  intro p e s m args below meth c Q ls hC hret hl hP
  obtain ⟨hx, hb, hr, hml, hown, hts, hK, -, hlocks, hZ⟩ := hC
  have hown : s.vm.findClass RX12 = some m.cls := hown
  have hS : va_S (jA ad) s.heap s.heap [] := va_S.rf
  have hA : ∀ q, jA ad q → jA ad q := fun _ h => h
  have hl : lv_has ls 2 [(0, .ref (ad 55)), (1, .int 30)] := hl
  refine lv_aload_n hx hb dX12_begins_0 rfl (lv_at hl 0 rfl) ?_
  refine va_get (D := D) hx hb hts inlX12 hown hK hP 55 (jc_55 cI cL ad σ τ) rfl 55 (of_decide_eq_true rfl) (hts _ kw_49_7) (fun _ h9 => h9) rfl dX12_begins_1 ?_
  refine jtopr h55_55 ?_
  refine lv_bipush (v := 24) hx hb dX12_begins_4 (of_decide_eq_true rfl) ?_
  refine lv_icmp_ge (tgt := 19) hx hb dX12_begins_6 (of_decide_eq_true rfl) (fun c => absurd c (of_decide_eq_true rfl)) (fun _ => ?_)
  refine lv_aload_n hx hb dX12_begins_9 rfl (lv_at hl 0 rfl) ?_
  refine va_get (D := D) hx hb hts inlX12 hown hK hP 55 (jc_55 cI cL ad σ τ) rfl 54 (of_decide_eq_true rfl) (hts _ kw_8_10) (fun _ h9 => h9) rfl dX12_begins_10 ?_
  refine lv_aload_n hx hb dX12_begins_13 rfl (lv_at hl 0 rfl) ?_
  refine va_get (D := D) hx hb hts inlX12 hown hK hP 55 (jc_55 cI cL ad σ τ) rfl 55 (of_decide_eq_true rfl) (hts _ kw_49_7) (fun _ h9 => h9) rfl dX12_begins_14 ?_
  refine jtopr h55_55 ?_
  refine lv_iload_n hx hb dX12_begins_17 rfl (lv_at hl 1 rfl) ?_
  exact by
   refine jast hx hb hK hP hJ hA hS (jc_85 cI cL ad σ τ) (ja_85 cI cL ad σ τ _ _) (jin jz_1 (by omega) (by omega)) dX12_begins_18 (fun σ1 H locs eσ1 hP hS => ?_)
   have eσ1 : σ1 = jup σ 85 1 30 := eσ1
   refine lv_aload_n hx hb dX12_begins_19 rfl (lv_at hl 0 rfl) ?_
   refine lv_dup hx hb dX12_begins_20 rfl ?_
   refine va_get (D := D) hx hb hts inlX12 hown hK hP 55 (jc_55 cI cL ad σ1 τ) rfl 55 (of_decide_eq_true rfl) (hts _ kw_49_7) (fun _ h9 => h9) rfl dX12_begins_21 ?_
   have m2 : σ1 55 55 = 1 := ((congrFun (jnp 55 eσ1 (of_decide_eq_true rfl)) 55).trans h55_55)
   refine jtopr m2 ?_
   refine lv_iconst (v := 1) hx hb dX12_begins_24 (of_decide_eq_true rfl) ?_
   refine lv_iadd hx hb dX12_begins_25 ?_
   refine jtopr (y := 2) (of_decide_eq_true rfl) ?_
   refine jput (ty := .int) hx hb hts inlX12 tyX12 tyX12_ok nmX12 hown hK hP hJ hA hS (jc_55 cI cL ad σ1 τ) rfl (k := 55) (of_decide_eq_true rfl) (Nat.le_of_ble_eq_true rfl) (jp_55_55 cI cL ad σ1 τ 2) (hts _ kw_49_7) (fun _ h9 => h9) rfl (by decide +kernel) rfl rfl dX12_begins_26 (fun σ3 H locs eσ3 hP hS => ?_)
   have m4 : σ3 55 55 = 2 := (jsp eσ3)
   have m5 : σ3 85 1 = 30 := ((congrFun (jnp 85 eσ3 (of_decide_eq_true rfl)) 1).trans (jsp eσ1))
   exact hret σ3 τ _ _ _ _ ⟨rfl, (fun i hi => ((jnp i eσ3 (imp_350 i hi)).trans (jnp i eσ1 (imp_351 i hi)))), (fun i hi => ((jkp i eσ3 (imp_165 i hi)).trans (congrFun (jnp 55 eσ1 (of_decide_eq_true rfl)) i))), (fun i hi => ((congrFun (jnp 85 eσ3 (of_decide_eq_true rfl)) i).trans (jkp i eσ1 (imp_42 i hi)))), m4, m5, trivial⟩ hP hS dX12_begins_29
set_option maxHeartbeats 4000000 in
set_option maxRecDepth 100000 in
theorem c_X12_begins_11_2 (l : Launch) (D : va_G) (cI cL : ClassId) (ad zz : Nat → Nat) (hJ : jD ad) (σ : Nat → Nat → Int32) (τ : Nat → Nat → Int64) (h55_55 : σ 55 55 = 2) : jMv l yX12_begins cX12_begins 2 none ({ frames := 0, cells := 0, slots := 0, locals := 0 }) D cI cL ad zz [.ref (ad 55), .int 11] σ τ (fun σ' τ' => τ = τ' ∧ (∀ i : Nat, (i < 55 ∨ 55 < i) ∧ (i < 85 ∨ 85 < i) → σ' i = σ i) ∧ (∀ k : Nat, (k < 55 ∨ 55 < k) → σ' 55 k = σ 55 k) ∧ (∀ k : Nat, (k < 2 ∨ 2 < k) → σ' 85 k = σ 85 k) ∧ (σ' 55 55 = 3) ∧ (σ' 85 2 = 11) ∧ True) := by
  refine jMv.of hJ (by decide +kernel) rfl (Nat.le_of_ble_eq_true rfl) ?_
  intro p e s m args below meth c Q ls hC hret hl hP
  obtain ⟨hx, hb, hr, hml, hown, hts, hK, -, hlocks, hZ⟩ := hC
  have hown : s.vm.findClass RX12 = some m.cls := hown
  have hS : va_S (jA ad) s.heap s.heap [] := va_S.rf
  have hA : ∀ q, jA ad q → jA ad q := fun _ h => h
  have hl : lv_has ls 2 [(0, .ref (ad 55)), (1, .int 11)] := hl
  refine lv_aload_n hx hb dX12_begins_0 rfl (lv_at hl 0 rfl) ?_
  refine va_get (D := D) hx hb hts inlX12 hown hK hP 55 (jc_55 cI cL ad σ τ) rfl 55 (of_decide_eq_true rfl) (hts _ kw_49_7) (fun _ h9 => h9) rfl dX12_begins_1 ?_
  refine jtopr h55_55 ?_
  refine lv_bipush (v := 24) hx hb dX12_begins_4 (of_decide_eq_true rfl) ?_
  refine lv_icmp_ge (tgt := 19) hx hb dX12_begins_6 (of_decide_eq_true rfl) (fun c => absurd c (of_decide_eq_true rfl)) (fun _ => ?_)
  refine lv_aload_n hx hb dX12_begins_9 rfl (lv_at hl 0 rfl) ?_
  refine va_get (D := D) hx hb hts inlX12 hown hK hP 55 (jc_55 cI cL ad σ τ) rfl 54 (of_decide_eq_true rfl) (hts _ kw_8_10) (fun _ h9 => h9) rfl dX12_begins_10 ?_
  refine lv_aload_n hx hb dX12_begins_13 rfl (lv_at hl 0 rfl) ?_
  refine va_get (D := D) hx hb hts inlX12 hown hK hP 55 (jc_55 cI cL ad σ τ) rfl 55 (of_decide_eq_true rfl) (hts _ kw_49_7) (fun _ h9 => h9) rfl dX12_begins_14 ?_
  refine jtopr h55_55 ?_
  refine lv_iload_n hx hb dX12_begins_17 rfl (lv_at hl 1 rfl) ?_
  exact by
   refine jast hx hb hK hP hJ hA hS (jc_85 cI cL ad σ τ) (ja_85 cI cL ad σ τ _ _) (jin jz_2 (by omega) (by omega)) dX12_begins_18 (fun σ1 H locs eσ1 hP hS => ?_)
   have eσ1 : σ1 = jup σ 85 2 11 := eσ1
   refine lv_aload_n hx hb dX12_begins_19 rfl (lv_at hl 0 rfl) ?_
   refine lv_dup hx hb dX12_begins_20 rfl ?_
   refine va_get (D := D) hx hb hts inlX12 hown hK hP 55 (jc_55 cI cL ad σ1 τ) rfl 55 (of_decide_eq_true rfl) (hts _ kw_49_7) (fun _ h9 => h9) rfl dX12_begins_21 ?_
   have m2 : σ1 55 55 = 2 := ((congrFun (jnp 55 eσ1 (of_decide_eq_true rfl)) 55).trans h55_55)
   refine jtopr m2 ?_
   refine lv_iconst (v := 1) hx hb dX12_begins_24 (of_decide_eq_true rfl) ?_
   refine lv_iadd hx hb dX12_begins_25 ?_
   refine jtopr (y := 3) (of_decide_eq_true rfl) ?_
   refine jput (ty := .int) hx hb hts inlX12 tyX12 tyX12_ok nmX12 hown hK hP hJ hA hS (jc_55 cI cL ad σ1 τ) rfl (k := 55) (of_decide_eq_true rfl) (Nat.le_of_ble_eq_true rfl) (jp_55_55 cI cL ad σ1 τ 3) (hts _ kw_49_7) (fun _ h9 => h9) rfl (by decide +kernel) rfl rfl dX12_begins_26 (fun σ3 H locs eσ3 hP hS => ?_)
   have m4 : σ3 55 55 = 3 := (jsp eσ3)
   have m5 : σ3 85 2 = 11 := ((congrFun (jnp 85 eσ3 (of_decide_eq_true rfl)) 2).trans (jsp eσ1))
   exact hret σ3 τ _ _ _ _ ⟨rfl, (fun i hi => ((jnp i eσ3 (imp_350 i hi)).trans (jnp i eσ1 (imp_351 i hi)))), (fun i hi => ((jkp i eσ3 (imp_165 i hi)).trans (congrFun (jnp 55 eσ1 (of_decide_eq_true rfl)) i))), (fun i hi => ((congrFun (jnp 85 eσ3 (of_decide_eq_true rfl)) i).trans (jkp i eσ1 (imp_7 i hi)))), m4, m5, trivial⟩ hP hS dX12_begins_29
set_option maxHeartbeats 4000000 in
set_option maxRecDepth 100000 in
theorem c_X12_givesAs_5_0_2 (l : Launch) (D : va_G) (cI cL : ClassId) (ad zz : Nat → Nat) (hJ : jD ad) (σ : Nat → Nat → Int32) (τ : Nat → Nat → Int64) (a2 : Int32) (A2 : Int) (t2 : a2.toInt = A2) (h55_55 : σ 55 55 = 2) (hp0 : (σ 55 56).toInt = 5) : jM l yX12_givesAs cX12_givesAs 4 (some .int) ({ frames := 1, cells := 0, slots := 0, locals := 21 }) D cI cL ad zz [.ref (ad 55), .int 0, .int a2] σ τ (fun r σ' τ' => τ = τ' ∧ (∀ i : Nat, (i < 55 ∨ 55 < i) ∧ (i < 85 ∨ 85 < i) → σ' i = σ i) ∧ (∀ k : Nat, (k < 55 ∨ 55 < k) → σ' 55 k = σ 55 k) ∧ (∀ k : Nat, (k < 2 ∨ 2 < k) → σ' 85 k = σ 85 k) ∧ (σ' 55 55 = 3) ∧ (σ' 85 2 = 11) ∧ ((r = (a2 ^^^ (σ 55 57)) ∧ True))) := by
  refine jM.of hJ (by decide +kernel) (nt := .int) rfl (Nat.le_of_ble_eq_true rfl) ?_
  intro p e s m args below meth c Q ls hC hret hl hP
  obtain ⟨hx, hb, hr, hml, hown, hts, hK, -, hlocks, hZ⟩ := hC
  have hown : s.vm.findClass RX12 = some m.cls := hown
  have hS : va_S (jA ad) s.heap s.heap [] := va_S.rf
  have hA : ∀ q, jA ad q → jA ad q := fun _ h => h
  have hl : lv_has ls 4 [(0, .ref (ad 55)), (1, .int 0), (2, .int a2)] := hl
  have g2 := jrg t2
  refine lv_iload_n hx hb dX12_givesAs_0 rfl (lv_at hl 1 rfl) ?_
  refine lv_iconst (v := 5) hx hb dX12_givesAs_1 (of_decide_eq_true rfl) ?_
  refine lv_icmp_ne (tgt := 30) hx hb dX12_givesAs_2 (of_decide_eq_true rfl) (fun _ => ?_) (fun c => absurd c (of_decide_eq_true rfl))
  refine lv_iload_n hx hb dX12_givesAs_30 rfl (lv_at hl 1 rfl) ?_
  refine lv_iconst (v := 2) hx hb dX12_givesAs_31 (of_decide_eq_true rfl) ?_
  refine lv_icmp_eq (tgt := 40) hx hb dX12_givesAs_32 (of_decide_eq_true rfl) (fun c => absurd c (of_decide_eq_true rfl)) (fun _ => ?_)
  refine lv_iload_n hx hb dX12_givesAs_35 rfl (lv_at hl 1 rfl) ?_
  refine lv_iconst (v := 3) hx hb dX12_givesAs_36 (of_decide_eq_true rfl) ?_
  refine lv_icmp_ne (tgt := 55) hx hb dX12_givesAs_37 (of_decide_eq_true rfl) (fun _ => ?_) (fun c => absurd c (of_decide_eq_true rfl))
  refine lv_aload_n hx hb dX12_givesAs_55 rfl (lv_at hl 0 rfl) ?_
  refine lv_bipush (v := 11) hx hb dX12_givesAs_56 (of_decide_eq_true rfl) ?_
  refine jcallVv (As := [.int 11]) (rest := []) ⟨hx, hb, hml, hown, hts⟩ hK hP hA hS hZ (c_X12_begins_11_2 l D cI cL ad zz hJ σ τ h55_55) cw_RX12_379 (jc_55 cI cL ad σ τ) rfl ⟨Nat.le_of_ble_eq_true rfl, Nat.le_of_ble_eq_true rfl⟩ rfl rfl rfl hl.1 rfl (Nat.le_of_ble_eq_true rfl) dX12_givesAs_58 ⟨Nat.zero_le _, Nat.zero_le _⟩ (fun σ1 τ1 H locs h1 hP hS => ?_)
  obtain ⟨rfl, f3, f4, f5, m6, m7, h1⟩ := h1
  refine lv_iload_n hx hb dX12_givesAs_61 rfl (lv_at hl 2 rfl) ?_
  refine lv_aload_n hx hb dX12_givesAs_62 rfl (lv_at hl 0 rfl) ?_
  refine va_get (D := D) hx hb hts inlX12 hown hK hP 55 (jc_55 cI cL ad σ1 τ) rfl 57 (of_decide_eq_true rfl) (hts _ kw_49_9) (fun _ h9 => h9) rfl dX12_givesAs_63 ?_
  have m9 : σ1 55 57 = (σ 55 57) := (f4 57 (of_decide_eq_true rfl))
  refine jtopr m9 ?_
  refine lv_ixor hx hb dX12_givesAs_66 ?_
  refine lv_topi (fun x10 ex10 => ?_)
  have gx10 := jrg (rfl : x10.toInt = x10.toInt)
  exact hret x10 σ1 τ _ _ _ _ rfl ⟨rfl, (fun i hi => (f3 i hi)), (fun i hi => (f4 i hi)), (fun i hi => (f5 i hi)), m6, m7, ⟨(by rw [ex10]), trivial⟩⟩ hP hS dX12_givesAs_67
set_option maxHeartbeats 4000000 in
set_option maxRecDepth 100000 in
theorem c_X12_givesAs_5_3_1 (l : Launch) (D : va_G) (cI cL : ClassId) (ad zz : Nat → Nat) (hJ : jD ad) (σ : Nat → Nat → Int32) (τ : Nat → Nat → Int64) (a2 : Int32) (A2 : Int) (t2 : a2.toInt = A2) (h55_55 : σ 55 55 = 1) (hp0 : (σ 55 56).toInt = 5) : jM l yX12_givesAs cX12_givesAs 4 (some .int) ({ frames := 2, cells := 0, slots := 0, locals := 44 }) D cI cL ad zz [.ref (ad 55), .int 3, .int a2] σ τ (fun r σ' τ' => τ = τ' ∧ (∀ i : Nat, (i < 55 ∨ 55 < i) ∧ (i < 85 ∨ 85 < i) → σ' i = σ i) ∧ (∀ k : Nat, (k < 55 ∨ 55 < k) → σ' 55 k = σ 55 k) ∧ (∀ k : Nat, (k < 1 ∨ 1 < k) ∧ (k < 2 ∨ 2 < k) → σ' 85 k = σ 85 k) ∧ (σ' 55 55 = 3) ∧ (σ' 85 1 = 30) ∧ (σ' 85 2 = 11) ∧ ((r = ((a2 ^^^ (σ 55 57)) * 3) ∧ True))) := by
  refine jM.of hJ (by decide +kernel) (nt := .int) rfl (Nat.le_of_ble_eq_true rfl) ?_
  intro p e s m args below meth c Q ls hC hret hl hP
  obtain ⟨hx, hb, hr, hml, hown, hts, hK, -, hlocks, hZ⟩ := hC
  have hown : s.vm.findClass RX12 = some m.cls := hown
  have hS : va_S (jA ad) s.heap s.heap [] := va_S.rf
  have hA : ∀ q, jA ad q → jA ad q := fun _ h => h
  have hl : lv_has ls 4 [(0, .ref (ad 55)), (1, .int 3), (2, .int a2)] := hl
  have g2 := jrg t2
  refine lv_iload_n hx hb dX12_givesAs_0 rfl (lv_at hl 1 rfl) ?_
  refine lv_iconst (v := 5) hx hb dX12_givesAs_1 (of_decide_eq_true rfl) ?_
  refine lv_icmp_ne (tgt := 30) hx hb dX12_givesAs_2 (of_decide_eq_true rfl) (fun _ => ?_) (fun c => absurd c (of_decide_eq_true rfl))
  refine lv_iload_n hx hb dX12_givesAs_30 rfl (lv_at hl 1 rfl) ?_
  refine lv_iconst (v := 2) hx hb dX12_givesAs_31 (of_decide_eq_true rfl) ?_
  refine lv_icmp_eq (tgt := 40) hx hb dX12_givesAs_32 (of_decide_eq_true rfl) (fun c => absurd c (of_decide_eq_true rfl)) (fun _ => ?_)
  refine lv_iload_n hx hb dX12_givesAs_35 rfl (lv_at hl 1 rfl) ?_
  refine lv_iconst (v := 3) hx hb dX12_givesAs_36 (of_decide_eq_true rfl) ?_
  refine lv_icmp_ne (tgt := 55) hx hb dX12_givesAs_37 (of_decide_eq_true rfl) (fun c => absurd (of_decide_eq_true rfl) c) (fun _ => ?_)
  refine lv_aload_n hx hb dX12_givesAs_40 rfl (lv_at hl 0 rfl) ?_
  refine lv_bipush (v := 30) hx hb dX12_givesAs_41 (of_decide_eq_true rfl) ?_
  refine jcallVv (As := [.int 30]) (rest := []) ⟨hx, hb, hml, hown, hts⟩ hK hP hA hS hZ (c_X12_begins_30_1 l D cI cL ad zz hJ σ τ h55_55) cw_RX12_379 (jc_55 cI cL ad σ τ) rfl ⟨Nat.le_of_ble_eq_true rfl, Nat.le_of_ble_eq_true rfl⟩ rfl rfl rfl hl.1 rfl (Nat.le_of_ble_eq_true rfl) dX12_givesAs_43 ⟨Nat.zero_le _, Nat.zero_le _⟩ (fun σ1 τ1 H locs h1 hP hS => ?_)
  obtain ⟨rfl, f3, f4, f5, m6, m7, h1⟩ := h1
  refine lv_aload_n hx hb dX12_givesAs_46 rfl (lv_at hl 0 rfl) ?_
  refine lv_iconst (v := 0) hx hb dX12_givesAs_47 (of_decide_eq_true rfl) ?_
  refine lv_iload_n hx hb dX12_givesAs_48 rfl (lv_at hl 2 rfl) ?_
  have z9 : (σ1 55 56).toInt = (σ 55 56).toInt := (congrArg Int32.toInt (show σ1 55 56 = (σ 55 56) from (f4 56 (of_decide_eq_true rfl))))
  exact by
   refine jcallV (As := [.int 0, .int a2]) (rest := []) ⟨hx, hb, hml, hown, hts⟩ hK hP hA hS hZ (c_X12_givesAs_5_0_2 l D cI cL ad zz hJ σ1 τ a2 (A2) t2 m6 (by omega)) cw_RX12_394 (jc_55 cI cL ad σ1 τ) rfl ⟨Nat.le_of_ble_eq_true rfl, Nat.le_of_ble_eq_true rfl⟩ rfl rfl rfl hl.1 rfl (Nat.le_of_ble_eq_true rfl) dX12_givesAs_49 ⟨Nat.zero_le _, Nat.zero_le _⟩ (fun r11 σ10 τ10 H locs h10 hP hS => ?_)
   obtain ⟨rfl, f12, f13, f14, m15, m16, h10⟩ := h10
   have h18 := h10
   obtain ⟨q20, k19⟩ := h18
   have q20 := q20.symm
   subst q20
   refine lv_iconst (v := 3) hx hb dX12_givesAs_52 (of_decide_eq_true rfl) ?_
   have g21 := jrg (rfl : (a2 ^^^ (σ1 55 57)).toInt = (a2 ^^^ (σ1 55 57)).toInt)
   refine lv_imul hx hb dX12_givesAs_53 ?_
   refine lv_topi (fun x22 ex22 => ?_)
   have gx22 := jrg (rfl : x22.toInt = x22.toInt)
   have m23 : σ10 85 1 = 30 := ((f14 1 (of_decide_eq_true rfl)).trans m7)
   exact hret x22 σ10 τ _ _ _ _ rfl ⟨rfl, (fun i hi => ((f12 i hi).trans (f3 i hi))), (fun i hi => ((f13 i hi).trans (f4 i hi))), (fun i hi => ((f14 i (imp_43 i hi)).trans (f5 i (imp_55 i hi)))), m15, m23, m16, ⟨(by rw [ex22, (show σ1 55 57 = σ 55 57 from (f4 57 (of_decide_eq_true rfl)))]), trivial⟩⟩ hP hS dX12_givesAs_54
set_option maxHeartbeats 4000000 in
set_option maxRecDepth 100000 in
theorem c_X12_putsAs_5_5_3_x2 (l : Launch) (D : va_G) (cI cL : ClassId) (ad zz : Nat → Nat) (hJ : jD ad) (σ : Nat → Nat → Int32) (τ : Nat → Nat → Int64) (h55_55 : σ 55 55 = 3) (hp0 : (σ 55 56).toInt = 5) : jM l yX12_putsAs cX12_putsAs 3 (some .int) ({ frames := 1, cells := 0, slots := 0, locals := 21 }) D cI cL ad zz [.ref (ad 55), .int 5, .int 2] σ τ (fun r σ' τ' => τ = τ' ∧ (∀ i : Nat, (i < 55 ∨ 55 < i) ∧ (i < 85 ∨ 85 < i) → σ' i = σ i) ∧ (∀ k : Nat, (k < 55 ∨ 55 < k) → σ' 55 k = σ 55 k) ∧ (∀ k : Nat, (k < 3 ∨ 3 < k) → σ' 85 k = σ 85 k) ∧ (σ' 55 55 = 4) ∧ (σ' 85 3 = 1) ∧ ((r = (2 + (σ 55 57)) ∧ True))) := by
  refine jM.of hJ (by decide +kernel) (nt := .int) rfl (Nat.le_of_ble_eq_true rfl) ?_
  intro p e s m args below meth c Q ls hC hret hl hP
  obtain ⟨hx, hb, hr, hml, hown, hts, hK, -, hlocks, hZ⟩ := hC
  have hown : s.vm.findClass RX12 = some m.cls := hown
  have hS : va_S (jA ad) s.heap s.heap [] := va_S.rf
  have hA : ∀ q, jA ad q → jA ad q := fun _ h => h
  have hl : lv_has ls 3 [(0, .ref (ad 55)), (1, .int 5), (2, .int 2)] := hl
  refine lv_iload_n hx hb dX12_putsAs_0 rfl (lv_at hl 1 rfl) ?_
  refine lv_iconst (v := 4) hx hb dX12_putsAs_1 (of_decide_eq_true rfl) ?_
  refine lv_icmp_ne (tgt := 20) hx hb dX12_putsAs_2 (of_decide_eq_true rfl) (fun _ => ?_) (fun c => absurd c (of_decide_eq_true rfl))
  refine lv_iload_n hx hb dX12_putsAs_20 rfl (lv_at hl 1 rfl) ?_
  refine lv_iconst (v := 1) hx hb dX12_putsAs_21 (of_decide_eq_true rfl) ?_
  refine lv_icmp_ne (tgt := 40) hx hb dX12_putsAs_22 (of_decide_eq_true rfl) (fun _ => ?_) (fun c => absurd c (of_decide_eq_true rfl))
  refine lv_aload_n hx hb dX12_putsAs_40 rfl (lv_at hl 0 rfl) ?_
  refine lv_iconst (v := 1) hx hb dX12_putsAs_41 (of_decide_eq_true rfl) ?_
  refine jcallVv (As := [.int 1]) (rest := []) ⟨hx, hb, hml, hown, hts⟩ hK hP hA hS hZ (c_X12_begins_1_3 l D cI cL ad zz hJ σ τ h55_55) cw_RX12_379 (jc_55 cI cL ad σ τ) rfl ⟨Nat.le_of_ble_eq_true rfl, Nat.le_of_ble_eq_true rfl⟩ rfl rfl rfl hl.1 rfl (Nat.le_of_ble_eq_true rfl) dX12_putsAs_42 ⟨Nat.zero_le _, Nat.zero_le _⟩ (fun σ1 τ1 H locs h1 hP hS => ?_)
  obtain ⟨rfl, f3, f4, f5, m6, m7, h1⟩ := h1
  refine lv_iload_n hx hb dX12_putsAs_45 rfl (lv_at hl 2 rfl) ?_
  refine lv_aload_n hx hb dX12_putsAs_46 rfl (lv_at hl 0 rfl) ?_
  refine va_get (D := D) hx hb hts inlX12 hown hK hP 55 (jc_55 cI cL ad σ1 τ) rfl 57 (of_decide_eq_true rfl) (hts _ kw_49_9) (fun _ h9 => h9) rfl dX12_putsAs_47 ?_
  have m9 : σ1 55 57 = (σ 55 57) := (f4 57 (of_decide_eq_true rfl))
  refine jtopr m9 ?_
  have g10 := jrg (rfl : (σ 55 57).toInt = (σ 55 57).toInt)
  refine lv_iadd hx hb dX12_putsAs_50 ?_
  refine lv_topi (fun x11 ex11 => ?_)
  have gx11 := jrg (rfl : x11.toInt = x11.toInt)
  exact hret x11 σ1 τ _ _ _ _ rfl ⟨rfl, (fun i hi => (f3 i hi)), (fun i hi => (f4 i hi)), (fun i hi => (f5 i hi)), m6, m7, ⟨(by rw [ex11]), trivial⟩⟩ hP hS dX12_putsAs_51
set_option maxHeartbeats 4000000 in
set_option maxRecDepth 100000 in
theorem c_X12_givesAs_5_5_0 (l : Launch) (D : va_G) (cI cL : ClassId) (ad zz : Nat → Nat) (hJ : jD ad) (σ : Nat → Nat → Int32) (τ : Nat → Nat → Int64) (a2 : Int32) (A2 : Int) (t2 : a2.toInt = A2) (h55_55 : σ 55 55 = 0) (hp0 : (σ 55 56).toInt = 5) : jM l yX12_givesAs cX12_givesAs 4 (some .int) ({ frames := 3, cells := 0, slots := 0, locals := 67 }) D cI cL ad zz [.ref (ad 55), .int 5, .int a2] σ τ (fun r σ' τ' => τ = τ' ∧ (∀ i : Nat, (i < 55 ∨ 55 < i) ∧ (i < 85 ∨ 85 < i) → σ' i = σ i) ∧ (∀ k : Nat, (k < 55 ∨ 55 < k) → σ' 55 k = σ 55 k) ∧ (∀ k : Nat, (k < 0 ∨ 0 < k) ∧ (k < 1 ∨ 1 < k) ∧ (k < 2 ∨ 2 < k) ∧ (k < 3 ∨ 3 < k) → σ' 85 k = σ 85 k) ∧ (σ' 55 55 = 4) ∧ (σ' 85 0 = 60) ∧ (σ' 85 1 = 30) ∧ (σ' 85 2 = 11) ∧ (σ' 85 3 = 1) ∧ ((r = (((a2 ^^^ (σ 55 57)) * 3) - (2 + (σ 55 57))) ∧ True))) := by
  refine jM.of hJ (by decide +kernel) (nt := .int) rfl (Nat.le_of_ble_eq_true rfl) ?_
  intro p e s m args below meth c Q ls hC hret hl hP
  obtain ⟨hx, hb, hr, hml, hown, hts, hK, -, hlocks, hZ⟩ := hC
  have hown : s.vm.findClass RX12 = some m.cls := hown
  have hS : va_S (jA ad) s.heap s.heap [] := va_S.rf
  have hA : ∀ q, jA ad q → jA ad q := fun _ h => h
  have hl : lv_has ls 4 [(0, .ref (ad 55)), (1, .int 5), (2, .int a2)] := hl
  have g2 := jrg t2
  refine lv_iload_n hx hb dX12_givesAs_0 rfl (lv_at hl 1 rfl) ?_
  refine lv_iconst (v := 5) hx hb dX12_givesAs_1 (of_decide_eq_true rfl) ?_
  refine lv_icmp_ne (tgt := 30) hx hb dX12_givesAs_2 (of_decide_eq_true rfl) (fun c => absurd (of_decide_eq_true rfl) c) (fun _ => ?_)
  refine lv_aload_n hx hb dX12_givesAs_5 rfl (lv_at hl 0 rfl) ?_
  refine lv_bipush (v := 60) hx hb dX12_givesAs_6 (of_decide_eq_true rfl) ?_
  refine jcallVv (As := [.int 60]) (rest := []) ⟨hx, hb, hml, hown, hts⟩ hK hP hA hS hZ (c_X12_begins_60_0 l D cI cL ad zz hJ σ τ h55_55) cw_RX12_379 (jc_55 cI cL ad σ τ) rfl ⟨Nat.le_of_ble_eq_true rfl, Nat.le_of_ble_eq_true rfl⟩ rfl rfl rfl hl.1 rfl (Nat.le_of_ble_eq_true rfl) dX12_givesAs_8 ⟨Nat.zero_le _, Nat.zero_le _⟩ (fun σ1 τ1 H locs h1 hP hS => ?_)
  obtain ⟨rfl, f3, f4, f5, m6, m7, h1⟩ := h1
  refine lv_aload_n hx hb dX12_givesAs_11 rfl (lv_at hl 0 rfl) ?_
  refine lv_iconst (v := 3) hx hb dX12_givesAs_12 (of_decide_eq_true rfl) ?_
  refine lv_iload_n hx hb dX12_givesAs_13 rfl (lv_at hl 2 rfl) ?_
  have z9 : (σ1 55 56).toInt = (σ 55 56).toInt := (congrArg Int32.toInt (show σ1 55 56 = (σ 55 56) from (f4 56 (of_decide_eq_true rfl))))
  exact by
   refine jcallV (As := [.int 3, .int a2]) (rest := []) ⟨hx, hb, hml, hown, hts⟩ hK hP hA hS hZ (c_X12_givesAs_5_3_1 l D cI cL ad zz hJ σ1 τ a2 (A2) t2 m6 (by omega)) cw_RX12_394 (jc_55 cI cL ad σ1 τ) rfl ⟨Nat.le_of_ble_eq_true rfl, Nat.le_of_ble_eq_true rfl⟩ rfl rfl rfl hl.1 rfl (Nat.le_of_ble_eq_true rfl) dX12_givesAs_14 ⟨Nat.zero_le _, Nat.zero_le _⟩ (fun r11 σ10 τ10 H locs h10 hP hS => ?_)
   obtain ⟨rfl, f12, f13, f14, m15, m16, m17, h10⟩ := h10
   have h19 := h10
   obtain ⟨q21, k20⟩ := h19
   have q21 := q21.symm
   subst q21
   refine lv_istore_n (lv' := [(3, .int ((a2 ^^^ (σ1 55 57)) * 3)), (0, .ref (ad 55)), (1, .int 5), (2, .int a2)]) hx hb dX12_givesAs_17 rfl hl (of_decide_eq_true rfl) rfl (fun ls hl => ?_)
   refine lv_iload_n hx hb dX12_givesAs_18 rfl (lv_at hl 0 rfl) ?_
   refine lv_aload_n hx hb dX12_givesAs_19 rfl (lv_at hl 1 rfl) ?_
   refine lv_aload_n hx hb dX12_givesAs_20 rfl (lv_at hl 1 rfl) ?_
   refine va_get (D := D) hx hb hts inlX12 hown hK hP 55 (jc_55 cI cL ad σ10 τ) rfl 56 (of_decide_eq_true rfl) (hts _ kw_49_8) (fun _ h9 => h9) rfl dX12_givesAs_21 ?_
   have m22 : σ10 55 56 = (σ 55 56) := ((f13 56 (of_decide_eq_true rfl)).trans (f4 56 (of_decide_eq_true rfl)))
   refine jtopr m22 ?_
   exact by
    refine jtopr (jsame (rfl : (σ 55 56).toInt = (σ 55 56).toInt) jz_5 (by omega)) ?_
    refine lv_iconst (v := 2) hx hb dX12_givesAs_24 (of_decide_eq_true rfl) ?_
    have z23 : (σ10 55 56).toInt = (σ 55 56).toInt := (congrArg Int32.toInt (show σ10 55 56 = (σ 55 56) from m22))
    refine jcallV (As := [.int 5, .int 2]) (rest := [.int ((a2 ^^^ (σ1 55 57)) * 3)]) ⟨hx, hb, hml, hown, hts⟩ hK hP hA hS hZ (c_X12_putsAs_5_5_3_x2 l D cI cL ad zz hJ σ10 τ m15 (by omega)) cw_RX12_382 (jc_55 cI cL ad σ10 τ) rfl ⟨Nat.le_of_ble_eq_true rfl, Nat.le_of_ble_eq_true rfl⟩ rfl rfl rfl hl.1 rfl (Nat.le_of_ble_eq_true rfl) dX12_givesAs_25 ⟨Nat.zero_le _, Nat.zero_le _⟩ (fun r25 σ24 τ24 H locs h24 hP hS => ?_)
    obtain ⟨rfl, f26, f27, f28, m29, m30, h24⟩ := h24
    have h32 := h24
    obtain ⟨q34, k33⟩ := h32
    have q34 := q34.symm
    subst q34
    exact by
     have g35 := jrg (rfl : ((a2 ^^^ (σ1 55 57)) * 3).toInt = ((a2 ^^^ (σ1 55 57)) * 3).toInt)
     have g36 := jrg (rfl : (2 + (σ10 55 57)).toInt = (2 + (σ10 55 57)).toInt)
     refine lv_isub hx hb dX12_givesAs_28 ?_
     refine lv_topi (fun x37 ex37 => ?_)
     have gx37 := jrg (rfl : x37.toInt = x37.toInt)
     have m38 : σ24 85 0 = 60 := ((f28 0 (of_decide_eq_true rfl)).trans ((f14 0 (of_decide_eq_true rfl)).trans m7))
     have m39 : σ24 85 1 = 30 := ((f28 1 (of_decide_eq_true rfl)).trans m16)
     have m40 : σ24 85 2 = 11 := ((f28 2 (of_decide_eq_true rfl)).trans m17)
     exact hret x37 σ24 τ _ _ _ _ rfl ⟨rfl, (fun i hi => ((f26 i hi).trans ((f12 i hi).trans (f3 i hi)))), (fun i hi => ((f27 i hi).trans ((f13 i hi).trans (f4 i hi)))), (fun i hi => ((f28 i (imp_309 i hi)).trans ((f14 i (imp_310 i hi)).trans (f5 i (imp_353 i hi))))), m29, m38, m39, m40, m30, ⟨(by rw [ex37, (show σ1 55 57 = σ 55 57 from (f4 57 (of_decide_eq_true rfl))), (show σ10 55 57 = σ 55 57 from ((f13 57 (of_decide_eq_true rfl)).trans (f4 57 (of_decide_eq_true rfl))))]), trivial⟩⟩ hP hS dX12_givesAs_29
set_option maxHeartbeats 4000000 in
set_option maxRecDepth 100000 in
theorem c_X12_putsAs_5_5_3 (l : Launch) (D : va_G) (cI cL : ClassId) (ad zz : Nat → Nat) (hJ : jD ad) (σ : Nat → Nat → Int32) (τ : Nat → Nat → Int64) (a2 : Int32) (A2 : Int) (t2 : a2.toInt = A2) (h55_55 : σ 55 55 = 3) (hp0 : (σ 55 56).toInt = 5) : jM l yX12_putsAs cX12_putsAs 3 (some .int) ({ frames := 1, cells := 0, slots := 0, locals := 21 }) D cI cL ad zz [.ref (ad 55), .int 5, .int a2] σ τ (fun r σ' τ' => τ = τ' ∧ (∀ i : Nat, (i < 55 ∨ 55 < i) ∧ (i < 85 ∨ 85 < i) → σ' i = σ i) ∧ (∀ k : Nat, (k < 55 ∨ 55 < k) → σ' 55 k = σ 55 k) ∧ (∀ k : Nat, (k < 3 ∨ 3 < k) → σ' 85 k = σ 85 k) ∧ (σ' 55 55 = 4) ∧ (σ' 85 3 = 1) ∧ ((r = (a2 + (σ 55 57)) ∧ True))) := by
  refine jM.of hJ (by decide +kernel) (nt := .int) rfl (Nat.le_of_ble_eq_true rfl) ?_
  intro p e s m args below meth c Q ls hC hret hl hP
  obtain ⟨hx, hb, hr, hml, hown, hts, hK, -, hlocks, hZ⟩ := hC
  have hown : s.vm.findClass RX12 = some m.cls := hown
  have hS : va_S (jA ad) s.heap s.heap [] := va_S.rf
  have hA : ∀ q, jA ad q → jA ad q := fun _ h => h
  have hl : lv_has ls 3 [(0, .ref (ad 55)), (1, .int 5), (2, .int a2)] := hl
  have g2 := jrg t2
  refine lv_iload_n hx hb dX12_putsAs_0 rfl (lv_at hl 1 rfl) ?_
  refine lv_iconst (v := 4) hx hb dX12_putsAs_1 (of_decide_eq_true rfl) ?_
  refine lv_icmp_ne (tgt := 20) hx hb dX12_putsAs_2 (of_decide_eq_true rfl) (fun _ => ?_) (fun c => absurd c (of_decide_eq_true rfl))
  refine lv_iload_n hx hb dX12_putsAs_20 rfl (lv_at hl 1 rfl) ?_
  refine lv_iconst (v := 1) hx hb dX12_putsAs_21 (of_decide_eq_true rfl) ?_
  refine lv_icmp_ne (tgt := 40) hx hb dX12_putsAs_22 (of_decide_eq_true rfl) (fun _ => ?_) (fun c => absurd c (of_decide_eq_true rfl))
  refine lv_aload_n hx hb dX12_putsAs_40 rfl (lv_at hl 0 rfl) ?_
  refine lv_iconst (v := 1) hx hb dX12_putsAs_41 (of_decide_eq_true rfl) ?_
  refine jcallVv (As := [.int 1]) (rest := []) ⟨hx, hb, hml, hown, hts⟩ hK hP hA hS hZ (c_X12_begins_1_3 l D cI cL ad zz hJ σ τ h55_55) cw_RX12_379 (jc_55 cI cL ad σ τ) rfl ⟨Nat.le_of_ble_eq_true rfl, Nat.le_of_ble_eq_true rfl⟩ rfl rfl rfl hl.1 rfl (Nat.le_of_ble_eq_true rfl) dX12_putsAs_42 ⟨Nat.zero_le _, Nat.zero_le _⟩ (fun σ1 τ1 H locs h1 hP hS => ?_)
  obtain ⟨rfl, f3, f4, f5, m6, m7, h1⟩ := h1
  refine lv_iload_n hx hb dX12_putsAs_45 rfl (lv_at hl 2 rfl) ?_
  refine lv_aload_n hx hb dX12_putsAs_46 rfl (lv_at hl 0 rfl) ?_
  refine va_get (D := D) hx hb hts inlX12 hown hK hP 55 (jc_55 cI cL ad σ1 τ) rfl 57 (of_decide_eq_true rfl) (hts _ kw_49_9) (fun _ h9 => h9) rfl dX12_putsAs_47 ?_
  have m9 : σ1 55 57 = (σ 55 57) := (f4 57 (of_decide_eq_true rfl))
  refine jtopr m9 ?_
  have g10 := jrg (rfl : (σ 55 57).toInt = (σ 55 57).toInt)
  refine lv_iadd hx hb dX12_putsAs_50 ?_
  refine lv_topi (fun x11 ex11 => ?_)
  have gx11 := jrg (rfl : x11.toInt = x11.toInt)
  exact hret x11 σ1 τ _ _ _ _ rfl ⟨rfl, (fun i hi => (f3 i hi)), (fun i hi => (f4 i hi)), (fun i hi => (f5 i hi)), m6, m7, ⟨(by rw [ex11]), trivial⟩⟩ hP hS dX12_putsAs_51
set_option maxHeartbeats 4000000 in
set_option maxRecDepth 100000 in
theorem c_X12_holdsAs_5_0_2 (l : Launch) (D : va_G) (cI cL : ClassId) (ad zz : Nat → Nat) (hJ : jD ad) (σ : Nat → Nat → Int32) (τ : Nat → Nat → Int64) (a2 : Int32) (A2 : Int) (t2 : a2.toInt = A2) (h55_55 : σ 55 55 = 2) (hp0 : (σ 55 56).toInt = 5) : jM l yX12_holdsAs cX12_holdsAs 4 (some .int) ({ frames := 2, cells := 0, slots := 0, locals := 43 }) D cI cL ad zz [.ref (ad 55), .int 0, .int a2] σ τ (fun r σ' τ' => τ = τ' ∧ (∀ i : Nat, (i < 55 ∨ 55 < i) ∧ (i < 85 ∨ 85 < i) → σ' i = σ i) ∧ (∀ k : Nat, (k < 55 ∨ 55 < k) → σ' 55 k = σ 55 k) ∧ (∀ k : Nat, (k < 2 ∨ 2 < k) ∧ (k < 3 ∨ 3 < k) → σ' 85 k = σ 85 k) ∧ (σ' 55 55 = 4) ∧ (σ' 85 2 = 10) ∧ (σ' 85 3 = 1) ∧ ((r = ((a2 + (σ 55 57)) * 2) ∧ True))) := by
  refine jM.of hJ (by decide +kernel) (nt := .int) rfl (Nat.le_of_ble_eq_true rfl) ?_
  intro p e s m args below meth c Q ls hC hret hl hP
  obtain ⟨hx, hb, hr, hml, hown, hts, hK, -, hlocks, hZ⟩ := hC
  have hown : s.vm.findClass RX12 = some m.cls := hown
  have hS : va_S (jA ad) s.heap s.heap [] := va_S.rf
  have hA : ∀ q, jA ad q → jA ad q := fun _ h => h
  have hl : lv_has ls 4 [(0, .ref (ad 55)), (1, .int 0), (2, .int a2)] := hl
  have g2 := jrg t2
  refine lv_iload_n hx hb dX12_holdsAs_0 rfl (lv_at hl 1 rfl) ?_
  refine lv_iconst (v := 3) hx hb dX12_holdsAs_1 (of_decide_eq_true rfl) ?_
  refine lv_icmp_eq (tgt := 10) hx hb dX12_holdsAs_2 (of_decide_eq_true rfl) (fun c => absurd c (of_decide_eq_true rfl)) (fun _ => ?_)
  refine lv_iload_n hx hb dX12_holdsAs_5 rfl (lv_at hl 1 rfl) ?_
  refine lv_iconst (v := 5) hx hb dX12_holdsAs_6 (of_decide_eq_true rfl) ?_
  refine lv_icmp_ne (tgt := 24) hx hb dX12_holdsAs_7 (of_decide_eq_true rfl) (fun _ => ?_) (fun c => absurd c (of_decide_eq_true rfl))
  refine lv_iload_n hx hb dX12_holdsAs_24 rfl (lv_at hl 1 rfl) ?_
  refine lv_bipush (v := 6) hx hb dX12_holdsAs_25 (of_decide_eq_true rfl) ?_
  refine lv_icmp_ne (tgt := 55) hx hb dX12_holdsAs_27 (of_decide_eq_true rfl) (fun _ => ?_) (fun c => absurd c (of_decide_eq_true rfl))
  refine lv_aload_n hx hb dX12_holdsAs_55 rfl (lv_at hl 0 rfl) ?_
  refine lv_bipush (v := 10) hx hb dX12_holdsAs_56 (of_decide_eq_true rfl) ?_
  refine jcallVv (As := [.int 10]) (rest := []) ⟨hx, hb, hml, hown, hts⟩ hK hP hA hS hZ (c_X12_begins_10_2 l D cI cL ad zz hJ σ τ h55_55) cw_RX12_379 (jc_55 cI cL ad σ τ) rfl ⟨Nat.le_of_ble_eq_true rfl, Nat.le_of_ble_eq_true rfl⟩ rfl rfl rfl hl.1 rfl (Nat.le_of_ble_eq_true rfl) dX12_holdsAs_58 ⟨Nat.zero_le _, Nat.zero_le _⟩ (fun σ1 τ1 H locs h1 hP hS => ?_)
  obtain ⟨rfl, f3, f4, f5, m6, m7, h1⟩ := h1
  refine lv_aload_n hx hb dX12_holdsAs_61 rfl (lv_at hl 0 rfl) ?_
  refine lv_aload_n hx hb dX12_holdsAs_62 rfl (lv_at hl 0 rfl) ?_
  refine va_get (D := D) hx hb hts inlX12 hown hK hP 55 (jc_55 cI cL ad σ1 τ) rfl 56 (of_decide_eq_true rfl) (hts _ kw_49_8) (fun _ h9 => h9) rfl dX12_holdsAs_63 ?_
  have m9 : σ1 55 56 = (σ 55 56) := (f4 56 (of_decide_eq_true rfl))
  refine jtopr m9 ?_
  exact by
   refine jtopr (jsame (rfl : (σ 55 56).toInt = (σ 55 56).toInt) jz_5 (by omega)) ?_
   refine lv_iload_n hx hb dX12_holdsAs_66 rfl (lv_at hl 2 rfl) ?_
   have z10 : (σ1 55 56).toInt = (σ 55 56).toInt := (congrArg Int32.toInt (show σ1 55 56 = (σ 55 56) from m9))
   refine jcallV (As := [.int 5, .int a2]) (rest := []) ⟨hx, hb, hml, hown, hts⟩ hK hP hA hS hZ (c_X12_putsAs_5_5_3 l D cI cL ad zz hJ σ1 τ a2 (A2) t2 m6 (by omega)) cw_RX12_382 (jc_55 cI cL ad σ1 τ) rfl ⟨Nat.le_of_ble_eq_true rfl, Nat.le_of_ble_eq_true rfl⟩ rfl rfl rfl hl.1 rfl (Nat.le_of_ble_eq_true rfl) dX12_holdsAs_67 ⟨Nat.zero_le _, Nat.zero_le _⟩ (fun r12 σ11 τ11 H locs h11 hP hS => ?_)
   obtain ⟨rfl, f13, f14, f15, m16, m17, h11⟩ := h11
   have h19 := h11
   obtain ⟨q21, k20⟩ := h19
   have q21 := q21.symm
   subst q21
   exact by
    refine lv_iconst (v := 2) hx hb dX12_holdsAs_70 (of_decide_eq_true rfl) ?_
    have g22 := jrg (rfl : (a2 + (σ1 55 57)).toInt = (a2 + (σ1 55 57)).toInt)
    refine lv_imul hx hb dX12_holdsAs_71 ?_
    refine lv_topi (fun x23 ex23 => ?_)
    have gx23 := jrg (rfl : x23.toInt = x23.toInt)
    have m24 : σ11 85 2 = 10 := ((f15 2 (of_decide_eq_true rfl)).trans m7)
    exact hret x23 σ11 τ _ _ _ _ rfl ⟨rfl, (fun i hi => ((f13 i hi).trans (f3 i hi))), (fun i hi => ((f14 i hi).trans (f4 i hi))), (fun i hi => ((f15 i (imp_312 i hi)).trans (f5 i (imp_19 i hi)))), m16, m24, m17, ⟨(by rw [ex23, (show σ1 55 57 = σ 55 57 from (f4 57 (of_decide_eq_true rfl)))]), trivial⟩⟩ hP hS dX12_holdsAs_72
set_option maxHeartbeats 4000000 in
set_option maxRecDepth 100000 in
theorem c_X12_holdsAs_5_5_1 (l : Launch) (D : va_G) (cI cL : ClassId) (ad zz : Nat → Nat) (hJ : jD ad) (σ : Nat → Nat → Int32) (τ : Nat → Nat → Int64) (a2 : Int32) (A2 : Int) (t2 : a2.toInt = A2) (h55_55 : σ 55 55 = 1) (hp0 : (σ 55 56).toInt = 5) : jM l yX12_holdsAs cX12_holdsAs 4 (some .int) ({ frames := 3, cells := 0, slots := 0, locals := 66 }) D cI cL ad zz [.ref (ad 55), .int 5, .int a2] σ τ (fun r σ' τ' => τ = τ' ∧ (∀ i : Nat, (i < 55 ∨ 55 < i) ∧ (i < 85 ∨ 85 < i) → σ' i = σ i) ∧ (∀ k : Nat, (k < 55 ∨ 55 < k) → σ' 55 k = σ 55 k) ∧ (∀ k : Nat, (k < 1 ∨ 1 < k) ∧ (k < 2 ∨ 2 < k) ∧ (k < 3 ∨ 3 < k) → σ' 85 k = σ 85 k) ∧ (σ' 55 55 = 4) ∧ (σ' 85 1 = 40) ∧ (σ' 85 2 = 10) ∧ (σ' 85 3 = 1) ∧ ((r = (-((a2 + (σ 55 57)) * 2)) ∧ True))) := by
  refine jM.of hJ (by decide +kernel) (nt := .int) rfl (Nat.le_of_ble_eq_true rfl) ?_
  intro p e s m args below meth c Q ls hC hret hl hP
  obtain ⟨hx, hb, hr, hml, hown, hts, hK, -, hlocks, hZ⟩ := hC
  have hown : s.vm.findClass RX12 = some m.cls := hown
  have hS : va_S (jA ad) s.heap s.heap [] := va_S.rf
  have hA : ∀ q, jA ad q → jA ad q := fun _ h => h
  have hl : lv_has ls 4 [(0, .ref (ad 55)), (1, .int 5), (2, .int a2)] := hl
  have g2 := jrg t2
  refine lv_iload_n hx hb dX12_holdsAs_0 rfl (lv_at hl 1 rfl) ?_
  refine lv_iconst (v := 3) hx hb dX12_holdsAs_1 (of_decide_eq_true rfl) ?_
  refine lv_icmp_eq (tgt := 10) hx hb dX12_holdsAs_2 (of_decide_eq_true rfl) (fun c => absurd c (of_decide_eq_true rfl)) (fun _ => ?_)
  refine lv_iload_n hx hb dX12_holdsAs_5 rfl (lv_at hl 1 rfl) ?_
  refine lv_iconst (v := 5) hx hb dX12_holdsAs_6 (of_decide_eq_true rfl) ?_
  refine lv_icmp_ne (tgt := 24) hx hb dX12_holdsAs_7 (of_decide_eq_true rfl) (fun c => absurd (of_decide_eq_true rfl) c) (fun _ => ?_)
  refine lv_aload_n hx hb dX12_holdsAs_10 rfl (lv_at hl 0 rfl) ?_
  refine lv_bipush (v := 40) hx hb dX12_holdsAs_11 (of_decide_eq_true rfl) ?_
  refine jcallVv (As := [.int 40]) (rest := []) ⟨hx, hb, hml, hown, hts⟩ hK hP hA hS hZ (c_X12_begins_40_1 l D cI cL ad zz hJ σ τ h55_55) cw_RX12_379 (jc_55 cI cL ad σ τ) rfl ⟨Nat.le_of_ble_eq_true rfl, Nat.le_of_ble_eq_true rfl⟩ rfl rfl rfl hl.1 rfl (Nat.le_of_ble_eq_true rfl) dX12_holdsAs_13 ⟨Nat.zero_le _, Nat.zero_le _⟩ (fun σ1 τ1 H locs h1 hP hS => ?_)
  obtain ⟨rfl, f3, f4, f5, m6, m7, h1⟩ := h1
  refine lv_aload_n hx hb dX12_holdsAs_16 rfl (lv_at hl 0 rfl) ?_
  refine lv_iconst (v := 0) hx hb dX12_holdsAs_17 (of_decide_eq_true rfl) ?_
  refine lv_iload_n hx hb dX12_holdsAs_18 rfl (lv_at hl 2 rfl) ?_
  have z9 : (σ1 55 56).toInt = (σ 55 56).toInt := (congrArg Int32.toInt (show σ1 55 56 = (σ 55 56) from (f4 56 (of_decide_eq_true rfl))))
  exact by
   refine jcallV (As := [.int 0, .int a2]) (rest := []) ⟨hx, hb, hml, hown, hts⟩ hK hP hA hS hZ (c_X12_holdsAs_5_0_2 l D cI cL ad zz hJ σ1 τ a2 (A2) t2 m6 (by omega)) cw_RX12_388 (jc_55 cI cL ad σ1 τ) rfl ⟨Nat.le_of_ble_eq_true rfl, Nat.le_of_ble_eq_true rfl⟩ rfl rfl rfl hl.1 rfl (Nat.le_of_ble_eq_true rfl) dX12_holdsAs_19 ⟨Nat.zero_le _, Nat.zero_le _⟩ (fun r11 σ10 τ10 H locs h10 hP hS => ?_)
   obtain ⟨rfl, f12, f13, f14, m15, m16, m17, h10⟩ := h10
   have h19 := h10
   obtain ⟨q21, k20⟩ := h19
   have q21 := q21.symm
   subst q21
   refine lv_ineg hx hb dX12_holdsAs_22 ?_
   refine lv_topi (fun x22 ex22 => ?_)
   have gx22 := jrg (rfl : x22.toInt = x22.toInt)
   have m23 : σ10 85 1 = 40 := ((f14 1 (of_decide_eq_true rfl)).trans m7)
   exact hret x22 σ10 τ _ _ _ _ rfl ⟨rfl, (fun i hi => ((f12 i hi).trans (f3 i hi))), (fun i hi => ((f13 i hi).trans (f4 i hi))), (fun i hi => ((f14 i (imp_313 i hi)).trans (f5 i (imp_355 i hi)))), m15, m23, m16, m17, ⟨(by rw [ex22, (show σ1 55 57 = σ 55 57 from (f4 57 (of_decide_eq_true rfl)))]), trivial⟩⟩ hP hS dX12_holdsAs_23
set_option maxHeartbeats 4000000 in
set_option maxRecDepth 100000 in
theorem c_X12_begins_60_4 (l : Launch) (D : va_G) (cI cL : ClassId) (ad zz : Nat → Nat) (hJ : jD ad) (σ : Nat → Nat → Int32) (τ : Nat → Nat → Int64) (h55_55 : σ 55 55 = 4) : jMv l yX12_begins cX12_begins 2 none ({ frames := 0, cells := 0, slots := 0, locals := 0 }) D cI cL ad zz [.ref (ad 55), .int 60] σ τ (fun σ' τ' => τ = τ' ∧ (∀ i : Nat, (i < 55 ∨ 55 < i) ∧ (i < 85 ∨ 85 < i) → σ' i = σ i) ∧ (∀ k : Nat, (k < 55 ∨ 55 < k) → σ' 55 k = σ 55 k) ∧ (∀ k : Nat, (k < 4 ∨ 4 < k) → σ' 85 k = σ 85 k) ∧ (σ' 55 55 = 5) ∧ (σ' 85 4 = 60) ∧ True) := by
  refine jMv.of hJ (by decide +kernel) rfl (Nat.le_of_ble_eq_true rfl) ?_
  intro p e s m args below meth c Q ls hC hret hl hP
  obtain ⟨hx, hb, hr, hml, hown, hts, hK, -, hlocks, hZ⟩ := hC
  have hown : s.vm.findClass RX12 = some m.cls := hown
  have hS : va_S (jA ad) s.heap s.heap [] := va_S.rf
  have hA : ∀ q, jA ad q → jA ad q := fun _ h => h
  have hl : lv_has ls 2 [(0, .ref (ad 55)), (1, .int 60)] := hl
  refine lv_aload_n hx hb dX12_begins_0 rfl (lv_at hl 0 rfl) ?_
  refine va_get (D := D) hx hb hts inlX12 hown hK hP 55 (jc_55 cI cL ad σ τ) rfl 55 (of_decide_eq_true rfl) (hts _ kw_49_7) (fun _ h9 => h9) rfl dX12_begins_1 ?_
  refine jtopr h55_55 ?_
  refine lv_bipush (v := 24) hx hb dX12_begins_4 (of_decide_eq_true rfl) ?_
  refine lv_icmp_ge (tgt := 19) hx hb dX12_begins_6 (of_decide_eq_true rfl) (fun c => absurd c (of_decide_eq_true rfl)) (fun _ => ?_)
  refine lv_aload_n hx hb dX12_begins_9 rfl (lv_at hl 0 rfl) ?_
  refine va_get (D := D) hx hb hts inlX12 hown hK hP 55 (jc_55 cI cL ad σ τ) rfl 54 (of_decide_eq_true rfl) (hts _ kw_8_10) (fun _ h9 => h9) rfl dX12_begins_10 ?_
  refine lv_aload_n hx hb dX12_begins_13 rfl (lv_at hl 0 rfl) ?_
  refine va_get (D := D) hx hb hts inlX12 hown hK hP 55 (jc_55 cI cL ad σ τ) rfl 55 (of_decide_eq_true rfl) (hts _ kw_49_7) (fun _ h9 => h9) rfl dX12_begins_14 ?_
  refine jtopr h55_55 ?_
  refine lv_iload_n hx hb dX12_begins_17 rfl (lv_at hl 1 rfl) ?_
  exact by
   refine jast hx hb hK hP hJ hA hS (jc_85 cI cL ad σ τ) (ja_85 cI cL ad σ τ _ _) (jin jz_4 (by omega) (by omega)) dX12_begins_18 (fun σ1 H locs eσ1 hP hS => ?_)
   have eσ1 : σ1 = jup σ 85 4 60 := eσ1
   refine lv_aload_n hx hb dX12_begins_19 rfl (lv_at hl 0 rfl) ?_
   refine lv_dup hx hb dX12_begins_20 rfl ?_
   refine va_get (D := D) hx hb hts inlX12 hown hK hP 55 (jc_55 cI cL ad σ1 τ) rfl 55 (of_decide_eq_true rfl) (hts _ kw_49_7) (fun _ h9 => h9) rfl dX12_begins_21 ?_
   have m2 : σ1 55 55 = 4 := ((congrFun (jnp 55 eσ1 (of_decide_eq_true rfl)) 55).trans h55_55)
   refine jtopr m2 ?_
   refine lv_iconst (v := 1) hx hb dX12_begins_24 (of_decide_eq_true rfl) ?_
   refine lv_iadd hx hb dX12_begins_25 ?_
   refine jtopr (y := 5) (of_decide_eq_true rfl) ?_
   refine jput (ty := .int) hx hb hts inlX12 tyX12 tyX12_ok nmX12 hown hK hP hJ hA hS (jc_55 cI cL ad σ1 τ) rfl (k := 55) (of_decide_eq_true rfl) (Nat.le_of_ble_eq_true rfl) (jp_55_55 cI cL ad σ1 τ 5) (hts _ kw_49_7) (fun _ h9 => h9) rfl (by decide +kernel) rfl rfl dX12_begins_26 (fun σ3 H locs eσ3 hP hS => ?_)
   have m4 : σ3 55 55 = 5 := (jsp eσ3)
   have m5 : σ3 85 4 = 60 := ((congrFun (jnp 85 eσ3 (of_decide_eq_true rfl)) 4).trans (jsp eσ1))
   exact hret σ3 τ _ _ _ _ ⟨rfl, (fun i hi => ((jnp i eσ3 (imp_350 i hi)).trans (jnp i eσ1 (imp_351 i hi)))), (fun i hi => ((jkp i eσ3 (imp_165 i hi)).trans (congrFun (jnp 55 eσ1 (of_decide_eq_true rfl)) i))), (fun i hi => ((congrFun (jnp 85 eσ3 (of_decide_eq_true rfl)) i).trans (jkp i eσ1 (imp_315 i hi)))), m4, m5, trivial⟩ hP hS dX12_begins_29
set_option maxHeartbeats 4000000 in
set_option maxRecDepth 100000 in
theorem c_X12_begins_30_5 (l : Launch) (D : va_G) (cI cL : ClassId) (ad zz : Nat → Nat) (hJ : jD ad) (σ : Nat → Nat → Int32) (τ : Nat → Nat → Int64) (h55_55 : σ 55 55 = 5) : jMv l yX12_begins cX12_begins 2 none ({ frames := 0, cells := 0, slots := 0, locals := 0 }) D cI cL ad zz [.ref (ad 55), .int 30] σ τ (fun σ' τ' => τ = τ' ∧ (∀ i : Nat, (i < 55 ∨ 55 < i) ∧ (i < 85 ∨ 85 < i) → σ' i = σ i) ∧ (∀ k : Nat, (k < 55 ∨ 55 < k) → σ' 55 k = σ 55 k) ∧ (∀ k : Nat, (k < 5 ∨ 5 < k) → σ' 85 k = σ 85 k) ∧ (σ' 55 55 = 6) ∧ (σ' 85 5 = 30) ∧ True) := by
  refine jMv.of hJ (by decide +kernel) rfl (Nat.le_of_ble_eq_true rfl) ?_
  intro p e s m args below meth c Q ls hC hret hl hP
  obtain ⟨hx, hb, hr, hml, hown, hts, hK, -, hlocks, hZ⟩ := hC
  have hown : s.vm.findClass RX12 = some m.cls := hown
  have hS : va_S (jA ad) s.heap s.heap [] := va_S.rf
  have hA : ∀ q, jA ad q → jA ad q := fun _ h => h
  have hl : lv_has ls 2 [(0, .ref (ad 55)), (1, .int 30)] := hl
  refine lv_aload_n hx hb dX12_begins_0 rfl (lv_at hl 0 rfl) ?_
  refine va_get (D := D) hx hb hts inlX12 hown hK hP 55 (jc_55 cI cL ad σ τ) rfl 55 (of_decide_eq_true rfl) (hts _ kw_49_7) (fun _ h9 => h9) rfl dX12_begins_1 ?_
  refine jtopr h55_55 ?_
  refine lv_bipush (v := 24) hx hb dX12_begins_4 (of_decide_eq_true rfl) ?_
  refine lv_icmp_ge (tgt := 19) hx hb dX12_begins_6 (of_decide_eq_true rfl) (fun c => absurd c (of_decide_eq_true rfl)) (fun _ => ?_)
  refine lv_aload_n hx hb dX12_begins_9 rfl (lv_at hl 0 rfl) ?_
  refine va_get (D := D) hx hb hts inlX12 hown hK hP 55 (jc_55 cI cL ad σ τ) rfl 54 (of_decide_eq_true rfl) (hts _ kw_8_10) (fun _ h9 => h9) rfl dX12_begins_10 ?_
  refine lv_aload_n hx hb dX12_begins_13 rfl (lv_at hl 0 rfl) ?_
  refine va_get (D := D) hx hb hts inlX12 hown hK hP 55 (jc_55 cI cL ad σ τ) rfl 55 (of_decide_eq_true rfl) (hts _ kw_49_7) (fun _ h9 => h9) rfl dX12_begins_14 ?_
  refine jtopr h55_55 ?_
  refine lv_iload_n hx hb dX12_begins_17 rfl (lv_at hl 1 rfl) ?_
  exact by
   refine jast hx hb hK hP hJ hA hS (jc_85 cI cL ad σ τ) (ja_85 cI cL ad σ τ _ _) (jin jz_5 (by omega) (by omega)) dX12_begins_18 (fun σ1 H locs eσ1 hP hS => ?_)
   have eσ1 : σ1 = jup σ 85 5 30 := eσ1
   refine lv_aload_n hx hb dX12_begins_19 rfl (lv_at hl 0 rfl) ?_
   refine lv_dup hx hb dX12_begins_20 rfl ?_
   refine va_get (D := D) hx hb hts inlX12 hown hK hP 55 (jc_55 cI cL ad σ1 τ) rfl 55 (of_decide_eq_true rfl) (hts _ kw_49_7) (fun _ h9 => h9) rfl dX12_begins_21 ?_
   have m2 : σ1 55 55 = 5 := ((congrFun (jnp 55 eσ1 (of_decide_eq_true rfl)) 55).trans h55_55)
   refine jtopr m2 ?_
   refine lv_iconst (v := 1) hx hb dX12_begins_24 (of_decide_eq_true rfl) ?_
   refine lv_iadd hx hb dX12_begins_25 ?_
   refine jtopr (y := 6) (of_decide_eq_true rfl) ?_
   refine jput (ty := .int) hx hb hts inlX12 tyX12 tyX12_ok nmX12 hown hK hP hJ hA hS (jc_55 cI cL ad σ1 τ) rfl (k := 55) (of_decide_eq_true rfl) (Nat.le_of_ble_eq_true rfl) (jp_55_55 cI cL ad σ1 τ 6) (hts _ kw_49_7) (fun _ h9 => h9) rfl (by decide +kernel) rfl rfl dX12_begins_26 (fun σ3 H locs eσ3 hP hS => ?_)
   have m4 : σ3 55 55 = 6 := (jsp eσ3)
   have m5 : σ3 85 5 = 30 := ((congrFun (jnp 85 eσ3 (of_decide_eq_true rfl)) 5).trans (jsp eσ1))
   exact hret σ3 τ _ _ _ _ ⟨rfl, (fun i hi => ((jnp i eσ3 (imp_350 i hi)).trans (jnp i eσ1 (imp_351 i hi)))), (fun i hi => ((jkp i eσ3 (imp_165 i hi)).trans (congrFun (jnp 55 eσ1 (of_decide_eq_true rfl)) i))), (fun i hi => ((congrFun (jnp 85 eσ3 (of_decide_eq_true rfl)) i).trans (jkp i eσ1 (imp_159 i hi)))), m4, m5, trivial⟩ hP hS dX12_begins_29
set_option maxHeartbeats 4000000 in
set_option maxRecDepth 100000 in
theorem c_X12_givesAs_5_0_6_x1 (l : Launch) (D : va_G) (cI cL : ClassId) (ad zz : Nat → Nat) (hJ : jD ad) (σ : Nat → Nat → Int32) (τ : Nat → Nat → Int64) (h55_55 : σ 55 55 = 6) (hp0 : (σ 55 56).toInt = 5) : jM l yX12_givesAs cX12_givesAs 4 (some .int) ({ frames := 1, cells := 0, slots := 0, locals := 21 }) D cI cL ad zz [.ref (ad 55), .int 0, .int 1] σ τ (fun r σ' τ' => τ = τ' ∧ (∀ i : Nat, (i < 55 ∨ 55 < i) ∧ (i < 85 ∨ 85 < i) → σ' i = σ i) ∧ (∀ k : Nat, (k < 55 ∨ 55 < k) → σ' 55 k = σ 55 k) ∧ (∀ k : Nat, (k < 6 ∨ 6 < k) → σ' 85 k = σ 85 k) ∧ (σ' 55 55 = 7) ∧ (σ' 85 6 = 11) ∧ ((r = (1 ^^^ (σ 55 57)) ∧ True))) := by
  refine jM.of hJ (by decide +kernel) (nt := .int) rfl (Nat.le_of_ble_eq_true rfl) ?_
  intro p e s m args below meth c Q ls hC hret hl hP
  obtain ⟨hx, hb, hr, hml, hown, hts, hK, -, hlocks, hZ⟩ := hC
  have hown : s.vm.findClass RX12 = some m.cls := hown
  have hS : va_S (jA ad) s.heap s.heap [] := va_S.rf
  have hA : ∀ q, jA ad q → jA ad q := fun _ h => h
  have hl : lv_has ls 4 [(0, .ref (ad 55)), (1, .int 0), (2, .int 1)] := hl
  refine lv_iload_n hx hb dX12_givesAs_0 rfl (lv_at hl 1 rfl) ?_
  refine lv_iconst (v := 5) hx hb dX12_givesAs_1 (of_decide_eq_true rfl) ?_
  refine lv_icmp_ne (tgt := 30) hx hb dX12_givesAs_2 (of_decide_eq_true rfl) (fun _ => ?_) (fun c => absurd c (of_decide_eq_true rfl))
  refine lv_iload_n hx hb dX12_givesAs_30 rfl (lv_at hl 1 rfl) ?_
  refine lv_iconst (v := 2) hx hb dX12_givesAs_31 (of_decide_eq_true rfl) ?_
  refine lv_icmp_eq (tgt := 40) hx hb dX12_givesAs_32 (of_decide_eq_true rfl) (fun c => absurd c (of_decide_eq_true rfl)) (fun _ => ?_)
  refine lv_iload_n hx hb dX12_givesAs_35 rfl (lv_at hl 1 rfl) ?_
  refine lv_iconst (v := 3) hx hb dX12_givesAs_36 (of_decide_eq_true rfl) ?_
  refine lv_icmp_ne (tgt := 55) hx hb dX12_givesAs_37 (of_decide_eq_true rfl) (fun _ => ?_) (fun c => absurd c (of_decide_eq_true rfl))
  refine lv_aload_n hx hb dX12_givesAs_55 rfl (lv_at hl 0 rfl) ?_
  refine lv_bipush (v := 11) hx hb dX12_givesAs_56 (of_decide_eq_true rfl) ?_
  refine jcallVv (As := [.int 11]) (rest := []) ⟨hx, hb, hml, hown, hts⟩ hK hP hA hS hZ (c_X12_begins_11_6 l D cI cL ad zz hJ σ τ h55_55) cw_RX12_379 (jc_55 cI cL ad σ τ) rfl ⟨Nat.le_of_ble_eq_true rfl, Nat.le_of_ble_eq_true rfl⟩ rfl rfl rfl hl.1 rfl (Nat.le_of_ble_eq_true rfl) dX12_givesAs_58 ⟨Nat.zero_le _, Nat.zero_le _⟩ (fun σ1 τ1 H locs h1 hP hS => ?_)
  obtain ⟨rfl, f3, f4, f5, m6, m7, h1⟩ := h1
  refine lv_iload_n hx hb dX12_givesAs_61 rfl (lv_at hl 2 rfl) ?_
  refine lv_aload_n hx hb dX12_givesAs_62 rfl (lv_at hl 0 rfl) ?_
  refine va_get (D := D) hx hb hts inlX12 hown hK hP 55 (jc_55 cI cL ad σ1 τ) rfl 57 (of_decide_eq_true rfl) (hts _ kw_49_9) (fun _ h9 => h9) rfl dX12_givesAs_63 ?_
  have m9 : σ1 55 57 = (σ 55 57) := (f4 57 (of_decide_eq_true rfl))
  refine jtopr m9 ?_
  refine lv_ixor hx hb dX12_givesAs_66 ?_
  refine lv_topi (fun x10 ex10 => ?_)
  have gx10 := jrg (rfl : x10.toInt = x10.toInt)
  exact hret x10 σ1 τ _ _ _ _ rfl ⟨rfl, (fun i hi => (f3 i hi)), (fun i hi => (f4 i hi)), (fun i hi => (f5 i hi)), m6, m7, ⟨(by rw [ex10]), trivial⟩⟩ hP hS dX12_givesAs_67
set_option maxHeartbeats 4000000 in
set_option maxRecDepth 100000 in
theorem c_X12_givesAs_5_3_5_x1 (l : Launch) (D : va_G) (cI cL : ClassId) (ad zz : Nat → Nat) (hJ : jD ad) (σ : Nat → Nat → Int32) (τ : Nat → Nat → Int64) (h55_55 : σ 55 55 = 5) (hp0 : (σ 55 56).toInt = 5) : jM l yX12_givesAs cX12_givesAs 4 (some .int) ({ frames := 2, cells := 0, slots := 0, locals := 44 }) D cI cL ad zz [.ref (ad 55), .int 3, .int 1] σ τ (fun r σ' τ' => τ = τ' ∧ (∀ i : Nat, (i < 55 ∨ 55 < i) ∧ (i < 85 ∨ 85 < i) → σ' i = σ i) ∧ (∀ k : Nat, (k < 55 ∨ 55 < k) → σ' 55 k = σ 55 k) ∧ (∀ k : Nat, (k < 5 ∨ 5 < k) ∧ (k < 6 ∨ 6 < k) → σ' 85 k = σ 85 k) ∧ (σ' 55 55 = 7) ∧ (σ' 85 5 = 30) ∧ (σ' 85 6 = 11) ∧ ((r = ((1 ^^^ (σ 55 57)) * 3) ∧ True))) := by
  refine jM.of hJ (by decide +kernel) (nt := .int) rfl (Nat.le_of_ble_eq_true rfl) ?_
  intro p e s m args below meth c Q ls hC hret hl hP
  obtain ⟨hx, hb, hr, hml, hown, hts, hK, -, hlocks, hZ⟩ := hC
  have hown : s.vm.findClass RX12 = some m.cls := hown
  have hS : va_S (jA ad) s.heap s.heap [] := va_S.rf
  have hA : ∀ q, jA ad q → jA ad q := fun _ h => h
  have hl : lv_has ls 4 [(0, .ref (ad 55)), (1, .int 3), (2, .int 1)] := hl
  refine lv_iload_n hx hb dX12_givesAs_0 rfl (lv_at hl 1 rfl) ?_
  refine lv_iconst (v := 5) hx hb dX12_givesAs_1 (of_decide_eq_true rfl) ?_
  refine lv_icmp_ne (tgt := 30) hx hb dX12_givesAs_2 (of_decide_eq_true rfl) (fun _ => ?_) (fun c => absurd c (of_decide_eq_true rfl))
  refine lv_iload_n hx hb dX12_givesAs_30 rfl (lv_at hl 1 rfl) ?_
  refine lv_iconst (v := 2) hx hb dX12_givesAs_31 (of_decide_eq_true rfl) ?_
  refine lv_icmp_eq (tgt := 40) hx hb dX12_givesAs_32 (of_decide_eq_true rfl) (fun c => absurd c (of_decide_eq_true rfl)) (fun _ => ?_)
  refine lv_iload_n hx hb dX12_givesAs_35 rfl (lv_at hl 1 rfl) ?_
  refine lv_iconst (v := 3) hx hb dX12_givesAs_36 (of_decide_eq_true rfl) ?_
  refine lv_icmp_ne (tgt := 55) hx hb dX12_givesAs_37 (of_decide_eq_true rfl) (fun c => absurd (of_decide_eq_true rfl) c) (fun _ => ?_)
  refine lv_aload_n hx hb dX12_givesAs_40 rfl (lv_at hl 0 rfl) ?_
  refine lv_bipush (v := 30) hx hb dX12_givesAs_41 (of_decide_eq_true rfl) ?_
  refine jcallVv (As := [.int 30]) (rest := []) ⟨hx, hb, hml, hown, hts⟩ hK hP hA hS hZ (c_X12_begins_30_5 l D cI cL ad zz hJ σ τ h55_55) cw_RX12_379 (jc_55 cI cL ad σ τ) rfl ⟨Nat.le_of_ble_eq_true rfl, Nat.le_of_ble_eq_true rfl⟩ rfl rfl rfl hl.1 rfl (Nat.le_of_ble_eq_true rfl) dX12_givesAs_43 ⟨Nat.zero_le _, Nat.zero_le _⟩ (fun σ1 τ1 H locs h1 hP hS => ?_)
  obtain ⟨rfl, f3, f4, f5, m6, m7, h1⟩ := h1
  refine lv_aload_n hx hb dX12_givesAs_46 rfl (lv_at hl 0 rfl) ?_
  refine lv_iconst (v := 0) hx hb dX12_givesAs_47 (of_decide_eq_true rfl) ?_
  refine lv_iload_n hx hb dX12_givesAs_48 rfl (lv_at hl 2 rfl) ?_
  have z9 : (σ1 55 56).toInt = (σ 55 56).toInt := (congrArg Int32.toInt (show σ1 55 56 = (σ 55 56) from (f4 56 (of_decide_eq_true rfl))))
  exact by
   refine jcallV (As := [.int 0, .int 1]) (rest := []) ⟨hx, hb, hml, hown, hts⟩ hK hP hA hS hZ (c_X12_givesAs_5_0_6_x1 l D cI cL ad zz hJ σ1 τ m6 (by omega)) cw_RX12_394 (jc_55 cI cL ad σ1 τ) rfl ⟨Nat.le_of_ble_eq_true rfl, Nat.le_of_ble_eq_true rfl⟩ rfl rfl rfl hl.1 rfl (Nat.le_of_ble_eq_true rfl) dX12_givesAs_49 ⟨Nat.zero_le _, Nat.zero_le _⟩ (fun r11 σ10 τ10 H locs h10 hP hS => ?_)
   obtain ⟨rfl, f12, f13, f14, m15, m16, h10⟩ := h10
   have h18 := h10
   obtain ⟨q20, k19⟩ := h18
   have q20 := q20.symm
   subst q20
   refine lv_iconst (v := 3) hx hb dX12_givesAs_52 (of_decide_eq_true rfl) ?_
   have g21 := jrg (rfl : (1 ^^^ (σ1 55 57)).toInt = (1 ^^^ (σ1 55 57)).toInt)
   refine lv_imul hx hb dX12_givesAs_53 ?_
   refine lv_topi (fun x22 ex22 => ?_)
   have gx22 := jrg (rfl : x22.toInt = x22.toInt)
   have m23 : σ10 85 5 = 30 := ((f14 5 (of_decide_eq_true rfl)).trans m7)
   exact hret x22 σ10 τ _ _ _ _ rfl ⟨rfl, (fun i hi => ((f12 i hi).trans (f3 i hi))), (fun i hi => ((f13 i hi).trans (f4 i hi))), (fun i hi => ((f14 i (imp_337 i hi)).trans (f5 i (imp_364 i hi)))), m15, m23, m16, ⟨(by rw [ex22, (show σ1 55 57 = σ 55 57 from (f4 57 (of_decide_eq_true rfl)))]), trivial⟩⟩ hP hS dX12_givesAs_54
set_option maxHeartbeats 4000000 in
set_option maxRecDepth 100000 in
theorem c_X12_begins_1_7 (l : Launch) (D : va_G) (cI cL : ClassId) (ad zz : Nat → Nat) (hJ : jD ad) (σ : Nat → Nat → Int32) (τ : Nat → Nat → Int64) (h55_55 : σ 55 55 = 7) : jMv l yX12_begins cX12_begins 2 none ({ frames := 0, cells := 0, slots := 0, locals := 0 }) D cI cL ad zz [.ref (ad 55), .int 1] σ τ (fun σ' τ' => τ = τ' ∧ (∀ i : Nat, (i < 55 ∨ 55 < i) ∧ (i < 85 ∨ 85 < i) → σ' i = σ i) ∧ (∀ k : Nat, (k < 55 ∨ 55 < k) → σ' 55 k = σ 55 k) ∧ (∀ k : Nat, (k < 7 ∨ 7 < k) → σ' 85 k = σ 85 k) ∧ (σ' 55 55 = 8) ∧ (σ' 85 7 = 1) ∧ True) := by
  refine jMv.of hJ (by decide +kernel) rfl (Nat.le_of_ble_eq_true rfl) ?_
  intro p e s m args below meth c Q ls hC hret hl hP
  obtain ⟨hx, hb, hr, hml, hown, hts, hK, -, hlocks, hZ⟩ := hC
  have hown : s.vm.findClass RX12 = some m.cls := hown
  have hS : va_S (jA ad) s.heap s.heap [] := va_S.rf
  have hA : ∀ q, jA ad q → jA ad q := fun _ h => h
  have hl : lv_has ls 2 [(0, .ref (ad 55)), (1, .int 1)] := hl
  refine lv_aload_n hx hb dX12_begins_0 rfl (lv_at hl 0 rfl) ?_
  refine va_get (D := D) hx hb hts inlX12 hown hK hP 55 (jc_55 cI cL ad σ τ) rfl 55 (of_decide_eq_true rfl) (hts _ kw_49_7) (fun _ h9 => h9) rfl dX12_begins_1 ?_
  refine jtopr h55_55 ?_
  refine lv_bipush (v := 24) hx hb dX12_begins_4 (of_decide_eq_true rfl) ?_
  refine lv_icmp_ge (tgt := 19) hx hb dX12_begins_6 (of_decide_eq_true rfl) (fun c => absurd c (of_decide_eq_true rfl)) (fun _ => ?_)
  refine lv_aload_n hx hb dX12_begins_9 rfl (lv_at hl 0 rfl) ?_
  refine va_get (D := D) hx hb hts inlX12 hown hK hP 55 (jc_55 cI cL ad σ τ) rfl 54 (of_decide_eq_true rfl) (hts _ kw_8_10) (fun _ h9 => h9) rfl dX12_begins_10 ?_
  refine lv_aload_n hx hb dX12_begins_13 rfl (lv_at hl 0 rfl) ?_
  refine va_get (D := D) hx hb hts inlX12 hown hK hP 55 (jc_55 cI cL ad σ τ) rfl 55 (of_decide_eq_true rfl) (hts _ kw_49_7) (fun _ h9 => h9) rfl dX12_begins_14 ?_
  refine jtopr h55_55 ?_
  refine lv_iload_n hx hb dX12_begins_17 rfl (lv_at hl 1 rfl) ?_
  exact by
   refine jast hx hb hK hP hJ hA hS (jc_85 cI cL ad σ τ) (ja_85 cI cL ad σ τ _ _) (jin jz_7 (by omega) (by omega)) dX12_begins_18 (fun σ1 H locs eσ1 hP hS => ?_)
   have eσ1 : σ1 = jup σ 85 7 1 := eσ1
   refine lv_aload_n hx hb dX12_begins_19 rfl (lv_at hl 0 rfl) ?_
   refine lv_dup hx hb dX12_begins_20 rfl ?_
   refine va_get (D := D) hx hb hts inlX12 hown hK hP 55 (jc_55 cI cL ad σ1 τ) rfl 55 (of_decide_eq_true rfl) (hts _ kw_49_7) (fun _ h9 => h9) rfl dX12_begins_21 ?_
   have m2 : σ1 55 55 = 7 := ((congrFun (jnp 55 eσ1 (of_decide_eq_true rfl)) 55).trans h55_55)
   refine jtopr m2 ?_
   refine lv_iconst (v := 1) hx hb dX12_begins_24 (of_decide_eq_true rfl) ?_
   refine lv_iadd hx hb dX12_begins_25 ?_
   refine jtopr (y := 8) (of_decide_eq_true rfl) ?_
   refine jput (ty := .int) hx hb hts inlX12 tyX12 tyX12_ok nmX12 hown hK hP hJ hA hS (jc_55 cI cL ad σ1 τ) rfl (k := 55) (of_decide_eq_true rfl) (Nat.le_of_ble_eq_true rfl) (jp_55_55 cI cL ad σ1 τ 8) (hts _ kw_49_7) (fun _ h9 => h9) rfl (by decide +kernel) rfl rfl dX12_begins_26 (fun σ3 H locs eσ3 hP hS => ?_)
   have m4 : σ3 55 55 = 8 := (jsp eσ3)
   have m5 : σ3 85 7 = 1 := ((congrFun (jnp 85 eσ3 (of_decide_eq_true rfl)) 7).trans (jsp eσ1))
   exact hret σ3 τ _ _ _ _ ⟨rfl, (fun i hi => ((jnp i eσ3 (imp_350 i hi)).trans (jnp i eσ1 (imp_351 i hi)))), (fun i hi => ((jkp i eσ3 (imp_165 i hi)).trans (congrFun (jnp 55 eσ1 (of_decide_eq_true rfl)) i))), (fun i hi => ((congrFun (jnp 85 eσ3 (of_decide_eq_true rfl)) i).trans (jkp i eσ1 (imp_76 i hi)))), m4, m5, trivial⟩ hP hS dX12_begins_29
set_option maxHeartbeats 4000000 in
set_option maxRecDepth 100000 in
theorem c_X12_putsAs_5_5_7_x2 (l : Launch) (D : va_G) (cI cL : ClassId) (ad zz : Nat → Nat) (hJ : jD ad) (σ : Nat → Nat → Int32) (τ : Nat → Nat → Int64) (h55_55 : σ 55 55 = 7) (hp0 : (σ 55 56).toInt = 5) : jM l yX12_putsAs cX12_putsAs 3 (some .int) ({ frames := 1, cells := 0, slots := 0, locals := 21 }) D cI cL ad zz [.ref (ad 55), .int 5, .int 2] σ τ (fun r σ' τ' => τ = τ' ∧ (∀ i : Nat, (i < 55 ∨ 55 < i) ∧ (i < 85 ∨ 85 < i) → σ' i = σ i) ∧ (∀ k : Nat, (k < 55 ∨ 55 < k) → σ' 55 k = σ 55 k) ∧ (∀ k : Nat, (k < 7 ∨ 7 < k) → σ' 85 k = σ 85 k) ∧ (σ' 55 55 = 8) ∧ (σ' 85 7 = 1) ∧ ((r = (2 + (σ 55 57)) ∧ True))) := by
  refine jM.of hJ (by decide +kernel) (nt := .int) rfl (Nat.le_of_ble_eq_true rfl) ?_
  intro p e s m args below meth c Q ls hC hret hl hP
  obtain ⟨hx, hb, hr, hml, hown, hts, hK, -, hlocks, hZ⟩ := hC
  have hown : s.vm.findClass RX12 = some m.cls := hown
  have hS : va_S (jA ad) s.heap s.heap [] := va_S.rf
  have hA : ∀ q, jA ad q → jA ad q := fun _ h => h
  have hl : lv_has ls 3 [(0, .ref (ad 55)), (1, .int 5), (2, .int 2)] := hl
  refine lv_iload_n hx hb dX12_putsAs_0 rfl (lv_at hl 1 rfl) ?_
  refine lv_iconst (v := 4) hx hb dX12_putsAs_1 (of_decide_eq_true rfl) ?_
  refine lv_icmp_ne (tgt := 20) hx hb dX12_putsAs_2 (of_decide_eq_true rfl) (fun _ => ?_) (fun c => absurd c (of_decide_eq_true rfl))
  refine lv_iload_n hx hb dX12_putsAs_20 rfl (lv_at hl 1 rfl) ?_
  refine lv_iconst (v := 1) hx hb dX12_putsAs_21 (of_decide_eq_true rfl) ?_
  refine lv_icmp_ne (tgt := 40) hx hb dX12_putsAs_22 (of_decide_eq_true rfl) (fun _ => ?_) (fun c => absurd c (of_decide_eq_true rfl))
  refine lv_aload_n hx hb dX12_putsAs_40 rfl (lv_at hl 0 rfl) ?_
  refine lv_iconst (v := 1) hx hb dX12_putsAs_41 (of_decide_eq_true rfl) ?_
  refine jcallVv (As := [.int 1]) (rest := []) ⟨hx, hb, hml, hown, hts⟩ hK hP hA hS hZ (c_X12_begins_1_7 l D cI cL ad zz hJ σ τ h55_55) cw_RX12_379 (jc_55 cI cL ad σ τ) rfl ⟨Nat.le_of_ble_eq_true rfl, Nat.le_of_ble_eq_true rfl⟩ rfl rfl rfl hl.1 rfl (Nat.le_of_ble_eq_true rfl) dX12_putsAs_42 ⟨Nat.zero_le _, Nat.zero_le _⟩ (fun σ1 τ1 H locs h1 hP hS => ?_)
  obtain ⟨rfl, f3, f4, f5, m6, m7, h1⟩ := h1
  refine lv_iload_n hx hb dX12_putsAs_45 rfl (lv_at hl 2 rfl) ?_
  refine lv_aload_n hx hb dX12_putsAs_46 rfl (lv_at hl 0 rfl) ?_
  refine va_get (D := D) hx hb hts inlX12 hown hK hP 55 (jc_55 cI cL ad σ1 τ) rfl 57 (of_decide_eq_true rfl) (hts _ kw_49_9) (fun _ h9 => h9) rfl dX12_putsAs_47 ?_
  have m9 : σ1 55 57 = (σ 55 57) := (f4 57 (of_decide_eq_true rfl))
  refine jtopr m9 ?_
  have g10 := jrg (rfl : (σ 55 57).toInt = (σ 55 57).toInt)
  refine lv_iadd hx hb dX12_putsAs_50 ?_
  refine lv_topi (fun x11 ex11 => ?_)
  have gx11 := jrg (rfl : x11.toInt = x11.toInt)
  exact hret x11 σ1 τ _ _ _ _ rfl ⟨rfl, (fun i hi => (f3 i hi)), (fun i hi => (f4 i hi)), (fun i hi => (f5 i hi)), m6, m7, ⟨(by rw [ex11]), trivial⟩⟩ hP hS dX12_putsAs_51
set_option maxHeartbeats 4000000 in
set_option maxRecDepth 100000 in
theorem c_X12_givesAs_5_5_4_x1 (l : Launch) (D : va_G) (cI cL : ClassId) (ad zz : Nat → Nat) (hJ : jD ad) (σ : Nat → Nat → Int32) (τ : Nat → Nat → Int64) (h55_55 : σ 55 55 = 4) (hp0 : (σ 55 56).toInt = 5) : jM l yX12_givesAs cX12_givesAs 4 (some .int) ({ frames := 3, cells := 0, slots := 0, locals := 67 }) D cI cL ad zz [.ref (ad 55), .int 5, .int 1] σ τ (fun r σ' τ' => τ = τ' ∧ (∀ i : Nat, (i < 55 ∨ 55 < i) ∧ (i < 85 ∨ 85 < i) → σ' i = σ i) ∧ (∀ k : Nat, (k < 55 ∨ 55 < k) → σ' 55 k = σ 55 k) ∧ (∀ k : Nat, (k < 4 ∨ 4 < k) ∧ (k < 5 ∨ 5 < k) ∧ (k < 6 ∨ 6 < k) ∧ (k < 7 ∨ 7 < k) → σ' 85 k = σ 85 k) ∧ (σ' 55 55 = 8) ∧ (σ' 85 4 = 60) ∧ (σ' 85 5 = 30) ∧ (σ' 85 6 = 11) ∧ (σ' 85 7 = 1) ∧ ((r = (((1 ^^^ (σ 55 57)) * 3) - (2 + (σ 55 57))) ∧ True))) := by
  refine jM.of hJ (by decide +kernel) (nt := .int) rfl (Nat.le_of_ble_eq_true rfl) ?_
  intro p e s m args below meth c Q ls hC hret hl hP
  obtain ⟨hx, hb, hr, hml, hown, hts, hK, -, hlocks, hZ⟩ := hC
  have hown : s.vm.findClass RX12 = some m.cls := hown
  have hS : va_S (jA ad) s.heap s.heap [] := va_S.rf
  have hA : ∀ q, jA ad q → jA ad q := fun _ h => h
  have hl : lv_has ls 4 [(0, .ref (ad 55)), (1, .int 5), (2, .int 1)] := hl
  refine lv_iload_n hx hb dX12_givesAs_0 rfl (lv_at hl 1 rfl) ?_
  refine lv_iconst (v := 5) hx hb dX12_givesAs_1 (of_decide_eq_true rfl) ?_
  refine lv_icmp_ne (tgt := 30) hx hb dX12_givesAs_2 (of_decide_eq_true rfl) (fun c => absurd (of_decide_eq_true rfl) c) (fun _ => ?_)
  refine lv_aload_n hx hb dX12_givesAs_5 rfl (lv_at hl 0 rfl) ?_
  refine lv_bipush (v := 60) hx hb dX12_givesAs_6 (of_decide_eq_true rfl) ?_
  refine jcallVv (As := [.int 60]) (rest := []) ⟨hx, hb, hml, hown, hts⟩ hK hP hA hS hZ (c_X12_begins_60_4 l D cI cL ad zz hJ σ τ h55_55) cw_RX12_379 (jc_55 cI cL ad σ τ) rfl ⟨Nat.le_of_ble_eq_true rfl, Nat.le_of_ble_eq_true rfl⟩ rfl rfl rfl hl.1 rfl (Nat.le_of_ble_eq_true rfl) dX12_givesAs_8 ⟨Nat.zero_le _, Nat.zero_le _⟩ (fun σ1 τ1 H locs h1 hP hS => ?_)
  obtain ⟨rfl, f3, f4, f5, m6, m7, h1⟩ := h1
  refine lv_aload_n hx hb dX12_givesAs_11 rfl (lv_at hl 0 rfl) ?_
  refine lv_iconst (v := 3) hx hb dX12_givesAs_12 (of_decide_eq_true rfl) ?_
  refine lv_iload_n hx hb dX12_givesAs_13 rfl (lv_at hl 2 rfl) ?_
  have z9 : (σ1 55 56).toInt = (σ 55 56).toInt := (congrArg Int32.toInt (show σ1 55 56 = (σ 55 56) from (f4 56 (of_decide_eq_true rfl))))
  exact by
   refine jcallV (As := [.int 3, .int 1]) (rest := []) ⟨hx, hb, hml, hown, hts⟩ hK hP hA hS hZ (c_X12_givesAs_5_3_5_x1 l D cI cL ad zz hJ σ1 τ m6 (by omega)) cw_RX12_394 (jc_55 cI cL ad σ1 τ) rfl ⟨Nat.le_of_ble_eq_true rfl, Nat.le_of_ble_eq_true rfl⟩ rfl rfl rfl hl.1 rfl (Nat.le_of_ble_eq_true rfl) dX12_givesAs_14 ⟨Nat.zero_le _, Nat.zero_le _⟩ (fun r11 σ10 τ10 H locs h10 hP hS => ?_)
   obtain ⟨rfl, f12, f13, f14, m15, m16, m17, h10⟩ := h10
   have h19 := h10
   obtain ⟨q21, k20⟩ := h19
   have q21 := q21.symm
   subst q21
   refine lv_istore_n (lv' := [(3, .int ((1 ^^^ (σ1 55 57)) * 3)), (0, .ref (ad 55)), (1, .int 5), (2, .int 1)]) hx hb dX12_givesAs_17 rfl hl (of_decide_eq_true rfl) rfl (fun ls hl => ?_)
   refine lv_iload_n hx hb dX12_givesAs_18 rfl (lv_at hl 0 rfl) ?_
   refine lv_aload_n hx hb dX12_givesAs_19 rfl (lv_at hl 1 rfl) ?_
   refine lv_aload_n hx hb dX12_givesAs_20 rfl (lv_at hl 1 rfl) ?_
   refine va_get (D := D) hx hb hts inlX12 hown hK hP 55 (jc_55 cI cL ad σ10 τ) rfl 56 (of_decide_eq_true rfl) (hts _ kw_49_8) (fun _ h9 => h9) rfl dX12_givesAs_21 ?_
   have m22 : σ10 55 56 = (σ 55 56) := ((f13 56 (of_decide_eq_true rfl)).trans (f4 56 (of_decide_eq_true rfl)))
   refine jtopr m22 ?_
   exact by
    refine jtopr (jsame (rfl : (σ 55 56).toInt = (σ 55 56).toInt) jz_5 (by omega)) ?_
    refine lv_iconst (v := 2) hx hb dX12_givesAs_24 (of_decide_eq_true rfl) ?_
    have z23 : (σ10 55 56).toInt = (σ 55 56).toInt := (congrArg Int32.toInt (show σ10 55 56 = (σ 55 56) from m22))
    refine jcallV (As := [.int 5, .int 2]) (rest := [.int ((1 ^^^ (σ1 55 57)) * 3)]) ⟨hx, hb, hml, hown, hts⟩ hK hP hA hS hZ (c_X12_putsAs_5_5_7_x2 l D cI cL ad zz hJ σ10 τ m15 (by omega)) cw_RX12_382 (jc_55 cI cL ad σ10 τ) rfl ⟨Nat.le_of_ble_eq_true rfl, Nat.le_of_ble_eq_true rfl⟩ rfl rfl rfl hl.1 rfl (Nat.le_of_ble_eq_true rfl) dX12_givesAs_25 ⟨Nat.zero_le _, Nat.zero_le _⟩ (fun r25 σ24 τ24 H locs h24 hP hS => ?_)
    obtain ⟨rfl, f26, f27, f28, m29, m30, h24⟩ := h24
    have h32 := h24
    obtain ⟨q34, k33⟩ := h32
    have q34 := q34.symm
    subst q34
    exact by
     have g35 := jrg (rfl : ((1 ^^^ (σ1 55 57)) * 3).toInt = ((1 ^^^ (σ1 55 57)) * 3).toInt)
     have g36 := jrg (rfl : (2 + (σ10 55 57)).toInt = (2 + (σ10 55 57)).toInt)
     refine lv_isub hx hb dX12_givesAs_28 ?_
     refine lv_topi (fun x37 ex37 => ?_)
     have gx37 := jrg (rfl : x37.toInt = x37.toInt)
     have m38 : σ24 85 4 = 60 := ((f28 4 (of_decide_eq_true rfl)).trans ((f14 4 (of_decide_eq_true rfl)).trans m7))
     have m39 : σ24 85 5 = 30 := ((f28 5 (of_decide_eq_true rfl)).trans m16)
     have m40 : σ24 85 6 = 11 := ((f28 6 (of_decide_eq_true rfl)).trans m17)
     exact hret x37 σ24 τ _ _ _ _ rfl ⟨rfl, (fun i hi => ((f26 i hi).trans ((f12 i hi).trans (f3 i hi)))), (fun i hi => ((f27 i hi).trans ((f13 i hi).trans (f4 i hi)))), (fun i hi => ((f28 i (imp_339 i hi)).trans ((f14 i (imp_340 i hi)).trans (f5 i (imp_365 i hi))))), m29, m38, m39, m40, m30, ⟨(by rw [ex37, (show σ1 55 57 = σ 55 57 from (f4 57 (of_decide_eq_true rfl))), (show σ10 55 57 = σ 55 57 from ((f13 57 (of_decide_eq_true rfl)).trans (f4 57 (of_decide_eq_true rfl))))]), trivial⟩⟩ hP hS dX12_givesAs_29
set_option maxHeartbeats 4000000 in
set_option maxRecDepth 100000 in
theorem c_X12_tellsAs_5_5_0 (l : Launch) (D : va_G) (cI cL : ClassId) (ad zz : Nat → Nat) (hJ : jD ad) (σ : Nat → Nat → Int32) (τ : Nat → Nat → Int64) (a2 : Int32) (A2 : Int) (t2 : a2.toInt = A2) (h55_55 : σ 55 55 = 0) (hp0 : (σ 55 56).toInt = 5) : jM l yX12_tellsAs cX12_tellsAs 4 (some .int) ({ frames := 4, cells := 0, slots := 0, locals := 90 }) D cI cL ad zz [.ref (ad 55), .int 5, .int a2] σ τ (fun r σ' τ' => τ = τ' ∧ (∀ i : Nat, (i < 55 ∨ 55 < i) ∧ (i < 85 ∨ 85 < i) → σ' i = σ i) ∧ (∀ k : Nat, (k < 55 ∨ 55 < k) → σ' 55 k = σ 55 k) ∧ (∀ k : Nat, (k < 0 ∨ 0 < k) ∧ (k < 1 ∨ 1 < k) ∧ (k < 2 ∨ 2 < k) ∧ (k < 3 ∨ 3 < k) ∧ (k < 4 ∨ 4 < k) ∧ (k < 5 ∨ 5 < k) ∧ (k < 6 ∨ 6 < k) ∧ (k < 7 ∨ 7 < k) → σ' 85 k = σ 85 k) ∧ (σ' 55 55 = 8) ∧ (σ' 85 0 = 2) ∧ (σ' 85 1 = 40) ∧ (σ' 85 2 = 10) ∧ (σ' 85 3 = 1) ∧ (σ' 85 4 = 60) ∧ (σ' 85 5 = 30) ∧ (σ' 85 6 = 11) ∧ (σ' 85 7 = 1) ∧ ((r = ((-((a2 + (σ 55 57)) * 2)) - (((1 ^^^ (σ 55 57)) * 3) - (2 + (σ 55 57)))) ∧ True))) := by
  refine jM.of hJ (by decide +kernel) (nt := .int) rfl (Nat.le_of_ble_eq_true rfl) ?_
  intro p e s m args below meth c Q ls hC hret hl hP
  obtain ⟨hx, hb, hr, hml, hown, hts, hK, -, hlocks, hZ⟩ := hC
  have hown : s.vm.findClass RX12 = some m.cls := hown
  have hS : va_S (jA ad) s.heap s.heap [] := va_S.rf
  have hA : ∀ q, jA ad q → jA ad q := fun _ h => h
  have hl : lv_has ls 4 [(0, .ref (ad 55)), (1, .int 5), (2, .int a2)] := hl
  have g2 := jrg t2
  refine lv_iload_n hx hb dX12_tellsAs_0 rfl (lv_at hl 1 rfl) ?_
  refine lv_iconst (v := 4) hx hb dX12_tellsAs_1 (of_decide_eq_true rfl) ?_
  refine lv_icmp_ne (tgt := 20) hx hb dX12_tellsAs_2 (of_decide_eq_true rfl) (fun _ => ?_) (fun c => absurd c (of_decide_eq_true rfl))
  refine lv_aload_n hx hb dX12_tellsAs_20 rfl (lv_at hl 0 rfl) ?_
  refine lv_iconst (v := 2) hx hb dX12_tellsAs_21 (of_decide_eq_true rfl) ?_
  refine jcallVv (As := [.int 2]) (rest := []) ⟨hx, hb, hml, hown, hts⟩ hK hP hA hS hZ (c_X12_begins_2_0 l D cI cL ad zz hJ σ τ h55_55) cw_RX12_379 (jc_55 cI cL ad σ τ) rfl ⟨Nat.le_of_ble_eq_true rfl, Nat.le_of_ble_eq_true rfl⟩ rfl rfl rfl hl.1 rfl (Nat.le_of_ble_eq_true rfl) dX12_tellsAs_22 ⟨Nat.zero_le _, Nat.zero_le _⟩ (fun σ1 τ1 H locs h1 hP hS => ?_)
  obtain ⟨rfl, f3, f4, f5, m6, m7, h1⟩ := h1
  refine lv_aload_n hx hb dX12_tellsAs_25 rfl (lv_at hl 0 rfl) ?_
  refine lv_aload_n hx hb dX12_tellsAs_26 rfl (lv_at hl 0 rfl) ?_
  refine va_get (D := D) hx hb hts inlX12 hown hK hP 55 (jc_55 cI cL ad σ1 τ) rfl 56 (of_decide_eq_true rfl) (hts _ kw_49_8) (fun _ h9 => h9) rfl dX12_tellsAs_27 ?_
  have m9 : σ1 55 56 = (σ 55 56) := (f4 56 (of_decide_eq_true rfl))
  refine jtopr m9 ?_
  exact by
   refine jtopr (jsame (rfl : (σ 55 56).toInt = (σ 55 56).toInt) jz_5 (by omega)) ?_
   refine lv_iload_n hx hb dX12_tellsAs_30 rfl (lv_at hl 2 rfl) ?_
   have z10 : (σ1 55 56).toInt = (σ 55 56).toInt := (congrArg Int32.toInt (show σ1 55 56 = (σ 55 56) from m9))
   refine jcallV (As := [.int 5, .int a2]) (rest := []) ⟨hx, hb, hml, hown, hts⟩ hK hP hA hS hZ (c_X12_holdsAs_5_5_1 l D cI cL ad zz hJ σ1 τ a2 (A2) t2 m6 (by omega)) cw_RX12_388 (jc_55 cI cL ad σ1 τ) rfl ⟨Nat.le_of_ble_eq_true rfl, Nat.le_of_ble_eq_true rfl⟩ rfl rfl rfl hl.1 rfl (Nat.le_of_ble_eq_true rfl) dX12_tellsAs_31 ⟨Nat.zero_le _, Nat.zero_le _⟩ (fun r12 σ11 τ11 H locs h11 hP hS => ?_)
   obtain ⟨rfl, f13, f14, f15, m16, m17, m18, m19, h11⟩ := h11
   have h21 := h11
   obtain ⟨q23, k22⟩ := h21
   have q23 := q23.symm
   subst q23
   exact by
    refine lv_istore_n (lv' := [(3, .int (-((a2 + (σ1 55 57)) * 2))), (0, .ref (ad 55)), (1, .int 5), (2, .int a2)]) hx hb dX12_tellsAs_34 rfl hl (of_decide_eq_true rfl) rfl (fun ls hl => ?_)
    refine lv_iload_n hx hb dX12_tellsAs_35 rfl (lv_at hl 0 rfl) ?_
    refine lv_aload_n hx hb dX12_tellsAs_36 rfl (lv_at hl 1 rfl) ?_
    refine lv_aload_n hx hb dX12_tellsAs_37 rfl (lv_at hl 1 rfl) ?_
    refine va_get (D := D) hx hb hts inlX12 hown hK hP 55 (jc_55 cI cL ad σ11 τ) rfl 56 (of_decide_eq_true rfl) (hts _ kw_49_8) (fun _ h9 => h9) rfl dX12_tellsAs_38 ?_
    have m24 : σ11 55 56 = (σ 55 56) := ((f14 56 (of_decide_eq_true rfl)).trans m9)
    refine jtopr m24 ?_
    refine jtopr (jsame (rfl : (σ 55 56).toInt = (σ 55 56).toInt) jz_5 (by omega)) ?_
    refine lv_iconst (v := 1) hx hb dX12_tellsAs_41 (of_decide_eq_true rfl) ?_
    exact by
     have z25 : (σ11 55 56).toInt = (σ 55 56).toInt := (congrArg Int32.toInt (show σ11 55 56 = (σ 55 56) from m24))
     refine jcallV (As := [.int 5, .int 1]) (rest := [.int (-((a2 + (σ1 55 57)) * 2))]) ⟨hx, hb, hml, hown, hts⟩ hK hP hA hS hZ (c_X12_givesAs_5_5_4_x1 l D cI cL ad zz hJ σ11 τ m16 (by omega)) cw_RX12_394 (jc_55 cI cL ad σ11 τ) rfl ⟨Nat.le_of_ble_eq_true rfl, Nat.le_of_ble_eq_true rfl⟩ rfl rfl rfl hl.1 rfl (Nat.le_of_ble_eq_true rfl) dX12_tellsAs_42 ⟨Nat.zero_le _, Nat.zero_le _⟩ (fun r27 σ26 τ26 H locs h26 hP hS => ?_)
     obtain ⟨rfl, f28, f29, f30, m31, m32, m33, m34, m35, h26⟩ := h26
     have h37 := h26
     obtain ⟨q39, k38⟩ := h37
     have q39 := q39.symm
     subst q39
     have g40 := jrg (rfl : (-((a2 + (σ1 55 57)) * 2)).toInt = (-((a2 + (σ1 55 57)) * 2)).toInt)
     have g41 := jrg (rfl : (((1 ^^^ (σ11 55 57)) * 3) - (2 + (σ11 55 57))).toInt = (((1 ^^^ (σ11 55 57)) * 3) - (2 + (σ11 55 57))).toInt)
     exact by
      refine lv_isub hx hb dX12_tellsAs_45 ?_
      refine lv_topi (fun x42 ex42 => ?_)
      have gx42 := jrg (rfl : x42.toInt = x42.toInt)
      have m43 : σ26 85 0 = 2 := ((f30 0 (of_decide_eq_true rfl)).trans ((f15 0 (of_decide_eq_true rfl)).trans m7))
      have m44 : σ26 85 1 = 40 := ((f30 1 (of_decide_eq_true rfl)).trans m17)
      have m45 : σ26 85 2 = 10 := ((f30 2 (of_decide_eq_true rfl)).trans m18)
      have m46 : σ26 85 3 = 1 := ((f30 3 (of_decide_eq_true rfl)).trans m19)
      exact hret x42 σ26 τ _ _ _ _ rfl ⟨rfl, (fun i hi => ((f28 i hi).trans ((f13 i hi).trans (f3 i hi)))), (fun i hi => ((f29 i hi).trans ((f14 i hi).trans (f4 i hi)))), (fun i hi => ((f30 i (imp_342 i hi)).trans ((f15 i (imp_343 i hi)).trans (f5 i (imp_366 i hi))))), m31, m43, m44, m45, m46, m32, m33, m34, m35, ⟨(by rw [ex42, (show σ1 55 57 = σ 55 57 from (f4 57 (of_decide_eq_true rfl))), (show σ11 55 57 = σ 55 57 from ((f14 57 (of_decide_eq_true rfl)).trans (f4 57 (of_decide_eq_true rfl))))]), trivial⟩⟩ hP hS dX12_tellsAs_46
set_option maxHeartbeats 4000000 in
set_option maxRecDepth 100000 in
theorem c_X12_putsAs_6_6_0 (l : Launch) (D : va_G) (cI cL : ClassId) (ad zz : Nat → Nat) (hJ : jD ad) (σ : Nat → Nat → Int32) (τ : Nat → Nat → Int64) (a2 : Int32) (A2 : Int) (t2 : a2.toInt = A2) (h55_55 : σ 55 55 = 0) (hp0 : (σ 55 56).toInt = 6) : jM l yX12_putsAs cX12_putsAs 3 (some .int) ({ frames := 1, cells := 0, slots := 0, locals := 21 }) D cI cL ad zz [.ref (ad 55), .int 6, .int a2] σ τ (fun r σ' τ' => τ = τ' ∧ (∀ i : Nat, (i < 55 ∨ 55 < i) ∧ (i < 85 ∨ 85 < i) → σ' i = σ i) ∧ (∀ k : Nat, (k < 55 ∨ 55 < k) → σ' 55 k = σ 55 k) ∧ (∀ k : Nat, (k < 0 ∨ 0 < k) → σ' 85 k = σ 85 k) ∧ (σ' 55 55 = 1) ∧ (σ' 85 0 = 1) ∧ ((r = (a2 + (σ 55 57)) ∧ True))) := by
  refine jM.of hJ (by decide +kernel) (nt := .int) rfl (Nat.le_of_ble_eq_true rfl) ?_
  intro p e s m args below meth c Q ls hC hret hl hP
  obtain ⟨hx, hb, hr, hml, hown, hts, hK, -, hlocks, hZ⟩ := hC
  have hown : s.vm.findClass RX12 = some m.cls := hown
  have hS : va_S (jA ad) s.heap s.heap [] := va_S.rf
  have hA : ∀ q, jA ad q → jA ad q := fun _ h => h
  have hl : lv_has ls 3 [(0, .ref (ad 55)), (1, .int 6), (2, .int a2)] := hl
  have g2 := jrg t2
  refine lv_iload_n hx hb dX12_putsAs_0 rfl (lv_at hl 1 rfl) ?_
  refine lv_iconst (v := 4) hx hb dX12_putsAs_1 (of_decide_eq_true rfl) ?_
  refine lv_icmp_ne (tgt := 20) hx hb dX12_putsAs_2 (of_decide_eq_true rfl) (fun _ => ?_) (fun c => absurd c (of_decide_eq_true rfl))
  refine lv_iload_n hx hb dX12_putsAs_20 rfl (lv_at hl 1 rfl) ?_
  refine lv_iconst (v := 1) hx hb dX12_putsAs_21 (of_decide_eq_true rfl) ?_
  refine lv_icmp_ne (tgt := 40) hx hb dX12_putsAs_22 (of_decide_eq_true rfl) (fun _ => ?_) (fun c => absurd c (of_decide_eq_true rfl))
  refine lv_aload_n hx hb dX12_putsAs_40 rfl (lv_at hl 0 rfl) ?_
  refine lv_iconst (v := 1) hx hb dX12_putsAs_41 (of_decide_eq_true rfl) ?_
  refine jcallVv (As := [.int 1]) (rest := []) ⟨hx, hb, hml, hown, hts⟩ hK hP hA hS hZ (c_X12_begins_1_0 l D cI cL ad zz hJ σ τ h55_55) cw_RX12_379 (jc_55 cI cL ad σ τ) rfl ⟨Nat.le_of_ble_eq_true rfl, Nat.le_of_ble_eq_true rfl⟩ rfl rfl rfl hl.1 rfl (Nat.le_of_ble_eq_true rfl) dX12_putsAs_42 ⟨Nat.zero_le _, Nat.zero_le _⟩ (fun σ1 τ1 H locs h1 hP hS => ?_)
  obtain ⟨rfl, f3, f4, f5, m6, m7, h1⟩ := h1
  refine lv_iload_n hx hb dX12_putsAs_45 rfl (lv_at hl 2 rfl) ?_
  refine lv_aload_n hx hb dX12_putsAs_46 rfl (lv_at hl 0 rfl) ?_
  refine va_get (D := D) hx hb hts inlX12 hown hK hP 55 (jc_55 cI cL ad σ1 τ) rfl 57 (of_decide_eq_true rfl) (hts _ kw_49_9) (fun _ h9 => h9) rfl dX12_putsAs_47 ?_
  have m9 : σ1 55 57 = (σ 55 57) := (f4 57 (of_decide_eq_true rfl))
  refine jtopr m9 ?_
  have g10 := jrg (rfl : (σ 55 57).toInt = (σ 55 57).toInt)
  refine lv_iadd hx hb dX12_putsAs_50 ?_
  refine lv_topi (fun x11 ex11 => ?_)
  have gx11 := jrg (rfl : x11.toInt = x11.toInt)
  exact hret x11 σ1 τ _ _ _ _ rfl ⟨rfl, (fun i hi => (f3 i hi)), (fun i hi => (f4 i hi)), (fun i hi => (f5 i hi)), m6, m7, ⟨(by rw [ex11]), trivial⟩⟩ hP hS dX12_putsAs_51
set_option maxHeartbeats 4000000 in
set_option maxRecDepth 100000 in
theorem c_X12_begins_70_0 (l : Launch) (D : va_G) (cI cL : ClassId) (ad zz : Nat → Nat) (hJ : jD ad) (σ : Nat → Nat → Int32) (τ : Nat → Nat → Int64) (h55_55 : σ 55 55 = 0) : jMv l yX12_begins cX12_begins 2 none ({ frames := 0, cells := 0, slots := 0, locals := 0 }) D cI cL ad zz [.ref (ad 55), .int 70] σ τ (fun σ' τ' => τ = τ' ∧ (∀ i : Nat, (i < 55 ∨ 55 < i) ∧ (i < 85 ∨ 85 < i) → σ' i = σ i) ∧ (∀ k : Nat, (k < 55 ∨ 55 < k) → σ' 55 k = σ 55 k) ∧ (∀ k : Nat, (k < 0 ∨ 0 < k) → σ' 85 k = σ 85 k) ∧ (σ' 55 55 = 1) ∧ (σ' 85 0 = 70) ∧ True) := by
  refine jMv.of hJ (by decide +kernel) rfl (Nat.le_of_ble_eq_true rfl) ?_
  intro p e s m args below meth c Q ls hC hret hl hP
  obtain ⟨hx, hb, hr, hml, hown, hts, hK, -, hlocks, hZ⟩ := hC
  have hown : s.vm.findClass RX12 = some m.cls := hown
  have hS : va_S (jA ad) s.heap s.heap [] := va_S.rf
  have hA : ∀ q, jA ad q → jA ad q := fun _ h => h
  have hl : lv_has ls 2 [(0, .ref (ad 55)), (1, .int 70)] := hl
  refine lv_aload_n hx hb dX12_begins_0 rfl (lv_at hl 0 rfl) ?_
  refine va_get (D := D) hx hb hts inlX12 hown hK hP 55 (jc_55 cI cL ad σ τ) rfl 55 (of_decide_eq_true rfl) (hts _ kw_49_7) (fun _ h9 => h9) rfl dX12_begins_1 ?_
  refine jtopr h55_55 ?_
  refine lv_bipush (v := 24) hx hb dX12_begins_4 (of_decide_eq_true rfl) ?_
  refine lv_icmp_ge (tgt := 19) hx hb dX12_begins_6 (of_decide_eq_true rfl) (fun c => absurd c (of_decide_eq_true rfl)) (fun _ => ?_)
  refine lv_aload_n hx hb dX12_begins_9 rfl (lv_at hl 0 rfl) ?_
  refine va_get (D := D) hx hb hts inlX12 hown hK hP 55 (jc_55 cI cL ad σ τ) rfl 54 (of_decide_eq_true rfl) (hts _ kw_8_10) (fun _ h9 => h9) rfl dX12_begins_10 ?_
  refine lv_aload_n hx hb dX12_begins_13 rfl (lv_at hl 0 rfl) ?_
  refine va_get (D := D) hx hb hts inlX12 hown hK hP 55 (jc_55 cI cL ad σ τ) rfl 55 (of_decide_eq_true rfl) (hts _ kw_49_7) (fun _ h9 => h9) rfl dX12_begins_14 ?_
  refine jtopr h55_55 ?_
  refine lv_iload_n hx hb dX12_begins_17 rfl (lv_at hl 1 rfl) ?_
  exact by
   refine jast hx hb hK hP hJ hA hS (jc_85 cI cL ad σ τ) (ja_85 cI cL ad σ τ _ _) (jin jz_0 (by omega) (by omega)) dX12_begins_18 (fun σ1 H locs eσ1 hP hS => ?_)
   have eσ1 : σ1 = jup σ 85 0 70 := eσ1
   refine lv_aload_n hx hb dX12_begins_19 rfl (lv_at hl 0 rfl) ?_
   refine lv_dup hx hb dX12_begins_20 rfl ?_
   refine va_get (D := D) hx hb hts inlX12 hown hK hP 55 (jc_55 cI cL ad σ1 τ) rfl 55 (of_decide_eq_true rfl) (hts _ kw_49_7) (fun _ h9 => h9) rfl dX12_begins_21 ?_
   have m2 : σ1 55 55 = 0 := ((congrFun (jnp 55 eσ1 (of_decide_eq_true rfl)) 55).trans h55_55)
   refine jtopr m2 ?_
   refine lv_iconst (v := 1) hx hb dX12_begins_24 (of_decide_eq_true rfl) ?_
   refine lv_iadd hx hb dX12_begins_25 ?_
   refine jtopr (y := 1) (of_decide_eq_true rfl) ?_
   refine jput (ty := .int) hx hb hts inlX12 tyX12 tyX12_ok nmX12 hown hK hP hJ hA hS (jc_55 cI cL ad σ1 τ) rfl (k := 55) (of_decide_eq_true rfl) (Nat.le_of_ble_eq_true rfl) (jp_55_55 cI cL ad σ1 τ 1) (hts _ kw_49_7) (fun _ h9 => h9) rfl (by decide +kernel) rfl rfl dX12_begins_26 (fun σ3 H locs eσ3 hP hS => ?_)
   have m4 : σ3 55 55 = 1 := (jsp eσ3)
   have m5 : σ3 85 0 = 70 := ((congrFun (jnp 85 eσ3 (of_decide_eq_true rfl)) 0).trans (jsp eσ1))
   exact hret σ3 τ _ _ _ _ ⟨rfl, (fun i hi => ((jnp i eσ3 (imp_350 i hi)).trans (jnp i eσ1 (imp_351 i hi)))), (fun i hi => ((jkp i eσ3 (imp_165 i hi)).trans (congrFun (jnp 55 eσ1 (of_decide_eq_true rfl)) i))), (fun i hi => ((congrFun (jnp 85 eσ3 (of_decide_eq_true rfl)) i).trans (jkp i eσ1 (imp_4 i hi)))), m4, m5, trivial⟩ hP hS dX12_begins_29
set_option maxHeartbeats 4000000 in
set_option maxRecDepth 100000 in
theorem c_X12_putsAs_6_6_2 (l : Launch) (D : va_G) (cI cL : ClassId) (ad zz : Nat → Nat) (hJ : jD ad) (σ : Nat → Nat → Int32) (τ : Nat → Nat → Int64) (a2 : Int32) (A2 : Int) (t2 : a2.toInt = A2) (h55_55 : σ 55 55 = 2) (hp0 : (σ 55 56).toInt = 6) : jM l yX12_putsAs cX12_putsAs 3 (some .int) ({ frames := 1, cells := 0, slots := 0, locals := 21 }) D cI cL ad zz [.ref (ad 55), .int 6, .int a2] σ τ (fun r σ' τ' => τ = τ' ∧ (∀ i : Nat, (i < 55 ∨ 55 < i) ∧ (i < 85 ∨ 85 < i) → σ' i = σ i) ∧ (∀ k : Nat, (k < 55 ∨ 55 < k) → σ' 55 k = σ 55 k) ∧ (∀ k : Nat, (k < 2 ∨ 2 < k) → σ' 85 k = σ 85 k) ∧ (σ' 55 55 = 3) ∧ (σ' 85 2 = 1) ∧ ((r = (a2 + (σ 55 57)) ∧ True))) := by
  refine jM.of hJ (by decide +kernel) (nt := .int) rfl (Nat.le_of_ble_eq_true rfl) ?_
  intro p e s m args below meth c Q ls hC hret hl hP
  obtain ⟨hx, hb, hr, hml, hown, hts, hK, -, hlocks, hZ⟩ := hC
  have hown : s.vm.findClass RX12 = some m.cls := hown
  have hS : va_S (jA ad) s.heap s.heap [] := va_S.rf
  have hA : ∀ q, jA ad q → jA ad q := fun _ h => h
  have hl : lv_has ls 3 [(0, .ref (ad 55)), (1, .int 6), (2, .int a2)] := hl
  have g2 := jrg t2
  refine lv_iload_n hx hb dX12_putsAs_0 rfl (lv_at hl 1 rfl) ?_
  refine lv_iconst (v := 4) hx hb dX12_putsAs_1 (of_decide_eq_true rfl) ?_
  refine lv_icmp_ne (tgt := 20) hx hb dX12_putsAs_2 (of_decide_eq_true rfl) (fun _ => ?_) (fun c => absurd c (of_decide_eq_true rfl))
  refine lv_iload_n hx hb dX12_putsAs_20 rfl (lv_at hl 1 rfl) ?_
  refine lv_iconst (v := 1) hx hb dX12_putsAs_21 (of_decide_eq_true rfl) ?_
  refine lv_icmp_ne (tgt := 40) hx hb dX12_putsAs_22 (of_decide_eq_true rfl) (fun _ => ?_) (fun c => absurd c (of_decide_eq_true rfl))
  refine lv_aload_n hx hb dX12_putsAs_40 rfl (lv_at hl 0 rfl) ?_
  refine lv_iconst (v := 1) hx hb dX12_putsAs_41 (of_decide_eq_true rfl) ?_
  refine jcallVv (As := [.int 1]) (rest := []) ⟨hx, hb, hml, hown, hts⟩ hK hP hA hS hZ (c_X12_begins_1_2 l D cI cL ad zz hJ σ τ h55_55) cw_RX12_379 (jc_55 cI cL ad σ τ) rfl ⟨Nat.le_of_ble_eq_true rfl, Nat.le_of_ble_eq_true rfl⟩ rfl rfl rfl hl.1 rfl (Nat.le_of_ble_eq_true rfl) dX12_putsAs_42 ⟨Nat.zero_le _, Nat.zero_le _⟩ (fun σ1 τ1 H locs h1 hP hS => ?_)
  obtain ⟨rfl, f3, f4, f5, m6, m7, h1⟩ := h1
  refine lv_iload_n hx hb dX12_putsAs_45 rfl (lv_at hl 2 rfl) ?_
  refine lv_aload_n hx hb dX12_putsAs_46 rfl (lv_at hl 0 rfl) ?_
  refine va_get (D := D) hx hb hts inlX12 hown hK hP 55 (jc_55 cI cL ad σ1 τ) rfl 57 (of_decide_eq_true rfl) (hts _ kw_49_9) (fun _ h9 => h9) rfl dX12_putsAs_47 ?_
  have m9 : σ1 55 57 = (σ 55 57) := (f4 57 (of_decide_eq_true rfl))
  refine jtopr m9 ?_
  have g10 := jrg (rfl : (σ 55 57).toInt = (σ 55 57).toInt)
  refine lv_iadd hx hb dX12_putsAs_50 ?_
  refine lv_topi (fun x11 ex11 => ?_)
  have gx11 := jrg (rfl : x11.toInt = x11.toInt)
  exact hret x11 σ1 τ _ _ _ _ rfl ⟨rfl, (fun i hi => (f3 i hi)), (fun i hi => (f4 i hi)), (fun i hi => (f5 i hi)), m6, m7, ⟨(by rw [ex11]), trivial⟩⟩ hP hS dX12_putsAs_51
set_option maxHeartbeats 4000000 in
set_option maxRecDepth 100000 in
theorem c_X12_holdsAs_6_0_1 (l : Launch) (D : va_G) (cI cL : ClassId) (ad zz : Nat → Nat) (hJ : jD ad) (σ : Nat → Nat → Int32) (τ : Nat → Nat → Int64) (a2 : Int32) (A2 : Int) (t2 : a2.toInt = A2) (h55_55 : σ 55 55 = 1) (hp0 : (σ 55 56).toInt = 6) : jM l yX12_holdsAs cX12_holdsAs 4 (some .int) ({ frames := 2, cells := 0, slots := 0, locals := 43 }) D cI cL ad zz [.ref (ad 55), .int 0, .int a2] σ τ (fun r σ' τ' => τ = τ' ∧ (∀ i : Nat, (i < 55 ∨ 55 < i) ∧ (i < 85 ∨ 85 < i) → σ' i = σ i) ∧ (∀ k : Nat, (k < 55 ∨ 55 < k) → σ' 55 k = σ 55 k) ∧ (∀ k : Nat, (k < 1 ∨ 1 < k) ∧ (k < 2 ∨ 2 < k) → σ' 85 k = σ 85 k) ∧ (σ' 55 55 = 3) ∧ (σ' 85 1 = 10) ∧ (σ' 85 2 = 1) ∧ ((r = ((a2 + (σ 55 57)) * 2) ∧ True))) := by
  refine jM.of hJ (by decide +kernel) (nt := .int) rfl (Nat.le_of_ble_eq_true rfl) ?_
  intro p e s m args below meth c Q ls hC hret hl hP
  obtain ⟨hx, hb, hr, hml, hown, hts, hK, -, hlocks, hZ⟩ := hC
  have hown : s.vm.findClass RX12 = some m.cls := hown
  have hS : va_S (jA ad) s.heap s.heap [] := va_S.rf
  have hA : ∀ q, jA ad q → jA ad q := fun _ h => h
  have hl : lv_has ls 4 [(0, .ref (ad 55)), (1, .int 0), (2, .int a2)] := hl
  have g2 := jrg t2
  refine lv_iload_n hx hb dX12_holdsAs_0 rfl (lv_at hl 1 rfl) ?_
  refine lv_iconst (v := 3) hx hb dX12_holdsAs_1 (of_decide_eq_true rfl) ?_
  refine lv_icmp_eq (tgt := 10) hx hb dX12_holdsAs_2 (of_decide_eq_true rfl) (fun c => absurd c (of_decide_eq_true rfl)) (fun _ => ?_)
  refine lv_iload_n hx hb dX12_holdsAs_5 rfl (lv_at hl 1 rfl) ?_
  refine lv_iconst (v := 5) hx hb dX12_holdsAs_6 (of_decide_eq_true rfl) ?_
  refine lv_icmp_ne (tgt := 24) hx hb dX12_holdsAs_7 (of_decide_eq_true rfl) (fun _ => ?_) (fun c => absurd c (of_decide_eq_true rfl))
  refine lv_iload_n hx hb dX12_holdsAs_24 rfl (lv_at hl 1 rfl) ?_
  refine lv_bipush (v := 6) hx hb dX12_holdsAs_25 (of_decide_eq_true rfl) ?_
  refine lv_icmp_ne (tgt := 55) hx hb dX12_holdsAs_27 (of_decide_eq_true rfl) (fun _ => ?_) (fun c => absurd c (of_decide_eq_true rfl))
  refine lv_aload_n hx hb dX12_holdsAs_55 rfl (lv_at hl 0 rfl) ?_
  refine lv_bipush (v := 10) hx hb dX12_holdsAs_56 (of_decide_eq_true rfl) ?_
  refine jcallVv (As := [.int 10]) (rest := []) ⟨hx, hb, hml, hown, hts⟩ hK hP hA hS hZ (c_X12_begins_10_1 l D cI cL ad zz hJ σ τ h55_55) cw_RX12_379 (jc_55 cI cL ad σ τ) rfl ⟨Nat.le_of_ble_eq_true rfl, Nat.le_of_ble_eq_true rfl⟩ rfl rfl rfl hl.1 rfl (Nat.le_of_ble_eq_true rfl) dX12_holdsAs_58 ⟨Nat.zero_le _, Nat.zero_le _⟩ (fun σ1 τ1 H locs h1 hP hS => ?_)
  obtain ⟨rfl, f3, f4, f5, m6, m7, h1⟩ := h1
  refine lv_aload_n hx hb dX12_holdsAs_61 rfl (lv_at hl 0 rfl) ?_
  refine lv_aload_n hx hb dX12_holdsAs_62 rfl (lv_at hl 0 rfl) ?_
  refine va_get (D := D) hx hb hts inlX12 hown hK hP 55 (jc_55 cI cL ad σ1 τ) rfl 56 (of_decide_eq_true rfl) (hts _ kw_49_8) (fun _ h9 => h9) rfl dX12_holdsAs_63 ?_
  have m9 : σ1 55 56 = (σ 55 56) := (f4 56 (of_decide_eq_true rfl))
  refine jtopr m9 ?_
  exact by
   refine jtopr (jsame (rfl : (σ 55 56).toInt = (σ 55 56).toInt) jz_6 (by omega)) ?_
   refine lv_iload_n hx hb dX12_holdsAs_66 rfl (lv_at hl 2 rfl) ?_
   have z10 : (σ1 55 56).toInt = (σ 55 56).toInt := (congrArg Int32.toInt (show σ1 55 56 = (σ 55 56) from m9))
   refine jcallV (As := [.int 6, .int a2]) (rest := []) ⟨hx, hb, hml, hown, hts⟩ hK hP hA hS hZ (c_X12_putsAs_6_6_2 l D cI cL ad zz hJ σ1 τ a2 (A2) t2 m6 (by omega)) cw_RX12_382 (jc_55 cI cL ad σ1 τ) rfl ⟨Nat.le_of_ble_eq_true rfl, Nat.le_of_ble_eq_true rfl⟩ rfl rfl rfl hl.1 rfl (Nat.le_of_ble_eq_true rfl) dX12_holdsAs_67 ⟨Nat.zero_le _, Nat.zero_le _⟩ (fun r12 σ11 τ11 H locs h11 hP hS => ?_)
   obtain ⟨rfl, f13, f14, f15, m16, m17, h11⟩ := h11
   have h19 := h11
   obtain ⟨q21, k20⟩ := h19
   have q21 := q21.symm
   subst q21
   exact by
    refine lv_iconst (v := 2) hx hb dX12_holdsAs_70 (of_decide_eq_true rfl) ?_
    have g22 := jrg (rfl : (a2 + (σ1 55 57)).toInt = (a2 + (σ1 55 57)).toInt)
    refine lv_imul hx hb dX12_holdsAs_71 ?_
    refine lv_topi (fun x23 ex23 => ?_)
    have gx23 := jrg (rfl : x23.toInt = x23.toInt)
    have m24 : σ11 85 1 = 10 := ((f15 1 (of_decide_eq_true rfl)).trans m7)
    exact hret x23 σ11 τ _ _ _ _ rfl ⟨rfl, (fun i hi => ((f13 i hi).trans (f3 i hi))), (fun i hi => ((f14 i hi).trans (f4 i hi))), (fun i hi => ((f15 i (imp_43 i hi)).trans (f5 i (imp_55 i hi)))), m16, m24, m17, ⟨(by rw [ex23, (show σ1 55 57 = σ 55 57 from (f4 57 (of_decide_eq_true rfl)))]), trivial⟩⟩ hP hS dX12_holdsAs_72
set_option maxHeartbeats 4000000 in
set_option maxRecDepth 100000 in
theorem c_X12_givesAs_6_6_3_x1 (l : Launch) (D : va_G) (cI cL : ClassId) (ad zz : Nat → Nat) (hJ : jD ad) (σ : Nat → Nat → Int32) (τ : Nat → Nat → Int64) (h55_55 : σ 55 55 = 3) (hp0 : (σ 55 56).toInt = 6) : jM l yX12_givesAs cX12_givesAs 4 (some .int) ({ frames := 1, cells := 0, slots := 0, locals := 21 }) D cI cL ad zz [.ref (ad 55), .int 6, .int 1] σ τ (fun r σ' τ' => τ = τ' ∧ (∀ i : Nat, (i < 55 ∨ 55 < i) ∧ (i < 85 ∨ 85 < i) → σ' i = σ i) ∧ (∀ k : Nat, (k < 55 ∨ 55 < k) → σ' 55 k = σ 55 k) ∧ (∀ k : Nat, (k < 3 ∨ 3 < k) → σ' 85 k = σ 85 k) ∧ (σ' 55 55 = 4) ∧ (σ' 85 3 = 11) ∧ ((r = (1 ^^^ (σ 55 57)) ∧ True))) := by
  refine jM.of hJ (by decide +kernel) (nt := .int) rfl (Nat.le_of_ble_eq_true rfl) ?_
  intro p e s m args below meth c Q ls hC hret hl hP
  obtain ⟨hx, hb, hr, hml, hown, hts, hK, -, hlocks, hZ⟩ := hC
  have hown : s.vm.findClass RX12 = some m.cls := hown
  have hS : va_S (jA ad) s.heap s.heap [] := va_S.rf
  have hA : ∀ q, jA ad q → jA ad q := fun _ h => h
  have hl : lv_has ls 4 [(0, .ref (ad 55)), (1, .int 6), (2, .int 1)] := hl
  refine lv_iload_n hx hb dX12_givesAs_0 rfl (lv_at hl 1 rfl) ?_
  refine lv_iconst (v := 5) hx hb dX12_givesAs_1 (of_decide_eq_true rfl) ?_
  refine lv_icmp_ne (tgt := 30) hx hb dX12_givesAs_2 (of_decide_eq_true rfl) (fun _ => ?_) (fun c => absurd c (of_decide_eq_true rfl))
  refine lv_iload_n hx hb dX12_givesAs_30 rfl (lv_at hl 1 rfl) ?_
  refine lv_iconst (v := 2) hx hb dX12_givesAs_31 (of_decide_eq_true rfl) ?_
  refine lv_icmp_eq (tgt := 40) hx hb dX12_givesAs_32 (of_decide_eq_true rfl) (fun c => absurd c (of_decide_eq_true rfl)) (fun _ => ?_)
  refine lv_iload_n hx hb dX12_givesAs_35 rfl (lv_at hl 1 rfl) ?_
  refine lv_iconst (v := 3) hx hb dX12_givesAs_36 (of_decide_eq_true rfl) ?_
  refine lv_icmp_ne (tgt := 55) hx hb dX12_givesAs_37 (of_decide_eq_true rfl) (fun _ => ?_) (fun c => absurd c (of_decide_eq_true rfl))
  refine lv_aload_n hx hb dX12_givesAs_55 rfl (lv_at hl 0 rfl) ?_
  refine lv_bipush (v := 11) hx hb dX12_givesAs_56 (of_decide_eq_true rfl) ?_
  refine jcallVv (As := [.int 11]) (rest := []) ⟨hx, hb, hml, hown, hts⟩ hK hP hA hS hZ (c_X12_begins_11_3 l D cI cL ad zz hJ σ τ h55_55) cw_RX12_379 (jc_55 cI cL ad σ τ) rfl ⟨Nat.le_of_ble_eq_true rfl, Nat.le_of_ble_eq_true rfl⟩ rfl rfl rfl hl.1 rfl (Nat.le_of_ble_eq_true rfl) dX12_givesAs_58 ⟨Nat.zero_le _, Nat.zero_le _⟩ (fun σ1 τ1 H locs h1 hP hS => ?_)
  obtain ⟨rfl, f3, f4, f5, m6, m7, h1⟩ := h1
  refine lv_iload_n hx hb dX12_givesAs_61 rfl (lv_at hl 2 rfl) ?_
  refine lv_aload_n hx hb dX12_givesAs_62 rfl (lv_at hl 0 rfl) ?_
  refine va_get (D := D) hx hb hts inlX12 hown hK hP 55 (jc_55 cI cL ad σ1 τ) rfl 57 (of_decide_eq_true rfl) (hts _ kw_49_9) (fun _ h9 => h9) rfl dX12_givesAs_63 ?_
  have m9 : σ1 55 57 = (σ 55 57) := (f4 57 (of_decide_eq_true rfl))
  refine jtopr m9 ?_
  refine lv_ixor hx hb dX12_givesAs_66 ?_
  refine lv_topi (fun x10 ex10 => ?_)
  have gx10 := jrg (rfl : x10.toInt = x10.toInt)
  exact hret x10 σ1 τ _ _ _ _ rfl ⟨rfl, (fun i hi => (f3 i hi)), (fun i hi => (f4 i hi)), (fun i hi => (f5 i hi)), m6, m7, ⟨(by rw [ex10]), trivial⟩⟩ hP hS dX12_givesAs_67
set_option maxHeartbeats 4000000 in
set_option maxRecDepth 100000 in
theorem c_X12_holdsAs_6_6_0 (l : Launch) (D : va_G) (cI cL : ClassId) (ad zz : Nat → Nat) (hJ : jD ad) (σ : Nat → Nat → Int32) (τ : Nat → Nat → Int64) (a2 : Int32) (A2 : Int) (t2 : a2.toInt = A2) (h55_55 : σ 55 55 = 0) (hp0 : (σ 55 56).toInt = 6) : jM l yX12_holdsAs cX12_holdsAs 4 (some .int) ({ frames := 3, cells := 0, slots := 0, locals := 66 }) D cI cL ad zz [.ref (ad 55), .int 6, .int a2] σ τ (fun r σ' τ' => τ = τ' ∧ (∀ i : Nat, (i < 55 ∨ 55 < i) ∧ (i < 85 ∨ 85 < i) → σ' i = σ i) ∧ (∀ k : Nat, (k < 55 ∨ 55 < k) → σ' 55 k = σ 55 k) ∧ (∀ k : Nat, (k < 0 ∨ 0 < k) ∧ (k < 1 ∨ 1 < k) ∧ (k < 2 ∨ 2 < k) ∧ (k < 3 ∨ 3 < k) → σ' 85 k = σ 85 k) ∧ (σ' 55 55 = 4) ∧ (σ' 85 0 = 70) ∧ (σ' 85 1 = 10) ∧ (σ' 85 2 = 1) ∧ (σ' 85 3 = 11) ∧ ((r = (((a2 + (σ 55 57)) * 2) + (1 ^^^ (σ 55 57))) ∧ True))) := by
  refine jM.of hJ (by decide +kernel) (nt := .int) rfl (Nat.le_of_ble_eq_true rfl) ?_
  intro p e s m args below meth c Q ls hC hret hl hP
  obtain ⟨hx, hb, hr, hml, hown, hts, hK, -, hlocks, hZ⟩ := hC
  have hown : s.vm.findClass RX12 = some m.cls := hown
  have hS : va_S (jA ad) s.heap s.heap [] := va_S.rf
  have hA : ∀ q, jA ad q → jA ad q := fun _ h => h
  have hl : lv_has ls 4 [(0, .ref (ad 55)), (1, .int 6), (2, .int a2)] := hl
  have g2 := jrg t2
  refine lv_iload_n hx hb dX12_holdsAs_0 rfl (lv_at hl 1 rfl) ?_
  refine lv_iconst (v := 3) hx hb dX12_holdsAs_1 (of_decide_eq_true rfl) ?_
  refine lv_icmp_eq (tgt := 10) hx hb dX12_holdsAs_2 (of_decide_eq_true rfl) (fun c => absurd c (of_decide_eq_true rfl)) (fun _ => ?_)
  refine lv_iload_n hx hb dX12_holdsAs_5 rfl (lv_at hl 1 rfl) ?_
  refine lv_iconst (v := 5) hx hb dX12_holdsAs_6 (of_decide_eq_true rfl) ?_
  refine lv_icmp_ne (tgt := 24) hx hb dX12_holdsAs_7 (of_decide_eq_true rfl) (fun _ => ?_) (fun c => absurd c (of_decide_eq_true rfl))
  refine lv_iload_n hx hb dX12_holdsAs_24 rfl (lv_at hl 1 rfl) ?_
  refine lv_bipush (v := 6) hx hb dX12_holdsAs_25 (of_decide_eq_true rfl) ?_
  refine lv_icmp_ne (tgt := 55) hx hb dX12_holdsAs_27 (of_decide_eq_true rfl) (fun c => absurd (of_decide_eq_true rfl) c) (fun _ => ?_)
  refine lv_aload_n hx hb dX12_holdsAs_30 rfl (lv_at hl 0 rfl) ?_
  refine lv_bipush (v := 70) hx hb dX12_holdsAs_31 (of_decide_eq_true rfl) ?_
  refine jcallVv (As := [.int 70]) (rest := []) ⟨hx, hb, hml, hown, hts⟩ hK hP hA hS hZ (c_X12_begins_70_0 l D cI cL ad zz hJ σ τ h55_55) cw_RX12_379 (jc_55 cI cL ad σ τ) rfl ⟨Nat.le_of_ble_eq_true rfl, Nat.le_of_ble_eq_true rfl⟩ rfl rfl rfl hl.1 rfl (Nat.le_of_ble_eq_true rfl) dX12_holdsAs_33 ⟨Nat.zero_le _, Nat.zero_le _⟩ (fun σ1 τ1 H locs h1 hP hS => ?_)
  obtain ⟨rfl, f3, f4, f5, m6, m7, h1⟩ := h1
  refine lv_aload_n hx hb dX12_holdsAs_36 rfl (lv_at hl 0 rfl) ?_
  refine lv_iconst (v := 0) hx hb dX12_holdsAs_37 (of_decide_eq_true rfl) ?_
  refine lv_iload_n hx hb dX12_holdsAs_38 rfl (lv_at hl 2 rfl) ?_
  have z9 : (σ1 55 56).toInt = (σ 55 56).toInt := (congrArg Int32.toInt (show σ1 55 56 = (σ 55 56) from (f4 56 (of_decide_eq_true rfl))))
  exact by
   refine jcallV (As := [.int 0, .int a2]) (rest := []) ⟨hx, hb, hml, hown, hts⟩ hK hP hA hS hZ (c_X12_holdsAs_6_0_1 l D cI cL ad zz hJ σ1 τ a2 (A2) t2 m6 (by omega)) cw_RX12_388 (jc_55 cI cL ad σ1 τ) rfl ⟨Nat.le_of_ble_eq_true rfl, Nat.le_of_ble_eq_true rfl⟩ rfl rfl rfl hl.1 rfl (Nat.le_of_ble_eq_true rfl) dX12_holdsAs_39 ⟨Nat.zero_le _, Nat.zero_le _⟩ (fun r11 σ10 τ10 H locs h10 hP hS => ?_)
   obtain ⟨rfl, f12, f13, f14, m15, m16, m17, h10⟩ := h10
   have h19 := h10
   obtain ⟨q21, k20⟩ := h19
   have q21 := q21.symm
   subst q21
   refine lv_istore_n (lv' := [(3, .int ((a2 + (σ1 55 57)) * 2)), (0, .ref (ad 55)), (1, .int 6), (2, .int a2)]) hx hb dX12_holdsAs_42 rfl hl (of_decide_eq_true rfl) rfl (fun ls hl => ?_)
   refine lv_iload_n hx hb dX12_holdsAs_43 rfl (lv_at hl 0 rfl) ?_
   refine lv_aload_n hx hb dX12_holdsAs_44 rfl (lv_at hl 1 rfl) ?_
   refine lv_aload_n hx hb dX12_holdsAs_45 rfl (lv_at hl 1 rfl) ?_
   refine va_get (D := D) hx hb hts inlX12 hown hK hP 55 (jc_55 cI cL ad σ10 τ) rfl 56 (of_decide_eq_true rfl) (hts _ kw_49_8) (fun _ h9 => h9) rfl dX12_holdsAs_46 ?_
   have m22 : σ10 55 56 = (σ 55 56) := ((f13 56 (of_decide_eq_true rfl)).trans (f4 56 (of_decide_eq_true rfl)))
   refine jtopr m22 ?_
   exact by
    refine jtopr (jsame (rfl : (σ 55 56).toInt = (σ 55 56).toInt) jz_6 (by omega)) ?_
    refine lv_iconst (v := 1) hx hb dX12_holdsAs_49 (of_decide_eq_true rfl) ?_
    have z23 : (σ10 55 56).toInt = (σ 55 56).toInt := (congrArg Int32.toInt (show σ10 55 56 = (σ 55 56) from m22))
    refine jcallV (As := [.int 6, .int 1]) (rest := [.int ((a2 + (σ1 55 57)) * 2)]) ⟨hx, hb, hml, hown, hts⟩ hK hP hA hS hZ (c_X12_givesAs_6_6_3_x1 l D cI cL ad zz hJ σ10 τ m15 (by omega)) cw_RX12_394 (jc_55 cI cL ad σ10 τ) rfl ⟨Nat.le_of_ble_eq_true rfl, Nat.le_of_ble_eq_true rfl⟩ rfl rfl rfl hl.1 rfl (Nat.le_of_ble_eq_true rfl) dX12_holdsAs_50 ⟨Nat.zero_le _, Nat.zero_le _⟩ (fun r25 σ24 τ24 H locs h24 hP hS => ?_)
    obtain ⟨rfl, f26, f27, f28, m29, m30, h24⟩ := h24
    have h32 := h24
    obtain ⟨q34, k33⟩ := h32
    have q34 := q34.symm
    subst q34
    exact by
     have g35 := jrg (rfl : ((a2 + (σ1 55 57)) * 2).toInt = ((a2 + (σ1 55 57)) * 2).toInt)
     have g36 := jrg (rfl : (1 ^^^ (σ10 55 57)).toInt = (1 ^^^ (σ10 55 57)).toInt)
     refine lv_iadd hx hb dX12_holdsAs_53 ?_
     refine lv_topi (fun x37 ex37 => ?_)
     have gx37 := jrg (rfl : x37.toInt = x37.toInt)
     have m38 : σ24 85 0 = 70 := ((f28 0 (of_decide_eq_true rfl)).trans ((f14 0 (of_decide_eq_true rfl)).trans m7))
     have m39 : σ24 85 1 = 10 := ((f28 1 (of_decide_eq_true rfl)).trans m16)
     have m40 : σ24 85 2 = 1 := ((f28 2 (of_decide_eq_true rfl)).trans m17)
     exact hret x37 σ24 τ _ _ _ _ rfl ⟨rfl, (fun i hi => ((f26 i hi).trans ((f12 i hi).trans (f3 i hi)))), (fun i hi => ((f27 i hi).trans ((f13 i hi).trans (f4 i hi)))), (fun i hi => ((f28 i (imp_309 i hi)).trans ((f14 i (imp_310 i hi)).trans (f5 i (imp_353 i hi))))), m29, m38, m39, m40, m30, ⟨(by rw [ex37, (show σ1 55 57 = σ 55 57 from (f4 57 (of_decide_eq_true rfl))), (show σ10 55 57 = σ 55 57 from ((f13 57 (of_decide_eq_true rfl)).trans (f4 57 (of_decide_eq_true rfl))))]), trivial⟩⟩ hP hS dX12_holdsAs_54
set_option maxHeartbeats 4000000 in
set_option maxRecDepth 100000 in
theorem c_X12_givesAs_6_6_0 (l : Launch) (D : va_G) (cI cL : ClassId) (ad zz : Nat → Nat) (hJ : jD ad) (σ : Nat → Nat → Int32) (τ : Nat → Nat → Int64) (a2 : Int32) (A2 : Int) (t2 : a2.toInt = A2) (h55_55 : σ 55 55 = 0) (hp0 : (σ 55 56).toInt = 6) : jM l yX12_givesAs cX12_givesAs 4 (some .int) ({ frames := 1, cells := 0, slots := 0, locals := 21 }) D cI cL ad zz [.ref (ad 55), .int 6, .int a2] σ τ (fun r σ' τ' => τ = τ' ∧ (∀ i : Nat, (i < 55 ∨ 55 < i) ∧ (i < 85 ∨ 85 < i) → σ' i = σ i) ∧ (∀ k : Nat, (k < 55 ∨ 55 < k) → σ' 55 k = σ 55 k) ∧ (∀ k : Nat, (k < 0 ∨ 0 < k) → σ' 85 k = σ 85 k) ∧ (σ' 55 55 = 1) ∧ (σ' 85 0 = 11) ∧ ((r = (a2 ^^^ (σ 55 57)) ∧ True))) := by
  refine jM.of hJ (by decide +kernel) (nt := .int) rfl (Nat.le_of_ble_eq_true rfl) ?_
  intro p e s m args below meth c Q ls hC hret hl hP
  obtain ⟨hx, hb, hr, hml, hown, hts, hK, -, hlocks, hZ⟩ := hC
  have hown : s.vm.findClass RX12 = some m.cls := hown
  have hS : va_S (jA ad) s.heap s.heap [] := va_S.rf
  have hA : ∀ q, jA ad q → jA ad q := fun _ h => h
  have hl : lv_has ls 4 [(0, .ref (ad 55)), (1, .int 6), (2, .int a2)] := hl
  have g2 := jrg t2
  refine lv_iload_n hx hb dX12_givesAs_0 rfl (lv_at hl 1 rfl) ?_
  refine lv_iconst (v := 5) hx hb dX12_givesAs_1 (of_decide_eq_true rfl) ?_
  refine lv_icmp_ne (tgt := 30) hx hb dX12_givesAs_2 (of_decide_eq_true rfl) (fun _ => ?_) (fun c => absurd c (of_decide_eq_true rfl))
  refine lv_iload_n hx hb dX12_givesAs_30 rfl (lv_at hl 1 rfl) ?_
  refine lv_iconst (v := 2) hx hb dX12_givesAs_31 (of_decide_eq_true rfl) ?_
  refine lv_icmp_eq (tgt := 40) hx hb dX12_givesAs_32 (of_decide_eq_true rfl) (fun c => absurd c (of_decide_eq_true rfl)) (fun _ => ?_)
  refine lv_iload_n hx hb dX12_givesAs_35 rfl (lv_at hl 1 rfl) ?_
  refine lv_iconst (v := 3) hx hb dX12_givesAs_36 (of_decide_eq_true rfl) ?_
  refine lv_icmp_ne (tgt := 55) hx hb dX12_givesAs_37 (of_decide_eq_true rfl) (fun _ => ?_) (fun c => absurd c (of_decide_eq_true rfl))
  refine lv_aload_n hx hb dX12_givesAs_55 rfl (lv_at hl 0 rfl) ?_
  refine lv_bipush (v := 11) hx hb dX12_givesAs_56 (of_decide_eq_true rfl) ?_
  refine jcallVv (As := [.int 11]) (rest := []) ⟨hx, hb, hml, hown, hts⟩ hK hP hA hS hZ (c_X12_begins_11_0 l D cI cL ad zz hJ σ τ h55_55) cw_RX12_379 (jc_55 cI cL ad σ τ) rfl ⟨Nat.le_of_ble_eq_true rfl, Nat.le_of_ble_eq_true rfl⟩ rfl rfl rfl hl.1 rfl (Nat.le_of_ble_eq_true rfl) dX12_givesAs_58 ⟨Nat.zero_le _, Nat.zero_le _⟩ (fun σ1 τ1 H locs h1 hP hS => ?_)
  obtain ⟨rfl, f3, f4, f5, m6, m7, h1⟩ := h1
  refine lv_iload_n hx hb dX12_givesAs_61 rfl (lv_at hl 2 rfl) ?_
  refine lv_aload_n hx hb dX12_givesAs_62 rfl (lv_at hl 0 rfl) ?_
  refine va_get (D := D) hx hb hts inlX12 hown hK hP 55 (jc_55 cI cL ad σ1 τ) rfl 57 (of_decide_eq_true rfl) (hts _ kw_49_9) (fun _ h9 => h9) rfl dX12_givesAs_63 ?_
  have m9 : σ1 55 57 = (σ 55 57) := (f4 57 (of_decide_eq_true rfl))
  refine jtopr m9 ?_
  refine lv_ixor hx hb dX12_givesAs_66 ?_
  refine lv_topi (fun x10 ex10 => ?_)
  have gx10 := jrg (rfl : x10.toInt = x10.toInt)
  exact hret x10 σ1 τ _ _ _ _ rfl ⟨rfl, (fun i hi => (f3 i hi)), (fun i hi => (f4 i hi)), (fun i hi => (f5 i hi)), m6, m7, ⟨(by rw [ex10]), trivial⟩⟩ hP hS dX12_givesAs_67
set_option maxHeartbeats 4000000 in
set_option maxRecDepth 100000 in
theorem c_X12_begins_70_1 (l : Launch) (D : va_G) (cI cL : ClassId) (ad zz : Nat → Nat) (hJ : jD ad) (σ : Nat → Nat → Int32) (τ : Nat → Nat → Int64) (h55_55 : σ 55 55 = 1) : jMv l yX12_begins cX12_begins 2 none ({ frames := 0, cells := 0, slots := 0, locals := 0 }) D cI cL ad zz [.ref (ad 55), .int 70] σ τ (fun σ' τ' => τ = τ' ∧ (∀ i : Nat, (i < 55 ∨ 55 < i) ∧ (i < 85 ∨ 85 < i) → σ' i = σ i) ∧ (∀ k : Nat, (k < 55 ∨ 55 < k) → σ' 55 k = σ 55 k) ∧ (∀ k : Nat, (k < 1 ∨ 1 < k) → σ' 85 k = σ 85 k) ∧ (σ' 55 55 = 2) ∧ (σ' 85 1 = 70) ∧ True) := by
  refine jMv.of hJ (by decide +kernel) rfl (Nat.le_of_ble_eq_true rfl) ?_
  intro p e s m args below meth c Q ls hC hret hl hP
  obtain ⟨hx, hb, hr, hml, hown, hts, hK, -, hlocks, hZ⟩ := hC
  have hown : s.vm.findClass RX12 = some m.cls := hown
  have hS : va_S (jA ad) s.heap s.heap [] := va_S.rf
  have hA : ∀ q, jA ad q → jA ad q := fun _ h => h
  have hl : lv_has ls 2 [(0, .ref (ad 55)), (1, .int 70)] := hl
  refine lv_aload_n hx hb dX12_begins_0 rfl (lv_at hl 0 rfl) ?_
  refine va_get (D := D) hx hb hts inlX12 hown hK hP 55 (jc_55 cI cL ad σ τ) rfl 55 (of_decide_eq_true rfl) (hts _ kw_49_7) (fun _ h9 => h9) rfl dX12_begins_1 ?_
  refine jtopr h55_55 ?_
  refine lv_bipush (v := 24) hx hb dX12_begins_4 (of_decide_eq_true rfl) ?_
  refine lv_icmp_ge (tgt := 19) hx hb dX12_begins_6 (of_decide_eq_true rfl) (fun c => absurd c (of_decide_eq_true rfl)) (fun _ => ?_)
  refine lv_aload_n hx hb dX12_begins_9 rfl (lv_at hl 0 rfl) ?_
  refine va_get (D := D) hx hb hts inlX12 hown hK hP 55 (jc_55 cI cL ad σ τ) rfl 54 (of_decide_eq_true rfl) (hts _ kw_8_10) (fun _ h9 => h9) rfl dX12_begins_10 ?_
  refine lv_aload_n hx hb dX12_begins_13 rfl (lv_at hl 0 rfl) ?_
  refine va_get (D := D) hx hb hts inlX12 hown hK hP 55 (jc_55 cI cL ad σ τ) rfl 55 (of_decide_eq_true rfl) (hts _ kw_49_7) (fun _ h9 => h9) rfl dX12_begins_14 ?_
  refine jtopr h55_55 ?_
  refine lv_iload_n hx hb dX12_begins_17 rfl (lv_at hl 1 rfl) ?_
  exact by
   refine jast hx hb hK hP hJ hA hS (jc_85 cI cL ad σ τ) (ja_85 cI cL ad σ τ _ _) (jin jz_1 (by omega) (by omega)) dX12_begins_18 (fun σ1 H locs eσ1 hP hS => ?_)
   have eσ1 : σ1 = jup σ 85 1 70 := eσ1
   refine lv_aload_n hx hb dX12_begins_19 rfl (lv_at hl 0 rfl) ?_
   refine lv_dup hx hb dX12_begins_20 rfl ?_
   refine va_get (D := D) hx hb hts inlX12 hown hK hP 55 (jc_55 cI cL ad σ1 τ) rfl 55 (of_decide_eq_true rfl) (hts _ kw_49_7) (fun _ h9 => h9) rfl dX12_begins_21 ?_
   have m2 : σ1 55 55 = 1 := ((congrFun (jnp 55 eσ1 (of_decide_eq_true rfl)) 55).trans h55_55)
   refine jtopr m2 ?_
   refine lv_iconst (v := 1) hx hb dX12_begins_24 (of_decide_eq_true rfl) ?_
   refine lv_iadd hx hb dX12_begins_25 ?_
   refine jtopr (y := 2) (of_decide_eq_true rfl) ?_
   refine jput (ty := .int) hx hb hts inlX12 tyX12 tyX12_ok nmX12 hown hK hP hJ hA hS (jc_55 cI cL ad σ1 τ) rfl (k := 55) (of_decide_eq_true rfl) (Nat.le_of_ble_eq_true rfl) (jp_55_55 cI cL ad σ1 τ 2) (hts _ kw_49_7) (fun _ h9 => h9) rfl (by decide +kernel) rfl rfl dX12_begins_26 (fun σ3 H locs eσ3 hP hS => ?_)
   have m4 : σ3 55 55 = 2 := (jsp eσ3)
   have m5 : σ3 85 1 = 70 := ((congrFun (jnp 85 eσ3 (of_decide_eq_true rfl)) 1).trans (jsp eσ1))
   exact hret σ3 τ _ _ _ _ ⟨rfl, (fun i hi => ((jnp i eσ3 (imp_350 i hi)).trans (jnp i eσ1 (imp_351 i hi)))), (fun i hi => ((jkp i eσ3 (imp_165 i hi)).trans (congrFun (jnp 55 eσ1 (of_decide_eq_true rfl)) i))), (fun i hi => ((congrFun (jnp 85 eσ3 (of_decide_eq_true rfl)) i).trans (jkp i eσ1 (imp_42 i hi)))), m4, m5, trivial⟩ hP hS dX12_begins_29
set_option maxHeartbeats 4000000 in
set_option maxRecDepth 100000 in
theorem c_X12_putsAs_6_6_3 (l : Launch) (D : va_G) (cI cL : ClassId) (ad zz : Nat → Nat) (hJ : jD ad) (σ : Nat → Nat → Int32) (τ : Nat → Nat → Int64) (a2 : Int32) (A2 : Int) (t2 : a2.toInt = A2) (h55_55 : σ 55 55 = 3) (hp0 : (σ 55 56).toInt = 6) : jM l yX12_putsAs cX12_putsAs 3 (some .int) ({ frames := 1, cells := 0, slots := 0, locals := 21 }) D cI cL ad zz [.ref (ad 55), .int 6, .int a2] σ τ (fun r σ' τ' => τ = τ' ∧ (∀ i : Nat, (i < 55 ∨ 55 < i) ∧ (i < 85 ∨ 85 < i) → σ' i = σ i) ∧ (∀ k : Nat, (k < 55 ∨ 55 < k) → σ' 55 k = σ 55 k) ∧ (∀ k : Nat, (k < 3 ∨ 3 < k) → σ' 85 k = σ 85 k) ∧ (σ' 55 55 = 4) ∧ (σ' 85 3 = 1) ∧ ((r = (a2 + (σ 55 57)) ∧ True))) := by
  refine jM.of hJ (by decide +kernel) (nt := .int) rfl (Nat.le_of_ble_eq_true rfl) ?_
  intro p e s m args below meth c Q ls hC hret hl hP
  obtain ⟨hx, hb, hr, hml, hown, hts, hK, -, hlocks, hZ⟩ := hC
  have hown : s.vm.findClass RX12 = some m.cls := hown
  have hS : va_S (jA ad) s.heap s.heap [] := va_S.rf
  have hA : ∀ q, jA ad q → jA ad q := fun _ h => h
  have hl : lv_has ls 3 [(0, .ref (ad 55)), (1, .int 6), (2, .int a2)] := hl
  have g2 := jrg t2
  refine lv_iload_n hx hb dX12_putsAs_0 rfl (lv_at hl 1 rfl) ?_
  refine lv_iconst (v := 4) hx hb dX12_putsAs_1 (of_decide_eq_true rfl) ?_
  refine lv_icmp_ne (tgt := 20) hx hb dX12_putsAs_2 (of_decide_eq_true rfl) (fun _ => ?_) (fun c => absurd c (of_decide_eq_true rfl))
  refine lv_iload_n hx hb dX12_putsAs_20 rfl (lv_at hl 1 rfl) ?_
  refine lv_iconst (v := 1) hx hb dX12_putsAs_21 (of_decide_eq_true rfl) ?_
  refine lv_icmp_ne (tgt := 40) hx hb dX12_putsAs_22 (of_decide_eq_true rfl) (fun _ => ?_) (fun c => absurd c (of_decide_eq_true rfl))
  refine lv_aload_n hx hb dX12_putsAs_40 rfl (lv_at hl 0 rfl) ?_
  refine lv_iconst (v := 1) hx hb dX12_putsAs_41 (of_decide_eq_true rfl) ?_
  refine jcallVv (As := [.int 1]) (rest := []) ⟨hx, hb, hml, hown, hts⟩ hK hP hA hS hZ (c_X12_begins_1_3 l D cI cL ad zz hJ σ τ h55_55) cw_RX12_379 (jc_55 cI cL ad σ τ) rfl ⟨Nat.le_of_ble_eq_true rfl, Nat.le_of_ble_eq_true rfl⟩ rfl rfl rfl hl.1 rfl (Nat.le_of_ble_eq_true rfl) dX12_putsAs_42 ⟨Nat.zero_le _, Nat.zero_le _⟩ (fun σ1 τ1 H locs h1 hP hS => ?_)
  obtain ⟨rfl, f3, f4, f5, m6, m7, h1⟩ := h1
  refine lv_iload_n hx hb dX12_putsAs_45 rfl (lv_at hl 2 rfl) ?_
  refine lv_aload_n hx hb dX12_putsAs_46 rfl (lv_at hl 0 rfl) ?_
  refine va_get (D := D) hx hb hts inlX12 hown hK hP 55 (jc_55 cI cL ad σ1 τ) rfl 57 (of_decide_eq_true rfl) (hts _ kw_49_9) (fun _ h9 => h9) rfl dX12_putsAs_47 ?_
  have m9 : σ1 55 57 = (σ 55 57) := (f4 57 (of_decide_eq_true rfl))
  refine jtopr m9 ?_
  have g10 := jrg (rfl : (σ 55 57).toInt = (σ 55 57).toInt)
  refine lv_iadd hx hb dX12_putsAs_50 ?_
  refine lv_topi (fun x11 ex11 => ?_)
  have gx11 := jrg (rfl : x11.toInt = x11.toInt)
  exact hret x11 σ1 τ _ _ _ _ rfl ⟨rfl, (fun i hi => (f3 i hi)), (fun i hi => (f4 i hi)), (fun i hi => (f5 i hi)), m6, m7, ⟨(by rw [ex11]), trivial⟩⟩ hP hS dX12_putsAs_51
set_option maxHeartbeats 4000000 in
set_option maxRecDepth 100000 in
theorem c_X12_holdsAs_6_0_2 (l : Launch) (D : va_G) (cI cL : ClassId) (ad zz : Nat → Nat) (hJ : jD ad) (σ : Nat → Nat → Int32) (τ : Nat → Nat → Int64) (a2 : Int32) (A2 : Int) (t2 : a2.toInt = A2) (h55_55 : σ 55 55 = 2) (hp0 : (σ 55 56).toInt = 6) : jM l yX12_holdsAs cX12_holdsAs 4 (some .int) ({ frames := 2, cells := 0, slots := 0, locals := 43 }) D cI cL ad zz [.ref (ad 55), .int 0, .int a2] σ τ (fun r σ' τ' => τ = τ' ∧ (∀ i : Nat, (i < 55 ∨ 55 < i) ∧ (i < 85 ∨ 85 < i) → σ' i = σ i) ∧ (∀ k : Nat, (k < 55 ∨ 55 < k) → σ' 55 k = σ 55 k) ∧ (∀ k : Nat, (k < 2 ∨ 2 < k) ∧ (k < 3 ∨ 3 < k) → σ' 85 k = σ 85 k) ∧ (σ' 55 55 = 4) ∧ (σ' 85 2 = 10) ∧ (σ' 85 3 = 1) ∧ ((r = ((a2 + (σ 55 57)) * 2) ∧ True))) := by
  refine jM.of hJ (by decide +kernel) (nt := .int) rfl (Nat.le_of_ble_eq_true rfl) ?_
  intro p e s m args below meth c Q ls hC hret hl hP
  obtain ⟨hx, hb, hr, hml, hown, hts, hK, -, hlocks, hZ⟩ := hC
  have hown : s.vm.findClass RX12 = some m.cls := hown
  have hS : va_S (jA ad) s.heap s.heap [] := va_S.rf
  have hA : ∀ q, jA ad q → jA ad q := fun _ h => h
  have hl : lv_has ls 4 [(0, .ref (ad 55)), (1, .int 0), (2, .int a2)] := hl
  have g2 := jrg t2
  refine lv_iload_n hx hb dX12_holdsAs_0 rfl (lv_at hl 1 rfl) ?_
  refine lv_iconst (v := 3) hx hb dX12_holdsAs_1 (of_decide_eq_true rfl) ?_
  refine lv_icmp_eq (tgt := 10) hx hb dX12_holdsAs_2 (of_decide_eq_true rfl) (fun c => absurd c (of_decide_eq_true rfl)) (fun _ => ?_)
  refine lv_iload_n hx hb dX12_holdsAs_5 rfl (lv_at hl 1 rfl) ?_
  refine lv_iconst (v := 5) hx hb dX12_holdsAs_6 (of_decide_eq_true rfl) ?_
  refine lv_icmp_ne (tgt := 24) hx hb dX12_holdsAs_7 (of_decide_eq_true rfl) (fun _ => ?_) (fun c => absurd c (of_decide_eq_true rfl))
  refine lv_iload_n hx hb dX12_holdsAs_24 rfl (lv_at hl 1 rfl) ?_
  refine lv_bipush (v := 6) hx hb dX12_holdsAs_25 (of_decide_eq_true rfl) ?_
  refine lv_icmp_ne (tgt := 55) hx hb dX12_holdsAs_27 (of_decide_eq_true rfl) (fun _ => ?_) (fun c => absurd c (of_decide_eq_true rfl))
  refine lv_aload_n hx hb dX12_holdsAs_55 rfl (lv_at hl 0 rfl) ?_
  refine lv_bipush (v := 10) hx hb dX12_holdsAs_56 (of_decide_eq_true rfl) ?_
  refine jcallVv (As := [.int 10]) (rest := []) ⟨hx, hb, hml, hown, hts⟩ hK hP hA hS hZ (c_X12_begins_10_2 l D cI cL ad zz hJ σ τ h55_55) cw_RX12_379 (jc_55 cI cL ad σ τ) rfl ⟨Nat.le_of_ble_eq_true rfl, Nat.le_of_ble_eq_true rfl⟩ rfl rfl rfl hl.1 rfl (Nat.le_of_ble_eq_true rfl) dX12_holdsAs_58 ⟨Nat.zero_le _, Nat.zero_le _⟩ (fun σ1 τ1 H locs h1 hP hS => ?_)
  obtain ⟨rfl, f3, f4, f5, m6, m7, h1⟩ := h1
  refine lv_aload_n hx hb dX12_holdsAs_61 rfl (lv_at hl 0 rfl) ?_
  refine lv_aload_n hx hb dX12_holdsAs_62 rfl (lv_at hl 0 rfl) ?_
  refine va_get (D := D) hx hb hts inlX12 hown hK hP 55 (jc_55 cI cL ad σ1 τ) rfl 56 (of_decide_eq_true rfl) (hts _ kw_49_8) (fun _ h9 => h9) rfl dX12_holdsAs_63 ?_
  have m9 : σ1 55 56 = (σ 55 56) := (f4 56 (of_decide_eq_true rfl))
  refine jtopr m9 ?_
  exact by
   refine jtopr (jsame (rfl : (σ 55 56).toInt = (σ 55 56).toInt) jz_6 (by omega)) ?_
   refine lv_iload_n hx hb dX12_holdsAs_66 rfl (lv_at hl 2 rfl) ?_
   have z10 : (σ1 55 56).toInt = (σ 55 56).toInt := (congrArg Int32.toInt (show σ1 55 56 = (σ 55 56) from m9))
   refine jcallV (As := [.int 6, .int a2]) (rest := []) ⟨hx, hb, hml, hown, hts⟩ hK hP hA hS hZ (c_X12_putsAs_6_6_3 l D cI cL ad zz hJ σ1 τ a2 (A2) t2 m6 (by omega)) cw_RX12_382 (jc_55 cI cL ad σ1 τ) rfl ⟨Nat.le_of_ble_eq_true rfl, Nat.le_of_ble_eq_true rfl⟩ rfl rfl rfl hl.1 rfl (Nat.le_of_ble_eq_true rfl) dX12_holdsAs_67 ⟨Nat.zero_le _, Nat.zero_le _⟩ (fun r12 σ11 τ11 H locs h11 hP hS => ?_)
   obtain ⟨rfl, f13, f14, f15, m16, m17, h11⟩ := h11
   have h19 := h11
   obtain ⟨q21, k20⟩ := h19
   have q21 := q21.symm
   subst q21
   exact by
    refine lv_iconst (v := 2) hx hb dX12_holdsAs_70 (of_decide_eq_true rfl) ?_
    have g22 := jrg (rfl : (a2 + (σ1 55 57)).toInt = (a2 + (σ1 55 57)).toInt)
    refine lv_imul hx hb dX12_holdsAs_71 ?_
    refine lv_topi (fun x23 ex23 => ?_)
    have gx23 := jrg (rfl : x23.toInt = x23.toInt)
    have m24 : σ11 85 2 = 10 := ((f15 2 (of_decide_eq_true rfl)).trans m7)
    exact hret x23 σ11 τ _ _ _ _ rfl ⟨rfl, (fun i hi => ((f13 i hi).trans (f3 i hi))), (fun i hi => ((f14 i hi).trans (f4 i hi))), (fun i hi => ((f15 i (imp_312 i hi)).trans (f5 i (imp_19 i hi)))), m16, m24, m17, ⟨(by rw [ex23, (show σ1 55 57 = σ 55 57 from (f4 57 (of_decide_eq_true rfl)))]), trivial⟩⟩ hP hS dX12_holdsAs_72
set_option maxHeartbeats 4000000 in
set_option maxRecDepth 100000 in
theorem c_X12_givesAs_6_6_4_x1 (l : Launch) (D : va_G) (cI cL : ClassId) (ad zz : Nat → Nat) (hJ : jD ad) (σ : Nat → Nat → Int32) (τ : Nat → Nat → Int64) (h55_55 : σ 55 55 = 4) (hp0 : (σ 55 56).toInt = 6) : jM l yX12_givesAs cX12_givesAs 4 (some .int) ({ frames := 1, cells := 0, slots := 0, locals := 21 }) D cI cL ad zz [.ref (ad 55), .int 6, .int 1] σ τ (fun r σ' τ' => τ = τ' ∧ (∀ i : Nat, (i < 55 ∨ 55 < i) ∧ (i < 85 ∨ 85 < i) → σ' i = σ i) ∧ (∀ k : Nat, (k < 55 ∨ 55 < k) → σ' 55 k = σ 55 k) ∧ (∀ k : Nat, (k < 4 ∨ 4 < k) → σ' 85 k = σ 85 k) ∧ (σ' 55 55 = 5) ∧ (σ' 85 4 = 11) ∧ ((r = (1 ^^^ (σ 55 57)) ∧ True))) := by
  refine jM.of hJ (by decide +kernel) (nt := .int) rfl (Nat.le_of_ble_eq_true rfl) ?_
  intro p e s m args below meth c Q ls hC hret hl hP
  obtain ⟨hx, hb, hr, hml, hown, hts, hK, -, hlocks, hZ⟩ := hC
  have hown : s.vm.findClass RX12 = some m.cls := hown
  have hS : va_S (jA ad) s.heap s.heap [] := va_S.rf
  have hA : ∀ q, jA ad q → jA ad q := fun _ h => h
  have hl : lv_has ls 4 [(0, .ref (ad 55)), (1, .int 6), (2, .int 1)] := hl
  refine lv_iload_n hx hb dX12_givesAs_0 rfl (lv_at hl 1 rfl) ?_
  refine lv_iconst (v := 5) hx hb dX12_givesAs_1 (of_decide_eq_true rfl) ?_
  refine lv_icmp_ne (tgt := 30) hx hb dX12_givesAs_2 (of_decide_eq_true rfl) (fun _ => ?_) (fun c => absurd c (of_decide_eq_true rfl))
  refine lv_iload_n hx hb dX12_givesAs_30 rfl (lv_at hl 1 rfl) ?_
  refine lv_iconst (v := 2) hx hb dX12_givesAs_31 (of_decide_eq_true rfl) ?_
  refine lv_icmp_eq (tgt := 40) hx hb dX12_givesAs_32 (of_decide_eq_true rfl) (fun c => absurd c (of_decide_eq_true rfl)) (fun _ => ?_)
  refine lv_iload_n hx hb dX12_givesAs_35 rfl (lv_at hl 1 rfl) ?_
  refine lv_iconst (v := 3) hx hb dX12_givesAs_36 (of_decide_eq_true rfl) ?_
  refine lv_icmp_ne (tgt := 55) hx hb dX12_givesAs_37 (of_decide_eq_true rfl) (fun _ => ?_) (fun c => absurd c (of_decide_eq_true rfl))
  refine lv_aload_n hx hb dX12_givesAs_55 rfl (lv_at hl 0 rfl) ?_
  refine lv_bipush (v := 11) hx hb dX12_givesAs_56 (of_decide_eq_true rfl) ?_
  refine jcallVv (As := [.int 11]) (rest := []) ⟨hx, hb, hml, hown, hts⟩ hK hP hA hS hZ (c_X12_begins_11_4 l D cI cL ad zz hJ σ τ h55_55) cw_RX12_379 (jc_55 cI cL ad σ τ) rfl ⟨Nat.le_of_ble_eq_true rfl, Nat.le_of_ble_eq_true rfl⟩ rfl rfl rfl hl.1 rfl (Nat.le_of_ble_eq_true rfl) dX12_givesAs_58 ⟨Nat.zero_le _, Nat.zero_le _⟩ (fun σ1 τ1 H locs h1 hP hS => ?_)
  obtain ⟨rfl, f3, f4, f5, m6, m7, h1⟩ := h1
  refine lv_iload_n hx hb dX12_givesAs_61 rfl (lv_at hl 2 rfl) ?_
  refine lv_aload_n hx hb dX12_givesAs_62 rfl (lv_at hl 0 rfl) ?_
  refine va_get (D := D) hx hb hts inlX12 hown hK hP 55 (jc_55 cI cL ad σ1 τ) rfl 57 (of_decide_eq_true rfl) (hts _ kw_49_9) (fun _ h9 => h9) rfl dX12_givesAs_63 ?_
  have m9 : σ1 55 57 = (σ 55 57) := (f4 57 (of_decide_eq_true rfl))
  refine jtopr m9 ?_
  refine lv_ixor hx hb dX12_givesAs_66 ?_
  refine lv_topi (fun x10 ex10 => ?_)
  have gx10 := jrg (rfl : x10.toInt = x10.toInt)
  exact hret x10 σ1 τ _ _ _ _ rfl ⟨rfl, (fun i hi => (f3 i hi)), (fun i hi => (f4 i hi)), (fun i hi => (f5 i hi)), m6, m7, ⟨(by rw [ex10]), trivial⟩⟩ hP hS dX12_givesAs_67
set_option maxHeartbeats 4000000 in
set_option maxRecDepth 100000 in
theorem c_X12_holdsAs_6_6_1 (l : Launch) (D : va_G) (cI cL : ClassId) (ad zz : Nat → Nat) (hJ : jD ad) (σ : Nat → Nat → Int32) (τ : Nat → Nat → Int64) (a2 : Int32) (A2 : Int) (t2 : a2.toInt = A2) (h55_55 : σ 55 55 = 1) (hp0 : (σ 55 56).toInt = 6) : jM l yX12_holdsAs cX12_holdsAs 4 (some .int) ({ frames := 3, cells := 0, slots := 0, locals := 66 }) D cI cL ad zz [.ref (ad 55), .int 6, .int a2] σ τ (fun r σ' τ' => τ = τ' ∧ (∀ i : Nat, (i < 55 ∨ 55 < i) ∧ (i < 85 ∨ 85 < i) → σ' i = σ i) ∧ (∀ k : Nat, (k < 55 ∨ 55 < k) → σ' 55 k = σ 55 k) ∧ (∀ k : Nat, (k < 1 ∨ 1 < k) ∧ (k < 2 ∨ 2 < k) ∧ (k < 3 ∨ 3 < k) ∧ (k < 4 ∨ 4 < k) → σ' 85 k = σ 85 k) ∧ (σ' 55 55 = 5) ∧ (σ' 85 1 = 70) ∧ (σ' 85 2 = 10) ∧ (σ' 85 3 = 1) ∧ (σ' 85 4 = 11) ∧ ((r = (((a2 + (σ 55 57)) * 2) + (1 ^^^ (σ 55 57))) ∧ True))) := by
  refine jM.of hJ (by decide +kernel) (nt := .int) rfl (Nat.le_of_ble_eq_true rfl) ?_
  intro p e s m args below meth c Q ls hC hret hl hP
  obtain ⟨hx, hb, hr, hml, hown, hts, hK, -, hlocks, hZ⟩ := hC
  have hown : s.vm.findClass RX12 = some m.cls := hown
  have hS : va_S (jA ad) s.heap s.heap [] := va_S.rf
  have hA : ∀ q, jA ad q → jA ad q := fun _ h => h
  have hl : lv_has ls 4 [(0, .ref (ad 55)), (1, .int 6), (2, .int a2)] := hl
  have g2 := jrg t2
  refine lv_iload_n hx hb dX12_holdsAs_0 rfl (lv_at hl 1 rfl) ?_
  refine lv_iconst (v := 3) hx hb dX12_holdsAs_1 (of_decide_eq_true rfl) ?_
  refine lv_icmp_eq (tgt := 10) hx hb dX12_holdsAs_2 (of_decide_eq_true rfl) (fun c => absurd c (of_decide_eq_true rfl)) (fun _ => ?_)
  refine lv_iload_n hx hb dX12_holdsAs_5 rfl (lv_at hl 1 rfl) ?_
  refine lv_iconst (v := 5) hx hb dX12_holdsAs_6 (of_decide_eq_true rfl) ?_
  refine lv_icmp_ne (tgt := 24) hx hb dX12_holdsAs_7 (of_decide_eq_true rfl) (fun _ => ?_) (fun c => absurd c (of_decide_eq_true rfl))
  refine lv_iload_n hx hb dX12_holdsAs_24 rfl (lv_at hl 1 rfl) ?_
  refine lv_bipush (v := 6) hx hb dX12_holdsAs_25 (of_decide_eq_true rfl) ?_
  refine lv_icmp_ne (tgt := 55) hx hb dX12_holdsAs_27 (of_decide_eq_true rfl) (fun c => absurd (of_decide_eq_true rfl) c) (fun _ => ?_)
  refine lv_aload_n hx hb dX12_holdsAs_30 rfl (lv_at hl 0 rfl) ?_
  refine lv_bipush (v := 70) hx hb dX12_holdsAs_31 (of_decide_eq_true rfl) ?_
  refine jcallVv (As := [.int 70]) (rest := []) ⟨hx, hb, hml, hown, hts⟩ hK hP hA hS hZ (c_X12_begins_70_1 l D cI cL ad zz hJ σ τ h55_55) cw_RX12_379 (jc_55 cI cL ad σ τ) rfl ⟨Nat.le_of_ble_eq_true rfl, Nat.le_of_ble_eq_true rfl⟩ rfl rfl rfl hl.1 rfl (Nat.le_of_ble_eq_true rfl) dX12_holdsAs_33 ⟨Nat.zero_le _, Nat.zero_le _⟩ (fun σ1 τ1 H locs h1 hP hS => ?_)
  obtain ⟨rfl, f3, f4, f5, m6, m7, h1⟩ := h1
  refine lv_aload_n hx hb dX12_holdsAs_36 rfl (lv_at hl 0 rfl) ?_
  refine lv_iconst (v := 0) hx hb dX12_holdsAs_37 (of_decide_eq_true rfl) ?_
  refine lv_iload_n hx hb dX12_holdsAs_38 rfl (lv_at hl 2 rfl) ?_
  have z9 : (σ1 55 56).toInt = (σ 55 56).toInt := (congrArg Int32.toInt (show σ1 55 56 = (σ 55 56) from (f4 56 (of_decide_eq_true rfl))))
  exact by
   refine jcallV (As := [.int 0, .int a2]) (rest := []) ⟨hx, hb, hml, hown, hts⟩ hK hP hA hS hZ (c_X12_holdsAs_6_0_2 l D cI cL ad zz hJ σ1 τ a2 (A2) t2 m6 (by omega)) cw_RX12_388 (jc_55 cI cL ad σ1 τ) rfl ⟨Nat.le_of_ble_eq_true rfl, Nat.le_of_ble_eq_true rfl⟩ rfl rfl rfl hl.1 rfl (Nat.le_of_ble_eq_true rfl) dX12_holdsAs_39 ⟨Nat.zero_le _, Nat.zero_le _⟩ (fun r11 σ10 τ10 H locs h10 hP hS => ?_)
   obtain ⟨rfl, f12, f13, f14, m15, m16, m17, h10⟩ := h10
   have h19 := h10
   obtain ⟨q21, k20⟩ := h19
   have q21 := q21.symm
   subst q21
   refine lv_istore_n (lv' := [(3, .int ((a2 + (σ1 55 57)) * 2)), (0, .ref (ad 55)), (1, .int 6), (2, .int a2)]) hx hb dX12_holdsAs_42 rfl hl (of_decide_eq_true rfl) rfl (fun ls hl => ?_)
   refine lv_iload_n hx hb dX12_holdsAs_43 rfl (lv_at hl 0 rfl) ?_
   refine lv_aload_n hx hb dX12_holdsAs_44 rfl (lv_at hl 1 rfl) ?_
   refine lv_aload_n hx hb dX12_holdsAs_45 rfl (lv_at hl 1 rfl) ?_
   refine va_get (D := D) hx hb hts inlX12 hown hK hP 55 (jc_55 cI cL ad σ10 τ) rfl 56 (of_decide_eq_true rfl) (hts _ kw_49_8) (fun _ h9 => h9) rfl dX12_holdsAs_46 ?_
   have m22 : σ10 55 56 = (σ 55 56) := ((f13 56 (of_decide_eq_true rfl)).trans (f4 56 (of_decide_eq_true rfl)))
   refine jtopr m22 ?_
   exact by
    refine jtopr (jsame (rfl : (σ 55 56).toInt = (σ 55 56).toInt) jz_6 (by omega)) ?_
    refine lv_iconst (v := 1) hx hb dX12_holdsAs_49 (of_decide_eq_true rfl) ?_
    have z23 : (σ10 55 56).toInt = (σ 55 56).toInt := (congrArg Int32.toInt (show σ10 55 56 = (σ 55 56) from m22))
    refine jcallV (As := [.int 6, .int 1]) (rest := [.int ((a2 + (σ1 55 57)) * 2)]) ⟨hx, hb, hml, hown, hts⟩ hK hP hA hS hZ (c_X12_givesAs_6_6_4_x1 l D cI cL ad zz hJ σ10 τ m15 (by omega)) cw_RX12_394 (jc_55 cI cL ad σ10 τ) rfl ⟨Nat.le_of_ble_eq_true rfl, Nat.le_of_ble_eq_true rfl⟩ rfl rfl rfl hl.1 rfl (Nat.le_of_ble_eq_true rfl) dX12_holdsAs_50 ⟨Nat.zero_le _, Nat.zero_le _⟩ (fun r25 σ24 τ24 H locs h24 hP hS => ?_)
    obtain ⟨rfl, f26, f27, f28, m29, m30, h24⟩ := h24
    have h32 := h24
    obtain ⟨q34, k33⟩ := h32
    have q34 := q34.symm
    subst q34
    exact by
     have g35 := jrg (rfl : ((a2 + (σ1 55 57)) * 2).toInt = ((a2 + (σ1 55 57)) * 2).toInt)
     have g36 := jrg (rfl : (1 ^^^ (σ10 55 57)).toInt = (1 ^^^ (σ10 55 57)).toInt)
     refine lv_iadd hx hb dX12_holdsAs_53 ?_
     refine lv_topi (fun x37 ex37 => ?_)
     have gx37 := jrg (rfl : x37.toInt = x37.toInt)
     have m38 : σ24 85 1 = 70 := ((f28 1 (of_decide_eq_true rfl)).trans ((f14 1 (of_decide_eq_true rfl)).trans m7))
     have m39 : σ24 85 2 = 10 := ((f28 2 (of_decide_eq_true rfl)).trans m16)
     have m40 : σ24 85 3 = 1 := ((f28 3 (of_decide_eq_true rfl)).trans m17)
     exact hret x37 σ24 τ _ _ _ _ rfl ⟨rfl, (fun i hi => ((f26 i hi).trans ((f12 i hi).trans (f3 i hi)))), (fun i hi => ((f27 i hi).trans ((f13 i hi).trans (f4 i hi)))), (fun i hi => ((f28 i (imp_345 i hi)).trans ((f14 i (imp_346 i hi)).trans (f5 i (imp_367 i hi))))), m29, m38, m39, m40, m30, ⟨(by rw [ex37, (show σ1 55 57 = σ 55 57 from (f4 57 (of_decide_eq_true rfl))), (show σ10 55 57 = σ 55 57 from ((f13 57 (of_decide_eq_true rfl)).trans (f4 57 (of_decide_eq_true rfl))))]), trivial⟩⟩ hP hS dX12_holdsAs_54
set_option maxHeartbeats 4000000 in
set_option maxRecDepth 100000 in
theorem c_X12_givesAs_6_6_5_x1 (l : Launch) (D : va_G) (cI cL : ClassId) (ad zz : Nat → Nat) (hJ : jD ad) (σ : Nat → Nat → Int32) (τ : Nat → Nat → Int64) (h55_55 : σ 55 55 = 5) (hp0 : (σ 55 56).toInt = 6) : jM l yX12_givesAs cX12_givesAs 4 (some .int) ({ frames := 1, cells := 0, slots := 0, locals := 21 }) D cI cL ad zz [.ref (ad 55), .int 6, .int 1] σ τ (fun r σ' τ' => τ = τ' ∧ (∀ i : Nat, (i < 55 ∨ 55 < i) ∧ (i < 85 ∨ 85 < i) → σ' i = σ i) ∧ (∀ k : Nat, (k < 55 ∨ 55 < k) → σ' 55 k = σ 55 k) ∧ (∀ k : Nat, (k < 5 ∨ 5 < k) → σ' 85 k = σ 85 k) ∧ (σ' 55 55 = 6) ∧ (σ' 85 5 = 11) ∧ ((r = (1 ^^^ (σ 55 57)) ∧ True))) := by
  refine jM.of hJ (by decide +kernel) (nt := .int) rfl (Nat.le_of_ble_eq_true rfl) ?_
  intro p e s m args below meth c Q ls hC hret hl hP
  obtain ⟨hx, hb, hr, hml, hown, hts, hK, -, hlocks, hZ⟩ := hC
  have hown : s.vm.findClass RX12 = some m.cls := hown
  have hS : va_S (jA ad) s.heap s.heap [] := va_S.rf
  have hA : ∀ q, jA ad q → jA ad q := fun _ h => h
  have hl : lv_has ls 4 [(0, .ref (ad 55)), (1, .int 6), (2, .int 1)] := hl
  refine lv_iload_n hx hb dX12_givesAs_0 rfl (lv_at hl 1 rfl) ?_
  refine lv_iconst (v := 5) hx hb dX12_givesAs_1 (of_decide_eq_true rfl) ?_
  refine lv_icmp_ne (tgt := 30) hx hb dX12_givesAs_2 (of_decide_eq_true rfl) (fun _ => ?_) (fun c => absurd c (of_decide_eq_true rfl))
  refine lv_iload_n hx hb dX12_givesAs_30 rfl (lv_at hl 1 rfl) ?_
  refine lv_iconst (v := 2) hx hb dX12_givesAs_31 (of_decide_eq_true rfl) ?_
  refine lv_icmp_eq (tgt := 40) hx hb dX12_givesAs_32 (of_decide_eq_true rfl) (fun c => absurd c (of_decide_eq_true rfl)) (fun _ => ?_)
  refine lv_iload_n hx hb dX12_givesAs_35 rfl (lv_at hl 1 rfl) ?_
  refine lv_iconst (v := 3) hx hb dX12_givesAs_36 (of_decide_eq_true rfl) ?_
  refine lv_icmp_ne (tgt := 55) hx hb dX12_givesAs_37 (of_decide_eq_true rfl) (fun _ => ?_) (fun c => absurd c (of_decide_eq_true rfl))
  refine lv_aload_n hx hb dX12_givesAs_55 rfl (lv_at hl 0 rfl) ?_
  refine lv_bipush (v := 11) hx hb dX12_givesAs_56 (of_decide_eq_true rfl) ?_
  refine jcallVv (As := [.int 11]) (rest := []) ⟨hx, hb, hml, hown, hts⟩ hK hP hA hS hZ (c_X12_begins_11_5 l D cI cL ad zz hJ σ τ h55_55) cw_RX12_379 (jc_55 cI cL ad σ τ) rfl ⟨Nat.le_of_ble_eq_true rfl, Nat.le_of_ble_eq_true rfl⟩ rfl rfl rfl hl.1 rfl (Nat.le_of_ble_eq_true rfl) dX12_givesAs_58 ⟨Nat.zero_le _, Nat.zero_le _⟩ (fun σ1 τ1 H locs h1 hP hS => ?_)
  obtain ⟨rfl, f3, f4, f5, m6, m7, h1⟩ := h1
  refine lv_iload_n hx hb dX12_givesAs_61 rfl (lv_at hl 2 rfl) ?_
  refine lv_aload_n hx hb dX12_givesAs_62 rfl (lv_at hl 0 rfl) ?_
  refine va_get (D := D) hx hb hts inlX12 hown hK hP 55 (jc_55 cI cL ad σ1 τ) rfl 57 (of_decide_eq_true rfl) (hts _ kw_49_9) (fun _ h9 => h9) rfl dX12_givesAs_63 ?_
  have m9 : σ1 55 57 = (σ 55 57) := (f4 57 (of_decide_eq_true rfl))
  refine jtopr m9 ?_
  refine lv_ixor hx hb dX12_givesAs_66 ?_
  refine lv_topi (fun x10 ex10 => ?_)
  have gx10 := jrg (rfl : x10.toInt = x10.toInt)
  exact hret x10 σ1 τ _ _ _ _ rfl ⟨rfl, (fun i hi => (f3 i hi)), (fun i hi => (f4 i hi)), (fun i hi => (f5 i hi)), m6, m7, ⟨(by rw [ex10]), trivial⟩⟩ hP hS dX12_givesAs_67
set_option maxHeartbeats 4000000 in
set_option maxRecDepth 100000 in
theorem c_X12_tellsAs_6_6_0 (l : Launch) (D : va_G) (cI cL : ClassId) (ad zz : Nat → Nat) (hJ : jD ad) (σ : Nat → Nat → Int32) (τ : Nat → Nat → Int64) (a2 : Int32) (A2 : Int) (t2 : a2.toInt = A2) (h55_55 : σ 55 55 = 0) (hp0 : (σ 55 56).toInt = 6) : jM l yX12_tellsAs cX12_tellsAs 4 (some .int) ({ frames := 4, cells := 0, slots := 0, locals := 89 }) D cI cL ad zz [.ref (ad 55), .int 6, .int a2] σ τ (fun r σ' τ' => τ = τ' ∧ (∀ i : Nat, (i < 55 ∨ 55 < i) ∧ (i < 85 ∨ 85 < i) → σ' i = σ i) ∧ (∀ k : Nat, (k < 55 ∨ 55 < k) → σ' 55 k = σ 55 k) ∧ (∀ k : Nat, (k < 0 ∨ 0 < k) ∧ (k < 1 ∨ 1 < k) ∧ (k < 2 ∨ 2 < k) ∧ (k < 3 ∨ 3 < k) ∧ (k < 4 ∨ 4 < k) ∧ (k < 5 ∨ 5 < k) → σ' 85 k = σ 85 k) ∧ (σ' 55 55 = 6) ∧ (σ' 85 0 = 2) ∧ (σ' 85 1 = 70) ∧ (σ' 85 2 = 10) ∧ (σ' 85 3 = 1) ∧ (σ' 85 4 = 11) ∧ (σ' 85 5 = 11) ∧ ((r = ((((a2 + (σ 55 57)) * 2) + (1 ^^^ (σ 55 57))) - (1 ^^^ (σ 55 57))) ∧ True))) := by
  refine jM.of hJ (by decide +kernel) (nt := .int) rfl (Nat.le_of_ble_eq_true rfl) ?_
  intro p e s m args below meth c Q ls hC hret hl hP
  obtain ⟨hx, hb, hr, hml, hown, hts, hK, -, hlocks, hZ⟩ := hC
  have hown : s.vm.findClass RX12 = some m.cls := hown
  have hS : va_S (jA ad) s.heap s.heap [] := va_S.rf
  have hA : ∀ q, jA ad q → jA ad q := fun _ h => h
  have hl : lv_has ls 4 [(0, .ref (ad 55)), (1, .int 6), (2, .int a2)] := hl
  have g2 := jrg t2
  refine lv_iload_n hx hb dX12_tellsAs_0 rfl (lv_at hl 1 rfl) ?_
  refine lv_iconst (v := 4) hx hb dX12_tellsAs_1 (of_decide_eq_true rfl) ?_
  refine lv_icmp_ne (tgt := 20) hx hb dX12_tellsAs_2 (of_decide_eq_true rfl) (fun _ => ?_) (fun c => absurd c (of_decide_eq_true rfl))
  refine lv_aload_n hx hb dX12_tellsAs_20 rfl (lv_at hl 0 rfl) ?_
  refine lv_iconst (v := 2) hx hb dX12_tellsAs_21 (of_decide_eq_true rfl) ?_
  refine jcallVv (As := [.int 2]) (rest := []) ⟨hx, hb, hml, hown, hts⟩ hK hP hA hS hZ (c_X12_begins_2_0 l D cI cL ad zz hJ σ τ h55_55) cw_RX12_379 (jc_55 cI cL ad σ τ) rfl ⟨Nat.le_of_ble_eq_true rfl, Nat.le_of_ble_eq_true rfl⟩ rfl rfl rfl hl.1 rfl (Nat.le_of_ble_eq_true rfl) dX12_tellsAs_22 ⟨Nat.zero_le _, Nat.zero_le _⟩ (fun σ1 τ1 H locs h1 hP hS => ?_)
  obtain ⟨rfl, f3, f4, f5, m6, m7, h1⟩ := h1
  refine lv_aload_n hx hb dX12_tellsAs_25 rfl (lv_at hl 0 rfl) ?_
  refine lv_aload_n hx hb dX12_tellsAs_26 rfl (lv_at hl 0 rfl) ?_
  refine va_get (D := D) hx hb hts inlX12 hown hK hP 55 (jc_55 cI cL ad σ1 τ) rfl 56 (of_decide_eq_true rfl) (hts _ kw_49_8) (fun _ h9 => h9) rfl dX12_tellsAs_27 ?_
  have m9 : σ1 55 56 = (σ 55 56) := (f4 56 (of_decide_eq_true rfl))
  refine jtopr m9 ?_
  exact by
   refine jtopr (jsame (rfl : (σ 55 56).toInt = (σ 55 56).toInt) jz_6 (by omega)) ?_
   refine lv_iload_n hx hb dX12_tellsAs_30 rfl (lv_at hl 2 rfl) ?_
   have z10 : (σ1 55 56).toInt = (σ 55 56).toInt := (congrArg Int32.toInt (show σ1 55 56 = (σ 55 56) from m9))
   refine jcallV (As := [.int 6, .int a2]) (rest := []) ⟨hx, hb, hml, hown, hts⟩ hK hP hA hS hZ (c_X12_holdsAs_6_6_1 l D cI cL ad zz hJ σ1 τ a2 (A2) t2 m6 (by omega)) cw_RX12_388 (jc_55 cI cL ad σ1 τ) rfl ⟨Nat.le_of_ble_eq_true rfl, Nat.le_of_ble_eq_true rfl⟩ rfl rfl rfl hl.1 rfl (Nat.le_of_ble_eq_true rfl) dX12_tellsAs_31 ⟨Nat.zero_le _, Nat.zero_le _⟩ (fun r12 σ11 τ11 H locs h11 hP hS => ?_)
   obtain ⟨rfl, f13, f14, f15, m16, m17, m18, m19, m20, h11⟩ := h11
   have h22 := h11
   obtain ⟨q24, k23⟩ := h22
   have q24 := q24.symm
   subst q24
   exact by
    refine lv_istore_n (lv' := [(3, .int (((a2 + (σ1 55 57)) * 2) + (1 ^^^ (σ1 55 57)))), (0, .ref (ad 55)), (1, .int 6), (2, .int a2)]) hx hb dX12_tellsAs_34 rfl hl (of_decide_eq_true rfl) rfl (fun ls hl => ?_)
    refine lv_iload_n hx hb dX12_tellsAs_35 rfl (lv_at hl 0 rfl) ?_
    refine lv_aload_n hx hb dX12_tellsAs_36 rfl (lv_at hl 1 rfl) ?_
    refine lv_aload_n hx hb dX12_tellsAs_37 rfl (lv_at hl 1 rfl) ?_
    refine va_get (D := D) hx hb hts inlX12 hown hK hP 55 (jc_55 cI cL ad σ11 τ) rfl 56 (of_decide_eq_true rfl) (hts _ kw_49_8) (fun _ h9 => h9) rfl dX12_tellsAs_38 ?_
    have m25 : σ11 55 56 = (σ 55 56) := ((f14 56 (of_decide_eq_true rfl)).trans m9)
    refine jtopr m25 ?_
    refine jtopr (jsame (rfl : (σ 55 56).toInt = (σ 55 56).toInt) jz_6 (by omega)) ?_
    refine lv_iconst (v := 1) hx hb dX12_tellsAs_41 (of_decide_eq_true rfl) ?_
    exact by
     have z26 : (σ11 55 56).toInt = (σ 55 56).toInt := (congrArg Int32.toInt (show σ11 55 56 = (σ 55 56) from m25))
     refine jcallV (As := [.int 6, .int 1]) (rest := [.int (((a2 + (σ1 55 57)) * 2) + (1 ^^^ (σ1 55 57)))]) ⟨hx, hb, hml, hown, hts⟩ hK hP hA hS hZ (c_X12_givesAs_6_6_5_x1 l D cI cL ad zz hJ σ11 τ m16 (by omega)) cw_RX12_394 (jc_55 cI cL ad σ11 τ) rfl ⟨Nat.le_of_ble_eq_true rfl, Nat.le_of_ble_eq_true rfl⟩ rfl rfl rfl hl.1 rfl (Nat.le_of_ble_eq_true rfl) dX12_tellsAs_42 ⟨Nat.zero_le _, Nat.zero_le _⟩ (fun r28 σ27 τ27 H locs h27 hP hS => ?_)
     obtain ⟨rfl, f29, f30, f31, m32, m33, h27⟩ := h27
     have h35 := h27
     obtain ⟨q37, k36⟩ := h35
     have q37 := q37.symm
     subst q37
     have g38 := jrg (rfl : (((a2 + (σ1 55 57)) * 2) + (1 ^^^ (σ1 55 57))).toInt = (((a2 + (σ1 55 57)) * 2) + (1 ^^^ (σ1 55 57))).toInt)
     have g39 := jrg (rfl : (1 ^^^ (σ11 55 57)).toInt = (1 ^^^ (σ11 55 57)).toInt)
     exact by
      refine lv_isub hx hb dX12_tellsAs_45 ?_
      refine lv_topi (fun x40 ex40 => ?_)
      have gx40 := jrg (rfl : x40.toInt = x40.toInt)
      have m41 : σ27 85 0 = 2 := ((f31 0 (of_decide_eq_true rfl)).trans ((f15 0 (of_decide_eq_true rfl)).trans m7))
      have m42 : σ27 85 1 = 70 := ((f31 1 (of_decide_eq_true rfl)).trans m17)
      have m43 : σ27 85 2 = 10 := ((f31 2 (of_decide_eq_true rfl)).trans m18)
      have m44 : σ27 85 3 = 1 := ((f31 3 (of_decide_eq_true rfl)).trans m19)
      have m45 : σ27 85 4 = 11 := ((f31 4 (of_decide_eq_true rfl)).trans m20)
      exact hret x40 σ27 τ _ _ _ _ rfl ⟨rfl, (fun i hi => ((f29 i hi).trans ((f13 i hi).trans (f3 i hi)))), (fun i hi => ((f30 i hi).trans ((f14 i hi).trans (f4 i hi)))), (fun i hi => ((f31 i (imp_348 i hi)).trans ((f15 i (imp_349 i hi)).trans (f5 i (imp_359 i hi))))), m32, m41, m42, m43, m44, m45, m33, ⟨(by rw [ex40, (show σ1 55 57 = σ 55 57 from (f4 57 (of_decide_eq_true rfl))), (show σ11 55 57 = σ 55 57 from ((f14 57 (of_decide_eq_true rfl)).trans (f4 57 (of_decide_eq_true rfl))))]), trivial⟩⟩ hP hS dX12_tellsAs_46
set_option maxHeartbeats 4000000 in
set_option maxRecDepth 100000 in
theorem c_X12_act (l : Launch) (D : va_G) (cI cL : ClassId) (ad zz : Nat → Nat) (hJ : jD ad) (σ : Nat → Nat → Int32) (τ : Nat → Nat → Int64) (a1 : Int32) (A1 : Int) (t1 : a1.toInt = A1) (a2 : Int32) (A2 : Int) (t2 : a2.toInt = A2) (a3 : Int32) (A3 : Int) (t3 : a3.toInt = A3) (hI106 : jI106 σ) : jM l yX12_act cX12_act 4 (some .int) ({ frames := 7, cells := 0, slots := 0, locals := 156 }) D cI cL ad zz [.ref (ad 55), .int a1, .int a2, .int a3] σ τ (fun r σ' τ' => τ = τ' ∧ (∀ i : Nat, (i < 55 ∨ 55 < i) ∧ (i < 85 ∨ 85 < i) → σ' i = σ i) ∧ (∀ k : Nat, (k < 55 ∨ 55 < k) ∧ (k < 56 ∨ 56 < k) ∧ (k < 57 ∨ 57 < k) → σ' 55 k = σ 55 k) ∧ ((r = 0 ∧ ((A1 < 0) ∨ ((σ 55 32).toInt ≤ A1) ∨ (A2 < 0) ∨ (3 < A2)) ∧ ((σ' 55 55).toInt = 0)) ∨ (True ∧ (0 ≤ A1) ∧ (A1 < (σ 55 32).toInt) ∧ (0 ≤ A2 ∧ A2 ≤ 3) ∧ (r = jActV ((σ 70 a1.toNatClampNeg).toInt) (A2) a3 a1 ∧ jTrc ((σ 70 a1.toNatClampNeg).toInt) (A2) (σ' 85) (σ' 55 55).toInt)))) := by
  refine jM.of hJ (by decide +kernel) (nt := .int) rfl (Nat.le_of_ble_eq_true rfl) ?_
  intro p e s m args below meth c Q ls hC hret hl hP
  obtain ⟨hx, hb, hr, hml, hown, hts, hK, -, hlocks, hZ⟩ := hC
  have hown : s.vm.findClass RX12 = some m.cls := hown
  have hS : va_S (jA ad) s.heap s.heap [] := va_S.rf
  have hA : ∀ q, jA ad q → jA ad q := fun _ h => h
  have hl : lv_has ls 4 [(0, .ref (ad 55)), (1, .int a1), (2, .int a2), (3, .int a3)] := hl
  have g1 := jrg t1
  have g2 := jrg t2
  have g3 := jrg t3
  obtain ⟨i1, w2, w3, w4⟩ : (0 ≤ (σ 55 32).toInt ∧ (σ 55 32).toInt ≤ 20) ∧ (∀ k : Nat, k < 20 → 0 ≤ (σ 70 k).toInt ∧ (σ 70 k).toInt ≤ 6) ∧ (∀ k : Nat, k < 20 → 0 ≤ (σ 71 k).toInt ∧ (σ 71 k).toInt ≤ 8) ∧ (∀ k : Nat, k < 160 → 0 ≤ (σ 72 k).toInt ∧ (σ 72 k).toInt ≤ 3) := id hI106
  refine lv_aload_n hx hb dX12_act_0 rfl (lv_at hl 0 rfl) ?_
  refine lv_iconst (v := 0) hx hb dX12_act_1 (of_decide_eq_true rfl) ?_
  refine jput (ty := .int) hx hb hts inlX12 tyX12 tyX12_ok nmX12 hown hK hP hJ hA hS (jc_55 cI cL ad σ τ) rfl (k := 55) (of_decide_eq_true rfl) (Nat.le_of_ble_eq_true rfl) (jp_55_55 cI cL ad σ τ 0) (hts _ kw_49_7) (fun _ h9 => h9) rfl (by decide +kernel) rfl rfl dX12_act_2 (fun σ5 H locs eσ5 hP hS => ?_)
  refine lv_aload_n hx hb dX12_act_5 rfl (lv_at hl 0 rfl) ?_
  refine lv_iload_n hx hb dX12_act_6 rfl (lv_at hl 1 rfl) ?_
  have I6 : jI106 σ5 := jI106_fr (jkp 32 eσ5 (of_decide_eq_true rfl)) (jnp 70 eσ5 (of_decide_eq_true rfl)) (jnp 71 eσ5 (of_decide_eq_true rfl)) (jnp 72 eσ5 (of_decide_eq_true rfl)) hI106
  have z7 : (σ5 55 32).toInt = (σ 55 32).toInt := (congrArg Int32.toInt (show σ5 55 32 = (σ 55 32) from (jkp 32 eσ5 (of_decide_eq_true rfl))))
  refine jcallV (As := [.int a1]) (rest := []) ⟨hx, hb, hml, hown, hts⟩ hK hP hA hS hZ (c_X12_isRule l D cI cL ad zz hJ σ5 τ a1 (A1) t1 I6) cw_RX12_331 (jc_55 cI cL ad σ5 τ) rfl ⟨Nat.le_of_ble_eq_true rfl, Nat.le_of_ble_eq_true rfl⟩ rfl rfl rfl hl.1 rfl (Nat.le_of_ble_eq_true rfl) dX12_act_7 ⟨Nat.zero_le _, Nat.zero_le _⟩ (fun r9 σ8 τ8 H locs h8 hP hS => ?_)
  obtain ⟨⟨rfl, rfl⟩, h8⟩ := h8
  rcases h8 with h10 | h11
  · obtain ⟨q13, k12⟩ := h10
    have q13 := q13.symm
    subst q13
    refine lv_if_ne (tgt := 15) hx hb dX12_act_10 (of_decide_eq_true rfl) (fun _ => ?_) (fun c => absurd c (of_decide_eq_true rfl))
    refine lv_aload_n hx hb dX12_act_15 rfl (lv_at hl 0 rfl) ?_
    refine lv_aload_n hx hb dX12_act_16 rfl (lv_at hl 0 rfl) ?_
    refine va_get (D := D) hx hb hts inlX12 hown hK hP 55 (jc_55 cI cL ad σ5 τ) rfl 33 (of_decide_eq_true rfl) (hts _ kw_7_18) (fun _ h9 => h9) rfl dX12_act_17 ?_
    refine lv_iload_n hx hb dX12_act_20 rfl (lv_at hl 1 rfl) ?_
    exact by
     refine jald hx hb hK hP (jc_70 cI cL ad σ5 τ) (jin t1 (by omega) (by omega)) dX12_act_21 ?_
     have w14 : ∀ k : Nat, k < 20 → 0 ≤ (σ5 70 k).toInt ∧ (σ5 70 k).toInt ≤ 6 := (jrr_fr (jnp 70 eσ5 (of_decide_eq_true rfl)) w2)
     have g15 := w14 _ (jnat (x := a1) t1 (n := 20) (by omega) (of_decide_eq_true rfl))
     refine jtopr (y := (σ 70 a1.toNatClampNeg)) (by rw [jnp 70 eσ5 (of_decide_eq_true rfl)]) ?_
     rw [jnp 70 eσ5 (of_decide_eq_true rfl)] at g15
     by_cases c16 : (σ 70 a1.toNatClampNeg) = 0
     · have kc16 := jeq c16 (rfl : (σ 70 a1.toNatClampNeg).toInt = (σ 70 a1.toNatClampNeg).toInt) jz_0
       refine jtopr c16 ?_
       refine jput (ty := .int) hx hb hts inlX12 tyX12 tyX12_ok nmX12 hown hK hP hJ hA hS (jc_55 cI cL ad σ5 τ) rfl (k := 56) (of_decide_eq_true rfl) (Nat.le_of_ble_eq_true rfl) (jp_55_56 cI cL ad σ5 τ 0) (hts _ kw_49_8) (fun _ h9 => h9) rfl (by decide +kernel) rfl rfl dX12_act_22 (fun σ17 H locs eσ17 hP hS => ?_)
       exact by
        refine lv_aload_n hx hb dX12_act_25 rfl (lv_at hl 0 rfl) ?_
        refine lv_iload_n hx hb dX12_act_26 rfl (lv_at hl 1 rfl) ?_
        refine jput (ty := .int) hx hb hts inlX12 tyX12 tyX12_ok nmX12 hown hK hP hJ hA hS (jc_55 cI cL ad σ17 τ) rfl (k := 57) (of_decide_eq_true rfl) (Nat.le_of_ble_eq_true rfl) (jp_55_57 cI cL ad σ17 τ a1) (hts _ kw_49_9) (fun _ h9 => h9) rfl (by decide +kernel) rfl rfl dX12_act_27 (fun σ18 H locs eσ18 hP hS => ?_)
        refine lv_iload_n hx hb dX12_act_30 rfl (lv_at hl 2 rfl) ?_
        by_cases c19 : a2 = 0
        · have kc19 := jeq c19 t2 jz_0
          refine jtopr c19 ?_
          refine lv_tableIn (off := 29) (tgt := 60) hx hb dX12_act_31 (of_decide_eq_true rfl) (of_decide_eq_true rfl) (of_decide_eq_true rfl) (of_decide_eq_true rfl) ?_
          refine lv_aload_n hx hb dX12_act_60 rfl (lv_at hl 0 rfl) ?_
          refine lv_aload_n hx hb dX12_act_61 rfl (lv_at hl 0 rfl) ?_
          refine va_get (D := D) hx hb hts inlX12 hown hK hP 55 (jc_55 cI cL ad σ18 τ) rfl 56 (of_decide_eq_true rfl) (hts _ kw_49_8) (fun _ h9 => h9) rfl dX12_act_62 ?_
          have m20 : σ18 55 56 = 0 := ((jkp 56 eσ18 (of_decide_eq_true rfl)).trans (jsp eσ17))
          refine jtopr m20 ?_
          refine lv_iload_n hx hb dX12_act_65 rfl (lv_at hl 3 rfl) ?_
          have m21 : σ18 55 55 = 0 := ((jkp 55 eσ18 (of_decide_eq_true rfl)).trans ((jkp 55 eσ17 (of_decide_eq_true rfl)).trans (jsp eσ5)))
          have z22 : (σ18 55 56).toInt = 0 := ((congrArg Int32.toInt (show σ18 55 56 = 0 from m20)).trans jz_0)
          exact by
           refine jcallV (As := [.int 0, .int a3]) (rest := []) ⟨hx, hb, hml, hown, hts⟩ hK hP hA hS hZ (c_X12_putsAs_0_0_0 l D cI cL ad zz hJ σ18 τ a3 (A3) t3 m21 (by omega)) cw_RX12_382 (jc_55 cI cL ad σ18 τ) rfl ⟨Nat.le_of_ble_eq_true rfl, Nat.le_of_ble_eq_true rfl⟩ rfl rfl rfl hl.1 rfl (Nat.le_of_ble_eq_true rfl) dX12_act_66 ⟨Nat.zero_le _, Nat.zero_le _⟩ (fun r24 σ23 τ23 H locs h23 hP hS => ?_)
           obtain ⟨rfl, f25, f26, f27, m28, m29, h23⟩ := h23
           have h31 := h23
           obtain ⟨q33, k32⟩ := h31
           have q33 := q33.symm
           subst q33
           have z34 : (σ23 55 55).toInt = 1 := ((congrArg Int32.toInt (show σ23 55 55 = 1 from m28)).trans jz_1)
           exact by exact hret (a3 + (σ18 55 57)) σ23 τ _ _ _ _ rfl ⟨rfl, (fun i hi => ((f25 i hi).trans ((jnp i eσ18 (imp_350 i hi)).trans ((jnp i eσ17 (imp_350 i hi)).trans (jnp i eσ5 (imp_350 i hi)))))), (fun i hi => ((f26 i (imp_368 i hi)).trans ((jkp i eσ18 (imp_369 i hi)).trans ((jkp i eσ17 (imp_370 i hi)).trans (jkp i eσ5 (imp_371 i hi)))))), Or.inr (⟨trivial, (by omega), (by omega), (by omega), ⟨(by rw [show σ18 55 57 = a1 from (jsp eσ18), show (σ 70 a1.toNatClampNeg).toInt = 0 by omega, show A2 = 0 by omega]; rfl), (by rw [show (σ 70 a1.toNatClampNeg).toInt = 0 by omega, show A2 = 0 by omega]; exact ⟨(by rw [show σ23 55 55 = 1 from m28]; decide), (show σ23 85 0 = 1 from m29), trivial⟩)⟩⟩)⟩ hP hS dX12_act_69
        have kc19 := jne c19 t2 jz_0
        by_cases c36 : a2 = 1
        · have kc36 := jeq c36 t2 jz_1
          refine jtopr c36 ?_
          refine lv_tableIn (off := 39) (tgt := 70) hx hb dX12_act_31 (of_decide_eq_true rfl) (of_decide_eq_true rfl) (of_decide_eq_true rfl) (of_decide_eq_true rfl) ?_
          refine lv_aload_n hx hb dX12_act_70 rfl (lv_at hl 0 rfl) ?_
          refine lv_aload_n hx hb dX12_act_71 rfl (lv_at hl 0 rfl) ?_
          refine va_get (D := D) hx hb hts inlX12 hown hK hP 55 (jc_55 cI cL ad σ18 τ) rfl 56 (of_decide_eq_true rfl) (hts _ kw_49_8) (fun _ h9 => h9) rfl dX12_act_72 ?_
          have m37 : σ18 55 56 = 0 := ((jkp 56 eσ18 (of_decide_eq_true rfl)).trans (jsp eσ17))
          refine jtopr m37 ?_
          refine lv_iload_n hx hb dX12_act_75 rfl (lv_at hl 3 rfl) ?_
          have m38 : σ18 55 55 = 0 := ((jkp 55 eσ18 (of_decide_eq_true rfl)).trans ((jkp 55 eσ17 (of_decide_eq_true rfl)).trans (jsp eσ5)))
          have z39 : (σ18 55 56).toInt = 0 := ((congrArg Int32.toInt (show σ18 55 56 = 0 from m37)).trans jz_0)
          exact by
           refine jcallV (As := [.int 0, .int a3]) (rest := []) ⟨hx, hb, hml, hown, hts⟩ hK hP hA hS hZ (c_X12_holdsAs_0_0_0 l D cI cL ad zz hJ σ18 τ a3 (A3) t3 m38 (by omega)) cw_RX12_388 (jc_55 cI cL ad σ18 τ) rfl ⟨Nat.le_of_ble_eq_true rfl, Nat.le_of_ble_eq_true rfl⟩ rfl rfl rfl hl.1 rfl (Nat.le_of_ble_eq_true rfl) dX12_act_76 ⟨Nat.zero_le _, Nat.zero_le _⟩ (fun r41 σ40 τ40 H locs h40 hP hS => ?_)
           obtain ⟨rfl, f42, f43, f44, m45, m46, m47, h40⟩ := h40
           have h49 := h40
           obtain ⟨q51, k50⟩ := h49
           have q51 := q51.symm
           subst q51
           have z52 : (σ40 55 55).toInt = 2 := ((congrArg Int32.toInt (show σ40 55 55 = 2 from m45)).trans jz_2)
           exact by exact hret ((a3 + (σ18 55 57)) * 2) σ40 τ _ _ _ _ rfl ⟨rfl, (fun i hi => ((f42 i hi).trans ((jnp i eσ18 (imp_350 i hi)).trans ((jnp i eσ17 (imp_350 i hi)).trans (jnp i eσ5 (imp_350 i hi)))))), (fun i hi => ((f43 i (imp_368 i hi)).trans ((jkp i eσ18 (imp_369 i hi)).trans ((jkp i eσ17 (imp_370 i hi)).trans (jkp i eσ5 (imp_371 i hi)))))), Or.inr (⟨trivial, (by omega), (by omega), (by omega), ⟨(by rw [show σ18 55 57 = a1 from (jsp eσ18), show (σ 70 a1.toNatClampNeg).toInt = 0 by omega, show A2 = 1 by omega]; rfl), (by rw [show (σ 70 a1.toNatClampNeg).toInt = 0 by omega, show A2 = 1 by omega]; exact ⟨(by rw [show σ40 55 55 = 2 from m45]; decide), (show σ40 85 0 = 10 from m46), (show σ40 85 1 = 1 from m47), trivial⟩)⟩⟩)⟩ hP hS dX12_act_79
        have kc36 := jne c36 t2 jz_1
        by_cases c55 : a2 = 2
        · have kc55 := jeq c55 t2 jz_2
          refine jtopr c55 ?_
          refine lv_tableIn (off := 49) (tgt := 80) hx hb dX12_act_31 (of_decide_eq_true rfl) (of_decide_eq_true rfl) (of_decide_eq_true rfl) (of_decide_eq_true rfl) ?_
          refine lv_aload_n hx hb dX12_act_80 rfl (lv_at hl 0 rfl) ?_
          refine lv_aload_n hx hb dX12_act_81 rfl (lv_at hl 0 rfl) ?_
          refine va_get (D := D) hx hb hts inlX12 hown hK hP 55 (jc_55 cI cL ad σ18 τ) rfl 56 (of_decide_eq_true rfl) (hts _ kw_49_8) (fun _ h9 => h9) rfl dX12_act_82 ?_
          have m56 : σ18 55 56 = 0 := ((jkp 56 eσ18 (of_decide_eq_true rfl)).trans (jsp eσ17))
          refine jtopr m56 ?_
          refine lv_iload_n hx hb dX12_act_85 rfl (lv_at hl 3 rfl) ?_
          have m57 : σ18 55 55 = 0 := ((jkp 55 eσ18 (of_decide_eq_true rfl)).trans ((jkp 55 eσ17 (of_decide_eq_true rfl)).trans (jsp eσ5)))
          have z58 : (σ18 55 56).toInt = 0 := ((congrArg Int32.toInt (show σ18 55 56 = 0 from m56)).trans jz_0)
          exact by
           refine jcallV (As := [.int 0, .int a3]) (rest := []) ⟨hx, hb, hml, hown, hts⟩ hK hP hA hS hZ (c_X12_givesAs_0_0_0 l D cI cL ad zz hJ σ18 τ a3 (A3) t3 m57 (by omega)) cw_RX12_394 (jc_55 cI cL ad σ18 τ) rfl ⟨Nat.le_of_ble_eq_true rfl, Nat.le_of_ble_eq_true rfl⟩ rfl rfl rfl hl.1 rfl (Nat.le_of_ble_eq_true rfl) dX12_act_86 ⟨Nat.zero_le _, Nat.zero_le _⟩ (fun r60 σ59 τ59 H locs h59 hP hS => ?_)
           obtain ⟨rfl, f61, f62, f63, m64, m65, h59⟩ := h59
           have h67 := h59
           obtain ⟨q69, k68⟩ := h67
           have q69 := q69.symm
           subst q69
           have z70 : (σ59 55 55).toInt = 1 := ((congrArg Int32.toInt (show σ59 55 55 = 1 from m64)).trans jz_1)
           exact by exact hret (a3 ^^^ (σ18 55 57)) σ59 τ _ _ _ _ rfl ⟨rfl, (fun i hi => ((f61 i hi).trans ((jnp i eσ18 (imp_350 i hi)).trans ((jnp i eσ17 (imp_350 i hi)).trans (jnp i eσ5 (imp_350 i hi)))))), (fun i hi => ((f62 i (imp_368 i hi)).trans ((jkp i eσ18 (imp_369 i hi)).trans ((jkp i eσ17 (imp_370 i hi)).trans (jkp i eσ5 (imp_371 i hi)))))), Or.inr (⟨trivial, (by omega), (by omega), (by omega), ⟨(by rw [show σ18 55 57 = a1 from (jsp eσ18), show (σ 70 a1.toNatClampNeg).toInt = 0 by omega, show A2 = 2 by omega]; rfl), (by rw [show (σ 70 a1.toNatClampNeg).toInt = 0 by omega, show A2 = 2 by omega]; exact ⟨(by rw [show σ59 55 55 = 1 from m64]; decide), (show σ59 85 0 = 11 from m65), trivial⟩)⟩⟩)⟩ hP hS dX12_act_89
        have kc55 := jne c55 t2 jz_2
        by_cases c72 : a2 = 3
        · have kc72 := jeq c72 t2 jz_3
          refine jtopr c72 ?_
          refine lv_tableIn (off := 59) (tgt := 90) hx hb dX12_act_31 (of_decide_eq_true rfl) (of_decide_eq_true rfl) (of_decide_eq_true rfl) (of_decide_eq_true rfl) ?_
          refine lv_aload_n hx hb dX12_act_90 rfl (lv_at hl 0 rfl) ?_
          refine lv_aload_n hx hb dX12_act_91 rfl (lv_at hl 0 rfl) ?_
          refine va_get (D := D) hx hb hts inlX12 hown hK hP 55 (jc_55 cI cL ad σ18 τ) rfl 56 (of_decide_eq_true rfl) (hts _ kw_49_8) (fun _ h9 => h9) rfl dX12_act_92 ?_
          have m73 : σ18 55 56 = 0 := ((jkp 56 eσ18 (of_decide_eq_true rfl)).trans (jsp eσ17))
          refine jtopr m73 ?_
          refine lv_iload_n hx hb dX12_act_95 rfl (lv_at hl 3 rfl) ?_
          have m74 : σ18 55 55 = 0 := ((jkp 55 eσ18 (of_decide_eq_true rfl)).trans ((jkp 55 eσ17 (of_decide_eq_true rfl)).trans (jsp eσ5)))
          have z75 : (σ18 55 56).toInt = 0 := ((congrArg Int32.toInt (show σ18 55 56 = 0 from m73)).trans jz_0)
          exact by
           refine jcallV (As := [.int 0, .int a3]) (rest := []) ⟨hx, hb, hml, hown, hts⟩ hK hP hA hS hZ (c_X12_tellsAs_0_0_0 l D cI cL ad zz hJ σ18 τ a3 (A3) t3 m74 (by omega)) cw_RX12_397 (jc_55 cI cL ad σ18 τ) rfl ⟨Nat.le_of_ble_eq_true rfl, Nat.le_of_ble_eq_true rfl⟩ rfl rfl rfl hl.1 rfl (Nat.le_of_ble_eq_true rfl) dX12_act_96 ⟨Nat.zero_le _, Nat.zero_le _⟩ (fun r77 σ76 τ76 H locs h76 hP hS => ?_)
           obtain ⟨rfl, f78, f79, f80, m81, m82, m83, m84, m85, h76⟩ := h76
           have h87 := h76
           obtain ⟨q89, k88⟩ := h87
           have q89 := q89.symm
           subst q89
           have z90 : (σ76 55 55).toInt = 4 := ((congrArg Int32.toInt (show σ76 55 55 = 4 from m81)).trans jz_4)
           exact by exact hret (((a3 + (σ18 55 57)) * 2) - (1 ^^^ (σ18 55 57))) σ76 τ _ _ _ _ rfl ⟨rfl, (fun i hi => ((f78 i hi).trans ((jnp i eσ18 (imp_350 i hi)).trans ((jnp i eσ17 (imp_350 i hi)).trans (jnp i eσ5 (imp_350 i hi)))))), (fun i hi => ((f79 i (imp_368 i hi)).trans ((jkp i eσ18 (imp_369 i hi)).trans ((jkp i eσ17 (imp_370 i hi)).trans (jkp i eσ5 (imp_371 i hi)))))), Or.inr (⟨trivial, (by omega), (by omega), (by omega), ⟨(by rw [show σ18 55 57 = a1 from (jsp eσ18), show (σ 70 a1.toNatClampNeg).toInt = 0 by omega, show A2 = 3 by omega]; rfl), (by rw [show (σ 70 a1.toNatClampNeg).toInt = 0 by omega, show A2 = 3 by omega]; exact ⟨(by rw [show σ76 55 55 = 4 from m81]; decide), (show σ76 85 0 = 2 from m82), (show σ76 85 1 = 10 from m83), (show σ76 85 2 = 1 from m84), (show σ76 85 3 = 11 from m85), trivial⟩)⟩⟩)⟩ hP hS dX12_act_99
        have kc72 := jne c72 t2 jz_3
        exact by
         refine lv_tableOut (tgt := 100) hx hb dX12_act_31 (by rw [t2]; omega) (of_decide_eq_true rfl) ?_
         refine lv_iconst (v := 0) hx hb dX12_act_100 (of_decide_eq_true rfl) ?_
         have z95 : (σ18 55 55).toInt = 0 := ((congrArg Int32.toInt (show σ18 55 55 = 0 from ((jkp 55 eσ18 (of_decide_eq_true rfl)).trans ((jkp 55 eσ17 (of_decide_eq_true rfl)).trans (jsp eσ5))))).trans jz_0)
         exact by exact hret 0 σ18 τ _ _ _ _ rfl ⟨rfl, (fun i hi => ((jnp i eσ18 (imp_350 i hi)).trans ((jnp i eσ17 (imp_350 i hi)).trans (jnp i eσ5 (imp_350 i hi))))), (fun i hi => ((jkp i eσ18 (imp_369 i hi)).trans ((jkp i eσ17 (imp_370 i hi)).trans (jkp i eσ5 (imp_371 i hi))))), Or.inl ⟨rfl, (by have h9 := jz_0; omega), (by have h9 := jz_0; omega)⟩⟩ hP hS dX12_act_101
     have kc16 := jne c16 (rfl : (σ 70 a1.toNatClampNeg).toInt = (σ 70 a1.toNatClampNeg).toInt) jz_0
     by_cases c96 : (σ 70 a1.toNatClampNeg) = 1
     · have kc96 := jeq c96 (rfl : (σ 70 a1.toNatClampNeg).toInt = (σ 70 a1.toNatClampNeg).toInt) jz_1
       refine jtopr c96 ?_
       refine jput (ty := .int) hx hb hts inlX12 tyX12 tyX12_ok nmX12 hown hK hP hJ hA hS (jc_55 cI cL ad σ5 τ) rfl (k := 56) (of_decide_eq_true rfl) (Nat.le_of_ble_eq_true rfl) (jp_55_56 cI cL ad σ5 τ 1) (hts _ kw_49_8) (fun _ h9 => h9) rfl (by decide +kernel) rfl rfl dX12_act_22 (fun σ97 H locs eσ97 hP hS => ?_)
       refine lv_aload_n hx hb dX12_act_25 rfl (lv_at hl 0 rfl) ?_
       refine lv_iload_n hx hb dX12_act_26 rfl (lv_at hl 1 rfl) ?_
       refine jput (ty := .int) hx hb hts inlX12 tyX12 tyX12_ok nmX12 hown hK hP hJ hA hS (jc_55 cI cL ad σ97 τ) rfl (k := 57) (of_decide_eq_true rfl) (Nat.le_of_ble_eq_true rfl) (jp_55_57 cI cL ad σ97 τ a1) (hts _ kw_49_9) (fun _ h9 => h9) rfl (by decide +kernel) rfl rfl dX12_act_27 (fun σ98 H locs eσ98 hP hS => ?_)
       refine lv_iload_n hx hb dX12_act_30 rfl (lv_at hl 2 rfl) ?_
       by_cases c99 : a2 = 0
       · have kc99 := jeq c99 t2 jz_0
         refine jtopr c99 ?_
         refine lv_tableIn (off := 29) (tgt := 60) hx hb dX12_act_31 (of_decide_eq_true rfl) (of_decide_eq_true rfl) (of_decide_eq_true rfl) (of_decide_eq_true rfl) ?_
         refine lv_aload_n hx hb dX12_act_60 rfl (lv_at hl 0 rfl) ?_
         refine lv_aload_n hx hb dX12_act_61 rfl (lv_at hl 0 rfl) ?_
         refine va_get (D := D) hx hb hts inlX12 hown hK hP 55 (jc_55 cI cL ad σ98 τ) rfl 56 (of_decide_eq_true rfl) (hts _ kw_49_8) (fun _ h9 => h9) rfl dX12_act_62 ?_
         have m100 : σ98 55 56 = 1 := ((jkp 56 eσ98 (of_decide_eq_true rfl)).trans (jsp eσ97))
         refine jtopr m100 ?_
         refine lv_iload_n hx hb dX12_act_65 rfl (lv_at hl 3 rfl) ?_
         have m101 : σ98 55 55 = 0 := ((jkp 55 eσ98 (of_decide_eq_true rfl)).trans ((jkp 55 eσ97 (of_decide_eq_true rfl)).trans (jsp eσ5)))
         have z102 : (σ98 55 56).toInt = 1 := ((congrArg Int32.toInt (show σ98 55 56 = 1 from m100)).trans jz_1)
         exact by
          refine jcallV (As := [.int 1, .int a3]) (rest := []) ⟨hx, hb, hml, hown, hts⟩ hK hP hA hS hZ (c_X12_putsAs_1_1_0 l D cI cL ad zz hJ σ98 τ a3 (A3) t3 m101 (by omega)) cw_RX12_382 (jc_55 cI cL ad σ98 τ) rfl ⟨Nat.le_of_ble_eq_true rfl, Nat.le_of_ble_eq_true rfl⟩ rfl rfl rfl hl.1 rfl (Nat.le_of_ble_eq_true rfl) dX12_act_66 ⟨Nat.zero_le _, Nat.zero_le _⟩ (fun r104 σ103 τ103 H locs h103 hP hS => ?_)
          obtain ⟨rfl, f105, f106, f107, m108, m109, m110, h103⟩ := h103
          have h112 := h103
          obtain ⟨q114, k113⟩ := h112
          have q114 := q114.symm
          subst q114
          have z115 : (σ103 55 55).toInt = 2 := ((congrArg Int32.toInt (show σ103 55 55 = 2 from m108)).trans jz_2)
          exact by exact hret ((a3 + (σ98 55 57)) + 3) σ103 τ _ _ _ _ rfl ⟨rfl, (fun i hi => ((f105 i hi).trans ((jnp i eσ98 (imp_350 i hi)).trans ((jnp i eσ97 (imp_350 i hi)).trans (jnp i eσ5 (imp_350 i hi)))))), (fun i hi => ((f106 i (imp_368 i hi)).trans ((jkp i eσ98 (imp_369 i hi)).trans ((jkp i eσ97 (imp_370 i hi)).trans (jkp i eσ5 (imp_371 i hi)))))), Or.inr (⟨trivial, (by omega), (by omega), (by omega), ⟨(by rw [show σ98 55 57 = a1 from (jsp eσ98), show (σ 70 a1.toNatClampNeg).toInt = 1 by omega, show A2 = 0 by omega]; rfl), (by rw [show (σ 70 a1.toNatClampNeg).toInt = 1 by omega, show A2 = 0 by omega]; exact ⟨(by rw [show σ103 55 55 = 2 from m108]; decide), (show σ103 85 0 = 20 from m109), (show σ103 85 1 = 1 from m110), trivial⟩)⟩⟩)⟩ hP hS dX12_act_69
       have kc99 := jne c99 t2 jz_0
       by_cases c118 : a2 = 1
       · have kc118 := jeq c118 t2 jz_1
         refine jtopr c118 ?_
         refine lv_tableIn (off := 39) (tgt := 70) hx hb dX12_act_31 (of_decide_eq_true rfl) (of_decide_eq_true rfl) (of_decide_eq_true rfl) (of_decide_eq_true rfl) ?_
         refine lv_aload_n hx hb dX12_act_70 rfl (lv_at hl 0 rfl) ?_
         refine lv_aload_n hx hb dX12_act_71 rfl (lv_at hl 0 rfl) ?_
         refine va_get (D := D) hx hb hts inlX12 hown hK hP 55 (jc_55 cI cL ad σ98 τ) rfl 56 (of_decide_eq_true rfl) (hts _ kw_49_8) (fun _ h9 => h9) rfl dX12_act_72 ?_
         have m119 : σ98 55 56 = 1 := ((jkp 56 eσ98 (of_decide_eq_true rfl)).trans (jsp eσ97))
         refine jtopr m119 ?_
         refine lv_iload_n hx hb dX12_act_75 rfl (lv_at hl 3 rfl) ?_
         have m120 : σ98 55 55 = 0 := ((jkp 55 eσ98 (of_decide_eq_true rfl)).trans ((jkp 55 eσ97 (of_decide_eq_true rfl)).trans (jsp eσ5)))
         have z121 : (σ98 55 56).toInt = 1 := ((congrArg Int32.toInt (show σ98 55 56 = 1 from m119)).trans jz_1)
         exact by
          refine jcallV (As := [.int 1, .int a3]) (rest := []) ⟨hx, hb, hml, hown, hts⟩ hK hP hA hS hZ (c_X12_holdsAs_1_1_0 l D cI cL ad zz hJ σ98 τ a3 (A3) t3 m120 (by omega)) cw_RX12_388 (jc_55 cI cL ad σ98 τ) rfl ⟨Nat.le_of_ble_eq_true rfl, Nat.le_of_ble_eq_true rfl⟩ rfl rfl rfl hl.1 rfl (Nat.le_of_ble_eq_true rfl) dX12_act_76 ⟨Nat.zero_le _, Nat.zero_le _⟩ (fun r123 σ122 τ122 H locs h122 hP hS => ?_)
          obtain ⟨rfl, f124, f125, f126, m127, m128, m129, m130, h122⟩ := h122
          have h132 := h122
          obtain ⟨q134, k133⟩ := h132
          have q134 := q134.symm
          subst q134
          have z135 : (σ122 55 55).toInt = 3 := ((congrArg Int32.toInt (show σ122 55 55 = 3 from m127)).trans jz_3)
          exact by exact hret (((a3 + (σ98 55 57)) + 3) * 2) σ122 τ _ _ _ _ rfl ⟨rfl, (fun i hi => ((f124 i hi).trans ((jnp i eσ98 (imp_350 i hi)).trans ((jnp i eσ97 (imp_350 i hi)).trans (jnp i eσ5 (imp_350 i hi)))))), (fun i hi => ((f125 i (imp_368 i hi)).trans ((jkp i eσ98 (imp_369 i hi)).trans ((jkp i eσ97 (imp_370 i hi)).trans (jkp i eσ5 (imp_371 i hi)))))), Or.inr (⟨trivial, (by omega), (by omega), (by omega), ⟨(by rw [show σ98 55 57 = a1 from (jsp eσ98), show (σ 70 a1.toNatClampNeg).toInt = 1 by omega, show A2 = 1 by omega]; rfl), (by rw [show (σ 70 a1.toNatClampNeg).toInt = 1 by omega, show A2 = 1 by omega]; exact ⟨(by rw [show σ122 55 55 = 3 from m127]; decide), (show σ122 85 0 = 10 from m128), (show σ122 85 1 = 20 from m129), (show σ122 85 2 = 1 from m130), trivial⟩)⟩⟩)⟩ hP hS dX12_act_79
       have kc118 := jne c118 t2 jz_1
       by_cases c139 : a2 = 2
       · have kc139 := jeq c139 t2 jz_2
         refine jtopr c139 ?_
         refine lv_tableIn (off := 49) (tgt := 80) hx hb dX12_act_31 (of_decide_eq_true rfl) (of_decide_eq_true rfl) (of_decide_eq_true rfl) (of_decide_eq_true rfl) ?_
         refine lv_aload_n hx hb dX12_act_80 rfl (lv_at hl 0 rfl) ?_
         refine lv_aload_n hx hb dX12_act_81 rfl (lv_at hl 0 rfl) ?_
         refine va_get (D := D) hx hb hts inlX12 hown hK hP 55 (jc_55 cI cL ad σ98 τ) rfl 56 (of_decide_eq_true rfl) (hts _ kw_49_8) (fun _ h9 => h9) rfl dX12_act_82 ?_
         have m140 : σ98 55 56 = 1 := ((jkp 56 eσ98 (of_decide_eq_true rfl)).trans (jsp eσ97))
         refine jtopr m140 ?_
         refine lv_iload_n hx hb dX12_act_85 rfl (lv_at hl 3 rfl) ?_
         have m141 : σ98 55 55 = 0 := ((jkp 55 eσ98 (of_decide_eq_true rfl)).trans ((jkp 55 eσ97 (of_decide_eq_true rfl)).trans (jsp eσ5)))
         have z142 : (σ98 55 56).toInt = 1 := ((congrArg Int32.toInt (show σ98 55 56 = 1 from m140)).trans jz_1)
         exact by
          refine jcallV (As := [.int 1, .int a3]) (rest := []) ⟨hx, hb, hml, hown, hts⟩ hK hP hA hS hZ (c_X12_givesAs_1_1_0 l D cI cL ad zz hJ σ98 τ a3 (A3) t3 m141 (by omega)) cw_RX12_394 (jc_55 cI cL ad σ98 τ) rfl ⟨Nat.le_of_ble_eq_true rfl, Nat.le_of_ble_eq_true rfl⟩ rfl rfl rfl hl.1 rfl (Nat.le_of_ble_eq_true rfl) dX12_act_86 ⟨Nat.zero_le _, Nat.zero_le _⟩ (fun r144 σ143 τ143 H locs h143 hP hS => ?_)
          obtain ⟨rfl, f145, f146, f147, m148, m149, h143⟩ := h143
          have h151 := h143
          obtain ⟨q153, k152⟩ := h151
          have q153 := q153.symm
          subst q153
          have z154 : (σ143 55 55).toInt = 1 := ((congrArg Int32.toInt (show σ143 55 55 = 1 from m148)).trans jz_1)
          exact by exact hret (a3 ^^^ (σ98 55 57)) σ143 τ _ _ _ _ rfl ⟨rfl, (fun i hi => ((f145 i hi).trans ((jnp i eσ98 (imp_350 i hi)).trans ((jnp i eσ97 (imp_350 i hi)).trans (jnp i eσ5 (imp_350 i hi)))))), (fun i hi => ((f146 i (imp_368 i hi)).trans ((jkp i eσ98 (imp_369 i hi)).trans ((jkp i eσ97 (imp_370 i hi)).trans (jkp i eσ5 (imp_371 i hi)))))), Or.inr (⟨trivial, (by omega), (by omega), (by omega), ⟨(by rw [show σ98 55 57 = a1 from (jsp eσ98), show (σ 70 a1.toNatClampNeg).toInt = 1 by omega, show A2 = 2 by omega]; rfl), (by rw [show (σ 70 a1.toNatClampNeg).toInt = 1 by omega, show A2 = 2 by omega]; exact ⟨(by rw [show σ143 55 55 = 1 from m148]; decide), (show σ143 85 0 = 11 from m149), trivial⟩)⟩⟩)⟩ hP hS dX12_act_89
       have kc139 := jne c139 t2 jz_2
       by_cases c156 : a2 = 3
       · have kc156 := jeq c156 t2 jz_3
         refine jtopr c156 ?_
         refine lv_tableIn (off := 59) (tgt := 90) hx hb dX12_act_31 (of_decide_eq_true rfl) (of_decide_eq_true rfl) (of_decide_eq_true rfl) (of_decide_eq_true rfl) ?_
         refine lv_aload_n hx hb dX12_act_90 rfl (lv_at hl 0 rfl) ?_
         refine lv_aload_n hx hb dX12_act_91 rfl (lv_at hl 0 rfl) ?_
         refine va_get (D := D) hx hb hts inlX12 hown hK hP 55 (jc_55 cI cL ad σ98 τ) rfl 56 (of_decide_eq_true rfl) (hts _ kw_49_8) (fun _ h9 => h9) rfl dX12_act_92 ?_
         have m157 : σ98 55 56 = 1 := ((jkp 56 eσ98 (of_decide_eq_true rfl)).trans (jsp eσ97))
         refine jtopr m157 ?_
         refine lv_iload_n hx hb dX12_act_95 rfl (lv_at hl 3 rfl) ?_
         have m158 : σ98 55 55 = 0 := ((jkp 55 eσ98 (of_decide_eq_true rfl)).trans ((jkp 55 eσ97 (of_decide_eq_true rfl)).trans (jsp eσ5)))
         have z159 : (σ98 55 56).toInt = 1 := ((congrArg Int32.toInt (show σ98 55 56 = 1 from m157)).trans jz_1)
         exact by
          refine jcallV (As := [.int 1, .int a3]) (rest := []) ⟨hx, hb, hml, hown, hts⟩ hK hP hA hS hZ (c_X12_tellsAs_1_1_0 l D cI cL ad zz hJ σ98 τ a3 (A3) t3 m158 (by omega)) cw_RX12_397 (jc_55 cI cL ad σ98 τ) rfl ⟨Nat.le_of_ble_eq_true rfl, Nat.le_of_ble_eq_true rfl⟩ rfl rfl rfl hl.1 rfl (Nat.le_of_ble_eq_true rfl) dX12_act_96 ⟨Nat.zero_le _, Nat.zero_le _⟩ (fun r161 σ160 τ160 H locs h160 hP hS => ?_)
          obtain ⟨rfl, f162, f163, f164, m165, m166, m167, m168, m169, m170, h160⟩ := h160
          have h172 := h160
          obtain ⟨q174, k173⟩ := h172
          have q174 := q174.symm
          subst q174
          have z175 : (σ160 55 55).toInt = 5 := ((congrArg Int32.toInt (show σ160 55 55 = 5 from m165)).trans jz_5)
          exact by exact hret ((((a3 + (σ98 55 57)) + 3) * 2) - (1 ^^^ (σ98 55 57))) σ160 τ _ _ _ _ rfl ⟨rfl, (fun i hi => ((f162 i hi).trans ((jnp i eσ98 (imp_350 i hi)).trans ((jnp i eσ97 (imp_350 i hi)).trans (jnp i eσ5 (imp_350 i hi)))))), (fun i hi => ((f163 i (imp_368 i hi)).trans ((jkp i eσ98 (imp_369 i hi)).trans ((jkp i eσ97 (imp_370 i hi)).trans (jkp i eσ5 (imp_371 i hi)))))), Or.inr (⟨trivial, (by omega), (by omega), (by omega), ⟨(by rw [show σ98 55 57 = a1 from (jsp eσ98), show (σ 70 a1.toNatClampNeg).toInt = 1 by omega, show A2 = 3 by omega]; rfl), (by rw [show (σ 70 a1.toNatClampNeg).toInt = 1 by omega, show A2 = 3 by omega]; exact ⟨(by rw [show σ160 55 55 = 5 from m165]; decide), (show σ160 85 0 = 2 from m166), (show σ160 85 1 = 10 from m167), (show σ160 85 2 = 20 from m168), (show σ160 85 3 = 1 from m169), (show σ160 85 4 = 11 from m170), trivial⟩)⟩⟩)⟩ hP hS dX12_act_99
       have kc156 := jne c156 t2 jz_3
       exact by
        refine lv_tableOut (tgt := 100) hx hb dX12_act_31 (by rw [t2]; omega) (of_decide_eq_true rfl) ?_
        refine lv_iconst (v := 0) hx hb dX12_act_100 (of_decide_eq_true rfl) ?_
        have z181 : (σ98 55 55).toInt = 0 := ((congrArg Int32.toInt (show σ98 55 55 = 0 from ((jkp 55 eσ98 (of_decide_eq_true rfl)).trans ((jkp 55 eσ97 (of_decide_eq_true rfl)).trans (jsp eσ5))))).trans jz_0)
        exact by exact hret 0 σ98 τ _ _ _ _ rfl ⟨rfl, (fun i hi => ((jnp i eσ98 (imp_350 i hi)).trans ((jnp i eσ97 (imp_350 i hi)).trans (jnp i eσ5 (imp_350 i hi))))), (fun i hi => ((jkp i eσ98 (imp_369 i hi)).trans ((jkp i eσ97 (imp_370 i hi)).trans (jkp i eσ5 (imp_371 i hi))))), Or.inl ⟨rfl, (by have h9 := jz_0; omega), (by have h9 := jz_0; omega)⟩⟩ hP hS dX12_act_101
     have kc96 := jne c96 (rfl : (σ 70 a1.toNatClampNeg).toInt = (σ 70 a1.toNatClampNeg).toInt) jz_1
     by_cases c182 : (σ 70 a1.toNatClampNeg) = 2
     · have kc182 := jeq c182 (rfl : (σ 70 a1.toNatClampNeg).toInt = (σ 70 a1.toNatClampNeg).toInt) jz_2
       refine jtopr c182 ?_
       refine jput (ty := .int) hx hb hts inlX12 tyX12 tyX12_ok nmX12 hown hK hP hJ hA hS (jc_55 cI cL ad σ5 τ) rfl (k := 56) (of_decide_eq_true rfl) (Nat.le_of_ble_eq_true rfl) (jp_55_56 cI cL ad σ5 τ 2) (hts _ kw_49_8) (fun _ h9 => h9) rfl (by decide +kernel) rfl rfl dX12_act_22 (fun σ183 H locs eσ183 hP hS => ?_)
       refine lv_aload_n hx hb dX12_act_25 rfl (lv_at hl 0 rfl) ?_
       refine lv_iload_n hx hb dX12_act_26 rfl (lv_at hl 1 rfl) ?_
       refine jput (ty := .int) hx hb hts inlX12 tyX12 tyX12_ok nmX12 hown hK hP hJ hA hS (jc_55 cI cL ad σ183 τ) rfl (k := 57) (of_decide_eq_true rfl) (Nat.le_of_ble_eq_true rfl) (jp_55_57 cI cL ad σ183 τ a1) (hts _ kw_49_9) (fun _ h9 => h9) rfl (by decide +kernel) rfl rfl dX12_act_27 (fun σ184 H locs eσ184 hP hS => ?_)
       refine lv_iload_n hx hb dX12_act_30 rfl (lv_at hl 2 rfl) ?_
       by_cases c185 : a2 = 0
       · have kc185 := jeq c185 t2 jz_0
         refine jtopr c185 ?_
         refine lv_tableIn (off := 29) (tgt := 60) hx hb dX12_act_31 (of_decide_eq_true rfl) (of_decide_eq_true rfl) (of_decide_eq_true rfl) (of_decide_eq_true rfl) ?_
         refine lv_aload_n hx hb dX12_act_60 rfl (lv_at hl 0 rfl) ?_
         refine lv_aload_n hx hb dX12_act_61 rfl (lv_at hl 0 rfl) ?_
         refine va_get (D := D) hx hb hts inlX12 hown hK hP 55 (jc_55 cI cL ad σ184 τ) rfl 56 (of_decide_eq_true rfl) (hts _ kw_49_8) (fun _ h9 => h9) rfl dX12_act_62 ?_
         have m186 : σ184 55 56 = 2 := ((jkp 56 eσ184 (of_decide_eq_true rfl)).trans (jsp eσ183))
         refine jtopr m186 ?_
         refine lv_iload_n hx hb dX12_act_65 rfl (lv_at hl 3 rfl) ?_
         have m187 : σ184 55 55 = 0 := ((jkp 55 eσ184 (of_decide_eq_true rfl)).trans ((jkp 55 eσ183 (of_decide_eq_true rfl)).trans (jsp eσ5)))
         have z188 : (σ184 55 56).toInt = 2 := ((congrArg Int32.toInt (show σ184 55 56 = 2 from m186)).trans jz_2)
         exact by
          refine jcallV (As := [.int 2, .int a3]) (rest := []) ⟨hx, hb, hml, hown, hts⟩ hK hP hA hS hZ (c_X12_putsAs_2_2_0 l D cI cL ad zz hJ σ184 τ a3 (A3) t3 m187 (by omega)) cw_RX12_382 (jc_55 cI cL ad σ184 τ) rfl ⟨Nat.le_of_ble_eq_true rfl, Nat.le_of_ble_eq_true rfl⟩ rfl rfl rfl hl.1 rfl (Nat.le_of_ble_eq_true rfl) dX12_act_66 ⟨Nat.zero_le _, Nat.zero_le _⟩ (fun r190 σ189 τ189 H locs h189 hP hS => ?_)
          obtain ⟨rfl, f191, f192, f193, m194, m195, h189⟩ := h189
          have h197 := h189
          obtain ⟨q199, k198⟩ := h197
          have q199 := q199.symm
          subst q199
          have z200 : (σ189 55 55).toInt = 1 := ((congrArg Int32.toInt (show σ189 55 55 = 1 from m194)).trans jz_1)
          exact by exact hret (a3 + (σ184 55 57)) σ189 τ _ _ _ _ rfl ⟨rfl, (fun i hi => ((f191 i hi).trans ((jnp i eσ184 (imp_350 i hi)).trans ((jnp i eσ183 (imp_350 i hi)).trans (jnp i eσ5 (imp_350 i hi)))))), (fun i hi => ((f192 i (imp_368 i hi)).trans ((jkp i eσ184 (imp_369 i hi)).trans ((jkp i eσ183 (imp_370 i hi)).trans (jkp i eσ5 (imp_371 i hi)))))), Or.inr (⟨trivial, (by omega), (by omega), (by omega), ⟨(by rw [show σ184 55 57 = a1 from (jsp eσ184), show (σ 70 a1.toNatClampNeg).toInt = 2 by omega, show A2 = 0 by omega]; rfl), (by rw [show (σ 70 a1.toNatClampNeg).toInt = 2 by omega, show A2 = 0 by omega]; exact ⟨(by rw [show σ189 55 55 = 1 from m194]; decide), (show σ189 85 0 = 1 from m195), trivial⟩)⟩⟩)⟩ hP hS dX12_act_69
       have kc185 := jne c185 t2 jz_0
       by_cases c202 : a2 = 1
       · have kc202 := jeq c202 t2 jz_1
         refine jtopr c202 ?_
         refine lv_tableIn (off := 39) (tgt := 70) hx hb dX12_act_31 (of_decide_eq_true rfl) (of_decide_eq_true rfl) (of_decide_eq_true rfl) (of_decide_eq_true rfl) ?_
         refine lv_aload_n hx hb dX12_act_70 rfl (lv_at hl 0 rfl) ?_
         refine lv_aload_n hx hb dX12_act_71 rfl (lv_at hl 0 rfl) ?_
         refine va_get (D := D) hx hb hts inlX12 hown hK hP 55 (jc_55 cI cL ad σ184 τ) rfl 56 (of_decide_eq_true rfl) (hts _ kw_49_8) (fun _ h9 => h9) rfl dX12_act_72 ?_
         have m203 : σ184 55 56 = 2 := ((jkp 56 eσ184 (of_decide_eq_true rfl)).trans (jsp eσ183))
         refine jtopr m203 ?_
         refine lv_iload_n hx hb dX12_act_75 rfl (lv_at hl 3 rfl) ?_
         have m204 : σ184 55 55 = 0 := ((jkp 55 eσ184 (of_decide_eq_true rfl)).trans ((jkp 55 eσ183 (of_decide_eq_true rfl)).trans (jsp eσ5)))
         have z205 : (σ184 55 56).toInt = 2 := ((congrArg Int32.toInt (show σ184 55 56 = 2 from m203)).trans jz_2)
         exact by
          refine jcallV (As := [.int 2, .int a3]) (rest := []) ⟨hx, hb, hml, hown, hts⟩ hK hP hA hS hZ (c_X12_holdsAs_2_2_0 l D cI cL ad zz hJ σ184 τ a3 (A3) t3 m204 (by omega)) cw_RX12_388 (jc_55 cI cL ad σ184 τ) rfl ⟨Nat.le_of_ble_eq_true rfl, Nat.le_of_ble_eq_true rfl⟩ rfl rfl rfl hl.1 rfl (Nat.le_of_ble_eq_true rfl) dX12_act_76 ⟨Nat.zero_le _, Nat.zero_le _⟩ (fun r207 σ206 τ206 H locs h206 hP hS => ?_)
          obtain ⟨rfl, f208, f209, f210, m211, m212, m213, h206⟩ := h206
          have h215 := h206
          obtain ⟨q217, k216⟩ := h215
          have q217 := q217.symm
          subst q217
          have z218 : (σ206 55 55).toInt = 2 := ((congrArg Int32.toInt (show σ206 55 55 = 2 from m211)).trans jz_2)
          exact by exact hret ((a3 + (σ184 55 57)) * 2) σ206 τ _ _ _ _ rfl ⟨rfl, (fun i hi => ((f208 i hi).trans ((jnp i eσ184 (imp_350 i hi)).trans ((jnp i eσ183 (imp_350 i hi)).trans (jnp i eσ5 (imp_350 i hi)))))), (fun i hi => ((f209 i (imp_368 i hi)).trans ((jkp i eσ184 (imp_369 i hi)).trans ((jkp i eσ183 (imp_370 i hi)).trans (jkp i eσ5 (imp_371 i hi)))))), Or.inr (⟨trivial, (by omega), (by omega), (by omega), ⟨(by rw [show σ184 55 57 = a1 from (jsp eσ184), show (σ 70 a1.toNatClampNeg).toInt = 2 by omega, show A2 = 1 by omega]; rfl), (by rw [show (σ 70 a1.toNatClampNeg).toInt = 2 by omega, show A2 = 1 by omega]; exact ⟨(by rw [show σ206 55 55 = 2 from m211]; decide), (show σ206 85 0 = 10 from m212), (show σ206 85 1 = 1 from m213), trivial⟩)⟩⟩)⟩ hP hS dX12_act_79
       have kc202 := jne c202 t2 jz_1
       by_cases c221 : a2 = 2
       · have kc221 := jeq c221 t2 jz_2
         refine jtopr c221 ?_
         refine lv_tableIn (off := 49) (tgt := 80) hx hb dX12_act_31 (of_decide_eq_true rfl) (of_decide_eq_true rfl) (of_decide_eq_true rfl) (of_decide_eq_true rfl) ?_
         refine lv_aload_n hx hb dX12_act_80 rfl (lv_at hl 0 rfl) ?_
         refine lv_aload_n hx hb dX12_act_81 rfl (lv_at hl 0 rfl) ?_
         refine va_get (D := D) hx hb hts inlX12 hown hK hP 55 (jc_55 cI cL ad σ184 τ) rfl 56 (of_decide_eq_true rfl) (hts _ kw_49_8) (fun _ h9 => h9) rfl dX12_act_82 ?_
         have m222 : σ184 55 56 = 2 := ((jkp 56 eσ184 (of_decide_eq_true rfl)).trans (jsp eσ183))
         refine jtopr m222 ?_
         refine lv_iload_n hx hb dX12_act_85 rfl (lv_at hl 3 rfl) ?_
         have m223 : σ184 55 55 = 0 := ((jkp 55 eσ184 (of_decide_eq_true rfl)).trans ((jkp 55 eσ183 (of_decide_eq_true rfl)).trans (jsp eσ5)))
         have z224 : (σ184 55 56).toInt = 2 := ((congrArg Int32.toInt (show σ184 55 56 = 2 from m222)).trans jz_2)
         exact by
          refine jcallV (As := [.int 2, .int a3]) (rest := []) ⟨hx, hb, hml, hown, hts⟩ hK hP hA hS hZ (c_X12_givesAs_2_2_0 l D cI cL ad zz hJ σ184 τ a3 (A3) t3 m223 (by omega)) cw_RX12_394 (jc_55 cI cL ad σ184 τ) rfl ⟨Nat.le_of_ble_eq_true rfl, Nat.le_of_ble_eq_true rfl⟩ rfl rfl rfl hl.1 rfl (Nat.le_of_ble_eq_true rfl) dX12_act_86 ⟨Nat.zero_le _, Nat.zero_le _⟩ (fun r226 σ225 τ225 H locs h225 hP hS => ?_)
          obtain ⟨rfl, f227, f228, f229, m230, m231, m232, h225⟩ := h225
          have h234 := h225
          obtain ⟨q236, k235⟩ := h234
          have q236 := q236.symm
          subst q236
          have z237 : (σ225 55 55).toInt = 2 := ((congrArg Int32.toInt (show σ225 55 55 = 2 from m230)).trans jz_2)
          exact by exact hret ((a3 ^^^ (σ184 55 57)) * 3) σ225 τ _ _ _ _ rfl ⟨rfl, (fun i hi => ((f227 i hi).trans ((jnp i eσ184 (imp_350 i hi)).trans ((jnp i eσ183 (imp_350 i hi)).trans (jnp i eσ5 (imp_350 i hi)))))), (fun i hi => ((f228 i (imp_368 i hi)).trans ((jkp i eσ184 (imp_369 i hi)).trans ((jkp i eσ183 (imp_370 i hi)).trans (jkp i eσ5 (imp_371 i hi)))))), Or.inr (⟨trivial, (by omega), (by omega), (by omega), ⟨(by rw [show σ184 55 57 = a1 from (jsp eσ184), show (σ 70 a1.toNatClampNeg).toInt = 2 by omega, show A2 = 2 by omega]; rfl), (by rw [show (σ 70 a1.toNatClampNeg).toInt = 2 by omega, show A2 = 2 by omega]; exact ⟨(by rw [show σ225 55 55 = 2 from m230]; decide), (show σ225 85 0 = 30 from m231), (show σ225 85 1 = 11 from m232), trivial⟩)⟩⟩)⟩ hP hS dX12_act_89
       have kc221 := jne c221 t2 jz_2
       by_cases c240 : a2 = 3
       · have kc240 := jeq c240 t2 jz_3
         refine jtopr c240 ?_
         refine lv_tableIn (off := 59) (tgt := 90) hx hb dX12_act_31 (of_decide_eq_true rfl) (of_decide_eq_true rfl) (of_decide_eq_true rfl) (of_decide_eq_true rfl) ?_
         refine lv_aload_n hx hb dX12_act_90 rfl (lv_at hl 0 rfl) ?_
         refine lv_aload_n hx hb dX12_act_91 rfl (lv_at hl 0 rfl) ?_
         refine va_get (D := D) hx hb hts inlX12 hown hK hP 55 (jc_55 cI cL ad σ184 τ) rfl 56 (of_decide_eq_true rfl) (hts _ kw_49_8) (fun _ h9 => h9) rfl dX12_act_92 ?_
         have m241 : σ184 55 56 = 2 := ((jkp 56 eσ184 (of_decide_eq_true rfl)).trans (jsp eσ183))
         refine jtopr m241 ?_
         refine lv_iload_n hx hb dX12_act_95 rfl (lv_at hl 3 rfl) ?_
         have m242 : σ184 55 55 = 0 := ((jkp 55 eσ184 (of_decide_eq_true rfl)).trans ((jkp 55 eσ183 (of_decide_eq_true rfl)).trans (jsp eσ5)))
         have z243 : (σ184 55 56).toInt = 2 := ((congrArg Int32.toInt (show σ184 55 56 = 2 from m241)).trans jz_2)
         exact by
          refine jcallV (As := [.int 2, .int a3]) (rest := []) ⟨hx, hb, hml, hown, hts⟩ hK hP hA hS hZ (c_X12_tellsAs_2_2_0 l D cI cL ad zz hJ σ184 τ a3 (A3) t3 m242 (by omega)) cw_RX12_397 (jc_55 cI cL ad σ184 τ) rfl ⟨Nat.le_of_ble_eq_true rfl, Nat.le_of_ble_eq_true rfl⟩ rfl rfl rfl hl.1 rfl (Nat.le_of_ble_eq_true rfl) dX12_act_96 ⟨Nat.zero_le _, Nat.zero_le _⟩ (fun r245 σ244 τ244 H locs h244 hP hS => ?_)
          obtain ⟨rfl, f246, f247, f248, m249, m250, m251, m252, m253, m254, h244⟩ := h244
          have h256 := h244
          obtain ⟨q258, k257⟩ := h256
          have q258 := q258.symm
          subst q258
          have z259 : (σ244 55 55).toInt = 5 := ((congrArg Int32.toInt (show σ244 55 55 = 5 from m249)).trans jz_5)
          exact by exact hret (((a3 + (σ184 55 57)) * 2) - ((1 ^^^ (σ184 55 57)) * 3)) σ244 τ _ _ _ _ rfl ⟨rfl, (fun i hi => ((f246 i hi).trans ((jnp i eσ184 (imp_350 i hi)).trans ((jnp i eσ183 (imp_350 i hi)).trans (jnp i eσ5 (imp_350 i hi)))))), (fun i hi => ((f247 i (imp_368 i hi)).trans ((jkp i eσ184 (imp_369 i hi)).trans ((jkp i eσ183 (imp_370 i hi)).trans (jkp i eσ5 (imp_371 i hi)))))), Or.inr (⟨trivial, (by omega), (by omega), (by omega), ⟨(by rw [show σ184 55 57 = a1 from (jsp eσ184), show (σ 70 a1.toNatClampNeg).toInt = 2 by omega, show A2 = 3 by omega]; rfl), (by rw [show (σ 70 a1.toNatClampNeg).toInt = 2 by omega, show A2 = 3 by omega]; exact ⟨(by rw [show σ244 55 55 = 5 from m249]; decide), (show σ244 85 0 = 2 from m250), (show σ244 85 1 = 10 from m251), (show σ244 85 2 = 1 from m252), (show σ244 85 3 = 30 from m253), (show σ244 85 4 = 11 from m254), trivial⟩)⟩⟩)⟩ hP hS dX12_act_99
       have kc240 := jne c240 t2 jz_3
       exact by
        refine lv_tableOut (tgt := 100) hx hb dX12_act_31 (by rw [t2]; omega) (of_decide_eq_true rfl) ?_
        refine lv_iconst (v := 0) hx hb dX12_act_100 (of_decide_eq_true rfl) ?_
        have z265 : (σ184 55 55).toInt = 0 := ((congrArg Int32.toInt (show σ184 55 55 = 0 from ((jkp 55 eσ184 (of_decide_eq_true rfl)).trans ((jkp 55 eσ183 (of_decide_eq_true rfl)).trans (jsp eσ5))))).trans jz_0)
        exact by exact hret 0 σ184 τ _ _ _ _ rfl ⟨rfl, (fun i hi => ((jnp i eσ184 (imp_350 i hi)).trans ((jnp i eσ183 (imp_350 i hi)).trans (jnp i eσ5 (imp_350 i hi))))), (fun i hi => ((jkp i eσ184 (imp_369 i hi)).trans ((jkp i eσ183 (imp_370 i hi)).trans (jkp i eσ5 (imp_371 i hi))))), Or.inl ⟨rfl, (by have h9 := jz_0; omega), (by have h9 := jz_0; omega)⟩⟩ hP hS dX12_act_101
     have kc182 := jne c182 (rfl : (σ 70 a1.toNatClampNeg).toInt = (σ 70 a1.toNatClampNeg).toInt) jz_2
     by_cases c266 : (σ 70 a1.toNatClampNeg) = 3
     · have kc266 := jeq c266 (rfl : (σ 70 a1.toNatClampNeg).toInt = (σ 70 a1.toNatClampNeg).toInt) jz_3
       refine jtopr c266 ?_
       refine jput (ty := .int) hx hb hts inlX12 tyX12 tyX12_ok nmX12 hown hK hP hJ hA hS (jc_55 cI cL ad σ5 τ) rfl (k := 56) (of_decide_eq_true rfl) (Nat.le_of_ble_eq_true rfl) (jp_55_56 cI cL ad σ5 τ 3) (hts _ kw_49_8) (fun _ h9 => h9) rfl (by decide +kernel) rfl rfl dX12_act_22 (fun σ267 H locs eσ267 hP hS => ?_)
       refine lv_aload_n hx hb dX12_act_25 rfl (lv_at hl 0 rfl) ?_
       refine lv_iload_n hx hb dX12_act_26 rfl (lv_at hl 1 rfl) ?_
       refine jput (ty := .int) hx hb hts inlX12 tyX12 tyX12_ok nmX12 hown hK hP hJ hA hS (jc_55 cI cL ad σ267 τ) rfl (k := 57) (of_decide_eq_true rfl) (Nat.le_of_ble_eq_true rfl) (jp_55_57 cI cL ad σ267 τ a1) (hts _ kw_49_9) (fun _ h9 => h9) rfl (by decide +kernel) rfl rfl dX12_act_27 (fun σ268 H locs eσ268 hP hS => ?_)
       refine lv_iload_n hx hb dX12_act_30 rfl (lv_at hl 2 rfl) ?_
       by_cases c269 : a2 = 0
       · have kc269 := jeq c269 t2 jz_0
         refine jtopr c269 ?_
         refine lv_tableIn (off := 29) (tgt := 60) hx hb dX12_act_31 (of_decide_eq_true rfl) (of_decide_eq_true rfl) (of_decide_eq_true rfl) (of_decide_eq_true rfl) ?_
         refine lv_aload_n hx hb dX12_act_60 rfl (lv_at hl 0 rfl) ?_
         refine lv_aload_n hx hb dX12_act_61 rfl (lv_at hl 0 rfl) ?_
         refine va_get (D := D) hx hb hts inlX12 hown hK hP 55 (jc_55 cI cL ad σ268 τ) rfl 56 (of_decide_eq_true rfl) (hts _ kw_49_8) (fun _ h9 => h9) rfl dX12_act_62 ?_
         have m270 : σ268 55 56 = 3 := ((jkp 56 eσ268 (of_decide_eq_true rfl)).trans (jsp eσ267))
         refine jtopr m270 ?_
         refine lv_iload_n hx hb dX12_act_65 rfl (lv_at hl 3 rfl) ?_
         have m271 : σ268 55 55 = 0 := ((jkp 55 eσ268 (of_decide_eq_true rfl)).trans ((jkp 55 eσ267 (of_decide_eq_true rfl)).trans (jsp eσ5)))
         have z272 : (σ268 55 56).toInt = 3 := ((congrArg Int32.toInt (show σ268 55 56 = 3 from m270)).trans jz_3)
         exact by
          refine jcallV (As := [.int 3, .int a3]) (rest := []) ⟨hx, hb, hml, hown, hts⟩ hK hP hA hS hZ (c_X12_putsAs_3_3_0 l D cI cL ad zz hJ σ268 τ a3 (A3) t3 m271 (by omega)) cw_RX12_382 (jc_55 cI cL ad σ268 τ) rfl ⟨Nat.le_of_ble_eq_true rfl, Nat.le_of_ble_eq_true rfl⟩ rfl rfl rfl hl.1 rfl (Nat.le_of_ble_eq_true rfl) dX12_act_66 ⟨Nat.zero_le _, Nat.zero_le _⟩ (fun r274 σ273 τ273 H locs h273 hP hS => ?_)
          obtain ⟨rfl, f275, f276, f277, m278, m279, h273⟩ := h273
          have h281 := h273
          obtain ⟨q283, k282⟩ := h281
          have q283 := q283.symm
          subst q283
          have z284 : (σ273 55 55).toInt = 1 := ((congrArg Int32.toInt (show σ273 55 55 = 1 from m278)).trans jz_1)
          exact by exact hret (a3 + (σ268 55 57)) σ273 τ _ _ _ _ rfl ⟨rfl, (fun i hi => ((f275 i hi).trans ((jnp i eσ268 (imp_350 i hi)).trans ((jnp i eσ267 (imp_350 i hi)).trans (jnp i eσ5 (imp_350 i hi)))))), (fun i hi => ((f276 i (imp_368 i hi)).trans ((jkp i eσ268 (imp_369 i hi)).trans ((jkp i eσ267 (imp_370 i hi)).trans (jkp i eσ5 (imp_371 i hi)))))), Or.inr (⟨trivial, (by omega), (by omega), (by omega), ⟨(by rw [show σ268 55 57 = a1 from (jsp eσ268), show (σ 70 a1.toNatClampNeg).toInt = 3 by omega, show A2 = 0 by omega]; rfl), (by rw [show (σ 70 a1.toNatClampNeg).toInt = 3 by omega, show A2 = 0 by omega]; exact ⟨(by rw [show σ273 55 55 = 1 from m278]; decide), (show σ273 85 0 = 1 from m279), trivial⟩)⟩⟩)⟩ hP hS dX12_act_69
       have kc269 := jne c269 t2 jz_0
       by_cases c286 : a2 = 1
       · have kc286 := jeq c286 t2 jz_1
         refine jtopr c286 ?_
         refine lv_tableIn (off := 39) (tgt := 70) hx hb dX12_act_31 (of_decide_eq_true rfl) (of_decide_eq_true rfl) (of_decide_eq_true rfl) (of_decide_eq_true rfl) ?_
         refine lv_aload_n hx hb dX12_act_70 rfl (lv_at hl 0 rfl) ?_
         refine lv_aload_n hx hb dX12_act_71 rfl (lv_at hl 0 rfl) ?_
         refine va_get (D := D) hx hb hts inlX12 hown hK hP 55 (jc_55 cI cL ad σ268 τ) rfl 56 (of_decide_eq_true rfl) (hts _ kw_49_8) (fun _ h9 => h9) rfl dX12_act_72 ?_
         have m287 : σ268 55 56 = 3 := ((jkp 56 eσ268 (of_decide_eq_true rfl)).trans (jsp eσ267))
         refine jtopr m287 ?_
         refine lv_iload_n hx hb dX12_act_75 rfl (lv_at hl 3 rfl) ?_
         have m288 : σ268 55 55 = 0 := ((jkp 55 eσ268 (of_decide_eq_true rfl)).trans ((jkp 55 eσ267 (of_decide_eq_true rfl)).trans (jsp eσ5)))
         have z289 : (σ268 55 56).toInt = 3 := ((congrArg Int32.toInt (show σ268 55 56 = 3 from m287)).trans jz_3)
         exact by
          refine jcallV (As := [.int 3, .int a3]) (rest := []) ⟨hx, hb, hml, hown, hts⟩ hK hP hA hS hZ (c_X12_holdsAs_3_3_0 l D cI cL ad zz hJ σ268 τ a3 (A3) t3 m288 (by omega)) cw_RX12_388 (jc_55 cI cL ad σ268 τ) rfl ⟨Nat.le_of_ble_eq_true rfl, Nat.le_of_ble_eq_true rfl⟩ rfl rfl rfl hl.1 rfl (Nat.le_of_ble_eq_true rfl) dX12_act_76 ⟨Nat.zero_le _, Nat.zero_le _⟩ (fun r291 σ290 τ290 H locs h290 hP hS => ?_)
          obtain ⟨rfl, f292, f293, f294, m295, m296, m297, m298, h290⟩ := h290
          have h300 := h290
          obtain ⟨q302, k301⟩ := h300
          have q302 := q302.symm
          subst q302
          have z303 : (σ290 55 55).toInt = 3 := ((congrArg Int32.toInt (show σ290 55 55 = 3 from m295)).trans jz_3)
          exact by exact hret (-((a3 + (σ268 55 57)) * 2)) σ290 τ _ _ _ _ rfl ⟨rfl, (fun i hi => ((f292 i hi).trans ((jnp i eσ268 (imp_350 i hi)).trans ((jnp i eσ267 (imp_350 i hi)).trans (jnp i eσ5 (imp_350 i hi)))))), (fun i hi => ((f293 i (imp_368 i hi)).trans ((jkp i eσ268 (imp_369 i hi)).trans ((jkp i eσ267 (imp_370 i hi)).trans (jkp i eσ5 (imp_371 i hi)))))), Or.inr (⟨trivial, (by omega), (by omega), (by omega), ⟨(by rw [show σ268 55 57 = a1 from (jsp eσ268), show (σ 70 a1.toNatClampNeg).toInt = 3 by omega, show A2 = 1 by omega]; rfl), (by rw [show (σ 70 a1.toNatClampNeg).toInt = 3 by omega, show A2 = 1 by omega]; exact ⟨(by rw [show σ290 55 55 = 3 from m295]; decide), (show σ290 85 0 = 40 from m296), (show σ290 85 1 = 10 from m297), (show σ290 85 2 = 1 from m298), trivial⟩)⟩⟩)⟩ hP hS dX12_act_79
       have kc286 := jne c286 t2 jz_1
       by_cases c307 : a2 = 2
       · have kc307 := jeq c307 t2 jz_2
         refine jtopr c307 ?_
         refine lv_tableIn (off := 49) (tgt := 80) hx hb dX12_act_31 (of_decide_eq_true rfl) (of_decide_eq_true rfl) (of_decide_eq_true rfl) (of_decide_eq_true rfl) ?_
         refine lv_aload_n hx hb dX12_act_80 rfl (lv_at hl 0 rfl) ?_
         refine lv_aload_n hx hb dX12_act_81 rfl (lv_at hl 0 rfl) ?_
         refine va_get (D := D) hx hb hts inlX12 hown hK hP 55 (jc_55 cI cL ad σ268 τ) rfl 56 (of_decide_eq_true rfl) (hts _ kw_49_8) (fun _ h9 => h9) rfl dX12_act_82 ?_
         have m308 : σ268 55 56 = 3 := ((jkp 56 eσ268 (of_decide_eq_true rfl)).trans (jsp eσ267))
         refine jtopr m308 ?_
         refine lv_iload_n hx hb dX12_act_85 rfl (lv_at hl 3 rfl) ?_
         have m309 : σ268 55 55 = 0 := ((jkp 55 eσ268 (of_decide_eq_true rfl)).trans ((jkp 55 eσ267 (of_decide_eq_true rfl)).trans (jsp eσ5)))
         have z310 : (σ268 55 56).toInt = 3 := ((congrArg Int32.toInt (show σ268 55 56 = 3 from m308)).trans jz_3)
         exact by
          refine jcallV (As := [.int 3, .int a3]) (rest := []) ⟨hx, hb, hml, hown, hts⟩ hK hP hA hS hZ (c_X12_givesAs_3_3_0 l D cI cL ad zz hJ σ268 τ a3 (A3) t3 m309 (by omega)) cw_RX12_394 (jc_55 cI cL ad σ268 τ) rfl ⟨Nat.le_of_ble_eq_true rfl, Nat.le_of_ble_eq_true rfl⟩ rfl rfl rfl hl.1 rfl (Nat.le_of_ble_eq_true rfl) dX12_act_86 ⟨Nat.zero_le _, Nat.zero_le _⟩ (fun r312 σ311 τ311 H locs h311 hP hS => ?_)
          obtain ⟨rfl, f313, f314, f315, m316, m317, m318, h311⟩ := h311
          have h320 := h311
          obtain ⟨q322, k321⟩ := h320
          have q322 := q322.symm
          subst q322
          have z323 : (σ311 55 55).toInt = 2 := ((congrArg Int32.toInt (show σ311 55 55 = 2 from m316)).trans jz_2)
          exact by exact hret ((a3 ^^^ (σ268 55 57)) * 3) σ311 τ _ _ _ _ rfl ⟨rfl, (fun i hi => ((f313 i hi).trans ((jnp i eσ268 (imp_350 i hi)).trans ((jnp i eσ267 (imp_350 i hi)).trans (jnp i eσ5 (imp_350 i hi)))))), (fun i hi => ((f314 i (imp_368 i hi)).trans ((jkp i eσ268 (imp_369 i hi)).trans ((jkp i eσ267 (imp_370 i hi)).trans (jkp i eσ5 (imp_371 i hi)))))), Or.inr (⟨trivial, (by omega), (by omega), (by omega), ⟨(by rw [show σ268 55 57 = a1 from (jsp eσ268), show (σ 70 a1.toNatClampNeg).toInt = 3 by omega, show A2 = 2 by omega]; rfl), (by rw [show (σ 70 a1.toNatClampNeg).toInt = 3 by omega, show A2 = 2 by omega]; exact ⟨(by rw [show σ311 55 55 = 2 from m316]; decide), (show σ311 85 0 = 30 from m317), (show σ311 85 1 = 11 from m318), trivial⟩)⟩⟩)⟩ hP hS dX12_act_89
       have kc307 := jne c307 t2 jz_2
       by_cases c326 : a2 = 3
       · have kc326 := jeq c326 t2 jz_3
         refine jtopr c326 ?_
         refine lv_tableIn (off := 59) (tgt := 90) hx hb dX12_act_31 (of_decide_eq_true rfl) (of_decide_eq_true rfl) (of_decide_eq_true rfl) (of_decide_eq_true rfl) ?_
         refine lv_aload_n hx hb dX12_act_90 rfl (lv_at hl 0 rfl) ?_
         refine lv_aload_n hx hb dX12_act_91 rfl (lv_at hl 0 rfl) ?_
         refine va_get (D := D) hx hb hts inlX12 hown hK hP 55 (jc_55 cI cL ad σ268 τ) rfl 56 (of_decide_eq_true rfl) (hts _ kw_49_8) (fun _ h9 => h9) rfl dX12_act_92 ?_
         have m327 : σ268 55 56 = 3 := ((jkp 56 eσ268 (of_decide_eq_true rfl)).trans (jsp eσ267))
         refine jtopr m327 ?_
         refine lv_iload_n hx hb dX12_act_95 rfl (lv_at hl 3 rfl) ?_
         have m328 : σ268 55 55 = 0 := ((jkp 55 eσ268 (of_decide_eq_true rfl)).trans ((jkp 55 eσ267 (of_decide_eq_true rfl)).trans (jsp eσ5)))
         have z329 : (σ268 55 56).toInt = 3 := ((congrArg Int32.toInt (show σ268 55 56 = 3 from m327)).trans jz_3)
         exact by
          refine jcallV (As := [.int 3, .int a3]) (rest := []) ⟨hx, hb, hml, hown, hts⟩ hK hP hA hS hZ (c_X12_tellsAs_3_3_0 l D cI cL ad zz hJ σ268 τ a3 (A3) t3 m328 (by omega)) cw_RX12_397 (jc_55 cI cL ad σ268 τ) rfl ⟨Nat.le_of_ble_eq_true rfl, Nat.le_of_ble_eq_true rfl⟩ rfl rfl rfl hl.1 rfl (Nat.le_of_ble_eq_true rfl) dX12_act_96 ⟨Nat.zero_le _, Nat.zero_le _⟩ (fun r331 σ330 τ330 H locs h330 hP hS => ?_)
          obtain ⟨rfl, f332, f333, f334, m335, m336, m337, m338, m339, m340, m341, h330⟩ := h330
          have h343 := h330
          obtain ⟨q345, k344⟩ := h343
          have q345 := q345.symm
          subst q345
          have z346 : (σ330 55 55).toInt = 6 := ((congrArg Int32.toInt (show σ330 55 55 = 6 from m335)).trans jz_6)
          exact by exact hret ((-((a3 + (σ268 55 57)) * 2)) - ((1 ^^^ (σ268 55 57)) * 3)) σ330 τ _ _ _ _ rfl ⟨rfl, (fun i hi => ((f332 i hi).trans ((jnp i eσ268 (imp_350 i hi)).trans ((jnp i eσ267 (imp_350 i hi)).trans (jnp i eσ5 (imp_350 i hi)))))), (fun i hi => ((f333 i (imp_368 i hi)).trans ((jkp i eσ268 (imp_369 i hi)).trans ((jkp i eσ267 (imp_370 i hi)).trans (jkp i eσ5 (imp_371 i hi)))))), Or.inr (⟨trivial, (by omega), (by omega), (by omega), ⟨(by rw [show σ268 55 57 = a1 from (jsp eσ268), show (σ 70 a1.toNatClampNeg).toInt = 3 by omega, show A2 = 3 by omega]; rfl), (by rw [show (σ 70 a1.toNatClampNeg).toInt = 3 by omega, show A2 = 3 by omega]; exact ⟨(by rw [show σ330 55 55 = 6 from m335]; decide), (show σ330 85 0 = 2 from m336), (show σ330 85 1 = 40 from m337), (show σ330 85 2 = 10 from m338), (show σ330 85 3 = 1 from m339), (show σ330 85 4 = 30 from m340), (show σ330 85 5 = 11 from m341), trivial⟩)⟩⟩)⟩ hP hS dX12_act_99
       have kc326 := jne c326 t2 jz_3
       exact by
        refine lv_tableOut (tgt := 100) hx hb dX12_act_31 (by rw [t2]; omega) (of_decide_eq_true rfl) ?_
        refine lv_iconst (v := 0) hx hb dX12_act_100 (of_decide_eq_true rfl) ?_
        have z353 : (σ268 55 55).toInt = 0 := ((congrArg Int32.toInt (show σ268 55 55 = 0 from ((jkp 55 eσ268 (of_decide_eq_true rfl)).trans ((jkp 55 eσ267 (of_decide_eq_true rfl)).trans (jsp eσ5))))).trans jz_0)
        exact by exact hret 0 σ268 τ _ _ _ _ rfl ⟨rfl, (fun i hi => ((jnp i eσ268 (imp_350 i hi)).trans ((jnp i eσ267 (imp_350 i hi)).trans (jnp i eσ5 (imp_350 i hi))))), (fun i hi => ((jkp i eσ268 (imp_369 i hi)).trans ((jkp i eσ267 (imp_370 i hi)).trans (jkp i eσ5 (imp_371 i hi))))), Or.inl ⟨rfl, (by have h9 := jz_0; omega), (by have h9 := jz_0; omega)⟩⟩ hP hS dX12_act_101
     have kc266 := jne c266 (rfl : (σ 70 a1.toNatClampNeg).toInt = (σ 70 a1.toNatClampNeg).toInt) jz_3
     by_cases c354 : (σ 70 a1.toNatClampNeg) = 4
     · have kc354 := jeq c354 (rfl : (σ 70 a1.toNatClampNeg).toInt = (σ 70 a1.toNatClampNeg).toInt) jz_4
       refine jtopr c354 ?_
       refine jput (ty := .int) hx hb hts inlX12 tyX12 tyX12_ok nmX12 hown hK hP hJ hA hS (jc_55 cI cL ad σ5 τ) rfl (k := 56) (of_decide_eq_true rfl) (Nat.le_of_ble_eq_true rfl) (jp_55_56 cI cL ad σ5 τ 4) (hts _ kw_49_8) (fun _ h9 => h9) rfl (by decide +kernel) rfl rfl dX12_act_22 (fun σ355 H locs eσ355 hP hS => ?_)
       refine lv_aload_n hx hb dX12_act_25 rfl (lv_at hl 0 rfl) ?_
       refine lv_iload_n hx hb dX12_act_26 rfl (lv_at hl 1 rfl) ?_
       refine jput (ty := .int) hx hb hts inlX12 tyX12 tyX12_ok nmX12 hown hK hP hJ hA hS (jc_55 cI cL ad σ355 τ) rfl (k := 57) (of_decide_eq_true rfl) (Nat.le_of_ble_eq_true rfl) (jp_55_57 cI cL ad σ355 τ a1) (hts _ kw_49_9) (fun _ h9 => h9) rfl (by decide +kernel) rfl rfl dX12_act_27 (fun σ356 H locs eσ356 hP hS => ?_)
       refine lv_iload_n hx hb dX12_act_30 rfl (lv_at hl 2 rfl) ?_
       by_cases c357 : a2 = 0
       · have kc357 := jeq c357 t2 jz_0
         refine jtopr c357 ?_
         refine lv_tableIn (off := 29) (tgt := 60) hx hb dX12_act_31 (of_decide_eq_true rfl) (of_decide_eq_true rfl) (of_decide_eq_true rfl) (of_decide_eq_true rfl) ?_
         refine lv_aload_n hx hb dX12_act_60 rfl (lv_at hl 0 rfl) ?_
         refine lv_aload_n hx hb dX12_act_61 rfl (lv_at hl 0 rfl) ?_
         refine va_get (D := D) hx hb hts inlX12 hown hK hP 55 (jc_55 cI cL ad σ356 τ) rfl 56 (of_decide_eq_true rfl) (hts _ kw_49_8) (fun _ h9 => h9) rfl dX12_act_62 ?_
         have m358 : σ356 55 56 = 4 := ((jkp 56 eσ356 (of_decide_eq_true rfl)).trans (jsp eσ355))
         refine jtopr m358 ?_
         refine lv_iload_n hx hb dX12_act_65 rfl (lv_at hl 3 rfl) ?_
         have m359 : σ356 55 55 = 0 := ((jkp 55 eσ356 (of_decide_eq_true rfl)).trans ((jkp 55 eσ355 (of_decide_eq_true rfl)).trans (jsp eσ5)))
         have z360 : (σ356 55 56).toInt = 4 := ((congrArg Int32.toInt (show σ356 55 56 = 4 from m358)).trans jz_4)
         exact by
          refine jcallV (As := [.int 4, .int a3]) (rest := []) ⟨hx, hb, hml, hown, hts⟩ hK hP hA hS hZ (c_X12_putsAs_4_4_0 l D cI cL ad zz hJ σ356 τ a3 (A3) t3 m359 (by omega)) cw_RX12_382 (jc_55 cI cL ad σ356 τ) rfl ⟨Nat.le_of_ble_eq_true rfl, Nat.le_of_ble_eq_true rfl⟩ rfl rfl rfl hl.1 rfl (Nat.le_of_ble_eq_true rfl) dX12_act_66 ⟨Nat.zero_le _, Nat.zero_le _⟩ (fun r362 σ361 τ361 H locs h361 hP hS => ?_)
          obtain ⟨rfl, f363, f364, f365, m366, m367, m368, m369, h361⟩ := h361
          have h371 := h361
          obtain ⟨q373, k372⟩ := h371
          have q373 := q373.symm
          subst q373
          have z374 : (σ361 55 55).toInt = 3 := ((congrArg Int32.toInt (show σ361 55 55 = 3 from m366)).trans jz_3)
          exact by exact hret (((a3 + 1) + (σ356 55 57)) + 3) σ361 τ _ _ _ _ rfl ⟨rfl, (fun i hi => ((f363 i hi).trans ((jnp i eσ356 (imp_350 i hi)).trans ((jnp i eσ355 (imp_350 i hi)).trans (jnp i eσ5 (imp_350 i hi)))))), (fun i hi => ((f364 i (imp_368 i hi)).trans ((jkp i eσ356 (imp_369 i hi)).trans ((jkp i eσ355 (imp_370 i hi)).trans (jkp i eσ5 (imp_371 i hi)))))), Or.inr (⟨trivial, (by omega), (by omega), (by omega), ⟨(by rw [show σ356 55 57 = a1 from (jsp eσ356), show (σ 70 a1.toNatClampNeg).toInt = 4 by omega, show A2 = 0 by omega]; rfl), (by rw [show (σ 70 a1.toNatClampNeg).toInt = 4 by omega, show A2 = 0 by omega]; exact ⟨(by rw [show σ361 55 55 = 3 from m366]; decide), (show σ361 85 0 = 50 from m367), (show σ361 85 1 = 20 from m368), (show σ361 85 2 = 1 from m369), trivial⟩)⟩⟩)⟩ hP hS dX12_act_69
       have kc357 := jne c357 t2 jz_0
       by_cases c378 : a2 = 1
       · have kc378 := jeq c378 t2 jz_1
         refine jtopr c378 ?_
         refine lv_tableIn (off := 39) (tgt := 70) hx hb dX12_act_31 (of_decide_eq_true rfl) (of_decide_eq_true rfl) (of_decide_eq_true rfl) (of_decide_eq_true rfl) ?_
         refine lv_aload_n hx hb dX12_act_70 rfl (lv_at hl 0 rfl) ?_
         refine lv_aload_n hx hb dX12_act_71 rfl (lv_at hl 0 rfl) ?_
         refine va_get (D := D) hx hb hts inlX12 hown hK hP 55 (jc_55 cI cL ad σ356 τ) rfl 56 (of_decide_eq_true rfl) (hts _ kw_49_8) (fun _ h9 => h9) rfl dX12_act_72 ?_
         have m379 : σ356 55 56 = 4 := ((jkp 56 eσ356 (of_decide_eq_true rfl)).trans (jsp eσ355))
         refine jtopr m379 ?_
         refine lv_iload_n hx hb dX12_act_75 rfl (lv_at hl 3 rfl) ?_
         have m380 : σ356 55 55 = 0 := ((jkp 55 eσ356 (of_decide_eq_true rfl)).trans ((jkp 55 eσ355 (of_decide_eq_true rfl)).trans (jsp eσ5)))
         have z381 : (σ356 55 56).toInt = 4 := ((congrArg Int32.toInt (show σ356 55 56 = 4 from m379)).trans jz_4)
         exact by
          refine jcallV (As := [.int 4, .int a3]) (rest := []) ⟨hx, hb, hml, hown, hts⟩ hK hP hA hS hZ (c_X12_holdsAs_4_4_0 l D cI cL ad zz hJ σ356 τ a3 (A3) t3 m380 (by omega)) cw_RX12_388 (jc_55 cI cL ad σ356 τ) rfl ⟨Nat.le_of_ble_eq_true rfl, Nat.le_of_ble_eq_true rfl⟩ rfl rfl rfl hl.1 rfl (Nat.le_of_ble_eq_true rfl) dX12_act_76 ⟨Nat.zero_le _, Nat.zero_le _⟩ (fun r383 σ382 τ382 H locs h382 hP hS => ?_)
          obtain ⟨rfl, f384, f385, f386, m387, m388, m389, m390, m391, h382⟩ := h382
          have h393 := h382
          obtain ⟨q395, k394⟩ := h393
          have q395 := q395.symm
          subst q395
          have z396 : (σ382 55 55).toInt = 4 := ((congrArg Int32.toInt (show σ382 55 55 = 4 from m387)).trans jz_4)
          exact by exact hret ((((a3 + 1) + (σ356 55 57)) + 3) * 2) σ382 τ _ _ _ _ rfl ⟨rfl, (fun i hi => ((f384 i hi).trans ((jnp i eσ356 (imp_350 i hi)).trans ((jnp i eσ355 (imp_350 i hi)).trans (jnp i eσ5 (imp_350 i hi)))))), (fun i hi => ((f385 i (imp_368 i hi)).trans ((jkp i eσ356 (imp_369 i hi)).trans ((jkp i eσ355 (imp_370 i hi)).trans (jkp i eσ5 (imp_371 i hi)))))), Or.inr (⟨trivial, (by omega), (by omega), (by omega), ⟨(by rw [show σ356 55 57 = a1 from (jsp eσ356), show (σ 70 a1.toNatClampNeg).toInt = 4 by omega, show A2 = 1 by omega]; rfl), (by rw [show (σ 70 a1.toNatClampNeg).toInt = 4 by omega, show A2 = 1 by omega]; exact ⟨(by rw [show σ382 55 55 = 4 from m387]; decide), (show σ382 85 0 = 10 from m388), (show σ382 85 1 = 50 from m389), (show σ382 85 2 = 20 from m390), (show σ382 85 3 = 1 from m391), trivial⟩)⟩⟩)⟩ hP hS dX12_act_79
       have kc378 := jne c378 t2 jz_1
       by_cases c401 : a2 = 2
       · have kc401 := jeq c401 t2 jz_2
         refine jtopr c401 ?_
         refine lv_tableIn (off := 49) (tgt := 80) hx hb dX12_act_31 (of_decide_eq_true rfl) (of_decide_eq_true rfl) (of_decide_eq_true rfl) (of_decide_eq_true rfl) ?_
         refine lv_aload_n hx hb dX12_act_80 rfl (lv_at hl 0 rfl) ?_
         refine lv_aload_n hx hb dX12_act_81 rfl (lv_at hl 0 rfl) ?_
         refine va_get (D := D) hx hb hts inlX12 hown hK hP 55 (jc_55 cI cL ad σ356 τ) rfl 56 (of_decide_eq_true rfl) (hts _ kw_49_8) (fun _ h9 => h9) rfl dX12_act_82 ?_
         have m402 : σ356 55 56 = 4 := ((jkp 56 eσ356 (of_decide_eq_true rfl)).trans (jsp eσ355))
         refine jtopr m402 ?_
         refine lv_iload_n hx hb dX12_act_85 rfl (lv_at hl 3 rfl) ?_
         have m403 : σ356 55 55 = 0 := ((jkp 55 eσ356 (of_decide_eq_true rfl)).trans ((jkp 55 eσ355 (of_decide_eq_true rfl)).trans (jsp eσ5)))
         have z404 : (σ356 55 56).toInt = 4 := ((congrArg Int32.toInt (show σ356 55 56 = 4 from m402)).trans jz_4)
         exact by
          refine jcallV (As := [.int 4, .int a3]) (rest := []) ⟨hx, hb, hml, hown, hts⟩ hK hP hA hS hZ (c_X12_givesAs_4_4_0 l D cI cL ad zz hJ σ356 τ a3 (A3) t3 m403 (by omega)) cw_RX12_394 (jc_55 cI cL ad σ356 τ) rfl ⟨Nat.le_of_ble_eq_true rfl, Nat.le_of_ble_eq_true rfl⟩ rfl rfl rfl hl.1 rfl (Nat.le_of_ble_eq_true rfl) dX12_act_86 ⟨Nat.zero_le _, Nat.zero_le _⟩ (fun r406 σ405 τ405 H locs h405 hP hS => ?_)
          obtain ⟨rfl, f407, f408, f409, m410, m411, h405⟩ := h405
          have h413 := h405
          obtain ⟨q415, k414⟩ := h413
          have q415 := q415.symm
          subst q415
          have z416 : (σ405 55 55).toInt = 1 := ((congrArg Int32.toInt (show σ405 55 55 = 1 from m410)).trans jz_1)
          exact by exact hret (a3 ^^^ (σ356 55 57)) σ405 τ _ _ _ _ rfl ⟨rfl, (fun i hi => ((f407 i hi).trans ((jnp i eσ356 (imp_350 i hi)).trans ((jnp i eσ355 (imp_350 i hi)).trans (jnp i eσ5 (imp_350 i hi)))))), (fun i hi => ((f408 i (imp_368 i hi)).trans ((jkp i eσ356 (imp_369 i hi)).trans ((jkp i eσ355 (imp_370 i hi)).trans (jkp i eσ5 (imp_371 i hi)))))), Or.inr (⟨trivial, (by omega), (by omega), (by omega), ⟨(by rw [show σ356 55 57 = a1 from (jsp eσ356), show (σ 70 a1.toNatClampNeg).toInt = 4 by omega, show A2 = 2 by omega]; rfl), (by rw [show (σ 70 a1.toNatClampNeg).toInt = 4 by omega, show A2 = 2 by omega]; exact ⟨(by rw [show σ405 55 55 = 1 from m410]; decide), (show σ405 85 0 = 11 from m411), trivial⟩)⟩⟩)⟩ hP hS dX12_act_89
       have kc401 := jne c401 t2 jz_2
       by_cases c418 : a2 = 3
       · have kc418 := jeq c418 t2 jz_3
         refine jtopr c418 ?_
         refine lv_tableIn (off := 59) (tgt := 90) hx hb dX12_act_31 (of_decide_eq_true rfl) (of_decide_eq_true rfl) (of_decide_eq_true rfl) (of_decide_eq_true rfl) ?_
         refine lv_aload_n hx hb dX12_act_90 rfl (lv_at hl 0 rfl) ?_
         refine lv_aload_n hx hb dX12_act_91 rfl (lv_at hl 0 rfl) ?_
         refine va_get (D := D) hx hb hts inlX12 hown hK hP 55 (jc_55 cI cL ad σ356 τ) rfl 56 (of_decide_eq_true rfl) (hts _ kw_49_8) (fun _ h9 => h9) rfl dX12_act_92 ?_
         have m419 : σ356 55 56 = 4 := ((jkp 56 eσ356 (of_decide_eq_true rfl)).trans (jsp eσ355))
         refine jtopr m419 ?_
         refine lv_iload_n hx hb dX12_act_95 rfl (lv_at hl 3 rfl) ?_
         have m420 : σ356 55 55 = 0 := ((jkp 55 eσ356 (of_decide_eq_true rfl)).trans ((jkp 55 eσ355 (of_decide_eq_true rfl)).trans (jsp eσ5)))
         have z421 : (σ356 55 56).toInt = 4 := ((congrArg Int32.toInt (show σ356 55 56 = 4 from m419)).trans jz_4)
         exact by
          refine jcallV (As := [.int 4, .int a3]) (rest := []) ⟨hx, hb, hml, hown, hts⟩ hK hP hA hS hZ (c_X12_tellsAs_4_4_0 l D cI cL ad zz hJ σ356 τ a3 (A3) t3 m420 (by omega)) cw_RX12_397 (jc_55 cI cL ad σ356 τ) rfl ⟨Nat.le_of_ble_eq_true rfl, Nat.le_of_ble_eq_true rfl⟩ rfl rfl rfl hl.1 rfl (Nat.le_of_ble_eq_true rfl) dX12_act_96 ⟨Nat.zero_le _, Nat.zero_le _⟩ (fun r423 σ422 τ422 H locs h422 hP hS => ?_)
          obtain ⟨rfl, f424, f425, f426, m427, m428, m429, m430, m431, m432, m433, m434, h422⟩ := h422
          have h436 := h422
          obtain ⟨q438, k437⟩ := h436
          have q438 := q438.symm
          subst q438
          have z439 : (σ422 55 55).toInt = 7 := ((congrArg Int32.toInt (show σ422 55 55 = 7 from m427)).trans jz_7)
          exact by exact hret ((((((a3 + 1) + (σ356 55 57)) + 3) * 2) - (1 ^^^ (σ356 55 57))) ^^^ 5) σ422 τ _ _ _ _ rfl ⟨rfl, (fun i hi => ((f424 i hi).trans ((jnp i eσ356 (imp_350 i hi)).trans ((jnp i eσ355 (imp_350 i hi)).trans (jnp i eσ5 (imp_350 i hi)))))), (fun i hi => ((f425 i (imp_368 i hi)).trans ((jkp i eσ356 (imp_369 i hi)).trans ((jkp i eσ355 (imp_370 i hi)).trans (jkp i eσ5 (imp_371 i hi)))))), Or.inr (⟨trivial, (by omega), (by omega), (by omega), ⟨(by rw [show σ356 55 57 = a1 from (jsp eσ356), show (σ 70 a1.toNatClampNeg).toInt = 4 by omega, show A2 = 3 by omega]; rfl), (by rw [show (σ 70 a1.toNatClampNeg).toInt = 4 by omega, show A2 = 3 by omega]; exact ⟨(by rw [show σ422 55 55 = 7 from m427]; decide), (show σ422 85 0 = 51 from m428), (show σ422 85 1 = 2 from m429), (show σ422 85 2 = 10 from m430), (show σ422 85 3 = 50 from m431), (show σ422 85 4 = 20 from m432), (show σ422 85 5 = 1 from m433), (show σ422 85 6 = 11 from m434), trivial⟩)⟩⟩)⟩ hP hS dX12_act_99
       have kc418 := jne c418 t2 jz_3
       exact by
        refine lv_tableOut (tgt := 100) hx hb dX12_act_31 (by rw [t2]; omega) (of_decide_eq_true rfl) ?_
        refine lv_iconst (v := 0) hx hb dX12_act_100 (of_decide_eq_true rfl) ?_
        have z447 : (σ356 55 55).toInt = 0 := ((congrArg Int32.toInt (show σ356 55 55 = 0 from ((jkp 55 eσ356 (of_decide_eq_true rfl)).trans ((jkp 55 eσ355 (of_decide_eq_true rfl)).trans (jsp eσ5))))).trans jz_0)
        exact by exact hret 0 σ356 τ _ _ _ _ rfl ⟨rfl, (fun i hi => ((jnp i eσ356 (imp_350 i hi)).trans ((jnp i eσ355 (imp_350 i hi)).trans (jnp i eσ5 (imp_350 i hi))))), (fun i hi => ((jkp i eσ356 (imp_369 i hi)).trans ((jkp i eσ355 (imp_370 i hi)).trans (jkp i eσ5 (imp_371 i hi))))), Or.inl ⟨rfl, (by have h9 := jz_0; omega), (by have h9 := jz_0; omega)⟩⟩ hP hS dX12_act_101
     have kc354 := jne c354 (rfl : (σ 70 a1.toNatClampNeg).toInt = (σ 70 a1.toNatClampNeg).toInt) jz_4
     by_cases c448 : (σ 70 a1.toNatClampNeg) = 5
     · have kc448 := jeq c448 (rfl : (σ 70 a1.toNatClampNeg).toInt = (σ 70 a1.toNatClampNeg).toInt) jz_5
       refine jtopr c448 ?_
       refine jput (ty := .int) hx hb hts inlX12 tyX12 tyX12_ok nmX12 hown hK hP hJ hA hS (jc_55 cI cL ad σ5 τ) rfl (k := 56) (of_decide_eq_true rfl) (Nat.le_of_ble_eq_true rfl) (jp_55_56 cI cL ad σ5 τ 5) (hts _ kw_49_8) (fun _ h9 => h9) rfl (by decide +kernel) rfl rfl dX12_act_22 (fun σ449 H locs eσ449 hP hS => ?_)
       refine lv_aload_n hx hb dX12_act_25 rfl (lv_at hl 0 rfl) ?_
       refine lv_iload_n hx hb dX12_act_26 rfl (lv_at hl 1 rfl) ?_
       refine jput (ty := .int) hx hb hts inlX12 tyX12 tyX12_ok nmX12 hown hK hP hJ hA hS (jc_55 cI cL ad σ449 τ) rfl (k := 57) (of_decide_eq_true rfl) (Nat.le_of_ble_eq_true rfl) (jp_55_57 cI cL ad σ449 τ a1) (hts _ kw_49_9) (fun _ h9 => h9) rfl (by decide +kernel) rfl rfl dX12_act_27 (fun σ450 H locs eσ450 hP hS => ?_)
       refine lv_iload_n hx hb dX12_act_30 rfl (lv_at hl 2 rfl) ?_
       by_cases c451 : a2 = 0
       · have kc451 := jeq c451 t2 jz_0
         refine jtopr c451 ?_
         refine lv_tableIn (off := 29) (tgt := 60) hx hb dX12_act_31 (of_decide_eq_true rfl) (of_decide_eq_true rfl) (of_decide_eq_true rfl) (of_decide_eq_true rfl) ?_
         refine lv_aload_n hx hb dX12_act_60 rfl (lv_at hl 0 rfl) ?_
         refine lv_aload_n hx hb dX12_act_61 rfl (lv_at hl 0 rfl) ?_
         refine va_get (D := D) hx hb hts inlX12 hown hK hP 55 (jc_55 cI cL ad σ450 τ) rfl 56 (of_decide_eq_true rfl) (hts _ kw_49_8) (fun _ h9 => h9) rfl dX12_act_62 ?_
         have m452 : σ450 55 56 = 5 := ((jkp 56 eσ450 (of_decide_eq_true rfl)).trans (jsp eσ449))
         refine jtopr m452 ?_
         refine lv_iload_n hx hb dX12_act_65 rfl (lv_at hl 3 rfl) ?_
         have m453 : σ450 55 55 = 0 := ((jkp 55 eσ450 (of_decide_eq_true rfl)).trans ((jkp 55 eσ449 (of_decide_eq_true rfl)).trans (jsp eσ5)))
         have z454 : (σ450 55 56).toInt = 5 := ((congrArg Int32.toInt (show σ450 55 56 = 5 from m452)).trans jz_5)
         exact by
          refine jcallV (As := [.int 5, .int a3]) (rest := []) ⟨hx, hb, hml, hown, hts⟩ hK hP hA hS hZ (c_X12_putsAs_5_5_0 l D cI cL ad zz hJ σ450 τ a3 (A3) t3 m453 (by omega)) cw_RX12_382 (jc_55 cI cL ad σ450 τ) rfl ⟨Nat.le_of_ble_eq_true rfl, Nat.le_of_ble_eq_true rfl⟩ rfl rfl rfl hl.1 rfl (Nat.le_of_ble_eq_true rfl) dX12_act_66 ⟨Nat.zero_le _, Nat.zero_le _⟩ (fun r456 σ455 τ455 H locs h455 hP hS => ?_)
          obtain ⟨rfl, f457, f458, f459, m460, m461, h455⟩ := h455
          have h463 := h455
          obtain ⟨q465, k464⟩ := h463
          have q465 := q465.symm
          subst q465
          have z466 : (σ455 55 55).toInt = 1 := ((congrArg Int32.toInt (show σ455 55 55 = 1 from m460)).trans jz_1)
          exact by exact hret (a3 + (σ450 55 57)) σ455 τ _ _ _ _ rfl ⟨rfl, (fun i hi => ((f457 i hi).trans ((jnp i eσ450 (imp_350 i hi)).trans ((jnp i eσ449 (imp_350 i hi)).trans (jnp i eσ5 (imp_350 i hi)))))), (fun i hi => ((f458 i (imp_368 i hi)).trans ((jkp i eσ450 (imp_369 i hi)).trans ((jkp i eσ449 (imp_370 i hi)).trans (jkp i eσ5 (imp_371 i hi)))))), Or.inr (⟨trivial, (by omega), (by omega), (by omega), ⟨(by rw [show σ450 55 57 = a1 from (jsp eσ450), show (σ 70 a1.toNatClampNeg).toInt = 5 by omega, show A2 = 0 by omega]; rfl), (by rw [show (σ 70 a1.toNatClampNeg).toInt = 5 by omega, show A2 = 0 by omega]; exact ⟨(by rw [show σ455 55 55 = 1 from m460]; decide), (show σ455 85 0 = 1 from m461), trivial⟩)⟩⟩)⟩ hP hS dX12_act_69
       have kc451 := jne c451 t2 jz_0
       by_cases c468 : a2 = 1
       · have kc468 := jeq c468 t2 jz_1
         refine jtopr c468 ?_
         refine lv_tableIn (off := 39) (tgt := 70) hx hb dX12_act_31 (of_decide_eq_true rfl) (of_decide_eq_true rfl) (of_decide_eq_true rfl) (of_decide_eq_true rfl) ?_
         refine lv_aload_n hx hb dX12_act_70 rfl (lv_at hl 0 rfl) ?_
         refine lv_aload_n hx hb dX12_act_71 rfl (lv_at hl 0 rfl) ?_
         refine va_get (D := D) hx hb hts inlX12 hown hK hP 55 (jc_55 cI cL ad σ450 τ) rfl 56 (of_decide_eq_true rfl) (hts _ kw_49_8) (fun _ h9 => h9) rfl dX12_act_72 ?_
         have m469 : σ450 55 56 = 5 := ((jkp 56 eσ450 (of_decide_eq_true rfl)).trans (jsp eσ449))
         refine jtopr m469 ?_
         refine lv_iload_n hx hb dX12_act_75 rfl (lv_at hl 3 rfl) ?_
         have m470 : σ450 55 55 = 0 := ((jkp 55 eσ450 (of_decide_eq_true rfl)).trans ((jkp 55 eσ449 (of_decide_eq_true rfl)).trans (jsp eσ5)))
         have z471 : (σ450 55 56).toInt = 5 := ((congrArg Int32.toInt (show σ450 55 56 = 5 from m469)).trans jz_5)
         exact by
          refine jcallV (As := [.int 5, .int a3]) (rest := []) ⟨hx, hb, hml, hown, hts⟩ hK hP hA hS hZ (c_X12_holdsAs_5_5_0 l D cI cL ad zz hJ σ450 τ a3 (A3) t3 m470 (by omega)) cw_RX12_388 (jc_55 cI cL ad σ450 τ) rfl ⟨Nat.le_of_ble_eq_true rfl, Nat.le_of_ble_eq_true rfl⟩ rfl rfl rfl hl.1 rfl (Nat.le_of_ble_eq_true rfl) dX12_act_76 ⟨Nat.zero_le _, Nat.zero_le _⟩ (fun r473 σ472 τ472 H locs h472 hP hS => ?_)
          obtain ⟨rfl, f474, f475, f476, m477, m478, m479, m480, h472⟩ := h472
          have h482 := h472
          obtain ⟨q484, k483⟩ := h482
          have q484 := q484.symm
          subst q484
          have z485 : (σ472 55 55).toInt = 3 := ((congrArg Int32.toInt (show σ472 55 55 = 3 from m477)).trans jz_3)
          exact by exact hret (-((a3 + (σ450 55 57)) * 2)) σ472 τ _ _ _ _ rfl ⟨rfl, (fun i hi => ((f474 i hi).trans ((jnp i eσ450 (imp_350 i hi)).trans ((jnp i eσ449 (imp_350 i hi)).trans (jnp i eσ5 (imp_350 i hi)))))), (fun i hi => ((f475 i (imp_368 i hi)).trans ((jkp i eσ450 (imp_369 i hi)).trans ((jkp i eσ449 (imp_370 i hi)).trans (jkp i eσ5 (imp_371 i hi)))))), Or.inr (⟨trivial, (by omega), (by omega), (by omega), ⟨(by rw [show σ450 55 57 = a1 from (jsp eσ450), show (σ 70 a1.toNatClampNeg).toInt = 5 by omega, show A2 = 1 by omega]; rfl), (by rw [show (σ 70 a1.toNatClampNeg).toInt = 5 by omega, show A2 = 1 by omega]; exact ⟨(by rw [show σ472 55 55 = 3 from m477]; decide), (show σ472 85 0 = 40 from m478), (show σ472 85 1 = 10 from m479), (show σ472 85 2 = 1 from m480), trivial⟩)⟩⟩)⟩ hP hS dX12_act_79
       have kc468 := jne c468 t2 jz_1
       by_cases c489 : a2 = 2
       · have kc489 := jeq c489 t2 jz_2
         refine jtopr c489 ?_
         refine lv_tableIn (off := 49) (tgt := 80) hx hb dX12_act_31 (of_decide_eq_true rfl) (of_decide_eq_true rfl) (of_decide_eq_true rfl) (of_decide_eq_true rfl) ?_
         refine lv_aload_n hx hb dX12_act_80 rfl (lv_at hl 0 rfl) ?_
         refine lv_aload_n hx hb dX12_act_81 rfl (lv_at hl 0 rfl) ?_
         refine va_get (D := D) hx hb hts inlX12 hown hK hP 55 (jc_55 cI cL ad σ450 τ) rfl 56 (of_decide_eq_true rfl) (hts _ kw_49_8) (fun _ h9 => h9) rfl dX12_act_82 ?_
         have m490 : σ450 55 56 = 5 := ((jkp 56 eσ450 (of_decide_eq_true rfl)).trans (jsp eσ449))
         refine jtopr m490 ?_
         refine lv_iload_n hx hb dX12_act_85 rfl (lv_at hl 3 rfl) ?_
         have m491 : σ450 55 55 = 0 := ((jkp 55 eσ450 (of_decide_eq_true rfl)).trans ((jkp 55 eσ449 (of_decide_eq_true rfl)).trans (jsp eσ5)))
         have z492 : (σ450 55 56).toInt = 5 := ((congrArg Int32.toInt (show σ450 55 56 = 5 from m490)).trans jz_5)
         exact by
          refine jcallV (As := [.int 5, .int a3]) (rest := []) ⟨hx, hb, hml, hown, hts⟩ hK hP hA hS hZ (c_X12_givesAs_5_5_0 l D cI cL ad zz hJ σ450 τ a3 (A3) t3 m491 (by omega)) cw_RX12_394 (jc_55 cI cL ad σ450 τ) rfl ⟨Nat.le_of_ble_eq_true rfl, Nat.le_of_ble_eq_true rfl⟩ rfl rfl rfl hl.1 rfl (Nat.le_of_ble_eq_true rfl) dX12_act_86 ⟨Nat.zero_le _, Nat.zero_le _⟩ (fun r494 σ493 τ493 H locs h493 hP hS => ?_)
          obtain ⟨rfl, f495, f496, f497, m498, m499, m500, m501, m502, h493⟩ := h493
          have h504 := h493
          obtain ⟨q506, k505⟩ := h504
          have q506 := q506.symm
          subst q506
          have z507 : (σ493 55 55).toInt = 4 := ((congrArg Int32.toInt (show σ493 55 55 = 4 from m498)).trans jz_4)
          exact by exact hret (((a3 ^^^ (σ450 55 57)) * 3) - (2 + (σ450 55 57))) σ493 τ _ _ _ _ rfl ⟨rfl, (fun i hi => ((f495 i hi).trans ((jnp i eσ450 (imp_350 i hi)).trans ((jnp i eσ449 (imp_350 i hi)).trans (jnp i eσ5 (imp_350 i hi)))))), (fun i hi => ((f496 i (imp_368 i hi)).trans ((jkp i eσ450 (imp_369 i hi)).trans ((jkp i eσ449 (imp_370 i hi)).trans (jkp i eσ5 (imp_371 i hi)))))), Or.inr (⟨trivial, (by omega), (by omega), (by omega), ⟨(by rw [show σ450 55 57 = a1 from (jsp eσ450), show (σ 70 a1.toNatClampNeg).toInt = 5 by omega, show A2 = 2 by omega]; rfl), (by rw [show (σ 70 a1.toNatClampNeg).toInt = 5 by omega, show A2 = 2 by omega]; exact ⟨(by rw [show σ493 55 55 = 4 from m498]; decide), (show σ493 85 0 = 60 from m499), (show σ493 85 1 = 30 from m500), (show σ493 85 2 = 11 from m501), (show σ493 85 3 = 1 from m502), trivial⟩)⟩⟩)⟩ hP hS dX12_act_89
       have kc489 := jne c489 t2 jz_2
       by_cases c512 : a2 = 3
       · have kc512 := jeq c512 t2 jz_3
         refine jtopr c512 ?_
         refine lv_tableIn (off := 59) (tgt := 90) hx hb dX12_act_31 (of_decide_eq_true rfl) (of_decide_eq_true rfl) (of_decide_eq_true rfl) (of_decide_eq_true rfl) ?_
         refine lv_aload_n hx hb dX12_act_90 rfl (lv_at hl 0 rfl) ?_
         refine lv_aload_n hx hb dX12_act_91 rfl (lv_at hl 0 rfl) ?_
         refine va_get (D := D) hx hb hts inlX12 hown hK hP 55 (jc_55 cI cL ad σ450 τ) rfl 56 (of_decide_eq_true rfl) (hts _ kw_49_8) (fun _ h9 => h9) rfl dX12_act_92 ?_
         have m513 : σ450 55 56 = 5 := ((jkp 56 eσ450 (of_decide_eq_true rfl)).trans (jsp eσ449))
         refine jtopr m513 ?_
         refine lv_iload_n hx hb dX12_act_95 rfl (lv_at hl 3 rfl) ?_
         have m514 : σ450 55 55 = 0 := ((jkp 55 eσ450 (of_decide_eq_true rfl)).trans ((jkp 55 eσ449 (of_decide_eq_true rfl)).trans (jsp eσ5)))
         have z515 : (σ450 55 56).toInt = 5 := ((congrArg Int32.toInt (show σ450 55 56 = 5 from m513)).trans jz_5)
         exact by
          refine jcallV (As := [.int 5, .int a3]) (rest := []) ⟨hx, hb, hml, hown, hts⟩ hK hP hA hS hZ (c_X12_tellsAs_5_5_0 l D cI cL ad zz hJ σ450 τ a3 (A3) t3 m514 (by omega)) cw_RX12_397 (jc_55 cI cL ad σ450 τ) rfl ⟨Nat.le_of_ble_eq_true rfl, Nat.le_of_ble_eq_true rfl⟩ rfl rfl rfl hl.1 rfl (Nat.le_of_ble_eq_true rfl) dX12_act_96 ⟨Nat.zero_le _, Nat.zero_le _⟩ (fun r517 σ516 τ516 H locs h516 hP hS => ?_)
          obtain ⟨rfl, f518, f519, f520, m521, m522, m523, m524, m525, m526, m527, m528, m529, h516⟩ := h516
          have h531 := h516
          obtain ⟨q533, k532⟩ := h531
          have q533 := q533.symm
          subst q533
          have z534 : (σ516 55 55).toInt = 8 := ((congrArg Int32.toInt (show σ516 55 55 = 8 from m521)).trans jz_8)
          exact by exact hret ((-((a3 + (σ450 55 57)) * 2)) - (((1 ^^^ (σ450 55 57)) * 3) - (2 + (σ450 55 57)))) σ516 τ _ _ _ _ rfl ⟨rfl, (fun i hi => ((f518 i hi).trans ((jnp i eσ450 (imp_350 i hi)).trans ((jnp i eσ449 (imp_350 i hi)).trans (jnp i eσ5 (imp_350 i hi)))))), (fun i hi => ((f519 i (imp_368 i hi)).trans ((jkp i eσ450 (imp_369 i hi)).trans ((jkp i eσ449 (imp_370 i hi)).trans (jkp i eσ5 (imp_371 i hi)))))), Or.inr (⟨trivial, (by omega), (by omega), (by omega), ⟨(by rw [show σ450 55 57 = a1 from (jsp eσ450), show (σ 70 a1.toNatClampNeg).toInt = 5 by omega, show A2 = 3 by omega]; rfl), (by rw [show (σ 70 a1.toNatClampNeg).toInt = 5 by omega, show A2 = 3 by omega]; exact ⟨(by rw [show σ516 55 55 = 8 from m521]; decide), (show σ516 85 0 = 2 from m522), (show σ516 85 1 = 40 from m523), (show σ516 85 2 = 10 from m524), (show σ516 85 3 = 1 from m525), (show σ516 85 4 = 60 from m526), (show σ516 85 5 = 30 from m527), (show σ516 85 6 = 11 from m528), (show σ516 85 7 = 1 from m529), trivial⟩)⟩⟩)⟩ hP hS dX12_act_99
       have kc512 := jne c512 t2 jz_3
       exact by
        refine lv_tableOut (tgt := 100) hx hb dX12_act_31 (by rw [t2]; omega) (of_decide_eq_true rfl) ?_
        refine lv_iconst (v := 0) hx hb dX12_act_100 (of_decide_eq_true rfl) ?_
        have z543 : (σ450 55 55).toInt = 0 := ((congrArg Int32.toInt (show σ450 55 55 = 0 from ((jkp 55 eσ450 (of_decide_eq_true rfl)).trans ((jkp 55 eσ449 (of_decide_eq_true rfl)).trans (jsp eσ5))))).trans jz_0)
        exact by exact hret 0 σ450 τ _ _ _ _ rfl ⟨rfl, (fun i hi => ((jnp i eσ450 (imp_350 i hi)).trans ((jnp i eσ449 (imp_350 i hi)).trans (jnp i eσ5 (imp_350 i hi))))), (fun i hi => ((jkp i eσ450 (imp_369 i hi)).trans ((jkp i eσ449 (imp_370 i hi)).trans (jkp i eσ5 (imp_371 i hi))))), Or.inl ⟨rfl, (by have h9 := jz_0; omega), (by have h9 := jz_0; omega)⟩⟩ hP hS dX12_act_101
     have kc448 := jne c448 (rfl : (σ 70 a1.toNatClampNeg).toInt = (σ 70 a1.toNatClampNeg).toInt) jz_5
     by_cases c544 : (σ 70 a1.toNatClampNeg) = 6
     · have kc544 := jeq c544 (rfl : (σ 70 a1.toNatClampNeg).toInt = (σ 70 a1.toNatClampNeg).toInt) jz_6
       refine jtopr c544 ?_
       refine jput (ty := .int) hx hb hts inlX12 tyX12 tyX12_ok nmX12 hown hK hP hJ hA hS (jc_55 cI cL ad σ5 τ) rfl (k := 56) (of_decide_eq_true rfl) (Nat.le_of_ble_eq_true rfl) (jp_55_56 cI cL ad σ5 τ 6) (hts _ kw_49_8) (fun _ h9 => h9) rfl (by decide +kernel) rfl rfl dX12_act_22 (fun σ545 H locs eσ545 hP hS => ?_)
       refine lv_aload_n hx hb dX12_act_25 rfl (lv_at hl 0 rfl) ?_
       refine lv_iload_n hx hb dX12_act_26 rfl (lv_at hl 1 rfl) ?_
       refine jput (ty := .int) hx hb hts inlX12 tyX12 tyX12_ok nmX12 hown hK hP hJ hA hS (jc_55 cI cL ad σ545 τ) rfl (k := 57) (of_decide_eq_true rfl) (Nat.le_of_ble_eq_true rfl) (jp_55_57 cI cL ad σ545 τ a1) (hts _ kw_49_9) (fun _ h9 => h9) rfl (by decide +kernel) rfl rfl dX12_act_27 (fun σ546 H locs eσ546 hP hS => ?_)
       refine lv_iload_n hx hb dX12_act_30 rfl (lv_at hl 2 rfl) ?_
       by_cases c547 : a2 = 0
       · have kc547 := jeq c547 t2 jz_0
         refine jtopr c547 ?_
         refine lv_tableIn (off := 29) (tgt := 60) hx hb dX12_act_31 (of_decide_eq_true rfl) (of_decide_eq_true rfl) (of_decide_eq_true rfl) (of_decide_eq_true rfl) ?_
         refine lv_aload_n hx hb dX12_act_60 rfl (lv_at hl 0 rfl) ?_
         refine lv_aload_n hx hb dX12_act_61 rfl (lv_at hl 0 rfl) ?_
         refine va_get (D := D) hx hb hts inlX12 hown hK hP 55 (jc_55 cI cL ad σ546 τ) rfl 56 (of_decide_eq_true rfl) (hts _ kw_49_8) (fun _ h9 => h9) rfl dX12_act_62 ?_
         have m548 : σ546 55 56 = 6 := ((jkp 56 eσ546 (of_decide_eq_true rfl)).trans (jsp eσ545))
         refine jtopr m548 ?_
         refine lv_iload_n hx hb dX12_act_65 rfl (lv_at hl 3 rfl) ?_
         have m549 : σ546 55 55 = 0 := ((jkp 55 eσ546 (of_decide_eq_true rfl)).trans ((jkp 55 eσ545 (of_decide_eq_true rfl)).trans (jsp eσ5)))
         have z550 : (σ546 55 56).toInt = 6 := ((congrArg Int32.toInt (show σ546 55 56 = 6 from m548)).trans jz_6)
         exact by
          refine jcallV (As := [.int 6, .int a3]) (rest := []) ⟨hx, hb, hml, hown, hts⟩ hK hP hA hS hZ (c_X12_putsAs_6_6_0 l D cI cL ad zz hJ σ546 τ a3 (A3) t3 m549 (by omega)) cw_RX12_382 (jc_55 cI cL ad σ546 τ) rfl ⟨Nat.le_of_ble_eq_true rfl, Nat.le_of_ble_eq_true rfl⟩ rfl rfl rfl hl.1 rfl (Nat.le_of_ble_eq_true rfl) dX12_act_66 ⟨Nat.zero_le _, Nat.zero_le _⟩ (fun r552 σ551 τ551 H locs h551 hP hS => ?_)
          obtain ⟨rfl, f553, f554, f555, m556, m557, h551⟩ := h551
          have h559 := h551
          obtain ⟨q561, k560⟩ := h559
          have q561 := q561.symm
          subst q561
          have z562 : (σ551 55 55).toInt = 1 := ((congrArg Int32.toInt (show σ551 55 55 = 1 from m556)).trans jz_1)
          exact by exact hret (a3 + (σ546 55 57)) σ551 τ _ _ _ _ rfl ⟨rfl, (fun i hi => ((f553 i hi).trans ((jnp i eσ546 (imp_350 i hi)).trans ((jnp i eσ545 (imp_350 i hi)).trans (jnp i eσ5 (imp_350 i hi)))))), (fun i hi => ((f554 i (imp_368 i hi)).trans ((jkp i eσ546 (imp_369 i hi)).trans ((jkp i eσ545 (imp_370 i hi)).trans (jkp i eσ5 (imp_371 i hi)))))), Or.inr (⟨trivial, (by omega), (by omega), (by omega), ⟨(by rw [show σ546 55 57 = a1 from (jsp eσ546), show (σ 70 a1.toNatClampNeg).toInt = 6 by omega, show A2 = 0 by omega]; rfl), (by rw [show (σ 70 a1.toNatClampNeg).toInt = 6 by omega, show A2 = 0 by omega]; exact ⟨(by rw [show σ551 55 55 = 1 from m556]; decide), (show σ551 85 0 = 1 from m557), trivial⟩)⟩⟩)⟩ hP hS dX12_act_69
       have kc547 := jne c547 t2 jz_0
       by_cases c564 : a2 = 1
       · have kc564 := jeq c564 t2 jz_1
         refine jtopr c564 ?_
         refine lv_tableIn (off := 39) (tgt := 70) hx hb dX12_act_31 (of_decide_eq_true rfl) (of_decide_eq_true rfl) (of_decide_eq_true rfl) (of_decide_eq_true rfl) ?_
         refine lv_aload_n hx hb dX12_act_70 rfl (lv_at hl 0 rfl) ?_
         refine lv_aload_n hx hb dX12_act_71 rfl (lv_at hl 0 rfl) ?_
         refine va_get (D := D) hx hb hts inlX12 hown hK hP 55 (jc_55 cI cL ad σ546 τ) rfl 56 (of_decide_eq_true rfl) (hts _ kw_49_8) (fun _ h9 => h9) rfl dX12_act_72 ?_
         have m565 : σ546 55 56 = 6 := ((jkp 56 eσ546 (of_decide_eq_true rfl)).trans (jsp eσ545))
         refine jtopr m565 ?_
         refine lv_iload_n hx hb dX12_act_75 rfl (lv_at hl 3 rfl) ?_
         have m566 : σ546 55 55 = 0 := ((jkp 55 eσ546 (of_decide_eq_true rfl)).trans ((jkp 55 eσ545 (of_decide_eq_true rfl)).trans (jsp eσ5)))
         have z567 : (σ546 55 56).toInt = 6 := ((congrArg Int32.toInt (show σ546 55 56 = 6 from m565)).trans jz_6)
         exact by
          refine jcallV (As := [.int 6, .int a3]) (rest := []) ⟨hx, hb, hml, hown, hts⟩ hK hP hA hS hZ (c_X12_holdsAs_6_6_0 l D cI cL ad zz hJ σ546 τ a3 (A3) t3 m566 (by omega)) cw_RX12_388 (jc_55 cI cL ad σ546 τ) rfl ⟨Nat.le_of_ble_eq_true rfl, Nat.le_of_ble_eq_true rfl⟩ rfl rfl rfl hl.1 rfl (Nat.le_of_ble_eq_true rfl) dX12_act_76 ⟨Nat.zero_le _, Nat.zero_le _⟩ (fun r569 σ568 τ568 H locs h568 hP hS => ?_)
          obtain ⟨rfl, f570, f571, f572, m573, m574, m575, m576, m577, h568⟩ := h568
          have h579 := h568
          obtain ⟨q581, k580⟩ := h579
          have q581 := q581.symm
          subst q581
          have z582 : (σ568 55 55).toInt = 4 := ((congrArg Int32.toInt (show σ568 55 55 = 4 from m573)).trans jz_4)
          exact by exact hret (((a3 + (σ546 55 57)) * 2) + (1 ^^^ (σ546 55 57))) σ568 τ _ _ _ _ rfl ⟨rfl, (fun i hi => ((f570 i hi).trans ((jnp i eσ546 (imp_350 i hi)).trans ((jnp i eσ545 (imp_350 i hi)).trans (jnp i eσ5 (imp_350 i hi)))))), (fun i hi => ((f571 i (imp_368 i hi)).trans ((jkp i eσ546 (imp_369 i hi)).trans ((jkp i eσ545 (imp_370 i hi)).trans (jkp i eσ5 (imp_371 i hi)))))), Or.inr (⟨trivial, (by omega), (by omega), (by omega), ⟨(by rw [show σ546 55 57 = a1 from (jsp eσ546), show (σ 70 a1.toNatClampNeg).toInt = 6 by omega, show A2 = 1 by omega]; rfl), (by rw [show (σ 70 a1.toNatClampNeg).toInt = 6 by omega, show A2 = 1 by omega]; exact ⟨(by rw [show σ568 55 55 = 4 from m573]; decide), (show σ568 85 0 = 70 from m574), (show σ568 85 1 = 10 from m575), (show σ568 85 2 = 1 from m576), (show σ568 85 3 = 11 from m577), trivial⟩)⟩⟩)⟩ hP hS dX12_act_79
       have kc564 := jne c564 t2 jz_1
       by_cases c587 : a2 = 2
       · have kc587 := jeq c587 t2 jz_2
         refine jtopr c587 ?_
         refine lv_tableIn (off := 49) (tgt := 80) hx hb dX12_act_31 (of_decide_eq_true rfl) (of_decide_eq_true rfl) (of_decide_eq_true rfl) (of_decide_eq_true rfl) ?_
         refine lv_aload_n hx hb dX12_act_80 rfl (lv_at hl 0 rfl) ?_
         refine lv_aload_n hx hb dX12_act_81 rfl (lv_at hl 0 rfl) ?_
         refine va_get (D := D) hx hb hts inlX12 hown hK hP 55 (jc_55 cI cL ad σ546 τ) rfl 56 (of_decide_eq_true rfl) (hts _ kw_49_8) (fun _ h9 => h9) rfl dX12_act_82 ?_
         have m588 : σ546 55 56 = 6 := ((jkp 56 eσ546 (of_decide_eq_true rfl)).trans (jsp eσ545))
         refine jtopr m588 ?_
         refine lv_iload_n hx hb dX12_act_85 rfl (lv_at hl 3 rfl) ?_
         have m589 : σ546 55 55 = 0 := ((jkp 55 eσ546 (of_decide_eq_true rfl)).trans ((jkp 55 eσ545 (of_decide_eq_true rfl)).trans (jsp eσ5)))
         have z590 : (σ546 55 56).toInt = 6 := ((congrArg Int32.toInt (show σ546 55 56 = 6 from m588)).trans jz_6)
         exact by
          refine jcallV (As := [.int 6, .int a3]) (rest := []) ⟨hx, hb, hml, hown, hts⟩ hK hP hA hS hZ (c_X12_givesAs_6_6_0 l D cI cL ad zz hJ σ546 τ a3 (A3) t3 m589 (by omega)) cw_RX12_394 (jc_55 cI cL ad σ546 τ) rfl ⟨Nat.le_of_ble_eq_true rfl, Nat.le_of_ble_eq_true rfl⟩ rfl rfl rfl hl.1 rfl (Nat.le_of_ble_eq_true rfl) dX12_act_86 ⟨Nat.zero_le _, Nat.zero_le _⟩ (fun r592 σ591 τ591 H locs h591 hP hS => ?_)
          obtain ⟨rfl, f593, f594, f595, m596, m597, h591⟩ := h591
          have h599 := h591
          obtain ⟨q601, k600⟩ := h599
          have q601 := q601.symm
          subst q601
          have z602 : (σ591 55 55).toInt = 1 := ((congrArg Int32.toInt (show σ591 55 55 = 1 from m596)).trans jz_1)
          exact by exact hret (a3 ^^^ (σ546 55 57)) σ591 τ _ _ _ _ rfl ⟨rfl, (fun i hi => ((f593 i hi).trans ((jnp i eσ546 (imp_350 i hi)).trans ((jnp i eσ545 (imp_350 i hi)).trans (jnp i eσ5 (imp_350 i hi)))))), (fun i hi => ((f594 i (imp_368 i hi)).trans ((jkp i eσ546 (imp_369 i hi)).trans ((jkp i eσ545 (imp_370 i hi)).trans (jkp i eσ5 (imp_371 i hi)))))), Or.inr (⟨trivial, (by omega), (by omega), (by omega), ⟨(by rw [show σ546 55 57 = a1 from (jsp eσ546), show (σ 70 a1.toNatClampNeg).toInt = 6 by omega, show A2 = 2 by omega]; rfl), (by rw [show (σ 70 a1.toNatClampNeg).toInt = 6 by omega, show A2 = 2 by omega]; exact ⟨(by rw [show σ591 55 55 = 1 from m596]; decide), (show σ591 85 0 = 11 from m597), trivial⟩)⟩⟩)⟩ hP hS dX12_act_89
       have kc587 := jne c587 t2 jz_2
       by_cases c604 : a2 = 3
       · have kc604 := jeq c604 t2 jz_3
         refine jtopr c604 ?_
         refine lv_tableIn (off := 59) (tgt := 90) hx hb dX12_act_31 (of_decide_eq_true rfl) (of_decide_eq_true rfl) (of_decide_eq_true rfl) (of_decide_eq_true rfl) ?_
         refine lv_aload_n hx hb dX12_act_90 rfl (lv_at hl 0 rfl) ?_
         refine lv_aload_n hx hb dX12_act_91 rfl (lv_at hl 0 rfl) ?_
         refine va_get (D := D) hx hb hts inlX12 hown hK hP 55 (jc_55 cI cL ad σ546 τ) rfl 56 (of_decide_eq_true rfl) (hts _ kw_49_8) (fun _ h9 => h9) rfl dX12_act_92 ?_
         have m605 : σ546 55 56 = 6 := ((jkp 56 eσ546 (of_decide_eq_true rfl)).trans (jsp eσ545))
         refine jtopr m605 ?_
         refine lv_iload_n hx hb dX12_act_95 rfl (lv_at hl 3 rfl) ?_
         have m606 : σ546 55 55 = 0 := ((jkp 55 eσ546 (of_decide_eq_true rfl)).trans ((jkp 55 eσ545 (of_decide_eq_true rfl)).trans (jsp eσ5)))
         have z607 : (σ546 55 56).toInt = 6 := ((congrArg Int32.toInt (show σ546 55 56 = 6 from m605)).trans jz_6)
         exact by
          refine jcallV (As := [.int 6, .int a3]) (rest := []) ⟨hx, hb, hml, hown, hts⟩ hK hP hA hS hZ (c_X12_tellsAs_6_6_0 l D cI cL ad zz hJ σ546 τ a3 (A3) t3 m606 (by omega)) cw_RX12_397 (jc_55 cI cL ad σ546 τ) rfl ⟨Nat.le_of_ble_eq_true rfl, Nat.le_of_ble_eq_true rfl⟩ rfl rfl rfl hl.1 rfl (Nat.le_of_ble_eq_true rfl) dX12_act_96 ⟨Nat.zero_le _, Nat.zero_le _⟩ (fun r609 σ608 τ608 H locs h608 hP hS => ?_)
          obtain ⟨rfl, f610, f611, f612, m613, m614, m615, m616, m617, m618, m619, h608⟩ := h608
          have h621 := h608
          obtain ⟨q623, k622⟩ := h621
          have q623 := q623.symm
          subst q623
          have z624 : (σ608 55 55).toInt = 6 := ((congrArg Int32.toInt (show σ608 55 55 = 6 from m613)).trans jz_6)
          exact by exact hret ((((a3 + (σ546 55 57)) * 2) + (1 ^^^ (σ546 55 57))) - (1 ^^^ (σ546 55 57))) σ608 τ _ _ _ _ rfl ⟨rfl, (fun i hi => ((f610 i hi).trans ((jnp i eσ546 (imp_350 i hi)).trans ((jnp i eσ545 (imp_350 i hi)).trans (jnp i eσ5 (imp_350 i hi)))))), (fun i hi => ((f611 i (imp_368 i hi)).trans ((jkp i eσ546 (imp_369 i hi)).trans ((jkp i eσ545 (imp_370 i hi)).trans (jkp i eσ5 (imp_371 i hi)))))), Or.inr (⟨trivial, (by omega), (by omega), (by omega), ⟨(by rw [show σ546 55 57 = a1 from (jsp eσ546), show (σ 70 a1.toNatClampNeg).toInt = 6 by omega, show A2 = 3 by omega]; rfl), (by rw [show (σ 70 a1.toNatClampNeg).toInt = 6 by omega, show A2 = 3 by omega]; exact ⟨(by rw [show σ608 55 55 = 6 from m613]; decide), (show σ608 85 0 = 2 from m614), (show σ608 85 1 = 70 from m615), (show σ608 85 2 = 10 from m616), (show σ608 85 3 = 1 from m617), (show σ608 85 4 = 11 from m618), (show σ608 85 5 = 11 from m619), trivial⟩)⟩⟩)⟩ hP hS dX12_act_99
       have kc604 := jne c604 t2 jz_3
       exact by
        refine lv_tableOut (tgt := 100) hx hb dX12_act_31 (by rw [t2]; omega) (of_decide_eq_true rfl) ?_
        refine lv_iconst (v := 0) hx hb dX12_act_100 (of_decide_eq_true rfl) ?_
        have z631 : (σ546 55 55).toInt = 0 := ((congrArg Int32.toInt (show σ546 55 55 = 0 from ((jkp 55 eσ546 (of_decide_eq_true rfl)).trans ((jkp 55 eσ545 (of_decide_eq_true rfl)).trans (jsp eσ5))))).trans jz_0)
        exact by exact hret 0 σ546 τ _ _ _ _ rfl ⟨rfl, (fun i hi => ((jnp i eσ546 (imp_350 i hi)).trans ((jnp i eσ545 (imp_350 i hi)).trans (jnp i eσ5 (imp_350 i hi))))), (fun i hi => ((jkp i eσ546 (imp_369 i hi)).trans ((jkp i eσ545 (imp_370 i hi)).trans (jkp i eσ5 (imp_371 i hi))))), Or.inl ⟨rfl, (by have h9 := jz_0; omega), (by have h9 := jz_0; omega)⟩⟩ hP hS dX12_act_101
     have kc544 := jne c544 (rfl : (σ 70 a1.toNatClampNeg).toInt = (σ 70 a1.toNatClampNeg).toInt) jz_6
     exact absurd (by omega : False) id
  · obtain ⟨q633, k632⟩ := h11
    have q633 := q633.symm
    subst q633
    refine lv_if_ne (tgt := 15) hx hb dX12_act_10 (of_decide_eq_true rfl) (fun c => absurd (of_decide_eq_true rfl) c) (fun _ => ?_)
    refine lv_iconst (v := 0) hx hb dX12_act_13 (of_decide_eq_true rfl) ?_
    have z634 : (σ5 55 55).toInt = 0 := ((congrArg Int32.toInt (show σ5 55 55 = 0 from (jsp eσ5))).trans jz_0)
    exact by exact hret 0 σ5 τ _ _ _ _ rfl ⟨rfl, (fun i hi => (jnp i eσ5 (imp_350 i hi))), (fun i hi => (jkp i eσ5 (imp_371 i hi))), Or.inl ⟨rfl, (by have h9 := jz_0; omega), (by have h9 := jz_0; omega)⟩⟩ hP hS dX12_act_14
