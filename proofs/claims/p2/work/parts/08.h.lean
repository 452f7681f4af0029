set_option maxHeartbeats 4000000 in
set_option maxRecDepth 100000 in
theorem c_X12_begins_1_0 (l : Launch) (D : va_G) (cI cL : ClassId) (ad zz : Nat → Nat) (hJ : jD ad) (σ : Nat → Nat → Int32) (τ : Nat → Nat → Int64) (h55_55 : σ 55 55 = 0) : jMv l yX12_begins cX12_begins 2 none ({ frames := 0, cells := 0, slots := 0, locals := 0 }) D cI cL ad zz [.ref (ad 55), .int 1] σ τ (fun σ' τ' => τ = τ' ∧ (∀ i : Nat, (i < 55 ∨ 55 < i) ∧ (i < 85 ∨ 85 < i) → σ' i = σ i) ∧ (∀ k : Nat, (k < 55 ∨ 55 < k) → σ' 55 k = σ 55 k) ∧ (∀ k : Nat, (k < 0 ∨ 0 < k) → σ' 85 k = σ 85 k) ∧ (σ' 55 55 = 1) ∧ (σ' 85 0 = 1) ∧ True) := by
  refine jMv.of hJ (by decide +kernel) rfl (Nat.le_of_ble_eq_true rfl) ?_
  intro p e s m args below meth c Q ls hC hret hl hP
  obtain ⟨hx, hb, hr, hml, hown, hts, hK, -, hlocks, hZ⟩ := hC
  have hown : s.vm.findClass RX12 = some m.cls := hown
  have hS : va_S (jA ad) s.heap s.heap [] := va_S.rf
  have hA : ∀ q, jA ad q → jA ad q := fun _ h => h
  have hl : lv_has ls 2 [(0, .ref (ad 55)), (1, .int 1)] := hl
  refine lv_aload_n hx hb dX12_begins_0 rfl (lv_at hl 0 rfl) ?_
  refine va_get (D := D) hx hb hts inlX12 hown hK hP 55 (jc_55 cI cL ad σ τ) rfl 55 (by decide) (hts _ kw_49_7) (fun _ h9 => h9) rfl dX12_begins_1 ?_
  refine jtopr h55_55 ?_
  refine lv_bipush (v := 24) hx hb dX12_begins_4 (by decide) ?_
  refine lv_icmp_ge (tgt := 19) hx hb dX12_begins_6 (by decide) (fun c => absurd c (by decide)) (fun _ => ?_)
  refine lv_aload_n hx hb dX12_begins_9 rfl (lv_at hl 0 rfl) ?_
  refine va_get (D := D) hx hb hts inlX12 hown hK hP 55 (jc_55 cI cL ad σ τ) rfl 54 (by decide) (hts _ kw_8_10) (fun _ h9 => h9) rfl dX12_begins_10 ?_
  refine lv_aload_n hx hb dX12_begins_13 rfl (lv_at hl 0 rfl) ?_
  refine va_get (D := D) hx hb hts inlX12 hown hK hP 55 (jc_55 cI cL ad σ τ) rfl 55 (by decide) (hts _ kw_49_7) (fun _ h9 => h9) rfl dX12_begins_14 ?_
  refine jtopr h55_55 ?_
  refine lv_iload_n hx hb dX12_begins_17 rfl (lv_at hl 1 rfl) ?_
  refine jast hx hb hK hP hJ hA hS (jc_85 cI cL ad σ τ) (ja_85 cI cL ad σ τ _ _) (jin jz_0 (by omega) (by omega)) dX12_begins_18 (fun σ1 H locs eσ1 hP hS => ?_)
  have eσ1 : σ1 = jup σ 85 0 1 := eσ1
  refine lv_aload_n hx hb dX12_begins_19 rfl (lv_at hl 0 rfl) ?_
  refine lv_dup hx hb dX12_begins_20 rfl ?_
  refine va_get (D := D) hx hb hts inlX12 hown hK hP 55 (jc_55 cI cL ad σ1 τ) rfl 55 (by decide) (hts _ kw_49_7) (fun _ h9 => h9) rfl dX12_begins_21 ?_
  have m2 : σ1 55 55 = 0 := ((congrFun (jnp 55 eσ1 (by decide)) 55).trans h55_55)
  refine jtopr m2 ?_
  refine lv_iconst (v := 1) hx hb dX12_begins_24 (by decide) ?_
  refine lv_iadd hx hb dX12_begins_25 ?_
  refine jtopr (y := 1) (by decide) ?_
  refine jput (ty := .int) hx hb hts inlX12 tyX12 tyX12_ok nmX12 hown hK hP hJ hA hS (jc_55 cI cL ad σ1 τ) rfl (k := 55) (by decide) (Nat.le_of_ble_eq_true rfl) (jp_55_55 cI cL ad σ1 τ 1) (hts _ kw_49_7) (fun _ h9 => h9) rfl (by decide +kernel) rfl rfl dX12_begins_26 (fun σ3 H locs eσ3 hP hS => ?_)
  have m4 : σ3 55 55 = 1 := (jsp eσ3)
  have m5 : σ3 85 0 = 1 := ((congrFun (jnp 85 eσ3 (by decide)) 0).trans (jsp eσ1))
  exact hret σ3 τ _ _ _ _ ⟨rfl, (fun i hi => ((jnp i eσ3 (imp_345 i hi)).trans (jnp i eσ1 (imp_346 i hi)))), (fun i hi => ((jkp i eσ3 (imp_164 i hi)).trans (congrFun (jnp 55 eσ1 (by decide)) i))), (fun i hi => ((congrFun (jnp 85 eσ3 (by decide)) i).trans (jkp i eσ1 (imp_4 i hi)))), m4, m5, trivial⟩ hP hS dX12_begins_29
set_option maxHeartbeats 4000000 in
set_option maxRecDepth 100000 in
theorem c_X12_putsAs_0_0_0 (l : Launch) (D : va_G) (cI cL : ClassId) (ad zz : Nat → Nat) (hJ : jD ad) (σ : Nat → Nat → Int32) (τ : Nat → Nat → Int64) (a2 : Int32) (A2 : Int) (t2 : a2.toInt = A2) (h55_55 : σ 55 55 = 0) (hp0 : (σ 55 56).toInt = 0) : jM l yX12_putsAs cX12_putsAs 3 (some .int) ({ frames := 1, cells := 0, slots := 0, locals := 21 }) D cI cL ad zz [.ref (ad 55), .int 0, .int a2] σ τ (fun r σ' τ' => τ = τ' ∧ (∀ i : Nat, (i < 55 ∨ 55 < i) ∧ (i < 85 ∨ 85 < i) → σ' i = σ i) ∧ (∀ k : Nat, (k < 55 ∨ 55 < k) → σ' 55 k = σ 55 k) ∧ (∀ k : Nat, (k < 0 ∨ 0 < k) → σ' 85 k = σ 85 k) ∧ (σ' 55 55 = 1) ∧ (σ' 85 0 = 1) ∧ ((r = (a2 + (σ 55 57)) ∧ True))) := by
  refine jM.of hJ (by decide +kernel) (nt := .int) rfl (Nat.le_of_ble_eq_true rfl) ?_
  intro p e s m args below meth c Q ls hC hret hl hP
  obtain ⟨hx, hb, hr, hml, hown, hts, hK, -, hlocks, hZ⟩ := hC
  have hown : s.vm.findClass RX12 = some m.cls := hown
  have hS : va_S (jA ad) s.heap s.heap [] := va_S.rf
  have hA : ∀ q, jA ad q → jA ad q := fun _ h => h
  have hl : lv_has ls 3 [(0, .ref (ad 55)), (1, .int 0), (2, .int a2)] := hl
  have g2 := jrg t2
  refine lv_iload_n hx hb dX12_putsAs_0 rfl (lv_at hl 1 rfl) ?_
  refine lv_iconst (v := 4) hx hb dX12_putsAs_1 (by decide) ?_
  refine lv_icmp_ne (tgt := 20) hx hb dX12_putsAs_2 (by decide) (fun _ => ?_) (fun c => absurd c (by decide))
  refine lv_iload_n hx hb dX12_putsAs_20 rfl (lv_at hl 1 rfl) ?_
  refine lv_iconst (v := 1) hx hb dX12_putsAs_21 (by decide) ?_
  refine lv_icmp_ne (tgt := 40) hx hb dX12_putsAs_22 (by decide) (fun _ => ?_) (fun c => absurd c (by decide))
  refine lv_aload_n hx hb dX12_putsAs_40 rfl (lv_at hl 0 rfl) ?_
  refine lv_iconst (v := 1) hx hb dX12_putsAs_41 (by decide) ?_
  refine jcallVv (As := [.int 1]) (rest := []) ⟨hx, hb, hml, hown, hts⟩ hK hP hA hS hZ (c_X12_begins_1_0 l D cI cL ad zz hJ σ τ h55_55) cw_RX12_379 (jc_55 cI cL ad σ τ) rfl ⟨Nat.le_of_ble_eq_true rfl, Nat.le_of_ble_eq_true rfl⟩ rfl rfl rfl hl.1 rfl (Nat.le_of_ble_eq_true rfl) dX12_putsAs_42 ⟨Nat.zero_le _, Nat.zero_le _⟩ (fun σ1 τ1 H locs h1 hP hS => ?_)
  obtain ⟨rfl, f3, f4, f5, m6, m7, h1⟩ := h1
  refine lv_iload_n hx hb dX12_putsAs_45 rfl (lv_at hl 2 rfl) ?_
  refine lv_aload_n hx hb dX12_putsAs_46 rfl (lv_at hl 0 rfl) ?_
  refine va_get (D := D) hx hb hts inlX12 hown hK hP 55 (jc_55 cI cL ad σ1 τ) rfl 57 (by decide) (hts _ kw_49_9) (fun _ h9 => h9) rfl dX12_putsAs_47 ?_
  have m8 : σ1 55 57 = (σ 55 57) := (f4 57 (by decide))
  refine jtopr m8 ?_
  have g9 := jrg (rfl : (σ 55 57).toInt = (σ 55 57).toInt)
  refine lv_iadd hx hb dX12_putsAs_50 ?_
  refine lv_topi (fun x10 ex10 => ?_)
  have gx10 := jrg (rfl : x10.toInt = x10.toInt)
  exact hret x10 σ1 τ _ _ _ _ rfl ⟨rfl, (fun i hi => (f3 i hi)), (fun i hi => (f4 i hi)), (fun i hi => (f5 i hi)), m6, m7, ⟨(by rw [ex10]), trivial⟩⟩ hP hS dX12_putsAs_51
set_option maxHeartbeats 4000000 in
set_option maxRecDepth 100000 in
theorem c_X12_begins_10_0 (l : Launch) (D : va_G) (cI cL : ClassId) (ad zz : Nat → Nat) (hJ : jD ad) (σ : Nat → Nat → Int32) (τ : Nat → Nat → Int64) (h55_55 : σ 55 55 = 0) : jMv l yX12_begins cX12_begins 2 none ({ frames := 0, cells := 0, slots := 0, locals := 0 }) D cI cL ad zz [.ref (ad 55), .int 10] σ τ (fun σ' τ' => τ = τ' ∧ (∀ i : Nat, (i < 55 ∨ 55 < i) ∧ (i < 85 ∨ 85 < i) → σ' i = σ i) ∧ (∀ k : Nat, (k < 55 ∨ 55 < k) → σ' 55 k = σ 55 k) ∧ (∀ k : Nat, (k < 0 ∨ 0 < k) → σ' 85 k = σ 85 k) ∧ (σ' 55 55 = 1) ∧ (σ' 85 0 = 10) ∧ True) := by
  refine jMv.of hJ (by decide +kernel) rfl (Nat.le_of_ble_eq_true rfl) ?_
  intro p e s m args below meth c Q ls hC hret hl hP
  obtain ⟨hx, hb, hr, hml, hown, hts, hK, -, hlocks, hZ⟩ := hC
  have hown : s.vm.findClass RX12 = some m.cls := hown
  have hS : va_S (jA ad) s.heap s.heap [] := va_S.rf
  have hA : ∀ q, jA ad q → jA ad q := fun _ h => h
  have hl : lv_has ls 2 [(0, .ref (ad 55)), (1, .int 10)] := hl
  refine lv_aload_n hx hb dX12_begins_0 rfl (lv_at hl 0 rfl) ?_
  refine va_get (D := D) hx hb hts inlX12 hown hK hP 55 (jc_55 cI cL ad σ τ) rfl 55 (by decide) (hts _ kw_49_7) (fun _ h9 => h9) rfl dX12_begins_1 ?_
  refine jtopr h55_55 ?_
  refine lv_bipush (v := 24) hx hb dX12_begins_4 (by decide) ?_
  refine lv_icmp_ge (tgt := 19) hx hb dX12_begins_6 (by decide) (fun c => absurd c (by decide)) (fun _ => ?_)
  refine lv_aload_n hx hb dX12_begins_9 rfl (lv_at hl 0 rfl) ?_
  refine va_get (D := D) hx hb hts inlX12 hown hK hP 55 (jc_55 cI cL ad σ τ) rfl 54 (by decide) (hts _ kw_8_10) (fun _ h9 => h9) rfl dX12_begins_10 ?_
  refine lv_aload_n hx hb dX12_begins_13 rfl (lv_at hl 0 rfl) ?_
  refine va_get (D := D) hx hb hts inlX12 hown hK hP 55 (jc_55 cI cL ad σ τ) rfl 55 (by decide) (hts _ kw_49_7) (fun _ h9 => h9) rfl dX12_begins_14 ?_
  refine jtopr h55_55 ?_
  refine lv_iload_n hx hb dX12_begins_17 rfl (lv_at hl 1 rfl) ?_
  refine jast hx hb hK hP hJ hA hS (jc_85 cI cL ad σ τ) (ja_85 cI cL ad σ τ _ _) (jin jz_0 (by omega) (by omega)) dX12_begins_18 (fun σ1 H locs eσ1 hP hS => ?_)
  have eσ1 : σ1 = jup σ 85 0 10 := eσ1
  refine lv_aload_n hx hb dX12_begins_19 rfl (lv_at hl 0 rfl) ?_
  refine lv_dup hx hb dX12_begins_20 rfl ?_
  refine va_get (D := D) hx hb hts inlX12 hown hK hP 55 (jc_55 cI cL ad σ1 τ) rfl 55 (by decide) (hts _ kw_49_7) (fun _ h9 => h9) rfl dX12_begins_21 ?_
  have m2 : σ1 55 55 = 0 := ((congrFun (jnp 55 eσ1 (by decide)) 55).trans h55_55)
  refine jtopr m2 ?_
  refine lv_iconst (v := 1) hx hb dX12_begins_24 (by decide) ?_
  refine lv_iadd hx hb dX12_begins_25 ?_
  refine jtopr (y := 1) (by decide) ?_
  refine jput (ty := .int) hx hb hts inlX12 tyX12 tyX12_ok nmX12 hown hK hP hJ hA hS (jc_55 cI cL ad σ1 τ) rfl (k := 55) (by decide) (Nat.le_of_ble_eq_true rfl) (jp_55_55 cI cL ad σ1 τ 1) (hts _ kw_49_7) (fun _ h9 => h9) rfl (by decide +kernel) rfl rfl dX12_begins_26 (fun σ3 H locs eσ3 hP hS => ?_)
  have m4 : σ3 55 55 = 1 := (jsp eσ3)
  have m5 : σ3 85 0 = 10 := ((congrFun (jnp 85 eσ3 (by decide)) 0).trans (jsp eσ1))
  exact hret σ3 τ _ _ _ _ ⟨rfl, (fun i hi => ((jnp i eσ3 (imp_345 i hi)).trans (jnp i eσ1 (imp_346 i hi)))), (fun i hi => ((jkp i eσ3 (imp_164 i hi)).trans (congrFun (jnp 55 eσ1 (by decide)) i))), (fun i hi => ((congrFun (jnp 85 eσ3 (by decide)) i).trans (jkp i eσ1 (imp_4 i hi)))), m4, m5, trivial⟩ hP hS dX12_begins_29
set_option maxHeartbeats 4000000 in
set_option maxRecDepth 100000 in
theorem c_X12_begins_1_1 (l : Launch) (D : va_G) (cI cL : ClassId) (ad zz : Nat → Nat) (hJ : jD ad) (σ : Nat → Nat → Int32) (τ : Nat → Nat → Int64) (h55_55 : σ 55 55 = 1) : jMv l yX12_begins cX12_begins 2 none ({ frames := 0, cells := 0, slots := 0, locals := 0 }) D cI cL ad zz [.ref (ad 55), .int 1] σ τ (fun σ' τ' => τ = τ' ∧ (∀ i : Nat, (i < 55 ∨ 55 < i) ∧ (i < 85 ∨ 85 < i) → σ' i = σ i) ∧ (∀ k : Nat, (k < 55 ∨ 55 < k) → σ' 55 k = σ 55 k) ∧ (∀ k : Nat, (k < 1 ∨ 1 < k) → σ' 85 k = σ 85 k) ∧ (σ' 55 55 = 2) ∧ (σ' 85 1 = 1) ∧ True) := by
  refine jMv.of hJ (by decide +kernel) rfl (Nat.le_of_ble_eq_true rfl) ?_
  intro p e s m args below meth c Q ls hC hret hl hP
  obtain ⟨hx, hb, hr, hml, hown, hts, hK, -, hlocks, hZ⟩ := hC
  have hown : s.vm.findClass RX12 = some m.cls := hown
  have hS : va_S (jA ad) s.heap s.heap [] := va_S.rf
  have hA : ∀ q, jA ad q → jA ad q := fun _ h => h
  have hl : lv_has ls 2 [(0, .ref (ad 55)), (1, .int 1)] := hl
  refine lv_aload_n hx hb dX12_begins_0 rfl (lv_at hl 0 rfl) ?_
  refine va_get (D := D) hx hb hts inlX12 hown hK hP 55 (jc_55 cI cL ad σ τ) rfl 55 (by decide) (hts _ kw_49_7) (fun _ h9 => h9) rfl dX12_begins_1 ?_
  refine jtopr h55_55 ?_
  refine lv_bipush (v := 24) hx hb dX12_begins_4 (by decide) ?_
  refine lv_icmp_ge (tgt := 19) hx hb dX12_begins_6 (by decide) (fun c => absurd c (by decide)) (fun _ => ?_)
  refine lv_aload_n hx hb dX12_begins_9 rfl (lv_at hl 0 rfl) ?_
  refine va_get (D := D) hx hb hts inlX12 hown hK hP 55 (jc_55 cI cL ad σ τ) rfl 54 (by decide) (hts _ kw_8_10) (fun _ h9 => h9) rfl dX12_begins_10 ?_
  refine lv_aload_n hx hb dX12_begins_13 rfl (lv_at hl 0 rfl) ?_
  refine va_get (D := D) hx hb hts inlX12 hown hK hP 55 (jc_55 cI cL ad σ τ) rfl 55 (by decide) (hts _ kw_49_7) (fun _ h9 => h9) rfl dX12_begins_14 ?_
  refine jtopr h55_55 ?_
  refine lv_iload_n hx hb dX12_begins_17 rfl (lv_at hl 1 rfl) ?_
  refine jast hx hb hK hP hJ hA hS (jc_85 cI cL ad σ τ) (ja_85 cI cL ad σ τ _ _) (jin jz_1 (by omega) (by omega)) dX12_begins_18 (fun σ1 H locs eσ1 hP hS => ?_)
  have eσ1 : σ1 = jup σ 85 1 1 := eσ1
  refine lv_aload_n hx hb dX12_begins_19 rfl (lv_at hl 0 rfl) ?_
  refine lv_dup hx hb dX12_begins_20 rfl ?_
  refine va_get (D := D) hx hb hts inlX12 hown hK hP 55 (jc_55 cI cL ad σ1 τ) rfl 55 (by decide) (hts _ kw_49_7) (fun _ h9 => h9) rfl dX12_begins_21 ?_
  have m2 : σ1 55 55 = 1 := ((congrFun (jnp 55 eσ1 (by decide)) 55).trans h55_55)
  refine jtopr m2 ?_
  refine lv_iconst (v := 1) hx hb dX12_begins_24 (by decide) ?_
  refine lv_iadd hx hb dX12_begins_25 ?_
  refine jtopr (y := 2) (by decide) ?_
  refine jput (ty := .int) hx hb hts inlX12 tyX12 tyX12_ok nmX12 hown hK hP hJ hA hS (jc_55 cI cL ad σ1 τ) rfl (k := 55) (by decide) (Nat.le_of_ble_eq_true rfl) (jp_55_55 cI cL ad σ1 τ 2) (hts _ kw_49_7) (fun _ h9 => h9) rfl (by decide +kernel) rfl rfl dX12_begins_26 (fun σ3 H locs eσ3 hP hS => ?_)
  have m4 : σ3 55 55 = 2 := (jsp eσ3)
  have m5 : σ3 85 1 = 1 := ((congrFun (jnp 85 eσ3 (by decide)) 1).trans (jsp eσ1))
  exact hret σ3 τ _ _ _ _ ⟨rfl, (fun i hi => ((jnp i eσ3 (imp_345 i hi)).trans (jnp i eσ1 (imp_346 i hi)))), (fun i hi => ((jkp i eσ3 (imp_164 i hi)).trans (congrFun (jnp 55 eσ1 (by decide)) i))), (fun i hi => ((congrFun (jnp 85 eσ3 (by decide)) i).trans (jkp i eσ1 (imp_42 i hi)))), m4, m5, trivial⟩ hP hS dX12_begins_29
set_option maxHeartbeats 4000000 in
set_option maxRecDepth 100000 in
theorem c_X12_putsAs_0_0_1 (l : Launch) (D : va_G) (cI cL : ClassId) (ad zz : Nat → Nat) (hJ : jD ad) (σ : Nat → Nat → Int32) (τ : Nat → Nat → Int64) (a2 : Int32) (A2 : Int) (t2 : a2.toInt = A2) (h55_55 : σ 55 55 = 1) (hp0 : (σ 55 56).toInt = 0) : jM l yX12_putsAs cX12_putsAs 3 (some .int) ({ frames := 1, cells := 0, slots := 0, locals := 21 }) D cI cL ad zz [.ref (ad 55), .int 0, .int a2] σ τ (fun r σ' τ' => τ = τ' ∧ (∀ i : Nat, (i < 55 ∨ 55 < i) ∧ (i < 85 ∨ 85 < i) → σ' i = σ i) ∧ (∀ k : Nat, (k < 55 ∨ 55 < k) → σ' 55 k = σ 55 k) ∧ (∀ k : Nat, (k < 1 ∨ 1 < k) → σ' 85 k = σ 85 k) ∧ (σ' 55 55 = 2) ∧ (σ' 85 1 = 1) ∧ ((r = (a2 + (σ 55 57)) ∧ True))) := by
  refine jM.of hJ (by decide +kernel) (nt := .int) rfl (Nat.le_of_ble_eq_true rfl) ?_
  intro p e s m args below meth c Q ls hC hret hl hP
  obtain ⟨hx, hb, hr, hml, hown, hts, hK, -, hlocks, hZ⟩ := hC
  have hown : s.vm.findClass RX12 = some m.cls := hown
  have hS : va_S (jA ad) s.heap s.heap [] := va_S.rf
  have hA : ∀ q, jA ad q → jA ad q := fun _ h => h
  have hl : lv_has ls 3 [(0, .ref (ad 55)), (1, .int 0), (2, .int a2)] := hl
  have g2 := jrg t2
  refine lv_iload_n hx hb dX12_putsAs_0 rfl (lv_at hl 1 rfl) ?_
  refine lv_iconst (v := 4) hx hb dX12_putsAs_1 (by decide) ?_
  refine lv_icmp_ne (tgt := 20) hx hb dX12_putsAs_2 (by decide) (fun _ => ?_) (fun c => absurd c (by decide))
  refine lv_iload_n hx hb dX12_putsAs_20 rfl (lv_at hl 1 rfl) ?_
  refine lv_iconst (v := 1) hx hb dX12_putsAs_21 (by decide) ?_
  refine lv_icmp_ne (tgt := 40) hx hb dX12_putsAs_22 (by decide) (fun _ => ?_) (fun c => absurd c (by decide))
  refine lv_aload_n hx hb dX12_putsAs_40 rfl (lv_at hl 0 rfl) ?_
  refine lv_iconst (v := 1) hx hb dX12_putsAs_41 (by decide) ?_
  refine jcallVv (As := [.int 1]) (rest := []) ⟨hx, hb, hml, hown, hts⟩ hK hP hA hS hZ (c_X12_begins_1_1 l D cI cL ad zz hJ σ τ h55_55) cw_RX12_379 (jc_55 cI cL ad σ τ) rfl ⟨Nat.le_of_ble_eq_true rfl, Nat.le_of_ble_eq_true rfl⟩ rfl rfl rfl hl.1 rfl (Nat.le_of_ble_eq_true rfl) dX12_putsAs_42 ⟨Nat.zero_le _, Nat.zero_le _⟩ (fun σ1 τ1 H locs h1 hP hS => ?_)
  obtain ⟨rfl, f3, f4, f5, m6, m7, h1⟩ := h1
  refine lv_iload_n hx hb dX12_putsAs_45 rfl (lv_at hl 2 rfl) ?_
  refine lv_aload_n hx hb dX12_putsAs_46 rfl (lv_at hl 0 rfl) ?_
  refine va_get (D := D) hx hb hts inlX12 hown hK hP 55 (jc_55 cI cL ad σ1 τ) rfl 57 (by decide) (hts _ kw_49_9) (fun _ h9 => h9) rfl dX12_putsAs_47 ?_
  have m8 : σ1 55 57 = (σ 55 57) := (f4 57 (by decide))
  refine jtopr m8 ?_
  have g9 := jrg (rfl : (σ 55 57).toInt = (σ 55 57).toInt)
  refine lv_iadd hx hb dX12_putsAs_50 ?_
  refine lv_topi (fun x10 ex10 => ?_)
  have gx10 := jrg (rfl : x10.toInt = x10.toInt)
  exact hret x10 σ1 τ _ _ _ _ rfl ⟨rfl, (fun i hi => (f3 i hi)), (fun i hi => (f4 i hi)), (fun i hi => (f5 i hi)), m6, m7, ⟨(by rw [ex10]), trivial⟩⟩ hP hS dX12_putsAs_51
set_option maxHeartbeats 4000000 in
set_option maxRecDepth 100000 in
theorem c_X12_holdsAs_0_0_0 (l : Launch) (D : va_G) (cI cL : ClassId) (ad zz : Nat → Nat) (hJ : jD ad) (σ : Nat → Nat → Int32) (τ : Nat → Nat → Int64) (a2 : Int32) (A2 : Int) (t2 : a2.toInt = A2) (h55_55 : σ 55 55 = 0) (hp0 : (σ 55 56).toInt = 0) : jM l yX12_holdsAs cX12_holdsAs 4 (some .int) ({ frames := 2, cells := 0, slots := 0, locals := 43 }) D cI cL ad zz [.ref (ad 55), .int 0, .int a2] σ τ (fun r σ' τ' => τ = τ' ∧ (∀ i : Nat, (i < 55 ∨ 55 < i) ∧ (i < 85 ∨ 85 < i) → σ' i = σ i) ∧ (∀ k : Nat, (k < 55 ∨ 55 < k) → σ' 55 k = σ 55 k) ∧ (∀ k : Nat, (k < 0 ∨ 0 < k) ∧ (k < 1 ∨ 1 < k) → σ' 85 k = σ 85 k) ∧ (σ' 55 55 = 2) ∧ (σ' 85 0 = 10) ∧ (σ' 85 1 = 1) ∧ ((r = ((a2 + (σ 55 57)) * 2) ∧ True))) := by
  refine jM.of hJ (by decide +kernel) (nt := .int) rfl (Nat.le_of_ble_eq_true rfl) ?_
  intro p e s m args below meth c Q ls hC hret hl hP
  obtain ⟨hx, hb, hr, hml, hown, hts, hK, -, hlocks, hZ⟩ := hC
  have hown : s.vm.findClass RX12 = some m.cls := hown
  have hS : va_S (jA ad) s.heap s.heap [] := va_S.rf
  have hA : ∀ q, jA ad q → jA ad q := fun _ h => h
  have hl : lv_has ls 4 [(0, .ref (ad 55)), (1, .int 0), (2, .int a2)] := hl
  have g2 := jrg t2
  refine lv_iload_n hx hb dX12_holdsAs_0 rfl (lv_at hl 1 rfl) ?_
  refine lv_iconst (v := 3) hx hb dX12_holdsAs_1 (by decide) ?_
  refine lv_icmp_eq (tgt := 10) hx hb dX12_holdsAs_2 (by decide) (fun c => absurd c (by decide)) (fun _ => ?_)
  refine lv_iload_n hx hb dX12_holdsAs_5 rfl (lv_at hl 1 rfl) ?_
  refine lv_iconst (v := 5) hx hb dX12_holdsAs_6 (by decide) ?_
  refine lv_icmp_ne (tgt := 24) hx hb dX12_holdsAs_7 (by decide) (fun _ => ?_) (fun c => absurd c (by decide))
  refine lv_iload_n hx hb dX12_holdsAs_24 rfl (lv_at hl 1 rfl) ?_
  refine lv_bipush (v := 6) hx hb dX12_holdsAs_25 (by decide) ?_
  refine lv_icmp_ne (tgt := 55) hx hb dX12_holdsAs_27 (by decide) (fun _ => ?_) (fun c => absurd c (by decide))
  refine lv_aload_n hx hb dX12_holdsAs_55 rfl (lv_at hl 0 rfl) ?_
  refine lv_bipush (v := 10) hx hb dX12_holdsAs_56 (by decide) ?_
  refine jcallVv (As := [.int 10]) (rest := []) ⟨hx, hb, hml, hown, hts⟩ hK hP hA hS hZ (c_X12_begins_10_0 l D cI cL ad zz hJ σ τ h55_55) cw_RX12_379 (jc_55 cI cL ad σ τ) rfl ⟨Nat.le_of_ble_eq_true rfl, Nat.le_of_ble_eq_true rfl⟩ rfl rfl rfl hl.1 rfl (Nat.le_of_ble_eq_true rfl) dX12_holdsAs_58 ⟨Nat.zero_le _, Nat.zero_le _⟩ (fun σ1 τ1 H locs h1 hP hS => ?_)
  obtain ⟨rfl, f3, f4, f5, m6, m7, h1⟩ := h1
  refine lv_aload_n hx hb dX12_holdsAs_61 rfl (lv_at hl 0 rfl) ?_
  refine lv_aload_n hx hb dX12_holdsAs_62 rfl (lv_at hl 0 rfl) ?_
  refine va_get (D := D) hx hb hts inlX12 hown hK hP 55 (jc_55 cI cL ad σ1 τ) rfl 56 (by decide) (hts _ kw_49_8) (fun _ h9 => h9) rfl dX12_holdsAs_63 ?_
  have m8 : σ1 55 56 = (σ 55 56) := (f4 56 (by decide))
  refine jtopr m8 ?_
  refine jtopr (jsame (rfl : (σ 55 56).toInt = (σ 55 56).toInt) jz_0 (by omega)) ?_
  refine lv_iload_n hx hb dX12_holdsAs_66 rfl (lv_at hl 2 rfl) ?_
  have z9 : (σ1 55 56).toInt = (σ 55 56).toInt := (congrArg Int32.toInt (show σ1 55 56 = (σ 55 56) from m8))
  refine jcallV (As := [.int 0, .int a2]) (rest := []) ⟨hx, hb, hml, hown, hts⟩ hK hP hA hS hZ (c_X12_putsAs_0_0_1 l D cI cL ad zz hJ σ1 τ a2 (A2) t2 m6 (by omega)) cw_RX12_382 (jc_55 cI cL ad σ1 τ) rfl ⟨Nat.le_of_ble_eq_true rfl, Nat.le_of_ble_eq_true rfl⟩ rfl rfl rfl hl.1 rfl (Nat.le_of_ble_eq_true rfl) dX12_holdsAs_67 ⟨Nat.zero_le _, Nat.zero_le _⟩ (fun r11 σ10 τ10 H locs h10 hP hS => ?_)
  obtain ⟨rfl, f12, f13, f14, m15, m16, h10⟩ := h10
  have h17 := h10
  obtain ⟨q19, k18⟩ := h17
  have q19 := q19.symm
  subst q19
  refine lv_iconst (v := 2) hx hb dX12_holdsAs_70 (by decide) ?_
  have g20 := jrg (rfl : (a2 + (σ1 55 57)).toInt = (a2 + (σ1 55 57)).toInt)
  refine lv_imul hx hb dX12_holdsAs_71 ?_
  refine lv_topi (fun x21 ex21 => ?_)
  have gx21 := jrg (rfl : x21.toInt = x21.toInt)
  have m22 : σ10 85 0 = 10 := ((f14 0 (by decide)).trans m7)
  exact hret x21 σ10 τ _ _ _ _ rfl ⟨rfl, (fun i hi => ((f12 i hi).trans (f3 i hi))), (fun i hi => ((f13 i hi).trans (f4 i hi))), (fun i hi => ((f14 i (imp_302 i hi)).trans (f5 i (imp_347 i hi)))), m15, m22, m16, ⟨(by rw [ex21, (show σ1 55 57 = σ 55 57 from (f4 57 (by decide)))]), trivial⟩⟩ hP hS dX12_holdsAs_72
set_option maxHeartbeats 4000000 in
set_option maxRecDepth 100000 in
theorem c_X12_begins_11_0 (l : Launch) (D : va_G) (cI cL : ClassId) (ad zz : Nat → Nat) (hJ : jD ad) (σ : Nat → Nat → Int32) (τ : Nat → Nat → Int64) (h55_55 : σ 55 55 = 0) : jMv l yX12_begins cX12_begins 2 none ({ frames := 0, cells := 0, slots := 0, locals := 0 }) D cI cL ad zz [.ref (ad 55), .int 11] σ τ (fun σ' τ' => τ = τ' ∧ (∀ i : Nat, (i < 55 ∨ 55 < i) ∧ (i < 85 ∨ 85 < i) → σ' i = σ i) ∧ (∀ k : Nat, (k < 55 ∨ 55 < k) → σ' 55 k = σ 55 k) ∧ (∀ k : Nat, (k < 0 ∨ 0 < k) → σ' 85 k = σ 85 k) ∧ (σ' 55 55 = 1) ∧ (σ' 85 0 = 11) ∧ True) := by
  refine jMv.of hJ (by decide +kernel) rfl (Nat.le_of_ble_eq_true rfl) ?_
  intro p e s m args below meth c Q ls hC hret hl hP
  obtain ⟨hx, hb, hr, hml, hown, hts, hK, -, hlocks, hZ⟩ := hC
  have hown : s.vm.findClass RX12 = some m.cls := hown
  have hS : va_S (jA ad) s.heap s.heap [] := va_S.rf
  have hA : ∀ q, jA ad q → jA ad q := fun _ h => h
  have hl : lv_has ls 2 [(0, .ref (ad 55)), (1, .int 11)] := hl
  refine lv_aload_n hx hb dX12_begins_0 rfl (lv_at hl 0 rfl) ?_
  refine va_get (D := D) hx hb hts inlX12 hown hK hP 55 (jc_55 cI cL ad σ τ) rfl 55 (by decide) (hts _ kw_49_7) (fun _ h9 => h9) rfl dX12_begins_1 ?_
  refine jtopr h55_55 ?_
  refine lv_bipush (v := 24) hx hb dX12_begins_4 (by decide) ?_
  refine lv_icmp_ge (tgt := 19) hx hb dX12_begins_6 (by decide) (fun c => absurd c (by decide)) (fun _ => ?_)
  refine lv_aload_n hx hb dX12_begins_9 rfl (lv_at hl 0 rfl) ?_
  refine va_get (D := D) hx hb hts inlX12 hown hK hP 55 (jc_55 cI cL ad σ τ) rfl 54 (by decide) (hts _ kw_8_10) (fun _ h9 => h9) rfl dX12_begins_10 ?_
  refine lv_aload_n hx hb dX12_begins_13 rfl (lv_at hl 0 rfl) ?_
  refine va_get (D := D) hx hb hts inlX12 hown hK hP 55 (jc_55 cI cL ad σ τ) rfl 55 (by decide) (hts _ kw_49_7) (fun _ h9 => h9) rfl dX12_begins_14 ?_
  refine jtopr h55_55 ?_
  refine lv_iload_n hx hb dX12_begins_17 rfl (lv_at hl 1 rfl) ?_
  refine jast hx hb hK hP hJ hA hS (jc_85 cI cL ad σ τ) (ja_85 cI cL ad σ τ _ _) (jin jz_0 (by omega) (by omega)) dX12_begins_18 (fun σ1 H locs eσ1 hP hS => ?_)
  have eσ1 : σ1 = jup σ 85 0 11 := eσ1
  refine lv_aload_n hx hb dX12_begins_19 rfl (lv_at hl 0 rfl) ?_
  refine lv_dup hx hb dX12_begins_20 rfl ?_
  refine va_get (D := D) hx hb hts inlX12 hown hK hP 55 (jc_55 cI cL ad σ1 τ) rfl 55 (by decide) (hts _ kw_49_7) (fun _ h9 => h9) rfl dX12_begins_21 ?_
  have m2 : σ1 55 55 = 0 := ((congrFun (jnp 55 eσ1 (by decide)) 55).trans h55_55)
  refine jtopr m2 ?_
  refine lv_iconst (v := 1) hx hb dX12_begins_24 (by decide) ?_
  refine lv_iadd hx hb dX12_begins_25 ?_
  refine jtopr (y := 1) (by decide) ?_
  refine jput (ty := .int) hx hb hts inlX12 tyX12 tyX12_ok nmX12 hown hK hP hJ hA hS (jc_55 cI cL ad σ1 τ) rfl (k := 55) (by decide) (Nat.le_of_ble_eq_true rfl) (jp_55_55 cI cL ad σ1 τ 1) (hts _ kw_49_7) (fun _ h9 => h9) rfl (by decide +kernel) rfl rfl dX12_begins_26 (fun σ3 H locs eσ3 hP hS => ?_)
  have m4 : σ3 55 55 = 1 := (jsp eσ3)
  have m5 : σ3 85 0 = 11 := ((congrFun (jnp 85 eσ3 (by decide)) 0).trans (jsp eσ1))
  exact hret σ3 τ _ _ _ _ ⟨rfl, (fun i hi => ((jnp i eσ3 (imp_345 i hi)).trans (jnp i eσ1 (imp_346 i hi)))), (fun i hi => ((jkp i eσ3 (imp_164 i hi)).trans (congrFun (jnp 55 eσ1 (by decide)) i))), (fun i hi => ((congrFun (jnp 85 eσ3 (by decide)) i).trans (jkp i eσ1 (imp_4 i hi)))), m4, m5, trivial⟩ hP hS dX12_begins_29
set_option maxHeartbeats 4000000 in
set_option maxRecDepth 100000 in
theorem c_X12_givesAs_0_0_0 (l : Launch) (D : va_G) (cI cL : ClassId) (ad zz : Nat → Nat) (hJ : jD ad) (σ : Nat → Nat → Int32) (τ : Nat → Nat → Int64) (a2 : Int32) (A2 : Int) (t2 : a2.toInt = A2) (h55_55 : σ 55 55 = 0) (hp0 : (σ 55 56).toInt = 0) : jM l yX12_givesAs cX12_givesAs 4 (some .int) ({ frames := 1, cells := 0, slots := 0, locals := 21 }) D cI cL ad zz [.ref (ad 55), .int 0, .int a2] σ τ (fun r σ' τ' => τ = τ' ∧ (∀ i : Nat, (i < 55 ∨ 55 < i) ∧ (i < 85 ∨ 85 < i) → σ' i = σ i) ∧ (∀ k : Nat, (k < 55 ∨ 55 < k) → σ' 55 k = σ 55 k) ∧ (∀ k : Nat, (k < 0 ∨ 0 < k) → σ' 85 k = σ 85 k) ∧ (σ' 55 55 = 1) ∧ (σ' 85 0 = 11) ∧ ((r = (a2 ^^^ (σ 55 57)) ∧ True))) := by
  refine jM.of hJ (by decide +kernel) (nt := .int) rfl (Nat.le_of_ble_eq_true rfl) ?_
  intro p e s m args below meth c Q ls hC hret hl hP
  obtain ⟨hx, hb, hr, hml, hown, hts, hK, -, hlocks, hZ⟩ := hC
  have hown : s.vm.findClass RX12 = some m.cls := hown
  have hS : va_S (jA ad) s.heap s.heap [] := va_S.rf
  have hA : ∀ q, jA ad q → jA ad q := fun _ h => h
  have hl : lv_has ls 4 [(0, .ref (ad 55)), (1, .int 0), (2, .int a2)] := hl
  have g2 := jrg t2
  refine lv_iload_n hx hb dX12_givesAs_0 rfl (lv_at hl 1 rfl) ?_
  refine lv_iconst (v := 5) hx hb dX12_givesAs_1 (by decide) ?_
  refine lv_icmp_ne (tgt := 30) hx hb dX12_givesAs_2 (by decide) (fun _ => ?_) (fun c => absurd c (by decide))
  refine lv_iload_n hx hb dX12_givesAs_30 rfl (lv_at hl 1 rfl) ?_
  refine lv_iconst (v := 2) hx hb dX12_givesAs_31 (by decide) ?_
  refine lv_icmp_eq (tgt := 40) hx hb dX12_givesAs_32 (by decide) (fun c => absurd c (by decide)) (fun _ => ?_)
  refine lv_iload_n hx hb dX12_givesAs_35 rfl (lv_at hl 1 rfl) ?_
  refine lv_iconst (v := 3) hx hb dX12_givesAs_36 (by decide) ?_
  refine lv_icmp_ne (tgt := 55) hx hb dX12_givesAs_37 (by decide) (fun _ => ?_) (fun c => absurd c (by decide))
  refine lv_aload_n hx hb dX12_givesAs_55 rfl (lv_at hl 0 rfl) ?_
  refine lv_bipush (v := 11) hx hb dX12_givesAs_56 (by decide) ?_
  refine jcallVv (As := [.int 11]) (rest := []) ⟨hx, hb, hml, hown, hts⟩ hK hP hA hS hZ (c_X12_begins_11_0 l D cI cL ad zz hJ σ τ h55_55) cw_RX12_379 (jc_55 cI cL ad σ τ) rfl ⟨Nat.le_of_ble_eq_true rfl, Nat.le_of_ble_eq_true rfl⟩ rfl rfl rfl hl.1 rfl (Nat.le_of_ble_eq_true rfl) dX12_givesAs_58 ⟨Nat.zero_le _, Nat.zero_le _⟩ (fun σ1 τ1 H locs h1 hP hS => ?_)
  obtain ⟨rfl, f3, f4, f5, m6, m7, h1⟩ := h1
  refine lv_iload_n hx hb dX12_givesAs_61 rfl (lv_at hl 2 rfl) ?_
  refine lv_aload_n hx hb dX12_givesAs_62 rfl (lv_at hl 0 rfl) ?_
  refine va_get (D := D) hx hb hts inlX12 hown hK hP 55 (jc_55 cI cL ad σ1 τ) rfl 57 (by decide) (hts _ kw_49_9) (fun _ h9 => h9) rfl dX12_givesAs_63 ?_
  have m8 : σ1 55 57 = (σ 55 57) := (f4 57 (by decide))
  refine jtopr m8 ?_
  refine lv_ixor hx hb dX12_givesAs_66 ?_
  refine lv_topi (fun x9 ex9 => ?_)
  have gx9 := jrg (rfl : x9.toInt = x9.toInt)
  exact hret x9 σ1 τ _ _ _ _ rfl ⟨rfl, (fun i hi => (f3 i hi)), (fun i hi => (f4 i hi)), (fun i hi => (f5 i hi)), m6, m7, ⟨(by rw [ex9]), trivial⟩⟩ hP hS dX12_givesAs_67
set_option maxHeartbeats 4000000 in
set_option maxRecDepth 100000 in
theorem c_X12_begins_2_0 (l : Launch) (D : va_G) (cI cL : ClassId) (ad zz : Nat → Nat) (hJ : jD ad) (σ : Nat → Nat → Int32) (τ : Nat → Nat → Int64) (h55_55 : σ 55 55 = 0) : jMv l yX12_begins cX12_begins 2 none ({ frames := 0, cells := 0, slots := 0, locals := 0 }) D cI cL ad zz [.ref (ad 55), .int 2] σ τ (fun σ' τ' => τ = τ' ∧ (∀ i : Nat, (i < 55 ∨ 55 < i) ∧ (i < 85 ∨ 85 < i) → σ' i = σ i) ∧ (∀ k : Nat, (k < 55 ∨ 55 < k) → σ' 55 k = σ 55 k) ∧ (∀ k : Nat, (k < 0 ∨ 0 < k) → σ' 85 k = σ 85 k) ∧ (σ' 55 55 = 1) ∧ (σ' 85 0 = 2) ∧ True) := by
  refine jMv.of hJ (by decide +kernel) rfl (Nat.le_of_ble_eq_true rfl) ?_
  intro p e s m args below meth c Q ls hC hret hl hP
  obtain ⟨hx, hb, hr, hml, hown, hts, hK, -, hlocks, hZ⟩ := hC
  have hown : s.vm.findClass RX12 = some m.cls := hown
  have hS : va_S (jA ad) s.heap s.heap [] := va_S.rf
  have hA : ∀ q, jA ad q → jA ad q := fun _ h => h
  have hl : lv_has ls 2 [(0, .ref (ad 55)), (1, .int 2)] := hl
  refine lv_aload_n hx hb dX12_begins_0 rfl (lv_at hl 0 rfl) ?_
  refine va_get (D := D) hx hb hts inlX12 hown hK hP 55 (jc_55 cI cL ad σ τ) rfl 55 (by decide) (hts _ kw_49_7) (fun _ h9 => h9) rfl dX12_begins_1 ?_
  refine jtopr h55_55 ?_
  refine lv_bipush (v := 24) hx hb dX12_begins_4 (by decide) ?_
  refine lv_icmp_ge (tgt := 19) hx hb dX12_begins_6 (by decide) (fun c => absurd c (by decide)) (fun _ => ?_)
  refine lv_aload_n hx hb dX12_begins_9 rfl (lv_at hl 0 rfl) ?_
  refine va_get (D := D) hx hb hts inlX12 hown hK hP 55 (jc_55 cI cL ad σ τ) rfl 54 (by decide) (hts _ kw_8_10) (fun _ h9 => h9) rfl dX12_begins_10 ?_
  refine lv_aload_n hx hb dX12_begins_13 rfl (lv_at hl 0 rfl) ?_
  refine va_get (D := D) hx hb hts inlX12 hown hK hP 55 (jc_55 cI cL ad σ τ) rfl 55 (by decide) (hts _ kw_49_7) (fun _ h9 => h9) rfl dX12_begins_14 ?_
  refine jtopr h55_55 ?_
  refine lv_iload_n hx hb dX12_begins_17 rfl (lv_at hl 1 rfl) ?_
  refine jast hx hb hK hP hJ hA hS (jc_85 cI cL ad σ τ) (ja_85 cI cL ad σ τ _ _) (jin jz_0 (by omega) (by omega)) dX12_begins_18 (fun σ1 H locs eσ1 hP hS => ?_)
  have eσ1 : σ1 = jup σ 85 0 2 := eσ1
  refine lv_aload_n hx hb dX12_begins_19 rfl (lv_at hl 0 rfl) ?_
  refine lv_dup hx hb dX12_begins_20 rfl ?_
  refine va_get (D := D) hx hb hts inlX12 hown hK hP 55 (jc_55 cI cL ad σ1 τ) rfl 55 (by decide) (hts _ kw_49_7) (fun _ h9 => h9) rfl dX12_begins_21 ?_
  have m2 : σ1 55 55 = 0 := ((congrFun (jnp 55 eσ1 (by decide)) 55).trans h55_55)
  refine jtopr m2 ?_
  refine lv_iconst (v := 1) hx hb dX12_begins_24 (by decide) ?_
  refine lv_iadd hx hb dX12_begins_25 ?_
  refine jtopr (y := 1) (by decide) ?_
  refine jput (ty := .int) hx hb hts inlX12 tyX12 tyX12_ok nmX12 hown hK hP hJ hA hS (jc_55 cI cL ad σ1 τ) rfl (k := 55) (by decide) (Nat.le_of_ble_eq_true rfl) (jp_55_55 cI cL ad σ1 τ 1) (hts _ kw_49_7) (fun _ h9 => h9) rfl (by decide +kernel) rfl rfl dX12_begins_26 (fun σ3 H locs eσ3 hP hS => ?_)
  have m4 : σ3 55 55 = 1 := (jsp eσ3)
  have m5 : σ3 85 0 = 2 := ((congrFun (jnp 85 eσ3 (by decide)) 0).trans (jsp eσ1))
  exact hret σ3 τ _ _ _ _ ⟨rfl, (fun i hi => ((jnp i eσ3 (imp_345 i hi)).trans (jnp i eσ1 (imp_346 i hi)))), (fun i hi => ((jkp i eσ3 (imp_164 i hi)).trans (congrFun (jnp 55 eσ1 (by decide)) i))), (fun i hi => ((congrFun (jnp 85 eσ3 (by decide)) i).trans (jkp i eσ1 (imp_4 i hi)))), m4, m5, trivial⟩ hP hS dX12_begins_29
set_option maxHeartbeats 4000000 in
set_option maxRecDepth 100000 in
theorem c_X12_begins_10_1 (l : Launch) (D : va_G) (cI cL : ClassId) (ad zz : Nat → Nat) (hJ : jD ad) (σ : Nat → Nat → Int32) (τ : Nat → Nat → Int64) (h55_55 : σ 55 55 = 1) : jMv l yX12_begins cX12_begins 2 none ({ frames := 0, cells := 0, slots := 0, locals := 0 }) D cI cL ad zz [.ref (ad 55), .int 10] σ τ (fun σ' τ' => τ = τ' ∧ (∀ i : Nat, (i < 55 ∨ 55 < i) ∧ (i < 85 ∨ 85 < i) → σ' i = σ i) ∧ (∀ k : Nat, (k < 55 ∨ 55 < k) → σ' 55 k = σ 55 k) ∧ (∀ k : Nat, (k < 1 ∨ 1 < k) → σ' 85 k = σ 85 k) ∧ (σ' 55 55 = 2) ∧ (σ' 85 1 = 10) ∧ True) := by
  refine jMv.of hJ (by decide +kernel) rfl (Nat.le_of_ble_eq_true rfl) ?_
  intro p e s m args below meth c Q ls hC hret hl hP
  obtain ⟨hx, hb, hr, hml, hown, hts, hK, -, hlocks, hZ⟩ := hC
  have hown : s.vm.findClass RX12 = some m.cls := hown
  have hS : va_S (jA ad) s.heap s.heap [] := va_S.rf
  have hA : ∀ q, jA ad q → jA ad q := fun _ h => h
  have hl : lv_has ls 2 [(0, .ref (ad 55)), (1, .int 10)] := hl
  refine lv_aload_n hx hb dX12_begins_0 rfl (lv_at hl 0 rfl) ?_
  refine va_get (D := D) hx hb hts inlX12 hown hK hP 55 (jc_55 cI cL ad σ τ) rfl 55 (by decide) (hts _ kw_49_7) (fun _ h9 => h9) rfl dX12_begins_1 ?_
  refine jtopr h55_55 ?_
  refine lv_bipush (v := 24) hx hb dX12_begins_4 (by decide) ?_
  refine lv_icmp_ge (tgt := 19) hx hb dX12_begins_6 (by decide) (fun c => absurd c (by decide)) (fun _ => ?_)
  refine lv_aload_n hx hb dX12_begins_9 rfl (lv_at hl 0 rfl) ?_
  refine va_get (D := D) hx hb hts inlX12 hown hK hP 55 (jc_55 cI cL ad σ τ) rfl 54 (by decide) (hts _ kw_8_10) (fun _ h9 => h9) rfl dX12_begins_10 ?_
  refine lv_aload_n hx hb dX12_begins_13 rfl (lv_at hl 0 rfl) ?_
  refine va_get (D := D) hx hb hts inlX12 hown hK hP 55 (jc_55 cI cL ad σ τ) rfl 55 (by decide) (hts _ kw_49_7) (fun _ h9 => h9) rfl dX12_begins_14 ?_
  refine jtopr h55_55 ?_
  refine lv_iload_n hx hb dX12_begins_17 rfl (lv_at hl 1 rfl) ?_
  refine jast hx hb hK hP hJ hA hS (jc_85 cI cL ad σ τ) (ja_85 cI cL ad σ τ _ _) (jin jz_1 (by omega) (by omega)) dX12_begins_18 (fun σ1 H locs eσ1 hP hS => ?_)
  have eσ1 : σ1 = jup σ 85 1 10 := eσ1
  refine lv_aload_n hx hb dX12_begins_19 rfl (lv_at hl 0 rfl) ?_
  refine lv_dup hx hb dX12_begins_20 rfl ?_
  refine va_get (D := D) hx hb hts inlX12 hown hK hP 55 (jc_55 cI cL ad σ1 τ) rfl 55 (by decide) (hts _ kw_49_7) (fun _ h9 => h9) rfl dX12_begins_21 ?_
  have m2 : σ1 55 55 = 1 := ((congrFun (jnp 55 eσ1 (by decide)) 55).trans h55_55)
  refine jtopr m2 ?_
  refine lv_iconst (v := 1) hx hb dX12_begins_24 (by decide) ?_
  refine lv_iadd hx hb dX12_begins_25 ?_
  refine jtopr (y := 2) (by decide) ?_
  refine jput (ty := .int) hx hb hts inlX12 tyX12 tyX12_ok nmX12 hown hK hP hJ hA hS (jc_55 cI cL ad σ1 τ) rfl (k := 55) (by decide) (Nat.le_of_ble_eq_true rfl) (jp_55_55 cI cL ad σ1 τ 2) (hts _ kw_49_7) (fun _ h9 => h9) rfl (by decide +kernel) rfl rfl dX12_begins_26 (fun σ3 H locs eσ3 hP hS => ?_)
  have m4 : σ3 55 55 = 2 := (jsp eσ3)
  have m5 : σ3 85 1 = 10 := ((congrFun (jnp 85 eσ3 (by decide)) 1).trans (jsp eσ1))
  exact hret σ3 τ _ _ _ _ ⟨rfl, (fun i hi => ((jnp i eσ3 (imp_345 i hi)).trans (jnp i eσ1 (imp_346 i hi)))), (fun i hi => ((jkp i eσ3 (imp_164 i hi)).trans (congrFun (jnp 55 eσ1 (by decide)) i))), (fun i hi => ((congrFun (jnp 85 eσ3 (by decide)) i).trans (jkp i eσ1 (imp_42 i hi)))), m4, m5, trivial⟩ hP hS dX12_begins_29
set_option maxHeartbeats 4000000 in
set_option maxRecDepth 100000 in
theorem c_X12_begins_1_2 (l : Launch) (D : va_G) (cI cL : ClassId) (ad zz : Nat → Nat) (hJ : jD ad) (σ : Nat → Nat → Int32) (τ : Nat → Nat → Int64) (h55_55 : σ 55 55 = 2) : jMv l yX12_begins cX12_begins 2 none ({ frames := 0, cells := 0, slots := 0, locals := 0 }) D cI cL ad zz [.ref (ad 55), .int 1] σ τ (fun σ' τ' => τ = τ' ∧ (∀ i : Nat, (i < 55 ∨ 55 < i) ∧ (i < 85 ∨ 85 < i) → σ' i = σ i) ∧ (∀ k : Nat, (k < 55 ∨ 55 < k) → σ' 55 k = σ 55 k) ∧ (∀ k : Nat, (k < 2 ∨ 2 < k) → σ' 85 k = σ 85 k) ∧ (σ' 55 55 = 3) ∧ (σ' 85 2 = 1) ∧ True) := by
  refine jMv.of hJ (by decide +kernel) rfl (Nat.le_of_ble_eq_true rfl) ?_
  intro p e s m args below meth c Q ls hC hret hl hP
  obtain ⟨hx, hb, hr, hml, hown, hts, hK, -, hlocks, hZ⟩ := hC
  have hown : s.vm.findClass RX12 = some m.cls := hown
  have hS : va_S (jA ad) s.heap s.heap [] := va_S.rf
  have hA : ∀ q, jA ad q → jA ad q := fun _ h => h
  have hl : lv_has ls 2 [(0, .ref (ad 55)), (1, .int 1)] := hl
  refine lv_aload_n hx hb dX12_begins_0 rfl (lv_at hl 0 rfl) ?_
  refine va_get (D := D) hx hb hts inlX12 hown hK hP 55 (jc_55 cI cL ad σ τ) rfl 55 (by decide) (hts _ kw_49_7) (fun _ h9 => h9) rfl dX12_begins_1 ?_
  refine jtopr h55_55 ?_
  refine lv_bipush (v := 24) hx hb dX12_begins_4 (by decide) ?_
  refine lv_icmp_ge (tgt := 19) hx hb dX12_begins_6 (by decide) (fun c => absurd c (by decide)) (fun _ => ?_)
  refine lv_aload_n hx hb dX12_begins_9 rfl (lv_at hl 0 rfl) ?_
  refine va_get (D := D) hx hb hts inlX12 hown hK hP 55 (jc_55 cI cL ad σ τ) rfl 54 (by decide) (hts _ kw_8_10) (fun _ h9 => h9) rfl dX12_begins_10 ?_
  refine lv_aload_n hx hb dX12_begins_13 rfl (lv_at hl 0 rfl) ?_
  refine va_get (D := D) hx hb hts inlX12 hown hK hP 55 (jc_55 cI cL ad σ τ) rfl 55 (by decide) (hts _ kw_49_7) (fun _ h9 => h9) rfl dX12_begins_14 ?_
  refine jtopr h55_55 ?_
  refine lv_iload_n hx hb dX12_begins_17 rfl (lv_at hl 1 rfl) ?_
  refine jast hx hb hK hP hJ hA hS (jc_85 cI cL ad σ τ) (ja_85 cI cL ad σ τ _ _) (jin jz_2 (by omega) (by omega)) dX12_begins_18 (fun σ1 H locs eσ1 hP hS => ?_)
  have eσ1 : σ1 = jup σ 85 2 1 := eσ1
  refine lv_aload_n hx hb dX12_begins_19 rfl (lv_at hl 0 rfl) ?_
  refine lv_dup hx hb dX12_begins_20 rfl ?_
  refine va_get (D := D) hx hb hts inlX12 hown hK hP 55 (jc_55 cI cL ad σ1 τ) rfl 55 (by decide) (hts _ kw_49_7) (fun _ h9 => h9) rfl dX12_begins_21 ?_
  have m2 : σ1 55 55 = 2 := ((congrFun (jnp 55 eσ1 (by decide)) 55).trans h55_55)
  refine jtopr m2 ?_
  refine lv_iconst (v := 1) hx hb dX12_begins_24 (by decide) ?_
  refine lv_iadd hx hb dX12_begins_25 ?_
  refine jtopr (y := 3) (by decide) ?_
  refine jput (ty := .int) hx hb hts inlX12 tyX12 tyX12_ok nmX12 hown hK hP hJ hA hS (jc_55 cI cL ad σ1 τ) rfl (k := 55) (by decide) (Nat.le_of_ble_eq_true rfl) (jp_55_55 cI cL ad σ1 τ 3) (hts _ kw_49_7) (fun _ h9 => h9) rfl (by decide +kernel) rfl rfl dX12_begins_26 (fun σ3 H locs eσ3 hP hS => ?_)
  have m4 : σ3 55 55 = 3 := (jsp eσ3)
  have m5 : σ3 85 2 = 1 := ((congrFun (jnp 85 eσ3 (by decide)) 2).trans (jsp eσ1))
  exact hret σ3 τ _ _ _ _ ⟨rfl, (fun i hi => ((jnp i eσ3 (imp_345 i hi)).trans (jnp i eσ1 (imp_346 i hi)))), (fun i hi => ((jkp i eσ3 (imp_164 i hi)).trans (congrFun (jnp 55 eσ1 (by decide)) i))), (fun i hi => ((congrFun (jnp 85 eσ3 (by decide)) i).trans (jkp i eσ1 (imp_7 i hi)))), m4, m5, trivial⟩ hP hS dX12_begins_29
set_option maxHeartbeats 4000000 in
set_option maxRecDepth 100000 in
theorem c_X12_putsAs_0_0_2 (l : Launch) (D : va_G) (cI cL : ClassId) (ad zz : Nat → Nat) (hJ : jD ad) (σ : Nat → Nat → Int32) (τ : Nat → Nat → Int64) (a2 : Int32) (A2 : Int) (t2 : a2.toInt = A2) (h55_55 : σ 55 55 = 2) (hp0 : (σ 55 56).toInt = 0) : jM l yX12_putsAs cX12_putsAs 3 (some .int) ({ frames := 1, cells := 0, slots := 0, locals := 21 }) D cI cL ad zz [.ref (ad 55), .int 0, .int a2] σ τ (fun r σ' τ' => τ = τ' ∧ (∀ i : Nat, (i < 55 ∨ 55 < i) ∧ (i < 85 ∨ 85 < i) → σ' i = σ i) ∧ (∀ k : Nat, (k < 55 ∨ 55 < k) → σ' 55 k = σ 55 k) ∧ (∀ k : Nat, (k < 2 ∨ 2 < k) → σ' 85 k = σ 85 k) ∧ (σ' 55 55 = 3) ∧ (σ' 85 2 = 1) ∧ ((r = (a2 + (σ 55 57)) ∧ True))) := by
  refine jM.of hJ (by decide +kernel) (nt := .int) rfl (Nat.le_of_ble_eq_true rfl) ?_
  intro p e s m args below meth c Q ls hC hret hl hP
  obtain ⟨hx, hb, hr, hml, hown, hts, hK, -, hlocks, hZ⟩ := hC
  have hown : s.vm.findClass RX12 = some m.cls := hown
  have hS : va_S (jA ad) s.heap s.heap [] := va_S.rf
  have hA : ∀ q, jA ad q → jA ad q := fun _ h => h
  have hl : lv_has ls 3 [(0, .ref (ad 55)), (1, .int 0), (2, .int a2)] := hl
  have g2 := jrg t2
  refine lv_iload_n hx hb dX12_putsAs_0 rfl (lv_at hl 1 rfl) ?_
  refine lv_iconst (v := 4) hx hb dX12_putsAs_1 (by decide) ?_
  refine lv_icmp_ne (tgt := 20) hx hb dX12_putsAs_2 (by decide) (fun _ => ?_) (fun c => absurd c (by decide))
  refine lv_iload_n hx hb dX12_putsAs_20 rfl (lv_at hl 1 rfl) ?_
  refine lv_iconst (v := 1) hx hb dX12_putsAs_21 (by decide) ?_
  refine lv_icmp_ne (tgt := 40) hx hb dX12_putsAs_22 (by decide) (fun _ => ?_) (fun c => absurd c (by decide))
  refine lv_aload_n hx hb dX12_putsAs_40 rfl (lv_at hl 0 rfl) ?_
  refine lv_iconst (v := 1) hx hb dX12_putsAs_41 (by decide) ?_
  refine jcallVv (As := [.int 1]) (rest := []) ⟨hx, hb, hml, hown, hts⟩ hK hP hA hS hZ (c_X12_begins_1_2 l D cI cL ad zz hJ σ τ h55_55) cw_RX12_379 (jc_55 cI cL ad σ τ) rfl ⟨Nat.le_of_ble_eq_true rfl, Nat.le_of_ble_eq_true rfl⟩ rfl rfl rfl hl.1 rfl (Nat.le_of_ble_eq_true rfl) dX12_putsAs_42 ⟨Nat.zero_le _, Nat.zero_le _⟩ (fun σ1 τ1 H locs h1 hP hS => ?_)
  obtain ⟨rfl, f3, f4, f5, m6, m7, h1⟩ := h1
  refine lv_iload_n hx hb dX12_putsAs_45 rfl (lv_at hl 2 rfl) ?_
  refine lv_aload_n hx hb dX12_putsAs_46 rfl (lv_at hl 0 rfl) ?_
  refine va_get (D := D) hx hb hts inlX12 hown hK hP 55 (jc_55 cI cL ad σ1 τ) rfl 57 (by decide) (hts _ kw_49_9) (fun _ h9 => h9) rfl dX12_putsAs_47 ?_
  have m8 : σ1 55 57 = (σ 55 57) := (f4 57 (by decide))
  refine jtopr m8 ?_
  have g9 := jrg (rfl : (σ 55 57).toInt = (σ 55 57).toInt)
  refine lv_iadd hx hb dX12_putsAs_50 ?_
  refine lv_topi (fun x10 ex10 => ?_)
  have gx10 := jrg (rfl : x10.toInt = x10.toInt)
  exact hret x10 σ1 τ _ _ _ _ rfl ⟨rfl, (fun i hi => (f3 i hi)), (fun i hi => (f4 i hi)), (fun i hi => (f5 i hi)), m6, m7, ⟨(by rw [ex10]), trivial⟩⟩ hP hS dX12_putsAs_51
set_option maxHeartbeats 4000000 in
set_option maxRecDepth 100000 in
theorem c_X12_holdsAs_0_0_1 (l : Launch) (D : va_G) (cI cL : ClassId) (ad zz : Nat → Nat) (hJ : jD ad) (σ : Nat → Nat → Int32) (τ : Nat → Nat → Int64) (a2 : Int32) (A2 : Int) (t2 : a2.toInt = A2) (h55_55 : σ 55 55 = 1) (hp0 : (σ 55 56).toInt = 0) : jM l yX12_holdsAs cX12_holdsAs 4 (some .int) ({ frames := 2, cells := 0, slots := 0, locals := 43 }) D cI cL ad zz [.ref (ad 55), .int 0, .int a2] σ τ (fun r σ' τ' => τ = τ' ∧ (∀ i : Nat, (i < 55 ∨ 55 < i) ∧ (i < 85 ∨ 85 < i) → σ' i = σ i) ∧ (∀ k : Nat, (k < 55 ∨ 55 < k) → σ' 55 k = σ 55 k) ∧ (∀ k : Nat, (k < 1 ∨ 1 < k) ∧ (k < 2 ∨ 2 < k) → σ' 85 k = σ 85 k) ∧ (σ' 55 55 = 3) ∧ (σ' 85 1 = 10) ∧ (σ' 85 2 = 1) ∧ ((r = ((a2 + (σ 55 57)) * 2) ∧ True))) := by
  refine jM.of hJ (by decide +kernel) (nt := .int) rfl (Nat.le_of_ble_eq_true rfl) ?_
  intro p e s m args below meth c Q ls hC hret hl hP
  obtain ⟨hx, hb, hr, hml, hown, hts, hK, -, hlocks, hZ⟩ := hC
  have hown : s.vm.findClass RX12 = some m.cls := hown
  have hS : va_S (jA ad) s.heap s.heap [] := va_S.rf
  have hA : ∀ q, jA ad q → jA ad q := fun _ h => h
  have hl : lv_has ls 4 [(0, .ref (ad 55)), (1, .int 0), (2, .int a2)] := hl
  have g2 := jrg t2
  refine lv_iload_n hx hb dX12_holdsAs_0 rfl (lv_at hl 1 rfl) ?_
  refine lv_iconst (v := 3) hx hb dX12_holdsAs_1 (by decide) ?_
  refine lv_icmp_eq (tgt := 10) hx hb dX12_holdsAs_2 (by decide) (fun c => absurd c (by decide)) (fun _ => ?_)
  refine lv_iload_n hx hb dX12_holdsAs_5 rfl (lv_at hl 1 rfl) ?_
  refine lv_iconst (v := 5) hx hb dX12_holdsAs_6 (by decide) ?_
  refine lv_icmp_ne (tgt := 24) hx hb dX12_holdsAs_7 (by decide) (fun _ => ?_) (fun c => absurd c (by decide))
  refine lv_iload_n hx hb dX12_holdsAs_24 rfl (lv_at hl 1 rfl) ?_
  refine lv_bipush (v := 6) hx hb dX12_holdsAs_25 (by decide) ?_
  refine lv_icmp_ne (tgt := 55) hx hb dX12_holdsAs_27 (by decide) (fun _ => ?_) (fun c => absurd c (by decide))
  refine lv_aload_n hx hb dX12_holdsAs_55 rfl (lv_at hl 0 rfl) ?_
  refine lv_bipush (v := 10) hx hb dX12_holdsAs_56 (by decide) ?_
  refine jcallVv (As := [.int 10]) (rest := []) ⟨hx, hb, hml, hown, hts⟩ hK hP hA hS hZ (c_X12_begins_10_1 l D cI cL ad zz hJ σ τ h55_55) cw_RX12_379 (jc_55 cI cL ad σ τ) rfl ⟨Nat.le_of_ble_eq_true rfl, Nat.le_of_ble_eq_true rfl⟩ rfl rfl rfl hl.1 rfl (Nat.le_of_ble_eq_true rfl) dX12_holdsAs_58 ⟨Nat.zero_le _, Nat.zero_le _⟩ (fun σ1 τ1 H locs h1 hP hS => ?_)
  obtain ⟨rfl, f3, f4, f5, m6, m7, h1⟩ := h1
  refine lv_aload_n hx hb dX12_holdsAs_61 rfl (lv_at hl 0 rfl) ?_
  refine lv_aload_n hx hb dX12_holdsAs_62 rfl (lv_at hl 0 rfl) ?_
  refine va_get (D := D) hx hb hts inlX12 hown hK hP 55 (jc_55 cI cL ad σ1 τ) rfl 56 (by decide) (hts _ kw_49_8) (fun _ h9 => h9) rfl dX12_holdsAs_63 ?_
  have m8 : σ1 55 56 = (σ 55 56) := (f4 56 (by decide))
  refine jtopr m8 ?_
  refine jtopr (jsame (rfl : (σ 55 56).toInt = (σ 55 56).toInt) jz_0 (by omega)) ?_
  refine lv_iload_n hx hb dX12_holdsAs_66 rfl (lv_at hl 2 rfl) ?_
  have z9 : (σ1 55 56).toInt = (σ 55 56).toInt := (congrArg Int32.toInt (show σ1 55 56 = (σ 55 56) from m8))
  refine jcallV (As := [.int 0, .int a2]) (rest := []) ⟨hx, hb, hml, hown, hts⟩ hK hP hA hS hZ (c_X12_putsAs_0_0_2 l D cI cL ad zz hJ σ1 τ a2 (A2) t2 m6 (by omega)) cw_RX12_382 (jc_55 cI cL ad σ1 τ) rfl ⟨Nat.le_of_ble_eq_true rfl, Nat.le_of_ble_eq_true rfl⟩ rfl rfl rfl hl.1 rfl (Nat.le_of_ble_eq_true rfl) dX12_holdsAs_67 ⟨Nat.zero_le _, Nat.zero_le _⟩ (fun r11 σ10 τ10 H locs h10 hP hS => ?_)
  obtain ⟨rfl, f12, f13, f14, m15, m16, h10⟩ := h10
  have h17 := h10
  obtain ⟨q19, k18⟩ := h17
  have q19 := q19.symm
  subst q19
  refine lv_iconst (v := 2) hx hb dX12_holdsAs_70 (by decide) ?_
  have g20 := jrg (rfl : (a2 + (σ1 55 57)).toInt = (a2 + (σ1 55 57)).toInt)
  refine lv_imul hx hb dX12_holdsAs_71 ?_
  refine lv_topi (fun x21 ex21 => ?_)
  have gx21 := jrg (rfl : x21.toInt = x21.toInt)
  have m22 : σ10 85 1 = 10 := ((f14 1 (by decide)).trans m7)
  exact hret x21 σ10 τ _ _ _ _ rfl ⟨rfl, (fun i hi => ((f12 i hi).trans (f3 i hi))), (fun i hi => ((f13 i hi).trans (f4 i hi))), (fun i hi => ((f14 i (imp_43 i hi)).trans (f5 i (imp_60 i hi)))), m15, m22, m16, ⟨(by rw [ex21, (show σ1 55 57 = σ 55 57 from (f4 57 (by decide)))]), trivial⟩⟩ hP hS dX12_holdsAs_72
set_option maxHeartbeats 4000000 in
set_option maxRecDepth 100000 in
theorem c_X12_begins_11_3 (l : Launch) (D : va_G) (cI cL : ClassId) (ad zz : Nat → Nat) (hJ : jD ad) (σ : Nat → Nat → Int32) (τ : Nat → Nat → Int64) (h55_55 : σ 55 55 = 3) : jMv l yX12_begins cX12_begins 2 none ({ frames := 0, cells := 0, slots := 0, locals := 0 }) D cI cL ad zz [.ref (ad 55), .int 11] σ τ (fun σ' τ' => τ = τ' ∧ (∀ i : Nat, (i < 55 ∨ 55 < i) ∧ (i < 85 ∨ 85 < i) → σ' i = σ i) ∧ (∀ k : Nat, (k < 55 ∨ 55 < k) → σ' 55 k = σ 55 k) ∧ (∀ k : Nat, (k < 3 ∨ 3 < k) → σ' 85 k = σ 85 k) ∧ (σ' 55 55 = 4) ∧ (σ' 85 3 = 11) ∧ True) := by
  refine jMv.of hJ (by decide +kernel) rfl (Nat.le_of_ble_eq_true rfl) ?_
  intro p e s m args below meth c Q ls hC hret hl hP
  obtain ⟨hx, hb, hr, hml, hown, hts, hK, -, hlocks, hZ⟩ := hC
  have hown : s.vm.findClass RX12 = some m.cls := hown
  have hS : va_S (jA ad) s.heap s.heap [] := va_S.rf
  have hA : ∀ q, jA ad q → jA ad q := fun _ h => h
  have hl : lv_has ls 2 [(0, .ref (ad 55)), (1, .int 11)] := hl
  refine lv_aload_n hx hb dX12_begins_0 rfl (lv_at hl 0 rfl) ?_
  refine va_get (D := D) hx hb hts inlX12 hown hK hP 55 (jc_55 cI cL ad σ τ) rfl 55 (by decide) (hts _ kw_49_7) (fun _ h9 => h9) rfl dX12_begins_1 ?_
  refine jtopr h55_55 ?_
  refine lv_bipush (v := 24) hx hb dX12_begins_4 (by decide) ?_
  refine lv_icmp_ge (tgt := 19) hx hb dX12_begins_6 (by decide) (fun c => absurd c (by decide)) (fun _ => ?_)
  refine lv_aload_n hx hb dX12_begins_9 rfl (lv_at hl 0 rfl) ?_
  refine va_get (D := D) hx hb hts inlX12 hown hK hP 55 (jc_55 cI cL ad σ τ) rfl 54 (by decide) (hts _ kw_8_10) (fun _ h9 => h9) rfl dX12_begins_10 ?_
  refine lv_aload_n hx hb dX12_begins_13 rfl (lv_at hl 0 rfl) ?_
  refine va_get (D := D) hx hb hts inlX12 hown hK hP 55 (jc_55 cI cL ad σ τ) rfl 55 (by decide) (hts _ kw_49_7) (fun _ h9 => h9) rfl dX12_begins_14 ?_
  refine jtopr h55_55 ?_
  refine lv_iload_n hx hb dX12_begins_17 rfl (lv_at hl 1 rfl) ?_
  refine jast hx hb hK hP hJ hA hS (jc_85 cI cL ad σ τ) (ja_85 cI cL ad σ τ _ _) (jin jz_3 (by omega) (by omega)) dX12_begins_18 (fun σ1 H locs eσ1 hP hS => ?_)
  have eσ1 : σ1 = jup σ 85 3 11 := eσ1
  refine lv_aload_n hx hb dX12_begins_19 rfl (lv_at hl 0 rfl) ?_
  refine lv_dup hx hb dX12_begins_20 rfl ?_
  refine va_get (D := D) hx hb hts inlX12 hown hK hP 55 (jc_55 cI cL ad σ1 τ) rfl 55 (by decide) (hts _ kw_49_7) (fun _ h9 => h9) rfl dX12_begins_21 ?_
  have m2 : σ1 55 55 = 3 := ((congrFun (jnp 55 eσ1 (by decide)) 55).trans h55_55)
  refine jtopr m2 ?_
  refine lv_iconst (v := 1) hx hb dX12_begins_24 (by decide) ?_
  refine lv_iadd hx hb dX12_begins_25 ?_
  refine jtopr (y := 4) (by decide) ?_
  refine jput (ty := .int) hx hb hts inlX12 tyX12 tyX12_ok nmX12 hown hK hP hJ hA hS (jc_55 cI cL ad σ1 τ) rfl (k := 55) (by decide) (Nat.le_of_ble_eq_true rfl) (jp_55_55 cI cL ad σ1 τ 4) (hts _ kw_49_7) (fun _ h9 => h9) rfl (by decide +kernel) rfl rfl dX12_begins_26 (fun σ3 H locs eσ3 hP hS => ?_)
  have m4 : σ3 55 55 = 4 := (jsp eσ3)
  have m5 : σ3 85 3 = 11 := ((congrFun (jnp 85 eσ3 (by decide)) 3).trans (jsp eσ1))
  exact hret σ3 τ _ _ _ _ ⟨rfl, (fun i hi => ((jnp i eσ3 (imp_345 i hi)).trans (jnp i eσ1 (imp_346 i hi)))), (fun i hi => ((jkp i eσ3 (imp_164 i hi)).trans (congrFun (jnp 55 eσ1 (by decide)) i))), (fun i hi => ((congrFun (jnp 85 eσ3 (by decide)) i).trans (jkp i eσ1 (imp_303 i hi)))), m4, m5, trivial⟩ hP hS dX12_begins_29
set_option maxHeartbeats 4000000 in
set_option maxRecDepth 100000 in
theorem c_X12_givesAs_0_0_3_x1 (l : Launch) (D : va_G) (cI cL : ClassId) (ad zz : Nat → Nat) (hJ : jD ad) (σ : Nat → Nat → Int32) (τ : Nat → Nat → Int64) (h55_55 : σ 55 55 = 3) (hp0 : (σ 55 56).toInt = 0) : jM l yX12_givesAs cX12_givesAs 4 (some .int) ({ frames := 1, cells := 0, slots := 0, locals := 21 }) D cI cL ad zz [.ref (ad 55), .int 0, .int 1] σ τ (fun r σ' τ' => τ = τ' ∧ (∀ i : Nat, (i < 55 ∨ 55 < i) ∧ (i < 85 ∨ 85 < i) → σ' i = σ i) ∧ (∀ k : Nat, (k < 55 ∨ 55 < k) → σ' 55 k = σ 55 k) ∧ (∀ k : Nat, (k < 3 ∨ 3 < k) → σ' 85 k = σ 85 k) ∧ (σ' 55 55 = 4) ∧ (σ' 85 3 = 11) ∧ ((r = (1 ^^^ (σ 55 57)) ∧ True))) := by
  refine jM.of hJ (by decide +kernel) (nt := .int) rfl (Nat.le_of_ble_eq_true rfl) ?_
  intro p e s m args below meth c Q ls hC hret hl hP
  obtain ⟨hx, hb, hr, hml, hown, hts, hK, -, hlocks, hZ⟩ := hC
  have hown : s.vm.findClass RX12 = some m.cls := hown
  have hS : va_S (jA ad) s.heap s.heap [] := va_S.rf
  have hA : ∀ q, jA ad q → jA ad q := fun _ h => h
  have hl : lv_has ls 4 [(0, .ref (ad 55)), (1, .int 0), (2, .int 1)] := hl
  refine lv_iload_n hx hb dX12_givesAs_0 rfl (lv_at hl 1 rfl) ?_
  refine lv_iconst (v := 5) hx hb dX12_givesAs_1 (by decide) ?_
  refine lv_icmp_ne (tgt := 30) hx hb dX12_givesAs_2 (by decide) (fun _ => ?_) (fun c => absurd c (by decide))
  refine lv_iload_n hx hb dX12_givesAs_30 rfl (lv_at hl 1 rfl) ?_
  refine lv_iconst (v := 2) hx hb dX12_givesAs_31 (by decide) ?_
  refine lv_icmp_eq (tgt := 40) hx hb dX12_givesAs_32 (by decide) (fun c => absurd c (by decide)) (fun _ => ?_)
  refine lv_iload_n hx hb dX12_givesAs_35 rfl (lv_at hl 1 rfl) ?_
  refine lv_iconst (v := 3) hx hb dX12_givesAs_36 (by decide) ?_
  refine lv_icmp_ne (tgt := 55) hx hb dX12_givesAs_37 (by decide) (fun _ => ?_) (fun c => absurd c (by decide))
  refine lv_aload_n hx hb dX12_givesAs_55 rfl (lv_at hl 0 rfl) ?_
  refine lv_bipush (v := 11) hx hb dX12_givesAs_56 (by decide) ?_
  refine jcallVv (As := [.int 11]) (rest := []) ⟨hx, hb, hml, hown, hts⟩ hK hP hA hS hZ (c_X12_begins_11_3 l D cI cL ad zz hJ σ τ h55_55) cw_RX12_379 (jc_55 cI cL ad σ τ) rfl ⟨Nat.le_of_ble_eq_true rfl, Nat.le_of_ble_eq_true rfl⟩ rfl rfl rfl hl.1 rfl (Nat.le_of_ble_eq_true rfl) dX12_givesAs_58 ⟨Nat.zero_le _, Nat.zero_le _⟩ (fun σ1 τ1 H locs h1 hP hS => ?_)
  obtain ⟨rfl, f3, f4, f5, m6, m7, h1⟩ := h1
  refine lv_iload_n hx hb dX12_givesAs_61 rfl (lv_at hl 2 rfl) ?_
  refine lv_aload_n hx hb dX12_givesAs_62 rfl (lv_at hl 0 rfl) ?_
  refine va_get (D := D) hx hb hts inlX12 hown hK hP 55 (jc_55 cI cL ad σ1 τ) rfl 57 (by decide) (hts _ kw_49_9) (fun _ h9 => h9) rfl dX12_givesAs_63 ?_
  have m8 : σ1 55 57 = (σ 55 57) := (f4 57 (by decide))
  refine jtopr m8 ?_
  refine lv_ixor hx hb dX12_givesAs_66 ?_
  refine lv_topi (fun x9 ex9 => ?_)
  have gx9 := jrg (rfl : x9.toInt = x9.toInt)
  exact hret x9 σ1 τ _ _ _ _ rfl ⟨rfl, (fun i hi => (f3 i hi)), (fun i hi => (f4 i hi)), (fun i hi => (f5 i hi)), m6, m7, ⟨(by rw [ex9]), trivial⟩⟩ hP hS dX12_givesAs_67
set_option maxHeartbeats 4000000 in
set_option maxRecDepth 100000 in
theorem c_X12_tellsAs_0_0_0 (l : Launch) (D : va_G) (cI cL : ClassId) (ad zz : Nat → Nat) (hJ : jD ad) (σ : Nat → Nat → Int32) (τ : Nat → Nat → Int64) (a2 : Int32) (A2 : Int) (t2 : a2.toInt = A2) (h55_55 : σ 55 55 = 0) (hp0 : (σ 55 56).toInt = 0) : jM l yX12_tellsAs cX12_tellsAs 4 (some .int) ({ frames := 3, cells := 0, slots := 0, locals := 66 }) D cI cL ad zz [.ref (ad 55), .int 0, .int a2] σ τ (fun r σ' τ' => τ = τ' ∧ (∀ i : Nat, (i < 55 ∨ 55 < i) ∧ (i < 85 ∨ 85 < i) → σ' i = σ i) ∧ (∀ k : Nat, (k < 55 ∨ 55 < k) → σ' 55 k = σ 55 k) ∧ (∀ k : Nat, (k < 0 ∨ 0 < k) ∧ (k < 1 ∨ 1 < k) ∧ (k < 2 ∨ 2 < k) ∧ (k < 3 ∨ 3 < k) → σ' 85 k = σ 85 k) ∧ (σ' 55 55 = 4) ∧ (σ' 85 0 = 2) ∧ (σ' 85 1 = 10) ∧ (σ' 85 2 = 1) ∧ (σ' 85 3 = 11) ∧ ((r = (((a2 + (σ 55 57)) * 2) - (1 ^^^ (σ 55 57))) ∧ True))) := by
  refine jM.of hJ (by decide +kernel) (nt := .int) rfl (Nat.le_of_ble_eq_true rfl) ?_
  intro p e s m args below meth c Q ls hC hret hl hP
  obtain ⟨hx, hb, hr, hml, hown, hts, hK, -, hlocks, hZ⟩ := hC
  have hown : s.vm.findClass RX12 = some m.cls := hown
  have hS : va_S (jA ad) s.heap s.heap [] := va_S.rf
  have hA : ∀ q, jA ad q → jA ad q := fun _ h => h
  have hl : lv_has ls 4 [(0, .ref (ad 55)), (1, .int 0), (2, .int a2)] := hl
  have g2 := jrg t2
  refine lv_iload_n hx hb dX12_tellsAs_0 rfl (lv_at hl 1 rfl) ?_
  refine lv_iconst (v := 4) hx hb dX12_tellsAs_1 (by decide) ?_
  refine lv_icmp_ne (tgt := 20) hx hb dX12_tellsAs_2 (by decide) (fun _ => ?_) (fun c => absurd c (by decide))
  refine lv_aload_n hx hb dX12_tellsAs_20 rfl (lv_at hl 0 rfl) ?_
  refine lv_iconst (v := 2) hx hb dX12_tellsAs_21 (by decide) ?_
  refine jcallVv (As := [.int 2]) (rest := []) ⟨hx, hb, hml, hown, hts⟩ hK hP hA hS hZ (c_X12_begins_2_0 l D cI cL ad zz hJ σ τ h55_55) cw_RX12_379 (jc_55 cI cL ad σ τ) rfl ⟨Nat.le_of_ble_eq_true rfl, Nat.le_of_ble_eq_true rfl⟩ rfl rfl rfl hl.1 rfl (Nat.le_of_ble_eq_true rfl) dX12_tellsAs_22 ⟨Nat.zero_le _, Nat.zero_le _⟩ (fun σ1 τ1 H locs h1 hP hS => ?_)
  obtain ⟨rfl, f3, f4, f5, m6, m7, h1⟩ := h1
  refine lv_aload_n hx hb dX12_tellsAs_25 rfl (lv_at hl 0 rfl) ?_
  refine lv_aload_n hx hb dX12_tellsAs_26 rfl (lv_at hl 0 rfl) ?_
  refine va_get (D := D) hx hb hts inlX12 hown hK hP 55 (jc_55 cI cL ad σ1 τ) rfl 56 (by decide) (hts _ kw_49_8) (fun _ h9 => h9) rfl dX12_tellsAs_27 ?_
  have m8 : σ1 55 56 = (σ 55 56) := (f4 56 (by decide))
  refine jtopr m8 ?_
  refine jtopr (jsame (rfl : (σ 55 56).toInt = (σ 55 56).toInt) jz_0 (by omega)) ?_
  refine lv_iload_n hx hb dX12_tellsAs_30 rfl (lv_at hl 2 rfl) ?_
  have z9 : (σ1 55 56).toInt = (σ 55 56).toInt := (congrArg Int32.toInt (show σ1 55 56 = (σ 55 56) from m8))
  refine jcallV (As := [.int 0, .int a2]) (rest := []) ⟨hx, hb, hml, hown, hts⟩ hK hP hA hS hZ (c_X12_holdsAs_0_0_1 l D cI cL ad zz hJ σ1 τ a2 (A2) t2 m6 (by omega)) cw_RX12_388 (jc_55 cI cL ad σ1 τ) rfl ⟨Nat.le_of_ble_eq_true rfl, Nat.le_of_ble_eq_true rfl⟩ rfl rfl rfl hl.1 rfl (Nat.le_of_ble_eq_true rfl) dX12_tellsAs_31 ⟨Nat.zero_le _, Nat.zero_le _⟩ (fun r11 σ10 τ10 H locs h10 hP hS => ?_)
  obtain ⟨rfl, f12, f13, f14, m15, m16, m17, h10⟩ := h10
  have h18 := h10
  obtain ⟨q20, k19⟩ := h18
  have q20 := q20.symm
  subst q20
  refine lv_istore_n (lv' := [(3, .int ((a2 + (σ1 55 57)) * 2)), (0, .ref (ad 55)), (1, .int 0), (2, .int a2)]) hx hb dX12_tellsAs_34 rfl hl (by decide) rfl (fun ls hl => ?_)
  refine lv_iload_n hx hb dX12_tellsAs_35 rfl (lv_at hl 0 rfl) ?_
  refine lv_aload_n hx hb dX12_tellsAs_36 rfl (lv_at hl 1 rfl) ?_
  refine lv_aload_n hx hb dX12_tellsAs_37 rfl (lv_at hl 1 rfl) ?_
  refine va_get (D := D) hx hb hts inlX12 hown hK hP 55 (jc_55 cI cL ad σ10 τ) rfl 56 (by decide) (hts _ kw_49_8) (fun _ h9 => h9) rfl dX12_tellsAs_38 ?_
  have m21 : σ10 55 56 = (σ 55 56) := ((f13 56 (by decide)).trans m8)
  refine jtopr m21 ?_
  refine jtopr (jsame (rfl : (σ 55 56).toInt = (σ 55 56).toInt) jz_0 (by omega)) ?_
  refine lv_iconst (v := 1) hx hb dX12_tellsAs_41 (by decide) ?_
  have z22 : (σ10 55 56).toInt = (σ 55 56).toInt := (congrArg Int32.toInt (show σ10 55 56 = (σ 55 56) from m21))
  refine jcallV (As := [.int 0, .int 1]) (rest := [.int ((a2 + (σ1 55 57)) * 2)]) ⟨hx, hb, hml, hown, hts⟩ hK hP hA hS hZ (c_X12_givesAs_0_0_3_x1 l D cI cL ad zz hJ σ10 τ m15 (by omega)) cw_RX12_394 (jc_55 cI cL ad σ10 τ) rfl ⟨Nat.le_of_ble_eq_true rfl, Nat.le_of_ble_eq_true rfl⟩ rfl rfl rfl hl.1 rfl (Nat.le_of_ble_eq_true rfl) dX12_tellsAs_42 ⟨Nat.zero_le _, Nat.zero_le _⟩ (fun r24 σ23 τ23 H locs h23 hP hS => ?_)
  obtain ⟨rfl, f25, f26, f27, m28, m29, h23⟩ := h23
  have h30 := h23
  obtain ⟨q32, k31⟩ := h30
  have q32 := q32.symm
  subst q32
  have g33 := jrg (rfl : ((a2 + (σ1 55 57)) * 2).toInt = ((a2 + (σ1 55 57)) * 2).toInt)
  have g34 := jrg (rfl : (1 ^^^ (σ10 55 57)).toInt = (1 ^^^ (σ10 55 57)).toInt)
  refine lv_isub hx hb dX12_tellsAs_45 ?_
  refine lv_topi (fun x35 ex35 => ?_)
  have gx35 := jrg (rfl : x35.toInt = x35.toInt)
  have m36 : σ23 85 0 = 2 := ((f27 0 (by decide)).trans ((f14 0 (by decide)).trans m7))
  have m37 : σ23 85 1 = 10 := ((f27 1 (by decide)).trans m16)
  have m38 : σ23 85 2 = 1 := ((f27 2 (by decide)).trans m17)
  exact hret x35 σ23 τ _ _ _ _ rfl ⟨rfl, (fun i hi => ((f25 i hi).trans ((f12 i hi).trans (f3 i hi)))), (fun i hi => ((f26 i hi).trans ((f13 i hi).trans (f4 i hi)))), (fun i hi => ((f27 i (imp_304 i hi)).trans ((f14 i (imp_305 i hi)).trans (f5 i (imp_348 i hi))))), m28, m36, m37, m38, m29, ⟨(by rw [ex35, (show σ1 55 57 = σ 55 57 from (f4 57 (by decide))), (show σ10 55 57 = σ 55 57 from ((f13 57 (by decide)).trans (f4 57 (by decide))))]), trivial⟩⟩ hP hS dX12_tellsAs_46
set_option maxHeartbeats 4000000 in
set_option maxRecDepth 100000 in
theorem c_X12_begins_20_0 (l : Launch) (D : va_G) (cI cL : ClassId) (ad zz : Nat → Nat) (hJ : jD ad) (σ : Nat → Nat → Int32) (τ : Nat → Nat → Int64) (h55_55 : σ 55 55 = 0) : jMv l yX12_begins cX12_begins 2 none ({ frames := 0, cells := 0, slots := 0, locals := 0 }) D cI cL ad zz [.ref (ad 55), .int 20] σ τ (fun σ' τ' => τ = τ' ∧ (∀ i : Nat, (i < 55 ∨ 55 < i) ∧ (i < 85 ∨ 85 < i) → σ' i = σ i) ∧ (∀ k : Nat, (k < 55 ∨ 55 < k) → σ' 55 k = σ 55 k) ∧ (∀ k : Nat, (k < 0 ∨ 0 < k) → σ' 85 k = σ 85 k) ∧ (σ' 55 55 = 1) ∧ (σ' 85 0 = 20) ∧ True) := by
  refine jMv.of hJ (by decide +kernel) rfl (Nat.le_of_ble_eq_true rfl) ?_
  intro p e s m args below meth c Q ls hC hret hl hP
  obtain ⟨hx, hb, hr, hml, hown, hts, hK, -, hlocks, hZ⟩ := hC
  have hown : s.vm.findClass RX12 = some m.cls := hown
  have hS : va_S (jA ad) s.heap s.heap [] := va_S.rf
  have hA : ∀ q, jA ad q → jA ad q := fun _ h => h
  have hl : lv_has ls 2 [(0, .ref (ad 55)), (1, .int 20)] := hl
  refine lv_aload_n hx hb dX12_begins_0 rfl (lv_at hl 0 rfl) ?_
  refine va_get (D := D) hx hb hts inlX12 hown hK hP 55 (jc_55 cI cL ad σ τ) rfl 55 (by decide) (hts _ kw_49_7) (fun _ h9 => h9) rfl dX12_begins_1 ?_
  refine jtopr h55_55 ?_
  refine lv_bipush (v := 24) hx hb dX12_begins_4 (by decide) ?_
  refine lv_icmp_ge (tgt := 19) hx hb dX12_begins_6 (by decide) (fun c => absurd c (by decide)) (fun _ => ?_)
  refine lv_aload_n hx hb dX12_begins_9 rfl (lv_at hl 0 rfl) ?_
  refine va_get (D := D) hx hb hts inlX12 hown hK hP 55 (jc_55 cI cL ad σ τ) rfl 54 (by decide) (hts _ kw_8_10) (fun _ h9 => h9) rfl dX12_begins_10 ?_
  refine lv_aload_n hx hb dX12_begins_13 rfl (lv_at hl 0 rfl) ?_
  refine va_get (D := D) hx hb hts inlX12 hown hK hP 55 (jc_55 cI cL ad σ τ) rfl 55 (by decide) (hts _ kw_49_7) (fun _ h9 => h9) rfl dX12_begins_14 ?_
  refine jtopr h55_55 ?_
  refine lv_iload_n hx hb dX12_begins_17 rfl (lv_at hl 1 rfl) ?_
  refine jast hx hb hK hP hJ hA hS (jc_85 cI cL ad σ τ) (ja_85 cI cL ad σ τ _ _) (jin jz_0 (by omega) (by omega)) dX12_begins_18 (fun σ1 H locs eσ1 hP hS => ?_)
  have eσ1 : σ1 = jup σ 85 0 20 := eσ1
  refine lv_aload_n hx hb dX12_begins_19 rfl (lv_at hl 0 rfl) ?_
  refine lv_dup hx hb dX12_begins_20 rfl ?_
  refine va_get (D := D) hx hb hts inlX12 hown hK hP 55 (jc_55 cI cL ad σ1 τ) rfl 55 (by decide) (hts _ kw_49_7) (fun _ h9 => h9) rfl dX12_begins_21 ?_
  have m2 : σ1 55 55 = 0 := ((congrFun (jnp 55 eσ1 (by decide)) 55).trans h55_55)
  refine jtopr m2 ?_
  refine lv_iconst (v := 1) hx hb dX12_begins_24 (by decide) ?_
  refine lv_iadd hx hb dX12_begins_25 ?_
  refine jtopr (y := 1) (by decide) ?_
  refine jput (ty := .int) hx hb hts inlX12 tyX12 tyX12_ok nmX12 hown hK hP hJ hA hS (jc_55 cI cL ad σ1 τ) rfl (k := 55) (by decide) (Nat.le_of_ble_eq_true rfl) (jp_55_55 cI cL ad σ1 τ 1) (hts _ kw_49_7) (fun _ h9 => h9) rfl (by decide +kernel) rfl rfl dX12_begins_26 (fun σ3 H locs eσ3 hP hS => ?_)
  have m4 : σ3 55 55 = 1 := (jsp eσ3)
  have m5 : σ3 85 0 = 20 := ((congrFun (jnp 85 eσ3 (by decide)) 0).trans (jsp eσ1))
  exact hret σ3 τ _ _ _ _ ⟨rfl, (fun i hi => ((jnp i eσ3 (imp_345 i hi)).trans (jnp i eσ1 (imp_346 i hi)))), (fun i hi => ((jkp i eσ3 (imp_164 i hi)).trans (congrFun (jnp 55 eσ1 (by decide)) i))), (fun i hi => ((congrFun (jnp 85 eσ3 (by decide)) i).trans (jkp i eσ1 (imp_4 i hi)))), m4, m5, trivial⟩ hP hS dX12_begins_29
set_option maxHeartbeats 4000000 in
set_option maxRecDepth 100000 in
theorem c_X12_putsAs_1_0_1 (l : Launch) (D : va_G) (cI cL : ClassId) (ad zz : Nat → Nat) (hJ : jD ad) (σ : Nat → Nat → Int32) (τ : Nat → Nat → Int64) (a2 : Int32) (A2 : Int) (t2 : a2.toInt = A2) (h55_55 : σ 55 55 = 1) (hp0 : (σ 55 56).toInt = 1) : jM l yX12_putsAs cX12_putsAs 3 (some .int) ({ frames := 1, cells := 0, slots := 0, locals := 21 }) D cI cL ad zz [.ref (ad 55), .int 0, .int a2] σ τ (fun r σ' τ' => τ = τ' ∧ (∀ i : Nat, (i < 55 ∨ 55 < i) ∧ (i < 85 ∨ 85 < i) → σ' i = σ i) ∧ (∀ k : Nat, (k < 55 ∨ 55 < k) → σ' 55 k = σ 55 k) ∧ (∀ k : Nat, (k < 1 ∨ 1 < k) → σ' 85 k = σ 85 k) ∧ (σ' 55 55 = 2) ∧ (σ' 85 1 = 1) ∧ ((r = (a2 + (σ 55 57)) ∧ True))) := by
  refine jM.of hJ (by decide +kernel) (nt := .int) rfl (Nat.le_of_ble_eq_true rfl) ?_
  intro p e s m args below meth c Q ls hC hret hl hP
  obtain ⟨hx, hb, hr, hml, hown, hts, hK, -, hlocks, hZ⟩ := hC
  have hown : s.vm.findClass RX12 = some m.cls := hown
  have hS : va_S (jA ad) s.heap s.heap [] := va_S.rf
  have hA : ∀ q, jA ad q → jA ad q := fun _ h => h
  have hl : lv_has ls 3 [(0, .ref (ad 55)), (1, .int 0), (2, .int a2)] := hl
  have g2 := jrg t2
  refine lv_iload_n hx hb dX12_putsAs_0 rfl (lv_at hl 1 rfl) ?_
  refine lv_iconst (v := 4) hx hb dX12_putsAs_1 (by decide) ?_
  refine lv_icmp_ne (tgt := 20) hx hb dX12_putsAs_2 (by decide) (fun _ => ?_) (fun c => absurd c (by decide))
  refine lv_iload_n hx hb dX12_putsAs_20 rfl (lv_at hl 1 rfl) ?_
  refine lv_iconst (v := 1) hx hb dX12_putsAs_21 (by decide) ?_
  refine lv_icmp_ne (tgt := 40) hx hb dX12_putsAs_22 (by decide) (fun _ => ?_) (fun c => absurd c (by decide))
  refine lv_aload_n hx hb dX12_putsAs_40 rfl (lv_at hl 0 rfl) ?_
  refine lv_iconst (v := 1) hx hb dX12_putsAs_41 (by decide) ?_
  refine jcallVv (As := [.int 1]) (rest := []) ⟨hx, hb, hml, hown, hts⟩ hK hP hA hS hZ (c_X12_begins_1_1 l D cI cL ad zz hJ σ τ h55_55) cw_RX12_379 (jc_55 cI cL ad σ τ) rfl ⟨Nat.le_of_ble_eq_true rfl, Nat.le_of_ble_eq_true rfl⟩ rfl rfl rfl hl.1 rfl (Nat.le_of_ble_eq_true rfl) dX12_putsAs_42 ⟨Nat.zero_le _, Nat.zero_le _⟩ (fun σ1 τ1 H locs h1 hP hS => ?_)
  obtain ⟨rfl, f3, f4, f5, m6, m7, h1⟩ := h1
  refine lv_iload_n hx hb dX12_putsAs_45 rfl (lv_at hl 2 rfl) ?_
  refine lv_aload_n hx hb dX12_putsAs_46 rfl (lv_at hl 0 rfl) ?_
  refine va_get (D := D) hx hb hts inlX12 hown hK hP 55 (jc_55 cI cL ad σ1 τ) rfl 57 (by decide) (hts _ kw_49_9) (fun _ h9 => h9) rfl dX12_putsAs_47 ?_
  have m8 : σ1 55 57 = (σ 55 57) := (f4 57 (by decide))
  refine jtopr m8 ?_
  have g9 := jrg (rfl : (σ 55 57).toInt = (σ 55 57).toInt)
  refine lv_iadd hx hb dX12_putsAs_50 ?_
  refine lv_topi (fun x10 ex10 => ?_)
  have gx10 := jrg (rfl : x10.toInt = x10.toInt)
  exact hret x10 σ1 τ _ _ _ _ rfl ⟨rfl, (fun i hi => (f3 i hi)), (fun i hi => (f4 i hi)), (fun i hi => (f5 i hi)), m6, m7, ⟨(by rw [ex10]), trivial⟩⟩ hP hS dX12_putsAs_51
set_option maxHeartbeats 4000000 in
set_option maxRecDepth 100000 in
theorem c_X12_putsAs_1_1_0 (l : Launch) (D : va_G) (cI cL : ClassId) (ad zz : Nat → Nat) (hJ : jD ad) (σ : Nat → Nat → Int32) (τ : Nat → Nat → Int64) (a2 : Int32) (A2 : Int) (t2 : a2.toInt = A2) (h55_55 : σ 55 55 = 0) (hp0 : (σ 55 56).toInt = 1) : jM l yX12_putsAs cX12_putsAs 3 (some .int) ({ frames := 2, cells := 0, slots := 0, locals := 43 }) D cI cL ad zz [.ref (ad 55), .int 1, .int a2] σ τ (fun r σ' τ' => τ = τ' ∧ (∀ i : Nat, (i < 55 ∨ 55 < i) ∧ (i < 85 ∨ 85 < i) → σ' i = σ i) ∧ (∀ k : Nat, (k < 55 ∨ 55 < k) → σ' 55 k = σ 55 k) ∧ (∀ k : Nat, (k < 0 ∨ 0 < k) ∧ (k < 1 ∨ 1 < k) → σ' 85 k = σ 85 k) ∧ (σ' 55 55 = 2) ∧ (σ' 85 0 = 20) ∧ (σ' 85 1 = 1) ∧ ((r = ((a2 + (σ 55 57)) + 3) ∧ True))) := by
  refine jM.of hJ (by decide +kernel) (nt := .int) rfl (Nat.le_of_ble_eq_true rfl) ?_
  intro p e s m args below meth c Q ls hC hret hl hP
  obtain ⟨hx, hb, hr, hml, hown, hts, hK, -, hlocks, hZ⟩ := hC
  have hown : s.vm.findClass RX12 = some m.cls := hown
  have hS : va_S (jA ad) s.heap s.heap [] := va_S.rf
  have hA : ∀ q, jA ad q → jA ad q := fun _ h => h
  have hl : lv_has ls 3 [(0, .ref (ad 55)), (1, .int 1), (2, .int a2)] := hl
  have g2 := jrg t2
  refine lv_iload_n hx hb dX12_putsAs_0 rfl (lv_at hl 1 rfl) ?_
  refine lv_iconst (v := 4) hx hb dX12_putsAs_1 (by decide) ?_
  refine lv_icmp_ne (tgt := 20) hx hb dX12_putsAs_2 (by decide) (fun _ => ?_) (fun c => absurd c (by decide))
  refine lv_iload_n hx hb dX12_putsAs_20 rfl (lv_at hl 1 rfl) ?_
  refine lv_iconst (v := 1) hx hb dX12_putsAs_21 (by decide) ?_
  refine lv_icmp_ne (tgt := 40) hx hb dX12_putsAs_22 (by decide) (fun c => absurd (by decide) c) (fun _ => ?_)
  refine lv_aload_n hx hb dX12_putsAs_25 rfl (lv_at hl 0 rfl) ?_
  refine lv_bipush (v := 20) hx hb dX12_putsAs_26 (by decide) ?_
  refine jcallVv (As := [.int 20]) (rest := []) ⟨hx, hb, hml, hown, hts⟩ hK hP hA hS hZ (c_X12_begins_20_0 l D cI cL ad zz hJ σ τ h55_55) cw_RX12_379 (jc_55 cI cL ad σ τ) rfl ⟨Nat.le_of_ble_eq_true rfl, Nat.le_of_ble_eq_true rfl⟩ rfl rfl rfl hl.1 rfl (Nat.le_of_ble_eq_true rfl) dX12_putsAs_28 ⟨Nat.zero_le _, Nat.zero_le _⟩ (fun σ1 τ1 H locs h1 hP hS => ?_)
  obtain ⟨rfl, f3, f4, f5, m6, m7, h1⟩ := h1
  refine lv_aload_n hx hb dX12_putsAs_31 rfl (lv_at hl 0 rfl) ?_
  refine lv_iconst (v := 0) hx hb dX12_putsAs_32 (by decide) ?_
  refine lv_iload_n hx hb dX12_putsAs_33 rfl (lv_at hl 2 rfl) ?_
  have z8 : (σ1 55 56).toInt = (σ 55 56).toInt := (congrArg Int32.toInt (show σ1 55 56 = (σ 55 56) from (f4 56 (by decide))))
  refine jcallV (As := [.int 0, .int a2]) (rest := []) ⟨hx, hb, hml, hown, hts⟩ hK hP hA hS hZ (c_X12_putsAs_1_0_1 l D cI cL ad zz hJ σ1 τ a2 (A2) t2 m6 (by omega)) cw_RX12_382 (jc_55 cI cL ad σ1 τ) rfl ⟨Nat.le_of_ble_eq_true rfl, Nat.le_of_ble_eq_true rfl⟩ rfl rfl rfl hl.1 rfl (Nat.le_of_ble_eq_true rfl) dX12_putsAs_34 ⟨Nat.zero_le _, Nat.zero_le _⟩ (fun r10 σ9 τ9 H locs h9 hP hS => ?_)
  obtain ⟨rfl, f11, f12, f13, m14, m15, h9⟩ := h9
  have h16 := h9
  obtain ⟨q18, k17⟩ := h16
  have q18 := q18.symm
  subst q18
  refine lv_iconst (v := 3) hx hb dX12_putsAs_37 (by decide) ?_
  have g19 := jrg (rfl : (a2 + (σ1 55 57)).toInt = (a2 + (σ1 55 57)).toInt)
  refine lv_iadd hx hb dX12_putsAs_38 ?_
  refine lv_topi (fun x20 ex20 => ?_)
  have gx20 := jrg (rfl : x20.toInt = x20.toInt)
  have m21 : σ9 85 0 = 20 := ((f13 0 (by decide)).trans m7)
  exact hret x20 σ9 τ _ _ _ _ rfl ⟨rfl, (fun i hi => ((f11 i hi).trans (f3 i hi))), (fun i hi => ((f12 i hi).trans (f4 i hi))), (fun i hi => ((f13 i (imp_302 i hi)).trans (f5 i (imp_347 i hi)))), m14, m21, m15, ⟨(by rw [ex20, (show σ1 55 57 = σ 55 57 from (f4 57 (by decide)))]), trivial⟩⟩ hP hS dX12_putsAs_39
set_option maxHeartbeats 4000000 in
set_option maxRecDepth 100000 in
theorem c_X12_begins_20_1 (l : Launch) (D : va_G) (cI cL : ClassId) (ad zz : Nat → Nat) (hJ : jD ad) (σ : Nat → Nat → Int32) (τ : Nat → Nat → Int64) (h55_55 : σ 55 55 = 1) : jMv l yX12_begins cX12_begins 2 none ({ frames := 0, cells := 0, slots := 0, locals := 0 }) D cI cL ad zz [.ref (ad 55), .int 20] σ τ (fun σ' τ' => τ = τ' ∧ (∀ i : Nat, (i < 55 ∨ 55 < i) ∧ (i < 85 ∨ 85 < i) → σ' i = σ i) ∧ (∀ k : Nat, (k < 55 ∨ 55 < k) → σ' 55 k = σ 55 k) ∧ (∀ k : Nat, (k < 1 ∨ 1 < k) → σ' 85 k = σ 85 k) ∧ (σ' 55 55 = 2) ∧ (σ' 85 1 = 20) ∧ True) := by
  refine jMv.of hJ (by decide +kernel) rfl (Nat.le_of_ble_eq_true rfl) ?_
  intro p e s m args below meth c Q ls hC hret hl hP
  obtain ⟨hx, hb, hr, hml, hown, hts, hK, -, hlocks, hZ⟩ := hC
  have hown : s.vm.findClass RX12 = some m.cls := hown
  have hS : va_S (jA ad) s.heap s.heap [] := va_S.rf
  have hA : ∀ q, jA ad q → jA ad q := fun _ h => h
  have hl : lv_has ls 2 [(0, .ref (ad 55)), (1, .int 20)] := hl
  refine lv_aload_n hx hb dX12_begins_0 rfl (lv_at hl 0 rfl) ?_
  refine va_get (D := D) hx hb hts inlX12 hown hK hP 55 (jc_55 cI cL ad σ τ) rfl 55 (by decide) (hts _ kw_49_7) (fun _ h9 => h9) rfl dX12_begins_1 ?_
  refine jtopr h55_55 ?_
  refine lv_bipush (v := 24) hx hb dX12_begins_4 (by decide) ?_
  refine lv_icmp_ge (tgt := 19) hx hb dX12_begins_6 (by decide) (fun c => absurd c (by decide)) (fun _ => ?_)
  refine lv_aload_n hx hb dX12_begins_9 rfl (lv_at hl 0 rfl) ?_
  refine va_get (D := D) hx hb hts inlX12 hown hK hP 55 (jc_55 cI cL ad σ τ) rfl 54 (by decide) (hts _ kw_8_10) (fun _ h9 => h9) rfl dX12_begins_10 ?_
  refine lv_aload_n hx hb dX12_begins_13 rfl (lv_at hl 0 rfl) ?_
  refine va_get (D := D) hx hb hts inlX12 hown hK hP 55 (jc_55 cI cL ad σ τ) rfl 55 (by decide) (hts _ kw_49_7) (fun _ h9 => h9) rfl dX12_begins_14 ?_
  refine jtopr h55_55 ?_
  refine lv_iload_n hx hb dX12_begins_17 rfl (lv_at hl 1 rfl) ?_
  refine jast hx hb hK hP hJ hA hS (jc_85 cI cL ad σ τ) (ja_85 cI cL ad σ τ _ _) (jin jz_1 (by omega) (by omega)) dX12_begins_18 (fun σ1 H locs eσ1 hP hS => ?_)
  have eσ1 : σ1 = jup σ 85 1 20 := eσ1
  refine lv_aload_n hx hb dX12_begins_19 rfl (lv_at hl 0 rfl) ?_
  refine lv_dup hx hb dX12_begins_20 rfl ?_
  refine va_get (D := D) hx hb hts inlX12 hown hK hP 55 (jc_55 cI cL ad σ1 τ) rfl 55 (by decide) (hts _ kw_49_7) (fun _ h9 => h9) rfl dX12_begins_21 ?_
  have m2 : σ1 55 55 = 1 := ((congrFun (jnp 55 eσ1 (by decide)) 55).trans h55_55)
  refine jtopr m2 ?_
  refine lv_iconst (v := 1) hx hb dX12_begins_24 (by decide) ?_
  refine lv_iadd hx hb dX12_begins_25 ?_
  refine jtopr (y := 2) (by decide) ?_
  refine jput (ty := .int) hx hb hts inlX12 tyX12 tyX12_ok nmX12 hown hK hP hJ hA hS (jc_55 cI cL ad σ1 τ) rfl (k := 55) (by decide) (Nat.le_of_ble_eq_true rfl) (jp_55_55 cI cL ad σ1 τ 2) (hts _ kw_49_7) (fun _ h9 => h9) rfl (by decide +kernel) rfl rfl dX12_begins_26 (fun σ3 H locs eσ3 hP hS => ?_)
  have m4 : σ3 55 55 = 2 := (jsp eσ3)
  have m5 : σ3 85 1 = 20 := ((congrFun (jnp 85 eσ3 (by decide)) 1).trans (jsp eσ1))
  exact hret σ3 τ _ _ _ _ ⟨rfl, (fun i hi => ((jnp i eσ3 (imp_345 i hi)).trans (jnp i eσ1 (imp_346 i hi)))), (fun i hi => ((jkp i eσ3 (imp_164 i hi)).trans (congrFun (jnp 55 eσ1 (by decide)) i))), (fun i hi => ((congrFun (jnp 85 eσ3 (by decide)) i).trans (jkp i eσ1 (imp_42 i hi)))), m4, m5, trivial⟩ hP hS dX12_begins_29
set_option maxHeartbeats 4000000 in
set_option maxRecDepth 100000 in
theorem c_X12_putsAs_1_0_2 (l : Launch) (D : va_G) (cI cL : ClassId) (ad zz : Nat → Nat) (hJ : jD ad) (σ : Nat → Nat → Int32) (τ : Nat → Nat → Int64) (a2 : Int32) (A2 : Int) (t2 : a2.toInt = A2) (h55_55 : σ 55 55 = 2) (hp0 : (σ 55 56).toInt = 1) : jM l yX12_putsAs cX12_putsAs 3 (some .int) ({ frames := 1, cells := 0, slots := 0, locals := 21 }) D cI cL ad zz [.ref (ad 55), .int 0, .int a2] σ τ (fun r σ' τ' => τ = τ' ∧ (∀ i : Nat, (i < 55 ∨ 55 < i) ∧ (i < 85 ∨ 85 < i) → σ' i = σ i) ∧ (∀ k : Nat, (k < 55 ∨ 55 < k) → σ' 55 k = σ 55 k) ∧ (∀ k : Nat, (k < 2 ∨ 2 < k) → σ' 85 k = σ 85 k) ∧ (σ' 55 55 = 3) ∧ (σ' 85 2 = 1) ∧ ((r = (a2 + (σ 55 57)) ∧ True))) := by
  refine jM.of hJ (by decide +kernel) (nt := .int) rfl (Nat.le_of_ble_eq_true rfl) ?_
  intro p e s m args below meth c Q ls hC hret hl hP
  obtain ⟨hx, hb, hr, hml, hown, hts, hK, -, hlocks, hZ⟩ := hC
  have hown : s.vm.findClass RX12 = some m.cls := hown
  have hS : va_S (jA ad) s.heap s.heap [] := va_S.rf
  have hA : ∀ q, jA ad q → jA ad q := fun _ h => h
  have hl : lv_has ls 3 [(0, .ref (ad 55)), (1, .int 0), (2, .int a2)] := hl
  have g2 := jrg t2
  refine lv_iload_n hx hb dX12_putsAs_0 rfl (lv_at hl 1 rfl) ?_
  refine lv_iconst (v := 4) hx hb dX12_putsAs_1 (by decide) ?_
  refine lv_icmp_ne (tgt := 20) hx hb dX12_putsAs_2 (by decide) (fun _ => ?_) (fun c => absurd c (by decide))
  refine lv_iload_n hx hb dX12_putsAs_20 rfl (lv_at hl 1 rfl) ?_
  refine lv_iconst (v := 1) hx hb dX12_putsAs_21 (by decide) ?_
  refine lv_icmp_ne (tgt := 40) hx hb dX12_putsAs_22 (by decide) (fun _ => ?_) (fun c => absurd c (by decide))
  refine lv_aload_n hx hb dX12_putsAs_40 rfl (lv_at hl 0 rfl) ?_
  refine lv_iconst (v := 1) hx hb dX12_putsAs_41 (by decide) ?_
  refine jcallVv (As := [.int 1]) (rest := []) ⟨hx, hb, hml, hown, hts⟩ hK hP hA hS hZ (c_X12_begins_1_2 l D cI cL ad zz hJ σ τ h55_55) cw_RX12_379 (jc_55 cI cL ad σ τ) rfl ⟨Nat.le_of_ble_eq_true rfl, Nat.le_of_ble_eq_true rfl⟩ rfl rfl rfl hl.1 rfl (Nat.le_of_ble_eq_true rfl) dX12_putsAs_42 ⟨Nat.zero_le _, Nat.zero_le _⟩ (fun σ1 τ1 H locs h1 hP hS => ?_)
  obtain ⟨rfl, f3, f4, f5, m6, m7, h1⟩ := h1
  refine lv_iload_n hx hb dX12_putsAs_45 rfl (lv_at hl 2 rfl) ?_
  refine lv_aload_n hx hb dX12_putsAs_46 rfl (lv_at hl 0 rfl) ?_
  refine va_get (D := D) hx hb hts inlX12 hown hK hP 55 (jc_55 cI cL ad σ1 τ) rfl 57 (by decide) (hts _ kw_49_9) (fun _ h9 => h9) rfl dX12_putsAs_47 ?_
  have m8 : σ1 55 57 = (σ 55 57) := (f4 57 (by decide))
  refine jtopr m8 ?_
  have g9 := jrg (rfl : (σ 55 57).toInt = (σ 55 57).toInt)
  refine lv_iadd hx hb dX12_putsAs_50 ?_
  refine lv_topi (fun x10 ex10 => ?_)
  have gx10 := jrg (rfl : x10.toInt = x10.toInt)
  exact hret x10 σ1 τ _ _ _ _ rfl ⟨rfl, (fun i hi => (f3 i hi)), (fun i hi => (f4 i hi)), (fun i hi => (f5 i hi)), m6, m7, ⟨(by rw [ex10]), trivial⟩⟩ hP hS dX12_putsAs_51
set_option maxHeartbeats 4000000 in
set_option maxRecDepth 100000 in
theorem c_X12_putsAs_1_1_1 (l : Launch) (D : va_G) (cI cL : ClassId) (ad zz : Nat → Nat) (hJ : jD ad) (σ : Nat → Nat → Int32) (τ : Nat → Nat → Int64) (a2 : Int32) (A2 : Int) (t2 : a2.toInt = A2) (h55_55 : σ 55 55 = 1) (hp0 : (σ 55 56).toInt = 1) : jM l yX12_putsAs cX12_putsAs 3 (some .int) ({ frames := 2, cells := 0, slots := 0, locals := 43 }) D cI cL ad zz [.ref (ad 55), .int 1, .int a2] σ τ (fun r σ' τ' => τ = τ' ∧ (∀ i : Nat, (i < 55 ∨ 55 < i) ∧ (i < 85 ∨ 85 < i) → σ' i = σ i) ∧ (∀ k : Nat, (k < 55 ∨ 55 < k) → σ' 55 k = σ 55 k) ∧ (∀ k : Nat, (k < 1 ∨ 1 < k) ∧ (k < 2 ∨ 2 < k) → σ' 85 k = σ 85 k) ∧ (σ' 55 55 = 3) ∧ (σ' 85 1 = 20) ∧ (σ' 85 2 = 1) ∧ ((r = ((a2 + (σ 55 57)) + 3) ∧ True))) := by
  refine jM.of hJ (by decide +kernel) (nt := .int) rfl (Nat.le_of_ble_eq_true rfl) ?_
  intro p e s m args below meth c Q ls hC hret hl hP
  obtain ⟨hx, hb, hr, hml, hown, hts, hK, -, hlocks, hZ⟩ := hC
  have hown : s.vm.findClass RX12 = some m.cls := hown
  have hS : va_S (jA ad) s.heap s.heap [] := va_S.rf
  have hA : ∀ q, jA ad q → jA ad q := fun _ h => h
  have hl : lv_has ls 3 [(0, .ref (ad 55)), (1, .int 1), (2, .int a2)] := hl
  have g2 := jrg t2
  refine lv_iload_n hx hb dX12_putsAs_0 rfl (lv_at hl 1 rfl) ?_
  refine lv_iconst (v := 4) hx hb dX12_putsAs_1 (by decide) ?_
  refine lv_icmp_ne (tgt := 20) hx hb dX12_putsAs_2 (by decide) (fun _ => ?_) (fun c => absurd c (by decide))
  refine lv_iload_n hx hb dX12_putsAs_20 rfl (lv_at hl 1 rfl) ?_
  refine lv_iconst (v := 1) hx hb dX12_putsAs_21 (by decide) ?_
  refine lv_icmp_ne (tgt := 40) hx hb dX12_putsAs_22 (by decide) (fun c => absurd (by decide) c) (fun _ => ?_)
  refine lv_aload_n hx hb dX12_putsAs_25 rfl (lv_at hl 0 rfl) ?_
  refine lv_bipush (v := 20) hx hb dX12_putsAs_26 (by decide) ?_
  refine jcallVv (As := [.int 20]) (rest := []) ⟨hx, hb, hml, hown, hts⟩ hK hP hA hS hZ (c_X12_begins_20_1 l D cI cL ad zz hJ σ τ h55_55) cw_RX12_379 (jc_55 cI cL ad σ τ) rfl ⟨Nat.le_of_ble_eq_true rfl, Nat.le_of_ble_eq_true rfl⟩ rfl rfl rfl hl.1 rfl (Nat.le_of_ble_eq_true rfl) dX12_putsAs_28 ⟨Nat.zero_le _, Nat.zero_le _⟩ (fun σ1 τ1 H locs h1 hP hS => ?_)
  obtain ⟨rfl, f3, f4, f5, m6, m7, h1⟩ := h1
  refine lv_aload_n hx hb dX12_putsAs_31 rfl (lv_at hl 0 rfl) ?_
  refine lv_iconst (v := 0) hx hb dX12_putsAs_32 (by decide) ?_
  refine lv_iload_n hx hb dX12_putsAs_33 rfl (lv_at hl 2 rfl) ?_
  have z8 : (σ1 55 56).toInt = (σ 55 56).toInt := (congrArg Int32.toInt (show σ1 55 56 = (σ 55 56) from (f4 56 (by decide))))
  refine jcallV (As := [.int 0, .int a2]) (rest := []) ⟨hx, hb, hml, hown, hts⟩ hK hP hA hS hZ (c_X12_putsAs_1_0_2 l D cI cL ad zz hJ σ1 τ a2 (A2) t2 m6 (by omega)) cw_RX12_382 (jc_55 cI cL ad σ1 τ) rfl ⟨Nat.le_of_ble_eq_true rfl, Nat.le_of_ble_eq_true rfl⟩ rfl rfl rfl hl.1 rfl (Nat.le_of_ble_eq_true rfl) dX12_putsAs_34 ⟨Nat.zero_le _, Nat.zero_le _⟩ (fun r10 σ9 τ9 H locs h9 hP hS => ?_)
  obtain ⟨rfl, f11, f12, f13, m14, m15, h9⟩ := h9
  have h16 := h9
  obtain ⟨q18, k17⟩ := h16
  have q18 := q18.symm
  subst q18
  refine lv_iconst (v := 3) hx hb dX12_putsAs_37 (by decide) ?_
  have g19 := jrg (rfl : (a2 + (σ1 55 57)).toInt = (a2 + (σ1 55 57)).toInt)
  refine lv_iadd hx hb dX12_putsAs_38 ?_
  refine lv_topi (fun x20 ex20 => ?_)
  have gx20 := jrg (rfl : x20.toInt = x20.toInt)
  have m21 : σ9 85 1 = 20 := ((f13 1 (by decide)).trans m7)
  exact hret x20 σ9 τ _ _ _ _ rfl ⟨rfl, (fun i hi => ((f11 i hi).trans (f3 i hi))), (fun i hi => ((f12 i hi).trans (f4 i hi))), (fun i hi => ((f13 i (imp_43 i hi)).trans (f5 i (imp_60 i hi)))), m14, m21, m15, ⟨(by rw [ex20, (show σ1 55 57 = σ 55 57 from (f4 57 (by decide)))]), trivial⟩⟩ hP hS dX12_putsAs_39
set_option maxHeartbeats 4000000 in
set_option maxRecDepth 100000 in
theorem c_X12_holdsAs_1_1_0 (l : Launch) (D : va_G) (cI cL : ClassId) (ad zz : Nat → Nat) (hJ : jD ad) (σ : Nat → Nat → Int32) (τ : Nat → Nat → Int64) (a2 : Int32) (A2 : Int) (t2 : a2.toInt = A2) (h55_55 : σ 55 55 = 0) (hp0 : (σ 55 56).toInt = 1) : jM l yX12_holdsAs cX12_holdsAs 4 (some .int) ({ frames := 3, cells := 0, slots := 0, locals := 65 }) D cI cL ad zz [.ref (ad 55), .int 1, .int a2] σ τ (fun r σ' τ' => τ = τ' ∧ (∀ i : Nat, (i < 55 ∨ 55 < i) ∧ (i < 85 ∨ 85 < i) → σ' i = σ i) ∧ (∀ k : Nat, (k < 55 ∨ 55 < k) → σ' 55 k = σ 55 k) ∧ (∀ k : Nat, (k < 0 ∨ 0 < k) ∧ (k < 1 ∨ 1 < k) ∧ (k < 2 ∨ 2 < k) → σ' 85 k = σ 85 k) ∧ (σ' 55 55 = 3) ∧ (σ' 85 0 = 10) ∧ (σ' 85 1 = 20) ∧ (σ' 85 2 = 1) ∧ ((r = (((a2 + (σ 55 57)) + 3) * 2) ∧ True))) := by
  refine jM.of hJ (by decide +kernel) (nt := .int) rfl (Nat.le_of_ble_eq_true rfl) ?_
  intro p e s m args below meth c Q ls hC hret hl hP
  obtain ⟨hx, hb, hr, hml, hown, hts, hK, -, hlocks, hZ⟩ := hC
  have hown : s.vm.findClass RX12 = some m.cls := hown
  have hS : va_S (jA ad) s.heap s.heap [] := va_S.rf
  have hA : ∀ q, jA ad q → jA ad q := fun _ h => h
  have hl : lv_has ls 4 [(0, .ref (ad 55)), (1, .int 1), (2, .int a2)] := hl
  have g2 := jrg t2
  refine lv_iload_n hx hb dX12_holdsAs_0 rfl (lv_at hl 1 rfl) ?_
  refine lv_iconst (v := 3) hx hb dX12_holdsAs_1 (by decide) ?_
  refine lv_icmp_eq (tgt := 10) hx hb dX12_holdsAs_2 (by decide) (fun c => absurd c (by decide)) (fun _ => ?_)
  refine lv_iload_n hx hb dX12_holdsAs_5 rfl (lv_at hl 1 rfl) ?_
  refine lv_iconst (v := 5) hx hb dX12_holdsAs_6 (by decide) ?_
  refine lv_icmp_ne (tgt := 24) hx hb dX12_holdsAs_7 (by decide) (fun _ => ?_) (fun c => absurd c (by decide))
  refine lv_iload_n hx hb dX12_holdsAs_24 rfl (lv_at hl 1 rfl) ?_
  refine lv_bipush (v := 6) hx hb dX12_holdsAs_25 (by decide) ?_
  refine lv_icmp_ne (tgt := 55) hx hb dX12_holdsAs_27 (by decide) (fun _ => ?_) (fun c => absurd c (by decide))
  refine lv_aload_n hx hb dX12_holdsAs_55 rfl (lv_at hl 0 rfl) ?_
  refine lv_bipush (v := 10) hx hb dX12_holdsAs_56 (by decide) ?_
  refine jcallVv (As := [.int 10]) (rest := []) ⟨hx, hb, hml, hown, hts⟩ hK hP hA hS hZ (c_X12_begins_10_0 l D cI cL ad zz hJ σ τ h55_55) cw_RX12_379 (jc_55 cI cL ad σ τ) rfl ⟨Nat.le_of_ble_eq_true rfl, Nat.le_of_ble_eq_true rfl⟩ rfl rfl rfl hl.1 rfl (Nat.le_of_ble_eq_true rfl) dX12_holdsAs_58 ⟨Nat.zero_le _, Nat.zero_le _⟩ (fun σ1 τ1 H locs h1 hP hS => ?_)
  obtain ⟨rfl, f3, f4, f5, m6, m7, h1⟩ := h1
  refine lv_aload_n hx hb dX12_holdsAs_61 rfl (lv_at hl 0 rfl) ?_
  refine lv_aload_n hx hb dX12_holdsAs_62 rfl (lv_at hl 0 rfl) ?_
  refine va_get (D := D) hx hb hts inlX12 hown hK hP 55 (jc_55 cI cL ad σ1 τ) rfl 56 (by decide) (hts _ kw_49_8) (fun _ h9 => h9) rfl dX12_holdsAs_63 ?_
  have m8 : σ1 55 56 = (σ 55 56) := (f4 56 (by decide))
  refine jtopr m8 ?_
  refine jtopr (jsame (rfl : (σ 55 56).toInt = (σ 55 56).toInt) jz_1 (by omega)) ?_
  refine lv_iload_n hx hb dX12_holdsAs_66 rfl (lv_at hl 2 rfl) ?_
  have z9 : (σ1 55 56).toInt = (σ 55 56).toInt := (congrArg Int32.toInt (show σ1 55 56 = (σ 55 56) from m8))
  refine jcallV (As := [.int 1, .int a2]) (rest := []) ⟨hx, hb, hml, hown, hts⟩ hK hP hA hS hZ (c_X12_putsAs_1_1_1 l D cI cL ad zz hJ σ1 τ a2 (A2) t2 m6 (by omega)) cw_RX12_382 (jc_55 cI cL ad σ1 τ) rfl ⟨Nat.le_of_ble_eq_true rfl, Nat.le_of_ble_eq_true rfl⟩ rfl rfl rfl hl.1 rfl (Nat.le_of_ble_eq_true rfl) dX12_holdsAs_67 ⟨Nat.zero_le _, Nat.zero_le _⟩ (fun r11 σ10 τ10 H locs h10 hP hS => ?_)
  obtain ⟨rfl, f12, f13, f14, m15, m16, m17, h10⟩ := h10
  have h18 := h10
  obtain ⟨q20, k19⟩ := h18
  have q20 := q20.symm
  subst q20
  refine lv_iconst (v := 2) hx hb dX12_holdsAs_70 (by decide) ?_
  have g21 := jrg (rfl : ((a2 + (σ1 55 57)) + 3).toInt = ((a2 + (σ1 55 57)) + 3).toInt)
  refine lv_imul hx hb dX12_holdsAs_71 ?_
  refine lv_topi (fun x22 ex22 => ?_)
  have gx22 := jrg (rfl : x22.toInt = x22.toInt)
  have m23 : σ10 85 0 = 10 := ((f14 0 (by decide)).trans m7)
  exact hret x22 σ10 τ _ _ _ _ rfl ⟨rfl, (fun i hi => ((f12 i hi).trans (f3 i hi))), (fun i hi => ((f13 i hi).trans (f4 i hi))), (fun i hi => ((f14 i (imp_50 i hi)).trans (f5 i (imp_349 i hi)))), m15, m23, m16, m17, ⟨(by rw [ex22, (show σ1 55 57 = σ 55 57 from (f4 57 (by decide)))]), trivial⟩⟩ hP hS dX12_holdsAs_72
set_option maxHeartbeats 4000000 in
set_option maxRecDepth 100000 in
theorem c_X12_givesAs_1_1_0 (l : Launch) (D : va_G) (cI cL : ClassId) (ad zz : Nat → Nat) (hJ : jD ad) (σ : Nat → Nat → Int32) (τ : Nat → Nat → Int64) (a2 : Int32) (A2 : Int) (t2 : a2.toInt = A2) (h55_55 : σ 55 55 = 0) (hp0 : (σ 55 56).toInt = 1) : jM l yX12_givesAs cX12_givesAs 4 (some .int) ({ frames := 1, cells := 0, slots := 0, locals := 21 }) D cI cL ad zz [.ref (ad 55), .int 1, .int a2] σ τ (fun r σ' τ' => τ = τ' ∧ (∀ i : Nat, (i < 55 ∨ 55 < i) ∧ (i < 85 ∨ 85 < i) → σ' i = σ i) ∧ (∀ k : Nat, (k < 55 ∨ 55 < k) → σ' 55 k = σ 55 k) ∧ (∀ k : Nat, (k < 0 ∨ 0 < k) → σ' 85 k = σ 85 k) ∧ (σ' 55 55 = 1) ∧ (σ' 85 0 = 11) ∧ ((r = (a2 ^^^ (σ 55 57)) ∧ True))) := by
  refine jM.of hJ (by decide +kernel) (nt := .int) rfl (Nat.le_of_ble_eq_true rfl) ?_
  intro p e s m args below meth c Q ls hC hret hl hP
  obtain ⟨hx, hb, hr, hml, hown, hts, hK, -, hlocks, hZ⟩ := hC
  have hown : s.vm.findClass RX12 = some m.cls := hown
  have hS : va_S (jA ad) s.heap s.heap [] := va_S.rf
  have hA : ∀ q, jA ad q → jA ad q := fun _ h => h
  have hl : lv_has ls 4 [(0, .ref (ad 55)), (1, .int 1), (2, .int a2)] := hl
  have g2 := jrg t2
  refine lv_iload_n hx hb dX12_givesAs_0 rfl (lv_at hl 1 rfl) ?_
  refine lv_iconst (v := 5) hx hb dX12_givesAs_1 (by decide) ?_
  refine lv_icmp_ne (tgt := 30) hx hb dX12_givesAs_2 (by decide) (fun _ => ?_) (fun c => absurd c (by decide))
  refine lv_iload_n hx hb dX12_givesAs_30 rfl (lv_at hl 1 rfl) ?_
  refine lv_iconst (v := 2) hx hb dX12_givesAs_31 (by decide) ?_
  refine lv_icmp_eq (tgt := 40) hx hb dX12_givesAs_32 (by decide) (fun c => absurd c (by decide)) (fun _ => ?_)
  refine lv_iload_n hx hb dX12_givesAs_35 rfl (lv_at hl 1 rfl) ?_
  refine lv_iconst (v := 3) hx hb dX12_givesAs_36 (by decide) ?_
  refine lv_icmp_ne (tgt := 55) hx hb dX12_givesAs_37 (by decide) (fun _ => ?_) (fun c => absurd c (by decide))
  refine lv_aload_n hx hb dX12_givesAs_55 rfl (lv_at hl 0 rfl) ?_
  refine lv_bipush (v := 11) hx hb dX12_givesAs_56 (by decide) ?_
  refine jcallVv (As := [.int 11]) (rest := []) ⟨hx, hb, hml, hown, hts⟩ hK hP hA hS hZ (c_X12_begins_11_0 l D cI cL ad zz hJ σ τ h55_55) cw_RX12_379 (jc_55 cI cL ad σ τ) rfl ⟨Nat.le_of_ble_eq_true rfl, Nat.le_of_ble_eq_true rfl⟩ rfl rfl rfl hl.1 rfl (Nat.le_of_ble_eq_true rfl) dX12_givesAs_58 ⟨Nat.zero_le _, Nat.zero_le _⟩ (fun σ1 τ1 H locs h1 hP hS => ?_)
  obtain ⟨rfl, f3, f4, f5, m6, m7, h1⟩ := h1
  refine lv_iload_n hx hb dX12_givesAs_61 rfl (lv_at hl 2 rfl) ?_
  refine lv_aload_n hx hb dX12_givesAs_62 rfl (lv_at hl 0 rfl) ?_
  refine va_get (D := D) hx hb hts inlX12 hown hK hP 55 (jc_55 cI cL ad σ1 τ) rfl 57 (by decide) (hts _ kw_49_9) (fun _ h9 => h9) rfl dX12_givesAs_63 ?_
  have m8 : σ1 55 57 = (σ 55 57) := (f4 57 (by decide))
  refine jtopr m8 ?_
  refine lv_ixor hx hb dX12_givesAs_66 ?_
  refine lv_topi (fun x9 ex9 => ?_)
  have gx9 := jrg (rfl : x9.toInt = x9.toInt)
  exact hret x9 σ1 τ _ _ _ _ rfl ⟨rfl, (fun i hi => (f3 i hi)), (fun i hi => (f4 i hi)), (fun i hi => (f5 i hi)), m6, m7, ⟨(by rw [ex9]), trivial⟩⟩ hP hS dX12_givesAs_67
set_option maxHeartbeats 4000000 in
set_option maxRecDepth 100000 in
theorem c_X12_begins_20_2 (l : Launch) (D : va_G) (cI cL : ClassId) (ad zz : Nat → Nat) (hJ : jD ad) (σ : Nat → Nat → Int32) (τ : Nat → Nat → Int64) (h55_55 : σ 55 55 = 2) : jMv l yX12_begins cX12_begins 2 none ({ frames := 0, cells := 0, slots := 0, locals := 0 }) D cI cL ad zz [.ref (ad 55), .int 20] σ τ (fun σ' τ' => τ = τ' ∧ (∀ i : Nat, (i < 55 ∨ 55 < i) ∧ (i < 85 ∨ 85 < i) → σ' i = σ i) ∧ (∀ k : Nat, (k < 55 ∨ 55 < k) → σ' 55 k = σ 55 k) ∧ (∀ k : Nat, (k < 2 ∨ 2 < k) → σ' 85 k = σ 85 k) ∧ (σ' 55 55 = 3) ∧ (σ' 85 2 = 20) ∧ True) := by
  refine jMv.of hJ (by decide +kernel) rfl (Nat.le_of_ble_eq_true rfl) ?_
  intro p e s m args below meth c Q ls hC hret hl hP
  obtain ⟨hx, hb, hr, hml, hown, hts, hK, -, hlocks, hZ⟩ := hC
  have hown : s.vm.findClass RX12 = some m.cls := hown
  have hS : va_S (jA ad) s.heap s.heap [] := va_S.rf
  have hA : ∀ q, jA ad q → jA ad q := fun _ h => h
  have hl : lv_has ls 2 [(0, .ref (ad 55)), (1, .int 20)] := hl
  refine lv_aload_n hx hb dX12_begins_0 rfl (lv_at hl 0 rfl) ?_
  refine va_get (D := D) hx hb hts inlX12 hown hK hP 55 (jc_55 cI cL ad σ τ) rfl 55 (by decide) (hts _ kw_49_7) (fun _ h9 => h9) rfl dX12_begins_1 ?_
  refine jtopr h55_55 ?_
  refine lv_bipush (v := 24) hx hb dX12_begins_4 (by decide) ?_
  refine lv_icmp_ge (tgt := 19) hx hb dX12_begins_6 (by decide) (fun c => absurd c (by decide)) (fun _ => ?_)
  refine lv_aload_n hx hb dX12_begins_9 rfl (lv_at hl 0 rfl) ?_
  refine va_get (D := D) hx hb hts inlX12 hown hK hP 55 (jc_55 cI cL ad σ τ) rfl 54 (by decide) (hts _ kw_8_10) (fun _ h9 => h9) rfl dX12_begins_10 ?_
  refine lv_aload_n hx hb dX12_begins_13 rfl (lv_at hl 0 rfl) ?_
  refine va_get (D := D) hx hb hts inlX12 hown hK hP 55 (jc_55 cI cL ad σ τ) rfl 55 (by decide) (hts _ kw_49_7) (fun _ h9 => h9) rfl dX12_begins_14 ?_
  refine jtopr h55_55 ?_
  refine lv_iload_n hx hb dX12_begins_17 rfl (lv_at hl 1 rfl) ?_
  refine jast hx hb hK hP hJ hA hS (jc_85 cI cL ad σ τ) (ja_85 cI cL ad σ τ _ _) (jin jz_2 (by omega) (by omega)) dX12_begins_18 (fun σ1 H locs eσ1 hP hS => ?_)
  have eσ1 : σ1 = jup σ 85 2 20 := eσ1
  refine lv_aload_n hx hb dX12_begins_19 rfl (lv_at hl 0 rfl) ?_
  refine lv_dup hx hb dX12_begins_20 rfl ?_
  refine va_get (D := D) hx hb hts inlX12 hown hK hP 55 (jc_55 cI cL ad σ1 τ) rfl 55 (by decide) (hts _ kw_49_7) (fun _ h9 => h9) rfl dX12_begins_21 ?_
  have m2 : σ1 55 55 = 2 := ((congrFun (jnp 55 eσ1 (by decide)) 55).trans h55_55)
  refine jtopr m2 ?_
  refine lv_iconst (v := 1) hx hb dX12_begins_24 (by decide) ?_
  refine lv_iadd hx hb dX12_begins_25 ?_
  refine jtopr (y := 3) (by decide) ?_
  refine jput (ty := .int) hx hb hts inlX12 tyX12 tyX12_ok nmX12 hown hK hP hJ hA hS (jc_55 cI cL ad σ1 τ) rfl (k := 55) (by decide) (Nat.le_of_ble_eq_true rfl) (jp_55_55 cI cL ad σ1 τ 3) (hts _ kw_49_7) (fun _ h9 => h9) rfl (by decide +kernel) rfl rfl dX12_begins_26 (fun σ3 H locs eσ3 hP hS => ?_)
  have m4 : σ3 55 55 = 3 := (jsp eσ3)
  have m5 : σ3 85 2 = 20 := ((congrFun (jnp 85 eσ3 (by decide)) 2).trans (jsp eσ1))
  exact hret σ3 τ _ _ _ _ ⟨rfl, (fun i hi => ((jnp i eσ3 (imp_345 i hi)).trans (jnp i eσ1 (imp_346 i hi)))), (fun i hi => ((jkp i eσ3 (imp_164 i hi)).trans (congrFun (jnp 55 eσ1 (by decide)) i))), (fun i hi => ((congrFun (jnp 85 eσ3 (by decide)) i).trans (jkp i eσ1 (imp_7 i hi)))), m4, m5, trivial⟩ hP hS dX12_begins_29
set_option maxHeartbeats 4000000 in
set_option maxRecDepth 100000 in
theorem c_X12_begins_1_3 (l : Launch) (D : va_G) (cI cL : ClassId) (ad zz : Nat → Nat) (hJ : jD ad) (σ : Nat → Nat → Int32) (τ : Nat → Nat → Int64) (h55_55 : σ 55 55 = 3) : jMv l yX12_begins cX12_begins 2 none ({ frames := 0, cells := 0, slots := 0, locals := 0 }) D cI cL ad zz [.ref (ad 55), .int 1] σ τ (fun σ' τ' => τ = τ' ∧ (∀ i : Nat, (i < 55 ∨ 55 < i) ∧ (i < 85 ∨ 85 < i) → σ' i = σ i) ∧ (∀ k : Nat, (k < 55 ∨ 55 < k) → σ' 55 k = σ 55 k) ∧ (∀ k : Nat, (k < 3 ∨ 3 < k) → σ' 85 k = σ 85 k) ∧ (σ' 55 55 = 4) ∧ (σ' 85 3 = 1) ∧ True) := by
  refine jMv.of hJ (by decide +kernel) rfl (Nat.le_of_ble_eq_true rfl) ?_
  intro p e s m args below meth c Q ls hC hret hl hP
  obtain ⟨hx, hb, hr, hml, hown, hts, hK, -, hlocks, hZ⟩ := hC
  have hown : s.vm.findClass RX12 = some m.cls := hown
  have hS : va_S (jA ad) s.heap s.heap [] := va_S.rf
  have hA : ∀ q, jA ad q → jA ad q := fun _ h => h
  have hl : lv_has ls 2 [(0, .ref (ad 55)), (1, .int 1)] := hl
  refine lv_aload_n hx hb dX12_begins_0 rfl (lv_at hl 0 rfl) ?_
  refine va_get (D := D) hx hb hts inlX12 hown hK hP 55 (jc_55 cI cL ad σ τ) rfl 55 (by decide) (hts _ kw_49_7) (fun _ h9 => h9) rfl dX12_begins_1 ?_
  refine jtopr h55_55 ?_
  refine lv_bipush (v := 24) hx hb dX12_begins_4 (by decide) ?_
  refine lv_icmp_ge (tgt := 19) hx hb dX12_begins_6 (by decide) (fun c => absurd c (by decide)) (fun _ => ?_)
  refine lv_aload_n hx hb dX12_begins_9 rfl (lv_at hl 0 rfl) ?_
  refine va_get (D := D) hx hb hts inlX12 hown hK hP 55 (jc_55 cI cL ad σ τ) rfl 54 (by decide) (hts _ kw_8_10) (fun _ h9 => h9) rfl dX12_begins_10 ?_
  refine lv_aload_n hx hb dX12_begins_13 rfl (lv_at hl 0 rfl) ?_
  refine va_get (D := D) hx hb hts inlX12 hown hK hP 55 (jc_55 cI cL ad σ τ) rfl 55 (by decide) (hts _ kw_49_7) (fun _ h9 => h9) rfl dX12_begins_14 ?_
  refine jtopr h55_55 ?_
  refine lv_iload_n hx hb dX12_begins_17 rfl (lv_at hl 1 rfl) ?_
  refine jast hx hb hK hP hJ hA hS (jc_85 cI cL ad σ τ) (ja_85 cI cL ad σ τ _ _) (jin jz_3 (by omega) (by omega)) dX12_begins_18 (fun σ1 H locs eσ1 hP hS => ?_)
  have eσ1 : σ1 = jup σ 85 3 1 := eσ1
  refine lv_aload_n hx hb dX12_begins_19 rfl (lv_at hl 0 rfl) ?_
  refine lv_dup hx hb dX12_begins_20 rfl ?_
  refine va_get (D := D) hx hb hts inlX12 hown hK hP 55 (jc_55 cI cL ad σ1 τ) rfl 55 (by decide) (hts _ kw_49_7) (fun _ h9 => h9) rfl dX12_begins_21 ?_
  have m2 : σ1 55 55 = 3 := ((congrFun (jnp 55 eσ1 (by decide)) 55).trans h55_55)
  refine jtopr m2 ?_
  refine lv_iconst (v := 1) hx hb dX12_begins_24 (by decide) ?_
  refine lv_iadd hx hb dX12_begins_25 ?_
  refine jtopr (y := 4) (by decide) ?_
  refine jput (ty := .int) hx hb hts inlX12 tyX12 tyX12_ok nmX12 hown hK hP hJ hA hS (jc_55 cI cL ad σ1 τ) rfl (k := 55) (by decide) (Nat.le_of_ble_eq_true rfl) (jp_55_55 cI cL ad σ1 τ 4) (hts _ kw_49_7) (fun _ h9 => h9) rfl (by decide +kernel) rfl rfl dX12_begins_26 (fun σ3 H locs eσ3 hP hS => ?_)
  have m4 : σ3 55 55 = 4 := (jsp eσ3)
  have m5 : σ3 85 3 = 1 := ((congrFun (jnp 85 eσ3 (by decide)) 3).trans (jsp eσ1))
  exact hret σ3 τ _ _ _ _ ⟨rfl, (fun i hi => ((jnp i eσ3 (imp_345 i hi)).trans (jnp i eσ1 (imp_346 i hi)))), (fun i hi => ((jkp i eσ3 (imp_164 i hi)).trans (congrFun (jnp 55 eσ1 (by decide)) i))), (fun i hi => ((congrFun (jnp 85 eσ3 (by decide)) i).trans (jkp i eσ1 (imp_303 i hi)))), m4, m5, trivial⟩ hP hS dX12_begins_29
set_option maxHeartbeats 4000000 in
set_option maxRecDepth 100000 in
theorem c_X12_putsAs_1_0_3 (l : Launch) (D : va_G) (cI cL : ClassId) (ad zz : Nat → Nat) (hJ : jD ad) (σ : Nat → Nat → Int32) (τ : Nat → Nat → Int64) (a2 : Int32) (A2 : Int) (t2 : a2.toInt = A2) (h55_55 : σ 55 55 = 3) (hp0 : (σ 55 56).toInt = 1) : jM l yX12_putsAs cX12_putsAs 3 (some .int) ({ frames := 1, cells := 0, slots := 0, locals := 21 }) D cI cL ad zz [.ref (ad 55), .int 0, .int a2] σ τ (fun r σ' τ' => τ = τ' ∧ (∀ i : Nat, (i < 55 ∨ 55 < i) ∧ (i < 85 ∨ 85 < i) → σ' i = σ i) ∧ (∀ k : Nat, (k < 55 ∨ 55 < k) → σ' 55 k = σ 55 k) ∧ (∀ k : Nat, (k < 3 ∨ 3 < k) → σ' 85 k = σ 85 k) ∧ (σ' 55 55 = 4) ∧ (σ' 85 3 = 1) ∧ ((r = (a2 + (σ 55 57)) ∧ True))) := by
  refine jM.of hJ (by decide +kernel) (nt := .int) rfl (Nat.le_of_ble_eq_true rfl) ?_
  intro p e s m args below meth c Q ls hC hret hl hP
  obtain ⟨hx, hb, hr, hml, hown, hts, hK, -, hlocks, hZ⟩ := hC
  have hown : s.vm.findClass RX12 = some m.cls := hown
  have hS : va_S (jA ad) s.heap s.heap [] := va_S.rf
  have hA : ∀ q, jA ad q → jA ad q := fun _ h => h
  have hl : lv_has ls 3 [(0, .ref (ad 55)), (1, .int 0), (2, .int a2)] := hl
  have g2 := jrg t2
  refine lv_iload_n hx hb dX12_putsAs_0 rfl (lv_at hl 1 rfl) ?_
  refine lv_iconst (v := 4) hx hb dX12_putsAs_1 (by decide) ?_
  refine lv_icmp_ne (tgt := 20) hx hb dX12_putsAs_2 (by decide) (fun _ => ?_) (fun c => absurd c (by decide))
  refine lv_iload_n hx hb dX12_putsAs_20 rfl (lv_at hl 1 rfl) ?_
  refine lv_iconst (v := 1) hx hb dX12_putsAs_21 (by decide) ?_
  refine lv_icmp_ne (tgt := 40) hx hb dX12_putsAs_22 (by decide) (fun _ => ?_) (fun c => absurd c (by decide))
  refine lv_aload_n hx hb dX12_putsAs_40 rfl (lv_at hl 0 rfl) ?_
  refine lv_iconst (v := 1) hx hb dX12_putsAs_41 (by decide) ?_
  refine jcallVv (As := [.int 1]) (rest := []) ⟨hx, hb, hml, hown, hts⟩ hK hP hA hS hZ (c_X12_begins_1_3 l D cI cL ad zz hJ σ τ h55_55) cw_RX12_379 (jc_55 cI cL ad σ τ) rfl ⟨Nat.le_of_ble_eq_true rfl, Nat.le_of_ble_eq_true rfl⟩ rfl rfl rfl hl.1 rfl (Nat.le_of_ble_eq_true rfl) dX12_putsAs_42 ⟨Nat.zero_le _, Nat.zero_le _⟩ (fun σ1 τ1 H locs h1 hP hS => ?_)
  obtain ⟨rfl, f3, f4, f5, m6, m7, h1⟩ := h1
  refine lv_iload_n hx hb dX12_putsAs_45 rfl (lv_at hl 2 rfl) ?_
  refine lv_aload_n hx hb dX12_putsAs_46 rfl (lv_at hl 0 rfl) ?_
  refine va_get (D := D) hx hb hts inlX12 hown hK hP 55 (jc_55 cI cL ad σ1 τ) rfl 57 (by decide) (hts _ kw_49_9) (fun _ h9 => h9) rfl dX12_putsAs_47 ?_
  have m8 : σ1 55 57 = (σ 55 57) := (f4 57 (by decide))
  refine jtopr m8 ?_
  have g9 := jrg (rfl : (σ 55 57).toInt = (σ 55 57).toInt)
  refine lv_iadd hx hb dX12_putsAs_50 ?_
  refine lv_topi (fun x10 ex10 => ?_)
  have gx10 := jrg (rfl : x10.toInt = x10.toInt)
  exact hret x10 σ1 τ _ _ _ _ rfl ⟨rfl, (fun i hi => (f3 i hi)), (fun i hi => (f4 i hi)), (fun i hi => (f5 i hi)), m6, m7, ⟨(by rw [ex10]), trivial⟩⟩ hP hS dX12_putsAs_51
set_option maxHeartbeats 4000000 in
set_option maxRecDepth 100000 in
theorem c_X12_putsAs_1_1_2 (l : Launch) (D : va_G) (cI cL : ClassId) (ad zz : Nat → Nat) (hJ : jD ad) (σ : Nat → Nat → Int32) (τ : Nat → Nat → Int64) (a2 : Int32) (A2 : Int) (t2 : a2.toInt = A2) (h55_55 : σ 55 55 = 2) (hp0 : (σ 55 56).toInt = 1) : jM l yX12_putsAs cX12_putsAs 3 (some .int) ({ frames := 2, cells := 0, slots := 0, locals := 43 }) D cI cL ad zz [.ref (ad 55), .int 1, .int a2] σ τ (fun r σ' τ' => τ = τ' ∧ (∀ i : Nat, (i < 55 ∨ 55 < i) ∧ (i < 85 ∨ 85 < i) → σ' i = σ i) ∧ (∀ k : Nat, (k < 55 ∨ 55 < k) → σ' 55 k = σ 55 k) ∧ (∀ k : Nat, (k < 2 ∨ 2 < k) ∧ (k < 3 ∨ 3 < k) → σ' 85 k = σ 85 k) ∧ (σ' 55 55 = 4) ∧ (σ' 85 2 = 20) ∧ (σ' 85 3 = 1) ∧ ((r = ((a2 + (σ 55 57)) + 3) ∧ True))) := by
  refine jM.of hJ (by decide +kernel) (nt := .int) rfl (Nat.le_of_ble_eq_true rfl) ?_
  intro p e s m args below meth c Q ls hC hret hl hP
  obtain ⟨hx, hb, hr, hml, hown, hts, hK, -, hlocks, hZ⟩ := hC
  have hown : s.vm.findClass RX12 = some m.cls := hown
  have hS : va_S (jA ad) s.heap s.heap [] := va_S.rf
  have hA : ∀ q, jA ad q → jA ad q := fun _ h => h
  have hl : lv_has ls 3 [(0, .ref (ad 55)), (1, .int 1), (2, .int a2)] := hl
  have g2 := jrg t2
  refine lv_iload_n hx hb dX12_putsAs_0 rfl (lv_at hl 1 rfl) ?_
  refine lv_iconst (v := 4) hx hb dX12_putsAs_1 (by decide) ?_
  refine lv_icmp_ne (tgt := 20) hx hb dX12_putsAs_2 (by decide) (fun _ => ?_) (fun c => absurd c (by decide))
  refine lv_iload_n hx hb dX12_putsAs_20 rfl (lv_at hl 1 rfl) ?_
  refine lv_iconst (v := 1) hx hb dX12_putsAs_21 (by decide) ?_
  refine lv_icmp_ne (tgt := 40) hx hb dX12_putsAs_22 (by decide) (fun c => absurd (by decide) c) (fun _ => ?_)
  refine lv_aload_n hx hb dX12_putsAs_25 rfl (lv_at hl 0 rfl) ?_
  refine lv_bipush (v := 20) hx hb dX12_putsAs_26 (by decide) ?_
  refine jcallVv (As := [.int 20]) (rest := []) ⟨hx, hb, hml, hown, hts⟩ hK hP hA hS hZ (c_X12_begins_20_2 l D cI cL ad zz hJ σ τ h55_55) cw_RX12_379 (jc_55 cI cL ad σ τ) rfl ⟨Nat.le_of_ble_eq_true rfl, Nat.le_of_ble_eq_true rfl⟩ rfl rfl rfl hl.1 rfl (Nat.le_of_ble_eq_true rfl) dX12_putsAs_28 ⟨Nat.zero_le _, Nat.zero_le _⟩ (fun σ1 τ1 H locs h1 hP hS => ?_)
  obtain ⟨rfl, f3, f4, f5, m6, m7, h1⟩ := h1
  refine lv_aload_n hx hb dX12_putsAs_31 rfl (lv_at hl 0 rfl) ?_
  refine lv_iconst (v := 0) hx hb dX12_putsAs_32 (by decide) ?_
  refine lv_iload_n hx hb dX12_putsAs_33 rfl (lv_at hl 2 rfl) ?_
  have z8 : (σ1 55 56).toInt = (σ 55 56).toInt := (congrArg Int32.toInt (show σ1 55 56 = (σ 55 56) from (f4 56 (by decide))))
  refine jcallV (As := [.int 0, .int a2]) (rest := []) ⟨hx, hb, hml, hown, hts⟩ hK hP hA hS hZ (c_X12_putsAs_1_0_3 l D cI cL ad zz hJ σ1 τ a2 (A2) t2 m6 (by omega)) cw_RX12_382 (jc_55 cI cL ad σ1 τ) rfl ⟨Nat.le_of_ble_eq_true rfl, Nat.le_of_ble_eq_true rfl⟩ rfl rfl rfl hl.1 rfl (Nat.le_of_ble_eq_true rfl) dX12_putsAs_34 ⟨Nat.zero_le _, Nat.zero_le _⟩ (fun r10 σ9 τ9 H locs h9 hP hS => ?_)
  obtain ⟨rfl, f11, f12, f13, m14, m15, h9⟩ := h9
  have h16 := h9
  obtain ⟨q18, k17⟩ := h16
  have q18 := q18.symm
  subst q18
  refine lv_iconst (v := 3) hx hb dX12_putsAs_37 (by decide) ?_
  have g19 := jrg (rfl : (a2 + (σ1 55 57)).toInt = (a2 + (σ1 55 57)).toInt)
  refine lv_iadd hx hb dX12_putsAs_38 ?_
  refine lv_topi (fun x20 ex20 => ?_)
  have gx20 := jrg (rfl : x20.toInt = x20.toInt)
  have m21 : σ9 85 2 = 20 := ((f13 2 (by decide)).trans m7)
  exact hret x20 σ9 τ _ _ _ _ rfl ⟨rfl, (fun i hi => ((f11 i hi).trans (f3 i hi))), (fun i hi => ((f12 i hi).trans (f4 i hi))), (fun i hi => ((f13 i (imp_307 i hi)).trans (f5 i (imp_19 i hi)))), m14, m21, m15, ⟨(by rw [ex20, (show σ1 55 57 = σ 55 57 from (f4 57 (by decide)))]), trivial⟩⟩ hP hS dX12_putsAs_39
set_option maxHeartbeats 4000000 in
set_option maxRecDepth 100000 in
theorem c_X12_holdsAs_1_1_1 (l : Launch) (D : va_G) (cI cL : ClassId) (ad zz : Nat → Nat) (hJ : jD ad) (σ : Nat → Nat → Int32) (τ : Nat → Nat → Int64) (a2 : Int32) (A2 : Int) (t2 : a2.toInt = A2) (h55_55 : σ 55 55 = 1) (hp0 : (σ 55 56).toInt = 1) : jM l yX12_holdsAs cX12_holdsAs 4 (some .int) ({ frames := 3, cells := 0, slots := 0, locals := 65 }) D cI cL ad zz [.ref (ad 55), .int 1, .int a2] σ τ (fun r σ' τ' => τ = τ' ∧ (∀ i : Nat, (i < 55 ∨ 55 < i) ∧ (i < 85 ∨ 85 < i) → σ' i = σ i) ∧ (∀ k : Nat, (k < 55 ∨ 55 < k) → σ' 55 k = σ 55 k) ∧ (∀ k : Nat, (k < 1 ∨ 1 < k) ∧ (k < 2 ∨ 2 < k) ∧ (k < 3 ∨ 3 < k) → σ' 85 k = σ 85 k) ∧ (σ' 55 55 = 4) ∧ (σ' 85 1 = 10) ∧ (σ' 85 2 = 20) ∧ (σ' 85 3 = 1) ∧ ((r = (((a2 + (σ 55 57)) + 3) * 2) ∧ True))) := by
  refine jM.of hJ (by decide +kernel) (nt := .int) rfl (Nat.le_of_ble_eq_true rfl) ?_
  intro p e s m args below meth c Q ls hC hret hl hP
  obtain ⟨hx, hb, hr, hml, hown, hts, hK, -, hlocks, hZ⟩ := hC
  have hown : s.vm.findClass RX12 = some m.cls := hown
  have hS : va_S (jA ad) s.heap s.heap [] := va_S.rf
  have hA : ∀ q, jA ad q → jA ad q := fun _ h => h
  have hl : lv_has ls 4 [(0, .ref (ad 55)), (1, .int 1), (2, .int a2)] := hl
  have g2 := jrg t2
  refine lv_iload_n hx hb dX12_holdsAs_0 rfl (lv_at hl 1 rfl) ?_
  refine lv_iconst (v := 3) hx hb dX12_holdsAs_1 (by decide) ?_
  refine lv_icmp_eq (tgt := 10) hx hb dX12_holdsAs_2 (by decide) (fun c => absurd c (by decide)) (fun _ => ?_)
  refine lv_iload_n hx hb dX12_holdsAs_5 rfl (lv_at hl 1 rfl) ?_
  refine lv_iconst (v := 5) hx hb dX12_holdsAs_6 (by decide) ?_
  refine lv_icmp_ne (tgt := 24) hx hb dX12_holdsAs_7 (by decide) (fun _ => ?_) (fun c => absurd c (by decide))
  refine lv_iload_n hx hb dX12_holdsAs_24 rfl (lv_at hl 1 rfl) ?_
  refine lv_bipush (v := 6) hx hb dX12_holdsAs_25 (by decide) ?_
  refine lv_icmp_ne (tgt := 55) hx hb dX12_holdsAs_27 (by decide) (fun _ => ?_) (fun c => absurd c (by decide))
  refine lv_aload_n hx hb dX12_holdsAs_55 rfl (lv_at hl 0 rfl) ?_
  refine lv_bipush (v := 10) hx hb dX12_holdsAs_56 (by decide) ?_
  refine jcallVv (As := [.int 10]) (rest := []) ⟨hx, hb, hml, hown, hts⟩ hK hP hA hS hZ (c_X12_begins_10_1 l D cI cL ad zz hJ σ τ h55_55) cw_RX12_379 (jc_55 cI cL ad σ τ) rfl ⟨Nat.le_of_ble_eq_true rfl, Nat.le_of_ble_eq_true rfl⟩ rfl rfl rfl hl.1 rfl (Nat.le_of_ble_eq_true rfl) dX12_holdsAs_58 ⟨Nat.zero_le _, Nat.zero_le _⟩ (fun σ1 τ1 H locs h1 hP hS => ?_)
  obtain ⟨rfl, f3, f4, f5, m6, m7, h1⟩ := h1
  refine lv_aload_n hx hb dX12_holdsAs_61 rfl (lv_at hl 0 rfl) ?_
  refine lv_aload_n hx hb dX12_holdsAs_62 rfl (lv_at hl 0 rfl) ?_
  refine va_get (D := D) hx hb hts inlX12 hown hK hP 55 (jc_55 cI cL ad σ1 τ) rfl 56 (by decide) (hts _ kw_49_8) (fun _ h9 => h9) rfl dX12_holdsAs_63 ?_
  have m8 : σ1 55 56 = (σ 55 56) := (f4 56 (by decide))
  refine jtopr m8 ?_
  refine jtopr (jsame (rfl : (σ 55 56).toInt = (σ 55 56).toInt) jz_1 (by omega)) ?_
  refine lv_iload_n hx hb dX12_holdsAs_66 rfl (lv_at hl 2 rfl) ?_
  have z9 : (σ1 55 56).toInt = (σ 55 56).toInt := (congrArg Int32.toInt (show σ1 55 56 = (σ 55 56) from m8))
  refine jcallV (As := [.int 1, .int a2]) (rest := []) ⟨hx, hb, hml, hown, hts⟩ hK hP hA hS hZ (c_X12_putsAs_1_1_2 l D cI cL ad zz hJ σ1 τ a2 (A2) t2 m6 (by omega)) cw_RX12_382 (jc_55 cI cL ad σ1 τ) rfl ⟨Nat.le_of_ble_eq_true rfl, Nat.le_of_ble_eq_true rfl⟩ rfl rfl rfl hl.1 rfl (Nat.le_of_ble_eq_true rfl) dX12_holdsAs_67 ⟨Nat.zero_le _, Nat.zero_le _⟩ (fun r11 σ10 τ10 H locs h10 hP hS => ?_)
  obtain ⟨rfl, f12, f13, f14, m15, m16, m17, h10⟩ := h10
  have h18 := h10
  obtain ⟨q20, k19⟩ := h18
  have q20 := q20.symm
  subst q20
  refine lv_iconst (v := 2) hx hb dX12_holdsAs_70 (by decide) ?_
  have g21 := jrg (rfl : ((a2 + (σ1 55 57)) + 3).toInt = ((a2 + (σ1 55 57)) + 3).toInt)
  refine lv_imul hx hb dX12_holdsAs_71 ?_
  refine lv_topi (fun x22 ex22 => ?_)
  have gx22 := jrg (rfl : x22.toInt = x22.toInt)
  have m23 : σ10 85 1 = 10 := ((f14 1 (by decide)).trans m7)
  exact hret x22 σ10 τ _ _ _ _ rfl ⟨rfl, (fun i hi => ((f12 i hi).trans (f3 i hi))), (fun i hi => ((f13 i hi).trans (f4 i hi))), (fun i hi => ((f14 i (imp_308 i hi)).trans (f5 i (imp_350 i hi)))), m15, m23, m16, m17, ⟨(by rw [ex22, (show σ1 55 57 = σ 55 57 from (f4 57 (by decide)))]), trivial⟩⟩ hP hS dX12_holdsAs_72
set_option maxHeartbeats 4000000 in
set_option maxRecDepth 100000 in
theorem c_X12_begins_11_4 (l : Launch) (D : va_G) (cI cL : ClassId) (ad zz : Nat → Nat) (hJ : jD ad) (σ : Nat → Nat → Int32) (τ : Nat → Nat → Int64) (h55_55 : σ 55 55 = 4) : jMv l yX12_begins cX12_begins 2 none ({ frames := 0, cells := 0, slots := 0, locals := 0 }) D cI cL ad zz [.ref (ad 55), .int 11] σ τ (fun σ' τ' => τ = τ' ∧ (∀ i : Nat, (i < 55 ∨ 55 < i) ∧ (i < 85 ∨ 85 < i) → σ' i = σ i) ∧ (∀ k : Nat, (k < 55 ∨ 55 < k) → σ' 55 k = σ 55 k) ∧ (∀ k : Nat, (k < 4 ∨ 4 < k) → σ' 85 k = σ 85 k) ∧ (σ' 55 55 = 5) ∧ (σ' 85 4 = 11) ∧ True) := by
  refine jMv.of hJ (by decide +kernel) rfl (Nat.le_of_ble_eq_true rfl) ?_
  intro p e s m args below meth c Q ls hC hret hl hP
  obtain ⟨hx, hb, hr, hml, hown, hts, hK, -, hlocks, hZ⟩ := hC
  have hown : s.vm.findClass RX12 = some m.cls := hown
  have hS : va_S (jA ad) s.heap s.heap [] := va_S.rf
  have hA : ∀ q, jA ad q → jA ad q := fun _ h => h
  have hl : lv_has ls 2 [(0, .ref (ad 55)), (1, .int 11)] := hl
  refine lv_aload_n hx hb dX12_begins_0 rfl (lv_at hl 0 rfl) ?_
  refine va_get (D := D) hx hb hts inlX12 hown hK hP 55 (jc_55 cI cL ad σ τ) rfl 55 (by decide) (hts _ kw_49_7) (fun _ h9 => h9) rfl dX12_begins_1 ?_
  refine jtopr h55_55 ?_
  refine lv_bipush (v := 24) hx hb dX12_begins_4 (by decide) ?_
  refine lv_icmp_ge (tgt := 19) hx hb dX12_begins_6 (by decide) (fun c => absurd c (by decide)) (fun _ => ?_)
  refine lv_aload_n hx hb dX12_begins_9 rfl (lv_at hl 0 rfl) ?_
  refine va_get (D := D) hx hb hts inlX12 hown hK hP 55 (jc_55 cI cL ad σ τ) rfl 54 (by decide) (hts _ kw_8_10) (fun _ h9 => h9) rfl dX12_begins_10 ?_
  refine lv_aload_n hx hb dX12_begins_13 rfl (lv_at hl 0 rfl) ?_
  refine va_get (D := D) hx hb hts inlX12 hown hK hP 55 (jc_55 cI cL ad σ τ) rfl 55 (by decide) (hts _ kw_49_7) (fun _ h9 => h9) rfl dX12_begins_14 ?_
  refine jtopr h55_55 ?_
  refine lv_iload_n hx hb dX12_begins_17 rfl (lv_at hl 1 rfl) ?_
  refine jast hx hb hK hP hJ hA hS (jc_85 cI cL ad σ τ) (ja_85 cI cL ad σ τ _ _) (jin jz_4 (by omega) (by omega)) dX12_begins_18 (fun σ1 H locs eσ1 hP hS => ?_)
  have eσ1 : σ1 = jup σ 85 4 11 := eσ1
  refine lv_aload_n hx hb dX12_begins_19 rfl (lv_at hl 0 rfl) ?_
  refine lv_dup hx hb dX12_begins_20 rfl ?_
  refine va_get (D := D) hx hb hts inlX12 hown hK hP 55 (jc_55 cI cL ad σ1 τ) rfl 55 (by decide) (hts _ kw_49_7) (fun _ h9 => h9) rfl dX12_begins_21 ?_
  have m2 : σ1 55 55 = 4 := ((congrFun (jnp 55 eσ1 (by decide)) 55).trans h55_55)
  refine jtopr m2 ?_
  refine lv_iconst (v := 1) hx hb dX12_begins_24 (by decide) ?_
  refine lv_iadd hx hb dX12_begins_25 ?_
  refine jtopr (y := 5) (by decide) ?_
  refine jput (ty := .int) hx hb hts inlX12 tyX12 tyX12_ok nmX12 hown hK hP hJ hA hS (jc_55 cI cL ad σ1 τ) rfl (k := 55) (by decide) (Nat.le_of_ble_eq_true rfl) (jp_55_55 cI cL ad σ1 τ 5) (hts _ kw_49_7) (fun _ h9 => h9) rfl (by decide +kernel) rfl rfl dX12_begins_26 (fun σ3 H locs eσ3 hP hS => ?_)
  have m4 : σ3 55 55 = 5 := (jsp eσ3)
  have m5 : σ3 85 4 = 11 := ((congrFun (jnp 85 eσ3 (by decide)) 4).trans (jsp eσ1))
  exact hret σ3 τ _ _ _ _ ⟨rfl, (fun i hi => ((jnp i eσ3 (imp_345 i hi)).trans (jnp i eσ1 (imp_346 i hi)))), (fun i hi => ((jkp i eσ3 (imp_164 i hi)).trans (congrFun (jnp 55 eσ1 (by decide)) i))), (fun i hi => ((congrFun (jnp 85 eσ3 (by decide)) i).trans (jkp i eσ1 (imp_310 i hi)))), m4, m5, trivial⟩ hP hS dX12_begins_29
set_option maxHeartbeats 4000000 in
set_option maxRecDepth 100000 in
theorem c_X12_givesAs_1_1_4_x1 (l : Launch) (D : va_G) (cI cL : ClassId) (ad zz : Nat → Nat) (hJ : jD ad) (σ : Nat → Nat → Int32) (τ : Nat → Nat → Int64) (h55_55 : σ 55 55 = 4) (hp0 : (σ 55 56).toInt = 1) : jM l yX12_givesAs cX12_givesAs 4 (some .int) ({ frames := 1, cells := 0, slots := 0, locals := 21 }) D cI cL ad zz [.ref (ad 55), .int 1, .int 1] σ τ (fun r σ' τ' => τ = τ' ∧ (∀ i : Nat, (i < 55 ∨ 55 < i) ∧ (i < 85 ∨ 85 < i) → σ' i = σ i) ∧ (∀ k : Nat, (k < 55 ∨ 55 < k) → σ' 55 k = σ 55 k) ∧ (∀ k : Nat, (k < 4 ∨ 4 < k) → σ' 85 k = σ 85 k) ∧ (σ' 55 55 = 5) ∧ (σ' 85 4 = 11) ∧ ((r = (1 ^^^ (σ 55 57)) ∧ True))) := by
  refine jM.of hJ (by decide +kernel) (nt := .int) rfl (Nat.le_of_ble_eq_true rfl) ?_
  intro p e s m args below meth c Q ls hC hret hl hP
  obtain ⟨hx, hb, hr, hml, hown, hts, hK, -, hlocks, hZ⟩ := hC
  have hown : s.vm.findClass RX12 = some m.cls := hown
  have hS : va_S (jA ad) s.heap s.heap [] := va_S.rf
  have hA : ∀ q, jA ad q → jA ad q := fun _ h => h
  have hl : lv_has ls 4 [(0, .ref (ad 55)), (1, .int 1), (2, .int 1)] := hl
  refine lv_iload_n hx hb dX12_givesAs_0 rfl (lv_at hl 1 rfl) ?_
  refine lv_iconst (v := 5) hx hb dX12_givesAs_1 (by decide) ?_
  refine lv_icmp_ne (tgt := 30) hx hb dX12_givesAs_2 (by decide) (fun _ => ?_) (fun c => absurd c (by decide))
  refine lv_iload_n hx hb dX12_givesAs_30 rfl (lv_at hl 1 rfl) ?_
  refine lv_iconst (v := 2) hx hb dX12_givesAs_31 (by decide) ?_
  refine lv_icmp_eq (tgt := 40) hx hb dX12_givesAs_32 (by decide) (fun c => absurd c (by decide)) (fun _ => ?_)
  refine lv_iload_n hx hb dX12_givesAs_35 rfl (lv_at hl 1 rfl) ?_
  refine lv_iconst (v := 3) hx hb dX12_givesAs_36 (by decide) ?_
  refine lv_icmp_ne (tgt := 55) hx hb dX12_givesAs_37 (by decide) (fun _ => ?_) (fun c => absurd c (by decide))
  refine lv_aload_n hx hb dX12_givesAs_55 rfl (lv_at hl 0 rfl) ?_
  refine lv_bipush (v := 11) hx hb dX12_givesAs_56 (by decide) ?_
  refine jcallVv (As := [.int 11]) (rest := []) ⟨hx, hb, hml, hown, hts⟩ hK hP hA hS hZ (c_X12_begins_11_4 l D cI cL ad zz hJ σ τ h55_55) cw_RX12_379 (jc_55 cI cL ad σ τ) rfl ⟨Nat.le_of_ble_eq_true rfl, Nat.le_of_ble_eq_true rfl⟩ rfl rfl rfl hl.1 rfl (Nat.le_of_ble_eq_true rfl) dX12_givesAs_58 ⟨Nat.zero_le _, Nat.zero_le _⟩ (fun σ1 τ1 H locs h1 hP hS => ?_)
  obtain ⟨rfl, f3, f4, f5, m6, m7, h1⟩ := h1
  refine lv_iload_n hx hb dX12_givesAs_61 rfl (lv_at hl 2 rfl) ?_
  refine lv_aload_n hx hb dX12_givesAs_62 rfl (lv_at hl 0 rfl) ?_
  refine va_get (D := D) hx hb hts inlX12 hown hK hP 55 (jc_55 cI cL ad σ1 τ) rfl 57 (by decide) (hts _ kw_49_9) (fun _ h9 => h9) rfl dX12_givesAs_63 ?_
  have m8 : σ1 55 57 = (σ 55 57) := (f4 57 (by decide))
  refine jtopr m8 ?_
  refine lv_ixor hx hb dX12_givesAs_66 ?_
  refine lv_topi (fun x9 ex9 => ?_)
  have gx9 := jrg (rfl : x9.toInt = x9.toInt)
  exact hret x9 σ1 τ _ _ _ _ rfl ⟨rfl, (fun i hi => (f3 i hi)), (fun i hi => (f4 i hi)), (fun i hi => (f5 i hi)), m6, m7, ⟨(by rw [ex9]), trivial⟩⟩ hP hS dX12_givesAs_67
set_option maxHeartbeats 4000000 in
set_option maxRecDepth 100000 in
theorem c_X12_tellsAs_1_1_0 (l : Launch) (D : va_G) (cI cL : ClassId) (ad zz : Nat → Nat) (hJ : jD ad) (σ : Nat → Nat → Int32) (τ : Nat → Nat → Int64) (a2 : Int32) (A2 : Int) (t2 : a2.toInt = A2) (h55_55 : σ 55 55 = 0) (hp0 : (σ 55 56).toInt = 1) : jM l yX12_tellsAs cX12_tellsAs 4 (some .int) ({ frames := 4, cells := 0, slots := 0, locals := 88 }) D cI cL ad zz [.ref (ad 55), .int 1, .int a2] σ τ (fun r σ' τ' => τ = τ' ∧ (∀ i : Nat, (i < 55 ∨ 55 < i) ∧ (i < 85 ∨ 85 < i) → σ' i = σ i) ∧ (∀ k : Nat, (k < 55 ∨ 55 < k) → σ' 55 k = σ 55 k) ∧ (∀ k : Nat, (k < 0 ∨ 0 < k) ∧ (k < 1 ∨ 1 < k) ∧ (k < 2 ∨ 2 < k) ∧ (k < 3 ∨ 3 < k) ∧ (k < 4 ∨ 4 < k) → σ' 85 k = σ 85 k) ∧ (σ' 55 55 = 5) ∧ (σ' 85 0 = 2) ∧ (σ' 85 1 = 10) ∧ (σ' 85 2 = 20) ∧ (σ' 85 3 = 1) ∧ (σ' 85 4 = 11) ∧ ((r = ((((a2 + (σ 55 57)) + 3) * 2) - (1 ^^^ (σ 55 57))) ∧ True))) := by
  refine jM.of hJ (by decide +kernel) (nt := .int) rfl (Nat.le_of_ble_eq_true rfl) ?_
  intro p e s m args below meth c Q ls hC hret hl hP
  obtain ⟨hx, hb, hr, hml, hown, hts, hK, -, hlocks, hZ⟩ := hC
  have hown : s.vm.findClass RX12 = some m.cls := hown
  have hS : va_S (jA ad) s.heap s.heap [] := va_S.rf
  have hA : ∀ q, jA ad q → jA ad q := fun _ h => h
  have hl : lv_has ls 4 [(0, .ref (ad 55)), (1, .int 1), (2, .int a2)] := hl
  have g2 := jrg t2
  refine lv_iload_n hx hb dX12_tellsAs_0 rfl (lv_at hl 1 rfl) ?_
  refine lv_iconst (v := 4) hx hb dX12_tellsAs_1 (by decide) ?_
  refine lv_icmp_ne (tgt := 20) hx hb dX12_tellsAs_2 (by decide) (fun _ => ?_) (fun c => absurd c (by decide))
  refine lv_aload_n hx hb dX12_tellsAs_20 rfl (lv_at hl 0 rfl) ?_
  refine lv_iconst (v := 2) hx hb dX12_tellsAs_21 (by decide) ?_
  refine jcallVv (As := [.int 2]) (rest := []) ⟨hx, hb, hml, hown, hts⟩ hK hP hA hS hZ (c_X12_begins_2_0 l D cI cL ad zz hJ σ τ h55_55) cw_RX12_379 (jc_55 cI cL ad σ τ) rfl ⟨Nat.le_of_ble_eq_true rfl, Nat.le_of_ble_eq_true rfl⟩ rfl rfl rfl hl.1 rfl (Nat.le_of_ble_eq_true rfl) dX12_tellsAs_22 ⟨Nat.zero_le _, Nat.zero_le _⟩ (fun σ1 τ1 H locs h1 hP hS => ?_)
  obtain ⟨rfl, f3, f4, f5, m6, m7, h1⟩ := h1
  refine lv_aload_n hx hb dX12_tellsAs_25 rfl (lv_at hl 0 rfl) ?_
  refine lv_aload_n hx hb dX12_tellsAs_26 rfl (lv_at hl 0 rfl) ?_
  refine va_get (D := D) hx hb hts inlX12 hown hK hP 55 (jc_55 cI cL ad σ1 τ) rfl 56 (by decide) (hts _ kw_49_8) (fun _ h9 => h9) rfl dX12_tellsAs_27 ?_
  have m8 : σ1 55 56 = (σ 55 56) := (f4 56 (by decide))
  refine jtopr m8 ?_
  refine jtopr (jsame (rfl : (σ 55 56).toInt = (σ 55 56).toInt) jz_1 (by omega)) ?_
  refine lv_iload_n hx hb dX12_tellsAs_30 rfl (lv_at hl 2 rfl) ?_
  have z9 : (σ1 55 56).toInt = (σ 55 56).toInt := (congrArg Int32.toInt (show σ1 55 56 = (σ 55 56) from m8))
  refine jcallV (As := [.int 1, .int a2]) (rest := []) ⟨hx, hb, hml, hown, hts⟩ hK hP hA hS hZ (c_X12_holdsAs_1_1_1 l D cI cL ad zz hJ σ1 τ a2 (A2) t2 m6 (by omega)) cw_RX12_388 (jc_55 cI cL ad σ1 τ) rfl ⟨Nat.le_of_ble_eq_true rfl, Nat.le_of_ble_eq_true rfl⟩ rfl rfl rfl hl.1 rfl (Nat.le_of_ble_eq_true rfl) dX12_tellsAs_31 ⟨Nat.zero_le _, Nat.zero_le _⟩ (fun r11 σ10 τ10 H locs h10 hP hS => ?_)
  obtain ⟨rfl, f12, f13, f14, m15, m16, m17, m18, h10⟩ := h10
  have h19 := h10
  obtain ⟨q21, k20⟩ := h19
  have q21 := q21.symm
  subst q21
  refine lv_istore_n (lv' := [(3, .int (((a2 + (σ1 55 57)) + 3) * 2)), (0, .ref (ad 55)), (1, .int 1), (2, .int a2)]) hx hb dX12_tellsAs_34 rfl hl (by decide) rfl (fun ls hl => ?_)
  refine lv_iload_n hx hb dX12_tellsAs_35 rfl (lv_at hl 0 rfl) ?_
  refine lv_aload_n hx hb dX12_tellsAs_36 rfl (lv_at hl 1 rfl) ?_
  refine lv_aload_n hx hb dX12_tellsAs_37 rfl (lv_at hl 1 rfl) ?_
  refine va_get (D := D) hx hb hts inlX12 hown hK hP 55 (jc_55 cI cL ad σ10 τ) rfl 56 (by decide) (hts _ kw_49_8) (fun _ h9 => h9) rfl dX12_tellsAs_38 ?_
  have m22 : σ10 55 56 = (σ 55 56) := ((f13 56 (by decide)).trans m8)
  refine jtopr m22 ?_
  refine jtopr (jsame (rfl : (σ 55 56).toInt = (σ 55 56).toInt) jz_1 (by omega)) ?_
  refine lv_iconst (v := 1) hx hb dX12_tellsAs_41 (by decide) ?_
  have z23 : (σ10 55 56).toInt = (σ 55 56).toInt := (congrArg Int32.toInt (show σ10 55 56 = (σ 55 56) from m22))
  refine jcallV (As := [.int 1, .int 1]) (rest := [.int (((a2 + (σ1 55 57)) + 3) * 2)]) ⟨hx, hb, hml, hown, hts⟩ hK hP hA hS hZ (c_X12_givesAs_1_1_4_x1 l D cI cL ad zz hJ σ10 τ m15 (by omega)) cw_RX12_394 (jc_55 cI cL ad σ10 τ) rfl ⟨Nat.le_of_ble_eq_true rfl, Nat.le_of_ble_eq_true rfl⟩ rfl rfl rfl hl.1 rfl (Nat.le_of_ble_eq_true rfl) dX12_tellsAs_42 ⟨Nat.zero_le _, Nat.zero_le _⟩ (fun r25 σ24 τ24 H locs h24 hP hS => ?_)
  obtain ⟨rfl, f26, f27, f28, m29, m30, h24⟩ := h24
  have h31 := h24
  obtain ⟨q33, k32⟩ := h31
  have q33 := q33.symm
  subst q33
  have g34 := jrg (rfl : (((a2 + (σ1 55 57)) + 3) * 2).toInt = (((a2 + (σ1 55 57)) + 3) * 2).toInt)
  have g35 := jrg (rfl : (1 ^^^ (σ10 55 57)).toInt = (1 ^^^ (σ10 55 57)).toInt)
  refine lv_isub hx hb dX12_tellsAs_45 ?_
  refine lv_topi (fun x36 ex36 => ?_)
  have gx36 := jrg (rfl : x36.toInt = x36.toInt)
  have m37 : σ24 85 0 = 2 := ((f28 0 (by decide)).trans ((f14 0 (by decide)).trans m7))
  have m38 : σ24 85 1 = 10 := ((f28 1 (by decide)).trans m16)
  have m39 : σ24 85 2 = 20 := ((f28 2 (by decide)).trans m17)
  have m40 : σ24 85 3 = 1 := ((f28 3 (by decide)).trans m18)
  exact hret x36 σ24 τ _ _ _ _ rfl ⟨rfl, (fun i hi => ((f26 i hi).trans ((f12 i hi).trans (f3 i hi)))), (fun i hi => ((f27 i hi).trans ((f13 i hi).trans (f4 i hi)))), (fun i hi => ((f28 i (imp_311 i hi)).trans ((f14 i (imp_312 i hi)).trans (f5 i (imp_351 i hi))))), m29, m37, m38, m39, m40, m30, ⟨(by rw [ex36, (show σ1 55 57 = σ 55 57 from (f4 57 (by decide))), (show σ10 55 57 = σ 55 57 from ((f13 57 (by decide)).trans (f4 57 (by decide))))]), trivial⟩⟩ hP hS dX12_tellsAs_46
set_option maxHeartbeats 4000000 in
set_option maxRecDepth 100000 in
theorem c_X12_putsAs_2_2_0 (l : Launch) (D : va_G) (cI cL : ClassId) (ad zz : Nat → Nat) (hJ : jD ad) (σ : Nat → Nat → Int32) (τ : Nat → Nat → Int64) (a2 : Int32) (A2 : Int) (t2 : a2.toInt = A2) (h55_55 : σ 55 55 = 0) (hp0 : (σ 55 56).toInt = 2) : jM l yX12_putsAs cX12_putsAs 3 (some .int) ({ frames := 1, cells := 0, slots := 0, locals := 21 }) D cI cL ad zz [.ref (ad 55), .int 2, .int a2] σ τ (fun r σ' τ' => τ = τ' ∧ (∀ i : Nat, (i < 55 ∨ 55 < i) ∧ (i < 85 ∨ 85 < i) → σ' i = σ i) ∧ (∀ k : Nat, (k < 55 ∨ 55 < k) → σ' 55 k = σ 55 k) ∧ (∀ k : Nat, (k < 0 ∨ 0 < k) → σ' 85 k = σ 85 k) ∧ (σ' 55 55 = 1) ∧ (σ' 85 0 = 1) ∧ ((r = (a2 + (σ 55 57)) ∧ True))) := by
  refine jM.of hJ (by decide +kernel) (nt := .int) rfl (Nat.le_of_ble_eq_true rfl) ?_
  intro p e s m args below meth c Q ls hC hret hl hP
  obtain ⟨hx, hb, hr, hml, hown, hts, hK, -, hlocks, hZ⟩ := hC
  have hown : s.vm.findClass RX12 = some m.cls := hown
  have hS : va_S (jA ad) s.heap s.heap [] := va_S.rf
  have hA : ∀ q, jA ad q → jA ad q := fun _ h => h
  have hl : lv_has ls 3 [(0, .ref (ad 55)), (1, .int 2), (2, .int a2)] := hl
  have g2 := jrg t2
  refine lv_iload_n hx hb dX12_putsAs_0 rfl (lv_at hl 1 rfl) ?_
  refine lv_iconst (v := 4) hx hb dX12_putsAs_1 (by decide) ?_
  refine lv_icmp_ne (tgt := 20) hx hb dX12_putsAs_2 (by decide) (fun _ => ?_) (fun c => absurd c (by decide))
  refine lv_iload_n hx hb dX12_putsAs_20 rfl (lv_at hl 1 rfl) ?_
  refine lv_iconst (v := 1) hx hb dX12_putsAs_21 (by decide) ?_
  refine lv_icmp_ne (tgt := 40) hx hb dX12_putsAs_22 (by decide) (fun _ => ?_) (fun c => absurd c (by decide))
  refine lv_aload_n hx hb dX12_putsAs_40 rfl (lv_at hl 0 rfl) ?_
  refine lv_iconst (v := 1) hx hb dX12_putsAs_41 (by decide) ?_
  refine jcallVv (As := [.int 1]) (rest := []) ⟨hx, hb, hml, hown, hts⟩ hK hP hA hS hZ (c_X12_begins_1_0 l D cI cL ad zz hJ σ τ h55_55) cw_RX12_379 (jc_55 cI cL ad σ τ) rfl ⟨Nat.le_of_ble_eq_true rfl, Nat.le_of_ble_eq_true rfl⟩ rfl rfl rfl hl.1 rfl (Nat.le_of_ble_eq_true rfl) dX12_putsAs_42 ⟨Nat.zero_le _, Nat.zero_le _⟩ (fun σ1 τ1 H locs h1 hP hS => ?_)
  obtain ⟨rfl, f3, f4, f5, m6, m7, h1⟩ := h1
  refine lv_iload_n hx hb dX12_putsAs_45 rfl (lv_at hl 2 rfl) ?_
  refine lv_aload_n hx hb dX12_putsAs_46 rfl (lv_at hl 0 rfl) ?_
  refine va_get (D := D) hx hb hts inlX12 hown hK hP 55 (jc_55 cI cL ad σ1 τ) rfl 57 (by decide) (hts _ kw_49_9) (fun _ h9 => h9) rfl dX12_putsAs_47 ?_
  have m8 : σ1 55 57 = (σ 55 57) := (f4 57 (by decide))
  refine jtopr m8 ?_
  have g9 := jrg (rfl : (σ 55 57).toInt = (σ 55 57).toInt)
  refine lv_iadd hx hb dX12_putsAs_50 ?_
  refine lv_topi (fun x10 ex10 => ?_)
  have gx10 := jrg (rfl : x10.toInt = x10.toInt)
  exact hret x10 σ1 τ _ _ _ _ rfl ⟨rfl, (fun i hi => (f3 i hi)), (fun i hi => (f4 i hi)), (fun i hi => (f5 i hi)), m6, m7, ⟨(by rw [ex10]), trivial⟩⟩ hP hS dX12_putsAs_51
set_option maxHeartbeats 4000000 in
set_option maxRecDepth 100000 in
theorem c_X12_putsAs_2_2_1 (l : Launch) (D : va_G) (cI cL : ClassId) (ad zz : Nat → Nat) (hJ : jD ad) (σ : Nat → Nat → Int32) (τ : Nat → Nat → Int64) (a2 : Int32) (A2 : Int) (t2 : a2.toInt = A2) (h55_55 : σ 55 55 = 1) (hp0 : (σ 55 56).toInt = 2) : jM l yX12_putsAs cX12_putsAs 3 (some .int) ({ frames := 1, cells := 0, slots := 0, locals := 21 }) D cI cL ad zz [.ref (ad 55), .int 2, .int a2] σ τ (fun r σ' τ' => τ = τ' ∧ (∀ i : Nat, (i < 55 ∨ 55 < i) ∧ (i < 85 ∨ 85 < i) → σ' i = σ i) ∧ (∀ k : Nat, (k < 55 ∨ 55 < k) → σ' 55 k = σ 55 k) ∧ (∀ k : Nat, (k < 1 ∨ 1 < k) → σ' 85 k = σ 85 k) ∧ (σ' 55 55 = 2) ∧ (σ' 85 1 = 1) ∧ ((r = (a2 + (σ 55 57)) ∧ True))) := by
  refine jM.of hJ (by decide +kernel) (nt := .int) rfl (Nat.le_of_ble_eq_true rfl) ?_
  intro p e s m args below meth c Q ls hC hret hl hP
  obtain ⟨hx, hb, hr, hml, hown, hts, hK, -, hlocks, hZ⟩ := hC
  have hown : s.vm.findClass RX12 = some m.cls := hown
  have hS : va_S (jA ad) s.heap s.heap [] := va_S.rf
  have hA : ∀ q, jA ad q → jA ad q := fun _ h => h
  have hl : lv_has ls 3 [(0, .ref (ad 55)), (1, .int 2), (2, .int a2)] := hl
  have g2 := jrg t2
  refine lv_iload_n hx hb dX12_putsAs_0 rfl (lv_at hl 1 rfl) ?_
  refine lv_iconst (v := 4) hx hb dX12_putsAs_1 (by decide) ?_
  refine lv_icmp_ne (tgt := 20) hx hb dX12_putsAs_2 (by decide) (fun _ => ?_) (fun c => absurd c (by decide))
  refine lv_iload_n hx hb dX12_putsAs_20 rfl (lv_at hl 1 rfl) ?_
  refine lv_iconst (v := 1) hx hb dX12_putsAs_21 (by decide) ?_
  refine lv_icmp_ne (tgt := 40) hx hb dX12_putsAs_22 (by decide) (fun _ => ?_) (fun c => absurd c (by decide))
  refine lv_aload_n hx hb dX12_putsAs_40 rfl (lv_at hl 0 rfl) ?_
  refine lv_iconst (v := 1) hx hb dX12_putsAs_41 (by decide) ?_
  refine jcallVv (As := [.int 1]) (rest := []) ⟨hx, hb, hml, hown, hts⟩ hK hP hA hS hZ (c_X12_begins_1_1 l D cI cL ad zz hJ σ τ h55_55) cw_RX12_379 (jc_55 cI cL ad σ τ) rfl ⟨Nat.le_of_ble_eq_true rfl, Nat.le_of_ble_eq_true rfl⟩ rfl rfl rfl hl.1 rfl (Nat.le_of_ble_eq_true rfl) dX12_putsAs_42 ⟨Nat.zero_le _, Nat.zero_le _⟩ (fun σ1 τ1 H locs h1 hP hS => ?_)
  obtain ⟨rfl, f3, f4, f5, m6, m7, h1⟩ := h1
  refine lv_iload_n hx hb dX12_putsAs_45 rfl (lv_at hl 2 rfl) ?_
  refine lv_aload_n hx hb dX12_putsAs_46 rfl (lv_at hl 0 rfl) ?_
  refine va_get (D := D) hx hb hts inlX12 hown hK hP 55 (jc_55 cI cL ad σ1 τ) rfl 57 (by decide) (hts _ kw_49_9) (fun _ h9 => h9) rfl dX12_putsAs_47 ?_
  have m8 : σ1 55 57 = (σ 55 57) := (f4 57 (by decide))
  refine jtopr m8 ?_
  have g9 := jrg (rfl : (σ 55 57).toInt = (σ 55 57).toInt)
  refine lv_iadd hx hb dX12_putsAs_50 ?_
  refine lv_topi (fun x10 ex10 => ?_)
  have gx10 := jrg (rfl : x10.toInt = x10.toInt)
  exact hret x10 σ1 τ _ _ _ _ rfl ⟨rfl, (fun i hi => (f3 i hi)), (fun i hi => (f4 i hi)), (fun i hi => (f5 i hi)), m6, m7, ⟨(by rw [ex10]), trivial⟩⟩ hP hS dX12_putsAs_51
set_option maxHeartbeats 4000000 in
set_option maxRecDepth 100000 in
theorem c_X12_holdsAs_2_2_0 (l : Launch) (D : va_G) (cI cL : ClassId) (ad zz : Nat → Nat) (hJ : jD ad) (σ : Nat → Nat → Int32) (τ : Nat → Nat → Int64) (a2 : Int32) (A2 : Int) (t2 : a2.toInt = A2) (h55_55 : σ 55 55 = 0) (hp0 : (σ 55 56).toInt = 2) : jM l yX12_holdsAs cX12_holdsAs 4 (some .int) ({ frames := 2, cells := 0, slots := 0, locals := 43 }) D cI cL ad zz [.ref (ad 55), .int 2, .int a2] σ τ (fun r σ' τ' => τ = τ' ∧ (∀ i : Nat, (i < 55 ∨ 55 < i) ∧ (i < 85 ∨ 85 < i) → σ' i = σ i) ∧ (∀ k : Nat, (k < 55 ∨ 55 < k) → σ' 55 k = σ 55 k) ∧ (∀ k : Nat, (k < 0 ∨ 0 < k) ∧ (k < 1 ∨ 1 < k) → σ' 85 k = σ 85 k) ∧ (σ' 55 55 = 2) ∧ (σ' 85 0 = 10) ∧ (σ' 85 1 = 1) ∧ ((r = ((a2 + (σ 55 57)) * 2) ∧ True))) := by
  refine jM.of hJ (by decide +kernel) (nt := .int) rfl (Nat.le_of_ble_eq_true rfl) ?_
  intro p e s m args below meth c Q ls hC hret hl hP
  obtain ⟨hx, hb, hr, hml, hown, hts, hK, -, hlocks, hZ⟩ := hC
  have hown : s.vm.findClass RX12 = some m.cls := hown
  have hS : va_S (jA ad) s.heap s.heap [] := va_S.rf
  have hA : ∀ q, jA ad q → jA ad q := fun _ h => h
  have hl : lv_has ls 4 [(0, .ref (ad 55)), (1, .int 2), (2, .int a2)] := hl
  have g2 := jrg t2
  refine lv_iload_n hx hb dX12_holdsAs_0 rfl (lv_at hl 1 rfl) ?_
  refine lv_iconst (v := 3) hx hb dX12_holdsAs_1 (by decide) ?_
  refine lv_icmp_eq (tgt := 10) hx hb dX12_holdsAs_2 (by decide) (fun c => absurd c (by decide)) (fun _ => ?_)
  refine lv_iload_n hx hb dX12_holdsAs_5 rfl (lv_at hl 1 rfl) ?_
  refine lv_iconst (v := 5) hx hb dX12_holdsAs_6 (by decide) ?_
  refine lv_icmp_ne (tgt := 24) hx hb dX12_holdsAs_7 (by decide) (fun _ => ?_) (fun c => absurd c (by decide))
  refine lv_iload_n hx hb dX12_holdsAs_24 rfl (lv_at hl 1 rfl) ?_
  refine lv_bipush (v := 6) hx hb dX12_holdsAs_25 (by decide) ?_
  refine lv_icmp_ne (tgt := 55) hx hb dX12_holdsAs_27 (by decide) (fun _ => ?_) (fun c => absurd c (by decide))
  refine lv_aload_n hx hb dX12_holdsAs_55 rfl (lv_at hl 0 rfl) ?_
  refine lv_bipush (v := 10) hx hb dX12_holdsAs_56 (by decide) ?_
  refine jcallVv (As := [.int 10]) (rest := []) ⟨hx, hb, hml, hown, hts⟩ hK hP hA hS hZ (c_X12_begins_10_0 l D cI cL ad zz hJ σ τ h55_55) cw_RX12_379 (jc_55 cI cL ad σ τ) rfl ⟨Nat.le_of_ble_eq_true rfl, Nat.le_of_ble_eq_true rfl⟩ rfl rfl rfl hl.1 rfl (Nat.le_of_ble_eq_true rfl) dX12_holdsAs_58 ⟨Nat.zero_le _, Nat.zero_le _⟩ (fun σ1 τ1 H locs h1 hP hS => ?_)
  obtain ⟨rfl, f3, f4, f5, m6, m7, h1⟩ := h1
  refine lv_aload_n hx hb dX12_holdsAs_61 rfl (lv_at hl 0 rfl) ?_
  refine lv_aload_n hx hb dX12_holdsAs_62 rfl (lv_at hl 0 rfl) ?_
  refine va_get (D := D) hx hb hts inlX12 hown hK hP 55 (jc_55 cI cL ad σ1 τ) rfl 56 (by decide) (hts _ kw_49_8) (fun _ h9 => h9) rfl dX12_holdsAs_63 ?_
  have m8 : σ1 55 56 = (σ 55 56) := (f4 56 (by decide))
  refine jtopr m8 ?_
  refine jtopr (jsame (rfl : (σ 55 56).toInt = (σ 55 56).toInt) jz_2 (by omega)) ?_
  refine lv_iload_n hx hb dX12_holdsAs_66 rfl (lv_at hl 2 rfl) ?_
  have z9 : (σ1 55 56).toInt = (σ 55 56).toInt := (congrArg Int32.toInt (show σ1 55 56 = (σ 55 56) from m8))
  refine jcallV (As := [.int 2, .int a2]) (rest := []) ⟨hx, hb, hml, hown, hts⟩ hK hP hA hS hZ (c_X12_putsAs_2_2_1 l D cI cL ad zz hJ σ1 τ a2 (A2) t2 m6 (by omega)) cw_RX12_382 (jc_55 cI cL ad σ1 τ) rfl ⟨Nat.le_of_ble_eq_true rfl, Nat.le_of_ble_eq_true rfl⟩ rfl rfl rfl hl.1 rfl (Nat.le_of_ble_eq_true rfl) dX12_holdsAs_67 ⟨Nat.zero_le _, Nat.zero_le _⟩ (fun r11 σ10 τ10 H locs h10 hP hS => ?_)
  obtain ⟨rfl, f12, f13, f14, m15, m16, h10⟩ := h10
  have h17 := h10
  obtain ⟨q19, k18⟩ := h17
  have q19 := q19.symm
  subst q19
  refine lv_iconst (v := 2) hx hb dX12_holdsAs_70 (by decide) ?_
  have g20 := jrg (rfl : (a2 + (σ1 55 57)).toInt = (a2 + (σ1 55 57)).toInt)
  refine lv_imul hx hb dX12_holdsAs_71 ?_
  refine lv_topi (fun x21 ex21 => ?_)
  have gx21 := jrg (rfl : x21.toInt = x21.toInt)
  have m22 : σ10 85 0 = 10 := ((f14 0 (by decide)).trans m7)
  exact hret x21 σ10 τ _ _ _ _ rfl ⟨rfl, (fun i hi => ((f12 i hi).trans (f3 i hi))), (fun i hi => ((f13 i hi).trans (f4 i hi))), (fun i hi => ((f14 i (imp_302 i hi)).trans (f5 i (imp_347 i hi)))), m15, m22, m16, ⟨(by rw [ex21, (show σ1 55 57 = σ 55 57 from (f4 57 (by decide)))]), trivial⟩⟩ hP hS dX12_holdsAs_72
set_option maxHeartbeats 4000000 in
set_option maxRecDepth 100000 in
theorem c_X12_begins_30_0 (l : Launch) (D : va_G) (cI cL : ClassId) (ad zz : Nat → Nat) (hJ : jD ad) (σ : Nat → Nat → Int32) (τ : Nat → Nat → Int64) (h55_55 : σ 55 55 = 0) : jMv l yX12_begins cX12_begins 2 none ({ frames := 0, cells := 0, slots := 0, locals := 0 }) D cI cL ad zz [.ref (ad 55), .int 30] σ τ (fun σ' τ' => τ = τ' ∧ (∀ i : Nat, (i < 55 ∨ 55 < i) ∧ (i < 85 ∨ 85 < i) → σ' i = σ i) ∧ (∀ k : Nat, (k < 55 ∨ 55 < k) → σ' 55 k = σ 55 k) ∧ (∀ k : Nat, (k < 0 ∨ 0 < k) → σ' 85 k = σ 85 k) ∧ (σ' 55 55 = 1) ∧ (σ' 85 0 = 30) ∧ True) := by
  refine jMv.of hJ (by decide +kernel) rfl (Nat.le_of_ble_eq_true rfl) ?_
  intro p e s m args below meth c Q ls hC hret hl hP
  obtain ⟨hx, hb, hr, hml, hown, hts, hK, -, hlocks, hZ⟩ := hC
  have hown : s.vm.findClass RX12 = some m.cls := hown
  have hS : va_S (jA ad) s.heap s.heap [] := va_S.rf
  have hA : ∀ q, jA ad q → jA ad q := fun _ h => h
  have hl : lv_has ls 2 [(0, .ref (ad 55)), (1, .int 30)] := hl
  refine lv_aload_n hx hb dX12_begins_0 rfl (lv_at hl 0 rfl) ?_
  refine va_get (D := D) hx hb hts inlX12 hown hK hP 55 (jc_55 cI cL ad σ τ) rfl 55 (by decide) (hts _ kw_49_7) (fun _ h9 => h9) rfl dX12_begins_1 ?_
  refine jtopr h55_55 ?_
  refine lv_bipush (v := 24) hx hb dX12_begins_4 (by decide) ?_
  refine lv_icmp_ge (tgt := 19) hx hb dX12_begins_6 (by decide) (fun c => absurd c (by decide)) (fun _ => ?_)
  refine lv_aload_n hx hb dX12_begins_9 rfl (lv_at hl 0 rfl) ?_
  refine va_get (D := D) hx hb hts inlX12 hown hK hP 55 (jc_55 cI cL ad σ τ) rfl 54 (by decide) (hts _ kw_8_10) (fun _ h9 => h9) rfl dX12_begins_10 ?_
  refine lv_aload_n hx hb dX12_begins_13 rfl (lv_at hl 0 rfl) ?_
  refine va_get (D := D) hx hb hts inlX12 hown hK hP 55 (jc_55 cI cL ad σ τ) rfl 55 (by decide) (hts _ kw_49_7) (fun _ h9 => h9) rfl dX12_begins_14 ?_
  refine jtopr h55_55 ?_
  refine lv_iload_n hx hb dX12_begins_17 rfl (lv_at hl 1 rfl) ?_
  refine jast hx hb hK hP hJ hA hS (jc_85 cI cL ad σ τ) (ja_85 cI cL ad σ τ _ _) (jin jz_0 (by omega) (by omega)) dX12_begins_18 (fun σ1 H locs eσ1 hP hS => ?_)
  have eσ1 : σ1 = jup σ 85 0 30 := eσ1
  refine lv_aload_n hx hb dX12_begins_19 rfl (lv_at hl 0 rfl) ?_
  refine lv_dup hx hb dX12_begins_20 rfl ?_
  refine va_get (D := D) hx hb hts inlX12 hown hK hP 55 (jc_55 cI cL ad σ1 τ) rfl 55 (by decide) (hts _ kw_49_7) (fun _ h9 => h9) rfl dX12_begins_21 ?_
  have m2 : σ1 55 55 = 0 := ((congrFun (jnp 55 eσ1 (by decide)) 55).trans h55_55)
  refine jtopr m2 ?_
  refine lv_iconst (v := 1) hx hb dX12_begins_24 (by decide) ?_
  refine lv_iadd hx hb dX12_begins_25 ?_
  refine jtopr (y := 1) (by decide) ?_
  refine jput (ty := .int) hx hb hts inlX12 tyX12 tyX12_ok nmX12 hown hK hP hJ hA hS (jc_55 cI cL ad σ1 τ) rfl (k := 55) (by decide) (Nat.le_of_ble_eq_true rfl) (jp_55_55 cI cL ad σ1 τ 1) (hts _ kw_49_7) (fun _ h9 => h9) rfl (by decide +kernel) rfl rfl dX12_begins_26 (fun σ3 H locs eσ3 hP hS => ?_)
  have m4 : σ3 55 55 = 1 := (jsp eσ3)
  have m5 : σ3 85 0 = 30 := ((congrFun (jnp 85 eσ3 (by decide)) 0).trans (jsp eσ1))
  exact hret σ3 τ _ _ _ _ ⟨rfl, (fun i hi => ((jnp i eσ3 (imp_345 i hi)).trans (jnp i eσ1 (imp_346 i hi)))), (fun i hi => ((jkp i eσ3 (imp_164 i hi)).trans (congrFun (jnp 55 eσ1 (by decide)) i))), (fun i hi => ((congrFun (jnp 85 eσ3 (by decide)) i).trans (jkp i eσ1 (imp_4 i hi)))), m4, m5, trivial⟩ hP hS dX12_begins_29
set_option maxHeartbeats 4000000 in
set_option maxRecDepth 100000 in
theorem c_X12_begins_11_1 (l : Launch) (D : va_G) (cI cL : ClassId) (ad zz : Nat → Nat) (hJ : jD ad) (σ : Nat → Nat → Int32) (τ : Nat → Nat → Int64) (h55_55 : σ 55 55 = 1) : jMv l yX12_begins cX12_begins 2 none ({ frames := 0, cells := 0, slots := 0, locals := 0 }) D cI cL ad zz [.ref (ad 55), .int 11] σ τ (fun σ' τ' => τ = τ' ∧ (∀ i : Nat, (i < 55 ∨ 55 < i) ∧ (i < 85 ∨ 85 < i) → σ' i = σ i) ∧ (∀ k : Nat, (k < 55 ∨ 55 < k) → σ' 55 k = σ 55 k) ∧ (∀ k : Nat, (k < 1 ∨ 1 < k) → σ' 85 k = σ 85 k) ∧ (σ' 55 55 = 2) ∧ (σ' 85 1 = 11) ∧ True) := by
  refine jMv.of hJ (by decide +kernel) rfl (Nat.le_of_ble_eq_true rfl) ?_
  intro p e s m args below meth c Q ls hC hret hl hP
  obtain ⟨hx, hb, hr, hml, hown, hts, hK, -, hlocks, hZ⟩ := hC
  have hown : s.vm.findClass RX12 = some m.cls := hown
  have hS : va_S (jA ad) s.heap s.heap [] := va_S.rf
  have hA : ∀ q, jA ad q → jA ad q := fun _ h => h
  have hl : lv_has ls 2 [(0, .ref (ad 55)), (1, .int 11)] := hl
  refine lv_aload_n hx hb dX12_begins_0 rfl (lv_at hl 0 rfl) ?_
  refine va_get (D := D) hx hb hts inlX12 hown hK hP 55 (jc_55 cI cL ad σ τ) rfl 55 (by decide) (hts _ kw_49_7) (fun _ h9 => h9) rfl dX12_begins_1 ?_
  refine jtopr h55_55 ?_
  refine lv_bipush (v := 24) hx hb dX12_begins_4 (by decide) ?_
  refine lv_icmp_ge (tgt := 19) hx hb dX12_begins_6 (by decide) (fun c => absurd c (by decide)) (fun _ => ?_)
  refine lv_aload_n hx hb dX12_begins_9 rfl (lv_at hl 0 rfl) ?_
  refine va_get (D := D) hx hb hts inlX12 hown hK hP 55 (jc_55 cI cL ad σ τ) rfl 54 (by decide) (hts _ kw_8_10) (fun _ h9 => h9) rfl dX12_begins_10 ?_
  refine lv_aload_n hx hb dX12_begins_13 rfl (lv_at hl 0 rfl) ?_
  refine va_get (D := D) hx hb hts inlX12 hown hK hP 55 (jc_55 cI cL ad σ τ) rfl 55 (by decide) (hts _ kw_49_7) (fun _ h9 => h9) rfl dX12_begins_14 ?_
  refine jtopr h55_55 ?_
  refine lv_iload_n hx hb dX12_begins_17 rfl (lv_at hl 1 rfl) ?_
  refine jast hx hb hK hP hJ hA hS (jc_85 cI cL ad σ τ) (ja_85 cI cL ad σ τ _ _) (jin jz_1 (by omega) (by omega)) dX12_begins_18 (fun σ1 H locs eσ1 hP hS => ?_)
  have eσ1 : σ1 = jup σ 85 1 11 := eσ1
  refine lv_aload_n hx hb dX12_begins_19 rfl (lv_at hl 0 rfl) ?_
  refine lv_dup hx hb dX12_begins_20 rfl ?_
  refine va_get (D := D) hx hb hts inlX12 hown hK hP 55 (jc_55 cI cL ad σ1 τ) rfl 55 (by decide) (hts _ kw_49_7) (fun _ h9 => h9) rfl dX12_begins_21 ?_
  have m2 : σ1 55 55 = 1 := ((congrFun (jnp 55 eσ1 (by decide)) 55).trans h55_55)
  refine jtopr m2 ?_
  refine lv_iconst (v := 1) hx hb dX12_begins_24 (by decide) ?_
  refine lv_iadd hx hb dX12_begins_25 ?_
  refine jtopr (y := 2) (by decide) ?_
  refine jput (ty := .int) hx hb hts inlX12 tyX12 tyX12_ok nmX12 hown hK hP hJ hA hS (jc_55 cI cL ad σ1 τ) rfl (k := 55) (by decide) (Nat.le_of_ble_eq_true rfl) (jp_55_55 cI cL ad σ1 τ 2) (hts _ kw_49_7) (fun _ h9 => h9) rfl (by decide +kernel) rfl rfl dX12_begins_26 (fun σ3 H locs eσ3 hP hS => ?_)
  have m4 : σ3 55 55 = 2 := (jsp eσ3)
  have m5 : σ3 85 1 = 11 := ((congrFun (jnp 85 eσ3 (by decide)) 1).trans (jsp eσ1))
  exact hret σ3 τ _ _ _ _ ⟨rfl, (fun i hi => ((jnp i eσ3 (imp_345 i hi)).trans (jnp i eσ1 (imp_346 i hi)))), (fun i hi => ((jkp i eσ3 (imp_164 i hi)).trans (congrFun (jnp 55 eσ1 (by decide)) i))), (fun i hi => ((congrFun (jnp 85 eσ3 (by decide)) i).trans (jkp i eσ1 (imp_42 i hi)))), m4, m5, trivial⟩ hP hS dX12_begins_29
set_option maxHeartbeats 4000000 in
set_option maxRecDepth 100000 in
theorem c_X12_givesAs_2_0_1 (l : Launch) (D : va_G) (cI cL : ClassId) (ad zz : Nat → Nat) (hJ : jD ad) (σ : Nat → Nat → Int32) (τ : Nat → Nat → Int64) (a2 : Int32) (A2 : Int) (t2 : a2.toInt = A2) (h55_55 : σ 55 55 = 1) (hp0 : (σ 55 56).toInt = 2) : jM l yX12_givesAs cX12_givesAs 4 (some .int) ({ frames := 1, cells := 0, slots := 0, locals := 21 }) D cI cL ad zz [.ref (ad 55), .int 0, .int a2] σ τ (fun r σ' τ' => τ = τ' ∧ (∀ i : Nat, (i < 55 ∨ 55 < i) ∧ (i < 85 ∨ 85 < i) → σ' i = σ i) ∧ (∀ k : Nat, (k < 55 ∨ 55 < k) → σ' 55 k = σ 55 k) ∧ (∀ k : Nat, (k < 1 ∨ 1 < k) → σ' 85 k = σ 85 k) ∧ (σ' 55 55 = 2) ∧ (σ' 85 1 = 11) ∧ ((r = (a2 ^^^ (σ 55 57)) ∧ True))) := by
  refine jM.of hJ (by decide +kernel) (nt := .int) rfl (Nat.le_of_ble_eq_true rfl) ?_
  intro p e s m args below meth c Q ls hC hret hl hP
  obtain ⟨hx, hb, hr, hml, hown, hts, hK, -, hlocks, hZ⟩ := hC
  have hown : s.vm.findClass RX12 = some m.cls := hown
  have hS : va_S (jA ad) s.heap s.heap [] := va_S.rf
  have hA : ∀ q, jA ad q → jA ad q := fun _ h => h
  have hl : lv_has ls 4 [(0, .ref (ad 55)), (1, .int 0), (2, .int a2)] := hl
  have g2 := jrg t2
  refine lv_iload_n hx hb dX12_givesAs_0 rfl (lv_at hl 1 rfl) ?_
  refine lv_iconst (v := 5) hx hb dX12_givesAs_1 (by decide) ?_
  refine lv_icmp_ne (tgt := 30) hx hb dX12_givesAs_2 (by decide) (fun _ => ?_) (fun c => absurd c (by decide))
  refine lv_iload_n hx hb dX12_givesAs_30 rfl (lv_at hl 1 rfl) ?_
  refine lv_iconst (v := 2) hx hb dX12_givesAs_31 (by decide) ?_
  refine lv_icmp_eq (tgt := 40) hx hb dX12_givesAs_32 (by decide) (fun c => absurd c (by decide)) (fun _ => ?_)
  refine lv_iload_n hx hb dX12_givesAs_35 rfl (lv_at hl 1 rfl) ?_
  refine lv_iconst (v := 3) hx hb dX12_givesAs_36 (by decide) ?_
  refine lv_icmp_ne (tgt := 55) hx hb dX12_givesAs_37 (by decide) (fun _ => ?_) (fun c => absurd c (by decide))
  refine lv_aload_n hx hb dX12_givesAs_55 rfl (lv_at hl 0 rfl) ?_
  refine lv_bipush (v := 11) hx hb dX12_givesAs_56 (by decide) ?_
  refine jcallVv (As := [.int 11]) (rest := []) ⟨hx, hb, hml, hown, hts⟩ hK hP hA hS hZ (c_X12_begins_11_1 l D cI cL ad zz hJ σ τ h55_55) cw_RX12_379 (jc_55 cI cL ad σ τ) rfl ⟨Nat.le_of_ble_eq_true rfl, Nat.le_of_ble_eq_true rfl⟩ rfl rfl rfl hl.1 rfl (Nat.le_of_ble_eq_true rfl) dX12_givesAs_58 ⟨Nat.zero_le _, Nat.zero_le _⟩ (fun σ1 τ1 H locs h1 hP hS => ?_)
  obtain ⟨rfl, f3, f4, f5, m6, m7, h1⟩ := h1
  refine lv_iload_n hx hb dX12_givesAs_61 rfl (lv_at hl 2 rfl) ?_
  refine lv_aload_n hx hb dX12_givesAs_62 rfl (lv_at hl 0 rfl) ?_
  refine va_get (D := D) hx hb hts inlX12 hown hK hP 55 (jc_55 cI cL ad σ1 τ) rfl 57 (by decide) (hts _ kw_49_9) (fun _ h9 => h9) rfl dX12_givesAs_63 ?_
  have m8 : σ1 55 57 = (σ 55 57) := (f4 57 (by decide))
  refine jtopr m8 ?_
  refine lv_ixor hx hb dX12_givesAs_66 ?_
  refine lv_topi (fun x9 ex9 => ?_)
  have gx9 := jrg (rfl : x9.toInt = x9.toInt)
  exact hret x9 σ1 τ _ _ _ _ rfl ⟨rfl, (fun i hi => (f3 i hi)), (fun i hi => (f4 i hi)), (fun i hi => (f5 i hi)), m6, m7, ⟨(by rw [ex9]), trivial⟩⟩ hP hS dX12_givesAs_67
set_option maxHeartbeats 4000000 in
set_option maxRecDepth 100000 in
theorem c_X12_givesAs_2_2_0 (l : Launch) (D : va_G) (cI cL : ClassId) (ad zz : Nat → Nat) (hJ : jD ad) (σ : Nat → Nat → Int32) (τ : Nat → Nat → Int64) (a2 : Int32) (A2 : Int) (t2 : a2.toInt = A2) (h55_55 : σ 55 55 = 0) (hp0 : (σ 55 56).toInt = 2) : jM l yX12_givesAs cX12_givesAs 4 (some .int) ({ frames := 2, cells := 0, slots := 0, locals := 44 }) D cI cL ad zz [.ref (ad 55), .int 2, .int a2] σ τ (fun r σ' τ' => τ = τ' ∧ (∀ i : Nat, (i < 55 ∨ 55 < i) ∧ (i < 85 ∨ 85 < i) → σ' i = σ i) ∧ (∀ k : Nat, (k < 55 ∨ 55 < k) → σ' 55 k = σ 55 k) ∧ (∀ k : Nat, (k < 0 ∨ 0 < k) ∧ (k < 1 ∨ 1 < k) → σ' 85 k = σ 85 k) ∧ (σ' 55 55 = 2) ∧ (σ' 85 0 = 30) ∧ (σ' 85 1 = 11) ∧ ((r = ((a2 ^^^ (σ 55 57)) * 3) ∧ True))) := by
  refine jM.of hJ (by decide +kernel) (nt := .int) rfl (Nat.le_of_ble_eq_true rfl) ?_
  intro p e s m args below meth c Q ls hC hret hl hP
  obtain ⟨hx, hb, hr, hml, hown, hts, hK, -, hlocks, hZ⟩ := hC
  have hown : s.vm.findClass RX12 = some m.cls := hown
  have hS : va_S (jA ad) s.heap s.heap [] := va_S.rf
  have hA : ∀ q, jA ad q → jA ad q := fun _ h => h
  have hl : lv_has ls 4 [(0, .ref (ad 55)), (1, .int 2), (2, .int a2)] := hl
  have g2 := jrg t2
  refine lv_iload_n hx hb dX12_givesAs_0 rfl (lv_at hl 1 rfl) ?_
  refine lv_iconst (v := 5) hx hb dX12_givesAs_1 (by decide) ?_
  refine lv_icmp_ne (tgt := 30) hx hb dX12_givesAs_2 (by decide) (fun _ => ?_) (fun c => absurd c (by decide))
  refine lv_iload_n hx hb dX12_givesAs_30 rfl (lv_at hl 1 rfl) ?_
  refine lv_iconst (v := 2) hx hb dX12_givesAs_31 (by decide) ?_
  refine lv_icmp_eq (tgt := 40) hx hb dX12_givesAs_32 (by decide) (fun _ => ?_) (fun c => absurd (by decide) c)
  refine lv_aload_n hx hb dX12_givesAs_40 rfl (lv_at hl 0 rfl) ?_
  refine lv_bipush (v := 30) hx hb dX12_givesAs_41 (by decide) ?_
  refine jcallVv (As := [.int 30]) (rest := []) ⟨hx, hb, hml, hown, hts⟩ hK hP hA hS hZ (c_X12_begins_30_0 l D cI cL ad zz hJ σ τ h55_55) cw_RX12_379 (jc_55 cI cL ad σ τ) rfl ⟨Nat.le_of_ble_eq_true rfl, Nat.le_of_ble_eq_true rfl⟩ rfl rfl rfl hl.1 rfl (Nat.le_of_ble_eq_true rfl) dX12_givesAs_43 ⟨Nat.zero_le _, Nat.zero_le _⟩ (fun σ1 τ1 H locs h1 hP hS => ?_)
  obtain ⟨rfl, f3, f4, f5, m6, m7, h1⟩ := h1
  refine lv_aload_n hx hb dX12_givesAs_46 rfl (lv_at hl 0 rfl) ?_
  refine lv_iconst (v := 0) hx hb dX12_givesAs_47 (by decide) ?_
  refine lv_iload_n hx hb dX12_givesAs_48 rfl (lv_at hl 2 rfl) ?_
  have z8 : (σ1 55 56).toInt = (σ 55 56).toInt := (congrArg Int32.toInt (show σ1 55 56 = (σ 55 56) from (f4 56 (by decide))))
  refine jcallV (As := [.int 0, .int a2]) (rest := []) ⟨hx, hb, hml, hown, hts⟩ hK hP hA hS hZ (c_X12_givesAs_2_0_1 l D cI cL ad zz hJ σ1 τ a2 (A2) t2 m6 (by omega)) cw_RX12_394 (jc_55 cI cL ad σ1 τ) rfl ⟨Nat.le_of_ble_eq_true rfl, Nat.le_of_ble_eq_true rfl⟩ rfl rfl rfl hl.1 rfl (Nat.le_of_ble_eq_true rfl) dX12_givesAs_49 ⟨Nat.zero_le _, Nat.zero_le _⟩ (fun r10 σ9 τ9 H locs h9 hP hS => ?_)
  obtain ⟨rfl, f11, f12, f13, m14, m15, h9⟩ := h9
  have h16 := h9
  obtain ⟨q18, k17⟩ := h16
  have q18 := q18.symm
  subst q18
  refine lv_iconst (v := 3) hx hb dX12_givesAs_52 (by decide) ?_
  have g19 := jrg (rfl : (a2 ^^^ (σ1 55 57)).toInt = (a2 ^^^ (σ1 55 57)).toInt)
  refine lv_imul hx hb dX12_givesAs_53 ?_
  refine lv_topi (fun x20 ex20 => ?_)
  have gx20 := jrg (rfl : x20.toInt = x20.toInt)
  have m21 : σ9 85 0 = 30 := ((f13 0 (by decide)).trans m7)
  exact hret x20 σ9 τ _ _ _ _ rfl ⟨rfl, (fun i hi => ((f11 i hi).trans (f3 i hi))), (fun i hi => ((f12 i hi).trans (f4 i hi))), (fun i hi => ((f13 i (imp_302 i hi)).trans (f5 i (imp_347 i hi)))), m14, m21, m15, ⟨(by rw [ex20, (show σ1 55 57 = σ 55 57 from (f4 57 (by decide)))]), trivial⟩⟩ hP hS dX12_givesAs_54
set_option maxHeartbeats 4000000 in
set_option maxRecDepth 100000 in
theorem c_X12_putsAs_2_2_2 (l : Launch) (D : va_G) (cI cL : ClassId) (ad zz : Nat → Nat) (hJ : jD ad) (σ : Nat → Nat → Int32) (τ : Nat → Nat → Int64) (a2 : Int32) (A2 : Int) (t2 : a2.toInt = A2) (h55_55 : σ 55 55 = 2) (hp0 : (σ 55 56).toInt = 2) : jM l yX12_putsAs cX12_putsAs 3 (some .int) ({ frames := 1, cells := 0, slots := 0, locals := 21 }) D cI cL ad zz [.ref (ad 55), .int 2, .int a2] σ τ (fun r σ' τ' => τ = τ' ∧ (∀ i : Nat, (i < 55 ∨ 55 < i) ∧ (i < 85 ∨ 85 < i) → σ' i = σ i) ∧ (∀ k : Nat, (k < 55 ∨ 55 < k) → σ' 55 k = σ 55 k) ∧ (∀ k : Nat, (k < 2 ∨ 2 < k) → σ' 85 k = σ 85 k) ∧ (σ' 55 55 = 3) ∧ (σ' 85 2 = 1) ∧ ((r = (a2 + (σ 55 57)) ∧ True))) := by
  refine jM.of hJ (by decide +kernel) (nt := .int) rfl (Nat.le_of_ble_eq_true rfl) ?_
  intro p e s m args below meth c Q ls hC hret hl hP
  obtain ⟨hx, hb, hr, hml, hown, hts, hK, -, hlocks, hZ⟩ := hC
  have hown : s.vm.findClass RX12 = some m.cls := hown
  have hS : va_S (jA ad) s.heap s.heap [] := va_S.rf
  have hA : ∀ q, jA ad q → jA ad q := fun _ h => h
  have hl : lv_has ls 3 [(0, .ref (ad 55)), (1, .int 2), (2, .int a2)] := hl
  have g2 := jrg t2
  refine lv_iload_n hx hb dX12_putsAs_0 rfl (lv_at hl 1 rfl) ?_
  refine lv_iconst (v := 4) hx hb dX12_putsAs_1 (by decide) ?_
  refine lv_icmp_ne (tgt := 20) hx hb dX12_putsAs_2 (by decide) (fun _ => ?_) (fun c => absurd c (by decide))
  refine lv_iload_n hx hb dX12_putsAs_20 rfl (lv_at hl 1 rfl) ?_
  refine lv_iconst (v := 1) hx hb dX12_putsAs_21 (by decide) ?_
  refine lv_icmp_ne (tgt := 40) hx hb dX12_putsAs_22 (by decide) (fun _ => ?_) (fun c => absurd c (by decide))
  refine lv_aload_n hx hb dX12_putsAs_40 rfl (lv_at hl 0 rfl) ?_
  refine lv_iconst (v := 1) hx hb dX12_putsAs_41 (by decide) ?_
  refine jcallVv (As := [.int 1]) (rest := []) ⟨hx, hb, hml, hown, hts⟩ hK hP hA hS hZ (c_X12_begins_1_2 l D cI cL ad zz hJ σ τ h55_55) cw_RX12_379 (jc_55 cI cL ad σ τ) rfl ⟨Nat.le_of_ble_eq_true rfl, Nat.le_of_ble_eq_true rfl⟩ rfl rfl rfl hl.1 rfl (Nat.le_of_ble_eq_true rfl) dX12_putsAs_42 ⟨Nat.zero_le _, Nat.zero_le _⟩ (fun σ1 τ1 H locs h1 hP hS => ?_)
  obtain ⟨rfl, f3, f4, f5, m6, m7, h1⟩ := h1
  refine lv_iload_n hx hb dX12_putsAs_45 rfl (lv_at hl 2 rfl) ?_
  refine lv_aload_n hx hb dX12_putsAs_46 rfl (lv_at hl 0 rfl) ?_
  refine va_get (D := D) hx hb hts inlX12 hown hK hP 55 (jc_55 cI cL ad σ1 τ) rfl 57 (by decide) (hts _ kw_49_9) (fun _ h9 => h9) rfl dX12_putsAs_47 ?_
  have m8 : σ1 55 57 = (σ 55 57) := (f4 57 (by decide))
  refine jtopr m8 ?_
  have g9 := jrg (rfl : (σ 55 57).toInt = (σ 55 57).toInt)
  refine lv_iadd hx hb dX12_putsAs_50 ?_
  refine lv_topi (fun x10 ex10 => ?_)
  have gx10 := jrg (rfl : x10.toInt = x10.toInt)
  exact hret x10 σ1 τ _ _ _ _ rfl ⟨rfl, (fun i hi => (f3 i hi)), (fun i hi => (f4 i hi)), (fun i hi => (f5 i hi)), m6, m7, ⟨(by rw [ex10]), trivial⟩⟩ hP hS dX12_putsAs_51
set_option maxHeartbeats 4000000 in
set_option maxRecDepth 100000 in
theorem c_X12_holdsAs_2_2_1 (l : Launch) (D : va_G) (cI cL : ClassId) (ad zz : Nat → Nat) (hJ : jD ad) (σ : Nat → Nat → Int32) (τ : Nat → Nat → Int64) (a2 : Int32) (A2 : Int) (t2 : a2.toInt = A2) (h55_55 : σ 55 55 = 1) (hp0 : (σ 55 56).toInt = 2) : jM l yX12_holdsAs cX12_holdsAs 4 (some .int) ({ frames := 2, cells := 0, slots := 0, locals := 43 }) D cI cL ad zz [.ref (ad 55), .int 2, .int a2] σ τ (fun r σ' τ' => τ = τ' ∧ (∀ i : Nat, (i < 55 ∨ 55 < i) ∧ (i < 85 ∨ 85 < i) → σ' i = σ i) ∧ (∀ k : Nat, (k < 55 ∨ 55 < k) → σ' 55 k = σ 55 k) ∧ (∀ k : Nat, (k < 1 ∨ 1 < k) ∧ (k < 2 ∨ 2 < k) → σ' 85 k = σ 85 k) ∧ (σ' 55 55 = 3) ∧ (σ' 85 1 = 10) ∧ (σ' 85 2 = 1) ∧ ((r = ((a2 + (σ 55 57)) * 2) ∧ True))) := by
  refine jM.of hJ (by decide +kernel) (nt := .int) rfl (Nat.le_of_ble_eq_true rfl) ?_
  intro p e s m args below meth c Q ls hC hret hl hP
  obtain ⟨hx, hb, hr, hml, hown, hts, hK, -, hlocks, hZ⟩ := hC
  have hown : s.vm.findClass RX12 = some m.cls := hown
  have hS : va_S (jA ad) s.heap s.heap [] := va_S.rf
  have hA : ∀ q, jA ad q → jA ad q := fun _ h => h
  have hl : lv_has ls 4 [(0, .ref (ad 55)), (1, .int 2), (2, .int a2)] := hl
  have g2 := jrg t2
  refine lv_iload_n hx hb dX12_holdsAs_0 rfl (lv_at hl 1 rfl) ?_
  refine lv_iconst (v := 3) hx hb dX12_holdsAs_1 (by decide) ?_
  refine lv_icmp_eq (tgt := 10) hx hb dX12_holdsAs_2 (by decide) (fun c => absurd c (by decide)) (fun _ => ?_)
  refine lv_iload_n hx hb dX12_holdsAs_5 rfl (lv_at hl 1 rfl) ?_
  refine lv_iconst (v := 5) hx hb dX12_holdsAs_6 (by decide) ?_
  refine lv_icmp_ne (tgt := 24) hx hb dX12_holdsAs_7 (by decide) (fun _ => ?_) (fun c => absurd c (by decide))
  refine lv_iload_n hx hb dX12_holdsAs_24 rfl (lv_at hl 1 rfl) ?_
  refine lv_bipush (v := 6) hx hb dX12_holdsAs_25 (by decide) ?_
  refine lv_icmp_ne (tgt := 55) hx hb dX12_holdsAs_27 (by decide) (fun _ => ?_) (fun c => absurd c (by decide))
  refine lv_aload_n hx hb dX12_holdsAs_55 rfl (lv_at hl 0 rfl) ?_
  refine lv_bipush (v := 10) hx hb dX12_holdsAs_56 (by decide) ?_
  refine jcallVv (As := [.int 10]) (rest := []) ⟨hx, hb, hml, hown, hts⟩ hK hP hA hS hZ (c_X12_begins_10_1 l D cI cL ad zz hJ σ τ h55_55) cw_RX12_379 (jc_55 cI cL ad σ τ) rfl ⟨Nat.le_of_ble_eq_true rfl, Nat.le_of_ble_eq_true rfl⟩ rfl rfl rfl hl.1 rfl (Nat.le_of_ble_eq_true rfl) dX12_holdsAs_58 ⟨Nat.zero_le _, Nat.zero_le _⟩ (fun σ1 τ1 H locs h1 hP hS => ?_)
  obtain ⟨rfl, f3, f4, f5, m6, m7, h1⟩ := h1
  refine lv_aload_n hx hb dX12_holdsAs_61 rfl (lv_at hl 0 rfl) ?_
  refine lv_aload_n hx hb dX12_holdsAs_62 rfl (lv_at hl 0 rfl) ?_
  refine va_get (D := D) hx hb hts inlX12 hown hK hP 55 (jc_55 cI cL ad σ1 τ) rfl 56 (by decide) (hts _ kw_49_8) (fun _ h9 => h9) rfl dX12_holdsAs_63 ?_
  have m8 : σ1 55 56 = (σ 55 56) := (f4 56 (by decide))
  refine jtopr m8 ?_
  refine jtopr (jsame (rfl : (σ 55 56).toInt = (σ 55 56).toInt) jz_2 (by omega)) ?_
  refine lv_iload_n hx hb dX12_holdsAs_66 rfl (lv_at hl 2 rfl) ?_
  have z9 : (σ1 55 56).toInt = (σ 55 56).toInt := (congrArg Int32.toInt (show σ1 55 56 = (σ 55 56) from m8))
  refine jcallV (As := [.int 2, .int a2]) (rest := []) ⟨hx, hb, hml, hown, hts⟩ hK hP hA hS hZ (c_X12_putsAs_2_2_2 l D cI cL ad zz hJ σ1 τ a2 (A2) t2 m6 (by omega)) cw_RX12_382 (jc_55 cI cL ad σ1 τ) rfl ⟨Nat.le_of_ble_eq_true rfl, Nat.le_of_ble_eq_true rfl⟩ rfl rfl rfl hl.1 rfl (Nat.le_of_ble_eq_true rfl) dX12_holdsAs_67 ⟨Nat.zero_le _, Nat.zero_le _⟩ (fun r11 σ10 τ10 H locs h10 hP hS => ?_)
  obtain ⟨rfl, f12, f13, f14, m15, m16, h10⟩ := h10
  have h17 := h10
  obtain ⟨q19, k18⟩ := h17
  have q19 := q19.symm
  subst q19
  refine lv_iconst (v := 2) hx hb dX12_holdsAs_70 (by decide) ?_
  have g20 := jrg (rfl : (a2 + (σ1 55 57)).toInt = (a2 + (σ1 55 57)).toInt)
  refine lv_imul hx hb dX12_holdsAs_71 ?_
  refine lv_topi (fun x21 ex21 => ?_)
  have gx21 := jrg (rfl : x21.toInt = x21.toInt)
  have m22 : σ10 85 1 = 10 := ((f14 1 (by decide)).trans m7)
  exact hret x21 σ10 τ _ _ _ _ rfl ⟨rfl, (fun i hi => ((f12 i hi).trans (f3 i hi))), (fun i hi => ((f13 i hi).trans (f4 i hi))), (fun i hi => ((f14 i (imp_43 i hi)).trans (f5 i (imp_60 i hi)))), m15, m22, m16, ⟨(by rw [ex21, (show σ1 55 57 = σ 55 57 from (f4 57 (by decide)))]), trivial⟩⟩ hP hS dX12_holdsAs_72
set_option maxHeartbeats 4000000 in
set_option maxRecDepth 100000 in
theorem c_X12_begins_30_3 (l : Launch) (D : va_G) (cI cL : ClassId) (ad zz : Nat → Nat) (hJ : jD ad) (σ : Nat → Nat → Int32) (τ : Nat → Nat → Int64) (h55_55 : σ 55 55 = 3) : jMv l yX12_begins cX12_begins 2 none ({ frames := 0, cells := 0, slots := 0, locals := 0 }) D cI cL ad zz [.ref (ad 55), .int 30] σ τ (fun σ' τ' => τ = τ' ∧ (∀ i : Nat, (i < 55 ∨ 55 < i) ∧ (i < 85 ∨ 85 < i) → σ' i = σ i) ∧ (∀ k : Nat, (k < 55 ∨ 55 < k) → σ' 55 k = σ 55 k) ∧ (∀ k : Nat, (k < 3 ∨ 3 < k) → σ' 85 k = σ 85 k) ∧ (σ' 55 55 = 4) ∧ (σ' 85 3 = 30) ∧ True) := by
  refine jMv.of hJ (by decide +kernel) rfl (Nat.le_of_ble_eq_true rfl) ?_
  intro p e s m args below meth c Q ls hC hret hl hP
  obtain ⟨hx, hb, hr, hml, hown, hts, hK, -, hlocks, hZ⟩ := hC
  have hown : s.vm.findClass RX12 = some m.cls := hown
  have hS : va_S (jA ad) s.heap s.heap [] := va_S.rf
  have hA : ∀ q, jA ad q → jA ad q := fun _ h => h
  have hl : lv_has ls 2 [(0, .ref (ad 55)), (1, .int 30)] := hl
  refine lv_aload_n hx hb dX12_begins_0 rfl (lv_at hl 0 rfl) ?_
  refine va_get (D := D) hx hb hts inlX12 hown hK hP 55 (jc_55 cI cL ad σ τ) rfl 55 (by decide) (hts _ kw_49_7) (fun _ h9 => h9) rfl dX12_begins_1 ?_
  refine jtopr h55_55 ?_
  refine lv_bipush (v := 24) hx hb dX12_begins_4 (by decide) ?_
  refine lv_icmp_ge (tgt := 19) hx hb dX12_begins_6 (by decide) (fun c => absurd c (by decide)) (fun _ => ?_)
  refine lv_aload_n hx hb dX12_begins_9 rfl (lv_at hl 0 rfl) ?_
  refine va_get (D := D) hx hb hts inlX12 hown hK hP 55 (jc_55 cI cL ad σ τ) rfl 54 (by decide) (hts _ kw_8_10) (fun _ h9 => h9) rfl dX12_begins_10 ?_
  refine lv_aload_n hx hb dX12_begins_13 rfl (lv_at hl 0 rfl) ?_
  refine va_get (D := D) hx hb hts inlX12 hown hK hP 55 (jc_55 cI cL ad σ τ) rfl 55 (by decide) (hts _ kw_49_7) (fun _ h9 => h9) rfl dX12_begins_14 ?_
  refine jtopr h55_55 ?_
  refine lv_iload_n hx hb dX12_begins_17 rfl (lv_at hl 1 rfl) ?_
  refine jast hx hb hK hP hJ hA hS (jc_85 cI cL ad σ τ) (ja_85 cI cL ad σ τ _ _) (jin jz_3 (by omega) (by omega)) dX12_begins_18 (fun σ1 H locs eσ1 hP hS => ?_)
  have eσ1 : σ1 = jup σ 85 3 30 := eσ1
  refine lv_aload_n hx hb dX12_begins_19 rfl (lv_at hl 0 rfl) ?_
  refine lv_dup hx hb dX12_begins_20 rfl ?_
  refine va_get (D := D) hx hb hts inlX12 hown hK hP 55 (jc_55 cI cL ad σ1 τ) rfl 55 (by decide) (hts _ kw_49_7) (fun _ h9 => h9) rfl dX12_begins_21 ?_
  have m2 : σ1 55 55 = 3 := ((congrFun (jnp 55 eσ1 (by decide)) 55).trans h55_55)
  refine jtopr m2 ?_
  refine lv_iconst (v := 1) hx hb dX12_begins_24 (by decide) ?_
  refine lv_iadd hx hb dX12_begins_25 ?_
  refine jtopr (y := 4) (by decide) ?_
  refine jput (ty := .int) hx hb hts inlX12 tyX12 tyX12_ok nmX12 hown hK hP hJ hA hS (jc_55 cI cL ad σ1 τ) rfl (k := 55) (by decide) (Nat.le_of_ble_eq_true rfl) (jp_55_55 cI cL ad σ1 τ 4) (hts _ kw_49_7) (fun _ h9 => h9) rfl (by decide +kernel) rfl rfl dX12_begins_26 (fun σ3 H locs eσ3 hP hS => ?_)
  have m4 : σ3 55 55 = 4 := (jsp eσ3)
  have m5 : σ3 85 3 = 30 := ((congrFun (jnp 85 eσ3 (by decide)) 3).trans (jsp eσ1))
  exact hret σ3 τ _ _ _ _ ⟨rfl, (fun i hi => ((jnp i eσ3 (imp_345 i hi)).trans (jnp i eσ1 (imp_346 i hi)))), (fun i hi => ((jkp i eσ3 (imp_164 i hi)).trans (congrFun (jnp 55 eσ1 (by decide)) i))), (fun i hi => ((congrFun (jnp 85 eσ3 (by decide)) i).trans (jkp i eσ1 (imp_303 i hi)))), m4, m5, trivial⟩ hP hS dX12_begins_29
set_option maxHeartbeats 4000000 in
set_option maxRecDepth 100000 in
theorem c_X12_givesAs_2_0_4_x1 (l : Launch) (D : va_G) (cI cL : ClassId) (ad zz : Nat → Nat) (hJ : jD ad) (σ : Nat → Nat → Int32) (τ : Nat → Nat → Int64) (h55_55 : σ 55 55 = 4) (hp0 : (σ 55 56).toInt = 2) : jM l yX12_givesAs cX12_givesAs 4 (some .int) ({ frames := 1, cells := 0, slots := 0, locals := 21 }) D cI cL ad zz [.ref (ad 55), .int 0, .int 1] σ τ (fun r σ' τ' => τ = τ' ∧ (∀ i : Nat, (i < 55 ∨ 55 < i) ∧ (i < 85 ∨ 85 < i) → σ' i = σ i) ∧ (∀ k : Nat, (k < 55 ∨ 55 < k) → σ' 55 k = σ 55 k) ∧ (∀ k : Nat, (k < 4 ∨ 4 < k) → σ' 85 k = σ 85 k) ∧ (σ' 55 55 = 5) ∧ (σ' 85 4 = 11) ∧ ((r = (1 ^^^ (σ 55 57)) ∧ True))) := by
  refine jM.of hJ (by decide +kernel) (nt := .int) rfl (Nat.le_of_ble_eq_true rfl) ?_
  intro p e s m args below meth c Q ls hC hret hl hP
  obtain ⟨hx, hb, hr, hml, hown, hts, hK, -, hlocks, hZ⟩ := hC
  have hown : s.vm.findClass RX12 = some m.cls := hown
  have hS : va_S (jA ad) s.heap s.heap [] := va_S.rf
  have hA : ∀ q, jA ad q → jA ad q := fun _ h => h
  have hl : lv_has ls 4 [(0, .ref (ad 55)), (1, .int 0), (2, .int 1)] := hl
  refine lv_iload_n hx hb dX12_givesAs_0 rfl (lv_at hl 1 rfl) ?_
  refine lv_iconst (v := 5) hx hb dX12_givesAs_1 (by decide) ?_
  refine lv_icmp_ne (tgt := 30) hx hb dX12_givesAs_2 (by decide) (fun _ => ?_) (fun c => absurd c (by decide))
  refine lv_iload_n hx hb dX12_givesAs_30 rfl (lv_at hl 1 rfl) ?_
  refine lv_iconst (v := 2) hx hb dX12_givesAs_31 (by decide) ?_
  refine lv_icmp_eq (tgt := 40) hx hb dX12_givesAs_32 (by decide) (fun c => absurd c (by decide)) (fun _ => ?_)
  refine lv_iload_n hx hb dX12_givesAs_35 rfl (lv_at hl 1 rfl) ?_
  refine lv_iconst (v := 3) hx hb dX12_givesAs_36 (by decide) ?_
  refine lv_icmp_ne (tgt := 55) hx hb dX12_givesAs_37 (by decide) (fun _ => ?_) (fun c => absurd c (by decide))
  refine lv_aload_n hx hb dX12_givesAs_55 rfl (lv_at hl 0 rfl) ?_
  refine lv_bipush (v := 11) hx hb dX12_givesAs_56 (by decide) ?_
  refine jcallVv (As := [.int 11]) (rest := []) ⟨hx, hb, hml, hown, hts⟩ hK hP hA hS hZ (c_X12_begins_11_4 l D cI cL ad zz hJ σ τ h55_55) cw_RX12_379 (jc_55 cI cL ad σ τ) rfl ⟨Nat.le_of_ble_eq_true rfl, Nat.le_of_ble_eq_true rfl⟩ rfl rfl rfl hl.1 rfl (Nat.le_of_ble_eq_true rfl) dX12_givesAs_58 ⟨Nat.zero_le _, Nat.zero_le _⟩ (fun σ1 τ1 H locs h1 hP hS => ?_)
  obtain ⟨rfl, f3, f4, f5, m6, m7, h1⟩ := h1
  refine lv_iload_n hx hb dX12_givesAs_61 rfl (lv_at hl 2 rfl) ?_
  refine lv_aload_n hx hb dX12_givesAs_62 rfl (lv_at hl 0 rfl) ?_
  refine va_get (D := D) hx hb hts inlX12 hown hK hP 55 (jc_55 cI cL ad σ1 τ) rfl 57 (by decide) (hts _ kw_49_9) (fun _ h9 => h9) rfl dX12_givesAs_63 ?_
  have m8 : σ1 55 57 = (σ 55 57) := (f4 57 (by decide))
  refine jtopr m8 ?_
  refine lv_ixor hx hb dX12_givesAs_66 ?_
  refine lv_topi (fun x9 ex9 => ?_)
  have gx9 := jrg (rfl : x9.toInt = x9.toInt)
  exact hret x9 σ1 τ _ _ _ _ rfl ⟨rfl, (fun i hi => (f3 i hi)), (fun i hi => (f4 i hi)), (fun i hi => (f5 i hi)), m6, m7, ⟨(by rw [ex9]), trivial⟩⟩ hP hS dX12_givesAs_67
set_option maxHeartbeats 4000000 in
set_option maxRecDepth 100000 in
theorem c_X12_givesAs_2_2_3_x1 (l : Launch) (D : va_G) (cI cL : ClassId) (ad zz : Nat → Nat) (hJ : jD ad) (σ : Nat → Nat → Int32) (τ : Nat → Nat → Int64) (h55_55 : σ 55 55 = 3) (hp0 : (σ 55 56).toInt = 2) : jM l yX12_givesAs cX12_givesAs 4 (some .int) ({ frames := 2, cells := 0, slots := 0, locals := 44 }) D cI cL ad zz [.ref (ad 55), .int 2, .int 1] σ τ (fun r σ' τ' => τ = τ' ∧ (∀ i : Nat, (i < 55 ∨ 55 < i) ∧ (i < 85 ∨ 85 < i) → σ' i = σ i) ∧ (∀ k : Nat, (k < 55 ∨ 55 < k) → σ' 55 k = σ 55 k) ∧ (∀ k : Nat, (k < 3 ∨ 3 < k) ∧ (k < 4 ∨ 4 < k) → σ' 85 k = σ 85 k) ∧ (σ' 55 55 = 5) ∧ (σ' 85 3 = 30) ∧ (σ' 85 4 = 11) ∧ ((r = ((1 ^^^ (σ 55 57)) * 3) ∧ True))) := by
  refine jM.of hJ (by decide +kernel) (nt := .int) rfl (Nat.le_of_ble_eq_true rfl) ?_
  intro p e s m args below meth c Q ls hC hret hl hP
  obtain ⟨hx, hb, hr, hml, hown, hts, hK, -, hlocks, hZ⟩ := hC
  have hown : s.vm.findClass RX12 = some m.cls := hown
  have hS : va_S (jA ad) s.heap s.heap [] := va_S.rf
  have hA : ∀ q, jA ad q → jA ad q := fun _ h => h
  have hl : lv_has ls 4 [(0, .ref (ad 55)), (1, .int 2), (2, .int 1)] := hl
  refine lv_iload_n hx hb dX12_givesAs_0 rfl (lv_at hl 1 rfl) ?_
  refine lv_iconst (v := 5) hx hb dX12_givesAs_1 (by decide) ?_
  refine lv_icmp_ne (tgt := 30) hx hb dX12_givesAs_2 (by decide) (fun _ => ?_) (fun c => absurd c (by decide))
  refine lv_iload_n hx hb dX12_givesAs_30 rfl (lv_at hl 1 rfl) ?_
  refine lv_iconst (v := 2) hx hb dX12_givesAs_31 (by decide) ?_
  refine lv_icmp_eq (tgt := 40) hx hb dX12_givesAs_32 (by decide) (fun _ => ?_) (fun c => absurd (by decide) c)
  refine lv_aload_n hx hb dX12_givesAs_40 rfl (lv_at hl 0 rfl) ?_
  refine lv_bipush (v := 30) hx hb dX12_givesAs_41 (by decide) ?_
  refine jcallVv (As := [.int 30]) (rest := []) ⟨hx, hb, hml, hown, hts⟩ hK hP hA hS hZ (c_X12_begins_30_3 l D cI cL ad zz hJ σ τ h55_55) cw_RX12_379 (jc_55 cI cL ad σ τ) rfl ⟨Nat.le_of_ble_eq_true rfl, Nat.le_of_ble_eq_true rfl⟩ rfl rfl rfl hl.1 rfl (Nat.le_of_ble_eq_true rfl) dX12_givesAs_43 ⟨Nat.zero_le _, Nat.zero_le _⟩ (fun σ1 τ1 H locs h1 hP hS => ?_)
  obtain ⟨rfl, f3, f4, f5, m6, m7, h1⟩ := h1
  refine lv_aload_n hx hb dX12_givesAs_46 rfl (lv_at hl 0 rfl) ?_
  refine lv_iconst (v := 0) hx hb dX12_givesAs_47 (by decide) ?_
  refine lv_iload_n hx hb dX12_givesAs_48 rfl (lv_at hl 2 rfl) ?_
  have z8 : (σ1 55 56).toInt = (σ 55 56).toInt := (congrArg Int32.toInt (show σ1 55 56 = (σ 55 56) from (f4 56 (by decide))))
  refine jcallV (As := [.int 0, .int 1]) (rest := []) ⟨hx, hb, hml, hown, hts⟩ hK hP hA hS hZ (c_X12_givesAs_2_0_4_x1 l D cI cL ad zz hJ σ1 τ m6 (by omega)) cw_RX12_394 (jc_55 cI cL ad σ1 τ) rfl ⟨Nat.le_of_ble_eq_true rfl, Nat.le_of_ble_eq_true rfl⟩ rfl rfl rfl hl.1 rfl (Nat.le_of_ble_eq_true rfl) dX12_givesAs_49 ⟨Nat.zero_le _, Nat.zero_le _⟩ (fun r10 σ9 τ9 H locs h9 hP hS => ?_)
  obtain ⟨rfl, f11, f12, f13, m14, m15, h9⟩ := h9
  have h16 := h9
  obtain ⟨q18, k17⟩ := h16
  have q18 := q18.symm
  subst q18
  refine lv_iconst (v := 3) hx hb dX12_givesAs_52 (by decide) ?_
  have g19 := jrg (rfl : (1 ^^^ (σ1 55 57)).toInt = (1 ^^^ (σ1 55 57)).toInt)
  refine lv_imul hx hb dX12_givesAs_53 ?_
  refine lv_topi (fun x20 ex20 => ?_)
  have gx20 := jrg (rfl : x20.toInt = x20.toInt)
  have m21 : σ9 85 3 = 30 := ((f13 3 (by decide)).trans m7)
  exact hret x20 σ9 τ _ _ _ _ rfl ⟨rfl, (fun i hi => ((f11 i hi).trans (f3 i hi))), (fun i hi => ((f12 i hi).trans (f4 i hi))), (fun i hi => ((f13 i (imp_314 i hi)).trans (f5 i (imp_352 i hi)))), m14, m21, m15, ⟨(by rw [ex20, (show σ1 55 57 = σ 55 57 from (f4 57 (by decide)))]), trivial⟩⟩ hP hS dX12_givesAs_54
set_option maxHeartbeats 4000000 in
set_option maxRecDepth 100000 in
theorem c_X12_tellsAs_2_2_0 (l : Launch) (D : va_G) (cI cL : ClassId) (ad zz : Nat → Nat) (hJ : jD ad) (σ : Nat → Nat → Int32) (τ : Nat → Nat → Int64) (a2 : Int32) (A2 : Int) (t2 : a2.toInt = A2) (h55_55 : σ 55 55 = 0) (hp0 : (σ 55 56).toInt = 2) : jM l yX12_tellsAs cX12_tellsAs 4 (some .int) ({ frames := 3, cells := 0, slots := 0, locals := 67 }) D cI cL ad zz [.ref (ad 55), .int 2, .int a2] σ τ (fun r σ' τ' => τ = τ' ∧ (∀ i : Nat, (i < 55 ∨ 55 < i) ∧ (i < 85 ∨ 85 < i) → σ' i = σ i) ∧ (∀ k : Nat, (k < 55 ∨ 55 < k) → σ' 55 k = σ 55 k) ∧ (∀ k : Nat, (k < 0 ∨ 0 < k) ∧ (k < 1 ∨ 1 < k) ∧ (k < 2 ∨ 2 < k) ∧ (k < 3 ∨ 3 < k) ∧ (k < 4 ∨ 4 < k) → σ' 85 k = σ 85 k) ∧ (σ' 55 55 = 5) ∧ (σ' 85 0 = 2) ∧ (σ' 85 1 = 10) ∧ (σ' 85 2 = 1) ∧ (σ' 85 3 = 30) ∧ (σ' 85 4 = 11) ∧ ((r = (((a2 + (σ 55 57)) * 2) - ((1 ^^^ (σ 55 57)) * 3)) ∧ True))) := by
  refine jM.of hJ (by decide +kernel) (nt := .int) rfl (Nat.le_of_ble_eq_true rfl) ?_
  intro p e s m args below meth c Q ls hC hret hl hP
  obtain ⟨hx, hb, hr, hml, hown, hts, hK, -, hlocks, hZ⟩ := hC
  have hown : s.vm.findClass RX12 = some m.cls := hown
  have hS : va_S (jA ad) s.heap s.heap [] := va_S.rf
  have hA : ∀ q, jA ad q → jA ad q := fun _ h => h
  have hl : lv_has ls 4 [(0, .ref (ad 55)), (1, .int 2), (2, .int a2)] := hl
  have g2 := jrg t2
  refine lv_iload_n hx hb dX12_tellsAs_0 rfl (lv_at hl 1 rfl) ?_
  refine lv_iconst (v := 4) hx hb dX12_tellsAs_1 (by decide) ?_
  refine lv_icmp_ne (tgt := 20) hx hb dX12_tellsAs_2 (by decide) (fun _ => ?_) (fun c => absurd c (by decide))
  refine lv_aload_n hx hb dX12_tellsAs_20 rfl (lv_at hl 0 rfl) ?_
  refine lv_iconst (v := 2) hx hb dX12_tellsAs_21 (by decide) ?_
  refine jcallVv (As := [.int 2]) (rest := []) ⟨hx, hb, hml, hown, hts⟩ hK hP hA hS hZ (c_X12_begins_2_0 l D cI cL ad zz hJ σ τ h55_55) cw_RX12_379 (jc_55 cI cL ad σ τ) rfl ⟨Nat.le_of_ble_eq_true rfl, Nat.le_of_ble_eq_true rfl⟩ rfl rfl rfl hl.1 rfl (Nat.le_of_ble_eq_true rfl) dX12_tellsAs_22 ⟨Nat.zero_le _, Nat.zero_le _⟩ (fun σ1 τ1 H locs h1 hP hS => ?_)
  obtain ⟨rfl, f3, f4, f5, m6, m7, h1⟩ := h1
  refine lv_aload_n hx hb dX12_tellsAs_25 rfl (lv_at hl 0 rfl) ?_
  refine lv_aload_n hx hb dX12_tellsAs_26 rfl (lv_at hl 0 rfl) ?_
  refine va_get (D := D) hx hb hts inlX12 hown hK hP 55 (jc_55 cI cL ad σ1 τ) rfl 56 (by decide) (hts _ kw_49_8) (fun _ h9 => h9) rfl dX12_tellsAs_27 ?_
  have m8 : σ1 55 56 = (σ 55 56) := (f4 56 (by decide))
  refine jtopr m8 ?_
  refine jtopr (jsame (rfl : (σ 55 56).toInt = (σ 55 56).toInt) jz_2 (by omega)) ?_
  refine lv_iload_n hx hb dX12_tellsAs_30 rfl (lv_at hl 2 rfl) ?_
  have z9 : (σ1 55 56).toInt = (σ 55 56).toInt := (congrArg Int32.toInt (show σ1 55 56 = (σ 55 56) from m8))
  refine jcallV (As := [.int 2, .int a2]) (rest := []) ⟨hx, hb, hml, hown, hts⟩ hK hP hA hS hZ (c_X12_holdsAs_2_2_1 l D cI cL ad zz hJ σ1 τ a2 (A2) t2 m6 (by omega)) cw_RX12_388 (jc_55 cI cL ad σ1 τ) rfl ⟨Nat.le_of_ble_eq_true rfl, Nat.le_of_ble_eq_true rfl⟩ rfl rfl rfl hl.1 rfl (Nat.le_of_ble_eq_true rfl) dX12_tellsAs_31 ⟨Nat.zero_le _, Nat.zero_le _⟩ (fun r11 σ10 τ10 H locs h10 hP hS => ?_)
  obtain ⟨rfl, f12, f13, f14, m15, m16, m17, h10⟩ := h10
  have h18 := h10
  obtain ⟨q20, k19⟩ := h18
  have q20 := q20.symm
  subst q20
  refine lv_istore_n (lv' := [(3, .int ((a2 + (σ1 55 57)) * 2)), (0, .ref (ad 55)), (1, .int 2), (2, .int a2)]) hx hb dX12_tellsAs_34 rfl hl (by decide) rfl (fun ls hl => ?_)
  refine lv_iload_n hx hb dX12_tellsAs_35 rfl (lv_at hl 0 rfl) ?_
  refine lv_aload_n hx hb dX12_tellsAs_36 rfl (lv_at hl 1 rfl) ?_
  refine lv_aload_n hx hb dX12_tellsAs_37 rfl (lv_at hl 1 rfl) ?_
  refine va_get (D := D) hx hb hts inlX12 hown hK hP 55 (jc_55 cI cL ad σ10 τ) rfl 56 (by decide) (hts _ kw_49_8) (fun _ h9 => h9) rfl dX12_tellsAs_38 ?_
  have m21 : σ10 55 56 = (σ 55 56) := ((f13 56 (by decide)).trans m8)
  refine jtopr m21 ?_
  refine jtopr (jsame (rfl : (σ 55 56).toInt = (σ 55 56).toInt) jz_2 (by omega)) ?_
  refine lv_iconst (v := 1) hx hb dX12_tellsAs_41 (by decide) ?_
  have z22 : (σ10 55 56).toInt = (σ 55 56).toInt := (congrArg Int32.toInt (show σ10 55 56 = (σ 55 56) from m21))
  refine jcallV (As := [.int 2, .int 1]) (rest := [.int ((a2 + (σ1 55 57)) * 2)]) ⟨hx, hb, hml, hown, hts⟩ hK hP hA hS hZ (c_X12_givesAs_2_2_3_x1 l D cI cL ad zz hJ σ10 τ m15 (by omega)) cw_RX12_394 (jc_55 cI cL ad σ10 τ) rfl ⟨Nat.le_of_ble_eq_true rfl, Nat.le_of_ble_eq_true rfl⟩ rfl rfl rfl hl.1 rfl (Nat.le_of_ble_eq_true rfl) dX12_tellsAs_42 ⟨Nat.zero_le _, Nat.zero_le _⟩ (fun r24 σ23 τ23 H locs h23 hP hS => ?_)
  obtain ⟨rfl, f25, f26, f27, m28, m29, m30, h23⟩ := h23
  have h31 := h23
  obtain ⟨q33, k32⟩ := h31
  have q33 := q33.symm
  subst q33
  have g34 := jrg (rfl : ((a2 + (σ1 55 57)) * 2).toInt = ((a2 + (σ1 55 57)) * 2).toInt)
  have g35 := jrg (rfl : ((1 ^^^ (σ10 55 57)) * 3).toInt = ((1 ^^^ (σ10 55 57)) * 3).toInt)
  refine lv_isub hx hb dX12_tellsAs_45 ?_
  refine lv_topi (fun x36 ex36 => ?_)
  have gx36 := jrg (rfl : x36.toInt = x36.toInt)
  have m37 : σ23 85 0 = 2 := ((f27 0 (by decide)).trans ((f14 0 (by decide)).trans m7))
  have m38 : σ23 85 1 = 10 := ((f27 1 (by decide)).trans m16)
  have m39 : σ23 85 2 = 1 := ((f27 2 (by decide)).trans m17)
  exact hret x36 σ23 τ _ _ _ _ rfl ⟨rfl, (fun i hi => ((f25 i hi).trans ((f12 i hi).trans (f3 i hi)))), (fun i hi => ((f26 i hi).trans ((f13 i hi).trans (f4 i hi)))), (fun i hi => ((f27 i (imp_316 i hi)).trans ((f14 i (imp_317 i hi)).trans (f5 i (imp_351 i hi))))), m28, m37, m38, m39, m29, m30, ⟨(by rw [ex36, (show σ1 55 57 = σ 55 57 from (f4 57 (by decide))), (show σ10 55 57 = σ 55 57 from ((f13 57 (by decide)).trans (f4 57 (by decide))))]), trivial⟩⟩ hP hS dX12_tellsAs_46
set_option maxHeartbeats 4000000 in
set_option maxRecDepth 100000 in
theorem c_X12_putsAs_3_3_0 (l : Launch) (D : va_G) (cI cL : ClassId) (ad zz : Nat → Nat) (hJ : jD ad) (σ : Nat → Nat → Int32) (τ : Nat → Nat → Int64) (a2 : Int32) (A2 : Int) (t2 : a2.toInt = A2) (h55_55 : σ 55 55 = 0) (hp0 : (σ 55 56).toInt = 3) : jM l yX12_putsAs cX12_putsAs 3 (some .int) ({ frames := 1, cells := 0, slots := 0, locals := 21 }) D cI cL ad zz [.ref (ad 55), .int 3, .int a2] σ τ (fun r σ' τ' => τ = τ' ∧ (∀ i : Nat, (i < 55 ∨ 55 < i) ∧ (i < 85 ∨ 85 < i) → σ' i = σ i) ∧ (∀ k : Nat, (k < 55 ∨ 55 < k) → σ' 55 k = σ 55 k) ∧ (∀ k : Nat, (k < 0 ∨ 0 < k) → σ' 85 k = σ 85 k) ∧ (σ' 55 55 = 1) ∧ (σ' 85 0 = 1) ∧ ((r = (a2 + (σ 55 57)) ∧ True))) := by
  refine jM.of hJ (by decide +kernel) (nt := .int) rfl (Nat.le_of_ble_eq_true rfl) ?_
  intro p e s m args below meth c Q ls hC hret hl hP
  obtain ⟨hx, hb, hr, hml, hown, hts, hK, -, hlocks, hZ⟩ := hC
  have hown : s.vm.findClass RX12 = some m.cls := hown
  have hS : va_S (jA ad) s.heap s.heap [] := va_S.rf
  have hA : ∀ q, jA ad q → jA ad q := fun _ h => h
  have hl : lv_has ls 3 [(0, .ref (ad 55)), (1, .int 3), (2, .int a2)] := hl
  have g2 := jrg t2
  refine lv_iload_n hx hb dX12_putsAs_0 rfl (lv_at hl 1 rfl) ?_
  refine lv_iconst (v := 4) hx hb dX12_putsAs_1 (by decide) ?_
  refine lv_icmp_ne (tgt := 20) hx hb dX12_putsAs_2 (by decide) (fun _ => ?_) (fun c => absurd c (by decide))
  refine lv_iload_n hx hb dX12_putsAs_20 rfl (lv_at hl 1 rfl) ?_
  refine lv_iconst (v := 1) hx hb dX12_putsAs_21 (by decide) ?_
  refine lv_icmp_ne (tgt := 40) hx hb dX12_putsAs_22 (by decide) (fun _ => ?_) (fun c => absurd c (by decide))
  refine lv_aload_n hx hb dX12_putsAs_40 rfl (lv_at hl 0 rfl) ?_
  refine lv_iconst (v := 1) hx hb dX12_putsAs_41 (by decide) ?_
  refine jcallVv (As := [.int 1]) (rest := []) ⟨hx, hb, hml, hown, hts⟩ hK hP hA hS hZ (c_X12_begins_1_0 l D cI cL ad zz hJ σ τ h55_55) cw_RX12_379 (jc_55 cI cL ad σ τ) rfl ⟨Nat.le_of_ble_eq_true rfl, Nat.le_of_ble_eq_true rfl⟩ rfl rfl rfl hl.1 rfl (Nat.le_of_ble_eq_true rfl) dX12_putsAs_42 ⟨Nat.zero_le _, Nat.zero_le _⟩ (fun σ1 τ1 H locs h1 hP hS => ?_)
  obtain ⟨rfl, f3, f4, f5, m6, m7, h1⟩ := h1
  refine lv_iload_n hx hb dX12_putsAs_45 rfl (lv_at hl 2 rfl) ?_
  refine lv_aload_n hx hb dX12_putsAs_46 rfl (lv_at hl 0 rfl) ?_
  refine va_get (D := D) hx hb hts inlX12 hown hK hP 55 (jc_55 cI cL ad σ1 τ) rfl 57 (by decide) (hts _ kw_49_9) (fun _ h9 => h9) rfl dX12_putsAs_47 ?_
  have m8 : σ1 55 57 = (σ 55 57) := (f4 57 (by decide))
  refine jtopr m8 ?_
  have g9 := jrg (rfl : (σ 55 57).toInt = (σ 55 57).toInt)
  refine lv_iadd hx hb dX12_putsAs_50 ?_
  refine lv_topi (fun x10 ex10 => ?_)
  have gx10 := jrg (rfl : x10.toInt = x10.toInt)
  exact hret x10 σ1 τ _ _ _ _ rfl ⟨rfl, (fun i hi => (f3 i hi)), (fun i hi => (f4 i hi)), (fun i hi => (f5 i hi)), m6, m7, ⟨(by rw [ex10]), trivial⟩⟩ hP hS dX12_putsAs_51
set_option maxHeartbeats 4000000 in
set_option maxRecDepth 100000 in
theorem c_X12_begins_40_0 (l : Launch) (D : va_G) (cI cL : ClassId) (ad zz : Nat → Nat) (hJ : jD ad) (σ : Nat → Nat → Int32) (τ : Nat → Nat → Int64) (h55_55 : σ 55 55 = 0) : jMv l yX12_begins cX12_begins 2 none ({ frames := 0, cells := 0, slots := 0, locals := 0 }) D cI cL ad zz [.ref (ad 55), .int 40] σ τ (fun σ' τ' => τ = τ' ∧ (∀ i : Nat, (i < 55 ∨ 55 < i) ∧ (i < 85 ∨ 85 < i) → σ' i = σ i) ∧ (∀ k : Nat, (k < 55 ∨ 55 < k) → σ' 55 k = σ 55 k) ∧ (∀ k : Nat, (k < 0 ∨ 0 < k) → σ' 85 k = σ 85 k) ∧ (σ' 55 55 = 1) ∧ (σ' 85 0 = 40) ∧ True) := by
  refine jMv.of hJ (by decide +kernel) rfl (Nat.le_of_ble_eq_true rfl) ?_
  intro p e s m args below meth c Q ls hC hret hl hP
  obtain ⟨hx, hb, hr, hml, hown, hts, hK, -, hlocks, hZ⟩ := hC
  have hown : s.vm.findClass RX12 = some m.cls := hown
  have hS : va_S (jA ad) s.heap s.heap [] := va_S.rf
  have hA : ∀ q, jA ad q → jA ad q := fun _ h => h
  have hl : lv_has ls 2 [(0, .ref (ad 55)), (1, .int 40)] := hl
  refine lv_aload_n hx hb dX12_begins_0 rfl (lv_at hl 0 rfl) ?_
  refine va_get (D := D) hx hb hts inlX12 hown hK hP 55 (jc_55 cI cL ad σ τ) rfl 55 (by decide) (hts _ kw_49_7) (fun _ h9 => h9) rfl dX12_begins_1 ?_
  refine jtopr h55_55 ?_
  refine lv_bipush (v := 24) hx hb dX12_begins_4 (by decide) ?_
  refine lv_icmp_ge (tgt := 19) hx hb dX12_begins_6 (by decide) (fun c => absurd c (by decide)) (fun _ => ?_)
  refine lv_aload_n hx hb dX12_begins_9 rfl (lv_at hl 0 rfl) ?_
  refine va_get (D := D) hx hb hts inlX12 hown hK hP 55 (jc_55 cI cL ad σ τ) rfl 54 (by decide) (hts _ kw_8_10) (fun _ h9 => h9) rfl dX12_begins_10 ?_
  refine lv_aload_n hx hb dX12_begins_13 rfl (lv_at hl 0 rfl) ?_
  refine va_get (D := D) hx hb hts inlX12 hown hK hP 55 (jc_55 cI cL ad σ τ) rfl 55 (by decide) (hts _ kw_49_7) (fun _ h9 => h9) rfl dX12_begins_14 ?_
  refine jtopr h55_55 ?_
  refine lv_iload_n hx hb dX12_begins_17 rfl (lv_at hl 1 rfl) ?_
  refine jast hx hb hK hP hJ hA hS (jc_85 cI cL ad σ τ) (ja_85 cI cL ad σ τ _ _) (jin jz_0 (by omega) (by omega)) dX12_begins_18 (fun σ1 H locs eσ1 hP hS => ?_)
  have eσ1 : σ1 = jup σ 85 0 40 := eσ1
  refine lv_aload_n hx hb dX12_begins_19 rfl (lv_at hl 0 rfl) ?_
  refine lv_dup hx hb dX12_begins_20 rfl ?_
  refine va_get (D := D) hx hb hts inlX12 hown hK hP 55 (jc_55 cI cL ad σ1 τ) rfl 55 (by decide) (hts _ kw_49_7) (fun _ h9 => h9) rfl dX12_begins_21 ?_
  have m2 : σ1 55 55 = 0 := ((congrFun (jnp 55 eσ1 (by decide)) 55).trans h55_55)
  refine jtopr m2 ?_
  refine lv_iconst (v := 1) hx hb dX12_begins_24 (by decide) ?_
  refine lv_iadd hx hb dX12_begins_25 ?_
  refine jtopr (y := 1) (by decide) ?_
  refine jput (ty := .int) hx hb hts inlX12 tyX12 tyX12_ok nmX12 hown hK hP hJ hA hS (jc_55 cI cL ad σ1 τ) rfl (k := 55) (by decide) (Nat.le_of_ble_eq_true rfl) (jp_55_55 cI cL ad σ1 τ 1) (hts _ kw_49_7) (fun _ h9 => h9) rfl (by decide +kernel) rfl rfl dX12_begins_26 (fun σ3 H locs eσ3 hP hS => ?_)
  have m4 : σ3 55 55 = 1 := (jsp eσ3)
  have m5 : σ3 85 0 = 40 := ((congrFun (jnp 85 eσ3 (by decide)) 0).trans (jsp eσ1))
  exact hret σ3 τ _ _ _ _ ⟨rfl, (fun i hi => ((jnp i eσ3 (imp_345 i hi)).trans (jnp i eσ1 (imp_346 i hi)))), (fun i hi => ((jkp i eσ3 (imp_164 i hi)).trans (congrFun (jnp 55 eσ1 (by decide)) i))), (fun i hi => ((congrFun (jnp 85 eσ3 (by decide)) i).trans (jkp i eσ1 (imp_4 i hi)))), m4, m5, trivial⟩ hP hS dX12_begins_29
set_option maxHeartbeats 4000000 in
set_option maxRecDepth 100000 in
theorem c_X12_putsAs_3_3_2 (l : Launch) (D : va_G) (cI cL : ClassId) (ad zz : Nat → Nat) (hJ : jD ad) (σ : Nat → Nat → Int32) (τ : Nat → Nat → Int64) (a2 : Int32) (A2 : Int) (t2 : a2.toInt = A2) (h55_55 : σ 55 55 = 2) (hp0 : (σ 55 56).toInt = 3) : jM l yX12_putsAs cX12_putsAs 3 (some .int) ({ frames := 1, cells := 0, slots := 0, locals := 21 }) D cI cL ad zz [.ref (ad 55), .int 3, .int a2] σ τ (fun r σ' τ' => τ = τ' ∧ (∀ i : Nat, (i < 55 ∨ 55 < i) ∧ (i < 85 ∨ 85 < i) → σ' i = σ i) ∧ (∀ k : Nat, (k < 55 ∨ 55 < k) → σ' 55 k = σ 55 k) ∧ (∀ k : Nat, (k < 2 ∨ 2 < k) → σ' 85 k = σ 85 k) ∧ (σ' 55 55 = 3) ∧ (σ' 85 2 = 1) ∧ ((r = (a2 + (σ 55 57)) ∧ True))) := by
  refine jM.of hJ (by decide +kernel) (nt := .int) rfl (Nat.le_of_ble_eq_true rfl) ?_
  intro p e s m args below meth c Q ls hC hret hl hP
  obtain ⟨hx, hb, hr, hml, hown, hts, hK, -, hlocks, hZ⟩ := hC
  have hown : s.vm.findClass RX12 = some m.cls := hown
  have hS : va_S (jA ad) s.heap s.heap [] := va_S.rf
  have hA : ∀ q, jA ad q → jA ad q := fun _ h => h
  have hl : lv_has ls 3 [(0, .ref (ad 55)), (1, .int 3), (2, .int a2)] := hl
  have g2 := jrg t2
  refine lv_iload_n hx hb dX12_putsAs_0 rfl (lv_at hl 1 rfl) ?_
  refine lv_iconst (v := 4) hx hb dX12_putsAs_1 (by decide) ?_
  refine lv_icmp_ne (tgt := 20) hx hb dX12_putsAs_2 (by decide) (fun _ => ?_) (fun c => absurd c (by decide))
  refine lv_iload_n hx hb dX12_putsAs_20 rfl (lv_at hl 1 rfl) ?_
  refine lv_iconst (v := 1) hx hb dX12_putsAs_21 (by decide) ?_
  refine lv_icmp_ne (tgt := 40) hx hb dX12_putsAs_22 (by decide) (fun _ => ?_) (fun c => absurd c (by decide))
  refine lv_aload_n hx hb dX12_putsAs_40 rfl (lv_at hl 0 rfl) ?_
  refine lv_iconst (v := 1) hx hb dX12_putsAs_41 (by decide) ?_
  refine jcallVv (As := [.int 1]) (rest := []) ⟨hx, hb, hml, hown, hts⟩ hK hP hA hS hZ (c_X12_begins_1_2 l D cI cL ad zz hJ σ τ h55_55) cw_RX12_379 (jc_55 cI cL ad σ τ) rfl ⟨Nat.le_of_ble_eq_true rfl, Nat.le_of_ble_eq_true rfl⟩ rfl rfl rfl hl.1 rfl (Nat.le_of_ble_eq_true rfl) dX12_putsAs_42 ⟨Nat.zero_le _, Nat.zero_le _⟩ (fun σ1 τ1 H locs h1 hP hS => ?_)
  obtain ⟨rfl, f3, f4, f5, m6, m7, h1⟩ := h1
  refine lv_iload_n hx hb dX12_putsAs_45 rfl (lv_at hl 2 rfl) ?_
  refine lv_aload_n hx hb dX12_putsAs_46 rfl (lv_at hl 0 rfl) ?_
  refine va_get (D := D) hx hb hts inlX12 hown hK hP 55 (jc_55 cI cL ad σ1 τ) rfl 57 (by decide) (hts _ kw_49_9) (fun _ h9 => h9) rfl dX12_putsAs_47 ?_
  have m8 : σ1 55 57 = (σ 55 57) := (f4 57 (by decide))
  refine jtopr m8 ?_
  have g9 := jrg (rfl : (σ 55 57).toInt = (σ 55 57).toInt)
  refine lv_iadd hx hb dX12_putsAs_50 ?_
  refine lv_topi (fun x10 ex10 => ?_)
  have gx10 := jrg (rfl : x10.toInt = x10.toInt)
  exact hret x10 σ1 τ _ _ _ _ rfl ⟨rfl, (fun i hi => (f3 i hi)), (fun i hi => (f4 i hi)), (fun i hi => (f5 i hi)), m6, m7, ⟨(by rw [ex10]), trivial⟩⟩ hP hS dX12_putsAs_51
set_option maxHeartbeats 4000000 in
set_option maxRecDepth 100000 in
theorem c_X12_holdsAs_3_0_1 (l : Launch) (D : va_G) (cI cL : ClassId) (ad zz : Nat → Nat) (hJ : jD ad) (σ : Nat → Nat → Int32) (τ : Nat → Nat → Int64) (a2 : Int32) (A2 : Int) (t2 : a2.toInt = A2) (h55_55 : σ 55 55 = 1) (hp0 : (σ 55 56).toInt = 3) : jM l yX12_holdsAs cX12_holdsAs 4 (some .int) ({ frames := 2, cells := 0, slots := 0, locals := 43 }) D cI cL ad zz [.ref (ad 55), .int 0, .int a2] σ τ (fun r σ' τ' => τ = τ' ∧ (∀ i : Nat, (i < 55 ∨ 55 < i) ∧ (i < 85 ∨ 85 < i) → σ' i = σ i) ∧ (∀ k : Nat, (k < 55 ∨ 55 < k) → σ' 55 k = σ 55 k) ∧ (∀ k : Nat, (k < 1 ∨ 1 < k) ∧ (k < 2 ∨ 2 < k) → σ' 85 k = σ 85 k) ∧ (σ' 55 55 = 3) ∧ (σ' 85 1 = 10) ∧ (σ' 85 2 = 1) ∧ ((r = ((a2 + (σ 55 57)) * 2) ∧ True))) := by
  refine jM.of hJ (by decide +kernel) (nt := .int) rfl (Nat.le_of_ble_eq_true rfl) ?_
  intro p e s m args below meth c Q ls hC hret hl hP
  obtain ⟨hx, hb, hr, hml, hown, hts, hK, -, hlocks, hZ⟩ := hC
  have hown : s.vm.findClass RX12 = some m.cls := hown
  have hS : va_S (jA ad) s.heap s.heap [] := va_S.rf
  have hA : ∀ q, jA ad q → jA ad q := fun _ h => h
  have hl : lv_has ls 4 [(0, .ref (ad 55)), (1, .int 0), (2, .int a2)] := hl
  have g2 := jrg t2
  refine lv_iload_n hx hb dX12_holdsAs_0 rfl (lv_at hl 1 rfl) ?_
  refine lv_iconst (v := 3) hx hb dX12_holdsAs_1 (by decide) ?_
  refine lv_icmp_eq (tgt := 10) hx hb dX12_holdsAs_2 (by decide) (fun c => absurd c (by decide)) (fun _ => ?_)
  refine lv_iload_n hx hb dX12_holdsAs_5 rfl (lv_at hl 1 rfl) ?_
  refine lv_iconst (v := 5) hx hb dX12_holdsAs_6 (by decide) ?_
  refine lv_icmp_ne (tgt := 24) hx hb dX12_holdsAs_7 (by decide) (fun _ => ?_) (fun c => absurd c (by decide))
  refine lv_iload_n hx hb dX12_holdsAs_24 rfl (lv_at hl 1 rfl) ?_
  refine lv_bipush (v := 6) hx hb dX12_holdsAs_25 (by decide) ?_
  refine lv_icmp_ne (tgt := 55) hx hb dX12_holdsAs_27 (by decide) (fun _ => ?_) (fun c => absurd c (by decide))
  refine lv_aload_n hx hb dX12_holdsAs_55 rfl (lv_at hl 0 rfl) ?_
  refine lv_bipush (v := 10) hx hb dX12_holdsAs_56 (by decide) ?_
  refine jcallVv (As := [.int 10]) (rest := []) ⟨hx, hb, hml, hown, hts⟩ hK hP hA hS hZ (c_X12_begins_10_1 l D cI cL ad zz hJ σ τ h55_55) cw_RX12_379 (jc_55 cI cL ad σ τ) rfl ⟨Nat.le_of_ble_eq_true rfl, Nat.le_of_ble_eq_true rfl⟩ rfl rfl rfl hl.1 rfl (Nat.le_of_ble_eq_true rfl) dX12_holdsAs_58 ⟨Nat.zero_le _, Nat.zero_le _⟩ (fun σ1 τ1 H locs h1 hP hS => ?_)
  obtain ⟨rfl, f3, f4, f5, m6, m7, h1⟩ := h1
  refine lv_aload_n hx hb dX12_holdsAs_61 rfl (lv_at hl 0 rfl) ?_
  refine lv_aload_n hx hb dX12_holdsAs_62 rfl (lv_at hl 0 rfl) ?_
  refine va_get (D := D) hx hb hts inlX12 hown hK hP 55 (jc_55 cI cL ad σ1 τ) rfl 56 (by decide) (hts _ kw_49_8) (fun _ h9 => h9) rfl dX12_holdsAs_63 ?_
  have m8 : σ1 55 56 = (σ 55 56) := (f4 56 (by decide))
  refine jtopr m8 ?_
  refine jtopr (jsame (rfl : (σ 55 56).toInt = (σ 55 56).toInt) jz_3 (by omega)) ?_
  refine lv_iload_n hx hb dX12_holdsAs_66 rfl (lv_at hl 2 rfl) ?_
  have z9 : (σ1 55 56).toInt = (σ 55 56).toInt := (congrArg Int32.toInt (show σ1 55 56 = (σ 55 56) from m8))
  refine jcallV (As := [.int 3, .int a2]) (rest := []) ⟨hx, hb, hml, hown, hts⟩ hK hP hA hS hZ (c_X12_putsAs_3_3_2 l D cI cL ad zz hJ σ1 τ a2 (A2) t2 m6 (by omega)) cw_RX12_382 (jc_55 cI cL ad σ1 τ) rfl ⟨Nat.le_of_ble_eq_true rfl, Nat.le_of_ble_eq_true rfl⟩ rfl rfl rfl hl.1 rfl (Nat.le_of_ble_eq_true rfl) dX12_holdsAs_67 ⟨Nat.zero_le _, Nat.zero_le _⟩ (fun r11 σ10 τ10 H locs h10 hP hS => ?_)
  obtain ⟨rfl, f12, f13, f14, m15, m16, h10⟩ := h10
  have h17 := h10
  obtain ⟨q19, k18⟩ := h17
  have q19 := q19.symm
  subst q19
  refine lv_iconst (v := 2) hx hb dX12_holdsAs_70 (by decide) ?_
  have g20 := jrg (rfl : (a2 + (σ1 55 57)).toInt = (a2 + (σ1 55 57)).toInt)
  refine lv_imul hx hb dX12_holdsAs_71 ?_
  refine lv_topi (fun x21 ex21 => ?_)
  have gx21 := jrg (rfl : x21.toInt = x21.toInt)
  have m22 : σ10 85 1 = 10 := ((f14 1 (by decide)).trans m7)
  exact hret x21 σ10 τ _ _ _ _ rfl ⟨rfl, (fun i hi => ((f12 i hi).trans (f3 i hi))), (fun i hi => ((f13 i hi).trans (f4 i hi))), (fun i hi => ((f14 i (imp_43 i hi)).trans (f5 i (imp_60 i hi)))), m15, m22, m16, ⟨(by rw [ex21, (show σ1 55 57 = σ 55 57 from (f4 57 (by decide)))]), trivial⟩⟩ hP hS dX12_holdsAs_72
set_option maxHeartbeats 4000000 in
set_option maxRecDepth 100000 in
theorem c_X12_holdsAs_3_3_0 (l : Launch) (D : va_G) (cI cL : ClassId) (ad zz : Nat → Nat) (hJ : jD ad) (σ : Nat → Nat → Int32) (τ : Nat → Nat → Int64) (a2 : Int32) (A2 : Int) (t2 : a2.toInt = A2) (h55_55 : σ 55 55 = 0) (hp0 : (σ 55 56).toInt = 3) : jM l yX12_holdsAs cX12_holdsAs 4 (some .int) ({ frames := 3, cells := 0, slots := 0, locals := 66 }) D cI cL ad zz [.ref (ad 55), .int 3, .int a2] σ τ (fun r σ' τ' => τ = τ' ∧ (∀ i : Nat, (i < 55 ∨ 55 < i) ∧ (i < 85 ∨ 85 < i) → σ' i = σ i) ∧ (∀ k : Nat, (k < 55 ∨ 55 < k) → σ' 55 k = σ 55 k) ∧ (∀ k : Nat, (k < 0 ∨ 0 < k) ∧ (k < 1 ∨ 1 < k) ∧ (k < 2 ∨ 2 < k) → σ' 85 k = σ 85 k) ∧ (σ' 55 55 = 3) ∧ (σ' 85 0 = 40) ∧ (σ' 85 1 = 10) ∧ (σ' 85 2 = 1) ∧ ((r = (-((a2 + (σ 55 57)) * 2)) ∧ True))) := by
  refine jM.of hJ (by decide +kernel) (nt := .int) rfl (Nat.le_of_ble_eq_true rfl) ?_
  intro p e s m args below meth c Q ls hC hret hl hP
  obtain ⟨hx, hb, hr, hml, hown, hts, hK, -, hlocks, hZ⟩ := hC
  have hown : s.vm.findClass RX12 = some m.cls := hown
  have hS : va_S (jA ad) s.heap s.heap [] := va_S.rf
  have hA : ∀ q, jA ad q → jA ad q := fun _ h => h
  have hl : lv_has ls 4 [(0, .ref (ad 55)), (1, .int 3), (2, .int a2)] := hl
  have g2 := jrg t2
  refine lv_iload_n hx hb dX12_holdsAs_0 rfl (lv_at hl 1 rfl) ?_
  refine lv_iconst (v := 3) hx hb dX12_holdsAs_1 (by decide) ?_
  refine lv_icmp_eq (tgt := 10) hx hb dX12_holdsAs_2 (by decide) (fun _ => ?_) (fun c => absurd (by decide) c)
  refine lv_aload_n hx hb dX12_holdsAs_10 rfl (lv_at hl 0 rfl) ?_
  refine lv_bipush (v := 40) hx hb dX12_holdsAs_11 (by decide) ?_
  refine jcallVv (As := [.int 40]) (rest := []) ⟨hx, hb, hml, hown, hts⟩ hK hP hA hS hZ (c_X12_begins_40_0 l D cI cL ad zz hJ σ τ h55_55) cw_RX12_379 (jc_55 cI cL ad σ τ) rfl ⟨Nat.le_of_ble_eq_true rfl, Nat.le_of_ble_eq_true rfl⟩ rfl rfl rfl hl.1 rfl (Nat.le_of_ble_eq_true rfl) dX12_holdsAs_13 ⟨Nat.zero_le _, Nat.zero_le _⟩ (fun σ1 τ1 H locs h1 hP hS => ?_)
  obtain ⟨rfl, f3, f4, f5, m6, m7, h1⟩ := h1
  refine lv_aload_n hx hb dX12_holdsAs_16 rfl (lv_at hl 0 rfl) ?_
  refine lv_iconst (v := 0) hx hb dX12_holdsAs_17 (by decide) ?_
  refine lv_iload_n hx hb dX12_holdsAs_18 rfl (lv_at hl 2 rfl) ?_
  have z8 : (σ1 55 56).toInt = (σ 55 56).toInt := (congrArg Int32.toInt (show σ1 55 56 = (σ 55 56) from (f4 56 (by decide))))
  refine jcallV (As := [.int 0, .int a2]) (rest := []) ⟨hx, hb, hml, hown, hts⟩ hK hP hA hS hZ (c_X12_holdsAs_3_0_1 l D cI cL ad zz hJ σ1 τ a2 (A2) t2 m6 (by omega)) cw_RX12_388 (jc_55 cI cL ad σ1 τ) rfl ⟨Nat.le_of_ble_eq_true rfl, Nat.le_of_ble_eq_true rfl⟩ rfl rfl rfl hl.1 rfl (Nat.le_of_ble_eq_true rfl) dX12_holdsAs_19 ⟨Nat.zero_le _, Nat.zero_le _⟩ (fun r10 σ9 τ9 H locs h9 hP hS => ?_)
  obtain ⟨rfl, f11, f12, f13, m14, m15, m16, h9⟩ := h9
  have h17 := h9
  obtain ⟨q19, k18⟩ := h17
  have q19 := q19.symm
  subst q19
  refine lv_ineg hx hb dX12_holdsAs_22 ?_
  refine lv_topi (fun x20 ex20 => ?_)
  have gx20 := jrg (rfl : x20.toInt = x20.toInt)
  have m21 : σ9 85 0 = 40 := ((f13 0 (by decide)).trans m7)
  exact hret x20 σ9 τ _ _ _ _ rfl ⟨rfl, (fun i hi => ((f11 i hi).trans (f3 i hi))), (fun i hi => ((f12 i hi).trans (f4 i hi))), (fun i hi => ((f13 i (imp_50 i hi)).trans (f5 i (imp_349 i hi)))), m14, m21, m15, m16, ⟨(by rw [ex20, (show σ1 55 57 = σ 55 57 from (f4 57 (by decide)))]), trivial⟩⟩ hP hS dX12_holdsAs_23
set_option maxHeartbeats 4000000 in
set_option maxRecDepth 100000 in
theorem c_X12_givesAs_3_0_1 (l : Launch) (D : va_G) (cI cL : ClassId) (ad zz : Nat → Nat) (hJ : jD ad) (σ : Nat → Nat → Int32) (τ : Nat → Nat → Int64) (a2 : Int32) (A2 : Int) (t2 : a2.toInt = A2) (h55_55 : σ 55 55 = 1) (hp0 : (σ 55 56).toInt = 3) : jM l yX12_givesAs cX12_givesAs 4 (some .int) ({ frames := 1, cells := 0, slots := 0, locals := 21 }) D cI cL ad zz [.ref (ad 55), .int 0, .int a2] σ τ (fun r σ' τ' => τ = τ' ∧ (∀ i : Nat, (i < 55 ∨ 55 < i) ∧ (i < 85 ∨ 85 < i) → σ' i = σ i) ∧ (∀ k : Nat, (k < 55 ∨ 55 < k) → σ' 55 k = σ 55 k) ∧ (∀ k : Nat, (k < 1 ∨ 1 < k) → σ' 85 k = σ 85 k) ∧ (σ' 55 55 = 2) ∧ (σ' 85 1 = 11) ∧ ((r = (a2 ^^^ (σ 55 57)) ∧ True))) := by
  refine jM.of hJ (by decide +kernel) (nt := .int) rfl (Nat.le_of_ble_eq_true rfl) ?_
  intro p e s m args below meth c Q ls hC hret hl hP
  obtain ⟨hx, hb, hr, hml, hown, hts, hK, -, hlocks, hZ⟩ := hC
  have hown : s.vm.findClass RX12 = some m.cls := hown
  have hS : va_S (jA ad) s.heap s.heap [] := va_S.rf
  have hA : ∀ q, jA ad q → jA ad q := fun _ h => h
  have hl : lv_has ls 4 [(0, .ref (ad 55)), (1, .int 0), (2, .int a2)] := hl
  have g2 := jrg t2
  refine lv_iload_n hx hb dX12_givesAs_0 rfl (lv_at hl 1 rfl) ?_
  refine lv_iconst (v := 5) hx hb dX12_givesAs_1 (by decide) ?_
  refine lv_icmp_ne (tgt := 30) hx hb dX12_givesAs_2 (by decide) (fun _ => ?_) (fun c => absurd c (by decide))
  refine lv_iload_n hx hb dX12_givesAs_30 rfl (lv_at hl 1 rfl) ?_
  refine lv_iconst (v := 2) hx hb dX12_givesAs_31 (by decide) ?_
  refine lv_icmp_eq (tgt := 40) hx hb dX12_givesAs_32 (by decide) (fun c => absurd c (by decide)) (fun _ => ?_)
  refine lv_iload_n hx hb dX12_givesAs_35 rfl (lv_at hl 1 rfl) ?_
  refine lv_iconst (v := 3) hx hb dX12_givesAs_36 (by decide) ?_
  refine lv_icmp_ne (tgt := 55) hx hb dX12_givesAs_37 (by decide) (fun _ => ?_) (fun c => absurd c (by decide))
  refine lv_aload_n hx hb dX12_givesAs_55 rfl (lv_at hl 0 rfl) ?_
  refine lv_bipush (v := 11) hx hb dX12_givesAs_56 (by decide) ?_
  refine jcallVv (As := [.int 11]) (rest := []) ⟨hx, hb, hml, hown, hts⟩ hK hP hA hS hZ (c_X12_begins_11_1 l D cI cL ad zz hJ σ τ h55_55) cw_RX12_379 (jc_55 cI cL ad σ τ) rfl ⟨Nat.le_of_ble_eq_true rfl, Nat.le_of_ble_eq_true rfl⟩ rfl rfl rfl hl.1 rfl (Nat.le_of_ble_eq_true rfl) dX12_givesAs_58 ⟨Nat.zero_le _, Nat.zero_le _⟩ (fun σ1 τ1 H locs h1 hP hS => ?_)
  obtain ⟨rfl, f3, f4, f5, m6, m7, h1⟩ := h1
  refine lv_iload_n hx hb dX12_givesAs_61 rfl (lv_at hl 2 rfl) ?_
  refine lv_aload_n hx hb dX12_givesAs_62 rfl (lv_at hl 0 rfl) ?_
  refine va_get (D := D) hx hb hts inlX12 hown hK hP 55 (jc_55 cI cL ad σ1 τ) rfl 57 (by decide) (hts _ kw_49_9) (fun _ h9 => h9) rfl dX12_givesAs_63 ?_
  have m8 : σ1 55 57 = (σ 55 57) := (f4 57 (by decide))
  refine jtopr m8 ?_
  refine lv_ixor hx hb dX12_givesAs_66 ?_
  refine lv_topi (fun x9 ex9 => ?_)
  have gx9 := jrg (rfl : x9.toInt = x9.toInt)
  exact hret x9 σ1 τ _ _ _ _ rfl ⟨rfl, (fun i hi => (f3 i hi)), (fun i hi => (f4 i hi)), (fun i hi => (f5 i hi)), m6, m7, ⟨(by rw [ex9]), trivial⟩⟩ hP hS dX12_givesAs_67
set_option maxHeartbeats 4000000 in
set_option maxRecDepth 100000 in
theorem c_X12_givesAs_3_3_0 (l : Launch) (D : va_G) (cI cL : ClassId) (ad zz : Nat → Nat) (hJ : jD ad) (σ : Nat → Nat → Int32) (τ : Nat → Nat → Int64) (a2 : Int32) (A2 : Int) (t2 : a2.toInt = A2) (h55_55 : σ 55 55 = 0) (hp0 : (σ 55 56).toInt = 3) : jM l yX12_givesAs cX12_givesAs 4 (some .int) ({ frames := 2, cells := 0, slots := 0, locals := 44 }) D cI cL ad zz [.ref (ad 55), .int 3, .int a2] σ τ (fun r σ' τ' => τ = τ' ∧ (∀ i : Nat, (i < 55 ∨ 55 < i) ∧ (i < 85 ∨ 85 < i) → σ' i = σ i) ∧ (∀ k : Nat, (k < 55 ∨ 55 < k) → σ' 55 k = σ 55 k) ∧ (∀ k : Nat, (k < 0 ∨ 0 < k) ∧ (k < 1 ∨ 1 < k) → σ' 85 k = σ 85 k) ∧ (σ' 55 55 = 2) ∧ (σ' 85 0 = 30) ∧ (σ' 85 1 = 11) ∧ ((r = ((a2 ^^^ (σ 55 57)) * 3) ∧ True))) := by
  refine jM.of hJ (by decide +kernel) (nt := .int) rfl (Nat.le_of_ble_eq_true rfl) ?_
  intro p e s m args below meth c Q ls hC hret hl hP
  obtain ⟨hx, hb, hr, hml, hown, hts, hK, -, hlocks, hZ⟩ := hC
  have hown : s.vm.findClass RX12 = some m.cls := hown
  have hS : va_S (jA ad) s.heap s.heap [] := va_S.rf
  have hA : ∀ q, jA ad q → jA ad q := fun _ h => h
  have hl : lv_has ls 4 [(0, .ref (ad 55)), (1, .int 3), (2, .int a2)] := hl
  have g2 := jrg t2
  refine lv_iload_n hx hb dX12_givesAs_0 rfl (lv_at hl 1 rfl) ?_
  refine lv_iconst (v := 5) hx hb dX12_givesAs_1 (by decide) ?_
  refine lv_icmp_ne (tgt := 30) hx hb dX12_givesAs_2 (by decide) (fun _ => ?_) (fun c => absurd c (by decide))
  refine lv_iload_n hx hb dX12_givesAs_30 rfl (lv_at hl 1 rfl) ?_
  refine lv_iconst (v := 2) hx hb dX12_givesAs_31 (by decide) ?_
  refine lv_icmp_eq (tgt := 40) hx hb dX12_givesAs_32 (by decide) (fun c => absurd c (by decide)) (fun _ => ?_)
  refine lv_iload_n hx hb dX12_givesAs_35 rfl (lv_at hl 1 rfl) ?_
  refine lv_iconst (v := 3) hx hb dX12_givesAs_36 (by decide) ?_
  refine lv_icmp_ne (tgt := 55) hx hb dX12_givesAs_37 (by decide) (fun c => absurd (by decide) c) (fun _ => ?_)
  refine lv_aload_n hx hb dX12_givesAs_40 rfl (lv_at hl 0 rfl) ?_
  refine lv_bipush (v := 30) hx hb dX12_givesAs_41 (by decide) ?_
  refine jcallVv (As := [.int 30]) (rest := []) ⟨hx, hb, hml, hown, hts⟩ hK hP hA hS hZ (c_X12_begins_30_0 l D cI cL ad zz hJ σ τ h55_55) cw_RX12_379 (jc_55 cI cL ad σ τ) rfl ⟨Nat.le_of_ble_eq_true rfl, Nat.le_of_ble_eq_true rfl⟩ rfl rfl rfl hl.1 rfl (Nat.le_of_ble_eq_true rfl) dX12_givesAs_43 ⟨Nat.zero_le _, Nat.zero_le _⟩ (fun σ1 τ1 H locs h1 hP hS => ?_)
  obtain ⟨rfl, f3, f4, f5, m6, m7, h1⟩ := h1
  refine lv_aload_n hx hb dX12_givesAs_46 rfl (lv_at hl 0 rfl) ?_
  refine lv_iconst (v := 0) hx hb dX12_givesAs_47 (by decide) ?_
  refine lv_iload_n hx hb dX12_givesAs_48 rfl (lv_at hl 2 rfl) ?_
  have z8 : (σ1 55 56).toInt = (σ 55 56).toInt := (congrArg Int32.toInt (show σ1 55 56 = (σ 55 56) from (f4 56 (by decide))))
  refine jcallV (As := [.int 0, .int a2]) (rest := []) ⟨hx, hb, hml, hown, hts⟩ hK hP hA hS hZ (c_X12_givesAs_3_0_1 l D cI cL ad zz hJ σ1 τ a2 (A2) t2 m6 (by omega)) cw_RX12_394 (jc_55 cI cL ad σ1 τ) rfl ⟨Nat.le_of_ble_eq_true rfl, Nat.le_of_ble_eq_true rfl⟩ rfl rfl rfl hl.1 rfl (Nat.le_of_ble_eq_true rfl) dX12_givesAs_49 ⟨Nat.zero_le _, Nat.zero_le _⟩ (fun r10 σ9 τ9 H locs h9 hP hS => ?_)
  obtain ⟨rfl, f11, f12, f13, m14, m15, h9⟩ := h9
  have h16 := h9
  obtain ⟨q18, k17⟩ := h16
  have q18 := q18.symm
  subst q18
  refine lv_iconst (v := 3) hx hb dX12_givesAs_52 (by decide) ?_
  have g19 := jrg (rfl : (a2 ^^^ (σ1 55 57)).toInt = (a2 ^^^ (σ1 55 57)).toInt)
  refine lv_imul hx hb dX12_givesAs_53 ?_
  refine lv_topi (fun x20 ex20 => ?_)
  have gx20 := jrg (rfl : x20.toInt = x20.toInt)
  have m21 : σ9 85 0 = 30 := ((f13 0 (by decide)).trans m7)
  exact hret x20 σ9 τ _ _ _ _ rfl ⟨rfl, (fun i hi => ((f11 i hi).trans (f3 i hi))), (fun i hi => ((f12 i hi).trans (f4 i hi))), (fun i hi => ((f13 i (imp_302 i hi)).trans (f5 i (imp_347 i hi)))), m14, m21, m15, ⟨(by rw [ex20, (show σ1 55 57 = σ 55 57 from (f4 57 (by decide)))]), trivial⟩⟩ hP hS dX12_givesAs_54
set_option maxHeartbeats 4000000 in
set_option maxRecDepth 100000 in
theorem c_X12_begins_40_1 (l : Launch) (D : va_G) (cI cL : ClassId) (ad zz : Nat → Nat) (hJ : jD ad) (σ : Nat → Nat → Int32) (τ : Nat → Nat → Int64) (h55_55 : σ 55 55 = 1) : jMv l yX12_begins cX12_begins 2 none ({ frames := 0, cells := 0, slots := 0, locals := 0 }) D cI cL ad zz [.ref (ad 55), .int 40] σ τ (fun σ' τ' => τ = τ' ∧ (∀ i : Nat, (i < 55 ∨ 55 < i) ∧ (i < 85 ∨ 85 < i) → σ' i = σ i) ∧ (∀ k : Nat, (k < 55 ∨ 55 < k) → σ' 55 k = σ 55 k) ∧ (∀ k : Nat, (k < 1 ∨ 1 < k) → σ' 85 k = σ 85 k) ∧ (σ' 55 55 = 2) ∧ (σ' 85 1 = 40) ∧ True) := by
  refine jMv.of hJ (by decide +kernel) rfl (Nat.le_of_ble_eq_true rfl) ?_
  intro p e s m args below meth c Q ls hC hret hl hP
  obtain ⟨hx, hb, hr, hml, hown, hts, hK, -, hlocks, hZ⟩ := hC
  have hown : s.vm.findClass RX12 = some m.cls := hown
  have hS : va_S (jA ad) s.heap s.heap [] := va_S.rf
  have hA : ∀ q, jA ad q → jA ad q := fun _ h => h
  have hl : lv_has ls 2 [(0, .ref (ad 55)), (1, .int 40)] := hl
  refine lv_aload_n hx hb dX12_begins_0 rfl (lv_at hl 0 rfl) ?_
  refine va_get (D := D) hx hb hts inlX12 hown hK hP 55 (jc_55 cI cL ad σ τ) rfl 55 (by decide) (hts _ kw_49_7) (fun _ h9 => h9) rfl dX12_begins_1 ?_
  refine jtopr h55_55 ?_
  refine lv_bipush (v := 24) hx hb dX12_begins_4 (by decide) ?_
  refine lv_icmp_ge (tgt := 19) hx hb dX12_begins_6 (by decide) (fun c => absurd c (by decide)) (fun _ => ?_)
  refine lv_aload_n hx hb dX12_begins_9 rfl (lv_at hl 0 rfl) ?_
  refine va_get (D := D) hx hb hts inlX12 hown hK hP 55 (jc_55 cI cL ad σ τ) rfl 54 (by decide) (hts _ kw_8_10) (fun _ h9 => h9) rfl dX12_begins_10 ?_
  refine lv_aload_n hx hb dX12_begins_13 rfl (lv_at hl 0 rfl) ?_
  refine va_get (D := D) hx hb hts inlX12 hown hK hP 55 (jc_55 cI cL ad σ τ) rfl 55 (by decide) (hts _ kw_49_7) (fun _ h9 => h9) rfl dX12_begins_14 ?_
  refine jtopr h55_55 ?_
  refine lv_iload_n hx hb dX12_begins_17 rfl (lv_at hl 1 rfl) ?_
  refine jast hx hb hK hP hJ hA hS (jc_85 cI cL ad σ τ) (ja_85 cI cL ad σ τ _ _) (jin jz_1 (by omega) (by omega)) dX12_begins_18 (fun σ1 H locs eσ1 hP hS => ?_)
  have eσ1 : σ1 = jup σ 85 1 40 := eσ1
  refine lv_aload_n hx hb dX12_begins_19 rfl (lv_at hl 0 rfl) ?_
  refine lv_dup hx hb dX12_begins_20 rfl ?_
  refine va_get (D := D) hx hb hts inlX12 hown hK hP 55 (jc_55 cI cL ad σ1 τ) rfl 55 (by decide) (hts _ kw_49_7) (fun _ h9 => h9) rfl dX12_begins_21 ?_
  have m2 : σ1 55 55 = 1 := ((congrFun (jnp 55 eσ1 (by decide)) 55).trans h55_55)
  refine jtopr m2 ?_
  refine lv_iconst (v := 1) hx hb dX12_begins_24 (by decide) ?_
  refine lv_iadd hx hb dX12_begins_25 ?_
  refine jtopr (y := 2) (by decide) ?_
  refine jput (ty := .int) hx hb hts inlX12 tyX12 tyX12_ok nmX12 hown hK hP hJ hA hS (jc_55 cI cL ad σ1 τ) rfl (k := 55) (by decide) (Nat.le_of_ble_eq_true rfl) (jp_55_55 cI cL ad σ1 τ 2) (hts _ kw_49_7) (fun _ h9 => h9) rfl (by decide +kernel) rfl rfl dX12_begins_26 (fun σ3 H locs eσ3 hP hS => ?_)
  have m4 : σ3 55 55 = 2 := (jsp eσ3)
  have m5 : σ3 85 1 = 40 := ((congrFun (jnp 85 eσ3 (by decide)) 1).trans (jsp eσ1))
  exact hret σ3 τ _ _ _ _ ⟨rfl, (fun i hi => ((jnp i eσ3 (imp_345 i hi)).trans (jnp i eσ1 (imp_346 i hi)))), (fun i hi => ((jkp i eσ3 (imp_164 i hi)).trans (congrFun (jnp 55 eσ1 (by decide)) i))), (fun i hi => ((congrFun (jnp 85 eσ3 (by decide)) i).trans (jkp i eσ1 (imp_42 i hi)))), m4, m5, trivial⟩ hP hS dX12_begins_29
set_option maxHeartbeats 4000000 in
set_option maxRecDepth 100000 in
theorem c_X12_begins_10_2 (l : Launch) (D : va_G) (cI cL : ClassId) (ad zz : Nat → Nat) (hJ : jD ad) (σ : Nat → Nat → Int32) (τ : Nat → Nat → Int64) (h55_55 : σ 55 55 = 2) : jMv l yX12_begins cX12_begins 2 none ({ frames := 0, cells := 0, slots := 0, locals := 0 }) D cI cL ad zz [.ref (ad 55), .int 10] σ τ (fun σ' τ' => τ = τ' ∧ (∀ i : Nat, (i < 55 ∨ 55 < i) ∧ (i < 85 ∨ 85 < i) → σ' i = σ i) ∧ (∀ k : Nat, (k < 55 ∨ 55 < k) → σ' 55 k = σ 55 k) ∧ (∀ k : Nat, (k < 2 ∨ 2 < k) → σ' 85 k = σ 85 k) ∧ (σ' 55 55 = 3) ∧ (σ' 85 2 = 10) ∧ True) := by
  refine jMv.of hJ (by decide +kernel) rfl (Nat.le_of_ble_eq_true rfl) ?_
  intro p e s m args below meth c Q ls hC hret hl hP
  obtain ⟨hx, hb, hr, hml, hown, hts, hK, -, hlocks, hZ⟩ := hC
  have hown : s.vm.findClass RX12 = some m.cls := hown
  have hS : va_S (jA ad) s.heap s.heap [] := va_S.rf
  have hA : ∀ q, jA ad q → jA ad q := fun _ h => h
  have hl : lv_has ls 2 [(0, .ref (ad 55)), (1, .int 10)] := hl
  refine lv_aload_n hx hb dX12_begins_0 rfl (lv_at hl 0 rfl) ?_
  refine va_get (D := D) hx hb hts inlX12 hown hK hP 55 (jc_55 cI cL ad σ τ) rfl 55 (by decide) (hts _ kw_49_7) (fun _ h9 => h9) rfl dX12_begins_1 ?_
  refine jtopr h55_55 ?_
  refine lv_bipush (v := 24) hx hb dX12_begins_4 (by decide) ?_
  refine lv_icmp_ge (tgt := 19) hx hb dX12_begins_6 (by decide) (fun c => absurd c (by decide)) (fun _ => ?_)
  refine lv_aload_n hx hb dX12_begins_9 rfl (lv_at hl 0 rfl) ?_
  refine va_get (D := D) hx hb hts inlX12 hown hK hP 55 (jc_55 cI cL ad σ τ) rfl 54 (by decide) (hts _ kw_8_10) (fun _ h9 => h9) rfl dX12_begins_10 ?_
  refine lv_aload_n hx hb dX12_begins_13 rfl (lv_at hl 0 rfl) ?_
  refine va_get (D := D) hx hb hts inlX12 hown hK hP 55 (jc_55 cI cL ad σ τ) rfl 55 (by decide) (hts _ kw_49_7) (fun _ h9 => h9) rfl dX12_begins_14 ?_
  refine jtopr h55_55 ?_
  refine lv_iload_n hx hb dX12_begins_17 rfl (lv_at hl 1 rfl) ?_
  refine jast hx hb hK hP hJ hA hS (jc_85 cI cL ad σ τ) (ja_85 cI cL ad σ τ _ _) (jin jz_2 (by omega) (by omega)) dX12_begins_18 (fun σ1 H locs eσ1 hP hS => ?_)
  have eσ1 : σ1 = jup σ 85 2 10 := eσ1
  refine lv_aload_n hx hb dX12_begins_19 rfl (lv_at hl 0 rfl) ?_
  refine lv_dup hx hb dX12_begins_20 rfl ?_
  refine va_get (D := D) hx hb hts inlX12 hown hK hP 55 (jc_55 cI cL ad σ1 τ) rfl 55 (by decide) (hts _ kw_49_7) (fun _ h9 => h9) rfl dX12_begins_21 ?_
  have m2 : σ1 55 55 = 2 := ((congrFun (jnp 55 eσ1 (by decide)) 55).trans h55_55)
  refine jtopr m2 ?_
  refine lv_iconst (v := 1) hx hb dX12_begins_24 (by decide) ?_
  refine lv_iadd hx hb dX12_begins_25 ?_
  refine jtopr (y := 3) (by decide) ?_
  refine jput (ty := .int) hx hb hts inlX12 tyX12 tyX12_ok nmX12 hown hK hP hJ hA hS (jc_55 cI cL ad σ1 τ) rfl (k := 55) (by decide) (Nat.le_of_ble_eq_true rfl) (jp_55_55 cI cL ad σ1 τ 3) (hts _ kw_49_7) (fun _ h9 => h9) rfl (by decide +kernel) rfl rfl dX12_begins_26 (fun σ3 H locs eσ3 hP hS => ?_)
  have m4 : σ3 55 55 = 3 := (jsp eσ3)
  have m5 : σ3 85 2 = 10 := ((congrFun (jnp 85 eσ3 (by decide)) 2).trans (jsp eσ1))
  exact hret σ3 τ _ _ _ _ ⟨rfl, (fun i hi => ((jnp i eσ3 (imp_345 i hi)).trans (jnp i eσ1 (imp_346 i hi)))), (fun i hi => ((jkp i eσ3 (imp_164 i hi)).trans (congrFun (jnp 55 eσ1 (by decide)) i))), (fun i hi => ((congrFun (jnp 85 eσ3 (by decide)) i).trans (jkp i eσ1 (imp_7 i hi)))), m4, m5, trivial⟩ hP hS dX12_begins_29
set_option maxHeartbeats 4000000 in
set_option maxRecDepth 100000 in
theorem c_X12_putsAs_3_3_3 (l : Launch) (D : va_G) (cI cL : ClassId) (ad zz : Nat → Nat) (hJ : jD ad) (σ : Nat → Nat → Int32) (τ : Nat → Nat → Int64) (a2 : Int32) (A2 : Int) (t2 : a2.toInt = A2) (h55_55 : σ 55 55 = 3) (hp0 : (σ 55 56).toInt = 3) : jM l yX12_putsAs cX12_putsAs 3 (some .int) ({ frames := 1, cells := 0, slots := 0, locals := 21 }) D cI cL ad zz [.ref (ad 55), .int 3, .int a2] σ τ (fun r σ' τ' => τ = τ' ∧ (∀ i : Nat, (i < 55 ∨ 55 < i) ∧ (i < 85 ∨ 85 < i) → σ' i = σ i) ∧ (∀ k : Nat, (k < 55 ∨ 55 < k) → σ' 55 k = σ 55 k) ∧ (∀ k : Nat, (k < 3 ∨ 3 < k) → σ' 85 k = σ 85 k) ∧ (σ' 55 55 = 4) ∧ (σ' 85 3 = 1) ∧ ((r = (a2 + (σ 55 57)) ∧ True))) := by
  refine jM.of hJ (by decide +kernel) (nt := .int) rfl (Nat.le_of_ble_eq_true rfl) ?_
  intro p e s m args below meth c Q ls hC hret hl hP
  obtain ⟨hx, hb, hr, hml, hown, hts, hK, -, hlocks, hZ⟩ := hC
  have hown : s.vm.findClass RX12 = some m.cls := hown
  have hS : va_S (jA ad) s.heap s.heap [] := va_S.rf
  have hA : ∀ q, jA ad q → jA ad q := fun _ h => h
  have hl : lv_has ls 3 [(0, .ref (ad 55)), (1, .int 3), (2, .int a2)] := hl
  have g2 := jrg t2
  refine lv_iload_n hx hb dX12_putsAs_0 rfl (lv_at hl 1 rfl) ?_
  refine lv_iconst (v := 4) hx hb dX12_putsAs_1 (by decide) ?_
  refine lv_icmp_ne (tgt := 20) hx hb dX12_putsAs_2 (by decide) (fun _ => ?_) (fun c => absurd c (by decide))
  refine lv_iload_n hx hb dX12_putsAs_20 rfl (lv_at hl 1 rfl) ?_
  refine lv_iconst (v := 1) hx hb dX12_putsAs_21 (by decide) ?_
  refine lv_icmp_ne (tgt := 40) hx hb dX12_putsAs_22 (by decide) (fun _ => ?_) (fun c => absurd c (by decide))
  refine lv_aload_n hx hb dX12_putsAs_40 rfl (lv_at hl 0 rfl) ?_
  refine lv_iconst (v := 1) hx hb dX12_putsAs_41 (by decide) ?_
  refine jcallVv (As := [.int 1]) (rest := []) ⟨hx, hb, hml, hown, hts⟩ hK hP hA hS hZ (c_X12_begins_1_3 l D cI cL ad zz hJ σ τ h55_55) cw_RX12_379 (jc_55 cI cL ad σ τ) rfl ⟨Nat.le_of_ble_eq_true rfl, Nat.le_of_ble_eq_true rfl⟩ rfl rfl rfl hl.1 rfl (Nat.le_of_ble_eq_true rfl) dX12_putsAs_42 ⟨Nat.zero_le _, Nat.zero_le _⟩ (fun σ1 τ1 H locs h1 hP hS => ?_)
  obtain ⟨rfl, f3, f4, f5, m6, m7, h1⟩ := h1
  refine lv_iload_n hx hb dX12_putsAs_45 rfl (lv_at hl 2 rfl) ?_
  refine lv_aload_n hx hb dX12_putsAs_46 rfl (lv_at hl 0 rfl) ?_
  refine va_get (D := D) hx hb hts inlX12 hown hK hP 55 (jc_55 cI cL ad σ1 τ) rfl 57 (by decide) (hts _ kw_49_9) (fun _ h9 => h9) rfl dX12_putsAs_47 ?_
  have m8 : σ1 55 57 = (σ 55 57) := (f4 57 (by decide))
  refine jtopr m8 ?_
  have g9 := jrg (rfl : (σ 55 57).toInt = (σ 55 57).toInt)
  refine lv_iadd hx hb dX12_putsAs_50 ?_
  refine lv_topi (fun x10 ex10 => ?_)
  have gx10 := jrg (rfl : x10.toInt = x10.toInt)
  exact hret x10 σ1 τ _ _ _ _ rfl ⟨rfl, (fun i hi => (f3 i hi)), (fun i hi => (f4 i hi)), (fun i hi => (f5 i hi)), m6, m7, ⟨(by rw [ex10]), trivial⟩⟩ hP hS dX12_putsAs_51
set_option maxHeartbeats 4000000 in
set_option maxRecDepth 100000 in
theorem c_X12_holdsAs_3_0_2 (l : Launch) (D : va_G) (cI cL : ClassId) (ad zz : Nat → Nat) (hJ : jD ad) (σ : Nat → Nat → Int32) (τ : Nat → Nat → Int64) (a2 : Int32) (A2 : Int) (t2 : a2.toInt = A2) (h55_55 : σ 55 55 = 2) (hp0 : (σ 55 56).toInt = 3) : jM l yX12_holdsAs cX12_holdsAs 4 (some .int) ({ frames := 2, cells := 0, slots := 0, locals := 43 }) D cI cL ad zz [.ref (ad 55), .int 0, .int a2] σ τ (fun r σ' τ' => τ = τ' ∧ (∀ i : Nat, (i < 55 ∨ 55 < i) ∧ (i < 85 ∨ 85 < i) → σ' i = σ i) ∧ (∀ k : Nat, (k < 55 ∨ 55 < k) → σ' 55 k = σ 55 k) ∧ (∀ k : Nat, (k < 2 ∨ 2 < k) ∧ (k < 3 ∨ 3 < k) → σ' 85 k = σ 85 k) ∧ (σ' 55 55 = 4) ∧ (σ' 85 2 = 10) ∧ (σ' 85 3 = 1) ∧ ((r = ((a2 + (σ 55 57)) * 2) ∧ True))) := by
  refine jM.of hJ (by decide +kernel) (nt := .int) rfl (Nat.le_of_ble_eq_true rfl) ?_
  intro p e s m args below meth c Q ls hC hret hl hP
  obtain ⟨hx, hb, hr, hml, hown, hts, hK, -, hlocks, hZ⟩ := hC
  have hown : s.vm.findClass RX12 = some m.cls := hown
  have hS : va_S (jA ad) s.heap s.heap [] := va_S.rf
  have hA : ∀ q, jA ad q → jA ad q := fun _ h => h
  have hl : lv_has ls 4 [(0, .ref (ad 55)), (1, .int 0), (2, .int a2)] := hl
  have g2 := jrg t2
  refine lv_iload_n hx hb dX12_holdsAs_0 rfl (lv_at hl 1 rfl) ?_
  refine lv_iconst (v := 3) hx hb dX12_holdsAs_1 (by decide) ?_
  refine lv_icmp_eq (tgt := 10) hx hb dX12_holdsAs_2 (by decide) (fun c => absurd c (by decide)) (fun _ => ?_)
  refine lv_iload_n hx hb dX12_holdsAs_5 rfl (lv_at hl 1 rfl) ?_
  refine lv_iconst (v := 5) hx hb dX12_holdsAs_6 (by decide) ?_
  refine lv_icmp_ne (tgt := 24) hx hb dX12_holdsAs_7 (by decide) (fun _ => ?_) (fun c => absurd c (by decide))
  refine lv_iload_n hx hb dX12_holdsAs_24 rfl (lv_at hl 1 rfl) ?_
  refine lv_bipush (v := 6) hx hb dX12_holdsAs_25 (by decide) ?_
  refine lv_icmp_ne (tgt := 55) hx hb dX12_holdsAs_27 (by decide) (fun _ => ?_) (fun c => absurd c (by decide))
  refine lv_aload_n hx hb dX12_holdsAs_55 rfl (lv_at hl 0 rfl) ?_
  refine lv_bipush (v := 10) hx hb dX12_holdsAs_56 (by decide) ?_
  refine jcallVv (As := [.int 10]) (rest := []) ⟨hx, hb, hml, hown, hts⟩ hK hP hA hS hZ (c_X12_begins_10_2 l D cI cL ad zz hJ σ τ h55_55) cw_RX12_379 (jc_55 cI cL ad σ τ) rfl ⟨Nat.le_of_ble_eq_true rfl, Nat.le_of_ble_eq_true rfl⟩ rfl rfl rfl hl.1 rfl (Nat.le_of_ble_eq_true rfl) dX12_holdsAs_58 ⟨Nat.zero_le _, Nat.zero_le _⟩ (fun σ1 τ1 H locs h1 hP hS => ?_)
  obtain ⟨rfl, f3, f4, f5, m6, m7, h1⟩ := h1
  refine lv_aload_n hx hb dX12_holdsAs_61 rfl (lv_at hl 0 rfl) ?_
  refine lv_aload_n hx hb dX12_holdsAs_62 rfl (lv_at hl 0 rfl) ?_
  refine va_get (D := D) hx hb hts inlX12 hown hK hP 55 (jc_55 cI cL ad σ1 τ) rfl 56 (by decide) (hts _ kw_49_8) (fun _ h9 => h9) rfl dX12_holdsAs_63 ?_
  have m8 : σ1 55 56 = (σ 55 56) := (f4 56 (by decide))
  refine jtopr m8 ?_
  refine jtopr (jsame (rfl : (σ 55 56).toInt = (σ 55 56).toInt) jz_3 (by omega)) ?_
  refine lv_iload_n hx hb dX12_holdsAs_66 rfl (lv_at hl 2 rfl) ?_
  have z9 : (σ1 55 56).toInt = (σ 55 56).toInt := (congrArg Int32.toInt (show σ1 55 56 = (σ 55 56) from m8))
  refine jcallV (As := [.int 3, .int a2]) (rest := []) ⟨hx, hb, hml, hown, hts⟩ hK hP hA hS hZ (c_X12_putsAs_3_3_3 l D cI cL ad zz hJ σ1 τ a2 (A2) t2 m6 (by omega)) cw_RX12_382 (jc_55 cI cL ad σ1 τ) rfl ⟨Nat.le_of_ble_eq_true rfl, Nat.le_of_ble_eq_true rfl⟩ rfl rfl rfl hl.1 rfl (Nat.le_of_ble_eq_true rfl) dX12_holdsAs_67 ⟨Nat.zero_le _, Nat.zero_le _⟩ (fun r11 σ10 τ10 H locs h10 hP hS => ?_)
  obtain ⟨rfl, f12, f13, f14, m15, m16, h10⟩ := h10
  have h17 := h10
  obtain ⟨q19, k18⟩ := h17
  have q19 := q19.symm
  subst q19
  refine lv_iconst (v := 2) hx hb dX12_holdsAs_70 (by decide) ?_
  have g20 := jrg (rfl : (a2 + (σ1 55 57)).toInt = (a2 + (σ1 55 57)).toInt)
  refine lv_imul hx hb dX12_holdsAs_71 ?_
  refine lv_topi (fun x21 ex21 => ?_)
  have gx21 := jrg (rfl : x21.toInt = x21.toInt)
  have m22 : σ10 85 2 = 10 := ((f14 2 (by decide)).trans m7)
  exact hret x21 σ10 τ _ _ _ _ rfl ⟨rfl, (fun i hi => ((f12 i hi).trans (f3 i hi))), (fun i hi => ((f13 i hi).trans (f4 i hi))), (fun i hi => ((f14 i (imp_307 i hi)).trans (f5 i (imp_19 i hi)))), m15, m22, m16, ⟨(by rw [ex21, (show σ1 55 57 = σ 55 57 from (f4 57 (by decide)))]), trivial⟩⟩ hP hS dX12_holdsAs_72
set_option maxHeartbeats 4000000 in
set_option maxRecDepth 100000 in
theorem c_X12_holdsAs_3_3_1 (l : Launch) (D : va_G) (cI cL : ClassId) (ad zz : Nat → Nat) (hJ : jD ad) (σ : Nat → Nat → Int32) (τ : Nat → Nat → Int64) (a2 : Int32) (A2 : Int) (t2 : a2.toInt = A2) (h55_55 : σ 55 55 = 1) (hp0 : (σ 55 56).toInt = 3) : jM l yX12_holdsAs cX12_holdsAs 4 (some .int) ({ frames := 3, cells := 0, slots := 0, locals := 66 }) D cI cL ad zz [.ref (ad 55), .int 3, .int a2] σ τ (fun r σ' τ' => τ = τ' ∧ (∀ i : Nat, (i < 55 ∨ 55 < i) ∧ (i < 85 ∨ 85 < i) → σ' i = σ i) ∧ (∀ k : Nat, (k < 55 ∨ 55 < k) → σ' 55 k = σ 55 k) ∧ (∀ k : Nat, (k < 1 ∨ 1 < k) ∧ (k < 2 ∨ 2 < k) ∧ (k < 3 ∨ 3 < k) → σ' 85 k = σ 85 k) ∧ (σ' 55 55 = 4) ∧ (σ' 85 1 = 40) ∧ (σ' 85 2 = 10) ∧ (σ' 85 3 = 1) ∧ ((r = (-((a2 + (σ 55 57)) * 2)) ∧ True))) := by
  refine jM.of hJ (by decide +kernel) (nt := .int) rfl (Nat.le_of_ble_eq_true rfl) ?_
  intro p e s m args below meth c Q ls hC hret hl hP
  obtain ⟨hx, hb, hr, hml, hown, hts, hK, -, hlocks, hZ⟩ := hC
  have hown : s.vm.findClass RX12 = some m.cls := hown
  have hS : va_S (jA ad) s.heap s.heap [] := va_S.rf
  have hA : ∀ q, jA ad q → jA ad q := fun _ h => h
  have hl : lv_has ls 4 [(0, .ref (ad 55)), (1, .int 3), (2, .int a2)] := hl
  have g2 := jrg t2
  refine lv_iload_n hx hb dX12_holdsAs_0 rfl (lv_at hl 1 rfl) ?_
  refine lv_iconst (v := 3) hx hb dX12_holdsAs_1 (by decide) ?_
  refine lv_icmp_eq (tgt := 10) hx hb dX12_holdsAs_2 (by decide) (fun _ => ?_) (fun c => absurd (by decide) c)
  refine lv_aload_n hx hb dX12_holdsAs_10 rfl (lv_at hl 0 rfl) ?_
  refine lv_bipush (v := 40) hx hb dX12_holdsAs_11 (by decide) ?_
  refine jcallVv (As := [.int 40]) (rest := []) ⟨hx, hb, hml, hown, hts⟩ hK hP hA hS hZ (c_X12_begins_40_1 l D cI cL ad zz hJ σ τ h55_55) cw_RX12_379 (jc_55 cI cL ad σ τ) rfl ⟨Nat.le_of_ble_eq_true rfl, Nat.le_of_ble_eq_true rfl⟩ rfl rfl rfl hl.1 rfl (Nat.le_of_ble_eq_true rfl) dX12_holdsAs_13 ⟨Nat.zero_le _, Nat.zero_le _⟩ (fun σ1 τ1 H locs h1 hP hS => ?_)
  obtain ⟨rfl, f3, f4, f5, m6, m7, h1⟩ := h1
  refine lv_aload_n hx hb dX12_holdsAs_16 rfl (lv_at hl 0 rfl) ?_
  refine lv_iconst (v := 0) hx hb dX12_holdsAs_17 (by decide) ?_
  refine lv_iload_n hx hb dX12_holdsAs_18 rfl (lv_at hl 2 rfl) ?_
  have z8 : (σ1 55 56).toInt = (σ 55 56).toInt := (congrArg Int32.toInt (show σ1 55 56 = (σ 55 56) from (f4 56 (by decide))))
  refine jcallV (As := [.int 0, .int a2]) (rest := []) ⟨hx, hb, hml, hown, hts⟩ hK hP hA hS hZ (c_X12_holdsAs_3_0_2 l D cI cL ad zz hJ σ1 τ a2 (A2) t2 m6 (by omega)) cw_RX12_388 (jc_55 cI cL ad σ1 τ) rfl ⟨Nat.le_of_ble_eq_true rfl, Nat.le_of_ble_eq_true rfl⟩ rfl rfl rfl hl.1 rfl (Nat.le_of_ble_eq_true rfl) dX12_holdsAs_19 ⟨Nat.zero_le _, Nat.zero_le _⟩ (fun r10 σ9 τ9 H locs h9 hP hS => ?_)
  obtain ⟨rfl, f11, f12, f13, m14, m15, m16, h9⟩ := h9
  have h17 := h9
  obtain ⟨q19, k18⟩ := h17
  have q19 := q19.symm
  subst q19
  refine lv_ineg hx hb dX12_holdsAs_22 ?_
  refine lv_topi (fun x20 ex20 => ?_)
  have gx20 := jrg (rfl : x20.toInt = x20.toInt)
  have m21 : σ9 85 1 = 40 := ((f13 1 (by decide)).trans m7)
  exact hret x20 σ9 τ _ _ _ _ rfl ⟨rfl, (fun i hi => ((f11 i hi).trans (f3 i hi))), (fun i hi => ((f12 i hi).trans (f4 i hi))), (fun i hi => ((f13 i (imp_308 i hi)).trans (f5 i (imp_350 i hi)))), m14, m21, m15, m16, ⟨(by rw [ex20, (show σ1 55 57 = σ 55 57 from (f4 57 (by decide)))]), trivial⟩⟩ hP hS dX12_holdsAs_23
set_option maxHeartbeats 4000000 in
set_option maxRecDepth 100000 in
theorem c_X12_begins_30_4 (l : Launch) (D : va_G) (cI cL : ClassId) (ad zz : Nat → Nat) (hJ : jD ad) (σ : Nat → Nat → Int32) (τ : Nat → Nat → Int64) (h55_55 : σ 55 55 = 4) : jMv l yX12_begins cX12_begins 2 none ({ frames := 0, cells := 0, slots := 0, locals := 0 }) D cI cL ad zz [.ref (ad 55), .int 30] σ τ (fun σ' τ' => τ = τ' ∧ (∀ i : Nat, (i < 55 ∨ 55 < i) ∧ (i < 85 ∨ 85 < i) → σ' i = σ i) ∧ (∀ k : Nat, (k < 55 ∨ 55 < k) → σ' 55 k = σ 55 k) ∧ (∀ k : Nat, (k < 4 ∨ 4 < k) → σ' 85 k = σ 85 k) ∧ (σ' 55 55 = 5) ∧ (σ' 85 4 = 30) ∧ True) := by
  refine jMv.of hJ (by decide +kernel) rfl (Nat.le_of_ble_eq_true rfl) ?_
  intro p e s m args below meth c Q ls hC hret hl hP
  obtain ⟨hx, hb, hr, hml, hown, hts, hK, -, hlocks, hZ⟩ := hC
  have hown : s.vm.findClass RX12 = some m.cls := hown
  have hS : va_S (jA ad) s.heap s.heap [] := va_S.rf
  have hA : ∀ q, jA ad q → jA ad q := fun _ h => h
  have hl : lv_has ls 2 [(0, .ref (ad 55)), (1, .int 30)] := hl
  refine lv_aload_n hx hb dX12_begins_0 rfl (lv_at hl 0 rfl) ?_
  refine va_get (D := D) hx hb hts inlX12 hown hK hP 55 (jc_55 cI cL ad σ τ) rfl 55 (by decide) (hts _ kw_49_7) (fun _ h9 => h9) rfl dX12_begins_1 ?_
  refine jtopr h55_55 ?_
  refine lv_bipush (v := 24) hx hb dX12_begins_4 (by decide) ?_
  refine lv_icmp_ge (tgt := 19) hx hb dX12_begins_6 (by decide) (fun c => absurd c (by decide)) (fun _ => ?_)
  refine lv_aload_n hx hb dX12_begins_9 rfl (lv_at hl 0 rfl) ?_
  refine va_get (D := D) hx hb hts inlX12 hown hK hP 55 (jc_55 cI cL ad σ τ) rfl 54 (by decide) (hts _ kw_8_10) (fun _ h9 => h9) rfl dX12_begins_10 ?_
  refine lv_aload_n hx hb dX12_begins_13 rfl (lv_at hl 0 rfl) ?_
  refine va_get (D := D) hx hb hts inlX12 hown hK hP 55 (jc_55 cI cL ad σ τ) rfl 55 (by decide) (hts _ kw_49_7) (fun _ h9 => h9) rfl dX12_begins_14 ?_
  refine jtopr h55_55 ?_
  refine lv_iload_n hx hb dX12_begins_17 rfl (lv_at hl 1 rfl) ?_
  refine jast hx hb hK hP hJ hA hS (jc_85 cI cL ad σ τ) (ja_85 cI cL ad σ τ _ _) (jin jz_4 (by omega) (by omega)) dX12_begins_18 (fun σ1 H locs eσ1 hP hS => ?_)
  have eσ1 : σ1 = jup σ 85 4 30 := eσ1
  refine lv_aload_n hx hb dX12_begins_19 rfl (lv_at hl 0 rfl) ?_
  refine lv_dup hx hb dX12_begins_20 rfl ?_
  refine va_get (D := D) hx hb hts inlX12 hown hK hP 55 (jc_55 cI cL ad σ1 τ) rfl 55 (by decide) (hts _ kw_49_7) (fun _ h9 => h9) rfl dX12_begins_21 ?_
  have m2 : σ1 55 55 = 4 := ((congrFun (jnp 55 eσ1 (by decide)) 55).trans h55_55)
  refine jtopr m2 ?_
  refine lv_iconst (v := 1) hx hb dX12_begins_24 (by decide) ?_
  refine lv_iadd hx hb dX12_begins_25 ?_
  refine jtopr (y := 5) (by decide) ?_
  refine jput (ty := .int) hx hb hts inlX12 tyX12 tyX12_ok nmX12 hown hK hP hJ hA hS (jc_55 cI cL ad σ1 τ) rfl (k := 55) (by decide) (Nat.le_of_ble_eq_true rfl) (jp_55_55 cI cL ad σ1 τ 5) (hts _ kw_49_7) (fun _ h9 => h9) rfl (by decide +kernel) rfl rfl dX12_begins_26 (fun σ3 H locs eσ3 hP hS => ?_)
  have m4 : σ3 55 55 = 5 := (jsp eσ3)
  have m5 : σ3 85 4 = 30 := ((congrFun (jnp 85 eσ3 (by decide)) 4).trans (jsp eσ1))
  exact hret σ3 τ _ _ _ _ ⟨rfl, (fun i hi => ((jnp i eσ3 (imp_345 i hi)).trans (jnp i eσ1 (imp_346 i hi)))), (fun i hi => ((jkp i eσ3 (imp_164 i hi)).trans (congrFun (jnp 55 eσ1 (by decide)) i))), (fun i hi => ((congrFun (jnp 85 eσ3 (by decide)) i).trans (jkp i eσ1 (imp_310 i hi)))), m4, m5, trivial⟩ hP hS dX12_begins_29
set_option maxHeartbeats 4000000 in
set_option maxRecDepth 100000 in
theorem c_X12_begins_11_5 (l : Launch) (D : va_G) (cI cL : ClassId) (ad zz : Nat → Nat) (hJ : jD ad) (σ : Nat → Nat → Int32) (τ : Nat → Nat → Int64) (h55_55 : σ 55 55 = 5) : jMv l yX12_begins cX12_begins 2 none ({ frames := 0, cells := 0, slots := 0, locals := 0 }) D cI cL ad zz [.ref (ad 55), .int 11] σ τ (fun σ' τ' => τ = τ' ∧ (∀ i : Nat, (i < 55 ∨ 55 < i) ∧ (i < 85 ∨ 85 < i) → σ' i = σ i) ∧ (∀ k : Nat, (k < 55 ∨ 55 < k) → σ' 55 k = σ 55 k) ∧ (∀ k : Nat, (k < 5 ∨ 5 < k) → σ' 85 k = σ 85 k) ∧ (σ' 55 55 = 6) ∧ (σ' 85 5 = 11) ∧ True) := by
  refine jMv.of hJ (by decide +kernel) rfl (Nat.le_of_ble_eq_true rfl) ?_
  intro p e s m args below meth c Q ls hC hret hl hP
  obtain ⟨hx, hb, hr, hml, hown, hts, hK, -, hlocks, hZ⟩ := hC
  have hown : s.vm.findClass RX12 = some m.cls := hown
  have hS : va_S (jA ad) s.heap s.heap [] := va_S.rf
  have hA : ∀ q, jA ad q → jA ad q := fun _ h => h
  have hl : lv_has ls 2 [(0, .ref (ad 55)), (1, .int 11)] := hl
  refine lv_aload_n hx hb dX12_begins_0 rfl (lv_at hl 0 rfl) ?_
  refine va_get (D := D) hx hb hts inlX12 hown hK hP 55 (jc_55 cI cL ad σ τ) rfl 55 (by decide) (hts _ kw_49_7) (fun _ h9 => h9) rfl dX12_begins_1 ?_
  refine jtopr h55_55 ?_
  refine lv_bipush (v := 24) hx hb dX12_begins_4 (by decide) ?_
  refine lv_icmp_ge (tgt := 19) hx hb dX12_begins_6 (by decide) (fun c => absurd c (by decide)) (fun _ => ?_)
  refine lv_aload_n hx hb dX12_begins_9 rfl (lv_at hl 0 rfl) ?_
  refine va_get (D := D) hx hb hts inlX12 hown hK hP 55 (jc_55 cI cL ad σ τ) rfl 54 (by decide) (hts _ kw_8_10) (fun _ h9 => h9) rfl dX12_begins_10 ?_
  refine lv_aload_n hx hb dX12_begins_13 rfl (lv_at hl 0 rfl) ?_
  refine va_get (D := D) hx hb hts inlX12 hown hK hP 55 (jc_55 cI cL ad σ τ) rfl 55 (by decide) (hts _ kw_49_7) (fun _ h9 => h9) rfl dX12_begins_14 ?_
  refine jtopr h55_55 ?_
  refine lv_iload_n hx hb dX12_begins_17 rfl (lv_at hl 1 rfl) ?_
  refine jast hx hb hK hP hJ hA hS (jc_85 cI cL ad σ τ) (ja_85 cI cL ad σ τ _ _) (jin jz_5 (by omega) (by omega)) dX12_begins_18 (fun σ1 H locs eσ1 hP hS => ?_)
  have eσ1 : σ1 = jup σ 85 5 11 := eσ1
  refine lv_aload_n hx hb dX12_begins_19 rfl (lv_at hl 0 rfl) ?_
  refine lv_dup hx hb dX12_begins_20 rfl ?_
  refine va_get (D := D) hx hb hts inlX12 hown hK hP 55 (jc_55 cI cL ad σ1 τ) rfl 55 (by decide) (hts _ kw_49_7) (fun _ h9 => h9) rfl dX12_begins_21 ?_
  have m2 : σ1 55 55 = 5 := ((congrFun (jnp 55 eσ1 (by decide)) 55).trans h55_55)
  refine jtopr m2 ?_
  refine lv_iconst (v := 1) hx hb dX12_begins_24 (by decide) ?_
  refine lv_iadd hx hb dX12_begins_25 ?_
  refine jtopr (y := 6) (by decide) ?_
  refine jput (ty := .int) hx hb hts inlX12 tyX12 tyX12_ok nmX12 hown hK hP hJ hA hS (jc_55 cI cL ad σ1 τ) rfl (k := 55) (by decide) (Nat.le_of_ble_eq_true rfl) (jp_55_55 cI cL ad σ1 τ 6) (hts _ kw_49_7) (fun _ h9 => h9) rfl (by decide +kernel) rfl rfl dX12_begins_26 (fun σ3 H locs eσ3 hP hS => ?_)
  have m4 : σ3 55 55 = 6 := (jsp eσ3)
  have m5 : σ3 85 5 = 11 := ((congrFun (jnp 85 eσ3 (by decide)) 5).trans (jsp eσ1))
  exact hret σ3 τ _ _ _ _ ⟨rfl, (fun i hi => ((jnp i eσ3 (imp_345 i hi)).trans (jnp i eσ1 (imp_346 i hi)))), (fun i hi => ((jkp i eσ3 (imp_164 i hi)).trans (congrFun (jnp 55 eσ1 (by decide)) i))), (fun i hi => ((congrFun (jnp 85 eσ3 (by decide)) i).trans (jkp i eσ1 (imp_158 i hi)))), m4, m5, trivial⟩ hP hS dX12_begins_29
set_option maxHeartbeats 4000000 in
set_option maxRecDepth 100000 in
theorem c_X12_givesAs_3_0_5_x1 (l : Launch) (D : va_G) (cI cL : ClassId) (ad zz : Nat → Nat) (hJ : jD ad) (σ : Nat → Nat → Int32) (τ : Nat → Nat → Int64) (h55_55 : σ 55 55 = 5) (hp0 : (σ 55 56).toInt = 3) : jM l yX12_givesAs cX12_givesAs 4 (some .int) ({ frames := 1, cells := 0, slots := 0, locals := 21 }) D cI cL ad zz [.ref (ad 55), .int 0, .int 1] σ τ (fun r σ' τ' => τ = τ' ∧ (∀ i : Nat, (i < 55 ∨ 55 < i) ∧ (i < 85 ∨ 85 < i) → σ' i = σ i) ∧ (∀ k : Nat, (k < 55 ∨ 55 < k) → σ' 55 k = σ 55 k) ∧ (∀ k : Nat, (k < 5 ∨ 5 < k) → σ' 85 k = σ 85 k) ∧ (σ' 55 55 = 6) ∧ (σ' 85 5 = 11) ∧ ((r = (1 ^^^ (σ 55 57)) ∧ True))) := by
  refine jM.of hJ (by decide +kernel) (nt := .int) rfl (Nat.le_of_ble_eq_true rfl) ?_
  intro p e s m args below meth c Q ls hC hret hl hP
  obtain ⟨hx, hb, hr, hml, hown, hts, hK, -, hlocks, hZ⟩ := hC
  have hown : s.vm.findClass RX12 = some m.cls := hown
  have hS : va_S (jA ad) s.heap s.heap [] := va_S.rf
  have hA : ∀ q, jA ad q → jA ad q := fun _ h => h
  have hl : lv_has ls 4 [(0, .ref (ad 55)), (1, .int 0), (2, .int 1)] := hl
  refine lv_iload_n hx hb dX12_givesAs_0 rfl (lv_at hl 1 rfl) ?_
  refine lv_iconst (v := 5) hx hb dX12_givesAs_1 (by decide) ?_
  refine lv_icmp_ne (tgt := 30) hx hb dX12_givesAs_2 (by decide) (fun _ => ?_) (fun c => absurd c (by decide))
  refine lv_iload_n hx hb dX12_givesAs_30 rfl (lv_at hl 1 rfl) ?_
  refine lv_iconst (v := 2) hx hb dX12_givesAs_31 (by decide) ?_
  refine lv_icmp_eq (tgt := 40) hx hb dX12_givesAs_32 (by decide) (fun c => absurd c (by decide)) (fun _ => ?_)
  refine lv_iload_n hx hb dX12_givesAs_35 rfl (lv_at hl 1 rfl) ?_
  refine lv_iconst (v := 3) hx hb dX12_givesAs_36 (by decide) ?_
  refine lv_icmp_ne (tgt := 55) hx hb dX12_givesAs_37 (by decide) (fun _ => ?_) (fun c => absurd c (by decide))
  refine lv_aload_n hx hb dX12_givesAs_55 rfl (lv_at hl 0 rfl) ?_
  refine lv_bipush (v := 11) hx hb dX12_givesAs_56 (by decide) ?_
  refine jcallVv (As := [.int 11]) (rest := []) ⟨hx, hb, hml, hown, hts⟩ hK hP hA hS hZ (c_X12_begins_11_5 l D cI cL ad zz hJ σ τ h55_55) cw_RX12_379 (jc_55 cI cL ad σ τ) rfl ⟨Nat.le_of_ble_eq_true rfl, Nat.le_of_ble_eq_true rfl⟩ rfl rfl rfl hl.1 rfl (Nat.le_of_ble_eq_true rfl) dX12_givesAs_58 ⟨Nat.zero_le _, Nat.zero_le _⟩ (fun σ1 τ1 H locs h1 hP hS => ?_)
  obtain ⟨rfl, f3, f4, f5, m6, m7, h1⟩ := h1
  refine lv_iload_n hx hb dX12_givesAs_61 rfl (lv_at hl 2 rfl) ?_
  refine lv_aload_n hx hb dX12_givesAs_62 rfl (lv_at hl 0 rfl) ?_
  refine va_get (D := D) hx hb hts inlX12 hown hK hP 55 (jc_55 cI cL ad σ1 τ) rfl 57 (by decide) (hts _ kw_49_9) (fun _ h9 => h9) rfl dX12_givesAs_63 ?_
  have m8 : σ1 55 57 = (σ 55 57) := (f4 57 (by decide))
  refine jtopr m8 ?_
  refine lv_ixor hx hb dX12_givesAs_66 ?_
  refine lv_topi (fun x9 ex9 => ?_)
  have gx9 := jrg (rfl : x9.toInt = x9.toInt)
  exact hret x9 σ1 τ _ _ _ _ rfl ⟨rfl, (fun i hi => (f3 i hi)), (fun i hi => (f4 i hi)), (fun i hi => (f5 i hi)), m6, m7, ⟨(by rw [ex9]), trivial⟩⟩ hP hS dX12_givesAs_67
set_option maxHeartbeats 4000000 in
set_option maxRecDepth 100000 in
theorem c_X12_givesAs_3_3_4_x1 (l : Launch) (D : va_G) (cI cL : ClassId) (ad zz : Nat → Nat) (hJ : jD ad) (σ : Nat → Nat → Int32) (τ : Nat → Nat → Int64) (h55_55 : σ 55 55 = 4) (hp0 : (σ 55 56).toInt = 3) : jM l yX12_givesAs cX12_givesAs 4 (some .int) ({ frames := 2, cells := 0, slots := 0, locals := 44 }) D cI cL ad zz [.ref (ad 55), .int 3, .int 1] σ τ (fun r σ' τ' => τ = τ' ∧ (∀ i : Nat, (i < 55 ∨ 55 < i) ∧ (i < 85 ∨ 85 < i) → σ' i = σ i) ∧ (∀ k : Nat, (k < 55 ∨ 55 < k) → σ' 55 k = σ 55 k) ∧ (∀ k : Nat, (k < 4 ∨ 4 < k) ∧ (k < 5 ∨ 5 < k) → σ' 85 k = σ 85 k) ∧ (σ' 55 55 = 6) ∧ (σ' 85 4 = 30) ∧ (σ' 85 5 = 11) ∧ ((r = ((1 ^^^ (σ 55 57)) * 3) ∧ True))) := by
  refine jM.of hJ (by decide +kernel) (nt := .int) rfl (Nat.le_of_ble_eq_true rfl) ?_
  intro p e s m args below meth c Q ls hC hret hl hP
  obtain ⟨hx, hb, hr, hml, hown, hts, hK, -, hlocks, hZ⟩ := hC
  have hown : s.vm.findClass RX12 = some m.cls := hown
  have hS : va_S (jA ad) s.heap s.heap [] := va_S.rf
  have hA : ∀ q, jA ad q → jA ad q := fun _ h => h
  have hl : lv_has ls 4 [(0, .ref (ad 55)), (1, .int 3), (2, .int 1)] := hl
  refine lv_iload_n hx hb dX12_givesAs_0 rfl (lv_at hl 1 rfl) ?_
  refine lv_iconst (v := 5) hx hb dX12_givesAs_1 (by decide) ?_
  refine lv_icmp_ne (tgt := 30) hx hb dX12_givesAs_2 (by decide) (fun _ => ?_) (fun c => absurd c (by decide))
  refine lv_iload_n hx hb dX12_givesAs_30 rfl (lv_at hl 1 rfl) ?_
  refine lv_iconst (v := 2) hx hb dX12_givesAs_31 (by decide) ?_
  refine lv_icmp_eq (tgt := 40) hx hb dX12_givesAs_32 (by decide) (fun c => absurd c (by decide)) (fun _ => ?_)
  refine lv_iload_n hx hb dX12_givesAs_35 rfl (lv_at hl 1 rfl) ?_
  refine lv_iconst (v := 3) hx hb dX12_givesAs_36 (by decide) ?_
  refine lv_icmp_ne (tgt := 55) hx hb dX12_givesAs_37 (by decide) (fun c => absurd (by decide) c) (fun _ => ?_)
  refine lv_aload_n hx hb dX12_givesAs_40 rfl (lv_at hl 0 rfl) ?_
  refine lv_bipush (v := 30) hx hb dX12_givesAs_41 (by decide) ?_
  refine jcallVv (As := [.int 30]) (rest := []) ⟨hx, hb, hml, hown, hts⟩ hK hP hA hS hZ (c_X12_begins_30_4 l D cI cL ad zz hJ σ τ h55_55) cw_RX12_379 (jc_55 cI cL ad σ τ) rfl ⟨Nat.le_of_ble_eq_true rfl, Nat.le_of_ble_eq_true rfl⟩ rfl rfl rfl hl.1 rfl (Nat.le_of_ble_eq_true rfl) dX12_givesAs_43 ⟨Nat.zero_le _, Nat.zero_le _⟩ (fun σ1 τ1 H locs h1 hP hS => ?_)
  obtain ⟨rfl, f3, f4, f5, m6, m7, h1⟩ := h1
  refine lv_aload_n hx hb dX12_givesAs_46 rfl (lv_at hl 0 rfl) ?_
  refine lv_iconst (v := 0) hx hb dX12_givesAs_47 (by decide) ?_
  refine lv_iload_n hx hb dX12_givesAs_48 rfl (lv_at hl 2 rfl) ?_
  have z8 : (σ1 55 56).toInt = (σ 55 56).toInt := (congrArg Int32.toInt (show σ1 55 56 = (σ 55 56) from (f4 56 (by decide))))
  refine jcallV (As := [.int 0, .int 1]) (rest := []) ⟨hx, hb, hml, hown, hts⟩ hK hP hA hS hZ (c_X12_givesAs_3_0_5_x1 l D cI cL ad zz hJ σ1 τ m6 (by omega)) cw_RX12_394 (jc_55 cI cL ad σ1 τ) rfl ⟨Nat.le_of_ble_eq_true rfl, Nat.le_of_ble_eq_true rfl⟩ rfl rfl rfl hl.1 rfl (Nat.le_of_ble_eq_true rfl) dX12_givesAs_49 ⟨Nat.zero_le _, Nat.zero_le _⟩ (fun r10 σ9 τ9 H locs h9 hP hS => ?_)
  obtain ⟨rfl, f11, f12, f13, m14, m15, h9⟩ := h9
  have h16 := h9
  obtain ⟨q18, k17⟩ := h16
  have q18 := q18.symm
  subst q18
  refine lv_iconst (v := 3) hx hb dX12_givesAs_52 (by decide) ?_
  have g19 := jrg (rfl : (1 ^^^ (σ1 55 57)).toInt = (1 ^^^ (σ1 55 57)).toInt)
  refine lv_imul hx hb dX12_givesAs_53 ?_
  refine lv_topi (fun x20 ex20 => ?_)
  have gx20 := jrg (rfl : x20.toInt = x20.toInt)
  have m21 : σ9 85 4 = 30 := ((f13 4 (by decide)).trans m7)
  exact hret x20 σ9 τ _ _ _ _ rfl ⟨rfl, (fun i hi => ((f11 i hi).trans (f3 i hi))), (fun i hi => ((f12 i hi).trans (f4 i hi))), (fun i hi => ((f13 i (imp_318 i hi)).trans (f5 i (imp_353 i hi)))), m14, m21, m15, ⟨(by rw [ex20, (show σ1 55 57 = σ 55 57 from (f4 57 (by decide)))]), trivial⟩⟩ hP hS dX12_givesAs_54
set_option maxHeartbeats 4000000 in
set_option maxRecDepth 100000 in
theorem c_X12_tellsAs_3_3_0 (l : Launch) (D : va_G) (cI cL : ClassId) (ad zz : Nat → Nat) (hJ : jD ad) (σ : Nat → Nat → Int32) (τ : Nat → Nat → Int64) (a2 : Int32) (A2 : Int) (t2 : a2.toInt = A2) (h55_55 : σ 55 55 = 0) (hp0 : (σ 55 56).toInt = 3) : jM l yX12_tellsAs cX12_tellsAs 4 (some .int) ({ frames := 4, cells := 0, slots := 0, locals := 89 }) D cI cL ad zz [.ref (ad 55), .int 3, .int a2] σ τ (fun r σ' τ' => τ = τ' ∧ (∀ i : Nat, (i < 55 ∨ 55 < i) ∧ (i < 85 ∨ 85 < i) → σ' i = σ i) ∧ (∀ k : Nat, (k < 55 ∨ 55 < k) → σ' 55 k = σ 55 k) ∧ (∀ k : Nat, (k < 0 ∨ 0 < k) ∧ (k < 1 ∨ 1 < k) ∧ (k < 2 ∨ 2 < k) ∧ (k < 3 ∨ 3 < k) ∧ (k < 4 ∨ 4 < k) ∧ (k < 5 ∨ 5 < k) → σ' 85 k = σ 85 k) ∧ (σ' 55 55 = 6) ∧ (σ' 85 0 = 2) ∧ (σ' 85 1 = 40) ∧ (σ' 85 2 = 10) ∧ (σ' 85 3 = 1) ∧ (σ' 85 4 = 30) ∧ (σ' 85 5 = 11) ∧ ((r = ((-((a2 + (σ 55 57)) * 2)) - ((1 ^^^ (σ 55 57)) * 3)) ∧ True))) := by
  refine jM.of hJ (by decide +kernel) (nt := .int) rfl (Nat.le_of_ble_eq_true rfl) ?_
  intro p e s m args below meth c Q ls hC hret hl hP
  obtain ⟨hx, hb, hr, hml, hown, hts, hK, -, hlocks, hZ⟩ := hC
  have hown : s.vm.findClass RX12 = some m.cls := hown
  have hS : va_S (jA ad) s.heap s.heap [] := va_S.rf
  have hA : ∀ q, jA ad q → jA ad q := fun _ h => h
  have hl : lv_has ls 4 [(0, .ref (ad 55)), (1, .int 3), (2, .int a2)] := hl
  have g2 := jrg t2
  refine lv_iload_n hx hb dX12_tellsAs_0 rfl (lv_at hl 1 rfl) ?_
  refine lv_iconst (v := 4) hx hb dX12_tellsAs_1 (by decide) ?_
  refine lv_icmp_ne (tgt := 20) hx hb dX12_tellsAs_2 (by decide) (fun _ => ?_) (fun c => absurd c (by decide))
  refine lv_aload_n hx hb dX12_tellsAs_20 rfl (lv_at hl 0 rfl) ?_
  refine lv_iconst (v := 2) hx hb dX12_tellsAs_21 (by decide) ?_
  refine jcallVv (As := [.int 2]) (rest := []) ⟨hx, hb, hml, hown, hts⟩ hK hP hA hS hZ (c_X12_begins_2_0 l D cI cL ad zz hJ σ τ h55_55) cw_RX12_379 (jc_55 cI cL ad σ τ) rfl ⟨Nat.le_of_ble_eq_true rfl, Nat.le_of_ble_eq_true rfl⟩ rfl rfl rfl hl.1 rfl (Nat.le_of_ble_eq_true rfl) dX12_tellsAs_22 ⟨Nat.zero_le _, Nat.zero_le _⟩ (fun σ1 τ1 H locs h1 hP hS => ?_)
  obtain ⟨rfl, f3, f4, f5, m6, m7, h1⟩ := h1
  refine lv_aload_n hx hb dX12_tellsAs_25 rfl (lv_at hl 0 rfl) ?_
  refine lv_aload_n hx hb dX12_tellsAs_26 rfl (lv_at hl 0 rfl) ?_
  refine va_get (D := D) hx hb hts inlX12 hown hK hP 55 (jc_55 cI cL ad σ1 τ) rfl 56 (by decide) (hts _ kw_49_8) (fun _ h9 => h9) rfl dX12_tellsAs_27 ?_
  have m8 : σ1 55 56 = (σ 55 56) := (f4 56 (by decide))
  refine jtopr m8 ?_
  refine jtopr (jsame (rfl : (σ 55 56).toInt = (σ 55 56).toInt) jz_3 (by omega)) ?_
  refine lv_iload_n hx hb dX12_tellsAs_30 rfl (lv_at hl 2 rfl) ?_
  have z9 : (σ1 55 56).toInt = (σ 55 56).toInt := (congrArg Int32.toInt (show σ1 55 56 = (σ 55 56) from m8))
  refine jcallV (As := [.int 3, .int a2]) (rest := []) ⟨hx, hb, hml, hown, hts⟩ hK hP hA hS hZ (c_X12_holdsAs_3_3_1 l D cI cL ad zz hJ σ1 τ a2 (A2) t2 m6 (by omega)) cw_RX12_388 (jc_55 cI cL ad σ1 τ) rfl ⟨Nat.le_of_ble_eq_true rfl, Nat.le_of_ble_eq_true rfl⟩ rfl rfl rfl hl.1 rfl (Nat.le_of_ble_eq_true rfl) dX12_tellsAs_31 ⟨Nat.zero_le _, Nat.zero_le _⟩ (fun r11 σ10 τ10 H locs h10 hP hS => ?_)
  obtain ⟨rfl, f12, f13, f14, m15, m16, m17, m18, h10⟩ := h10
  have h19 := h10
  obtain ⟨q21, k20⟩ := h19
  have q21 := q21.symm
  subst q21
  refine lv_istore_n (lv' := [(3, .int (-((a2 + (σ1 55 57)) * 2))), (0, .ref (ad 55)), (1, .int 3), (2, .int a2)]) hx hb dX12_tellsAs_34 rfl hl (by decide) rfl (fun ls hl => ?_)
  refine lv_iload_n hx hb dX12_tellsAs_35 rfl (lv_at hl 0 rfl) ?_
  refine lv_aload_n hx hb dX12_tellsAs_36 rfl (lv_at hl 1 rfl) ?_
  refine lv_aload_n hx hb dX12_tellsAs_37 rfl (lv_at hl 1 rfl) ?_
  refine va_get (D := D) hx hb hts inlX12 hown hK hP 55 (jc_55 cI cL ad σ10 τ) rfl 56 (by decide) (hts _ kw_49_8) (fun _ h9 => h9) rfl dX12_tellsAs_38 ?_
  have m22 : σ10 55 56 = (σ 55 56) := ((f13 56 (by decide)).trans m8)
  refine jtopr m22 ?_
  refine jtopr (jsame (rfl : (σ 55 56).toInt = (σ 55 56).toInt) jz_3 (by omega)) ?_
  refine lv_iconst (v := 1) hx hb dX12_tellsAs_41 (by decide) ?_
  have z23 : (σ10 55 56).toInt = (σ 55 56).toInt := (congrArg Int32.toInt (show σ10 55 56 = (σ 55 56) from m22))
  refine jcallV (As := [.int 3, .int 1]) (rest := [.int (-((a2 + (σ1 55 57)) * 2))]) ⟨hx, hb, hml, hown, hts⟩ hK hP hA hS hZ (c_X12_givesAs_3_3_4_x1 l D cI cL ad zz hJ σ10 τ m15 (by omega)) cw_RX12_394 (jc_55 cI cL ad σ10 τ) rfl ⟨Nat.le_of_ble_eq_true rfl, Nat.le_of_ble_eq_true rfl⟩ rfl rfl rfl hl.1 rfl (Nat.le_of_ble_eq_true rfl) dX12_tellsAs_42 ⟨Nat.zero_le _, Nat.zero_le _⟩ (fun r25 σ24 τ24 H locs h24 hP hS => ?_)
  obtain ⟨rfl, f26, f27, f28, m29, m30, m31, h24⟩ := h24
  have h32 := h24
  obtain ⟨q34, k33⟩ := h32
  have q34 := q34.symm
  subst q34
  have g35 := jrg (rfl : (-((a2 + (σ1 55 57)) * 2)).toInt = (-((a2 + (σ1 55 57)) * 2)).toInt)
  have g36 := jrg (rfl : ((1 ^^^ (σ10 55 57)) * 3).toInt = ((1 ^^^ (σ10 55 57)) * 3).toInt)
  refine lv_isub hx hb dX12_tellsAs_45 ?_
  refine lv_topi (fun x37 ex37 => ?_)
  have gx37 := jrg (rfl : x37.toInt = x37.toInt)
  have m38 : σ24 85 0 = 2 := ((f28 0 (by decide)).trans ((f14 0 (by decide)).trans m7))
  have m39 : σ24 85 1 = 40 := ((f28 1 (by decide)).trans m16)
  have m40 : σ24 85 2 = 10 := ((f28 2 (by decide)).trans m17)
  have m41 : σ24 85 3 = 1 := ((f28 3 (by decide)).trans m18)
  exact hret x37 σ24 τ _ _ _ _ rfl ⟨rfl, (fun i hi => ((f26 i hi).trans ((f12 i hi).trans (f3 i hi)))), (fun i hi => ((f27 i hi).trans ((f13 i hi).trans (f4 i hi)))), (fun i hi => ((f28 i (imp_319 i hi)).trans ((f14 i (imp_320 i hi)).trans (f5 i (imp_354 i hi))))), m29, m38, m39, m40, m41, m30, m31, ⟨(by rw [ex37, (show σ1 55 57 = σ 55 57 from (f4 57 (by decide))), (show σ10 55 57 = σ 55 57 from ((f13 57 (by decide)).trans (f4 57 (by decide))))]), trivial⟩⟩ hP hS dX12_tellsAs_46
set_option maxHeartbeats 4000000 in
set_option maxRecDepth 100000 in
theorem c_X12_begins_50_0 (l : Launch) (D : va_G) (cI cL : ClassId) (ad zz : Nat → Nat) (hJ : jD ad) (σ : Nat → Nat → Int32) (τ : Nat → Nat → Int64) (h55_55 : σ 55 55 = 0) : jMv l yX12_begins cX12_begins 2 none ({ frames := 0, cells := 0, slots := 0, locals := 0 }) D cI cL ad zz [.ref (ad 55), .int 50] σ τ (fun σ' τ' => τ = τ' ∧ (∀ i : Nat, (i < 55 ∨ 55 < i) ∧ (i < 85 ∨ 85 < i) → σ' i = σ i) ∧ (∀ k : Nat, (k < 55 ∨ 55 < k) → σ' 55 k = σ 55 k) ∧ (∀ k : Nat, (k < 0 ∨ 0 < k) → σ' 85 k = σ 85 k) ∧ (σ' 55 55 = 1) ∧ (σ' 85 0 = 50) ∧ True) := by
  refine jMv.of hJ (by decide +kernel) rfl (Nat.le_of_ble_eq_true rfl) ?_
  intro p e s m args below meth c Q ls hC hret hl hP
  obtain ⟨hx, hb, hr, hml, hown, hts, hK, -, hlocks, hZ⟩ := hC
  have hown : s.vm.findClass RX12 = some m.cls := hown
  have hS : va_S (jA ad) s.heap s.heap [] := va_S.rf
  have hA : ∀ q, jA ad q → jA ad q := fun _ h => h
  have hl : lv_has ls 2 [(0, .ref (ad 55)), (1, .int 50)] := hl
  refine lv_aload_n hx hb dX12_begins_0 rfl (lv_at hl 0 rfl) ?_
  refine va_get (D := D) hx hb hts inlX12 hown hK hP 55 (jc_55 cI cL ad σ τ) rfl 55 (by decide) (hts _ kw_49_7) (fun _ h9 => h9) rfl dX12_begins_1 ?_
  refine jtopr h55_55 ?_
  refine lv_bipush (v := 24) hx hb dX12_begins_4 (by decide) ?_
  refine lv_icmp_ge (tgt := 19) hx hb dX12_begins_6 (by decide) (fun c => absurd c (by decide)) (fun _ => ?_)
  refine lv_aload_n hx hb dX12_begins_9 rfl (lv_at hl 0 rfl) ?_
  refine va_get (D := D) hx hb hts inlX12 hown hK hP 55 (jc_55 cI cL ad σ τ) rfl 54 (by decide) (hts _ kw_8_10) (fun _ h9 => h9) rfl dX12_begins_10 ?_
  refine lv_aload_n hx hb dX12_begins_13 rfl (lv_at hl 0 rfl) ?_
  refine va_get (D := D) hx hb hts inlX12 hown hK hP 55 (jc_55 cI cL ad σ τ) rfl 55 (by decide) (hts _ kw_49_7) (fun _ h9 => h9) rfl dX12_begins_14 ?_
  refine jtopr h55_55 ?_
  refine lv_iload_n hx hb dX12_begins_17 rfl (lv_at hl 1 rfl) ?_
  refine jast hx hb hK hP hJ hA hS (jc_85 cI cL ad σ τ) (ja_85 cI cL ad σ τ _ _) (jin jz_0 (by omega) (by omega)) dX12_begins_18 (fun σ1 H locs eσ1 hP hS => ?_)
  have eσ1 : σ1 = jup σ 85 0 50 := eσ1
  refine lv_aload_n hx hb dX12_begins_19 rfl (lv_at hl 0 rfl) ?_
  refine lv_dup hx hb dX12_begins_20 rfl ?_
  refine va_get (D := D) hx hb hts inlX12 hown hK hP 55 (jc_55 cI cL ad σ1 τ) rfl 55 (by decide) (hts _ kw_49_7) (fun _ h9 => h9) rfl dX12_begins_21 ?_
  have m2 : σ1 55 55 = 0 := ((congrFun (jnp 55 eσ1 (by decide)) 55).trans h55_55)
  refine jtopr m2 ?_
  refine lv_iconst (v := 1) hx hb dX12_begins_24 (by decide) ?_
  refine lv_iadd hx hb dX12_begins_25 ?_
  refine jtopr (y := 1) (by decide) ?_
  refine jput (ty := .int) hx hb hts inlX12 tyX12 tyX12_ok nmX12 hown hK hP hJ hA hS (jc_55 cI cL ad σ1 τ) rfl (k := 55) (by decide) (Nat.le_of_ble_eq_true rfl) (jp_55_55 cI cL ad σ1 τ 1) (hts _ kw_49_7) (fun _ h9 => h9) rfl (by decide +kernel) rfl rfl dX12_begins_26 (fun σ3 H locs eσ3 hP hS => ?_)
  have m4 : σ3 55 55 = 1 := (jsp eσ3)
  have m5 : σ3 85 0 = 50 := ((congrFun (jnp 85 eσ3 (by decide)) 0).trans (jsp eσ1))
  exact hret σ3 τ _ _ _ _ ⟨rfl, (fun i hi => ((jnp i eσ3 (imp_345 i hi)).trans (jnp i eσ1 (imp_346 i hi)))), (fun i hi => ((jkp i eσ3 (imp_164 i hi)).trans (congrFun (jnp 55 eσ1 (by decide)) i))), (fun i hi => ((congrFun (jnp 85 eσ3 (by decide)) i).trans (jkp i eσ1 (imp_4 i hi)))), m4, m5, trivial⟩ hP hS dX12_begins_29
set_option maxHeartbeats 4000000 in
set_option maxRecDepth 100000 in
theorem c_X12_putsAs_4_0_2 (l : Launch) (D : va_G) (cI cL : ClassId) (ad zz : Nat → Nat) (hJ : jD ad) (σ : Nat → Nat → Int32) (τ : Nat → Nat → Int64) (a2 : Int32) (A2 : Int) (t2 : a2.toInt = A2) (h55_55 : σ 55 55 = 2) (hp0 : (σ 55 56).toInt = 4) : jM l yX12_putsAs cX12_putsAs 3 (some .int) ({ frames := 1, cells := 0, slots := 0, locals := 21 }) D cI cL ad zz [.ref (ad 55), .int 0, .int a2] σ τ (fun r σ' τ' => τ = τ' ∧ (∀ i : Nat, (i < 55 ∨ 55 < i) ∧ (i < 85 ∨ 85 < i) → σ' i = σ i) ∧ (∀ k : Nat, (k < 55 ∨ 55 < k) → σ' 55 k = σ 55 k) ∧ (∀ k : Nat, (k < 2 ∨ 2 < k) → σ' 85 k = σ 85 k) ∧ (σ' 55 55 = 3) ∧ (σ' 85 2 = 1) ∧ ((r = (a2 + (σ 55 57)) ∧ True))) := by
  refine jM.of hJ (by decide +kernel) (nt := .int) rfl (Nat.le_of_ble_eq_true rfl) ?_
  intro p e s m args below meth c Q ls hC hret hl hP
  obtain ⟨hx, hb, hr, hml, hown, hts, hK, -, hlocks, hZ⟩ := hC
  have hown : s.vm.findClass RX12 = some m.cls := hown
  have hS : va_S (jA ad) s.heap s.heap [] := va_S.rf
  have hA : ∀ q, jA ad q → jA ad q := fun _ h => h
  have hl : lv_has ls 3 [(0, .ref (ad 55)), (1, .int 0), (2, .int a2)] := hl
  have g2 := jrg t2
  refine lv_iload_n hx hb dX12_putsAs_0 rfl (lv_at hl 1 rfl) ?_
  refine lv_iconst (v := 4) hx hb dX12_putsAs_1 (by decide) ?_
  refine lv_icmp_ne (tgt := 20) hx hb dX12_putsAs_2 (by decide) (fun _ => ?_) (fun c => absurd c (by decide))
  refine lv_iload_n hx hb dX12_putsAs_20 rfl (lv_at hl 1 rfl) ?_
  refine lv_iconst (v := 1) hx hb dX12_putsAs_21 (by decide) ?_
  refine lv_icmp_ne (tgt := 40) hx hb dX12_putsAs_22 (by decide) (fun _ => ?_) (fun c => absurd c (by decide))
  refine lv_aload_n hx hb dX12_putsAs_40 rfl (lv_at hl 0 rfl) ?_
  refine lv_iconst (v := 1) hx hb dX12_putsAs_41 (by decide) ?_
  refine jcallVv (As := [.int 1]) (rest := []) ⟨hx, hb, hml, hown, hts⟩ hK hP hA hS hZ (c_X12_begins_1_2 l D cI cL ad zz hJ σ τ h55_55) cw_RX12_379 (jc_55 cI cL ad σ τ) rfl ⟨Nat.le_of_ble_eq_true rfl, Nat.le_of_ble_eq_true rfl⟩ rfl rfl rfl hl.1 rfl (Nat.le_of_ble_eq_true rfl) dX12_putsAs_42 ⟨Nat.zero_le _, Nat.zero_le _⟩ (fun σ1 τ1 H locs h1 hP hS => ?_)
  obtain ⟨rfl, f3, f4, f5, m6, m7, h1⟩ := h1
  refine lv_iload_n hx hb dX12_putsAs_45 rfl (lv_at hl 2 rfl) ?_
  refine lv_aload_n hx hb dX12_putsAs_46 rfl (lv_at hl 0 rfl) ?_
  refine va_get (D := D) hx hb hts inlX12 hown hK hP 55 (jc_55 cI cL ad σ1 τ) rfl 57 (by decide) (hts _ kw_49_9) (fun _ h9 => h9) rfl dX12_putsAs_47 ?_
  have m8 : σ1 55 57 = (σ 55 57) := (f4 57 (by decide))
  refine jtopr m8 ?_
  have g9 := jrg (rfl : (σ 55 57).toInt = (σ 55 57).toInt)
  refine lv_iadd hx hb dX12_putsAs_50 ?_
  refine lv_topi (fun x10 ex10 => ?_)
  have gx10 := jrg (rfl : x10.toInt = x10.toInt)
  exact hret x10 σ1 τ _ _ _ _ rfl ⟨rfl, (fun i hi => (f3 i hi)), (fun i hi => (f4 i hi)), (fun i hi => (f5 i hi)), m6, m7, ⟨(by rw [ex10]), trivial⟩⟩ hP hS dX12_putsAs_51
set_option maxHeartbeats 4000000 in
set_option maxRecDepth 100000 in
theorem c_X12_putsAs_4_1_1 (l : Launch) (D : va_G) (cI cL : ClassId) (ad zz : Nat → Nat) (hJ : jD ad) (σ : Nat → Nat → Int32) (τ : Nat → Nat → Int64) (a2 : Int32) (A2 : Int) (t2 : a2.toInt = A2) (h55_55 : σ 55 55 = 1) (hp0 : (σ 55 56).toInt = 4) : jM l yX12_putsAs cX12_putsAs 3 (some .int) ({ frames := 2, cells := 0, slots := 0, locals := 43 }) D cI cL ad zz [.ref (ad 55), .int 1, .int a2] σ τ (fun r σ' τ' => τ = τ' ∧ (∀ i : Nat, (i < 55 ∨ 55 < i) ∧ (i < 85 ∨ 85 < i) → σ' i = σ i) ∧ (∀ k : Nat, (k < 55 ∨ 55 < k) → σ' 55 k = σ 55 k) ∧ (∀ k : Nat, (k < 1 ∨ 1 < k) ∧ (k < 2 ∨ 2 < k) → σ' 85 k = σ 85 k) ∧ (σ' 55 55 = 3) ∧ (σ' 85 1 = 20) ∧ (σ' 85 2 = 1) ∧ ((r = ((a2 + (σ 55 57)) + 3) ∧ True))) := by
  refine jM.of hJ (by decide +kernel) (nt := .int) rfl (Nat.le_of_ble_eq_true rfl) ?_
  intro p e s m args below meth c Q ls hC hret hl hP
  obtain ⟨hx, hb, hr, hml, hown, hts, hK, -, hlocks, hZ⟩ := hC
  have hown : s.vm.findClass RX12 = some m.cls := hown
  have hS : va_S (jA ad) s.heap s.heap [] := va_S.rf
  have hA : ∀ q, jA ad q → jA ad q := fun _ h => h
  have hl : lv_has ls 3 [(0, .ref (ad 55)), (1, .int 1), (2, .int a2)] := hl
  have g2 := jrg t2
  refine lv_iload_n hx hb dX12_putsAs_0 rfl (lv_at hl 1 rfl) ?_
  refine lv_iconst (v := 4) hx hb dX12_putsAs_1 (by decide) ?_
  refine lv_icmp_ne (tgt := 20) hx hb dX12_putsAs_2 (by decide) (fun _ => ?_) (fun c => absurd c (by decide))
  refine lv_iload_n hx hb dX12_putsAs_20 rfl (lv_at hl 1 rfl) ?_
  refine lv_iconst (v := 1) hx hb dX12_putsAs_21 (by decide) ?_
  refine lv_icmp_ne (tgt := 40) hx hb dX12_putsAs_22 (by decide) (fun c => absurd (by decide) c) (fun _ => ?_)
  refine lv_aload_n hx hb dX12_putsAs_25 rfl (lv_at hl 0 rfl) ?_
  refine lv_bipush (v := 20) hx hb dX12_putsAs_26 (by decide) ?_
  refine jcallVv (As := [.int 20]) (rest := []) ⟨hx, hb, hml, hown, hts⟩ hK hP hA hS hZ (c_X12_begins_20_1 l D cI cL ad zz hJ σ τ h55_55) cw_RX12_379 (jc_55 cI cL ad σ τ) rfl ⟨Nat.le_of_ble_eq_true rfl, Nat.le_of_ble_eq_true rfl⟩ rfl rfl rfl hl.1 rfl (Nat.le_of_ble_eq_true rfl) dX12_putsAs_28 ⟨Nat.zero_le _, Nat.zero_le _⟩ (fun σ1 τ1 H locs h1 hP hS => ?_)
  obtain ⟨rfl, f3, f4, f5, m6, m7, h1⟩ := h1
  refine lv_aload_n hx hb dX12_putsAs_31 rfl (lv_at hl 0 rfl) ?_
  refine lv_iconst (v := 0) hx hb dX12_putsAs_32 (by decide) ?_
  refine lv_iload_n hx hb dX12_putsAs_33 rfl (lv_at hl 2 rfl) ?_
  have z8 : (σ1 55 56).toInt = (σ 55 56).toInt := (congrArg Int32.toInt (show σ1 55 56 = (σ 55 56) from (f4 56 (by decide))))
  refine jcallV (As := [.int 0, .int a2]) (rest := []) ⟨hx, hb, hml, hown, hts⟩ hK hP hA hS hZ (c_X12_putsAs_4_0_2 l D cI cL ad zz hJ σ1 τ a2 (A2) t2 m6 (by omega)) cw_RX12_382 (jc_55 cI cL ad σ1 τ) rfl ⟨Nat.le_of_ble_eq_true rfl, Nat.le_of_ble_eq_true rfl⟩ rfl rfl rfl hl.1 rfl (Nat.le_of_ble_eq_true rfl) dX12_putsAs_34 ⟨Nat.zero_le _, Nat.zero_le _⟩ (fun r10 σ9 τ9 H locs h9 hP hS => ?_)
  obtain ⟨rfl, f11, f12, f13, m14, m15, h9⟩ := h9
  have h16 := h9
  obtain ⟨q18, k17⟩ := h16
  have q18 := q18.symm
  subst q18
  refine lv_iconst (v := 3) hx hb dX12_putsAs_37 (by decide) ?_
  have g19 := jrg (rfl : (a2 + (σ1 55 57)).toInt = (a2 + (σ1 55 57)).toInt)
  refine lv_iadd hx hb dX12_putsAs_38 ?_
  refine lv_topi (fun x20 ex20 => ?_)
  have gx20 := jrg (rfl : x20.toInt = x20.toInt)
  have m21 : σ9 85 1 = 20 := ((f13 1 (by decide)).trans m7)
  exact hret x20 σ9 τ _ _ _ _ rfl ⟨rfl, (fun i hi => ((f11 i hi).trans (f3 i hi))), (fun i hi => ((f12 i hi).trans (f4 i hi))), (fun i hi => ((f13 i (imp_43 i hi)).trans (f5 i (imp_60 i hi)))), m14, m21, m15, ⟨(by rw [ex20, (show σ1 55 57 = σ 55 57 from (f4 57 (by decide)))]), trivial⟩⟩ hP hS dX12_putsAs_39
set_option maxHeartbeats 4000000 in
set_option maxRecDepth 100000 in
theorem c_X12_putsAs_4_4_0 (l : Launch) (D : va_G) (cI cL : ClassId) (ad zz : Nat → Nat) (hJ : jD ad) (σ : Nat → Nat → Int32) (τ : Nat → Nat → Int64) (a2 : Int32) (A2 : Int) (t2 : a2.toInt = A2) (h55_55 : σ 55 55 = 0) (hp0 : (σ 55 56).toInt = 4) : jM l yX12_putsAs cX12_putsAs 3 (some .int) ({ frames := 3, cells := 0, slots := 0, locals := 65 }) D cI cL ad zz [.ref (ad 55), .int 4, .int a2] σ τ (fun r σ' τ' => τ = τ' ∧ (∀ i : Nat, (i < 55 ∨ 55 < i) ∧ (i < 85 ∨ 85 < i) → σ' i = σ i) ∧ (∀ k : Nat, (k < 55 ∨ 55 < k) → σ' 55 k = σ 55 k) ∧ (∀ k : Nat, (k < 0 ∨ 0 < k) ∧ (k < 1 ∨ 1 < k) ∧ (k < 2 ∨ 2 < k) → σ' 85 k = σ 85 k) ∧ (σ' 55 55 = 3) ∧ (σ' 85 0 = 50) ∧ (σ' 85 1 = 20) ∧ (σ' 85 2 = 1) ∧ ((r = (((a2 + 1) + (σ 55 57)) + 3) ∧ True))) := by
  refine jM.of hJ (by decide +kernel) (nt := .int) rfl (Nat.le_of_ble_eq_true rfl) ?_
  intro p e s m args below meth c Q ls hC hret hl hP
  obtain ⟨hx, hb, hr, hml, hown, hts, hK, -, hlocks, hZ⟩ := hC
  have hown : s.vm.findClass RX12 = some m.cls := hown
  have hS : va_S (jA ad) s.heap s.heap [] := va_S.rf
  have hA : ∀ q, jA ad q → jA ad q := fun _ h => h
  have hl : lv_has ls 3 [(0, .ref (ad 55)), (1, .int 4), (2, .int a2)] := hl
  have g2 := jrg t2
  refine lv_iload_n hx hb dX12_putsAs_0 rfl (lv_at hl 1 rfl) ?_
  refine lv_iconst (v := 4) hx hb dX12_putsAs_1 (by decide) ?_
  refine lv_icmp_ne (tgt := 20) hx hb dX12_putsAs_2 (by decide) (fun c => absurd (by decide) c) (fun _ => ?_)
  refine lv_aload_n hx hb dX12_putsAs_5 rfl (lv_at hl 0 rfl) ?_
  refine lv_bipush (v := 50) hx hb dX12_putsAs_6 (by decide) ?_
  refine jcallVv (As := [.int 50]) (rest := []) ⟨hx, hb, hml, hown, hts⟩ hK hP hA hS hZ (c_X12_begins_50_0 l D cI cL ad zz hJ σ τ h55_55) cw_RX12_379 (jc_55 cI cL ad σ τ) rfl ⟨Nat.le_of_ble_eq_true rfl, Nat.le_of_ble_eq_true rfl⟩ rfl rfl rfl hl.1 rfl (Nat.le_of_ble_eq_true rfl) dX12_putsAs_8 ⟨Nat.zero_le _, Nat.zero_le _⟩ (fun σ1 τ1 H locs h1 hP hS => ?_)
  obtain ⟨rfl, f3, f4, f5, m6, m7, h1⟩ := h1
  refine lv_aload_n hx hb dX12_putsAs_11 rfl (lv_at hl 0 rfl) ?_
  refine lv_iconst (v := 1) hx hb dX12_putsAs_12 (by decide) ?_
  refine lv_iload_n hx hb dX12_putsAs_13 rfl (lv_at hl 2 rfl) ?_
  refine lv_iconst (v := 1) hx hb dX12_putsAs_14 (by decide) ?_
  refine lv_iadd hx hb dX12_putsAs_15 ?_
  refine lv_topi (fun x8 ex8 => ?_)
  have gx8 := jrg (rfl : x8.toInt = x8.toInt)
  have z9 : (σ1 55 56).toInt = (σ 55 56).toInt := (congrArg Int32.toInt (show σ1 55 56 = (σ 55 56) from (f4 56 (by decide))))
  refine jcallV (As := [.int 1, .int x8]) (rest := []) ⟨hx, hb, hml, hown, hts⟩ hK hP hA hS hZ (c_X12_putsAs_4_1_1 l D cI cL ad zz hJ σ1 τ x8 (x8.toInt) rfl m6 (by omega)) cw_RX12_382 (jc_55 cI cL ad σ1 τ) rfl ⟨Nat.le_of_ble_eq_true rfl, Nat.le_of_ble_eq_true rfl⟩ rfl rfl rfl hl.1 rfl (Nat.le_of_ble_eq_true rfl) dX12_putsAs_16 ⟨Nat.zero_le _, Nat.zero_le _⟩ (fun r11 σ10 τ10 H locs h10 hP hS => ?_)
  obtain ⟨rfl, f12, f13, f14, m15, m16, m17, h10⟩ := h10
  have h18 := h10
  obtain ⟨q20, k19⟩ := h18
  have q20 := q20.symm
  subst q20
  have m21 : σ10 85 0 = 50 := ((f14 0 (by decide)).trans m7)
  exact hret ((x8 + (σ1 55 57)) + 3) σ10 τ _ _ _ _ rfl ⟨rfl, (fun i hi => ((f12 i hi).trans (f3 i hi))), (fun i hi => ((f13 i hi).trans (f4 i hi))), (fun i hi => ((f14 i (imp_50 i hi)).trans (f5 i (imp_349 i hi)))), m15, m21, m16, m17, ⟨(by rw [ex8, (show σ1 55 57 = σ 55 57 from (f4 57 (by decide)))]), trivial⟩⟩ hP hS dX12_putsAs_19
set_option maxHeartbeats 4000000 in
set_option maxRecDepth 100000 in
theorem c_X12_begins_50_1 (l : Launch) (D : va_G) (cI cL : ClassId) (ad zz : Nat → Nat) (hJ : jD ad) (σ : Nat → Nat → Int32) (τ : Nat → Nat → Int64) (h55_55 : σ 55 55 = 1) : jMv l yX12_begins cX12_begins 2 none ({ frames := 0, cells := 0, slots := 0, locals := 0 }) D cI cL ad zz [.ref (ad 55), .int 50] σ τ (fun σ' τ' => τ = τ' ∧ (∀ i : Nat, (i < 55 ∨ 55 < i) ∧ (i < 85 ∨ 85 < i) → σ' i = σ i) ∧ (∀ k : Nat, (k < 55 ∨ 55 < k) → σ' 55 k = σ 55 k) ∧ (∀ k : Nat, (k < 1 ∨ 1 < k) → σ' 85 k = σ 85 k) ∧ (σ' 55 55 = 2) ∧ (σ' 85 1 = 50) ∧ True) := by
  refine jMv.of hJ (by decide +kernel) rfl (Nat.le_of_ble_eq_true rfl) ?_
  intro p e s m args below meth c Q ls hC hret hl hP
  obtain ⟨hx, hb, hr, hml, hown, hts, hK, -, hlocks, hZ⟩ := hC
  have hown : s.vm.findClass RX12 = some m.cls := hown
  have hS : va_S (jA ad) s.heap s.heap [] := va_S.rf
  have hA : ∀ q, jA ad q → jA ad q := fun _ h => h
  have hl : lv_has ls 2 [(0, .ref (ad 55)), (1, .int 50)] := hl
  refine lv_aload_n hx hb dX12_begins_0 rfl (lv_at hl 0 rfl) ?_
  refine va_get (D := D) hx hb hts inlX12 hown hK hP 55 (jc_55 cI cL ad σ τ) rfl 55 (by decide) (hts _ kw_49_7) (fun _ h9 => h9) rfl dX12_begins_1 ?_
  refine jtopr h55_55 ?_
  refine lv_bipush (v := 24) hx hb dX12_begins_4 (by decide) ?_
  refine lv_icmp_ge (tgt := 19) hx hb dX12_begins_6 (by decide) (fun c => absurd c (by decide)) (fun _ => ?_)
  refine lv_aload_n hx hb dX12_begins_9 rfl (lv_at hl 0 rfl) ?_
  refine va_get (D := D) hx hb hts inlX12 hown hK hP 55 (jc_55 cI cL ad σ τ) rfl 54 (by decide) (hts _ kw_8_10) (fun _ h9 => h9) rfl dX12_begins_10 ?_
  refine lv_aload_n hx hb dX12_begins_13 rfl (lv_at hl 0 rfl) ?_
  refine va_get (D := D) hx hb hts inlX12 hown hK hP 55 (jc_55 cI cL ad σ τ) rfl 55 (by decide) (hts _ kw_49_7) (fun _ h9 => h9) rfl dX12_begins_14 ?_
  refine jtopr h55_55 ?_
  refine lv_iload_n hx hb dX12_begins_17 rfl (lv_at hl 1 rfl) ?_
  refine jast hx hb hK hP hJ hA hS (jc_85 cI cL ad σ τ) (ja_85 cI cL ad σ τ _ _) (jin jz_1 (by omega) (by omega)) dX12_begins_18 (fun σ1 H locs eσ1 hP hS => ?_)
  have eσ1 : σ1 = jup σ 85 1 50 := eσ1
  refine lv_aload_n hx hb dX12_begins_19 rfl (lv_at hl 0 rfl) ?_
  refine lv_dup hx hb dX12_begins_20 rfl ?_
  refine va_get (D := D) hx hb hts inlX12 hown hK hP 55 (jc_55 cI cL ad σ1 τ) rfl 55 (by decide) (hts _ kw_49_7) (fun _ h9 => h9) rfl dX12_begins_21 ?_
  have m2 : σ1 55 55 = 1 := ((congrFun (jnp 55 eσ1 (by decide)) 55).trans h55_55)
  refine jtopr m2 ?_
  refine lv_iconst (v := 1) hx hb dX12_begins_24 (by decide) ?_
  refine lv_iadd hx hb dX12_begins_25 ?_
  refine jtopr (y := 2) (by decide) ?_
  refine jput (ty := .int) hx hb hts inlX12 tyX12 tyX12_ok nmX12 hown hK hP hJ hA hS (jc_55 cI cL ad σ1 τ) rfl (k := 55) (by decide) (Nat.le_of_ble_eq_true rfl) (jp_55_55 cI cL ad σ1 τ 2) (hts _ kw_49_7) (fun _ h9 => h9) rfl (by decide +kernel) rfl rfl dX12_begins_26 (fun σ3 H locs eσ3 hP hS => ?_)
  have m4 : σ3 55 55 = 2 := (jsp eσ3)
  have m5 : σ3 85 1 = 50 := ((congrFun (jnp 85 eσ3 (by decide)) 1).trans (jsp eσ1))
  exact hret σ3 τ _ _ _ _ ⟨rfl, (fun i hi => ((jnp i eσ3 (imp_345 i hi)).trans (jnp i eσ1 (imp_346 i hi)))), (fun i hi => ((jkp i eσ3 (imp_164 i hi)).trans (congrFun (jnp 55 eσ1 (by decide)) i))), (fun i hi => ((congrFun (jnp 85 eσ3 (by decide)) i).trans (jkp i eσ1 (imp_42 i hi)))), m4, m5, trivial⟩ hP hS dX12_begins_29
set_option maxHeartbeats 4000000 in
set_option maxRecDepth 100000 in
theorem c_X12_putsAs_4_0_3 (l : Launch) (D : va_G) (cI cL : ClassId) (ad zz : Nat → Nat) (hJ : jD ad) (σ : Nat → Nat → Int32) (τ : Nat → Nat → Int64) (a2 : Int32) (A2 : Int) (t2 : a2.toInt = A2) (h55_55 : σ 55 55 = 3) (hp0 : (σ 55 56).toInt = 4) : jM l yX12_putsAs cX12_putsAs 3 (some .int) ({ frames := 1, cells := 0, slots := 0, locals := 21 }) D cI cL ad zz [.ref (ad 55), .int 0, .int a2] σ τ (fun r σ' τ' => τ = τ' ∧ (∀ i : Nat, (i < 55 ∨ 55 < i) ∧ (i < 85 ∨ 85 < i) → σ' i = σ i) ∧ (∀ k : Nat, (k < 55 ∨ 55 < k) → σ' 55 k = σ 55 k) ∧ (∀ k : Nat, (k < 3 ∨ 3 < k) → σ' 85 k = σ 85 k) ∧ (σ' 55 55 = 4) ∧ (σ' 85 3 = 1) ∧ ((r = (a2 + (σ 55 57)) ∧ True))) := by
  refine jM.of hJ (by decide +kernel) (nt := .int) rfl (Nat.le_of_ble_eq_true rfl) ?_
  intro p e s m args below meth c Q ls hC hret hl hP
  obtain ⟨hx, hb, hr, hml, hown, hts, hK, -, hlocks, hZ⟩ := hC
  have hown : s.vm.findClass RX12 = some m.cls := hown
  have hS : va_S (jA ad) s.heap s.heap [] := va_S.rf
  have hA : ∀ q, jA ad q → jA ad q := fun _ h => h
  have hl : lv_has ls 3 [(0, .ref (ad 55)), (1, .int 0), (2, .int a2)] := hl
  have g2 := jrg t2
  refine lv_iload_n hx hb dX12_putsAs_0 rfl (lv_at hl 1 rfl) ?_
  refine lv_iconst (v := 4) hx hb dX12_putsAs_1 (by decide) ?_
  refine lv_icmp_ne (tgt := 20) hx hb dX12_putsAs_2 (by decide) (fun _ => ?_) (fun c => absurd c (by decide))
  refine lv_iload_n hx hb dX12_putsAs_20 rfl (lv_at hl 1 rfl) ?_
  refine lv_iconst (v := 1) hx hb dX12_putsAs_21 (by decide) ?_
  refine lv_icmp_ne (tgt := 40) hx hb dX12_putsAs_22 (by decide) (fun _ => ?_) (fun c => absurd c (by decide))
  refine lv_aload_n hx hb dX12_putsAs_40 rfl (lv_at hl 0 rfl) ?_
  refine lv_iconst (v := 1) hx hb dX12_putsAs_41 (by decide) ?_
  refine jcallVv (As := [.int 1]) (rest := []) ⟨hx, hb, hml, hown, hts⟩ hK hP hA hS hZ (c_X12_begins_1_3 l D cI cL ad zz hJ σ τ h55_55) cw_RX12_379 (jc_55 cI cL ad σ τ) rfl ⟨Nat.le_of_ble_eq_true rfl, Nat.le_of_ble_eq_true rfl⟩ rfl rfl rfl hl.1 rfl (Nat.le_of_ble_eq_true rfl) dX12_putsAs_42 ⟨Nat.zero_le _, Nat.zero_le _⟩ (fun σ1 τ1 H locs h1 hP hS => ?_)
  obtain ⟨rfl, f3, f4, f5, m6, m7, h1⟩ := h1
  refine lv_iload_n hx hb dX12_putsAs_45 rfl (lv_at hl 2 rfl) ?_
  refine lv_aload_n hx hb dX12_putsAs_46 rfl (lv_at hl 0 rfl) ?_
  refine va_get (D := D) hx hb hts inlX12 hown hK hP 55 (jc_55 cI cL ad σ1 τ) rfl 57 (by decide) (hts _ kw_49_9) (fun _ h9 => h9) rfl dX12_putsAs_47 ?_
  have m8 : σ1 55 57 = (σ 55 57) := (f4 57 (by decide))
  refine jtopr m8 ?_
  have g9 := jrg (rfl : (σ 55 57).toInt = (σ 55 57).toInt)
  refine lv_iadd hx hb dX12_putsAs_50 ?_
  refine lv_topi (fun x10 ex10 => ?_)
  have gx10 := jrg (rfl : x10.toInt = x10.toInt)
  exact hret x10 σ1 τ _ _ _ _ rfl ⟨rfl, (fun i hi => (f3 i hi)), (fun i hi => (f4 i hi)), (fun i hi => (f5 i hi)), m6, m7, ⟨(by rw [ex10]), trivial⟩⟩ hP hS dX12_putsAs_51
set_option maxHeartbeats 4000000 in
set_option maxRecDepth 100000 in
theorem c_X12_putsAs_4_1_2 (l : Launch) (D : va_G) (cI cL : ClassId) (ad zz : Nat → Nat) (hJ : jD ad) (σ : Nat → Nat → Int32) (τ : Nat → Nat → Int64) (a2 : Int32) (A2 : Int) (t2 : a2.toInt = A2) (h55_55 : σ 55 55 = 2) (hp0 : (σ 55 56).toInt = 4) : jM l yX12_putsAs cX12_putsAs 3 (some .int) ({ frames := 2, cells := 0, slots := 0, locals := 43 }) D cI cL ad zz [.ref (ad 55), .int 1, .int a2] σ τ (fun r σ' τ' => τ = τ' ∧ (∀ i : Nat, (i < 55 ∨ 55 < i) ∧ (i < 85 ∨ 85 < i) → σ' i = σ i) ∧ (∀ k : Nat, (k < 55 ∨ 55 < k) → σ' 55 k = σ 55 k) ∧ (∀ k : Nat, (k < 2 ∨ 2 < k) ∧ (k < 3 ∨ 3 < k) → σ' 85 k = σ 85 k) ∧ (σ' 55 55 = 4) ∧ (σ' 85 2 = 20) ∧ (σ' 85 3 = 1) ∧ ((r = ((a2 + (σ 55 57)) + 3) ∧ True))) := by
  refine jM.of hJ (by decide +kernel) (nt := .int) rfl (Nat.le_of_ble_eq_true rfl) ?_
  intro p e s m args below meth c Q ls hC hret hl hP
  obtain ⟨hx, hb, hr, hml, hown, hts, hK, -, hlocks, hZ⟩ := hC
  have hown : s.vm.findClass RX12 = some m.cls := hown
  have hS : va_S (jA ad) s.heap s.heap [] := va_S.rf
  have hA : ∀ q, jA ad q → jA ad q := fun _ h => h
  have hl : lv_has ls 3 [(0, .ref (ad 55)), (1, .int 1), (2, .int a2)] := hl
  have g2 := jrg t2
  refine lv_iload_n hx hb dX12_putsAs_0 rfl (lv_at hl 1 rfl) ?_
  refine lv_iconst (v := 4) hx hb dX12_putsAs_1 (by decide) ?_
  refine lv_icmp_ne (tgt := 20) hx hb dX12_putsAs_2 (by decide) (fun _ => ?_) (fun c => absurd c (by decide))
  refine lv_iload_n hx hb dX12_putsAs_20 rfl (lv_at hl 1 rfl) ?_
  refine lv_iconst (v := 1) hx hb dX12_putsAs_21 (by decide) ?_
  refine lv_icmp_ne (tgt := 40) hx hb dX12_putsAs_22 (by decide) (fun c => absurd (by decide) c) (fun _ => ?_)
  refine lv_aload_n hx hb dX12_putsAs_25 rfl (lv_at hl 0 rfl) ?_
  refine lv_bipush (v := 20) hx hb dX12_putsAs_26 (by decide) ?_
  refine jcallVv (As := [.int 20]) (rest := []) ⟨hx, hb, hml, hown, hts⟩ hK hP hA hS hZ (c_X12_begins_20_2 l D cI cL ad zz hJ σ τ h55_55) cw_RX12_379 (jc_55 cI cL ad σ τ) rfl ⟨Nat.le_of_ble_eq_true rfl, Nat.le_of_ble_eq_true rfl⟩ rfl rfl rfl hl.1 rfl (Nat.le_of_ble_eq_true rfl) dX12_putsAs_28 ⟨Nat.zero_le _, Nat.zero_le _⟩ (fun σ1 τ1 H locs h1 hP hS => ?_)
  obtain ⟨rfl, f3, f4, f5, m6, m7, h1⟩ := h1
  refine lv_aload_n hx hb dX12_putsAs_31 rfl (lv_at hl 0 rfl) ?_
  refine lv_iconst (v := 0) hx hb dX12_putsAs_32 (by decide) ?_
  refine lv_iload_n hx hb dX12_putsAs_33 rfl (lv_at hl 2 rfl) ?_
  have z8 : (σ1 55 56).toInt = (σ 55 56).toInt := (congrArg Int32.toInt (show σ1 55 56 = (σ 55 56) from (f4 56 (by decide))))
  refine jcallV (As := [.int 0, .int a2]) (rest := []) ⟨hx, hb, hml, hown, hts⟩ hK hP hA hS hZ (c_X12_putsAs_4_0_3 l D cI cL ad zz hJ σ1 τ a2 (A2) t2 m6 (by omega)) cw_RX12_382 (jc_55 cI cL ad σ1 τ) rfl ⟨Nat.le_of_ble_eq_true rfl, Nat.le_of_ble_eq_true rfl⟩ rfl rfl rfl hl.1 rfl (Nat.le_of_ble_eq_true rfl) dX12_putsAs_34 ⟨Nat.zero_le _, Nat.zero_le _⟩ (fun r10 σ9 τ9 H locs h9 hP hS => ?_)
  obtain ⟨rfl, f11, f12, f13, m14, m15, h9⟩ := h9
  have h16 := h9
  obtain ⟨q18, k17⟩ := h16
  have q18 := q18.symm
  subst q18
  refine lv_iconst (v := 3) hx hb dX12_putsAs_37 (by decide) ?_
  have g19 := jrg (rfl : (a2 + (σ1 55 57)).toInt = (a2 + (σ1 55 57)).toInt)
  refine lv_iadd hx hb dX12_putsAs_38 ?_
  refine lv_topi (fun x20 ex20 => ?_)
  have gx20 := jrg (rfl : x20.toInt = x20.toInt)
  have m21 : σ9 85 2 = 20 := ((f13 2 (by decide)).trans m7)
  exact hret x20 σ9 τ _ _ _ _ rfl ⟨rfl, (fun i hi => ((f11 i hi).trans (f3 i hi))), (fun i hi => ((f12 i hi).trans (f4 i hi))), (fun i hi => ((f13 i (imp_307 i hi)).trans (f5 i (imp_19 i hi)))), m14, m21, m15, ⟨(by rw [ex20, (show σ1 55 57 = σ 55 57 from (f4 57 (by decide)))]), trivial⟩⟩ hP hS dX12_putsAs_39
set_option maxHeartbeats 4000000 in
set_option maxRecDepth 100000 in
theorem c_X12_putsAs_4_4_1 (l : Launch) (D : va_G) (cI cL : ClassId) (ad zz : Nat → Nat) (hJ : jD ad) (σ : Nat → Nat → Int32) (τ : Nat → Nat → Int64) (a2 : Int32) (A2 : Int) (t2 : a2.toInt = A2) (h55_55 : σ 55 55 = 1) (hp0 : (σ 55 56).toInt = 4) : jM l yX12_putsAs cX12_putsAs 3 (some .int) ({ frames := 3, cells := 0, slots := 0, locals := 65 }) D cI cL ad zz [.ref (ad 55), .int 4, .int a2] σ τ (fun r σ' τ' => τ = τ' ∧ (∀ i : Nat, (i < 55 ∨ 55 < i) ∧ (i < 85 ∨ 85 < i) → σ' i = σ i) ∧ (∀ k : Nat, (k < 55 ∨ 55 < k) → σ' 55 k = σ 55 k) ∧ (∀ k : Nat, (k < 1 ∨ 1 < k) ∧ (k < 2 ∨ 2 < k) ∧ (k < 3 ∨ 3 < k) → σ' 85 k = σ 85 k) ∧ (σ' 55 55 = 4) ∧ (σ' 85 1 = 50) ∧ (σ' 85 2 = 20) ∧ (σ' 85 3 = 1) ∧ ((r = (((a2 + 1) + (σ 55 57)) + 3) ∧ True))) := by
  refine jM.of hJ (by decide +kernel) (nt := .int) rfl (Nat.le_of_ble_eq_true rfl) ?_
  intro p e s m args below meth c Q ls hC hret hl hP
  obtain ⟨hx, hb, hr, hml, hown, hts, hK, -, hlocks, hZ⟩ := hC
  have hown : s.vm.findClass RX12 = some m.cls := hown
  have hS : va_S (jA ad) s.heap s.heap [] := va_S.rf
  have hA : ∀ q, jA ad q → jA ad q := fun _ h => h
  have hl : lv_has ls 3 [(0, .ref (ad 55)), (1, .int 4), (2, .int a2)] := hl
  have g2 := jrg t2
  refine lv_iload_n hx hb dX12_putsAs_0 rfl (lv_at hl 1 rfl) ?_
  refine lv_iconst (v := 4) hx hb dX12_putsAs_1 (by decide) ?_
  refine lv_icmp_ne (tgt := 20) hx hb dX12_putsAs_2 (by decide) (fun c => absurd (by decide) c) (fun _ => ?_)
  refine lv_aload_n hx hb dX12_putsAs_5 rfl (lv_at hl 0 rfl) ?_
  refine lv_bipush (v := 50) hx hb dX12_putsAs_6 (by decide) ?_
  refine jcallVv (As := [.int 50]) (rest := []) ⟨hx, hb, hml, hown, hts⟩ hK hP hA hS hZ (c_X12_begins_50_1 l D cI cL ad zz hJ σ τ h55_55) cw_RX12_379 (jc_55 cI cL ad σ τ) rfl ⟨Nat.le_of_ble_eq_true rfl, Nat.le_of_ble_eq_true rfl⟩ rfl rfl rfl hl.1 rfl (Nat.le_of_ble_eq_true rfl) dX12_putsAs_8 ⟨Nat.zero_le _, Nat.zero_le _⟩ (fun σ1 τ1 H locs h1 hP hS => ?_)
  obtain ⟨rfl, f3, f4, f5, m6, m7, h1⟩ := h1
  refine lv_aload_n hx hb dX12_putsAs_11 rfl (lv_at hl 0 rfl) ?_
  refine lv_iconst (v := 1) hx hb dX12_putsAs_12 (by decide) ?_
  refine lv_iload_n hx hb dX12_putsAs_13 rfl (lv_at hl 2 rfl) ?_
  refine lv_iconst (v := 1) hx hb dX12_putsAs_14 (by decide) ?_
  refine lv_iadd hx hb dX12_putsAs_15 ?_
  refine lv_topi (fun x8 ex8 => ?_)
  have gx8 := jrg (rfl : x8.toInt = x8.toInt)
  have z9 : (σ1 55 56).toInt = (σ 55 56).toInt := (congrArg Int32.toInt (show σ1 55 56 = (σ 55 56) from (f4 56 (by decide))))
  refine jcallV (As := [.int 1, .int x8]) (rest := []) ⟨hx, hb, hml, hown, hts⟩ hK hP hA hS hZ (c_X12_putsAs_4_1_2 l D cI cL ad zz hJ σ1 τ x8 (x8.toInt) rfl m6 (by omega)) cw_RX12_382 (jc_55 cI cL ad σ1 τ) rfl ⟨Nat.le_of_ble_eq_true rfl, Nat.le_of_ble_eq_true rfl⟩ rfl rfl rfl hl.1 rfl (Nat.le_of_ble_eq_true rfl) dX12_putsAs_16 ⟨Nat.zero_le _, Nat.zero_le _⟩ (fun r11 σ10 τ10 H locs h10 hP hS => ?_)
  obtain ⟨rfl, f12, f13, f14, m15, m16, m17, h10⟩ := h10
  have h18 := h10
  obtain ⟨q20, k19⟩ := h18
  have q20 := q20.symm
  subst q20
  have m21 : σ10 85 1 = 50 := ((f14 1 (by decide)).trans m7)
  exact hret ((x8 + (σ1 55 57)) + 3) σ10 τ _ _ _ _ rfl ⟨rfl, (fun i hi => ((f12 i hi).trans (f3 i hi))), (fun i hi => ((f13 i hi).trans (f4 i hi))), (fun i hi => ((f14 i (imp_308 i hi)).trans (f5 i (imp_350 i hi)))), m15, m21, m16, m17, ⟨(by rw [ex8, (show σ1 55 57 = σ 55 57 from (f4 57 (by decide)))]), trivial⟩⟩ hP hS dX12_putsAs_19
set_option maxHeartbeats 4000000 in
set_option maxRecDepth 100000 in
theorem c_X12_holdsAs_4_4_0 (l : Launch) (D : va_G) (cI cL : ClassId) (ad zz : Nat → Nat) (hJ : jD ad) (σ : Nat → Nat → Int32) (τ : Nat → Nat → Int64) (a2 : Int32) (A2 : Int) (t2 : a2.toInt = A2) (h55_55 : σ 55 55 = 0) (hp0 : (σ 55 56).toInt = 4) : jM l yX12_holdsAs cX12_holdsAs 4 (some .int) ({ frames := 4, cells := 0, slots := 0, locals := 87 }) D cI cL ad zz [.ref (ad 55), .int 4, .int a2] σ τ (fun r σ' τ' => τ = τ' ∧ (∀ i : Nat, (i < 55 ∨ 55 < i) ∧ (i < 85 ∨ 85 < i) → σ' i = σ i) ∧ (∀ k : Nat, (k < 55 ∨ 55 < k) → σ' 55 k = σ 55 k) ∧ (∀ k : Nat, (k < 0 ∨ 0 < k) ∧ (k < 1 ∨ 1 < k) ∧ (k < 2 ∨ 2 < k) ∧ (k < 3 ∨ 3 < k) → σ' 85 k = σ 85 k) ∧ (σ' 55 55 = 4) ∧ (σ' 85 0 = 10) ∧ (σ' 85 1 = 50) ∧ (σ' 85 2 = 20) ∧ (σ' 85 3 = 1) ∧ ((r = ((((a2 + 1) + (σ 55 57)) + 3) * 2) ∧ True))) := by
  refine jM.of hJ (by decide +kernel) (nt := .int) rfl (Nat.le_of_ble_eq_true rfl) ?_
  intro p e s m args below meth c Q ls hC hret hl hP
  obtain ⟨hx, hb, hr, hml, hown, hts, hK, -, hlocks, hZ⟩ := hC
  have hown : s.vm.findClass RX12 = some m.cls := hown
  have hS : va_S (jA ad) s.heap s.heap [] := va_S.rf
  have hA : ∀ q, jA ad q → jA ad q := fun _ h => h
  have hl : lv_has ls 4 [(0, .ref (ad 55)), (1, .int 4), (2, .int a2)] := hl
  have g2 := jrg t2
  refine lv_iload_n hx hb dX12_holdsAs_0 rfl (lv_at hl 1 rfl) ?_
  refine lv_iconst (v := 3) hx hb dX12_holdsAs_1 (by decide) ?_
  refine lv_icmp_eq (tgt := 10) hx hb dX12_holdsAs_2 (by decide) (fun c => absurd c (by decide)) (fun _ => ?_)
  refine lv_iload_n hx hb dX12_holdsAs_5 rfl (lv_at hl 1 rfl) ?_
  refine lv_iconst (v := 5) hx hb dX12_holdsAs_6 (by decide) ?_
  refine lv_icmp_ne (tgt := 24) hx hb dX12_holdsAs_7 (by decide) (fun _ => ?_) (fun c => absurd c (by decide))
  refine lv_iload_n hx hb dX12_holdsAs_24 rfl (lv_at hl 1 rfl) ?_
  refine lv_bipush (v := 6) hx hb dX12_holdsAs_25 (by decide) ?_
  refine lv_icmp_ne (tgt := 55) hx hb dX12_holdsAs_27 (by decide) (fun _ => ?_) (fun c => absurd c (by decide))
  refine lv_aload_n hx hb dX12_holdsAs_55 rfl (lv_at hl 0 rfl) ?_
  refine lv_bipush (v := 10) hx hb dX12_holdsAs_56 (by decide) ?_
  refine jcallVv (As := [.int 10]) (rest := []) ⟨hx, hb, hml, hown, hts⟩ hK hP hA hS hZ (c_X12_begins_10_0 l D cI cL ad zz hJ σ τ h55_55) cw_RX12_379 (jc_55 cI cL ad σ τ) rfl ⟨Nat.le_of_ble_eq_true rfl, Nat.le_of_ble_eq_true rfl⟩ rfl rfl rfl hl.1 rfl (Nat.le_of_ble_eq_true rfl) dX12_holdsAs_58 ⟨Nat.zero_le _, Nat.zero_le _⟩ (fun σ1 τ1 H locs h1 hP hS => ?_)
  obtain ⟨rfl, f3, f4, f5, m6, m7, h1⟩ := h1
  refine lv_aload_n hx hb dX12_holdsAs_61 rfl (lv_at hl 0 rfl) ?_
  refine lv_aload_n hx hb dX12_holdsAs_62 rfl (lv_at hl 0 rfl) ?_
  refine va_get (D := D) hx hb hts inlX12 hown hK hP 55 (jc_55 cI cL ad σ1 τ) rfl 56 (by decide) (hts _ kw_49_8) (fun _ h9 => h9) rfl dX12_holdsAs_63 ?_
  have m8 : σ1 55 56 = (σ 55 56) := (f4 56 (by decide))
  refine jtopr m8 ?_
  refine jtopr (jsame (rfl : (σ 55 56).toInt = (σ 55 56).toInt) jz_4 (by omega)) ?_
  refine lv_iload_n hx hb dX12_holdsAs_66 rfl (lv_at hl 2 rfl) ?_
  have z9 : (σ1 55 56).toInt = (σ 55 56).toInt := (congrArg Int32.toInt (show σ1 55 56 = (σ 55 56) from m8))
  refine jcallV (As := [.int 4, .int a2]) (rest := []) ⟨hx, hb, hml, hown, hts⟩ hK hP hA hS hZ (c_X12_putsAs_4_4_1 l D cI cL ad zz hJ σ1 τ a2 (A2) t2 m6 (by omega)) cw_RX12_382 (jc_55 cI cL ad σ1 τ) rfl ⟨Nat.le_of_ble_eq_true rfl, Nat.le_of_ble_eq_true rfl⟩ rfl rfl rfl hl.1 rfl (Nat.le_of_ble_eq_true rfl) dX12_holdsAs_67 ⟨Nat.zero_le _, Nat.zero_le _⟩ (fun r11 σ10 τ10 H locs h10 hP hS => ?_)
  obtain ⟨rfl, f12, f13, f14, m15, m16, m17, m18, h10⟩ := h10
  have h19 := h10
  obtain ⟨q21, k20⟩ := h19
  have q21 := q21.symm
  subst q21
  refine lv_iconst (v := 2) hx hb dX12_holdsAs_70 (by decide) ?_
  have g22 := jrg (rfl : (((a2 + 1) + (σ1 55 57)) + 3).toInt = (((a2 + 1) + (σ1 55 57)) + 3).toInt)
  refine lv_imul hx hb dX12_holdsAs_71 ?_
  refine lv_topi (fun x23 ex23 => ?_)
  have gx23 := jrg (rfl : x23.toInt = x23.toInt)
  have m24 : σ10 85 0 = 10 := ((f14 0 (by decide)).trans m7)
  exact hret x23 σ10 τ _ _ _ _ rfl ⟨rfl, (fun i hi => ((f12 i hi).trans (f3 i hi))), (fun i hi => ((f13 i hi).trans (f4 i hi))), (fun i hi => ((f14 i (imp_322 i hi)).trans (f5 i (imp_348 i hi)))), m15, m24, m16, m17, m18, ⟨(by rw [ex23, (show σ1 55 57 = σ 55 57 from (f4 57 (by decide)))]), trivial⟩⟩ hP hS dX12_holdsAs_72
set_option maxHeartbeats 4000000 in
set_option maxRecDepth 100000 in
theorem c_X12_givesAs_4_4_0 (l : Launch) (D : va_G) (cI cL : ClassId) (ad zz : Nat → Nat) (hJ : jD ad) (σ : Nat → Nat → Int32) (τ : Nat → Nat → Int64) (a2 : Int32) (A2 : Int) (t2 : a2.toInt = A2) (h55_55 : σ 55 55 = 0) (hp0 : (σ 55 56).toInt = 4) : jM l yX12_givesAs cX12_givesAs 4 (some .int) ({ frames := 1, cells := 0, slots := 0, locals := 21 }) D cI cL ad zz [.ref (ad 55), .int 4, .int a2] σ τ (fun r σ' τ' => τ = τ' ∧ (∀ i : Nat, (i < 55 ∨ 55 < i) ∧ (i < 85 ∨ 85 < i) → σ' i = σ i) ∧ (∀ k : Nat, (k < 55 ∨ 55 < k) → σ' 55 k = σ 55 k) ∧ (∀ k : Nat, (k < 0 ∨ 0 < k) → σ' 85 k = σ 85 k) ∧ (σ' 55 55 = 1) ∧ (σ' 85 0 = 11) ∧ ((r = (a2 ^^^ (σ 55 57)) ∧ True))) := by
  refine jM.of hJ (by decide +kernel) (nt := .int) rfl (Nat.le_of_ble_eq_true rfl) ?_
  intro p e s m args below meth c Q ls hC hret hl hP
  obtain ⟨hx, hb, hr, hml, hown, hts, hK, -, hlocks, hZ⟩ := hC
  have hown : s.vm.findClass RX12 = some m.cls := hown
  have hS : va_S (jA ad) s.heap s.heap [] := va_S.rf
  have hA : ∀ q, jA ad q → jA ad q := fun _ h => h
  have hl : lv_has ls 4 [(0, .ref (ad 55)), (1, .int 4), (2, .int a2)] := hl
  have g2 := jrg t2
  refine lv_iload_n hx hb dX12_givesAs_0 rfl (lv_at hl 1 rfl) ?_
  refine lv_iconst (v := 5) hx hb dX12_givesAs_1 (by decide) ?_
  refine lv_icmp_ne (tgt := 30) hx hb dX12_givesAs_2 (by decide) (fun _ => ?_) (fun c => absurd c (by decide))
  refine lv_iload_n hx hb dX12_givesAs_30 rfl (lv_at hl 1 rfl) ?_
  refine lv_iconst (v := 2) hx hb dX12_givesAs_31 (by decide) ?_
  refine lv_icmp_eq (tgt := 40) hx hb dX12_givesAs_32 (by decide) (fun c => absurd c (by decide)) (fun _ => ?_)
  refine lv_iload_n hx hb dX12_givesAs_35 rfl (lv_at hl 1 rfl) ?_
  refine lv_iconst (v := 3) hx hb dX12_givesAs_36 (by decide) ?_
  refine lv_icmp_ne (tgt := 55) hx hb dX12_givesAs_37 (by decide) (fun _ => ?_) (fun c => absurd c (by decide))
  refine lv_aload_n hx hb dX12_givesAs_55 rfl (lv_at hl 0 rfl) ?_
  refine lv_bipush (v := 11) hx hb dX12_givesAs_56 (by decide) ?_
  refine jcallVv (As := [.int 11]) (rest := []) ⟨hx, hb, hml, hown, hts⟩ hK hP hA hS hZ (c_X12_begins_11_0 l D cI cL ad zz hJ σ τ h55_55) cw_RX12_379 (jc_55 cI cL ad σ τ) rfl ⟨Nat.le_of_ble_eq_true rfl, Nat.le_of_ble_eq_true rfl⟩ rfl rfl rfl hl.1 rfl (Nat.le_of_ble_eq_true rfl) dX12_givesAs_58 ⟨Nat.zero_le _, Nat.zero_le _⟩ (fun σ1 τ1 H locs h1 hP hS => ?_)
  obtain ⟨rfl, f3, f4, f5, m6, m7, h1⟩ := h1
  refine lv_iload_n hx hb dX12_givesAs_61 rfl (lv_at hl 2 rfl) ?_
  refine lv_aload_n hx hb dX12_givesAs_62 rfl (lv_at hl 0 rfl) ?_
  refine va_get (D := D) hx hb hts inlX12 hown hK hP 55 (jc_55 cI cL ad σ1 τ) rfl 57 (by decide) (hts _ kw_49_9) (fun _ h9 => h9) rfl dX12_givesAs_63 ?_
  have m8 : σ1 55 57 = (σ 55 57) := (f4 57 (by decide))
  refine jtopr m8 ?_
  refine lv_ixor hx hb dX12_givesAs_66 ?_
  refine lv_topi (fun x9 ex9 => ?_)
  have gx9 := jrg (rfl : x9.toInt = x9.toInt)
  exact hret x9 σ1 τ _ _ _ _ rfl ⟨rfl, (fun i hi => (f3 i hi)), (fun i hi => (f4 i hi)), (fun i hi => (f5 i hi)), m6, m7, ⟨(by rw [ex9]), trivial⟩⟩ hP hS dX12_givesAs_67
set_option maxHeartbeats 4000000 in
set_option maxRecDepth 100000 in
theorem c_X12_begins_51_0 (l : Launch) (D : va_G) (cI cL : ClassId) (ad zz : Nat → Nat) (hJ : jD ad) (σ : Nat → Nat → Int32) (τ : Nat → Nat → Int64) (h55_55 : σ 55 55 = 0) : jMv l yX12_begins cX12_begins 2 none ({ frames := 0, cells := 0, slots := 0, locals := 0 }) D cI cL ad zz [.ref (ad 55), .int 51] σ τ (fun σ' τ' => τ = τ' ∧ (∀ i : Nat, (i < 55 ∨ 55 < i) ∧ (i < 85 ∨ 85 < i) → σ' i = σ i) ∧ (∀ k : Nat, (k < 55 ∨ 55 < k) → σ' 55 k = σ 55 k) ∧ (∀ k : Nat, (k < 0 ∨ 0 < k) → σ' 85 k = σ 85 k) ∧ (σ' 55 55 = 1) ∧ (σ' 85 0 = 51) ∧ True) := by
  refine jMv.of hJ (by decide +kernel) rfl (Nat.le_of_ble_eq_true rfl) ?_
  intro p e s m args below meth c Q ls hC hret hl hP
  obtain ⟨hx, hb, hr, hml, hown, hts, hK, -, hlocks, hZ⟩ := hC
  have hown : s.vm.findClass RX12 = some m.cls := hown
  have hS : va_S (jA ad) s.heap s.heap [] := va_S.rf
  have hA : ∀ q, jA ad q → jA ad q := fun _ h => h
  have hl : lv_has ls 2 [(0, .ref (ad 55)), (1, .int 51)] := hl
  refine lv_aload_n hx hb dX12_begins_0 rfl (lv_at hl 0 rfl) ?_
  refine va_get (D := D) hx hb hts inlX12 hown hK hP 55 (jc_55 cI cL ad σ τ) rfl 55 (by decide) (hts _ kw_49_7) (fun _ h9 => h9) rfl dX12_begins_1 ?_
  refine jtopr h55_55 ?_
  refine lv_bipush (v := 24) hx hb dX12_begins_4 (by decide) ?_
  refine lv_icmp_ge (tgt := 19) hx hb dX12_begins_6 (by decide) (fun c => absurd c (by decide)) (fun _ => ?_)
  refine lv_aload_n hx hb dX12_begins_9 rfl (lv_at hl 0 rfl) ?_
  refine va_get (D := D) hx hb hts inlX12 hown hK hP 55 (jc_55 cI cL ad σ τ) rfl 54 (by decide) (hts _ kw_8_10) (fun _ h9 => h9) rfl dX12_begins_10 ?_
  refine lv_aload_n hx hb dX12_begins_13 rfl (lv_at hl 0 rfl) ?_
  refine va_get (D := D) hx hb hts inlX12 hown hK hP 55 (jc_55 cI cL ad σ τ) rfl 55 (by decide) (hts _ kw_49_7) (fun _ h9 => h9) rfl dX12_begins_14 ?_
  refine jtopr h55_55 ?_
  refine lv_iload_n hx hb dX12_begins_17 rfl (lv_at hl 1 rfl) ?_
  refine jast hx hb hK hP hJ hA hS (jc_85 cI cL ad σ τ) (ja_85 cI cL ad σ τ _ _) (jin jz_0 (by omega) (by omega)) dX12_begins_18 (fun σ1 H locs eσ1 hP hS => ?_)
  have eσ1 : σ1 = jup σ 85 0 51 := eσ1
  refine lv_aload_n hx hb dX12_begins_19 rfl (lv_at hl 0 rfl) ?_
  refine lv_dup hx hb dX12_begins_20 rfl ?_
  refine va_get (D := D) hx hb hts inlX12 hown hK hP 55 (jc_55 cI cL ad σ1 τ) rfl 55 (by decide) (hts _ kw_49_7) (fun _ h9 => h9) rfl dX12_begins_21 ?_
  have m2 : σ1 55 55 = 0 := ((congrFun (jnp 55 eσ1 (by decide)) 55).trans h55_55)
  refine jtopr m2 ?_
  refine lv_iconst (v := 1) hx hb dX12_begins_24 (by decide) ?_
  refine lv_iadd hx hb dX12_begins_25 ?_
  refine jtopr (y := 1) (by decide) ?_
  refine jput (ty := .int) hx hb hts inlX12 tyX12 tyX12_ok nmX12 hown hK hP hJ hA hS (jc_55 cI cL ad σ1 τ) rfl (k := 55) (by decide) (Nat.le_of_ble_eq_true rfl) (jp_55_55 cI cL ad σ1 τ 1) (hts _ kw_49_7) (fun _ h9 => h9) rfl (by decide +kernel) rfl rfl dX12_begins_26 (fun σ3 H locs eσ3 hP hS => ?_)
  have m4 : σ3 55 55 = 1 := (jsp eσ3)
  have m5 : σ3 85 0 = 51 := ((congrFun (jnp 85 eσ3 (by decide)) 0).trans (jsp eσ1))
  exact hret σ3 τ _ _ _ _ ⟨rfl, (fun i hi => ((jnp i eσ3 (imp_345 i hi)).trans (jnp i eσ1 (imp_346 i hi)))), (fun i hi => ((jkp i eσ3 (imp_164 i hi)).trans (congrFun (jnp 55 eσ1 (by decide)) i))), (fun i hi => ((congrFun (jnp 85 eσ3 (by decide)) i).trans (jkp i eσ1 (imp_4 i hi)))), m4, m5, trivial⟩ hP hS dX12_begins_29
set_option maxHeartbeats 4000000 in
set_option maxRecDepth 100000 in
theorem c_X12_begins_2_1 (l : Launch) (D : va_G) (cI cL : ClassId) (ad zz : Nat → Nat) (hJ : jD ad) (σ : Nat → Nat → Int32) (τ : Nat → Nat → Int64) (h55_55 : σ 55 55 = 1) : jMv l yX12_begins cX12_begins 2 none ({ frames := 0, cells := 0, slots := 0, locals := 0 }) D cI cL ad zz [.ref (ad 55), .int 2] σ τ (fun σ' τ' => τ = τ' ∧ (∀ i : Nat, (i < 55 ∨ 55 < i) ∧ (i < 85 ∨ 85 < i) → σ' i = σ i) ∧ (∀ k : Nat, (k < 55 ∨ 55 < k) → σ' 55 k = σ 55 k) ∧ (∀ k : Nat, (k < 1 ∨ 1 < k) → σ' 85 k = σ 85 k) ∧ (σ' 55 55 = 2) ∧ (σ' 85 1 = 2) ∧ True) := by
  refine jMv.of hJ (by decide +kernel) rfl (Nat.le_of_ble_eq_true rfl) ?_
  intro p e s m args below meth c Q ls hC hret hl hP
  obtain ⟨hx, hb, hr, hml, hown, hts, hK, -, hlocks, hZ⟩ := hC
  have hown : s.vm.findClass RX12 = some m.cls := hown
  have hS : va_S (jA ad) s.heap s.heap [] := va_S.rf
  have hA : ∀ q, jA ad q → jA ad q := fun _ h => h
  have hl : lv_has ls 2 [(0, .ref (ad 55)), (1, .int 2)] := hl
  refine lv_aload_n hx hb dX12_begins_0 rfl (lv_at hl 0 rfl) ?_
  refine va_get (D := D) hx hb hts inlX12 hown hK hP 55 (jc_55 cI cL ad σ τ) rfl 55 (by decide) (hts _ kw_49_7) (fun _ h9 => h9) rfl dX12_begins_1 ?_
  refine jtopr h55_55 ?_
  refine lv_bipush (v := 24) hx hb dX12_begins_4 (by decide) ?_
  refine lv_icmp_ge (tgt := 19) hx hb dX12_begins_6 (by decide) (fun c => absurd c (by decide)) (fun _ => ?_)
  refine lv_aload_n hx hb dX12_begins_9 rfl (lv_at hl 0 rfl) ?_
  refine va_get (D := D) hx hb hts inlX12 hown hK hP 55 (jc_55 cI cL ad σ τ) rfl 54 (by decide) (hts _ kw_8_10) (fun _ h9 => h9) rfl dX12_begins_10 ?_
  refine lv_aload_n hx hb dX12_begins_13 rfl (lv_at hl 0 rfl) ?_
  refine va_get (D := D) hx hb hts inlX12 hown hK hP 55 (jc_55 cI cL ad σ τ) rfl 55 (by decide) (hts _ kw_49_7) (fun _ h9 => h9) rfl dX12_begins_14 ?_
  refine jtopr h55_55 ?_
  refine lv_iload_n hx hb dX12_begins_17 rfl (lv_at hl 1 rfl) ?_
  refine jast hx hb hK hP hJ hA hS (jc_85 cI cL ad σ τ) (ja_85 cI cL ad σ τ _ _) (jin jz_1 (by omega) (by omega)) dX12_begins_18 (fun σ1 H locs eσ1 hP hS => ?_)
  have eσ1 : σ1 = jup σ 85 1 2 := eσ1
  refine lv_aload_n hx hb dX12_begins_19 rfl (lv_at hl 0 rfl) ?_
  refine lv_dup hx hb dX12_begins_20 rfl ?_
  refine va_get (D := D) hx hb hts inlX12 hown hK hP 55 (jc_55 cI cL ad σ1 τ) rfl 55 (by decide) (hts _ kw_49_7) (fun _ h9 => h9) rfl dX12_begins_21 ?_
  have m2 : σ1 55 55 = 1 := ((congrFun (jnp 55 eσ1 (by decide)) 55).trans h55_55)
  refine jtopr m2 ?_
  refine lv_iconst (v := 1) hx hb dX12_begins_24 (by decide) ?_
  refine lv_iadd hx hb dX12_begins_25 ?_
  refine jtopr (y := 2) (by decide) ?_
  refine jput (ty := .int) hx hb hts inlX12 tyX12 tyX12_ok nmX12 hown hK hP hJ hA hS (jc_55 cI cL ad σ1 τ) rfl (k := 55) (by decide) (Nat.le_of_ble_eq_true rfl) (jp_55_55 cI cL ad σ1 τ 2) (hts _ kw_49_7) (fun _ h9 => h9) rfl (by decide +kernel) rfl rfl dX12_begins_26 (fun σ3 H locs eσ3 hP hS => ?_)
  have m4 : σ3 55 55 = 2 := (jsp eσ3)
  have m5 : σ3 85 1 = 2 := ((congrFun (jnp 85 eσ3 (by decide)) 1).trans (jsp eσ1))
  exact hret σ3 τ _ _ _ _ ⟨rfl, (fun i hi => ((jnp i eσ3 (imp_345 i hi)).trans (jnp i eσ1 (imp_346 i hi)))), (fun i hi => ((jkp i eσ3 (imp_164 i hi)).trans (congrFun (jnp 55 eσ1 (by decide)) i))), (fun i hi => ((congrFun (jnp 85 eσ3 (by decide)) i).trans (jkp i eσ1 (imp_42 i hi)))), m4, m5, trivial⟩ hP hS dX12_begins_29
set_option maxHeartbeats 4000000 in
set_option maxRecDepth 100000 in
theorem c_X12_begins_50_3 (l : Launch) (D : va_G) (cI cL : ClassId) (ad zz : Nat → Nat) (hJ : jD ad) (σ : Nat → Nat → Int32) (τ : Nat → Nat → Int64) (h55_55 : σ 55 55 = 3) : jMv l yX12_begins cX12_begins 2 none ({ frames := 0, cells := 0, slots := 0, locals := 0 }) D cI cL ad zz [.ref (ad 55), .int 50] σ τ (fun σ' τ' => τ = τ' ∧ (∀ i : Nat, (i < 55 ∨ 55 < i) ∧ (i < 85 ∨ 85 < i) → σ' i = σ i) ∧ (∀ k : Nat, (k < 55 ∨ 55 < k) → σ' 55 k = σ 55 k) ∧ (∀ k : Nat, (k < 3 ∨ 3 < k) → σ' 85 k = σ 85 k) ∧ (σ' 55 55 = 4) ∧ (σ' 85 3 = 50) ∧ True) := by
  refine jMv.of hJ (by decide +kernel) rfl (Nat.le_of_ble_eq_true rfl) ?_
  intro p e s m args below meth c Q ls hC hret hl hP
  obtain ⟨hx, hb, hr, hml, hown, hts, hK, -, hlocks, hZ⟩ := hC
  have hown : s.vm.findClass RX12 = some m.cls := hown
  have hS : va_S (jA ad) s.heap s.heap [] := va_S.rf
  have hA : ∀ q, jA ad q → jA ad q := fun _ h => h
  have hl : lv_has ls 2 [(0, .ref (ad 55)), (1, .int 50)] := hl
  refine lv_aload_n hx hb dX12_begins_0 rfl (lv_at hl 0 rfl) ?_
  refine va_get (D := D) hx hb hts inlX12 hown hK hP 55 (jc_55 cI cL ad σ τ) rfl 55 (by decide) (hts _ kw_49_7) (fun _ h9 => h9) rfl dX12_begins_1 ?_
  refine jtopr h55_55 ?_
  refine lv_bipush (v := 24) hx hb dX12_begins_4 (by decide) ?_
  refine lv_icmp_ge (tgt := 19) hx hb dX12_begins_6 (by decide) (fun c => absurd c (by decide)) (fun _ => ?_)
  refine lv_aload_n hx hb dX12_begins_9 rfl (lv_at hl 0 rfl) ?_
  refine va_get (D := D) hx hb hts inlX12 hown hK hP 55 (jc_55 cI cL ad σ τ) rfl 54 (by decide) (hts _ kw_8_10) (fun _ h9 => h9) rfl dX12_begins_10 ?_
  refine lv_aload_n hx hb dX12_begins_13 rfl (lv_at hl 0 rfl) ?_
  refine va_get (D := D) hx hb hts inlX12 hown hK hP 55 (jc_55 cI cL ad σ τ) rfl 55 (by decide) (hts _ kw_49_7) (fun _ h9 => h9) rfl dX12_begins_14 ?_
  refine jtopr h55_55 ?_
  refine lv_iload_n hx hb dX12_begins_17 rfl (lv_at hl 1 rfl) ?_
  refine jast hx hb hK hP hJ hA hS (jc_85 cI cL ad σ τ) (ja_85 cI cL ad σ τ _ _) (jin jz_3 (by omega) (by omega)) dX12_begins_18 (fun σ1 H locs eσ1 hP hS => ?_)
  have eσ1 : σ1 = jup σ 85 3 50 := eσ1
  refine lv_aload_n hx hb dX12_begins_19 rfl (lv_at hl 0 rfl) ?_
  refine lv_dup hx hb dX12_begins_20 rfl ?_
  refine va_get (D := D) hx hb hts inlX12 hown hK hP 55 (jc_55 cI cL ad σ1 τ) rfl 55 (by decide) (hts _ kw_49_7) (fun _ h9 => h9) rfl dX12_begins_21 ?_
  have m2 : σ1 55 55 = 3 := ((congrFun (jnp 55 eσ1 (by decide)) 55).trans h55_55)
  refine jtopr m2 ?_
  refine lv_iconst (v := 1) hx hb dX12_begins_24 (by decide) ?_
  refine lv_iadd hx hb dX12_begins_25 ?_
  refine jtopr (y := 4) (by decide) ?_
  refine jput (ty := .int) hx hb hts inlX12 tyX12 tyX12_ok nmX12 hown hK hP hJ hA hS (jc_55 cI cL ad σ1 τ) rfl (k := 55) (by decide) (Nat.le_of_ble_eq_true rfl) (jp_55_55 cI cL ad σ1 τ 4) (hts _ kw_49_7) (fun _ h9 => h9) rfl (by decide +kernel) rfl rfl dX12_begins_26 (fun σ3 H locs eσ3 hP hS => ?_)
  have m4 : σ3 55 55 = 4 := (jsp eσ3)
  have m5 : σ3 85 3 = 50 := ((congrFun (jnp 85 eσ3 (by decide)) 3).trans (jsp eσ1))
  exact hret σ3 τ _ _ _ _ ⟨rfl, (fun i hi => ((jnp i eσ3 (imp_345 i hi)).trans (jnp i eσ1 (imp_346 i hi)))), (fun i hi => ((jkp i eσ3 (imp_164 i hi)).trans (congrFun (jnp 55 eσ1 (by decide)) i))), (fun i hi => ((congrFun (jnp 85 eσ3 (by decide)) i).trans (jkp i eσ1 (imp_303 i hi)))), m4, m5, trivial⟩ hP hS dX12_begins_29
set_option maxHeartbeats 4000000 in
set_option maxRecDepth 100000 in
theorem c_X12_begins_20_4 (l : Launch) (D : va_G) (cI cL : ClassId) (ad zz : Nat → Nat) (hJ : jD ad) (σ : Nat → Nat → Int32) (τ : Nat → Nat → Int64) (h55_55 : σ 55 55 = 4) : jMv l yX12_begins cX12_begins 2 none ({ frames := 0, cells := 0, slots := 0, locals := 0 }) D cI cL ad zz [.ref (ad 55), .int 20] σ τ (fun σ' τ' => τ = τ' ∧ (∀ i : Nat, (i < 55 ∨ 55 < i) ∧ (i < 85 ∨ 85 < i) → σ' i = σ i) ∧ (∀ k : Nat, (k < 55 ∨ 55 < k) → σ' 55 k = σ 55 k) ∧ (∀ k : Nat, (k < 4 ∨ 4 < k) → σ' 85 k = σ 85 k) ∧ (σ' 55 55 = 5) ∧ (σ' 85 4 = 20) ∧ True) := by
  refine jMv.of hJ (by decide +kernel) rfl (Nat.le_of_ble_eq_true rfl) ?_
  intro p e s m args below meth c Q ls hC hret hl hP
  obtain ⟨hx, hb, hr, hml, hown, hts, hK, -, hlocks, hZ⟩ := hC
  have hown : s.vm.findClass RX12 = some m.cls := hown
  have hS : va_S (jA ad) s.heap s.heap [] := va_S.rf
  have hA : ∀ q, jA ad q → jA ad q := fun _ h => h
  have hl : lv_has ls 2 [(0, .ref (ad 55)), (1, .int 20)] := hl
  refine lv_aload_n hx hb dX12_begins_0 rfl (lv_at hl 0 rfl) ?_
  refine va_get (D := D) hx hb hts inlX12 hown hK hP 55 (jc_55 cI cL ad σ τ) rfl 55 (by decide) (hts _ kw_49_7) (fun _ h9 => h9) rfl dX12_begins_1 ?_
  refine jtopr h55_55 ?_
  refine lv_bipush (v := 24) hx hb dX12_begins_4 (by decide) ?_
  refine lv_icmp_ge (tgt := 19) hx hb dX12_begins_6 (by decide) (fun c => absurd c (by decide)) (fun _ => ?_)
  refine lv_aload_n hx hb dX12_begins_9 rfl (lv_at hl 0 rfl) ?_
  refine va_get (D := D) hx hb hts inlX12 hown hK hP 55 (jc_55 cI cL ad σ τ) rfl 54 (by decide) (hts _ kw_8_10) (fun _ h9 => h9) rfl dX12_begins_10 ?_
  refine lv_aload_n hx hb dX12_begins_13 rfl (lv_at hl 0 rfl) ?_
  refine va_get (D := D) hx hb hts inlX12 hown hK hP 55 (jc_55 cI cL ad σ τ) rfl 55 (by decide) (hts _ kw_49_7) (fun _ h9 => h9) rfl dX12_begins_14 ?_
  refine jtopr h55_55 ?_
  refine lv_iload_n hx hb dX12_begins_17 rfl (lv_at hl 1 rfl) ?_
  refine jast hx hb hK hP hJ hA hS (jc_85 cI cL ad σ τ) (ja_85 cI cL ad σ τ _ _) (jin jz_4 (by omega) (by omega)) dX12_begins_18 (fun σ1 H locs eσ1 hP hS => ?_)
  have eσ1 : σ1 = jup σ 85 4 20 := eσ1
  refine lv_aload_n hx hb dX12_begins_19 rfl (lv_at hl 0 rfl) ?_
  refine lv_dup hx hb dX12_begins_20 rfl ?_
  refine va_get (D := D) hx hb hts inlX12 hown hK hP 55 (jc_55 cI cL ad σ1 τ) rfl 55 (by decide) (hts _ kw_49_7) (fun _ h9 => h9) rfl dX12_begins_21 ?_
  have m2 : σ1 55 55 = 4 := ((congrFun (jnp 55 eσ1 (by decide)) 55).trans h55_55)
  refine jtopr m2 ?_
  refine lv_iconst (v := 1) hx hb dX12_begins_24 (by decide) ?_
  refine lv_iadd hx hb dX12_begins_25 ?_
  refine jtopr (y := 5) (by decide) ?_
  refine jput (ty := .int) hx hb hts inlX12 tyX12 tyX12_ok nmX12 hown hK hP hJ hA hS (jc_55 cI cL ad σ1 τ) rfl (k := 55) (by decide) (Nat.le_of_ble_eq_true rfl) (jp_55_55 cI cL ad σ1 τ 5) (hts _ kw_49_7) (fun _ h9 => h9) rfl (by decide +kernel) rfl rfl dX12_begins_26 (fun σ3 H locs eσ3 hP hS => ?_)
  have m4 : σ3 55 55 = 5 := (jsp eσ3)
  have m5 : σ3 85 4 = 20 := ((congrFun (jnp 85 eσ3 (by decide)) 4).trans (jsp eσ1))
  exact hret σ3 τ _ _ _ _ ⟨rfl, (fun i hi => ((jnp i eσ3 (imp_345 i hi)).trans (jnp i eσ1 (imp_346 i hi)))), (fun i hi => ((jkp i eσ3 (imp_164 i hi)).trans (congrFun (jnp 55 eσ1 (by decide)) i))), (fun i hi => ((congrFun (jnp 85 eσ3 (by decide)) i).trans (jkp i eσ1 (imp_310 i hi)))), m4, m5, trivial⟩ hP hS dX12_begins_29
set_option maxHeartbeats 4000000 in
set_option maxRecDepth 100000 in
theorem c_X12_begins_1_5 (l : Launch) (D : va_G) (cI cL : ClassId) (ad zz : Nat → Nat) (hJ : jD ad) (σ : Nat → Nat → Int32) (τ : Nat → Nat → Int64) (h55_55 : σ 55 55 = 5) : jMv l yX12_begins cX12_begins 2 none ({ frames := 0, cells := 0, slots := 0, locals := 0 }) D cI cL ad zz [.ref (ad 55), .int 1] σ τ (fun σ' τ' => τ = τ' ∧ (∀ i : Nat, (i < 55 ∨ 55 < i) ∧ (i < 85 ∨ 85 < i) → σ' i = σ i) ∧ (∀ k : Nat, (k < 55 ∨ 55 < k) → σ' 55 k = σ 55 k) ∧ (∀ k : Nat, (k < 5 ∨ 5 < k) → σ' 85 k = σ 85 k) ∧ (σ' 55 55 = 6) ∧ (σ' 85 5 = 1) ∧ True) := by
  refine jMv.of hJ (by decide +kernel) rfl (Nat.le_of_ble_eq_true rfl) ?_
  intro p e s m args below meth c Q ls hC hret hl hP
  obtain ⟨hx, hb, hr, hml, hown, hts, hK, -, hlocks, hZ⟩ := hC
  have hown : s.vm.findClass RX12 = some m.cls := hown
  have hS : va_S (jA ad) s.heap s.heap [] := va_S.rf
  have hA : ∀ q, jA ad q → jA ad q := fun _ h => h
  have hl : lv_has ls 2 [(0, .ref (ad 55)), (1, .int 1)] := hl
  refine lv_aload_n hx hb dX12_begins_0 rfl (lv_at hl 0 rfl) ?_
  refine va_get (D := D) hx hb hts inlX12 hown hK hP 55 (jc_55 cI cL ad σ τ) rfl 55 (by decide) (hts _ kw_49_7) (fun _ h9 => h9) rfl dX12_begins_1 ?_
  refine jtopr h55_55 ?_
  refine lv_bipush (v := 24) hx hb dX12_begins_4 (by decide) ?_
  refine lv_icmp_ge (tgt := 19) hx hb dX12_begins_6 (by decide) (fun c => absurd c (by decide)) (fun _ => ?_)
  refine lv_aload_n hx hb dX12_begins_9 rfl (lv_at hl 0 rfl) ?_
  refine va_get (D := D) hx hb hts inlX12 hown hK hP 55 (jc_55 cI cL ad σ τ) rfl 54 (by decide) (hts _ kw_8_10) (fun _ h9 => h9) rfl dX12_begins_10 ?_
  refine lv_aload_n hx hb dX12_begins_13 rfl (lv_at hl 0 rfl) ?_
  refine va_get (D := D) hx hb hts inlX12 hown hK hP 55 (jc_55 cI cL ad σ τ) rfl 55 (by decide) (hts _ kw_49_7) (fun _ h9 => h9) rfl dX12_begins_14 ?_
  refine jtopr h55_55 ?_
  refine lv_iload_n hx hb dX12_begins_17 rfl (lv_at hl 1 rfl) ?_
  refine jast hx hb hK hP hJ hA hS (jc_85 cI cL ad σ τ) (ja_85 cI cL ad σ τ _ _) (jin jz_5 (by omega) (by omega)) dX12_begins_18 (fun σ1 H locs eσ1 hP hS => ?_)
  have eσ1 : σ1 = jup σ 85 5 1 := eσ1
  refine lv_aload_n hx hb dX12_begins_19 rfl (lv_at hl 0 rfl) ?_
  refine lv_dup hx hb dX12_begins_20 rfl ?_
  refine va_get (D := D) hx hb hts inlX12 hown hK hP 55 (jc_55 cI cL ad σ1 τ) rfl 55 (by decide) (hts _ kw_49_7) (fun _ h9 => h9) rfl dX12_begins_21 ?_
  have m2 : σ1 55 55 = 5 := ((congrFun (jnp 55 eσ1 (by decide)) 55).trans h55_55)
  refine jtopr m2 ?_
  refine lv_iconst (v := 1) hx hb dX12_begins_24 (by decide) ?_
  refine lv_iadd hx hb dX12_begins_25 ?_
  refine jtopr (y := 6) (by decide) ?_
  refine jput (ty := .int) hx hb hts inlX12 tyX12 tyX12_ok nmX12 hown hK hP hJ hA hS (jc_55 cI cL ad σ1 τ) rfl (k := 55) (by decide) (Nat.le_of_ble_eq_true rfl) (jp_55_55 cI cL ad σ1 τ 6) (hts _ kw_49_7) (fun _ h9 => h9) rfl (by decide +kernel) rfl rfl dX12_begins_26 (fun σ3 H locs eσ3 hP hS => ?_)
  have m4 : σ3 55 55 = 6 := (jsp eσ3)
  have m5 : σ3 85 5 = 1 := ((congrFun (jnp 85 eσ3 (by decide)) 5).trans (jsp eσ1))
  exact hret σ3 τ _ _ _ _ ⟨rfl, (fun i hi => ((jnp i eσ3 (imp_345 i hi)).trans (jnp i eσ1 (imp_346 i hi)))), (fun i hi => ((jkp i eσ3 (imp_164 i hi)).trans (congrFun (jnp 55 eσ1 (by decide)) i))), (fun i hi => ((congrFun (jnp 85 eσ3 (by decide)) i).trans (jkp i eσ1 (imp_158 i hi)))), m4, m5, trivial⟩ hP hS dX12_begins_29
set_option maxHeartbeats 4000000 in
set_option maxRecDepth 100000 in
theorem c_X12_putsAs_4_0_5 (l : Launch) (D : va_G) (cI cL : ClassId) (ad zz : Nat → Nat) (hJ : jD ad) (σ : Nat → Nat → Int32) (τ : Nat → Nat → Int64) (a2 : Int32) (A2 : Int) (t2 : a2.toInt = A2) (h55_55 : σ 55 55 = 5) (hp0 : (σ 55 56).toInt = 4) : jM l yX12_putsAs cX12_putsAs 3 (some .int) ({ frames := 1, cells := 0, slots := 0, locals := 21 }) D cI cL ad zz [.ref (ad 55), .int 0, .int a2] σ τ (fun r σ' τ' => τ = τ' ∧ (∀ i : Nat, (i < 55 ∨ 55 < i) ∧ (i < 85 ∨ 85 < i) → σ' i = σ i) ∧ (∀ k : Nat, (k < 55 ∨ 55 < k) → σ' 55 k = σ 55 k) ∧ (∀ k : Nat, (k < 5 ∨ 5 < k) → σ' 85 k = σ 85 k) ∧ (σ' 55 55 = 6) ∧ (σ' 85 5 = 1) ∧ ((r = (a2 + (σ 55 57)) ∧ True))) := by
  refine jM.of hJ (by decide +kernel) (nt := .int) rfl (Nat.le_of_ble_eq_true rfl) ?_
  intro p e s m args below meth c Q ls hC hret hl hP
  obtain ⟨hx, hb, hr, hml, hown, hts, hK, -, hlocks, hZ⟩ := hC
  have hown : s.vm.findClass RX12 = some m.cls := hown
  have hS : va_S (jA ad) s.heap s.heap [] := va_S.rf
  have hA : ∀ q, jA ad q → jA ad q := fun _ h => h
  have hl : lv_has ls 3 [(0, .ref (ad 55)), (1, .int 0), (2, .int a2)] := hl
  have g2 := jrg t2
  refine lv_iload_n hx hb dX12_putsAs_0 rfl (lv_at hl 1 rfl) ?_
  refine lv_iconst (v := 4) hx hb dX12_putsAs_1 (by decide) ?_
  refine lv_icmp_ne (tgt := 20) hx hb dX12_putsAs_2 (by decide) (fun _ => ?_) (fun c => absurd c (by decide))
  refine lv_iload_n hx hb dX12_putsAs_20 rfl (lv_at hl 1 rfl) ?_
  refine lv_iconst (v := 1) hx hb dX12_putsAs_21 (by decide) ?_
  refine lv_icmp_ne (tgt := 40) hx hb dX12_putsAs_22 (by decide) (fun _ => ?_) (fun c => absurd c (by decide))
  refine lv_aload_n hx hb dX12_putsAs_40 rfl (lv_at hl 0 rfl) ?_
  refine lv_iconst (v := 1) hx hb dX12_putsAs_41 (by decide) ?_
  refine jcallVv (As := [.int 1]) (rest := []) ⟨hx, hb, hml, hown, hts⟩ hK hP hA hS hZ (c_X12_begins_1_5 l D cI cL ad zz hJ σ τ h55_55) cw_RX12_379 (jc_55 cI cL ad σ τ) rfl ⟨Nat.le_of_ble_eq_true rfl, Nat.le_of_ble_eq_true rfl⟩ rfl rfl rfl hl.1 rfl (Nat.le_of_ble_eq_true rfl) dX12_putsAs_42 ⟨Nat.zero_le _, Nat.zero_le _⟩ (fun σ1 τ1 H locs h1 hP hS => ?_)
  obtain ⟨rfl, f3, f4, f5, m6, m7, h1⟩ := h1
  refine lv_iload_n hx hb dX12_putsAs_45 rfl (lv_at hl 2 rfl) ?_
  refine lv_aload_n hx hb dX12_putsAs_46 rfl (lv_at hl 0 rfl) ?_
  refine va_get (D := D) hx hb hts inlX12 hown hK hP 55 (jc_55 cI cL ad σ1 τ) rfl 57 (by decide) (hts _ kw_49_9) (fun _ h9 => h9) rfl dX12_putsAs_47 ?_
  have m8 : σ1 55 57 = (σ 55 57) := (f4 57 (by decide))
  refine jtopr m8 ?_
  have g9 := jrg (rfl : (σ 55 57).toInt = (σ 55 57).toInt)
  refine lv_iadd hx hb dX12_putsAs_50 ?_
  refine lv_topi (fun x10 ex10 => ?_)
  have gx10 := jrg (rfl : x10.toInt = x10.toInt)
  exact hret x10 σ1 τ _ _ _ _ rfl ⟨rfl, (fun i hi => (f3 i hi)), (fun i hi => (f4 i hi)), (fun i hi => (f5 i hi)), m6, m7, ⟨(by rw [ex10]), trivial⟩⟩ hP hS dX12_putsAs_51
set_option maxHeartbeats 4000000 in
set_option maxRecDepth 100000 in
theorem c_X12_putsAs_4_1_4 (l : Launch) (D : va_G) (cI cL : ClassId) (ad zz : Nat → Nat) (hJ : jD ad) (σ : Nat → Nat → Int32) (τ : Nat → Nat → Int64) (a2 : Int32) (A2 : Int) (t2 : a2.toInt = A2) (h55_55 : σ 55 55 = 4) (hp0 : (σ 55 56).toInt = 4) : jM l yX12_putsAs cX12_putsAs 3 (some .int) ({ frames := 2, cells := 0, slots := 0, locals := 43 }) D cI cL ad zz [.ref (ad 55), .int 1, .int a2] σ τ (fun r σ' τ' => τ = τ' ∧ (∀ i : Nat, (i < 55 ∨ 55 < i) ∧ (i < 85 ∨ 85 < i) → σ' i = σ i) ∧ (∀ k : Nat, (k < 55 ∨ 55 < k) → σ' 55 k = σ 55 k) ∧ (∀ k : Nat, (k < 4 ∨ 4 < k) ∧ (k < 5 ∨ 5 < k) → σ' 85 k = σ 85 k) ∧ (σ' 55 55 = 6) ∧ (σ' 85 4 = 20) ∧ (σ' 85 5 = 1) ∧ ((r = ((a2 + (σ 55 57)) + 3) ∧ True))) := by
  refine jM.of hJ (by decide +kernel) (nt := .int) rfl (Nat.le_of_ble_eq_true rfl) ?_
  intro p e s m args below meth c Q ls hC hret hl hP
  obtain ⟨hx, hb, hr, hml, hown, hts, hK, -, hlocks, hZ⟩ := hC
  have hown : s.vm.findClass RX12 = some m.cls := hown
  have hS : va_S (jA ad) s.heap s.heap [] := va_S.rf
  have hA : ∀ q, jA ad q → jA ad q := fun _ h => h
  have hl : lv_has ls 3 [(0, .ref (ad 55)), (1, .int 1), (2, .int a2)] := hl
  have g2 := jrg t2
  refine lv_iload_n hx hb dX12_putsAs_0 rfl (lv_at hl 1 rfl) ?_
  refine lv_iconst (v := 4) hx hb dX12_putsAs_1 (by decide) ?_
  refine lv_icmp_ne (tgt := 20) hx hb dX12_putsAs_2 (by decide) (fun _ => ?_) (fun c => absurd c (by decide))
  refine lv_iload_n hx hb dX12_putsAs_20 rfl (lv_at hl 1 rfl) ?_
  refine lv_iconst (v := 1) hx hb dX12_putsAs_21 (by decide) ?_
  refine lv_icmp_ne (tgt := 40) hx hb dX12_putsAs_22 (by decide) (fun c => absurd (by decide) c) (fun _ => ?_)
  refine lv_aload_n hx hb dX12_putsAs_25 rfl (lv_at hl 0 rfl) ?_
  refine lv_bipush (v := 20) hx hb dX12_putsAs_26 (by decide) ?_
  refine jcallVv (As := [.int 20]) (rest := []) ⟨hx, hb, hml, hown, hts⟩ hK hP hA hS hZ (c_X12_begins_20_4 l D cI cL ad zz hJ σ τ h55_55) cw_RX12_379 (jc_55 cI cL ad σ τ) rfl ⟨Nat.le_of_ble_eq_true rfl, Nat.le_of_ble_eq_true rfl⟩ rfl rfl rfl hl.1 rfl (Nat.le_of_ble_eq_true rfl) dX12_putsAs_28 ⟨Nat.zero_le _, Nat.zero_le _⟩ (fun σ1 τ1 H locs h1 hP hS => ?_)
  obtain ⟨rfl, f3, f4, f5, m6, m7, h1⟩ := h1
  refine lv_aload_n hx hb dX12_putsAs_31 rfl (lv_at hl 0 rfl) ?_
  refine lv_iconst (v := 0) hx hb dX12_putsAs_32 (by decide) ?_
  refine lv_iload_n hx hb dX12_putsAs_33 rfl (lv_at hl 2 rfl) ?_
  have z8 : (σ1 55 56).toInt = (σ 55 56).toInt := (congrArg Int32.toInt (show σ1 55 56 = (σ 55 56) from (f4 56 (by decide))))
  refine jcallV (As := [.int 0, .int a2]) (rest := []) ⟨hx, hb, hml, hown, hts⟩ hK hP hA hS hZ (c_X12_putsAs_4_0_5 l D cI cL ad zz hJ σ1 τ a2 (A2) t2 m6 (by omega)) cw_RX12_382 (jc_55 cI cL ad σ1 τ) rfl ⟨Nat.le_of_ble_eq_true rfl, Nat.le_of_ble_eq_true rfl⟩ rfl rfl rfl hl.1 rfl (Nat.le_of_ble_eq_true rfl) dX12_putsAs_34 ⟨Nat.zero_le _, Nat.zero_le _⟩ (fun r10 σ9 τ9 H locs h9 hP hS => ?_)
  obtain ⟨rfl, f11, f12, f13, m14, m15, h9⟩ := h9
  have h16 := h9
  obtain ⟨q18, k17⟩ := h16
  have q18 := q18.symm
  subst q18
  refine lv_iconst (v := 3) hx hb dX12_putsAs_37 (by decide) ?_
  have g19 := jrg (rfl : (a2 + (σ1 55 57)).toInt = (a2 + (σ1 55 57)).toInt)
  refine lv_iadd hx hb dX12_putsAs_38 ?_
  refine lv_topi (fun x20 ex20 => ?_)
  have gx20 := jrg (rfl : x20.toInt = x20.toInt)
  have m21 : σ9 85 4 = 20 := ((f13 4 (by decide)).trans m7)
  exact hret x20 σ9 τ _ _ _ _ rfl ⟨rfl, (fun i hi => ((f11 i hi).trans (f3 i hi))), (fun i hi => ((f12 i hi).trans (f4 i hi))), (fun i hi => ((f13 i (imp_318 i hi)).trans (f5 i (imp_353 i hi)))), m14, m21, m15, ⟨(by rw [ex20, (show σ1 55 57 = σ 55 57 from (f4 57 (by decide)))]), trivial⟩⟩ hP hS dX12_putsAs_39
set_option maxHeartbeats 4000000 in
set_option maxRecDepth 100000 in
theorem c_X12_putsAs_4_4_3 (l : Launch) (D : va_G) (cI cL : ClassId) (ad zz : Nat → Nat) (hJ : jD ad) (σ : Nat → Nat → Int32) (τ : Nat → Nat → Int64) (a2 : Int32) (A2 : Int) (t2 : a2.toInt = A2) (h55_55 : σ 55 55 = 3) (hp0 : (σ 55 56).toInt = 4) : jM l yX12_putsAs cX12_putsAs 3 (some .int) ({ frames := 3, cells := 0, slots := 0, locals := 65 }) D cI cL ad zz [.ref (ad 55), .int 4, .int a2] σ τ (fun r σ' τ' => τ = τ' ∧ (∀ i : Nat, (i < 55 ∨ 55 < i) ∧ (i < 85 ∨ 85 < i) → σ' i = σ i) ∧ (∀ k : Nat, (k < 55 ∨ 55 < k) → σ' 55 k = σ 55 k) ∧ (∀ k : Nat, (k < 3 ∨ 3 < k) ∧ (k < 4 ∨ 4 < k) ∧ (k < 5 ∨ 5 < k) → σ' 85 k = σ 85 k) ∧ (σ' 55 55 = 6) ∧ (σ' 85 3 = 50) ∧ (σ' 85 4 = 20) ∧ (σ' 85 5 = 1) ∧ ((r = (((a2 + 1) + (σ 55 57)) + 3) ∧ True))) := by
  refine jM.of hJ (by decide +kernel) (nt := .int) rfl (Nat.le_of_ble_eq_true rfl) ?_
  intro p e s m args below meth c Q ls hC hret hl hP
  obtain ⟨hx, hb, hr, hml, hown, hts, hK, -, hlocks, hZ⟩ := hC
  have hown : s.vm.findClass RX12 = some m.cls := hown
  have hS : va_S (jA ad) s.heap s.heap [] := va_S.rf
  have hA : ∀ q, jA ad q → jA ad q := fun _ h => h
  have hl : lv_has ls 3 [(0, .ref (ad 55)), (1, .int 4), (2, .int a2)] := hl
  have g2 := jrg t2
  refine lv_iload_n hx hb dX12_putsAs_0 rfl (lv_at hl 1 rfl) ?_
  refine lv_iconst (v := 4) hx hb dX12_putsAs_1 (by decide) ?_
  refine lv_icmp_ne (tgt := 20) hx hb dX12_putsAs_2 (by decide) (fun c => absurd (by decide) c) (fun _ => ?_)
  refine lv_aload_n hx hb dX12_putsAs_5 rfl (lv_at hl 0 rfl) ?_
  refine lv_bipush (v := 50) hx hb dX12_putsAs_6 (by decide) ?_
  refine jcallVv (As := [.int 50]) (rest := []) ⟨hx, hb, hml, hown, hts⟩ hK hP hA hS hZ (c_X12_begins_50_3 l D cI cL ad zz hJ σ τ h55_55) cw_RX12_379 (jc_55 cI cL ad σ τ) rfl ⟨Nat.le_of_ble_eq_true rfl, Nat.le_of_ble_eq_true rfl⟩ rfl rfl rfl hl.1 rfl (Nat.le_of_ble_eq_true rfl) dX12_putsAs_8 ⟨Nat.zero_le _, Nat.zero_le _⟩ (fun σ1 τ1 H locs h1 hP hS => ?_)
  obtain ⟨rfl, f3, f4, f5, m6, m7, h1⟩ := h1
  refine lv_aload_n hx hb dX12_putsAs_11 rfl (lv_at hl 0 rfl) ?_
  refine lv_iconst (v := 1) hx hb dX12_putsAs_12 (by decide) ?_
  refine lv_iload_n hx hb dX12_putsAs_13 rfl (lv_at hl 2 rfl) ?_
  refine lv_iconst (v := 1) hx hb dX12_putsAs_14 (by decide) ?_
  refine lv_iadd hx hb dX12_putsAs_15 ?_
  refine lv_topi (fun x8 ex8 => ?_)
  have gx8 := jrg (rfl : x8.toInt = x8.toInt)
  have z9 : (σ1 55 56).toInt = (σ 55 56).toInt := (congrArg Int32.toInt (show σ1 55 56 = (σ 55 56) from (f4 56 (by decide))))
  refine jcallV (As := [.int 1, .int x8]) (rest := []) ⟨hx, hb, hml, hown, hts⟩ hK hP hA hS hZ (c_X12_putsAs_4_1_4 l D cI cL ad zz hJ σ1 τ x8 (x8.toInt) rfl m6 (by omega)) cw_RX12_382 (jc_55 cI cL ad σ1 τ) rfl ⟨Nat.le_of_ble_eq_true rfl, Nat.le_of_ble_eq_true rfl⟩ rfl rfl rfl hl.1 rfl (Nat.le_of_ble_eq_true rfl) dX12_putsAs_16 ⟨Nat.zero_le _, Nat.zero_le _⟩ (fun r11 σ10 τ10 H locs h10 hP hS => ?_)
  obtain ⟨rfl, f12, f13, f14, m15, m16, m17, h10⟩ := h10
  have h18 := h10
  obtain ⟨q20, k19⟩ := h18
  have q20 := q20.symm
  subst q20
  have m21 : σ10 85 3 = 50 := ((f14 3 (by decide)).trans m7)
  exact hret ((x8 + (σ1 55 57)) + 3) σ10 τ _ _ _ _ rfl ⟨rfl, (fun i hi => ((f12 i hi).trans (f3 i hi))), (fun i hi => ((f13 i hi).trans (f4 i hi))), (fun i hi => ((f14 i (imp_323 i hi)).trans (f5 i (imp_355 i hi)))), m15, m21, m16, m17, ⟨(by rw [ex8, (show σ1 55 57 = σ 55 57 from (f4 57 (by decide)))]), trivial⟩⟩ hP hS dX12_putsAs_19
set_option maxHeartbeats 4000000 in
set_option maxRecDepth 100000 in
theorem c_X12_holdsAs_4_4_2 (l : Launch) (D : va_G) (cI cL : ClassId) (ad zz : Nat → Nat) (hJ : jD ad) (σ : Nat → Nat → Int32) (τ : Nat → Nat → Int64) (a2 : Int32) (A2 : Int) (t2 : a2.toInt = A2) (h55_55 : σ 55 55 = 2) (hp0 : (σ 55 56).toInt = 4) : jM l yX12_holdsAs cX12_holdsAs 4 (some .int) ({ frames := 4, cells := 0, slots := 0, locals := 87 }) D cI cL ad zz [.ref (ad 55), .int 4, .int a2] σ τ (fun r σ' τ' => τ = τ' ∧ (∀ i : Nat, (i < 55 ∨ 55 < i) ∧ (i < 85 ∨ 85 < i) → σ' i = σ i) ∧ (∀ k : Nat, (k < 55 ∨ 55 < k) → σ' 55 k = σ 55 k) ∧ (∀ k : Nat, (k < 2 ∨ 2 < k) ∧ (k < 3 ∨ 3 < k) ∧ (k < 4 ∨ 4 < k) ∧ (k < 5 ∨ 5 < k) → σ' 85 k = σ 85 k) ∧ (σ' 55 55 = 6) ∧ (σ' 85 2 = 10) ∧ (σ' 85 3 = 50) ∧ (σ' 85 4 = 20) ∧ (σ' 85 5 = 1) ∧ ((r = ((((a2 + 1) + (σ 55 57)) + 3) * 2) ∧ True))) := by
  refine jM.of hJ (by decide +kernel) (nt := .int) rfl (Nat.le_of_ble_eq_true rfl) ?_
  intro p e s m args below meth c Q ls hC hret hl hP
  obtain ⟨hx, hb, hr, hml, hown, hts, hK, -, hlocks, hZ⟩ := hC
  have hown : s.vm.findClass RX12 = some m.cls := hown
  have hS : va_S (jA ad) s.heap s.heap [] := va_S.rf
  have hA : ∀ q, jA ad q → jA ad q := fun _ h => h
  have hl : lv_has ls 4 [(0, .ref (ad 55)), (1, .int 4), (2, .int a2)] := hl
  have g2 := jrg t2
  refine lv_iload_n hx hb dX12_holdsAs_0 rfl (lv_at hl 1 rfl) ?_
  refine lv_iconst (v := 3) hx hb dX12_holdsAs_1 (by decide) ?_
  refine lv_icmp_eq (tgt := 10) hx hb dX12_holdsAs_2 (by decide) (fun c => absurd c (by decide)) (fun _ => ?_)
  refine lv_iload_n hx hb dX12_holdsAs_5 rfl (lv_at hl 1 rfl) ?_
  refine lv_iconst (v := 5) hx hb dX12_holdsAs_6 (by decide) ?_
  refine lv_icmp_ne (tgt := 24) hx hb dX12_holdsAs_7 (by decide) (fun _ => ?_) (fun c => absurd c (by decide))
  refine lv_iload_n hx hb dX12_holdsAs_24 rfl (lv_at hl 1 rfl) ?_
  refine lv_bipush (v := 6) hx hb dX12_holdsAs_25 (by decide) ?_
  refine lv_icmp_ne (tgt := 55) hx hb dX12_holdsAs_27 (by decide) (fun _ => ?_) (fun c => absurd c (by decide))
  refine lv_aload_n hx hb dX12_holdsAs_55 rfl (lv_at hl 0 rfl) ?_
  refine lv_bipush (v := 10) hx hb dX12_holdsAs_56 (by decide) ?_
  refine jcallVv (As := [.int 10]) (rest := []) ⟨hx, hb, hml, hown, hts⟩ hK hP hA hS hZ (c_X12_begins_10_2 l D cI cL ad zz hJ σ τ h55_55) cw_RX12_379 (jc_55 cI cL ad σ τ) rfl ⟨Nat.le_of_ble_eq_true rfl, Nat.le_of_ble_eq_true rfl⟩ rfl rfl rfl hl.1 rfl (Nat.le_of_ble_eq_true rfl) dX12_holdsAs_58 ⟨Nat.zero_le _, Nat.zero_le _⟩ (fun σ1 τ1 H locs h1 hP hS => ?_)
  obtain ⟨rfl, f3, f4, f5, m6, m7, h1⟩ := h1
  refine lv_aload_n hx hb dX12_holdsAs_61 rfl (lv_at hl 0 rfl) ?_
  refine lv_aload_n hx hb dX12_holdsAs_62 rfl (lv_at hl 0 rfl) ?_
  refine va_get (D := D) hx hb hts inlX12 hown hK hP 55 (jc_55 cI cL ad σ1 τ) rfl 56 (by decide) (hts _ kw_49_8) (fun _ h9 => h9) rfl dX12_holdsAs_63 ?_
  have m8 : σ1 55 56 = (σ 55 56) := (f4 56 (by decide))
  refine jtopr m8 ?_
  refine jtopr (jsame (rfl : (σ 55 56).toInt = (σ 55 56).toInt) jz_4 (by omega)) ?_
  refine lv_iload_n hx hb dX12_holdsAs_66 rfl (lv_at hl 2 rfl) ?_
  have z9 : (σ1 55 56).toInt = (σ 55 56).toInt := (congrArg Int32.toInt (show σ1 55 56 = (σ 55 56) from m8))
  refine jcallV (As := [.int 4, .int a2]) (rest := []) ⟨hx, hb, hml, hown, hts⟩ hK hP hA hS hZ (c_X12_putsAs_4_4_3 l D cI cL ad zz hJ σ1 τ a2 (A2) t2 m6 (by omega)) cw_RX12_382 (jc_55 cI cL ad σ1 τ) rfl ⟨Nat.le_of_ble_eq_true rfl, Nat.le_of_ble_eq_true rfl⟩ rfl rfl rfl hl.1 rfl (Nat.le_of_ble_eq_true rfl) dX12_holdsAs_67 ⟨Nat.zero_le _, Nat.zero_le _⟩ (fun r11 σ10 τ10 H locs h10 hP hS => ?_)
  obtain ⟨rfl, f12, f13, f14, m15, m16, m17, m18, h10⟩ := h10
  have h19 := h10
  obtain ⟨q21, k20⟩ := h19
  have q21 := q21.symm
  subst q21
  refine lv_iconst (v := 2) hx hb dX12_holdsAs_70 (by decide) ?_
  have g22 := jrg (rfl : (((a2 + 1) + (σ1 55 57)) + 3).toInt = (((a2 + 1) + (σ1 55 57)) + 3).toInt)
  refine lv_imul hx hb dX12_holdsAs_71 ?_
  refine lv_topi (fun x23 ex23 => ?_)
  have gx23 := jrg (rfl : x23.toInt = x23.toInt)
  have m24 : σ10 85 2 = 10 := ((f14 2 (by decide)).trans m7)
  exact hret x23 σ10 τ _ _ _ _ rfl ⟨rfl, (fun i hi => ((f12 i hi).trans (f3 i hi))), (fun i hi => ((f13 i hi).trans (f4 i hi))), (fun i hi => ((f14 i (imp_325 i hi)).trans (f5 i (imp_356 i hi)))), m15, m24, m16, m17, m18, ⟨(by rw [ex23, (show σ1 55 57 = σ 55 57 from (f4 57 (by decide)))]), trivial⟩⟩ hP hS dX12_holdsAs_72
set_option maxHeartbeats 4000000 in
set_option maxRecDepth 100000 in
theorem c_X12_begins_11_6 (l : Launch) (D : va_G) (cI cL : ClassId) (ad zz : Nat → Nat) (hJ : jD ad) (σ : Nat → Nat → Int32) (τ : Nat → Nat → Int64) (h55_55 : σ 55 55 = 6) : jMv l yX12_begins cX12_begins 2 none ({ frames := 0, cells := 0, slots := 0, locals := 0 }) D cI cL ad zz [.ref (ad 55), .int 11] σ τ (fun σ' τ' => τ = τ' ∧ (∀ i : Nat, (i < 55 ∨ 55 < i) ∧ (i < 85 ∨ 85 < i) → σ' i = σ i) ∧ (∀ k : Nat, (k < 55 ∨ 55 < k) → σ' 55 k = σ 55 k) ∧ (∀ k : Nat, (k < 6 ∨ 6 < k) → σ' 85 k = σ 85 k) ∧ (σ' 55 55 = 7) ∧ (σ' 85 6 = 11) ∧ True) := by
  refine jMv.of hJ (by decide +kernel) rfl (Nat.le_of_ble_eq_true rfl) ?_
  intro p e s m args below meth c Q ls hC hret hl hP
  obtain ⟨hx, hb, hr, hml, hown, hts, hK, -, hlocks, hZ⟩ := hC
  have hown : s.vm.findClass RX12 = some m.cls := hown
  have hS : va_S (jA ad) s.heap s.heap [] := va_S.rf
  have hA : ∀ q, jA ad q → jA ad q := fun _ h => h
  have hl : lv_has ls 2 [(0, .ref (ad 55)), (1, .int 11)] := hl
  refine lv_aload_n hx hb dX12_begins_0 rfl (lv_at hl 0 rfl) ?_
  refine va_get (D := D) hx hb hts inlX12 hown hK hP 55 (jc_55 cI cL ad σ τ) rfl 55 (by decide) (hts _ kw_49_7) (fun _ h9 => h9) rfl dX12_begins_1 ?_
  refine jtopr h55_55 ?_
  refine lv_bipush (v := 24) hx hb dX12_begins_4 (by decide) ?_
  refine lv_icmp_ge (tgt := 19) hx hb dX12_begins_6 (by decide) (fun c => absurd c (by decide)) (fun _ => ?_)
  refine lv_aload_n hx hb dX12_begins_9 rfl (lv_at hl 0 rfl) ?_
  refine va_get (D := D) hx hb hts inlX12 hown hK hP 55 (jc_55 cI cL ad σ τ) rfl 54 (by decide) (hts _ kw_8_10) (fun _ h9 => h9) rfl dX12_begins_10 ?_
  refine lv_aload_n hx hb dX12_begins_13 rfl (lv_at hl 0 rfl) ?_
  refine va_get (D := D) hx hb hts inlX12 hown hK hP 55 (jc_55 cI cL ad σ τ) rfl 55 (by decide) (hts _ kw_49_7) (fun _ h9 => h9) rfl dX12_begins_14 ?_
  refine jtopr h55_55 ?_
  refine lv_iload_n hx hb dX12_begins_17 rfl (lv_at hl 1 rfl) ?_
  refine jast hx hb hK hP hJ hA hS (jc_85 cI cL ad σ τ) (ja_85 cI cL ad σ τ _ _) (jin jz_6 (by omega) (by omega)) dX12_begins_18 (fun σ1 H locs eσ1 hP hS => ?_)
  have eσ1 : σ1 = jup σ 85 6 11 := eσ1
  refine lv_aload_n hx hb dX12_begins_19 rfl (lv_at hl 0 rfl) ?_
  refine lv_dup hx hb dX12_begins_20 rfl ?_
  refine va_get (D := D) hx hb hts inlX12 hown hK hP 55 (jc_55 cI cL ad σ1 τ) rfl 55 (by decide) (hts _ kw_49_7) (fun _ h9 => h9) rfl dX12_begins_21 ?_
  have m2 : σ1 55 55 = 6 := ((congrFun (jnp 55 eσ1 (by decide)) 55).trans h55_55)
  refine jtopr m2 ?_
  refine lv_iconst (v := 1) hx hb dX12_begins_24 (by decide) ?_
  refine lv_iadd hx hb dX12_begins_25 ?_
  refine jtopr (y := 7) (by decide) ?_
  refine jput (ty := .int) hx hb hts inlX12 tyX12 tyX12_ok nmX12 hown hK hP hJ hA hS (jc_55 cI cL ad σ1 τ) rfl (k := 55) (by decide) (Nat.le_of_ble_eq_true rfl) (jp_55_55 cI cL ad σ1 τ 7) (hts _ kw_49_7) (fun _ h9 => h9) rfl (by decide +kernel) rfl rfl dX12_begins_26 (fun σ3 H locs eσ3 hP hS => ?_)
  have m4 : σ3 55 55 = 7 := (jsp eσ3)
  have m5 : σ3 85 6 = 11 := ((congrFun (jnp 85 eσ3 (by decide)) 6).trans (jsp eσ1))
  exact hret σ3 τ _ _ _ _ ⟨rfl, (fun i hi => ((jnp i eσ3 (imp_345 i hi)).trans (jnp i eσ1 (imp_346 i hi)))), (fun i hi => ((jkp i eσ3 (imp_164 i hi)).trans (congrFun (jnp 55 eσ1 (by decide)) i))), (fun i hi => ((congrFun (jnp 85 eσ3 (by decide)) i).trans (jkp i eσ1 (imp_163 i hi)))), m4, m5, trivial⟩ hP hS dX12_begins_29
set_option maxHeartbeats 4000000 in
set_option maxRecDepth 100000 in
theorem c_X12_givesAs_4_4_6_x1 (l : Launch) (D : va_G) (cI cL : ClassId) (ad zz : Nat → Nat) (hJ : jD ad) (σ : Nat → Nat → Int32) (τ : Nat → Nat → Int64) (h55_55 : σ 55 55 = 6) (hp0 : (σ 55 56).toInt = 4) : jM l yX12_givesAs cX12_givesAs 4 (some .int) ({ frames := 1, cells := 0, slots := 0, locals := 21 }) D cI cL ad zz [.ref (ad 55), .int 4, .int 1] σ τ (fun r σ' τ' => τ = τ' ∧ (∀ i : Nat, (i < 55 ∨ 55 < i) ∧ (i < 85 ∨ 85 < i) → σ' i = σ i) ∧ (∀ k : Nat, (k < 55 ∨ 55 < k) → σ' 55 k = σ 55 k) ∧ (∀ k : Nat, (k < 6 ∨ 6 < k) → σ' 85 k = σ 85 k) ∧ (σ' 55 55 = 7) ∧ (σ' 85 6 = 11) ∧ ((r = (1 ^^^ (σ 55 57)) ∧ True))) := by
  refine jM.of hJ (by decide +kernel) (nt := .int) rfl (Nat.le_of_ble_eq_true rfl) ?_
  intro p e s m args below meth c Q ls hC hret hl hP
  obtain ⟨hx, hb, hr, hml, hown, hts, hK, -, hlocks, hZ⟩ := hC
  have hown : s.vm.findClass RX12 = some m.cls := hown
  have hS : va_S (jA ad) s.heap s.heap [] := va_S.rf
  have hA : ∀ q, jA ad q → jA ad q := fun _ h => h
  have hl : lv_has ls 4 [(0, .ref (ad 55)), (1, .int 4), (2, .int 1)] := hl
  refine lv_iload_n hx hb dX12_givesAs_0 rfl (lv_at hl 1 rfl) ?_
  refine lv_iconst (v := 5) hx hb dX12_givesAs_1 (by decide) ?_
  refine lv_icmp_ne (tgt := 30) hx hb dX12_givesAs_2 (by decide) (fun _ => ?_) (fun c => absurd c (by decide))
  refine lv_iload_n hx hb dX12_givesAs_30 rfl (lv_at hl 1 rfl) ?_
  refine lv_iconst (v := 2) hx hb dX12_givesAs_31 (by decide) ?_
  refine lv_icmp_eq (tgt := 40) hx hb dX12_givesAs_32 (by decide) (fun c => absurd c (by decide)) (fun _ => ?_)
  refine lv_iload_n hx hb dX12_givesAs_35 rfl (lv_at hl 1 rfl) ?_
  refine lv_iconst (v := 3) hx hb dX12_givesAs_36 (by decide) ?_
  refine lv_icmp_ne (tgt := 55) hx hb dX12_givesAs_37 (by decide) (fun _ => ?_) (fun c => absurd c (by decide))
  refine lv_aload_n hx hb dX12_givesAs_55 rfl (lv_at hl 0 rfl) ?_
  refine lv_bipush (v := 11) hx hb dX12_givesAs_56 (by decide) ?_
  refine jcallVv (As := [.int 11]) (rest := []) ⟨hx, hb, hml, hown, hts⟩ hK hP hA hS hZ (c_X12_begins_11_6 l D cI cL ad zz hJ σ τ h55_55) cw_RX12_379 (jc_55 cI cL ad σ τ) rfl ⟨Nat.le_of_ble_eq_true rfl, Nat.le_of_ble_eq_true rfl⟩ rfl rfl rfl hl.1 rfl (Nat.le_of_ble_eq_true rfl) dX12_givesAs_58 ⟨Nat.zero_le _, Nat.zero_le _⟩ (fun σ1 τ1 H locs h1 hP hS => ?_)
  obtain ⟨rfl, f3, f4, f5, m6, m7, h1⟩ := h1
  refine lv_iload_n hx hb dX12_givesAs_61 rfl (lv_at hl 2 rfl) ?_
  refine lv_aload_n hx hb dX12_givesAs_62 rfl (lv_at hl 0 rfl) ?_
  refine va_get (D := D) hx hb hts inlX12 hown hK hP 55 (jc_55 cI cL ad σ1 τ) rfl 57 (by decide) (hts _ kw_49_9) (fun _ h9 => h9) rfl dX12_givesAs_63 ?_
  have m8 : σ1 55 57 = (σ 55 57) := (f4 57 (by decide))
  refine jtopr m8 ?_
  refine lv_ixor hx hb dX12_givesAs_66 ?_
  refine lv_topi (fun x9 ex9 => ?_)
  have gx9 := jrg (rfl : x9.toInt = x9.toInt)
  exact hret x9 σ1 τ _ _ _ _ rfl ⟨rfl, (fun i hi => (f3 i hi)), (fun i hi => (f4 i hi)), (fun i hi => (f5 i hi)), m6, m7, ⟨(by rw [ex9]), trivial⟩⟩ hP hS dX12_givesAs_67
set_option maxHeartbeats 4000000 in
set_option maxRecDepth 100000 in
theorem c_X12_tellsAs_4_1_1 (l : Launch) (D : va_G) (cI cL : ClassId) (ad zz : Nat → Nat) (hJ : jD ad) (σ : Nat → Nat → Int32) (τ : Nat → Nat → Int64) (a2 : Int32) (A2 : Int) (t2 : a2.toInt = A2) (h55_55 : σ 55 55 = 1) (hp0 : (σ 55 56).toInt = 4) : jM l yX12_tellsAs cX12_tellsAs 4 (some .int) ({ frames := 5, cells := 0, slots := 0, locals := 110 }) D cI cL ad zz [.ref (ad 55), .int 1, .int a2] σ τ (fun r σ' τ' => τ = τ' ∧ (∀ i : Nat, (i < 55 ∨ 55 < i) ∧ (i < 85 ∨ 85 < i) → σ' i = σ i) ∧ (∀ k : Nat, (k < 55 ∨ 55 < k) → σ' 55 k = σ 55 k) ∧ (∀ k : Nat, (k < 1 ∨ 1 < k) ∧ (k < 2 ∨ 2 < k) ∧ (k < 3 ∨ 3 < k) ∧ (k < 4 ∨ 4 < k) ∧ (k < 5 ∨ 5 < k) ∧ (k < 6 ∨ 6 < k) → σ' 85 k = σ 85 k) ∧ (σ' 55 55 = 7) ∧ (σ' 85 1 = 2) ∧ (σ' 85 2 = 10) ∧ (σ' 85 3 = 50) ∧ (σ' 85 4 = 20) ∧ (σ' 85 5 = 1) ∧ (σ' 85 6 = 11) ∧ ((r = (((((a2 + 1) + (σ 55 57)) + 3) * 2) - (1 ^^^ (σ 55 57))) ∧ True))) := by
  refine jM.of hJ (by decide +kernel) (nt := .int) rfl (Nat.le_of_ble_eq_true rfl) ?_
  intro p e s m args below meth c Q ls hC hret hl hP
  obtain ⟨hx, hb, hr, hml, hown, hts, hK, -, hlocks, hZ⟩ := hC
  have hown : s.vm.findClass RX12 = some m.cls := hown
  have hS : va_S (jA ad) s.heap s.heap [] := va_S.rf
  have hA : ∀ q, jA ad q → jA ad q := fun _ h => h
  have hl : lv_has ls 4 [(0, .ref (ad 55)), (1, .int 1), (2, .int a2)] := hl
  have g2 := jrg t2
  refine lv_iload_n hx hb dX12_tellsAs_0 rfl (lv_at hl 1 rfl) ?_
  refine lv_iconst (v := 4) hx hb dX12_tellsAs_1 (by decide) ?_
  refine lv_icmp_ne (tgt := 20) hx hb dX12_tellsAs_2 (by decide) (fun _ => ?_) (fun c => absurd c (by decide))
  refine lv_aload_n hx hb dX12_tellsAs_20 rfl (lv_at hl 0 rfl) ?_
  refine lv_iconst (v := 2) hx hb dX12_tellsAs_21 (by decide) ?_
  refine jcallVv (As := [.int 2]) (rest := []) ⟨hx, hb, hml, hown, hts⟩ hK hP hA hS hZ (c_X12_begins_2_1 l D cI cL ad zz hJ σ τ h55_55) cw_RX12_379 (jc_55 cI cL ad σ τ) rfl ⟨Nat.le_of_ble_eq_true rfl, Nat.le_of_ble_eq_true rfl⟩ rfl rfl rfl hl.1 rfl (Nat.le_of_ble_eq_true rfl) dX12_tellsAs_22 ⟨Nat.zero_le _, Nat.zero_le _⟩ (fun σ1 τ1 H locs h1 hP hS => ?_)
  obtain ⟨rfl, f3, f4, f5, m6, m7, h1⟩ := h1
  refine lv_aload_n hx hb dX12_tellsAs_25 rfl (lv_at hl 0 rfl) ?_
  refine lv_aload_n hx hb dX12_tellsAs_26 rfl (lv_at hl 0 rfl) ?_
  refine va_get (D := D) hx hb hts inlX12 hown hK hP 55 (jc_55 cI cL ad σ1 τ) rfl 56 (by decide) (hts _ kw_49_8) (fun _ h9 => h9) rfl dX12_tellsAs_27 ?_
  have m8 : σ1 55 56 = (σ 55 56) := (f4 56 (by decide))
  refine jtopr m8 ?_
  refine jtopr (jsame (rfl : (σ 55 56).toInt = (σ 55 56).toInt) jz_4 (by omega)) ?_
  refine lv_iload_n hx hb dX12_tellsAs_30 rfl (lv_at hl 2 rfl) ?_
  have z9 : (σ1 55 56).toInt = (σ 55 56).toInt := (congrArg Int32.toInt (show σ1 55 56 = (σ 55 56) from m8))
  refine jcallV (As := [.int 4, .int a2]) (rest := []) ⟨hx, hb, hml, hown, hts⟩ hK hP hA hS hZ (c_X12_holdsAs_4_4_2 l D cI cL ad zz hJ σ1 τ a2 (A2) t2 m6 (by omega)) cw_RX12_388 (jc_55 cI cL ad σ1 τ) rfl ⟨Nat.le_of_ble_eq_true rfl, Nat.le_of_ble_eq_true rfl⟩ rfl rfl rfl hl.1 rfl (Nat.le_of_ble_eq_true rfl) dX12_tellsAs_31 ⟨Nat.zero_le _, Nat.zero_le _⟩ (fun r11 σ10 τ10 H locs h10 hP hS => ?_)
  obtain ⟨rfl, f12, f13, f14, m15, m16, m17, m18, m19, h10⟩ := h10
  have h20 := h10
  obtain ⟨q22, k21⟩ := h20
  have q22 := q22.symm
  subst q22
  refine lv_istore_n (lv' := [(3, .int ((((a2 + 1) + (σ1 55 57)) + 3) * 2)), (0, .ref (ad 55)), (1, .int 1), (2, .int a2)]) hx hb dX12_tellsAs_34 rfl hl (by decide) rfl (fun ls hl => ?_)
  refine lv_iload_n hx hb dX12_tellsAs_35 rfl (lv_at hl 0 rfl) ?_
  refine lv_aload_n hx hb dX12_tellsAs_36 rfl (lv_at hl 1 rfl) ?_
  refine lv_aload_n hx hb dX12_tellsAs_37 rfl (lv_at hl 1 rfl) ?_
  refine va_get (D := D) hx hb hts inlX12 hown hK hP 55 (jc_55 cI cL ad σ10 τ) rfl 56 (by decide) (hts _ kw_49_8) (fun _ h9 => h9) rfl dX12_tellsAs_38 ?_
  have m23 : σ10 55 56 = (σ 55 56) := ((f13 56 (by decide)).trans m8)
  refine jtopr m23 ?_
  refine jtopr (jsame (rfl : (σ 55 56).toInt = (σ 55 56).toInt) jz_4 (by omega)) ?_
  refine lv_iconst (v := 1) hx hb dX12_tellsAs_41 (by decide) ?_
  have z24 : (σ10 55 56).toInt = (σ 55 56).toInt := (congrArg Int32.toInt (show σ10 55 56 = (σ 55 56) from m23))
  refine jcallV (As := [.int 4, .int 1]) (rest := [.int ((((a2 + 1) + (σ1 55 57)) + 3) * 2)]) ⟨hx, hb, hml, hown, hts⟩ hK hP hA hS hZ (c_X12_givesAs_4_4_6_x1 l D cI cL ad zz hJ σ10 τ m15 (by omega)) cw_RX12_394 (jc_55 cI cL ad σ10 τ) rfl ⟨Nat.le_of_ble_eq_true rfl, Nat.le_of_ble_eq_true rfl⟩ rfl rfl rfl hl.1 rfl (Nat.le_of_ble_eq_true rfl) dX12_tellsAs_42 ⟨Nat.zero_le _, Nat.zero_le _⟩ (fun r26 σ25 τ25 H locs h25 hP hS => ?_)
  obtain ⟨rfl, f27, f28, f29, m30, m31, h25⟩ := h25
  have h32 := h25
  obtain ⟨q34, k33⟩ := h32
  have q34 := q34.symm
  subst q34
  have g35 := jrg (rfl : ((((a2 + 1) + (σ1 55 57)) + 3) * 2).toInt = ((((a2 + 1) + (σ1 55 57)) + 3) * 2).toInt)
  have g36 := jrg (rfl : (1 ^^^ (σ10 55 57)).toInt = (1 ^^^ (σ10 55 57)).toInt)
  refine lv_isub hx hb dX12_tellsAs_45 ?_
  refine lv_topi (fun x37 ex37 => ?_)
  have gx37 := jrg (rfl : x37.toInt = x37.toInt)
  have m38 : σ25 85 1 = 2 := ((f29 1 (by decide)).trans ((f14 1 (by decide)).trans m7))
  have m39 : σ25 85 2 = 10 := ((f29 2 (by decide)).trans m16)
  have m40 : σ25 85 3 = 50 := ((f29 3 (by decide)).trans m17)
  have m41 : σ25 85 4 = 20 := ((f29 4 (by decide)).trans m18)
  have m42 : σ25 85 5 = 1 := ((f29 5 (by decide)).trans m19)
  exact hret x37 σ25 τ _ _ _ _ rfl ⟨rfl, (fun i hi => ((f27 i hi).trans ((f12 i hi).trans (f3 i hi)))), (fun i hi => ((f28 i hi).trans ((f13 i hi).trans (f4 i hi)))), (fun i hi => ((f29 i (imp_327 i hi)).trans ((f14 i (imp_328 i hi)).trans (f5 i (imp_357 i hi))))), m30, m38, m39, m40, m41, m42, m31, ⟨(by rw [ex37, (show σ1 55 57 = σ 55 57 from (f4 57 (by decide))), (show σ10 55 57 = σ 55 57 from ((f13 57 (by decide)).trans (f4 57 (by decide))))]), trivial⟩⟩ hP hS dX12_tellsAs_46
set_option maxHeartbeats 4000000 in
set_option maxRecDepth 100000 in
theorem c_X12_tellsAs_4_4_0 (l : Launch) (D : va_G) (cI cL : ClassId) (ad zz : Nat → Nat) (hJ : jD ad) (σ : Nat → Nat → Int32) (τ : Nat → Nat → Int64) (a2 : Int32) (A2 : Int) (t2 : a2.toInt = A2) (h55_55 : σ 55 55 = 0) (hp0 : (σ 55 56).toInt = 4) : jM l yX12_tellsAs cX12_tellsAs 4 (some .int) ({ frames := 6, cells := 0, slots := 0, locals := 133 }) D cI cL ad zz [.ref (ad 55), .int 4, .int a2] σ τ (fun r σ' τ' => τ = τ' ∧ (∀ i : Nat, (i < 55 ∨ 55 < i) ∧ (i < 85 ∨ 85 < i) → σ' i = σ i) ∧ (∀ k : Nat, (k < 55 ∨ 55 < k) → σ' 55 k = σ 55 k) ∧ (∀ k : Nat, (k < 0 ∨ 0 < k) ∧ (k < 1 ∨ 1 < k) ∧ (k < 2 ∨ 2 < k) ∧ (k < 3 ∨ 3 < k) ∧ (k < 4 ∨ 4 < k) ∧ (k < 5 ∨ 5 < k) ∧ (k < 6 ∨ 6 < k) → σ' 85 k = σ 85 k) ∧ (σ' 55 55 = 7) ∧ (σ' 85 0 = 51) ∧ (σ' 85 1 = 2) ∧ (σ' 85 2 = 10) ∧ (σ' 85 3 = 50) ∧ (σ' 85 4 = 20) ∧ (σ' 85 5 = 1) ∧ (σ' 85 6 = 11) ∧ ((r = ((((((a2 + 1) + (σ 55 57)) + 3) * 2) - (1 ^^^ (σ 55 57))) ^^^ 5) ∧ True))) := by
  refine jM.of hJ (by decide +kernel) (nt := .int) rfl (Nat.le_of_ble_eq_true rfl) ?_
  intro p e s m args below meth c Q ls hC hret hl hP
  obtain ⟨hx, hb, hr, hml, hown, hts, hK, -, hlocks, hZ⟩ := hC
  have hown : s.vm.findClass RX12 = some m.cls := hown
  have hS : va_S (jA ad) s.heap s.heap [] := va_S.rf
  have hA : ∀ q, jA ad q → jA ad q := fun _ h => h
  have hl : lv_has ls 4 [(0, .ref (ad 55)), (1, .int 4), (2, .int a2)] := hl
  have g2 := jrg t2
  refine lv_iload_n hx hb dX12_tellsAs_0 rfl (lv_at hl 1 rfl) ?_
  refine lv_iconst (v := 4) hx hb dX12_tellsAs_1 (by decide) ?_
  refine lv_icmp_ne (tgt := 20) hx hb dX12_tellsAs_2 (by decide) (fun c => absurd (by decide) c) (fun _ => ?_)
  refine lv_aload_n hx hb dX12_tellsAs_5 rfl (lv_at hl 0 rfl) ?_
  refine lv_bipush (v := 51) hx hb dX12_tellsAs_6 (by decide) ?_
  refine jcallVv (As := [.int 51]) (rest := []) ⟨hx, hb, hml, hown, hts⟩ hK hP hA hS hZ (c_X12_begins_51_0 l D cI cL ad zz hJ σ τ h55_55) cw_RX12_379 (jc_55 cI cL ad σ τ) rfl ⟨Nat.le_of_ble_eq_true rfl, Nat.le_of_ble_eq_true rfl⟩ rfl rfl rfl hl.1 rfl (Nat.le_of_ble_eq_true rfl) dX12_tellsAs_8 ⟨Nat.zero_le _, Nat.zero_le _⟩ (fun σ1 τ1 H locs h1 hP hS => ?_)
  obtain ⟨rfl, f3, f4, f5, m6, m7, h1⟩ := h1
  refine lv_aload_n hx hb dX12_tellsAs_11 rfl (lv_at hl 0 rfl) ?_
  refine lv_iconst (v := 1) hx hb dX12_tellsAs_12 (by decide) ?_
  refine lv_iload_n hx hb dX12_tellsAs_13 rfl (lv_at hl 2 rfl) ?_
  have z8 : (σ1 55 56).toInt = (σ 55 56).toInt := (congrArg Int32.toInt (show σ1 55 56 = (σ 55 56) from (f4 56 (by decide))))
  refine jcallV (As := [.int 1, .int a2]) (rest := []) ⟨hx, hb, hml, hown, hts⟩ hK hP hA hS hZ (c_X12_tellsAs_4_1_1 l D cI cL ad zz hJ σ1 τ a2 (A2) t2 m6 (by omega)) cw_RX12_397 (jc_55 cI cL ad σ1 τ) rfl ⟨Nat.le_of_ble_eq_true rfl, Nat.le_of_ble_eq_true rfl⟩ rfl rfl rfl hl.1 rfl (Nat.le_of_ble_eq_true rfl) dX12_tellsAs_14 ⟨Nat.zero_le _, Nat.zero_le _⟩ (fun r10 σ9 τ9 H locs h9 hP hS => ?_)
  obtain ⟨rfl, f11, f12, f13, m14, m15, m16, m17, m18, m19, m20, h9⟩ := h9
  have h21 := h9
  obtain ⟨q23, k22⟩ := h21
  have q23 := q23.symm
  subst q23
  refine lv_iconst (v := 5) hx hb dX12_tellsAs_17 (by decide) ?_
  refine lv_ixor hx hb dX12_tellsAs_18 ?_
  refine lv_topi (fun x24 ex24 => ?_)
  have gx24 := jrg (rfl : x24.toInt = x24.toInt)
  have m25 : σ9 85 0 = 51 := ((f13 0 (by decide)).trans m7)
  exact hret x24 σ9 τ _ _ _ _ rfl ⟨rfl, (fun i hi => ((f11 i hi).trans (f3 i hi))), (fun i hi => ((f12 i hi).trans (f4 i hi))), (fun i hi => ((f13 i (imp_330 i hi)).trans (f5 i (imp_358 i hi)))), m14, m25, m15, m16, m17, m18, m19, m20, ⟨(by rw [ex24, (show σ1 55 57 = σ 55 57 from (f4 57 (by decide)))]), trivial⟩⟩ hP hS dX12_tellsAs_19
set_option maxHeartbeats 4000000 in
set_option maxRecDepth 100000 in
theorem c_X12_putsAs_5_5_0 (l : Launch) (D : va_G) (cI cL : ClassId) (ad zz : Nat → Nat) (hJ : jD ad) (σ : Nat → Nat → Int32) (τ : Nat → Nat → Int64) (a2 : Int32) (A2 : Int) (t2 : a2.toInt = A2) (h55_55 : σ 55 55 = 0) (hp0 : (σ 55 56).toInt = 5) : jM l yX12_putsAs cX12_putsAs 3 (some .int) ({ frames := 1, cells := 0, slots := 0, locals := 21 }) D cI cL ad zz [.ref (ad 55), .int 5, .int a2] σ τ (fun r σ' τ' => τ = τ' ∧ (∀ i : Nat, (i < 55 ∨ 55 < i) ∧ (i < 85 ∨ 85 < i) → σ' i = σ i) ∧ (∀ k : Nat, (k < 55 ∨ 55 < k) → σ' 55 k = σ 55 k) ∧ (∀ k : Nat, (k < 0 ∨ 0 < k) → σ' 85 k = σ 85 k) ∧ (σ' 55 55 = 1) ∧ (σ' 85 0 = 1) ∧ ((r = (a2 + (σ 55 57)) ∧ True))) := by
  refine jM.of hJ (by decide +kernel) (nt := .int) rfl (Nat.le_of_ble_eq_true rfl) ?_
  intro p e s m args below meth c Q ls hC hret hl hP
  obtain ⟨hx, hb, hr, hml, hown, hts, hK, -, hlocks, hZ⟩ := hC
  have hown : s.vm.findClass RX12 = some m.cls := hown
  have hS : va_S (jA ad) s.heap s.heap [] := va_S.rf
  have hA : ∀ q, jA ad q → jA ad q := fun _ h => h
  have hl : lv_has ls 3 [(0, .ref (ad 55)), (1, .int 5), (2, .int a2)] := hl
  have g2 := jrg t2
  refine lv_iload_n hx hb dX12_putsAs_0 rfl (lv_at hl 1 rfl) ?_
  refine lv_iconst (v := 4) hx hb dX12_putsAs_1 (by decide) ?_
  refine lv_icmp_ne (tgt := 20) hx hb dX12_putsAs_2 (by decide) (fun _ => ?_) (fun c => absurd c (by decide))
  refine lv_iload_n hx hb dX12_putsAs_20 rfl (lv_at hl 1 rfl) ?_
  refine lv_iconst (v := 1) hx hb dX12_putsAs_21 (by decide) ?_
  refine lv_icmp_ne (tgt := 40) hx hb dX12_putsAs_22 (by decide) (fun _ => ?_) (fun c => absurd c (by decide))
  refine lv_aload_n hx hb dX12_putsAs_40 rfl (lv_at hl 0 rfl) ?_
  refine lv_iconst (v := 1) hx hb dX12_putsAs_41 (by decide) ?_
  refine jcallVv (As := [.int 1]) (rest := []) ⟨hx, hb, hml, hown, hts⟩ hK hP hA hS hZ (c_X12_begins_1_0 l D cI cL ad zz hJ σ τ h55_55) cw_RX12_379 (jc_55 cI cL ad σ τ) rfl ⟨Nat.le_of_ble_eq_true rfl, Nat.le_of_ble_eq_true rfl⟩ rfl rfl rfl hl.1 rfl (Nat.le_of_ble_eq_true rfl) dX12_putsAs_42 ⟨Nat.zero_le _, Nat.zero_le _⟩ (fun σ1 τ1 H locs h1 hP hS => ?_)
  obtain ⟨rfl, f3, f4, f5, m6, m7, h1⟩ := h1
  refine lv_iload_n hx hb dX12_putsAs_45 rfl (lv_at hl 2 rfl) ?_
  refine lv_aload_n hx hb dX12_putsAs_46 rfl (lv_at hl 0 rfl) ?_
  refine va_get (D := D) hx hb hts inlX12 hown hK hP 55 (jc_55 cI cL ad σ1 τ) rfl 57 (by decide) (hts _ kw_49_9) (fun _ h9 => h9) rfl dX12_putsAs_47 ?_
  have m8 : σ1 55 57 = (σ 55 57) := (f4 57 (by decide))
  refine jtopr m8 ?_
  have g9 := jrg (rfl : (σ 55 57).toInt = (σ 55 57).toInt)
  refine lv_iadd hx hb dX12_putsAs_50 ?_
  refine lv_topi (fun x10 ex10 => ?_)
  have gx10 := jrg (rfl : x10.toInt = x10.toInt)
  exact hret x10 σ1 τ _ _ _ _ rfl ⟨rfl, (fun i hi => (f3 i hi)), (fun i hi => (f4 i hi)), (fun i hi => (f5 i hi)), m6, m7, ⟨(by rw [ex10]), trivial⟩⟩ hP hS dX12_putsAs_51
set_option maxHeartbeats 4000000 in
set_option maxRecDepth 100000 in
theorem c_X12_putsAs_5_5_2 (l : Launch) (D : va_G) (cI cL : ClassId) (ad zz : Nat → Nat) (hJ : jD ad) (σ : Nat → Nat → Int32) (τ : Nat → Nat → Int64) (a2 : Int32) (A2 : Int) (t2 : a2.toInt = A2) (h55_55 : σ 55 55 = 2) (hp0 : (σ 55 56).toInt = 5) : jM l yX12_putsAs cX12_putsAs 3 (some .int) ({ frames := 1, cells := 0, slots := 0, locals := 21 }) D cI cL ad zz [.ref (ad 55), .int 5, .int a2] σ τ (fun r σ' τ' => τ = τ' ∧ (∀ i : Nat, (i < 55 ∨ 55 < i) ∧ (i < 85 ∨ 85 < i) → σ' i = σ i) ∧ (∀ k : Nat, (k < 55 ∨ 55 < k) → σ' 55 k = σ 55 k) ∧ (∀ k : Nat, (k < 2 ∨ 2 < k) → σ' 85 k = σ 85 k) ∧ (σ' 55 55 = 3) ∧ (σ' 85 2 = 1) ∧ ((r = (a2 + (σ 55 57)) ∧ True))) := by
  refine jM.of hJ (by decide +kernel) (nt := .int) rfl (Nat.le_of_ble_eq_true rfl) ?_
  intro p e s m args below meth c Q ls hC hret hl hP
  obtain ⟨hx, hb, hr, hml, hown, hts, hK, -, hlocks, hZ⟩ := hC
  have hown : s.vm.findClass RX12 = some m.cls := hown
  have hS : va_S (jA ad) s.heap s.heap [] := va_S.rf
  have hA : ∀ q, jA ad q → jA ad q := fun _ h => h
  have hl : lv_has ls 3 [(0, .ref (ad 55)), (1, .int 5), (2, .int a2)] := hl
  have g2 := jrg t2
  refine lv_iload_n hx hb dX12_putsAs_0 rfl (lv_at hl 1 rfl) ?_
  refine lv_iconst (v := 4) hx hb dX12_putsAs_1 (by decide) ?_
  refine lv_icmp_ne (tgt := 20) hx hb dX12_putsAs_2 (by decide) (fun _ => ?_) (fun c => absurd c (by decide))
  refine lv_iload_n hx hb dX12_putsAs_20 rfl (lv_at hl 1 rfl) ?_
  refine lv_iconst (v := 1) hx hb dX12_putsAs_21 (by decide) ?_
  refine lv_icmp_ne (tgt := 40) hx hb dX12_putsAs_22 (by decide) (fun _ => ?_) (fun c => absurd c (by decide))
  refine lv_aload_n hx hb dX12_putsAs_40 rfl (lv_at hl 0 rfl) ?_
  refine lv_iconst (v := 1) hx hb dX12_putsAs_41 (by decide) ?_
  refine jcallVv (As := [.int 1]) (rest := []) ⟨hx, hb, hml, hown, hts⟩ hK hP hA hS hZ (c_X12_begins_1_2 l D cI cL ad zz hJ σ τ h55_55) cw_RX12_379 (jc_55 cI cL ad σ τ) rfl ⟨Nat.le_of_ble_eq_true rfl, Nat.le_of_ble_eq_true rfl⟩ rfl rfl rfl hl.1 rfl (Nat.le_of_ble_eq_true rfl) dX12_putsAs_42 ⟨Nat.zero_le _, Nat.zero_le _⟩ (fun σ1 τ1 H locs h1 hP hS => ?_)
  obtain ⟨rfl, f3, f4, f5, m6, m7, h1⟩ := h1
  refine lv_iload_n hx hb dX12_putsAs_45 rfl (lv_at hl 2 rfl) ?_
  refine lv_aload_n hx hb dX12_putsAs_46 rfl (lv_at hl 0 rfl) ?_
  refine va_get (D := D) hx hb hts inlX12 hown hK hP 55 (jc_55 cI cL ad σ1 τ) rfl 57 (by decide) (hts _ kw_49_9) (fun _ h9 => h9) rfl dX12_putsAs_47 ?_
  have m8 : σ1 55 57 = (σ 55 57) := (f4 57 (by decide))
  refine jtopr m8 ?_
  have g9 := jrg (rfl : (σ 55 57).toInt = (σ 55 57).toInt)
  refine lv_iadd hx hb dX12_putsAs_50 ?_
  refine lv_topi (fun x10 ex10 => ?_)
  have gx10 := jrg (rfl : x10.toInt = x10.toInt)
  exact hret x10 σ1 τ _ _ _ _ rfl ⟨rfl, (fun i hi => (f3 i hi)), (fun i hi => (f4 i hi)), (fun i hi => (f5 i hi)), m6, m7, ⟨(by rw [ex10]), trivial⟩⟩ hP hS dX12_putsAs_51
set_option maxHeartbeats 4000000 in
set_option maxRecDepth 100000 in
theorem c_X12_holdsAs_5_0_1 (l : Launch) (D : va_G) (cI cL : ClassId) (ad zz : Nat → Nat) (hJ : jD ad) (σ : Nat → Nat → Int32) (τ : Nat → Nat → Int64) (a2 : Int32) (A2 : Int) (t2 : a2.toInt = A2) (h55_55 : σ 55 55 = 1) (hp0 : (σ 55 56).toInt = 5) : jM l yX12_holdsAs cX12_holdsAs 4 (some .int) ({ frames := 2, cells := 0, slots := 0, locals := 43 }) D cI cL ad zz [.ref (ad 55), .int 0, .int a2] σ τ (fun r σ' τ' => τ = τ' ∧ (∀ i : Nat, (i < 55 ∨ 55 < i) ∧ (i < 85 ∨ 85 < i) → σ' i = σ i) ∧ (∀ k : Nat, (k < 55 ∨ 55 < k) → σ' 55 k = σ 55 k) ∧ (∀ k : Nat, (k < 1 ∨ 1 < k) ∧ (k < 2 ∨ 2 < k) → σ' 85 k = σ 85 k) ∧ (σ' 55 55 = 3) ∧ (σ' 85 1 = 10) ∧ (σ' 85 2 = 1) ∧ ((r = ((a2 + (σ 55 57)) * 2) ∧ True))) := by
  refine jM.of hJ (by decide +kernel) (nt := .int) rfl (Nat.le_of_ble_eq_true rfl) ?_
  intro p e s m args below meth c Q ls hC hret hl hP
  obtain ⟨hx, hb, hr, hml, hown, hts, hK, -, hlocks, hZ⟩ := hC
  have hown : s.vm.findClass RX12 = some m.cls := hown
  have hS : va_S (jA ad) s.heap s.heap [] := va_S.rf
  have hA : ∀ q, jA ad q → jA ad q := fun _ h => h
  have hl : lv_has ls 4 [(0, .ref (ad 55)), (1, .int 0), (2, .int a2)] := hl
  have g2 := jrg t2
  refine lv_iload_n hx hb dX12_holdsAs_0 rfl (lv_at hl 1 rfl) ?_
  refine lv_iconst (v := 3) hx hb dX12_holdsAs_1 (by decide) ?_
  refine lv_icmp_eq (tgt := 10) hx hb dX12_holdsAs_2 (by decide) (fun c => absurd c (by decide)) (fun _ => ?_)
  refine lv_iload_n hx hb dX12_holdsAs_5 rfl (lv_at hl 1 rfl) ?_
  refine lv_iconst (v := 5) hx hb dX12_holdsAs_6 (by decide) ?_
  refine lv_icmp_ne (tgt := 24) hx hb dX12_holdsAs_7 (by decide) (fun _ => ?_) (fun c => absurd c (by decide))
  refine lv_iload_n hx hb dX12_holdsAs_24 rfl (lv_at hl 1 rfl) ?_
  refine lv_bipush (v := 6) hx hb dX12_holdsAs_25 (by decide) ?_
  refine lv_icmp_ne (tgt := 55) hx hb dX12_holdsAs_27 (by decide) (fun _ => ?_) (fun c => absurd c (by decide))
  refine lv_aload_n hx hb dX12_holdsAs_55 rfl (lv_at hl 0 rfl) ?_
  refine lv_bipush (v := 10) hx hb dX12_holdsAs_56 (by decide) ?_
  refine jcallVv (As := [.int 10]) (rest := []) ⟨hx, hb, hml, hown, hts⟩ hK hP hA hS hZ (c_X12_begins_10_1 l D cI cL ad zz hJ σ τ h55_55) cw_RX12_379 (jc_55 cI cL ad σ τ) rfl ⟨Nat.le_of_ble_eq_true rfl, Nat.le_of_ble_eq_true rfl⟩ rfl rfl rfl hl.1 rfl (Nat.le_of_ble_eq_true rfl) dX12_holdsAs_58 ⟨Nat.zero_le _, Nat.zero_le _⟩ (fun σ1 τ1 H locs h1 hP hS => ?_)
  obtain ⟨rfl, f3, f4, f5, m6, m7, h1⟩ := h1
  refine lv_aload_n hx hb dX12_holdsAs_61 rfl (lv_at hl 0 rfl) ?_
  refine lv_aload_n hx hb dX12_holdsAs_62 rfl (lv_at hl 0 rfl) ?_
  refine va_get (D := D) hx hb hts inlX12 hown hK hP 55 (jc_55 cI cL ad σ1 τ) rfl 56 (by decide) (hts _ kw_49_8) (fun _ h9 => h9) rfl dX12_holdsAs_63 ?_
  have m8 : σ1 55 56 = (σ 55 56) := (f4 56 (by decide))
  refine jtopr m8 ?_
  refine jtopr (jsame (rfl : (σ 55 56).toInt = (σ 55 56).toInt) jz_5 (by omega)) ?_
  refine lv_iload_n hx hb dX12_holdsAs_66 rfl (lv_at hl 2 rfl) ?_
  have z9 : (σ1 55 56).toInt = (σ 55 56).toInt := (congrArg Int32.toInt (show σ1 55 56 = (σ 55 56) from m8))
  refine jcallV (As := [.int 5, .int a2]) (rest := []) ⟨hx, hb, hml, hown, hts⟩ hK hP hA hS hZ (c_X12_putsAs_5_5_2 l D cI cL ad zz hJ σ1 τ a2 (A2) t2 m6 (by omega)) cw_RX12_382 (jc_55 cI cL ad σ1 τ) rfl ⟨Nat.le_of_ble_eq_true rfl, Nat.le_of_ble_eq_true rfl⟩ rfl rfl rfl hl.1 rfl (Nat.le_of_ble_eq_true rfl) dX12_holdsAs_67 ⟨Nat.zero_le _, Nat.zero_le _⟩ (fun r11 σ10 τ10 H locs h10 hP hS => ?_)
  obtain ⟨rfl, f12, f13, f14, m15, m16, h10⟩ := h10
  have h17 := h10
  obtain ⟨q19, k18⟩ := h17
  have q19 := q19.symm
  subst q19
  refine lv_iconst (v := 2) hx hb dX12_holdsAs_70 (by decide) ?_
  have g20 := jrg (rfl : (a2 + (σ1 55 57)).toInt = (a2 + (σ1 55 57)).toInt)
  refine lv_imul hx hb dX12_holdsAs_71 ?_
  refine lv_topi (fun x21 ex21 => ?_)
  have gx21 := jrg (rfl : x21.toInt = x21.toInt)
  have m22 : σ10 85 1 = 10 := ((f14 1 (by decide)).trans m7)
  exact hret x21 σ10 τ _ _ _ _ rfl ⟨rfl, (fun i hi => ((f12 i hi).trans (f3 i hi))), (fun i hi => ((f13 i hi).trans (f4 i hi))), (fun i hi => ((f14 i (imp_43 i hi)).trans (f5 i (imp_60 i hi)))), m15, m22, m16, ⟨(by rw [ex21, (show σ1 55 57 = σ 55 57 from (f4 57 (by decide)))]), trivial⟩⟩ hP hS dX12_holdsAs_72
set_option maxHeartbeats 4000000 in
set_option maxRecDepth 100000 in
theorem c_X12_holdsAs_5_5_0 (l : Launch) (D : va_G) (cI cL : ClassId) (ad zz : Nat → Nat) (hJ : jD ad) (σ : Nat → Nat → Int32) (τ : Nat → Nat → Int64) (a2 : Int32) (A2 : Int) (t2 : a2.toInt = A2) (h55_55 : σ 55 55 = 0) (hp0 : (σ 55 56).toInt = 5) : jM l yX12_holdsAs cX12_holdsAs 4 (some .int) ({ frames := 3, cells := 0, slots := 0, locals := 66 }) D cI cL ad zz [.ref (ad 55), .int 5, .int a2] σ τ (fun r σ' τ' => τ = τ' ∧ (∀ i : Nat, (i < 55 ∨ 55 < i) ∧ (i < 85 ∨ 85 < i) → σ' i = σ i) ∧ (∀ k : Nat, (k < 55 ∨ 55 < k) → σ' 55 k = σ 55 k) ∧ (∀ k : Nat, (k < 0 ∨ 0 < k) ∧ (k < 1 ∨ 1 < k) ∧ (k < 2 ∨ 2 < k) → σ' 85 k = σ 85 k) ∧ (σ' 55 55 = 3) ∧ (σ' 85 0 = 40) ∧ (σ' 85 1 = 10) ∧ (σ' 85 2 = 1) ∧ ((r = (-((a2 + (σ 55 57)) * 2)) ∧ True))) := by
  refine jM.of hJ (by decide +kernel) (nt := .int) rfl (Nat.le_of_ble_eq_true rfl) ?_
  intro p e s m args below meth c Q ls hC hret hl hP
  obtain ⟨hx, hb, hr, hml, hown, hts, hK, -, hlocks, hZ⟩ := hC
  have hown : s.vm.findClass RX12 = some m.cls := hown
  have hS : va_S (jA ad) s.heap s.heap [] := va_S.rf
  have hA : ∀ q, jA ad q → jA ad q := fun _ h => h
  have hl : lv_has ls 4 [(0, .ref (ad 55)), (1, .int 5), (2, .int a2)] := hl
  have g2 := jrg t2
  refine lv_iload_n hx hb dX12_holdsAs_0 rfl (lv_at hl 1 rfl) ?_
  refine lv_iconst (v := 3) hx hb dX12_holdsAs_1 (by decide) ?_
  refine lv_icmp_eq (tgt := 10) hx hb dX12_holdsAs_2 (by decide) (fun c => absurd c (by decide)) (fun _ => ?_)
  refine lv_iload_n hx hb dX12_holdsAs_5 rfl (lv_at hl 1 rfl) ?_
  refine lv_iconst (v := 5) hx hb dX12_holdsAs_6 (by decide) ?_
  refine lv_icmp_ne (tgt := 24) hx hb dX12_holdsAs_7 (by decide) (fun c => absurd (by decide) c) (fun _ => ?_)
  refine lv_aload_n hx hb dX12_holdsAs_10 rfl (lv_at hl 0 rfl) ?_
  refine lv_bipush (v := 40) hx hb dX12_holdsAs_11 (by decide) ?_
  refine jcallVv (As := [.int 40]) (rest := []) ⟨hx, hb, hml, hown, hts⟩ hK hP hA hS hZ (c_X12_begins_40_0 l D cI cL ad zz hJ σ τ h55_55) cw_RX12_379 (jc_55 cI cL ad σ τ) rfl ⟨Nat.le_of_ble_eq_true rfl, Nat.le_of_ble_eq_true rfl⟩ rfl rfl rfl hl.1 rfl (Nat.le_of_ble_eq_true rfl) dX12_holdsAs_13 ⟨Nat.zero_le _, Nat.zero_le _⟩ (fun σ1 τ1 H locs h1 hP hS => ?_)
  obtain ⟨rfl, f3, f4, f5, m6, m7, h1⟩ := h1
  refine lv_aload_n hx hb dX12_holdsAs_16 rfl (lv_at hl 0 rfl) ?_
  refine lv_iconst (v := 0) hx hb dX12_holdsAs_17 (by decide) ?_
  refine lv_iload_n hx hb dX12_holdsAs_18 rfl (lv_at hl 2 rfl) ?_
  have z8 : (σ1 55 56).toInt = (σ 55 56).toInt := (congrArg Int32.toInt (show σ1 55 56 = (σ 55 56) from (f4 56 (by decide))))
  refine jcallV (As := [.int 0, .int a2]) (rest := []) ⟨hx, hb, hml, hown, hts⟩ hK hP hA hS hZ (c_X12_holdsAs_5_0_1 l D cI cL ad zz hJ σ1 τ a2 (A2) t2 m6 (by omega)) cw_RX12_388 (jc_55 cI cL ad σ1 τ) rfl ⟨Nat.le_of_ble_eq_true rfl, Nat.le_of_ble_eq_true rfl⟩ rfl rfl rfl hl.1 rfl (Nat.le_of_ble_eq_true rfl) dX12_holdsAs_19 ⟨Nat.zero_le _, Nat.zero_le _⟩ (fun r10 σ9 τ9 H locs h9 hP hS => ?_)
  obtain ⟨rfl, f11, f12, f13, m14, m15, m16, h9⟩ := h9
  have h17 := h9
  obtain ⟨q19, k18⟩ := h17
  have q19 := q19.symm
  subst q19
  refine lv_ineg hx hb dX12_holdsAs_22 ?_
  refine lv_topi (fun x20 ex20 => ?_)
  have gx20 := jrg (rfl : x20.toInt = x20.toInt)
  have m21 : σ9 85 0 = 40 := ((f13 0 (by decide)).trans m7)
  exact hret x20 σ9 τ _ _ _ _ rfl ⟨rfl, (fun i hi => ((f11 i hi).trans (f3 i hi))), (fun i hi => ((f12 i hi).trans (f4 i hi))), (fun i hi => ((f13 i (imp_50 i hi)).trans (f5 i (imp_349 i hi)))), m14, m21, m15, m16, ⟨(by rw [ex20, (show σ1 55 57 = σ 55 57 from (f4 57 (by decide)))]), trivial⟩⟩ hP hS dX12_holdsAs_23
set_option maxHeartbeats 4000000 in
set_option maxRecDepth 100000 in
theorem c_X12_begins_60_0 (l : Launch) (D : va_G) (cI cL : ClassId) (ad zz : Nat → Nat) (hJ : jD ad) (σ : Nat → Nat → Int32) (τ : Nat → Nat → Int64) (h55_55 : σ 55 55 = 0) : jMv l yX12_begins cX12_begins 2 none ({ frames := 0, cells := 0, slots := 0, locals := 0 }) D cI cL ad zz [.ref (ad 55), .int 60] σ τ (fun σ' τ' => τ = τ' ∧ (∀ i : Nat, (i < 55 ∨ 55 < i) ∧ (i < 85 ∨ 85 < i) → σ' i = σ i) ∧ (∀ k : Nat, (k < 55 ∨ 55 < k) → σ' 55 k = σ 55 k) ∧ (∀ k : Nat, (k < 0 ∨ 0 < k) → σ' 85 k = σ 85 k) ∧ (σ' 55 55 = 1) ∧ (σ' 85 0 = 60) ∧ True) := by
  refine jMv.of hJ (by decide +kernel) rfl (Nat.le_of_ble_eq_true rfl) ?_
  intro p e s m args below meth c Q ls hC hret hl hP
  obtain ⟨hx, hb, hr, hml, hown, hts, hK, -, hlocks, hZ⟩ := hC
  have hown : s.vm.findClass RX12 = some m.cls := hown
  have hS : va_S (jA ad) s.heap s.heap [] := va_S.rf
  have hA : ∀ q, jA ad q → jA ad q := fun _ h => h
  have hl : lv_has ls 2 [(0, .ref (ad 55)), (1, .int 60)] := hl
  refine lv_aload_n hx hb dX12_begins_0 rfl (lv_at hl 0 rfl) ?_
  refine va_get (D := D) hx hb hts inlX12 hown hK hP 55 (jc_55 cI cL ad σ τ) rfl 55 (by decide) (hts _ kw_49_7) (fun _ h9 => h9) rfl dX12_begins_1 ?_
  refine jtopr h55_55 ?_
  refine lv_bipush (v := 24) hx hb dX12_begins_4 (by decide) ?_
  refine lv_icmp_ge (tgt := 19) hx hb dX12_begins_6 (by decide) (fun c => absurd c (by decide)) (fun _ => ?_)
  refine lv_aload_n hx hb dX12_begins_9 rfl (lv_at hl 0 rfl) ?_
  refine va_get (D := D) hx hb hts inlX12 hown hK hP 55 (jc_55 cI cL ad σ τ) rfl 54 (by decide) (hts _ kw_8_10) (fun _ h9 => h9) rfl dX12_begins_10 ?_
  refine lv_aload_n hx hb dX12_begins_13 rfl (lv_at hl 0 rfl) ?_
  refine va_get (D := D) hx hb hts inlX12 hown hK hP 55 (jc_55 cI cL ad σ τ) rfl 55 (by decide) (hts _ kw_49_7) (fun _ h9 => h9) rfl dX12_begins_14 ?_
  refine jtopr h55_55 ?_
  refine lv_iload_n hx hb dX12_begins_17 rfl (lv_at hl 1 rfl) ?_
  refine jast hx hb hK hP hJ hA hS (jc_85 cI cL ad σ τ) (ja_85 cI cL ad σ τ _ _) (jin jz_0 (by omega) (by omega)) dX12_begins_18 (fun σ1 H locs eσ1 hP hS => ?_)
  have eσ1 : σ1 = jup σ 85 0 60 := eσ1
  refine lv_aload_n hx hb dX12_begins_19 rfl (lv_at hl 0 rfl) ?_
  refine lv_dup hx hb dX12_begins_20 rfl ?_
  refine va_get (D := D) hx hb hts inlX12 hown hK hP 55 (jc_55 cI cL ad σ1 τ) rfl 55 (by decide) (hts _ kw_49_7) (fun _ h9 => h9) rfl dX12_begins_21 ?_
  have m2 : σ1 55 55 = 0 := ((congrFun (jnp 55 eσ1 (by decide)) 55).trans h55_55)
  refine jtopr m2 ?_
  refine lv_iconst (v := 1) hx hb dX12_begins_24 (by decide) ?_
  refine lv_iadd hx hb dX12_begins_25 ?_
  refine jtopr (y := 1) (by decide) ?_
  refine jput (ty := .int) hx hb hts inlX12 tyX12 tyX12_ok nmX12 hown hK hP hJ hA hS (jc_55 cI cL ad σ1 τ) rfl (k := 55) (by decide) (Nat.le_of_ble_eq_true rfl) (jp_55_55 cI cL ad σ1 τ 1) (hts _ kw_49_7) (fun _ h9 => h9) rfl (by decide +kernel) rfl rfl dX12_begins_26 (fun σ3 H locs eσ3 hP hS => ?_)
  have m4 : σ3 55 55 = 1 := (jsp eσ3)
  have m5 : σ3 85 0 = 60 := ((congrFun (jnp 85 eσ3 (by decide)) 0).trans (jsp eσ1))
  exact hret σ3 τ _ _ _ _ ⟨rfl, (fun i hi => ((jnp i eσ3 (imp_345 i hi)).trans (jnp i eσ1 (imp_346 i hi)))), (fun i hi => ((jkp i eσ3 (imp_164 i hi)).trans (congrFun (jnp 55 eσ1 (by decide)) i))), (fun i hi => ((congrFun (jnp 85 eσ3 (by decide)) i).trans (jkp i eσ1 (imp_4 i hi)))), m4, m5, trivial⟩ hP hS dX12_begins_29
set_option maxHeartbeats 4000000 in
set_option maxRecDepth 100000 in
theorem c_X12_begins_30_1 (l : Launch) (D : va_G) (cI cL : ClassId) (ad zz : Nat → Nat) (hJ : jD ad) (σ : Nat → Nat → Int32) (τ : Nat → Nat → Int64) (h55_55 : σ 55 55 = 1) : jMv l yX12_begins cX12_begins 2 none ({ frames := 0, cells := 0, slots := 0, locals := 0 }) D cI cL ad zz [.ref (ad 55), .int 30] σ τ (fun σ' τ' => τ = τ' ∧ (∀ i : Nat, (i < 55 ∨ 55 < i) ∧ (i < 85 ∨ 85 < i) → σ' i = σ i) ∧ (∀ k : Nat, (k < 55 ∨ 55 < k) → σ' 55 k = σ 55 k) ∧ (∀ k : Nat, (k < 1 ∨ 1 < k) → σ' 85 k = σ 85 k) ∧ (σ' 55 55 = 2) ∧ (σ' 85 1 = 30) ∧ True) := by
  refine jMv.of hJ (by decide +kernel) rfl (Nat.le_of_ble_eq_true rfl) ?_
  intro p e s m args below meth c Q ls hC hret hl hP
  obtain ⟨hx, hb, hr, hml, hown, hts, hK, -, hlocks, hZ⟩ := hC
  have hown : s.vm.findClass RX12 = some m.cls := hown
  have hS : va_S (jA ad) s.heap s.heap [] := va_S.rf
  have hA : ∀ q, jA ad q → jA ad q := fun _ h => h
  have hl : lv_has ls 2 [(0, .ref (ad 55)), (1, .int 30)] := hl
  refine lv_aload_n hx hb dX12_begins_0 rfl (lv_at hl 0 rfl) ?_
  refine va_get (D := D) hx hb hts inlX12 hown hK hP 55 (jc_55 cI cL ad σ τ) rfl 55 (by decide) (hts _ kw_49_7) (fun _ h9 => h9) rfl dX12_begins_1 ?_
  refine jtopr h55_55 ?_
  refine lv_bipush (v := 24) hx hb dX12_begins_4 (by decide) ?_
  refine lv_icmp_ge (tgt := 19) hx hb dX12_begins_6 (by decide) (fun c => absurd c (by decide)) (fun _ => ?_)
  refine lv_aload_n hx hb dX12_begins_9 rfl (lv_at hl 0 rfl) ?_
  refine va_get (D := D) hx hb hts inlX12 hown hK hP 55 (jc_55 cI cL ad σ τ) rfl 54 (by decide) (hts _ kw_8_10) (fun _ h9 => h9) rfl dX12_begins_10 ?_
  refine lv_aload_n hx hb dX12_begins_13 rfl (lv_at hl 0 rfl) ?_
  refine va_get (D := D) hx hb hts inlX12 hown hK hP 55 (jc_55 cI cL ad σ τ) rfl 55 (by decide) (hts _ kw_49_7) (fun _ h9 => h9) rfl dX12_begins_14 ?_
  refine jtopr h55_55 ?_
  refine lv_iload_n hx hb dX12_begins_17 rfl (lv_at hl 1 rfl) ?_
  refine jast hx hb hK hP hJ hA hS (jc_85 cI cL ad σ τ) (ja_85 cI cL ad σ τ _ _) (jin jz_1 (by omega) (by omega)) dX12_begins_18 (fun σ1 H locs eσ1 hP hS => ?_)
  have eσ1 : σ1 = jup σ 85 1 30 := eσ1
  refine lv_aload_n hx hb dX12_begins_19 rfl (lv_at hl 0 rfl) ?_
  refine lv_dup hx hb dX12_begins_20 rfl ?_
  refine va_get (D := D) hx hb hts inlX12 hown hK hP 55 (jc_55 cI cL ad σ1 τ) rfl 55 (by decide) (hts _ kw_49_7) (fun _ h9 => h9) rfl dX12_begins_21 ?_
  have m2 : σ1 55 55 = 1 := ((congrFun (jnp 55 eσ1 (by decide)) 55).trans h55_55)
  refine jtopr m2 ?_
  refine lv_iconst (v := 1) hx hb dX12_begins_24 (by decide) ?_
  refine lv_iadd hx hb dX12_begins_25 ?_
  refine jtopr (y := 2) (by decide) ?_
  refine jput (ty := .int) hx hb hts inlX12 tyX12 tyX12_ok nmX12 hown hK hP hJ hA hS (jc_55 cI cL ad σ1 τ) rfl (k := 55) (by decide) (Nat.le_of_ble_eq_true rfl) (jp_55_55 cI cL ad σ1 τ 2) (hts _ kw_49_7) (fun _ h9 => h9) rfl (by decide +kernel) rfl rfl dX12_begins_26 (fun σ3 H locs eσ3 hP hS => ?_)
  have m4 : σ3 55 55 = 2 := (jsp eσ3)
  have m5 : σ3 85 1 = 30 := ((congrFun (jnp 85 eσ3 (by decide)) 1).trans (jsp eσ1))
  exact hret σ3 τ _ _ _ _ ⟨rfl, (fun i hi => ((jnp i eσ3 (imp_345 i hi)).trans (jnp i eσ1 (imp_346 i hi)))), (fun i hi => ((jkp i eσ3 (imp_164 i hi)).trans (congrFun (jnp 55 eσ1 (by decide)) i))), (fun i hi => ((congrFun (jnp 85 eσ3 (by decide)) i).trans (jkp i eσ1 (imp_42 i hi)))), m4, m5, trivial⟩ hP hS dX12_begins_29
set_option maxHeartbeats 4000000 in
set_option maxRecDepth 100000 in
theorem c_X12_begins_11_2 (l : Launch) (D : va_G) (cI cL : ClassId) (ad zz : Nat → Nat) (hJ : jD ad) (σ : Nat → Nat → Int32) (τ : Nat → Nat → Int64) (h55_55 : σ 55 55 = 2) : jMv l yX12_begins cX12_begins 2 none ({ frames := 0, cells := 0, slots := 0, locals := 0 }) D cI cL ad zz [.ref (ad 55), .int 11] σ τ (fun σ' τ' => τ = τ' ∧ (∀ i : Nat, (i < 55 ∨ 55 < i) ∧ (i < 85 ∨ 85 < i) → σ' i = σ i) ∧ (∀ k : Nat, (k < 55 ∨ 55 < k) → σ' 55 k = σ 55 k) ∧ (∀ k : Nat, (k < 2 ∨ 2 < k) → σ' 85 k = σ 85 k) ∧ (σ' 55 55 = 3) ∧ (σ' 85 2 = 11) ∧ True) := by
  refine jMv.of hJ (by decide +kernel) rfl (Nat.le_of_ble_eq_true rfl) ?_
  intro p e s m args below meth c Q ls hC hret hl hP
  obtain ⟨hx, hb, hr, hml, hown, hts, hK, -, hlocks, hZ⟩ := hC
  have hown : s.vm.findClass RX12 = some m.cls := hown
  have hS : va_S (jA ad) s.heap s.heap [] := va_S.rf
  have hA : ∀ q, jA ad q → jA ad q := fun _ h => h
  have hl : lv_has ls 2 [(0, .ref (ad 55)), (1, .int 11)] := hl
  refine lv_aload_n hx hb dX12_begins_0 rfl (lv_at hl 0 rfl) ?_
  refine va_get (D := D) hx hb hts inlX12 hown hK hP 55 (jc_55 cI cL ad σ τ) rfl 55 (by decide) (hts _ kw_49_7) (fun _ h9 => h9) rfl dX12_begins_1 ?_
  refine jtopr h55_55 ?_
  refine lv_bipush (v := 24) hx hb dX12_begins_4 (by decide) ?_
  refine lv_icmp_ge (tgt := 19) hx hb dX12_begins_6 (by decide) (fun c => absurd c (by decide)) (fun _ => ?_)
  refine lv_aload_n hx hb dX12_begins_9 rfl (lv_at hl 0 rfl) ?_
  refine va_get (D := D) hx hb hts inlX12 hown hK hP 55 (jc_55 cI cL ad σ τ) rfl 54 (by decide) (hts _ kw_8_10) (fun _ h9 => h9) rfl dX12_begins_10 ?_
  refine lv_aload_n hx hb dX12_begins_13 rfl (lv_at hl 0 rfl) ?_
  refine va_get (D := D) hx hb hts inlX12 hown hK hP 55 (jc_55 cI cL ad σ τ) rfl 55 (by decide) (hts _ kw_49_7) (fun _ h9 => h9) rfl dX12_begins_14 ?_
  refine jtopr h55_55 ?_
  refine lv_iload_n hx hb dX12_begins_17 rfl (lv_at hl 1 rfl) ?_
  refine jast hx hb hK hP hJ hA hS (jc_85 cI cL ad σ τ) (ja_85 cI cL ad σ τ _ _) (jin jz_2 (by omega) (by omega)) dX12_begins_18 (fun σ1 H locs eσ1 hP hS => ?_)
  have eσ1 : σ1 = jup σ 85 2 11 := eσ1
  refine lv_aload_n hx hb dX12_begins_19 rfl (lv_at hl 0 rfl) ?_
  refine lv_dup hx hb dX12_begins_20 rfl ?_
  refine va_get (D := D) hx hb hts inlX12 hown hK hP 55 (jc_55 cI cL ad σ1 τ) rfl 55 (by decide) (hts _ kw_49_7) (fun _ h9 => h9) rfl dX12_begins_21 ?_
  have m2 : σ1 55 55 = 2 := ((congrFun (jnp 55 eσ1 (by decide)) 55).trans h55_55)
  refine jtopr m2 ?_
  refine lv_iconst (v := 1) hx hb dX12_begins_24 (by decide) ?_
  refine lv_iadd hx hb dX12_begins_25 ?_
  refine jtopr (y := 3) (by decide) ?_
  refine jput (ty := .int) hx hb hts inlX12 tyX12 tyX12_ok nmX12 hown hK hP hJ hA hS (jc_55 cI cL ad σ1 τ) rfl (k := 55) (by decide) (Nat.le_of_ble_eq_true rfl) (jp_55_55 cI cL ad σ1 τ 3) (hts _ kw_49_7) (fun _ h9 => h9) rfl (by decide +kernel) rfl rfl dX12_begins_26 (fun σ3 H locs eσ3 hP hS => ?_)
  have m4 : σ3 55 55 = 3 := (jsp eσ3)
  have m5 : σ3 85 2 = 11 := ((congrFun (jnp 85 eσ3 (by decide)) 2).trans (jsp eσ1))
  exact hret σ3 τ _ _ _ _ ⟨rfl, (fun i hi => ((jnp i eσ3 (imp_345 i hi)).trans (jnp i eσ1 (imp_346 i hi)))), (fun i hi => ((jkp i eσ3 (imp_164 i hi)).trans (congrFun (jnp 55 eσ1 (by decide)) i))), (fun i hi => ((congrFun (jnp 85 eσ3 (by decide)) i).trans (jkp i eσ1 (imp_7 i hi)))), m4, m5, trivial⟩ hP hS dX12_begins_29
set_option maxHeartbeats 4000000 in
set_option maxRecDepth 100000 in
theorem c_X12_givesAs_5_0_2 (l : Launch) (D : va_G) (cI cL : ClassId) (ad zz : Nat → Nat) (hJ : jD ad) (σ : Nat → Nat → Int32) (τ : Nat → Nat → Int64) (a2 : Int32) (A2 : Int) (t2 : a2.toInt = A2) (h55_55 : σ 55 55 = 2) (hp0 : (σ 55 56).toInt = 5) : jM l yX12_givesAs cX12_givesAs 4 (some .int) ({ frames := 1, cells := 0, slots := 0, locals := 21 }) D cI cL ad zz [.ref (ad 55), .int 0, .int a2] σ τ (fun r σ' τ' => τ = τ' ∧ (∀ i : Nat, (i < 55 ∨ 55 < i) ∧ (i < 85 ∨ 85 < i) → σ' i = σ i) ∧ (∀ k : Nat, (k < 55 ∨ 55 < k) → σ' 55 k = σ 55 k) ∧ (∀ k : Nat, (k < 2 ∨ 2 < k) → σ' 85 k = σ 85 k) ∧ (σ' 55 55 = 3) ∧ (σ' 85 2 = 11) ∧ ((r = (a2 ^^^ (σ 55 57)) ∧ True))) := by
  refine jM.of hJ (by decide +kernel) (nt := .int) rfl (Nat.le_of_ble_eq_true rfl) ?_
  intro p e s m args below meth c Q ls hC hret hl hP
  obtain ⟨hx, hb, hr, hml, hown, hts, hK, -, hlocks, hZ⟩ := hC
  have hown : s.vm.findClass RX12 = some m.cls := hown
  have hS : va_S (jA ad) s.heap s.heap [] := va_S.rf
  have hA : ∀ q, jA ad q → jA ad q := fun _ h => h
  have hl : lv_has ls 4 [(0, .ref (ad 55)), (1, .int 0), (2, .int a2)] := hl
  have g2 := jrg t2
  refine lv_iload_n hx hb dX12_givesAs_0 rfl (lv_at hl 1 rfl) ?_
  refine lv_iconst (v := 5) hx hb dX12_givesAs_1 (by decide) ?_
  refine lv_icmp_ne (tgt := 30) hx hb dX12_givesAs_2 (by decide) (fun _ => ?_) (fun c => absurd c (by decide))
  refine lv_iload_n hx hb dX12_givesAs_30 rfl (lv_at hl 1 rfl) ?_
  refine lv_iconst (v := 2) hx hb dX12_givesAs_31 (by decide) ?_
  refine lv_icmp_eq (tgt := 40) hx hb dX12_givesAs_32 (by decide) (fun c => absurd c (by decide)) (fun _ => ?_)
  refine lv_iload_n hx hb dX12_givesAs_35 rfl (lv_at hl 1 rfl) ?_
  refine lv_iconst (v := 3) hx hb dX12_givesAs_36 (by decide) ?_
  refine lv_icmp_ne (tgt := 55) hx hb dX12_givesAs_37 (by decide) (fun _ => ?_) (fun c => absurd c (by decide))
  refine lv_aload_n hx hb dX12_givesAs_55 rfl (lv_at hl 0 rfl) ?_
  refine lv_bipush (v := 11) hx hb dX12_givesAs_56 (by decide) ?_
  refine jcallVv (As := [.int 11]) (rest := []) ⟨hx, hb, hml, hown, hts⟩ hK hP hA hS hZ (c_X12_begins_11_2 l D cI cL ad zz hJ σ τ h55_55) cw_RX12_379 (jc_55 cI cL ad σ τ) rfl ⟨Nat.le_of_ble_eq_true rfl, Nat.le_of_ble_eq_true rfl⟩ rfl rfl rfl hl.1 rfl (Nat.le_of_ble_eq_true rfl) dX12_givesAs_58 ⟨Nat.zero_le _, Nat.zero_le _⟩ (fun σ1 τ1 H locs h1 hP hS => ?_)
  obtain ⟨rfl, f3, f4, f5, m6, m7, h1⟩ := h1
  refine lv_iload_n hx hb dX12_givesAs_61 rfl (lv_at hl 2 rfl) ?_
  refine lv_aload_n hx hb dX12_givesAs_62 rfl (lv_at hl 0 rfl) ?_
  refine va_get (D := D) hx hb hts inlX12 hown hK hP 55 (jc_55 cI cL ad σ1 τ) rfl 57 (by decide) (hts _ kw_49_9) (fun _ h9 => h9) rfl dX12_givesAs_63 ?_
  have m8 : σ1 55 57 = (σ 55 57) := (f4 57 (by decide))
  refine jtopr m8 ?_
  refine lv_ixor hx hb dX12_givesAs_66 ?_
  refine lv_topi (fun x9 ex9 => ?_)
  have gx9 := jrg (rfl : x9.toInt = x9.toInt)
  exact hret x9 σ1 τ _ _ _ _ rfl ⟨rfl, (fun i hi => (f3 i hi)), (fun i hi => (f4 i hi)), (fun i hi => (f5 i hi)), m6, m7, ⟨(by rw [ex9]), trivial⟩⟩ hP hS dX12_givesAs_67
set_option maxHeartbeats 4000000 in
set_option maxRecDepth 100000 in
theorem c_X12_givesAs_5_3_1 (l : Launch) (D : va_G) (cI cL : ClassId) (ad zz : Nat → Nat) (hJ : jD ad) (σ : Nat → Nat → Int32) (τ : Nat → Nat → Int64) (a2 : Int32) (A2 : Int) (t2 : a2.toInt = A2) (h55_55 : σ 55 55 = 1) (hp0 : (σ 55 56).toInt = 5) : jM l yX12_givesAs cX12_givesAs 4 (some .int) ({ frames := 2, cells := 0, slots := 0, locals := 44 }) D cI cL ad zz [.ref (ad 55), .int 3, .int a2] σ τ (fun r σ' τ' => τ = τ' ∧ (∀ i : Nat, (i < 55 ∨ 55 < i) ∧ (i < 85 ∨ 85 < i) → σ' i = σ i) ∧ (∀ k : Nat, (k < 55 ∨ 55 < k) → σ' 55 k = σ 55 k) ∧ (∀ k : Nat, (k < 1 ∨ 1 < k) ∧ (k < 2 ∨ 2 < k) → σ' 85 k = σ 85 k) ∧ (σ' 55 55 = 3) ∧ (σ' 85 1 = 30) ∧ (σ' 85 2 = 11) ∧ ((r = ((a2 ^^^ (σ 55 57)) * 3) ∧ True))) := by
  refine jM.of hJ (by decide +kernel) (nt := .int) rfl (Nat.le_of_ble_eq_true rfl) ?_
  intro p e s m args below meth c Q ls hC hret hl hP
  obtain ⟨hx, hb, hr, hml, hown, hts, hK, -, hlocks, hZ⟩ := hC
  have hown : s.vm.findClass RX12 = some m.cls := hown
  have hS : va_S (jA ad) s.heap s.heap [] := va_S.rf
  have hA : ∀ q, jA ad q → jA ad q := fun _ h => h
  have hl : lv_has ls 4 [(0, .ref (ad 55)), (1, .int 3), (2, .int a2)] := hl
  have g2 := jrg t2
  refine lv_iload_n hx hb dX12_givesAs_0 rfl (lv_at hl 1 rfl) ?_
  refine lv_iconst (v := 5) hx hb dX12_givesAs_1 (by decide) ?_
  refine lv_icmp_ne (tgt := 30) hx hb dX12_givesAs_2 (by decide) (fun _ => ?_) (fun c => absurd c (by decide))
  refine lv_iload_n hx hb dX12_givesAs_30 rfl (lv_at hl 1 rfl) ?_
  refine lv_iconst (v := 2) hx hb dX12_givesAs_31 (by decide) ?_
  refine lv_icmp_eq (tgt := 40) hx hb dX12_givesAs_32 (by decide) (fun c => absurd c (by decide)) (fun _ => ?_)
  refine lv_iload_n hx hb dX12_givesAs_35 rfl (lv_at hl 1 rfl) ?_
  refine lv_iconst (v := 3) hx hb dX12_givesAs_36 (by decide) ?_
  refine lv_icmp_ne (tgt := 55) hx hb dX12_givesAs_37 (by decide) (fun c => absurd (by decide) c) (fun _ => ?_)
  refine lv_aload_n hx hb dX12_givesAs_40 rfl (lv_at hl 0 rfl) ?_
  refine lv_bipush (v := 30) hx hb dX12_givesAs_41 (by decide) ?_
  refine jcallVv (As := [.int 30]) (rest := []) ⟨hx, hb, hml, hown, hts⟩ hK hP hA hS hZ (c_X12_begins_30_1 l D cI cL ad zz hJ σ τ h55_55) cw_RX12_379 (jc_55 cI cL ad σ τ) rfl ⟨Nat.le_of_ble_eq_true rfl, Nat.le_of_ble_eq_true rfl⟩ rfl rfl rfl hl.1 rfl (Nat.le_of_ble_eq_true rfl) dX12_givesAs_43 ⟨Nat.zero_le _, Nat.zero_le _⟩ (fun σ1 τ1 H locs h1 hP hS => ?_)
  obtain ⟨rfl, f3, f4, f5, m6, m7, h1⟩ := h1
  refine lv_aload_n hx hb dX12_givesAs_46 rfl (lv_at hl 0 rfl) ?_
  refine lv_iconst (v := 0) hx hb dX12_givesAs_47 (by decide) ?_
  refine lv_iload_n hx hb dX12_givesAs_48 rfl (lv_at hl 2 rfl) ?_
  have z8 : (σ1 55 56).toInt = (σ 55 56).toInt := (congrArg Int32.toInt (show σ1 55 56 = (σ 55 56) from (f4 56 (by decide))))
  refine jcallV (As := [.int 0, .int a2]) (rest := []) ⟨hx, hb, hml, hown, hts⟩ hK hP hA hS hZ (c_X12_givesAs_5_0_2 l D cI cL ad zz hJ σ1 τ a2 (A2) t2 m6 (by omega)) cw_RX12_394 (jc_55 cI cL ad σ1 τ) rfl ⟨Nat.le_of_ble_eq_true rfl, Nat.le_of_ble_eq_true rfl⟩ rfl rfl rfl hl.1 rfl (Nat.le_of_ble_eq_true rfl) dX12_givesAs_49 ⟨Nat.zero_le _, Nat.zero_le _⟩ (fun r10 σ9 τ9 H locs h9 hP hS => ?_)
  obtain ⟨rfl, f11, f12, f13, m14, m15, h9⟩ := h9
  have h16 := h9
  obtain ⟨q18, k17⟩ := h16
  have q18 := q18.symm
  subst q18
  refine lv_iconst (v := 3) hx hb dX12_givesAs_52 (by decide) ?_
  have g19 := jrg (rfl : (a2 ^^^ (σ1 55 57)).toInt = (a2 ^^^ (σ1 55 57)).toInt)
  refine lv_imul hx hb dX12_givesAs_53 ?_
  refine lv_topi (fun x20 ex20 => ?_)
  have gx20 := jrg (rfl : x20.toInt = x20.toInt)
  have m21 : σ9 85 1 = 30 := ((f13 1 (by decide)).trans m7)
  exact hret x20 σ9 τ _ _ _ _ rfl ⟨rfl, (fun i hi => ((f11 i hi).trans (f3 i hi))), (fun i hi => ((f12 i hi).trans (f4 i hi))), (fun i hi => ((f13 i (imp_43 i hi)).trans (f5 i (imp_60 i hi)))), m14, m21, m15, ⟨(by rw [ex20, (show σ1 55 57 = σ 55 57 from (f4 57 (by decide)))]), trivial⟩⟩ hP hS dX12_givesAs_54
set_option maxHeartbeats 4000000 in
set_option maxRecDepth 100000 in
theorem c_X12_putsAs_5_5_3_x2 (l : Launch) (D : va_G) (cI cL : ClassId) (ad zz : Nat → Nat) (hJ : jD ad) (σ : Nat → Nat → Int32) (τ : Nat → Nat → Int64) (h55_55 : σ 55 55 = 3) (hp0 : (σ 55 56).toInt = 5) : jM l yX12_putsAs cX12_putsAs 3 (some .int) ({ frames := 1, cells := 0, slots := 0, locals := 21 }) D cI cL ad zz [.ref (ad 55), .int 5, .int 2] σ τ (fun r σ' τ' => τ = τ' ∧ (∀ i : Nat, (i < 55 ∨ 55 < i) ∧ (i < 85 ∨ 85 < i) → σ' i = σ i) ∧ (∀ k : Nat, (k < 55 ∨ 55 < k) → σ' 55 k = σ 55 k) ∧ (∀ k : Nat, (k < 3 ∨ 3 < k) → σ' 85 k = σ 85 k) ∧ (σ' 55 55 = 4) ∧ (σ' 85 3 = 1) ∧ ((r = (2 + (σ 55 57)) ∧ True))) := by
  refine jM.of hJ (by decide +kernel) (nt := .int) rfl (Nat.le_of_ble_eq_true rfl) ?_
  intro p e s m args below meth c Q ls hC hret hl hP
  obtain ⟨hx, hb, hr, hml, hown, hts, hK, -, hlocks, hZ⟩ := hC
  have hown : s.vm.findClass RX12 = some m.cls := hown
  have hS : va_S (jA ad) s.heap s.heap [] := va_S.rf
  have hA : ∀ q, jA ad q → jA ad q := fun _ h => h
  have hl : lv_has ls 3 [(0, .ref (ad 55)), (1, .int 5), (2, .int 2)] := hl
  refine lv_iload_n hx hb dX12_putsAs_0 rfl (lv_at hl 1 rfl) ?_
  refine lv_iconst (v := 4) hx hb dX12_putsAs_1 (by decide) ?_
  refine lv_icmp_ne (tgt := 20) hx hb dX12_putsAs_2 (by decide) (fun _ => ?_) (fun c => absurd c (by decide))
  refine lv_iload_n hx hb dX12_putsAs_20 rfl (lv_at hl 1 rfl) ?_
  refine lv_iconst (v := 1) hx hb dX12_putsAs_21 (by decide) ?_
  refine lv_icmp_ne (tgt := 40) hx hb dX12_putsAs_22 (by decide) (fun _ => ?_) (fun c => absurd c (by decide))
  refine lv_aload_n hx hb dX12_putsAs_40 rfl (lv_at hl 0 rfl) ?_
  refine lv_iconst (v := 1) hx hb dX12_putsAs_41 (by decide) ?_
  refine jcallVv (As := [.int 1]) (rest := []) ⟨hx, hb, hml, hown, hts⟩ hK hP hA hS hZ (c_X12_begins_1_3 l D cI cL ad zz hJ σ τ h55_55) cw_RX12_379 (jc_55 cI cL ad σ τ) rfl ⟨Nat.le_of_ble_eq_true rfl, Nat.le_of_ble_eq_true rfl⟩ rfl rfl rfl hl.1 rfl (Nat.le_of_ble_eq_true rfl) dX12_putsAs_42 ⟨Nat.zero_le _, Nat.zero_le _⟩ (fun σ1 τ1 H locs h1 hP hS => ?_)
  obtain ⟨rfl, f3, f4, f5, m6, m7, h1⟩ := h1
  refine lv_iload_n hx hb dX12_putsAs_45 rfl (lv_at hl 2 rfl) ?_
  refine lv_aload_n hx hb dX12_putsAs_46 rfl (lv_at hl 0 rfl) ?_
  refine va_get (D := D) hx hb hts inlX12 hown hK hP 55 (jc_55 cI cL ad σ1 τ) rfl 57 (by decide) (hts _ kw_49_9) (fun _ h9 => h9) rfl dX12_putsAs_47 ?_
  have m8 : σ1 55 57 = (σ 55 57) := (f4 57 (by decide))
  refine jtopr m8 ?_
  have g9 := jrg (rfl : (σ 55 57).toInt = (σ 55 57).toInt)
  refine lv_iadd hx hb dX12_putsAs_50 ?_
  refine lv_topi (fun x10 ex10 => ?_)
  have gx10 := jrg (rfl : x10.toInt = x10.toInt)
  exact hret x10 σ1 τ _ _ _ _ rfl ⟨rfl, (fun i hi => (f3 i hi)), (fun i hi => (f4 i hi)), (fun i hi => (f5 i hi)), m6, m7, ⟨(by rw [ex10]), trivial⟩⟩ hP hS dX12_putsAs_51
set_option maxHeartbeats 4000000 in
set_option maxRecDepth 100000 in
theorem c_X12_givesAs_5_5_0 (l : Launch) (D : va_G) (cI cL : ClassId) (ad zz : Nat → Nat) (hJ : jD ad) (σ : Nat → Nat → Int32) (τ : Nat → Nat → Int64) (a2 : Int32) (A2 : Int) (t2 : a2.toInt = A2) (h55_55 : σ 55 55 = 0) (hp0 : (σ 55 56).toInt = 5) : jM l yX12_givesAs cX12_givesAs 4 (some .int) ({ frames := 3, cells := 0, slots := 0, locals := 67 }) D cI cL ad zz [.ref (ad 55), .int 5, .int a2] σ τ (fun r σ' τ' => τ = τ' ∧ (∀ i : Nat, (i < 55 ∨ 55 < i) ∧ (i < 85 ∨ 85 < i) → σ' i = σ i) ∧ (∀ k : Nat, (k < 55 ∨ 55 < k) → σ' 55 k = σ 55 k) ∧ (∀ k : Nat, (k < 0 ∨ 0 < k) ∧ (k < 1 ∨ 1 < k) ∧ (k < 2 ∨ 2 < k) ∧ (k < 3 ∨ 3 < k) → σ' 85 k = σ 85 k) ∧ (σ' 55 55 = 4) ∧ (σ' 85 0 = 60) ∧ (σ' 85 1 = 30) ∧ (σ' 85 2 = 11) ∧ (σ' 85 3 = 1) ∧ ((r = (((a2 ^^^ (σ 55 57)) * 3) - (2 + (σ 55 57))) ∧ True))) := by
  refine jM.of hJ (by decide +kernel) (nt := .int) rfl (Nat.le_of_ble_eq_true rfl) ?_
  intro p e s m args below meth c Q ls hC hret hl hP
  obtain ⟨hx, hb, hr, hml, hown, hts, hK, -, hlocks, hZ⟩ := hC
  have hown : s.vm.findClass RX12 = some m.cls := hown
  have hS : va_S (jA ad) s.heap s.heap [] := va_S.rf
  have hA : ∀ q, jA ad q → jA ad q := fun _ h => h
  have hl : lv_has ls 4 [(0, .ref (ad 55)), (1, .int 5), (2, .int a2)] := hl
  have g2 := jrg t2
  refine lv_iload_n hx hb dX12_givesAs_0 rfl (lv_at hl 1 rfl) ?_
  refine lv_iconst (v := 5) hx hb dX12_givesAs_1 (by decide) ?_
  refine lv_icmp_ne (tgt := 30) hx hb dX12_givesAs_2 (by decide) (fun c => absurd (by decide) c) (fun _ => ?_)
  refine lv_aload_n hx hb dX12_givesAs_5 rfl (lv_at hl 0 rfl) ?_
  refine lv_bipush (v := 60) hx hb dX12_givesAs_6 (by decide) ?_
  refine jcallVv (As := [.int 60]) (rest := []) ⟨hx, hb, hml, hown, hts⟩ hK hP hA hS hZ (c_X12_begins_60_0 l D cI cL ad zz hJ σ τ h55_55) cw_RX12_379 (jc_55 cI cL ad σ τ) rfl ⟨Nat.le_of_ble_eq_true rfl, Nat.le_of_ble_eq_true rfl⟩ rfl rfl rfl hl.1 rfl (Nat.le_of_ble_eq_true rfl) dX12_givesAs_8 ⟨Nat.zero_le _, Nat.zero_le _⟩ (fun σ1 τ1 H locs h1 hP hS => ?_)
  obtain ⟨rfl, f3, f4, f5, m6, m7, h1⟩ := h1
  refine lv_aload_n hx hb dX12_givesAs_11 rfl (lv_at hl 0 rfl) ?_
  refine lv_iconst (v := 3) hx hb dX12_givesAs_12 (by decide) ?_
  refine lv_iload_n hx hb dX12_givesAs_13 rfl (lv_at hl 2 rfl) ?_
  have z8 : (σ1 55 56).toInt = (σ 55 56).toInt := (congrArg Int32.toInt (show σ1 55 56 = (σ 55 56) from (f4 56 (by decide))))
  refine jcallV (As := [.int 3, .int a2]) (rest := []) ⟨hx, hb, hml, hown, hts⟩ hK hP hA hS hZ (c_X12_givesAs_5_3_1 l D cI cL ad zz hJ σ1 τ a2 (A2) t2 m6 (by omega)) cw_RX12_394 (jc_55 cI cL ad σ1 τ) rfl ⟨Nat.le_of_ble_eq_true rfl, Nat.le_of_ble_eq_true rfl⟩ rfl rfl rfl hl.1 rfl (Nat.le_of_ble_eq_true rfl) dX12_givesAs_14 ⟨Nat.zero_le _, Nat.zero_le _⟩ (fun r10 σ9 τ9 H locs h9 hP hS => ?_)
  obtain ⟨rfl, f11, f12, f13, m14, m15, m16, h9⟩ := h9
  have h17 := h9
  obtain ⟨q19, k18⟩ := h17
  have q19 := q19.symm
  subst q19
  refine lv_istore_n (lv' := [(3, .int ((a2 ^^^ (σ1 55 57)) * 3)), (0, .ref (ad 55)), (1, .int 5), (2, .int a2)]) hx hb dX12_givesAs_17 rfl hl (by decide) rfl (fun ls hl => ?_)
  refine lv_iload_n hx hb dX12_givesAs_18 rfl (lv_at hl 0 rfl) ?_
  refine lv_aload_n hx hb dX12_givesAs_19 rfl (lv_at hl 1 rfl) ?_
  refine lv_aload_n hx hb dX12_givesAs_20 rfl (lv_at hl 1 rfl) ?_
  refine va_get (D := D) hx hb hts inlX12 hown hK hP 55 (jc_55 cI cL ad σ9 τ) rfl 56 (by decide) (hts _ kw_49_8) (fun _ h9 => h9) rfl dX12_givesAs_21 ?_
  have m20 : σ9 55 56 = (σ 55 56) := ((f12 56 (by decide)).trans (f4 56 (by decide)))
  refine jtopr m20 ?_
  refine jtopr (jsame (rfl : (σ 55 56).toInt = (σ 55 56).toInt) jz_5 (by omega)) ?_
  refine lv_iconst (v := 2) hx hb dX12_givesAs_24 (by decide) ?_
  have z21 : (σ9 55 56).toInt = (σ 55 56).toInt := (congrArg Int32.toInt (show σ9 55 56 = (σ 55 56) from m20))
  refine jcallV (As := [.int 5, .int 2]) (rest := [.int ((a2 ^^^ (σ1 55 57)) * 3)]) ⟨hx, hb, hml, hown, hts⟩ hK hP hA hS hZ (c_X12_putsAs_5_5_3_x2 l D cI cL ad zz hJ σ9 τ m14 (by omega)) cw_RX12_382 (jc_55 cI cL ad σ9 τ) rfl ⟨Nat.le_of_ble_eq_true rfl, Nat.le_of_ble_eq_true rfl⟩ rfl rfl rfl hl.1 rfl (Nat.le_of_ble_eq_true rfl) dX12_givesAs_25 ⟨Nat.zero_le _, Nat.zero_le _⟩ (fun r23 σ22 τ22 H locs h22 hP hS => ?_)
  obtain ⟨rfl, f24, f25, f26, m27, m28, h22⟩ := h22
  have h29 := h22
  obtain ⟨q31, k30⟩ := h29
  have q31 := q31.symm
  subst q31
  have g32 := jrg (rfl : ((a2 ^^^ (σ1 55 57)) * 3).toInt = ((a2 ^^^ (σ1 55 57)) * 3).toInt)
  have g33 := jrg (rfl : (2 + (σ9 55 57)).toInt = (2 + (σ9 55 57)).toInt)
  refine lv_isub hx hb dX12_givesAs_28 ?_
  refine lv_topi (fun x34 ex34 => ?_)
  have gx34 := jrg (rfl : x34.toInt = x34.toInt)
  have m35 : σ22 85 0 = 60 := ((f26 0 (by decide)).trans ((f13 0 (by decide)).trans m7))
  have m36 : σ22 85 1 = 30 := ((f26 1 (by decide)).trans m15)
  have m37 : σ22 85 2 = 11 := ((f26 2 (by decide)).trans m16)
  exact hret x34 σ22 τ _ _ _ _ rfl ⟨rfl, (fun i hi => ((f24 i hi).trans ((f11 i hi).trans (f3 i hi)))), (fun i hi => ((f25 i hi).trans ((f12 i hi).trans (f4 i hi)))), (fun i hi => ((f26 i (imp_304 i hi)).trans ((f13 i (imp_305 i hi)).trans (f5 i (imp_348 i hi))))), m27, m35, m36, m37, m28, ⟨(by rw [ex34, (show σ1 55 57 = σ 55 57 from (f4 57 (by decide))), (show σ9 55 57 = σ 55 57 from ((f12 57 (by decide)).trans (f4 57 (by decide))))]), trivial⟩⟩ hP hS dX12_givesAs_29
set_option maxHeartbeats 4000000 in
set_option maxRecDepth 100000 in
theorem c_X12_putsAs_5_5_3 (l : Launch) (D : va_G) (cI cL : ClassId) (ad zz : Nat → Nat) (hJ : jD ad) (σ : Nat → Nat → Int32) (τ : Nat → Nat → Int64) (a2 : Int32) (A2 : Int) (t2 : a2.toInt = A2) (h55_55 : σ 55 55 = 3) (hp0 : (σ 55 56).toInt = 5) : jM l yX12_putsAs cX12_putsAs 3 (some .int) ({ frames := 1, cells := 0, slots := 0, locals := 21 }) D cI cL ad zz [.ref (ad 55), .int 5, .int a2] σ τ (fun r σ' τ' => τ = τ' ∧ (∀ i : Nat, (i < 55 ∨ 55 < i) ∧ (i < 85 ∨ 85 < i) → σ' i = σ i) ∧ (∀ k : Nat, (k < 55 ∨ 55 < k) → σ' 55 k = σ 55 k) ∧ (∀ k : Nat, (k < 3 ∨ 3 < k) → σ' 85 k = σ 85 k) ∧ (σ' 55 55 = 4) ∧ (σ' 85 3 = 1) ∧ ((r = (a2 + (σ 55 57)) ∧ True))) := by
  refine jM.of hJ (by decide +kernel) (nt := .int) rfl (Nat.le_of_ble_eq_true rfl) ?_
  intro p e s m args below meth c Q ls hC hret hl hP
  obtain ⟨hx, hb, hr, hml, hown, hts, hK, -, hlocks, hZ⟩ := hC
  have hown : s.vm.findClass RX12 = some m.cls := hown
  have hS : va_S (jA ad) s.heap s.heap [] := va_S.rf
  have hA : ∀ q, jA ad q → jA ad q := fun _ h => h
  have hl : lv_has ls 3 [(0, .ref (ad 55)), (1, .int 5), (2, .int a2)] := hl
  have g2 := jrg t2
  refine lv_iload_n hx hb dX12_putsAs_0 rfl (lv_at hl 1 rfl) ?_
  refine lv_iconst (v := 4) hx hb dX12_putsAs_1 (by decide) ?_
  refine lv_icmp_ne (tgt := 20) hx hb dX12_putsAs_2 (by decide) (fun _ => ?_) (fun c => absurd c (by decide))
  refine lv_iload_n hx hb dX12_putsAs_20 rfl (lv_at hl 1 rfl) ?_
  refine lv_iconst (v := 1) hx hb dX12_putsAs_21 (by decide) ?_
  refine lv_icmp_ne (tgt := 40) hx hb dX12_putsAs_22 (by decide) (fun _ => ?_) (fun c => absurd c (by decide))
  refine lv_aload_n hx hb dX12_putsAs_40 rfl (lv_at hl 0 rfl) ?_
  refine lv_iconst (v := 1) hx hb dX12_putsAs_41 (by decide) ?_
  refine jcallVv (As := [.int 1]) (rest := []) ⟨hx, hb, hml, hown, hts⟩ hK hP hA hS hZ (c_X12_begins_1_3 l D cI cL ad zz hJ σ τ h55_55) cw_RX12_379 (jc_55 cI cL ad σ τ) rfl ⟨Nat.le_of_ble_eq_true rfl, Nat.le_of_ble_eq_true rfl⟩ rfl rfl rfl hl.1 rfl (Nat.le_of_ble_eq_true rfl) dX12_putsAs_42 ⟨Nat.zero_le _, Nat.zero_le _⟩ (fun σ1 τ1 H locs h1 hP hS => ?_)
  obtain ⟨rfl, f3, f4, f5, m6, m7, h1⟩ := h1
  refine lv_iload_n hx hb dX12_putsAs_45 rfl (lv_at hl 2 rfl) ?_
  refine lv_aload_n hx hb dX12_putsAs_46 rfl (lv_at hl 0 rfl) ?_
  refine va_get (D := D) hx hb hts inlX12 hown hK hP 55 (jc_55 cI cL ad σ1 τ) rfl 57 (by decide) (hts _ kw_49_9) (fun _ h9 => h9) rfl dX12_putsAs_47 ?_
  have m8 : σ1 55 57 = (σ 55 57) := (f4 57 (by decide))
  refine jtopr m8 ?_
  have g9 := jrg (rfl : (σ 55 57).toInt = (σ 55 57).toInt)
  refine lv_iadd hx hb dX12_putsAs_50 ?_
  refine lv_topi (fun x10 ex10 => ?_)
  have gx10 := jrg (rfl : x10.toInt = x10.toInt)
  exact hret x10 σ1 τ _ _ _ _ rfl ⟨rfl, (fun i hi => (f3 i hi)), (fun i hi => (f4 i hi)), (fun i hi => (f5 i hi)), m6, m7, ⟨(by rw [ex10]), trivial⟩⟩ hP hS dX12_putsAs_51
set_option maxHeartbeats 4000000 in
set_option maxRecDepth 100000 in
theorem c_X12_holdsAs_5_0_2 (l : Launch) (D : va_G) (cI cL : ClassId) (ad zz : Nat → Nat) (hJ : jD ad) (σ : Nat → Nat → Int32) (τ : Nat → Nat → Int64) (a2 : Int32) (A2 : Int) (t2 : a2.toInt = A2) (h55_55 : σ 55 55 = 2) (hp0 : (σ 55 56).toInt = 5) : jM l yX12_holdsAs cX12_holdsAs 4 (some .int) ({ frames := 2, cells := 0, slots := 0, locals := 43 }) D cI cL ad zz [.ref (ad 55), .int 0, .int a2] σ τ (fun r σ' τ' => τ = τ' ∧ (∀ i : Nat, (i < 55 ∨ 55 < i) ∧ (i < 85 ∨ 85 < i) → σ' i = σ i) ∧ (∀ k : Nat, (k < 55 ∨ 55 < k) → σ' 55 k = σ 55 k) ∧ (∀ k : Nat, (k < 2 ∨ 2 < k) ∧ (k < 3 ∨ 3 < k) → σ' 85 k = σ 85 k) ∧ (σ' 55 55 = 4) ∧ (σ' 85 2 = 10) ∧ (σ' 85 3 = 1) ∧ ((r = ((a2 + (σ 55 57)) * 2) ∧ True))) := by
  refine jM.of hJ (by decide +kernel) (nt := .int) rfl (Nat.le_of_ble_eq_true rfl) ?_
  intro p e s m args below meth c Q ls hC hret hl hP
  obtain ⟨hx, hb, hr, hml, hown, hts, hK, -, hlocks, hZ⟩ := hC
  have hown : s.vm.findClass RX12 = some m.cls := hown
  have hS : va_S (jA ad) s.heap s.heap [] := va_S.rf
  have hA : ∀ q, jA ad q → jA ad q := fun _ h => h
  have hl : lv_has ls 4 [(0, .ref (ad 55)), (1, .int 0), (2, .int a2)] := hl
  have g2 := jrg t2
  refine lv_iload_n hx hb dX12_holdsAs_0 rfl (lv_at hl 1 rfl) ?_
  refine lv_iconst (v := 3) hx hb dX12_holdsAs_1 (by decide) ?_
  refine lv_icmp_eq (tgt := 10) hx hb dX12_holdsAs_2 (by decide) (fun c => absurd c (by decide)) (fun _ => ?_)
  refine lv_iload_n hx hb dX12_holdsAs_5 rfl (lv_at hl 1 rfl) ?_
  refine lv_iconst (v := 5) hx hb dX12_holdsAs_6 (by decide) ?_
  refine lv_icmp_ne (tgt := 24) hx hb dX12_holdsAs_7 (by decide) (fun _ => ?_) (fun c => absurd c (by decide))
  refine lv_iload_n hx hb dX12_holdsAs_24 rfl (lv_at hl 1 rfl) ?_
  refine lv_bipush (v := 6) hx hb dX12_holdsAs_25 (by decide) ?_
  refine lv_icmp_ne (tgt := 55) hx hb dX12_holdsAs_27 (by decide) (fun _ => ?_) (fun c => absurd c (by decide))
  refine lv_aload_n hx hb dX12_holdsAs_55 rfl (lv_at hl 0 rfl) ?_
  refine lv_bipush (v := 10) hx hb dX12_holdsAs_56 (by decide) ?_
  refine jcallVv (As := [.int 10]) (rest := []) ⟨hx, hb, hml, hown, hts⟩ hK hP hA hS hZ (c_X12_begins_10_2 l D cI cL ad zz hJ σ τ h55_55) cw_RX12_379 (jc_55 cI cL ad σ τ) rfl ⟨Nat.le_of_ble_eq_true rfl, Nat.le_of_ble_eq_true rfl⟩ rfl rfl rfl hl.1 rfl (Nat.le_of_ble_eq_true rfl) dX12_holdsAs_58 ⟨Nat.zero_le _, Nat.zero_le _⟩ (fun σ1 τ1 H locs h1 hP hS => ?_)
  obtain ⟨rfl, f3, f4, f5, m6, m7, h1⟩ := h1
  refine lv_aload_n hx hb dX12_holdsAs_61 rfl (lv_at hl 0 rfl) ?_
  refine lv_aload_n hx hb dX12_holdsAs_62 rfl (lv_at hl 0 rfl) ?_
  refine va_get (D := D) hx hb hts inlX12 hown hK hP 55 (jc_55 cI cL ad σ1 τ) rfl 56 (by decide) (hts _ kw_49_8) (fun _ h9 => h9) rfl dX12_holdsAs_63 ?_
  have m8 : σ1 55 56 = (σ 55 56) := (f4 56 (by decide))
  refine jtopr m8 ?_
  refine jtopr (jsame (rfl : (σ 55 56).toInt = (σ 55 56).toInt) jz_5 (by omega)) ?_
  refine lv_iload_n hx hb dX12_holdsAs_66 rfl (lv_at hl 2 rfl) ?_
  have z9 : (σ1 55 56).toInt = (σ 55 56).toInt := (congrArg Int32.toInt (show σ1 55 56 = (σ 55 56) from m8))
  refine jcallV (As := [.int 5, .int a2]) (rest := []) ⟨hx, hb, hml, hown, hts⟩ hK hP hA hS hZ (c_X12_putsAs_5_5_3 l D cI cL ad zz hJ σ1 τ a2 (A2) t2 m6 (by omega)) cw_RX12_382 (jc_55 cI cL ad σ1 τ) rfl ⟨Nat.le_of_ble_eq_true rfl, Nat.le_of_ble_eq_true rfl⟩ rfl rfl rfl hl.1 rfl (Nat.le_of_ble_eq_true rfl) dX12_holdsAs_67 ⟨Nat.zero_le _, Nat.zero_le _⟩ (fun r11 σ10 τ10 H locs h10 hP hS => ?_)
  obtain ⟨rfl, f12, f13, f14, m15, m16, h10⟩ := h10
  have h17 := h10
  obtain ⟨q19, k18⟩ := h17
  have q19 := q19.symm
  subst q19
  refine lv_iconst (v := 2) hx hb dX12_holdsAs_70 (by decide) ?_
  have g20 := jrg (rfl : (a2 + (σ1 55 57)).toInt = (a2 + (σ1 55 57)).toInt)
  refine lv_imul hx hb dX12_holdsAs_71 ?_
  refine lv_topi (fun x21 ex21 => ?_)
  have gx21 := jrg (rfl : x21.toInt = x21.toInt)
  have m22 : σ10 85 2 = 10 := ((f14 2 (by decide)).trans m7)
  exact hret x21 σ10 τ _ _ _ _ rfl ⟨rfl, (fun i hi => ((f12 i hi).trans (f3 i hi))), (fun i hi => ((f13 i hi).trans (f4 i hi))), (fun i hi => ((f14 i (imp_307 i hi)).trans (f5 i (imp_19 i hi)))), m15, m22, m16, ⟨(by rw [ex21, (show σ1 55 57 = σ 55 57 from (f4 57 (by decide)))]), trivial⟩⟩ hP hS dX12_holdsAs_72
set_option maxHeartbeats 4000000 in
set_option maxRecDepth 100000 in
theorem c_X12_holdsAs_5_5_1 (l : Launch) (D : va_G) (cI cL : ClassId) (ad zz : Nat → Nat) (hJ : jD ad) (σ : Nat → Nat → Int32) (τ : Nat → Nat → Int64) (a2 : Int32) (A2 : Int) (t2 : a2.toInt = A2) (h55_55 : σ 55 55 = 1) (hp0 : (σ 55 56).toInt = 5) : jM l yX12_holdsAs cX12_holdsAs 4 (some .int) ({ frames := 3, cells := 0, slots := 0, locals := 66 }) D cI cL ad zz [.ref (ad 55), .int 5, .int a2] σ τ (fun r σ' τ' => τ = τ' ∧ (∀ i : Nat, (i < 55 ∨ 55 < i) ∧ (i < 85 ∨ 85 < i) → σ' i = σ i) ∧ (∀ k : Nat, (k < 55 ∨ 55 < k) → σ' 55 k = σ 55 k) ∧ (∀ k : Nat, (k < 1 ∨ 1 < k) ∧ (k < 2 ∨ 2 < k) ∧ (k < 3 ∨ 3 < k) → σ' 85 k = σ 85 k) ∧ (σ' 55 55 = 4) ∧ (σ' 85 1 = 40) ∧ (σ' 85 2 = 10) ∧ (σ' 85 3 = 1) ∧ ((r = (-((a2 + (σ 55 57)) * 2)) ∧ True))) := by
  refine jM.of hJ (by decide +kernel) (nt := .int) rfl (Nat.le_of_ble_eq_true rfl) ?_
  intro p e s m args below meth c Q ls hC hret hl hP
  obtain ⟨hx, hb, hr, hml, hown, hts, hK, -, hlocks, hZ⟩ := hC
  have hown : s.vm.findClass RX12 = some m.cls := hown
  have hS : va_S (jA ad) s.heap s.heap [] := va_S.rf
  have hA : ∀ q, jA ad q → jA ad q := fun _ h => h
  have hl : lv_has ls 4 [(0, .ref (ad 55)), (1, .int 5), (2, .int a2)] := hl
  have g2 := jrg t2
  refine lv_iload_n hx hb dX12_holdsAs_0 rfl (lv_at hl 1 rfl) ?_
  refine lv_iconst (v := 3) hx hb dX12_holdsAs_1 (by decide) ?_
  refine lv_icmp_eq (tgt := 10) hx hb dX12_holdsAs_2 (by decide) (fun c => absurd c (by decide)) (fun _ => ?_)
  refine lv_iload_n hx hb dX12_holdsAs_5 rfl (lv_at hl 1 rfl) ?_
  refine lv_iconst (v := 5) hx hb dX12_holdsAs_6 (by decide) ?_
  refine lv_icmp_ne (tgt := 24) hx hb dX12_holdsAs_7 (by decide) (fun c => absurd (by decide) c) (fun _ => ?_)
  refine lv_aload_n hx hb dX12_holdsAs_10 rfl (lv_at hl 0 rfl) ?_
  refine lv_bipush (v := 40) hx hb dX12_holdsAs_11 (by decide) ?_
  refine jcallVv (As := [.int 40]) (rest := []) ⟨hx, hb, hml, hown, hts⟩ hK hP hA hS hZ (c_X12_begins_40_1 l D cI cL ad zz hJ σ τ h55_55) cw_RX12_379 (jc_55 cI cL ad σ τ) rfl ⟨Nat.le_of_ble_eq_true rfl, Nat.le_of_ble_eq_true rfl⟩ rfl rfl rfl hl.1 rfl (Nat.le_of_ble_eq_true rfl) dX12_holdsAs_13 ⟨Nat.zero_le _, Nat.zero_le _⟩ (fun σ1 τ1 H locs h1 hP hS => ?_)
  obtain ⟨rfl, f3, f4, f5, m6, m7, h1⟩ := h1
  refine lv_aload_n hx hb dX12_holdsAs_16 rfl (lv_at hl 0 rfl) ?_
  refine lv_iconst (v := 0) hx hb dX12_holdsAs_17 (by decide) ?_
  refine lv_iload_n hx hb dX12_holdsAs_18 rfl (lv_at hl 2 rfl) ?_
  have z8 : (σ1 55 56).toInt = (σ 55 56).toInt := (congrArg Int32.toInt (show σ1 55 56 = (σ 55 56) from (f4 56 (by decide))))
  refine jcallV (As := [.int 0, .int a2]) (rest := []) ⟨hx, hb, hml, hown, hts⟩ hK hP hA hS hZ (c_X12_holdsAs_5_0_2 l D cI cL ad zz hJ σ1 τ a2 (A2) t2 m6 (by omega)) cw_RX12_388 (jc_55 cI cL ad σ1 τ) rfl ⟨Nat.le_of_ble_eq_true rfl, Nat.le_of_ble_eq_true rfl⟩ rfl rfl rfl hl.1 rfl (Nat.le_of_ble_eq_true rfl) dX12_holdsAs_19 ⟨Nat.zero_le _, Nat.zero_le _⟩ (fun r10 σ9 τ9 H locs h9 hP hS => ?_)
  obtain ⟨rfl, f11, f12, f13, m14, m15, m16, h9⟩ := h9
  have h17 := h9
  obtain ⟨q19, k18⟩ := h17
  have q19 := q19.symm
  subst q19
  refine lv_ineg hx hb dX12_holdsAs_22 ?_
  refine lv_topi (fun x20 ex20 => ?_)
  have gx20 := jrg (rfl : x20.toInt = x20.toInt)
  have m21 : σ9 85 1 = 40 := ((f13 1 (by decide)).trans m7)
  exact hret x20 σ9 τ _ _ _ _ rfl ⟨rfl, (fun i hi => ((f11 i hi).trans (f3 i hi))), (fun i hi => ((f12 i hi).trans (f4 i hi))), (fun i hi => ((f13 i (imp_308 i hi)).trans (f5 i (imp_350 i hi)))), m14, m21, m15, m16, ⟨(by rw [ex20, (show σ1 55 57 = σ 55 57 from (f4 57 (by decide)))]), trivial⟩⟩ hP hS dX12_holdsAs_23
set_option maxHeartbeats 4000000 in
set_option maxRecDepth 100000 in
theorem c_X12_begins_60_4 (l : Launch) (D : va_G) (cI cL : ClassId) (ad zz : Nat → Nat) (hJ : jD ad) (σ : Nat → Nat → Int32) (τ : Nat → Nat → Int64) (h55_55 : σ 55 55 = 4) : jMv l yX12_begins cX12_begins 2 none ({ frames := 0, cells := 0, slots := 0, locals := 0 }) D cI cL ad zz [.ref (ad 55), .int 60] σ τ (fun σ' τ' => τ = τ' ∧ (∀ i : Nat, (i < 55 ∨ 55 < i) ∧ (i < 85 ∨ 85 < i) → σ' i = σ i) ∧ (∀ k : Nat, (k < 55 ∨ 55 < k) → σ' 55 k = σ 55 k) ∧ (∀ k : Nat, (k < 4 ∨ 4 < k) → σ' 85 k = σ 85 k) ∧ (σ' 55 55 = 5) ∧ (σ' 85 4 = 60) ∧ True) := by
  refine jMv.of hJ (by decide +kernel) rfl (Nat.le_of_ble_eq_true rfl) ?_
  intro p e s m args below meth c Q ls hC hret hl hP
  obtain ⟨hx, hb, hr, hml, hown, hts, hK, -, hlocks, hZ⟩ := hC
  have hown : s.vm.findClass RX12 = some m.cls := hown
  have hS : va_S (jA ad) s.heap s.heap [] := va_S.rf
  have hA : ∀ q, jA ad q → jA ad q := fun _ h => h
  have hl : lv_has ls 2 [(0, .ref (ad 55)), (1, .int 60)] := hl
  refine lv_aload_n hx hb dX12_begins_0 rfl (lv_at hl 0 rfl) ?_
  refine va_get (D := D) hx hb hts inlX12 hown hK hP 55 (jc_55 cI cL ad σ τ) rfl 55 (by decide) (hts _ kw_49_7) (fun _ h9 => h9) rfl dX12_begins_1 ?_
  refine jtopr h55_55 ?_
  refine lv_bipush (v := 24) hx hb dX12_begins_4 (by decide) ?_
  refine lv_icmp_ge (tgt := 19) hx hb dX12_begins_6 (by decide) (fun c => absurd c (by decide)) (fun _ => ?_)
  refine lv_aload_n hx hb dX12_begins_9 rfl (lv_at hl 0 rfl) ?_
  refine va_get (D := D) hx hb hts inlX12 hown hK hP 55 (jc_55 cI cL ad σ τ) rfl 54 (by decide) (hts _ kw_8_10) (fun _ h9 => h9) rfl dX12_begins_10 ?_
  refine lv_aload_n hx hb dX12_begins_13 rfl (lv_at hl 0 rfl) ?_
  refine va_get (D := D) hx hb hts inlX12 hown hK hP 55 (jc_55 cI cL ad σ τ) rfl 55 (by decide) (hts _ kw_49_7) (fun _ h9 => h9) rfl dX12_begins_14 ?_
  refine jtopr h55_55 ?_
  refine lv_iload_n hx hb dX12_begins_17 rfl (lv_at hl 1 rfl) ?_
  refine jast hx hb hK hP hJ hA hS (jc_85 cI cL ad σ τ) (ja_85 cI cL ad σ τ _ _) (jin jz_4 (by omega) (by omega)) dX12_begins_18 (fun σ1 H locs eσ1 hP hS => ?_)
  have eσ1 : σ1 = jup σ 85 4 60 := eσ1
  refine lv_aload_n hx hb dX12_begins_19 rfl (lv_at hl 0 rfl) ?_
  refine lv_dup hx hb dX12_begins_20 rfl ?_
  refine va_get (D := D) hx hb hts inlX12 hown hK hP 55 (jc_55 cI cL ad σ1 τ) rfl 55 (by decide) (hts _ kw_49_7) (fun _ h9 => h9) rfl dX12_begins_21 ?_
  have m2 : σ1 55 55 = 4 := ((congrFun (jnp 55 eσ1 (by decide)) 55).trans h55_55)
  refine jtopr m2 ?_
  refine lv_iconst (v := 1) hx hb dX12_begins_24 (by decide) ?_
  refine lv_iadd hx hb dX12_begins_25 ?_
  refine jtopr (y := 5) (by decide) ?_
  refine jput (ty := .int) hx hb hts inlX12 tyX12 tyX12_ok nmX12 hown hK hP hJ hA hS (jc_55 cI cL ad σ1 τ) rfl (k := 55) (by decide) (Nat.le_of_ble_eq_true rfl) (jp_55_55 cI cL ad σ1 τ 5) (hts _ kw_49_7) (fun _ h9 => h9) rfl (by decide +kernel) rfl rfl dX12_begins_26 (fun σ3 H locs eσ3 hP hS => ?_)
  have m4 : σ3 55 55 = 5 := (jsp eσ3)
  have m5 : σ3 85 4 = 60 := ((congrFun (jnp 85 eσ3 (by decide)) 4).trans (jsp eσ1))
  exact hret σ3 τ _ _ _ _ ⟨rfl, (fun i hi => ((jnp i eσ3 (imp_345 i hi)).trans (jnp i eσ1 (imp_346 i hi)))), (fun i hi => ((jkp i eσ3 (imp_164 i hi)).trans (congrFun (jnp 55 eσ1 (by decide)) i))), (fun i hi => ((congrFun (jnp 85 eσ3 (by decide)) i).trans (jkp i eσ1 (imp_310 i hi)))), m4, m5, trivial⟩ hP hS dX12_begins_29
set_option maxHeartbeats 4000000 in
set_option maxRecDepth 100000 in
theorem c_X12_begins_30_5 (l : Launch) (D : va_G) (cI cL : ClassId) (ad zz : Nat → Nat) (hJ : jD ad) (σ : Nat → Nat → Int32) (τ : Nat → Nat → Int64) (h55_55 : σ 55 55 = 5) : jMv l yX12_begins cX12_begins 2 none ({ frames := 0, cells := 0, slots := 0, locals := 0 }) D cI cL ad zz [.ref (ad 55), .int 30] σ τ (fun σ' τ' => τ = τ' ∧ (∀ i : Nat, (i < 55 ∨ 55 < i) ∧ (i < 85 ∨ 85 < i) → σ' i = σ i) ∧ (∀ k : Nat, (k < 55 ∨ 55 < k) → σ' 55 k = σ 55 k) ∧ (∀ k : Nat, (k < 5 ∨ 5 < k) → σ' 85 k = σ 85 k) ∧ (σ' 55 55 = 6) ∧ (σ' 85 5 = 30) ∧ True) := by
  refine jMv.of hJ (by decide +kernel) rfl (Nat.le_of_ble_eq_true rfl) ?_
  intro p e s m args below meth c Q ls hC hret hl hP
  obtain ⟨hx, hb, hr, hml, hown, hts, hK, -, hlocks, hZ⟩ := hC
  have hown : s.vm.findClass RX12 = some m.cls := hown
  have hS : va_S (jA ad) s.heap s.heap [] := va_S.rf
  have hA : ∀ q, jA ad q → jA ad q := fun _ h => h
  have hl : lv_has ls 2 [(0, .ref (ad 55)), (1, .int 30)] := hl
  refine lv_aload_n hx hb dX12_begins_0 rfl (lv_at hl 0 rfl) ?_
  refine va_get (D := D) hx hb hts inlX12 hown hK hP 55 (jc_55 cI cL ad σ τ) rfl 55 (by decide) (hts _ kw_49_7) (fun _ h9 => h9) rfl dX12_begins_1 ?_
  refine jtopr h55_55 ?_
  refine lv_bipush (v := 24) hx hb dX12_begins_4 (by decide) ?_
  refine lv_icmp_ge (tgt := 19) hx hb dX12_begins_6 (by decide) (fun c => absurd c (by decide)) (fun _ => ?_)
  refine lv_aload_n hx hb dX12_begins_9 rfl (lv_at hl 0 rfl) ?_
  refine va_get (D := D) hx hb hts inlX12 hown hK hP 55 (jc_55 cI cL ad σ τ) rfl 54 (by decide) (hts _ kw_8_10) (fun _ h9 => h9) rfl dX12_begins_10 ?_
  refine lv_aload_n hx hb dX12_begins_13 rfl (lv_at hl 0 rfl) ?_
  refine va_get (D := D) hx hb hts inlX12 hown hK hP 55 (jc_55 cI cL ad σ τ) rfl 55 (by decide) (hts _ kw_49_7) (fun _ h9 => h9) rfl dX12_begins_14 ?_
  refine jtopr h55_55 ?_
  refine lv_iload_n hx hb dX12_begins_17 rfl (lv_at hl 1 rfl) ?_
  refine jast hx hb hK hP hJ hA hS (jc_85 cI cL ad σ τ) (ja_85 cI cL ad σ τ _ _) (jin jz_5 (by omega) (by omega)) dX12_begins_18 (fun σ1 H locs eσ1 hP hS => ?_)
  have eσ1 : σ1 = jup σ 85 5 30 := eσ1
  refine lv_aload_n hx hb dX12_begins_19 rfl (lv_at hl 0 rfl) ?_
  refine lv_dup hx hb dX12_begins_20 rfl ?_
  refine va_get (D := D) hx hb hts inlX12 hown hK hP 55 (jc_55 cI cL ad σ1 τ) rfl 55 (by decide) (hts _ kw_49_7) (fun _ h9 => h9) rfl dX12_begins_21 ?_
  have m2 : σ1 55 55 = 5 := ((congrFun (jnp 55 eσ1 (by decide)) 55).trans h55_55)
  refine jtopr m2 ?_
  refine lv_iconst (v := 1) hx hb dX12_begins_24 (by decide) ?_
  refine lv_iadd hx hb dX12_begins_25 ?_
  refine jtopr (y := 6) (by decide) ?_
  refine jput (ty := .int) hx hb hts inlX12 tyX12 tyX12_ok nmX12 hown hK hP hJ hA hS (jc_55 cI cL ad σ1 τ) rfl (k := 55) (by decide) (Nat.le_of_ble_eq_true rfl) (jp_55_55 cI cL ad σ1 τ 6) (hts _ kw_49_7) (fun _ h9 => h9) rfl (by decide +kernel) rfl rfl dX12_begins_26 (fun σ3 H locs eσ3 hP hS => ?_)
  have m4 : σ3 55 55 = 6 := (jsp eσ3)
  have m5 : σ3 85 5 = 30 := ((congrFun (jnp 85 eσ3 (by decide)) 5).trans (jsp eσ1))
  exact hret σ3 τ _ _ _ _ ⟨rfl, (fun i hi => ((jnp i eσ3 (imp_345 i hi)).trans (jnp i eσ1 (imp_346 i hi)))), (fun i hi => ((jkp i eσ3 (imp_164 i hi)).trans (congrFun (jnp 55 eσ1 (by decide)) i))), (fun i hi => ((congrFun (jnp 85 eσ3 (by decide)) i).trans (jkp i eσ1 (imp_158 i hi)))), m4, m5, trivial⟩ hP hS dX12_begins_29
set_option maxHeartbeats 4000000 in
set_option maxRecDepth 100000 in
theorem c_X12_givesAs_5_0_6_x1 (l : Launch) (D : va_G) (cI cL : ClassId) (ad zz : Nat → Nat) (hJ : jD ad) (σ : Nat → Nat → Int32) (τ : Nat → Nat → Int64) (h55_55 : σ 55 55 = 6) (hp0 : (σ 55 56).toInt = 5) : jM l yX12_givesAs cX12_givesAs 4 (some .int) ({ frames := 1, cells := 0, slots := 0, locals := 21 }) D cI cL ad zz [.ref (ad 55), .int 0, .int 1] σ τ (fun r σ' τ' => τ = τ' ∧ (∀ i : Nat, (i < 55 ∨ 55 < i) ∧ (i < 85 ∨ 85 < i) → σ' i = σ i) ∧ (∀ k : Nat, (k < 55 ∨ 55 < k) → σ' 55 k = σ 55 k) ∧ (∀ k : Nat, (k < 6 ∨ 6 < k) → σ' 85 k = σ 85 k) ∧ (σ' 55 55 = 7) ∧ (σ' 85 6 = 11) ∧ ((r = (1 ^^^ (σ 55 57)) ∧ True))) := by
  refine jM.of hJ (by decide +kernel) (nt := .int) rfl (Nat.le_of_ble_eq_true rfl) ?_
  intro p e s m args below meth c Q ls hC hret hl hP
  obtain ⟨hx, hb, hr, hml, hown, hts, hK, -, hlocks, hZ⟩ := hC
  have hown : s.vm.findClass RX12 = some m.cls := hown
  have hS : va_S (jA ad) s.heap s.heap [] := va_S.rf
  have hA : ∀ q, jA ad q → jA ad q := fun _ h => h
  have hl : lv_has ls 4 [(0, .ref (ad 55)), (1, .int 0), (2, .int 1)] := hl
  refine lv_iload_n hx hb dX12_givesAs_0 rfl (lv_at hl 1 rfl) ?_
  refine lv_iconst (v := 5) hx hb dX12_givesAs_1 (by decide) ?_
  refine lv_icmp_ne (tgt := 30) hx hb dX12_givesAs_2 (by decide) (fun _ => ?_) (fun c => absurd c (by decide))
  refine lv_iload_n hx hb dX12_givesAs_30 rfl (lv_at hl 1 rfl) ?_
  refine lv_iconst (v := 2) hx hb dX12_givesAs_31 (by decide) ?_
  refine lv_icmp_eq (tgt := 40) hx hb dX12_givesAs_32 (by decide) (fun c => absurd c (by decide)) (fun _ => ?_)
  refine lv_iload_n hx hb dX12_givesAs_35 rfl (lv_at hl 1 rfl) ?_
  refine lv_iconst (v := 3) hx hb dX12_givesAs_36 (by decide) ?_
  refine lv_icmp_ne (tgt := 55) hx hb dX12_givesAs_37 (by decide) (fun _ => ?_) (fun c => absurd c (by decide))
  refine lv_aload_n hx hb dX12_givesAs_55 rfl (lv_at hl 0 rfl) ?_
  refine lv_bipush (v := 11) hx hb dX12_givesAs_56 (by decide) ?_
  refine jcallVv (As := [.int 11]) (rest := []) ⟨hx, hb, hml, hown, hts⟩ hK hP hA hS hZ (c_X12_begins_11_6 l D cI cL ad zz hJ σ τ h55_55) cw_RX12_379 (jc_55 cI cL ad σ τ) rfl ⟨Nat.le_of_ble_eq_true rfl, Nat.le_of_ble_eq_true rfl⟩ rfl rfl rfl hl.1 rfl (Nat.le_of_ble_eq_true rfl) dX12_givesAs_58 ⟨Nat.zero_le _, Nat.zero_le _⟩ (fun σ1 τ1 H locs h1 hP hS => ?_)
  obtain ⟨rfl, f3, f4, f5, m6, m7, h1⟩ := h1
  refine lv_iload_n hx hb dX12_givesAs_61 rfl (lv_at hl 2 rfl) ?_
  refine lv_aload_n hx hb dX12_givesAs_62 rfl (lv_at hl 0 rfl) ?_
  refine va_get (D := D) hx hb hts inlX12 hown hK hP 55 (jc_55 cI cL ad σ1 τ) rfl 57 (by decide) (hts _ kw_49_9) (fun _ h9 => h9) rfl dX12_givesAs_63 ?_
  have m8 : σ1 55 57 = (σ 55 57) := (f4 57 (by decide))
  refine jtopr m8 ?_
  refine lv_ixor hx hb dX12_givesAs_66 ?_
  refine lv_topi (fun x9 ex9 => ?_)
  have gx9 := jrg (rfl : x9.toInt = x9.toInt)
  exact hret x9 σ1 τ _ _ _ _ rfl ⟨rfl, (fun i hi => (f3 i hi)), (fun i hi => (f4 i hi)), (fun i hi => (f5 i hi)), m6, m7, ⟨(by rw [ex9]), trivial⟩⟩ hP hS dX12_givesAs_67
set_option maxHeartbeats 4000000 in
set_option maxRecDepth 100000 in
theorem c_X12_givesAs_5_3_5_x1 (l : Launch) (D : va_G) (cI cL : ClassId) (ad zz : Nat → Nat) (hJ : jD ad) (σ : Nat → Nat → Int32) (τ : Nat → Nat → Int64) (h55_55 : σ 55 55 = 5) (hp0 : (σ 55 56).toInt = 5) : jM l yX12_givesAs cX12_givesAs 4 (some .int) ({ frames := 2, cells := 0, slots := 0, locals := 44 }) D cI cL ad zz [.ref (ad 55), .int 3, .int 1] σ τ (fun r σ' τ' => τ = τ' ∧ (∀ i : Nat, (i < 55 ∨ 55 < i) ∧ (i < 85 ∨ 85 < i) → σ' i = σ i) ∧ (∀ k : Nat, (k < 55 ∨ 55 < k) → σ' 55 k = σ 55 k) ∧ (∀ k : Nat, (k < 5 ∨ 5 < k) ∧ (k < 6 ∨ 6 < k) → σ' 85 k = σ 85 k) ∧ (σ' 55 55 = 7) ∧ (σ' 85 5 = 30) ∧ (σ' 85 6 = 11) ∧ ((r = ((1 ^^^ (σ 55 57)) * 3) ∧ True))) := by
  refine jM.of hJ (by decide +kernel) (nt := .int) rfl (Nat.le_of_ble_eq_true rfl) ?_
  intro p e s m args below meth c Q ls hC hret hl hP
  obtain ⟨hx, hb, hr, hml, hown, hts, hK, -, hlocks, hZ⟩ := hC
  have hown : s.vm.findClass RX12 = some m.cls := hown
  have hS : va_S (jA ad) s.heap s.heap [] := va_S.rf
  have hA : ∀ q, jA ad q → jA ad q := fun _ h => h
  have hl : lv_has ls 4 [(0, .ref (ad 55)), (1, .int 3), (2, .int 1)] := hl
  refine lv_iload_n hx hb dX12_givesAs_0 rfl (lv_at hl 1 rfl) ?_
  refine lv_iconst (v := 5) hx hb dX12_givesAs_1 (by decide) ?_
  refine lv_icmp_ne (tgt := 30) hx hb dX12_givesAs_2 (by decide) (fun _ => ?_) (fun c => absurd c (by decide))
  refine lv_iload_n hx hb dX12_givesAs_30 rfl (lv_at hl 1 rfl) ?_
  refine lv_iconst (v := 2) hx hb dX12_givesAs_31 (by decide) ?_
  refine lv_icmp_eq (tgt := 40) hx hb dX12_givesAs_32 (by decide) (fun c => absurd c (by decide)) (fun _ => ?_)
  refine lv_iload_n hx hb dX12_givesAs_35 rfl (lv_at hl 1 rfl) ?_
  refine lv_iconst (v := 3) hx hb dX12_givesAs_36 (by decide) ?_
  refine lv_icmp_ne (tgt := 55) hx hb dX12_givesAs_37 (by decide) (fun c => absurd (by decide) c) (fun _ => ?_)
  refine lv_aload_n hx hb dX12_givesAs_40 rfl (lv_at hl 0 rfl) ?_
  refine lv_bipush (v := 30) hx hb dX12_givesAs_41 (by decide) ?_
  refine jcallVv (As := [.int 30]) (rest := []) ⟨hx, hb, hml, hown, hts⟩ hK hP hA hS hZ (c_X12_begins_30_5 l D cI cL ad zz hJ σ τ h55_55) cw_RX12_379 (jc_55 cI cL ad σ τ) rfl ⟨Nat.le_of_ble_eq_true rfl, Nat.le_of_ble_eq_true rfl⟩ rfl rfl rfl hl.1 rfl (Nat.le_of_ble_eq_true rfl) dX12_givesAs_43 ⟨Nat.zero_le _, Nat.zero_le _⟩ (fun σ1 τ1 H locs h1 hP hS => ?_)
  obtain ⟨rfl, f3, f4, f5, m6, m7, h1⟩ := h1
  refine lv_aload_n hx hb dX12_givesAs_46 rfl (lv_at hl 0 rfl) ?_
  refine lv_iconst (v := 0) hx hb dX12_givesAs_47 (by decide) ?_
  refine lv_iload_n hx hb dX12_givesAs_48 rfl (lv_at hl 2 rfl) ?_
  have z8 : (σ1 55 56).toInt = (σ 55 56).toInt := (congrArg Int32.toInt (show σ1 55 56 = (σ 55 56) from (f4 56 (by decide))))
  refine jcallV (As := [.int 0, .int 1]) (rest := []) ⟨hx, hb, hml, hown, hts⟩ hK hP hA hS hZ (c_X12_givesAs_5_0_6_x1 l D cI cL ad zz hJ σ1 τ m6 (by omega)) cw_RX12_394 (jc_55 cI cL ad σ1 τ) rfl ⟨Nat.le_of_ble_eq_true rfl, Nat.le_of_ble_eq_true rfl⟩ rfl rfl rfl hl.1 rfl (Nat.le_of_ble_eq_true rfl) dX12_givesAs_49 ⟨Nat.zero_le _, Nat.zero_le _⟩ (fun r10 σ9 τ9 H locs h9 hP hS => ?_)
  obtain ⟨rfl, f11, f12, f13, m14, m15, h9⟩ := h9
  have h16 := h9
  obtain ⟨q18, k17⟩ := h16
  have q18 := q18.symm
  subst q18
  refine lv_iconst (v := 3) hx hb dX12_givesAs_52 (by decide) ?_
  have g19 := jrg (rfl : (1 ^^^ (σ1 55 57)).toInt = (1 ^^^ (σ1 55 57)).toInt)
  refine lv_imul hx hb dX12_givesAs_53 ?_
  refine lv_topi (fun x20 ex20 => ?_)
  have gx20 := jrg (rfl : x20.toInt = x20.toInt)
  have m21 : σ9 85 5 = 30 := ((f13 5 (by decide)).trans m7)
  exact hret x20 σ9 τ _ _ _ _ rfl ⟨rfl, (fun i hi => ((f11 i hi).trans (f3 i hi))), (fun i hi => ((f12 i hi).trans (f4 i hi))), (fun i hi => ((f13 i (imp_332 i hi)).trans (f5 i (imp_359 i hi)))), m14, m21, m15, ⟨(by rw [ex20, (show σ1 55 57 = σ 55 57 from (f4 57 (by decide)))]), trivial⟩⟩ hP hS dX12_givesAs_54
set_option maxHeartbeats 4000000 in
set_option maxRecDepth 100000 in
theorem c_X12_begins_1_7 (l : Launch) (D : va_G) (cI cL : ClassId) (ad zz : Nat → Nat) (hJ : jD ad) (σ : Nat → Nat → Int32) (τ : Nat → Nat → Int64) (h55_55 : σ 55 55 = 7) : jMv l yX12_begins cX12_begins 2 none ({ frames := 0, cells := 0, slots := 0, locals := 0 }) D cI cL ad zz [.ref (ad 55), .int 1] σ τ (fun σ' τ' => τ = τ' ∧ (∀ i : Nat, (i < 55 ∨ 55 < i) ∧ (i < 85 ∨ 85 < i) → σ' i = σ i) ∧ (∀ k : Nat, (k < 55 ∨ 55 < k) → σ' 55 k = σ 55 k) ∧ (∀ k : Nat, (k < 7 ∨ 7 < k) → σ' 85 k = σ 85 k) ∧ (σ' 55 55 = 8) ∧ (σ' 85 7 = 1) ∧ True) := by
  refine jMv.of hJ (by decide +kernel) rfl (Nat.le_of_ble_eq_true rfl) ?_
  intro p e s m args below meth c Q ls hC hret hl hP
  obtain ⟨hx, hb, hr, hml, hown, hts, hK, -, hlocks, hZ⟩ := hC
  have hown : s.vm.findClass RX12 = some m.cls := hown
  have hS : va_S (jA ad) s.heap s.heap [] := va_S.rf
  have hA : ∀ q, jA ad q → jA ad q := fun _ h => h
  have hl : lv_has ls 2 [(0, .ref (ad 55)), (1, .int 1)] := hl
  refine lv_aload_n hx hb dX12_begins_0 rfl (lv_at hl 0 rfl) ?_
  refine va_get (D := D) hx hb hts inlX12 hown hK hP 55 (jc_55 cI cL ad σ τ) rfl 55 (by decide) (hts _ kw_49_7) (fun _ h9 => h9) rfl dX12_begins_1 ?_
  refine jtopr h55_55 ?_
  refine lv_bipush (v := 24) hx hb dX12_begins_4 (by decide) ?_
  refine lv_icmp_ge (tgt := 19) hx hb dX12_begins_6 (by decide) (fun c => absurd c (by decide)) (fun _ => ?_)
  refine lv_aload_n hx hb dX12_begins_9 rfl (lv_at hl 0 rfl) ?_
  refine va_get (D := D) hx hb hts inlX12 hown hK hP 55 (jc_55 cI cL ad σ τ) rfl 54 (by decide) (hts _ kw_8_10) (fun _ h9 => h9) rfl dX12_begins_10 ?_
  refine lv_aload_n hx hb dX12_begins_13 rfl (lv_at hl 0 rfl) ?_
  refine va_get (D := D) hx hb hts inlX12 hown hK hP 55 (jc_55 cI cL ad σ τ) rfl 55 (by decide) (hts _ kw_49_7) (fun _ h9 => h9) rfl dX12_begins_14 ?_
  refine jtopr h55_55 ?_
  refine lv_iload_n hx hb dX12_begins_17 rfl (lv_at hl 1 rfl) ?_
  refine jast hx hb hK hP hJ hA hS (jc_85 cI cL ad σ τ) (ja_85 cI cL ad σ τ _ _) (jin jz_7 (by omega) (by omega)) dX12_begins_18 (fun σ1 H locs eσ1 hP hS => ?_)
  have eσ1 : σ1 = jup σ 85 7 1 := eσ1
  refine lv_aload_n hx hb dX12_begins_19 rfl (lv_at hl 0 rfl) ?_
  refine lv_dup hx hb dX12_begins_20 rfl ?_
  refine va_get (D := D) hx hb hts inlX12 hown hK hP 55 (jc_55 cI cL ad σ1 τ) rfl 55 (by decide) (hts _ kw_49_7) (fun _ h9 => h9) rfl dX12_begins_21 ?_
  have m2 : σ1 55 55 = 7 := ((congrFun (jnp 55 eσ1 (by decide)) 55).trans h55_55)
  refine jtopr m2 ?_
  refine lv_iconst (v := 1) hx hb dX12_begins_24 (by decide) ?_
  refine lv_iadd hx hb dX12_begins_25 ?_
  refine jtopr (y := 8) (by decide) ?_
  refine jput (ty := .int) hx hb hts inlX12 tyX12 tyX12_ok nmX12 hown hK hP hJ hA hS (jc_55 cI cL ad σ1 τ) rfl (k := 55) (by decide) (Nat.le_of_ble_eq_true rfl) (jp_55_55 cI cL ad σ1 τ 8) (hts _ kw_49_7) (fun _ h9 => h9) rfl (by decide +kernel) rfl rfl dX12_begins_26 (fun σ3 H locs eσ3 hP hS => ?_)
  have m4 : σ3 55 55 = 8 := (jsp eσ3)
  have m5 : σ3 85 7 = 1 := ((congrFun (jnp 85 eσ3 (by decide)) 7).trans (jsp eσ1))
  exact hret σ3 τ _ _ _ _ ⟨rfl, (fun i hi => ((jnp i eσ3 (imp_345 i hi)).trans (jnp i eσ1 (imp_346 i hi)))), (fun i hi => ((jkp i eσ3 (imp_164 i hi)).trans (congrFun (jnp 55 eσ1 (by decide)) i))), (fun i hi => ((congrFun (jnp 85 eσ3 (by decide)) i).trans (jkp i eσ1 (imp_76 i hi)))), m4, m5, trivial⟩ hP hS dX12_begins_29
set_option maxHeartbeats 4000000 in
set_option maxRecDepth 100000 in
theorem c_X12_putsAs_5_5_7_x2 (l : Launch) (D : va_G) (cI cL : ClassId) (ad zz : Nat → Nat) (hJ : jD ad) (σ : Nat → Nat → Int32) (τ : Nat → Nat → Int64) (h55_55 : σ 55 55 = 7) (hp0 : (σ 55 56).toInt = 5) : jM l yX12_putsAs cX12_putsAs 3 (some .int) ({ frames := 1, cells := 0, slots := 0, locals := 21 }) D cI cL ad zz [.ref (ad 55), .int 5, .int 2] σ τ (fun r σ' τ' => τ = τ' ∧ (∀ i : Nat, (i < 55 ∨ 55 < i) ∧ (i < 85 ∨ 85 < i) → σ' i = σ i) ∧ (∀ k : Nat, (k < 55 ∨ 55 < k) → σ' 55 k = σ 55 k) ∧ (∀ k : Nat, (k < 7 ∨ 7 < k) → σ' 85 k = σ 85 k) ∧ (σ' 55 55 = 8) ∧ (σ' 85 7 = 1) ∧ ((r = (2 + (σ 55 57)) ∧ True))) := by
  refine jM.of hJ (by decide +kernel) (nt := .int) rfl (Nat.le_of_ble_eq_true rfl) ?_
  intro p e s m args below meth c Q ls hC hret hl hP
  obtain ⟨hx, hb, hr, hml, hown, hts, hK, -, hlocks, hZ⟩ := hC
  have hown : s.vm.findClass RX12 = some m.cls := hown
  have hS : va_S (jA ad) s.heap s.heap [] := va_S.rf
  have hA : ∀ q, jA ad q → jA ad q := fun _ h => h
  have hl : lv_has ls 3 [(0, .ref (ad 55)), (1, .int 5), (2, .int 2)] := hl
  refine lv_iload_n hx hb dX12_putsAs_0 rfl (lv_at hl 1 rfl) ?_
  refine lv_iconst (v := 4) hx hb dX12_putsAs_1 (by decide) ?_
  refine lv_icmp_ne (tgt := 20) hx hb dX12_putsAs_2 (by decide) (fun _ => ?_) (fun c => absurd c (by decide))
  refine lv_iload_n hx hb dX12_putsAs_20 rfl (lv_at hl 1 rfl) ?_
  refine lv_iconst (v := 1) hx hb dX12_putsAs_21 (by decide) ?_
  refine lv_icmp_ne (tgt := 40) hx hb dX12_putsAs_22 (by decide) (fun _ => ?_) (fun c => absurd c (by decide))
  refine lv_aload_n hx hb dX12_putsAs_40 rfl (lv_at hl 0 rfl) ?_
  refine lv_iconst (v := 1) hx hb dX12_putsAs_41 (by decide) ?_
  refine jcallVv (As := [.int 1]) (rest := []) ⟨hx, hb, hml, hown, hts⟩ hK hP hA hS hZ (c_X12_begins_1_7 l D cI cL ad zz hJ σ τ h55_55) cw_RX12_379 (jc_55 cI cL ad σ τ) rfl ⟨Nat.le_of_ble_eq_true rfl, Nat.le_of_ble_eq_true rfl⟩ rfl rfl rfl hl.1 rfl (Nat.le_of_ble_eq_true rfl) dX12_putsAs_42 ⟨Nat.zero_le _, Nat.zero_le _⟩ (fun σ1 τ1 H locs h1 hP hS => ?_)
  obtain ⟨rfl, f3, f4, f5, m6, m7, h1⟩ := h1
  refine lv_iload_n hx hb dX12_putsAs_45 rfl (lv_at hl 2 rfl) ?_
  refine lv_aload_n hx hb dX12_putsAs_46 rfl (lv_at hl 0 rfl) ?_
  refine va_get (D := D) hx hb hts inlX12 hown hK hP 55 (jc_55 cI cL ad σ1 τ) rfl 57 (by decide) (hts _ kw_49_9) (fun _ h9 => h9) rfl dX12_putsAs_47 ?_
  have m8 : σ1 55 57 = (σ 55 57) := (f4 57 (by decide))
  refine jtopr m8 ?_
  have g9 := jrg (rfl : (σ 55 57).toInt = (σ 55 57).toInt)
  refine lv_iadd hx hb dX12_putsAs_50 ?_
  refine lv_topi (fun x10 ex10 => ?_)
  have gx10 := jrg (rfl : x10.toInt = x10.toInt)
  exact hret x10 σ1 τ _ _ _ _ rfl ⟨rfl, (fun i hi => (f3 i hi)), (fun i hi => (f4 i hi)), (fun i hi => (f5 i hi)), m6, m7, ⟨(by rw [ex10]), trivial⟩⟩ hP hS dX12_putsAs_51
set_option maxHeartbeats 4000000 in
set_option maxRecDepth 100000 in
theorem c_X12_givesAs_5_5_4_x1 (l : Launch) (D : va_G) (cI cL : ClassId) (ad zz : Nat → Nat) (hJ : jD ad) (σ : Nat → Nat → Int32) (τ : Nat → Nat → Int64) (h55_55 : σ 55 55 = 4) (hp0 : (σ 55 56).toInt = 5) : jM l yX12_givesAs cX12_givesAs 4 (some .int) ({ frames := 3, cells := 0, slots := 0, locals := 67 }) D cI cL ad zz [.ref (ad 55), .int 5, .int 1] σ τ (fun r σ' τ' => τ = τ' ∧ (∀ i : Nat, (i < 55 ∨ 55 < i) ∧ (i < 85 ∨ 85 < i) → σ' i = σ i) ∧ (∀ k : Nat, (k < 55 ∨ 55 < k) → σ' 55 k = σ 55 k) ∧ (∀ k : Nat, (k < 4 ∨ 4 < k) ∧ (k < 5 ∨ 5 < k) ∧ (k < 6 ∨ 6 < k) ∧ (k < 7 ∨ 7 < k) → σ' 85 k = σ 85 k) ∧ (σ' 55 55 = 8) ∧ (σ' 85 4 = 60) ∧ (σ' 85 5 = 30) ∧ (σ' 85 6 = 11) ∧ (σ' 85 7 = 1) ∧ ((r = (((1 ^^^ (σ 55 57)) * 3) - (2 + (σ 55 57))) ∧ True))) := by
  refine jM.of hJ (by decide +kernel) (nt := .int) rfl (Nat.le_of_ble_eq_true rfl) ?_
  intro p e s m args below meth c Q ls hC hret hl hP
  obtain ⟨hx, hb, hr, hml, hown, hts, hK, -, hlocks, hZ⟩ := hC
  have hown : s.vm.findClass RX12 = some m.cls := hown
  have hS : va_S (jA ad) s.heap s.heap [] := va_S.rf
  have hA : ∀ q, jA ad q → jA ad q := fun _ h => h
  have hl : lv_has ls 4 [(0, .ref (ad 55)), (1, .int 5), (2, .int 1)] := hl
  refine lv_iload_n hx hb dX12_givesAs_0 rfl (lv_at hl 1 rfl) ?_
  refine lv_iconst (v := 5) hx hb dX12_givesAs_1 (by decide) ?_
  refine lv_icmp_ne (tgt := 30) hx hb dX12_givesAs_2 (by decide) (fun c => absurd (by decide) c) (fun _ => ?_)
  refine lv_aload_n hx hb dX12_givesAs_5 rfl (lv_at hl 0 rfl) ?_
  refine lv_bipush (v := 60) hx hb dX12_givesAs_6 (by decide) ?_
  refine jcallVv (As := [.int 60]) (rest := []) ⟨hx, hb, hml, hown, hts⟩ hK hP hA hS hZ (c_X12_begins_60_4 l D cI cL ad zz hJ σ τ h55_55) cw_RX12_379 (jc_55 cI cL ad σ τ) rfl ⟨Nat.le_of_ble_eq_true rfl, Nat.le_of_ble_eq_true rfl⟩ rfl rfl rfl hl.1 rfl (Nat.le_of_ble_eq_true rfl) dX12_givesAs_8 ⟨Nat.zero_le _, Nat.zero_le _⟩ (fun σ1 τ1 H locs h1 hP hS => ?_)
  obtain ⟨rfl, f3, f4, f5, m6, m7, h1⟩ := h1
  refine lv_aload_n hx hb dX12_givesAs_11 rfl (lv_at hl 0 rfl) ?_
  refine lv_iconst (v := 3) hx hb dX12_givesAs_12 (by decide) ?_
  refine lv_iload_n hx hb dX12_givesAs_13 rfl (lv_at hl 2 rfl) ?_
  have z8 : (σ1 55 56).toInt = (σ 55 56).toInt := (congrArg Int32.toInt (show σ1 55 56 = (σ 55 56) from (f4 56 (by decide))))
  refine jcallV (As := [.int 3, .int 1]) (rest := []) ⟨hx, hb, hml, hown, hts⟩ hK hP hA hS hZ (c_X12_givesAs_5_3_5_x1 l D cI cL ad zz hJ σ1 τ m6 (by omega)) cw_RX12_394 (jc_55 cI cL ad σ1 τ) rfl ⟨Nat.le_of_ble_eq_true rfl, Nat.le_of_ble_eq_true rfl⟩ rfl rfl rfl hl.1 rfl (Nat.le_of_ble_eq_true rfl) dX12_givesAs_14 ⟨Nat.zero_le _, Nat.zero_le _⟩ (fun r10 σ9 τ9 H locs h9 hP hS => ?_)
  obtain ⟨rfl, f11, f12, f13, m14, m15, m16, h9⟩ := h9
  have h17 := h9
  obtain ⟨q19, k18⟩ := h17
  have q19 := q19.symm
  subst q19
  refine lv_istore_n (lv' := [(3, .int ((1 ^^^ (σ1 55 57)) * 3)), (0, .ref (ad 55)), (1, .int 5), (2, .int 1)]) hx hb dX12_givesAs_17 rfl hl (by decide) rfl (fun ls hl => ?_)
  refine lv_iload_n hx hb dX12_givesAs_18 rfl (lv_at hl 0 rfl) ?_
  refine lv_aload_n hx hb dX12_givesAs_19 rfl (lv_at hl 1 rfl) ?_
  refine lv_aload_n hx hb dX12_givesAs_20 rfl (lv_at hl 1 rfl) ?_
  refine va_get (D := D) hx hb hts inlX12 hown hK hP 55 (jc_55 cI cL ad σ9 τ) rfl 56 (by decide) (hts _ kw_49_8) (fun _ h9 => h9) rfl dX12_givesAs_21 ?_
  have m20 : σ9 55 56 = (σ 55 56) := ((f12 56 (by decide)).trans (f4 56 (by decide)))
  refine jtopr m20 ?_
  refine jtopr (jsame (rfl : (σ 55 56).toInt = (σ 55 56).toInt) jz_5 (by omega)) ?_
  refine lv_iconst (v := 2) hx hb dX12_givesAs_24 (by decide) ?_
  have z21 : (σ9 55 56).toInt = (σ 55 56).toInt := (congrArg Int32.toInt (show σ9 55 56 = (σ 55 56) from m20))
  refine jcallV (As := [.int 5, .int 2]) (rest := [.int ((1 ^^^ (σ1 55 57)) * 3)]) ⟨hx, hb, hml, hown, hts⟩ hK hP hA hS hZ (c_X12_putsAs_5_5_7_x2 l D cI cL ad zz hJ σ9 τ m14 (by omega)) cw_RX12_382 (jc_55 cI cL ad σ9 τ) rfl ⟨Nat.le_of_ble_eq_true rfl, Nat.le_of_ble_eq_true rfl⟩ rfl rfl rfl hl.1 rfl (Nat.le_of_ble_eq_true rfl) dX12_givesAs_25 ⟨Nat.zero_le _, Nat.zero_le _⟩ (fun r23 σ22 τ22 H locs h22 hP hS => ?_)
  obtain ⟨rfl, f24, f25, f26, m27, m28, h22⟩ := h22
  have h29 := h22
  obtain ⟨q31, k30⟩ := h29
  have q31 := q31.symm
  subst q31
  have g32 := jrg (rfl : ((1 ^^^ (σ1 55 57)) * 3).toInt = ((1 ^^^ (σ1 55 57)) * 3).toInt)
  have g33 := jrg (rfl : (2 + (σ9 55 57)).toInt = (2 + (σ9 55 57)).toInt)
  refine lv_isub hx hb dX12_givesAs_28 ?_
  refine lv_topi (fun x34 ex34 => ?_)
  have gx34 := jrg (rfl : x34.toInt = x34.toInt)
  have m35 : σ22 85 4 = 60 := ((f26 4 (by decide)).trans ((f13 4 (by decide)).trans m7))
  have m36 : σ22 85 5 = 30 := ((f26 5 (by decide)).trans m15)
  have m37 : σ22 85 6 = 11 := ((f26 6 (by decide)).trans m16)
  exact hret x34 σ22 τ _ _ _ _ rfl ⟨rfl, (fun i hi => ((f24 i hi).trans ((f11 i hi).trans (f3 i hi)))), (fun i hi => ((f25 i hi).trans ((f12 i hi).trans (f4 i hi)))), (fun i hi => ((f26 i (imp_334 i hi)).trans ((f13 i (imp_335 i hi)).trans (f5 i (imp_360 i hi))))), m27, m35, m36, m37, m28, ⟨(by rw [ex34, (show σ1 55 57 = σ 55 57 from (f4 57 (by decide))), (show σ9 55 57 = σ 55 57 from ((f12 57 (by decide)).trans (f4 57 (by decide))))]), trivial⟩⟩ hP hS dX12_givesAs_29
set_option maxHeartbeats 4000000 in
set_option maxRecDepth 100000 in
theorem c_X12_tellsAs_5_5_0 (l : Launch) (D : va_G) (cI cL : ClassId) (ad zz : Nat → Nat) (hJ : jD ad) (σ : Nat → Nat → Int32) (τ : Nat → Nat → Int64) (a2 : Int32) (A2 : Int) (t2 : a2.toInt = A2) (h55_55 : σ 55 55 = 0) (hp0 : (σ 55 56).toInt = 5) : jM l yX12_tellsAs cX12_tellsAs 4 (some .int) ({ frames := 4, cells := 0, slots := 0, locals := 90 }) D cI cL ad zz [.ref (ad 55), .int 5, .int a2] σ τ (fun r σ' τ' => τ = τ' ∧ (∀ i : Nat, (i < 55 ∨ 55 < i) ∧ (i < 85 ∨ 85 < i) → σ' i = σ i) ∧ (∀ k : Nat, (k < 55 ∨ 55 < k) → σ' 55 k = σ 55 k) ∧ (∀ k : Nat, (k < 0 ∨ 0 < k) ∧ (k < 1 ∨ 1 < k) ∧ (k < 2 ∨ 2 < k) ∧ (k < 3 ∨ 3 < k) ∧ (k < 4 ∨ 4 < k) ∧ (k < 5 ∨ 5 < k) ∧ (k < 6 ∨ 6 < k) ∧ (k < 7 ∨ 7 < k) → σ' 85 k = σ 85 k) ∧ (σ' 55 55 = 8) ∧ (σ' 85 0 = 2) ∧ (σ' 85 1 = 40) ∧ (σ' 85 2 = 10) ∧ (σ' 85 3 = 1) ∧ (σ' 85 4 = 60) ∧ (σ' 85 5 = 30) ∧ (σ' 85 6 = 11) ∧ (σ' 85 7 = 1) ∧ ((r = ((-((a2 + (σ 55 57)) * 2)) - (((1 ^^^ (σ 55 57)) * 3) - (2 + (σ 55 57)))) ∧ True))) := by
  refine jM.of hJ (by decide +kernel) (nt := .int) rfl (Nat.le_of_ble_eq_true rfl) ?_
  intro p e s m args below meth c Q ls hC hret hl hP
  obtain ⟨hx, hb, hr, hml, hown, hts, hK, -, hlocks, hZ⟩ := hC
  have hown : s.vm.findClass RX12 = some m.cls := hown
  have hS : va_S (jA ad) s.heap s.heap [] := va_S.rf
  have hA : ∀ q, jA ad q → jA ad q := fun _ h => h
  have hl : lv_has ls 4 [(0, .ref (ad 55)), (1, .int 5), (2, .int a2)] := hl
  have g2 := jrg t2
  refine lv_iload_n hx hb dX12_tellsAs_0 rfl (lv_at hl 1 rfl) ?_
  refine lv_iconst (v := 4) hx hb dX12_tellsAs_1 (by decide) ?_
  refine lv_icmp_ne (tgt := 20) hx hb dX12_tellsAs_2 (by decide) (fun _ => ?_) (fun c => absurd c (by decide))
  refine lv_aload_n hx hb dX12_tellsAs_20 rfl (lv_at hl 0 rfl) ?_
  refine lv_iconst (v := 2) hx hb dX12_tellsAs_21 (by decide) ?_
  refine jcallVv (As := [.int 2]) (rest := []) ⟨hx, hb, hml, hown, hts⟩ hK hP hA hS hZ (c_X12_begins_2_0 l D cI cL ad zz hJ σ τ h55_55) cw_RX12_379 (jc_55 cI cL ad σ τ) rfl ⟨Nat.le_of_ble_eq_true rfl, Nat.le_of_ble_eq_true rfl⟩ rfl rfl rfl hl.1 rfl (Nat.le_of_ble_eq_true rfl) dX12_tellsAs_22 ⟨Nat.zero_le _, Nat.zero_le _⟩ (fun σ1 τ1 H locs h1 hP hS => ?_)
  obtain ⟨rfl, f3, f4, f5, m6, m7, h1⟩ := h1
  refine lv_aload_n hx hb dX12_tellsAs_25 rfl (lv_at hl 0 rfl) ?_
  refine lv_aload_n hx hb dX12_tellsAs_26 rfl (lv_at hl 0 rfl) ?_
  refine va_get (D := D) hx hb hts inlX12 hown hK hP 55 (jc_55 cI cL ad σ1 τ) rfl 56 (by decide) (hts _ kw_49_8) (fun _ h9 => h9) rfl dX12_tellsAs_27 ?_
  have m8 : σ1 55 56 = (σ 55 56) := (f4 56 (by decide))
  refine jtopr m8 ?_
  refine jtopr (jsame (rfl : (σ 55 56).toInt = (σ 55 56).toInt) jz_5 (by omega)) ?_
  refine lv_iload_n hx hb dX12_tellsAs_30 rfl (lv_at hl 2 rfl) ?_
  have z9 : (σ1 55 56).toInt = (σ 55 56).toInt := (congrArg Int32.toInt (show σ1 55 56 = (σ 55 56) from m8))
  refine jcallV (As := [.int 5, .int a2]) (rest := []) ⟨hx, hb, hml, hown, hts⟩ hK hP hA hS hZ (c_X12_holdsAs_5_5_1 l D cI cL ad zz hJ σ1 τ a2 (A2) t2 m6 (by omega)) cw_RX12_388 (jc_55 cI cL ad σ1 τ) rfl ⟨Nat.le_of_ble_eq_true rfl, Nat.le_of_ble_eq_true rfl⟩ rfl rfl rfl hl.1 rfl (Nat.le_of_ble_eq_true rfl) dX12_tellsAs_31 ⟨Nat.zero_le _, Nat.zero_le _⟩ (fun r11 σ10 τ10 H locs h10 hP hS => ?_)
  obtain ⟨rfl, f12, f13, f14, m15, m16, m17, m18, h10⟩ := h10
  have h19 := h10
  obtain ⟨q21, k20⟩ := h19
  have q21 := q21.symm
  subst q21
  refine lv_istore_n (lv' := [(3, .int (-((a2 + (σ1 55 57)) * 2))), (0, .ref (ad 55)), (1, .int 5), (2, .int a2)]) hx hb dX12_tellsAs_34 rfl hl (by decide) rfl (fun ls hl => ?_)
  refine lv_iload_n hx hb dX12_tellsAs_35 rfl (lv_at hl 0 rfl) ?_
  refine lv_aload_n hx hb dX12_tellsAs_36 rfl (lv_at hl 1 rfl) ?_
  refine lv_aload_n hx hb dX12_tellsAs_37 rfl (lv_at hl 1 rfl) ?_
  refine va_get (D := D) hx hb hts inlX12 hown hK hP 55 (jc_55 cI cL ad σ10 τ) rfl 56 (by decide) (hts _ kw_49_8) (fun _ h9 => h9) rfl dX12_tellsAs_38 ?_
  have m22 : σ10 55 56 = (σ 55 56) := ((f13 56 (by decide)).trans m8)
  refine jtopr m22 ?_
  refine jtopr (jsame (rfl : (σ 55 56).toInt = (σ 55 56).toInt) jz_5 (by omega)) ?_
  refine lv_iconst (v := 1) hx hb dX12_tellsAs_41 (by decide) ?_
  have z23 : (σ10 55 56).toInt = (σ 55 56).toInt := (congrArg Int32.toInt (show σ10 55 56 = (σ 55 56) from m22))
  refine jcallV (As := [.int 5, .int 1]) (rest := [.int (-((a2 + (σ1 55 57)) * 2))]) ⟨hx, hb, hml, hown, hts⟩ hK hP hA hS hZ (c_X12_givesAs_5_5_4_x1 l D cI cL ad zz hJ σ10 τ m15 (by omega)) cw_RX12_394 (jc_55 cI cL ad σ10 τ) rfl ⟨Nat.le_of_ble_eq_true rfl, Nat.le_of_ble_eq_true rfl⟩ rfl rfl rfl hl.1 rfl (Nat.le_of_ble_eq_true rfl) dX12_tellsAs_42 ⟨Nat.zero_le _, Nat.zero_le _⟩ (fun r25 σ24 τ24 H locs h24 hP hS => ?_)
  obtain ⟨rfl, f26, f27, f28, m29, m30, m31, m32, m33, h24⟩ := h24
  have h34 := h24
  obtain ⟨q36, k35⟩ := h34
  have q36 := q36.symm
  subst q36
  have g37 := jrg (rfl : (-((a2 + (σ1 55 57)) * 2)).toInt = (-((a2 + (σ1 55 57)) * 2)).toInt)
  have g38 := jrg (rfl : (((1 ^^^ (σ10 55 57)) * 3) - (2 + (σ10 55 57))).toInt = (((1 ^^^ (σ10 55 57)) * 3) - (2 + (σ10 55 57))).toInt)
  refine lv_isub hx hb dX12_tellsAs_45 ?_
  refine lv_topi (fun x39 ex39 => ?_)
  have gx39 := jrg (rfl : x39.toInt = x39.toInt)
  have m40 : σ24 85 0 = 2 := ((f28 0 (by decide)).trans ((f14 0 (by decide)).trans m7))
  have m41 : σ24 85 1 = 40 := ((f28 1 (by decide)).trans m16)
  have m42 : σ24 85 2 = 10 := ((f28 2 (by decide)).trans m17)
  have m43 : σ24 85 3 = 1 := ((f28 3 (by decide)).trans m18)
  exact hret x39 σ24 τ _ _ _ _ rfl ⟨rfl, (fun i hi => ((f26 i hi).trans ((f12 i hi).trans (f3 i hi)))), (fun i hi => ((f27 i hi).trans ((f13 i hi).trans (f4 i hi)))), (fun i hi => ((f28 i (imp_337 i hi)).trans ((f14 i (imp_338 i hi)).trans (f5 i (imp_361 i hi))))), m29, m40, m41, m42, m43, m30, m31, m32, m33, ⟨(by rw [ex39, (show σ1 55 57 = σ 55 57 from (f4 57 (by decide))), (show σ10 55 57 = σ 55 57 from ((f13 57 (by decide)).trans (f4 57 (by decide))))]), trivial⟩⟩ hP hS dX12_tellsAs_46
set_option maxHeartbeats 4000000 in
set_option maxRecDepth 100000 in
theorem c_X12_putsAs_6_6_0 (l : Launch) (D : va_G) (cI cL : ClassId) (ad zz : Nat → Nat) (hJ : jD ad) (σ : Nat → Nat → Int32) (τ : Nat → Nat → Int64) (a2 : Int32) (A2 : Int) (t2 : a2.toInt = A2) (h55_55 : σ 55 55 = 0) (hp0 : (σ 55 56).toInt = 6) : jM l yX12_putsAs cX12_putsAs 3 (some .int) ({ frames := 1, cells := 0, slots := 0, locals := 21 }) D cI cL ad zz [.ref (ad 55), .int 6, .int a2] σ τ (fun r σ' τ' => τ = τ' ∧ (∀ i : Nat, (i < 55 ∨ 55 < i) ∧ (i < 85 ∨ 85 < i) → σ' i = σ i) ∧ (∀ k : Nat, (k < 55 ∨ 55 < k) → σ' 55 k = σ 55 k) ∧ (∀ k : Nat, (k < 0 ∨ 0 < k) → σ' 85 k = σ 85 k) ∧ (σ' 55 55 = 1) ∧ (σ' 85 0 = 1) ∧ ((r = (a2 + (σ 55 57)) ∧ True))) := by
  refine jM.of hJ (by decide +kernel) (nt := .int) rfl (Nat.le_of_ble_eq_true rfl) ?_
  intro p e s m args below meth c Q ls hC hret hl hP
  obtain ⟨hx, hb, hr, hml, hown, hts, hK, -, hlocks, hZ⟩ := hC
  have hown : s.vm.findClass RX12 = some m.cls := hown
  have hS : va_S (jA ad) s.heap s.heap [] := va_S.rf
  have hA : ∀ q, jA ad q → jA ad q := fun _ h => h
  have hl : lv_has ls 3 [(0, .ref (ad 55)), (1, .int 6), (2, .int a2)] := hl
  have g2 := jrg t2
  refine lv_iload_n hx hb dX12_putsAs_0 rfl (lv_at hl 1 rfl) ?_
  refine lv_iconst (v := 4) hx hb dX12_putsAs_1 (by decide) ?_
  refine lv_icmp_ne (tgt := 20) hx hb dX12_putsAs_2 (by decide) (fun _ => ?_) (fun c => absurd c (by decide))
  refine lv_iload_n hx hb dX12_putsAs_20 rfl (lv_at hl 1 rfl) ?_
  refine lv_iconst (v := 1) hx hb dX12_putsAs_21 (by decide) ?_
  refine lv_icmp_ne (tgt := 40) hx hb dX12_putsAs_22 (by decide) (fun _ => ?_) (fun c => absurd c (by decide))
  refine lv_aload_n hx hb dX12_putsAs_40 rfl (lv_at hl 0 rfl) ?_
  refine lv_iconst (v := 1) hx hb dX12_putsAs_41 (by decide) ?_
  refine jcallVv (As := [.int 1]) (rest := []) ⟨hx, hb, hml, hown, hts⟩ hK hP hA hS hZ (c_X12_begins_1_0 l D cI cL ad zz hJ σ τ h55_55) cw_RX12_379 (jc_55 cI cL ad σ τ) rfl ⟨Nat.le_of_ble_eq_true rfl, Nat.le_of_ble_eq_true rfl⟩ rfl rfl rfl hl.1 rfl (Nat.le_of_ble_eq_true rfl) dX12_putsAs_42 ⟨Nat.zero_le _, Nat.zero_le _⟩ (fun σ1 τ1 H locs h1 hP hS => ?_)
  obtain ⟨rfl, f3, f4, f5, m6, m7, h1⟩ := h1
  refine lv_iload_n hx hb dX12_putsAs_45 rfl (lv_at hl 2 rfl) ?_
  refine lv_aload_n hx hb dX12_putsAs_46 rfl (lv_at hl 0 rfl) ?_
  refine va_get (D := D) hx hb hts inlX12 hown hK hP 55 (jc_55 cI cL ad σ1 τ) rfl 57 (by decide) (hts _ kw_49_9) (fun _ h9 => h9) rfl dX12_putsAs_47 ?_
  have m8 : σ1 55 57 = (σ 55 57) := (f4 57 (by decide))
  refine jtopr m8 ?_
  have g9 := jrg (rfl : (σ 55 57).toInt = (σ 55 57).toInt)
  refine lv_iadd hx hb dX12_putsAs_50 ?_
  refine lv_topi (fun x10 ex10 => ?_)
  have gx10 := jrg (rfl : x10.toInt = x10.toInt)
  exact hret x10 σ1 τ _ _ _ _ rfl ⟨rfl, (fun i hi => (f3 i hi)), (fun i hi => (f4 i hi)), (fun i hi => (f5 i hi)), m6, m7, ⟨(by rw [ex10]), trivial⟩⟩ hP hS dX12_putsAs_51
set_option maxHeartbeats 4000000 in
set_option maxRecDepth 100000 in
theorem c_X12_begins_70_0 (l : Launch) (D : va_G) (cI cL : ClassId) (ad zz : Nat → Nat) (hJ : jD ad) (σ : Nat → Nat → Int32) (τ : Nat → Nat → Int64) (h55_55 : σ 55 55 = 0) : jMv l yX12_begins cX12_begins 2 none ({ frames := 0, cells := 0, slots := 0, locals := 0 }) D cI cL ad zz [.ref (ad 55), .int 70] σ τ (fun σ' τ' => τ = τ' ∧ (∀ i : Nat, (i < 55 ∨ 55 < i) ∧ (i < 85 ∨ 85 < i) → σ' i = σ i) ∧ (∀ k : Nat, (k < 55 ∨ 55 < k) → σ' 55 k = σ 55 k) ∧ (∀ k : Nat, (k < 0 ∨ 0 < k) → σ' 85 k = σ 85 k) ∧ (σ' 55 55 = 1) ∧ (σ' 85 0 = 70) ∧ True) := by
  refine jMv.of hJ (by decide +kernel) rfl (Nat.le_of_ble_eq_true rfl) ?_
  intro p e s m args below meth c Q ls hC hret hl hP
  obtain ⟨hx, hb, hr, hml, hown, hts, hK, -, hlocks, hZ⟩ := hC
  have hown : s.vm.findClass RX12 = some m.cls := hown
  have hS : va_S (jA ad) s.heap s.heap [] := va_S.rf
  have hA : ∀ q, jA ad q → jA ad q := fun _ h => h
  have hl : lv_has ls 2 [(0, .ref (ad 55)), (1, .int 70)] := hl
  refine lv_aload_n hx hb dX12_begins_0 rfl (lv_at hl 0 rfl) ?_
  refine va_get (D := D) hx hb hts inlX12 hown hK hP 55 (jc_55 cI cL ad σ τ) rfl 55 (by decide) (hts _ kw_49_7) (fun _ h9 => h9) rfl dX12_begins_1 ?_
  refine jtopr h55_55 ?_
  refine lv_bipush (v := 24) hx hb dX12_begins_4 (by decide) ?_
  refine lv_icmp_ge (tgt := 19) hx hb dX12_begins_6 (by decide) (fun c => absurd c (by decide)) (fun _ => ?_)
  refine lv_aload_n hx hb dX12_begins_9 rfl (lv_at hl 0 rfl) ?_
  refine va_get (D := D) hx hb hts inlX12 hown hK hP 55 (jc_55 cI cL ad σ τ) rfl 54 (by decide) (hts _ kw_8_10) (fun _ h9 => h9) rfl dX12_begins_10 ?_
  refine lv_aload_n hx hb dX12_begins_13 rfl (lv_at hl 0 rfl) ?_
  refine va_get (D := D) hx hb hts inlX12 hown hK hP 55 (jc_55 cI cL ad σ τ) rfl 55 (by decide) (hts _ kw_49_7) (fun _ h9 => h9) rfl dX12_begins_14 ?_
  refine jtopr h55_55 ?_
  refine lv_iload_n hx hb dX12_begins_17 rfl (lv_at hl 1 rfl) ?_
  refine jast hx hb hK hP hJ hA hS (jc_85 cI cL ad σ τ) (ja_85 cI cL ad σ τ _ _) (jin jz_0 (by omega) (by omega)) dX12_begins_18 (fun σ1 H locs eσ1 hP hS => ?_)
  have eσ1 : σ1 = jup σ 85 0 70 := eσ1
  refine lv_aload_n hx hb dX12_begins_19 rfl (lv_at hl 0 rfl) ?_
  refine lv_dup hx hb dX12_begins_20 rfl ?_
  refine va_get (D := D) hx hb hts inlX12 hown hK hP 55 (jc_55 cI cL ad σ1 τ) rfl 55 (by decide) (hts _ kw_49_7) (fun _ h9 => h9) rfl dX12_begins_21 ?_
  have m2 : σ1 55 55 = 0 := ((congrFun (jnp 55 eσ1 (by decide)) 55).trans h55_55)
  refine jtopr m2 ?_
  refine lv_iconst (v := 1) hx hb dX12_begins_24 (by decide) ?_
  refine lv_iadd hx hb dX12_begins_25 ?_
  refine jtopr (y := 1) (by decide) ?_
  refine jput (ty := .int) hx hb hts inlX12 tyX12 tyX12_ok nmX12 hown hK hP hJ hA hS (jc_55 cI cL ad σ1 τ) rfl (k := 55) (by decide) (Nat.le_of_ble_eq_true rfl) (jp_55_55 cI cL ad σ1 τ 1) (hts _ kw_49_7) (fun _ h9 => h9) rfl (by decide +kernel) rfl rfl dX12_begins_26 (fun σ3 H locs eσ3 hP hS => ?_)
  have m4 : σ3 55 55 = 1 := (jsp eσ3)
  have m5 : σ3 85 0 = 70 := ((congrFun (jnp 85 eσ3 (by decide)) 0).trans (jsp eσ1))
  exact hret σ3 τ _ _ _ _ ⟨rfl, (fun i hi => ((jnp i eσ3 (imp_345 i hi)).trans (jnp i eσ1 (imp_346 i hi)))), (fun i hi => ((jkp i eσ3 (imp_164 i hi)).trans (congrFun (jnp 55 eσ1 (by decide)) i))), (fun i hi => ((congrFun (jnp 85 eσ3 (by decide)) i).trans (jkp i eσ1 (imp_4 i hi)))), m4, m5, trivial⟩ hP hS dX12_begins_29
set_option maxHeartbeats 4000000 in
set_option maxRecDepth 100000 in
theorem c_X12_putsAs_6_6_2 (l : Launch) (D : va_G) (cI cL : ClassId) (ad zz : Nat → Nat) (hJ : jD ad) (σ : Nat → Nat → Int32) (τ : Nat → Nat → Int64) (a2 : Int32) (A2 : Int) (t2 : a2.toInt = A2) (h55_55 : σ 55 55 = 2) (hp0 : (σ 55 56).toInt = 6) : jM l yX12_putsAs cX12_putsAs 3 (some .int) ({ frames := 1, cells := 0, slots := 0, locals := 21 }) D cI cL ad zz [.ref (ad 55), .int 6, .int a2] σ τ (fun r σ' τ' => τ = τ' ∧ (∀ i : Nat, (i < 55 ∨ 55 < i) ∧ (i < 85 ∨ 85 < i) → σ' i = σ i) ∧ (∀ k : Nat, (k < 55 ∨ 55 < k) → σ' 55 k = σ 55 k) ∧ (∀ k : Nat, (k < 2 ∨ 2 < k) → σ' 85 k = σ 85 k) ∧ (σ' 55 55 = 3) ∧ (σ' 85 2 = 1) ∧ ((r = (a2 + (σ 55 57)) ∧ True))) := by
  refine jM.of hJ (by decide +kernel) (nt := .int) rfl (Nat.le_of_ble_eq_true rfl) ?_
  intro p e s m args below meth c Q ls hC hret hl hP
  obtain ⟨hx, hb, hr, hml, hown, hts, hK, -, hlocks, hZ⟩ := hC
  have hown : s.vm.findClass RX12 = some m.cls := hown
  have hS : va_S (jA ad) s.heap s.heap [] := va_S.rf
  have hA : ∀ q, jA ad q → jA ad q := fun _ h => h
  have hl : lv_has ls 3 [(0, .ref (ad 55)), (1, .int 6), (2, .int a2)] := hl
  have g2 := jrg t2
  refine lv_iload_n hx hb dX12_putsAs_0 rfl (lv_at hl 1 rfl) ?_
  refine lv_iconst (v := 4) hx hb dX12_putsAs_1 (by decide) ?_
  refine lv_icmp_ne (tgt := 20) hx hb dX12_putsAs_2 (by decide) (fun _ => ?_) (fun c => absurd c (by decide))
  refine lv_iload_n hx hb dX12_putsAs_20 rfl (lv_at hl 1 rfl) ?_
  refine lv_iconst (v := 1) hx hb dX12_putsAs_21 (by decide) ?_
  refine lv_icmp_ne (tgt := 40) hx hb dX12_putsAs_22 (by decide) (fun _ => ?_) (fun c => absurd c (by decide))
  refine lv_aload_n hx hb dX12_putsAs_40 rfl (lv_at hl 0 rfl) ?_
  refine lv_iconst (v := 1) hx hb dX12_putsAs_41 (by decide) ?_
  refine jcallVv (As := [.int 1]) (rest := []) ⟨hx, hb, hml, hown, hts⟩ hK hP hA hS hZ (c_X12_begins_1_2 l D cI cL ad zz hJ σ τ h55_55) cw_RX12_379 (jc_55 cI cL ad σ τ) rfl ⟨Nat.le_of_ble_eq_true rfl, Nat.le_of_ble_eq_true rfl⟩ rfl rfl rfl hl.1 rfl (Nat.le_of_ble_eq_true rfl) dX12_putsAs_42 ⟨Nat.zero_le _, Nat.zero_le _⟩ (fun σ1 τ1 H locs h1 hP hS => ?_)
  obtain ⟨rfl, f3, f4, f5, m6, m7, h1⟩ := h1
  refine lv_iload_n hx hb dX12_putsAs_45 rfl (lv_at hl 2 rfl) ?_
  refine lv_aload_n hx hb dX12_putsAs_46 rfl (lv_at hl 0 rfl) ?_
  refine va_get (D := D) hx hb hts inlX12 hown hK hP 55 (jc_55 cI cL ad σ1 τ) rfl 57 (by decide) (hts _ kw_49_9) (fun _ h9 => h9) rfl dX12_putsAs_47 ?_
  have m8 : σ1 55 57 = (σ 55 57) := (f4 57 (by decide))
  refine jtopr m8 ?_
  have g9 := jrg (rfl : (σ 55 57).toInt = (σ 55 57).toInt)
  refine lv_iadd hx hb dX12_putsAs_50 ?_
  refine lv_topi (fun x10 ex10 => ?_)
  have gx10 := jrg (rfl : x10.toInt = x10.toInt)
  exact hret x10 σ1 τ _ _ _ _ rfl ⟨rfl, (fun i hi => (f3 i hi)), (fun i hi => (f4 i hi)), (fun i hi => (f5 i hi)), m6, m7, ⟨(by rw [ex10]), trivial⟩⟩ hP hS dX12_putsAs_51
set_option maxHeartbeats 4000000 in
set_option maxRecDepth 100000 in
theorem c_X12_holdsAs_6_0_1 (l : Launch) (D : va_G) (cI cL : ClassId) (ad zz : Nat → Nat) (hJ : jD ad) (σ : Nat → Nat → Int32) (τ : Nat → Nat → Int64) (a2 : Int32) (A2 : Int) (t2 : a2.toInt = A2) (h55_55 : σ 55 55 = 1) (hp0 : (σ 55 56).toInt = 6) : jM l yX12_holdsAs cX12_holdsAs 4 (some .int) ({ frames := 2, cells := 0, slots := 0, locals := 43 }) D cI cL ad zz [.ref (ad 55), .int 0, .int a2] σ τ (fun r σ' τ' => τ = τ' ∧ (∀ i : Nat, (i < 55 ∨ 55 < i) ∧ (i < 85 ∨ 85 < i) → σ' i = σ i) ∧ (∀ k : Nat, (k < 55 ∨ 55 < k) → σ' 55 k = σ 55 k) ∧ (∀ k : Nat, (k < 1 ∨ 1 < k) ∧ (k < 2 ∨ 2 < k) → σ' 85 k = σ 85 k) ∧ (σ' 55 55 = 3) ∧ (σ' 85 1 = 10) ∧ (σ' 85 2 = 1) ∧ ((r = ((a2 + (σ 55 57)) * 2) ∧ True))) := by
  refine jM.of hJ (by decide +kernel) (nt := .int) rfl (Nat.le_of_ble_eq_true rfl) ?_
  intro p e s m args below meth c Q ls hC hret hl hP
  obtain ⟨hx, hb, hr, hml, hown, hts, hK, -, hlocks, hZ⟩ := hC
  have hown : s.vm.findClass RX12 = some m.cls := hown
  have hS : va_S (jA ad) s.heap s.heap [] := va_S.rf
  have hA : ∀ q, jA ad q → jA ad q := fun _ h => h
  have hl : lv_has ls 4 [(0, .ref (ad 55)), (1, .int 0), (2, .int a2)] := hl
  have g2 := jrg t2
  refine lv_iload_n hx hb dX12_holdsAs_0 rfl (lv_at hl 1 rfl) ?_
  refine lv_iconst (v := 3) hx hb dX12_holdsAs_1 (by decide) ?_
  refine lv_icmp_eq (tgt := 10) hx hb dX12_holdsAs_2 (by decide) (fun c => absurd c (by decide)) (fun _ => ?_)
  refine lv_iload_n hx hb dX12_holdsAs_5 rfl (lv_at hl 1 rfl) ?_
  refine lv_iconst (v := 5) hx hb dX12_holdsAs_6 (by decide) ?_
  refine lv_icmp_ne (tgt := 24) hx hb dX12_holdsAs_7 (by decide) (fun _ => ?_) (fun c => absurd c (by decide))
  refine lv_iload_n hx hb dX12_holdsAs_24 rfl (lv_at hl 1 rfl) ?_
  refine lv_bipush (v := 6) hx hb dX12_holdsAs_25 (by decide) ?_
  refine lv_icmp_ne (tgt := 55) hx hb dX12_holdsAs_27 (by decide) (fun _ => ?_) (fun c => absurd c (by decide))
  refine lv_aload_n hx hb dX12_holdsAs_55 rfl (lv_at hl 0 rfl) ?_
  refine lv_bipush (v := 10) hx hb dX12_holdsAs_56 (by decide) ?_
  refine jcallVv (As := [.int 10]) (rest := []) ⟨hx, hb, hml, hown, hts⟩ hK hP hA hS hZ (c_X12_begins_10_1 l D cI cL ad zz hJ σ τ h55_55) cw_RX12_379 (jc_55 cI cL ad σ τ) rfl ⟨Nat.le_of_ble_eq_true rfl, Nat.le_of_ble_eq_true rfl⟩ rfl rfl rfl hl.1 rfl (Nat.le_of_ble_eq_true rfl) dX12_holdsAs_58 ⟨Nat.zero_le _, Nat.zero_le _⟩ (fun σ1 τ1 H locs h1 hP hS => ?_)
  obtain ⟨rfl, f3, f4, f5, m6, m7, h1⟩ := h1
  refine lv_aload_n hx hb dX12_holdsAs_61 rfl (lv_at hl 0 rfl) ?_
  refine lv_aload_n hx hb dX12_holdsAs_62 rfl (lv_at hl 0 rfl) ?_
  refine va_get (D := D) hx hb hts inlX12 hown hK hP 55 (jc_55 cI cL ad σ1 τ) rfl 56 (by decide) (hts _ kw_49_8) (fun _ h9 => h9) rfl dX12_holdsAs_63 ?_
  have m8 : σ1 55 56 = (σ 55 56) := (f4 56 (by decide))
  refine jtopr m8 ?_
  refine jtopr (jsame (rfl : (σ 55 56).toInt = (σ 55 56).toInt) jz_6 (by omega)) ?_
  refine lv_iload_n hx hb dX12_holdsAs_66 rfl (lv_at hl 2 rfl) ?_
  have z9 : (σ1 55 56).toInt = (σ 55 56).toInt := (congrArg Int32.toInt (show σ1 55 56 = (σ 55 56) from m8))
  refine jcallV (As := [.int 6, .int a2]) (rest := []) ⟨hx, hb, hml, hown, hts⟩ hK hP hA hS hZ (c_X12_putsAs_6_6_2 l D cI cL ad zz hJ σ1 τ a2 (A2) t2 m6 (by omega)) cw_RX12_382 (jc_55 cI cL ad σ1 τ) rfl ⟨Nat.le_of_ble_eq_true rfl, Nat.le_of_ble_eq_true rfl⟩ rfl rfl rfl hl.1 rfl (Nat.le_of_ble_eq_true rfl) dX12_holdsAs_67 ⟨Nat.zero_le _, Nat.zero_le _⟩ (fun r11 σ10 τ10 H locs h10 hP hS => ?_)
  obtain ⟨rfl, f12, f13, f14, m15, m16, h10⟩ := h10
  have h17 := h10
  obtain ⟨q19, k18⟩ := h17
  have q19 := q19.symm
  subst q19
  refine lv_iconst (v := 2) hx hb dX12_holdsAs_70 (by decide) ?_
  have g20 := jrg (rfl : (a2 + (σ1 55 57)).toInt = (a2 + (σ1 55 57)).toInt)
  refine lv_imul hx hb dX12_holdsAs_71 ?_
  refine lv_topi (fun x21 ex21 => ?_)
  have gx21 := jrg (rfl : x21.toInt = x21.toInt)
  have m22 : σ10 85 1 = 10 := ((f14 1 (by decide)).trans m7)
  exact hret x21 σ10 τ _ _ _ _ rfl ⟨rfl, (fun i hi => ((f12 i hi).trans (f3 i hi))), (fun i hi => ((f13 i hi).trans (f4 i hi))), (fun i hi => ((f14 i (imp_43 i hi)).trans (f5 i (imp_60 i hi)))), m15, m22, m16, ⟨(by rw [ex21, (show σ1 55 57 = σ 55 57 from (f4 57 (by decide)))]), trivial⟩⟩ hP hS dX12_holdsAs_72
set_option maxHeartbeats 4000000 in
set_option maxRecDepth 100000 in
theorem c_X12_givesAs_6_6_3_x1 (l : Launch) (D : va_G) (cI cL : ClassId) (ad zz : Nat → Nat) (hJ : jD ad) (σ : Nat → Nat → Int32) (τ : Nat → Nat → Int64) (h55_55 : σ 55 55 = 3) (hp0 : (σ 55 56).toInt = 6) : jM l yX12_givesAs cX12_givesAs 4 (some .int) ({ frames := 1, cells := 0, slots := 0, locals := 21 }) D cI cL ad zz [.ref (ad 55), .int 6, .int 1] σ τ (fun r σ' τ' => τ = τ' ∧ (∀ i : Nat, (i < 55 ∨ 55 < i) ∧ (i < 85 ∨ 85 < i) → σ' i = σ i) ∧ (∀ k : Nat, (k < 55 ∨ 55 < k) → σ' 55 k = σ 55 k) ∧ (∀ k : Nat, (k < 3 ∨ 3 < k) → σ' 85 k = σ 85 k) ∧ (σ' 55 55 = 4) ∧ (σ' 85 3 = 11) ∧ ((r = (1 ^^^ (σ 55 57)) ∧ True))) := by
  refine jM.of hJ (by decide +kernel) (nt := .int) rfl (Nat.le_of_ble_eq_true rfl) ?_
  intro p e s m args below meth c Q ls hC hret hl hP
  obtain ⟨hx, hb, hr, hml, hown, hts, hK, -, hlocks, hZ⟩ := hC
  have hown : s.vm.findClass RX12 = some m.cls := hown
  have hS : va_S (jA ad) s.heap s.heap [] := va_S.rf
  have hA : ∀ q, jA ad q → jA ad q := fun _ h => h
  have hl : lv_has ls 4 [(0, .ref (ad 55)), (1, .int 6), (2, .int 1)] := hl
  refine lv_iload_n hx hb dX12_givesAs_0 rfl (lv_at hl 1 rfl) ?_
  refine lv_iconst (v := 5) hx hb dX12_givesAs_1 (by decide) ?_
  refine lv_icmp_ne (tgt := 30) hx hb dX12_givesAs_2 (by decide) (fun _ => ?_) (fun c => absurd c (by decide))
  refine lv_iload_n hx hb dX12_givesAs_30 rfl (lv_at hl 1 rfl) ?_
  refine lv_iconst (v := 2) hx hb dX12_givesAs_31 (by decide) ?_
  refine lv_icmp_eq (tgt := 40) hx hb dX12_givesAs_32 (by decide) (fun c => absurd c (by decide)) (fun _ => ?_)
  refine lv_iload_n hx hb dX12_givesAs_35 rfl (lv_at hl 1 rfl) ?_
  refine lv_iconst (v := 3) hx hb dX12_givesAs_36 (by decide) ?_
  refine lv_icmp_ne (tgt := 55) hx hb dX12_givesAs_37 (by decide) (fun _ => ?_) (fun c => absurd c (by decide))
  refine lv_aload_n hx hb dX12_givesAs_55 rfl (lv_at hl 0 rfl) ?_
  refine lv_bipush (v := 11) hx hb dX12_givesAs_56 (by decide) ?_
  refine jcallVv (As := [.int 11]) (rest := []) ⟨hx, hb, hml, hown, hts⟩ hK hP hA hS hZ (c_X12_begins_11_3 l D cI cL ad zz hJ σ τ h55_55) cw_RX12_379 (jc_55 cI cL ad σ τ) rfl ⟨Nat.le_of_ble_eq_true rfl, Nat.le_of_ble_eq_true rfl⟩ rfl rfl rfl hl.1 rfl (Nat.le_of_ble_eq_true rfl) dX12_givesAs_58 ⟨Nat.zero_le _, Nat.zero_le _⟩ (fun σ1 τ1 H locs h1 hP hS => ?_)
  obtain ⟨rfl, f3, f4, f5, m6, m7, h1⟩ := h1
  refine lv_iload_n hx hb dX12_givesAs_61 rfl (lv_at hl 2 rfl) ?_
  refine lv_aload_n hx hb dX12_givesAs_62 rfl (lv_at hl 0 rfl) ?_
  refine va_get (D := D) hx hb hts inlX12 hown hK hP 55 (jc_55 cI cL ad σ1 τ) rfl 57 (by decide) (hts _ kw_49_9) (fun _ h9 => h9) rfl dX12_givesAs_63 ?_
  have m8 : σ1 55 57 = (σ 55 57) := (f4 57 (by decide))
  refine jtopr m8 ?_
  refine lv_ixor hx hb dX12_givesAs_66 ?_
  refine lv_topi (fun x9 ex9 => ?_)
  have gx9 := jrg (rfl : x9.toInt = x9.toInt)
  exact hret x9 σ1 τ _ _ _ _ rfl ⟨rfl, (fun i hi => (f3 i hi)), (fun i hi => (f4 i hi)), (fun i hi => (f5 i hi)), m6, m7, ⟨(by rw [ex9]), trivial⟩⟩ hP hS dX12_givesAs_67
set_option maxHeartbeats 4000000 in
set_option maxRecDepth 100000 in
theorem c_X12_holdsAs_6_6_0 (l : Launch) (D : va_G) (cI cL : ClassId) (ad zz : Nat → Nat) (hJ : jD ad) (σ : Nat → Nat → Int32) (τ : Nat → Nat → Int64) (a2 : Int32) (A2 : Int) (t2 : a2.toInt = A2) (h55_55 : σ 55 55 = 0) (hp0 : (σ 55 56).toInt = 6) : jM l yX12_holdsAs cX12_holdsAs 4 (some .int) ({ frames := 3, cells := 0, slots := 0, locals := 66 }) D cI cL ad zz [.ref (ad 55), .int 6, .int a2] σ τ (fun r σ' τ' => τ = τ' ∧ (∀ i : Nat, (i < 55 ∨ 55 < i) ∧ (i < 85 ∨ 85 < i) → σ' i = σ i) ∧ (∀ k : Nat, (k < 55 ∨ 55 < k) → σ' 55 k = σ 55 k) ∧ (∀ k : Nat, (k < 0 ∨ 0 < k) ∧ (k < 1 ∨ 1 < k) ∧ (k < 2 ∨ 2 < k) ∧ (k < 3 ∨ 3 < k) → σ' 85 k = σ 85 k) ∧ (σ' 55 55 = 4) ∧ (σ' 85 0 = 70) ∧ (σ' 85 1 = 10) ∧ (σ' 85 2 = 1) ∧ (σ' 85 3 = 11) ∧ ((r = (((a2 + (σ 55 57)) * 2) + (1 ^^^ (σ 55 57))) ∧ True))) := by
  refine jM.of hJ (by decide +kernel) (nt := .int) rfl (Nat.le_of_ble_eq_true rfl) ?_
  intro p e s m args below meth c Q ls hC hret hl hP
  obtain ⟨hx, hb, hr, hml, hown, hts, hK, -, hlocks, hZ⟩ := hC
  have hown : s.vm.findClass RX12 = some m.cls := hown
  have hS : va_S (jA ad) s.heap s.heap [] := va_S.rf
  have hA : ∀ q, jA ad q → jA ad q := fun _ h => h
  have hl : lv_has ls 4 [(0, .ref (ad 55)), (1, .int 6), (2, .int a2)] := hl
  have g2 := jrg t2
  refine lv_iload_n hx hb dX12_holdsAs_0 rfl (lv_at hl 1 rfl) ?_
  refine lv_iconst (v := 3) hx hb dX12_holdsAs_1 (by decide) ?_
  refine lv_icmp_eq (tgt := 10) hx hb dX12_holdsAs_2 (by decide) (fun c => absurd c (by decide)) (fun _ => ?_)
  refine lv_iload_n hx hb dX12_holdsAs_5 rfl (lv_at hl 1 rfl) ?_
  refine lv_iconst (v := 5) hx hb dX12_holdsAs_6 (by decide) ?_
  refine lv_icmp_ne (tgt := 24) hx hb dX12_holdsAs_7 (by decide) (fun _ => ?_) (fun c => absurd c (by decide))
  refine lv_iload_n hx hb dX12_holdsAs_24 rfl (lv_at hl 1 rfl) ?_
  refine lv_bipush (v := 6) hx hb dX12_holdsAs_25 (by decide) ?_
  refine lv_icmp_ne (tgt := 55) hx hb dX12_holdsAs_27 (by decide) (fun c => absurd (by decide) c) (fun _ => ?_)
  refine lv_aload_n hx hb dX12_holdsAs_30 rfl (lv_at hl 0 rfl) ?_
  refine lv_bipush (v := 70) hx hb dX12_holdsAs_31 (by decide) ?_
  refine jcallVv (As := [.int 70]) (rest := []) ⟨hx, hb, hml, hown, hts⟩ hK hP hA hS hZ (c_X12_begins_70_0 l D cI cL ad zz hJ σ τ h55_55) cw_RX12_379 (jc_55 cI cL ad σ τ) rfl ⟨Nat.le_of_ble_eq_true rfl, Nat.le_of_ble_eq_true rfl⟩ rfl rfl rfl hl.1 rfl (Nat.le_of_ble_eq_true rfl) dX12_holdsAs_33 ⟨Nat.zero_le _, Nat.zero_le _⟩ (fun σ1 τ1 H locs h1 hP hS => ?_)
  obtain ⟨rfl, f3, f4, f5, m6, m7, h1⟩ := h1
  refine lv_aload_n hx hb dX12_holdsAs_36 rfl (lv_at hl 0 rfl) ?_
  refine lv_iconst (v := 0) hx hb dX12_holdsAs_37 (by decide) ?_
  refine lv_iload_n hx hb dX12_holdsAs_38 rfl (lv_at hl 2 rfl) ?_
  have z8 : (σ1 55 56).toInt = (σ 55 56).toInt := (congrArg Int32.toInt (show σ1 55 56 = (σ 55 56) from (f4 56 (by decide))))
  refine jcallV (As := [.int 0, .int a2]) (rest := []) ⟨hx, hb, hml, hown, hts⟩ hK hP hA hS hZ (c_X12_holdsAs_6_0_1 l D cI cL ad zz hJ σ1 τ a2 (A2) t2 m6 (by omega)) cw_RX12_388 (jc_55 cI cL ad σ1 τ) rfl ⟨Nat.le_of_ble_eq_true rfl, Nat.le_of_ble_eq_true rfl⟩ rfl rfl rfl hl.1 rfl (Nat.le_of_ble_eq_true rfl) dX12_holdsAs_39 ⟨Nat.zero_le _, Nat.zero_le _⟩ (fun r10 σ9 τ9 H locs h9 hP hS => ?_)
  obtain ⟨rfl, f11, f12, f13, m14, m15, m16, h9⟩ := h9
  have h17 := h9
  obtain ⟨q19, k18⟩ := h17
  have q19 := q19.symm
  subst q19
  refine lv_istore_n (lv' := [(3, .int ((a2 + (σ1 55 57)) * 2)), (0, .ref (ad 55)), (1, .int 6), (2, .int a2)]) hx hb dX12_holdsAs_42 rfl hl (by decide) rfl (fun ls hl => ?_)
  refine lv_iload_n hx hb dX12_holdsAs_43 rfl (lv_at hl 0 rfl) ?_
  refine lv_aload_n hx hb dX12_holdsAs_44 rfl (lv_at hl 1 rfl) ?_
  refine lv_aload_n hx hb dX12_holdsAs_45 rfl (lv_at hl 1 rfl) ?_
  refine va_get (D := D) hx hb hts inlX12 hown hK hP 55 (jc_55 cI cL ad σ9 τ) rfl 56 (by decide) (hts _ kw_49_8) (fun _ h9 => h9) rfl dX12_holdsAs_46 ?_
  have m20 : σ9 55 56 = (σ 55 56) := ((f12 56 (by decide)).trans (f4 56 (by decide)))
  refine jtopr m20 ?_
  refine jtopr (jsame (rfl : (σ 55 56).toInt = (σ 55 56).toInt) jz_6 (by omega)) ?_
  refine lv_iconst (v := 1) hx hb dX12_holdsAs_49 (by decide) ?_
  have z21 : (σ9 55 56).toInt = (σ 55 56).toInt := (congrArg Int32.toInt (show σ9 55 56 = (σ 55 56) from m20))
  refine jcallV (As := [.int 6, .int 1]) (rest := [.int ((a2 + (σ1 55 57)) * 2)]) ⟨hx, hb, hml, hown, hts⟩ hK hP hA hS hZ (c_X12_givesAs_6_6_3_x1 l D cI cL ad zz hJ σ9 τ m14 (by omega)) cw_RX12_394 (jc_55 cI cL ad σ9 τ) rfl ⟨Nat.le_of_ble_eq_true rfl, Nat.le_of_ble_eq_true rfl⟩ rfl rfl rfl hl.1 rfl (Nat.le_of_ble_eq_true rfl) dX12_holdsAs_50 ⟨Nat.zero_le _, Nat.zero_le _⟩ (fun r23 σ22 τ22 H locs h22 hP hS => ?_)
  obtain ⟨rfl, f24, f25, f26, m27, m28, h22⟩ := h22
  have h29 := h22
  obtain ⟨q31, k30⟩ := h29
  have q31 := q31.symm
  subst q31
  have g32 := jrg (rfl : ((a2 + (σ1 55 57)) * 2).toInt = ((a2 + (σ1 55 57)) * 2).toInt)
  have g33 := jrg (rfl : (1 ^^^ (σ9 55 57)).toInt = (1 ^^^ (σ9 55 57)).toInt)
  refine lv_iadd hx hb dX12_holdsAs_53 ?_
  refine lv_topi (fun x34 ex34 => ?_)
  have gx34 := jrg (rfl : x34.toInt = x34.toInt)
  have m35 : σ22 85 0 = 70 := ((f26 0 (by decide)).trans ((f13 0 (by decide)).trans m7))
  have m36 : σ22 85 1 = 10 := ((f26 1 (by decide)).trans m15)
  have m37 : σ22 85 2 = 1 := ((f26 2 (by decide)).trans m16)
  exact hret x34 σ22 τ _ _ _ _ rfl ⟨rfl, (fun i hi => ((f24 i hi).trans ((f11 i hi).trans (f3 i hi)))), (fun i hi => ((f25 i hi).trans ((f12 i hi).trans (f4 i hi)))), (fun i hi => ((f26 i (imp_304 i hi)).trans ((f13 i (imp_305 i hi)).trans (f5 i (imp_348 i hi))))), m27, m35, m36, m37, m28, ⟨(by rw [ex34, (show σ1 55 57 = σ 55 57 from (f4 57 (by decide))), (show σ9 55 57 = σ 55 57 from ((f12 57 (by decide)).trans (f4 57 (by decide))))]), trivial⟩⟩ hP hS dX12_holdsAs_54
set_option maxHeartbeats 4000000 in
set_option maxRecDepth 100000 in
theorem c_X12_givesAs_6_6_0 (l : Launch) (D : va_G) (cI cL : ClassId) (ad zz : Nat → Nat) (hJ : jD ad) (σ : Nat → Nat → Int32) (τ : Nat → Nat → Int64) (a2 : Int32) (A2 : Int) (t2 : a2.toInt = A2) (h55_55 : σ 55 55 = 0) (hp0 : (σ 55 56).toInt = 6) : jM l yX12_givesAs cX12_givesAs 4 (some .int) ({ frames := 1, cells := 0, slots := 0, locals := 21 }) D cI cL ad zz [.ref (ad 55), .int 6, .int a2] σ τ (fun r σ' τ' => τ = τ' ∧ (∀ i : Nat, (i < 55 ∨ 55 < i) ∧ (i < 85 ∨ 85 < i) → σ' i = σ i) ∧ (∀ k : Nat, (k < 55 ∨ 55 < k) → σ' 55 k = σ 55 k) ∧ (∀ k : Nat, (k < 0 ∨ 0 < k) → σ' 85 k = σ 85 k) ∧ (σ' 55 55 = 1) ∧ (σ' 85 0 = 11) ∧ ((r = (a2 ^^^ (σ 55 57)) ∧ True))) := by
  refine jM.of hJ (by decide +kernel) (nt := .int) rfl (Nat.le_of_ble_eq_true rfl) ?_
  intro p e s m args below meth c Q ls hC hret hl hP
  obtain ⟨hx, hb, hr, hml, hown, hts, hK, -, hlocks, hZ⟩ := hC
  have hown : s.vm.findClass RX12 = some m.cls := hown
  have hS : va_S (jA ad) s.heap s.heap [] := va_S.rf
  have hA : ∀ q, jA ad q → jA ad q := fun _ h => h
  have hl : lv_has ls 4 [(0, .ref (ad 55)), (1, .int 6), (2, .int a2)] := hl
  have g2 := jrg t2
  refine lv_iload_n hx hb dX12_givesAs_0 rfl (lv_at hl 1 rfl) ?_
  refine lv_iconst (v := 5) hx hb dX12_givesAs_1 (by decide) ?_
  refine lv_icmp_ne (tgt := 30) hx hb dX12_givesAs_2 (by decide) (fun _ => ?_) (fun c => absurd c (by decide))
  refine lv_iload_n hx hb dX12_givesAs_30 rfl (lv_at hl 1 rfl) ?_
  refine lv_iconst (v := 2) hx hb dX12_givesAs_31 (by decide) ?_
  refine lv_icmp_eq (tgt := 40) hx hb dX12_givesAs_32 (by decide) (fun c => absurd c (by decide)) (fun _ => ?_)
  refine lv_iload_n hx hb dX12_givesAs_35 rfl (lv_at hl 1 rfl) ?_
  refine lv_iconst (v := 3) hx hb dX12_givesAs_36 (by decide) ?_
  refine lv_icmp_ne (tgt := 55) hx hb dX12_givesAs_37 (by decide) (fun _ => ?_) (fun c => absurd c (by decide))
  refine lv_aload_n hx hb dX12_givesAs_55 rfl (lv_at hl 0 rfl) ?_
  refine lv_bipush (v := 11) hx hb dX12_givesAs_56 (by decide) ?_
  refine jcallVv (As := [.int 11]) (rest := []) ⟨hx, hb, hml, hown, hts⟩ hK hP hA hS hZ (c_X12_begins_11_0 l D cI cL ad zz hJ σ τ h55_55) cw_RX12_379 (jc_55 cI cL ad σ τ) rfl ⟨Nat.le_of_ble_eq_true rfl, Nat.le_of_ble_eq_true rfl⟩ rfl rfl rfl hl.1 rfl (Nat.le_of_ble_eq_true rfl) dX12_givesAs_58 ⟨Nat.zero_le _, Nat.zero_le _⟩ (fun σ1 τ1 H locs h1 hP hS => ?_)
  obtain ⟨rfl, f3, f4, f5, m6, m7, h1⟩ := h1
  refine lv_iload_n hx hb dX12_givesAs_61 rfl (lv_at hl 2 rfl) ?_
  refine lv_aload_n hx hb dX12_givesAs_62 rfl (lv_at hl 0 rfl) ?_
  refine va_get (D := D) hx hb hts inlX12 hown hK hP 55 (jc_55 cI cL ad σ1 τ) rfl 57 (by decide) (hts _ kw_49_9) (fun _ h9 => h9) rfl dX12_givesAs_63 ?_
  have m8 : σ1 55 57 = (σ 55 57) := (f4 57 (by decide))
  refine jtopr m8 ?_
  refine lv_ixor hx hb dX12_givesAs_66 ?_
  refine lv_topi (fun x9 ex9 => ?_)
  have gx9 := jrg (rfl : x9.toInt = x9.toInt)
  exact hret x9 σ1 τ _ _ _ _ rfl ⟨rfl, (fun i hi => (f3 i hi)), (fun i hi => (f4 i hi)), (fun i hi => (f5 i hi)), m6, m7, ⟨(by rw [ex9]), trivial⟩⟩ hP hS dX12_givesAs_67
set_option maxHeartbeats 4000000 in
set_option maxRecDepth 100000 in
theorem c_X12_begins_70_1 (l : Launch) (D : va_G) (cI cL : ClassId) (ad zz : Nat → Nat) (hJ : jD ad) (σ : Nat → Nat → Int32) (τ : Nat → Nat → Int64) (h55_55 : σ 55 55 = 1) : jMv l yX12_begins cX12_begins 2 none ({ frames := 0, cells := 0, slots := 0, locals := 0 }) D cI cL ad zz [.ref (ad 55), .int 70] σ τ (fun σ' τ' => τ = τ' ∧ (∀ i : Nat, (i < 55 ∨ 55 < i) ∧ (i < 85 ∨ 85 < i) → σ' i = σ i) ∧ (∀ k : Nat, (k < 55 ∨ 55 < k) → σ' 55 k = σ 55 k) ∧ (∀ k : Nat, (k < 1 ∨ 1 < k) → σ' 85 k = σ 85 k) ∧ (σ' 55 55 = 2) ∧ (σ' 85 1 = 70) ∧ True) := by
  refine jMv.of hJ (by decide +kernel) rfl (Nat.le_of_ble_eq_true rfl) ?_
  intro p e s m args below meth c Q ls hC hret hl hP
  obtain ⟨hx, hb, hr, hml, hown, hts, hK, -, hlocks, hZ⟩ := hC
  have hown : s.vm.findClass RX12 = some m.cls := hown
  have hS : va_S (jA ad) s.heap s.heap [] := va_S.rf
  have hA : ∀ q, jA ad q → jA ad q := fun _ h => h
  have hl : lv_has ls 2 [(0, .ref (ad 55)), (1, .int 70)] := hl
  refine lv_aload_n hx hb dX12_begins_0 rfl (lv_at hl 0 rfl) ?_
  refine va_get (D := D) hx hb hts inlX12 hown hK hP 55 (jc_55 cI cL ad σ τ) rfl 55 (by decide) (hts _ kw_49_7) (fun _ h9 => h9) rfl dX12_begins_1 ?_
  refine jtopr h55_55 ?_
  refine lv_bipush (v := 24) hx hb dX12_begins_4 (by decide) ?_
  refine lv_icmp_ge (tgt := 19) hx hb dX12_begins_6 (by decide) (fun c => absurd c (by decide)) (fun _ => ?_)
  refine lv_aload_n hx hb dX12_begins_9 rfl (lv_at hl 0 rfl) ?_
  refine va_get (D := D) hx hb hts inlX12 hown hK hP 55 (jc_55 cI cL ad σ τ) rfl 54 (by decide) (hts _ kw_8_10) (fun _ h9 => h9) rfl dX12_begins_10 ?_
  refine lv_aload_n hx hb dX12_begins_13 rfl (lv_at hl 0 rfl) ?_
  refine va_get (D := D) hx hb hts inlX12 hown hK hP 55 (jc_55 cI cL ad σ τ) rfl 55 (by decide) (hts _ kw_49_7) (fun _ h9 => h9) rfl dX12_begins_14 ?_
  refine jtopr h55_55 ?_
  refine lv_iload_n hx hb dX12_begins_17 rfl (lv_at hl 1 rfl) ?_
  refine jast hx hb hK hP hJ hA hS (jc_85 cI cL ad σ τ) (ja_85 cI cL ad σ τ _ _) (jin jz_1 (by omega) (by omega)) dX12_begins_18 (fun σ1 H locs eσ1 hP hS => ?_)
  have eσ1 : σ1 = jup σ 85 1 70 := eσ1
  refine lv_aload_n hx hb dX12_begins_19 rfl (lv_at hl 0 rfl) ?_
  refine lv_dup hx hb dX12_begins_20 rfl ?_
  refine va_get (D := D) hx hb hts inlX12 hown hK hP 55 (jc_55 cI cL ad σ1 τ) rfl 55 (by decide) (hts _ kw_49_7) (fun _ h9 => h9) rfl dX12_begins_21 ?_
  have m2 : σ1 55 55 = 1 := ((congrFun (jnp 55 eσ1 (by decide)) 55).trans h55_55)
  refine jtopr m2 ?_
  refine lv_iconst (v := 1) hx hb dX12_begins_24 (by decide) ?_
  refine lv_iadd hx hb dX12_begins_25 ?_
  refine jtopr (y := 2) (by decide) ?_
  refine jput (ty := .int) hx hb hts inlX12 tyX12 tyX12_ok nmX12 hown hK hP hJ hA hS (jc_55 cI cL ad σ1 τ) rfl (k := 55) (by decide) (Nat.le_of_ble_eq_true rfl) (jp_55_55 cI cL ad σ1 τ 2) (hts _ kw_49_7) (fun _ h9 => h9) rfl (by decide +kernel) rfl rfl dX12_begins_26 (fun σ3 H locs eσ3 hP hS => ?_)
  have m4 : σ3 55 55 = 2 := (jsp eσ3)
  have m5 : σ3 85 1 = 70 := ((congrFun (jnp 85 eσ3 (by decide)) 1).trans (jsp eσ1))
  exact hret σ3 τ _ _ _ _ ⟨rfl, (fun i hi => ((jnp i eσ3 (imp_345 i hi)).trans (jnp i eσ1 (imp_346 i hi)))), (fun i hi => ((jkp i eσ3 (imp_164 i hi)).trans (congrFun (jnp 55 eσ1 (by decide)) i))), (fun i hi => ((congrFun (jnp 85 eσ3 (by decide)) i).trans (jkp i eσ1 (imp_42 i hi)))), m4, m5, trivial⟩ hP hS dX12_begins_29
set_option maxHeartbeats 4000000 in
set_option maxRecDepth 100000 in
theorem c_X12_putsAs_6_6_3 (l : Launch) (D : va_G) (cI cL : ClassId) (ad zz : Nat → Nat) (hJ : jD ad) (σ : Nat → Nat → Int32) (τ : Nat → Nat → Int64) (a2 : Int32) (A2 : Int) (t2 : a2.toInt = A2) (h55_55 : σ 55 55 = 3) (hp0 : (σ 55 56).toInt = 6) : jM l yX12_putsAs cX12_putsAs 3 (some .int) ({ frames := 1, cells := 0, slots := 0, locals := 21 }) D cI cL ad zz [.ref (ad 55), .int 6, .int a2] σ τ (fun r σ' τ' => τ = τ' ∧ (∀ i : Nat, (i < 55 ∨ 55 < i) ∧ (i < 85 ∨ 85 < i) → σ' i = σ i) ∧ (∀ k : Nat, (k < 55 ∨ 55 < k) → σ' 55 k = σ 55 k) ∧ (∀ k : Nat, (k < 3 ∨ 3 < k) → σ' 85 k = σ 85 k) ∧ (σ' 55 55 = 4) ∧ (σ' 85 3 = 1) ∧ ((r = (a2 + (σ 55 57)) ∧ True))) := by
  refine jM.of hJ (by decide +kernel) (nt := .int) rfl (Nat.le_of_ble_eq_true rfl) ?_
  intro p e s m args below meth c Q ls hC hret hl hP
  obtain ⟨hx, hb, hr, hml, hown, hts, hK, -, hlocks, hZ⟩ := hC
  have hown : s.vm.findClass RX12 = some m.cls := hown
  have hS : va_S (jA ad) s.heap s.heap [] := va_S.rf
  have hA : ∀ q, jA ad q → jA ad q := fun _ h => h
  have hl : lv_has ls 3 [(0, .ref (ad 55)), (1, .int 6), (2, .int a2)] := hl
  have g2 := jrg t2
  refine lv_iload_n hx hb dX12_putsAs_0 rfl (lv_at hl 1 rfl) ?_
  refine lv_iconst (v := 4) hx hb dX12_putsAs_1 (by decide) ?_
  refine lv_icmp_ne (tgt := 20) hx hb dX12_putsAs_2 (by decide) (fun _ => ?_) (fun c => absurd c (by decide))
  refine lv_iload_n hx hb dX12_putsAs_20 rfl (lv_at hl 1 rfl) ?_
  refine lv_iconst (v := 1) hx hb dX12_putsAs_21 (by decide) ?_
  refine lv_icmp_ne (tgt := 40) hx hb dX12_putsAs_22 (by decide) (fun _ => ?_) (fun c => absurd c (by decide))
  refine lv_aload_n hx hb dX12_putsAs_40 rfl (lv_at hl 0 rfl) ?_
  refine lv_iconst (v := 1) hx hb dX12_putsAs_41 (by decide) ?_
  refine jcallVv (As := [.int 1]) (rest := []) ⟨hx, hb, hml, hown, hts⟩ hK hP hA hS hZ (c_X12_begins_1_3 l D cI cL ad zz hJ σ τ h55_55) cw_RX12_379 (jc_55 cI cL ad σ τ) rfl ⟨Nat.le_of_ble_eq_true rfl, Nat.le_of_ble_eq_true rfl⟩ rfl rfl rfl hl.1 rfl (Nat.le_of_ble_eq_true rfl) dX12_putsAs_42 ⟨Nat.zero_le _, Nat.zero_le _⟩ (fun σ1 τ1 H locs h1 hP hS => ?_)
  obtain ⟨rfl, f3, f4, f5, m6, m7, h1⟩ := h1
  refine lv_iload_n hx hb dX12_putsAs_45 rfl (lv_at hl 2 rfl) ?_
  refine lv_aload_n hx hb dX12_putsAs_46 rfl (lv_at hl 0 rfl) ?_
  refine va_get (D := D) hx hb hts inlX12 hown hK hP 55 (jc_55 cI cL ad σ1 τ) rfl 57 (by decide) (hts _ kw_49_9) (fun _ h9 => h9) rfl dX12_putsAs_47 ?_
  have m8 : σ1 55 57 = (σ 55 57) := (f4 57 (by decide))
  refine jtopr m8 ?_
  have g9 := jrg (rfl : (σ 55 57).toInt = (σ 55 57).toInt)
  refine lv_iadd hx hb dX12_putsAs_50 ?_
  refine lv_topi (fun x10 ex10 => ?_)
  have gx10 := jrg (rfl : x10.toInt = x10.toInt)
  exact hret x10 σ1 τ _ _ _ _ rfl ⟨rfl, (fun i hi => (f3 i hi)), (fun i hi => (f4 i hi)), (fun i hi => (f5 i hi)), m6, m7, ⟨(by rw [ex10]), trivial⟩⟩ hP hS dX12_putsAs_51
set_option maxHeartbeats 4000000 in
set_option maxRecDepth 100000 in
theorem c_X12_holdsAs_6_0_2 (l : Launch) (D : va_G) (cI cL : ClassId) (ad zz : Nat → Nat) (hJ : jD ad) (σ : Nat → Nat → Int32) (τ : Nat → Nat → Int64) (a2 : Int32) (A2 : Int) (t2 : a2.toInt = A2) (h55_55 : σ 55 55 = 2) (hp0 : (σ 55 56).toInt = 6) : jM l yX12_holdsAs cX12_holdsAs 4 (some .int) ({ frames := 2, cells := 0, slots := 0, locals := 43 }) D cI cL ad zz [.ref (ad 55), .int 0, .int a2] σ τ (fun r σ' τ' => τ = τ' ∧ (∀ i : Nat, (i < 55 ∨ 55 < i) ∧ (i < 85 ∨ 85 < i) → σ' i = σ i) ∧ (∀ k : Nat, (k < 55 ∨ 55 < k) → σ' 55 k = σ 55 k) ∧ (∀ k : Nat, (k < 2 ∨ 2 < k) ∧ (k < 3 ∨ 3 < k) → σ' 85 k = σ 85 k) ∧ (σ' 55 55 = 4) ∧ (σ' 85 2 = 10) ∧ (σ' 85 3 = 1) ∧ ((r = ((a2 + (σ 55 57)) * 2) ∧ True))) := by
  refine jM.of hJ (by decide +kernel) (nt := .int) rfl (Nat.le_of_ble_eq_true rfl) ?_
  intro p e s m args below meth c Q ls hC hret hl hP
  obtain ⟨hx, hb, hr, hml, hown, hts, hK, -, hlocks, hZ⟩ := hC
  have hown : s.vm.findClass RX12 = some m.cls := hown
  have hS : va_S (jA ad) s.heap s.heap [] := va_S.rf
  have hA : ∀ q, jA ad q → jA ad q := fun _ h => h
  have hl : lv_has ls 4 [(0, .ref (ad 55)), (1, .int 0), (2, .int a2)] := hl
  have g2 := jrg t2
  refine lv_iload_n hx hb dX12_holdsAs_0 rfl (lv_at hl 1 rfl) ?_
  refine lv_iconst (v := 3) hx hb dX12_holdsAs_1 (by decide) ?_
  refine lv_icmp_eq (tgt := 10) hx hb dX12_holdsAs_2 (by decide) (fun c => absurd c (by decide)) (fun _ => ?_)
  refine lv_iload_n hx hb dX12_holdsAs_5 rfl (lv_at hl 1 rfl) ?_
  refine lv_iconst (v := 5) hx hb dX12_holdsAs_6 (by decide) ?_
  refine lv_icmp_ne (tgt := 24) hx hb dX12_holdsAs_7 (by decide) (fun _ => ?_) (fun c => absurd c (by decide))
  refine lv_iload_n hx hb dX12_holdsAs_24 rfl (lv_at hl 1 rfl) ?_
  refine lv_bipush (v := 6) hx hb dX12_holdsAs_25 (by decide) ?_
  refine lv_icmp_ne (tgt := 55) hx hb dX12_holdsAs_27 (by decide) (fun _ => ?_) (fun c => absurd c (by decide))
  refine lv_aload_n hx hb dX12_holdsAs_55 rfl (lv_at hl 0 rfl) ?_
  refine lv_bipush (v := 10) hx hb dX12_holdsAs_56 (by decide) ?_
  refine jcallVv (As := [.int 10]) (rest := []) ⟨hx, hb, hml, hown, hts⟩ hK hP hA hS hZ (c_X12_begins_10_2 l D cI cL ad zz hJ σ τ h55_55) cw_RX12_379 (jc_55 cI cL ad σ τ) rfl ⟨Nat.le_of_ble_eq_true rfl, Nat.le_of_ble_eq_true rfl⟩ rfl rfl rfl hl.1 rfl (Nat.le_of_ble_eq_true rfl) dX12_holdsAs_58 ⟨Nat.zero_le _, Nat.zero_le _⟩ (fun σ1 τ1 H locs h1 hP hS => ?_)
  obtain ⟨rfl, f3, f4, f5, m6, m7, h1⟩ := h1
  refine lv_aload_n hx hb dX12_holdsAs_61 rfl (lv_at hl 0 rfl) ?_
  refine lv_aload_n hx hb dX12_holdsAs_62 rfl (lv_at hl 0 rfl) ?_
  refine va_get (D := D) hx hb hts inlX12 hown hK hP 55 (jc_55 cI cL ad σ1 τ) rfl 56 (by decide) (hts _ kw_49_8) (fun _ h9 => h9) rfl dX12_holdsAs_63 ?_
  have m8 : σ1 55 56 = (σ 55 56) := (f4 56 (by decide))
  refine jtopr m8 ?_
  refine jtopr (jsame (rfl : (σ 55 56).toInt = (σ 55 56).toInt) jz_6 (by omega)) ?_
  refine lv_iload_n hx hb dX12_holdsAs_66 rfl (lv_at hl 2 rfl) ?_
  have z9 : (σ1 55 56).toInt = (σ 55 56).toInt := (congrArg Int32.toInt (show σ1 55 56 = (σ 55 56) from m8))
  refine jcallV (As := [.int 6, .int a2]) (rest := []) ⟨hx, hb, hml, hown, hts⟩ hK hP hA hS hZ (c_X12_putsAs_6_6_3 l D cI cL ad zz hJ σ1 τ a2 (A2) t2 m6 (by omega)) cw_RX12_382 (jc_55 cI cL ad σ1 τ) rfl ⟨Nat.le_of_ble_eq_true rfl, Nat.le_of_ble_eq_true rfl⟩ rfl rfl rfl hl.1 rfl (Nat.le_of_ble_eq_true rfl) dX12_holdsAs_67 ⟨Nat.zero_le _, Nat.zero_le _⟩ (fun r11 σ10 τ10 H locs h10 hP hS => ?_)
  obtain ⟨rfl, f12, f13, f14, m15, m16, h10⟩ := h10
  have h17 := h10
  obtain ⟨q19, k18⟩ := h17
  have q19 := q19.symm
  subst q19
  refine lv_iconst (v := 2) hx hb dX12_holdsAs_70 (by decide) ?_
  have g20 := jrg (rfl : (a2 + (σ1 55 57)).toInt = (a2 + (σ1 55 57)).toInt)
  refine lv_imul hx hb dX12_holdsAs_71 ?_
  refine lv_topi (fun x21 ex21 => ?_)
  have gx21 := jrg (rfl : x21.toInt = x21.toInt)
  have m22 : σ10 85 2 = 10 := ((f14 2 (by decide)).trans m7)
  exact hret x21 σ10 τ _ _ _ _ rfl ⟨rfl, (fun i hi => ((f12 i hi).trans (f3 i hi))), (fun i hi => ((f13 i hi).trans (f4 i hi))), (fun i hi => ((f14 i (imp_307 i hi)).trans (f5 i (imp_19 i hi)))), m15, m22, m16, ⟨(by rw [ex21, (show σ1 55 57 = σ 55 57 from (f4 57 (by decide)))]), trivial⟩⟩ hP hS dX12_holdsAs_72
set_option maxHeartbeats 4000000 in
set_option maxRecDepth 100000 in
theorem c_X12_givesAs_6_6_4_x1 (l : Launch) (D : va_G) (cI cL : ClassId) (ad zz : Nat → Nat) (hJ : jD ad) (σ : Nat → Nat → Int32) (τ : Nat → Nat → Int64) (h55_55 : σ 55 55 = 4) (hp0 : (σ 55 56).toInt = 6) : jM l yX12_givesAs cX12_givesAs 4 (some .int) ({ frames := 1, cells := 0, slots := 0, locals := 21 }) D cI cL ad zz [.ref (ad 55), .int 6, .int 1] σ τ (fun r σ' τ' => τ = τ' ∧ (∀ i : Nat, (i < 55 ∨ 55 < i) ∧ (i < 85 ∨ 85 < i) → σ' i = σ i) ∧ (∀ k : Nat, (k < 55 ∨ 55 < k) → σ' 55 k = σ 55 k) ∧ (∀ k : Nat, (k < 4 ∨ 4 < k) → σ' 85 k = σ 85 k) ∧ (σ' 55 55 = 5) ∧ (σ' 85 4 = 11) ∧ ((r = (1 ^^^ (σ 55 57)) ∧ True))) := by
  refine jM.of hJ (by decide +kernel) (nt := .int) rfl (Nat.le_of_ble_eq_true rfl) ?_
  intro p e s m args below meth c Q ls hC hret hl hP
  obtain ⟨hx, hb, hr, hml, hown, hts, hK, -, hlocks, hZ⟩ := hC
  have hown : s.vm.findClass RX12 = some m.cls := hown
  have hS : va_S (jA ad) s.heap s.heap [] := va_S.rf
  have hA : ∀ q, jA ad q → jA ad q := fun _ h => h
  have hl : lv_has ls 4 [(0, .ref (ad 55)), (1, .int 6), (2, .int 1)] := hl
  refine lv_iload_n hx hb dX12_givesAs_0 rfl (lv_at hl 1 rfl) ?_
  refine lv_iconst (v := 5) hx hb dX12_givesAs_1 (by decide) ?_
  refine lv_icmp_ne (tgt := 30) hx hb dX12_givesAs_2 (by decide) (fun _ => ?_) (fun c => absurd c (by decide))
  refine lv_iload_n hx hb dX12_givesAs_30 rfl (lv_at hl 1 rfl) ?_
  refine lv_iconst (v := 2) hx hb dX12_givesAs_31 (by decide) ?_
  refine lv_icmp_eq (tgt := 40) hx hb dX12_givesAs_32 (by decide) (fun c => absurd c (by decide)) (fun _ => ?_)
  refine lv_iload_n hx hb dX12_givesAs_35 rfl (lv_at hl 1 rfl) ?_
  refine lv_iconst (v := 3) hx hb dX12_givesAs_36 (by decide) ?_
  refine lv_icmp_ne (tgt := 55) hx hb dX12_givesAs_37 (by decide) (fun _ => ?_) (fun c => absurd c (by decide))
  refine lv_aload_n hx hb dX12_givesAs_55 rfl (lv_at hl 0 rfl) ?_
  refine lv_bipush (v := 11) hx hb dX12_givesAs_56 (by decide) ?_
  refine jcallVv (As := [.int 11]) (rest := []) ⟨hx, hb, hml, hown, hts⟩ hK hP hA hS hZ (c_X12_begins_11_4 l D cI cL ad zz hJ σ τ h55_55) cw_RX12_379 (jc_55 cI cL ad σ τ) rfl ⟨Nat.le_of_ble_eq_true rfl, Nat.le_of_ble_eq_true rfl⟩ rfl rfl rfl hl.1 rfl (Nat.le_of_ble_eq_true rfl) dX12_givesAs_58 ⟨Nat.zero_le _, Nat.zero_le _⟩ (fun σ1 τ1 H locs h1 hP hS => ?_)
  obtain ⟨rfl, f3, f4, f5, m6, m7, h1⟩ := h1
  refine lv_iload_n hx hb dX12_givesAs_61 rfl (lv_at hl 2 rfl) ?_
  refine lv_aload_n hx hb dX12_givesAs_62 rfl (lv_at hl 0 rfl) ?_
  refine va_get (D := D) hx hb hts inlX12 hown hK hP 55 (jc_55 cI cL ad σ1 τ) rfl 57 (by decide) (hts _ kw_49_9) (fun _ h9 => h9) rfl dX12_givesAs_63 ?_
  have m8 : σ1 55 57 = (σ 55 57) := (f4 57 (by decide))
  refine jtopr m8 ?_
  refine lv_ixor hx hb dX12_givesAs_66 ?_
  refine lv_topi (fun x9 ex9 => ?_)
  have gx9 := jrg (rfl : x9.toInt = x9.toInt)
  exact hret x9 σ1 τ _ _ _ _ rfl ⟨rfl, (fun i hi => (f3 i hi)), (fun i hi => (f4 i hi)), (fun i hi => (f5 i hi)), m6, m7, ⟨(by rw [ex9]), trivial⟩⟩ hP hS dX12_givesAs_67
set_option maxHeartbeats 4000000 in
set_option maxRecDepth 100000 in
theorem c_X12_holdsAs_6_6_1 (l : Launch) (D : va_G) (cI cL : ClassId) (ad zz : Nat → Nat) (hJ : jD ad) (σ : Nat → Nat → Int32) (τ : Nat → Nat → Int64) (a2 : Int32) (A2 : Int) (t2 : a2.toInt = A2) (h55_55 : σ 55 55 = 1) (hp0 : (σ 55 56).toInt = 6) : jM l yX12_holdsAs cX12_holdsAs 4 (some .int) ({ frames := 3, cells := 0, slots := 0, locals := 66 }) D cI cL ad zz [.ref (ad 55), .int 6, .int a2] σ τ (fun r σ' τ' => τ = τ' ∧ (∀ i : Nat, (i < 55 ∨ 55 < i) ∧ (i < 85 ∨ 85 < i) → σ' i = σ i) ∧ (∀ k : Nat, (k < 55 ∨ 55 < k) → σ' 55 k = σ 55 k) ∧ (∀ k : Nat, (k < 1 ∨ 1 < k) ∧ (k < 2 ∨ 2 < k) ∧ (k < 3 ∨ 3 < k) ∧ (k < 4 ∨ 4 < k) → σ' 85 k = σ 85 k) ∧ (σ' 55 55 = 5) ∧ (σ' 85 1 = 70) ∧ (σ' 85 2 = 10) ∧ (σ' 85 3 = 1) ∧ (σ' 85 4 = 11) ∧ ((r = (((a2 + (σ 55 57)) * 2) + (1 ^^^ (σ 55 57))) ∧ True))) := by
  refine jM.of hJ (by decide +kernel) (nt := .int) rfl (Nat.le_of_ble_eq_true rfl) ?_
  intro p e s m args below meth c Q ls hC hret hl hP
  obtain ⟨hx, hb, hr, hml, hown, hts, hK, -, hlocks, hZ⟩ := hC
  have hown : s.vm.findClass RX12 = some m.cls := hown
  have hS : va_S (jA ad) s.heap s.heap [] := va_S.rf
  have hA : ∀ q, jA ad q → jA ad q := fun _ h => h
  have hl : lv_has ls 4 [(0, .ref (ad 55)), (1, .int 6), (2, .int a2)] := hl
  have g2 := jrg t2
  refine lv_iload_n hx hb dX12_holdsAs_0 rfl (lv_at hl 1 rfl) ?_
  refine lv_iconst (v := 3) hx hb dX12_holdsAs_1 (by decide) ?_
  refine lv_icmp_eq (tgt := 10) hx hb dX12_holdsAs_2 (by decide) (fun c => absurd c (by decide)) (fun _ => ?_)
  refine lv_iload_n hx hb dX12_holdsAs_5 rfl (lv_at hl 1 rfl) ?_
  refine lv_iconst (v := 5) hx hb dX12_holdsAs_6 (by decide) ?_
  refine lv_icmp_ne (tgt := 24) hx hb dX12_holdsAs_7 (by decide) (fun _ => ?_) (fun c => absurd c (by decide))
  refine lv_iload_n hx hb dX12_holdsAs_24 rfl (lv_at hl 1 rfl) ?_
  refine lv_bipush (v := 6) hx hb dX12_holdsAs_25 (by decide) ?_
  refine lv_icmp_ne (tgt := 55) hx hb dX12_holdsAs_27 (by decide) (fun c => absurd (by decide) c) (fun _ => ?_)
  refine lv_aload_n hx hb dX12_holdsAs_30 rfl (lv_at hl 0 rfl) ?_
  refine lv_bipush (v := 70) hx hb dX12_holdsAs_31 (by decide) ?_
  refine jcallVv (As := [.int 70]) (rest := []) ⟨hx, hb, hml, hown, hts⟩ hK hP hA hS hZ (c_X12_begins_70_1 l D cI cL ad zz hJ σ τ h55_55) cw_RX12_379 (jc_55 cI cL ad σ τ) rfl ⟨Nat.le_of_ble_eq_true rfl, Nat.le_of_ble_eq_true rfl⟩ rfl rfl rfl hl.1 rfl (Nat.le_of_ble_eq_true rfl) dX12_holdsAs_33 ⟨Nat.zero_le _, Nat.zero_le _⟩ (fun σ1 τ1 H locs h1 hP hS => ?_)
  obtain ⟨rfl, f3, f4, f5, m6, m7, h1⟩ := h1
  refine lv_aload_n hx hb dX12_holdsAs_36 rfl (lv_at hl 0 rfl) ?_
  refine lv_iconst (v := 0) hx hb dX12_holdsAs_37 (by decide) ?_
  refine lv_iload_n hx hb dX12_holdsAs_38 rfl (lv_at hl 2 rfl) ?_
  have z8 : (σ1 55 56).toInt = (σ 55 56).toInt := (congrArg Int32.toInt (show σ1 55 56 = (σ 55 56) from (f4 56 (by decide))))
  refine jcallV (As := [.int 0, .int a2]) (rest := []) ⟨hx, hb, hml, hown, hts⟩ hK hP hA hS hZ (c_X12_holdsAs_6_0_2 l D cI cL ad zz hJ σ1 τ a2 (A2) t2 m6 (by omega)) cw_RX12_388 (jc_55 cI cL ad σ1 τ) rfl ⟨Nat.le_of_ble_eq_true rfl, Nat.le_of_ble_eq_true rfl⟩ rfl rfl rfl hl.1 rfl (Nat.le_of_ble_eq_true rfl) dX12_holdsAs_39 ⟨Nat.zero_le _, Nat.zero_le _⟩ (fun r10 σ9 τ9 H locs h9 hP hS => ?_)
  obtain ⟨rfl, f11, f12, f13, m14, m15, m16, h9⟩ := h9
  have h17 := h9
  obtain ⟨q19, k18⟩ := h17
  have q19 := q19.symm
  subst q19
  refine lv_istore_n (lv' := [(3, .int ((a2 + (σ1 55 57)) * 2)), (0, .ref (ad 55)), (1, .int 6), (2, .int a2)]) hx hb dX12_holdsAs_42 rfl hl (by decide) rfl (fun ls hl => ?_)
  refine lv_iload_n hx hb dX12_holdsAs_43 rfl (lv_at hl 0 rfl) ?_
  refine lv_aload_n hx hb dX12_holdsAs_44 rfl (lv_at hl 1 rfl) ?_
  refine lv_aload_n hx hb dX12_holdsAs_45 rfl (lv_at hl 1 rfl) ?_
  refine va_get (D := D) hx hb hts inlX12 hown hK hP 55 (jc_55 cI cL ad σ9 τ) rfl 56 (by decide) (hts _ kw_49_8) (fun _ h9 => h9) rfl dX12_holdsAs_46 ?_
  have m20 : σ9 55 56 = (σ 55 56) := ((f12 56 (by decide)).trans (f4 56 (by decide)))
  refine jtopr m20 ?_
  refine jtopr (jsame (rfl : (σ 55 56).toInt = (σ 55 56).toInt) jz_6 (by omega)) ?_
  refine lv_iconst (v := 1) hx hb dX12_holdsAs_49 (by decide) ?_
  have z21 : (σ9 55 56).toInt = (σ 55 56).toInt := (congrArg Int32.toInt (show σ9 55 56 = (σ 55 56) from m20))
  refine jcallV (As := [.int 6, .int 1]) (rest := [.int ((a2 + (σ1 55 57)) * 2)]) ⟨hx, hb, hml, hown, hts⟩ hK hP hA hS hZ (c_X12_givesAs_6_6_4_x1 l D cI cL ad zz hJ σ9 τ m14 (by omega)) cw_RX12_394 (jc_55 cI cL ad σ9 τ) rfl ⟨Nat.le_of_ble_eq_true rfl, Nat.le_of_ble_eq_true rfl⟩ rfl rfl rfl hl.1 rfl (Nat.le_of_ble_eq_true rfl) dX12_holdsAs_50 ⟨Nat.zero_le _, Nat.zero_le _⟩ (fun r23 σ22 τ22 H locs h22 hP hS => ?_)
  obtain ⟨rfl, f24, f25, f26, m27, m28, h22⟩ := h22
  have h29 := h22
  obtain ⟨q31, k30⟩ := h29
  have q31 := q31.symm
  subst q31
  have g32 := jrg (rfl : ((a2 + (σ1 55 57)) * 2).toInt = ((a2 + (σ1 55 57)) * 2).toInt)
  have g33 := jrg (rfl : (1 ^^^ (σ9 55 57)).toInt = (1 ^^^ (σ9 55 57)).toInt)
  refine lv_iadd hx hb dX12_holdsAs_53 ?_
  refine lv_topi (fun x34 ex34 => ?_)
  have gx34 := jrg (rfl : x34.toInt = x34.toInt)
  have m35 : σ22 85 1 = 70 := ((f26 1 (by decide)).trans ((f13 1 (by decide)).trans m7))
  have m36 : σ22 85 2 = 10 := ((f26 2 (by decide)).trans m15)
  have m37 : σ22 85 3 = 1 := ((f26 3 (by decide)).trans m16)
  exact hret x34 σ22 τ _ _ _ _ rfl ⟨rfl, (fun i hi => ((f24 i hi).trans ((f11 i hi).trans (f3 i hi)))), (fun i hi => ((f25 i hi).trans ((f12 i hi).trans (f4 i hi)))), (fun i hi => ((f26 i (imp_340 i hi)).trans ((f13 i (imp_341 i hi)).trans (f5 i (imp_362 i hi))))), m27, m35, m36, m37, m28, ⟨(by rw [ex34, (show σ1 55 57 = σ 55 57 from (f4 57 (by decide))), (show σ9 55 57 = σ 55 57 from ((f12 57 (by decide)).trans (f4 57 (by decide))))]), trivial⟩⟩ hP hS dX12_holdsAs_54
set_option maxHeartbeats 4000000 in
set_option maxRecDepth 100000 in
theorem c_X12_givesAs_6_6_5_x1 (l : Launch) (D : va_G) (cI cL : ClassId) (ad zz : Nat → Nat) (hJ : jD ad) (σ : Nat → Nat → Int32) (τ : Nat → Nat → Int64) (h55_55 : σ 55 55 = 5) (hp0 : (σ 55 56).toInt = 6) : jM l yX12_givesAs cX12_givesAs 4 (some .int) ({ frames := 1, cells := 0, slots := 0, locals := 21 }) D cI cL ad zz [.ref (ad 55), .int 6, .int 1] σ τ (fun r σ' τ' => τ = τ' ∧ (∀ i : Nat, (i < 55 ∨ 55 < i) ∧ (i < 85 ∨ 85 < i) → σ' i = σ i) ∧ (∀ k : Nat, (k < 55 ∨ 55 < k) → σ' 55 k = σ 55 k) ∧ (∀ k : Nat, (k < 5 ∨ 5 < k) → σ' 85 k = σ 85 k) ∧ (σ' 55 55 = 6) ∧ (σ' 85 5 = 11) ∧ ((r = (1 ^^^ (σ 55 57)) ∧ True))) := by
  refine jM.of hJ (by decide +kernel) (nt := .int) rfl (Nat.le_of_ble_eq_true rfl) ?_
  intro p e s m args below meth c Q ls hC hret hl hP
  obtain ⟨hx, hb, hr, hml, hown, hts, hK, -, hlocks, hZ⟩ := hC
  have hown : s.vm.findClass RX12 = some m.cls := hown
  have hS : va_S (jA ad) s.heap s.heap [] := va_S.rf
  have hA : ∀ q, jA ad q → jA ad q := fun _ h => h
  have hl : lv_has ls 4 [(0, .ref (ad 55)), (1, .int 6), (2, .int 1)] := hl
  refine lv_iload_n hx hb dX12_givesAs_0 rfl (lv_at hl 1 rfl) ?_
  refine lv_iconst (v := 5) hx hb dX12_givesAs_1 (by decide) ?_
  refine lv_icmp_ne (tgt := 30) hx hb dX12_givesAs_2 (by decide) (fun _ => ?_) (fun c => absurd c (by decide))
  refine lv_iload_n hx hb dX12_givesAs_30 rfl (lv_at hl 1 rfl) ?_
  refine lv_iconst (v := 2) hx hb dX12_givesAs_31 (by decide) ?_
  refine lv_icmp_eq (tgt := 40) hx hb dX12_givesAs_32 (by decide) (fun c => absurd c (by decide)) (fun _ => ?_)
  refine lv_iload_n hx hb dX12_givesAs_35 rfl (lv_at hl 1 rfl) ?_
  refine lv_iconst (v := 3) hx hb dX12_givesAs_36 (by decide) ?_
  refine lv_icmp_ne (tgt := 55) hx hb dX12_givesAs_37 (by decide) (fun _ => ?_) (fun c => absurd c (by decide))
  refine lv_aload_n hx hb dX12_givesAs_55 rfl (lv_at hl 0 rfl) ?_
  refine lv_bipush (v := 11) hx hb dX12_givesAs_56 (by decide) ?_
  refine jcallVv (As := [.int 11]) (rest := []) ⟨hx, hb, hml, hown, hts⟩ hK hP hA hS hZ (c_X12_begins_11_5 l D cI cL ad zz hJ σ τ h55_55) cw_RX12_379 (jc_55 cI cL ad σ τ) rfl ⟨Nat.le_of_ble_eq_true rfl, Nat.le_of_ble_eq_true rfl⟩ rfl rfl rfl hl.1 rfl (Nat.le_of_ble_eq_true rfl) dX12_givesAs_58 ⟨Nat.zero_le _, Nat.zero_le _⟩ (fun σ1 τ1 H locs h1 hP hS => ?_)
  obtain ⟨rfl, f3, f4, f5, m6, m7, h1⟩ := h1
  refine lv_iload_n hx hb dX12_givesAs_61 rfl (lv_at hl 2 rfl) ?_
  refine lv_aload_n hx hb dX12_givesAs_62 rfl (lv_at hl 0 rfl) ?_
  refine va_get (D := D) hx hb hts inlX12 hown hK hP 55 (jc_55 cI cL ad σ1 τ) rfl 57 (by decide) (hts _ kw_49_9) (fun _ h9 => h9) rfl dX12_givesAs_63 ?_
  have m8 : σ1 55 57 = (σ 55 57) := (f4 57 (by decide))
  refine jtopr m8 ?_
  refine lv_ixor hx hb dX12_givesAs_66 ?_
  refine lv_topi (fun x9 ex9 => ?_)
  have gx9 := jrg (rfl : x9.toInt = x9.toInt)
  exact hret x9 σ1 τ _ _ _ _ rfl ⟨rfl, (fun i hi => (f3 i hi)), (fun i hi => (f4 i hi)), (fun i hi => (f5 i hi)), m6, m7, ⟨(by rw [ex9]), trivial⟩⟩ hP hS dX12_givesAs_67
set_option maxHeartbeats 4000000 in
set_option maxRecDepth 100000 in
theorem c_X12_tellsAs_6_6_0 (l : Launch) (D : va_G) (cI cL : ClassId) (ad zz : Nat → Nat) (hJ : jD ad) (σ : Nat → Nat → Int32) (τ : Nat → Nat → Int64) (a2 : Int32) (A2 : Int) (t2 : a2.toInt = A2) (h55_55 : σ 55 55 = 0) (hp0 : (σ 55 56).toInt = 6) : jM l yX12_tellsAs cX12_tellsAs 4 (some .int) ({ frames := 4, cells := 0, slots := 0, locals := 89 }) D cI cL ad zz [.ref (ad 55), .int 6, .int a2] σ τ (fun r σ' τ' => τ = τ' ∧ (∀ i : Nat, (i < 55 ∨ 55 < i) ∧ (i < 85 ∨ 85 < i) → σ' i = σ i) ∧ (∀ k : Nat, (k < 55 ∨ 55 < k) → σ' 55 k = σ 55 k) ∧ (∀ k : Nat, (k < 0 ∨ 0 < k) ∧ (k < 1 ∨ 1 < k) ∧ (k < 2 ∨ 2 < k) ∧ (k < 3 ∨ 3 < k) ∧ (k < 4 ∨ 4 < k) ∧ (k < 5 ∨ 5 < k) → σ' 85 k = σ 85 k) ∧ (σ' 55 55 = 6) ∧ (σ' 85 0 = 2) ∧ (σ' 85 1 = 70) ∧ (σ' 85 2 = 10) ∧ (σ' 85 3 = 1) ∧ (σ' 85 4 = 11) ∧ (σ' 85 5 = 11) ∧ ((r = ((((a2 + (σ 55 57)) * 2) + (1 ^^^ (σ 55 57))) - (1 ^^^ (σ 55 57))) ∧ True))) := by
  refine jM.of hJ (by decide +kernel) (nt := .int) rfl (Nat.le_of_ble_eq_true rfl) ?_
  intro p e s m args below meth c Q ls hC hret hl hP
  obtain ⟨hx, hb, hr, hml, hown, hts, hK, -, hlocks, hZ⟩ := hC
  have hown : s.vm.findClass RX12 = some m.cls := hown
  have hS : va_S (jA ad) s.heap s.heap [] := va_S.rf
  have hA : ∀ q, jA ad q → jA ad q := fun _ h => h
  have hl : lv_has ls 4 [(0, .ref (ad 55)), (1, .int 6), (2, .int a2)] := hl
  have g2 := jrg t2
  refine lv_iload_n hx hb dX12_tellsAs_0 rfl (lv_at hl 1 rfl) ?_
  refine lv_iconst (v := 4) hx hb dX12_tellsAs_1 (by decide) ?_
  refine lv_icmp_ne (tgt := 20) hx hb dX12_tellsAs_2 (by decide) (fun _ => ?_) (fun c => absurd c (by decide))
  refine lv_aload_n hx hb dX12_tellsAs_20 rfl (lv_at hl 0 rfl) ?_
  refine lv_iconst (v := 2) hx hb dX12_tellsAs_21 (by decide) ?_
  refine jcallVv (As := [.int 2]) (rest := []) ⟨hx, hb, hml, hown, hts⟩ hK hP hA hS hZ (c_X12_begins_2_0 l D cI cL ad zz hJ σ τ h55_55) cw_RX12_379 (jc_55 cI cL ad σ τ) rfl ⟨Nat.le_of_ble_eq_true rfl, Nat.le_of_ble_eq_true rfl⟩ rfl rfl rfl hl.1 rfl (Nat.le_of_ble_eq_true rfl) dX12_tellsAs_22 ⟨Nat.zero_le _, Nat.zero_le _⟩ (fun σ1 τ1 H locs h1 hP hS => ?_)
  obtain ⟨rfl, f3, f4, f5, m6, m7, h1⟩ := h1
  refine lv_aload_n hx hb dX12_tellsAs_25 rfl (lv_at hl 0 rfl) ?_
  refine lv_aload_n hx hb dX12_tellsAs_26 rfl (lv_at hl 0 rfl) ?_
  refine va_get (D := D) hx hb hts inlX12 hown hK hP 55 (jc_55 cI cL ad σ1 τ) rfl 56 (by decide) (hts _ kw_49_8) (fun _ h9 => h9) rfl dX12_tellsAs_27 ?_
  have m8 : σ1 55 56 = (σ 55 56) := (f4 56 (by decide))
  refine jtopr m8 ?_
  refine jtopr (jsame (rfl : (σ 55 56).toInt = (σ 55 56).toInt) jz_6 (by omega)) ?_
  refine lv_iload_n hx hb dX12_tellsAs_30 rfl (lv_at hl 2 rfl) ?_
  have z9 : (σ1 55 56).toInt = (σ 55 56).toInt := (congrArg Int32.toInt (show σ1 55 56 = (σ 55 56) from m8))
  refine jcallV (As := [.int 6, .int a2]) (rest := []) ⟨hx, hb, hml, hown, hts⟩ hK hP hA hS hZ (c_X12_holdsAs_6_6_1 l D cI cL ad zz hJ σ1 τ a2 (A2) t2 m6 (by omega)) cw_RX12_388 (jc_55 cI cL ad σ1 τ) rfl ⟨Nat.le_of_ble_eq_true rfl, Nat.le_of_ble_eq_true rfl⟩ rfl rfl rfl hl.1 rfl (Nat.le_of_ble_eq_true rfl) dX12_tellsAs_31 ⟨Nat.zero_le _, Nat.zero_le _⟩ (fun r11 σ10 τ10 H locs h10 hP hS => ?_)
  obtain ⟨rfl, f12, f13, f14, m15, m16, m17, m18, m19, h10⟩ := h10
  have h20 := h10
  obtain ⟨q22, k21⟩ := h20
  have q22 := q22.symm
  subst q22
  refine lv_istore_n (lv' := [(3, .int (((a2 + (σ1 55 57)) * 2) + (1 ^^^ (σ1 55 57)))), (0, .ref (ad 55)), (1, .int 6), (2, .int a2)]) hx hb dX12_tellsAs_34 rfl hl (by decide) rfl (fun ls hl => ?_)
  refine lv_iload_n hx hb dX12_tellsAs_35 rfl (lv_at hl 0 rfl) ?_
  refine lv_aload_n hx hb dX12_tellsAs_36 rfl (lv_at hl 1 rfl) ?_
  refine lv_aload_n hx hb dX12_tellsAs_37 rfl (lv_at hl 1 rfl) ?_
  refine va_get (D := D) hx hb hts inlX12 hown hK hP 55 (jc_55 cI cL ad σ10 τ) rfl 56 (by decide) (hts _ kw_49_8) (fun _ h9 => h9) rfl dX12_tellsAs_38 ?_
  have m23 : σ10 55 56 = (σ 55 56) := ((f13 56 (by decide)).trans m8)
  refine jtopr m23 ?_
  refine jtopr (jsame (rfl : (σ 55 56).toInt = (σ 55 56).toInt) jz_6 (by omega)) ?_
  refine lv_iconst (v := 1) hx hb dX12_tellsAs_41 (by decide) ?_
  have z24 : (σ10 55 56).toInt = (σ 55 56).toInt := (congrArg Int32.toInt (show σ10 55 56 = (σ 55 56) from m23))
  refine jcallV (As := [.int 6, .int 1]) (rest := [.int (((a2 + (σ1 55 57)) * 2) + (1 ^^^ (σ1 55 57)))]) ⟨hx, hb, hml, hown, hts⟩ hK hP hA hS hZ (c_X12_givesAs_6_6_5_x1 l D cI cL ad zz hJ σ10 τ m15 (by omega)) cw_RX12_394 (jc_55 cI cL ad σ10 τ) rfl ⟨Nat.le_of_ble_eq_true rfl, Nat.le_of_ble_eq_true rfl⟩ rfl rfl rfl hl.1 rfl (Nat.le_of_ble_eq_true rfl) dX12_tellsAs_42 ⟨Nat.zero_le _, Nat.zero_le _⟩ (fun r26 σ25 τ25 H locs h25 hP hS => ?_)
  obtain ⟨rfl, f27, f28, f29, m30, m31, h25⟩ := h25
  have h32 := h25
  obtain ⟨q34, k33⟩ := h32
  have q34 := q34.symm
  subst q34
  have g35 := jrg (rfl : (((a2 + (σ1 55 57)) * 2) + (1 ^^^ (σ1 55 57))).toInt = (((a2 + (σ1 55 57)) * 2) + (1 ^^^ (σ1 55 57))).toInt)
  have g36 := jrg (rfl : (1 ^^^ (σ10 55 57)).toInt = (1 ^^^ (σ10 55 57)).toInt)
  refine lv_isub hx hb dX12_tellsAs_45 ?_
  refine lv_topi (fun x37 ex37 => ?_)
  have gx37 := jrg (rfl : x37.toInt = x37.toInt)
  have m38 : σ25 85 0 = 2 := ((f29 0 (by decide)).trans ((f14 0 (by decide)).trans m7))
  have m39 : σ25 85 1 = 70 := ((f29 1 (by decide)).trans m16)
  have m40 : σ25 85 2 = 10 := ((f29 2 (by decide)).trans m17)
  have m41 : σ25 85 3 = 1 := ((f29 3 (by decide)).trans m18)
  have m42 : σ25 85 4 = 11 := ((f29 4 (by decide)).trans m19)
  exact hret x37 σ25 τ _ _ _ _ rfl ⟨rfl, (fun i hi => ((f27 i hi).trans ((f12 i hi).trans (f3 i hi)))), (fun i hi => ((f28 i hi).trans ((f13 i hi).trans (f4 i hi)))), (fun i hi => ((f29 i (imp_343 i hi)).trans ((f14 i (imp_344 i hi)).trans (f5 i (imp_354 i hi))))), m30, m38, m39, m40, m41, m42, m31, ⟨(by rw [ex37, (show σ1 55 57 = σ 55 57 from (f4 57 (by decide))), (show σ10 55 57 = σ 55 57 from ((f13 57 (by decide)).trans (f4 57 (by decide))))]), trivial⟩⟩ hP hS dX12_tellsAs_46
set_option maxHeartbeats 4000000 in
set_option maxRecDepth 100000 in
theorem c_X12_act (l : Launch) (D : va_G) (cI cL : ClassId) (ad zz : Nat → Nat) (hJ : jD ad) (σ : Nat → Nat → Int32) (τ : Nat → Nat → Int64) (a1 : Int32) (A1 : Int) (t1 : a1.toInt = A1) (a2 : Int32) (A2 : Int) (t2 : a2.toInt = A2) (a3 : Int32) (A3 : Int) (t3 : a3.toInt = A3) (hI106 : jI106 σ) : jM l yX12_act cX12_act 4 (some .int) ({ frames := 7, cells := 0, slots := 0, locals := 156 }) D cI cL ad zz [.ref (ad 55), .int a1, .int a2, .int a3] σ τ (fun r σ' τ' => τ = τ' ∧ (∀ i : Nat, (i < 55 ∨ 55 < i) ∧ (i < 85 ∨ 85 < i) → σ' i = σ i) ∧ (∀ k : Nat, (k < 55 ∨ 55 < k) ∧ (k < 56 ∨ 56 < k) ∧ (k < 57 ∨ 57 < k) → σ' 55 k = σ 55 k) ∧ True) := by
  refine jM.of hJ (by decide +kernel) (nt := .int) rfl (Nat.le_of_ble_eq_true rfl) ?_
  intro p e s m args below meth c Q ls hC hret hl hP
  obtain ⟨hx, hb, hr, hml, hown, hts, hK, -, hlocks, hZ⟩ := hC
  have hown : s.vm.findClass RX12 = some m.cls := hown
  have hS : va_S (jA ad) s.heap s.heap [] := va_S.rf
  have hA : ∀ q, jA ad q → jA ad q := fun _ h => h
  have hl : lv_has ls 4 [(0, .ref (ad 55)), (1, .int a1), (2, .int a2), (3, .int a3)] := hl
  have g1 := jrg t1
  have g2 := jrg t2
  have g3 := jrg t3
  obtain ⟨i1, w2, w3, w4⟩ : (0 ≤ (σ 55 32).toInt ∧ (σ 55 32).toInt ≤ 20) ∧ (∀ k : Nat, k < 20 → 0 ≤ (σ 70 k).toInt ∧ (σ 70 k).toInt ≤ 6) ∧ (∀ k : Nat, k < 20 → 0 ≤ (σ 71 k).toInt ∧ (σ 71 k).toInt ≤ 8) ∧ (∀ k : Nat, k < 160 → 0 ≤ (σ 72 k).toInt ∧ (σ 72 k).toInt ≤ 3) := id hI106
  refine lv_aload_n hx hb dX12_act_0 rfl (lv_at hl 0 rfl) ?_
  refine lv_iconst (v := 0) hx hb dX12_act_1 (by decide) ?_
  refine jput (ty := .int) hx hb hts inlX12 tyX12 tyX12_ok nmX12 hown hK hP hJ hA hS (jc_55 cI cL ad σ τ) rfl (k := 55) (by decide) (Nat.le_of_ble_eq_true rfl) (jp_55_55 cI cL ad σ τ 0) (hts _ kw_49_7) (fun _ h9 => h9) rfl (by decide +kernel) rfl rfl dX12_act_2 (fun σ5 H locs eσ5 hP hS => ?_)
  refine lv_aload_n hx hb dX12_act_5 rfl (lv_at hl 0 rfl) ?_
  refine lv_iload_n hx hb dX12_act_6 rfl (lv_at hl 1 rfl) ?_
  have I6 : jI106 σ5 := jI106_fr (jkp 32 eσ5 (by decide)) (jnp 70 eσ5 (by decide)) (jnp 71 eσ5 (by decide)) (jnp 72 eσ5 (by decide)) hI106
  have z7 : (σ5 55 32).toInt = (σ 55 32).toInt := (congrArg Int32.toInt (show σ5 55 32 = (σ 55 32) from (jkp 32 eσ5 (by decide))))
  refine jcallV (As := [.int a1]) (rest := []) ⟨hx, hb, hml, hown, hts⟩ hK hP hA hS hZ (c_X12_isRule l D cI cL ad zz hJ σ5 τ a1 (A1) t1 I6) cw_RX12_331 (jc_55 cI cL ad σ5 τ) rfl ⟨Nat.le_of_ble_eq_true rfl, Nat.le_of_ble_eq_true rfl⟩ rfl rfl rfl hl.1 rfl (Nat.le_of_ble_eq_true rfl) dX12_act_7 ⟨Nat.zero_le _, Nat.zero_le _⟩ (fun r9 σ8 τ8 H locs h8 hP hS => ?_)
  obtain ⟨⟨rfl, rfl⟩, h8⟩ := h8
  rcases h8 with h10 | h11
  · obtain ⟨q13, k12⟩ := h10
    have q13 := q13.symm
    subst q13
    refine lv_if_ne (tgt := 15) hx hb dX12_act_10 (by decide) (fun _ => ?_) (fun c => absurd c (by decide))
    refine lv_aload_n hx hb dX12_act_15 rfl (lv_at hl 0 rfl) ?_
    refine lv_aload_n hx hb dX12_act_16 rfl (lv_at hl 0 rfl) ?_
    refine va_get (D := D) hx hb hts inlX12 hown hK hP 55 (jc_55 cI cL ad σ5 τ) rfl 33 (by decide) (hts _ kw_7_18) (fun _ h9 => h9) rfl dX12_act_17 ?_
    refine lv_iload_n hx hb dX12_act_20 rfl (lv_at hl 1 rfl) ?_
    refine jald hx hb hK hP (jc_70 cI cL ad σ5 τ) (jin t1 (by omega) (by omega)) dX12_act_21 ?_
    have w14 : ∀ k : Nat, k < 20 → 0 ≤ (σ5 70 k).toInt ∧ (σ5 70 k).toInt ≤ 6 := (jrr_fr (jnp 70 eσ5 (by decide)) w2)
    have g15 := w14 _ (jnat (x := a1) t1 (n := 20) (by omega) (by decide))
    refine jtopr (y := (σ 70 a1.toNatClampNeg)) (by rw [jnp 70 eσ5 (by decide)]) ?_
    rw [jnp 70 eσ5 (by decide)] at g15
    by_cases c16 : (σ 70 a1.toNatClampNeg) = 0
    · have kc16 := jeq c16 (rfl : (σ 70 a1.toNatClampNeg).toInt = (σ 70 a1.toNatClampNeg).toInt) jz_0
      refine jtopr c16 ?_
      refine jput (ty := .int) hx hb hts inlX12 tyX12 tyX12_ok nmX12 hown hK hP hJ hA hS (jc_55 cI cL ad σ5 τ) rfl (k := 56) (by decide) (Nat.le_of_ble_eq_true rfl) (jp_55_56 cI cL ad σ5 τ 0) (hts _ kw_49_8) (fun _ h9 => h9) rfl (by decide +kernel) rfl rfl dX12_act_22 (fun σ17 H locs eσ17 hP hS => ?_)
      refine lv_aload_n hx hb dX12_act_25 rfl (lv_at hl 0 rfl) ?_
      refine lv_iload_n hx hb dX12_act_26 rfl (lv_at hl 1 rfl) ?_
      refine jput (ty := .int) hx hb hts inlX12 tyX12 tyX12_ok nmX12 hown hK hP hJ hA hS (jc_55 cI cL ad σ17 τ) rfl (k := 57) (by decide) (Nat.le_of_ble_eq_true rfl) (jp_55_57 cI cL ad σ17 τ a1) (hts _ kw_49_9) (fun _ h9 => h9) rfl (by decide +kernel) rfl rfl dX12_act_27 (fun σ18 H locs eσ18 hP hS => ?_)
      refine lv_iload_n hx hb dX12_act_30 rfl (lv_at hl 2 rfl) ?_
      by_cases c19 : a2 = 0
      · have kc19 := jeq c19 t2 jz_0
        refine jtopr c19 ?_
        refine lv_tableIn (off := 29) (tgt := 60) hx hb dX12_act_31 (by decide) (by decide) (by decide) (by decide) ?_
        refine lv_aload_n hx hb dX12_act_60 rfl (lv_at hl 0 rfl) ?_
        refine lv_aload_n hx hb dX12_act_61 rfl (lv_at hl 0 rfl) ?_
        refine va_get (D := D) hx hb hts inlX12 hown hK hP 55 (jc_55 cI cL ad σ18 τ) rfl 56 (by decide) (hts _ kw_49_8) (fun _ h9 => h9) rfl dX12_act_62 ?_
        have m20 : σ18 55 56 = 0 := ((jkp 56 eσ18 (by decide)).trans (jsp eσ17))
        refine jtopr m20 ?_
        refine lv_iload_n hx hb dX12_act_65 rfl (lv_at hl 3 rfl) ?_
        have m21 : σ18 55 55 = 0 := ((jkp 55 eσ18 (by decide)).trans ((jkp 55 eσ17 (by decide)).trans (jsp eσ5)))
        have z22 : (σ18 55 56).toInt = 0 := ((congrArg Int32.toInt (show σ18 55 56 = 0 from m20)).trans jz_0)
        refine jcallV (As := [.int 0, .int a3]) (rest := []) ⟨hx, hb, hml, hown, hts⟩ hK hP hA hS hZ (c_X12_putsAs_0_0_0 l D cI cL ad zz hJ σ18 τ a3 (A3) t3 m21 (by omega)) cw_RX12_382 (jc_55 cI cL ad σ18 τ) rfl ⟨Nat.le_of_ble_eq_true rfl, Nat.le_of_ble_eq_true rfl⟩ rfl rfl rfl hl.1 rfl (Nat.le_of_ble_eq_true rfl) dX12_act_66 ⟨Nat.zero_le _, Nat.zero_le _⟩ (fun r24 σ23 τ23 H locs h23 hP hS => ?_)
        obtain ⟨rfl, f25, f26, f27, m28, m29, h23⟩ := h23
        have h30 := h23
        obtain ⟨q32, k31⟩ := h30
        have q32 := q32.symm
        subst q32
        exact hret (a3 + (σ18 55 57)) σ23 τ _ _ _ _ rfl ⟨rfl, (fun i hi => ((f25 i hi).trans ((jnp i eσ18 (imp_345 i hi)).trans ((jnp i eσ17 (imp_345 i hi)).trans (jnp i eσ5 (imp_345 i hi)))))), (fun i hi => ((f26 i (imp_363 i hi)).trans ((jkp i eσ18 (imp_364 i hi)).trans ((jkp i eσ17 (imp_365 i hi)).trans (jkp i eσ5 (imp_366 i hi)))))), trivial⟩ hP hS dX12_act_69
      have kc19 := jne c19 t2 jz_0
      by_cases c33 : a2 = 1
      · have kc33 := jeq c33 t2 jz_1
        refine jtopr c33 ?_
        refine lv_tableIn (off := 39) (tgt := 70) hx hb dX12_act_31 (by decide) (by decide) (by decide) (by decide) ?_
        refine lv_aload_n hx hb dX12_act_70 rfl (lv_at hl 0 rfl) ?_
        refine lv_aload_n hx hb dX12_act_71 rfl (lv_at hl 0 rfl) ?_
        refine va_get (D := D) hx hb hts inlX12 hown hK hP 55 (jc_55 cI cL ad σ18 τ) rfl 56 (by decide) (hts _ kw_49_8) (fun _ h9 => h9) rfl dX12_act_72 ?_
        have m34 : σ18 55 56 = 0 := ((jkp 56 eσ18 (by decide)).trans (jsp eσ17))
        refine jtopr m34 ?_
        refine lv_iload_n hx hb dX12_act_75 rfl (lv_at hl 3 rfl) ?_
        have m35 : σ18 55 55 = 0 := ((jkp 55 eσ18 (by decide)).trans ((jkp 55 eσ17 (by decide)).trans (jsp eσ5)))
        have z36 : (σ18 55 56).toInt = 0 := ((congrArg Int32.toInt (show σ18 55 56 = 0 from m34)).trans jz_0)
        refine jcallV (As := [.int 0, .int a3]) (rest := []) ⟨hx, hb, hml, hown, hts⟩ hK hP hA hS hZ (c_X12_holdsAs_0_0_0 l D cI cL ad zz hJ σ18 τ a3 (A3) t3 m35 (by omega)) cw_RX12_388 (jc_55 cI cL ad σ18 τ) rfl ⟨Nat.le_of_ble_eq_true rfl, Nat.le_of_ble_eq_true rfl⟩ rfl rfl rfl hl.1 rfl (Nat.le_of_ble_eq_true rfl) dX12_act_76 ⟨Nat.zero_le _, Nat.zero_le _⟩ (fun r38 σ37 τ37 H locs h37 hP hS => ?_)
        obtain ⟨rfl, f39, f40, f41, m42, m43, m44, h37⟩ := h37
        have h45 := h37
        obtain ⟨q47, k46⟩ := h45
        have q47 := q47.symm
        subst q47
        exact hret ((a3 + (σ18 55 57)) * 2) σ37 τ _ _ _ _ rfl ⟨rfl, (fun i hi => ((f39 i hi).trans ((jnp i eσ18 (imp_345 i hi)).trans ((jnp i eσ17 (imp_345 i hi)).trans (jnp i eσ5 (imp_345 i hi)))))), (fun i hi => ((f40 i (imp_363 i hi)).trans ((jkp i eσ18 (imp_364 i hi)).trans ((jkp i eσ17 (imp_365 i hi)).trans (jkp i eσ5 (imp_366 i hi)))))), trivial⟩ hP hS dX12_act_79
      have kc33 := jne c33 t2 jz_1
      by_cases c48 : a2 = 2
      · have kc48 := jeq c48 t2 jz_2
        refine jtopr c48 ?_
        refine lv_tableIn (off := 49) (tgt := 80) hx hb dX12_act_31 (by decide) (by decide) (by decide) (by decide) ?_
        refine lv_aload_n hx hb dX12_act_80 rfl (lv_at hl 0 rfl) ?_
        refine lv_aload_n hx hb dX12_act_81 rfl (lv_at hl 0 rfl) ?_
        refine va_get (D := D) hx hb hts inlX12 hown hK hP 55 (jc_55 cI cL ad σ18 τ) rfl 56 (by decide) (hts _ kw_49_8) (fun _ h9 => h9) rfl dX12_act_82 ?_
        have m49 : σ18 55 56 = 0 := ((jkp 56 eσ18 (by decide)).trans (jsp eσ17))
        refine jtopr m49 ?_
        refine lv_iload_n hx hb dX12_act_85 rfl (lv_at hl 3 rfl) ?_
        have m50 : σ18 55 55 = 0 := ((jkp 55 eσ18 (by decide)).trans ((jkp 55 eσ17 (by decide)).trans (jsp eσ5)))
        have z51 : (σ18 55 56).toInt = 0 := ((congrArg Int32.toInt (show σ18 55 56 = 0 from m49)).trans jz_0)
        refine jcallV (As := [.int 0, .int a3]) (rest := []) ⟨hx, hb, hml, hown, hts⟩ hK hP hA hS hZ (c_X12_givesAs_0_0_0 l D cI cL ad zz hJ σ18 τ a3 (A3) t3 m50 (by omega)) cw_RX12_394 (jc_55 cI cL ad σ18 τ) rfl ⟨Nat.le_of_ble_eq_true rfl, Nat.le_of_ble_eq_true rfl⟩ rfl rfl rfl hl.1 rfl (Nat.le_of_ble_eq_true rfl) dX12_act_86 ⟨Nat.zero_le _, Nat.zero_le _⟩ (fun r53 σ52 τ52 H locs h52 hP hS => ?_)
        obtain ⟨rfl, f54, f55, f56, m57, m58, h52⟩ := h52
        have h59 := h52
        obtain ⟨q61, k60⟩ := h59
        have q61 := q61.symm
        subst q61
        exact hret (a3 ^^^ (σ18 55 57)) σ52 τ _ _ _ _ rfl ⟨rfl, (fun i hi => ((f54 i hi).trans ((jnp i eσ18 (imp_345 i hi)).trans ((jnp i eσ17 (imp_345 i hi)).trans (jnp i eσ5 (imp_345 i hi)))))), (fun i hi => ((f55 i (imp_363 i hi)).trans ((jkp i eσ18 (imp_364 i hi)).trans ((jkp i eσ17 (imp_365 i hi)).trans (jkp i eσ5 (imp_366 i hi)))))), trivial⟩ hP hS dX12_act_89
      have kc48 := jne c48 t2 jz_2
      by_cases c62 : a2 = 3
      · have kc62 := jeq c62 t2 jz_3
        refine jtopr c62 ?_
        refine lv_tableIn (off := 59) (tgt := 90) hx hb dX12_act_31 (by decide) (by decide) (by decide) (by decide) ?_
        refine lv_aload_n hx hb dX12_act_90 rfl (lv_at hl 0 rfl) ?_
        refine lv_aload_n hx hb dX12_act_91 rfl (lv_at hl 0 rfl) ?_
        refine va_get (D := D) hx hb hts inlX12 hown hK hP 55 (jc_55 cI cL ad σ18 τ) rfl 56 (by decide) (hts _ kw_49_8) (fun _ h9 => h9) rfl dX12_act_92 ?_
        have m63 : σ18 55 56 = 0 := ((jkp 56 eσ18 (by decide)).trans (jsp eσ17))
        refine jtopr m63 ?_
        refine lv_iload_n hx hb dX12_act_95 rfl (lv_at hl 3 rfl) ?_
        have m64 : σ18 55 55 = 0 := ((jkp 55 eσ18 (by decide)).trans ((jkp 55 eσ17 (by decide)).trans (jsp eσ5)))
        have z65 : (σ18 55 56).toInt = 0 := ((congrArg Int32.toInt (show σ18 55 56 = 0 from m63)).trans jz_0)
        refine jcallV (As := [.int 0, .int a3]) (rest := []) ⟨hx, hb, hml, hown, hts⟩ hK hP hA hS hZ (c_X12_tellsAs_0_0_0 l D cI cL ad zz hJ σ18 τ a3 (A3) t3 m64 (by omega)) cw_RX12_397 (jc_55 cI cL ad σ18 τ) rfl ⟨Nat.le_of_ble_eq_true rfl, Nat.le_of_ble_eq_true rfl⟩ rfl rfl rfl hl.1 rfl (Nat.le_of_ble_eq_true rfl) dX12_act_96 ⟨Nat.zero_le _, Nat.zero_le _⟩ (fun r67 σ66 τ66 H locs h66 hP hS => ?_)
        obtain ⟨rfl, f68, f69, f70, m71, m72, m73, m74, m75, h66⟩ := h66
        have h76 := h66
        obtain ⟨q78, k77⟩ := h76
        have q78 := q78.symm
        subst q78
        exact hret (((a3 + (σ18 55 57)) * 2) - (1 ^^^ (σ18 55 57))) σ66 τ _ _ _ _ rfl ⟨rfl, (fun i hi => ((f68 i hi).trans ((jnp i eσ18 (imp_345 i hi)).trans ((jnp i eσ17 (imp_345 i hi)).trans (jnp i eσ5 (imp_345 i hi)))))), (fun i hi => ((f69 i (imp_363 i hi)).trans ((jkp i eσ18 (imp_364 i hi)).trans ((jkp i eσ17 (imp_365 i hi)).trans (jkp i eσ5 (imp_366 i hi)))))), trivial⟩ hP hS dX12_act_99
      have kc62 := jne c62 t2 jz_3
      refine lv_tableOut (tgt := 100) hx hb dX12_act_31 (by rw [t2]; omega) (by decide) ?_
      refine lv_iconst (v := 0) hx hb dX12_act_100 (by decide) ?_
      exact hret 0 σ18 τ _ _ _ _ rfl ⟨rfl, (fun i hi => ((jnp i eσ18 (imp_345 i hi)).trans ((jnp i eσ17 (imp_345 i hi)).trans (jnp i eσ5 (imp_345 i hi))))), (fun i hi => ((jkp i eσ18 (imp_364 i hi)).trans ((jkp i eσ17 (imp_365 i hi)).trans (jkp i eσ5 (imp_366 i hi))))), trivial⟩ hP hS dX12_act_101
    have kc16 := jne c16 (rfl : (σ 70 a1.toNatClampNeg).toInt = (σ 70 a1.toNatClampNeg).toInt) jz_0
    by_cases c79 : (σ 70 a1.toNatClampNeg) = 1
    · have kc79 := jeq c79 (rfl : (σ 70 a1.toNatClampNeg).toInt = (σ 70 a1.toNatClampNeg).toInt) jz_1
      refine jtopr c79 ?_
      refine jput (ty := .int) hx hb hts inlX12 tyX12 tyX12_ok nmX12 hown hK hP hJ hA hS (jc_55 cI cL ad σ5 τ) rfl (k := 56) (by decide) (Nat.le_of_ble_eq_true rfl) (jp_55_56 cI cL ad σ5 τ 1) (hts _ kw_49_8) (fun _ h9 => h9) rfl (by decide +kernel) rfl rfl dX12_act_22 (fun σ80 H locs eσ80 hP hS => ?_)
      refine lv_aload_n hx hb dX12_act_25 rfl (lv_at hl 0 rfl) ?_
      refine lv_iload_n hx hb dX12_act_26 rfl (lv_at hl 1 rfl) ?_
      refine jput (ty := .int) hx hb hts inlX12 tyX12 tyX12_ok nmX12 hown hK hP hJ hA hS (jc_55 cI cL ad σ80 τ) rfl (k := 57) (by decide) (Nat.le_of_ble_eq_true rfl) (jp_55_57 cI cL ad σ80 τ a1) (hts _ kw_49_9) (fun _ h9 => h9) rfl (by decide +kernel) rfl rfl dX12_act_27 (fun σ81 H locs eσ81 hP hS => ?_)
      refine lv_iload_n hx hb dX12_act_30 rfl (lv_at hl 2 rfl) ?_
      by_cases c82 : a2 = 0
      · have kc82 := jeq c82 t2 jz_0
        refine jtopr c82 ?_
        refine lv_tableIn (off := 29) (tgt := 60) hx hb dX12_act_31 (by decide) (by decide) (by decide) (by decide) ?_
        refine lv_aload_n hx hb dX12_act_60 rfl (lv_at hl 0 rfl) ?_
        refine lv_aload_n hx hb dX12_act_61 rfl (lv_at hl 0 rfl) ?_
        refine va_get (D := D) hx hb hts inlX12 hown hK hP 55 (jc_55 cI cL ad σ81 τ) rfl 56 (by decide) (hts _ kw_49_8) (fun _ h9 => h9) rfl dX12_act_62 ?_
        have m83 : σ81 55 56 = 1 := ((jkp 56 eσ81 (by decide)).trans (jsp eσ80))
        refine jtopr m83 ?_
        refine lv_iload_n hx hb dX12_act_65 rfl (lv_at hl 3 rfl) ?_
        have m84 : σ81 55 55 = 0 := ((jkp 55 eσ81 (by decide)).trans ((jkp 55 eσ80 (by decide)).trans (jsp eσ5)))
        have z85 : (σ81 55 56).toInt = 1 := ((congrArg Int32.toInt (show σ81 55 56 = 1 from m83)).trans jz_1)
        refine jcallV (As := [.int 1, .int a3]) (rest := []) ⟨hx, hb, hml, hown, hts⟩ hK hP hA hS hZ (c_X12_putsAs_1_1_0 l D cI cL ad zz hJ σ81 τ a3 (A3) t3 m84 (by omega)) cw_RX12_382 (jc_55 cI cL ad σ81 τ) rfl ⟨Nat.le_of_ble_eq_true rfl, Nat.le_of_ble_eq_true rfl⟩ rfl rfl rfl hl.1 rfl (Nat.le_of_ble_eq_true rfl) dX12_act_66 ⟨Nat.zero_le _, Nat.zero_le _⟩ (fun r87 σ86 τ86 H locs h86 hP hS => ?_)
        obtain ⟨rfl, f88, f89, f90, m91, m92, m93, h86⟩ := h86
        have h94 := h86
        obtain ⟨q96, k95⟩ := h94
        have q96 := q96.symm
        subst q96
        exact hret ((a3 + (σ81 55 57)) + 3) σ86 τ _ _ _ _ rfl ⟨rfl, (fun i hi => ((f88 i hi).trans ((jnp i eσ81 (imp_345 i hi)).trans ((jnp i eσ80 (imp_345 i hi)).trans (jnp i eσ5 (imp_345 i hi)))))), (fun i hi => ((f89 i (imp_363 i hi)).trans ((jkp i eσ81 (imp_364 i hi)).trans ((jkp i eσ80 (imp_365 i hi)).trans (jkp i eσ5 (imp_366 i hi)))))), trivial⟩ hP hS dX12_act_69
      have kc82 := jne c82 t2 jz_0
      by_cases c97 : a2 = 1
      · have kc97 := jeq c97 t2 jz_1
        refine jtopr c97 ?_
        refine lv_tableIn (off := 39) (tgt := 70) hx hb dX12_act_31 (by decide) (by decide) (by decide) (by decide) ?_
        refine lv_aload_n hx hb dX12_act_70 rfl (lv_at hl 0 rfl) ?_
        refine lv_aload_n hx hb dX12_act_71 rfl (lv_at hl 0 rfl) ?_
        refine va_get (D := D) hx hb hts inlX12 hown hK hP 55 (jc_55 cI cL ad σ81 τ) rfl 56 (by decide) (hts _ kw_49_8) (fun _ h9 => h9) rfl dX12_act_72 ?_
        have m98 : σ81 55 56 = 1 := ((jkp 56 eσ81 (by decide)).trans (jsp eσ80))
        refine jtopr m98 ?_
        refine lv_iload_n hx hb dX12_act_75 rfl (lv_at hl 3 rfl) ?_
        have m99 : σ81 55 55 = 0 := ((jkp 55 eσ81 (by decide)).trans ((jkp 55 eσ80 (by decide)).trans (jsp eσ5)))
        have z100 : (σ81 55 56).toInt = 1 := ((congrArg Int32.toInt (show σ81 55 56 = 1 from m98)).trans jz_1)
        refine jcallV (As := [.int 1, .int a3]) (rest := []) ⟨hx, hb, hml, hown, hts⟩ hK hP hA hS hZ (c_X12_holdsAs_1_1_0 l D cI cL ad zz hJ σ81 τ a3 (A3) t3 m99 (by omega)) cw_RX12_388 (jc_55 cI cL ad σ81 τ) rfl ⟨Nat.le_of_ble_eq_true rfl, Nat.le_of_ble_eq_true rfl⟩ rfl rfl rfl hl.1 rfl (Nat.le_of_ble_eq_true rfl) dX12_act_76 ⟨Nat.zero_le _, Nat.zero_le _⟩ (fun r102 σ101 τ101 H locs h101 hP hS => ?_)
        obtain ⟨rfl, f103, f104, f105, m106, m107, m108, m109, h101⟩ := h101
        have h110 := h101
        obtain ⟨q112, k111⟩ := h110
        have q112 := q112.symm
        subst q112
        exact hret (((a3 + (σ81 55 57)) + 3) * 2) σ101 τ _ _ _ _ rfl ⟨rfl, (fun i hi => ((f103 i hi).trans ((jnp i eσ81 (imp_345 i hi)).trans ((jnp i eσ80 (imp_345 i hi)).trans (jnp i eσ5 (imp_345 i hi)))))), (fun i hi => ((f104 i (imp_363 i hi)).trans ((jkp i eσ81 (imp_364 i hi)).trans ((jkp i eσ80 (imp_365 i hi)).trans (jkp i eσ5 (imp_366 i hi)))))), trivial⟩ hP hS dX12_act_79
      have kc97 := jne c97 t2 jz_1
      by_cases c113 : a2 = 2
      · have kc113 := jeq c113 t2 jz_2
        refine jtopr c113 ?_
        refine lv_tableIn (off := 49) (tgt := 80) hx hb dX12_act_31 (by decide) (by decide) (by decide) (by decide) ?_
        refine lv_aload_n hx hb dX12_act_80 rfl (lv_at hl 0 rfl) ?_
        refine lv_aload_n hx hb dX12_act_81 rfl (lv_at hl 0 rfl) ?_
        refine va_get (D := D) hx hb hts inlX12 hown hK hP 55 (jc_55 cI cL ad σ81 τ) rfl 56 (by decide) (hts _ kw_49_8) (fun _ h9 => h9) rfl dX12_act_82 ?_
        have m114 : σ81 55 56 = 1 := ((jkp 56 eσ81 (by decide)).trans (jsp eσ80))
        refine jtopr m114 ?_
        refine lv_iload_n hx hb dX12_act_85 rfl (lv_at hl 3 rfl) ?_
        have m115 : σ81 55 55 = 0 := ((jkp 55 eσ81 (by decide)).trans ((jkp 55 eσ80 (by decide)).trans (jsp eσ5)))
        have z116 : (σ81 55 56).toInt = 1 := ((congrArg Int32.toInt (show σ81 55 56 = 1 from m114)).trans jz_1)
        refine jcallV (As := [.int 1, .int a3]) (rest := []) ⟨hx, hb, hml, hown, hts⟩ hK hP hA hS hZ (c_X12_givesAs_1_1_0 l D cI cL ad zz hJ σ81 τ a3 (A3) t3 m115 (by omega)) cw_RX12_394 (jc_55 cI cL ad σ81 τ) rfl ⟨Nat.le_of_ble_eq_true rfl, Nat.le_of_ble_eq_true rfl⟩ rfl rfl rfl hl.1 rfl (Nat.le_of_ble_eq_true rfl) dX12_act_86 ⟨Nat.zero_le _, Nat.zero_le _⟩ (fun r118 σ117 τ117 H locs h117 hP hS => ?_)
        obtain ⟨rfl, f119, f120, f121, m122, m123, h117⟩ := h117
        have h124 := h117
        obtain ⟨q126, k125⟩ := h124
        have q126 := q126.symm
        subst q126
        exact hret (a3 ^^^ (σ81 55 57)) σ117 τ _ _ _ _ rfl ⟨rfl, (fun i hi => ((f119 i hi).trans ((jnp i eσ81 (imp_345 i hi)).trans ((jnp i eσ80 (imp_345 i hi)).trans (jnp i eσ5 (imp_345 i hi)))))), (fun i hi => ((f120 i (imp_363 i hi)).trans ((jkp i eσ81 (imp_364 i hi)).trans ((jkp i eσ80 (imp_365 i hi)).trans (jkp i eσ5 (imp_366 i hi)))))), trivial⟩ hP hS dX12_act_89
      have kc113 := jne c113 t2 jz_2
      by_cases c127 : a2 = 3
      · have kc127 := jeq c127 t2 jz_3
        refine jtopr c127 ?_
        refine lv_tableIn (off := 59) (tgt := 90) hx hb dX12_act_31 (by decide) (by decide) (by decide) (by decide) ?_
        refine lv_aload_n hx hb dX12_act_90 rfl (lv_at hl 0 rfl) ?_
        refine lv_aload_n hx hb dX12_act_91 rfl (lv_at hl 0 rfl) ?_
        refine va_get (D := D) hx hb hts inlX12 hown hK hP 55 (jc_55 cI cL ad σ81 τ) rfl 56 (by decide) (hts _ kw_49_8) (fun _ h9 => h9) rfl dX12_act_92 ?_
        have m128 : σ81 55 56 = 1 := ((jkp 56 eσ81 (by decide)).trans (jsp eσ80))
        refine jtopr m128 ?_
        refine lv_iload_n hx hb dX12_act_95 rfl (lv_at hl 3 rfl) ?_
        have m129 : σ81 55 55 = 0 := ((jkp 55 eσ81 (by decide)).trans ((jkp 55 eσ80 (by decide)).trans (jsp eσ5)))
        have z130 : (σ81 55 56).toInt = 1 := ((congrArg Int32.toInt (show σ81 55 56 = 1 from m128)).trans jz_1)
        refine jcallV (As := [.int 1, .int a3]) (rest := []) ⟨hx, hb, hml, hown, hts⟩ hK hP hA hS hZ (c_X12_tellsAs_1_1_0 l D cI cL ad zz hJ σ81 τ a3 (A3) t3 m129 (by omega)) cw_RX12_397 (jc_55 cI cL ad σ81 τ) rfl ⟨Nat.le_of_ble_eq_true rfl, Nat.le_of_ble_eq_true rfl⟩ rfl rfl rfl hl.1 rfl (Nat.le_of_ble_eq_true rfl) dX12_act_96 ⟨Nat.zero_le _, Nat.zero_le _⟩ (fun r132 σ131 τ131 H locs h131 hP hS => ?_)
        obtain ⟨rfl, f133, f134, f135, m136, m137, m138, m139, m140, m141, h131⟩ := h131
        have h142 := h131
        obtain ⟨q144, k143⟩ := h142
        have q144 := q144.symm
        subst q144
        exact hret ((((a3 + (σ81 55 57)) + 3) * 2) - (1 ^^^ (σ81 55 57))) σ131 τ _ _ _ _ rfl ⟨rfl, (fun i hi => ((f133 i hi).trans ((jnp i eσ81 (imp_345 i hi)).trans ((jnp i eσ80 (imp_345 i hi)).trans (jnp i eσ5 (imp_345 i hi)))))), (fun i hi => ((f134 i (imp_363 i hi)).trans ((jkp i eσ81 (imp_364 i hi)).trans ((jkp i eσ80 (imp_365 i hi)).trans (jkp i eσ5 (imp_366 i hi)))))), trivial⟩ hP hS dX12_act_99
      have kc127 := jne c127 t2 jz_3
      refine lv_tableOut (tgt := 100) hx hb dX12_act_31 (by rw [t2]; omega) (by decide) ?_
      refine lv_iconst (v := 0) hx hb dX12_act_100 (by decide) ?_
      exact hret 0 σ81 τ _ _ _ _ rfl ⟨rfl, (fun i hi => ((jnp i eσ81 (imp_345 i hi)).trans ((jnp i eσ80 (imp_345 i hi)).trans (jnp i eσ5 (imp_345 i hi))))), (fun i hi => ((jkp i eσ81 (imp_364 i hi)).trans ((jkp i eσ80 (imp_365 i hi)).trans (jkp i eσ5 (imp_366 i hi))))), trivial⟩ hP hS dX12_act_101
    have kc79 := jne c79 (rfl : (σ 70 a1.toNatClampNeg).toInt = (σ 70 a1.toNatClampNeg).toInt) jz_1
    by_cases c145 : (σ 70 a1.toNatClampNeg) = 2
    · have kc145 := jeq c145 (rfl : (σ 70 a1.toNatClampNeg).toInt = (σ 70 a1.toNatClampNeg).toInt) jz_2
      refine jtopr c145 ?_
      refine jput (ty := .int) hx hb hts inlX12 tyX12 tyX12_ok nmX12 hown hK hP hJ hA hS (jc_55 cI cL ad σ5 τ) rfl (k := 56) (by decide) (Nat.le_of_ble_eq_true rfl) (jp_55_56 cI cL ad σ5 τ 2) (hts _ kw_49_8) (fun _ h9 => h9) rfl (by decide +kernel) rfl rfl dX12_act_22 (fun σ146 H locs eσ146 hP hS => ?_)
      refine lv_aload_n hx hb dX12_act_25 rfl (lv_at hl 0 rfl) ?_
      refine lv_iload_n hx hb dX12_act_26 rfl (lv_at hl 1 rfl) ?_
      refine jput (ty := .int) hx hb hts inlX12 tyX12 tyX12_ok nmX12 hown hK hP hJ hA hS (jc_55 cI cL ad σ146 τ) rfl (k := 57) (by decide) (Nat.le_of_ble_eq_true rfl) (jp_55_57 cI cL ad σ146 τ a1) (hts _ kw_49_9) (fun _ h9 => h9) rfl (by decide +kernel) rfl rfl dX12_act_27 (fun σ147 H locs eσ147 hP hS => ?_)
      refine lv_iload_n hx hb dX12_act_30 rfl (lv_at hl 2 rfl) ?_
      by_cases c148 : a2 = 0
      · have kc148 := jeq c148 t2 jz_0
        refine jtopr c148 ?_
        refine lv_tableIn (off := 29) (tgt := 60) hx hb dX12_act_31 (by decide) (by decide) (by decide) (by decide) ?_
        refine lv_aload_n hx hb dX12_act_60 rfl (lv_at hl 0 rfl) ?_
        refine lv_aload_n hx hb dX12_act_61 rfl (lv_at hl 0 rfl) ?_
        refine va_get (D := D) hx hb hts inlX12 hown hK hP 55 (jc_55 cI cL ad σ147 τ) rfl 56 (by decide) (hts _ kw_49_8) (fun _ h9 => h9) rfl dX12_act_62 ?_
        have m149 : σ147 55 56 = 2 := ((jkp 56 eσ147 (by decide)).trans (jsp eσ146))
        refine jtopr m149 ?_
        refine lv_iload_n hx hb dX12_act_65 rfl (lv_at hl 3 rfl) ?_
        have m150 : σ147 55 55 = 0 := ((jkp 55 eσ147 (by decide)).trans ((jkp 55 eσ146 (by decide)).trans (jsp eσ5)))
        have z151 : (σ147 55 56).toInt = 2 := ((congrArg Int32.toInt (show σ147 55 56 = 2 from m149)).trans jz_2)
        refine jcallV (As := [.int 2, .int a3]) (rest := []) ⟨hx, hb, hml, hown, hts⟩ hK hP hA hS hZ (c_X12_putsAs_2_2_0 l D cI cL ad zz hJ σ147 τ a3 (A3) t3 m150 (by omega)) cw_RX12_382 (jc_55 cI cL ad σ147 τ) rfl ⟨Nat.le_of_ble_eq_true rfl, Nat.le_of_ble_eq_true rfl⟩ rfl rfl rfl hl.1 rfl (Nat.le_of_ble_eq_true rfl) dX12_act_66 ⟨Nat.zero_le _, Nat.zero_le _⟩ (fun r153 σ152 τ152 H locs h152 hP hS => ?_)
        obtain ⟨rfl, f154, f155, f156, m157, m158, h152⟩ := h152
        have h159 := h152
        obtain ⟨q161, k160⟩ := h159
        have q161 := q161.symm
        subst q161
        exact hret (a3 + (σ147 55 57)) σ152 τ _ _ _ _ rfl ⟨rfl, (fun i hi => ((f154 i hi).trans ((jnp i eσ147 (imp_345 i hi)).trans ((jnp i eσ146 (imp_345 i hi)).trans (jnp i eσ5 (imp_345 i hi)))))), (fun i hi => ((f155 i (imp_363 i hi)).trans ((jkp i eσ147 (imp_364 i hi)).trans ((jkp i eσ146 (imp_365 i hi)).trans (jkp i eσ5 (imp_366 i hi)))))), trivial⟩ hP hS dX12_act_69
      have kc148 := jne c148 t2 jz_0
      by_cases c162 : a2 = 1
      · have kc162 := jeq c162 t2 jz_1
        refine jtopr c162 ?_
        refine lv_tableIn (off := 39) (tgt := 70) hx hb dX12_act_31 (by decide) (by decide) (by decide) (by decide) ?_
        refine lv_aload_n hx hb dX12_act_70 rfl (lv_at hl 0 rfl) ?_
        refine lv_aload_n hx hb dX12_act_71 rfl (lv_at hl 0 rfl) ?_
        refine va_get (D := D) hx hb hts inlX12 hown hK hP 55 (jc_55 cI cL ad σ147 τ) rfl 56 (by decide) (hts _ kw_49_8) (fun _ h9 => h9) rfl dX12_act_72 ?_
        have m163 : σ147 55 56 = 2 := ((jkp 56 eσ147 (by decide)).trans (jsp eσ146))
        refine jtopr m163 ?_
        refine lv_iload_n hx hb dX12_act_75 rfl (lv_at hl 3 rfl) ?_
        have m164 : σ147 55 55 = 0 := ((jkp 55 eσ147 (by decide)).trans ((jkp 55 eσ146 (by decide)).trans (jsp eσ5)))
        have z165 : (σ147 55 56).toInt = 2 := ((congrArg Int32.toInt (show σ147 55 56 = 2 from m163)).trans jz_2)
        refine jcallV (As := [.int 2, .int a3]) (rest := []) ⟨hx, hb, hml, hown, hts⟩ hK hP hA hS hZ (c_X12_holdsAs_2_2_0 l D cI cL ad zz hJ σ147 τ a3 (A3) t3 m164 (by omega)) cw_RX12_388 (jc_55 cI cL ad σ147 τ) rfl ⟨Nat.le_of_ble_eq_true rfl, Nat.le_of_ble_eq_true rfl⟩ rfl rfl rfl hl.1 rfl (Nat.le_of_ble_eq_true rfl) dX12_act_76 ⟨Nat.zero_le _, Nat.zero_le _⟩ (fun r167 σ166 τ166 H locs h166 hP hS => ?_)
        obtain ⟨rfl, f168, f169, f170, m171, m172, m173, h166⟩ := h166
        have h174 := h166
        obtain ⟨q176, k175⟩ := h174
        have q176 := q176.symm
        subst q176
        exact hret ((a3 + (σ147 55 57)) * 2) σ166 τ _ _ _ _ rfl ⟨rfl, (fun i hi => ((f168 i hi).trans ((jnp i eσ147 (imp_345 i hi)).trans ((jnp i eσ146 (imp_345 i hi)).trans (jnp i eσ5 (imp_345 i hi)))))), (fun i hi => ((f169 i (imp_363 i hi)).trans ((jkp i eσ147 (imp_364 i hi)).trans ((jkp i eσ146 (imp_365 i hi)).trans (jkp i eσ5 (imp_366 i hi)))))), trivial⟩ hP hS dX12_act_79
      have kc162 := jne c162 t2 jz_1
      by_cases c177 : a2 = 2
      · have kc177 := jeq c177 t2 jz_2
        refine jtopr c177 ?_
        refine lv_tableIn (off := 49) (tgt := 80) hx hb dX12_act_31 (by decide) (by decide) (by decide) (by decide) ?_
        refine lv_aload_n hx hb dX12_act_80 rfl (lv_at hl 0 rfl) ?_
        refine lv_aload_n hx hb dX12_act_81 rfl (lv_at hl 0 rfl) ?_
        refine va_get (D := D) hx hb hts inlX12 hown hK hP 55 (jc_55 cI cL ad σ147 τ) rfl 56 (by decide) (hts _ kw_49_8) (fun _ h9 => h9) rfl dX12_act_82 ?_
        have m178 : σ147 55 56 = 2 := ((jkp 56 eσ147 (by decide)).trans (jsp eσ146))
        refine jtopr m178 ?_
        refine lv_iload_n hx hb dX12_act_85 rfl (lv_at hl 3 rfl) ?_
        have m179 : σ147 55 55 = 0 := ((jkp 55 eσ147 (by decide)).trans ((jkp 55 eσ146 (by decide)).trans (jsp eσ5)))
        have z180 : (σ147 55 56).toInt = 2 := ((congrArg Int32.toInt (show σ147 55 56 = 2 from m178)).trans jz_2)
        refine jcallV (As := [.int 2, .int a3]) (rest := []) ⟨hx, hb, hml, hown, hts⟩ hK hP hA hS hZ (c_X12_givesAs_2_2_0 l D cI cL ad zz hJ σ147 τ a3 (A3) t3 m179 (by omega)) cw_RX12_394 (jc_55 cI cL ad σ147 τ) rfl ⟨Nat.le_of_ble_eq_true rfl, Nat.le_of_ble_eq_true rfl⟩ rfl rfl rfl hl.1 rfl (Nat.le_of_ble_eq_true rfl) dX12_act_86 ⟨Nat.zero_le _, Nat.zero_le _⟩ (fun r182 σ181 τ181 H locs h181 hP hS => ?_)
        obtain ⟨rfl, f183, f184, f185, m186, m187, m188, h181⟩ := h181
        have h189 := h181
        obtain ⟨q191, k190⟩ := h189
        have q191 := q191.symm
        subst q191
        exact hret ((a3 ^^^ (σ147 55 57)) * 3) σ181 τ _ _ _ _ rfl ⟨rfl, (fun i hi => ((f183 i hi).trans ((jnp i eσ147 (imp_345 i hi)).trans ((jnp i eσ146 (imp_345 i hi)).trans (jnp i eσ5 (imp_345 i hi)))))), (fun i hi => ((f184 i (imp_363 i hi)).trans ((jkp i eσ147 (imp_364 i hi)).trans ((jkp i eσ146 (imp_365 i hi)).trans (jkp i eσ5 (imp_366 i hi)))))), trivial⟩ hP hS dX12_act_89
      have kc177 := jne c177 t2 jz_2
      by_cases c192 : a2 = 3
      · have kc192 := jeq c192 t2 jz_3
        refine jtopr c192 ?_
        refine lv_tableIn (off := 59) (tgt := 90) hx hb dX12_act_31 (by decide) (by decide) (by decide) (by decide) ?_
        refine lv_aload_n hx hb dX12_act_90 rfl (lv_at hl 0 rfl) ?_
        refine lv_aload_n hx hb dX12_act_91 rfl (lv_at hl 0 rfl) ?_
        refine va_get (D := D) hx hb hts inlX12 hown hK hP 55 (jc_55 cI cL ad σ147 τ) rfl 56 (by decide) (hts _ kw_49_8) (fun _ h9 => h9) rfl dX12_act_92 ?_
        have m193 : σ147 55 56 = 2 := ((jkp 56 eσ147 (by decide)).trans (jsp eσ146))
        refine jtopr m193 ?_
        refine lv_iload_n hx hb dX12_act_95 rfl (lv_at hl 3 rfl) ?_
        have m194 : σ147 55 55 = 0 := ((jkp 55 eσ147 (by decide)).trans ((jkp 55 eσ146 (by decide)).trans (jsp eσ5)))
        have z195 : (σ147 55 56).toInt = 2 := ((congrArg Int32.toInt (show σ147 55 56 = 2 from m193)).trans jz_2)
        refine jcallV (As := [.int 2, .int a3]) (rest := []) ⟨hx, hb, hml, hown, hts⟩ hK hP hA hS hZ (c_X12_tellsAs_2_2_0 l D cI cL ad zz hJ σ147 τ a3 (A3) t3 m194 (by omega)) cw_RX12_397 (jc_55 cI cL ad σ147 τ) rfl ⟨Nat.le_of_ble_eq_true rfl, Nat.le_of_ble_eq_true rfl⟩ rfl rfl rfl hl.1 rfl (Nat.le_of_ble_eq_true rfl) dX12_act_96 ⟨Nat.zero_le _, Nat.zero_le _⟩ (fun r197 σ196 τ196 H locs h196 hP hS => ?_)
        obtain ⟨rfl, f198, f199, f200, m201, m202, m203, m204, m205, m206, h196⟩ := h196
        have h207 := h196
        obtain ⟨q209, k208⟩ := h207
        have q209 := q209.symm
        subst q209
        exact hret (((a3 + (σ147 55 57)) * 2) - ((1 ^^^ (σ147 55 57)) * 3)) σ196 τ _ _ _ _ rfl ⟨rfl, (fun i hi => ((f198 i hi).trans ((jnp i eσ147 (imp_345 i hi)).trans ((jnp i eσ146 (imp_345 i hi)).trans (jnp i eσ5 (imp_345 i hi)))))), (fun i hi => ((f199 i (imp_363 i hi)).trans ((jkp i eσ147 (imp_364 i hi)).trans ((jkp i eσ146 (imp_365 i hi)).trans (jkp i eσ5 (imp_366 i hi)))))), trivial⟩ hP hS dX12_act_99
      have kc192 := jne c192 t2 jz_3
      refine lv_tableOut (tgt := 100) hx hb dX12_act_31 (by rw [t2]; omega) (by decide) ?_
      refine lv_iconst (v := 0) hx hb dX12_act_100 (by decide) ?_
      exact hret 0 σ147 τ _ _ _ _ rfl ⟨rfl, (fun i hi => ((jnp i eσ147 (imp_345 i hi)).trans ((jnp i eσ146 (imp_345 i hi)).trans (jnp i eσ5 (imp_345 i hi))))), (fun i hi => ((jkp i eσ147 (imp_364 i hi)).trans ((jkp i eσ146 (imp_365 i hi)).trans (jkp i eσ5 (imp_366 i hi))))), trivial⟩ hP hS dX12_act_101
    have kc145 := jne c145 (rfl : (σ 70 a1.toNatClampNeg).toInt = (σ 70 a1.toNatClampNeg).toInt) jz_2
    by_cases c210 : (σ 70 a1.toNatClampNeg) = 3
    · have kc210 := jeq c210 (rfl : (σ 70 a1.toNatClampNeg).toInt = (σ 70 a1.toNatClampNeg).toInt) jz_3
      refine jtopr c210 ?_
      refine jput (ty := .int) hx hb hts inlX12 tyX12 tyX12_ok nmX12 hown hK hP hJ hA hS (jc_55 cI cL ad σ5 τ) rfl (k := 56) (by decide) (Nat.le_of_ble_eq_true rfl) (jp_55_56 cI cL ad σ5 τ 3) (hts _ kw_49_8) (fun _ h9 => h9) rfl (by decide +kernel) rfl rfl dX12_act_22 (fun σ211 H locs eσ211 hP hS => ?_)
      refine lv_aload_n hx hb dX12_act_25 rfl (lv_at hl 0 rfl) ?_
      refine lv_iload_n hx hb dX12_act_26 rfl (lv_at hl 1 rfl) ?_
      refine jput (ty := .int) hx hb hts inlX12 tyX12 tyX12_ok nmX12 hown hK hP hJ hA hS (jc_55 cI cL ad σ211 τ) rfl (k := 57) (by decide) (Nat.le_of_ble_eq_true rfl) (jp_55_57 cI cL ad σ211 τ a1) (hts _ kw_49_9) (fun _ h9 => h9) rfl (by decide +kernel) rfl rfl dX12_act_27 (fun σ212 H locs eσ212 hP hS => ?_)
      refine lv_iload_n hx hb dX12_act_30 rfl (lv_at hl 2 rfl) ?_
      by_cases c213 : a2 = 0
      · have kc213 := jeq c213 t2 jz_0
        refine jtopr c213 ?_
        refine lv_tableIn (off := 29) (tgt := 60) hx hb dX12_act_31 (by decide) (by decide) (by decide) (by decide) ?_
        refine lv_aload_n hx hb dX12_act_60 rfl (lv_at hl 0 rfl) ?_
        refine lv_aload_n hx hb dX12_act_61 rfl (lv_at hl 0 rfl) ?_
        refine va_get (D := D) hx hb hts inlX12 hown hK hP 55 (jc_55 cI cL ad σ212 τ) rfl 56 (by decide) (hts _ kw_49_8) (fun _ h9 => h9) rfl dX12_act_62 ?_
        have m214 : σ212 55 56 = 3 := ((jkp 56 eσ212 (by decide)).trans (jsp eσ211))
        refine jtopr m214 ?_
        refine lv_iload_n hx hb dX12_act_65 rfl (lv_at hl 3 rfl) ?_
        have m215 : σ212 55 55 = 0 := ((jkp 55 eσ212 (by decide)).trans ((jkp 55 eσ211 (by decide)).trans (jsp eσ5)))
        have z216 : (σ212 55 56).toInt = 3 := ((congrArg Int32.toInt (show σ212 55 56 = 3 from m214)).trans jz_3)
        refine jcallV (As := [.int 3, .int a3]) (rest := []) ⟨hx, hb, hml, hown, hts⟩ hK hP hA hS hZ (c_X12_putsAs_3_3_0 l D cI cL ad zz hJ σ212 τ a3 (A3) t3 m215 (by omega)) cw_RX12_382 (jc_55 cI cL ad σ212 τ) rfl ⟨Nat.le_of_ble_eq_true rfl, Nat.le_of_ble_eq_true rfl⟩ rfl rfl rfl hl.1 rfl (Nat.le_of_ble_eq_true rfl) dX12_act_66 ⟨Nat.zero_le _, Nat.zero_le _⟩ (fun r218 σ217 τ217 H locs h217 hP hS => ?_)
        obtain ⟨rfl, f219, f220, f221, m222, m223, h217⟩ := h217
        have h224 := h217
        obtain ⟨q226, k225⟩ := h224
        have q226 := q226.symm
        subst q226
        exact hret (a3 + (σ212 55 57)) σ217 τ _ _ _ _ rfl ⟨rfl, (fun i hi => ((f219 i hi).trans ((jnp i eσ212 (imp_345 i hi)).trans ((jnp i eσ211 (imp_345 i hi)).trans (jnp i eσ5 (imp_345 i hi)))))), (fun i hi => ((f220 i (imp_363 i hi)).trans ((jkp i eσ212 (imp_364 i hi)).trans ((jkp i eσ211 (imp_365 i hi)).trans (jkp i eσ5 (imp_366 i hi)))))), trivial⟩ hP hS dX12_act_69
      have kc213 := jne c213 t2 jz_0
      by_cases c227 : a2 = 1
      · have kc227 := jeq c227 t2 jz_1
        refine jtopr c227 ?_
        refine lv_tableIn (off := 39) (tgt := 70) hx hb dX12_act_31 (by decide) (by decide) (by decide) (by decide) ?_
        refine lv_aload_n hx hb dX12_act_70 rfl (lv_at hl 0 rfl) ?_
        refine lv_aload_n hx hb dX12_act_71 rfl (lv_at hl 0 rfl) ?_
        refine va_get (D := D) hx hb hts inlX12 hown hK hP 55 (jc_55 cI cL ad σ212 τ) rfl 56 (by decide) (hts _ kw_49_8) (fun _ h9 => h9) rfl dX12_act_72 ?_
        have m228 : σ212 55 56 = 3 := ((jkp 56 eσ212 (by decide)).trans (jsp eσ211))
        refine jtopr m228 ?_
        refine lv_iload_n hx hb dX12_act_75 rfl (lv_at hl 3 rfl) ?_
        have m229 : σ212 55 55 = 0 := ((jkp 55 eσ212 (by decide)).trans ((jkp 55 eσ211 (by decide)).trans (jsp eσ5)))
        have z230 : (σ212 55 56).toInt = 3 := ((congrArg Int32.toInt (show σ212 55 56 = 3 from m228)).trans jz_3)
        refine jcallV (As := [.int 3, .int a3]) (rest := []) ⟨hx, hb, hml, hown, hts⟩ hK hP hA hS hZ (c_X12_holdsAs_3_3_0 l D cI cL ad zz hJ σ212 τ a3 (A3) t3 m229 (by omega)) cw_RX12_388 (jc_55 cI cL ad σ212 τ) rfl ⟨Nat.le_of_ble_eq_true rfl, Nat.le_of_ble_eq_true rfl⟩ rfl rfl rfl hl.1 rfl (Nat.le_of_ble_eq_true rfl) dX12_act_76 ⟨Nat.zero_le _, Nat.zero_le _⟩ (fun r232 σ231 τ231 H locs h231 hP hS => ?_)
        obtain ⟨rfl, f233, f234, f235, m236, m237, m238, m239, h231⟩ := h231
        have h240 := h231
        obtain ⟨q242, k241⟩ := h240
        have q242 := q242.symm
        subst q242
        exact hret (-((a3 + (σ212 55 57)) * 2)) σ231 τ _ _ _ _ rfl ⟨rfl, (fun i hi => ((f233 i hi).trans ((jnp i eσ212 (imp_345 i hi)).trans ((jnp i eσ211 (imp_345 i hi)).trans (jnp i eσ5 (imp_345 i hi)))))), (fun i hi => ((f234 i (imp_363 i hi)).trans ((jkp i eσ212 (imp_364 i hi)).trans ((jkp i eσ211 (imp_365 i hi)).trans (jkp i eσ5 (imp_366 i hi)))))), trivial⟩ hP hS dX12_act_79
      have kc227 := jne c227 t2 jz_1
      by_cases c243 : a2 = 2
      · have kc243 := jeq c243 t2 jz_2
        refine jtopr c243 ?_
        refine lv_tableIn (off := 49) (tgt := 80) hx hb dX12_act_31 (by decide) (by decide) (by decide) (by decide) ?_
        refine lv_aload_n hx hb dX12_act_80 rfl (lv_at hl 0 rfl) ?_
        refine lv_aload_n hx hb dX12_act_81 rfl (lv_at hl 0 rfl) ?_
        refine va_get (D := D) hx hb hts inlX12 hown hK hP 55 (jc_55 cI cL ad σ212 τ) rfl 56 (by decide) (hts _ kw_49_8) (fun _ h9 => h9) rfl dX12_act_82 ?_
        have m244 : σ212 55 56 = 3 := ((jkp 56 eσ212 (by decide)).trans (jsp eσ211))
        refine jtopr m244 ?_
        refine lv_iload_n hx hb dX12_act_85 rfl (lv_at hl 3 rfl) ?_
        have m245 : σ212 55 55 = 0 := ((jkp 55 eσ212 (by decide)).trans ((jkp 55 eσ211 (by decide)).trans (jsp eσ5)))
        have z246 : (σ212 55 56).toInt = 3 := ((congrArg Int32.toInt (show σ212 55 56 = 3 from m244)).trans jz_3)
        refine jcallV (As := [.int 3, .int a3]) (rest := []) ⟨hx, hb, hml, hown, hts⟩ hK hP hA hS hZ (c_X12_givesAs_3_3_0 l D cI cL ad zz hJ σ212 τ a3 (A3) t3 m245 (by omega)) cw_RX12_394 (jc_55 cI cL ad σ212 τ) rfl ⟨Nat.le_of_ble_eq_true rfl, Nat.le_of_ble_eq_true rfl⟩ rfl rfl rfl hl.1 rfl (Nat.le_of_ble_eq_true rfl) dX12_act_86 ⟨Nat.zero_le _, Nat.zero_le _⟩ (fun r248 σ247 τ247 H locs h247 hP hS => ?_)
        obtain ⟨rfl, f249, f250, f251, m252, m253, m254, h247⟩ := h247
        have h255 := h247
        obtain ⟨q257, k256⟩ := h255
        have q257 := q257.symm
        subst q257
        exact hret ((a3 ^^^ (σ212 55 57)) * 3) σ247 τ _ _ _ _ rfl ⟨rfl, (fun i hi => ((f249 i hi).trans ((jnp i eσ212 (imp_345 i hi)).trans ((jnp i eσ211 (imp_345 i hi)).trans (jnp i eσ5 (imp_345 i hi)))))), (fun i hi => ((f250 i (imp_363 i hi)).trans ((jkp i eσ212 (imp_364 i hi)).trans ((jkp i eσ211 (imp_365 i hi)).trans (jkp i eσ5 (imp_366 i hi)))))), trivial⟩ hP hS dX12_act_89
      have kc243 := jne c243 t2 jz_2
      by_cases c258 : a2 = 3
      · have kc258 := jeq c258 t2 jz_3
        refine jtopr c258 ?_
        refine lv_tableIn (off := 59) (tgt := 90) hx hb dX12_act_31 (by decide) (by decide) (by decide) (by decide) ?_
        refine lv_aload_n hx hb dX12_act_90 rfl (lv_at hl 0 rfl) ?_
        refine lv_aload_n hx hb dX12_act_91 rfl (lv_at hl 0 rfl) ?_
        refine va_get (D := D) hx hb hts inlX12 hown hK hP 55 (jc_55 cI cL ad σ212 τ) rfl 56 (by decide) (hts _ kw_49_8) (fun _ h9 => h9) rfl dX12_act_92 ?_
        have m259 : σ212 55 56 = 3 := ((jkp 56 eσ212 (by decide)).trans (jsp eσ211))
        refine jtopr m259 ?_
        refine lv_iload_n hx hb dX12_act_95 rfl (lv_at hl 3 rfl) ?_
        have m260 : σ212 55 55 = 0 := ((jkp 55 eσ212 (by decide)).trans ((jkp 55 eσ211 (by decide)).trans (jsp eσ5)))
        have z261 : (σ212 55 56).toInt = 3 := ((congrArg Int32.toInt (show σ212 55 56 = 3 from m259)).trans jz_3)
        refine jcallV (As := [.int 3, .int a3]) (rest := []) ⟨hx, hb, hml, hown, hts⟩ hK hP hA hS hZ (c_X12_tellsAs_3_3_0 l D cI cL ad zz hJ σ212 τ a3 (A3) t3 m260 (by omega)) cw_RX12_397 (jc_55 cI cL ad σ212 τ) rfl ⟨Nat.le_of_ble_eq_true rfl, Nat.le_of_ble_eq_true rfl⟩ rfl rfl rfl hl.1 rfl (Nat.le_of_ble_eq_true rfl) dX12_act_96 ⟨Nat.zero_le _, Nat.zero_le _⟩ (fun r263 σ262 τ262 H locs h262 hP hS => ?_)
        obtain ⟨rfl, f264, f265, f266, m267, m268, m269, m270, m271, m272, m273, h262⟩ := h262
        have h274 := h262
        obtain ⟨q276, k275⟩ := h274
        have q276 := q276.symm
        subst q276
        exact hret ((-((a3 + (σ212 55 57)) * 2)) - ((1 ^^^ (σ212 55 57)) * 3)) σ262 τ _ _ _ _ rfl ⟨rfl, (fun i hi => ((f264 i hi).trans ((jnp i eσ212 (imp_345 i hi)).trans ((jnp i eσ211 (imp_345 i hi)).trans (jnp i eσ5 (imp_345 i hi)))))), (fun i hi => ((f265 i (imp_363 i hi)).trans ((jkp i eσ212 (imp_364 i hi)).trans ((jkp i eσ211 (imp_365 i hi)).trans (jkp i eσ5 (imp_366 i hi)))))), trivial⟩ hP hS dX12_act_99
      have kc258 := jne c258 t2 jz_3
      refine lv_tableOut (tgt := 100) hx hb dX12_act_31 (by rw [t2]; omega) (by decide) ?_
      refine lv_iconst (v := 0) hx hb dX12_act_100 (by decide) ?_
      exact hret 0 σ212 τ _ _ _ _ rfl ⟨rfl, (fun i hi => ((jnp i eσ212 (imp_345 i hi)).trans ((jnp i eσ211 (imp_345 i hi)).trans (jnp i eσ5 (imp_345 i hi))))), (fun i hi => ((jkp i eσ212 (imp_364 i hi)).trans ((jkp i eσ211 (imp_365 i hi)).trans (jkp i eσ5 (imp_366 i hi))))), trivial⟩ hP hS dX12_act_101
    have kc210 := jne c210 (rfl : (σ 70 a1.toNatClampNeg).toInt = (σ 70 a1.toNatClampNeg).toInt) jz_3
    by_cases c277 : (σ 70 a1.toNatClampNeg) = 4
    · have kc277 := jeq c277 (rfl : (σ 70 a1.toNatClampNeg).toInt = (σ 70 a1.toNatClampNeg).toInt) jz_4
      refine jtopr c277 ?_
      refine jput (ty := .int) hx hb hts inlX12 tyX12 tyX12_ok nmX12 hown hK hP hJ hA hS (jc_55 cI cL ad σ5 τ) rfl (k := 56) (by decide) (Nat.le_of_ble_eq_true rfl) (jp_55_56 cI cL ad σ5 τ 4) (hts _ kw_49_8) (fun _ h9 => h9) rfl (by decide +kernel) rfl rfl dX12_act_22 (fun σ278 H locs eσ278 hP hS => ?_)
      refine lv_aload_n hx hb dX12_act_25 rfl (lv_at hl 0 rfl) ?_
      refine lv_iload_n hx hb dX12_act_26 rfl (lv_at hl 1 rfl) ?_
      refine jput (ty := .int) hx hb hts inlX12 tyX12 tyX12_ok nmX12 hown hK hP hJ hA hS (jc_55 cI cL ad σ278 τ) rfl (k := 57) (by decide) (Nat.le_of_ble_eq_true rfl) (jp_55_57 cI cL ad σ278 τ a1) (hts _ kw_49_9) (fun _ h9 => h9) rfl (by decide +kernel) rfl rfl dX12_act_27 (fun σ279 H locs eσ279 hP hS => ?_)
      refine lv_iload_n hx hb dX12_act_30 rfl (lv_at hl 2 rfl) ?_
      by_cases c280 : a2 = 0
      · have kc280 := jeq c280 t2 jz_0
        refine jtopr c280 ?_
        refine lv_tableIn (off := 29) (tgt := 60) hx hb dX12_act_31 (by decide) (by decide) (by decide) (by decide) ?_
        refine lv_aload_n hx hb dX12_act_60 rfl (lv_at hl 0 rfl) ?_
        refine lv_aload_n hx hb dX12_act_61 rfl (lv_at hl 0 rfl) ?_
        refine va_get (D := D) hx hb hts inlX12 hown hK hP 55 (jc_55 cI cL ad σ279 τ) rfl 56 (by decide) (hts _ kw_49_8) (fun _ h9 => h9) rfl dX12_act_62 ?_
        have m281 : σ279 55 56 = 4 := ((jkp 56 eσ279 (by decide)).trans (jsp eσ278))
        refine jtopr m281 ?_
        refine lv_iload_n hx hb dX12_act_65 rfl (lv_at hl 3 rfl) ?_
        have m282 : σ279 55 55 = 0 := ((jkp 55 eσ279 (by decide)).trans ((jkp 55 eσ278 (by decide)).trans (jsp eσ5)))
        have z283 : (σ279 55 56).toInt = 4 := ((congrArg Int32.toInt (show σ279 55 56 = 4 from m281)).trans jz_4)
        refine jcallV (As := [.int 4, .int a3]) (rest := []) ⟨hx, hb, hml, hown, hts⟩ hK hP hA hS hZ (c_X12_putsAs_4_4_0 l D cI cL ad zz hJ σ279 τ a3 (A3) t3 m282 (by omega)) cw_RX12_382 (jc_55 cI cL ad σ279 τ) rfl ⟨Nat.le_of_ble_eq_true rfl, Nat.le_of_ble_eq_true rfl⟩ rfl rfl rfl hl.1 rfl (Nat.le_of_ble_eq_true rfl) dX12_act_66 ⟨Nat.zero_le _, Nat.zero_le _⟩ (fun r285 σ284 τ284 H locs h284 hP hS => ?_)
        obtain ⟨rfl, f286, f287, f288, m289, m290, m291, m292, h284⟩ := h284
        have h293 := h284
        obtain ⟨q295, k294⟩ := h293
        have q295 := q295.symm
        subst q295
        exact hret (((a3 + 1) + (σ279 55 57)) + 3) σ284 τ _ _ _ _ rfl ⟨rfl, (fun i hi => ((f286 i hi).trans ((jnp i eσ279 (imp_345 i hi)).trans ((jnp i eσ278 (imp_345 i hi)).trans (jnp i eσ5 (imp_345 i hi)))))), (fun i hi => ((f287 i (imp_363 i hi)).trans ((jkp i eσ279 (imp_364 i hi)).trans ((jkp i eσ278 (imp_365 i hi)).trans (jkp i eσ5 (imp_366 i hi)))))), trivial⟩ hP hS dX12_act_69
      have kc280 := jne c280 t2 jz_0
      by_cases c296 : a2 = 1
      · have kc296 := jeq c296 t2 jz_1
        refine jtopr c296 ?_
        refine lv_tableIn (off := 39) (tgt := 70) hx hb dX12_act_31 (by decide) (by decide) (by decide) (by decide) ?_
        refine lv_aload_n hx hb dX12_act_70 rfl (lv_at hl 0 rfl) ?_
        refine lv_aload_n hx hb dX12_act_71 rfl (lv_at hl 0 rfl) ?_
        refine va_get (D := D) hx hb hts inlX12 hown hK hP 55 (jc_55 cI cL ad σ279 τ) rfl 56 (by decide) (hts _ kw_49_8) (fun _ h9 => h9) rfl dX12_act_72 ?_
        have m297 : σ279 55 56 = 4 := ((jkp 56 eσ279 (by decide)).trans (jsp eσ278))
        refine jtopr m297 ?_
        refine lv_iload_n hx hb dX12_act_75 rfl (lv_at hl 3 rfl) ?_
        have m298 : σ279 55 55 = 0 := ((jkp 55 eσ279 (by decide)).trans ((jkp 55 eσ278 (by decide)).trans (jsp eσ5)))
        have z299 : (σ279 55 56).toInt = 4 := ((congrArg Int32.toInt (show σ279 55 56 = 4 from m297)).trans jz_4)
        refine jcallV (As := [.int 4, .int a3]) (rest := []) ⟨hx, hb, hml, hown, hts⟩ hK hP hA hS hZ (c_X12_holdsAs_4_4_0 l D cI cL ad zz hJ σ279 τ a3 (A3) t3 m298 (by omega)) cw_RX12_388 (jc_55 cI cL ad σ279 τ) rfl ⟨Nat.le_of_ble_eq_true rfl, Nat.le_of_ble_eq_true rfl⟩ rfl rfl rfl hl.1 rfl (Nat.le_of_ble_eq_true rfl) dX12_act_76 ⟨Nat.zero_le _, Nat.zero_le _⟩ (fun r301 σ300 τ300 H locs h300 hP hS => ?_)
        obtain ⟨rfl, f302, f303, f304, m305, m306, m307, m308, m309, h300⟩ := h300
        have h310 := h300
        obtain ⟨q312, k311⟩ := h310
        have q312 := q312.symm
        subst q312
        exact hret ((((a3 + 1) + (σ279 55 57)) + 3) * 2) σ300 τ _ _ _ _ rfl ⟨rfl, (fun i hi => ((f302 i hi).trans ((jnp i eσ279 (imp_345 i hi)).trans ((jnp i eσ278 (imp_345 i hi)).trans (jnp i eσ5 (imp_345 i hi)))))), (fun i hi => ((f303 i (imp_363 i hi)).trans ((jkp i eσ279 (imp_364 i hi)).trans ((jkp i eσ278 (imp_365 i hi)).trans (jkp i eσ5 (imp_366 i hi)))))), trivial⟩ hP hS dX12_act_79
      have kc296 := jne c296 t2 jz_1
      by_cases c313 : a2 = 2
      · have kc313 := jeq c313 t2 jz_2
        refine jtopr c313 ?_
        refine lv_tableIn (off := 49) (tgt := 80) hx hb dX12_act_31 (by decide) (by decide) (by decide) (by decide) ?_
        refine lv_aload_n hx hb dX12_act_80 rfl (lv_at hl 0 rfl) ?_
        refine lv_aload_n hx hb dX12_act_81 rfl (lv_at hl 0 rfl) ?_
        refine va_get (D := D) hx hb hts inlX12 hown hK hP 55 (jc_55 cI cL ad σ279 τ) rfl 56 (by decide) (hts _ kw_49_8) (fun _ h9 => h9) rfl dX12_act_82 ?_
        have m314 : σ279 55 56 = 4 := ((jkp 56 eσ279 (by decide)).trans (jsp eσ278))
        refine jtopr m314 ?_
        refine lv_iload_n hx hb dX12_act_85 rfl (lv_at hl 3 rfl) ?_
        have m315 : σ279 55 55 = 0 := ((jkp 55 eσ279 (by decide)).trans ((jkp 55 eσ278 (by decide)).trans (jsp eσ5)))
        have z316 : (σ279 55 56).toInt = 4 := ((congrArg Int32.toInt (show σ279 55 56 = 4 from m314)).trans jz_4)
        refine jcallV (As := [.int 4, .int a3]) (rest := []) ⟨hx, hb, hml, hown, hts⟩ hK hP hA hS hZ (c_X12_givesAs_4_4_0 l D cI cL ad zz hJ σ279 τ a3 (A3) t3 m315 (by omega)) cw_RX12_394 (jc_55 cI cL ad σ279 τ) rfl ⟨Nat.le_of_ble_eq_true rfl, Nat.le_of_ble_eq_true rfl⟩ rfl rfl rfl hl.1 rfl (Nat.le_of_ble_eq_true rfl) dX12_act_86 ⟨Nat.zero_le _, Nat.zero_le _⟩ (fun r318 σ317 τ317 H locs h317 hP hS => ?_)
        obtain ⟨rfl, f319, f320, f321, m322, m323, h317⟩ := h317
        have h324 := h317
        obtain ⟨q326, k325⟩ := h324
        have q326 := q326.symm
        subst q326
        exact hret (a3 ^^^ (σ279 55 57)) σ317 τ _ _ _ _ rfl ⟨rfl, (fun i hi => ((f319 i hi).trans ((jnp i eσ279 (imp_345 i hi)).trans ((jnp i eσ278 (imp_345 i hi)).trans (jnp i eσ5 (imp_345 i hi)))))), (fun i hi => ((f320 i (imp_363 i hi)).trans ((jkp i eσ279 (imp_364 i hi)).trans ((jkp i eσ278 (imp_365 i hi)).trans (jkp i eσ5 (imp_366 i hi)))))), trivial⟩ hP hS dX12_act_89
      have kc313 := jne c313 t2 jz_2
      by_cases c327 : a2 = 3
      · have kc327 := jeq c327 t2 jz_3
        refine jtopr c327 ?_
        refine lv_tableIn (off := 59) (tgt := 90) hx hb dX12_act_31 (by decide) (by decide) (by decide) (by decide) ?_
        refine lv_aload_n hx hb dX12_act_90 rfl (lv_at hl 0 rfl) ?_
        refine lv_aload_n hx hb dX12_act_91 rfl (lv_at hl 0 rfl) ?_
        refine va_get (D := D) hx hb hts inlX12 hown hK hP 55 (jc_55 cI cL ad σ279 τ) rfl 56 (by decide) (hts _ kw_49_8) (fun _ h9 => h9) rfl dX12_act_92 ?_
        have m328 : σ279 55 56 = 4 := ((jkp 56 eσ279 (by decide)).trans (jsp eσ278))
        refine jtopr m328 ?_
        refine lv_iload_n hx hb dX12_act_95 rfl (lv_at hl 3 rfl) ?_
        have m329 : σ279 55 55 = 0 := ((jkp 55 eσ279 (by decide)).trans ((jkp 55 eσ278 (by decide)).trans (jsp eσ5)))
        have z330 : (σ279 55 56).toInt = 4 := ((congrArg Int32.toInt (show σ279 55 56 = 4 from m328)).trans jz_4)
        refine jcallV (As := [.int 4, .int a3]) (rest := []) ⟨hx, hb, hml, hown, hts⟩ hK hP hA hS hZ (c_X12_tellsAs_4_4_0 l D cI cL ad zz hJ σ279 τ a3 (A3) t3 m329 (by omega)) cw_RX12_397 (jc_55 cI cL ad σ279 τ) rfl ⟨Nat.le_of_ble_eq_true rfl, Nat.le_of_ble_eq_true rfl⟩ rfl rfl rfl hl.1 rfl (Nat.le_of_ble_eq_true rfl) dX12_act_96 ⟨Nat.zero_le _, Nat.zero_le _⟩ (fun r332 σ331 τ331 H locs h331 hP hS => ?_)
        obtain ⟨rfl, f333, f334, f335, m336, m337, m338, m339, m340, m341, m342, m343, h331⟩ := h331
        have h344 := h331
        obtain ⟨q346, k345⟩ := h344
        have q346 := q346.symm
        subst q346
        exact hret ((((((a3 + 1) + (σ279 55 57)) + 3) * 2) - (1 ^^^ (σ279 55 57))) ^^^ 5) σ331 τ _ _ _ _ rfl ⟨rfl, (fun i hi => ((f333 i hi).trans ((jnp i eσ279 (imp_345 i hi)).trans ((jnp i eσ278 (imp_345 i hi)).trans (jnp i eσ5 (imp_345 i hi)))))), (fun i hi => ((f334 i (imp_363 i hi)).trans ((jkp i eσ279 (imp_364 i hi)).trans ((jkp i eσ278 (imp_365 i hi)).trans (jkp i eσ5 (imp_366 i hi)))))), trivial⟩ hP hS dX12_act_99
      have kc327 := jne c327 t2 jz_3
      refine lv_tableOut (tgt := 100) hx hb dX12_act_31 (by rw [t2]; omega) (by decide) ?_
      refine lv_iconst (v := 0) hx hb dX12_act_100 (by decide) ?_
      exact hret 0 σ279 τ _ _ _ _ rfl ⟨rfl, (fun i hi => ((jnp i eσ279 (imp_345 i hi)).trans ((jnp i eσ278 (imp_345 i hi)).trans (jnp i eσ5 (imp_345 i hi))))), (fun i hi => ((jkp i eσ279 (imp_364 i hi)).trans ((jkp i eσ278 (imp_365 i hi)).trans (jkp i eσ5 (imp_366 i hi))))), trivial⟩ hP hS dX12_act_101
    have kc277 := jne c277 (rfl : (σ 70 a1.toNatClampNeg).toInt = (σ 70 a1.toNatClampNeg).toInt) jz_4
    by_cases c347 : (σ 70 a1.toNatClampNeg) = 5
    · have kc347 := jeq c347 (rfl : (σ 70 a1.toNatClampNeg).toInt = (σ 70 a1.toNatClampNeg).toInt) jz_5
      refine jtopr c347 ?_
      refine jput (ty := .int) hx hb hts inlX12 tyX12 tyX12_ok nmX12 hown hK hP hJ hA hS (jc_55 cI cL ad σ5 τ) rfl (k := 56) (by decide) (Nat.le_of_ble_eq_true rfl) (jp_55_56 cI cL ad σ5 τ 5) (hts _ kw_49_8) (fun _ h9 => h9) rfl (by decide +kernel) rfl rfl dX12_act_22 (fun σ348 H locs eσ348 hP hS => ?_)
      refine lv_aload_n hx hb dX12_act_25 rfl (lv_at hl 0 rfl) ?_
      refine lv_iload_n hx hb dX12_act_26 rfl (lv_at hl 1 rfl) ?_
      refine jput (ty := .int) hx hb hts inlX12 tyX12 tyX12_ok nmX12 hown hK hP hJ hA hS (jc_55 cI cL ad σ348 τ) rfl (k := 57) (by decide) (Nat.le_of_ble_eq_true rfl) (jp_55_57 cI cL ad σ348 τ a1) (hts _ kw_49_9) (fun _ h9 => h9) rfl (by decide +kernel) rfl rfl dX12_act_27 (fun σ349 H locs eσ349 hP hS => ?_)
      refine lv_iload_n hx hb dX12_act_30 rfl (lv_at hl 2 rfl) ?_
      by_cases c350 : a2 = 0
      · have kc350 := jeq c350 t2 jz_0
        refine jtopr c350 ?_
        refine lv_tableIn (off := 29) (tgt := 60) hx hb dX12_act_31 (by decide) (by decide) (by decide) (by decide) ?_
        refine lv_aload_n hx hb dX12_act_60 rfl (lv_at hl 0 rfl) ?_
        refine lv_aload_n hx hb dX12_act_61 rfl (lv_at hl 0 rfl) ?_
        refine va_get (D := D) hx hb hts inlX12 hown hK hP 55 (jc_55 cI cL ad σ349 τ) rfl 56 (by decide) (hts _ kw_49_8) (fun _ h9 => h9) rfl dX12_act_62 ?_
        have m351 : σ349 55 56 = 5 := ((jkp 56 eσ349 (by decide)).trans (jsp eσ348))
        refine jtopr m351 ?_
        refine lv_iload_n hx hb dX12_act_65 rfl (lv_at hl 3 rfl) ?_
        have m352 : σ349 55 55 = 0 := ((jkp 55 eσ349 (by decide)).trans ((jkp 55 eσ348 (by decide)).trans (jsp eσ5)))
        have z353 : (σ349 55 56).toInt = 5 := ((congrArg Int32.toInt (show σ349 55 56 = 5 from m351)).trans jz_5)
        refine jcallV (As := [.int 5, .int a3]) (rest := []) ⟨hx, hb, hml, hown, hts⟩ hK hP hA hS hZ (c_X12_putsAs_5_5_0 l D cI cL ad zz hJ σ349 τ a3 (A3) t3 m352 (by omega)) cw_RX12_382 (jc_55 cI cL ad σ349 τ) rfl ⟨Nat.le_of_ble_eq_true rfl, Nat.le_of_ble_eq_true rfl⟩ rfl rfl rfl hl.1 rfl (Nat.le_of_ble_eq_true rfl) dX12_act_66 ⟨Nat.zero_le _, Nat.zero_le _⟩ (fun r355 σ354 τ354 H locs h354 hP hS => ?_)
        obtain ⟨rfl, f356, f357, f358, m359, m360, h354⟩ := h354
        have h361 := h354
        obtain ⟨q363, k362⟩ := h361
        have q363 := q363.symm
        subst q363
        exact hret (a3 + (σ349 55 57)) σ354 τ _ _ _ _ rfl ⟨rfl, (fun i hi => ((f356 i hi).trans ((jnp i eσ349 (imp_345 i hi)).trans ((jnp i eσ348 (imp_345 i hi)).trans (jnp i eσ5 (imp_345 i hi)))))), (fun i hi => ((f357 i (imp_363 i hi)).trans ((jkp i eσ349 (imp_364 i hi)).trans ((jkp i eσ348 (imp_365 i hi)).trans (jkp i eσ5 (imp_366 i hi)))))), trivial⟩ hP hS dX12_act_69
      have kc350 := jne c350 t2 jz_0
      by_cases c364 : a2 = 1
      · have kc364 := jeq c364 t2 jz_1
        refine jtopr c364 ?_
        refine lv_tableIn (off := 39) (tgt := 70) hx hb dX12_act_31 (by decide) (by decide) (by decide) (by decide) ?_
        refine lv_aload_n hx hb dX12_act_70 rfl (lv_at hl 0 rfl) ?_
        refine lv_aload_n hx hb dX12_act_71 rfl (lv_at hl 0 rfl) ?_
        refine va_get (D := D) hx hb hts inlX12 hown hK hP 55 (jc_55 cI cL ad σ349 τ) rfl 56 (by decide) (hts _ kw_49_8) (fun _ h9 => h9) rfl dX12_act_72 ?_
        have m365 : σ349 55 56 = 5 := ((jkp 56 eσ349 (by decide)).trans (jsp eσ348))
        refine jtopr m365 ?_
        refine lv_iload_n hx hb dX12_act_75 rfl (lv_at hl 3 rfl) ?_
        have m366 : σ349 55 55 = 0 := ((jkp 55 eσ349 (by decide)).trans ((jkp 55 eσ348 (by decide)).trans (jsp eσ5)))
        have z367 : (σ349 55 56).toInt = 5 := ((congrArg Int32.toInt (show σ349 55 56 = 5 from m365)).trans jz_5)
        refine jcallV (As := [.int 5, .int a3]) (rest := []) ⟨hx, hb, hml, hown, hts⟩ hK hP hA hS hZ (c_X12_holdsAs_5_5_0 l D cI cL ad zz hJ σ349 τ a3 (A3) t3 m366 (by omega)) cw_RX12_388 (jc_55 cI cL ad σ349 τ) rfl ⟨Nat.le_of_ble_eq_true rfl, Nat.le_of_ble_eq_true rfl⟩ rfl rfl rfl hl.1 rfl (Nat.le_of_ble_eq_true rfl) dX12_act_76 ⟨Nat.zero_le _, Nat.zero_le _⟩ (fun r369 σ368 τ368 H locs h368 hP hS => ?_)
        obtain ⟨rfl, f370, f371, f372, m373, m374, m375, m376, h368⟩ := h368
        have h377 := h368
        obtain ⟨q379, k378⟩ := h377
        have q379 := q379.symm
        subst q379
        exact hret (-((a3 + (σ349 55 57)) * 2)) σ368 τ _ _ _ _ rfl ⟨rfl, (fun i hi => ((f370 i hi).trans ((jnp i eσ349 (imp_345 i hi)).trans ((jnp i eσ348 (imp_345 i hi)).trans (jnp i eσ5 (imp_345 i hi)))))), (fun i hi => ((f371 i (imp_363 i hi)).trans ((jkp i eσ349 (imp_364 i hi)).trans ((jkp i eσ348 (imp_365 i hi)).trans (jkp i eσ5 (imp_366 i hi)))))), trivial⟩ hP hS dX12_act_79
      have kc364 := jne c364 t2 jz_1
      by_cases c380 : a2 = 2
      · have kc380 := jeq c380 t2 jz_2
        refine jtopr c380 ?_
        refine lv_tableIn (off := 49) (tgt := 80) hx hb dX12_act_31 (by decide) (by decide) (by decide) (by decide) ?_
        refine lv_aload_n hx hb dX12_act_80 rfl (lv_at hl 0 rfl) ?_
        refine lv_aload_n hx hb dX12_act_81 rfl (lv_at hl 0 rfl) ?_
        refine va_get (D := D) hx hb hts inlX12 hown hK hP 55 (jc_55 cI cL ad σ349 τ) rfl 56 (by decide) (hts _ kw_49_8) (fun _ h9 => h9) rfl dX12_act_82 ?_
        have m381 : σ349 55 56 = 5 := ((jkp 56 eσ349 (by decide)).trans (jsp eσ348))
        refine jtopr m381 ?_
        refine lv_iload_n hx hb dX12_act_85 rfl (lv_at hl 3 rfl) ?_
        have m382 : σ349 55 55 = 0 := ((jkp 55 eσ349 (by decide)).trans ((jkp 55 eσ348 (by decide)).trans (jsp eσ5)))
        have z383 : (σ349 55 56).toInt = 5 := ((congrArg Int32.toInt (show σ349 55 56 = 5 from m381)).trans jz_5)
        refine jcallV (As := [.int 5, .int a3]) (rest := []) ⟨hx, hb, hml, hown, hts⟩ hK hP hA hS hZ (c_X12_givesAs_5_5_0 l D cI cL ad zz hJ σ349 τ a3 (A3) t3 m382 (by omega)) cw_RX12_394 (jc_55 cI cL ad σ349 τ) rfl ⟨Nat.le_of_ble_eq_true rfl, Nat.le_of_ble_eq_true rfl⟩ rfl rfl rfl hl.1 rfl (Nat.le_of_ble_eq_true rfl) dX12_act_86 ⟨Nat.zero_le _, Nat.zero_le _⟩ (fun r385 σ384 τ384 H locs h384 hP hS => ?_)
        obtain ⟨rfl, f386, f387, f388, m389, m390, m391, m392, m393, h384⟩ := h384
        have h394 := h384
        obtain ⟨q396, k395⟩ := h394
        have q396 := q396.symm
        subst q396
        exact hret (((a3 ^^^ (σ349 55 57)) * 3) - (2 + (σ349 55 57))) σ384 τ _ _ _ _ rfl ⟨rfl, (fun i hi => ((f386 i hi).trans ((jnp i eσ349 (imp_345 i hi)).trans ((jnp i eσ348 (imp_345 i hi)).trans (jnp i eσ5 (imp_345 i hi)))))), (fun i hi => ((f387 i (imp_363 i hi)).trans ((jkp i eσ349 (imp_364 i hi)).trans ((jkp i eσ348 (imp_365 i hi)).trans (jkp i eσ5 (imp_366 i hi)))))), trivial⟩ hP hS dX12_act_89
      have kc380 := jne c380 t2 jz_2
      by_cases c397 : a2 = 3
      · have kc397 := jeq c397 t2 jz_3
        refine jtopr c397 ?_
        refine lv_tableIn (off := 59) (tgt := 90) hx hb dX12_act_31 (by decide) (by decide) (by decide) (by decide) ?_
        refine lv_aload_n hx hb dX12_act_90 rfl (lv_at hl 0 rfl) ?_
        refine lv_aload_n hx hb dX12_act_91 rfl (lv_at hl 0 rfl) ?_
        refine va_get (D := D) hx hb hts inlX12 hown hK hP 55 (jc_55 cI cL ad σ349 τ) rfl 56 (by decide) (hts _ kw_49_8) (fun _ h9 => h9) rfl dX12_act_92 ?_
        have m398 : σ349 55 56 = 5 := ((jkp 56 eσ349 (by decide)).trans (jsp eσ348))
        refine jtopr m398 ?_
        refine lv_iload_n hx hb dX12_act_95 rfl (lv_at hl 3 rfl) ?_
        have m399 : σ349 55 55 = 0 := ((jkp 55 eσ349 (by decide)).trans ((jkp 55 eσ348 (by decide)).trans (jsp eσ5)))
        have z400 : (σ349 55 56).toInt = 5 := ((congrArg Int32.toInt (show σ349 55 56 = 5 from m398)).trans jz_5)
        refine jcallV (As := [.int 5, .int a3]) (rest := []) ⟨hx, hb, hml, hown, hts⟩ hK hP hA hS hZ (c_X12_tellsAs_5_5_0 l D cI cL ad zz hJ σ349 τ a3 (A3) t3 m399 (by omega)) cw_RX12_397 (jc_55 cI cL ad σ349 τ) rfl ⟨Nat.le_of_ble_eq_true rfl, Nat.le_of_ble_eq_true rfl⟩ rfl rfl rfl hl.1 rfl (Nat.le_of_ble_eq_true rfl) dX12_act_96 ⟨Nat.zero_le _, Nat.zero_le _⟩ (fun r402 σ401 τ401 H locs h401 hP hS => ?_)
        obtain ⟨rfl, f403, f404, f405, m406, m407, m408, m409, m410, m411, m412, m413, m414, h401⟩ := h401
        have h415 := h401
        obtain ⟨q417, k416⟩ := h415
        have q417 := q417.symm
        subst q417
        exact hret ((-((a3 + (σ349 55 57)) * 2)) - (((1 ^^^ (σ349 55 57)) * 3) - (2 + (σ349 55 57)))) σ401 τ _ _ _ _ rfl ⟨rfl, (fun i hi => ((f403 i hi).trans ((jnp i eσ349 (imp_345 i hi)).trans ((jnp i eσ348 (imp_345 i hi)).trans (jnp i eσ5 (imp_345 i hi)))))), (fun i hi => ((f404 i (imp_363 i hi)).trans ((jkp i eσ349 (imp_364 i hi)).trans ((jkp i eσ348 (imp_365 i hi)).trans (jkp i eσ5 (imp_366 i hi)))))), trivial⟩ hP hS dX12_act_99
      have kc397 := jne c397 t2 jz_3
      refine lv_tableOut (tgt := 100) hx hb dX12_act_31 (by rw [t2]; omega) (by decide) ?_
      refine lv_iconst (v := 0) hx hb dX12_act_100 (by decide) ?_
      exact hret 0 σ349 τ _ _ _ _ rfl ⟨rfl, (fun i hi => ((jnp i eσ349 (imp_345 i hi)).trans ((jnp i eσ348 (imp_345 i hi)).trans (jnp i eσ5 (imp_345 i hi))))), (fun i hi => ((jkp i eσ349 (imp_364 i hi)).trans ((jkp i eσ348 (imp_365 i hi)).trans (jkp i eσ5 (imp_366 i hi))))), trivial⟩ hP hS dX12_act_101
    have kc347 := jne c347 (rfl : (σ 70 a1.toNatClampNeg).toInt = (σ 70 a1.toNatClampNeg).toInt) jz_5
    by_cases c418 : (σ 70 a1.toNatClampNeg) = 6
    · have kc418 := jeq c418 (rfl : (σ 70 a1.toNatClampNeg).toInt = (σ 70 a1.toNatClampNeg).toInt) jz_6
      refine jtopr c418 ?_
      refine jput (ty := .int) hx hb hts inlX12 tyX12 tyX12_ok nmX12 hown hK hP hJ hA hS (jc_55 cI cL ad σ5 τ) rfl (k := 56) (by decide) (Nat.le_of_ble_eq_true rfl) (jp_55_56 cI cL ad σ5 τ 6) (hts _ kw_49_8) (fun _ h9 => h9) rfl (by decide +kernel) rfl rfl dX12_act_22 (fun σ419 H locs eσ419 hP hS => ?_)
      refine lv_aload_n hx hb dX12_act_25 rfl (lv_at hl 0 rfl) ?_
      refine lv_iload_n hx hb dX12_act_26 rfl (lv_at hl 1 rfl) ?_
      refine jput (ty := .int) hx hb hts inlX12 tyX12 tyX12_ok nmX12 hown hK hP hJ hA hS (jc_55 cI cL ad σ419 τ) rfl (k := 57) (by decide) (Nat.le_of_ble_eq_true rfl) (jp_55_57 cI cL ad σ419 τ a1) (hts _ kw_49_9) (fun _ h9 => h9) rfl (by decide +kernel) rfl rfl dX12_act_27 (fun σ420 H locs eσ420 hP hS => ?_)
      refine lv_iload_n hx hb dX12_act_30 rfl (lv_at hl 2 rfl) ?_
      by_cases c421 : a2 = 0
      · have kc421 := jeq c421 t2 jz_0
        refine jtopr c421 ?_
        refine lv_tableIn (off := 29) (tgt := 60) hx hb dX12_act_31 (by decide) (by decide) (by decide) (by decide) ?_
        refine lv_aload_n hx hb dX12_act_60 rfl (lv_at hl 0 rfl) ?_
        refine lv_aload_n hx hb dX12_act_61 rfl (lv_at hl 0 rfl) ?_
        refine va_get (D := D) hx hb hts inlX12 hown hK hP 55 (jc_55 cI cL ad σ420 τ) rfl 56 (by decide) (hts _ kw_49_8) (fun _ h9 => h9) rfl dX12_act_62 ?_
        have m422 : σ420 55 56 = 6 := ((jkp 56 eσ420 (by decide)).trans (jsp eσ419))
        refine jtopr m422 ?_
        refine lv_iload_n hx hb dX12_act_65 rfl (lv_at hl 3 rfl) ?_
        have m423 : σ420 55 55 = 0 := ((jkp 55 eσ420 (by decide)).trans ((jkp 55 eσ419 (by decide)).trans (jsp eσ5)))
        have z424 : (σ420 55 56).toInt = 6 := ((congrArg Int32.toInt (show σ420 55 56 = 6 from m422)).trans jz_6)
        refine jcallV (As := [.int 6, .int a3]) (rest := []) ⟨hx, hb, hml, hown, hts⟩ hK hP hA hS hZ (c_X12_putsAs_6_6_0 l D cI cL ad zz hJ σ420 τ a3 (A3) t3 m423 (by omega)) cw_RX12_382 (jc_55 cI cL ad σ420 τ) rfl ⟨Nat.le_of_ble_eq_true rfl, Nat.le_of_ble_eq_true rfl⟩ rfl rfl rfl hl.1 rfl (Nat.le_of_ble_eq_true rfl) dX12_act_66 ⟨Nat.zero_le _, Nat.zero_le _⟩ (fun r426 σ425 τ425 H locs h425 hP hS => ?_)
        obtain ⟨rfl, f427, f428, f429, m430, m431, h425⟩ := h425
        have h432 := h425
        obtain ⟨q434, k433⟩ := h432
        have q434 := q434.symm
        subst q434
        exact hret (a3 + (σ420 55 57)) σ425 τ _ _ _ _ rfl ⟨rfl, (fun i hi => ((f427 i hi).trans ((jnp i eσ420 (imp_345 i hi)).trans ((jnp i eσ419 (imp_345 i hi)).trans (jnp i eσ5 (imp_345 i hi)))))), (fun i hi => ((f428 i (imp_363 i hi)).trans ((jkp i eσ420 (imp_364 i hi)).trans ((jkp i eσ419 (imp_365 i hi)).trans (jkp i eσ5 (imp_366 i hi)))))), trivial⟩ hP hS dX12_act_69
      have kc421 := jne c421 t2 jz_0
      by_cases c435 : a2 = 1
      · have kc435 := jeq c435 t2 jz_1
        refine jtopr c435 ?_
        refine lv_tableIn (off := 39) (tgt := 70) hx hb dX12_act_31 (by decide) (by decide) (by decide) (by decide) ?_
        refine lv_aload_n hx hb dX12_act_70 rfl (lv_at hl 0 rfl) ?_
        refine lv_aload_n hx hb dX12_act_71 rfl (lv_at hl 0 rfl) ?_
        refine va_get (D := D) hx hb hts inlX12 hown hK hP 55 (jc_55 cI cL ad σ420 τ) rfl 56 (by decide) (hts _ kw_49_8) (fun _ h9 => h9) rfl dX12_act_72 ?_
        have m436 : σ420 55 56 = 6 := ((jkp 56 eσ420 (by decide)).trans (jsp eσ419))
        refine jtopr m436 ?_
        refine lv_iload_n hx hb dX12_act_75 rfl (lv_at hl 3 rfl) ?_
        have m437 : σ420 55 55 = 0 := ((jkp 55 eσ420 (by decide)).trans ((jkp 55 eσ419 (by decide)).trans (jsp eσ5)))
        have z438 : (σ420 55 56).toInt = 6 := ((congrArg Int32.toInt (show σ420 55 56 = 6 from m436)).trans jz_6)
        refine jcallV (As := [.int 6, .int a3]) (rest := []) ⟨hx, hb, hml, hown, hts⟩ hK hP hA hS hZ (c_X12_holdsAs_6_6_0 l D cI cL ad zz hJ σ420 τ a3 (A3) t3 m437 (by omega)) cw_RX12_388 (jc_55 cI cL ad σ420 τ) rfl ⟨Nat.le_of_ble_eq_true rfl, Nat.le_of_ble_eq_true rfl⟩ rfl rfl rfl hl.1 rfl (Nat.le_of_ble_eq_true rfl) dX12_act_76 ⟨Nat.zero_le _, Nat.zero_le _⟩ (fun r440 σ439 τ439 H locs h439 hP hS => ?_)
        obtain ⟨rfl, f441, f442, f443, m444, m445, m446, m447, m448, h439⟩ := h439
        have h449 := h439
        obtain ⟨q451, k450⟩ := h449
        have q451 := q451.symm
        subst q451
        exact hret (((a3 + (σ420 55 57)) * 2) + (1 ^^^ (σ420 55 57))) σ439 τ _ _ _ _ rfl ⟨rfl, (fun i hi => ((f441 i hi).trans ((jnp i eσ420 (imp_345 i hi)).trans ((jnp i eσ419 (imp_345 i hi)).trans (jnp i eσ5 (imp_345 i hi)))))), (fun i hi => ((f442 i (imp_363 i hi)).trans ((jkp i eσ420 (imp_364 i hi)).trans ((jkp i eσ419 (imp_365 i hi)).trans (jkp i eσ5 (imp_366 i hi)))))), trivial⟩ hP hS dX12_act_79
      have kc435 := jne c435 t2 jz_1
      by_cases c452 : a2 = 2
      · have kc452 := jeq c452 t2 jz_2
        refine jtopr c452 ?_
        refine lv_tableIn (off := 49) (tgt := 80) hx hb dX12_act_31 (by decide) (by decide) (by decide) (by decide) ?_
        refine lv_aload_n hx hb dX12_act_80 rfl (lv_at hl 0 rfl) ?_
        refine lv_aload_n hx hb dX12_act_81 rfl (lv_at hl 0 rfl) ?_
        refine va_get (D := D) hx hb hts inlX12 hown hK hP 55 (jc_55 cI cL ad σ420 τ) rfl 56 (by decide) (hts _ kw_49_8) (fun _ h9 => h9) rfl dX12_act_82 ?_
        have m453 : σ420 55 56 = 6 := ((jkp 56 eσ420 (by decide)).trans (jsp eσ419))
        refine jtopr m453 ?_
        refine lv_iload_n hx hb dX12_act_85 rfl (lv_at hl 3 rfl) ?_
        have m454 : σ420 55 55 = 0 := ((jkp 55 eσ420 (by decide)).trans ((jkp 55 eσ419 (by decide)).trans (jsp eσ5)))
        have z455 : (σ420 55 56).toInt = 6 := ((congrArg Int32.toInt (show σ420 55 56 = 6 from m453)).trans jz_6)
        refine jcallV (As := [.int 6, .int a3]) (rest := []) ⟨hx, hb, hml, hown, hts⟩ hK hP hA hS hZ (c_X12_givesAs_6_6_0 l D cI cL ad zz hJ σ420 τ a3 (A3) t3 m454 (by omega)) cw_RX12_394 (jc_55 cI cL ad σ420 τ) rfl ⟨Nat.le_of_ble_eq_true rfl, Nat.le_of_ble_eq_true rfl⟩ rfl rfl rfl hl.1 rfl (Nat.le_of_ble_eq_true rfl) dX12_act_86 ⟨Nat.zero_le _, Nat.zero_le _⟩ (fun r457 σ456 τ456 H locs h456 hP hS => ?_)
        obtain ⟨rfl, f458, f459, f460, m461, m462, h456⟩ := h456
        have h463 := h456
        obtain ⟨q465, k464⟩ := h463
        have q465 := q465.symm
        subst q465
        exact hret (a3 ^^^ (σ420 55 57)) σ456 τ _ _ _ _ rfl ⟨rfl, (fun i hi => ((f458 i hi).trans ((jnp i eσ420 (imp_345 i hi)).trans ((jnp i eσ419 (imp_345 i hi)).trans (jnp i eσ5 (imp_345 i hi)))))), (fun i hi => ((f459 i (imp_363 i hi)).trans ((jkp i eσ420 (imp_364 i hi)).trans ((jkp i eσ419 (imp_365 i hi)).trans (jkp i eσ5 (imp_366 i hi)))))), trivial⟩ hP hS dX12_act_89
      have kc452 := jne c452 t2 jz_2
      by_cases c466 : a2 = 3
      · have kc466 := jeq c466 t2 jz_3
        refine jtopr c466 ?_
        refine lv_tableIn (off := 59) (tgt := 90) hx hb dX12_act_31 (by decide) (by decide) (by decide) (by decide) ?_
        refine lv_aload_n hx hb dX12_act_90 rfl (lv_at hl 0 rfl) ?_
        refine lv_aload_n hx hb dX12_act_91 rfl (lv_at hl 0 rfl) ?_
        refine va_get (D := D) hx hb hts inlX12 hown hK hP 55 (jc_55 cI cL ad σ420 τ) rfl 56 (by decide) (hts _ kw_49_8) (fun _ h9 => h9) rfl dX12_act_92 ?_
        have m467 : σ420 55 56 = 6 := ((jkp 56 eσ420 (by decide)).trans (jsp eσ419))
        refine jtopr m467 ?_
        refine lv_iload_n hx hb dX12_act_95 rfl (lv_at hl 3 rfl) ?_
        have m468 : σ420 55 55 = 0 := ((jkp 55 eσ420 (by decide)).trans ((jkp 55 eσ419 (by decide)).trans (jsp eσ5)))
        have z469 : (σ420 55 56).toInt = 6 := ((congrArg Int32.toInt (show σ420 55 56 = 6 from m467)).trans jz_6)
        refine jcallV (As := [.int 6, .int a3]) (rest := []) ⟨hx, hb, hml, hown, hts⟩ hK hP hA hS hZ (c_X12_tellsAs_6_6_0 l D cI cL ad zz hJ σ420 τ a3 (A3) t3 m468 (by omega)) cw_RX12_397 (jc_55 cI cL ad σ420 τ) rfl ⟨Nat.le_of_ble_eq_true rfl, Nat.le_of_ble_eq_true rfl⟩ rfl rfl rfl hl.1 rfl (Nat.le_of_ble_eq_true rfl) dX12_act_96 ⟨Nat.zero_le _, Nat.zero_le _⟩ (fun r471 σ470 τ470 H locs h470 hP hS => ?_)
        obtain ⟨rfl, f472, f473, f474, m475, m476, m477, m478, m479, m480, m481, h470⟩ := h470
        have h482 := h470
        obtain ⟨q484, k483⟩ := h482
        have q484 := q484.symm
        subst q484
        exact hret ((((a3 + (σ420 55 57)) * 2) + (1 ^^^ (σ420 55 57))) - (1 ^^^ (σ420 55 57))) σ470 τ _ _ _ _ rfl ⟨rfl, (fun i hi => ((f472 i hi).trans ((jnp i eσ420 (imp_345 i hi)).trans ((jnp i eσ419 (imp_345 i hi)).trans (jnp i eσ5 (imp_345 i hi)))))), (fun i hi => ((f473 i (imp_363 i hi)).trans ((jkp i eσ420 (imp_364 i hi)).trans ((jkp i eσ419 (imp_365 i hi)).trans (jkp i eσ5 (imp_366 i hi)))))), trivial⟩ hP hS dX12_act_99
      have kc466 := jne c466 t2 jz_3
      refine lv_tableOut (tgt := 100) hx hb dX12_act_31 (by rw [t2]; omega) (by decide) ?_
      refine lv_iconst (v := 0) hx hb dX12_act_100 (by decide) ?_
      exact hret 0 σ420 τ _ _ _ _ rfl ⟨rfl, (fun i hi => ((jnp i eσ420 (imp_345 i hi)).trans ((jnp i eσ419 (imp_345 i hi)).trans (jnp i eσ5 (imp_345 i hi))))), (fun i hi => ((jkp i eσ420 (imp_364 i hi)).trans ((jkp i eσ419 (imp_365 i hi)).trans (jkp i eσ5 (imp_366 i hi))))), trivial⟩ hP hS dX12_act_101
    have kc418 := jne c418 (rfl : (σ 70 a1.toNatClampNeg).toInt = (σ 70 a1.toNatClampNeg).toInt) jz_6
    exact absurd (by omega : False) id
  · obtain ⟨q486, k485⟩ := h11
    have q486 := q486.symm
    subst q486
    refine lv_if_ne (tgt := 15) hx hb dX12_act_10 (by decide) (fun c => absurd (by decide) c) (fun _ => ?_)
    refine lv_iconst (v := 0) hx hb dX12_act_13 (by decide) ?_
    exact hret 0 σ5 τ _ _ _ _ rfl ⟨rfl, (fun i hi => (jnp i eσ5 (imp_345 i hi))), (fun i hi => (jkp i eσ5 (imp_366 i hi))), trivial⟩ hP hS dX12_act_14
