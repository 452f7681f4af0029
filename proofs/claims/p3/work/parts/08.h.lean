set_option maxHeartbeats 4000000 in
set_option maxRecDepth 100000 in
theorem c_X12_begins_1_0 (l : Launch) (D : va_G) (cI cL : ClassId) (ad zz : Nat → Nat) (hJ : jD ad) (σ : Nat → Nat → Int32) (τ : Nat → Nat → Int64) (h55_55 : σ 55 55 = 0) : jMv l yX12_begins cX12_begins 2 none ({ frames := 0, cells := 0, slots := 0, locals := 0 }) D cI cL ad zz [.ref (ad 55), .int 1] σ τ (fun σ' τ' => τ = τ' ∧ (∀ i : Nat, (i < 55 ∨ 55 < i) ∧ (i < 85 ∨ 85 < i) → σ' i = σ i) ∧ (∀ k : Nat, (k < 55 ∨ 55 < k) → σ' 55 k = σ 55 k) ∧ (∀ k : Nat, (k < 0 ∨ 0 < k) → σ' 85 k = σ 85 k) ∧ (σ' 55 55 = 1) ∧ (σ' 85 0 = 1) ∧ True) := by
  refine jMv.of hJ (by decide +kernel) rfl (Nat.le_of_ble_eq_true rfl) ?_
  intro p e s m args below meth c Q ls hC hret hl hP
  obtain ⟨hx, hb, hr, hml, hown, hts, hK, -, hlocks, hZ⟩ := hC
  have hown : s.vm.findClass RX12 = some m.cls := hown
  have hS : va_S (jA ad) s.heap s.heap [] := va_S.rf
  have hA : ∀ q, jA ad q → jA ad q := fun _ h => h
  have hl : lv_has ls 2 [(0, .ref (ad 55)), (1, .int 1)] := hl
  refine lv_aload_n hx hb dX12_begins_0 rfl (lv_at hl 0 rfl) ?_
  refine va_get (D := D) hx hb hts inlX12 hown hK hP 55 (jc_55 cI cL ad σ τ) rfl 55 (by decide) (hts _ kw_49_7) (fun _ h9 => h9) rfl dX12_begins_1 ?_
  refine jtopr h55_55 ?_
  refine lv_bipush (v := 24) hx hb dX12_begins_4 (by decide) ?_
  refine lv_icmp_ge (tgt := 19) hx hb dX12_begins_6 (by decide) (fun c => absurd c (by decide)) (fun _ => ?_)
  refine lv_aload_n hx hb dX12_begins_9 rfl (lv_at hl 0 rfl) ?_
  refine va_get (D := D) hx hb hts inlX12 hown hK hP 55 (jc_55 cI cL ad σ τ) rfl 54 (by decide) (hts _ kw_8_10) (fun _ h9 => h9) rfl dX12_begins_10 ?_
  refine lv_aload_n hx hb dX12_begins_13 rfl (lv_at hl 0 rfl) ?_
  refine va_get (D := D) hx hb hts inlX12 hown hK hP 55 (jc_55 cI cL ad σ τ) rfl 55 (by decide) (hts _ kw_49_7) (fun _ h9 => h9) rfl dX12_begins_14 ?_
  refine jtopr h55_55 ?_
  refine lv_iload_n hx hb dX12_begins_17 rfl (lv_at hl 1 rfl) ?_
  refine jast hx hb hK hP hJ hA hS (jc_85 cI cL ad σ τ) (ja_85 cI cL ad σ τ _ _) (jin jz_0 (by omega) (by omega)) dX12_begins_18 (fun σ1 H locs eσ1 hP hS => ?_)
  have eσ1 : σ1 = jup σ 85 0 1 := eσ1
  refine lv_aload_n hx hb dX12_begins_19 rfl (lv_at hl 0 rfl) ?_
  refine lv_dup hx hb dX12_begins_20 rfl ?_
  refine va_get (D := D) hx hb hts inlX12 hown hK hP 55 (jc_55 cI cL ad σ1 τ) rfl 55 (by decide) (hts _ kw_49_7) (fun _ h9 => h9) rfl dX12_begins_21 ?_
  have m2 : σ1 55 55 = 0 := ((congrFun (jnp 55 eσ1 (by decide)) 55).trans h55_55)
  refine jtopr m2 ?_
  refine lv_iconst (v := 1) hx hb dX12_begins_24 (by decide) ?_
  refine lv_iadd hx hb dX12_begins_25 ?_
  refine jtopr (y := 1) (by decide) ?_
  refine jput (ty := .int) hx hb hts inlX12 tyX12 tyX12_ok nmX12 hown hK hP hJ hA hS (jc_55 cI cL ad σ1 τ) rfl (k := 55) (by decide) (Nat.le_of_ble_eq_true rfl) (jp_55_55 cI cL ad σ1 τ 1) (hts _ kw_49_7) (fun _ h9 => h9) rfl (by decide +kernel) rfl rfl dX12_begins_26 (fun σ3 H locs eσ3 hP hS => ?_)
  have m4 : σ3 55 55 = 1 := (jsp eσ3)
  have m5 : σ3 85 0 = 1 := ((congrFun (jnp 85 eσ3 (by decide)) 0).trans (jsp eσ1))
  exact hret σ3 τ _ _ _ _ ⟨rfl, (fun i hi => ((jnp i eσ3 (imp_345 i hi)).trans (jnp i eσ1 (imp_346 i hi)))), (fun i hi => ((jkp i eσ3 (imp_164 i hi)).trans (congrFun (jnp 55 eσ1 (by decide)) i))), (fun i hi => ((congrFun (jnp 85 eσ3 (by decide)) i).trans (jkp i eσ1 (imp_4 i hi)))), m4, m5, trivial⟩ hP hS dX12_begins_29
set_option maxHeartbeats 4000000 in
set_option maxRecDepth 100000 in
theorem c_X12_putsAs_0_0_0 (l : Launch) (D : va_G) (cI cL : ClassId) (ad zz : Nat → Nat) (hJ : jD ad) (σ : Nat → Nat → Int32) (τ : Nat → Nat → Int64) (a2 : Int32) (A2 : Int) (t2 : a2.toInt = A2) (h55_55 : σ 55 55 = 0) (hp0 : (σ 55 56).toInt = 0) : jM l yX12_putsAs cX12_putsAs 3 (some .int) ({ frames := 1, cells := 0, slots := 0, locals := 21 }) D cI cL ad zz [.ref (ad 55), .int 0, .int a2] σ τ (fun r σ' τ' => τ = τ' ∧ (∀ i : Nat, (i < 55 ∨ 55 < i) ∧ (i < 85 ∨ 85 < i) → σ' i = σ i) ∧ (∀ k : Nat, (k < 55 ∨ 55 < k) → σ' 55 k = σ 55 k) ∧ (∀ k : Nat, (k < 0 ∨ 0 < k) → σ' 85 k = σ 85 k) ∧ (σ' 55 55 = 1) ∧ (σ' 85 0 = 1) ∧ ((r = (a2 + (σ 55 57)) ∧ True))) := by
  refine jM.of hJ (by decide +kernel) (nt := .int) rfl (Nat.le_of_ble_eq_true rfl) ?_
  intro p e s m args below meth c Q ls hC hret hl hP
  obtain ⟨hx, hb, hr, hml, hown, hts, hK, -, hlocks, hZ⟩ := hC
  have hown : s.vm.findClass RX12 = some m.cls := hown
  have hS : va_S (jA ad) s.heap s.heap [] := va_S.rf
  have hA : ∀ q, jA ad q → jA ad q := fun _ h => h
  have hl : lv_has ls 3 [(0, .ref (ad 55)), (1, .int 0), (2, .int a2)] := hl
  have g2 := jrg t2
  refine lv_iload_n hx hb dX12_putsAs_0 rfl (lv_at hl 1 rfl) ?_
  refine lv_iconst (v := 4) hx hb dX12_putsAs_1 (by decide) ?_
  refine lv_icmp_ne (tgt := 20) hx hb dX12_putsAs_2 (by decide) (fun _ => ?_) (fun c => absurd c (by decide))
  refine lv_iload_n hx hb dX12_putsAs_20 rfl (lv_at hl 1 rfl) ?_
  refine lv_iconst (v := 1) hx hb dX12_putsAs_21 (by decide) ?_
  refine lv_icmp_ne (tgt := 40) hx hb dX12_putsAs_22 (by decide) (fun _ => ?_) (fun c => absurd c (by decide))
  refine lv_aload_n hx hb dX12_putsAs_40 rfl (lv_at hl 0 rfl) ?_
  refine lv_iconst (v := 1) hx hb dX12_putsAs_41 (by decide) ?_
  refine jcallVv (As := [.int 1]) (rest := []) ⟨hx, hb, hml, hown, hts⟩ hK hP hA hS hZ (c_X12_begins_1_0 l D cI cL ad zz hJ σ τ h55_55) cw_RX12_379 (jc_55 cI cL ad σ τ) rfl ⟨Nat.le_of_ble_eq_true rfl, Nat.le_of_ble_eq_true rfl⟩ rfl rfl rfl hl.1 rfl (Nat.le_of_ble_eq_true rfl) dX12_putsAs_42 ⟨Nat.zero_le _, Nat.zero_le _⟩ (fun σ1 τ1 H locs h1 hP hS => ?_)
  obtain ⟨rfl, f3, f4, f5, m6, m7, h1⟩ := h1
  refine lv_iload_n hx hb dX12_putsAs_45 rfl (lv_at hl 2 rfl) ?_
  refine lv_aload_n hx hb dX12_putsAs_46 rfl (lv_at hl 0 rfl) ?_
  refine va_get (D := D) hx hb hts inlX12 hown hK hP 55 (jc_55 cI cL ad σ1 τ) rfl 57 (by decide) (hts _ kw_49_9) (fun _ h9 => h9) rfl dX12_putsAs_47 ?_
  have m8 : σ1 55 57 = (σ 55 57) := (f4 57 (by decide))
  refine jtopr m8 ?_
  have g9 := jrg (rfl : (σ 55 57).toInt = (σ 55 57).toInt)
  refine lv_iadd hx hb dX12_putsAs_50 ?_
  refine lv_topi (fun x10 ex10 => ?_)
  have gx10 := jrg (rfl : x10.toInt = x10.toInt)
  exact hret x10 σ1 τ _ _ _ _ rfl ⟨rfl, (fun i hi => (f3 i hi)), (fun i hi => (f4 i hi)), (fun i hi => (f5 i hi)), m6, m7, ⟨(by rw [ex10]), trivial⟩⟩ hP hS dX12_putsAs_51
set_option maxHeartbeats 4000000 in
set_option maxRecDepth 100000 in
theorem c_X12_begins_10_0 (l : Launch) (D : va_G) (cI cL : ClassId) (ad zz : Nat → Nat) (hJ : jD ad) (σ : Nat → Nat → Int32) (τ : Nat → Nat → Int64) (h55_55 : σ 55 55 = 0) : jMv l yX12_begins cX12_begins 2 none ({ frames := 0, cells := 0, slots := 0, locals := 0 }) D cI cL ad zz [.ref (ad 55), .int 10] σ τ (fun σ' τ' => τ = τ' ∧ (∀ i : Nat, (i < 55 ∨ 55 < i) ∧ (i < 85 ∨ 85 < i) → σ' i = σ i) ∧ (∀ k : Nat, (k < 55 ∨ 55 < k) → σ' 55 k = σ 55 k) ∧ (∀ k : Nat, (k < 0 ∨ 0 < k) → σ' 85 k = σ 85 k) ∧ (σ' 55 55 = 1) ∧ (σ' 85 0 = 10) ∧ True) := by
  refine jMv.of hJ (by decide +kernel) rfl (Nat.le_of_ble_eq_true rfl) ?_
  intro p e s m args below meth c Q ls hC hret hl hP
  obtain ⟨hx, hb, hr, hml, hown, hts, hK, -, hlocks, hZ⟩ := hC
  have hown : s.vm.findClass RX12 = some m.cls := hown
  have hS : va_S (jA ad) s.heap s.heap [] := va_S.rf
  have hA : ∀ q, jA ad q → jA ad q := fun _ h => h
  have hl : lv_has ls 2 [(0, .ref (ad 55)), (1, .int 10)] := hl
  refine lv_aload_n hx hb dX12_begins_0 rfl (lv_at hl 0 rfl) ?_
  refine va_get (D := D) hx hb hts inlX12 hown hK hP 55 (jc_55 cI cL ad σ τ) rfl 55 (by decide) (hts _ kw_49_7) (fun _ h9 => h9) rfl dX12_begins_1 ?_
  refine jtopr h55_55 ?_
  refine lv_bipush (v := 24) hx hb dX12_begins_4 (by decide) ?_
  refine lv_icmp_ge (tgt := 19) hx hb dX12_begins_6 (by decide) (fun c => absurd c (by decide)) (fun _ => ?_)
  refine lv_aload_n hx hb dX12_begins_9 rfl (lv_at hl 0 rfl) ?_
  refine va_get (D := D) hx hb hts inlX12 hown hK hP 55 (jc_55 cI cL ad σ τ) rfl 54 (by decide) (hts _ kw_8_10) (fun _ h9 => h9) rfl dX12_begins_10 ?_
  refine lv_aload_n hx hb dX12_begins_13 rfl (lv_at hl 0 rfl) ?_
  refine va_get (D := D) hx hb hts inlX12 hown hK hP 55 (jc_55 cI cL ad σ τ) rfl 55 (by decide) (hts _ kw_49_7) (fun _ h9 => h9) rfl dX12_begins_14 ?_
  refine jtopr h55_55 ?_
  refine lv_iload_n hx hb dX12_begins_17 rfl (lv_at hl 1 rfl) ?_
  refine jast hx hb hK hP hJ hA hS (jc_85 cI cL ad σ τ) (ja_85 cI cL ad σ τ _ _) (jin jz_0 (by omega) (by omega)) dX12_begins_18 (fun σ1 H locs eσ1 hP hS => ?_)
  have eσ1 : σ1 = jup σ 85 0 10 := eσ1
  refine lv_aload_n hx hb dX12_begins_19 rfl (lv_at hl 0 rfl) ?_
  refine lv_dup hx hb dX12_begins_20 rfl ?_
  refine va_get (D := D) hx hb hts inlX12 hown hK hP 55 (jc_55 cI cL ad σ1 τ) rfl 55 (by decide) (hts _ kw_49_7) (fun _ h9 => h9) rfl dX12_begins_21 ?_
  have m2 : σ1 55 55 = 0 := ((congrFun (jnp 55 eσ1 (by decide)) 55).trans h55_55)
  refine jtopr m2 ?_
  refine lv_iconst (v := 1) hx hb dX12_begins_24 (by decide) ?_
  refine lv_iadd hx hb dX12_begins_25 ?_
  refine jtopr (y := 1) (by decide) ?_
  refine jput (ty := .int) hx hb hts inlX12 tyX12 tyX12_ok nmX12 hown hK hP hJ hA hS (jc_55 cI cL ad σ1 τ) rfl (k := 55) (by decide) (Nat.le_of_ble_eq_true rfl) (jp_55_55 cI cL ad σ1 τ 1) (hts _ kw_49_7) (fun _ h9 => h9) rfl (by decide +kernel) rfl rfl dX12_begins_26 (fun σ3 H locs eσ3 hP hS => ?_)
  have m4 : σ3 55 55 = 1 := (jsp eσ3)
  have m5 : σ3 85 0 = 10 := ((congrFun (jnp 85 eσ3 (by decide)) 0).trans (jsp eσ1))
  exact hret σ3 τ _ _ _ _ ⟨rfl, (fun i hi => ((jnp i eσ3 (imp_345 i hi)).trans (jnp i eσ1 (imp_346 i hi)))), (fun i hi => ((jkp i eσ3 (imp_164 i hi)).trans (congrFun (jnp 55 eσ1 (by decide)) i))), (fun i hi => ((congrFun (jnp 85 eσ3 (by decide)) i).trans (jkp i eσ1 (imp_4 i hi)))), m4, m5, trivial⟩ hP hS dX12_begins_29
set_option maxHeartbeats 4000000 in
set_option maxRecDepth 100000 in
theorem c_X12_begins_1_1 (l : Launch) (D : va_G) (cI cL : ClassId) (ad zz : Nat → Nat) (hJ : jD ad) (σ : Nat → Nat → Int32) (τ : Nat → Nat → Int64) (h55_55 : σ 55 55 = 1) : jMv l yX12_begins cX12_begins 2 none ({ frames := 0, cells := 0, slots := 0, locals := 0 }) D cI cL ad zz [.ref (ad 55), .int 1] σ τ (fun σ' τ' => τ = τ' ∧ (∀ i : Nat, (i < 55 ∨ 55 < i) ∧ (i < 85 ∨ 85 < i) → σ' i = σ i) ∧ (∀ k : Nat, (k < 55 ∨ 55 < k) → σ' 55 k = σ 55 k) ∧ (∀ k : Nat, (k < 1 ∨ 1 < k) → σ' 85 k = σ 85 k) ∧ (σ' 55 55 = 2) ∧ (σ' 85 1 = 1) ∧ True) := by
  refine jMv.of hJ (by decide +kernel) rfl (Nat.le_of_ble_eq_true rfl) ?_
  intro p e s m args below meth c Q ls hC hret hl hP
  obtain ⟨hx, hb, hr, hml, hown, hts, hK, -, hlocks, hZ⟩ := hC
  have hown : s.vm.findClass RX12 = some m.cls := hown
  have hS : va_S (jA ad) s.heap s.heap [] := va_S.rf
  have hA : ∀ q, jA ad q → jA ad q := fun _ h => h
  have hl : lv_has ls 2 [(0, .ref (ad 55)), (1, .int 1)] := hl
  refine lv_aload_n hx hb dX12_begins_0 rfl (lv_at hl 0 rfl) ?_
  refine va_get (D := D) hx hb hts inlX12 hown hK hP 55 (jc_55 cI cL ad σ τ) rfl 55 (by decide) (hts _ kw_49_7) (fun _ h9 => h9) rfl dX12_begins_1 ?_
  refine jtopr h55_55 ?_
  refine lv_bipush (v := 24) hx hb dX12_begins_4 (by decide) ?_
  refine lv_icmp_ge (tgt := 19) hx hb dX12_begins_6 (by decide) (fun c => absurd c (by decide)) (fun _ => ?_)
  refine lv_aload_n hx hb dX12_begins_9 rfl (lv_at hl 0 rfl) ?_
  refine va_get (D := D) hx hb hts inlX12 hown hK hP 55 (jc_55 cI cL ad σ τ) rfl 54 (by decide) (hts _ kw_8_10) (fun _ h9 => h9) rfl dX12_begins_10 ?_
  refine lv_aload_n hx hb dX12_begins_13 rfl (lv_at hl 0 rfl) ?_
  refine va_get (D := D) hx hb hts inlX12 hown hK hP 55 (jc_55 cI cL ad σ τ) rfl 55 (by decide) (hts _ kw_49_7) (fun _ h9 => h9) rfl dX12_begins_14 ?_
  refine jtopr h55_55 ?_
  refine lv_iload_n hx hb dX12_begins_17 rfl (lv_at hl 1 rfl) ?_
  refine jast hx hb hK hP hJ hA hS (jc_85 cI cL ad σ τ) (ja_85 cI cL ad σ τ _ _) (jin jz_1 (by omega) (by omega)) dX12_begins_18 (fun σ1 H locs eσ1 hP hS => ?_)
  have eσ1 : σ1 = jup σ 85 1 1 := eσ1
  refine lv_aload_n hx hb dX12_begins_19 rfl (lv_at hl 0 rfl) ?_
  refine lv_dup hx hb dX12_begins_20 rfl ?_
  refine va_get (D := D) hx hb hts inlX12 hown hK hP 55 (jc_55 cI cL ad σ1 τ) rfl 55 (by decide) (hts _ kw_49_7) (fun _ h9 => h9) rfl dX12_begins_21 ?_
  have m2 : σ1 55 55 = 1 := ((congrFun (jnp 55 eσ1 (by decide)) 55).trans h55_55)
  refine jtopr m2 ?_
  refine lv_iconst (v := 1) hx hb dX12_begins_24 (by decide) ?_
  refine lv_iadd hx hb dX12_begins_25 ?_
  refine jtopr (y := 2) (by decide) ?_
  refine jput (ty := .int) hx hb hts inlX12 tyX12 tyX12_ok nmX12 hown hK hP hJ hA hS (jc_55 cI cL ad σ1 τ) rfl (k := 55) (by decide) (Nat.le_of_ble_eq_true rfl) (jp_55_55 cI cL ad σ1 τ 2) (hts _ kw_49_7) (fun _ h9 => h9) rfl (by decide +kernel) rfl rfl dX12_begins_26 (fun σ3 H locs eσ3 hP hS => ?_)
  have m4 : σ3 55 55 = 2 := (jsp eσ3)
  have m5 : σ3 85 1 = 1 := ((congrFun (jnp 85 eσ3 (by decide)) 1).trans (jsp eσ1))
  exact hret σ3 τ _ _ _ _ ⟨rfl, (fun i hi => ((jnp i eσ3 (imp_345 i hi)).trans (jnp i eσ1 (imp_346 i hi)))), (fun i hi => ((jkp i eσ3 (imp_164 i hi)).trans (congrFun (jnp 55 eσ1 (by decide)) i))), (fun i hi => ((congrFun (jnp 85 eσ3 (by decide)) i).trans (jkp i eσ1 (imp_42 i hi)))), m4, m5, trivial⟩ hP hS dX12_begins_29
set_option maxHeartbeats 4000000 in
set_option maxRecDepth 100000 in
theorem c_X12_putsAs_0_0_1 (l : Launch) (D : va_G) (cI cL : ClassId) (ad zz : Nat → Nat) (hJ : jD ad) (σ : Nat → Nat → Int32) (τ : Nat → Nat → Int64) (a2 : Int32) (A2 : Int) (t2 : a2.toInt = A2) (h55_55 : σ 55 55 = 1) (hp0 : (σ 55 56).toInt = 0) : jM l yX12_putsAs cX12_putsAs 3 (some .int) ({ frames := 1, cells := 0, slots := 0, locals := 21 }) D cI cL ad zz [.ref (ad 55), .int 0, .int a2] σ τ (fun r σ' τ' => τ = τ' ∧ (∀ i : Nat, (i < 55 ∨ 55 < i) ∧ (i < 85 ∨ 85 < i) → σ' i = σ i) ∧ (∀ k : Nat, (k < 55 ∨ 55 < k) → σ' 55 k = σ 55 k) ∧ (∀ k : Nat, (k < 1 ∨ 1 < k) → σ' 85 k = σ 85 k) ∧ (σ' 55 55 = 2) ∧ (σ' 85 1 = 1) ∧ ((r = (a2 + (σ 55 57)) ∧ True))) := by
  refine jM.of hJ (by decide +kernel) (nt := .int) rfl (Nat.le_of_ble_eq_true rfl) ?_
  intro p e s m args below meth c Q ls hC hret hl hP
  obtain ⟨hx, hb, hr, hml, hown, hts, hK, -, hlocks, hZ⟩ := hC
  have hown : s.vm.findClass RX12 = some m.cls := hown
  have hS : va_S (jA ad) s.heap s.heap [] := va_S.rf
  have hA : ∀ q, jA ad q → jA ad q := fun _ h => h
  have hl : lv_has ls 3 [(0, .ref (ad 55)), (1, .int 0), (2, .int a2)] := hl
  have g2 := jrg t2
  refine lv_iload_n hx hb dX12_putsAs_0 rfl (lv_at hl 1 rfl) ?_
  refine lv_iconst (v := 4) hx hb dX12_putsAs_1 (by decide) ?_
  refine lv_icmp_ne (tgt := 20) hx hb dX12_putsAs_2 (by decide) (fun _ => ?_) (fun c => absurd c (by decide))
  refine lv_iload_n hx hb dX12_putsAs_20 rfl (lv_at hl 1 rfl) ?_
  refine lv_iconst (v := 1) hx hb dX12_putsAs_21 (by decide) ?_
  refine lv_icmp_ne (tgt := 40) hx hb dX12_putsAs_22 (by decide) (fun _ => ?_) (fun c => absurd c (by decide))
  refine lv_aload_n hx hb dX12_putsAs_40 rfl (lv_at hl 0 rfl) ?_
  refine lv_iconst (v := 1) hx hb dX12_putsAs_41 (by decide) ?_
  refine jcallVv (As := [.int 1]) (rest := []) ⟨hx, hb, hml, hown, hts⟩ hK hP hA hS hZ (c_X12_begins_1_1 l D cI cL ad zz hJ σ τ h55_55) cw_RX12_379 (jc_55 cI cL ad σ τ) rfl ⟨Nat.le_of_ble_eq_true rfl, Nat.le_of_ble_eq_true rfl⟩ rfl rfl rfl hl.1 rfl (Nat.le_of_ble_eq_true rfl) dX12_putsAs_42 ⟨Nat.zero_le _, Nat.zero_le _⟩ (fun σ1 τ1 H locs h1 hP hS => ?_)
  obtain ⟨rfl, f3, f4, f5, m6, m7, h1⟩ := h1
  refine lv_iload_n hx hb dX12_putsAs_45 rfl (lv_at hl 2 rfl) ?_
  refine lv_aload_n hx hb dX12_putsAs_46 rfl (lv_at hl 0 rfl) ?_
  refine va_get (D := D) hx hb hts inlX12 hown hK hP 55 (jc_55 cI cL ad σ1 τ) rfl 57 (by decide) (hts _ kw_49_9) (fun _ h9 => h9) rfl dX12_putsAs_47 ?_
  have m8 : σ1 55 57 = (σ 55 57) := (f4 57 (by decide))
  refine jtopr m8 ?_
  have g9 := jrg (rfl : (σ 55 57).toInt = (σ 55 57).toInt)
  refine lv_iadd hx hb dX12_putsAs_50 ?_
  refine lv_topi (fun x10 ex10 => ?_)
  have gx10 := jrg (rfl : x10.toInt = x10.toInt)
  exact hret x10 σ1 τ _ _ _ _ rfl ⟨rfl, (fun i hi => (f3 i hi)), (fun i hi => (f4 i hi)), (fun i hi => (f5 i hi)), m6, m7, ⟨(by rw [ex10]), trivial⟩⟩ hP hS dX12_putsAs_51
set_option maxHeartbeats 4000000 in
set_option maxRecDepth 100000 in
theorem c_X12_holdsAs_0_0_0 (l : Launch) (D : va_G) (cI cL : ClassId) (ad zz : Nat → Nat) (hJ : jD ad) (σ : Nat → Nat → Int32) (τ : Nat → Nat → Int64) (a2 : Int32) (A2 : Int) (t2 : a2.toInt = A2) (h55_55 : σ 55 55 = 0) (hp0 : (σ 55 56).toInt = 0) : jM l yX12_holdsAs cX12_holdsAs 4 (some .int) ({ frames := 2, cells := 0, slots := 0, locals := 43 }) D cI cL ad zz [.ref (ad 55), .int 0, .int a2] σ τ (fun r σ' τ' => τ = τ' ∧ (∀ i : Nat, (i < 55 ∨ 55 < i) ∧ (i < 85 ∨ 85 < i) → σ' i = σ i) ∧ (∀ k : Nat, (k < 55 ∨ 55 < k) → σ' 55 k = σ 55 k) ∧ (∀ k : Nat, (k < 0 ∨ 0 < k) ∧ (k < 1 ∨ 1 < k) → σ' 85 k = σ 85 k) ∧ (σ' 55 55 = 2) ∧ (σ' 85 0 = 10) ∧ (σ' 85 1 = 1) ∧ ((r = ((a2 + (σ 55 57)) * 2) ∧ True))) := by
  refine jM.of hJ (by decide +kernel) (nt := .int) rfl (Nat.le_of_ble_eq_true rfl) ?_
  intro p e s m args below meth c Q ls hC hret hl hP
  obtain ⟨hx, hb, hr, hml, hown, hts, hK, -, hlocks, hZ⟩ := hC
  have hown : s.vm.findClass RX12 = some m.cls := hown
  have hS : va_S (jA ad) s.heap s.heap [] := va_S.rf
  have hA : ∀ q, jA ad q → jA ad q := fun _ h => h
  have hl : lv_has ls 4 [(0, .ref (ad 55)), (1, .int 0), (2, .int a2)] := hl
  have g2 := jrg t2
  refine lv_iload_n hx hb dX12_holdsAs_0 rfl (lv_at hl 1 rfl) ?_
  refine lv_iconst (v := 3) hx hb dX12_holdsAs_1 (by decide) ?_
  refine lv_icmp_eq (tgt := 10) hx hb dX12_holdsAs_2 (by decide) (fun c => absurd c (by decide)) (fun _ => ?_)
  refine lv_iload_n hx hb dX12_holdsAs_5 rfl (lv_at hl 1 rfl) ?_
  refine lv_iconst (v := 5) hx hb dX12_holdsAs_6 (by decide) ?_
  refine lv_icmp_ne (tgt := 24) hx hb dX12_holdsAs_7 (by decide) (fun _ => ?_) (fun c => absurd c (by decide))
  refine lv_iload_n hx hb dX12_holdsAs_24 rfl (lv_at hl 1 rfl) ?_
  refine lv_bipush (v := 6) hx hb dX12_holdsAs_25 (by decide) ?_
  refine lv_icmp_ne (tgt := 55) hx hb dX12_holdsAs_27 (by decide) (fun _ => ?_) (fun c => absurd c (by decide))
  refine lv_aload_n hx hb dX12_holdsAs_55 rfl (lv_at hl 0 rfl) ?_
  refine lv_bipush (v := 10) hx hb dX12_holdsAs_56 (by decide) ?_
  refine jcallVv (As := [.int 10]) (rest := []) ⟨hx, hb, hml, hown, hts⟩ hK hP hA hS hZ (c_X12_begins_10_0 l D cI cL ad zz hJ σ τ h55_55) cw_RX12_379 (jc_55 cI cL ad σ τ) rfl ⟨Nat.le_of_ble_eq_true rfl, Nat.le_of_ble_eq_true rfl⟩ rfl rfl rfl hl.1 rfl (Nat.le_of_ble_eq_true rfl) dX12_holdsAs_58 ⟨Nat.zero_le _, Nat.zero_le _⟩ (fun σ1 τ1 H locs h1 hP hS => ?_)
  obtain ⟨rfl, f3, f4, f5, m6, m7, h1⟩ := h1
  refine lv_aload_n hx hb dX12_holdsAs_61 rfl (lv_at hl 0 rfl) ?_
  refine lv_aload_n hx hb dX12_holdsAs_62 rfl (lv_at hl 0 rfl) ?_
  refine va_get (D := D) hx hb hts inlX12 hown hK hP 55 (jc_55 cI cL ad σ1 τ) rfl 56 (by decide) (hts _ kw_49_8) (fun _ h9 => h9) rfl dX12_holdsAs_63 ?_
  have m8 : σ1 55 56 = (σ 55 56) := (f4 56 (by decide))
  refine jtopr m8 ?_
  refine jtopr (jsame (rfl : (σ 55 56).toInt = (σ 55 56).toInt) jz_0 (by omega)) ?_
  refine lv_iload_n hx hb dX12_holdsAs_66 rfl (lv_at hl 2 rfl) ?_
  have z9 : (σ1 55 56).toInt = (σ 55 56).toInt := (congrArg Int32.toInt (show σ1 55 56 = (σ 55 56) from m8))
  refine jcallV (As := [.int 0, .int a2]) (rest := []) ⟨hx, hb, hml, hown, hts⟩ hK hP hA hS hZ (c_X12_putsAs_0_0_1 l D cI cL ad zz hJ σ1 τ a2 (A2) t2 m6 (by omega)) cw_RX12_382 (jc_55 cI cL ad σ1 τ) rfl ⟨Nat.le_of_ble_eq_true rfl, Nat.le_of_ble_eq_true rfl⟩ rfl rfl rfl hl.1 rfl (Nat.le_of_ble_eq_true rfl) dX12_holdsAs_67 ⟨Nat.zero_le _, Nat.zero_le _⟩ (fun r11 σ10 τ10 H locs h10 hP hS => ?_)
  obtain ⟨rfl, f12, f13, f14, m15, m16, h10⟩ := h10
  have h17 := h10
  obtain ⟨q19, k18⟩ := h17
  have q19 := q19.symm
  subst q19
  refine lv_iconst (v := 2) hx hb dX12_holdsAs_70 (by decide) ?_
  have g20 := jrg (rfl : (a2 + (σ1 55 57)).toInt = (a2 + (σ1 55 57)).toInt)
  refine lv_imul hx hb dX12_holdsAs_71 ?_
  refine lv_topi (fun x21 ex21 => ?_)
  have gx21 := jrg (rfl : x21.toInt = x21.toInt)
  have m22 : σ10 85 0 = 10 := ((f14 0 (by decide)).trans m7)
  exact hret x21 σ10 τ _ _ _ _ rfl ⟨rfl, (fun i hi => ((f12 i hi).trans (f3 i hi))), (fun i hi => ((f13 i hi).trans (f4 i hi))), (fun i hi => ((f14 i (imp_302 i hi)).trans (f5 i (imp_347 i hi)))), m15, m22, m16, ⟨(by rw [ex21, (show σ1 55 57 = σ 55 57 from (f4 57 (by decide)))]), trivial⟩⟩ hP hS dX12_holdsAs_72
set_option maxHeartbeats 4000000 in
set_option maxRecDepth 100000 in
theorem c_X12_begins_11_0 (l : Launch) (D : va_G) (cI cL : ClassId) (ad zz : Nat → Nat) (hJ : jD ad) (σ : Nat → Nat → Int32) (τ : Nat → Nat → Int64) (h55_55 : σ 55 55 = 0) : jMv l yX12_begins cX12_begins 2 none ({ frames := 0, cells := 0, slots := 0, locals := 0 }) D cI cL ad zz [.ref (ad 55), .int 11] σ τ (fun σ' τ' => τ = τ' ∧ (∀ i : Nat, (i < 55 ∨ 55 < i) ∧ (i < 85 ∨ 85 < i) → σ' i = σ i) ∧ (∀ k : Nat, (k < 55 ∨ 55 < k) → σ' 55 k = σ 55 k) ∧ (∀ k : Nat, (k < 0 ∨ 0 < k) → σ' 85 k = σ 85 k) ∧ (σ' 55 55 = 1) ∧ (σ' 85 0 = 11) ∧ True) := by
  refine jMv.of hJ (by decide +kernel) rfl (Nat.le_of_ble_eq_true rfl) ?_
  intro p e s m args below meth c Q ls hC hret hl hP
  obtain ⟨hx, hb, hr, hml, hown, hts, hK, -, hlocks, hZ⟩ := hC
  have hown : s.vm.findClass RX12 = some m.cls := hown
  have hS : va_S (jA ad) s.heap s.heap [] := va_S.rf
  have hA : ∀ q, jA ad q → jA ad q := fun _ h => h
  have hl : lv_has ls 2 [(0, .ref (ad 55)), (1, .int 11)] := hl
  refine lv_aload_n hx hb dX12_begins_0 rfl (lv_at hl 0 rfl) ?_
  refine va_get (D := D) hx hb hts inlX12 hown hK hP 55 (jc_55 cI cL ad σ τ) rfl 55 (by decide) (hts _ kw_49_7) (fun _ h9 => h9) rfl dX12_begins_1 ?_
  refine jtopr h55_55 ?_
  refine lv_bipush (v := 24) hx hb dX12_begins_4 (by decide) ?_
  refine lv_icmp_ge (tgt := 19) hx hb dX12_begins_6 (by decide) (fun c => absurd c (by decide)) (fun _ => ?_)
  refine lv_aload_n hx hb dX12_begins_9 rfl (lv_at hl 0 rfl) ?_
  refine va_get (D := D) hx hb hts inlX12 hown hK hP 55 (jc_55 cI cL ad σ τ) rfl 54 (by decide) (hts _ kw_8_10) (fun _ h9 => h9) rfl dX12_begins_10 ?_
  refine lv_aload_n hx hb dX12_begins_13 rfl (lv_at hl 0 rfl) ?_
  refine va_get (D := D) hx hb hts inlX12 hown hK hP 55 (jc_55 cI cL ad σ τ) rfl 55 (by decide) (hts _ kw_49_7) (fun _ h9 => h9) rfl dX12_begins_14 ?_
  refine jtopr h55_55 ?_
  refine lv_iload_n hx hb dX12_begins_17 rfl (lv_at hl 1 rfl) ?_
  refine jast hx hb hK hP hJ hA hS (jc_85 cI cL ad σ τ) (ja_85 cI cL ad σ τ _ _) (jin jz_0 (by omega) (by omega)) dX12_begins_18 (fun σ1 H locs eσ1 hP hS => ?_)
  have eσ1 : σ1 = jup σ 85 0 11 := eσ1
  refine lv_aload_n hx hb dX12_begins_19 rfl (lv_at hl 0 rfl) ?_
  refine lv_dup hx hb dX12_begins_20 rfl ?_
  refine va_get (D := D) hx hb hts inlX12 hown hK hP 55 (jc_55 cI cL ad σ1 τ) rfl 55 (by decide) (hts _ kw_49_7) (fun _ h9 => h9) rfl dX12_begins_21 ?_
  have m2 : σ1 55 55 = 0 := ((congrFun (jnp 55 eσ1 (by decide)) 55).trans h55_55)
  refine jtopr m2 ?_
  refine lv_iconst (v := 1) hx hb dX12_begins_24 (by decide) ?_
  refine lv_iadd hx hb dX12_begins_25 ?_
  refine jtopr (y := 1) (by decide) ?_
  refine jput (ty := .int) hx hb hts inlX12 tyX12 tyX12_ok nmX12 hown hK hP hJ hA hS (jc_55 cI cL ad σ1 τ) rfl (k := 55) (by decide) (Nat.le_of_ble_eq_true rfl) (jp_55_55 cI cL ad σ1 τ 1) (hts _ kw_49_7) (fun _ h9 => h9) rfl (by decide +kernel) rfl rfl dX12_begins_26 (fun σ3 H locs eσ3 hP hS => ?_)
  have m4 : σ3 55 55 = 1 := (jsp eσ3)
  have m5 : σ3 85 0 = 11 := ((congrFun (jnp 85 eσ3 (by decide)) 0).trans (jsp eσ1))
  exact hret σ3 τ _ _ _ _ ⟨rfl, (fun i hi => ((jnp i eσ3 (imp_345 i hi)).trans (jnp i eσ1 (imp_346 i hi)))), (fun i hi => ((jkp i eσ3 (imp_164 i hi)).trans (congrFun (jnp 55 eσ1 (by decide)) i))), (fun i hi => ((congrFun (jnp 85 eσ3 (by decide)) i).trans (jkp i eσ1 (imp_4 i hi)))), m4, m5, trivial⟩ hP hS dX12_begins_29
set_option maxHeartbeats 4000000 in
set_option maxRecDepth 100000 in
theorem c_X12_givesAs_0_0_0 (l : Launch) (D : va_G) (cI cL : ClassId) (ad zz : Nat → Nat) (hJ : jD ad) (σ : Nat → Nat → Int32) (τ : Nat → Nat → Int64) (a2 : Int32) (A2 : Int) (t2 : a2.toInt = A2) (h55_55 : σ 55 55 = 0) (hp0 : (σ 55 56).toInt = 0) : jM l yX12_givesAs cX12_givesAs 4 (some .int) ({ frames := 1, cells := 0, slots := 0, locals := 21 }) D cI cL ad zz [.ref (ad 55), .int 0, .int a2] σ τ (fun r σ' τ' => τ = τ' ∧ (∀ i : Nat, (i < 55 ∨ 55 < i) ∧ (i < 85 ∨ 85 < i) → σ' i = σ i) ∧ (∀ k : Nat, (k < 55 ∨ 55 < k) → σ' 55 k = σ 55 k) ∧ (∀ k : Nat, (k < 0 ∨ 0 < k) → σ' 85 k = σ 85 k) ∧ (σ' 55 55 = 1) ∧ (σ' 85 0 = 11) ∧ ((r = (a2 ^^^ (σ 55 57)) ∧ True))) := by
  refine jM.of hJ (by decide +kernel) (nt := .int) rfl (Nat.le_of_ble_eq_true rfl) ?_
  intro p e s m args below meth c Q ls hC hret hl hP
  obtain ⟨hx, hb, hr, hml, hown, hts, hK, -, hlocks, hZ⟩ := hC
  have hown : s.vm.findClass RX12 = some m.cls := hown
  have hS : va_S (jA ad) s.heap s.heap [] := va_S.rf
  have hA : ∀ q, jA ad q → jA ad q := fun _ h => h
  have hl : lv_has ls 4 [(0, .ref (ad 55)), (1, .int 0), (2, .int a2)] := hl
  have g2 := jrg t2
  refine lv_iload_n hx hb dX12_givesAs_0 rfl (lv_at hl 1 rfl) ?_
  refine lv_iconst (v := 5) hx hb dX12_givesAs_1 (by decide) ?_
  refine lv_icmp_ne (tgt := 30) hx hb dX12_givesAs_2 (by decide) (fun _ => ?_) (fun c => absurd c (by decide))
  refine lv_iload_n hx hb dX12_givesAs_30 rfl (lv_at hl 1 rfl) ?_
  refine lv_iconst (v := 2) hx hb dX12_givesAs_31 (by decide) ?_
  refine lv_icmp_eq (tgt := 40) hx hb dX12_givesAs_32 (by decide) (fun c => absurd c (by decide)) (fun _ => ?_)
  refine lv_iload_n hx hb dX12_givesAs_35 rfl (lv_at hl 1 rfl) ?_
  refine lv_iconst (v := 3) hx hb dX12_givesAs_36 (by decide) ?_
  refine lv_icmp_ne (tgt := 55) hx hb dX12_givesAs_37 (by decide) (fun _ => ?_) (fun c => absurd c (by decide))
  refine lv_aload_n hx hb dX12_givesAs_55 rfl (lv_at hl 0 rfl) ?_
  refine lv_bipush (v := 11) hx hb dX12_givesAs_56 (by decide) ?_
  refine jcallVv (As := [.int 11]) (rest := []) ⟨hx, hb, hml, hown, hts⟩ hK hP hA hS hZ (c_X12_begins_11_0 l D cI cL ad zz hJ σ τ h55_55) cw_RX12_379 (jc_55 cI cL ad σ τ) rfl ⟨Nat.le_of_ble_eq_true rfl, Nat.le_of_ble_eq_true rfl⟩ rfl rfl rfl hl.1 rfl (Nat.le_of_ble_eq_true rfl) dX12_givesAs_58 ⟨Nat.zero_le _, Nat.zero_le _⟩ (fun σ1 τ1 H locs h1 hP hS => ?_)
  obtain ⟨rfl, f3, f4, f5, m6, m7, h1⟩ := h1
  refine lv_iload_n hx hb dX12_givesAs_61 rfl (lv_at hl 2 rfl) ?_
  refine lv_aload_n hx hb dX12_givesAs_62 rfl (lv_at hl 0 rfl) ?_
  refine va_get (D := D) hx hb hts inlX12 hown hK hP 55 (jc_55 cI cL ad σ1 τ) rfl 57 (by decide) (hts _ kw_49_9) (fun _ h9 => h9) rfl dX12_givesAs_63 ?_
  have m8 : σ1 55 57 = (σ 55 57) := (f4 57 (by decide))
  refine jtopr m8 ?_
  refine lv_ixor hx hb dX12_givesAs_66 ?_
  refine lv_topi (fun x9 ex9 => ?_)
  have gx9 := jrg (rfl : x9.toInt = x9.toInt)
  exact hret x9 σ1 τ _ _ _ _ rfl ⟨rfl, (fun i hi => (f3 i hi)), (fun i hi => (f4 i hi)), (fun i hi => (f5 i hi)), m6, m7, ⟨(by rw [ex9]), trivial⟩⟩ hP hS dX12_givesAs_67
set_option maxHeartbeats 4000000 in
set_option maxRecDepth 100000 in
theorem c_X12_begins_2_0 (l : Launch) (D : va_G) (cI cL : ClassId) (ad zz : Nat → Nat) (hJ : jD ad) (σ : Nat → Nat → Int32) (τ : Nat → Nat → Int64) (h55_55 : σ 55 55 = 0) : jMv l yX12_begins cX12_begins 2 none ({ frames := 0, cells := 0, slots := 0, locals := 0 }) D cI cL ad zz [.ref (ad 55), .int 2] σ τ (fun σ' τ' => τ = τ' ∧ (∀ i : Nat, (i < 55 ∨ 55 < i) ∧ (i < 85 ∨ 85 < i) → σ' i = σ i) ∧ (∀ k : Nat, (k < 55 ∨ 55 < k) → σ' 55 k = σ 55 k) ∧ (∀ k : Nat, (k < 0 ∨ 0 < k) → σ' 85 k = σ 85 k) ∧ (σ' 55 55 = 1) ∧ (σ' 85 0 = 2) ∧ True) := by
  refine jMv.of hJ (by decide +kernel) rfl (Nat.le_of_ble_eq_true rfl) ?_
  intro p e s m args below meth c Q ls hC hret hl hP
  obtain ⟨hx, hb, hr, hml, hown, hts, hK, -, hlocks, hZ⟩ := hC
  have hown : s.vm.findClass RX12 = some m.cls := hown
  have hS : va_S (jA ad) s.heap s.heap [] := va_S.rf
  have hA : ∀ q, jA ad q → jA ad q := fun _ h => h
  have hl : lv_has ls 2 [(0, .ref (ad 55)), (1, .int 2)] := hl
  refine lv_aload_n hx hb dX12_begins_0 rfl (lv_at hl 0 rfl) ?_
  refine va_get (D := D) hx hb hts inlX12 hown hK hP 55 (jc_55 cI cL ad σ τ) rfl 55 (by decide) (hts _ kw_49_7) (fun _ h9 => h9) rfl dX12_begins_1 ?_
  refine jtopr h55_55 ?_
  refine lv_bipush (v := 24) hx hb dX12_begins_4 (by decide) ?_
  refine lv_icmp_ge (tgt := 19) hx hb dX12_begins_6 (by decide) (fun c => absurd c (by decide)) (fun _ => ?_)
  refine lv_aload_n hx hb dX12_begins_9 rfl (lv_at hl 0 rfl) ?_
  refine va_get (D := D) hx hb hts inlX12 hown hK hP 55 (jc_55 cI cL ad σ τ) rfl 54 (by decide) (hts _ kw_8_10) (fun _ h9 => h9) rfl dX12_begins_10 ?_
  refine lv_aload_n hx hb dX12_begins_13 rfl (lv_at hl 0 rfl) ?_
  refine va_get (D := D) hx hb hts inlX12 hown hK hP 55 (jc_55 cI cL ad σ τ) rfl 55 (by decide) (hts _ kw_49_7) (fun _ h9 => h9) rfl dX12_begins_14 ?_
  refine jtopr h55_55 ?_
  refine lv_iload_n hx hb dX12_begins_17 rfl (lv_at hl 1 rfl) ?_
  refine jast hx hb hK hP hJ hA hS (jc_85 cI cL ad σ τ) (ja_85 cI cL ad σ τ _ _) (jin jz_0 (by omega) (by omega)) dX12_begins_18 (fun σ1 H locs eσ1 hP hS => ?_)
  have eσ1 : σ1 = jup σ 85 0 2 := eσ1
  refine lv_aload_n hx hb dX12_begins_19 rfl (lv_at hl 0 rfl) ?_
  refine lv_dup hx hb dX12_begins_20 rfl ?_
  refine va_get (D := D) hx hb hts inlX12 hown hK hP 55 (jc_55 cI cL ad σ1 τ) rfl 55 (by decide) (hts _ kw_49_7) (fun _ h9 => h9) rfl dX12_begins_21 ?_
  have m2 : σ1 55 55 = 0 := ((congrFun (jnp 55 eσ1 (by decide)) 55).trans h55_55)
  refine jtopr m2 ?_
  refine lv_iconst (v := 1) hx hb dX12_begins_24 (by decide) ?_
  refine lv_iadd hx hb dX12_begins_25 ?_
  refine jtopr (y := 1) (by decide) ?_
  refine jput (ty := .int) hx hb hts inlX12 tyX12 tyX12_ok nmX12 hown hK hP hJ hA hS (jc_55 cI cL ad σ1 τ) rfl (k := 55) (by decide) (Nat.le_of_ble_eq_true rfl) (jp_55_55 cI cL ad σ1 τ 1) (hts _ kw_49_7) (fun _ h9 => h9) rfl (by decide +kernel) rfl rfl dX12_begins_26 (fun σ3 H locs eσ3 hP hS => ?_)
  have m4 : σ3 55 55 = 1 := (jsp eσ3)
  have m5 : σ3 85 0 = 2 := ((congrFun (jnp 85 eσ3 (by decide)) 0).trans (jsp eσ1))
  exact hret σ3 τ _ _ _ _ ⟨rfl, (fun i hi => ((jnp i eσ3 (imp_345 i hi)).trans (jnp i eσ1 (imp_346 i hi)))), (fun i hi => ((jkp i eσ3 (imp_164 i hi)).trans (congrFun (jnp 55 eσ1 (by decide)) i))), (fun i hi => ((congrFun (jnp 85 eσ3 (by decide)) i).trans (jkp i eσ1 (imp_4 i hi)))), m4, m5, trivial⟩ hP hS dX12_begins_29
set_option maxHeartbeats 4000000 in
set_option maxRecDepth 100000 in
theorem c_X12_begins_10_1 (l : Launch) (D : va_G) (cI cL : ClassId) (ad zz : Nat → Nat) (hJ : jD ad) (σ : Nat → Nat → Int32) (τ : Nat → Nat → Int64) (h55_55 : σ 55 55 = 1) : jMv l yX12_begins cX12_begins 2 none ({ frames := 0, cells := 0, slots := 0, locals := 0 }) D cI cL ad zz [.ref (ad 55), .int 10] σ τ (fun σ' τ' => τ = τ' ∧ (∀ i : Nat, (i < 55 ∨ 55 < i) ∧ (i < 85 ∨ 85 < i) → σ' i = σ i) ∧ (∀ k : Nat, (k < 55 ∨ 55 < k) → σ' 55 k = σ 55 k) ∧ (∀ k : Nat, (k < 1 ∨ 1 < k) → σ' 85 k = σ 85 k) ∧ (σ' 55 55 = 2) ∧ (σ' 85 1 = 10) ∧ True) := by
  refine jMv.of hJ (by decide +kernel) rfl (Nat.le_of_ble_eq_true rfl) ?_
  intro p e s m args below meth c Q ls hC hret hl hP
  obtain ⟨hx, hb, hr, hml, hown, hts, hK, -, hlocks, hZ⟩ := hC
  have hown : s.vm.findClass RX12 = some m.cls := hown
  have hS : va_S (jA ad) s.heap s.heap [] := va_S.rf
  have hA : ∀ q, jA ad q → jA ad q := fun _ h => h
  have hl : lv_has ls 2 [(0, .ref (ad 55)), (1, .int 10)] := hl
  refine lv_aload_n hx hb dX12_begins_0 rfl (lv_at hl 0 rfl) ?_
  refine va_get (D := D) hx hb hts inlX12 hown hK hP 55 (jc_55 cI cL ad σ τ) rfl 55 (by decide) (hts _ kw_49_7) (fun _ h9 => h9) rfl dX12_begins_1 ?_
  refine jtopr h55_55 ?_
  refine lv_bipush (v := 24) hx hb dX12_begins_4 (by decide) ?_
  refine lv_icmp_ge (tgt := 19) hx hb dX12_begins_6 (by decide) (fun c => absurd c (by decide)) (fun _ => ?_)
  refine lv_aload_n hx hb dX12_begins_9 rfl (lv_at hl 0 rfl) ?_
  refine va_get (D := D) hx hb hts inlX12 hown hK hP 55 (jc_55 cI cL ad σ τ) rfl 54 (by decide) (hts _ kw_8_10) (fun _ h9 => h9) rfl dX12_begins_10 ?_
  refine lv_aload_n hx hb dX12_begins_13 rfl (lv_at hl 0 rfl) ?_
  refine va_get (D := D) hx hb hts inlX12 hown hK hP 55 (jc_55 cI cL ad σ τ) rfl 55 (by decide) (hts _ kw_49_7) (fun _ h9 => h9) rfl dX12_begins_14 ?_
  refine jtopr h55_55 ?_
  refine lv_iload_n hx hb dX12_begins_17 rfl (lv_at hl 1 rfl) ?_
  refine jast hx hb hK hP hJ hA hS (jc_85 cI cL ad σ τ) (ja_85 cI cL ad σ τ _ _) (jin jz_1 (by omega) (by omega)) dX12_begins_18 (fun σ1 H locs eσ1 hP hS => ?_)
  have eσ1 : σ1 = jup σ 85 1 10 := eσ1
  refine lv_aload_n hx hb dX12_begins_19 rfl (lv_at hl 0 rfl) ?_
  refine lv_dup hx hb dX12_begins_20 rfl ?_
  refine va_get (D := D) hx hb hts inlX12 hown hK hP 55 (jc_55 cI cL ad σ1 τ) rfl 55 (by decide) (hts _ kw_49_7) (fun _ h9 => h9) rfl dX12_begins_21 ?_
  have m2 : σ1 55 55 = 1 := ((congrFun (jnp 55 eσ1 (by decide)) 55).trans h55_55)
  refine jtopr m2 ?_
  refine lv_iconst (v := 1) hx hb dX12_begins_24 (by decide) ?_
  refine lv_iadd hx hb dX12_begins_25 ?_
  refine jtopr (y := 2) (by decide) ?_
  refine jput (ty := .int) hx hb hts inlX12 tyX12 tyX12_ok nmX12 hown hK hP hJ hA hS (jc_55 cI cL ad σ1 τ) rfl (k := 55) (by decide) (Nat.le_of_ble_eq_true rfl) (jp_55_55 cI cL ad σ1 τ 2) (hts _ kw_49_7) (fun _ h9 => h9) rfl (by decide +kernel) rfl rfl dX12_begins_26 (fun σ3 H locs eσ3 hP hS => ?_)
  have m4 : σ3 55 55 = 2 := (jsp eσ3)
  have m5 : σ3 85 1 = 10 := ((congrFun (jnp 85 eσ3 (by decide)) 1).trans (jsp eσ1))
  exact hret σ3 τ _ _ _ _ ⟨rfl, (fun i hi => ((jnp i eσ3 (imp_345 i hi)).trans (jnp i eσ1 (imp_346 i hi)))), (fun i hi => ((jkp i eσ3 (imp_164 i hi)).trans (congrFun (jnp 55 eσ1 (by decide)) i))), (fun i hi => ((congrFun (jnp 85 eσ3 (by decide)) i).trans (jkp i eσ1 (imp_42 i hi)))), m4, m5, trivial⟩ hP hS dX12_begins_29
set_option maxHeartbeats 4000000 in
set_option maxRecDepth 100000 in
theorem c_X12_begins_1_2 (l : Launch) (D : va_G) (cI cL : ClassId) (ad zz : Nat → Nat) (hJ : jD ad) (σ : Nat → Nat → Int32) (τ : Nat → Nat → Int64) (h55_55 : σ 55 55 = 2) : jMv l yX12_begins cX12_begins 2 none ({ frames := 0, cells := 0, slots := 0, locals := 0 }) D cI cL ad zz [.ref (ad 55), .int 1] σ τ (fun σ' τ' => τ = τ' ∧ (∀ i : Nat, (i < 55 ∨ 55 < i) ∧ (i < 85 ∨ 85 < i) → σ' i = σ i) ∧ (∀ k : Nat, (k < 55 ∨ 55 < k) → σ' 55 k = σ 55 k) ∧ (∀ k : Nat, (k < 2 ∨ 2 < k) → σ' 85 k = σ 85 k) ∧ (σ' 55 55 = 3) ∧ (σ' 85 2 = 1) ∧ True) := by
  refine jMv.of hJ (by decide +kernel) rfl (Nat.le_of_ble_eq_true rfl) ?_
  intro p e s m args below meth c Q ls hC hret hl hP
  obtain ⟨hx, hb, hr, hml, hown, hts, hK, -, hlocks, hZ⟩ := hC
  have hown : s.vm.findClass RX12 = some m.cls := hown
  have hS : va_S (jA ad) s.heap s.heap [] := va_S.rf
  have hA : ∀ q, jA ad q → jA ad q := fun _ h => h
  have hl : lv_has ls 2 [(0, .ref (ad 55)), (1, .int 1)] := hl
  refine lv_aload_n hx hb dX12_begins_0 rfl (lv_at hl 0 rfl) ?_
  refine va_get (D := D) hx hb hts inlX12 hown hK hP 55 (jc_55 cI cL ad σ τ) rfl 55 (by decide) (hts _ kw_49_7) (fun _ h9 => h9) rfl dX12_begins_1 ?_
  refine jtopr h55_55 ?_
  refine lv_bipush (v := 24) hx hb dX12_begins_4 (by decide) ?_
  refine lv_icmp_ge (tgt := 19) hx hb dX12_begins_6 (by decide) (fun c => absurd c (by decide)) (fun _ => ?_)
  refine lv_aload_n hx hb dX12_begins_9 rfl (lv_at hl 0 rfl) ?_
  refine va_get (D := D) hx hb hts inlX12 hown hK hP 55 (jc_55 cI cL ad σ τ) rfl 54 (by decide) (hts _ kw_8_10) (fun _ h9 => h9) rfl dX12_begins_10 ?_
  refine lv_aload_n hx hb dX12_begins_13 rfl (lv_at hl 0 rfl) ?_
  refine va_get (D := D) hx hb hts inlX12 hown hK hP 55 (jc_55 cI cL ad σ τ) rfl 55 (by decide) (hts _ kw_49_7) (fun _ h9 => h9) rfl dX12_begins_14 ?_
  refine jtopr h55_55 ?_
  refine lv_iload_n hx hb dX12_begins_17 rfl (lv_at hl 1 rfl) ?_
  refine jast hx hb hK hP hJ hA hS (jc_85 cI cL ad σ τ) (ja_85 cI cL ad σ τ _ _) (jin jz_2 (by omega) (by omega)) dX12_begins_18 (fun σ1 H locs eσ1 hP hS => ?_)
  have eσ1 : σ1 = jup σ 85 2 1 := eσ1
  refine lv_aload_n hx hb dX12_begins_19 rfl (lv_at hl 0 rfl) ?_
  refine lv_dup hx hb dX12_begins_20 rfl ?_
  refine va_get (D := D) hx hb hts inlX12 hown hK hP 55 (jc_55 cI cL ad σ1 τ) rfl 55 (by decide) (hts _ kw_49_7) (fun _ h9 => h9) rfl dX12_begins_21 ?_
  have m2 : σ1 55 55 = 2 := ((congrFun (jnp 55 eσ1 (by decide)) 55).trans h55_55)
  refine jtopr m2 ?_
  refine lv_iconst (v := 1) hx hb dX12_begins_24 (by decide) ?_
  refine lv_iadd hx hb dX12_begins_25 ?_
  refine jtopr (y := 3) (by decide) ?_
  refine jput (ty := .int) hx hb hts inlX12 tyX12 tyX12_ok nmX12 hown hK hP hJ hA hS (jc_55 cI cL ad σ1 τ) rfl (k := 55) (by decide) (Nat.le_of_ble_eq_true rfl) (jp_55_55 cI cL ad σ1 τ 3) (hts _ kw_49_7) (fun _ h9 => h9) rfl (by decide +kernel) rfl rfl dX12_begins_26 (fun σ3 H locs eσ3 hP hS => ?_)
  have m4 : σ3 55 55 = 3 := (jsp eσ3)
  have m5 : σ3 85 2 = 1 := ((congrFun (jnp 85 eσ3 (by decide)) 2).trans (jsp eσ1))
  exact hret σ3 τ _ _ _ _ ⟨rfl, (fun i hi => ((jnp i eσ3 (imp_345 i hi)).trans (jnp i eσ1 (imp_346 i hi)))), (fun i hi => ((jkp i eσ3 (imp_164 i hi)).trans (congrFun (jnp 55 eσ1 (by decide)) i))), (fun i hi => ((congrFun (jnp 85 eσ3 (by decide)) i).trans (jkp i eσ1 (imp_7 i hi)))), m4, m5, trivial⟩ hP hS dX12_begins_29
set_option maxHeartbeats 4000000 in
set_option maxRecDepth 100000 in
theorem c_X12_putsAs_0_0_2 (l : Launch) (D : va_G) (cI cL : ClassId) (ad zz : Nat → Nat) (hJ : jD ad) (σ : Nat → Nat → Int32) (τ : Nat → Nat → Int64) (a2 : Int32) (A2 : Int) (t2 : a2.toInt = A2) (h55_55 : σ 55 55 = 2) (hp0 : (σ 55 56).toInt = 0) : jM l yX12_putsAs cX12_putsAs 3 (some .int) ({ frames := 1, cells := 0, slots := 0, locals := 21 }) D cI cL ad zz [.ref (ad 55), .int 0, .int a2] σ τ (fun r σ' τ' => τ = τ' ∧ (∀ i : Nat, (i < 55 ∨ 55 < i) ∧ (i < 85 ∨ 85 < i) → σ' i = σ i) ∧ (∀ k : Nat, (k < 55 ∨ 55 < k) → σ' 55 k = σ 55 k) ∧ (∀ k : Nat, (k < 2 ∨ 2 < k) → σ' 85 k = σ 85 k) ∧ (σ' 55 55 = 3) ∧ (σ' 85 2 = 1) ∧ ((r = (a2 + (σ 55 57)) ∧ True))) := by
  refine jM.of hJ (by decide +kernel) (nt := .int) rfl (Nat.le_of_ble_eq_true rfl) ?_
  intro p e s m args below meth c Q ls hC hret hl hP
  obtain ⟨hx, hb, hr, hml, hown, hts, hK, -, hlocks, hZ⟩ := hC
  have hown : s.vm.findClass RX12 = some m.cls := hown
  have hS : va_S (jA ad) s.heap s.heap [] := va_S.rf
  have hA : ∀ q, jA ad q → jA ad q := fun _ h => h
  have hl : lv_has ls 3 [(0, .ref (ad 55)), (1, .int 0), (2, .int a2)] := hl
  have g2 := jrg t2
  refine lv_iload_n hx hb dX12_putsAs_0 rfl (lv_at hl 1 rfl) ?_
  refine lv_iconst (v := 4) hx hb dX12_putsAs_1 (by decide) ?_
  refine lv_icmp_ne (tgt := 20) hx hb dX12_putsAs_2 (by decide) (fun _ => ?_) (fun c => absurd c (by decide))
  refine lv_iload_n hx hb dX12_putsAs_20 rfl (lv_at hl 1 rfl) ?_
  refine lv_iconst (v := 1) hx hb dX12_putsAs_21 (by decide) ?_
  refine lv_icmp_ne (tgt := 40) hx hb dX12_putsAs_22 (by decide) (fun _ => ?_) (fun c => absurd c (by decide))
  refine lv_aload_n hx hb dX12_putsAs_40 rfl (lv_at hl 0 rfl) ?_
  refine lv_iconst (v := 1) hx hb dX12_putsAs_41 (by decide) ?_
  refine jcallVv (As := [.int 1]) (rest := []) ⟨hx, hb, hml, hown, hts⟩ hK hP hA hS hZ (c_X12_begins_1_2 l D cI cL ad zz hJ σ τ h55_55) cw_RX12_379 (jc_55 cI cL ad σ τ) rfl ⟨Nat.le_of_ble_eq_true rfl, Nat.le_of_ble_eq_true rfl⟩ rfl rfl rfl hl.1 rfl (Nat.le_of_ble_eq_true rfl) dX12_putsAs_42 ⟨Nat.zero_le _, Nat.zero_le _⟩ (fun σ1 τ1 H locs h1 hP hS => ?_)
  obtain ⟨rfl, f3, f4, f5, m6, m7, h1⟩ := h1
  refine lv_iload_n hx hb dX12_putsAs_45 rfl (lv_at hl 2 rfl) ?_
  refine lv_aload_n hx hb dX12_putsAs_46 rfl (lv_at hl 0 rfl) ?_
  refine va_get (D := D) hx hb hts inlX12 hown hK hP 55 (jc_55 cI cL ad σ1 τ) rfl 57 (by decide) (hts _ kw_49_9) (fun _ h9 => h9) rfl dX12_putsAs_47 ?_
  have m8 : σ1 55 57 = (σ 55 57) := (f4 57 (by decide))
  refine jtopr m8 ?_
  have g9 := jrg (rfl : (σ 55 57).toInt = (σ 55 57).toInt)
  refine lv_iadd hx hb dX12_putsAs_50 ?_
  refine lv_topi (fun x10 ex10 => ?_)
  have gx10 := jrg (rfl : x10.toInt = x10.toInt)
  exact hret x10 σ1 τ _ _ _ _ rfl ⟨rfl, (fun i hi => (f3 i hi)), (fun i hi => (f4 i hi)), (fun i hi => (f5 i hi)), m6, m7, ⟨(by rw [ex10]), trivial⟩⟩ hP hS dX12_putsAs_51
set_option maxHeartbeats 4000000 in
set_option maxRecDepth 100000 in
theorem c_X12_holdsAs_0_0_1 (l : Launch) (D : va_G) (cI cL : ClassId) (ad zz : Nat → Nat) (hJ : jD ad) (σ : Nat → Nat → Int32) (τ : Nat → Nat → Int64) (a2 : Int32) (A2 : Int) (t2 : a2.toInt = A2) (h55_55 : σ 55 55 = 1) (hp0 : (σ 55 56).toInt = 0) : jM l yX12_holdsAs cX12_holdsAs 4 (some .int) ({ frames := 2, cells := 0, slots := 0, locals := 43 }) D cI cL ad zz [.ref (ad 55), .int 0, .int a2] σ τ (fun r σ' τ' => τ = τ' ∧ (∀ i : Nat, (i < 55 ∨ 55 < i) ∧ (i < 85 ∨ 85 < i) → σ' i = σ i) ∧ (∀ k : Nat, (k < 55 ∨ 55 < k) → σ' 55 k = σ 55 k) ∧ (∀ k : Nat, (k < 1 ∨ 1 < k) ∧ (k < 2 ∨ 2 < k) → σ' 85 k = σ 85 k) ∧ (σ' 55 55 = 3) ∧ (σ' 85 1 = 10) ∧ (σ' 85 2 = 1) ∧ ((r = ((a2 + (σ 55 57)) * 2) ∧ True))) := by
  refine jM.of hJ (by decide +kernel) (nt := .int) rfl (Nat.le_of_ble_eq_true rfl) ?_
  intro p e s m args below meth c Q ls hC hret hl hP
  obtain ⟨hx, hb, hr, hml, hown, hts, hK, -, hlocks, hZ⟩ := hC
  have hown : s.vm.findClass RX12 = some m.cls := hown
  have hS : va_S (jA ad) s.heap s.heap [] := va_S.rf
  have hA : ∀ q, jA ad q → jA ad q := fun _ h => h
  have hl : lv_has ls 4 [(0, .ref (ad 55)), (1, .int 0), (2, .int a2)] := hl
  have g2 := jrg t2
  refine lv_iload_n hx hb dX12_holdsAs_0 rfl (lv_at hl 1 rfl) ?_
  refine lv_iconst (v := 3) hx hb dX12_holdsAs_1 (by decide) ?_
  refine lv_icmp_eq (tgt := 10) hx hb dX12_holdsAs_2 (by decide) (fun c => absurd c (by decide)) (fun _ => ?_)
  refine lv_iload_n hx hb dX12_holdsAs_5 rfl (lv_at hl 1 rfl) ?_
  refine lv_iconst (v := 5) hx hb dX12_holdsAs_6 (by decide) ?_
  refine lv_icmp_ne (tgt := 24) hx hb dX12_holdsAs_7 (by decide) (fun _ => ?_) (fun c => absurd c (by decide))
  refine lv_iload_n hx hb dX12_holdsAs_24 rfl (lv_at hl 1 rfl) ?_
  refine lv_bipush (v := 6) hx hb dX12_holdsAs_25 (by decide) ?_
  refine lv_icmp_ne (tgt := 55) hx hb dX12_holdsAs_27 (by decide) (fun _ => ?_) (fun c => absurd c (by decide))
  refine lv_aload_n hx hb dX12_holdsAs_55 rfl (lv_at hl 0 rfl) ?_
  refine lv_bipush (v := 10) hx hb dX12_holdsAs_56 (by decide) ?_
  refine jcallVv (As := [.int 10]) (rest := []) ⟨hx, hb, hml, hown, hts⟩ hK hP hA hS hZ (c_X12_begins_10_1 l D cI cL ad zz hJ σ τ h55_55) cw_RX12_379 (jc_55 cI cL ad σ τ) rfl ⟨Nat.le_of_ble_eq_true rfl, Nat.le_of_ble_eq_true rfl⟩ rfl rfl rfl hl.1 rfl (Nat.le_of_ble_eq_true rfl) dX12_holdsAs_58 ⟨Nat.zero_le _, Nat.zero_le _⟩ (fun σ1 τ1 H locs h1 hP hS => ?_)
  obtain ⟨rfl, f3, f4, f5, m6, m7, h1⟩ := h1
  refine lv_aload_n hx hb dX12_holdsAs_61 rfl (lv_at hl 0 rfl) ?_
  refine lv_aload_n hx hb dX12_holdsAs_62 rfl (lv_at hl 0 rfl) ?_
  refine va_get (D := D) hx hb hts inlX12 hown hK hP 55 (jc_55 cI cL ad σ1 τ) rfl 56 (by decide) (hts _ kw_49_8) (fun _ h9 => h9) rfl dX12_holdsAs_63 ?_
  have m8 : σ1 55 56 = (σ 55 56) := (f4 56 (by decide))
  refine jtopr m8 ?_
  refine jtopr (jsame (rfl : (σ 55 56).toInt = (σ 55 56).toInt) jz_0 (by omega)) ?_
  refine lv_iload_n hx hb dX12_holdsAs_66 rfl (lv_at hl 2 rfl) ?_
  have z9 : (σ1 55 56).toInt = (σ 55 56).toInt := (congrArg Int32.toInt (show σ1 55 56 = (σ 55 56) from m8))
  refine jcallV (As := [.int 0, .int a2]) (rest := []) ⟨hx, hb, hml, hown, hts⟩ hK hP hA hS hZ (c_X12_putsAs_0_0_2 l D cI cL ad zz hJ σ1 τ a2 (A2) t2 m6 (by omega)) cw_RX12_382 (jc_55 cI cL ad σ1 τ) rfl ⟨Nat.le_of_ble_eq_true rfl, Nat.le_of_ble_eq_true rfl⟩ rfl rfl rfl hl.1 rfl (Nat.le_of_ble_eq_true rfl) dX12_holdsAs_67 ⟨Nat.zero_le _, Nat.zero_le _⟩ (fun r11 σ10 τ10 H locs h10 hP hS => ?_)
  obtain ⟨rfl, f12, f13, f14, m15, m16, h10⟩ := h10
  have h17 := h10
  obtain ⟨q19, k18⟩ := h17
  have q19 := q19.symm
  subst q19
  refine lv_iconst (v := 2) hx hb dX12_holdsAs_70 (by decide) ?_
  have g20 := jrg (rfl : (a2 + (σ1 55 57)).toInt = (a2 + (σ1 55 57)).toInt)
  refine lv_imul hx hb dX12_holdsAs_71 ?_
  refine lv_topi (fun x21 ex21 => ?_)
  have gx21 := jrg (rfl : x21.toInt = x21.toInt)
  have m22 : σ10 85 1 = 10 := ((f14 1 (by decide)).trans m7)
  exact hret x21 σ10 τ _ _ _ _ rfl ⟨rfl, (fun i hi => ((f12 i hi).trans (f3 i hi))), (fun i hi => ((f13 i hi).trans (f4 i hi))), (fun i hi => ((f14 i (imp_43 i hi)).trans (f5 i (imp_60 i hi)))), m15, m22, m16, ⟨(by rw [ex21, (show σ1 55 57 = σ 55 57 from (f4 57 (by decide)))]), trivial⟩⟩ hP hS dX12_holdsAs_72
set_option maxHeartbeats 4000000 in
set_option maxRecDepth 100000 in
theorem c_X12_begins_11_3 (l : Launch) (D : va_G) (cI cL : ClassId) (ad zz : Nat → Nat) (hJ : jD ad) (σ : Nat → Nat → Int32) (τ : Nat → Nat → Int64) (h55_55 : σ 55 55 = 3) : jMv l yX12_begins cX12_begins 2 none ({ frames := 0, cells := 0, slots := 0, locals := 0 }) D cI cL ad zz [.ref (ad 55), .int 11] σ τ (fun σ' τ' => τ = τ' ∧ (∀ i : Nat, (i < 55 ∨ 55 < i) ∧ (i < 85 ∨ 85 < i) → σ' i = σ i) ∧ (∀ k : Nat, (k < 55 ∨ 55 < k) → σ' 55 k = σ 55 k) ∧ (∀ k : Nat, (k < 3 ∨ 3 < k) → σ' 85 k = σ 85 k) ∧ (σ' 55 55 = 4) ∧ (σ' 85 3 = 11) ∧ True) := by
  refine jMv.of hJ (by decide +kernel) rfl (Nat.le_of_ble_eq_true rfl) ?_
  intro p e s m args below meth c Q ls hC hret hl hP
  obtain ⟨hx, hb, hr, hml, hown, hts, hK, -, hlocks, hZ⟩ := hC
  have hown : s.vm.findClass RX12 = some m.cls := hown
  have hS : va_S (jA ad) s.heap s.heap [] := va_S.rf
  have hA : ∀ q, jA ad q → jA ad q := fun _ h => h
  have hl : lv_has ls 2 [(0, .ref (ad 55)), (1, .int 11)] := hl
  refine lv_aload_n hx hb dX12_begins_0 rfl (lv_at hl 0 rfl) ?_
  refine va_get (D := D) hx hb hts inlX12 hown hK hP 55 (jc_55 cI cL ad σ τ) rfl 55 (by decide) (hts _ kw_49_7) (fun _ h9 => h9) rfl dX12_begins_1 ?_
  refine jtopr h55_55 ?_
  refine lv_bipush (v := 24) hx hb dX12_begins_4 (by decide) ?_
  refine lv_icmp_ge (tgt := 19) hx hb dX12_begins_6 (by decide) (fun c => absurd c (by decide)) (fun _ => ?_)
  refine lv_aload_n hx hb dX12_begins_9 rfl (lv_at hl 0 rfl) ?_
  refine va_get (D := D) hx hb hts inlX12 hown hK hP 55 (jc_55 cI cL ad σ τ) rfl 54 (by decide) (hts _ kw_8_10) (fun _ h9 => h9) rfl dX12_begins_10 ?_
  refine lv_aload_n hx hb dX12_begins_13 rfl (lv_at hl 0 rfl) ?_
  refine va_get (D := D) hx hb hts inlX12 hown hK hP 55 (jc_55 cI cL ad σ τ) rfl 55 (by decide) (hts _ kw_49_7) (fun _ h9 => h9) rfl dX12_begins_14 ?_
  refine jtopr h55_55 ?_
  refine lv_iload_n hx hb dX12_begins_17 rfl (lv_at hl 1 rfl) ?_
  refine jast hx hb hK hP hJ hA hS (jc_85 cI cL ad σ τ) (ja_85 cI cL ad σ τ _ _) (jin jz_3 (by omega) (by omega)) dX12_begins_18 (fun σ1 H locs eσ1 hP hS => ?_)
  have eσ1 : σ1 = jup σ 85 3 11 := eσ1
  refine lv_aload_n hx hb dX12_begins_19 rfl (lv_at hl 0 rfl) ?_
  refine lv_dup hx hb dX12_begins_20 rfl ?_
  refine va_get (D := D) hx hb hts inlX12 hown hK hP 55 (jc_55 cI cL ad σ1 τ) rfl 55 (by decide) (hts _ kw_49_7) (fun _ h9 => h9) rfl dX12_begins_21 ?_
  have m2 : σ1 55 55 = 3 := ((congrFun (jnp 55 eσ1 (by decide)) 55).trans h55_55)
  refine jtopr m2 ?_
  refine lv_iconst (v := 1) hx hb dX12_begins_24 (by decide) ?_
  refine lv_iadd hx hb dX12_begins_25 ?_
  refine jtopr (y := 4) (by decide) ?_
  refine jput (ty := .int) hx hb hts inlX12 tyX12 tyX12_ok nmX12 hown hK hP hJ hA hS (jc_55 cI cL ad σ1 τ) rfl (k := 55) (by decide) (Nat.le_of_ble_eq_true rfl) (jp_55_55 cI cL ad σ1 τ 4) (hts _ kw_49_7) (fun _ h9 => h9) rfl (by decide +kernel) rfl rfl dX12_begins_26 (fun σ3 H locs eσ3 hP hS => ?_)
  have m4 : σ3 55 55 = 4 := (jsp eσ3)
  have m5 : σ3 85 3 = 11 := ((congrFun (jnp 85 eσ3 (by decide)) 3).trans (jsp eσ1))
  exact hret σ3 τ _ _ _ _ ⟨rfl, (fun i hi => ((jnp i eσ3 (imp_345 i hi)).trans (jnp i eσ1 (imp_346 i hi)))), (fun i hi => ((jkp i eσ3 (imp_164 i hi)).trans (congrFun (jnp 55 eσ1 (by decide)) i))), (fun i hi => ((congrFun (jnp 85 eσ3 (by decide)) i).trans (jkp i eσ1 (imp_303 i hi)))), m4, m5, trivial⟩ hP hS dX12_begins_29
set_option maxHeartbeats 4000000 in
set_option maxRecDepth 100000 in
theorem c_X12_givesAs_0_0_3_x1 (l : Launch) (D : va_G) (cI cL : ClassId) (ad zz : Nat → Nat) (hJ : jD ad) (σ : Nat → Nat → Int32) (τ : Nat → Nat → Int64) (h55_55 : σ 55 55 = 3) (hp0 : (σ 55 56).toInt = 0) : jM l yX12_givesAs cX12_givesAs 4 (some .int) ({ frames := 1, cells := 0, slots := 0, locals := 21 }) D cI cL ad zz [.ref (ad 55), .int 0, .int 1] σ τ (fun r σ' τ' => τ = τ' ∧ (∀ i : Nat, (i < 55 ∨ 55 < i) ∧ (i < 85 ∨ 85 < i) → σ' i = σ i) ∧ (∀ k : Nat, (k < 55 ∨ 55 < k) → σ' 55 k = σ 55 k) ∧ (∀ k : Nat, (k < 3 ∨ 3 < k) → σ' 85 k = σ 85 k) ∧ (σ' 55 55 = 4) ∧ (σ' 85 3 = 11) ∧ ((r = (1 ^^^ (σ 55 57)) ∧ True))) := by
  refine jM.of hJ (by decide +kernel) (nt := .int) rfl (Nat.le_of_ble_eq_true rfl) ?_
  intro p e s m args below meth c Q ls hC hret hl hP
  obtain ⟨hx, hb, hr, hml, hown, hts, hK, -, hlocks, hZ⟩ := hC
  have hown : s.vm.findClass RX12 = some m.cls := hown
  have hS : va_S (jA ad) s.heap s.heap [] := va_S.rf
  have hA : ∀ q, jA ad q → jA ad q := fun _ h => h
  have hl : lv_has ls 4 [(0, .ref (ad 55)), (1, .int 0), (2, .int 1)] := hl
  refine lv_iload_n hx hb dX12_givesAs_0 rfl (lv_at hl 1 rfl) ?_
  refine lv_iconst (v := 5) hx hb dX12_givesAs_1 (by decide) ?_
  refine lv_icmp_ne (tgt := 30) hx hb dX12_givesAs_2 (by decide) (fun _ => ?_) (fun c => absurd c (by decide))
  refine lv_iload_n hx hb dX12_givesAs_30 rfl (lv_at hl 1 rfl) ?_
  refine lv_iconst (v := 2) hx hb dX12_givesAs_31 (by decide) ?_
  refine lv_icmp_eq (tgt := 40) hx hb dX12_givesAs_32 (by decide) (fun c => absurd c (by decide)) (fun _ => ?_)
  refine lv_iload_n hx hb dX12_givesAs_35 rfl (lv_at hl 1 rfl) ?_
  refine lv_iconst (v := 3) hx hb dX12_givesAs_36 (by decide) ?_
  refine lv_icmp_ne (tgt := 55) hx hb dX12_givesAs_37 (by decide) (fun _ => ?_) (fun c => absurd c (by decide))
  refine lv_aload_n hx hb dX12_givesAs_55 rfl (lv_at hl 0 rfl) ?_
  refine lv_bipush (v := 11) hx hb dX12_givesAs_56 (by decide) ?_
  refine jcallVv (As := [.int 11]) (rest := []) ⟨hx, hb, hml, hown, hts⟩ hK hP hA hS hZ (c_X12_begins_11_3 l D cI cL ad zz hJ σ τ h55_55) cw_RX12_379 (jc_55 cI cL ad σ τ) rfl ⟨Nat.le_of_ble_eq_true rfl, Nat.le_of_ble_eq_true rfl⟩ rfl rfl rfl hl.1 rfl (Nat.le_of_ble_eq_true rfl) dX12_givesAs_58 ⟨Nat.zero_le _, Nat.zero_le _⟩ (fun σ1 τ1 H locs h1 hP hS => ?_)
  obtain ⟨rfl, f3, f4, f5, m6, m7, h1⟩ := h1
  refine lv_iload_n hx hb dX12_givesAs_61 rfl (lv_at hl 2 rfl) ?_
  refine lv_aload_n hx hb dX12_givesAs_62 rfl (lv_at hl 0 rfl) ?_
  refine va_get (D := D) hx hb hts inlX12 hown hK hP 55 (jc_55 cI cL ad σ1 τ) rfl 57 (by decide) (hts _ kw_49_9) (fun _ h9 => h9) rfl dX12_givesAs_63 ?_
  have m8 : σ1 55 57 = (σ 55 57) := (f4 57 (by decide))
  refine jtopr m8 ?_
  refine lv_ixor hx hb dX12_givesAs_66 ?_
  refine lv_topi (fun x9 ex9 => ?_)
  have gx9 := jrg (rfl : x9.toInt = x9.toInt)
  exact hret x9 σ1 τ _ _ _ _ rfl ⟨rfl, (fun i hi => (f3 i hi)), (fun i hi => (f4 i hi)), (fun i hi => (f5 i hi)), m6, m7, ⟨(by rw [ex9]), trivial⟩⟩ hP hS dX12_givesAs_67
set_option maxHeartbeats 4000000 in
set_option maxRecDepth 100000 in
theorem c_X12_tellsAs_0_0_0 (l : Launch) (D : va_G) (cI cL : ClassId) (ad zz : Nat → Nat) (hJ : jD ad) (σ : Nat → Nat → Int32) (τ : Nat → Nat → Int64) (a2 : Int32) (A2 : Int) (t2 : a2.toInt = A2) (h55_55 : σ 55 55 = 0) (hp0 : (σ 55 56).toInt = 0) : jM l yX12_tellsAs cX12_tellsAs 4 (some .int) ({ frames := 3, cells := 0, slots := 0, locals := 66 }) D cI cL ad zz [.ref (ad 55), .int 0, .int a2] σ τ (fun r σ' τ' => τ = τ' ∧ (∀ i : Nat, (i < 55 ∨ 55 < i) ∧ (i < 85 ∨ 85 < i) → σ' i = σ i) ∧ (∀ k : Nat, (k < 55 ∨ 55 < k) → σ' 55 k = σ 55 k) ∧ (∀ k : Nat, (k < 0 ∨ 0 < k) ∧ (k < 1 ∨ 1 < k) ∧ (k < 2 ∨ 2 < k) ∧ (k < 3 ∨ 3 < k) → σ' 85 k = σ 85 k) ∧ (σ' 55 55 = 4) ∧ (σ' 85 0 = 2) ∧ (σ' 85 1 = 10) ∧ (σ' 85 2 = 1) ∧ (σ' 85 3 = 11) ∧ ((r = (((a2 + (σ 55 57)) * 2) - (1 ^^^ (σ 55 57))) ∧ True))) := by
  refine jM.of hJ (by decide +kernel) (nt := .int) rfl (Nat.le_of_ble_eq_true rfl) ?_
  intro p e s m args below meth c Q ls hC hret hl hP
  obtain ⟨hx, hb, hr, hml, hown, hts, hK, -, hlocks, hZ⟩ := hC
  have hown : s.vm.findClass RX12 = some m.cls := hown
  have hS : va_S (jA ad) s.heap s.heap [] := va_S.rf
  have hA : ∀ q, jA ad q → jA ad q := fun _ h => h
  have hl : lv_has ls 4 [(0, .ref (ad 55)), (1, .int 0), (2, .int a2)] := hl
  have g2 := jrg t2
  refine lv_iload_n hx hb dX12_tellsAs_0 rfl (lv_at hl 1 rfl) ?_
  refine lv_iconst (v := 4) hx hb dX12_tellsAs_1 (by decide) ?_
  refine lv_icmp_ne (tgt := 20) hx hb dX12_tellsAs_2 (by decide) (fun _ => ?_) (fun c => absurd c (by decide))
  refine lv_aload_n hx hb dX12_tellsAs_20 rfl (lv_at hl 0 rfl) ?_
  refine lv_iconst (v := 2) hx hb dX12_tellsAs_21 (by decide) ?_
  refine jcallVv (As := [.int 2]) (rest := []) ⟨hx, hb, hml, hown, hts⟩ hK hP hA hS hZ (c_X12_begins_2_0 l D cI cL ad zz hJ σ τ h55_55) cw_RX12_379 (jc_55 cI cL ad σ τ) rfl ⟨Nat.le_of_ble_eq_true rfl, Nat.le_of_ble_eq_true rfl⟩ rfl rfl rfl hl.1 rfl (Nat.le_of_ble_eq_true rfl) dX12_tellsAs_22 ⟨Nat.zero_le _, Nat.zero_le _⟩ (fun σ1 τ1 H locs h1 hP hS => ?_)
  obtain ⟨rfl, f3, f4, f5, m6, m7, h1⟩ := h1
  refine lv_aload_n hx hb dX12_tellsAs_25 rfl (lv_at hl 0 rfl) ?_
  refine lv_aload_n hx hb dX12_tellsAs_26 rfl (lv_at hl 0 rfl) ?_
  refine va_get (D := D) hx hb hts inlX12 hown hK hP 55 (jc_55 cI cL ad σ1 τ) rfl 56 (by decide) (hts _ kw_49_8) (fun _ h9 => h9) rfl dX12_tellsAs_27 ?_
  have m8 : σ1 55 56 = (σ 55 56) := (f4 56 (by decide))
  refine jtopr m8 ?_
  refine jtopr (jsame (rfl : (σ 55 56).toInt = (σ 55 56).toInt) jz_0 (by omega)) ?_
  refine lv_iload_n hx hb dX12_tellsAs_30 rfl (lv_at hl 2 rfl) ?_
  have z9 : (σ1 55 56).toInt = (σ 55 56).toInt := (congrArg Int32.toInt (show σ1 55 56 = (σ 55 56) from m8))
  refine jcallV (As := [.int 0, .int a2]) (rest := []) ⟨hx, hb, hml, hown, hts⟩ hK hP hA hS hZ (c_X12_holdsAs_0_0_1 l D cI cL ad zz hJ σ1 τ a2 (A2) t2 m6 (by omega)) cw_RX12_388 (jc_55 cI cL ad σ1 τ) rfl ⟨Nat.le_of_ble_eq_true rfl, Nat.le_of_ble_eq_true rfl⟩ rfl rfl rfl hl.1 rfl (Nat.le_of_ble_eq_true rfl) dX12_tellsAs_31 ⟨Nat.zero_le _, Nat.zero_le _⟩ (fun r11 σ10 τ10 H locs h10 hP hS => ?_)
  obtain ⟨rfl, f12, f13, f14, m15, m16, m17, h10⟩ := h10
  have h18 := h10
  obtain ⟨q20, k19⟩ := h18
  have q20 := q20.symm
  subst q20
  refine lv_istore_n (lv' := [(3, .int ((a2 + (σ1 55 57)) * 2)), (0, .ref (ad 55)), (1, .int 0), (2, .int a2)]) hx hb dX12_tellsAs_34 rfl hl (by decide) rfl (fun ls hl => ?_)
  refine lv_iload_n hx hb dX12_tellsAs_35 rfl (lv_at hl 0 rfl) ?_
  refine lv_aload_n hx hb dX12_tellsAs_36 rfl (lv_at hl 1 rfl) ?_
  refine lv_aload_n hx hb dX12_tellsAs_37 rfl (lv_at hl 1 rfl) ?_
  refine va_get (D := D) hx hb hts inlX12 hown hK hP 55 (jc_55 cI cL ad σ10 τ) rfl 56 (by decide) (hts _ kw_49_8) (fun _ h9 => h9) rfl dX12_tellsAs_38 ?_
  have m21 : σ10 55 56 = (σ 55 56) := ((f13 56 (by decide)).trans m8)
  refine jtopr m21 ?_
  refine jtopr (jsame (rfl : (σ 55 56).toInt = (σ 55 56).toInt) jz_0 (by omega)) ?_
  refine lv_iconst (v := 1) hx hb dX12_tellsAs_41 (by decide) ?_
  have z22 : (σ10 55 56).toInt = (σ 55 56).toInt := (congrArg Int32.toInt (show σ10 55 56 = (σ 55 56) from m21))
  refine jcallV (As := [.int 0, .int 1]) (rest := [.int ((a2 + (σ1 55 57)) * 2)]) ⟨hx, hb, hml, hown, hts⟩ hK hP hA hS hZ (c_X12_givesAs_0_0_3_x1 l D cI cL ad zz hJ σ10 τ m15 (by omega)) cw_RX12_394 (jc_55 cI cL ad σ10 τ) rfl ⟨Nat.le_of_ble_eq_true rfl, Nat.le_of_ble_eq_true rfl⟩ rfl rfl rfl hl.1 rfl (Nat.le_of_ble_eq_true rfl) dX12_tellsAs_42 ⟨Nat.zero_le _, Nat.zero_le _⟩ (fun r24 σ23 τ23 H locs h23 hP hS => ?_)
  obtain ⟨rfl, f25, f26, f27, m28, m29, h23⟩ := h23
  have h30 := h23
  obtain ⟨q32, k31⟩ := h30
  have q32 := q32.symm
  subst q32
  have g33 := jrg (rfl : ((a2 + (σ1 55 57)) * 2).toInt = ((a2 + (σ1 55 57)) * 2).toInt)
  have g34 := jrg (rfl : (1 ^^^ (σ10 55 57)).toInt = (1 ^^^ (σ10 55 57)).toInt)
  refine lv_isub hx hb dX12_tellsAs_45 ?_
  refine lv_topi (fun x35 ex35 => ?_)
  have gx35 := jrg (rfl : x35.toInt = x35.toInt)
  have m36 : σ23 85 0 = 2 := ((f27 0 (by decide)).trans ((f14 0 (by decide)).trans m7))
  have m37 : σ23 85 1 = 10 := ((f27 1 (by decide)).trans m16)
  have m38 : σ23 85 2 = 1 := ((f27 2 (by decide)).trans m17)
  exact hret x35 σ23 τ _ _ _ _ rfl ⟨rfl, (fun i hi => ((f25 i hi).trans ((f12 i hi).trans (f3 i hi)))), (fun i hi => ((f26 i hi).trans ((f13 i hi).trans (f4 i hi)))), (fun i hi => ((f27 i (imp_304 i hi)).trans ((f14 i (imp_305 i hi)).trans (f5 i (imp_348 i hi))))), m28, m36, m37, m38, m29, ⟨(by rw [ex35, (show σ1 55 57 = σ 55 57 from (f4 57 (by decide))), (show σ10 55 57 = σ 55 57 from ((f13 57 (by decide)).trans (f4 57 (by decide))))]), trivial⟩⟩ hP hS dX12_tellsAs_46
set_option maxHeartbeats 4000000 in
set_option maxRecDepth 100000 in
theorem c_X12_begins_20_0 (l : Launch) (D : va_G) (cI cL : ClassId) (ad zz : Nat → Nat) (hJ : jD ad) (σ : Nat → Nat → Int32) (τ : Nat → Nat → Int64) (h55_55 : σ 55 55 = 0) : jMv l yX12_begins cX12_begins 2 none ({ frames := 0, cells := 0, slots := 0, locals := 0 }) D cI cL ad zz [.ref (ad 55), .int 20] σ τ (fun σ' τ' => τ = τ' ∧ (∀ i : Nat, (i < 55 ∨ 55 < i) ∧ (i < 85 ∨ 85 < i) → σ' i = σ i) ∧ (∀ k : Nat, (k < 55 ∨ 55 < k) → σ' 55 k = σ 55 k) ∧ (∀ k : Nat, (k < 0 ∨ 0 < k) → σ' 85 k = σ 85 k) ∧ (σ' 55 55 = 1) ∧ (σ' 85 0 = 20) ∧ True) := by
  refine jMv.of hJ (by decide +kernel) rfl (Nat.le_of_ble_eq_true rfl) ?_
  intro p e s m args below meth c Q ls hC hret hl hP
  obtain ⟨hx, hb, hr, hml, hown, hts, hK, -, hlocks, hZ⟩ := hC
  have hown : s.vm.findClass RX12 = some m.cls := hown
  have hS : va_S (jA ad) s.heap s.heap [] := va_S.rf
  have hA : ∀ q, jA ad q → jA ad q := fun _ h => h
  have hl : lv_has ls 2 [(0, .ref (ad 55)), (1, .int 20)] := hl
  refine lv_aload_n hx hb dX12_begins_0 rfl (lv_at hl 0 rfl) ?_
  refine va_get (D := D) hx hb hts inlX12 hown hK hP 55 (jc_55 cI cL ad σ τ) rfl 55 (by decide) (hts _ kw_49_7) (fun _ h9 => h9) rfl dX12_begins_1 ?_
  refine jtopr h55_55 ?_
  refine lv_bipush (v := 24) hx hb dX12_begins_4 (by decide) ?_
  refine lv_icmp_ge (tgt := 19) hx hb dX12_begins_6 (by decide) (fun c => absurd c (by decide)) (fun _ => ?_)
  refine lv_aload_n hx hb dX12_begins_9 rfl (lv_at hl 0 rfl) ?_
  refine va_get (D := D) hx hb hts inlX12 hown hK hP 55 (jc_55 cI cL ad σ τ) rfl 54 (by decide) (hts _ kw_8_10) (fun _ h9 => h9) rfl dX12_begins_10 ?_
  refine lv_aload_n hx hb dX12_begins_13 rfl (lv_at hl 0 rfl) ?_
  refine va_get (D := D) hx hb hts inlX12 hown hK hP 55 (jc_55 cI cL ad σ τ) rfl 55 (by decide) (hts _ kw_49_7) (fun _ h9 => h9) rfl dX12_begins_14 ?_
  refine jtopr h55_55 ?_
  refine lv_iload_n hx hb dX12_begins_17 rfl (lv_at hl 1 rfl) ?_
  refine jast hx hb hK hP hJ hA hS (jc_85 cI cL ad σ τ) (ja_85 cI cL ad σ τ _ _) (jin jz_0 (by omega) (by omega)) dX12_begins_18 (fun σ1 H locs eσ1 hP hS => ?_)
  have eσ1 : σ1 = jup σ 85 0 20 := eσ1
  refine lv_aload_n hx hb dX12_begins_19 rfl (lv_at hl 0 rfl) ?_
  refine lv_dup hx hb dX12_begins_20 rfl ?_
  refine va_get (D := D) hx hb hts inlX12 hown hK hP 55 (jc_55 cI cL ad σ1 τ) rfl 55 (by decide) (hts _ kw_49_7) (fun _ h9 => h9) rfl dX12_begins_21 ?_
  have m2 : σ1 55 55 = 0 := ((congrFun (jnp 55 eσ1 (by decide)) 55).trans h55_55)
  refine jtopr m2 ?_
  refine lv_iconst (v := 1) hx hb dX12_begins_24 (by decide) ?_
  refine lv_iadd hx hb dX12_begins_25 ?_
  refine jtopr (y := 1) (by decide) ?_
  refine jput (ty := .int) hx hb hts inlX12 tyX12 tyX12_ok nmX12 hown hK hP hJ hA hS (jc_55 cI cL ad σ1 τ) rfl (k := 55) (by decide) (Nat.le_of_ble_eq_true rfl) (jp_55_55 cI cL ad σ1 τ 1) (hts _ kw_49_7) (fun _ h9 => h9) rfl (by decide +kernel) rfl rfl dX12_begins_26 (fun σ3 H locs eσ3 hP hS => ?_)
  have m4 : σ3 55 55 = 1 := (jsp eσ3)
  have m5 : σ3 85 0 = 20 := ((congrFun (jnp 85 eσ3 (by decide)) 0).trans (jsp eσ1))
  exact hret σ3 τ _ _ _ _ ⟨rfl, (fun i hi => ((jnp i eσ3 (imp_345 i hi)).trans (jnp i eσ1 (imp_346 i hi)))), (fun i hi => ((jkp i eσ3 (imp_164 i hi)).trans (congrFun (jnp 55 eσ1 (by decide)) i))), (fun i hi => ((congrFun (jnp 85 eσ3 (by decide)) i).trans (jkp i eσ1 (imp_4 i hi)))), m4, m5, trivial⟩ hP hS dX12_begins_29
set_option maxHeartbeats 4000000 in
set_option maxRecDepth 100000 in
theorem c_X12_putsAs_1_0_1 (l : Launch) (D : va_G) (cI cL : ClassId) (ad zz : Nat → Nat) (hJ : jD ad) (σ : Nat → Nat → Int32) (τ : Nat → Nat → Int64) (a2 : Int32) (A2 : Int) (t2 : a2.toInt = A2) (h55_55 : σ 55 55 = 1) (hp0 : (σ 55 56).toInt = 1) : jM l yX12_putsAs cX12_putsAs 3 (some .int) ({ frames := 1, cells := 0, slots := 0, locals := 21 }) D cI cL ad zz [.ref (ad 55), .int 0, .int a2] σ τ (fun r σ' τ' => τ = τ' ∧ (∀ i : Nat, (i < 55 ∨ 55 < i) ∧ (i < 85 ∨ 85 < i) → σ' i = σ i) ∧ (∀ k : Nat, (k < 55 ∨ 55 < k) → σ' 55 k = σ 55 k) ∧ (∀ k : Nat, (k < 1 ∨ 1 < k) → σ' 85 k = σ 85 k) ∧ (σ' 55 55 = 2) ∧ (σ' 85 1 = 1) ∧ ((r = (a2 + (σ 55 57)) ∧ True))) := by
  refine jM.of hJ (by decide +kernel) (nt := .int) rfl (Nat.le_of_ble_eq_true rfl) ?_
  intro p e s m args below meth c Q ls hC hret hl hP
  obtain ⟨hx, hb, hr, hml, hown, hts, hK, -, hlocks, hZ⟩ := hC
  have hown : s.vm.findClass RX12 = some m.cls := hown
  have hS : va_S (jA ad) s.heap s.heap [] := va_S.rf
  have hA : ∀ q, jA ad q → jA ad q := fun _ h => h
  have hl : lv_has ls 3 [(0, .ref (ad 55)), (1, .int 0), (2, .int a2)] := hl
  have g2 := jrg t2
  refine lv_iload_n hx hb dX12_putsAs_0 rfl (lv_at hl 1 rfl) ?_
  refine lv_iconst (v := 4) hx hb dX12_putsAs_1 (by decide) ?_
  refine lv_icmp_ne (tgt := 20) hx hb dX12_putsAs_2 (by decide) (fun _ => ?_) (fun c => absurd c (by decide))
  refine lv_iload_n hx hb dX12_putsAs_20 rfl (lv_at hl 1 rfl) ?_
  refine lv_iconst (v := 1) hx hb dX12_putsAs_21 (by decide) ?_
  refine lv_icmp_ne (tgt := 40) hx hb dX12_putsAs_22 (by decide) (fun _ => ?_) (fun c => absurd c (by decide))
  refine lv_aload_n hx hb dX12_putsAs_40 rfl (lv_at hl 0 rfl) ?_
  refine lv_iconst (v := 1) hx hb dX12_putsAs_41 (by decide) ?_
  refine jcallVv (As := [.int 1]) (rest := []) ⟨hx, hb, hml, hown, hts⟩ hK hP hA hS hZ (c_X12_begins_1_1 l D cI cL ad zz hJ σ τ h55_55) cw_RX12_379 (jc_55 cI cL ad σ τ) rfl ⟨Nat.le_of_ble_eq_true rfl, Nat.le_of_ble_eq_true rfl⟩ rfl rfl rfl hl.1 rfl (Nat.le_of_ble_eq_true rfl) dX12_putsAs_42 ⟨Nat.zero_le _, Nat.zero_le _⟩ (fun σ1 τ1 H locs h1 hP hS => ?_)
  obtain ⟨rfl, f3, f4, f5, m6, m7, h1⟩ := h1
  refine lv_iload_n hx hb dX12_putsAs_45 rfl (lv_at hl 2 rfl) ?_
  refine lv_aload_n hx hb dX12_putsAs_46 rfl (lv_at hl 0 rfl) ?_
  refine va_get (D := D) hx hb hts inlX12 hown hK hP 55 (jc_55 cI cL ad σ1 τ) rfl 57 (by decide) (hts _ kw_49_9) (fun _ h9 => h9) rfl dX12_putsAs_47 ?_
  have m8 : σ1 55 57 = (σ 55 57) := (f4 57 (by decide))
  refine jtopr m8 ?_
  have g9 := jrg (rfl : (σ 55 57).toInt = (σ 55 57).toInt)
  refine lv_iadd hx hb dX12_putsAs_50 ?_
  refine lv_topi (fun x10 ex10 => ?_)
  have gx10 := jrg (rfl : x10.toInt = x10.toInt)
  exact hret x10 σ1 τ _ _ _ _ rfl ⟨rfl, (fun i hi => (f3 i hi)), (fun i hi => (f4 i hi)), (fun i hi => (f5 i hi)), m6, m7, ⟨(by rw [ex10]), trivial⟩⟩ hP hS dX12_putsAs_51
set_option maxHeartbeats 4000000 in
set_option maxRecDepth 100000 in
theorem c_X12_putsAs_1_1_0 (l : Launch) (D : va_G) (cI cL : ClassId) (ad zz : Nat → Nat) (hJ : jD ad) (σ : Nat → Nat → Int32) (τ : Nat → Nat → Int64) (a2 : Int32) (A2 : Int) (t2 : a2.toInt = A2) (h55_55 : σ 55 55 = 0) (hp0 : (σ 55 56).toInt = 1) : jM l yX12_putsAs cX12_putsAs 3 (some .int) ({ frames := 2, cells := 0, slots := 0, locals := 43 }) D cI cL ad zz [.ref (ad 55), .int 1, .int a2] σ τ (fun r σ' τ' => τ = τ' ∧ (∀ i : Nat, (i < 55 ∨ 55 < i) ∧ (i < 85 ∨ 85 < i) → σ' i = σ i) ∧ (∀ k : Nat, (k < 55 ∨ 55 < k) → σ' 55 k = σ 55 k) ∧ (∀ k : Nat, (k < 0 ∨ 0 < k) ∧ (k < 1 ∨ 1 < k) → σ' 85 k = σ 85 k) ∧ (σ' 55 55 = 2) ∧ (σ' 85 0 = 20) ∧ (σ' 85 1 = 1) ∧ ((r = ((a2 + (σ 55 57)) + 3) ∧ True))) := by
  refine jM.of hJ (by decide +kernel) (nt := .int) rfl (Nat.le_of_ble_eq_true rfl) ?_
  intro p e s m args below meth c Q ls hC hret hl hP
  obtain ⟨hx, hb, hr, hml, hown, hts, hK, -, hlocks, hZ⟩ := hC
  have hown : s.vm.findClass RX12 = some m.cls := hown
  have hS : va_S (jA ad) s.heap s.heap [] := va_S.rf
  have hA : ∀ q, jA ad q → jA ad q := fun _ h => h
  have hl : lv_has ls 3 [(0, .ref (ad 55)), (1, .int 1), (2, .int a2)] := hl
  have g2 := jrg t2
  refine lv_iload_n hx hb dX12_putsAs_0 rfl (lv_at hl 1 rfl) ?_
  refine lv_iconst (v := 4) hx hb dX12_putsAs_1 (by decide) ?_
  refine lv_icmp_ne (tgt := 20) hx hb dX12_putsAs_2 (by decide) (fun _ => ?_) (fun c => absurd c (by decide))
  refine lv_iload_n hx hb dX12_putsAs_20 rfl (lv_at hl 1 rfl) ?_
  refine lv_iconst (v := 1) hx hb dX12_putsAs_21 (by decide) ?_
  refine lv_icmp_ne (tgt := 40) hx hb dX12_putsAs_22 (by decide) (fun c => absurd (by decide) c) (fun _ => ?_)
  refine lv_aload_n hx hb dX12_putsAs_25 rfl (lv_at hl 0 rfl) ?_
  refine lv_bipush (v := 20) hx hb dX12_putsAs_26 (by decide) ?_
  refine jcallVv (As := [.int 20]) (rest := []) ⟨hx, hb, hml, hown, hts⟩ hK hP hA hS hZ (c_X12_begins_20_0 l D cI cL ad zz hJ σ τ h55_55) cw_RX12_379 (jc_55 cI cL ad σ τ) rfl ⟨Nat.le_of_ble_eq_true rfl, Nat.le_of_ble_eq_true rfl⟩ rfl rfl rfl hl.1 rfl (Nat.le_of_ble_eq_true rfl) dX12_putsAs_28 ⟨Nat.zero_le _, Nat.zero_le _⟩ (fun σ1 τ1 H locs h1 hP hS => ?_)
  obtain ⟨rfl, f3, f4, f5, m6, m7, h1⟩ := h1
  refine lv_aload_n hx hb dX12_putsAs_31 rfl (lv_at hl 0 rfl) ?_
  refine lv_iconst (v := 0) hx hb dX12_putsAs_32 (by decide) ?_
  refine lv_iload_n hx hb dX12_putsAs_33 rfl (lv_at hl 2 rfl) ?_
  have z8 : (σ1 55 56).toInt = (σ 55 56).toInt := (congrArg Int32.toInt (show σ1 55 56 = (σ 55 56) from (f4 56 (by decide))))
  refine jcallV (As := [.int 0, .int a2]) (rest := []) ⟨hx, hb, hml, hown, hts⟩ hK hP hA hS hZ (c_X12_putsAs_1_0_1 l D cI cL ad zz hJ σ1 τ a2 (A2) t2 m6 (by omega)) cw_RX12_382 (jc_55 cI cL ad σ1 τ) rfl ⟨Nat.le_of_ble_eq_true rfl, Nat.le_of_ble_eq_true rfl⟩ rfl rfl rfl hl.1 rfl (Nat.le_of_ble_eq_true rfl) dX12_putsAs_34 ⟨Nat.zero_le _, Nat.zero_le _⟩ (fun r10 σ9 τ9 H locs h9 hP hS => ?_)
  obtain ⟨rfl, f11, f12, f13, m14, m15, h9⟩ := h9
  have h16 := h9
  obtain ⟨q18, k17⟩ := h16
  have q18 := q18.symm
  subst q18
  refine lv_iconst (v := 3) hx hb dX12_putsAs_37 (by decide) ?_
  have g19 := jrg (rfl : (a2 + (σ1 55 57)).toInt = (a2 + (σ1 55 57)).toInt)
  refine lv_iadd hx hb dX12_putsAs_38 ?_
  refine lv_topi (fun x20 ex20 => ?_)
  have gx20 := jrg (rfl : x20.toInt = x20.toInt)
  have m21 : σ9 85 0 = 20 := ((f13 0 (by decide)).trans m7)
  exact hret x20 σ9 τ _ _ _ _ rfl ⟨rfl, (fun i hi => ((f11 i hi).trans (f3 i hi))), (fun i hi => ((f12 i hi).trans (f4 i hi))), (fun i hi => ((f13 i (imp_302 i hi)).trans (f5 i (imp_347 i hi)))), m14, m21, m15, ⟨(by rw [ex20, (show σ1 55 57 = σ 55 57 from (f4 57 (by decide)))]), trivial⟩⟩ hP hS dX12_putsAs_39
set_option maxHeartbeats 4000000 in
set_option maxRecDepth 100000 in
theorem c_X12_begins_20_1 (l : Launch) (D : va_G) (cI cL : ClassId) (ad zz : Nat → Nat) (hJ : jD ad) (σ : Nat → Nat → Int32) (τ : Nat → Nat → Int64) (h55_55 : σ 55 55 = 1) : jMv l yX12_begins cX12_begins 2 none ({ frames := 0, cells := 0, slots := 0, locals := 0 }) D cI cL ad zz [.ref (ad 55), .int 20] σ τ (fun σ' τ' => τ = τ' ∧ (∀ i : Nat, (i < 55 ∨ 55 < i) ∧ (i < 85 ∨ 85 < i) → σ' i = σ i) ∧ (∀ k : Nat, (k < 55 ∨ 55 < k) → σ' 55 k = σ 55 k) ∧ (∀ k : Nat, (k < 1 ∨ 1 < k) → σ' 85 k = σ 85 k) ∧ (σ' 55 55 = 2) ∧ (σ' 85 1 = 20) ∧ True) := by
  refine jMv.of hJ (by decide +kernel) rfl (Nat.le_of_ble_eq_true rfl) ?_
  intro p e s m args below meth c Q ls hC hret hl hP
  obtain ⟨hx, hb, hr, hml, hown, hts, hK, -, hlocks, hZ⟩ := hC
  have hown : s.vm.findClass RX12 = some m.cls := hown
  have hS : va_S (jA ad) s.heap s.heap [] := va_S.rf
  have hA : ∀ q, jA ad q → jA ad q := fun _ h => h
  have hl : lv_has ls 2 [(0, .ref (ad 55)), (1, .int 20)] := hl
  refine lv_aload_n hx hb dX12_begins_0 rfl (lv_at hl 0 rfl) ?_
  refine va_get (D := D) hx hb hts inlX12 hown hK hP 55 (jc_55 cI cL ad σ τ) rfl 55 (by decide) (hts _ kw_49_7) (fun _ h9 => h9) rfl dX12_begins_1 ?_
  refine jtopr h55_55 ?_
  refine lv_bipush (v := 24) hx hb dX12_begins_4 (by decide) ?_
  refine lv_icmp_ge (tgt := 19) hx hb dX12_begins_6 (by decide) (fun c => absurd c (by decide)) (fun _ => ?_)
  refine lv_aload_n hx hb dX12_begins_9 rfl (lv_at hl 0 rfl) ?_
  refine va_get (D := D) hx hb hts inlX12 hown hK hP 55 (jc_55 cI cL ad σ τ) rfl 54 (by decide) (hts _ kw_8_10) (fun _ h9 => h9) rfl dX12_begins_10 ?_
  refine lv_aload_n hx hb dX12_begins_13 rfl (lv_at hl 0 rfl) ?_
  refine va_get (D := D) hx hb hts inlX12 hown hK hP 55 (jc_55 cI cL ad σ τ) rfl 55 (by decide) (hts _ kw_49_7) (fun _ h9 => h9) rfl dX12_begins_14 ?_
  refine jtopr h55_55 ?_
  refine lv_iload_n hx hb dX12_begins_17 rfl (lv_at hl 1 rfl) ?_
  refine jast hx hb hK hP hJ hA hS (jc_85 cI cL ad σ τ) (ja_85 cI cL ad σ τ _ _) (jin jz_1 (by omega) (by omega)) dX12_begins_18 (fun σ1 H locs eσ1 hP hS => ?_)
  have eσ1 : σ1 = jup σ 85 1 20 := eσ1
  refine lv_aload_n hx hb dX12_begins_19 rfl (lv_at hl 0 rfl) ?_
  refine lv_dup hx hb dX12_begins_20 rfl ?_
  refine va_get (D := D) hx hb hts inlX12 hown hK hP 55 (jc_55 cI cL ad σ1 τ) rfl 55 (by decide) (hts _ kw_49_7) (fun _ h9 => h9) rfl dX12_begins_21 ?_
  have m2 : σ1 55 55 = 1 := ((congrFun (jnp 55 eσ1 (by decide)) 55).trans h55_55)
  refine jtopr m2 ?_
  refine lv_iconst (v := 1) hx hb dX12_begins_24 (by decide) ?_
  refine lv_iadd hx hb dX12_begins_25 ?_
  refine jtopr (y := 2) (by decide) ?_
  refine jput (ty := .int) hx hb hts inlX12 tyX12 tyX12_ok nmX12 hown hK hP hJ hA hS (jc_55 cI cL ad σ1 τ) rfl (k := 55) (by decide) (Nat.le_of_ble_eq_true rfl) (jp_55_55 cI cL ad σ1 τ 2) (hts _ kw_49_7) (fun _ h9 => h9) rfl (by decide +kernel) rfl rfl dX12_begins_26 (fun σ3 H locs eσ3 hP hS => ?_)
  have m4 : σ3 55 55 = 2 := (jsp eσ3)
  have m5 : σ3 85 1 = 20 := ((congrFun (jnp 85 eσ3 (by decide)) 1).trans (jsp eσ1))
  exact hret σ3 τ _ _ _ _ ⟨rfl, (fun i hi => ((jnp i eσ3 (imp_345 i hi)).trans (jnp i eσ1 (imp_346 i hi)))), (fun i hi => ((jkp i eσ3 (imp_164 i hi)).trans (congrFun (jnp 55 eσ1 (by decide)) i))), (fun i hi => ((congrFun (jnp 85 eσ3 (by decide)) i).trans (jkp i eσ1 (imp_42 i hi)))), m4, m5, trivial⟩ hP hS dX12_begins_29
set_option maxHeartbeats 4000000 in
set_option maxRecDepth 100000 in
theorem c_X12_putsAs_1_0_2 (l : Launch) (D : va_G) (cI cL : ClassId) (ad zz : Nat → Nat) (hJ : jD ad) (σ : Nat → Nat → Int32) (τ : Nat → Nat → Int64) (a2 : Int32) (A2 : Int) (t2 : a2.toInt = A2) (h55_55 : σ 55 55 = 2) (hp0 : (σ 55 56).toInt = 1) : jM l yX12_putsAs cX12_putsAs 3 (some .int) ({ frames := 1, cells := 0, slots := 0, locals := 21 }) D cI cL ad zz [.ref (ad 55), .int 0, .int a2] σ τ (fun r σ' τ' => τ = τ' ∧ (∀ i : Nat, (i < 55 ∨ 55 < i) ∧ (i < 85 ∨ 85 < i) → σ' i = σ i) ∧ (∀ k : Nat, (k < 55 ∨ 55 < k) → σ' 55 k = σ 55 k) ∧ (∀ k : Nat, (k < 2 ∨ 2 < k) → σ' 85 k = σ 85 k) ∧ (σ' 55 55 = 3) ∧ (σ' 85 2 = 1) ∧ ((r = (a2 + (σ 55 57)) ∧ True))) := by
  refine jM.of hJ (by decide +kernel) (nt := .int) rfl (Nat.le_of_ble_eq_true rfl) ?_
  intro p e s m args below meth c Q ls hC hret hl hP
  obtain ⟨hx, hb, hr, hml, hown, hts, hK, -, hlocks, hZ⟩ := hC
  have hown : s.vm.findClass RX12 = some m.cls := hown
  have hS : va_S (jA ad) s.heap s.heap [] := va_S.rf
  have hA : ∀ q, jA ad q → jA ad q := fun _ h => h
  have hl : lv_has ls 3 [(0, .ref (ad 55)), (1, .int 0), (2, .int a2)] := hl
  have g2 := jrg t2
  refine lv_iload_n hx hb dX12_putsAs_0 rfl (lv_at hl 1 rfl) ?_
  refine lv_iconst (v := 4) hx hb dX12_putsAs_1 (by decide) ?_
  refine lv_icmp_ne (tgt := 20) hx hb dX12_putsAs_2 (by decide) (fun _ => ?_) (fun c => absurd c (by decide))
  refine lv_iload_n hx hb dX12_putsAs_20 rfl (lv_at hl 1 rfl) ?_
  refine lv_iconst (v := 1) hx hb dX12_putsAs_21 (by decide) ?_
  refine lv_icmp_ne (tgt := 40) hx hb dX12_putsAs_22 (by decide) (fun _ => ?_) (fun c => absurd c (by decide))
  refine lv_aload_n hx hb dX12_putsAs_40 rfl (lv_at hl 0 rfl) ?_
  refine lv_iconst (v := 1) hx hb dX12_putsAs_41 (by decide) ?_
  refine jcallVv (As := [.int 1]) (rest := []) ⟨hx, hb, hml, hown, hts⟩ hK hP hA hS hZ (c_X12_begins_1_2 l D cI cL ad zz hJ σ τ h55_55) cw_RX12_379 (jc_55 cI cL ad σ τ) rfl ⟨Nat.le_of_ble_eq_true rfl, Nat.le_of_ble_eq_true rfl⟩ rfl rfl rfl hl.1 rfl (Nat.le_of_ble_eq_true rfl) dX12_putsAs_42 ⟨Nat.zero_le _, Nat.zero_le _⟩ (fun σ1 τ1 H locs h1 hP hS => ?_)
  obtain ⟨rfl, f3, f4, f5, m6, m7, h1⟩ := h1
  refine lv_iload_n hx hb dX12_putsAs_45 rfl (lv_at hl 2 rfl) ?_
  refine lv_aload_n hx hb dX12_putsAs_46 rfl (lv_at hl 0 rfl) ?_
  refine va_get (D := D) hx hb hts inlX12 hown hK hP 55 (jc_55 cI cL ad σ1 τ) rfl 57 (by decide) (hts _ kw_49_9) (fun _ h9 => h9) rfl dX12_putsAs_47 ?_
  have m8 : σ1 55 57 = (σ 55 57) := (f4 57 (by decide))
  refine jtopr m8 ?_
  have g9 := jrg (rfl : (σ 55 57).toInt = (σ 55 57).toInt)
  refine lv_iadd hx hb dX12_putsAs_50 ?_
  refine lv_topi (fun x10 ex10 => ?_)
  have gx10 := jrg (rfl : x10.toInt = x10.toInt)
  exact hret x10 σ1 τ _ _ _ _ rfl ⟨rfl, (fun i hi => (f3 i hi)), (fun i hi => (f4 i hi)), (fun i hi => (f5 i hi)), m6, m7, ⟨(by rw [ex10]), trivial⟩⟩ hP hS dX12_putsAs_51
set_option maxHeartbeats 4000000 in
set_option maxRecDepth 100000 in
theorem c_X12_putsAs_1_1_1 (l : Launch) (D : va_G) (cI cL : ClassId) (ad zz : Nat → Nat) (hJ : jD ad) (σ : Nat → Nat → Int32) (τ : Nat → Nat → Int64) (a2 : Int32) (A2 : Int) (t2 : a2.toInt = A2) (h55_55 : σ 55 55 = 1) (hp0 : (σ 55 56).toInt = 1) : jM l yX12_putsAs cX12_putsAs 3 (some .int) ({ frames := 2, cells := 0, slots := 0, locals := 43 }) D cI cL ad zz [.ref (ad 55), .int 1, .int a2] σ τ (fun r σ' τ' => τ = τ' ∧ (∀ i : Nat, (i < 55 ∨ 55 < i) ∧ (i < 85 ∨ 85 < i) → σ' i = σ i) ∧ (∀ k : Nat, (k < 55 ∨ 55 < k) → σ' 55 k = σ 55 k) ∧ (∀ k : Nat, (k < 1 ∨ 1 < k) ∧ (k < 2 ∨ 2 < k) → σ' 85 k = σ 85 k) ∧ (σ' 55 55 = 3) ∧ (σ' 85 1 = 20) ∧ (σ' 85 2 = 1) ∧ ((r = ((a2 + (σ 55 57)) + 3) ∧ True))) := by
  refine jM.of hJ (by decide +kernel) (nt := .int) rfl (Nat.le_of_ble_eq_true rfl) ?_
  intro p e s m args below meth c Q ls hC hret hl hP
  obtain ⟨hx, hb, hr, hml, hown, hts, hK, -, hlocks, hZ⟩ := hC
  have hown : s.vm.findClass RX12 = some m.cls := hown
  have hS : va_S (jA ad) s.heap s.heap [] := va_S.rf
  have hA : ∀ q, jA ad q → jA ad q := fun _ h => h
  have hl : lv_has ls 3 [(0, .ref (ad 55)), (1, .int 1), (2, .int a2)] := hl
  have g2 := jrg t2
  refine lv_iload_n hx hb dX12_putsAs_0 rfl (lv_at hl 1 rfl) ?_
  refine lv_iconst (v := 4) hx hb dX12_putsAs_1 (by decide) ?_
  refine lv_icmp_ne (tgt := 20) hx hb dX12_putsAs_2 (by decide) (fun _ => ?_) (fun c => absurd c (by decide))
  refine lv_iload_n hx hb dX12_putsAs_20 rfl (lv_at hl 1 rfl) ?_
  refine lv_iconst (v := 1) hx hb dX12_putsAs_21 (by decide) ?_
  refine lv_icmp_ne (tgt := 40) hx hb dX12_putsAs_22 (by decide) (fun c => absurd (by decide) c) (fun _ => ?_)
  refine lv_aload_n hx hb dX12_putsAs_25 rfl (lv_at hl 0 rfl) ?_
  refine lv_bipush (v := 20) hx hb dX12_putsAs_26 (by decide) ?_
  refine jcallVv (As := [.int 20]) (rest := []) ⟨hx, hb, hml, hown, hts⟩ hK hP hA hS hZ (c_X12_begins_20_1 l D cI cL ad zz hJ σ τ h55_55) cw_RX12_379 (jc_55 cI cL ad σ τ) rfl ⟨Nat.le_of_ble_eq_true rfl, Nat.le_of_ble_eq_true rfl⟩ rfl rfl rfl hl.1 rfl (Nat.le_of_ble_eq_true rfl) dX12_putsAs_28 ⟨Nat.zero_le _, Nat.zero_le _⟩ (fun σ1 τ1 H locs h1 hP hS => ?_)
  obtain ⟨rfl, f3, f4, f5, m6, m7, h1⟩ := h1
  refine lv_aload_n hx hb dX12_putsAs_31 rfl (lv_at hl 0 rfl) ?_
  refine lv_iconst (v := 0) hx hb dX12_putsAs_32 (by decide) ?_
  refine lv_iload_n hx hb dX12_putsAs_33 rfl (lv_at hl 2 rfl) ?_
  have z8 : (σ1 55 56).toInt = (σ 55 56).toInt := (congrArg Int32.toInt (show σ1 55 56 = (σ 55 56) from (f4 56 (by decide))))
  refine jcallV (As := [.int 0, .int a2]) (rest := []) ⟨hx, hb, hml, hown, hts⟩ hK hP hA hS hZ (c_X12_putsAs_1_0_2 l D cI cL ad zz hJ σ1 τ a2 (A2) t2 m6 (by omega)) cw_RX12_382 (jc_55 cI cL ad σ1 τ) rfl ⟨Nat.le_of_ble_eq_true rfl, Nat.le_of_ble_eq_true rfl⟩ rfl rfl rfl hl.1 rfl (Nat.le_of_ble_eq_true rfl) dX12_putsAs_34 ⟨Nat.zero_le _, Nat.zero_le _⟩ (fun r10 σ9 τ9 H locs h9 hP hS => ?_)
  obtain ⟨rfl, f11, f12, f13, m14, m15, h9⟩ := h9
  have h16 := h9
  obtain ⟨q18, k17⟩ := h16
  have q18 := q18.symm
  subst q18
  refine lv_iconst (v := 3) hx hb dX12_putsAs_37 (by decide) ?_
  have g19 := jrg (rfl : (a2 + (σ1 55 57)).toInt = (a2 + (σ1 55 57)).toInt)
  refine lv_iadd hx hb dX12_putsAs_38 ?_
  refine lv_topi (fun x20 ex20 => ?_)
  have gx20 := jrg (rfl : x20.toInt = x20.toInt)
  have m21 : σ9 85 1 = 20 := ((f13 1 (by decide)).trans m7)
  exact hret x20 σ9 τ _ _ _ _ rfl ⟨rfl, (fun i hi => ((f11 i hi).trans (f3 i hi))), (fun i hi => ((f12 i hi).trans (f4 i hi))), (fun i hi => ((f13 i (imp_43 i hi)).trans (f5 i (imp_60 i hi)))), m14, m21, m15, ⟨(by rw [ex20, (show σ1 55 57 = σ 55 57 from (f4 57 (by decide)))]), trivial⟩⟩ hP hS dX12_putsAs_39
set_option maxHeartbeats 4000000 in
set_option maxRecDepth 100000 in
theorem c_X12_holdsAs_1_1_0 (l : Launch) (D : va_G) (cI cL : ClassId) (ad zz : Nat → Nat) (hJ : jD ad) (σ : Nat → Nat → Int32) (τ : Nat → Nat → Int64) (a2 : Int32) (A2 : Int) (t2 : a2.toInt = A2) (h55_55 : σ 55 55 = 0) (hp0 : (σ 55 56).toInt = 1) : jM l yX12_holdsAs cX12_holdsAs 4 (some .int) ({ frames := 3, cells := 0, slots := 0, locals := 65 }) D cI cL ad zz [.ref (ad 55), .int 1, .int a2] σ τ (fun r σ' τ' => τ = τ' ∧ (∀ i : Nat, (i < 55 ∨ 55 < i) ∧ (i < 85 ∨ 85 < i) → σ' i = σ i) ∧ (∀ k : Nat, (k < 55 ∨ 55 < k) → σ' 55 k = σ 55 k) ∧ (∀ k : Nat, (k < 0 ∨ 0 < k) ∧ (k < 1 ∨ 1 < k) ∧ (k < 2 ∨ 2 < k) → σ' 85 k = σ 85 k) ∧ (σ' 55 55 = 3) ∧ (σ' 85 0 = 10) ∧ (σ' 85 1 = 20) ∧ (σ' 85 2 = 1) ∧ ((r = (((a2 + (σ 55 57)) + 3) * 2) ∧ True))) := by
  refine jM.of hJ (by decide +kernel) (nt := .int) rfl (Nat.le_of_ble_eq_true rfl) ?_
  intro p e s m args below meth c Q ls hC hret hl hP
  obtain ⟨hx, hb, hr, hml, hown, hts, hK, -, hlocks, hZ⟩ := hC
  have hown : s.vm.findClass RX12 = some m.cls := hown
  have hS : va_S (jA ad) s.heap s.heap [] := va_S.rf
  have hA : ∀ q, jA ad q → jA ad q := fun _ h => h
  have hl : lv_has ls 4 [(0, .ref (ad 55)), (1, .int 1), (2, .int a2)] := hl
  have g2 := jrg t2
  refine lv_iload_n hx hb dX12_holdsAs_0 rfl (lv_at hl 1 rfl) ?_
  refine lv_iconst (v := 3) hx hb dX12_holdsAs_1 (by decide) ?_
  refine lv_icmp_eq (tgt := 10) hx hb dX12_holdsAs_2 (by decide) (fun c => absurd c (by decide)) (fun _ => ?_)
  refine lv_iload_n hx hb dX12_holdsAs_5 rfl (lv_at hl 1 rfl) ?_
  refine lv_iconst (v := 5) hx hb dX12_holdsAs_6 (by decide) ?_
  refine lv_icmp_ne (tgt := 24) hx hb dX12_holdsAs_7 (by decide) (fun _ => ?_) (fun c => absurd c (by decide))
  refine lv_iload_n hx hb dX12_holdsAs_24 rfl (lv_at hl 1 rfl) ?_
  refine lv_bipush (v := 6) hx hb dX12_holdsAs_25 (by decide) ?_
  refine lv_icmp_ne (tgt := 55) hx hb dX12_holdsAs_27 (by decide) (fun _ => ?_) (fun c => absurd c (by decide))
  refine lv_aload_n hx hb dX12_holdsAs_55 rfl (lv_at hl 0 rfl) ?_
  refine lv_bipush (v := 10) hx hb dX12_holdsAs_56 (by decide) ?_
  refine jcallVv (As := [.int 10]) (rest := []) ⟨hx, hb, hml, hown, hts⟩ hK hP hA hS hZ (c_X12_begins_10_0 l D cI cL ad zz hJ σ τ h55_55) cw_RX12_379 (jc_55 cI cL ad σ τ) rfl ⟨Nat.le_of_ble_eq_true rfl, Nat.le_of_ble_eq_true rfl⟩ rfl rfl rfl hl.1 rfl (Nat.le_of_ble_eq_true rfl) dX12_holdsAs_58 ⟨Nat.zero_le _, Nat.zero_le _⟩ (fun σ1 τ1 H locs h1 hP hS => ?_)
  obtain ⟨rfl, f3, f4, f5, m6, m7, h1⟩ := h1
  refine lv_aload_n hx hb dX12_holdsAs_61 rfl (lv_at hl 0 rfl) ?_
  refine lv_aload_n hx hb dX12_holdsAs_62 rfl (lv_at hl 0 rfl) ?_
  refine va_get (D := D) hx hb hts inlX12 hown hK hP 55 (jc_55 cI cL ad σ1 τ) rfl 56 (by decide) (hts _ kw_49_8) (fun _ h9 => h9) rfl dX12_holdsAs_63 ?_
  have m8 : σ1 55 56 = (σ 55 56) := (f4 56 (by decide))
  refine jtopr m8 ?_
  refine jtopr (jsame (rfl : (σ 55 56).toInt = (σ 55 56).toInt) jz_1 (by omega)) ?_
  refine lv_iload_n hx hb dX12_holdsAs_66 rfl (lv_at hl 2 rfl) ?_
  have z9 : (σ1 55 56).toInt = (σ 55 56).toInt := (congrArg Int32.toInt (show σ1 55 56 = (σ 55 56) from m8))
  refine jcallV (As := [.int 1, .int a2]) (rest := []) ⟨hx, hb, hml, hown, hts⟩ hK hP hA hS hZ (c_X12_putsAs_1_1_1 l D cI cL ad zz hJ σ1 τ a2 (A2) t2 m6 (by omega)) cw_RX12_382 (jc_55 cI cL ad σ1 τ) rfl ⟨Nat.le_of_ble_eq_true rfl, Nat.le_of_ble_eq_true rfl⟩ rfl rfl rfl hl.1 rfl (Nat.le_of_ble_eq_true rfl) dX12_holdsAs_67 ⟨Nat.zero_le _, Nat.zero_le _⟩ (fun r11 σ10 τ10 H locs h10 hP hS => ?_)
  obtain ⟨rfl, f12, f13, f14, m15, m16, m17, h10⟩ := h10
  have h18 := h10
  obtain ⟨q20, k19⟩ := h18
  have q20 := q20.symm
  subst q20
  refine lv_iconst (v := 2) hx hb dX12_holdsAs_70 (by decide) ?_
  have g21 := jrg (rfl : ((a2 + (σ1 55 57)) + 3).toInt = ((a2 + (σ1 55 57)) + 3).toInt)
  refine lv_imul hx hb dX12_holdsAs_71 ?_
  refine lv_topi (fun x22 ex22 => ?_)
  have gx22 := jrg (rfl : x22.toInt = x22.toInt)
  have m23 : σ10 85 0 = 10 := ((f14 0 (by decide)).trans m7)
  exact hret x22 σ10 τ _ _ _ _ rfl ⟨rfl, (fun i hi => ((f12 i hi).trans (f3 i hi))), (fun i hi => ((f13 i hi).trans (f4 i hi))), (fun i hi => ((f14 i (imp_50 i hi)).trans (f5 i (imp_349 i hi)))), m15, m23, m16, m17, ⟨(by rw [ex22, (show σ1 55 57 = σ 55 57 from (f4 57 (by decide)))]), trivial⟩⟩ hP hS dX12_holdsAs_72
set_option maxHeartbeats 4000000 in
set_option maxRecDepth 100000 in
theorem c_X12_givesAs_1_1_0 (l : Launch) (D : va_G) (cI cL : ClassId) (ad zz : Nat → Nat) (hJ : jD ad) (σ : Nat → Nat → Int32) (τ : Nat → Nat → Int64) (a2 : Int32) (A2 : Int) (t2 : a2.toInt = A2) (h55_55 : σ 55 55 = 0) (hp0 : (σ 55 56).toInt = 1) : jM l yX12_givesAs cX12_givesAs 4 (some .int) ({ frames := 1, cells := 0, slots := 0, locals := 21 }) D cI cL ad zz [.ref (ad 55), .int 1, .int a2] σ τ (fun r σ' τ' => τ = τ' ∧ (∀ i : Nat, (i < 55 ∨ 55 < i) ∧ (i < 85 ∨ 85 < i) → σ' i = σ i) ∧ (∀ k : Nat, (k < 55 ∨ 55 < k) → σ' 55 k = σ 55 k) ∧ (∀ k : Nat, (k < 0 ∨ 0 < k) → σ' 85 k = σ 85 k) ∧ (σ' 55 55 = 1) ∧ (σ' 85 0 = 11) ∧ ((r = (a2 ^^^ (σ 55 57)) ∧ True))) := by
  refine jM.of hJ (by decide +kernel) (nt := .int) rfl (Nat.le_of_ble_eq_true rfl) ?_
  intro p e s m args below meth c Q ls hC hret hl hP
  obtain ⟨hx, hb, hr, hml, hown, hts, hK, -, hlocks, hZ⟩ := hC
  have hown : s.vm.findClass RX12 = some m.cls := hown
  have hS : va_S (jA ad) s.heap s.heap [] := va_S.rf
  have hA : ∀ q, jA ad q → jA ad q := fun _ h => h
  have hl : lv_has ls 4 [(0, .ref (ad 55)), (1, .int 1), (2, .int a2)] := hl
  have g2 := jrg t2
  refine lv_iload_n hx hb dX12_givesAs_0 rfl (lv_at hl 1 rfl) ?_
  refine lv_iconst (v := 5) hx hb dX12_givesAs_1 (by decide) ?_
  refine lv_icmp_ne (tgt := 30) hx hb dX12_givesAs_2 (by decide) (fun _ => ?_) (fun c => absurd c (by decide))
  refine lv_iload_n hx hb dX12_givesAs_30 rfl (lv_at hl 1 rfl) ?_
  refine lv_iconst (v := 2) hx hb dX12_givesAs_31 (by decide) ?_
  refine lv_icmp_eq (tgt := 40) hx hb dX12_givesAs_32 (by decide) (fun c => absurd c (by decide)) (fun _ => ?_)
  refine lv_iload_n hx hb dX12_givesAs_35 rfl (lv_at hl 1 rfl) ?_
  refine lv_iconst (v := 3) hx hb dX12_givesAs_36 (by decide) ?_
  refine lv_icmp_ne (tgt := 55) hx hb dX12_givesAs_37 (by decide) (fun _ => ?_) (fun c => absurd c (by decide))
  refine lv_aload_n hx hb dX12_givesAs_55 rfl (lv_at hl 0 rfl) ?_
  refine lv_bipush (v := 11) hx hb dX12_givesAs_56 (by decide) ?_
  refine jcallVv (As := [.int 11]) (rest := []) ⟨hx, hb, hml, hown, hts⟩ hK hP hA hS hZ (c_X12_begins_11_0 l D cI cL ad zz hJ σ τ h55_55) cw_RX12_379 (jc_55 cI cL ad σ τ) rfl ⟨Nat.le_of_ble_eq_true rfl, Nat.le_of_ble_eq_true rfl⟩ rfl rfl rfl hl.1 rfl (Nat.le_of_ble_eq_true rfl) dX12_givesAs_58 ⟨Nat.zero_le _, Nat.zero_le _⟩ (fun σ1 τ1 H locs h1 hP hS => ?_)
  obtain ⟨rfl, f3, f4, f5, m6, m7, h1⟩ := h1
  refine lv_iload_n hx hb dX12_givesAs_61 rfl (lv_at hl 2 rfl) ?_
  refine lv_aload_n hx hb dX12_givesAs_62 rfl (lv_at hl 0 rfl) ?_
  refine va_get (D := D) hx hb hts inlX12 hown hK hP 55 (jc_55 cI cL ad σ1 τ) rfl 57 (by decide) (hts _ kw_49_9) (fun _ h9 => h9) rfl dX12_givesAs_63 ?_
  have m8 : σ1 55 57 = (σ 55 57) := (f4 57 (by decide))
  refine jtopr m8 ?_
  refine lv_ixor hx hb dX12_givesAs_66 ?_
  refine lv_topi (fun x9 ex9 => ?_)
  have gx9 := jrg (rfl : x9.toInt = x9.toInt)
  exact hret x9 σ1 τ _ _ _ _ rfl ⟨rfl, (fun i hi => (f3 i hi)), (fun i hi => (f4 i hi)), (fun i hi => (f5 i hi)), m6, m7, ⟨(by rw [ex9]), trivial⟩⟩ hP hS dX12_givesAs_67
set_option maxHeartbeats 4000000 in
set_option maxRecDepth 100000 in
theorem c_X12_begins_20_2 (l : Launch) (D : va_G) (cI cL : ClassId) (ad zz : Nat → Nat) (hJ : jD ad) (σ : Nat → Nat → Int32) (τ : Nat → Nat → Int64) (h55_55 : σ 55 55 = 2) : jMv l yX12_begins cX12_begins 2 none ({ frames := 0, cells := 0, slots := 0, locals := 0 }) D cI cL ad zz [.ref (ad 55), .int 20] σ τ (fun σ' τ' => τ = τ' ∧ (∀ i : Nat, (i < 55 ∨ 55 < i) ∧ (i < 85 ∨ 85 < i) → σ' i = σ i) ∧ (∀ k : Nat, (k < 55 ∨ 55 < k) → σ' 55 k = σ 55 k) ∧ (∀ k : Nat, (k < 2 ∨ 2 < k) → σ' 85 k = σ 85 k) ∧ (σ' 55 55 = 3) ∧ (σ' 85 2 = 20) ∧ True) := by
  refine jMv.of hJ (by decide +kernel) rfl (Nat.le_of_ble_eq_true rfl) ?_
  intro p e s m args below meth c Q ls hC hret hl hP
  obtain ⟨hx, hb, hr, hml, hown, hts, hK, -, hlocks, hZ⟩ := hC
  have hown : s.vm.findClass RX12 = some m.cls := hown
  have hS : va_S (jA ad) s.heap s.heap [] := va_S.rf
  have hA : ∀ q, jA ad q → jA ad q := fun _ h => h
  have hl : lv_has ls 2 [(0, .ref (ad 55)), (1, .int 20)] := hl
  refine lv_aload_n hx hb dX12_begins_0 rfl (lv_at hl 0 rfl) ?_
  refine va_get (D := D) hx hb hts inlX12 hown hK hP 55 (jc_55 cI cL ad σ τ) rfl 55 (by decide) (hts _ kw_49_7) (fun _ h9 => h9) rfl dX12_begins_1 ?_
  refine jtopr h55_55 ?_
  refine lv_bipush (v := 24) hx hb dX12_begins_4 (by decide) ?_
  refine lv_icmp_ge (tgt := 19) hx hb dX12_begins_6 (by decide) (fun c => absurd c (by decide)) (fun _ => ?_)
  refine lv_aload_n hx hb dX12_begins_9 rfl (lv_at hl 0 rfl) ?_
  refine va_get (D := D) hx hb hts inlX12 hown hK hP 55 (jc_55 cI cL ad σ τ) rfl 54 (by decide) (hts _ kw_8_10) (fun _ h9 => h9) rfl dX12_begins_10 ?_
  refine lv_aload_n hx hb dX12_begins_13 rfl (lv_at hl 0 rfl) ?_
  refine va_get (D := D) hx hb hts inlX12 hown hK hP 55 (jc_55 cI cL ad σ τ) rfl 55 (by decide) (hts _ kw_49_7) (fun _ h9 => h9) rfl dX12_begins_14 ?_
  refine jtopr h55_55 ?_
  refine lv_iload_n hx hb dX12_begins_17 rfl (lv_at hl 1 rfl) ?_
  refine jast hx hb hK hP hJ hA hS (jc_85 cI cL ad σ τ) (ja_85 cI cL ad σ τ _ _) (jin jz_2 (by omega) (by omega)) dX12_begins_18 (fun σ1 H locs eσ1 hP hS => ?_)
  have eσ1 : σ1 = jup σ 85 2 20 := eσ1
  refine lv_aload_n hx hb dX12_begins_19 rfl (lv_at hl 0 rfl) ?_
  refine lv_dup hx hb dX12_begins_20 rfl ?_
  refine va_get (D := D) hx hb hts inlX12 hown hK hP 55 (jc_55 cI cL ad σ1 τ) rfl 55 (by decide) (hts _ kw_49_7) (fun _ h9 => h9) rfl dX12_begins_21 ?_
  have m2 : σ1 55 55 = 2 := ((congrFun (jnp 55 eσ1 (by decide)) 55).trans h55_55)
  refine jtopr m2 ?_
  refine lv_iconst (v := 1) hx hb dX12_begins_24 (by decide) ?_
  refine lv_iadd hx hb dX12_begins_25 ?_
  refine jtopr (y := 3) (by decide) ?_
  refine jput (ty := .int) hx hb hts inlX12 tyX12 tyX12_ok nmX12 hown hK hP hJ hA hS (jc_55 cI cL ad σ1 τ) rfl (k := 55) (by decide) (Nat.le_of_ble_eq_true rfl) (jp_55_55 cI cL ad σ1 τ 3) (hts _ kw_49_7) (fun _ h9 => h9) rfl (by decide +kernel) rfl rfl dX12_begins_26 (fun σ3 H locs eσ3 hP hS => ?_)
  have m4 : σ3 55 55 = 3 := (jsp eσ3)
  have m5 : σ3 85 2 = 20 := ((congrFun (jnp 85 eσ3 (by decide)) 2).trans (jsp eσ1))
  exact hret σ3 τ _ _ _ _ ⟨rfl, (fun i hi => ((jnp i eσ3 (imp_345 i hi)).trans (jnp i eσ1 (imp_346 i hi)))), (fun i hi => ((jkp i eσ3 (imp_164 i hi)).trans (congrFun (jnp 55 eσ1 (by decide)) i))), (fun i hi => ((congrFun (jnp 85 eσ3 (by decide)) i).trans (jkp i eσ1 (imp_7 i hi)))), m4, m5, trivial⟩ hP hS dX12_begins_29
set_option maxHeartbeats 4000000 in
set_option maxRecDepth 100000 in
theorem c_X12_begins_1_3 (l : Launch) (D : va_G) (cI cL : ClassId) (ad zz : Nat → Nat) (hJ : jD ad) (σ : Nat → Nat → Int32) (τ : Nat → Nat → Int64) (h55_55 : σ 55 55 = 3) : jMv l yX12_begins cX12_begins 2 none ({ frames := 0, cells := 0, slots := 0, locals := 0 }) D cI cL ad zz [.ref (ad 55), .int 1] σ τ (fun σ' τ' => τ = τ' ∧ (∀ i : Nat, (i < 55 ∨ 55 < i) ∧ (i < 85 ∨ 85 < i) → σ' i = σ i) ∧ (∀ k : Nat, (k < 55 ∨ 55 < k) → σ' 55 k = σ 55 k) ∧ (∀ k : Nat, (k < 3 ∨ 3 < k) → σ' 85 k = σ 85 k) ∧ (σ' 55 55 = 4) ∧ (σ' 85 3 = 1) ∧ True) := by
  refine jMv.of hJ (by decide +kernel) rfl (Nat.le_of_ble_eq_true rfl) ?_
  intro p e s m args below meth c Q ls hC hret hl hP
  obtain ⟨hx, hb, hr, hml, hown, hts, hK, -, hlocks, hZ⟩ := hC
  have hown : s.vm.findClass RX12 = some m.cls := hown
  have hS : va_S (jA ad) s.heap s.heap [] := va_S.rf
  have hA : ∀ q, jA ad q → jA ad q := fun _ h => h
  have hl : lv_has ls 2 [(0, .ref (ad 55)), (1, .int 1)] := hl
  refine lv_aload_n hx hb dX12_begins_0 rfl (lv_at hl 0 rfl) ?_
  refine va_get (D := D) hx hb hts inlX12 hown hK hP 55 (jc_55 cI cL ad σ τ) rfl 55 (by decide) (hts _ kw_49_7) (fun _ h9 => h9) rfl dX12_begins_1 ?_
  refine jtopr h55_55 ?_
  refine lv_bipush (v := 24) hx hb dX12_begins_4 (by decide) ?_
  refine lv_icmp_ge (tgt := 19) hx hb dX12_begins_6 (by decide) (fun c => absurd c (by decide)) (fun _ => ?_)
  refine lv_aload_n hx hb dX12_begins_9 rfl (lv_at hl 0 rfl) ?_
  refine va_get (D := D) hx hb hts inlX12 hown hK hP 55 (jc_55 cI cL ad σ τ) rfl 54 (by decide) (hts _ kw_8_10) (fun _ h9 => h9) rfl dX12_begins_10 ?_
  refine lv_aload_n hx hb dX12_begins_13 rfl (lv_at hl 0 rfl) ?_
  refine va_get (D := D) hx hb hts inlX12 hown hK hP 55 (jc_55 cI cL ad σ τ) rfl 55 (by decide) (hts _ kw_49_7) (fun _ h9 => h9) rfl dX12_begins_14 ?_
  refine jtopr h55_55 ?_
  refine lv_iload_n hx hb dX12_begins_17 rfl (lv_at hl 1 rfl) ?_
  refine jast hx hb hK hP hJ hA hS (jc_85 cI cL ad σ τ) (ja_85 cI cL ad σ τ _ _) (jin jz_3 (by omega) (by omega)) dX12_begins_18 (fun σ1 H locs eσ1 hP hS => ?_)
  have eσ1 : σ1 = jup σ 85 3 1 := eσ1
  refine lv_aload_n hx hb dX12_begins_19 rfl (lv_at hl 0 rfl) ?_
  refine lv_dup hx hb dX12_begins_20 rfl ?_
  refine va_get (D := D) hx hb hts inlX12 hown hK hP 55 (jc_55 cI cL ad σ1 τ) rfl 55 (by decide) (hts _ kw_49_7) (fun _ h9 => h9) rfl dX12_begins_21 ?_
  have m2 : σ1 55 55 = 3 := ((congrFun (jnp 55 eσ1 (by decide)) 55).trans h55_55)
  refine jtopr m2 ?_
  refine lv_iconst (v := 1) hx hb dX12_begins_24 (by decide) ?_
  refine lv_iadd hx hb dX12_begins_25 ?_
  refine jtopr (y := 4) (by decide) ?_
  refine jput (ty := .int) hx hb hts inlX12 tyX12 tyX12_ok nmX12 hown hK hP hJ hA hS (jc_55 cI cL ad σ1 τ) rfl (k := 55) (by decide) (Nat.le_of_ble_eq_true rfl) (jp_55_55 cI cL ad σ1 τ 4) (hts _ kw_49_7) (fun _ h9 => h9) rfl (by decide +kernel) rfl rfl dX12_begins_26 (fun σ3 H locs eσ3 hP hS => ?_)
  have m4 : σ3 55 55 = 4 := (jsp eσ3)
  have m5 : σ3 85 3 = 1 := ((congrFun (jnp 85 eσ3 (by decide)) 3).trans (jsp eσ1))
  exact hret σ3 τ _ _ _ _ ⟨rfl, (fun i hi => ((jnp i eσ3 (imp_345 i hi)).trans (jnp i eσ1 (imp_346 i hi)))), (fun i hi => ((jkp i eσ3 (imp_164 i hi)).trans (congrFun (jnp 55 eσ1 (by decide)) i))), (fun i hi => ((congrFun (jnp 85 eσ3 (by decide)) i).trans (jkp i eσ1 (imp_303 i hi)))), m4, m5, trivial⟩ hP hS dX12_begins_29
set_option maxHeartbeats 4000000 in
set_option maxRecDepth 100000 in
theorem c_X12_putsAs_1_0_3 (l : Launch) (D : va_G) (cI cL : ClassId) (ad zz : Nat → Nat) (hJ : jD ad) (σ : Nat → Nat → Int32) (τ : Nat → Nat → Int64) (a2 : Int32) (A2 : Int) (t2 : a2.toInt = A2) (h55_55 : σ 55 55 = 3) (hp0 : (σ 55 56).toInt = 1) : jM l yX12_putsAs cX12_putsAs 3 (some .int) ({ frames := 1, cells := 0, slots := 0, locals := 21 }) D cI cL ad zz [.ref (ad 55), .int 0, .int a2] σ τ (fun r σ' τ' => τ = τ' ∧ (∀ i : Nat, (i < 55 ∨ 55 < i) ∧ (i < 85 ∨ 85 < i) → σ' i = σ i) ∧ (∀ k : Nat, (k < 55 ∨ 55 < k) → σ' 55 k = σ 55 k) ∧ (∀ k : Nat, (k < 3 ∨ 3 < k) → σ' 85 k = σ 85 k) ∧ (σ' 55 55 = 4) ∧ (σ' 85 3 = 1) ∧ ((r = (a2 + (σ 55 57)) ∧ True))) := by
  refine jM.of hJ (by decide +kernel) (nt := .int) rfl (Nat.le_of_ble_eq_true rfl) ?_
  intro p e s m args below meth c Q ls hC hret hl hP
  obtain ⟨hx, hb, hr, hml, hown, hts, hK, -, hlocks, hZ⟩ := hC
  have hown : s.vm.findClass RX12 = some m.cls := hown
  have hS : va_S (jA ad) s.heap s.heap [] := va_S.rf
  have hA : ∀ q, jA ad q → jA ad q := fun _ h => h
  have hl : lv_has ls 3 [(0, .ref (ad 55)), (1, .int 0), (2, .int a2)] := hl
  have g2 := jrg t2
  refine lv_iload_n hx hb dX12_putsAs_0 rfl (lv_at hl 1 rfl) ?_
  refine lv_iconst (v := 4) hx hb dX12_putsAs_1 (by decide) ?_
  refine lv_icmp_ne (tgt := 20) hx hb dX12_putsAs_2 (by decide) (fun _ => ?_) (fun c => absurd c (by decide))
  refine lv_iload_n hx hb dX12_putsAs_20 rfl (lv_at hl 1 rfl) ?_
  refine lv_iconst (v := 1) hx hb dX12_putsAs_21 (by decide) ?_
  refine lv_icmp_ne (tgt := 40) hx hb dX12_putsAs_22 (by decide) (fun _ => ?_) (fun c => absurd c (by decide))
  refine lv_aload_n hx hb dX12_putsAs_40 rfl (lv_at hl 0 rfl) ?_
  refine lv_iconst (v := 1) hx hb dX12_putsAs_41 (by decide) ?_
  refine jcallVv (As := [.int 1]) (rest := []) ⟨hx, hb, hml, hown, hts⟩ hK hP hA hS hZ (c_X12_begins_1_3 l D cI cL ad zz hJ σ τ h55_55) cw_RX12_379 (jc_55 cI cL ad σ τ) rfl ⟨Nat.le_of_ble_eq_true rfl, Nat.le_of_ble_eq_true rfl⟩ rfl rfl rfl hl.1 rfl (Nat.le_of_ble_eq_true rfl) dX12_putsAs_42 ⟨Nat.zero_le _, Nat.zero_le _⟩ (fun σ1 τ1 H locs h1 hP hS => ?_)
  obtain ⟨rfl, f3, f4, f5, m6, m7, h1⟩ := h1
  refine lv_iload_n hx hb dX12_putsAs_45 rfl (lv_at hl 2 rfl) ?_
  refine lv_aload_n hx hb dX12_putsAs_46 rfl (lv_at hl 0 rfl) ?_
  refine va_get (D := D) hx hb hts inlX12 hown hK hP 55 (jc_55 cI cL ad σ1 τ) rfl 57 (by decide) (hts _ kw_49_9) (fun _ h9 => h9) rfl dX12_putsAs_47 ?_
  have m8 : σ1 55 57 = (σ 55 57) := (f4 57 (by decide))
  refine jtopr m8 ?_
  have g9 := jrg (rfl : (σ 55 57).toInt = (σ 55 57).toInt)
  refine lv_iadd hx hb dX12_putsAs_50 ?_
  refine lv_topi (fun x10 ex10 => ?_)
  have gx10 := jrg (rfl : x10.toInt = x10.toInt)
  exact hret x10 σ1 τ _ _ _ _ rfl ⟨rfl, (fun i hi => (f3 i hi)), (fun i hi => (f4 i hi)), (fun i hi => (f5 i hi)), m6, m7, ⟨(by rw [ex10]), trivial⟩⟩ hP hS dX12_putsAs_51
set_option maxHeartbeats 4000000 in
set_option maxRecDepth 100000 in
theorem c_X12_putsAs_1_1_2 (l : Launch) (D : va_G) (cI cL : ClassId) (ad zz : Nat → Nat) (hJ : jD ad) (σ : Nat → Nat → Int32) (τ : Nat → Nat → Int64) (a2 : Int32) (A2 : Int) (t2 : a2.toInt = A2) (h55_55 : σ 55 55 = 2) (hp0 : (σ 55 56).toInt = 1) : jM l yX12_putsAs cX12_putsAs 3 (some .int) ({ frames := 2, cells := 0, slots := 0, locals := 43 }) D cI cL ad zz [.ref (ad 55), .int 1, .int a2] σ τ (fun r σ' τ' => τ = τ' ∧ (∀ i : Nat, (i < 55 ∨ 55 < i) ∧ (i < 85 ∨ 85 < i) → σ' i = σ i) ∧ (∀ k : Nat, (k < 55 ∨ 55 < k) → σ' 55 k = σ 55 k) ∧ (∀ k : Nat, (k < 2 ∨ 2 < k) ∧ (k < 3 ∨ 3 < k) → σ' 85 k = σ 85 k) ∧ (σ' 55 55 = 4) ∧ (σ' 85 2 = 20) ∧ (σ' 85 3 = 1) ∧ ((r = ((a2 + (σ 55 57)) + 3) ∧ True))) := by
  refine jM.of hJ (by decide +kernel) (nt := .int) rfl (Nat.le_of_ble_eq_true rfl) ?_
  intro p e s m args below meth c Q ls hC hret hl hP
  obtain ⟨hx, hb, hr, hml, hown, hts, hK, -, hlocks, hZ⟩ := hC
  have hown : s.vm.findClass RX12 = some m.cls := hown
  have hS : va_S (jA ad) s.heap s.heap [] := va_S.rf
  have hA : ∀ q, jA ad q → jA ad q := fun _ h => h
  have hl : lv_has ls 3 [(0, .ref (ad 55)), (1, .int 1), (2, .int a2)] := hl
  have g2 := jrg t2
  refine lv_iload_n hx hb dX12_putsAs_0 rfl (lv_at hl 1 rfl) ?_
  refine lv_iconst (v := 4) hx hb dX12_putsAs_1 (by decide) ?_
  refine lv_icmp_ne (tgt := 20) hx hb dX12_putsAs_2 (by decide) (fun _ => ?_) (fun c => absurd c (by decide))
  refine lv_iload_n hx hb dX12_putsAs_20 rfl (lv_at hl 1 rfl) ?_
  refine lv_iconst (v := 1) hx hb dX12_putsAs_21 (by decide) ?_
  refine lv_icmp_ne (tgt := 40) hx hb dX12_putsAs_22 (by decide) (fun c => absurd (by decide) c) (fun _ => ?_)
  refine lv_aload_n hx hb dX12_putsAs_25 rfl (lv_at hl 0 rfl) ?_
  refine lv_bipush (v := 20) hx hb dX12_putsAs_26 (by decide) ?_
  refine jcallVv (As := [.int 20]) (rest := []) ⟨hx, hb, hml, hown, hts⟩ hK hP hA hS hZ (c_X12_begins_20_2 l D cI cL ad zz hJ σ τ h55_55) cw_RX12_379 (jc_55 cI cL ad σ τ) rfl ⟨Nat.le_of_ble_eq_true rfl, Nat.le_of_ble_eq_true rfl⟩ rfl rfl rfl hl.1 rfl (Nat.le_of_ble_eq_true rfl) dX12_putsAs_28 ⟨Nat.zero_le _, Nat.zero_le _⟩ (fun σ1 τ1 H locs h1 hP hS => ?_)
  obtain ⟨rfl, f3, f4, f5, m6, m7, h1⟩ := h1
  refine lv_aload_n hx hb dX12_putsAs_31 rfl (lv_at hl 0 rfl) ?_
  refine lv_iconst (v := 0) hx hb dX12_putsAs_32 (by decide) ?_
  refine lv_iload_n hx hb dX12_putsAs_33 rfl (lv_at hl 2 rfl) ?_
  have z8 : (σ1 55 56).toInt = (σ 55 56).toInt := (congrArg Int32.toInt (show σ1 55 56 = (σ 55 56) from (f4 56 (by decide))))
  refine jcallV (As := [.int 0, .int a2]) (rest := []) ⟨hx, hb, hml, hown, hts⟩ hK hP hA hS hZ (c_X12_putsAs_1_0_3 l D cI cL ad zz hJ σ1 τ a2 (A2) t2 m6 (by omega)) cw_RX12_382 (jc_55 cI cL ad σ1 τ) rfl ⟨Nat.le_of_ble_eq_true rfl, Nat.le_of_ble_eq_true rfl⟩ rfl rfl rfl hl.1 rfl (Nat.le_of_ble_eq_true rfl) dX12_putsAs_34 ⟨Nat.zero_le _, Nat.zero_le _⟩ (fun r10 σ9 τ9 H locs h9 hP hS => ?_)
  obtain ⟨rfl, f11, f12, f13, m14, m15, h9⟩ := h9
  have h16 := h9
  obtain ⟨q18, k17⟩ := h16
  have q18 := q18.symm
  subst q18
  refine lv_iconst (v := 3) hx hb dX12_putsAs_37 (by decide) ?_
  have g19 := jrg (rfl : (a2 + (σ1 55 57)).toInt = (a2 + (σ1 55 57)).toInt)
  refine lv_iadd hx hb dX12_putsAs_38 ?_
  refine lv_topi (fun x20 ex20 => ?_)
  have gx20 := jrg (rfl : x20.toInt = x20.toInt)
  have m21 : σ9 85 2 = 20 := ((f13 2 (by decide)).trans m7)
  exact hret x20 σ9 τ _ _ _ _ rfl ⟨rfl, (fun i hi => ((f11 i hi).trans (f3 i hi))), (fun i hi => ((f12 i hi).trans (f4 i hi))), (fun i hi => ((f13 i (imp_307 i hi)).trans (f5 i (imp_19 i hi)))), m14, m21, m15, ⟨(by rw [ex20, (show σ1 55 57 = σ 55 57 from (f4 57 (by decide)))]), trivial⟩⟩ hP hS dX12_putsAs_39
set_option maxHeartbeats 4000000 in
set_option maxRecDepth 100000 in
theorem c_X12_holdsAs_1_1_1 (l : Launch) (D : va_G) (cI cL : ClassId) (ad zz : Nat → Nat) (hJ : jD ad) (σ : Nat → Nat → Int32) (τ : Nat → Nat → Int64) (a2 : Int32) (A2 : Int) (t2 : a2.toInt = A2) (h55_55 : σ 55 55 = 1) (hp0 : (σ 55 56).toInt = 1) : jM l yX12_holdsAs cX12_holdsAs 4 (some .int) ({ frames := 3, cells := 0, slots := 0, locals := 65 }) D cI cL ad zz [.ref (ad 55), .int 1, .int a2] σ τ (fun r σ' τ' => τ = τ' ∧ (∀ i : Nat, (i < 55 ∨ 55 < i) ∧ (i < 85 ∨ 85 < i) → σ' i = σ i) ∧ (∀ k : Nat, (k < 55 ∨ 55 < k) → σ' 55 k = σ 55 k) ∧ (∀ k : Nat, (k < 1 ∨ 1 < k) ∧ (k < 2 ∨ 2 < k) ∧ (k < 3 ∨ 3 < k) → σ' 85 k = σ 85 k) ∧ (σ' 55 55 = 4) ∧ (σ' 85 1 = 10) ∧ (σ' 85 2 = 20) ∧ (σ' 85 3 = 1) ∧ ((r = (((a2 + (σ 55 57)) + 3) * 2) ∧ True))) := by
  refine jM.of hJ (by decide +kernel) (nt := .int) rfl (Nat.le_of_ble_eq_true rfl) ?_
  intro p e s m args below meth c Q ls hC hret hl hP
  obtain ⟨hx, hb, hr, hml, hown, hts, hK, -, hlocks, hZ⟩ := hC
  have hown : s.vm.findClass RX12 = some m.cls := hown
  have hS : va_S (jA ad) s.heap s.heap [] := va_S.rf
  have hA : ∀ q, jA ad q → jA ad q := fun _ h => h
  have hl : lv_has ls 4 [(0, .ref (ad 55)), (1, .int 1), (2, .int a2)] := hl
  have g2 := jrg t2
  refine lv_iload_n hx hb dX12_holdsAs_0 rfl (lv_at hl 1 rfl) ?_
  refine lv_iconst (v := 3) hx hb dX12_holdsAs_1 (by decide) ?_
  refine lv_icmp_eq (tgt := 10) hx hb dX12_holdsAs_2 (by decide) (fun c => absurd c (by decide)) (fun _ => ?_)
  refine lv_iload_n hx hb dX12_holdsAs_5 rfl (lv_at hl 1 rfl) ?_
  refine lv_iconst (v := 5) hx hb dX12_holdsAs_6 (by decide) ?_
  refine lv_icmp_ne (tgt := 24) hx hb dX12_holdsAs_7 (by decide) (fun _ => ?_) (fun c => absurd c (by decide))
  refine lv_iload_n hx hb dX12_holdsAs_24 rfl (lv_at hl 1 rfl) ?_
  refine lv_bipush (v := 6) hx hb dX12_holdsAs_25 (by decide) ?_
  refine lv_icmp_ne (tgt := 55) hx hb dX12_holdsAs_27 (by decide) (fun _ => ?_) (fun c => absurd c (by decide))
  refine lv_aload_n hx hb dX12_holdsAs_55 rfl (lv_at hl 0 rfl) ?_
  refine lv_bipush (v := 10) hx hb dX12_holdsAs_56 (by decide) ?_
  refine jcallVv (As := [.int 10]) (rest := []) ⟨hx, hb, hml, hown, hts⟩ hK hP hA hS hZ (c_X12_begins_10_1 l D cI cL ad zz hJ σ τ h55_55) cw_RX12_379 (jc_55 cI cL ad σ τ) rfl ⟨Nat.le_of_ble_eq_true rfl, Nat.le_of_ble_eq_true rfl⟩ rfl rfl rfl hl.1 rfl (Nat.le_of_ble_eq_true rfl) dX12_holdsAs_58 ⟨Nat.zero_le _, Nat.zero_le _⟩ (fun σ1 τ1 H locs h1 hP hS => ?_)
  obtain ⟨rfl, f3, f4, f5, m6, m7, h1⟩ := h1
  refine lv_aload_n hx hb dX12_holdsAs_61 rfl (lv_at hl 0 rfl) ?_
  refine lv_aload_n hx hb dX12_holdsAs_62 rfl (lv_at hl 0 rfl) ?_
  refine va_get (D := D) hx hb hts inlX12 hown hK hP 55 (jc_55 cI cL ad σ1 τ) rfl 56 (by decide) (hts _ kw_49_8) (fun _ h9 => h9) rfl dX12_holdsAs_63 ?_
  have m8 : σ1 55 56 = (σ 55 56) := (f4 56 (by decide))
  refine jtopr m8 ?_
  refine jtopr (jsame (rfl : (σ 55 56).toInt = (σ 55 56).toInt) jz_1 (by omega)) ?_
  refine lv_iload_n hx hb dX12_holdsAs_66 rfl (lv_at hl 2 rfl) ?_
  have z9 : (σ1 55 56).toInt = (σ 55 56).toInt := (congrArg Int32.toInt (show σ1 55 56 = (σ 55 56) from m8))
  refine jcallV (As := [.int 1, .int a2]) (rest := []) ⟨hx, hb, hml, hown, hts⟩ hK hP hA hS hZ (c_X12_putsAs_1_1_2 l D cI cL ad zz hJ σ1 τ a2 (A2) t2 m6 (by omega)) cw_RX12_382 (jc_55 cI cL ad σ1 τ) rfl ⟨Nat.le_of_ble_eq_true rfl, Nat.le_of_ble_eq_true rfl⟩ rfl rfl rfl hl.1 rfl (Nat.le_of_ble_eq_true rfl) dX12_holdsAs_67 ⟨Nat.zero_le _, Nat.zero_le _⟩ (fun r11 σ10 τ10 H locs h10 hP hS => ?_)
  obtain ⟨rfl, f12, f13, f14, m15, m16, m17, h10⟩ := h10
  have h18 := h10
  obtain ⟨q20, k19⟩ := h18
  have q20 := q20.symm
  subst q20
  refine lv_iconst (v := 2) hx hb dX12_holdsAs_70 (by decide) ?_
  have g21 := jrg (rfl : ((a2 + (σ1 55 57)) + 3).toInt = ((a2 + (σ1 55 57)) + 3).toInt)
  refine lv_imul hx hb dX12_holdsAs_71 ?_
  refine lv_topi (fun x22 ex22 => ?_)
  have gx22 := jrg (rfl : x22.toInt = x22.toInt)
  have m23 : σ10 85 1 = 10 := ((f14 1 (by decide)).trans m7)
  exact hret x22 σ10 τ _ _ _ _ rfl ⟨rfl, (fun i hi => ((f12 i hi).trans (f3 i hi))), (fun i hi => ((f13 i hi).trans (f4 i hi))), (fun i hi => ((f14 i (imp_308 i hi)).trans (f5 i (imp_350 i hi)))), m15, m23, m16, m17, ⟨(by rw [ex22, (show σ1 55 57 = σ 55 57 from (f4 57 (by decide)))]), trivial⟩⟩ hP hS dX12_holdsAs_72
set_option maxHeartbeats 4000000 in
set_option maxRecDepth 100000 in
theorem c_X12_begins_11_4 (l : Launch) (D : va_G) (cI cL : ClassId) (ad zz : Nat → Nat) (hJ : jD ad) (σ : Nat → Nat → Int32) (τ : Nat → Nat → Int64) (h55_55 : σ 55 55 = 4) : jMv l yX12_begins cX12_begins 2 none ({ frames := 0, cells := 0, slots := 0, locals := 0 }) D cI cL ad zz [.ref (ad 55), .int 11] σ τ (fun σ' τ' => τ = τ' ∧ (∀ i : Nat, (i < 55 ∨ 55 < i) ∧ (i < 85 ∨ 85 < i) → σ' i = σ i) ∧ (∀ k : Nat, (k < 55 ∨ 55 < k) → σ' 55 k = σ 55 k) ∧ (∀ k : Nat, (k < 4 ∨ 4 < k) → σ' 85 k = σ 85 k) ∧ (σ' 55 55 = 5) ∧ (σ' 85 4 = 11) ∧ True) := by
  refine jMv.of hJ (by decide +kernel) rfl (Nat.le_of_ble_eq_true rfl) ?_
  intro p e s m args below meth c Q ls hC hret hl hP
  obtain ⟨hx, hb, hr, hml, hown, hts, hK, -, hlocks, hZ⟩ := hC
  have hown : s.vm.findClass RX12 = some m.cls := hown
  have hS : va_S (jA ad) s.heap s.heap [] := va_S.rf
  have hA : ∀ q, jA ad q → jA ad q := fun _ h => h
  have hl : lv_has ls 2 [(0, .ref (ad 55)), (1, .int 11)] := hl
  refine lv_aload_n hx hb dX12_begins_0 rfl (lv_at hl 0 rfl) ?_
  refine va_get (D := D) hx hb hts inlX12 hown hK hP 55 (jc_55 cI cL ad σ τ) rfl 55 (by decide) (hts _ kw_49_7) (fun _ h9 => h9) rfl dX12_begins_1 ?_
  refine jtopr h55_55 ?_
  refine lv_bipush (v := 24) hx hb dX12_begins_4 (by decide) ?_
  refine lv_icmp_ge (tgt := 19) hx hb dX12_begins_6 (by decide) (fun c => absurd c (by decide)) (fun _ => ?_)
  refine lv_aload_n hx hb dX12_begins_9 rfl (lv_at hl 0 rfl) ?_
  refine va_get (D := D) hx hb hts inlX12 hown hK hP 55 (jc_55 cI cL ad σ τ) rfl 54 (by decide) (hts _ kw_8_10) (fun _ h9 => h9) rfl dX12_begins_10 ?_
  refine lv_aload_n hx hb dX12_begins_13 rfl (lv_at hl 0 rfl) ?_
  refine va_get (D := D) hx hb hts inlX12 hown hK hP 55 (jc_55 cI cL ad σ τ) rfl 55 (by decide) (hts _ kw_49_7) (fun _ h9 => h9) rfl dX12_begins_14 ?_
  refine jtopr h55_55 ?_
  refine lv_iload_n hx hb dX12_begins_17 rfl (lv_at hl 1 rfl) ?_
  refine jast hx hb hK hP hJ hA hS (jc_85 cI cL ad σ τ) (ja_85 cI cL ad σ τ _ _) (jin jz_4 (by omega) (by omega)) dX12_begins_18 (fun σ1 H locs eσ1 hP hS => ?_)
  have eσ1 : σ1 = jup σ 85 4 11 := eσ1
  refine lv_aload_n hx hb dX12_begins_19 rfl (lv_at hl 0 rfl) ?_
  refine lv_dup hx hb dX12_begins_20 rfl ?_
  refine va_get (D := D) hx hb hts inlX12 hown hK hP 55 (jc_55 cI cL ad σ1 τ) rfl 55 (by decide) (hts _ kw_49_7) (fun _ h9 => h9) rfl dX12_begins_21 ?_
  have m2 : σ1 55 55 = 4 := ((congrFun (jnp 55 eσ1 (by decide)) 55).trans h55_55)
  refine jtopr m2 ?_
  refine lv_iconst (v := 1) hx hb dX12_begins_24 (by decide) ?_
  refine lv_iadd hx hb dX12_begins_25 ?_
  refine jtopr (y := 5) (by decide) ?_
  refine jput (ty := .int) hx hb hts inlX12 tyX12 tyX12_ok nmX12 hown hK hP hJ hA hS (jc_55 cI cL ad σ1 τ) rfl (k := 55) (by decide) (Nat.le_of_ble_eq_true rfl) (jp_55_55 cI cL ad σ1 τ 5) (hts _ kw_49_7) (fun _ h9 => h9) rfl (by decide +kernel) rfl rfl dX12_begins_26 (fun σ3 H locs eσ3 hP hS => ?_)
  have m4 : σ3 55 55 = 5 := (jsp eσ3)
  have m5 : σ3 85 4 = 11 := ((congrFun (jnp 85 eσ3 (by decide)) 4).trans (jsp eσ1))
  exact hret σ3 τ _ _ _ _ ⟨rfl, (fun i hi => ((jnp i eσ3 (imp_345 i hi)).trans (jnp i eσ1 (imp_346 i hi)))), (fun i hi => ((jkp i eσ3 (imp_164 i hi)).trans (congrFun (jnp 55 eσ1 (by decide)) i))), (fun i hi => ((congrFun (jnp 85 eσ3 (by decide)) i).trans (jkp i eσ1 (imp_310 i hi)))), m4, m5, trivial⟩ hP hS dX12_begins_29
set_option maxHeartbeats 4000000 in
set_option maxRecDepth 100000 in
theorem c_X12_givesAs_1_1_4_x1 (l : Launch) (D : va_G) (cI cL : ClassId) (ad zz : Nat → Nat) (hJ : jD ad) (σ : Nat → Nat → Int32) (τ : Nat → Nat → Int64) (h55_55 : σ 55 55 = 4) (hp0 : (σ 55 56).toInt = 1) : jM l yX12_givesAs cX12_givesAs 4 (some .int) ({ frames := 1, cells := 0, slots := 0, locals := 21 }) D cI cL ad zz [.ref (ad 55), .int 1, .int 1] σ τ (fun r σ' τ' => τ = τ' ∧ (∀ i : Nat, (i < 55 ∨ 55 < i) ∧ (i < 85 ∨ 85 < i) → σ' i = σ i) ∧ (∀ k : Nat, (k < 55 ∨ 55 < k) → σ' 55 k = σ 55 k) ∧ (∀ k : Nat, (k < 4 ∨ 4 < k) → σ' 85 k = σ 85 k) ∧ (σ' 55 55 = 5) ∧ (σ' 85 4 = 11) ∧ ((r = (1 ^^^ (σ 55 57)) ∧ True))) := by
  refine jM.of hJ (by decide +kernel) (nt := .int) rfl (Nat.le_of_ble_eq_true rfl) ?_
  intro p e s m args below meth c Q ls hC hret hl hP
  obtain ⟨hx, hb, hr, hml, hown, hts, hK, -, hlocks, hZ⟩ := hC
  have hown : s.vm.findClass RX12 = some m.cls := hown
  have hS : va_S (jA ad) s.heap s.heap [] := va_S.rf
  have hA : ∀ q, jA ad q → jA ad q := fun _ h => h
  have hl : lv_has ls 4 [(0, .ref (ad 55)), (1, .int 1), (2, .int 1)] := hl
  refine lv_iload_n hx hb dX12_givesAs_0 rfl (lv_at hl 1 rfl) ?_
  refine lv_iconst (v := 5) hx hb dX12_givesAs_1 (by decide) ?_
  refine lv_icmp_ne (tgt := 30) hx hb dX12_givesAs_2 (by decide) (fun _ => ?_) (fun c => absurd c (by decide))
  refine lv_iload_n hx hb dX12_givesAs_30 rfl (lv_at hl 1 rfl) ?_
  refine lv_iconst (v := 2) hx hb dX12_givesAs_31 (by decide) ?_
  refine lv_icmp_eq (tgt := 40) hx hb dX12_givesAs_32 (by decide) (fun c => absurd c (by decide)) (fun _ => ?_)
  refine lv_iload_n hx hb dX12_givesAs_35 rfl (lv_at hl 1 rfl) ?_
  refine lv_iconst (v := 3) hx hb dX12_givesAs_36 (by decide) ?_
  refine lv_icmp_ne (tgt := 55) hx hb dX12_givesAs_37 (by decide) (fun _ => ?_) (fun c => absurd c (by decide))
  refine lv_aload_n hx hb dX12_givesAs_55 rfl (lv_at hl 0 rfl) ?_
  refine lv_bipush (v := 11) hx hb dX12_givesAs_56 (by decide) ?_
  refine jcallVv (As := [.int 11]) (rest := []) ⟨hx, hb, hml, hown, hts⟩ hK hP hA hS hZ (c_X12_begins_11_4 l D cI cL ad zz hJ σ τ h55_55) cw_RX12_379 (jc_55 cI cL ad σ τ) rfl ⟨Nat.le_of_ble_eq_true rfl, Nat.le_of_ble_eq_true rfl⟩ rfl rfl rfl hl.1 rfl (Nat.le_of_ble_eq_true rfl) dX12_givesAs_58 ⟨Nat.zero_le _, Nat.zero_le _⟩ (fun σ1 τ1 H locs h1 hP hS => ?_)
  obtain ⟨rfl, f3, f4, f5, m6, m7, h1⟩ := h1
  refine lv_iload_n hx hb dX12_givesAs_61 rfl (lv_at hl 2 rfl) ?_
  refine lv_aload_n hx hb dX12_givesAs_62 rfl (lv_at hl 0 rfl) ?_
  refine va_get (D := D) hx hb hts inlX12 hown hK hP 55 (jc_55 cI cL ad σ1 τ) rfl 57 (by decide) (hts _ kw_49_9) (fun _ h9 => h9) rfl dX12_givesAs_63 ?_
  have m8 : σ1 55 57 = (σ 55 57) := (f4 57 (by decide))
  refine jtopr m8 ?_
  refine lv_ixor hx hb dX12_givesAs_66 ?_
  refine lv_topi (fun x9 ex9 => ?_)
  have gx9 := jrg (rfl : x9.toInt = x9.toInt)
  exact hret x9 σ1 τ _ _ _ _ rfl ⟨rfl, (fun i hi => (f3 i hi)), (fun i hi => (f4 i hi)), (fun i hi => (f5 i hi)), m6, m7, ⟨(by rw [ex9]), trivial⟩⟩ hP hS dX12_givesAs_67
set_option maxHeartbeats 4000000 in
set_option maxRecDepth 100000 in
theorem c_X12_tellsAs_1_1_0 (l : Launch) (D : va_G) (cI cL : ClassId) (ad zz : Nat → Nat) (hJ : jD ad) (σ : Nat → Nat → Int32) (τ : Nat → Nat → Int64) (a2 : Int32) (A2 : Int) (t2 : a2.toInt = A2) (h55_55 : σ 55 55 = 0) (hp0 : (σ 55 56).toInt = 1) : jM l yX12_tellsAs cX12_tellsAs 4 (some .int) ({ frames := 4, cells := 0, slots := 0, locals := 88 }) D cI cL ad zz [.ref (ad 55), .int 1, .int a2] σ τ (fun r σ' τ' => τ = τ' ∧ (∀ i : Nat, (i < 55 ∨ 55 < i) ∧ (i < 85 ∨ 85 < i) → σ' i = σ i) ∧ (∀ k : Nat, (k < 55 ∨ 55 < k) → σ' 55 k = σ 55 k) ∧ (∀ k : Nat, (k < 0 ∨ 0 < k) ∧ (k < 1 ∨ 1 < k) ∧ (k < 2 ∨ 2 < k) ∧ (k < 3 ∨ 3 < k) ∧ (k < 4 ∨ 4 < k) → σ' 85 k = σ 85 k) ∧ (σ' 55 55 = 5) ∧ (σ' 85 0 = 2) ∧ (σ' 85 1 = 10) ∧ (σ' 85 2 = 20) ∧ (σ' 85 3 = 1) ∧ (σ' 85 4 = 11) ∧ ((r = ((((a2 + (σ 55 57)) + 3) * 2) - (1 ^^^ (σ 55 57))) ∧ True))) := by
  refine jM.of hJ (by decide +kernel) (nt := .int) rfl (Nat.le_of_ble_eq_true rfl) ?_
  intro p e s m args below meth c Q ls hC hret hl hP
  obtain ⟨hx, hb, hr, hml, hown, hts, hK, -, hlocks, hZ⟩ := hC
  have hown : s.vm.findClass RX12 = some m.cls := hown
  have hS : va_S (jA ad) s.heap s.heap [] := va_S.rf
  have hA : ∀ q, jA ad q → jA ad q := fun _ h => h
  have hl : lv_has ls 4 [(0, .ref (ad 55)), (1, .int 1), (2, .int a2)] := hl
  have g2 := jrg t2
  refine lv_iload_n hx hb dX12_tellsAs_0 rfl (lv_at hl 1 rfl) ?_
  refine lv_iconst (v := 4) hx hb dX12_tellsAs_1 (by decide) ?_
  refine lv_icmp_ne (tgt := 20) hx hb dX12_tellsAs_2 (by decide) (fun _ => ?_) (fun c => absurd c (by decide))
  refine lv_aload_n hx hb dX12_tellsAs_20 rfl (lv_at hl 0 rfl) ?_
  refine lv_iconst (v := 2) hx hb dX12_tellsAs_21 (by decide) ?_
  refine jcallVv (As := [.int 2]) (rest := []) ⟨hx, hb, hml, hown, hts⟩ hK hP hA hS hZ (c_X12_begins_2_0 l D cI cL ad zz hJ σ τ h55_55) cw_RX12_379 (jc_55 cI cL ad σ τ) rfl ⟨Nat.le_of_ble_eq_true rfl, Nat.le_of_ble_eq_true rfl⟩ rfl rfl rfl hl.1 rfl (Nat.le_of_ble_eq_true rfl) dX12_tellsAs_22 ⟨Nat.zero_le _, Nat.zero_le _⟩ (fun σ1 τ1 H locs h1 hP hS => ?_)
  obtain ⟨rfl, f3, f4, f5, m6, m7, h1⟩ := h1
  refine lv_aload_n hx hb dX12_tellsAs_25 rfl (lv_at hl 0 rfl) ?_
  refine lv_aload_n hx hb dX12_tellsAs_26 rfl (lv_at hl 0 rfl) ?_
  refine va_get (D := D) hx hb hts inlX12 hown hK hP 55 (jc_55 cI cL ad σ1 τ) rfl 56 (by decide) (hts _ kw_49_8) (fun _ h9 => h9) rfl dX12_tellsAs_27 ?_
  have m8 : σ1 55 56 = (σ 55 56) := (f4 56 (by decide))
  refine jtopr m8 ?_
  refine jtopr (jsame (rfl : (σ 55 56).toInt = (σ 55 56).toInt) jz_1 (by omega)) ?_
  refine lv_iload_n hx hb dX12_tellsAs_30 rfl (lv_at hl 2 rfl) ?_
  have z9 : (σ1 55 56).toInt = (σ 55 56).toInt := (congrArg Int32.toInt (show σ1 55 56 = (σ 55 56) from m8))
  refine jcallV (As := [.int 1, .int a2]) (rest := []) ⟨hx, hb, hml, hown, hts⟩ hK hP hA hS hZ (c_X12_holdsAs_1_1_1 l D cI cL ad zz hJ σ1 τ a2 (A2) t2 m6 (by omega)) cw_RX12_388 (jc_55 cI cL ad σ1 τ) rfl ⟨Nat.le_of_ble_eq_true rfl, Nat.le_of_ble_eq_true rfl⟩ rfl rfl rfl hl.1 rfl (Nat.le_of_ble_eq_true rfl) dX12_tellsAs_31 ⟨Nat.zero_le _, Nat.zero_le _⟩ (fun r11 σ10 τ10 H locs h10 hP hS => ?_)
  obtain ⟨rfl, f12, f13, f14, m15, m16, m17, m18, h10⟩ := h10
  have h19 := h10
  obtain ⟨q21, k20⟩ := h19
  have q21 := q21.symm
  subst q21
  refine lv_istore_n (lv' := [(3, .int (((a2 + (σ1 55 57)) + 3) * 2)), (0, .ref (ad 55)), (1, .int 1), (2, .int a2)]) hx hb dX12_tellsAs_34 rfl hl (by decide) rfl (fun ls hl => ?_)
  refine lv_iload_n hx hb dX12_tellsAs_35 rfl (lv_at hl 0 rfl) ?_
  refine lv_aload_n hx hb dX12_tellsAs_36 rfl (lv_at hl 1 rfl) ?_
  refine lv_aload_n hx hb dX12_tellsAs_37 rfl (lv_at hl 1 rfl) ?_
  refine va_get (D := D) hx hb hts inlX12 hown hK hP 55 (jc_55 cI cL ad σ10 τ) rfl 56 (by decide) (hts _ kw_49_8) (fun _ h9 => h9) rfl dX12_tellsAs_38 ?_
  have m22 : σ10 55 56 = (σ 55 56) := ((f13 56 (by decide)).trans m8)
  refine jtopr m22 ?_
  refine jtopr (jsame (rfl : (σ 55 56).toInt = (σ 55 56).toInt) jz_1 (by omega)) ?_
  refine lv_iconst (v := 1) hx hb dX12_tellsAs_41 (by decide) ?_
  have z23 : (σ10 55 56).toInt = (σ 55 56).toInt := (congrArg Int32.toInt (show σ10 55 56 = (σ 55 56) from m22))
  refine jcallV (As := [.int 1, .int 1]) (rest := [.int (((a2 + (σ1 55 57)) + 3) * 2)]) ⟨hx, hb, hml, hown, hts⟩ hK hP hA hS hZ (c_X12_givesAs_1_1_4_x1 l D cI cL ad zz hJ σ10 τ m15 (by omega)) cw_RX12_394 (jc_55 cI cL ad σ10 τ) rfl ⟨Nat.le_of_ble_eq_true rfl, Nat.le_of_ble_eq_true rfl⟩ rfl rfl rfl hl.1 rfl (Nat.le_of_ble_eq_true rfl) dX12_tellsAs_42 ⟨Nat.zero_le _, Nat.zero_le _⟩ (fun r25 σ24 τ24 H locs h24 hP hS => ?_)
  obtain ⟨rfl, f26, f27, f28, m29, m30, h24⟩ := h24
  have h31 := h24
  obtain ⟨q33, k32⟩ := h31
  have q33 := q33.symm
  subst q33
  have g34 := jrg (rfl : (((a2 + (σ1 55 57)) + 3) * 2).toInt = (((a2 + (σ1 55 57)) + 3) * 2).toInt)
  have g35 := jrg (rfl : (1 ^^^ (σ10 55 57)).toInt = (1 ^^^ (σ10 55 57)).toInt)
  refine lv_isub hx hb dX12_tellsAs_45 ?_
  refine lv_topi (fun x36 ex36 => ?_)
  have gx36 := jrg (rfl : x36.toInt = x36.toInt)
  have m37 : σ24 85 0 = 2 := ((f28 0 (by decide)).trans ((f14 0 (by decide)).trans m7))
  have m38 : σ24 85 1 = 10 := ((f28 1 (by decide)).trans m16)
  have m39 : σ24 85 2 = 20 := ((f28 2 (by decide)).trans m17)
  have m40 : σ24 85 3 = 1 := ((f28 3 (by decide)).trans m18)
  exact hret x36 σ24 τ _ _ _ _ rfl ⟨rfl, (fun i hi => ((f26 i hi).trans ((f12 i hi).trans (f3 i hi)))), (fun i hi => ((f27 i hi).trans ((f13 i hi).trans (f4 i hi)))), (fun i hi => ((f28 i (imp_311 i hi)).trans ((f14 i (imp_312 i hi)).trans (f5 i (imp_351 i hi))))), m29, m37, m38, m39, m40, m30, ⟨(by rw [ex36, (show σ1 55 57 = σ 55 57 from (f4 57 (by decide))), (show σ10 55 57 = σ 55 57 from ((f13 57 (by decide)).trans (f4 57 (by decide))))]), trivial⟩⟩ hP hS dX12_tellsAs_46
set_option maxHeartbeats 4000000 in
set_option maxRecDepth 100000 in
theorem c_X12_putsAs_2_2_0 (l : Launch) (D : va_G) (cI cL : ClassId) (ad zz : Nat → Nat) (hJ : jD ad) (σ : Nat → Nat → Int32) (τ : Nat → Nat → Int64) (a2 : Int32) (A2 : Int) (t2 : a2.toInt = A2) (h55_55 : σ 55 55 = 0) (hp0 : (σ 55 56).toInt = 2) : jM l yX12_putsAs cX12_putsAs 3 (some .int) ({ frames := 1, cells := 0, slots := 0, locals := 21 }) D cI cL ad zz [.ref (ad 55), .int 2, .int a2] σ τ (fun r σ' τ' => τ = τ' ∧ (∀ i : Nat, (i < 55 ∨ 55 < i) ∧ (i < 85 ∨ 85 < i) → σ' i = σ i) ∧ (∀ k : Nat, (k < 55 ∨ 55 < k) → σ' 55 k = σ 55 k) ∧ (∀ k : Nat, (k < 0 ∨ 0 < k) → σ' 85 k = σ 85 k) ∧ (σ' 55 55 = 1) ∧ (σ' 85 0 = 1) ∧ ((r = (a2 + (σ 55 57)) ∧ True))) := by
  refine jM.of hJ (by decide +kernel) (nt := .int) rfl (Nat.le_of_ble_eq_true rfl) ?_
  intro p e s m args below meth c Q ls hC hret hl hP
  obtain ⟨hx, hb, hr, hml, hown, hts, hK, -, hlocks, hZ⟩ := hC
  have hown : s.vm.findClass RX12 = some m.cls := hown
  have hS : va_S (jA ad) s.heap s.heap [] := va_S.rf
  have hA : ∀ q, jA ad q → jA ad q := fun _ h => h
  have hl : lv_has ls 3 [(0, .ref (ad 55)), (1, .int 2), (2, .int a2)] := hl
  have g2 := jrg t2
  refine lv_iload_n hx hb dX12_putsAs_0 rfl (lv_at hl 1 rfl) ?_
  refine lv_iconst (v := 4) hx hb dX12_putsAs_1 (by decide) ?_
  refine lv_icmp_ne (tgt := 20) hx hb dX12_putsAs_2 (by decide) (fun _ => ?_) (fun c => absurd c (by decide))
  refine lv_iload_n hx hb dX12_putsAs_20 rfl (lv_at hl 1 rfl) ?_
  refine lv_iconst (v := 1) hx hb dX12_putsAs_21 (by decide) ?_
  refine lv_icmp_ne (tgt := 40) hx hb dX12_putsAs_22 (by decide) (fun _ => ?_) (fun c => absurd c (by decide))
  refine lv_aload_n hx hb dX12_putsAs_40 rfl (lv_at hl 0 rfl) ?_
  refine lv_iconst (v := 1) hx hb dX12_putsAs_41 (by decide) ?_
  refine jcallVv (As := [.int 1]) (rest := []) ⟨hx, hb, hml, hown, hts⟩ hK hP hA hS hZ (c_X12_begins_1_0 l D cI cL ad zz hJ σ τ h55_55) cw_RX12_379 (jc_55 cI cL ad σ τ) rfl ⟨Nat.le_of_ble_eq_true rfl, Nat.le_of_ble_eq_true rfl⟩ rfl rfl rfl hl.1 rfl (Nat.le_of_ble_eq_true rfl) dX12_putsAs_42 ⟨Nat.zero_le _, Nat.zero_le _⟩ (fun σ1 τ1 H locs h1 hP hS => ?_)
  obtain ⟨rfl, f3, f4, f5, m6, m7, h1⟩ := h1
  refine lv_iload_n hx hb dX12_putsAs_45 rfl (lv_at hl 2 rfl) ?_
  refine lv_aload_n hx hb dX12_putsAs_46 rfl (lv_at hl 0 rfl) ?_
  refine va_get (D := D) hx hb hts inlX12 hown hK hP 55 (jc_55 cI cL ad σ1 τ) rfl 57 (by decide) (hts _ kw_49_9) (fun _ h9 => h9) rfl dX12_putsAs_47 ?_
  have m8 : σ1 55 57 = (σ 55 57) := (f4 57 (by decide))
  refine jtopr m8 ?_
  have g9 := jrg (rfl : (σ 55 57).toInt = (σ 55 57).toInt)
  refine lv_iadd hx hb dX12_putsAs_50 ?_
  refine lv_topi (fun x10 ex10 => ?_)
  have gx10 := jrg (rfl : x10.toInt = x10.toInt)
  exact hret x10 σ1 τ _ _ _ _ rfl ⟨rfl, (fun i hi => (f3 i hi)), (fun i hi => (f4 i hi)), (fun i hi => (f5 i hi)), m6, m7, ⟨(by rw [ex10]), trivial⟩⟩ hP hS dX12_putsAs_51
set_option maxHeartbeats 4000000 in
set_option maxRecDepth 100000 in
theorem c_X12_putsAs_2_2_1 (l : Launch) (D : va_G) (cI cL : ClassId) (ad zz : Nat → Nat) (hJ : jD ad) (σ : Nat → Nat → Int32) (τ : Nat → Nat → Int64) (a2 : Int32) (A2 : Int) (t2 : a2.toInt = A2) (h55_55 : σ 55 55 = 1) (hp0 : (σ 55 56).toInt = 2) : jM l yX12_putsAs cX12_putsAs 3 (some .int) ({ frames := 1, cells := 0, slots := 0, locals := 21 }) D cI cL ad zz [.ref (ad 55), .int 2, .int a2] σ τ (fun r σ' τ' => τ = τ' ∧ (∀ i : Nat, (i < 55 ∨ 55 < i) ∧ (i < 85 ∨ 85 < i) → σ' i = σ i) ∧ (∀ k : Nat, (k < 55 ∨ 55 < k) → σ' 55 k = σ 55 k) ∧ (∀ k : Nat, (k < 1 ∨ 1 < k) → σ' 85 k = σ 85 k) ∧ (σ' 55 55 = 2) ∧ (σ' 85 1 = 1) ∧ ((r = (a2 + (σ 55 57)) ∧ True))) := by
  refine jM.of hJ (by decide +kernel) (nt := .int) rfl (Nat.le_of_ble_eq_true rfl) ?_
  intro p e s m args below meth c Q ls hC hret hl hP
  obtain ⟨hx, hb, hr, hml, hown, hts, hK, -, hlocks, hZ⟩ := hC
  have hown : s.vm.findClass RX12 = some m.cls := hown
  have hS : va_S (jA ad) s.heap s.heap [] := va_S.rf
  have hA : ∀ q, jA ad q → jA ad q := fun _ h => h
  have hl : lv_has ls 3 [(0, .ref (ad 55)), (1, .int 2), (2, .int a2)] := hl
  have g2 := jrg t2
  refine lv_iload_n hx hb dX12_putsAs_0 rfl (lv_at hl 1 rfl) ?_
  refine lv_iconst (v := 4) hx hb dX12_putsAs_1 (by decide) ?_
  refine lv_icmp_ne (tgt := 20) hx hb dX12_putsAs_2 (by decide) (fun _ => ?_) (fun c => absurd c (by decide))
  refine lv_iload_n hx hb dX12_putsAs_20 rfl (lv_at hl 1 rfl) ?_
  refine lv_iconst (v := 1) hx hb dX12_putsAs_21 (by decide) ?_
  refine lv_icmp_ne (tgt := 40) hx hb dX12_putsAs_22 (by decide) (fun _ => ?_) (fun c => absurd c (by decide))
  refine lv_aload_n hx hb dX12_putsAs_40 rfl (lv_at hl 0 rfl) ?_
  refine lv_iconst (v := 1) hx hb dX12_putsAs_41 (by decide) ?_
  refine jcallVv (As := [.int 1]) (rest := []) ⟨hx, hb, hml, hown, hts⟩ hK hP hA hS hZ (c_X12_begins_1_1 l D cI cL ad zz hJ σ τ h55_55) cw_RX12_379 (jc_55 cI cL ad σ τ) rfl ⟨Nat.le_of_ble_eq_true rfl, Nat.le_of_ble_eq_true rfl⟩ rfl rfl rfl hl.1 rfl (Nat.le_of_ble_eq_true rfl) dX12_putsAs_42 ⟨Nat.zero_le _, Nat.zero_le _⟩ (fun σ1 τ1 H locs h1 hP hS => ?_)
  obtain ⟨rfl, f3, f4, f5, m6, m7, h1⟩ := h1
  refine lv_iload_n hx hb dX12_putsAs_45 rfl (lv_at hl 2 rfl) ?_
  refine lv_aload_n hx hb dX12_putsAs_46 rfl (lv_at hl 0 rfl) ?_
  refine va_get (D := D) hx hb hts inlX12 hown hK hP 55 (jc_55 cI cL ad σ1 τ) rfl 57 (by decide) (hts _ kw_49_9) (fun _ h9 => h9) rfl dX12_putsAs_47 ?_
  have m8 : σ1 55 57 = (σ 55 57) := (f4 57 (by decide))
  refine jtopr m8 ?_
  have g9 := jrg (rfl : (σ 55 57).toInt = (σ 55 57).toInt)
  refine lv_iadd hx hb dX12_putsAs_50 ?_
  refine lv_topi (fun x10 ex10 => ?_)
  have gx10 := jrg (rfl : x10.toInt = x10.toInt)
  exact hret x10 σ1 τ _ _ _ _ rfl ⟨rfl, (fun i hi => (f3 i hi)), (fun i hi => (f4 i hi)), (fun i hi => (f5 i hi)), m6, m7, ⟨(by rw [ex10]), trivial⟩⟩ hP hS dX12_putsAs_51
set_option maxHeartbeats 4000000 in
set_option maxRecDepth 100000 in
theorem c_X12_holdsAs_2_2_0 (l : Launch) (D : va_G) (cI cL : ClassId) (ad zz : Nat → Nat) (hJ : jD ad) (σ : Nat → Nat → Int32) (τ : Nat → Nat → Int64) (a2 : Int32) (A2 : Int) (t2 : a2.toInt = A2) (h55_55 : σ 55 55 = 0) (hp0 : (σ 55 56).toInt = 2) : jM l yX12_holdsAs cX12_holdsAs 4 (some .int) ({ frames := 2, cells := 0, slots := 0, locals := 43 }) D cI cL ad zz [.ref (ad 55), .int 2, .int a2] σ τ (fun r σ' τ' => τ = τ' ∧ (∀ i : Nat, (i < 55 ∨ 55 < i) ∧ (i < 85 ∨ 85 < i) → σ' i = σ i) ∧ (∀ k : Nat, (k < 55 ∨ 55 < k) → σ' 55 k = σ 55 k) ∧ (∀ k : Nat, (k < 0 ∨ 0 < k) ∧ (k < 1 ∨ 1 < k) → σ' 85 k = σ 85 k) ∧ (σ' 55 55 = 2) ∧ (σ' 85 0 = 10) ∧ (σ' 85 1 = 1) ∧ ((r = ((a2 + (σ 55 57)) * 2) ∧ True))) := by
  refine jM.of hJ (by decide +kernel) (nt := .int) rfl (Nat.le_of_ble_eq_true rfl) ?_
  intro p e s m args below meth c Q ls hC hret hl hP
  obtain ⟨hx, hb, hr, hml, hown, hts, hK, -, hlocks, hZ⟩ := hC
  have hown : s.vm.findClass RX12 = some m.cls := hown
  have hS : va_S (jA ad) s.heap s.heap [] := va_S.rf
  have hA : ∀ q, jA ad q → jA ad q := fun _ h => h
  have hl : lv_has ls 4 [(0, .ref (ad 55)), (1, .int 2), (2, .int a2)] := hl
  have g2 := jrg t2
  refine lv_iload_n hx hb dX12_holdsAs_0 rfl (lv_at hl 1 rfl) ?_
  refine lv_iconst (v := 3) hx hb dX12_holdsAs_1 (by decide) ?_
  refine lv_icmp_eq (tgt := 10) hx hb dX12_holdsAs_2 (by decide) (fun c => absurd c (by decide)) (fun _ => ?_)
  refine lv_iload_n hx hb dX12_holdsAs_5 rfl (lv_at hl 1 rfl) ?_
  refine lv_iconst (v := 5) hx hb dX12_holdsAs_6 (by decide) ?_
  refine lv_icmp_ne (tgt := 24) hx hb dX12_holdsAs_7 (by decide) (fun _ => ?_) (fun c => absurd c (by decide))
  refine lv_iload_n hx hb dX12_holdsAs_24 rfl (lv_at hl 1 rfl) ?_
  refine lv_bipush (v := 6) hx hb dX12_holdsAs_25 (by decide) ?_
  refine lv_icmp_ne (tgt := 55) hx hb dX12_holdsAs_27 (by decide) (fun _ => ?_) (fun c => absurd c (by decide))
  refine lv_aload_n hx hb dX12_holdsAs_55 rfl (lv_at hl 0 rfl) ?_
  refine lv_bipush (v := 10) hx hb dX12_holdsAs_56 (by decide) ?_
  refine jcallVv (As := [.int 10]) (rest := []) ⟨hx, hb, hml, hown, hts⟩ hK hP hA hS hZ (c_X12_begins_10_0 l D cI cL ad zz hJ σ τ h55_55) cw_RX12_379 (jc_55 cI cL ad σ τ) rfl ⟨Nat.le_of_ble_eq_true rfl, Nat.le_of_ble_eq_true rfl⟩ rfl rfl rfl hl.1 rfl (Nat.le_of_ble_eq_true rfl) dX12_holdsAs_58 ⟨Nat.zero_le _, Nat.zero_le _⟩ (fun σ1 τ1 H locs h1 hP hS => ?_)
  obtain ⟨rfl, f3, f4, f5, m6, m7, h1⟩ := h1
  refine lv_aload_n hx hb dX12_holdsAs_61 rfl (lv_at hl 0 rfl) ?_
  refine lv_aload_n hx hb dX12_holdsAs_62 rfl (lv_at hl 0 rfl) ?_
  refine va_get (D := D) hx hb hts inlX12 hown hK hP 55 (jc_55 cI cL ad σ1 τ) rfl 56 (by decide) (hts _ kw_49_8) (fun _ h9 => h9) rfl dX12_holdsAs_63 ?_
  have m8 : σ1 55 56 = (σ 55 56) := (f4 56 (by decide))
  refine jtopr m8 ?_
  refine jtopr (jsame (rfl : (σ 55 56).toInt = (σ 55 56).toInt) jz_2 (by omega)) ?_
  refine lv_iload_n hx hb dX12_holdsAs_66 rfl (lv_at hl 2 rfl) ?_
  have z9 : (σ1 55 56).toInt = (σ 55 56).toInt := (congrArg Int32.toInt (show σ1 55 56 = (σ 55 56) from m8))
  refine jcallV (As := [.int 2, .int a2]) (rest := []) ⟨hx, hb, hml, hown, hts⟩ hK hP hA hS hZ (c_X12_putsAs_2_2_1 l D cI cL ad zz hJ σ1 τ a2 (A2) t2 m6 (by omega)) cw_RX12_382 (jc_55 cI cL ad σ1 τ) rfl ⟨Nat.le_of_ble_eq_true rfl, Nat.le_of_ble_eq_true rfl⟩ rfl rfl rfl hl.1 rfl (Nat.le_of_ble_eq_true rfl) dX12_holdsAs_67 ⟨Nat.zero_le _, Nat.zero_le _⟩ (fun r11 σ10 τ10 H locs h10 hP hS => ?_)
  obtain ⟨rfl, f12, f13, f14, m15, m16, h10⟩ := h10
  have h17 := h10
  obtain ⟨q19, k18⟩ := h17
  have q19 := q19.symm
  subst q19
  refine lv_iconst (v := 2) hx hb dX12_holdsAs_70 (by decide) ?_
  have g20 := jrg (rfl : (a2 + (σ1 55 57)).toInt = (a2 + (σ1 55 57)).toInt)
  refine lv_imul hx hb dX12_holdsAs_71 ?_
  refine lv_topi (fun x21 ex21 => ?_)
  have gx21 := jrg (rfl : x21.toInt = x21.toInt)
  have m22 : σ10 85 0 = 10 := ((f14 0 (by decide)).trans m7)
  exact hret x21 σ10 τ _ _ _ _ rfl ⟨rfl, (fun i hi => ((f12 i hi).trans (f3 i hi))), (fun i hi => ((f13 i hi).trans (f4 i hi))), (fun i hi => ((f14 i (imp_302 i hi)).trans (f5 i (imp_347 i hi)))), m15, m22, m16, ⟨(by rw [ex21, (show σ1 55 57 = σ 55 57 from (f4 57 (by decide)))]), trivial⟩⟩ hP hS dX12_holdsAs_72
set_option maxHeartbeats 4000000 in
set_option maxRecDepth 100000 in
theorem c_X12_begins_30_0 (l : Launch) (D : va_G) (cI cL : ClassId) (ad zz : Nat → Nat) (hJ : jD ad) (σ : Nat → Nat → Int32) (τ : Nat → Nat → Int64) (h55_55 : σ 55 55 = 0) : jMv l yX12_begins cX12_begins 2 none ({ frames := 0, cells := 0, slots := 0, locals := 0 }) D cI cL ad zz [.ref (ad 55), .int 30] σ τ (fun σ' τ' => τ = τ' ∧ (∀ i : Nat, (i < 55 ∨ 55 < i) ∧ (i < 85 ∨ 85 < i) → σ' i = σ i) ∧ (∀ k : Nat, (k < 55 ∨ 55 < k) → σ' 55 k = σ 55 k) ∧ (∀ k : Nat, (k < 0 ∨ 0 < k) → σ' 85 k = σ 85 k) ∧ (σ' 55 55 = 1) ∧ (σ' 85 0 = 30) ∧ True) := by
  refine jMv.of hJ (by decide +kernel) rfl (Nat.le_of_ble_eq_true rfl) ?_
  intro p e s m args below meth c Q ls hC hret hl hP
  obtain ⟨hx, hb, hr, hml, hown, hts, hK, -, hlocks, hZ⟩ := hC
  have hown : s.vm.findClass RX12 = some m.cls := hown
  have hS : va_S (jA ad) s.heap s.heap [] := va_S.rf
  have hA : ∀ q, jA ad q → jA ad q := fun _ h => h
  have hl : lv_has ls 2 [(0, .ref (ad 55)), (1, .int 30)] := hl
  refine lv_aload_n hx hb dX12_begins_0 rfl (lv_at hl 0 rfl) ?_
  refine va_get (D := D) hx hb hts inlX12 hown hK hP 55 (jc_55 cI cL ad σ τ) rfl 55 (by decide) (hts _ kw_49_7) (fun _ h9 => h9) rfl dX12_begins_1 ?_
  refine jtopr h55_55 ?_
  refine lv_bipush (v := 24) hx hb dX12_begins_4 (by decide) ?_
  refine lv_icmp_ge (tgt := 19) hx hb dX12_begins_6 (by decide) (fun c => absurd c (by decide)) (fun _ => ?_)
  refine lv_aload_n hx hb dX12_begins_9 rfl (lv_at hl 0 rfl) ?_
  refine va_get (D := D) hx hb hts inlX12 hown hK hP 55 (jc_55 cI cL ad σ τ) rfl 54 (by decide) (hts _ kw_8_10) (fun _ h9 => h9) rfl dX12_begins_10 ?_
  refine lv_aload_n hx hb dX12_begins_13 rfl (lv_at hl 0 rfl) ?_
  refine va_get (D := D) hx hb hts inlX12 hown hK hP 55 (jc_55 cI cL ad σ τ) rfl 55 (by decide) (hts _ kw_49_7) (fun _ h9 => h9) rfl dX12_begins_14 ?_
  refine jtopr h55_55 ?_
  refine lv_iload_n hx hb dX12_begins_17 rfl (lv_at hl 1 rfl) ?_
  refine jast hx hb hK hP hJ hA hS (jc_85 cI cL ad σ τ) (ja_85 cI cL ad σ τ _ _) (jin jz_0 (by omega) (by omega)) dX12_begins_18 (fun σ1 H locs eσ1 hP hS => ?_)
  have eσ1 : σ1 = jup σ 85 0 30 := eσ1
  refine lv_aload_n hx hb dX12_begins_19 rfl (lv_at hl 0 rfl) ?_
  refine lv_dup hx hb dX12_begins_20 rfl ?_
  refine va_get (D := D) hx hb hts inlX12 hown hK hP 55 (jc_55 cI cL ad σ1 τ) rfl 55 (by decide) (hts _ kw_49_7) (fun _ h9 => h9) rfl dX12_begins_21 ?_
  have m2 : σ1 55 55 = 0 := ((congrFun (jnp 55 eσ1 (by decide)) 55).trans h55_55)
  refine jtopr m2 ?_
  refine lv_iconst (v := 1) hx hb dX12_begins_24 (by decide) ?_
  refine lv_iadd hx hb dX12_begins_25 ?_
  refine jtopr (y := 1) (by decide) ?_
  refine jput (ty := .int) hx hb hts inlX12 tyX12 tyX12_ok nmX12 hown hK hP hJ hA hS (jc_55 cI cL ad σ1 τ) rfl (k := 55) (by decide) (Nat.le_of_ble_eq_true rfl) (jp_55_55 cI cL ad σ1 τ 1) (hts _ kw_49_7) (fun _ h9 => h9) rfl (by decide +kernel) rfl rfl dX12_begins_26 (fun σ3 H locs eσ3 hP hS => ?_)
  have m4 : σ3 55 55 = 1 := (jsp eσ3)
  have m5 : σ3 85 0 = 30 := ((congrFun (jnp 85 eσ3 (by decide)) 0).trans (jsp eσ1))
  exact hret σ3 τ _ _ _ _ ⟨rfl, (fun i hi => ((jnp i eσ3 (imp_345 i hi)).trans (jnp i eσ1 (imp_346 i hi)))), (fun i hi => ((jkp i eσ3 (imp_164 i hi)).trans (congrFun (jnp 55 eσ1 (by decide)) i))), (fun i hi => ((congrFun (jnp 85 eσ3 (by decide)) i).trans (jkp i eσ1 (imp_4 i hi)))), m4, m5, trivial⟩ hP hS dX12_begins_29
set_option maxHeartbeats 4000000 in
set_option maxRecDepth 100000 in
theorem c_X12_begins_11_1 (l : Launch) (D : va_G) (cI cL : ClassId) (ad zz : Nat → Nat) (hJ : jD ad) (σ : Nat → Nat → Int32) (τ : Nat → Nat → Int64) (h55_55 : σ 55 55 = 1) : jMv l yX12_begins cX12_begins 2 none ({ frames := 0, cells := 0, slots := 0, locals := 0 }) D cI cL ad zz [.ref (ad 55), .int 11] σ τ (fun σ' τ' => τ = τ' ∧ (∀ i : Nat, (i < 55 ∨ 55 < i) ∧ (i < 85 ∨ 85 < i) → σ' i = σ i) ∧ (∀ k : Nat, (k < 55 ∨ 55 < k) → σ' 55 k = σ 55 k) ∧ (∀ k : Nat, (k < 1 ∨ 1 < k) → σ' 85 k = σ 85 k) ∧ (σ' 55 55 = 2) ∧ (σ' 85 1 = 11) ∧ True) := by
  refine jMv.of hJ (by decide +kernel) rfl (Nat.le_of_ble_eq_true rfl) ?_
  intro p e s m args below meth c Q ls hC hret hl hP
  obtain ⟨hx, hb, hr, hml, hown, hts, hK, -, hlocks, hZ⟩ := hC
  have hown : s.vm.findClass RX12 = some m.cls := hown
  have hS : va_S (jA ad) s.heap s.heap [] := va_S.rf
  have hA : ∀ q, jA ad q → jA ad q := fun _ h => h
  have hl : lv_has ls 2 [(0, .ref (ad 55)), (1, .int 11)] := hl
  refine lv_aload_n hx hb dX12_begins_0 rfl (lv_at hl 0 rfl) ?_
  refine va_get (D := D) hx hb hts inlX12 hown hK hP 55 (jc_55 cI cL ad σ τ) rfl 55 (by decide) (hts _ kw_49_7) (fun _ h9 => h9) rfl dX12_begins_1 ?_
  refine jtopr h55_55 ?_
  refine lv_bipush (v := 24) hx hb dX12_begins_4 (by decide) ?_
  refine lv_icmp_ge (tgt := 19) hx hb dX12_begins_6 (by decide) (fun c => absurd c (by decide)) (fun _ => ?_)
  refine lv_aload_n hx hb dX12_begins_9 rfl (lv_at hl 0 rfl) ?_
  refine va_get (D := D) hx hb hts inlX12 hown hK hP 55 (jc_55 cI cL ad σ τ) rfl 54 (by decide) (hts _ kw_8_10) (fun _ h9 => h9) rfl dX12_begins_10 ?_
  refine lv_aload_n hx hb dX12_begins_13 rfl (lv_at hl 0 rfl) ?_
  refine va_get (D := D) hx hb hts inlX12 hown hK hP 55 (jc_55 cI cL ad σ τ) rfl 55 (by decide) (hts _ kw_49_7) (fun _ h9 => h9) rfl dX12_begins_14 ?_
  refine jtopr h55_55 ?_
  refine lv_iload_n hx hb dX12_begins_17 rfl (lv_at hl 1 rfl) ?_
  refine jast hx hb hK hP hJ hA hS (jc_85 cI cL ad σ τ) (ja_85 cI cL ad σ τ _ _) (jin jz_1 (by omega) (by omega)) dX12_begins_18 (fun σ1 H locs eσ1 hP hS => ?_)
  have eσ1 : σ1 = jup σ 85 1 11 := eσ1
  refine lv_aload_n hx hb dX12_begins_19 rfl (lv_at hl 0 rfl) ?_
  refine lv_dup hx hb dX12_begins_20 rfl ?_
  refine va_get (D := D) hx hb hts inlX12 hown hK hP 55 (jc_55 cI cL ad σ1 τ) rfl 55 (by decide) (hts _ kw_49_7) (fun _ h9 => h9) rfl dX12_begins_21 ?_
  have m2 : σ1 55 55 = 1 := ((congrFun (jnp 55 eσ1 (by decide)) 55).trans h55_55)
  refine jtopr m2 ?_
  refine lv_iconst (v := 1) hx hb dX12_begins_24 (by decide) ?_
  refine lv_iadd hx hb dX12_begins_25 ?_
  refine jtopr (y := 2) (by decide) ?_
  refine jput (ty := .int) hx hb hts inlX12 tyX12 tyX12_ok nmX12 hown hK hP hJ hA hS (jc_55 cI cL ad σ1 τ) rfl (k := 55) (by decide) (Nat.le_of_ble_eq_true rfl) (jp_55_55 cI cL ad σ1 τ 2) (hts _ kw_49_7) (fun _ h9 => h9) rfl (by decide +kernel) rfl rfl dX12_begins_26 (fun σ3 H locs eσ3 hP hS => ?_)
  have m4 : σ3 55 55 = 2 := (jsp eσ3)
  have m5 : σ3 85 1 = 11 := ((congrFun (jnp 85 eσ3 (by decide)) 1).trans (jsp eσ1))
  exact hret σ3 τ _ _ _ _ ⟨rfl, (fun i hi => ((jnp i eσ3 (imp_345 i hi)).trans (jnp i eσ1 (imp_346 i hi)))), (fun i hi => ((jkp i eσ3 (imp_164 i hi)).trans (congrFun (jnp 55 eσ1 (by decide)) i))), (fun i hi => ((congrFun (jnp 85 eσ3 (by decide)) i).trans (jkp i eσ1 (imp_42 i hi)))), m4, m5, trivial⟩ hP hS dX12_begins_29
set_option maxHeartbeats 4000000 in
set_option maxRecDepth 100000 in
theorem c_X12_givesAs_2_0_1 (l : Launch) (D : va_G) (cI cL : ClassId) (ad zz : Nat → Nat) (hJ : jD ad) (σ : Nat → Nat → Int32) (τ : Nat → Nat → Int64) (a2 : Int32) (A2 : Int) (t2 : a2.toInt = A2) (h55_55 : σ 55 55 = 1) (hp0 : (σ 55 56).toInt = 2) : jM l yX12_givesAs cX12_givesAs 4 (some .int) ({ frames := 1, cells := 0, slots := 0, locals := 21 }) D cI cL ad zz [.ref (ad 55), .int 0, .int a2] σ τ (fun r σ' τ' => τ = τ' ∧ (∀ i : Nat, (i < 55 ∨ 55 < i) ∧ (i < 85 ∨ 85 < i) → σ' i = σ i) ∧ (∀ k : Nat, (k < 55 ∨ 55 < k) → σ' 55 k = σ 55 k) ∧ (∀ k : Nat, (k < 1 ∨ 1 < k) → σ' 85 k = σ 85 k) ∧ (σ' 55 55 = 2) ∧ (σ' 85 1 = 11) ∧ ((r = (a2 ^^^ (σ 55 57)) ∧ True))) := by
  refine jM.of hJ (by decide +kernel) (nt := .int) rfl (Nat.le_of_ble_eq_true rfl) ?_
  intro p e s m args below meth c Q ls hC hret hl hP
  obtain ⟨hx, hb, hr, hml, hown, hts, hK, -, hlocks, hZ⟩ := hC
  have hown : s.vm.findClass RX12 = some m.cls := hown
  have hS : va_S (jA ad) s.heap s.heap [] := va_S.rf
  have hA : ∀ q, jA ad q → jA ad q := fun _ h => h
  have hl : lv_has ls 4 [(0, .ref (ad 55)), (1, .int 0), (2, .int a2)] := hl
  have g2 := jrg t2
  refine lv_iload_n hx hb dX12_givesAs_0 rfl (lv_at hl 1 rfl) ?_
  refine lv_iconst (v := 5) hx hb dX12_givesAs_1 (by decide) ?_
  refine lv_icmp_ne (tgt := 30) hx hb dX12_givesAs_2 (by decide) (fun _ => ?_) (fun c => absurd c (by decide))
  refine lv_iload_n hx hb dX12_givesAs_30 rfl (lv_at hl 1 rfl) ?_
  refine lv_iconst (v := 2) hx hb dX12_givesAs_31 (by decide) ?_
  refine lv_icmp_eq (tgt := 40) hx hb dX12_givesAs_32 (by decide) (fun c => absurd c (by decide)) (fun _ => ?_)
  refine lv_iload_n hx hb dX12_givesAs_35 rfl (lv_at hl 1 rfl) ?_
  refine lv_iconst (v := 3) hx hb dX12_givesAs_36 (by decide) ?_
  refine lv_icmp_ne (tgt := 55) hx hb dX12_givesAs_37 (by decide) (fun _ => ?_) (fun c => absurd c (by decide))
  refine lv_aload_n hx hb dX12_givesAs_55 rfl (lv_at hl 0 rfl) ?_
  refine lv_bipush (v := 11) hx hb dX12_givesAs_56 (by decide) ?_
  refine jcallVv (As := [.int 11]) (rest := []) ⟨hx, hb, hml, hown, hts⟩ hK hP hA hS hZ (c_X12_begins_11_1 l D cI cL ad zz hJ σ τ h55_55) cw_RX12_379 (jc_55 cI cL ad σ τ) rfl ⟨Nat.le_of_ble_eq_true rfl, Nat.le_of_ble_eq_true rfl⟩ rfl rfl rfl hl.1 rfl (Nat.le_of_ble_eq_true rfl) dX12_givesAs_58 ⟨Nat.zero_le _, Nat.zero_le _⟩ (fun σ1 τ1 H locs h1 hP hS => ?_)
  obtain ⟨rfl, f3, f4, f5, m6, m7, h1⟩ := h1
  refine lv_iload_n hx hb dX12_givesAs_61 rfl (lv_at hl 2 rfl) ?_
  refine lv_aload_n hx hb dX12_givesAs_62 rfl (lv_at hl 0 rfl) ?_
  refine va_get (D := D) hx hb hts inlX12 hown hK hP 55 (jc_55 cI cL ad σ1 τ) rfl 57 (by decide) (hts _ kw_49_9) (fun _ h9 => h9) rfl dX12_givesAs_63 ?_
  have m8 : σ1 55 57 = (σ 55 57) := (f4 57 (by decide))
  refine jtopr m8 ?_
  refine lv_ixor hx hb dX12_givesAs_66 ?_
  refine lv_topi (fun x9 ex9 => ?_)
  have gx9 := jrg (rfl : x9.toInt = x9.toInt)
  exact hret x9 σ1 τ _ _ _ _ rfl ⟨rfl, (fun i hi => (f3 i hi)), (fun i hi => (f4 i hi)), (fun i hi => (f5 i hi)), m6, m7, ⟨(by rw [ex9]), trivial⟩⟩ hP hS dX12_givesAs_67
set_option maxHeartbeats 4000000 in
set_option maxRecDepth 100000 in
theorem c_X12_givesAs_2_2_0 (l : Launch) (D : va_G) (cI cL : ClassId) (ad zz : Nat → Nat) (hJ : jD ad) (σ : Nat → Nat → Int32) (τ : Nat → Nat → Int64) (a2 : Int32) (A2 : Int) (t2 : a2.toInt = A2) (h55_55 : σ 55 55 = 0) (hp0 : (σ 55 56).toInt = 2) : jM l yX12_givesAs cX12_givesAs 4 (some .int) ({ frames := 2, cells := 0, slots := 0, locals := 44 }) D cI cL ad zz [.ref (ad 55), .int 2, .int a2] σ τ (fun r σ' τ' => τ = τ' ∧ (∀ i : Nat, (i < 55 ∨ 55 < i) ∧ (i < 85 ∨ 85 < i) → σ' i = σ i) ∧ (∀ k : Nat, (k < 55 ∨ 55 < k) → σ' 55 k = σ 55 k) ∧ (∀ k : Nat, (k < 0 ∨ 0 < k) ∧ (k < 1 ∨ 1 < k) → σ' 85 k = σ 85 k) ∧ (σ' 55 55 = 2) ∧ (σ' 85 0 = 30) ∧ (σ' 85 1 = 11) ∧ ((r = ((a2 ^^^ (σ 55 57)) * 3) ∧ True))) := by
  refine jM.of hJ (by decide +kernel) (nt := .int) rfl (Nat.le_of_ble_eq_true rfl) ?_
  intro p e s m args below meth c Q ls hC hret hl hP
  obtain ⟨hx, hb, hr, hml, hown, hts, hK, -, hlocks, hZ⟩ := hC
  have hown : s.vm.findClass RX12 = some m.cls := hown
  have hS : va_S (jA ad) s.heap s.heap [] := va_S.rf
  have hA : ∀ q, jA ad q → jA ad q := fun _ h => h
  have hl : lv_has ls 4 [(0, .ref (ad 55)), (1, .int 2), (2, .int a2)] := hl
  have g2 := jrg t2
  refine lv_iload_n hx hb dX12_givesAs_0 rfl (lv_at hl 1 rfl) ?_
  refine lv_iconst (v := 5) hx hb dX12_givesAs_1 (by decide) ?_
  refine lv_icmp_ne (tgt := 30) hx hb dX12_givesAs_2 (by decide) (fun _ => ?_) (fun c => absurd c (by decide))
  refine lv_iload_n hx hb dX12_givesAs_30 rfl (lv_at hl 1 rfl) ?_
  refine lv_iconst (v := 2) hx hb dX12_givesAs_31 (by decide) ?_
  refine lv_icmp_eq (tgt := 40) hx hb dX12_givesAs_32 (by decide) (fun _ => ?_) (fun c => absurd (by decide) c)
  refine lv_aload_n hx hb dX12_givesAs_40 rfl (lv_at hl 0 rfl) ?_
  refine lv_bipush (v := 30) hx hb dX12_givesAs_41 (by decide) ?_
  refine jcallVv (As := [.int 30]) (rest := []) ⟨hx, hb, hml, hown, hts⟩ hK hP hA hS hZ (c_X12_begins_30_0 l D cI cL ad zz hJ σ τ h55_55) cw_RX12_379 (jc_55 cI cL ad σ τ) rfl ⟨Nat.le_of_ble_eq_true rfl, Nat.le_of_ble_eq_true rfl⟩ rfl rfl rfl hl.1 rfl (Nat.le_of_ble_eq_true rfl) dX12_givesAs_43 ⟨Nat.zero_le _, Nat.zero_le _⟩ (fun σ1 τ1 H locs h1 hP hS => ?_)
  obtain ⟨rfl, f3, f4, f5, m6, m7, h1⟩ := h1
  refine lv_aload_n hx hb dX12_givesAs_46 rfl (lv_at hl 0 rfl) ?_
  refine lv_iconst (v := 0) hx hb dX12_givesAs_47 (by decide) ?_
  refine lv_iload_n hx hb dX12_givesAs_48 rfl (lv_at hl 2 rfl) ?_
  have z8 : (σ1 55 56).toInt = (σ 55 56).toInt := (congrArg Int32.toInt (show σ1 55 56 = (σ 55 56) from (f4 56 (by decide))))
  refine jcallV (As := [.int 0, .int a2]) (rest := []) ⟨hx, hb, hml, hown, hts⟩ hK hP hA hS hZ (c_X12_givesAs_2_0_1 l D cI cL ad zz hJ σ1 τ a2 (A2) t2 m6 (by omega)) cw_RX12_394 (jc_55 cI cL ad σ1 τ) rfl ⟨Nat.le_of_ble_eq_true rfl, Nat.le_of_ble_eq_true rfl⟩ rfl rfl rfl hl.1 rfl (Nat.le_of_ble_eq_true rfl) dX12_givesAs_49 ⟨Nat.zero_le _, Nat.zero_le _⟩ (fun r10 σ9 τ9 H locs h9 hP hS => ?_)
  obtain ⟨rfl, f11, f12, f13, m14, m15, h9⟩ := h9
  have h16 := h9
  obtain ⟨q18, k17⟩ := h16
  have q18 := q18.symm
  subst q18
  refine lv_iconst (v := 3) hx hb dX12_givesAs_52 (by decide) ?_
  have g19 := jrg (rfl : (a2 ^^^ (σ1 55 57)).toInt = (a2 ^^^ (σ1 55 57)).toInt)
  refine lv_imul hx hb dX12_givesAs_53 ?_
  refine lv_topi (fun x20 ex20 => ?_)
  have gx20 := jrg (rfl : x20.toInt = x20.toInt)
  have m21 : σ9 85 0 = 30 := ((f13 0 (by decide)).trans m7)
  exact hret x20 σ9 τ _ _ _ _ rfl ⟨rfl, (fun i hi => ((f11 i hi).trans (f3 i hi))), (fun i hi => ((f12 i hi).trans (f4 i hi))), (fun i hi => ((f13 i (imp_302 i hi)).trans (f5 i (imp_347 i hi)))), m14, m21, m15, ⟨(by rw [ex20, (show σ1 55 57 = σ 55 57 from (f4 57 (by decide)))]), trivial⟩⟩ hP hS dX12_givesAs_54
set_option maxHeartbeats 4000000 in
set_option maxRecDepth 100000 in
theorem c_X12_putsAs_2_2_2 (l : Launch) (D : va_G) (cI cL : ClassId) (ad zz : Nat → Nat) (hJ : jD ad) (σ : Nat → Nat → Int32) (τ : Nat → Nat → Int64) (a2 : Int32) (A2 : Int) (t2 : a2.toInt = A2) (h55_55 : σ 55 55 = 2) (hp0 : (σ 55 56).toInt = 2) : jM l yX12_putsAs cX12_putsAs 3 (some .int) ({ frames := 1, cells := 0, slots := 0, locals := 21 }) D cI cL ad zz [.ref (ad 55), .int 2, .int a2] σ τ (fun r σ' τ' => τ = τ' ∧ (∀ i : Nat, (i < 55 ∨ 55 < i) ∧ (i < 85 ∨ 85 < i) → σ' i = σ i) ∧ (∀ k : Nat, (k < 55 ∨ 55 < k) → σ' 55 k = σ 55 k) ∧ (∀ k : Nat, (k < 2 ∨ 2 < k) → σ' 85 k = σ 85 k) ∧ (σ' 55 55 = 3) ∧ (σ' 85 2 = 1) ∧ ((r = (a2 + (σ 55 57)) ∧ True))) := by
  refine jM.of hJ (by decide +kernel) (nt := .int) rfl (Nat.le_of_ble_eq_true rfl) ?_
  intro p e s m args below meth c Q ls hC hret hl hP
  obtain ⟨hx, hb, hr, hml, hown, hts, hK, -, hlocks, hZ⟩ := hC
  have hown : s.vm.findClass RX12 = some m.cls := hown
  have hS : va_S (jA ad) s.heap s.heap [] := va_S.rf
  have hA : ∀ q, jA ad q → jA ad q := fun _ h => h
  have hl : lv_has ls 3 [(0, .ref (ad 55)), (1, .int 2), (2, .int a2)] := hl
  have g2 := jrg t2
  refine lv_iload_n hx hb dX12_putsAs_0 rfl (lv_at hl 1 rfl) ?_
  refine lv_iconst (v := 4) hx hb dX12_putsAs_1 (by decide) ?_
  refine lv_icmp_ne (tgt := 20) hx hb dX12_putsAs_2 (by decide) (fun _ => ?_) (fun c => absurd c (by decide))
  refine lv_iload_n hx hb dX12_putsAs_20 rfl (lv_at hl 1 rfl) ?_
  refine lv_iconst (v := 1) hx hb dX12_putsAs_21 (by decide) ?_
  refine lv_icmp_ne (tgt := 40) hx hb dX12_putsAs_22 (by decide) (fun _ => ?_) (fun c => absurd c (by decide))
  refine lv_aload_n hx hb dX12_putsAs_40 rfl (lv_at hl 0 rfl) ?_
  refine lv_iconst (v := 1) hx hb dX12_putsAs_41 (by decide) ?_
  refine jcallVv (As := [.int 1]) (rest := []) ⟨hx, hb, hml, hown, hts⟩ hK hP hA hS hZ (c_X12_begins_1_2 l D cI cL ad zz hJ σ τ h55_55) cw_RX12_379 (jc_55 cI cL ad σ τ) rfl ⟨Nat.le_of_ble_eq_true rfl, Nat.le_of_ble_eq_true rfl⟩ rfl rfl rfl hl.1 rfl (Nat.le_of_ble_eq_true rfl) dX12_putsAs_42 ⟨Nat.zero_le _, Nat.zero_le _⟩ (fun σ1 τ1 H locs h1 hP hS => ?_)
  obtain ⟨rfl, f3, f4, f5, m6, m7, h1⟩ := h1
  refine lv_iload_n hx hb dX12_putsAs_45 rfl (lv_at hl 2 rfl) ?_
  refine lv_aload_n hx hb dX12_putsAs_46 rfl (lv_at hl 0 rfl) ?_
  refine va_get (D := D) hx hb hts inlX12 hown hK hP 55 (jc_55 cI cL ad σ1 τ) rfl 57 (by decide) (hts _ kw_49_9) (fun _ h9 => h9) rfl dX12_putsAs_47 ?_
  have m8 : σ1 55 57 = (σ 55 57) := (f4 57 (by decide))
  refine jtopr m8 ?_
  have g9 := jrg (rfl : (σ 55 57).toInt = (σ 55 57).toInt)
  refine lv_iadd hx hb dX12_putsAs_50 ?_
  refine lv_topi (fun x10 ex10 => ?_)
  have gx10 := jrg (rfl : x10.toInt = x10.toInt)
  exact hret x10 σ1 τ _ _ _ _ rfl ⟨rfl, (fun i hi => (f3 i hi)), (fun i hi => (f4 i hi)), (fun i hi => (f5 i hi)), m6, m7, ⟨(by rw [ex10]), trivial⟩⟩ hP hS dX12_putsAs_51
set_option maxHeartbeats 4000000 in
set_option maxRecDepth 100000 in
theorem c_X12_holdsAs_2_2_1 (l : Launch) (D : va_G) (cI cL : ClassId) (ad zz : Nat → Nat) (hJ : jD ad) (σ : Nat → Nat → Int32) (τ : Nat → Nat → Int64) (a2 : Int32) (A2 : Int) (t2 : a2.toInt = A2) (h55_55 : σ 55 55 = 1) (hp0 : (σ 55 56).toInt = 2) : jM l yX12_holdsAs cX12_holdsAs 4 (some .int) ({ frames := 2, cells := 0, slots := 0, locals := 43 }) D cI cL ad zz [.ref (ad 55), .int 2, .int a2] σ τ (fun r σ' τ' => τ = τ' ∧ (∀ i : Nat, (i < 55 ∨ 55 < i) ∧ (i < 85 ∨ 85 < i) → σ' i = σ i) ∧ (∀ k : Nat, (k < 55 ∨ 55 < k) → σ' 55 k = σ 55 k) ∧ (∀ k : Nat, (k < 1 ∨ 1 < k) ∧ (k < 2 ∨ 2 < k) → σ' 85 k = σ 85 k) ∧ (σ' 55 55 = 3) ∧ (σ' 85 1 = 10) ∧ (σ' 85 2 = 1) ∧ ((r = ((a2 + (σ 55 57)) * 2) ∧ True))) := by
  refine jM.of hJ (by decide +kernel) (nt := .int) rfl (Nat.le_of_ble_eq_true rfl) ?_
  intro p e s m args below meth c Q ls hC hret hl hP
  obtain ⟨hx, hb, hr, hml, hown, hts, hK, -, hlocks, hZ⟩ := hC
  have hown : s.vm.findClass RX12 = some m.cls := hown
  have hS : va_S (jA ad) s.heap s.heap [] := va_S.rf
  have hA : ∀ q, jA ad q → jA ad q := fun _ h => h
  have hl : lv_has ls 4 [(0, .ref (ad 55)), (1, .int 2), (2, .int a2)] := hl
  have g2 := jrg t2
  refine lv_iload_n hx hb dX12_holdsAs_0 rfl (lv_at hl 1 rfl) ?_
  refine lv_iconst (v := 3) hx hb dX12_holdsAs_1 (by decide) ?_
  refine lv_icmp_eq (tgt := 10) hx hb dX12_holdsAs_2 (by decide) (fun c => absurd c (by decide)) (fun _ => ?_)
  refine lv_iload_n hx hb dX12_holdsAs_5 rfl (lv_at hl 1 rfl) ?_
  refine lv_iconst (v := 5) hx hb dX12_holdsAs_6 (by decide) ?_
  refine lv_icmp_ne (tgt := 24) hx hb dX12_holdsAs_7 (by decide) (fun _ => ?_) (fun c => absurd c (by decide))
  refine lv_iload_n hx hb dX12_holdsAs_24 rfl (lv_at hl 1 rfl) ?_
  refine lv_bipush (v := 6) hx hb dX12_holdsAs_25 (by decide) ?_
  refine lv_icmp_ne (tgt := 55) hx hb dX12_holdsAs_27 (by decide) (fun _ => ?_) (fun c => absurd c (by decide))
  refine lv_aload_n hx hb dX12_holdsAs_55 rfl (lv_at hl 0 rfl) ?_
  refine lv_bipush (v := 10) hx hb dX12_holdsAs_56 (by decide) ?_
  refine jcallVv (As := [.int 10]) (rest := []) ⟨hx, hb, hml, hown, hts⟩ hK hP hA hS hZ (c_X12_begins_10_1 l D cI cL ad zz hJ σ τ h55_55) cw_RX12_379 (jc_55 cI cL ad σ τ) rfl ⟨Nat.le_of_ble_eq_true rfl, Nat.le_of_ble_eq_true rfl⟩ rfl rfl rfl hl.1 rfl (Nat.le_of_ble_eq_true rfl) dX12_holdsAs_58 ⟨Nat.zero_le _, Nat.zero_le _⟩ (fun σ1 τ1 H locs h1 hP hS => ?_)
  obtain ⟨rfl, f3, f4, f5, m6, m7, h1⟩ := h1
  refine lv_aload_n hx hb dX12_holdsAs_61 rfl (lv_at hl 0 rfl) ?_
  refine lv_aload_n hx hb dX12_holdsAs_62 rfl (lv_at hl 0 rfl) ?_
  refine va_get (D := D) hx hb hts inlX12 hown hK hP 55 (jc_55 cI cL ad σ1 τ) rfl 56 (by decide) (hts _ kw_49_8) (fun _ h9 => h9) rfl dX12_holdsAs_63 ?_
  have m8 : σ1 55 56 = (σ 55 56) := (f4 56 (by decide))
  refine jtopr m8 ?_
  refine jtopr (jsame (rfl : (σ 55 56).toInt = (σ 55 56).toInt) jz_2 (by omega)) ?_
  refine lv_iload_n hx hb dX12_holdsAs_66 rfl (lv_at hl 2 rfl) ?_
  have z9 : (σ1 55 56).toInt = (σ 55 56).toInt := (congrArg Int32.toInt (show σ1 55 56 = (σ 55 56) from m8))
  refine jcallV (As := [.int 2, .int a2]) (rest := []) ⟨hx, hb, hml, hown, hts⟩ hK hP hA hS hZ (c_X12_putsAs_2_2_2 l D cI cL ad zz hJ σ1 τ a2 (A2) t2 m6 (by omega)) cw_RX12_382 (jc_55 cI cL ad σ1 τ) rfl ⟨Nat.le_of_ble_eq_true rfl, Nat.le_of_ble_eq_true rfl⟩ rfl rfl rfl hl.1 rfl (Nat.le_of_ble_eq_true rfl) dX12_holdsAs_67 ⟨Nat.zero_le _, Nat.zero_le _⟩ (fun r11 σ10 τ10 H locs h10 hP hS => ?_)
  obtain ⟨rfl, f12, f13, f14, m15, m16, h10⟩ := h10
  have h17 := h10
  obtain ⟨q19, k18⟩ := h17
  have q19 := q19.symm
  subst q19
  refine lv_iconst (v := 2) hx hb dX12_holdsAs_70 (by decide) ?_
  have g20 := jrg (rfl : (a2 + (σ1 55 57)).toInt = (a2 + (σ1 55 57)).toInt)
  refine lv_imul hx hb dX12_holdsAs_71 ?_
  refine lv_topi (fun x21 ex21 => ?_)
  have gx21 := jrg (rfl : x21.toInt = x21.toInt)
  have m22 : σ10 85 1 = 10 := ((f14 1 (by decide)).trans m7)
  exact hret x21 σ10 τ _ _ _ _ rfl ⟨rfl, (fun i hi => ((f12 i hi).trans (f3 i hi))), (fun i hi => ((f13 i hi).trans (f4 i hi))), (fun i hi => ((f14 i (imp_43 i hi)).trans (f5 i (imp_60 i hi)))), m15, m22, m16, ⟨(by rw [ex21, (show σ1 55 57 = σ 55 57 from (f4 57 (by decide)))]), trivial⟩⟩ hP hS dX12_holdsAs_72
set_option maxHeartbeats 4000000 in
set_option maxRecDepth 100000 in
theorem c_X12_begins_30_3 (l : Launch) (D : va_G) (cI cL : ClassId) (ad zz : Nat → Nat) (hJ : jD ad) (σ : Nat → Nat → Int32) (τ : Nat → Nat → Int64) (h55_55 : σ 55 55 = 3) : jMv l yX12_begins cX12_begins 2 none ({ frames := 0, cells := 0, slots := 0, locals := 0 }) D cI cL ad zz [.ref (ad 55), .int 30] σ τ (fun σ' τ' => τ = τ' ∧ (∀ i : Nat, (i < 55 ∨ 55 < i) ∧ (i < 85 ∨ 85 < i) → σ' i = σ i) ∧ (∀ k : Nat, (k < 55 ∨ 55 < k) → σ' 55 k = σ 55 k) ∧ (∀ k : Nat, (k < 3 ∨ 3 < k) → σ' 85 k = σ 85 k) ∧ (σ' 55 55 = 4) ∧ (σ' 85 3 = 30) ∧ True) := by
  refine jMv.of hJ (by decide +kernel) rfl (Nat.le_of_ble_eq_true rfl) ?_
  intro p e s m args below meth c Q ls hC hret hl hP
  obtain ⟨hx, hb, hr, hml, hown, hts, hK, -, hlocks, hZ⟩ := hC
  have hown : s.vm.findClass RX12 = some m.cls := hown
  have hS : va_S (jA ad) s.heap s.heap [] := va_S.rf
  have hA : ∀ q, jA ad q → jA ad q := fun _ h => h
  have hl : lv_has ls 2 [(0, .ref (ad 55)), (1, .int 30)] := hl
  refine lv_aload_n hx hb dX12_begins_0 rfl (lv_at hl 0 rfl) ?_
  refine va_get (D := D) hx hb hts inlX12 hown hK hP 55 (jc_55 cI cL ad σ τ) rfl 55 (by decide) (hts _ kw_49_7) (fun _ h9 => h9) rfl dX12_begins_1 ?_
  refine jtopr h55_55 ?_
  refine lv_bipush (v := 24) hx hb dX12_begins_4 (by decide) ?_
  refine lv_icmp_ge (tgt := 19) hx hb dX12_begins_6 (by decide) (fun c => absurd c (by decide)) (fun _ => ?_)
  refine lv_aload_n hx hb dX12_begins_9 rfl (lv_at hl 0 rfl) ?_
  refine va_get (D := D) hx hb hts inlX12 hown hK hP 55 (jc_55 cI cL ad σ τ) rfl 54 (by decide) (hts _ kw_8_10) (fun _ h9 => h9) rfl dX12_begins_10 ?_
  refine lv_aload_n hx hb dX12_begins_13 rfl (lv_at hl 0 rfl) ?_
  refine va_get (D := D) hx hb hts inlX12 hown hK hP 55 (jc_55 cI cL ad σ τ) rfl 55 (by decide) (hts _ kw_49_7) (fun _ h9 => h9) rfl dX12_begins_14 ?_
  refine jtopr h55_55 ?_
  refine lv_iload_n hx hb dX12_begins_17 rfl (lv_at hl 1 rfl) ?_
  refine jast hx hb hK hP hJ hA hS (jc_85 cI cL ad σ τ) (ja_85 cI cL ad σ τ _ _) (jin jz_3 (by omega) (by omega)) dX12_begins_18 (fun σ1 H locs eσ1 hP hS => ?_)
  have eσ1 : σ1 = jup σ 85 3 30 := eσ1
  refine lv_aload_n hx hb dX12_begins_19 rfl (lv_at hl 0 rfl) ?_
  refine lv_dup hx hb dX12_begins_20 rfl ?_
  refine va_get (D := D) hx hb hts inlX12 hown hK hP 55 (jc_55 cI cL ad σ1 τ) rfl 55 (by decide) (hts _ kw_49_7) (fun _ h9 => h9) rfl dX12_begins_21 ?_
  have m2 : σ1 55 55 = 3 := ((congrFun (jnp 55 eσ1 (by decide)) 55).trans h55_55)
  refine jtopr m2 ?_
  refine lv_iconst (v := 1) hx hb dX12_begins_24 (by decide) ?_
  refine lv_iadd hx hb dX12_begins_25 ?_
  refine jtopr (y := 4) (by decide) ?_
  refine jput (ty := .int) hx hb hts inlX12 tyX12 tyX12_ok nmX12 hown hK hP hJ hA hS (jc_55 cI cL ad σ1 τ) rfl (k := 55) (by decide) (Nat.le_of_ble_eq_true rfl) (jp_55_55 cI cL ad σ1 τ 4) (hts _ kw_49_7) (fun _ h9 => h9) rfl (by decide +kernel) rfl rfl dX12_begins_26 (fun σ3 H locs eσ3 hP hS => ?_)
  have m4 : σ3 55 55 = 4 := (jsp eσ3)
  have m5 : σ3 85 3 = 30 := ((congrFun (jnp 85 eσ3 (by decide)) 3).trans (jsp eσ1))
  exact hret σ3 τ _ _ _ _ ⟨rfl, (fun i hi => ((jnp i eσ3 (imp_345 i hi)).trans (jnp i eσ1 (imp_346 i hi)))), (fun i hi => ((jkp i eσ3 (imp_164 i hi)).trans (congrFun (jnp 55 eσ1 (by decide)) i))), (fun i hi => ((congrFun (jnp 85 eσ3 (by decide)) i).trans (jkp i eσ1 (imp_303 i hi)))), m4, m5, trivial⟩ hP hS dX12_begins_29
set_option maxHeartbeats 4000000 in
set_option maxRecDepth 100000 in
theorem c_X12_givesAs_2_0_4_x1 (l : Launch) (D : va_G) (cI cL : ClassId) (ad zz : Nat → Nat) (hJ : jD ad) (σ : Nat → Nat → Int32) (τ : Nat → Nat → Int64) (h55_55 : σ 55 55 = 4) (hp0 : (σ 55 56).toInt = 2) : jM l yX12_givesAs cX12_givesAs 4 (some .int) ({ frames := 1, cells := 0, slots := 0, locals := 21 }) D cI cL ad zz [.ref (ad 55), .int 0, .int 1] σ τ (fun r σ' τ' => τ = τ' ∧ (∀ i : Nat, (i < 55 ∨ 55 < i) ∧ (i < 85 ∨ 85 < i) → σ' i = σ i) ∧ (∀ k : Nat, (k < 55 ∨ 55 < k) → σ' 55 k = σ 55 k) ∧ (∀ k : Nat, (k < 4 ∨ 4 < k) → σ' 85 k = σ 85 k) ∧ (σ' 55 55 = 5) ∧ (σ' 85 4 = 11) ∧ ((r = (1 ^^^ (σ 55 57)) ∧ True))) := by
  refine jM.of hJ (by decide +kernel) (nt := .int) rfl (Nat.le_of_ble_eq_true rfl) ?_
  intro p e s m args below meth c Q ls hC hret hl hP
  obtain ⟨hx, hb, hr, hml, hown, hts, hK, -, hlocks, hZ⟩ := hC
  have hown : s.vm.findClass RX12 = some m.cls := hown
  have hS : va_S (jA ad) s.heap s.heap [] := va_S.rf
  have hA : ∀ q, jA ad q → jA ad q := fun _ h => h
  have hl : lv_has ls 4 [(0, .ref (ad 55)), (1, .int 0), (2, .int 1)] := hl
  refine lv_iload_n hx hb dX12_givesAs_0 rfl (lv_at hl 1 rfl) ?_
  refine lv_iconst (v := 5) hx hb dX12_givesAs_1 (by decide) ?_
  refine lv_icmp_ne (tgt := 30) hx hb dX12_givesAs_2 (by decide) (fun _ => ?_) (fun c => absurd c (by decide))
  refine lv_iload_n hx hb dX12_givesAs_30 rfl (lv_at hl 1 rfl) ?_
  refine lv_iconst (v := 2) hx hb dX12_givesAs_31 (by decide) ?_
  refine lv_icmp_eq (tgt := 40) hx hb dX12_givesAs_32 (by decide) (fun c => absurd c (by decide)) (fun _ => ?_)
  refine lv_iload_n hx hb dX12_givesAs_35 rfl (lv_at hl 1 rfl) ?_
  refine lv_iconst (v := 3) hx hb dX12_givesAs_36 (by decide) ?_
  refine lv_icmp_ne (tgt := 55) hx hb dX12_givesAs_37 (by decide) (fun _ => ?_) (fun c => absurd c (by decide))
  refine lv_aload_n hx hb dX12_givesAs_55 rfl (lv_at hl 0 rfl) ?_
  refine lv_bipush (v := 11) hx hb dX12_givesAs_56 (by decide) ?_
  refine jcallVv (As := [.int 11]) (rest := []) ⟨hx, hb, hml, hown, hts⟩ hK hP hA hS hZ (c_X12_begins_11_4 l D cI cL ad zz hJ σ τ h55_55) cw_RX12_379 (jc_55 cI cL ad σ τ) rfl ⟨Nat.le_of_ble_eq_true rfl, Nat.le_of_ble_eq_true rfl⟩ rfl rfl rfl hl.1 rfl (Nat.le_of_ble_eq_true rfl) dX12_givesAs_58 ⟨Nat.zero_le _, Nat.zero_le _⟩ (fun σ1 τ1 H locs h1 hP hS => ?_)
  obtain ⟨rfl, f3, f4, f5, m6, m7, h1⟩ := h1
  refine lv_iload_n hx hb dX12_givesAs_61 rfl (lv_at hl 2 rfl) ?_
  refine lv_aload_n hx hb dX12_givesAs_62 rfl (lv_at hl 0 rfl) ?_
  refine va_get (D := D) hx hb hts inlX12 hown hK hP 55 (jc_55 cI cL ad σ1 τ) rfl 57 (by decide) (hts _ kw_49_9) (fun _ h9 => h9) rfl dX12_givesAs_63 ?_
  have m8 : σ1 55 57 = (σ 55 57) := (f4 57 (by decide))
  refine jtopr m8 ?_
  refine lv_ixor hx hb dX12_givesAs_66 ?_
  refine lv_topi (fun x9 ex9 => ?_)
  have gx9 := jrg (rfl : x9.toInt = x9.toInt)
  exact hret x9 σ1 τ _ _ _ _ rfl ⟨rfl, (fun i hi => (f3 i hi)), (fun i hi => (f4 i hi)), (fun i hi => (f5 i hi)), m6, m7, ⟨(by rw [ex9]), trivial⟩⟩ hP hS dX12_givesAs_67
set_option maxHeartbeats 4000000 in
set_option maxRecDepth 100000 in
theorem c_X12_givesAs_2_2_3_x1 (l : Launch) (D : va_G) (cI cL : ClassId) (ad zz : Nat → Nat) (hJ : jD ad) (σ : Nat → Nat → Int32) (τ : Nat → Nat → Int64) (h55_55 : σ 55 55 = 3) (hp0 : (σ 55 56).toInt = 2) : jM l yX12_givesAs cX12_givesAs 4 (some .int) ({ frames := 2, cells := 0, slots := 0, locals := 44 }) D cI cL ad zz [.ref (ad 55), .int 2, .int 1] σ τ (fun r σ' τ' => τ = τ' ∧ (∀ i : Nat, (i < 55 ∨ 55 < i) ∧ (i < 85 ∨ 85 < i) → σ' i = σ i) ∧ (∀ k : Nat, (k < 55 ∨ 55 < k) → σ' 55 k = σ 55 k) ∧ (∀ k : Nat, (k < 3 ∨ 3 < k) ∧ (k < 4 ∨ 4 < k) → σ' 85 k = σ 85 k) ∧ (σ' 55 55 = 5) ∧ (σ' 85 3 = 30) ∧ (σ' 85 4 = 11) ∧ ((r = ((1 ^^^ (σ 55 57)) * 3) ∧ True))) := by
  refine jM.of hJ (by decide +kernel) (nt := .int) rfl (Nat.le_of_ble_eq_true rfl) ?_
  intro p e s m args below meth c Q ls hC hret hl hP
  obtain ⟨hx, hb, hr, hml, hown, hts, hK, -, hlocks, hZ⟩ := hC
  have hown : s.vm.findClass RX12 = some m.cls := hown
  have hS : va_S (jA ad) s.heap s.heap [] := va_S.rf
  have hA : ∀ q, jA ad q → jA ad q := fun _ h => h
  have hl : lv_has ls 4 [(0, .ref (ad 55)), (1, .int 2), (2, .int 1)] := hl
  refine lv_iload_n hx hb dX12_givesAs_0 rfl (lv_at hl 1 rfl) ?_
  refine lv_iconst (v := 5) hx hb dX12_givesAs_1 (by decide) ?_
  refine lv_icmp_ne (tgt := 30) hx hb dX12_givesAs_2 (by decide) (fun _ => ?_) (fun c => absurd c (by decide))
  refine lv_iload_n hx hb dX12_givesAs_30 rfl (lv_at hl 1 rfl) ?_
  refine lv_iconst (v := 2) hx hb dX12_givesAs_31 (by decide) ?_
  refine lv_icmp_eq (tgt := 40) hx hb dX12_givesAs_32 (by decide) (fun _ => ?_) (fun c => absurd (by decide) c)
  refine lv_aload_n hx hb dX12_givesAs_40 rfl (lv_at hl 0 rfl) ?_
  refine lv_bipush (v := 30) hx hb dX12_givesAs_41 (by decide) ?_
  refine jcallVv (As := [.int 30]) (rest := []) ⟨hx, hb, hml, hown, hts⟩ hK hP hA hS hZ (c_X12_begins_30_3 l D cI cL ad zz hJ σ τ h55_55) cw_RX12_379 (jc_55 cI cL ad σ τ) rfl ⟨Nat.le_of_ble_eq_true rfl, Nat.le_of_ble_eq_true rfl⟩ rfl rfl rfl hl.1 rfl (Nat.le_of_ble_eq_true rfl) dX12_givesAs_43 ⟨Nat.zero_le _, Nat.zero_le _⟩ (fun σ1 τ1 H locs h1 hP hS => ?_)
  obtain ⟨rfl, f3, f4, f5, m6, m7, h1⟩ := h1
  refine lv_aload_n hx hb dX12_givesAs_46 rfl (lv_at hl 0 rfl) ?_
  refine lv_iconst (v := 0) hx hb dX12_givesAs_47 (by decide) ?_
  refine lv_iload_n hx hb dX12_givesAs_48 rfl (lv_at hl 2 rfl) ?_
  have z8 : (σ1 55 56).toInt = (σ 55 56).toInt := (congrArg Int32.toInt (show σ1 55 56 = (σ 55 56) from (f4 56 (by decide))))
  refine jcallV (As := [.int 0, .int 1]) (rest := []) ⟨hx, hb, hml, hown, hts⟩ hK hP hA hS hZ (c_X12_givesAs_2_0_4_x1 l D cI cL ad zz hJ σ1 τ m6 (by omega)) cw_RX12_394 (jc_55 cI cL ad σ1 τ) rfl ⟨Nat.le_of_ble_eq_true rfl, Nat.le_of_ble_eq_true rfl⟩ rfl rfl rfl hl.1 rfl (Nat.le_of_ble_eq_true rfl) dX12_givesAs_49 ⟨Nat.zero_le _, Nat.zero_le _⟩ (fun r10 σ9 τ9 H locs h9 hP hS => ?_)
  obtain ⟨rfl, f11, f12, f13, m14, m15, h9⟩ := h9
  have h16 := h9
  obtain ⟨q18, k17⟩ := h16
  have q18 := q18.symm
  subst q18
  refine lv_iconst (v := 3) hx hb dX12_givesAs_52 (by decide) ?_
  have g19 := jrg (rfl : (1 ^^^ (σ1 55 57)).toInt = (1 ^^^ (σ1 55 57)).toInt)
  refine lv_imul hx hb dX12_givesAs_53 ?_
  refine lv_topi (fun x20 ex20 => ?_)
  have gx20 := jrg (rfl : x20.toInt = x20.toInt)
  have m21 : σ9 85 3 = 30 := ((f13 3 (by decide)).trans m7)
  exact hret x20 σ9 τ _ _ _ _ rfl ⟨rfl, (fun i hi => ((f11 i hi).trans (f3 i hi))), (fun i hi => ((f12 i hi).trans (f4 i hi))), (fun i hi => ((f13 i (imp_314 i hi)).trans (f5 i (imp_352 i hi)))), m14, m21, m15, ⟨(by rw [ex20, (show σ1 55 57 = σ 55 57 from (f4 57 (by decide)))]), trivial⟩⟩ hP hS dX12_givesAs_54
set_option maxHeartbeats 4000000 in
set_option maxRecDepth 100000 in
theorem c_X12_tellsAs_2_2_0 (l : Launch) (D : va_G) (cI cL : ClassId) (ad zz : Nat → Nat) (hJ : jD ad) (σ : Nat → Nat → Int32) (τ : Nat → Nat → Int64) (a2 : Int32) (A2 : Int) (t2 : a2.toInt = A2) (h55_55 : σ 55 55 = 0) (hp0 : (σ 55 56).toInt = 2) : jM l yX12_tellsAs cX12_tellsAs 4 (some .int) ({ frames := 3, cells := 0, slots := 0, locals := 67 }) D cI cL ad zz [.ref (ad 55), .int 2, .int a2] σ τ (fun r σ' τ' => τ = τ' ∧ (∀ i : Nat, (i < 55 ∨ 55 < i) ∧ (i < 85 ∨ 85 < i) → σ' i = σ i) ∧ (∀ k : Nat, (k < 55 ∨ 55 < k) → σ' 55 k = σ 55 k) ∧ (∀ k : Nat, (k < 0 ∨ 0 < k) ∧ (k < 1 ∨ 1 < k) ∧ (k < 2 ∨ 2 < k) ∧ (k < 3 ∨ 3 < k) ∧ (k < 4 ∨ 4 < k) → σ' 85 k = σ 85 k) ∧ (σ' 55 55 = 5) ∧ (σ' 85 0 = 2) ∧ (σ' 85 1 = 10) ∧ (σ' 85 2 = 1) ∧ (σ' 85 3 = 30) ∧ (σ' 85 4 = 11) ∧ ((r = (((a2 + (σ 55 57)) * 2) - ((1 ^^^ (σ 55 57)) * 3)) ∧ True))) := by
  refine jM.of hJ (by decide +kernel) (nt := .int) rfl (Nat.le_of_ble_eq_true rfl) ?_
  intro p e s m args below meth c Q ls hC hret hl hP
  obtain ⟨hx, hb, hr, hml, hown, hts, hK, -, hlocks, hZ⟩ := hC
  have hown : s.vm.findClass RX12 = some m.cls := hown
  have hS : va_S (jA ad) s.heap s.heap [] := va_S.rf
  have hA : ∀ q, jA ad q → jA ad q := fun _ h => h
  have hl : lv_has ls 4 [(0, .ref (ad 55)), (1, .int 2), (2, .int a2)] := hl
  have g2 := jrg t2
  refine lv_iload_n hx hb dX12_tellsAs_0 rfl (lv_at hl 1 rfl) ?_
  refine lv_iconst (v := 4) hx hb dX12_tellsAs_1 (by decide) ?_
  refine lv_icmp_ne (tgt := 20) hx hb dX12_tellsAs_2 (by decide) (fun _ => ?_) (fun c => absurd c (by decide))
  refine lv_aload_n hx hb dX12_tellsAs_20 rfl (lv_at hl 0 rfl) ?_
  refine lv_iconst (v := 2) hx hb dX12_tellsAs_21 (by decide) ?_
  refine jcallVv (As := [.int 2]) (rest := []) ⟨hx, hb, hml, hown, hts⟩ hK hP hA hS hZ (c_X12_begins_2_0 l D cI cL ad zz hJ σ τ h55_55) cw_RX12_379 (jc_55 cI cL ad σ τ) rfl ⟨Nat.le_of_ble_eq_true rfl, Nat.le_of_ble_eq_true rfl⟩ rfl rfl rfl hl.1 rfl (Nat.le_of_ble_eq_true rfl) dX12_tellsAs_22 ⟨Nat.zero_le _, Nat.zero_le _⟩ (fun σ1 τ1 H locs h1 hP hS => ?_)
  obtain ⟨rfl, f3, f4, f5, m6, m7, h1⟩ := h1
  refine lv_aload_n hx hb dX12_tellsAs_25 rfl (lv_at hl 0 rfl) ?_
  refine lv_aload_n hx hb dX12_tellsAs_26 rfl (lv_at hl 0 rfl) ?_
  refine va_get (D := D) hx hb hts inlX12 hown hK hP 55 (jc_55 cI cL ad σ1 τ) rfl 56 (by decide) (hts _ kw_49_8) (fun _ h9 => h9) rfl dX12_tellsAs_27 ?_
  have m8 : σ1 55 56 = (σ 55 56) := (f4 56 (by decide))
  refine jtopr m8 ?_
  refine jtopr (jsame (rfl : (σ 55 56).toInt = (σ 55 56).toInt) jz_2 (by omega)) ?_
  refine lv_iload_n hx hb dX12_tellsAs_30 rfl (lv_at hl 2 rfl) ?_
  have z9 : (σ1 55 56).toInt = (σ 55 56).toInt := (congrArg Int32.toInt (show σ1 55 56 = (σ 55 56) from m8))
  refine jcallV (As := [.int 2, .int a2]) (rest := []) ⟨hx, hb, hml, hown, hts⟩ hK hP hA hS hZ (c_X12_holdsAs_2_2_1 l D cI cL ad zz hJ σ1 τ a2 (A2) t2 m6 (by omega)) cw_RX12_388 (jc_55 cI cL ad σ1 τ) rfl ⟨Nat.le_of_ble_eq_true rfl, Nat.le_of_ble_eq_true rfl⟩ rfl rfl rfl hl.1 rfl (Nat.le_of_ble_eq_true rfl) dX12_tellsAs_31 ⟨Nat.zero_le _, Nat.zero_le _⟩ (fun r11 σ10 τ10 H locs h10 hP hS => ?_)
  obtain ⟨rfl, f12, f13, f14, m15, m16, m17, h10⟩ := h10
  have h18 := h10
  obtain ⟨q20, k19⟩ := h18
  have q20 := q20.symm
  subst q20
  refine lv_istore_n (lv' := [(3, .int ((a2 + (σ1 55 57)) * 2)), (0, .ref (ad 55)), (1, .int 2), (2, .int a2)]) hx hb dX12_tellsAs_34 rfl hl (by decide) rfl (fun ls hl => ?_)
  refine lv_iload_n hx hb dX12_tellsAs_35 rfl (lv_at hl 0 rfl) ?_
  refine lv_aload_n hx hb dX12_tellsAs_36 rfl (lv_at hl 1 rfl) ?_
  refine lv_aload_n hx hb dX12_tellsAs_37 rfl (lv_at hl 1 rfl) ?_
  refine va_get (D := D) hx hb hts inlX12 hown hK hP 55 (jc_55 cI cL ad σ10 τ) rfl 56 (by decide) (hts _ kw_49_8) (fun _ h9 => h9) rfl dX12_tellsAs_38 ?_
  have m21 : σ10 55 56 = (σ 55 56) := ((f13 56 (by decide)).trans m8)
  refine jtopr m21 ?_
  refine jtopr (jsame (rfl : (σ 55 56).toInt = (σ 55 56).toInt) jz_2 (by omega)) ?_
  refine lv_iconst (v := 1) hx hb dX12_tellsAs_41 (by decide) ?_
  have z22 : (σ10 55 56).toInt = (σ 55 56).toInt := (congrArg Int32.toInt (show σ10 55 56 = (σ 55 56) from m21))
  refine jcallV (As := [.int 2, .int 1]) (rest := [.int ((a2 + (σ1 55 57)) * 2)]) ⟨hx, hb, hml, hown, hts⟩ hK hP hA hS hZ (c_X12_givesAs_2_2_3_x1 l D cI cL ad zz hJ σ10 τ m15 (by omega)) cw_RX12_394 (jc_55 cI cL ad σ10 τ) rfl ⟨Nat.le_of_ble_eq_true rfl, Nat.le_of_ble_eq_true rfl⟩ rfl rfl rfl hl.1 rfl (Nat.le_of_ble_eq_true rfl) dX12_tellsAs_42 ⟨Nat.zero_le _, Nat.zero_le _⟩ (fun r24 σ23 τ23 H locs h23 hP hS => ?_)
  obtain ⟨rfl, f25, f26, f27, m28, m29, m30, h23⟩ := h23
  have h31 := h23
  obtain ⟨q33, k32⟩ := h31
  have q33 := q33.symm
  subst q33
  have g34 := jrg (rfl : ((a2 + (σ1 55 57)) * 2).toInt = ((a2 + (σ1 55 57)) * 2).toInt)
  have g35 := jrg (rfl : ((1 ^^^ (σ10 55 57)) * 3).toInt = ((1 ^^^ (σ10 55 57)) * 3).toInt)
  refine lv_isub hx hb dX12_tellsAs_45 ?_
  refine lv_topi (fun x36 ex36 => ?_)
  have gx36 := jrg (rfl : x36.toInt = x36.toInt)
  have m37 : σ23 85 0 = 2 := ((f27 0 (by decide)).trans ((f14 0 (by decide)).trans m7))
  have m38 : σ23 85 1 = 10 := ((f27 1 (by decide)).trans m16)
  have m39 : σ23 85 2 = 1 := ((f27 2 (by decide)).trans m17)
  exact hret x36 σ23 τ _ _ _ _ rfl ⟨rfl, (fun i hi => ((f25 i hi).trans ((f12 i hi).trans (f3 i hi)))), (fun i hi => ((f26 i hi).trans ((f13 i hi).trans (f4 i hi)))), (fun i hi => ((f27 i (imp_316 i hi)).trans ((f14 i (imp_317 i hi)).trans (f5 i (imp_351 i hi))))), m28, m37, m38, m39, m29, m30, ⟨(by rw [ex36, (show σ1 55 57 = σ 55 57 from (f4 57 (by decide))), (show σ10 55 57 = σ 55 57 from ((f13 57 (by decide)).trans (f4 57 (by decide))))]), trivial⟩⟩ hP hS dX12_tellsAs_46
set_option maxHeartbeats 4000000 in
set_option maxRecDepth 100000 in
theorem c_X12_putsAs_3_3_0 (l : Launch) (D : va_G) (cI cL : ClassId) (ad zz : Nat → Nat) (hJ : jD ad) (σ : Nat → Nat → Int32) (τ : Nat → Nat → Int64) (a2 : Int32) (A2 : Int) (t2 : a2.toInt = A2) (h55_55 : σ 55 55 = 0) (hp0 : (σ 55 56).toInt = 3) : jM l yX12_putsAs cX12_putsAs 3 (some .int) ({ frames := 1, cells := 0, slots := 0, locals := 21 }) D cI cL ad zz [.ref (ad 55), .int 3, .int a2] σ τ (fun r σ' τ' => τ = τ' ∧ (∀ i : Nat, (i < 55 ∨ 55 < i) ∧ (i < 85 ∨ 85 < i) → σ' i = σ i) ∧ (∀ k : Nat, (k < 55 ∨ 55 < k) → σ' 55 k = σ 55 k) ∧ (∀ k : Nat, (k < 0 ∨ 0 < k) → σ' 85 k = σ 85 k) ∧ (σ' 55 55 = 1) ∧ (σ' 85 0 = 1) ∧ ((r = (a2 + (σ 55 57)) ∧ True))) := by
  refine jM.of hJ (by decide +kernel) (nt := .int) rfl (Nat.le_of_ble_eq_true rfl) ?_
  intro p e s m args below meth c Q ls hC hret hl hP
  obtain ⟨hx, hb, hr, hml, hown, hts, hK, -, hlocks, hZ⟩ := hC
  have hown : s.vm.findClass RX12 = some m.cls := hown
  have hS : va_S (jA ad) s.heap s.heap [] := va_S.rf
  have hA : ∀ q, jA ad q → jA ad q := fun _ h => h
  have hl : lv_has ls 3 [(0, .ref (ad 55)), (1, .int 3), (2, .int a2)] := hl
  have g2 := jrg t2
  refine lv_iload_n hx hb dX12_putsAs_0 rfl (lv_at hl 1 rfl) ?_
  refine lv_iconst (v := 4) hx hb dX12_putsAs_1 (by decide) ?_
  refine lv_icmp_ne (tgt := 20) hx hb dX12_putsAs_2 (by decide) (fun _ => ?_) (fun c => absurd c (by decide))
  refine lv_iload_n hx hb dX12_putsAs_20 rfl (lv_at hl 1 rfl) ?_
  refine lv_iconst (v := 1) hx hb dX12_putsAs_21 (by decide) ?_
  refine lv_icmp_ne (tgt := 40) hx hb dX12_putsAs_22 (by decide) (fun _ => ?_) (fun c => absurd c (by decide))
  refine lv_aload_n hx hb dX12_putsAs_40 rfl (lv_at hl 0 rfl) ?_
  refine lv_iconst (v := 1) hx hb dX12_putsAs_41 (by decide) ?_
  refine jcallVv (As := [.int 1]) (rest := []) ⟨hx, hb, hml, hown, hts⟩ hK hP hA hS hZ (c_X12_begins_1_0 l D cI cL ad zz hJ σ τ h55_55) cw_RX12_379 (jc_55 cI cL ad σ τ) rfl ⟨Nat.le_of_ble_eq_true rfl, Nat.le_of_ble_eq_true rfl⟩ rfl rfl rfl hl.1 rfl (Nat.le_of_ble_eq_true rfl) dX12_putsAs_42 ⟨Nat.zero_le _, Nat.zero_le _⟩ (fun σ1 τ1 H locs h1 hP hS => ?_)
  obtain ⟨rfl, f3, f4, f5, m6, m7, h1⟩ := h1
  refine lv_iload_n hx hb dX12_putsAs_45 rfl (lv_at hl 2 rfl) ?_
  refine lv_aload_n hx hb dX12_putsAs_46 rfl (lv_at hl 0 rfl) ?_
  refine va_get (D := D) hx hb hts inlX12 hown hK hP 55 (jc_55 cI cL ad σ1 τ) rfl 57 (by decide) (hts _ kw_49_9) (fun _ h9 => h9) rfl dX12_putsAs_47 ?_
  have m8 : σ1 55 57 = (σ 55 57) := (f4 57 (by decide))
  refine jtopr m8 ?_
  have g9 := jrg (rfl : (σ 55 57).toInt = (σ 55 57).toInt)
  refine lv_iadd hx hb dX12_putsAs_50 ?_
  refine lv_topi (fun x10 ex10 => ?_)
  have gx10 := jrg (rfl : x10.toInt = x10.toInt)
  exact hret x10 σ1 τ _ _ _ _ rfl ⟨rfl, (fun i hi => (f3 i hi)), (fun i hi => (f4 i hi)), (fun i hi => (f5 i hi)), m6, m7, ⟨(by rw [ex10]), trivial⟩⟩ hP hS dX12_putsAs_51
set_option maxHeartbeats 4000000 in
set_option maxRecDepth 100000 in
theorem c_X12_begins_40_0 (l : Launch) (D : va_G) (cI cL : ClassId) (ad zz : Nat → Nat) (hJ : jD ad) (σ : Nat → Nat → Int32) (τ : Nat → Nat → Int64) (h55_55 : σ 55 55 = 0) : jMv l yX12_begins cX12_begins 2 none ({ frames := 0, cells := 0, slots := 0, locals := 0 }) D cI cL ad zz [.ref (ad 55), .int 40] σ τ (fun σ' τ' => τ = τ' ∧ (∀ i : Nat, (i < 55 ∨ 55 < i) ∧ (i < 85 ∨ 85 < i) → σ' i = σ i) ∧ (∀ k : Nat, (k < 55 ∨ 55 < k) → σ' 55 k = σ 55 k) ∧ (∀ k : Nat, (k < 0 ∨ 0 < k) → σ' 85 k = σ 85 k) ∧ (σ' 55 55 = 1) ∧ (σ' 85 0 = 40) ∧ True) := by
  refine jMv.of hJ (by decide +kernel) rfl (Nat.le_of_ble_eq_true rfl) ?_
  intro p e s m args below meth c Q ls hC hret hl hP
  obtain ⟨hx, hb, hr, hml, hown, hts, hK, -, hlocks, hZ⟩ := hC
  have hown : s.vm.findClass RX12 = some m.cls := hown
  have hS : va_S (jA ad) s.heap s.heap [] := va_S.rf
  have hA : ∀ q, jA ad q → jA ad q := fun _ h => h
  have hl : lv_has ls 2 [(0, .ref (ad 55)), (1, .int 40)] := hl
  refine lv_aload_n hx hb dX12_begins_0 rfl (lv_at hl 0 rfl) ?_
  refine va_get (D := D) hx hb hts inlX12 hown hK hP 55 (jc_55 cI cL ad σ τ) rfl 55 (by decide) (hts _ kw_49_7) (fun _ h9 => h9) rfl dX12_begins_1 ?_
  refine jtopr h55_55 ?_
  refine lv_bipush (v := 24) hx hb dX12_begins_4 (by decide) ?_
  refine lv_icmp_ge (tgt := 19) hx hb dX12_begins_6 (by decide) (fun c => absurd c (by decide)) (fun _ => ?_)
  refine lv_aload_n hx hb dX12_begins_9 rfl (lv_at hl 0 rfl) ?_
  refine va_get (D := D) hx hb hts inlX12 hown hK hP 55 (jc_55 cI cL ad σ τ) rfl 54 (by decide) (hts _ kw_8_10) (fun _ h9 => h9) rfl dX12_begins_10 ?_
  refine lv_aload_n hx hb dX12_begins_13 rfl (lv_at hl 0 rfl) ?_
  refine va_get (D := D) hx hb hts inlX12 hown hK hP 55 (jc_55 cI cL ad σ τ) rfl 55 (by decide) (hts _ kw_49_7) (fun _ h9 => h9) rfl dX12_begins_14 ?_
  refine jtopr h55_55 ?_
  refine lv_iload_n hx hb dX12_begins_17 rfl (lv_at hl 1 rfl) ?_
  refine jast hx hb hK hP hJ hA hS (jc_85 cI cL ad σ τ) (ja_85 cI cL ad σ τ _ _) (jin jz_0 (by omega) (by omega)) dX12_begins_18 (fun σ1 H locs eσ1 hP hS => ?_)
  have eσ1 : σ1 = jup σ 85 0 40 := eσ1
  refine lv_aload_n hx hb dX12_begins_19 rfl (lv_at hl 0 rfl) ?_
  refine lv_dup hx hb dX12_begins_20 rfl ?_
  refine va_get (D := D) hx hb hts inlX12 hown hK hP 55 (jc_55 cI cL ad σ1 τ) rfl 55 (by decide) (hts _ kw_49_7) (fun _ h9 => h9) rfl dX12_begins_21 ?_
  have m2 : σ1 55 55 = 0 := ((congrFun (jnp 55 eσ1 (by decide)) 55).trans h55_55)
  refine jtopr m2 ?_
  refine lv_iconst (v := 1) hx hb dX12_begins_24 (by decide) ?_
  refine lv_iadd hx hb dX12_begins_25 ?_
  refine jtopr (y := 1) (by decide) ?_
  refine jput (ty := .int) hx hb hts inlX12 tyX12 tyX12_ok nmX12 hown hK hP hJ hA hS (jc_55 cI cL ad σ1 τ) rfl (k := 55) (by decide) (Nat.le_of_ble_eq_true rfl) (jp_55_55 cI cL ad σ1 τ 1) (hts _ kw_49_7) (fun _ h9 => h9) rfl (by decide +kernel) rfl rfl dX12_begins_26 (fun σ3 H locs eσ3 hP hS => ?_)
  have m4 : σ3 55 55 = 1 := (jsp eσ3)
  have m5 : σ3 85 0 = 40 := ((congrFun (jnp 85 eσ3 (by decide)) 0).trans (jsp eσ1))
  exact hret σ3 τ _ _ _ _ ⟨rfl, (fun i hi => ((jnp i eσ3 (imp_345 i hi)).trans (jnp i eσ1 (imp_346 i hi)))), (fun i hi => ((jkp i eσ3 (imp_164 i hi)).trans (congrFun (jnp 55 eσ1 (by decide)) i))), (fun i hi => ((congrFun (jnp 85 eσ3 (by decide)) i).trans (jkp i eσ1 (imp_4 i hi)))), m4, m5, trivial⟩ hP hS dX12_begins_29
set_option maxHeartbeats 4000000 in
set_option maxRecDepth 100000 in
theorem c_X12_putsAs_3_3_2 (l : Launch) (D : va_G) (cI cL : ClassId) (ad zz : Nat → Nat) (hJ : jD ad) (σ : Nat → Nat → Int32) (τ : Nat → Nat → Int64) (a2 : Int32) (A2 : Int) (t2 : a2.toInt = A2) (h55_55 : σ 55 55 = 2) (hp0 : (σ 55 56).toInt = 3) : jM l yX12_putsAs cX12_putsAs 3 (some .int) ({ frames := 1, cells := 0, slots := 0, locals := 21 }) D cI cL ad zz [.ref (ad 55), .int 3, .int a2] σ τ (fun r σ' τ' => τ = τ' ∧ (∀ i : Nat, (i < 55 ∨ 55 < i) ∧ (i < 85 ∨ 85 < i) → σ' i = σ i) ∧ (∀ k : Nat, (k < 55 ∨ 55 < k) → σ' 55 k = σ 55 k) ∧ (∀ k : Nat, (k < 2 ∨ 2 < k) → σ' 85 k = σ 85 k) ∧ (σ' 55 55 = 3) ∧ (σ' 85 2 = 1) ∧ ((r = (a2 + (σ 55 57)) ∧ True))) := by
  refine jM.of hJ (by decide +kernel) (nt := .int) rfl (Nat.le_of_ble_eq_true rfl) ?_
  intro p e s m args below meth c Q ls hC hret hl hP
  obtain ⟨hx, hb, hr, hml, hown, hts, hK, -, hlocks, hZ⟩ := hC
  have hown : s.vm.findClass RX12 = some m.cls := hown
  have hS : va_S (jA ad) s.heap s.heap [] := va_S.rf
  have hA : ∀ q, jA ad q → jA ad q := fun _ h => h
  have hl : lv_has ls 3 [(0, .ref (ad 55)), (1, .int 3), (2, .int a2)] := hl
  have g2 := jrg t2
  refine lv_iload_n hx hb dX12_putsAs_0 rfl (lv_at hl 1 rfl) ?_
  refine lv_iconst (v := 4) hx hb dX12_putsAs_1 (by decide) ?_
  refine lv_icmp_ne (tgt := 20) hx hb dX12_putsAs_2 (by decide) (fun _ => ?_) (fun c => absurd c (by decide))
  refine lv_iload_n hx hb dX12_putsAs_20 rfl (lv_at hl 1 rfl) ?_
  refine lv_iconst (v := 1) hx hb dX12_putsAs_21 (by decide) ?_
  refine lv_icmp_ne (tgt := 40) hx hb dX12_putsAs_22 (by decide) (fun _ => ?_) (fun c => absurd c (by decide))
  refine lv_aload_n hx hb dX12_putsAs_40 rfl (lv_at hl 0 rfl) ?_
  refine lv_iconst (v := 1) hx hb dX12_putsAs_41 (by decide) ?_
  refine jcallVv (As := [.int 1]) (rest := []) ⟨hx, hb, hml, hown, hts⟩ hK hP hA hS hZ (c_X12_begins_1_2 l D cI cL ad zz hJ σ τ h55_55) cw_RX12_379 (jc_55 cI cL ad σ τ) rfl ⟨Nat.le_of_ble_eq_true rfl, Nat.le_of_ble_eq_true rfl⟩ rfl rfl rfl hl.1 rfl (Nat.le_of_ble_eq_true rfl) dX12_putsAs_42 ⟨Nat.zero_le _, Nat.zero_le _⟩ (fun σ1 τ1 H locs h1 hP hS => ?_)
  obtain ⟨rfl, f3, f4, f5, m6, m7, h1⟩ := h1
  refine lv_iload_n hx hb dX12_putsAs_45 rfl (lv_at hl 2 rfl) ?_
  refine lv_aload_n hx hb dX12_putsAs_46 rfl (lv_at hl 0 rfl) ?_
  refine va_get (D := D) hx hb hts inlX12 hown hK hP 55 (jc_55 cI cL ad σ1 τ) rfl 57 (by decide) (hts _ kw_49_9) (fun _ h9 => h9) rfl dX12_putsAs_47 ?_
  have m8 : σ1 55 57 = (σ 55 57) := (f4 57 (by decide))
  refine jtopr m8 ?_
  have g9 := jrg (rfl : (σ 55 57).toInt = (σ 55 57).toInt)
  refine lv_iadd hx hb dX12_putsAs_50 ?_
  refine lv_topi (fun x10 ex10 => ?_)
  have gx10 := jrg (rfl : x10.toInt = x10.toInt)
  exact hret x10 σ1 τ _ _ _ _ rfl ⟨rfl, (fun i hi => (f3 i hi)), (fun i hi => (f4 i hi)), (fun i hi => (f5 i hi)), m6, m7, ⟨(by rw [ex10]), trivial⟩⟩ hP hS dX12_putsAs_51
set_option maxHeartbeats 4000000 in
set_option maxRecDepth 100000 in
theorem c_X12_holdsAs_3_0_1 (l : Launch) (D : va_G) (cI cL : ClassId) (ad zz : Nat → Nat) (hJ : jD ad) (σ : Nat → Nat → Int32) (τ : Nat → Nat → Int64) (a2 : Int32) (A2 : Int) (t2 : a2.toInt = A2) (h55_55 : σ 55 55 = 1) (hp0 : (σ 55 56).toInt = 3) : jM l yX12_holdsAs cX12_holdsAs 4 (some .int) ({ frames := 2, cells := 0, slots := 0, locals := 43 }) D cI cL ad zz [.ref (ad 55), .int 0, .int a2] σ τ (fun r σ' τ' => τ = τ' ∧ (∀ i : Nat, (i < 55 ∨ 55 < i) ∧ (i < 85 ∨ 85 < i) → σ' i = σ i) ∧ (∀ k : Nat, (k < 55 ∨ 55 < k) → σ' 55 k = σ 55 k) ∧ (∀ k : Nat, (k < 1 ∨ 1 < k) ∧ (k < 2 ∨ 2 < k) → σ' 85 k = σ 85 k) ∧ (σ' 55 55 = 3) ∧ (σ' 85 1 = 10) ∧ (σ' 85 2 = 1) ∧ ((r = ((a2 + (σ 55 57)) * 2) ∧ True))) := by
  refine jM.of hJ (by decide +kernel) (nt := .int) rfl (Nat.le_of_ble_eq_true rfl) ?_
  intro p e s m args below meth c Q ls hC hret hl hP
  obtain ⟨hx, hb, hr, hml, hown, hts, hK, -, hlocks, hZ⟩ := hC
  have hown : s.vm.findClass RX12 = some m.cls := hown
  have hS : va_S (jA ad) s.heap s.heap [] := va_S.rf
  have hA : ∀ q, jA ad q → jA ad q := fun _ h => h
  have hl : lv_has ls 4 [(0, .ref (ad 55)), (1, .int 0), (2, .int a2)] := hl
  have g2 := jrg t2
  refine lv_iload_n hx hb dX12_holdsAs_0 rfl (lv_at hl 1 rfl) ?_
  refine lv_iconst (v := 3) hx hb dX12_holdsAs_1 (by decide) ?_
  refine lv_icmp_eq (tgt := 10) hx hb dX12_holdsAs_2 (by decide) (fun c => absurd c (by decide)) (fun _ => ?_)
  refine lv_iload_n hx hb dX12_holdsAs_5 rfl (lv_at hl 1 rfl) ?_
  refine lv_iconst (v := 5) hx hb dX12_holdsAs_6 (by decide) ?_
  refine lv_icmp_ne (tgt := 24) hx hb dX12_holdsAs_7 (by decide) (fun _ => ?_) (fun c => absurd c (by decide))
  refine lv_iload_n hx hb dX12_holdsAs_24 rfl (lv_at hl 1 rfl) ?_
  refine lv_bipush (v := 6) hx hb dX12_holdsAs_25 (by decide) ?_
  refine lv_icmp_ne (tgt := 55) hx hb dX12_holdsAs_27 (by decide) (fun _ => ?_) (fun c => absurd c (by decide))
  refine lv_aload_n hx hb dX12_holdsAs_55 rfl (lv_at hl 0 rfl) ?_
  refine lv_bipush (v := 10) hx hb dX12_holdsAs_56 (by decide) ?_
  refine jcallVv (As := [.int 10]) (rest := []) ⟨hx, hb, hml, hown, hts⟩ hK hP hA hS hZ (c_X12_begins_10_1 l D cI cL ad zz hJ σ τ h55_55) cw_RX12_379 (jc_55 cI cL ad σ τ) rfl ⟨Nat.le_of_ble_eq_true rfl, Nat.le_of_ble_eq_true rfl⟩ rfl rfl rfl hl.1 rfl (Nat.le_of_ble_eq_true rfl) dX12_holdsAs_58 ⟨Nat.zero_le _, Nat.zero_le _⟩ (fun σ1 τ1 H locs h1 hP hS => ?_)
  obtain ⟨rfl, f3, f4, f5, m6, m7, h1⟩ := h1
  refine lv_aload_n hx hb dX12_holdsAs_61 rfl (lv_at hl 0 rfl) ?_
  refine lv_aload_n hx hb dX12_holdsAs_62 rfl (lv_at hl 0 rfl) ?_
  refine va_get (D := D) hx hb hts inlX12 hown hK hP 55 (jc_55 cI cL ad σ1 τ) rfl 56 (by decide) (hts _ kw_49_8) (fun _ h9 => h9) rfl dX12_holdsAs_63 ?_
  have m8 : σ1 55 56 = (σ 55 56) := (f4 56 (by decide))
  refine jtopr m8 ?_
  refine jtopr (jsame (rfl : (σ 55 56).toInt = (σ 55 56).toInt) jz_3 (by omega)) ?_
  refine lv_iload_n hx hb dX12_holdsAs_66 rfl (lv_at hl 2 rfl) ?_
  have z9 : (σ1 55 56).toInt = (σ 55 56).toInt := (congrArg Int32.toInt (show σ1 55 56 = (σ 55 56) from m8))
  refine jcallV (As := [.int 3, .int a2]) (rest := []) ⟨hx, hb, hml, hown, hts⟩ hK hP hA hS hZ (c_X12_putsAs_3_3_2 l D cI cL ad zz hJ σ1 τ a2 (A2) t2 m6 (by omega)) cw_RX12_382 (jc_55 cI cL ad σ1 τ) rfl ⟨Nat.le_of_ble_eq_true rfl, Nat.le_of_ble_eq_true rfl⟩ rfl rfl rfl hl.1 rfl (Nat.le_of_ble_eq_true rfl) dX12_holdsAs_67 ⟨Nat.zero_le _, Nat.zero_le _⟩ (fun r11 σ10 τ10 H locs h10 hP hS => ?_)
  obtain ⟨rfl, f12, f13, f14, m15, m16, h10⟩ := h10
  have h17 := h10
  obtain ⟨q19, k18⟩ := h17
  have q19 := q19.symm
  subst q19
  refine lv_iconst (v := 2) hx hb dX12_holdsAs_70 (by decide) ?_
  have g20 := jrg (rfl : (a2 + (σ1 55 57)).toInt = (a2 + (σ1 55 57)).toInt)
  refine lv_imul hx hb dX12_holdsAs_71 ?_
  refine lv_topi (fun x21 ex21 => ?_)
  have gx21 := jrg (rfl : x21.toInt = x21.toInt)
  have m22 : σ10 85 1 = 10 := ((f14 1 (by decide)).trans m7)
  exact hret x21 σ10 τ _ _ _ _ rfl ⟨rfl, (fun i hi => ((f12 i hi).trans (f3 i hi))), (fun i hi => ((f13 i hi).trans (f4 i hi))), (fun i hi => ((f14 i (imp_43 i hi)).trans (f5 i (imp_60 i hi)))), m15, m22, m16, ⟨(by rw [ex21, (show σ1 55 57 = σ 55 57 from (f4 57 (by decide)))]), trivial⟩⟩ hP hS dX12_holdsAs_72
set_option maxHeartbeats 4000000 in
set_option maxRecDepth 100000 in
theorem c_X12_holdsAs_3_3_0 (l : Launch) (D : va_G) (cI cL : ClassId) (ad zz : Nat → Nat) (hJ : jD ad) (σ : Nat → Nat → Int32) (τ : Nat → Nat → Int64) (a2 : Int32) (A2 : Int) (t2 : a2.toInt = A2) (h55_55 : σ 55 55 = 0) (hp0 : (σ 55 56).toInt = 3) : jM l yX12_holdsAs cX12_holdsAs 4 (some .int) ({ frames := 3, cells := 0, slots := 0, locals := 66 }) D cI cL ad zz [.ref (ad 55), .int 3, .int a2] σ τ (fun r σ' τ' => τ = τ' ∧ (∀ i : Nat, (i < 55 ∨ 55 < i) ∧ (i < 85 ∨ 85 < i) → σ' i = σ i) ∧ (∀ k : Nat, (k < 55 ∨ 55 < k) → σ' 55 k = σ 55 k) ∧ (∀ k : Nat, (k < 0 ∨ 0 < k) ∧ (k < 1 ∨ 1 < k) ∧ (k < 2 ∨ 2 < k) → σ' 85 k = σ 85 k) ∧ (σ' 55 55 = 3) ∧ (σ' 85 0 = 40) ∧ (σ' 85 1 = 10) ∧ (σ' 85 2 = 1) ∧ ((r = (-((a2 + (σ 55 57)) * 2)) ∧ True))) := by
  refine jM.of hJ (by decide +kernel) (nt := .int) rfl (Nat.le_of_ble_eq_true rfl) ?_
  intro p e s m args below meth c Q ls hC hret hl hP
  obtain ⟨hx, hb, hr, hml, hown, hts, hK, -, hlocks, hZ⟩ := hC
  have hown : s.vm.findClass RX12 = some m.cls := hown
  have hS : va_S (jA ad) s.heap s.heap [] := va_S.rf
  have hA : ∀ q, jA ad q → jA ad q := fun _ h => h
  have hl : lv_has ls 4 [(0, .ref (ad 55)), (1, .int 3), (2, .int a2)] := hl
  have g2 := jrg t2
  refine lv_iload_n hx hb dX12_holdsAs_0 rfl (lv_at hl 1 rfl) ?_
  refine lv_iconst (v := 3) hx hb dX12_holdsAs_1 (by decide) ?_
  refine lv_icmp_eq (tgt := 10) hx hb dX12_holdsAs_2 (by decide) (fun _ => ?_) (fun c => absurd (by decide) c)
  refine lv_aload_n hx hb dX12_holdsAs_10 rfl (lv_at hl 0 rfl) ?_
  refine lv_bipush (v := 40) hx hb dX12_holdsAs_11 (by decide) ?_
  refine jcallVv (As := [.int 40]) (rest := []) ⟨hx, hb, hml, hown, hts⟩ hK hP hA hS hZ (c_X12_begins_40_0 l D cI cL ad zz hJ σ τ h55_55) cw_RX12_379 (jc_55 cI cL ad σ τ) rfl ⟨Nat.le_of_ble_eq_true rfl, Nat.le_of_ble_eq_true rfl⟩ rfl rfl rfl hl.1 rfl (Nat.le_of_ble_eq_true rfl) dX12_holdsAs_13 ⟨Nat.zero_le _, Nat.zero_le _⟩ (fun σ1 τ1 H locs h1 hP hS => ?_)
  obtain ⟨rfl, f3, f4, f5, m6, m7, h1⟩ := h1
  refine lv_aload_n hx hb dX12_holdsAs_16 rfl (lv_at hl 0 rfl) ?_
  refine lv_iconst (v := 0) hx hb dX12_holdsAs_17 (by decide) ?_
  refine lv_iload_n hx hb dX12_holdsAs_18 rfl (lv_at hl 2 rfl) ?_
  have z8 : (σ1 55 56).toInt = (σ 55 56).toInt := (congrArg Int32.toInt (show σ1 55 56 = (σ 55 56) from (f4 56 (by decide))))
  refine jcallV (As := [.int 0, .int a2]) (rest := []) ⟨hx, hb, hml, hown, hts⟩ hK hP hA hS hZ (c_X12_holdsAs_3_0_1 l D cI cL ad zz hJ σ1 τ a2 (A2) t2 m6 (by omega)) cw_RX12_388 (jc_55 cI cL ad σ1 τ) rfl ⟨Nat.le_of_ble_eq_true rfl, Nat.le_of_ble_eq_true rfl⟩ rfl rfl rfl hl.1 rfl (Nat.le_of_ble_eq_true rfl) dX12_holdsAs_19 ⟨Nat.zero_le _, Nat.zero_le _⟩ (fun r10 σ9 τ9 H locs h9 hP hS => ?_)
  obtain ⟨rfl, f11, f12, f13, m14, m15, m16, h9⟩ := h9
  have h17 := h9
  obtain ⟨q19, k18⟩ := h17
  have q19 := q19.symm
  subst q19
  refine lv_ineg hx hb dX12_holdsAs_22 ?_
  refine lv_topi (fun x20 ex20 => ?_)
  have gx20 := jrg (rfl : x20.toInt = x20.toInt)
  have m21 : σ9 85 0 = 40 := ((f13 0 (by decide)).trans m7)
  exact hret x20 σ9 τ _ _ _ _ rfl ⟨rfl, (fun i hi => ((f11 i hi).trans (f3 i hi))), (fun i hi => ((f12 i hi).trans (f4 i hi))), (fun i hi => ((f13 i (imp_50 i hi)).trans (f5 i (imp_349 i hi)))), m14, m21, m15, m16, ⟨(by rw [ex20, (show σ1 55 57 = σ 55 57 from (f4 57 (by decide)))]), trivial⟩⟩ hP hS dX12_holdsAs_23
set_option maxHeartbeats 4000000 in
set_option maxRecDepth 100000 in
theorem c_X12_givesAs_3_0_1 (l : Launch) (D : va_G) (cI cL : ClassId) (ad zz : Nat → Nat) (hJ : jD ad) (σ : Nat → Nat → Int32) (τ : Nat → Nat → Int64) (a2 : Int32) (A2 : Int) (t2 : a2.toInt = A2) (h55_55 : σ 55 55 = 1) (hp0 : (σ 55 56).toInt = 3) : jM l yX12_givesAs cX12_givesAs 4 (some .int) ({ frames := 1, cells := 0, slots := 0, locals := 21 }) D cI cL ad zz [.ref (ad 55), .int 0, .int a2] σ τ (fun r σ' τ' => τ = τ' ∧ (∀ i : Nat, (i < 55 ∨ 55 < i) ∧ (i < 85 ∨ 85 < i) → σ' i = σ i) ∧ (∀ k : Nat, (k < 55 ∨ 55 < k) → σ' 55 k = σ 55 k) ∧ (∀ k : Nat, (k < 1 ∨ 1 < k) → σ' 85 k = σ 85 k) ∧ (σ' 55 55 = 2) ∧ (σ' 85 1 = 11) ∧ ((r = (a2 ^^^ (σ 55 57)) ∧ True))) := by
  refine jM.of hJ (by decide +kernel) (nt := .int) rfl (Nat.le_of_ble_eq_true rfl) ?_
  intro p e s m args below meth c Q ls hC hret hl hP
  obtain ⟨hx, hb, hr, hml, hown, hts, hK, -, hlocks, hZ⟩ := hC
  have hown : s.vm.findClass RX12 = some m.cls := hown
  have hS : va_S (jA ad) s.heap s.heap [] := va_S.rf
  have hA : ∀ q, jA ad q → jA ad q := fun _ h => h
  have hl : lv_has ls 4 [(0, .ref (ad 55)), (1, .int 0), (2, .int a2)] := hl
  have g2 := jrg t2
  refine lv_iload_n hx hb dX12_givesAs_0 rfl (lv_at hl 1 rfl) ?_
  refine lv_iconst (v := 5) hx hb dX12_givesAs_1 (by decide) ?_
  refine lv_icmp_ne (tgt := 30) hx hb dX12_givesAs_2 (by decide) (fun _ => ?_) (fun c => absurd c (by decide))
  refine lv_iload_n hx hb dX12_givesAs_30 rfl (lv_at hl 1 rfl) ?_
  refine lv_iconst (v := 2) hx hb dX12_givesAs_31 (by decide) ?_
  refine lv_icmp_eq (tgt := 40) hx hb dX12_givesAs_32 (by decide) (fun c => absurd c (by decide)) (fun _ => ?_)
  refine lv_iload_n hx hb dX12_givesAs_35 rfl (lv_at hl 1 rfl) ?_
  refine lv_iconst (v := 3) hx hb dX12_givesAs_36 (by decide) ?_
  refine lv_icmp_ne (tgt := 55) hx hb dX12_givesAs_37 (by decide) (fun _ => ?_) (fun c => absurd c (by decide))
  refine lv_aload_n hx hb dX12_givesAs_55 rfl (lv_at hl 0 rfl) ?_
  refine lv_bipush (v := 11) hx hb dX12_givesAs_56 (by decide) ?_
  refine jcallVv (As := [.int 11]) (rest := []) ⟨hx, hb, hml, hown, hts⟩ hK hP hA hS hZ (c_X12_begins_11_1 l D cI cL ad zz hJ σ τ h55_55) cw_RX12_379 (jc_55 cI cL ad σ τ) rfl ⟨Nat.le_of_ble_eq_true rfl, Nat.le_of_ble_eq_true rfl⟩ rfl rfl rfl hl.1 rfl (Nat.le_of_ble_eq_true rfl) dX12_givesAs_58 ⟨Nat.zero_le _, Nat.zero_le _⟩ (fun σ1 τ1 H locs h1 hP hS => ?_)
  obtain ⟨rfl, f3, f4, f5, m6, m7, h1⟩ := h1
  refine lv_iload_n hx hb dX12_givesAs_61 rfl (lv_at hl 2 rfl) ?_
  refine lv_aload_n hx hb dX12_givesAs_62 rfl (lv_at hl 0 rfl) ?_
  refine va_get (D := D) hx hb hts inlX12 hown hK hP 55 (jc_55 cI cL ad σ1 τ) rfl 57 (by decide) (hts _ kw_49_9) (fun _ h9 => h9) rfl dX12_givesAs_63 ?_
  have m8 : σ1 55 57 = (σ 55 57) := (f4 57 (by decide))
  refine jtopr m8 ?_
  refine lv_ixor hx hb dX12_givesAs_66 ?_
  refine lv_topi (fun x9 ex9 => ?_)
  have gx9 := jrg (rfl : x9.toInt = x9.toInt)
  exact hret x9 σ1 τ _ _ _ _ rfl ⟨rfl, (fun i hi => (f3 i hi)), (fun i hi => (f4 i hi)), (fun i hi => (f5 i hi)), m6, m7, ⟨(by rw [ex9]), trivial⟩⟩ hP hS dX12_givesAs_67
set_option maxHeartbeats 4000000 in
set_option maxRecDepth 100000 in
theorem c_X12_givesAs_3_3_0 (l : Launch) (D : va_G) (cI cL : ClassId) (ad zz : Nat → Nat) (hJ : jD ad) (σ : Nat → Nat → Int32) (τ : Nat → Nat → Int64) (a2 : Int32) (A2 : Int) (t2 : a2.toInt = A2) (h55_55 : σ 55 55 = 0) (hp0 : (σ 55 56).toInt = 3) : jM l yX12_givesAs cX12_givesAs 4 (some .int) ({ frames := 2, cells := 0, slots := 0, locals := 44 }) D cI cL ad zz [.ref (ad 55), .int 3, .int a2] σ τ (fun r σ' τ' => τ = τ' ∧ (∀ i : Nat, (i < 55 ∨ 55 < i) ∧ (i < 85 ∨ 85 < i) → σ' i = σ i) ∧ (∀ k : Nat, (k < 55 ∨ 55 < k) → σ' 55 k = σ 55 k) ∧ (∀ k : Nat, (k < 0 ∨ 0 < k) ∧ (k < 1 ∨ 1 < k) → σ' 85 k = σ 85 k) ∧ (σ' 55 55 = 2) ∧ (σ' 85 0 = 30) ∧ (σ' 85 1 = 11) ∧ ((r = ((a2 ^^^ (σ 55 57)) * 3) ∧ True))) := by
  refine jM.of hJ (by decide +kernel) (nt := .int) rfl (Nat.le_of_ble_eq_true rfl) ?_
  intro p e s m args below meth c Q ls hC hret hl hP
  obtain ⟨hx, hb, hr, hml, hown, hts, hK, -, hlocks, hZ⟩ := hC
  have hown : s.vm.findClass RX12 = some m.cls := hown
  have hS : va_S (jA ad) s.heap s.heap [] := va_S.rf
  have hA : ∀ q, jA ad q → jA ad q := fun _ h => h
  have hl : lv_has ls 4 [(0, .ref (ad 55)), (1, .int 3), (2, .int a2)] := hl
  have g2 := jrg t2
  refine lv_iload_n hx hb dX12_givesAs_0 rfl (lv_at hl 1 rfl) ?_
  refine lv_iconst (v := 5) hx hb dX12_givesAs_1 (by decide) ?_
  refine lv_icmp_ne (tgt := 30) hx hb dX12_givesAs_2 (by decide) (fun _ => ?_) (fun c => absurd c (by decide))
  refine lv_iload_n hx hb dX12_givesAs_30 rfl (lv_at hl 1 rfl) ?_
  refine lv_iconst (v := 2) hx hb dX12_givesAs_31 (by decide) ?_
  refine lv_icmp_eq (tgt := 40) hx hb dX12_givesAs_32 (by decide) (fun c => absurd c (by decide)) (fun _ => ?_)
  refine lv_iload_n hx hb dX12_givesAs_35 rfl (lv_at hl 1 rfl) ?_
  refine lv_iconst (v := 3) hx hb dX12_givesAs_36 (by decide) ?_
  refine lv_icmp_ne (tgt := 55) hx hb dX12_givesAs_37 (by decide) (fun c => absurd (by decide) c) (fun _ => ?_)
  refine lv_aload_n hx hb dX12_givesAs_40 rfl (lv_at hl 0 rfl) ?_
  refine lv_bipush (v := 30) hx hb dX12_givesAs_41 (by decide) ?_
  refine jcallVv (As := [.int 30]) (rest := []) ⟨hx, hb, hml, hown, hts⟩ hK hP hA hS hZ (c_X12_begins_30_0 l D cI cL ad zz hJ σ τ h55_55) cw_RX12_379 (jc_55 cI cL ad σ τ) rfl ⟨Nat.le_of_ble_eq_true rfl, Nat.le_of_ble_eq_true rfl⟩ rfl rfl rfl hl.1 rfl (Nat.le_of_ble_eq_true rfl) dX12_givesAs_43 ⟨Nat.zero_le _, Nat.zero_le _⟩ (fun σ1 τ1 H locs h1 hP hS => ?_)
  obtain ⟨rfl, f3, f4, f5, m6, m7, h1⟩ := h1
  refine lv_aload_n hx hb dX12_givesAs_46 rfl (lv_at hl 0 rfl) ?_
  refine lv_iconst (v := 0) hx hb dX12_givesAs_47 (by decide) ?_
  refine lv_iload_n hx hb dX12_givesAs_48 rfl (lv_at hl 2 rfl) ?_
  have z8 : (σ1 55 56).toInt = (σ 55 56).toInt := (congrArg Int32.toInt (show σ1 55 56 = (σ 55 56) from (f4 56 (by decide))))
  refine jcallV (As := [.int 0, .int a2]) (rest := []) ⟨hx, hb, hml, hown, hts⟩ hK hP hA hS hZ (c_X12_givesAs_3_0_1 l D cI cL ad zz hJ σ1 τ a2 (A2) t2 m6 (by omega)) cw_RX12_394 (jc_55 cI cL ad σ1 τ) rfl ⟨Nat.le_of_ble_eq_true rfl, Nat.le_of_ble_eq_true rfl⟩ rfl rfl rfl hl.1 rfl (Nat.le_of_ble_eq_true rfl) dX12_givesAs_49 ⟨Nat.zero_le _, Nat.zero_le _⟩ (fun r10 σ9 τ9 H locs h9 hP hS => ?_)
  obtain ⟨rfl, f11, f12, f13, m14, m15, h9⟩ := h9
  have h16 := h9
  obtain ⟨q18, k17⟩ := h16
  have q18 := q18.symm
  subst q18
  refine lv_iconst (v := 3) hx hb dX12_givesAs_52 (by decide) ?_
  have g19 := jrg (rfl : (a2 ^^^ (σ1 55 57)).toInt = (a2 ^^^ (σ1 55 57)).toInt)
  refine lv_imul hx hb dX12_givesAs_53 ?_
  refine lv_topi (fun x20 ex20 => ?_)
  have gx20 := jrg (rfl : x20.toInt = x20.toInt)
  have m21 : σ9 85 0 = 30 := ((f13 0 (by decide)).trans m7)
  exact hret x20 σ9 τ _ _ _ _ rfl ⟨rfl, (fun i hi => ((f11 i hi).trans (f3 i hi))), (fun i hi => ((f12 i hi).trans (f4 i hi))), (fun i hi => ((f13 i (imp_302 i hi)).trans (f5 i (imp_347 i hi)))), m14, m21, m15, ⟨(by rw [ex20, (show σ1 55 57 = σ 55 57 from (f4 57 (by decide)))]), trivial⟩⟩ hP hS dX12_givesAs_54
set_option maxHeartbeats 4000000 in
set_option maxRecDepth 100000 in
theorem c_X12_begins_40_1 (l : Launch) (D : va_G) (cI cL : ClassId) (ad zz : Nat → Nat) (hJ : jD ad) (σ : Nat → Nat → Int32) (τ : Nat → Nat → Int64) (h55_55 : σ 55 55 = 1) : jMv l yX12_begins cX12_begins 2 none ({ frames := 0, cells := 0, slots := 0, locals := 0 }) D cI cL ad zz [.ref (ad 55), .int 40] σ τ (fun σ' τ' => τ = τ' ∧ (∀ i : Nat, (i < 55 ∨ 55 < i) ∧ (i < 85 ∨ 85 < i) → σ' i = σ i) ∧ (∀ k : Nat, (k < 55 ∨ 55 < k) → σ' 55 k = σ 55 k) ∧ (∀ k : Nat, (k < 1 ∨ 1 < k) → σ' 85 k = σ 85 k) ∧ (σ' 55 55 = 2) ∧ (σ' 85 1 = 40) ∧ True) := by
  refine jMv.of hJ (by decide +kernel) rfl (Nat.le_of_ble_eq_true rfl) ?_
  intro p e s m args below meth c Q ls hC hret hl hP
  obtain ⟨hx, hb, hr, hml, hown, hts, hK, -, hlocks, hZ⟩ := hC
  have hown : s.vm.findClass RX12 = some m.cls := hown
  have hS : va_S (jA ad) s.heap s.heap [] := va_S.rf
  have hA : ∀ q, jA ad q → jA ad q := fun _ h => h
  have hl : lv_has ls 2 [(0, .ref (ad 55)), (1, .int 40)] := hl
  refine lv_aload_n hx hb dX12_begins_0 rfl (lv_at hl 0 rfl) ?_
  refine va_get (D := D) hx hb hts inlX12 hown hK hP 55 (jc_55 cI cL ad σ τ) rfl 55 (by decide) (hts _ kw_49_7) (fun _ h9 => h9) rfl dX12_begins_1 ?_
  refine jtopr h55_55 ?_
  refine lv_bipush (v := 24) hx hb dX12_begins_4 (by decide) ?_
  refine lv_icmp_ge (tgt := 19) hx hb dX12_begins_6 (by decide) (fun c => absurd c (by decide)) (fun _ => ?_)
  refine lv_aload_n hx hb dX12_begins_9 rfl (lv_at hl 0 rfl) ?_
  refine va_get (D := D) hx hb hts inlX12 hown hK hP 55 (jc_55 cI cL ad σ τ) rfl 54 (by decide) (hts _ kw_8_10) (fun _ h9 => h9) rfl dX12_begins_10 ?_
  refine lv_aload_n hx hb dX12_begins_13 rfl (lv_at hl 0 rfl) ?_
  refine va_get (D := D) hx hb hts inlX12 hown hK hP 55 (jc_55 cI cL ad σ τ) rfl 55 (by decide) (hts _ kw_49_7) (fun _ h9 => h9) rfl dX12_begins_14 ?_
  refine jtopr h55_55 ?_
  refine lv_iload_n hx hb dX12_begins_17 rfl (lv_at hl 1 rfl) ?_
  refine jast hx hb hK hP hJ hA hS (jc_85 cI cL ad σ τ) (ja_85 cI cL ad σ τ _ _) (jin jz_1 (by omega) (by omega)) dX12_begins_18 (fun σ1 H locs eσ1 hP hS => ?_)
  have eσ1 : σ1 = jup σ 85 1 40 := eσ1
  refine lv_aload_n hx hb dX12_begins_19 rfl (lv_at hl 0 rfl) ?_
  refine lv_dup hx hb dX12_begins_20 rfl ?_
  refine va_get (D := D) hx hb hts inlX12 hown hK hP 55 (jc_55 cI cL ad σ1 τ) rfl 55 (by decide) (hts _ kw_49_7) (fun _ h9 => h9) rfl dX12_begins_21 ?_
  have m2 : σ1 55 55 = 1 := ((congrFun (jnp 55 eσ1 (by decide)) 55).trans h55_55)
  refine jtopr m2 ?_
  refine lv_iconst (v := 1) hx hb dX12_begins_24 (by decide) ?_
  refine lv_iadd hx hb dX12_begins_25 ?_
  refine jtopr (y := 2) (by decide) ?_
  refine jput (ty := .int) hx hb hts inlX12 tyX12 tyX12_ok nmX12 hown hK hP hJ hA hS (jc_55 cI cL ad σ1 τ) rfl (k := 55) (by decide) (Nat.le_of_ble_eq_true rfl) (jp_55_55 cI cL ad σ1 τ 2) (hts _ kw_49_7) (fun _ h9 => h9) rfl (by decide +kernel) rfl rfl dX12_begins_26 (fun σ3 H locs eσ3 hP hS => ?_)
  have m4 : σ3 55 55 = 2 := (jsp eσ3)
  have m5 : σ3 85 1 = 40 := ((congrFun (jnp 85 eσ3 (by decide)) 1).trans (jsp eσ1))
  exact hret σ3 τ _ _ _ _ ⟨rfl, (fun i hi => ((jnp i eσ3 (imp_345 i hi)).trans (jnp i eσ1 (imp_346 i hi)))), (fun i hi => ((jkp i eσ3 (imp_164 i hi)).trans (congrFun (jnp 55 eσ1 (by decide)) i))), (fun i hi => ((congrFun (jnp 85 eσ3 (by decide)) i).trans (jkp i eσ1 (imp_42 i hi)))), m4, m5, trivial⟩ hP hS dX12_begins_29
set_option maxHeartbeats 4000000 in
set_option maxRecDepth 100000 in
theorem c_X12_begins_10_2 (l : Launch) (D : va_G) (cI cL : ClassId) (ad zz : Nat → Nat) (hJ : jD ad) (σ : Nat → Nat → Int32) (τ : Nat → Nat → Int64) (h55_55 : σ 55 55 = 2) : jMv l yX12_begins cX12_begins 2 none ({ frames := 0, cells := 0, slots := 0, locals := 0 }) D cI cL ad zz [.ref (ad 55), .int 10] σ τ (fun σ' τ' => τ = τ' ∧ (∀ i : Nat, (i < 55 ∨ 55 < i) ∧ (i < 85 ∨ 85 < i) → σ' i = σ i) ∧ (∀ k : Nat, (k < 55 ∨ 55 < k) → σ' 55 k = σ 55 k) ∧ (∀ k : Nat, (k < 2 ∨ 2 < k) → σ' 85 k = σ 85 k) ∧ (σ' 55 55 = 3) ∧ (σ' 85 2 = 10) ∧ True) := by
  refine jMv.of hJ (by decide +kernel) rfl (Nat.le_of_ble_eq_true rfl) ?_
  intro p e s m args below meth c Q ls hC hret hl hP
  obtain ⟨hx, hb, hr, hml, hown, hts, hK, -, hlocks, hZ⟩ := hC
  have hown : s.vm.findClass RX12 = some m.cls := hown
  have hS : va_S (jA ad) s.heap s.heap [] := va_S.rf
  have hA : ∀ q, jA ad q → jA ad q := fun _ h => h
  have hl : lv_has ls 2 [(0, .ref (ad 55)), (1, .int 10)] := hl
  refine lv_aload_n hx hb dX12_begins_0 rfl (lv_at hl 0 rfl) ?_
  refine va_get (D := D) hx hb hts inlX12 hown hK hP 55 (jc_55 cI cL ad σ τ) rfl 55 (by decide) (hts _ kw_49_7) (fun _ h9 => h9) rfl dX12_begins_1 ?_
  refine jtopr h55_55 ?_
  refine lv_bipush (v := 24) hx hb dX12_begins_4 (by decide) ?_
  refine lv_icmp_ge (tgt := 19) hx hb dX12_begins_6 (by decide) (fun c => absurd c (by decide)) (fun _ => ?_)
  refine lv_aload_n hx hb dX12_begins_9 rfl (lv_at hl 0 rfl) ?_
  refine va_get (D := D) hx hb hts inlX12 hown hK hP 55 (jc_55 cI cL ad σ τ) rfl 54 (by decide) (hts _ kw_8_10) (fun _ h9 => h9) rfl dX12_begins_10 ?_
  refine lv_aload_n hx hb dX12_begins_13 rfl (lv_at hl 0 rfl) ?_
  refine va_get (D := D) hx hb hts inlX12 hown hK hP 55 (jc_55 cI cL ad σ τ) rfl 55 (by decide) (hts _ kw_49_7) (fun _ h9 => h9) rfl dX12_begins_14 ?_
  refine jtopr h55_55 ?_
  refine lv_iload_n hx hb dX12_begins_17 rfl (lv_at hl 1 rfl) ?_
  refine jast hx hb hK hP hJ hA hS (jc_85 cI cL ad σ τ) (ja_85 cI cL ad σ τ _ _) (jin jz_2 (by omega) (by omega)) dX12_begins_18 (fun σ1 H locs eσ1 hP hS => ?_)
  have eσ1 : σ1 = jup σ 85 2 10 := eσ1
  refine lv_aload_n hx hb dX12_begins_19 rfl (lv_at hl 0 rfl) ?_
  refine lv_dup hx hb dX12_begins_20 rfl ?_
  refine va_get (D := D) hx hb hts inlX12 hown hK hP 55 (jc_55 cI cL ad σ1 τ) rfl 55 (by decide) (hts _ kw_49_7) (fun _ h9 => h9) rfl dX12_begins_21 ?_
  have m2 : σ1 55 55 = 2 := ((congrFun (jnp 55 eσ1 (by decide)) 55).trans h55_55)
  refine jtopr m2 ?_
  refine lv_iconst (v := 1) hx hb dX12_begins_24 (by decide) ?_
  refine lv_iadd hx hb dX12_begins_25 ?_
  refine jtopr (y := 3) (by decide) ?_
  refine jput (ty := .int) hx hb hts inlX12 tyX12 tyX12_ok nmX12 hown hK hP hJ hA hS (jc_55 cI cL ad σ1 τ) rfl (k := 55) (by decide) (Nat.le_of_ble_eq_true rfl) (jp_55_55 cI cL ad σ1 τ 3) (hts _ kw_49_7) (fun _ h9 => h9) rfl (by decide +kernel) rfl rfl dX12_begins_26 (fun σ3 H locs eσ3 hP hS => ?_)
  have m4 : σ3 55 55 = 3 := (jsp eσ3)
  have m5 : σ3 85 2 = 10 := ((congrFun (jnp 85 eσ3 (by decide)) 2).trans (jsp eσ1))
  exact hret σ3 τ _ _ _ _ ⟨rfl, (fun i hi => ((jnp i eσ3 (imp_345 i hi)).trans (jnp i eσ1 (imp_346 i hi)))), (fun i hi => ((jkp i eσ3 (imp_164 i hi)).trans (congrFun (jnp 55 eσ1 (by decide)) i))), (fun i hi => ((congrFun (jnp 85 eσ3 (by decide)) i).trans (jkp i eσ1 (imp_7 i hi)))), m4, m5, trivial⟩ hP hS dX12_begins_29
set_option maxHeartbeats 4000000 in
set_option maxRecDepth 100000 in
theorem c_X12_putsAs_3_3_3 (l : Launch) (D : va_G) (cI cL : ClassId) (ad zz : Nat → Nat) (hJ : jD ad) (σ : Nat → Nat → Int32) (τ : Nat → Nat → Int64) (a2 : Int32) (A2 : Int) (t2 : a2.toInt = A2) (h55_55 : σ 55 55 = 3) (hp0 : (σ 55 56).toInt = 3) : jM l yX12_putsAs cX12_putsAs 3 (some .int) ({ frames := 1, cells := 0, slots := 0, locals := 21 }) D cI cL ad zz [.ref (ad 55), .int 3, .int a2] σ τ (fun r σ' τ' => τ = τ' ∧ (∀ i : Nat, (i < 55 ∨ 55 < i) ∧ (i < 85 ∨ 85 < i) → σ' i = σ i) ∧ (∀ k : Nat, (k < 55 ∨ 55 < k) → σ' 55 k = σ 55 k) ∧ (∀ k : Nat, (k < 3 ∨ 3 < k) → σ' 85 k = σ 85 k) ∧ (σ' 55 55 = 4) ∧ (σ' 85 3 = 1) ∧ ((r = (a2 + (σ 55 57)) ∧ True))) := by
  refine jM.of hJ (by decide +kernel) (nt := .int) rfl (Nat.le_of_ble_eq_true rfl) ?_
  intro p e s m args below meth c Q ls hC hret hl hP
  obtain ⟨hx, hb, hr, hml, hown, hts, hK, -, hlocks, hZ⟩ := hC
  have hown : s.vm.findClass RX12 = some m.cls := hown
  have hS : va_S (jA ad) s.heap s.heap [] := va_S.rf
  have hA : ∀ q, jA ad q → jA ad q := fun _ h => h
  have hl : lv_has ls 3 [(0, .ref (ad 55)), (1, .int 3), (2, .int a2)] := hl
  have g2 := jrg t2
  refine lv_iload_n hx hb dX12_putsAs_0 rfl (lv_at hl 1 rfl) ?_
  refine lv_iconst (v := 4) hx hb dX12_putsAs_1 (by decide) ?_
  refine lv_icmp_ne (tgt := 20) hx hb dX12_putsAs_2 (by decide) (fun _ => ?_) (fun c => absurd c (by decide))
  refine lv_iload_n hx hb dX12_putsAs_20 rfl (lv_at hl 1 rfl) ?_
  refine lv_iconst (v := 1) hx hb dX12_putsAs_21 (by decide) ?_
  refine lv_icmp_ne (tgt := 40) hx hb dX12_putsAs_22 (by decide) (fun _ => ?_) (fun c => absurd c (by decide))
  refine lv_aload_n hx hb dX12_putsAs_40 rfl (lv_at hl 0 rfl) ?_
  refine lv_iconst (v := 1) hx hb dX12_putsAs_41 (by decide) ?_
  refine jcallVv (As := [.int 1]) (rest := []) ⟨hx, hb, hml, hown, hts⟩ hK hP hA hS hZ (c_X12_begins_1_3 l D cI cL ad zz hJ σ τ h55_55) cw_RX12_379 (jc_55 cI cL ad σ τ) rfl ⟨Nat.le_of_ble_eq_true rfl, Nat.le_of_ble_eq_true rfl⟩ rfl rfl rfl hl.1 rfl (Nat.le_of_ble_eq_true rfl) dX12_putsAs_42 ⟨Nat.zero_le _, Nat.zero_le _⟩ (fun σ1 τ1 H locs h1 hP hS => ?_)
  obtain ⟨rfl, f3, f4, f5, m6, m7, h1⟩ := h1
  refine lv_iload_n hx hb dX12_putsAs_45 rfl (lv_at hl 2 rfl) ?_
  refine lv_aload_n hx hb dX12_putsAs_46 rfl (lv_at hl 0 rfl) ?_
  refine va_get (D := D) hx hb hts inlX12 hown hK hP 55 (jc_55 cI cL ad σ1 τ) rfl 57 (by decide) (hts _ kw_49_9) (fun _ h9 => h9) rfl dX12_putsAs_47 ?_
  have m8 : σ1 55 57 = (σ 55 57) := (f4 57 (by decide))
  refine jtopr m8 ?_
  have g9 := jrg (rfl : (σ 55 57).toInt = (σ 55 57).toInt)
  refine lv_iadd hx hb dX12_putsAs_50 ?_
  refine lv_topi (fun x10 ex10 => ?_)
  have gx10 := jrg (rfl : x10.toInt = x10.toInt)
  exact hret x10 σ1 τ _ _ _ _ rfl ⟨rfl, (fun i hi => (f3 i hi)), (fun i hi => (f4 i hi)), (fun i hi => (f5 i hi)), m6, m7, ⟨(by rw [ex10]), trivial⟩⟩ hP hS dX12_putsAs_51
set_option maxHeartbeats 4000000 in
set_option maxRecDepth 100000 in
theorem c_X12_holdsAs_3_0_2 (l : Launch) (D : va_G) (cI cL : ClassId) (ad zz : Nat → Nat) (hJ : jD ad) (σ : Nat → Nat → Int32) (τ : Nat → Nat → Int64) (a2 : Int32) (A2 : Int) (t2 : a2.toInt = A2) (h55_55 : σ 55 55 = 2) (hp0 : (σ 55 56).toInt = 3) : jM l yX12_holdsAs cX12_holdsAs 4 (some .int) ({ frames := 2, cells := 0, slots := 0, locals := 43 }) D cI cL ad zz [.ref (ad 55), .int 0, .int a2] σ τ (fun r σ' τ' => τ = τ' ∧ (∀ i : Nat, (i < 55 ∨ 55 < i) ∧ (i < 85 ∨ 85 < i) → σ' i = σ i) ∧ (∀ k : Nat, (k < 55 ∨ 55 < k) → σ' 55 k = σ 55 k) ∧ (∀ k : Nat, (k < 2 ∨ 2 < k) ∧ (k < 3 ∨ 3 < k) → σ' 85 k = σ 85 k) ∧ (σ' 55 55 = 4) ∧ (σ' 85 2 = 10) ∧ (σ' 85 3 = 1) ∧ ((r = ((a2 + (σ 55 57)) * 2) ∧ True))) := by
  refine jM.of hJ (by decide +kernel) (nt := .int) rfl (Nat.le_of_ble_eq_true rfl) ?_
  intro p e s m args below meth c Q ls hC hret hl hP
  obtain ⟨hx, hb, hr, hml, hown, hts, hK, -, hlocks, hZ⟩ := hC
  have hown : s.vm.findClass RX12 = some m.cls := hown
  have hS : va_S (jA ad) s.heap s.heap [] := va_S.rf
  have hA : ∀ q, jA ad q → jA ad q := fun _ h => h
  have hl : lv_has ls 4 [(0, .ref (ad 55)), (1, .int 0), (2, .int a2)] := hl
  have g2 := jrg t2
  refine lv_iload_n hx hb dX12_holdsAs_0 rfl (lv_at hl 1 rfl) ?_
  refine lv_iconst (v := 3) hx hb dX12_holdsAs_1 (by decide) ?_
  refine lv_icmp_eq (tgt := 10) hx hb dX12_holdsAs_2 (by decide) (fun c => absurd c (by decide)) (fun _ => ?_)
  refine lv_iload_n hx hb dX12_holdsAs_5 rfl (lv_at hl 1 rfl) ?_
  refine lv_iconst (v := 5) hx hb dX12_holdsAs_6 (by decide) ?_
  refine lv_icmp_ne (tgt := 24) hx hb dX12_holdsAs_7 (by decide) (fun _ => ?_) (fun c => absurd c (by decide))
  refine lv_iload_n hx hb dX12_holdsAs_24 rfl (lv_at hl 1 rfl) ?_
  refine lv_bipush (v := 6) hx hb dX12_holdsAs_25 (by decide) ?_
  refine lv_icmp_ne (tgt := 55) hx hb dX12_holdsAs_27 (by decide) (fun _ => ?_) (fun c => absurd c (by decide))
  refine lv_aload_n hx hb dX12_holdsAs_55 rfl (lv_at hl 0 rfl) ?_
  refine lv_bipush (v := 10) hx hb dX12_holdsAs_56 (by decide) ?_
  refine jcallVv (As := [.int 10]) (rest := []) ⟨hx, hb, hml, hown, hts⟩ hK hP hA hS hZ (c_X12_begins_10_2 l D cI cL ad zz hJ σ τ h55_55) cw_RX12_379 (jc_55 cI cL ad σ τ) rfl ⟨Nat.le_of_ble_eq_true rfl, Nat.le_of_ble_eq_true rfl⟩ rfl rfl rfl hl.1 rfl (Nat.le_of_ble_eq_true rfl) dX12_holdsAs_58 ⟨Nat.zero_le _, Nat.zero_le _⟩ (fun σ1 τ1 H locs h1 hP hS => ?_)
  obtain ⟨rfl, f3, f4, f5, m6, m7, h1⟩ := h1
  refine lv_aload_n hx hb dX12_holdsAs_61 rfl (lv_at hl 0 rfl) ?_
  refine lv_aload_n hx hb dX12_holdsAs_62 rfl (lv_at hl 0 rfl) ?_
  refine va_get (D := D) hx hb hts inlX12 hown hK hP 55 (jc_55 cI cL ad σ1 τ) rfl 56 (by decide) (hts _ kw_49_8) (fun _ h9 => h9) rfl dX12_holdsAs_63 ?_
  have m8 : σ1 55 56 = (σ 55 56) := (f4 56 (by decide))
  refine jtopr m8 ?_
  refine jtopr (jsame (rfl : (σ 55 56).toInt = (σ 55 56).toInt) jz_3 (by omega)) ?_
  refine lv_iload_n hx hb dX12_holdsAs_66 rfl (lv_at hl 2 rfl) ?_
  have z9 : (σ1 55 56).toInt = (σ 55 56).toInt := (congrArg Int32.toInt (show σ1 55 56 = (σ 55 56) from m8))
  refine jcallV (As := [.int 3, .int a2]) (rest := []) ⟨hx, hb, hml, hown, hts⟩ hK hP hA hS hZ (c_X12_putsAs_3_3_3 l D cI cL ad zz hJ σ1 τ a2 (A2) t2 m6 (by omega)) cw_RX12_382 (jc_55 cI cL ad σ1 τ) rfl ⟨Nat.le_of_ble_eq_true rfl, Nat.le_of_ble_eq_true rfl⟩ rfl rfl rfl hl.1 rfl (Nat.le_of_ble_eq_true rfl) dX12_holdsAs_67 ⟨Nat.zero_le _, Nat.zero_le _⟩ (fun r11 σ10 τ10 H locs h10 hP hS => ?_)
  obtain ⟨rfl, f12, f13, f14, m15, m16, h10⟩ := h10
  have h17 := h10
  obtain ⟨q19, k18⟩ := h17
  have q19 := q19.symm
  subst q19
  refine lv_iconst (v := 2) hx hb dX12_holdsAs_70 (by decide) ?_
  have g20 := jrg (rfl : (a2 + (σ1 55 57)).toInt = (a2 + (σ1 55 57)).toInt)
  refine lv_imul hx hb dX12_holdsAs_71 ?_
  refine lv_topi (fun x21 ex21 => ?_)
  have gx21 := jrg (rfl : x21.toInt = x21.toInt)
  have m22 : σ10 85 2 = 10 := ((f14 2 (by decide)).trans m7)
  exact hret x21 σ10 τ _ _ _ _ rfl ⟨rfl, (fun i hi => ((f12 i hi).trans (f3 i hi))), (fun i hi => ((f13 i hi).trans (f4 i hi))), (fun i hi => ((f14 i (imp_307 i hi)).trans (f5 i (imp_19 i hi)))), m15, m22, m16, ⟨(by rw [ex21, (show σ1 55 57 = σ 55 57 from (f4 57 (by decide)))]), trivial⟩⟩ hP hS dX12_holdsAs_72
set_option maxHeartbeats 4000000 in
set_option maxRecDepth 100000 in
theorem c_X12_holdsAs_3_3_1 (l : Launch) (D : va_G) (cI cL : ClassId) (ad zz : Nat → Nat) (hJ : jD ad) (σ : Nat → Nat → Int32) (τ : Nat → Nat → Int64) (a2 : Int32) (A2 : Int) (t2 : a2.toInt = A2) (h55_55 : σ 55 55 = 1) (hp0 : (σ 55 56).toInt = 3) : jM l yX12_holdsAs cX12_holdsAs 4 (some .int) ({ frames := 3, cells := 0, slots := 0, locals := 66 }) D cI cL ad zz [.ref (ad 55), .int 3, .int a2] σ τ (fun r σ' τ' => τ = τ' ∧ (∀ i : Nat, (i < 55 ∨ 55 < i) ∧ (i < 85 ∨ 85 < i) → σ' i = σ i) ∧ (∀ k : Nat, (k < 55 ∨ 55 < k) → σ' 55 k = σ 55 k) ∧ (∀ k : Nat, (k < 1 ∨ 1 < k) ∧ (k < 2 ∨ 2 < k) ∧ (k < 3 ∨ 3 < k) → σ' 85 k = σ 85 k) ∧ (σ' 55 55 = 4) ∧ (σ' 85 1 = 40) ∧ (σ' 85 2 = 10) ∧ (σ' 85 3 = 1) ∧ ((r = (-((a2 + (σ 55 57)) * 2)) ∧ True))) := by
  refine jM.of hJ (by decide +kernel) (nt := .int) rfl (Nat.le_of_ble_eq_true rfl) ?_
  intro p e s m args below meth c Q ls hC hret hl hP
  obtain ⟨hx, hb, hr, hml, hown, hts, hK, -, hlocks, hZ⟩ := hC
  have hown : s.vm.findClass RX12 = some m.cls := hown
  have hS : va_S (jA ad) s.heap s.heap [] := va_S.rf
  have hA : ∀ q, jA ad q → jA ad q := fun _ h => h
  have hl : lv_has ls 4 [(0, .ref (ad 55)), (1, .int 3), (2, .int a2)] := hl
  have g2 := jrg t2
  refine lv_iload_n hx hb dX12_holdsAs_0 rfl (lv_at hl 1 rfl) ?_
  refine lv_iconst (v := 3) hx hb dX12_holdsAs_1 (by decide) ?_
  refine lv_icmp_eq (tgt := 10) hx hb dX12_holdsAs_2 (by decide) (fun _ => ?_) (fun c => absurd (by decide) c)
  refine lv_aload_n hx hb dX12_holdsAs_10 rfl (lv_at hl 0 rfl) ?_
  refine lv_bipush (v := 40) hx hb dX12_holdsAs_11 (by decide) ?_
  refine jcallVv (As := [.int 40]) (rest := []) ⟨hx, hb, hml, hown, hts⟩ hK hP hA hS hZ (c_X12_begins_40_1 l D cI cL ad zz hJ σ τ h55_55) cw_RX12_379 (jc_55 cI cL ad σ τ) rfl ⟨Nat.le_of_ble_eq_true rfl, Nat.le_of_ble_eq_true rfl⟩ rfl rfl rfl hl.1 rfl (Nat.le_of_ble_eq_true rfl) dX12_holdsAs_13 ⟨Nat.zero_le _, Nat.zero_le _⟩ (fun σ1 τ1 H locs h1 hP hS => ?_)
  obtain ⟨rfl, f3, f4, f5, m6, m7, h1⟩ := h1
  refine lv_aload_n hx hb dX12_holdsAs_16 rfl (lv_at hl 0 rfl) ?_
  refine lv_iconst (v := 0) hx hb dX12_holdsAs_17 (by decide) ?_
  refine lv_iload_n hx hb dX12_holdsAs_18 rfl (lv_at hl 2 rfl) ?_
  have z8 : (σ1 55 56).toInt = (σ 55 56).toInt := (congrArg Int32.toInt (show σ1 55 56 = (σ 55 56) from (f4 56 (by decide))))
  refine jcallV (As := [.int 0, .int a2]) (rest := []) ⟨hx, hb, hml, hown, hts⟩ hK hP hA hS hZ (c_X12_holdsAs_3_0_2 l D cI cL ad zz hJ σ1 τ a2 (A2) t2 m6 (by omega)) cw_RX12_388 (jc_55 cI cL ad σ1 τ) rfl ⟨Nat.le_of_ble_eq_true rfl, Nat.le_of_ble_eq_true rfl⟩ rfl rfl rfl hl.1 rfl (Nat.le_of_ble_eq_true rfl) dX12_holdsAs_19 ⟨Nat.zero_le _, Nat.zero_le _⟩ (fun r10 σ9 τ9 H locs h9 hP hS => ?_)
  obtain ⟨rfl, f11, f12, f13, m14, m15, m16, h9⟩ := h9
  have h17 := h9
  obtain ⟨q19, k18⟩ := h17
  have q19 := q19.symm
  subst q19
  refine lv_ineg hx hb dX12_holdsAs_22 ?_
  refine lv_topi (fun x20 ex20 => ?_)
  have gx20 := jrg (rfl : x20.toInt = x20.toInt)
  have m21 : σ9 85 1 = 40 := ((f13 1 (by decide)).trans m7)
  exact hret x20 σ9 τ _ _ _ _ rfl ⟨rfl, (fun i hi => ((f11 i hi).trans (f3 i hi))), (fun i hi => ((f12 i hi).trans (f4 i hi))), (fun i hi => ((f13 i (imp_308 i hi)).trans (f5 i (imp_350 i hi)))), m14, m21, m15, m16, ⟨(by rw [ex20, (show σ1 55 57 = σ 55 57 from (f4 57 (by decide)))]), trivial⟩⟩ hP hS dX12_holdsAs_23
set_option maxHeartbeats 4000000 in
set_option maxRecDepth 100000 in
theorem c_X12_begins_30_4 (l : Launch) (D : va_G) (cI cL : ClassId) (ad zz : Nat → Nat) (hJ : jD ad) (σ : Nat → Nat → Int32) (τ : Nat → Nat → Int64) (h55_55 : σ 55 55 = 4) : jMv l yX12_begins cX12_begins 2 none ({ frames := 0, cells := 0, slots := 0, locals := 0 }) D cI cL ad zz [.ref (ad 55), .int 30] σ τ (fun σ' τ' => τ = τ' ∧ (∀ i : Nat, (i < 55 ∨ 55 < i) ∧ (i < 85 ∨ 85 < i) → σ' i = σ i) ∧ (∀ k : Nat, (k < 55 ∨ 55 < k) → σ' 55 k = σ 55 k) ∧ (∀ k : Nat, (k < 4 ∨ 4 < k) → σ' 85 k = σ 85 k) ∧ (σ' 55 55 = 5) ∧ (σ' 85 4 = 30) ∧ True) := by
  refine jMv.of hJ (by decide +kernel) rfl (Nat.le_of_ble_eq_true rfl) ?_
  intro p e s m args below meth c Q ls hC hret hl hP
  obtain ⟨hx, hb, hr, hml, hown, hts, hK, -, hlocks, hZ⟩ := hC
  have hown : s.vm.findClass RX12 = some m.cls := hown
  have hS : va_S (jA ad) s.heap s.heap [] := va_S.rf
  have hA : ∀ q, jA ad q → jA ad q := fun _ h => h
  have hl : lv_has ls 2 [(0, .ref (ad 55)), (1, .int 30)] := hl
  refine lv_aload_n hx hb dX12_begins_0 rfl (lv_at hl 0 rfl) ?_
  refine va_get (D := D) hx hb hts inlX12 hown hK hP 55 (jc_55 cI cL ad σ τ) rfl 55 (by decide) (hts _ kw_49_7) (fun _ h9 => h9) rfl dX12_begins_1 ?_
  refine jtopr h55_55 ?_
  refine lv_bipush (v := 24) hx hb dX12_begins_4 (by decide) ?_
  refine lv_icmp_ge (tgt := 19) hx hb dX12_begins_6 (by decide) (fun c => absurd c (by decide)) (fun _ => ?_)
  refine lv_aload_n hx hb dX12_begins_9 rfl (lv_at hl 0 rfl) ?_
  refine va_get (D := D) hx hb hts inlX12 hown hK hP 55 (jc_55 cI cL ad σ τ) rfl 54 (by decide) (hts _ kw_8_10) (fun _ h9 => h9) rfl dX12_begins_10 ?_
  refine lv_aload_n hx hb dX12_begins_13 rfl (lv_at hl 0 rfl) ?_
  refine va_get (D := D) hx hb hts inlX12 hown hK hP 55 (jc_55 cI cL ad σ τ) rfl 55 (by decide) (hts _ kw_49_7) (fun _ h9 => h9) rfl dX12_begins_14 ?_
  refine jtopr h55_55 ?_
  refine lv_iload_n hx hb dX12_begins_17 rfl (lv_at hl 1 rfl) ?_
  refine jast hx hb hK hP hJ hA hS (jc_85 cI cL ad σ τ) (ja_85 cI cL ad σ τ _ _) (jin jz_4 (by omega) (by omega)) dX12_begins_18 (fun σ1 H locs eσ1 hP hS => ?_)
  have eσ1 : σ1 = jup σ 85 4 30 := eσ1
  refine lv_aload_n hx hb dX12_begins_19 rfl (lv_at hl 0 rfl) ?_
  refine lv_dup hx hb dX12_begins_20 rfl ?_
  refine va_get (D := D) hx hb hts inlX12 hown hK hP 55 (jc_55 cI cL ad σ1 τ) rfl 55 (by decide) (hts _ kw_49_7) (fun _ h9 => h9) rfl dX12_begins_21 ?_
  have m2 : σ1 55 55 = 4 := ((congrFun (jnp 55 eσ1 (by decide)) 55).trans h55_55)
  refine jtopr m2 ?_
  refine lv_iconst (v := 1) hx hb dX12_begins_24 (by decide) ?_
  refine lv_iadd hx hb dX12_begins_25 ?_
  refine jtopr (y := 5) (by decide) ?_
  refine jput (ty := .int) hx hb hts inlX12 tyX12 tyX12_ok nmX12 hown hK hP hJ hA hS (jc_55 cI cL ad σ1 τ) rfl (k := 55) (by decide) (Nat.le_of_ble_eq_true rfl) (jp_55_55 cI cL ad σ1 τ 5) (hts _ kw_49_7) (fun _ h9 => h9) rfl (by decide +kernel) rfl rfl dX12_begins_26 (fun σ3 H locs eσ3 hP hS => ?_)
  have m4 : σ3 55 55 = 5 := (jsp eσ3)
  have m5 : σ3 85 4 = 30 := ((congrFun (jnp 85 eσ3 (by decide)) 4).trans (jsp eσ1))
  exact hret σ3 τ _ _ _ _ ⟨rfl, (fun i hi => ((jnp i eσ3 (imp_345 i hi)).trans (jnp i eσ1 (imp_346 i hi)))), (fun i hi => ((jkp i eσ3 (imp_164 i hi)).trans (congrFun (jnp 55 eσ1 (by decide)) i))), (fun i hi => ((congrFun (jnp 85 eσ3 (by decide)) i).trans (jkp i eσ1 (imp_310 i hi)))), m4, m5, trivial⟩ hP hS dX12_begins_29
set_option maxHeartbeats 4000000 in
set_option maxRecDepth 100000 in
theorem c_X12_begins_11_5 (l : Launch) (D : va_G) (cI cL : ClassId) (ad zz : Nat → Nat) (hJ : jD ad) (σ : Nat → Nat → Int32) (τ : Nat → Nat → Int64) (h55_55 : σ 55 55 = 5) : jMv l yX12_begins cX12_begins 2 none ({ frames := 0, cells := 0, slots := 0, locals := 0 }) D cI cL ad zz [.ref (ad 55), .int 11] σ τ (fun σ' τ' => τ = τ' ∧ (∀ i : Nat, (i < 55 ∨ 55 < i) ∧ (i < 85 ∨ 85 < i) → σ' i = σ i) ∧ (∀ k : Nat, (k < 55 ∨ 55 < k) → σ' 55 k = σ 55 k) ∧ (∀ k : Nat, (k < 5 ∨ 5 < k) → σ' 85 k = σ 85 k) ∧ (σ' 55 55 = 6) ∧ (σ' 85 5 = 11) ∧ True) := by
  refine jMv.of hJ (by decide +kernel) rfl (Nat.le_of_ble_eq_true rfl) ?_
  intro p e s m args below meth c Q ls hC hret hl hP
  obtain ⟨hx, hb, hr, hml, hown, hts, hK, -, hlocks, hZ⟩ := hC
  have hown : s.vm.findClass RX12 = some m.cls := hown
  have hS : va_S (jA ad) s.heap s.heap [] := va_S.rf
  have hA : ∀ q, jA ad q → jA ad q := fun _ h => h
  have hl : lv_has ls 2 [(0, .ref (ad 55)), (1, .int 11)] := hl
  refine lv_aload_n hx hb dX12_begins_0 rfl (lv_at hl 0 rfl) ?_
  refine va_get (D := D) hx hb hts inlX12 hown hK hP 55 (jc_55 cI cL ad σ τ) rfl 55 (by decide) (hts _ kw_49_7) (fun _ h9 => h9) rfl dX12_begins_1 ?_
  refine jtopr h55_55 ?_
  refine lv_bipush (v := 24) hx hb dX12_begins_4 (by decide) ?_
  refine lv_icmp_ge (tgt := 19) hx hb dX12_begins_6 (by decide) (fun c => absurd c (by decide)) (fun _ => ?_)
  refine lv_aload_n hx hb dX12_begins_9 rfl (lv_at hl 0 rfl) ?_
  refine va_get (D := D) hx hb hts inlX12 hown hK hP 55 (jc_55 cI cL ad σ τ) rfl 54 (by decide) (hts _ kw_8_10) (fun _ h9 => h9) rfl dX12_begins_10 ?_
  refine lv_aload_n hx hb dX12_begins_13 rfl (lv_at hl 0 rfl) ?_
  refine va_get (D := D) hx hb hts inlX12 hown hK hP 55 (jc_55 cI cL ad σ τ) rfl 55 (by decide) (hts _ kw_49_7) (fun _ h9 => h9) rfl dX12_begins_14 ?_
  refine jtopr h55_55 ?_
  refine lv_iload_n hx hb dX12_begins_17 rfl (lv_at hl 1 rfl) ?_
  refine jast hx hb hK hP hJ hA hS (jc_85 cI cL ad σ τ) (ja_85 cI cL ad σ τ _ _) (jin jz_5 (by omega) (by omega)) dX12_begins_18 (fun σ1 H locs eσ1 hP hS => ?_)
  have eσ1 : σ1 = jup σ 85 5 11 := eσ1
  refine lv_aload_n hx hb dX12_begins_19 rfl (lv_at hl 0 rfl) ?_
  refine lv_dup hx hb dX12_begins_20 rfl ?_
  refine va_get (D := D) hx hb hts inlX12 hown hK hP 55 (jc_55 cI cL ad σ1 τ) rfl 55 (by decide) (hts _ kw_49_7) (fun _ h9 => h9) rfl dX12_begins_21 ?_
  have m2 : σ1 55 55 = 5 := ((congrFun (jnp 55 eσ1 (by decide)) 55).trans h55_55)
  refine jtopr m2 ?_
  refine lv_iconst (v := 1) hx hb dX12_begins_24 (by decide) ?_
  refine lv_iadd hx hb dX12_begins_25 ?_
  refine jtopr (y := 6) (by decide) ?_
  refine jput (ty := .int) hx hb hts inlX12 tyX12 tyX12_ok nmX12 hown hK hP hJ hA hS (jc_55 cI cL ad σ1 τ) rfl (k := 55) (by decide) (Nat.le_of_ble_eq_true rfl) (jp_55_55 cI cL ad σ1 τ 6) (hts _ kw_49_7) (fun _ h9 => h9) rfl (by decide +kernel) rfl rfl dX12_begins_26 (fun σ3 H locs eσ3 hP hS => ?_)
  have m4 : σ3 55 55 = 6 := (jsp eσ3)
  have m5 : σ3 85 5 = 11 := ((congrFun (jnp 85 eσ3 (by decide)) 5).trans (jsp eσ1))
  exact hret σ3 τ _ _ _ _ ⟨rfl, (fun i hi => ((jnp i eσ3 (imp_345 i hi)).trans (jnp i eσ1 (imp_346 i hi)))), (fun i hi => ((jkp i eσ3 (imp_164 i hi)).trans (congrFun (jnp 55 eσ1 (by decide)) i))), (fun i hi => ((congrFun (jnp 85 eσ3 (by decide)) i).trans (jkp i eσ1 (imp_158 i hi)))), m4, m5, trivial⟩ hP hS dX12_begins_29
set_option maxHeartbeats 4000000 in
set_option maxRecDepth 100000 in
theorem c_X12_givesAs_3_0_5_x1 (l : Launch) (D : va_G) (cI cL : ClassId) (ad zz : Nat → Nat) (hJ : jD ad) (σ : Nat → Nat → Int32) (τ : Nat → Nat → Int64) (h55_55 : σ 55 55 = 5) (hp0 : (σ 55 56).toInt = 3) : jM l yX12_givesAs cX12_givesAs 4 (some .int) ({ frames := 1, cells := 0, slots := 0, locals := 21 }) D cI cL ad zz [.ref (ad 55), .int 0, .int 1] σ τ (fun r σ' τ' => τ = τ' ∧ (∀ i : Nat, (i < 55 ∨ 55 < i) ∧ (i < 85 ∨ 85 < i) → σ' i = σ i) ∧ (∀ k : Nat, (k < 55 ∨ 55 < k) → σ' 55 k = σ 55 k) ∧ (∀ k : Nat, (k < 5 ∨ 5 < k) → σ' 85 k = σ 85 k) ∧ (σ' 55 55 = 6) ∧ (σ' 85 5 = 11) ∧ ((r = (1 ^^^ (σ 55 57)) ∧ True))) := by
  refine jM.of hJ (by decide +kernel) (nt := .int) rfl (Nat.le_of_ble_eq_true rfl) ?_
  intro p e s m args below meth c Q ls hC hret hl hP
  obtain ⟨hx, hb, hr, hml, hown, hts, hK, -, hlocks, hZ⟩ := hC
  have hown : s.vm.findClass RX12 = some m.cls := hown
  have hS : va_S (jA ad) s.heap s.heap [] := va_S.rf
  have hA : ∀ q, jA ad q → jA ad q := fun _ h => h
  have hl : lv_has ls 4 [(0, .ref (ad 55)), (1, .int 0), (2, .int 1)] := hl
  refine lv_iload_n hx hb dX12_givesAs_0 rfl (lv_at hl 1 rfl) ?_
  refine lv_iconst (v := 5) hx hb dX12_givesAs_1 (by decide) ?_
  refine lv_icmp_ne (tgt := 30) hx hb dX12_givesAs_2 (by decide) (fun _ => ?_) (fun c => absurd c (by decide))
  refine lv_iload_n hx hb dX12_givesAs_30 rfl (lv_at hl 1 rfl) ?_
  refine lv_iconst (v := 2) hx hb dX12_givesAs_31 (by decide) ?_
  refine lv_icmp_eq (tgt := 40) hx hb dX12_givesAs_32 (by decide) (fun c => absurd c (by decide)) (fun _ => ?_)
  refine lv_iload_n hx hb dX12_givesAs_35 rfl (lv_at hl 1 rfl) ?_
  refine lv_iconst (v := 3) hx hb dX12_givesAs_36 (by decide) ?_
  refine lv_icmp_ne (tgt := 55) hx hb dX12_givesAs_37 (by decide) (fun _ => ?_) (fun c => absurd c (by decide))
  refine lv_aload_n hx hb dX12_givesAs_55 rfl (lv_at hl 0 rfl) ?_
  refine lv_bipush (v := 11) hx hb dX12_givesAs_56 (by decide) ?_
  refine jcallVv (As := [.int 11]) (rest := []) ⟨hx, hb, hml, hown, hts⟩ hK hP hA hS hZ (c_X12_begins_11_5 l D cI cL ad zz hJ σ τ h55_55) cw_RX12_379 (jc_55 cI cL ad σ τ) rfl ⟨Nat.le_of_ble_eq_true rfl, Nat.le_of_ble_eq_true rfl⟩ rfl rfl rfl hl.1 rfl (Nat.le_of_ble_eq_true rfl) dX12_givesAs_58 ⟨Nat.zero_le _, Nat.zero_le _⟩ (fun σ1 τ1 H locs h1 hP hS => ?_)
  obtain ⟨rfl, f3, f4, f5, m6, m7, h1⟩ := h1
  refine lv_iload_n hx hb dX12_givesAs_61 rfl (lv_at hl 2 rfl) ?_
  refine lv_aload_n hx hb dX12_givesAs_62 rfl (lv_at hl 0 rfl) ?_
  refine va_get (D := D) hx hb hts inlX12 hown hK hP 55 (jc_55 cI cL ad σ1 τ) rfl 57 (by decide) (hts _ kw_49_9) (fun _ h9 => h9) rfl dX12_givesAs_63 ?_
  have m8 : σ1 55 57 = (σ 55 57) := (f4 57 (by decide))
  refine jtopr m8 ?_
  refine lv_ixor hx hb dX12_givesAs_66 ?_
  refine lv_topi (fun x9 ex9 => ?_)
  have gx9 := jrg (rfl : x9.toInt = x9.toInt)
  exact hret x9 σ1 τ _ _ _ _ rfl ⟨rfl, (fun i hi => (f3 i hi)), (fun i hi => (f4 i hi)), (fun i hi => (f5 i hi)), m6, m7, ⟨(by rw [ex9]), trivial⟩⟩ hP hS dX12_givesAs_67
set_option maxHeartbeats 4000000 in
set_option maxRecDepth 100000 in
theorem c_X12_givesAs_3_3_4_x1 (l : Launch) (D : va_G) (cI cL : ClassId) (ad zz : Nat → Nat) (hJ : jD ad) (σ : Nat → Nat → Int32) (τ : Nat → Nat → Int64) (h55_55 : σ 55 55 = 4) (hp0 : (σ 55 56).toInt = 3) : jM l yX12_givesAs cX12_givesAs 4 (some .int) ({ frames := 2, cells := 0, slots := 0, locals := 44 }) D cI cL ad zz [.ref (ad 55), .int 3, .int 1] σ τ (fun r σ' τ' => τ = τ' ∧ (∀ i : Nat, (i < 55 ∨ 55 < i) ∧ (i < 85 ∨ 85 < i) → σ' i = σ i) ∧ (∀ k : Nat, (k < 55 ∨ 55 < k) → σ' 55 k = σ 55 k) ∧ (∀ k : Nat, (k < 4 ∨ 4 < k) ∧ (k < 5 ∨ 5 < k) → σ' 85 k = σ 85 k) ∧ (σ' 55 55 = 6) ∧ (σ' 85 4 = 30) ∧ (σ' 85 5 = 11) ∧ ((r = ((1 ^^^ (σ 55 57)) * 3) ∧ True))) := by
  refine jM.of hJ (by decide +kernel) (nt := .int) rfl (Nat.le_of_ble_eq_true rfl) ?_
  intro p e s m args below meth c Q ls hC hret hl hP
  obtain ⟨hx, hb, hr, hml, hown, hts, hK, -, hlocks, hZ⟩ := hC
  have hown : s.vm.findClass RX12 = some m.cls := hown
  have hS : va_S (jA ad) s.heap s.heap [] := va_S.rf
  have hA : ∀ q, jA ad q → jA ad q := fun _ h => h
  have hl : lv_has ls 4 [(0, .ref (ad 55)), (1, .int 3), (2, .int 1)] := hl
  refine lv_iload_n hx hb dX12_givesAs_0 rfl (lv_at hl 1 rfl) ?_
  refine lv_iconst (v := 5) hx hb dX12_givesAs_1 (by decide) ?_
  refine lv_icmp_ne (tgt := 30) hx hb dX12_givesAs_2 (by decide) (fun _ => ?_) (fun c => absurd c (by decide))
  refine lv_iload_n hx hb dX12_givesAs_30 rfl (lv_at hl 1 rfl) ?_
  refine lv_iconst (v := 2) hx hb dX12_givesAs_31 (by decide) ?_
  refine lv_icmp_eq (tgt := 40) hx hb dX12_givesAs_32 (by decide) (fun c => absurd c (by decide)) (fun _ => ?_)
  refine lv_iload_n hx hb dX12_givesAs_35 rfl (lv_at hl 1 rfl) ?_
  refine lv_iconst (v := 3) hx hb dX12_givesAs_36 (by decide) ?_
  refine lv_icmp_ne (tgt := 55) hx hb dX12_givesAs_37 (by decide) (fun c => absurd (by decide) c) (fun _ => ?_)
  refine lv_aload_n hx hb dX12_givesAs_40 rfl (lv_at hl 0 rfl) ?_
  refine lv_bipush (v := 30) hx hb dX12_givesAs_41 (by decide) ?_
  refine jcallVv (As := [.int 30]) (rest := []) ⟨hx, hb, hml, hown, hts⟩ hK hP hA hS hZ (c_X12_begins_30_4 l D cI cL ad zz hJ σ τ h55_55) cw_RX12_379 (jc_55 cI cL ad σ τ) rfl ⟨Nat.le_of_ble_eq_true rfl, Nat.le_of_ble_eq_true rfl⟩ rfl rfl rfl hl.1 rfl (Nat.le_of_ble_eq_true rfl) dX12_givesAs_43 ⟨Nat.zero_le _, Nat.zero_le _⟩ (fun σ1 τ1 H locs h1 hP hS => ?_)
  obtain ⟨rfl, f3, f4, f5, m6, m7, h1⟩ := h1
  refine lv_aload_n hx hb dX12_givesAs_46 rfl (lv_at hl 0 rfl) ?_
  refine lv_iconst (v := 0) hx hb dX12_givesAs_47 (by decide) ?_
  refine lv_iload_n hx hb dX12_givesAs_48 rfl (lv_at hl 2 rfl) ?_
  have z8 : (σ1 55 56).toInt = (σ 55 56).toInt := (congrArg Int32.toInt (show σ1 55 56 = (σ 55 56) from (f4 56 (by decide))))
  refine jcallV (As := [.int 0, .int 1]) (rest := []) ⟨hx, hb, hml, hown, hts⟩ hK hP hA hS hZ (c_X12_givesAs_3_0_5_x1 l D cI cL ad zz hJ σ1 τ m6 (by omega)) cw_RX12_394 (jc_55 cI cL ad σ1 τ) rfl ⟨Nat.le_of_ble_eq_true rfl, Nat.le_of_ble_eq_true rfl⟩ rfl rfl rfl hl.1 rfl (Nat.le_of_ble_eq_true rfl) dX12_givesAs_49 ⟨Nat.zero_le _, Nat.zero_le _⟩ (fun r10 σ9 τ9 H locs h9 hP hS => ?_)
  obtain ⟨rfl, f11, f12, f13, m14, m15, h9⟩ := h9
  have h16 := h9
  obtain ⟨q18, k17⟩ := h16
  have q18 := q18.symm
  subst q18
  refine lv_iconst (v := 3) hx hb dX12_givesAs_52 (by decide) ?_
  have g19 := jrg (rfl : (1 ^^^ (σ1 55 57)).toInt = (1 ^^^ (σ1 55 57)).toInt)
  refine lv_imul hx hb dX12_givesAs_53 ?_
  refine lv_topi (fun x20 ex20 => ?_)
  have gx20 := jrg (rfl : x20.toInt = x20.toInt)
  have m21 : σ9 85 4 = 30 := ((f13 4 (by decide)).trans m7)
  exact hret x20 σ9 τ _ _ _ _ rfl ⟨rfl, (fun i hi => ((f11 i hi).trans (f3 i hi))), (fun i hi => ((f12 i hi).trans (f4 i hi))), (fun i hi => ((f13 i (imp_318 i hi)).trans (f5 i (imp_353 i hi)))), m14, m21, m15, ⟨(by rw [ex20, (show σ1 55 57 = σ 55 57 from (f4 57 (by decide)))]), trivial⟩⟩ hP hS dX12_givesAs_54
set_option maxHeartbeats 4000000 in
set_option maxRecDepth 100000 in
theorem c_X12_tellsAs_3_3_0 (l : Launch) (D : va_G) (cI cL : ClassId) (ad zz : Nat → Nat) (hJ : jD ad) (σ : Nat → Nat → Int32) (τ : Nat → Nat → Int64) (a2 : Int32) (A2 : Int) (t2 : a2.toInt = A2) (h55_55 : σ 55 55 = 0) (hp0 : (σ 55 56).toInt = 3) : jM l yX12_tellsAs cX12_tellsAs 4 (some .int) ({ frames := 4, cells := 0, slots := 0, locals := 89 }) D cI cL ad zz [.ref (ad 55), .int 3, .int a2] σ τ (fun r σ' τ' => τ = τ' ∧ (∀ i : Nat, (i < 55 ∨ 55 < i) ∧ (i < 85 ∨ 85 < i) → σ' i = σ i) ∧ (∀ k : Nat, (k < 55 ∨ 55 < k) → σ' 55 k = σ 55 k) ∧ (∀ k : Nat, (k < 0 ∨ 0 < k) ∧ (k < 1 ∨ 1 < k) ∧ (k < 2 ∨ 2 < k) ∧ (k < 3 ∨ 3 < k) ∧ (k < 4 ∨ 4 < k) ∧ (k < 5 ∨ 5 < k) → σ' 85 k = σ 85 k) ∧ (σ' 55 55 = 6) ∧ (σ' 85 0 = 2) ∧ (σ' 85 1 = 40) ∧ (σ' 85 2 = 10) ∧ (σ' 85 3 = 1) ∧ (σ' 85 4 = 30) ∧ (σ' 85 5 = 11) ∧ ((r = ((-((a2 + (σ 55 57)) * 2)) - ((1 ^^^ (σ 55 57)) * 3)) ∧ True))) := by
  refine jM.of hJ (by decide +kernel) (nt := .int) rfl (Nat.le_of_ble_eq_true rfl) ?_
  intro p e s m args below meth c Q ls hC hret hl hP
  obtain ⟨hx, hb, hr, hml, hown, hts, hK, -, hlocks, hZ⟩ := hC
  have hown : s.vm.findClass RX12 = some m.cls := hown
  have hS : va_S (jA ad) s.heap s.heap [] := va_S.rf
  have hA : ∀ q, jA ad q → jA ad q := fun _ h => h
  have hl : lv_has ls 4 [(0, .ref (ad 55)), (1, .int 3), (2, .int a2)] := hl
  have g2 := jrg t2
  refine lv_iload_n hx hb dX12_tellsAs_0 rfl (lv_at hl 1 rfl) ?_
  refine lv_iconst (v := 4) hx hb dX12_tellsAs_1 (by decide) ?_
  refine lv_icmp_ne (tgt := 20) hx hb dX12_tellsAs_2 (by decide) (fun _ => ?_) (fun c => absurd c (by decide))
  refine lv_aload_n hx hb dX12_tellsAs_20 rfl (lv_at hl 0 rfl) ?_
  refine lv_iconst (v := 2) hx hb dX12_tellsAs_21 (by decide) ?_
  refine jcallVv (As := [.int 2]) (rest := []) ⟨hx, hb, hml, hown, hts⟩ hK hP hA hS hZ (c_X12_begins_2_0 l D cI cL ad zz hJ σ τ h55_55) cw_RX12_379 (jc_55 cI cL ad σ τ) rfl ⟨Nat.le_of_ble_eq_true rfl, Nat.le_of_ble_eq_true rfl⟩ rfl rfl rfl hl.1 rfl (Nat.le_of_ble_eq_true rfl) dX12_tellsAs_22 ⟨Nat.zero_le _, Nat.zero_le _⟩ (fun σ1 τ1 H locs h1 hP hS => ?_)
  obtain ⟨rfl, f3, f4, f5, m6, m7, h1⟩ := h1
  refine lv_aload_n hx hb dX12_tellsAs_25 rfl (lv_at hl 0 rfl) ?_
  refine lv_aload_n hx hb dX12_tellsAs_26 rfl (lv_at hl 0 rfl) ?_
  refine va_get (D := D) hx hb hts inlX12 hown hK hP 55 (jc_55 cI cL ad σ1 τ) rfl 56 (by decide) (hts _ kw_49_8) (fun _ h9 => h9) rfl dX12_tellsAs_27 ?_
  have m8 : σ1 55 56 = (σ 55 56) := (f4 56 (by decide))
  refine jtopr m8 ?_
  refine jtopr (jsame (rfl : (σ 55 56).toInt = (σ 55 56).toInt) jz_3 (by omega)) ?_
  refine lv_iload_n hx hb dX12_tellsAs_30 rfl (lv_at hl 2 rfl) ?_
  have z9 : (σ1 55 56).toInt = (σ 55 56).toInt := (congrArg Int32.toInt (show σ1 55 56 = (σ 55 56) from m8))
  refine jcallV (As := [.int 3, .int a2]) (rest := []) ⟨hx, hb, hml, hown, hts⟩ hK hP hA hS hZ (c_X12_holdsAs_3_3_1 l D cI cL ad zz hJ σ1 τ a2 (A2) t2 m6 (by omega)) cw_RX12_388 (jc_55 cI cL ad σ1 τ) rfl ⟨Nat.le_of_ble_eq_true rfl, Nat.le_of_ble_eq_true rfl⟩ rfl rfl rfl hl.1 rfl (Nat.le_of_ble_eq_true rfl) dX12_tellsAs_31 ⟨Nat.zero_le _, Nat.zero_le _⟩ (fun r11 σ10 τ10 H locs h10 hP hS => ?_)
  obtain ⟨rfl, f12, f13, f14, m15, m16, m17, m18, h10⟩ := h10
  have h19 := h10
  obtain ⟨q21, k20⟩ := h19
  have q21 := q21.symm
  subst q21
  refine lv_istore_n (lv' := [(3, .int (-((a2 + (σ1 55 57)) * 2))), (0, .ref (ad 55)), (1, .int 3), (2, .int a2)]) hx hb dX12_tellsAs_34 rfl hl (by decide) rfl (fun ls hl => ?_)
  refine lv_iload_n hx hb dX12_tellsAs_35 rfl (lv_at hl 0 rfl) ?_
  refine lv_aload_n hx hb dX12_tellsAs_36 rfl (lv_at hl 1 rfl) ?_
  refine lv_aload_n hx hb dX12_tellsAs_37 rfl (lv_at hl 1 rfl) ?_
  refine va_get (D := D) hx hb hts inlX12 hown hK hP 55 (jc_55 cI cL ad σ10 τ) rfl 56 (by decide) (hts _ kw_49_8) (fun _ h9 => h9) rfl dX12_tellsAs_38 ?_
  have m22 : σ10 55 56 = (σ 55 56) := ((f13 56 (by decide)).trans m8)
  refine jtopr m22 ?_
  refine jtopr (jsame (rfl : (σ 55 56).toInt = (σ 55 56).toInt) jz_3 (by omega)) ?_
  refine lv_iconst (v := 1) hx hb dX12_tellsAs_41 (by decide) ?_
  have z23 : (σ10 55 56).toInt = (σ 55 56).toInt := (congrArg Int32.toInt (show σ10 55 56 = (σ 55 56) from m22))
  refine jcallV (As := [.int 3, .int 1]) (rest := [.int (-((a2 + (σ1 55 57)) * 2))]) ⟨hx, hb, hml, hown, hts⟩ hK hP hA hS hZ (c_X12_givesAs_3_3_4_x1 l D cI cL ad zz hJ σ10 τ m15 (by omega)) cw_RX12_394 (jc_55 cI cL ad σ10 τ) rfl ⟨Nat.le_of_ble_eq_true rfl, Nat.le_of_ble_eq_true rfl⟩ rfl rfl rfl hl.1 rfl (Nat.le_of_ble_eq_true rfl) dX12_tellsAs_42 ⟨Nat.zero_le _, Nat.zero_le _⟩ (fun r25 σ24 τ24 H locs h24 hP hS => ?_)
  obtain ⟨rfl, f26, f27, f28, m29, m30, m31, h24⟩ := h24
  have h32 := h24
  obtain ⟨q34, k33⟩ := h32
  have q34 := q34.symm
  subst q34
  have g35 := jrg (rfl : (-((a2 + (σ1 55 57)) * 2)).toInt = (-((a2 + (σ1 55 57)) * 2)).toInt)
  have g36 := jrg (rfl : ((1 ^^^ (σ10 55 57)) * 3).toInt = ((1 ^^^ (σ10 55 57)) * 3).toInt)
  refine lv_isub hx hb dX12_tellsAs_45 ?_
  refine lv_topi (fun x37 ex37 => ?_)
  have gx37 := jrg (rfl : x37.toInt = x37.toInt)
  have m38 : σ24 85 0 = 2 := ((f28 0 (by decide)).trans ((f14 0 (by decide)).trans m7))
  have m39 : σ24 85 1 = 40 := ((f28 1 (by decide)).trans m16)
  have m40 : σ24 85 2 = 10 := ((f28 2 (by decide)).trans m17)
  have m41 : σ24 85 3 = 1 := ((f28 3 (by decide)).trans m18)
  exact hret x37 σ24 τ _ _ _ _ rfl ⟨rfl, (fun i hi => ((f26 i hi).trans ((f12 i hi).trans (f3 i hi)))), (fun i hi => ((f27 i hi).trans ((f13 i hi).trans (f4 i hi)))), (fun i hi => ((f28 i (imp_319 i hi)).trans ((f14 i (imp_320 i hi)).trans (f5 i (imp_354 i hi))))), m29, m38, m39, m40, m41, m30, m31, ⟨(by rw [ex37, (show σ1 55 57 = σ 55 57 from (f4 57 (by decide))), (show σ10 55 57 = σ 55 57 from ((f13 57 (by decide)).trans (f4 57 (by decide))))]), trivial⟩⟩ hP hS dX12_tellsAs_46
set_option maxHeartbeats 4000000 in
set_option maxRecDepth 100000 in
theorem c_X12_begins_50_0 (l : Launch) (D : va_G) (cI cL : ClassId) (ad zz : Nat → Nat) (hJ : jD ad) (σ : Nat → Nat → Int32) (τ : Nat → Nat → Int64) (h55_55 : σ 55 55 = 0) : jMv l yX12_begins cX12_begins 2 none ({ frames := 0, cells := 0, slots := 0, locals := 0 }) D cI cL ad zz [.ref (ad 55), .int 50] σ τ (fun σ' τ' => τ = τ' ∧ (∀ i : Nat, (i < 55 ∨ 55 < i) ∧ (i < 85 ∨ 85 < i) → σ' i = σ i) ∧ (∀ k : Nat, (k < 55 ∨ 55 < k) → σ' 55 k = σ 55 k) ∧ (∀ k : Nat, (k < 0 ∨ 0 < k) → σ' 85 k = σ 85 k) ∧ (σ' 55 55 = 1) ∧ (σ' 85 0 = 50) ∧ True) := by
  refine jMv.of hJ (by decide +kernel) rfl (Nat.le_of_ble_eq_true rfl) ?_
  intro p e s m args below meth c Q ls hC hret hl hP
  obtain ⟨hx, hb, hr, hml, hown, hts, hK, -, hlocks, hZ⟩ := hC
  have hown : s.vm.findClass RX12 = some m.cls := hown
  have hS : va_S (jA ad) s.heap s.heap [] := va_S.rf
  have hA : ∀ q, jA ad q → jA ad q := fun _ h => h
  have hl : lv_has ls 2 [(0, .ref (ad 55)), (1, .int 50)] := hl
  refine lv_aload_n hx hb dX12_begins_0 rfl (lv_at hl 0 rfl) ?_
  refine va_get (D := D) hx hb hts inlX12 hown hK hP 55 (jc_55 cI cL ad σ τ) rfl 55 (by decide) (hts _ kw_49_7) (fun _ h9 => h9) rfl dX12_begins_1 ?_
  refine jtopr h55_55 ?_
  refine lv_bipush (v := 24) hx hb dX12_begins_4 (by decide) ?_
  refine lv_icmp_ge (tgt := 19) hx hb dX12_begins_6 (by decide) (fun c => absurd c (by decide)) (fun _ => ?_)
  refine lv_aload_n hx hb dX12_begins_9 rfl (lv_at hl 0 rfl) ?_
  refine va_get (D := D) hx hb hts inlX12 hown hK hP 55 (jc_55 cI cL ad σ τ) rfl 54 (by decide) (hts _ kw_8_10) (fun _ h9 => h9) rfl dX12_begins_10 ?_
  refine lv_aload_n hx hb dX12_begins_13 rfl (lv_at hl 0 rfl) ?_
  refine va_get (D := D) hx hb hts inlX12 hown hK hP 55 (jc_55 cI cL ad σ τ) rfl 55 (by decide) (hts _ kw_49_7) (fun _ h9 => h9) rfl dX12_begins_14 ?_
  refine jtopr h55_55 ?_
  refine lv_iload_n hx hb dX12_begins_17 rfl (lv_at hl 1 rfl) ?_
  refine jast hx hb hK hP hJ hA hS (jc_85 cI cL ad σ τ) (ja_85 cI cL ad σ τ _ _) (jin jz_0 (by omega) (by omega)) dX12_begins_18 (fun σ1 H locs eσ1 hP hS => ?_)
  have eσ1 : σ1 = jup σ 85 0 50 := eσ1
  refine lv_aload_n hx hb dX12_begins_19 rfl (lv_at hl 0 rfl) ?_
  refine lv_dup hx hb dX12_begins_20 rfl ?_
  refine va_get (D := D) hx hb hts inlX12 hown hK hP 55 (jc_55 cI cL ad σ1 τ) rfl 55 (by decide) (hts _ kw_49_7) (fun _ h9 => h9) rfl dX12_begins_21 ?_
  have m2 : σ1 55 55 = 0 := ((congrFun (jnp 55 eσ1 (by decide)) 55).trans h55_55)
  refine jtopr m2 ?_
  refine lv_iconst (v := 1) hx hb dX12_begins_24 (by decide) ?_
  refine lv_iadd hx hb dX12_begins_25 ?_
  refine jtopr (y := 1) (by decide) ?_
  refine jput (ty := .int) hx hb hts inlX12 tyX12 tyX12_ok nmX12 hown hK hP hJ hA hS (jc_55 cI cL ad σ1 τ) rfl (k := 55) (by decide) (Nat.le_of_ble_eq_true rfl) (jp_55_55 cI cL ad σ1 τ 1) (hts _ kw_49_7) (fun _ h9 => h9) rfl (by decide +kernel) rfl rfl dX12_begins_26 (fun σ3 H locs eσ3 hP hS => ?_)
  have m4 : σ3 55 55 = 1 := (jsp eσ3)
  have m5 : σ3 85 0 = 50 := ((congrFun (jnp 85 eσ3 (by decide)) 0).trans (jsp eσ1))
  exact hret σ3 τ _ _ _ _ ⟨rfl, (fun i hi => ((jnp i eσ3 (imp_345 i hi)).trans (jnp i eσ1 (imp_346 i hi)))), (fun i hi => ((jkp i eσ3 (imp_164 i hi)).trans (congrFun (jnp 55 eσ1 (by decide)) i))), (fun i hi => ((congrFun (jnp 85 eσ3 (by decide)) i).trans (jkp i eσ1 (imp_4 i hi)))), m4, m5, trivial⟩ hP hS dX12_begins_29
set_option maxHeartbeats 4000000 in
set_option maxRecDepth 100000 in
theorem c_X12_putsAs_4_0_2 (l : Launch) (D : va_G) (cI cL : ClassId) (ad zz : Nat → Nat) (hJ : jD ad) (σ : Nat → Nat → Int32) (τ : Nat → Nat → Int64) (a2 : Int32) (A2 : Int) (t2 : a2.toInt = A2) (h55_55 : σ 55 55 = 2) (hp0 : (σ 55 56).toInt = 4) : jM l yX12_putsAs cX12_putsAs 3 (some .int) ({ frames := 1, cells := 0, slots := 0, locals := 21 }) D cI cL ad zz [.ref (ad 55), .int 0, .int a2] σ τ (fun r σ' τ' => τ = τ' ∧ (∀ i : Nat, (i < 55 ∨ 55 < i) ∧ (i < 85 ∨ 85 < i) → σ' i = σ i) ∧ (∀ k : Nat, (k < 55 ∨ 55 < k) → σ' 55 k = σ 55 k) ∧ (∀ k : Nat, (k < 2 ∨ 2 < k) → σ' 85 k = σ 85 k) ∧ (σ' 55 55 = 3) ∧ (σ' 85 2 = 1) ∧ ((r = (a2 + (σ 55 57)) ∧ True))) := by
  refine jM.of hJ (by decide +kernel) (nt := .int) rfl (Nat.le_of_ble_eq_true rfl) ?_
  intro p e s m args below meth c Q ls hC hret hl hP
  obtain ⟨hx, hb, hr, hml, hown, hts, hK, -, hlocks, hZ⟩ := hC
  have hown : s.vm.findClass RX12 = some m.cls := hown
  have hS : va_S (jA ad) s.heap s.heap [] := va_S.rf
  have hA : ∀ q, jA ad q → jA ad q := fun _ h => h
  have hl : lv_has ls 3 [(0, .ref (ad 55)), (1, .int 0), (2, .int a2)] := hl
  have g2 := jrg t2
  refine lv_iload_n hx hb dX12_putsAs_0 rfl (lv_at hl 1 rfl) ?_
  refine lv_iconst (v := 4) hx hb dX12_putsAs_1 (by decide) ?_
  refine lv_icmp_ne (tgt := 20) hx hb dX12_putsAs_2 (by decide) (fun _ => ?_) (fun c => absurd c (by decide))
  refine lv_iload_n hx hb dX12_putsAs_20 rfl (lv_at hl 1 rfl) ?_
  refine lv_iconst (v := 1) hx hb dX12_putsAs_21 (by decide) ?_
  refine lv_icmp_ne (tgt := 40) hx hb dX12_putsAs_22 (by decide) (fun _ => ?_) (fun c => absurd c (by decide))
  refine lv_aload_n hx hb dX12_putsAs_40 rfl (lv_at hl 0 rfl) ?_
  refine lv_iconst (v := 1) hx hb dX12_putsAs_41 (by decide) ?_
  refine jcallVv (As := [.int 1]) (rest := []) ⟨hx, hb, hml, hown, hts⟩ hK hP hA hS hZ (c_X12_begins_1_2 l D cI cL ad zz hJ σ τ h55_55) cw_RX12_379 (jc_55 cI cL ad σ τ) rfl ⟨Nat.le_of_ble_eq_true rfl, Nat.le_of_ble_eq_true rfl⟩ rfl rfl rfl hl.1 rfl (Nat.le_of_ble_eq_true rfl) dX12_putsAs_42 ⟨Nat.zero_le _, Nat.zero_le _⟩ (fun σ1 τ1 H locs h1 hP hS => ?_)
  obtain ⟨rfl, f3, f4, f5, m6, m7, h1⟩ := h1
  refine lv_iload_n hx hb dX12_putsAs_45 rfl (lv_at hl 2 rfl) ?_
  refine lv_aload_n hx hb dX12_putsAs_46 rfl (lv_at hl 0 rfl) ?_
  refine va_get (D := D) hx hb hts inlX12 hown hK hP 55 (jc_55 cI cL ad σ1 τ) rfl 57 (by decide) (hts _ kw_49_9) (fun _ h9 => h9) rfl dX12_putsAs_47 ?_
  have m8 : σ1 55 57 = (σ 55 57) := (f4 57 (by decide))
  refine jtopr m8 ?_
  have g9 := jrg (rfl : (σ 55 57).toInt = (σ 55 57).toInt)
  refine lv_iadd hx hb dX12_putsAs_50 ?_
  refine lv_topi (fun x10 ex10 => ?_)
  have gx10 := jrg (rfl : x10.toInt = x10.toInt)
  exact hret x10 σ1 τ _ _ _ _ rfl ⟨rfl, (fun i hi => (f3 i hi)), (fun i hi => (f4 i hi)), (fun i hi => (f5 i hi)), m6, m7, ⟨(by rw [ex10]), trivial⟩⟩ hP hS dX12_putsAs_51
set_option maxHeartbeats 4000000 in
set_option maxRecDepth 100000 in
theorem c_X12_putsAs_4_1_1 (l : Launch) (D : va_G) (cI cL : ClassId) (ad zz : Nat → Nat) (hJ : jD ad) (σ : Nat → Nat → Int32) (τ : Nat → Nat → Int64) (a2 : Int32) (A2 : Int) (t2 : a2.toInt = A2) (h55_55 : σ 55 55 = 1) (hp0 : (σ 55 56).toInt = 4) : jM l yX12_putsAs cX12_putsAs 3 (some .int) ({ frames := 2, cells := 0, slots := 0, locals := 43 }) D cI cL ad zz [.ref (ad 55), .int 1, .int a2] σ τ (fun r σ' τ' => τ = τ' ∧ (∀ i : Nat, (i < 55 ∨ 55 < i) ∧ (i < 85 ∨ 85 < i) → σ' i = σ i) ∧ (∀ k : Nat, (k < 55 ∨ 55 < k) → σ' 55 k = σ 55 k) ∧ (∀ k : Nat, (k < 1 ∨ 1 < k) ∧ (k < 2 ∨ 2 < k) → σ' 85 k = σ 85 k) ∧ (σ' 55 55 = 3) ∧ (σ' 85 1 = 20) ∧ (σ' 85 2 = 1) ∧ ((r = ((a2 + (σ 55 57)) + 3) ∧ True))) := by
  refine jM.of hJ (by decide +kernel) (nt := .int) rfl (Nat.le_of_ble_eq_true rfl) ?_
  intro p e s m args below meth c Q ls hC hret hl hP
  obtain ⟨hx, hb, hr, hml, hown, hts, hK, -, hlocks, hZ⟩ := hC
  have hown : s.vm.findClass RX12 = some m.cls := hown
  have hS : va_S (jA ad) s.heap s.heap [] := va_S.rf
  have hA : ∀ q, jA ad q → jA ad q := fun _ h => h
  have hl : lv_has ls 3 [(0, .ref (ad 55)), (1, .int 1), (2, .int a2)] := hl
  have g2 := jrg t2
  refine lv_iload_n hx hb dX12_putsAs_0 rfl (lv_at hl 1 rfl) ?_
  refine lv_iconst (v := 4) hx hb dX12_putsAs_1 (by decide) ?_
  refine lv_icmp_ne (tgt := 20) hx hb dX12_putsAs_2 (by decide) (fun _ => ?_) (fun c => absurd c (by decide))
  refine lv_iload_n hx hb dX12_putsAs_20 rfl (lv_at hl 1 rfl) ?_
  refine lv_iconst (v := 1) hx hb dX12_putsAs_21 (by decide) ?_
  refine lv_icmp_ne (tgt := 40) hx hb dX12_putsAs_22 (by decide) (fun c => absurd (by decide) c) (fun _ => ?_)
  refine lv_aload_n hx hb dX12_putsAs_25 rfl (lv_at hl 0 rfl) ?_
  refine lv_bipush (v := 20) hx hb dX12_putsAs_26 (by decide) ?_
  refine jcallVv (As := [.int 20]) (rest := []) ⟨hx, hb, hml, hown, hts⟩ hK hP hA hS hZ (c_X12_begins_20_1 l D cI cL ad zz hJ σ τ h55_55) cw_RX12_379 (jc_55 cI cL ad σ τ) rfl ⟨Nat.le_of_ble_eq_true rfl, Nat.le_of_ble_eq_true rfl⟩ rfl rfl rfl hl.1 rfl (Nat.le_of_ble_eq_true rfl) dX12_putsAs_28 ⟨Nat.zero_le _, Nat.zero_le _⟩ (fun σ1 τ1 H locs h1 hP hS => ?_)
  obtain ⟨rfl, f3, f4, f5, m6, m7, h1⟩ := h1
  refine lv_aload_n hx hb dX12_putsAs_31 rfl (lv_at hl 0 rfl) ?_
  refine lv_iconst (v := 0) hx hb dX12_putsAs_32 (by decide) ?_
  refine lv_iload_n hx hb dX12_putsAs_33 rfl (lv_at hl 2 rfl) ?_
  have z8 : (σ1 55 56).toInt = (σ 55 56).toInt := (congrArg Int32.toInt (show σ1 55 56 = (σ 55 56) from (f4 56 (by decide))))
  refine jcallV (As := [.int 0, .int a2]) (rest := []) ⟨hx, hb, hml, hown, hts⟩ hK hP hA hS hZ (c_X12_putsAs_4_0_2 l D cI cL ad zz hJ σ1 τ a2 (A2) t2 m6 (by omega)) cw_RX12_382 (jc_55 cI cL ad σ1 τ) rfl ⟨Nat.le_of_ble_eq_true rfl, Nat.le_of_ble_eq_true rfl⟩ rfl rfl rfl hl.1 rfl (Nat.le_of_ble_eq_true rfl) dX12_putsAs_34 ⟨Nat.zero_le _, Nat.zero_le _⟩ (fun r10 σ9 τ9 H locs h9 hP hS => ?_)
  obtain ⟨rfl, f11, f12, f13, m14, m15, h9⟩ := h9
  have h16 := h9
  obtain ⟨q18, k17⟩ := h16
  have q18 := q18.symm
  subst q18
  refine lv_iconst (v := 3) hx hb dX12_putsAs_37 (by decide) ?_
  have g19 := jrg (rfl : (a2 + (σ1 55 57)).toInt = (a2 + (σ1 55 57)).toInt)
  refine lv_iadd hx hb dX12_putsAs_38 ?_
  refine lv_topi (fun x20 ex20 => ?_)
  have gx20 := jrg (rfl : x20.toInt = x20.toInt)
  have m21 : σ9 85 1 = 20 := ((f13 1 (by decide)).trans m7)
  exact hret x20 σ9 τ _ _ _ _ rfl ⟨rfl, (fun i hi => ((f11 i hi).trans (f3 i hi))), (fun i hi => ((f12 i hi).trans (f4 i hi))), (fun i hi => ((f13 i (imp_43 i hi)).trans (f5 i (imp_60 i hi)))), m14, m21, m15, ⟨(by rw [ex20, (show σ1 55 57 = σ 55 57 from (f4 57 (by decide)))]), trivial⟩⟩ hP hS dX12_putsAs_39
set_option maxHeartbeats 4000000 in
set_option maxRecDepth 100000 in
theorem c_X12_putsAs_4_4_0 (l : Launch) (D : va_G) (cI cL : ClassId) (ad zz : Nat → Nat) (hJ : jD ad) (σ : Nat → Nat → Int32) (τ : Nat → Nat → Int64) (a2 : Int32) (A2 : Int) (t2 : a2.toInt = A2) (h55_55 : σ 55 55 = 0) (hp0 : (σ 55 56).toInt = 4) : jM l yX12_putsAs cX12_putsAs 3 (some .int) ({ frames := 3, cells := 0, slots := 0, locals := 65 }) D cI cL ad zz [.ref (ad 55), .int 4, .int a2] σ τ (fun r σ' τ' => τ = τ' ∧ (∀ i : Nat, (i < 55 ∨ 55 < i) ∧ (i < 85 ∨ 85 < i) → σ' i = σ i) ∧ (∀ k : Nat, (k < 55 ∨ 55 < k) → σ' 55 k = σ 55 k) ∧ (∀ k : Nat, (k < 0 ∨ 0 < k) ∧ (k < 1 ∨ 1 < k) ∧ (k < 2 ∨ 2 < k) → σ' 85 k = σ 85 k) ∧ (σ' 55 55 = 3) ∧ (σ' 85 0 = 50) ∧ (σ' 85 1 = 20) ∧ (σ' 85 2 = 1) ∧ ((r = (((a2 + 1) + (σ 55 57)) + 3) ∧ True))) := by
  refine jM.of hJ (by decide +kernel) (nt := .int) rfl (Nat.le_of_ble_eq_true rfl) ?_
  intro p e s m args below meth c Q ls hC hret hl hP
  obtain ⟨hx, hb, hr, hml, hown, hts, hK, -, hlocks, hZ⟩ := hC
  have hown : s.vm.findClass RX12 = some m.cls := hown
  have hS : va_S (jA ad) s.heap s.heap [] := va_S.rf
  have hA : ∀ q, jA ad q → jA ad q := fun _ h => h
  have hl : lv_has ls 3 [(0, .ref (ad 55)), (1, .int 4), (2, .int a2)] := hl
  have g2 := jrg t2
  refine lv_iload_n hx hb dX12_putsAs_0 rfl (lv_at hl 1 rfl) ?_
  refine lv_iconst (v := 4) hx hb dX12_putsAs_1 (by decide) ?_
  refine lv_icmp_ne (tgt := 20) hx hb dX12_putsAs_2 (by decide) (fun c => absurd (by decide) c) (fun _ => ?_)
  refine lv_aload_n hx hb dX12_putsAs_5 rfl (lv_at hl 0 rfl) ?_
  refine lv_bipush (v := 50) hx hb dX12_putsAs_6 (by decide) ?_
  refine jcallVv (As := [.int 50]) (rest := []) ⟨hx, hb, hml, hown, hts⟩ hK hP hA hS hZ (c_X12_begins_50_0 l D cI cL ad zz hJ σ τ h55_55) cw_RX12_379 (jc_55 cI cL ad σ τ) rfl ⟨Nat.le_of_ble_eq_true rfl, Nat.le_of_ble_eq_true rfl⟩ rfl rfl rfl hl.1 rfl (Nat.le_of_ble_eq_true rfl) dX12_putsAs_8 ⟨Nat.zero_le _, Nat.zero_le _⟩ (fun σ1 τ1 H locs h1 hP hS => ?_)
  obtain ⟨rfl, f3, f4, f5, m6, m7, h1⟩ := h1
  refine lv_aload_n hx hb dX12_putsAs_11 rfl (lv_at hl 0 rfl) ?_
  refine lv_iconst (v := 1) hx hb dX12_putsAs_12 (by decide) ?_
  refine lv_iload_n hx hb dX12_putsAs_13 rfl (lv_at hl 2 rfl) ?_
  refine lv_iconst (v := 1) hx hb dX12_putsAs_14 (by decide) ?_
  refine lv_iadd hx hb dX12_putsAs_15 ?_
  refine lv_topi (fun x8 ex8 => ?_)
  have gx8 := jrg (rfl : x8.toInt = x8.toInt)
  have z9 : (σ1 55 56).toInt = (σ 55 56).toInt := (congrArg Int32.toInt (show σ1 55 56 = (σ 55 56) from (f4 56 (by decide))))
  refine jcallV (As := [.int 1, .int x8]) (rest := []) ⟨hx, hb, hml, hown, hts⟩ hK hP hA hS hZ (c_X12_putsAs_4_1_1 l D cI cL ad zz hJ σ1 τ x8 (x8.toInt) rfl m6 (by omega)) cw_RX12_382 (jc_55 cI cL ad σ1 τ) rfl ⟨Nat.le_of_ble_eq_true rfl, Nat.le_of_ble_eq_true rfl⟩ rfl rfl rfl hl.1 rfl (Nat.le_of_ble_eq_true rfl) dX12_putsAs_16 ⟨Nat.zero_le _, Nat.zero_le _⟩ (fun r11 σ10 τ10 H locs h10 hP hS => ?_)
  obtain ⟨rfl, f12, f13, f14, m15, m16, m17, h10⟩ := h10
  have h18 := h10
  obtain ⟨q20, k19⟩ := h18
  have q20 := q20.symm
  subst q20
  have m21 : σ10 85 0 = 50 := ((f14 0 (by decide)).trans m7)
  exact hret ((x8 + (σ1 55 57)) + 3) σ10 τ _ _ _ _ rfl ⟨rfl, (fun i hi => ((f12 i hi).trans (f3 i hi))), (fun i hi => ((f13 i hi).trans (f4 i hi))), (fun i hi => ((f14 i (imp_50 i hi)).trans (f5 i (imp_349 i hi)))), m15, m21, m16, m17, ⟨(by rw [ex8, (show σ1 55 57 = σ 55 57 from (f4 57 (by decide)))]), trivial⟩⟩ hP hS dX12_putsAs_19
set_option maxHeartbeats 4000000 in
set_option maxRecDepth 100000 in
theorem c_X12_begins_50_1 (l : Launch) (D : va_G) (cI cL : ClassId) (ad zz : Nat → Nat) (hJ : jD ad) (σ : Nat → Nat → Int32) (τ : Nat → Nat → Int64) (h55_55 : σ 55 55 = 1) : jMv l yX12_begins cX12_begins 2 none ({ frames := 0, cells := 0, slots := 0, locals := 0 }) D cI cL ad zz [.ref (ad 55), .int 50] σ τ (fun σ' τ' => τ = τ' ∧ (∀ i : Nat, (i < 55 ∨ 55 < i) ∧ (i < 85 ∨ 85 < i) → σ' i = σ i) ∧ (∀ k : Nat, (k < 55 ∨ 55 < k) → σ' 55 k = σ 55 k) ∧ (∀ k : Nat, (k < 1 ∨ 1 < k) → σ' 85 k = σ 85 k) ∧ (σ' 55 55 = 2) ∧ (σ' 85 1 = 50) ∧ True) := by
  refine jMv.of hJ (by decide +kernel) rfl (Nat.le_of_ble_eq_true rfl) ?_
  intro p e s m args below meth c Q ls hC hret hl hP
  obtain ⟨hx, hb, hr, hml, hown, hts, hK, -, hlocks, hZ⟩ := hC
  have hown : s.vm.findClass RX12 = some m.cls := hown
  have hS : va_S (jA ad) s.heap s.heap [] := va_S.rf
  have hA : ∀ q, jA ad q → jA ad q := fun _ h => h
  have hl : lv_has ls 2 [(0, .ref (ad 55)), (1, .int 50)] := hl
  refine lv_aload_n hx hb dX12_begins_0 rfl (lv_at hl 0 rfl) ?_
  refine va_get (D := D) hx hb hts inlX12 hown hK hP 55 (jc_55 cI cL ad σ τ) rfl 55 (by decide) (hts _ kw_49_7) (fun _ h9 => h9) rfl dX12_begins_1 ?_
  refine jtopr h55_55 ?_
  refine lv_bipush (v := 24) hx hb dX12_begins_4 (by decide) ?_
  refine lv_icmp_ge (tgt := 19) hx hb dX12_begins_6 (by decide) (fun c => absurd c (by decide)) (fun _ => ?_)
  refine lv_aload_n hx hb dX12_begins_9 rfl (lv_at hl 0 rfl) ?_
  refine va_get (D := D) hx hb hts inlX12 hown hK hP 55 (jc_55 cI cL ad σ τ) rfl 54 (by decide) (hts _ kw_8_10) (fun _ h9 => h9) rfl dX12_begins_10 ?_
  refine lv_aload_n hx hb dX12_begins_13 rfl (lv_at hl 0 rfl) ?_
  refine va_get (D := D) hx hb hts inlX12 hown hK hP 55 (jc_55 cI cL ad σ τ) rfl 55 (by decide) (hts _ kw_49_7) (fun _ h9 => h9) rfl dX12_begins_14 ?_
  refine jtopr h55_55 ?_
  refine lv_iload_n hx hb dX12_begins_17 rfl (lv_at hl 1 rfl) ?_
  refine jast hx hb hK hP hJ hA hS (jc_85 cI cL ad σ τ) (ja_85 cI cL ad σ τ _ _) (jin jz_1 (by omega) (by omega)) dX12_begins_18 (fun σ1 H locs eσ1 hP hS => ?_)
  have eσ1 : σ1 = jup σ 85 1 50 := eσ1
  refine lv_aload_n hx hb dX12_begins_19 rfl (lv_at hl 0 rfl) ?_
  refine lv_dup hx hb dX12_begins_20 rfl ?_
  refine va_get (D := D) hx hb hts inlX12 hown hK hP 55 (jc_55 cI cL ad σ1 τ) rfl 55 (by decide) (hts _ kw_49_7) (fun _ h9 => h9) rfl dX12_begins_21 ?_
  have m2 : σ1 55 55 = 1 := ((congrFun (jnp 55 eσ1 (by decide)) 55).trans h55_55)
  refine jtopr m2 ?_
  refine lv_iconst (v := 1) hx hb dX12_begins_24 (by decide) ?_
  refine lv_iadd hx hb dX12_begins_25 ?_
  refine jtopr (y := 2) (by decide) ?_
  refine jput (ty := .int) hx hb hts inlX12 tyX12 tyX12_ok nmX12 hown hK hP hJ hA hS (jc_55 cI cL ad σ1 τ) rfl (k := 55) (by decide) (Nat.le_of_ble_eq_true rfl) (jp_55_55 cI cL ad σ1 τ 2) (hts _ kw_49_7) (fun _ h9 => h9) rfl (by decide +kernel) rfl rfl dX12_begins_26 (fun σ3 H locs eσ3 hP hS => ?_)
  have m4 : σ3 55 55 = 2 := (jsp eσ3)
  have m5 : σ3 85 1 = 50 := ((congrFun (jnp 85 eσ3 (by decide)) 1).trans (jsp eσ1))
  exact hret σ3 τ _ _ _ _ ⟨rfl, (fun i hi => ((jnp i eσ3 (imp_345 i hi)).trans (jnp i eσ1 (imp_346 i hi)))), (fun i hi => ((jkp i eσ3 (imp_164 i hi)).trans (congrFun (jnp 55 eσ1 (by decide)) i))), (fun i hi => ((congrFun (jnp 85 eσ3 (by decide)) i).trans (jkp i eσ1 (imp_42 i hi)))), m4, m5, trivial⟩ hP hS dX12_begins_29
set_option maxHeartbeats 4000000 in
set_option maxRecDepth 100000 in
theorem c_X12_putsAs_4_0_3 (l : Launch) (D : va_G) (cI cL : ClassId) (ad zz : Nat → Nat) (hJ : jD ad) (σ : Nat → Nat → Int32) (τ : Nat → Nat → Int64) (a2 : Int32) (A2 : Int) (t2 : a2.toInt = A2) (h55_55 : σ 55 55 = 3) (hp0 : (σ 55 56).toInt = 4) : jM l yX12_putsAs cX12_putsAs 3 (some .int) ({ frames := 1, cells := 0, slots := 0, locals := 21 }) D cI cL ad zz [.ref (ad 55), .int 0, .int a2] σ τ (fun r σ' τ' => τ = τ' ∧ (∀ i : Nat, (i < 55 ∨ 55 < i) ∧ (i < 85 ∨ 85 < i) → σ' i = σ i) ∧ (∀ k : Nat, (k < 55 ∨ 55 < k) → σ' 55 k = σ 55 k) ∧ (∀ k : Nat, (k < 3 ∨ 3 < k) → σ' 85 k = σ 85 k) ∧ (σ' 55 55 = 4) ∧ (σ' 85 3 = 1) ∧ ((r = (a2 + (σ 55 57)) ∧ True))) := by
  refine jM.of hJ (by decide +kernel) (nt := .int) rfl (Nat.le_of_ble_eq_true rfl) ?_
  intro p e s m args below meth c Q ls hC hret hl hP
  obtain ⟨hx, hb, hr, hml, hown, hts, hK, -, hlocks, hZ⟩ := hC
  have hown : s.vm.findClass RX12 = some m.cls := hown
  have hS : va_S (jA ad) s.heap s.heap [] := va_S.rf
  have hA : ∀ q, jA ad q → jA ad q := fun _ h => h
  have hl : lv_has ls 3 [(0, .ref (ad 55)), (1, .int 0), (2, .int a2)] := hl
  have g2 := jrg t2
  refine lv_iload_n hx hb dX12_putsAs_0 rfl (lv_at hl 1 rfl) ?_
  refine lv_iconst (v := 4) hx hb dX12_putsAs_1 (by decide) ?_
  refine lv_icmp_ne (tgt := 20) hx hb dX12_putsAs_2 (by decide) (fun _ => ?_) (fun c => absurd c (by decide))
  refine lv_iload_n hx hb dX12_putsAs_20 rfl (lv_at hl 1 rfl) ?_
  refine lv_iconst (v := 1) hx hb dX12_putsAs_21 (by decide) ?_
  refine lv_icmp_ne (tgt := 40) hx hb dX12_putsAs_22 (by decide) (fun _ => ?_) (fun c => absurd c (by decide))
  refine lv_aload_n hx hb dX12_putsAs_40 rfl (lv_at hl 0 rfl) ?_
  refine lv_iconst (v := 1) hx hb dX12_putsAs_41 (by decide) ?_
  refine jcallVv (As := [.int 1]) (rest := []) ⟨hx, hb, hml, hown, hts⟩ hK hP hA hS hZ (c_X12_begins_1_3 l D cI cL ad zz hJ σ τ h55_55) cw_RX12_379 (jc_55 cI cL ad σ τ) rfl ⟨Nat.le_of_ble_eq_true rfl, Nat.le_of_ble_eq_true rfl⟩ rfl rfl rfl hl.1 rfl (Nat.le_of_ble_eq_true rfl) dX12_putsAs_42 ⟨Nat.zero_le _, Nat.zero_le _⟩ (fun σ1 τ1 H locs h1 hP hS => ?_)
  obtain ⟨rfl, f3, f4, f5, m6, m7, h1⟩ := h1
  refine lv_iload_n hx hb dX12_putsAs_45 rfl (lv_at hl 2 rfl) ?_
  refine lv_aload_n hx hb dX12_putsAs_46 rfl (lv_at hl 0 rfl) ?_
  refine va_get (D := D) hx hb hts inlX12 hown hK hP 55 (jc_55 cI cL ad σ1 τ) rfl 57 (by decide) (hts _ kw_49_9) (fun _ h9 => h9) rfl dX12_putsAs_47 ?_
  have m8 : σ1 55 57 = (σ 55 57) := (f4 57 (by decide))
  refine jtopr m8 ?_
  have g9 := jrg (rfl : (σ 55 57).toInt = (σ 55 57).toInt)
  refine lv_iadd hx hb dX12_putsAs_50 ?_
  refine lv_topi (fun x10 ex10 => ?_)
  have gx10 := jrg (rfl : x10.toInt = x10.toInt)
  exact hret x10 σ1 τ _ _ _ _ rfl ⟨rfl, (fun i hi => (f3 i hi)), (fun i hi => (f4 i hi)), (fun i hi => (f5 i hi)), m6, m7, ⟨(by rw [ex10]), trivial⟩⟩ hP hS dX12_putsAs_51
set_option maxHeartbeats 4000000 in
set_option maxRecDepth 100000 in
theorem c_X12_putsAs_4_1_2 (l : Launch) (D : va_G) (cI cL : ClassId) (ad zz : Nat → Nat) (hJ : jD ad) (σ : Nat → Nat → Int32) (τ : Nat → Nat → Int64) (a2 : Int32) (A2 : Int) (t2 : a2.toInt = A2) (h55_55 : σ 55 55 = 2) (hp0 : (σ 55 56).toInt = 4) : jM l yX12_putsAs cX12_putsAs 3 (some .int) ({ frames := 2, cells := 0, slots := 0, locals := 43 }) D cI cL ad zz [.ref (ad 55), .int 1, .int a2] σ τ (fun r σ' τ' => τ = τ' ∧ (∀ i : Nat, (i < 55 ∨ 55 < i) ∧ (i < 85 ∨ 85 < i) → σ' i = σ i) ∧ (∀ k : Nat, (k < 55 ∨ 55 < k) → σ' 55 k = σ 55 k) ∧ (∀ k : Nat, (k < 2 ∨ 2 < k) ∧ (k < 3 ∨ 3 < k) → σ' 85 k = σ 85 k) ∧ (σ' 55 55 = 4) ∧ (σ' 85 2 = 20) ∧ (σ' 85 3 = 1) ∧ ((r = ((a2 + (σ 55 57)) + 3) ∧ True))) := by
  refine jM.of hJ (by decide +kernel) (nt := .int) rfl (Nat.le_of_ble_eq_true rfl) ?_
  intro p e s m args below meth c Q ls hC hret hl hP
  obtain ⟨hx, hb, hr, hml, hown, hts, hK, -, hlocks, hZ⟩ := hC
  have hown : s.vm.findClass RX12 = some m.cls := hown
  have hS : va_S (jA ad) s.heap s.heap [] := va_S.rf
  have hA : ∀ q, jA ad q → jA ad q := fun _ h => h
  have hl : lv_has ls 3 [(0, .ref (ad 55)), (1, .int 1), (2, .int a2)] := hl
  have g2 := jrg t2
  refine lv_iload_n hx hb dX12_putsAs_0 rfl (lv_at hl 1 rfl) ?_
  refine lv_iconst (v := 4) hx hb dX12_putsAs_1 (by decide) ?_
  refine lv_icmp_ne (tgt := 20) hx hb dX12_putsAs_2 (by decide) (fun _ => ?_) (fun c => absurd c (by decide))
  refine lv_iload_n hx hb dX12_putsAs_20 rfl (lv_at hl 1 rfl) ?_
  refine lv_iconst (v := 1) hx hb dX12_putsAs_21 (by decide) ?_
  refine lv_icmp_ne (tgt := 40) hx hb dX12_putsAs_22 (by decide) (fun c => absurd (by decide) c) (fun _ => ?_)
  refine lv_aload_n hx hb dX12_putsAs_25 rfl (lv_at hl 0 rfl) ?_
  refine lv_bipush (v := 20) hx hb dX12_putsAs_26 (by decide) ?_
  refine jcallVv (As := [.int 20]) (rest := []) ⟨hx, hb, hml, hown, hts⟩ hK hP hA hS hZ (c_X12_begins_20_2 l D cI cL ad zz hJ σ τ h55_55) cw_RX12_379 (jc_55 cI cL ad σ τ) rfl ⟨Nat.le_of_ble_eq_true rfl, Nat.le_of_ble_eq_true rfl⟩ rfl rfl rfl hl.1 rfl (Nat.le_of_ble_eq_true rfl) dX12_putsAs_28 ⟨Nat.zero_le _, Nat.zero_le _⟩ (fun σ1 τ1 H locs h1 hP hS => ?_)
  obtain ⟨rfl, f3, f4, f5, m6, m7, h1⟩ := h1
  refine lv_aload_n hx hb dX12_putsAs_31 rfl (lv_at hl 0 rfl) ?_
  refine lv_iconst (v := 0) hx hb dX12_putsAs_32 (by decide) ?_
  refine lv_iload_n hx hb dX12_putsAs_33 rfl (lv_at hl 2 rfl) ?_
  have z8 : (σ1 55 56).toInt = (σ 55 56).toInt := (congrArg Int32.toInt (show σ1 55 56 = (σ 55 56) from (f4 56 (by decide))))
  refine jcallV (As := [.int 0, .int a2]) (rest := []) ⟨hx, hb, hml, hown, hts⟩ hK hP hA hS hZ (c_X12_putsAs_4_0_3 l D cI cL ad zz hJ σ1 τ a2 (A2) t2 m6 (by omega)) cw_RX12_382 (jc_55 cI cL ad σ1 τ) rfl ⟨Nat.le_of_ble_eq_true rfl, Nat.le_of_ble_eq_true rfl⟩ rfl rfl rfl hl.1 rfl (Nat.le_of_ble_eq_true rfl) dX12_putsAs_34 ⟨Nat.zero_le _, Nat.zero_le _⟩ (fun r10 σ9 τ9 H locs h9 hP hS => ?_)
  obtain ⟨rfl, f11, f12, f13, m14, m15, h9⟩ := h9
  have h16 := h9
  obtain ⟨q18, k17⟩ := h16
  have q18 := q18.symm
  subst q18
  refine lv_iconst (v := 3) hx hb dX12_putsAs_37 (by decide) ?_
  have g19 := jrg (rfl : (a2 + (σ1 55 57)).toInt = (a2 + (σ1 55 57)).toInt)
  refine lv_iadd hx hb dX12_putsAs_38 ?_
  refine lv_topi (fun x20 ex20 => ?_)
  have gx20 := jrg (rfl : x20.toInt = x20.toInt)
  have m21 : σ9 85 2 = 20 := ((f13 2 (by decide)).trans m7)
  exact hret x20 σ9 τ _ _ _ _ rfl ⟨rfl, (fun i hi => ((f11 i hi).trans (f3 i hi))), (fun i hi => ((f12 i hi).trans (f4 i hi))), (fun i hi => ((f13 i (imp_307 i hi)).trans (f5 i (imp_19 i hi)))), m14, m21, m15, ⟨(by rw [ex20, (show σ1 55 57 = σ 55 57 from (f4 57 (by decide)))]), trivial⟩⟩ hP hS dX12_putsAs_39
set_option maxHeartbeats 4000000 in
set_option maxRecDepth 100000 in
theorem c_X12_putsAs_4_4_1 (l : Launch) (D : va_G) (cI cL : ClassId) (ad zz : Nat → Nat) (hJ : jD ad) (σ : Nat → Nat → Int32) (τ : Nat → Nat → Int64) (a2 : Int32) (A2 : Int) (t2 : a2.toInt = A2) (h55_55 : σ 55 55 = 1) (hp0 : (σ 55 56).toInt = 4) : jM l yX12_putsAs cX12_putsAs 3 (some .int) ({ frames := 3, cells := 0, slots := 0, locals := 65 }) D cI cL ad zz [.ref (ad 55), .int 4, .int a2] σ τ (fun r σ' τ' => τ = τ' ∧ (∀ i : Nat, (i < 55 ∨ 55 < i) ∧ (i < 85 ∨ 85 < i) → σ' i = σ i) ∧ (∀ k : Nat, (k < 55 ∨ 55 < k) → σ' 55 k = σ 55 k) ∧ (∀ k : Nat, (k < 1 ∨ 1 < k) ∧ (k < 2 ∨ 2 < k) ∧ (k < 3 ∨ 3 < k) → σ' 85 k = σ 85 k) ∧ (σ' 55 55 = 4) ∧ (σ' 85 1 = 50) ∧ (σ' 85 2 = 20) ∧ (σ' 85 3 = 1) ∧ ((r = (((a2 + 1) + (σ 55 57)) + 3) ∧ True))) := by
  refine jM.of hJ (by decide +kernel) (nt := .int) rfl (Nat.le_of_ble_eq_true rfl) ?_
  intro p e s m args below meth c Q ls hC hret hl hP
  obtain ⟨hx, hb, hr, hml, hown, hts, hK, -, hlocks, hZ⟩ := hC
  have hown : s.vm.findClass RX12 = some m.cls := hown
  have hS : va_S (jA ad) s.heap s.heap [] := va_S.rf
  have hA : ∀ q, jA ad q → jA ad q := fun _ h => h
  have hl : lv_has ls 3 [(0, .ref (ad 55)), (1, .int 4), (2, .int a2)] := hl
  have g2 := jrg t2
  refine lv_iload_n hx hb dX12_putsAs_0 rfl (lv_at hl 1 rfl) ?_
  refine lv_iconst (v := 4) hx hb dX12_putsAs_1 (by decide) ?_
  refine lv_icmp_ne (tgt := 20) hx hb dX12_putsAs_2 (by decide) (fun c => absurd (by decide) c) (fun _ => ?_)
  refine lv_aload_n hx hb dX12_putsAs_5 rfl (lv_at hl 0 rfl) ?_
  refine lv_bipush (v := 50) hx hb dX12_putsAs_6 (by decide) ?_
  refine jcallVv (As := [.int 50]) (rest := []) ⟨hx, hb, hml, hown, hts⟩ hK hP hA hS hZ (c_X12_begins_50_1 l D cI cL ad zz hJ σ τ h55_55) cw_RX12_379 (jc_55 cI cL ad σ τ) rfl ⟨Nat.le_of_ble_eq_true rfl, Nat.le_of_ble_eq_true rfl⟩ rfl rfl rfl hl.1 rfl (Nat.le_of_ble_eq_true rfl) dX12_putsAs_8 ⟨Nat.zero_le _, Nat.zero_le _⟩ (fun σ1 τ1 H locs h1 hP hS => ?_)
  obtain ⟨rfl, f3, f4, f5, m6, m7, h1⟩ := h1
  refine lv_aload_n hx hb dX12_putsAs_11 rfl (lv_at hl 0 rfl) ?_
  refine lv_iconst (v := 1) hx hb dX12_putsAs_12 (by decide) ?_
  refine lv_iload_n hx hb dX12_putsAs_13 rfl (lv_at hl 2 rfl) ?_
  refine lv_iconst (v := 1) hx hb dX12_putsAs_14 (by decide) ?_
  refine lv_iadd hx hb dX12_putsAs_15 ?_
  refine lv_topi (fun x8 ex8 => ?_)
  have gx8 := jrg (rfl : x8.toInt = x8.toInt)
  have z9 : (σ1 55 56).toInt = (σ 55 56).toInt := (congrArg Int32.toInt (show σ1 55 56 = (σ 55 56) from (f4 56 (by decide))))
  refine jcallV (As := [.int 1, .int x8]) (rest := []) ⟨hx, hb, hml, hown, hts⟩ hK hP hA hS hZ (c_X12_putsAs_4_1_2 l D cI cL ad zz hJ σ1 τ x8 (x8.toInt) rfl m6 (by omega)) cw_RX12_382 (jc_55 cI cL ad σ1 τ) rfl ⟨Nat.le_of_ble_eq_true rfl, Nat.le_of_ble_eq_true rfl⟩ rfl rfl rfl hl.1 rfl (Nat.le_of_ble_eq_true rfl) dX12_putsAs_16 ⟨Nat.zero_le _, Nat.zero_le _⟩ (fun r11 σ10 τ10 H locs h10 hP hS => ?_)
  obtain ⟨rfl, f12, f13, f14, m15, m16, m17, h10⟩ := h10
  have h18 := h10
  obtain ⟨q20, k19⟩ := h18
  have q20 := q20.symm
  subst q20
  have m21 : σ10 85 1 = 50 := ((f14 1 (by decide)).trans m7)
  exact hret ((x8 + (σ1 55 57)) + 3) σ10 τ _ _ _ _ rfl ⟨rfl, (fun i hi => ((f12 i hi).trans (f3 i hi))), (fun i hi => ((f13 i hi).trans (f4 i hi))), (fun i hi => ((f14 i (imp_308 i hi)).trans (f5 i (imp_350 i hi)))), m15, m21, m16, m17, ⟨(by rw [ex8, (show σ1 55 57 = σ 55 57 from (f4 57 (by decide)))]), trivial⟩⟩ hP hS dX12_putsAs_19
set_option maxHeartbeats 4000000 in
set_option maxRecDepth 100000 in
theorem c_X12_holdsAs_4_4_0 (l : Launch) (D : va_G) (cI cL : ClassId) (ad zz : Nat → Nat) (hJ : jD ad) (σ : Nat → Nat → Int32) (τ : Nat → Nat → Int64) (a2 : Int32) (A2 : Int) (t2 : a2.toInt = A2) (h55_55 : σ 55 55 = 0) (hp0 : (σ 55 56).toInt = 4) : jM l yX12_holdsAs cX12_holdsAs 4 (some .int) ({ frames := 4, cells := 0, slots := 0, locals := 87 }) D cI cL ad zz [.ref (ad 55), .int 4, .int a2] σ τ (fun r σ' τ' => τ = τ' ∧ (∀ i : Nat, (i < 55 ∨ 55 < i) ∧ (i < 85 ∨ 85 < i) → σ' i = σ i) ∧ (∀ k : Nat, (k < 55 ∨ 55 < k) → σ' 55 k = σ 55 k) ∧ (∀ k : Nat, (k < 0 ∨ 0 < k) ∧ (k < 1 ∨ 1 < k) ∧ (k < 2 ∨ 2 < k) ∧ (k < 3 ∨ 3 < k) → σ' 85 k = σ 85 k) ∧ (σ' 55 55 = 4) ∧ (σ' 85 0 = 10) ∧ (σ' 85 1 = 50) ∧ (σ' 85 2 = 20) ∧ (σ' 85 3 = 1) ∧ ((r = ((((a2 + 1) + (σ 55 57)) + 3) * 2) ∧ True))) := by
  refine jM.of hJ (by decide +kernel) (nt := .int) rfl (Nat.le_of_ble_eq_true rfl) ?_
  intro p e s m args below meth c Q ls hC hret hl hP
  obtain ⟨hx, hb, hr, hml, hown, hts, hK, -, hlocks, hZ⟩ := hC
  have hown : s.vm.findClass RX12 = some m.cls := hown
  have hS : va_S (jA ad) s.heap s.heap [] := va_S.rf
  have hA : ∀ q, jA ad q → jA ad q := fun _ h => h
  have hl : lv_has ls 4 [(0, .ref (ad 55)), (1, .int 4), (2, .int a2)] := hl
  have g2 := jrg t2
  refine lv_iload_n hx hb dX12_holdsAs_0 rfl (lv_at hl 1 rfl) ?_
  refine lv_iconst (v := 3) hx hb dX12_holdsAs_1 (by decide) ?_
  refine lv_icmp_eq (tgt := 10) hx hb dX12_holdsAs_2 (by decide) (fun c => absurd c (by decide)) (fun _ => ?_)
  refine lv_iload_n hx hb dX12_holdsAs_5 rfl (lv_at hl 1 rfl) ?_
  refine lv_iconst (v := 5) hx hb dX12_holdsAs_6 (by decide) ?_
  refine lv_icmp_ne (tgt := 24) hx hb dX12_holdsAs_7 (by decide) (fun _ => ?_) (fun c => absurd c (by decide))
  refine lv_iload_n hx hb dX12_holdsAs_24 rfl (lv_at hl 1 rfl) ?_
  refine lv_bipush (v := 6) hx hb dX12_holdsAs_25 (by decide) ?_
  refine lv_icmp_ne (tgt := 55) hx hb dX12_holdsAs_27 (by decide) (fun _ => ?_) (fun c => absurd c (by decide))
  refine lv_aload_n hx hb dX12_holdsAs_55 rfl (lv_at hl 0 rfl) ?_
  refine lv_bipush (v := 10) hx hb dX12_holdsAs_56 (by decide) ?_
  refine jcallVv (As := [.int 10]) (rest := []) ⟨hx, hb, hml, hown, hts⟩ hK hP hA hS hZ (c_X12_begins_10_0 l D cI cL ad zz hJ σ τ h55_55) cw_RX12_379 (jc_55 cI cL ad σ τ) rfl ⟨Nat.le_of_ble_eq_true rfl, Nat.le_of_ble_eq_true rfl⟩ rfl rfl rfl hl.1 rfl (Nat.le_of_ble_eq_true rfl) dX12_holdsAs_58 ⟨Nat.zero_le _, Nat.zero_le _⟩ (fun σ1 τ1 H locs h1 hP hS => ?_)
  obtain ⟨rfl, f3, f4, f5, m6, m7, h1⟩ := h1
  refine lv_aload_n hx hb dX12_holdsAs_61 rfl (lv_at hl 0 rfl) ?_
  refine lv_aload_n hx hb dX12_holdsAs_62 rfl (lv_at hl 0 rfl) ?_
  refine va_get (D := D) hx hb hts inlX12 hown hK hP 55 (jc_55 cI cL ad σ1 τ) rfl 56 (by decide) (hts _ kw_49_8) (fun _ h9 => h9) rfl dX12_holdsAs_63 ?_
  have m8 : σ1 55 56 = (σ 55 56) := (f4 56 (by decide))
  refine jtopr m8 ?_
  refine jtopr (jsame (rfl : (σ 55 56).toInt = (σ 55 56).toInt) jz_4 (by omega)) ?_
  refine lv_iload_n hx hb dX12_holdsAs_66 rfl (lv_at hl 2 rfl) ?_
  have z9 : (σ1 55 56).toInt = (σ 55 56).toInt := (congrArg Int32.toInt (show σ1 55 56 = (σ 55 56) from m8))
  refine jcallV (As := [.int 4, .int a2]) (rest := []) ⟨hx, hb, hml, hown, hts⟩ hK hP hA hS hZ (c_X12_putsAs_4_4_1 l D cI cL ad zz hJ σ1 τ a2 (A2) t2 m6 (by omega)) cw_RX12_382 (jc_55 cI cL ad σ1 τ) rfl ⟨Nat.le_of_ble_eq_true rfl, Nat.le_of_ble_eq_true rfl⟩ rfl rfl rfl hl.1 rfl (Nat.le_of_ble_eq_true rfl) dX12_holdsAs_67 ⟨Nat.zero_le _, Nat.zero_le _⟩ (fun r11 σ10 τ10 H locs h10 hP hS => ?_)
  obtain ⟨rfl, f12, f13, f14, m15, m16, m17, m18, h10⟩ := h10
  have h19 := h10
  obtain ⟨q21, k20⟩ := h19
  have q21 := q21.symm
  subst q21
  refine lv_iconst (v := 2) hx hb dX12_holdsAs_70 (by decide) ?_
  have g22 := jrg (rfl : (((a2 + 1) + (σ1 55 57)) + 3).toInt = (((a2 + 1) + (σ1 55 57)) + 3).toInt)
  refine lv_imul hx hb dX12_holdsAs_71 ?_
  refine lv_topi (fun x23 ex23 => ?_)
  have gx23 := jrg (rfl : x23.toInt = x23.toInt)
  have m24 : σ10 85 0 = 10 := ((f14 0 (by decide)).trans m7)
  exact hret x23 σ10 τ _ _ _ _ rfl ⟨rfl, (fun i hi => ((f12 i hi).trans (f3 i hi))), (fun i hi => ((f13 i hi).trans (f4 i hi))), (fun i hi => ((f14 i (imp_322 i hi)).trans (f5 i (imp_348 i hi)))), m15, m24, m16, m17, m18, ⟨(by rw [ex23, (show σ1 55 57 = σ 55 57 from (f4 57 (by decide)))]), trivial⟩⟩ hP hS dX12_holdsAs_72
set_option maxHeartbeats 4000000 in
set_option maxRecDepth 100000 in
theorem c_X12_givesAs_4_4_0 (l : Launch) (D : va_G) (cI cL : ClassId) (ad zz : Nat → Nat) (hJ : jD ad) (σ : Nat → Nat → Int32) (τ : Nat → Nat → Int64) (a2 : Int32) (A2 : Int) (t2 : a2.toInt = A2) (h55_55 : σ 55 55 = 0) (hp0 : (σ 55 56).toInt = 4) : jM l yX12_givesAs cX12_givesAs 4 (some .int) ({ frames := 1, cells := 0, slots := 0, locals := 21 }) D cI cL ad zz [.ref (ad 55), .int 4, .int a2] σ τ (fun r σ' τ' => τ = τ' ∧ (∀ i : Nat, (i < 55 ∨ 55 < i) ∧ (i < 85 ∨ 85 < i) → σ' i = σ i) ∧ (∀ k : Nat, (k < 55 ∨ 55 < k) → σ' 55 k = σ 55 k) ∧ (∀ k : Nat, (k < 0 ∨ 0 < k) → σ' 85 k = σ 85 k) ∧ (σ' 55 55 = 1) ∧ (σ' 85 0 = 11) ∧ ((r = (a2 ^^^ (σ 55 57)) ∧ True))) := by
  refine jM.of hJ (by decide +kernel) (nt := .int) rfl (Nat.le_of_ble_eq_true rfl) ?_
  intro p e s m args below meth c Q ls hC hret hl hP
  obtain ⟨hx, hb, hr, hml, hown, hts, hK, -, hlocks, hZ⟩ := hC
  have hown : s.vm.findClass RX12 = some m.cls := hown
  have hS : va_S (jA ad) s.heap s.heap [] := va_S.rf
  have hA : ∀ q, jA ad q → jA ad q := fun _ h => h
  have hl : lv_has ls 4 [(0, .ref (ad 55)), (1, .int 4), (2, .int a2)] := hl
  have g2 := jrg t2
  refine lv_iload_n hx hb dX12_givesAs_0 rfl (lv_at hl 1 rfl) ?_
  refine lv_iconst (v := 5) hx hb dX12_givesAs_1 (by decide) ?_
  refine lv_icmp_ne (tgt := 30) hx hb dX12_givesAs_2 (by decide) (fun _ => ?_) (fun c => absurd c (by decide))
  refine lv_iload_n hx hb dX12_givesAs_30 rfl (lv_at hl 1 rfl) ?_
  refine lv_iconst (v := 2) hx hb dX12_givesAs_31 (by decide) ?_
  refine lv_icmp_eq (tgt := 40) hx hb dX12_givesAs_32 (by decide) (fun c => absurd c (by decide)) (fun _ => ?_)
  refine lv_iload_n hx hb dX12_givesAs_35 rfl (lv_at hl 1 rfl) ?_
  refine lv_iconst (v := 3) hx hb dX12_givesAs_36 (by decide) ?_
  refine lv_icmp_ne (tgt := 55) hx hb dX12_givesAs_37 (by decide) (fun _ => ?_) (fun c => absurd c (by decide))
  refine lv_aload_n hx hb dX12_givesAs_55 rfl (lv_at hl 0 rfl) ?_
  refine lv_bipush (v := 11) hx hb dX12_givesAs_56 (by decide) ?_
  refine jcallVv (As := [.int 11]) (rest := []) ⟨hx, hb, hml, hown, hts⟩ hK hP hA hS hZ (c_X12_begins_11_0 l D cI cL ad zz hJ σ τ h55_55) cw_RX12_379 (jc_55 cI cL ad σ τ) rfl ⟨Nat.le_of_ble_eq_true rfl, Nat.le_of_ble_eq_true rfl⟩ rfl rfl rfl hl.1 rfl (Nat.le_of_ble_eq_true rfl) dX12_givesAs_58 ⟨Nat.zero_le _, Nat.zero_le _⟩ (fun σ1 τ1 H locs h1 hP hS => ?_)
  obtain ⟨rfl, f3, f4, f5, m6, m7, h1⟩ := h1
  refine lv_iload_n hx hb dX12_givesAs_61 rfl (lv_at hl 2 rfl) ?_
  refine lv_aload_n hx hb dX12_givesAs_62 rfl (lv_at hl 0 rfl) ?_
  refine va_get (D := D) hx hb hts inlX12 hown hK hP 55 (jc_55 cI cL ad σ1 τ) rfl 57 (by decide) (hts _ kw_49_9) (fun _ h9 => h9) rfl dX12_givesAs_63 ?_
  have m8 : σ1 55 57 = (σ 55 57) := (f4 57 (by decide))
  refine jtopr m8 ?_
  refine lv_ixor hx hb dX12_givesAs_66 ?_
  refine lv_topi (fun x9 ex9 => ?_)
  have gx9 := jrg (rfl : x9.toInt = x9.toInt)
  exact hret x9 σ1 τ _ _ _ _ rfl ⟨rfl, (fun i hi => (f3 i hi)), (fun i hi => (f4 i hi)), (fun i hi => (f5 i hi)), m6, m7, ⟨(by rw [ex9]), trivial⟩⟩ hP hS dX12_givesAs_67
set_option maxHeartbeats 4000000 in
set_option maxRecDepth 100000 in
theorem c_X12_begins_51_0 (l : Launch) (D : va_G) (cI cL : ClassId) (ad zz : Nat → Nat) (hJ : jD ad) (σ : Nat → Nat → Int32) (τ : Nat → Nat → Int64) (h55_55 : σ 55 55 = 0) : jMv l yX12_begins cX12_begins 2 none ({ frames := 0, cells := 0, slots := 0, locals := 0 }) D cI cL ad zz [.ref (ad 55), .int 51] σ τ (fun σ' τ' => τ = τ' ∧ (∀ i : Nat, (i < 55 ∨ 55 < i) ∧ (i < 85 ∨ 85 < i) → σ' i = σ i) ∧ (∀ k : Nat, (k < 55 ∨ 55 < k) → σ' 55 k = σ 55 k) ∧ (∀ k : Nat, (k < 0 ∨ 0 < k) → σ' 85 k = σ 85 k) ∧ (σ' 55 55 = 1) ∧ (σ' 85 0 = 51) ∧ True) := by
  refine jMv.of hJ (by decide +kernel) rfl (Nat.le_of_ble_eq_true rfl) ?_
  intro p e s m args below meth c Q ls hC hret hl hP
  obtain ⟨hx, hb, hr, hml, hown, hts, hK, -, hlocks, hZ⟩ := hC
  have hown : s.vm.findClass RX12 = some m.cls := hown
  have hS : va_S (jA ad) s.heap s.heap [] := va_S.rf
  have hA : ∀ q, jA ad q → jA ad q := fun _ h => h
  have hl : lv_has ls 2 [(0, .ref (ad 55)), (1, .int 51)] := hl
  refine lv_aload_n hx hb dX12_begins_0 rfl (lv_at hl 0 rfl) ?_
  refine va_get (D := D) hx hb hts inlX12 hown hK hP 55 (jc_55 cI cL ad σ τ) rfl 55 (by decide) (hts _ kw_49_7) (fun _ h9 => h9) rfl dX12_begins_1 ?_
  refine jtopr h55_55 ?_
  refine lv_bipush (v := 24) hx hb dX12_begins_4 (by decide) ?_
  refine lv_icmp_ge (tgt := 19) hx hb dX12_begins_6 (by decide) (fun c => absurd c (by decide)) (fun _ => ?_)
  refine lv_aload_n hx hb dX12_begins_9 rfl (lv_at hl 0 rfl) ?_
  refine va_get (D := D) hx hb hts inlX12 hown hK hP 55 (jc_55 cI cL ad σ τ) rfl 54 (by decide) (hts _ kw_8_10) (fun _ h9 => h9) rfl dX12_begins_10 ?_
  refine lv_aload_n hx hb dX12_begins_13 rfl (lv_at hl 0 rfl) ?_
  refine va_get (D := D) hx hb hts inlX12 hown hK hP 55 (jc_55 cI cL ad σ τ) rfl 55 (by decide) (hts _ kw_49_7) (fun _ h9 => h9) rfl dX12_begins_14 ?_
  refine jtopr h55_55 ?_
  refine lv_iload_n hx hb dX12_begins_17 rfl (lv_at hl 1 rfl) ?_
  refine jast hx hb hK hP hJ hA hS (jc_85 cI cL ad σ τ) (ja_85 cI cL ad σ τ _ _) (jin jz_0 (by omega) (by omega)) dX12_begins_18 (fun σ1 H locs eσ1 hP hS => ?_)
  have eσ1 : σ1 = jup σ 85 0 51 := eσ1
  refine lv_aload_n hx hb dX12_begins_19 rfl (lv_at hl 0 rfl) ?_
  refine lv_dup hx hb dX12_begins_20 rfl ?_
  refine va_get (D := D) hx hb hts inlX12 hown hK hP 55 (jc_55 cI cL ad σ1 τ) rfl 55 (by decide) (hts _ kw_49_7) (fun _ h9 => h9) rfl dX12_begins_21 ?_
  have m2 : σ1 55 55 = 0 := ((congrFun (jnp 55 eσ1 (by decide)) 55).trans h55_55)
  refine jtopr m2 ?_
  refine lv_iconst (v := 1) hx hb dX12_begins_24 (by decide) ?_
  refine lv_iadd hx hb dX12_begins_25 ?_
  refine jtopr (y := 1) (by decide) ?_
  refine jput (ty := .int) hx hb hts inlX12 tyX12 tyX12_ok nmX12 hown hK hP hJ hA hS (jc_55 cI cL ad σ1 τ) rfl (k := 55) (by decide) (Nat.le_of_ble_eq_true rfl) (jp_55_55 cI cL ad σ1 τ 1) (hts _ kw_49_7) (fun _ h9 => h9) rfl (by decide +kernel) rfl rfl dX12_begins_26 (fun σ3 H locs eσ3 hP hS => ?_)
  have m4 : σ3 55 55 = 1 := (jsp eσ3)
  have m5 : σ3 85 0 = 51 := ((congrFun (jnp 85 eσ3 (by decide)) 0).trans (jsp eσ1))
  exact hret σ3 τ _ _ _ _ ⟨rfl, (fun i hi => ((jnp i eσ3 (imp_345 i hi)).trans (jnp i eσ1 (imp_346 i hi)))), (fun i hi => ((jkp i eσ3 (imp_164 i hi)).trans (congrFun (jnp 55 eσ1 (by decide)) i))), (fun i hi => ((congrFun (jnp 85 eσ3 (by decide)) i).trans (jkp i eσ1 (imp_4 i hi)))), m4, m5, trivial⟩ hP hS dX12_begins_29
set_option maxHeartbeats 4000000 in
set_option maxRecDepth 100000 in
theorem c_X12_begins_2_1 (l : Launch) (D : va_G) (cI cL : ClassId) (ad zz : Nat → Nat) (hJ : jD ad) (σ : Nat → Nat → Int32) (τ : Nat → Nat → Int64) (h55_55 : σ 55 55 = 1) : jMv l yX12_begins cX12_begins 2 none ({ frames := 0, cells := 0, slots := 0, locals := 0 }) D cI cL ad zz [.ref (ad 55), .int 2] σ τ (fun σ' τ' => τ = τ' ∧ (∀ i : Nat, (i < 55 ∨ 55 < i) ∧ (i < 85 ∨ 85 < i) → σ' i = σ i) ∧ (∀ k : Nat, (k < 55 ∨ 55 < k) → σ' 55 k = σ 55 k) ∧ (∀ k : Nat, (k < 1 ∨ 1 < k) → σ' 85 k = σ 85 k) ∧ (σ' 55 55 = 2) ∧ (σ' 85 1 = 2) ∧ True) := by
  refine jMv.of hJ (by decide +kernel) rfl (Nat.le_of_ble_eq_true rfl) ?_
  intro p e s m args below meth c Q ls hC hret hl hP
  obtain ⟨hx, hb, hr, hml, hown, hts, hK, -, hlocks, hZ⟩ := hC
  have hown : s.vm.findClass RX12 = some m.cls := hown
  have hS : va_S (jA ad) s.heap s.heap [] := va_S.rf
  have hA : ∀ q, jA ad q → jA ad q := fun _ h => h
  have hl : lv_has ls 2 [(0, .ref (ad 55)), (1, .int 2)] := hl
  refine lv_aload_n hx hb dX12_begins_0 rfl (lv_at hl 0 rfl) ?_
  refine va_get (D := D) hx hb hts inlX12 hown hK hP 55 (jc_55 cI cL ad σ τ) rfl 55 (by decide) (hts _ kw_49_7) (fun _ h9 => h9) rfl dX12_begins_1 ?_
  refine jtopr h55_55 ?_
  refine lv_bipush (v := 24) hx hb dX12_begins_4 (by decide) ?_
  refine lv_icmp_ge (tgt := 19) hx hb dX12_begins_6 (by decide) (fun c => absurd c (by decide)) (fun _ => ?_)
  refine lv_aload_n hx hb dX12_begins_9 rfl (lv_at hl 0 rfl) ?_
  refine va_get (D := D) hx hb hts inlX12 hown hK hP 55 (jc_55 cI cL ad σ τ) rfl 54 (by decide) (hts _ kw_8_10) (fun _ h9 => h9) rfl dX12_begins_10 ?_
  refine lv_aload_n hx hb dX12_begins_13 rfl (lv_at hl 0 rfl) ?_
  refine va_get (D := D) hx hb hts inlX12 hown hK hP 55 (jc_55 cI cL ad σ τ) rfl 55 (by decide) (hts _ kw_49_7) (fun _ h9 => h9) rfl dX12_begins_14 ?_
  refine jtopr h55_55 ?_
  refine lv_iload_n hx hb dX12_begins_17 rfl (lv_at hl 1 rfl) ?_
  refine jast hx hb hK hP hJ hA hS (jc_85 cI cL ad σ τ) (ja_85 cI cL ad σ τ _ _) (jin jz_1 (by omega) (by omega)) dX12_begins_18 (fun σ1 H locs eσ1 hP hS => ?_)
  have eσ1 : σ1 = jup σ 85 1 2 := eσ1
  refine lv_aload_n hx hb dX12_begins_19 rfl (lv_at hl 0 rfl) ?_
  refine lv_dup hx hb dX12_begins_20 rfl ?_
  refine va_get (D := D) hx hb hts inlX12 hown hK hP 55 (jc_55 cI cL ad σ1 τ) rfl 55 (by decide) (hts _ kw_49_7) (fun _ h9 => h9) rfl dX12_begins_21 ?_
  have m2 : σ1 55 55 = 1 := ((congrFun (jnp 55 eσ1 (by decide)) 55).trans h55_55)
  refine jtopr m2 ?_
  refine lv_iconst (v := 1) hx hb dX12_begins_24 (by decide) ?_
  refine lv_iadd hx hb dX12_begins_25 ?_
  refine jtopr (y := 2) (by decide) ?_
  refine jput (ty := .int) hx hb hts inlX12 tyX12 tyX12_ok nmX12 hown hK hP hJ hA hS (jc_55 cI cL ad σ1 τ) rfl (k := 55) (by decide) (Nat.le_of_ble_eq_true rfl) (jp_55_55 cI cL ad σ1 τ 2) (hts _ kw_49_7) (fun _ h9 => h9) rfl (by decide +kernel) rfl rfl dX12_begins_26 (fun σ3 H locs eσ3 hP hS => ?_)
  have m4 : σ3 55 55 = 2 := (jsp eσ3)
  have m5 : σ3 85 1 = 2 := ((congrFun (jnp 85 eσ3 (by decide)) 1).trans (jsp eσ1))
  exact hret σ3 τ _ _ _ _ ⟨rfl, (fun i hi => ((jnp i eσ3 (imp_345 i hi)).trans (jnp i eσ1 (imp_346 i hi)))), (fun i hi => ((jkp i eσ3 (imp_164 i hi)).trans (congrFun (jnp 55 eσ1 (by decide)) i))), (fun i hi => ((congrFun (jnp 85 eσ3 (by decide)) i).trans (jkp i eσ1 (imp_42 i hi)))), m4, m5, trivial⟩ hP hS dX12_begins_29
set_option maxHeartbeats 4000000 in
set_option maxRecDepth 100000 in
theorem c_X12_begins_50_3 (l : Launch) (D : va_G) (cI cL : ClassId) (ad zz : Nat → Nat) (hJ : jD ad) (σ : Nat → Nat → Int32) (τ : Nat → Nat → Int64) (h55_55 : σ 55 55 = 3) : jMv l yX12_begins cX12_begins 2 none ({ frames := 0, cells := 0, slots := 0, locals := 0 }) D cI cL ad zz [.ref (ad 55), .int 50] σ τ (fun σ' τ' => τ = τ' ∧ (∀ i : Nat, (i < 55 ∨ 55 < i) ∧ (i < 85 ∨ 85 < i) → σ' i = σ i) ∧ (∀ k : Nat, (k < 55 ∨ 55 < k) → σ' 55 k = σ 55 k) ∧ (∀ k : Nat, (k < 3 ∨ 3 < k) → σ' 85 k = σ 85 k) ∧ (σ' 55 55 = 4) ∧ (σ' 85 3 = 50) ∧ True) := by
  refine jMv.of hJ (by decide +kernel) rfl (Nat.le_of_ble_eq_true rfl) ?_
  intro p e s m args below meth c Q ls hC hret hl hP
  obtain ⟨hx, hb, hr, hml, hown, hts, hK, -, hlocks, hZ⟩ := hC
  have hown : s.vm.findClass RX12 = some m.cls := hown
  have hS : va_S (jA ad) s.heap s.heap [] := va_S.rf
  have hA : ∀ q, jA ad q → jA ad q := fun _ h => h
  have hl : lv_has ls 2 [(0, .ref (ad 55)), (1, .int 50)] := hl
  refine lv_aload_n hx hb dX12_begins_0 rfl (lv_at hl 0 rfl) ?_
  refine va_get (D := D) hx hb hts inlX12 hown hK hP 55 (jc_55 cI cL ad σ τ) rfl 55 (by decide) (hts _ kw_49_7) (fun _ h9 => h9) rfl dX12_begins_1 ?_
  refine jtopr h55_55 ?_
  refine lv_bipush (v := 24) hx hb dX12_begins_4 (by decide) ?_
  refine lv_icmp_ge (tgt := 19) hx hb dX12_begins_6 (by decide) (fun c => absurd c (by decide)) (fun _ => ?_)
  refine lv_aload_n hx hb dX12_begins_9 rfl (lv_at hl 0 rfl) ?_
  refine va_get (D := D) hx hb hts inlX12 hown hK hP 55 (jc_55 cI cL ad σ τ) rfl 54 (by decide) (hts _ kw_8_10) (fun _ h9 => h9) rfl dX12_begins_10 ?_
  refine lv_aload_n hx hb dX12_begins_13 rfl (lv_at hl 0 rfl) ?_
  refine va_get (D := D) hx hb hts inlX12 hown hK hP 55 (jc_55 cI cL ad σ τ) rfl 55 (by decide) (hts _ kw_49_7) (fun _ h9 => h9) rfl dX12_begins_14 ?_
  refine jtopr h55_55 ?_
  refine lv_iload_n hx hb dX12_begins_17 rfl (lv_at hl 1 rfl) ?_
  refine jast hx hb hK hP hJ hA hS (jc_85 cI cL ad σ τ) (ja_85 cI cL ad σ τ _ _) (jin jz_3 (by omega) (by omega)) dX12_begins_18 (fun σ1 H locs eσ1 hP hS => ?_)
  have eσ1 : σ1 = jup σ 85 3 50 := eσ1
  refine lv_aload_n hx hb dX12_begins_19 rfl (lv_at hl 0 rfl) ?_
  refine lv_dup hx hb dX12_begins_20 rfl ?_
  refine va_get (D := D) hx hb hts inlX12 hown hK hP 55 (jc_55 cI cL ad σ1 τ) rfl 55 (by decide) (hts _ kw_49_7) (fun _ h9 => h9) rfl dX12_begins_21 ?_
  have m2 : σ1 55 55 = 3 := ((congrFun (jnp 55 eσ1 (by decide)) 55).trans h55_55)
  refine jtopr m2 ?_
  refine lv_iconst (v := 1) hx hb dX12_begins_24 (by decide) ?_
  refine lv_iadd hx hb dX12_begins_25 ?_
  refine jtopr (y := 4) (by decide) ?_
  refine jput (ty := .int) hx hb hts inlX12 tyX12 tyX12_ok nmX12 hown hK hP hJ hA hS (jc_55 cI cL ad σ1 τ) rfl (k := 55) (by decide) (Nat.le_of_ble_eq_true rfl) (jp_55_55 cI cL ad σ1 τ 4) (hts _ kw_49_7) (fun _ h9 => h9) rfl (by decide +kernel) rfl rfl dX12_begins_26 (fun σ3 H locs eσ3 hP hS => ?_)
  have m4 : σ3 55 55 = 4 := (jsp eσ3)
  have m5 : σ3 85 3 = 50 := ((congrFun (jnp 85 eσ3 (by decide)) 3).trans (jsp eσ1))
  exact hret σ3 τ _ _ _ _ ⟨rfl, (fun i hi => ((jnp i eσ3 (imp_345 i hi)).trans (jnp i eσ1 (imp_346 i hi)))), (fun i hi => ((jkp i eσ3 (imp_164 i hi)).trans (congrFun (jnp 55 eσ1 (by decide)) i))), (fun i hi => ((congrFun (jnp 85 eσ3 (by decide)) i).trans (jkp i eσ1 (imp_303 i hi)))), m4, m5, trivial⟩ hP hS dX12_begins_29
set_option maxHeartbeats 4000000 in
set_option maxRecDepth 100000 in
theorem c_X12_begins_20_4 (l : Launch) (D : va_G) (cI cL : ClassId) (ad zz : Nat → Nat) (hJ : jD ad) (σ : Nat → Nat → Int32) (τ : Nat → Nat → Int64) (h55_55 : σ 55 55 = 4) : jMv l yX12_begins cX12_begins 2 none ({ frames := 0, cells := 0, slots := 0, locals := 0 }) D cI cL ad zz [.ref (ad 55), .int 20] σ τ (fun σ' τ' => τ = τ' ∧ (∀ i : Nat, (i < 55 ∨ 55 < i) ∧ (i < 85 ∨ 85 < i) → σ' i = σ i) ∧ (∀ k : Nat, (k < 55 ∨ 55 < k) → σ' 55 k = σ 55 k) ∧ (∀ k : Nat, (k < 4 ∨ 4 < k) → σ' 85 k = σ 85 k) ∧ (σ' 55 55 = 5) ∧ (σ' 85 4 = 20) ∧ True) := by
  refine jMv.of hJ (by decide +kernel) rfl (Nat.le_of_ble_eq_true rfl) ?_
  intro p e s m args below meth c Q ls hC hret hl hP
  obtain ⟨hx, hb, hr, hml, hown, hts, hK, -, hlocks, hZ⟩ := hC
  have hown : s.vm.findClass RX12 = some m.cls := hown
  have hS : va_S (jA ad) s.heap s.heap [] := va_S.rf
  have hA : ∀ q, jA ad q → jA ad q := fun _ h => h
  have hl : lv_has ls 2 [(0, .ref (ad 55)), (1, .int 20)] := hl
  refine lv_aload_n hx hb dX12_begins_0 rfl (lv_at hl 0 rfl) ?_
  refine va_get (D := D) hx hb hts inlX12 hown hK hP 55 (jc_55 cI cL ad σ τ) rfl 55 (by decide) (hts _ kw_49_7) (fun _ h9 => h9) rfl dX12_begins_1 ?_
  refine jtopr h55_55 ?_
  refine lv_bipush (v := 24) hx hb dX12_begins_4 (by decide) ?_
  refine lv_icmp_ge (tgt := 19) hx hb dX12_begins_6 (by decide) (fun c => absurd c (by decide)) (fun _ => ?_)
  refine lv_aload_n hx hb dX12_begins_9 rfl (lv_at hl 0 rfl) ?_
  refine va_get (D := D) hx hb hts inlX12 hown hK hP 55 (jc_55 cI cL ad σ τ) rfl 54 (by decide) (hts _ kw_8_10) (fun _ h9 => h9) rfl dX12_begins_10 ?_
  refine lv_aload_n hx hb dX12_begins_13 rfl (lv_at hl 0 rfl) ?_
  refine va_get (D := D) hx hb hts inlX12 hown hK hP 55 (jc_55 cI cL ad σ τ) rfl 55 (by decide) (hts _ kw_49_7) (fun _ h9 => h9) rfl dX12_begins_14 ?_
  refine jtopr h55_55 ?_
  refine lv_iload_n hx hb dX12_begins_17 rfl (lv_at hl 1 rfl) ?_
  refine jast hx hb hK hP hJ hA hS (jc_85 cI cL ad σ τ) (ja_85 cI cL ad σ τ _ _) (jin jz_4 (by omega) (by omega)) dX12_begins_18 (fun σ1 H locs eσ1 hP hS => ?_)
  have eσ1 : σ1 = jup σ 85 4 20 := eσ1
  refine lv_aload_n hx hb dX12_begins_19 rfl (lv_at hl 0 rfl) ?_
  refine lv_dup hx hb dX12_begins_20 rfl ?_
  refine va_get (D := D) hx hb hts inlX12 hown hK hP 55 (jc_55 cI cL ad σ1 τ) rfl 55 (by decide) (hts _ kw_49_7) (fun _ h9 => h9) rfl dX12_begins_21 ?_
  have m2 : σ1 55 55 = 4 := ((congrFun (jnp 55 eσ1 (by decide)) 55).trans h55_55)
  refine jtopr m2 ?_
  refine lv_iconst (v := 1) hx hb dX12_begins_24 (by decide) ?_
  refine lv_iadd hx hb dX12_begins_25 ?_
  refine jtopr (y := 5) (by decide) ?_
  refine jput (ty := .int) hx hb hts inlX12 tyX12 tyX12_ok nmX12 hown hK hP hJ hA hS (jc_55 cI cL ad σ1 τ) rfl (k := 55) (by decide) (Nat.le_of_ble_eq_true rfl) (jp_55_55 cI cL ad σ1 τ 5) (hts _ kw_49_7) (fun _ h9 => h9) rfl (by decide +kernel) rfl rfl dX12_begins_26 (fun σ3 H locs eσ3 hP hS => ?_)
  have m4 : σ3 55 55 = 5 := (jsp eσ3)
  have m5 : σ3 85 4 = 20 := ((congrFun (jnp 85 eσ3 (by decide)) 4).trans (jsp eσ1))
  exact hret σ3 τ _ _ _ _ ⟨rfl, (fun i hi => ((jnp i eσ3 (imp_345 i hi)).trans (jnp i eσ1 (imp_346 i hi)))), (fun i hi => ((jkp i eσ3 (imp_164 i hi)).trans (congrFun (jnp 55 eσ1 (by decide)) i))), (fun i hi => ((congrFun (jnp 85 eσ3 (by decide)) i).trans (jkp i eσ1 (imp_310 i hi)))), m4, m5, trivial⟩ hP hS dX12_begins_29
set_option maxHeartbeats 4000000 in
set_option maxRecDepth 100000 in
theorem c_X12_begins_1_5 (l : Launch) (D : va_G) (cI cL : ClassId) (ad zz : Nat → Nat) (hJ : jD ad) (σ : Nat → Nat → Int32) (τ : Nat → Nat → Int64) (h55_55 : σ 55 55 = 5) : jMv l yX12_begins cX12_begins 2 none ({ frames := 0, cells := 0, slots := 0, locals := 0 }) D cI cL ad zz [.ref (ad 55), .int 1] σ τ (fun σ' τ' => τ = τ' ∧ (∀ i : Nat, (i < 55 ∨ 55 < i) ∧ (i < 85 ∨ 85 < i) → σ' i = σ i) ∧ (∀ k : Nat, (k < 55 ∨ 55 < k) → σ' 55 k = σ 55 k) ∧ (∀ k : Nat, (k < 5 ∨ 5 < k) → σ' 85 k = σ 85 k) ∧ (σ' 55 55 = 6) ∧ (σ' 85 5 = 1) ∧ True) := by
  refine jMv.of hJ (by decide +kernel) rfl (Nat.le_of_ble_eq_true rfl) ?_
  intro p e s m args below meth c Q ls hC hret hl hP
  obtain ⟨hx, hb, hr, hml, hown, hts, hK, -, hlocks, hZ⟩ := hC
  have hown : s.vm.findClass RX12 = some m.cls := hown
  have hS : va_S (jA ad) s.heap s.heap [] := va_S.rf
  have hA : ∀ q, jA ad q → jA ad q := fun _ h => h
  have hl : lv_has ls 2 [(0, .ref (ad 55)), (1, .int 1)] := hl
  refine lv_aload_n hx hb dX12_begins_0 rfl (lv_at hl 0 rfl) ?_
  refine va_get (D := D) hx hb hts inlX12 hown hK hP 55 (jc_55 cI cL ad σ τ) rfl 55 (by decide) (hts _ kw_49_7) (fun _ h9 => h9) rfl dX12_begins_1 ?_
  refine jtopr h55_55 ?_
  refine lv_bipush (v := 24) hx hb dX12_begins_4 (by decide) ?_
  refine lv_icmp_ge (tgt := 19) hx hb dX12_begins_6 (by decide) (fun c => absurd c (by decide)) (fun _ => ?_)
  refine lv_aload_n hx hb dX12_begins_9 rfl (lv_at hl 0 rfl) ?_
  refine va_get (D := D) hx hb hts inlX12 hown hK hP 55 (jc_55 cI cL ad σ τ) rfl 54 (by decide) (hts _ kw_8_10) (fun _ h9 => h9) rfl dX12_begins_10 ?_
  refine lv_aload_n hx hb dX12_begins_13 rfl (lv_at hl 0 rfl) ?_
  refine va_get (D := D) hx hb hts inlX12 hown hK hP 55 (jc_55 cI cL ad σ τ) rfl 55 (by decide) (hts _ kw_49_7) (fun _ h9 => h9) rfl dX12_begins_14 ?_
  refine jtopr h55_55 ?_
  refine lv_iload_n hx hb dX12_begins_17 rfl (lv_at hl 1 rfl) ?_
  refine jast hx hb hK hP hJ hA hS (jc_85 cI cL ad σ τ) (ja_85 cI cL ad σ τ _ _) (jin jz_5 (by omega) (by omega)) dX12_begins_18 (fun σ1 H locs eσ1 hP hS => ?_)
  have eσ1 : σ1 = jup σ 85 5 1 := eσ1
  refine lv_aload_n hx hb dX12_begins_19 rfl (lv_at hl 0 rfl) ?_
  refine lv_dup hx hb dX12_begins_20 rfl ?_
  refine va_get (D := D) hx hb hts inlX12 hown hK hP 55 (jc_55 cI cL ad σ1 τ) rfl 55 (by decide) (hts _ kw_49_7) (fun _ h9 => h9) rfl dX12_begins_21 ?_
  have m2 : σ1 55 55 = 5 := ((congrFun (jnp 55 eσ1 (by decide)) 55).trans h55_55)
  refine jtopr m2 ?_
  refine lv_iconst (v := 1) hx hb dX12_begins_24 (by decide) ?_
  refine lv_iadd hx hb dX12_begins_25 ?_
  refine jtopr (y := 6) (by decide) ?_
  refine jput (ty := .int) hx hb hts inlX12 tyX12 tyX12_ok nmX12 hown hK hP hJ hA hS (jc_55 cI cL ad σ1 τ) rfl (k := 55) (by decide) (Nat.le_of_ble_eq_true rfl) (jp_55_55 cI cL ad σ1 τ 6) (hts _ kw_49_7) (fun _ h9 => h9) rfl (by decide +kernel) rfl rfl dX12_begins_26 (fun σ3 H locs eσ3 hP hS => ?_)
  have m4 : σ3 55 55 = 6 := (jsp eσ3)
  have m5 : σ3 85 5 = 1 := ((congrFun (jnp 85 eσ3 (by decide)) 5).trans (jsp eσ1))
  exact hret σ3 τ _ _ _ _ ⟨rfl, (fun i hi => ((jnp i eσ3 (imp_345 i hi)).trans (jnp i eσ1 (imp_346 i hi)))), (fun i hi => ((jkp i eσ3 (imp_164 i hi)).trans (congrFun (jnp 55 eσ1 (by decide)) i))), (fun i hi => ((congrFun (jnp 85 eσ3 (by decide)) i).trans (jkp i eσ1 (imp_158 i hi)))), m4, m5, trivial⟩ hP hS dX12_begins_29
set_option maxHeartbeats 4000000 in
set_option maxRecDepth 100000 in
theorem c_X12_putsAs_4_0_5 (l : Launch) (D : va_G) (cI cL : ClassId) (ad zz : Nat → Nat) (hJ : jD ad) (σ : Nat → Nat → Int32) (τ : Nat → Nat → Int64) (a2 : Int32) (A2 : Int) (t2 : a2.toInt = A2) (h55_55 : σ 55 55 = 5) (hp0 : (σ 55 56).toInt = 4) : jM l yX12_putsAs cX12_putsAs 3 (some .int) ({ frames := 1, cells := 0, slots := 0, locals := 21 }) D cI cL ad zz [.ref (ad 55), .int 0, .int a2] σ τ (fun r σ' τ' => τ = τ' ∧ (∀ i : Nat, (i < 55 ∨ 55 < i) ∧ (i < 85 ∨ 85 < i) → σ' i = σ i) ∧ (∀ k : Nat, (k < 55 ∨ 55 < k) → σ' 55 k = σ 55 k) ∧ (∀ k : Nat, (k < 5 ∨ 5 < k) → σ' 85 k = σ 85 k) ∧ (σ' 55 55 = 6) ∧ (σ' 85 5 = 1) ∧ ((r = (a2 + (σ 55 57)) ∧ True))) := by
  refine jM.of hJ (by decide +kernel) (nt := .int) rfl (Nat.le_of_ble_eq_true rfl) ?_
  intro p e s m args below meth c Q ls hC hret hl hP
  obtain ⟨hx, hb, hr, hml, hown, hts, hK, -, hlocks, hZ⟩ := hC
  have hown : s.vm.findClass RX12 = some m.cls := hown
  have hS : va_S (jA ad) s.heap s.heap [] := va_S.rf
  have hA : ∀ q, jA ad q → jA ad q := fun _ h => h
  have hl : lv_has ls 3 [(0, .ref (ad 55)), (1, .int 0), (2, .int a2)] := hl
  have g2 := jrg t2
  refine lv_iload_n hx hb dX12_putsAs_0 rfl (lv_at hl 1 rfl) ?_
  refine lv_iconst (v := 4) hx hb dX12_putsAs_1 (by decide) ?_
  refine lv_icmp_ne (tgt := 20) hx hb dX12_putsAs_2 (by decide) (fun _ => ?_) (fun c => absurd c (by decide))
  refine lv_iload_n hx hb dX12_putsAs_20 rfl (lv_at hl 1 rfl) ?_
  refine lv_iconst (v := 1) hx hb dX12_putsAs_21 (by decide) ?_
  refine lv_icmp_ne (tgt := 40) hx hb dX12_putsAs_22 (by decide) (fun _ => ?_) (fun c => absurd c (by decide))
  refine lv_aload_n hx hb dX12_putsAs_40 rfl (lv_at hl 0 rfl) ?_
  refine lv_iconst (v := 1) hx hb dX12_putsAs_41 (by decide) ?_
  refine jcallVv (As := [.int 1]) (rest := []) ⟨hx, hb, hml, hown, hts⟩ hK hP hA hS hZ (c_X12_begins_1_5 l D cI cL ad zz hJ σ τ h55_55) cw_RX12_379 (jc_55 cI cL ad σ τ) rfl ⟨Nat.le_of_ble_eq_true rfl, Nat.le_of_ble_eq_true rfl⟩ rfl rfl rfl hl.1 rfl (Nat.le_of_ble_eq_true rfl) dX12_putsAs_42 ⟨Nat.zero_le _, Nat.zero_le _⟩ (fun σ1 τ1 H locs h1 hP hS => ?_)
  obtain ⟨rfl, f3, f4, f5, m6, m7, h1⟩ := h1
  refine lv_iload_n hx hb dX12_putsAs_45 rfl (lv_at hl 2 rfl) ?_
  refine lv_aload_n hx hb dX12_putsAs_46 rfl (lv_at hl 0 rfl) ?_
  refine va_get (D := D) hx hb hts inlX12 hown hK hP 55 (jc_55 cI cL ad σ1 τ) rfl 57 (by decide) (hts _ kw_49_9) (fun _ h9 => h9) rfl dX12_putsAs_47 ?_
  have m8 : σ1 55 57 = (σ 55 57) := (f4 57 (by decide))
  refine jtopr m8 ?_
  have g9 := jrg (rfl : (σ 55 57).toInt = (σ 55 57).toInt)
  refine lv_iadd hx hb dX12_putsAs_50 ?_
  refine lv_topi (fun x10 ex10 => ?_)
  have gx10 := jrg (rfl : x10.toInt = x10.toInt)
  exact hret x10 σ1 τ _ _ _ _ rfl ⟨rfl, (fun i hi => (f3 i hi)), (fun i hi => (f4 i hi)), (fun i hi => (f5 i hi)), m6, m7, ⟨(by rw [ex10]), trivial⟩⟩ hP hS dX12_putsAs_51
set_option maxHeartbeats 4000000 in
set_option maxRecDepth 100000 in
theorem c_X12_putsAs_4_1_4 (l : Launch) (D : va_G) (cI cL : ClassId) (ad zz : Nat → Nat) (hJ : jD ad) (σ : Nat → Nat → Int32) (τ : Nat → Nat → Int64) (a2 : Int32) (A2 : Int) (t2 : a2.toInt = A2) (h55_55 : σ 55 55 = 4) (hp0 : (σ 55 56).toInt = 4) : jM l yX12_putsAs cX12_putsAs 3 (some .int) ({ frames := 2, cells := 0, slots := 0, locals := 43 }) D cI cL ad zz [.ref (ad 55), .int 1, .int a2] σ τ (fun r σ' τ' => τ = τ' ∧ (∀ i : Nat, (i < 55 ∨ 55 < i) ∧ (i < 85 ∨ 85 < i) → σ' i = σ i) ∧ (∀ k : Nat, (k < 55 ∨ 55 < k) → σ' 55 k = σ 55 k) ∧ (∀ k : Nat, (k < 4 ∨ 4 < k) ∧ (k < 5 ∨ 5 < k) → σ' 85 k = σ 85 k) ∧ (σ' 55 55 = 6) ∧ (σ' 85 4 = 20) ∧ (σ' 85 5 = 1) ∧ ((r = ((a2 + (σ 55 57)) + 3) ∧ True))) := by
  refine jM.of hJ (by decide +kernel) (nt := .int) rfl (Nat.le_of_ble_eq_true rfl) ?_
  intro p e s m args below meth c Q ls hC hret hl hP
  obtain ⟨hx, hb, hr, hml, hown, hts, hK, -, hlocks, hZ⟩ := hC
  have hown : s.vm.findClass RX12 = some m.cls := hown
  have hS : va_S (jA ad) s.heap s.heap [] := va_S.rf
  have hA : ∀ q, jA ad q → jA ad q := fun _ h => h
  have hl : lv_has ls 3 [(0, .ref (ad 55)), (1, .int 1), (2, .int a2)] := hl
  have g2 := jrg t2
  refine lv_iload_n hx hb dX12_putsAs_0 rfl (lv_at hl 1 rfl) ?_
  refine lv_iconst (v := 4) hx hb dX12_putsAs_1 (by decide) ?_
  refine lv_icmp_ne (tgt := 20) hx hb dX12_putsAs_2 (by decide) (fun _ => ?_) (fun c => absurd c (by decide))
  refine lv_iload_n hx hb dX12_putsAs_20 rfl (lv_at hl 1 rfl) ?_
  refine lv_iconst (v := 1) hx hb dX12_putsAs_21 (by decide) ?_
  refine lv_icmp_ne (tgt := 40) hx hb dX12_putsAs_22 (by decide) (fun c => absurd (by decide) c) (fun _ => ?_)
  refine lv_aload_n hx hb dX12_putsAs_25 rfl (lv_at hl 0 rfl) ?_
  refine lv_bipush (v := 20) hx hb dX12_putsAs_26 (by decide) ?_
  refine jcallVv (As := [.int 20]) (rest := []) ⟨hx, hb, hml, hown, hts⟩ hK hP hA hS hZ (c_X12_begins_20_4 l D cI cL ad zz hJ σ τ h55_55) cw_RX12_379 (jc_55 cI cL ad σ τ) rfl ⟨Nat.le_of_ble_eq_true rfl, Nat.le_of_ble_eq_true rfl⟩ rfl rfl rfl hl.1 rfl (Nat.le_of_ble_eq_true rfl) dX12_putsAs_28 ⟨Nat.zero_le _, Nat.zero_le _⟩ (fun σ1 τ1 H locs h1 hP hS => ?_)
  obtain ⟨rfl, f3, f4, f5, m6, m7, h1⟩ := h1
  refine lv_aload_n hx hb dX12_putsAs_31 rfl (lv_at hl 0 rfl) ?_
  refine lv_iconst (v := 0) hx hb dX12_putsAs_32 (by decide) ?_
  refine lv_iload_n hx hb dX12_putsAs_33 rfl (lv_at hl 2 rfl) ?_
  have z8 : (σ1 55 56).toInt = (σ 55 56).toInt := (congrArg Int32.toInt (show σ1 55 56 = (σ 55 56) from (f4 56 (by decide))))
  refine jcallV (As := [.int 0, .int a2]) (rest := []) ⟨hx, hb, hml, hown, hts⟩ hK hP hA hS hZ (c_X12_putsAs_4_0_5 l D cI cL ad zz hJ σ1 τ a2 (A2) t2 m6 (by omega)) cw_RX12_382 (jc_55 cI cL ad σ1 τ) rfl ⟨Nat.le_of_ble_eq_true rfl, Nat.le_of_ble_eq_true rfl⟩ rfl rfl rfl hl.1 rfl (Nat.le_of_ble_eq_true rfl) dX12_putsAs_34 ⟨Nat.zero_le _, Nat.zero_le _⟩ (fun r10 σ9 τ9 H locs h9 hP hS => ?_)
  obtain ⟨rfl, f11, f12, f13, m14, m15, h9⟩ := h9
  have h16 := h9
  obtain ⟨q18, k17⟩ := h16
  have q18 := q18.symm
  subst q18
  refine lv_iconst (v := 3) hx hb dX12_putsAs_37 (by decide) ?_
  have g19 := jrg (rfl : (a2 + (σ1 55 57)).toInt = (a2 + (σ1 55 57)).toInt)
  refine lv_iadd hx hb dX12_putsAs_38 ?_
  refine lv_topi (fun x20 ex20 => ?_)
  have gx20 := jrg (rfl : x20.toInt = x20.toInt)
  have m21 : σ9 85 4 = 20 := ((f13 4 (by decide)).trans m7)
  exact hret x20 σ9 τ _ _ _ _ rfl ⟨rfl, (fun i hi => ((f11 i hi).trans (f3 i hi))), (fun i hi => ((f12 i hi).trans (f4 i hi))), (fun i hi => ((f13 i (imp_318 i hi)).trans (f5 i (imp_353 i hi)))), m14, m21, m15, ⟨(by rw [ex20, (show σ1 55 57 = σ 55 57 from (f4 57 (by decide)))]), trivial⟩⟩ hP hS dX12_putsAs_39
set_option maxHeartbeats 4000000 in
set_option maxRecDepth 100000 in
theorem c_X12_putsAs_4_4_3 (l : Launch) (D : va_G) (cI cL : ClassId) (ad zz : Nat → Nat) (hJ : jD ad) (σ : Nat → Nat → Int32) (τ : Nat → Nat → Int64) (a2 : Int32) (A2 : Int) (t2 : a2.toInt = A2) (h55_55 : σ 55 55 = 3) (hp0 : (σ 55 56).toInt = 4) : jM l yX12_putsAs cX12_putsAs 3 (some .int) ({ frames := 3, cells := 0, slots := 0, locals := 65 }) D cI cL ad zz [.ref (ad 55), .int 4, .int a2] σ τ (fun r σ' τ' => τ = τ' ∧ (∀ i : Nat, (i < 55 ∨ 55 < i) ∧ (i < 85 ∨ 85 < i) → σ' i = σ i) ∧ (∀ k : Nat, (k < 55 ∨ 55 < k) → σ' 55 k = σ 55 k) ∧ (∀ k : Nat, (k < 3 ∨ 3 < k) ∧ (k < 4 ∨ 4 < k) ∧ (k < 5 ∨ 5 < k) → σ' 85 k = σ 85 k) ∧ (σ' 55 55 = 6) ∧ (σ' 85 3 = 50) ∧ (σ' 85 4 = 20) ∧ (σ' 85 5 = 1) ∧ ((r = (((a2 + 1) + (σ 55 57)) + 3) ∧ True))) := by
  refine jM.of hJ (by decide +kernel) (nt := .int) rfl (Nat.le_of_ble_eq_true rfl) ?_
  intro p e s m args below meth c Q ls hC hret hl hP
  obtain ⟨hx, hb, hr, hml, hown, hts, hK, -, hlocks, hZ⟩ := hC
  have hown : s.vm.findClass RX12 = some m.cls := hown
  have hS : va_S (jA ad) s.heap s.heap [] := va_S.rf
  have hA : ∀ q, jA ad q → jA ad q := fun _ h => h
  have hl : lv_has ls 3 [(0, .ref (ad 55)), (1, .int 4), (2, .int a2)] := hl
  have g2 := jrg t2
  refine lv_iload_n hx hb dX12_putsAs_0 rfl (lv_at hl 1 rfl) ?_
  refine lv_iconst (v := 4) hx hb dX12_putsAs_1 (by decide) ?_
  refine lv_icmp_ne (tgt := 20) hx hb dX12_putsAs_2 (by decide) (fun c => absurd (by decide) c) (fun _ => ?_)
  refine lv_aload_n hx hb dX12_putsAs_5 rfl (lv_at hl 0 rfl) ?_
  refine lv_bipush (v := 50) hx hb dX12_putsAs_6 (by decide) ?_
  refine jcallVv (As := [.int 50]) (rest := []) ⟨hx, hb, hml, hown, hts⟩ hK hP hA hS hZ (c_X12_begins_50_3 l D cI cL ad zz hJ σ τ h55_55) cw_RX12_379 (jc_55 cI cL ad σ τ) rfl ⟨Nat.le_of_ble_eq_true rfl, Nat.le_of_ble_eq_true rfl⟩ rfl rfl rfl hl.1 rfl (Nat.le_of_ble_eq_true rfl) dX12_putsAs_8 ⟨Nat.zero_le _, Nat.zero_le _⟩ (fun σ1 τ1 H locs h1 hP hS => ?_)
  obtain ⟨rfl, f3, f4, f5, m6, m7, h1⟩ := h1
  refine lv_aload_n hx hb dX12_putsAs_11 rfl (lv_at hl 0 rfl) ?_
  refine lv_iconst (v := 1) hx hb dX12_putsAs_12 (by decide) ?_
  refine lv_iload_n hx hb dX12_putsAs_13 rfl (lv_at hl 2 rfl) ?_
  refine lv_iconst (v := 1) hx hb dX12_putsAs_14 (by decide) ?_
  refine lv_iadd hx hb dX12_putsAs_15 ?_
  refine lv_topi (fun x8 ex8 => ?_)
  have gx8 := jrg (rfl : x8.toInt = x8.toInt)
  have z9 : (σ1 55 56).toInt = (σ 55 56).toInt := (congrArg Int32.toInt (show σ1 55 56 = (σ 55 56) from (f4 56 (by decide))))
  refine jcallV (As := [.int 1, .int x8]) (rest := []) ⟨hx, hb, hml, hown, hts⟩ hK hP hA hS hZ (c_X12_putsAs_4_1_4 l D cI cL ad zz hJ σ1 τ x8 (x8.toInt) rfl m6 (by omega)) cw_RX12_382 (jc_55 cI cL ad σ1 τ) rfl ⟨Nat.le_of_ble_eq_true rfl, Nat.le_of_ble_eq_true rfl⟩ rfl rfl rfl hl.1 rfl (Nat.le_of_ble_eq_true rfl) dX12_putsAs_16 ⟨Nat.zero_le _, Nat.zero_le _⟩ (fun r11 σ10 τ10 H locs h10 hP hS => ?_)
  obtain ⟨rfl, f12, f13, f14, m15, m16, m17, h10⟩ := h10
  have h18 := h10
  obtain ⟨q20, k19⟩ := h18
  have q20 := q20.symm
  subst q20
  have m21 : σ10 85 3 = 50 := ((f14 3 (by decide)).trans m7)
  exact hret ((x8 + (σ1 55 57)) + 3) σ10 τ _ _ _ _ rfl ⟨rfl, (fun i hi => ((f12 i hi).trans (f3 i hi))), (fun i hi => ((f13 i hi).trans (f4 i hi))), (fun i hi => ((f14 i (imp_323 i hi)).trans (f5 i (imp_355 i hi)))), m15, m21, m16, m17, ⟨(by rw [ex8, (show σ1 55 57 = σ 55 57 from (f4 57 (by decide)))]), trivial⟩⟩ hP hS dX12_putsAs_19
set_option maxHeartbeats 4000000 in
set_option maxRecDepth 100000 in
theorem c_X12_holdsAs_4_4_2 (l : Launch) (D : va_G) (cI cL : ClassId) (ad zz : Nat → Nat) (hJ : jD ad) (σ : Nat → Nat → Int32) (τ : Nat → Nat → Int64) (a2 : Int32) (A2 : Int) (t2 : a2.toInt = A2) (h55_55 : σ 55 55 = 2) (hp0 : (σ 55 56).toInt = 4) : jM l yX12_holdsAs cX12_holdsAs 4 (some .int) ({ frames := 4, cells := 0, slots := 0, locals := 87 }) D cI cL ad zz [.ref (ad 55), .int 4, .int a2] σ τ (fun r σ' τ' => τ = τ' ∧ (∀ i : Nat, (i < 55 ∨ 55 < i) ∧ (i < 85 ∨ 85 < i) → σ' i = σ i) ∧ (∀ k : Nat, (k < 55 ∨ 55 < k) → σ' 55 k = σ 55 k) ∧ (∀ k : Nat, (k < 2 ∨ 2 < k) ∧ (k < 3 ∨ 3 < k) ∧ (k < 4 ∨ 4 < k) ∧ (k < 5 ∨ 5 < k) → σ' 85 k = σ 85 k) ∧ (σ' 55 55 = 6) ∧ (σ' 85 2 = 10) ∧ (σ' 85 3 = 50) ∧ (σ' 85 4 = 20) ∧ (σ' 85 5 = 1) ∧ ((r = ((((a2 + 1) + (σ 55 57)) + 3) * 2) ∧ True))) := by
  refine jM.of hJ (by decide +kernel) (nt := .int) rfl (Nat.le_of_ble_eq_true rfl) ?_
  intro p e s m args below meth c Q ls hC hret hl hP
  obtain ⟨hx, hb, hr, hml, hown, hts, hK, -, hlocks, hZ⟩ := hC
  have hown : s.vm.findClass RX12 = some m.cls := hown
  have hS : va_S (jA ad) s.heap s.heap [] := va_S.rf
  have hA : ∀ q, jA ad q → jA ad q := fun _ h => h
  have hl : lv_has ls 4 [(0, .ref (ad 55)), (1, .int 4), (2, .int a2)] := hl
  have g2 := jrg t2
  refine lv_iload_n hx hb dX12_holdsAs_0 rfl (lv_at hl 1 rfl) ?_
  refine lv_iconst (v := 3) hx hb dX12_holdsAs_1 (by decide) ?_
  refine lv_icmp_eq (tgt := 10) hx hb dX12_holdsAs_2 (by decide) (fun c => absurd c (by decide)) (fun _ => ?_)
  refine lv_iload_n hx hb dX12_holdsAs_5 rfl (lv_at hl 1 rfl) ?_
  refine lv_iconst (v := 5) hx hb dX12_holdsAs_6 (by decide) ?_
  refine lv_icmp_ne (tgt := 24) hx hb dX12_holdsAs_7 (by decide) (fun _ => ?_) (fun c => absurd c (by decide))
  refine lv_iload_n hx hb dX12_holdsAs_24 rfl (lv_at hl 1 rfl) ?_
  refine lv_bipush (v := 6) hx hb dX12_holdsAs_25 (by decide) ?_
  refine lv_icmp_ne (tgt := 55) hx hb dX12_holdsAs_27 (by decide) (fun _ => ?_) (fun c => absurd c (by decide))
  refine lv_aload_n hx hb dX12_holdsAs_55 rfl (lv_at hl 0 rfl) ?_
  refine lv_bipush (v := 10) hx hb dX12_holdsAs_56 (by decide) ?_
  refine jcallVv (As := [.int 10]) (rest := []) ⟨hx, hb, hml, hown, hts⟩ hK hP hA hS hZ (c_X12_begins_10_2 l D cI cL ad zz hJ σ τ h55_55) cw_RX12_379 (jc_55 cI cL ad σ τ) rfl ⟨Nat.le_of_ble_eq_true rfl, Nat.le_of_ble_eq_true rfl⟩ rfl rfl rfl hl.1 rfl (Nat.le_of_ble_eq_true rfl) dX12_holdsAs_58 ⟨Nat.zero_le _, Nat.zero_le _⟩ (fun σ1 τ1 H locs h1 hP hS => ?_)
  obtain ⟨rfl, f3, f4, f5, m6, m7, h1⟩ := h1
  refine lv_aload_n hx hb dX12_holdsAs_61 rfl (lv_at hl 0 rfl) ?_
  refine lv_aload_n hx hb dX12_holdsAs_62 rfl (lv_at hl 0 rfl) ?_
  refine va_get (D := D) hx hb hts inlX12 hown hK hP 55 (jc_55 cI cL ad σ1 τ) rfl 56 (by decide) (hts _ kw_49_8) (fun _ h9 => h9) rfl dX12_holdsAs_63 ?_
  have m8 : σ1 55 56 = (σ 55 56) := (f4 56 (by decide))
  refine jtopr m8 ?_
  refine jtopr (jsame (rfl : (σ 55 56).toInt = (σ 55 56).toInt) jz_4 (by omega)) ?_
  refine lv_iload_n hx hb dX12_holdsAs_66 rfl (lv_at hl 2 rfl) ?_
  have z9 : (σ1 55 56).toInt = (σ 55 56).toInt := (congrArg Int32.toInt (show σ1 55 56 = (σ 55 56) from m8))
  refine jcallV (As := [.int 4, .int a2]) (rest := []) ⟨hx, hb, hml, hown, hts⟩ hK hP hA hS hZ (c_X12_putsAs_4_4_3 l D cI cL ad zz hJ σ1 τ a2 (A2) t2 m6 (by omega)) cw_RX12_382 (jc_55 cI cL ad σ1 τ) rfl ⟨Nat.le_of_ble_eq_true rfl, Nat.le_of_ble_eq_true rfl⟩ rfl rfl rfl hl.1 rfl (Nat.le_of_ble_eq_true rfl) dX12_holdsAs_67 ⟨Nat.zero_le _, Nat.zero_le _⟩ (fun r11 σ10 τ10 H locs h10 hP hS => ?_)
  obtain ⟨rfl, f12, f13, f14, m15, m16, m17, m18, h10⟩ := h10
  have h19 := h10
  obtain ⟨q21, k20⟩ := h19
  have q21 := q21.symm
  subst q21
  refine lv_iconst (v := 2) hx hb dX12_holdsAs_70 (by decide) ?_
  have g22 := jrg (rfl : (((a2 + 1) + (σ1 55 57)) + 3).toInt = (((a2 + 1) + (σ1 55 57)) + 3).toInt)
  refine lv_imul hx hb dX12_holdsAs_71 ?_
  refine lv_topi (fun x23 ex23 => ?_)
  have gx23 := jrg (rfl : x23.toInt = x23.toInt)
  have m24 : σ10 85 2 = 10 := ((f14 2 (by decide)).trans m7)
  exact hret x23 σ10 τ _ _ _ _ rfl ⟨rfl, (fun i hi => ((f12 i hi).trans (f3 i hi))), (fun i hi => ((f13 i hi).trans (f4 i hi))), (fun i hi => ((f14 i (imp_325 i hi)).trans (f5 i (imp_356 i hi)))), m15, m24, m16, m17, m18, ⟨(by rw [ex23, (show σ1 55 57 = σ 55 57 from (f4 57 (by decide)))]), trivial⟩⟩ hP hS dX12_holdsAs_72
set_option maxHeartbeats 4000000 in
set_option maxRecDepth 100000 in
theorem c_X12_begins_11_6 (l : Launch) (D : va_G) (cI cL : ClassId) (ad zz : Nat → Nat) (hJ : jD ad) (σ : Nat → Nat → Int32) (τ : Nat → Nat → Int64) (h55_55 : σ 55 55 = 6) : jMv l yX12_begins cX12_begins 2 none ({ frames := 0, cells := 0, slots := 0, locals := 0 }) D cI cL ad zz [.ref (ad 55), .int 11] σ τ (fun σ' τ' => τ = τ' ∧ (∀ i : Nat, (i < 55 ∨ 55 < i) ∧ (i < 85 ∨ 85 < i) → σ' i = σ i) ∧ (∀ k : Nat, (k < 55 ∨ 55 < k) → σ' 55 k = σ 55 k) ∧ (∀ k : Nat, (k < 6 ∨ 6 < k) → σ' 85 k = σ 85 k) ∧ (σ' 55 55 = 7) ∧ (σ' 85 6 = 11) ∧ True) := by
  refine jMv.of hJ (by decide +kernel) rfl (Nat.le_of_ble_eq_true rfl) ?_
  intro p e s m args below meth c Q ls hC hret hl hP
  obtain ⟨hx, hb, hr, hml, hown, hts, hK, -, hlocks, hZ⟩ := hC
  have hown : s.vm.findClass RX12 = some m.cls := hown
  have hS : va_S (jA ad) s.heap s.heap [] := va_S.rf
  have hA : ∀ q, jA ad q → jA ad q := fun _ h => h
  have hl : lv_has ls 2 [(0, .ref (ad 55)), (1, .int 11)] := hl
  refine lv_aload_n hx hb dX12_begins_0 rfl (lv_at hl 0 rfl) ?_
  refine va_get (D := D) hx hb hts inlX12 hown hK hP 55 (jc_55 cI cL ad σ τ) rfl 55 (by decide) (hts _ kw_49_7) (fun _ h9 => h9) rfl dX12_begins_1 ?_
  refine jtopr h55_55 ?_
  refine lv_bipush (v := 24) hx hb dX12_begins_4 (by decide) ?_
  refine lv_icmp_ge (tgt := 19) hx hb dX12_begins_6 (by decide) (fun c => absurd c (by decide)) (fun _ => ?_)
  refine lv_aload_n hx hb dX12_begins_9 rfl (lv_at hl 0 rfl) ?_
  refine va_get (D := D) hx hb hts inlX12 hown hK hP 55 (jc_55 cI cL ad σ τ) rfl 54 (by decide) (hts _ kw_8_10) (fun _ h9 => h9) rfl dX12_begins_10 ?_
  refine lv_aload_n hx hb dX12_begins_13 rfl (lv_at hl 0 rfl) ?_
  refine va_get (D := D) hx hb hts inlX12 hown hK hP 55 (jc_55 cI cL ad σ τ) rfl 55 (by decide) (hts _ kw_49_7) (fun _ h9 => h9) rfl dX12_begins_14 ?_
  refine jtopr h55_55 ?_
  refine lv_iload_n hx hb dX12_begins_17 rfl (lv_at hl 1 rfl) ?_
  refine jast hx hb hK hP hJ hA hS (jc_85 cI cL ad σ τ) (ja_85 cI cL ad σ τ _ _) (jin jz_6 (by omega) (by omega)) dX12_begins_18 (fun σ1 H locs eσ1 hP hS => ?_)
  have eσ1 : σ1 = jup σ 85 6 11 := eσ1
  refine lv_aload_n hx hb dX12_begins_19 rfl (lv_at hl 0 rfl) ?_
  refine lv_dup hx hb dX12_begins_20 rfl ?_
  refine va_get (D := D) hx hb hts inlX12 hown hK hP 55 (jc_55 cI cL ad σ1 τ) rfl 55 (by decide) (hts _ kw_49_7) (fun _ h9 => h9) rfl dX12_begins_21 ?_
  have m2 : σ1 55 55 = 6 := ((congrFun (jnp 55 eσ1 (by decide)) 55).trans h55_55)
  refine jtopr m2 ?_
  refine lv_iconst (v := 1) hx hb dX12_begins_24 (by decide) ?_
  refine lv_iadd hx hb dX12_begins_25 ?_
  refine jtopr (y := 7) (by decide) ?_
  refine jput (ty := .int) hx hb hts inlX12 tyX12 tyX12_ok nmX12 hown hK hP hJ hA hS (jc_55 cI cL ad σ1 τ) rfl (k := 55) (by decide) (Nat.le_of_ble_eq_true rfl) (jp_55_55 cI cL ad σ1 τ 7) (hts _ kw_49_7) (fun _ h9 => h9) rfl (by decide +kernel) rfl rfl dX12_begins_26 (fun σ3 H locs eσ3 hP hS => ?_)
  have m4 : σ3 55 55 = 7 := (jsp eσ3)
  have m5 : σ3 85 6 = 11 := ((congrFun (jnp 85 eσ3 (by decide)) 6).trans (jsp eσ1))
  exact hret σ3 τ _ _ _ _ ⟨rfl, (fun i hi => ((jnp i eσ3 (imp_345 i hi)).trans (jnp i eσ1 (imp_346 i hi)))), (fun i hi => ((jkp i eσ3 (imp_164 i hi)).trans (congrFun (jnp 55 eσ1 (by decide)) i))), (fun i hi => ((congrFun (jnp 85 eσ3 (by decide)) i).trans (jkp i eσ1 (imp_163 i hi)))), m4, m5, trivial⟩ hP hS dX12_begins_29
set_option maxHeartbeats 4000000 in
set_option maxRecDepth 100000 in
theorem c_X12_givesAs_4_4_6_x1 (l : Launch) (D : va_G) (cI cL : ClassId) (ad zz : Nat → Nat) (hJ : jD ad) (σ : Nat → Nat → Int32) (τ : Nat → Nat → Int64) (h55_55 : σ 55 55 = 6) (hp0 : (σ 55 56).toInt = 4) : jM l yX12_givesAs cX12_givesAs 4 (some .int) ({ frames := 1, cells := 0, slots := 0, locals := 21 }) D cI cL ad zz [.ref (ad 55), .int 4, .int 1] σ τ (fun r σ' τ' => τ = τ' ∧ (∀ i : Nat, (i < 55 ∨ 55 < i) ∧ (i < 85 ∨ 85 < i) → σ' i = σ i) ∧ (∀ k : Nat, (k < 55 ∨ 55 < k) → σ' 55 k = σ 55 k) ∧ (∀ k : Nat, (k < 6 ∨ 6 < k) → σ' 85 k = σ 85 k) ∧ (σ' 55 55 = 7) ∧ (σ' 85 6 = 11) ∧ ((r = (1 ^^^ (σ 55 57)) ∧ True))) := by
  refine jM.of hJ (by decide +kernel) (nt := .int) rfl (Nat.le_of_ble_eq_true rfl) ?_
  intro p e s m args below meth c Q ls hC hret hl hP
  obtain ⟨hx, hb, hr, hml, hown, hts, hK, -, hlocks, hZ⟩ := hC
  have hown : s.vm.findClass RX12 = some m.cls := hown
  have hS : va_S (jA ad) s.heap s.heap [] := va_S.rf
  have hA : ∀ q, jA ad q → jA ad q := fun _ h => h
  have hl : lv_has ls 4 [(0, .ref (ad 55)), (1, .int 4), (2, .int 1)] := hl
  refine lv_iload_n hx hb dX12_givesAs_0 rfl (lv_at hl 1 rfl) ?_
  refine lv_iconst (v := 5) hx hb dX12_givesAs_1 (by decide) ?_
  refine lv_icmp_ne (tgt := 30) hx hb dX12_givesAs_2 (by decide) (fun _ => ?_) (fun c => absurd c (by decide))
  refine lv_iload_n hx hb dX12_givesAs_30 rfl (lv_at hl 1 rfl) ?_
  refine lv_iconst (v := 2) hx hb dX12_givesAs_31 (by decide) ?_
  refine lv_icmp_eq (tgt := 40) hx hb dX12_givesAs_32 (by decide) (fun c => absurd c (by decide)) (fun _ => ?_)
  refine lv_iload_n hx hb dX12_givesAs_35 rfl (lv_at hl 1 rfl) ?_
  refine lv_iconst (v := 3) hx hb dX12_givesAs_36 (by decide) ?_
  refine lv_icmp_ne (tgt := 55) hx hb dX12_givesAs_37 (by decide) (fun _ => ?_) (fun c => absurd c (by decide))
  refine lv_aload_n hx hb dX12_givesAs_55 rfl (lv_at hl 0 rfl) ?_
  refine lv_bipush (v := 11) hx hb dX12_givesAs_56 (by decide) ?_
  refine jcallVv (As := [.int 11]) (rest := []) ⟨hx, hb, hml, hown, hts⟩ hK hP hA hS hZ (c_X12_begins_11_6 l D cI cL ad zz hJ σ τ h55_55) cw_RX12_379 (jc_55 cI cL ad σ τ) rfl ⟨Nat.le_of_ble_eq_true rfl, Nat.le_of_ble_eq_true rfl⟩ rfl rfl rfl hl.1 rfl (Nat.le_of_ble_eq_true rfl) dX12_givesAs_58 ⟨Nat.zero_le _, Nat.zero_le _⟩ (fun σ1 τ1 H locs h1 hP hS => ?_)
  obtain ⟨rfl, f3, f4, f5, m6, m7, h1⟩ := h1
  refine lv_iload_n hx hb dX12_givesAs_61 rfl (lv_at hl 2 rfl) ?_
  refine lv_aload_n hx hb dX12_givesAs_62 rfl (lv_at hl 0 rfl) ?_
  refine va_get (D := D) hx hb hts inlX12 hown hK hP 55 (jc_55 cI cL ad σ1 τ) rfl 57 (by decide) (hts _ kw_49_9) (fun _ h9 => h9) rfl dX12_givesAs_63 ?_
  have m8 : σ1 55 57 = (σ 55 57) := (f4 57 (by decide))
  refine jtopr m8 ?_
  refine lv_ixor hx hb dX12_givesAs_66 ?_
  refine lv_topi (fun x9 ex9 => ?_)
  have gx9 := jrg (rfl : x9.toInt = x9.toInt)
  exact hret x9 σ1 τ _ _ _ _ rfl ⟨rfl, (fun i hi => (f3 i hi)), (fun i hi => (f4 i hi)), (fun i hi => (f5 i hi)), m6, m7, ⟨(by rw [ex9]), trivial⟩⟩ hP hS dX12_givesAs_67
set_option maxHeartbeats 4000000 in
set_option maxRecDepth 100000 in
theorem c_X12_tellsAs_4_1_1 (l : Launch) (D : va_G) (cI cL : ClassId) (ad zz : Nat → Nat) (hJ : jD ad) (σ : Nat → Nat → Int32) (τ : Nat → Nat → Int64) (a2 : Int32) (A2 : Int) (t2 : a2.toInt = A2) (h55_55 : σ 55 55 = 1) (hp0 : (σ 55 56).toInt = 4) : jM l yX12_tellsAs cX12_tellsAs 4 (some .int) ({ frames := 5, cells := 0, slots := 0, locals := 110 }) D cI cL ad zz [.ref (ad 55), .int 1, .int a2] σ τ (fun r σ' τ' => τ = τ' ∧ (∀ i : Nat, (i < 55 ∨ 55 < i) ∧ (i < 85 ∨ 85 < i) → σ' i = σ i) ∧ (∀ k : Nat, (k < 55 ∨ 55 < k) → σ' 55 k = σ 55 k) ∧ (∀ k : Nat, (k < 1 ∨ 1 < k) ∧ (k < 2 ∨ 2 < k) ∧ (k < 3 ∨ 3 < k) ∧ (k < 4 ∨ 4 < k) ∧ (k < 5 ∨ 5 < k) ∧ (k < 6 ∨ 6 < k) → σ' 85 k = σ 85 k) ∧ (σ' 55 55 = 7) ∧ (σ' 85 1 = 2) ∧ (σ' 85 2 = 10) ∧ (σ' 85 3 = 50) ∧ (σ' 85 4 = 20) ∧ (σ' 85 5 = 1) ∧ (σ' 85 6 = 11) ∧ ((r = (((((a2 + 1) + (σ 55 57)) + 3) * 2) - (1 ^^^ (σ 55 57))) ∧ True))) := by
  refine jM.of hJ (by decide +kernel) (nt := .int) rfl (Nat.le_of_ble_eq_true rfl) ?_
  intro p e s m args below meth c Q ls hC hret hl hP
  obtain ⟨hx, hb, hr, hml, hown, hts, hK, -, hlocks, hZ⟩ := hC
  have hown : s.vm.findClass RX12 = some m.cls := hown
  have hS : va_S (jA ad) s.heap s.heap [] := va_S.rf
  have hA : ∀ q, jA ad q → jA ad q := fun _ h => h
  have hl : lv_has ls 4 [(0, .ref (ad 55)), (1, .int 1), (2, .int a2)] := hl
  have g2 := jrg t2
  refine lv_iload_n hx hb dX12_tellsAs_0 rfl (lv_at hl 1 rfl) ?_
  refine lv_iconst (v := 4) hx hb dX12_tellsAs_1 (by decide) ?_
  refine lv_icmp_ne (tgt := 20) hx hb dX12_tellsAs_2 (by decide) (fun _ => ?_) (fun c => absurd c (by decide))
  refine lv_aload_n hx hb dX12_tellsAs_20 rfl (lv_at hl 0 rfl) ?_
  refine lv_iconst (v := 2) hx hb dX12_tellsAs_21 (by decide) ?_
  refine jcallVv (As := [.int 2]) (rest := []) ⟨hx, hb, hml, hown, hts⟩ hK hP hA hS hZ (c_X12_begins_2_1 l D cI cL ad zz hJ σ τ h55_55) cw_RX12_379 (jc_55 cI cL ad σ τ) rfl ⟨Nat.le_of_ble_eq_true rfl, Nat.le_of_ble_eq_true rfl⟩ rfl rfl rfl hl.1 rfl (Nat.le_of_ble_eq_true rfl) dX12_tellsAs_22 ⟨Nat.zero_le _, Nat.zero_le _⟩ (fun σ1 τ1 H locs h1 hP hS => ?_)
  obtain ⟨rfl, f3, f4, f5, m6, m7, h1⟩ := h1
  refine lv_aload_n hx hb dX12_tellsAs_25 rfl (lv_at hl 0 rfl) ?_
  refine lv_aload_n hx hb dX12_tellsAs_26 rfl (lv_at hl 0 rfl) ?_
  refine va_get (D := D) hx hb hts inlX12 hown hK hP 55 (jc_55 cI cL ad σ1 τ) rfl 56 (by decide) (hts _ kw_49_8) (fun _ h9 => h9) rfl dX12_tellsAs_27 ?_
  have m8 : σ1 55 56 = (σ 55 56) := (f4 56 (by decide))
  refine jtopr m8 ?_
  refine jtopr (jsame (rfl : (σ 55 56).toInt = (σ 55 56).toInt) jz_4 (by omega)) ?_
  refine lv_iload_n hx hb dX12_tellsAs_30 rfl (lv_at hl 2 rfl) ?_
  have z9 : (σ1 55 56).toInt = (σ 55 56).toInt := (congrArg Int32.toInt (show σ1 55 56 = (σ 55 56) from m8))
  refine jcallV (As := [.int 4, .int a2]) (rest := []) ⟨hx, hb, hml, hown, hts⟩ hK hP hA hS hZ (c_X12_holdsAs_4_4_2 l D cI cL ad zz hJ σ1 τ a2 (A2) t2 m6 (by omega)) cw_RX12_388 (jc_55 cI cL ad σ1 τ) rfl ⟨Nat.le_of_ble_eq_true rfl, Nat.le_of_ble_eq_true rfl⟩ rfl rfl rfl hl.1 rfl (Nat.le_of_ble_eq_true rfl) dX12_tellsAs_31 ⟨Nat.zero_le _, Nat.zero_le _⟩ (fun r11 σ10 τ10 H locs h10 hP hS => ?_)
  obtain ⟨rfl, f12, f13, f14, m15, m16, m17, m18, m19, h10⟩ := h10
  have h20 := h10
  obtain ⟨q22, k21⟩ := h20
  have q22 := q22.symm
  subst q22
  refine lv_istore_n (lv' := [(3, .int ((((a2 + 1) + (σ1 55 57)) + 3) * 2)), (0, .ref (ad 55)), (1, .int 1), (2, .int a2)]) hx hb dX12_tellsAs_34 rfl hl (by decide) rfl (fun ls hl => ?_)
  refine lv_iload_n hx hb dX12_tellsAs_35 rfl (lv_at hl 0 rfl) ?_
  refine lv_aload_n hx hb dX12_tellsAs_36 rfl (lv_at hl 1 rfl) ?_
  refine lv_aload_n hx hb dX12_tellsAs_37 rfl (lv_at hl 1 rfl) ?_
  refine va_get (D := D) hx hb hts inlX12 hown hK hP 55 (jc_55 cI cL ad σ10 τ) rfl 56 (by decide) (hts _ kw_49_8) (fun _ h9 => h9) rfl dX12_tellsAs_38 ?_
  have m23 : σ10 55 56 = (σ 55 56) := ((f13 56 (by decide)).trans m8)
  refine jtopr m23 ?_
  refine jtopr (jsame (rfl : (σ 55 56).toInt = (σ 55 56).toInt) jz_4 (by omega)) ?_
  refine lv_iconst (v := 1) hx hb dX12_tellsAs_41 (by decide) ?_
  have z24 : (σ10 55 56).toInt = (σ 55 56).toInt := (congrArg Int32.toInt (show σ10 55 56 = (σ 55 56) from m23))
  refine jcallV (As := [.int 4, .int 1]) (rest := [.int ((((a2 + 1) + (σ1 55 57)) + 3) * 2)]) ⟨hx, hb, hml, hown, hts⟩ hK hP hA hS hZ (c_X12_givesAs_4_4_6_x1 l D cI cL ad zz hJ σ10 τ m15 (by omega)) cw_RX12_394 (jc_55 cI cL ad σ10 τ) rfl ⟨Nat.le_of_ble_eq_true rfl, Nat.le_of_ble_eq_true rfl⟩ rfl rfl rfl hl.1 rfl (Nat.le_of_ble_eq_true rfl) dX12_tellsAs_42 ⟨Nat.zero_le _, Nat.zero_le _⟩ (fun r26 σ25 τ25 H locs h25 hP hS => ?_)
  obtain ⟨rfl, f27, f28, f29, m30, m31, h25⟩ := h25
  have h32 := h25
  obtain ⟨q34, k33⟩ := h32
  have q34 := q34.symm
  subst q34
  have g35 := jrg (rfl : ((((a2 + 1) + (σ1 55 57)) + 3) * 2).toInt = ((((a2 + 1) + (σ1 55 57)) + 3) * 2).toInt)
  have g36 := jrg (rfl : (1 ^^^ (σ10 55 57)).toInt = (1 ^^^ (σ10 55 57)).toInt)
  refine lv_isub hx hb dX12_tellsAs_45 ?_
  refine lv_topi (fun x37 ex37 => ?_)
  have gx37 := jrg (rfl : x37.toInt = x37.toInt)
  have m38 : σ25 85 1 = 2 := ((f29 1 (by decide)).trans ((f14 1 (by decide)).trans m7))
  have m39 : σ25 85 2 = 10 := ((f29 2 (by decide)).trans m16)
  have m40 : σ25 85 3 = 50 := ((f29 3 (by decide)).trans m17)
  have m41 : σ25 85 4 = 20 := ((f29 4 (by decide)).trans m18)
  have m42 : σ25 85 5 = 1 := ((f29 5 (by decide)).trans m19)
  exact hret x37 σ25 τ _ _ _ _ rfl ⟨rfl, (fun i hi => ((f27 i hi).trans ((f12 i hi).trans (f3 i hi)))), (fun i hi => ((f28 i hi).trans ((f13 i hi).trans (f4 i hi)))), (fun i hi => ((f29 i (imp_327 i hi)).trans ((f14 i (imp_328 i hi)).trans (f5 i (imp_357 i hi))))), m30, m38, m39, m40, m41, m42, m31, ⟨(by rw [ex37, (show σ1 55 57 = σ 55 57 from (f4 57 (by decide))), (show σ10 55 57 = σ 55 57 from ((f13 57 (by decide)).trans (f4 57 (by decide))))]), trivial⟩⟩ hP hS dX12_tellsAs_46
set_option maxHeartbeats 4000000 in
set_option maxRecDepth 100000 in
theorem c_X12_tellsAs_4_4_0 (l : Launch) (D : va_G) (cI cL : ClassId) (ad zz : Nat → Nat) (hJ : jD ad) (σ : Nat → Nat → Int32) (τ : Nat → Nat → Int64) (a2 : Int32) (A2 : Int) (t2 : a2.toInt = A2) (h55_55 : σ 55 55 = 0) (hp0 : (σ 55 56).toInt = 4) : jM l yX12_tellsAs cX12_tellsAs 4 (some .int) ({ frames := 6, cells := 0, slots := 0, locals := 133 }) D cI cL ad zz [.ref (ad 55), .int 4, .int a2] σ τ (fun r σ' τ' => τ = τ' ∧ (∀ i : Nat, (i < 55 ∨ 55 < i) ∧ (i < 85 ∨ 85 < i) → σ' i = σ i) ∧ (∀ k : Nat, (k < 55 ∨ 55 < k) → σ' 55 k = σ 55 k) ∧ (∀ k : Nat, (k < 0 ∨ 0 < k) ∧ (k < 1 ∨ 1 < k) ∧ (k < 2 ∨ 2 < k) ∧ (k < 3 ∨ 3 < k) ∧ (k < 4 ∨ 4 < k) ∧ (k < 5 ∨ 5 < k) ∧ (k < 6 ∨ 6 < k) → σ' 85 k = σ 85 k) ∧ (σ' 55 55 = 7) ∧ (σ' 85 0 = 51) ∧ (σ' 85 1 = 2) ∧ (σ' 85 2 = 10) ∧ (σ' 85 3 = 50) ∧ (σ' 85 4 = 20) ∧ (σ' 85 5 = 1) ∧ (σ' 85 6 = 11) ∧ ((r = ((((((a2 + 1) + (σ 55 57)) + 3) * 2) - (1 ^^^ (σ 55 57))) ^^^ 5) ∧ True))) := by
  refine jM.of hJ (by decide +kernel) (nt := .int) rfl (Nat.le_of_ble_eq_true rfl) ?_
  intro p e s m args below meth c Q ls hC hret hl hP
  obtain ⟨hx, hb, hr, hml, hown, hts, hK, -, hlocks, hZ⟩ := hC
  have hown : s.vm.findClass RX12 = some m.cls := hown
  have hS : va_S (jA ad) s.heap s.heap [] := va_S.rf
  have hA : ∀ q, jA ad q → jA ad q := fun _ h => h
  have hl : lv_has ls 4 [(0, .ref (ad 55)), (1, .int 4), (2, .int a2)] := hl
  have g2 := jrg t2
  refine lv_iload_n hx hb dX12_tellsAs_0 rfl (lv_at hl 1 rfl) ?_
  refine lv_iconst (v := 4) hx hb dX12_tellsAs_1 (by decide) ?_
  refine lv_icmp_ne (tgt := 20) hx hb dX12_tellsAs_2 (by decide) (fun c => absurd (by decide) c) (fun _ => ?_)
  refine lv_aload_n hx hb dX12_tellsAs_5 rfl (lv_at hl 0 rfl) ?_
  refine lv_bipush (v := 51) hx hb dX12_tellsAs_6 (by decide) ?_
  refine jcallVv (As := [.int 51]) (rest := []) ⟨hx, hb, hml, hown, hts⟩ hK hP hA hS hZ (c_X12_begins_51_0 l D cI cL ad zz hJ σ τ h55_55) cw_RX12_379 (jc_55 cI cL ad σ τ) rfl ⟨Nat.le_of_ble_eq_true rfl, Nat.le_of_ble_eq_true rfl⟩ rfl rfl rfl hl.1 rfl (Nat.le_of_ble_eq_true rfl) dX12_tellsAs_8 ⟨Nat.zero_le _, Nat.zero_le _⟩ (fun σ1 τ1 H locs h1 hP hS => ?_)
  obtain ⟨rfl, f3, f4, f5, m6, m7, h1⟩ := h1
  refine lv_aload_n hx hb dX12_tellsAs_11 rfl (lv_at hl 0 rfl) ?_
  refine lv_iconst (v := 1) hx hb dX12_tellsAs_12 (by decide) ?_
  refine lv_iload_n hx hb dX12_tellsAs_13 rfl (lv_at hl 2 rfl) ?_
  have z8 : (σ1 55 56).toInt = (σ 55 56).toInt := (congrArg Int32.toInt (show σ1 55 56 = (σ 55 56) from (f4 56 (by decide))))
  refine jcallV (As := [.int 1, .int a2]) (rest := []) ⟨hx, hb, hml, hown, hts⟩ hK hP hA hS hZ (c_X12_tellsAs_4_1_1 l D cI cL ad zz hJ σ1 τ a2 (A2) t2 m6 (by omega)) cw_RX12_397 (jc_55 cI cL ad σ1 τ) rfl ⟨Nat.le_of_ble_eq_true rfl, Nat.le_of_ble_eq_true rfl⟩ rfl rfl rfl hl.1 rfl (Nat.le_of_ble_eq_true rfl) dX12_tellsAs_14 ⟨Nat.zero_le _, Nat.zero_le _⟩ (fun r10 σ9 τ9 H locs h9 hP hS => ?_)
  obtain ⟨rfl, f11, f12, f13, m14, m15, m16, m17, m18, m19, m20, h9⟩ := h9
  have h21 := h9
  obtain ⟨q23, k22⟩ := h21
  have q23 := q23.symm
  subst q23
  refine lv_iconst (v := 5) hx hb dX12_tellsAs_17 (by decide) ?_
  refine lv_ixor hx hb dX12_tellsAs_18 ?_
  refine lv_topi (fun x24 ex24 => ?_)
  have gx24 := jrg (rfl : x24.toInt = x24.toInt)
  have m25 : σ9 85 0 = 51 := ((f13 0 (by decide)).trans m7)
  exact hret x24 σ9 τ _ _ _ _ rfl ⟨rfl, (fun i hi => ((f11 i hi).trans (f3 i hi))), (fun i hi => ((f12 i hi).trans (f4 i hi))), (fun i hi => ((f13 i (imp_330 i hi)).trans (f5 i (imp_358 i hi)))), m14, m25, m15, m16, m17, m18, m19, m20, ⟨(by rw [ex24, (show σ1 55 57 = σ 55 57 from (f4 57 (by decide)))]), trivial⟩⟩ hP hS dX12_tellsAs_19
set_option maxHeartbeats 4000000 in
set_option maxRecDepth 100000 in
theorem c_X12_putsAs_5_5_0 (l : Launch) (D : va_G) (cI cL : ClassId) (ad zz : Nat → Nat) (hJ : jD ad) (σ : Nat → Nat → Int32) (τ : Nat → Nat → Int64) (a2 : Int32) (A2 : Int) (t2 : a2.toInt = A2) (h55_55 : σ 55 55 = 0) (hp0 : (σ 55 56).toInt = 5) : jM l yX12_putsAs cX12_putsAs 3 (some .int) ({ frames := 1, cells := 0, slots := 0, locals := 21 }) D cI cL ad zz [.ref (ad 55), .int 5, .int a2] σ τ (fun r σ' τ' => τ = τ' ∧ (∀ i : Nat, (i < 55 ∨ 55 < i) ∧ (i < 85 ∨ 85 < i) → σ' i = σ i) ∧ (∀ k : Nat, (k < 55 ∨ 55 < k) → σ' 55 k = σ 55 k) ∧ (∀ k : Nat, (k < 0 ∨ 0 < k) → σ' 85 k = σ 85 k) ∧ (σ' 55 55 = 1) ∧ (σ' 85 0 = 1) ∧ ((r = (a2 + (σ 55 57)) ∧ True))) := by
  refine jM.of hJ (by decide +kernel) (nt := .int) rfl (Nat.le_of_ble_eq_true rfl) ?_
  intro p e s m args below meth c Q ls hC hret hl hP
  obtain ⟨hx, hb, hr, hml, hown, hts, hK, -, hlocks, hZ⟩ := hC
  have hown : s.vm.findClass RX12 = some m.cls := hown
  have hS : va_S (jA ad) s.heap s.heap [] := va_S.rf
  have hA : ∀ q, jA ad q → jA ad q := fun _ h => h
  have hl : lv_has ls 3 [(0, .ref (ad 55)), (1, .int 5), (2, .int a2)] := hl
  have g2 := jrg t2
  refine lv_iload_n hx hb dX12_putsAs_0 rfl (lv_at hl 1 rfl) ?_
  refine lv_iconst (v := 4) hx hb dX12_putsAs_1 (by decide) ?_
  refine lv_icmp_ne (tgt := 20) hx hb dX12_putsAs_2 (by decide) (fun _ => ?_) (fun c => absurd c (by decide))
  refine lv_iload_n hx hb dX12_putsAs_20 rfl (lv_at hl 1 rfl) ?_
  refine lv_iconst (v := 1) hx hb dX12_putsAs_21 (by decide) ?_
  refine lv_icmp_ne (tgt := 40) hx hb dX12_putsAs_22 (by decide) (fun _ => ?_) (fun c => absurd c (by decide))
  refine lv_aload_n hx hb dX12_putsAs_40 rfl (lv_at hl 0 rfl) ?_
  refine lv_iconst (v := 1) hx hb dX12_putsAs_41 (by decide) ?_
  refine jcallVv (As := [.int 1]) (rest := []) ⟨hx, hb, hml, hown, hts⟩ hK hP hA hS hZ (c_X12_begins_1_0 l D cI cL ad zz hJ σ τ h55_55) cw_RX12_379 (jc_55 cI cL ad σ τ) rfl ⟨Nat.le_of_ble_eq_true rfl, Nat.le_of_ble_eq_true rfl⟩ rfl rfl rfl hl.1 rfl (Nat.le_of_ble_eq_true rfl) dX12_putsAs_42 ⟨Nat.zero_le _, Nat.zero_le _⟩ (fun σ1 τ1 H locs h1 hP hS => ?_)
  obtain ⟨rfl, f3, f4, f5, m6, m7, h1⟩ := h1
  refine lv_iload_n hx hb dX12_putsAs_45 rfl (lv_at hl 2 rfl) ?_
  refine lv_aload_n hx hb dX12_putsAs_46 rfl (lv_at hl 0 rfl) ?_
  refine va_get (D := D) hx hb hts inlX12 hown hK hP 55 (jc_55 cI cL ad σ1 τ) rfl 57 (by decide) (hts _ kw_49_9) (fun _ h9 => h9) rfl dX12_putsAs_47 ?_
  have m8 : σ1 55 57 = (σ 55 57) := (f4 57 (by decide))
  refine jtopr m8 ?_
  have g9 := jrg (rfl : (σ 55 57).toInt = (σ 55 57).toInt)
  refine lv_iadd hx hb dX12_putsAs_50 ?_
  refine lv_topi (fun x10 ex10 => ?_)
  have gx10 := jrg (rfl : x10.toInt = x10.toInt)
  exact hret x10 σ1 τ _ _ _ _ rfl ⟨rfl, (fun i hi => (f3 i hi)), (fun i hi => (f4 i hi)), (fun i hi => (f5 i hi)), m6, m7, ⟨(by rw [ex10]), trivial⟩⟩ hP hS dX12_putsAs_51
set_option maxHeartbeats 4000000 in
set_option maxRecDepth 100000 in
theorem c_X12_putsAs_5_5_2 (l : Launch) (D : va_G) (cI cL : ClassId) (ad zz : Nat → Nat) (hJ : jD ad) (σ : Nat → Nat → Int32) (τ : Nat → Nat → Int64) (a2 : Int32) (A2 : Int) (t2 : a2.toInt = A2) (h55_55 : σ 55 55 = 2) (hp0 : (σ 55 56).toInt = 5) : jM l yX12_putsAs cX12_putsAs 3 (some .int) ({ frames := 1, cells := 0, slots := 0, locals := 21 }) D cI cL ad zz [.ref (ad 55), .int 5, .int a2] σ τ (fun r σ' τ' => τ = τ' ∧ (∀ i : Nat, (i < 55 ∨ 55 < i) ∧ (i < 85 ∨ 85 < i) → σ' i = σ i) ∧ (∀ k : Nat, (k < 55 ∨ 55 < k) → σ' 55 k = σ 55 k) ∧ (∀ k : Nat, (k < 2 ∨ 2 < k) → σ' 85 k = σ 85 k) ∧ (σ' 55 55 = 3) ∧ (σ' 85 2 = 1) ∧ ((r = (a2 + (σ 55 57)) ∧ True))) := by
  refine jM.of hJ (by decide +kernel) (nt := .int) rfl (Nat.le_of_ble_eq_true rfl) ?_
  intro p e s m args below meth c Q ls hC hret hl hP
  obtain ⟨hx, hb, hr, hml, hown, hts, hK, -, hlocks, hZ⟩ := hC
  have hown : s.vm.findClass RX12 = some m.cls := hown
  have hS : va_S (jA ad) s.heap s.heap [] := va_S.rf
  have hA : ∀ q, jA ad q → jA ad q := fun _ h => h
  have hl : lv_has ls 3 [(0, .ref (ad 55)), (1, .int 5), (2, .int a2)] := hl
  have g2 := jrg t2
  refine lv_iload_n hx hb dX12_putsAs_0 rfl (lv_at hl 1 rfl) ?_
  refine lv_iconst (v := 4) hx hb dX12_putsAs_1 (by decide) ?_
  refine lv_icmp_ne (tgt := 20) hx hb dX12_putsAs_2 (by decide) (fun _ => ?_) (fun c => absurd c (by decide))
  refine lv_iload_n hx hb dX12_putsAs_20 rfl (lv_at hl 1 rfl) ?_
  refine lv_iconst (v := 1) hx hb dX12_putsAs_21 (by decide) ?_
  refine lv_icmp_ne (tgt := 40) hx hb dX12_putsAs_22 (by decide) (fun _ => ?_) (fun c => absurd c (by decide))
  refine lv_aload_n hx hb dX12_putsAs_40 rfl (lv_at hl 0 rfl) ?_
  refine lv_iconst (v := 1) hx hb dX12_putsAs_41 (by decide) ?_
  refine jcallVv (As := [.int 1]) (rest := []) ⟨hx, hb, hml, hown, hts⟩ hK hP hA hS hZ (c_X12_begins_1_2 l D cI cL ad zz hJ σ τ h55_55) cw_RX12_379 (jc_55 cI cL ad σ τ) rfl ⟨Nat.le_of_ble_eq_true rfl, Nat.le_of_ble_eq_true rfl⟩ rfl rfl rfl hl.1 rfl (Nat.le_of_ble_eq_true rfl) dX12_putsAs_42 ⟨Nat.zero_le _, Nat.zero_le _⟩ (fun σ1 τ1 H locs h1 hP hS => ?_)
  obtain ⟨rfl, f3, f4, f5, m6, m7, h1⟩ := h1
  refine lv_iload_n hx hb dX12_putsAs_45 rfl (lv_at hl 2 rfl) ?_
  refine lv_aload_n hx hb dX12_putsAs_46 rfl (lv_at hl 0 rfl) ?_
  refine va_get (D := D) hx hb hts inlX12 hown hK hP 55 (jc_55 cI cL ad σ1 τ) rfl 57 (by decide) (hts _ kw_49_9) (fun _ h9 => h9) rfl dX12_putsAs_47 ?_
  have m8 : σ1 55 57 = (σ 55 57) := (f4 57 (by decide))
  refine jtopr m8 ?_
  have g9 := jrg (rfl : (σ 55 57).toInt = (σ 55 57).toInt)
  refine lv_iadd hx hb dX12_putsAs_50 ?_
  refine lv_topi (fun x10 ex10 => ?_)
  have gx10 := jrg (rfl : x10.toInt = x10.toInt)
  exact hret x10 σ1 τ _ _ _ _ rfl ⟨rfl, (fun i hi => (f3 i hi)), (fun i hi => (f4 i hi)), (fun i hi => (f5 i hi)), m6, m7, ⟨(by rw [ex10]), trivial⟩⟩ hP hS dX12_putsAs_51
set_option maxHeartbeats 4000000 in
set_option maxRecDepth 100000 in
theorem c_X12_holdsAs_5_0_1 (l : Launch) (D : va_G) (cI cL : ClassId) (ad zz : Nat → Nat) (hJ : jD ad) (σ : Nat → Nat → Int32) (τ : Nat → Nat → Int64) (a2 : Int32) (A2 : Int) (t2 : a2.toInt = A2) (h55_55 : σ 55 55 = 1) (hp0 : (σ 55 56).toInt = 5) : jM l yX12_holdsAs cX12_holdsAs 4 (some .int) ({ frames := 2, cells := 0, slots := 0, locals := 43 }) D cI cL ad zz [.ref (ad 55), .int 0, .int a2] σ τ (fun r σ' τ' => τ = τ' ∧ (∀ i : Nat, (i < 55 ∨ 55 < i) ∧ (i < 85 ∨ 85 < i) → σ' i = σ i) ∧ (∀ k : Nat, (k < 55 ∨ 55 < k) → σ' 55 k = σ 55 k) ∧ (∀ k : Nat, (k < 1 ∨ 1 < k) ∧ (k < 2 ∨ 2 < k) → σ' 85 k = σ 85 k) ∧ (σ' 55 55 = 3) ∧ (σ' 85 1 = 10) ∧ (σ' 85 2 = 1) ∧ ((r = ((a2 + (σ 55 57)) * 2) ∧ True))) := by
  refine jM.of hJ (by decide +kernel) (nt := .int) rfl (Nat.le_of_ble_eq_true rfl) ?_
  intro p e s m args below meth c Q ls hC hret hl hP
  obtain ⟨hx, hb, hr, hml, hown, hts, hK, -, hlocks, hZ⟩ := hC
  have hown : s.vm.findClass RX12 = some m.cls := hown
  have hS : va_S (jA ad) s.heap s.heap [] := va_S.rf
  have hA : ∀ q, jA ad q → jA ad q := fun _ h => h
  have hl : lv_has ls 4 [(0, .ref (ad 55)), (1, .int 0), (2, .int a2)] := hl
  have g2 := jrg t2
  refine lv_iload_n hx hb dX12_holdsAs_0 rfl (lv_at hl 1 rfl) ?_
  refine lv_iconst (v := 3) hx hb dX12_holdsAs_1 (by decide) ?_
  refine lv_icmp_eq (tgt := 10) hx hb dX12_holdsAs_2 (by decide) (fun c => absurd c (by decide)) (fun _ => ?_)
  refine lv_iload_n hx hb dX12_holdsAs_5 rfl (lv_at hl 1 rfl) ?_
  refine lv_iconst (v := 5) hx hb dX12_holdsAs_6 (by decide) ?_
  refine lv_icmp_ne (tgt := 24) hx hb dX12_holdsAs_7 (by decide) (fun _ => ?_) (fun c => absurd c (by decide))
  refine lv_iload_n hx hb dX12_holdsAs_24 rfl (lv_at hl 1 rfl) ?_
  refine lv_bipush (v := 6) hx hb dX12_holdsAs_25 (by decide) ?_
  refine lv_icmp_ne (tgt := 55) hx hb dX12_holdsAs_27 (by decide) (fun _ => ?_) (fun c => absurd c (by decide))
  refine lv_aload_n hx hb dX12_holdsAs_55 rfl (lv_at hl 0 rfl) ?_
  refine lv_bipush (v := 10) hx hb dX12_holdsAs_56 (by decide) ?_
  refine jcallVv (As := [.int 10]) (rest := []) ⟨hx, hb, hml, hown, hts⟩ hK hP hA hS hZ (c_X12_begins_10_1 l D cI cL ad zz hJ σ τ h55_55) cw_RX12_379 (jc_55 cI cL ad σ τ) rfl ⟨Nat.le_of_ble_eq_true rfl, Nat.le_of_ble_eq_true rfl⟩ rfl rfl rfl hl.1 rfl (Nat.le_of_ble_eq_true rfl) dX12_holdsAs_58 ⟨Nat.zero_le _, Nat.zero_le _⟩ (fun σ1 τ1 H locs h1 hP hS => ?_)
  obtain ⟨rfl, f3, f4, f5, m6, m7, h1⟩ := h1
  refine lv_aload_n hx hb dX12_holdsAs_61 rfl (lv_at hl 0 rfl) ?_
  refine lv_aload_n hx hb dX12_holdsAs_62 rfl (lv_at hl 0 rfl) ?_
  refine va_get (D := D) hx hb hts inlX12 hown hK hP 55 (jc_55 cI cL ad σ1 τ) rfl 56 (by decide) (hts _ kw_49_8) (fun _ h9 => h9) rfl dX12_holdsAs_63 ?_
  have m8 : σ1 55 56 = (σ 55 56) := (f4 56 (by decide))
  refine jtopr m8 ?_
  refine jtopr (jsame (rfl : (σ 55 56).toInt = (σ 55 56).toInt) jz_5 (by omega)) ?_
  refine lv_iload_n hx hb dX12_holdsAs_66 rfl (lv_at hl 2 rfl) ?_
  have z9 : (σ1 55 56).toInt = (σ 55 56).toInt := (congrArg Int32.toInt (show σ1 55 56 = (σ 55 56) from m8))
  refine jcallV (As := [.int 5, .int a2]) (rest := []) ⟨hx, hb, hml, hown, hts⟩ hK hP hA hS hZ (c_X12_putsAs_5_5_2 l D cI cL ad zz hJ σ1 τ a2 (A2) t2 m6 (by omega)) cw_RX12_382 (jc_55 cI cL ad σ1 τ) rfl ⟨Nat.le_of_ble_eq_true rfl, Nat.le_of_ble_eq_true rfl⟩ rfl rfl rfl hl.1 rfl (Nat.le_of_ble_eq_true rfl) dX12_holdsAs_67 ⟨Nat.zero_le _, Nat.zero_le _⟩ (fun r11 σ10 τ10 H locs h10 hP hS => ?_)
  obtain ⟨rfl, f12, f13, f14, m15, m16, h10⟩ := h10
  have h17 := h10
  obtain ⟨q19, k18⟩ := h17
  have q19 := q19.symm
  subst q19
  refine lv_iconst (v := 2) hx hb dX12_holdsAs_70 (by decide) ?_
  have g20 := jrg (rfl : (a2 + (σ1 55 57)).toInt = (a2 + (σ1 55 57)).toInt)
  refine lv_imul hx hb dX12_holdsAs_71 ?_
  refine lv_topi (fun x21 ex21 => ?_)
  have gx21 := jrg (rfl : x21.toInt = x21.toInt)
  have m22 : σ10 85 1 = 10 := ((f14 1 (by decide)).trans m7)
  exact hret x21 σ10 τ _ _ _ _ rfl ⟨rfl, (fun i hi => ((f12 i hi).trans (f3 i hi))), (fun i hi => ((f13 i hi).trans (f4 i hi))), (fun i hi => ((f14 i (imp_43 i hi)).trans (f5 i (imp_60 i hi)))), m15, m22, m16, ⟨(by rw [ex21, (show σ1 55 57 = σ 55 57 from (f4 57 (by decide)))]), trivial⟩⟩ hP hS dX12_holdsAs_72
set_option maxHeartbeats 4000000 in
set_option maxRecDepth 100000 in
theorem c_X12_holdsAs_5_5_0 (l : Launch) (D : va_G) (cI cL : ClassId) (ad zz : Nat → Nat) (hJ : jD ad) (σ : Nat → Nat → Int32) (τ : Nat → Nat → Int64) (a2 : Int32) (A2 : Int) (t2 : a2.toInt = A2) (h55_55 : σ 55 55 = 0) (hp0 : (σ 55 56).toInt = 5) : jM l yX12_holdsAs cX12_holdsAs 4 (some .int) ({ frames := 3, cells := 0, slots := 0, locals := 66 }) D cI cL ad zz [.ref (ad 55), .int 5, .int a2] σ τ (fun r σ' τ' => τ = τ' ∧ (∀ i : Nat, (i < 55 ∨ 55 < i) ∧ (i < 85 ∨ 85 < i) → σ' i = σ i) ∧ (∀ k : Nat, (k < 55 ∨ 55 < k) → σ' 55 k = σ 55 k) ∧ (∀ k : Nat, (k < 0 ∨ 0 < k) ∧ (k < 1 ∨ 1 < k) ∧ (k < 2 ∨ 2 < k) → σ' 85 k = σ 85 k) ∧ (σ' 55 55 = 3) ∧ (σ' 85 0 = 40) ∧ (σ' 85 1 = 10) ∧ (σ' 85 2 = 1) ∧ ((r = (-((a2 + (σ 55 57)) * 2)) ∧ True))) := by
  refine jM.of hJ (by decide +kernel) (nt := .int) rfl (Nat.le_of_ble_eq_true rfl) ?_
  intro p e s m args below meth c Q ls hC hret hl hP
  obtain ⟨hx, hb, hr, hml, hown, hts, hK, -, hlocks, hZ⟩ := hC
  have hown : s.vm.findClass RX12 = some m.cls := hown
  have hS : va_S (jA ad) s.heap s.heap [] := va_S.rf
  have hA : ∀ q, jA ad q → jA ad q := fun _ h => h
  have hl : lv_has ls 4 [(0, .ref (ad 55)), (1, .int 5), (2, .int a2)] := hl
  have g2 := jrg t2
  refine lv_iload_n hx hb dX12_holdsAs_0 rfl (lv_at hl 1 rfl) ?_
  refine lv_iconst (v := 3) hx hb dX12_holdsAs_1 (by decide) ?_
  refine lv_icmp_eq (tgt := 10) hx hb dX12_holdsAs_2 (by decide) (fun c => absurd c (by decide)) (fun _ => ?_)
  refine lv_iload_n hx hb dX12_holdsAs_5 rfl (lv_at hl 1 rfl) ?_
  refine lv_iconst (v := 5) hx hb dX12_holdsAs_6 (by decide) ?_
  refine lv_icmp_ne (tgt := 24) hx hb dX12_holdsAs_7 (by decide) (fun c => absurd (by decide) c) (fun _ => ?_)
  refine lv_aload_n hx hb dX12_holdsAs_10 rfl (lv_at hl 0 rfl) ?_
  refine lv_bipush (v := 40) hx hb dX12_holdsAs_11 (by decide) ?_
  refine jcallVv (As := [.int 40]) (rest := []) ⟨hx, hb, hml, hown, hts⟩ hK hP hA hS hZ (c_X12_begins_40_0 l D cI cL ad zz hJ σ τ h55_55) cw_RX12_379 (jc_55 cI cL ad σ τ) rfl ⟨Nat.le_of_ble_eq_true rfl, Nat.le_of_ble_eq_true rfl⟩ rfl rfl rfl hl.1 rfl (Nat.le_of_ble_eq_true rfl) dX12_holdsAs_13 ⟨Nat.zero_le _, Nat.zero_le _⟩ (fun σ1 τ1 H locs h1 hP hS => ?_)
  obtain ⟨rfl, f3, f4, f5, m6, m7, h1⟩ := h1
  refine lv_aload_n hx hb dX12_holdsAs_16 rfl (lv_at hl 0 rfl) ?_
  refine lv_iconst (v := 0) hx hb dX12_holdsAs_17 (by decide) ?_
  refine lv_iload_n hx hb dX12_holdsAs_18 rfl (lv_at hl 2 rfl) ?_
  have z8 : (σ1 55 56).toInt = (σ 55 56).toInt := (congrArg Int32.toInt (show σ1 55 56 = (σ 55 56) from (f4 56 (by decide))))
  refine jcallV (As := [.int 0, .int a2]) (rest := []) ⟨hx, hb, hml, hown, hts⟩ hK hP hA hS hZ (c_X12_holdsAs_5_0_1 l D cI cL ad zz hJ σ1 τ a2 (A2) t2 m6 (by omega)) cw_RX12_388 (jc_55 cI cL ad σ1 τ) rfl ⟨Nat.le_of_ble_eq_true rfl, Nat.le_of_ble_eq_true rfl⟩ rfl rfl rfl hl.1 rfl (Nat.le_of_ble_eq_true rfl) dX12_holdsAs_19 ⟨Nat.zero_le _, Nat.zero_le _⟩ (fun r10 σ9 τ9 H locs h9 hP hS => ?_)
  obtain ⟨rfl, f11, f12, f13, m14, m15, m16, h9⟩ := h9
  have h17 := h9
  obtain ⟨q19, k18⟩ := h17
  have q19 := q19.symm
  subst q19
  refine lv_ineg hx hb dX12_holdsAs_22 ?_
  refine lv_topi (fun x20 ex20 => ?_)
  have gx20 := jrg (rfl : x20.toInt = x20.toInt)
  have m21 : σ9 85 0 = 40 := ((f13 0 (by decide)).trans m7)
  exact hret x20 σ9 τ _ _ _ _ rfl ⟨rfl, (fun i hi => ((f11 i hi).trans (f3 i hi))), (fun i hi => ((f12 i hi).trans (f4 i hi))), (fun i hi => ((f13 i (imp_50 i hi)).trans (f5 i (imp_349 i hi)))), m14, m21, m15, m16, ⟨(by rw [ex20, (show σ1 55 57 = σ 55 57 from (f4 57 (by decide)))]), trivial⟩⟩ hP hS dX12_holdsAs_23
set_option maxHeartbeats 4000000 in
set_option maxRecDepth 100000 in
theorem c_X12_begins_60_0 (l : Launch) (D : va_G) (cI cL : ClassId) (ad zz : Nat → Nat) (hJ : jD ad) (σ : Nat → Nat → Int32) (τ : Nat → Nat → Int64) (h55_55 : σ 55 55 = 0) : jMv l yX12_begins cX12_begins 2 none ({ frames := 0, cells := 0, slots := 0, locals := 0 }) D cI cL ad zz [.ref (ad 55), .int 60] σ τ (fun σ' τ' => τ = τ' ∧ (∀ i : Nat, (i < 55 ∨ 55 < i) ∧ (i < 85 ∨ 85 < i) → σ' i = σ i) ∧ (∀ k : Nat, (k < 55 ∨ 55 < k) → σ' 55 k = σ 55 k) ∧ (∀ k : Nat, (k < 0 ∨ 0 < k) → σ' 85 k = σ 85 k) ∧ (σ' 55 55 = 1) ∧ (σ' 85 0 = 60) ∧ True) := by
  refine jMv.of hJ (by decide +kernel) rfl (Nat.le_of_ble_eq_true rfl) ?_
  intro p e s m args below meth c Q ls hC hret hl hP
  obtain ⟨hx, hb, hr, hml, hown, hts, hK, -, hlocks, hZ⟩ := hC
  have hown : s.vm.findClass RX12 = some m.cls := hown
  have hS : va_S (jA ad) s.heap s.heap [] := va_S.rf
  have hA : ∀ q, jA ad q → jA ad q := fun _ h => h
  have hl : lv_has ls 2 [(0, .ref (ad 55)), (1, .int 60)] := hl
  refine lv_aload_n hx hb dX12_begins_0 rfl (lv_at hl 0 rfl) ?_
  refine va_get (D := D) hx hb hts inlX12 hown hK hP 55 (jc_55 cI cL ad σ τ) rfl 55 (by decide) (hts _ kw_49_7) (fun _ h9 => h9) rfl dX12_begins_1 ?_
  refine jtopr h55_55 ?_
  refine lv_bipush (v := 24) hx hb dX12_begins_4 (by decide) ?_
  refine lv_icmp_ge (tgt := 19) hx hb dX12_begins_6 (by decide) (fun c => absurd c (by decide)) (fun _ => ?_)
  refine lv_aload_n hx hb dX12_begins_9 rfl (lv_at hl 0 rfl) ?_
  refine va_get (D := D) hx hb hts inlX12 hown hK hP 55 (jc_55 cI cL ad σ τ) rfl 54 (by decide) (hts _ kw_8_10) (fun _ h9 => h9) rfl dX12_begins_10 ?_
  refine lv_aload_n hx hb dX12_begins_13 rfl (lv_at hl 0 rfl) ?_
  refine va_get (D := D) hx hb hts inlX12 hown hK hP 55 (jc_55 cI cL ad σ τ) rfl 55 (by decide) (hts _ kw_49_7) (fun _ h9 => h9) rfl dX12_begins_14 ?_
  refine jtopr h55_55 ?_
  refine lv_iload_n hx hb dX12_begins_17 rfl (lv_at hl 1 rfl) ?_
  refine jast hx hb hK hP hJ hA hS (jc_85 cI cL ad σ τ) (ja_85 cI cL ad σ τ _ _) (jin jz_0 (by omega) (by omega)) dX12_begins_18 (fun σ1 H locs eσ1 hP hS => ?_)
  have eσ1 : σ1 = jup σ 85 0 60 := eσ1
  refine lv_aload_n hx hb dX12_begins_19 rfl (lv_at hl 0 rfl) ?_
  refine lv_dup hx hb dX12_begins_20 rfl ?_
  refine va_get (D := D) hx hb hts inlX12 hown hK hP 55 (jc_55 cI cL ad σ1 τ) rfl 55 (by decide) (hts _ kw_49_7) (fun _ h9 => h9) rfl dX12_begins_21 ?_
  have m2 : σ1 55 55 = 0 := ((congrFun (jnp 55 eσ1 (by decide)) 55).trans h55_55)
  refine jtopr m2 ?_
  refine lv_iconst (v := 1) hx hb dX12_begins_24 (by decide) ?_
  refine lv_iadd hx hb dX12_begins_25 ?_
  refine jtopr (y := 1) (by decide) ?_
  refine jput (ty := .int) hx hb hts inlX12 tyX12 tyX12_ok nmX12 hown hK hP hJ hA hS (jc_55 cI cL ad σ1 τ) rfl (k := 55) (by decide) (Nat.le_of_ble_eq_true rfl) (jp_55_55 cI cL ad σ1 τ 1) (hts _ kw_49_7) (fun _ h9 => h9) rfl (by decide +kernel) rfl rfl dX12_begins_26 (fun σ3 H locs eσ3 hP hS => ?_)
  have m4 : σ3 55 55 = 1 := (jsp eσ3)
  have m5 : σ3 85 0 = 60 := ((congrFun (jnp 85 eσ3 (by decide)) 0).trans (jsp eσ1))
  exact hret σ3 τ _ _ _ _ ⟨rfl, (fun i hi => ((jnp i eσ3 (imp_345 i hi)).trans (jnp i eσ1 (imp_346 i hi)))), (fun i hi => ((jkp i eσ3 (imp_164 i hi)).trans (congrFun (jnp 55 eσ1 (by decide)) i))), (fun i hi => ((congrFun (jnp 85 eσ3 (by decide)) i).trans (jkp i eσ1 (imp_4 i hi)))), m4, m5, trivial⟩ hP hS dX12_begins_29
set_option maxHeartbeats 4000000 in
set_option maxRecDepth 100000 in
theorem c_X12_begins_30_1 (l : Launch) (D : va_G) (cI cL : ClassId) (ad zz : Nat → Nat) (hJ : jD ad) (σ : Nat → Nat → Int32) (τ : Nat → Nat → Int64) (h55_55 : σ 55 55 = 1) : jMv l yX12_begins cX12_begins 2 none ({ frames := 0, cells := 0, slots := 0, locals := 0 }) D cI cL ad zz [.ref (ad 55), .int 30] σ τ (fun σ' τ' => τ = τ' ∧ (∀ i : Nat, (i < 55 ∨ 55 < i) ∧ (i < 85 ∨ 85 < i) → σ' i = σ i) ∧ (∀ k : Nat, (k < 55 ∨ 55 < k) → σ' 55 k = σ 55 k) ∧ (∀ k : Nat, (k < 1 ∨ 1 < k) → σ' 85 k = σ 85 k) ∧ (σ' 55 55 = 2) ∧ (σ' 85 1 = 30) ∧ True) := by
  refine jMv.of hJ (by decide +kernel) rfl (Nat.le_of_ble_eq_true rfl) ?_
  intro p e s m args below meth c Q ls hC hret hl hP
  obtain ⟨hx, hb, hr, hml, hown, hts, hK, -, hlocks, hZ⟩ := hC
  have hown : s.vm.findClass RX12 = some m.cls := hown
  have hS : va_S (jA ad) s.heap s.heap [] := va_S.rf
  have hA : ∀ q, jA ad q → jA ad q := fun _ h => h
  have hl : lv_has ls 2 [(0, .ref (ad 55)), (1, .int 30)] := hl
  refine lv_aload_n hx hb dX12_begins_0 rfl (lv_at hl 0 rfl) ?_
  refine va_get (D := D) hx hb hts inlX12 hown hK hP 55 (jc_55 cI cL ad σ τ) rfl 55 (by decide) (hts _ kw_49_7) (fun _ h9 => h9) rfl dX12_begins_1 ?_
  refine jtopr h55_55 ?_
  refine lv_bipush (v := 24) hx hb dX12_begins_4 (by decide) ?_
  refine lv_icmp_ge (tgt := 19) hx hb dX12_begins_6 (by decide) (fun c => absurd c (by decide)) (fun _ => ?_)
  refine lv_aload_n hx hb dX12_begins_9 rfl (lv_at hl 0 rfl) ?_
  refine va_get (D := D) hx hb hts inlX12 hown hK hP 55 (jc_55 cI cL ad σ τ) rfl 54 (by decide) (hts _ kw_8_10) (fun _ h9 => h9) rfl dX12_begins_10 ?_
  refine lv_aload_n hx hb dX12_begins_13 rfl (lv_at hl 0 rfl) ?_
  refine va_get (D := D) hx hb hts inlX12 hown hK hP 55 (jc_55 cI cL ad σ τ) rfl 55 (by decide) (hts _ kw_49_7) (fun _ h9 => h9) rfl dX12_begins_14 ?_
  refine jtopr h55_55 ?_
  refine lv_iload_n hx hb dX12_begins_17 rfl (lv_at hl 1 rfl) ?_
  refine jast hx hb hK hP hJ hA hS (jc_85 cI cL ad σ τ) (ja_85 cI cL ad σ τ _ _) (jin jz_1 (by omega) (by omega)) dX12_begins_18 (fun σ1 H locs eσ1 hP hS => ?_)
  have eσ1 : σ1 = jup σ 85 1 30 := eσ1
  refine lv_aload_n hx hb dX12_begins_19 rfl (lv_at hl 0 rfl) ?_
  refine lv_dup hx hb dX12_begins_20 rfl ?_
  refine va_get (D := D) hx hb hts inlX12 hown hK hP 55 (jc_55 cI cL ad σ1 τ) rfl 55 (by decide) (hts _ kw_49_7) (fun _ h9 => h9) rfl dX12_begins_21 ?_
  have m2 : σ1 55 55 = 1 := ((congrFun (jnp 55 eσ1 (by decide)) 55).trans h55_55)
  refine jtopr m2 ?_
  refine lv_iconst (v := 1) hx hb dX12_begins_24 (by decide) ?_
  refine lv_iadd hx hb dX12_begins_25 ?_
  refine jtopr (y := 2) (by decide) ?_
  refine jput (ty := .int) hx hb hts inlX12 tyX12 tyX12_ok nmX12 hown hK hP hJ hA hS (jc_55 cI cL ad σ1 τ) rfl (k := 55) (by decide) (Nat.le_of_ble_eq_true rfl) (jp_55_55 cI cL ad σ1 τ 2) (hts _ kw_49_7) (fun _ h9 => h9) rfl (by decide +kernel) rfl rfl dX12_begins_26 (fun σ3 H locs eσ3 hP hS => ?_)
  have m4 : σ3 55 55 = 2 := (jsp eσ3)
  have m5 : σ3 85 1 = 30 := ((congrFun (jnp 85 eσ3 (by decide)) 1).trans (jsp eσ1))
  exact hret σ3 τ _ _ _ _ ⟨rfl, (fun i hi => ((jnp i eσ3 (imp_345 i hi)).trans (jnp i eσ1 (imp_346 i hi)))), (fun i hi => ((jkp i eσ3 (imp_164 i hi)).trans (congrFun (jnp 55 eσ1 (by decide)) i))), (fun i hi => ((congrFun (jnp 85 eσ3 (by decide)) i).trans (jkp i eσ1 (imp_42 i hi)))), m4, m5, trivial⟩ hP hS dX12_begins_29
set_option maxHeartbeats 4000000 in
set_option maxRecDepth 100000 in
theorem c_X12_begins_11_2 (l : Launch) (D : va_G) (cI cL : ClassId) (ad zz : Nat → Nat) (hJ : jD ad) (σ : Nat → Nat → Int32) (τ : Nat → Nat → Int64) (h55_55 : σ 55 55 = 2) : jMv l yX12_begins cX12_begins 2 none ({ frames := 0, cells := 0, slots := 0, locals := 0 }) D cI cL ad zz [.ref (ad 55), .int 11] σ τ (fun σ' τ' => τ = τ' ∧ (∀ i : Nat, (i < 55 ∨ 55 < i) ∧ (i < 85 ∨ 85 < i) → σ' i = σ i) ∧ (∀ k : Nat, (k < 55 ∨ 55 < k) → σ' 55 k = σ 55 k) ∧ (∀ k : Nat, (k < 2 ∨ 2 < k) → σ' 85 k = σ 85 k) ∧ (σ' 55 55 = 3) ∧ (σ' 85 2 = 11) ∧ True) := by
  refine jMv.of hJ (by decide +kernel) rfl (Nat.le_of_ble_eq_true rfl) ?_
  intro p e s m args below meth c Q ls hC hret hl hP
  obtain ⟨hx, hb, hr, hml, hown, hts, hK, -, hlocks, hZ⟩ := hC
  have hown : s.vm.findClass RX12 = some m.cls := hown
  have hS : va_S (jA ad) s.heap s.heap [] := va_S.rf
  have hA : ∀ q, jA ad q → jA ad q := fun _ h => h
  have hl : lv_has ls 2 [(0, .ref (ad 55)), (1, .int 11)] := hl
  refine lv_aload_n hx hb dX12_begins_0 rfl (lv_at hl 0 rfl) ?_
  refine va_get (D := D) hx hb hts inlX12 hown hK hP 55 (jc_55 cI cL ad σ τ) rfl 55 (by decide) (hts _ kw_49_7) (fun _ h9 => h9) rfl dX12_begins_1 ?_
  refine jtopr h55_55 ?_
  refine lv_bipush (v := 24) hx hb dX12_begins_4 (by decide) ?_
  refine lv_icmp_ge (tgt := 19) hx hb dX12_begins_6 (by decide) (fun c => absurd c (by decide)) (fun _ => ?_)
  refine lv_aload_n hx hb dX12_begins_9 rfl (lv_at hl 0 rfl) ?_
  refine va_get (D := D) hx hb hts inlX12 hown hK hP 55 (jc_55 cI cL ad σ τ) rfl 54 (by decide) (hts _ kw_8_10) (fun _ h9 => h9) rfl dX12_begins_10 ?_
  refine lv_aload_n hx hb dX12_begins_13 rfl (lv_at hl 0 rfl) ?_
  refine va_get (D := D) hx hb hts inlX12 hown hK hP 55 (jc_55 cI cL ad σ τ) rfl 55 (by decide) (hts _ kw_49_7) (fun _ h9 => h9) rfl dX12_begins_14 ?_
  refine jtopr h55_55 ?_
  refine lv_iload_n hx hb dX12_begins_17 rfl (lv_at hl 1 rfl) ?_
  refine jast hx hb hK hP hJ hA hS (jc_85 cI cL ad σ τ) (ja_85 cI cL ad σ τ _ _) (jin jz_2 (by omega) (by omega)) dX12_begins_18 (fun σ1 H locs eσ1 hP hS => ?_)
  have eσ1 : σ1 = jup σ 85 2 11 := eσ1
  refine lv_aload_n hx hb dX12_begins_19 rfl (lv_at hl 0 rfl) ?_
  refine lv_dup hx hb dX12_begins_20 rfl ?_
  refine va_get (D := D) hx hb hts inlX12 hown hK hP 55 (jc_55 cI cL ad σ1 τ) rfl 55 (by decide) (hts _ kw_49_7) (fun _ h9 => h9) rfl dX12_begins_21 ?_
  have m2 : σ1 55 55 = 2 := ((congrFun (jnp 55 eσ1 (by decide)) 55).trans h55_55)
  refine jtopr m2 ?_
  refine lv_iconst (v := 1) hx hb dX12_begins_24 (by decide) ?_
  refine lv_iadd hx hb dX12_begins_25 ?_
  refine jtopr (y := 3) (by decide) ?_
  refine jput (ty := .int) hx hb hts inlX12 tyX12 tyX12_ok nmX12 hown hK hP hJ hA hS (jc_55 cI cL ad σ1 τ) rfl (k := 55) (by decide) (Nat.le_of_ble_eq_true rfl) (jp_55_55 cI cL ad σ1 τ 3) (hts _ kw_49_7) (fun _ h9 => h9) rfl (by decide +kernel) rfl rfl dX12_begins_26 (fun σ3 H locs eσ3 hP hS => ?_)
  have m4 : σ3 55 55 = 3 := (jsp eσ3)
  have m5 : σ3 85 2 = 11 := ((congrFun (jnp 85 eσ3 (by decide)) 2).trans (jsp eσ1))
  exact hret σ3 τ _ _ _ _ ⟨rfl, (fun i hi => ((jnp i eσ3 (imp_345 i hi)).trans (jnp i eσ1 (imp_346 i hi)))), (fun i hi => ((jkp i eσ3 (imp_164 i hi)).trans (congrFun (jnp 55 eσ1 (by decide)) i))), (fun i hi => ((congrFun (jnp 85 eσ3 (by decide)) i).trans (jkp i eσ1 (imp_7 i hi)))), m4, m5, trivial⟩ hP hS dX12_begins_29
set_option maxHeartbeats 4000000 in
set_option maxRecDepth 100000 in
theorem c_X12_givesAs_5_0_2 (l : Launch) (D : va_G) (cI cL : ClassId) (ad zz : Nat → Nat) (hJ : jD ad) (σ : Nat → Nat → Int32) (τ : Nat → Nat → Int64) (a2 : Int32) (A2 : Int) (t2 : a2.toInt = A2) (h55_55 : σ 55 55 = 2) (hp0 : (σ 55 56).toInt = 5) : jM l yX12_givesAs cX12_givesAs 4 (some .int) ({ frames := 1, cells := 0, slots := 0, locals := 21 }) D cI cL ad zz [.ref (ad 55), .int 0, .int a2] σ τ (fun r σ' τ' => τ = τ' ∧ (∀ i : Nat, (i < 55 ∨ 55 < i) ∧ (i < 85 ∨ 85 < i) → σ' i = σ i) ∧ (∀ k : Nat, (k < 55 ∨ 55 < k) → σ' 55 k = σ 55 k) ∧ (∀ k : Nat, (k < 2 ∨ 2 < k) → σ' 85 k = σ 85 k) ∧ (σ' 55 55 = 3) ∧ (σ' 85 2 = 11) ∧ ((r = (a2 ^^^ (σ 55 57)) ∧ True))) := by
  refine jM.of hJ (by decide +kernel) (nt := .int) rfl (Nat.le_of_ble_eq_true rfl) ?_
  intro p e s m args below meth c Q ls hC hret hl hP
  obtain ⟨hx, hb, hr, hml, hown, hts, hK, -, hlocks, hZ⟩ := hC
  have hown : s.vm.findClass RX12 = some m.cls := hown
  have hS : va_S (jA ad) s.heap s.heap [] := va_S.rf
  have hA : ∀ q, jA ad q → jA ad q := fun _ h => h
  have hl : lv_has ls 4 [(0, .ref (ad 55)), (1, .int 0), (2, .int a2)] := hl
  have g2 := jrg t2
  refine lv_iload_n hx hb dX12_givesAs_0 rfl (lv_at hl 1 rfl) ?_
  refine lv_iconst (v := 5) hx hb dX12_givesAs_1 (by decide) ?_
  refine lv_icmp_ne (tgt := 30) hx hb dX12_givesAs_2 (by decide) (fun _ => ?_) (fun c => absurd c (by decide))
  refine lv_iload_n hx hb dX12_givesAs_30 rfl (lv_at hl 1 rfl) ?_
  refine lv_iconst (v := 2) hx hb dX12_givesAs_31 (by decide) ?_
  refine lv_icmp_eq (tgt := 40) hx hb dX12_givesAs_32 (by decide) (fun c => absurd c (by decide)) (fun _ => ?_)
  refine lv_iload_n hx hb dX12_givesAs_35 rfl (lv_at hl 1 rfl) ?_
  refine lv_iconst (v := 3) hx hb dX12_givesAs_36 (by decide) ?_
  refine lv_icmp_ne (tgt := 55) hx hb dX12_givesAs_37 (by decide) (fun _ => ?_) (fun c => absurd c (by decide))
  refine lv_aload_n hx hb dX12_givesAs_55 rfl (lv_at hl 0 rfl) ?_
  refine lv_bipush (v := 11) hx hb dX12_givesAs_56 (by decide) ?_
  refine jcallVv (As := [.int 11]) (rest := []) ⟨hx, hb, hml, hown, hts⟩ hK hP hA hS hZ (c_X12_begins_11_2 l D cI cL ad zz hJ σ τ h55_55) cw_RX12_379 (jc_55 cI cL ad σ τ) rfl ⟨Nat.le_of_ble_eq_true rfl, Nat.le_of_ble_eq_true rfl⟩ rfl rfl rfl hl.1 rfl (Nat.le_of_ble_eq_true rfl) dX12_givesAs_58 ⟨Nat.zero_le _, Nat.zero_le _⟩ (fun σ1 τ1 H locs h1 hP hS => ?_)
  obtain ⟨rfl, f3, f4, f5, m6, m7, h1⟩ := h1
  refine lv_iload_n hx hb dX12_givesAs_61 rfl (lv_at hl 2 rfl) ?_
  refine lv_aload_n hx hb dX12_givesAs_62 rfl (lv_at hl 0 rfl) ?_
  refine va_get (D := D) hx hb hts inlX12 hown hK hP 55 (jc_55 cI cL ad σ1 τ) rfl 57 (by decide) (hts _ kw_49_9) (fun _ h9 => h9) rfl dX12_givesAs_63 ?_
  have m8 : σ1 55 57 = (σ 55 57) := (f4 57 (by decide))
  refine jtopr m8 ?_
  refine lv_ixor hx hb dX12_givesAs_66 ?_
  refine lv_topi (fun x9 ex9 => ?_)
  have gx9 := jrg (rfl : x9.toInt = x9.toInt)
  exact hret x9 σ1 τ _ _ _ _ rfl ⟨rfl, (fun i hi => (f3 i hi)), (fun i hi => (f4 i hi)), (fun i hi => (f5 i hi)), m6, m7, ⟨(by rw [ex9]), trivial⟩⟩ hP hS dX12_givesAs_67
set_option maxHeartbeats 4000000 in
set_option maxRecDepth 100000 in
theorem c_X12_givesAs_5_3_1 (l : Launch) (D : va_G) (cI cL : ClassId) (ad zz : Nat → Nat) (hJ : jD ad) (σ : Nat → Nat → Int32) (τ : Nat → Nat → Int64) (a2 : Int32) (A2 : Int) (t2 : a2.toInt = A2) (h55_55 : σ 55 55 = 1) (hp0 : (σ 55 56).toInt = 5) : jM l yX12_givesAs cX12_givesAs 4 (some .int) ({ frames := 2, cells := 0, slots := 0, locals := 44 }) D cI cL ad zz [.ref (ad 55), .int 3, .int a2] σ τ (fun r σ' τ' => τ = τ' ∧ (∀ i : Nat, (i < 55 ∨ 55 < i) ∧ (i < 85 ∨ 85 < i) → σ' i = σ i) ∧ (∀ k : Nat, (k < 55 ∨ 55 < k) → σ' 55 k = σ 55 k) ∧ (∀ k : Nat, (k < 1 ∨ 1 < k) ∧ (k < 2 ∨ 2 < k) → σ' 85 k = σ 85 k) ∧ (σ' 55 55 = 3) ∧ (σ' 85 1 = 30) ∧ (σ' 85 2 = 11) ∧ ((r = ((a2 ^^^ (σ 55 57)) * 3) ∧ True))) := by
  refine jM.of hJ (by decide +kernel) (nt := .int) rfl (Nat.le_of_ble_eq_true rfl) ?_
  intro p e s m args below meth c Q ls hC hret hl hP
  obtain ⟨hx, hb, hr, hml, hown, hts, hK, -, hlocks, hZ⟩ := hC
  have hown : s.vm.findClass RX12 = some m.cls := hown
  have hS : va_S (jA ad) s.heap s.heap [] := va_S.rf
  have hA : ∀ q, jA ad q → jA ad q := fun _ h => h
  have hl : lv_has ls 4 [(0, .ref (ad 55)), (1, .int 3), (2, .int a2)] := hl
  have g2 := jrg t2
  refine lv_iload_n hx hb dX12_givesAs_0 rfl (lv_at hl 1 rfl) ?_
  refine lv_iconst (v := 5) hx hb dX12_givesAs_1 (by decide) ?_
  refine lv_icmp_ne (tgt := 30) hx hb dX12_givesAs_2 (by decide) (fun _ => ?_) (fun c => absurd c (by decide))
  refine lv_iload_n hx hb dX12_givesAs_30 rfl (lv_at hl 1 rfl) ?_
  refine lv_iconst (v := 2) hx hb dX12_givesAs_31 (by decide) ?_
  refine lv_icmp_eq (tgt := 40) hx hb dX12_givesAs_32 (by decide) (fun c => absurd c (by decide)) (fun _ => ?_)
  refine lv_iload_n hx hb dX12_givesAs_35 rfl (lv_at hl 1 rfl) ?_
  refine lv_iconst (v := 3) hx hb dX12_givesAs_36 (by decide) ?_
  refine lv_icmp_ne (tgt := 55) hx hb dX12_givesAs_37 (by decide) (fun c => absurd (by decide) c) (fun _ => ?_)
  refine lv_aload_n hx hb dX12_givesAs_40 rfl (lv_at hl 0 rfl) ?_
  refine lv_bipush (v := 30) hx hb dX12_givesAs_41 (by decide) ?_
  refine jcallVv (As := [.int 30]) (rest := []) ⟨hx, hb, hml, hown, hts⟩ hK hP hA hS hZ (c_X12_begins_30_1 l D cI cL ad zz hJ σ τ h55_55) cw_RX12_379 (jc_55 cI cL ad σ τ) rfl ⟨Nat.le_of_ble_eq_true rfl, Nat.le_of_ble_eq_true rfl⟩ rfl rfl rfl hl.1 rfl (Nat.le_of_ble_eq_true rfl) dX12_givesAs_43 ⟨Nat.zero_le _, Nat.zero_le _⟩ (fun σ1 τ1 H locs h1 hP hS => ?_)
  obtain ⟨rfl, f3, f4, f5, m6, m7, h1⟩ := h1
  refine lv_aload_n hx hb dX12_givesAs_46 rfl (lv_at hl 0 rfl) ?_
  refine lv_iconst (v := 0) hx hb dX12_givesAs_47 (by decide) ?_
  refine lv_iload_n hx hb dX12_givesAs_48 rfl (lv_at hl 2 rfl) ?_
  have z8 : (σ1 55 56).toInt = (σ 55 56).toInt := (congrArg Int32.toInt (show σ1 55 56 = (σ 55 56) from (f4 56 (by decide))))
  refine jcallV (As := [.int 0, .int a2]) (rest := []) ⟨hx, hb, hml, hown, hts⟩ hK hP hA hS hZ (c_X12_givesAs_5_0_2 l D cI cL ad zz hJ σ1 τ a2 (A2) t2 m6 (by omega)) cw_RX12_394 (jc_55 cI cL ad σ1 τ) rfl ⟨Nat.le_of_ble_eq_true rfl, Nat.le_of_ble_eq_true rfl⟩ rfl rfl rfl hl.1 rfl (Nat.le_of_ble_eq_true rfl) dX12_givesAs_49 ⟨Nat.zero_le _, Nat.zero_le _⟩ (fun r10 σ9 τ9 H locs h9 hP hS => ?_)
  obtain ⟨rfl, f11, f12, f13, m14, m15, h9⟩ := h9
  have h16 := h9
  obtain ⟨q18, k17⟩ := h16
  have q18 := q18.symm
  subst q18
  refine lv_iconst (v := 3) hx hb dX12_givesAs_52 (by decide) ?_
  have g19 := jrg (rfl : (a2 ^^^ (σ1 55 57)).toInt = (a2 ^^^ (σ1 55 57)).toInt)
  refine lv_imul hx hb dX12_givesAs_53 ?_
  refine lv_topi (fun x20 ex20 => ?_)
  have gx20 := jrg (rfl : x20.toInt = x20.toInt)
  have m21 : σ9 85 1 = 30 := ((f13 1 (by decide)).trans m7)
  exact hret x20 σ9 τ _ _ _ _ rfl ⟨rfl, (fun i hi => ((f11 i hi).trans (f3 i hi))), (fun i hi => ((f12 i hi).trans (f4 i hi))), (fun i hi => ((f13 i (imp_43 i hi)).trans (f5 i (imp_60 i hi)))), m14, m21, m15, ⟨(by rw [ex20, (show σ1 55 57 = σ 55 57 from (f4 57 (by decide)))]), trivial⟩⟩ hP hS dX12_givesAs_54
set_option maxHeartbeats 4000000 in
set_option maxRecDepth 100000 in
theorem c_X12_putsAs_5_5_3_x2 (l : Launch) (D : va_G) (cI cL : ClassId) (ad zz : Nat → Nat) (hJ : jD ad) (σ : Nat → Nat → Int32) (τ : Nat → Nat → Int64) (h55_55 : σ 55 55 = 3) (hp0 : (σ 55 56).toInt = 5) : jM l yX12_putsAs cX12_putsAs 3 (some .int) ({ frames := 1, cells := 0, slots := 0, locals := 21 }) D cI cL ad zz [.ref (ad 55), .int 5, .int 2] σ τ (fun r σ' τ' => τ = τ' ∧ (∀ i : Nat, (i < 55 ∨ 55 < i) ∧ (i < 85 ∨ 85 < i) → σ' i = σ i) ∧ (∀ k : Nat, (k < 55 ∨ 55 < k) → σ' 55 k = σ 55 k) ∧ (∀ k : Nat, (k < 3 ∨ 3 < k) → σ' 85 k = σ 85 k) ∧ (σ' 55 55 = 4) ∧ (σ' 85 3 = 1) ∧ ((r = (2 + (σ 55 57)) ∧ True))) := by
  refine jM.of hJ (by decide +kernel) (nt := .int) rfl (Nat.le_of_ble_eq_true rfl) ?_
  intro p e s m args below meth c Q ls hC hret hl hP
  obtain ⟨hx, hb, hr, hml, hown, hts, hK, -, hlocks, hZ⟩ := hC
  have hown : s.vm.findClass RX12 = some m.cls := hown
  have hS : va_S (jA ad) s.heap s.heap [] := va_S.rf
  have hA : ∀ q, jA ad q → jA ad q := fun _ h => h
  have hl : lv_has ls 3 [(0, .ref (ad 55)), (1, .int 5), (2, .int 2)] := hl
  refine lv_iload_n hx hb dX12_putsAs_0 rfl (lv_at hl 1 rfl) ?_
  refine lv_iconst (v := 4) hx hb dX12_putsAs_1 (by decide) ?_
  refine lv_icmp_ne (tgt := 20) hx hb dX12_putsAs_2 (by decide) (fun _ => ?_) (fun c => absurd c (by decide))
  refine lv_iload_n hx hb dX12_putsAs_20 rfl (lv_at hl 1 rfl) ?_
  refine lv_iconst (v := 1) hx hb dX12_putsAs_21 (by decide) ?_
  refine lv_icmp_ne (tgt := 40) hx hb dX12_putsAs_22 (by decide) (fun _ => ?_) (fun c => absurd c (by decide))
  refine lv_aload_n hx hb dX12_putsAs_40 rfl (lv_at hl 0 rfl) ?_
  refine lv_iconst (v := 1) hx hb dX12_putsAs_41 (by decide) ?_
  refine jcallVv (As := [.int 1]) (rest := []) ⟨hx, hb, hml, hown, hts⟩ hK hP hA hS hZ (c_X12_begins_1_3 l D cI cL ad zz hJ σ τ h55_55) cw_RX12_379 (jc_55 cI cL ad σ τ) rfl ⟨Nat.le_of_ble_eq_true rfl, Nat.le_of_ble_eq_true rfl⟩ rfl rfl rfl hl.1 rfl (Nat.le_of_ble_eq_true rfl) dX12_putsAs_42 ⟨Nat.zero_le _, Nat.zero_le _⟩ (fun σ1 τ1 H locs h1 hP hS => ?_)
  obtain ⟨rfl, f3, f4, f5, m6, m7, h1⟩ := h1
  refine lv_iload_n hx hb dX12_putsAs_45 rfl (lv_at hl 2 rfl) ?_
  refine lv_aload_n hx hb dX12_putsAs_46 rfl (lv_at hl 0 rfl) ?_
  refine va_get (D := D) hx hb hts inlX12 hown hK hP 55 (jc_55 cI cL ad σ1 τ) rfl 57 (by decide) (hts _ kw_49_9) (fun _ h9 => h9) rfl dX12_putsAs_47 ?_
  have m8 : σ1 55 57 = (σ 55 57) := (f4 57 (by decide))
  refine jtopr m8 ?_
  have g9 := jrg (rfl : (σ 55 57).toInt = (σ 55 57).toInt)
  refine lv_iadd hx hb dX12_putsAs_50 ?_
  refine lv_topi (fun x10 ex10 => ?_)
  have gx10 := jrg (rfl : x10.toInt = x10.toInt)
  exact hret x10 σ1 τ _ _ _ _ rfl ⟨rfl, (fun i hi => (f3 i hi)), (fun i hi => (f4 i hi)), (fun i hi => (f5 i hi)), m6, m7, ⟨(by rw [ex10]), trivial⟩⟩ hP hS dX12_putsAs_51
set_option maxHeartbeats 4000000 in
set_option maxRecDepth 100000 in
theorem c_X12_givesAs_5_5_0 (l : Launch) (D : va_G) (cI cL : ClassId) (ad zz : Nat → Nat) (hJ : jD ad) (σ : Nat → Nat → Int32) (τ : Nat → Nat → Int64) (a2 : Int32) (A2 : Int) (t2 : a2.toInt = A2) (h55_55 : σ 55 55 = 0) (hp0 : (σ 55 56).toInt = 5) : jM l yX12_givesAs cX12_givesAs 4 (some .int) ({ frames := 3, cells := 0, slots := 0, locals := 67 }) D cI cL ad zz [.ref (ad 55), .int 5, .int a2] σ τ (fun r σ' τ' => τ = τ' ∧ (∀ i : Nat, (i < 55 ∨ 55 < i) ∧ (i < 85 ∨ 85 < i) → σ' i = σ i) ∧ (∀ k : Nat, (k < 55 ∨ 55 < k) → σ' 55 k = σ 55 k) ∧ (∀ k : Nat, (k < 0 ∨ 0 < k) ∧ (k < 1 ∨ 1 < k) ∧ (k < 2 ∨ 2 < k) ∧ (k < 3 ∨ 3 < k) → σ' 85 k = σ 85 k) ∧ (σ' 55 55 = 4) ∧ (σ' 85 0 = 60) ∧ (σ' 85 1 = 30) ∧ (σ' 85 2 = 11) ∧ (σ' 85 3 = 1) ∧ ((r = (((a2 ^^^ (σ 55 57)) * 3) - (2 + (σ 55 57))) ∧ True))) := by
  refine jM.of hJ (by decide +kernel) (nt := .int) rfl (Nat.le_of_ble_eq_true rfl) ?_
  intro p e s m args below meth c Q ls hC hret hl hP
  obtain ⟨hx, hb, hr, hml, hown, hts, hK, -, hlocks, hZ⟩ := hC
  have hown : s.vm.findClass RX12 = some m.cls := hown
  have hS : va_S (jA ad) s.heap s.heap [] := va_S.rf
  have hA : ∀ q, jA ad q → jA ad q := fun _ h => h
  have hl : lv_has ls 4 [(0, .ref (ad 55)), (1, .int 5), (2, .int a2)] := hl
  have g2 := jrg t2
  refine lv_iload_n hx hb dX12_givesAs_0 rfl (lv_at hl 1 rfl) ?_
  refine lv_iconst (v := 5) hx hb dX12_givesAs_1 (by decide) ?_
  refine lv_icmp_ne (tgt := 30) hx hb dX12_givesAs_2 (by decide) (fun c => absurd (by decide) c) (fun _ => ?_)
  refine lv_aload_n hx hb dX12_givesAs_5 rfl (lv_at hl 0 rfl) ?_
  refine lv_bipush (v := 60) hx hb dX12_givesAs_6 (by decide) ?_
  refine jcallVv (As := [.int 60]) (rest := []) ⟨hx, hb, hml, hown, hts⟩ hK hP hA hS hZ (c_X12_begins_60_0 l D cI cL ad zz hJ σ τ h55_55) cw_RX12_379 (jc_55 cI cL ad σ τ) rfl ⟨Nat.le_of_ble_eq_true rfl, Nat.le_of_ble_eq_true rfl⟩ rfl rfl rfl hl.1 rfl (Nat.le_of_ble_eq_true rfl) dX12_givesAs_8 ⟨Nat.zero_le _, Nat.zero_le _⟩ (fun σ1 τ1 H locs h1 hP hS => ?_)
  obtain ⟨rfl, f3, f4, f5, m6, m7, h1⟩ := h1
  refine lv_aload_n hx hb dX12_givesAs_11 rfl (lv_at hl 0 rfl) ?_
  refine lv_iconst (v := 3) hx hb dX12_givesAs_12 (by decide) ?_
  refine lv_iload_n hx hb dX12_givesAs_13 rfl (lv_at hl 2 rfl) ?_
  have z8 : (σ1 55 56).toInt = (σ 55 56).toInt := (congrArg Int32.toInt (show σ1 55 56 = (σ 55 56) from (f4 56 (by decide))))
  refine jcallV (As := [.int 3, .int a2]) (rest := []) ⟨hx, hb, hml, hown, hts⟩ hK hP hA hS hZ (c_X12_givesAs_5_3_1 l D cI cL ad zz hJ σ1 τ a2 (A2) t2 m6 (by omega)) cw_RX12_394 (jc_55 cI cL ad σ1 τ) rfl ⟨Nat.le_of_ble_eq_true rfl, Nat.le_of_ble_eq_true rfl⟩ rfl rfl rfl hl.1 rfl (Nat.le_of_ble_eq_true rfl) dX12_givesAs_14 ⟨Nat.zero_le _, Nat.zero_le _⟩ (fun r10 σ9 τ9 H locs h9 hP hS => ?_)
  obtain ⟨rfl, f11, f12, f13, m14, m15, m16, h9⟩ := h9
  have h17 := h9
  obtain ⟨q19, k18⟩ := h17
  have q19 := q19.symm
  subst q19
  refine lv_istore_n (lv' := [(3, .int ((a2 ^^^ (σ1 55 57)) * 3)), (0, .ref (ad 55)), (1, .int 5), (2, .int a2)]) hx hb dX12_givesAs_17 rfl hl (by decide) rfl (fun ls hl => ?_)
  refine lv_iload_n hx hb dX12_givesAs_18 rfl (lv_at hl 0 rfl) ?_
  refine lv_aload_n hx hb dX12_givesAs_19 rfl (lv_at hl 1 rfl) ?_
  refine lv_aload_n hx hb dX12_givesAs_20 rfl (lv_at hl 1 rfl) ?_
  refine va_get (D := D) hx hb hts inlX12 hown hK hP 55 (jc_55 cI cL ad σ9 τ) rfl 56 (by decide) (hts _ kw_49_8) (fun _ h9 => h9) rfl dX12_givesAs_21 ?_
  have m20 : σ9 55 56 = (σ 55 56) := ((f12 56 (by decide)).trans (f4 56 (by decide)))
  refine jtopr m20 ?_
  refine jtopr (jsame (rfl : (σ 55 56).toInt = (σ 55 56).toInt) jz_5 (by omega)) ?_
  refine lv_iconst (v := 2) hx hb dX12_givesAs_24 (by decide) ?_
  have z21 : (σ9 55 56).toInt = (σ 55 56).toInt := (congrArg Int32.toInt (show σ9 55 56 = (σ 55 56) from m20))
  refine jcallV (As := [.int 5, .int 2]) (rest := [.int ((a2 ^^^ (σ1 55 57)) * 3)]) ⟨hx, hb, hml, hown, hts⟩ hK hP hA hS hZ (c_X12_putsAs_5_5_3_x2 l D cI cL ad zz hJ σ9 τ m14 (by omega)) cw_RX12_382 (jc_55 cI cL ad σ9 τ) rfl ⟨Nat.le_of_ble_eq_true rfl, Nat.le_of_ble_eq_true rfl⟩ rfl rfl rfl hl.1 rfl (Nat.le_of_ble_eq_true rfl) dX12_givesAs_25 ⟨Nat.zero_le _, Nat.zero_le _⟩ (fun r23 σ22 τ22 H locs h22 hP hS => ?_)
  obtain ⟨rfl, f24, f25, f26, m27, m28, h22⟩ := h22
  have h29 := h22
  obtain ⟨q31, k30⟩ := h29
  have q31 := q31.symm
  subst q31
  have g32 := jrg (rfl : ((a2 ^^^ (σ1 55 57)) * 3).toInt = ((a2 ^^^ (σ1 55 57)) * 3).toInt)
  have g33 := jrg (rfl : (2 + (σ9 55 57)).toInt = (2 + (σ9 55 57)).toInt)
  refine lv_isub hx hb dX12_givesAs_28 ?_
  refine lv_topi (fun x34 ex34 => ?_)
  have gx34 := jrg (rfl : x34.toInt = x34.toInt)
  have m35 : σ22 85 0 = 60 := ((f26 0 (by decide)).trans ((f13 0 (by decide)).trans m7))
  have m36 : σ22 85 1 = 30 := ((f26 1 (by decide)).trans m15)
  have m37 : σ22 85 2 = 11 := ((f26 2 (by decide)).trans m16)
  exact hret x34 σ22 τ _ _ _ _ rfl ⟨rfl, (fun i hi => ((f24 i hi).trans ((f11 i hi).trans (f3 i hi)))), (fun i hi => ((f25 i hi).trans ((f12 i hi).trans (f4 i hi)))), (fun i hi => ((f26 i (imp_304 i hi)).trans ((f13 i (imp_305 i hi)).trans (f5 i (imp_348 i hi))))), m27, m35, m36, m37, m28, ⟨(by rw [ex34, (show σ1 55 57 = σ 55 57 from (f4 57 (by decide))), (show σ9 55 57 = σ 55 57 from ((f12 57 (by decide)).trans (f4 57 (by decide))))]), trivial⟩⟩ hP hS dX12_givesAs_29
set_option maxHeartbeats 4000000 in
set_option maxRecDepth 100000 in
theorem c_X12_putsAs_5_5_3 (l : Launch) (D : va_G) (cI cL : ClassId) (ad zz : Nat → Nat) (hJ : jD ad) (σ : Nat → Nat → Int32) (τ : Nat → Nat → Int64) (a2 : Int32) (A2 : Int) (t2 : a2.toInt = A2) (h55_55 : σ 55 55 = 3) (hp0 : (σ 55 56).toInt = 5) : jM l yX12_putsAs cX12_putsAs 3 (some .int) ({ frames := 1, cells := 0, slots := 0, locals := 21 }) D cI cL ad zz [.ref (ad 55), .int 5, .int a2] σ τ (fun r σ' τ' => τ = τ' ∧ (∀ i : Nat, (i < 55 ∨ 55 < i) ∧ (i < 85 ∨ 85 < i) → σ' i = σ i) ∧ (∀ k : Nat, (k < 55 ∨ 55 < k) → σ' 55 k = σ 55 k) ∧ (∀ k : Nat, (k < 3 ∨ 3 < k) → σ' 85 k = σ 85 k) ∧ (σ' 55 55 = 4) ∧ (σ' 85 3 = 1) ∧ ((r = (a2 + (σ 55 57)) ∧ True))) := by
  refine jM.of hJ (by decide +kernel) (nt := .int) rfl (Nat.le_of_ble_eq_true rfl) ?_
  intro p e s m args below meth c Q ls hC hret hl hP
  obtain ⟨hx, hb, hr, hml, hown, hts, hK, -, hlocks, hZ⟩ := hC
  have hown : s.vm.findClass RX12 = some m.cls := hown
  have hS : va_S (jA ad) s.heap s.heap [] := va_S.rf
  have hA : ∀ q, jA ad q → jA ad q := fun _ h => h
  have hl : lv_has ls 3 [(0, .ref (ad 55)), (1, .int 5), (2, .int a2)] := hl
  have g2 := jrg t2
  refine lv_iload_n hx hb dX12_putsAs_0 rfl (lv_at hl 1 rfl) ?_
  refine lv_iconst (v := 4) hx hb dX12_putsAs_1 (by decide) ?_
  refine lv_icmp_ne (tgt := 20) hx hb dX12_putsAs_2 (by decide) (fun _ => ?_) (fun c => absurd c (by decide))
  refine lv_iload_n hx hb dX12_putsAs_20 rfl (lv_at hl 1 rfl) ?_
  refine lv_iconst (v := 1) hx hb dX12_putsAs_21 (by decide) ?_
  refine lv_icmp_ne (tgt := 40) hx hb dX12_putsAs_22 (by decide) (fun _ => ?_) (fun c => absurd c (by decide))
  refine lv_aload_n hx hb dX12_putsAs_40 rfl (lv_at hl 0 rfl) ?_
  refine lv_iconst (v := 1) hx hb dX12_putsAs_41 (by decide) ?_
  refine jcallVv (As := [.int 1]) (rest := []) ⟨hx, hb, hml, hown, hts⟩ hK hP hA hS hZ (c_X12_begins_1_3 l D cI cL ad zz hJ σ τ h55_55) cw_RX12_379 (jc_55 cI cL ad σ τ) rfl ⟨Nat.le_of_ble_eq_true rfl, Nat.le_of_ble_eq_true rfl⟩ rfl rfl rfl hl.1 rfl (Nat.le_of_ble_eq_true rfl) dX12_putsAs_42 ⟨Nat.zero_le _, Nat.zero_le _⟩ (fun σ1 τ1 H locs h1 hP hS => ?_)
  obtain ⟨rfl, f3, f4, f5, m6, m7, h1⟩ := h1
  refine lv_iload_n hx hb dX12_putsAs_45 rfl (lv_at hl 2 rfl) ?_
  refine lv_aload_n hx hb dX12_putsAs_46 rfl (lv_at hl 0 rfl) ?_
  refine va_get (D := D) hx hb hts inlX12 hown hK hP 55 (jc_55 cI cL ad σ1 τ) rfl 57 (by decide) (hts _ kw_49_9) (fun _ h9 => h9) rfl dX12_putsAs_47 ?_
  have m8 : σ1 55 57 = (σ 55 57) := (f4 57 (by decide))
  refine jtopr m8 ?_
  have g9 := jrg (rfl : (σ 55 57).toInt = (σ 55 57).toInt)
  refine lv_iadd hx hb dX12_putsAs_50 ?_
  refine lv_topi (fun x10 ex10 => ?_)
  have gx10 := jrg (rfl : x10.toInt = x10.toInt)
  exact hret x10 σ1 τ _ _ _ _ rfl ⟨rfl, (fun i hi => (f3 i hi)), (fun i hi => (f4 i hi)), (fun i hi => (f5 i hi)), m6, m7, ⟨(by rw [ex10]), trivial⟩⟩ hP hS dX12_putsAs_51
set_option maxHeartbeats 4000000 in
set_option maxRecDepth 100000 in
theorem c_X12_holdsAs_5_0_2 (l : Launch) (D : va_G) (cI cL : ClassId) (ad zz : Nat → Nat) (hJ : jD ad) (σ : Nat → Nat → Int32) (τ : Nat → Nat → Int64) (a2 : Int32) (A2 : Int) (t2 : a2.toInt = A2) (h55_55 : σ 55 55 = 2) (hp0 : (σ 55 56).toInt = 5) : jM l yX12_holdsAs cX12_holdsAs 4 (some .int) ({ frames := 2, cells := 0, slots := 0, locals := 43 }) D cI cL ad zz [.ref (ad 55), .int 0, .int a2] σ τ (fun r σ' τ' => τ = τ' ∧ (∀ i : Nat, (i < 55 ∨ 55 < i) ∧ (i < 85 ∨ 85 < i) → σ' i = σ i) ∧ (∀ k : Nat, (k < 55 ∨ 55 < k) → σ' 55 k = σ 55 k) ∧ (∀ k : Nat, (k < 2 ∨ 2 < k) ∧ (k < 3 ∨ 3 < k) → σ' 85 k = σ 85 k) ∧ (σ' 55 55 = 4) ∧ (σ' 85 2 = 10) ∧ (σ' 85 3 = 1) ∧ ((r = ((a2 + (σ 55 57)) * 2) ∧ True))) := by
  refine jM.of hJ (by decide +kernel) (nt := .int) rfl (Nat.le_of_ble_eq_true rfl) ?_
  intro p e s m args below meth c Q ls hC hret hl hP
  obtain ⟨hx, hb, hr, hml, hown, hts, hK, -, hlocks, hZ⟩ := hC
  have hown : s.vm.findClass RX12 = some m.cls := hown
  have hS : va_S (jA ad) s.heap s.heap [] := va_S.rf
  have hA : ∀ q, jA ad q → jA ad q := fun _ h => h
  have hl : lv_has ls 4 [(0, .ref (ad 55)), (1, .int 0), (2, .int a2)] := hl
  have g2 := jrg t2
  refine lv_iload_n hx hb dX12_holdsAs_0 rfl (lv_at hl 1 rfl) ?_
  refine lv_iconst (v := 3) hx hb dX12_holdsAs_1 (by decide) ?_
  refine lv_icmp_eq (tgt := 10) hx hb dX12_holdsAs_2 (by decide) (fun c => absurd c (by decide)) (fun _ => ?_)
  refine lv_iload_n hx hb dX12_holdsAs_5 rfl (lv_at hl 1 rfl) ?_
  refine lv_iconst (v := 5) hx hb dX12_holdsAs_6 (by decide) ?_
  refine lv_icmp_ne (tgt := 24) hx hb dX12_holdsAs_7 (by decide) (fun _ => ?_) (fun c => absurd c (by decide))
  refine lv_iload_n hx hb dX12_holdsAs_24 rfl (lv_at hl 1 rfl) ?_
  refine lv_bipush (v := 6) hx hb dX12_holdsAs_25 (by decide) ?_
  refine lv_icmp_ne (tgt := 55) hx hb dX12_holdsAs_27 (by decide) (fun _ => ?_) (fun c => absurd c (by decide))
  refine lv_aload_n hx hb dX12_holdsAs_55 rfl (lv_at hl 0 rfl) ?_
  refine lv_bipush (v := 10) hx hb dX12_holdsAs_56 (by decide) ?_
  refine jcallVv (As := [.int 10]) (rest := []) ⟨hx, hb, hml, hown, hts⟩ hK hP hA hS hZ (c_X12_begins_10_2 l D cI cL ad zz hJ σ τ h55_55) cw_RX12_379 (jc_55 cI cL ad σ τ) rfl ⟨Nat.le_of_ble_eq_true rfl, Nat.le_of_ble_eq_true rfl⟩ rfl rfl rfl hl.1 rfl (Nat.le_of_ble_eq_true rfl) dX12_holdsAs_58 ⟨Nat.zero_le _, Nat.zero_le _⟩ (fun σ1 τ1 H locs h1 hP hS => ?_)
  obtain ⟨rfl, f3, f4, f5, m6, m7, h1⟩ := h1
  refine lv_aload_n hx hb dX12_holdsAs_61 rfl (lv_at hl 0 rfl) ?_
  refine lv_aload_n hx hb dX12_holdsAs_62 rfl (lv_at hl 0 rfl) ?_
  refine va_get (D := D) hx hb hts inlX12 hown hK hP 55 (jc_55 cI cL ad σ1 τ) rfl 56 (by decide) (hts _ kw_49_8) (fun _ h9 => h9) rfl dX12_holdsAs_63 ?_
  have m8 : σ1 55 56 = (σ 55 56) := (f4 56 (by decide))
  refine jtopr m8 ?_
  refine jtopr (jsame (rfl : (σ 55 56).toInt = (σ 55 56).toInt) jz_5 (by omega)) ?_
  refine lv_iload_n hx hb dX12_holdsAs_66 rfl (lv_at hl 2 rfl) ?_
  have z9 : (σ1 55 56).toInt = (σ 55 56).toInt := (congrArg Int32.toInt (show σ1 55 56 = (σ 55 56) from m8))
  refine jcallV (As := [.int 5, .int a2]) (rest := []) ⟨hx, hb, hml, hown, hts⟩ hK hP hA hS hZ (c_X12_putsAs_5_5_3 l D cI cL ad zz hJ σ1 τ a2 (A2) t2 m6 (by omega)) cw_RX12_382 (jc_55 cI cL ad σ1 τ) rfl ⟨Nat.le_of_ble_eq_true rfl, Nat.le_of_ble_eq_true rfl⟩ rfl rfl rfl hl.1 rfl (Nat.le_of_ble_eq_true rfl) dX12_holdsAs_67 ⟨Nat.zero_le _, Nat.zero_le _⟩ (fun r11 σ10 τ10 H locs h10 hP hS => ?_)
  obtain ⟨rfl, f12, f13, f14, m15, m16, h10⟩ := h10
  have h17 := h10
  obtain ⟨q19, k18⟩ := h17
  have q19 := q19.symm
  subst q19
  refine lv_iconst (v := 2) hx hb dX12_holdsAs_70 (by decide) ?_
  have g20 := jrg (rfl : (a2 + (σ1 55 57)).toInt = (a2 + (σ1 55 57)).toInt)
  refine lv_imul hx hb dX12_holdsAs_71 ?_
  refine lv_topi (fun x21 ex21 => ?_)
  have gx21 := jrg (rfl : x21.toInt = x21.toInt)
  have m22 : σ10 85 2 = 10 := ((f14 2 (by decide)).trans m7)
  exact hret x21 σ10 τ _ _ _ _ rfl ⟨rfl, (fun i hi => ((f12 i hi).trans (f3 i hi))), (fun i hi => ((f13 i hi).trans (f4 i hi))), (fun i hi => ((f14 i (imp_307 i hi)).trans (f5 i (imp_19 i hi)))), m15, m22, m16, ⟨(by rw [ex21, (show σ1 55 57 = σ 55 57 from (f4 57 (by decide)))]), trivial⟩⟩ hP hS dX12_holdsAs_72
set_option maxHeartbeats 4000000 in
set_option maxRecDepth 100000 in
theorem c_X12_holdsAs_5_5_1 (l : Launch) (D : va_G) (cI cL : ClassId) (ad zz : Nat → Nat) (hJ : jD ad) (σ : Nat → Nat → Int32) (τ : Nat → Nat → Int64) (a2 : Int32) (A2 : Int) (t2 : a2.toInt = A2) (h55_55 : σ 55 55 = 1) (hp0 : (σ 55 56).toInt = 5) : jM l yX12_holdsAs cX12_holdsAs 4 (some .int) ({ frames := 3, cells := 0, slots := 0, locals := 66 }) D cI cL ad zz [.ref (ad 55), .int 5, .int a2] σ τ (fun r σ' τ' => τ = τ' ∧ (∀ i : Nat, (i < 55 ∨ 55 < i) ∧ (i < 85 ∨ 85 < i) → σ' i = σ i) ∧ (∀ k : Nat, (k < 55 ∨ 55 < k) → σ' 55 k = σ 55 k) ∧ (∀ k : Nat, (k < 1 ∨ 1 < k) ∧ (k < 2 ∨ 2 < k) ∧ (k < 3 ∨ 3 < k) → σ' 85 k = σ 85 k) ∧ (σ' 55 55 = 4) ∧ (σ' 85 1 = 40) ∧ (σ' 85 2 = 10) ∧ (σ' 85 3 = 1) ∧ ((r = (-((a2 + (σ 55 57)) * 2)) ∧ True))) := by
  refine jM.of hJ (by decide +kernel) (nt := .int) rfl (Nat.le_of_ble_eq_true rfl) ?_
  intro p e s m args below meth c Q ls hC hret hl hP
  obtain ⟨hx, hb, hr, hml, hown, hts, hK, -, hlocks, hZ⟩ := hC
  have hown : s.vm.findClass RX12 = some m.cls := hown
  have hS : va_S (jA ad) s.heap s.heap [] := va_S.rf
  have hA : ∀ q, jA ad q → jA ad q := fun _ h => h
  have hl : lv_has ls 4 [(0, .ref (ad 55)), (1, .int 5), (2, .int a2)] := hl
  have g2 := jrg t2
  refine lv_iload_n hx hb dX12_holdsAs_0 rfl (lv_at hl 1 rfl) ?_
  refine lv_iconst (v := 3) hx hb dX12_holdsAs_1 (by decide) ?_
  refine lv_icmp_eq (tgt := 10) hx hb dX12_holdsAs_2 (by decide) (fun c => absurd c (by decide)) (fun _ => ?_)
  refine lv_iload_n hx hb dX12_holdsAs_5 rfl (lv_at hl 1 rfl) ?_
  refine lv_iconst (v := 5) hx hb dX12_holdsAs_6 (by decide) ?_
  refine lv_icmp_ne (tgt := 24) hx hb dX12_holdsAs_7 (by decide) (fun c => absurd (by decide) c) (fun _ => ?_)
  refine lv_aload_n hx hb dX12_holdsAs_10 rfl (lv_at hl 0 rfl) ?_
  refine lv_bipush (v := 40) hx hb dX12_holdsAs_11 (by decide) ?_
  refine jcallVv (As := [.int 40]) (rest := []) ⟨hx, hb, hml, hown, hts⟩ hK hP hA hS hZ (c_X12_begins_40_1 l D cI cL ad zz hJ σ τ h55_55) cw_RX12_379 (jc_55 cI cL ad σ τ) rfl ⟨Nat.le_of_ble_eq_true rfl, Nat.le_of_ble_eq_true rfl⟩ rfl rfl rfl hl.1 rfl (Nat.le_of_ble_eq_true rfl) dX12_holdsAs_13 ⟨Nat.zero_le _, Nat.zero_le _⟩ (fun σ1 τ1 H locs h1 hP hS => ?_)
  obtain ⟨rfl, f3, f4, f5, m6, m7, h1⟩ := h1
  refine lv_aload_n hx hb dX12_holdsAs_16 rfl (lv_at hl 0 rfl) ?_
  refine lv_iconst (v := 0) hx hb dX12_holdsAs_17 (by decide) ?_
  refine lv_iload_n hx hb dX12_holdsAs_18 rfl (lv_at hl 2 rfl) ?_
  have z8 : (σ1 55 56).toInt = (σ 55 56).toInt := (congrArg Int32.toInt (show σ1 55 56 = (σ 55 56) from (f4 56 (by decide))))
  refine jcallV (As := [.int 0, .int a2]) (rest := []) ⟨hx, hb, hml, hown, hts⟩ hK hP hA hS hZ (c_X12_holdsAs_5_0_2 l D cI cL ad zz hJ σ1 τ a2 (A2) t2 m6 (by omega)) cw_RX12_388 (jc_55 cI cL ad σ1 τ) rfl ⟨Nat.le_of_ble_eq_true rfl, Nat.le_of_ble_eq_true rfl⟩ rfl rfl rfl hl.1 rfl (Nat.le_of_ble_eq_true rfl) dX12_holdsAs_19 ⟨Nat.zero_le _, Nat.zero_le _⟩ (fun r10 σ9 τ9 H locs h9 hP hS => ?_)
  obtain ⟨rfl, f11, f12, f13, m14, m15, m16, h9⟩ := h9
  have h17 := h9
  obtain ⟨q19, k18⟩ := h17
  have q19 := q19.symm
  subst q19
  refine lv_ineg hx hb dX12_holdsAs_22 ?_
  refine lv_topi (fun x20 ex20 => ?_)
  have gx20 := jrg (rfl : x20.toInt = x20.toInt)
  have m21 : σ9 85 1 = 40 := ((f13 1 (by decide)).trans m7)
  exact hret x20 σ9 τ _ _ _ _ rfl ⟨rfl, (fun i hi => ((f11 i hi).trans (f3 i hi))), (fun i hi => ((f12 i hi).trans (f4 i hi))), (fun i hi => ((f13 i (imp_308 i hi)).trans (f5 i (imp_350 i hi)))), m14, m21, m15, m16, ⟨(by rw [ex20, (show σ1 55 57 = σ 55 57 from (f4 57 (by decide)))]), trivial⟩⟩ hP hS dX12_holdsAs_23
set_option maxHeartbeats 4000000 in
set_option maxRecDepth 100000 in
theorem c_X12_begins_60_4 (l : Launch) (D : va_G) (cI cL : ClassId) (ad zz : Nat → Nat) (hJ : jD ad) (σ : Nat → Nat → Int32) (τ : Nat → Nat → Int64) (h55_55 : σ 55 55 = 4) : jMv l yX12_begins cX12_begins 2 none ({ frames := 0, cells := 0, slots := 0, locals := 0 }) D cI cL ad zz [.ref (ad 55), .int 60] σ τ (fun σ' τ' => τ = τ' ∧ (∀ i : Nat, (i < 55 ∨ 55 < i) ∧ (i < 85 ∨ 85 < i) → σ' i = σ i) ∧ (∀ k : Nat, (k < 55 ∨ 55 < k) → σ' 55 k = σ 55 k) ∧ (∀ k : Nat, (k < 4 ∨ 4 < k) → σ' 85 k = σ 85 k) ∧ (σ' 55 55 = 5) ∧ (σ' 85 4 = 60) ∧ True) := by
  refine jMv.of hJ (by decide +kernel) rfl (Nat.le_of_ble_eq_true rfl) ?_
  intro p e s m args below meth c Q ls hC hret hl hP
  obtain ⟨hx, hb, hr, hml, hown, hts, hK, -, hlocks, hZ⟩ := hC
  have hown : s.vm.findClass RX12 = some m.cls := hown
  have hS : va_S (jA ad) s.heap s.heap [] := va_S.rf
  have hA : ∀ q, jA ad q → jA ad q := fun _ h => h
  have hl : lv_has ls 2 [(0, .ref (ad 55)), (1, .int 60)] := hl
  refine lv_aload_n hx hb dX12_begins_0 rfl (lv_at hl 0 rfl) ?_
  refine va_get (D := D) hx hb hts inlX12 hown hK hP 55 (jc_55 cI cL ad σ τ) rfl 55 (by decide) (hts _ kw_49_7) (fun _ h9 => h9) rfl dX12_begins_1 ?_
  refine jtopr h55_55 ?_
  refine lv_bipush (v := 24) hx hb dX12_begins_4 (by decide) ?_
  refine lv_icmp_ge (tgt := 19) hx hb dX12_begins_6 (by decide) (fun c => absurd c (by decide)) (fun _ => ?_)
  refine lv_aload_n hx hb dX12_begins_9 rfl (lv_at hl 0 rfl) ?_
  refine va_get (D := D) hx hb hts inlX12 hown hK hP 55 (jc_55 cI cL ad σ τ) rfl 54 (by decide) (hts _ kw_8_10) (fun _ h9 => h9) rfl dX12_begins_10 ?_
  refine lv_aload_n hx hb dX12_begins_13 rfl (lv_at hl 0 rfl) ?_
  refine va_get (D := D) hx hb hts inlX12 hown hK hP 55 (jc_55 cI cL ad σ τ) rfl 55 (by decide) (hts _ kw_49_7) (fun _ h9 => h9) rfl dX12_begins_14 ?_
  refine jtopr h55_55 ?_
  refine lv_iload_n hx hb dX12_begins_17 rfl (lv_at hl 1 rfl) ?_
  refine jast hx hb hK hP hJ hA hS (jc_85 cI cL ad σ τ) (ja_85 cI cL ad σ τ _ _) (jin jz_4 (by omega) (by omega)) dX12_begins_18 (fun σ1 H locs eσ1 hP hS => ?_)
  have eσ1 : σ1 = jup σ 85 4 60 := eσ1
  refine lv_aload_n hx hb dX12_begins_19 rfl (lv_at hl 0 rfl) ?_
  refine lv_dup hx hb dX12_begins_20 rfl ?_
  refine va_get (D := D) hx hb hts inlX12 hown hK hP 55 (jc_55 cI cL ad σ1 τ) rfl 55 (by decide) (hts _ kw_49_7) (fun _ h9 => h9) rfl dX12_begins_21 ?_
  have m2 : σ1 55 55 = 4 := ((congrFun (jnp 55 eσ1 (by decide)) 55).trans h55_55)
  refine jtopr m2 ?_
  refine lv_iconst (v := 1) hx hb dX12_begins_24 (by decide) ?_
  refine lv_iadd hx hb dX12_begins_25 ?_
  refine jtopr (y := 5) (by decide) ?_
  refine jput (ty := .int) hx hb hts inlX12 tyX12 tyX12_ok nmX12 hown hK hP hJ hA hS (jc_55 cI cL ad σ1 τ) rfl (k := 55) (by decide) (Nat.le_of_ble_eq_true rfl) (jp_55_55 cI cL ad σ1 τ 5) (hts _ kw_49_7) (fun _ h9 => h9) rfl (by decide +kernel) rfl rfl dX12_begins_26 (fun σ3 H locs eσ3 hP hS => ?_)
  have m4 : σ3 55 55 = 5 := (jsp eσ3)
  have m5 : σ3 85 4 = 60 := ((congrFun (jnp 85 eσ3 (by decide)) 4).trans (jsp eσ1))
  exact hret σ3 τ _ _ _ _ ⟨rfl, (fun i hi => ((jnp i eσ3 (imp_345 i hi)).trans (jnp i eσ1 (imp_346 i hi)))), (fun i hi => ((jkp i eσ3 (imp_164 i hi)).trans (congrFun (jnp 55 eσ1 (by decide)) i))), (fun i hi => ((congrFun (jnp 85 eσ3 (by decide)) i).trans (jkp i eσ1 (imp_310 i hi)))), m4, m5, trivial⟩ hP hS dX12_begins_29
set_option maxHeartbeats 4000000 in
set_option maxRecDepth 100000 in
theorem c_X12_begins_30_5 (l : Launch) (D : va_G) (cI cL : ClassId) (ad zz : Nat → Nat) (hJ : jD ad) (σ : Nat → Nat → Int32) (τ : Nat → Nat → Int64) (h55_55 : σ 55 55 = 5) : jMv l yX12_begins cX12_begins 2 none ({ frames := 0, cells := 0, slots := 0, locals := 0 }) D cI cL ad zz [.ref (ad 55), .int 30] σ τ (fun σ' τ' => τ = τ' ∧ (∀ i : Nat, (i < 55 ∨ 55 < i) ∧ (i < 85 ∨ 85 < i) → σ' i = σ i) ∧ (∀ k : Nat, (k < 55 ∨ 55 < k) → σ' 55 k = σ 55 k) ∧ (∀ k : Nat, (k < 5 ∨ 5 < k) → σ' 85 k = σ 85 k) ∧ (σ' 55 55 = 6) ∧ (σ' 85 5 = 30) ∧ True) := by
  refine jMv.of hJ (by decide +kernel) rfl (Nat.le_of_ble_eq_true rfl) ?_
  intro p e s m args below meth c Q ls hC hret hl hP
  obtain ⟨hx, hb, hr, hml, hown, hts, hK, -, hlocks, hZ⟩ := hC
  have hown : s.vm.findClass RX12 = some m.cls := hown
  have hS : va_S (jA ad) s.heap s.heap [] := va_S.rf
  have hA : ∀ q, jA ad q → jA ad q := fun _ h => h
  have hl : lv_has ls 2 [(0, .ref (ad 55)), (1, .int 30)] := hl
  refine lv_aload_n hx hb dX12_begins_0 rfl (lv_at hl 0 rfl) ?_
  refine va_get (D := D) hx hb hts inlX12 hown hK hP 55 (jc_55 cI cL ad σ τ) rfl 55 (by decide) (hts _ kw_49_7) (fun _ h9 => h9) rfl dX12_begins_1 ?_
  refine jtopr h55_55 ?_
  refine lv_bipush (v := 24) hx hb dX12_begins_4 (by decide) ?_
  refine lv_icmp_ge (tgt := 19) hx hb dX12_begins_6 (by decide) (fun c => absurd c (by decide)) (fun _ => ?_)
  refine lv_aload_n hx hb dX12_begins_9 rfl (lv_at hl 0 rfl) ?_
  refine va_get (D := D) hx hb hts inlX12 hown hK hP 55 (jc_55 cI cL ad σ τ) rfl 54 (by decide) (hts _ kw_8_10) (fun _ h9 => h9) rfl dX12_begins_10 ?_
  refine lv_aload_n hx hb dX12_begins_13 rfl (lv_at hl 0 rfl) ?_
  refine va_get (D := D) hx hb hts inlX12 hown hK hP 55 (jc_55 cI cL ad σ τ) rfl 55 (by decide) (hts _ kw_49_7) (fun _ h9 => h9) rfl dX12_begins_14 ?_
  refine jtopr h55_55 ?_
  refine lv_iload_n hx hb dX12_begins_17 rfl (lv_at hl 1 rfl) ?_
  refine jast hx hb hK hP hJ hA hS (jc_85 cI cL ad σ τ) (ja_85 cI cL ad σ τ _ _) (jin jz_5 (by omega) (by omega)) dX12_begins_18 (fun σ1 H locs eσ1 hP hS => ?_)
  have eσ1 : σ1 = jup σ 85 5 30 := eσ1
  refine lv_aload_n hx hb dX12_begins_19 rfl (lv_at hl 0 rfl) ?_
  refine lv_dup hx hb dX12_begins_20 rfl ?_
  refine va_get (D := D) hx hb hts inlX12 hown hK hP 55 (jc_55 cI cL ad σ1 τ) rfl 55 (by decide) (hts _ kw_49_7) (fun _ h9 => h9) rfl dX12_begins_21 ?_
  have m2 : σ1 55 55 = 5 := ((congrFun (jnp 55 eσ1 (by decide)) 55).trans h55_55)
  refine jtopr m2 ?_
  refine lv_iconst (v := 1) hx hb dX12_begins_24 (by decide) ?_
  refine lv_iadd hx hb dX12_begins_25 ?_
  refine jtopr (y := 6) (by decide) ?_
  refine jput (ty := .int) hx hb hts inlX12 tyX12 tyX12_ok nmX12 hown hK hP hJ hA hS (jc_55 cI cL ad σ1 τ) rfl (k := 55) (by decide) (Nat.le_of_ble_eq_true rfl) (jp_55_55 cI cL ad σ1 τ 6) (hts _ kw_49_7) (fun _ h9 => h9) rfl (by decide +kernel) rfl rfl dX12_begins_26 (fun σ3 H locs eσ3 hP hS => ?_)
  have m4 : σ3 55 55 = 6 := (jsp eσ3)
  have m5 : σ3 85 5 = 30 := ((congrFun (jnp 85 eσ3 (by decide)) 5).trans (jsp eσ1))
  exact hret σ3 τ _ _ _ _ ⟨rfl, (fun i hi => ((jnp i eσ3 (imp_345 i hi)).trans (jnp i eσ1 (imp_346 i hi)))), (fun i hi => ((jkp i eσ3 (imp_164 i hi)).trans (congrFun (jnp 55 eσ1 (by decide)) i))), (fun i hi => ((congrFun (jnp 85 eσ3 (by decide)) i).trans (jkp i eσ1 (imp_158 i hi)))), m4, m5, trivial⟩ hP hS dX12_begins_29
set_option maxHeartbeats 4000000 in
set_option maxRecDepth 100000 in
theorem c_X12_givesAs_5_0_6_x1 (l : Launch) (D : va_G) (cI cL : ClassId) (ad zz : Nat → Nat) (hJ : jD ad) (σ : Nat → Nat → Int32) (τ : Nat → Nat → Int64) (h55_55 : σ 55 55 = 6) (hp0 : (σ 55 56).toInt = 5) : jM l yX12_givesAs cX12_givesAs 4 (some .int) ({ frames := 1, cells := 0, slots := 0, locals := 21 }) D cI cL ad zz [.ref (ad 55), .int 0, .int 1] σ τ (fun r σ' τ' => τ = τ' ∧ (∀ i : Nat, (i < 55 ∨ 55 < i) ∧ (i < 85 ∨ 85 < i) → σ' i = σ i) ∧ (∀ k : Nat, (k < 55 ∨ 55 < k) → σ' 55 k = σ 55 k) ∧ (∀ k : Nat, (k < 6 ∨ 6 < k) → σ' 85 k = σ 85 k) ∧ (σ' 55 55 = 7) ∧ (σ' 85 6 = 11) ∧ ((r = (1 ^^^ (σ 55 57)) ∧ True))) := by
  refine jM.of hJ (by decide +kernel) (nt := .int) rfl (Nat.le_of_ble_eq_true rfl) ?_
  intro p e s m args below meth c Q ls hC hret hl hP
  obtain ⟨hx, hb, hr, hml, hown, hts, hK, -, hlocks, hZ⟩ := hC
  have hown : s.vm.findClass RX12 = some m.cls := hown
  have hS : va_S (jA ad) s.heap s.heap [] := va_S.rf
  have hA : ∀ q, jA ad q → jA ad q := fun _ h => h
  have hl : lv_has ls 4 [(0, .ref (ad 55)), (1, .int 0), (2, .int 1)] := hl
  refine lv_iload_n hx hb dX12_givesAs_0 rfl (lv_at hl 1 rfl) ?_
  refine lv_iconst (v := 5) hx hb dX12_givesAs_1 (by decide) ?_
  refine lv_icmp_ne (tgt := 30) hx hb dX12_givesAs_2 (by decide) (fun _ => ?_) (fun c => absurd c (by decide))
  refine lv_iload_n hx hb dX12_givesAs_30 rfl (lv_at hl 1 rfl) ?_
  refine lv_iconst (v := 2) hx hb dX12_givesAs_31 (by decide) ?_
  refine lv_icmp_eq (tgt := 40) hx hb dX12_givesAs_32 (by decide) (fun c => absurd c (by decide)) (fun _ => ?_)
  refine lv_iload_n hx hb dX12_givesAs_35 rfl (lv_at hl 1 rfl) ?_
  refine lv_iconst (v := 3) hx hb dX12_givesAs_36 (by decide) ?_
  refine lv_icmp_ne (tgt := 55) hx hb dX12_givesAs_37 (by decide) (fun _ => ?_) (fun c => absurd c (by decide))
  refine lv_aload_n hx hb dX12_givesAs_55 rfl (lv_at hl 0 rfl) ?_
  refine lv_bipush (v := 11) hx hb dX12_givesAs_56 (by decide) ?_
  refine jcallVv (As := [.int 11]) (rest := []) ⟨hx, hb, hml, hown, hts⟩ hK hP hA hS hZ (c_X12_begins_11_6 l D cI cL ad zz hJ σ τ h55_55) cw_RX12_379 (jc_55 cI cL ad σ τ) rfl ⟨Nat.le_of_ble_eq_true rfl, Nat.le_of_ble_eq_true rfl⟩ rfl rfl rfl hl.1 rfl (Nat.le_of_ble_eq_true rfl) dX12_givesAs_58 ⟨Nat.zero_le _, Nat.zero_le _⟩ (fun σ1 τ1 H locs h1 hP hS => ?_)
  obtain ⟨rfl, f3, f4, f5, m6, m7, h1⟩ := h1
  refine lv_iload_n hx hb dX12_givesAs_61 rfl (lv_at hl 2 rfl) ?_
  refine lv_aload_n hx hb dX12_givesAs_62 rfl (lv_at hl 0 rfl) ?_
  refine va_get (D := D) hx hb hts inlX12 hown hK hP 55 (jc_55 cI cL ad σ1 τ) rfl 57 (by decide) (hts _ kw_49_9) (fun _ h9 => h9) rfl dX12_givesAs_63 ?_
  have m8 : σ1 55 57 = (σ 55 57) := (f4 57 (by decide))
  refine jtopr m8 ?_
  refine lv_ixor hx hb dX12_givesAs_66 ?_
  refine lv_topi (fun x9 ex9 => ?_)
  have gx9 := jrg (rfl : x9.toInt = x9.toInt)
  exact hret x9 σ1 τ _ _ _ _ rfl ⟨rfl, (fun i hi => (f3 i hi)), (fun i hi => (f4 i hi)), (fun i hi => (f5 i hi)), m6, m7, ⟨(by rw [ex9]), trivial⟩⟩ hP hS dX12_givesAs_67
set_option maxHeartbeats 4000000 in
set_option maxRecDepth 100000 in
theorem c_X12_givesAs_5_3_5_x1 (l : Launch) (D : va_G) (cI cL : ClassId) (ad zz : Nat → Nat) (hJ : jD ad) (σ : Nat → Nat → Int32) (τ : Nat → Nat → Int64) (h55_55 : σ 55 55 = 5) (hp0 : (σ 55 56).toInt = 5) : jM l yX12_givesAs cX12_givesAs 4 (some .int) ({ frames := 2, cells := 0, slots := 0, locals := 44 }) D cI cL ad zz [.ref (ad 55), .int 3, .int 1] σ τ (fun r σ' τ' => τ = τ' ∧ (∀ i : Nat, (i < 55 ∨ 55 < i) ∧ (i < 85 ∨ 85 < i) → σ' i = σ i) ∧ (∀ k : Nat, (k < 55 ∨ 55 < k) → σ' 55 k = σ 55 k) ∧ (∀ k : Nat, (k < 5 ∨ 5 < k) ∧ (k < 6 ∨ 6 < k) → σ' 85 k = σ 85 k) ∧ (σ' 55 55 = 7) ∧ (σ' 85 5 = 30) ∧ (σ' 85 6 = 11) ∧ ((r = ((1 ^^^ (σ 55 57)) * 3) ∧ True))) := by
  refine jM.of hJ (by decide +kernel) (nt := .int) rfl (Nat.le_of_ble_eq_true rfl) ?_
  intro p e s m args below meth c Q ls hC hret hl hP
  obtain ⟨hx, hb, hr, hml, hown, hts, hK, -, hlocks, hZ⟩ := hC
  have hown : s.vm.findClass RX12 = some m.cls := hown
  have hS : va_S (jA ad) s.heap s.heap [] := va_S.rf
  have hA : ∀ q, jA ad q → jA ad q := fun _ h => h
  have hl : lv_has ls 4 [(0, .ref (ad 55)), (1, .int 3), (2, .int 1)] := hl
  refine lv_iload_n hx hb dX12_givesAs_0 rfl (lv_at hl 1 rfl) ?_
  refine lv_iconst (v := 5) hx hb dX12_givesAs_1 (by decide) ?_
  refine lv_icmp_ne (tgt := 30) hx hb dX12_givesAs_2 (by decide) (fun _ => ?_) (fun c => absurd c (by decide))
  refine lv_iload_n hx hb dX12_givesAs_30 rfl (lv_at hl 1 rfl) ?_
  refine lv_iconst (v := 2) hx hb dX12_givesAs_31 (by decide) ?_
  refine lv_icmp_eq (tgt := 40) hx hb dX12_givesAs_32 (by decide) (fun c => absurd c (by decide)) (fun _ => ?_)
  refine lv_iload_n hx hb dX12_givesAs_35 rfl (lv_at hl 1 rfl) ?_
  refine lv_iconst (v := 3) hx hb dX12_givesAs_36 (by decide) ?_
  refine lv_icmp_ne (tgt := 55) hx hb dX12_givesAs_37 (by decide) (fun c => absurd (by decide) c) (fun _ => ?_)
  refine lv_aload_n hx hb dX12_givesAs_40 rfl (lv_at hl 0 rfl) ?_
  refine lv_bipush (v := 30) hx hb dX12_givesAs_41 (by decide) ?_
  refine jcallVv (As := [.int 30]) (rest := []) ⟨hx, hb, hml, hown, hts⟩ hK hP hA hS hZ (c_X12_begins_30_5 l D cI cL ad zz hJ σ τ h55_55) cw_RX12_379 (jc_55 cI cL ad σ τ) rfl ⟨Nat.le_of_ble_eq_true rfl, Nat.le_of_ble_eq_true rfl⟩ rfl rfl rfl hl.1 rfl (Nat.le_of_ble_eq_true rfl) dX12_givesAs_43 ⟨Nat.zero_le _, Nat.zero_le _⟩ (fun σ1 τ1 H locs h1 hP hS => ?_)
  obtain ⟨rfl, f3, f4, f5, m6, m7, h1⟩ := h1
  refine lv_aload_n hx hb dX12_givesAs_46 rfl (lv_at hl 0 rfl) ?_
  refine lv_iconst (v := 0) hx hb dX12_givesAs_47 (by decide) ?_
  refine lv_iload_n hx hb dX12_givesAs_48 rfl (lv_at hl 2 rfl) ?_
  have z8 : (σ1 55 56).toInt = (σ 55 56).toInt := (congrArg Int32.toInt (show σ1 55 56 = (σ 55 56) from (f4 56 (by decide))))
  refine jcallV (As := [.int 0, .int 1]) (rest := []) ⟨hx, hb, hml, hown, hts⟩ hK hP hA hS hZ (c_X12_givesAs_5_0_6_x1 l D cI cL ad zz hJ σ1 τ m6 (by omega)) cw_RX12_394 (jc_55 cI cL ad σ1 τ) rfl ⟨Nat.le_of_ble_eq_true rfl, Nat.le_of_ble_eq_true rfl⟩ rfl rfl rfl hl.1 rfl (Nat.le_of_ble_eq_true rfl) dX12_givesAs_49 ⟨Nat.zero_le _, Nat.zero_le _⟩ (fun r10 σ9 τ9 H locs h9 hP hS => ?_)
  obtain ⟨rfl, f11, f12, f13, m14, m15, h9⟩ := h9
  have h16 := h9
  obtain ⟨q18, k17⟩ := h16
  have q18 := q18.symm
  subst q18
  refine lv_iconst (v := 3) hx hb dX12_givesAs_52 (by decide) ?_
  have g19 := jrg (rfl : (1 ^^^ (σ1 55 57)).toInt = (1 ^^^ (σ1 55 57)).toInt)
  refine lv_imul hx hb dX12_givesAs_53 ?_
  refine lv_topi (fun x20 ex20 => ?_)
  have gx20 := jrg (rfl : x20.toInt = x20.toInt)
  have m21 : σ9 85 5 = 30 := ((f13 5 (by decide)).trans m7)
  exact hret x20 σ9 τ _ _ _ _ rfl ⟨rfl, (fun i hi => ((f11 i hi).trans (f3 i hi))), (fun i hi => ((f12 i hi).trans (f4 i hi))), (fun i hi => ((f13 i (imp_332 i hi)).trans (f5 i (imp_359 i hi)))), m14, m21, m15, ⟨(by rw [ex20, (show σ1 55 57 = σ 55 57 from (f4 57 (by decide)))]), trivial⟩⟩ hP hS dX12_givesAs_54
set_option maxHeartbeats 4000000 in
set_option maxRecDepth 100000 in
theorem c_X12_begins_1_7 (l : Launch) (D : va_G) (cI cL : ClassId) (ad zz : Nat → Nat) (hJ : jD ad) (σ : Nat → Nat → Int32) (τ : Nat → Nat → Int64) (h55_55 : σ 55 55 = 7) : jMv l yX12_begins cX12_begins 2 none ({ frames := 0, cells := 0, slots := 0, locals := 0 }) D cI cL ad zz [.ref (ad 55), .int 1] σ τ (fun σ' τ' => τ = τ' ∧ (∀ i : Nat, (i < 55 ∨ 55 < i) ∧ (i < 85 ∨ 85 < i) → σ' i = σ i) ∧ (∀ k : Nat, (k < 55 ∨ 55 < k) → σ' 55 k = σ 55 k) ∧ (∀ k : Nat, (k < 7 ∨ 7 < k) → σ' 85 k = σ 85 k) ∧ (σ' 55 55 = 8) ∧ (σ' 85 7 = 1) ∧ True) := by
  refine jMv.of hJ (by decide +kernel) rfl (Nat.le_of_ble_eq_true rfl) ?_
  intro p e s m args below meth c Q ls hC hret hl hP
  obtain ⟨hx, hb, hr, hml, hown, hts, hK, -, hlocks, hZ⟩ := hC
  have hown : s.vm.findClass RX12 = some m.cls := hown
  have hS : va_S (jA ad) s.heap s.heap [] := va_S.rf
  have hA : ∀ q, jA ad q → jA ad q := fun _ h => h
  have hl : lv_has ls 2 [(0, .ref (ad 55)), (1, .int 1)] := hl
  refine lv_aload_n hx hb dX12_begins_0 rfl (lv_at hl 0 rfl) ?_
  refine va_get (D := D) hx hb hts inlX12 hown hK hP 55 (jc_55 cI cL ad σ τ) rfl 55 (by decide) (hts _ kw_49_7) (fun _ h9 => h9) rfl dX12_begins_1 ?_
  refine jtopr h55_55 ?_
  refine lv_bipush (v := 24) hx hb dX12_begins_4 (by decide) ?_
  refine lv_icmp_ge (tgt := 19) hx hb dX12_begins_6 (by decide) (fun c => absurd c (by decide)) (fun _ => ?_)
  refine lv_aload_n hx hb dX12_begins_9 rfl (lv_at hl 0 rfl) ?_
  refine va_get (D := D) hx hb hts inlX12 hown hK hP 55 (jc_55 cI cL ad σ τ) rfl 54 (by decide) (hts _ kw_8_10) (fun _ h9 => h9) rfl dX12_begins_10 ?_
  refine lv_aload_n hx hb dX12_begins_13 rfl (lv_at hl 0 rfl) ?_
  refine va_get (D := D) hx hb hts inlX12 hown hK hP 55 (jc_55 cI cL ad σ τ) rfl 55 (by decide) (hts _ kw_49_7) (fun _ h9 => h9) rfl dX12_begins_14 ?_
  refine jtopr h55_55 ?_
  refine lv_iload_n hx hb dX12_begins_17 rfl (lv_at hl 1 rfl) ?_
  refine jast hx hb hK hP hJ hA hS (jc_85 cI cL ad σ τ) (ja_85 cI cL ad σ τ _ _) (jin jz_7 (by omega) (by omega)) dX12_begins_18 (fun σ1 H locs eσ1 hP hS => ?_)
  have eσ1 : σ1 = jup σ 85 7 1 := eσ1
  refine lv_aload_n hx hb dX12_begins_19 rfl (lv_at hl 0 rfl) ?_
  refine lv_dup hx hb dX12_begins_20 rfl ?_
  refine va_get (D := D) hx hb hts inlX12 hown hK hP 55 (jc_55 cI cL ad σ1 τ) rfl 55 (by decide) (hts _ kw_49_7) (fun _ h9 => h9) rfl dX12_begins_21 ?_
  have m2 : σ1 55 55 = 7 := ((congrFun (jnp 55 eσ1 (by decide)) 55).trans h55_55)
  refine jtopr m2 ?_
  refine lv_iconst (v := 1) hx hb dX12_begins_24 (by decide) ?_
  refine lv_iadd hx hb dX12_begins_25 ?_
  refine jtopr (y := 8) (by decide) ?_
  refine jput (ty := .int) hx hb hts inlX12 tyX12 tyX12_ok nmX12 hown hK hP hJ hA hS (jc_55 cI cL ad σ1 τ) rfl (k := 55) (by decide) (Nat.le_of_ble_eq_true rfl) (jp_55_55 cI cL ad σ1 τ 8) (hts _ kw_49_7) (fun _ h9 => h9) rfl (by decide +kernel) rfl rfl dX12_begins_26 (fun σ3 H locs eσ3 hP hS => ?_)
  have m4 : σ3 55 55 = 8 := (jsp eσ3)
  have m5 : σ3 85 7 = 1 := ((congrFun (jnp 85 eσ3 (by decide)) 7).trans (jsp eσ1))
  exact hret σ3 τ _ _ _ _ ⟨rfl, (fun i hi => ((jnp i eσ3 (imp_345 i hi)).trans (jnp i eσ1 (imp_346 i hi)))), (fun i hi => ((jkp i eσ3 (imp_164 i hi)).trans (congrFun (jnp 55 eσ1 (by decide)) i))), (fun i hi => ((congrFun (jnp 85 eσ3 (by decide)) i).trans (jkp i eσ1 (imp_76 i hi)))), m4, m5, trivial⟩ hP hS dX12_begins_29
set_option maxHeartbeats 4000000 in
set_option maxRecDepth 100000 in
theorem c_X12_putsAs_5_5_7_x2 (l : Launch) (D : va_G) (cI cL : ClassId) (ad zz : Nat → Nat) (hJ : jD ad) (σ : Nat → Nat → Int32) (τ : Nat → Nat → Int64) (h55_55 : σ 55 55 = 7) (hp0 : (σ 55 56).toInt = 5) : jM l yX12_putsAs cX12_putsAs 3 (some .int) ({ frames := 1, cells := 0, slots := 0, locals := 21 }) D cI cL ad zz [.ref (ad 55), .int 5, .int 2] σ τ (fun r σ' τ' => τ = τ' ∧ (∀ i : Nat, (i < 55 ∨ 55 < i) ∧ (i < 85 ∨ 85 < i) → σ' i = σ i) ∧ (∀ k : Nat, (k < 55 ∨ 55 < k) → σ' 55 k = σ 55 k) ∧ (∀ k : Nat, (k < 7 ∨ 7 < k) → σ' 85 k = σ 85 k) ∧ (σ' 55 55 = 8) ∧ (σ' 85 7 = 1) ∧ ((r = (2 + (σ 55 57)) ∧ True))) := by
  refine jM.of hJ (by decide +kernel) (nt := .int) rfl (Nat.le_of_ble_eq_true rfl) ?_
  intro p e s m args below meth c Q ls hC hret hl hP
  obtain ⟨hx, hb, hr, hml, hown, hts, hK, -, hlocks, hZ⟩ := hC
  have hown : s.vm.findClass RX12 = some m.cls := hown
  have hS : va_S (jA ad) s.heap s.heap [] := va_S.rf
  have hA : ∀ q, jA ad q → jA ad q := fun _ h => h
  have hl : lv_has ls 3 [(0, .ref (ad 55)), (1, .int 5), (2, .int 2)] := hl
  refine lv_iload_n hx hb dX12_putsAs_0 rfl (lv_at hl 1 rfl) ?_
  refine lv_iconst (v := 4) hx hb dX12_putsAs_1 (by decide) ?_
  refine lv_icmp_ne (tgt := 20) hx hb dX12_putsAs_2 (by decide) (fun _ => ?_) (fun c => absurd c (by decide))
  refine lv_iload_n hx hb dX12_putsAs_20 rfl (lv_at hl 1 rfl) ?_
  refine lv_iconst (v := 1) hx hb dX12_putsAs_21 (by decide) ?_
  refine lv_icmp_ne (tgt := 40) hx hb dX12_putsAs_22 (by decide) (fun _ => ?_) (fun c => absurd c (by decide))
  refine lv_aload_n hx hb dX12_putsAs_40 rfl (lv_at hl 0 rfl) ?_
  refine lv_iconst (v := 1) hx hb dX12_putsAs_41 (by decide) ?_
  refine jcallVv (As := [.int 1]) (rest := []) ⟨hx, hb, hml, hown, hts⟩ hK hP hA hS hZ (c_X12_begins_1_7 l D cI cL ad zz hJ σ τ h55_55) cw_RX12_379 (jc_55 cI cL ad σ τ) rfl ⟨Nat.le_of_ble_eq_true rfl, Nat.le_of_ble_eq_true rfl⟩ rfl rfl rfl hl.1 rfl (Nat.le_of_ble_eq_true rfl) dX12_putsAs_42 ⟨Nat.zero_le _, Nat.zero_le _⟩ (fun σ1 τ1 H locs h1 hP hS => ?_)
  obtain ⟨rfl, f3, f4, f5, m6, m7, h1⟩ := h1
  refine lv_iload_n hx hb dX12_putsAs_45 rfl (lv_at hl 2 rfl) ?_
  refine lv_aload_n hx hb dX12_putsAs_46 rfl (lv_at hl 0 rfl) ?_
  refine va_get (D := D) hx hb hts inlX12 hown hK hP 55 (jc_55 cI cL ad σ1 τ) rfl 57 (by decide) (hts _ kw_49_9) (fun _ h9 => h9) rfl dX12_putsAs_47 ?_
  have m8 : σ1 55 57 = (σ 55 57) := (f4 57 (by decide))
  refine jtopr m8 ?_
  have g9 := jrg (rfl : (σ 55 57).toInt = (σ 55 57).toInt)
  refine lv_iadd hx hb dX12_putsAs_50 ?_
  refine lv_topi (fun x10 ex10 => ?_)
  have gx10 := jrg (rfl : x10.toInt = x10.toInt)
  exact hret x10 σ1 τ _ _ _ _ rfl ⟨rfl, (fun i hi => (f3 i hi)), (fun i hi => (f4 i hi)), (fun i hi => (f5 i hi)), m6, m7, ⟨(by rw [ex10]), trivial⟩⟩ hP hS dX12_putsAs_51
set_option maxHeartbeats 4000000 in
set_option maxRecDepth 100000 in
theorem c_X12_givesAs_5_5_4_x1 (l : Launch) (D : va_G) (cI cL : ClassId) (ad zz : Nat → Nat) (hJ : jD ad) (σ : Nat → Nat → Int32) (τ : Nat → Nat → Int64) (h55_55 : σ 55 55 = 4) (hp0 : (σ 55 56).toInt = 5) : jM l yX12_givesAs cX12_givesAs 4 (some .int) ({ frames := 3, cells := 0, slots := 0, locals := 67 }) D cI cL ad zz [.ref (ad 55), .int 5, .int 1] σ τ (fun r σ' τ' => τ = τ' ∧ (∀ i : Nat, (i < 55 ∨ 55 < i) ∧ (i < 85 ∨ 85 < i) → σ' i = σ i) ∧ (∀ k : Nat, (k < 55 ∨ 55 < k) → σ' 55 k = σ 55 k) ∧ (∀ k : Nat, (k < 4 ∨ 4 < k) ∧ (k < 5 ∨ 5 < k) ∧ (k < 6 ∨ 6 < k) ∧ (k < 7 ∨ 7 < k) → σ' 85 k = σ 85 k) ∧ (σ' 55 55 = 8) ∧ (σ' 85 4 = 60) ∧ (σ' 85 5 = 30) ∧ (σ' 85 6 = 11) ∧ (σ' 85 7 = 1) ∧ ((r = (((1 ^^^ (σ 55 57)) * 3) - (2 + (σ 55 57))) ∧ True))) := by
  refine jM.of hJ (by decide +kernel) (nt := .int) rfl (Nat.le_of_ble_eq_true rfl) ?_
  intro p e s m args below meth c Q ls hC hret hl hP
  obtain ⟨hx, hb, hr, hml, hown, hts, hK, -, hlocks, hZ⟩ := hC
  have hown : s.vm.findClass RX12 = some m.cls := hown
  have hS : va_S (jA ad) s.heap s.heap [] := va_S.rf
  have hA : ∀ q, jA ad q → jA ad q := fun _ h => h
  have hl : lv_has ls 4 [(0, .ref (ad 55)), (1, .int 5), (2, .int 1)] := hl
  refine lv_iload_n hx hb dX12_givesAs_0 rfl (lv_at hl 1 rfl) ?_
  refine lv_iconst (v := 5) hx hb dX12_givesAs_1 (by decide) ?_
  refine lv_icmp_ne (tgt := 30) hx hb dX12_givesAs_2 (by decide) (fun c => absurd (by decide) c) (fun _ => ?_)
  refine lv_aload_n hx hb dX12_givesAs_5 rfl (lv_at hl 0 rfl) ?_
  refine lv_bipush (v := 60) hx hb dX12_givesAs_6 (by decide) ?_
  refine jcallVv (As := [.int 60]) (rest := []) ⟨hx, hb, hml, hown, hts⟩ hK hP hA hS hZ (c_X12_begins_60_4 l D cI cL ad zz hJ σ τ h55_55) cw_RX12_379 (jc_55 cI cL ad σ τ) rfl ⟨Nat.le_of_ble_eq_true rfl, Nat.le_of_ble_eq_true rfl⟩ rfl rfl rfl hl.1 rfl (Nat.le_of_ble_eq_true rfl) dX12_givesAs_8 ⟨Nat.zero_le _, Nat.zero_le _⟩ (fun σ1 τ1 H locs h1 hP hS => ?_)
  obtain ⟨rfl, f3, f4, f5, m6, m7, h1⟩ := h1
  refine lv_aload_n hx hb dX12_givesAs_11 rfl (lv_at hl 0 rfl) ?_
  refine lv_iconst (v := 3) hx hb dX12_givesAs_12 (by decide) ?_
  refine lv_iload_n hx hb dX12_givesAs_13 rfl (lv_at hl 2 rfl) ?_
  have z8 : (σ1 55 56).toInt = (σ 55 56).toInt := (congrArg Int32.toInt (show σ1 55 56 = (σ 55 56) from (f4 56 (by decide))))
  refine jcallV (As := [.int 3, .int 1]) (rest := []) ⟨hx, hb, hml, hown, hts⟩ hK hP hA hS hZ (c_X12_givesAs_5_3_5_x1 l D cI cL ad zz hJ σ1 τ m6 (by omega)) cw_RX12_394 (jc_55 cI cL ad σ1 τ) rfl ⟨Nat.le_of_ble_eq_true rfl, Nat.le_of_ble_eq_true rfl⟩ rfl rfl rfl hl.1 rfl (Nat.le_of_ble_eq_true rfl) dX12_givesAs_14 ⟨Nat.zero_le _, Nat.zero_le _⟩ (fun r10 σ9 τ9 H locs h9 hP hS => ?_)
  obtain ⟨rfl, f11, f12, f13, m14, m15, m16, h9⟩ := h9
  have h17 := h9
  obtain ⟨q19, k18⟩ := h17
  have q19 := q19.symm
  subst q19
  refine lv_istore_n (lv' := [(3, .int ((1 ^^^ (σ1 55 57)) * 3)), (0, .ref (ad 55)), (1, .int 5), (2, .int 1)]) hx hb dX12_givesAs_17 rfl hl (by decide) rfl (fun ls hl => ?_)
  refine lv_iload_n hx hb dX12_givesAs_18 rfl (lv_at hl 0 rfl) ?_
  refine lv_aload_n hx hb dX12_givesAs_19 rfl (lv_at hl 1 rfl) ?_
  refine lv_aload_n hx hb dX12_givesAs_20 rfl (lv_at hl 1 rfl) ?_
  refine va_get (D := D) hx hb hts inlX12 hown hK hP 55 (jc_55 cI cL ad σ9 τ) rfl 56 (by decide) (hts _ kw_49_8) (fun _ h9 => h9) rfl dX12_givesAs_21 ?_
  have m20 : σ9 55 56 = (σ 55 56) := ((f12 56 (by decide)).trans (f4 56 (by decide)))
  refine jtopr m20 ?_
  refine jtopr (jsame (rfl : (σ 55 56).toInt = (σ 55 56).toInt) jz_5 (by omega)) ?_
  refine lv_iconst (v := 2) hx hb dX12_givesAs_24 (by decide) ?_
  have z21 : (σ9 55 56).toInt = (σ 55 56).toInt := (congrArg Int32.toInt (show σ9 55 56 = (σ 55 56) from m20))
  refine jcallV (As := [.int 5, .int 2]) (rest := [.int ((1 ^^^ (σ1 55 57)) * 3)]) ⟨hx, hb, hml, hown, hts⟩ hK hP hA hS hZ (c_X12_putsAs_5_5_7_x2 l D cI cL ad zz hJ σ9 τ m14 (by omega)) cw_RX12_382 (jc_55 cI cL ad σ9 τ) rfl ⟨Nat.le_of_ble_eq_true rfl, Nat.le_of_ble_eq_true rfl⟩ rfl rfl rfl hl.1 rfl (Nat.le_of_ble_eq_true rfl) dX12_givesAs_25 ⟨Nat.zero_le _, Nat.zero_le _⟩ (fun r23 σ22 τ22 H locs h22 hP hS => ?_)
  obtain ⟨rfl, f24, f25, f26, m27, m28, h22⟩ := h22
  have h29 := h22
  obtain ⟨q31, k30⟩ := h29
  have q31 := q31.symm
  subst q31
  have g32 := jrg (rfl : ((1 ^^^ (σ1 55 57)) * 3).toInt = ((1 ^^^ (σ1 55 57)) * 3).toInt)
  have g33 := jrg (rfl : (2 + (σ9 55 57)).toInt = (2 + (σ9 55 57)).toInt)
  refine lv_isub hx hb dX12_givesAs_28 ?_
  refine lv_topi (fun x34 ex34 => ?_)
  have gx34 := jrg (rfl : x34.toInt = x34.toInt)
  have m35 : σ22 85 4 = 60 := ((f26 4 (by decide)).trans ((f13 4 (by decide)).trans m7))
  have m36 : σ22 85 5 = 30 := ((f26 5 (by decide)).trans m15)
  have m37 : σ22 85 6 = 11 := ((f26 6 (by decide)).trans m16)
  exact hret x34 σ22 τ _ _ _ _ rfl ⟨rfl, (fun i hi => ((f24 i hi).trans ((f11 i hi).trans (f3 i hi)))), (fun i hi => ((f25 i hi).trans ((f12 i hi).trans (f4 i hi)))), (fun i hi => ((f26 i (imp_334 i hi)).trans ((f13 i (imp_335 i hi)).trans (f5 i (imp_360 i hi))))), m27, m35, m36, m37, m28, ⟨(by rw [ex34, (show σ1 55 57 = σ 55 57 from (f4 57 (by decide))), (show σ9 55 57 = σ 55 57 from ((f12 57 (by decide)).trans (f4 57 (by decide))))]), trivial⟩⟩ hP hS dX12_givesAs_29
set_option maxHeartbeats 4000000 in
set_option maxRecDepth 100000 in
theorem c_X12_tellsAs_5_5_0 (l : Launch) (D : va_G) (cI cL : ClassId) (ad zz : Nat → Nat) (hJ : jD ad) (σ : Nat → Nat → Int32) (τ : Nat → Nat → Int64) (a2 : Int32) (A2 : Int) (t2 : a2.toInt = A2) (h55_55 : σ 55 55 = 0) (hp0 : (σ 55 56).toInt = 5) : jM l yX12_tellsAs cX12_tellsAs 4 (some .int) ({ frames := 4, cells := 0, slots := 0, locals := 90 }) D cI cL ad zz [.ref (ad 55), .int 5, .int a2] σ τ (fun r σ' τ' => τ = τ' ∧ (∀ i : Nat, (i < 55 ∨ 55 < i) ∧ (i < 85 ∨ 85 < i) → σ' i = σ i) ∧ (∀ k : Nat, (k < 55 ∨ 55 < k) → σ' 55 k = σ 55 k) ∧ (∀ k : Nat, (k < 0 ∨ 0 < k) ∧ (k < 1 ∨ 1 < k) ∧ (k < 2 ∨ 2 < k) ∧ (k < 3 ∨ 3 < k) ∧ (k < 4 ∨ 4 < k) ∧ (k < 5 ∨ 5 < k) ∧ (k < 6 ∨ 6 < k) ∧ (k < 7 ∨ 7 < k) → σ' 85 k = σ 85 k) ∧ (σ' 55 55 = 8) ∧ (σ' 85 0 = 2) ∧ (σ' 85 1 = 40) ∧ (σ' 85 2 = 10) ∧ (σ' 85 3 = 1) ∧ (σ' 85 4 = 60) ∧ (σ' 85 5 = 30) ∧ (σ' 85 6 = 11) ∧ (σ' 85 7 = 1) ∧ ((r = ((-((a2 + (σ 55 57)) * 2)) - (((1 ^^^ (σ 55 57)) * 3) - (2 + (σ 55 57)))) ∧ True))) := by
  refine jM.of hJ (by decide +kernel) (nt := .int) rfl (Nat.le_of_ble_eq_true rfl) ?_
  intro p e s m args below meth c Q ls hC hret hl hP
  obtain ⟨hx, hb, hr, hml, hown, hts, hK, -, hlocks, hZ⟩ := hC
  have hown : s.vm.findClass RX12 = some m.cls := hown
  have hS : va_S (jA ad) s.heap s.heap [] := va_S.rf
  have hA : ∀ q, jA ad q → jA ad q := fun _ h => h
  have hl : lv_has ls 4 [(0, .ref (ad 55)), (1, .int 5), (2, .int a2)] := hl
  have g2 := jrg t2
  refine lv_iload_n hx hb dX12_tellsAs_0 rfl (lv_at hl 1 rfl) ?_
  refine lv_iconst (v := 4) hx hb dX12_tellsAs_1 (by decide) ?_
  refine lv_icmp_ne (tgt := 20) hx hb dX12_tellsAs_2 (by decide) (fun _ => ?_) (fun c => absurd c (by decide))
  refine lv_aload_n hx hb dX12_tellsAs_20 rfl (lv_at hl 0 rfl) ?_
  refine lv_iconst (v := 2) hx hb dX12_tellsAs_21 (by decide) ?_
  refine jcallVv (As := [.int 2]) (rest := []) ⟨hx, hb, hml, hown, hts⟩ hK hP hA hS hZ (c_X12_begins_2_0 l D cI cL ad zz hJ σ τ h55_55) cw_RX12_379 (jc_55 cI cL ad σ τ) rfl ⟨Nat.le_of_ble_eq_true rfl, Nat.le_of_ble_eq_true rfl⟩ rfl rfl rfl hl.1 rfl (Nat.le_of_ble_eq_true rfl) dX12_tellsAs_22 ⟨Nat.zero_le _, Nat.zero_le _⟩ (fun σ1 τ1 H locs h1 hP hS => ?_)
  obtain ⟨rfl, f3, f4, f5, m6, m7, h1⟩ := h1
  refine lv_aload_n hx hb dX12_tellsAs_25 rfl (lv_at hl 0 rfl) ?_
  refine lv_aload_n hx hb dX12_tellsAs_26 rfl (lv_at hl 0 rfl) ?_
  refine va_get (D := D) hx hb hts inlX12 hown hK hP 55 (jc_55 cI cL ad σ1 τ) rfl 56 (by decide) (hts _ kw_49_8) (fun _ h9 => h9) rfl dX12_tellsAs_27 ?_
  have m8 : σ1 55 56 = (σ 55 56) := (f4 56 (by decide))
  refine jtopr m8 ?_
  refine jtopr (jsame (rfl : (σ 55 56).toInt = (σ 55 56).toInt) jz_5 (by omega)) ?_
  refine lv_iload_n hx hb dX12_tellsAs_30 rfl (lv_at hl 2 rfl) ?_
  have z9 : (σ1 55 56).toInt = (σ 55 56).toInt := (congrArg Int32.toInt (show σ1 55 56 = (σ 55 56) from m8))
  refine jcallV (As := [.int 5, .int a2]) (rest := []) ⟨hx, hb, hml, hown, hts⟩ hK hP hA hS hZ (c_X12_holdsAs_5_5_1 l D cI cL ad zz hJ σ1 τ a2 (A2) t2 m6 (by omega)) cw_RX12_388 (jc_55 cI cL ad σ1 τ) rfl ⟨Nat.le_of_ble_eq_true rfl, Nat.le_of_ble_eq_true rfl⟩ rfl rfl rfl hl.1 rfl (Nat.le_of_ble_eq_true rfl) dX12_tellsAs_31 ⟨Nat.zero_le _, Nat.zero_le _⟩ (fun r11 σ10 τ10 H locs h10 hP hS => ?_)
  obtain ⟨rfl, f12, f13, f14, m15, m16, m17, m18, h10⟩ := h10
  have h19 := h10
  obtain ⟨q21, k20⟩ := h19
  have q21 := q21.symm
  subst q21
  refine lv_istore_n (lv' := [(3, .int (-((a2 + (σ1 55 57)) * 2))), (0, .ref (ad 55)), (1, .int 5), (2, .int a2)]) hx hb dX12_tellsAs_34 rfl hl (by decide) rfl (fun ls hl => ?_)
  refine lv_iload_n hx hb dX12_tellsAs_35 rfl (lv_at hl 0 rfl) ?_
  refine lv_aload_n hx hb dX12_tellsAs_36 rfl (lv_at hl 1 rfl) ?_
  refine lv_aload_n hx hb dX12_tellsAs_37 rfl (lv_at hl 1 rfl) ?_
  refine va_get (D := D) hx hb hts inlX12 hown hK hP 55 (jc_55 cI cL ad σ10 τ) rfl 56 (by decide) (hts _ kw_49_8) (fun _ h9 => h9) rfl dX12_tellsAs_38 ?_
  have m22 : σ10 55 56 = (σ 55 56) := ((f13 56 (by decide)).trans m8)
  refine jtopr m22 ?_
  refine jtopr (jsame (rfl : (σ 55 56).toInt = (σ 55 56).toInt) jz_5 (by omega)) ?_
  refine lv_iconst (v := 1) hx hb dX12_tellsAs_41 (by decide) ?_
  have z23 : (σ10 55 56).toInt = (σ 55 56).toInt := (congrArg Int32.toInt (show σ10 55 56 = (σ 55 56) from m22))
  refine jcallV (As := [.int 5, .int 1]) (rest := [.int (-((a2 + (σ1 55 57)) * 2))]) ⟨hx, hb, hml, hown, hts⟩ hK hP hA hS hZ (c_X12_givesAs_5_5_4_x1 l D cI cL ad zz hJ σ10 τ m15 (by omega)) cw_RX12_394 (jc_55 cI cL ad σ10 τ) rfl ⟨Nat.le_of_ble_eq_true rfl, Nat.le_of_ble_eq_true rfl⟩ rfl rfl rfl hl.1 rfl (Nat.le_of_ble_eq_true rfl) dX12_tellsAs_42 ⟨Nat.zero_le _, Nat.zero_le _⟩ (fun r25 σ24 τ24 H locs h24 hP hS => ?_)
  obtain ⟨rfl, f26, f27, f28, m29, m30, m31, m32, m33, h24⟩ := h24
  have h34 := h24
  obtain ⟨q36, k35⟩ := h34
  have q36 := q36.symm
  subst q36
  have g37 := jrg (rfl : (-((a2 + (σ1 55 57)) * 2)).toInt = (-((a2 + (σ1 55 57)) * 2)).toInt)
  have g38 := jrg (rfl : (((1 ^^^ (σ10 55 57)) * 3) - (2 + (σ10 55 57))).toInt = (((1 ^^^ (σ10 55 57)) * 3) - (2 + (σ10 55 57))).toInt)
  refine lv_isub hx hb dX12_tellsAs_45 ?_
  refine lv_topi (fun x39 ex39 => ?_)
  have gx39 := jrg (rfl : x39.toInt = x39.toInt)
  have m40 : σ24 85 0 = 2 := ((f28 0 (by decide)).trans ((f14 0 (by decide)).trans m7))
  have m41 : σ24 85 1 = 40 := ((f28 1 (by decide)).trans m16)
  have m42 : σ24 85 2 = 10 := ((f28 2 (by decide)).trans m17)
  have m43 : σ24 85 3 = 1 := ((f28 3 (by decide)).trans m18)
  exact hret x39 σ24 τ _ _ _ _ rfl ⟨rfl, (fun i hi => ((f26 i hi).trans ((f12 i hi).trans (f3 i hi)))), (fun i hi => ((f27 i hi).trans ((f13 i hi).trans (f4 i hi)))), (fun i hi => ((f28 i (imp_337 i hi)).trans ((f14 i (imp_338 i hi)).trans (f5 i (imp_361 i hi))))), m29, m40, m41, m42, m43, m30, m31, m32, m33, ⟨(by rw [ex39, (show σ1 55 57 = σ 55 57 from (f4 57 (by decide))), (show σ10 55 57 = σ 55 57 from ((f13 57 (by decide)).trans (f4 57 (by decide))))]), trivial⟩⟩ hP hS dX12_tellsAs_46
set_option maxHeartbeats 4000000 in
set_option maxRecDepth 100000 in
theorem c_X12_putsAs_6_6_0 (l : Launch) (D : va_G) (cI cL : ClassId) (ad zz : Nat → Nat) (hJ : jD ad) (σ : Nat → Nat → Int32) (τ : Nat → Nat → Int64) (a2 : Int32) (A2 : Int) (t2 : a2.toInt = A2) (h55_55 : σ 55 55 = 0) (hp0 : (σ 55 56).toInt = 6) : jM l yX12_putsAs cX12_putsAs 3 (some .int) ({ frames := 1, cells := 0, slots := 0, locals := 21 }) D cI cL ad zz [.ref (ad 55), .int 6, .int a2] σ τ (fun r σ' τ' => τ = τ' ∧ (∀ i : Nat, (i < 55 ∨ 55 < i) ∧ (i < 85 ∨ 85 < i) → σ' i = σ i) ∧ (∀ k : Nat, (k < 55 ∨ 55 < k) → σ' 55 k = σ 55 k) ∧ (∀ k : Nat, (k < 0 ∨ 0 < k) → σ' 85 k = σ 85 k) ∧ (σ' 55 55 = 1) ∧ (σ' 85 0 = 1) ∧ ((r = (a2 + (σ 55 57)) ∧ True))) := by
  refine jM.of hJ (by decide +kernel) (nt := .int) rfl (Nat.le_of_ble_eq_true rfl) ?_
  intro p e s m args below meth c Q ls hC hret hl hP
  obtain ⟨hx, hb, hr, hml, hown, hts, hK, -, hlocks, hZ⟩ := hC
  have hown : s.vm.findClass RX12 = some m.cls := hown
  have hS : va_S (jA ad) s.heap s.heap [] := va_S.rf
  have hA : ∀ q, jA ad q → jA ad q := fun _ h => h
  have hl : lv_has ls 3 [(0, .ref (ad 55)), (1, .int 6), (2, .int a2)] := hl
  have g2 := jrg t2
  refine lv_iload_n hx hb dX12_putsAs_0 rfl (lv_at hl 1 rfl) ?_
  refine lv_iconst (v := 4) hx hb dX12_putsAs_1 (by decide) ?_
  refine lv_icmp_ne (tgt := 20) hx hb dX12_putsAs_2 (by decide) (fun _ => ?_) (fun c => absurd c (by decide))
  refine lv_iload_n hx hb dX12_putsAs_20 rfl (lv_at hl 1 rfl) ?_
  refine lv_iconst (v := 1) hx hb dX12_putsAs_21 (by decide) ?_
  refine lv_icmp_ne (tgt := 40) hx hb dX12_putsAs_22 (by decide) (fun _ => ?_) (fun c => absurd c (by decide))
  refine lv_aload_n hx hb dX12_putsAs_40 rfl (lv_at hl 0 rfl) ?_
  refine lv_iconst (v := 1) hx hb dX12_putsAs_41 (by decide) ?_
  refine jcallVv (As := [.int 1]) (rest := []) ⟨hx, hb, hml, hown, hts⟩ hK hP hA hS hZ (c_X12_begins_1_0 l D cI cL ad zz hJ σ τ h55_55) cw_RX12_379 (jc_55 cI cL ad σ τ) rfl ⟨Nat.le_of_ble_eq_true rfl, Nat.le_of_ble_eq_true rfl⟩ rfl rfl rfl hl.1 rfl (Nat.le_of_ble_eq_true rfl) dX12_putsAs_42 ⟨Nat.zero_le _, Nat.zero_le _⟩ (fun σ1 τ1 H locs h1 hP hS => ?_)
  obtain ⟨rfl, f3, f4, f5, m6, m7, h1⟩ := h1
  refine lv_iload_n hx hb dX12_putsAs_45 rfl (lv_at hl 2 rfl) ?_
  refine lv_aload_n hx hb dX12_putsAs_46 rfl (lv_at hl 0 rfl) ?_
  refine va_get (D := D) hx hb hts inlX12 hown hK hP 55 (jc_55 cI cL ad σ1 τ) rfl 57 (by decide) (hts _ kw_49_9) (fun _ h9 => h9) rfl dX12_putsAs_47 ?_
  have m8 : σ1 55 57 = (σ 55 57) := (f4 57 (by decide))
  refine jtopr m8 ?_
  have g9 := jrg (rfl : (σ 55 57).toInt = (σ 55 57).toInt)
  refine lv_iadd hx hb dX12_putsAs_50 ?_
  refine lv_topi (fun x10 ex10 => ?_)
  have gx10 := jrg (rfl : x10.toInt = x10.toInt)
  exact hret x10 σ1 τ _ _ _ _ rfl ⟨rfl, (fun i hi => (f3 i hi)), (fun i hi => (f4 i hi)), (fun i hi => (f5 i hi)), m6, m7, ⟨(by rw [ex10]), trivial⟩⟩ hP hS dX12_putsAs_51
set_option maxHeartbeats 4000000 in
set_option maxRecDepth 100000 in
theorem c_X12_begins_70_0 (l : Launch) (D : va_G) (cI cL : ClassId) (ad zz : Nat → Nat) (hJ : jD ad) (σ : Nat → Nat → Int32) (τ : Nat → Nat → Int64) (h55_55 : σ 55 55 = 0) : jMv l yX12_begins cX12_begins 2 none ({ frames := 0, cells := 0, slots := 0, locals := 0 }) D cI cL ad zz [.ref (ad 55), .int 70] σ τ (fun σ' τ' => τ = τ' ∧ (∀ i : Nat, (i < 55 ∨ 55 < i) ∧ (i < 85 ∨ 85 < i) → σ' i = σ i) ∧ (∀ k : Nat, (k < 55 ∨ 55 < k) → σ' 55 k = σ 55 k) ∧ (∀ k : Nat, (k < 0 ∨ 0 < k) → σ' 85 k = σ 85 k) ∧ (σ' 55 55 = 1) ∧ (σ' 85 0 = 70) ∧ True) := by
  refine jMv.of hJ (by decide +kernel) rfl (Nat.le_of_ble_eq_true rfl) ?_
  intro p e s m args below meth c Q ls hC hret hl hP
  obtain ⟨hx, hb, hr, hml, hown, hts, hK, -, hlocks, hZ⟩ := hC
  have hown : s.vm.findClass RX12 = some m.cls := hown
  have hS : va_S (jA ad) s.heap s.heap [] := va_S.rf
  have hA : ∀ q, jA ad q → jA ad q := fun _ h => h
  have hl : lv_has ls 2 [(0, .ref (ad 55)), (1, .int 70)] := hl
  refine lv_aload_n hx hb dX12_begins_0 rfl (lv_at hl 0 rfl) ?_
  refine va_get (D := D) hx hb hts inlX12 hown hK hP 55 (jc_55 cI cL ad σ τ) rfl 55 (by decide) (hts _ kw_49_7) (fun _ h9 => h9) rfl dX12_begins_1 ?_
  refine jtopr h55_55 ?_
  refine lv_bipush (v := 24) hx hb dX12_begins_4 (by decide) ?_
  refine lv_icmp_ge (tgt := 19) hx hb dX12_begins_6 (by decide) (fun c => absurd c (by decide)) (fun _ => ?_)
  refine lv_aload_n hx hb dX12_begins_9 rfl (lv_at hl 0 rfl) ?_
  refine va_get (D := D) hx hb hts inlX12 hown hK hP 55 (jc_55 cI cL ad σ τ) rfl 54 (by decide) (hts _ kw_8_10) (fun _ h9 => h9) rfl dX12_begins_10 ?_
  refine lv_aload_n hx hb dX12_begins_13 rfl (lv_at hl 0 rfl) ?_
  refine va_get (D := D) hx hb hts inlX12 hown hK hP 55 (jc_55 cI cL ad σ τ) rfl 55 (by decide) (hts _ kw_49_7) (fun _ h9 => h9) rfl dX12_begins_14 ?_
  refine jtopr h55_55 ?_
  refine lv_iload_n hx hb dX12_begins_17 rfl (lv_at hl 1 rfl) ?_
  refine jast hx hb hK hP hJ hA hS (jc_85 cI cL ad σ τ) (ja_85 cI cL ad σ τ _ _) (jin jz_0 (by omega) (by omega)) dX12_begins_18 (fun σ1 H locs eσ1 hP hS => ?_)
  have eσ1 : σ1 = jup σ 85 0 70 := eσ1
  refine lv_aload_n hx hb dX12_begins_19 rfl (lv_at hl 0 rfl) ?_
  refine lv_dup hx hb dX12_begins_20 rfl ?_
  refine va_get (D := D) hx hb hts inlX12 hown hK hP 55 (jc_55 cI cL ad σ1 τ) rfl 55 (by decide) (hts _ kw_49_7) (fun _ h9 => h9) rfl dX12_begins_21 ?_
  have m2 : σ1 55 55 = 0 := ((congrFun (jnp 55 eσ1 (by decide)) 55).trans h55_55)
  refine jtopr m2 ?_
  refine lv_iconst (v := 1) hx hb dX12_begins_24 (by decide) ?_
  refine lv_iadd hx hb dX12_begins_25 ?_
  refine jtopr (y := 1) (by decide) ?_
  refine jput (ty := .int) hx hb hts inlX12 tyX12 tyX12_ok nmX12 hown hK hP hJ hA hS (jc_55 cI cL ad σ1 τ) rfl (k := 55) (by decide) (Nat.le_of_ble_eq_true rfl) (jp_55_55 cI cL ad σ1 τ 1) (hts _ kw_49_7) (fun _ h9 => h9) rfl (by decide +kernel) rfl rfl dX12_begins_26 (fun σ3 H locs eσ3 hP hS => ?_)
  have m4 : σ3 55 55 = 1 := (jsp eσ3)
  have m5 : σ3 85 0 = 70 := ((congrFun (jnp 85 eσ3 (by decide)) 0).trans (jsp eσ1))
  exact hret σ3 τ _ _ _ _ ⟨rfl, (fun i hi => ((jnp i eσ3 (imp_345 i hi)).trans (jnp i eσ1 (imp_346 i hi)))), (fun i hi => ((jkp i eσ3 (imp_164 i hi)).trans (congrFun (jnp 55 eσ1 (by decide)) i))), (fun i hi => ((congrFun (jnp 85 eσ3 (by decide)) i).trans (jkp i eσ1 (imp_4 i hi)))), m4, m5, trivial⟩ hP hS dX12_begins_29
set_option maxHeartbeats 4000000 in
set_option maxRecDepth 100000 in
theorem c_X12_putsAs_6_6_2 (l : Launch) (D : va_G) (cI cL : ClassId) (ad zz : Nat → Nat) (hJ : jD ad) (σ : Nat → Nat → Int32) (τ : Nat → Nat → Int64) (a2 : Int32) (A2 : Int) (t2 : a2.toInt = A2) (h55_55 : σ 55 55 = 2) (hp0 : (σ 55 56).toInt = 6) : jM l yX12_putsAs cX12_putsAs 3 (some .int) ({ frames := 1, cells := 0, slots := 0, locals := 21 }) D cI cL ad zz [.ref (ad 55), .int 6, .int a2] σ τ (fun r σ' τ' => τ = τ' ∧ (∀ i : Nat, (i < 55 ∨ 55 < i) ∧ (i < 85 ∨ 85 < i) → σ' i = σ i) ∧ (∀ k : Nat, (k < 55 ∨ 55 < k) → σ' 55 k = σ 55 k) ∧ (∀ k : Nat, (k < 2 ∨ 2 < k) → σ' 85 k = σ 85 k) ∧ (σ' 55 55 = 3) ∧ (σ' 85 2 = 1) ∧ ((r = (a2 + (σ 55 57)) ∧ True))) := by
  refine jM.of hJ (by decide +kernel) (nt := .int) rfl (Nat.le_of_ble_eq_true rfl) ?_
  intro p e s m args below meth c Q ls hC hret hl hP
  obtain ⟨hx, hb, hr, hml, hown, hts, hK, -, hlocks, hZ⟩ := hC
  have hown : s.vm.findClass RX12 = some m.cls := hown
  have hS : va_S (jA ad) s.heap s.heap [] := va_S.rf
  have hA : ∀ q, jA ad q → jA ad q := fun _ h => h
  have hl : lv_has ls 3 [(0, .ref (ad 55)), (1, .int 6), (2, .int a2)] := hl
  have g2 := jrg t2
  refine lv_iload_n hx hb dX12_putsAs_0 rfl (lv_at hl 1 rfl) ?_
  refine lv_iconst (v := 4) hx hb dX12_putsAs_1 (by decide) ?_
  refine lv_icmp_ne (tgt := 20) hx hb dX12_putsAs_2 (by decide) (fun _ => ?_) (fun c => absurd c (by decide))
  refine lv_iload_n hx hb dX12_putsAs_20 rfl (lv_at hl 1 rfl) ?_
  refine lv_iconst (v := 1) hx hb dX12_putsAs_21 (by decide) ?_
  refine lv_icmp_ne (tgt := 40) hx hb dX12_putsAs_22 (by decide) (fun _ => ?_) (fun c => absurd c (by decide))
  refine lv_aload_n hx hb dX12_putsAs_40 rfl (lv_at hl 0 rfl) ?_
  refine lv_iconst (v := 1) hx hb dX12_putsAs_41 (by decide) ?_
  refine jcallVv (As := [.int 1]) (rest := []) ⟨hx, hb, hml, hown, hts⟩ hK hP hA hS hZ (c_X12_begins_1_2 l D cI cL ad zz hJ σ τ h55_55) cw_RX12_379 (jc_55 cI cL ad σ τ) rfl ⟨Nat.le_of_ble_eq_true rfl, Nat.le_of_ble_eq_true rfl⟩ rfl rfl rfl hl.1 rfl (Nat.le_of_ble_eq_true rfl) dX12_putsAs_42 ⟨Nat.zero_le _, Nat.zero_le _⟩ (fun σ1 τ1 H locs h1 hP hS => ?_)
  obtain ⟨rfl, f3, f4, f5, m6, m7, h1⟩ := h1
  refine lv_iload_n hx hb dX12_putsAs_45 rfl (lv_at hl 2 rfl) ?_
  refine lv_aload_n hx hb dX12_putsAs_46 rfl (lv_at hl 0 rfl) ?_
  refine va_get (D := D) hx hb hts inlX12 hown hK hP 55 (jc_55 cI cL ad σ1 τ) rfl 57 (by decide) (hts _ kw_49_9) (fun _ h9 => h9) rfl dX12_putsAs_47 ?_
  have m8 : σ1 55 57 = (σ 55 57) := (f4 57 (by decide))
  refine jtopr m8 ?_
  have g9 := jrg (rfl : (σ 55 57).toInt = (σ 55 57).toInt)
  refine lv_iadd hx hb dX12_putsAs_50 ?_
  refine lv_topi (fun x10 ex10 => ?_)
  have gx10 := jrg (rfl : x10.toInt = x10.toInt)
  exact hret x10 σ1 τ _ _ _ _ rfl ⟨rfl, (fun i hi => (f3 i hi)), (fun i hi => (f4 i hi)), (fun i hi => (f5 i hi)), m6, m7, ⟨(by rw [ex10]), trivial⟩⟩ hP hS dX12_putsAs_51
set_option maxHeartbeats 4000000 in
set_option maxRecDepth 100000 in
theorem c_X12_holdsAs_6_0_1 (l : Launch) (D : va_G) (cI cL : ClassId) (ad zz : Nat → Nat) (hJ : jD ad) (σ : Nat → Nat → Int32) (τ : Nat → Nat → Int64) (a2 : Int32) (A2 : Int) (t2 : a2.toInt = A2) (h55_55 : σ 55 55 = 1) (hp0 : (σ 55 56).toInt = 6) : jM l yX12_holdsAs cX12_holdsAs 4 (some .int) ({ frames := 2, cells := 0, slots := 0, locals := 43 }) D cI cL ad zz [.ref (ad 55), .int 0, .int a2] σ τ (fun r σ' τ' => τ = τ' ∧ (∀ i : Nat, (i < 55 ∨ 55 < i) ∧ (i < 85 ∨ 85 < i) → σ' i = σ i) ∧ (∀ k : Nat, (k < 55 ∨ 55 < k) → σ' 55 k = σ 55 k) ∧ (∀ k : Nat, (k < 1 ∨ 1 < k) ∧ (k < 2 ∨ 2 < k) → σ' 85 k = σ 85 k) ∧ (σ' 55 55 = 3) ∧ (σ' 85 1 = 10) ∧ (σ' 85 2 = 1) ∧ ((r = ((a2 + (σ 55 57)) * 2) ∧ True))) := by
  refine jM.of hJ (by decide +kernel) (nt := .int) rfl (Nat.le_of_ble_eq_true rfl) ?_
  intro p e s m args below meth c Q ls hC hret hl hP
  obtain ⟨hx, hb, hr, hml, hown, hts, hK, -, hlocks, hZ⟩ := hC
  have hown : s.vm.findClass RX12 = some m.cls := hown
  have hS : va_S (jA ad) s.heap s.heap [] := va_S.rf
  have hA : ∀ q, jA ad q → jA ad q := fun _ h => h
  have hl : lv_has ls 4 [(0, .ref (ad 55)), (1, .int 0), (2, .int a2)] := hl
  have g2 := jrg t2
  refine lv_iload_n hx hb dX12_holdsAs_0 rfl (lv_at hl 1 rfl) ?_
  refine lv_iconst (v := 3) hx hb dX12_holdsAs_1 (by decide) ?_
  refine lv_icmp_eq (tgt := 10) hx hb dX12_holdsAs_2 (by decide) (fun c => absurd c (by decide)) (fun _ => ?_)
  refine lv_iload_n hx hb dX12_holdsAs_5 rfl (lv_at hl 1 rfl) ?_
  refine lv_iconst (v := 5) hx hb dX12_holdsAs_6 (by decide) ?_
  refine lv_icmp_ne (tgt := 24) hx hb dX12_holdsAs_7 (by decide) (fun _ => ?_) (fun c => absurd c (by decide))
  refine lv_iload_n hx hb dX12_holdsAs_24 rfl (lv_at hl 1 rfl) ?_
  refine lv_bipush (v := 6) hx hb dX12_holdsAs_25 (by decide) ?_
  refine lv_icmp_ne (tgt := 55) hx hb dX12_holdsAs_27 (by decide) (fun _ => ?_) (fun c => absurd c (by decide))
  refine lv_aload_n hx hb dX12_holdsAs_55 rfl (lv_at hl 0 rfl) ?_
  refine lv_bipush (v := 10) hx hb dX12_holdsAs_56 (by decide) ?_
  refine jcallVv (As := [.int 10]) (rest := []) ⟨hx, hb, hml, hown, hts⟩ hK hP hA hS hZ (c_X12_begins_10_1 l D cI cL ad zz hJ σ τ h55_55) cw_RX12_379 (jc_55 cI cL ad σ τ) rfl ⟨Nat.le_of_ble_eq_true rfl, Nat.le_of_ble_eq_true rfl⟩ rfl rfl rfl hl.1 rfl (Nat.le_of_ble_eq_true rfl) dX12_holdsAs_58 ⟨Nat.zero_le _, Nat.zero_le _⟩ (fun σ1 τ1 H locs h1 hP hS => ?_)
  obtain ⟨rfl, f3, f4, f5, m6, m7, h1⟩ := h1
  refine lv_aload_n hx hb dX12_holdsAs_61 rfl (lv_at hl 0 rfl) ?_
  refine lv_aload_n hx hb dX12_holdsAs_62 rfl (lv_at hl 0 rfl) ?_
  refine va_get (D := D) hx hb hts inlX12 hown hK hP 55 (jc_55 cI cL ad σ1 τ) rfl 56 (by decide) (hts _ kw_49_8) (fun _ h9 => h9) rfl dX12_holdsAs_63 ?_
  have m8 : σ1 55 56 = (σ 55 56) := (f4 56 (by decide))
  refine jtopr m8 ?_
  refine jtopr (jsame (rfl : (σ 55 56).toInt = (σ 55 56).toInt) jz_6 (by omega)) ?_
  refine lv_iload_n hx hb dX12_holdsAs_66 rfl (lv_at hl 2 rfl) ?_
  have z9 : (σ1 55 56).toInt = (σ 55 56).toInt := (congrArg Int32.toInt (show σ1 55 56 = (σ 55 56) from m8))
  refine jcallV (As := [.int 6, .int a2]) (rest := []) ⟨hx, hb, hml, hown, hts⟩ hK hP hA hS hZ (c_X12_putsAs_6_6_2 l D cI cL ad zz hJ σ1 τ a2 (A2) t2 m6 (by omega)) cw_RX12_382 (jc_55 cI cL ad σ1 τ) rfl ⟨Nat.le_of_ble_eq_true rfl, Nat.le_of_ble_eq_true rfl⟩ rfl rfl rfl hl.1 rfl (Nat.le_of_ble_eq_true rfl) dX12_holdsAs_67 ⟨Nat.zero_le _, Nat.zero_le _⟩ (fun r11 σ10 τ10 H locs h10 hP hS => ?_)
  obtain ⟨rfl, f12, f13, f14, m15, m16, h10⟩ := h10
  have h17 := h10
  obtain ⟨q19, k18⟩ := h17
  have q19 := q19.symm
  subst q19
  refine lv_iconst (v := 2) hx hb dX12_holdsAs_70 (by decide) ?_
  have g20 := jrg (rfl : (a2 + (σ1 55 57)).toInt = (a2 + (σ1 55 57)).toInt)
  refine lv_imul hx hb dX12_holdsAs_71 ?_
  refine lv_topi (fun x21 ex21 => ?_)
  have gx21 := jrg (rfl : x21.toInt = x21.toInt)
  have m22 : σ10 85 1 = 10 := ((f14 1 (by decide)).trans m7)
  exact hret x21 σ10 τ _ _ _ _ rfl ⟨rfl, (fun i hi => ((f12 i hi).trans (f3 i hi))), (fun i hi => ((f13 i hi).trans (f4 i hi))), (fun i hi => ((f14 i (imp_43 i hi)).trans (f5 i (imp_60 i hi)))), m15, m22, m16, ⟨(by rw [ex21, (show σ1 55 57 = σ 55 57 from (f4 57 (by decide)))]), trivial⟩⟩ hP hS dX12_holdsAs_72
set_option maxHeartbeats 4000000 in
set_option maxRecDepth 100000 in
theorem c_X12_givesAs_6_6_3_x1 (l : Launch) (D : va_G) (cI cL : ClassId) (ad zz : Nat → Nat) (hJ : jD ad) (σ : Nat → Nat → Int32) (τ : Nat → Nat → Int64) (h55_55 : σ 55 55 = 3) (hp0 : (σ 55 56).toInt = 6) : jM l yX12_givesAs cX12_givesAs 4 (some .int) ({ frames := 1, cells := 0, slots := 0, locals := 21 }) D cI cL ad zz [.ref (ad 55), .int 6, .int 1] σ τ (fun r σ' τ' => τ = τ' ∧ (∀ i : Nat, (i < 55 ∨ 55 < i) ∧ (i < 85 ∨ 85 < i) → σ' i = σ i) ∧ (∀ k : Nat, (k < 55 ∨ 55 < k) → σ' 55 k = σ 55 k) ∧ (∀ k : Nat, (k < 3 ∨ 3 < k) → σ' 85 k = σ 85 k) ∧ (σ' 55 55 = 4) ∧ (σ' 85 3 = 11) ∧ ((r = (1 ^^^ (σ 55 57)) ∧ True))) := by
  refine jM.of hJ (by decide +kernel) (nt := .int) rfl (Nat.le_of_ble_eq_true rfl) ?_
  intro p e s m args below meth c Q ls hC hret hl hP
  obtain ⟨hx, hb, hr, hml, hown, hts, hK, -, hlocks, hZ⟩ := hC
  have hown : s.vm.findClass RX12 = some m.cls := hown
  have hS : va_S (jA ad) s.heap s.heap [] := va_S.rf
  have hA : ∀ q, jA ad q → jA ad q := fun _ h => h
  have hl : lv_has ls 4 [(0, .ref (ad 55)), (1, .int 6), (2, .int 1)] := hl
  refine lv_iload_n hx hb dX12_givesAs_0 rfl (lv_at hl 1 rfl) ?_
  refine lv_iconst (v := 5) hx hb dX12_givesAs_1 (by decide) ?_
  refine lv_icmp_ne (tgt := 30) hx hb dX12_givesAs_2 (by decide) (fun _ => ?_) (fun c => absurd c (by decide))
  refine lv_iload_n hx hb dX12_givesAs_30 rfl (lv_at hl 1 rfl) ?_
  refine lv_iconst (v := 2) hx hb dX12_givesAs_31 (by decide) ?_
  refine lv_icmp_eq (tgt := 40) hx hb dX12_givesAs_32 (by decide) (fun c => absurd c (by decide)) (fun _ => ?_)
  refine lv_iload_n hx hb dX12_givesAs_35 rfl (lv_at hl 1 rfl) ?_
  refine lv_iconst (v := 3) hx hb dX12_givesAs_36 (by decide) ?_
  refine lv_icmp_ne (tgt := 55) hx hb dX12_givesAs_37 (by decide) (fun _ => ?_) (fun c => absurd c (by decide))
  refine lv_aload_n hx hb dX12_givesAs_55 rfl (lv_at hl 0 rfl) ?_
  refine lv_bipush (v := 11) hx hb dX12_givesAs_56 (by decide) ?_
  refine jcallVv (As := [.int 11]) (rest := []) ⟨hx, hb, hml, hown, hts⟩ hK hP hA hS hZ (c_X12_begins_11_3 l D cI cL ad zz hJ σ τ h55_55) cw_RX12_379 (jc_55 cI cL ad σ τ) rfl ⟨Nat.le_of_ble_eq_true rfl, Nat.le_of_ble_eq_true rfl⟩ rfl rfl rfl hl.1 rfl (Nat.le_of_ble_eq_true rfl) dX12_givesAs_58 ⟨Nat.zero_le _, Nat.zero_le _⟩ (fun σ1 τ1 H locs h1 hP hS => ?_)
  obtain ⟨rfl, f3, f4, f5, m6, m7, h1⟩ := h1
  refine lv_iload_n hx hb dX12_givesAs_61 rfl (lv_at hl 2 rfl) ?_
  refine lv_aload_n hx hb dX12_givesAs_62 rfl (lv_at hl 0 rfl) ?_
  refine va_get (D := D) hx hb hts inlX12 hown hK hP 55 (jc_55 cI cL ad σ1 τ) rfl 57 (by decide) (hts _ kw_49_9) (fun _ h9 => h9) rfl dX12_givesAs_63 ?_
  have m8 : σ1 55 57 = (σ 55 57) := (f4 57 (by decide))
  refine jtopr m8 ?_
  refine lv_ixor hx hb dX12_givesAs_66 ?_
  refine lv_topi (fun x9 ex9 => ?_)
  have gx9 := jrg (rfl : x9.toInt = x9.toInt)
  exact hret x9 σ1 τ _ _ _ _ rfl ⟨rfl, (fun i hi => (f3 i hi)), (fun i hi => (f4 i hi)), (fun i hi => (f5 i hi)), m6, m7, ⟨(by rw [ex9]), trivial⟩⟩ hP hS dX12_givesAs_67
set_option maxHeartbeats 4000000 in
set_option maxRecDepth 100000 in
theorem c_X12_holdsAs_6_6_0 (l : Launch) (D : va_G) (cI cL : ClassId) (ad zz : Nat → Nat) (hJ : jD ad) (σ : Nat → Nat → Int32) (τ : Nat → Nat → Int64) (a2 : Int32) (A2 : Int) (t2 : a2.toInt = A2) (h55_55 : σ 55 55 = 0) (hp0 : (σ 55 56).toInt = 6) : jM l yX12_holdsAs cX12_holdsAs 4 (some .int) ({ frames := 3, cells := 0, slots := 0, locals := 66 }) D cI cL ad zz [.ref (ad 55), .int 6, .int a2] σ τ (fun r σ' τ' => τ = τ' ∧ (∀ i : Nat, (i < 55 ∨ 55 < i) ∧ (i < 85 ∨ 85 < i) → σ' i = σ i) ∧ (∀ k : Nat, (k < 55 ∨ 55 < k) → σ' 55 k = σ 55 k) ∧ (∀ k : Nat, (k < 0 ∨ 0 < k) ∧ (k < 1 ∨ 1 < k) ∧ (k < 2 ∨ 2 < k) ∧ (k < 3 ∨ 3 < k) → σ' 85 k = σ 85 k) ∧ (σ' 55 55 = 4) ∧ (σ' 85 0 = 70) ∧ (σ' 85 1 = 10) ∧ (σ' 85 2 = 1) ∧ (σ' 85 3 = 11) ∧ ((r = (((a2 + (σ 55 57)) * 2) + (1 ^^^ (σ 55 57))) ∧ True))) := by
  refine jM.of hJ (by decide +kernel) (nt := .int) rfl (Nat.le_of_ble_eq_true rfl) ?_
  intro p e s m args below meth c Q ls hC hret hl hP
  obtain ⟨hx, hb, hr, hml, hown, hts, hK, -, hlocks, hZ⟩ := hC
  have hown : s.vm.findClass RX12 = some m.cls := hown
  have hS : va_S (jA ad) s.heap s.heap [] := va_S.rf
  have hA : ∀ q, jA ad q → jA ad q := fun _ h => h
  have hl : lv_has ls 4 [(0, .ref (ad 55)), (1, .int 6), (2, .int a2)] := hl
  have g2 := jrg t2
  refine lv_iload_n hx hb dX12_holdsAs_0 rfl (lv_at hl 1 rfl) ?_
  refine lv_iconst (v := 3) hx hb dX12_holdsAs_1 (by decide) ?_
  refine lv_icmp_eq (tgt := 10) hx hb dX12_holdsAs_2 (by decide) (fun c => absurd c (by decide)) (fun _ => ?_)
  refine lv_iload_n hx hb dX12_holdsAs_5 rfl (lv_at hl 1 rfl) ?_
  refine lv_iconst (v := 5) hx hb dX12_holdsAs_6 (by decide) ?_
  refine lv_icmp_ne (tgt := 24) hx hb dX12_holdsAs_7 (by decide) (fun _ => ?_) (fun c => absurd c (by decide))
  refine lv_iload_n hx hb dX12_holdsAs_24 rfl (lv_at hl 1 rfl) ?_
  refine lv_bipush (v := 6) hx hb dX12_holdsAs_25 (by decide) ?_
  refine lv_icmp_ne (tgt := 55) hx hb dX12_holdsAs_27 (by decide) (fun c => absurd (by decide) c) (fun _ => ?_)
  refine lv_aload_n hx hb dX12_holdsAs_30 rfl (lv_at hl 0 rfl) ?_
  refine lv_bipush (v := 70) hx hb dX12_holdsAs_31 (by decide) ?_
  refine jcallVv (As := [.int 70]) (rest := []) ⟨hx, hb, hml, hown, hts⟩ hK hP hA hS hZ (c_X12_begins_70_0 l D cI cL ad zz hJ σ τ h55_55) cw_RX12_379 (jc_55 cI cL ad σ τ) rfl ⟨Nat.le_of_ble_eq_true rfl, Nat.le_of_ble_eq_true rfl⟩ rfl rfl rfl hl.1 rfl (Nat.le_of_ble_eq_true rfl) dX12_holdsAs_33 ⟨Nat.zero_le _, Nat.zero_le _⟩ (fun σ1 τ1 H locs h1 hP hS => ?_)
  obtain ⟨rfl, f3, f4, f5, m6, m7, h1⟩ := h1
  refine lv_aload_n hx hb dX12_holdsAs_36 rfl (lv_at hl 0 rfl) ?_
  refine lv_iconst (v := 0) hx hb dX12_holdsAs_37 (by decide) ?_
  refine lv_iload_n hx hb dX12_holdsAs_38 rfl (lv_at hl 2 rfl) ?_
  have z8 : (σ1 55 56).toInt = (σ 55 56).toInt := (congrArg Int32.toInt (show σ1 55 56 = (σ 55 56) from (f4 56 (by decide))))
  refine jcallV (As := [.int 0, .int a2]) (rest := []) ⟨hx, hb, hml, hown, hts⟩ hK hP hA hS hZ (c_X12_holdsAs_6_0_1 l D cI cL ad zz hJ σ1 τ a2 (A2) t2 m6 (by omega)) cw_RX12_388 (jc_55 cI cL ad σ1 τ) rfl ⟨Nat.le_of_ble_eq_true rfl, Nat.le_of_ble_eq_true rfl⟩ rfl rfl rfl hl.1 rfl (Nat.le_of_ble_eq_true rfl) dX12_holdsAs_39 ⟨Nat.zero_le _, Nat.zero_le _⟩ (fun r10 σ9 τ9 H locs h9 hP hS => ?_)
  obtain ⟨rfl, f11, f12, f13, m14, m15, m16, h9⟩ := h9
  have h17 := h9
  obtain ⟨q19, k18⟩ := h17
  have q19 := q19.symm
  subst q19
  refine lv_istore_n (lv' := [(3, .int ((a2 + (σ1 55 57)) * 2)), (0, .ref (ad 55)), (1, .int 6), (2, .int a2)]) hx hb dX12_holdsAs_42 rfl hl (by decide) rfl (fun ls hl => ?_)
  refine lv_iload_n hx hb dX12_holdsAs_43 rfl (lv_at hl 0 rfl) ?_
  refine lv_aload_n hx hb dX12_holdsAs_44 rfl (lv_at hl 1 rfl) ?_
  refine lv_aload_n hx hb dX12_holdsAs_45 rfl (lv_at hl 1 rfl) ?_
  refine va_get (D := D) hx hb hts inlX12 hown hK hP 55 (jc_55 cI cL ad σ9 τ) rfl 56 (by decide) (hts _ kw_49_8) (fun _ h9 => h9) rfl dX12_holdsAs_46 ?_
  have m20 : σ9 55 56 = (σ 55 56) := ((f12 56 (by decide)).trans (f4 56 (by decide)))
  refine jtopr m20 ?_
  refine jtopr (jsame (rfl : (σ 55 56).toInt = (σ 55 56).toInt) jz_6 (by omega)) ?_
  refine lv_iconst (v := 1) hx hb dX12_holdsAs_49 (by decide) ?_
  have z21 : (σ9 55 56).toInt = (σ 55 56).toInt := (congrArg Int32.toInt (show σ9 55 56 = (σ 55 56) from m20))
  refine jcallV (As := [.int 6, .int 1]) (rest := [.int ((a2 + (σ1 55 57)) * 2)]) ⟨hx, hb, hml, hown, hts⟩ hK hP hA hS hZ (c_X12_givesAs_6_6_3_x1 l D cI cL ad zz hJ σ9 τ m14 (by omega)) cw_RX12_394 (jc_55 cI cL ad σ9 τ) rfl ⟨Nat.le_of_ble_eq_true rfl, Nat.le_of_ble_eq_true rfl⟩ rfl rfl rfl hl.1 rfl (Nat.le_of_ble_eq_true rfl) dX12_holdsAs_50 ⟨Nat.zero_le _, Nat.zero_le _⟩ (fun r23 σ22 τ22 H locs h22 hP hS => ?_)
  obtain ⟨rfl, f24, f25, f26, m27, m28, h22⟩ := h22
  have h29 := h22
  obtain ⟨q31, k30⟩ := h29
  have q31 := q31.symm
  subst q31
  have g32 := jrg (rfl : ((a2 + (σ1 55 57)) * 2).toInt = ((a2 + (σ1 55 57)) * 2).toInt)
  have g33 := jrg (rfl : (1 ^^^ (σ9 55 57)).toInt = (1 ^^^ (σ9 55 57)).toInt)
  refine lv_iadd hx hb dX12_holdsAs_53 ?_
  refine lv_topi (fun x34 ex34 => ?_)
  have gx34 := jrg (rfl : x34.toInt = x34.toInt)
  have m35 : σ22 85 0 = 70 := ((f26 0 (by decide)).trans ((f13 0 (by decide)).trans m7))
  have m36 : σ22 85 1 = 10 := ((f26 1 (by decide)).trans m15)
  have m37 : σ22 85 2 = 1 := ((f26 2 (by decide)).trans m16)
  exact hret x34 σ22 τ _ _ _ _ rfl ⟨rfl, (fun i hi => ((f24 i hi).trans ((f11 i hi).trans (f3 i hi)))), (fun i hi => ((f25 i hi).trans ((f12 i hi).trans (f4 i hi)))), (fun i hi => ((f26 i (imp_304 i hi)).trans ((f13 i (imp_305 i hi)).trans (f5 i (imp_348 i hi))))), m27, m35, m36, m37, m28, ⟨(by rw [ex34, (show σ1 55 57 = σ 55 57 from (f4 57 (by decide))), (show σ9 55 57 = σ 55 57 from ((f12 57 (by decide)).trans (f4 57 (by decide))))]), trivial⟩⟩ hP hS dX12_holdsAs_54
set_option maxHeartbeats 4000000 in
set_option maxRecDepth 100000 in
theorem c_X12_givesAs_6_6_0 (l : Launch) (D : va_G) (cI cL : ClassId) (ad zz : Nat → Nat) (hJ : jD ad) (σ : Nat → Nat → Int32) (τ : Nat → Nat → Int64) (a2 : Int32) (A2 : Int) (t2 : a2.toInt = A2) (h55_55 : σ 55 55 = 0) (hp0 : (σ 55 56).toInt = 6) : jM l yX12_givesAs cX12_givesAs 4 (some .int) ({ frames := 1, cells := 0, slots := 0, locals := 21 }) D cI cL ad zz [.ref (ad 55), .int 6, .int a2] σ τ (fun r σ' τ' => τ = τ' ∧ (∀ i : Nat, (i < 55 ∨ 55 < i) ∧ (i < 85 ∨ 85 < i) → σ' i = σ i) ∧ (∀ k : Nat, (k < 55 ∨ 55 < k) → σ' 55 k = σ 55 k) ∧ (∀ k : Nat, (k < 0 ∨ 0 < k) → σ' 85 k = σ 85 k) ∧ (σ' 55 55 = 1) ∧ (σ' 85 0 = 11) ∧ ((r = (a2 ^^^ (σ 55 57)) ∧ True))) := by
  refine jM.of hJ (by decide +kernel) (nt := .int) rfl (Nat.le_of_ble_eq_true rfl) ?_
  intro p e s m args below meth c Q ls hC hret hl hP
  obtain ⟨hx, hb, hr, hml, hown, hts, hK, -, hlocks, hZ⟩ := hC
  have hown : s.vm.findClass RX12 = some m.cls := hown
  have hS : va_S (jA ad) s.heap s.heap [] := va_S.rf
  have hA : ∀ q, jA ad q → jA ad q := fun _ h => h
  have hl : lv_has ls 4 [(0, .ref (ad 55)), (1, .int 6), (2, .int a2)] := hl
  have g2 := jrg t2
  refine lv_iload_n hx hb dX12_givesAs_0 rfl (lv_at hl 1 rfl) ?_
  refine lv_iconst (v := 5) hx hb dX12_givesAs_1 (by decide) ?_
  refine lv_icmp_ne (tgt := 30) hx hb dX12_givesAs_2 (by decide) (fun _ => ?_) (fun c => absurd c (by decide))
  refine lv_iload_n hx hb dX12_givesAs_30 rfl (lv_at hl 1 rfl) ?_
  refine lv_iconst (v := 2) hx hb dX12_givesAs_31 (by decide) ?_
  refine lv_icmp_eq (tgt := 40) hx hb dX12_givesAs_32 (by decide) (fun c => absurd c (by decide)) (fun _ => ?_)
  refine lv_iload_n hx hb dX12_givesAs_35 rfl (lv_at hl 1 rfl) ?_
  refine lv_iconst (v := 3) hx hb dX12_givesAs_36 (by decide) ?_
  refine lv_icmp_ne (tgt := 55) hx hb dX12_givesAs_37 (by decide) (fun _ => ?_) (fun c => absurd c (by decide))
  refine lv_aload_n hx hb dX12_givesAs_55 rfl (lv_at hl 0 rfl) ?_
  refine lv_bipush (v := 11) hx hb dX12_givesAs_56 (by decide) ?_
  refine jcallVv (As := [.int 11]) (rest := []) ⟨hx, hb, hml, hown, hts⟩ hK hP hA hS hZ (c_X12_begins_11_0 l D cI cL ad zz hJ σ τ h55_55) cw_RX12_379 (jc_55 cI cL ad σ τ) rfl ⟨Nat.le_of_ble_eq_true rfl, Nat.le_of_ble_eq_true rfl⟩ rfl rfl rfl hl.1 rfl (Nat.le_of_ble_eq_true rfl) dX12_givesAs_58 ⟨Nat.zero_le _, Nat.zero_le _⟩ (fun σ1 τ1 H locs h1 hP hS => ?_)
  obtain ⟨rfl, f3, f4, f5, m6, m7, h1⟩ := h1
  refine lv_iload_n hx hb dX12_givesAs_61 rfl (lv_at hl 2 rfl) ?_
  refine lv_aload_n hx hb dX12_givesAs_62 rfl (lv_at hl 0 rfl) ?_
  refine va_get (D := D) hx hb hts inlX12 hown hK hP 55 (jc_55 cI cL ad σ1 τ) rfl 57 (by decide) (hts _ kw_49_9) (fun _ h9 => h9) rfl dX12_givesAs_63 ?_
  have m8 : σ1 55 57 = (σ 55 57) := (f4 57 (by decide))
  refine jtopr m8 ?_
  refine lv_ixor hx hb dX12_givesAs_66 ?_
  refine lv_topi (fun x9 ex9 => ?_)
  have gx9 := jrg (rfl : x9.toInt = x9.toInt)
  exact hret x9 σ1 τ _ _ _ _ rfl ⟨rfl, (fun i hi => (f3 i hi)), (fun i hi => (f4 i hi)), (fun i hi => (f5 i hi)), m6, m7, ⟨(by rw [ex9]), trivial⟩⟩ hP hS dX12_givesAs_67
set_option maxHeartbeats 4000000 in
set_option maxRecDepth 100000 in
theorem c_X12_begins_70_1 (l : Launch) (D : va_G) (cI cL : ClassId) (ad zz : Nat → Nat) (hJ : jD ad) (σ : Nat → Nat → Int32) (τ : Nat → Nat → Int64) (h55_55 : σ 55 55 = 1) : jMv l yX12_begins cX12_begins 2 none ({ frames := 0, cells := 0, slots := 0, locals := 0 }) D cI cL ad zz [.ref (ad 55), .int 70] σ τ (fun σ' τ' => τ = τ' ∧ (∀ i : Nat, (i < 55 ∨ 55 < i) ∧ (i < 85 ∨ 85 < i) → σ' i = σ i) ∧ (∀ k : Nat, (k < 55 ∨ 55 < k) → σ' 55 k = σ 55 k) ∧ (∀ k : Nat, (k < 1 ∨ 1 < k) → σ' 85 k = σ 85 k) ∧ (σ' 55 55 = 2) ∧ (σ' 85 1 = 70) ∧ True) := by
  refine jMv.of hJ (by decide +kernel) rfl (Nat.le_of_ble_eq_true rfl) ?_
  intro p e s m args below meth c Q ls hC hret hl hP
  obtain ⟨hx, hb, hr, hml, hown, hts, hK, -, hlocks, hZ⟩ := hC
  have hown : s.vm.findClass RX12 = some m.cls := hown
  have hS : va_S (jA ad) s.heap s.heap [] := va_S.rf
  have hA : ∀ q, jA ad q → jA ad q := fun _ h => h
  have hl : lv_has ls 2 [(0, .ref (ad 55)), (1, .int 70)] := hl
  refine lv_aload_n hx hb dX12_begins_0 rfl (lv_at hl 0 rfl) ?_
  refine va_get (D := D) hx hb hts inlX12 hown hK hP 55 (jc_55 cI cL ad σ τ) rfl 55 (by decide) (hts _ kw_49_7) (fun _ h9 => h9) rfl dX12_begins_1 ?_
  refine jtopr h55_55 ?_
  refine lv_bipush (v := 24) hx hb dX12_begins_4 (by decide) ?_
  refine lv_icmp_ge (tgt := 19) hx hb dX12_begins_6 (by decide) (fun c => absurd c (by decide)) (fun _ => ?_)
  refine lv_aload_n hx hb dX12_begins_9 rfl (lv_at hl 0 rfl) ?_
  refine va_get (D := D) hx hb hts inlX12 hown hK hP 55 (jc_55 cI cL ad σ τ) rfl 54 (by decide) (hts _ kw_8_10) (fun _ h9 => h9) rfl dX12_begins_10 ?_
  refine lv_aload_n hx hb dX12_begins_13 rfl (lv_at hl 0 rfl) ?_
  refine va_get (D := D) hx hb hts inlX12 hown hK hP 55 (jc_55 cI cL ad σ τ) rfl 55 (by decide) (hts _ kw_49_7) (fun _ h9 => h9) rfl dX12_begins_14 ?_
  refine jtopr h55_55 ?_
  refine lv_iload_n hx hb dX12_begins_17 rfl (lv_at hl 1 rfl) ?_
  refine jast hx hb hK hP hJ hA hS (jc_85 cI cL ad σ τ) (ja_85 cI cL ad σ τ _ _) (jin jz_1 (by omega) (by omega)) dX12_begins_18 (fun σ1 H locs eσ1 hP hS => ?_)
  have eσ1 : σ1 = jup σ 85 1 70 := eσ1
  refine lv_aload_n hx hb dX12_begins_19 rfl (lv_at hl 0 rfl) ?_
  refine lv_dup hx hb dX12_begins_20 rfl ?_
  refine va_get (D := D) hx hb hts inlX12 hown hK hP 55 (jc_55 cI cL ad σ1 τ) rfl 55 (by decide) (hts _ kw_49_7) (fun _ h9 => h9) rfl dX12_begins_21 ?_
  have m2 : σ1 55 55 = 1 := ((congrFun (jnp 55 eσ1 (by decide)) 55).trans h55_55)
  refine jtopr m2 ?_
  refine lv_iconst (v := 1) hx hb dX12_begins_24 (by decide) ?_
  refine lv_iadd hx hb dX12_begins_25 ?_
  refine jtopr (y := 2) (by decide) ?_
  refine jput (ty := .int) hx hb hts inlX12 tyX12 tyX12_ok nmX12 hown hK hP hJ hA hS (jc_55 cI cL ad σ1 τ) rfl (k := 55) (by decide) (Nat.le_of_ble_eq_true rfl) (jp_55_55 cI cL ad σ1 τ 2) (hts _ kw_49_7) (fun _ h9 => h9) rfl (by decide +kernel) rfl rfl dX12_begins_26 (fun σ3 H locs eσ3 hP hS => ?_)
  have m4 : σ3 55 55 = 2 := (jsp eσ3)
  have m5 : σ3 85 1 = 70 := ((congrFun (jnp 85 eσ3 (by decide)) 1).trans (jsp eσ1))
  exact hret σ3 τ _ _ _ _ ⟨rfl, (fun i hi => ((jnp i eσ3 (imp_345 i hi)).trans (jnp i eσ1 (imp_346 i hi)))), (fun i hi => ((jkp i eσ3 (imp_164 i hi)).trans (congrFun (jnp 55 eσ1 (by decide)) i))), (fun i hi => ((congrFun (jnp 85 eσ3 (by decide)) i).trans (jkp i eσ1 (imp_42 i hi)))), m4, m5, trivial⟩ hP hS dX12_begins_29
set_option maxHeartbeats 4000000 in
set_option maxRecDepth 100000 in
theorem c_X12_putsAs_6_6_3 (l : Launch) (D : va_G) (cI cL : ClassId) (ad zz : Nat → Nat) (hJ : jD ad) (σ : Nat → Nat → Int32) (τ : Nat → Nat → Int64) (a2 : Int32) (A2 : Int) (t2 : a2.toInt = A2) (h55_55 : σ 55 55 = 3) (hp0 : (σ 55 56).toInt = 6) : jM l yX12_putsAs cX12_putsAs 3 (some .int) ({ frames := 1, cells := 0, slots := 0, locals := 21 }) D cI cL ad zz [.ref (ad 55), .int 6, .int a2] σ τ (fun r σ' τ' => τ = τ' ∧ (∀ i : Nat, (i < 55 ∨ 55 < i) ∧ (i < 85 ∨ 85 < i) → σ' i = σ i) ∧ (∀ k : Nat, (k < 55 ∨ 55 < k) → σ' 55 k = σ 55 k) ∧ (∀ k : Nat, (k < 3 ∨ 3 < k) → σ' 85 k = σ 85 k) ∧ (σ' 55 55 = 4) ∧ (σ' 85 3 = 1) ∧ ((r = (a2 + (σ 55 57)) ∧ True))) := by
  refine jM.of hJ (by decide +kernel) (nt := .int) rfl (Nat.le_of_ble_eq_true rfl) ?_
  intro p e s m args below meth c Q ls hC hret hl hP
  obtain ⟨hx, hb, hr, hml, hown, hts, hK, -, hlocks, hZ⟩ := hC
  have hown : s.vm.findClass RX12 = some m.cls := hown
  have hS : va_S (jA ad) s.heap s.heap [] := va_S.rf
  have hA : ∀ q, jA ad q → jA ad q := fun _ h => h
  have hl : lv_has ls 3 [(0, .ref (ad 55)), (1, .int 6), (2, .int a2)] := hl
  have g2 := jrg t2
  refine lv_iload_n hx hb dX12_putsAs_0 rfl (lv_at hl 1 rfl) ?_
  refine lv_iconst (v := 4) hx hb dX12_putsAs_1 (by decide) ?_
  refine lv_icmp_ne (tgt := 20) hx hb dX12_putsAs_2 (by decide) (fun _ => ?_) (fun c => absurd c (by decide))
  refine lv_iload_n hx hb dX12_putsAs_20 rfl (lv_at hl 1 rfl) ?_
  refine lv_iconst (v := 1) hx hb dX12_putsAs_21 (by decide) ?_
  refine lv_icmp_ne (tgt := 40) hx hb dX12_putsAs_22 (by decide) (fun _ => ?_) (fun c => absurd c (by decide))
  refine lv_aload_n hx hb dX12_putsAs_40 rfl (lv_at hl 0 rfl) ?_
  refine lv_iconst (v := 1) hx hb dX12_putsAs_41 (by decide) ?_
  refine jcallVv (As := [.int 1]) (rest := []) ⟨hx, hb, hml, hown, hts⟩ hK hP hA hS hZ (c_X12_begins_1_3 l D cI cL ad zz hJ σ τ h55_55) cw_RX12_379 (jc_55 cI cL ad σ τ) rfl ⟨Nat.le_of_ble_eq_true rfl, Nat.le_of_ble_eq_true rfl⟩ rfl rfl rfl hl.1 rfl (Nat.le_of_ble_eq_true rfl) dX12_putsAs_42 ⟨Nat.zero_le _, Nat.zero_le _⟩ (fun σ1 τ1 H locs h1 hP hS => ?_)
  obtain ⟨rfl, f3, f4, f5, m6, m7, h1⟩ := h1
  refine lv_iload_n hx hb dX12_putsAs_45 rfl (lv_at hl 2 rfl) ?_
  refine lv_aload_n hx hb dX12_putsAs_46 rfl (lv_at hl 0 rfl) ?_
  refine va_get (D := D) hx hb hts inlX12 hown hK hP 55 (jc_55 cI cL ad σ1 τ) rfl 57 (by decide) (hts _ kw_49_9) (fun _ h9 => h9) rfl dX12_putsAs_47 ?_
  have m8 : σ1 55 57 = (σ 55 57) := (f4 57 (by decide))
  refine jtopr m8 ?_
  have g9 := jrg (rfl : (σ 55 57).toInt = (σ 55 57).toInt)
  refine lv_iadd hx hb dX12_putsAs_50 ?_
  refine lv_topi (fun x10 ex10 => ?_)
  have gx10 := jrg (rfl : x10.toInt = x10.toInt)
  exact hret x10 σ1 τ _ _ _ _ rfl ⟨rfl, (fun i hi => (f3 i hi)), (fun i hi => (f4 i hi)), (fun i hi => (f5 i hi)), m6, m7, ⟨(by rw [ex10]), trivial⟩⟩ hP hS dX12_putsAs_51
set_option maxHeartbeats 4000000 in
set_option maxRecDepth 100000 in
theorem c_X12_holdsAs_6_0_2 (l : Launch) (D : va_G) (cI cL : ClassId) (ad zz : Nat → Nat) (hJ : jD ad) (σ : Nat → Nat → Int32) (τ : Nat → Nat → Int64) (a2 : Int32) (A2 : Int) (t2 : a2.toInt = A2) (h55_55 : σ 55 55 = 2) (hp0 : (σ 55 56).toInt = 6) : jM l yX12_holdsAs cX12_holdsAs 4 (some .int) ({ frames := 2, cells := 0, slots := 0, locals := 43 }) D cI cL ad zz [.ref (ad 55), .int 0, .int a2] σ τ (fun r σ' τ' => τ = τ' ∧ (∀ i : Nat, (i < 55 ∨ 55 < i) ∧ (i < 85 ∨ 85 < i) → σ' i = σ i) ∧ (∀ k : Nat, (k < 55 ∨ 55 < k) → σ' 55 k = σ 55 k) ∧ (∀ k : Nat, (k < 2 ∨ 2 < k) ∧ (k < 3 ∨ 3 < k) → σ' 85 k = σ 85 k) ∧ (σ' 55 55 = 4) ∧ (σ' 85 2 = 10) ∧ (σ' 85 3 = 1) ∧ ((r = ((a2 + (σ 55 57)) * 2) ∧ True))) := by
  refine jM.of hJ (by decide +kernel) (nt := .int) rfl (Nat.le_of_ble_eq_true rfl) ?_
  intro p e s m args below meth c Q ls hC hret hl hP
  obtain ⟨hx, hb, hr, hml, hown, hts, hK, -, hlocks, hZ⟩ := hC
  have hown : s.vm.findClass RX12 = some m.cls := hown
  have hS : va_S (jA ad) s.heap s.heap [] := va_S.rf
  have hA : ∀ q, jA ad q → jA ad q := fun _ h => h
  have hl : lv_has ls 4 [(0, .ref (ad 55)), (1, .int 0), (2, .int a2)] := hl
  have g2 := jrg t2
  refine lv_iload_n hx hb dX12_holdsAs_0 rfl (lv_at hl 1 rfl) ?_
  refine lv_iconst (v := 3) hx hb dX12_holdsAs_1 (by decide) ?_
  refine lv_icmp_eq (tgt := 10) hx hb dX12_holdsAs_2 (by decide) (fun c => absurd c (by decide)) (fun _ => ?_)
  refine lv_iload_n hx hb dX12_holdsAs_5 rfl (lv_at hl 1 rfl) ?_
  refine lv_iconst (v := 5) hx hb dX12_holdsAs_6 (by decide) ?_
  refine lv_icmp_ne (tgt := 24) hx hb dX12_holdsAs_7 (by decide) (fun _ => ?_) (fun c => absurd c (by decide))
  refine lv_iload_n hx hb dX12_holdsAs_24 rfl (lv_at hl 1 rfl) ?_
  refine lv_bipush (v := 6) hx hb dX12_holdsAs_25 (by decide) ?_
  refine lv_icmp_ne (tgt := 55) hx hb dX12_holdsAs_27 (by decide) (fun _ => ?_) (fun c => absurd c (by decide))
  refine lv_aload_n hx hb dX12_holdsAs_55 rfl (lv_at hl 0 rfl) ?_
  refine lv_bipush (v := 10) hx hb dX12_holdsAs_56 (by decide) ?_
  refine jcallVv (As := [.int 10]) (rest := []) ⟨hx, hb, hml, hown, hts⟩ hK hP hA hS hZ (c_X12_begins_10_2 l D cI cL ad zz hJ σ τ h55_55) cw_RX12_379 (jc_55 cI cL ad σ τ) rfl ⟨Nat.le_of_ble_eq_true rfl, Nat.le_of_ble_eq_true rfl⟩ rfl rfl rfl hl.1 rfl (Nat.le_of_ble_eq_true rfl) dX12_holdsAs_58 ⟨Nat.zero_le _, Nat.zero_le _⟩ (fun σ1 τ1 H locs h1 hP hS => ?_)
  obtain ⟨rfl, f3, f4, f5, m6, m7, h1⟩ := h1
  refine lv_aload_n hx hb dX12_holdsAs_61 rfl (lv_at hl 0 rfl) ?_
  refine lv_aload_n hx hb dX12_holdsAs_62 rfl (lv_at hl 0 rfl) ?_
  refine va_get (D := D) hx hb hts inlX12 hown hK hP 55 (jc_55 cI cL ad σ1 τ) rfl 56 (by decide) (hts _ kw_49_8) (fun _ h9 => h9) rfl dX12_holdsAs_63 ?_
  have m8 : σ1 55 56 = (σ 55 56) := (f4 56 (by decide))
  refine jtopr m8 ?_
  refine jtopr (jsame (rfl : (σ 55 56).toInt = (σ 55 56).toInt) jz_6 (by omega)) ?_
  refine lv_iload_n hx hb dX12_holdsAs_66 rfl (lv_at hl 2 rfl) ?_
  have z9 : (σ1 55 56).toInt = (σ 55 56).toInt := (congrArg Int32.toInt (show σ1 55 56 = (σ 55 56) from m8))
  refine jcallV (As := [.int 6, .int a2]) (rest := []) ⟨hx, hb, hml, hown, hts⟩ hK hP hA hS hZ (c_X12_putsAs_6_6_3 l D cI cL ad zz hJ σ1 τ a2 (A2) t2 m6 (by omega)) cw_RX12_382 (jc_55 cI cL ad σ1 τ) rfl ⟨Nat.le_of_ble_eq_true rfl, Nat.le_of_ble_eq_true rfl⟩ rfl rfl rfl hl.1 rfl (Nat.le_of_ble_eq_true rfl) dX12_holdsAs_67 ⟨Nat.zero_le _, Nat.zero_le _⟩ (fun r11 σ10 τ10 H locs h10 hP hS => ?_)
  obtain ⟨rfl, f12, f13, f14, m15, m16, h10⟩ := h10
  have h17 := h10
  obtain ⟨q19, k18⟩ := h17
  have q19 := q19.symm
  subst q19
  refine lv_iconst (v := 2) hx hb dX12_holdsAs_70 (by decide) ?_
  have g20 := jrg (rfl : (a2 + (σ1 55 57)).toInt = (a2 + (σ1 55 57)).toInt)
  refine lv_imul hx hb dX12_holdsAs_71 ?_
  refine lv_topi (fun x21 ex21 => ?_)
  have gx21 := jrg (rfl : x21.toInt = x21.toInt)
  have m22 : σ10 85 2 = 10 := ((f14 2 (by decide)).trans m7)
  exact hret x21 σ10 τ _ _ _ _ rfl ⟨rfl, (fun i hi => ((f12 i hi).trans (f3 i hi))), (fun i hi => ((f13 i hi).trans (f4 i hi))), (fun i hi => ((f14 i (imp_307 i hi)).trans (f5 i (imp_19 i hi)))), m15, m22, m16, ⟨(by rw [ex21, (show σ1 55 57 = σ 55 57 from (f4 57 (by decide)))]), trivial⟩⟩ hP hS dX12_holdsAs_72
set_option maxHeartbeats 4000000 in
set_option maxRecDepth 100000 in
theorem c_X12_givesAs_6_6_4_x1 (l : Launch) (D : va_G) (cI cL : ClassId) (ad zz : Nat → Nat) (hJ : jD ad) (σ : Nat → Nat → Int32) (τ : Nat → Nat → Int64) (h55_55 : σ 55 55 = 4) (hp0 : (σ 55 56).toInt = 6) : jM l yX12_givesAs cX12_givesAs 4 (some .int) ({ frames := 1, cells := 0, slots := 0, locals := 21 }) D cI cL ad zz [.ref (ad 55), .int 6, .int 1] σ τ (fun r σ' τ' => τ = τ' ∧ (∀ i : Nat, (i < 55 ∨ 55 < i) ∧ (i < 85 ∨ 85 < i) → σ' i = σ i) ∧ (∀ k : Nat, (k < 55 ∨ 55 < k) → σ' 55 k = σ 55 k) ∧ (∀ k : Nat, (k < 4 ∨ 4 < k) → σ' 85 k = σ 85 k) ∧ (σ' 55 55 = 5) ∧ (σ' 85 4 = 11) ∧ ((r = (1 ^^^ (σ 55 57)) ∧ True))) := by
  refine jM.of hJ (by decide +kernel) (nt := .int) rfl (Nat.le_of_ble_eq_true rfl) ?_
  intro p e s m args below meth c Q ls hC hret hl hP
  obtain ⟨hx, hb, hr, hml, hown, hts, hK, -, hlocks, hZ⟩ := hC
  have hown : s.vm.findClass RX12 = some m.cls := hown
  have hS : va_S (jA ad) s.heap s.heap [] := va_S.rf
  have hA : ∀ q, jA ad q → jA ad q := fun _ h => h
  have hl : lv_has ls 4 [(0, .ref (ad 55)), (1, .int 6), (2, .int 1)] := hl
  refine lv_iload_n hx hb dX12_givesAs_0 rfl (lv_at hl 1 rfl) ?_
  refine lv_iconst (v := 5) hx hb dX12_givesAs_1 (by decide) ?_
  refine lv_icmp_ne (tgt := 30) hx hb dX12_givesAs_2 (by decide) (fun _ => ?_) (fun c => absurd c (by decide))
  refine lv_iload_n hx hb dX12_givesAs_30 rfl (lv_at hl 1 rfl) ?_
  refine lv_iconst (v := 2) hx hb dX12_givesAs_31 (by decide) ?_
  refine lv_icmp_eq (tgt := 40) hx hb dX12_givesAs_32 (by decide) (fun c => absurd c (by decide)) (fun _ => ?_)
  refine lv_iload_n hx hb dX12_givesAs_35 rfl (lv_at hl 1 rfl) ?_
  refine lv_iconst (v := 3) hx hb dX12_givesAs_36 (by decide) ?_
  refine lv_icmp_ne (tgt := 55) hx hb dX12_givesAs_37 (by decide) (fun _ => ?_) (fun c => absurd c (by decide))
  refine lv_aload_n hx hb dX12_givesAs_55 rfl (lv_at hl 0 rfl) ?_
  refine lv_bipush (v := 11) hx hb dX12_givesAs_56 (by decide) ?_
  refine jcallVv (As := [.int 11]) (rest := []) ⟨hx, hb, hml, hown, hts⟩ hK hP hA hS hZ (c_X12_begins_11_4 l D cI cL ad zz hJ σ τ h55_55) cw_RX12_379 (jc_55 cI cL ad σ τ) rfl ⟨Nat.le_of_ble_eq_true rfl, Nat.le_of_ble_eq_true rfl⟩ rfl rfl rfl hl.1 rfl (Nat.le_of_ble_eq_true rfl) dX12_givesAs_58 ⟨Nat.zero_le _, Nat.zero_le _⟩ (fun σ1 τ1 H locs h1 hP hS => ?_)
  obtain ⟨rfl, f3, f4, f5, m6, m7, h1⟩ := h1
  refine lv_iload_n hx hb dX12_givesAs_61 rfl (lv_at hl 2 rfl) ?_
  refine lv_aload_n hx hb dX12_givesAs_62 rfl (lv_at hl 0 rfl) ?_
  refine va_get (D := D) hx hb hts inlX12 hown hK hP 55 (jc_55 cI cL ad σ1 τ) rfl 57 (by decide) (hts _ kw_49_9) (fun _ h9 => h9) rfl dX12_givesAs_63 ?_
  have m8 : σ1 55 57 = (σ 55 57) := (f4 57 (by decide))
  refine jtopr m8 ?_
  refine lv_ixor hx hb dX12_givesAs_66 ?_
  refine lv_topi (fun x9 ex9 => ?_)
  have gx9 := jrg (rfl : x9.toInt = x9.toInt)
  exact hret x9 σ1 τ _ _ _ _ rfl ⟨rfl, (fun i hi => (f3 i hi)), (fun i hi => (f4 i hi)), (fun i hi => (f5 i hi)), m6, m7, ⟨(by rw [ex9]), trivial⟩⟩ hP hS dX12_givesAs_67
set_option maxHeartbeats 4000000 in
set_option maxRecDepth 100000 in
theorem c_X12_holdsAs_6_6_1 (l : Launch) (D : va_G) (cI cL : ClassId) (ad zz : Nat → Nat) (hJ : jD ad) (σ : Nat → Nat → Int32) (τ : Nat → Nat → Int64) (a2 : Int32) (A2 : Int) (t2 : a2.toInt = A2) (h55_55 : σ 55 55 = 1) (hp0 : (σ 55 56).toInt = 6) : jM l yX12_holdsAs cX12_holdsAs 4 (some .int) ({ frames := 3, cells := 0, slots := 0, locals := 66 }) D cI cL ad zz [.ref (ad 55), .int 6, .int a2] σ τ (fun r σ' τ' => τ = τ' ∧ (∀ i : Nat, (i < 55 ∨ 55 < i) ∧ (i < 85 ∨ 85 < i) → σ' i = σ i) ∧ (∀ k : Nat, (k < 55 ∨ 55 < k) → σ' 55 k = σ 55 k) ∧ (∀ k : Nat, (k < 1 ∨ 1 < k) ∧ (k < 2 ∨ 2 < k) ∧ (k < 3 ∨ 3 < k) ∧ (k < 4 ∨ 4 < k) → σ' 85 k = σ 85 k) ∧ (σ' 55 55 = 5) ∧ (σ' 85 1 = 70) ∧ (σ' 85 2 = 10) ∧ (σ' 85 3 = 1) ∧ (σ' 85 4 = 11) ∧ ((r = (((a2 + (σ 55 57)) * 2) + (1 ^^^ (σ 55 57))) ∧ True))) := by
  refine jM.of hJ (by decide +kernel) (nt := .int) rfl (Nat.le_of_ble_eq_true rfl) ?_
  intro p e s m args below meth c Q ls hC hret hl hP
  obtain ⟨hx, hb, hr, hml, hown, hts, hK, -, hlocks, hZ⟩ := hC
  have hown : s.vm.findClass RX12 = some m.cls := hown
  have hS : va_S (jA ad) s.heap s.heap [] := va_S.rf
  have hA : ∀ q, jA ad q → jA ad q := fun _ h => h
  have hl : lv_has ls 4 [(0, .ref (ad 55)), (1, .int 6), (2, .int a2)] := hl
  have g2 := jrg t2
  refine lv_iload_n hx hb dX12_holdsAs_0 rfl (lv_at hl 1 rfl) ?_
  refine lv_iconst (v := 3) hx hb dX12_holdsAs_1 (by decide) ?_
  refine lv_icmp_eq (tgt := 10) hx hb dX12_holdsAs_2 (by decide) (fun c => absurd c (by decide)) (fun _ => ?_)
  refine lv_iload_n hx hb dX12_holdsAs_5 rfl (lv_at hl 1 rfl) ?_
  refine lv_iconst (v := 5) hx hb dX12_holdsAs_6 (by decide) ?_
  refine lv_icmp_ne (tgt := 24) hx hb dX12_holdsAs_7 (by decide) (fun _ => ?_) (fun c => absurd c (by decide))
  refine lv_iload_n hx hb dX12_holdsAs_24 rfl (lv_at hl 1 rfl) ?_
  refine lv_bipush (v := 6) hx hb dX12_holdsAs_25 (by decide) ?_
  refine lv_icmp_ne (tgt := 55) hx hb dX12_holdsAs_27 (by decide) (fun c => absurd (by decide) c) (fun _ => ?_)
  refine lv_aload_n hx hb dX12_holdsAs_30 rfl (lv_at hl 0 rfl) ?_
  refine lv_bipush (v := 70) hx hb dX12_holdsAs_31 (by decide) ?_
  refine jcallVv (As := [.int 70]) (rest := []) ⟨hx, hb, hml, hown, hts⟩ hK hP hA hS hZ (c_X12_begins_70_1 l D cI cL ad zz hJ σ τ h55_55) cw_RX12_379 (jc_55 cI cL ad σ τ) rfl ⟨Nat.le_of_ble_eq_true rfl, Nat.le_of_ble_eq_true rfl⟩ rfl rfl rfl hl.1 rfl (Nat.le_of_ble_eq_true rfl) dX12_holdsAs_33 ⟨Nat.zero_le _, Nat.zero_le _⟩ (fun σ1 τ1 H locs h1 hP hS => ?_)
  obtain ⟨rfl, f3, f4, f5, m6, m7, h1⟩ := h1
  refine lv_aload_n hx hb dX12_holdsAs_36 rfl (lv_at hl 0 rfl) ?_
  refine lv_iconst (v := 0) hx hb dX12_holdsAs_37 (by decide) ?_
  refine lv_iload_n hx hb dX12_holdsAs_38 rfl (lv_at hl 2 rfl) ?_
  have z8 : (σ1 55 56).toInt = (σ 55 56).toInt := (congrArg Int32.toInt (show σ1 55 56 = (σ 55 56) from (f4 56 (by decide))))
  refine jcallV (As := [.int 0, .int a2]) (rest := []) ⟨hx, hb, hml, hown, hts⟩ hK hP hA hS hZ (c_X12_holdsAs_6_0_2 l D cI cL ad zz hJ σ1 τ a2 (A2) t2 m6 (by omega)) cw_RX12_388 (jc_55 cI cL ad σ1 τ) rfl ⟨Nat.le_of_ble_eq_true rfl, Nat.le_of_ble_eq_true rfl⟩ rfl rfl rfl hl.1 rfl (Nat.le_of_ble_eq_true rfl) dX12_holdsAs_39 ⟨Nat.zero_le _, Nat.zero_le _⟩ (fun r10 σ9 τ9 H locs h9 hP hS => ?_)
  obtain ⟨rfl, f11, f12, f13, m14, m15, m16, h9⟩ := h9
  have h17 := h9
  obtain ⟨q19, k18⟩ := h17
  have q19 := q19.symm
  subst q19
  refine lv_istore_n (lv' := [(3, .int ((a2 + (σ1 55 57)) * 2)), (0, .ref (ad 55)), (1, .int 6), (2, .int a2)]) hx hb dX12_holdsAs_42 rfl hl (by decide) rfl (fun ls hl => ?_)
  refine lv_iload_n hx hb dX12_holdsAs_43 rfl (lv_at hl 0 rfl) ?_
  refine lv_aload_n hx hb dX12_holdsAs_44 rfl (lv_at hl 1 rfl) ?_
  refine lv_aload_n hx hb dX12_holdsAs_45 rfl (lv_at hl 1 rfl) ?_
  refine va_get (D := D) hx hb hts inlX12 hown hK hP 55 (jc_55 cI cL ad σ9 τ) rfl 56 (by decide) (hts _ kw_49_8) (fun _ h9 => h9) rfl dX12_holdsAs_46 ?_
  have m20 : σ9 55 56 = (σ 55 56) := ((f12 56 (by decide)).trans (f4 56 (by decide)))
  refine jtopr m20 ?_
  refine jtopr (jsame (rfl : (σ 55 56).toInt = (σ 55 56).toInt) jz_6 (by omega)) ?_
  refine lv_iconst (v := 1) hx hb dX12_holdsAs_49 (by decide) ?_
  have z21 : (σ9 55 56).toInt = (σ 55 56).toInt := (congrArg Int32.toInt (show σ9 55 56 = (σ 55 56) from m20))
  refine jcallV (As := [.int 6, .int 1]) (rest := [.int ((a2 + (σ1 55 57)) * 2)]) ⟨hx, hb, hml, hown, hts⟩ hK hP hA hS hZ (c_X12_givesAs_6_6_4_x1 l D cI cL ad zz hJ σ9 τ m14 (by omega)) cw_RX12_394 (jc_55 cI cL ad σ9 τ) rfl ⟨Nat.le_of_ble_eq_true rfl, Nat.le_of_ble_eq_true rfl⟩ rfl rfl rfl hl.1 rfl (Nat.le_of_ble_eq_true rfl) dX12_holdsAs_50 ⟨Nat.zero_le _, Nat.zero_le _⟩ (fun r23 σ22 τ22 H locs h22 hP hS => ?_)
  obtain ⟨rfl, f24, f25, f26, m27, m28, h22⟩ := h22
  have h29 := h22
  obtain ⟨q31, k30⟩ := h29
  have q31 := q31.symm
  subst q31
  have g32 := jrg (rfl : ((a2 + (σ1 55 57)) * 2).toInt = ((a2 + (σ1 55 57)) * 2).toInt)
  have g33 := jrg (rfl : (1 ^^^ (σ9 55 57)).toInt = (1 ^^^ (σ9 55 57)).toInt)
  refine lv_iadd hx hb dX12_holdsAs_53 ?_
  refine lv_topi (fun x34 ex34 => ?_)
  have gx34 := jrg (rfl : x34.toInt = x34.toInt)
  have m35 : σ22 85 1 = 70 := ((f26 1 (by decide)).trans ((f13 1 (by decide)).trans m7))
  have m36 : σ22 85 2 = 10 := ((f26 2 (by decide)).trans m15)
  have m37 : σ22 85 3 = 1 := ((f26 3 (by decide)).trans m16)
  exact hret x34 σ22 τ _ _ _ _ rfl ⟨rfl, (fun i hi => ((f24 i hi).trans ((f11 i hi).trans (f3 i hi)))), (fun i hi => ((f25 i hi).trans ((f12 i hi).trans (f4 i hi)))), (fun i hi => ((f26 i (imp_340 i hi)).trans ((f13 i (imp_341 i hi)).trans (f5 i (imp_362 i hi))))), m27, m35, m36, m37, m28, ⟨(by rw [ex34, (show σ1 55 57 = σ 55 57 from (f4 57 (by decide))), (show σ9 55 57 = σ 55 57 from ((f12 57 (by decide)).trans (f4 57 (by decide))))]), trivial⟩⟩ hP hS dX12_holdsAs_54
set_option maxHeartbeats 4000000 in
set_option maxRecDepth 100000 in
theorem c_X12_givesAs_6_6_5_x1 (l : Launch) (D : va_G) (cI cL : ClassId) (ad zz : Nat → Nat) (hJ : jD ad) (σ : Nat → Nat → Int32) (τ : Nat → Nat → Int64) (h55_55 : σ 55 55 = 5) (hp0 : (σ 55 56).toInt = 6) : jM l yX12_givesAs cX12_givesAs 4 (some .int) ({ frames := 1, cells := 0, slots := 0, locals := 21 }) D cI cL ad zz [.ref (ad 55), .int 6, .int 1] σ τ (fun r σ' τ' => τ = τ' ∧ (∀ i : Nat, (i < 55 ∨ 55 < i) ∧ (i < 85 ∨ 85 < i) → σ' i = σ i) ∧ (∀ k : Nat, (k < 55 ∨ 55 < k) → σ' 55 k = σ 55 k) ∧ (∀ k : Nat, (k < 5 ∨ 5 < k) → σ' 85 k = σ 85 k) ∧ (σ' 55 55 = 6) ∧ (σ' 85 5 = 11) ∧ ((r = (1 ^^^ (σ 55 57)) ∧ True))) := by
  refine jM.of hJ (by decide +kernel) (nt := .int) rfl (Nat.le_of_ble_eq_true rfl) ?_
  intro p e s m args below meth c Q ls hC hret hl hP
  obtain ⟨hx, hb, hr, hml, hown, hts, hK, -, hlocks, hZ⟩ := hC
  have hown : s.vm.findClass RX12 = some m.cls := hown
  have hS : va_S (jA ad) s.heap s.heap [] := va_S.rf
  have hA : ∀ q, jA ad q → jA ad q := fun _ h => h
  have hl : lv_has ls 4 [(0, .ref (ad 55)), (1, .int 6), (2, .int 1)] := hl
  refine lv_iload_n hx hb dX12_givesAs_0 rfl (lv_at hl 1 rfl) ?_
  refine lv_iconst (v := 5) hx hb dX12_givesAs_1 (by decide) ?_
  refine lv_icmp_ne (tgt := 30) hx hb dX12_givesAs_2 (by decide) (fun _ => ?_) (fun c => absurd c (by decide))
  refine lv_iload_n hx hb dX12_givesAs_30 rfl (lv_at hl 1 rfl) ?_
  refine lv_iconst (v := 2) hx hb dX12_givesAs_31 (by decide) ?_
  refine lv_icmp_eq (tgt := 40) hx hb dX12_givesAs_32 (by decide) (fun c => absurd c (by decide)) (fun _ => ?_)
  refine lv_iload_n hx hb dX12_givesAs_35 rfl (lv_at hl 1 rfl) ?_
  refine lv_iconst (v := 3) hx hb dX12_givesAs_36 (by decide) ?_
  refine lv_icmp_ne (tgt := 55) hx hb dX12_givesAs_37 (by decide) (fun _ => ?_) (fun c => absurd c (by decide))
  refine lv_aload_n hx hb dX12_givesAs_55 rfl (lv_at hl 0 rfl) ?_
  refine lv_bipush (v := 11) hx hb dX12_givesAs_56 (by decide) ?_
  refine jcallVv (As := [.int 11]) (rest := []) ⟨hx, hb, hml, hown, hts⟩ hK hP hA hS hZ (c_X12_begins_11_5 l D cI cL ad zz hJ σ τ h55_55) cw_RX12_379 (jc_55 cI cL ad σ τ) rfl ⟨Nat.le_of_ble_eq_true rfl, Nat.le_of_ble_eq_true rfl⟩ rfl rfl rfl hl.1 rfl (Nat.le_of_ble_eq_true rfl) dX12_givesAs_58 ⟨Nat.zero_le _, Nat.zero_le _⟩ (fun σ1 τ1 H locs h1 hP hS => ?_)
  obtain ⟨rfl, f3, f4, f5, m6, m7, h1⟩ := h1
  refine lv_iload_n hx hb dX12_givesAs_61 rfl (lv_at hl 2 rfl) ?_
  refine lv_aload_n hx hb dX12_givesAs_62 rfl (lv_at hl 0 rfl) ?_
  refine va_get (D := D) hx hb hts inlX12 hown hK hP 55 (jc_55 cI cL ad σ1 τ) rfl 57 (by decide) (hts _ kw_49_9) (fun _ h9 => h9) rfl dX12_givesAs_63 ?_
  have m8 : σ1 55 57 = (σ 55 57) := (f4 57 (by decide))
  refine jtopr m8 ?_
  refine lv_ixor hx hb dX12_givesAs_66 ?_
  refine lv_topi (fun x9 ex9 => ?_)
  have gx9 := jrg (rfl : x9.toInt = x9.toInt)
  exact hret x9 σ1 τ _ _ _ _ rfl ⟨rfl, (fun i hi => (f3 i hi)), (fun i hi => (f4 i hi)), (fun i hi => (f5 i hi)), m6, m7, ⟨(by rw [ex9]), trivial⟩⟩ hP hS dX12_givesAs_67
set_option maxHeartbeats 4000000 in
set_option maxRecDepth 100000 in
theorem c_X12_tellsAs_6_6_0 (l : Launch) (D : va_G) (cI cL : ClassId) (ad zz : Nat → Nat) (hJ : jD ad) (σ : Nat → Nat → Int32) (τ : Nat → Nat → Int64) (a2 : Int32) (A2 : Int) (t2 : a2.toInt = A2) (h55_55 : σ 55 55 = 0) (hp0 : (σ 55 56).toInt = 6) : jM l yX12_tellsAs cX12_tellsAs 4 (some .int) ({ frames := 4, cells := 0, slots := 0, locals := 89 }) D cI cL ad zz [.ref (ad 55), .int 6, .int a2] σ τ (fun r σ' τ' => τ = τ' ∧ (∀ i : Nat, (i < 55 ∨ 55 < i) ∧ (i < 85 ∨ 85 < i) → σ' i = σ i) ∧ (∀ k : Nat, (k < 55 ∨ 55 < k) → σ' 55 k = σ 55 k) ∧ (∀ k : Nat, (k < 0 ∨ 0 < k) ∧ (k < 1 ∨ 1 < k) ∧ (k < 2 ∨ 2 < k) ∧ (k < 3 ∨ 3 < k) ∧ (k < 4 ∨ 4 < k) ∧ (k < 5 ∨ 5 < k) → σ' 85 k = σ 85 k) ∧ (σ' 55 55 = 6) ∧ (σ' 85 0 = 2) ∧ (σ' 85 1 = 70) ∧ (σ' 85 2 = 10) ∧ (σ' 85 3 = 1) ∧ (σ' 85 4 = 11) ∧ (σ' 85 5 = 11) ∧ ((r = ((((a2 + (σ 55 57)) * 2) + (1 ^^^ (σ 55 57))) - (1 ^^^ (σ 55 57))) ∧ True))) := by
  refine jM.of hJ (by decide +kernel) (nt := .int) rfl (Nat.le_of_ble_eq_true rfl) ?_
  intro p e s m args below meth c Q ls hC hret hl hP
  obtain ⟨hx, hb, hr, hml, hown, hts, hK, -, hlocks, hZ⟩ := hC
  have hown : s.vm.findClass RX12 = some m.cls := hown
  have hS : va_S (jA ad) s.heap s.heap [] := va_S.rf
  have hA : ∀ q, jA ad q → jA ad q := fun _ h => h
  have hl : lv_has ls 4 [(0, .ref (ad 55)), (1, .int 6), (2, .int a2)] := hl
  have g2 := jrg t2
  refine lv_iload_n hx hb dX12_tellsAs_0 rfl (lv_at hl 1 rfl) ?_
  refine lv_iconst (v := 4) hx hb dX12_tellsAs_1 (by decide) ?_
  refine lv_icmp_ne (tgt := 20) hx hb dX12_tellsAs_2 (by decide) (fun _ => ?_) (fun c => absurd c (by decide))
  refine lv_aload_n hx hb dX12_tellsAs_20 rfl (lv_at hl 0 rfl) ?_
  refine lv_iconst (v := 2) hx hb dX12_tellsAs_21 (by decide) ?_
  refine jcallVv (As := [.int 2]) (rest := []) ⟨hx, hb, hml, hown, hts⟩ hK hP hA hS hZ (c_X12_begins_2_0 l D cI cL ad zz hJ σ τ h55_55) cw_RX12_379 (jc_55 cI cL ad σ τ) rfl ⟨Nat.le_of_ble_eq_true rfl, Nat.le_of_ble_eq_true rfl⟩ rfl rfl rfl hl.1 rfl (Nat.le_of_ble_eq_true rfl) dX12_tellsAs_22 ⟨Nat.zero_le _, Nat.zero_le _⟩ (fun σ1 τ1 H locs h1 hP hS => ?_)
  obtain ⟨rfl, f3, f4, f5, m6, m7, h1⟩ := h1
  refine lv_aload_n hx hb dX12_tellsAs_25 rfl (lv_at hl 0 rfl) ?_
  refine lv_aload_n hx hb dX12_tellsAs_26 rfl (lv_at hl 0 rfl) ?_
  refine va_get (D := D) hx hb hts inlX12 hown hK hP 55 (jc_55 cI cL ad σ1 τ) rfl 56 (by decide) (hts _ kw_49_8) (fun _ h9 => h9) rfl dX12_tellsAs_27 ?_
  have m8 : σ1 55 56 = (σ 55 56) := (f4 56 (by decide))
  refine jtopr m8 ?_
  refine jtopr (jsame (rfl : (σ 55 56).toInt = (σ 55 56).toInt) jz_6 (by omega)) ?_
  refine lv_iload_n hx hb dX12_tellsAs_30 rfl (lv_at hl 2 rfl) ?_
  have z9 : (σ1 55 56).toInt = (σ 55 56).toInt := (congrArg Int32.toInt (show σ1 55 56 = (σ 55 56) from m8))
  refine jcallV (As := [.int 6, .int a2]) (rest := []) ⟨hx, hb, hml, hown, hts⟩ hK hP hA hS hZ (c_X12_holdsAs_6_6_1 l D cI cL ad zz hJ σ1 τ a2 (A2) t2 m6 (by omega)) cw_RX12_388 (jc_55 cI cL ad σ1 τ) rfl ⟨Nat.le_of_ble_eq_true rfl, Nat.le_of_ble_eq_true rfl⟩ rfl rfl rfl hl.1 rfl (Nat.le_of_ble_eq_true rfl) dX12_tellsAs_31 ⟨Nat.zero_le _, Nat.zero_le _⟩ (fun r11 σ10 τ10 H locs h10 hP hS => ?_)
  obtain ⟨rfl, f12, f13, f14, m15, m16, m17, m18, m19, h10⟩ := h10
  have h20 := h10
  obtain ⟨q22, k21⟩ := h20
  have q22 := q22.symm
  subst q22
  refine lv_istore_n (lv' := [(3, .int (((a2 + (σ1 55 57)) * 2) + (1 ^^^ (σ1 55 57)))), (0, .ref (ad 55)), (1, .int 6), (2, .int a2)]) hx hb dX12_tellsAs_34 rfl hl (by decide) rfl (fun ls hl => ?_)
  refine lv_iload_n hx hb dX12_tellsAs_35 rfl (lv_at hl 0 rfl) ?_
  refine lv_aload_n hx hb dX12_tellsAs_36 rfl (lv_at hl 1 rfl) ?_
  refine lv_aload_n hx hb dX12_tellsAs_37 rfl (lv_at hl 1 rfl) ?_
  refine va_get (D := D) hx hb hts inlX12 hown hK hP 55 (jc_55 cI cL ad σ10 τ) rfl 56 (by decide) (hts _ kw_49_8) (fun _ h9 => h9) rfl dX12_tellsAs_38 ?_
  have m23 : σ10 55 56 = (σ 55 56) := ((f13 56 (by decide)).trans m8)
  refine jtopr m23 ?_
  refine jtopr (jsame (rfl : (σ 55 56).toInt = (σ 55 56).toInt) jz_6 (by omega)) ?_
  refine lv_iconst (v := 1) hx hb dX12_tellsAs_41 (by decide) ?_
  have z24 : (σ10 55 56).toInt = (σ 55 56).toInt := (congrArg Int32.toInt (show σ10 55 56 = (σ 55 56) from m23))
  refine jcallV (As := [.int 6, .int 1]) (rest := [.int (((a2 + (σ1 55 57)) * 2) + (1 ^^^ (σ1 55 57)))]) ⟨hx, hb, hml, hown, hts⟩ hK hP hA hS hZ (c_X12_givesAs_6_6_5_x1 l D cI cL ad zz hJ σ10 τ m15 (by omega)) cw_RX12_394 (jc_55 cI cL ad σ10 τ) rfl ⟨Nat.le_of_ble_eq_true rfl, Nat.le_of_ble_eq_true rfl⟩ rfl rfl rfl hl.1 rfl (Nat.le_of_ble_eq_true rfl) dX12_tellsAs_42 ⟨Nat.zero_le _, Nat.zero_le _⟩ (fun r26 σ25 τ25 H locs h25 hP hS => ?_)
  obtain ⟨rfl, f27, f28, f29, m30, m31, h25⟩ := h25
  have h32 := h25
  obtain ⟨q34, k33⟩ := h32
  have q34 := q34.symm
  subst q34
  have g35 := jrg (rfl : (((a2 + (σ1 55 57)) * 2) + (1 ^^^ (σ1 55 57))).toInt = (((a2 + (σ1 55 57)) * 2) + (1 ^^^ (σ1 55 57))).toInt)
  have g36 := jrg (rfl : (1 ^^^ (σ10 55 57)).toInt = (1 ^^^ (σ10 55 57)).toInt)
  refine lv_isub hx hb dX12_tellsAs_45 ?_
  refine lv_topi (fun x37 ex37 => ?_)
  have gx37 := jrg (rfl : x37.toInt = x37.toInt)
  have m38 : σ25 85 0 = 2 := ((f29 0 (by decide)).trans ((f14 0 (by decide)).trans m7))
  have m39 : σ25 85 1 = 70 := ((f29 1 (by decide)).trans m16)
  have m40 : σ25 85 2 = 10 := ((f29 2 (by decide)).trans m17)
  have m41 : σ25 85 3 = 1 := ((f29 3 (by decide)).trans m18)
  have m42 : σ25 85 4 = 11 := ((f29 4 (by decide)).trans m19)
  exact hret x37 σ25 τ _ _ _ _ rfl ⟨rfl, (fun i hi => ((f27 i hi).trans ((f12 i hi).trans (f3 i hi)))), (fun i hi => ((f28 i hi).trans ((f13 i hi).trans (f4 i hi)))), (fun i hi => ((f29 i (imp_343 i hi)).trans ((f14 i (imp_344 i hi)).trans (f5 i (imp_354 i hi))))), m30, m38, m39, m40, m41, m42, m31, ⟨(by rw [ex37, (show σ1 55 57 = σ 55 57 from (f4 57 (by decide))), (show σ10 55 57 = σ 55 57 from ((f13 57 (by decide)).trans (f4 57 (by decide))))]), trivial⟩⟩ hP hS dX12_tellsAs_46
set_option maxHeartbeats 4000000 in
set_option maxRecDepth 100000 in
theorem c_X12_act (l : Launch) (D : va_G) (cI cL : ClassId) (ad zz : Nat → Nat) (hJ : jD ad) (σ : Nat → Nat → Int32) (τ : Nat → Nat → Int64) (a1 : Int32) (A1 : Int) (t1 : a1.toInt = A1) (a2 : Int32) (A2 : Int) (t2 : a2.toInt = A2) (a3 : Int32) (A3 : Int) (t3 : a3.toInt = A3) (hI106 : jI106 σ) : jM l yX12_act cX12_act 4 (some .int) ({ frames := 7, cells := 0, slots := 0, locals := 156 }) D cI cL ad zz [.ref (ad 55), .int a1, .int a2, .int a3] σ τ (fun r σ' τ' => τ = τ' ∧ (∀ i : Nat, (i < 55 ∨ 55 < i) ∧ (i < 85 ∨ 85 < i) → σ' i = σ i) ∧ (∀ k : Nat, (k < 55 ∨ 55 < k) ∧ (k < 56 ∨ 56 < k) ∧ (k < 57 ∨ 57 < k) → σ' 55 k = σ 55 k) ∧ ((r = 0 ∧ ((A1 < 0) ∨ ((σ 55 32).toInt ≤ A1) ∨ (A2 < 0) ∨ (3 < A2)) ∧ ((σ' 55 55).toInt = 0)) ∨ (True ∧ (0 ≤ A1) ∧ (A1 < (σ 55 32).toInt) ∧ (0 ≤ A2 ∧ A2 ≤ 3) ∧ (r = jActV ((σ 70 a1.toNatClampNeg).toInt) (A2) a3 a1 ∧ jTrc ((σ 70 a1.toNatClampNeg).toInt) (A2) (σ' 85) (σ' 55 55).toInt)))) := by
  refine jM.of hJ (by decide +kernel) (nt := .int) rfl (Nat.le_of_ble_eq_true rfl) ?_
  intro p e s m args below meth c Q ls hC hret hl hP
  obtain ⟨hx, hb, hr, hml, hown, hts, hK, -, hlocks, hZ⟩ := hC
  have hown : s.vm.findClass RX12 = some m.cls := hown
  have hS : va_S (jA ad) s.heap s.heap [] := va_S.rf
  have hA : ∀ q, jA ad q → jA ad q := fun _ h => h
  have hl : lv_has ls 4 [(0, .ref (ad 55)), (1, .int a1), (2, .int a2), (3, .int a3)] := hl
  have g1 := jrg t1
  have g2 := jrg t2
  have g3 := jrg t3
  obtain ⟨i1, w2, w3, w4⟩ : (0 ≤ (σ 55 32).toInt ∧ (σ 55 32).toInt ≤ 20) ∧ (∀ k : Nat, k < 20 → 0 ≤ (σ 70 k).toInt ∧ (σ 70 k).toInt ≤ 6) ∧ (∀ k : Nat, k < 20 → 0 ≤ (σ 71 k).toInt ∧ (σ 71 k).toInt ≤ 8) ∧ (∀ k : Nat, k < 160 → 0 ≤ (σ 72 k).toInt ∧ (σ 72 k).toInt ≤ 3) := id hI106
  refine lv_aload_n hx hb dX12_act_0 rfl (lv_at hl 0 rfl) ?_
  refine lv_iconst (v := 0) hx hb dX12_act_1 (by decide) ?_
  refine jput (ty := .int) hx hb hts inlX12 tyX12 tyX12_ok nmX12 hown hK hP hJ hA hS (jc_55 cI cL ad σ τ) rfl (k := 55) (by decide) (Nat.le_of_ble_eq_true rfl) (jp_55_55 cI cL ad σ τ 0) (hts _ kw_49_7) (fun _ h9 => h9) rfl (by decide +kernel) rfl rfl dX12_act_2 (fun σ5 H locs eσ5 hP hS => ?_)
  refine lv_aload_n hx hb dX12_act_5 rfl (lv_at hl 0 rfl) ?_
  refine lv_iload_n hx hb dX12_act_6 rfl (lv_at hl 1 rfl) ?_
  have I6 : jI106 σ5 := jI106_fr (jkp 32 eσ5 (by decide)) (jnp 70 eσ5 (by decide)) (jnp 71 eσ5 (by decide)) (jnp 72 eσ5 (by decide)) hI106
  have z7 : (σ5 55 32).toInt = (σ 55 32).toInt := (congrArg Int32.toInt (show σ5 55 32 = (σ 55 32) from (jkp 32 eσ5 (by decide))))
  refine jcallV (As := [.int a1]) (rest := []) ⟨hx, hb, hml, hown, hts⟩ hK hP hA hS hZ (c_X12_isRule l D cI cL ad zz hJ σ5 τ a1 (A1) t1 I6) cw_RX12_331 (jc_55 cI cL ad σ5 τ) rfl ⟨Nat.le_of_ble_eq_true rfl, Nat.le_of_ble_eq_true rfl⟩ rfl rfl rfl hl.1 rfl (Nat.le_of_ble_eq_true rfl) dX12_act_7 ⟨Nat.zero_le _, Nat.zero_le _⟩ (fun r9 σ8 τ8 H locs h8 hP hS => ?_)
  obtain ⟨⟨rfl, rfl⟩, h8⟩ := h8
  rcases h8 with h10 | h11
  · obtain ⟨q13, k12⟩ := h10
    have q13 := q13.symm
    subst q13
    refine lv_if_ne (tgt := 15) hx hb dX12_act_10 (by decide) (fun _ => ?_) (fun c => absurd c (by decide))
    refine lv_aload_n hx hb dX12_act_15 rfl (lv_at hl 0 rfl) ?_
    refine lv_aload_n hx hb dX12_act_16 rfl (lv_at hl 0 rfl) ?_
    refine va_get (D := D) hx hb hts inlX12 hown hK hP 55 (jc_55 cI cL ad σ5 τ) rfl 33 (by decide) (hts _ kw_7_18) (fun _ h9 => h9) rfl dX12_act_17 ?_
    refine lv_iload_n hx hb dX12_act_20 rfl (lv_at hl 1 rfl) ?_
    refine jald hx hb hK hP (jc_70 cI cL ad σ5 τ) (jin t1 (by omega) (by omega)) dX12_act_21 ?_
    have w14 : ∀ k : Nat, k < 20 → 0 ≤ (σ5 70 k).toInt ∧ (σ5 70 k).toInt ≤ 6 := (jrr_fr (jnp 70 eσ5 (by decide)) w2)
    have g15 := w14 _ (jnat (x := a1) t1 (n := 20) (by omega) (by decide))
    refine jtopr (y := (σ 70 a1.toNatClampNeg)) (by rw [jnp 70 eσ5 (by decide)]) ?_
    rw [jnp 70 eσ5 (by decide)] at g15
    by_cases c16 : (σ 70 a1.toNatClampNeg) = 0
    · have kc16 := jeq c16 (rfl : (σ 70 a1.toNatClampNeg).toInt = (σ 70 a1.toNatClampNeg).toInt) jz_0
      refine jtopr c16 ?_
      refine jput (ty := .int) hx hb hts inlX12 tyX12 tyX12_ok nmX12 hown hK hP hJ hA hS (jc_55 cI cL ad σ5 τ) rfl (k := 56) (by decide) (Nat.le_of_ble_eq_true rfl) (jp_55_56 cI cL ad σ5 τ 0) (hts _ kw_49_8) (fun _ h9 => h9) rfl (by decide +kernel) rfl rfl dX12_act_22 (fun σ17 H locs eσ17 hP hS => ?_)
      refine lv_aload_n hx hb dX12_act_25 rfl (lv_at hl 0 rfl) ?_
      refine lv_iload_n hx hb dX12_act_26 rfl (lv_at hl 1 rfl) ?_
      refine jput (ty := .int) hx hb hts inlX12 tyX12 tyX12_ok nmX12 hown hK hP hJ hA hS (jc_55 cI cL ad σ17 τ) rfl (k := 57) (by decide) (Nat.le_of_ble_eq_true rfl) (jp_55_57 cI cL ad σ17 τ a1) (hts _ kw_49_9) (fun _ h9 => h9) rfl (by decide +kernel) rfl rfl dX12_act_27 (fun σ18 H locs eσ18 hP hS => ?_)
      refine lv_iload_n hx hb dX12_act_30 rfl (lv_at hl 2 rfl) ?_
      by_cases c19 : a2 = 0
      · have kc19 := jeq c19 t2 jz_0
        refine jtopr c19 ?_
        refine lv_tableIn (off := 29) (tgt := 60) hx hb dX12_act_31 (by decide) (by decide) (by decide) (by decide) ?_
        refine lv_aload_n hx hb dX12_act_60 rfl (lv_at hl 0 rfl) ?_
        refine lv_aload_n hx hb dX12_act_61 rfl (lv_at hl 0 rfl) ?_
        refine va_get (D := D) hx hb hts inlX12 hown hK hP 55 (jc_55 cI cL ad σ18 τ) rfl 56 (by decide) (hts _ kw_49_8) (fun _ h9 => h9) rfl dX12_act_62 ?_
        have m20 : σ18 55 56 = 0 := ((jkp 56 eσ18 (by decide)).trans (jsp eσ17))
        refine jtopr m20 ?_
        refine lv_iload_n hx hb dX12_act_65 rfl (lv_at hl 3 rfl) ?_
        have m21 : σ18 55 55 = 0 := ((jkp 55 eσ18 (by decide)).trans ((jkp 55 eσ17 (by decide)).trans (jsp eσ5)))
        have z22 : (σ18 55 56).toInt = 0 := ((congrArg Int32.toInt (show σ18 55 56 = 0 from m20)).trans jz_0)
        refine jcallV (As := [.int 0, .int a3]) (rest := []) ⟨hx, hb, hml, hown, hts⟩ hK hP hA hS hZ (c_X12_putsAs_0_0_0 l D cI cL ad zz hJ σ18 τ a3 (A3) t3 m21 (by omega)) cw_RX12_382 (jc_55 cI cL ad σ18 τ) rfl ⟨Nat.le_of_ble_eq_true rfl, Nat.le_of_ble_eq_true rfl⟩ rfl rfl rfl hl.1 rfl (Nat.le_of_ble_eq_true rfl) dX12_act_66 ⟨Nat.zero_le _, Nat.zero_le _⟩ (fun r24 σ23 τ23 H locs h23 hP hS => ?_)
        obtain ⟨rfl, f25, f26, f27, m28, m29, h23⟩ := h23
        have h30 := h23
        obtain ⟨q32, k31⟩ := h30
        have q32 := q32.symm
        subst q32
        have z33 : (σ23 55 55).toInt = 1 := ((congrArg Int32.toInt (show σ23 55 55 = 1 from m28)).trans jz_1)
        exact hret (a3 + (σ18 55 57)) σ23 τ _ _ _ _ rfl ⟨rfl, (fun i hi => ((f25 i hi).trans ((jnp i eσ18 (imp_345 i hi)).trans ((jnp i eσ17 (imp_345 i hi)).trans (jnp i eσ5 (imp_345 i hi)))))), (fun i hi => ((f26 i (imp_363 i hi)).trans ((jkp i eσ18 (imp_364 i hi)).trans ((jkp i eσ17 (imp_365 i hi)).trans (jkp i eσ5 (imp_366 i hi)))))), Or.inr (⟨trivial, (by omega), (by omega), (by omega), ⟨(by rw [show σ18 55 57 = a1 from (jsp eσ18), show (σ 70 a1.toNatClampNeg).toInt = 0 by omega, show A2 = 0 by omega]; rfl), (by rw [show (σ 70 a1.toNatClampNeg).toInt = 0 by omega, show A2 = 0 by omega]; exact ⟨(by rw [show σ23 55 55 = 1 from m28]; decide), (show σ23 85 0 = 1 from m29), trivial⟩)⟩⟩)⟩ hP hS dX12_act_69
      have kc19 := jne c19 t2 jz_0
      by_cases c35 : a2 = 1
      · have kc35 := jeq c35 t2 jz_1
        refine jtopr c35 ?_
        refine lv_tableIn (off := 39) (tgt := 70) hx hb dX12_act_31 (by decide) (by decide) (by decide) (by decide) ?_
        refine lv_aload_n hx hb dX12_act_70 rfl (lv_at hl 0 rfl) ?_
        refine lv_aload_n hx hb dX12_act_71 rfl (lv_at hl 0 rfl) ?_
        refine va_get (D := D) hx hb hts inlX12 hown hK hP 55 (jc_55 cI cL ad σ18 τ) rfl 56 (by decide) (hts _ kw_49_8) (fun _ h9 => h9) rfl dX12_act_72 ?_
        have m36 : σ18 55 56 = 0 := ((jkp 56 eσ18 (by decide)).trans (jsp eσ17))
        refine jtopr m36 ?_
        refine lv_iload_n hx hb dX12_act_75 rfl (lv_at hl 3 rfl) ?_
        have m37 : σ18 55 55 = 0 := ((jkp 55 eσ18 (by decide)).trans ((jkp 55 eσ17 (by decide)).trans (jsp eσ5)))
        have z38 : (σ18 55 56).toInt = 0 := ((congrArg Int32.toInt (show σ18 55 56 = 0 from m36)).trans jz_0)
        refine jcallV (As := [.int 0, .int a3]) (rest := []) ⟨hx, hb, hml, hown, hts⟩ hK hP hA hS hZ (c_X12_holdsAs_0_0_0 l D cI cL ad zz hJ σ18 τ a3 (A3) t3 m37 (by omega)) cw_RX12_388 (jc_55 cI cL ad σ18 τ) rfl ⟨Nat.le_of_ble_eq_true rfl, Nat.le_of_ble_eq_true rfl⟩ rfl rfl rfl hl.1 rfl (Nat.le_of_ble_eq_true rfl) dX12_act_76 ⟨Nat.zero_le _, Nat.zero_le _⟩ (fun r40 σ39 τ39 H locs h39 hP hS => ?_)
        obtain ⟨rfl, f41, f42, f43, m44, m45, m46, h39⟩ := h39
        have h47 := h39
        obtain ⟨q49, k48⟩ := h47
        have q49 := q49.symm
        subst q49
        have z50 : (σ39 55 55).toInt = 2 := ((congrArg Int32.toInt (show σ39 55 55 = 2 from m44)).trans jz_2)
        exact hret ((a3 + (σ18 55 57)) * 2) σ39 τ _ _ _ _ rfl ⟨rfl, (fun i hi => ((f41 i hi).trans ((jnp i eσ18 (imp_345 i hi)).trans ((jnp i eσ17 (imp_345 i hi)).trans (jnp i eσ5 (imp_345 i hi)))))), (fun i hi => ((f42 i (imp_363 i hi)).trans ((jkp i eσ18 (imp_364 i hi)).trans ((jkp i eσ17 (imp_365 i hi)).trans (jkp i eσ5 (imp_366 i hi)))))), Or.inr (⟨trivial, (by omega), (by omega), (by omega), ⟨(by rw [show σ18 55 57 = a1 from (jsp eσ18), show (σ 70 a1.toNatClampNeg).toInt = 0 by omega, show A2 = 1 by omega]; rfl), (by rw [show (σ 70 a1.toNatClampNeg).toInt = 0 by omega, show A2 = 1 by omega]; exact ⟨(by rw [show σ39 55 55 = 2 from m44]; decide), (show σ39 85 0 = 10 from m45), (show σ39 85 1 = 1 from m46), trivial⟩)⟩⟩)⟩ hP hS dX12_act_79
      have kc35 := jne c35 t2 jz_1
      by_cases c53 : a2 = 2
      · have kc53 := jeq c53 t2 jz_2
        refine jtopr c53 ?_
        refine lv_tableIn (off := 49) (tgt := 80) hx hb dX12_act_31 (by decide) (by decide) (by decide) (by decide) ?_
        refine lv_aload_n hx hb dX12_act_80 rfl (lv_at hl 0 rfl) ?_
        refine lv_aload_n hx hb dX12_act_81 rfl (lv_at hl 0 rfl) ?_
        refine va_get (D := D) hx hb hts inlX12 hown hK hP 55 (jc_55 cI cL ad σ18 τ) rfl 56 (by decide) (hts _ kw_49_8) (fun _ h9 => h9) rfl dX12_act_82 ?_
        have m54 : σ18 55 56 = 0 := ((jkp 56 eσ18 (by decide)).trans (jsp eσ17))
        refine jtopr m54 ?_
        refine lv_iload_n hx hb dX12_act_85 rfl (lv_at hl 3 rfl) ?_
        have m55 : σ18 55 55 = 0 := ((jkp 55 eσ18 (by decide)).trans ((jkp 55 eσ17 (by decide)).trans (jsp eσ5)))
        have z56 : (σ18 55 56).toInt = 0 := ((congrArg Int32.toInt (show σ18 55 56 = 0 from m54)).trans jz_0)
        refine jcallV (As := [.int 0, .int a3]) (rest := []) ⟨hx, hb, hml, hown, hts⟩ hK hP hA hS hZ (c_X12_givesAs_0_0_0 l D cI cL ad zz hJ σ18 τ a3 (A3) t3 m55 (by omega)) cw_RX12_394 (jc_55 cI cL ad σ18 τ) rfl ⟨Nat.le_of_ble_eq_true rfl, Nat.le_of_ble_eq_true rfl⟩ rfl rfl rfl hl.1 rfl (Nat.le_of_ble_eq_true rfl) dX12_act_86 ⟨Nat.zero_le _, Nat.zero_le _⟩ (fun r58 σ57 τ57 H locs h57 hP hS => ?_)
        obtain ⟨rfl, f59, f60, f61, m62, m63, h57⟩ := h57
        have h64 := h57
        obtain ⟨q66, k65⟩ := h64
        have q66 := q66.symm
        subst q66
        have z67 : (σ57 55 55).toInt = 1 := ((congrArg Int32.toInt (show σ57 55 55 = 1 from m62)).trans jz_1)
        exact hret (a3 ^^^ (σ18 55 57)) σ57 τ _ _ _ _ rfl ⟨rfl, (fun i hi => ((f59 i hi).trans ((jnp i eσ18 (imp_345 i hi)).trans ((jnp i eσ17 (imp_345 i hi)).trans (jnp i eσ5 (imp_345 i hi)))))), (fun i hi => ((f60 i (imp_363 i hi)).trans ((jkp i eσ18 (imp_364 i hi)).trans ((jkp i eσ17 (imp_365 i hi)).trans (jkp i eσ5 (imp_366 i hi)))))), Or.inr (⟨trivial, (by omega), (by omega), (by omega), ⟨(by rw [show σ18 55 57 = a1 from (jsp eσ18), show (σ 70 a1.toNatClampNeg).toInt = 0 by omega, show A2 = 2 by omega]; rfl), (by rw [show (σ 70 a1.toNatClampNeg).toInt = 0 by omega, show A2 = 2 by omega]; exact ⟨(by rw [show σ57 55 55 = 1 from m62]; decide), (show σ57 85 0 = 11 from m63), trivial⟩)⟩⟩)⟩ hP hS dX12_act_89
      have kc53 := jne c53 t2 jz_2
      by_cases c69 : a2 = 3
      · have kc69 := jeq c69 t2 jz_3
        refine jtopr c69 ?_
        refine lv_tableIn (off := 59) (tgt := 90) hx hb dX12_act_31 (by decide) (by decide) (by decide) (by decide) ?_
        refine lv_aload_n hx hb dX12_act_90 rfl (lv_at hl 0 rfl) ?_
        refine lv_aload_n hx hb dX12_act_91 rfl (lv_at hl 0 rfl) ?_
        refine va_get (D := D) hx hb hts inlX12 hown hK hP 55 (jc_55 cI cL ad σ18 τ) rfl 56 (by decide) (hts _ kw_49_8) (fun _ h9 => h9) rfl dX12_act_92 ?_
        have m70 : σ18 55 56 = 0 := ((jkp 56 eσ18 (by decide)).trans (jsp eσ17))
        refine jtopr m70 ?_
        refine lv_iload_n hx hb dX12_act_95 rfl (lv_at hl 3 rfl) ?_
        have m71 : σ18 55 55 = 0 := ((jkp 55 eσ18 (by decide)).trans ((jkp 55 eσ17 (by decide)).trans (jsp eσ5)))
        have z72 : (σ18 55 56).toInt = 0 := ((congrArg Int32.toInt (show σ18 55 56 = 0 from m70)).trans jz_0)
        refine jcallV (As := [.int 0, .int a3]) (rest := []) ⟨hx, hb, hml, hown, hts⟩ hK hP hA hS hZ (c_X12_tellsAs_0_0_0 l D cI cL ad zz hJ σ18 τ a3 (A3) t3 m71 (by omega)) cw_RX12_397 (jc_55 cI cL ad σ18 τ) rfl ⟨Nat.le_of_ble_eq_true rfl, Nat.le_of_ble_eq_true rfl⟩ rfl rfl rfl hl.1 rfl (Nat.le_of_ble_eq_true rfl) dX12_act_96 ⟨Nat.zero_le _, Nat.zero_le _⟩ (fun r74 σ73 τ73 H locs h73 hP hS => ?_)
        obtain ⟨rfl, f75, f76, f77, m78, m79, m80, m81, m82, h73⟩ := h73
        have h83 := h73
        obtain ⟨q85, k84⟩ := h83
        have q85 := q85.symm
        subst q85
        have z86 : (σ73 55 55).toInt = 4 := ((congrArg Int32.toInt (show σ73 55 55 = 4 from m78)).trans jz_4)
        exact hret (((a3 + (σ18 55 57)) * 2) - (1 ^^^ (σ18 55 57))) σ73 τ _ _ _ _ rfl ⟨rfl, (fun i hi => ((f75 i hi).trans ((jnp i eσ18 (imp_345 i hi)).trans ((jnp i eσ17 (imp_345 i hi)).trans (jnp i eσ5 (imp_345 i hi)))))), (fun i hi => ((f76 i (imp_363 i hi)).trans ((jkp i eσ18 (imp_364 i hi)).trans ((jkp i eσ17 (imp_365 i hi)).trans (jkp i eσ5 (imp_366 i hi)))))), Or.inr (⟨trivial, (by omega), (by omega), (by omega), ⟨(by rw [show σ18 55 57 = a1 from (jsp eσ18), show (σ 70 a1.toNatClampNeg).toInt = 0 by omega, show A2 = 3 by omega]; rfl), (by rw [show (σ 70 a1.toNatClampNeg).toInt = 0 by omega, show A2 = 3 by omega]; exact ⟨(by rw [show σ73 55 55 = 4 from m78]; decide), (show σ73 85 0 = 2 from m79), (show σ73 85 1 = 10 from m80), (show σ73 85 2 = 1 from m81), (show σ73 85 3 = 11 from m82), trivial⟩)⟩⟩)⟩ hP hS dX12_act_99
      have kc69 := jne c69 t2 jz_3
      refine lv_tableOut (tgt := 100) hx hb dX12_act_31 (by rw [t2]; omega) (by decide) ?_
      refine lv_iconst (v := 0) hx hb dX12_act_100 (by decide) ?_
      have z91 : (σ18 55 55).toInt = 0 := ((congrArg Int32.toInt (show σ18 55 55 = 0 from ((jkp 55 eσ18 (by decide)).trans ((jkp 55 eσ17 (by decide)).trans (jsp eσ5))))).trans jz_0)
      exact hret 0 σ18 τ _ _ _ _ rfl ⟨rfl, (fun i hi => ((jnp i eσ18 (imp_345 i hi)).trans ((jnp i eσ17 (imp_345 i hi)).trans (jnp i eσ5 (imp_345 i hi))))), (fun i hi => ((jkp i eσ18 (imp_364 i hi)).trans ((jkp i eσ17 (imp_365 i hi)).trans (jkp i eσ5 (imp_366 i hi))))), Or.inl ⟨rfl, (by have h9 := jz_0; omega), (by have h9 := jz_0; omega)⟩⟩ hP hS dX12_act_101
    have kc16 := jne c16 (rfl : (σ 70 a1.toNatClampNeg).toInt = (σ 70 a1.toNatClampNeg).toInt) jz_0
    by_cases c92 : (σ 70 a1.toNatClampNeg) = 1
    · have kc92 := jeq c92 (rfl : (σ 70 a1.toNatClampNeg).toInt = (σ 70 a1.toNatClampNeg).toInt) jz_1
      refine jtopr c92 ?_
      refine jput (ty := .int) hx hb hts inlX12 tyX12 tyX12_ok nmX12 hown hK hP hJ hA hS (jc_55 cI cL ad σ5 τ) rfl (k := 56) (by decide) (Nat.le_of_ble_eq_true rfl) (jp_55_56 cI cL ad σ5 τ 1) (hts _ kw_49_8) (fun _ h9 => h9) rfl (by decide +kernel) rfl rfl dX12_act_22 (fun σ93 H locs eσ93 hP hS => ?_)
      refine lv_aload_n hx hb dX12_act_25 rfl (lv_at hl 0 rfl) ?_
      refine lv_iload_n hx hb dX12_act_26 rfl (lv_at hl 1 rfl) ?_
      refine jput (ty := .int) hx hb hts inlX12 tyX12 tyX12_ok nmX12 hown hK hP hJ hA hS (jc_55 cI cL ad σ93 τ) rfl (k := 57) (by decide) (Nat.le_of_ble_eq_true rfl) (jp_55_57 cI cL ad σ93 τ a1) (hts _ kw_49_9) (fun _ h9 => h9) rfl (by decide +kernel) rfl rfl dX12_act_27 (fun σ94 H locs eσ94 hP hS => ?_)
      refine lv_iload_n hx hb dX12_act_30 rfl (lv_at hl 2 rfl) ?_
      by_cases c95 : a2 = 0
      · have kc95 := jeq c95 t2 jz_0
        refine jtopr c95 ?_
        refine lv_tableIn (off := 29) (tgt := 60) hx hb dX12_act_31 (by decide) (by decide) (by decide) (by decide) ?_
        refine lv_aload_n hx hb dX12_act_60 rfl (lv_at hl 0 rfl) ?_
        refine lv_aload_n hx hb dX12_act_61 rfl (lv_at hl 0 rfl) ?_
        refine va_get (D := D) hx hb hts inlX12 hown hK hP 55 (jc_55 cI cL ad σ94 τ) rfl 56 (by decide) (hts _ kw_49_8) (fun _ h9 => h9) rfl dX12_act_62 ?_
        have m96 : σ94 55 56 = 1 := ((jkp 56 eσ94 (by decide)).trans (jsp eσ93))
        refine jtopr m96 ?_
        refine lv_iload_n hx hb dX12_act_65 rfl (lv_at hl 3 rfl) ?_
        have m97 : σ94 55 55 = 0 := ((jkp 55 eσ94 (by decide)).trans ((jkp 55 eσ93 (by decide)).trans (jsp eσ5)))
        have z98 : (σ94 55 56).toInt = 1 := ((congrArg Int32.toInt (show σ94 55 56 = 1 from m96)).trans jz_1)
        refine jcallV (As := [.int 1, .int a3]) (rest := []) ⟨hx, hb, hml, hown, hts⟩ hK hP hA hS hZ (c_X12_putsAs_1_1_0 l D cI cL ad zz hJ σ94 τ a3 (A3) t3 m97 (by omega)) cw_RX12_382 (jc_55 cI cL ad σ94 τ) rfl ⟨Nat.le_of_ble_eq_true rfl, Nat.le_of_ble_eq_true rfl⟩ rfl rfl rfl hl.1 rfl (Nat.le_of_ble_eq_true rfl) dX12_act_66 ⟨Nat.zero_le _, Nat.zero_le _⟩ (fun r100 σ99 τ99 H locs h99 hP hS => ?_)
        obtain ⟨rfl, f101, f102, f103, m104, m105, m106, h99⟩ := h99
        have h107 := h99
        obtain ⟨q109, k108⟩ := h107
        have q109 := q109.symm
        subst q109
        have z110 : (σ99 55 55).toInt = 2 := ((congrArg Int32.toInt (show σ99 55 55 = 2 from m104)).trans jz_2)
        exact hret ((a3 + (σ94 55 57)) + 3) σ99 τ _ _ _ _ rfl ⟨rfl, (fun i hi => ((f101 i hi).trans ((jnp i eσ94 (imp_345 i hi)).trans ((jnp i eσ93 (imp_345 i hi)).trans (jnp i eσ5 (imp_345 i hi)))))), (fun i hi => ((f102 i (imp_363 i hi)).trans ((jkp i eσ94 (imp_364 i hi)).trans ((jkp i eσ93 (imp_365 i hi)).trans (jkp i eσ5 (imp_366 i hi)))))), Or.inr (⟨trivial, (by omega), (by omega), (by omega), ⟨(by rw [show σ94 55 57 = a1 from (jsp eσ94), show (σ 70 a1.toNatClampNeg).toInt = 1 by omega, show A2 = 0 by omega]; rfl), (by rw [show (σ 70 a1.toNatClampNeg).toInt = 1 by omega, show A2 = 0 by omega]; exact ⟨(by rw [show σ99 55 55 = 2 from m104]; decide), (show σ99 85 0 = 20 from m105), (show σ99 85 1 = 1 from m106), trivial⟩)⟩⟩)⟩ hP hS dX12_act_69
      have kc95 := jne c95 t2 jz_0
      by_cases c113 : a2 = 1
      · have kc113 := jeq c113 t2 jz_1
        refine jtopr c113 ?_
        refine lv_tableIn (off := 39) (tgt := 70) hx hb dX12_act_31 (by decide) (by decide) (by decide) (by decide) ?_
        refine lv_aload_n hx hb dX12_act_70 rfl (lv_at hl 0 rfl) ?_
        refine lv_aload_n hx hb dX12_act_71 rfl (lv_at hl 0 rfl) ?_
        refine va_get (D := D) hx hb hts inlX12 hown hK hP 55 (jc_55 cI cL ad σ94 τ) rfl 56 (by decide) (hts _ kw_49_8) (fun _ h9 => h9) rfl dX12_act_72 ?_
        have m114 : σ94 55 56 = 1 := ((jkp 56 eσ94 (by decide)).trans (jsp eσ93))
        refine jtopr m114 ?_
        refine lv_iload_n hx hb dX12_act_75 rfl (lv_at hl 3 rfl) ?_
        have m115 : σ94 55 55 = 0 := ((jkp 55 eσ94 (by decide)).trans ((jkp 55 eσ93 (by decide)).trans (jsp eσ5)))
        have z116 : (σ94 55 56).toInt = 1 := ((congrArg Int32.toInt (show σ94 55 56 = 1 from m114)).trans jz_1)
        refine jcallV (As := [.int 1, .int a3]) (rest := []) ⟨hx, hb, hml, hown, hts⟩ hK hP hA hS hZ (c_X12_holdsAs_1_1_0 l D cI cL ad zz hJ σ94 τ a3 (A3) t3 m115 (by omega)) cw_RX12_388 (jc_55 cI cL ad σ94 τ) rfl ⟨Nat.le_of_ble_eq_true rfl, Nat.le_of_ble_eq_true rfl⟩ rfl rfl rfl hl.1 rfl (Nat.le_of_ble_eq_true rfl) dX12_act_76 ⟨Nat.zero_le _, Nat.zero_le _⟩ (fun r118 σ117 τ117 H locs h117 hP hS => ?_)
        obtain ⟨rfl, f119, f120, f121, m122, m123, m124, m125, h117⟩ := h117
        have h126 := h117
        obtain ⟨q128, k127⟩ := h126
        have q128 := q128.symm
        subst q128
        have z129 : (σ117 55 55).toInt = 3 := ((congrArg Int32.toInt (show σ117 55 55 = 3 from m122)).trans jz_3)
        exact hret (((a3 + (σ94 55 57)) + 3) * 2) σ117 τ _ _ _ _ rfl ⟨rfl, (fun i hi => ((f119 i hi).trans ((jnp i eσ94 (imp_345 i hi)).trans ((jnp i eσ93 (imp_345 i hi)).trans (jnp i eσ5 (imp_345 i hi)))))), (fun i hi => ((f120 i (imp_363 i hi)).trans ((jkp i eσ94 (imp_364 i hi)).trans ((jkp i eσ93 (imp_365 i hi)).trans (jkp i eσ5 (imp_366 i hi)))))), Or.inr (⟨trivial, (by omega), (by omega), (by omega), ⟨(by rw [show σ94 55 57 = a1 from (jsp eσ94), show (σ 70 a1.toNatClampNeg).toInt = 1 by omega, show A2 = 1 by omega]; rfl), (by rw [show (σ 70 a1.toNatClampNeg).toInt = 1 by omega, show A2 = 1 by omega]; exact ⟨(by rw [show σ117 55 55 = 3 from m122]; decide), (show σ117 85 0 = 10 from m123), (show σ117 85 1 = 20 from m124), (show σ117 85 2 = 1 from m125), trivial⟩)⟩⟩)⟩ hP hS dX12_act_79
      have kc113 := jne c113 t2 jz_1
      by_cases c133 : a2 = 2
      · have kc133 := jeq c133 t2 jz_2
        refine jtopr c133 ?_
        refine lv_tableIn (off := 49) (tgt := 80) hx hb dX12_act_31 (by decide) (by decide) (by decide) (by decide) ?_
        refine lv_aload_n hx hb dX12_act_80 rfl (lv_at hl 0 rfl) ?_
        refine lv_aload_n hx hb dX12_act_81 rfl (lv_at hl 0 rfl) ?_
        refine va_get (D := D) hx hb hts inlX12 hown hK hP 55 (jc_55 cI cL ad σ94 τ) rfl 56 (by decide) (hts _ kw_49_8) (fun _ h9 => h9) rfl dX12_act_82 ?_
        have m134 : σ94 55 56 = 1 := ((jkp 56 eσ94 (by decide)).trans (jsp eσ93))
        refine jtopr m134 ?_
        refine lv_iload_n hx hb dX12_act_85 rfl (lv_at hl 3 rfl) ?_
        have m135 : σ94 55 55 = 0 := ((jkp 55 eσ94 (by decide)).trans ((jkp 55 eσ93 (by decide)).trans (jsp eσ5)))
        have z136 : (σ94 55 56).toInt = 1 := ((congrArg Int32.toInt (show σ94 55 56 = 1 from m134)).trans jz_1)
        refine jcallV (As := [.int 1, .int a3]) (rest := []) ⟨hx, hb, hml, hown, hts⟩ hK hP hA hS hZ (c_X12_givesAs_1_1_0 l D cI cL ad zz hJ σ94 τ a3 (A3) t3 m135 (by omega)) cw_RX12_394 (jc_55 cI cL ad σ94 τ) rfl ⟨Nat.le_of_ble_eq_true rfl, Nat.le_of_ble_eq_true rfl⟩ rfl rfl rfl hl.1 rfl (Nat.le_of_ble_eq_true rfl) dX12_act_86 ⟨Nat.zero_le _, Nat.zero_le _⟩ (fun r138 σ137 τ137 H locs h137 hP hS => ?_)
        obtain ⟨rfl, f139, f140, f141, m142, m143, h137⟩ := h137
        have h144 := h137
        obtain ⟨q146, k145⟩ := h144
        have q146 := q146.symm
        subst q146
        have z147 : (σ137 55 55).toInt = 1 := ((congrArg Int32.toInt (show σ137 55 55 = 1 from m142)).trans jz_1)
        exact hret (a3 ^^^ (σ94 55 57)) σ137 τ _ _ _ _ rfl ⟨rfl, (fun i hi => ((f139 i hi).trans ((jnp i eσ94 (imp_345 i hi)).trans ((jnp i eσ93 (imp_345 i hi)).trans (jnp i eσ5 (imp_345 i hi)))))), (fun i hi => ((f140 i (imp_363 i hi)).trans ((jkp i eσ94 (imp_364 i hi)).trans ((jkp i eσ93 (imp_365 i hi)).trans (jkp i eσ5 (imp_366 i hi)))))), Or.inr (⟨trivial, (by omega), (by omega), (by omega), ⟨(by rw [show σ94 55 57 = a1 from (jsp eσ94), show (σ 70 a1.toNatClampNeg).toInt = 1 by omega, show A2 = 2 by omega]; rfl), (by rw [show (σ 70 a1.toNatClampNeg).toInt = 1 by omega, show A2 = 2 by omega]; exact ⟨(by rw [show σ137 55 55 = 1 from m142]; decide), (show σ137 85 0 = 11 from m143), trivial⟩)⟩⟩)⟩ hP hS dX12_act_89
      have kc133 := jne c133 t2 jz_2
      by_cases c149 : a2 = 3
      · have kc149 := jeq c149 t2 jz_3
        refine jtopr c149 ?_
        refine lv_tableIn (off := 59) (tgt := 90) hx hb dX12_act_31 (by decide) (by decide) (by decide) (by decide) ?_
        refine lv_aload_n hx hb dX12_act_90 rfl (lv_at hl 0 rfl) ?_
        refine lv_aload_n hx hb dX12_act_91 rfl (lv_at hl 0 rfl) ?_
        refine va_get (D := D) hx hb hts inlX12 hown hK hP 55 (jc_55 cI cL ad σ94 τ) rfl 56 (by decide) (hts _ kw_49_8) (fun _ h9 => h9) rfl dX12_act_92 ?_
        have m150 : σ94 55 56 = 1 := ((jkp 56 eσ94 (by decide)).trans (jsp eσ93))
        refine jtopr m150 ?_
        refine lv_iload_n hx hb dX12_act_95 rfl (lv_at hl 3 rfl) ?_
        have m151 : σ94 55 55 = 0 := ((jkp 55 eσ94 (by decide)).trans ((jkp 55 eσ93 (by decide)).trans (jsp eσ5)))
        have z152 : (σ94 55 56).toInt = 1 := ((congrArg Int32.toInt (show σ94 55 56 = 1 from m150)).trans jz_1)
        refine jcallV (As := [.int 1, .int a3]) (rest := []) ⟨hx, hb, hml, hown, hts⟩ hK hP hA hS hZ (c_X12_tellsAs_1_1_0 l D cI cL ad zz hJ σ94 τ a3 (A3) t3 m151 (by omega)) cw_RX12_397 (jc_55 cI cL ad σ94 τ) rfl ⟨Nat.le_of_ble_eq_true rfl, Nat.le_of_ble_eq_true rfl⟩ rfl rfl rfl hl.1 rfl (Nat.le_of_ble_eq_true rfl) dX12_act_96 ⟨Nat.zero_le _, Nat.zero_le _⟩ (fun r154 σ153 τ153 H locs h153 hP hS => ?_)
        obtain ⟨rfl, f155, f156, f157, m158, m159, m160, m161, m162, m163, h153⟩ := h153
        have h164 := h153
        obtain ⟨q166, k165⟩ := h164
        have q166 := q166.symm
        subst q166
        have z167 : (σ153 55 55).toInt = 5 := ((congrArg Int32.toInt (show σ153 55 55 = 5 from m158)).trans jz_5)
        exact hret ((((a3 + (σ94 55 57)) + 3) * 2) - (1 ^^^ (σ94 55 57))) σ153 τ _ _ _ _ rfl ⟨rfl, (fun i hi => ((f155 i hi).trans ((jnp i eσ94 (imp_345 i hi)).trans ((jnp i eσ93 (imp_345 i hi)).trans (jnp i eσ5 (imp_345 i hi)))))), (fun i hi => ((f156 i (imp_363 i hi)).trans ((jkp i eσ94 (imp_364 i hi)).trans ((jkp i eσ93 (imp_365 i hi)).trans (jkp i eσ5 (imp_366 i hi)))))), Or.inr (⟨trivial, (by omega), (by omega), (by omega), ⟨(by rw [show σ94 55 57 = a1 from (jsp eσ94), show (σ 70 a1.toNatClampNeg).toInt = 1 by omega, show A2 = 3 by omega]; rfl), (by rw [show (σ 70 a1.toNatClampNeg).toInt = 1 by omega, show A2 = 3 by omega]; exact ⟨(by rw [show σ153 55 55 = 5 from m158]; decide), (show σ153 85 0 = 2 from m159), (show σ153 85 1 = 10 from m160), (show σ153 85 2 = 20 from m161), (show σ153 85 3 = 1 from m162), (show σ153 85 4 = 11 from m163), trivial⟩)⟩⟩)⟩ hP hS dX12_act_99
      have kc149 := jne c149 t2 jz_3
      refine lv_tableOut (tgt := 100) hx hb dX12_act_31 (by rw [t2]; omega) (by decide) ?_
      refine lv_iconst (v := 0) hx hb dX12_act_100 (by decide) ?_
      have z173 : (σ94 55 55).toInt = 0 := ((congrArg Int32.toInt (show σ94 55 55 = 0 from ((jkp 55 eσ94 (by decide)).trans ((jkp 55 eσ93 (by decide)).trans (jsp eσ5))))).trans jz_0)
      exact hret 0 σ94 τ _ _ _ _ rfl ⟨rfl, (fun i hi => ((jnp i eσ94 (imp_345 i hi)).trans ((jnp i eσ93 (imp_345 i hi)).trans (jnp i eσ5 (imp_345 i hi))))), (fun i hi => ((jkp i eσ94 (imp_364 i hi)).trans ((jkp i eσ93 (imp_365 i hi)).trans (jkp i eσ5 (imp_366 i hi))))), Or.inl ⟨rfl, (by have h9 := jz_0; omega), (by have h9 := jz_0; omega)⟩⟩ hP hS dX12_act_101
    have kc92 := jne c92 (rfl : (σ 70 a1.toNatClampNeg).toInt = (σ 70 a1.toNatClampNeg).toInt) jz_1
    by_cases c174 : (σ 70 a1.toNatClampNeg) = 2
    · have kc174 := jeq c174 (rfl : (σ 70 a1.toNatClampNeg).toInt = (σ 70 a1.toNatClampNeg).toInt) jz_2
      refine jtopr c174 ?_
      refine jput (ty := .int) hx hb hts inlX12 tyX12 tyX12_ok nmX12 hown hK hP hJ hA hS (jc_55 cI cL ad σ5 τ) rfl (k := 56) (by decide) (Nat.le_of_ble_eq_true rfl) (jp_55_56 cI cL ad σ5 τ 2) (hts _ kw_49_8) (fun _ h9 => h9) rfl (by decide +kernel) rfl rfl dX12_act_22 (fun σ175 H locs eσ175 hP hS => ?_)
      refine lv_aload_n hx hb dX12_act_25 rfl (lv_at hl 0 rfl) ?_
      refine lv_iload_n hx hb dX12_act_26 rfl (lv_at hl 1 rfl) ?_
      refine jput (ty := .int) hx hb hts inlX12 tyX12 tyX12_ok nmX12 hown hK hP hJ hA hS (jc_55 cI cL ad σ175 τ) rfl (k := 57) (by decide) (Nat.le_of_ble_eq_true rfl) (jp_55_57 cI cL ad σ175 τ a1) (hts _ kw_49_9) (fun _ h9 => h9) rfl (by decide +kernel) rfl rfl dX12_act_27 (fun σ176 H locs eσ176 hP hS => ?_)
      refine lv_iload_n hx hb dX12_act_30 rfl (lv_at hl 2 rfl) ?_
      by_cases c177 : a2 = 0
      · have kc177 := jeq c177 t2 jz_0
        refine jtopr c177 ?_
        refine lv_tableIn (off := 29) (tgt := 60) hx hb dX12_act_31 (by decide) (by decide) (by decide) (by decide) ?_
        refine lv_aload_n hx hb dX12_act_60 rfl (lv_at hl 0 rfl) ?_
        refine lv_aload_n hx hb dX12_act_61 rfl (lv_at hl 0 rfl) ?_
        refine va_get (D := D) hx hb hts inlX12 hown hK hP 55 (jc_55 cI cL ad σ176 τ) rfl 56 (by decide) (hts _ kw_49_8) (fun _ h9 => h9) rfl dX12_act_62 ?_
        have m178 : σ176 55 56 = 2 := ((jkp 56 eσ176 (by decide)).trans (jsp eσ175))
        refine jtopr m178 ?_
        refine lv_iload_n hx hb dX12_act_65 rfl (lv_at hl 3 rfl) ?_
        have m179 : σ176 55 55 = 0 := ((jkp 55 eσ176 (by decide)).trans ((jkp 55 eσ175 (by decide)).trans (jsp eσ5)))
        have z180 : (σ176 55 56).toInt = 2 := ((congrArg Int32.toInt (show σ176 55 56 = 2 from m178)).trans jz_2)
        refine jcallV (As := [.int 2, .int a3]) (rest := []) ⟨hx, hb, hml, hown, hts⟩ hK hP hA hS hZ (c_X12_putsAs_2_2_0 l D cI cL ad zz hJ σ176 τ a3 (A3) t3 m179 (by omega)) cw_RX12_382 (jc_55 cI cL ad σ176 τ) rfl ⟨Nat.le_of_ble_eq_true rfl, Nat.le_of_ble_eq_true rfl⟩ rfl rfl rfl hl.1 rfl (Nat.le_of_ble_eq_true rfl) dX12_act_66 ⟨Nat.zero_le _, Nat.zero_le _⟩ (fun r182 σ181 τ181 H locs h181 hP hS => ?_)
        obtain ⟨rfl, f183, f184, f185, m186, m187, h181⟩ := h181
        have h188 := h181
        obtain ⟨q190, k189⟩ := h188
        have q190 := q190.symm
        subst q190
        have z191 : (σ181 55 55).toInt = 1 := ((congrArg Int32.toInt (show σ181 55 55 = 1 from m186)).trans jz_1)
        exact hret (a3 + (σ176 55 57)) σ181 τ _ _ _ _ rfl ⟨rfl, (fun i hi => ((f183 i hi).trans ((jnp i eσ176 (imp_345 i hi)).trans ((jnp i eσ175 (imp_345 i hi)).trans (jnp i eσ5 (imp_345 i hi)))))), (fun i hi => ((f184 i (imp_363 i hi)).trans ((jkp i eσ176 (imp_364 i hi)).trans ((jkp i eσ175 (imp_365 i hi)).trans (jkp i eσ5 (imp_366 i hi)))))), Or.inr (⟨trivial, (by omega), (by omega), (by omega), ⟨(by rw [show σ176 55 57 = a1 from (jsp eσ176), show (σ 70 a1.toNatClampNeg).toInt = 2 by omega, show A2 = 0 by omega]; rfl), (by rw [show (σ 70 a1.toNatClampNeg).toInt = 2 by omega, show A2 = 0 by omega]; exact ⟨(by rw [show σ181 55 55 = 1 from m186]; decide), (show σ181 85 0 = 1 from m187), trivial⟩)⟩⟩)⟩ hP hS dX12_act_69
      have kc177 := jne c177 t2 jz_0
      by_cases c193 : a2 = 1
      · have kc193 := jeq c193 t2 jz_1
        refine jtopr c193 ?_
        refine lv_tableIn (off := 39) (tgt := 70) hx hb dX12_act_31 (by decide) (by decide) (by decide) (by decide) ?_
        refine lv_aload_n hx hb dX12_act_70 rfl (lv_at hl 0 rfl) ?_
        refine lv_aload_n hx hb dX12_act_71 rfl (lv_at hl 0 rfl) ?_
        refine va_get (D := D) hx hb hts inlX12 hown hK hP 55 (jc_55 cI cL ad σ176 τ) rfl 56 (by decide) (hts _ kw_49_8) (fun _ h9 => h9) rfl dX12_act_72 ?_
        have m194 : σ176 55 56 = 2 := ((jkp 56 eσ176 (by decide)).trans (jsp eσ175))
        refine jtopr m194 ?_
        refine lv_iload_n hx hb dX12_act_75 rfl (lv_at hl 3 rfl) ?_
        have m195 : σ176 55 55 = 0 := ((jkp 55 eσ176 (by decide)).trans ((jkp 55 eσ175 (by decide)).trans (jsp eσ5)))
        have z196 : (σ176 55 56).toInt = 2 := ((congrArg Int32.toInt (show σ176 55 56 = 2 from m194)).trans jz_2)
        refine jcallV (As := [.int 2, .int a3]) (rest := []) ⟨hx, hb, hml, hown, hts⟩ hK hP hA hS hZ (c_X12_holdsAs_2_2_0 l D cI cL ad zz hJ σ176 τ a3 (A3) t3 m195 (by omega)) cw_RX12_388 (jc_55 cI cL ad σ176 τ) rfl ⟨Nat.le_of_ble_eq_true rfl, Nat.le_of_ble_eq_true rfl⟩ rfl rfl rfl hl.1 rfl (Nat.le_of_ble_eq_true rfl) dX12_act_76 ⟨Nat.zero_le _, Nat.zero_le _⟩ (fun r198 σ197 τ197 H locs h197 hP hS => ?_)
        obtain ⟨rfl, f199, f200, f201, m202, m203, m204, h197⟩ := h197
        have h205 := h197
        obtain ⟨q207, k206⟩ := h205
        have q207 := q207.symm
        subst q207
        have z208 : (σ197 55 55).toInt = 2 := ((congrArg Int32.toInt (show σ197 55 55 = 2 from m202)).trans jz_2)
        exact hret ((a3 + (σ176 55 57)) * 2) σ197 τ _ _ _ _ rfl ⟨rfl, (fun i hi => ((f199 i hi).trans ((jnp i eσ176 (imp_345 i hi)).trans ((jnp i eσ175 (imp_345 i hi)).trans (jnp i eσ5 (imp_345 i hi)))))), (fun i hi => ((f200 i (imp_363 i hi)).trans ((jkp i eσ176 (imp_364 i hi)).trans ((jkp i eσ175 (imp_365 i hi)).trans (jkp i eσ5 (imp_366 i hi)))))), Or.inr (⟨trivial, (by omega), (by omega), (by omega), ⟨(by rw [show σ176 55 57 = a1 from (jsp eσ176), show (σ 70 a1.toNatClampNeg).toInt = 2 by omega, show A2 = 1 by omega]; rfl), (by rw [show (σ 70 a1.toNatClampNeg).toInt = 2 by omega, show A2 = 1 by omega]; exact ⟨(by rw [show σ197 55 55 = 2 from m202]; decide), (show σ197 85 0 = 10 from m203), (show σ197 85 1 = 1 from m204), trivial⟩)⟩⟩)⟩ hP hS dX12_act_79
      have kc193 := jne c193 t2 jz_1
      by_cases c211 : a2 = 2
      · have kc211 := jeq c211 t2 jz_2
        refine jtopr c211 ?_
        refine lv_tableIn (off := 49) (tgt := 80) hx hb dX12_act_31 (by decide) (by decide) (by decide) (by decide) ?_
        refine lv_aload_n hx hb dX12_act_80 rfl (lv_at hl 0 rfl) ?_
        refine lv_aload_n hx hb dX12_act_81 rfl (lv_at hl 0 rfl) ?_
        refine va_get (D := D) hx hb hts inlX12 hown hK hP 55 (jc_55 cI cL ad σ176 τ) rfl 56 (by decide) (hts _ kw_49_8) (fun _ h9 => h9) rfl dX12_act_82 ?_
        have m212 : σ176 55 56 = 2 := ((jkp 56 eσ176 (by decide)).trans (jsp eσ175))
        refine jtopr m212 ?_
        refine lv_iload_n hx hb dX12_act_85 rfl (lv_at hl 3 rfl) ?_
        have m213 : σ176 55 55 = 0 := ((jkp 55 eσ176 (by decide)).trans ((jkp 55 eσ175 (by decide)).trans (jsp eσ5)))
        have z214 : (σ176 55 56).toInt = 2 := ((congrArg Int32.toInt (show σ176 55 56 = 2 from m212)).trans jz_2)
        refine jcallV (As := [.int 2, .int a3]) (rest := []) ⟨hx, hb, hml, hown, hts⟩ hK hP hA hS hZ (c_X12_givesAs_2_2_0 l D cI cL ad zz hJ σ176 τ a3 (A3) t3 m213 (by omega)) cw_RX12_394 (jc_55 cI cL ad σ176 τ) rfl ⟨Nat.le_of_ble_eq_true rfl, Nat.le_of_ble_eq_true rfl⟩ rfl rfl rfl hl.1 rfl (Nat.le_of_ble_eq_true rfl) dX12_act_86 ⟨Nat.zero_le _, Nat.zero_le _⟩ (fun r216 σ215 τ215 H locs h215 hP hS => ?_)
        obtain ⟨rfl, f217, f218, f219, m220, m221, m222, h215⟩ := h215
        have h223 := h215
        obtain ⟨q225, k224⟩ := h223
        have q225 := q225.symm
        subst q225
        have z226 : (σ215 55 55).toInt = 2 := ((congrArg Int32.toInt (show σ215 55 55 = 2 from m220)).trans jz_2)
        exact hret ((a3 ^^^ (σ176 55 57)) * 3) σ215 τ _ _ _ _ rfl ⟨rfl, (fun i hi => ((f217 i hi).trans ((jnp i eσ176 (imp_345 i hi)).trans ((jnp i eσ175 (imp_345 i hi)).trans (jnp i eσ5 (imp_345 i hi)))))), (fun i hi => ((f218 i (imp_363 i hi)).trans ((jkp i eσ176 (imp_364 i hi)).trans ((jkp i eσ175 (imp_365 i hi)).trans (jkp i eσ5 (imp_366 i hi)))))), Or.inr (⟨trivial, (by omega), (by omega), (by omega), ⟨(by rw [show σ176 55 57 = a1 from (jsp eσ176), show (σ 70 a1.toNatClampNeg).toInt = 2 by omega, show A2 = 2 by omega]; rfl), (by rw [show (σ 70 a1.toNatClampNeg).toInt = 2 by omega, show A2 = 2 by omega]; exact ⟨(by rw [show σ215 55 55 = 2 from m220]; decide), (show σ215 85 0 = 30 from m221), (show σ215 85 1 = 11 from m222), trivial⟩)⟩⟩)⟩ hP hS dX12_act_89
      have kc211 := jne c211 t2 jz_2
      by_cases c229 : a2 = 3
      · have kc229 := jeq c229 t2 jz_3
        refine jtopr c229 ?_
        refine lv_tableIn (off := 59) (tgt := 90) hx hb dX12_act_31 (by decide) (by decide) (by decide) (by decide) ?_
        refine lv_aload_n hx hb dX12_act_90 rfl (lv_at hl 0 rfl) ?_
        refine lv_aload_n hx hb dX12_act_91 rfl (lv_at hl 0 rfl) ?_
        refine va_get (D := D) hx hb hts inlX12 hown hK hP 55 (jc_55 cI cL ad σ176 τ) rfl 56 (by decide) (hts _ kw_49_8) (fun _ h9 => h9) rfl dX12_act_92 ?_
        have m230 : σ176 55 56 = 2 := ((jkp 56 eσ176 (by decide)).trans (jsp eσ175))
        refine jtopr m230 ?_
        refine lv_iload_n hx hb dX12_act_95 rfl (lv_at hl 3 rfl) ?_
        have m231 : σ176 55 55 = 0 := ((jkp 55 eσ176 (by decide)).trans ((jkp 55 eσ175 (by decide)).trans (jsp eσ5)))
        have z232 : (σ176 55 56).toInt = 2 := ((congrArg Int32.toInt (show σ176 55 56 = 2 from m230)).trans jz_2)
        refine jcallV (As := [.int 2, .int a3]) (rest := []) ⟨hx, hb, hml, hown, hts⟩ hK hP hA hS hZ (c_X12_tellsAs_2_2_0 l D cI cL ad zz hJ σ176 τ a3 (A3) t3 m231 (by omega)) cw_RX12_397 (jc_55 cI cL ad σ176 τ) rfl ⟨Nat.le_of_ble_eq_true rfl, Nat.le_of_ble_eq_true rfl⟩ rfl rfl rfl hl.1 rfl (Nat.le_of_ble_eq_true rfl) dX12_act_96 ⟨Nat.zero_le _, Nat.zero_le _⟩ (fun r234 σ233 τ233 H locs h233 hP hS => ?_)
        obtain ⟨rfl, f235, f236, f237, m238, m239, m240, m241, m242, m243, h233⟩ := h233
        have h244 := h233
        obtain ⟨q246, k245⟩ := h244
        have q246 := q246.symm
        subst q246
        have z247 : (σ233 55 55).toInt = 5 := ((congrArg Int32.toInt (show σ233 55 55 = 5 from m238)).trans jz_5)
        exact hret (((a3 + (σ176 55 57)) * 2) - ((1 ^^^ (σ176 55 57)) * 3)) σ233 τ _ _ _ _ rfl ⟨rfl, (fun i hi => ((f235 i hi).trans ((jnp i eσ176 (imp_345 i hi)).trans ((jnp i eσ175 (imp_345 i hi)).trans (jnp i eσ5 (imp_345 i hi)))))), (fun i hi => ((f236 i (imp_363 i hi)).trans ((jkp i eσ176 (imp_364 i hi)).trans ((jkp i eσ175 (imp_365 i hi)).trans (jkp i eσ5 (imp_366 i hi)))))), Or.inr (⟨trivial, (by omega), (by omega), (by omega), ⟨(by rw [show σ176 55 57 = a1 from (jsp eσ176), show (σ 70 a1.toNatClampNeg).toInt = 2 by omega, show A2 = 3 by omega]; rfl), (by rw [show (σ 70 a1.toNatClampNeg).toInt = 2 by omega, show A2 = 3 by omega]; exact ⟨(by rw [show σ233 55 55 = 5 from m238]; decide), (show σ233 85 0 = 2 from m239), (show σ233 85 1 = 10 from m240), (show σ233 85 2 = 1 from m241), (show σ233 85 3 = 30 from m242), (show σ233 85 4 = 11 from m243), trivial⟩)⟩⟩)⟩ hP hS dX12_act_99
      have kc229 := jne c229 t2 jz_3
      refine lv_tableOut (tgt := 100) hx hb dX12_act_31 (by rw [t2]; omega) (by decide) ?_
      refine lv_iconst (v := 0) hx hb dX12_act_100 (by decide) ?_
      have z253 : (σ176 55 55).toInt = 0 := ((congrArg Int32.toInt (show σ176 55 55 = 0 from ((jkp 55 eσ176 (by decide)).trans ((jkp 55 eσ175 (by decide)).trans (jsp eσ5))))).trans jz_0)
      exact hret 0 σ176 τ _ _ _ _ rfl ⟨rfl, (fun i hi => ((jnp i eσ176 (imp_345 i hi)).trans ((jnp i eσ175 (imp_345 i hi)).trans (jnp i eσ5 (imp_345 i hi))))), (fun i hi => ((jkp i eσ176 (imp_364 i hi)).trans ((jkp i eσ175 (imp_365 i hi)).trans (jkp i eσ5 (imp_366 i hi))))), Or.inl ⟨rfl, (by have h9 := jz_0; omega), (by have h9 := jz_0; omega)⟩⟩ hP hS dX12_act_101
    have kc174 := jne c174 (rfl : (σ 70 a1.toNatClampNeg).toInt = (σ 70 a1.toNatClampNeg).toInt) jz_2
    by_cases c254 : (σ 70 a1.toNatClampNeg) = 3
    · have kc254 := jeq c254 (rfl : (σ 70 a1.toNatClampNeg).toInt = (σ 70 a1.toNatClampNeg).toInt) jz_3
      refine jtopr c254 ?_
      refine jput (ty := .int) hx hb hts inlX12 tyX12 tyX12_ok nmX12 hown hK hP hJ hA hS (jc_55 cI cL ad σ5 τ) rfl (k := 56) (by decide) (Nat.le_of_ble_eq_true rfl) (jp_55_56 cI cL ad σ5 τ 3) (hts _ kw_49_8) (fun _ h9 => h9) rfl (by decide +kernel) rfl rfl dX12_act_22 (fun σ255 H locs eσ255 hP hS => ?_)
      refine lv_aload_n hx hb dX12_act_25 rfl (lv_at hl 0 rfl) ?_
      refine lv_iload_n hx hb dX12_act_26 rfl (lv_at hl 1 rfl) ?_
      refine jput (ty := .int) hx hb hts inlX12 tyX12 tyX12_ok nmX12 hown hK hP hJ hA hS (jc_55 cI cL ad σ255 τ) rfl (k := 57) (by decide) (Nat.le_of_ble_eq_true rfl) (jp_55_57 cI cL ad σ255 τ a1) (hts _ kw_49_9) (fun _ h9 => h9) rfl (by decide +kernel) rfl rfl dX12_act_27 (fun σ256 H locs eσ256 hP hS => ?_)
      refine lv_iload_n hx hb dX12_act_30 rfl (lv_at hl 2 rfl) ?_
      by_cases c257 : a2 = 0
      · have kc257 := jeq c257 t2 jz_0
        refine jtopr c257 ?_
        refine lv_tableIn (off := 29) (tgt := 60) hx hb dX12_act_31 (by decide) (by decide) (by decide) (by decide) ?_
        refine lv_aload_n hx hb dX12_act_60 rfl (lv_at hl 0 rfl) ?_
        refine lv_aload_n hx hb dX12_act_61 rfl (lv_at hl 0 rfl) ?_
        refine va_get (D := D) hx hb hts inlX12 hown hK hP 55 (jc_55 cI cL ad σ256 τ) rfl 56 (by decide) (hts _ kw_49_8) (fun _ h9 => h9) rfl dX12_act_62 ?_
        have m258 : σ256 55 56 = 3 := ((jkp 56 eσ256 (by decide)).trans (jsp eσ255))
        refine jtopr m258 ?_
        refine lv_iload_n hx hb dX12_act_65 rfl (lv_at hl 3 rfl) ?_
        have m259 : σ256 55 55 = 0 := ((jkp 55 eσ256 (by decide)).trans ((jkp 55 eσ255 (by decide)).trans (jsp eσ5)))
        have z260 : (σ256 55 56).toInt = 3 := ((congrArg Int32.toInt (show σ256 55 56 = 3 from m258)).trans jz_3)
        refine jcallV (As := [.int 3, .int a3]) (rest := []) ⟨hx, hb, hml, hown, hts⟩ hK hP hA hS hZ (c_X12_putsAs_3_3_0 l D cI cL ad zz hJ σ256 τ a3 (A3) t3 m259 (by omega)) cw_RX12_382 (jc_55 cI cL ad σ256 τ) rfl ⟨Nat.le_of_ble_eq_true rfl, Nat.le_of_ble_eq_true rfl⟩ rfl rfl rfl hl.1 rfl (Nat.le_of_ble_eq_true rfl) dX12_act_66 ⟨Nat.zero_le _, Nat.zero_le _⟩ (fun r262 σ261 τ261 H locs h261 hP hS => ?_)
        obtain ⟨rfl, f263, f264, f265, m266, m267, h261⟩ := h261
        have h268 := h261
        obtain ⟨q270, k269⟩ := h268
        have q270 := q270.symm
        subst q270
        have z271 : (σ261 55 55).toInt = 1 := ((congrArg Int32.toInt (show σ261 55 55 = 1 from m266)).trans jz_1)
        exact hret (a3 + (σ256 55 57)) σ261 τ _ _ _ _ rfl ⟨rfl, (fun i hi => ((f263 i hi).trans ((jnp i eσ256 (imp_345 i hi)).trans ((jnp i eσ255 (imp_345 i hi)).trans (jnp i eσ5 (imp_345 i hi)))))), (fun i hi => ((f264 i (imp_363 i hi)).trans ((jkp i eσ256 (imp_364 i hi)).trans ((jkp i eσ255 (imp_365 i hi)).trans (jkp i eσ5 (imp_366 i hi)))))), Or.inr (⟨trivial, (by omega), (by omega), (by omega), ⟨(by rw [show σ256 55 57 = a1 from (jsp eσ256), show (σ 70 a1.toNatClampNeg).toInt = 3 by omega, show A2 = 0 by omega]; rfl), (by rw [show (σ 70 a1.toNatClampNeg).toInt = 3 by omega, show A2 = 0 by omega]; exact ⟨(by rw [show σ261 55 55 = 1 from m266]; decide), (show σ261 85 0 = 1 from m267), trivial⟩)⟩⟩)⟩ hP hS dX12_act_69
      have kc257 := jne c257 t2 jz_0
      by_cases c273 : a2 = 1
      · have kc273 := jeq c273 t2 jz_1
        refine jtopr c273 ?_
        refine lv_tableIn (off := 39) (tgt := 70) hx hb dX12_act_31 (by decide) (by decide) (by decide) (by decide) ?_
        refine lv_aload_n hx hb dX12_act_70 rfl (lv_at hl 0 rfl) ?_
        refine lv_aload_n hx hb dX12_act_71 rfl (lv_at hl 0 rfl) ?_
        refine va_get (D := D) hx hb hts inlX12 hown hK hP 55 (jc_55 cI cL ad σ256 τ) rfl 56 (by decide) (hts _ kw_49_8) (fun _ h9 => h9) rfl dX12_act_72 ?_
        have m274 : σ256 55 56 = 3 := ((jkp 56 eσ256 (by decide)).trans (jsp eσ255))
        refine jtopr m274 ?_
        refine lv_iload_n hx hb dX12_act_75 rfl (lv_at hl 3 rfl) ?_
        have m275 : σ256 55 55 = 0 := ((jkp 55 eσ256 (by decide)).trans ((jkp 55 eσ255 (by decide)).trans (jsp eσ5)))
        have z276 : (σ256 55 56).toInt = 3 := ((congrArg Int32.toInt (show σ256 55 56 = 3 from m274)).trans jz_3)
        refine jcallV (As := [.int 3, .int a3]) (rest := []) ⟨hx, hb, hml, hown, hts⟩ hK hP hA hS hZ (c_X12_holdsAs_3_3_0 l D cI cL ad zz hJ σ256 τ a3 (A3) t3 m275 (by omega)) cw_RX12_388 (jc_55 cI cL ad σ256 τ) rfl ⟨Nat.le_of_ble_eq_true rfl, Nat.le_of_ble_eq_true rfl⟩ rfl rfl rfl hl.1 rfl (Nat.le_of_ble_eq_true rfl) dX12_act_76 ⟨Nat.zero_le _, Nat.zero_le _⟩ (fun r278 σ277 τ277 H locs h277 hP hS => ?_)
        obtain ⟨rfl, f279, f280, f281, m282, m283, m284, m285, h277⟩ := h277
        have h286 := h277
        obtain ⟨q288, k287⟩ := h286
        have q288 := q288.symm
        subst q288
        have z289 : (σ277 55 55).toInt = 3 := ((congrArg Int32.toInt (show σ277 55 55 = 3 from m282)).trans jz_3)
        exact hret (-((a3 + (σ256 55 57)) * 2)) σ277 τ _ _ _ _ rfl ⟨rfl, (fun i hi => ((f279 i hi).trans ((jnp i eσ256 (imp_345 i hi)).trans ((jnp i eσ255 (imp_345 i hi)).trans (jnp i eσ5 (imp_345 i hi)))))), (fun i hi => ((f280 i (imp_363 i hi)).trans ((jkp i eσ256 (imp_364 i hi)).trans ((jkp i eσ255 (imp_365 i hi)).trans (jkp i eσ5 (imp_366 i hi)))))), Or.inr (⟨trivial, (by omega), (by omega), (by omega), ⟨(by rw [show σ256 55 57 = a1 from (jsp eσ256), show (σ 70 a1.toNatClampNeg).toInt = 3 by omega, show A2 = 1 by omega]; rfl), (by rw [show (σ 70 a1.toNatClampNeg).toInt = 3 by omega, show A2 = 1 by omega]; exact ⟨(by rw [show σ277 55 55 = 3 from m282]; decide), (show σ277 85 0 = 40 from m283), (show σ277 85 1 = 10 from m284), (show σ277 85 2 = 1 from m285), trivial⟩)⟩⟩)⟩ hP hS dX12_act_79
      have kc273 := jne c273 t2 jz_1
      by_cases c293 : a2 = 2
      · have kc293 := jeq c293 t2 jz_2
        refine jtopr c293 ?_
        refine lv_tableIn (off := 49) (tgt := 80) hx hb dX12_act_31 (by decide) (by decide) (by decide) (by decide) ?_
        refine lv_aload_n hx hb dX12_act_80 rfl (lv_at hl 0 rfl) ?_
        refine lv_aload_n hx hb dX12_act_81 rfl (lv_at hl 0 rfl) ?_
        refine va_get (D := D) hx hb hts inlX12 hown hK hP 55 (jc_55 cI cL ad σ256 τ) rfl 56 (by decide) (hts _ kw_49_8) (fun _ h9 => h9) rfl dX12_act_82 ?_
        have m294 : σ256 55 56 = 3 := ((jkp 56 eσ256 (by decide)).trans (jsp eσ255))
        refine jtopr m294 ?_
        refine lv_iload_n hx hb dX12_act_85 rfl (lv_at hl 3 rfl) ?_
        have m295 : σ256 55 55 = 0 := ((jkp 55 eσ256 (by decide)).trans ((jkp 55 eσ255 (by decide)).trans (jsp eσ5)))
        have z296 : (σ256 55 56).toInt = 3 := ((congrArg Int32.toInt (show σ256 55 56 = 3 from m294)).trans jz_3)
        refine jcallV (As := [.int 3, .int a3]) (rest := []) ⟨hx, hb, hml, hown, hts⟩ hK hP hA hS hZ (c_X12_givesAs_3_3_0 l D cI cL ad zz hJ σ256 τ a3 (A3) t3 m295 (by omega)) cw_RX12_394 (jc_55 cI cL ad σ256 τ) rfl ⟨Nat.le_of_ble_eq_true rfl, Nat.le_of_ble_eq_true rfl⟩ rfl rfl rfl hl.1 rfl (Nat.le_of_ble_eq_true rfl) dX12_act_86 ⟨Nat.zero_le _, Nat.zero_le _⟩ (fun r298 σ297 τ297 H locs h297 hP hS => ?_)
        obtain ⟨rfl, f299, f300, f301, m302, m303, m304, h297⟩ := h297
        have h305 := h297
        obtain ⟨q307, k306⟩ := h305
        have q307 := q307.symm
        subst q307
        have z308 : (σ297 55 55).toInt = 2 := ((congrArg Int32.toInt (show σ297 55 55 = 2 from m302)).trans jz_2)
        exact hret ((a3 ^^^ (σ256 55 57)) * 3) σ297 τ _ _ _ _ rfl ⟨rfl, (fun i hi => ((f299 i hi).trans ((jnp i eσ256 (imp_345 i hi)).trans ((jnp i eσ255 (imp_345 i hi)).trans (jnp i eσ5 (imp_345 i hi)))))), (fun i hi => ((f300 i (imp_363 i hi)).trans ((jkp i eσ256 (imp_364 i hi)).trans ((jkp i eσ255 (imp_365 i hi)).trans (jkp i eσ5 (imp_366 i hi)))))), Or.inr (⟨trivial, (by omega), (by omega), (by omega), ⟨(by rw [show σ256 55 57 = a1 from (jsp eσ256), show (σ 70 a1.toNatClampNeg).toInt = 3 by omega, show A2 = 2 by omega]; rfl), (by rw [show (σ 70 a1.toNatClampNeg).toInt = 3 by omega, show A2 = 2 by omega]; exact ⟨(by rw [show σ297 55 55 = 2 from m302]; decide), (show σ297 85 0 = 30 from m303), (show σ297 85 1 = 11 from m304), trivial⟩)⟩⟩)⟩ hP hS dX12_act_89
      have kc293 := jne c293 t2 jz_2
      by_cases c311 : a2 = 3
      · have kc311 := jeq c311 t2 jz_3
        refine jtopr c311 ?_
        refine lv_tableIn (off := 59) (tgt := 90) hx hb dX12_act_31 (by decide) (by decide) (by decide) (by decide) ?_
        refine lv_aload_n hx hb dX12_act_90 rfl (lv_at hl 0 rfl) ?_
        refine lv_aload_n hx hb dX12_act_91 rfl (lv_at hl 0 rfl) ?_
        refine va_get (D := D) hx hb hts inlX12 hown hK hP 55 (jc_55 cI cL ad σ256 τ) rfl 56 (by decide) (hts _ kw_49_8) (fun _ h9 => h9) rfl dX12_act_92 ?_
        have m312 : σ256 55 56 = 3 := ((jkp 56 eσ256 (by decide)).trans (jsp eσ255))
        refine jtopr m312 ?_
        refine lv_iload_n hx hb dX12_act_95 rfl (lv_at hl 3 rfl) ?_
        have m313 : σ256 55 55 = 0 := ((jkp 55 eσ256 (by decide)).trans ((jkp 55 eσ255 (by decide)).trans (jsp eσ5)))
        have z314 : (σ256 55 56).toInt = 3 := ((congrArg Int32.toInt (show σ256 55 56 = 3 from m312)).trans jz_3)
        refine jcallV (As := [.int 3, .int a3]) (rest := []) ⟨hx, hb, hml, hown, hts⟩ hK hP hA hS hZ (c_X12_tellsAs_3_3_0 l D cI cL ad zz hJ σ256 τ a3 (A3) t3 m313 (by omega)) cw_RX12_397 (jc_55 cI cL ad σ256 τ) rfl ⟨Nat.le_of_ble_eq_true rfl, Nat.le_of_ble_eq_true rfl⟩ rfl rfl rfl hl.1 rfl (Nat.le_of_ble_eq_true rfl) dX12_act_96 ⟨Nat.zero_le _, Nat.zero_le _⟩ (fun r316 σ315 τ315 H locs h315 hP hS => ?_)
        obtain ⟨rfl, f317, f318, f319, m320, m321, m322, m323, m324, m325, m326, h315⟩ := h315
        have h327 := h315
        obtain ⟨q329, k328⟩ := h327
        have q329 := q329.symm
        subst q329
        have z330 : (σ315 55 55).toInt = 6 := ((congrArg Int32.toInt (show σ315 55 55 = 6 from m320)).trans jz_6)
        exact hret ((-((a3 + (σ256 55 57)) * 2)) - ((1 ^^^ (σ256 55 57)) * 3)) σ315 τ _ _ _ _ rfl ⟨rfl, (fun i hi => ((f317 i hi).trans ((jnp i eσ256 (imp_345 i hi)).trans ((jnp i eσ255 (imp_345 i hi)).trans (jnp i eσ5 (imp_345 i hi)))))), (fun i hi => ((f318 i (imp_363 i hi)).trans ((jkp i eσ256 (imp_364 i hi)).trans ((jkp i eσ255 (imp_365 i hi)).trans (jkp i eσ5 (imp_366 i hi)))))), Or.inr (⟨trivial, (by omega), (by omega), (by omega), ⟨(by rw [show σ256 55 57 = a1 from (jsp eσ256), show (σ 70 a1.toNatClampNeg).toInt = 3 by omega, show A2 = 3 by omega]; rfl), (by rw [show (σ 70 a1.toNatClampNeg).toInt = 3 by omega, show A2 = 3 by omega]; exact ⟨(by rw [show σ315 55 55 = 6 from m320]; decide), (show σ315 85 0 = 2 from m321), (show σ315 85 1 = 40 from m322), (show σ315 85 2 = 10 from m323), (show σ315 85 3 = 1 from m324), (show σ315 85 4 = 30 from m325), (show σ315 85 5 = 11 from m326), trivial⟩)⟩⟩)⟩ hP hS dX12_act_99
      have kc311 := jne c311 t2 jz_3
      refine lv_tableOut (tgt := 100) hx hb dX12_act_31 (by rw [t2]; omega) (by decide) ?_
      refine lv_iconst (v := 0) hx hb dX12_act_100 (by decide) ?_
      have z337 : (σ256 55 55).toInt = 0 := ((congrArg Int32.toInt (show σ256 55 55 = 0 from ((jkp 55 eσ256 (by decide)).trans ((jkp 55 eσ255 (by decide)).trans (jsp eσ5))))).trans jz_0)
      exact hret 0 σ256 τ _ _ _ _ rfl ⟨rfl, (fun i hi => ((jnp i eσ256 (imp_345 i hi)).trans ((jnp i eσ255 (imp_345 i hi)).trans (jnp i eσ5 (imp_345 i hi))))), (fun i hi => ((jkp i eσ256 (imp_364 i hi)).trans ((jkp i eσ255 (imp_365 i hi)).trans (jkp i eσ5 (imp_366 i hi))))), Or.inl ⟨rfl, (by have h9 := jz_0; omega), (by have h9 := jz_0; omega)⟩⟩ hP hS dX12_act_101
    have kc254 := jne c254 (rfl : (σ 70 a1.toNatClampNeg).toInt = (σ 70 a1.toNatClampNeg).toInt) jz_3
    by_cases c338 : (σ 70 a1.toNatClampNeg) = 4
    · have kc338 := jeq c338 (rfl : (σ 70 a1.toNatClampNeg).toInt = (σ 70 a1.toNatClampNeg).toInt) jz_4
      refine jtopr c338 ?_
      refine jput (ty := .int) hx hb hts inlX12 tyX12 tyX12_ok nmX12 hown hK hP hJ hA hS (jc_55 cI cL ad σ5 τ) rfl (k := 56) (by decide) (Nat.le_of_ble_eq_true rfl) (jp_55_56 cI cL ad σ5 τ 4) (hts _ kw_49_8) (fun _ h9 => h9) rfl (by decide +kernel) rfl rfl dX12_act_22 (fun σ339 H locs eσ339 hP hS => ?_)
      refine lv_aload_n hx hb dX12_act_25 rfl (lv_at hl 0 rfl) ?_
      refine lv_iload_n hx hb dX12_act_26 rfl (lv_at hl 1 rfl) ?_
      refine jput (ty := .int) hx hb hts inlX12 tyX12 tyX12_ok nmX12 hown hK hP hJ hA hS (jc_55 cI cL ad σ339 τ) rfl (k := 57) (by decide) (Nat.le_of_ble_eq_true rfl) (jp_55_57 cI cL ad σ339 τ a1) (hts _ kw_49_9) (fun _ h9 => h9) rfl (by decide +kernel) rfl rfl dX12_act_27 (fun σ340 H locs eσ340 hP hS => ?_)
      refine lv_iload_n hx hb dX12_act_30 rfl (lv_at hl 2 rfl) ?_
      by_cases c341 : a2 = 0
      · have kc341 := jeq c341 t2 jz_0
        refine jtopr c341 ?_
        refine lv_tableIn (off := 29) (tgt := 60) hx hb dX12_act_31 (by decide) (by decide) (by decide) (by decide) ?_
        refine lv_aload_n hx hb dX12_act_60 rfl (lv_at hl 0 rfl) ?_
        refine lv_aload_n hx hb dX12_act_61 rfl (lv_at hl 0 rfl) ?_
        refine va_get (D := D) hx hb hts inlX12 hown hK hP 55 (jc_55 cI cL ad σ340 τ) rfl 56 (by decide) (hts _ kw_49_8) (fun _ h9 => h9) rfl dX12_act_62 ?_
        have m342 : σ340 55 56 = 4 := ((jkp 56 eσ340 (by decide)).trans (jsp eσ339))
        refine jtopr m342 ?_
        refine lv_iload_n hx hb dX12_act_65 rfl (lv_at hl 3 rfl) ?_
        have m343 : σ340 55 55 = 0 := ((jkp 55 eσ340 (by decide)).trans ((jkp 55 eσ339 (by decide)).trans (jsp eσ5)))
        have z344 : (σ340 55 56).toInt = 4 := ((congrArg Int32.toInt (show σ340 55 56 = 4 from m342)).trans jz_4)
        refine jcallV (As := [.int 4, .int a3]) (rest := []) ⟨hx, hb, hml, hown, hts⟩ hK hP hA hS hZ (c_X12_putsAs_4_4_0 l D cI cL ad zz hJ σ340 τ a3 (A3) t3 m343 (by omega)) cw_RX12_382 (jc_55 cI cL ad σ340 τ) rfl ⟨Nat.le_of_ble_eq_true rfl, Nat.le_of_ble_eq_true rfl⟩ rfl rfl rfl hl.1 rfl (Nat.le_of_ble_eq_true rfl) dX12_act_66 ⟨Nat.zero_le _, Nat.zero_le _⟩ (fun r346 σ345 τ345 H locs h345 hP hS => ?_)
        obtain ⟨rfl, f347, f348, f349, m350, m351, m352, m353, h345⟩ := h345
        have h354 := h345
        obtain ⟨q356, k355⟩ := h354
        have q356 := q356.symm
        subst q356
        have z357 : (σ345 55 55).toInt = 3 := ((congrArg Int32.toInt (show σ345 55 55 = 3 from m350)).trans jz_3)
        exact hret (((a3 + 1) + (σ340 55 57)) + 3) σ345 τ _ _ _ _ rfl ⟨rfl, (fun i hi => ((f347 i hi).trans ((jnp i eσ340 (imp_345 i hi)).trans ((jnp i eσ339 (imp_345 i hi)).trans (jnp i eσ5 (imp_345 i hi)))))), (fun i hi => ((f348 i (imp_363 i hi)).trans ((jkp i eσ340 (imp_364 i hi)).trans ((jkp i eσ339 (imp_365 i hi)).trans (jkp i eσ5 (imp_366 i hi)))))), Or.inr (⟨trivial, (by omega), (by omega), (by omega), ⟨(by rw [show σ340 55 57 = a1 from (jsp eσ340), show (σ 70 a1.toNatClampNeg).toInt = 4 by omega, show A2 = 0 by omega]; rfl), (by rw [show (σ 70 a1.toNatClampNeg).toInt = 4 by omega, show A2 = 0 by omega]; exact ⟨(by rw [show σ345 55 55 = 3 from m350]; decide), (show σ345 85 0 = 50 from m351), (show σ345 85 1 = 20 from m352), (show σ345 85 2 = 1 from m353), trivial⟩)⟩⟩)⟩ hP hS dX12_act_69
      have kc341 := jne c341 t2 jz_0
      by_cases c361 : a2 = 1
      · have kc361 := jeq c361 t2 jz_1
        refine jtopr c361 ?_
        refine lv_tableIn (off := 39) (tgt := 70) hx hb dX12_act_31 (by decide) (by decide) (by decide) (by decide) ?_
        refine lv_aload_n hx hb dX12_act_70 rfl (lv_at hl 0 rfl) ?_
        refine lv_aload_n hx hb dX12_act_71 rfl (lv_at hl 0 rfl) ?_
        refine va_get (D := D) hx hb hts inlX12 hown hK hP 55 (jc_55 cI cL ad σ340 τ) rfl 56 (by decide) (hts _ kw_49_8) (fun _ h9 => h9) rfl dX12_act_72 ?_
        have m362 : σ340 55 56 = 4 := ((jkp 56 eσ340 (by decide)).trans (jsp eσ339))
        refine jtopr m362 ?_
        refine lv_iload_n hx hb dX12_act_75 rfl (lv_at hl 3 rfl) ?_
        have m363 : σ340 55 55 = 0 := ((jkp 55 eσ340 (by decide)).trans ((jkp 55 eσ339 (by decide)).trans (jsp eσ5)))
        have z364 : (σ340 55 56).toInt = 4 := ((congrArg Int32.toInt (show σ340 55 56 = 4 from m362)).trans jz_4)
        refine jcallV (As := [.int 4, .int a3]) (rest := []) ⟨hx, hb, hml, hown, hts⟩ hK hP hA hS hZ (c_X12_holdsAs_4_4_0 l D cI cL ad zz hJ σ340 τ a3 (A3) t3 m363 (by omega)) cw_RX12_388 (jc_55 cI cL ad σ340 τ) rfl ⟨Nat.le_of_ble_eq_true rfl, Nat.le_of_ble_eq_true rfl⟩ rfl rfl rfl hl.1 rfl (Nat.le_of_ble_eq_true rfl) dX12_act_76 ⟨Nat.zero_le _, Nat.zero_le _⟩ (fun r366 σ365 τ365 H locs h365 hP hS => ?_)
        obtain ⟨rfl, f367, f368, f369, m370, m371, m372, m373, m374, h365⟩ := h365
        have h375 := h365
        obtain ⟨q377, k376⟩ := h375
        have q377 := q377.symm
        subst q377
        have z378 : (σ365 55 55).toInt = 4 := ((congrArg Int32.toInt (show σ365 55 55 = 4 from m370)).trans jz_4)
        exact hret ((((a3 + 1) + (σ340 55 57)) + 3) * 2) σ365 τ _ _ _ _ rfl ⟨rfl, (fun i hi => ((f367 i hi).trans ((jnp i eσ340 (imp_345 i hi)).trans ((jnp i eσ339 (imp_345 i hi)).trans (jnp i eσ5 (imp_345 i hi)))))), (fun i hi => ((f368 i (imp_363 i hi)).trans ((jkp i eσ340 (imp_364 i hi)).trans ((jkp i eσ339 (imp_365 i hi)).trans (jkp i eσ5 (imp_366 i hi)))))), Or.inr (⟨trivial, (by omega), (by omega), (by omega), ⟨(by rw [show σ340 55 57 = a1 from (jsp eσ340), show (σ 70 a1.toNatClampNeg).toInt = 4 by omega, show A2 = 1 by omega]; rfl), (by rw [show (σ 70 a1.toNatClampNeg).toInt = 4 by omega, show A2 = 1 by omega]; exact ⟨(by rw [show σ365 55 55 = 4 from m370]; decide), (show σ365 85 0 = 10 from m371), (show σ365 85 1 = 50 from m372), (show σ365 85 2 = 20 from m373), (show σ365 85 3 = 1 from m374), trivial⟩)⟩⟩)⟩ hP hS dX12_act_79
      have kc361 := jne c361 t2 jz_1
      by_cases c383 : a2 = 2
      · have kc383 := jeq c383 t2 jz_2
        refine jtopr c383 ?_
        refine lv_tableIn (off := 49) (tgt := 80) hx hb dX12_act_31 (by decide) (by decide) (by decide) (by decide) ?_
        refine lv_aload_n hx hb dX12_act_80 rfl (lv_at hl 0 rfl) ?_
        refine lv_aload_n hx hb dX12_act_81 rfl (lv_at hl 0 rfl) ?_
        refine va_get (D := D) hx hb hts inlX12 hown hK hP 55 (jc_55 cI cL ad σ340 τ) rfl 56 (by decide) (hts _ kw_49_8) (fun _ h9 => h9) rfl dX12_act_82 ?_
        have m384 : σ340 55 56 = 4 := ((jkp 56 eσ340 (by decide)).trans (jsp eσ339))
        refine jtopr m384 ?_
        refine lv_iload_n hx hb dX12_act_85 rfl (lv_at hl 3 rfl) ?_
        have m385 : σ340 55 55 = 0 := ((jkp 55 eσ340 (by decide)).trans ((jkp 55 eσ339 (by decide)).trans (jsp eσ5)))
        have z386 : (σ340 55 56).toInt = 4 := ((congrArg Int32.toInt (show σ340 55 56 = 4 from m384)).trans jz_4)
        refine jcallV (As := [.int 4, .int a3]) (rest := []) ⟨hx, hb, hml, hown, hts⟩ hK hP hA hS hZ (c_X12_givesAs_4_4_0 l D cI cL ad zz hJ σ340 τ a3 (A3) t3 m385 (by omega)) cw_RX12_394 (jc_55 cI cL ad σ340 τ) rfl ⟨Nat.le_of_ble_eq_true rfl, Nat.le_of_ble_eq_true rfl⟩ rfl rfl rfl hl.1 rfl (Nat.le_of_ble_eq_true rfl) dX12_act_86 ⟨Nat.zero_le _, Nat.zero_le _⟩ (fun r388 σ387 τ387 H locs h387 hP hS => ?_)
        obtain ⟨rfl, f389, f390, f391, m392, m393, h387⟩ := h387
        have h394 := h387
        obtain ⟨q396, k395⟩ := h394
        have q396 := q396.symm
        subst q396
        have z397 : (σ387 55 55).toInt = 1 := ((congrArg Int32.toInt (show σ387 55 55 = 1 from m392)).trans jz_1)
        exact hret (a3 ^^^ (σ340 55 57)) σ387 τ _ _ _ _ rfl ⟨rfl, (fun i hi => ((f389 i hi).trans ((jnp i eσ340 (imp_345 i hi)).trans ((jnp i eσ339 (imp_345 i hi)).trans (jnp i eσ5 (imp_345 i hi)))))), (fun i hi => ((f390 i (imp_363 i hi)).trans ((jkp i eσ340 (imp_364 i hi)).trans ((jkp i eσ339 (imp_365 i hi)).trans (jkp i eσ5 (imp_366 i hi)))))), Or.inr (⟨trivial, (by omega), (by omega), (by omega), ⟨(by rw [show σ340 55 57 = a1 from (jsp eσ340), show (σ 70 a1.toNatClampNeg).toInt = 4 by omega, show A2 = 2 by omega]; rfl), (by rw [show (σ 70 a1.toNatClampNeg).toInt = 4 by omega, show A2 = 2 by omega]; exact ⟨(by rw [show σ387 55 55 = 1 from m392]; decide), (show σ387 85 0 = 11 from m393), trivial⟩)⟩⟩)⟩ hP hS dX12_act_89
      have kc383 := jne c383 t2 jz_2
      by_cases c399 : a2 = 3
      · have kc399 := jeq c399 t2 jz_3
        refine jtopr c399 ?_
        refine lv_tableIn (off := 59) (tgt := 90) hx hb dX12_act_31 (by decide) (by decide) (by decide) (by decide) ?_
        refine lv_aload_n hx hb dX12_act_90 rfl (lv_at hl 0 rfl) ?_
        refine lv_aload_n hx hb dX12_act_91 rfl (lv_at hl 0 rfl) ?_
        refine va_get (D := D) hx hb hts inlX12 hown hK hP 55 (jc_55 cI cL ad σ340 τ) rfl 56 (by decide) (hts _ kw_49_8) (fun _ h9 => h9) rfl dX12_act_92 ?_
        have m400 : σ340 55 56 = 4 := ((jkp 56 eσ340 (by decide)).trans (jsp eσ339))
        refine jtopr m400 ?_
        refine lv_iload_n hx hb dX12_act_95 rfl (lv_at hl 3 rfl) ?_
        have m401 : σ340 55 55 = 0 := ((jkp 55 eσ340 (by decide)).trans ((jkp 55 eσ339 (by decide)).trans (jsp eσ5)))
        have z402 : (σ340 55 56).toInt = 4 := ((congrArg Int32.toInt (show σ340 55 56 = 4 from m400)).trans jz_4)
        refine jcallV (As := [.int 4, .int a3]) (rest := []) ⟨hx, hb, hml, hown, hts⟩ hK hP hA hS hZ (c_X12_tellsAs_4_4_0 l D cI cL ad zz hJ σ340 τ a3 (A3) t3 m401 (by omega)) cw_RX12_397 (jc_55 cI cL ad σ340 τ) rfl ⟨Nat.le_of_ble_eq_true rfl, Nat.le_of_ble_eq_true rfl⟩ rfl rfl rfl hl.1 rfl (Nat.le_of_ble_eq_true rfl) dX12_act_96 ⟨Nat.zero_le _, Nat.zero_le _⟩ (fun r404 σ403 τ403 H locs h403 hP hS => ?_)
        obtain ⟨rfl, f405, f406, f407, m408, m409, m410, m411, m412, m413, m414, m415, h403⟩ := h403
        have h416 := h403
        obtain ⟨q418, k417⟩ := h416
        have q418 := q418.symm
        subst q418
        have z419 : (σ403 55 55).toInt = 7 := ((congrArg Int32.toInt (show σ403 55 55 = 7 from m408)).trans jz_7)
        exact hret ((((((a3 + 1) + (σ340 55 57)) + 3) * 2) - (1 ^^^ (σ340 55 57))) ^^^ 5) σ403 τ _ _ _ _ rfl ⟨rfl, (fun i hi => ((f405 i hi).trans ((jnp i eσ340 (imp_345 i hi)).trans ((jnp i eσ339 (imp_345 i hi)).trans (jnp i eσ5 (imp_345 i hi)))))), (fun i hi => ((f406 i (imp_363 i hi)).trans ((jkp i eσ340 (imp_364 i hi)).trans ((jkp i eσ339 (imp_365 i hi)).trans (jkp i eσ5 (imp_366 i hi)))))), Or.inr (⟨trivial, (by omega), (by omega), (by omega), ⟨(by rw [show σ340 55 57 = a1 from (jsp eσ340), show (σ 70 a1.toNatClampNeg).toInt = 4 by omega, show A2 = 3 by omega]; rfl), (by rw [show (σ 70 a1.toNatClampNeg).toInt = 4 by omega, show A2 = 3 by omega]; exact ⟨(by rw [show σ403 55 55 = 7 from m408]; decide), (show σ403 85 0 = 51 from m409), (show σ403 85 1 = 2 from m410), (show σ403 85 2 = 10 from m411), (show σ403 85 3 = 50 from m412), (show σ403 85 4 = 20 from m413), (show σ403 85 5 = 1 from m414), (show σ403 85 6 = 11 from m415), trivial⟩)⟩⟩)⟩ hP hS dX12_act_99
      have kc399 := jne c399 t2 jz_3
      refine lv_tableOut (tgt := 100) hx hb dX12_act_31 (by rw [t2]; omega) (by decide) ?_
      refine lv_iconst (v := 0) hx hb dX12_act_100 (by decide) ?_
      have z427 : (σ340 55 55).toInt = 0 := ((congrArg Int32.toInt (show σ340 55 55 = 0 from ((jkp 55 eσ340 (by decide)).trans ((jkp 55 eσ339 (by decide)).trans (jsp eσ5))))).trans jz_0)
      exact hret 0 σ340 τ _ _ _ _ rfl ⟨rfl, (fun i hi => ((jnp i eσ340 (imp_345 i hi)).trans ((jnp i eσ339 (imp_345 i hi)).trans (jnp i eσ5 (imp_345 i hi))))), (fun i hi => ((jkp i eσ340 (imp_364 i hi)).trans ((jkp i eσ339 (imp_365 i hi)).trans (jkp i eσ5 (imp_366 i hi))))), Or.inl ⟨rfl, (by have h9 := jz_0; omega), (by have h9 := jz_0; omega)⟩⟩ hP hS dX12_act_101
    have kc338 := jne c338 (rfl : (σ 70 a1.toNatClampNeg).toInt = (σ 70 a1.toNatClampNeg).toInt) jz_4
    by_cases c428 : (σ 70 a1.toNatClampNeg) = 5
    · have kc428 := jeq c428 (rfl : (σ 70 a1.toNatClampNeg).toInt = (σ 70 a1.toNatClampNeg).toInt) jz_5
      refine jtopr c428 ?_
      refine jput (ty := .int) hx hb hts inlX12 tyX12 tyX12_ok nmX12 hown hK hP hJ hA hS (jc_55 cI cL ad σ5 τ) rfl (k := 56) (by decide) (Nat.le_of_ble_eq_true rfl) (jp_55_56 cI cL ad σ5 τ 5) (hts _ kw_49_8) (fun _ h9 => h9) rfl (by decide +kernel) rfl rfl dX12_act_22 (fun σ429 H locs eσ429 hP hS => ?_)
      refine lv_aload_n hx hb dX12_act_25 rfl (lv_at hl 0 rfl) ?_
      refine lv_iload_n hx hb dX12_act_26 rfl (lv_at hl 1 rfl) ?_
      refine jput (ty := .int) hx hb hts inlX12 tyX12 tyX12_ok nmX12 hown hK hP hJ hA hS (jc_55 cI cL ad σ429 τ) rfl (k := 57) (by decide) (Nat.le_of_ble_eq_true rfl) (jp_55_57 cI cL ad σ429 τ a1) (hts _ kw_49_9) (fun _ h9 => h9) rfl (by decide +kernel) rfl rfl dX12_act_27 (fun σ430 H locs eσ430 hP hS => ?_)
      refine lv_iload_n hx hb dX12_act_30 rfl (lv_at hl 2 rfl) ?_
      by_cases c431 : a2 = 0
      · have kc431 := jeq c431 t2 jz_0
        refine jtopr c431 ?_
        refine lv_tableIn (off := 29) (tgt := 60) hx hb dX12_act_31 (by decide) (by decide) (by decide) (by decide) ?_
        refine lv_aload_n hx hb dX12_act_60 rfl (lv_at hl 0 rfl) ?_
        refine lv_aload_n hx hb dX12_act_61 rfl (lv_at hl 0 rfl) ?_
        refine va_get (D := D) hx hb hts inlX12 hown hK hP 55 (jc_55 cI cL ad σ430 τ) rfl 56 (by decide) (hts _ kw_49_8) (fun _ h9 => h9) rfl dX12_act_62 ?_
        have m432 : σ430 55 56 = 5 := ((jkp 56 eσ430 (by decide)).trans (jsp eσ429))
        refine jtopr m432 ?_
        refine lv_iload_n hx hb dX12_act_65 rfl (lv_at hl 3 rfl) ?_
        have m433 : σ430 55 55 = 0 := ((jkp 55 eσ430 (by decide)).trans ((jkp 55 eσ429 (by decide)).trans (jsp eσ5)))
        have z434 : (σ430 55 56).toInt = 5 := ((congrArg Int32.toInt (show σ430 55 56 = 5 from m432)).trans jz_5)
        refine jcallV (As := [.int 5, .int a3]) (rest := []) ⟨hx, hb, hml, hown, hts⟩ hK hP hA hS hZ (c_X12_putsAs_5_5_0 l D cI cL ad zz hJ σ430 τ a3 (A3) t3 m433 (by omega)) cw_RX12_382 (jc_55 cI cL ad σ430 τ) rfl ⟨Nat.le_of_ble_eq_true rfl, Nat.le_of_ble_eq_true rfl⟩ rfl rfl rfl hl.1 rfl (Nat.le_of_ble_eq_true rfl) dX12_act_66 ⟨Nat.zero_le _, Nat.zero_le _⟩ (fun r436 σ435 τ435 H locs h435 hP hS => ?_)
        obtain ⟨rfl, f437, f438, f439, m440, m441, h435⟩ := h435
        have h442 := h435
        obtain ⟨q444, k443⟩ := h442
        have q444 := q444.symm
        subst q444
        have z445 : (σ435 55 55).toInt = 1 := ((congrArg Int32.toInt (show σ435 55 55 = 1 from m440)).trans jz_1)
        exact hret (a3 + (σ430 55 57)) σ435 τ _ _ _ _ rfl ⟨rfl, (fun i hi => ((f437 i hi).trans ((jnp i eσ430 (imp_345 i hi)).trans ((jnp i eσ429 (imp_345 i hi)).trans (jnp i eσ5 (imp_345 i hi)))))), (fun i hi => ((f438 i (imp_363 i hi)).trans ((jkp i eσ430 (imp_364 i hi)).trans ((jkp i eσ429 (imp_365 i hi)).trans (jkp i eσ5 (imp_366 i hi)))))), Or.inr (⟨trivial, (by omega), (by omega), (by omega), ⟨(by rw [show σ430 55 57 = a1 from (jsp eσ430), show (σ 70 a1.toNatClampNeg).toInt = 5 by omega, show A2 = 0 by omega]; rfl), (by rw [show (σ 70 a1.toNatClampNeg).toInt = 5 by omega, show A2 = 0 by omega]; exact ⟨(by rw [show σ435 55 55 = 1 from m440]; decide), (show σ435 85 0 = 1 from m441), trivial⟩)⟩⟩)⟩ hP hS dX12_act_69
      have kc431 := jne c431 t2 jz_0
      by_cases c447 : a2 = 1
      · have kc447 := jeq c447 t2 jz_1
        refine jtopr c447 ?_
        refine lv_tableIn (off := 39) (tgt := 70) hx hb dX12_act_31 (by decide) (by decide) (by decide) (by decide) ?_
        refine lv_aload_n hx hb dX12_act_70 rfl (lv_at hl 0 rfl) ?_
        refine lv_aload_n hx hb dX12_act_71 rfl (lv_at hl 0 rfl) ?_
        refine va_get (D := D) hx hb hts inlX12 hown hK hP 55 (jc_55 cI cL ad σ430 τ) rfl 56 (by decide) (hts _ kw_49_8) (fun _ h9 => h9) rfl dX12_act_72 ?_
        have m448 : σ430 55 56 = 5 := ((jkp 56 eσ430 (by decide)).trans (jsp eσ429))
        refine jtopr m448 ?_
        refine lv_iload_n hx hb dX12_act_75 rfl (lv_at hl 3 rfl) ?_
        have m449 : σ430 55 55 = 0 := ((jkp 55 eσ430 (by decide)).trans ((jkp 55 eσ429 (by decide)).trans (jsp eσ5)))
        have z450 : (σ430 55 56).toInt = 5 := ((congrArg Int32.toInt (show σ430 55 56 = 5 from m448)).trans jz_5)
        refine jcallV (As := [.int 5, .int a3]) (rest := []) ⟨hx, hb, hml, hown, hts⟩ hK hP hA hS hZ (c_X12_holdsAs_5_5_0 l D cI cL ad zz hJ σ430 τ a3 (A3) t3 m449 (by omega)) cw_RX12_388 (jc_55 cI cL ad σ430 τ) rfl ⟨Nat.le_of_ble_eq_true rfl, Nat.le_of_ble_eq_true rfl⟩ rfl rfl rfl hl.1 rfl (Nat.le_of_ble_eq_true rfl) dX12_act_76 ⟨Nat.zero_le _, Nat.zero_le _⟩ (fun r452 σ451 τ451 H locs h451 hP hS => ?_)
        obtain ⟨rfl, f453, f454, f455, m456, m457, m458, m459, h451⟩ := h451
        have h460 := h451
        obtain ⟨q462, k461⟩ := h460
        have q462 := q462.symm
        subst q462
        have z463 : (σ451 55 55).toInt = 3 := ((congrArg Int32.toInt (show σ451 55 55 = 3 from m456)).trans jz_3)
        exact hret (-((a3 + (σ430 55 57)) * 2)) σ451 τ _ _ _ _ rfl ⟨rfl, (fun i hi => ((f453 i hi).trans ((jnp i eσ430 (imp_345 i hi)).trans ((jnp i eσ429 (imp_345 i hi)).trans (jnp i eσ5 (imp_345 i hi)))))), (fun i hi => ((f454 i (imp_363 i hi)).trans ((jkp i eσ430 (imp_364 i hi)).trans ((jkp i eσ429 (imp_365 i hi)).trans (jkp i eσ5 (imp_366 i hi)))))), Or.inr (⟨trivial, (by omega), (by omega), (by omega), ⟨(by rw [show σ430 55 57 = a1 from (jsp eσ430), show (σ 70 a1.toNatClampNeg).toInt = 5 by omega, show A2 = 1 by omega]; rfl), (by rw [show (σ 70 a1.toNatClampNeg).toInt = 5 by omega, show A2 = 1 by omega]; exact ⟨(by rw [show σ451 55 55 = 3 from m456]; decide), (show σ451 85 0 = 40 from m457), (show σ451 85 1 = 10 from m458), (show σ451 85 2 = 1 from m459), trivial⟩)⟩⟩)⟩ hP hS dX12_act_79
      have kc447 := jne c447 t2 jz_1
      by_cases c467 : a2 = 2
      · have kc467 := jeq c467 t2 jz_2
        refine jtopr c467 ?_
        refine lv_tableIn (off := 49) (tgt := 80) hx hb dX12_act_31 (by decide) (by decide) (by decide) (by decide) ?_
        refine lv_aload_n hx hb dX12_act_80 rfl (lv_at hl 0 rfl) ?_
        refine lv_aload_n hx hb dX12_act_81 rfl (lv_at hl 0 rfl) ?_
        refine va_get (D := D) hx hb hts inlX12 hown hK hP 55 (jc_55 cI cL ad σ430 τ) rfl 56 (by decide) (hts _ kw_49_8) (fun _ h9 => h9) rfl dX12_act_82 ?_
        have m468 : σ430 55 56 = 5 := ((jkp 56 eσ430 (by decide)).trans (jsp eσ429))
        refine jtopr m468 ?_
        refine lv_iload_n hx hb dX12_act_85 rfl (lv_at hl 3 rfl) ?_
        have m469 : σ430 55 55 = 0 := ((jkp 55 eσ430 (by decide)).trans ((jkp 55 eσ429 (by decide)).trans (jsp eσ5)))
        have z470 : (σ430 55 56).toInt = 5 := ((congrArg Int32.toInt (show σ430 55 56 = 5 from m468)).trans jz_5)
        refine jcallV (As := [.int 5, .int a3]) (rest := []) ⟨hx, hb, hml, hown, hts⟩ hK hP hA hS hZ (c_X12_givesAs_5_5_0 l D cI cL ad zz hJ σ430 τ a3 (A3) t3 m469 (by omega)) cw_RX12_394 (jc_55 cI cL ad σ430 τ) rfl ⟨Nat.le_of_ble_eq_true rfl, Nat.le_of_ble_eq_true rfl⟩ rfl rfl rfl hl.1 rfl (Nat.le_of_ble_eq_true rfl) dX12_act_86 ⟨Nat.zero_le _, Nat.zero_le _⟩ (fun r472 σ471 τ471 H locs h471 hP hS => ?_)
        obtain ⟨rfl, f473, f474, f475, m476, m477, m478, m479, m480, h471⟩ := h471
        have h481 := h471
        obtain ⟨q483, k482⟩ := h481
        have q483 := q483.symm
        subst q483
        have z484 : (σ471 55 55).toInt = 4 := ((congrArg Int32.toInt (show σ471 55 55 = 4 from m476)).trans jz_4)
        exact hret (((a3 ^^^ (σ430 55 57)) * 3) - (2 + (σ430 55 57))) σ471 τ _ _ _ _ rfl ⟨rfl, (fun i hi => ((f473 i hi).trans ((jnp i eσ430 (imp_345 i hi)).trans ((jnp i eσ429 (imp_345 i hi)).trans (jnp i eσ5 (imp_345 i hi)))))), (fun i hi => ((f474 i (imp_363 i hi)).trans ((jkp i eσ430 (imp_364 i hi)).trans ((jkp i eσ429 (imp_365 i hi)).trans (jkp i eσ5 (imp_366 i hi)))))), Or.inr (⟨trivial, (by omega), (by omega), (by omega), ⟨(by rw [show σ430 55 57 = a1 from (jsp eσ430), show (σ 70 a1.toNatClampNeg).toInt = 5 by omega, show A2 = 2 by omega]; rfl), (by rw [show (σ 70 a1.toNatClampNeg).toInt = 5 by omega, show A2 = 2 by omega]; exact ⟨(by rw [show σ471 55 55 = 4 from m476]; decide), (show σ471 85 0 = 60 from m477), (show σ471 85 1 = 30 from m478), (show σ471 85 2 = 11 from m479), (show σ471 85 3 = 1 from m480), trivial⟩)⟩⟩)⟩ hP hS dX12_act_89
      have kc467 := jne c467 t2 jz_2
      by_cases c489 : a2 = 3
      · have kc489 := jeq c489 t2 jz_3
        refine jtopr c489 ?_
        refine lv_tableIn (off := 59) (tgt := 90) hx hb dX12_act_31 (by decide) (by decide) (by decide) (by decide) ?_
        refine lv_aload_n hx hb dX12_act_90 rfl (lv_at hl 0 rfl) ?_
        refine lv_aload_n hx hb dX12_act_91 rfl (lv_at hl 0 rfl) ?_
        refine va_get (D := D) hx hb hts inlX12 hown hK hP 55 (jc_55 cI cL ad σ430 τ) rfl 56 (by decide) (hts _ kw_49_8) (fun _ h9 => h9) rfl dX12_act_92 ?_
        have m490 : σ430 55 56 = 5 := ((jkp 56 eσ430 (by decide)).trans (jsp eσ429))
        refine jtopr m490 ?_
        refine lv_iload_n hx hb dX12_act_95 rfl (lv_at hl 3 rfl) ?_
        have m491 : σ430 55 55 = 0 := ((jkp 55 eσ430 (by decide)).trans ((jkp 55 eσ429 (by decide)).trans (jsp eσ5)))
        have z492 : (σ430 55 56).toInt = 5 := ((congrArg Int32.toInt (show σ430 55 56 = 5 from m490)).trans jz_5)
        refine jcallV (As := [.int 5, .int a3]) (rest := []) ⟨hx, hb, hml, hown, hts⟩ hK hP hA hS hZ (c_X12_tellsAs_5_5_0 l D cI cL ad zz hJ σ430 τ a3 (A3) t3 m491 (by omega)) cw_RX12_397 (jc_55 cI cL ad σ430 τ) rfl ⟨Nat.le_of_ble_eq_true rfl, Nat.le_of_ble_eq_true rfl⟩ rfl rfl rfl hl.1 rfl (Nat.le_of_ble_eq_true rfl) dX12_act_96 ⟨Nat.zero_le _, Nat.zero_le _⟩ (fun r494 σ493 τ493 H locs h493 hP hS => ?_)
        obtain ⟨rfl, f495, f496, f497, m498, m499, m500, m501, m502, m503, m504, m505, m506, h493⟩ := h493
        have h507 := h493
        obtain ⟨q509, k508⟩ := h507
        have q509 := q509.symm
        subst q509
        have z510 : (σ493 55 55).toInt = 8 := ((congrArg Int32.toInt (show σ493 55 55 = 8 from m498)).trans jz_8)
        exact hret ((-((a3 + (σ430 55 57)) * 2)) - (((1 ^^^ (σ430 55 57)) * 3) - (2 + (σ430 55 57)))) σ493 τ _ _ _ _ rfl ⟨rfl, (fun i hi => ((f495 i hi).trans ((jnp i eσ430 (imp_345 i hi)).trans ((jnp i eσ429 (imp_345 i hi)).trans (jnp i eσ5 (imp_345 i hi)))))), (fun i hi => ((f496 i (imp_363 i hi)).trans ((jkp i eσ430 (imp_364 i hi)).trans ((jkp i eσ429 (imp_365 i hi)).trans (jkp i eσ5 (imp_366 i hi)))))), Or.inr (⟨trivial, (by omega), (by omega), (by omega), ⟨(by rw [show σ430 55 57 = a1 from (jsp eσ430), show (σ 70 a1.toNatClampNeg).toInt = 5 by omega, show A2 = 3 by omega]; rfl), (by rw [show (σ 70 a1.toNatClampNeg).toInt = 5 by omega, show A2 = 3 by omega]; exact ⟨(by rw [show σ493 55 55 = 8 from m498]; decide), (show σ493 85 0 = 2 from m499), (show σ493 85 1 = 40 from m500), (show σ493 85 2 = 10 from m501), (show σ493 85 3 = 1 from m502), (show σ493 85 4 = 60 from m503), (show σ493 85 5 = 30 from m504), (show σ493 85 6 = 11 from m505), (show σ493 85 7 = 1 from m506), trivial⟩)⟩⟩)⟩ hP hS dX12_act_99
      have kc489 := jne c489 t2 jz_3
      refine lv_tableOut (tgt := 100) hx hb dX12_act_31 (by rw [t2]; omega) (by decide) ?_
      refine lv_iconst (v := 0) hx hb dX12_act_100 (by decide) ?_
      have z519 : (σ430 55 55).toInt = 0 := ((congrArg Int32.toInt (show σ430 55 55 = 0 from ((jkp 55 eσ430 (by decide)).trans ((jkp 55 eσ429 (by decide)).trans (jsp eσ5))))).trans jz_0)
      exact hret 0 σ430 τ _ _ _ _ rfl ⟨rfl, (fun i hi => ((jnp i eσ430 (imp_345 i hi)).trans ((jnp i eσ429 (imp_345 i hi)).trans (jnp i eσ5 (imp_345 i hi))))), (fun i hi => ((jkp i eσ430 (imp_364 i hi)).trans ((jkp i eσ429 (imp_365 i hi)).trans (jkp i eσ5 (imp_366 i hi))))), Or.inl ⟨rfl, (by have h9 := jz_0; omega), (by have h9 := jz_0; omega)⟩⟩ hP hS dX12_act_101
    have kc428 := jne c428 (rfl : (σ 70 a1.toNatClampNeg).toInt = (σ 70 a1.toNatClampNeg).toInt) jz_5
    by_cases c520 : (σ 70 a1.toNatClampNeg) = 6
    · have kc520 := jeq c520 (rfl : (σ 70 a1.toNatClampNeg).toInt = (σ 70 a1.toNatClampNeg).toInt) jz_6
      refine jtopr c520 ?_
      refine jput (ty := .int) hx hb hts inlX12 tyX12 tyX12_ok nmX12 hown hK hP hJ hA hS (jc_55 cI cL ad σ5 τ) rfl (k := 56) (by decide) (Nat.le_of_ble_eq_true rfl) (jp_55_56 cI cL ad σ5 τ 6) (hts _ kw_49_8) (fun _ h9 => h9) rfl (by decide +kernel) rfl rfl dX12_act_22 (fun σ521 H locs eσ521 hP hS => ?_)
      refine lv_aload_n hx hb dX12_act_25 rfl (lv_at hl 0 rfl) ?_
      refine lv_iload_n hx hb dX12_act_26 rfl (lv_at hl 1 rfl) ?_
      refine jput (ty := .int) hx hb hts inlX12 tyX12 tyX12_ok nmX12 hown hK hP hJ hA hS (jc_55 cI cL ad σ521 τ) rfl (k := 57) (by decide) (Nat.le_of_ble_eq_true rfl) (jp_55_57 cI cL ad σ521 τ a1) (hts _ kw_49_9) (fun _ h9 => h9) rfl (by decide +kernel) rfl rfl dX12_act_27 (fun σ522 H locs eσ522 hP hS => ?_)
      refine lv_iload_n hx hb dX12_act_30 rfl (lv_at hl 2 rfl) ?_
      by_cases c523 : a2 = 0
      · have kc523 := jeq c523 t2 jz_0
        refine jtopr c523 ?_
        refine lv_tableIn (off := 29) (tgt := 60) hx hb dX12_act_31 (by decide) (by decide) (by decide) (by decide) ?_
        refine lv_aload_n hx hb dX12_act_60 rfl (lv_at hl 0 rfl) ?_
        refine lv_aload_n hx hb dX12_act_61 rfl (lv_at hl 0 rfl) ?_
        refine va_get (D := D) hx hb hts inlX12 hown hK hP 55 (jc_55 cI cL ad σ522 τ) rfl 56 (by decide) (hts _ kw_49_8) (fun _ h9 => h9) rfl dX12_act_62 ?_
        have m524 : σ522 55 56 = 6 := ((jkp 56 eσ522 (by decide)).trans (jsp eσ521))
        refine jtopr m524 ?_
        refine lv_iload_n hx hb dX12_act_65 rfl (lv_at hl 3 rfl) ?_
        have m525 : σ522 55 55 = 0 := ((jkp 55 eσ522 (by decide)).trans ((jkp 55 eσ521 (by decide)).trans (jsp eσ5)))
        have z526 : (σ522 55 56).toInt = 6 := ((congrArg Int32.toInt (show σ522 55 56 = 6 from m524)).trans jz_6)
        refine jcallV (As := [.int 6, .int a3]) (rest := []) ⟨hx, hb, hml, hown, hts⟩ hK hP hA hS hZ (c_X12_putsAs_6_6_0 l D cI cL ad zz hJ σ522 τ a3 (A3) t3 m525 (by omega)) cw_RX12_382 (jc_55 cI cL ad σ522 τ) rfl ⟨Nat.le_of_ble_eq_true rfl, Nat.le_of_ble_eq_true rfl⟩ rfl rfl rfl hl.1 rfl (Nat.le_of_ble_eq_true rfl) dX12_act_66 ⟨Nat.zero_le _, Nat.zero_le _⟩ (fun r528 σ527 τ527 H locs h527 hP hS => ?_)
        obtain ⟨rfl, f529, f530, f531, m532, m533, h527⟩ := h527
        have h534 := h527
        obtain ⟨q536, k535⟩ := h534
        have q536 := q536.symm
        subst q536
        have z537 : (σ527 55 55).toInt = 1 := ((congrArg Int32.toInt (show σ527 55 55 = 1 from m532)).trans jz_1)
        exact hret (a3 + (σ522 55 57)) σ527 τ _ _ _ _ rfl ⟨rfl, (fun i hi => ((f529 i hi).trans ((jnp i eσ522 (imp_345 i hi)).trans ((jnp i eσ521 (imp_345 i hi)).trans (jnp i eσ5 (imp_345 i hi)))))), (fun i hi => ((f530 i (imp_363 i hi)).trans ((jkp i eσ522 (imp_364 i hi)).trans ((jkp i eσ521 (imp_365 i hi)).trans (jkp i eσ5 (imp_366 i hi)))))), Or.inr (⟨trivial, (by omega), (by omega), (by omega), ⟨(by rw [show σ522 55 57 = a1 from (jsp eσ522), show (σ 70 a1.toNatClampNeg).toInt = 6 by omega, show A2 = 0 by omega]; rfl), (by rw [show (σ 70 a1.toNatClampNeg).toInt = 6 by omega, show A2 = 0 by omega]; exact ⟨(by rw [show σ527 55 55 = 1 from m532]; decide), (show σ527 85 0 = 1 from m533), trivial⟩)⟩⟩)⟩ hP hS dX12_act_69
      have kc523 := jne c523 t2 jz_0
      by_cases c539 : a2 = 1
      · have kc539 := jeq c539 t2 jz_1
        refine jtopr c539 ?_
        refine lv_tableIn (off := 39) (tgt := 70) hx hb dX12_act_31 (by decide) (by decide) (by decide) (by decide) ?_
        refine lv_aload_n hx hb dX12_act_70 rfl (lv_at hl 0 rfl) ?_
        refine lv_aload_n hx hb dX12_act_71 rfl (lv_at hl 0 rfl) ?_
        refine va_get (D := D) hx hb hts inlX12 hown hK hP 55 (jc_55 cI cL ad σ522 τ) rfl 56 (by decide) (hts _ kw_49_8) (fun _ h9 => h9) rfl dX12_act_72 ?_
        have m540 : σ522 55 56 = 6 := ((jkp 56 eσ522 (by decide)).trans (jsp eσ521))
        refine jtopr m540 ?_
        refine lv_iload_n hx hb dX12_act_75 rfl (lv_at hl 3 rfl) ?_
        have m541 : σ522 55 55 = 0 := ((jkp 55 eσ522 (by decide)).trans ((jkp 55 eσ521 (by decide)).trans (jsp eσ5)))
        have z542 : (σ522 55 56).toInt = 6 := ((congrArg Int32.toInt (show σ522 55 56 = 6 from m540)).trans jz_6)
        refine jcallV (As := [.int 6, .int a3]) (rest := []) ⟨hx, hb, hml, hown, hts⟩ hK hP hA hS hZ (c_X12_holdsAs_6_6_0 l D cI cL ad zz hJ σ522 τ a3 (A3) t3 m541 (by omega)) cw_RX12_388 (jc_55 cI cL ad σ522 τ) rfl ⟨Nat.le_of_ble_eq_true rfl, Nat.le_of_ble_eq_true rfl⟩ rfl rfl rfl hl.1 rfl (Nat.le_of_ble_eq_true rfl) dX12_act_76 ⟨Nat.zero_le _, Nat.zero_le _⟩ (fun r544 σ543 τ543 H locs h543 hP hS => ?_)
        obtain ⟨rfl, f545, f546, f547, m548, m549, m550, m551, m552, h543⟩ := h543
        have h553 := h543
        obtain ⟨q555, k554⟩ := h553
        have q555 := q555.symm
        subst q555
        have z556 : (σ543 55 55).toInt = 4 := ((congrArg Int32.toInt (show σ543 55 55 = 4 from m548)).trans jz_4)
        exact hret (((a3 + (σ522 55 57)) * 2) + (1 ^^^ (σ522 55 57))) σ543 τ _ _ _ _ rfl ⟨rfl, (fun i hi => ((f545 i hi).trans ((jnp i eσ522 (imp_345 i hi)).trans ((jnp i eσ521 (imp_345 i hi)).trans (jnp i eσ5 (imp_345 i hi)))))), (fun i hi => ((f546 i (imp_363 i hi)).trans ((jkp i eσ522 (imp_364 i hi)).trans ((jkp i eσ521 (imp_365 i hi)).trans (jkp i eσ5 (imp_366 i hi)))))), Or.inr (⟨trivial, (by omega), (by omega), (by omega), ⟨(by rw [show σ522 55 57 = a1 from (jsp eσ522), show (σ 70 a1.toNatClampNeg).toInt = 6 by omega, show A2 = 1 by omega]; rfl), (by rw [show (σ 70 a1.toNatClampNeg).toInt = 6 by omega, show A2 = 1 by omega]; exact ⟨(by rw [show σ543 55 55 = 4 from m548]; decide), (show σ543 85 0 = 70 from m549), (show σ543 85 1 = 10 from m550), (show σ543 85 2 = 1 from m551), (show σ543 85 3 = 11 from m552), trivial⟩)⟩⟩)⟩ hP hS dX12_act_79
      have kc539 := jne c539 t2 jz_1
      by_cases c561 : a2 = 2
      · have kc561 := jeq c561 t2 jz_2
        refine jtopr c561 ?_
        refine lv_tableIn (off := 49) (tgt := 80) hx hb dX12_act_31 (by decide) (by decide) (by decide) (by decide) ?_
        refine lv_aload_n hx hb dX12_act_80 rfl (lv_at hl 0 rfl) ?_
        refine lv_aload_n hx hb dX12_act_81 rfl (lv_at hl 0 rfl) ?_
        refine va_get (D := D) hx hb hts inlX12 hown hK hP 55 (jc_55 cI cL ad σ522 τ) rfl 56 (by decide) (hts _ kw_49_8) (fun _ h9 => h9) rfl dX12_act_82 ?_
        have m562 : σ522 55 56 = 6 := ((jkp 56 eσ522 (by decide)).trans (jsp eσ521))
        refine jtopr m562 ?_
        refine lv_iload_n hx hb dX12_act_85 rfl (lv_at hl 3 rfl) ?_
        have m563 : σ522 55 55 = 0 := ((jkp 55 eσ522 (by decide)).trans ((jkp 55 eσ521 (by decide)).trans (jsp eσ5)))
        have z564 : (σ522 55 56).toInt = 6 := ((congrArg Int32.toInt (show σ522 55 56 = 6 from m562)).trans jz_6)
        refine jcallV (As := [.int 6, .int a3]) (rest := []) ⟨hx, hb, hml, hown, hts⟩ hK hP hA hS hZ (c_X12_givesAs_6_6_0 l D cI cL ad zz hJ σ522 τ a3 (A3) t3 m563 (by omega)) cw_RX12_394 (jc_55 cI cL ad σ522 τ) rfl ⟨Nat.le_of_ble_eq_true rfl, Nat.le_of_ble_eq_true rfl⟩ rfl rfl rfl hl.1 rfl (Nat.le_of_ble_eq_true rfl) dX12_act_86 ⟨Nat.zero_le _, Nat.zero_le _⟩ (fun r566 σ565 τ565 H locs h565 hP hS => ?_)
        obtain ⟨rfl, f567, f568, f569, m570, m571, h565⟩ := h565
        have h572 := h565
        obtain ⟨q574, k573⟩ := h572
        have q574 := q574.symm
        subst q574
        have z575 : (σ565 55 55).toInt = 1 := ((congrArg Int32.toInt (show σ565 55 55 = 1 from m570)).trans jz_1)
        exact hret (a3 ^^^ (σ522 55 57)) σ565 τ _ _ _ _ rfl ⟨rfl, (fun i hi => ((f567 i hi).trans ((jnp i eσ522 (imp_345 i hi)).trans ((jnp i eσ521 (imp_345 i hi)).trans (jnp i eσ5 (imp_345 i hi)))))), (fun i hi => ((f568 i (imp_363 i hi)).trans ((jkp i eσ522 (imp_364 i hi)).trans ((jkp i eσ521 (imp_365 i hi)).trans (jkp i eσ5 (imp_366 i hi)))))), Or.inr (⟨trivial, (by omega), (by omega), (by omega), ⟨(by rw [show σ522 55 57 = a1 from (jsp eσ522), show (σ 70 a1.toNatClampNeg).toInt = 6 by omega, show A2 = 2 by omega]; rfl), (by rw [show (σ 70 a1.toNatClampNeg).toInt = 6 by omega, show A2 = 2 by omega]; exact ⟨(by rw [show σ565 55 55 = 1 from m570]; decide), (show σ565 85 0 = 11 from m571), trivial⟩)⟩⟩)⟩ hP hS dX12_act_89
      have kc561 := jne c561 t2 jz_2
      by_cases c577 : a2 = 3
      · have kc577 := jeq c577 t2 jz_3
        refine jtopr c577 ?_
        refine lv_tableIn (off := 59) (tgt := 90) hx hb dX12_act_31 (by decide) (by decide) (by decide) (by decide) ?_
        refine lv_aload_n hx hb dX12_act_90 rfl (lv_at hl 0 rfl) ?_
        refine lv_aload_n hx hb dX12_act_91 rfl (lv_at hl 0 rfl) ?_
        refine va_get (D := D) hx hb hts inlX12 hown hK hP 55 (jc_55 cI cL ad σ522 τ) rfl 56 (by decide) (hts _ kw_49_8) (fun _ h9 => h9) rfl dX12_act_92 ?_
        have m578 : σ522 55 56 = 6 := ((jkp 56 eσ522 (by decide)).trans (jsp eσ521))
        refine jtopr m578 ?_
        refine lv_iload_n hx hb dX12_act_95 rfl (lv_at hl 3 rfl) ?_
        have m579 : σ522 55 55 = 0 := ((jkp 55 eσ522 (by decide)).trans ((jkp 55 eσ521 (by decide)).trans (jsp eσ5)))
        have z580 : (σ522 55 56).toInt = 6 := ((congrArg Int32.toInt (show σ522 55 56 = 6 from m578)).trans jz_6)
        refine jcallV (As := [.int 6, .int a3]) (rest := []) ⟨hx, hb, hml, hown, hts⟩ hK hP hA hS hZ (c_X12_tellsAs_6_6_0 l D cI cL ad zz hJ σ522 τ a3 (A3) t3 m579 (by omega)) cw_RX12_397 (jc_55 cI cL ad σ522 τ) rfl ⟨Nat.le_of_ble_eq_true rfl, Nat.le_of_ble_eq_true rfl⟩ rfl rfl rfl hl.1 rfl (Nat.le_of_ble_eq_true rfl) dX12_act_96 ⟨Nat.zero_le _, Nat.zero_le _⟩ (fun r582 σ581 τ581 H locs h581 hP hS => ?_)
        obtain ⟨rfl, f583, f584, f585, m586, m587, m588, m589, m590, m591, m592, h581⟩ := h581
        have h593 := h581
        obtain ⟨q595, k594⟩ := h593
        have q595 := q595.symm
        subst q595
        have z596 : (σ581 55 55).toInt = 6 := ((congrArg Int32.toInt (show σ581 55 55 = 6 from m586)).trans jz_6)
        exact hret ((((a3 + (σ522 55 57)) * 2) + (1 ^^^ (σ522 55 57))) - (1 ^^^ (σ522 55 57))) σ581 τ _ _ _ _ rfl ⟨rfl, (fun i hi => ((f583 i hi).trans ((jnp i eσ522 (imp_345 i hi)).trans ((jnp i eσ521 (imp_345 i hi)).trans (jnp i eσ5 (imp_345 i hi)))))), (fun i hi => ((f584 i (imp_363 i hi)).trans ((jkp i eσ522 (imp_364 i hi)).trans ((jkp i eσ521 (imp_365 i hi)).trans (jkp i eσ5 (imp_366 i hi)))))), Or.inr (⟨trivial, (by omega), (by omega), (by omega), ⟨(by rw [show σ522 55 57 = a1 from (jsp eσ522), show (σ 70 a1.toNatClampNeg).toInt = 6 by omega, show A2 = 3 by omega]; rfl), (by rw [show (σ 70 a1.toNatClampNeg).toInt = 6 by omega, show A2 = 3 by omega]; exact ⟨(by rw [show σ581 55 55 = 6 from m586]; decide), (show σ581 85 0 = 2 from m587), (show σ581 85 1 = 70 from m588), (show σ581 85 2 = 10 from m589), (show σ581 85 3 = 1 from m590), (show σ581 85 4 = 11 from m591), (show σ581 85 5 = 11 from m592), trivial⟩)⟩⟩)⟩ hP hS dX12_act_99
      have kc577 := jne c577 t2 jz_3
      refine lv_tableOut (tgt := 100) hx hb dX12_act_31 (by rw [t2]; omega) (by decide) ?_
      refine lv_iconst (v := 0) hx hb dX12_act_100 (by decide) ?_
      have z603 : (σ522 55 55).toInt = 0 := ((congrArg Int32.toInt (show σ522 55 55 = 0 from ((jkp 55 eσ522 (by decide)).trans ((jkp 55 eσ521 (by decide)).trans (jsp eσ5))))).trans jz_0)
      exact hret 0 σ522 τ _ _ _ _ rfl ⟨rfl, (fun i hi => ((jnp i eσ522 (imp_345 i hi)).trans ((jnp i eσ521 (imp_345 i hi)).trans (jnp i eσ5 (imp_345 i hi))))), (fun i hi => ((jkp i eσ522 (imp_364 i hi)).trans ((jkp i eσ521 (imp_365 i hi)).trans (jkp i eσ5 (imp_366 i hi))))), Or.inl ⟨rfl, (by have h9 := jz_0; omega), (by have h9 := jz_0; omega)⟩⟩ hP hS dX12_act_101
    have kc520 := jne c520 (rfl : (σ 70 a1.toNatClampNeg).toInt = (σ 70 a1.toNatClampNeg).toInt) jz_6
    exact absurd (by omega : False) id
  · obtain ⟨q605, k604⟩ := h11
    have q605 := q605.symm
    subst q605
    refine lv_if_ne (tgt := 15) hx hb dX12_act_10 (by decide) (fun c => absurd (by decide) c) (fun _ => ?_)
    refine lv_iconst (v := 0) hx hb dX12_act_13 (by decide) ?_
    have z606 : (σ5 55 55).toInt = 0 := ((congrArg Int32.toInt (show σ5 55 55 = 0 from (jsp eσ5))).trans jz_0)
    exact hret 0 σ5 τ _ _ _ _ rfl ⟨rfl, (fun i hi => (jnp i eσ5 (imp_345 i hi))), (fun i hi => (jkp i eσ5 (imp_366 i hi))), Or.inl ⟨rfl, (by have h9 := jz_0; omega), (by have h9 := jz_0; omega)⟩⟩ hP hS dX12_act_14
