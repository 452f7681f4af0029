set_option maxHeartbeats 4000000 in
set_option maxRecDepth 100000 in
theorem c_X12_begins_1_0 (l : Launch) (D : va_G) (cI cL : ClassId) (ad zz : Nat → Nat) (hJ : jD ad) (σ : Nat → Nat → Int32) (τ : Nat → Nat → Int64) (h55_55 : σ 55 55 = 0) : jMv l yX12_begins cX12_begins 2 none ({ frames := 0, cells := 0, slots := 0, locals := 0 }) D cI cL ad zz [.ref (ad 55), .int 1] σ τ (fun σ' τ' => τ = τ' ∧ (∀ i : Nat, (i < 55 ∨ 55 < i) ∧ (i < 85 ∨ 85 < i) → σ' i = σ i) ∧ (∀ k : Nat, (k < 55 ∨ 55 < k) → σ' 55 k = σ 55 k) ∧ (∀ k : Nat, (k < 0 ∨ 0 < k) → σ' 85 k = σ 85 k) ∧ (σ' 55 55 = 1) ∧ (σ' 85 0 = 1) ∧ True) := by
  refine jMv.of hJ (by decide +kernel) rfl (Nat.le_of_ble_eq_true rfl) ?_
  intro p e s m args below meth c Q ls hC hret hl hP
  obtain ⟨hx, hb, hr, hml, hown, hts, hK, -, hlocks, hZ⟩ := hC
  have hown : s.vm.findClass RX12 = some m.cls := hown
  have hS : va_S (jA ad) s.heap s.heap [] := va_S.rf
  have hA : ∀ q, jA ad q → jA ad q := fun _ h => h
  have hl : lv_has ls 2 [(0, .ref (ad 55)), (1, .int 1)] := hl
  refine lv_aload_n hx hb dX12_begins_0 rfl (lv_at hl 0 rfl) ?_
  refine va_get (D := D) hx hb hts inlX12 hown hK hP 55 (jc_55 cI cL ad σ τ) rfl 55 (by decide) (hts _ kw_49_7) (fun _ h9 => h9) rfl dX12_begins_1 ?_
  refine jtopr h55_55 ?_
  refine lv_bipush (v := 24) hx hb dX12_begins_4 (by decide) ?_
  refine lv_icmp_ge (tgt := 19) hx hb dX12_begins_6 (by decide) (fun c => absurd c (by decide)) (fun _ => ?_)
  refine lv_aload_n hx hb dX12_begins_9 rfl (lv_at hl 0 rfl) ?_
  refine va_get (D := D) hx hb hts inlX12 hown hK hP 55 (jc_55 cI cL ad σ τ) rfl 54 (by decide) (hts _ kw_8_10) (fun _ h9 => h9) rfl dX12_begins_10 ?_
  refine lv_aload_n hx hb dX12_begins_13 rfl (lv_at hl 0 rfl) ?_
  refine va_get (D := D) hx hb hts inlX12 hown hK hP 55 (jc_55 cI cL ad σ τ) rfl 55 (by decide) (hts _ kw_49_7) (fun _ h9 => h9) rfl dX12_begins_14 ?_
  refine jtopr h55_55 ?_
  refine lv_iload_n hx hb dX12_begins_17 rfl (lv_at hl 1 rfl) ?_
  refine jast hx hb hK hP hJ hA hS (jc_85 cI cL ad σ τ) (ja_85 cI cL ad σ τ _ _) (jin jz_0 (by omega) (by omega)) dX12_begins_18 (fun σ1 H locs eσ1 hP hS => ?_)
  have eσ1 : σ1 = jup σ 85 0 1 := eσ1
  refine lv_aload_n hx hb dX12_begins_19 rfl (lv_at hl 0 rfl) ?_
  refine lv_dup hx hb dX12_begins_20 rfl ?_
  refine va_get (D := D) hx hb hts inlX12 hown hK hP 55 (jc_55 cI cL ad σ1 τ) rfl 55 (by decide) (hts _ kw_49_7) (fun _ h9 => h9) rfl dX12_begins_21 ?_
  have m2 : σ1 55 55 = 0 := (by rw [eσ1, jup_n (by decide)]; exact h55_55)
  refine jtopr m2 ?_
  refine lv_iconst (v := 1) hx hb dX12_begins_24 (by decide) ?_
  refine lv_iadd hx hb dX12_begins_25 ?_
  refine jtopr (y := 1) (by decide) ?_
  refine jput (ty := .int) hx hb hts inlX12 tyX12 tyX12_ok nmX12 hown hK hP hJ hA hS (jc_55 cI cL ad σ1 τ) rfl (k := 55) (by decide) (Nat.le_of_ble_eq_true rfl) (jp_55_55 cI cL ad σ1 τ 1) (hts _ kw_49_7) (fun _ h9 => h9) rfl (by decide +kernel) rfl rfl dX12_begins_26 (fun σ3 H locs eσ3 hP hS => ?_)
  have m4 : σ3 55 55 = 1 := (by rw [eσ3]; exact jup_s)
  have m5 : σ3 85 0 = 1 := (by rw [eσ3, jup_n (by decide)]; exact (by rw [eσ1]; exact jup_s))
  exact hret σ3 τ _ _ _ _ ⟨rfl, (fun i hi => by rw [eσ3, jup_n (by omega), eσ1, jup_n (by omega)]), (fun k hk => by rw [eσ3, jup_k (by omega), eσ1, jup_n (by decide)]), (fun k hk => by rw [eσ3, jup_n (by decide), eσ1, jup_k (by omega)]), m4, m5, trivial⟩ hP hS dX12_begins_29
set_option maxHeartbeats 4000000 in
set_option maxRecDepth 100000 in
theorem c_X12_putsAs_0_0_0 (l : Launch) (D : va_G) (cI cL : ClassId) (ad zz : Nat → Nat) (hJ : jD ad) (σ : Nat → Nat → Int32) (τ : Nat → Nat → Int64) (a2 : Int32) (A2 : Int) (t2 : a2.toInt = A2) (h55_55 : σ 55 55 = 0) (hp0 : (σ 55 56).toInt = 0) : jM l yX12_putsAs cX12_putsAs 3 (some .int) ({ frames := 1, cells := 0, slots := 0, locals := 21 }) D cI cL ad zz [.ref (ad 55), .int 0, .int a2] σ τ (fun r σ' τ' => τ = τ' ∧ (∀ i : Nat, (i < 55 ∨ 55 < i) ∧ (i < 85 ∨ 85 < i) → σ' i = σ i) ∧ (∀ k : Nat, (k < 55 ∨ 55 < k) → σ' 55 k = σ 55 k) ∧ (∀ k : Nat, (k < 0 ∨ 0 < k) → σ' 85 k = σ 85 k) ∧ (σ' 55 55 = 1) ∧ (σ' 85 0 = 1) ∧ ((r = (a2 + (σ 55 57)) ∧ True))) := by
  refine jM.of hJ (by decide +kernel) (nt := .int) rfl (Nat.le_of_ble_eq_true rfl) ?_
  intro p e s m args below meth c Q ls hC hret hl hP
  obtain ⟨hx, hb, hr, hml, hown, hts, hK, -, hlocks, hZ⟩ := hC
  have hown : s.vm.findClass RX12 = some m.cls := hown
  have hS : va_S (jA ad) s.heap s.heap [] := va_S.rf
  have hA : ∀ q, jA ad q → jA ad q := fun _ h => h
  have hl : lv_has ls 3 [(0, .ref (ad 55)), (1, .int 0), (2, .int a2)] := hl
  have g2 := jrg t2
  refine lv_iload_n hx hb dX12_putsAs_0 rfl (lv_at hl 1 rfl) ?_
  refine lv_iconst (v := 4) hx hb dX12_putsAs_1 (by decide) ?_
  refine lv_icmp_ne (tgt := 20) hx hb dX12_putsAs_2 (by decide) (fun _ => ?_) (fun c => absurd c (by decide))
  refine lv_iload_n hx hb dX12_putsAs_20 rfl (lv_at hl 1 rfl) ?_
  refine lv_iconst (v := 1) hx hb dX12_putsAs_21 (by decide) ?_
  refine lv_icmp_ne (tgt := 40) hx hb dX12_putsAs_22 (by decide) (fun _ => ?_) (fun c => absurd c (by decide))
  refine lv_aload_n hx hb dX12_putsAs_40 rfl (lv_at hl 0 rfl) ?_
  refine lv_iconst (v := 1) hx hb dX12_putsAs_41 (by decide) ?_
  refine jcallVv (As := [.int 1]) (rest := []) ⟨hx, hb, hml, hown, hts⟩ hK hP hA hS hZ (c_X12_begins_1_0 l D cI cL ad zz hJ σ τ h55_55) cw_RX12_379 (jc_55 cI cL ad σ τ) rfl ⟨Nat.le_of_ble_eq_true rfl, Nat.le_of_ble_eq_true rfl⟩ rfl rfl rfl hl.1 rfl (Nat.le_of_ble_eq_true rfl) dX12_putsAs_42 ⟨Nat.zero_le _, Nat.zero_le _⟩ (fun σ1 τ1 H locs h1 hP hS => ?_)
  obtain ⟨rfl, f3, f4, f5, m6, m7, h1⟩ := h1
  refine lv_iload_n hx hb dX12_putsAs_45 rfl (lv_at hl 2 rfl) ?_
  refine lv_aload_n hx hb dX12_putsAs_46 rfl (lv_at hl 0 rfl) ?_
  refine va_get (D := D) hx hb hts inlX12 hown hK hP 55 (jc_55 cI cL ad σ1 τ) rfl 57 (by decide) (hts _ kw_49_9) (fun _ h9 => h9) rfl dX12_putsAs_47 ?_
  have m8 : σ1 55 57 = (σ 55 57) := (by rw [f4 57 (by omega)])
  refine jtopr m8 ?_
  have g9 := jrg (rfl : (σ 55 57).toInt = (σ 55 57).toInt)
  refine lv_iadd hx hb dX12_putsAs_50 ?_
  refine lv_topi (fun x10 ex10 => ?_)
  have gx10 := jrg (rfl : x10.toInt = x10.toInt)
  exact hret x10 σ1 τ _ _ _ _ rfl ⟨rfl, (fun i hi => by rw [f3 i (by omega)]), (fun k hk => by rw [f4 k (by omega)]), (fun k hk => by rw [f5 k (by omega)]), m6, m7, ⟨(by rw [ex10]), trivial⟩⟩ hP hS dX12_putsAs_51
set_option maxHeartbeats 4000000 in
set_option maxRecDepth 100000 in
theorem c_X12_begins_10_0 (l : Launch) (D : va_G) (cI cL : ClassId) (ad zz : Nat → Nat) (hJ : jD ad) (σ : Nat → Nat → Int32) (τ : Nat → Nat → Int64) (h55_55 : σ 55 55 = 0) : jMv l yX12_begins cX12_begins 2 none ({ frames := 0, cells := 0, slots := 0, locals := 0 }) D cI cL ad zz [.ref (ad 55), .int 10] σ τ (fun σ' τ' => τ = τ' ∧ (∀ i : Nat, (i < 55 ∨ 55 < i) ∧ (i < 85 ∨ 85 < i) → σ' i = σ i) ∧ (∀ k : Nat, (k < 55 ∨ 55 < k) → σ' 55 k = σ 55 k) ∧ (∀ k : Nat, (k < 0 ∨ 0 < k) → σ' 85 k = σ 85 k) ∧ (σ' 55 55 = 1) ∧ (σ' 85 0 = 10) ∧ True) := by
  refine jMv.of hJ (by decide +kernel) rfl (Nat.le_of_ble_eq_true rfl) ?_
  intro p e s m args below meth c Q ls hC hret hl hP
  obtain ⟨hx, hb, hr, hml, hown, hts, hK, -, hlocks, hZ⟩ := hC
  have hown : s.vm.findClass RX12 = some m.cls := hown
  have hS : va_S (jA ad) s.heap s.heap [] := va_S.rf
  have hA : ∀ q, jA ad q → jA ad q := fun _ h => h
  have hl : lv_has ls 2 [(0, .ref (ad 55)), (1, .int 10)] := hl
  refine lv_aload_n hx hb dX12_begins_0 rfl (lv_at hl 0 rfl) ?_
  refine va_get (D := D) hx hb hts inlX12 hown hK hP 55 (jc_55 cI cL ad σ τ) rfl 55 (by decide) (hts _ kw_49_7) (fun _ h9 => h9) rfl dX12_begins_1 ?_
  refine jtopr h55_55 ?_
  refine lv_bipush (v := 24) hx hb dX12_begins_4 (by decide) ?_
  refine lv_icmp_ge (tgt := 19) hx hb dX12_begins_6 (by decide) (fun c => absurd c (by decide)) (fun _ => ?_)
  refine lv_aload_n hx hb dX12_begins_9 rfl (lv_at hl 0 rfl) ?_
  refine va_get (D := D) hx hb hts inlX12 hown hK hP 55 (jc_55 cI cL ad σ τ) rfl 54 (by decide) (hts _ kw_8_10) (fun _ h9 => h9) rfl dX12_begins_10 ?_
  refine lv_aload_n hx hb dX12_begins_13 rfl (lv_at hl 0 rfl) ?_
  refine va_get (D := D) hx hb hts inlX12 hown hK hP 55 (jc_55 cI cL ad σ τ) rfl 55 (by decide) (hts _ kw_49_7) (fun _ h9 => h9) rfl dX12_begins_14 ?_
  refine jtopr h55_55 ?_
  refine lv_iload_n hx hb dX12_begins_17 rfl (lv_at hl 1 rfl) ?_
  refine jast hx hb hK hP hJ hA hS (jc_85 cI cL ad σ τ) (ja_85 cI cL ad σ τ _ _) (jin jz_0 (by omega) (by omega)) dX12_begins_18 (fun σ1 H locs eσ1 hP hS => ?_)
  have eσ1 : σ1 = jup σ 85 0 10 := eσ1
  refine lv_aload_n hx hb dX12_begins_19 rfl (lv_at hl 0 rfl) ?_
  refine lv_dup hx hb dX12_begins_20 rfl ?_
  refine va_get (D := D) hx hb hts inlX12 hown hK hP 55 (jc_55 cI cL ad σ1 τ) rfl 55 (by decide) (hts _ kw_49_7) (fun _ h9 => h9) rfl dX12_begins_21 ?_
  have m2 : σ1 55 55 = 0 := (by rw [eσ1, jup_n (by decide)]; exact h55_55)
  refine jtopr m2 ?_
  refine lv_iconst (v := 1) hx hb dX12_begins_24 (by decide) ?_
  refine lv_iadd hx hb dX12_begins_25 ?_
  refine jtopr (y := 1) (by decide) ?_
  refine jput (ty := .int) hx hb hts inlX12 tyX12 tyX12_ok nmX12 hown hK hP hJ hA hS (jc_55 cI cL ad σ1 τ) rfl (k := 55) (by decide) (Nat.le_of_ble_eq_true rfl) (jp_55_55 cI cL ad σ1 τ 1) (hts _ kw_49_7) (fun _ h9 => h9) rfl (by decide +kernel) rfl rfl dX12_begins_26 (fun σ3 H locs eσ3 hP hS => ?_)
  have m4 : σ3 55 55 = 1 := (by rw [eσ3]; exact jup_s)
  have m5 : σ3 85 0 = 10 := (by rw [eσ3, jup_n (by decide)]; exact (by rw [eσ1]; exact jup_s))
  exact hret σ3 τ _ _ _ _ ⟨rfl, (fun i hi => by rw [eσ3, jup_n (by omega), eσ1, jup_n (by omega)]), (fun k hk => by rw [eσ3, jup_k (by omega), eσ1, jup_n (by decide)]), (fun k hk => by rw [eσ3, jup_n (by decide), eσ1, jup_k (by omega)]), m4, m5, trivial⟩ hP hS dX12_begins_29
set_option maxHeartbeats 4000000 in
set_option maxRecDepth 100000 in
theorem c_X12_begins_1_1 (l : Launch) (D : va_G) (cI cL : ClassId) (ad zz : Nat → Nat) (hJ : jD ad) (σ : Nat → Nat → Int32) (τ : Nat → Nat → Int64) (h55_55 : σ 55 55 = 1) : jMv l yX12_begins cX12_begins 2 none ({ frames := 0, cells := 0, slots := 0, locals := 0 }) D cI cL ad zz [.ref (ad 55), .int 1] σ τ (fun σ' τ' => τ = τ' ∧ (∀ i : Nat, (i < 55 ∨ 55 < i) ∧ (i < 85 ∨ 85 < i) → σ' i = σ i) ∧ (∀ k : Nat, (k < 55 ∨ 55 < k) → σ' 55 k = σ 55 k) ∧ (∀ k : Nat, (k < 1 ∨ 1 < k) → σ' 85 k = σ 85 k) ∧ (σ' 55 55 = 2) ∧ (σ' 85 1 = 1) ∧ True) := by
  refine jMv.of hJ (by decide +kernel) rfl (Nat.le_of_ble_eq_true rfl) ?_
  intro p e s m args below meth c Q ls hC hret hl hP
  obtain ⟨hx, hb, hr, hml, hown, hts, hK, -, hlocks, hZ⟩ := hC
  have hown : s.vm.findClass RX12 = some m.cls := hown
  have hS : va_S (jA ad) s.heap s.heap [] := va_S.rf
  have hA : ∀ q, jA ad q → jA ad q := fun _ h => h
  have hl : lv_has ls 2 [(0, .ref (ad 55)), (1, .int 1)] := hl
  refine lv_aload_n hx hb dX12_begins_0 rfl (lv_at hl 0 rfl) ?_
  refine va_get (D := D) hx hb hts inlX12 hown hK hP 55 (jc_55 cI cL ad σ τ) rfl 55 (by decide) (hts _ kw_49_7) (fun _ h9 => h9) rfl dX12_begins_1 ?_
  refine jtopr h55_55 ?_
  refine lv_bipush (v := 24) hx hb dX12_begins_4 (by decide) ?_
  refine lv_icmp_ge (tgt := 19) hx hb dX12_begins_6 (by decide) (fun c => absurd c (by decide)) (fun _ => ?_)
  refine lv_aload_n hx hb dX12_begins_9 rfl (lv_at hl 0 rfl) ?_
  refine va_get (D := D) hx hb hts inlX12 hown hK hP 55 (jc_55 cI cL ad σ τ) rfl 54 (by decide) (hts _ kw_8_10) (fun _ h9 => h9) rfl dX12_begins_10 ?_
  refine lv_aload_n hx hb dX12_begins_13 rfl (lv_at hl 0 rfl) ?_
  refine va_get (D := D) hx hb hts inlX12 hown hK hP 55 (jc_55 cI cL ad σ τ) rfl 55 (by decide) (hts _ kw_49_7) (fun _ h9 => h9) rfl dX12_begins_14 ?_
  refine jtopr h55_55 ?_
  refine lv_iload_n hx hb dX12_begins_17 rfl (lv_at hl 1 rfl) ?_
  refine jast hx hb hK hP hJ hA hS (jc_85 cI cL ad σ τ) (ja_85 cI cL ad σ τ _ _) (jin jz_1 (by omega) (by omega)) dX12_begins_18 (fun σ1 H locs eσ1 hP hS => ?_)
  have eσ1 : σ1 = jup σ 85 1 1 := eσ1
  refine lv_aload_n hx hb dX12_begins_19 rfl (lv_at hl 0 rfl) ?_
  refine lv_dup hx hb dX12_begins_20 rfl ?_
  refine va_get (D := D) hx hb hts inlX12 hown hK hP 55 (jc_55 cI cL ad σ1 τ) rfl 55 (by decide) (hts _ kw_49_7) (fun _ h9 => h9) rfl dX12_begins_21 ?_
  have m2 : σ1 55 55 = 1 := (by rw [eσ1, jup_n (by decide)]; exact h55_55)
  refine jtopr m2 ?_
  refine lv_iconst (v := 1) hx hb dX12_begins_24 (by decide) ?_
  refine lv_iadd hx hb dX12_begins_25 ?_
  refine jtopr (y := 2) (by decide) ?_
  refine jput (ty := .int) hx hb hts inlX12 tyX12 tyX12_ok nmX12 hown hK hP hJ hA hS (jc_55 cI cL ad σ1 τ) rfl (k := 55) (by decide) (Nat.le_of_ble_eq_true rfl) (jp_55_55 cI cL ad σ1 τ 2) (hts _ kw_49_7) (fun _ h9 => h9) rfl (by decide +kernel) rfl rfl dX12_begins_26 (fun σ3 H locs eσ3 hP hS => ?_)
  have m4 : σ3 55 55 = 2 := (by rw [eσ3]; exact jup_s)
  have m5 : σ3 85 1 = 1 := (by rw [eσ3, jup_n (by decide)]; exact (by rw [eσ1]; exact jup_s))
  exact hret σ3 τ _ _ _ _ ⟨rfl, (fun i hi => by rw [eσ3, jup_n (by omega), eσ1, jup_n (by omega)]), (fun k hk => by rw [eσ3, jup_k (by omega), eσ1, jup_n (by decide)]), (fun k hk => by rw [eσ3, jup_n (by decide), eσ1, jup_k (by omega)]), m4, m5, trivial⟩ hP hS dX12_begins_29
set_option maxHeartbeats 4000000 in
set_option maxRecDepth 100000 in
theorem c_X12_putsAs_0_0_1 (l : Launch) (D : va_G) (cI cL : ClassId) (ad zz : Nat → Nat) (hJ : jD ad) (σ : Nat → Nat → Int32) (τ : Nat → Nat → Int64) (a2 : Int32) (A2 : Int) (t2 : a2.toInt = A2) (h55_55 : σ 55 55 = 1) (hp0 : (σ 55 56).toInt = 0) : jM l yX12_putsAs cX12_putsAs 3 (some .int) ({ frames := 1, cells := 0, slots := 0, locals := 21 }) D cI cL ad zz [.ref (ad 55), .int 0, .int a2] σ τ (fun r σ' τ' => τ = τ' ∧ (∀ i : Nat, (i < 55 ∨ 55 < i) ∧ (i < 85 ∨ 85 < i) → σ' i = σ i) ∧ (∀ k : Nat, (k < 55 ∨ 55 < k) → σ' 55 k = σ 55 k) ∧ (∀ k : Nat, (k < 1 ∨ 1 < k) → σ' 85 k = σ 85 k) ∧ (σ' 55 55 = 2) ∧ (σ' 85 1 = 1) ∧ ((r = (a2 + (σ 55 57)) ∧ True))) := by
  refine jM.of hJ (by decide +kernel) (nt := .int) rfl (Nat.le_of_ble_eq_true rfl) ?_
  intro p e s m args below meth c Q ls hC hret hl hP
  obtain ⟨hx, hb, hr, hml, hown, hts, hK, -, hlocks, hZ⟩ := hC
  have hown : s.vm.findClass RX12 = some m.cls := hown
  have hS : va_S (jA ad) s.heap s.heap [] := va_S.rf
  have hA : ∀ q, jA ad q → jA ad q := fun _ h => h
  have hl : lv_has ls 3 [(0, .ref (ad 55)), (1, .int 0), (2, .int a2)] := hl
  have g2 := jrg t2
  refine lv_iload_n hx hb dX12_putsAs_0 rfl (lv_at hl 1 rfl) ?_
  refine lv_iconst (v := 4) hx hb dX12_putsAs_1 (by decide) ?_
  refine lv_icmp_ne (tgt := 20) hx hb dX12_putsAs_2 (by decide) (fun _ => ?_) (fun c => absurd c (by decide))
  refine lv_iload_n hx hb dX12_putsAs_20 rfl (lv_at hl 1 rfl) ?_
  refine lv_iconst (v := 1) hx hb dX12_putsAs_21 (by decide) ?_
  refine lv_icmp_ne (tgt := 40) hx hb dX12_putsAs_22 (by decide) (fun _ => ?_) (fun c => absurd c (by decide))
  refine lv_aload_n hx hb dX12_putsAs_40 rfl (lv_at hl 0 rfl) ?_
  refine lv_iconst (v := 1) hx hb dX12_putsAs_41 (by decide) ?_
  refine jcallVv (As := [.int 1]) (rest := []) ⟨hx, hb, hml, hown, hts⟩ hK hP hA hS hZ (c_X12_begins_1_1 l D cI cL ad zz hJ σ τ h55_55) cw_RX12_379 (jc_55 cI cL ad σ τ) rfl ⟨Nat.le_of_ble_eq_true rfl, Nat.le_of_ble_eq_true rfl⟩ rfl rfl rfl hl.1 rfl (Nat.le_of_ble_eq_true rfl) dX12_putsAs_42 ⟨Nat.zero_le _, Nat.zero_le _⟩ (fun σ1 τ1 H locs h1 hP hS => ?_)
  obtain ⟨rfl, f3, f4, f5, m6, m7, h1⟩ := h1
  refine lv_iload_n hx hb dX12_putsAs_45 rfl (lv_at hl 2 rfl) ?_
  refine lv_aload_n hx hb dX12_putsAs_46 rfl (lv_at hl 0 rfl) ?_
  refine va_get (D := D) hx hb hts inlX12 hown hK hP 55 (jc_55 cI cL ad σ1 τ) rfl 57 (by decide) (hts _ kw_49_9) (fun _ h9 => h9) rfl dX12_putsAs_47 ?_
  have m8 : σ1 55 57 = (σ 55 57) := (by rw [f4 57 (by omega)])
  refine jtopr m8 ?_
  have g9 := jrg (rfl : (σ 55 57).toInt = (σ 55 57).toInt)
  refine lv_iadd hx hb dX12_putsAs_50 ?_
  refine lv_topi (fun x10 ex10 => ?_)
  have gx10 := jrg (rfl : x10.toInt = x10.toInt)
  exact hret x10 σ1 τ _ _ _ _ rfl ⟨rfl, (fun i hi => by rw [f3 i (by omega)]), (fun k hk => by rw [f4 k (by omega)]), (fun k hk => by rw [f5 k (by omega)]), m6, m7, ⟨(by rw [ex10]), trivial⟩⟩ hP hS dX12_putsAs_51
set_option maxHeartbeats 4000000 in
set_option maxRecDepth 100000 in
theorem c_X12_holdsAs_0_0_0 (l : Launch) (D : va_G) (cI cL : ClassId) (ad zz : Nat → Nat) (hJ : jD ad) (σ : Nat → Nat → Int32) (τ : Nat → Nat → Int64) (a2 : Int32) (A2 : Int) (t2 : a2.toInt = A2) (h55_55 : σ 55 55 = 0) (hp0 : (σ 55 56).toInt = 0) : jM l yX12_holdsAs cX12_holdsAs 4 (some .int) ({ frames := 2, cells := 0, slots := 0, locals := 43 }) D cI cL ad zz [.ref (ad 55), .int 0, .int a2] σ τ (fun r σ' τ' => τ = τ' ∧ (∀ i : Nat, (i < 55 ∨ 55 < i) ∧ (i < 85 ∨ 85 < i) → σ' i = σ i) ∧ (∀ k : Nat, (k < 55 ∨ 55 < k) → σ' 55 k = σ 55 k) ∧ (∀ k : Nat, (k < 0 ∨ 0 < k) ∧ (k < 1 ∨ 1 < k) → σ' 85 k = σ 85 k) ∧ (σ' 55 55 = 2) ∧ (σ' 85 0 = 10) ∧ (σ' 85 1 = 1) ∧ ((r = ((a2 + (σ 55 57)) * 2) ∧ True))) := by
  refine jM.of hJ (by decide +kernel) (nt := .int) rfl (Nat.le_of_ble_eq_true rfl) ?_
  intro p e s m args below meth c Q ls hC hret hl hP
  obtain ⟨hx, hb, hr, hml, hown, hts, hK, -, hlocks, hZ⟩ := hC
  have hown : s.vm.findClass RX12 = some m.cls := hown
  have hS : va_S (jA ad) s.heap s.heap [] := va_S.rf
  have hA : ∀ q, jA ad q → jA ad q := fun _ h => h
  have hl : lv_has ls 4 [(0, .ref (ad 55)), (1, .int 0), (2, .int a2)] := hl
  have g2 := jrg t2
  refine lv_iload_n hx hb dX12_holdsAs_0 rfl (lv_at hl 1 rfl) ?_
  refine lv_iconst (v := 3) hx hb dX12_holdsAs_1 (by decide) ?_
  refine lv_icmp_eq (tgt := 10) hx hb dX12_holdsAs_2 (by decide) (fun c => absurd c (by decide)) (fun _ => ?_)
  refine lv_iload_n hx hb dX12_holdsAs_5 rfl (lv_at hl 1 rfl) ?_
  refine lv_iconst (v := 5) hx hb dX12_holdsAs_6 (by decide) ?_
  refine lv_icmp_ne (tgt := 24) hx hb dX12_holdsAs_7 (by decide) (fun _ => ?_) (fun c => absurd c (by decide))
  refine lv_iload_n hx hb dX12_holdsAs_24 rfl (lv_at hl 1 rfl) ?_
  refine lv_bipush (v := 6) hx hb dX12_holdsAs_25 (by decide) ?_
  refine lv_icmp_ne (tgt := 55) hx hb dX12_holdsAs_27 (by decide) (fun _ => ?_) (fun c => absurd c (by decide))
  refine lv_aload_n hx hb dX12_holdsAs_55 rfl (lv_at hl 0 rfl) ?_
  refine lv_bipush (v := 10) hx hb dX12_holdsAs_56 (by decide) ?_
  refine jcallVv (As := [.int 10]) (rest := []) ⟨hx, hb, hml, hown, hts⟩ hK hP hA hS hZ (c_X12_begins_10_0 l D cI cL ad zz hJ σ τ h55_55) cw_RX12_379 (jc_55 cI cL ad σ τ) rfl ⟨Nat.le_of_ble_eq_true rfl, Nat.le_of_ble_eq_true rfl⟩ rfl rfl rfl hl.1 rfl (Nat.le_of_ble_eq_true rfl) dX12_holdsAs_58 ⟨Nat.zero_le _, Nat.zero_le _⟩ (fun σ1 τ1 H locs h1 hP hS => ?_)
  obtain ⟨rfl, f3, f4, f5, m6, m7, h1⟩ := h1
  refine lv_aload_n hx hb dX12_holdsAs_61 rfl (lv_at hl 0 rfl) ?_
  refine lv_aload_n hx hb dX12_holdsAs_62 rfl (lv_at hl 0 rfl) ?_
  refine va_get (D := D) hx hb hts inlX12 hown hK hP 55 (jc_55 cI cL ad σ1 τ) rfl 56 (by decide) (hts _ kw_49_8) (fun _ h9 => h9) rfl dX12_holdsAs_63 ?_
  have m8 : σ1 55 56 = (σ 55 56) := (by rw [f4 56 (by omega)])
  refine jtopr m8 ?_
  refine jtopr (jsame (rfl : (σ 55 56).toInt = (σ 55 56).toInt) jz_0 (by omega)) ?_
  refine lv_iload_n hx hb dX12_holdsAs_66 rfl (lv_at hl 2 rfl) ?_
  have z9 : (σ1 55 56).toInt = (σ 55 56).toInt := by rw [(show σ1 55 56 = (σ 55 56) from m8)]
  refine jcallV (As := [.int 0, .int a2]) (rest := []) ⟨hx, hb, hml, hown, hts⟩ hK hP hA hS hZ (c_X12_putsAs_0_0_1 l D cI cL ad zz hJ σ1 τ a2 (A2) t2 m6 (by omega)) cw_RX12_382 (jc_55 cI cL ad σ1 τ) rfl ⟨Nat.le_of_ble_eq_true rfl, Nat.le_of_ble_eq_true rfl⟩ rfl rfl rfl hl.1 rfl (Nat.le_of_ble_eq_true rfl) dX12_holdsAs_67 ⟨Nat.zero_le _, Nat.zero_le _⟩ (fun r11 σ10 τ10 H locs h10 hP hS => ?_)
  obtain ⟨rfl, f12, f13, f14, m15, m16, h10⟩ := h10
  have h17 := h10
  obtain ⟨q19, k18⟩ := h17
  have q19 := q19.symm
  subst q19
  refine lv_iconst (v := 2) hx hb dX12_holdsAs_70 (by decide) ?_
  have g20 := jrg (rfl : (a2 + (σ1 55 57)).toInt = (a2 + (σ1 55 57)).toInt)
  refine lv_imul hx hb dX12_holdsAs_71 ?_
  refine lv_topi (fun x21 ex21 => ?_)
  have gx21 := jrg (rfl : x21.toInt = x21.toInt)
  have m22 : σ10 85 0 = 10 := (by rw [f14 0 (by omega)]; exact m7)
  exact hret x21 σ10 τ _ _ _ _ rfl ⟨rfl, (fun i hi => by rw [f12 i (by omega), f3 i (by omega)]), (fun k hk => by rw [f13 k (by omega), f4 k (by omega)]), (fun k hk => by rw [f14 k (by omega), f5 k (by omega)]), m15, m22, m16, ⟨(by rw [ex21, (show σ1 55 57 = σ 55 57 from (by rw [f4 57 (by omega)]))]), trivial⟩⟩ hP hS dX12_holdsAs_72
set_option maxHeartbeats 4000000 in
set_option maxRecDepth 100000 in
theorem c_X12_begins_11_0 (l : Launch) (D : va_G) (cI cL : ClassId) (ad zz : Nat → Nat) (hJ : jD ad) (σ : Nat → Nat → Int32) (τ : Nat → Nat → Int64) (h55_55 : σ 55 55 = 0) : jMv l yX12_begins cX12_begins 2 none ({ frames := 0, cells := 0, slots := 0, locals := 0 }) D cI cL ad zz [.ref (ad 55), .int 11] σ τ (fun σ' τ' => τ = τ' ∧ (∀ i : Nat, (i < 55 ∨ 55 < i) ∧ (i < 85 ∨ 85 < i) → σ' i = σ i) ∧ (∀ k : Nat, (k < 55 ∨ 55 < k) → σ' 55 k = σ 55 k) ∧ (∀ k : Nat, (k < 0 ∨ 0 < k) → σ' 85 k = σ 85 k) ∧ (σ' 55 55 = 1) ∧ (σ' 85 0 = 11) ∧ True) := by
  refine jMv.of hJ (by decide +kernel) rfl (Nat.le_of_ble_eq_true rfl) ?_
  intro p e s m args below meth c Q ls hC hret hl hP
  obtain ⟨hx, hb, hr, hml, hown, hts, hK, -, hlocks, hZ⟩ := hC
  have hown : s.vm.findClass RX12 = some m.cls := hown
  have hS : va_S (jA ad) s.heap s.heap [] := va_S.rf
  have hA : ∀ q, jA ad q → jA ad q := fun _ h => h
  have hl : lv_has ls 2 [(0, .ref (ad 55)), (1, .int 11)] := hl
  refine lv_aload_n hx hb dX12_begins_0 rfl (lv_at hl 0 rfl) ?_
  refine va_get (D := D) hx hb hts inlX12 hown hK hP 55 (jc_55 cI cL ad σ τ) rfl 55 (by decide) (hts _ kw_49_7) (fun _ h9 => h9) rfl dX12_begins_1 ?_
  refine jtopr h55_55 ?_
  refine lv_bipush (v := 24) hx hb dX12_begins_4 (by decide) ?_
  refine lv_icmp_ge (tgt := 19) hx hb dX12_begins_6 (by decide) (fun c => absurd c (by decide)) (fun _ => ?_)
  refine lv_aload_n hx hb dX12_begins_9 rfl (lv_at hl 0 rfl) ?_
  refine va_get (D := D) hx hb hts inlX12 hown hK hP 55 (jc_55 cI cL ad σ τ) rfl 54 (by decide) (hts _ kw_8_10) (fun _ h9 => h9) rfl dX12_begins_10 ?_
  refine lv_aload_n hx hb dX12_begins_13 rfl (lv_at hl 0 rfl) ?_
  refine va_get (D := D) hx hb hts inlX12 hown hK hP 55 (jc_55 cI cL ad σ τ) rfl 55 (by decide) (hts _ kw_49_7) (fun _ h9 => h9) rfl dX12_begins_14 ?_
  refine jtopr h55_55 ?_
  refine lv_iload_n hx hb dX12_begins_17 rfl (lv_at hl 1 rfl) ?_
  refine jast hx hb hK hP hJ hA hS (jc_85 cI cL ad σ τ) (ja_85 cI cL ad σ τ _ _) (jin jz_0 (by omega) (by omega)) dX12_begins_18 (fun σ1 H locs eσ1 hP hS => ?_)
  have eσ1 : σ1 = jup σ 85 0 11 := eσ1
  refine lv_aload_n hx hb dX12_begins_19 rfl (lv_at hl 0 rfl) ?_
  refine lv_dup hx hb dX12_begins_20 rfl ?_
  refine va_get (D := D) hx hb hts inlX12 hown hK hP 55 (jc_55 cI cL ad σ1 τ) rfl 55 (by decide) (hts _ kw_49_7) (fun _ h9 => h9) rfl dX12_begins_21 ?_
  have m2 : σ1 55 55 = 0 := (by rw [eσ1, jup_n (by decide)]; exact h55_55)
  refine jtopr m2 ?_
  refine lv_iconst (v := 1) hx hb dX12_begins_24 (by decide) ?_
  refine lv_iadd hx hb dX12_begins_25 ?_
  refine jtopr (y := 1) (by decide) ?_
  refine jput (ty := .int) hx hb hts inlX12 tyX12 tyX12_ok nmX12 hown hK hP hJ hA hS (jc_55 cI cL ad σ1 τ) rfl (k := 55) (by decide) (Nat.le_of_ble_eq_true rfl) (jp_55_55 cI cL ad σ1 τ 1) (hts _ kw_49_7) (fun _ h9 => h9) rfl (by decide +kernel) rfl rfl dX12_begins_26 (fun σ3 H locs eσ3 hP hS => ?_)
  have m4 : σ3 55 55 = 1 := (by rw [eσ3]; exact jup_s)
  have m5 : σ3 85 0 = 11 := (by rw [eσ3, jup_n (by decide)]; exact (by rw [eσ1]; exact jup_s))
  exact hret σ3 τ _ _ _ _ ⟨rfl, (fun i hi => by rw [eσ3, jup_n (by omega), eσ1, jup_n (by omega)]), (fun k hk => by rw [eσ3, jup_k (by omega), eσ1, jup_n (by decide)]), (fun k hk => by rw [eσ3, jup_n (by decide), eσ1, jup_k (by omega)]), m4, m5, trivial⟩ hP hS dX12_begins_29
set_option maxHeartbeats 4000000 in
set_option maxRecDepth 100000 in
theorem c_X12_givesAs_0_0_0 (l : Launch) (D : va_G) (cI cL : ClassId) (ad zz : Nat → Nat) (hJ : jD ad) (σ : Nat → Nat → Int32) (τ : Nat → Nat → Int64) (a2 : Int32) (A2 : Int) (t2 : a2.toInt = A2) (h55_55 : σ 55 55 = 0) (hp0 : (σ 55 56).toInt = 0) : jM l yX12_givesAs cX12_givesAs 4 (some .int) ({ frames := 1, cells := 0, slots := 0, locals := 21 }) D cI cL ad zz [.ref (ad 55), .int 0, .int a2] σ τ (fun r σ' τ' => τ = τ' ∧ (∀ i : Nat, (i < 55 ∨ 55 < i) ∧ (i < 85 ∨ 85 < i) → σ' i = σ i) ∧ (∀ k : Nat, (k < 55 ∨ 55 < k) → σ' 55 k = σ 55 k) ∧ (∀ k : Nat, (k < 0 ∨ 0 < k) → σ' 85 k = σ 85 k) ∧ (σ' 55 55 = 1) ∧ (σ' 85 0 = 11) ∧ ((r = (a2 ^^^ (σ 55 57)) ∧ True))) := by
  refine jM.of hJ (by decide +kernel) (nt := .int) rfl (Nat.le_of_ble_eq_true rfl) ?_
  intro p e s m args below meth c Q ls hC hret hl hP
  obtain ⟨hx, hb, hr, hml, hown, hts, hK, -, hlocks, hZ⟩ := hC
  have hown : s.vm.findClass RX12 = some m.cls := hown
  have hS : va_S (jA ad) s.heap s.heap [] := va_S.rf
  have hA : ∀ q, jA ad q → jA ad q := fun _ h => h
  have hl : lv_has ls 4 [(0, .ref (ad 55)), (1, .int 0), (2, .int a2)] := hl
  have g2 := jrg t2
  refine lv_iload_n hx hb dX12_givesAs_0 rfl (lv_at hl 1 rfl) ?_
  refine lv_iconst (v := 5) hx hb dX12_givesAs_1 (by decide) ?_
  refine lv_icmp_ne (tgt := 30) hx hb dX12_givesAs_2 (by decide) (fun _ => ?_) (fun c => absurd c (by decide))
  refine lv_iload_n hx hb dX12_givesAs_30 rfl (lv_at hl 1 rfl) ?_
  refine lv_iconst (v := 2) hx hb dX12_givesAs_31 (by decide) ?_
  refine lv_icmp_eq (tgt := 40) hx hb dX12_givesAs_32 (by decide) (fun c => absurd c (by decide)) (fun _ => ?_)
  refine lv_iload_n hx hb dX12_givesAs_35 rfl (lv_at hl 1 rfl) ?_
  refine lv_iconst (v := 3) hx hb dX12_givesAs_36 (by decide) ?_
  refine lv_icmp_ne (tgt := 55) hx hb dX12_givesAs_37 (by decide) (fun _ => ?_) (fun c => absurd c (by decide))
  refine lv_aload_n hx hb dX12_givesAs_55 rfl (lv_at hl 0 rfl) ?_
  refine lv_bipush (v := 11) hx hb dX12_givesAs_56 (by decide) ?_
  refine jcallVv (As := [.int 11]) (rest := []) ⟨hx, hb, hml, hown, hts⟩ hK hP hA hS hZ (c_X12_begins_11_0 l D cI cL ad zz hJ σ τ h55_55) cw_RX12_379 (jc_55 cI cL ad σ τ) rfl ⟨Nat.le_of_ble_eq_true rfl, Nat.le_of_ble_eq_true rfl⟩ rfl rfl rfl hl.1 rfl (Nat.le_of_ble_eq_true rfl) dX12_givesAs_58 ⟨Nat.zero_le _, Nat.zero_le _⟩ (fun σ1 τ1 H locs h1 hP hS => ?_)
  obtain ⟨rfl, f3, f4, f5, m6, m7, h1⟩ := h1
  refine lv_iload_n hx hb dX12_givesAs_61 rfl (lv_at hl 2 rfl) ?_
  refine lv_aload_n hx hb dX12_givesAs_62 rfl (lv_at hl 0 rfl) ?_
  refine va_get (D := D) hx hb hts inlX12 hown hK hP 55 (jc_55 cI cL ad σ1 τ) rfl 57 (by decide) (hts _ kw_49_9) (fun _ h9 => h9) rfl dX12_givesAs_63 ?_
  have m8 : σ1 55 57 = (σ 55 57) := (by rw [f4 57 (by omega)])
  refine jtopr m8 ?_
  refine lv_ixor hx hb dX12_givesAs_66 ?_
  refine lv_topi (fun x9 ex9 => ?_)
  have gx9 := jrg (rfl : x9.toInt = x9.toInt)
  exact hret x9 σ1 τ _ _ _ _ rfl ⟨rfl, (fun i hi => by rw [f3 i (by omega)]), (fun k hk => by rw [f4 k (by omega)]), (fun k hk => by rw [f5 k (by omega)]), m6, m7, ⟨(by rw [ex9]), trivial⟩⟩ hP hS dX12_givesAs_67
set_option maxHeartbeats 4000000 in
set_option maxRecDepth 100000 in
theorem c_X12_begins_2_0 (l : Launch) (D : va_G) (cI cL : ClassId) (ad zz : Nat → Nat) (hJ : jD ad) (σ : Nat → Nat → Int32) (τ : Nat → Nat → Int64) (h55_55 : σ 55 55 = 0) : jMv l yX12_begins cX12_begins 2 none ({ frames := 0, cells := 0, slots := 0, locals := 0 }) D cI cL ad zz [.ref (ad 55), .int 2] σ τ (fun σ' τ' => τ = τ' ∧ (∀ i : Nat, (i < 55 ∨ 55 < i) ∧ (i < 85 ∨ 85 < i) → σ' i = σ i) ∧ (∀ k : Nat, (k < 55 ∨ 55 < k) → σ' 55 k = σ 55 k) ∧ (∀ k : Nat, (k < 0 ∨ 0 < k) → σ' 85 k = σ 85 k) ∧ (σ' 55 55 = 1) ∧ (σ' 85 0 = 2) ∧ True) := by
  refine jMv.of hJ (by decide +kernel) rfl (Nat.le_of_ble_eq_true rfl) ?_
  intro p e s m args below meth c Q ls hC hret hl hP
  obtain ⟨hx, hb, hr, hml, hown, hts, hK, -, hlocks, hZ⟩ := hC
  have hown : s.vm.findClass RX12 = some m.cls := hown
  have hS : va_S (jA ad) s.heap s.heap [] := va_S.rf
  have hA : ∀ q, jA ad q → jA ad q := fun _ h => h
  have hl : lv_has ls 2 [(0, .ref (ad 55)), (1, .int 2)] := hl
  refine lv_aload_n hx hb dX12_begins_0 rfl (lv_at hl 0 rfl) ?_
  refine va_get (D := D) hx hb hts inlX12 hown hK hP 55 (jc_55 cI cL ad σ τ) rfl 55 (by decide) (hts _ kw_49_7) (fun _ h9 => h9) rfl dX12_begins_1 ?_
  refine jtopr h55_55 ?_
  refine lv_bipush (v := 24) hx hb dX12_begins_4 (by decide) ?_
  refine lv_icmp_ge (tgt := 19) hx hb dX12_begins_6 (by decide) (fun c => absurd c (by decide)) (fun _ => ?_)
  refine lv_aload_n hx hb dX12_begins_9 rfl (lv_at hl 0 rfl) ?_
  refine va_get (D := D) hx hb hts inlX12 hown hK hP 55 (jc_55 cI cL ad σ τ) rfl 54 (by decide) (hts _ kw_8_10) (fun _ h9 => h9) rfl dX12_begins_10 ?_
  refine lv_aload_n hx hb dX12_begins_13 rfl (lv_at hl 0 rfl) ?_
  refine va_get (D := D) hx hb hts inlX12 hown hK hP 55 (jc_55 cI cL ad σ τ) rfl 55 (by decide) (hts _ kw_49_7) (fun _ h9 => h9) rfl dX12_begins_14 ?_
  refine jtopr h55_55 ?_
  refine lv_iload_n hx hb dX12_begins_17 rfl (lv_at hl 1 rfl) ?_
  refine jast hx hb hK hP hJ hA hS (jc_85 cI cL ad σ τ) (ja_85 cI cL ad σ τ _ _) (jin jz_0 (by omega) (by omega)) dX12_begins_18 (fun σ1 H locs eσ1 hP hS => ?_)
  have eσ1 : σ1 = jup σ 85 0 2 := eσ1
  refine lv_aload_n hx hb dX12_begins_19 rfl (lv_at hl 0 rfl) ?_
  refine lv_dup hx hb dX12_begins_20 rfl ?_
  refine va_get (D := D) hx hb hts inlX12 hown hK hP 55 (jc_55 cI cL ad σ1 τ) rfl 55 (by decide) (hts _ kw_49_7) (fun _ h9 => h9) rfl dX12_begins_21 ?_
  have m2 : σ1 55 55 = 0 := (by rw [eσ1, jup_n (by decide)]; exact h55_55)
  refine jtopr m2 ?_
  refine lv_iconst (v := 1) hx hb dX12_begins_24 (by decide) ?_
  refine lv_iadd hx hb dX12_begins_25 ?_
  refine jtopr (y := 1) (by decide) ?_
  refine jput (ty := .int) hx hb hts inlX12 tyX12 tyX12_ok nmX12 hown hK hP hJ hA hS (jc_55 cI cL ad σ1 τ) rfl (k := 55) (by decide) (Nat.le_of_ble_eq_true rfl) (jp_55_55 cI cL ad σ1 τ 1) (hts _ kw_49_7) (fun _ h9 => h9) rfl (by decide +kernel) rfl rfl dX12_begins_26 (fun σ3 H locs eσ3 hP hS => ?_)
  have m4 : σ3 55 55 = 1 := (by rw [eσ3]; exact jup_s)
  have m5 : σ3 85 0 = 2 := (by rw [eσ3, jup_n (by decide)]; exact (by rw [eσ1]; exact jup_s))
  exact hret σ3 τ _ _ _ _ ⟨rfl, (fun i hi => by rw [eσ3, jup_n (by omega), eσ1, jup_n (by omega)]), (fun k hk => by rw [eσ3, jup_k (by omega), eσ1, jup_n (by decide)]), (fun k hk => by rw [eσ3, jup_n (by decide), eσ1, jup_k (by omega)]), m4, m5, trivial⟩ hP hS dX12_begins_29
set_option maxHeartbeats 4000000 in
set_option maxRecDepth 100000 in
theorem c_X12_begins_10_1 (l : Launch) (D : va_G) (cI cL : ClassId) (ad zz : Nat → Nat) (hJ : jD ad) (σ : Nat → Nat → Int32) (τ : Nat → Nat → Int64) (h55_55 : σ 55 55 = 1) : jMv l yX12_begins cX12_begins 2 none ({ frames := 0, cells := 0, slots := 0, locals := 0 }) D cI cL ad zz [.ref (ad 55), .int 10] σ τ (fun σ' τ' => τ = τ' ∧ (∀ i : Nat, (i < 55 ∨ 55 < i) ∧ (i < 85 ∨ 85 < i) → σ' i = σ i) ∧ (∀ k : Nat, (k < 55 ∨ 55 < k) → σ' 55 k = σ 55 k) ∧ (∀ k : Nat, (k < 1 ∨ 1 < k) → σ' 85 k = σ 85 k) ∧ (σ' 55 55 = 2) ∧ (σ' 85 1 = 10) ∧ True) := by
  refine jMv.of hJ (by decide +kernel) rfl (Nat.le_of_ble_eq_true rfl) ?_
  intro p e s m args below meth c Q ls hC hret hl hP
  obtain ⟨hx, hb, hr, hml, hown, hts, hK, -, hlocks, hZ⟩ := hC
  have hown : s.vm.findClass RX12 = some m.cls := hown
  have hS : va_S (jA ad) s.heap s.heap [] := va_S.rf
  have hA : ∀ q, jA ad q → jA ad q := fun _ h => h
  have hl : lv_has ls 2 [(0, .ref (ad 55)), (1, .int 10)] := hl
  refine lv_aload_n hx hb dX12_begins_0 rfl (lv_at hl 0 rfl) ?_
  refine va_get (D := D) hx hb hts inlX12 hown hK hP 55 (jc_55 cI cL ad σ τ) rfl 55 (by decide) (hts _ kw_49_7) (fun _ h9 => h9) rfl dX12_begins_1 ?_
  refine jtopr h55_55 ?_
  refine lv_bipush (v := 24) hx hb dX12_begins_4 (by decide) ?_
  refine lv_icmp_ge (tgt := 19) hx hb dX12_begins_6 (by decide) (fun c => absurd c (by decide)) (fun _ => ?_)
  refine lv_aload_n hx hb dX12_begins_9 rfl (lv_at hl 0 rfl) ?_
  refine va_get (D := D) hx hb hts inlX12 hown hK hP 55 (jc_55 cI cL ad σ τ) rfl 54 (by decide) (hts _ kw_8_10) (fun _ h9 => h9) rfl dX12_begins_10 ?_
  refine lv_aload_n hx hb dX12_begins_13 rfl (lv_at hl 0 rfl) ?_
  refine va_get (D := D) hx hb hts inlX12 hown hK hP 55 (jc_55 cI cL ad σ τ) rfl 55 (by decide) (hts _ kw_49_7) (fun _ h9 => h9) rfl dX12_begins_14 ?_
  refine jtopr h55_55 ?_
  refine lv_iload_n hx hb dX12_begins_17 rfl (lv_at hl 1 rfl) ?_
  refine jast hx hb hK hP hJ hA hS (jc_85 cI cL ad σ τ) (ja_85 cI cL ad σ τ _ _) (jin jz_1 (by omega) (by omega)) dX12_begins_18 (fun σ1 H locs eσ1 hP hS => ?_)
  have eσ1 : σ1 = jup σ 85 1 10 := eσ1
  refine lv_aload_n hx hb dX12_begins_19 rfl (lv_at hl 0 rfl) ?_
  refine lv_dup hx hb dX12_begins_20 rfl ?_
  refine va_get (D := D) hx hb hts inlX12 hown hK hP 55 (jc_55 cI cL ad σ1 τ) rfl 55 (by decide) (hts _ kw_49_7) (fun _ h9 => h9) rfl dX12_begins_21 ?_
  have m2 : σ1 55 55 = 1 := (by rw [eσ1, jup_n (by decide)]; exact h55_55)
  refine jtopr m2 ?_
  refine lv_iconst (v := 1) hx hb dX12_begins_24 (by decide) ?_
  refine lv_iadd hx hb dX12_begins_25 ?_
  refine jtopr (y := 2) (by decide) ?_
  refine jput (ty := .int) hx hb hts inlX12 tyX12 tyX12_ok nmX12 hown hK hP hJ hA hS (jc_55 cI cL ad σ1 τ) rfl (k := 55) (by decide) (Nat.le_of_ble_eq_true rfl) (jp_55_55 cI cL ad σ1 τ 2) (hts _ kw_49_7) (fun _ h9 => h9) rfl (by decide +kernel) rfl rfl dX12_begins_26 (fun σ3 H locs eσ3 hP hS => ?_)
  have m4 : σ3 55 55 = 2 := (by rw [eσ3]; exact jup_s)
  have m5 : σ3 85 1 = 10 := (by rw [eσ3, jup_n (by decide)]; exact (by rw [eσ1]; exact jup_s))
  exact hret σ3 τ _ _ _ _ ⟨rfl, (fun i hi => by rw [eσ3, jup_n (by omega), eσ1, jup_n (by omega)]), (fun k hk => by rw [eσ3, jup_k (by omega), eσ1, jup_n (by decide)]), (fun k hk => by rw [eσ3, jup_n (by decide), eσ1, jup_k (by omega)]), m4, m5, trivial⟩ hP hS dX12_begins_29
set_option maxHeartbeats 4000000 in
set_option maxRecDepth 100000 in
theorem c_X12_begins_1_2 (l : Launch) (D : va_G) (cI cL : ClassId) (ad zz : Nat → Nat) (hJ : jD ad) (σ : Nat → Nat → Int32) (τ : Nat → Nat → Int64) (h55_55 : σ 55 55 = 2) : jMv l yX12_begins cX12_begins 2 none ({ frames := 0, cells := 0, slots := 0, locals := 0 }) D cI cL ad zz [.ref (ad 55), .int 1] σ τ (fun σ' τ' => τ = τ' ∧ (∀ i : Nat, (i < 55 ∨ 55 < i) ∧ (i < 85 ∨ 85 < i) → σ' i = σ i) ∧ (∀ k : Nat, (k < 55 ∨ 55 < k) → σ' 55 k = σ 55 k) ∧ (∀ k : Nat, (k < 2 ∨ 2 < k) → σ' 85 k = σ 85 k) ∧ (σ' 55 55 = 3) ∧ (σ' 85 2 = 1) ∧ True) := by
  refine jMv.of hJ (by decide +kernel) rfl (Nat.le_of_ble_eq_true rfl) ?_
  intro p e s m args below meth c Q ls hC hret hl hP
  obtain ⟨hx, hb, hr, hml, hown, hts, hK, -, hlocks, hZ⟩ := hC
  have hown : s.vm.findClass RX12 = some m.cls := hown
  have hS : va_S (jA ad) s.heap s.heap [] := va_S.rf
  have hA : ∀ q, jA ad q → jA ad q := fun _ h => h
  have hl : lv_has ls 2 [(0, .ref (ad 55)), (1, .int 1)] := hl
  refine lv_aload_n hx hb dX12_begins_0 rfl (lv_at hl 0 rfl) ?_
  refine va_get (D := D) hx hb hts inlX12 hown hK hP 55 (jc_55 cI cL ad σ τ) rfl 55 (by decide) (hts _ kw_49_7) (fun _ h9 => h9) rfl dX12_begins_1 ?_
  refine jtopr h55_55 ?_
  refine lv_bipush (v := 24) hx hb dX12_begins_4 (by decide) ?_
  refine lv_icmp_ge (tgt := 19) hx hb dX12_begins_6 (by decide) (fun c => absurd c (by decide)) (fun _ => ?_)
  refine lv_aload_n hx hb dX12_begins_9 rfl (lv_at hl 0 rfl) ?_
  refine va_get (D := D) hx hb hts inlX12 hown hK hP 55 (jc_55 cI cL ad σ τ) rfl 54 (by decide) (hts _ kw_8_10) (fun _ h9 => h9) rfl dX12_begins_10 ?_
  refine lv_aload_n hx hb dX12_begins_13 rfl (lv_at hl 0 rfl) ?_
  refine va_get (D := D) hx hb hts inlX12 hown hK hP 55 (jc_55 cI cL ad σ τ) rfl 55 (by decide) (hts _ kw_49_7) (fun _ h9 => h9) rfl dX12_begins_14 ?_
  refine jtopr h55_55 ?_
  refine lv_iload_n hx hb dX12_begins_17 rfl (lv_at hl 1 rfl) ?_
  refine jast hx hb hK hP hJ hA hS (jc_85 cI cL ad σ τ) (ja_85 cI cL ad σ τ _ _) (jin jz_2 (by omega) (by omega)) dX12_begins_18 (fun σ1 H locs eσ1 hP hS => ?_)
  have eσ1 : σ1 = jup σ 85 2 1 := eσ1
  refine lv_aload_n hx hb dX12_begins_19 rfl (lv_at hl 0 rfl) ?_
  refine lv_dup hx hb dX12_begins_20 rfl ?_
  refine va_get (D := D) hx hb hts inlX12 hown hK hP 55 (jc_55 cI cL ad σ1 τ) rfl 55 (by decide) (hts _ kw_49_7) (fun _ h9 => h9) rfl dX12_begins_21 ?_
  have m2 : σ1 55 55 = 2 := (by rw [eσ1, jup_n (by decide)]; exact h55_55)
  refine jtopr m2 ?_
  refine lv_iconst (v := 1) hx hb dX12_begins_24 (by decide) ?_
  refine lv_iadd hx hb dX12_begins_25 ?_
  refine jtopr (y := 3) (by decide) ?_
  refine jput (ty := .int) hx hb hts inlX12 tyX12 tyX12_ok nmX12 hown hK hP hJ hA hS (jc_55 cI cL ad σ1 τ) rfl (k := 55) (by decide) (Nat.le_of_ble_eq_true rfl) (jp_55_55 cI cL ad σ1 τ 3) (hts _ kw_49_7) (fun _ h9 => h9) rfl (by decide +kernel) rfl rfl dX12_begins_26 (fun σ3 H locs eσ3 hP hS => ?_)
  have m4 : σ3 55 55 = 3 := (by rw [eσ3]; exact jup_s)
  have m5 : σ3 85 2 = 1 := (by rw [eσ3, jup_n (by decide)]; exact (by rw [eσ1]; exact jup_s))
  exact hret σ3 τ _ _ _ _ ⟨rfl, (fun i hi => by rw [eσ3, jup_n (by omega), eσ1, jup_n (by omega)]), (fun k hk => by rw [eσ3, jup_k (by omega), eσ1, jup_n (by decide)]), (fun k hk => by rw [eσ3, jup_n (by decide), eσ1, jup_k (by omega)]), m4, m5, trivial⟩ hP hS dX12_begins_29
set_option maxHeartbeats 4000000 in
set_option maxRecDepth 100000 in
theorem c_X12_putsAs_0_0_2 (l : Launch) (D : va_G) (cI cL : ClassId) (ad zz : Nat → Nat) (hJ : jD ad) (σ : Nat → Nat → Int32) (τ : Nat → Nat → Int64) (a2 : Int32) (A2 : Int) (t2 : a2.toInt = A2) (h55_55 : σ 55 55 = 2) (hp0 : (σ 55 56).toInt = 0) : jM l yX12_putsAs cX12_putsAs 3 (some .int) ({ frames := 1, cells := 0, slots := 0, locals := 21 }) D cI cL ad zz [.ref (ad 55), .int 0, .int a2] σ τ (fun r σ' τ' => τ = τ' ∧ (∀ i : Nat, (i < 55 ∨ 55 < i) ∧ (i < 85 ∨ 85 < i) → σ' i = σ i) ∧ (∀ k : Nat, (k < 55 ∨ 55 < k) → σ' 55 k = σ 55 k) ∧ (∀ k : Nat, (k < 2 ∨ 2 < k) → σ' 85 k = σ 85 k) ∧ (σ' 55 55 = 3) ∧ (σ' 85 2 = 1) ∧ ((r = (a2 + (σ 55 57)) ∧ True))) := by
  refine jM.of hJ (by decide +kernel) (nt := .int) rfl (Nat.le_of_ble_eq_true rfl) ?_
  intro p e s m args below meth c Q ls hC hret hl hP
  obtain ⟨hx, hb, hr, hml, hown, hts, hK, -, hlocks, hZ⟩ := hC
  have hown : s.vm.findClass RX12 = some m.cls := hown
  have hS : va_S (jA ad) s.heap s.heap [] := va_S.rf
  have hA : ∀ q, jA ad q → jA ad q := fun _ h => h
  have hl : lv_has ls 3 [(0, .ref (ad 55)), (1, .int 0), (2, .int a2)] := hl
  have g2 := jrg t2
  refine lv_iload_n hx hb dX12_putsAs_0 rfl (lv_at hl 1 rfl) ?_
  refine lv_iconst (v := 4) hx hb dX12_putsAs_1 (by decide) ?_
  refine lv_icmp_ne (tgt := 20) hx hb dX12_putsAs_2 (by decide) (fun _ => ?_) (fun c => absurd c (by decide))
  refine lv_iload_n hx hb dX12_putsAs_20 rfl (lv_at hl 1 rfl) ?_
  refine lv_iconst (v := 1) hx hb dX12_putsAs_21 (by decide) ?_
  refine lv_icmp_ne (tgt := 40) hx hb dX12_putsAs_22 (by decide) (fun _ => ?_) (fun c => absurd c (by decide))
  refine lv_aload_n hx hb dX12_putsAs_40 rfl (lv_at hl 0 rfl) ?_
  refine lv_iconst (v := 1) hx hb dX12_putsAs_41 (by decide) ?_
  refine jcallVv (As := [.int 1]) (rest := []) ⟨hx, hb, hml, hown, hts⟩ hK hP hA hS hZ (c_X12_begins_1_2 l D cI cL ad zz hJ σ τ h55_55) cw_RX12_379 (jc_55 cI cL ad σ τ) rfl ⟨Nat.le_of_ble_eq_true rfl, Nat.le_of_ble_eq_true rfl⟩ rfl rfl rfl hl.1 rfl (Nat.le_of_ble_eq_true rfl) dX12_putsAs_42 ⟨Nat.zero_le _, Nat.zero_le _⟩ (fun σ1 τ1 H locs h1 hP hS => ?_)
  obtain ⟨rfl, f3, f4, f5, m6, m7, h1⟩ := h1
  refine lv_iload_n hx hb dX12_putsAs_45 rfl (lv_at hl 2 rfl) ?_
  refine lv_aload_n hx hb dX12_putsAs_46 rfl (lv_at hl 0 rfl) ?_
  refine va_get (D := D) hx hb hts inlX12 hown hK hP 55 (jc_55 cI cL ad σ1 τ) rfl 57 (by decide) (hts _ kw_49_9) (fun _ h9 => h9) rfl dX12_putsAs_47 ?_
  have m8 : σ1 55 57 = (σ 55 57) := (by rw [f4 57 (by omega)])
  refine jtopr m8 ?_
  have g9 := jrg (rfl : (σ 55 57).toInt = (σ 55 57).toInt)
  refine lv_iadd hx hb dX12_putsAs_50 ?_
  refine lv_topi (fun x10 ex10 => ?_)
  have gx10 := jrg (rfl : x10.toInt = x10.toInt)
  exact hret x10 σ1 τ _ _ _ _ rfl ⟨rfl, (fun i hi => by rw [f3 i (by omega)]), (fun k hk => by rw [f4 k (by omega)]), (fun k hk => by rw [f5 k (by omega)]), m6, m7, ⟨(by rw [ex10]), trivial⟩⟩ hP hS dX12_putsAs_51
set_option maxHeartbeats 4000000 in
set_option maxRecDepth 100000 in
theorem c_X12_holdsAs_0_0_1 (l : Launch) (D : va_G) (cI cL : ClassId) (ad zz : Nat → Nat) (hJ : jD ad) (σ : Nat → Nat → Int32) (τ : Nat → Nat → Int64) (a2 : Int32) (A2 : Int) (t2 : a2.toInt = A2) (h55_55 : σ 55 55 = 1) (hp0 : (σ 55 56).toInt = 0) : jM l yX12_holdsAs cX12_holdsAs 4 (some .int) ({ frames := 2, cells := 0, slots := 0, locals := 43 }) D cI cL ad zz [.ref (ad 55), .int 0, .int a2] σ τ (fun r σ' τ' => τ = τ' ∧ (∀ i : Nat, (i < 55 ∨ 55 < i) ∧ (i < 85 ∨ 85 < i) → σ' i = σ i) ∧ (∀ k : Nat, (k < 55 ∨ 55 < k) → σ' 55 k = σ 55 k) ∧ (∀ k : Nat, (k < 1 ∨ 1 < k) ∧ (k < 2 ∨ 2 < k) → σ' 85 k = σ 85 k) ∧ (σ' 55 55 = 3) ∧ (σ' 85 1 = 10) ∧ (σ' 85 2 = 1) ∧ ((r = ((a2 + (σ 55 57)) * 2) ∧ True))) := by
  refine jM.of hJ (by decide +kernel) (nt := .int) rfl (Nat.le_of_ble_eq_true rfl) ?_
  intro p e s m args below meth c Q ls hC hret hl hP
  obtain ⟨hx, hb, hr, hml, hown, hts, hK, -, hlocks, hZ⟩ := hC
  have hown : s.vm.findClass RX12 = some m.cls := hown
  have hS : va_S (jA ad) s.heap s.heap [] := va_S.rf
  have hA : ∀ q, jA ad q → jA ad q := fun _ h => h
  have hl : lv_has ls 4 [(0, .ref (ad 55)), (1, .int 0), (2, .int a2)] := hl
  have g2 := jrg t2
  refine lv_iload_n hx hb dX12_holdsAs_0 rfl (lv_at hl 1 rfl) ?_
  refine lv_iconst (v := 3) hx hb dX12_holdsAs_1 (by decide) ?_
  refine lv_icmp_eq (tgt := 10) hx hb dX12_holdsAs_2 (by decide) (fun c => absurd c (by decide)) (fun _ => ?_)
  refine lv_iload_n hx hb dX12_holdsAs_5 rfl (lv_at hl 1 rfl) ?_
  refine lv_iconst (v := 5) hx hb dX12_holdsAs_6 (by decide) ?_
  refine lv_icmp_ne (tgt := 24) hx hb dX12_holdsAs_7 (by decide) (fun _ => ?_) (fun c => absurd c (by decide))
  refine lv_iload_n hx hb dX12_holdsAs_24 rfl (lv_at hl 1 rfl) ?_
  refine lv_bipush (v := 6) hx hb dX12_holdsAs_25 (by decide) ?_
  refine lv_icmp_ne (tgt := 55) hx hb dX12_holdsAs_27 (by decide) (fun _ => ?_) (fun c => absurd c (by decide))
  refine lv_aload_n hx hb dX12_holdsAs_55 rfl (lv_at hl 0 rfl) ?_
  refine lv_bipush (v := 10) hx hb dX12_holdsAs_56 (by decide) ?_
  refine jcallVv (As := [.int 10]) (rest := []) ⟨hx, hb, hml, hown, hts⟩ hK hP hA hS hZ (c_X12_begins_10_1 l D cI cL ad zz hJ σ τ h55_55) cw_RX12_379 (jc_55 cI cL ad σ τ) rfl ⟨Nat.le_of_ble_eq_true rfl, Nat.le_of_ble_eq_true rfl⟩ rfl rfl rfl hl.1 rfl (Nat.le_of_ble_eq_true rfl) dX12_holdsAs_58 ⟨Nat.zero_le _, Nat.zero_le _⟩ (fun σ1 τ1 H locs h1 hP hS => ?_)
  obtain ⟨rfl, f3, f4, f5, m6, m7, h1⟩ := h1
  refine lv_aload_n hx hb dX12_holdsAs_61 rfl (lv_at hl 0 rfl) ?_
  refine lv_aload_n hx hb dX12_holdsAs_62 rfl (lv_at hl 0 rfl) ?_
  refine va_get (D := D) hx hb hts inlX12 hown hK hP 55 (jc_55 cI cL ad σ1 τ) rfl 56 (by decide) (hts _ kw_49_8) (fun _ h9 => h9) rfl dX12_holdsAs_63 ?_
  have m8 : σ1 55 56 = (σ 55 56) := (by rw [f4 56 (by omega)])
  refine jtopr m8 ?_
  refine jtopr (jsame (rfl : (σ 55 56).toInt = (σ 55 56).toInt) jz_0 (by omega)) ?_
  refine lv_iload_n hx hb dX12_holdsAs_66 rfl (lv_at hl 2 rfl) ?_
  have z9 : (σ1 55 56).toInt = (σ 55 56).toInt := by rw [(show σ1 55 56 = (σ 55 56) from m8)]
  refine jcallV (As := [.int 0, .int a2]) (rest := []) ⟨hx, hb, hml, hown, hts⟩ hK hP hA hS hZ (c_X12_putsAs_0_0_2 l D cI cL ad zz hJ σ1 τ a2 (A2) t2 m6 (by omega)) cw_RX12_382 (jc_55 cI cL ad σ1 τ) rfl ⟨Nat.le_of_ble_eq_true rfl, Nat.le_of_ble_eq_true rfl⟩ rfl rfl rfl hl.1 rfl (Nat.le_of_ble_eq_true rfl) dX12_holdsAs_67 ⟨Nat.zero_le _, Nat.zero_le _⟩ (fun r11 σ10 τ10 H locs h10 hP hS => ?_)
  obtain ⟨rfl, f12, f13, f14, m15, m16, h10⟩ := h10
  have h17 := h10
  obtain ⟨q19, k18⟩ := h17
  have q19 := q19.symm
  subst q19
  refine lv_iconst (v := 2) hx hb dX12_holdsAs_70 (by decide) ?_
  have g20 := jrg (rfl : (a2 + (σ1 55 57)).toInt = (a2 + (σ1 55 57)).toInt)
  refine lv_imul hx hb dX12_holdsAs_71 ?_
  refine lv_topi (fun x21 ex21 => ?_)
  have gx21 := jrg (rfl : x21.toInt = x21.toInt)
  have m22 : σ10 85 1 = 10 := (by rw [f14 1 (by omega)]; exact m7)
  exact hret x21 σ10 τ _ _ _ _ rfl ⟨rfl, (fun i hi => by rw [f12 i (by omega), f3 i (by omega)]), (fun k hk => by rw [f13 k (by omega), f4 k (by omega)]), (fun k hk => by rw [f14 k (by omega), f5 k (by omega)]), m15, m22, m16, ⟨(by rw [ex21, (show σ1 55 57 = σ 55 57 from (by rw [f4 57 (by omega)]))]), trivial⟩⟩ hP hS dX12_holdsAs_72
set_option maxHeartbeats 4000000 in
set_option maxRecDepth 100000 in
theorem c_X12_begins_11_3 (l : Launch) (D : va_G) (cI cL : ClassId) (ad zz : Nat → Nat) (hJ : jD ad) (σ : Nat → Nat → Int32) (τ : Nat → Nat → Int64) (h55_55 : σ 55 55 = 3) : jMv l yX12_begins cX12_begins 2 none ({ frames := 0, cells := 0, slots := 0, locals := 0 }) D cI cL ad zz [.ref (ad 55), .int 11] σ τ (fun σ' τ' => τ = τ' ∧ (∀ i : Nat, (i < 55 ∨ 55 < i) ∧ (i < 85 ∨ 85 < i) → σ' i = σ i) ∧ (∀ k : Nat, (k < 55 ∨ 55 < k) → σ' 55 k = σ 55 k) ∧ (∀ k : Nat, (k < 3 ∨ 3 < k) → σ' 85 k = σ 85 k) ∧ (σ' 55 55 = 4) ∧ (σ' 85 3 = 11) ∧ True) := by
  refine jMv.of hJ (by decide +kernel) rfl (Nat.le_of_ble_eq_true rfl) ?_
  intro p e s m args below meth c Q ls hC hret hl hP
  obtain ⟨hx, hb, hr, hml, hown, hts, hK, -, hlocks, hZ⟩ := hC
  have hown : s.vm.findClass RX12 = some m.cls := hown
  have hS : va_S (jA ad) s.heap s.heap [] := va_S.rf
  have hA : ∀ q, jA ad q → jA ad q := fun _ h => h
  have hl : lv_has ls 2 [(0, .ref (ad 55)), (1, .int 11)] := hl
  refine lv_aload_n hx hb dX12_begins_0 rfl (lv_at hl 0 rfl) ?_
  refine va_get (D := D) hx hb hts inlX12 hown hK hP 55 (jc_55 cI cL ad σ τ) rfl 55 (by decide) (hts _ kw_49_7) (fun _ h9 => h9) rfl dX12_begins_1 ?_
  refine jtopr h55_55 ?_
  refine lv_bipush (v := 24) hx hb dX12_begins_4 (by decide) ?_
  refine lv_icmp_ge (tgt := 19) hx hb dX12_begins_6 (by decide) (fun c => absurd c (by decide)) (fun _ => ?_)
  refine lv_aload_n hx hb dX12_begins_9 rfl (lv_at hl 0 rfl) ?_
  refine va_get (D := D) hx hb hts inlX12 hown hK hP 55 (jc_55 cI cL ad σ τ) rfl 54 (by decide) (hts _ kw_8_10) (fun _ h9 => h9) rfl dX12_begins_10 ?_
  refine lv_aload_n hx hb dX12_begins_13 rfl (lv_at hl 0 rfl) ?_
  refine va_get (D := D) hx hb hts inlX12 hown hK hP 55 (jc_55 cI cL ad σ τ) rfl 55 (by decide) (hts _ kw_49_7) (fun _ h9 => h9) rfl dX12_begins_14 ?_
  refine jtopr h55_55 ?_
  refine lv_iload_n hx hb dX12_begins_17 rfl (lv_at hl 1 rfl) ?_
  refine jast hx hb hK hP hJ hA hS (jc_85 cI cL ad σ τ) (ja_85 cI cL ad σ τ _ _) (jin jz_3 (by omega) (by omega)) dX12_begins_18 (fun σ1 H locs eσ1 hP hS => ?_)
  have eσ1 : σ1 = jup σ 85 3 11 := eσ1
  refine lv_aload_n hx hb dX12_begins_19 rfl (lv_at hl 0 rfl) ?_
  refine lv_dup hx hb dX12_begins_20 rfl ?_
  refine va_get (D := D) hx hb hts inlX12 hown hK hP 55 (jc_55 cI cL ad σ1 τ) rfl 55 (by decide) (hts _ kw_49_7) (fun _ h9 => h9) rfl dX12_begins_21 ?_
  have m2 : σ1 55 55 = 3 := (by rw [eσ1, jup_n (by decide)]; exact h55_55)
  refine jtopr m2 ?_
  refine lv_iconst (v := 1) hx hb dX12_begins_24 (by decide) ?_
  refine lv_iadd hx hb dX12_begins_25 ?_
  refine jtopr (y := 4) (by decide) ?_
  refine jput (ty := .int) hx hb hts inlX12 tyX12 tyX12_ok nmX12 hown hK hP hJ hA hS (jc_55 cI cL ad σ1 τ) rfl (k := 55) (by decide) (Nat.le_of_ble_eq_true rfl) (jp_55_55 cI cL ad σ1 τ 4) (hts _ kw_49_7) (fun _ h9 => h9) rfl (by decide +kernel) rfl rfl dX12_begins_26 (fun σ3 H locs eσ3 hP hS => ?_)
  have m4 : σ3 55 55 = 4 := (by rw [eσ3]; exact jup_s)
  have m5 : σ3 85 3 = 11 := (by rw [eσ3, jup_n (by decide)]; exact (by rw [eσ1]; exact jup_s))
  exact hret σ3 τ _ _ _ _ ⟨rfl, (fun i hi => by rw [eσ3, jup_n (by omega), eσ1, jup_n (by omega)]), (fun k hk => by rw [eσ3, jup_k (by omega), eσ1, jup_n (by decide)]), (fun k hk => by rw [eσ3, jup_n (by decide), eσ1, jup_k (by omega)]), m4, m5, trivial⟩ hP hS dX12_begins_29
set_option maxHeartbeats 4000000 in
set_option maxRecDepth 100000 in
theorem c_X12_givesAs_0_0_3_x1 (l : Launch) (D : va_G) (cI cL : ClassId) (ad zz : Nat → Nat) (hJ : jD ad) (σ : Nat → Nat → Int32) (τ : Nat → Nat → Int64) (h55_55 : σ 55 55 = 3) (hp0 : (σ 55 56).toInt = 0) : jM l yX12_givesAs cX12_givesAs 4 (some .int) ({ frames := 1, cells := 0, slots := 0, locals := 21 }) D cI cL ad zz [.ref (ad 55), .int 0, .int 1] σ τ (fun r σ' τ' => τ = τ' ∧ (∀ i : Nat, (i < 55 ∨ 55 < i) ∧ (i < 85 ∨ 85 < i) → σ' i = σ i) ∧ (∀ k : Nat, (k < 55 ∨ 55 < k) → σ' 55 k = σ 55 k) ∧ (∀ k : Nat, (k < 3 ∨ 3 < k) → σ' 85 k = σ 85 k) ∧ (σ' 55 55 = 4) ∧ (σ' 85 3 = 11) ∧ ((r = (1 ^^^ (σ 55 57)) ∧ True))) := by
  refine jM.of hJ (by decide +kernel) (nt := .int) rfl (Nat.le_of_ble_eq_true rfl) ?_
  intro p e s m args below meth c Q ls hC hret hl hP
  obtain ⟨hx, hb, hr, hml, hown, hts, hK, -, hlocks, hZ⟩ := hC
  have hown : s.vm.findClass RX12 = some m.cls := hown
  have hS : va_S (jA ad) s.heap s.heap [] := va_S.rf
  have hA : ∀ q, jA ad q → jA ad q := fun _ h => h
  have hl : lv_has ls 4 [(0, .ref (ad 55)), (1, .int 0), (2, .int 1)] := hl
  refine lv_iload_n hx hb dX12_givesAs_0 rfl (lv_at hl 1 rfl) ?_
  refine lv_iconst (v := 5) hx hb dX12_givesAs_1 (by decide) ?_
  refine lv_icmp_ne (tgt := 30) hx hb dX12_givesAs_2 (by decide) (fun _ => ?_) (fun c => absurd c (by decide))
  refine lv_iload_n hx hb dX12_givesAs_30 rfl (lv_at hl 1 rfl) ?_
  refine lv_iconst (v := 2) hx hb dX12_givesAs_31 (by decide) ?_
  refine lv_icmp_eq (tgt := 40) hx hb dX12_givesAs_32 (by decide) (fun c => absurd c (by decide)) (fun _ => ?_)
  refine lv_iload_n hx hb dX12_givesAs_35 rfl (lv_at hl 1 rfl) ?_
  refine lv_iconst (v := 3) hx hb dX12_givesAs_36 (by decide) ?_
  refine lv_icmp_ne (tgt := 55) hx hb dX12_givesAs_37 (by decide) (fun _ => ?_) (fun c => absurd c (by decide))
  refine lv_aload_n hx hb dX12_givesAs_55 rfl (lv_at hl 0 rfl) ?_
  refine lv_bipush (v := 11) hx hb dX12_givesAs_56 (by decide) ?_
  refine jcallVv (As := [.int 11]) (rest := []) ⟨hx, hb, hml, hown, hts⟩ hK hP hA hS hZ (c_X12_begins_11_3 l D cI cL ad zz hJ σ τ h55_55) cw_RX12_379 (jc_55 cI cL ad σ τ) rfl ⟨Nat.le_of_ble_eq_true rfl, Nat.le_of_ble_eq_true rfl⟩ rfl rfl rfl hl.1 rfl (Nat.le_of_ble_eq_true rfl) dX12_givesAs_58 ⟨Nat.zero_le _, Nat.zero_le _⟩ (fun σ1 τ1 H locs h1 hP hS => ?_)
  obtain ⟨rfl, f3, f4, f5, m6, m7, h1⟩ := h1
  refine lv_iload_n hx hb dX12_givesAs_61 rfl (lv_at hl 2 rfl) ?_
  refine lv_aload_n hx hb dX12_givesAs_62 rfl (lv_at hl 0 rfl) ?_
  refine va_get (D := D) hx hb hts inlX12 hown hK hP 55 (jc_55 cI cL ad σ1 τ) rfl 57 (by decide) (hts _ kw_49_9) (fun _ h9 => h9) rfl dX12_givesAs_63 ?_
  have m8 : σ1 55 57 = (σ 55 57) := (by rw [f4 57 (by omega)])
  refine jtopr m8 ?_
  refine lv_ixor hx hb dX12_givesAs_66 ?_
  refine lv_topi (fun x9 ex9 => ?_)
  have gx9 := jrg (rfl : x9.toInt = x9.toInt)
  exact hret x9 σ1 τ _ _ _ _ rfl ⟨rfl, (fun i hi => by rw [f3 i (by omega)]), (fun k hk => by rw [f4 k (by omega)]), (fun k hk => by rw [f5 k (by omega)]), m6, m7, ⟨(by rw [ex9]), trivial⟩⟩ hP hS dX12_givesAs_67
set_option maxHeartbeats 4000000 in
set_option maxRecDepth 100000 in
theorem c_X12_tellsAs_0_0_0 (l : Launch) (D : va_G) (cI cL : ClassId) (ad zz : Nat → Nat) (hJ : jD ad) (σ : Nat → Nat → Int32) (τ : Nat → Nat → Int64) (a2 : Int32) (A2 : Int) (t2 : a2.toInt = A2) (h55_55 : σ 55 55 = 0) (hp0 : (σ 55 56).toInt = 0) : jM l yX12_tellsAs cX12_tellsAs 4 (some .int) ({ frames := 3, cells := 0, slots := 0, locals := 66 }) D cI cL ad zz [.ref (ad 55), .int 0, .int a2] σ τ (fun r σ' τ' => τ = τ' ∧ (∀ i : Nat, (i < 55 ∨ 55 < i) ∧ (i < 85 ∨ 85 < i) → σ' i = σ i) ∧ (∀ k : Nat, (k < 55 ∨ 55 < k) → σ' 55 k = σ 55 k) ∧ (∀ k : Nat, (k < 0 ∨ 0 < k) ∧ (k < 1 ∨ 1 < k) ∧ (k < 2 ∨ 2 < k) ∧ (k < 3 ∨ 3 < k) → σ' 85 k = σ 85 k) ∧ (σ' 55 55 = 4) ∧ (σ' 85 0 = 2) ∧ (σ' 85 1 = 10) ∧ (σ' 85 2 = 1) ∧ (σ' 85 3 = 11) ∧ ((r = (((a2 + (σ 55 57)) * 2) - (1 ^^^ (σ 55 57))) ∧ True))) := by
  refine jM.of hJ (by decide +kernel) (nt := .int) rfl (Nat.le_of_ble_eq_true rfl) ?_
  intro p e s m args below meth c Q ls hC hret hl hP
  obtain ⟨hx, hb, hr, hml, hown, hts, hK, -, hlocks, hZ⟩ := hC
  have hown : s.vm.findClass RX12 = some m.cls := hown
  have hS : va_S (jA ad) s.heap s.heap [] := va_S.rf
  have hA : ∀ q, jA ad q → jA ad q := fun _ h => h
  have hl : lv_has ls 4 [(0, .ref (ad 55)), (1, .int 0), (2, .int a2)] := hl
  have g2 := jrg t2
  refine lv_iload_n hx hb dX12_tellsAs_0 rfl (lv_at hl 1 rfl) ?_
  refine lv_iconst (v := 4) hx hb dX12_tellsAs_1 (by decide) ?_
  refine lv_icmp_ne (tgt := 20) hx hb dX12_tellsAs_2 (by decide) (fun _ => ?_) (fun c => absurd c (by decide))
  refine lv_aload_n hx hb dX12_tellsAs_20 rfl (lv_at hl 0 rfl) ?_
  refine lv_iconst (v := 2) hx hb dX12_tellsAs_21 (by decide) ?_
  refine jcallVv (As := [.int 2]) (rest := []) ⟨hx, hb, hml, hown, hts⟩ hK hP hA hS hZ (c_X12_begins_2_0 l D cI cL ad zz hJ σ τ h55_55) cw_RX12_379 (jc_55 cI cL ad σ τ) rfl ⟨Nat.le_of_ble_eq_true rfl, Nat.le_of_ble_eq_true rfl⟩ rfl rfl rfl hl.1 rfl (Nat.le_of_ble_eq_true rfl) dX12_tellsAs_22 ⟨Nat.zero_le _, Nat.zero_le _⟩ (fun σ1 τ1 H locs h1 hP hS => ?_)
  obtain ⟨rfl, f3, f4, f5, m6, m7, h1⟩ := h1
  refine lv_aload_n hx hb dX12_tellsAs_25 rfl (lv_at hl 0 rfl) ?_
  refine lv_aload_n hx hb dX12_tellsAs_26 rfl (lv_at hl 0 rfl) ?_
  refine va_get (D := D) hx hb hts inlX12 hown hK hP 55 (jc_55 cI cL ad σ1 τ) rfl 56 (by decide) (hts _ kw_49_8) (fun _ h9 => h9) rfl dX12_tellsAs_27 ?_
  have m8 : σ1 55 56 = (σ 55 56) := (by rw [f4 56 (by omega)])
  refine jtopr m8 ?_
  refine jtopr (jsame (rfl : (σ 55 56).toInt = (σ 55 56).toInt) jz_0 (by omega)) ?_
  refine lv_iload_n hx hb dX12_tellsAs_30 rfl (lv_at hl 2 rfl) ?_
  have z9 : (σ1 55 56).toInt = (σ 55 56).toInt := by rw [(show σ1 55 56 = (σ 55 56) from m8)]
  refine jcallV (As := [.int 0, .int a2]) (rest := []) ⟨hx, hb, hml, hown, hts⟩ hK hP hA hS hZ (c_X12_holdsAs_0_0_1 l D cI cL ad zz hJ σ1 τ a2 (A2) t2 m6 (by omega)) cw_RX12_388 (jc_55 cI cL ad σ1 τ) rfl ⟨Nat.le_of_ble_eq_true rfl, Nat.le_of_ble_eq_true rfl⟩ rfl rfl rfl hl.1 rfl (Nat.le_of_ble_eq_true rfl) dX12_tellsAs_31 ⟨Nat.zero_le _, Nat.zero_le _⟩ (fun r11 σ10 τ10 H locs h10 hP hS => ?_)
  obtain ⟨rfl, f12, f13, f14, m15, m16, m17, h10⟩ := h10
  have h18 := h10
  obtain ⟨q20, k19⟩ := h18
  have q20 := q20.symm
  subst q20
  refine lv_istore_n (lv' := [(3, .int ((a2 + (σ1 55 57)) * 2)), (0, .ref (ad 55)), (1, .int 0), (2, .int a2)]) hx hb dX12_tellsAs_34 rfl hl (by decide) rfl (fun ls hl => ?_)
  refine lv_iload_n hx hb dX12_tellsAs_35 rfl (lv_at hl 0 rfl) ?_
  refine lv_aload_n hx hb dX12_tellsAs_36 rfl (lv_at hl 1 rfl) ?_
  refine lv_aload_n hx hb dX12_tellsAs_37 rfl (lv_at hl 1 rfl) ?_
  refine va_get (D := D) hx hb hts inlX12 hown hK hP 55 (jc_55 cI cL ad σ10 τ) rfl 56 (by decide) (hts _ kw_49_8) (fun _ h9 => h9) rfl dX12_tellsAs_38 ?_
  have m21 : σ10 55 56 = (σ 55 56) := (by rw [f13 56 (by omega)]; exact m8)
  refine jtopr m21 ?_
  refine jtopr (jsame (rfl : (σ 55 56).toInt = (σ 55 56).toInt) jz_0 (by omega)) ?_
  refine lv_iconst (v := 1) hx hb dX12_tellsAs_41 (by decide) ?_
  have z22 : (σ10 55 56).toInt = (σ 55 56).toInt := by rw [(show σ10 55 56 = (σ 55 56) from m21)]
  refine jcallV (As := [.int 0, .int 1]) (rest := [.int ((a2 + (σ1 55 57)) * 2)]) ⟨hx, hb, hml, hown, hts⟩ hK hP hA hS hZ (c_X12_givesAs_0_0_3_x1 l D cI cL ad zz hJ σ10 τ m15 (by omega)) cw_RX12_394 (jc_55 cI cL ad σ10 τ) rfl ⟨Nat.le_of_ble_eq_true rfl, Nat.le_of_ble_eq_true rfl⟩ rfl rfl rfl hl.1 rfl (Nat.le_of_ble_eq_true rfl) dX12_tellsAs_42 ⟨Nat.zero_le _, Nat.zero_le _⟩ (fun r24 σ23 τ23 H locs h23 hP hS => ?_)
  obtain ⟨rfl, f25, f26, f27, m28, m29, h23⟩ := h23
  have h30 := h23
  obtain ⟨q32, k31⟩ := h30
  have q32 := q32.symm
  subst q32
  have g33 := jrg (rfl : ((a2 + (σ1 55 57)) * 2).toInt = ((a2 + (σ1 55 57)) * 2).toInt)
  have g34 := jrg (rfl : (1 ^^^ (σ10 55 57)).toInt = (1 ^^^ (σ10 55 57)).toInt)
  refine lv_isub hx hb dX12_tellsAs_45 ?_
  refine lv_topi (fun x35 ex35 => ?_)
  have gx35 := jrg (rfl : x35.toInt = x35.toInt)
  have m36 : σ23 85 0 = 2 := (by rw [f27 0 (by omega)]; exact (by rw [f14 0 (by omega)]; exact m7))
  have m37 : σ23 85 1 = 10 := (by rw [f27 1 (by omega)]; exact m16)
  have m38 : σ23 85 2 = 1 := (by rw [f27 2 (by omega)]; exact m17)
  exact hret x35 σ23 τ _ _ _ _ rfl ⟨rfl, (fun i hi => by rw [f25 i (by omega), f12 i (by omega), f3 i (by omega)]), (fun k hk => by rw [f26 k (by omega), f13 k (by omega), f4 k (by omega)]), (fun k hk => by rw [f27 k (by omega), f14 k (by omega), f5 k (by omega)]), m28, m36, m37, m38, m29, ⟨(by rw [ex35, (show σ1 55 57 = σ 55 57 from (by rw [f4 57 (by omega)])), (show σ10 55 57 = σ 55 57 from (by rw [f13 57 (by omega), f4 57 (by omega)]))]), trivial⟩⟩ hP hS dX12_tellsAs_46
set_option maxHeartbeats 4000000 in
set_option maxRecDepth 100000 in
theorem c_X12_begins_20_0 (l : Launch) (D : va_G) (cI cL : ClassId) (ad zz : Nat → Nat) (hJ : jD ad) (σ : Nat → Nat → Int32) (τ : Nat → Nat → Int64) (h55_55 : σ 55 55 = 0) : jMv l yX12_begins cX12_begins 2 none ({ frames := 0, cells := 0, slots := 0, locals := 0 }) D cI cL ad zz [.ref (ad 55), .int 20] σ τ (fun σ' τ' => τ = τ' ∧ (∀ i : Nat, (i < 55 ∨ 55 < i) ∧ (i < 85 ∨ 85 < i) → σ' i = σ i) ∧ (∀ k : Nat, (k < 55 ∨ 55 < k) → σ' 55 k = σ 55 k) ∧ (∀ k : Nat, (k < 0 ∨ 0 < k) → σ' 85 k = σ 85 k) ∧ (σ' 55 55 = 1) ∧ (σ' 85 0 = 20) ∧ True) := by
  refine jMv.of hJ (by decide +kernel) rfl (Nat.le_of_ble_eq_true rfl) ?_
  intro p e s m args below meth c Q ls hC hret hl hP
  obtain ⟨hx, hb, hr, hml, hown, hts, hK, -, hlocks, hZ⟩ := hC
  have hown : s.vm.findClass RX12 = some m.cls := hown
  have hS : va_S (jA ad) s.heap s.heap [] := va_S.rf
  have hA : ∀ q, jA ad q → jA ad q := fun _ h => h
  have hl : lv_has ls 2 [(0, .ref (ad 55)), (1, .int 20)] := hl
  refine lv_aload_n hx hb dX12_begins_0 rfl (lv_at hl 0 rfl) ?_
  refine va_get (D := D) hx hb hts inlX12 hown hK hP 55 (jc_55 cI cL ad σ τ) rfl 55 (by decide) (hts _ kw_49_7) (fun _ h9 => h9) rfl dX12_begins_1 ?_
  refine jtopr h55_55 ?_
  refine lv_bipush (v := 24) hx hb dX12_begins_4 (by decide) ?_
  refine lv_icmp_ge (tgt := 19) hx hb dX12_begins_6 (by decide) (fun c => absurd c (by decide)) (fun _ => ?_)
  refine lv_aload_n hx hb dX12_begins_9 rfl (lv_at hl 0 rfl) ?_
  refine va_get (D := D) hx hb hts inlX12 hown hK hP 55 (jc_55 cI cL ad σ τ) rfl 54 (by decide) (hts _ kw_8_10) (fun _ h9 => h9) rfl dX12_begins_10 ?_
  refine lv_aload_n hx hb dX12_begins_13 rfl (lv_at hl 0 rfl) ?_
  refine va_get (D := D) hx hb hts inlX12 hown hK hP 55 (jc_55 cI cL ad σ τ) rfl 55 (by decide) (hts _ kw_49_7) (fun _ h9 => h9) rfl dX12_begins_14 ?_
  refine jtopr h55_55 ?_
  refine lv_iload_n hx hb dX12_begins_17 rfl (lv_at hl 1 rfl) ?_
  refine jast hx hb hK hP hJ hA hS (jc_85 cI cL ad σ τ) (ja_85 cI cL ad σ τ _ _) (jin jz_0 (by omega) (by omega)) dX12_begins_18 (fun σ1 H locs eσ1 hP hS => ?_)
  have eσ1 : σ1 = jup σ 85 0 20 := eσ1
  refine lv_aload_n hx hb dX12_begins_19 rfl (lv_at hl 0 rfl) ?_
  refine lv_dup hx hb dX12_begins_20 rfl ?_
  refine va_get (D := D) hx hb hts inlX12 hown hK hP 55 (jc_55 cI cL ad σ1 τ) rfl 55 (by decide) (hts _ kw_49_7) (fun _ h9 => h9) rfl dX12_begins_21 ?_
  have m2 : σ1 55 55 = 0 := (by rw [eσ1, jup_n (by decide)]; exact h55_55)
  refine jtopr m2 ?_
  refine lv_iconst (v := 1) hx hb dX12_begins_24 (by decide) ?_
  refine lv_iadd hx hb dX12_begins_25 ?_
  refine jtopr (y := 1) (by decide) ?_
  refine jput (ty := .int) hx hb hts inlX12 tyX12 tyX12_ok nmX12 hown hK hP hJ hA hS (jc_55 cI cL ad σ1 τ) rfl (k := 55) (by decide) (Nat.le_of_ble_eq_true rfl) (jp_55_55 cI cL ad σ1 τ 1) (hts _ kw_49_7) (fun _ h9 => h9) rfl (by decide +kernel) rfl rfl dX12_begins_26 (fun σ3 H locs eσ3 hP hS => ?_)
  have m4 : σ3 55 55 = 1 := (by rw [eσ3]; exact jup_s)
  have m5 : σ3 85 0 = 20 := (by rw [eσ3, jup_n (by decide)]; exact (by rw [eσ1]; exact jup_s))
  exact hret σ3 τ _ _ _ _ ⟨rfl, (fun i hi => by rw [eσ3, jup_n (by omega), eσ1, jup_n (by omega)]), (fun k hk => by rw [eσ3, jup_k (by omega), eσ1, jup_n (by decide)]), (fun k hk => by rw [eσ3, jup_n (by decide), eσ1, jup_k (by omega)]), m4, m5, trivial⟩ hP hS dX12_begins_29
set_option maxHeartbeats 4000000 in
set_option maxRecDepth 100000 in
theorem c_X12_putsAs_1_0_1 (l : Launch) (D : va_G) (cI cL : ClassId) (ad zz : Nat → Nat) (hJ : jD ad) (σ : Nat → Nat → Int32) (τ : Nat → Nat → Int64) (a2 : Int32) (A2 : Int) (t2 : a2.toInt = A2) (h55_55 : σ 55 55 = 1) (hp0 : (σ 55 56).toInt = 1) : jM l yX12_putsAs cX12_putsAs 3 (some .int) ({ frames := 1, cells := 0, slots := 0, locals := 21 }) D cI cL ad zz [.ref (ad 55), .int 0, .int a2] σ τ (fun r σ' τ' => τ = τ' ∧ (∀ i : Nat, (i < 55 ∨ 55 < i) ∧ (i < 85 ∨ 85 < i) → σ' i = σ i) ∧ (∀ k : Nat, (k < 55 ∨ 55 < k) → σ' 55 k = σ 55 k) ∧ (∀ k : Nat, (k < 1 ∨ 1 < k) → σ' 85 k = σ 85 k) ∧ (σ' 55 55 = 2) ∧ (σ' 85 1 = 1) ∧ ((r = (a2 + (σ 55 57)) ∧ True))) := by
  refine jM.of hJ (by decide +kernel) (nt := .int) rfl (Nat.le_of_ble_eq_true rfl) ?_
  intro p e s m args below meth c Q ls hC hret hl hP
  obtain ⟨hx, hb, hr, hml, hown, hts, hK, -, hlocks, hZ⟩ := hC
  have hown : s.vm.findClass RX12 = some m.cls := hown
  have hS : va_S (jA ad) s.heap s.heap [] := va_S.rf
  have hA : ∀ q, jA ad q → jA ad q := fun _ h => h
  have hl : lv_has ls 3 [(0, .ref (ad 55)), (1, .int 0), (2, .int a2)] := hl
  have g2 := jrg t2
  refine lv_iload_n hx hb dX12_putsAs_0 rfl (lv_at hl 1 rfl) ?_
  refine lv_iconst (v := 4) hx hb dX12_putsAs_1 (by decide) ?_
  refine lv_icmp_ne (tgt := 20) hx hb dX12_putsAs_2 (by decide) (fun _ => ?_) (fun c => absurd c (by decide))
  refine lv_iload_n hx hb dX12_putsAs_20 rfl (lv_at hl 1 rfl) ?_
  refine lv_iconst (v := 1) hx hb dX12_putsAs_21 (by decide) ?_
  refine lv_icmp_ne (tgt := 40) hx hb dX12_putsAs_22 (by decide) (fun _ => ?_) (fun c => absurd c (by decide))
  refine lv_aload_n hx hb dX12_putsAs_40 rfl (lv_at hl 0 rfl) ?_
  refine lv_iconst (v := 1) hx hb dX12_putsAs_41 (by decide) ?_
  refine jcallVv (As := [.int 1]) (rest := []) ⟨hx, hb, hml, hown, hts⟩ hK hP hA hS hZ (c_X12_begins_1_1 l D cI cL ad zz hJ σ τ h55_55) cw_RX12_379 (jc_55 cI cL ad σ τ) rfl ⟨Nat.le_of_ble_eq_true rfl, Nat.le_of_ble_eq_true rfl⟩ rfl rfl rfl hl.1 rfl (Nat.le_of_ble_eq_true rfl) dX12_putsAs_42 ⟨Nat.zero_le _, Nat.zero_le _⟩ (fun σ1 τ1 H locs h1 hP hS => ?_)
  obtain ⟨rfl, f3, f4, f5, m6, m7, h1⟩ := h1
  refine lv_iload_n hx hb dX12_putsAs_45 rfl (lv_at hl 2 rfl) ?_
  refine lv_aload_n hx hb dX12_putsAs_46 rfl (lv_at hl 0 rfl) ?_
  refine va_get (D := D) hx hb hts inlX12 hown hK hP 55 (jc_55 cI cL ad σ1 τ) rfl 57 (by decide) (hts _ kw_49_9) (fun _ h9 => h9) rfl dX12_putsAs_47 ?_
  have m8 : σ1 55 57 = (σ 55 57) := (by rw [f4 57 (by omega)])
  refine jtopr m8 ?_
  have g9 := jrg (rfl : (σ 55 57).toInt = (σ 55 57).toInt)
  refine lv_iadd hx hb dX12_putsAs_50 ?_
  refine lv_topi (fun x10 ex10 => ?_)
  have gx10 := jrg (rfl : x10.toInt = x10.toInt)
  exact hret x10 σ1 τ _ _ _ _ rfl ⟨rfl, (fun i hi => by rw [f3 i (by omega)]), (fun k hk => by rw [f4 k (by omega)]), (fun k hk => by rw [f5 k (by omega)]), m6, m7, ⟨(by rw [ex10]), trivial⟩⟩ hP hS dX12_putsAs_51
set_option maxHeartbeats 4000000 in
set_option maxRecDepth 100000 in
theorem c_X12_putsAs_1_1_0 (l : Launch) (D : va_G) (cI cL : ClassId) (ad zz : Nat → Nat) (hJ : jD ad) (σ : Nat → Nat → Int32) (τ : Nat → Nat → Int64) (a2 : Int32) (A2 : Int) (t2 : a2.toInt = A2) (h55_55 : σ 55 55 = 0) (hp0 : (σ 55 56).toInt = 1) : jM l yX12_putsAs cX12_putsAs 3 (some .int) ({ frames := 2, cells := 0, slots := 0, locals := 43 }) D cI cL ad zz [.ref (ad 55), .int 1, .int a2] σ τ (fun r σ' τ' => τ = τ' ∧ (∀ i : Nat, (i < 55 ∨ 55 < i) ∧ (i < 85 ∨ 85 < i) → σ' i = σ i) ∧ (∀ k : Nat, (k < 55 ∨ 55 < k) → σ' 55 k = σ 55 k) ∧ (∀ k : Nat, (k < 0 ∨ 0 < k) ∧ (k < 1 ∨ 1 < k) → σ' 85 k = σ 85 k) ∧ (σ' 55 55 = 2) ∧ (σ' 85 0 = 20) ∧ (σ' 85 1 = 1) ∧ ((r = ((a2 + (σ 55 57)) + 3) ∧ True))) := by
  refine jM.of hJ (by decide +kernel) (nt := .int) rfl (Nat.le_of_ble_eq_true rfl) ?_
  intro p e s m args below meth c Q ls hC hret hl hP
  obtain ⟨hx, hb, hr, hml, hown, hts, hK, -, hlocks, hZ⟩ := hC
  have hown : s.vm.findClass RX12 = some m.cls := hown
  have hS : va_S (jA ad) s.heap s.heap [] := va_S.rf
  have hA : ∀ q, jA ad q → jA ad q := fun _ h => h
  have hl : lv_has ls 3 [(0, .ref (ad 55)), (1, .int 1), (2, .int a2)] := hl
  have g2 := jrg t2
  refine lv_iload_n hx hb dX12_putsAs_0 rfl (lv_at hl 1 rfl) ?_
  refine lv_iconst (v := 4) hx hb dX12_putsAs_1 (by decide) ?_
  refine lv_icmp_ne (tgt := 20) hx hb dX12_putsAs_2 (by decide) (fun _ => ?_) (fun c => absurd c (by decide))
  refine lv_iload_n hx hb dX12_putsAs_20 rfl (lv_at hl 1 rfl) ?_
  refine lv_iconst (v := 1) hx hb dX12_putsAs_21 (by decide) ?_
  refine lv_icmp_ne (tgt := 40) hx hb dX12_putsAs_22 (by decide) (fun c => absurd (by decide) c) (fun _ => ?_)
  refine lv_aload_n hx hb dX12_putsAs_25 rfl (lv_at hl 0 rfl) ?_
  refine lv_bipush (v := 20) hx hb dX12_putsAs_26 (by decide) ?_
  refine jcallVv (As := [.int 20]) (rest := []) ⟨hx, hb, hml, hown, hts⟩ hK hP hA hS hZ (c_X12_begins_20_0 l D cI cL ad zz hJ σ τ h55_55) cw_RX12_379 (jc_55 cI cL ad σ τ) rfl ⟨Nat.le_of_ble_eq_true rfl, Nat.le_of_ble_eq_true rfl⟩ rfl rfl rfl hl.1 rfl (Nat.le_of_ble_eq_true rfl) dX12_putsAs_28 ⟨Nat.zero_le _, Nat.zero_le _⟩ (fun σ1 τ1 H locs h1 hP hS => ?_)
  obtain ⟨rfl, f3, f4, f5, m6, m7, h1⟩ := h1
  refine lv_aload_n hx hb dX12_putsAs_31 rfl (lv_at hl 0 rfl) ?_
  refine lv_iconst (v := 0) hx hb dX12_putsAs_32 (by decide) ?_
  refine lv_iload_n hx hb dX12_putsAs_33 rfl (lv_at hl 2 rfl) ?_
  have z8 : (σ1 55 56).toInt = (σ 55 56).toInt := by rw [(show σ1 55 56 = (σ 55 56) from (by rw [f4 56 (by omega)]))]
  refine jcallV (As := [.int 0, .int a2]) (rest := []) ⟨hx, hb, hml, hown, hts⟩ hK hP hA hS hZ (c_X12_putsAs_1_0_1 l D cI cL ad zz hJ σ1 τ a2 (A2) t2 m6 (by omega)) cw_RX12_382 (jc_55 cI cL ad σ1 τ) rfl ⟨Nat.le_of_ble_eq_true rfl, Nat.le_of_ble_eq_true rfl⟩ rfl rfl rfl hl.1 rfl (Nat.le_of_ble_eq_true rfl) dX12_putsAs_34 ⟨Nat.zero_le _, Nat.zero_le _⟩ (fun r10 σ9 τ9 H locs h9 hP hS => ?_)
  obtain ⟨rfl, f11, f12, f13, m14, m15, h9⟩ := h9
  have h16 := h9
  obtain ⟨q18, k17⟩ := h16
  have q18 := q18.symm
  subst q18
  refine lv_iconst (v := 3) hx hb dX12_putsAs_37 (by decide) ?_
  have g19 := jrg (rfl : (a2 + (σ1 55 57)).toInt = (a2 + (σ1 55 57)).toInt)
  refine lv_iadd hx hb dX12_putsAs_38 ?_
  refine lv_topi (fun x20 ex20 => ?_)
  have gx20 := jrg (rfl : x20.toInt = x20.toInt)
  have m21 : σ9 85 0 = 20 := (by rw [f13 0 (by omega)]; exact m7)
  exact hret x20 σ9 τ _ _ _ _ rfl ⟨rfl, (fun i hi => by rw [f11 i (by omega), f3 i (by omega)]), (fun k hk => by rw [f12 k (by omega), f4 k (by omega)]), (fun k hk => by rw [f13 k (by omega), f5 k (by omega)]), m14, m21, m15, ⟨(by rw [ex20, (show σ1 55 57 = σ 55 57 from (by rw [f4 57 (by omega)]))]), trivial⟩⟩ hP hS dX12_putsAs_39
set_option maxHeartbeats 4000000 in
set_option maxRecDepth 100000 in
theorem c_X12_begins_20_1 (l : Launch) (D : va_G) (cI cL : ClassId) (ad zz : Nat → Nat) (hJ : jD ad) (σ : Nat → Nat → Int32) (τ : Nat → Nat → Int64) (h55_55 : σ 55 55 = 1) : jMv l yX12_begins cX12_begins 2 none ({ frames := 0, cells := 0, slots := 0, locals := 0 }) D cI cL ad zz [.ref (ad 55), .int 20] σ τ (fun σ' τ' => τ = τ' ∧ (∀ i : Nat, (i < 55 ∨ 55 < i) ∧ (i < 85 ∨ 85 < i) → σ' i = σ i) ∧ (∀ k : Nat, (k < 55 ∨ 55 < k) → σ' 55 k = σ 55 k) ∧ (∀ k : Nat, (k < 1 ∨ 1 < k) → σ' 85 k = σ 85 k) ∧ (σ' 55 55 = 2) ∧ (σ' 85 1 = 20) ∧ True) := by
  refine jMv.of hJ (by decide +kernel) rfl (Nat.le_of_ble_eq_true rfl) ?_
  intro p e s m args below meth c Q ls hC hret hl hP
  obtain ⟨hx, hb, hr, hml, hown, hts, hK, -, hlocks, hZ⟩ := hC
  have hown : s.vm.findClass RX12 = some m.cls := hown
  have hS : va_S (jA ad) s.heap s.heap [] := va_S.rf
  have hA : ∀ q, jA ad q → jA ad q := fun _ h => h
  have hl : lv_has ls 2 [(0, .ref (ad 55)), (1, .int 20)] := hl
  refine lv_aload_n hx hb dX12_begins_0 rfl (lv_at hl 0 rfl) ?_
  refine va_get (D := D) hx hb hts inlX12 hown hK hP 55 (jc_55 cI cL ad σ τ) rfl 55 (by decide) (hts _ kw_49_7) (fun _ h9 => h9) rfl dX12_begins_1 ?_
  refine jtopr h55_55 ?_
  refine lv_bipush (v := 24) hx hb dX12_begins_4 (by decide) ?_
  refine lv_icmp_ge (tgt := 19) hx hb dX12_begins_6 (by decide) (fun c => absurd c (by decide)) (fun _ => ?_)
  refine lv_aload_n hx hb dX12_begins_9 rfl (lv_at hl 0 rfl) ?_
  refine va_get (D := D) hx hb hts inlX12 hown hK hP 55 (jc_55 cI cL ad σ τ) rfl 54 (by decide) (hts _ kw_8_10) (fun _ h9 => h9) rfl dX12_begins_10 ?_
  refine lv_aload_n hx hb dX12_begins_13 rfl (lv_at hl 0 rfl) ?_
  refine va_get (D := D) hx hb hts inlX12 hown hK hP 55 (jc_55 cI cL ad σ τ) rfl 55 (by decide) (hts _ kw_49_7) (fun _ h9 => h9) rfl dX12_begins_14 ?_
  refine jtopr h55_55 ?_
  refine lv_iload_n hx hb dX12_begins_17 rfl (lv_at hl 1 rfl) ?_
  refine jast hx hb hK hP hJ hA hS (jc_85 cI cL ad σ τ) (ja_85 cI cL ad σ τ _ _) (jin jz_1 (by omega) (by omega)) dX12_begins_18 (fun σ1 H locs eσ1 hP hS => ?_)
  have eσ1 : σ1 = jup σ 85 1 20 := eσ1
  refine lv_aload_n hx hb dX12_begins_19 rfl (lv_at hl 0 rfl) ?_
  refine lv_dup hx hb dX12_begins_20 rfl ?_
  refine va_get (D := D) hx hb hts inlX12 hown hK hP 55 (jc_55 cI cL ad σ1 τ) rfl 55 (by decide) (hts _ kw_49_7) (fun _ h9 => h9) rfl dX12_begins_21 ?_
  have m2 : σ1 55 55 = 1 := (by rw [eσ1, jup_n (by decide)]; exact h55_55)
  refine jtopr m2 ?_
  refine lv_iconst (v := 1) hx hb dX12_begins_24 (by decide) ?_
  refine lv_iadd hx hb dX12_begins_25 ?_
  refine jtopr (y := 2) (by decide) ?_
  refine jput (ty := .int) hx hb hts inlX12 tyX12 tyX12_ok nmX12 hown hK hP hJ hA hS (jc_55 cI cL ad σ1 τ) rfl (k := 55) (by decide) (Nat.le_of_ble_eq_true rfl) (jp_55_55 cI cL ad σ1 τ 2) (hts _ kw_49_7) (fun _ h9 => h9) rfl (by decide +kernel) rfl rfl dX12_begins_26 (fun σ3 H locs eσ3 hP hS => ?_)
  have m4 : σ3 55 55 = 2 := (by rw [eσ3]; exact jup_s)
  have m5 : σ3 85 1 = 20 := (by rw [eσ3, jup_n (by decide)]; exact (by rw [eσ1]; exact jup_s))
  exact hret σ3 τ _ _ _ _ ⟨rfl, (fun i hi => by rw [eσ3, jup_n (by omega), eσ1, jup_n (by omega)]), (fun k hk => by rw [eσ3, jup_k (by omega), eσ1, jup_n (by decide)]), (fun k hk => by rw [eσ3, jup_n (by decide), eσ1, jup_k (by omega)]), m4, m5, trivial⟩ hP hS dX12_begins_29
set_option maxHeartbeats 4000000 in
set_option maxRecDepth 100000 in
theorem c_X12_putsAs_1_0_2 (l : Launch) (D : va_G) (cI cL : ClassId) (ad zz : Nat → Nat) (hJ : jD ad) (σ : Nat → Nat → Int32) (τ : Nat → Nat → Int64) (a2 : Int32) (A2 : Int) (t2 : a2.toInt = A2) (h55_55 : σ 55 55 = 2) (hp0 : (σ 55 56).toInt = 1) : jM l yX12_putsAs cX12_putsAs 3 (some .int) ({ frames := 1, cells := 0, slots := 0, locals := 21 }) D cI cL ad zz [.ref (ad 55), .int 0, .int a2] σ τ (fun r σ' τ' => τ = τ' ∧ (∀ i : Nat, (i < 55 ∨ 55 < i) ∧ (i < 85 ∨ 85 < i) → σ' i = σ i) ∧ (∀ k : Nat, (k < 55 ∨ 55 < k) → σ' 55 k = σ 55 k) ∧ (∀ k : Nat, (k < 2 ∨ 2 < k) → σ' 85 k = σ 85 k) ∧ (σ' 55 55 = 3) ∧ (σ' 85 2 = 1) ∧ ((r = (a2 + (σ 55 57)) ∧ True))) := by
  refine jM.of hJ (by decide +kernel) (nt := .int) rfl (Nat.le_of_ble_eq_true rfl) ?_
  intro p e s m args below meth c Q ls hC hret hl hP
  obtain ⟨hx, hb, hr, hml, hown, hts, hK, -, hlocks, hZ⟩ := hC
  have hown : s.vm.findClass RX12 = some m.cls := hown
  have hS : va_S (jA ad) s.heap s.heap [] := va_S.rf
  have hA : ∀ q, jA ad q → jA ad q := fun _ h => h
  have hl : lv_has ls 3 [(0, .ref (ad 55)), (1, .int 0), (2, .int a2)] := hl
  have g2 := jrg t2
  refine lv_iload_n hx hb dX12_putsAs_0 rfl (lv_at hl 1 rfl) ?_
  refine lv_iconst (v := 4) hx hb dX12_putsAs_1 (by decide) ?_
  refine lv_icmp_ne (tgt := 20) hx hb dX12_putsAs_2 (by decide) (fun _ => ?_) (fun c => absurd c (by decide))
  refine lv_iload_n hx hb dX12_putsAs_20 rfl (lv_at hl 1 rfl) ?_
  refine lv_iconst (v := 1) hx hb dX12_putsAs_21 (by decide) ?_
  refine lv_icmp_ne (tgt := 40) hx hb dX12_putsAs_22 (by decide) (fun _ => ?_) (fun c => absurd c (by decide))
  refine lv_aload_n hx hb dX12_putsAs_40 rfl (lv_at hl 0 rfl) ?_
  refine lv_iconst (v := 1) hx hb dX12_putsAs_41 (by decide) ?_
  refine jcallVv (As := [.int 1]) (rest := []) ⟨hx, hb, hml, hown, hts⟩ hK hP hA hS hZ (c_X12_begins_1_2 l D cI cL ad zz hJ σ τ h55_55) cw_RX12_379 (jc_55 cI cL ad σ τ) rfl ⟨Nat.le_of_ble_eq_true rfl, Nat.le_of_ble_eq_true rfl⟩ rfl rfl rfl hl.1 rfl (Nat.le_of_ble_eq_true rfl) dX12_putsAs_42 ⟨Nat.zero_le _, Nat.zero_le _⟩ (fun σ1 τ1 H locs h1 hP hS => ?_)
  obtain ⟨rfl, f3, f4, f5, m6, m7, h1⟩ := h1
  refine lv_iload_n hx hb dX12_putsAs_45 rfl (lv_at hl 2 rfl) ?_
  refine lv_aload_n hx hb dX12_putsAs_46 rfl (lv_at hl 0 rfl) ?_
  refine va_get (D := D) hx hb hts inlX12 hown hK hP 55 (jc_55 cI cL ad σ1 τ) rfl 57 (by decide) (hts _ kw_49_9) (fun _ h9 => h9) rfl dX12_putsAs_47 ?_
  have m8 : σ1 55 57 = (σ 55 57) := (by rw [f4 57 (by omega)])
  refine jtopr m8 ?_
  have g9 := jrg (rfl : (σ 55 57).toInt = (σ 55 57).toInt)
  refine lv_iadd hx hb dX12_putsAs_50 ?_
  refine lv_topi (fun x10 ex10 => ?_)
  have gx10 := jrg (rfl : x10.toInt = x10.toInt)
  exact hret x10 σ1 τ _ _ _ _ rfl ⟨rfl, (fun i hi => by rw [f3 i (by omega)]), (fun k hk => by rw [f4 k (by omega)]), (fun k hk => by rw [f5 k (by omega)]), m6, m7, ⟨(by rw [ex10]), trivial⟩⟩ hP hS dX12_putsAs_51
set_option maxHeartbeats 4000000 in
set_option maxRecDepth 100000 in
theorem c_X12_putsAs_1_1_1 (l : Launch) (D : va_G) (cI cL : ClassId) (ad zz : Nat → Nat) (hJ : jD ad) (σ : Nat → Nat → Int32) (τ : Nat → Nat → Int64) (a2 : Int32) (A2 : Int) (t2 : a2.toInt = A2) (h55_55 : σ 55 55 = 1) (hp0 : (σ 55 56).toInt = 1) : jM l yX12_putsAs cX12_putsAs 3 (some .int) ({ frames := 2, cells := 0, slots := 0, locals := 43 }) D cI cL ad zz [.ref (ad 55), .int 1, .int a2] σ τ (fun r σ' τ' => τ = τ' ∧ (∀ i : Nat, (i < 55 ∨ 55 < i) ∧ (i < 85 ∨ 85 < i) → σ' i = σ i) ∧ (∀ k : Nat, (k < 55 ∨ 55 < k) → σ' 55 k = σ 55 k) ∧ (∀ k : Nat, (k < 1 ∨ 1 < k) ∧ (k < 2 ∨ 2 < k) → σ' 85 k = σ 85 k) ∧ (σ' 55 55 = 3) ∧ (σ' 85 1 = 20) ∧ (σ' 85 2 = 1) ∧ ((r = ((a2 + (σ 55 57)) + 3) ∧ True))) := by
  refine jM.of hJ (by decide +kernel) (nt := .int) rfl (Nat.le_of_ble_eq_true rfl) ?_
  intro p e s m args below meth c Q ls hC hret hl hP
  obtain ⟨hx, hb, hr, hml, hown, hts, hK, -, hlocks, hZ⟩ := hC
  have hown : s.vm.findClass RX12 = some m.cls := hown
  have hS : va_S (jA ad) s.heap s.heap [] := va_S.rf
  have hA : ∀ q, jA ad q → jA ad q := fun _ h => h
  have hl : lv_has ls 3 [(0, .ref (ad 55)), (1, .int 1), (2, .int a2)] := hl
  have g2 := jrg t2
  refine lv_iload_n hx hb dX12_putsAs_0 rfl (lv_at hl 1 rfl) ?_
  refine lv_iconst (v := 4) hx hb dX12_putsAs_1 (by decide) ?_
  refine lv_icmp_ne (tgt := 20) hx hb dX12_putsAs_2 (by decide) (fun _ => ?_) (fun c => absurd c (by decide))
  refine lv_iload_n hx hb dX12_putsAs_20 rfl (lv_at hl 1 rfl) ?_
  refine lv_iconst (v := 1) hx hb dX12_putsAs_21 (by decide) ?_
  refine lv_icmp_ne (tgt := 40) hx hb dX12_putsAs_22 (by decide) (fun c => absurd (by decide) c) (fun _ => ?_)
  refine lv_aload_n hx hb dX12_putsAs_25 rfl (lv_at hl 0 rfl) ?_
  refine lv_bipush (v := 20) hx hb dX12_putsAs_26 (by decide) ?_
  refine jcallVv (As := [.int 20]) (rest := []) ⟨hx, hb, hml, hown, hts⟩ hK hP hA hS hZ (c_X12_begins_20_1 l D cI cL ad zz hJ σ τ h55_55) cw_RX12_379 (jc_55 cI cL ad σ τ) rfl ⟨Nat.le_of_ble_eq_true rfl, Nat.le_of_ble_eq_true rfl⟩ rfl rfl rfl hl.1 rfl (Nat.le_of_ble_eq_true rfl) dX12_putsAs_28 ⟨Nat.zero_le _, Nat.zero_le _⟩ (fun σ1 τ1 H locs h1 hP hS => ?_)
  obtain ⟨rfl, f3, f4, f5, m6, m7, h1⟩ := h1
  refine lv_aload_n hx hb dX12_putsAs_31 rfl (lv_at hl 0 rfl) ?_
  refine lv_iconst (v := 0) hx hb dX12_putsAs_32 (by decide) ?_
  refine lv_iload_n hx hb dX12_putsAs_33 rfl (lv_at hl 2 rfl) ?_
  have z8 : (σ1 55 56).toInt = (σ 55 56).toInt := by rw [(show σ1 55 56 = (σ 55 56) from (by rw [f4 56 (by omega)]))]
  refine jcallV (As := [.int 0, .int a2]) (rest := []) ⟨hx, hb, hml, hown, hts⟩ hK hP hA hS hZ (c_X12_putsAs_1_0_2 l D cI cL ad zz hJ σ1 τ a2 (A2) t2 m6 (by omega)) cw_RX12_382 (jc_55 cI cL ad σ1 τ) rfl ⟨Nat.le_of_ble_eq_true rfl, Nat.le_of_ble_eq_true rfl⟩ rfl rfl rfl hl.1 rfl (Nat.le_of_ble_eq_true rfl) dX12_putsAs_34 ⟨Nat.zero_le _, Nat.zero_le _⟩ (fun r10 σ9 τ9 H locs h9 hP hS => ?_)
  obtain ⟨rfl, f11, f12, f13, m14, m15, h9⟩ := h9
  have h16 := h9
  obtain ⟨q18, k17⟩ := h16
  have q18 := q18.symm
  subst q18
  refine lv_iconst (v := 3) hx hb dX12_putsAs_37 (by decide) ?_
  have g19 := jrg (rfl : (a2 + (σ1 55 57)).toInt = (a2 + (σ1 55 57)).toInt)
  refine lv_iadd hx hb dX12_putsAs_38 ?_
  refine lv_topi (fun x20 ex20 => ?_)
  have gx20 := jrg (rfl : x20.toInt = x20.toInt)
  have m21 : σ9 85 1 = 20 := (by rw [f13 1 (by omega)]; exact m7)
  exact hret x20 σ9 τ _ _ _ _ rfl ⟨rfl, (fun i hi => by rw [f11 i (by omega), f3 i (by omega)]), (fun k hk => by rw [f12 k (by omega), f4 k (by omega)]), (fun k hk => by rw [f13 k (by omega), f5 k (by omega)]), m14, m21, m15, ⟨(by rw [ex20, (show σ1 55 57 = σ 55 57 from (by rw [f4 57 (by omega)]))]), trivial⟩⟩ hP hS dX12_putsAs_39
set_option maxHeartbeats 4000000 in
set_option maxRecDepth 100000 in
theorem c_X12_holdsAs_1_1_0 (l : Launch) (D : va_G) (cI cL : ClassId) (ad zz : Nat → Nat) (hJ : jD ad) (σ : Nat → Nat → Int32) (τ : Nat → Nat → Int64) (a2 : Int32) (A2 : Int) (t2 : a2.toInt = A2) (h55_55 : σ 55 55 = 0) (hp0 : (σ 55 56).toInt = 1) : jM l yX12_holdsAs cX12_holdsAs 4 (some .int) ({ frames := 3, cells := 0, slots := 0, locals := 65 }) D cI cL ad zz [.ref (ad 55), .int 1, .int a2] σ τ (fun r σ' τ' => τ = τ' ∧ (∀ i : Nat, (i < 55 ∨ 55 < i) ∧ (i < 85 ∨ 85 < i) → σ' i = σ i) ∧ (∀ k : Nat, (k < 55 ∨ 55 < k) → σ' 55 k = σ 55 k) ∧ (∀ k : Nat, (k < 0 ∨ 0 < k) ∧ (k < 1 ∨ 1 < k) ∧ (k < 2 ∨ 2 < k) → σ' 85 k = σ 85 k) ∧ (σ' 55 55 = 3) ∧ (σ' 85 0 = 10) ∧ (σ' 85 1 = 20) ∧ (σ' 85 2 = 1) ∧ ((r = (((a2 + (σ 55 57)) + 3) * 2) ∧ True))) := by
  refine jM.of hJ (by decide +kernel) (nt := .int) rfl (Nat.le_of_ble_eq_true rfl) ?_
  intro p e s m args below meth c Q ls hC hret hl hP
  obtain ⟨hx, hb, hr, hml, hown, hts, hK, -, hlocks, hZ⟩ := hC
  have hown : s.vm.findClass RX12 = some m.cls := hown
  have hS : va_S (jA ad) s.heap s.heap [] := va_S.rf
  have hA : ∀ q, jA ad q → jA ad q := fun _ h => h
  have hl : lv_has ls 4 [(0, .ref (ad 55)), (1, .int 1), (2, .int a2)] := hl
  have g2 := jrg t2
  refine lv_iload_n hx hb dX12_holdsAs_0 rfl (lv_at hl 1 rfl) ?_
  refine lv_iconst (v := 3) hx hb dX12_holdsAs_1 (by decide) ?_
  refine lv_icmp_eq (tgt := 10) hx hb dX12_holdsAs_2 (by decide) (fun c => absurd c (by decide)) (fun _ => ?_)
  refine lv_iload_n hx hb dX12_holdsAs_5 rfl (lv_at hl 1 rfl) ?_
  refine lv_iconst (v := 5) hx hb dX12_holdsAs_6 (by decide) ?_
  refine lv_icmp_ne (tgt := 24) hx hb dX12_holdsAs_7 (by decide) (fun _ => ?_) (fun c => absurd c (by decide))
  refine lv_iload_n hx hb dX12_holdsAs_24 rfl (lv_at hl 1 rfl) ?_
  refine lv_bipush (v := 6) hx hb dX12_holdsAs_25 (by decide) ?_
  refine lv_icmp_ne (tgt := 55) hx hb dX12_holdsAs_27 (by decide) (fun _ => ?_) (fun c => absurd c (by decide))
  refine lv_aload_n hx hb dX12_holdsAs_55 rfl (lv_at hl 0 rfl) ?_
  refine lv_bipush (v := 10) hx hb dX12_holdsAs_56 (by decide) ?_
  refine jcallVv (As := [.int 10]) (rest := []) ⟨hx, hb, hml, hown, hts⟩ hK hP hA hS hZ (c_X12_begins_10_0 l D cI cL ad zz hJ σ τ h55_55) cw_RX12_379 (jc_55 cI cL ad σ τ) rfl ⟨Nat.le_of_ble_eq_true rfl, Nat.le_of_ble_eq_true rfl⟩ rfl rfl rfl hl.1 rfl (Nat.le_of_ble_eq_true rfl) dX12_holdsAs_58 ⟨Nat.zero_le _, Nat.zero_le _⟩ (fun σ1 τ1 H locs h1 hP hS => ?_)
  obtain ⟨rfl, f3, f4, f5, m6, m7, h1⟩ := h1
  refine lv_aload_n hx hb dX12_holdsAs_61 rfl (lv_at hl 0 rfl) ?_
  refine lv_aload_n hx hb dX12_holdsAs_62 rfl (lv_at hl 0 rfl) ?_
  refine va_get (D := D) hx hb hts inlX12 hown hK hP 55 (jc_55 cI cL ad σ1 τ) rfl 56 (by decide) (hts _ kw_49_8) (fun _ h9 => h9) rfl dX12_holdsAs_63 ?_
  have m8 : σ1 55 56 = (σ 55 56) := (by rw [f4 56 (by omega)])
  refine jtopr m8 ?_
  refine jtopr (jsame (rfl : (σ 55 56).toInt = (σ 55 56).toInt) jz_1 (by omega)) ?_
  refine lv_iload_n hx hb dX12_holdsAs_66 rfl (lv_at hl 2 rfl) ?_
  have z9 : (σ1 55 56).toInt = (σ 55 56).toInt := by rw [(show σ1 55 56 = (σ 55 56) from m8)]
  refine jcallV (As := [.int 1, .int a2]) (rest := []) ⟨hx, hb, hml, hown, hts⟩ hK hP hA hS hZ (c_X12_putsAs_1_1_1 l D cI cL ad zz hJ σ1 τ a2 (A2) t2 m6 (by omega)) cw_RX12_382 (jc_55 cI cL ad σ1 τ) rfl ⟨Nat.le_of_ble_eq_true rfl, Nat.le_of_ble_eq_true rfl⟩ rfl rfl rfl hl.1 rfl (Nat.le_of_ble_eq_true rfl) dX12_holdsAs_67 ⟨Nat.zero_le _, Nat.zero_le _⟩ (fun r11 σ10 τ10 H locs h10 hP hS => ?_)
  obtain ⟨rfl, f12, f13, f14, m15, m16, m17, h10⟩ := h10
  have h18 := h10
  obtain ⟨q20, k19⟩ := h18
  have q20 := q20.symm
  subst q20
  refine lv_iconst (v := 2) hx hb dX12_holdsAs_70 (by decide) ?_
  have g21 := jrg (rfl : ((a2 + (σ1 55 57)) + 3).toInt = ((a2 + (σ1 55 57)) + 3).toInt)
  refine lv_imul hx hb dX12_holdsAs_71 ?_
  refine lv_topi (fun x22 ex22 => ?_)
  have gx22 := jrg (rfl : x22.toInt = x22.toInt)
  have m23 : σ10 85 0 = 10 := (by rw [f14 0 (by omega)]; exact m7)
  exact hret x22 σ10 τ _ _ _ _ rfl ⟨rfl, (fun i hi => by rw [f12 i (by omega), f3 i (by omega)]), (fun k hk => by rw [f13 k (by omega), f4 k (by omega)]), (fun k hk => by rw [f14 k (by omega), f5 k (by omega)]), m15, m23, m16, m17, ⟨(by rw [ex22, (show σ1 55 57 = σ 55 57 from (by rw [f4 57 (by omega)]))]), trivial⟩⟩ hP hS dX12_holdsAs_72
set_option maxHeartbeats 4000000 in
set_option maxRecDepth 100000 in
theorem c_X12_givesAs_1_1_0 (l : Launch) (D : va_G) (cI cL : ClassId) (ad zz : Nat → Nat) (hJ : jD ad) (σ : Nat → Nat → Int32) (τ : Nat → Nat → Int64) (a2 : Int32) (A2 : Int) (t2 : a2.toInt = A2) (h55_55 : σ 55 55 = 0) (hp0 : (σ 55 56).toInt = 1) : jM l yX12_givesAs cX12_givesAs 4 (some .int) ({ frames := 1, cells := 0, slots := 0, locals := 21 }) D cI cL ad zz [.ref (ad 55), .int 1, .int a2] σ τ (fun r σ' τ' => τ = τ' ∧ (∀ i : Nat, (i < 55 ∨ 55 < i) ∧ (i < 85 ∨ 85 < i) → σ' i = σ i) ∧ (∀ k : Nat, (k < 55 ∨ 55 < k) → σ' 55 k = σ 55 k) ∧ (∀ k : Nat, (k < 0 ∨ 0 < k) → σ' 85 k = σ 85 k) ∧ (σ' 55 55 = 1) ∧ (σ' 85 0 = 11) ∧ ((r = (a2 ^^^ (σ 55 57)) ∧ True))) := by
  refine jM.of hJ (by decide +kernel) (nt := .int) rfl (Nat.le_of_ble_eq_true rfl) ?_
  intro p e s m args below meth c Q ls hC hret hl hP
  obtain ⟨hx, hb, hr, hml, hown, hts, hK, -, hlocks, hZ⟩ := hC
  have hown : s.vm.findClass RX12 = some m.cls := hown
  have hS : va_S (jA ad) s.heap s.heap [] := va_S.rf
  have hA : ∀ q, jA ad q → jA ad q := fun _ h => h
  have hl : lv_has ls 4 [(0, .ref (ad 55)), (1, .int 1), (2, .int a2)] := hl
  have g2 := jrg t2
  refine lv_iload_n hx hb dX12_givesAs_0 rfl (lv_at hl 1 rfl) ?_
  refine lv_iconst (v := 5) hx hb dX12_givesAs_1 (by decide) ?_
  refine lv_icmp_ne (tgt := 30) hx hb dX12_givesAs_2 (by decide) (fun _ => ?_) (fun c => absurd c (by decide))
  refine lv_iload_n hx hb dX12_givesAs_30 rfl (lv_at hl 1 rfl) ?_
  refine lv_iconst (v := 2) hx hb dX12_givesAs_31 (by decide) ?_
  refine lv_icmp_eq (tgt := 40) hx hb dX12_givesAs_32 (by decide) (fun c => absurd c (by decide)) (fun _ => ?_)
  refine lv_iload_n hx hb dX12_givesAs_35 rfl (lv_at hl 1 rfl) ?_
  refine lv_iconst (v := 3) hx hb dX12_givesAs_36 (by decide) ?_
  refine lv_icmp_ne (tgt := 55) hx hb dX12_givesAs_37 (by decide) (fun _ => ?_) (fun c => absurd c (by decide))
  refine lv_aload_n hx hb dX12_givesAs_55 rfl (lv_at hl 0 rfl) ?_
  refine lv_bipush (v := 11) hx hb dX12_givesAs_56 (by decide) ?_
  refine jcallVv (As := [.int 11]) (rest := []) ⟨hx, hb, hml, hown, hts⟩ hK hP hA hS hZ (c_X12_begins_11_0 l D cI cL ad zz hJ σ τ h55_55) cw_RX12_379 (jc_55 cI cL ad σ τ) rfl ⟨Nat.le_of_ble_eq_true rfl, Nat.le_of_ble_eq_true rfl⟩ rfl rfl rfl hl.1 rfl (Nat.le_of_ble_eq_true rfl) dX12_givesAs_58 ⟨Nat.zero_le _, Nat.zero_le _⟩ (fun σ1 τ1 H locs h1 hP hS => ?_)
  obtain ⟨rfl, f3, f4, f5, m6, m7, h1⟩ := h1
  refine lv_iload_n hx hb dX12_givesAs_61 rfl (lv_at hl 2 rfl) ?_
  refine lv_aload_n hx hb dX12_givesAs_62 rfl (lv_at hl 0 rfl) ?_
  refine va_get (D := D) hx hb hts inlX12 hown hK hP 55 (jc_55 cI cL ad σ1 τ) rfl 57 (by decide) (hts _ kw_49_9) (fun _ h9 => h9) rfl dX12_givesAs_63 ?_
  have m8 : σ1 55 57 = (σ 55 57) := (by rw [f4 57 (by omega)])
  refine jtopr m8 ?_
  refine lv_ixor hx hb dX12_givesAs_66 ?_
  refine lv_topi (fun x9 ex9 => ?_)
  have gx9 := jrg (rfl : x9.toInt = x9.toInt)
  exact hret x9 σ1 τ _ _ _ _ rfl ⟨rfl, (fun i hi => by rw [f3 i (by omega)]), (fun k hk => by rw [f4 k (by omega)]), (fun k hk => by rw [f5 k (by omega)]), m6, m7, ⟨(by rw [ex9]), trivial⟩⟩ hP hS dX12_givesAs_67
set_option maxHeartbeats 4000000 in
set_option maxRecDepth 100000 in
theorem c_X12_begins_20_2 (l : Launch) (D : va_G) (cI cL : ClassId) (ad zz : Nat → Nat) (hJ : jD ad) (σ : Nat → Nat → Int32) (τ : Nat → Nat → Int64) (h55_55 : σ 55 55 = 2) : jMv l yX12_begins cX12_begins 2 none ({ frames := 0, cells := 0, slots := 0, locals := 0 }) D cI cL ad zz [.ref (ad 55), .int 20] σ τ (fun σ' τ' => τ = τ' ∧ (∀ i : Nat, (i < 55 ∨ 55 < i) ∧ (i < 85 ∨ 85 < i) → σ' i = σ i) ∧ (∀ k : Nat, (k < 55 ∨ 55 < k) → σ' 55 k = σ 55 k) ∧ (∀ k : Nat, (k < 2 ∨ 2 < k) → σ' 85 k = σ 85 k) ∧ (σ' 55 55 = 3) ∧ (σ' 85 2 = 20) ∧ True) := by
  refine jMv.of hJ (by decide +kernel) rfl (Nat.le_of_ble_eq_true rfl) ?_
  intro p e s m args below meth c Q ls hC hret hl hP
  obtain ⟨hx, hb, hr, hml, hown, hts, hK, -, hlocks, hZ⟩ := hC
  have hown : s.vm.findClass RX12 = some m.cls := hown
  have hS : va_S (jA ad) s.heap s.heap [] := va_S.rf
  have hA : ∀ q, jA ad q → jA ad q := fun _ h => h
  have hl : lv_has ls 2 [(0, .ref (ad 55)), (1, .int 20)] := hl
  refine lv_aload_n hx hb dX12_begins_0 rfl (lv_at hl 0 rfl) ?_
  refine va_get (D := D) hx hb hts inlX12 hown hK hP 55 (jc_55 cI cL ad σ τ) rfl 55 (by decide) (hts _ kw_49_7) (fun _ h9 => h9) rfl dX12_begins_1 ?_
  refine jtopr h55_55 ?_
  refine lv_bipush (v := 24) hx hb dX12_begins_4 (by decide) ?_
  refine lv_icmp_ge (tgt := 19) hx hb dX12_begins_6 (by decide) (fun c => absurd c (by decide)) (fun _ => ?_)
  refine lv_aload_n hx hb dX12_begins_9 rfl (lv_at hl 0 rfl) ?_
  refine va_get (D := D) hx hb hts inlX12 hown hK hP 55 (jc_55 cI cL ad σ τ) rfl 54 (by decide) (hts _ kw_8_10) (fun _ h9 => h9) rfl dX12_begins_10 ?_
  refine lv_aload_n hx hb dX12_begins_13 rfl (lv_at hl 0 rfl) ?_
  refine va_get (D := D) hx hb hts inlX12 hown hK hP 55 (jc_55 cI cL ad σ τ) rfl 55 (by decide) (hts _ kw_49_7) (fun _ h9 => h9) rfl dX12_begins_14 ?_
  refine jtopr h55_55 ?_
  refine lv_iload_n hx hb dX12_begins_17 rfl (lv_at hl 1 rfl) ?_
  refine jast hx hb hK hP hJ hA hS (jc_85 cI cL ad σ τ) (ja_85 cI cL ad σ τ _ _) (jin jz_2 (by omega) (by omega)) dX12_begins_18 (fun σ1 H locs eσ1 hP hS => ?_)
  have eσ1 : σ1 = jup σ 85 2 20 := eσ1
  refine lv_aload_n hx hb dX12_begins_19 rfl (lv_at hl 0 rfl) ?_
  refine lv_dup hx hb dX12_begins_20 rfl ?_
  refine va_get (D := D) hx hb hts inlX12 hown hK hP 55 (jc_55 cI cL ad σ1 τ) rfl 55 (by decide) (hts _ kw_49_7) (fun _ h9 => h9) rfl dX12_begins_21 ?_
  have m2 : σ1 55 55 = 2 := (by rw [eσ1, jup_n (by decide)]; exact h55_55)
  refine jtopr m2 ?_
  refine lv_iconst (v := 1) hx hb dX12_begins_24 (by decide) ?_
  refine lv_iadd hx hb dX12_begins_25 ?_
  refine jtopr (y := 3) (by decide) ?_
  refine jput (ty := .int) hx hb hts inlX12 tyX12 tyX12_ok nmX12 hown hK hP hJ hA hS (jc_55 cI cL ad σ1 τ) rfl (k := 55) (by decide) (Nat.le_of_ble_eq_true rfl) (jp_55_55 cI cL ad σ1 τ 3) (hts _ kw_49_7) (fun _ h9 => h9) rfl (by decide +kernel) rfl rfl dX12_begins_26 (fun σ3 H locs eσ3 hP hS => ?_)
  have m4 : σ3 55 55 = 3 := (by rw [eσ3]; exact jup_s)
  have m5 : σ3 85 2 = 20 := (by rw [eσ3, jup_n (by decide)]; exact (by rw [eσ1]; exact jup_s))
  exact hret σ3 τ _ _ _ _ ⟨rfl, (fun i hi => by rw [eσ3, jup_n (by omega), eσ1, jup_n (by omega)]), (fun k hk => by rw [eσ3, jup_k (by omega), eσ1, jup_n (by decide)]), (fun k hk => by rw [eσ3, jup_n (by decide), eσ1, jup_k (by omega)]), m4, m5, trivial⟩ hP hS dX12_begins_29
set_option maxHeartbeats 4000000 in
set_option maxRecDepth 100000 in
theorem c_X12_begins_1_3 (l : Launch) (D : va_G) (cI cL : ClassId) (ad zz : Nat → Nat) (hJ : jD ad) (σ : Nat → Nat → Int32) (τ : Nat → Nat → Int64) (h55_55 : σ 55 55 = 3) : jMv l yX12_begins cX12_begins 2 none ({ frames := 0, cells := 0, slots := 0, locals := 0 }) D cI cL ad zz [.ref (ad 55), .int 1] σ τ (fun σ' τ' => τ = τ' ∧ (∀ i : Nat, (i < 55 ∨ 55 < i) ∧ (i < 85 ∨ 85 < i) → σ' i = σ i) ∧ (∀ k : Nat, (k < 55 ∨ 55 < k) → σ' 55 k = σ 55 k) ∧ (∀ k : Nat, (k < 3 ∨ 3 < k) → σ' 85 k = σ 85 k) ∧ (σ' 55 55 = 4) ∧ (σ' 85 3 = 1) ∧ True) := by
  refine jMv.of hJ (by decide +kernel) rfl (Nat.le_of_ble_eq_true rfl) ?_
  intro p e s m args below meth c Q ls hC hret hl hP
  obtain ⟨hx, hb, hr, hml, hown, hts, hK, -, hlocks, hZ⟩ := hC
  have hown : s.vm.findClass RX12 = some m.cls := hown
  have hS : va_S (jA ad) s.heap s.heap [] := va_S.rf
  have hA : ∀ q, jA ad q → jA ad q := fun _ h => h
  have hl : lv_has ls 2 [(0, .ref (ad 55)), (1, .int 1)] := hl
  refine lv_aload_n hx hb dX12_begins_0 rfl (lv_at hl 0 rfl) ?_
  refine va_get (D := D) hx hb hts inlX12 hown hK hP 55 (jc_55 cI cL ad σ τ) rfl 55 (by decide) (hts _ kw_49_7) (fun _ h9 => h9) rfl dX12_begins_1 ?_
  refine jtopr h55_55 ?_
  refine lv_bipush (v := 24) hx hb dX12_begins_4 (by decide) ?_
  refine lv_icmp_ge (tgt := 19) hx hb dX12_begins_6 (by decide) (fun c => absurd c (by decide)) (fun _ => ?_)
  refine lv_aload_n hx hb dX12_begins_9 rfl (lv_at hl 0 rfl) ?_
  refine va_get (D := D) hx hb hts inlX12 hown hK hP 55 (jc_55 cI cL ad σ τ) rfl 54 (by decide) (hts _ kw_8_10) (fun _ h9 => h9) rfl dX12_begins_10 ?_
  refine lv_aload_n hx hb dX12_begins_13 rfl (lv_at hl 0 rfl) ?_
  refine va_get (D := D) hx hb hts inlX12 hown hK hP 55 (jc_55 cI cL ad σ τ) rfl 55 (by decide) (hts _ kw_49_7) (fun _ h9 => h9) rfl dX12_begins_14 ?_
  refine jtopr h55_55 ?_
  refine lv_iload_n hx hb dX12_begins_17 rfl (lv_at hl 1 rfl) ?_
  refine jast hx hb hK hP hJ hA hS (jc_85 cI cL ad σ τ) (ja_85 cI cL ad σ τ _ _) (jin jz_3 (by omega) (by omega)) dX12_begins_18 (fun σ1 H locs eσ1 hP hS => ?_)
  have eσ1 : σ1 = jup σ 85 3 1 := eσ1
  refine lv_aload_n hx hb dX12_begins_19 rfl (lv_at hl 0 rfl) ?_
  refine lv_dup hx hb dX12_begins_20 rfl ?_
  refine va_get (D := D) hx hb hts inlX12 hown hK hP 55 (jc_55 cI cL ad σ1 τ) rfl 55 (by decide) (hts _ kw_49_7) (fun _ h9 => h9) rfl dX12_begins_21 ?_
  have m2 : σ1 55 55 = 3 := (by rw [eσ1, jup_n (by decide)]; exact h55_55)
  refine jtopr m2 ?_
  refine lv_iconst (v := 1) hx hb dX12_begins_24 (by decide) ?_
  refine lv_iadd hx hb dX12_begins_25 ?_
  refine jtopr (y := 4) (by decide) ?_
  refine jput (ty := .int) hx hb hts inlX12 tyX12 tyX12_ok nmX12 hown hK hP hJ hA hS (jc_55 cI cL ad σ1 τ) rfl (k := 55) (by decide) (Nat.le_of_ble_eq_true rfl) (jp_55_55 cI cL ad σ1 τ 4) (hts _ kw_49_7) (fun _ h9 => h9) rfl (by decide +kernel) rfl rfl dX12_begins_26 (fun σ3 H locs eσ3 hP hS => ?_)
  have m4 : σ3 55 55 = 4 := (by rw [eσ3]; exact jup_s)
  have m5 : σ3 85 3 = 1 := (by rw [eσ3, jup_n (by decide)]; exact (by rw [eσ1]; exact jup_s))
  exact hret σ3 τ _ _ _ _ ⟨rfl, (fun i hi => by rw [eσ3, jup_n (by omega), eσ1, jup_n (by omega)]), (fun k hk => by rw [eσ3, jup_k (by omega), eσ1, jup_n (by decide)]), (fun k hk => by rw [eσ3, jup_n (by decide), eσ1, jup_k (by omega)]), m4, m5, trivial⟩ hP hS dX12_begins_29
set_option maxHeartbeats 4000000 in
set_option maxRecDepth 100000 in
theorem c_X12_putsAs_1_0_3 (l : Launch) (D : va_G) (cI cL : ClassId) (ad zz : Nat → Nat) (hJ : jD ad) (σ : Nat → Nat → Int32) (τ : Nat → Nat → Int64) (a2 : Int32) (A2 : Int) (t2 : a2.toInt = A2) (h55_55 : σ 55 55 = 3) (hp0 : (σ 55 56).toInt = 1) : jM l yX12_putsAs cX12_putsAs 3 (some .int) ({ frames := 1, cells := 0, slots := 0, locals := 21 }) D cI cL ad zz [.ref (ad 55), .int 0, .int a2] σ τ (fun r σ' τ' => τ = τ' ∧ (∀ i : Nat, (i < 55 ∨ 55 < i) ∧ (i < 85 ∨ 85 < i) → σ' i = σ i) ∧ (∀ k : Nat, (k < 55 ∨ 55 < k) → σ' 55 k = σ 55 k) ∧ (∀ k : Nat, (k < 3 ∨ 3 < k) → σ' 85 k = σ 85 k) ∧ (σ' 55 55 = 4) ∧ (σ' 85 3 = 1) ∧ ((r = (a2 + (σ 55 57)) ∧ True))) := by
  refine jM.of hJ (by decide +kernel) (nt := .int) rfl (Nat.le_of_ble_eq_true rfl) ?_
  intro p e s m args below meth c Q ls hC hret hl hP
  obtain ⟨hx, hb, hr, hml, hown, hts, hK, -, hlocks, hZ⟩ := hC
  have hown : s.vm.findClass RX12 = some m.cls := hown
  have hS : va_S (jA ad) s.heap s.heap [] := va_S.rf
  have hA : ∀ q, jA ad q → jA ad q := fun _ h => h
  have hl : lv_has ls 3 [(0, .ref (ad 55)), (1, .int 0), (2, .int a2)] := hl
  have g2 := jrg t2
  refine lv_iload_n hx hb dX12_putsAs_0 rfl (lv_at hl 1 rfl) ?_
  refine lv_iconst (v := 4) hx hb dX12_putsAs_1 (by decide) ?_
  refine lv_icmp_ne (tgt := 20) hx hb dX12_putsAs_2 (by decide) (fun _ => ?_) (fun c => absurd c (by decide))
  refine lv_iload_n hx hb dX12_putsAs_20 rfl (lv_at hl 1 rfl) ?_
  refine lv_iconst (v := 1) hx hb dX12_putsAs_21 (by decide) ?_
  refine lv_icmp_ne (tgt := 40) hx hb dX12_putsAs_22 (by decide) (fun _ => ?_) (fun c => absurd c (by decide))
  refine lv_aload_n hx hb dX12_putsAs_40 rfl (lv_at hl 0 rfl) ?_
  refine lv_iconst (v := 1) hx hb dX12_putsAs_41 (by decide) ?_
  refine jcallVv (As := [.int 1]) (rest := []) ⟨hx, hb, hml, hown, hts⟩ hK hP hA hS hZ (c_X12_begins_1_3 l D cI cL ad zz hJ σ τ h55_55) cw_RX12_379 (jc_55 cI cL ad σ τ) rfl ⟨Nat.le_of_ble_eq_true rfl, Nat.le_of_ble_eq_true rfl⟩ rfl rfl rfl hl.1 rfl (Nat.le_of_ble_eq_true rfl) dX12_putsAs_42 ⟨Nat.zero_le _, Nat.zero_le _⟩ (fun σ1 τ1 H locs h1 hP hS => ?_)
  obtain ⟨rfl, f3, f4, f5, m6, m7, h1⟩ := h1
  refine lv_iload_n hx hb dX12_putsAs_45 rfl (lv_at hl 2 rfl) ?_
  refine lv_aload_n hx hb dX12_putsAs_46 rfl (lv_at hl 0 rfl) ?_
  refine va_get (D := D) hx hb hts inlX12 hown hK hP 55 (jc_55 cI cL ad σ1 τ) rfl 57 (by decide) (hts _ kw_49_9) (fun _ h9 => h9) rfl dX12_putsAs_47 ?_
  have m8 : σ1 55 57 = (σ 55 57) := (by rw [f4 57 (by omega)])
  refine jtopr m8 ?_
  have g9 := jrg (rfl : (σ 55 57).toInt = (σ 55 57).toInt)
  refine lv_iadd hx hb dX12_putsAs_50 ?_
  refine lv_topi (fun x10 ex10 => ?_)
  have gx10 := jrg (rfl : x10.toInt = x10.toInt)
  exact hret x10 σ1 τ _ _ _ _ rfl ⟨rfl, (fun i hi => by rw [f3 i (by omega)]), (fun k hk => by rw [f4 k (by omega)]), (fun k hk => by rw [f5 k (by omega)]), m6, m7, ⟨(by rw [ex10]), trivial⟩⟩ hP hS dX12_putsAs_51
set_option maxHeartbeats 4000000 in
set_option maxRecDepth 100000 in
theorem c_X12_putsAs_1_1_2 (l : Launch) (D : va_G) (cI cL : ClassId) (ad zz : Nat → Nat) (hJ : jD ad) (σ : Nat → Nat → Int32) (τ : Nat → Nat → Int64) (a2 : Int32) (A2 : Int) (t2 : a2.toInt = A2) (h55_55 : σ 55 55 = 2) (hp0 : (σ 55 56).toInt = 1) : jM l yX12_putsAs cX12_putsAs 3 (some .int) ({ frames := 2, cells := 0, slots := 0, locals := 43 }) D cI cL ad zz [.ref (ad 55), .int 1, .int a2] σ τ (fun r σ' τ' => τ = τ' ∧ (∀ i : Nat, (i < 55 ∨ 55 < i) ∧ (i < 85 ∨ 85 < i) → σ' i = σ i) ∧ (∀ k : Nat, (k < 55 ∨ 55 < k) → σ' 55 k = σ 55 k) ∧ (∀ k : Nat, (k < 2 ∨ 2 < k) ∧ (k < 3 ∨ 3 < k) → σ' 85 k = σ 85 k) ∧ (σ' 55 55 = 4) ∧ (σ' 85 2 = 20) ∧ (σ' 85 3 = 1) ∧ ((r = ((a2 + (σ 55 57)) + 3) ∧ True))) := by
  refine jM.of hJ (by decide +kernel) (nt := .int) rfl (Nat.le_of_ble_eq_true rfl) ?_
  intro p e s m args below meth c Q ls hC hret hl hP
  obtain ⟨hx, hb, hr, hml, hown, hts, hK, -, hlocks, hZ⟩ := hC
  have hown : s.vm.findClass RX12 = some m.cls := hown
  have hS : va_S (jA ad) s.heap s.heap [] := va_S.rf
  have hA : ∀ q, jA ad q → jA ad q := fun _ h => h
  have hl : lv_has ls 3 [(0, .ref (ad 55)), (1, .int 1), (2, .int a2)] := hl
  have g2 := jrg t2
  refine lv_iload_n hx hb dX12_putsAs_0 rfl (lv_at hl 1 rfl) ?_
  refine lv_iconst (v := 4) hx hb dX12_putsAs_1 (by decide) ?_
  refine lv_icmp_ne (tgt := 20) hx hb dX12_putsAs_2 (by decide) (fun _ => ?_) (fun c => absurd c (by decide))
  refine lv_iload_n hx hb dX12_putsAs_20 rfl (lv_at hl 1 rfl) ?_
  refine lv_iconst (v := 1) hx hb dX12_putsAs_21 (by decide) ?_
  refine lv_icmp_ne (tgt := 40) hx hb dX12_putsAs_22 (by decide) (fun c => absurd (by decide) c) (fun _ => ?_)
  refine lv_aload_n hx hb dX12_putsAs_25 rfl (lv_at hl 0 rfl) ?_
  refine lv_bipush (v := 20) hx hb dX12_putsAs_26 (by decide) ?_
  refine jcallVv (As := [.int 20]) (rest := []) ⟨hx, hb, hml, hown, hts⟩ hK hP hA hS hZ (c_X12_begins_20_2 l D cI cL ad zz hJ σ τ h55_55) cw_RX12_379 (jc_55 cI cL ad σ τ) rfl ⟨Nat.le_of_ble_eq_true rfl, Nat.le_of_ble_eq_true rfl⟩ rfl rfl rfl hl.1 rfl (Nat.le_of_ble_eq_true rfl) dX12_putsAs_28 ⟨Nat.zero_le _, Nat.zero_le _⟩ (fun σ1 τ1 H locs h1 hP hS => ?_)
  obtain ⟨rfl, f3, f4, f5, m6, m7, h1⟩ := h1
  refine lv_aload_n hx hb dX12_putsAs_31 rfl (lv_at hl 0 rfl) ?_
  refine lv_iconst (v := 0) hx hb dX12_putsAs_32 (by decide) ?_
  refine lv_iload_n hx hb dX12_putsAs_33 rfl (lv_at hl 2 rfl) ?_
  have z8 : (σ1 55 56).toInt = (σ 55 56).toInt := by rw [(show σ1 55 56 = (σ 55 56) from (by rw [f4 56 (by omega)]))]
  refine jcallV (As := [.int 0, .int a2]) (rest := []) ⟨hx, hb, hml, hown, hts⟩ hK hP hA hS hZ (c_X12_putsAs_1_0_3 l D cI cL ad zz hJ σ1 τ a2 (A2) t2 m6 (by omega)) cw_RX12_382 (jc_55 cI cL ad σ1 τ) rfl ⟨Nat.le_of_ble_eq_true rfl, Nat.le_of_ble_eq_true rfl⟩ rfl rfl rfl hl.1 rfl (Nat.le_of_ble_eq_true rfl) dX12_putsAs_34 ⟨Nat.zero_le _, Nat.zero_le _⟩ (fun r10 σ9 τ9 H locs h9 hP hS => ?_)
  obtain ⟨rfl, f11, f12, f13, m14, m15, h9⟩ := h9
  have h16 := h9
  obtain ⟨q18, k17⟩ := h16
  have q18 := q18.symm
  subst q18
  refine lv_iconst (v := 3) hx hb dX12_putsAs_37 (by decide) ?_
  have g19 := jrg (rfl : (a2 + (σ1 55 57)).toInt = (a2 + (σ1 55 57)).toInt)
  refine lv_iadd hx hb dX12_putsAs_38 ?_
  refine lv_topi (fun x20 ex20 => ?_)
  have gx20 := jrg (rfl : x20.toInt = x20.toInt)
  have m21 : σ9 85 2 = 20 := (by rw [f13 2 (by omega)]; exact m7)
  exact hret x20 σ9 τ _ _ _ _ rfl ⟨rfl, (fun i hi => by rw [f11 i (by omega), f3 i (by omega)]), (fun k hk => by rw [f12 k (by omega), f4 k (by omega)]), (fun k hk => by rw [f13 k (by omega), f5 k (by omega)]), m14, m21, m15, ⟨(by rw [ex20, (show σ1 55 57 = σ 55 57 from (by rw [f4 57 (by omega)]))]), trivial⟩⟩ hP hS dX12_putsAs_39
set_option maxHeartbeats 4000000 in
set_option maxRecDepth 100000 in
theorem c_X12_holdsAs_1_1_1 (l : Launch) (D : va_G) (cI cL : ClassId) (ad zz : Nat → Nat) (hJ : jD ad) (σ : Nat → Nat → Int32) (τ : Nat → Nat → Int64) (a2 : Int32) (A2 : Int) (t2 : a2.toInt = A2) (h55_55 : σ 55 55 = 1) (hp0 : (σ 55 56).toInt = 1) : jM l yX12_holdsAs cX12_holdsAs 4 (some .int) ({ frames := 3, cells := 0, slots := 0, locals := 65 }) D cI cL ad zz [.ref (ad 55), .int 1, .int a2] σ τ (fun r σ' τ' => τ = τ' ∧ (∀ i : Nat, (i < 55 ∨ 55 < i) ∧ (i < 85 ∨ 85 < i) → σ' i = σ i) ∧ (∀ k : Nat, (k < 55 ∨ 55 < k) → σ' 55 k = σ 55 k) ∧ (∀ k : Nat, (k < 1 ∨ 1 < k) ∧ (k < 2 ∨ 2 < k) ∧ (k < 3 ∨ 3 < k) → σ' 85 k = σ 85 k) ∧ (σ' 55 55 = 4) ∧ (σ' 85 1 = 10) ∧ (σ' 85 2 = 20) ∧ (σ' 85 3 = 1) ∧ ((r = (((a2 + (σ 55 57)) + 3) * 2) ∧ True))) := by
  refine jM.of hJ (by decide +kernel) (nt := .int) rfl (Nat.le_of_ble_eq_true rfl) ?_
  intro p e s m args below meth c Q ls hC hret hl hP
  obtain ⟨hx, hb, hr, hml, hown, hts, hK, -, hlocks, hZ⟩ := hC
  have hown : s.vm.findClass RX12 = some m.cls := hown
  have hS : va_S (jA ad) s.heap s.heap [] := va_S.rf
  have hA : ∀ q, jA ad q → jA ad q := fun _ h => h
  have hl : lv_has ls 4 [(0, .ref (ad 55)), (1, .int 1), (2, .int a2)] := hl
  have g2 := jrg t2
  refine lv_iload_n hx hb dX12_holdsAs_0 rfl (lv_at hl 1 rfl) ?_
  refine lv_iconst (v := 3) hx hb dX12_holdsAs_1 (by decide) ?_
  refine lv_icmp_eq (tgt := 10) hx hb dX12_holdsAs_2 (by decide) (fun c => absurd c (by decide)) (fun _ => ?_)
  refine lv_iload_n hx hb dX12_holdsAs_5 rfl (lv_at hl 1 rfl) ?_
  refine lv_iconst (v := 5) hx hb dX12_holdsAs_6 (by decide) ?_
  refine lv_icmp_ne (tgt := 24) hx hb dX12_holdsAs_7 (by decide) (fun _ => ?_) (fun c => absurd c (by decide))
  refine lv_iload_n hx hb dX12_holdsAs_24 rfl (lv_at hl 1 rfl) ?_
  refine lv_bipush (v := 6) hx hb dX12_holdsAs_25 (by decide) ?_
  refine lv_icmp_ne (tgt := 55) hx hb dX12_holdsAs_27 (by decide) (fun _ => ?_) (fun c => absurd c (by decide))
  refine lv_aload_n hx hb dX12_holdsAs_55 rfl (lv_at hl 0 rfl) ?_
  refine lv_bipush (v := 10) hx hb dX12_holdsAs_56 (by decide) ?_
  refine jcallVv (As := [.int 10]) (rest := []) ⟨hx, hb, hml, hown, hts⟩ hK hP hA hS hZ (c_X12_begins_10_1 l D cI cL ad zz hJ σ τ h55_55) cw_RX12_379 (jc_55 cI cL ad σ τ) rfl ⟨Nat.le_of_ble_eq_true rfl, Nat.le_of_ble_eq_true rfl⟩ rfl rfl rfl hl.1 rfl (Nat.le_of_ble_eq_true rfl) dX12_holdsAs_58 ⟨Nat.zero_le _, Nat.zero_le _⟩ (fun σ1 τ1 H locs h1 hP hS => ?_)
  obtain ⟨rfl, f3, f4, f5, m6, m7, h1⟩ := h1
  refine lv_aload_n hx hb dX12_holdsAs_61 rfl (lv_at hl 0 rfl) ?_
  refine lv_aload_n hx hb dX12_holdsAs_62 rfl (lv_at hl 0 rfl) ?_
  refine va_get (D := D) hx hb hts inlX12 hown hK hP 55 (jc_55 cI cL ad σ1 τ) rfl 56 (by decide) (hts _ kw_49_8) (fun _ h9 => h9) rfl dX12_holdsAs_63 ?_
  have m8 : σ1 55 56 = (σ 55 56) := (by rw [f4 56 (by omega)])
  refine jtopr m8 ?_
  refine jtopr (jsame (rfl : (σ 55 56).toInt = (σ 55 56).toInt) jz_1 (by omega)) ?_
  refine lv_iload_n hx hb dX12_holdsAs_66 rfl (lv_at hl 2 rfl) ?_
  have z9 : (σ1 55 56).toInt = (σ 55 56).toInt := by rw [(show σ1 55 56 = (σ 55 56) from m8)]
  refine jcallV (As := [.int 1, .int a2]) (rest := []) ⟨hx, hb, hml, hown, hts⟩ hK hP hA hS hZ (c_X12_putsAs_1_1_2 l D cI cL ad zz hJ σ1 τ a2 (A2) t2 m6 (by omega)) cw_RX12_382 (jc_55 cI cL ad σ1 τ) rfl ⟨Nat.le_of_ble_eq_true rfl, Nat.le_of_ble_eq_true rfl⟩ rfl rfl rfl hl.1 rfl (Nat.le_of_ble_eq_true rfl) dX12_holdsAs_67 ⟨Nat.zero_le _, Nat.zero_le _⟩ (fun r11 σ10 τ10 H locs h10 hP hS => ?_)
  obtain ⟨rfl, f12, f13, f14, m15, m16, m17, h10⟩ := h10
  have h18 := h10
  obtain ⟨q20, k19⟩ := h18
  have q20 := q20.symm
  subst q20
  refine lv_iconst (v := 2) hx hb dX12_holdsAs_70 (by decide) ?_
  have g21 := jrg (rfl : ((a2 + (σ1 55 57)) + 3).toInt = ((a2 + (σ1 55 57)) + 3).toInt)
  refine lv_imul hx hb dX12_holdsAs_71 ?_
  refine lv_topi (fun x22 ex22 => ?_)
  have gx22 := jrg (rfl : x22.toInt = x22.toInt)
  have m23 : σ10 85 1 = 10 := (by rw [f14 1 (by omega)]; exact m7)
  exact hret x22 σ10 τ _ _ _ _ rfl ⟨rfl, (fun i hi => by rw [f12 i (by omega), f3 i (by omega)]), (fun k hk => by rw [f13 k (by omega), f4 k (by omega)]), (fun k hk => by rw [f14 k (by omega), f5 k (by omega)]), m15, m23, m16, m17, ⟨(by rw [ex22, (show σ1 55 57 = σ 55 57 from (by rw [f4 57 (by omega)]))]), trivial⟩⟩ hP hS dX12_holdsAs_72
set_option maxHeartbeats 4000000 in
set_option maxRecDepth 100000 in
theorem c_X12_begins_11_4 (l : Launch) (D : va_G) (cI cL : ClassId) (ad zz : Nat → Nat) (hJ : jD ad) (σ : Nat → Nat → Int32) (τ : Nat → Nat → Int64) (h55_55 : σ 55 55 = 4) : jMv l yX12_begins cX12_begins 2 none ({ frames := 0, cells := 0, slots := 0, locals := 0 }) D cI cL ad zz [.ref (ad 55), .int 11] σ τ (fun σ' τ' => τ = τ' ∧ (∀ i : Nat, (i < 55 ∨ 55 < i) ∧ (i < 85 ∨ 85 < i) → σ' i = σ i) ∧ (∀ k : Nat, (k < 55 ∨ 55 < k) → σ' 55 k = σ 55 k) ∧ (∀ k : Nat, (k < 4 ∨ 4 < k) → σ' 85 k = σ 85 k) ∧ (σ' 55 55 = 5) ∧ (σ' 85 4 = 11) ∧ True) := by
  refine jMv.of hJ (by decide +kernel) rfl (Nat.le_of_ble_eq_true rfl) ?_
  intro p e s m args below meth c Q ls hC hret hl hP
  obtain ⟨hx, hb, hr, hml, hown, hts, hK, -, hlocks, hZ⟩ := hC
  have hown : s.vm.findClass RX12 = some m.cls := hown
  have hS : va_S (jA ad) s.heap s.heap [] := va_S.rf
  have hA : ∀ q, jA ad q → jA ad q := fun _ h => h
  have hl : lv_has ls 2 [(0, .ref (ad 55)), (1, .int 11)] := hl
  refine lv_aload_n hx hb dX12_begins_0 rfl (lv_at hl 0 rfl) ?_
  refine va_get (D := D) hx hb hts inlX12 hown hK hP 55 (jc_55 cI cL ad σ τ) rfl 55 (by decide) (hts _ kw_49_7) (fun _ h9 => h9) rfl dX12_begins_1 ?_
  refine jtopr h55_55 ?_
  refine lv_bipush (v := 24) hx hb dX12_begins_4 (by decide) ?_
  refine lv_icmp_ge (tgt := 19) hx hb dX12_begins_6 (by decide) (fun c => absurd c (by decide)) (fun _ => ?_)
  refine lv_aload_n hx hb dX12_begins_9 rfl (lv_at hl 0 rfl) ?_
  refine va_get (D := D) hx hb hts inlX12 hown hK hP 55 (jc_55 cI cL ad σ τ) rfl 54 (by decide) (hts _ kw_8_10) (fun _ h9 => h9) rfl dX12_begins_10 ?_
  refine lv_aload_n hx hb dX12_begins_13 rfl (lv_at hl 0 rfl) ?_
  refine va_get (D := D) hx hb hts inlX12 hown hK hP 55 (jc_55 cI cL ad σ τ) rfl 55 (by decide) (hts _ kw_49_7) (fun _ h9 => h9) rfl dX12_begins_14 ?_
  refine jtopr h55_55 ?_
  refine lv_iload_n hx hb dX12_begins_17 rfl (lv_at hl 1 rfl) ?_
  refine jast hx hb hK hP hJ hA hS (jc_85 cI cL ad σ τ) (ja_85 cI cL ad σ τ _ _) (jin jz_4 (by omega) (by omega)) dX12_begins_18 (fun σ1 H locs eσ1 hP hS => ?_)
  have eσ1 : σ1 = jup σ 85 4 11 := eσ1
  refine lv_aload_n hx hb dX12_begins_19 rfl (lv_at hl 0 rfl) ?_
  refine lv_dup hx hb dX12_begins_20 rfl ?_
  refine va_get (D := D) hx hb hts inlX12 hown hK hP 55 (jc_55 cI cL ad σ1 τ) rfl 55 (by decide) (hts _ kw_49_7) (fun _ h9 => h9) rfl dX12_begins_21 ?_
  have m2 : σ1 55 55 = 4 := (by rw [eσ1, jup_n (by decide)]; exact h55_55)
  refine jtopr m2 ?_
  refine lv_iconst (v := 1) hx hb dX12_begins_24 (by decide) ?_
  refine lv_iadd hx hb dX12_begins_25 ?_
  refine jtopr (y := 5) (by decide) ?_
  refine jput (ty := .int) hx hb hts inlX12 tyX12 tyX12_ok nmX12 hown hK hP hJ hA hS (jc_55 cI cL ad σ1 τ) rfl (k := 55) (by decide) (Nat.le_of_ble_eq_true rfl) (jp_55_55 cI cL ad σ1 τ 5) (hts _ kw_49_7) (fun _ h9 => h9) rfl (by decide +kernel) rfl rfl dX12_begins_26 (fun σ3 H locs eσ3 hP hS => ?_)
  have m4 : σ3 55 55 = 5 := (by rw [eσ3]; exact jup_s)
  have m5 : σ3 85 4 = 11 := (by rw [eσ3, jup_n (by decide)]; exact (by rw [eσ1]; exact jup_s))
  exact hret σ3 τ _ _ _ _ ⟨rfl, (fun i hi => by rw [eσ3, jup_n (by omega), eσ1, jup_n (by omega)]), (fun k hk => by rw [eσ3, jup_k (by omega), eσ1, jup_n (by decide)]), (fun k hk => by rw [eσ3, jup_n (by decide), eσ1, jup_k (by omega)]), m4, m5, trivial⟩ hP hS dX12_begins_29
set_option maxHeartbeats 4000000 in
set_option maxRecDepth 100000 in
theorem c_X12_givesAs_1_1_4_x1 (l : Launch) (D : va_G) (cI cL : ClassId) (ad zz : Nat → Nat) (hJ : jD ad) (σ : Nat → Nat → Int32) (τ : Nat → Nat → Int64) (h55_55 : σ 55 55 = 4) (hp0 : (σ 55 56).toInt = 1) : jM l yX12_givesAs cX12_givesAs 4 (some .int) ({ frames := 1, cells := 0, slots := 0, locals := 21 }) D cI cL ad zz [.ref (ad 55), .int 1, .int 1] σ τ (fun r σ' τ' => τ = τ' ∧ (∀ i : Nat, (i < 55 ∨ 55 < i) ∧ (i < 85 ∨ 85 < i) → σ' i = σ i) ∧ (∀ k : Nat, (k < 55 ∨ 55 < k) → σ' 55 k = σ 55 k) ∧ (∀ k : Nat, (k < 4 ∨ 4 < k) → σ' 85 k = σ 85 k) ∧ (σ' 55 55 = 5) ∧ (σ' 85 4 = 11) ∧ ((r = (1 ^^^ (σ 55 57)) ∧ True))) := by
  refine jM.of hJ (by decide +kernel) (nt := .int) rfl (Nat.le_of_ble_eq_true rfl) ?_
  intro p e s m args below meth c Q ls hC hret hl hP
  obtain ⟨hx, hb, hr, hml, hown, hts, hK, -, hlocks, hZ⟩ := hC
  have hown : s.vm.findClass RX12 = some m.cls := hown
  have hS : va_S (jA ad) s.heap s.heap [] := va_S.rf
  have hA : ∀ q, jA ad q → jA ad q := fun _ h => h
  have hl : lv_has ls 4 [(0, .ref (ad 55)), (1, .int 1), (2, .int 1)] := hl
  refine lv_iload_n hx hb dX12_givesAs_0 rfl (lv_at hl 1 rfl) ?_
  refine lv_iconst (v := 5) hx hb dX12_givesAs_1 (by decide) ?_
  refine lv_icmp_ne (tgt := 30) hx hb dX12_givesAs_2 (by decide) (fun _ => ?_) (fun c => absurd c (by decide))
  refine lv_iload_n hx hb dX12_givesAs_30 rfl (lv_at hl 1 rfl) ?_
  refine lv_iconst (v := 2) hx hb dX12_givesAs_31 (by decide) ?_
  refine lv_icmp_eq (tgt := 40) hx hb dX12_givesAs_32 (by decide) (fun c => absurd c (by decide)) (fun _ => ?_)
  refine lv_iload_n hx hb dX12_givesAs_35 rfl (lv_at hl 1 rfl) ?_
  refine lv_iconst (v := 3) hx hb dX12_givesAs_36 (by decide) ?_
  refine lv_icmp_ne (tgt := 55) hx hb dX12_givesAs_37 (by decide) (fun _ => ?_) (fun c => absurd c (by decide))
  refine lv_aload_n hx hb dX12_givesAs_55 rfl (lv_at hl 0 rfl) ?_
  refine lv_bipush (v := 11) hx hb dX12_givesAs_56 (by decide) ?_
  refine jcallVv (As := [.int 11]) (rest := []) ⟨hx, hb, hml, hown, hts⟩ hK hP hA hS hZ (c_X12_begins_11_4 l D cI cL ad zz hJ σ τ h55_55) cw_RX12_379 (jc_55 cI cL ad σ τ) rfl ⟨Nat.le_of_ble_eq_true rfl, Nat.le_of_ble_eq_true rfl⟩ rfl rfl rfl hl.1 rfl (Nat.le_of_ble_eq_true rfl) dX12_givesAs_58 ⟨Nat.zero_le _, Nat.zero_le _⟩ (fun σ1 τ1 H locs h1 hP hS => ?_)
  obtain ⟨rfl, f3, f4, f5, m6, m7, h1⟩ := h1
  refine lv_iload_n hx hb dX12_givesAs_61 rfl (lv_at hl 2 rfl) ?_
  refine lv_aload_n hx hb dX12_givesAs_62 rfl (lv_at hl 0 rfl) ?_
  refine va_get (D := D) hx hb hts inlX12 hown hK hP 55 (jc_55 cI cL ad σ1 τ) rfl 57 (by decide) (hts _ kw_49_9) (fun _ h9 => h9) rfl dX12_givesAs_63 ?_
  have m8 : σ1 55 57 = (σ 55 57) := (by rw [f4 57 (by omega)])
  refine jtopr m8 ?_
  refine lv_ixor hx hb dX12_givesAs_66 ?_
  refine lv_topi (fun x9 ex9 => ?_)
  have gx9 := jrg (rfl : x9.toInt = x9.toInt)
  exact hret x9 σ1 τ _ _ _ _ rfl ⟨rfl, (fun i hi => by rw [f3 i (by omega)]), (fun k hk => by rw [f4 k (by omega)]), (fun k hk => by rw [f5 k (by omega)]), m6, m7, ⟨(by rw [ex9]), trivial⟩⟩ hP hS dX12_givesAs_67
set_option maxHeartbeats 4000000 in
set_option maxRecDepth 100000 in
theorem c_X12_tellsAs_1_1_0 (l : Launch) (D : va_G) (cI cL : ClassId) (ad zz : Nat → Nat) (hJ : jD ad) (σ : Nat → Nat → Int32) (τ : Nat → Nat → Int64) (a2 : Int32) (A2 : Int) (t2 : a2.toInt = A2) (h55_55 : σ 55 55 = 0) (hp0 : (σ 55 56).toInt = 1) : jM l yX12_tellsAs cX12_tellsAs 4 (some .int) ({ frames := 4, cells := 0, slots := 0, locals := 88 }) D cI cL ad zz [.ref (ad 55), .int 1, .int a2] σ τ (fun r σ' τ' => τ = τ' ∧ (∀ i : Nat, (i < 55 ∨ 55 < i) ∧ (i < 85 ∨ 85 < i) → σ' i = σ i) ∧ (∀ k : Nat, (k < 55 ∨ 55 < k) → σ' 55 k = σ 55 k) ∧ (∀ k : Nat, (k < 0 ∨ 0 < k) ∧ (k < 1 ∨ 1 < k) ∧ (k < 2 ∨ 2 < k) ∧ (k < 3 ∨ 3 < k) ∧ (k < 4 ∨ 4 < k) → σ' 85 k = σ 85 k) ∧ (σ' 55 55 = 5) ∧ (σ' 85 0 = 2) ∧ (σ' 85 1 = 10) ∧ (σ' 85 2 = 20) ∧ (σ' 85 3 = 1) ∧ (σ' 85 4 = 11) ∧ ((r = ((((a2 + (σ 55 57)) + 3) * 2) - (1 ^^^ (σ 55 57))) ∧ True))) := by
  refine jM.of hJ (by decide +kernel) (nt := .int) rfl (Nat.le_of_ble_eq_true rfl) ?_
  intro p e s m args below meth c Q ls hC hret hl hP
  obtain ⟨hx, hb, hr, hml, hown, hts, hK, -, hlocks, hZ⟩ := hC
  have hown : s.vm.findClass RX12 = some m.cls := hown
  have hS : va_S (jA ad) s.heap s.heap [] := va_S.rf
  have hA : ∀ q, jA ad q → jA ad q := fun _ h => h
  have hl : lv_has ls 4 [(0, .ref (ad 55)), (1, .int 1), (2, .int a2)] := hl
  have g2 := jrg t2
  refine lv_iload_n hx hb dX12_tellsAs_0 rfl (lv_at hl 1 rfl) ?_
  refine lv_iconst (v := 4) hx hb dX12_tellsAs_1 (by decide) ?_
  refine lv_icmp_ne (tgt := 20) hx hb dX12_tellsAs_2 (by decide) (fun _ => ?_) (fun c => absurd c (by decide))
  refine lv_aload_n hx hb dX12_tellsAs_20 rfl (lv_at hl 0 rfl) ?_
  refine lv_iconst (v := 2) hx hb dX12_tellsAs_21 (by decide) ?_
  refine jcallVv (As := [.int 2]) (rest := []) ⟨hx, hb, hml, hown, hts⟩ hK hP hA hS hZ (c_X12_begins_2_0 l D cI cL ad zz hJ σ τ h55_55) cw_RX12_379 (jc_55 cI cL ad σ τ) rfl ⟨Nat.le_of_ble_eq_true rfl, Nat.le_of_ble_eq_true rfl⟩ rfl rfl rfl hl.1 rfl (Nat.le_of_ble_eq_true rfl) dX12_tellsAs_22 ⟨Nat.zero_le _, Nat.zero_le _⟩ (fun σ1 τ1 H locs h1 hP hS => ?_)
  obtain ⟨rfl, f3, f4, f5, m6, m7, h1⟩ := h1
  refine lv_aload_n hx hb dX12_tellsAs_25 rfl (lv_at hl 0 rfl) ?_
  refine lv_aload_n hx hb dX12_tellsAs_26 rfl (lv_at hl 0 rfl) ?_
  refine va_get (D := D) hx hb hts inlX12 hown hK hP 55 (jc_55 cI cL ad σ1 τ) rfl 56 (by decide) (hts _ kw_49_8) (fun _ h9 => h9) rfl dX12_tellsAs_27 ?_
  have m8 : σ1 55 56 = (σ 55 56) := (by rw [f4 56 (by omega)])
  refine jtopr m8 ?_
  refine jtopr (jsame (rfl : (σ 55 56).toInt = (σ 55 56).toInt) jz_1 (by omega)) ?_
  refine lv_iload_n hx hb dX12_tellsAs_30 rfl (lv_at hl 2 rfl) ?_
  have z9 : (σ1 55 56).toInt = (σ 55 56).toInt := by rw [(show σ1 55 56 = (σ 55 56) from m8)]
  refine jcallV (As := [.int 1, .int a2]) (rest := []) ⟨hx, hb, hml, hown, hts⟩ hK hP hA hS hZ (c_X12_holdsAs_1_1_1 l D cI cL ad zz hJ σ1 τ a2 (A2) t2 m6 (by omega)) cw_RX12_388 (jc_55 cI cL ad σ1 τ) rfl ⟨Nat.le_of_ble_eq_true rfl, Nat.le_of_ble_eq_true rfl⟩ rfl rfl rfl hl.1 rfl (Nat.le_of_ble_eq_true rfl) dX12_tellsAs_31 ⟨Nat.zero_le _, Nat.zero_le _⟩ (fun r11 σ10 τ10 H locs h10 hP hS => ?_)
  obtain ⟨rfl, f12, f13, f14, m15, m16, m17, m18, h10⟩ := h10
  have h19 := h10
  obtain ⟨q21, k20⟩ := h19
  have q21 := q21.symm
  subst q21
  refine lv_istore_n (lv' := [(3, .int (((a2 + (σ1 55 57)) + 3) * 2)), (0, .ref (ad 55)), (1, .int 1), (2, .int a2)]) hx hb dX12_tellsAs_34 rfl hl (by decide) rfl (fun ls hl => ?_)
  refine lv_iload_n hx hb dX12_tellsAs_35 rfl (lv_at hl 0 rfl) ?_
  refine lv_aload_n hx hb dX12_tellsAs_36 rfl (lv_at hl 1 rfl) ?_
  refine lv_aload_n hx hb dX12_tellsAs_37 rfl (lv_at hl 1 rfl) ?_
  refine va_get (D := D) hx hb hts inlX12 hown hK hP 55 (jc_55 cI cL ad σ10 τ) rfl 56 (by decide) (hts _ kw_49_8) (fun _ h9 => h9) rfl dX12_tellsAs_38 ?_
  have m22 : σ10 55 56 = (σ 55 56) := (by rw [f13 56 (by omega)]; exact m8)
  refine jtopr m22 ?_
  refine jtopr (jsame (rfl : (σ 55 56).toInt = (σ 55 56).toInt) jz_1 (by omega)) ?_
  refine lv_iconst (v := 1) hx hb dX12_tellsAs_41 (by decide) ?_
  have z23 : (σ10 55 56).toInt = (σ 55 56).toInt := by rw [(show σ10 55 56 = (σ 55 56) from m22)]
  refine jcallV (As := [.int 1, .int 1]) (rest := [.int (((a2 + (σ1 55 57)) + 3) * 2)]) ⟨hx, hb, hml, hown, hts⟩ hK hP hA hS hZ (c_X12_givesAs_1_1_4_x1 l D cI cL ad zz hJ σ10 τ m15 (by omega)) cw_RX12_394 (jc_55 cI cL ad σ10 τ) rfl ⟨Nat.le_of_ble_eq_true rfl, Nat.le_of_ble_eq_true rfl⟩ rfl rfl rfl hl.1 rfl (Nat.le_of_ble_eq_true rfl) dX12_tellsAs_42 ⟨Nat.zero_le _, Nat.zero_le _⟩ (fun r25 σ24 τ24 H locs h24 hP hS => ?_)
  obtain ⟨rfl, f26, f27, f28, m29, m30, h24⟩ := h24
  have h31 := h24
  obtain ⟨q33, k32⟩ := h31
  have q33 := q33.symm
  subst q33
  have g34 := jrg (rfl : (((a2 + (σ1 55 57)) + 3) * 2).toInt = (((a2 + (σ1 55 57)) + 3) * 2).toInt)
  have g35 := jrg (rfl : (1 ^^^ (σ10 55 57)).toInt = (1 ^^^ (σ10 55 57)).toInt)
  refine lv_isub hx hb dX12_tellsAs_45 ?_
  refine lv_topi (fun x36 ex36 => ?_)
  have gx36 := jrg (rfl : x36.toInt = x36.toInt)
  have m37 : σ24 85 0 = 2 := (by rw [f28 0 (by omega)]; exact (by rw [f14 0 (by omega)]; exact m7))
  have m38 : σ24 85 1 = 10 := (by rw [f28 1 (by omega)]; exact m16)
  have m39 : σ24 85 2 = 20 := (by rw [f28 2 (by omega)]; exact m17)
  have m40 : σ24 85 3 = 1 := (by rw [f28 3 (by omega)]; exact m18)
  exact hret x36 σ24 τ _ _ _ _ rfl ⟨rfl, (fun i hi => by rw [f26 i (by omega), f12 i (by omega), f3 i (by omega)]), (fun k hk => by rw [f27 k (by omega), f13 k (by omega), f4 k (by omega)]), (fun k hk => by rw [f28 k (by omega), f14 k (by omega), f5 k (by omega)]), m29, m37, m38, m39, m40, m30, ⟨(by rw [ex36, (show σ1 55 57 = σ 55 57 from (by rw [f4 57 (by omega)])), (show σ10 55 57 = σ 55 57 from (by rw [f13 57 (by omega), f4 57 (by omega)]))]), trivial⟩⟩ hP hS dX12_tellsAs_46
set_option maxHeartbeats 4000000 in
set_option maxRecDepth 100000 in
theorem c_X12_putsAs_2_2_0 (l : Launch) (D : va_G) (cI cL : ClassId) (ad zz : Nat → Nat) (hJ : jD ad) (σ : Nat → Nat → Int32) (τ : Nat → Nat → Int64) (a2 : Int32) (A2 : Int) (t2 : a2.toInt = A2) (h55_55 : σ 55 55 = 0) (hp0 : (σ 55 56).toInt = 2) : jM l yX12_putsAs cX12_putsAs 3 (some .int) ({ frames := 1, cells := 0, slots := 0, locals := 21 }) D cI cL ad zz [.ref (ad 55), .int 2, .int a2] σ τ (fun r σ' τ' => τ = τ' ∧ (∀ i : Nat, (i < 55 ∨ 55 < i) ∧ (i < 85 ∨ 85 < i) → σ' i = σ i) ∧ (∀ k : Nat, (k < 55 ∨ 55 < k) → σ' 55 k = σ 55 k) ∧ (∀ k : Nat, (k < 0 ∨ 0 < k) → σ' 85 k = σ 85 k) ∧ (σ' 55 55 = 1) ∧ (σ' 85 0 = 1) ∧ ((r = (a2 + (σ 55 57)) ∧ True))) := by
  refine jM.of hJ (by decide +kernel) (nt := .int) rfl (Nat.le_of_ble_eq_true rfl) ?_
  intro p e s m args below meth c Q ls hC hret hl hP
  obtain ⟨hx, hb, hr, hml, hown, hts, hK, -, hlocks, hZ⟩ := hC
  have hown : s.vm.findClass RX12 = some m.cls := hown
  have hS : va_S (jA ad) s.heap s.heap [] := va_S.rf
  have hA : ∀ q, jA ad q → jA ad q := fun _ h => h
  have hl : lv_has ls 3 [(0, .ref (ad 55)), (1, .int 2), (2, .int a2)] := hl
  have g2 := jrg t2
  refine lv_iload_n hx hb dX12_putsAs_0 rfl (lv_at hl 1 rfl) ?_
  refine lv_iconst (v := 4) hx hb dX12_putsAs_1 (by decide) ?_
  refine lv_icmp_ne (tgt := 20) hx hb dX12_putsAs_2 (by decide) (fun _ => ?_) (fun c => absurd c (by decide))
  refine lv_iload_n hx hb dX12_putsAs_20 rfl (lv_at hl 1 rfl) ?_
  refine lv_iconst (v := 1) hx hb dX12_putsAs_21 (by decide) ?_
  refine lv_icmp_ne (tgt := 40) hx hb dX12_putsAs_22 (by decide) (fun _ => ?_) (fun c => absurd c (by decide))
  refine lv_aload_n hx hb dX12_putsAs_40 rfl (lv_at hl 0 rfl) ?_
  refine lv_iconst (v := 1) hx hb dX12_putsAs_41 (by decide) ?_
  refine jcallVv (As := [.int 1]) (rest := []) ⟨hx, hb, hml, hown, hts⟩ hK hP hA hS hZ (c_X12_begins_1_0 l D cI cL ad zz hJ σ τ h55_55) cw_RX12_379 (jc_55 cI cL ad σ τ) rfl ⟨Nat.le_of_ble_eq_true rfl, Nat.le_of_ble_eq_true rfl⟩ rfl rfl rfl hl.1 rfl (Nat.le_of_ble_eq_true rfl) dX12_putsAs_42 ⟨Nat.zero_le _, Nat.zero_le _⟩ (fun σ1 τ1 H locs h1 hP hS => ?_)
  obtain ⟨rfl, f3, f4, f5, m6, m7, h1⟩ := h1
  refine lv_iload_n hx hb dX12_putsAs_45 rfl (lv_at hl 2 rfl) ?_
  refine lv_aload_n hx hb dX12_putsAs_46 rfl (lv_at hl 0 rfl) ?_
  refine va_get (D := D) hx hb hts inlX12 hown hK hP 55 (jc_55 cI cL ad σ1 τ) rfl 57 (by decide) (hts _ kw_49_9) (fun _ h9 => h9) rfl dX12_putsAs_47 ?_
  have m8 : σ1 55 57 = (σ 55 57) := (by rw [f4 57 (by omega)])
  refine jtopr m8 ?_
  have g9 := jrg (rfl : (σ 55 57).toInt = (σ 55 57).toInt)
  refine lv_iadd hx hb dX12_putsAs_50 ?_
  refine lv_topi (fun x10 ex10 => ?_)
  have gx10 := jrg (rfl : x10.toInt = x10.toInt)
  exact hret x10 σ1 τ _ _ _ _ rfl ⟨rfl, (fun i hi => by rw [f3 i (by omega)]), (fun k hk => by rw [f4 k (by omega)]), (fun k hk => by rw [f5 k (by omega)]), m6, m7, ⟨(by rw [ex10]), trivial⟩⟩ hP hS dX12_putsAs_51
set_option maxHeartbeats 4000000 in
set_option maxRecDepth 100000 in
theorem c_X12_putsAs_2_2_1 (l : Launch) (D : va_G) (cI cL : ClassId) (ad zz : Nat → Nat) (hJ : jD ad) (σ : Nat → Nat → Int32) (τ : Nat → Nat → Int64) (a2 : Int32) (A2 : Int) (t2 : a2.toInt = A2) (h55_55 : σ 55 55 = 1) (hp0 : (σ 55 56).toInt = 2) : jM l yX12_putsAs cX12_putsAs 3 (some .int) ({ frames := 1, cells := 0, slots := 0, locals := 21 }) D cI cL ad zz [.ref (ad 55), .int 2, .int a2] σ τ (fun r σ' τ' => τ = τ' ∧ (∀ i : Nat, (i < 55 ∨ 55 < i) ∧ (i < 85 ∨ 85 < i) → σ' i = σ i) ∧ (∀ k : Nat, (k < 55 ∨ 55 < k) → σ' 55 k = σ 55 k) ∧ (∀ k : Nat, (k < 1 ∨ 1 < k) → σ' 85 k = σ 85 k) ∧ (σ' 55 55 = 2) ∧ (σ' 85 1 = 1) ∧ ((r = (a2 + (σ 55 57)) ∧ True))) := by
  refine jM.of hJ (by decide +kernel) (nt := .int) rfl (Nat.le_of_ble_eq_true rfl) ?_
  intro p e s m args below meth c Q ls hC hret hl hP
  obtain ⟨hx, hb, hr, hml, hown, hts, hK, -, hlocks, hZ⟩ := hC
  have hown : s.vm.findClass RX12 = some m.cls := hown
  have hS : va_S (jA ad) s.heap s.heap [] := va_S.rf
  have hA : ∀ q, jA ad q → jA ad q := fun _ h => h
  have hl : lv_has ls 3 [(0, .ref (ad 55)), (1, .int 2), (2, .int a2)] := hl
  have g2 := jrg t2
  refine lv_iload_n hx hb dX12_putsAs_0 rfl (lv_at hl 1 rfl) ?_
  refine lv_iconst (v := 4) hx hb dX12_putsAs_1 (by decide) ?_
  refine lv_icmp_ne (tgt := 20) hx hb dX12_putsAs_2 (by decide) (fun _ => ?_) (fun c => absurd c (by decide))
  refine lv_iload_n hx hb dX12_putsAs_20 rfl (lv_at hl 1 rfl) ?_
  refine lv_iconst (v := 1) hx hb dX12_putsAs_21 (by decide) ?_
  refine lv_icmp_ne (tgt := 40) hx hb dX12_putsAs_22 (by decide) (fun _ => ?_) (fun c => absurd c (by decide))
  refine lv_aload_n hx hb dX12_putsAs_40 rfl (lv_at hl 0 rfl) ?_
  refine lv_iconst (v := 1) hx hb dX12_putsAs_41 (by decide) ?_
  refine jcallVv (As := [.int 1]) (rest := []) ⟨hx, hb, hml, hown, hts⟩ hK hP hA hS hZ (c_X12_begins_1_1 l D cI cL ad zz hJ σ τ h55_55) cw_RX12_379 (jc_55 cI cL ad σ τ) rfl ⟨Nat.le_of_ble_eq_true rfl, Nat.le_of_ble_eq_true rfl⟩ rfl rfl rfl hl.1 rfl (Nat.le_of_ble_eq_true rfl) dX12_putsAs_42 ⟨Nat.zero_le _, Nat.zero_le _⟩ (fun σ1 τ1 H locs h1 hP hS => ?_)
  obtain ⟨rfl, f3, f4, f5, m6, m7, h1⟩ := h1
  refine lv_iload_n hx hb dX12_putsAs_45 rfl (lv_at hl 2 rfl) ?_
  refine lv_aload_n hx hb dX12_putsAs_46 rfl (lv_at hl 0 rfl) ?_
  refine va_get (D := D) hx hb hts inlX12 hown hK hP 55 (jc_55 cI cL ad σ1 τ) rfl 57 (by decide) (hts _ kw_49_9) (fun _ h9 => h9) rfl dX12_putsAs_47 ?_
  have m8 : σ1 55 57 = (σ 55 57) := (by rw [f4 57 (by omega)])
  refine jtopr m8 ?_
  have g9 := jrg (rfl : (σ 55 57).toInt = (σ 55 57).toInt)
  refine lv_iadd hx hb dX12_putsAs_50 ?_
  refine lv_topi (fun x10 ex10 => ?_)
  have gx10 := jrg (rfl : x10.toInt = x10.toInt)
  exact hret x10 σ1 τ _ _ _ _ rfl ⟨rfl, (fun i hi => by rw [f3 i (by omega)]), (fun k hk => by rw [f4 k (by omega)]), (fun k hk => by rw [f5 k (by omega)]), m6, m7, ⟨(by rw [ex10]), trivial⟩⟩ hP hS dX12_putsAs_51
set_option maxHeartbeats 4000000 in
set_option maxRecDepth 100000 in
theorem c_X12_holdsAs_2_2_0 (l : Launch) (D : va_G) (cI cL : ClassId) (ad zz : Nat → Nat) (hJ : jD ad) (σ : Nat → Nat → Int32) (τ : Nat → Nat → Int64) (a2 : Int32) (A2 : Int) (t2 : a2.toInt = A2) (h55_55 : σ 55 55 = 0) (hp0 : (σ 55 56).toInt = 2) : jM l yX12_holdsAs cX12_holdsAs 4 (some .int) ({ frames := 2, cells := 0, slots := 0, locals := 43 }) D cI cL ad zz [.ref (ad 55), .int 2, .int a2] σ τ (fun r σ' τ' => τ = τ' ∧ (∀ i : Nat, (i < 55 ∨ 55 < i) ∧ (i < 85 ∨ 85 < i) → σ' i = σ i) ∧ (∀ k : Nat, (k < 55 ∨ 55 < k) → σ' 55 k = σ 55 k) ∧ (∀ k : Nat, (k < 0 ∨ 0 < k) ∧ (k < 1 ∨ 1 < k) → σ' 85 k = σ 85 k) ∧ (σ' 55 55 = 2) ∧ (σ' 85 0 = 10) ∧ (σ' 85 1 = 1) ∧ ((r = ((a2 + (σ 55 57)) * 2) ∧ True))) := by
  refine jM.of hJ (by decide +kernel) (nt := .int) rfl (Nat.le_of_ble_eq_true rfl) ?_
  intro p e s m args below meth c Q ls hC hret hl hP
  obtain ⟨hx, hb, hr, hml, hown, hts, hK, -, hlocks, hZ⟩ := hC
  have hown : s.vm.findClass RX12 = some m.cls := hown
  have hS : va_S (jA ad) s.heap s.heap [] := va_S.rf
  have hA : ∀ q, jA ad q → jA ad q := fun _ h => h
  have hl : lv_has ls 4 [(0, .ref (ad 55)), (1, .int 2), (2, .int a2)] := hl
  have g2 := jrg t2
  refine lv_iload_n hx hb dX12_holdsAs_0 rfl (lv_at hl 1 rfl) ?_
  refine lv_iconst (v := 3) hx hb dX12_holdsAs_1 (by decide) ?_
  refine lv_icmp_eq (tgt := 10) hx hb dX12_holdsAs_2 (by decide) (fun c => absurd c (by decide)) (fun _ => ?_)
  refine lv_iload_n hx hb dX12_holdsAs_5 rfl (lv_at hl 1 rfl) ?_
  refine lv_iconst (v := 5) hx hb dX12_holdsAs_6 (by decide) ?_
  refine lv_icmp_ne (tgt := 24) hx hb dX12_holdsAs_7 (by decide) (fun _ => ?_) (fun c => absurd c (by decide))
  refine lv_iload_n hx hb dX12_holdsAs_24 rfl (lv_at hl 1 rfl) ?_
  refine lv_bipush (v := 6) hx hb dX12_holdsAs_25 (by decide) ?_
  refine lv_icmp_ne (tgt := 55) hx hb dX12_holdsAs_27 (by decide) (fun _ => ?_) (fun c => absurd c (by decide))
  refine lv_aload_n hx hb dX12_holdsAs_55 rfl (lv_at hl 0 rfl) ?_
  refine lv_bipush (v := 10) hx hb dX12_holdsAs_56 (by decide) ?_
  refine jcallVv (As := [.int 10]) (rest := []) ⟨hx, hb, hml, hown, hts⟩ hK hP hA hS hZ (c_X12_begins_10_0 l D cI cL ad zz hJ σ τ h55_55) cw_RX12_379 (jc_55 cI cL ad σ τ) rfl ⟨Nat.le_of_ble_eq_true rfl, Nat.le_of_ble_eq_true rfl⟩ rfl rfl rfl hl.1 rfl (Nat.le_of_ble_eq_true rfl) dX12_holdsAs_58 ⟨Nat.zero_le _, Nat.zero_le _⟩ (fun σ1 τ1 H locs h1 hP hS => ?_)
  obtain ⟨rfl, f3, f4, f5, m6, m7, h1⟩ := h1
  refine lv_aload_n hx hb dX12_holdsAs_61 rfl (lv_at hl 0 rfl) ?_
  refine lv_aload_n hx hb dX12_holdsAs_62 rfl (lv_at hl 0 rfl) ?_
  refine va_get (D := D) hx hb hts inlX12 hown hK hP 55 (jc_55 cI cL ad σ1 τ) rfl 56 (by decide) (hts _ kw_49_8) (fun _ h9 => h9) rfl dX12_holdsAs_63 ?_
  have m8 : σ1 55 56 = (σ 55 56) := (by rw [f4 56 (by omega)])
  refine jtopr m8 ?_
  refine jtopr (jsame (rfl : (σ 55 56).toInt = (σ 55 56).toInt) jz_2 (by omega)) ?_
  refine lv_iload_n hx hb dX12_holdsAs_66 rfl (lv_at hl 2 rfl) ?_
  have z9 : (σ1 55 56).toInt = (σ 55 56).toInt := by rw [(show σ1 55 56 = (σ 55 56) from m8)]
  refine jcallV (As := [.int 2, .int a2]) (rest := []) ⟨hx, hb, hml, hown, hts⟩ hK hP hA hS hZ (c_X12_putsAs_2_2_1 l D cI cL ad zz hJ σ1 τ a2 (A2) t2 m6 (by omega)) cw_RX12_382 (jc_55 cI cL ad σ1 τ) rfl ⟨Nat.le_of_ble_eq_true rfl, Nat.le_of_ble_eq_true rfl⟩ rfl rfl rfl hl.1 rfl (Nat.le_of_ble_eq_true rfl) dX12_holdsAs_67 ⟨Nat.zero_le _, Nat.zero_le _⟩ (fun r11 σ10 τ10 H locs h10 hP hS => ?_)
  obtain ⟨rfl, f12, f13, f14, m15, m16, h10⟩ := h10
  have h17 := h10
  obtain ⟨q19, k18⟩ := h17
  have q19 := q19.symm
  subst q19
  refine lv_iconst (v := 2) hx hb dX12_holdsAs_70 (by decide) ?_
  have g20 := jrg (rfl : (a2 + (σ1 55 57)).toInt = (a2 + (σ1 55 57)).toInt)
  refine lv_imul hx hb dX12_holdsAs_71 ?_
  refine lv_topi (fun x21 ex21 => ?_)
  have gx21 := jrg (rfl : x21.toInt = x21.toInt)
  have m22 : σ10 85 0 = 10 := (by rw [f14 0 (by omega)]; exact m7)
  exact hret x21 σ10 τ _ _ _ _ rfl ⟨rfl, (fun i hi => by rw [f12 i (by omega), f3 i (by omega)]), (fun k hk => by rw [f13 k (by omega), f4 k (by omega)]), (fun k hk => by rw [f14 k (by omega), f5 k (by omega)]), m15, m22, m16, ⟨(by rw [ex21, (show σ1 55 57 = σ 55 57 from (by rw [f4 57 (by omega)]))]), trivial⟩⟩ hP hS dX12_holdsAs_72
set_option maxHeartbeats 4000000 in
set_option maxRecDepth 100000 in
theorem c_X12_begins_30_0 (l : Launch) (D : va_G) (cI cL : ClassId) (ad zz : Nat → Nat) (hJ : jD ad) (σ : Nat → Nat → Int32) (τ : Nat → Nat → Int64) (h55_55 : σ 55 55 = 0) : jMv l yX12_begins cX12_begins 2 none ({ frames := 0, cells := 0, slots := 0, locals := 0 }) D cI cL ad zz [.ref (ad 55), .int 30] σ τ (fun σ' τ' => τ = τ' ∧ (∀ i : Nat, (i < 55 ∨ 55 < i) ∧ (i < 85 ∨ 85 < i) → σ' i = σ i) ∧ (∀ k : Nat, (k < 55 ∨ 55 < k) → σ' 55 k = σ 55 k) ∧ (∀ k : Nat, (k < 0 ∨ 0 < k) → σ' 85 k = σ 85 k) ∧ (σ' 55 55 = 1) ∧ (σ' 85 0 = 30) ∧ True) := by
  refine jMv.of hJ (by decide +kernel) rfl (Nat.le_of_ble_eq_true rfl) ?_
  intro p e s m args below meth c Q ls hC hret hl hP
  obtain ⟨hx, hb, hr, hml, hown, hts, hK, -, hlocks, hZ⟩ := hC
  have hown : s.vm.findClass RX12 = some m.cls := hown
  have hS : va_S (jA ad) s.heap s.heap [] := va_S.rf
  have hA : ∀ q, jA ad q → jA ad q := fun _ h => h
  have hl : lv_has ls 2 [(0, .ref (ad 55)), (1, .int 30)] := hl
  refine lv_aload_n hx hb dX12_begins_0 rfl (lv_at hl 0 rfl) ?_
  refine va_get (D := D) hx hb hts inlX12 hown hK hP 55 (jc_55 cI cL ad σ τ) rfl 55 (by decide) (hts _ kw_49_7) (fun _ h9 => h9) rfl dX12_begins_1 ?_
  refine jtopr h55_55 ?_
  refine lv_bipush (v := 24) hx hb dX12_begins_4 (by decide) ?_
  refine lv_icmp_ge (tgt := 19) hx hb dX12_begins_6 (by decide) (fun c => absurd c (by decide)) (fun _ => ?_)
  refine lv_aload_n hx hb dX12_begins_9 rfl (lv_at hl 0 rfl) ?_
  refine va_get (D := D) hx hb hts inlX12 hown hK hP 55 (jc_55 cI cL ad σ τ) rfl 54 (by decide) (hts _ kw_8_10) (fun _ h9 => h9) rfl dX12_begins_10 ?_
  refine lv_aload_n hx hb dX12_begins_13 rfl (lv_at hl 0 rfl) ?_
  refine va_get (D := D) hx hb hts inlX12 hown hK hP 55 (jc_55 cI cL ad σ τ) rfl 55 (by decide) (hts _ kw_49_7) (fun _ h9 => h9) rfl dX12_begins_14 ?_
  refine jtopr h55_55 ?_
  refine lv_iload_n hx hb dX12_begins_17 rfl (lv_at hl 1 rfl) ?_
  refine jast hx hb hK hP hJ hA hS (jc_85 cI cL ad σ τ) (ja_85 cI cL ad σ τ _ _) (jin jz_0 (by omega) (by omega)) dX12_begins_18 (fun σ1 H locs eσ1 hP hS => ?_)
  have eσ1 : σ1 = jup σ 85 0 30 := eσ1
  refine lv_aload_n hx hb dX12_begins_19 rfl (lv_at hl 0 rfl) ?_
  refine lv_dup hx hb dX12_begins_20 rfl ?_
  refine va_get (D := D) hx hb hts inlX12 hown hK hP 55 (jc_55 cI cL ad σ1 τ) rfl 55 (by decide) (hts _ kw_49_7) (fun _ h9 => h9) rfl dX12_begins_21 ?_
  have m2 : σ1 55 55 = 0 := (by rw [eσ1, jup_n (by decide)]; exact h55_55)
  refine jtopr m2 ?_
  refine lv_iconst (v := 1) hx hb dX12_begins_24 (by decide) ?_
  refine lv_iadd hx hb dX12_begins_25 ?_
  refine jtopr (y := 1) (by decide) ?_
  refine jput (ty := .int) hx hb hts inlX12 tyX12 tyX12_ok nmX12 hown hK hP hJ hA hS (jc_55 cI cL ad σ1 τ) rfl (k := 55) (by decide) (Nat.le_of_ble_eq_true rfl) (jp_55_55 cI cL ad σ1 τ 1) (hts _ kw_49_7) (fun _ h9 => h9) rfl (by decide +kernel) rfl rfl dX12_begins_26 (fun σ3 H locs eσ3 hP hS => ?_)
  have m4 : σ3 55 55 = 1 := (by rw [eσ3]; exact jup_s)
  have m5 : σ3 85 0 = 30 := (by rw [eσ3, jup_n (by decide)]; exact (by rw [eσ1]; exact jup_s))
  exact hret σ3 τ _ _ _ _ ⟨rfl, (fun i hi => by rw [eσ3, jup_n (by omega), eσ1, jup_n (by omega)]), (fun k hk => by rw [eσ3, jup_k (by omega), eσ1, jup_n (by decide)]), (fun k hk => by rw [eσ3, jup_n (by decide), eσ1, jup_k (by omega)]), m4, m5, trivial⟩ hP hS dX12_begins_29
set_option maxHeartbeats 4000000 in
set_option maxRecDepth 100000 in
theorem c_X12_begins_11_1 (l : Launch) (D : va_G) (cI cL : ClassId) (ad zz : Nat → Nat) (hJ : jD ad) (σ : Nat → Nat → Int32) (τ : Nat → Nat → Int64) (h55_55 : σ 55 55 = 1) : jMv l yX12_begins cX12_begins 2 none ({ frames := 0, cells := 0, slots := 0, locals := 0 }) D cI cL ad zz [.ref (ad 55), .int 11] σ τ (fun σ' τ' => τ = τ' ∧ (∀ i : Nat, (i < 55 ∨ 55 < i) ∧ (i < 85 ∨ 85 < i) → σ' i = σ i) ∧ (∀ k : Nat, (k < 55 ∨ 55 < k) → σ' 55 k = σ 55 k) ∧ (∀ k : Nat, (k < 1 ∨ 1 < k) → σ' 85 k = σ 85 k) ∧ (σ' 55 55 = 2) ∧ (σ' 85 1 = 11) ∧ True) := by
  refine jMv.of hJ (by decide +kernel) rfl (Nat.le_of_ble_eq_true rfl) ?_
  intro p e s m args below meth c Q ls hC hret hl hP
  obtain ⟨hx, hb, hr, hml, hown, hts, hK, -, hlocks, hZ⟩ := hC
  have hown : s.vm.findClass RX12 = some m.cls := hown
  have hS : va_S (jA ad) s.heap s.heap [] := va_S.rf
  have hA : ∀ q, jA ad q → jA ad q := fun _ h => h
  have hl : lv_has ls 2 [(0, .ref (ad 55)), (1, .int 11)] := hl
  refine lv_aload_n hx hb dX12_begins_0 rfl (lv_at hl 0 rfl) ?_
  refine va_get (D := D) hx hb hts inlX12 hown hK hP 55 (jc_55 cI cL ad σ τ) rfl 55 (by decide) (hts _ kw_49_7) (fun _ h9 => h9) rfl dX12_begins_1 ?_
  refine jtopr h55_55 ?_
  refine lv_bipush (v := 24) hx hb dX12_begins_4 (by decide) ?_
  refine lv_icmp_ge (tgt := 19) hx hb dX12_begins_6 (by decide) (fun c => absurd c (by decide)) (fun _ => ?_)
  refine lv_aload_n hx hb dX12_begins_9 rfl (lv_at hl 0 rfl) ?_
  refine va_get (D := D) hx hb hts inlX12 hown hK hP 55 (jc_55 cI cL ad σ τ) rfl 54 (by decide) (hts _ kw_8_10) (fun _ h9 => h9) rfl dX12_begins_10 ?_
  refine lv_aload_n hx hb dX12_begins_13 rfl (lv_at hl 0 rfl) ?_
  refine va_get (D := D) hx hb hts inlX12 hown hK hP 55 (jc_55 cI cL ad σ τ) rfl 55 (by decide) (hts _ kw_49_7) (fun _ h9 => h9) rfl dX12_begins_14 ?_
  refine jtopr h55_55 ?_
  refine lv_iload_n hx hb dX12_begins_17 rfl (lv_at hl 1 rfl) ?_
  refine jast hx hb hK hP hJ hA hS (jc_85 cI cL ad σ τ) (ja_85 cI cL ad σ τ _ _) (jin jz_1 (by omega) (by omega)) dX12_begins_18 (fun σ1 H locs eσ1 hP hS => ?_)
  have eσ1 : σ1 = jup σ 85 1 11 := eσ1
  refine lv_aload_n hx hb dX12_begins_19 rfl (lv_at hl 0 rfl) ?_
  refine lv_dup hx hb dX12_begins_20 rfl ?_
  refine va_get (D := D) hx hb hts inlX12 hown hK hP 55 (jc_55 cI cL ad σ1 τ) rfl 55 (by decide) (hts _ kw_49_7) (fun _ h9 => h9) rfl dX12_begins_21 ?_
  have m2 : σ1 55 55 = 1 := (by rw [eσ1, jup_n (by decide)]; exact h55_55)
  refine jtopr m2 ?_
  refine lv_iconst (v := 1) hx hb dX12_begins_24 (by decide) ?_
  refine lv_iadd hx hb dX12_begins_25 ?_
  refine jtopr (y := 2) (by decide) ?_
  refine jput (ty := .int) hx hb hts inlX12 tyX12 tyX12_ok nmX12 hown hK hP hJ hA hS (jc_55 cI cL ad σ1 τ) rfl (k := 55) (by decide) (Nat.le_of_ble_eq_true rfl) (jp_55_55 cI cL ad σ1 τ 2) (hts _ kw_49_7) (fun _ h9 => h9) rfl (by decide +kernel) rfl rfl dX12_begins_26 (fun σ3 H locs eσ3 hP hS => ?_)
  have m4 : σ3 55 55 = 2 := (by rw [eσ3]; exact jup_s)
  have m5 : σ3 85 1 = 11 := (by rw [eσ3, jup_n (by decide)]; exact (by rw [eσ1]; exact jup_s))
  exact hret σ3 τ _ _ _ _ ⟨rfl, (fun i hi => by rw [eσ3, jup_n (by omega), eσ1, jup_n (by omega)]), (fun k hk => by rw [eσ3, jup_k (by omega), eσ1, jup_n (by decide)]), (fun k hk => by rw [eσ3, jup_n (by decide), eσ1, jup_k (by omega)]), m4, m5, trivial⟩ hP hS dX12_begins_29
set_option maxHeartbeats 4000000 in
set_option maxRecDepth 100000 in
theorem c_X12_givesAs_2_0_1 (l : Launch) (D : va_G) (cI cL : ClassId) (ad zz : Nat → Nat) (hJ : jD ad) (σ : Nat → Nat → Int32) (τ : Nat → Nat → Int64) (a2 : Int32) (A2 : Int) (t2 : a2.toInt = A2) (h55_55 : σ 55 55 = 1) (hp0 : (σ 55 56).toInt = 2) : jM l yX12_givesAs cX12_givesAs 4 (some .int) ({ frames := 1, cells := 0, slots := 0, locals := 21 }) D cI cL ad zz [.ref (ad 55), .int 0, .int a2] σ τ (fun r σ' τ' => τ = τ' ∧ (∀ i : Nat, (i < 55 ∨ 55 < i) ∧ (i < 85 ∨ 85 < i) → σ' i = σ i) ∧ (∀ k : Nat, (k < 55 ∨ 55 < k) → σ' 55 k = σ 55 k) ∧ (∀ k : Nat, (k < 1 ∨ 1 < k) → σ' 85 k = σ 85 k) ∧ (σ' 55 55 = 2) ∧ (σ' 85 1 = 11) ∧ ((r = (a2 ^^^ (σ 55 57)) ∧ True))) := by
  refine jM.of hJ (by decide +kernel) (nt := .int) rfl (Nat.le_of_ble_eq_true rfl) ?_
  intro p e s m args below meth c Q ls hC hret hl hP
  obtain ⟨hx, hb, hr, hml, hown, hts, hK, -, hlocks, hZ⟩ := hC
  have hown : s.vm.findClass RX12 = some m.cls := hown
  have hS : va_S (jA ad) s.heap s.heap [] := va_S.rf
  have hA : ∀ q, jA ad q → jA ad q := fun _ h => h
  have hl : lv_has ls 4 [(0, .ref (ad 55)), (1, .int 0), (2, .int a2)] := hl
  have g2 := jrg t2
  refine lv_iload_n hx hb dX12_givesAs_0 rfl (lv_at hl 1 rfl) ?_
  refine lv_iconst (v := 5) hx hb dX12_givesAs_1 (by decide) ?_
  refine lv_icmp_ne (tgt := 30) hx hb dX12_givesAs_2 (by decide) (fun _ => ?_) (fun c => absurd c (by decide))
  refine lv_iload_n hx hb dX12_givesAs_30 rfl (lv_at hl 1 rfl) ?_
  refine lv_iconst (v := 2) hx hb dX12_givesAs_31 (by decide) ?_
  refine lv_icmp_eq (tgt := 40) hx hb dX12_givesAs_32 (by decide) (fun c => absurd c (by decide)) (fun _ => ?_)
  refine lv_iload_n hx hb dX12_givesAs_35 rfl (lv_at hl 1 rfl) ?_
  refine lv_iconst (v := 3) hx hb dX12_givesAs_36 (by decide) ?_
  refine lv_icmp_ne (tgt := 55) hx hb dX12_givesAs_37 (by decide) (fun _ => ?_) (fun c => absurd c (by decide))
  refine lv_aload_n hx hb dX12_givesAs_55 rfl (lv_at hl 0 rfl) ?_
  refine lv_bipush (v := 11) hx hb dX12_givesAs_56 (by decide) ?_
  refine jcallVv (As := [.int 11]) (rest := []) ⟨hx, hb, hml, hown, hts⟩ hK hP hA hS hZ (c_X12_begins_11_1 l D cI cL ad zz hJ σ τ h55_55) cw_RX12_379 (jc_55 cI cL ad σ τ) rfl ⟨Nat.le_of_ble_eq_true rfl, Nat.le_of_ble_eq_true rfl⟩ rfl rfl rfl hl.1 rfl (Nat.le_of_ble_eq_true rfl) dX12_givesAs_58 ⟨Nat.zero_le _, Nat.zero_le _⟩ (fun σ1 τ1 H locs h1 hP hS => ?_)
  obtain ⟨rfl, f3, f4, f5, m6, m7, h1⟩ := h1
  refine lv_iload_n hx hb dX12_givesAs_61 rfl (lv_at hl 2 rfl) ?_
  refine lv_aload_n hx hb dX12_givesAs_62 rfl (lv_at hl 0 rfl) ?_
  refine va_get (D := D) hx hb hts inlX12 hown hK hP 55 (jc_55 cI cL ad σ1 τ) rfl 57 (by decide) (hts _ kw_49_9) (fun _ h9 => h9) rfl dX12_givesAs_63 ?_
  have m8 : σ1 55 57 = (σ 55 57) := (by rw [f4 57 (by omega)])
  refine jtopr m8 ?_
  refine lv_ixor hx hb dX12_givesAs_66 ?_
  refine lv_topi (fun x9 ex9 => ?_)
  have gx9 := jrg (rfl : x9.toInt = x9.toInt)
  exact hret x9 σ1 τ _ _ _ _ rfl ⟨rfl, (fun i hi => by rw [f3 i (by omega)]), (fun k hk => by rw [f4 k (by omega)]), (fun k hk => by rw [f5 k (by omega)]), m6, m7, ⟨(by rw [ex9]), trivial⟩⟩ hP hS dX12_givesAs_67
set_option maxHeartbeats 4000000 in
set_option maxRecDepth 100000 in
theorem c_X12_givesAs_2_2_0 (l : Launch) (D : va_G) (cI cL : ClassId) (ad zz : Nat → Nat) (hJ : jD ad) (σ : Nat → Nat → Int32) (τ : Nat → Nat → Int64) (a2 : Int32) (A2 : Int) (t2 : a2.toInt = A2) (h55_55 : σ 55 55 = 0) (hp0 : (σ 55 56).toInt = 2) : jM l yX12_givesAs cX12_givesAs 4 (some .int) ({ frames := 2, cells := 0, slots := 0, locals := 44 }) D cI cL ad zz [.ref (ad 55), .int 2, .int a2] σ τ (fun r σ' τ' => τ = τ' ∧ (∀ i : Nat, (i < 55 ∨ 55 < i) ∧ (i < 85 ∨ 85 < i) → σ' i = σ i) ∧ (∀ k : Nat, (k < 55 ∨ 55 < k) → σ' 55 k = σ 55 k) ∧ (∀ k : Nat, (k < 0 ∨ 0 < k) ∧ (k < 1 ∨ 1 < k) → σ' 85 k = σ 85 k) ∧ (σ' 55 55 = 2) ∧ (σ' 85 0 = 30) ∧ (σ' 85 1 = 11) ∧ ((r = ((a2 ^^^ (σ 55 57)) * 3) ∧ True))) := by
  refine jM.of hJ (by decide +kernel) (nt := .int) rfl (Nat.le_of_ble_eq_true rfl) ?_
  intro p e s m args below meth c Q ls hC hret hl hP
  obtain ⟨hx, hb, hr, hml, hown, hts, hK, -, hlocks, hZ⟩ := hC
  have hown : s.vm.findClass RX12 = some m.cls := hown
  have hS : va_S (jA ad) s.heap s.heap [] := va_S.rf
  have hA : ∀ q, jA ad q → jA ad q := fun _ h => h
  have hl : lv_has ls 4 [(0, .ref (ad 55)), (1, .int 2), (2, .int a2)] := hl
  have g2 := jrg t2
  refine lv_iload_n hx hb dX12_givesAs_0 rfl (lv_at hl 1 rfl) ?_
  refine lv_iconst (v := 5) hx hb dX12_givesAs_1 (by decide) ?_
  refine lv_icmp_ne (tgt := 30) hx hb dX12_givesAs_2 (by decide) (fun _ => ?_) (fun c => absurd c (by decide))
  refine lv_iload_n hx hb dX12_givesAs_30 rfl (lv_at hl 1 rfl) ?_
  refine lv_iconst (v := 2) hx hb dX12_givesAs_31 (by decide) ?_
  refine lv_icmp_eq (tgt := 40) hx hb dX12_givesAs_32 (by decide) (fun _ => ?_) (fun c => absurd (by decide) c)
  refine lv_aload_n hx hb dX12_givesAs_40 rfl (lv_at hl 0 rfl) ?_
  refine lv_bipush (v := 30) hx hb dX12_givesAs_41 (by decide) ?_
  refine jcallVv (As := [.int 30]) (rest := []) ⟨hx, hb, hml, hown, hts⟩ hK hP hA hS hZ (c_X12_begins_30_0 l D cI cL ad zz hJ σ τ h55_55) cw_RX12_379 (jc_55 cI cL ad σ τ) rfl ⟨Nat.le_of_ble_eq_true rfl, Nat.le_of_ble_eq_true rfl⟩ rfl rfl rfl hl.1 rfl (Nat.le_of_ble_eq_true rfl) dX12_givesAs_43 ⟨Nat.zero_le _, Nat.zero_le _⟩ (fun σ1 τ1 H locs h1 hP hS => ?_)
  obtain ⟨rfl, f3, f4, f5, m6, m7, h1⟩ := h1
  refine lv_aload_n hx hb dX12_givesAs_46 rfl (lv_at hl 0 rfl) ?_
  refine lv_iconst (v := 0) hx hb dX12_givesAs_47 (by decide) ?_
  refine lv_iload_n hx hb dX12_givesAs_48 rfl (lv_at hl 2 rfl) ?_
  have z8 : (σ1 55 56).toInt = (σ 55 56).toInt := by rw [(show σ1 55 56 = (σ 55 56) from (by rw [f4 56 (by omega)]))]
  refine jcallV (As := [.int 0, .int a2]) (rest := []) ⟨hx, hb, hml, hown, hts⟩ hK hP hA hS hZ (c_X12_givesAs_2_0_1 l D cI cL ad zz hJ σ1 τ a2 (A2) t2 m6 (by omega)) cw_RX12_394 (jc_55 cI cL ad σ1 τ) rfl ⟨Nat.le_of_ble_eq_true rfl, Nat.le_of_ble_eq_true rfl⟩ rfl rfl rfl hl.1 rfl (Nat.le_of_ble_eq_true rfl) dX12_givesAs_49 ⟨Nat.zero_le _, Nat.zero_le _⟩ (fun r10 σ9 τ9 H locs h9 hP hS => ?_)
  obtain ⟨rfl, f11, f12, f13, m14, m15, h9⟩ := h9
  have h16 := h9
  obtain ⟨q18, k17⟩ := h16
  have q18 := q18.symm
  subst q18
  refine lv_iconst (v := 3) hx hb dX12_givesAs_52 (by decide) ?_
  have g19 := jrg (rfl : (a2 ^^^ (σ1 55 57)).toInt = (a2 ^^^ (σ1 55 57)).toInt)
  refine lv_imul hx hb dX12_givesAs_53 ?_
  refine lv_topi (fun x20 ex20 => ?_)
  have gx20 := jrg (rfl : x20.toInt = x20.toInt)
  have m21 : σ9 85 0 = 30 := (by rw [f13 0 (by omega)]; exact m7)
  exact hret x20 σ9 τ _ _ _ _ rfl ⟨rfl, (fun i hi => by rw [f11 i (by omega), f3 i (by omega)]), (fun k hk => by rw [f12 k (by omega), f4 k (by omega)]), (fun k hk => by rw [f13 k (by omega), f5 k (by omega)]), m14, m21, m15, ⟨(by rw [ex20, (show σ1 55 57 = σ 55 57 from (by rw [f4 57 (by omega)]))]), trivial⟩⟩ hP hS dX12_givesAs_54
set_option maxHeartbeats 4000000 in
set_option maxRecDepth 100000 in
theorem c_X12_putsAs_2_2_2 (l : Launch) (D : va_G) (cI cL : ClassId) (ad zz : Nat → Nat) (hJ : jD ad) (σ : Nat → Nat → Int32) (τ : Nat → Nat → Int64) (a2 : Int32) (A2 : Int) (t2 : a2.toInt = A2) (h55_55 : σ 55 55 = 2) (hp0 : (σ 55 56).toInt = 2) : jM l yX12_putsAs cX12_putsAs 3 (some .int) ({ frames := 1, cells := 0, slots := 0, locals := 21 }) D cI cL ad zz [.ref (ad 55), .int 2, .int a2] σ τ (fun r σ' τ' => τ = τ' ∧ (∀ i : Nat, (i < 55 ∨ 55 < i) ∧ (i < 85 ∨ 85 < i) → σ' i = σ i) ∧ (∀ k : Nat, (k < 55 ∨ 55 < k) → σ' 55 k = σ 55 k) ∧ (∀ k : Nat, (k < 2 ∨ 2 < k) → σ' 85 k = σ 85 k) ∧ (σ' 55 55 = 3) ∧ (σ' 85 2 = 1) ∧ ((r = (a2 + (σ 55 57)) ∧ True))) := by
  refine jM.of hJ (by decide +kernel) (nt := .int) rfl (Nat.le_of_ble_eq_true rfl) ?_
  intro p e s m args below meth c Q ls hC hret hl hP
  obtain ⟨hx, hb, hr, hml, hown, hts, hK, -, hlocks, hZ⟩ := hC
  have hown : s.vm.findClass RX12 = some m.cls := hown
  have hS : va_S (jA ad) s.heap s.heap [] := va_S.rf
  have hA : ∀ q, jA ad q → jA ad q := fun _ h => h
  have hl : lv_has ls 3 [(0, .ref (ad 55)), (1, .int 2), (2, .int a2)] := hl
  have g2 := jrg t2
  refine lv_iload_n hx hb dX12_putsAs_0 rfl (lv_at hl 1 rfl) ?_
  refine lv_iconst (v := 4) hx hb dX12_putsAs_1 (by decide) ?_
  refine lv_icmp_ne (tgt := 20) hx hb dX12_putsAs_2 (by decide) (fun _ => ?_) (fun c => absurd c (by decide))
  refine lv_iload_n hx hb dX12_putsAs_20 rfl (lv_at hl 1 rfl) ?_
  refine lv_iconst (v := 1) hx hb dX12_putsAs_21 (by decide) ?_
  refine lv_icmp_ne (tgt := 40) hx hb dX12_putsAs_22 (by decide) (fun _ => ?_) (fun c => absurd c (by decide))
  refine lv_aload_n hx hb dX12_putsAs_40 rfl (lv_at hl 0 rfl) ?_
  refine lv_iconst (v := 1) hx hb dX12_putsAs_41 (by decide) ?_
  refine jcallVv (As := [.int 1]) (rest := []) ⟨hx, hb, hml, hown, hts⟩ hK hP hA hS hZ (c_X12_begins_1_2 l D cI cL ad zz hJ σ τ h55_55) cw_RX12_379 (jc_55 cI cL ad σ τ) rfl ⟨Nat.le_of_ble_eq_true rfl, Nat.le_of_ble_eq_true rfl⟩ rfl rfl rfl hl.1 rfl (Nat.le_of_ble_eq_true rfl) dX12_putsAs_42 ⟨Nat.zero_le _, Nat.zero_le _⟩ (fun σ1 τ1 H locs h1 hP hS => ?_)
  obtain ⟨rfl, f3, f4, f5, m6, m7, h1⟩ := h1
  refine lv_iload_n hx hb dX12_putsAs_45 rfl (lv_at hl 2 rfl) ?_
  refine lv_aload_n hx hb dX12_putsAs_46 rfl (lv_at hl 0 rfl) ?_
  refine va_get (D := D) hx hb hts inlX12 hown hK hP 55 (jc_55 cI cL ad σ1 τ) rfl 57 (by decide) (hts _ kw_49_9) (fun _ h9 => h9) rfl dX12_putsAs_47 ?_
  have m8 : σ1 55 57 = (σ 55 57) := (by rw [f4 57 (by omega)])
  refine jtopr m8 ?_
  have g9 := jrg (rfl : (σ 55 57).toInt = (σ 55 57).toInt)
  refine lv_iadd hx hb dX12_putsAs_50 ?_
  refine lv_topi (fun x10 ex10 => ?_)
  have gx10 := jrg (rfl : x10.toInt = x10.toInt)
  exact hret x10 σ1 τ _ _ _ _ rfl ⟨rfl, (fun i hi => by rw [f3 i (by omega)]), (fun k hk => by rw [f4 k (by omega)]), (fun k hk => by rw [f5 k (by omega)]), m6, m7, ⟨(by rw [ex10]), trivial⟩⟩ hP hS dX12_putsAs_51
set_option maxHeartbeats 4000000 in
set_option maxRecDepth 100000 in
theorem c_X12_holdsAs_2_2_1 (l : Launch) (D : va_G) (cI cL : ClassId) (ad zz : Nat → Nat) (hJ : jD ad) (σ : Nat → Nat → Int32) (τ : Nat → Nat → Int64) (a2 : Int32) (A2 : Int) (t2 : a2.toInt = A2) (h55_55 : σ 55 55 = 1) (hp0 : (σ 55 56).toInt = 2) : jM l yX12_holdsAs cX12_holdsAs 4 (some .int) ({ frames := 2, cells := 0, slots := 0, locals := 43 }) D cI cL ad zz [.ref (ad 55), .int 2, .int a2] σ τ (fun r σ' τ' => τ = τ' ∧ (∀ i : Nat, (i < 55 ∨ 55 < i) ∧ (i < 85 ∨ 85 < i) → σ' i = σ i) ∧ (∀ k : Nat, (k < 55 ∨ 55 < k) → σ' 55 k = σ 55 k) ∧ (∀ k : Nat, (k < 1 ∨ 1 < k) ∧ (k < 2 ∨ 2 < k) → σ' 85 k = σ 85 k) ∧ (σ' 55 55 = 3) ∧ (σ' 85 1 = 10) ∧ (σ' 85 2 = 1) ∧ ((r = ((a2 + (σ 55 57)) * 2) ∧ True))) := by
  refine jM.of hJ (by decide +kernel) (nt := .int) rfl (Nat.le_of_ble_eq_true rfl) ?_
  intro p e s m args below meth c Q ls hC hret hl hP
  obtain ⟨hx, hb, hr, hml, hown, hts, hK, -, hlocks, hZ⟩ := hC
  have hown : s.vm.findClass RX12 = some m.cls := hown
  have hS : va_S (jA ad) s.heap s.heap [] := va_S.rf
  have hA : ∀ q, jA ad q → jA ad q := fun _ h => h
  have hl : lv_has ls 4 [(0, .ref (ad 55)), (1, .int 2), (2, .int a2)] := hl
  have g2 := jrg t2
  refine lv_iload_n hx hb dX12_holdsAs_0 rfl (lv_at hl 1 rfl) ?_
  refine lv_iconst (v := 3) hx hb dX12_holdsAs_1 (by decide) ?_
  refine lv_icmp_eq (tgt := 10) hx hb dX12_holdsAs_2 (by decide) (fun c => absurd c (by decide)) (fun _ => ?_)
  refine lv_iload_n hx hb dX12_holdsAs_5 rfl (lv_at hl 1 rfl) ?_
  refine lv_iconst (v := 5) hx hb dX12_holdsAs_6 (by decide) ?_
  refine lv_icmp_ne (tgt := 24) hx hb dX12_holdsAs_7 (by decide) (fun _ => ?_) (fun c => absurd c (by decide))
  refine lv_iload_n hx hb dX12_holdsAs_24 rfl (lv_at hl 1 rfl) ?_
  refine lv_bipush (v := 6) hx hb dX12_holdsAs_25 (by decide) ?_
  refine lv_icmp_ne (tgt := 55) hx hb dX12_holdsAs_27 (by decide) (fun _ => ?_) (fun c => absurd c (by decide))
  refine lv_aload_n hx hb dX12_holdsAs_55 rfl (lv_at hl 0 rfl) ?_
  refine lv_bipush (v := 10) hx hb dX12_holdsAs_56 (by decide) ?_
  refine jcallVv (As := [.int 10]) (rest := []) ⟨hx, hb, hml, hown, hts⟩ hK hP hA hS hZ (c_X12_begins_10_1 l D cI cL ad zz hJ σ τ h55_55) cw_RX12_379 (jc_55 cI cL ad σ τ) rfl ⟨Nat.le_of_ble_eq_true rfl, Nat.le_of_ble_eq_true rfl⟩ rfl rfl rfl hl.1 rfl (Nat.le_of_ble_eq_true rfl) dX12_holdsAs_58 ⟨Nat.zero_le _, Nat.zero_le _⟩ (fun σ1 τ1 H locs h1 hP hS => ?_)
  obtain ⟨rfl, f3, f4, f5, m6, m7, h1⟩ := h1
  refine lv_aload_n hx hb dX12_holdsAs_61 rfl (lv_at hl 0 rfl) ?_
  refine lv_aload_n hx hb dX12_holdsAs_62 rfl (lv_at hl 0 rfl) ?_
  refine va_get (D := D) hx hb hts inlX12 hown hK hP 55 (jc_55 cI cL ad σ1 τ) rfl 56 (by decide) (hts _ kw_49_8) (fun _ h9 => h9) rfl dX12_holdsAs_63 ?_
  have m8 : σ1 55 56 = (σ 55 56) := (by rw [f4 56 (by omega)])
  refine jtopr m8 ?_
  refine jtopr (jsame (rfl : (σ 55 56).toInt = (σ 55 56).toInt) jz_2 (by omega)) ?_
  refine lv_iload_n hx hb dX12_holdsAs_66 rfl (lv_at hl 2 rfl) ?_
  have z9 : (σ1 55 56).toInt = (σ 55 56).toInt := by rw [(show σ1 55 56 = (σ 55 56) from m8)]
  refine jcallV (As := [.int 2, .int a2]) (rest := []) ⟨hx, hb, hml, hown, hts⟩ hK hP hA hS hZ (c_X12_putsAs_2_2_2 l D cI cL ad zz hJ σ1 τ a2 (A2) t2 m6 (by omega)) cw_RX12_382 (jc_55 cI cL ad σ1 τ) rfl ⟨Nat.le_of_ble_eq_true rfl, Nat.le_of_ble_eq_true rfl⟩ rfl rfl rfl hl.1 rfl (Nat.le_of_ble_eq_true rfl) dX12_holdsAs_67 ⟨Nat.zero_le _, Nat.zero_le _⟩ (fun r11 σ10 τ10 H locs h10 hP hS => ?_)
  obtain ⟨rfl, f12, f13, f14, m15, m16, h10⟩ := h10
  have h17 := h10
  obtain ⟨q19, k18⟩ := h17
  have q19 := q19.symm
  subst q19
  refine lv_iconst (v := 2) hx hb dX12_holdsAs_70 (by decide) ?_
  have g20 := jrg (rfl : (a2 + (σ1 55 57)).toInt = (a2 + (σ1 55 57)).toInt)
  refine lv_imul hx hb dX12_holdsAs_71 ?_
  refine lv_topi (fun x21 ex21 => ?_)
  have gx21 := jrg (rfl : x21.toInt = x21.toInt)
  have m22 : σ10 85 1 = 10 := (by rw [f14 1 (by omega)]; exact m7)
  exact hret x21 σ10 τ _ _ _ _ rfl ⟨rfl, (fun i hi => by rw [f12 i (by omega), f3 i (by omega)]), (fun k hk => by rw [f13 k (by omega), f4 k (by omega)]), (fun k hk => by rw [f14 k (by omega), f5 k (by omega)]), m15, m22, m16, ⟨(by rw [ex21, (show σ1 55 57 = σ 55 57 from (by rw [f4 57 (by omega)]))]), trivial⟩⟩ hP hS dX12_holdsAs_72
set_option maxHeartbeats 4000000 in
set_option maxRecDepth 100000 in
theorem c_X12_begins_30_3 (l : Launch) (D : va_G) (cI cL : ClassId) (ad zz : Nat → Nat) (hJ : jD ad) (σ : Nat → Nat → Int32) (τ : Nat → Nat → Int64) (h55_55 : σ 55 55 = 3) : jMv l yX12_begins cX12_begins 2 none ({ frames := 0, cells := 0, slots := 0, locals := 0 }) D cI cL ad zz [.ref (ad 55), .int 30] σ τ (fun σ' τ' => τ = τ' ∧ (∀ i : Nat, (i < 55 ∨ 55 < i) ∧ (i < 85 ∨ 85 < i) → σ' i = σ i) ∧ (∀ k : Nat, (k < 55 ∨ 55 < k) → σ' 55 k = σ 55 k) ∧ (∀ k : Nat, (k < 3 ∨ 3 < k) → σ' 85 k = σ 85 k) ∧ (σ' 55 55 = 4) ∧ (σ' 85 3 = 30) ∧ True) := by
  refine jMv.of hJ (by decide +kernel) rfl (Nat.le_of_ble_eq_true rfl) ?_
  intro p e s m args below meth c Q ls hC hret hl hP
  obtain ⟨hx, hb, hr, hml, hown, hts, hK, -, hlocks, hZ⟩ := hC
  have hown : s.vm.findClass RX12 = some m.cls := hown
  have hS : va_S (jA ad) s.heap s.heap [] := va_S.rf
  have hA : ∀ q, jA ad q → jA ad q := fun _ h => h
  have hl : lv_has ls 2 [(0, .ref (ad 55)), (1, .int 30)] := hl
  refine lv_aload_n hx hb dX12_begins_0 rfl (lv_at hl 0 rfl) ?_
  refine va_get (D := D) hx hb hts inlX12 hown hK hP 55 (jc_55 cI cL ad σ τ) rfl 55 (by decide) (hts _ kw_49_7) (fun _ h9 => h9) rfl dX12_begins_1 ?_
  refine jtopr h55_55 ?_
  refine lv_bipush (v := 24) hx hb dX12_begins_4 (by decide) ?_
  refine lv_icmp_ge (tgt := 19) hx hb dX12_begins_6 (by decide) (fun c => absurd c (by decide)) (fun _ => ?_)
  refine lv_aload_n hx hb dX12_begins_9 rfl (lv_at hl 0 rfl) ?_
  refine va_get (D := D) hx hb hts inlX12 hown hK hP 55 (jc_55 cI cL ad σ τ) rfl 54 (by decide) (hts _ kw_8_10) (fun _ h9 => h9) rfl dX12_begins_10 ?_
  refine lv_aload_n hx hb dX12_begins_13 rfl (lv_at hl 0 rfl) ?_
  refine va_get (D := D) hx hb hts inlX12 hown hK hP 55 (jc_55 cI cL ad σ τ) rfl 55 (by decide) (hts _ kw_49_7) (fun _ h9 => h9) rfl dX12_begins_14 ?_
  refine jtopr h55_55 ?_
  refine lv_iload_n hx hb dX12_begins_17 rfl (lv_at hl 1 rfl) ?_
  refine jast hx hb hK hP hJ hA hS (jc_85 cI cL ad σ τ) (ja_85 cI cL ad σ τ _ _) (jin jz_3 (by omega) (by omega)) dX12_begins_18 (fun σ1 H locs eσ1 hP hS => ?_)
  have eσ1 : σ1 = jup σ 85 3 30 := eσ1
  refine lv_aload_n hx hb dX12_begins_19 rfl (lv_at hl 0 rfl) ?_
  refine lv_dup hx hb dX12_begins_20 rfl ?_
  refine va_get (D := D) hx hb hts inlX12 hown hK hP 55 (jc_55 cI cL ad σ1 τ) rfl 55 (by decide) (hts _ kw_49_7) (fun _ h9 => h9) rfl dX12_begins_21 ?_
  have m2 : σ1 55 55 = 3 := (by rw [eσ1, jup_n (by decide)]; exact h55_55)
  refine jtopr m2 ?_
  refine lv_iconst (v := 1) hx hb dX12_begins_24 (by decide) ?_
  refine lv_iadd hx hb dX12_begins_25 ?_
  refine jtopr (y := 4) (by decide) ?_
  refine jput (ty := .int) hx hb hts inlX12 tyX12 tyX12_ok nmX12 hown hK hP hJ hA hS (jc_55 cI cL ad σ1 τ) rfl (k := 55) (by decide) (Nat.le_of_ble_eq_true rfl) (jp_55_55 cI cL ad σ1 τ 4) (hts _ kw_49_7) (fun _ h9 => h9) rfl (by decide +kernel) rfl rfl dX12_begins_26 (fun σ3 H locs eσ3 hP hS => ?_)
  have m4 : σ3 55 55 = 4 := (by rw [eσ3]; exact jup_s)
  have m5 : σ3 85 3 = 30 := (by rw [eσ3, jup_n (by decide)]; exact (by rw [eσ1]; exact jup_s))
  exact hret σ3 τ _ _ _ _ ⟨rfl, (fun i hi => by rw [eσ3, jup_n (by omega), eσ1, jup_n (by omega)]), (fun k hk => by rw [eσ3, jup_k (by omega), eσ1, jup_n (by decide)]), (fun k hk => by rw [eσ3, jup_n (by decide), eσ1, jup_k (by omega)]), m4, m5, trivial⟩ hP hS dX12_begins_29
set_option maxHeartbeats 4000000 in
set_option maxRecDepth 100000 in
theorem c_X12_givesAs_2_0_4_x1 (l : Launch) (D : va_G) (cI cL : ClassId) (ad zz : Nat → Nat) (hJ : jD ad) (σ : Nat → Nat → Int32) (τ : Nat → Nat → Int64) (h55_55 : σ 55 55 = 4) (hp0 : (σ 55 56).toInt = 2) : jM l yX12_givesAs cX12_givesAs 4 (some .int) ({ frames := 1, cells := 0, slots := 0, locals := 21 }) D cI cL ad zz [.ref (ad 55), .int 0, .int 1] σ τ (fun r σ' τ' => τ = τ' ∧ (∀ i : Nat, (i < 55 ∨ 55 < i) ∧ (i < 85 ∨ 85 < i) → σ' i = σ i) ∧ (∀ k : Nat, (k < 55 ∨ 55 < k) → σ' 55 k = σ 55 k) ∧ (∀ k : Nat, (k < 4 ∨ 4 < k) → σ' 85 k = σ 85 k) ∧ (σ' 55 55 = 5) ∧ (σ' 85 4 = 11) ∧ ((r = (1 ^^^ (σ 55 57)) ∧ True))) := by
  refine jM.of hJ (by decide +kernel) (nt := .int) rfl (Nat.le_of_ble_eq_true rfl) ?_
  intro p e s m args below meth c Q ls hC hret hl hP
  obtain ⟨hx, hb, hr, hml, hown, hts, hK, -, hlocks, hZ⟩ := hC
  have hown : s.vm.findClass RX12 = some m.cls := hown
  have hS : va_S (jA ad) s.heap s.heap [] := va_S.rf
  have hA : ∀ q, jA ad q → jA ad q := fun _ h => h
  have hl : lv_has ls 4 [(0, .ref (ad 55)), (1, .int 0), (2, .int 1)] := hl
  refine lv_iload_n hx hb dX12_givesAs_0 rfl (lv_at hl 1 rfl) ?_
  refine lv_iconst (v := 5) hx hb dX12_givesAs_1 (by decide) ?_
  refine lv_icmp_ne (tgt := 30) hx hb dX12_givesAs_2 (by decide) (fun _ => ?_) (fun c => absurd c (by decide))
  refine lv_iload_n hx hb dX12_givesAs_30 rfl (lv_at hl 1 rfl) ?_
  refine lv_iconst (v := 2) hx hb dX12_givesAs_31 (by decide) ?_
  refine lv_icmp_eq (tgt := 40) hx hb dX12_givesAs_32 (by decide) (fun c => absurd c (by decide)) (fun _ => ?_)
  refine lv_iload_n hx hb dX12_givesAs_35 rfl (lv_at hl 1 rfl) ?_
  refine lv_iconst (v := 3) hx hb dX12_givesAs_36 (by decide) ?_
  refine lv_icmp_ne (tgt := 55) hx hb dX12_givesAs_37 (by decide) (fun _ => ?_) (fun c => absurd c (by decide))
  refine lv_aload_n hx hb dX12_givesAs_55 rfl (lv_at hl 0 rfl) ?_
  refine lv_bipush (v := 11) hx hb dX12_givesAs_56 (by decide) ?_
  refine jcallVv (As := [.int 11]) (rest := []) ⟨hx, hb, hml, hown, hts⟩ hK hP hA hS hZ (c_X12_begins_11_4 l D cI cL ad zz hJ σ τ h55_55) cw_RX12_379 (jc_55 cI cL ad σ τ) rfl ⟨Nat.le_of_ble_eq_true rfl, Nat.le_of_ble_eq_true rfl⟩ rfl rfl rfl hl.1 rfl (Nat.le_of_ble_eq_true rfl) dX12_givesAs_58 ⟨Nat.zero_le _, Nat.zero_le _⟩ (fun σ1 τ1 H locs h1 hP hS => ?_)
  obtain ⟨rfl, f3, f4, f5, m6, m7, h1⟩ := h1
  refine lv_iload_n hx hb dX12_givesAs_61 rfl (lv_at hl 2 rfl) ?_
  refine lv_aload_n hx hb dX12_givesAs_62 rfl (lv_at hl 0 rfl) ?_
  refine va_get (D := D) hx hb hts inlX12 hown hK hP 55 (jc_55 cI cL ad σ1 τ) rfl 57 (by decide) (hts _ kw_49_9) (fun _ h9 => h9) rfl dX12_givesAs_63 ?_
  have m8 : σ1 55 57 = (σ 55 57) := (by rw [f4 57 (by omega)])
  refine jtopr m8 ?_
  refine lv_ixor hx hb dX12_givesAs_66 ?_
  refine lv_topi (fun x9 ex9 => ?_)
  have gx9 := jrg (rfl : x9.toInt = x9.toInt)
  exact hret x9 σ1 τ _ _ _ _ rfl ⟨rfl, (fun i hi => by rw [f3 i (by omega)]), (fun k hk => by rw [f4 k (by omega)]), (fun k hk => by rw [f5 k (by omega)]), m6, m7, ⟨(by rw [ex9]), trivial⟩⟩ hP hS dX12_givesAs_67
set_option maxHeartbeats 4000000 in
set_option maxRecDepth 100000 in
theorem c_X12_givesAs_2_2_3_x1 (l : Launch) (D : va_G) (cI cL : ClassId) (ad zz : Nat → Nat) (hJ : jD ad) (σ : Nat → Nat → Int32) (τ : Nat → Nat → Int64) (h55_55 : σ 55 55 = 3) (hp0 : (σ 55 56).toInt = 2) : jM l yX12_givesAs cX12_givesAs 4 (some .int) ({ frames := 2, cells := 0, slots := 0, locals := 44 }) D cI cL ad zz [.ref (ad 55), .int 2, .int 1] σ τ (fun r σ' τ' => τ = τ' ∧ (∀ i : Nat, (i < 55 ∨ 55 < i) ∧ (i < 85 ∨ 85 < i) → σ' i = σ i) ∧ (∀ k : Nat, (k < 55 ∨ 55 < k) → σ' 55 k = σ 55 k) ∧ (∀ k : Nat, (k < 3 ∨ 3 < k) ∧ (k < 4 ∨ 4 < k) → σ' 85 k = σ 85 k) ∧ (σ' 55 55 = 5) ∧ (σ' 85 3 = 30) ∧ (σ' 85 4 = 11) ∧ ((r = ((1 ^^^ (σ 55 57)) * 3) ∧ True))) := by
  refine jM.of hJ (by decide +kernel) (nt := .int) rfl (Nat.le_of_ble_eq_true rfl) ?_
  intro p e s m args below meth c Q ls hC hret hl hP
  obtain ⟨hx, hb, hr, hml, hown, hts, hK, -, hlocks, hZ⟩ := hC
  have hown : s.vm.findClass RX12 = some m.cls := hown
  have hS : va_S (jA ad) s.heap s.heap [] := va_S.rf
  have hA : ∀ q, jA ad q → jA ad q := fun _ h => h
  have hl : lv_has ls 4 [(0, .ref (ad 55)), (1, .int 2), (2, .int 1)] := hl
  refine lv_iload_n hx hb dX12_givesAs_0 rfl (lv_at hl 1 rfl) ?_
  refine lv_iconst (v := 5) hx hb dX12_givesAs_1 (by decide) ?_
  refine lv_icmp_ne (tgt := 30) hx hb dX12_givesAs_2 (by decide) (fun _ => ?_) (fun c => absurd c (by decide))
  refine lv_iload_n hx hb dX12_givesAs_30 rfl (lv_at hl 1 rfl) ?_
  refine lv_iconst (v := 2) hx hb dX12_givesAs_31 (by decide) ?_
  refine lv_icmp_eq (tgt := 40) hx hb dX12_givesAs_32 (by decide) (fun _ => ?_) (fun c => absurd (by decide) c)
  refine lv_aload_n hx hb dX12_givesAs_40 rfl (lv_at hl 0 rfl) ?_
  refine lv_bipush (v := 30) hx hb dX12_givesAs_41 (by decide) ?_
  refine jcallVv (As := [.int 30]) (rest := []) ⟨hx, hb, hml, hown, hts⟩ hK hP hA hS hZ (c_X12_begins_30_3 l D cI cL ad zz hJ σ τ h55_55) cw_RX12_379 (jc_55 cI cL ad σ τ) rfl ⟨Nat.le_of_ble_eq_true rfl, Nat.le_of_ble_eq_true rfl⟩ rfl rfl rfl hl.1 rfl (Nat.le_of_ble_eq_true rfl) dX12_givesAs_43 ⟨Nat.zero_le _, Nat.zero_le _⟩ (fun σ1 τ1 H locs h1 hP hS => ?_)
  obtain ⟨rfl, f3, f4, f5, m6, m7, h1⟩ := h1
  refine lv_aload_n hx hb dX12_givesAs_46 rfl (lv_at hl 0 rfl) ?_
  refine lv_iconst (v := 0) hx hb dX12_givesAs_47 (by decide) ?_
  refine lv_iload_n hx hb dX12_givesAs_48 rfl (lv_at hl 2 rfl) ?_
  have z8 : (σ1 55 56).toInt = (σ 55 56).toInt := by rw [(show σ1 55 56 = (σ 55 56) from (by rw [f4 56 (by omega)]))]
  refine jcallV (As := [.int 0, .int 1]) (rest := []) ⟨hx, hb, hml, hown, hts⟩ hK hP hA hS hZ (c_X12_givesAs_2_0_4_x1 l D cI cL ad zz hJ σ1 τ m6 (by omega)) cw_RX12_394 (jc_55 cI cL ad σ1 τ) rfl ⟨Nat.le_of_ble_eq_true rfl, Nat.le_of_ble_eq_true rfl⟩ rfl rfl rfl hl.1 rfl (Nat.le_of_ble_eq_true rfl) dX12_givesAs_49 ⟨Nat.zero_le _, Nat.zero_le _⟩ (fun r10 σ9 τ9 H locs h9 hP hS => ?_)
  obtain ⟨rfl, f11, f12, f13, m14, m15, h9⟩ := h9
  have h16 := h9
  obtain ⟨q18, k17⟩ := h16
  have q18 := q18.symm
  subst q18
  refine lv_iconst (v := 3) hx hb dX12_givesAs_52 (by decide) ?_
  have g19 := jrg (rfl : (1 ^^^ (σ1 55 57)).toInt = (1 ^^^ (σ1 55 57)).toInt)
  refine lv_imul hx hb dX12_givesAs_53 ?_
  refine lv_topi (fun x20 ex20 => ?_)
  have gx20 := jrg (rfl : x20.toInt = x20.toInt)
  have m21 : σ9 85 3 = 30 := (by rw [f13 3 (by omega)]; exact m7)
  exact hret x20 σ9 τ _ _ _ _ rfl ⟨rfl, (fun i hi => by rw [f11 i (by omega), f3 i (by omega)]), (fun k hk => by rw [f12 k (by omega), f4 k (by omega)]), (fun k hk => by rw [f13 k (by omega), f5 k (by omega)]), m14, m21, m15, ⟨(by rw [ex20, (show σ1 55 57 = σ 55 57 from (by rw [f4 57 (by omega)]))]), trivial⟩⟩ hP hS dX12_givesAs_54
set_option maxHeartbeats 4000000 in
set_option maxRecDepth 100000 in
theorem c_X12_tellsAs_2_2_0 (l : Launch) (D : va_G) (cI cL : ClassId) (ad zz : Nat → Nat) (hJ : jD ad) (σ : Nat → Nat → Int32) (τ : Nat → Nat → Int64) (a2 : Int32) (A2 : Int) (t2 : a2.toInt = A2) (h55_55 : σ 55 55 = 0) (hp0 : (σ 55 56).toInt = 2) : jM l yX12_tellsAs cX12_tellsAs 4 (some .int) ({ frames := 3, cells := 0, slots := 0, locals := 67 }) D cI cL ad zz [.ref (ad 55), .int 2, .int a2] σ τ (fun r σ' τ' => τ = τ' ∧ (∀ i : Nat, (i < 55 ∨ 55 < i) ∧ (i < 85 ∨ 85 < i) → σ' i = σ i) ∧ (∀ k : Nat, (k < 55 ∨ 55 < k) → σ' 55 k = σ 55 k) ∧ (∀ k : Nat, (k < 0 ∨ 0 < k) ∧ (k < 1 ∨ 1 < k) ∧ (k < 2 ∨ 2 < k) ∧ (k < 3 ∨ 3 < k) ∧ (k < 4 ∨ 4 < k) → σ' 85 k = σ 85 k) ∧ (σ' 55 55 = 5) ∧ (σ' 85 0 = 2) ∧ (σ' 85 1 = 10) ∧ (σ' 85 2 = 1) ∧ (σ' 85 3 = 30) ∧ (σ' 85 4 = 11) ∧ ((r = (((a2 + (σ 55 57)) * 2) - ((1 ^^^ (σ 55 57)) * 3)) ∧ True))) := by
  refine jM.of hJ (by decide +kernel) (nt := .int) rfl (Nat.le_of_ble_eq_true rfl) ?_
  intro p e s m args below meth c Q ls hC hret hl hP
  obtain ⟨hx, hb, hr, hml, hown, hts, hK, -, hlocks, hZ⟩ := hC
  have hown : s.vm.findClass RX12 = some m.cls := hown
  have hS : va_S (jA ad) s.heap s.heap [] := va_S.rf
  have hA : ∀ q, jA ad q → jA ad q := fun _ h => h
  have hl : lv_has ls 4 [(0, .ref (ad 55)), (1, .int 2), (2, .int a2)] := hl
  have g2 := jrg t2
  refine lv_iload_n hx hb dX12_tellsAs_0 rfl (lv_at hl 1 rfl) ?_
  refine lv_iconst (v := 4) hx hb dX12_tellsAs_1 (by decide) ?_
  refine lv_icmp_ne (tgt := 20) hx hb dX12_tellsAs_2 (by decide) (fun _ => ?_) (fun c => absurd c (by decide))
  refine lv_aload_n hx hb dX12_tellsAs_20 rfl (lv_at hl 0 rfl) ?_
  refine lv_iconst (v := 2) hx hb dX12_tellsAs_21 (by decide) ?_
  refine jcallVv (As := [.int 2]) (rest := []) ⟨hx, hb, hml, hown, hts⟩ hK hP hA hS hZ (c_X12_begins_2_0 l D cI cL ad zz hJ σ τ h55_55) cw_RX12_379 (jc_55 cI cL ad σ τ) rfl ⟨Nat.le_of_ble_eq_true rfl, Nat.le_of_ble_eq_true rfl⟩ rfl rfl rfl hl.1 rfl (Nat.le_of_ble_eq_true rfl) dX12_tellsAs_22 ⟨Nat.zero_le _, Nat.zero_le _⟩ (fun σ1 τ1 H locs h1 hP hS => ?_)
  obtain ⟨rfl, f3, f4, f5, m6, m7, h1⟩ := h1
  refine lv_aload_n hx hb dX12_tellsAs_25 rfl (lv_at hl 0 rfl) ?_
  refine lv_aload_n hx hb dX12_tellsAs_26 rfl (lv_at hl 0 rfl) ?_
  refine va_get (D := D) hx hb hts inlX12 hown hK hP 55 (jc_55 cI cL ad σ1 τ) rfl 56 (by decide) (hts _ kw_49_8) (fun _ h9 => h9) rfl dX12_tellsAs_27 ?_
  have m8 : σ1 55 56 = (σ 55 56) := (by rw [f4 56 (by omega)])
  refine jtopr m8 ?_
  refine jtopr (jsame (rfl : (σ 55 56).toInt = (σ 55 56).toInt) jz_2 (by omega)) ?_
  refine lv_iload_n hx hb dX12_tellsAs_30 rfl (lv_at hl 2 rfl) ?_
  have z9 : (σ1 55 56).toInt = (σ 55 56).toInt := by rw [(show σ1 55 56 = (σ 55 56) from m8)]
  refine jcallV (As := [.int 2, .int a2]) (rest := []) ⟨hx, hb, hml, hown, hts⟩ hK hP hA hS hZ (c_X12_holdsAs_2_2_1 l D cI cL ad zz hJ σ1 τ a2 (A2) t2 m6 (by omega)) cw_RX12_388 (jc_55 cI cL ad σ1 τ) rfl ⟨Nat.le_of_ble_eq_true rfl, Nat.le_of_ble_eq_true rfl⟩ rfl rfl rfl hl.1 rfl (Nat.le_of_ble_eq_true rfl) dX12_tellsAs_31 ⟨Nat.zero_le _, Nat.zero_le _⟩ (fun r11 σ10 τ10 H locs h10 hP hS => ?_)
  obtain ⟨rfl, f12, f13, f14, m15, m16, m17, h10⟩ := h10
  have h18 := h10
  obtain ⟨q20, k19⟩ := h18
  have q20 := q20.symm
  subst q20
  refine lv_istore_n (lv' := [(3, .int ((a2 + (σ1 55 57)) * 2)), (0, .ref (ad 55)), (1, .int 2), (2, .int a2)]) hx hb dX12_tellsAs_34 rfl hl (by decide) rfl (fun ls hl => ?_)
  refine lv_iload_n hx hb dX12_tellsAs_35 rfl (lv_at hl 0 rfl) ?_
  refine lv_aload_n hx hb dX12_tellsAs_36 rfl (lv_at hl 1 rfl) ?_
  refine lv_aload_n hx hb dX12_tellsAs_37 rfl (lv_at hl 1 rfl) ?_
  refine va_get (D := D) hx hb hts inlX12 hown hK hP 55 (jc_55 cI cL ad σ10 τ) rfl 56 (by decide) (hts _ kw_49_8) (fun _ h9 => h9) rfl dX12_tellsAs_38 ?_
  have m21 : σ10 55 56 = (σ 55 56) := (by rw [f13 56 (by omega)]; exact m8)
  refine jtopr m21 ?_
  refine jtopr (jsame (rfl : (σ 55 56).toInt = (σ 55 56).toInt) jz_2 (by omega)) ?_
  refine lv_iconst (v := 1) hx hb dX12_tellsAs_41 (by decide) ?_
  have z22 : (σ10 55 56).toInt = (σ 55 56).toInt := by rw [(show σ10 55 56 = (σ 55 56) from m21)]
  refine jcallV (As := [.int 2, .int 1]) (rest := [.int ((a2 + (σ1 55 57)) * 2)]) ⟨hx, hb, hml, hown, hts⟩ hK hP hA hS hZ (c_X12_givesAs_2_2_3_x1 l D cI cL ad zz hJ σ10 τ m15 (by omega)) cw_RX12_394 (jc_55 cI cL ad σ10 τ) rfl ⟨Nat.le_of_ble_eq_true rfl, Nat.le_of_ble_eq_true rfl⟩ rfl rfl rfl hl.1 rfl (Nat.le_of_ble_eq_true rfl) dX12_tellsAs_42 ⟨Nat.zero_le _, Nat.zero_le _⟩ (fun r24 σ23 τ23 H locs h23 hP hS => ?_)
  obtain ⟨rfl, f25, f26, f27, m28, m29, m30, h23⟩ := h23
  have h31 := h23
  obtain ⟨q33, k32⟩ := h31
  have q33 := q33.symm
  subst q33
  have g34 := jrg (rfl : ((a2 + (σ1 55 57)) * 2).toInt = ((a2 + (σ1 55 57)) * 2).toInt)
  have g35 := jrg (rfl : ((1 ^^^ (σ10 55 57)) * 3).toInt = ((1 ^^^ (σ10 55 57)) * 3).toInt)
  refine lv_isub hx hb dX12_tellsAs_45 ?_
  refine lv_topi (fun x36 ex36 => ?_)
  have gx36 := jrg (rfl : x36.toInt = x36.toInt)
  have m37 : σ23 85 0 = 2 := (by rw [f27 0 (by omega)]; exact (by rw [f14 0 (by omega)]; exact m7))
  have m38 : σ23 85 1 = 10 := (by rw [f27 1 (by omega)]; exact m16)
  have m39 : σ23 85 2 = 1 := (by rw [f27 2 (by omega)]; exact m17)
  exact hret x36 σ23 τ _ _ _ _ rfl ⟨rfl, (fun i hi => by rw [f25 i (by omega), f12 i (by omega), f3 i (by omega)]), (fun k hk => by rw [f26 k (by omega), f13 k (by omega), f4 k (by omega)]), (fun k hk => by rw [f27 k (by omega), f14 k (by omega), f5 k (by omega)]), m28, m37, m38, m39, m29, m30, ⟨(by rw [ex36, (show σ1 55 57 = σ 55 57 from (by rw [f4 57 (by omega)])), (show σ10 55 57 = σ 55 57 from (by rw [f13 57 (by omega), f4 57 (by omega)]))]), trivial⟩⟩ hP hS dX12_tellsAs_46
set_option maxHeartbeats 4000000 in
set_option maxRecDepth 100000 in
theorem c_X12_putsAs_3_3_0 (l : Launch) (D : va_G) (cI cL : ClassId) (ad zz : Nat → Nat) (hJ : jD ad) (σ : Nat → Nat → Int32) (τ : Nat → Nat → Int64) (a2 : Int32) (A2 : Int) (t2 : a2.toInt = A2) (h55_55 : σ 55 55 = 0) (hp0 : (σ 55 56).toInt = 3) : jM l yX12_putsAs cX12_putsAs 3 (some .int) ({ frames := 1, cells := 0, slots := 0, locals := 21 }) D cI cL ad zz [.ref (ad 55), .int 3, .int a2] σ τ (fun r σ' τ' => τ = τ' ∧ (∀ i : Nat, (i < 55 ∨ 55 < i) ∧ (i < 85 ∨ 85 < i) → σ' i = σ i) ∧ (∀ k : Nat, (k < 55 ∨ 55 < k) → σ' 55 k = σ 55 k) ∧ (∀ k : Nat, (k < 0 ∨ 0 < k) → σ' 85 k = σ 85 k) ∧ (σ' 55 55 = 1) ∧ (σ' 85 0 = 1) ∧ ((r = (a2 + (σ 55 57)) ∧ True))) := by
  refine jM.of hJ (by decide +kernel) (nt := .int) rfl (Nat.le_of_ble_eq_true rfl) ?_
  intro p e s m args below meth c Q ls hC hret hl hP
  obtain ⟨hx, hb, hr, hml, hown, hts, hK, -, hlocks, hZ⟩ := hC
  have hown : s.vm.findClass RX12 = some m.cls := hown
  have hS : va_S (jA ad) s.heap s.heap [] := va_S.rf
  have hA : ∀ q, jA ad q → jA ad q := fun _ h => h
  have hl : lv_has ls 3 [(0, .ref (ad 55)), (1, .int 3), (2, .int a2)] := hl
  have g2 := jrg t2
  refine lv_iload_n hx hb dX12_putsAs_0 rfl (lv_at hl 1 rfl) ?_
  refine lv_iconst (v := 4) hx hb dX12_putsAs_1 (by decide) ?_
  refine lv_icmp_ne (tgt := 20) hx hb dX12_putsAs_2 (by decide) (fun _ => ?_) (fun c => absurd c (by decide))
  refine lv_iload_n hx hb dX12_putsAs_20 rfl (lv_at hl 1 rfl) ?_
  refine lv_iconst (v := 1) hx hb dX12_putsAs_21 (by decide) ?_
  refine lv_icmp_ne (tgt := 40) hx hb dX12_putsAs_22 (by decide) (fun _ => ?_) (fun c => absurd c (by decide))
  refine lv_aload_n hx hb dX12_putsAs_40 rfl (lv_at hl 0 rfl) ?_
  refine lv_iconst (v := 1) hx hb dX12_putsAs_41 (by decide) ?_
  refine jcallVv (As := [.int 1]) (rest := []) ⟨hx, hb, hml, hown, hts⟩ hK hP hA hS hZ (c_X12_begins_1_0 l D cI cL ad zz hJ σ τ h55_55) cw_RX12_379 (jc_55 cI cL ad σ τ) rfl ⟨Nat.le_of_ble_eq_true rfl, Nat.le_of_ble_eq_true rfl⟩ rfl rfl rfl hl.1 rfl (Nat.le_of_ble_eq_true rfl) dX12_putsAs_42 ⟨Nat.zero_le _, Nat.zero_le _⟩ (fun σ1 τ1 H locs h1 hP hS => ?_)
  obtain ⟨rfl, f3, f4, f5, m6, m7, h1⟩ := h1
  refine lv_iload_n hx hb dX12_putsAs_45 rfl (lv_at hl 2 rfl) ?_
  refine lv_aload_n hx hb dX12_putsAs_46 rfl (lv_at hl 0 rfl) ?_
  refine va_get (D := D) hx hb hts inlX12 hown hK hP 55 (jc_55 cI cL ad σ1 τ) rfl 57 (by decide) (hts _ kw_49_9) (fun _ h9 => h9) rfl dX12_putsAs_47 ?_
  have m8 : σ1 55 57 = (σ 55 57) := (by rw [f4 57 (by omega)])
  refine jtopr m8 ?_
  have g9 := jrg (rfl : (σ 55 57).toInt = (σ 55 57).toInt)
  refine lv_iadd hx hb dX12_putsAs_50 ?_
  refine lv_topi (fun x10 ex10 => ?_)
  have gx10 := jrg (rfl : x10.toInt = x10.toInt)
  exact hret x10 σ1 τ _ _ _ _ rfl ⟨rfl, (fun i hi => by rw [f3 i (by omega)]), (fun k hk => by rw [f4 k (by omega)]), (fun k hk => by rw [f5 k (by omega)]), m6, m7, ⟨(by rw [ex10]), trivial⟩⟩ hP hS dX12_putsAs_51
set_option maxHeartbeats 4000000 in
set_option maxRecDepth 100000 in
theorem c_X12_begins_40_0 (l : Launch) (D : va_G) (cI cL : ClassId) (ad zz : Nat → Nat) (hJ : jD ad) (σ : Nat → Nat → Int32) (τ : Nat → Nat → Int64) (h55_55 : σ 55 55 = 0) : jMv l yX12_begins cX12_begins 2 none ({ frames := 0, cells := 0, slots := 0, locals := 0 }) D cI cL ad zz [.ref (ad 55), .int 40] σ τ (fun σ' τ' => τ = τ' ∧ (∀ i : Nat, (i < 55 ∨ 55 < i) ∧ (i < 85 ∨ 85 < i) → σ' i = σ i) ∧ (∀ k : Nat, (k < 55 ∨ 55 < k) → σ' 55 k = σ 55 k) ∧ (∀ k : Nat, (k < 0 ∨ 0 < k) → σ' 85 k = σ 85 k) ∧ (σ' 55 55 = 1) ∧ (σ' 85 0 = 40) ∧ True) := by
  refine jMv.of hJ (by decide +kernel) rfl (Nat.le_of_ble_eq_true rfl) ?_
  intro p e s m args below meth c Q ls hC hret hl hP
  obtain ⟨hx, hb, hr, hml, hown, hts, hK, -, hlocks, hZ⟩ := hC
  have hown : s.vm.findClass RX12 = some m.cls := hown
  have hS : va_S (jA ad) s.heap s.heap [] := va_S.rf
  have hA : ∀ q, jA ad q → jA ad q := fun _ h => h
  have hl : lv_has ls 2 [(0, .ref (ad 55)), (1, .int 40)] := hl
  refine lv_aload_n hx hb dX12_begins_0 rfl (lv_at hl 0 rfl) ?_
  refine va_get (D := D) hx hb hts inlX12 hown hK hP 55 (jc_55 cI cL ad σ τ) rfl 55 (by decide) (hts _ kw_49_7) (fun _ h9 => h9) rfl dX12_begins_1 ?_
  refine jtopr h55_55 ?_
  refine lv_bipush (v := 24) hx hb dX12_begins_4 (by decide) ?_
  refine lv_icmp_ge (tgt := 19) hx hb dX12_begins_6 (by decide) (fun c => absurd c (by decide)) (fun _ => ?_)
  refine lv_aload_n hx hb dX12_begins_9 rfl (lv_at hl 0 rfl) ?_
  refine va_get (D := D) hx hb hts inlX12 hown hK hP 55 (jc_55 cI cL ad σ τ) rfl 54 (by decide) (hts _ kw_8_10) (fun _ h9 => h9) rfl dX12_begins_10 ?_
  refine lv_aload_n hx hb dX12_begins_13 rfl (lv_at hl 0 rfl) ?_
  refine va_get (D := D) hx hb hts inlX12 hown hK hP 55 (jc_55 cI cL ad σ τ) rfl 55 (by decide) (hts _ kw_49_7) (fun _ h9 => h9) rfl dX12_begins_14 ?_
  refine jtopr h55_55 ?_
  refine lv_iload_n hx hb dX12_begins_17 rfl (lv_at hl 1 rfl) ?_
  refine jast hx hb hK hP hJ hA hS (jc_85 cI cL ad σ τ) (ja_85 cI cL ad σ τ _ _) (jin jz_0 (by omega) (by omega)) dX12_begins_18 (fun σ1 H locs eσ1 hP hS => ?_)
  have eσ1 : σ1 = jup σ 85 0 40 := eσ1
  refine lv_aload_n hx hb dX12_begins_19 rfl (lv_at hl 0 rfl) ?_
  refine lv_dup hx hb dX12_begins_20 rfl ?_
  refine va_get (D := D) hx hb hts inlX12 hown hK hP 55 (jc_55 cI cL ad σ1 τ) rfl 55 (by decide) (hts _ kw_49_7) (fun _ h9 => h9) rfl dX12_begins_21 ?_
  have m2 : σ1 55 55 = 0 := (by rw [eσ1, jup_n (by decide)]; exact h55_55)
  refine jtopr m2 ?_
  refine lv_iconst (v := 1) hx hb dX12_begins_24 (by decide) ?_
  refine lv_iadd hx hb dX12_begins_25 ?_
  refine jtopr (y := 1) (by decide) ?_
  refine jput (ty := .int) hx hb hts inlX12 tyX12 tyX12_ok nmX12 hown hK hP hJ hA hS (jc_55 cI cL ad σ1 τ) rfl (k := 55) (by decide) (Nat.le_of_ble_eq_true rfl) (jp_55_55 cI cL ad σ1 τ 1) (hts _ kw_49_7) (fun _ h9 => h9) rfl (by decide +kernel) rfl rfl dX12_begins_26 (fun σ3 H locs eσ3 hP hS => ?_)
  have m4 : σ3 55 55 = 1 := (by rw [eσ3]; exact jup_s)
  have m5 : σ3 85 0 = 40 := (by rw [eσ3, jup_n (by decide)]; exact (by rw [eσ1]; exact jup_s))
  exact hret σ3 τ _ _ _ _ ⟨rfl, (fun i hi => by rw [eσ3, jup_n (by omega), eσ1, jup_n (by omega)]), (fun k hk => by rw [eσ3, jup_k (by omega), eσ1, jup_n (by decide)]), (fun k hk => by rw [eσ3, jup_n (by decide), eσ1, jup_k (by omega)]), m4, m5, trivial⟩ hP hS dX12_begins_29
set_option maxHeartbeats 4000000 in
set_option maxRecDepth 100000 in
theorem c_X12_putsAs_3_3_2 (l : Launch) (D : va_G) (cI cL : ClassId) (ad zz : Nat → Nat) (hJ : jD ad) (σ : Nat → Nat → Int32) (τ : Nat → Nat → Int64) (a2 : Int32) (A2 : Int) (t2 : a2.toInt = A2) (h55_55 : σ 55 55 = 2) (hp0 : (σ 55 56).toInt = 3) : jM l yX12_putsAs cX12_putsAs 3 (some .int) ({ frames := 1, cells := 0, slots := 0, locals := 21 }) D cI cL ad zz [.ref (ad 55), .int 3, .int a2] σ τ (fun r σ' τ' => τ = τ' ∧ (∀ i : Nat, (i < 55 ∨ 55 < i) ∧ (i < 85 ∨ 85 < i) → σ' i = σ i) ∧ (∀ k : Nat, (k < 55 ∨ 55 < k) → σ' 55 k = σ 55 k) ∧ (∀ k : Nat, (k < 2 ∨ 2 < k) → σ' 85 k = σ 85 k) ∧ (σ' 55 55 = 3) ∧ (σ' 85 2 = 1) ∧ ((r = (a2 + (σ 55 57)) ∧ True))) := by
  refine jM.of hJ (by decide +kernel) (nt := .int) rfl (Nat.le_of_ble_eq_true rfl) ?_
  intro p e s m args below meth c Q ls hC hret hl hP
  obtain ⟨hx, hb, hr, hml, hown, hts, hK, -, hlocks, hZ⟩ := hC
  have hown : s.vm.findClass RX12 = some m.cls := hown
  have hS : va_S (jA ad) s.heap s.heap [] := va_S.rf
  have hA : ∀ q, jA ad q → jA ad q := fun _ h => h
  have hl : lv_has ls 3 [(0, .ref (ad 55)), (1, .int 3), (2, .int a2)] := hl
  have g2 := jrg t2
  refine lv_iload_n hx hb dX12_putsAs_0 rfl (lv_at hl 1 rfl) ?_
  refine lv_iconst (v := 4) hx hb dX12_putsAs_1 (by decide) ?_
  refine lv_icmp_ne (tgt := 20) hx hb dX12_putsAs_2 (by decide) (fun _ => ?_) (fun c => absurd c (by decide))
  refine lv_iload_n hx hb dX12_putsAs_20 rfl (lv_at hl 1 rfl) ?_
  refine lv_iconst (v := 1) hx hb dX12_putsAs_21 (by decide) ?_
  refine lv_icmp_ne (tgt := 40) hx hb dX12_putsAs_22 (by decide) (fun _ => ?_) (fun c => absurd c (by decide))
  refine lv_aload_n hx hb dX12_putsAs_40 rfl (lv_at hl 0 rfl) ?_
  refine lv_iconst (v := 1) hx hb dX12_putsAs_41 (by decide) ?_
  refine jcallVv (As := [.int 1]) (rest := []) ⟨hx, hb, hml, hown, hts⟩ hK hP hA hS hZ (c_X12_begins_1_2 l D cI cL ad zz hJ σ τ h55_55) cw_RX12_379 (jc_55 cI cL ad σ τ) rfl ⟨Nat.le_of_ble_eq_true rfl, Nat.le_of_ble_eq_true rfl⟩ rfl rfl rfl hl.1 rfl (Nat.le_of_ble_eq_true rfl) dX12_putsAs_42 ⟨Nat.zero_le _, Nat.zero_le _⟩ (fun σ1 τ1 H locs h1 hP hS => ?_)
  obtain ⟨rfl, f3, f4, f5, m6, m7, h1⟩ := h1
  refine lv_iload_n hx hb dX12_putsAs_45 rfl (lv_at hl 2 rfl) ?_
  refine lv_aload_n hx hb dX12_putsAs_46 rfl (lv_at hl 0 rfl) ?_
  refine va_get (D := D) hx hb hts inlX12 hown hK hP 55 (jc_55 cI cL ad σ1 τ) rfl 57 (by decide) (hts _ kw_49_9) (fun _ h9 => h9) rfl dX12_putsAs_47 ?_
  have m8 : σ1 55 57 = (σ 55 57) := (by rw [f4 57 (by omega)])
  refine jtopr m8 ?_
  have g9 := jrg (rfl : (σ 55 57).toInt = (σ 55 57).toInt)
  refine lv_iadd hx hb dX12_putsAs_50 ?_
  refine lv_topi (fun x10 ex10 => ?_)
  have gx10 := jrg (rfl : x10.toInt = x10.toInt)
  exact hret x10 σ1 τ _ _ _ _ rfl ⟨rfl, (fun i hi => by rw [f3 i (by omega)]), (fun k hk => by rw [f4 k (by omega)]), (fun k hk => by rw [f5 k (by omega)]), m6, m7, ⟨(by rw [ex10]), trivial⟩⟩ hP hS dX12_putsAs_51
set_option maxHeartbeats 4000000 in
set_option maxRecDepth 100000 in
theorem c_X12_holdsAs_3_0_1 (l : Launch) (D : va_G) (cI cL : ClassId) (ad zz : Nat → Nat) (hJ : jD ad) (σ : Nat → Nat → Int32) (τ : Nat → Nat → Int64) (a2 : Int32) (A2 : Int) (t2 : a2.toInt = A2) (h55_55 : σ 55 55 = 1) (hp0 : (σ 55 56).toInt = 3) : jM l yX12_holdsAs cX12_holdsAs 4 (some .int) ({ frames := 2, cells := 0, slots := 0, locals := 43 }) D cI cL ad zz [.ref (ad 55), .int 0, .int a2] σ τ (fun r σ' τ' => τ = τ' ∧ (∀ i : Nat, (i < 55 ∨ 55 < i) ∧ (i < 85 ∨ 85 < i) → σ' i = σ i) ∧ (∀ k : Nat, (k < 55 ∨ 55 < k) → σ' 55 k = σ 55 k) ∧ (∀ k : Nat, (k < 1 ∨ 1 < k) ∧ (k < 2 ∨ 2 < k) → σ' 85 k = σ 85 k) ∧ (σ' 55 55 = 3) ∧ (σ' 85 1 = 10) ∧ (σ' 85 2 = 1) ∧ ((r = ((a2 + (σ 55 57)) * 2) ∧ True))) := by
  refine jM.of hJ (by decide +kernel) (nt := .int) rfl (Nat.le_of_ble_eq_true rfl) ?_
  intro p e s m args below meth c Q ls hC hret hl hP
  obtain ⟨hx, hb, hr, hml, hown, hts, hK, -, hlocks, hZ⟩ := hC
  have hown : s.vm.findClass RX12 = some m.cls := hown
  have hS : va_S (jA ad) s.heap s.heap [] := va_S.rf
  have hA : ∀ q, jA ad q → jA ad q := fun _ h => h
  have hl : lv_has ls 4 [(0, .ref (ad 55)), (1, .int 0), (2, .int a2)] := hl
  have g2 := jrg t2
  refine lv_iload_n hx hb dX12_holdsAs_0 rfl (lv_at hl 1 rfl) ?_
  refine lv_iconst (v := 3) hx hb dX12_holdsAs_1 (by decide) ?_
  refine lv_icmp_eq (tgt := 10) hx hb dX12_holdsAs_2 (by decide) (fun c => absurd c (by decide)) (fun _ => ?_)
  refine lv_iload_n hx hb dX12_holdsAs_5 rfl (lv_at hl 1 rfl) ?_
  refine lv_iconst (v := 5) hx hb dX12_holdsAs_6 (by decide) ?_
  refine lv_icmp_ne (tgt := 24) hx hb dX12_holdsAs_7 (by decide) (fun _ => ?_) (fun c => absurd c (by decide))
  refine lv_iload_n hx hb dX12_holdsAs_24 rfl (lv_at hl 1 rfl) ?_
  refine lv_bipush (v := 6) hx hb dX12_holdsAs_25 (by decide) ?_
  refine lv_icmp_ne (tgt := 55) hx hb dX12_holdsAs_27 (by decide) (fun _ => ?_) (fun c => absurd c (by decide))
  refine lv_aload_n hx hb dX12_holdsAs_55 rfl (lv_at hl 0 rfl) ?_
  refine lv_bipush (v := 10) hx hb dX12_holdsAs_56 (by decide) ?_
  refine jcallVv (As := [.int 10]) (rest := []) ⟨hx, hb, hml, hown, hts⟩ hK hP hA hS hZ (c_X12_begins_10_1 l D cI cL ad zz hJ σ τ h55_55) cw_RX12_379 (jc_55 cI cL ad σ τ) rfl ⟨Nat.le_of_ble_eq_true rfl, Nat.le_of_ble_eq_true rfl⟩ rfl rfl rfl hl.1 rfl (Nat.le_of_ble_eq_true rfl) dX12_holdsAs_58 ⟨Nat.zero_le _, Nat.zero_le _⟩ (fun σ1 τ1 H locs h1 hP hS => ?_)
  obtain ⟨rfl, f3, f4, f5, m6, m7, h1⟩ := h1
  refine lv_aload_n hx hb dX12_holdsAs_61 rfl (lv_at hl 0 rfl) ?_
  refine lv_aload_n hx hb dX12_holdsAs_62 rfl (lv_at hl 0 rfl) ?_
  refine va_get (D := D) hx hb hts inlX12 hown hK hP 55 (jc_55 cI cL ad σ1 τ) rfl 56 (by decide) (hts _ kw_49_8) (fun _ h9 => h9) rfl dX12_holdsAs_63 ?_
  have m8 : σ1 55 56 = (σ 55 56) := (by rw [f4 56 (by omega)])
  refine jtopr m8 ?_
  refine jtopr (jsame (rfl : (σ 55 56).toInt = (σ 55 56).toInt) jz_3 (by omega)) ?_
  refine lv_iload_n hx hb dX12_holdsAs_66 rfl (lv_at hl 2 rfl) ?_
  have z9 : (σ1 55 56).toInt = (σ 55 56).toInt := by rw [(show σ1 55 56 = (σ 55 56) from m8)]
  refine jcallV (As := [.int 3, .int a2]) (rest := []) ⟨hx, hb, hml, hown, hts⟩ hK hP hA hS hZ (c_X12_putsAs_3_3_2 l D cI cL ad zz hJ σ1 τ a2 (A2) t2 m6 (by omega)) cw_RX12_382 (jc_55 cI cL ad σ1 τ) rfl ⟨Nat.le_of_ble_eq_true rfl, Nat.le_of_ble_eq_true rfl⟩ rfl rfl rfl hl.1 rfl (Nat.le_of_ble_eq_true rfl) dX12_holdsAs_67 ⟨Nat.zero_le _, Nat.zero_le _⟩ (fun r11 σ10 τ10 H locs h10 hP hS => ?_)
  obtain ⟨rfl, f12, f13, f14, m15, m16, h10⟩ := h10
  have h17 := h10
  obtain ⟨q19, k18⟩ := h17
  have q19 := q19.symm
  subst q19
  refine lv_iconst (v := 2) hx hb dX12_holdsAs_70 (by decide) ?_
  have g20 := jrg (rfl : (a2 + (σ1 55 57)).toInt = (a2 + (σ1 55 57)).toInt)
  refine lv_imul hx hb dX12_holdsAs_71 ?_
  refine lv_topi (fun x21 ex21 => ?_)
  have gx21 := jrg (rfl : x21.toInt = x21.toInt)
  have m22 : σ10 85 1 = 10 := (by rw [f14 1 (by omega)]; exact m7)
  exact hret x21 σ10 τ _ _ _ _ rfl ⟨rfl, (fun i hi => by rw [f12 i (by omega), f3 i (by omega)]), (fun k hk => by rw [f13 k (by omega), f4 k (by omega)]), (fun k hk => by rw [f14 k (by omega), f5 k (by omega)]), m15, m22, m16, ⟨(by rw [ex21, (show σ1 55 57 = σ 55 57 from (by rw [f4 57 (by omega)]))]), trivial⟩⟩ hP hS dX12_holdsAs_72
set_option maxHeartbeats 4000000 in
set_option maxRecDepth 100000 in
theorem c_X12_holdsAs_3_3_0 (l : Launch) (D : va_G) (cI cL : ClassId) (ad zz : Nat → Nat) (hJ : jD ad) (σ : Nat → Nat → Int32) (τ : Nat → Nat → Int64) (a2 : Int32) (A2 : Int) (t2 : a2.toInt = A2) (h55_55 : σ 55 55 = 0) (hp0 : (σ 55 56).toInt = 3) : jM l yX12_holdsAs cX12_holdsAs 4 (some .int) ({ frames := 3, cells := 0, slots := 0, locals := 66 }) D cI cL ad zz [.ref (ad 55), .int 3, .int a2] σ τ (fun r σ' τ' => τ = τ' ∧ (∀ i : Nat, (i < 55 ∨ 55 < i) ∧ (i < 85 ∨ 85 < i) → σ' i = σ i) ∧ (∀ k : Nat, (k < 55 ∨ 55 < k) → σ' 55 k = σ 55 k) ∧ (∀ k : Nat, (k < 0 ∨ 0 < k) ∧ (k < 1 ∨ 1 < k) ∧ (k < 2 ∨ 2 < k) → σ' 85 k = σ 85 k) ∧ (σ' 55 55 = 3) ∧ (σ' 85 0 = 40) ∧ (σ' 85 1 = 10) ∧ (σ' 85 2 = 1) ∧ ((r = (-((a2 + (σ 55 57)) * 2)) ∧ True))) := by
  refine jM.of hJ (by decide +kernel) (nt := .int) rfl (Nat.le_of_ble_eq_true rfl) ?_
  intro p e s m args below meth c Q ls hC hret hl hP
  obtain ⟨hx, hb, hr, hml, hown, hts, hK, -, hlocks, hZ⟩ := hC
  have hown : s.vm.findClass RX12 = some m.cls := hown
  have hS : va_S (jA ad) s.heap s.heap [] := va_S.rf
  have hA : ∀ q, jA ad q → jA ad q := fun _ h => h
  have hl : lv_has ls 4 [(0, .ref (ad 55)), (1, .int 3), (2, .int a2)] := hl
  have g2 := jrg t2
  refine lv_iload_n hx hb dX12_holdsAs_0 rfl (lv_at hl 1 rfl) ?_
  refine lv_iconst (v := 3) hx hb dX12_holdsAs_1 (by decide) ?_
  refine lv_icmp_eq (tgt := 10) hx hb dX12_holdsAs_2 (by decide) (fun _ => ?_) (fun c => absurd (by decide) c)
  refine lv_aload_n hx hb dX12_holdsAs_10 rfl (lv_at hl 0 rfl) ?_
  refine lv_bipush (v := 40) hx hb dX12_holdsAs_11 (by decide) ?_
  refine jcallVv (As := [.int 40]) (rest := []) ⟨hx, hb, hml, hown, hts⟩ hK hP hA hS hZ (c_X12_begins_40_0 l D cI cL ad zz hJ σ τ h55_55) cw_RX12_379 (jc_55 cI cL ad σ τ) rfl ⟨Nat.le_of_ble_eq_true rfl, Nat.le_of_ble_eq_true rfl⟩ rfl rfl rfl hl.1 rfl (Nat.le_of_ble_eq_true rfl) dX12_holdsAs_13 ⟨Nat.zero_le _, Nat.zero_le _⟩ (fun σ1 τ1 H locs h1 hP hS => ?_)
  obtain ⟨rfl, f3, f4, f5, m6, m7, h1⟩ := h1
  refine lv_aload_n hx hb dX12_holdsAs_16 rfl (lv_at hl 0 rfl) ?_
  refine lv_iconst (v := 0) hx hb dX12_holdsAs_17 (by decide) ?_
  refine lv_iload_n hx hb dX12_holdsAs_18 rfl (lv_at hl 2 rfl) ?_
  have z8 : (σ1 55 56).toInt = (σ 55 56).toInt := by rw [(show σ1 55 56 = (σ 55 56) from (by rw [f4 56 (by omega)]))]
  refine jcallV (As := [.int 0, .int a2]) (rest := []) ⟨hx, hb, hml, hown, hts⟩ hK hP hA hS hZ (c_X12_holdsAs_3_0_1 l D cI cL ad zz hJ σ1 τ a2 (A2) t2 m6 (by omega)) cw_RX12_388 (jc_55 cI cL ad σ1 τ) rfl ⟨Nat.le_of_ble_eq_true rfl, Nat.le_of_ble_eq_true rfl⟩ rfl rfl rfl hl.1 rfl (Nat.le_of_ble_eq_true rfl) dX12_holdsAs_19 ⟨Nat.zero_le _, Nat.zero_le _⟩ (fun r10 σ9 τ9 H locs h9 hP hS => ?_)
  obtain ⟨rfl, f11, f12, f13, m14, m15, m16, h9⟩ := h9
  have h17 := h9
  obtain ⟨q19, k18⟩ := h17
  have q19 := q19.symm
  subst q19
  refine lv_ineg hx hb dX12_holdsAs_22 ?_
  refine lv_topi (fun x20 ex20 => ?_)
  have gx20 := jrg (rfl : x20.toInt = x20.toInt)
  have m21 : σ9 85 0 = 40 := (by rw [f13 0 (by omega)]; exact m7)
  exact hret x20 σ9 τ _ _ _ _ rfl ⟨rfl, (fun i hi => by rw [f11 i (by omega), f3 i (by omega)]), (fun k hk => by rw [f12 k (by omega), f4 k (by omega)]), (fun k hk => by rw [f13 k (by omega), f5 k (by omega)]), m14, m21, m15, m16, ⟨(by rw [ex20, (show σ1 55 57 = σ 55 57 from (by rw [f4 57 (by omega)]))]), trivial⟩⟩ hP hS dX12_holdsAs_23
set_option maxHeartbeats 4000000 in
set_option maxRecDepth 100000 in
theorem c_X12_givesAs_3_0_1 (l : Launch) (D : va_G) (cI cL : ClassId) (ad zz : Nat → Nat) (hJ : jD ad) (σ : Nat → Nat → Int32) (τ : Nat → Nat → Int64) (a2 : Int32) (A2 : Int) (t2 : a2.toInt = A2) (h55_55 : σ 55 55 = 1) (hp0 : (σ 55 56).toInt = 3) : jM l yX12_givesAs cX12_givesAs 4 (some .int) ({ frames := 1, cells := 0, slots := 0, locals := 21 }) D cI cL ad zz [.ref (ad 55), .int 0, .int a2] σ τ (fun r σ' τ' => τ = τ' ∧ (∀ i : Nat, (i < 55 ∨ 55 < i) ∧ (i < 85 ∨ 85 < i) → σ' i = σ i) ∧ (∀ k : Nat, (k < 55 ∨ 55 < k) → σ' 55 k = σ 55 k) ∧ (∀ k : Nat, (k < 1 ∨ 1 < k) → σ' 85 k = σ 85 k) ∧ (σ' 55 55 = 2) ∧ (σ' 85 1 = 11) ∧ ((r = (a2 ^^^ (σ 55 57)) ∧ True))) := by
  refine jM.of hJ (by decide +kernel) (nt := .int) rfl (Nat.le_of_ble_eq_true rfl) ?_
  intro p e s m args below meth c Q ls hC hret hl hP
  obtain ⟨hx, hb, hr, hml, hown, hts, hK, -, hlocks, hZ⟩ := hC
  have hown : s.vm.findClass RX12 = some m.cls := hown
  have hS : va_S (jA ad) s.heap s.heap [] := va_S.rf
  have hA : ∀ q, jA ad q → jA ad q := fun _ h => h
  have hl : lv_has ls 4 [(0, .ref (ad 55)), (1, .int 0), (2, .int a2)] := hl
  have g2 := jrg t2
  refine lv_iload_n hx hb dX12_givesAs_0 rfl (lv_at hl 1 rfl) ?_
  refine lv_iconst (v := 5) hx hb dX12_givesAs_1 (by decide) ?_
  refine lv_icmp_ne (tgt := 30) hx hb dX12_givesAs_2 (by decide) (fun _ => ?_) (fun c => absurd c (by decide))
  refine lv_iload_n hx hb dX12_givesAs_30 rfl (lv_at hl 1 rfl) ?_
  refine lv_iconst (v := 2) hx hb dX12_givesAs_31 (by decide) ?_
  refine lv_icmp_eq (tgt := 40) hx hb dX12_givesAs_32 (by decide) (fun c => absurd c (by decide)) (fun _ => ?_)
  refine lv_iload_n hx hb dX12_givesAs_35 rfl (lv_at hl 1 rfl) ?_
  refine lv_iconst (v := 3) hx hb dX12_givesAs_36 (by decide) ?_
  refine lv_icmp_ne (tgt := 55) hx hb dX12_givesAs_37 (by decide) (fun _ => ?_) (fun c => absurd c (by decide))
  refine lv_aload_n hx hb dX12_givesAs_55 rfl (lv_at hl 0 rfl) ?_
  refine lv_bipush (v := 11) hx hb dX12_givesAs_56 (by decide) ?_
  refine jcallVv (As := [.int 11]) (rest := []) ⟨hx, hb, hml, hown, hts⟩ hK hP hA hS hZ (c_X12_begins_11_1 l D cI cL ad zz hJ σ τ h55_55) cw_RX12_379 (jc_55 cI cL ad σ τ) rfl ⟨Nat.le_of_ble_eq_true rfl, Nat.le_of_ble_eq_true rfl⟩ rfl rfl rfl hl.1 rfl (Nat.le_of_ble_eq_true rfl) dX12_givesAs_58 ⟨Nat.zero_le _, Nat.zero_le _⟩ (fun σ1 τ1 H locs h1 hP hS => ?_)
  obtain ⟨rfl, f3, f4, f5, m6, m7, h1⟩ := h1
  refine lv_iload_n hx hb dX12_givesAs_61 rfl (lv_at hl 2 rfl) ?_
  refine lv_aload_n hx hb dX12_givesAs_62 rfl (lv_at hl 0 rfl) ?_
  refine va_get (D := D) hx hb hts inlX12 hown hK hP 55 (jc_55 cI cL ad σ1 τ) rfl 57 (by decide) (hts _ kw_49_9) (fun _ h9 => h9) rfl dX12_givesAs_63 ?_
  have m8 : σ1 55 57 = (σ 55 57) := (by rw [f4 57 (by omega)])
  refine jtopr m8 ?_
  refine lv_ixor hx hb dX12_givesAs_66 ?_
  refine lv_topi (fun x9 ex9 => ?_)
  have gx9 := jrg (rfl : x9.toInt = x9.toInt)
  exact hret x9 σ1 τ _ _ _ _ rfl ⟨rfl, (fun i hi => by rw [f3 i (by omega)]), (fun k hk => by rw [f4 k (by omega)]), (fun k hk => by rw [f5 k (by omega)]), m6, m7, ⟨(by rw [ex9]), trivial⟩⟩ hP hS dX12_givesAs_67
set_option maxHeartbeats 4000000 in
set_option maxRecDepth 100000 in
theorem c_X12_givesAs_3_3_0 (l : Launch) (D : va_G) (cI cL : ClassId) (ad zz : Nat → Nat) (hJ : jD ad) (σ : Nat → Nat → Int32) (τ : Nat → Nat → Int64) (a2 : Int32) (A2 : Int) (t2 : a2.toInt = A2) (h55_55 : σ 55 55 = 0) (hp0 : (σ 55 56).toInt = 3) : jM l yX12_givesAs cX12_givesAs 4 (some .int) ({ frames := 2, cells := 0, slots := 0, locals := 44 }) D cI cL ad zz [.ref (ad 55), .int 3, .int a2] σ τ (fun r σ' τ' => τ = τ' ∧ (∀ i : Nat, (i < 55 ∨ 55 < i) ∧ (i < 85 ∨ 85 < i) → σ' i = σ i) ∧ (∀ k : Nat, (k < 55 ∨ 55 < k) → σ' 55 k = σ 55 k) ∧ (∀ k : Nat, (k < 0 ∨ 0 < k) ∧ (k < 1 ∨ 1 < k) → σ' 85 k = σ 85 k) ∧ (σ' 55 55 = 2) ∧ (σ' 85 0 = 30) ∧ (σ' 85 1 = 11) ∧ ((r = ((a2 ^^^ (σ 55 57)) * 3) ∧ True))) := by
  refine jM.of hJ (by decide +kernel) (nt := .int) rfl (Nat.le_of_ble_eq_true rfl) ?_
  intro p e s m args below meth c Q ls hC hret hl hP
  obtain ⟨hx, hb, hr, hml, hown, hts, hK, -, hlocks, hZ⟩ := hC
  have hown : s.vm.findClass RX12 = some m.cls := hown
  have hS : va_S (jA ad) s.heap s.heap [] := va_S.rf
  have hA : ∀ q, jA ad q → jA ad q := fun _ h => h
  have hl : lv_has ls 4 [(0, .ref (ad 55)), (1, .int 3), (2, .int a2)] := hl
  have g2 := jrg t2
  refine lv_iload_n hx hb dX12_givesAs_0 rfl (lv_at hl 1 rfl) ?_
  refine lv_iconst (v := 5) hx hb dX12_givesAs_1 (by decide) ?_
  refine lv_icmp_ne (tgt := 30) hx hb dX12_givesAs_2 (by decide) (fun _ => ?_) (fun c => absurd c (by decide))
  refine lv_iload_n hx hb dX12_givesAs_30 rfl (lv_at hl 1 rfl) ?_
  refine lv_iconst (v := 2) hx hb dX12_givesAs_31 (by decide) ?_
  refine lv_icmp_eq (tgt := 40) hx hb dX12_givesAs_32 (by decide) (fun c => absurd c (by decide)) (fun _ => ?_)
  refine lv_iload_n hx hb dX12_givesAs_35 rfl (lv_at hl 1 rfl) ?_
  refine lv_iconst (v := 3) hx hb dX12_givesAs_36 (by decide) ?_
  refine lv_icmp_ne (tgt := 55) hx hb dX12_givesAs_37 (by decide) (fun c => absurd (by decide) c) (fun _ => ?_)
  refine lv_aload_n hx hb dX12_givesAs_40 rfl (lv_at hl 0 rfl) ?_
  refine lv_bipush (v := 30) hx hb dX12_givesAs_41 (by decide) ?_
  refine jcallVv (As := [.int 30]) (rest := []) ⟨hx, hb, hml, hown, hts⟩ hK hP hA hS hZ (c_X12_begins_30_0 l D cI cL ad zz hJ σ τ h55_55) cw_RX12_379 (jc_55 cI cL ad σ τ) rfl ⟨Nat.le_of_ble_eq_true rfl, Nat.le_of_ble_eq_true rfl⟩ rfl rfl rfl hl.1 rfl (Nat.le_of_ble_eq_true rfl) dX12_givesAs_43 ⟨Nat.zero_le _, Nat.zero_le _⟩ (fun σ1 τ1 H locs h1 hP hS => ?_)
  obtain ⟨rfl, f3, f4, f5, m6, m7, h1⟩ := h1
  refine lv_aload_n hx hb dX12_givesAs_46 rfl (lv_at hl 0 rfl) ?_
  refine lv_iconst (v := 0) hx hb dX12_givesAs_47 (by decide) ?_
  refine lv_iload_n hx hb dX12_givesAs_48 rfl (lv_at hl 2 rfl) ?_
  have z8 : (σ1 55 56).toInt = (σ 55 56).toInt := by rw [(show σ1 55 56 = (σ 55 56) from (by rw [f4 56 (by omega)]))]
  refine jcallV (As := [.int 0, .int a2]) (rest := []) ⟨hx, hb, hml, hown, hts⟩ hK hP hA hS hZ (c_X12_givesAs_3_0_1 l D cI cL ad zz hJ σ1 τ a2 (A2) t2 m6 (by omega)) cw_RX12_394 (jc_55 cI cL ad σ1 τ) rfl ⟨Nat.le_of_ble_eq_true rfl, Nat.le_of_ble_eq_true rfl⟩ rfl rfl rfl hl.1 rfl (Nat.le_of_ble_eq_true rfl) dX12_givesAs_49 ⟨Nat.zero_le _, Nat.zero_le _⟩ (fun r10 σ9 τ9 H locs h9 hP hS => ?_)
  obtain ⟨rfl, f11, f12, f13, m14, m15, h9⟩ := h9
  have h16 := h9
  obtain ⟨q18, k17⟩ := h16
  have q18 := q18.symm
  subst q18
  refine lv_iconst (v := 3) hx hb dX12_givesAs_52 (by decide) ?_
  have g19 := jrg (rfl : (a2 ^^^ (σ1 55 57)).toInt = (a2 ^^^ (σ1 55 57)).toInt)
  refine lv_imul hx hb dX12_givesAs_53 ?_
  refine lv_topi (fun x20 ex20 => ?_)
  have gx20 := jrg (rfl : x20.toInt = x20.toInt)
  have m21 : σ9 85 0 = 30 := (by rw [f13 0 (by omega)]; exact m7)
  exact hret x20 σ9 τ _ _ _ _ rfl ⟨rfl, (fun i hi => by rw [f11 i (by omega), f3 i (by omega)]), (fun k hk => by rw [f12 k (by omega), f4 k (by omega)]), (fun k hk => by rw [f13 k (by omega), f5 k (by omega)]), m14, m21, m15, ⟨(by rw [ex20, (show σ1 55 57 = σ 55 57 from (by rw [f4 57 (by omega)]))]), trivial⟩⟩ hP hS dX12_givesAs_54
set_option maxHeartbeats 4000000 in
set_option maxRecDepth 100000 in
theorem c_X12_begins_40_1 (l : Launch) (D : va_G) (cI cL : ClassId) (ad zz : Nat → Nat) (hJ : jD ad) (σ : Nat → Nat → Int32) (τ : Nat → Nat → Int64) (h55_55 : σ 55 55 = 1) : jMv l yX12_begins cX12_begins 2 none ({ frames := 0, cells := 0, slots := 0, locals := 0 }) D cI cL ad zz [.ref (ad 55), .int 40] σ τ (fun σ' τ' => τ = τ' ∧ (∀ i : Nat, (i < 55 ∨ 55 < i) ∧ (i < 85 ∨ 85 < i) → σ' i = σ i) ∧ (∀ k : Nat, (k < 55 ∨ 55 < k) → σ' 55 k = σ 55 k) ∧ (∀ k : Nat, (k < 1 ∨ 1 < k) → σ' 85 k = σ 85 k) ∧ (σ' 55 55 = 2) ∧ (σ' 85 1 = 40) ∧ True) := by
  refine jMv.of hJ (by decide +kernel) rfl (Nat.le_of_ble_eq_true rfl) ?_
  intro p e s m args below meth c Q ls hC hret hl hP
  obtain ⟨hx, hb, hr, hml, hown, hts, hK, -, hlocks, hZ⟩ := hC
  have hown : s.vm.findClass RX12 = some m.cls := hown
  have hS : va_S (jA ad) s.heap s.heap [] := va_S.rf
  have hA : ∀ q, jA ad q → jA ad q := fun _ h => h
  have hl : lv_has ls 2 [(0, .ref (ad 55)), (1, .int 40)] := hl
  refine lv_aload_n hx hb dX12_begins_0 rfl (lv_at hl 0 rfl) ?_
  refine va_get (D := D) hx hb hts inlX12 hown hK hP 55 (jc_55 cI cL ad σ τ) rfl 55 (by decide) (hts _ kw_49_7) (fun _ h9 => h9) rfl dX12_begins_1 ?_
  refine jtopr h55_55 ?_
  refine lv_bipush (v := 24) hx hb dX12_begins_4 (by decide) ?_
  refine lv_icmp_ge (tgt := 19) hx hb dX12_begins_6 (by decide) (fun c => absurd c (by decide)) (fun _ => ?_)
  refine lv_aload_n hx hb dX12_begins_9 rfl (lv_at hl 0 rfl) ?_
  refine va_get (D := D) hx hb hts inlX12 hown hK hP 55 (jc_55 cI cL ad σ τ) rfl 54 (by decide) (hts _ kw_8_10) (fun _ h9 => h9) rfl dX12_begins_10 ?_
  refine lv_aload_n hx hb dX12_begins_13 rfl (lv_at hl 0 rfl) ?_
  refine va_get (D := D) hx hb hts inlX12 hown hK hP 55 (jc_55 cI cL ad σ τ) rfl 55 (by decide) (hts _ kw_49_7) (fun _ h9 => h9) rfl dX12_begins_14 ?_
  refine jtopr h55_55 ?_
  refine lv_iload_n hx hb dX12_begins_17 rfl (lv_at hl 1 rfl) ?_
  refine jast hx hb hK hP hJ hA hS (jc_85 cI cL ad σ τ) (ja_85 cI cL ad σ τ _ _) (jin jz_1 (by omega) (by omega)) dX12_begins_18 (fun σ1 H locs eσ1 hP hS => ?_)
  have eσ1 : σ1 = jup σ 85 1 40 := eσ1
  refine lv_aload_n hx hb dX12_begins_19 rfl (lv_at hl 0 rfl) ?_
  refine lv_dup hx hb dX12_begins_20 rfl ?_
  refine va_get (D := D) hx hb hts inlX12 hown hK hP 55 (jc_55 cI cL ad σ1 τ) rfl 55 (by decide) (hts _ kw_49_7) (fun _ h9 => h9) rfl dX12_begins_21 ?_
  have m2 : σ1 55 55 = 1 := (by rw [eσ1, jup_n (by decide)]; exact h55_55)
  refine jtopr m2 ?_
  refine lv_iconst (v := 1) hx hb dX12_begins_24 (by decide) ?_
  refine lv_iadd hx hb dX12_begins_25 ?_
  refine jtopr (y := 2) (by decide) ?_
  refine jput (ty := .int) hx hb hts inlX12 tyX12 tyX12_ok nmX12 hown hK hP hJ hA hS (jc_55 cI cL ad σ1 τ) rfl (k := 55) (by decide) (Nat.le_of_ble_eq_true rfl) (jp_55_55 cI cL ad σ1 τ 2) (hts _ kw_49_7) (fun _ h9 => h9) rfl (by decide +kernel) rfl rfl dX12_begins_26 (fun σ3 H locs eσ3 hP hS => ?_)
  have m4 : σ3 55 55 = 2 := (by rw [eσ3]; exact jup_s)
  have m5 : σ3 85 1 = 40 := (by rw [eσ3, jup_n (by decide)]; exact (by rw [eσ1]; exact jup_s))
  exact hret σ3 τ _ _ _ _ ⟨rfl, (fun i hi => by rw [eσ3, jup_n (by omega), eσ1, jup_n (by omega)]), (fun k hk => by rw [eσ3, jup_k (by omega), eσ1, jup_n (by decide)]), (fun k hk => by rw [eσ3, jup_n (by decide), eσ1, jup_k (by omega)]), m4, m5, trivial⟩ hP hS dX12_begins_29
set_option maxHeartbeats 4000000 in
set_option maxRecDepth 100000 in
theorem c_X12_begins_10_2 (l : Launch) (D : va_G) (cI cL : ClassId) (ad zz : Nat → Nat) (hJ : jD ad) (σ : Nat → Nat → Int32) (τ : Nat → Nat → Int64) (h55_55 : σ 55 55 = 2) : jMv l yX12_begins cX12_begins 2 none ({ frames := 0, cells := 0, slots := 0, locals := 0 }) D cI cL ad zz [.ref (ad 55), .int 10] σ τ (fun σ' τ' => τ = τ' ∧ (∀ i : Nat, (i < 55 ∨ 55 < i) ∧ (i < 85 ∨ 85 < i) → σ' i = σ i) ∧ (∀ k : Nat, (k < 55 ∨ 55 < k) → σ' 55 k = σ 55 k) ∧ (∀ k : Nat, (k < 2 ∨ 2 < k) → σ' 85 k = σ 85 k) ∧ (σ' 55 55 = 3) ∧ (σ' 85 2 = 10) ∧ True) := by
  refine jMv.of hJ (by decide +kernel) rfl (Nat.le_of_ble_eq_true rfl) ?_
  intro p e s m args below meth c Q ls hC hret hl hP
  obtain ⟨hx, hb, hr, hml, hown, hts, hK, -, hlocks, hZ⟩ := hC
  have hown : s.vm.findClass RX12 = some m.cls := hown
  have hS : va_S (jA ad) s.heap s.heap [] := va_S.rf
  have hA : ∀ q, jA ad q → jA ad q := fun _ h => h
  have hl : lv_has ls 2 [(0, .ref (ad 55)), (1, .int 10)] := hl
  refine lv_aload_n hx hb dX12_begins_0 rfl (lv_at hl 0 rfl) ?_
  refine va_get (D := D) hx hb hts inlX12 hown hK hP 55 (jc_55 cI cL ad σ τ) rfl 55 (by decide) (hts _ kw_49_7) (fun _ h9 => h9) rfl dX12_begins_1 ?_
  refine jtopr h55_55 ?_
  refine lv_bipush (v := 24) hx hb dX12_begins_4 (by decide) ?_
  refine lv_icmp_ge (tgt := 19) hx hb dX12_begins_6 (by decide) (fun c => absurd c (by decide)) (fun _ => ?_)
  refine lv_aload_n hx hb dX12_begins_9 rfl (lv_at hl 0 rfl) ?_
  refine va_get (D := D) hx hb hts inlX12 hown hK hP 55 (jc_55 cI cL ad σ τ) rfl 54 (by decide) (hts _ kw_8_10) (fun _ h9 => h9) rfl dX12_begins_10 ?_
  refine lv_aload_n hx hb dX12_begins_13 rfl (lv_at hl 0 rfl) ?_
  refine va_get (D := D) hx hb hts inlX12 hown hK hP 55 (jc_55 cI cL ad σ τ) rfl 55 (by decide) (hts _ kw_49_7) (fun _ h9 => h9) rfl dX12_begins_14 ?_
  refine jtopr h55_55 ?_
  refine lv_iload_n hx hb dX12_begins_17 rfl (lv_at hl 1 rfl) ?_
  refine jast hx hb hK hP hJ hA hS (jc_85 cI cL ad σ τ) (ja_85 cI cL ad σ τ _ _) (jin jz_2 (by omega) (by omega)) dX12_begins_18 (fun σ1 H locs eσ1 hP hS => ?_)
  have eσ1 : σ1 = jup σ 85 2 10 := eσ1
  refine lv_aload_n hx hb dX12_begins_19 rfl (lv_at hl 0 rfl) ?_
  refine lv_dup hx hb dX12_begins_20 rfl ?_
  refine va_get (D := D) hx hb hts inlX12 hown hK hP 55 (jc_55 cI cL ad σ1 τ) rfl 55 (by decide) (hts _ kw_49_7) (fun _ h9 => h9) rfl dX12_begins_21 ?_
  have m2 : σ1 55 55 = 2 := (by rw [eσ1, jup_n (by decide)]; exact h55_55)
  refine jtopr m2 ?_
  refine lv_iconst (v := 1) hx hb dX12_begins_24 (by decide) ?_
  refine lv_iadd hx hb dX12_begins_25 ?_
  refine jtopr (y := 3) (by decide) ?_
  refine jput (ty := .int) hx hb hts inlX12 tyX12 tyX12_ok nmX12 hown hK hP hJ hA hS (jc_55 cI cL ad σ1 τ) rfl (k := 55) (by decide) (Nat.le_of_ble_eq_true rfl) (jp_55_55 cI cL ad σ1 τ 3) (hts _ kw_49_7) (fun _ h9 => h9) rfl (by decide +kernel) rfl rfl dX12_begins_26 (fun σ3 H locs eσ3 hP hS => ?_)
  have m4 : σ3 55 55 = 3 := (by rw [eσ3]; exact jup_s)
  have m5 : σ3 85 2 = 10 := (by rw [eσ3, jup_n (by decide)]; exact (by rw [eσ1]; exact jup_s))
  exact hret σ3 τ _ _ _ _ ⟨rfl, (fun i hi => by rw [eσ3, jup_n (by omega), eσ1, jup_n (by omega)]), (fun k hk => by rw [eσ3, jup_k (by omega), eσ1, jup_n (by decide)]), (fun k hk => by rw [eσ3, jup_n (by decide), eσ1, jup_k (by omega)]), m4, m5, trivial⟩ hP hS dX12_begins_29
set_option maxHeartbeats 4000000 in
set_option maxRecDepth 100000 in
theorem c_X12_putsAs_3_3_3 (l : Launch) (D : va_G) (cI cL : ClassId) (ad zz : Nat → Nat) (hJ : jD ad) (σ : Nat → Nat → Int32) (τ : Nat → Nat → Int64) (a2 : Int32) (A2 : Int) (t2 : a2.toInt = A2) (h55_55 : σ 55 55 = 3) (hp0 : (σ 55 56).toInt = 3) : jM l yX12_putsAs cX12_putsAs 3 (some .int) ({ frames := 1, cells := 0, slots := 0, locals := 21 }) D cI cL ad zz [.ref (ad 55), .int 3, .int a2] σ τ (fun r σ' τ' => τ = τ' ∧ (∀ i : Nat, (i < 55 ∨ 55 < i) ∧ (i < 85 ∨ 85 < i) → σ' i = σ i) ∧ (∀ k : Nat, (k < 55 ∨ 55 < k) → σ' 55 k = σ 55 k) ∧ (∀ k : Nat, (k < 3 ∨ 3 < k) → σ' 85 k = σ 85 k) ∧ (σ' 55 55 = 4) ∧ (σ' 85 3 = 1) ∧ ((r = (a2 + (σ 55 57)) ∧ True))) := by
  refine jM.of hJ (by decide +kernel) (nt := .int) rfl (Nat.le_of_ble_eq_true rfl) ?_
  intro p e s m args below meth c Q ls hC hret hl hP
  obtain ⟨hx, hb, hr, hml, hown, hts, hK, -, hlocks, hZ⟩ := hC
  have hown : s.vm.findClass RX12 = some m.cls := hown
  have hS : va_S (jA ad) s.heap s.heap [] := va_S.rf
  have hA : ∀ q, jA ad q → jA ad q := fun _ h => h
  have hl : lv_has ls 3 [(0, .ref (ad 55)), (1, .int 3), (2, .int a2)] := hl
  have g2 := jrg t2
  refine lv_iload_n hx hb dX12_putsAs_0 rfl (lv_at hl 1 rfl) ?_
  refine lv_iconst (v := 4) hx hb dX12_putsAs_1 (by decide) ?_
  refine lv_icmp_ne (tgt := 20) hx hb dX12_putsAs_2 (by decide) (fun _ => ?_) (fun c => absurd c (by decide))
  refine lv_iload_n hx hb dX12_putsAs_20 rfl (lv_at hl 1 rfl) ?_
  refine lv_iconst (v := 1) hx hb dX12_putsAs_21 (by decide) ?_
  refine lv_icmp_ne (tgt := 40) hx hb dX12_putsAs_22 (by decide) (fun _ => ?_) (fun c => absurd c (by decide))
  refine lv_aload_n hx hb dX12_putsAs_40 rfl (lv_at hl 0 rfl) ?_
  refine lv_iconst (v := 1) hx hb dX12_putsAs_41 (by decide) ?_
  refine jcallVv (As := [.int 1]) (rest := []) ⟨hx, hb, hml, hown, hts⟩ hK hP hA hS hZ (c_X12_begins_1_3 l D cI cL ad zz hJ σ τ h55_55) cw_RX12_379 (jc_55 cI cL ad σ τ) rfl ⟨Nat.le_of_ble_eq_true rfl, Nat.le_of_ble_eq_true rfl⟩ rfl rfl rfl hl.1 rfl (Nat.le_of_ble_eq_true rfl) dX12_putsAs_42 ⟨Nat.zero_le _, Nat.zero_le _⟩ (fun σ1 τ1 H locs h1 hP hS => ?_)
  obtain ⟨rfl, f3, f4, f5, m6, m7, h1⟩ := h1
  refine lv_iload_n hx hb dX12_putsAs_45 rfl (lv_at hl 2 rfl) ?_
  refine lv_aload_n hx hb dX12_putsAs_46 rfl (lv_at hl 0 rfl) ?_
  refine va_get (D := D) hx hb hts inlX12 hown hK hP 55 (jc_55 cI cL ad σ1 τ) rfl 57 (by decide) (hts _ kw_49_9) (fun _ h9 => h9) rfl dX12_putsAs_47 ?_
  have m8 : σ1 55 57 = (σ 55 57) := (by rw [f4 57 (by omega)])
  refine jtopr m8 ?_
  have g9 := jrg (rfl : (σ 55 57).toInt = (σ 55 57).toInt)
  refine lv_iadd hx hb dX12_putsAs_50 ?_
  refine lv_topi (fun x10 ex10 => ?_)
  have gx10 := jrg (rfl : x10.toInt = x10.toInt)
  exact hret x10 σ1 τ _ _ _ _ rfl ⟨rfl, (fun i hi => by rw [f3 i (by omega)]), (fun k hk => by rw [f4 k (by omega)]), (fun k hk => by rw [f5 k (by omega)]), m6, m7, ⟨(by rw [ex10]), trivial⟩⟩ hP hS dX12_putsAs_51
set_option maxHeartbeats 4000000 in
set_option maxRecDepth 100000 in
theorem c_X12_holdsAs_3_0_2 (l : Launch) (D : va_G) (cI cL : ClassId) (ad zz : Nat → Nat) (hJ : jD ad) (σ : Nat → Nat → Int32) (τ : Nat → Nat → Int64) (a2 : Int32) (A2 : Int) (t2 : a2.toInt = A2) (h55_55 : σ 55 55 = 2) (hp0 : (σ 55 56).toInt = 3) : jM l yX12_holdsAs cX12_holdsAs 4 (some .int) ({ frames := 2, cells := 0, slots := 0, locals := 43 }) D cI cL ad zz [.ref (ad 55), .int 0, .int a2] σ τ (fun r σ' τ' => τ = τ' ∧ (∀ i : Nat, (i < 55 ∨ 55 < i) ∧ (i < 85 ∨ 85 < i) → σ' i = σ i) ∧ (∀ k : Nat, (k < 55 ∨ 55 < k) → σ' 55 k = σ 55 k) ∧ (∀ k : Nat, (k < 2 ∨ 2 < k) ∧ (k < 3 ∨ 3 < k) → σ' 85 k = σ 85 k) ∧ (σ' 55 55 = 4) ∧ (σ' 85 2 = 10) ∧ (σ' 85 3 = 1) ∧ ((r = ((a2 + (σ 55 57)) * 2) ∧ True))) := by
  refine jM.of hJ (by decide +kernel) (nt := .int) rfl (Nat.le_of_ble_eq_true rfl) ?_
  intro p e s m args below meth c Q ls hC hret hl hP
  obtain ⟨hx, hb, hr, hml, hown, hts, hK, -, hlocks, hZ⟩ := hC
  have hown : s.vm.findClass RX12 = some m.cls := hown
  have hS : va_S (jA ad) s.heap s.heap [] := va_S.rf
  have hA : ∀ q, jA ad q → jA ad q := fun _ h => h
  have hl : lv_has ls 4 [(0, .ref (ad 55)), (1, .int 0), (2, .int a2)] := hl
  have g2 := jrg t2
  refine lv_iload_n hx hb dX12_holdsAs_0 rfl (lv_at hl 1 rfl) ?_
  refine lv_iconst (v := 3) hx hb dX12_holdsAs_1 (by decide) ?_
  refine lv_icmp_eq (tgt := 10) hx hb dX12_holdsAs_2 (by decide) (fun c => absurd c (by decide)) (fun _ => ?_)
  refine lv_iload_n hx hb dX12_holdsAs_5 rfl (lv_at hl 1 rfl) ?_
  refine lv_iconst (v := 5) hx hb dX12_holdsAs_6 (by decide) ?_
  refine lv_icmp_ne (tgt := 24) hx hb dX12_holdsAs_7 (by decide) (fun _ => ?_) (fun c => absurd c (by decide))
  refine lv_iload_n hx hb dX12_holdsAs_24 rfl (lv_at hl 1 rfl) ?_
  refine lv_bipush (v := 6) hx hb dX12_holdsAs_25 (by decide) ?_
  refine lv_icmp_ne (tgt := 55) hx hb dX12_holdsAs_27 (by decide) (fun _ => ?_) (fun c => absurd c (by decide))
  refine lv_aload_n hx hb dX12_holdsAs_55 rfl (lv_at hl 0 rfl) ?_
  refine lv_bipush (v := 10) hx hb dX12_holdsAs_56 (by decide) ?_
  refine jcallVv (As := [.int 10]) (rest := []) ⟨hx, hb, hml, hown, hts⟩ hK hP hA hS hZ (c_X12_begins_10_2 l D cI cL ad zz hJ σ τ h55_55) cw_RX12_379 (jc_55 cI cL ad σ τ) rfl ⟨Nat.le_of_ble_eq_true rfl, Nat.le_of_ble_eq_true rfl⟩ rfl rfl rfl hl.1 rfl (Nat.le_of_ble_eq_true rfl) dX12_holdsAs_58 ⟨Nat.zero_le _, Nat.zero_le _⟩ (fun σ1 τ1 H locs h1 hP hS => ?_)
  obtain ⟨rfl, f3, f4, f5, m6, m7, h1⟩ := h1
  refine lv_aload_n hx hb dX12_holdsAs_61 rfl (lv_at hl 0 rfl) ?_
  refine lv_aload_n hx hb dX12_holdsAs_62 rfl (lv_at hl 0 rfl) ?_
  refine va_get (D := D) hx hb hts inlX12 hown hK hP 55 (jc_55 cI cL ad σ1 τ) rfl 56 (by decide) (hts _ kw_49_8) (fun _ h9 => h9) rfl dX12_holdsAs_63 ?_
  have m8 : σ1 55 56 = (σ 55 56) := (by rw [f4 56 (by omega)])
  refine jtopr m8 ?_
  refine jtopr (jsame (rfl : (σ 55 56).toInt = (σ 55 56).toInt) jz_3 (by omega)) ?_
  refine lv_iload_n hx hb dX12_holdsAs_66 rfl (lv_at hl 2 rfl) ?_
  have z9 : (σ1 55 56).toInt = (σ 55 56).toInt := by rw [(show σ1 55 56 = (σ 55 56) from m8)]
  refine jcallV (As := [.int 3, .int a2]) (rest := []) ⟨hx, hb, hml, hown, hts⟩ hK hP hA hS hZ (c_X12_putsAs_3_3_3 l D cI cL ad zz hJ σ1 τ a2 (A2) t2 m6 (by omega)) cw_RX12_382 (jc_55 cI cL ad σ1 τ) rfl ⟨Nat.le_of_ble_eq_true rfl, Nat.le_of_ble_eq_true rfl⟩ rfl rfl rfl hl.1 rfl (Nat.le_of_ble_eq_true rfl) dX12_holdsAs_67 ⟨Nat.zero_le _, Nat.zero_le _⟩ (fun r11 σ10 τ10 H locs h10 hP hS => ?_)
  obtain ⟨rfl, f12, f13, f14, m15, m16, h10⟩ := h10
  have h17 := h10
  obtain ⟨q19, k18⟩ := h17
  have q19 := q19.symm
  subst q19
  refine lv_iconst (v := 2) hx hb dX12_holdsAs_70 (by decide) ?_
  have g20 := jrg (rfl : (a2 + (σ1 55 57)).toInt = (a2 + (σ1 55 57)).toInt)
  refine lv_imul hx hb dX12_holdsAs_71 ?_
  refine lv_topi (fun x21 ex21 => ?_)
  have gx21 := jrg (rfl : x21.toInt = x21.toInt)
  have m22 : σ10 85 2 = 10 := (by rw [f14 2 (by omega)]; exact m7)
  exact hret x21 σ10 τ _ _ _ _ rfl ⟨rfl, (fun i hi => by rw [f12 i (by omega), f3 i (by omega)]), (fun k hk => by rw [f13 k (by omega), f4 k (by omega)]), (fun k hk => by rw [f14 k (by omega), f5 k (by omega)]), m15, m22, m16, ⟨(by rw [ex21, (show σ1 55 57 = σ 55 57 from (by rw [f4 57 (by omega)]))]), trivial⟩⟩ hP hS dX12_holdsAs_72
set_option maxHeartbeats 4000000 in
set_option maxRecDepth 100000 in
theorem c_X12_holdsAs_3_3_1 (l : Launch) (D : va_G) (cI cL : ClassId) (ad zz : Nat → Nat) (hJ : jD ad) (σ : Nat → Nat → Int32) (τ : Nat → Nat → Int64) (a2 : Int32) (A2 : Int) (t2 : a2.toInt = A2) (h55_55 : σ 55 55 = 1) (hp0 : (σ 55 56).toInt = 3) : jM l yX12_holdsAs cX12_holdsAs 4 (some .int) ({ frames := 3, cells := 0, slots := 0, locals := 66 }) D cI cL ad zz [.ref (ad 55), .int 3, .int a2] σ τ (fun r σ' τ' => τ = τ' ∧ (∀ i : Nat, (i < 55 ∨ 55 < i) ∧ (i < 85 ∨ 85 < i) → σ' i = σ i) ∧ (∀ k : Nat, (k < 55 ∨ 55 < k) → σ' 55 k = σ 55 k) ∧ (∀ k : Nat, (k < 1 ∨ 1 < k) ∧ (k < 2 ∨ 2 < k) ∧ (k < 3 ∨ 3 < k) → σ' 85 k = σ 85 k) ∧ (σ' 55 55 = 4) ∧ (σ' 85 1 = 40) ∧ (σ' 85 2 = 10) ∧ (σ' 85 3 = 1) ∧ ((r = (-((a2 + (σ 55 57)) * 2)) ∧ True))) := by
  refine jM.of hJ (by decide +kernel) (nt := .int) rfl (Nat.le_of_ble_eq_true rfl) ?_
  intro p e s m args below meth c Q ls hC hret hl hP
  obtain ⟨hx, hb, hr, hml, hown, hts, hK, -, hlocks, hZ⟩ := hC
  have hown : s.vm.findClass RX12 = some m.cls := hown
  have hS : va_S (jA ad) s.heap s.heap [] := va_S.rf
  have hA : ∀ q, jA ad q → jA ad q := fun _ h => h
  have hl : lv_has ls 4 [(0, .ref (ad 55)), (1, .int 3), (2, .int a2)] := hl
  have g2 := jrg t2
  refine lv_iload_n hx hb dX12_holdsAs_0 rfl (lv_at hl 1 rfl) ?_
  refine lv_iconst (v := 3) hx hb dX12_holdsAs_1 (by decide) ?_
  refine lv_icmp_eq (tgt := 10) hx hb dX12_holdsAs_2 (by decide) (fun _ => ?_) (fun c => absurd (by decide) c)
  refine lv_aload_n hx hb dX12_holdsAs_10 rfl (lv_at hl 0 rfl) ?_
  refine lv_bipush (v := 40) hx hb dX12_holdsAs_11 (by decide) ?_
  refine jcallVv (As := [.int 40]) (rest := []) ⟨hx, hb, hml, hown, hts⟩ hK hP hA hS hZ (c_X12_begins_40_1 l D cI cL ad zz hJ σ τ h55_55) cw_RX12_379 (jc_55 cI cL ad σ τ) rfl ⟨Nat.le_of_ble_eq_true rfl, Nat.le_of_ble_eq_true rfl⟩ rfl rfl rfl hl.1 rfl (Nat.le_of_ble_eq_true rfl) dX12_holdsAs_13 ⟨Nat.zero_le _, Nat.zero_le _⟩ (fun σ1 τ1 H locs h1 hP hS => ?_)
  obtain ⟨rfl, f3, f4, f5, m6, m7, h1⟩ := h1
  refine lv_aload_n hx hb dX12_holdsAs_16 rfl (lv_at hl 0 rfl) ?_
  refine lv_iconst (v := 0) hx hb dX12_holdsAs_17 (by decide) ?_
  refine lv_iload_n hx hb dX12_holdsAs_18 rfl (lv_at hl 2 rfl) ?_
  have z8 : (σ1 55 56).toInt = (σ 55 56).toInt := by rw [(show σ1 55 56 = (σ 55 56) from (by rw [f4 56 (by omega)]))]
  refine jcallV (As := [.int 0, .int a2]) (rest := []) ⟨hx, hb, hml, hown, hts⟩ hK hP hA hS hZ (c_X12_holdsAs_3_0_2 l D cI cL ad zz hJ σ1 τ a2 (A2) t2 m6 (by omega)) cw_RX12_388 (jc_55 cI cL ad σ1 τ) rfl ⟨Nat.le_of_ble_eq_true rfl, Nat.le_of_ble_eq_true rfl⟩ rfl rfl rfl hl.1 rfl (Nat.le_of_ble_eq_true rfl) dX12_holdsAs_19 ⟨Nat.zero_le _, Nat.zero_le _⟩ (fun r10 σ9 τ9 H locs h9 hP hS => ?_)
  obtain ⟨rfl, f11, f12, f13, m14, m15, m16, h9⟩ := h9
  have h17 := h9
  obtain ⟨q19, k18⟩ := h17
  have q19 := q19.symm
  subst q19
  refine lv_ineg hx hb dX12_holdsAs_22 ?_
  refine lv_topi (fun x20 ex20 => ?_)
  have gx20 := jrg (rfl : x20.toInt = x20.toInt)
  have m21 : σ9 85 1 = 40 := (by rw [f13 1 (by omega)]; exact m7)
  exact hret x20 σ9 τ _ _ _ _ rfl ⟨rfl, (fun i hi => by rw [f11 i (by omega), f3 i (by omega)]), (fun k hk => by rw [f12 k (by omega), f4 k (by omega)]), (fun k hk => by rw [f13 k (by omega), f5 k (by omega)]), m14, m21, m15, m16, ⟨(by rw [ex20, (show σ1 55 57 = σ 55 57 from (by rw [f4 57 (by omega)]))]), trivial⟩⟩ hP hS dX12_holdsAs_23
set_option maxHeartbeats 4000000 in
set_option maxRecDepth 100000 in
theorem c_X12_begins_30_4 (l : Launch) (D : va_G) (cI cL : ClassId) (ad zz : Nat → Nat) (hJ : jD ad) (σ : Nat → Nat → Int32) (τ : Nat → Nat → Int64) (h55_55 : σ 55 55 = 4) : jMv l yX12_begins cX12_begins 2 none ({ frames := 0, cells := 0, slots := 0, locals := 0 }) D cI cL ad zz [.ref (ad 55), .int 30] σ τ (fun σ' τ' => τ = τ' ∧ (∀ i : Nat, (i < 55 ∨ 55 < i) ∧ (i < 85 ∨ 85 < i) → σ' i = σ i) ∧ (∀ k : Nat, (k < 55 ∨ 55 < k) → σ' 55 k = σ 55 k) ∧ (∀ k : Nat, (k < 4 ∨ 4 < k) → σ' 85 k = σ 85 k) ∧ (σ' 55 55 = 5) ∧ (σ' 85 4 = 30) ∧ True) := by
  refine jMv.of hJ (by decide +kernel) rfl (Nat.le_of_ble_eq_true rfl) ?_
  intro p e s m args below meth c Q ls hC hret hl hP
  obtain ⟨hx, hb, hr, hml, hown, hts, hK, -, hlocks, hZ⟩ := hC
  have hown : s.vm.findClass RX12 = some m.cls := hown
  have hS : va_S (jA ad) s.heap s.heap [] := va_S.rf
  have hA : ∀ q, jA ad q → jA ad q := fun _ h => h
  have hl : lv_has ls 2 [(0, .ref (ad 55)), (1, .int 30)] := hl
  refine lv_aload_n hx hb dX12_begins_0 rfl (lv_at hl 0 rfl) ?_
  refine va_get (D := D) hx hb hts inlX12 hown hK hP 55 (jc_55 cI cL ad σ τ) rfl 55 (by decide) (hts _ kw_49_7) (fun _ h9 => h9) rfl dX12_begins_1 ?_
  refine jtopr h55_55 ?_
  refine lv_bipush (v := 24) hx hb dX12_begins_4 (by decide) ?_
  refine lv_icmp_ge (tgt := 19) hx hb dX12_begins_6 (by decide) (fun c => absurd c (by decide)) (fun _ => ?_)
  refine lv_aload_n hx hb dX12_begins_9 rfl (lv_at hl 0 rfl) ?_
  refine va_get (D := D) hx hb hts inlX12 hown hK hP 55 (jc_55 cI cL ad σ τ) rfl 54 (by decide) (hts _ kw_8_10) (fun _ h9 => h9) rfl dX12_begins_10 ?_
  refine lv_aload_n hx hb dX12_begins_13 rfl (lv_at hl 0 rfl) ?_
  refine va_get (D := D) hx hb hts inlX12 hown hK hP 55 (jc_55 cI cL ad σ τ) rfl 55 (by decide) (hts _ kw_49_7) (fun _ h9 => h9) rfl dX12_begins_14 ?_
  refine jtopr h55_55 ?_
  refine lv_iload_n hx hb dX12_begins_17 rfl (lv_at hl 1 rfl) ?_
  refine jast hx hb hK hP hJ hA hS (jc_85 cI cL ad σ τ) (ja_85 cI cL ad σ τ _ _) (jin jz_4 (by omega) (by omega)) dX12_begins_18 (fun σ1 H locs eσ1 hP hS => ?_)
  have eσ1 : σ1 = jup σ 85 4 30 := eσ1
  refine lv_aload_n hx hb dX12_begins_19 rfl (lv_at hl 0 rfl) ?_
  refine lv_dup hx hb dX12_begins_20 rfl ?_
  refine va_get (D := D) hx hb hts inlX12 hown hK hP 55 (jc_55 cI cL ad σ1 τ) rfl 55 (by decide) (hts _ kw_49_7) (fun _ h9 => h9) rfl dX12_begins_21 ?_
  have m2 : σ1 55 55 = 4 := (by rw [eσ1, jup_n (by decide)]; exact h55_55)
  refine jtopr m2 ?_
  refine lv_iconst (v := 1) hx hb dX12_begins_24 (by decide) ?_
  refine lv_iadd hx hb dX12_begins_25 ?_
  refine jtopr (y := 5) (by decide) ?_
  refine jput (ty := .int) hx hb hts inlX12 tyX12 tyX12_ok nmX12 hown hK hP hJ hA hS (jc_55 cI cL ad σ1 τ) rfl (k := 55) (by decide) (Nat.le_of_ble_eq_true rfl) (jp_55_55 cI cL ad σ1 τ 5) (hts _ kw_49_7) (fun _ h9 => h9) rfl (by decide +kernel) rfl rfl dX12_begins_26 (fun σ3 H locs eσ3 hP hS => ?_)
  have m4 : σ3 55 55 = 5 := (by rw [eσ3]; exact jup_s)
  have m5 : σ3 85 4 = 30 := (by rw [eσ3, jup_n (by decide)]; exact (by rw [eσ1]; exact jup_s))
  exact hret σ3 τ _ _ _ _ ⟨rfl, (fun i hi => by rw [eσ3, jup_n (by omega), eσ1, jup_n (by omega)]), (fun k hk => by rw [eσ3, jup_k (by omega), eσ1, jup_n (by decide)]), (fun k hk => by rw [eσ3, jup_n (by decide), eσ1, jup_k (by omega)]), m4, m5, trivial⟩ hP hS dX12_begins_29
set_option maxHeartbeats 4000000 in
set_option maxRecDepth 100000 in
theorem c_X12_begins_11_5 (l : Launch) (D : va_G) (cI cL : ClassId) (ad zz : Nat → Nat) (hJ : jD ad) (σ : Nat → Nat → Int32) (τ : Nat → Nat → Int64) (h55_55 : σ 55 55 = 5) : jMv l yX12_begins cX12_begins 2 none ({ frames := 0, cells := 0, slots := 0, locals := 0 }) D cI cL ad zz [.ref (ad 55), .int 11] σ τ (fun σ' τ' => τ = τ' ∧ (∀ i : Nat, (i < 55 ∨ 55 < i) ∧ (i < 85 ∨ 85 < i) → σ' i = σ i) ∧ (∀ k : Nat, (k < 55 ∨ 55 < k) → σ' 55 k = σ 55 k) ∧ (∀ k : Nat, (k < 5 ∨ 5 < k) → σ' 85 k = σ 85 k) ∧ (σ' 55 55 = 6) ∧ (σ' 85 5 = 11) ∧ True) := by
  refine jMv.of hJ (by decide +kernel) rfl (Nat.le_of_ble_eq_true rfl) ?_
  intro p e s m args below meth c Q ls hC hret hl hP
  obtain ⟨hx, hb, hr, hml, hown, hts, hK, -, hlocks, hZ⟩ := hC
  have hown : s.vm.findClass RX12 = some m.cls := hown
  have hS : va_S (jA ad) s.heap s.heap [] := va_S.rf
  have hA : ∀ q, jA ad q → jA ad q := fun _ h => h
  have hl : lv_has ls 2 [(0, .ref (ad 55)), (1, .int 11)] := hl
  refine lv_aload_n hx hb dX12_begins_0 rfl (lv_at hl 0 rfl) ?_
  refine va_get (D := D) hx hb hts inlX12 hown hK hP 55 (jc_55 cI cL ad σ τ) rfl 55 (by decide) (hts _ kw_49_7) (fun _ h9 => h9) rfl dX12_begins_1 ?_
  refine jtopr h55_55 ?_
  refine lv_bipush (v := 24) hx hb dX12_begins_4 (by decide) ?_
  refine lv_icmp_ge (tgt := 19) hx hb dX12_begins_6 (by decide) (fun c => absurd c (by decide)) (fun _ => ?_)
  refine lv_aload_n hx hb dX12_begins_9 rfl (lv_at hl 0 rfl) ?_
  refine va_get (D := D) hx hb hts inlX12 hown hK hP 55 (jc_55 cI cL ad σ τ) rfl 54 (by decide) (hts _ kw_8_10) (fun _ h9 => h9) rfl dX12_begins_10 ?_
  refine lv_aload_n hx hb dX12_begins_13 rfl (lv_at hl 0 rfl) ?_
  refine va_get (D := D) hx hb hts inlX12 hown hK hP 55 (jc_55 cI cL ad σ τ) rfl 55 (by decide) (hts _ kw_49_7) (fun _ h9 => h9) rfl dX12_begins_14 ?_
  refine jtopr h55_55 ?_
  refine lv_iload_n hx hb dX12_begins_17 rfl (lv_at hl 1 rfl) ?_
  refine jast hx hb hK hP hJ hA hS (jc_85 cI cL ad σ τ) (ja_85 cI cL ad σ τ _ _) (jin jz_5 (by omega) (by omega)) dX12_begins_18 (fun σ1 H locs eσ1 hP hS => ?_)
  have eσ1 : σ1 = jup σ 85 5 11 := eσ1
  refine lv_aload_n hx hb dX12_begins_19 rfl (lv_at hl 0 rfl) ?_
  refine lv_dup hx hb dX12_begins_20 rfl ?_
  refine va_get (D := D) hx hb hts inlX12 hown hK hP 55 (jc_55 cI cL ad σ1 τ) rfl 55 (by decide) (hts _ kw_49_7) (fun _ h9 => h9) rfl dX12_begins_21 ?_
  have m2 : σ1 55 55 = 5 := (by rw [eσ1, jup_n (by decide)]; exact h55_55)
  refine jtopr m2 ?_
  refine lv_iconst (v := 1) hx hb dX12_begins_24 (by decide) ?_
  refine lv_iadd hx hb dX12_begins_25 ?_
  refine jtopr (y := 6) (by decide) ?_
  refine jput (ty := .int) hx hb hts inlX12 tyX12 tyX12_ok nmX12 hown hK hP hJ hA hS (jc_55 cI cL ad σ1 τ) rfl (k := 55) (by decide) (Nat.le_of_ble_eq_true rfl) (jp_55_55 cI cL ad σ1 τ 6) (hts _ kw_49_7) (fun _ h9 => h9) rfl (by decide +kernel) rfl rfl dX12_begins_26 (fun σ3 H locs eσ3 hP hS => ?_)
  have m4 : σ3 55 55 = 6 := (by rw [eσ3]; exact jup_s)
  have m5 : σ3 85 5 = 11 := (by rw [eσ3, jup_n (by decide)]; exact (by rw [eσ1]; exact jup_s))
  exact hret σ3 τ _ _ _ _ ⟨rfl, (fun i hi => by rw [eσ3, jup_n (by omega), eσ1, jup_n (by omega)]), (fun k hk => by rw [eσ3, jup_k (by omega), eσ1, jup_n (by decide)]), (fun k hk => by rw [eσ3, jup_n (by decide), eσ1, jup_k (by omega)]), m4, m5, trivial⟩ hP hS dX12_begins_29
set_option maxHeartbeats 4000000 in
set_option maxRecDepth 100000 in
theorem c_X12_givesAs_3_0_5_x1 (l : Launch) (D : va_G) (cI cL : ClassId) (ad zz : Nat → Nat) (hJ : jD ad) (σ : Nat → Nat → Int32) (τ : Nat → Nat → Int64) (h55_55 : σ 55 55 = 5) (hp0 : (σ 55 56).toInt = 3) : jM l yX12_givesAs cX12_givesAs 4 (some .int) ({ frames := 1, cells := 0, slots := 0, locals := 21 }) D cI cL ad zz [.ref (ad 55), .int 0, .int 1] σ τ (fun r σ' τ' => τ = τ' ∧ (∀ i : Nat, (i < 55 ∨ 55 < i) ∧ (i < 85 ∨ 85 < i) → σ' i = σ i) ∧ (∀ k : Nat, (k < 55 ∨ 55 < k) → σ' 55 k = σ 55 k) ∧ (∀ k : Nat, (k < 5 ∨ 5 < k) → σ' 85 k = σ 85 k) ∧ (σ' 55 55 = 6) ∧ (σ' 85 5 = 11) ∧ ((r = (1 ^^^ (σ 55 57)) ∧ True))) := by
  refine jM.of hJ (by decide +kernel) (nt := .int) rfl (Nat.le_of_ble_eq_true rfl) ?_
  intro p e s m args below meth c Q ls hC hret hl hP
  obtain ⟨hx, hb, hr, hml, hown, hts, hK, -, hlocks, hZ⟩ := hC
  have hown : s.vm.findClass RX12 = some m.cls := hown
  have hS : va_S (jA ad) s.heap s.heap [] := va_S.rf
  have hA : ∀ q, jA ad q → jA ad q := fun _ h => h
  have hl : lv_has ls 4 [(0, .ref (ad 55)), (1, .int 0), (2, .int 1)] := hl
  refine lv_iload_n hx hb dX12_givesAs_0 rfl (lv_at hl 1 rfl) ?_
  refine lv_iconst (v := 5) hx hb dX12_givesAs_1 (by decide) ?_
  refine lv_icmp_ne (tgt := 30) hx hb dX12_givesAs_2 (by decide) (fun _ => ?_) (fun c => absurd c (by decide))
  refine lv_iload_n hx hb dX12_givesAs_30 rfl (lv_at hl 1 rfl) ?_
  refine lv_iconst (v := 2) hx hb dX12_givesAs_31 (by decide) ?_
  refine lv_icmp_eq (tgt := 40) hx hb dX12_givesAs_32 (by decide) (fun c => absurd c (by decide)) (fun _ => ?_)
  refine lv_iload_n hx hb dX12_givesAs_35 rfl (lv_at hl 1 rfl) ?_
  refine lv_iconst (v := 3) hx hb dX12_givesAs_36 (by decide) ?_
  refine lv_icmp_ne (tgt := 55) hx hb dX12_givesAs_37 (by decide) (fun _ => ?_) (fun c => absurd c (by decide))
  refine lv_aload_n hx hb dX12_givesAs_55 rfl (lv_at hl 0 rfl) ?_
  refine lv_bipush (v := 11) hx hb dX12_givesAs_56 (by decide) ?_
  refine jcallVv (As := [.int 11]) (rest := []) ⟨hx, hb, hml, hown, hts⟩ hK hP hA hS hZ (c_X12_begins_11_5 l D cI cL ad zz hJ σ τ h55_55) cw_RX12_379 (jc_55 cI cL ad σ τ) rfl ⟨Nat.le_of_ble_eq_true rfl, Nat.le_of_ble_eq_true rfl⟩ rfl rfl rfl hl.1 rfl (Nat.le_of_ble_eq_true rfl) dX12_givesAs_58 ⟨Nat.zero_le _, Nat.zero_le _⟩ (fun σ1 τ1 H locs h1 hP hS => ?_)
  obtain ⟨rfl, f3, f4, f5, m6, m7, h1⟩ := h1
  refine lv_iload_n hx hb dX12_givesAs_61 rfl (lv_at hl 2 rfl) ?_
  refine lv_aload_n hx hb dX12_givesAs_62 rfl (lv_at hl 0 rfl) ?_
  refine va_get (D := D) hx hb hts inlX12 hown hK hP 55 (jc_55 cI cL ad σ1 τ) rfl 57 (by decide) (hts _ kw_49_9) (fun _ h9 => h9) rfl dX12_givesAs_63 ?_
  have m8 : σ1 55 57 = (σ 55 57) := (by rw [f4 57 (by omega)])
  refine jtopr m8 ?_
  refine lv_ixor hx hb dX12_givesAs_66 ?_
  refine lv_topi (fun x9 ex9 => ?_)
  have gx9 := jrg (rfl : x9.toInt = x9.toInt)
  exact hret x9 σ1 τ _ _ _ _ rfl ⟨rfl, (fun i hi => by rw [f3 i (by omega)]), (fun k hk => by rw [f4 k (by omega)]), (fun k hk => by rw [f5 k (by omega)]), m6, m7, ⟨(by rw [ex9]), trivial⟩⟩ hP hS dX12_givesAs_67
set_option maxHeartbeats 4000000 in
set_option maxRecDepth 100000 in
theorem c_X12_givesAs_3_3_4_x1 (l : Launch) (D : va_G) (cI cL : ClassId) (ad zz : Nat → Nat) (hJ : jD ad) (σ : Nat → Nat → Int32) (τ : Nat → Nat → Int64) (h55_55 : σ 55 55 = 4) (hp0 : (σ 55 56).toInt = 3) : jM l yX12_givesAs cX12_givesAs 4 (some .int) ({ frames := 2, cells := 0, slots := 0, locals := 44 }) D cI cL ad zz [.ref (ad 55), .int 3, .int 1] σ τ (fun r σ' τ' => τ = τ' ∧ (∀ i : Nat, (i < 55 ∨ 55 < i) ∧ (i < 85 ∨ 85 < i) → σ' i = σ i) ∧ (∀ k : Nat, (k < 55 ∨ 55 < k) → σ' 55 k = σ 55 k) ∧ (∀ k : Nat, (k < 4 ∨ 4 < k) ∧ (k < 5 ∨ 5 < k) → σ' 85 k = σ 85 k) ∧ (σ' 55 55 = 6) ∧ (σ' 85 4 = 30) ∧ (σ' 85 5 = 11) ∧ ((r = ((1 ^^^ (σ 55 57)) * 3) ∧ True))) := by
  refine jM.of hJ (by decide +kernel) (nt := .int) rfl (Nat.le_of_ble_eq_true rfl) ?_
  intro p e s m args below meth c Q ls hC hret hl hP
  obtain ⟨hx, hb, hr, hml, hown, hts, hK, -, hlocks, hZ⟩ := hC
  have hown : s.vm.findClass RX12 = some m.cls := hown
  have hS : va_S (jA ad) s.heap s.heap [] := va_S.rf
  have hA : ∀ q, jA ad q → jA ad q := fun _ h => h
  have hl : lv_has ls 4 [(0, .ref (ad 55)), (1, .int 3), (2, .int 1)] := hl
  refine lv_iload_n hx hb dX12_givesAs_0 rfl (lv_at hl 1 rfl) ?_
  refine lv_iconst (v := 5) hx hb dX12_givesAs_1 (by decide) ?_
  refine lv_icmp_ne (tgt := 30) hx hb dX12_givesAs_2 (by decide) (fun _ => ?_) (fun c => absurd c (by decide))
  refine lv_iload_n hx hb dX12_givesAs_30 rfl (lv_at hl 1 rfl) ?_
  refine lv_iconst (v := 2) hx hb dX12_givesAs_31 (by decide) ?_
  refine lv_icmp_eq (tgt := 40) hx hb dX12_givesAs_32 (by decide) (fun c => absurd c (by decide)) (fun _ => ?_)
  refine lv_iload_n hx hb dX12_givesAs_35 rfl (lv_at hl 1 rfl) ?_
  refine lv_iconst (v := 3) hx hb dX12_givesAs_36 (by decide) ?_
  refine lv_icmp_ne (tgt := 55) hx hb dX12_givesAs_37 (by decide) (fun c => absurd (by decide) c) (fun _ => ?_)
  refine lv_aload_n hx hb dX12_givesAs_40 rfl (lv_at hl 0 rfl) ?_
  refine lv_bipush (v := 30) hx hb dX12_givesAs_41 (by decide) ?_
  refine jcallVv (As := [.int 30]) (rest := []) ⟨hx, hb, hml, hown, hts⟩ hK hP hA hS hZ (c_X12_begins_30_4 l D cI cL ad zz hJ σ τ h55_55) cw_RX12_379 (jc_55 cI cL ad σ τ) rfl ⟨Nat.le_of_ble_eq_true rfl, Nat.le_of_ble_eq_true rfl⟩ rfl rfl rfl hl.1 rfl (Nat.le_of_ble_eq_true rfl) dX12_givesAs_43 ⟨Nat.zero_le _, Nat.zero_le _⟩ (fun σ1 τ1 H locs h1 hP hS => ?_)
  obtain ⟨rfl, f3, f4, f5, m6, m7, h1⟩ := h1
  refine lv_aload_n hx hb dX12_givesAs_46 rfl (lv_at hl 0 rfl) ?_
  refine lv_iconst (v := 0) hx hb dX12_givesAs_47 (by decide) ?_
  refine lv_iload_n hx hb dX12_givesAs_48 rfl (lv_at hl 2 rfl) ?_
  have z8 : (σ1 55 56).toInt = (σ 55 56).toInt := by rw [(show σ1 55 56 = (σ 55 56) from (by rw [f4 56 (by omega)]))]
  refine jcallV (As := [.int 0, .int 1]) (rest := []) ⟨hx, hb, hml, hown, hts⟩ hK hP hA hS hZ (c_X12_givesAs_3_0_5_x1 l D cI cL ad zz hJ σ1 τ m6 (by omega)) cw_RX12_394 (jc_55 cI cL ad σ1 τ) rfl ⟨Nat.le_of_ble_eq_true rfl, Nat.le_of_ble_eq_true rfl⟩ rfl rfl rfl hl.1 rfl (Nat.le_of_ble_eq_true rfl) dX12_givesAs_49 ⟨Nat.zero_le _, Nat.zero_le _⟩ (fun r10 σ9 τ9 H locs h9 hP hS => ?_)
  obtain ⟨rfl, f11, f12, f13, m14, m15, h9⟩ := h9
  have h16 := h9
  obtain ⟨q18, k17⟩ := h16
  have q18 := q18.symm
  subst q18
  refine lv_iconst (v := 3) hx hb dX12_givesAs_52 (by decide) ?_
  have g19 := jrg (rfl : (1 ^^^ (σ1 55 57)).toInt = (1 ^^^ (σ1 55 57)).toInt)
  refine lv_imul hx hb dX12_givesAs_53 ?_
  refine lv_topi (fun x20 ex20 => ?_)
  have gx20 := jrg (rfl : x20.toInt = x20.toInt)
  have m21 : σ9 85 4 = 30 := (by rw [f13 4 (by omega)]; exact m7)
  exact hret x20 σ9 τ _ _ _ _ rfl ⟨rfl, (fun i hi => by rw [f11 i (by omega), f3 i (by omega)]), (fun k hk => by rw [f12 k (by omega), f4 k (by omega)]), (fun k hk => by rw [f13 k (by omega), f5 k (by omega)]), m14, m21, m15, ⟨(by rw [ex20, (show σ1 55 57 = σ 55 57 from (by rw [f4 57 (by omega)]))]), trivial⟩⟩ hP hS dX12_givesAs_54
set_option maxHeartbeats 4000000 in
set_option maxRecDepth 100000 in
theorem c_X12_tellsAs_3_3_0 (l : Launch) (D : va_G) (cI cL : ClassId) (ad zz : Nat → Nat) (hJ : jD ad) (σ : Nat → Nat → Int32) (τ : Nat → Nat → Int64) (a2 : Int32) (A2 : Int) (t2 : a2.toInt = A2) (h55_55 : σ 55 55 = 0) (hp0 : (σ 55 56).toInt = 3) : jM l yX12_tellsAs cX12_tellsAs 4 (some .int) ({ frames := 4, cells := 0, slots := 0, locals := 89 }) D cI cL ad zz [.ref (ad 55), .int 3, .int a2] σ τ (fun r σ' τ' => τ = τ' ∧ (∀ i : Nat, (i < 55 ∨ 55 < i) ∧ (i < 85 ∨ 85 < i) → σ' i = σ i) ∧ (∀ k : Nat, (k < 55 ∨ 55 < k) → σ' 55 k = σ 55 k) ∧ (∀ k : Nat, (k < 0 ∨ 0 < k) ∧ (k < 1 ∨ 1 < k) ∧ (k < 2 ∨ 2 < k) ∧ (k < 3 ∨ 3 < k) ∧ (k < 4 ∨ 4 < k) ∧ (k < 5 ∨ 5 < k) → σ' 85 k = σ 85 k) ∧ (σ' 55 55 = 6) ∧ (σ' 85 0 = 2) ∧ (σ' 85 1 = 40) ∧ (σ' 85 2 = 10) ∧ (σ' 85 3 = 1) ∧ (σ' 85 4 = 30) ∧ (σ' 85 5 = 11) ∧ ((r = ((-((a2 + (σ 55 57)) * 2)) - ((1 ^^^ (σ 55 57)) * 3)) ∧ True))) := by
  refine jM.of hJ (by decide +kernel) (nt := .int) rfl (Nat.le_of_ble_eq_true rfl) ?_
  intro p e s m args below meth c Q ls hC hret hl hP
  obtain ⟨hx, hb, hr, hml, hown, hts, hK, -, hlocks, hZ⟩ := hC
  have hown : s.vm.findClass RX12 = some m.cls := hown
  have hS : va_S (jA ad) s.heap s.heap [] := va_S.rf
  have hA : ∀ q, jA ad q → jA ad q := fun _ h => h
  have hl : lv_has ls 4 [(0, .ref (ad 55)), (1, .int 3), (2, .int a2)] := hl
  have g2 := jrg t2
  refine lv_iload_n hx hb dX12_tellsAs_0 rfl (lv_at hl 1 rfl) ?_
  refine lv_iconst (v := 4) hx hb dX12_tellsAs_1 (by decide) ?_
  refine lv_icmp_ne (tgt := 20) hx hb dX12_tellsAs_2 (by decide) (fun _ => ?_) (fun c => absurd c (by decide))
  refine lv_aload_n hx hb dX12_tellsAs_20 rfl (lv_at hl 0 rfl) ?_
  refine lv_iconst (v := 2) hx hb dX12_tellsAs_21 (by decide) ?_
  refine jcallVv (As := [.int 2]) (rest := []) ⟨hx, hb, hml, hown, hts⟩ hK hP hA hS hZ (c_X12_begins_2_0 l D cI cL ad zz hJ σ τ h55_55) cw_RX12_379 (jc_55 cI cL ad σ τ) rfl ⟨Nat.le_of_ble_eq_true rfl, Nat.le_of_ble_eq_true rfl⟩ rfl rfl rfl hl.1 rfl (Nat.le_of_ble_eq_true rfl) dX12_tellsAs_22 ⟨Nat.zero_le _, Nat.zero_le _⟩ (fun σ1 τ1 H locs h1 hP hS => ?_)
  obtain ⟨rfl, f3, f4, f5, m6, m7, h1⟩ := h1
  refine lv_aload_n hx hb dX12_tellsAs_25 rfl (lv_at hl 0 rfl) ?_
  refine lv_aload_n hx hb dX12_tellsAs_26 rfl (lv_at hl 0 rfl) ?_
  refine va_get (D := D) hx hb hts inlX12 hown hK hP 55 (jc_55 cI cL ad σ1 τ) rfl 56 (by decide) (hts _ kw_49_8) (fun _ h9 => h9) rfl dX12_tellsAs_27 ?_
  have m8 : σ1 55 56 = (σ 55 56) := (by rw [f4 56 (by omega)])
  refine jtopr m8 ?_
  refine jtopr (jsame (rfl : (σ 55 56).toInt = (σ 55 56).toInt) jz_3 (by omega)) ?_
  refine lv_iload_n hx hb dX12_tellsAs_30 rfl (lv_at hl 2 rfl) ?_
  have z9 : (σ1 55 56).toInt = (σ 55 56).toInt := by rw [(show σ1 55 56 = (σ 55 56) from m8)]
  refine jcallV (As := [.int 3, .int a2]) (rest := []) ⟨hx, hb, hml, hown, hts⟩ hK hP hA hS hZ (c_X12_holdsAs_3_3_1 l D cI cL ad zz hJ σ1 τ a2 (A2) t2 m6 (by omega)) cw_RX12_388 (jc_55 cI cL ad σ1 τ) rfl ⟨Nat.le_of_ble_eq_true rfl, Nat.le_of_ble_eq_true rfl⟩ rfl rfl rfl hl.1 rfl (Nat.le_of_ble_eq_true rfl) dX12_tellsAs_31 ⟨Nat.zero_le _, Nat.zero_le _⟩ (fun r11 σ10 τ10 H locs h10 hP hS => ?_)
  obtain ⟨rfl, f12, f13, f14, m15, m16, m17, m18, h10⟩ := h10
  have h19 := h10
  obtain ⟨q21, k20⟩ := h19
  have q21 := q21.symm
  subst q21
  refine lv_istore_n (lv' := [(3, .int (-((a2 + (σ1 55 57)) * 2))), (0, .ref (ad 55)), (1, .int 3), (2, .int a2)]) hx hb dX12_tellsAs_34 rfl hl (by decide) rfl (fun ls hl => ?_)
  refine lv_iload_n hx hb dX12_tellsAs_35 rfl (lv_at hl 0 rfl) ?_
  refine lv_aload_n hx hb dX12_tellsAs_36 rfl (lv_at hl 1 rfl) ?_
  refine lv_aload_n hx hb dX12_tellsAs_37 rfl (lv_at hl 1 rfl) ?_
  refine va_get (D := D) hx hb hts inlX12 hown hK hP 55 (jc_55 cI cL ad σ10 τ) rfl 56 (by decide) (hts _ kw_49_8) (fun _ h9 => h9) rfl dX12_tellsAs_38 ?_
  have m22 : σ10 55 56 = (σ 55 56) := (by rw [f13 56 (by omega)]; exact m8)
  refine jtopr m22 ?_
  refine jtopr (jsame (rfl : (σ 55 56).toInt = (σ 55 56).toInt) jz_3 (by omega)) ?_
  refine lv_iconst (v := 1) hx hb dX12_tellsAs_41 (by decide) ?_
  have z23 : (σ10 55 56).toInt = (σ 55 56).toInt := by rw [(show σ10 55 56 = (σ 55 56) from m22)]
  refine jcallV (As := [.int 3, .int 1]) (rest := [.int (-((a2 + (σ1 55 57)) * 2))]) ⟨hx, hb, hml, hown, hts⟩ hK hP hA hS hZ (c_X12_givesAs_3_3_4_x1 l D cI cL ad zz hJ σ10 τ m15 (by omega)) cw_RX12_394 (jc_55 cI cL ad σ10 τ) rfl ⟨Nat.le_of_ble_eq_true rfl, Nat.le_of_ble_eq_true rfl⟩ rfl rfl rfl hl.1 rfl (Nat.le_of_ble_eq_true rfl) dX12_tellsAs_42 ⟨Nat.zero_le _, Nat.zero_le _⟩ (fun r25 σ24 τ24 H locs h24 hP hS => ?_)
  obtain ⟨rfl, f26, f27, f28, m29, m30, m31, h24⟩ := h24
  have h32 := h24
  obtain ⟨q34, k33⟩ := h32
  have q34 := q34.symm
  subst q34
  have g35 := jrg (rfl : (-((a2 + (σ1 55 57)) * 2)).toInt = (-((a2 + (σ1 55 57)) * 2)).toInt)
  have g36 := jrg (rfl : ((1 ^^^ (σ10 55 57)) * 3).toInt = ((1 ^^^ (σ10 55 57)) * 3).toInt)
  refine lv_isub hx hb dX12_tellsAs_45 ?_
  refine lv_topi (fun x37 ex37 => ?_)
  have gx37 := jrg (rfl : x37.toInt = x37.toInt)
  have m38 : σ24 85 0 = 2 := (by rw [f28 0 (by omega)]; exact (by rw [f14 0 (by omega)]; exact m7))
  have m39 : σ24 85 1 = 40 := (by rw [f28 1 (by omega)]; exact m16)
  have m40 : σ24 85 2 = 10 := (by rw [f28 2 (by omega)]; exact m17)
  have m41 : σ24 85 3 = 1 := (by rw [f28 3 (by omega)]; exact m18)
  exact hret x37 σ24 τ _ _ _ _ rfl ⟨rfl, (fun i hi => by rw [f26 i (by omega), f12 i (by omega), f3 i (by omega)]), (fun k hk => by rw [f27 k (by omega), f13 k (by omega), f4 k (by omega)]), (fun k hk => by rw [f28 k (by omega), f14 k (by omega), f5 k (by omega)]), m29, m38, m39, m40, m41, m30, m31, ⟨(by rw [ex37, (show σ1 55 57 = σ 55 57 from (by rw [f4 57 (by omega)])), (show σ10 55 57 = σ 55 57 from (by rw [f13 57 (by omega), f4 57 (by omega)]))]), trivial⟩⟩ hP hS dX12_tellsAs_46
set_option maxHeartbeats 4000000 in
set_option maxRecDepth 100000 in
theorem c_X12_begins_50_0 (l : Launch) (D : va_G) (cI cL : ClassId) (ad zz : Nat → Nat) (hJ : jD ad) (σ : Nat → Nat → Int32) (τ : Nat → Nat → Int64) (h55_55 : σ 55 55 = 0) : jMv l yX12_begins cX12_begins 2 none ({ frames := 0, cells := 0, slots := 0, locals := 0 }) D cI cL ad zz [.ref (ad 55), .int 50] σ τ (fun σ' τ' => τ = τ' ∧ (∀ i : Nat, (i < 55 ∨ 55 < i) ∧ (i < 85 ∨ 85 < i) → σ' i = σ i) ∧ (∀ k : Nat, (k < 55 ∨ 55 < k) → σ' 55 k = σ 55 k) ∧ (∀ k : Nat, (k < 0 ∨ 0 < k) → σ' 85 k = σ 85 k) ∧ (σ' 55 55 = 1) ∧ (σ' 85 0 = 50) ∧ True) := by
  refine jMv.of hJ (by decide +kernel) rfl (Nat.le_of_ble_eq_true rfl) ?_
  intro p e s m args below meth c Q ls hC hret hl hP
  obtain ⟨hx, hb, hr, hml, hown, hts, hK, -, hlocks, hZ⟩ := hC
  have hown : s.vm.findClass RX12 = some m.cls := hown
  have hS : va_S (jA ad) s.heap s.heap [] := va_S.rf
  have hA : ∀ q, jA ad q → jA ad q := fun _ h => h
  have hl : lv_has ls 2 [(0, .ref (ad 55)), (1, .int 50)] := hl
  refine lv_aload_n hx hb dX12_begins_0 rfl (lv_at hl 0 rfl) ?_
  refine va_get (D := D) hx hb hts inlX12 hown hK hP 55 (jc_55 cI cL ad σ τ) rfl 55 (by decide) (hts _ kw_49_7) (fun _ h9 => h9) rfl dX12_begins_1 ?_
  refine jtopr h55_55 ?_
  refine lv_bipush (v := 24) hx hb dX12_begins_4 (by decide) ?_
  refine lv_icmp_ge (tgt := 19) hx hb dX12_begins_6 (by decide) (fun c => absurd c (by decide)) (fun _ => ?_)
  refine lv_aload_n hx hb dX12_begins_9 rfl (lv_at hl 0 rfl) ?_
  refine va_get (D := D) hx hb hts inlX12 hown hK hP 55 (jc_55 cI cL ad σ τ) rfl 54 (by decide) (hts _ kw_8_10) (fun _ h9 => h9) rfl dX12_begins_10 ?_
  refine lv_aload_n hx hb dX12_begins_13 rfl (lv_at hl 0 rfl) ?_
  refine va_get (D := D) hx hb hts inlX12 hown hK hP 55 (jc_55 cI cL ad σ τ) rfl 55 (by decide) (hts _ kw_49_7) (fun _ h9 => h9) rfl dX12_begins_14 ?_
  refine jtopr h55_55 ?_
  refine lv_iload_n hx hb dX12_begins_17 rfl (lv_at hl 1 rfl) ?_
  refine jast hx hb hK hP hJ hA hS (jc_85 cI cL ad σ τ) (ja_85 cI cL ad σ τ _ _) (jin jz_0 (by omega) (by omega)) dX12_begins_18 (fun σ1 H locs eσ1 hP hS => ?_)
  have eσ1 : σ1 = jup σ 85 0 50 := eσ1
  refine lv_aload_n hx hb dX12_begins_19 rfl (lv_at hl 0 rfl) ?_
  refine lv_dup hx hb dX12_begins_20 rfl ?_
  refine va_get (D := D) hx hb hts inlX12 hown hK hP 55 (jc_55 cI cL ad σ1 τ) rfl 55 (by decide) (hts _ kw_49_7) (fun _ h9 => h9) rfl dX12_begins_21 ?_
  have m2 : σ1 55 55 = 0 := (by rw [eσ1, jup_n (by decide)]; exact h55_55)
  refine jtopr m2 ?_
  refine lv_iconst (v := 1) hx hb dX12_begins_24 (by decide) ?_
  refine lv_iadd hx hb dX12_begins_25 ?_
  refine jtopr (y := 1) (by decide) ?_
  refine jput (ty := .int) hx hb hts inlX12 tyX12 tyX12_ok nmX12 hown hK hP hJ hA hS (jc_55 cI cL ad σ1 τ) rfl (k := 55) (by decide) (Nat.le_of_ble_eq_true rfl) (jp_55_55 cI cL ad σ1 τ 1) (hts _ kw_49_7) (fun _ h9 => h9) rfl (by decide +kernel) rfl rfl dX12_begins_26 (fun σ3 H locs eσ3 hP hS => ?_)
  have m4 : σ3 55 55 = 1 := (by rw [eσ3]; exact jup_s)
  have m5 : σ3 85 0 = 50 := (by rw [eσ3, jup_n (by decide)]; exact (by rw [eσ1]; exact jup_s))
  exact hret σ3 τ _ _ _ _ ⟨rfl, (fun i hi => by rw [eσ3, jup_n (by omega), eσ1, jup_n (by omega)]), (fun k hk => by rw [eσ3, jup_k (by omega), eσ1, jup_n (by decide)]), (fun k hk => by rw [eσ3, jup_n (by decide), eσ1, jup_k (by omega)]), m4, m5, trivial⟩ hP hS dX12_begins_29
set_option maxHeartbeats 4000000 in
set_option maxRecDepth 100000 in
theorem c_X12_putsAs_4_0_2 (l : Launch) (D : va_G) (cI cL : ClassId) (ad zz : Nat → Nat) (hJ : jD ad) (σ : Nat → Nat → Int32) (τ : Nat → Nat → Int64) (a2 : Int32) (A2 : Int) (t2 : a2.toInt = A2) (h55_55 : σ 55 55 = 2) (hp0 : (σ 55 56).toInt = 4) : jM l yX12_putsAs cX12_putsAs 3 (some .int) ({ frames := 1, cells := 0, slots := 0, locals := 21 }) D cI cL ad zz [.ref (ad 55), .int 0, .int a2] σ τ (fun r σ' τ' => τ = τ' ∧ (∀ i : Nat, (i < 55 ∨ 55 < i) ∧ (i < 85 ∨ 85 < i) → σ' i = σ i) ∧ (∀ k : Nat, (k < 55 ∨ 55 < k) → σ' 55 k = σ 55 k) ∧ (∀ k : Nat, (k < 2 ∨ 2 < k) → σ' 85 k = σ 85 k) ∧ (σ' 55 55 = 3) ∧ (σ' 85 2 = 1) ∧ ((r = (a2 + (σ 55 57)) ∧ True))) := by
  refine jM.of hJ (by decide +kernel) (nt := .int) rfl (Nat.le_of_ble_eq_true rfl) ?_
  intro p e s m args below meth c Q ls hC hret hl hP
  obtain ⟨hx, hb, hr, hml, hown, hts, hK, -, hlocks, hZ⟩ := hC
  have hown : s.vm.findClass RX12 = some m.cls := hown
  have hS : va_S (jA ad) s.heap s.heap [] := va_S.rf
  have hA : ∀ q, jA ad q → jA ad q := fun _ h => h
  have hl : lv_has ls 3 [(0, .ref (ad 55)), (1, .int 0), (2, .int a2)] := hl
  have g2 := jrg t2
  refine lv_iload_n hx hb dX12_putsAs_0 rfl (lv_at hl 1 rfl) ?_
  refine lv_iconst (v := 4) hx hb dX12_putsAs_1 (by decide) ?_
  refine lv_icmp_ne (tgt := 20) hx hb dX12_putsAs_2 (by decide) (fun _ => ?_) (fun c => absurd c (by decide))
  refine lv_iload_n hx hb dX12_putsAs_20 rfl (lv_at hl 1 rfl) ?_
  refine lv_iconst (v := 1) hx hb dX12_putsAs_21 (by decide) ?_
  refine lv_icmp_ne (tgt := 40) hx hb dX12_putsAs_22 (by decide) (fun _ => ?_) (fun c => absurd c (by decide))
  refine lv_aload_n hx hb dX12_putsAs_40 rfl (lv_at hl 0 rfl) ?_
  refine lv_iconst (v := 1) hx hb dX12_putsAs_41 (by decide) ?_
  refine jcallVv (As := [.int 1]) (rest := []) ⟨hx, hb, hml, hown, hts⟩ hK hP hA hS hZ (c_X12_begins_1_2 l D cI cL ad zz hJ σ τ h55_55) cw_RX12_379 (jc_55 cI cL ad σ τ) rfl ⟨Nat.le_of_ble_eq_true rfl, Nat.le_of_ble_eq_true rfl⟩ rfl rfl rfl hl.1 rfl (Nat.le_of_ble_eq_true rfl) dX12_putsAs_42 ⟨Nat.zero_le _, Nat.zero_le _⟩ (fun σ1 τ1 H locs h1 hP hS => ?_)
  obtain ⟨rfl, f3, f4, f5, m6, m7, h1⟩ := h1
  refine lv_iload_n hx hb dX12_putsAs_45 rfl (lv_at hl 2 rfl) ?_
  refine lv_aload_n hx hb dX12_putsAs_46 rfl (lv_at hl 0 rfl) ?_
  refine va_get (D := D) hx hb hts inlX12 hown hK hP 55 (jc_55 cI cL ad σ1 τ) rfl 57 (by decide) (hts _ kw_49_9) (fun _ h9 => h9) rfl dX12_putsAs_47 ?_
  have m8 : σ1 55 57 = (σ 55 57) := (by rw [f4 57 (by omega)])
  refine jtopr m8 ?_
  have g9 := jrg (rfl : (σ 55 57).toInt = (σ 55 57).toInt)
  refine lv_iadd hx hb dX12_putsAs_50 ?_
  refine lv_topi (fun x10 ex10 => ?_)
  have gx10 := jrg (rfl : x10.toInt = x10.toInt)
  exact hret x10 σ1 τ _ _ _ _ rfl ⟨rfl, (fun i hi => by rw [f3 i (by omega)]), (fun k hk => by rw [f4 k (by omega)]), (fun k hk => by rw [f5 k (by omega)]), m6, m7, ⟨(by rw [ex10]), trivial⟩⟩ hP hS dX12_putsAs_51
set_option maxHeartbeats 4000000 in
set_option maxRecDepth 100000 in
theorem c_X12_putsAs_4_1_1 (l : Launch) (D : va_G) (cI cL : ClassId) (ad zz : Nat → Nat) (hJ : jD ad) (σ : Nat → Nat → Int32) (τ : Nat → Nat → Int64) (a2 : Int32) (A2 : Int) (t2 : a2.toInt = A2) (h55_55 : σ 55 55 = 1) (hp0 : (σ 55 56).toInt = 4) : jM l yX12_putsAs cX12_putsAs 3 (some .int) ({ frames := 2, cells := 0, slots := 0, locals := 43 }) D cI cL ad zz [.ref (ad 55), .int 1, .int a2] σ τ (fun r σ' τ' => τ = τ' ∧ (∀ i : Nat, (i < 55 ∨ 55 < i) ∧ (i < 85 ∨ 85 < i) → σ' i = σ i) ∧ (∀ k : Nat, (k < 55 ∨ 55 < k) → σ' 55 k = σ 55 k) ∧ (∀ k : Nat, (k < 1 ∨ 1 < k) ∧ (k < 2 ∨ 2 < k) → σ' 85 k = σ 85 k) ∧ (σ' 55 55 = 3) ∧ (σ' 85 1 = 20) ∧ (σ' 85 2 = 1) ∧ ((r = ((a2 + (σ 55 57)) + 3) ∧ True))) := by
  refine jM.of hJ (by decide +kernel) (nt := .int) rfl (Nat.le_of_ble_eq_true rfl) ?_
  intro p e s m args below meth c Q ls hC hret hl hP
  obtain ⟨hx, hb, hr, hml, hown, hts, hK, -, hlocks, hZ⟩ := hC
  have hown : s.vm.findClass RX12 = some m.cls := hown
  have hS : va_S (jA ad) s.heap s.heap [] := va_S.rf
  have hA : ∀ q, jA ad q → jA ad q := fun _ h => h
  have hl : lv_has ls 3 [(0, .ref (ad 55)), (1, .int 1), (2, .int a2)] := hl
  have g2 := jrg t2
  refine lv_iload_n hx hb dX12_putsAs_0 rfl (lv_at hl 1 rfl) ?_
  refine lv_iconst (v := 4) hx hb dX12_putsAs_1 (by decide) ?_
  refine lv_icmp_ne (tgt := 20) hx hb dX12_putsAs_2 (by decide) (fun _ => ?_) (fun c => absurd c (by decide))
  refine lv_iload_n hx hb dX12_putsAs_20 rfl (lv_at hl 1 rfl) ?_
  refine lv_iconst (v := 1) hx hb dX12_putsAs_21 (by decide) ?_
  refine lv_icmp_ne (tgt := 40) hx hb dX12_putsAs_22 (by decide) (fun c => absurd (by decide) c) (fun _ => ?_)
  refine lv_aload_n hx hb dX12_putsAs_25 rfl (lv_at hl 0 rfl) ?_
  refine lv_bipush (v := 20) hx hb dX12_putsAs_26 (by decide) ?_
  refine jcallVv (As := [.int 20]) (rest := []) ⟨hx, hb, hml, hown, hts⟩ hK hP hA hS hZ (c_X12_begins_20_1 l D cI cL ad zz hJ σ τ h55_55) cw_RX12_379 (jc_55 cI cL ad σ τ) rfl ⟨Nat.le_of_ble_eq_true rfl, Nat.le_of_ble_eq_true rfl⟩ rfl rfl rfl hl.1 rfl (Nat.le_of_ble_eq_true rfl) dX12_putsAs_28 ⟨Nat.zero_le _, Nat.zero_le _⟩ (fun σ1 τ1 H locs h1 hP hS => ?_)
  obtain ⟨rfl, f3, f4, f5, m6, m7, h1⟩ := h1
  refine lv_aload_n hx hb dX12_putsAs_31 rfl (lv_at hl 0 rfl) ?_
  refine lv_iconst (v := 0) hx hb dX12_putsAs_32 (by decide) ?_
  refine lv_iload_n hx hb dX12_putsAs_33 rfl (lv_at hl 2 rfl) ?_
  have z8 : (σ1 55 56).toInt = (σ 55 56).toInt := by rw [(show σ1 55 56 = (σ 55 56) from (by rw [f4 56 (by omega)]))]
  refine jcallV (As := [.int 0, .int a2]) (rest := []) ⟨hx, hb, hml, hown, hts⟩ hK hP hA hS hZ (c_X12_putsAs_4_0_2 l D cI cL ad zz hJ σ1 τ a2 (A2) t2 m6 (by omega)) cw_RX12_382 (jc_55 cI cL ad σ1 τ) rfl ⟨Nat.le_of_ble_eq_true rfl, Nat.le_of_ble_eq_true rfl⟩ rfl rfl rfl hl.1 rfl (Nat.le_of_ble_eq_true rfl) dX12_putsAs_34 ⟨Nat.zero_le _, Nat.zero_le _⟩ (fun r10 σ9 τ9 H locs h9 hP hS => ?_)
  obtain ⟨rfl, f11, f12, f13, m14, m15, h9⟩ := h9
  have h16 := h9
  obtain ⟨q18, k17⟩ := h16
  have q18 := q18.symm
  subst q18
  refine lv_iconst (v := 3) hx hb dX12_putsAs_37 (by decide) ?_
  have g19 := jrg (rfl : (a2 + (σ1 55 57)).toInt = (a2 + (σ1 55 57)).toInt)
  refine lv_iadd hx hb dX12_putsAs_38 ?_
  refine lv_topi (fun x20 ex20 => ?_)
  have gx20 := jrg (rfl : x20.toInt = x20.toInt)
  have m21 : σ9 85 1 = 20 := (by rw [f13 1 (by omega)]; exact m7)
  exact hret x20 σ9 τ _ _ _ _ rfl ⟨rfl, (fun i hi => by rw [f11 i (by omega), f3 i (by omega)]), (fun k hk => by rw [f12 k (by omega), f4 k (by omega)]), (fun k hk => by rw [f13 k (by omega), f5 k (by omega)]), m14, m21, m15, ⟨(by rw [ex20, (show σ1 55 57 = σ 55 57 from (by rw [f4 57 (by omega)]))]), trivial⟩⟩ hP hS dX12_putsAs_39
set_option maxHeartbeats 4000000 in
set_option maxRecDepth 100000 in
theorem c_X12_putsAs_4_4_0 (l : Launch) (D : va_G) (cI cL : ClassId) (ad zz : Nat → Nat) (hJ : jD ad) (σ : Nat → Nat → Int32) (τ : Nat → Nat → Int64) (a2 : Int32) (A2 : Int) (t2 : a2.toInt = A2) (h55_55 : σ 55 55 = 0) (hp0 : (σ 55 56).toInt = 4) : jM l yX12_putsAs cX12_putsAs 3 (some .int) ({ frames := 3, cells := 0, slots := 0, locals := 65 }) D cI cL ad zz [.ref (ad 55), .int 4, .int a2] σ τ (fun r σ' τ' => τ = τ' ∧ (∀ i : Nat, (i < 55 ∨ 55 < i) ∧ (i < 85 ∨ 85 < i) → σ' i = σ i) ∧ (∀ k : Nat, (k < 55 ∨ 55 < k) → σ' 55 k = σ 55 k) ∧ (∀ k : Nat, (k < 0 ∨ 0 < k) ∧ (k < 1 ∨ 1 < k) ∧ (k < 2 ∨ 2 < k) → σ' 85 k = σ 85 k) ∧ (σ' 55 55 = 3) ∧ (σ' 85 0 = 50) ∧ (σ' 85 1 = 20) ∧ (σ' 85 2 = 1) ∧ ((r = (((a2 + 1) + (σ 55 57)) + 3) ∧ True))) := by
  refine jM.of hJ (by decide +kernel) (nt := .int) rfl (Nat.le_of_ble_eq_true rfl) ?_
  intro p e s m args below meth c Q ls hC hret hl hP
  obtain ⟨hx, hb, hr, hml, hown, hts, hK, -, hlocks, hZ⟩ := hC
  have hown : s.vm.findClass RX12 = some m.cls := hown
  have hS : va_S (jA ad) s.heap s.heap [] := va_S.rf
  have hA : ∀ q, jA ad q → jA ad q := fun _ h => h
  have hl : lv_has ls 3 [(0, .ref (ad 55)), (1, .int 4), (2, .int a2)] := hl
  have g2 := jrg t2
  refine lv_iload_n hx hb dX12_putsAs_0 rfl (lv_at hl 1 rfl) ?_
  refine lv_iconst (v := 4) hx hb dX12_putsAs_1 (by decide) ?_
  refine lv_icmp_ne (tgt := 20) hx hb dX12_putsAs_2 (by decide) (fun c => absurd (by decide) c) (fun _ => ?_)
  refine lv_aload_n hx hb dX12_putsAs_5 rfl (lv_at hl 0 rfl) ?_
  refine lv_bipush (v := 50) hx hb dX12_putsAs_6 (by decide) ?_
  refine jcallVv (As := [.int 50]) (rest := []) ⟨hx, hb, hml, hown, hts⟩ hK hP hA hS hZ (c_X12_begins_50_0 l D cI cL ad zz hJ σ τ h55_55) cw_RX12_379 (jc_55 cI cL ad σ τ) rfl ⟨Nat.le_of_ble_eq_true rfl, Nat.le_of_ble_eq_true rfl⟩ rfl rfl rfl hl.1 rfl (Nat.le_of_ble_eq_true rfl) dX12_putsAs_8 ⟨Nat.zero_le _, Nat.zero_le _⟩ (fun σ1 τ1 H locs h1 hP hS => ?_)
  obtain ⟨rfl, f3, f4, f5, m6, m7, h1⟩ := h1
  refine lv_aload_n hx hb dX12_putsAs_11 rfl (lv_at hl 0 rfl) ?_
  refine lv_iconst (v := 1) hx hb dX12_putsAs_12 (by decide) ?_
  refine lv_iload_n hx hb dX12_putsAs_13 rfl (lv_at hl 2 rfl) ?_
  refine lv_iconst (v := 1) hx hb dX12_putsAs_14 (by decide) ?_
  refine lv_iadd hx hb dX12_putsAs_15 ?_
  refine lv_topi (fun x8 ex8 => ?_)
  have gx8 := jrg (rfl : x8.toInt = x8.toInt)
  have z9 : (σ1 55 56).toInt = (σ 55 56).toInt := by rw [(show σ1 55 56 = (σ 55 56) from (by rw [f4 56 (by omega)]))]
  refine jcallV (As := [.int 1, .int x8]) (rest := []) ⟨hx, hb, hml, hown, hts⟩ hK hP hA hS hZ (c_X12_putsAs_4_1_1 l D cI cL ad zz hJ σ1 τ x8 (x8.toInt) rfl m6 (by omega)) cw_RX12_382 (jc_55 cI cL ad σ1 τ) rfl ⟨Nat.le_of_ble_eq_true rfl, Nat.le_of_ble_eq_true rfl⟩ rfl rfl rfl hl.1 rfl (Nat.le_of_ble_eq_true rfl) dX12_putsAs_16 ⟨Nat.zero_le _, Nat.zero_le _⟩ (fun r11 σ10 τ10 H locs h10 hP hS => ?_)
  obtain ⟨rfl, f12, f13, f14, m15, m16, m17, h10⟩ := h10
  have h18 := h10
  obtain ⟨q20, k19⟩ := h18
  have q20 := q20.symm
  subst q20
  have m21 : σ10 85 0 = 50 := (by rw [f14 0 (by omega)]; exact m7)
  exact hret ((x8 + (σ1 55 57)) + 3) σ10 τ _ _ _ _ rfl ⟨rfl, (fun i hi => by rw [f12 i (by omega), f3 i (by omega)]), (fun k hk => by rw [f13 k (by omega), f4 k (by omega)]), (fun k hk => by rw [f14 k (by omega), f5 k (by omega)]), m15, m21, m16, m17, ⟨(by rw [ex8, (show σ1 55 57 = σ 55 57 from (by rw [f4 57 (by omega)]))]), trivial⟩⟩ hP hS dX12_putsAs_19
set_option maxHeartbeats 4000000 in
set_option maxRecDepth 100000 in
theorem c_X12_begins_50_1 (l : Launch) (D : va_G) (cI cL : ClassId) (ad zz : Nat → Nat) (hJ : jD ad) (σ : Nat → Nat → Int32) (τ : Nat → Nat → Int64) (h55_55 : σ 55 55 = 1) : jMv l yX12_begins cX12_begins 2 none ({ frames := 0, cells := 0, slots := 0, locals := 0 }) D cI cL ad zz [.ref (ad 55), .int 50] σ τ (fun σ' τ' => τ = τ' ∧ (∀ i : Nat, (i < 55 ∨ 55 < i) ∧ (i < 85 ∨ 85 < i) → σ' i = σ i) ∧ (∀ k : Nat, (k < 55 ∨ 55 < k) → σ' 55 k = σ 55 k) ∧ (∀ k : Nat, (k < 1 ∨ 1 < k) → σ' 85 k = σ 85 k) ∧ (σ' 55 55 = 2) ∧ (σ' 85 1 = 50) ∧ True) := by
  refine jMv.of hJ (by decide +kernel) rfl (Nat.le_of_ble_eq_true rfl) ?_
  intro p e s m args below meth c Q ls hC hret hl hP
  obtain ⟨hx, hb, hr, hml, hown, hts, hK, -, hlocks, hZ⟩ := hC
  have hown : s.vm.findClass RX12 = some m.cls := hown
  have hS : va_S (jA ad) s.heap s.heap [] := va_S.rf
  have hA : ∀ q, jA ad q → jA ad q := fun _ h => h
  have hl : lv_has ls 2 [(0, .ref (ad 55)), (1, .int 50)] := hl
  refine lv_aload_n hx hb dX12_begins_0 rfl (lv_at hl 0 rfl) ?_
  refine va_get (D := D) hx hb hts inlX12 hown hK hP 55 (jc_55 cI cL ad σ τ) rfl 55 (by decide) (hts _ kw_49_7) (fun _ h9 => h9) rfl dX12_begins_1 ?_
  refine jtopr h55_55 ?_
  refine lv_bipush (v := 24) hx hb dX12_begins_4 (by decide) ?_
  refine lv_icmp_ge (tgt := 19) hx hb dX12_begins_6 (by decide) (fun c => absurd c (by decide)) (fun _ => ?_)
  refine lv_aload_n hx hb dX12_begins_9 rfl (lv_at hl 0 rfl) ?_
  refine va_get (D := D) hx hb hts inlX12 hown hK hP 55 (jc_55 cI cL ad σ τ) rfl 54 (by decide) (hts _ kw_8_10) (fun _ h9 => h9) rfl dX12_begins_10 ?_
  refine lv_aload_n hx hb dX12_begins_13 rfl (lv_at hl 0 rfl) ?_
  refine va_get (D := D) hx hb hts inlX12 hown hK hP 55 (jc_55 cI cL ad σ τ) rfl 55 (by decide) (hts _ kw_49_7) (fun _ h9 => h9) rfl dX12_begins_14 ?_
  refine jtopr h55_55 ?_
  refine lv_iload_n hx hb dX12_begins_17 rfl (lv_at hl 1 rfl) ?_
  refine jast hx hb hK hP hJ hA hS (jc_85 cI cL ad σ τ) (ja_85 cI cL ad σ τ _ _) (jin jz_1 (by omega) (by omega)) dX12_begins_18 (fun σ1 H locs eσ1 hP hS => ?_)
  have eσ1 : σ1 = jup σ 85 1 50 := eσ1
  refine lv_aload_n hx hb dX12_begins_19 rfl (lv_at hl 0 rfl) ?_
  refine lv_dup hx hb dX12_begins_20 rfl ?_
  refine va_get (D := D) hx hb hts inlX12 hown hK hP 55 (jc_55 cI cL ad σ1 τ) rfl 55 (by decide) (hts _ kw_49_7) (fun _ h9 => h9) rfl dX12_begins_21 ?_
  have m2 : σ1 55 55 = 1 := (by rw [eσ1, jup_n (by decide)]; exact h55_55)
  refine jtopr m2 ?_
  refine lv_iconst (v := 1) hx hb dX12_begins_24 (by decide) ?_
  refine lv_iadd hx hb dX12_begins_25 ?_
  refine jtopr (y := 2) (by decide) ?_
  refine jput (ty := .int) hx hb hts inlX12 tyX12 tyX12_ok nmX12 hown hK hP hJ hA hS (jc_55 cI cL ad σ1 τ) rfl (k := 55) (by decide) (Nat.le_of_ble_eq_true rfl) (jp_55_55 cI cL ad σ1 τ 2) (hts _ kw_49_7) (fun _ h9 => h9) rfl (by decide +kernel) rfl rfl dX12_begins_26 (fun σ3 H locs eσ3 hP hS => ?_)
  have m4 : σ3 55 55 = 2 := (by rw [eσ3]; exact jup_s)
  have m5 : σ3 85 1 = 50 := (by rw [eσ3, jup_n (by decide)]; exact (by rw [eσ1]; exact jup_s))
  exact hret σ3 τ _ _ _ _ ⟨rfl, (fun i hi => by rw [eσ3, jup_n (by omega), eσ1, jup_n (by omega)]), (fun k hk => by rw [eσ3, jup_k (by omega), eσ1, jup_n (by decide)]), (fun k hk => by rw [eσ3, jup_n (by decide), eσ1, jup_k (by omega)]), m4, m5, trivial⟩ hP hS dX12_begins_29
set_option maxHeartbeats 4000000 in
set_option maxRecDepth 100000 in
theorem c_X12_putsAs_4_0_3 (l : Launch) (D : va_G) (cI cL : ClassId) (ad zz : Nat → Nat) (hJ : jD ad) (σ : Nat → Nat → Int32) (τ : Nat → Nat → Int64) (a2 : Int32) (A2 : Int) (t2 : a2.toInt = A2) (h55_55 : σ 55 55 = 3) (hp0 : (σ 55 56).toInt = 4) : jM l yX12_putsAs cX12_putsAs 3 (some .int) ({ frames := 1, cells := 0, slots := 0, locals := 21 }) D cI cL ad zz [.ref (ad 55), .int 0, .int a2] σ τ (fun r σ' τ' => τ = τ' ∧ (∀ i : Nat, (i < 55 ∨ 55 < i) ∧ (i < 85 ∨ 85 < i) → σ' i = σ i) ∧ (∀ k : Nat, (k < 55 ∨ 55 < k) → σ' 55 k = σ 55 k) ∧ (∀ k : Nat, (k < 3 ∨ 3 < k) → σ' 85 k = σ 85 k) ∧ (σ' 55 55 = 4) ∧ (σ' 85 3 = 1) ∧ ((r = (a2 + (σ 55 57)) ∧ True))) := by
  refine jM.of hJ (by decide +kernel) (nt := .int) rfl (Nat.le_of_ble_eq_true rfl) ?_
  intro p e s m args below meth c Q ls hC hret hl hP
  obtain ⟨hx, hb, hr, hml, hown, hts, hK, -, hlocks, hZ⟩ := hC
  have hown : s.vm.findClass RX12 = some m.cls := hown
  have hS : va_S (jA ad) s.heap s.heap [] := va_S.rf
  have hA : ∀ q, jA ad q → jA ad q := fun _ h => h
  have hl : lv_has ls 3 [(0, .ref (ad 55)), (1, .int 0), (2, .int a2)] := hl
  have g2 := jrg t2
  refine lv_iload_n hx hb dX12_putsAs_0 rfl (lv_at hl 1 rfl) ?_
  refine lv_iconst (v := 4) hx hb dX12_putsAs_1 (by decide) ?_
  refine lv_icmp_ne (tgt := 20) hx hb dX12_putsAs_2 (by decide) (fun _ => ?_) (fun c => absurd c (by decide))
  refine lv_iload_n hx hb dX12_putsAs_20 rfl (lv_at hl 1 rfl) ?_
  refine lv_iconst (v := 1) hx hb dX12_putsAs_21 (by decide) ?_
  refine lv_icmp_ne (tgt := 40) hx hb dX12_putsAs_22 (by decide) (fun _ => ?_) (fun c => absurd c (by decide))
  refine lv_aload_n hx hb dX12_putsAs_40 rfl (lv_at hl 0 rfl) ?_
  refine lv_iconst (v := 1) hx hb dX12_putsAs_41 (by decide) ?_
  refine jcallVv (As := [.int 1]) (rest := []) ⟨hx, hb, hml, hown, hts⟩ hK hP hA hS hZ (c_X12_begins_1_3 l D cI cL ad zz hJ σ τ h55_55) cw_RX12_379 (jc_55 cI cL ad σ τ) rfl ⟨Nat.le_of_ble_eq_true rfl, Nat.le_of_ble_eq_true rfl⟩ rfl rfl rfl hl.1 rfl (Nat.le_of_ble_eq_true rfl) dX12_putsAs_42 ⟨Nat.zero_le _, Nat.zero_le _⟩ (fun σ1 τ1 H locs h1 hP hS => ?_)
  obtain ⟨rfl, f3, f4, f5, m6, m7, h1⟩ := h1
  refine lv_iload_n hx hb dX12_putsAs_45 rfl (lv_at hl 2 rfl) ?_
  refine lv_aload_n hx hb dX12_putsAs_46 rfl (lv_at hl 0 rfl) ?_
  refine va_get (D := D) hx hb hts inlX12 hown hK hP 55 (jc_55 cI cL ad σ1 τ) rfl 57 (by decide) (hts _ kw_49_9) (fun _ h9 => h9) rfl dX12_putsAs_47 ?_
  have m8 : σ1 55 57 = (σ 55 57) := (by rw [f4 57 (by omega)])
  refine jtopr m8 ?_
  have g9 := jrg (rfl : (σ 55 57).toInt = (σ 55 57).toInt)
  refine lv_iadd hx hb dX12_putsAs_50 ?_
  refine lv_topi (fun x10 ex10 => ?_)
  have gx10 := jrg (rfl : x10.toInt = x10.toInt)
  exact hret x10 σ1 τ _ _ _ _ rfl ⟨rfl, (fun i hi => by rw [f3 i (by omega)]), (fun k hk => by rw [f4 k (by omega)]), (fun k hk => by rw [f5 k (by omega)]), m6, m7, ⟨(by rw [ex10]), trivial⟩⟩ hP hS dX12_putsAs_51
set_option maxHeartbeats 4000000 in
set_option maxRecDepth 100000 in
theorem c_X12_putsAs_4_1_2 (l : Launch) (D : va_G) (cI cL : ClassId) (ad zz : Nat → Nat) (hJ : jD ad) (σ : Nat → Nat → Int32) (τ : Nat → Nat → Int64) (a2 : Int32) (A2 : Int) (t2 : a2.toInt = A2) (h55_55 : σ 55 55 = 2) (hp0 : (σ 55 56).toInt = 4) : jM l yX12_putsAs cX12_putsAs 3 (some .int) ({ frames := 2, cells := 0, slots := 0, locals := 43 }) D cI cL ad zz [.ref (ad 55), .int 1, .int a2] σ τ (fun r σ' τ' => τ = τ' ∧ (∀ i : Nat, (i < 55 ∨ 55 < i) ∧ (i < 85 ∨ 85 < i) → σ' i = σ i) ∧ (∀ k : Nat, (k < 55 ∨ 55 < k) → σ' 55 k = σ 55 k) ∧ (∀ k : Nat, (k < 2 ∨ 2 < k) ∧ (k < 3 ∨ 3 < k) → σ' 85 k = σ 85 k) ∧ (σ' 55 55 = 4) ∧ (σ' 85 2 = 20) ∧ (σ' 85 3 = 1) ∧ ((r = ((a2 + (σ 55 57)) + 3) ∧ True))) := by
  refine jM.of hJ (by decide +kernel) (nt := .int) rfl (Nat.le_of_ble_eq_true rfl) ?_
  intro p e s m args below meth c Q ls hC hret hl hP
  obtain ⟨hx, hb, hr, hml, hown, hts, hK, -, hlocks, hZ⟩ := hC
  have hown : s.vm.findClass RX12 = some m.cls := hown
  have hS : va_S (jA ad) s.heap s.heap [] := va_S.rf
  have hA : ∀ q, jA ad q → jA ad q := fun _ h => h
  have hl : lv_has ls 3 [(0, .ref (ad 55)), (1, .int 1), (2, .int a2)] := hl
  have g2 := jrg t2
  refine lv_iload_n hx hb dX12_putsAs_0 rfl (lv_at hl 1 rfl) ?_
  refine lv_iconst (v := 4) hx hb dX12_putsAs_1 (by decide) ?_
  refine lv_icmp_ne (tgt := 20) hx hb dX12_putsAs_2 (by decide) (fun _ => ?_) (fun c => absurd c (by decide))
  refine lv_iload_n hx hb dX12_putsAs_20 rfl (lv_at hl 1 rfl) ?_
  refine lv_iconst (v := 1) hx hb dX12_putsAs_21 (by decide) ?_
  refine lv_icmp_ne (tgt := 40) hx hb dX12_putsAs_22 (by decide) (fun c => absurd (by decide) c) (fun _ => ?_)
  refine lv_aload_n hx hb dX12_putsAs_25 rfl (lv_at hl 0 rfl) ?_
  refine lv_bipush (v := 20) hx hb dX12_putsAs_26 (by decide) ?_
  refine jcallVv (As := [.int 20]) (rest := []) ⟨hx, hb, hml, hown, hts⟩ hK hP hA hS hZ (c_X12_begins_20_2 l D cI cL ad zz hJ σ τ h55_55) cw_RX12_379 (jc_55 cI cL ad σ τ) rfl ⟨Nat.le_of_ble_eq_true rfl, Nat.le_of_ble_eq_true rfl⟩ rfl rfl rfl hl.1 rfl (Nat.le_of_ble_eq_true rfl) dX12_putsAs_28 ⟨Nat.zero_le _, Nat.zero_le _⟩ (fun σ1 τ1 H locs h1 hP hS => ?_)
  obtain ⟨rfl, f3, f4, f5, m6, m7, h1⟩ := h1
  refine lv_aload_n hx hb dX12_putsAs_31 rfl (lv_at hl 0 rfl) ?_
  refine lv_iconst (v := 0) hx hb dX12_putsAs_32 (by decide) ?_
  refine lv_iload_n hx hb dX12_putsAs_33 rfl (lv_at hl 2 rfl) ?_
  have z8 : (σ1 55 56).toInt = (σ 55 56).toInt := by rw [(show σ1 55 56 = (σ 55 56) from (by rw [f4 56 (by omega)]))]
  refine jcallV (As := [.int 0, .int a2]) (rest := []) ⟨hx, hb, hml, hown, hts⟩ hK hP hA hS hZ (c_X12_putsAs_4_0_3 l D cI cL ad zz hJ σ1 τ a2 (A2) t2 m6 (by omega)) cw_RX12_382 (jc_55 cI cL ad σ1 τ) rfl ⟨Nat.le_of_ble_eq_true rfl, Nat.le_of_ble_eq_true rfl⟩ rfl rfl rfl hl.1 rfl (Nat.le_of_ble_eq_true rfl) dX12_putsAs_34 ⟨Nat.zero_le _, Nat.zero_le _⟩ (fun r10 σ9 τ9 H locs h9 hP hS => ?_)
  obtain ⟨rfl, f11, f12, f13, m14, m15, h9⟩ := h9
  have h16 := h9
  obtain ⟨q18, k17⟩ := h16
  have q18 := q18.symm
  subst q18
  refine lv_iconst (v := 3) hx hb dX12_putsAs_37 (by decide) ?_
  have g19 := jrg (rfl : (a2 + (σ1 55 57)).toInt = (a2 + (σ1 55 57)).toInt)
  refine lv_iadd hx hb dX12_putsAs_38 ?_
  refine lv_topi (fun x20 ex20 => ?_)
  have gx20 := jrg (rfl : x20.toInt = x20.toInt)
  have m21 : σ9 85 2 = 20 := (by rw [f13 2 (by omega)]; exact m7)
  exact hret x20 σ9 τ _ _ _ _ rfl ⟨rfl, (fun i hi => by rw [f11 i (by omega), f3 i (by omega)]), (fun k hk => by rw [f12 k (by omega), f4 k (by omega)]), (fun k hk => by rw [f13 k (by omega), f5 k (by omega)]), m14, m21, m15, ⟨(by rw [ex20, (show σ1 55 57 = σ 55 57 from (by rw [f4 57 (by omega)]))]), trivial⟩⟩ hP hS dX12_putsAs_39
set_option maxHeartbeats 4000000 in
set_option maxRecDepth 100000 in
theorem c_X12_putsAs_4_4_1 (l : Launch) (D : va_G) (cI cL : ClassId) (ad zz : Nat → Nat) (hJ : jD ad) (σ : Nat → Nat → Int32) (τ : Nat → Nat → Int64) (a2 : Int32) (A2 : Int) (t2 : a2.toInt = A2) (h55_55 : σ 55 55 = 1) (hp0 : (σ 55 56).toInt = 4) : jM l yX12_putsAs cX12_putsAs 3 (some .int) ({ frames := 3, cells := 0, slots := 0, locals := 65 }) D cI cL ad zz [.ref (ad 55), .int 4, .int a2] σ τ (fun r σ' τ' => τ = τ' ∧ (∀ i : Nat, (i < 55 ∨ 55 < i) ∧ (i < 85 ∨ 85 < i) → σ' i = σ i) ∧ (∀ k : Nat, (k < 55 ∨ 55 < k) → σ' 55 k = σ 55 k) ∧ (∀ k : Nat, (k < 1 ∨ 1 < k) ∧ (k < 2 ∨ 2 < k) ∧ (k < 3 ∨ 3 < k) → σ' 85 k = σ 85 k) ∧ (σ' 55 55 = 4) ∧ (σ' 85 1 = 50) ∧ (σ' 85 2 = 20) ∧ (σ' 85 3 = 1) ∧ ((r = (((a2 + 1) + (σ 55 57)) + 3) ∧ True))) := by
  refine jM.of hJ (by decide +kernel) (nt := .int) rfl (Nat.le_of_ble_eq_true rfl) ?_
  intro p e s m args below meth c Q ls hC hret hl hP
  obtain ⟨hx, hb, hr, hml, hown, hts, hK, -, hlocks, hZ⟩ := hC
  have hown : s.vm.findClass RX12 = some m.cls := hown
  have hS : va_S (jA ad) s.heap s.heap [] := va_S.rf
  have hA : ∀ q, jA ad q → jA ad q := fun _ h => h
  have hl : lv_has ls 3 [(0, .ref (ad 55)), (1, .int 4), (2, .int a2)] := hl
  have g2 := jrg t2
  refine lv_iload_n hx hb dX12_putsAs_0 rfl (lv_at hl 1 rfl) ?_
  refine lv_iconst (v := 4) hx hb dX12_putsAs_1 (by decide) ?_
  refine lv_icmp_ne (tgt := 20) hx hb dX12_putsAs_2 (by decide) (fun c => absurd (by decide) c) (fun _ => ?_)
  refine lv_aload_n hx hb dX12_putsAs_5 rfl (lv_at hl 0 rfl) ?_
  refine lv_bipush (v := 50) hx hb dX12_putsAs_6 (by decide) ?_
  refine jcallVv (As := [.int 50]) (rest := []) ⟨hx, hb, hml, hown, hts⟩ hK hP hA hS hZ (c_X12_begins_50_1 l D cI cL ad zz hJ σ τ h55_55) cw_RX12_379 (jc_55 cI cL ad σ τ) rfl ⟨Nat.le_of_ble_eq_true rfl, Nat.le_of_ble_eq_true rfl⟩ rfl rfl rfl hl.1 rfl (Nat.le_of_ble_eq_true rfl) dX12_putsAs_8 ⟨Nat.zero_le _, Nat.zero_le _⟩ (fun σ1 τ1 H locs h1 hP hS => ?_)
  obtain ⟨rfl, f3, f4, f5, m6, m7, h1⟩ := h1
  refine lv_aload_n hx hb dX12_putsAs_11 rfl (lv_at hl 0 rfl) ?_
  refine lv_iconst (v := 1) hx hb dX12_putsAs_12 (by decide) ?_
  refine lv_iload_n hx hb dX12_putsAs_13 rfl (lv_at hl 2 rfl) ?_
  refine lv_iconst (v := 1) hx hb dX12_putsAs_14 (by decide) ?_
  refine lv_iadd hx hb dX12_putsAs_15 ?_
  refine lv_topi (fun x8 ex8 => ?_)
  have gx8 := jrg (rfl : x8.toInt = x8.toInt)
  have z9 : (σ1 55 56).toInt = (σ 55 56).toInt := by rw [(show σ1 55 56 = (σ 55 56) from (by rw [f4 56 (by omega)]))]
  refine jcallV (As := [.int 1, .int x8]) (rest := []) ⟨hx, hb, hml, hown, hts⟩ hK hP hA hS hZ (c_X12_putsAs_4_1_2 l D cI cL ad zz hJ σ1 τ x8 (x8.toInt) rfl m6 (by omega)) cw_RX12_382 (jc_55 cI cL ad σ1 τ) rfl ⟨Nat.le_of_ble_eq_true rfl, Nat.le_of_ble_eq_true rfl⟩ rfl rfl rfl hl.1 rfl (Nat.le_of_ble_eq_true rfl) dX12_putsAs_16 ⟨Nat.zero_le _, Nat.zero_le _⟩ (fun r11 σ10 τ10 H locs h10 hP hS => ?_)
  obtain ⟨rfl, f12, f13, f14, m15, m16, m17, h10⟩ := h10
  have h18 := h10
  obtain ⟨q20, k19⟩ := h18
  have q20 := q20.symm
  subst q20
  have m21 : σ10 85 1 = 50 := (by rw [f14 1 (by omega)]; exact m7)
  exact hret ((x8 + (σ1 55 57)) + 3) σ10 τ _ _ _ _ rfl ⟨rfl, (fun i hi => by rw [f12 i (by omega), f3 i (by omega)]), (fun k hk => by rw [f13 k (by omega), f4 k (by omega)]), (fun k hk => by rw [f14 k (by omega), f5 k (by omega)]), m15, m21, m16, m17, ⟨(by rw [ex8, (show σ1 55 57 = σ 55 57 from (by rw [f4 57 (by omega)]))]), trivial⟩⟩ hP hS dX12_putsAs_19
set_option maxHeartbeats 4000000 in
set_option maxRecDepth 100000 in
theorem c_X12_holdsAs_4_4_0 (l : Launch) (D : va_G) (cI cL : ClassId) (ad zz : Nat → Nat) (hJ : jD ad) (σ : Nat → Nat → Int32) (τ : Nat → Nat → Int64) (a2 : Int32) (A2 : Int) (t2 : a2.toInt = A2) (h55_55 : σ 55 55 = 0) (hp0 : (σ 55 56).toInt = 4) : jM l yX12_holdsAs cX12_holdsAs 4 (some .int) ({ frames := 4, cells := 0, slots := 0, locals := 87 }) D cI cL ad zz [.ref (ad 55), .int 4, .int a2] σ τ (fun r σ' τ' => τ = τ' ∧ (∀ i : Nat, (i < 55 ∨ 55 < i) ∧ (i < 85 ∨ 85 < i) → σ' i = σ i) ∧ (∀ k : Nat, (k < 55 ∨ 55 < k) → σ' 55 k = σ 55 k) ∧ (∀ k : Nat, (k < 0 ∨ 0 < k) ∧ (k < 1 ∨ 1 < k) ∧ (k < 2 ∨ 2 < k) ∧ (k < 3 ∨ 3 < k) → σ' 85 k = σ 85 k) ∧ (σ' 55 55 = 4) ∧ (σ' 85 0 = 10) ∧ (σ' 85 1 = 50) ∧ (σ' 85 2 = 20) ∧ (σ' 85 3 = 1) ∧ ((r = ((((a2 + 1) + (σ 55 57)) + 3) * 2) ∧ True))) := by
  refine jM.of hJ (by decide +kernel) (nt := .int) rfl (Nat.le_of_ble_eq_true rfl) ?_
  intro p e s m args below meth c Q ls hC hret hl hP
  obtain ⟨hx, hb, hr, hml, hown, hts, hK, -, hlocks, hZ⟩ := hC
  have hown : s.vm.findClass RX12 = some m.cls := hown
  have hS : va_S (jA ad) s.heap s.heap [] := va_S.rf
  have hA : ∀ q, jA ad q → jA ad q := fun _ h => h
  have hl : lv_has ls 4 [(0, .ref (ad 55)), (1, .int 4), (2, .int a2)] := hl
  have g2 := jrg t2
  refine lv_iload_n hx hb dX12_holdsAs_0 rfl (lv_at hl 1 rfl) ?_
  refine lv_iconst (v := 3) hx hb dX12_holdsAs_1 (by decide) ?_
  refine lv_icmp_eq (tgt := 10) hx hb dX12_holdsAs_2 (by decide) (fun c => absurd c (by decide)) (fun _ => ?_)
  refine lv_iload_n hx hb dX12_holdsAs_5 rfl (lv_at hl 1 rfl) ?_
  refine lv_iconst (v := 5) hx hb dX12_holdsAs_6 (by decide) ?_
  refine lv_icmp_ne (tgt := 24) hx hb dX12_holdsAs_7 (by decide) (fun _ => ?_) (fun c => absurd c (by decide))
  refine lv_iload_n hx hb dX12_holdsAs_24 rfl (lv_at hl 1 rfl) ?_
  refine lv_bipush (v := 6) hx hb dX12_holdsAs_25 (by decide) ?_
  refine lv_icmp_ne (tgt := 55) hx hb dX12_holdsAs_27 (by decide) (fun _ => ?_) (fun c => absurd c (by decide))
  refine lv_aload_n hx hb dX12_holdsAs_55 rfl (lv_at hl 0 rfl) ?_
  refine lv_bipush (v := 10) hx hb dX12_holdsAs_56 (by decide) ?_
  refine jcallVv (As := [.int 10]) (rest := []) ⟨hx, hb, hml, hown, hts⟩ hK hP hA hS hZ (c_X12_begins_10_0 l D cI cL ad zz hJ σ τ h55_55) cw_RX12_379 (jc_55 cI cL ad σ τ) rfl ⟨Nat.le_of_ble_eq_true rfl, Nat.le_of_ble_eq_true rfl⟩ rfl rfl rfl hl.1 rfl (Nat.le_of_ble_eq_true rfl) dX12_holdsAs_58 ⟨Nat.zero_le _, Nat.zero_le _⟩ (fun σ1 τ1 H locs h1 hP hS => ?_)
  obtain ⟨rfl, f3, f4, f5, m6, m7, h1⟩ := h1
  refine lv_aload_n hx hb dX12_holdsAs_61 rfl (lv_at hl 0 rfl) ?_
  refine lv_aload_n hx hb dX12_holdsAs_62 rfl (lv_at hl 0 rfl) ?_
  refine va_get (D := D) hx hb hts inlX12 hown hK hP 55 (jc_55 cI cL ad σ1 τ) rfl 56 (by decide) (hts _ kw_49_8) (fun _ h9 => h9) rfl dX12_holdsAs_63 ?_
  have m8 : σ1 55 56 = (σ 55 56) := (by rw [f4 56 (by omega)])
  refine jtopr m8 ?_
  refine jtopr (jsame (rfl : (σ 55 56).toInt = (σ 55 56).toInt) jz_4 (by omega)) ?_
  refine lv_iload_n hx hb dX12_holdsAs_66 rfl (lv_at hl 2 rfl) ?_
  have z9 : (σ1 55 56).toInt = (σ 55 56).toInt := by rw [(show σ1 55 56 = (σ 55 56) from m8)]
  refine jcallV (As := [.int 4, .int a2]) (rest := []) ⟨hx, hb, hml, hown, hts⟩ hK hP hA hS hZ (c_X12_putsAs_4_4_1 l D cI cL ad zz hJ σ1 τ a2 (A2) t2 m6 (by omega)) cw_RX12_382 (jc_55 cI cL ad σ1 τ) rfl ⟨Nat.le_of_ble_eq_true rfl, Nat.le_of_ble_eq_true rfl⟩ rfl rfl rfl hl.1 rfl (Nat.le_of_ble_eq_true rfl) dX12_holdsAs_67 ⟨Nat.zero_le _, Nat.zero_le _⟩ (fun r11 σ10 τ10 H locs h10 hP hS => ?_)
  obtain ⟨rfl, f12, f13, f14, m15, m16, m17, m18, h10⟩ := h10
  have h19 := h10
  obtain ⟨q21, k20⟩ := h19
  have q21 := q21.symm
  subst q21
  refine lv_iconst (v := 2) hx hb dX12_holdsAs_70 (by decide) ?_
  have g22 := jrg (rfl : (((a2 + 1) + (σ1 55 57)) + 3).toInt = (((a2 + 1) + (σ1 55 57)) + 3).toInt)
  refine lv_imul hx hb dX12_holdsAs_71 ?_
  refine lv_topi (fun x23 ex23 => ?_)
  have gx23 := jrg (rfl : x23.toInt = x23.toInt)
  have m24 : σ10 85 0 = 10 := (by rw [f14 0 (by omega)]; exact m7)
  exact hret x23 σ10 τ _ _ _ _ rfl ⟨rfl, (fun i hi => by rw [f12 i (by omega), f3 i (by omega)]), (fun k hk => by rw [f13 k (by omega), f4 k (by omega)]), (fun k hk => by rw [f14 k (by omega), f5 k (by omega)]), m15, m24, m16, m17, m18, ⟨(by rw [ex23, (show σ1 55 57 = σ 55 57 from (by rw [f4 57 (by omega)]))]), trivial⟩⟩ hP hS dX12_holdsAs_72
set_option maxHeartbeats 4000000 in
set_option maxRecDepth 100000 in
theorem c_X12_givesAs_4_4_0 (l : Launch) (D : va_G) (cI cL : ClassId) (ad zz : Nat → Nat) (hJ : jD ad) (σ : Nat → Nat → Int32) (τ : Nat → Nat → Int64) (a2 : Int32) (A2 : Int) (t2 : a2.toInt = A2) (h55_55 : σ 55 55 = 0) (hp0 : (σ 55 56).toInt = 4) : jM l yX12_givesAs cX12_givesAs 4 (some .int) ({ frames := 1, cells := 0, slots := 0, locals := 21 }) D cI cL ad zz [.ref (ad 55), .int 4, .int a2] σ τ (fun r σ' τ' => τ = τ' ∧ (∀ i : Nat, (i < 55 ∨ 55 < i) ∧ (i < 85 ∨ 85 < i) → σ' i = σ i) ∧ (∀ k : Nat, (k < 55 ∨ 55 < k) → σ' 55 k = σ 55 k) ∧ (∀ k : Nat, (k < 0 ∨ 0 < k) → σ' 85 k = σ 85 k) ∧ (σ' 55 55 = 1) ∧ (σ' 85 0 = 11) ∧ ((r = (a2 ^^^ (σ 55 57)) ∧ True))) := by
  refine jM.of hJ (by decide +kernel) (nt := .int) rfl (Nat.le_of_ble_eq_true rfl) ?_
  intro p e s m args below meth c Q ls hC hret hl hP
  obtain ⟨hx, hb, hr, hml, hown, hts, hK, -, hlocks, hZ⟩ := hC
  have hown : s.vm.findClass RX12 = some m.cls := hown
  have hS : va_S (jA ad) s.heap s.heap [] := va_S.rf
  have hA : ∀ q, jA ad q → jA ad q := fun _ h => h
  have hl : lv_has ls 4 [(0, .ref (ad 55)), (1, .int 4), (2, .int a2)] := hl
  have g2 := jrg t2
  refine lv_iload_n hx hb dX12_givesAs_0 rfl (lv_at hl 1 rfl) ?_
  refine lv_iconst (v := 5) hx hb dX12_givesAs_1 (by decide) ?_
  refine lv_icmp_ne (tgt := 30) hx hb dX12_givesAs_2 (by decide) (fun _ => ?_) (fun c => absurd c (by decide))
  refine lv_iload_n hx hb dX12_givesAs_30 rfl (lv_at hl 1 rfl) ?_
  refine lv_iconst (v := 2) hx hb dX12_givesAs_31 (by decide) ?_
  refine lv_icmp_eq (tgt := 40) hx hb dX12_givesAs_32 (by decide) (fun c => absurd c (by decide)) (fun _ => ?_)
  refine lv_iload_n hx hb dX12_givesAs_35 rfl (lv_at hl 1 rfl) ?_
  refine lv_iconst (v := 3) hx hb dX12_givesAs_36 (by decide) ?_
  refine lv_icmp_ne (tgt := 55) hx hb dX12_givesAs_37 (by decide) (fun _ => ?_) (fun c => absurd c (by decide))
  refine lv_aload_n hx hb dX12_givesAs_55 rfl (lv_at hl 0 rfl) ?_
  refine lv_bipush (v := 11) hx hb dX12_givesAs_56 (by decide) ?_
  refine jcallVv (As := [.int 11]) (rest := []) ⟨hx, hb, hml, hown, hts⟩ hK hP hA hS hZ (c_X12_begins_11_0 l D cI cL ad zz hJ σ τ h55_55) cw_RX12_379 (jc_55 cI cL ad σ τ) rfl ⟨Nat.le_of_ble_eq_true rfl, Nat.le_of_ble_eq_true rfl⟩ rfl rfl rfl hl.1 rfl (Nat.le_of_ble_eq_true rfl) dX12_givesAs_58 ⟨Nat.zero_le _, Nat.zero_le _⟩ (fun σ1 τ1 H locs h1 hP hS => ?_)
  obtain ⟨rfl, f3, f4, f5, m6, m7, h1⟩ := h1
  refine lv_iload_n hx hb dX12_givesAs_61 rfl (lv_at hl 2 rfl) ?_
  refine lv_aload_n hx hb dX12_givesAs_62 rfl (lv_at hl 0 rfl) ?_
  refine va_get (D := D) hx hb hts inlX12 hown hK hP 55 (jc_55 cI cL ad σ1 τ) rfl 57 (by decide) (hts _ kw_49_9) (fun _ h9 => h9) rfl dX12_givesAs_63 ?_
  have m8 : σ1 55 57 = (σ 55 57) := (by rw [f4 57 (by omega)])
  refine jtopr m8 ?_
  refine lv_ixor hx hb dX12_givesAs_66 ?_
  refine lv_topi (fun x9 ex9 => ?_)
  have gx9 := jrg (rfl : x9.toInt = x9.toInt)
  exact hret x9 σ1 τ _ _ _ _ rfl ⟨rfl, (fun i hi => by rw [f3 i (by omega)]), (fun k hk => by rw [f4 k (by omega)]), (fun k hk => by rw [f5 k (by omega)]), m6, m7, ⟨(by rw [ex9]), trivial⟩⟩ hP hS dX12_givesAs_67
set_option maxHeartbeats 4000000 in
set_option maxRecDepth 100000 in
theorem c_X12_begins_51_0 (l : Launch) (D : va_G) (cI cL : ClassId) (ad zz : Nat → Nat) (hJ : jD ad) (σ : Nat → Nat → Int32) (τ : Nat → Nat → Int64) (h55_55 : σ 55 55 = 0) : jMv l yX12_begins cX12_begins 2 none ({ frames := 0, cells := 0, slots := 0, locals := 0 }) D cI cL ad zz [.ref (ad 55), .int 51] σ τ (fun σ' τ' => τ = τ' ∧ (∀ i : Nat, (i < 55 ∨ 55 < i) ∧ (i < 85 ∨ 85 < i) → σ' i = σ i) ∧ (∀ k : Nat, (k < 55 ∨ 55 < k) → σ' 55 k = σ 55 k) ∧ (∀ k : Nat, (k < 0 ∨ 0 < k) → σ' 85 k = σ 85 k) ∧ (σ' 55 55 = 1) ∧ (σ' 85 0 = 51) ∧ True) := by
  refine jMv.of hJ (by decide +kernel) rfl (Nat.le_of_ble_eq_true rfl) ?_
  intro p e s m args below meth c Q ls hC hret hl hP
  obtain ⟨hx, hb, hr, hml, hown, hts, hK, -, hlocks, hZ⟩ := hC
  have hown : s.vm.findClass RX12 = some m.cls := hown
  have hS : va_S (jA ad) s.heap s.heap [] := va_S.rf
  have hA : ∀ q, jA ad q → jA ad q := fun _ h => h
  have hl : lv_has ls 2 [(0, .ref (ad 55)), (1, .int 51)] := hl
  refine lv_aload_n hx hb dX12_begins_0 rfl (lv_at hl 0 rfl) ?_
  refine va_get (D := D) hx hb hts inlX12 hown hK hP 55 (jc_55 cI cL ad σ τ) rfl 55 (by decide) (hts _ kw_49_7) (fun _ h9 => h9) rfl dX12_begins_1 ?_
  refine jtopr h55_55 ?_
  refine lv_bipush (v := 24) hx hb dX12_begins_4 (by decide) ?_
  refine lv_icmp_ge (tgt := 19) hx hb dX12_begins_6 (by decide) (fun c => absurd c (by decide)) (fun _ => ?_)
  refine lv_aload_n hx hb dX12_begins_9 rfl (lv_at hl 0 rfl) ?_
  refine va_get (D := D) hx hb hts inlX12 hown hK hP 55 (jc_55 cI cL ad σ τ) rfl 54 (by decide) (hts _ kw_8_10) (fun _ h9 => h9) rfl dX12_begins_10 ?_
  refine lv_aload_n hx hb dX12_begins_13 rfl (lv_at hl 0 rfl) ?_
  refine va_get (D := D) hx hb hts inlX12 hown hK hP 55 (jc_55 cI cL ad σ τ) rfl 55 (by decide) (hts _ kw_49_7) (fun _ h9 => h9) rfl dX12_begins_14 ?_
  refine jtopr h55_55 ?_
  refine lv_iload_n hx hb dX12_begins_17 rfl (lv_at hl 1 rfl) ?_
  refine jast hx hb hK hP hJ hA hS (jc_85 cI cL ad σ τ) (ja_85 cI cL ad σ τ _ _) (jin jz_0 (by omega) (by omega)) dX12_begins_18 (fun σ1 H locs eσ1 hP hS => ?_)
  have eσ1 : σ1 = jup σ 85 0 51 := eσ1
  refine lv_aload_n hx hb dX12_begins_19 rfl (lv_at hl 0 rfl) ?_
  refine lv_dup hx hb dX12_begins_20 rfl ?_
  refine va_get (D := D) hx hb hts inlX12 hown hK hP 55 (jc_55 cI cL ad σ1 τ) rfl 55 (by decide) (hts _ kw_49_7) (fun _ h9 => h9) rfl dX12_begins_21 ?_
  have m2 : σ1 55 55 = 0 := (by rw [eσ1, jup_n (by decide)]; exact h55_55)
  refine jtopr m2 ?_
  refine lv_iconst (v := 1) hx hb dX12_begins_24 (by decide) ?_
  refine lv_iadd hx hb dX12_begins_25 ?_
  refine jtopr (y := 1) (by decide) ?_
  refine jput (ty := .int) hx hb hts inlX12 tyX12 tyX12_ok nmX12 hown hK hP hJ hA hS (jc_55 cI cL ad σ1 τ) rfl (k := 55) (by decide) (Nat.le_of_ble_eq_true rfl) (jp_55_55 cI cL ad σ1 τ 1) (hts _ kw_49_7) (fun _ h9 => h9) rfl (by decide +kernel) rfl rfl dX12_begins_26 (fun σ3 H locs eσ3 hP hS => ?_)
  have m4 : σ3 55 55 = 1 := (by rw [eσ3]; exact jup_s)
  have m5 : σ3 85 0 = 51 := (by rw [eσ3, jup_n (by decide)]; exact (by rw [eσ1]; exact jup_s))
  exact hret σ3 τ _ _ _ _ ⟨rfl, (fun i hi => by rw [eσ3, jup_n (by omega), eσ1, jup_n (by omega)]), (fun k hk => by rw [eσ3, jup_k (by omega), eσ1, jup_n (by decide)]), (fun k hk => by rw [eσ3, jup_n (by decide), eσ1, jup_k (by omega)]), m4, m5, trivial⟩ hP hS dX12_begins_29
set_option maxHeartbeats 4000000 in
set_option maxRecDepth 100000 in
theorem c_X12_begins_2_1 (l : Launch) (D : va_G) (cI cL : ClassId) (ad zz : Nat → Nat) (hJ : jD ad) (σ : Nat → Nat → Int32) (τ : Nat → Nat → Int64) (h55_55 : σ 55 55 = 1) : jMv l yX12_begins cX12_begins 2 none ({ frames := 0, cells := 0, slots := 0, locals := 0 }) D cI cL ad zz [.ref (ad 55), .int 2] σ τ (fun σ' τ' => τ = τ' ∧ (∀ i : Nat, (i < 55 ∨ 55 < i) ∧ (i < 85 ∨ 85 < i) → σ' i = σ i) ∧ (∀ k : Nat, (k < 55 ∨ 55 < k) → σ' 55 k = σ 55 k) ∧ (∀ k : Nat, (k < 1 ∨ 1 < k) → σ' 85 k = σ 85 k) ∧ (σ' 55 55 = 2) ∧ (σ' 85 1 = 2) ∧ True) := by
  refine jMv.of hJ (by decide +kernel) rfl (Nat.le_of_ble_eq_true rfl) ?_
  intro p e s m args below meth c Q ls hC hret hl hP
  obtain ⟨hx, hb, hr, hml, hown, hts, hK, -, hlocks, hZ⟩ := hC
  have hown : s.vm.findClass RX12 = some m.cls := hown
  have hS : va_S (jA ad) s.heap s.heap [] := va_S.rf
  have hA : ∀ q, jA ad q → jA ad q := fun _ h => h
  have hl : lv_has ls 2 [(0, .ref (ad 55)), (1, .int 2)] := hl
  refine lv_aload_n hx hb dX12_begins_0 rfl (lv_at hl 0 rfl) ?_
  refine va_get (D := D) hx hb hts inlX12 hown hK hP 55 (jc_55 cI cL ad σ τ) rfl 55 (by decide) (hts _ kw_49_7) (fun _ h9 => h9) rfl dX12_begins_1 ?_
  refine jtopr h55_55 ?_
  refine lv_bipush (v := 24) hx hb dX12_begins_4 (by decide) ?_
  refine lv_icmp_ge (tgt := 19) hx hb dX12_begins_6 (by decide) (fun c => absurd c (by decide)) (fun _ => ?_)
  refine lv_aload_n hx hb dX12_begins_9 rfl (lv_at hl 0 rfl) ?_
  refine va_get (D := D) hx hb hts inlX12 hown hK hP 55 (jc_55 cI cL ad σ τ) rfl 54 (by decide) (hts _ kw_8_10) (fun _ h9 => h9) rfl dX12_begins_10 ?_
  refine lv_aload_n hx hb dX12_begins_13 rfl (lv_at hl 0 rfl) ?_
  refine va_get (D := D) hx hb hts inlX12 hown hK hP 55 (jc_55 cI cL ad σ τ) rfl 55 (by decide) (hts _ kw_49_7) (fun _ h9 => h9) rfl dX12_begins_14 ?_
  refine jtopr h55_55 ?_
  refine lv_iload_n hx hb dX12_begins_17 rfl (lv_at hl 1 rfl) ?_
  refine jast hx hb hK hP hJ hA hS (jc_85 cI cL ad σ τ) (ja_85 cI cL ad σ τ _ _) (jin jz_1 (by omega) (by omega)) dX12_begins_18 (fun σ1 H locs eσ1 hP hS => ?_)
  have eσ1 : σ1 = jup σ 85 1 2 := eσ1
  refine lv_aload_n hx hb dX12_begins_19 rfl (lv_at hl 0 rfl) ?_
  refine lv_dup hx hb dX12_begins_20 rfl ?_
  refine va_get (D := D) hx hb hts inlX12 hown hK hP 55 (jc_55 cI cL ad σ1 τ) rfl 55 (by decide) (hts _ kw_49_7) (fun _ h9 => h9) rfl dX12_begins_21 ?_
  have m2 : σ1 55 55 = 1 := (by rw [eσ1, jup_n (by decide)]; exact h55_55)
  refine jtopr m2 ?_
  refine lv_iconst (v := 1) hx hb dX12_begins_24 (by decide) ?_
  refine lv_iadd hx hb dX12_begins_25 ?_
  refine jtopr (y := 2) (by decide) ?_
  refine jput (ty := .int) hx hb hts inlX12 tyX12 tyX12_ok nmX12 hown hK hP hJ hA hS (jc_55 cI cL ad σ1 τ) rfl (k := 55) (by decide) (Nat.le_of_ble_eq_true rfl) (jp_55_55 cI cL ad σ1 τ 2) (hts _ kw_49_7) (fun _ h9 => h9) rfl (by decide +kernel) rfl rfl dX12_begins_26 (fun σ3 H locs eσ3 hP hS => ?_)
  have m4 : σ3 55 55 = 2 := (by rw [eσ3]; exact jup_s)
  have m5 : σ3 85 1 = 2 := (by rw [eσ3, jup_n (by decide)]; exact (by rw [eσ1]; exact jup_s))
  exact hret σ3 τ _ _ _ _ ⟨rfl, (fun i hi => by rw [eσ3, jup_n (by omega), eσ1, jup_n (by omega)]), (fun k hk => by rw [eσ3, jup_k (by omega), eσ1, jup_n (by decide)]), (fun k hk => by rw [eσ3, jup_n (by decide), eσ1, jup_k (by omega)]), m4, m5, trivial⟩ hP hS dX12_begins_29
set_option maxHeartbeats 4000000 in
set_option maxRecDepth 100000 in
theorem c_X12_begins_50_3 (l : Launch) (D : va_G) (cI cL : ClassId) (ad zz : Nat → Nat) (hJ : jD ad) (σ : Nat → Nat → Int32) (τ : Nat → Nat → Int64) (h55_55 : σ 55 55 = 3) : jMv l yX12_begins cX12_begins 2 none ({ frames := 0, cells := 0, slots := 0, locals := 0 }) D cI cL ad zz [.ref (ad 55), .int 50] σ τ (fun σ' τ' => τ = τ' ∧ (∀ i : Nat, (i < 55 ∨ 55 < i) ∧ (i < 85 ∨ 85 < i) → σ' i = σ i) ∧ (∀ k : Nat, (k < 55 ∨ 55 < k) → σ' 55 k = σ 55 k) ∧ (∀ k : Nat, (k < 3 ∨ 3 < k) → σ' 85 k = σ 85 k) ∧ (σ' 55 55 = 4) ∧ (σ' 85 3 = 50) ∧ True) := by
  refine jMv.of hJ (by decide +kernel) rfl (Nat.le_of_ble_eq_true rfl) ?_
  intro p e s m args below meth c Q ls hC hret hl hP
  obtain ⟨hx, hb, hr, hml, hown, hts, hK, -, hlocks, hZ⟩ := hC
  have hown : s.vm.findClass RX12 = some m.cls := hown
  have hS : va_S (jA ad) s.heap s.heap [] := va_S.rf
  have hA : ∀ q, jA ad q → jA ad q := fun _ h => h
  have hl : lv_has ls 2 [(0, .ref (ad 55)), (1, .int 50)] := hl
  refine lv_aload_n hx hb dX12_begins_0 rfl (lv_at hl 0 rfl) ?_
  refine va_get (D := D) hx hb hts inlX12 hown hK hP 55 (jc_55 cI cL ad σ τ) rfl 55 (by decide) (hts _ kw_49_7) (fun _ h9 => h9) rfl dX12_begins_1 ?_
  refine jtopr h55_55 ?_
  refine lv_bipush (v := 24) hx hb dX12_begins_4 (by decide) ?_
  refine lv_icmp_ge (tgt := 19) hx hb dX12_begins_6 (by decide) (fun c => absurd c (by decide)) (fun _ => ?_)
  refine lv_aload_n hx hb dX12_begins_9 rfl (lv_at hl 0 rfl) ?_
  refine va_get (D := D) hx hb hts inlX12 hown hK hP 55 (jc_55 cI cL ad σ τ) rfl 54 (by decide) (hts _ kw_8_10) (fun _ h9 => h9) rfl dX12_begins_10 ?_
  refine lv_aload_n hx hb dX12_begins_13 rfl (lv_at hl 0 rfl) ?_
  refine va_get (D := D) hx hb hts inlX12 hown hK hP 55 (jc_55 cI cL ad σ τ) rfl 55 (by decide) (hts _ kw_49_7) (fun _ h9 => h9) rfl dX12_begins_14 ?_
  refine jtopr h55_55 ?_
  refine lv_iload_n hx hb dX12_begins_17 rfl (lv_at hl 1 rfl) ?_
  refine jast hx hb hK hP hJ hA hS (jc_85 cI cL ad σ τ) (ja_85 cI cL ad σ τ _ _) (jin jz_3 (by omega) (by omega)) dX12_begins_18 (fun σ1 H locs eσ1 hP hS => ?_)
  have eσ1 : σ1 = jup σ 85 3 50 := eσ1
  refine lv_aload_n hx hb dX12_begins_19 rfl (lv_at hl 0 rfl) ?_
  refine lv_dup hx hb dX12_begins_20 rfl ?_
  refine va_get (D := D) hx hb hts inlX12 hown hK hP 55 (jc_55 cI cL ad σ1 τ) rfl 55 (by decide) (hts _ kw_49_7) (fun _ h9 => h9) rfl dX12_begins_21 ?_
  have m2 : σ1 55 55 = 3 := (by rw [eσ1, jup_n (by decide)]; exact h55_55)
  refine jtopr m2 ?_
  refine lv_iconst (v := 1) hx hb dX12_begins_24 (by decide) ?_
  refine lv_iadd hx hb dX12_begins_25 ?_
  refine jtopr (y := 4) (by decide) ?_
  refine jput (ty := .int) hx hb hts inlX12 tyX12 tyX12_ok nmX12 hown hK hP hJ hA hS (jc_55 cI cL ad σ1 τ) rfl (k := 55) (by decide) (Nat.le_of_ble_eq_true rfl) (jp_55_55 cI cL ad σ1 τ 4) (hts _ kw_49_7) (fun _ h9 => h9) rfl (by decide +kernel) rfl rfl dX12_begins_26 (fun σ3 H locs eσ3 hP hS => ?_)
  have m4 : σ3 55 55 = 4 := (by rw [eσ3]; exact jup_s)
  have m5 : σ3 85 3 = 50 := (by rw [eσ3, jup_n (by decide)]; exact (by rw [eσ1]; exact jup_s))
  exact hret σ3 τ _ _ _ _ ⟨rfl, (fun i hi => by rw [eσ3, jup_n (by omega), eσ1, jup_n (by omega)]), (fun k hk => by rw [eσ3, jup_k (by omega), eσ1, jup_n (by decide)]), (fun k hk => by rw [eσ3, jup_n (by decide), eσ1, jup_k (by omega)]), m4, m5, trivial⟩ hP hS dX12_begins_29
set_option maxHeartbeats 4000000 in
set_option maxRecDepth 100000 in
theorem c_X12_begins_20_4 (l : Launch) (D : va_G) (cI cL : ClassId) (ad zz : Nat → Nat) (hJ : jD ad) (σ : Nat → Nat → Int32) (τ : Nat → Nat → Int64) (h55_55 : σ 55 55 = 4) : jMv l yX12_begins cX12_begins 2 none ({ frames := 0, cells := 0, slots := 0, locals := 0 }) D cI cL ad zz [.ref (ad 55), .int 20] σ τ (fun σ' τ' => τ = τ' ∧ (∀ i : Nat, (i < 55 ∨ 55 < i) ∧ (i < 85 ∨ 85 < i) → σ' i = σ i) ∧ (∀ k : Nat, (k < 55 ∨ 55 < k) → σ' 55 k = σ 55 k) ∧ (∀ k : Nat, (k < 4 ∨ 4 < k) → σ' 85 k = σ 85 k) ∧ (σ' 55 55 = 5) ∧ (σ' 85 4 = 20) ∧ True) := by
  refine jMv.of hJ (by decide +kernel) rfl (Nat.le_of_ble_eq_true rfl) ?_
  intro p e s m args below meth c Q ls hC hret hl hP
  obtain ⟨hx, hb, hr, hml, hown, hts, hK, -, hlocks, hZ⟩ := hC
  have hown : s.vm.findClass RX12 = some m.cls := hown
  have hS : va_S (jA ad) s.heap s.heap [] := va_S.rf
  have hA : ∀ q, jA ad q → jA ad q := fun _ h => h
  have hl : lv_has ls 2 [(0, .ref (ad 55)), (1, .int 20)] := hl
  refine lv_aload_n hx hb dX12_begins_0 rfl (lv_at hl 0 rfl) ?_
  refine va_get (D := D) hx hb hts inlX12 hown hK hP 55 (jc_55 cI cL ad σ τ) rfl 55 (by decide) (hts _ kw_49_7) (fun _ h9 => h9) rfl dX12_begins_1 ?_
  refine jtopr h55_55 ?_
  refine lv_bipush (v := 24) hx hb dX12_begins_4 (by decide) ?_
  refine lv_icmp_ge (tgt := 19) hx hb dX12_begins_6 (by decide) (fun c => absurd c (by decide)) (fun _ => ?_)
  refine lv_aload_n hx hb dX12_begins_9 rfl (lv_at hl 0 rfl) ?_
  refine va_get (D := D) hx hb hts inlX12 hown hK hP 55 (jc_55 cI cL ad σ τ) rfl 54 (by decide) (hts _ kw_8_10) (fun _ h9 => h9) rfl dX12_begins_10 ?_
  refine lv_aload_n hx hb dX12_begins_13 rfl (lv_at hl 0 rfl) ?_
  refine va_get (D := D) hx hb hts inlX12 hown hK hP 55 (jc_55 cI cL ad σ τ) rfl 55 (by decide) (hts _ kw_49_7) (fun _ h9 => h9) rfl dX12_begins_14 ?_
  refine jtopr h55_55 ?_
  refine lv_iload_n hx hb dX12_begins_17 rfl (lv_at hl 1 rfl) ?_
  refine jast hx hb hK hP hJ hA hS (jc_85 cI cL ad σ τ) (ja_85 cI cL ad σ τ _ _) (jin jz_4 (by omega) (by omega)) dX12_begins_18 (fun σ1 H locs eσ1 hP hS => ?_)
  have eσ1 : σ1 = jup σ 85 4 20 := eσ1
  refine lv_aload_n hx hb dX12_begins_19 rfl (lv_at hl 0 rfl) ?_
  refine lv_dup hx hb dX12_begins_20 rfl ?_
  refine va_get (D := D) hx hb hts inlX12 hown hK hP 55 (jc_55 cI cL ad σ1 τ) rfl 55 (by decide) (hts _ kw_49_7) (fun _ h9 => h9) rfl dX12_begins_21 ?_
  have m2 : σ1 55 55 = 4 := (by rw [eσ1, jup_n (by decide)]; exact h55_55)
  refine jtopr m2 ?_
  refine lv_iconst (v := 1) hx hb dX12_begins_24 (by decide) ?_
  refine lv_iadd hx hb dX12_begins_25 ?_
  refine jtopr (y := 5) (by decide) ?_
  refine jput (ty := .int) hx hb hts inlX12 tyX12 tyX12_ok nmX12 hown hK hP hJ hA hS (jc_55 cI cL ad σ1 τ) rfl (k := 55) (by decide) (Nat.le_of_ble_eq_true rfl) (jp_55_55 cI cL ad σ1 τ 5) (hts _ kw_49_7) (fun _ h9 => h9) rfl (by decide +kernel) rfl rfl dX12_begins_26 (fun σ3 H locs eσ3 hP hS => ?_)
  have m4 : σ3 55 55 = 5 := (by rw [eσ3]; exact jup_s)
  have m5 : σ3 85 4 = 20 := (by rw [eσ3, jup_n (by decide)]; exact (by rw [eσ1]; exact jup_s))
  exact hret σ3 τ _ _ _ _ ⟨rfl, (fun i hi => by rw [eσ3, jup_n (by omega), eσ1, jup_n (by omega)]), (fun k hk => by rw [eσ3, jup_k (by omega), eσ1, jup_n (by decide)]), (fun k hk => by rw [eσ3, jup_n (by decide), eσ1, jup_k (by omega)]), m4, m5, trivial⟩ hP hS dX12_begins_29
set_option maxHeartbeats 4000000 in
set_option maxRecDepth 100000 in
theorem c_X12_begins_1_5 (l : Launch) (D : va_G) (cI cL : ClassId) (ad zz : Nat → Nat) (hJ : jD ad) (σ : Nat → Nat → Int32) (τ : Nat → Nat → Int64) (h55_55 : σ 55 55 = 5) : jMv l yX12_begins cX12_begins 2 none ({ frames := 0, cells := 0, slots := 0, locals := 0 }) D cI cL ad zz [.ref (ad 55), .int 1] σ τ (fun σ' τ' => τ = τ' ∧ (∀ i : Nat, (i < 55 ∨ 55 < i) ∧ (i < 85 ∨ 85 < i) → σ' i = σ i) ∧ (∀ k : Nat, (k < 55 ∨ 55 < k) → σ' 55 k = σ 55 k) ∧ (∀ k : Nat, (k < 5 ∨ 5 < k) → σ' 85 k = σ 85 k) ∧ (σ' 55 55 = 6) ∧ (σ' 85 5 = 1) ∧ True) := by
  refine jMv.of hJ (by decide +kernel) rfl (Nat.le_of_ble_eq_true rfl) ?_
  intro p e s m args below meth c Q ls hC hret hl hP
  obtain ⟨hx, hb, hr, hml, hown, hts, hK, -, hlocks, hZ⟩ := hC
  have hown : s.vm.findClass RX12 = some m.cls := hown
  have hS : va_S (jA ad) s.heap s.heap [] := va_S.rf
  have hA : ∀ q, jA ad q → jA ad q := fun _ h => h
  have hl : lv_has ls 2 [(0, .ref (ad 55)), (1, .int 1)] := hl
  refine lv_aload_n hx hb dX12_begins_0 rfl (lv_at hl 0 rfl) ?_
  refine va_get (D := D) hx hb hts inlX12 hown hK hP 55 (jc_55 cI cL ad σ τ) rfl 55 (by decide) (hts _ kw_49_7) (fun _ h9 => h9) rfl dX12_begins_1 ?_
  refine jtopr h55_55 ?_
  refine lv_bipush (v := 24) hx hb dX12_begins_4 (by decide) ?_
  refine lv_icmp_ge (tgt := 19) hx hb dX12_begins_6 (by decide) (fun c => absurd c (by decide)) (fun _ => ?_)
  refine lv_aload_n hx hb dX12_begins_9 rfl (lv_at hl 0 rfl) ?_
  refine va_get (D := D) hx hb hts inlX12 hown hK hP 55 (jc_55 cI cL ad σ τ) rfl 54 (by decide) (hts _ kw_8_10) (fun _ h9 => h9) rfl dX12_begins_10 ?_
  refine lv_aload_n hx hb dX12_begins_13 rfl (lv_at hl 0 rfl) ?_
  refine va_get (D := D) hx hb hts inlX12 hown hK hP 55 (jc_55 cI cL ad σ τ) rfl 55 (by decide) (hts _ kw_49_7) (fun _ h9 => h9) rfl dX12_begins_14 ?_
  refine jtopr h55_55 ?_
  refine lv_iload_n hx hb dX12_begins_17 rfl (lv_at hl 1 rfl) ?_
  refine jast hx hb hK hP hJ hA hS (jc_85 cI cL ad σ τ) (ja_85 cI cL ad σ τ _ _) (jin jz_5 (by omega) (by omega)) dX12_begins_18 (fun σ1 H locs eσ1 hP hS => ?_)
  have eσ1 : σ1 = jup σ 85 5 1 := eσ1
  refine lv_aload_n hx hb dX12_begins_19 rfl (lv_at hl 0 rfl) ?_
  refine lv_dup hx hb dX12_begins_20 rfl ?_
  refine va_get (D := D) hx hb hts inlX12 hown hK hP 55 (jc_55 cI cL ad σ1 τ) rfl 55 (by decide) (hts _ kw_49_7) (fun _ h9 => h9) rfl dX12_begins_21 ?_
  have m2 : σ1 55 55 = 5 := (by rw [eσ1, jup_n (by decide)]; exact h55_55)
  refine jtopr m2 ?_
  refine lv_iconst (v := 1) hx hb dX12_begins_24 (by decide) ?_
  refine lv_iadd hx hb dX12_begins_25 ?_
  refine jtopr (y := 6) (by decide) ?_
  refine jput (ty := .int) hx hb hts inlX12 tyX12 tyX12_ok nmX12 hown hK hP hJ hA hS (jc_55 cI cL ad σ1 τ) rfl (k := 55) (by decide) (Nat.le_of_ble_eq_true rfl) (jp_55_55 cI cL ad σ1 τ 6) (hts _ kw_49_7) (fun _ h9 => h9) rfl (by decide +kernel) rfl rfl dX12_begins_26 (fun σ3 H locs eσ3 hP hS => ?_)
  have m4 : σ3 55 55 = 6 := (by rw [eσ3]; exact jup_s)
  have m5 : σ3 85 5 = 1 := (by rw [eσ3, jup_n (by decide)]; exact (by rw [eσ1]; exact jup_s))
  exact hret σ3 τ _ _ _ _ ⟨rfl, (fun i hi => by rw [eσ3, jup_n (by omega), eσ1, jup_n (by omega)]), (fun k hk => by rw [eσ3, jup_k (by omega), eσ1, jup_n (by decide)]), (fun k hk => by rw [eσ3, jup_n (by decide), eσ1, jup_k (by omega)]), m4, m5, trivial⟩ hP hS dX12_begins_29
set_option maxHeartbeats 4000000 in
set_option maxRecDepth 100000 in
theorem c_X12_putsAs_4_0_5 (l : Launch) (D : va_G) (cI cL : ClassId) (ad zz : Nat → Nat) (hJ : jD ad) (σ : Nat → Nat → Int32) (τ : Nat → Nat → Int64) (a2 : Int32) (A2 : Int) (t2 : a2.toInt = A2) (h55_55 : σ 55 55 = 5) (hp0 : (σ 55 56).toInt = 4) : jM l yX12_putsAs cX12_putsAs 3 (some .int) ({ frames := 1, cells := 0, slots := 0, locals := 21 }) D cI cL ad zz [.ref (ad 55), .int 0, .int a2] σ τ (fun r σ' τ' => τ = τ' ∧ (∀ i : Nat, (i < 55 ∨ 55 < i) ∧ (i < 85 ∨ 85 < i) → σ' i = σ i) ∧ (∀ k : Nat, (k < 55 ∨ 55 < k) → σ' 55 k = σ 55 k) ∧ (∀ k : Nat, (k < 5 ∨ 5 < k) → σ' 85 k = σ 85 k) ∧ (σ' 55 55 = 6) ∧ (σ' 85 5 = 1) ∧ ((r = (a2 + (σ 55 57)) ∧ True))) := by
  refine jM.of hJ (by decide +kernel) (nt := .int) rfl (Nat.le_of_ble_eq_true rfl) ?_
  intro p e s m args below meth c Q ls hC hret hl hP
  obtain ⟨hx, hb, hr, hml, hown, hts, hK, -, hlocks, hZ⟩ := hC
  have hown : s.vm.findClass RX12 = some m.cls := hown
  have hS : va_S (jA ad) s.heap s.heap [] := va_S.rf
  have hA : ∀ q, jA ad q → jA ad q := fun _ h => h
  have hl : lv_has ls 3 [(0, .ref (ad 55)), (1, .int 0), (2, .int a2)] := hl
  have g2 := jrg t2
  refine lv_iload_n hx hb dX12_putsAs_0 rfl (lv_at hl 1 rfl) ?_
  refine lv_iconst (v := 4) hx hb dX12_putsAs_1 (by decide) ?_
  refine lv_icmp_ne (tgt := 20) hx hb dX12_putsAs_2 (by decide) (fun _ => ?_) (fun c => absurd c (by decide))
  refine lv_iload_n hx hb dX12_putsAs_20 rfl (lv_at hl 1 rfl) ?_
  refine lv_iconst (v := 1) hx hb dX12_putsAs_21 (by decide) ?_
  refine lv_icmp_ne (tgt := 40) hx hb dX12_putsAs_22 (by decide) (fun _ => ?_) (fun c => absurd c (by decide))
  refine lv_aload_n hx hb dX12_putsAs_40 rfl (lv_at hl 0 rfl) ?_
  refine lv_iconst (v := 1) hx hb dX12_putsAs_41 (by decide) ?_
  refine jcallVv (As := [.int 1]) (rest := []) ⟨hx, hb, hml, hown, hts⟩ hK hP hA hS hZ (c_X12_begins_1_5 l D cI cL ad zz hJ σ τ h55_55) cw_RX12_379 (jc_55 cI cL ad σ τ) rfl ⟨Nat.le_of_ble_eq_true rfl, Nat.le_of_ble_eq_true rfl⟩ rfl rfl rfl hl.1 rfl (Nat.le_of_ble_eq_true rfl) dX12_putsAs_42 ⟨Nat.zero_le _, Nat.zero_le _⟩ (fun σ1 τ1 H locs h1 hP hS => ?_)
  obtain ⟨rfl, f3, f4, f5, m6, m7, h1⟩ := h1
  refine lv_iload_n hx hb dX12_putsAs_45 rfl (lv_at hl 2 rfl) ?_
  refine lv_aload_n hx hb dX12_putsAs_46 rfl (lv_at hl 0 rfl) ?_
  refine va_get (D := D) hx hb hts inlX12 hown hK hP 55 (jc_55 cI cL ad σ1 τ) rfl 57 (by decide) (hts _ kw_49_9) (fun _ h9 => h9) rfl dX12_putsAs_47 ?_
  have m8 : σ1 55 57 = (σ 55 57) := (by rw [f4 57 (by omega)])
  refine jtopr m8 ?_
  have g9 := jrg (rfl : (σ 55 57).toInt = (σ 55 57).toInt)
  refine lv_iadd hx hb dX12_putsAs_50 ?_
  refine lv_topi (fun x10 ex10 => ?_)
  have gx10 := jrg (rfl : x10.toInt = x10.toInt)
  exact hret x10 σ1 τ _ _ _ _ rfl ⟨rfl, (fun i hi => by rw [f3 i (by omega)]), (fun k hk => by rw [f4 k (by omega)]), (fun k hk => by rw [f5 k (by omega)]), m6, m7, ⟨(by rw [ex10]), trivial⟩⟩ hP hS dX12_putsAs_51
set_option maxHeartbeats 4000000 in
set_option maxRecDepth 100000 in
theorem c_X12_putsAs_4_1_4 (l : Launch) (D : va_G) (cI cL : ClassId) (ad zz : Nat → Nat) (hJ : jD ad) (σ : Nat → Nat → Int32) (τ : Nat → Nat → Int64) (a2 : Int32) (A2 : Int) (t2 : a2.toInt = A2) (h55_55 : σ 55 55 = 4) (hp0 : (σ 55 56).toInt = 4) : jM l yX12_putsAs cX12_putsAs 3 (some .int) ({ frames := 2, cells := 0, slots := 0, locals := 43 }) D cI cL ad zz [.ref (ad 55), .int 1, .int a2] σ τ (fun r σ' τ' => τ = τ' ∧ (∀ i : Nat, (i < 55 ∨ 55 < i) ∧ (i < 85 ∨ 85 < i) → σ' i = σ i) ∧ (∀ k : Nat, (k < 55 ∨ 55 < k) → σ' 55 k = σ 55 k) ∧ (∀ k : Nat, (k < 4 ∨ 4 < k) ∧ (k < 5 ∨ 5 < k) → σ' 85 k = σ 85 k) ∧ (σ' 55 55 = 6) ∧ (σ' 85 4 = 20) ∧ (σ' 85 5 = 1) ∧ ((r = ((a2 + (σ 55 57)) + 3) ∧ True))) := by
  refine jM.of hJ (by decide +kernel) (nt := .int) rfl (Nat.le_of_ble_eq_true rfl) ?_
  intro p e s m args below meth c Q ls hC hret hl hP
  obtain ⟨hx, hb, hr, hml, hown, hts, hK, -, hlocks, hZ⟩ := hC
  have hown : s.vm.findClass RX12 = some m.cls := hown
  have hS : va_S (jA ad) s.heap s.heap [] := va_S.rf
  have hA : ∀ q, jA ad q → jA ad q := fun _ h => h
  have hl : lv_has ls 3 [(0, .ref (ad 55)), (1, .int 1), (2, .int a2)] := hl
  have g2 := jrg t2
  refine lv_iload_n hx hb dX12_putsAs_0 rfl (lv_at hl 1 rfl) ?_
  refine lv_iconst (v := 4) hx hb dX12_putsAs_1 (by decide) ?_
  refine lv_icmp_ne (tgt := 20) hx hb dX12_putsAs_2 (by decide) (fun _ => ?_) (fun c => absurd c (by decide))
  refine lv_iload_n hx hb dX12_putsAs_20 rfl (lv_at hl 1 rfl) ?_
  refine lv_iconst (v := 1) hx hb dX12_putsAs_21 (by decide) ?_
  refine lv_icmp_ne (tgt := 40) hx hb dX12_putsAs_22 (by decide) (fun c => absurd (by decide) c) (fun _ => ?_)
  refine lv_aload_n hx hb dX12_putsAs_25 rfl (lv_at hl 0 rfl) ?_
  refine lv_bipush (v := 20) hx hb dX12_putsAs_26 (by decide) ?_
  refine jcallVv (As := [.int 20]) (rest := []) ⟨hx, hb, hml, hown, hts⟩ hK hP hA hS hZ (c_X12_begins_20_4 l D cI cL ad zz hJ σ τ h55_55) cw_RX12_379 (jc_55 cI cL ad σ τ) rfl ⟨Nat.le_of_ble_eq_true rfl, Nat.le_of_ble_eq_true rfl⟩ rfl rfl rfl hl.1 rfl (Nat.le_of_ble_eq_true rfl) dX12_putsAs_28 ⟨Nat.zero_le _, Nat.zero_le _⟩ (fun σ1 τ1 H locs h1 hP hS => ?_)
  obtain ⟨rfl, f3, f4, f5, m6, m7, h1⟩ := h1
  refine lv_aload_n hx hb dX12_putsAs_31 rfl (lv_at hl 0 rfl) ?_
  refine lv_iconst (v := 0) hx hb dX12_putsAs_32 (by decide) ?_
  refine lv_iload_n hx hb dX12_putsAs_33 rfl (lv_at hl 2 rfl) ?_
  have z8 : (σ1 55 56).toInt = (σ 55 56).toInt := by rw [(show σ1 55 56 = (σ 55 56) from (by rw [f4 56 (by omega)]))]
  refine jcallV (As := [.int 0, .int a2]) (rest := []) ⟨hx, hb, hml, hown, hts⟩ hK hP hA hS hZ (c_X12_putsAs_4_0_5 l D cI cL ad zz hJ σ1 τ a2 (A2) t2 m6 (by omega)) cw_RX12_382 (jc_55 cI cL ad σ1 τ) rfl ⟨Nat.le_of_ble_eq_true rfl, Nat.le_of_ble_eq_true rfl⟩ rfl rfl rfl hl.1 rfl (Nat.le_of_ble_eq_true rfl) dX12_putsAs_34 ⟨Nat.zero_le _, Nat.zero_le _⟩ (fun r10 σ9 τ9 H locs h9 hP hS => ?_)
  obtain ⟨rfl, f11, f12, f13, m14, m15, h9⟩ := h9
  have h16 := h9
  obtain ⟨q18, k17⟩ := h16
  have q18 := q18.symm
  subst q18
  refine lv_iconst (v := 3) hx hb dX12_putsAs_37 (by decide) ?_
  have g19 := jrg (rfl : (a2 + (σ1 55 57)).toInt = (a2 + (σ1 55 57)).toInt)
  refine lv_iadd hx hb dX12_putsAs_38 ?_
  refine lv_topi (fun x20 ex20 => ?_)
  have gx20 := jrg (rfl : x20.toInt = x20.toInt)
  have m21 : σ9 85 4 = 20 := (by rw [f13 4 (by omega)]; exact m7)
  exact hret x20 σ9 τ _ _ _ _ rfl ⟨rfl, (fun i hi => by rw [f11 i (by omega), f3 i (by omega)]), (fun k hk => by rw [f12 k (by omega), f4 k (by omega)]), (fun k hk => by rw [f13 k (by omega), f5 k (by omega)]), m14, m21, m15, ⟨(by rw [ex20, (show σ1 55 57 = σ 55 57 from (by rw [f4 57 (by omega)]))]), trivial⟩⟩ hP hS dX12_putsAs_39
set_option maxHeartbeats 4000000 in
set_option maxRecDepth 100000 in
theorem c_X12_putsAs_4_4_3 (l : Launch) (D : va_G) (cI cL : ClassId) (ad zz : Nat → Nat) (hJ : jD ad) (σ : Nat → Nat → Int32) (τ : Nat → Nat → Int64) (a2 : Int32) (A2 : Int) (t2 : a2.toInt = A2) (h55_55 : σ 55 55 = 3) (hp0 : (σ 55 56).toInt = 4) : jM l yX12_putsAs cX12_putsAs 3 (some .int) ({ frames := 3, cells := 0, slots := 0, locals := 65 }) D cI cL ad zz [.ref (ad 55), .int 4, .int a2] σ τ (fun r σ' τ' => τ = τ' ∧ (∀ i : Nat, (i < 55 ∨ 55 < i) ∧ (i < 85 ∨ 85 < i) → σ' i = σ i) ∧ (∀ k : Nat, (k < 55 ∨ 55 < k) → σ' 55 k = σ 55 k) ∧ (∀ k : Nat, (k < 3 ∨ 3 < k) ∧ (k < 4 ∨ 4 < k) ∧ (k < 5 ∨ 5 < k) → σ' 85 k = σ 85 k) ∧ (σ' 55 55 = 6) ∧ (σ' 85 3 = 50) ∧ (σ' 85 4 = 20) ∧ (σ' 85 5 = 1) ∧ ((r = (((a2 + 1) + (σ 55 57)) + 3) ∧ True))) := by
  refine jM.of hJ (by decide +kernel) (nt := .int) rfl (Nat.le_of_ble_eq_true rfl) ?_
  intro p e s m args below meth c Q ls hC hret hl hP
  obtain ⟨hx, hb, hr, hml, hown, hts, hK, -, hlocks, hZ⟩ := hC
  have hown : s.vm.findClass RX12 = some m.cls := hown
  have hS : va_S (jA ad) s.heap s.heap [] := va_S.rf
  have hA : ∀ q, jA ad q → jA ad q := fun _ h => h
  have hl : lv_has ls 3 [(0, .ref (ad 55)), (1, .int 4), (2, .int a2)] := hl
  have g2 := jrg t2
  refine lv_iload_n hx hb dX12_putsAs_0 rfl (lv_at hl 1 rfl) ?_
  refine lv_iconst (v := 4) hx hb dX12_putsAs_1 (by decide) ?_
  refine lv_icmp_ne (tgt := 20) hx hb dX12_putsAs_2 (by decide) (fun c => absurd (by decide) c) (fun _ => ?_)
  refine lv_aload_n hx hb dX12_putsAs_5 rfl (lv_at hl 0 rfl) ?_
  refine lv_bipush (v := 50) hx hb dX12_putsAs_6 (by decide) ?_
  refine jcallVv (As := [.int 50]) (rest := []) ⟨hx, hb, hml, hown, hts⟩ hK hP hA hS hZ (c_X12_begins_50_3 l D cI cL ad zz hJ σ τ h55_55) cw_RX12_379 (jc_55 cI cL ad σ τ) rfl ⟨Nat.le_of_ble_eq_true rfl, Nat.le_of_ble_eq_true rfl⟩ rfl rfl rfl hl.1 rfl (Nat.le_of_ble_eq_true rfl) dX12_putsAs_8 ⟨Nat.zero_le _, Nat.zero_le _⟩ (fun σ1 τ1 H locs h1 hP hS => ?_)
  obtain ⟨rfl, f3, f4, f5, m6, m7, h1⟩ := h1
  refine lv_aload_n hx hb dX12_putsAs_11 rfl (lv_at hl 0 rfl) ?_
  refine lv_iconst (v := 1) hx hb dX12_putsAs_12 (by decide) ?_
  refine lv_iload_n hx hb dX12_putsAs_13 rfl (lv_at hl 2 rfl) ?_
  refine lv_iconst (v := 1) hx hb dX12_putsAs_14 (by decide) ?_
  refine lv_iadd hx hb dX12_putsAs_15 ?_
  refine lv_topi (fun x8 ex8 => ?_)
  have gx8 := jrg (rfl : x8.toInt = x8.toInt)
  have z9 : (σ1 55 56).toInt = (σ 55 56).toInt := by rw [(show σ1 55 56 = (σ 55 56) from (by rw [f4 56 (by omega)]))]
  refine jcallV (As := [.int 1, .int x8]) (rest := []) ⟨hx, hb, hml, hown, hts⟩ hK hP hA hS hZ (c_X12_putsAs_4_1_4 l D cI cL ad zz hJ σ1 τ x8 (x8.toInt) rfl m6 (by omega)) cw_RX12_382 (jc_55 cI cL ad σ1 τ) rfl ⟨Nat.le_of_ble_eq_true rfl, Nat.le_of_ble_eq_true rfl⟩ rfl rfl rfl hl.1 rfl (Nat.le_of_ble_eq_true rfl) dX12_putsAs_16 ⟨Nat.zero_le _, Nat.zero_le _⟩ (fun r11 σ10 τ10 H locs h10 hP hS => ?_)
  obtain ⟨rfl, f12, f13, f14, m15, m16, m17, h10⟩ := h10
  have h18 := h10
  obtain ⟨q20, k19⟩ := h18
  have q20 := q20.symm
  subst q20
  have m21 : σ10 85 3 = 50 := (by rw [f14 3 (by omega)]; exact m7)
  exact hret ((x8 + (σ1 55 57)) + 3) σ10 τ _ _ _ _ rfl ⟨rfl, (fun i hi => by rw [f12 i (by omega), f3 i (by omega)]), (fun k hk => by rw [f13 k (by omega), f4 k (by omega)]), (fun k hk => by rw [f14 k (by omega), f5 k (by omega)]), m15, m21, m16, m17, ⟨(by rw [ex8, (show σ1 55 57 = σ 55 57 from (by rw [f4 57 (by omega)]))]), trivial⟩⟩ hP hS dX12_putsAs_19
set_option maxHeartbeats 4000000 in
set_option maxRecDepth 100000 in
theorem c_X12_holdsAs_4_4_2 (l : Launch) (D : va_G) (cI cL : ClassId) (ad zz : Nat → Nat) (hJ : jD ad) (σ : Nat → Nat → Int32) (τ : Nat → Nat → Int64) (a2 : Int32) (A2 : Int) (t2 : a2.toInt = A2) (h55_55 : σ 55 55 = 2) (hp0 : (σ 55 56).toInt = 4) : jM l yX12_holdsAs cX12_holdsAs 4 (some .int) ({ frames := 4, cells := 0, slots := 0, locals := 87 }) D cI cL ad zz [.ref (ad 55), .int 4, .int a2] σ τ (fun r σ' τ' => τ = τ' ∧ (∀ i : Nat, (i < 55 ∨ 55 < i) ∧ (i < 85 ∨ 85 < i) → σ' i = σ i) ∧ (∀ k : Nat, (k < 55 ∨ 55 < k) → σ' 55 k = σ 55 k) ∧ (∀ k : Nat, (k < 2 ∨ 2 < k) ∧ (k < 3 ∨ 3 < k) ∧ (k < 4 ∨ 4 < k) ∧ (k < 5 ∨ 5 < k) → σ' 85 k = σ 85 k) ∧ (σ' 55 55 = 6) ∧ (σ' 85 2 = 10) ∧ (σ' 85 3 = 50) ∧ (σ' 85 4 = 20) ∧ (σ' 85 5 = 1) ∧ ((r = ((((a2 + 1) + (σ 55 57)) + 3) * 2) ∧ True))) := by
  refine jM.of hJ (by decide +kernel) (nt := .int) rfl (Nat.le_of_ble_eq_true rfl) ?_
  intro p e s m args below meth c Q ls hC hret hl hP
  obtain ⟨hx, hb, hr, hml, hown, hts, hK, -, hlocks, hZ⟩ := hC
  have hown : s.vm.findClass RX12 = some m.cls := hown
  have hS : va_S (jA ad) s.heap s.heap [] := va_S.rf
  have hA : ∀ q, jA ad q → jA ad q := fun _ h => h
  have hl : lv_has ls 4 [(0, .ref (ad 55)), (1, .int 4), (2, .int a2)] := hl
  have g2 := jrg t2
  refine lv_iload_n hx hb dX12_holdsAs_0 rfl (lv_at hl 1 rfl) ?_
  refine lv_iconst (v := 3) hx hb dX12_holdsAs_1 (by decide) ?_
  refine lv_icmp_eq (tgt := 10) hx hb dX12_holdsAs_2 (by decide) (fun c => absurd c (by decide)) (fun _ => ?_)
  refine lv_iload_n hx hb dX12_holdsAs_5 rfl (lv_at hl 1 rfl) ?_
  refine lv_iconst (v := 5) hx hb dX12_holdsAs_6 (by decide) ?_
  refine lv_icmp_ne (tgt := 24) hx hb dX12_holdsAs_7 (by decide) (fun _ => ?_) (fun c => absurd c (by decide))
  refine lv_iload_n hx hb dX12_holdsAs_24 rfl (lv_at hl 1 rfl) ?_
  refine lv_bipush (v := 6) hx hb dX12_holdsAs_25 (by decide) ?_
  refine lv_icmp_ne (tgt := 55) hx hb dX12_holdsAs_27 (by decide) (fun _ => ?_) (fun c => absurd c (by decide))
  refine lv_aload_n hx hb dX12_holdsAs_55 rfl (lv_at hl 0 rfl) ?_
  refine lv_bipush (v := 10) hx hb dX12_holdsAs_56 (by decide) ?_
  refine jcallVv (As := [.int 10]) (rest := []) ⟨hx, hb, hml, hown, hts⟩ hK hP hA hS hZ (c_X12_begins_10_2 l D cI cL ad zz hJ σ τ h55_55) cw_RX12_379 (jc_55 cI cL ad σ τ) rfl ⟨Nat.le_of_ble_eq_true rfl, Nat.le_of_ble_eq_true rfl⟩ rfl rfl rfl hl.1 rfl (Nat.le_of_ble_eq_true rfl) dX12_holdsAs_58 ⟨Nat.zero_le _, Nat.zero_le _⟩ (fun σ1 τ1 H locs h1 hP hS => ?_)
  obtain ⟨rfl, f3, f4, f5, m6, m7, h1⟩ := h1
  refine lv_aload_n hx hb dX12_holdsAs_61 rfl (lv_at hl 0 rfl) ?_
  refine lv_aload_n hx hb dX12_holdsAs_62 rfl (lv_at hl 0 rfl) ?_
  refine va_get (D := D) hx hb hts inlX12 hown hK hP 55 (jc_55 cI cL ad σ1 τ) rfl 56 (by decide) (hts _ kw_49_8) (fun _ h9 => h9) rfl dX12_holdsAs_63 ?_
  have m8 : σ1 55 56 = (σ 55 56) := (by rw [f4 56 (by omega)])
  refine jtopr m8 ?_
  refine jtopr (jsame (rfl : (σ 55 56).toInt = (σ 55 56).toInt) jz_4 (by omega)) ?_
  refine lv_iload_n hx hb dX12_holdsAs_66 rfl (lv_at hl 2 rfl) ?_
  have z9 : (σ1 55 56).toInt = (σ 55 56).toInt := by rw [(show σ1 55 56 = (σ 55 56) from m8)]
  refine jcallV (As := [.int 4, .int a2]) (rest := []) ⟨hx, hb, hml, hown, hts⟩ hK hP hA hS hZ (c_X12_putsAs_4_4_3 l D cI cL ad zz hJ σ1 τ a2 (A2) t2 m6 (by omega)) cw_RX12_382 (jc_55 cI cL ad σ1 τ) rfl ⟨Nat.le_of_ble_eq_true rfl, Nat.le_of_ble_eq_true rfl⟩ rfl rfl rfl hl.1 rfl (Nat.le_of_ble_eq_true rfl) dX12_holdsAs_67 ⟨Nat.zero_le _, Nat.zero_le _⟩ (fun r11 σ10 τ10 H locs h10 hP hS => ?_)
  obtain ⟨rfl, f12, f13, f14, m15, m16, m17, m18, h10⟩ := h10
  have h19 := h10
  obtain ⟨q21, k20⟩ := h19
  have q21 := q21.symm
  subst q21
  refine lv_iconst (v := 2) hx hb dX12_holdsAs_70 (by decide) ?_
  have g22 := jrg (rfl : (((a2 + 1) + (σ1 55 57)) + 3).toInt = (((a2 + 1) + (σ1 55 57)) + 3).toInt)
  refine lv_imul hx hb dX12_holdsAs_71 ?_
  refine lv_topi (fun x23 ex23 => ?_)
  have gx23 := jrg (rfl : x23.toInt = x23.toInt)
  have m24 : σ10 85 2 = 10 := (by rw [f14 2 (by omega)]; exact m7)
  exact hret x23 σ10 τ _ _ _ _ rfl ⟨rfl, (fun i hi => by rw [f12 i (by omega), f3 i (by omega)]), (fun k hk => by rw [f13 k (by omega), f4 k (by omega)]), (fun k hk => by rw [f14 k (by omega), f5 k (by omega)]), m15, m24, m16, m17, m18, ⟨(by rw [ex23, (show σ1 55 57 = σ 55 57 from (by rw [f4 57 (by omega)]))]), trivial⟩⟩ hP hS dX12_holdsAs_72
set_option maxHeartbeats 4000000 in
set_option maxRecDepth 100000 in
theorem c_X12_begins_11_6 (l : Launch) (D : va_G) (cI cL : ClassId) (ad zz : Nat → Nat) (hJ : jD ad) (σ : Nat → Nat → Int32) (τ : Nat → Nat → Int64) (h55_55 : σ 55 55 = 6) : jMv l yX12_begins cX12_begins 2 none ({ frames := 0, cells := 0, slots := 0, locals := 0 }) D cI cL ad zz [.ref (ad 55), .int 11] σ τ (fun σ' τ' => τ = τ' ∧ (∀ i : Nat, (i < 55 ∨ 55 < i) ∧ (i < 85 ∨ 85 < i) → σ' i = σ i) ∧ (∀ k : Nat, (k < 55 ∨ 55 < k) → σ' 55 k = σ 55 k) ∧ (∀ k : Nat, (k < 6 ∨ 6 < k) → σ' 85 k = σ 85 k) ∧ (σ' 55 55 = 7) ∧ (σ' 85 6 = 11) ∧ True) := by
  refine jMv.of hJ (by decide +kernel) rfl (Nat.le_of_ble_eq_true rfl) ?_
  intro p e s m args below meth c Q ls hC hret hl hP
  obtain ⟨hx, hb, hr, hml, hown, hts, hK, -, hlocks, hZ⟩ := hC
  have hown : s.vm.findClass RX12 = some m.cls := hown
  have hS : va_S (jA ad) s.heap s.heap [] := va_S.rf
  have hA : ∀ q, jA ad q → jA ad q := fun _ h => h
  have hl : lv_has ls 2 [(0, .ref (ad 55)), (1, .int 11)] := hl
  refine lv_aload_n hx hb dX12_begins_0 rfl (lv_at hl 0 rfl) ?_
  refine va_get (D := D) hx hb hts inlX12 hown hK hP 55 (jc_55 cI cL ad σ τ) rfl 55 (by decide) (hts _ kw_49_7) (fun _ h9 => h9) rfl dX12_begins_1 ?_
  refine jtopr h55_55 ?_
  refine lv_bipush (v := 24) hx hb dX12_begins_4 (by decide) ?_
  refine lv_icmp_ge (tgt := 19) hx hb dX12_begins_6 (by decide) (fun c => absurd c (by decide)) (fun _ => ?_)
  refine lv_aload_n hx hb dX12_begins_9 rfl (lv_at hl 0 rfl) ?_
  refine va_get (D := D) hx hb hts inlX12 hown hK hP 55 (jc_55 cI cL ad σ τ) rfl 54 (by decide) (hts _ kw_8_10) (fun _ h9 => h9) rfl dX12_begins_10 ?_
  refine lv_aload_n hx hb dX12_begins_13 rfl (lv_at hl 0 rfl) ?_
  refine va_get (D := D) hx hb hts inlX12 hown hK hP 55 (jc_55 cI cL ad σ τ) rfl 55 (by decide) (hts _ kw_49_7) (fun _ h9 => h9) rfl dX12_begins_14 ?_
  refine jtopr h55_55 ?_
  refine lv_iload_n hx hb dX12_begins_17 rfl (lv_at hl 1 rfl) ?_
  refine jast hx hb hK hP hJ hA hS (jc_85 cI cL ad σ τ) (ja_85 cI cL ad σ τ _ _) (jin jz_6 (by omega) (by omega)) dX12_begins_18 (fun σ1 H locs eσ1 hP hS => ?_)
  have eσ1 : σ1 = jup σ 85 6 11 := eσ1
  refine lv_aload_n hx hb dX12_begins_19 rfl (lv_at hl 0 rfl) ?_
  refine lv_dup hx hb dX12_begins_20 rfl ?_
  refine va_get (D := D) hx hb hts inlX12 hown hK hP 55 (jc_55 cI cL ad σ1 τ) rfl 55 (by decide) (hts _ kw_49_7) (fun _ h9 => h9) rfl dX12_begins_21 ?_
  have m2 : σ1 55 55 = 6 := (by rw [eσ1, jup_n (by decide)]; exact h55_55)
  refine jtopr m2 ?_
  refine lv_iconst (v := 1) hx hb dX12_begins_24 (by decide) ?_
  refine lv_iadd hx hb dX12_begins_25 ?_
  refine jtopr (y := 7) (by decide) ?_
  refine jput (ty := .int) hx hb hts inlX12 tyX12 tyX12_ok nmX12 hown hK hP hJ hA hS (jc_55 cI cL ad σ1 τ) rfl (k := 55) (by decide) (Nat.le_of_ble_eq_true rfl) (jp_55_55 cI cL ad σ1 τ 7) (hts _ kw_49_7) (fun _ h9 => h9) rfl (by decide +kernel) rfl rfl dX12_begins_26 (fun σ3 H locs eσ3 hP hS => ?_)
  have m4 : σ3 55 55 = 7 := (by rw [eσ3]; exact jup_s)
  have m5 : σ3 85 6 = 11 := (by rw [eσ3, jup_n (by decide)]; exact (by rw [eσ1]; exact jup_s))
  exact hret σ3 τ _ _ _ _ ⟨rfl, (fun i hi => by rw [eσ3, jup_n (by omega), eσ1, jup_n (by omega)]), (fun k hk => by rw [eσ3, jup_k (by omega), eσ1, jup_n (by decide)]), (fun k hk => by rw [eσ3, jup_n (by decide), eσ1, jup_k (by omega)]), m4, m5, trivial⟩ hP hS dX12_begins_29
set_option maxHeartbeats 4000000 in
set_option maxRecDepth 100000 in
theorem c_X12_givesAs_4_4_6_x1 (l : Launch) (D : va_G) (cI cL : ClassId) (ad zz : Nat → Nat) (hJ : jD ad) (σ : Nat → Nat → Int32) (τ : Nat → Nat → Int64) (h55_55 : σ 55 55 = 6) (hp0 : (σ 55 56).toInt = 4) : jM l yX12_givesAs cX12_givesAs 4 (some .int) ({ frames := 1, cells := 0, slots := 0, locals := 21 }) D cI cL ad zz [.ref (ad 55), .int 4, .int 1] σ τ (fun r σ' τ' => τ = τ' ∧ (∀ i : Nat, (i < 55 ∨ 55 < i) ∧ (i < 85 ∨ 85 < i) → σ' i = σ i) ∧ (∀ k : Nat, (k < 55 ∨ 55 < k) → σ' 55 k = σ 55 k) ∧ (∀ k : Nat, (k < 6 ∨ 6 < k) → σ' 85 k = σ 85 k) ∧ (σ' 55 55 = 7) ∧ (σ' 85 6 = 11) ∧ ((r = (1 ^^^ (σ 55 57)) ∧ True))) := by
  refine jM.of hJ (by decide +kernel) (nt := .int) rfl (Nat.le_of_ble_eq_true rfl) ?_
  intro p e s m args below meth c Q ls hC hret hl hP
  obtain ⟨hx, hb, hr, hml, hown, hts, hK, -, hlocks, hZ⟩ := hC
  have hown : s.vm.findClass RX12 = some m.cls := hown
  have hS : va_S (jA ad) s.heap s.heap [] := va_S.rf
  have hA : ∀ q, jA ad q → jA ad q := fun _ h => h
  have hl : lv_has ls 4 [(0, .ref (ad 55)), (1, .int 4), (2, .int 1)] := hl
  refine lv_iload_n hx hb dX12_givesAs_0 rfl (lv_at hl 1 rfl) ?_
  refine lv_iconst (v := 5) hx hb dX12_givesAs_1 (by decide) ?_
  refine lv_icmp_ne (tgt := 30) hx hb dX12_givesAs_2 (by decide) (fun _ => ?_) (fun c => absurd c (by decide))
  refine lv_iload_n hx hb dX12_givesAs_30 rfl (lv_at hl 1 rfl) ?_
  refine lv_iconst (v := 2) hx hb dX12_givesAs_31 (by decide) ?_
  refine lv_icmp_eq (tgt := 40) hx hb dX12_givesAs_32 (by decide) (fun c => absurd c (by decide)) (fun _ => ?_)
  refine lv_iload_n hx hb dX12_givesAs_35 rfl (lv_at hl 1 rfl) ?_
  refine lv_iconst (v := 3) hx hb dX12_givesAs_36 (by decide) ?_
  refine lv_icmp_ne (tgt := 55) hx hb dX12_givesAs_37 (by decide) (fun _ => ?_) (fun c => absurd c (by decide))
  refine lv_aload_n hx hb dX12_givesAs_55 rfl (lv_at hl 0 rfl) ?_
  refine lv_bipush (v := 11) hx hb dX12_givesAs_56 (by decide) ?_
  refine jcallVv (As := [.int 11]) (rest := []) ⟨hx, hb, hml, hown, hts⟩ hK hP hA hS hZ (c_X12_begins_11_6 l D cI cL ad zz hJ σ τ h55_55) cw_RX12_379 (jc_55 cI cL ad σ τ) rfl ⟨Nat.le_of_ble_eq_true rfl, Nat.le_of_ble_eq_true rfl⟩ rfl rfl rfl hl.1 rfl (Nat.le_of_ble_eq_true rfl) dX12_givesAs_58 ⟨Nat.zero_le _, Nat.zero_le _⟩ (fun σ1 τ1 H locs h1 hP hS => ?_)
  obtain ⟨rfl, f3, f4, f5, m6, m7, h1⟩ := h1
  refine lv_iload_n hx hb dX12_givesAs_61 rfl (lv_at hl 2 rfl) ?_
  refine lv_aload_n hx hb dX12_givesAs_62 rfl (lv_at hl 0 rfl) ?_
  refine va_get (D := D) hx hb hts inlX12 hown hK hP 55 (jc_55 cI cL ad σ1 τ) rfl 57 (by decide) (hts _ kw_49_9) (fun _ h9 => h9) rfl dX12_givesAs_63 ?_
  have m8 : σ1 55 57 = (σ 55 57) := (by rw [f4 57 (by omega)])
  refine jtopr m8 ?_
  refine lv_ixor hx hb dX12_givesAs_66 ?_
  refine lv_topi (fun x9 ex9 => ?_)
  have gx9 := jrg (rfl : x9.toInt = x9.toInt)
  exact hret x9 σ1 τ _ _ _ _ rfl ⟨rfl, (fun i hi => by rw [f3 i (by omega)]), (fun k hk => by rw [f4 k (by omega)]), (fun k hk => by rw [f5 k (by omega)]), m6, m7, ⟨(by rw [ex9]), trivial⟩⟩ hP hS dX12_givesAs_67
set_option maxHeartbeats 4000000 in
set_option maxRecDepth 100000 in
theorem c_X12_tellsAs_4_1_1 (l : Launch) (D : va_G) (cI cL : ClassId) (ad zz : Nat → Nat) (hJ : jD ad) (σ : Nat → Nat → Int32) (τ : Nat → Nat → Int64) (a2 : Int32) (A2 : Int) (t2 : a2.toInt = A2) (h55_55 : σ 55 55 = 1) (hp0 : (σ 55 56).toInt = 4) : jM l yX12_tellsAs cX12_tellsAs 4 (some .int) ({ frames := 5, cells := 0, slots := 0, locals := 110 }) D cI cL ad zz [.ref (ad 55), .int 1, .int a2] σ τ (fun r σ' τ' => τ = τ' ∧ (∀ i : Nat, (i < 55 ∨ 55 < i) ∧ (i < 85 ∨ 85 < i) → σ' i = σ i) ∧ (∀ k : Nat, (k < 55 ∨ 55 < k) → σ' 55 k = σ 55 k) ∧ (∀ k : Nat, (k < 1 ∨ 1 < k) ∧ (k < 2 ∨ 2 < k) ∧ (k < 3 ∨ 3 < k) ∧ (k < 4 ∨ 4 < k) ∧ (k < 5 ∨ 5 < k) ∧ (k < 6 ∨ 6 < k) → σ' 85 k = σ 85 k) ∧ (σ' 55 55 = 7) ∧ (σ' 85 1 = 2) ∧ (σ' 85 2 = 10) ∧ (σ' 85 3 = 50) ∧ (σ' 85 4 = 20) ∧ (σ' 85 5 = 1) ∧ (σ' 85 6 = 11) ∧ ((r = (((((a2 + 1) + (σ 55 57)) + 3) * 2) - (1 ^^^ (σ 55 57))) ∧ True))) := by
  refine jM.of hJ (by decide +kernel) (nt := .int) rfl (Nat.le_of_ble_eq_true rfl) ?_
  intro p e s m args below meth c Q ls hC hret hl hP
  obtain ⟨hx, hb, hr, hml, hown, hts, hK, -, hlocks, hZ⟩ := hC
  have hown : s.vm.findClass RX12 = some m.cls := hown
  have hS : va_S (jA ad) s.heap s.heap [] := va_S.rf
  have hA : ∀ q, jA ad q → jA ad q := fun _ h => h
  have hl : lv_has ls 4 [(0, .ref (ad 55)), (1, .int 1), (2, .int a2)] := hl
  have g2 := jrg t2
  refine lv_iload_n hx hb dX12_tellsAs_0 rfl (lv_at hl 1 rfl) ?_
  refine lv_iconst (v := 4) hx hb dX12_tellsAs_1 (by decide) ?_
  refine lv_icmp_ne (tgt := 20) hx hb dX12_tellsAs_2 (by decide) (fun _ => ?_) (fun c => absurd c (by decide))
  refine lv_aload_n hx hb dX12_tellsAs_20 rfl (lv_at hl 0 rfl) ?_
  refine lv_iconst (v := 2) hx hb dX12_tellsAs_21 (by decide) ?_
  refine jcallVv (As := [.int 2]) (rest := []) ⟨hx, hb, hml, hown, hts⟩ hK hP hA hS hZ (c_X12_begins_2_1 l D cI cL ad zz hJ σ τ h55_55) cw_RX12_379 (jc_55 cI cL ad σ τ) rfl ⟨Nat.le_of_ble_eq_true rfl, Nat.le_of_ble_eq_true rfl⟩ rfl rfl rfl hl.1 rfl (Nat.le_of_ble_eq_true rfl) dX12_tellsAs_22 ⟨Nat.zero_le _, Nat.zero_le _⟩ (fun σ1 τ1 H locs h1 hP hS => ?_)
  obtain ⟨rfl, f3, f4, f5, m6, m7, h1⟩ := h1
  refine lv_aload_n hx hb dX12_tellsAs_25 rfl (lv_at hl 0 rfl) ?_
  refine lv_aload_n hx hb dX12_tellsAs_26 rfl (lv_at hl 0 rfl) ?_
  refine va_get (D := D) hx hb hts inlX12 hown hK hP 55 (jc_55 cI cL ad σ1 τ) rfl 56 (by decide) (hts _ kw_49_8) (fun _ h9 => h9) rfl dX12_tellsAs_27 ?_
  have m8 : σ1 55 56 = (σ 55 56) := (by rw [f4 56 (by omega)])
  refine jtopr m8 ?_
  refine jtopr (jsame (rfl : (σ 55 56).toInt = (σ 55 56).toInt) jz_4 (by omega)) ?_
  refine lv_iload_n hx hb dX12_tellsAs_30 rfl (lv_at hl 2 rfl) ?_
  have z9 : (σ1 55 56).toInt = (σ 55 56).toInt := by rw [(show σ1 55 56 = (σ 55 56) from m8)]
  refine jcallV (As := [.int 4, .int a2]) (rest := []) ⟨hx, hb, hml, hown, hts⟩ hK hP hA hS hZ (c_X12_holdsAs_4_4_2 l D cI cL ad zz hJ σ1 τ a2 (A2) t2 m6 (by omega)) cw_RX12_388 (jc_55 cI cL ad σ1 τ) rfl ⟨Nat.le_of_ble_eq_true rfl, Nat.le_of_ble_eq_true rfl⟩ rfl rfl rfl hl.1 rfl (Nat.le_of_ble_eq_true rfl) dX12_tellsAs_31 ⟨Nat.zero_le _, Nat.zero_le _⟩ (fun r11 σ10 τ10 H locs h10 hP hS => ?_)
  obtain ⟨rfl, f12, f13, f14, m15, m16, m17, m18, m19, h10⟩ := h10
  have h20 := h10
  obtain ⟨q22, k21⟩ := h20
  have q22 := q22.symm
  subst q22
  refine lv_istore_n (lv' := [(3, .int ((((a2 + 1) + (σ1 55 57)) + 3) * 2)), (0, .ref (ad 55)), (1, .int 1), (2, .int a2)]) hx hb dX12_tellsAs_34 rfl hl (by decide) rfl (fun ls hl => ?_)
  refine lv_iload_n hx hb dX12_tellsAs_35 rfl (lv_at hl 0 rfl) ?_
  refine lv_aload_n hx hb dX12_tellsAs_36 rfl (lv_at hl 1 rfl) ?_
  refine lv_aload_n hx hb dX12_tellsAs_37 rfl (lv_at hl 1 rfl) ?_
  refine va_get (D := D) hx hb hts inlX12 hown hK hP 55 (jc_55 cI cL ad σ10 τ) rfl 56 (by decide) (hts _ kw_49_8) (fun _ h9 => h9) rfl dX12_tellsAs_38 ?_
  have m23 : σ10 55 56 = (σ 55 56) := (by rw [f13 56 (by omega)]; exact m8)
  refine jtopr m23 ?_
  refine jtopr (jsame (rfl : (σ 55 56).toInt = (σ 55 56).toInt) jz_4 (by omega)) ?_
  refine lv_iconst (v := 1) hx hb dX12_tellsAs_41 (by decide) ?_
  have z24 : (σ10 55 56).toInt = (σ 55 56).toInt := by rw [(show σ10 55 56 = (σ 55 56) from m23)]
  refine jcallV (As := [.int 4, .int 1]) (rest := [.int ((((a2 + 1) + (σ1 55 57)) + 3) * 2)]) ⟨hx, hb, hml, hown, hts⟩ hK hP hA hS hZ (c_X12_givesAs_4_4_6_x1 l D cI cL ad zz hJ σ10 τ m15 (by omega)) cw_RX12_394 (jc_55 cI cL ad σ10 τ) rfl ⟨Nat.le_of_ble_eq_true rfl, Nat.le_of_ble_eq_true rfl⟩ rfl rfl rfl hl.1 rfl (Nat.le_of_ble_eq_true rfl) dX12_tellsAs_42 ⟨Nat.zero_le _, Nat.zero_le _⟩ (fun r26 σ25 τ25 H locs h25 hP hS => ?_)
  obtain ⟨rfl, f27, f28, f29, m30, m31, h25⟩ := h25
  have h32 := h25
  obtain ⟨q34, k33⟩ := h32
  have q34 := q34.symm
  subst q34
  have g35 := jrg (rfl : ((((a2 + 1) + (σ1 55 57)) + 3) * 2).toInt = ((((a2 + 1) + (σ1 55 57)) + 3) * 2).toInt)
  have g36 := jrg (rfl : (1 ^^^ (σ10 55 57)).toInt = (1 ^^^ (σ10 55 57)).toInt)
  refine lv_isub hx hb dX12_tellsAs_45 ?_
  refine lv_topi (fun x37 ex37 => ?_)
  have gx37 := jrg (rfl : x37.toInt = x37.toInt)
  have m38 : σ25 85 1 = 2 := (by rw [f29 1 (by omega)]; exact (by rw [f14 1 (by omega)]; exact m7))
  have m39 : σ25 85 2 = 10 := (by rw [f29 2 (by omega)]; exact m16)
  have m40 : σ25 85 3 = 50 := (by rw [f29 3 (by omega)]; exact m17)
  have m41 : σ25 85 4 = 20 := (by rw [f29 4 (by omega)]; exact m18)
  have m42 : σ25 85 5 = 1 := (by rw [f29 5 (by omega)]; exact m19)
  exact hret x37 σ25 τ _ _ _ _ rfl ⟨rfl, (fun i hi => by rw [f27 i (by omega), f12 i (by omega), f3 i (by omega)]), (fun k hk => by rw [f28 k (by omega), f13 k (by omega), f4 k (by omega)]), (fun k hk => by rw [f29 k (by omega), f14 k (by omega), f5 k (by omega)]), m30, m38, m39, m40, m41, m42, m31, ⟨(by rw [ex37, (show σ1 55 57 = σ 55 57 from (by rw [f4 57 (by omega)])), (show σ10 55 57 = σ 55 57 from (by rw [f13 57 (by omega), f4 57 (by omega)]))]), trivial⟩⟩ hP hS dX12_tellsAs_46
set_option maxHeartbeats 4000000 in
set_option maxRecDepth 100000 in
theorem c_X12_tellsAs_4_4_0 (l : Launch) (D : va_G) (cI cL : ClassId) (ad zz : Nat → Nat) (hJ : jD ad) (σ : Nat → Nat → Int32) (τ : Nat → Nat → Int64) (a2 : Int32) (A2 : Int) (t2 : a2.toInt = A2) (h55_55 : σ 55 55 = 0) (hp0 : (σ 55 56).toInt = 4) : jM l yX12_tellsAs cX12_tellsAs 4 (some .int) ({ frames := 6, cells := 0, slots := 0, locals := 133 }) D cI cL ad zz [.ref (ad 55), .int 4, .int a2] σ τ (fun r σ' τ' => τ = τ' ∧ (∀ i : Nat, (i < 55 ∨ 55 < i) ∧ (i < 85 ∨ 85 < i) → σ' i = σ i) ∧ (∀ k : Nat, (k < 55 ∨ 55 < k) → σ' 55 k = σ 55 k) ∧ (∀ k : Nat, (k < 0 ∨ 0 < k) ∧ (k < 1 ∨ 1 < k) ∧ (k < 2 ∨ 2 < k) ∧ (k < 3 ∨ 3 < k) ∧ (k < 4 ∨ 4 < k) ∧ (k < 5 ∨ 5 < k) ∧ (k < 6 ∨ 6 < k) → σ' 85 k = σ 85 k) ∧ (σ' 55 55 = 7) ∧ (σ' 85 0 = 51) ∧ (σ' 85 1 = 2) ∧ (σ' 85 2 = 10) ∧ (σ' 85 3 = 50) ∧ (σ' 85 4 = 20) ∧ (σ' 85 5 = 1) ∧ (σ' 85 6 = 11) ∧ ((r = ((((((a2 + 1) + (σ 55 57)) + 3) * 2) - (1 ^^^ (σ 55 57))) ^^^ 5) ∧ True))) := by
  refine jM.of hJ (by decide +kernel) (nt := .int) rfl (Nat.le_of_ble_eq_true rfl) ?_
  intro p e s m args below meth c Q ls hC hret hl hP
  obtain ⟨hx, hb, hr, hml, hown, hts, hK, -, hlocks, hZ⟩ := hC
  have hown : s.vm.findClass RX12 = some m.cls := hown
  have hS : va_S (jA ad) s.heap s.heap [] := va_S.rf
  have hA : ∀ q, jA ad q → jA ad q := fun _ h => h
  have hl : lv_has ls 4 [(0, .ref (ad 55)), (1, .int 4), (2, .int a2)] := hl
  have g2 := jrg t2
  refine lv_iload_n hx hb dX12_tellsAs_0 rfl (lv_at hl 1 rfl) ?_
  refine lv_iconst (v := 4) hx hb dX12_tellsAs_1 (by decide) ?_
  refine lv_icmp_ne (tgt := 20) hx hb dX12_tellsAs_2 (by decide) (fun c => absurd (by decide) c) (fun _ => ?_)
  refine lv_aload_n hx hb dX12_tellsAs_5 rfl (lv_at hl 0 rfl) ?_
  refine lv_bipush (v := 51) hx hb dX12_tellsAs_6 (by decide) ?_
  refine jcallVv (As := [.int 51]) (rest := []) ⟨hx, hb, hml, hown, hts⟩ hK hP hA hS hZ (c_X12_begins_51_0 l D cI cL ad zz hJ σ τ h55_55) cw_RX12_379 (jc_55 cI cL ad σ τ) rfl ⟨Nat.le_of_ble_eq_true rfl, Nat.le_of_ble_eq_true rfl⟩ rfl rfl rfl hl.1 rfl (Nat.le_of_ble_eq_true rfl) dX12_tellsAs_8 ⟨Nat.zero_le _, Nat.zero_le _⟩ (fun σ1 τ1 H locs h1 hP hS => ?_)
  obtain ⟨rfl, f3, f4, f5, m6, m7, h1⟩ := h1
  refine lv_aload_n hx hb dX12_tellsAs_11 rfl (lv_at hl 0 rfl) ?_
  refine lv_iconst (v := 1) hx hb dX12_tellsAs_12 (by decide) ?_
  refine lv_iload_n hx hb dX12_tellsAs_13 rfl (lv_at hl 2 rfl) ?_
  have z8 : (σ1 55 56).toInt = (σ 55 56).toInt := by rw [(show σ1 55 56 = (σ 55 56) from (by rw [f4 56 (by omega)]))]
  refine jcallV (As := [.int 1, .int a2]) (rest := []) ⟨hx, hb, hml, hown, hts⟩ hK hP hA hS hZ (c_X12_tellsAs_4_1_1 l D cI cL ad zz hJ σ1 τ a2 (A2) t2 m6 (by omega)) cw_RX12_397 (jc_55 cI cL ad σ1 τ) rfl ⟨Nat.le_of_ble_eq_true rfl, Nat.le_of_ble_eq_true rfl⟩ rfl rfl rfl hl.1 rfl (Nat.le_of_ble_eq_true rfl) dX12_tellsAs_14 ⟨Nat.zero_le _, Nat.zero_le _⟩ (fun r10 σ9 τ9 H locs h9 hP hS => ?_)
  obtain ⟨rfl, f11, f12, f13, m14, m15, m16, m17, m18, m19, m20, h9⟩ := h9
  have h21 := h9
  obtain ⟨q23, k22⟩ := h21
  have q23 := q23.symm
  subst q23
  refine lv_iconst (v := 5) hx hb dX12_tellsAs_17 (by decide) ?_
  refine lv_ixor hx hb dX12_tellsAs_18 ?_
  refine lv_topi (fun x24 ex24 => ?_)
  have gx24 := jrg (rfl : x24.toInt = x24.toInt)
  have m25 : σ9 85 0 = 51 := (by rw [f13 0 (by omega)]; exact m7)
  exact hret x24 σ9 τ _ _ _ _ rfl ⟨rfl, (fun i hi => by rw [f11 i (by omega), f3 i (by omega)]), (fun k hk => by rw [f12 k (by omega), f4 k (by omega)]), (fun k hk => by rw [f13 k (by omega), f5 k (by omega)]), m14, m25, m15, m16, m17, m18, m19, m20, ⟨(by rw [ex24, (show σ1 55 57 = σ 55 57 from (by rw [f4 57 (by omega)]))]), trivial⟩⟩ hP hS dX12_tellsAs_19
set_option maxHeartbeats 4000000 in
set_option maxRecDepth 100000 in
theorem c_X12_putsAs_5_5_0 (l : Launch) (D : va_G) (cI cL : ClassId) (ad zz : Nat → Nat) (hJ : jD ad) (σ : Nat → Nat → Int32) (τ : Nat → Nat → Int64) (a2 : Int32) (A2 : Int) (t2 : a2.toInt = A2) (h55_55 : σ 55 55 = 0) (hp0 : (σ 55 56).toInt = 5) : jM l yX12_putsAs cX12_putsAs 3 (some .int) ({ frames := 1, cells := 0, slots := 0, locals := 21 }) D cI cL ad zz [.ref (ad 55), .int 5, .int a2] σ τ (fun r σ' τ' => τ = τ' ∧ (∀ i : Nat, (i < 55 ∨ 55 < i) ∧ (i < 85 ∨ 85 < i) → σ' i = σ i) ∧ (∀ k : Nat, (k < 55 ∨ 55 < k) → σ' 55 k = σ 55 k) ∧ (∀ k : Nat, (k < 0 ∨ 0 < k) → σ' 85 k = σ 85 k) ∧ (σ' 55 55 = 1) ∧ (σ' 85 0 = 1) ∧ ((r = (a2 + (σ 55 57)) ∧ True))) := by
  refine jM.of hJ (by decide +kernel) (nt := .int) rfl (Nat.le_of_ble_eq_true rfl) ?_
  intro p e s m args below meth c Q ls hC hret hl hP
  obtain ⟨hx, hb, hr, hml, hown, hts, hK, -, hlocks, hZ⟩ := hC
  have hown : s.vm.findClass RX12 = some m.cls := hown
  have hS : va_S (jA ad) s.heap s.heap [] := va_S.rf
  have hA : ∀ q, jA ad q → jA ad q := fun _ h => h
  have hl : lv_has ls 3 [(0, .ref (ad 55)), (1, .int 5), (2, .int a2)] := hl
  have g2 := jrg t2
  refine lv_iload_n hx hb dX12_putsAs_0 rfl (lv_at hl 1 rfl) ?_
  refine lv_iconst (v := 4) hx hb dX12_putsAs_1 (by decide) ?_
  refine lv_icmp_ne (tgt := 20) hx hb dX12_putsAs_2 (by decide) (fun _ => ?_) (fun c => absurd c (by decide))
  refine lv_iload_n hx hb dX12_putsAs_20 rfl (lv_at hl 1 rfl) ?_
  refine lv_iconst (v := 1) hx hb dX12_putsAs_21 (by decide) ?_
  refine lv_icmp_ne (tgt := 40) hx hb dX12_putsAs_22 (by decide) (fun _ => ?_) (fun c => absurd c (by decide))
  refine lv_aload_n hx hb dX12_putsAs_40 rfl (lv_at hl 0 rfl) ?_
  refine lv_iconst (v := 1) hx hb dX12_putsAs_41 (by decide) ?_
  refine jcallVv (As := [.int 1]) (rest := []) ⟨hx, hb, hml, hown, hts⟩ hK hP hA hS hZ (c_X12_begins_1_0 l D cI cL ad zz hJ σ τ h55_55) cw_RX12_379 (jc_55 cI cL ad σ τ) rfl ⟨Nat.le_of_ble_eq_true rfl, Nat.le_of_ble_eq_true rfl⟩ rfl rfl rfl hl.1 rfl (Nat.le_of_ble_eq_true rfl) dX12_putsAs_42 ⟨Nat.zero_le _, Nat.zero_le _⟩ (fun σ1 τ1 H locs h1 hP hS => ?_)
  obtain ⟨rfl, f3, f4, f5, m6, m7, h1⟩ := h1
  refine lv_iload_n hx hb dX12_putsAs_45 rfl (lv_at hl 2 rfl) ?_
  refine lv_aload_n hx hb dX12_putsAs_46 rfl (lv_at hl 0 rfl) ?_
  refine va_get (D := D) hx hb hts inlX12 hown hK hP 55 (jc_55 cI cL ad σ1 τ) rfl 57 (by decide) (hts _ kw_49_9) (fun _ h9 => h9) rfl dX12_putsAs_47 ?_
  have m8 : σ1 55 57 = (σ 55 57) := (by rw [f4 57 (by omega)])
  refine jtopr m8 ?_
  have g9 := jrg (rfl : (σ 55 57).toInt = (σ 55 57).toInt)
  refine lv_iadd hx hb dX12_putsAs_50 ?_
  refine lv_topi (fun x10 ex10 => ?_)
  have gx10 := jrg (rfl : x10.toInt = x10.toInt)
  exact hret x10 σ1 τ _ _ _ _ rfl ⟨rfl, (fun i hi => by rw [f3 i (by omega)]), (fun k hk => by rw [f4 k (by omega)]), (fun k hk => by rw [f5 k (by omega)]), m6, m7, ⟨(by rw [ex10]), trivial⟩⟩ hP hS dX12_putsAs_51
set_option maxHeartbeats 4000000 in
set_option maxRecDepth 100000 in
theorem c_X12_putsAs_5_5_2 (l : Launch) (D : va_G) (cI cL : ClassId) (ad zz : Nat → Nat) (hJ : jD ad) (σ : Nat → Nat → Int32) (τ : Nat → Nat → Int64) (a2 : Int32) (A2 : Int) (t2 : a2.toInt = A2) (h55_55 : σ 55 55 = 2) (hp0 : (σ 55 56).toInt = 5) : jM l yX12_putsAs cX12_putsAs 3 (some .int) ({ frames := 1, cells := 0, slots := 0, locals := 21 }) D cI cL ad zz [.ref (ad 55), .int 5, .int a2] σ τ (fun r σ' τ' => τ = τ' ∧ (∀ i : Nat, (i < 55 ∨ 55 < i) ∧ (i < 85 ∨ 85 < i) → σ' i = σ i) ∧ (∀ k : Nat, (k < 55 ∨ 55 < k) → σ' 55 k = σ 55 k) ∧ (∀ k : Nat, (k < 2 ∨ 2 < k) → σ' 85 k = σ 85 k) ∧ (σ' 55 55 = 3) ∧ (σ' 85 2 = 1) ∧ ((r = (a2 + (σ 55 57)) ∧ True))) := by
  refine jM.of hJ (by decide +kernel) (nt := .int) rfl (Nat.le_of_ble_eq_true rfl) ?_
  intro p e s m args below meth c Q ls hC hret hl hP
  obtain ⟨hx, hb, hr, hml, hown, hts, hK, -, hlocks, hZ⟩ := hC
  have hown : s.vm.findClass RX12 = some m.cls := hown
  have hS : va_S (jA ad) s.heap s.heap [] := va_S.rf
  have hA : ∀ q, jA ad q → jA ad q := fun _ h => h
  have hl : lv_has ls 3 [(0, .ref (ad 55)), (1, .int 5), (2, .int a2)] := hl
  have g2 := jrg t2
  refine lv_iload_n hx hb dX12_putsAs_0 rfl (lv_at hl 1 rfl) ?_
  refine lv_iconst (v := 4) hx hb dX12_putsAs_1 (by decide) ?_
  refine lv_icmp_ne (tgt := 20) hx hb dX12_putsAs_2 (by decide) (fun _ => ?_) (fun c => absurd c (by decide))
  refine lv_iload_n hx hb dX12_putsAs_20 rfl (lv_at hl 1 rfl) ?_
  refine lv_iconst (v := 1) hx hb dX12_putsAs_21 (by decide) ?_
  refine lv_icmp_ne (tgt := 40) hx hb dX12_putsAs_22 (by decide) (fun _ => ?_) (fun c => absurd c (by decide))
  refine lv_aload_n hx hb dX12_putsAs_40 rfl (lv_at hl 0 rfl) ?_
  refine lv_iconst (v := 1) hx hb dX12_putsAs_41 (by decide) ?_
  refine jcallVv (As := [.int 1]) (rest := []) ⟨hx, hb, hml, hown, hts⟩ hK hP hA hS hZ (c_X12_begins_1_2 l D cI cL ad zz hJ σ τ h55_55) cw_RX12_379 (jc_55 cI cL ad σ τ) rfl ⟨Nat.le_of_ble_eq_true rfl, Nat.le_of_ble_eq_true rfl⟩ rfl rfl rfl hl.1 rfl (Nat.le_of_ble_eq_true rfl) dX12_putsAs_42 ⟨Nat.zero_le _, Nat.zero_le _⟩ (fun σ1 τ1 H locs h1 hP hS => ?_)
  obtain ⟨rfl, f3, f4, f5, m6, m7, h1⟩ := h1
  refine lv_iload_n hx hb dX12_putsAs_45 rfl (lv_at hl 2 rfl) ?_
  refine lv_aload_n hx hb dX12_putsAs_46 rfl (lv_at hl 0 rfl) ?_
  refine va_get (D := D) hx hb hts inlX12 hown hK hP 55 (jc_55 cI cL ad σ1 τ) rfl 57 (by decide) (hts _ kw_49_9) (fun _ h9 => h9) rfl dX12_putsAs_47 ?_
  have m8 : σ1 55 57 = (σ 55 57) := (by rw [f4 57 (by omega)])
  refine jtopr m8 ?_
  have g9 := jrg (rfl : (σ 55 57).toInt = (σ 55 57).toInt)
  refine lv_iadd hx hb dX12_putsAs_50 ?_
  refine lv_topi (fun x10 ex10 => ?_)
  have gx10 := jrg (rfl : x10.toInt = x10.toInt)
  exact hret x10 σ1 τ _ _ _ _ rfl ⟨rfl, (fun i hi => by rw [f3 i (by omega)]), (fun k hk => by rw [f4 k (by omega)]), (fun k hk => by rw [f5 k (by omega)]), m6, m7, ⟨(by rw [ex10]), trivial⟩⟩ hP hS dX12_putsAs_51
set_option maxHeartbeats 4000000 in
set_option maxRecDepth 100000 in
theorem c_X12_holdsAs_5_0_1 (l : Launch) (D : va_G) (cI cL : ClassId) (ad zz : Nat → Nat) (hJ : jD ad) (σ : Nat → Nat → Int32) (τ : Nat → Nat → Int64) (a2 : Int32) (A2 : Int) (t2 : a2.toInt = A2) (h55_55 : σ 55 55 = 1) (hp0 : (σ 55 56).toInt = 5) : jM l yX12_holdsAs cX12_holdsAs 4 (some .int) ({ frames := 2, cells := 0, slots := 0, locals := 43 }) D cI cL ad zz [.ref (ad 55), .int 0, .int a2] σ τ (fun r σ' τ' => τ = τ' ∧ (∀ i : Nat, (i < 55 ∨ 55 < i) ∧ (i < 85 ∨ 85 < i) → σ' i = σ i) ∧ (∀ k : Nat, (k < 55 ∨ 55 < k) → σ' 55 k = σ 55 k) ∧ (∀ k : Nat, (k < 1 ∨ 1 < k) ∧ (k < 2 ∨ 2 < k) → σ' 85 k = σ 85 k) ∧ (σ' 55 55 = 3) ∧ (σ' 85 1 = 10) ∧ (σ' 85 2 = 1) ∧ ((r = ((a2 + (σ 55 57)) * 2) ∧ True))) := by
  refine jM.of hJ (by decide +kernel) (nt := .int) rfl (Nat.le_of_ble_eq_true rfl) ?_
  intro p e s m args below meth c Q ls hC hret hl hP
  obtain ⟨hx, hb, hr, hml, hown, hts, hK, -, hlocks, hZ⟩ := hC
  have hown : s.vm.findClass RX12 = some m.cls := hown
  have hS : va_S (jA ad) s.heap s.heap [] := va_S.rf
  have hA : ∀ q, jA ad q → jA ad q := fun _ h => h
  have hl : lv_has ls 4 [(0, .ref (ad 55)), (1, .int 0), (2, .int a2)] := hl
  have g2 := jrg t2
  refine lv_iload_n hx hb dX12_holdsAs_0 rfl (lv_at hl 1 rfl) ?_
  refine lv_iconst (v := 3) hx hb dX12_holdsAs_1 (by decide) ?_
  refine lv_icmp_eq (tgt := 10) hx hb dX12_holdsAs_2 (by decide) (fun c => absurd c (by decide)) (fun _ => ?_)
  refine lv_iload_n hx hb dX12_holdsAs_5 rfl (lv_at hl 1 rfl) ?_
  refine lv_iconst (v := 5) hx hb dX12_holdsAs_6 (by decide) ?_
  refine lv_icmp_ne (tgt := 24) hx hb dX12_holdsAs_7 (by decide) (fun _ => ?_) (fun c => absurd c (by decide))
  refine lv_iload_n hx hb dX12_holdsAs_24 rfl (lv_at hl 1 rfl) ?_
  refine lv_bipush (v := 6) hx hb dX12_holdsAs_25 (by decide) ?_
  refine lv_icmp_ne (tgt := 55) hx hb dX12_holdsAs_27 (by decide) (fun _ => ?_) (fun c => absurd c (by decide))
  refine lv_aload_n hx hb dX12_holdsAs_55 rfl (lv_at hl 0 rfl) ?_
  refine lv_bipush (v := 10) hx hb dX12_holdsAs_56 (by decide) ?_
  refine jcallVv (As := [.int 10]) (rest := []) ⟨hx, hb, hml, hown, hts⟩ hK hP hA hS hZ (c_X12_begins_10_1 l D cI cL ad zz hJ σ τ h55_55) cw_RX12_379 (jc_55 cI cL ad σ τ) rfl ⟨Nat.le_of_ble_eq_true rfl, Nat.le_of_ble_eq_true rfl⟩ rfl rfl rfl hl.1 rfl (Nat.le_of_ble_eq_true rfl) dX12_holdsAs_58 ⟨Nat.zero_le _, Nat.zero_le _⟩ (fun σ1 τ1 H locs h1 hP hS => ?_)
  obtain ⟨rfl, f3, f4, f5, m6, m7, h1⟩ := h1
  refine lv_aload_n hx hb dX12_holdsAs_61 rfl (lv_at hl 0 rfl) ?_
  refine lv_aload_n hx hb dX12_holdsAs_62 rfl (lv_at hl 0 rfl) ?_
  refine va_get (D := D) hx hb hts inlX12 hown hK hP 55 (jc_55 cI cL ad σ1 τ) rfl 56 (by decide) (hts _ kw_49_8) (fun _ h9 => h9) rfl dX12_holdsAs_63 ?_
  have m8 : σ1 55 56 = (σ 55 56) := (by rw [f4 56 (by omega)])
  refine jtopr m8 ?_
  refine jtopr (jsame (rfl : (σ 55 56).toInt = (σ 55 56).toInt) jz_5 (by omega)) ?_
  refine lv_iload_n hx hb dX12_holdsAs_66 rfl (lv_at hl 2 rfl) ?_
  have z9 : (σ1 55 56).toInt = (σ 55 56).toInt := by rw [(show σ1 55 56 = (σ 55 56) from m8)]
  refine jcallV (As := [.int 5, .int a2]) (rest := []) ⟨hx, hb, hml, hown, hts⟩ hK hP hA hS hZ (c_X12_putsAs_5_5_2 l D cI cL ad zz hJ σ1 τ a2 (A2) t2 m6 (by omega)) cw_RX12_382 (jc_55 cI cL ad σ1 τ) rfl ⟨Nat.le_of_ble_eq_true rfl, Nat.le_of_ble_eq_true rfl⟩ rfl rfl rfl hl.1 rfl (Nat.le_of_ble_eq_true rfl) dX12_holdsAs_67 ⟨Nat.zero_le _, Nat.zero_le _⟩ (fun r11 σ10 τ10 H locs h10 hP hS => ?_)
  obtain ⟨rfl, f12, f13, f14, m15, m16, h10⟩ := h10
  have h17 := h10
  obtain ⟨q19, k18⟩ := h17
  have q19 := q19.symm
  subst q19
  refine lv_iconst (v := 2) hx hb dX12_holdsAs_70 (by decide) ?_
  have g20 := jrg (rfl : (a2 + (σ1 55 57)).toInt = (a2 + (σ1 55 57)).toInt)
  refine lv_imul hx hb dX12_holdsAs_71 ?_
  refine lv_topi (fun x21 ex21 => ?_)
  have gx21 := jrg (rfl : x21.toInt = x21.toInt)
  have m22 : σ10 85 1 = 10 := (by rw [f14 1 (by omega)]; exact m7)
  exact hret x21 σ10 τ _ _ _ _ rfl ⟨rfl, (fun i hi => by rw [f12 i (by omega), f3 i (by omega)]), (fun k hk => by rw [f13 k (by omega), f4 k (by omega)]), (fun k hk => by rw [f14 k (by omega), f5 k (by omega)]), m15, m22, m16, ⟨(by rw [ex21, (show σ1 55 57 = σ 55 57 from (by rw [f4 57 (by omega)]))]), trivial⟩⟩ hP hS dX12_holdsAs_72
set_option maxHeartbeats 4000000 in
set_option maxRecDepth 100000 in
theorem c_X12_holdsAs_5_5_0 (l : Launch) (D : va_G) (cI cL : ClassId) (ad zz : Nat → Nat) (hJ : jD ad) (σ : Nat → Nat → Int32) (τ : Nat → Nat → Int64) (a2 : Int32) (A2 : Int) (t2 : a2.toInt = A2) (h55_55 : σ 55 55 = 0) (hp0 : (σ 55 56).toInt = 5) : jM l yX12_holdsAs cX12_holdsAs 4 (some .int) ({ frames := 3, cells := 0, slots := 0, locals := 66 }) D cI cL ad zz [.ref (ad 55), .int 5, .int a2] σ τ (fun r σ' τ' => τ = τ' ∧ (∀ i : Nat, (i < 55 ∨ 55 < i) ∧ (i < 85 ∨ 85 < i) → σ' i = σ i) ∧ (∀ k : Nat, (k < 55 ∨ 55 < k) → σ' 55 k = σ 55 k) ∧ (∀ k : Nat, (k < 0 ∨ 0 < k) ∧ (k < 1 ∨ 1 < k) ∧ (k < 2 ∨ 2 < k) → σ' 85 k = σ 85 k) ∧ (σ' 55 55 = 3) ∧ (σ' 85 0 = 40) ∧ (σ' 85 1 = 10) ∧ (σ' 85 2 = 1) ∧ ((r = (-((a2 + (σ 55 57)) * 2)) ∧ True))) := by
  refine jM.of hJ (by decide +kernel) (nt := .int) rfl (Nat.le_of_ble_eq_true rfl) ?_
  intro p e s m args below meth c Q ls hC hret hl hP
  obtain ⟨hx, hb, hr, hml, hown, hts, hK, -, hlocks, hZ⟩ := hC
  have hown : s.vm.findClass RX12 = some m.cls := hown
  have hS : va_S (jA ad) s.heap s.heap [] := va_S.rf
  have hA : ∀ q, jA ad q → jA ad q := fun _ h => h
  have hl : lv_has ls 4 [(0, .ref (ad 55)), (1, .int 5), (2, .int a2)] := hl
  have g2 := jrg t2
  refine lv_iload_n hx hb dX12_holdsAs_0 rfl (lv_at hl 1 rfl) ?_
  refine lv_iconst (v := 3) hx hb dX12_holdsAs_1 (by decide) ?_
  refine lv_icmp_eq (tgt := 10) hx hb dX12_holdsAs_2 (by decide) (fun c => absurd c (by decide)) (fun _ => ?_)
  refine lv_iload_n hx hb dX12_holdsAs_5 rfl (lv_at hl 1 rfl) ?_
  refine lv_iconst (v := 5) hx hb dX12_holdsAs_6 (by decide) ?_
  refine lv_icmp_ne (tgt := 24) hx hb dX12_holdsAs_7 (by decide) (fun c => absurd (by decide) c) (fun _ => ?_)
  refine lv_aload_n hx hb dX12_holdsAs_10 rfl (lv_at hl 0 rfl) ?_
  refine lv_bipush (v := 40) hx hb dX12_holdsAs_11 (by decide) ?_
  refine jcallVv (As := [.int 40]) (rest := []) ⟨hx, hb, hml, hown, hts⟩ hK hP hA hS hZ (c_X12_begins_40_0 l D cI cL ad zz hJ σ τ h55_55) cw_RX12_379 (jc_55 cI cL ad σ τ) rfl ⟨Nat.le_of_ble_eq_true rfl, Nat.le_of_ble_eq_true rfl⟩ rfl rfl rfl hl.1 rfl (Nat.le_of_ble_eq_true rfl) dX12_holdsAs_13 ⟨Nat.zero_le _, Nat.zero_le _⟩ (fun σ1 τ1 H locs h1 hP hS => ?_)
  obtain ⟨rfl, f3, f4, f5, m6, m7, h1⟩ := h1
  refine lv_aload_n hx hb dX12_holdsAs_16 rfl (lv_at hl 0 rfl) ?_
  refine lv_iconst (v := 0) hx hb dX12_holdsAs_17 (by decide) ?_
  refine lv_iload_n hx hb dX12_holdsAs_18 rfl (lv_at hl 2 rfl) ?_
  have z8 : (σ1 55 56).toInt = (σ 55 56).toInt := by rw [(show σ1 55 56 = (σ 55 56) from (by rw [f4 56 (by omega)]))]
  refine jcallV (As := [.int 0, .int a2]) (rest := []) ⟨hx, hb, hml, hown, hts⟩ hK hP hA hS hZ (c_X12_holdsAs_5_0_1 l D cI cL ad zz hJ σ1 τ a2 (A2) t2 m6 (by omega)) cw_RX12_388 (jc_55 cI cL ad σ1 τ) rfl ⟨Nat.le_of_ble_eq_true rfl, Nat.le_of_ble_eq_true rfl⟩ rfl rfl rfl hl.1 rfl (Nat.le_of_ble_eq_true rfl) dX12_holdsAs_19 ⟨Nat.zero_le _, Nat.zero_le _⟩ (fun r10 σ9 τ9 H locs h9 hP hS => ?_)
  obtain ⟨rfl, f11, f12, f13, m14, m15, m16, h9⟩ := h9
  have h17 := h9
  obtain ⟨q19, k18⟩ := h17
  have q19 := q19.symm
  subst q19
  refine lv_ineg hx hb dX12_holdsAs_22 ?_
  refine lv_topi (fun x20 ex20 => ?_)
  have gx20 := jrg (rfl : x20.toInt = x20.toInt)
  have m21 : σ9 85 0 = 40 := (by rw [f13 0 (by omega)]; exact m7)
  exact hret x20 σ9 τ _ _ _ _ rfl ⟨rfl, (fun i hi => by rw [f11 i (by omega), f3 i (by omega)]), (fun k hk => by rw [f12 k (by omega), f4 k (by omega)]), (fun k hk => by rw [f13 k (by omega), f5 k (by omega)]), m14, m21, m15, m16, ⟨(by rw [ex20, (show σ1 55 57 = σ 55 57 from (by rw [f4 57 (by omega)]))]), trivial⟩⟩ hP hS dX12_holdsAs_23
set_option maxHeartbeats 4000000 in
set_option maxRecDepth 100000 in
theorem c_X12_begins_60_0 (l : Launch) (D : va_G) (cI cL : ClassId) (ad zz : Nat → Nat) (hJ : jD ad) (σ : Nat → Nat → Int32) (τ : Nat → Nat → Int64) (h55_55 : σ 55 55 = 0) : jMv l yX12_begins cX12_begins 2 none ({ frames := 0, cells := 0, slots := 0, locals := 0 }) D cI cL ad zz [.ref (ad 55), .int 60] σ τ (fun σ' τ' => τ = τ' ∧ (∀ i : Nat, (i < 55 ∨ 55 < i) ∧ (i < 85 ∨ 85 < i) → σ' i = σ i) ∧ (∀ k : Nat, (k < 55 ∨ 55 < k) → σ' 55 k = σ 55 k) ∧ (∀ k : Nat, (k < 0 ∨ 0 < k) → σ' 85 k = σ 85 k) ∧ (σ' 55 55 = 1) ∧ (σ' 85 0 = 60) ∧ True) := by
  refine jMv.of hJ (by decide +kernel) rfl (Nat.le_of_ble_eq_true rfl) ?_
  intro p e s m args below meth c Q ls hC hret hl hP
  obtain ⟨hx, hb, hr, hml, hown, hts, hK, -, hlocks, hZ⟩ := hC
  have hown : s.vm.findClass RX12 = some m.cls := hown
  have hS : va_S (jA ad) s.heap s.heap [] := va_S.rf
  have hA : ∀ q, jA ad q → jA ad q := fun _ h => h
  have hl : lv_has ls 2 [(0, .ref (ad 55)), (1, .int 60)] := hl
  refine lv_aload_n hx hb dX12_begins_0 rfl (lv_at hl 0 rfl) ?_
  refine va_get (D := D) hx hb hts inlX12 hown hK hP 55 (jc_55 cI cL ad σ τ) rfl 55 (by decide) (hts _ kw_49_7) (fun _ h9 => h9) rfl dX12_begins_1 ?_
  refine jtopr h55_55 ?_
  refine lv_bipush (v := 24) hx hb dX12_begins_4 (by decide) ?_
  refine lv_icmp_ge (tgt := 19) hx hb dX12_begins_6 (by decide) (fun c => absurd c (by decide)) (fun _ => ?_)
  refine lv_aload_n hx hb dX12_begins_9 rfl (lv_at hl 0 rfl) ?_
  refine va_get (D := D) hx hb hts inlX12 hown hK hP 55 (jc_55 cI cL ad σ τ) rfl 54 (by decide) (hts _ kw_8_10) (fun _ h9 => h9) rfl dX12_begins_10 ?_
  refine lv_aload_n hx hb dX12_begins_13 rfl (lv_at hl 0 rfl) ?_
  refine va_get (D := D) hx hb hts inlX12 hown hK hP 55 (jc_55 cI cL ad σ τ) rfl 55 (by decide) (hts _ kw_49_7) (fun _ h9 => h9) rfl dX12_begins_14 ?_
  refine jtopr h55_55 ?_
  refine lv_iload_n hx hb dX12_begins_17 rfl (lv_at hl 1 rfl) ?_
  refine jast hx hb hK hP hJ hA hS (jc_85 cI cL ad σ τ) (ja_85 cI cL ad σ τ _ _) (jin jz_0 (by omega) (by omega)) dX12_begins_18 (fun σ1 H locs eσ1 hP hS => ?_)
  have eσ1 : σ1 = jup σ 85 0 60 := eσ1
  refine lv_aload_n hx hb dX12_begins_19 rfl (lv_at hl 0 rfl) ?_
  refine lv_dup hx hb dX12_begins_20 rfl ?_
  refine va_get (D := D) hx hb hts inlX12 hown hK hP 55 (jc_55 cI cL ad σ1 τ) rfl 55 (by decide) (hts _ kw_49_7) (fun _ h9 => h9) rfl dX12_begins_21 ?_
  have m2 : σ1 55 55 = 0 := (by rw [eσ1, jup_n (by decide)]; exact h55_55)
  refine jtopr m2 ?_
  refine lv_iconst (v := 1) hx hb dX12_begins_24 (by decide) ?_
  refine lv_iadd hx hb dX12_begins_25 ?_
  refine jtopr (y := 1) (by decide) ?_
  refine jput (ty := .int) hx hb hts inlX12 tyX12 tyX12_ok nmX12 hown hK hP hJ hA hS (jc_55 cI cL ad σ1 τ) rfl (k := 55) (by decide) (Nat.le_of_ble_eq_true rfl) (jp_55_55 cI cL ad σ1 τ 1) (hts _ kw_49_7) (fun _ h9 => h9) rfl (by decide +kernel) rfl rfl dX12_begins_26 (fun σ3 H locs eσ3 hP hS => ?_)
  have m4 : σ3 55 55 = 1 := (by rw [eσ3]; exact jup_s)
  have m5 : σ3 85 0 = 60 := (by rw [eσ3, jup_n (by decide)]; exact (by rw [eσ1]; exact jup_s))
  exact hret σ3 τ _ _ _ _ ⟨rfl, (fun i hi => by rw [eσ3, jup_n (by omega), eσ1, jup_n (by omega)]), (fun k hk => by rw [eσ3, jup_k (by omega), eσ1, jup_n (by decide)]), (fun k hk => by rw [eσ3, jup_n (by decide), eσ1, jup_k (by omega)]), m4, m5, trivial⟩ hP hS dX12_begins_29
set_option maxHeartbeats 4000000 in
set_option maxRecDepth 100000 in
theorem c_X12_begins_30_1 (l : Launch) (D : va_G) (cI cL : ClassId) (ad zz : Nat → Nat) (hJ : jD ad) (σ : Nat → Nat → Int32) (τ : Nat → Nat → Int64) (h55_55 : σ 55 55 = 1) : jMv l yX12_begins cX12_begins 2 none ({ frames := 0, cells := 0, slots := 0, locals := 0 }) D cI cL ad zz [.ref (ad 55), .int 30] σ τ (fun σ' τ' => τ = τ' ∧ (∀ i : Nat, (i < 55 ∨ 55 < i) ∧ (i < 85 ∨ 85 < i) → σ' i = σ i) ∧ (∀ k : Nat, (k < 55 ∨ 55 < k) → σ' 55 k = σ 55 k) ∧ (∀ k : Nat, (k < 1 ∨ 1 < k) → σ' 85 k = σ 85 k) ∧ (σ' 55 55 = 2) ∧ (σ' 85 1 = 30) ∧ True) := by
  refine jMv.of hJ (by decide +kernel) rfl (Nat.le_of_ble_eq_true rfl) ?_
  intro p e s m args below meth c Q ls hC hret hl hP
  obtain ⟨hx, hb, hr, hml, hown, hts, hK, -, hlocks, hZ⟩ := hC
  have hown : s.vm.findClass RX12 = some m.cls := hown
  have hS : va_S (jA ad) s.heap s.heap [] := va_S.rf
  have hA : ∀ q, jA ad q → jA ad q := fun _ h => h
  have hl : lv_has ls 2 [(0, .ref (ad 55)), (1, .int 30)] := hl
  refine lv_aload_n hx hb dX12_begins_0 rfl (lv_at hl 0 rfl) ?_
  refine va_get (D := D) hx hb hts inlX12 hown hK hP 55 (jc_55 cI cL ad σ τ) rfl 55 (by decide) (hts _ kw_49_7) (fun _ h9 => h9) rfl dX12_begins_1 ?_
  refine jtopr h55_55 ?_
  refine lv_bipush (v := 24) hx hb dX12_begins_4 (by decide) ?_
  refine lv_icmp_ge (tgt := 19) hx hb dX12_begins_6 (by decide) (fun c => absurd c (by decide)) (fun _ => ?_)
  refine lv_aload_n hx hb dX12_begins_9 rfl (lv_at hl 0 rfl) ?_
  refine va_get (D := D) hx hb hts inlX12 hown hK hP 55 (jc_55 cI cL ad σ τ) rfl 54 (by decide) (hts _ kw_8_10) (fun _ h9 => h9) rfl dX12_begins_10 ?_
  refine lv_aload_n hx hb dX12_begins_13 rfl (lv_at hl 0 rfl) ?_
  refine va_get (D := D) hx hb hts inlX12 hown hK hP 55 (jc_55 cI cL ad σ τ) rfl 55 (by decide) (hts _ kw_49_7) (fun _ h9 => h9) rfl dX12_begins_14 ?_
  refine jtopr h55_55 ?_
  refine lv_iload_n hx hb dX12_begins_17 rfl (lv_at hl 1 rfl) ?_
  refine jast hx hb hK hP hJ hA hS (jc_85 cI cL ad σ τ) (ja_85 cI cL ad σ τ _ _) (jin jz_1 (by omega) (by omega)) dX12_begins_18 (fun σ1 H locs eσ1 hP hS => ?_)
  have eσ1 : σ1 = jup σ 85 1 30 := eσ1
  refine lv_aload_n hx hb dX12_begins_19 rfl (lv_at hl 0 rfl) ?_
  refine lv_dup hx hb dX12_begins_20 rfl ?_
  refine va_get (D := D) hx hb hts inlX12 hown hK hP 55 (jc_55 cI cL ad σ1 τ) rfl 55 (by decide) (hts _ kw_49_7) (fun _ h9 => h9) rfl dX12_begins_21 ?_
  have m2 : σ1 55 55 = 1 := (by rw [eσ1, jup_n (by decide)]; exact h55_55)
  refine jtopr m2 ?_
  refine lv_iconst (v := 1) hx hb dX12_begins_24 (by decide) ?_
  refine lv_iadd hx hb dX12_begins_25 ?_
  refine jtopr (y := 2) (by decide) ?_
  refine jput (ty := .int) hx hb hts inlX12 tyX12 tyX12_ok nmX12 hown hK hP hJ hA hS (jc_55 cI cL ad σ1 τ) rfl (k := 55) (by decide) (Nat.le_of_ble_eq_true rfl) (jp_55_55 cI cL ad σ1 τ 2) (hts _ kw_49_7) (fun _ h9 => h9) rfl (by decide +kernel) rfl rfl dX12_begins_26 (fun σ3 H locs eσ3 hP hS => ?_)
  have m4 : σ3 55 55 = 2 := (by rw [eσ3]; exact jup_s)
  have m5 : σ3 85 1 = 30 := (by rw [eσ3, jup_n (by decide)]; exact (by rw [eσ1]; exact jup_s))
  exact hret σ3 τ _ _ _ _ ⟨rfl, (fun i hi => by rw [eσ3, jup_n (by omega), eσ1, jup_n (by omega)]), (fun k hk => by rw [eσ3, jup_k (by omega), eσ1, jup_n (by decide)]), (fun k hk => by rw [eσ3, jup_n (by decide), eσ1, jup_k (by omega)]), m4, m5, trivial⟩ hP hS dX12_begins_29
set_option maxHeartbeats 4000000 in
set_option maxRecDepth 100000 in
theorem c_X12_begins_11_2 (l : Launch) (D : va_G) (cI cL : ClassId) (ad zz : Nat → Nat) (hJ : jD ad) (σ : Nat → Nat → Int32) (τ : Nat → Nat → Int64) (h55_55 : σ 55 55 = 2) : jMv l yX12_begins cX12_begins 2 none ({ frames := 0, cells := 0, slots := 0, locals := 0 }) D cI cL ad zz [.ref (ad 55), .int 11] σ τ (fun σ' τ' => τ = τ' ∧ (∀ i : Nat, (i < 55 ∨ 55 < i) ∧ (i < 85 ∨ 85 < i) → σ' i = σ i) ∧ (∀ k : Nat, (k < 55 ∨ 55 < k) → σ' 55 k = σ 55 k) ∧ (∀ k : Nat, (k < 2 ∨ 2 < k) → σ' 85 k = σ 85 k) ∧ (σ' 55 55 = 3) ∧ (σ' 85 2 = 11) ∧ True) := by
  refine jMv.of hJ (by decide +kernel) rfl (Nat.le_of_ble_eq_true rfl) ?_
  intro p e s m args below meth c Q ls hC hret hl hP
  obtain ⟨hx, hb, hr, hml, hown, hts, hK, -, hlocks, hZ⟩ := hC
  have hown : s.vm.findClass RX12 = some m.cls := hown
  have hS : va_S (jA ad) s.heap s.heap [] := va_S.rf
  have hA : ∀ q, jA ad q → jA ad q := fun _ h => h
  have hl : lv_has ls 2 [(0, .ref (ad 55)), (1, .int 11)] := hl
  refine lv_aload_n hx hb dX12_begins_0 rfl (lv_at hl 0 rfl) ?_
  refine va_get (D := D) hx hb hts inlX12 hown hK hP 55 (jc_55 cI cL ad σ τ) rfl 55 (by decide) (hts _ kw_49_7) (fun _ h9 => h9) rfl dX12_begins_1 ?_
  refine jtopr h55_55 ?_
  refine lv_bipush (v := 24) hx hb dX12_begins_4 (by decide) ?_
  refine lv_icmp_ge (tgt := 19) hx hb dX12_begins_6 (by decide) (fun c => absurd c (by decide)) (fun _ => ?_)
  refine lv_aload_n hx hb dX12_begins_9 rfl (lv_at hl 0 rfl) ?_
  refine va_get (D := D) hx hb hts inlX12 hown hK hP 55 (jc_55 cI cL ad σ τ) rfl 54 (by decide) (hts _ kw_8_10) (fun _ h9 => h9) rfl dX12_begins_10 ?_
  refine lv_aload_n hx hb dX12_begins_13 rfl (lv_at hl 0 rfl) ?_
  refine va_get (D := D) hx hb hts inlX12 hown hK hP 55 (jc_55 cI cL ad σ τ) rfl 55 (by decide) (hts _ kw_49_7) (fun _ h9 => h9) rfl dX12_begins_14 ?_
  refine jtopr h55_55 ?_
  refine lv_iload_n hx hb dX12_begins_17 rfl (lv_at hl 1 rfl) ?_
  refine jast hx hb hK hP hJ hA hS (jc_85 cI cL ad σ τ) (ja_85 cI cL ad σ τ _ _) (jin jz_2 (by omega) (by omega)) dX12_begins_18 (fun σ1 H locs eσ1 hP hS => ?_)
  have eσ1 : σ1 = jup σ 85 2 11 := eσ1
  refine lv_aload_n hx hb dX12_begins_19 rfl (lv_at hl 0 rfl) ?_
  refine lv_dup hx hb dX12_begins_20 rfl ?_
  refine va_get (D := D) hx hb hts inlX12 hown hK hP 55 (jc_55 cI cL ad σ1 τ) rfl 55 (by decide) (hts _ kw_49_7) (fun _ h9 => h9) rfl dX12_begins_21 ?_
  have m2 : σ1 55 55 = 2 := (by rw [eσ1, jup_n (by decide)]; exact h55_55)
  refine jtopr m2 ?_
  refine lv_iconst (v := 1) hx hb dX12_begins_24 (by decide) ?_
  refine lv_iadd hx hb dX12_begins_25 ?_
  refine jtopr (y := 3) (by decide) ?_
  refine jput (ty := .int) hx hb hts inlX12 tyX12 tyX12_ok nmX12 hown hK hP hJ hA hS (jc_55 cI cL ad σ1 τ) rfl (k := 55) (by decide) (Nat.le_of_ble_eq_true rfl) (jp_55_55 cI cL ad σ1 τ 3) (hts _ kw_49_7) (fun _ h9 => h9) rfl (by decide +kernel) rfl rfl dX12_begins_26 (fun σ3 H locs eσ3 hP hS => ?_)
  have m4 : σ3 55 55 = 3 := (by rw [eσ3]; exact jup_s)
  have m5 : σ3 85 2 = 11 := (by rw [eσ3, jup_n (by decide)]; exact (by rw [eσ1]; exact jup_s))
  exact hret σ3 τ _ _ _ _ ⟨rfl, (fun i hi => by rw [eσ3, jup_n (by omega), eσ1, jup_n (by omega)]), (fun k hk => by rw [eσ3, jup_k (by omega), eσ1, jup_n (by decide)]), (fun k hk => by rw [eσ3, jup_n (by decide), eσ1, jup_k (by omega)]), m4, m5, trivial⟩ hP hS dX12_begins_29
set_option maxHeartbeats 4000000 in
set_option maxRecDepth 100000 in
theorem c_X12_givesAs_5_0_2 (l : Launch) (D : va_G) (cI cL : ClassId) (ad zz : Nat → Nat) (hJ : jD ad) (σ : Nat → Nat → Int32) (τ : Nat → Nat → Int64) (a2 : Int32) (A2 : Int) (t2 : a2.toInt = A2) (h55_55 : σ 55 55 = 2) (hp0 : (σ 55 56).toInt = 5) : jM l yX12_givesAs cX12_givesAs 4 (some .int) ({ frames := 1, cells := 0, slots := 0, locals := 21 }) D cI cL ad zz [.ref (ad 55), .int 0, .int a2] σ τ (fun r σ' τ' => τ = τ' ∧ (∀ i : Nat, (i < 55 ∨ 55 < i) ∧ (i < 85 ∨ 85 < i) → σ' i = σ i) ∧ (∀ k : Nat, (k < 55 ∨ 55 < k) → σ' 55 k = σ 55 k) ∧ (∀ k : Nat, (k < 2 ∨ 2 < k) → σ' 85 k = σ 85 k) ∧ (σ' 55 55 = 3) ∧ (σ' 85 2 = 11) ∧ ((r = (a2 ^^^ (σ 55 57)) ∧ True))) := by
  refine jM.of hJ (by decide +kernel) (nt := .int) rfl (Nat.le_of_ble_eq_true rfl) ?_
  intro p e s m args below meth c Q ls hC hret hl hP
  obtain ⟨hx, hb, hr, hml, hown, hts, hK, -, hlocks, hZ⟩ := hC
  have hown : s.vm.findClass RX12 = some m.cls := hown
  have hS : va_S (jA ad) s.heap s.heap [] := va_S.rf
  have hA : ∀ q, jA ad q → jA ad q := fun _ h => h
  have hl : lv_has ls 4 [(0, .ref (ad 55)), (1, .int 0), (2, .int a2)] := hl
  have g2 := jrg t2
  refine lv_iload_n hx hb dX12_givesAs_0 rfl (lv_at hl 1 rfl) ?_
  refine lv_iconst (v := 5) hx hb dX12_givesAs_1 (by decide) ?_
  refine lv_icmp_ne (tgt := 30) hx hb dX12_givesAs_2 (by decide) (fun _ => ?_) (fun c => absurd c (by decide))
  refine lv_iload_n hx hb dX12_givesAs_30 rfl (lv_at hl 1 rfl) ?_
  refine lv_iconst (v := 2) hx hb dX12_givesAs_31 (by decide) ?_
  refine lv_icmp_eq (tgt := 40) hx hb dX12_givesAs_32 (by decide) (fun c => absurd c (by decide)) (fun _ => ?_)
  refine lv_iload_n hx hb dX12_givesAs_35 rfl (lv_at hl 1 rfl) ?_
  refine lv_iconst (v := 3) hx hb dX12_givesAs_36 (by decide) ?_
  refine lv_icmp_ne (tgt := 55) hx hb dX12_givesAs_37 (by decide) (fun _ => ?_) (fun c => absurd c (by decide))
  refine lv_aload_n hx hb dX12_givesAs_55 rfl (lv_at hl 0 rfl) ?_
  refine lv_bipush (v := 11) hx hb dX12_givesAs_56 (by decide) ?_
  refine jcallVv (As := [.int 11]) (rest := []) ⟨hx, hb, hml, hown, hts⟩ hK hP hA hS hZ (c_X12_begins_11_2 l D cI cL ad zz hJ σ τ h55_55) cw_RX12_379 (jc_55 cI cL ad σ τ) rfl ⟨Nat.le_of_ble_eq_true rfl, Nat.le_of_ble_eq_true rfl⟩ rfl rfl rfl hl.1 rfl (Nat.le_of_ble_eq_true rfl) dX12_givesAs_58 ⟨Nat.zero_le _, Nat.zero_le _⟩ (fun σ1 τ1 H locs h1 hP hS => ?_)
  obtain ⟨rfl, f3, f4, f5, m6, m7, h1⟩ := h1
  refine lv_iload_n hx hb dX12_givesAs_61 rfl (lv_at hl 2 rfl) ?_
  refine lv_aload_n hx hb dX12_givesAs_62 rfl (lv_at hl 0 rfl) ?_
  refine va_get (D := D) hx hb hts inlX12 hown hK hP 55 (jc_55 cI cL ad σ1 τ) rfl 57 (by decide) (hts _ kw_49_9) (fun _ h9 => h9) rfl dX12_givesAs_63 ?_
  have m8 : σ1 55 57 = (σ 55 57) := (by rw [f4 57 (by omega)])
  refine jtopr m8 ?_
  refine lv_ixor hx hb dX12_givesAs_66 ?_
  refine lv_topi (fun x9 ex9 => ?_)
  have gx9 := jrg (rfl : x9.toInt = x9.toInt)
  exact hret x9 σ1 τ _ _ _ _ rfl ⟨rfl, (fun i hi => by rw [f3 i (by omega)]), (fun k hk => by rw [f4 k (by omega)]), (fun k hk => by rw [f5 k (by omega)]), m6, m7, ⟨(by rw [ex9]), trivial⟩⟩ hP hS dX12_givesAs_67
set_option maxHeartbeats 4000000 in
set_option maxRecDepth 100000 in
theorem c_X12_givesAs_5_3_1 (l : Launch) (D : va_G) (cI cL : ClassId) (ad zz : Nat → Nat) (hJ : jD ad) (σ : Nat → Nat → Int32) (τ : Nat → Nat → Int64) (a2 : Int32) (A2 : Int) (t2 : a2.toInt = A2) (h55_55 : σ 55 55 = 1) (hp0 : (σ 55 56).toInt = 5) : jM l yX12_givesAs cX12_givesAs 4 (some .int) ({ frames := 2, cells := 0, slots := 0, locals := 44 }) D cI cL ad zz [.ref (ad 55), .int 3, .int a2] σ τ (fun r σ' τ' => τ = τ' ∧ (∀ i : Nat, (i < 55 ∨ 55 < i) ∧ (i < 85 ∨ 85 < i) → σ' i = σ i) ∧ (∀ k : Nat, (k < 55 ∨ 55 < k) → σ' 55 k = σ 55 k) ∧ (∀ k : Nat, (k < 1 ∨ 1 < k) ∧ (k < 2 ∨ 2 < k) → σ' 85 k = σ 85 k) ∧ (σ' 55 55 = 3) ∧ (σ' 85 1 = 30) ∧ (σ' 85 2 = 11) ∧ ((r = ((a2 ^^^ (σ 55 57)) * 3) ∧ True))) := by
  refine jM.of hJ (by decide +kernel) (nt := .int) rfl (Nat.le_of_ble_eq_true rfl) ?_
  intro p e s m args below meth c Q ls hC hret hl hP
  obtain ⟨hx, hb, hr, hml, hown, hts, hK, -, hlocks, hZ⟩ := hC
  have hown : s.vm.findClass RX12 = some m.cls := hown
  have hS : va_S (jA ad) s.heap s.heap [] := va_S.rf
  have hA : ∀ q, jA ad q → jA ad q := fun _ h => h
  have hl : lv_has ls 4 [(0, .ref (ad 55)), (1, .int 3), (2, .int a2)] := hl
  have g2 := jrg t2
  refine lv_iload_n hx hb dX12_givesAs_0 rfl (lv_at hl 1 rfl) ?_
  refine lv_iconst (v := 5) hx hb dX12_givesAs_1 (by decide) ?_
  refine lv_icmp_ne (tgt := 30) hx hb dX12_givesAs_2 (by decide) (fun _ => ?_) (fun c => absurd c (by decide))
  refine lv_iload_n hx hb dX12_givesAs_30 rfl (lv_at hl 1 rfl) ?_
  refine lv_iconst (v := 2) hx hb dX12_givesAs_31 (by decide) ?_
  refine lv_icmp_eq (tgt := 40) hx hb dX12_givesAs_32 (by decide) (fun c => absurd c (by decide)) (fun _ => ?_)
  refine lv_iload_n hx hb dX12_givesAs_35 rfl (lv_at hl 1 rfl) ?_
  refine lv_iconst (v := 3) hx hb dX12_givesAs_36 (by decide) ?_
  refine lv_icmp_ne (tgt := 55) hx hb dX12_givesAs_37 (by decide) (fun c => absurd (by decide) c) (fun _ => ?_)
  refine lv_aload_n hx hb dX12_givesAs_40 rfl (lv_at hl 0 rfl) ?_
  refine lv_bipush (v := 30) hx hb dX12_givesAs_41 (by decide) ?_
  refine jcallVv (As := [.int 30]) (rest := []) ⟨hx, hb, hml, hown, hts⟩ hK hP hA hS hZ (c_X12_begins_30_1 l D cI cL ad zz hJ σ τ h55_55) cw_RX12_379 (jc_55 cI cL ad σ τ) rfl ⟨Nat.le_of_ble_eq_true rfl, Nat.le_of_ble_eq_true rfl⟩ rfl rfl rfl hl.1 rfl (Nat.le_of_ble_eq_true rfl) dX12_givesAs_43 ⟨Nat.zero_le _, Nat.zero_le _⟩ (fun σ1 τ1 H locs h1 hP hS => ?_)
  obtain ⟨rfl, f3, f4, f5, m6, m7, h1⟩ := h1
  refine lv_aload_n hx hb dX12_givesAs_46 rfl (lv_at hl 0 rfl) ?_
  refine lv_iconst (v := 0) hx hb dX12_givesAs_47 (by decide) ?_
  refine lv_iload_n hx hb dX12_givesAs_48 rfl (lv_at hl 2 rfl) ?_
  have z8 : (σ1 55 56).toInt = (σ 55 56).toInt := by rw [(show σ1 55 56 = (σ 55 56) from (by rw [f4 56 (by omega)]))]
  refine jcallV (As := [.int 0, .int a2]) (rest := []) ⟨hx, hb, hml, hown, hts⟩ hK hP hA hS hZ (c_X12_givesAs_5_0_2 l D cI cL ad zz hJ σ1 τ a2 (A2) t2 m6 (by omega)) cw_RX12_394 (jc_55 cI cL ad σ1 τ) rfl ⟨Nat.le_of_ble_eq_true rfl, Nat.le_of_ble_eq_true rfl⟩ rfl rfl rfl hl.1 rfl (Nat.le_of_ble_eq_true rfl) dX12_givesAs_49 ⟨Nat.zero_le _, Nat.zero_le _⟩ (fun r10 σ9 τ9 H locs h9 hP hS => ?_)
  obtain ⟨rfl, f11, f12, f13, m14, m15, h9⟩ := h9
  have h16 := h9
  obtain ⟨q18, k17⟩ := h16
  have q18 := q18.symm
  subst q18
  refine lv_iconst (v := 3) hx hb dX12_givesAs_52 (by decide) ?_
  have g19 := jrg (rfl : (a2 ^^^ (σ1 55 57)).toInt = (a2 ^^^ (σ1 55 57)).toInt)
  refine lv_imul hx hb dX12_givesAs_53 ?_
  refine lv_topi (fun x20 ex20 => ?_)
  have gx20 := jrg (rfl : x20.toInt = x20.toInt)
  have m21 : σ9 85 1 = 30 := (by rw [f13 1 (by omega)]; exact m7)
  exact hret x20 σ9 τ _ _ _ _ rfl ⟨rfl, (fun i hi => by rw [f11 i (by omega), f3 i (by omega)]), (fun k hk => by rw [f12 k (by omega), f4 k (by omega)]), (fun k hk => by rw [f13 k (by omega), f5 k (by omega)]), m14, m21, m15, ⟨(by rw [ex20, (show σ1 55 57 = σ 55 57 from (by rw [f4 57 (by omega)]))]), trivial⟩⟩ hP hS dX12_givesAs_54
set_option maxHeartbeats 4000000 in
set_option maxRecDepth 100000 in
theorem c_X12_putsAs_5_5_3_x2 (l : Launch) (D : va_G) (cI cL : ClassId) (ad zz : Nat → Nat) (hJ : jD ad) (σ : Nat → Nat → Int32) (τ : Nat → Nat → Int64) (h55_55 : σ 55 55 = 3) (hp0 : (σ 55 56).toInt = 5) : jM l yX12_putsAs cX12_putsAs 3 (some .int) ({ frames := 1, cells := 0, slots := 0, locals := 21 }) D cI cL ad zz [.ref (ad 55), .int 5, .int 2] σ τ (fun r σ' τ' => τ = τ' ∧ (∀ i : Nat, (i < 55 ∨ 55 < i) ∧ (i < 85 ∨ 85 < i) → σ' i = σ i) ∧ (∀ k : Nat, (k < 55 ∨ 55 < k) → σ' 55 k = σ 55 k) ∧ (∀ k : Nat, (k < 3 ∨ 3 < k) → σ' 85 k = σ 85 k) ∧ (σ' 55 55 = 4) ∧ (σ' 85 3 = 1) ∧ ((r = (2 + (σ 55 57)) ∧ True))) := by
  refine jM.of hJ (by decide +kernel) (nt := .int) rfl (Nat.le_of_ble_eq_true rfl) ?_
  intro p e s m args below meth c Q ls hC hret hl hP
  obtain ⟨hx, hb, hr, hml, hown, hts, hK, -, hlocks, hZ⟩ := hC
  have hown : s.vm.findClass RX12 = some m.cls := hown
  have hS : va_S (jA ad) s.heap s.heap [] := va_S.rf
  have hA : ∀ q, jA ad q → jA ad q := fun _ h => h
  have hl : lv_has ls 3 [(0, .ref (ad 55)), (1, .int 5), (2, .int 2)] := hl
  refine lv_iload_n hx hb dX12_putsAs_0 rfl (lv_at hl 1 rfl) ?_
  refine lv_iconst (v := 4) hx hb dX12_putsAs_1 (by decide) ?_
  refine lv_icmp_ne (tgt := 20) hx hb dX12_putsAs_2 (by decide) (fun _ => ?_) (fun c => absurd c (by decide))
  refine lv_iload_n hx hb dX12_putsAs_20 rfl (lv_at hl 1 rfl) ?_
  refine lv_iconst (v := 1) hx hb dX12_putsAs_21 (by decide) ?_
  refine lv_icmp_ne (tgt := 40) hx hb dX12_putsAs_22 (by decide) (fun _ => ?_) (fun c => absurd c (by decide))
  refine lv_aload_n hx hb dX12_putsAs_40 rfl (lv_at hl 0 rfl) ?_
  refine lv_iconst (v := 1) hx hb dX12_putsAs_41 (by decide) ?_
  refine jcallVv (As := [.int 1]) (rest := []) ⟨hx, hb, hml, hown, hts⟩ hK hP hA hS hZ (c_X12_begins_1_3 l D cI cL ad zz hJ σ τ h55_55) cw_RX12_379 (jc_55 cI cL ad σ τ) rfl ⟨Nat.le_of_ble_eq_true rfl, Nat.le_of_ble_eq_true rfl⟩ rfl rfl rfl hl.1 rfl (Nat.le_of_ble_eq_true rfl) dX12_putsAs_42 ⟨Nat.zero_le _, Nat.zero_le _⟩ (fun σ1 τ1 H locs h1 hP hS => ?_)
  obtain ⟨rfl, f3, f4, f5, m6, m7, h1⟩ := h1
  refine lv_iload_n hx hb dX12_putsAs_45 rfl (lv_at hl 2 rfl) ?_
  refine lv_aload_n hx hb dX12_putsAs_46 rfl (lv_at hl 0 rfl) ?_
  refine va_get (D := D) hx hb hts inlX12 hown hK hP 55 (jc_55 cI cL ad σ1 τ) rfl 57 (by decide) (hts _ kw_49_9) (fun _ h9 => h9) rfl dX12_putsAs_47 ?_
  have m8 : σ1 55 57 = (σ 55 57) := (by rw [f4 57 (by omega)])
  refine jtopr m8 ?_
  have g9 := jrg (rfl : (σ 55 57).toInt = (σ 55 57).toInt)
  refine lv_iadd hx hb dX12_putsAs_50 ?_
  refine lv_topi (fun x10 ex10 => ?_)
  have gx10 := jrg (rfl : x10.toInt = x10.toInt)
  exact hret x10 σ1 τ _ _ _ _ rfl ⟨rfl, (fun i hi => by rw [f3 i (by omega)]), (fun k hk => by rw [f4 k (by omega)]), (fun k hk => by rw [f5 k (by omega)]), m6, m7, ⟨(by rw [ex10]), trivial⟩⟩ hP hS dX12_putsAs_51
set_option maxHeartbeats 4000000 in
set_option maxRecDepth 100000 in
theorem c_X12_givesAs_5_5_0 (l : Launch) (D : va_G) (cI cL : ClassId) (ad zz : Nat → Nat) (hJ : jD ad) (σ : Nat → Nat → Int32) (τ : Nat → Nat → Int64) (a2 : Int32) (A2 : Int) (t2 : a2.toInt = A2) (h55_55 : σ 55 55 = 0) (hp0 : (σ 55 56).toInt = 5) : jM l yX12_givesAs cX12_givesAs 4 (some .int) ({ frames := 3, cells := 0, slots := 0, locals := 67 }) D cI cL ad zz [.ref (ad 55), .int 5, .int a2] σ τ (fun r σ' τ' => τ = τ' ∧ (∀ i : Nat, (i < 55 ∨ 55 < i) ∧ (i < 85 ∨ 85 < i) → σ' i = σ i) ∧ (∀ k : Nat, (k < 55 ∨ 55 < k) → σ' 55 k = σ 55 k) ∧ (∀ k : Nat, (k < 0 ∨ 0 < k) ∧ (k < 1 ∨ 1 < k) ∧ (k < 2 ∨ 2 < k) ∧ (k < 3 ∨ 3 < k) → σ' 85 k = σ 85 k) ∧ (σ' 55 55 = 4) ∧ (σ' 85 0 = 60) ∧ (σ' 85 1 = 30) ∧ (σ' 85 2 = 11) ∧ (σ' 85 3 = 1) ∧ ((r = (((a2 ^^^ (σ 55 57)) * 3) - (2 + (σ 55 57))) ∧ True))) := by
  refine jM.of hJ (by decide +kernel) (nt := .int) rfl (Nat.le_of_ble_eq_true rfl) ?_
  intro p e s m args below meth c Q ls hC hret hl hP
  obtain ⟨hx, hb, hr, hml, hown, hts, hK, -, hlocks, hZ⟩ := hC
  have hown : s.vm.findClass RX12 = some m.cls := hown
  have hS : va_S (jA ad) s.heap s.heap [] := va_S.rf
  have hA : ∀ q, jA ad q → jA ad q := fun _ h => h
  have hl : lv_has ls 4 [(0, .ref (ad 55)), (1, .int 5), (2, .int a2)] := hl
  have g2 := jrg t2
  refine lv_iload_n hx hb dX12_givesAs_0 rfl (lv_at hl 1 rfl) ?_
  refine lv_iconst (v := 5) hx hb dX12_givesAs_1 (by decide) ?_
  refine lv_icmp_ne (tgt := 30) hx hb dX12_givesAs_2 (by decide) (fun c => absurd (by decide) c) (fun _ => ?_)
  refine lv_aload_n hx hb dX12_givesAs_5 rfl (lv_at hl 0 rfl) ?_
  refine lv_bipush (v := 60) hx hb dX12_givesAs_6 (by decide) ?_
  refine jcallVv (As := [.int 60]) (rest := []) ⟨hx, hb, hml, hown, hts⟩ hK hP hA hS hZ (c_X12_begins_60_0 l D cI cL ad zz hJ σ τ h55_55) cw_RX12_379 (jc_55 cI cL ad σ τ) rfl ⟨Nat.le_of_ble_eq_true rfl, Nat.le_of_ble_eq_true rfl⟩ rfl rfl rfl hl.1 rfl (Nat.le_of_ble_eq_true rfl) dX12_givesAs_8 ⟨Nat.zero_le _, Nat.zero_le _⟩ (fun σ1 τ1 H locs h1 hP hS => ?_)
  obtain ⟨rfl, f3, f4, f5, m6, m7, h1⟩ := h1
  refine lv_aload_n hx hb dX12_givesAs_11 rfl (lv_at hl 0 rfl) ?_
  refine lv_iconst (v := 3) hx hb dX12_givesAs_12 (by decide) ?_
  refine lv_iload_n hx hb dX12_givesAs_13 rfl (lv_at hl 2 rfl) ?_
  have z8 : (σ1 55 56).toInt = (σ 55 56).toInt := by rw [(show σ1 55 56 = (σ 55 56) from (by rw [f4 56 (by omega)]))]
  refine jcallV (As := [.int 3, .int a2]) (rest := []) ⟨hx, hb, hml, hown, hts⟩ hK hP hA hS hZ (c_X12_givesAs_5_3_1 l D cI cL ad zz hJ σ1 τ a2 (A2) t2 m6 (by omega)) cw_RX12_394 (jc_55 cI cL ad σ1 τ) rfl ⟨Nat.le_of_ble_eq_true rfl, Nat.le_of_ble_eq_true rfl⟩ rfl rfl rfl hl.1 rfl (Nat.le_of_ble_eq_true rfl) dX12_givesAs_14 ⟨Nat.zero_le _, Nat.zero_le _⟩ (fun r10 σ9 τ9 H locs h9 hP hS => ?_)
  obtain ⟨rfl, f11, f12, f13, m14, m15, m16, h9⟩ := h9
  have h17 := h9
  obtain ⟨q19, k18⟩ := h17
  have q19 := q19.symm
  subst q19
  refine lv_istore_n (lv' := [(3, .int ((a2 ^^^ (σ1 55 57)) * 3)), (0, .ref (ad 55)), (1, .int 5), (2, .int a2)]) hx hb dX12_givesAs_17 rfl hl (by decide) rfl (fun ls hl => ?_)
  refine lv_iload_n hx hb dX12_givesAs_18 rfl (lv_at hl 0 rfl) ?_
  refine lv_aload_n hx hb dX12_givesAs_19 rfl (lv_at hl 1 rfl) ?_
  refine lv_aload_n hx hb dX12_givesAs_20 rfl (lv_at hl 1 rfl) ?_
  refine va_get (D := D) hx hb hts inlX12 hown hK hP 55 (jc_55 cI cL ad σ9 τ) rfl 56 (by decide) (hts _ kw_49_8) (fun _ h9 => h9) rfl dX12_givesAs_21 ?_
  have m20 : σ9 55 56 = (σ 55 56) := (by rw [f12 56 (by omega)]; exact (by rw [f4 56 (by omega)]))
  refine jtopr m20 ?_
  refine jtopr (jsame (rfl : (σ 55 56).toInt = (σ 55 56).toInt) jz_5 (by omega)) ?_
  refine lv_iconst (v := 2) hx hb dX12_givesAs_24 (by decide) ?_
  have z21 : (σ9 55 56).toInt = (σ 55 56).toInt := by rw [(show σ9 55 56 = (σ 55 56) from m20)]
  refine jcallV (As := [.int 5, .int 2]) (rest := [.int ((a2 ^^^ (σ1 55 57)) * 3)]) ⟨hx, hb, hml, hown, hts⟩ hK hP hA hS hZ (c_X12_putsAs_5_5_3_x2 l D cI cL ad zz hJ σ9 τ m14 (by omega)) cw_RX12_382 (jc_55 cI cL ad σ9 τ) rfl ⟨Nat.le_of_ble_eq_true rfl, Nat.le_of_ble_eq_true rfl⟩ rfl rfl rfl hl.1 rfl (Nat.le_of_ble_eq_true rfl) dX12_givesAs_25 ⟨Nat.zero_le _, Nat.zero_le _⟩ (fun r23 σ22 τ22 H locs h22 hP hS => ?_)
  obtain ⟨rfl, f24, f25, f26, m27, m28, h22⟩ := h22
  have h29 := h22
  obtain ⟨q31, k30⟩ := h29
  have q31 := q31.symm
  subst q31
  have g32 := jrg (rfl : ((a2 ^^^ (σ1 55 57)) * 3).toInt = ((a2 ^^^ (σ1 55 57)) * 3).toInt)
  have g33 := jrg (rfl : (2 + (σ9 55 57)).toInt = (2 + (σ9 55 57)).toInt)
  refine lv_isub hx hb dX12_givesAs_28 ?_
  refine lv_topi (fun x34 ex34 => ?_)
  have gx34 := jrg (rfl : x34.toInt = x34.toInt)
  have m35 : σ22 85 0 = 60 := (by rw [f26 0 (by omega)]; exact (by rw [f13 0 (by omega)]; exact m7))
  have m36 : σ22 85 1 = 30 := (by rw [f26 1 (by omega)]; exact m15)
  have m37 : σ22 85 2 = 11 := (by rw [f26 2 (by omega)]; exact m16)
  exact hret x34 σ22 τ _ _ _ _ rfl ⟨rfl, (fun i hi => by rw [f24 i (by omega), f11 i (by omega), f3 i (by omega)]), (fun k hk => by rw [f25 k (by omega), f12 k (by omega), f4 k (by omega)]), (fun k hk => by rw [f26 k (by omega), f13 k (by omega), f5 k (by omega)]), m27, m35, m36, m37, m28, ⟨(by rw [ex34, (show σ1 55 57 = σ 55 57 from (by rw [f4 57 (by omega)])), (show σ9 55 57 = σ 55 57 from (by rw [f12 57 (by omega), f4 57 (by omega)]))]), trivial⟩⟩ hP hS dX12_givesAs_29
set_option maxHeartbeats 4000000 in
set_option maxRecDepth 100000 in
theorem c_X12_putsAs_5_5_3 (l : Launch) (D : va_G) (cI cL : ClassId) (ad zz : Nat → Nat) (hJ : jD ad) (σ : Nat → Nat → Int32) (τ : Nat → Nat → Int64) (a2 : Int32) (A2 : Int) (t2 : a2.toInt = A2) (h55_55 : σ 55 55 = 3) (hp0 : (σ 55 56).toInt = 5) : jM l yX12_putsAs cX12_putsAs 3 (some .int) ({ frames := 1, cells := 0, slots := 0, locals := 21 }) D cI cL ad zz [.ref (ad 55), .int 5, .int a2] σ τ (fun r σ' τ' => τ = τ' ∧ (∀ i : Nat, (i < 55 ∨ 55 < i) ∧ (i < 85 ∨ 85 < i) → σ' i = σ i) ∧ (∀ k : Nat, (k < 55 ∨ 55 < k) → σ' 55 k = σ 55 k) ∧ (∀ k : Nat, (k < 3 ∨ 3 < k) → σ' 85 k = σ 85 k) ∧ (σ' 55 55 = 4) ∧ (σ' 85 3 = 1) ∧ ((r = (a2 + (σ 55 57)) ∧ True))) := by
  refine jM.of hJ (by decide +kernel) (nt := .int) rfl (Nat.le_of_ble_eq_true rfl) ?_
  intro p e s m args below meth c Q ls hC hret hl hP
  obtain ⟨hx, hb, hr, hml, hown, hts, hK, -, hlocks, hZ⟩ := hC
  have hown : s.vm.findClass RX12 = some m.cls := hown
  have hS : va_S (jA ad) s.heap s.heap [] := va_S.rf
  have hA : ∀ q, jA ad q → jA ad q := fun _ h => h
  have hl : lv_has ls 3 [(0, .ref (ad 55)), (1, .int 5), (2, .int a2)] := hl
  have g2 := jrg t2
  refine lv_iload_n hx hb dX12_putsAs_0 rfl (lv_at hl 1 rfl) ?_
  refine lv_iconst (v := 4) hx hb dX12_putsAs_1 (by decide) ?_
  refine lv_icmp_ne (tgt := 20) hx hb dX12_putsAs_2 (by decide) (fun _ => ?_) (fun c => absurd c (by decide))
  refine lv_iload_n hx hb dX12_putsAs_20 rfl (lv_at hl 1 rfl) ?_
  refine lv_iconst (v := 1) hx hb dX12_putsAs_21 (by decide) ?_
  refine lv_icmp_ne (tgt := 40) hx hb dX12_putsAs_22 (by decide) (fun _ => ?_) (fun c => absurd c (by decide))
  refine lv_aload_n hx hb dX12_putsAs_40 rfl (lv_at hl 0 rfl) ?_
  refine lv_iconst (v := 1) hx hb dX12_putsAs_41 (by decide) ?_
  refine jcallVv (As := [.int 1]) (rest := []) ⟨hx, hb, hml, hown, hts⟩ hK hP hA hS hZ (c_X12_begins_1_3 l D cI cL ad zz hJ σ τ h55_55) cw_RX12_379 (jc_55 cI cL ad σ τ) rfl ⟨Nat.le_of_ble_eq_true rfl, Nat.le_of_ble_eq_true rfl⟩ rfl rfl rfl hl.1 rfl (Nat.le_of_ble_eq_true rfl) dX12_putsAs_42 ⟨Nat.zero_le _, Nat.zero_le _⟩ (fun σ1 τ1 H locs h1 hP hS => ?_)
  obtain ⟨rfl, f3, f4, f5, m6, m7, h1⟩ := h1
  refine lv_iload_n hx hb dX12_putsAs_45 rfl (lv_at hl 2 rfl) ?_
  refine lv_aload_n hx hb dX12_putsAs_46 rfl (lv_at hl 0 rfl) ?_
  refine va_get (D := D) hx hb hts inlX12 hown hK hP 55 (jc_55 cI cL ad σ1 τ) rfl 57 (by decide) (hts _ kw_49_9) (fun _ h9 => h9) rfl dX12_putsAs_47 ?_
  have m8 : σ1 55 57 = (σ 55 57) := (by rw [f4 57 (by omega)])
  refine jtopr m8 ?_
  have g9 := jrg (rfl : (σ 55 57).toInt = (σ 55 57).toInt)
  refine lv_iadd hx hb dX12_putsAs_50 ?_
  refine lv_topi (fun x10 ex10 => ?_)
  have gx10 := jrg (rfl : x10.toInt = x10.toInt)
  exact hret x10 σ1 τ _ _ _ _ rfl ⟨rfl, (fun i hi => by rw [f3 i (by omega)]), (fun k hk => by rw [f4 k (by omega)]), (fun k hk => by rw [f5 k (by omega)]), m6, m7, ⟨(by rw [ex10]), trivial⟩⟩ hP hS dX12_putsAs_51
set_option maxHeartbeats 4000000 in
set_option maxRecDepth 100000 in
theorem c_X12_holdsAs_5_0_2 (l : Launch) (D : va_G) (cI cL : ClassId) (ad zz : Nat → Nat) (hJ : jD ad) (σ : Nat → Nat → Int32) (τ : Nat → Nat → Int64) (a2 : Int32) (A2 : Int) (t2 : a2.toInt = A2) (h55_55 : σ 55 55 = 2) (hp0 : (σ 55 56).toInt = 5) : jM l yX12_holdsAs cX12_holdsAs 4 (some .int) ({ frames := 2, cells := 0, slots := 0, locals := 43 }) D cI cL ad zz [.ref (ad 55), .int 0, .int a2] σ τ (fun r σ' τ' => τ = τ' ∧ (∀ i : Nat, (i < 55 ∨ 55 < i) ∧ (i < 85 ∨ 85 < i) → σ' i = σ i) ∧ (∀ k : Nat, (k < 55 ∨ 55 < k) → σ' 55 k = σ 55 k) ∧ (∀ k : Nat, (k < 2 ∨ 2 < k) ∧ (k < 3 ∨ 3 < k) → σ' 85 k = σ 85 k) ∧ (σ' 55 55 = 4) ∧ (σ' 85 2 = 10) ∧ (σ' 85 3 = 1) ∧ ((r = ((a2 + (σ 55 57)) * 2) ∧ True))) := by
  refine jM.of hJ (by decide +kernel) (nt := .int) rfl (Nat.le_of_ble_eq_true rfl) ?_
  intro p e s m args below meth c Q ls hC hret hl hP
  obtain ⟨hx, hb, hr, hml, hown, hts, hK, -, hlocks, hZ⟩ := hC
  have hown : s.vm.findClass RX12 = some m.cls := hown
  have hS : va_S (jA ad) s.heap s.heap [] := va_S.rf
  have hA : ∀ q, jA ad q → jA ad q := fun _ h => h
  have hl : lv_has ls 4 [(0, .ref (ad 55)), (1, .int 0), (2, .int a2)] := hl
  have g2 := jrg t2
  refine lv_iload_n hx hb dX12_holdsAs_0 rfl (lv_at hl 1 rfl) ?_
  refine lv_iconst (v := 3) hx hb dX12_holdsAs_1 (by decide) ?_
  refine lv_icmp_eq (tgt := 10) hx hb dX12_holdsAs_2 (by decide) (fun c => absurd c (by decide)) (fun _ => ?_)
  refine lv_iload_n hx hb dX12_holdsAs_5 rfl (lv_at hl 1 rfl) ?_
  refine lv_iconst (v := 5) hx hb dX12_holdsAs_6 (by decide) ?_
  refine lv_icmp_ne (tgt := 24) hx hb dX12_holdsAs_7 (by decide) (fun _ => ?_) (fun c => absurd c (by decide))
  refine lv_iload_n hx hb dX12_holdsAs_24 rfl (lv_at hl 1 rfl) ?_
  refine lv_bipush (v := 6) hx hb dX12_holdsAs_25 (by decide) ?_
  refine lv_icmp_ne (tgt := 55) hx hb dX12_holdsAs_27 (by decide) (fun _ => ?_) (fun c => absurd c (by decide))
  refine lv_aload_n hx hb dX12_holdsAs_55 rfl (lv_at hl 0 rfl) ?_
  refine lv_bipush (v := 10) hx hb dX12_holdsAs_56 (by decide) ?_
  refine jcallVv (As := [.int 10]) (rest := []) ⟨hx, hb, hml, hown, hts⟩ hK hP hA hS hZ (c_X12_begins_10_2 l D cI cL ad zz hJ σ τ h55_55) cw_RX12_379 (jc_55 cI cL ad σ τ) rfl ⟨Nat.le_of_ble_eq_true rfl, Nat.le_of_ble_eq_true rfl⟩ rfl rfl rfl hl.1 rfl (Nat.le_of_ble_eq_true rfl) dX12_holdsAs_58 ⟨Nat.zero_le _, Nat.zero_le _⟩ (fun σ1 τ1 H locs h1 hP hS => ?_)
  obtain ⟨rfl, f3, f4, f5, m6, m7, h1⟩ := h1
  refine lv_aload_n hx hb dX12_holdsAs_61 rfl (lv_at hl 0 rfl) ?_
  refine lv_aload_n hx hb dX12_holdsAs_62 rfl (lv_at hl 0 rfl) ?_
  refine va_get (D := D) hx hb hts inlX12 hown hK hP 55 (jc_55 cI cL ad σ1 τ) rfl 56 (by decide) (hts _ kw_49_8) (fun _ h9 => h9) rfl dX12_holdsAs_63 ?_
  have m8 : σ1 55 56 = (σ 55 56) := (by rw [f4 56 (by omega)])
  refine jtopr m8 ?_
  refine jtopr (jsame (rfl : (σ 55 56).toInt = (σ 55 56).toInt) jz_5 (by omega)) ?_
  refine lv_iload_n hx hb dX12_holdsAs_66 rfl (lv_at hl 2 rfl) ?_
  have z9 : (σ1 55 56).toInt = (σ 55 56).toInt := by rw [(show σ1 55 56 = (σ 55 56) from m8)]
  refine jcallV (As := [.int 5, .int a2]) (rest := []) ⟨hx, hb, hml, hown, hts⟩ hK hP hA hS hZ (c_X12_putsAs_5_5_3 l D cI cL ad zz hJ σ1 τ a2 (A2) t2 m6 (by omega)) cw_RX12_382 (jc_55 cI cL ad σ1 τ) rfl ⟨Nat.le_of_ble_eq_true rfl, Nat.le_of_ble_eq_true rfl⟩ rfl rfl rfl hl.1 rfl (Nat.le_of_ble_eq_true rfl) dX12_holdsAs_67 ⟨Nat.zero_le _, Nat.zero_le _⟩ (fun r11 σ10 τ10 H locs h10 hP hS => ?_)
  obtain ⟨rfl, f12, f13, f14, m15, m16, h10⟩ := h10
  have h17 := h10
  obtain ⟨q19, k18⟩ := h17
  have q19 := q19.symm
  subst q19
  refine lv_iconst (v := 2) hx hb dX12_holdsAs_70 (by decide) ?_
  have g20 := jrg (rfl : (a2 + (σ1 55 57)).toInt = (a2 + (σ1 55 57)).toInt)
  refine lv_imul hx hb dX12_holdsAs_71 ?_
  refine lv_topi (fun x21 ex21 => ?_)
  have gx21 := jrg (rfl : x21.toInt = x21.toInt)
  have m22 : σ10 85 2 = 10 := (by rw [f14 2 (by omega)]; exact m7)
  exact hret x21 σ10 τ _ _ _ _ rfl ⟨rfl, (fun i hi => by rw [f12 i (by omega), f3 i (by omega)]), (fun k hk => by rw [f13 k (by omega), f4 k (by omega)]), (fun k hk => by rw [f14 k (by omega), f5 k (by omega)]), m15, m22, m16, ⟨(by rw [ex21, (show σ1 55 57 = σ 55 57 from (by rw [f4 57 (by omega)]))]), trivial⟩⟩ hP hS dX12_holdsAs_72
set_option maxHeartbeats 4000000 in
set_option maxRecDepth 100000 in
theorem c_X12_holdsAs_5_5_1 (l : Launch) (D : va_G) (cI cL : ClassId) (ad zz : Nat → Nat) (hJ : jD ad) (σ : Nat → Nat → Int32) (τ : Nat → Nat → Int64) (a2 : Int32) (A2 : Int) (t2 : a2.toInt = A2) (h55_55 : σ 55 55 = 1) (hp0 : (σ 55 56).toInt = 5) : jM l yX12_holdsAs cX12_holdsAs 4 (some .int) ({ frames := 3, cells := 0, slots := 0, locals := 66 }) D cI cL ad zz [.ref (ad 55), .int 5, .int a2] σ τ (fun r σ' τ' => τ = τ' ∧ (∀ i : Nat, (i < 55 ∨ 55 < i) ∧ (i < 85 ∨ 85 < i) → σ' i = σ i) ∧ (∀ k : Nat, (k < 55 ∨ 55 < k) → σ' 55 k = σ 55 k) ∧ (∀ k : Nat, (k < 1 ∨ 1 < k) ∧ (k < 2 ∨ 2 < k) ∧ (k < 3 ∨ 3 < k) → σ' 85 k = σ 85 k) ∧ (σ' 55 55 = 4) ∧ (σ' 85 1 = 40) ∧ (σ' 85 2 = 10) ∧ (σ' 85 3 = 1) ∧ ((r = (-((a2 + (σ 55 57)) * 2)) ∧ True))) := by
  refine jM.of hJ (by decide +kernel) (nt := .int) rfl (Nat.le_of_ble_eq_true rfl) ?_
  intro p e s m args below meth c Q ls hC hret hl hP
  obtain ⟨hx, hb, hr, hml, hown, hts, hK, -, hlocks, hZ⟩ := hC
  have hown : s.vm.findClass RX12 = some m.cls := hown
  have hS : va_S (jA ad) s.heap s.heap [] := va_S.rf
  have hA : ∀ q, jA ad q → jA ad q := fun _ h => h
  have hl : lv_has ls 4 [(0, .ref (ad 55)), (1, .int 5), (2, .int a2)] := hl
  have g2 := jrg t2
  refine lv_iload_n hx hb dX12_holdsAs_0 rfl (lv_at hl 1 rfl) ?_
  refine lv_iconst (v := 3) hx hb dX12_holdsAs_1 (by decide) ?_
  refine lv_icmp_eq (tgt := 10) hx hb dX12_holdsAs_2 (by decide) (fun c => absurd c (by decide)) (fun _ => ?_)
  refine lv_iload_n hx hb dX12_holdsAs_5 rfl (lv_at hl 1 rfl) ?_
  refine lv_iconst (v := 5) hx hb dX12_holdsAs_6 (by decide) ?_
  refine lv_icmp_ne (tgt := 24) hx hb dX12_holdsAs_7 (by decide) (fun c => absurd (by decide) c) (fun _ => ?_)
  refine lv_aload_n hx hb dX12_holdsAs_10 rfl (lv_at hl 0 rfl) ?_
  refine lv_bipush (v := 40) hx hb dX12_holdsAs_11 (by decide) ?_
  refine jcallVv (As := [.int 40]) (rest := []) ⟨hx, hb, hml, hown, hts⟩ hK hP hA hS hZ (c_X12_begins_40_1 l D cI cL ad zz hJ σ τ h55_55) cw_RX12_379 (jc_55 cI cL ad σ τ) rfl ⟨Nat.le_of_ble_eq_true rfl, Nat.le_of_ble_eq_true rfl⟩ rfl rfl rfl hl.1 rfl (Nat.le_of_ble_eq_true rfl) dX12_holdsAs_13 ⟨Nat.zero_le _, Nat.zero_le _⟩ (fun σ1 τ1 H locs h1 hP hS => ?_)
  obtain ⟨rfl, f3, f4, f5, m6, m7, h1⟩ := h1
  refine lv_aload_n hx hb dX12_holdsAs_16 rfl (lv_at hl 0 rfl) ?_
  refine lv_iconst (v := 0) hx hb dX12_holdsAs_17 (by decide) ?_
  refine lv_iload_n hx hb dX12_holdsAs_18 rfl (lv_at hl 2 rfl) ?_
  have z8 : (σ1 55 56).toInt = (σ 55 56).toInt := by rw [(show σ1 55 56 = (σ 55 56) from (by rw [f4 56 (by omega)]))]
  refine jcallV (As := [.int 0, .int a2]) (rest := []) ⟨hx, hb, hml, hown, hts⟩ hK hP hA hS hZ (c_X12_holdsAs_5_0_2 l D cI cL ad zz hJ σ1 τ a2 (A2) t2 m6 (by omega)) cw_RX12_388 (jc_55 cI cL ad σ1 τ) rfl ⟨Nat.le_of_ble_eq_true rfl, Nat.le_of_ble_eq_true rfl⟩ rfl rfl rfl hl.1 rfl (Nat.le_of_ble_eq_true rfl) dX12_holdsAs_19 ⟨Nat.zero_le _, Nat.zero_le _⟩ (fun r10 σ9 τ9 H locs h9 hP hS => ?_)
  obtain ⟨rfl, f11, f12, f13, m14, m15, m16, h9⟩ := h9
  have h17 := h9
  obtain ⟨q19, k18⟩ := h17
  have q19 := q19.symm
  subst q19
  refine lv_ineg hx hb dX12_holdsAs_22 ?_
  refine lv_topi (fun x20 ex20 => ?_)
  have gx20 := jrg (rfl : x20.toInt = x20.toInt)
  have m21 : σ9 85 1 = 40 := (by rw [f13 1 (by omega)]; exact m7)
  exact hret x20 σ9 τ _ _ _ _ rfl ⟨rfl, (fun i hi => by rw [f11 i (by omega), f3 i (by omega)]), (fun k hk => by rw [f12 k (by omega), f4 k (by omega)]), (fun k hk => by rw [f13 k (by omega), f5 k (by omega)]), m14, m21, m15, m16, ⟨(by rw [ex20, (show σ1 55 57 = σ 55 57 from (by rw [f4 57 (by omega)]))]), trivial⟩⟩ hP hS dX12_holdsAs_23
set_option maxHeartbeats 4000000 in
set_option maxRecDepth 100000 in
theorem c_X12_begins_60_4 (l : Launch) (D : va_G) (cI cL : ClassId) (ad zz : Nat → Nat) (hJ : jD ad) (σ : Nat → Nat → Int32) (τ : Nat → Nat → Int64) (h55_55 : σ 55 55 = 4) : jMv l yX12_begins cX12_begins 2 none ({ frames := 0, cells := 0, slots := 0, locals := 0 }) D cI cL ad zz [.ref (ad 55), .int 60] σ τ (fun σ' τ' => τ = τ' ∧ (∀ i : Nat, (i < 55 ∨ 55 < i) ∧ (i < 85 ∨ 85 < i) → σ' i = σ i) ∧ (∀ k : Nat, (k < 55 ∨ 55 < k) → σ' 55 k = σ 55 k) ∧ (∀ k : Nat, (k < 4 ∨ 4 < k) → σ' 85 k = σ 85 k) ∧ (σ' 55 55 = 5) ∧ (σ' 85 4 = 60) ∧ True) := by
  refine jMv.of hJ (by decide +kernel) rfl (Nat.le_of_ble_eq_true rfl) ?_
  intro p e s m args below meth c Q ls hC hret hl hP
  obtain ⟨hx, hb, hr, hml, hown, hts, hK, -, hlocks, hZ⟩ := hC
  have hown : s.vm.findClass RX12 = some m.cls := hown
  have hS : va_S (jA ad) s.heap s.heap [] := va_S.rf
  have hA : ∀ q, jA ad q → jA ad q := fun _ h => h
  have hl : lv_has ls 2 [(0, .ref (ad 55)), (1, .int 60)] := hl
  refine lv_aload_n hx hb dX12_begins_0 rfl (lv_at hl 0 rfl) ?_
  refine va_get (D := D) hx hb hts inlX12 hown hK hP 55 (jc_55 cI cL ad σ τ) rfl 55 (by decide) (hts _ kw_49_7) (fun _ h9 => h9) rfl dX12_begins_1 ?_
  refine jtopr h55_55 ?_
  refine lv_bipush (v := 24) hx hb dX12_begins_4 (by decide) ?_
  refine lv_icmp_ge (tgt := 19) hx hb dX12_begins_6 (by decide) (fun c => absurd c (by decide)) (fun _ => ?_)
  refine lv_aload_n hx hb dX12_begins_9 rfl (lv_at hl 0 rfl) ?_
  refine va_get (D := D) hx hb hts inlX12 hown hK hP 55 (jc_55 cI cL ad σ τ) rfl 54 (by decide) (hts _ kw_8_10) (fun _ h9 => h9) rfl dX12_begins_10 ?_
  refine lv_aload_n hx hb dX12_begins_13 rfl (lv_at hl 0 rfl) ?_
  refine va_get (D := D) hx hb hts inlX12 hown hK hP 55 (jc_55 cI cL ad σ τ) rfl 55 (by decide) (hts _ kw_49_7) (fun _ h9 => h9) rfl dX12_begins_14 ?_
  refine jtopr h55_55 ?_
  refine lv_iload_n hx hb dX12_begins_17 rfl (lv_at hl 1 rfl) ?_
  refine jast hx hb hK hP hJ hA hS (jc_85 cI cL ad σ τ) (ja_85 cI cL ad σ τ _ _) (jin jz_4 (by omega) (by omega)) dX12_begins_18 (fun σ1 H locs eσ1 hP hS => ?_)
  have eσ1 : σ1 = jup σ 85 4 60 := eσ1
  refine lv_aload_n hx hb dX12_begins_19 rfl (lv_at hl 0 rfl) ?_
  refine lv_dup hx hb dX12_begins_20 rfl ?_
  refine va_get (D := D) hx hb hts inlX12 hown hK hP 55 (jc_55 cI cL ad σ1 τ) rfl 55 (by decide) (hts _ kw_49_7) (fun _ h9 => h9) rfl dX12_begins_21 ?_
  have m2 : σ1 55 55 = 4 := (by rw [eσ1, jup_n (by decide)]; exact h55_55)
  refine jtopr m2 ?_
  refine lv_iconst (v := 1) hx hb dX12_begins_24 (by decide) ?_
  refine lv_iadd hx hb dX12_begins_25 ?_
  refine jtopr (y := 5) (by decide) ?_
  refine jput (ty := .int) hx hb hts inlX12 tyX12 tyX12_ok nmX12 hown hK hP hJ hA hS (jc_55 cI cL ad σ1 τ) rfl (k := 55) (by decide) (Nat.le_of_ble_eq_true rfl) (jp_55_55 cI cL ad σ1 τ 5) (hts _ kw_49_7) (fun _ h9 => h9) rfl (by decide +kernel) rfl rfl dX12_begins_26 (fun σ3 H locs eσ3 hP hS => ?_)
  have m4 : σ3 55 55 = 5 := (by rw [eσ3]; exact jup_s)
  have m5 : σ3 85 4 = 60 := (by rw [eσ3, jup_n (by decide)]; exact (by rw [eσ1]; exact jup_s))
  exact hret σ3 τ _ _ _ _ ⟨rfl, (fun i hi => by rw [eσ3, jup_n (by omega), eσ1, jup_n (by omega)]), (fun k hk => by rw [eσ3, jup_k (by omega), eσ1, jup_n (by decide)]), (fun k hk => by rw [eσ3, jup_n (by decide), eσ1, jup_k (by omega)]), m4, m5, trivial⟩ hP hS dX12_begins_29
set_option maxHeartbeats 4000000 in
set_option maxRecDepth 100000 in
theorem c_X12_begins_30_5 (l : Launch) (D : va_G) (cI cL : ClassId) (ad zz : Nat → Nat) (hJ : jD ad) (σ : Nat → Nat → Int32) (τ : Nat → Nat → Int64) (h55_55 : σ 55 55 = 5) : jMv l yX12_begins cX12_begins 2 none ({ frames := 0, cells := 0, slots := 0, locals := 0 }) D cI cL ad zz [.ref (ad 55), .int 30] σ τ (fun σ' τ' => τ = τ' ∧ (∀ i : Nat, (i < 55 ∨ 55 < i) ∧ (i < 85 ∨ 85 < i) → σ' i = σ i) ∧ (∀ k : Nat, (k < 55 ∨ 55 < k) → σ' 55 k = σ 55 k) ∧ (∀ k : Nat, (k < 5 ∨ 5 < k) → σ' 85 k = σ 85 k) ∧ (σ' 55 55 = 6) ∧ (σ' 85 5 = 30) ∧ True) := by
  refine jMv.of hJ (by decide +kernel) rfl (Nat.le_of_ble_eq_true rfl) ?_
  intro p e s m args below meth c Q ls hC hret hl hP
  obtain ⟨hx, hb, hr, hml, hown, hts, hK, -, hlocks, hZ⟩ := hC
  have hown : s.vm.findClass RX12 = some m.cls := hown
  have hS : va_S (jA ad) s.heap s.heap [] := va_S.rf
  have hA : ∀ q, jA ad q → jA ad q := fun _ h => h
  have hl : lv_has ls 2 [(0, .ref (ad 55)), (1, .int 30)] := hl
  refine lv_aload_n hx hb dX12_begins_0 rfl (lv_at hl 0 rfl) ?_
  refine va_get (D := D) hx hb hts inlX12 hown hK hP 55 (jc_55 cI cL ad σ τ) rfl 55 (by decide) (hts _ kw_49_7) (fun _ h9 => h9) rfl dX12_begins_1 ?_
  refine jtopr h55_55 ?_
  refine lv_bipush (v := 24) hx hb dX12_begins_4 (by decide) ?_
  refine lv_icmp_ge (tgt := 19) hx hb dX12_begins_6 (by decide) (fun c => absurd c (by decide)) (fun _ => ?_)
  refine lv_aload_n hx hb dX12_begins_9 rfl (lv_at hl 0 rfl) ?_
  refine va_get (D := D) hx hb hts inlX12 hown hK hP 55 (jc_55 cI cL ad σ τ) rfl 54 (by decide) (hts _ kw_8_10) (fun _ h9 => h9) rfl dX12_begins_10 ?_
  refine lv_aload_n hx hb dX12_begins_13 rfl (lv_at hl 0 rfl) ?_
  refine va_get (D := D) hx hb hts inlX12 hown hK hP 55 (jc_55 cI cL ad σ τ) rfl 55 (by decide) (hts _ kw_49_7) (fun _ h9 => h9) rfl dX12_begins_14 ?_
  refine jtopr h55_55 ?_
  refine lv_iload_n hx hb dX12_begins_17 rfl (lv_at hl 1 rfl) ?_
  refine jast hx hb hK hP hJ hA hS (jc_85 cI cL ad σ τ) (ja_85 cI cL ad σ τ _ _) (jin jz_5 (by omega) (by omega)) dX12_begins_18 (fun σ1 H locs eσ1 hP hS => ?_)
  have eσ1 : σ1 = jup σ 85 5 30 := eσ1
  refine lv_aload_n hx hb dX12_begins_19 rfl (lv_at hl 0 rfl) ?_
  refine lv_dup hx hb dX12_begins_20 rfl ?_
  refine va_get (D := D) hx hb hts inlX12 hown hK hP 55 (jc_55 cI cL ad σ1 τ) rfl 55 (by decide) (hts _ kw_49_7) (fun _ h9 => h9) rfl dX12_begins_21 ?_
  have m2 : σ1 55 55 = 5 := (by rw [eσ1, jup_n (by decide)]; exact h55_55)
  refine jtopr m2 ?_
  refine lv_iconst (v := 1) hx hb dX12_begins_24 (by decide) ?_
  refine lv_iadd hx hb dX12_begins_25 ?_
  refine jtopr (y := 6) (by decide) ?_
  refine jput (ty := .int) hx hb hts inlX12 tyX12 tyX12_ok nmX12 hown hK hP hJ hA hS (jc_55 cI cL ad σ1 τ) rfl (k := 55) (by decide) (Nat.le_of_ble_eq_true rfl) (jp_55_55 cI cL ad σ1 τ 6) (hts _ kw_49_7) (fun _ h9 => h9) rfl (by decide +kernel) rfl rfl dX12_begins_26 (fun σ3 H locs eσ3 hP hS => ?_)
  have m4 : σ3 55 55 = 6 := (by rw [eσ3]; exact jup_s)
  have m5 : σ3 85 5 = 30 := (by rw [eσ3, jup_n (by decide)]; exact (by rw [eσ1]; exact jup_s))
  exact hret σ3 τ _ _ _ _ ⟨rfl, (fun i hi => by rw [eσ3, jup_n (by omega), eσ1, jup_n (by omega)]), (fun k hk => by rw [eσ3, jup_k (by omega), eσ1, jup_n (by decide)]), (fun k hk => by rw [eσ3, jup_n (by decide), eσ1, jup_k (by omega)]), m4, m5, trivial⟩ hP hS dX12_begins_29
set_option maxHeartbeats 4000000 in
set_option maxRecDepth 100000 in
theorem c_X12_givesAs_5_0_6_x1 (l : Launch) (D : va_G) (cI cL : ClassId) (ad zz : Nat → Nat) (hJ : jD ad) (σ : Nat → Nat → Int32) (τ : Nat → Nat → Int64) (h55_55 : σ 55 55 = 6) (hp0 : (σ 55 56).toInt = 5) : jM l yX12_givesAs cX12_givesAs 4 (some .int) ({ frames := 1, cells := 0, slots := 0, locals := 21 }) D cI cL ad zz [.ref (ad 55), .int 0, .int 1] σ τ (fun r σ' τ' => τ = τ' ∧ (∀ i : Nat, (i < 55 ∨ 55 < i) ∧ (i < 85 ∨ 85 < i) → σ' i = σ i) ∧ (∀ k : Nat, (k < 55 ∨ 55 < k) → σ' 55 k = σ 55 k) ∧ (∀ k : Nat, (k < 6 ∨ 6 < k) → σ' 85 k = σ 85 k) ∧ (σ' 55 55 = 7) ∧ (σ' 85 6 = 11) ∧ ((r = (1 ^^^ (σ 55 57)) ∧ True))) := by
  refine jM.of hJ (by decide +kernel) (nt := .int) rfl (Nat.le_of_ble_eq_true rfl) ?_
  intro p e s m args below meth c Q ls hC hret hl hP
  obtain ⟨hx, hb, hr, hml, hown, hts, hK, -, hlocks, hZ⟩ := hC
  have hown : s.vm.findClass RX12 = some m.cls := hown
  have hS : va_S (jA ad) s.heap s.heap [] := va_S.rf
  have hA : ∀ q, jA ad q → jA ad q := fun _ h => h
  have hl : lv_has ls 4 [(0, .ref (ad 55)), (1, .int 0), (2, .int 1)] := hl
  refine lv_iload_n hx hb dX12_givesAs_0 rfl (lv_at hl 1 rfl) ?_
  refine lv_iconst (v := 5) hx hb dX12_givesAs_1 (by decide) ?_
  refine lv_icmp_ne (tgt := 30) hx hb dX12_givesAs_2 (by decide) (fun _ => ?_) (fun c => absurd c (by decide))
  refine lv_iload_n hx hb dX12_givesAs_30 rfl (lv_at hl 1 rfl) ?_
  refine lv_iconst (v := 2) hx hb dX12_givesAs_31 (by decide) ?_
  refine lv_icmp_eq (tgt := 40) hx hb dX12_givesAs_32 (by decide) (fun c => absurd c (by decide)) (fun _ => ?_)
  refine lv_iload_n hx hb dX12_givesAs_35 rfl (lv_at hl 1 rfl) ?_
  refine lv_iconst (v := 3) hx hb dX12_givesAs_36 (by decide) ?_
  refine lv_icmp_ne (tgt := 55) hx hb dX12_givesAs_37 (by decide) (fun _ => ?_) (fun c => absurd c (by decide))
  refine lv_aload_n hx hb dX12_givesAs_55 rfl (lv_at hl 0 rfl) ?_
  refine lv_bipush (v := 11) hx hb dX12_givesAs_56 (by decide) ?_
  refine jcallVv (As := [.int 11]) (rest := []) ⟨hx, hb, hml, hown, hts⟩ hK hP hA hS hZ (c_X12_begins_11_6 l D cI cL ad zz hJ σ τ h55_55) cw_RX12_379 (jc_55 cI cL ad σ τ) rfl ⟨Nat.le_of_ble_eq_true rfl, Nat.le_of_ble_eq_true rfl⟩ rfl rfl rfl hl.1 rfl (Nat.le_of_ble_eq_true rfl) dX12_givesAs_58 ⟨Nat.zero_le _, Nat.zero_le _⟩ (fun σ1 τ1 H locs h1 hP hS => ?_)
  obtain ⟨rfl, f3, f4, f5, m6, m7, h1⟩ := h1
  refine lv_iload_n hx hb dX12_givesAs_61 rfl (lv_at hl 2 rfl) ?_
  refine lv_aload_n hx hb dX12_givesAs_62 rfl (lv_at hl 0 rfl) ?_
  refine va_get (D := D) hx hb hts inlX12 hown hK hP 55 (jc_55 cI cL ad σ1 τ) rfl 57 (by decide) (hts _ kw_49_9) (fun _ h9 => h9) rfl dX12_givesAs_63 ?_
  have m8 : σ1 55 57 = (σ 55 57) := (by rw [f4 57 (by omega)])
  refine jtopr m8 ?_
  refine lv_ixor hx hb dX12_givesAs_66 ?_
  refine lv_topi (fun x9 ex9 => ?_)
  have gx9 := jrg (rfl : x9.toInt = x9.toInt)
  exact hret x9 σ1 τ _ _ _ _ rfl ⟨rfl, (fun i hi => by rw [f3 i (by omega)]), (fun k hk => by rw [f4 k (by omega)]), (fun k hk => by rw [f5 k (by omega)]), m6, m7, ⟨(by rw [ex9]), trivial⟩⟩ hP hS dX12_givesAs_67
set_option maxHeartbeats 4000000 in
set_option maxRecDepth 100000 in
theorem c_X12_givesAs_5_3_5_x1 (l : Launch) (D : va_G) (cI cL : ClassId) (ad zz : Nat → Nat) (hJ : jD ad) (σ : Nat → Nat → Int32) (τ : Nat → Nat → Int64) (h55_55 : σ 55 55 = 5) (hp0 : (σ 55 56).toInt = 5) : jM l yX12_givesAs cX12_givesAs 4 (some .int) ({ frames := 2, cells := 0, slots := 0, locals := 44 }) D cI cL ad zz [.ref (ad 55), .int 3, .int 1] σ τ (fun r σ' τ' => τ = τ' ∧ (∀ i : Nat, (i < 55 ∨ 55 < i) ∧ (i < 85 ∨ 85 < i) → σ' i = σ i) ∧ (∀ k : Nat, (k < 55 ∨ 55 < k) → σ' 55 k = σ 55 k) ∧ (∀ k : Nat, (k < 5 ∨ 5 < k) ∧ (k < 6 ∨ 6 < k) → σ' 85 k = σ 85 k) ∧ (σ' 55 55 = 7) ∧ (σ' 85 5 = 30) ∧ (σ' 85 6 = 11) ∧ ((r = ((1 ^^^ (σ 55 57)) * 3) ∧ True))) := by
  refine jM.of hJ (by decide +kernel) (nt := .int) rfl (Nat.le_of_ble_eq_true rfl) ?_
  intro p e s m args below meth c Q ls hC hret hl hP
  obtain ⟨hx, hb, hr, hml, hown, hts, hK, -, hlocks, hZ⟩ := hC
  have hown : s.vm.findClass RX12 = some m.cls := hown
  have hS : va_S (jA ad) s.heap s.heap [] := va_S.rf
  have hA : ∀ q, jA ad q → jA ad q := fun _ h => h
  have hl : lv_has ls 4 [(0, .ref (ad 55)), (1, .int 3), (2, .int 1)] := hl
  refine lv_iload_n hx hb dX12_givesAs_0 rfl (lv_at hl 1 rfl) ?_
  refine lv_iconst (v := 5) hx hb dX12_givesAs_1 (by decide) ?_
  refine lv_icmp_ne (tgt := 30) hx hb dX12_givesAs_2 (by decide) (fun _ => ?_) (fun c => absurd c (by decide))
  refine lv_iload_n hx hb dX12_givesAs_30 rfl (lv_at hl 1 rfl) ?_
  refine lv_iconst (v := 2) hx hb dX12_givesAs_31 (by decide) ?_
  refine lv_icmp_eq (tgt := 40) hx hb dX12_givesAs_32 (by decide) (fun c => absurd c (by decide)) (fun _ => ?_)
  refine lv_iload_n hx hb dX12_givesAs_35 rfl (lv_at hl 1 rfl) ?_
  refine lv_iconst (v := 3) hx hb dX12_givesAs_36 (by decide) ?_
  refine lv_icmp_ne (tgt := 55) hx hb dX12_givesAs_37 (by decide) (fun c => absurd (by decide) c) (fun _ => ?_)
  refine lv_aload_n hx hb dX12_givesAs_40 rfl (lv_at hl 0 rfl) ?_
  refine lv_bipush (v := 30) hx hb dX12_givesAs_41 (by decide) ?_
  refine jcallVv (As := [.int 30]) (rest := []) ⟨hx, hb, hml, hown, hts⟩ hK hP hA hS hZ (c_X12_begins_30_5 l D cI cL ad zz hJ σ τ h55_55) cw_RX12_379 (jc_55 cI cL ad σ τ) rfl ⟨Nat.le_of_ble_eq_true rfl, Nat.le_of_ble_eq_true rfl⟩ rfl rfl rfl hl.1 rfl (Nat.le_of_ble_eq_true rfl) dX12_givesAs_43 ⟨Nat.zero_le _, Nat.zero_le _⟩ (fun σ1 τ1 H locs h1 hP hS => ?_)
  obtain ⟨rfl, f3, f4, f5, m6, m7, h1⟩ := h1
  refine lv_aload_n hx hb dX12_givesAs_46 rfl (lv_at hl 0 rfl) ?_
  refine lv_iconst (v := 0) hx hb dX12_givesAs_47 (by decide) ?_
  refine lv_iload_n hx hb dX12_givesAs_48 rfl (lv_at hl 2 rfl) ?_
  have z8 : (σ1 55 56).toInt = (σ 55 56).toInt := by rw [(show σ1 55 56 = (σ 55 56) from (by rw [f4 56 (by omega)]))]
  refine jcallV (As := [.int 0, .int 1]) (rest := []) ⟨hx, hb, hml, hown, hts⟩ hK hP hA hS hZ (c_X12_givesAs_5_0_6_x1 l D cI cL ad zz hJ σ1 τ m6 (by omega)) cw_RX12_394 (jc_55 cI cL ad σ1 τ) rfl ⟨Nat.le_of_ble_eq_true rfl, Nat.le_of_ble_eq_true rfl⟩ rfl rfl rfl hl.1 rfl (Nat.le_of_ble_eq_true rfl) dX12_givesAs_49 ⟨Nat.zero_le _, Nat.zero_le _⟩ (fun r10 σ9 τ9 H locs h9 hP hS => ?_)
  obtain ⟨rfl, f11, f12, f13, m14, m15, h9⟩ := h9
  have h16 := h9
  obtain ⟨q18, k17⟩ := h16
  have q18 := q18.symm
  subst q18
  refine lv_iconst (v := 3) hx hb dX12_givesAs_52 (by decide) ?_
  have g19 := jrg (rfl : (1 ^^^ (σ1 55 57)).toInt = (1 ^^^ (σ1 55 57)).toInt)
  refine lv_imul hx hb dX12_givesAs_53 ?_
  refine lv_topi (fun x20 ex20 => ?_)
  have gx20 := jrg (rfl : x20.toInt = x20.toInt)
  have m21 : σ9 85 5 = 30 := (by rw [f13 5 (by omega)]; exact m7)
  exact hret x20 σ9 τ _ _ _ _ rfl ⟨rfl, (fun i hi => by rw [f11 i (by omega), f3 i (by omega)]), (fun k hk => by rw [f12 k (by omega), f4 k (by omega)]), (fun k hk => by rw [f13 k (by omega), f5 k (by omega)]), m14, m21, m15, ⟨(by rw [ex20, (show σ1 55 57 = σ 55 57 from (by rw [f4 57 (by omega)]))]), trivial⟩⟩ hP hS dX12_givesAs_54
set_option maxHeartbeats 4000000 in
set_option maxRecDepth 100000 in
theorem c_X12_begins_1_7 (l : Launch) (D : va_G) (cI cL : ClassId) (ad zz : Nat → Nat) (hJ : jD ad) (σ : Nat → Nat → Int32) (τ : Nat → Nat → Int64) (h55_55 : σ 55 55 = 7) : jMv l yX12_begins cX12_begins 2 none ({ frames := 0, cells := 0, slots := 0, locals := 0 }) D cI cL ad zz [.ref (ad 55), .int 1] σ τ (fun σ' τ' => τ = τ' ∧ (∀ i : Nat, (i < 55 ∨ 55 < i) ∧ (i < 85 ∨ 85 < i) → σ' i = σ i) ∧ (∀ k : Nat, (k < 55 ∨ 55 < k) → σ' 55 k = σ 55 k) ∧ (∀ k : Nat, (k < 7 ∨ 7 < k) → σ' 85 k = σ 85 k) ∧ (σ' 55 55 = 8) ∧ (σ' 85 7 = 1) ∧ True) := by
  refine jMv.of hJ (by decide +kernel) rfl (Nat.le_of_ble_eq_true rfl) ?_
  intro p e s m args below meth c Q ls hC hret hl hP
  obtain ⟨hx, hb, hr, hml, hown, hts, hK, -, hlocks, hZ⟩ := hC
  have hown : s.vm.findClass RX12 = some m.cls := hown
  have hS : va_S (jA ad) s.heap s.heap [] := va_S.rf
  have hA : ∀ q, jA ad q → jA ad q := fun _ h => h
  have hl : lv_has ls 2 [(0, .ref (ad 55)), (1, .int 1)] := hl
  refine lv_aload_n hx hb dX12_begins_0 rfl (lv_at hl 0 rfl) ?_
  refine va_get (D := D) hx hb hts inlX12 hown hK hP 55 (jc_55 cI cL ad σ τ) rfl 55 (by decide) (hts _ kw_49_7) (fun _ h9 => h9) rfl dX12_begins_1 ?_
  refine jtopr h55_55 ?_
  refine lv_bipush (v := 24) hx hb dX12_begins_4 (by decide) ?_
  refine lv_icmp_ge (tgt := 19) hx hb dX12_begins_6 (by decide) (fun c => absurd c (by decide)) (fun _ => ?_)
  refine lv_aload_n hx hb dX12_begins_9 rfl (lv_at hl 0 rfl) ?_
  refine va_get (D := D) hx hb hts inlX12 hown hK hP 55 (jc_55 cI cL ad σ τ) rfl 54 (by decide) (hts _ kw_8_10) (fun _ h9 => h9) rfl dX12_begins_10 ?_
  refine lv_aload_n hx hb dX12_begins_13 rfl (lv_at hl 0 rfl) ?_
  refine va_get (D := D) hx hb hts inlX12 hown hK hP 55 (jc_55 cI cL ad σ τ) rfl 55 (by decide) (hts _ kw_49_7) (fun _ h9 => h9) rfl dX12_begins_14 ?_
  refine jtopr h55_55 ?_
  refine lv_iload_n hx hb dX12_begins_17 rfl (lv_at hl 1 rfl) ?_
  refine jast hx hb hK hP hJ hA hS (jc_85 cI cL ad σ τ) (ja_85 cI cL ad σ τ _ _) (jin jz_7 (by omega) (by omega)) dX12_begins_18 (fun σ1 H locs eσ1 hP hS => ?_)
  have eσ1 : σ1 = jup σ 85 7 1 := eσ1
  refine lv_aload_n hx hb dX12_begins_19 rfl (lv_at hl 0 rfl) ?_
  refine lv_dup hx hb dX12_begins_20 rfl ?_
  refine va_get (D := D) hx hb hts inlX12 hown hK hP 55 (jc_55 cI cL ad σ1 τ) rfl 55 (by decide) (hts _ kw_49_7) (fun _ h9 => h9) rfl dX12_begins_21 ?_
  have m2 : σ1 55 55 = 7 := (by rw [eσ1, jup_n (by decide)]; exact h55_55)
  refine jtopr m2 ?_
  refine lv_iconst (v := 1) hx hb dX12_begins_24 (by decide) ?_
  refine lv_iadd hx hb dX12_begins_25 ?_
  refine jtopr (y := 8) (by decide) ?_
  refine jput (ty := .int) hx hb hts inlX12 tyX12 tyX12_ok nmX12 hown hK hP hJ hA hS (jc_55 cI cL ad σ1 τ) rfl (k := 55) (by decide) (Nat.le_of_ble_eq_true rfl) (jp_55_55 cI cL ad σ1 τ 8) (hts _ kw_49_7) (fun _ h9 => h9) rfl (by decide +kernel) rfl rfl dX12_begins_26 (fun σ3 H locs eσ3 hP hS => ?_)
  have m4 : σ3 55 55 = 8 := (by rw [eσ3]; exact jup_s)
  have m5 : σ3 85 7 = 1 := (by rw [eσ3, jup_n (by decide)]; exact (by rw [eσ1]; exact jup_s))
  exact hret σ3 τ _ _ _ _ ⟨rfl, (fun i hi => by rw [eσ3, jup_n (by omega), eσ1, jup_n (by omega)]), (fun k hk => by rw [eσ3, jup_k (by omega), eσ1, jup_n (by decide)]), (fun k hk => by rw [eσ3, jup_n (by decide), eσ1, jup_k (by omega)]), m4, m5, trivial⟩ hP hS dX12_begins_29
set_option maxHeartbeats 4000000 in
set_option maxRecDepth 100000 in
theorem c_X12_putsAs_5_5_7_x2 (l : Launch) (D : va_G) (cI cL : ClassId) (ad zz : Nat → Nat) (hJ : jD ad) (σ : Nat → Nat → Int32) (τ : Nat → Nat → Int64) (h55_55 : σ 55 55 = 7) (hp0 : (σ 55 56).toInt = 5) : jM l yX12_putsAs cX12_putsAs 3 (some .int) ({ frames := 1, cells := 0, slots := 0, locals := 21 }) D cI cL ad zz [.ref (ad 55), .int 5, .int 2] σ τ (fun r σ' τ' => τ = τ' ∧ (∀ i : Nat, (i < 55 ∨ 55 < i) ∧ (i < 85 ∨ 85 < i) → σ' i = σ i) ∧ (∀ k : Nat, (k < 55 ∨ 55 < k) → σ' 55 k = σ 55 k) ∧ (∀ k : Nat, (k < 7 ∨ 7 < k) → σ' 85 k = σ 85 k) ∧ (σ' 55 55 = 8) ∧ (σ' 85 7 = 1) ∧ ((r = (2 + (σ 55 57)) ∧ True))) := by
  refine jM.of hJ (by decide +kernel) (nt := .int) rfl (Nat.le_of_ble_eq_true rfl) ?_
  intro p e s m args below meth c Q ls hC hret hl hP
  obtain ⟨hx, hb, hr, hml, hown, hts, hK, -, hlocks, hZ⟩ := hC
  have hown : s.vm.findClass RX12 = some m.cls := hown
  have hS : va_S (jA ad) s.heap s.heap [] := va_S.rf
  have hA : ∀ q, jA ad q → jA ad q := fun _ h => h
  have hl : lv_has ls 3 [(0, .ref (ad 55)), (1, .int 5), (2, .int 2)] := hl
  refine lv_iload_n hx hb dX12_putsAs_0 rfl (lv_at hl 1 rfl) ?_
  refine lv_iconst (v := 4) hx hb dX12_putsAs_1 (by decide) ?_
  refine lv_icmp_ne (tgt := 20) hx hb dX12_putsAs_2 (by decide) (fun _ => ?_) (fun c => absurd c (by decide))
  refine lv_iload_n hx hb dX12_putsAs_20 rfl (lv_at hl 1 rfl) ?_
  refine lv_iconst (v := 1) hx hb dX12_putsAs_21 (by decide) ?_
  refine lv_icmp_ne (tgt := 40) hx hb dX12_putsAs_22 (by decide) (fun _ => ?_) (fun c => absurd c (by decide))
  refine lv_aload_n hx hb dX12_putsAs_40 rfl (lv_at hl 0 rfl) ?_
  refine lv_iconst (v := 1) hx hb dX12_putsAs_41 (by decide) ?_
  refine jcallVv (As := [.int 1]) (rest := []) ⟨hx, hb, hml, hown, hts⟩ hK hP hA hS hZ (c_X12_begins_1_7 l D cI cL ad zz hJ σ τ h55_55) cw_RX12_379 (jc_55 cI cL ad σ τ) rfl ⟨Nat.le_of_ble_eq_true rfl, Nat.le_of_ble_eq_true rfl⟩ rfl rfl rfl hl.1 rfl (Nat.le_of_ble_eq_true rfl) dX12_putsAs_42 ⟨Nat.zero_le _, Nat.zero_le _⟩ (fun σ1 τ1 H locs h1 hP hS => ?_)
  obtain ⟨rfl, f3, f4, f5, m6, m7, h1⟩ := h1
  refine lv_iload_n hx hb dX12_putsAs_45 rfl (lv_at hl 2 rfl) ?_
  refine lv_aload_n hx hb dX12_putsAs_46 rfl (lv_at hl 0 rfl) ?_
  refine va_get (D := D) hx hb hts inlX12 hown hK hP 55 (jc_55 cI cL ad σ1 τ) rfl 57 (by decide) (hts _ kw_49_9) (fun _ h9 => h9) rfl dX12_putsAs_47 ?_
  have m8 : σ1 55 57 = (σ 55 57) := (by rw [f4 57 (by omega)])
  refine jtopr m8 ?_
  have g9 := jrg (rfl : (σ 55 57).toInt = (σ 55 57).toInt)
  refine lv_iadd hx hb dX12_putsAs_50 ?_
  refine lv_topi (fun x10 ex10 => ?_)
  have gx10 := jrg (rfl : x10.toInt = x10.toInt)
  exact hret x10 σ1 τ _ _ _ _ rfl ⟨rfl, (fun i hi => by rw [f3 i (by omega)]), (fun k hk => by rw [f4 k (by omega)]), (fun k hk => by rw [f5 k (by omega)]), m6, m7, ⟨(by rw [ex10]), trivial⟩⟩ hP hS dX12_putsAs_51
set_option maxHeartbeats 4000000 in
set_option maxRecDepth 100000 in
theorem c_X12_givesAs_5_5_4_x1 (l : Launch) (D : va_G) (cI cL : ClassId) (ad zz : Nat → Nat) (hJ : jD ad) (σ : Nat → Nat → Int32) (τ : Nat → Nat → Int64) (h55_55 : σ 55 55 = 4) (hp0 : (σ 55 56).toInt = 5) : jM l yX12_givesAs cX12_givesAs 4 (some .int) ({ frames := 3, cells := 0, slots := 0, locals := 67 }) D cI cL ad zz [.ref (ad 55), .int 5, .int 1] σ τ (fun r σ' τ' => τ = τ' ∧ (∀ i : Nat, (i < 55 ∨ 55 < i) ∧ (i < 85 ∨ 85 < i) → σ' i = σ i) ∧ (∀ k : Nat, (k < 55 ∨ 55 < k) → σ' 55 k = σ 55 k) ∧ (∀ k : Nat, (k < 4 ∨ 4 < k) ∧ (k < 5 ∨ 5 < k) ∧ (k < 6 ∨ 6 < k) ∧ (k < 7 ∨ 7 < k) → σ' 85 k = σ 85 k) ∧ (σ' 55 55 = 8) ∧ (σ' 85 4 = 60) ∧ (σ' 85 5 = 30) ∧ (σ' 85 6 = 11) ∧ (σ' 85 7 = 1) ∧ ((r = (((1 ^^^ (σ 55 57)) * 3) - (2 + (σ 55 57))) ∧ True))) := by
  refine jM.of hJ (by decide +kernel) (nt := .int) rfl (Nat.le_of_ble_eq_true rfl) ?_
  intro p e s m args below meth c Q ls hC hret hl hP
  obtain ⟨hx, hb, hr, hml, hown, hts, hK, -, hlocks, hZ⟩ := hC
  have hown : s.vm.findClass RX12 = some m.cls := hown
  have hS : va_S (jA ad) s.heap s.heap [] := va_S.rf
  have hA : ∀ q, jA ad q → jA ad q := fun _ h => h
  have hl : lv_has ls 4 [(0, .ref (ad 55)), (1, .int 5), (2, .int 1)] := hl
  refine lv_iload_n hx hb dX12_givesAs_0 rfl (lv_at hl 1 rfl) ?_
  refine lv_iconst (v := 5) hx hb dX12_givesAs_1 (by decide) ?_
  refine lv_icmp_ne (tgt := 30) hx hb dX12_givesAs_2 (by decide) (fun c => absurd (by decide) c) (fun _ => ?_)
  refine lv_aload_n hx hb dX12_givesAs_5 rfl (lv_at hl 0 rfl) ?_
  refine lv_bipush (v := 60) hx hb dX12_givesAs_6 (by decide) ?_
  refine jcallVv (As := [.int 60]) (rest := []) ⟨hx, hb, hml, hown, hts⟩ hK hP hA hS hZ (c_X12_begins_60_4 l D cI cL ad zz hJ σ τ h55_55) cw_RX12_379 (jc_55 cI cL ad σ τ) rfl ⟨Nat.le_of_ble_eq_true rfl, Nat.le_of_ble_eq_true rfl⟩ rfl rfl rfl hl.1 rfl (Nat.le_of_ble_eq_true rfl) dX12_givesAs_8 ⟨Nat.zero_le _, Nat.zero_le _⟩ (fun σ1 τ1 H locs h1 hP hS => ?_)
  obtain ⟨rfl, f3, f4, f5, m6, m7, h1⟩ := h1
  refine lv_aload_n hx hb dX12_givesAs_11 rfl (lv_at hl 0 rfl) ?_
  refine lv_iconst (v := 3) hx hb dX12_givesAs_12 (by decide) ?_
  refine lv_iload_n hx hb dX12_givesAs_13 rfl (lv_at hl 2 rfl) ?_
  have z8 : (σ1 55 56).toInt = (σ 55 56).toInt := by rw [(show σ1 55 56 = (σ 55 56) from (by rw [f4 56 (by omega)]))]
  refine jcallV (As := [.int 3, .int 1]) (rest := []) ⟨hx, hb, hml, hown, hts⟩ hK hP hA hS hZ (c_X12_givesAs_5_3_5_x1 l D cI cL ad zz hJ σ1 τ m6 (by omega)) cw_RX12_394 (jc_55 cI cL ad σ1 τ) rfl ⟨Nat.le_of_ble_eq_true rfl, Nat.le_of_ble_eq_true rfl⟩ rfl rfl rfl hl.1 rfl (Nat.le_of_ble_eq_true rfl) dX12_givesAs_14 ⟨Nat.zero_le _, Nat.zero_le _⟩ (fun r10 σ9 τ9 H locs h9 hP hS => ?_)
  obtain ⟨rfl, f11, f12, f13, m14, m15, m16, h9⟩ := h9
  have h17 := h9
  obtain ⟨q19, k18⟩ := h17
  have q19 := q19.symm
  subst q19
  refine lv_istore_n (lv' := [(3, .int ((1 ^^^ (σ1 55 57)) * 3)), (0, .ref (ad 55)), (1, .int 5), (2, .int 1)]) hx hb dX12_givesAs_17 rfl hl (by decide) rfl (fun ls hl => ?_)
  refine lv_iload_n hx hb dX12_givesAs_18 rfl (lv_at hl 0 rfl) ?_
  refine lv_aload_n hx hb dX12_givesAs_19 rfl (lv_at hl 1 rfl) ?_
  refine lv_aload_n hx hb dX12_givesAs_20 rfl (lv_at hl 1 rfl) ?_
  refine va_get (D := D) hx hb hts inlX12 hown hK hP 55 (jc_55 cI cL ad σ9 τ) rfl 56 (by decide) (hts _ kw_49_8) (fun _ h9 => h9) rfl dX12_givesAs_21 ?_
  have m20 : σ9 55 56 = (σ 55 56) := (by rw [f12 56 (by omega)]; exact (by rw [f4 56 (by omega)]))
  refine jtopr m20 ?_
  refine jtopr (jsame (rfl : (σ 55 56).toInt = (σ 55 56).toInt) jz_5 (by omega)) ?_
  refine lv_iconst (v := 2) hx hb dX12_givesAs_24 (by decide) ?_
  have z21 : (σ9 55 56).toInt = (σ 55 56).toInt := by rw [(show σ9 55 56 = (σ 55 56) from m20)]
  refine jcallV (As := [.int 5, .int 2]) (rest := [.int ((1 ^^^ (σ1 55 57)) * 3)]) ⟨hx, hb, hml, hown, hts⟩ hK hP hA hS hZ (c_X12_putsAs_5_5_7_x2 l D cI cL ad zz hJ σ9 τ m14 (by omega)) cw_RX12_382 (jc_55 cI cL ad σ9 τ) rfl ⟨Nat.le_of_ble_eq_true rfl, Nat.le_of_ble_eq_true rfl⟩ rfl rfl rfl hl.1 rfl (Nat.le_of_ble_eq_true rfl) dX12_givesAs_25 ⟨Nat.zero_le _, Nat.zero_le _⟩ (fun r23 σ22 τ22 H locs h22 hP hS => ?_)
  obtain ⟨rfl, f24, f25, f26, m27, m28, h22⟩ := h22
  have h29 := h22
  obtain ⟨q31, k30⟩ := h29
  have q31 := q31.symm
  subst q31
  have g32 := jrg (rfl : ((1 ^^^ (σ1 55 57)) * 3).toInt = ((1 ^^^ (σ1 55 57)) * 3).toInt)
  have g33 := jrg (rfl : (2 + (σ9 55 57)).toInt = (2 + (σ9 55 57)).toInt)
  refine lv_isub hx hb dX12_givesAs_28 ?_
  refine lv_topi (fun x34 ex34 => ?_)
  have gx34 := jrg (rfl : x34.toInt = x34.toInt)
  have m35 : σ22 85 4 = 60 := (by rw [f26 4 (by omega)]; exact (by rw [f13 4 (by omega)]; exact m7))
  have m36 : σ22 85 5 = 30 := (by rw [f26 5 (by omega)]; exact m15)
  have m37 : σ22 85 6 = 11 := (by rw [f26 6 (by omega)]; exact m16)
  exact hret x34 σ22 τ _ _ _ _ rfl ⟨rfl, (fun i hi => by rw [f24 i (by omega), f11 i (by omega), f3 i (by omega)]), (fun k hk => by rw [f25 k (by omega), f12 k (by omega), f4 k (by omega)]), (fun k hk => by rw [f26 k (by omega), f13 k (by omega), f5 k (by omega)]), m27, m35, m36, m37, m28, ⟨(by rw [ex34, (show σ1 55 57 = σ 55 57 from (by rw [f4 57 (by omega)])), (show σ9 55 57 = σ 55 57 from (by rw [f12 57 (by omega), f4 57 (by omega)]))]), trivial⟩⟩ hP hS dX12_givesAs_29
set_option maxHeartbeats 4000000 in
set_option maxRecDepth 100000 in
theorem c_X12_tellsAs_5_5_0 (l : Launch) (D : va_G) (cI cL : ClassId) (ad zz : Nat → Nat) (hJ : jD ad) (σ : Nat → Nat → Int32) (τ : Nat → Nat → Int64) (a2 : Int32) (A2 : Int) (t2 : a2.toInt = A2) (h55_55 : σ 55 55 = 0) (hp0 : (σ 55 56).toInt = 5) : jM l yX12_tellsAs cX12_tellsAs 4 (some .int) ({ frames := 4, cells := 0, slots := 0, locals := 90 }) D cI cL ad zz [.ref (ad 55), .int 5, .int a2] σ τ (fun r σ' τ' => τ = τ' ∧ (∀ i : Nat, (i < 55 ∨ 55 < i) ∧ (i < 85 ∨ 85 < i) → σ' i = σ i) ∧ (∀ k : Nat, (k < 55 ∨ 55 < k) → σ' 55 k = σ 55 k) ∧ (∀ k : Nat, (k < 0 ∨ 0 < k) ∧ (k < 1 ∨ 1 < k) ∧ (k < 2 ∨ 2 < k) ∧ (k < 3 ∨ 3 < k) ∧ (k < 4 ∨ 4 < k) ∧ (k < 5 ∨ 5 < k) ∧ (k < 6 ∨ 6 < k) ∧ (k < 7 ∨ 7 < k) → σ' 85 k = σ 85 k) ∧ (σ' 55 55 = 8) ∧ (σ' 85 0 = 2) ∧ (σ' 85 1 = 40) ∧ (σ' 85 2 = 10) ∧ (σ' 85 3 = 1) ∧ (σ' 85 4 = 60) ∧ (σ' 85 5 = 30) ∧ (σ' 85 6 = 11) ∧ (σ' 85 7 = 1) ∧ ((r = ((-((a2 + (σ 55 57)) * 2)) - (((1 ^^^ (σ 55 57)) * 3) - (2 + (σ 55 57)))) ∧ True))) := by
  refine jM.of hJ (by decide +kernel) (nt := .int) rfl (Nat.le_of_ble_eq_true rfl) ?_
  intro p e s m args below meth c Q ls hC hret hl hP
  obtain ⟨hx, hb, hr, hml, hown, hts, hK, -, hlocks, hZ⟩ := hC
  have hown : s.vm.findClass RX12 = some m.cls := hown
  have hS : va_S (jA ad) s.heap s.heap [] := va_S.rf
  have hA : ∀ q, jA ad q → jA ad q := fun _ h => h
  have hl : lv_has ls 4 [(0, .ref (ad 55)), (1, .int 5), (2, .int a2)] := hl
  have g2 := jrg t2
  refine lv_iload_n hx hb dX12_tellsAs_0 rfl (lv_at hl 1 rfl) ?_
  refine lv_iconst (v := 4) hx hb dX12_tellsAs_1 (by decide) ?_
  refine lv_icmp_ne (tgt := 20) hx hb dX12_tellsAs_2 (by decide) (fun _ => ?_) (fun c => absurd c (by decide))
  refine lv_aload_n hx hb dX12_tellsAs_20 rfl (lv_at hl 0 rfl) ?_
  refine lv_iconst (v := 2) hx hb dX12_tellsAs_21 (by decide) ?_
  refine jcallVv (As := [.int 2]) (rest := []) ⟨hx, hb, hml, hown, hts⟩ hK hP hA hS hZ (c_X12_begins_2_0 l D cI cL ad zz hJ σ τ h55_55) cw_RX12_379 (jc_55 cI cL ad σ τ) rfl ⟨Nat.le_of_ble_eq_true rfl, Nat.le_of_ble_eq_true rfl⟩ rfl rfl rfl hl.1 rfl (Nat.le_of_ble_eq_true rfl) dX12_tellsAs_22 ⟨Nat.zero_le _, Nat.zero_le _⟩ (fun σ1 τ1 H locs h1 hP hS => ?_)
  obtain ⟨rfl, f3, f4, f5, m6, m7, h1⟩ := h1
  refine lv_aload_n hx hb dX12_tellsAs_25 rfl (lv_at hl 0 rfl) ?_
  refine lv_aload_n hx hb dX12_tellsAs_26 rfl (lv_at hl 0 rfl) ?_
  refine va_get (D := D) hx hb hts inlX12 hown hK hP 55 (jc_55 cI cL ad σ1 τ) rfl 56 (by decide) (hts _ kw_49_8) (fun _ h9 => h9) rfl dX12_tellsAs_27 ?_
  have m8 : σ1 55 56 = (σ 55 56) := (by rw [f4 56 (by omega)])
  refine jtopr m8 ?_
  refine jtopr (jsame (rfl : (σ 55 56).toInt = (σ 55 56).toInt) jz_5 (by omega)) ?_
  refine lv_iload_n hx hb dX12_tellsAs_30 rfl (lv_at hl 2 rfl) ?_
  have z9 : (σ1 55 56).toInt = (σ 55 56).toInt := by rw [(show σ1 55 56 = (σ 55 56) from m8)]
  refine jcallV (As := [.int 5, .int a2]) (rest := []) ⟨hx, hb, hml, hown, hts⟩ hK hP hA hS hZ (c_X12_holdsAs_5_5_1 l D cI cL ad zz hJ σ1 τ a2 (A2) t2 m6 (by omega)) cw_RX12_388 (jc_55 cI cL ad σ1 τ) rfl ⟨Nat.le_of_ble_eq_true rfl, Nat.le_of_ble_eq_true rfl⟩ rfl rfl rfl hl.1 rfl (Nat.le_of_ble_eq_true rfl) dX12_tellsAs_31 ⟨Nat.zero_le _, Nat.zero_le _⟩ (fun r11 σ10 τ10 H locs h10 hP hS => ?_)
  obtain ⟨rfl, f12, f13, f14, m15, m16, m17, m18, h10⟩ := h10
  have h19 := h10
  obtain ⟨q21, k20⟩ := h19
  have q21 := q21.symm
  subst q21
  refine lv_istore_n (lv' := [(3, .int (-((a2 + (σ1 55 57)) * 2))), (0, .ref (ad 55)), (1, .int 5), (2, .int a2)]) hx hb dX12_tellsAs_34 rfl hl (by decide) rfl (fun ls hl => ?_)
  refine lv_iload_n hx hb dX12_tellsAs_35 rfl (lv_at hl 0 rfl) ?_
  refine lv_aload_n hx hb dX12_tellsAs_36 rfl (lv_at hl 1 rfl) ?_
  refine lv_aload_n hx hb dX12_tellsAs_37 rfl (lv_at hl 1 rfl) ?_
  refine va_get (D := D) hx hb hts inlX12 hown hK hP 55 (jc_55 cI cL ad σ10 τ) rfl 56 (by decide) (hts _ kw_49_8) (fun _ h9 => h9) rfl dX12_tellsAs_38 ?_
  have m22 : σ10 55 56 = (σ 55 56) := (by rw [f13 56 (by omega)]; exact m8)
  refine jtopr m22 ?_
  refine jtopr (jsame (rfl : (σ 55 56).toInt = (σ 55 56).toInt) jz_5 (by omega)) ?_
  refine lv_iconst (v := 1) hx hb dX12_tellsAs_41 (by decide) ?_
  have z23 : (σ10 55 56).toInt = (σ 55 56).toInt := by rw [(show σ10 55 56 = (σ 55 56) from m22)]
  refine jcallV (As := [.int 5, .int 1]) (rest := [.int (-((a2 + (σ1 55 57)) * 2))]) ⟨hx, hb, hml, hown, hts⟩ hK hP hA hS hZ (c_X12_givesAs_5_5_4_x1 l D cI cL ad zz hJ σ10 τ m15 (by omega)) cw_RX12_394 (jc_55 cI cL ad σ10 τ) rfl ⟨Nat.le_of_ble_eq_true rfl, Nat.le_of_ble_eq_true rfl⟩ rfl rfl rfl hl.1 rfl (Nat.le_of_ble_eq_true rfl) dX12_tellsAs_42 ⟨Nat.zero_le _, Nat.zero_le _⟩ (fun r25 σ24 τ24 H locs h24 hP hS => ?_)
  obtain ⟨rfl, f26, f27, f28, m29, m30, m31, m32, m33, h24⟩ := h24
  have h34 := h24
  obtain ⟨q36, k35⟩ := h34
  have q36 := q36.symm
  subst q36
  have g37 := jrg (rfl : (-((a2 + (σ1 55 57)) * 2)).toInt = (-((a2 + (σ1 55 57)) * 2)).toInt)
  have g38 := jrg (rfl : (((1 ^^^ (σ10 55 57)) * 3) - (2 + (σ10 55 57))).toInt = (((1 ^^^ (σ10 55 57)) * 3) - (2 + (σ10 55 57))).toInt)
  refine lv_isub hx hb dX12_tellsAs_45 ?_
  refine lv_topi (fun x39 ex39 => ?_)
  have gx39 := jrg (rfl : x39.toInt = x39.toInt)
  have m40 : σ24 85 0 = 2 := (by rw [f28 0 (by omega)]; exact (by rw [f14 0 (by omega)]; exact m7))
  have m41 : σ24 85 1 = 40 := (by rw [f28 1 (by omega)]; exact m16)
  have m42 : σ24 85 2 = 10 := (by rw [f28 2 (by omega)]; exact m17)
  have m43 : σ24 85 3 = 1 := (by rw [f28 3 (by omega)]; exact m18)
  exact hret x39 σ24 τ _ _ _ _ rfl ⟨rfl, (fun i hi => by rw [f26 i (by omega), f12 i (by omega), f3 i (by omega)]), (fun k hk => by rw [f27 k (by omega), f13 k (by omega), f4 k (by omega)]), (fun k hk => by rw [f28 k (by omega), f14 k (by omega), f5 k (by omega)]), m29, m40, m41, m42, m43, m30, m31, m32, m33, ⟨(by rw [ex39, (show σ1 55 57 = σ 55 57 from (by rw [f4 57 (by omega)])), (show σ10 55 57 = σ 55 57 from (by rw [f13 57 (by omega), f4 57 (by omega)]))]), trivial⟩⟩ hP hS dX12_tellsAs_46
set_option maxHeartbeats 4000000 in
set_option maxRecDepth 100000 in
theorem c_X12_putsAs_6_6_0 (l : Launch) (D : va_G) (cI cL : ClassId) (ad zz : Nat → Nat) (hJ : jD ad) (σ : Nat → Nat → Int32) (τ : Nat → Nat → Int64) (a2 : Int32) (A2 : Int) (t2 : a2.toInt = A2) (h55_55 : σ 55 55 = 0) (hp0 : (σ 55 56).toInt = 6) : jM l yX12_putsAs cX12_putsAs 3 (some .int) ({ frames := 1, cells := 0, slots := 0, locals := 21 }) D cI cL ad zz [.ref (ad 55), .int 6, .int a2] σ τ (fun r σ' τ' => τ = τ' ∧ (∀ i : Nat, (i < 55 ∨ 55 < i) ∧ (i < 85 ∨ 85 < i) → σ' i = σ i) ∧ (∀ k : Nat, (k < 55 ∨ 55 < k) → σ' 55 k = σ 55 k) ∧ (∀ k : Nat, (k < 0 ∨ 0 < k) → σ' 85 k = σ 85 k) ∧ (σ' 55 55 = 1) ∧ (σ' 85 0 = 1) ∧ ((r = (a2 + (σ 55 57)) ∧ True))) := by
  refine jM.of hJ (by decide +kernel) (nt := .int) rfl (Nat.le_of_ble_eq_true rfl) ?_
  intro p e s m args below meth c Q ls hC hret hl hP
  obtain ⟨hx, hb, hr, hml, hown, hts, hK, -, hlocks, hZ⟩ := hC
  have hown : s.vm.findClass RX12 = some m.cls := hown
  have hS : va_S (jA ad) s.heap s.heap [] := va_S.rf
  have hA : ∀ q, jA ad q → jA ad q := fun _ h => h
  have hl : lv_has ls 3 [(0, .ref (ad 55)), (1, .int 6), (2, .int a2)] := hl
  have g2 := jrg t2
  refine lv_iload_n hx hb dX12_putsAs_0 rfl (lv_at hl 1 rfl) ?_
  refine lv_iconst (v := 4) hx hb dX12_putsAs_1 (by decide) ?_
  refine lv_icmp_ne (tgt := 20) hx hb dX12_putsAs_2 (by decide) (fun _ => ?_) (fun c => absurd c (by decide))
  refine lv_iload_n hx hb dX12_putsAs_20 rfl (lv_at hl 1 rfl) ?_
  refine lv_iconst (v := 1) hx hb dX12_putsAs_21 (by decide) ?_
  refine lv_icmp_ne (tgt := 40) hx hb dX12_putsAs_22 (by decide) (fun _ => ?_) (fun c => absurd c (by decide))
  refine lv_aload_n hx hb dX12_putsAs_40 rfl (lv_at hl 0 rfl) ?_
  refine lv_iconst (v := 1) hx hb dX12_putsAs_41 (by decide) ?_
  refine jcallVv (As := [.int 1]) (rest := []) ⟨hx, hb, hml, hown, hts⟩ hK hP hA hS hZ (c_X12_begins_1_0 l D cI cL ad zz hJ σ τ h55_55) cw_RX12_379 (jc_55 cI cL ad σ τ) rfl ⟨Nat.le_of_ble_eq_true rfl, Nat.le_of_ble_eq_true rfl⟩ rfl rfl rfl hl.1 rfl (Nat.le_of_ble_eq_true rfl) dX12_putsAs_42 ⟨Nat.zero_le _, Nat.zero_le _⟩ (fun σ1 τ1 H locs h1 hP hS => ?_)
  obtain ⟨rfl, f3, f4, f5, m6, m7, h1⟩ := h1
  refine lv_iload_n hx hb dX12_putsAs_45 rfl (lv_at hl 2 rfl) ?_
  refine lv_aload_n hx hb dX12_putsAs_46 rfl (lv_at hl 0 rfl) ?_
  refine va_get (D := D) hx hb hts inlX12 hown hK hP 55 (jc_55 cI cL ad σ1 τ) rfl 57 (by decide) (hts _ kw_49_9) (fun _ h9 => h9) rfl dX12_putsAs_47 ?_
  have m8 : σ1 55 57 = (σ 55 57) := (by rw [f4 57 (by omega)])
  refine jtopr m8 ?_
  have g9 := jrg (rfl : (σ 55 57).toInt = (σ 55 57).toInt)
  refine lv_iadd hx hb dX12_putsAs_50 ?_
  refine lv_topi (fun x10 ex10 => ?_)
  have gx10 := jrg (rfl : x10.toInt = x10.toInt)
  exact hret x10 σ1 τ _ _ _ _ rfl ⟨rfl, (fun i hi => by rw [f3 i (by omega)]), (fun k hk => by rw [f4 k (by omega)]), (fun k hk => by rw [f5 k (by omega)]), m6, m7, ⟨(by rw [ex10]), trivial⟩⟩ hP hS dX12_putsAs_51
set_option maxHeartbeats 4000000 in
set_option maxRecDepth 100000 in
theorem c_X12_begins_70_0 (l : Launch) (D : va_G) (cI cL : ClassId) (ad zz : Nat → Nat) (hJ : jD ad) (σ : Nat → Nat → Int32) (τ : Nat → Nat → Int64) (h55_55 : σ 55 55 = 0) : jMv l yX12_begins cX12_begins 2 none ({ frames := 0, cells := 0, slots := 0, locals := 0 }) D cI cL ad zz [.ref (ad 55), .int 70] σ τ (fun σ' τ' => τ = τ' ∧ (∀ i : Nat, (i < 55 ∨ 55 < i) ∧ (i < 85 ∨ 85 < i) → σ' i = σ i) ∧ (∀ k : Nat, (k < 55 ∨ 55 < k) → σ' 55 k = σ 55 k) ∧ (∀ k : Nat, (k < 0 ∨ 0 < k) → σ' 85 k = σ 85 k) ∧ (σ' 55 55 = 1) ∧ (σ' 85 0 = 70) ∧ True) := by
  refine jMv.of hJ (by decide +kernel) rfl (Nat.le_of_ble_eq_true rfl) ?_
  intro p e s m args below meth c Q ls hC hret hl hP
  obtain ⟨hx, hb, hr, hml, hown, hts, hK, -, hlocks, hZ⟩ := hC
  have hown : s.vm.findClass RX12 = some m.cls := hown
  have hS : va_S (jA ad) s.heap s.heap [] := va_S.rf
  have hA : ∀ q, jA ad q → jA ad q := fun _ h => h
  have hl : lv_has ls 2 [(0, .ref (ad 55)), (1, .int 70)] := hl
  refine lv_aload_n hx hb dX12_begins_0 rfl (lv_at hl 0 rfl) ?_
  refine va_get (D := D) hx hb hts inlX12 hown hK hP 55 (jc_55 cI cL ad σ τ) rfl 55 (by decide) (hts _ kw_49_7) (fun _ h9 => h9) rfl dX12_begins_1 ?_
  refine jtopr h55_55 ?_
  refine lv_bipush (v := 24) hx hb dX12_begins_4 (by decide) ?_
  refine lv_icmp_ge (tgt := 19) hx hb dX12_begins_6 (by decide) (fun c => absurd c (by decide)) (fun _ => ?_)
  refine lv_aload_n hx hb dX12_begins_9 rfl (lv_at hl 0 rfl) ?_
  refine va_get (D := D) hx hb hts inlX12 hown hK hP 55 (jc_55 cI cL ad σ τ) rfl 54 (by decide) (hts _ kw_8_10) (fun _ h9 => h9) rfl dX12_begins_10 ?_
  refine lv_aload_n hx hb dX12_begins_13 rfl (lv_at hl 0 rfl) ?_
  refine va_get (D := D) hx hb hts inlX12 hown hK hP 55 (jc_55 cI cL ad σ τ) rfl 55 (by decide) (hts _ kw_49_7) (fun _ h9 => h9) rfl dX12_begins_14 ?_
  refine jtopr h55_55 ?_
  refine lv_iload_n hx hb dX12_begins_17 rfl (lv_at hl 1 rfl) ?_
  refine jast hx hb hK hP hJ hA hS (jc_85 cI cL ad σ τ) (ja_85 cI cL ad σ τ _ _) (jin jz_0 (by omega) (by omega)) dX12_begins_18 (fun σ1 H locs eσ1 hP hS => ?_)
  have eσ1 : σ1 = jup σ 85 0 70 := eσ1
  refine lv_aload_n hx hb dX12_begins_19 rfl (lv_at hl 0 rfl) ?_
  refine lv_dup hx hb dX12_begins_20 rfl ?_
  refine va_get (D := D) hx hb hts inlX12 hown hK hP 55 (jc_55 cI cL ad σ1 τ) rfl 55 (by decide) (hts _ kw_49_7) (fun _ h9 => h9) rfl dX12_begins_21 ?_
  have m2 : σ1 55 55 = 0 := (by rw [eσ1, jup_n (by decide)]; exact h55_55)
  refine jtopr m2 ?_
  refine lv_iconst (v := 1) hx hb dX12_begins_24 (by decide) ?_
  refine lv_iadd hx hb dX12_begins_25 ?_
  refine jtopr (y := 1) (by decide) ?_
  refine jput (ty := .int) hx hb hts inlX12 tyX12 tyX12_ok nmX12 hown hK hP hJ hA hS (jc_55 cI cL ad σ1 τ) rfl (k := 55) (by decide) (Nat.le_of_ble_eq_true rfl) (jp_55_55 cI cL ad σ1 τ 1) (hts _ kw_49_7) (fun _ h9 => h9) rfl (by decide +kernel) rfl rfl dX12_begins_26 (fun σ3 H locs eσ3 hP hS => ?_)
  have m4 : σ3 55 55 = 1 := (by rw [eσ3]; exact jup_s)
  have m5 : σ3 85 0 = 70 := (by rw [eσ3, jup_n (by decide)]; exact (by rw [eσ1]; exact jup_s))
  exact hret σ3 τ _ _ _ _ ⟨rfl, (fun i hi => by rw [eσ3, jup_n (by omega), eσ1, jup_n (by omega)]), (fun k hk => by rw [eσ3, jup_k (by omega), eσ1, jup_n (by decide)]), (fun k hk => by rw [eσ3, jup_n (by decide), eσ1, jup_k (by omega)]), m4, m5, trivial⟩ hP hS dX12_begins_29
set_option maxHeartbeats 4000000 in
set_option maxRecDepth 100000 in
theorem c_X12_putsAs_6_6_2 (l : Launch) (D : va_G) (cI cL : ClassId) (ad zz : Nat → Nat) (hJ : jD ad) (σ : Nat → Nat → Int32) (τ : Nat → Nat → Int64) (a2 : Int32) (A2 : Int) (t2 : a2.toInt = A2) (h55_55 : σ 55 55 = 2) (hp0 : (σ 55 56).toInt = 6) : jM l yX12_putsAs cX12_putsAs 3 (some .int) ({ frames := 1, cells := 0, slots := 0, locals := 21 }) D cI cL ad zz [.ref (ad 55), .int 6, .int a2] σ τ (fun r σ' τ' => τ = τ' ∧ (∀ i : Nat, (i < 55 ∨ 55 < i) ∧ (i < 85 ∨ 85 < i) → σ' i = σ i) ∧ (∀ k : Nat, (k < 55 ∨ 55 < k) → σ' 55 k = σ 55 k) ∧ (∀ k : Nat, (k < 2 ∨ 2 < k) → σ' 85 k = σ 85 k) ∧ (σ' 55 55 = 3) ∧ (σ' 85 2 = 1) ∧ ((r = (a2 + (σ 55 57)) ∧ True))) := by
  refine jM.of hJ (by decide +kernel) (nt := .int) rfl (Nat.le_of_ble_eq_true rfl) ?_
  intro p e s m args below meth c Q ls hC hret hl hP
  obtain ⟨hx, hb, hr, hml, hown, hts, hK, -, hlocks, hZ⟩ := hC
  have hown : s.vm.findClass RX12 = some m.cls := hown
  have hS : va_S (jA ad) s.heap s.heap [] := va_S.rf
  have hA : ∀ q, jA ad q → jA ad q := fun _ h => h
  have hl : lv_has ls 3 [(0, .ref (ad 55)), (1, .int 6), (2, .int a2)] := hl
  have g2 := jrg t2
  refine lv_iload_n hx hb dX12_putsAs_0 rfl (lv_at hl 1 rfl) ?_
  refine lv_iconst (v := 4) hx hb dX12_putsAs_1 (by decide) ?_
  refine lv_icmp_ne (tgt := 20) hx hb dX12_putsAs_2 (by decide) (fun _ => ?_) (fun c => absurd c (by decide))
  refine lv_iload_n hx hb dX12_putsAs_20 rfl (lv_at hl 1 rfl) ?_
  refine lv_iconst (v := 1) hx hb dX12_putsAs_21 (by decide) ?_
  refine lv_icmp_ne (tgt := 40) hx hb dX12_putsAs_22 (by decide) (fun _ => ?_) (fun c => absurd c (by decide))
  refine lv_aload_n hx hb dX12_putsAs_40 rfl (lv_at hl 0 rfl) ?_
  refine lv_iconst (v := 1) hx hb dX12_putsAs_41 (by decide) ?_
  refine jcallVv (As := [.int 1]) (rest := []) ⟨hx, hb, hml, hown, hts⟩ hK hP hA hS hZ (c_X12_begins_1_2 l D cI cL ad zz hJ σ τ h55_55) cw_RX12_379 (jc_55 cI cL ad σ τ) rfl ⟨Nat.le_of_ble_eq_true rfl, Nat.le_of_ble_eq_true rfl⟩ rfl rfl rfl hl.1 rfl (Nat.le_of_ble_eq_true rfl) dX12_putsAs_42 ⟨Nat.zero_le _, Nat.zero_le _⟩ (fun σ1 τ1 H locs h1 hP hS => ?_)
  obtain ⟨rfl, f3, f4, f5, m6, m7, h1⟩ := h1
  refine lv_iload_n hx hb dX12_putsAs_45 rfl (lv_at hl 2 rfl) ?_
  refine lv_aload_n hx hb dX12_putsAs_46 rfl (lv_at hl 0 rfl) ?_
  refine va_get (D := D) hx hb hts inlX12 hown hK hP 55 (jc_55 cI cL ad σ1 τ) rfl 57 (by decide) (hts _ kw_49_9) (fun _ h9 => h9) rfl dX12_putsAs_47 ?_
  have m8 : σ1 55 57 = (σ 55 57) := (by rw [f4 57 (by omega)])
  refine jtopr m8 ?_
  have g9 := jrg (rfl : (σ 55 57).toInt = (σ 55 57).toInt)
  refine lv_iadd hx hb dX12_putsAs_50 ?_
  refine lv_topi (fun x10 ex10 => ?_)
  have gx10 := jrg (rfl : x10.toInt = x10.toInt)
  exact hret x10 σ1 τ _ _ _ _ rfl ⟨rfl, (fun i hi => by rw [f3 i (by omega)]), (fun k hk => by rw [f4 k (by omega)]), (fun k hk => by rw [f5 k (by omega)]), m6, m7, ⟨(by rw [ex10]), trivial⟩⟩ hP hS dX12_putsAs_51
set_option maxHeartbeats 4000000 in
set_option maxRecDepth 100000 in
theorem c_X12_holdsAs_6_0_1 (l : Launch) (D : va_G) (cI cL : ClassId) (ad zz : Nat → Nat) (hJ : jD ad) (σ : Nat → Nat → Int32) (τ : Nat → Nat → Int64) (a2 : Int32) (A2 : Int) (t2 : a2.toInt = A2) (h55_55 : σ 55 55 = 1) (hp0 : (σ 55 56).toInt = 6) : jM l yX12_holdsAs cX12_holdsAs 4 (some .int) ({ frames := 2, cells := 0, slots := 0, locals := 43 }) D cI cL ad zz [.ref (ad 55), .int 0, .int a2] σ τ (fun r σ' τ' => τ = τ' ∧ (∀ i : Nat, (i < 55 ∨ 55 < i) ∧ (i < 85 ∨ 85 < i) → σ' i = σ i) ∧ (∀ k : Nat, (k < 55 ∨ 55 < k) → σ' 55 k = σ 55 k) ∧ (∀ k : Nat, (k < 1 ∨ 1 < k) ∧ (k < 2 ∨ 2 < k) → σ' 85 k = σ 85 k) ∧ (σ' 55 55 = 3) ∧ (σ' 85 1 = 10) ∧ (σ' 85 2 = 1) ∧ ((r = ((a2 + (σ 55 57)) * 2) ∧ True))) := by
  refine jM.of hJ (by decide +kernel) (nt := .int) rfl (Nat.le_of_ble_eq_true rfl) ?_
  intro p e s m args below meth c Q ls hC hret hl hP
  obtain ⟨hx, hb, hr, hml, hown, hts, hK, -, hlocks, hZ⟩ := hC
  have hown : s.vm.findClass RX12 = some m.cls := hown
  have hS : va_S (jA ad) s.heap s.heap [] := va_S.rf
  have hA : ∀ q, jA ad q → jA ad q := fun _ h => h
  have hl : lv_has ls 4 [(0, .ref (ad 55)), (1, .int 0), (2, .int a2)] := hl
  have g2 := jrg t2
  refine lv_iload_n hx hb dX12_holdsAs_0 rfl (lv_at hl 1 rfl) ?_
  refine lv_iconst (v := 3) hx hb dX12_holdsAs_1 (by decide) ?_
  refine lv_icmp_eq (tgt := 10) hx hb dX12_holdsAs_2 (by decide) (fun c => absurd c (by decide)) (fun _ => ?_)
  refine lv_iload_n hx hb dX12_holdsAs_5 rfl (lv_at hl 1 rfl) ?_
  refine lv_iconst (v := 5) hx hb dX12_holdsAs_6 (by decide) ?_
  refine lv_icmp_ne (tgt := 24) hx hb dX12_holdsAs_7 (by decide) (fun _ => ?_) (fun c => absurd c (by decide))
  refine lv_iload_n hx hb dX12_holdsAs_24 rfl (lv_at hl 1 rfl) ?_
  refine lv_bipush (v := 6) hx hb dX12_holdsAs_25 (by decide) ?_
  refine lv_icmp_ne (tgt := 55) hx hb dX12_holdsAs_27 (by decide) (fun _ => ?_) (fun c => absurd c (by decide))
  refine lv_aload_n hx hb dX12_holdsAs_55 rfl (lv_at hl 0 rfl) ?_
  refine lv_bipush (v := 10) hx hb dX12_holdsAs_56 (by decide) ?_
  refine jcallVv (As := [.int 10]) (rest := []) ⟨hx, hb, hml, hown, hts⟩ hK hP hA hS hZ (c_X12_begins_10_1 l D cI cL ad zz hJ σ τ h55_55) cw_RX12_379 (jc_55 cI cL ad σ τ) rfl ⟨Nat.le_of_ble_eq_true rfl, Nat.le_of_ble_eq_true rfl⟩ rfl rfl rfl hl.1 rfl (Nat.le_of_ble_eq_true rfl) dX12_holdsAs_58 ⟨Nat.zero_le _, Nat.zero_le _⟩ (fun σ1 τ1 H locs h1 hP hS => ?_)
  obtain ⟨rfl, f3, f4, f5, m6, m7, h1⟩ := h1
  refine lv_aload_n hx hb dX12_holdsAs_61 rfl (lv_at hl 0 rfl) ?_
  refine lv_aload_n hx hb dX12_holdsAs_62 rfl (lv_at hl 0 rfl) ?_
  refine va_get (D := D) hx hb hts inlX12 hown hK hP 55 (jc_55 cI cL ad σ1 τ) rfl 56 (by decide) (hts _ kw_49_8) (fun _ h9 => h9) rfl dX12_holdsAs_63 ?_
  have m8 : σ1 55 56 = (σ 55 56) := (by rw [f4 56 (by omega)])
  refine jtopr m8 ?_
  refine jtopr (jsame (rfl : (σ 55 56).toInt = (σ 55 56).toInt) jz_6 (by omega)) ?_
  refine lv_iload_n hx hb dX12_holdsAs_66 rfl (lv_at hl 2 rfl) ?_
  have z9 : (σ1 55 56).toInt = (σ 55 56).toInt := by rw [(show σ1 55 56 = (σ 55 56) from m8)]
  refine jcallV (As := [.int 6, .int a2]) (rest := []) ⟨hx, hb, hml, hown, hts⟩ hK hP hA hS hZ (c_X12_putsAs_6_6_2 l D cI cL ad zz hJ σ1 τ a2 (A2) t2 m6 (by omega)) cw_RX12_382 (jc_55 cI cL ad σ1 τ) rfl ⟨Nat.le_of_ble_eq_true rfl, Nat.le_of_ble_eq_true rfl⟩ rfl rfl rfl hl.1 rfl (Nat.le_of_ble_eq_true rfl) dX12_holdsAs_67 ⟨Nat.zero_le _, Nat.zero_le _⟩ (fun r11 σ10 τ10 H locs h10 hP hS => ?_)
  obtain ⟨rfl, f12, f13, f14, m15, m16, h10⟩ := h10
  have h17 := h10
  obtain ⟨q19, k18⟩ := h17
  have q19 := q19.symm
  subst q19
  refine lv_iconst (v := 2) hx hb dX12_holdsAs_70 (by decide) ?_
  have g20 := jrg (rfl : (a2 + (σ1 55 57)).toInt = (a2 + (σ1 55 57)).toInt)
  refine lv_imul hx hb dX12_holdsAs_71 ?_
  refine lv_topi (fun x21 ex21 => ?_)
  have gx21 := jrg (rfl : x21.toInt = x21.toInt)
  have m22 : σ10 85 1 = 10 := (by rw [f14 1 (by omega)]; exact m7)
  exact hret x21 σ10 τ _ _ _ _ rfl ⟨rfl, (fun i hi => by rw [f12 i (by omega), f3 i (by omega)]), (fun k hk => by rw [f13 k (by omega), f4 k (by omega)]), (fun k hk => by rw [f14 k (by omega), f5 k (by omega)]), m15, m22, m16, ⟨(by rw [ex21, (show σ1 55 57 = σ 55 57 from (by rw [f4 57 (by omega)]))]), trivial⟩⟩ hP hS dX12_holdsAs_72
set_option maxHeartbeats 4000000 in
set_option maxRecDepth 100000 in
theorem c_X12_givesAs_6_6_3_x1 (l : Launch) (D : va_G) (cI cL : ClassId) (ad zz : Nat → Nat) (hJ : jD ad) (σ : Nat → Nat → Int32) (τ : Nat → Nat → Int64) (h55_55 : σ 55 55 = 3) (hp0 : (σ 55 56).toInt = 6) : jM l yX12_givesAs cX12_givesAs 4 (some .int) ({ frames := 1, cells := 0, slots := 0, locals := 21 }) D cI cL ad zz [.ref (ad 55), .int 6, .int 1] σ τ (fun r σ' τ' => τ = τ' ∧ (∀ i : Nat, (i < 55 ∨ 55 < i) ∧ (i < 85 ∨ 85 < i) → σ' i = σ i) ∧ (∀ k : Nat, (k < 55 ∨ 55 < k) → σ' 55 k = σ 55 k) ∧ (∀ k : Nat, (k < 3 ∨ 3 < k) → σ' 85 k = σ 85 k) ∧ (σ' 55 55 = 4) ∧ (σ' 85 3 = 11) ∧ ((r = (1 ^^^ (σ 55 57)) ∧ True))) := by
  refine jM.of hJ (by decide +kernel) (nt := .int) rfl (Nat.le_of_ble_eq_true rfl) ?_
  intro p e s m args below meth c Q ls hC hret hl hP
  obtain ⟨hx, hb, hr, hml, hown, hts, hK, -, hlocks, hZ⟩ := hC
  have hown : s.vm.findClass RX12 = some m.cls := hown
  have hS : va_S (jA ad) s.heap s.heap [] := va_S.rf
  have hA : ∀ q, jA ad q → jA ad q := fun _ h => h
  have hl : lv_has ls 4 [(0, .ref (ad 55)), (1, .int 6), (2, .int 1)] := hl
  refine lv_iload_n hx hb dX12_givesAs_0 rfl (lv_at hl 1 rfl) ?_
  refine lv_iconst (v := 5) hx hb dX12_givesAs_1 (by decide) ?_
  refine lv_icmp_ne (tgt := 30) hx hb dX12_givesAs_2 (by decide) (fun _ => ?_) (fun c => absurd c (by decide))
  refine lv_iload_n hx hb dX12_givesAs_30 rfl (lv_at hl 1 rfl) ?_
  refine lv_iconst (v := 2) hx hb dX12_givesAs_31 (by decide) ?_
  refine lv_icmp_eq (tgt := 40) hx hb dX12_givesAs_32 (by decide) (fun c => absurd c (by decide)) (fun _ => ?_)
  refine lv_iload_n hx hb dX12_givesAs_35 rfl (lv_at hl 1 rfl) ?_
  refine lv_iconst (v := 3) hx hb dX12_givesAs_36 (by decide) ?_
  refine lv_icmp_ne (tgt := 55) hx hb dX12_givesAs_37 (by decide) (fun _ => ?_) (fun c => absurd c (by decide))
  refine lv_aload_n hx hb dX12_givesAs_55 rfl (lv_at hl 0 rfl) ?_
  refine lv_bipush (v := 11) hx hb dX12_givesAs_56 (by decide) ?_
  refine jcallVv (As := [.int 11]) (rest := []) ⟨hx, hb, hml, hown, hts⟩ hK hP hA hS hZ (c_X12_begins_11_3 l D cI cL ad zz hJ σ τ h55_55) cw_RX12_379 (jc_55 cI cL ad σ τ) rfl ⟨Nat.le_of_ble_eq_true rfl, Nat.le_of_ble_eq_true rfl⟩ rfl rfl rfl hl.1 rfl (Nat.le_of_ble_eq_true rfl) dX12_givesAs_58 ⟨Nat.zero_le _, Nat.zero_le _⟩ (fun σ1 τ1 H locs h1 hP hS => ?_)
  obtain ⟨rfl, f3, f4, f5, m6, m7, h1⟩ := h1
  refine lv_iload_n hx hb dX12_givesAs_61 rfl (lv_at hl 2 rfl) ?_
  refine lv_aload_n hx hb dX12_givesAs_62 rfl (lv_at hl 0 rfl) ?_
  refine va_get (D := D) hx hb hts inlX12 hown hK hP 55 (jc_55 cI cL ad σ1 τ) rfl 57 (by decide) (hts _ kw_49_9) (fun _ h9 => h9) rfl dX12_givesAs_63 ?_
  have m8 : σ1 55 57 = (σ 55 57) := (by rw [f4 57 (by omega)])
  refine jtopr m8 ?_
  refine lv_ixor hx hb dX12_givesAs_66 ?_
  refine lv_topi (fun x9 ex9 => ?_)
  have gx9 := jrg (rfl : x9.toInt = x9.toInt)
  exact hret x9 σ1 τ _ _ _ _ rfl ⟨rfl, (fun i hi => by rw [f3 i (by omega)]), (fun k hk => by rw [f4 k (by omega)]), (fun k hk => by rw [f5 k (by omega)]), m6, m7, ⟨(by rw [ex9]), trivial⟩⟩ hP hS dX12_givesAs_67
set_option maxHeartbeats 4000000 in
set_option maxRecDepth 100000 in
theorem c_X12_holdsAs_6_6_0 (l : Launch) (D : va_G) (cI cL : ClassId) (ad zz : Nat → Nat) (hJ : jD ad) (σ : Nat → Nat → Int32) (τ : Nat → Nat → Int64) (a2 : Int32) (A2 : Int) (t2 : a2.toInt = A2) (h55_55 : σ 55 55 = 0) (hp0 : (σ 55 56).toInt = 6) : jM l yX12_holdsAs cX12_holdsAs 4 (some .int) ({ frames := 3, cells := 0, slots := 0, locals := 66 }) D cI cL ad zz [.ref (ad 55), .int 6, .int a2] σ τ (fun r σ' τ' => τ = τ' ∧ (∀ i : Nat, (i < 55 ∨ 55 < i) ∧ (i < 85 ∨ 85 < i) → σ' i = σ i) ∧ (∀ k : Nat, (k < 55 ∨ 55 < k) → σ' 55 k = σ 55 k) ∧ (∀ k : Nat, (k < 0 ∨ 0 < k) ∧ (k < 1 ∨ 1 < k) ∧ (k < 2 ∨ 2 < k) ∧ (k < 3 ∨ 3 < k) → σ' 85 k = σ 85 k) ∧ (σ' 55 55 = 4) ∧ (σ' 85 0 = 70) ∧ (σ' 85 1 = 10) ∧ (σ' 85 2 = 1) ∧ (σ' 85 3 = 11) ∧ ((r = (((a2 + (σ 55 57)) * 2) + (1 ^^^ (σ 55 57))) ∧ True))) := by
  refine jM.of hJ (by decide +kernel) (nt := .int) rfl (Nat.le_of_ble_eq_true rfl) ?_
  intro p e s m args below meth c Q ls hC hret hl hP
  obtain ⟨hx, hb, hr, hml, hown, hts, hK, -, hlocks, hZ⟩ := hC
  have hown : s.vm.findClass RX12 = some m.cls := hown
  have hS : va_S (jA ad) s.heap s.heap [] := va_S.rf
  have hA : ∀ q, jA ad q → jA ad q := fun _ h => h
  have hl : lv_has ls 4 [(0, .ref (ad 55)), (1, .int 6), (2, .int a2)] := hl
  have g2 := jrg t2
  refine lv_iload_n hx hb dX12_holdsAs_0 rfl (lv_at hl 1 rfl) ?_
  refine lv_iconst (v := 3) hx hb dX12_holdsAs_1 (by decide) ?_
  refine lv_icmp_eq (tgt := 10) hx hb dX12_holdsAs_2 (by decide) (fun c => absurd c (by decide)) (fun _ => ?_)
  refine lv_iload_n hx hb dX12_holdsAs_5 rfl (lv_at hl 1 rfl) ?_
  refine lv_iconst (v := 5) hx hb dX12_holdsAs_6 (by decide) ?_
  refine lv_icmp_ne (tgt := 24) hx hb dX12_holdsAs_7 (by decide) (fun _ => ?_) (fun c => absurd c (by decide))
  refine lv_iload_n hx hb dX12_holdsAs_24 rfl (lv_at hl 1 rfl) ?_
  refine lv_bipush (v := 6) hx hb dX12_holdsAs_25 (by decide) ?_
  refine lv_icmp_ne (tgt := 55) hx hb dX12_holdsAs_27 (by decide) (fun c => absurd (by decide) c) (fun _ => ?_)
  refine lv_aload_n hx hb dX12_holdsAs_30 rfl (lv_at hl 0 rfl) ?_
  refine lv_bipush (v := 70) hx hb dX12_holdsAs_31 (by decide) ?_
  refine jcallVv (As := [.int 70]) (rest := []) ⟨hx, hb, hml, hown, hts⟩ hK hP hA hS hZ (c_X12_begins_70_0 l D cI cL ad zz hJ σ τ h55_55) cw_RX12_379 (jc_55 cI cL ad σ τ) rfl ⟨Nat.le_of_ble_eq_true rfl, Nat.le_of_ble_eq_true rfl⟩ rfl rfl rfl hl.1 rfl (Nat.le_of_ble_eq_true rfl) dX12_holdsAs_33 ⟨Nat.zero_le _, Nat.zero_le _⟩ (fun σ1 τ1 H locs h1 hP hS => ?_)
  obtain ⟨rfl, f3, f4, f5, m6, m7, h1⟩ := h1
  refine lv_aload_n hx hb dX12_holdsAs_36 rfl (lv_at hl 0 rfl) ?_
  refine lv_iconst (v := 0) hx hb dX12_holdsAs_37 (by decide) ?_
  refine lv_iload_n hx hb dX12_holdsAs_38 rfl (lv_at hl 2 rfl) ?_
  have z8 : (σ1 55 56).toInt = (σ 55 56).toInt := by rw [(show σ1 55 56 = (σ 55 56) from (by rw [f4 56 (by omega)]))]
  refine jcallV (As := [.int 0, .int a2]) (rest := []) ⟨hx, hb, hml, hown, hts⟩ hK hP hA hS hZ (c_X12_holdsAs_6_0_1 l D cI cL ad zz hJ σ1 τ a2 (A2) t2 m6 (by omega)) cw_RX12_388 (jc_55 cI cL ad σ1 τ) rfl ⟨Nat.le_of_ble_eq_true rfl, Nat.le_of_ble_eq_true rfl⟩ rfl rfl rfl hl.1 rfl (Nat.le_of_ble_eq_true rfl) dX12_holdsAs_39 ⟨Nat.zero_le _, Nat.zero_le _⟩ (fun r10 σ9 τ9 H locs h9 hP hS => ?_)
  obtain ⟨rfl, f11, f12, f13, m14, m15, m16, h9⟩ := h9
  have h17 := h9
  obtain ⟨q19, k18⟩ := h17
  have q19 := q19.symm
  subst q19
  refine lv_istore_n (lv' := [(3, .int ((a2 + (σ1 55 57)) * 2)), (0, .ref (ad 55)), (1, .int 6), (2, .int a2)]) hx hb dX12_holdsAs_42 rfl hl (by decide) rfl (fun ls hl => ?_)
  refine lv_iload_n hx hb dX12_holdsAs_43 rfl (lv_at hl 0 rfl) ?_
  refine lv_aload_n hx hb dX12_holdsAs_44 rfl (lv_at hl 1 rfl) ?_
  refine lv_aload_n hx hb dX12_holdsAs_45 rfl (lv_at hl 1 rfl) ?_
  refine va_get (D := D) hx hb hts inlX12 hown hK hP 55 (jc_55 cI cL ad σ9 τ) rfl 56 (by decide) (hts _ kw_49_8) (fun _ h9 => h9) rfl dX12_holdsAs_46 ?_
  have m20 : σ9 55 56 = (σ 55 56) := (by rw [f12 56 (by omega)]; exact (by rw [f4 56 (by omega)]))
  refine jtopr m20 ?_
  refine jtopr (jsame (rfl : (σ 55 56).toInt = (σ 55 56).toInt) jz_6 (by omega)) ?_
  refine lv_iconst (v := 1) hx hb dX12_holdsAs_49 (by decide) ?_
  have z21 : (σ9 55 56).toInt = (σ 55 56).toInt := by rw [(show σ9 55 56 = (σ 55 56) from m20)]
  refine jcallV (As := [.int 6, .int 1]) (rest := [.int ((a2 + (σ1 55 57)) * 2)]) ⟨hx, hb, hml, hown, hts⟩ hK hP hA hS hZ (c_X12_givesAs_6_6_3_x1 l D cI cL ad zz hJ σ9 τ m14 (by omega)) cw_RX12_394 (jc_55 cI cL ad σ9 τ) rfl ⟨Nat.le_of_ble_eq_true rfl, Nat.le_of_ble_eq_true rfl⟩ rfl rfl rfl hl.1 rfl (Nat.le_of_ble_eq_true rfl) dX12_holdsAs_50 ⟨Nat.zero_le _, Nat.zero_le _⟩ (fun r23 σ22 τ22 H locs h22 hP hS => ?_)
  obtain ⟨rfl, f24, f25, f26, m27, m28, h22⟩ := h22
  have h29 := h22
  obtain ⟨q31, k30⟩ := h29
  have q31 := q31.symm
  subst q31
  have g32 := jrg (rfl : ((a2 + (σ1 55 57)) * 2).toInt = ((a2 + (σ1 55 57)) * 2).toInt)
  have g33 := jrg (rfl : (1 ^^^ (σ9 55 57)).toInt = (1 ^^^ (σ9 55 57)).toInt)
  refine lv_iadd hx hb dX12_holdsAs_53 ?_
  refine lv_topi (fun x34 ex34 => ?_)
  have gx34 := jrg (rfl : x34.toInt = x34.toInt)
  have m35 : σ22 85 0 = 70 := (by rw [f26 0 (by omega)]; exact (by rw [f13 0 (by omega)]; exact m7))
  have m36 : σ22 85 1 = 10 := (by rw [f26 1 (by omega)]; exact m15)
  have m37 : σ22 85 2 = 1 := (by rw [f26 2 (by omega)]; exact m16)
  exact hret x34 σ22 τ _ _ _ _ rfl ⟨rfl, (fun i hi => by rw [f24 i (by omega), f11 i (by omega), f3 i (by omega)]), (fun k hk => by rw [f25 k (by omega), f12 k (by omega), f4 k (by omega)]), (fun k hk => by rw [f26 k (by omega), f13 k (by omega), f5 k (by omega)]), m27, m35, m36, m37, m28, ⟨(by rw [ex34, (show σ1 55 57 = σ 55 57 from (by rw [f4 57 (by omega)])), (show σ9 55 57 = σ 55 57 from (by rw [f12 57 (by omega), f4 57 (by omega)]))]), trivial⟩⟩ hP hS dX12_holdsAs_54
set_option maxHeartbeats 4000000 in
set_option maxRecDepth 100000 in
theorem c_X12_givesAs_6_6_0 (l : Launch) (D : va_G) (cI cL : ClassId) (ad zz : Nat → Nat) (hJ : jD ad) (σ : Nat → Nat → Int32) (τ : Nat → Nat → Int64) (a2 : Int32) (A2 : Int) (t2 : a2.toInt = A2) (h55_55 : σ 55 55 = 0) (hp0 : (σ 55 56).toInt = 6) : jM l yX12_givesAs cX12_givesAs 4 (some .int) ({ frames := 1, cells := 0, slots := 0, locals := 21 }) D cI cL ad zz [.ref (ad 55), .int 6, .int a2] σ τ (fun r σ' τ' => τ = τ' ∧ (∀ i : Nat, (i < 55 ∨ 55 < i) ∧ (i < 85 ∨ 85 < i) → σ' i = σ i) ∧ (∀ k : Nat, (k < 55 ∨ 55 < k) → σ' 55 k = σ 55 k) ∧ (∀ k : Nat, (k < 0 ∨ 0 < k) → σ' 85 k = σ 85 k) ∧ (σ' 55 55 = 1) ∧ (σ' 85 0 = 11) ∧ ((r = (a2 ^^^ (σ 55 57)) ∧ True))) := by
  refine jM.of hJ (by decide +kernel) (nt := .int) rfl (Nat.le_of_ble_eq_true rfl) ?_
  intro p e s m args below meth c Q ls hC hret hl hP
  obtain ⟨hx, hb, hr, hml, hown, hts, hK, -, hlocks, hZ⟩ := hC
  have hown : s.vm.findClass RX12 = some m.cls := hown
  have hS : va_S (jA ad) s.heap s.heap [] := va_S.rf
  have hA : ∀ q, jA ad q → jA ad q := fun _ h => h
  have hl : lv_has ls 4 [(0, .ref (ad 55)), (1, .int 6), (2, .int a2)] := hl
  have g2 := jrg t2
  refine lv_iload_n hx hb dX12_givesAs_0 rfl (lv_at hl 1 rfl) ?_
  refine lv_iconst (v := 5) hx hb dX12_givesAs_1 (by decide) ?_
  refine lv_icmp_ne (tgt := 30) hx hb dX12_givesAs_2 (by decide) (fun _ => ?_) (fun c => absurd c (by decide))
  refine lv_iload_n hx hb dX12_givesAs_30 rfl (lv_at hl 1 rfl) ?_
  refine lv_iconst (v := 2) hx hb dX12_givesAs_31 (by decide) ?_
  refine lv_icmp_eq (tgt := 40) hx hb dX12_givesAs_32 (by decide) (fun c => absurd c (by decide)) (fun _ => ?_)
  refine lv_iload_n hx hb dX12_givesAs_35 rfl (lv_at hl 1 rfl) ?_
  refine lv_iconst (v := 3) hx hb dX12_givesAs_36 (by decide) ?_
  refine lv_icmp_ne (tgt := 55) hx hb dX12_givesAs_37 (by decide) (fun _ => ?_) (fun c => absurd c (by decide))
  refine lv_aload_n hx hb dX12_givesAs_55 rfl (lv_at hl 0 rfl) ?_
  refine lv_bipush (v := 11) hx hb dX12_givesAs_56 (by decide) ?_
  refine jcallVv (As := [.int 11]) (rest := []) ⟨hx, hb, hml, hown, hts⟩ hK hP hA hS hZ (c_X12_begins_11_0 l D cI cL ad zz hJ σ τ h55_55) cw_RX12_379 (jc_55 cI cL ad σ τ) rfl ⟨Nat.le_of_ble_eq_true rfl, Nat.le_of_ble_eq_true rfl⟩ rfl rfl rfl hl.1 rfl (Nat.le_of_ble_eq_true rfl) dX12_givesAs_58 ⟨Nat.zero_le _, Nat.zero_le _⟩ (fun σ1 τ1 H locs h1 hP hS => ?_)
  obtain ⟨rfl, f3, f4, f5, m6, m7, h1⟩ := h1
  refine lv_iload_n hx hb dX12_givesAs_61 rfl (lv_at hl 2 rfl) ?_
  refine lv_aload_n hx hb dX12_givesAs_62 rfl (lv_at hl 0 rfl) ?_
  refine va_get (D := D) hx hb hts inlX12 hown hK hP 55 (jc_55 cI cL ad σ1 τ) rfl 57 (by decide) (hts _ kw_49_9) (fun _ h9 => h9) rfl dX12_givesAs_63 ?_
  have m8 : σ1 55 57 = (σ 55 57) := (by rw [f4 57 (by omega)])
  refine jtopr m8 ?_
  refine lv_ixor hx hb dX12_givesAs_66 ?_
  refine lv_topi (fun x9 ex9 => ?_)
  have gx9 := jrg (rfl : x9.toInt = x9.toInt)
  exact hret x9 σ1 τ _ _ _ _ rfl ⟨rfl, (fun i hi => by rw [f3 i (by omega)]), (fun k hk => by rw [f4 k (by omega)]), (fun k hk => by rw [f5 k (by omega)]), m6, m7, ⟨(by rw [ex9]), trivial⟩⟩ hP hS dX12_givesAs_67
set_option maxHeartbeats 4000000 in
set_option maxRecDepth 100000 in
theorem c_X12_begins_70_1 (l : Launch) (D : va_G) (cI cL : ClassId) (ad zz : Nat → Nat) (hJ : jD ad) (σ : Nat → Nat → Int32) (τ : Nat → Nat → Int64) (h55_55 : σ 55 55 = 1) : jMv l yX12_begins cX12_begins 2 none ({ frames := 0, cells := 0, slots := 0, locals := 0 }) D cI cL ad zz [.ref (ad 55), .int 70] σ τ (fun σ' τ' => τ = τ' ∧ (∀ i : Nat, (i < 55 ∨ 55 < i) ∧ (i < 85 ∨ 85 < i) → σ' i = σ i) ∧ (∀ k : Nat, (k < 55 ∨ 55 < k) → σ' 55 k = σ 55 k) ∧ (∀ k : Nat, (k < 1 ∨ 1 < k) → σ' 85 k = σ 85 k) ∧ (σ' 55 55 = 2) ∧ (σ' 85 1 = 70) ∧ True) := by
  refine jMv.of hJ (by decide +kernel) rfl (Nat.le_of_ble_eq_true rfl) ?_
  intro p e s m args below meth c Q ls hC hret hl hP
  obtain ⟨hx, hb, hr, hml, hown, hts, hK, -, hlocks, hZ⟩ := hC
  have hown : s.vm.findClass RX12 = some m.cls := hown
  have hS : va_S (jA ad) s.heap s.heap [] := va_S.rf
  have hA : ∀ q, jA ad q → jA ad q := fun _ h => h
  have hl : lv_has ls 2 [(0, .ref (ad 55)), (1, .int 70)] := hl
  refine lv_aload_n hx hb dX12_begins_0 rfl (lv_at hl 0 rfl) ?_
  refine va_get (D := D) hx hb hts inlX12 hown hK hP 55 (jc_55 cI cL ad σ τ) rfl 55 (by decide) (hts _ kw_49_7) (fun _ h9 => h9) rfl dX12_begins_1 ?_
  refine jtopr h55_55 ?_
  refine lv_bipush (v := 24) hx hb dX12_begins_4 (by decide) ?_
  refine lv_icmp_ge (tgt := 19) hx hb dX12_begins_6 (by decide) (fun c => absurd c (by decide)) (fun _ => ?_)
  refine lv_aload_n hx hb dX12_begins_9 rfl (lv_at hl 0 rfl) ?_
  refine va_get (D := D) hx hb hts inlX12 hown hK hP 55 (jc_55 cI cL ad σ τ) rfl 54 (by decide) (hts _ kw_8_10) (fun _ h9 => h9) rfl dX12_begins_10 ?_
  refine lv_aload_n hx hb dX12_begins_13 rfl (lv_at hl 0 rfl) ?_
  refine va_get (D := D) hx hb hts inlX12 hown hK hP 55 (jc_55 cI cL ad σ τ) rfl 55 (by decide) (hts _ kw_49_7) (fun _ h9 => h9) rfl dX12_begins_14 ?_
  refine jtopr h55_55 ?_
  refine lv_iload_n hx hb dX12_begins_17 rfl (lv_at hl 1 rfl) ?_
  refine jast hx hb hK hP hJ hA hS (jc_85 cI cL ad σ τ) (ja_85 cI cL ad σ τ _ _) (jin jz_1 (by omega) (by omega)) dX12_begins_18 (fun σ1 H locs eσ1 hP hS => ?_)
  have eσ1 : σ1 = jup σ 85 1 70 := eσ1
  refine lv_aload_n hx hb dX12_begins_19 rfl (lv_at hl 0 rfl) ?_
  refine lv_dup hx hb dX12_begins_20 rfl ?_
  refine va_get (D := D) hx hb hts inlX12 hown hK hP 55 (jc_55 cI cL ad σ1 τ) rfl 55 (by decide) (hts _ kw_49_7) (fun _ h9 => h9) rfl dX12_begins_21 ?_
  have m2 : σ1 55 55 = 1 := (by rw [eσ1, jup_n (by decide)]; exact h55_55)
  refine jtopr m2 ?_
  refine lv_iconst (v := 1) hx hb dX12_begins_24 (by decide) ?_
  refine lv_iadd hx hb dX12_begins_25 ?_
  refine jtopr (y := 2) (by decide) ?_
  refine jput (ty := .int) hx hb hts inlX12 tyX12 tyX12_ok nmX12 hown hK hP hJ hA hS (jc_55 cI cL ad σ1 τ) rfl (k := 55) (by decide) (Nat.le_of_ble_eq_true rfl) (jp_55_55 cI cL ad σ1 τ 2) (hts _ kw_49_7) (fun _ h9 => h9) rfl (by decide +kernel) rfl rfl dX12_begins_26 (fun σ3 H locs eσ3 hP hS => ?_)
  have m4 : σ3 55 55 = 2 := (by rw [eσ3]; exact jup_s)
  have m5 : σ3 85 1 = 70 := (by rw [eσ3, jup_n (by decide)]; exact (by rw [eσ1]; exact jup_s))
  exact hret σ3 τ _ _ _ _ ⟨rfl, (fun i hi => by rw [eσ3, jup_n (by omega), eσ1, jup_n (by omega)]), (fun k hk => by rw [eσ3, jup_k (by omega), eσ1, jup_n (by decide)]), (fun k hk => by rw [eσ3, jup_n (by decide), eσ1, jup_k (by omega)]), m4, m5, trivial⟩ hP hS dX12_begins_29
set_option maxHeartbeats 4000000 in
set_option maxRecDepth 100000 in
theorem c_X12_putsAs_6_6_3 (l : Launch) (D : va_G) (cI cL : ClassId) (ad zz : Nat → Nat) (hJ : jD ad) (σ : Nat → Nat → Int32) (τ : Nat → Nat → Int64) (a2 : Int32) (A2 : Int) (t2 : a2.toInt = A2) (h55_55 : σ 55 55 = 3) (hp0 : (σ 55 56).toInt = 6) : jM l yX12_putsAs cX12_putsAs 3 (some .int) ({ frames := 1, cells := 0, slots := 0, locals := 21 }) D cI cL ad zz [.ref (ad 55), .int 6, .int a2] σ τ (fun r σ' τ' => τ = τ' ∧ (∀ i : Nat, (i < 55 ∨ 55 < i) ∧ (i < 85 ∨ 85 < i) → σ' i = σ i) ∧ (∀ k : Nat, (k < 55 ∨ 55 < k) → σ' 55 k = σ 55 k) ∧ (∀ k : Nat, (k < 3 ∨ 3 < k) → σ' 85 k = σ 85 k) ∧ (σ' 55 55 = 4) ∧ (σ' 85 3 = 1) ∧ ((r = (a2 + (σ 55 57)) ∧ True))) := by
  refine jM.of hJ (by decide +kernel) (nt := .int) rfl (Nat.le_of_ble_eq_true rfl) ?_
  intro p e s m args below meth c Q ls hC hret hl hP
  obtain ⟨hx, hb, hr, hml, hown, hts, hK, -, hlocks, hZ⟩ := hC
  have hown : s.vm.findClass RX12 = some m.cls := hown
  have hS : va_S (jA ad) s.heap s.heap [] := va_S.rf
  have hA : ∀ q, jA ad q → jA ad q := fun _ h => h
  have hl : lv_has ls 3 [(0, .ref (ad 55)), (1, .int 6), (2, .int a2)] := hl
  have g2 := jrg t2
  refine lv_iload_n hx hb dX12_putsAs_0 rfl (lv_at hl 1 rfl) ?_
  refine lv_iconst (v := 4) hx hb dX12_putsAs_1 (by decide) ?_
  refine lv_icmp_ne (tgt := 20) hx hb dX12_putsAs_2 (by decide) (fun _ => ?_) (fun c => absurd c (by decide))
  refine lv_iload_n hx hb dX12_putsAs_20 rfl (lv_at hl 1 rfl) ?_
  refine lv_iconst (v := 1) hx hb dX12_putsAs_21 (by decide) ?_
  refine lv_icmp_ne (tgt := 40) hx hb dX12_putsAs_22 (by decide) (fun _ => ?_) (fun c => absurd c (by decide))
  refine lv_aload_n hx hb dX12_putsAs_40 rfl (lv_at hl 0 rfl) ?_
  refine lv_iconst (v := 1) hx hb dX12_putsAs_41 (by decide) ?_
  refine jcallVv (As := [.int 1]) (rest := []) ⟨hx, hb, hml, hown, hts⟩ hK hP hA hS hZ (c_X12_begins_1_3 l D cI cL ad zz hJ σ τ h55_55) cw_RX12_379 (jc_55 cI cL ad σ τ) rfl ⟨Nat.le_of_ble_eq_true rfl, Nat.le_of_ble_eq_true rfl⟩ rfl rfl rfl hl.1 rfl (Nat.le_of_ble_eq_true rfl) dX12_putsAs_42 ⟨Nat.zero_le _, Nat.zero_le _⟩ (fun σ1 τ1 H locs h1 hP hS => ?_)
  obtain ⟨rfl, f3, f4, f5, m6, m7, h1⟩ := h1
  refine lv_iload_n hx hb dX12_putsAs_45 rfl (lv_at hl 2 rfl) ?_
  refine lv_aload_n hx hb dX12_putsAs_46 rfl (lv_at hl 0 rfl) ?_
  refine va_get (D := D) hx hb hts inlX12 hown hK hP 55 (jc_55 cI cL ad σ1 τ) rfl 57 (by decide) (hts _ kw_49_9) (fun _ h9 => h9) rfl dX12_putsAs_47 ?_
  have m8 : σ1 55 57 = (σ 55 57) := (by rw [f4 57 (by omega)])
  refine jtopr m8 ?_
  have g9 := jrg (rfl : (σ 55 57).toInt = (σ 55 57).toInt)
  refine lv_iadd hx hb dX12_putsAs_50 ?_
  refine lv_topi (fun x10 ex10 => ?_)
  have gx10 := jrg (rfl : x10.toInt = x10.toInt)
  exact hret x10 σ1 τ _ _ _ _ rfl ⟨rfl, (fun i hi => by rw [f3 i (by omega)]), (fun k hk => by rw [f4 k (by omega)]), (fun k hk => by rw [f5 k (by omega)]), m6, m7, ⟨(by rw [ex10]), trivial⟩⟩ hP hS dX12_putsAs_51
set_option maxHeartbeats 4000000 in
set_option maxRecDepth 100000 in
theorem c_X12_holdsAs_6_0_2 (l : Launch) (D : va_G) (cI cL : ClassId) (ad zz : Nat → Nat) (hJ : jD ad) (σ : Nat → Nat → Int32) (τ : Nat → Nat → Int64) (a2 : Int32) (A2 : Int) (t2 : a2.toInt = A2) (h55_55 : σ 55 55 = 2) (hp0 : (σ 55 56).toInt = 6) : jM l yX12_holdsAs cX12_holdsAs 4 (some .int) ({ frames := 2, cells := 0, slots := 0, locals := 43 }) D cI cL ad zz [.ref (ad 55), .int 0, .int a2] σ τ (fun r σ' τ' => τ = τ' ∧ (∀ i : Nat, (i < 55 ∨ 55 < i) ∧ (i < 85 ∨ 85 < i) → σ' i = σ i) ∧ (∀ k : Nat, (k < 55 ∨ 55 < k) → σ' 55 k = σ 55 k) ∧ (∀ k : Nat, (k < 2 ∨ 2 < k) ∧ (k < 3 ∨ 3 < k) → σ' 85 k = σ 85 k) ∧ (σ' 55 55 = 4) ∧ (σ' 85 2 = 10) ∧ (σ' 85 3 = 1) ∧ ((r = ((a2 + (σ 55 57)) * 2) ∧ True))) := by
  refine jM.of hJ (by decide +kernel) (nt := .int) rfl (Nat.le_of_ble_eq_true rfl) ?_
  intro p e s m args below meth c Q ls hC hret hl hP
  obtain ⟨hx, hb, hr, hml, hown, hts, hK, -, hlocks, hZ⟩ := hC
  have hown : s.vm.findClass RX12 = some m.cls := hown
  have hS : va_S (jA ad) s.heap s.heap [] := va_S.rf
  have hA : ∀ q, jA ad q → jA ad q := fun _ h => h
  have hl : lv_has ls 4 [(0, .ref (ad 55)), (1, .int 0), (2, .int a2)] := hl
  have g2 := jrg t2
  refine lv_iload_n hx hb dX12_holdsAs_0 rfl (lv_at hl 1 rfl) ?_
  refine lv_iconst (v := 3) hx hb dX12_holdsAs_1 (by decide) ?_
  refine lv_icmp_eq (tgt := 10) hx hb dX12_holdsAs_2 (by decide) (fun c => absurd c (by decide)) (fun _ => ?_)
  refine lv_iload_n hx hb dX12_holdsAs_5 rfl (lv_at hl 1 rfl) ?_
  refine lv_iconst (v := 5) hx hb dX12_holdsAs_6 (by decide) ?_
  refine lv_icmp_ne (tgt := 24) hx hb dX12_holdsAs_7 (by decide) (fun _ => ?_) (fun c => absurd c (by decide))
  refine lv_iload_n hx hb dX12_holdsAs_24 rfl (lv_at hl 1 rfl) ?_
  refine lv_bipush (v := 6) hx hb dX12_holdsAs_25 (by decide) ?_
  refine lv_icmp_ne (tgt := 55) hx hb dX12_holdsAs_27 (by decide) (fun _ => ?_) (fun c => absurd c (by decide))
  refine lv_aload_n hx hb dX12_holdsAs_55 rfl (lv_at hl 0 rfl) ?_
  refine lv_bipush (v := 10) hx hb dX12_holdsAs_56 (by decide) ?_
  refine jcallVv (As := [.int 10]) (rest := []) ⟨hx, hb, hml, hown, hts⟩ hK hP hA hS hZ (c_X12_begins_10_2 l D cI cL ad zz hJ σ τ h55_55) cw_RX12_379 (jc_55 cI cL ad σ τ) rfl ⟨Nat.le_of_ble_eq_true rfl, Nat.le_of_ble_eq_true rfl⟩ rfl rfl rfl hl.1 rfl (Nat.le_of_ble_eq_true rfl) dX12_holdsAs_58 ⟨Nat.zero_le _, Nat.zero_le _⟩ (fun σ1 τ1 H locs h1 hP hS => ?_)
  obtain ⟨rfl, f3, f4, f5, m6, m7, h1⟩ := h1
  refine lv_aload_n hx hb dX12_holdsAs_61 rfl (lv_at hl 0 rfl) ?_
  refine lv_aload_n hx hb dX12_holdsAs_62 rfl (lv_at hl 0 rfl) ?_
  refine va_get (D := D) hx hb hts inlX12 hown hK hP 55 (jc_55 cI cL ad σ1 τ) rfl 56 (by decide) (hts _ kw_49_8) (fun _ h9 => h9) rfl dX12_holdsAs_63 ?_
  have m8 : σ1 55 56 = (σ 55 56) := (by rw [f4 56 (by omega)])
  refine jtopr m8 ?_
  refine jtopr (jsame (rfl : (σ 55 56).toInt = (σ 55 56).toInt) jz_6 (by omega)) ?_
  refine lv_iload_n hx hb dX12_holdsAs_66 rfl (lv_at hl 2 rfl) ?_
  have z9 : (σ1 55 56).toInt = (σ 55 56).toInt := by rw [(show σ1 55 56 = (σ 55 56) from m8)]
  refine jcallV (As := [.int 6, .int a2]) (rest := []) ⟨hx, hb, hml, hown, hts⟩ hK hP hA hS hZ (c_X12_putsAs_6_6_3 l D cI cL ad zz hJ σ1 τ a2 (A2) t2 m6 (by omega)) cw_RX12_382 (jc_55 cI cL ad σ1 τ) rfl ⟨Nat.le_of_ble_eq_true rfl, Nat.le_of_ble_eq_true rfl⟩ rfl rfl rfl hl.1 rfl (Nat.le_of_ble_eq_true rfl) dX12_holdsAs_67 ⟨Nat.zero_le _, Nat.zero_le _⟩ (fun r11 σ10 τ10 H locs h10 hP hS => ?_)
  obtain ⟨rfl, f12, f13, f14, m15, m16, h10⟩ := h10
  have h17 := h10
  obtain ⟨q19, k18⟩ := h17
  have q19 := q19.symm
  subst q19
  refine lv_iconst (v := 2) hx hb dX12_holdsAs_70 (by decide) ?_
  have g20 := jrg (rfl : (a2 + (σ1 55 57)).toInt = (a2 + (σ1 55 57)).toInt)
  refine lv_imul hx hb dX12_holdsAs_71 ?_
  refine lv_topi (fun x21 ex21 => ?_)
  have gx21 := jrg (rfl : x21.toInt = x21.toInt)
  have m22 : σ10 85 2 = 10 := (by rw [f14 2 (by omega)]; exact m7)
  exact hret x21 σ10 τ _ _ _ _ rfl ⟨rfl, (fun i hi => by rw [f12 i (by omega), f3 i (by omega)]), (fun k hk => by rw [f13 k (by omega), f4 k (by omega)]), (fun k hk => by rw [f14 k (by omega), f5 k (by omega)]), m15, m22, m16, ⟨(by rw [ex21, (show σ1 55 57 = σ 55 57 from (by rw [f4 57 (by omega)]))]), trivial⟩⟩ hP hS dX12_holdsAs_72
set_option maxHeartbeats 4000000 in
set_option maxRecDepth 100000 in
theorem c_X12_givesAs_6_6_4_x1 (l : Launch) (D : va_G) (cI cL : ClassId) (ad zz : Nat → Nat) (hJ : jD ad) (σ : Nat → Nat → Int32) (τ : Nat → Nat → Int64) (h55_55 : σ 55 55 = 4) (hp0 : (σ 55 56).toInt = 6) : jM l yX12_givesAs cX12_givesAs 4 (some .int) ({ frames := 1, cells := 0, slots := 0, locals := 21 }) D cI cL ad zz [.ref (ad 55), .int 6, .int 1] σ τ (fun r σ' τ' => τ = τ' ∧ (∀ i : Nat, (i < 55 ∨ 55 < i) ∧ (i < 85 ∨ 85 < i) → σ' i = σ i) ∧ (∀ k : Nat, (k < 55 ∨ 55 < k) → σ' 55 k = σ 55 k) ∧ (∀ k : Nat, (k < 4 ∨ 4 < k) → σ' 85 k = σ 85 k) ∧ (σ' 55 55 = 5) ∧ (σ' 85 4 = 11) ∧ ((r = (1 ^^^ (σ 55 57)) ∧ True))) := by
  refine jM.of hJ (by decide +kernel) (nt := .int) rfl (Nat.le_of_ble_eq_true rfl) ?_
  intro p e s m args below meth c Q ls hC hret hl hP
  obtain ⟨hx, hb, hr, hml, hown, hts, hK, -, hlocks, hZ⟩ := hC
  have hown : s.vm.findClass RX12 = some m.cls := hown
  have hS : va_S (jA ad) s.heap s.heap [] := va_S.rf
  have hA : ∀ q, jA ad q → jA ad q := fun _ h => h
  have hl : lv_has ls 4 [(0, .ref (ad 55)), (1, .int 6), (2, .int 1)] := hl
  refine lv_iload_n hx hb dX12_givesAs_0 rfl (lv_at hl 1 rfl) ?_
  refine lv_iconst (v := 5) hx hb dX12_givesAs_1 (by decide) ?_
  refine lv_icmp_ne (tgt := 30) hx hb dX12_givesAs_2 (by decide) (fun _ => ?_) (fun c => absurd c (by decide))
  refine lv_iload_n hx hb dX12_givesAs_30 rfl (lv_at hl 1 rfl) ?_
  refine lv_iconst (v := 2) hx hb dX12_givesAs_31 (by decide) ?_
  refine lv_icmp_eq (tgt := 40) hx hb dX12_givesAs_32 (by decide) (fun c => absurd c (by decide)) (fun _ => ?_)
  refine lv_iload_n hx hb dX12_givesAs_35 rfl (lv_at hl 1 rfl) ?_
  refine lv_iconst (v := 3) hx hb dX12_givesAs_36 (by decide) ?_
  refine lv_icmp_ne (tgt := 55) hx hb dX12_givesAs_37 (by decide) (fun _ => ?_) (fun c => absurd c (by decide))
  refine lv_aload_n hx hb dX12_givesAs_55 rfl (lv_at hl 0 rfl) ?_
  refine lv_bipush (v := 11) hx hb dX12_givesAs_56 (by decide) ?_
  refine jcallVv (As := [.int 11]) (rest := []) ⟨hx, hb, hml, hown, hts⟩ hK hP hA hS hZ (c_X12_begins_11_4 l D cI cL ad zz hJ σ τ h55_55) cw_RX12_379 (jc_55 cI cL ad σ τ) rfl ⟨Nat.le_of_ble_eq_true rfl, Nat.le_of_ble_eq_true rfl⟩ rfl rfl rfl hl.1 rfl (Nat.le_of_ble_eq_true rfl) dX12_givesAs_58 ⟨Nat.zero_le _, Nat.zero_le _⟩ (fun σ1 τ1 H locs h1 hP hS => ?_)
  obtain ⟨rfl, f3, f4, f5, m6, m7, h1⟩ := h1
  refine lv_iload_n hx hb dX12_givesAs_61 rfl (lv_at hl 2 rfl) ?_
  refine lv_aload_n hx hb dX12_givesAs_62 rfl (lv_at hl 0 rfl) ?_
  refine va_get (D := D) hx hb hts inlX12 hown hK hP 55 (jc_55 cI cL ad σ1 τ) rfl 57 (by decide) (hts _ kw_49_9) (fun _ h9 => h9) rfl dX12_givesAs_63 ?_
  have m8 : σ1 55 57 = (σ 55 57) := (by rw [f4 57 (by omega)])
  refine jtopr m8 ?_
  refine lv_ixor hx hb dX12_givesAs_66 ?_
  refine lv_topi (fun x9 ex9 => ?_)
  have gx9 := jrg (rfl : x9.toInt = x9.toInt)
  exact hret x9 σ1 τ _ _ _ _ rfl ⟨rfl, (fun i hi => by rw [f3 i (by omega)]), (fun k hk => by rw [f4 k (by omega)]), (fun k hk => by rw [f5 k (by omega)]), m6, m7, ⟨(by rw [ex9]), trivial⟩⟩ hP hS dX12_givesAs_67
set_option maxHeartbeats 4000000 in
set_option maxRecDepth 100000 in
theorem c_X12_holdsAs_6_6_1 (l : Launch) (D : va_G) (cI cL : ClassId) (ad zz : Nat → Nat) (hJ : jD ad) (σ : Nat → Nat → Int32) (τ : Nat → Nat → Int64) (a2 : Int32) (A2 : Int) (t2 : a2.toInt = A2) (h55_55 : σ 55 55 = 1) (hp0 : (σ 55 56).toInt = 6) : jM l yX12_holdsAs cX12_holdsAs 4 (some .int) ({ frames := 3, cells := 0, slots := 0, locals := 66 }) D cI cL ad zz [.ref (ad 55), .int 6, .int a2] σ τ (fun r σ' τ' => τ = τ' ∧ (∀ i : Nat, (i < 55 ∨ 55 < i) ∧ (i < 85 ∨ 85 < i) → σ' i = σ i) ∧ (∀ k : Nat, (k < 55 ∨ 55 < k) → σ' 55 k = σ 55 k) ∧ (∀ k : Nat, (k < 1 ∨ 1 < k) ∧ (k < 2 ∨ 2 < k) ∧ (k < 3 ∨ 3 < k) ∧ (k < 4 ∨ 4 < k) → σ' 85 k = σ 85 k) ∧ (σ' 55 55 = 5) ∧ (σ' 85 1 = 70) ∧ (σ' 85 2 = 10) ∧ (σ' 85 3 = 1) ∧ (σ' 85 4 = 11) ∧ ((r = (((a2 + (σ 55 57)) * 2) + (1 ^^^ (σ 55 57))) ∧ True))) := by
  refine jM.of hJ (by decide +kernel) (nt := .int) rfl (Nat.le_of_ble_eq_true rfl) ?_
  intro p e s m args below meth c Q ls hC hret hl hP
  obtain ⟨hx, hb, hr, hml, hown, hts, hK, -, hlocks, hZ⟩ := hC
  have hown : s.vm.findClass RX12 = some m.cls := hown
  have hS : va_S (jA ad) s.heap s.heap [] := va_S.rf
  have hA : ∀ q, jA ad q → jA ad q := fun _ h => h
  have hl : lv_has ls 4 [(0, .ref (ad 55)), (1, .int 6), (2, .int a2)] := hl
  have g2 := jrg t2
  refine lv_iload_n hx hb dX12_holdsAs_0 rfl (lv_at hl 1 rfl) ?_
  refine lv_iconst (v := 3) hx hb dX12_holdsAs_1 (by decide) ?_
  refine lv_icmp_eq (tgt := 10) hx hb dX12_holdsAs_2 (by decide) (fun c => absurd c (by decide)) (fun _ => ?_)
  refine lv_iload_n hx hb dX12_holdsAs_5 rfl (lv_at hl 1 rfl) ?_
  refine lv_iconst (v := 5) hx hb dX12_holdsAs_6 (by decide) ?_
  refine lv_icmp_ne (tgt := 24) hx hb dX12_holdsAs_7 (by decide) (fun _ => ?_) (fun c => absurd c (by decide))
  refine lv_iload_n hx hb dX12_holdsAs_24 rfl (lv_at hl 1 rfl) ?_
  refine lv_bipush (v := 6) hx hb dX12_holdsAs_25 (by decide) ?_
  refine lv_icmp_ne (tgt := 55) hx hb dX12_holdsAs_27 (by decide) (fun c => absurd (by decide) c) (fun _ => ?_)
  refine lv_aload_n hx hb dX12_holdsAs_30 rfl (lv_at hl 0 rfl) ?_
  refine lv_bipush (v := 70) hx hb dX12_holdsAs_31 (by decide) ?_
  refine jcallVv (As := [.int 70]) (rest := []) ⟨hx, hb, hml, hown, hts⟩ hK hP hA hS hZ (c_X12_begins_70_1 l D cI cL ad zz hJ σ τ h55_55) cw_RX12_379 (jc_55 cI cL ad σ τ) rfl ⟨Nat.le_of_ble_eq_true rfl, Nat.le_of_ble_eq_true rfl⟩ rfl rfl rfl hl.1 rfl (Nat.le_of_ble_eq_true rfl) dX12_holdsAs_33 ⟨Nat.zero_le _, Nat.zero_le _⟩ (fun σ1 τ1 H locs h1 hP hS => ?_)
  obtain ⟨rfl, f3, f4, f5, m6, m7, h1⟩ := h1
  refine lv_aload_n hx hb dX12_holdsAs_36 rfl (lv_at hl 0 rfl) ?_
  refine lv_iconst (v := 0) hx hb dX12_holdsAs_37 (by decide) ?_
  refine lv_iload_n hx hb dX12_holdsAs_38 rfl (lv_at hl 2 rfl) ?_
  have z8 : (σ1 55 56).toInt = (σ 55 56).toInt := by rw [(show σ1 55 56 = (σ 55 56) from (by rw [f4 56 (by omega)]))]
  refine jcallV (As := [.int 0, .int a2]) (rest := []) ⟨hx, hb, hml, hown, hts⟩ hK hP hA hS hZ (c_X12_holdsAs_6_0_2 l D cI cL ad zz hJ σ1 τ a2 (A2) t2 m6 (by omega)) cw_RX12_388 (jc_55 cI cL ad σ1 τ) rfl ⟨Nat.le_of_ble_eq_true rfl, Nat.le_of_ble_eq_true rfl⟩ rfl rfl rfl hl.1 rfl (Nat.le_of_ble_eq_true rfl) dX12_holdsAs_39 ⟨Nat.zero_le _, Nat.zero_le _⟩ (fun r10 σ9 τ9 H locs h9 hP hS => ?_)
  obtain ⟨rfl, f11, f12, f13, m14, m15, m16, h9⟩ := h9
  have h17 := h9
  obtain ⟨q19, k18⟩ := h17
  have q19 := q19.symm
  subst q19
  refine lv_istore_n (lv' := [(3, .int ((a2 + (σ1 55 57)) * 2)), (0, .ref (ad 55)), (1, .int 6), (2, .int a2)]) hx hb dX12_holdsAs_42 rfl hl (by decide) rfl (fun ls hl => ?_)
  refine lv_iload_n hx hb dX12_holdsAs_43 rfl (lv_at hl 0 rfl) ?_
  refine lv_aload_n hx hb dX12_holdsAs_44 rfl (lv_at hl 1 rfl) ?_
  refine lv_aload_n hx hb dX12_holdsAs_45 rfl (lv_at hl 1 rfl) ?_
  refine va_get (D := D) hx hb hts inlX12 hown hK hP 55 (jc_55 cI cL ad σ9 τ) rfl 56 (by decide) (hts _ kw_49_8) (fun _ h9 => h9) rfl dX12_holdsAs_46 ?_
  have m20 : σ9 55 56 = (σ 55 56) := (by rw [f12 56 (by omega)]; exact (by rw [f4 56 (by omega)]))
  refine jtopr m20 ?_
  refine jtopr (jsame (rfl : (σ 55 56).toInt = (σ 55 56).toInt) jz_6 (by omega)) ?_
  refine lv_iconst (v := 1) hx hb dX12_holdsAs_49 (by decide) ?_
  have z21 : (σ9 55 56).toInt = (σ 55 56).toInt := by rw [(show σ9 55 56 = (σ 55 56) from m20)]
  refine jcallV (As := [.int 6, .int 1]) (rest := [.int ((a2 + (σ1 55 57)) * 2)]) ⟨hx, hb, hml, hown, hts⟩ hK hP hA hS hZ (c_X12_givesAs_6_6_4_x1 l D cI cL ad zz hJ σ9 τ m14 (by omega)) cw_RX12_394 (jc_55 cI cL ad σ9 τ) rfl ⟨Nat.le_of_ble_eq_true rfl, Nat.le_of_ble_eq_true rfl⟩ rfl rfl rfl hl.1 rfl (Nat.le_of_ble_eq_true rfl) dX12_holdsAs_50 ⟨Nat.zero_le _, Nat.zero_le _⟩ (fun r23 σ22 τ22 H locs h22 hP hS => ?_)
  obtain ⟨rfl, f24, f25, f26, m27, m28, h22⟩ := h22
  have h29 := h22
  obtain ⟨q31, k30⟩ := h29
  have q31 := q31.symm
  subst q31
  have g32 := jrg (rfl : ((a2 + (σ1 55 57)) * 2).toInt = ((a2 + (σ1 55 57)) * 2).toInt)
  have g33 := jrg (rfl : (1 ^^^ (σ9 55 57)).toInt = (1 ^^^ (σ9 55 57)).toInt)
  refine lv_iadd hx hb dX12_holdsAs_53 ?_
  refine lv_topi (fun x34 ex34 => ?_)
  have gx34 := jrg (rfl : x34.toInt = x34.toInt)
  have m35 : σ22 85 1 = 70 := (by rw [f26 1 (by omega)]; exact (by rw [f13 1 (by omega)]; exact m7))
  have m36 : σ22 85 2 = 10 := (by rw [f26 2 (by omega)]; exact m15)
  have m37 : σ22 85 3 = 1 := (by rw [f26 3 (by omega)]; exact m16)
  exact hret x34 σ22 τ _ _ _ _ rfl ⟨rfl, (fun i hi => by rw [f24 i (by omega), f11 i (by omega), f3 i (by omega)]), (fun k hk => by rw [f25 k (by omega), f12 k (by omega), f4 k (by omega)]), (fun k hk => by rw [f26 k (by omega), f13 k (by omega), f5 k (by omega)]), m27, m35, m36, m37, m28, ⟨(by rw [ex34, (show σ1 55 57 = σ 55 57 from (by rw [f4 57 (by omega)])), (show σ9 55 57 = σ 55 57 from (by rw [f12 57 (by omega), f4 57 (by omega)]))]), trivial⟩⟩ hP hS dX12_holdsAs_54
set_option maxHeartbeats 4000000 in
set_option maxRecDepth 100000 in
theorem c_X12_givesAs_6_6_5_x1 (l : Launch) (D : va_G) (cI cL : ClassId) (ad zz : Nat → Nat) (hJ : jD ad) (σ : Nat → Nat → Int32) (τ : Nat → Nat → Int64) (h55_55 : σ 55 55 = 5) (hp0 : (σ 55 56).toInt = 6) : jM l yX12_givesAs cX12_givesAs 4 (some .int) ({ frames := 1, cells := 0, slots := 0, locals := 21 }) D cI cL ad zz [.ref (ad 55), .int 6, .int 1] σ τ (fun r σ' τ' => τ = τ' ∧ (∀ i : Nat, (i < 55 ∨ 55 < i) ∧ (i < 85 ∨ 85 < i) → σ' i = σ i) ∧ (∀ k : Nat, (k < 55 ∨ 55 < k) → σ' 55 k = σ 55 k) ∧ (∀ k : Nat, (k < 5 ∨ 5 < k) → σ' 85 k = σ 85 k) ∧ (σ' 55 55 = 6) ∧ (σ' 85 5 = 11) ∧ ((r = (1 ^^^ (σ 55 57)) ∧ True))) := by
  refine jM.of hJ (by decide +kernel) (nt := .int) rfl (Nat.le_of_ble_eq_true rfl) ?_
  intro p e s m args below meth c Q ls hC hret hl hP
  obtain ⟨hx, hb, hr, hml, hown, hts, hK, -, hlocks, hZ⟩ := hC
  have hown : s.vm.findClass RX12 = some m.cls := hown
  have hS : va_S (jA ad) s.heap s.heap [] := va_S.rf
  have hA : ∀ q, jA ad q → jA ad q := fun _ h => h
  have hl : lv_has ls 4 [(0, .ref (ad 55)), (1, .int 6), (2, .int 1)] := hl
  refine lv_iload_n hx hb dX12_givesAs_0 rfl (lv_at hl 1 rfl) ?_
  refine lv_iconst (v := 5) hx hb dX12_givesAs_1 (by decide) ?_
  refine lv_icmp_ne (tgt := 30) hx hb dX12_givesAs_2 (by decide) (fun _ => ?_) (fun c => absurd c (by decide))
  refine lv_iload_n hx hb dX12_givesAs_30 rfl (lv_at hl 1 rfl) ?_
  refine lv_iconst (v := 2) hx hb dX12_givesAs_31 (by decide) ?_
  refine lv_icmp_eq (tgt := 40) hx hb dX12_givesAs_32 (by decide) (fun c => absurd c (by decide)) (fun _ => ?_)
  refine lv_iload_n hx hb dX12_givesAs_35 rfl (lv_at hl 1 rfl) ?_
  refine lv_iconst (v := 3) hx hb dX12_givesAs_36 (by decide) ?_
  refine lv_icmp_ne (tgt := 55) hx hb dX12_givesAs_37 (by decide) (fun _ => ?_) (fun c => absurd c (by decide))
  refine lv_aload_n hx hb dX12_givesAs_55 rfl (lv_at hl 0 rfl) ?_
  refine lv_bipush (v := 11) hx hb dX12_givesAs_56 (by decide) ?_
  refine jcallVv (As := [.int 11]) (rest := []) ⟨hx, hb, hml, hown, hts⟩ hK hP hA hS hZ (c_X12_begins_11_5 l D cI cL ad zz hJ σ τ h55_55) cw_RX12_379 (jc_55 cI cL ad σ τ) rfl ⟨Nat.le_of_ble_eq_true rfl, Nat.le_of_ble_eq_true rfl⟩ rfl rfl rfl hl.1 rfl (Nat.le_of_ble_eq_true rfl) dX12_givesAs_58 ⟨Nat.zero_le _, Nat.zero_le _⟩ (fun σ1 τ1 H locs h1 hP hS => ?_)
  obtain ⟨rfl, f3, f4, f5, m6, m7, h1⟩ := h1
  refine lv_iload_n hx hb dX12_givesAs_61 rfl (lv_at hl 2 rfl) ?_
  refine lv_aload_n hx hb dX12_givesAs_62 rfl (lv_at hl 0 rfl) ?_
  refine va_get (D := D) hx hb hts inlX12 hown hK hP 55 (jc_55 cI cL ad σ1 τ) rfl 57 (by decide) (hts _ kw_49_9) (fun _ h9 => h9) rfl dX12_givesAs_63 ?_
  have m8 : σ1 55 57 = (σ 55 57) := (by rw [f4 57 (by omega)])
  refine jtopr m8 ?_
  refine lv_ixor hx hb dX12_givesAs_66 ?_
  refine lv_topi (fun x9 ex9 => ?_)
  have gx9 := jrg (rfl : x9.toInt = x9.toInt)
  exact hret x9 σ1 τ _ _ _ _ rfl ⟨rfl, (fun i hi => by rw [f3 i (by omega)]), (fun k hk => by rw [f4 k (by omega)]), (fun k hk => by rw [f5 k (by omega)]), m6, m7, ⟨(by rw [ex9]), trivial⟩⟩ hP hS dX12_givesAs_67
set_option maxHeartbeats 4000000 in
set_option maxRecDepth 100000 in
theorem c_X12_tellsAs_6_6_0 (l : Launch) (D : va_G) (cI cL : ClassId) (ad zz : Nat → Nat) (hJ : jD ad) (σ : Nat → Nat → Int32) (τ : Nat → Nat → Int64) (a2 : Int32) (A2 : Int) (t2 : a2.toInt = A2) (h55_55 : σ 55 55 = 0) (hp0 : (σ 55 56).toInt = 6) : jM l yX12_tellsAs cX12_tellsAs 4 (some .int) ({ frames := 4, cells := 0, slots := 0, locals := 89 }) D cI cL ad zz [.ref (ad 55), .int 6, .int a2] σ τ (fun r σ' τ' => τ = τ' ∧ (∀ i : Nat, (i < 55 ∨ 55 < i) ∧ (i < 85 ∨ 85 < i) → σ' i = σ i) ∧ (∀ k : Nat, (k < 55 ∨ 55 < k) → σ' 55 k = σ 55 k) ∧ (∀ k : Nat, (k < 0 ∨ 0 < k) ∧ (k < 1 ∨ 1 < k) ∧ (k < 2 ∨ 2 < k) ∧ (k < 3 ∨ 3 < k) ∧ (k < 4 ∨ 4 < k) ∧ (k < 5 ∨ 5 < k) → σ' 85 k = σ 85 k) ∧ (σ' 55 55 = 6) ∧ (σ' 85 0 = 2) ∧ (σ' 85 1 = 70) ∧ (σ' 85 2 = 10) ∧ (σ' 85 3 = 1) ∧ (σ' 85 4 = 11) ∧ (σ' 85 5 = 11) ∧ ((r = ((((a2 + (σ 55 57)) * 2) + (1 ^^^ (σ 55 57))) - (1 ^^^ (σ 55 57))) ∧ True))) := by
  refine jM.of hJ (by decide +kernel) (nt := .int) rfl (Nat.le_of_ble_eq_true rfl) ?_
  intro p e s m args below meth c Q ls hC hret hl hP
  obtain ⟨hx, hb, hr, hml, hown, hts, hK, -, hlocks, hZ⟩ := hC
  have hown : s.vm.findClass RX12 = some m.cls := hown
  have hS : va_S (jA ad) s.heap s.heap [] := va_S.rf
  have hA : ∀ q, jA ad q → jA ad q := fun _ h => h
  have hl : lv_has ls 4 [(0, .ref (ad 55)), (1, .int 6), (2, .int a2)] := hl
  have g2 := jrg t2
  refine lv_iload_n hx hb dX12_tellsAs_0 rfl (lv_at hl 1 rfl) ?_
  refine lv_iconst (v := 4) hx hb dX12_tellsAs_1 (by decide) ?_
  refine lv_icmp_ne (tgt := 20) hx hb dX12_tellsAs_2 (by decide) (fun _ => ?_) (fun c => absurd c (by decide))
  refine lv_aload_n hx hb dX12_tellsAs_20 rfl (lv_at hl 0 rfl) ?_
  refine lv_iconst (v := 2) hx hb dX12_tellsAs_21 (by decide) ?_
  refine jcallVv (As := [.int 2]) (rest := []) ⟨hx, hb, hml, hown, hts⟩ hK hP hA hS hZ (c_X12_begins_2_0 l D cI cL ad zz hJ σ τ h55_55) cw_RX12_379 (jc_55 cI cL ad σ τ) rfl ⟨Nat.le_of_ble_eq_true rfl, Nat.le_of_ble_eq_true rfl⟩ rfl rfl rfl hl.1 rfl (Nat.le_of_ble_eq_true rfl) dX12_tellsAs_22 ⟨Nat.zero_le _, Nat.zero_le _⟩ (fun σ1 τ1 H locs h1 hP hS => ?_)
  obtain ⟨rfl, f3, f4, f5, m6, m7, h1⟩ := h1
  refine lv_aload_n hx hb dX12_tellsAs_25 rfl (lv_at hl 0 rfl) ?_
  refine lv_aload_n hx hb dX12_tellsAs_26 rfl (lv_at hl 0 rfl) ?_
  refine va_get (D := D) hx hb hts inlX12 hown hK hP 55 (jc_55 cI cL ad σ1 τ) rfl 56 (by decide) (hts _ kw_49_8) (fun _ h9 => h9) rfl dX12_tellsAs_27 ?_
  have m8 : σ1 55 56 = (σ 55 56) := (by rw [f4 56 (by omega)])
  refine jtopr m8 ?_
  refine jtopr (jsame (rfl : (σ 55 56).toInt = (σ 55 56).toInt) jz_6 (by omega)) ?_
  refine lv_iload_n hx hb dX12_tellsAs_30 rfl (lv_at hl 2 rfl) ?_
  have z9 : (σ1 55 56).toInt = (σ 55 56).toInt := by rw [(show σ1 55 56 = (σ 55 56) from m8)]
  refine jcallV (As := [.int 6, .int a2]) (rest := []) ⟨hx, hb, hml, hown, hts⟩ hK hP hA hS hZ (c_X12_holdsAs_6_6_1 l D cI cL ad zz hJ σ1 τ a2 (A2) t2 m6 (by omega)) cw_RX12_388 (jc_55 cI cL ad σ1 τ) rfl ⟨Nat.le_of_ble_eq_true rfl, Nat.le_of_ble_eq_true rfl⟩ rfl rfl rfl hl.1 rfl (Nat.le_of_ble_eq_true rfl) dX12_tellsAs_31 ⟨Nat.zero_le _, Nat.zero_le _⟩ (fun r11 σ10 τ10 H locs h10 hP hS => ?_)
  obtain ⟨rfl, f12, f13, f14, m15, m16, m17, m18, m19, h10⟩ := h10
  have h20 := h10
  obtain ⟨q22, k21⟩ := h20
  have q22 := q22.symm
  subst q22
  refine lv_istore_n (lv' := [(3, .int (((a2 + (σ1 55 57)) * 2) + (1 ^^^ (σ1 55 57)))), (0, .ref (ad 55)), (1, .int 6), (2, .int a2)]) hx hb dX12_tellsAs_34 rfl hl (by decide) rfl (fun ls hl => ?_)
  refine lv_iload_n hx hb dX12_tellsAs_35 rfl (lv_at hl 0 rfl) ?_
  refine lv_aload_n hx hb dX12_tellsAs_36 rfl (lv_at hl 1 rfl) ?_
  refine lv_aload_n hx hb dX12_tellsAs_37 rfl (lv_at hl 1 rfl) ?_
  refine va_get (D := D) hx hb hts inlX12 hown hK hP 55 (jc_55 cI cL ad σ10 τ) rfl 56 (by decide) (hts _ kw_49_8) (fun _ h9 => h9) rfl dX12_tellsAs_38 ?_
  have m23 : σ10 55 56 = (σ 55 56) := (by rw [f13 56 (by omega)]; exact m8)
  refine jtopr m23 ?_
  refine jtopr (jsame (rfl : (σ 55 56).toInt = (σ 55 56).toInt) jz_6 (by omega)) ?_
  refine lv_iconst (v := 1) hx hb dX12_tellsAs_41 (by decide) ?_
  have z24 : (σ10 55 56).toInt = (σ 55 56).toInt := by rw [(show σ10 55 56 = (σ 55 56) from m23)]
  refine jcallV (As := [.int 6, .int 1]) (rest := [.int (((a2 + (σ1 55 57)) * 2) + (1 ^^^ (σ1 55 57)))]) ⟨hx, hb, hml, hown, hts⟩ hK hP hA hS hZ (c_X12_givesAs_6_6_5_x1 l D cI cL ad zz hJ σ10 τ m15 (by omega)) cw_RX12_394 (jc_55 cI cL ad σ10 τ) rfl ⟨Nat.le_of_ble_eq_true rfl, Nat.le_of_ble_eq_true rfl⟩ rfl rfl rfl hl.1 rfl (Nat.le_of_ble_eq_true rfl) dX12_tellsAs_42 ⟨Nat.zero_le _, Nat.zero_le _⟩ (fun r26 σ25 τ25 H locs h25 hP hS => ?_)
  obtain ⟨rfl, f27, f28, f29, m30, m31, h25⟩ := h25
  have h32 := h25
  obtain ⟨q34, k33⟩ := h32
  have q34 := q34.symm
  subst q34
  have g35 := jrg (rfl : (((a2 + (σ1 55 57)) * 2) + (1 ^^^ (σ1 55 57))).toInt = (((a2 + (σ1 55 57)) * 2) + (1 ^^^ (σ1 55 57))).toInt)
  have g36 := jrg (rfl : (1 ^^^ (σ10 55 57)).toInt = (1 ^^^ (σ10 55 57)).toInt)
  refine lv_isub hx hb dX12_tellsAs_45 ?_
  refine lv_topi (fun x37 ex37 => ?_)
  have gx37 := jrg (rfl : x37.toInt = x37.toInt)
  have m38 : σ25 85 0 = 2 := (by rw [f29 0 (by omega)]; exact (by rw [f14 0 (by omega)]; exact m7))
  have m39 : σ25 85 1 = 70 := (by rw [f29 1 (by omega)]; exact m16)
  have m40 : σ25 85 2 = 10 := (by rw [f29 2 (by omega)]; exact m17)
  have m41 : σ25 85 3 = 1 := (by rw [f29 3 (by omega)]; exact m18)
  have m42 : σ25 85 4 = 11 := (by rw [f29 4 (by omega)]; exact m19)
  exact hret x37 σ25 τ _ _ _ _ rfl ⟨rfl, (fun i hi => by rw [f27 i (by omega), f12 i (by omega), f3 i (by omega)]), (fun k hk => by rw [f28 k (by omega), f13 k (by omega), f4 k (by omega)]), (fun k hk => by rw [f29 k (by omega), f14 k (by omega), f5 k (by omega)]), m30, m38, m39, m40, m41, m42, m31, ⟨(by rw [ex37, (show σ1 55 57 = σ 55 57 from (by rw [f4 57 (by omega)])), (show σ10 55 57 = σ 55 57 from (by rw [f13 57 (by omega), f4 57 (by omega)]))]), trivial⟩⟩ hP hS dX12_tellsAs_46
set_option maxHeartbeats 4000000 in
set_option maxRecDepth 100000 in
theorem c_X12_act (l : Launch) (D : va_G) (cI cL : ClassId) (ad zz : Nat → Nat) (hJ : jD ad) (σ : Nat → Nat → Int32) (τ : Nat → Nat → Int64) (a1 : Int32) (A1 : Int) (t1 : a1.toInt = A1) (a2 : Int32) (A2 : Int) (t2 : a2.toInt = A2) (a3 : Int32) (A3 : Int) (t3 : a3.toInt = A3) (hI106 : jI106 σ) : jM l yX12_act cX12_act 4 (some .int) ({ frames := 7, cells := 0, slots := 0, locals := 156 }) D cI cL ad zz [.ref (ad 55), .int a1, .int a2, .int a3] σ τ (fun r σ' τ' => τ = τ' ∧ (∀ i : Nat, (i < 55 ∨ 55 < i) ∧ (i < 85 ∨ 85 < i) → σ' i = σ i) ∧ (∀ k : Nat, (k < 55 ∨ 55 < k) ∧ (k < 56 ∨ 56 < k) ∧ (k < 57 ∨ 57 < k) → σ' 55 k = σ 55 k) ∧ True) := by
  refine jM.of hJ (by decide +kernel) (nt := .int) rfl (Nat.le_of_ble_eq_true rfl) ?_
  intro p e s m args below meth c Q ls hC hret hl hP
  obtain ⟨hx, hb, hr, hml, hown, hts, hK, -, hlocks, hZ⟩ := hC
  have hown : s.vm.findClass RX12 = some m.cls := hown
  have hS : va_S (jA ad) s.heap s.heap [] := va_S.rf
  have hA : ∀ q, jA ad q → jA ad q := fun _ h => h
  have hl : lv_has ls 4 [(0, .ref (ad 55)), (1, .int a1), (2, .int a2), (3, .int a3)] := hl
  have g1 := jrg t1
  have g2 := jrg t2
  have g3 := jrg t3
  obtain ⟨i1, w2, w3, w4⟩ : (0 ≤ (σ 55 32).toInt ∧ (σ 55 32).toInt ≤ 20) ∧ (∀ k : Nat, k < 20 → 0 ≤ (σ 70 k).toInt ∧ (σ 70 k).toInt ≤ 6) ∧ (∀ k : Nat, k < 20 → 0 ≤ (σ 71 k).toInt ∧ (σ 71 k).toInt ≤ 8) ∧ (∀ k : Nat, k < 160 → 0 ≤ (σ 72 k).toInt ∧ (σ 72 k).toInt ≤ 3) := id hI106
  refine lv_aload_n hx hb dX12_act_0 rfl (lv_at hl 0 rfl) ?_
  refine lv_iconst (v := 0) hx hb dX12_act_1 (by decide) ?_
  refine jput (ty := .int) hx hb hts inlX12 tyX12 tyX12_ok nmX12 hown hK hP hJ hA hS (jc_55 cI cL ad σ τ) rfl (k := 55) (by decide) (Nat.le_of_ble_eq_true rfl) (jp_55_55 cI cL ad σ τ 0) (hts _ kw_49_7) (fun _ h9 => h9) rfl (by decide +kernel) rfl rfl dX12_act_2 (fun σ5 H locs eσ5 hP hS => ?_)
  refine lv_aload_n hx hb dX12_act_5 rfl (lv_at hl 0 rfl) ?_
  refine lv_iload_n hx hb dX12_act_6 rfl (lv_at hl 1 rfl) ?_
  have z6 : (σ5 55 32).toInt = (σ 55 32).toInt := by rw [(show σ5 55 32 = (σ 55 32) from (by rw [eσ5, jup_k (by decide)]))]
  have w7 : ∀ k : Nat, k < 20 → 0 ≤ (σ5 70 k).toInt ∧ (σ5 70 k).toInt ≤ 6 := (by rw [eσ5, jup_n (by decide)]; exact w2)
  have w8 : ∀ k : Nat, k < 20 → 0 ≤ (σ5 71 k).toInt ∧ (σ5 71 k).toInt ≤ 8 := (by rw [eσ5, jup_n (by decide)]; exact w3)
  have w9 : ∀ k : Nat, k < 160 → 0 ≤ (σ5 72 k).toInt ∧ (σ5 72 k).toInt ≤ 3 := (by rw [eσ5, jup_n (by decide)]; exact w4)
  have I10 : jI106 σ5 := ⟨(by omega), w7, w8, w9⟩
  refine jcallV (As := [.int a1]) (rest := []) ⟨hx, hb, hml, hown, hts⟩ hK hP hA hS hZ (c_X12_isRule l D cI cL ad zz hJ σ5 τ a1 (A1) t1 I10) cw_RX12_331 (jc_55 cI cL ad σ5 τ) rfl ⟨Nat.le_of_ble_eq_true rfl, Nat.le_of_ble_eq_true rfl⟩ rfl rfl rfl hl.1 rfl (Nat.le_of_ble_eq_true rfl) dX12_act_7 ⟨Nat.zero_le _, Nat.zero_le _⟩ (fun r12 σ11 τ11 H locs h11 hP hS => ?_)
  obtain ⟨⟨rfl, rfl⟩, h11⟩ := h11
  rcases h11 with h13 | h14
  · obtain ⟨q16, k15⟩ := h13
    have q16 := q16.symm
    subst q16
    refine lv_if_ne (tgt := 15) hx hb dX12_act_10 (by decide) (fun _ => ?_) (fun c => absurd c (by decide))
    refine lv_aload_n hx hb dX12_act_15 rfl (lv_at hl 0 rfl) ?_
    refine lv_aload_n hx hb dX12_act_16 rfl (lv_at hl 0 rfl) ?_
    refine va_get (D := D) hx hb hts inlX12 hown hK hP 55 (jc_55 cI cL ad σ5 τ) rfl 33 (by decide) (hts _ kw_7_18) (fun _ h9 => h9) rfl dX12_act_17 ?_
    refine lv_iload_n hx hb dX12_act_20 rfl (lv_at hl 1 rfl) ?_
    refine jald hx hb hK hP (jc_70 cI cL ad σ5 τ) (jin t1 (by omega) (by omega)) dX12_act_21 ?_
    have g17 := w7 _ (jnat (x := a1) t1 (n := 20) (by omega) (by decide))
    refine jtopr (y := (σ 70 a1.toNatClampNeg)) (by rw [eσ5, jup_n (by decide)]) ?_
    rw [eσ5, jup_n (by decide)] at g17
    by_cases c18 : (σ 70 a1.toNatClampNeg) = 0
    · have kc18 := jeq c18 (rfl : (σ 70 a1.toNatClampNeg).toInt = (σ 70 a1.toNatClampNeg).toInt) jz_0
      refine jtopr c18 ?_
      refine jput (ty := .int) hx hb hts inlX12 tyX12 tyX12_ok nmX12 hown hK hP hJ hA hS (jc_55 cI cL ad σ5 τ) rfl (k := 56) (by decide) (Nat.le_of_ble_eq_true rfl) (jp_55_56 cI cL ad σ5 τ 0) (hts _ kw_49_8) (fun _ h9 => h9) rfl (by decide +kernel) rfl rfl dX12_act_22 (fun σ19 H locs eσ19 hP hS => ?_)
      refine lv_aload_n hx hb dX12_act_25 rfl (lv_at hl 0 rfl) ?_
      refine lv_iload_n hx hb dX12_act_26 rfl (lv_at hl 1 rfl) ?_
      refine jput (ty := .int) hx hb hts inlX12 tyX12 tyX12_ok nmX12 hown hK hP hJ hA hS (jc_55 cI cL ad σ19 τ) rfl (k := 57) (by decide) (Nat.le_of_ble_eq_true rfl) (jp_55_57 cI cL ad σ19 τ a1) (hts _ kw_49_9) (fun _ h9 => h9) rfl (by decide +kernel) rfl rfl dX12_act_27 (fun σ20 H locs eσ20 hP hS => ?_)
      refine lv_iload_n hx hb dX12_act_30 rfl (lv_at hl 2 rfl) ?_
      by_cases c21 : a2 = 0
      · have kc21 := jeq c21 t2 jz_0
        refine jtopr c21 ?_
        refine lv_tableIn (off := 29) (tgt := 60) hx hb dX12_act_31 (by decide) (by decide) (by decide) (by decide) ?_
        refine lv_aload_n hx hb dX12_act_60 rfl (lv_at hl 0 rfl) ?_
        refine lv_aload_n hx hb dX12_act_61 rfl (lv_at hl 0 rfl) ?_
        refine va_get (D := D) hx hb hts inlX12 hown hK hP 55 (jc_55 cI cL ad σ20 τ) rfl 56 (by decide) (hts _ kw_49_8) (fun _ h9 => h9) rfl dX12_act_62 ?_
        have m22 : σ20 55 56 = 0 := (by rw [eσ20, jup_k (by decide)]; exact (by rw [eσ19]; exact jup_s))
        refine jtopr m22 ?_
        refine lv_iload_n hx hb dX12_act_65 rfl (lv_at hl 3 rfl) ?_
        have m23 : σ20 55 55 = 0 := (by rw [eσ20, jup_k (by decide)]; exact (by rw [eσ19, jup_k (by decide)]; exact (by rw [eσ5]; exact jup_s)))
        have z24 : (σ20 55 56).toInt = 0 := by rw [(show σ20 55 56 = 0 from m22)]; exact jz_0
        refine jcallV (As := [.int 0, .int a3]) (rest := []) ⟨hx, hb, hml, hown, hts⟩ hK hP hA hS hZ (c_X12_putsAs_0_0_0 l D cI cL ad zz hJ σ20 τ a3 (A3) t3 m23 (by omega)) cw_RX12_382 (jc_55 cI cL ad σ20 τ) rfl ⟨Nat.le_of_ble_eq_true rfl, Nat.le_of_ble_eq_true rfl⟩ rfl rfl rfl hl.1 rfl (Nat.le_of_ble_eq_true rfl) dX12_act_66 ⟨Nat.zero_le _, Nat.zero_le _⟩ (fun r26 σ25 τ25 H locs h25 hP hS => ?_)
        obtain ⟨rfl, f27, f28, f29, m30, m31, h25⟩ := h25
        have h32 := h25
        obtain ⟨q34, k33⟩ := h32
        have q34 := q34.symm
        subst q34
        exact hret (a3 + (σ20 55 57)) σ25 τ _ _ _ _ rfl ⟨rfl, (fun i hi => by rw [f27 i (by omega), eσ20, jup_n (by omega), eσ19, jup_n (by omega), eσ5, jup_n (by omega)]), (fun k hk => by rw [f28 k (by omega), eσ20, jup_k (by omega), eσ19, jup_k (by omega), eσ5, jup_k (by omega)]), trivial⟩ hP hS dX12_act_69
      have kc21 := jne c21 t2 jz_0
      by_cases c35 : a2 = 1
      · have kc35 := jeq c35 t2 jz_1
        refine jtopr c35 ?_
        refine lv_tableIn (off := 39) (tgt := 70) hx hb dX12_act_31 (by decide) (by decide) (by decide) (by decide) ?_
        refine lv_aload_n hx hb dX12_act_70 rfl (lv_at hl 0 rfl) ?_
        refine lv_aload_n hx hb dX12_act_71 rfl (lv_at hl 0 rfl) ?_
        refine va_get (D := D) hx hb hts inlX12 hown hK hP 55 (jc_55 cI cL ad σ20 τ) rfl 56 (by decide) (hts _ kw_49_8) (fun _ h9 => h9) rfl dX12_act_72 ?_
        have m36 : σ20 55 56 = 0 := (by rw [eσ20, jup_k (by decide)]; exact (by rw [eσ19]; exact jup_s))
        refine jtopr m36 ?_
        refine lv_iload_n hx hb dX12_act_75 rfl (lv_at hl 3 rfl) ?_
        have m37 : σ20 55 55 = 0 := (by rw [eσ20, jup_k (by decide)]; exact (by rw [eσ19, jup_k (by decide)]; exact (by rw [eσ5]; exact jup_s)))
        have z38 : (σ20 55 56).toInt = 0 := by rw [(show σ20 55 56 = 0 from m36)]; exact jz_0
        refine jcallV (As := [.int 0, .int a3]) (rest := []) ⟨hx, hb, hml, hown, hts⟩ hK hP hA hS hZ (c_X12_holdsAs_0_0_0 l D cI cL ad zz hJ σ20 τ a3 (A3) t3 m37 (by omega)) cw_RX12_388 (jc_55 cI cL ad σ20 τ) rfl ⟨Nat.le_of_ble_eq_true rfl, Nat.le_of_ble_eq_true rfl⟩ rfl rfl rfl hl.1 rfl (Nat.le_of_ble_eq_true rfl) dX12_act_76 ⟨Nat.zero_le _, Nat.zero_le _⟩ (fun r40 σ39 τ39 H locs h39 hP hS => ?_)
        obtain ⟨rfl, f41, f42, f43, m44, m45, m46, h39⟩ := h39
        have h47 := h39
        obtain ⟨q49, k48⟩ := h47
        have q49 := q49.symm
        subst q49
        exact hret ((a3 + (σ20 55 57)) * 2) σ39 τ _ _ _ _ rfl ⟨rfl, (fun i hi => by rw [f41 i (by omega), eσ20, jup_n (by omega), eσ19, jup_n (by omega), eσ5, jup_n (by omega)]), (fun k hk => by rw [f42 k (by omega), eσ20, jup_k (by omega), eσ19, jup_k (by omega), eσ5, jup_k (by omega)]), trivial⟩ hP hS dX12_act_79
      have kc35 := jne c35 t2 jz_1
      by_cases c50 : a2 = 2
      · have kc50 := jeq c50 t2 jz_2
        refine jtopr c50 ?_
        refine lv_tableIn (off := 49) (tgt := 80) hx hb dX12_act_31 (by decide) (by decide) (by decide) (by decide) ?_
        refine lv_aload_n hx hb dX12_act_80 rfl (lv_at hl 0 rfl) ?_
        refine lv_aload_n hx hb dX12_act_81 rfl (lv_at hl 0 rfl) ?_
        refine va_get (D := D) hx hb hts inlX12 hown hK hP 55 (jc_55 cI cL ad σ20 τ) rfl 56 (by decide) (hts _ kw_49_8) (fun _ h9 => h9) rfl dX12_act_82 ?_
        have m51 : σ20 55 56 = 0 := (by rw [eσ20, jup_k (by decide)]; exact (by rw [eσ19]; exact jup_s))
        refine jtopr m51 ?_
        refine lv_iload_n hx hb dX12_act_85 rfl (lv_at hl 3 rfl) ?_
        have m52 : σ20 55 55 = 0 := (by rw [eσ20, jup_k (by decide)]; exact (by rw [eσ19, jup_k (by decide)]; exact (by rw [eσ5]; exact jup_s)))
        have z53 : (σ20 55 56).toInt = 0 := by rw [(show σ20 55 56 = 0 from m51)]; exact jz_0
        refine jcallV (As := [.int 0, .int a3]) (rest := []) ⟨hx, hb, hml, hown, hts⟩ hK hP hA hS hZ (c_X12_givesAs_0_0_0 l D cI cL ad zz hJ σ20 τ a3 (A3) t3 m52 (by omega)) cw_RX12_394 (jc_55 cI cL ad σ20 τ) rfl ⟨Nat.le_of_ble_eq_true rfl, Nat.le_of_ble_eq_true rfl⟩ rfl rfl rfl hl.1 rfl (Nat.le_of_ble_eq_true rfl) dX12_act_86 ⟨Nat.zero_le _, Nat.zero_le _⟩ (fun r55 σ54 τ54 H locs h54 hP hS => ?_)
        obtain ⟨rfl, f56, f57, f58, m59, m60, h54⟩ := h54
        have h61 := h54
        obtain ⟨q63, k62⟩ := h61
        have q63 := q63.symm
        subst q63
        exact hret (a3 ^^^ (σ20 55 57)) σ54 τ _ _ _ _ rfl ⟨rfl, (fun i hi => by rw [f56 i (by omega), eσ20, jup_n (by omega), eσ19, jup_n (by omega), eσ5, jup_n (by omega)]), (fun k hk => by rw [f57 k (by omega), eσ20, jup_k (by omega), eσ19, jup_k (by omega), eσ5, jup_k (by omega)]), trivial⟩ hP hS dX12_act_89
      have kc50 := jne c50 t2 jz_2
      by_cases c64 : a2 = 3
      · have kc64 := jeq c64 t2 jz_3
        refine jtopr c64 ?_
        refine lv_tableIn (off := 59) (tgt := 90) hx hb dX12_act_31 (by decide) (by decide) (by decide) (by decide) ?_
        refine lv_aload_n hx hb dX12_act_90 rfl (lv_at hl 0 rfl) ?_
        refine lv_aload_n hx hb dX12_act_91 rfl (lv_at hl 0 rfl) ?_
        refine va_get (D := D) hx hb hts inlX12 hown hK hP 55 (jc_55 cI cL ad σ20 τ) rfl 56 (by decide) (hts _ kw_49_8) (fun _ h9 => h9) rfl dX12_act_92 ?_
        have m65 : σ20 55 56 = 0 := (by rw [eσ20, jup_k (by decide)]; exact (by rw [eσ19]; exact jup_s))
        refine jtopr m65 ?_
        refine lv_iload_n hx hb dX12_act_95 rfl (lv_at hl 3 rfl) ?_
        have m66 : σ20 55 55 = 0 := (by rw [eσ20, jup_k (by decide)]; exact (by rw [eσ19, jup_k (by decide)]; exact (by rw [eσ5]; exact jup_s)))
        have z67 : (σ20 55 56).toInt = 0 := by rw [(show σ20 55 56 = 0 from m65)]; exact jz_0
        refine jcallV (As := [.int 0, .int a3]) (rest := []) ⟨hx, hb, hml, hown, hts⟩ hK hP hA hS hZ (c_X12_tellsAs_0_0_0 l D cI cL ad zz hJ σ20 τ a3 (A3) t3 m66 (by omega)) cw_RX12_397 (jc_55 cI cL ad σ20 τ) rfl ⟨Nat.le_of_ble_eq_true rfl, Nat.le_of_ble_eq_true rfl⟩ rfl rfl rfl hl.1 rfl (Nat.le_of_ble_eq_true rfl) dX12_act_96 ⟨Nat.zero_le _, Nat.zero_le _⟩ (fun r69 σ68 τ68 H locs h68 hP hS => ?_)
        obtain ⟨rfl, f70, f71, f72, m73, m74, m75, m76, m77, h68⟩ := h68
        have h78 := h68
        obtain ⟨q80, k79⟩ := h78
        have q80 := q80.symm
        subst q80
        exact hret (((a3 + (σ20 55 57)) * 2) - (1 ^^^ (σ20 55 57))) σ68 τ _ _ _ _ rfl ⟨rfl, (fun i hi => by rw [f70 i (by omega), eσ20, jup_n (by omega), eσ19, jup_n (by omega), eσ5, jup_n (by omega)]), (fun k hk => by rw [f71 k (by omega), eσ20, jup_k (by omega), eσ19, jup_k (by omega), eσ5, jup_k (by omega)]), trivial⟩ hP hS dX12_act_99
      have kc64 := jne c64 t2 jz_3
      refine lv_tableOut (tgt := 100) hx hb dX12_act_31 (by rw [t2]; omega) (by decide) ?_
      refine lv_iconst (v := 0) hx hb dX12_act_100 (by decide) ?_
      exact hret 0 σ20 τ _ _ _ _ rfl ⟨rfl, (fun i hi => by rw [eσ20, jup_n (by omega), eσ19, jup_n (by omega), eσ5, jup_n (by omega)]), (fun k hk => by rw [eσ20, jup_k (by omega), eσ19, jup_k (by omega), eσ5, jup_k (by omega)]), trivial⟩ hP hS dX12_act_101
    have kc18 := jne c18 (rfl : (σ 70 a1.toNatClampNeg).toInt = (σ 70 a1.toNatClampNeg).toInt) jz_0
    by_cases c81 : (σ 70 a1.toNatClampNeg) = 1
    · have kc81 := jeq c81 (rfl : (σ 70 a1.toNatClampNeg).toInt = (σ 70 a1.toNatClampNeg).toInt) jz_1
      refine jtopr c81 ?_
      refine jput (ty := .int) hx hb hts inlX12 tyX12 tyX12_ok nmX12 hown hK hP hJ hA hS (jc_55 cI cL ad σ5 τ) rfl (k := 56) (by decide) (Nat.le_of_ble_eq_true rfl) (jp_55_56 cI cL ad σ5 τ 1) (hts _ kw_49_8) (fun _ h9 => h9) rfl (by decide +kernel) rfl rfl dX12_act_22 (fun σ82 H locs eσ82 hP hS => ?_)
      refine lv_aload_n hx hb dX12_act_25 rfl (lv_at hl 0 rfl) ?_
      refine lv_iload_n hx hb dX12_act_26 rfl (lv_at hl 1 rfl) ?_
      refine jput (ty := .int) hx hb hts inlX12 tyX12 tyX12_ok nmX12 hown hK hP hJ hA hS (jc_55 cI cL ad σ82 τ) rfl (k := 57) (by decide) (Nat.le_of_ble_eq_true rfl) (jp_55_57 cI cL ad σ82 τ a1) (hts _ kw_49_9) (fun _ h9 => h9) rfl (by decide +kernel) rfl rfl dX12_act_27 (fun σ83 H locs eσ83 hP hS => ?_)
      refine lv_iload_n hx hb dX12_act_30 rfl (lv_at hl 2 rfl) ?_
      by_cases c84 : a2 = 0
      · have kc84 := jeq c84 t2 jz_0
        refine jtopr c84 ?_
        refine lv_tableIn (off := 29) (tgt := 60) hx hb dX12_act_31 (by decide) (by decide) (by decide) (by decide) ?_
        refine lv_aload_n hx hb dX12_act_60 rfl (lv_at hl 0 rfl) ?_
        refine lv_aload_n hx hb dX12_act_61 rfl (lv_at hl 0 rfl) ?_
        refine va_get (D := D) hx hb hts inlX12 hown hK hP 55 (jc_55 cI cL ad σ83 τ) rfl 56 (by decide) (hts _ kw_49_8) (fun _ h9 => h9) rfl dX12_act_62 ?_
        have m85 : σ83 55 56 = 1 := (by rw [eσ83, jup_k (by decide)]; exact (by rw [eσ82]; exact jup_s))
        refine jtopr m85 ?_
        refine lv_iload_n hx hb dX12_act_65 rfl (lv_at hl 3 rfl) ?_
        have m86 : σ83 55 55 = 0 := (by rw [eσ83, jup_k (by decide)]; exact (by rw [eσ82, jup_k (by decide)]; exact (by rw [eσ5]; exact jup_s)))
        have z87 : (σ83 55 56).toInt = 1 := by rw [(show σ83 55 56 = 1 from m85)]; exact jz_1
        refine jcallV (As := [.int 1, .int a3]) (rest := []) ⟨hx, hb, hml, hown, hts⟩ hK hP hA hS hZ (c_X12_putsAs_1_1_0 l D cI cL ad zz hJ σ83 τ a3 (A3) t3 m86 (by omega)) cw_RX12_382 (jc_55 cI cL ad σ83 τ) rfl ⟨Nat.le_of_ble_eq_true rfl, Nat.le_of_ble_eq_true rfl⟩ rfl rfl rfl hl.1 rfl (Nat.le_of_ble_eq_true rfl) dX12_act_66 ⟨Nat.zero_le _, Nat.zero_le _⟩ (fun r89 σ88 τ88 H locs h88 hP hS => ?_)
        obtain ⟨rfl, f90, f91, f92, m93, m94, m95, h88⟩ := h88
        have h96 := h88
        obtain ⟨q98, k97⟩ := h96
        have q98 := q98.symm
        subst q98
        exact hret ((a3 + (σ83 55 57)) + 3) σ88 τ _ _ _ _ rfl ⟨rfl, (fun i hi => by rw [f90 i (by omega), eσ83, jup_n (by omega), eσ82, jup_n (by omega), eσ5, jup_n (by omega)]), (fun k hk => by rw [f91 k (by omega), eσ83, jup_k (by omega), eσ82, jup_k (by omega), eσ5, jup_k (by omega)]), trivial⟩ hP hS dX12_act_69
      have kc84 := jne c84 t2 jz_0
      by_cases c99 : a2 = 1
      · have kc99 := jeq c99 t2 jz_1
        refine jtopr c99 ?_
        refine lv_tableIn (off := 39) (tgt := 70) hx hb dX12_act_31 (by decide) (by decide) (by decide) (by decide) ?_
        refine lv_aload_n hx hb dX12_act_70 rfl (lv_at hl 0 rfl) ?_
        refine lv_aload_n hx hb dX12_act_71 rfl (lv_at hl 0 rfl) ?_
        refine va_get (D := D) hx hb hts inlX12 hown hK hP 55 (jc_55 cI cL ad σ83 τ) rfl 56 (by decide) (hts _ kw_49_8) (fun _ h9 => h9) rfl dX12_act_72 ?_
        have m100 : σ83 55 56 = 1 := (by rw [eσ83, jup_k (by decide)]; exact (by rw [eσ82]; exact jup_s))
        refine jtopr m100 ?_
        refine lv_iload_n hx hb dX12_act_75 rfl (lv_at hl 3 rfl) ?_
        have m101 : σ83 55 55 = 0 := (by rw [eσ83, jup_k (by decide)]; exact (by rw [eσ82, jup_k (by decide)]; exact (by rw [eσ5]; exact jup_s)))
        have z102 : (σ83 55 56).toInt = 1 := by rw [(show σ83 55 56 = 1 from m100)]; exact jz_1
        refine jcallV (As := [.int 1, .int a3]) (rest := []) ⟨hx, hb, hml, hown, hts⟩ hK hP hA hS hZ (c_X12_holdsAs_1_1_0 l D cI cL ad zz hJ σ83 τ a3 (A3) t3 m101 (by omega)) cw_RX12_388 (jc_55 cI cL ad σ83 τ) rfl ⟨Nat.le_of_ble_eq_true rfl, Nat.le_of_ble_eq_true rfl⟩ rfl rfl rfl hl.1 rfl (Nat.le_of_ble_eq_true rfl) dX12_act_76 ⟨Nat.zero_le _, Nat.zero_le _⟩ (fun r104 σ103 τ103 H locs h103 hP hS => ?_)
        obtain ⟨rfl, f105, f106, f107, m108, m109, m110, m111, h103⟩ := h103
        have h112 := h103
        obtain ⟨q114, k113⟩ := h112
        have q114 := q114.symm
        subst q114
        exact hret (((a3 + (σ83 55 57)) + 3) * 2) σ103 τ _ _ _ _ rfl ⟨rfl, (fun i hi => by rw [f105 i (by omega), eσ83, jup_n (by omega), eσ82, jup_n (by omega), eσ5, jup_n (by omega)]), (fun k hk => by rw [f106 k (by omega), eσ83, jup_k (by omega), eσ82, jup_k (by omega), eσ5, jup_k (by omega)]), trivial⟩ hP hS dX12_act_79
      have kc99 := jne c99 t2 jz_1
      by_cases c115 : a2 = 2
      · have kc115 := jeq c115 t2 jz_2
        refine jtopr c115 ?_
        refine lv_tableIn (off := 49) (tgt := 80) hx hb dX12_act_31 (by decide) (by decide) (by decide) (by decide) ?_
        refine lv_aload_n hx hb dX12_act_80 rfl (lv_at hl 0 rfl) ?_
        refine lv_aload_n hx hb dX12_act_81 rfl (lv_at hl 0 rfl) ?_
        refine va_get (D := D) hx hb hts inlX12 hown hK hP 55 (jc_55 cI cL ad σ83 τ) rfl 56 (by decide) (hts _ kw_49_8) (fun _ h9 => h9) rfl dX12_act_82 ?_
        have m116 : σ83 55 56 = 1 := (by rw [eσ83, jup_k (by decide)]; exact (by rw [eσ82]; exact jup_s))
        refine jtopr m116 ?_
        refine lv_iload_n hx hb dX12_act_85 rfl (lv_at hl 3 rfl) ?_
        have m117 : σ83 55 55 = 0 := (by rw [eσ83, jup_k (by decide)]; exact (by rw [eσ82, jup_k (by decide)]; exact (by rw [eσ5]; exact jup_s)))
        have z118 : (σ83 55 56).toInt = 1 := by rw [(show σ83 55 56 = 1 from m116)]; exact jz_1
        refine jcallV (As := [.int 1, .int a3]) (rest := []) ⟨hx, hb, hml, hown, hts⟩ hK hP hA hS hZ (c_X12_givesAs_1_1_0 l D cI cL ad zz hJ σ83 τ a3 (A3) t3 m117 (by omega)) cw_RX12_394 (jc_55 cI cL ad σ83 τ) rfl ⟨Nat.le_of_ble_eq_true rfl, Nat.le_of_ble_eq_true rfl⟩ rfl rfl rfl hl.1 rfl (Nat.le_of_ble_eq_true rfl) dX12_act_86 ⟨Nat.zero_le _, Nat.zero_le _⟩ (fun r120 σ119 τ119 H locs h119 hP hS => ?_)
        obtain ⟨rfl, f121, f122, f123, m124, m125, h119⟩ := h119
        have h126 := h119
        obtain ⟨q128, k127⟩ := h126
        have q128 := q128.symm
        subst q128
        exact hret (a3 ^^^ (σ83 55 57)) σ119 τ _ _ _ _ rfl ⟨rfl, (fun i hi => by rw [f121 i (by omega), eσ83, jup_n (by omega), eσ82, jup_n (by omega), eσ5, jup_n (by omega)]), (fun k hk => by rw [f122 k (by omega), eσ83, jup_k (by omega), eσ82, jup_k (by omega), eσ5, jup_k (by omega)]), trivial⟩ hP hS dX12_act_89
      have kc115 := jne c115 t2 jz_2
      by_cases c129 : a2 = 3
      · have kc129 := jeq c129 t2 jz_3
        refine jtopr c129 ?_
        refine lv_tableIn (off := 59) (tgt := 90) hx hb dX12_act_31 (by decide) (by decide) (by decide) (by decide) ?_
        refine lv_aload_n hx hb dX12_act_90 rfl (lv_at hl 0 rfl) ?_
        refine lv_aload_n hx hb dX12_act_91 rfl (lv_at hl 0 rfl) ?_
        refine va_get (D := D) hx hb hts inlX12 hown hK hP 55 (jc_55 cI cL ad σ83 τ) rfl 56 (by decide) (hts _ kw_49_8) (fun _ h9 => h9) rfl dX12_act_92 ?_
        have m130 : σ83 55 56 = 1 := (by rw [eσ83, jup_k (by decide)]; exact (by rw [eσ82]; exact jup_s))
        refine jtopr m130 ?_
        refine lv_iload_n hx hb dX12_act_95 rfl (lv_at hl 3 rfl) ?_
        have m131 : σ83 55 55 = 0 := (by rw [eσ83, jup_k (by decide)]; exact (by rw [eσ82, jup_k (by decide)]; exact (by rw [eσ5]; exact jup_s)))
        have z132 : (σ83 55 56).toInt = 1 := by rw [(show σ83 55 56 = 1 from m130)]; exact jz_1
        refine jcallV (As := [.int 1, .int a3]) (rest := []) ⟨hx, hb, hml, hown, hts⟩ hK hP hA hS hZ (c_X12_tellsAs_1_1_0 l D cI cL ad zz hJ σ83 τ a3 (A3) t3 m131 (by omega)) cw_RX12_397 (jc_55 cI cL ad σ83 τ) rfl ⟨Nat.le_of_ble_eq_true rfl, Nat.le_of_ble_eq_true rfl⟩ rfl rfl rfl hl.1 rfl (Nat.le_of_ble_eq_true rfl) dX12_act_96 ⟨Nat.zero_le _, Nat.zero_le _⟩ (fun r134 σ133 τ133 H locs h133 hP hS => ?_)
        obtain ⟨rfl, f135, f136, f137, m138, m139, m140, m141, m142, m143, h133⟩ := h133
        have h144 := h133
        obtain ⟨q146, k145⟩ := h144
        have q146 := q146.symm
        subst q146
        exact hret ((((a3 + (σ83 55 57)) + 3) * 2) - (1 ^^^ (σ83 55 57))) σ133 τ _ _ _ _ rfl ⟨rfl, (fun i hi => by rw [f135 i (by omega), eσ83, jup_n (by omega), eσ82, jup_n (by omega), eσ5, jup_n (by omega)]), (fun k hk => by rw [f136 k (by omega), eσ83, jup_k (by omega), eσ82, jup_k (by omega), eσ5, jup_k (by omega)]), trivial⟩ hP hS dX12_act_99
      have kc129 := jne c129 t2 jz_3
      refine lv_tableOut (tgt := 100) hx hb dX12_act_31 (by rw [t2]; omega) (by decide) ?_
      refine lv_iconst (v := 0) hx hb dX12_act_100 (by decide) ?_
      exact hret 0 σ83 τ _ _ _ _ rfl ⟨rfl, (fun i hi => by rw [eσ83, jup_n (by omega), eσ82, jup_n (by omega), eσ5, jup_n (by omega)]), (fun k hk => by rw [eσ83, jup_k (by omega), eσ82, jup_k (by omega), eσ5, jup_k (by omega)]), trivial⟩ hP hS dX12_act_101
    have kc81 := jne c81 (rfl : (σ 70 a1.toNatClampNeg).toInt = (σ 70 a1.toNatClampNeg).toInt) jz_1
    by_cases c147 : (σ 70 a1.toNatClampNeg) = 2
    · have kc147 := jeq c147 (rfl : (σ 70 a1.toNatClampNeg).toInt = (σ 70 a1.toNatClampNeg).toInt) jz_2
      refine jtopr c147 ?_
      refine jput (ty := .int) hx hb hts inlX12 tyX12 tyX12_ok nmX12 hown hK hP hJ hA hS (jc_55 cI cL ad σ5 τ) rfl (k := 56) (by decide) (Nat.le_of_ble_eq_true rfl) (jp_55_56 cI cL ad σ5 τ 2) (hts _ kw_49_8) (fun _ h9 => h9) rfl (by decide +kernel) rfl rfl dX12_act_22 (fun σ148 H locs eσ148 hP hS => ?_)
      refine lv_aload_n hx hb dX12_act_25 rfl (lv_at hl 0 rfl) ?_
      refine lv_iload_n hx hb dX12_act_26 rfl (lv_at hl 1 rfl) ?_
      refine jput (ty := .int) hx hb hts inlX12 tyX12 tyX12_ok nmX12 hown hK hP hJ hA hS (jc_55 cI cL ad σ148 τ) rfl (k := 57) (by decide) (Nat.le_of_ble_eq_true rfl) (jp_55_57 cI cL ad σ148 τ a1) (hts _ kw_49_9) (fun _ h9 => h9) rfl (by decide +kernel) rfl rfl dX12_act_27 (fun σ149 H locs eσ149 hP hS => ?_)
      refine lv_iload_n hx hb dX12_act_30 rfl (lv_at hl 2 rfl) ?_
      by_cases c150 : a2 = 0
      · have kc150 := jeq c150 t2 jz_0
        refine jtopr c150 ?_
        refine lv_tableIn (off := 29) (tgt := 60) hx hb dX12_act_31 (by decide) (by decide) (by decide) (by decide) ?_
        refine lv_aload_n hx hb dX12_act_60 rfl (lv_at hl 0 rfl) ?_
        refine lv_aload_n hx hb dX12_act_61 rfl (lv_at hl 0 rfl) ?_
        refine va_get (D := D) hx hb hts inlX12 hown hK hP 55 (jc_55 cI cL ad σ149 τ) rfl 56 (by decide) (hts _ kw_49_8) (fun _ h9 => h9) rfl dX12_act_62 ?_
        have m151 : σ149 55 56 = 2 := (by rw [eσ149, jup_k (by decide)]; exact (by rw [eσ148]; exact jup_s))
        refine jtopr m151 ?_
        refine lv_iload_n hx hb dX12_act_65 rfl (lv_at hl 3 rfl) ?_
        have m152 : σ149 55 55 = 0 := (by rw [eσ149, jup_k (by decide)]; exact (by rw [eσ148, jup_k (by decide)]; exact (by rw [eσ5]; exact jup_s)))
        have z153 : (σ149 55 56).toInt = 2 := by rw [(show σ149 55 56 = 2 from m151)]; exact jz_2
        refine jcallV (As := [.int 2, .int a3]) (rest := []) ⟨hx, hb, hml, hown, hts⟩ hK hP hA hS hZ (c_X12_putsAs_2_2_0 l D cI cL ad zz hJ σ149 τ a3 (A3) t3 m152 (by omega)) cw_RX12_382 (jc_55 cI cL ad σ149 τ) rfl ⟨Nat.le_of_ble_eq_true rfl, Nat.le_of_ble_eq_true rfl⟩ rfl rfl rfl hl.1 rfl (Nat.le_of_ble_eq_true rfl) dX12_act_66 ⟨Nat.zero_le _, Nat.zero_le _⟩ (fun r155 σ154 τ154 H locs h154 hP hS => ?_)
        obtain ⟨rfl, f156, f157, f158, m159, m160, h154⟩ := h154
        have h161 := h154
        obtain ⟨q163, k162⟩ := h161
        have q163 := q163.symm
        subst q163
        exact hret (a3 + (σ149 55 57)) σ154 τ _ _ _ _ rfl ⟨rfl, (fun i hi => by rw [f156 i (by omega), eσ149, jup_n (by omega), eσ148, jup_n (by omega), eσ5, jup_n (by omega)]), (fun k hk => by rw [f157 k (by omega), eσ149, jup_k (by omega), eσ148, jup_k (by omega), eσ5, jup_k (by omega)]), trivial⟩ hP hS dX12_act_69
      have kc150 := jne c150 t2 jz_0
      by_cases c164 : a2 = 1
      · have kc164 := jeq c164 t2 jz_1
        refine jtopr c164 ?_
        refine lv_tableIn (off := 39) (tgt := 70) hx hb dX12_act_31 (by decide) (by decide) (by decide) (by decide) ?_
        refine lv_aload_n hx hb dX12_act_70 rfl (lv_at hl 0 rfl) ?_
        refine lv_aload_n hx hb dX12_act_71 rfl (lv_at hl 0 rfl) ?_
        refine va_get (D := D) hx hb hts inlX12 hown hK hP 55 (jc_55 cI cL ad σ149 τ) rfl 56 (by decide) (hts _ kw_49_8) (fun _ h9 => h9) rfl dX12_act_72 ?_
        have m165 : σ149 55 56 = 2 := (by rw [eσ149, jup_k (by decide)]; exact (by rw [eσ148]; exact jup_s))
        refine jtopr m165 ?_
        refine lv_iload_n hx hb dX12_act_75 rfl (lv_at hl 3 rfl) ?_
        have m166 : σ149 55 55 = 0 := (by rw [eσ149, jup_k (by decide)]; exact (by rw [eσ148, jup_k (by decide)]; exact (by rw [eσ5]; exact jup_s)))
        have z167 : (σ149 55 56).toInt = 2 := by rw [(show σ149 55 56 = 2 from m165)]; exact jz_2
        refine jcallV (As := [.int 2, .int a3]) (rest := []) ⟨hx, hb, hml, hown, hts⟩ hK hP hA hS hZ (c_X12_holdsAs_2_2_0 l D cI cL ad zz hJ σ149 τ a3 (A3) t3 m166 (by omega)) cw_RX12_388 (jc_55 cI cL ad σ149 τ) rfl ⟨Nat.le_of_ble_eq_true rfl, Nat.le_of_ble_eq_true rfl⟩ rfl rfl rfl hl.1 rfl (Nat.le_of_ble_eq_true rfl) dX12_act_76 ⟨Nat.zero_le _, Nat.zero_le _⟩ (fun r169 σ168 τ168 H locs h168 hP hS => ?_)
        obtain ⟨rfl, f170, f171, f172, m173, m174, m175, h168⟩ := h168
        have h176 := h168
        obtain ⟨q178, k177⟩ := h176
        have q178 := q178.symm
        subst q178
        exact hret ((a3 + (σ149 55 57)) * 2) σ168 τ _ _ _ _ rfl ⟨rfl, (fun i hi => by rw [f170 i (by omega), eσ149, jup_n (by omega), eσ148, jup_n (by omega), eσ5, jup_n (by omega)]), (fun k hk => by rw [f171 k (by omega), eσ149, jup_k (by omega), eσ148, jup_k (by omega), eσ5, jup_k (by omega)]), trivial⟩ hP hS dX12_act_79
      have kc164 := jne c164 t2 jz_1
      by_cases c179 : a2 = 2
      · have kc179 := jeq c179 t2 jz_2
        refine jtopr c179 ?_
        refine lv_tableIn (off := 49) (tgt := 80) hx hb dX12_act_31 (by decide) (by decide) (by decide) (by decide) ?_
        refine lv_aload_n hx hb dX12_act_80 rfl (lv_at hl 0 rfl) ?_
        refine lv_aload_n hx hb dX12_act_81 rfl (lv_at hl 0 rfl) ?_
        refine va_get (D := D) hx hb hts inlX12 hown hK hP 55 (jc_55 cI cL ad σ149 τ) rfl 56 (by decide) (hts _ kw_49_8) (fun _ h9 => h9) rfl dX12_act_82 ?_
        have m180 : σ149 55 56 = 2 := (by rw [eσ149, jup_k (by decide)]; exact (by rw [eσ148]; exact jup_s))
        refine jtopr m180 ?_
        refine lv_iload_n hx hb dX12_act_85 rfl (lv_at hl 3 rfl) ?_
        have m181 : σ149 55 55 = 0 := (by rw [eσ149, jup_k (by decide)]; exact (by rw [eσ148, jup_k (by decide)]; exact (by rw [eσ5]; exact jup_s)))
        have z182 : (σ149 55 56).toInt = 2 := by rw [(show σ149 55 56 = 2 from m180)]; exact jz_2
        refine jcallV (As := [.int 2, .int a3]) (rest := []) ⟨hx, hb, hml, hown, hts⟩ hK hP hA hS hZ (c_X12_givesAs_2_2_0 l D cI cL ad zz hJ σ149 τ a3 (A3) t3 m181 (by omega)) cw_RX12_394 (jc_55 cI cL ad σ149 τ) rfl ⟨Nat.le_of_ble_eq_true rfl, Nat.le_of_ble_eq_true rfl⟩ rfl rfl rfl hl.1 rfl (Nat.le_of_ble_eq_true rfl) dX12_act_86 ⟨Nat.zero_le _, Nat.zero_le _⟩ (fun r184 σ183 τ183 H locs h183 hP hS => ?_)
        obtain ⟨rfl, f185, f186, f187, m188, m189, m190, h183⟩ := h183
        have h191 := h183
        obtain ⟨q193, k192⟩ := h191
        have q193 := q193.symm
        subst q193
        exact hret ((a3 ^^^ (σ149 55 57)) * 3) σ183 τ _ _ _ _ rfl ⟨rfl, (fun i hi => by rw [f185 i (by omega), eσ149, jup_n (by omega), eσ148, jup_n (by omega), eσ5, jup_n (by omega)]), (fun k hk => by rw [f186 k (by omega), eσ149, jup_k (by omega), eσ148, jup_k (by omega), eσ5, jup_k (by omega)]), trivial⟩ hP hS dX12_act_89
      have kc179 := jne c179 t2 jz_2
      by_cases c194 : a2 = 3
      · have kc194 := jeq c194 t2 jz_3
        refine jtopr c194 ?_
        refine lv_tableIn (off := 59) (tgt := 90) hx hb dX12_act_31 (by decide) (by decide) (by decide) (by decide) ?_
        refine lv_aload_n hx hb dX12_act_90 rfl (lv_at hl 0 rfl) ?_
        refine lv_aload_n hx hb dX12_act_91 rfl (lv_at hl 0 rfl) ?_
        refine va_get (D := D) hx hb hts inlX12 hown hK hP 55 (jc_55 cI cL ad σ149 τ) rfl 56 (by decide) (hts _ kw_49_8) (fun _ h9 => h9) rfl dX12_act_92 ?_
        have m195 : σ149 55 56 = 2 := (by rw [eσ149, jup_k (by decide)]; exact (by rw [eσ148]; exact jup_s))
        refine jtopr m195 ?_
        refine lv_iload_n hx hb dX12_act_95 rfl (lv_at hl 3 rfl) ?_
        have m196 : σ149 55 55 = 0 := (by rw [eσ149, jup_k (by decide)]; exact (by rw [eσ148, jup_k (by decide)]; exact (by rw [eσ5]; exact jup_s)))
        have z197 : (σ149 55 56).toInt = 2 := by rw [(show σ149 55 56 = 2 from m195)]; exact jz_2
        refine jcallV (As := [.int 2, .int a3]) (rest := []) ⟨hx, hb, hml, hown, hts⟩ hK hP hA hS hZ (c_X12_tellsAs_2_2_0 l D cI cL ad zz hJ σ149 τ a3 (A3) t3 m196 (by omega)) cw_RX12_397 (jc_55 cI cL ad σ149 τ) rfl ⟨Nat.le_of_ble_eq_true rfl, Nat.le_of_ble_eq_true rfl⟩ rfl rfl rfl hl.1 rfl (Nat.le_of_ble_eq_true rfl) dX12_act_96 ⟨Nat.zero_le _, Nat.zero_le _⟩ (fun r199 σ198 τ198 H locs h198 hP hS => ?_)
        obtain ⟨rfl, f200, f201, f202, m203, m204, m205, m206, m207, m208, h198⟩ := h198
        have h209 := h198
        obtain ⟨q211, k210⟩ := h209
        have q211 := q211.symm
        subst q211
        exact hret (((a3 + (σ149 55 57)) * 2) - ((1 ^^^ (σ149 55 57)) * 3)) σ198 τ _ _ _ _ rfl ⟨rfl, (fun i hi => by rw [f200 i (by omega), eσ149, jup_n (by omega), eσ148, jup_n (by omega), eσ5, jup_n (by omega)]), (fun k hk => by rw [f201 k (by omega), eσ149, jup_k (by omega), eσ148, jup_k (by omega), eσ5, jup_k (by omega)]), trivial⟩ hP hS dX12_act_99
      have kc194 := jne c194 t2 jz_3
      refine lv_tableOut (tgt := 100) hx hb dX12_act_31 (by rw [t2]; omega) (by decide) ?_
      refine lv_iconst (v := 0) hx hb dX12_act_100 (by decide) ?_
      exact hret 0 σ149 τ _ _ _ _ rfl ⟨rfl, (fun i hi => by rw [eσ149, jup_n (by omega), eσ148, jup_n (by omega), eσ5, jup_n (by omega)]), (fun k hk => by rw [eσ149, jup_k (by omega), eσ148, jup_k (by omega), eσ5, jup_k (by omega)]), trivial⟩ hP hS dX12_act_101
    have kc147 := jne c147 (rfl : (σ 70 a1.toNatClampNeg).toInt = (σ 70 a1.toNatClampNeg).toInt) jz_2
    by_cases c212 : (σ 70 a1.toNatClampNeg) = 3
    · have kc212 := jeq c212 (rfl : (σ 70 a1.toNatClampNeg).toInt = (σ 70 a1.toNatClampNeg).toInt) jz_3
      refine jtopr c212 ?_
      refine jput (ty := .int) hx hb hts inlX12 tyX12 tyX12_ok nmX12 hown hK hP hJ hA hS (jc_55 cI cL ad σ5 τ) rfl (k := 56) (by decide) (Nat.le_of_ble_eq_true rfl) (jp_55_56 cI cL ad σ5 τ 3) (hts _ kw_49_8) (fun _ h9 => h9) rfl (by decide +kernel) rfl rfl dX12_act_22 (fun σ213 H locs eσ213 hP hS => ?_)
      refine lv_aload_n hx hb dX12_act_25 rfl (lv_at hl 0 rfl) ?_
      refine lv_iload_n hx hb dX12_act_26 rfl (lv_at hl 1 rfl) ?_
      refine jput (ty := .int) hx hb hts inlX12 tyX12 tyX12_ok nmX12 hown hK hP hJ hA hS (jc_55 cI cL ad σ213 τ) rfl (k := 57) (by decide) (Nat.le_of_ble_eq_true rfl) (jp_55_57 cI cL ad σ213 τ a1) (hts _ kw_49_9) (fun _ h9 => h9) rfl (by decide +kernel) rfl rfl dX12_act_27 (fun σ214 H locs eσ214 hP hS => ?_)
      refine lv_iload_n hx hb dX12_act_30 rfl (lv_at hl 2 rfl) ?_
      by_cases c215 : a2 = 0
      · have kc215 := jeq c215 t2 jz_0
        refine jtopr c215 ?_
        refine lv_tableIn (off := 29) (tgt := 60) hx hb dX12_act_31 (by decide) (by decide) (by decide) (by decide) ?_
        refine lv_aload_n hx hb dX12_act_60 rfl (lv_at hl 0 rfl) ?_
        refine lv_aload_n hx hb dX12_act_61 rfl (lv_at hl 0 rfl) ?_
        refine va_get (D := D) hx hb hts inlX12 hown hK hP 55 (jc_55 cI cL ad σ214 τ) rfl 56 (by decide) (hts _ kw_49_8) (fun _ h9 => h9) rfl dX12_act_62 ?_
        have m216 : σ214 55 56 = 3 := (by rw [eσ214, jup_k (by decide)]; exact (by rw [eσ213]; exact jup_s))
        refine jtopr m216 ?_
        refine lv_iload_n hx hb dX12_act_65 rfl (lv_at hl 3 rfl) ?_
        have m217 : σ214 55 55 = 0 := (by rw [eσ214, jup_k (by decide)]; exact (by rw [eσ213, jup_k (by decide)]; exact (by rw [eσ5]; exact jup_s)))
        have z218 : (σ214 55 56).toInt = 3 := by rw [(show σ214 55 56 = 3 from m216)]; exact jz_3
        refine jcallV (As := [.int 3, .int a3]) (rest := []) ⟨hx, hb, hml, hown, hts⟩ hK hP hA hS hZ (c_X12_putsAs_3_3_0 l D cI cL ad zz hJ σ214 τ a3 (A3) t3 m217 (by omega)) cw_RX12_382 (jc_55 cI cL ad σ214 τ) rfl ⟨Nat.le_of_ble_eq_true rfl, Nat.le_of_ble_eq_true rfl⟩ rfl rfl rfl hl.1 rfl (Nat.le_of_ble_eq_true rfl) dX12_act_66 ⟨Nat.zero_le _, Nat.zero_le _⟩ (fun r220 σ219 τ219 H locs h219 hP hS => ?_)
        obtain ⟨rfl, f221, f222, f223, m224, m225, h219⟩ := h219
        have h226 := h219
        obtain ⟨q228, k227⟩ := h226
        have q228 := q228.symm
        subst q228
        exact hret (a3 + (σ214 55 57)) σ219 τ _ _ _ _ rfl ⟨rfl, (fun i hi => by rw [f221 i (by omega), eσ214, jup_n (by omega), eσ213, jup_n (by omega), eσ5, jup_n (by omega)]), (fun k hk => by rw [f222 k (by omega), eσ214, jup_k (by omega), eσ213, jup_k (by omega), eσ5, jup_k (by omega)]), trivial⟩ hP hS dX12_act_69
      have kc215 := jne c215 t2 jz_0
      by_cases c229 : a2 = 1
      · have kc229 := jeq c229 t2 jz_1
        refine jtopr c229 ?_
        refine lv_tableIn (off := 39) (tgt := 70) hx hb dX12_act_31 (by decide) (by decide) (by decide) (by decide) ?_
        refine lv_aload_n hx hb dX12_act_70 rfl (lv_at hl 0 rfl) ?_
        refine lv_aload_n hx hb dX12_act_71 rfl (lv_at hl 0 rfl) ?_
        refine va_get (D := D) hx hb hts inlX12 hown hK hP 55 (jc_55 cI cL ad σ214 τ) rfl 56 (by decide) (hts _ kw_49_8) (fun _ h9 => h9) rfl dX12_act_72 ?_
        have m230 : σ214 55 56 = 3 := (by rw [eσ214, jup_k (by decide)]; exact (by rw [eσ213]; exact jup_s))
        refine jtopr m230 ?_
        refine lv_iload_n hx hb dX12_act_75 rfl (lv_at hl 3 rfl) ?_
        have m231 : σ214 55 55 = 0 := (by rw [eσ214, jup_k (by decide)]; exact (by rw [eσ213, jup_k (by decide)]; exact (by rw [eσ5]; exact jup_s)))
        have z232 : (σ214 55 56).toInt = 3 := by rw [(show σ214 55 56 = 3 from m230)]; exact jz_3
        refine jcallV (As := [.int 3, .int a3]) (rest := []) ⟨hx, hb, hml, hown, hts⟩ hK hP hA hS hZ (c_X12_holdsAs_3_3_0 l D cI cL ad zz hJ σ214 τ a3 (A3) t3 m231 (by omega)) cw_RX12_388 (jc_55 cI cL ad σ214 τ) rfl ⟨Nat.le_of_ble_eq_true rfl, Nat.le_of_ble_eq_true rfl⟩ rfl rfl rfl hl.1 rfl (Nat.le_of_ble_eq_true rfl) dX12_act_76 ⟨Nat.zero_le _, Nat.zero_le _⟩ (fun r234 σ233 τ233 H locs h233 hP hS => ?_)
        obtain ⟨rfl, f235, f236, f237, m238, m239, m240, m241, h233⟩ := h233
        have h242 := h233
        obtain ⟨q244, k243⟩ := h242
        have q244 := q244.symm
        subst q244
        exact hret (-((a3 + (σ214 55 57)) * 2)) σ233 τ _ _ _ _ rfl ⟨rfl, (fun i hi => by rw [f235 i (by omega), eσ214, jup_n (by omega), eσ213, jup_n (by omega), eσ5, jup_n (by omega)]), (fun k hk => by rw [f236 k (by omega), eσ214, jup_k (by omega), eσ213, jup_k (by omega), eσ5, jup_k (by omega)]), trivial⟩ hP hS dX12_act_79
      have kc229 := jne c229 t2 jz_1
      by_cases c245 : a2 = 2
      · have kc245 := jeq c245 t2 jz_2
        refine jtopr c245 ?_
        refine lv_tableIn (off := 49) (tgt := 80) hx hb dX12_act_31 (by decide) (by decide) (by decide) (by decide) ?_
        refine lv_aload_n hx hb dX12_act_80 rfl (lv_at hl 0 rfl) ?_
        refine lv_aload_n hx hb dX12_act_81 rfl (lv_at hl 0 rfl) ?_
        refine va_get (D := D) hx hb hts inlX12 hown hK hP 55 (jc_55 cI cL ad σ214 τ) rfl 56 (by decide) (hts _ kw_49_8) (fun _ h9 => h9) rfl dX12_act_82 ?_
        have m246 : σ214 55 56 = 3 := (by rw [eσ214, jup_k (by decide)]; exact (by rw [eσ213]; exact jup_s))
        refine jtopr m246 ?_
        refine lv_iload_n hx hb dX12_act_85 rfl (lv_at hl 3 rfl) ?_
        have m247 : σ214 55 55 = 0 := (by rw [eσ214, jup_k (by decide)]; exact (by rw [eσ213, jup_k (by decide)]; exact (by rw [eσ5]; exact jup_s)))
        have z248 : (σ214 55 56).toInt = 3 := by rw [(show σ214 55 56 = 3 from m246)]; exact jz_3
        refine jcallV (As := [.int 3, .int a3]) (rest := []) ⟨hx, hb, hml, hown, hts⟩ hK hP hA hS hZ (c_X12_givesAs_3_3_0 l D cI cL ad zz hJ σ214 τ a3 (A3) t3 m247 (by omega)) cw_RX12_394 (jc_55 cI cL ad σ214 τ) rfl ⟨Nat.le_of_ble_eq_true rfl, Nat.le_of_ble_eq_true rfl⟩ rfl rfl rfl hl.1 rfl (Nat.le_of_ble_eq_true rfl) dX12_act_86 ⟨Nat.zero_le _, Nat.zero_le _⟩ (fun r250 σ249 τ249 H locs h249 hP hS => ?_)
        obtain ⟨rfl, f251, f252, f253, m254, m255, m256, h249⟩ := h249
        have h257 := h249
        obtain ⟨q259, k258⟩ := h257
        have q259 := q259.symm
        subst q259
        exact hret ((a3 ^^^ (σ214 55 57)) * 3) σ249 τ _ _ _ _ rfl ⟨rfl, (fun i hi => by rw [f251 i (by omega), eσ214, jup_n (by omega), eσ213, jup_n (by omega), eσ5, jup_n (by omega)]), (fun k hk => by rw [f252 k (by omega), eσ214, jup_k (by omega), eσ213, jup_k (by omega), eσ5, jup_k (by omega)]), trivial⟩ hP hS dX12_act_89
      have kc245 := jne c245 t2 jz_2
      by_cases c260 : a2 = 3
      · have kc260 := jeq c260 t2 jz_3
        refine jtopr c260 ?_
        refine lv_tableIn (off := 59) (tgt := 90) hx hb dX12_act_31 (by decide) (by decide) (by decide) (by decide) ?_
        refine lv_aload_n hx hb dX12_act_90 rfl (lv_at hl 0 rfl) ?_
        refine lv_aload_n hx hb dX12_act_91 rfl (lv_at hl 0 rfl) ?_
        refine va_get (D := D) hx hb hts inlX12 hown hK hP 55 (jc_55 cI cL ad σ214 τ) rfl 56 (by decide) (hts _ kw_49_8) (fun _ h9 => h9) rfl dX12_act_92 ?_
        have m261 : σ214 55 56 = 3 := (by rw [eσ214, jup_k (by decide)]; exact (by rw [eσ213]; exact jup_s))
        refine jtopr m261 ?_
        refine lv_iload_n hx hb dX12_act_95 rfl (lv_at hl 3 rfl) ?_
        have m262 : σ214 55 55 = 0 := (by rw [eσ214, jup_k (by decide)]; exact (by rw [eσ213, jup_k (by decide)]; exact (by rw [eσ5]; exact jup_s)))
        have z263 : (σ214 55 56).toInt = 3 := by rw [(show σ214 55 56 = 3 from m261)]; exact jz_3
        refine jcallV (As := [.int 3, .int a3]) (rest := []) ⟨hx, hb, hml, hown, hts⟩ hK hP hA hS hZ (c_X12_tellsAs_3_3_0 l D cI cL ad zz hJ σ214 τ a3 (A3) t3 m262 (by omega)) cw_RX12_397 (jc_55 cI cL ad σ214 τ) rfl ⟨Nat.le_of_ble_eq_true rfl, Nat.le_of_ble_eq_true rfl⟩ rfl rfl rfl hl.1 rfl (Nat.le_of_ble_eq_true rfl) dX12_act_96 ⟨Nat.zero_le _, Nat.zero_le _⟩ (fun r265 σ264 τ264 H locs h264 hP hS => ?_)
        obtain ⟨rfl, f266, f267, f268, m269, m270, m271, m272, m273, m274, m275, h264⟩ := h264
        have h276 := h264
        obtain ⟨q278, k277⟩ := h276
        have q278 := q278.symm
        subst q278
        exact hret ((-((a3 + (σ214 55 57)) * 2)) - ((1 ^^^ (σ214 55 57)) * 3)) σ264 τ _ _ _ _ rfl ⟨rfl, (fun i hi => by rw [f266 i (by omega), eσ214, jup_n (by omega), eσ213, jup_n (by omega), eσ5, jup_n (by omega)]), (fun k hk => by rw [f267 k (by omega), eσ214, jup_k (by omega), eσ213, jup_k (by omega), eσ5, jup_k (by omega)]), trivial⟩ hP hS dX12_act_99
      have kc260 := jne c260 t2 jz_3
      refine lv_tableOut (tgt := 100) hx hb dX12_act_31 (by rw [t2]; omega) (by decide) ?_
      refine lv_iconst (v := 0) hx hb dX12_act_100 (by decide) ?_
      exact hret 0 σ214 τ _ _ _ _ rfl ⟨rfl, (fun i hi => by rw [eσ214, jup_n (by omega), eσ213, jup_n (by omega), eσ5, jup_n (by omega)]), (fun k hk => by rw [eσ214, jup_k (by omega), eσ213, jup_k (by omega), eσ5, jup_k (by omega)]), trivial⟩ hP hS dX12_act_101
    have kc212 := jne c212 (rfl : (σ 70 a1.toNatClampNeg).toInt = (σ 70 a1.toNatClampNeg).toInt) jz_3
    by_cases c279 : (σ 70 a1.toNatClampNeg) = 4
    · have kc279 := jeq c279 (rfl : (σ 70 a1.toNatClampNeg).toInt = (σ 70 a1.toNatClampNeg).toInt) jz_4
      refine jtopr c279 ?_
      refine jput (ty := .int) hx hb hts inlX12 tyX12 tyX12_ok nmX12 hown hK hP hJ hA hS (jc_55 cI cL ad σ5 τ) rfl (k := 56) (by decide) (Nat.le_of_ble_eq_true rfl) (jp_55_56 cI cL ad σ5 τ 4) (hts _ kw_49_8) (fun _ h9 => h9) rfl (by decide +kernel) rfl rfl dX12_act_22 (fun σ280 H locs eσ280 hP hS => ?_)
      refine lv_aload_n hx hb dX12_act_25 rfl (lv_at hl 0 rfl) ?_
      refine lv_iload_n hx hb dX12_act_26 rfl (lv_at hl 1 rfl) ?_
      refine jput (ty := .int) hx hb hts inlX12 tyX12 tyX12_ok nmX12 hown hK hP hJ hA hS (jc_55 cI cL ad σ280 τ) rfl (k := 57) (by decide) (Nat.le_of_ble_eq_true rfl) (jp_55_57 cI cL ad σ280 τ a1) (hts _ kw_49_9) (fun _ h9 => h9) rfl (by decide +kernel) rfl rfl dX12_act_27 (fun σ281 H locs eσ281 hP hS => ?_)
      refine lv_iload_n hx hb dX12_act_30 rfl (lv_at hl 2 rfl) ?_
      by_cases c282 : a2 = 0
      · have kc282 := jeq c282 t2 jz_0
        refine jtopr c282 ?_
        refine lv_tableIn (off := 29) (tgt := 60) hx hb dX12_act_31 (by decide) (by decide) (by decide) (by decide) ?_
        refine lv_aload_n hx hb dX12_act_60 rfl (lv_at hl 0 rfl) ?_
        refine lv_aload_n hx hb dX12_act_61 rfl (lv_at hl 0 rfl) ?_
        refine va_get (D := D) hx hb hts inlX12 hown hK hP 55 (jc_55 cI cL ad σ281 τ) rfl 56 (by decide) (hts _ kw_49_8) (fun _ h9 => h9) rfl dX12_act_62 ?_
        have m283 : σ281 55 56 = 4 := (by rw [eσ281, jup_k (by decide)]; exact (by rw [eσ280]; exact jup_s))
        refine jtopr m283 ?_
        refine lv_iload_n hx hb dX12_act_65 rfl (lv_at hl 3 rfl) ?_
        have m284 : σ281 55 55 = 0 := (by rw [eσ281, jup_k (by decide)]; exact (by rw [eσ280, jup_k (by decide)]; exact (by rw [eσ5]; exact jup_s)))
        have z285 : (σ281 55 56).toInt = 4 := by rw [(show σ281 55 56 = 4 from m283)]; exact jz_4
        refine jcallV (As := [.int 4, .int a3]) (rest := []) ⟨hx, hb, hml, hown, hts⟩ hK hP hA hS hZ (c_X12_putsAs_4_4_0 l D cI cL ad zz hJ σ281 τ a3 (A3) t3 m284 (by omega)) cw_RX12_382 (jc_55 cI cL ad σ281 τ) rfl ⟨Nat.le_of_ble_eq_true rfl, Nat.le_of_ble_eq_true rfl⟩ rfl rfl rfl hl.1 rfl (Nat.le_of_ble_eq_true rfl) dX12_act_66 ⟨Nat.zero_le _, Nat.zero_le _⟩ (fun r287 σ286 τ286 H locs h286 hP hS => ?_)
        obtain ⟨rfl, f288, f289, f290, m291, m292, m293, m294, h286⟩ := h286
        have h295 := h286
        obtain ⟨q297, k296⟩ := h295
        have q297 := q297.symm
        subst q297
        exact hret (((a3 + 1) + (σ281 55 57)) + 3) σ286 τ _ _ _ _ rfl ⟨rfl, (fun i hi => by rw [f288 i (by omega), eσ281, jup_n (by omega), eσ280, jup_n (by omega), eσ5, jup_n (by omega)]), (fun k hk => by rw [f289 k (by omega), eσ281, jup_k (by omega), eσ280, jup_k (by omega), eσ5, jup_k (by omega)]), trivial⟩ hP hS dX12_act_69
      have kc282 := jne c282 t2 jz_0
      by_cases c298 : a2 = 1
      · have kc298 := jeq c298 t2 jz_1
        refine jtopr c298 ?_
        refine lv_tableIn (off := 39) (tgt := 70) hx hb dX12_act_31 (by decide) (by decide) (by decide) (by decide) ?_
        refine lv_aload_n hx hb dX12_act_70 rfl (lv_at hl 0 rfl) ?_
        refine lv_aload_n hx hb dX12_act_71 rfl (lv_at hl 0 rfl) ?_
        refine va_get (D := D) hx hb hts inlX12 hown hK hP 55 (jc_55 cI cL ad σ281 τ) rfl 56 (by decide) (hts _ kw_49_8) (fun _ h9 => h9) rfl dX12_act_72 ?_
        have m299 : σ281 55 56 = 4 := (by rw [eσ281, jup_k (by decide)]; exact (by rw [eσ280]; exact jup_s))
        refine jtopr m299 ?_
        refine lv_iload_n hx hb dX12_act_75 rfl (lv_at hl 3 rfl) ?_
        have m300 : σ281 55 55 = 0 := (by rw [eσ281, jup_k (by decide)]; exact (by rw [eσ280, jup_k (by decide)]; exact (by rw [eσ5]; exact jup_s)))
        have z301 : (σ281 55 56).toInt = 4 := by rw [(show σ281 55 56 = 4 from m299)]; exact jz_4
        refine jcallV (As := [.int 4, .int a3]) (rest := []) ⟨hx, hb, hml, hown, hts⟩ hK hP hA hS hZ (c_X12_holdsAs_4_4_0 l D cI cL ad zz hJ σ281 τ a3 (A3) t3 m300 (by omega)) cw_RX12_388 (jc_55 cI cL ad σ281 τ) rfl ⟨Nat.le_of_ble_eq_true rfl, Nat.le_of_ble_eq_true rfl⟩ rfl rfl rfl hl.1 rfl (Nat.le_of_ble_eq_true rfl) dX12_act_76 ⟨Nat.zero_le _, Nat.zero_le _⟩ (fun r303 σ302 τ302 H locs h302 hP hS => ?_)
        obtain ⟨rfl, f304, f305, f306, m307, m308, m309, m310, m311, h302⟩ := h302
        have h312 := h302
        obtain ⟨q314, k313⟩ := h312
        have q314 := q314.symm
        subst q314
        exact hret ((((a3 + 1) + (σ281 55 57)) + 3) * 2) σ302 τ _ _ _ _ rfl ⟨rfl, (fun i hi => by rw [f304 i (by omega), eσ281, jup_n (by omega), eσ280, jup_n (by omega), eσ5, jup_n (by omega)]), (fun k hk => by rw [f305 k (by omega), eσ281, jup_k (by omega), eσ280, jup_k (by omega), eσ5, jup_k (by omega)]), trivial⟩ hP hS dX12_act_79
      have kc298 := jne c298 t2 jz_1
      by_cases c315 : a2 = 2
      · have kc315 := jeq c315 t2 jz_2
        refine jtopr c315 ?_
        refine lv_tableIn (off := 49) (tgt := 80) hx hb dX12_act_31 (by decide) (by decide) (by decide) (by decide) ?_
        refine lv_aload_n hx hb dX12_act_80 rfl (lv_at hl 0 rfl) ?_
        refine lv_aload_n hx hb dX12_act_81 rfl (lv_at hl 0 rfl) ?_
        refine va_get (D := D) hx hb hts inlX12 hown hK hP 55 (jc_55 cI cL ad σ281 τ) rfl 56 (by decide) (hts _ kw_49_8) (fun _ h9 => h9) rfl dX12_act_82 ?_
        have m316 : σ281 55 56 = 4 := (by rw [eσ281, jup_k (by decide)]; exact (by rw [eσ280]; exact jup_s))
        refine jtopr m316 ?_
        refine lv_iload_n hx hb dX12_act_85 rfl (lv_at hl 3 rfl) ?_
        have m317 : σ281 55 55 = 0 := (by rw [eσ281, jup_k (by decide)]; exact (by rw [eσ280, jup_k (by decide)]; exact (by rw [eσ5]; exact jup_s)))
        have z318 : (σ281 55 56).toInt = 4 := by rw [(show σ281 55 56 = 4 from m316)]; exact jz_4
        refine jcallV (As := [.int 4, .int a3]) (rest := []) ⟨hx, hb, hml, hown, hts⟩ hK hP hA hS hZ (c_X12_givesAs_4_4_0 l D cI cL ad zz hJ σ281 τ a3 (A3) t3 m317 (by omega)) cw_RX12_394 (jc_55 cI cL ad σ281 τ) rfl ⟨Nat.le_of_ble_eq_true rfl, Nat.le_of_ble_eq_true rfl⟩ rfl rfl rfl hl.1 rfl (Nat.le_of_ble_eq_true rfl) dX12_act_86 ⟨Nat.zero_le _, Nat.zero_le _⟩ (fun r320 σ319 τ319 H locs h319 hP hS => ?_)
        obtain ⟨rfl, f321, f322, f323, m324, m325, h319⟩ := h319
        have h326 := h319
        obtain ⟨q328, k327⟩ := h326
        have q328 := q328.symm
        subst q328
        exact hret (a3 ^^^ (σ281 55 57)) σ319 τ _ _ _ _ rfl ⟨rfl, (fun i hi => by rw [f321 i (by omega), eσ281, jup_n (by omega), eσ280, jup_n (by omega), eσ5, jup_n (by omega)]), (fun k hk => by rw [f322 k (by omega), eσ281, jup_k (by omega), eσ280, jup_k (by omega), eσ5, jup_k (by omega)]), trivial⟩ hP hS dX12_act_89
      have kc315 := jne c315 t2 jz_2
      by_cases c329 : a2 = 3
      · have kc329 := jeq c329 t2 jz_3
        refine jtopr c329 ?_
        refine lv_tableIn (off := 59) (tgt := 90) hx hb dX12_act_31 (by decide) (by decide) (by decide) (by decide) ?_
        refine lv_aload_n hx hb dX12_act_90 rfl (lv_at hl 0 rfl) ?_
        refine lv_aload_n hx hb dX12_act_91 rfl (lv_at hl 0 rfl) ?_
        refine va_get (D := D) hx hb hts inlX12 hown hK hP 55 (jc_55 cI cL ad σ281 τ) rfl 56 (by decide) (hts _ kw_49_8) (fun _ h9 => h9) rfl dX12_act_92 ?_
        have m330 : σ281 55 56 = 4 := (by rw [eσ281, jup_k (by decide)]; exact (by rw [eσ280]; exact jup_s))
        refine jtopr m330 ?_
        refine lv_iload_n hx hb dX12_act_95 rfl (lv_at hl 3 rfl) ?_
        have m331 : σ281 55 55 = 0 := (by rw [eσ281, jup_k (by decide)]; exact (by rw [eσ280, jup_k (by decide)]; exact (by rw [eσ5]; exact jup_s)))
        have z332 : (σ281 55 56).toInt = 4 := by rw [(show σ281 55 56 = 4 from m330)]; exact jz_4
        refine jcallV (As := [.int 4, .int a3]) (rest := []) ⟨hx, hb, hml, hown, hts⟩ hK hP hA hS hZ (c_X12_tellsAs_4_4_0 l D cI cL ad zz hJ σ281 τ a3 (A3) t3 m331 (by omega)) cw_RX12_397 (jc_55 cI cL ad σ281 τ) rfl ⟨Nat.le_of_ble_eq_true rfl, Nat.le_of_ble_eq_true rfl⟩ rfl rfl rfl hl.1 rfl (Nat.le_of_ble_eq_true rfl) dX12_act_96 ⟨Nat.zero_le _, Nat.zero_le _⟩ (fun r334 σ333 τ333 H locs h333 hP hS => ?_)
        obtain ⟨rfl, f335, f336, f337, m338, m339, m340, m341, m342, m343, m344, m345, h333⟩ := h333
        have h346 := h333
        obtain ⟨q348, k347⟩ := h346
        have q348 := q348.symm
        subst q348
        exact hret ((((((a3 + 1) + (σ281 55 57)) + 3) * 2) - (1 ^^^ (σ281 55 57))) ^^^ 5) σ333 τ _ _ _ _ rfl ⟨rfl, (fun i hi => by rw [f335 i (by omega), eσ281, jup_n (by omega), eσ280, jup_n (by omega), eσ5, jup_n (by omega)]), (fun k hk => by rw [f336 k (by omega), eσ281, jup_k (by omega), eσ280, jup_k (by omega), eσ5, jup_k (by omega)]), trivial⟩ hP hS dX12_act_99
      have kc329 := jne c329 t2 jz_3
      refine lv_tableOut (tgt := 100) hx hb dX12_act_31 (by rw [t2]; omega) (by decide) ?_
      refine lv_iconst (v := 0) hx hb dX12_act_100 (by decide) ?_
      exact hret 0 σ281 τ _ _ _ _ rfl ⟨rfl, (fun i hi => by rw [eσ281, jup_n (by omega), eσ280, jup_n (by omega), eσ5, jup_n (by omega)]), (fun k hk => by rw [eσ281, jup_k (by omega), eσ280, jup_k (by omega), eσ5, jup_k (by omega)]), trivial⟩ hP hS dX12_act_101
    have kc279 := jne c279 (rfl : (σ 70 a1.toNatClampNeg).toInt = (σ 70 a1.toNatClampNeg).toInt) jz_4
    by_cases c349 : (σ 70 a1.toNatClampNeg) = 5
    · have kc349 := jeq c349 (rfl : (σ 70 a1.toNatClampNeg).toInt = (σ 70 a1.toNatClampNeg).toInt) jz_5
      refine jtopr c349 ?_
      refine jput (ty := .int) hx hb hts inlX12 tyX12 tyX12_ok nmX12 hown hK hP hJ hA hS (jc_55 cI cL ad σ5 τ) rfl (k := 56) (by decide) (Nat.le_of_ble_eq_true rfl) (jp_55_56 cI cL ad σ5 τ 5) (hts _ kw_49_8) (fun _ h9 => h9) rfl (by decide +kernel) rfl rfl dX12_act_22 (fun σ350 H locs eσ350 hP hS => ?_)
      refine lv_aload_n hx hb dX12_act_25 rfl (lv_at hl 0 rfl) ?_
      refine lv_iload_n hx hb dX12_act_26 rfl (lv_at hl 1 rfl) ?_
      refine jput (ty := .int) hx hb hts inlX12 tyX12 tyX12_ok nmX12 hown hK hP hJ hA hS (jc_55 cI cL ad σ350 τ) rfl (k := 57) (by decide) (Nat.le_of_ble_eq_true rfl) (jp_55_57 cI cL ad σ350 τ a1) (hts _ kw_49_9) (fun _ h9 => h9) rfl (by decide +kernel) rfl rfl dX12_act_27 (fun σ351 H locs eσ351 hP hS => ?_)
      refine lv_iload_n hx hb dX12_act_30 rfl (lv_at hl 2 rfl) ?_
      by_cases c352 : a2 = 0
      · have kc352 := jeq c352 t2 jz_0
        refine jtopr c352 ?_
        refine lv_tableIn (off := 29) (tgt := 60) hx hb dX12_act_31 (by decide) (by decide) (by decide) (by decide) ?_
        refine lv_aload_n hx hb dX12_act_60 rfl (lv_at hl 0 rfl) ?_
        refine lv_aload_n hx hb dX12_act_61 rfl (lv_at hl 0 rfl) ?_
        refine va_get (D := D) hx hb hts inlX12 hown hK hP 55 (jc_55 cI cL ad σ351 τ) rfl 56 (by decide) (hts _ kw_49_8) (fun _ h9 => h9) rfl dX12_act_62 ?_
        have m353 : σ351 55 56 = 5 := (by rw [eσ351, jup_k (by decide)]; exact (by rw [eσ350]; exact jup_s))
        refine jtopr m353 ?_
        refine lv_iload_n hx hb dX12_act_65 rfl (lv_at hl 3 rfl) ?_
        have m354 : σ351 55 55 = 0 := (by rw [eσ351, jup_k (by decide)]; exact (by rw [eσ350, jup_k (by decide)]; exact (by rw [eσ5]; exact jup_s)))
        have z355 : (σ351 55 56).toInt = 5 := by rw [(show σ351 55 56 = 5 from m353)]; exact jz_5
        refine jcallV (As := [.int 5, .int a3]) (rest := []) ⟨hx, hb, hml, hown, hts⟩ hK hP hA hS hZ (c_X12_putsAs_5_5_0 l D cI cL ad zz hJ σ351 τ a3 (A3) t3 m354 (by omega)) cw_RX12_382 (jc_55 cI cL ad σ351 τ) rfl ⟨Nat.le_of_ble_eq_true rfl, Nat.le_of_ble_eq_true rfl⟩ rfl rfl rfl hl.1 rfl (Nat.le_of_ble_eq_true rfl) dX12_act_66 ⟨Nat.zero_le _, Nat.zero_le _⟩ (fun r357 σ356 τ356 H locs h356 hP hS => ?_)
        obtain ⟨rfl, f358, f359, f360, m361, m362, h356⟩ := h356
        have h363 := h356
        obtain ⟨q365, k364⟩ := h363
        have q365 := q365.symm
        subst q365
        exact hret (a3 + (σ351 55 57)) σ356 τ _ _ _ _ rfl ⟨rfl, (fun i hi => by rw [f358 i (by omega), eσ351, jup_n (by omega), eσ350, jup_n (by omega), eσ5, jup_n (by omega)]), (fun k hk => by rw [f359 k (by omega), eσ351, jup_k (by omega), eσ350, jup_k (by omega), eσ5, jup_k (by omega)]), trivial⟩ hP hS dX12_act_69
      have kc352 := jne c352 t2 jz_0
      by_cases c366 : a2 = 1
      · have kc366 := jeq c366 t2 jz_1
        refine jtopr c366 ?_
        refine lv_tableIn (off := 39) (tgt := 70) hx hb dX12_act_31 (by decide) (by decide) (by decide) (by decide) ?_
        refine lv_aload_n hx hb dX12_act_70 rfl (lv_at hl 0 rfl) ?_
        refine lv_aload_n hx hb dX12_act_71 rfl (lv_at hl 0 rfl) ?_
        refine va_get (D := D) hx hb hts inlX12 hown hK hP 55 (jc_55 cI cL ad σ351 τ) rfl 56 (by decide) (hts _ kw_49_8) (fun _ h9 => h9) rfl dX12_act_72 ?_
        have m367 : σ351 55 56 = 5 := (by rw [eσ351, jup_k (by decide)]; exact (by rw [eσ350]; exact jup_s))
        refine jtopr m367 ?_
        refine lv_iload_n hx hb dX12_act_75 rfl (lv_at hl 3 rfl) ?_
        have m368 : σ351 55 55 = 0 := (by rw [eσ351, jup_k (by decide)]; exact (by rw [eσ350, jup_k (by decide)]; exact (by rw [eσ5]; exact jup_s)))
        have z369 : (σ351 55 56).toInt = 5 := by rw [(show σ351 55 56 = 5 from m367)]; exact jz_5
        refine jcallV (As := [.int 5, .int a3]) (rest := []) ⟨hx, hb, hml, hown, hts⟩ hK hP hA hS hZ (c_X12_holdsAs_5_5_0 l D cI cL ad zz hJ σ351 τ a3 (A3) t3 m368 (by omega)) cw_RX12_388 (jc_55 cI cL ad σ351 τ) rfl ⟨Nat.le_of_ble_eq_true rfl, Nat.le_of_ble_eq_true rfl⟩ rfl rfl rfl hl.1 rfl (Nat.le_of_ble_eq_true rfl) dX12_act_76 ⟨Nat.zero_le _, Nat.zero_le _⟩ (fun r371 σ370 τ370 H locs h370 hP hS => ?_)
        obtain ⟨rfl, f372, f373, f374, m375, m376, m377, m378, h370⟩ := h370
        have h379 := h370
        obtain ⟨q381, k380⟩ := h379
        have q381 := q381.symm
        subst q381
        exact hret (-((a3 + (σ351 55 57)) * 2)) σ370 τ _ _ _ _ rfl ⟨rfl, (fun i hi => by rw [f372 i (by omega), eσ351, jup_n (by omega), eσ350, jup_n (by omega), eσ5, jup_n (by omega)]), (fun k hk => by rw [f373 k (by omega), eσ351, jup_k (by omega), eσ350, jup_k (by omega), eσ5, jup_k (by omega)]), trivial⟩ hP hS dX12_act_79
      have kc366 := jne c366 t2 jz_1
      by_cases c382 : a2 = 2
      · have kc382 := jeq c382 t2 jz_2
        refine jtopr c382 ?_
        refine lv_tableIn (off := 49) (tgt := 80) hx hb dX12_act_31 (by decide) (by decide) (by decide) (by decide) ?_
        refine lv_aload_n hx hb dX12_act_80 rfl (lv_at hl 0 rfl) ?_
        refine lv_aload_n hx hb dX12_act_81 rfl (lv_at hl 0 rfl) ?_
        refine va_get (D := D) hx hb hts inlX12 hown hK hP 55 (jc_55 cI cL ad σ351 τ) rfl 56 (by decide) (hts _ kw_49_8) (fun _ h9 => h9) rfl dX12_act_82 ?_
        have m383 : σ351 55 56 = 5 := (by rw [eσ351, jup_k (by decide)]; exact (by rw [eσ350]; exact jup_s))
        refine jtopr m383 ?_
        refine lv_iload_n hx hb dX12_act_85 rfl (lv_at hl 3 rfl) ?_
        have m384 : σ351 55 55 = 0 := (by rw [eσ351, jup_k (by decide)]; exact (by rw [eσ350, jup_k (by decide)]; exact (by rw [eσ5]; exact jup_s)))
        have z385 : (σ351 55 56).toInt = 5 := by rw [(show σ351 55 56 = 5 from m383)]; exact jz_5
        refine jcallV (As := [.int 5, .int a3]) (rest := []) ⟨hx, hb, hml, hown, hts⟩ hK hP hA hS hZ (c_X12_givesAs_5_5_0 l D cI cL ad zz hJ σ351 τ a3 (A3) t3 m384 (by omega)) cw_RX12_394 (jc_55 cI cL ad σ351 τ) rfl ⟨Nat.le_of_ble_eq_true rfl, Nat.le_of_ble_eq_true rfl⟩ rfl rfl rfl hl.1 rfl (Nat.le_of_ble_eq_true rfl) dX12_act_86 ⟨Nat.zero_le _, Nat.zero_le _⟩ (fun r387 σ386 τ386 H locs h386 hP hS => ?_)
        obtain ⟨rfl, f388, f389, f390, m391, m392, m393, m394, m395, h386⟩ := h386
        have h396 := h386
        obtain ⟨q398, k397⟩ := h396
        have q398 := q398.symm
        subst q398
        exact hret (((a3 ^^^ (σ351 55 57)) * 3) - (2 + (σ351 55 57))) σ386 τ _ _ _ _ rfl ⟨rfl, (fun i hi => by rw [f388 i (by omega), eσ351, jup_n (by omega), eσ350, jup_n (by omega), eσ5, jup_n (by omega)]), (fun k hk => by rw [f389 k (by omega), eσ351, jup_k (by omega), eσ350, jup_k (by omega), eσ5, jup_k (by omega)]), trivial⟩ hP hS dX12_act_89
      have kc382 := jne c382 t2 jz_2
      by_cases c399 : a2 = 3
      · have kc399 := jeq c399 t2 jz_3
        refine jtopr c399 ?_
        refine lv_tableIn (off := 59) (tgt := 90) hx hb dX12_act_31 (by decide) (by decide) (by decide) (by decide) ?_
        refine lv_aload_n hx hb dX12_act_90 rfl (lv_at hl 0 rfl) ?_
        refine lv_aload_n hx hb dX12_act_91 rfl (lv_at hl 0 rfl) ?_
        refine va_get (D := D) hx hb hts inlX12 hown hK hP 55 (jc_55 cI cL ad σ351 τ) rfl 56 (by decide) (hts _ kw_49_8) (fun _ h9 => h9) rfl dX12_act_92 ?_
        have m400 : σ351 55 56 = 5 := (by rw [eσ351, jup_k (by decide)]; exact (by rw [eσ350]; exact jup_s))
        refine jtopr m400 ?_
        refine lv_iload_n hx hb dX12_act_95 rfl (lv_at hl 3 rfl) ?_
        have m401 : σ351 55 55 = 0 := (by rw [eσ351, jup_k (by decide)]; exact (by rw [eσ350, jup_k (by decide)]; exact (by rw [eσ5]; exact jup_s)))
        have z402 : (σ351 55 56).toInt = 5 := by rw [(show σ351 55 56 = 5 from m400)]; exact jz_5
        refine jcallV (As := [.int 5, .int a3]) (rest := []) ⟨hx, hb, hml, hown, hts⟩ hK hP hA hS hZ (c_X12_tellsAs_5_5_0 l D cI cL ad zz hJ σ351 τ a3 (A3) t3 m401 (by omega)) cw_RX12_397 (jc_55 cI cL ad σ351 τ) rfl ⟨Nat.le_of_ble_eq_true rfl, Nat.le_of_ble_eq_true rfl⟩ rfl rfl rfl hl.1 rfl (Nat.le_of_ble_eq_true rfl) dX12_act_96 ⟨Nat.zero_le _, Nat.zero_le _⟩ (fun r404 σ403 τ403 H locs h403 hP hS => ?_)
        obtain ⟨rfl, f405, f406, f407, m408, m409, m410, m411, m412, m413, m414, m415, m416, h403⟩ := h403
        have h417 := h403
        obtain ⟨q419, k418⟩ := h417
        have q419 := q419.symm
        subst q419
        exact hret ((-((a3 + (σ351 55 57)) * 2)) - (((1 ^^^ (σ351 55 57)) * 3) - (2 + (σ351 55 57)))) σ403 τ _ _ _ _ rfl ⟨rfl, (fun i hi => by rw [f405 i (by omega), eσ351, jup_n (by omega), eσ350, jup_n (by omega), eσ5, jup_n (by omega)]), (fun k hk => by rw [f406 k (by omega), eσ351, jup_k (by omega), eσ350, jup_k (by omega), eσ5, jup_k (by omega)]), trivial⟩ hP hS dX12_act_99
      have kc399 := jne c399 t2 jz_3
      refine lv_tableOut (tgt := 100) hx hb dX12_act_31 (by rw [t2]; omega) (by decide) ?_
      refine lv_iconst (v := 0) hx hb dX12_act_100 (by decide) ?_
      exact hret 0 σ351 τ _ _ _ _ rfl ⟨rfl, (fun i hi => by rw [eσ351, jup_n (by omega), eσ350, jup_n (by omega), eσ5, jup_n (by omega)]), (fun k hk => by rw [eσ351, jup_k (by omega), eσ350, jup_k (by omega), eσ5, jup_k (by omega)]), trivial⟩ hP hS dX12_act_101
    have kc349 := jne c349 (rfl : (σ 70 a1.toNatClampNeg).toInt = (σ 70 a1.toNatClampNeg).toInt) jz_5
    by_cases c420 : (σ 70 a1.toNatClampNeg) = 6
    · have kc420 := jeq c420 (rfl : (σ 70 a1.toNatClampNeg).toInt = (σ 70 a1.toNatClampNeg).toInt) jz_6
      refine jtopr c420 ?_
      refine jput (ty := .int) hx hb hts inlX12 tyX12 tyX12_ok nmX12 hown hK hP hJ hA hS (jc_55 cI cL ad σ5 τ) rfl (k := 56) (by decide) (Nat.le_of_ble_eq_true rfl) (jp_55_56 cI cL ad σ5 τ 6) (hts _ kw_49_8) (fun _ h9 => h9) rfl (by decide +kernel) rfl rfl dX12_act_22 (fun σ421 H locs eσ421 hP hS => ?_)
      refine lv_aload_n hx hb dX12_act_25 rfl (lv_at hl 0 rfl) ?_
      refine lv_iload_n hx hb dX12_act_26 rfl (lv_at hl 1 rfl) ?_
      refine jput (ty := .int) hx hb hts inlX12 tyX12 tyX12_ok nmX12 hown hK hP hJ hA hS (jc_55 cI cL ad σ421 τ) rfl (k := 57) (by decide) (Nat.le_of_ble_eq_true rfl) (jp_55_57 cI cL ad σ421 τ a1) (hts _ kw_49_9) (fun _ h9 => h9) rfl (by decide +kernel) rfl rfl dX12_act_27 (fun σ422 H locs eσ422 hP hS => ?_)
      refine lv_iload_n hx hb dX12_act_30 rfl (lv_at hl 2 rfl) ?_
      by_cases c423 : a2 = 0
      · have kc423 := jeq c423 t2 jz_0
        refine jtopr c423 ?_
        refine lv_tableIn (off := 29) (tgt := 60) hx hb dX12_act_31 (by decide) (by decide) (by decide) (by decide) ?_
        refine lv_aload_n hx hb dX12_act_60 rfl (lv_at hl 0 rfl) ?_
        refine lv_aload_n hx hb dX12_act_61 rfl (lv_at hl 0 rfl) ?_
        refine va_get (D := D) hx hb hts inlX12 hown hK hP 55 (jc_55 cI cL ad σ422 τ) rfl 56 (by decide) (hts _ kw_49_8) (fun _ h9 => h9) rfl dX12_act_62 ?_
        have m424 : σ422 55 56 = 6 := (by rw [eσ422, jup_k (by decide)]; exact (by rw [eσ421]; exact jup_s))
        refine jtopr m424 ?_
        refine lv_iload_n hx hb dX12_act_65 rfl (lv_at hl 3 rfl) ?_
        have m425 : σ422 55 55 = 0 := (by rw [eσ422, jup_k (by decide)]; exact (by rw [eσ421, jup_k (by decide)]; exact (by rw [eσ5]; exact jup_s)))
        have z426 : (σ422 55 56).toInt = 6 := by rw [(show σ422 55 56 = 6 from m424)]; exact jz_6
        refine jcallV (As := [.int 6, .int a3]) (rest := []) ⟨hx, hb, hml, hown, hts⟩ hK hP hA hS hZ (c_X12_putsAs_6_6_0 l D cI cL ad zz hJ σ422 τ a3 (A3) t3 m425 (by omega)) cw_RX12_382 (jc_55 cI cL ad σ422 τ) rfl ⟨Nat.le_of_ble_eq_true rfl, Nat.le_of_ble_eq_true rfl⟩ rfl rfl rfl hl.1 rfl (Nat.le_of_ble_eq_true rfl) dX12_act_66 ⟨Nat.zero_le _, Nat.zero_le _⟩ (fun r428 σ427 τ427 H locs h427 hP hS => ?_)
        obtain ⟨rfl, f429, f430, f431, m432, m433, h427⟩ := h427
        have h434 := h427
        obtain ⟨q436, k435⟩ := h434
        have q436 := q436.symm
        subst q436
        exact hret (a3 + (σ422 55 57)) σ427 τ _ _ _ _ rfl ⟨rfl, (fun i hi => by rw [f429 i (by omega), eσ422, jup_n (by omega), eσ421, jup_n (by omega), eσ5, jup_n (by omega)]), (fun k hk => by rw [f430 k (by omega), eσ422, jup_k (by omega), eσ421, jup_k (by omega), eσ5, jup_k (by omega)]), trivial⟩ hP hS dX12_act_69
      have kc423 := jne c423 t2 jz_0
      by_cases c437 : a2 = 1
      · have kc437 := jeq c437 t2 jz_1
        refine jtopr c437 ?_
        refine lv_tableIn (off := 39) (tgt := 70) hx hb dX12_act_31 (by decide) (by decide) (by decide) (by decide) ?_
        refine lv_aload_n hx hb dX12_act_70 rfl (lv_at hl 0 rfl) ?_
        refine lv_aload_n hx hb dX12_act_71 rfl (lv_at hl 0 rfl) ?_
        refine va_get (D := D) hx hb hts inlX12 hown hK hP 55 (jc_55 cI cL ad σ422 τ) rfl 56 (by decide) (hts _ kw_49_8) (fun _ h9 => h9) rfl dX12_act_72 ?_
        have m438 : σ422 55 56 = 6 := (by rw [eσ422, jup_k (by decide)]; exact (by rw [eσ421]; exact jup_s))
        refine jtopr m438 ?_
        refine lv_iload_n hx hb dX12_act_75 rfl (lv_at hl 3 rfl) ?_
        have m439 : σ422 55 55 = 0 := (by rw [eσ422, jup_k (by decide)]; exact (by rw [eσ421, jup_k (by decide)]; exact (by rw [eσ5]; exact jup_s)))
        have z440 : (σ422 55 56).toInt = 6 := by rw [(show σ422 55 56 = 6 from m438)]; exact jz_6
        refine jcallV (As := [.int 6, .int a3]) (rest := []) ⟨hx, hb, hml, hown, hts⟩ hK hP hA hS hZ (c_X12_holdsAs_6_6_0 l D cI cL ad zz hJ σ422 τ a3 (A3) t3 m439 (by omega)) cw_RX12_388 (jc_55 cI cL ad σ422 τ) rfl ⟨Nat.le_of_ble_eq_true rfl, Nat.le_of_ble_eq_true rfl⟩ rfl rfl rfl hl.1 rfl (Nat.le_of_ble_eq_true rfl) dX12_act_76 ⟨Nat.zero_le _, Nat.zero_le _⟩ (fun r442 σ441 τ441 H locs h441 hP hS => ?_)
        obtain ⟨rfl, f443, f444, f445, m446, m447, m448, m449, m450, h441⟩ := h441
        have h451 := h441
        obtain ⟨q453, k452⟩ := h451
        have q453 := q453.symm
        subst q453
        exact hret (((a3 + (σ422 55 57)) * 2) + (1 ^^^ (σ422 55 57))) σ441 τ _ _ _ _ rfl ⟨rfl, (fun i hi => by rw [f443 i (by omega), eσ422, jup_n (by omega), eσ421, jup_n (by omega), eσ5, jup_n (by omega)]), (fun k hk => by rw [f444 k (by omega), eσ422, jup_k (by omega), eσ421, jup_k (by omega), eσ5, jup_k (by omega)]), trivial⟩ hP hS dX12_act_79
      have kc437 := jne c437 t2 jz_1
      by_cases c454 : a2 = 2
      · have kc454 := jeq c454 t2 jz_2
        refine jtopr c454 ?_
        refine lv_tableIn (off := 49) (tgt := 80) hx hb dX12_act_31 (by decide) (by decide) (by decide) (by decide) ?_
        refine lv_aload_n hx hb dX12_act_80 rfl (lv_at hl 0 rfl) ?_
        refine lv_aload_n hx hb dX12_act_81 rfl (lv_at hl 0 rfl) ?_
        refine va_get (D := D) hx hb hts inlX12 hown hK hP 55 (jc_55 cI cL ad σ422 τ) rfl 56 (by decide) (hts _ kw_49_8) (fun _ h9 => h9) rfl dX12_act_82 ?_
        have m455 : σ422 55 56 = 6 := (by rw [eσ422, jup_k (by decide)]; exact (by rw [eσ421]; exact jup_s))
        refine jtopr m455 ?_
        refine lv_iload_n hx hb dX12_act_85 rfl (lv_at hl 3 rfl) ?_
        have m456 : σ422 55 55 = 0 := (by rw [eσ422, jup_k (by decide)]; exact (by rw [eσ421, jup_k (by decide)]; exact (by rw [eσ5]; exact jup_s)))
        have z457 : (σ422 55 56).toInt = 6 := by rw [(show σ422 55 56 = 6 from m455)]; exact jz_6
        refine jcallV (As := [.int 6, .int a3]) (rest := []) ⟨hx, hb, hml, hown, hts⟩ hK hP hA hS hZ (c_X12_givesAs_6_6_0 l D cI cL ad zz hJ σ422 τ a3 (A3) t3 m456 (by omega)) cw_RX12_394 (jc_55 cI cL ad σ422 τ) rfl ⟨Nat.le_of_ble_eq_true rfl, Nat.le_of_ble_eq_true rfl⟩ rfl rfl rfl hl.1 rfl (Nat.le_of_ble_eq_true rfl) dX12_act_86 ⟨Nat.zero_le _, Nat.zero_le _⟩ (fun r459 σ458 τ458 H locs h458 hP hS => ?_)
        obtain ⟨rfl, f460, f461, f462, m463, m464, h458⟩ := h458
        have h465 := h458
        obtain ⟨q467, k466⟩ := h465
        have q467 := q467.symm
        subst q467
        exact hret (a3 ^^^ (σ422 55 57)) σ458 τ _ _ _ _ rfl ⟨rfl, (fun i hi => by rw [f460 i (by omega), eσ422, jup_n (by omega), eσ421, jup_n (by omega), eσ5, jup_n (by omega)]), (fun k hk => by rw [f461 k (by omega), eσ422, jup_k (by omega), eσ421, jup_k (by omega), eσ5, jup_k (by omega)]), trivial⟩ hP hS dX12_act_89
      have kc454 := jne c454 t2 jz_2
      by_cases c468 : a2 = 3
      · have kc468 := jeq c468 t2 jz_3
        refine jtopr c468 ?_
        refine lv_tableIn (off := 59) (tgt := 90) hx hb dX12_act_31 (by decide) (by decide) (by decide) (by decide) ?_
        refine lv_aload_n hx hb dX12_act_90 rfl (lv_at hl 0 rfl) ?_
        refine lv_aload_n hx hb dX12_act_91 rfl (lv_at hl 0 rfl) ?_
        refine va_get (D := D) hx hb hts inlX12 hown hK hP 55 (jc_55 cI cL ad σ422 τ) rfl 56 (by decide) (hts _ kw_49_8) (fun _ h9 => h9) rfl dX12_act_92 ?_
        have m469 : σ422 55 56 = 6 := (by rw [eσ422, jup_k (by decide)]; exact (by rw [eσ421]; exact jup_s))
        refine jtopr m469 ?_
        refine lv_iload_n hx hb dX12_act_95 rfl (lv_at hl 3 rfl) ?_
        have m470 : σ422 55 55 = 0 := (by rw [eσ422, jup_k (by decide)]; exact (by rw [eσ421, jup_k (by decide)]; exact (by rw [eσ5]; exact jup_s)))
        have z471 : (σ422 55 56).toInt = 6 := by rw [(show σ422 55 56 = 6 from m469)]; exact jz_6
        refine jcallV (As := [.int 6, .int a3]) (rest := []) ⟨hx, hb, hml, hown, hts⟩ hK hP hA hS hZ (c_X12_tellsAs_6_6_0 l D cI cL ad zz hJ σ422 τ a3 (A3) t3 m470 (by omega)) cw_RX12_397 (jc_55 cI cL ad σ422 τ) rfl ⟨Nat.le_of_ble_eq_true rfl, Nat.le_of_ble_eq_true rfl⟩ rfl rfl rfl hl.1 rfl (Nat.le_of_ble_eq_true rfl) dX12_act_96 ⟨Nat.zero_le _, Nat.zero_le _⟩ (fun r473 σ472 τ472 H locs h472 hP hS => ?_)
        obtain ⟨rfl, f474, f475, f476, m477, m478, m479, m480, m481, m482, m483, h472⟩ := h472
        have h484 := h472
        obtain ⟨q486, k485⟩ := h484
        have q486 := q486.symm
        subst q486
        exact hret ((((a3 + (σ422 55 57)) * 2) + (1 ^^^ (σ422 55 57))) - (1 ^^^ (σ422 55 57))) σ472 τ _ _ _ _ rfl ⟨rfl, (fun i hi => by rw [f474 i (by omega), eσ422, jup_n (by omega), eσ421, jup_n (by omega), eσ5, jup_n (by omega)]), (fun k hk => by rw [f475 k (by omega), eσ422, jup_k (by omega), eσ421, jup_k (by omega), eσ5, jup_k (by omega)]), trivial⟩ hP hS dX12_act_99
      have kc468 := jne c468 t2 jz_3
      refine lv_tableOut (tgt := 100) hx hb dX12_act_31 (by rw [t2]; omega) (by decide) ?_
      refine lv_iconst (v := 0) hx hb dX12_act_100 (by decide) ?_
      exact hret 0 σ422 τ _ _ _ _ rfl ⟨rfl, (fun i hi => by rw [eσ422, jup_n (by omega), eσ421, jup_n (by omega), eσ5, jup_n (by omega)]), (fun k hk => by rw [eσ422, jup_k (by omega), eσ421, jup_k (by omega), eσ5, jup_k (by omega)]), trivial⟩ hP hS dX12_act_101
    have kc420 := jne c420 (rfl : (σ 70 a1.toNatClampNeg).toInt = (σ 70 a1.toNatClampNeg).toInt) jz_6
    exact absurd (by omega : False) id
  · obtain ⟨q488, k487⟩ := h14
    have q488 := q488.symm
    subst q488
    refine lv_if_ne (tgt := 15) hx hb dX12_act_10 (by decide) (fun c => absurd (by decide) c) (fun _ => ?_)
    refine lv_iconst (v := 0) hx hb dX12_act_13 (by decide) ?_
    exact hret 0 σ5 τ _ _ _ _ rfl ⟨rfl, (fun i hi => by rw [eσ5, jup_n (by omega)]), (fun k hk => by rw [eσ5, jup_k (by omega)]), trivial⟩ hP hS dX12_act_14
