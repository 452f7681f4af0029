set_option maxHeartbeats 4000000 in
set_option maxRecDepth 100000 in
theorem c_X12_isBowler (l : Launch) (D : va_G) (cI cL : ClassId) (ad : Nat → Nat) (hJ : jD ad) (σ : Nat → Nat → Int32) (τ : Nat → Nat → Int64) (a1 : Int32) (A1 : Int) (t1 : a1.toInt = A1) (h55_6 : σ 55 6 = 0) : jM l yX12_isBowler cX12_isBowler 2 (some .boolean) ({ frames := 1, cells := 0, slots := 0, locals := 25 }) D cI cL ad [.ref (ad 55), .int a1] σ τ (fun r σ' τ' => (σ = σ' ∧ τ = τ') ∧ ((r = 0 ∧ True))) := by
  refine jM.of hJ (by decide +kernel) (nt := .boolean) rfl (Nat.le_of_ble_eq_true rfl) ?_
  intro p e s m args below meth c Q ls hC hret hl hP
  obtain ⟨hx, hb, hr, hml, hown, hts, hK, -, hlocks⟩ := hC
  have hown : s.vm.findClass RX12 = some m.cls := hown
  have hS : va_S (jA ad) s.heap s.heap [] := va_S.rf
  have hA : ∀ q, jA ad q → jA ad q := fun _ h => h
  have hl : lv_has ls 2 [(0, .ref (ad 55)), (1, .int a1)] := hl
  have g1 := jrg t1
  refine lv_iload_n hx hb dX12_isBowler_0 rfl (lv_at hl 1 rfl) ?_
  refine lv_i2l (v := a1.toInt64) hx hb dX12_isBowler_1 rfl ?_
  refine lv_lconst (v := 0) hx hb dX12_isBowler_2 (by decide) ?_
  refine lv_aload_n hx hb dX12_isBowler_3 rfl (lv_at hl 0 rfl) ?_
  refine va_get (D := D) hx hb hts inlX12 hown hK hP 55 (jc_55 cI cL ad σ τ) rfl 6 (by decide) (hts _ kw_9_13) (fun _ h9 => h9) rfl dX12_isBowler_4 ?_
  refine jtopr h55_6 ?_
  refine lv_iconst (v := 1) hx hb dX12_isBowler_7 (by decide) ?_
  refine lv_isub hx hb dX12_isBowler_8 ?_
  refine jtopr (y := (-1)) (by decide) ?_
  refine lv_i2l (v := (-1)) hx hb dX12_isBowler_9 (by decide) ?_
  refine jcallS (As := [.long a1.toInt64, .long 0, .long (-1)]) (rest := []) ⟨hx, hb, hml, hown, hts⟩ hK hP hA hS (c_X12_within l D cI cL ad hJ σ τ a1.toInt64 (A1) (jtoL t1) 0 (0) jzl_0 (-1) ((-1)) jzl_m1) cw_RX12_136 ⟨Nat.le_of_ble_eq_true rfl, Nat.le_of_ble_eq_true rfl⟩ rfl rfl rfl hl.1 rfl (Nat.le_of_ble_eq_true rfl) dX12_isBowler_10 ⟨Nat.zero_le _, Nat.zero_le _⟩ (fun r2 σ1 τ1 H locs h1 hP hS => ?_)
  obtain ⟨⟨rfl, rfl⟩, h1⟩ := h1
  rcases h1 with h3 | h4
  · obtain ⟨q6, k5⟩ := h3
    exact absurd (by omega : False) id
  · obtain ⟨q8, k7⟩ := h4
    have q8 := q8.symm
    subst q8
    exact hret 0 σ τ _ _ _ _ rfl ⟨⟨rfl, rfl⟩, ⟨rfl, trivial⟩⟩ hP hS dX12_isBowler_13
set_option maxHeartbeats 4000000 in
set_option maxRecDepth 100000 in
theorem c_X12_isRule (l : Launch) (D : va_G) (cI cL : ClassId) (ad : Nat → Nat) (hJ : jD ad) (σ : Nat → Nat → Int32) (τ : Nat → Nat → Int64) (a1 : Int32) (A1 : Int) (t1 : a1.toInt = A1) (h55_32 : σ 55 32 = 0) : jM l yX12_isRule cX12_isRule 2 (some .boolean) ({ frames := 1, cells := 0, slots := 0, locals := 25 }) D cI cL ad [.ref (ad 55), .int a1] σ τ (fun r σ' τ' => (σ = σ' ∧ τ = τ') ∧ ((r = 0 ∧ True))) := by
  refine jM.of hJ (by decide +kernel) (nt := .boolean) rfl (Nat.le_of_ble_eq_true rfl) ?_
  intro p e s m args below meth c Q ls hC hret hl hP
  obtain ⟨hx, hb, hr, hml, hown, hts, hK, -, hlocks⟩ := hC
  have hown : s.vm.findClass RX12 = some m.cls := hown
  have hS : va_S (jA ad) s.heap s.heap [] := va_S.rf
  have hA : ∀ q, jA ad q → jA ad q := fun _ h => h
  have hl : lv_has ls 2 [(0, .ref (ad 55)), (1, .int a1)] := hl
  have g1 := jrg t1
  refine lv_iload_n hx hb dX12_isRule_0 rfl (lv_at hl 1 rfl) ?_
  refine lv_i2l (v := a1.toInt64) hx hb dX12_isRule_1 rfl ?_
  refine lv_lconst (v := 0) hx hb dX12_isRule_2 (by decide) ?_
  refine lv_aload_n hx hb dX12_isRule_3 rfl (lv_at hl 0 rfl) ?_
  refine va_get (D := D) hx hb hts inlX12 hown hK hP 55 (jc_55 cI cL ad σ τ) rfl 32 (by decide) (hts _ kw_25_1) (fun _ h9 => h9) rfl dX12_isRule_4 ?_
  refine jtopr h55_32 ?_
  refine lv_iconst (v := 1) hx hb dX12_isRule_7 (by decide) ?_
  refine lv_isub hx hb dX12_isRule_8 ?_
  refine jtopr (y := (-1)) (by decide) ?_
  refine lv_i2l (v := (-1)) hx hb dX12_isRule_9 (by decide) ?_
  refine jcallS (As := [.long a1.toInt64, .long 0, .long (-1)]) (rest := []) ⟨hx, hb, hml, hown, hts⟩ hK hP hA hS (c_X12_within l D cI cL ad hJ σ τ a1.toInt64 (A1) (jtoL t1) 0 (0) jzl_0 (-1) ((-1)) jzl_m1) cw_RX12_136 ⟨Nat.le_of_ble_eq_true rfl, Nat.le_of_ble_eq_true rfl⟩ rfl rfl rfl hl.1 rfl (Nat.le_of_ble_eq_true rfl) dX12_isRule_10 ⟨Nat.zero_le _, Nat.zero_le _⟩ (fun r2 σ1 τ1 H locs h1 hP hS => ?_)
  obtain ⟨⟨rfl, rfl⟩, h1⟩ := h1
  rcases h1 with h3 | h4
  · obtain ⟨q6, k5⟩ := h3
    exact absurd (by omega : False) id
  · obtain ⟨q8, k7⟩ := h4
    have q8 := q8.symm
    subst q8
    exact hret 0 σ τ _ _ _ _ rfl ⟨⟨rfl, rfl⟩, ⟨rfl, trivial⟩⟩ hP hS dX12_isRule_13
set_option maxHeartbeats 4000000 in
set_option maxRecDepth 100000 in
theorem c_X12_isShelf (l : Launch) (D : va_G) (cI cL : ClassId) (ad : Nat → Nat) (hJ : jD ad) (σ : Nat → Nat → Int32) (τ : Nat → Nat → Int64) (a1 : Int32) (A1 : Int) (t1 : a1.toInt = A1) : jM l yX12_isShelf cX12_isShelf 1 (some .boolean) ({ frames := 1, cells := 0, slots := 0, locals := 25 }) D cI cL ad [.int a1] σ τ (fun r σ' τ' => (σ = σ' ∧ τ = τ') ∧ ((r = 1 ∧ (0 ≤ A1 ∧ A1 ≤ 5)) ∨ (r = 0 ∧ ((A1 < 0) ∨ (5 < A1))))) := by
  refine jM.of hJ (by decide +kernel) (nt := .boolean) rfl (Nat.le_of_ble_eq_true rfl) ?_
  intro p e s m args below meth c Q ls hC hret hl hP
  obtain ⟨hx, hb, hr, hml, hown, hts, hK, -, hlocks⟩ := hC
  have hown : s.vm.findClass RX12 = some m.cls := hown
  have hS : va_S (jA ad) s.heap s.heap [] := va_S.rf
  have hA : ∀ q, jA ad q → jA ad q := fun _ h => h
  have hl : lv_has ls 1 [(0, .int a1)] := hl
  have g1 := jrg t1
  refine lv_iload_n hx hb dX12_isShelf_0 rfl (lv_at hl 0 rfl) ?_
  refine lv_i2l (v := a1.toInt64) hx hb dX12_isShelf_1 rfl ?_
  refine lv_lconst (v := 0) hx hb dX12_isShelf_2 (by decide) ?_
  refine lv_ldc2 (v := 5) hx hb hown (hts _ kw_43_20) dX12_isShelf_3 ?_
  refine jcallS (As := [.long a1.toInt64, .long 0, .long 5]) (rest := []) ⟨hx, hb, hml, hown, hts⟩ hK hP hA hS (c_X12_within l D cI cL ad hJ σ τ a1.toInt64 (A1) (jtoL t1) 0 (0) jzl_0 5 (5) jzl_5) cw_RX12_136 ⟨Nat.le_of_ble_eq_true rfl, Nat.le_of_ble_eq_true rfl⟩ rfl rfl rfl hl.1 rfl (Nat.le_of_ble_eq_true rfl) dX12_isShelf_6 ⟨Nat.zero_le _, Nat.zero_le _⟩ (fun r2 σ1 τ1 H locs h1 hP hS => ?_)
  obtain ⟨⟨rfl, rfl⟩, h1⟩ := h1
  rcases h1 with h3 | h4
  · obtain ⟨q6, k5⟩ := h3
    have q6 := q6.symm
    subst q6
    exact hret 1 σ τ _ _ _ _ rfl ⟨⟨rfl, rfl⟩, Or.inl ⟨rfl, by omega⟩⟩ hP hS dX12_isShelf_9
  · obtain ⟨q8, k7⟩ := h4
    have q8 := q8.symm
    subst q8
    exact hret 0 σ τ _ _ _ _ rfl ⟨⟨rfl, rfl⟩, Or.inr (⟨rfl, by omega⟩)⟩ hP hS dX12_isShelf_9
set_option maxHeartbeats 4000000 in
set_option maxRecDepth 100000 in
theorem c_X12_bowler (l : Launch) (D : va_G) (cI cL : ClassId) (ad : Nat → Nat) (hJ : jD ad) (σ : Nat → Nat → Int32) (τ : Nat → Nat → Int64) (a1 : Int32) (A1 : Int) (t1 : a1.toInt = A1) (a2 : Int32) (A2 : Int) (t2 : a2.toInt = A2) (a3 : Int32) (A3 : Int) (t3 : a3.toInt = A3) (h55_6 : σ 55 6 = 0) : jM l yX12_bowler cX12_bowler 4 (some .int) ({ frames := 1, cells := 0, slots := 0, locals := 25 }) D cI cL ad [.ref (ad 55), .int a1, .int a2, .int a3] σ τ (fun r σ' τ' => True ∧ r = (if 0 ≤ A1 ∧ A1 ≤ 8 ∧ 0 ≤ A2 ∧ A2 ≤ 50 ∧ 0 ≤ A3 ∧ A3 ≤ 20 then 0 else -1)) := by
  refine jM.of hJ (by decide +kernel) (nt := .int) rfl (Nat.le_of_ble_eq_true rfl) ?_
  intro p e s m args below meth c Q ls hC hret hl hP
  obtain ⟨hx, hb, hr, hml, hown, hts, hK, -, hlocks⟩ := hC
  have hown : s.vm.findClass RX12 = some m.cls := hown
  have hS : va_S (jA ad) s.heap s.heap [] := va_S.rf
  have hA : ∀ q, jA ad q → jA ad q := fun _ h => h
  have hl : lv_has ls 4 [(0, .ref (ad 55)), (1, .int a1), (2, .int a2), (3, .int a3)] := hl
  have g1 := jrg t1
  have g2 := jrg t2
  have g3 := jrg t3
  refine lv_iload_n hx hb dX12_bowler_0 rfl (lv_at hl 1 rfl) ?_
  refine lv_i2l (v := a1.toInt64) hx hb dX12_bowler_1 rfl ?_
  refine lv_lconst (v := 0) hx hb dX12_bowler_2 (by decide) ?_
  refine lv_ldc2 (v := 8) hx hb hown (hts _ kw_9_10) dX12_bowler_3 ?_
  refine jcallS (As := [.long a1.toInt64, .long 0, .long 8]) (rest := []) ⟨hx, hb, hml, hown, hts⟩ hK hP hA hS (c_X12_within l D cI cL ad hJ σ τ a1.toInt64 (A1) (jtoL t1) 0 (0) jzl_0 8 (8) jzl_8) cw_RX12_136 ⟨Nat.le_of_ble_eq_true rfl, Nat.le_of_ble_eq_true rfl⟩ rfl rfl rfl hl.1 rfl (Nat.le_of_ble_eq_true rfl) dX12_bowler_6 ⟨Nat.zero_le _, Nat.zero_le _⟩ (fun r2 σ1 τ1 H locs h1 hP hS => ?_)
  obtain ⟨⟨rfl, rfl⟩, h1⟩ := h1
  rcases h1 with h3 | h4
  · obtain ⟨q6, k5⟩ := h3
    have q6 := q6.symm
    subst q6
    refine lv_if_eq (tgt := 36) hx hb dX12_bowler_9 (by decide) (fun c => absurd c (by decide)) (fun _ => ?_)
    refine lv_iload_n hx hb dX12_bowler_12 rfl (lv_at hl 2 rfl) ?_
    refine lv_i2l (v := a2.toInt64) hx hb dX12_bowler_13 rfl ?_
    refine lv_lconst (v := 0) hx hb dX12_bowler_14 (by decide) ?_
    refine lv_ldc2 (v := 50) hx hb hown (hts _ kw_9_11) dX12_bowler_15 ?_
    refine jcallS (As := [.long a2.toInt64, .long 0, .long 50]) (rest := []) ⟨hx, hb, hml, hown, hts⟩ hK hP hA hS (c_X12_within l D cI cL ad hJ σ τ a2.toInt64 (A2) (jtoL t2) 0 (0) jzl_0 50 (50) jzl_50) cw_RX12_136 ⟨Nat.le_of_ble_eq_true rfl, Nat.le_of_ble_eq_true rfl⟩ rfl rfl rfl hl.1 rfl (Nat.le_of_ble_eq_true rfl) dX12_bowler_18 ⟨Nat.zero_le _, Nat.zero_le _⟩ (fun r8 σ7 τ7 H locs h7 hP hS => ?_)
    obtain ⟨⟨rfl, rfl⟩, h7⟩ := h7
    rcases h7 with h9 | h10
    · obtain ⟨q12, k11⟩ := h9
      have q12 := q12.symm
      subst q12
      refine lv_if_eq (tgt := 36) hx hb dX12_bowler_21 (by decide) (fun c => absurd c (by decide)) (fun _ => ?_)
      refine lv_iload_n hx hb dX12_bowler_24 rfl (lv_at hl 3 rfl) ?_
      refine lv_i2l (v := a3.toInt64) hx hb dX12_bowler_25 rfl ?_
      refine lv_lconst (v := 0) hx hb dX12_bowler_26 (by decide) ?_
      refine lv_ldc2 (v := 20) hx hb hown (hts _ kw_9_12) dX12_bowler_27 ?_
      refine jcallS (As := [.long a3.toInt64, .long 0, .long 20]) (rest := []) ⟨hx, hb, hml, hown, hts⟩ hK hP hA hS (c_X12_within l D cI cL ad hJ σ τ a3.toInt64 (A3) (jtoL t3) 0 (0) jzl_0 20 (20) jzl_20) cw_RX12_136 ⟨Nat.le_of_ble_eq_true rfl, Nat.le_of_ble_eq_true rfl⟩ rfl rfl rfl hl.1 rfl (Nat.le_of_ble_eq_true rfl) dX12_bowler_30 ⟨Nat.zero_le _, Nat.zero_le _⟩ (fun r14 σ13 τ13 H locs h13 hP hS => ?_)
      obtain ⟨⟨rfl, rfl⟩, h13⟩ := h13
      rcases h13 with h15 | h16
      · obtain ⟨q18, k17⟩ := h15
        have q18 := q18.symm
        subst q18
        refine lv_if_ne (tgt := 38) hx hb dX12_bowler_33 (by decide) (fun _ => ?_) (fun c => absurd c (by decide))
        refine lv_aload_n hx hb dX12_bowler_38 rfl (lv_at hl 0 rfl) ?_
        refine va_get (D := D) hx hb hts inlX12 hown hK hP 55 (jc_55 cI cL ad σ τ) rfl 6 (by decide) (hts _ kw_9_13) (fun _ h9 => h9) rfl dX12_bowler_39 ?_
        refine jtopr h55_6 ?_
        refine lv_iconst (v := 4) hx hb dX12_bowler_42 (by decide) ?_
        refine lv_icmp_ne (tgt := 49) hx hb dX12_bowler_43 (by decide) (fun _ => ?_) (fun c => absurd c (by decide))
        refine lv_aload_n hx hb dX12_bowler_49 rfl (lv_at hl 0 rfl) ?_
        refine va_get (D := D) hx hb hts inlX12 hown hK hP 55 (jc_55 cI cL ad σ τ) rfl 0 (by decide) (hts _ kw_7_2) (fun _ h9 => h9) rfl dX12_bowler_50 ?_
        refine lv_bipush (v := 32) hx hb dX12_bowler_53 (by decide) ?_
        refine lv_aload_n hx hb dX12_bowler_55 rfl (lv_at hl 0 rfl) ?_
        refine va_get (D := D) hx hb hts inlX12 hown hK hP 55 (jc_55 cI cL ad σ τ) rfl 6 (by decide) (hts _ kw_9_13) (fun _ h9 => h9) rfl dX12_bowler_56 ?_
        refine jtopr h55_6 ?_
        refine lv_iadd hx hb dX12_bowler_59 ?_
        refine jtopr (y := 32) (by decide) ?_
        refine lv_iload_n hx hb dX12_bowler_60 rfl (lv_at hl 1 rfl) ?_
        refine jast hx hb hK hP hJ hA hS (jc_56 cI cL ad σ τ) (ja_56 cI cL ad σ τ _ _) (jin jz_32 (by omega) (by omega)) dX12_bowler_61 (fun σ19 H locs eσ19 hP hS => ?_)
        have eσ19 : σ19 = jup σ 56 32 a1 := eσ19
        refine lv_aload_n hx hb dX12_bowler_62 rfl (lv_at hl 0 rfl) ?_
        refine va_get (D := D) hx hb hts inlX12 hown hK hP 55 (jc_55 cI cL ad σ19 τ) rfl 7 (by decide) (hts _ kw_7_6) (fun _ h9 => h9) rfl dX12_bowler_63 ?_
        refine lv_aload_n hx hb dX12_bowler_66 rfl (lv_at hl 0 rfl) ?_
        refine va_get (D := D) hx hb hts inlX12 hown hK hP 55 (jc_55 cI cL ad σ19 τ) rfl 6 (by decide) (hts _ kw_9_13) (fun _ h9 => h9) rfl dX12_bowler_67 ?_
        have m20 : σ19 55 6 = 0 := (by rw [eσ19, jup_n (by decide)]; exact h55_6)
        refine jtopr m20 ?_
        refine lv_iload_n hx hb dX12_bowler_70 rfl (lv_at hl 2 rfl) ?_
        refine jast hx hb hK hP hJ hA hS (jc_60 cI cL ad σ19 τ) (ja_60 cI cL ad σ19 τ _ _) (jin jz_0 (by omega) (by omega)) dX12_bowler_71 (fun σ21 H locs eσ21 hP hS => ?_)
        have eσ21 : σ21 = jup σ19 60 0 a2 := eσ21
        refine lv_aload_n hx hb dX12_bowler_72 rfl (lv_at hl 0 rfl) ?_
        refine va_get (D := D) hx hb hts inlX12 hown hK hP 55 (jc_55 cI cL ad σ21 τ) rfl 8 (by decide) (hts _ kw_7_7) (fun _ h9 => h9) rfl dX12_bowler_73 ?_
        refine lv_aload_n hx hb dX12_bowler_76 rfl (lv_at hl 0 rfl) ?_
        refine va_get (D := D) hx hb hts inlX12 hown hK hP 55 (jc_55 cI cL ad σ21 τ) rfl 6 (by decide) (hts _ kw_9_13) (fun _ h9 => h9) rfl dX12_bowler_77 ?_
        have m22 : σ21 55 6 = 0 := (by rw [eσ21, jup_n (by decide)]; exact m20)
        refine jtopr m22 ?_
        refine lv_iload_n hx hb dX12_bowler_80 rfl (lv_at hl 3 rfl) ?_
        refine jast hx hb hK hP hJ hA hS (jc_61 cI cL ad σ21 τ) (ja_61 cI cL ad σ21 τ _ _) (jin jz_0 (by omega) (by omega)) dX12_bowler_81 (fun σ23 H locs eσ23 hP hS => ?_)
        have eσ23 : σ23 = jup σ21 61 0 a3 := eσ23
        refine lv_aload_n hx hb dX12_bowler_82 rfl (lv_at hl 0 rfl) ?_
        refine lv_dup hx hb dX12_bowler_83 rfl ?_
        refine va_get (D := D) hx hb hts inlX12 hown hK hP 55 (jc_55 cI cL ad σ23 τ) rfl 6 (by decide) (hts _ kw_9_13) (fun _ h9 => h9) rfl dX12_bowler_84 ?_
        have m24 : σ23 55 6 = 0 := (by rw [eσ23, jup_n (by decide)]; exact m22)
        refine jtopr m24 ?_
        refine lv_iconst (v := 1) hx hb dX12_bowler_87 (by decide) ?_
        refine lv_iadd hx hb dX12_bowler_88 ?_
        refine jtopr (y := 1) (by decide) ?_
        refine jput (ty := .int) hx hb hts inlX12 tyX12 tyX12_ok nmX12 hown hK hP hJ hA hS (jc_55 cI cL ad σ23 τ) rfl (k := 6) (by decide) (Nat.le_of_ble_eq_true rfl) (jp_55_6 cI cL ad σ23 τ 1) (hts _ kw_9_13) (fun _ h9 => h9) rfl (by decide +kernel) rfl rfl dX12_bowler_89 (fun σ25 H locs eσ25 hP hS => ?_)
        refine lv_aload_n hx hb dX12_bowler_92 rfl (lv_at hl 0 rfl) ?_
        refine va_get (D := D) hx hb hts inlX12 hown hK hP 55 (jc_55 cI cL ad σ25 τ) rfl 6 (by decide) (hts _ kw_9_13) (fun _ h9 => h9) rfl dX12_bowler_93 ?_
        have m26 : σ25 55 6 = 1 := (by rw [eσ25]; exact jup_s)
        refine jtopr m26 ?_
        refine lv_iconst (v := 1) hx hb dX12_bowler_96 (by decide) ?_
        refine lv_isub hx hb dX12_bowler_97 ?_
        refine jtopr (y := 0) (by decide) ?_
        exact hret 0 σ25 τ _ _ _ _ rfl ⟨trivial, (by (repeat' split) <;> first | rfl | omega | exact jsame jz_0 t1 (by omega) | exact jsame jz_0 t2 (by omega) | exact jsame jz_0 t3 (by omega) | (exfalso; omega))⟩ hP hS dX12_bowler_98
      · obtain ⟨q28, k27⟩ := h16
        have q28 := q28.symm
        subst q28
        refine lv_if_ne (tgt := 38) hx hb dX12_bowler_33 (by decide) (fun c => absurd (by decide) c) (fun _ => ?_)
        refine lv_iconst (v := (-1)) hx hb dX12_bowler_36 (by decide) ?_
        exact hret (-1) σ τ _ _ _ _ rfl ⟨trivial, (by (repeat' split) <;> first | rfl | omega | exact jsame jz_m1 t1 (by omega) | exact jsame jz_m1 t2 (by omega) | exact jsame jz_m1 t3 (by omega) | (exfalso; omega))⟩ hP hS dX12_bowler_37
    · obtain ⟨q30, k29⟩ := h10
      have q30 := q30.symm
      subst q30
      refine lv_if_eq (tgt := 36) hx hb dX12_bowler_21 (by decide) (fun _ => ?_) (fun c => absurd (by decide) c)
      refine lv_iconst (v := (-1)) hx hb dX12_bowler_36 (by decide) ?_
      exact hret (-1) σ τ _ _ _ _ rfl ⟨trivial, (by (repeat' split) <;> first | rfl | omega | exact jsame jz_m1 t1 (by omega) | exact jsame jz_m1 t2 (by omega) | exact jsame jz_m1 t3 (by omega) | (exfalso; omega))⟩ hP hS dX12_bowler_37
  · obtain ⟨q32, k31⟩ := h4
    have q32 := q32.symm
    subst q32
    refine lv_if_eq (tgt := 36) hx hb dX12_bowler_9 (by decide) (fun _ => ?_) (fun c => absurd (by decide) c)
    refine lv_iconst (v := (-1)) hx hb dX12_bowler_36 (by decide) ?_
    exact hret (-1) σ τ _ _ _ _ rfl ⟨trivial, (by (repeat' split) <;> first | rfl | omega | exact jsame jz_m1 t1 (by omega) | exact jsame jz_m1 t2 (by omega) | exact jsame jz_m1 t3 (by omega) | (exfalso; omega))⟩ hP hS dX12_bowler_37
set_option maxHeartbeats 4000000 in
set_option maxRecDepth 100000 in
theorem c_X12_edge (l : Launch) (D : va_G) (cI cL : ClassId) (ad : Nat → Nat) (hJ : jD ad) (σ : Nat → Nat → Int32) (τ : Nat → Nat → Int64) (a1 : Int32) (A1 : Int) (t1 : a1.toInt = A1) (a2 : Int32) (A2 : Int) (t2 : a2.toInt = A2) (a3 : Int32) (A3 : Int) (t3 : a3.toInt = A3) (h55_6 : σ 55 6 = 0) : jM l yX12_edge cX12_edge 5 (some .int) ({ frames := 2, cells := 0, slots := 0, locals := 46 }) D cI cL ad [.ref (ad 55), .int a1, .int a2, .int a3] σ τ (fun r σ' τ' => True ∧ r = (-2000000000)) := by
  refine jM.of hJ (by decide +kernel) (nt := .int) rfl (Nat.le_of_ble_eq_true rfl) ?_
  intro p e s m args below meth c Q ls hC hret hl hP
  obtain ⟨hx, hb, hr, hml, hown, hts, hK, -, hlocks⟩ := hC
  have hown : s.vm.findClass RX12 = some m.cls := hown
  have hS : va_S (jA ad) s.heap s.heap [] := va_S.rf
  have hA : ∀ q, jA ad q → jA ad q := fun _ h => h
  have hl : lv_has ls 5 [(0, .ref (ad 55)), (1, .int a1), (2, .int a2), (3, .int a3)] := hl
  have g1 := jrg t1
  have g2 := jrg t2
  have g3 := jrg t3
  refine lv_iload_n hx hb dX12_edge_0 rfl (lv_at hl 1 rfl) ?_
  refine lv_if_lt (tgt := 27) hx hb dX12_edge_1 (by decide) (fun c1 => ?_) (fun c1 => ?_)
  · have kc1 := jlt c1 t1 jz_0
    refine lv_ldc (v := (-2000000000)) hx hb hown (hts _ kw_11_4) dX12_edge_27 ?_
    exact hret (-2000000000) σ τ _ _ _ _ rfl ⟨trivial, (by (repeat' split) <;> first | rfl | omega | exact jsame jz_m2000000000 t1 (by omega) | exact jsame jz_m2000000000 t2 (by omega) | exact jsame jz_m2000000000 t3 (by omega) | (exfalso; omega))⟩ hP hS dX12_edge_29
  · have kc1 := jnlt c1 t1 jz_0
    refine lv_aload_n hx hb dX12_edge_4 rfl (lv_at hl 0 rfl) ?_
    refine lv_iload_n hx hb dX12_edge_5 rfl (lv_at hl 1 rfl) ?_
    refine lv_bipush (v := 10) hx hb dX12_edge_6 (by decide) ?_
    refine lv_idiv hx hb dX12_edge_8 (by decide) ?_
    refine lv_topi (fun x2 ex2 => ?_)
    have tx2 : x2.toInt = (A1 / 10) := jdiv ex2 t1 jz_10 (by omega) (by omega)
    refine jcallV (As := [.int x2]) (rest := []) ⟨hx, hb, hml, hown, hts⟩ hK hP hA hS (c_X12_isBowler l D cI cL ad hJ σ τ x2 ((A1 / 10)) tx2 h55_6) cw_RX12_146 (jc_55 cI cL ad σ τ) rfl ⟨Nat.le_of_ble_eq_true rfl, Nat.le_of_ble_eq_true rfl⟩ rfl rfl rfl hl.1 rfl (Nat.le_of_ble_eq_true rfl) dX12_edge_9 ⟨Nat.zero_le _, Nat.zero_le _⟩ (fun r4 σ3 τ3 H locs h3 hP hS => ?_)
    obtain ⟨⟨rfl, rfl⟩, h3⟩ := h3
    have h5 := h3
    obtain ⟨q7, k6⟩ := h5
    have q7 := q7.symm
    subst q7
    refine lv_if_eq (tgt := 27) hx hb dX12_edge_12 (by decide) (fun _ => ?_) (fun c => absurd (by decide) c)
    refine lv_ldc (v := (-2000000000)) hx hb hown (hts _ kw_11_4) dX12_edge_27 ?_
    exact hret (-2000000000) σ τ _ _ _ _ rfl ⟨trivial, (by (repeat' split) <;> first | rfl | omega | exact jsame jz_m2000000000 t1 (by omega) | exact jsame jz_m2000000000 t2 (by omega) | exact jsame jz_m2000000000 t3 (by omega) | (exfalso; omega))⟩ hP hS dX12_edge_29
set_option maxHeartbeats 4000000 in
set_option maxRecDepth 100000 in
theorem c_X12_becomes (l : Launch) (D : va_G) (cI cL : ClassId) (ad : Nat → Nat) (hJ : jD ad) (σ : Nat → Nat → Int32) (τ : Nat → Nat → Int64) (a1 : Int32) (A1 : Int) (t1 : a1.toInt = A1) (a2 : Int32) (A2 : Int) (t2 : a2.toInt = A2) (h55_5 : σ 55 5 = 0) (ha56 : ∀ k : Nat, 16 ≤ k → k < 68 → σ 56 k = 0) (hp0 : 36 ≤ A1) (hp1 : A1 < 68) : jM l yX12_becomes cX12_becomes 5 (some .int) ({ frames := 0, cells := 0, slots := 0, locals := 0 }) D cI cL ad [.ref (ad 55), .int a1, .int a2] σ τ (fun r σ' τ' => True ∧ ((r = 0 ∧ True))) := by
  refine jM.of hJ (by decide +kernel) (nt := .int) rfl (Nat.le_of_ble_eq_true rfl) ?_
  intro p e s m args below meth c Q ls hC hret hl hP
  obtain ⟨hx, hb, hr, hml, hown, hts, hK, -, hlocks⟩ := hC
  have hown : s.vm.findClass RX12 = some m.cls := hown
  have hS : va_S (jA ad) s.heap s.heap [] := va_S.rf
  have hA : ∀ q, jA ad q → jA ad q := fun _ h => h
  have hl : lv_has ls 5 [(0, .ref (ad 55)), (1, .int a1), (2, .int a2)] := hl
  have g1 := jrg t1
  have g2 := jrg t2
  refine lv_aload_n hx hb dX12_becomes_0 rfl (lv_at hl 0 rfl) ?_
  refine va_get (D := D) hx hb hts inlX12 hown hK hP 55 (jc_55 cI cL ad σ τ) rfl 0 (by decide) (hts _ kw_7_2) (fun _ h9 => h9) rfl dX12_becomes_1 ?_
  refine lv_iload_n hx hb dX12_becomes_4 rfl (lv_at hl 1 rfl) ?_
  refine jald hx hb hK hP (jc_56 cI cL ad σ τ) (jin t1 (by omega) (by omega)) dX12_becomes_5 ?_
  refine jtopr (ha56 _ (jnatl t1 (by omega)) (jnat t1 (by omega) (by decide))) ?_
  refine lv_istore_n (lv' := [(3, .int 0), (0, .ref (ad 55)), (1, .int a1), (2, .int a2)]) hx hb dX12_becomes_6 rfl hl (by decide) rfl (fun ls hl => ?_)
  refine lv_iload_n hx hb dX12_becomes_7 rfl (lv_at hl 0 rfl) ?_
  refine lv_iload_n hx hb dX12_becomes_8 rfl (lv_at hl 3 rfl) ?_
  refine lv_icmp_ne (tgt := 14) hx hb dX12_becomes_9 (by decide) (fun c1 => ?_) (fun c1 => ?_)
  · have kc1 := jne c1 jz_0 t2
    refine lv_aload_n hx hb dX12_becomes_14 rfl (lv_at hl 1 rfl) ?_
    refine va_get (D := D) hx hb hts inlX12 hown hK hP 55 (jc_55 cI cL ad σ τ) rfl 5 (by decide) (hts _ kw_11_16) (fun _ h9 => h9) rfl dX12_becomes_15 ?_
    refine jtopr h55_5 ?_
    refine lv_bipush (v := 40) hx hb dX12_becomes_18 (by decide) ?_
    refine lv_icmp_ne (tgt := 97) hx hb dX12_becomes_20 (by decide) (fun _ => ?_) (fun c => absurd c (by decide))
    refine lv_aload_n hx hb dX12_becomes_97 rfl (lv_at hl 1 rfl) ?_
    refine va_get (D := D) hx hb hts inlX12 hown hK hP 55 (jc_55 cI cL ad σ τ) rfl 1 (by decide) (hts _ kw_7_3) (fun _ h9 => h9) rfl dX12_becomes_98 ?_
    refine lv_aload_n hx hb dX12_becomes_101 rfl (lv_at hl 1 rfl) ?_
    refine va_get (D := D) hx hb hts inlX12 hown hK hP 55 (jc_55 cI cL ad σ τ) rfl 5 (by decide) (hts _ kw_11_16) (fun _ h9 => h9) rfl dX12_becomes_102 ?_
    refine jtopr h55_5 ?_
    refine lv_iload_n hx hb dX12_becomes_105 rfl (lv_at hl 2 rfl) ?_
    refine jast hx hb hK hP hJ hA hS (jc_57 cI cL ad σ τ) (ja_57 cI cL ad σ τ _ _) (jin jz_0 (by omega) (by omega)) dX12_becomes_106 (fun σ2 H locs eσ2 hP hS => ?_)
    have eσ2 : σ2 = jup σ 57 0 a1 := eσ2
    refine lv_aload_n hx hb dX12_becomes_107 rfl (lv_at hl 1 rfl) ?_
    refine va_get (D := D) hx hb hts inlX12 hown hK hP 55 (jc_55 cI cL ad σ2 τ) rfl 2 (by decide) (hts _ kw_7_4) (fun _ h9 => h9) rfl dX12_becomes_108 ?_
    refine lv_aload_n hx hb dX12_becomes_111 rfl (lv_at hl 1 rfl) ?_
    refine va_get (D := D) hx hb hts inlX12 hown hK hP 55 (jc_55 cI cL ad σ2 τ) rfl 5 (by decide) (hts _ kw_11_16) (fun _ h9 => h9) rfl dX12_becomes_112 ?_
    have m3 : σ2 55 5 = 0 := (by rw [eσ2, jup_n (by decide)]; exact h55_5)
    refine jtopr m3 ?_
    refine lv_iload_n hx hb dX12_becomes_115 rfl (lv_at hl 0 rfl) ?_
    refine jast hx hb hK hP hJ hA hS (jc_58 cI cL ad σ2 τ) (ja_58 cI cL ad σ2 τ _ _) (jin jz_0 (by omega) (by omega)) dX12_becomes_116 (fun σ4 H locs eσ4 hP hS => ?_)
    have eσ4 : σ4 = jup σ2 58 0 0 := eσ4
    refine lv_aload_n hx hb dX12_becomes_117 rfl (lv_at hl 1 rfl) ?_
    refine va_get (D := D) hx hb hts inlX12 hown hK hP 55 (jc_55 cI cL ad σ4 τ) rfl 3 (by decide) (hts _ kw_7_5) (fun _ h9 => h9) rfl dX12_becomes_118 ?_
    refine lv_aload_n hx hb dX12_becomes_121 rfl (lv_at hl 1 rfl) ?_
    refine va_get (D := D) hx hb hts inlX12 hown hK hP 55 (jc_55 cI cL ad σ4 τ) rfl 5 (by decide) (hts _ kw_11_16) (fun _ h9 => h9) rfl dX12_becomes_122 ?_
    have m5 : σ4 55 5 = 0 := (by rw [eσ4, jup_n (by decide)]; exact m3)
    refine jtopr m5 ?_
    refine lv_iload_n hx hb dX12_becomes_125 rfl (lv_at hl 3 rfl) ?_
    refine jast hx hb hK hP hJ hA hS (jc_59 cI cL ad σ4 τ) (ja_59 cI cL ad σ4 τ _ _) (jin jz_0 (by omega) (by omega)) dX12_becomes_126 (fun σ6 H locs eσ6 hP hS => ?_)
    have eσ6 : σ6 = jup σ4 59 0 a2 := eσ6
    refine lv_aload_n hx hb dX12_becomes_127 rfl (lv_at hl 1 rfl) ?_
    refine lv_dup hx hb dX12_becomes_128 rfl ?_
    refine va_get (D := D) hx hb hts inlX12 hown hK hP 55 (jc_55 cI cL ad σ6 τ) rfl 5 (by decide) (hts _ kw_11_16) (fun _ h9 => h9) rfl dX12_becomes_129 ?_
    have m7 : σ6 55 5 = 0 := (by rw [eσ6, jup_n (by decide)]; exact m5)
    refine jtopr m7 ?_
    refine lv_iconst (v := 1) hx hb dX12_becomes_132 (by decide) ?_
    refine lv_iadd hx hb dX12_becomes_133 ?_
    refine jtopr (y := 1) (by decide) ?_
    refine jput (ty := .int) hx hb hts inlX12 tyX12 tyX12_ok nmX12 hown hK hP hJ hA hS (jc_55 cI cL ad σ6 τ) rfl (k := 5) (by decide) (Nat.le_of_ble_eq_true rfl) (jp_55_5 cI cL ad σ6 τ 1) (hts _ kw_11_16) (fun _ h9 => h9) rfl (by decide +kernel) rfl rfl dX12_becomes_134 (fun σ8 H locs eσ8 hP hS => ?_)
    refine lv_aload_n hx hb dX12_becomes_137 rfl (lv_at hl 1 rfl) ?_
    refine lv_aload_n hx hb dX12_becomes_138 rfl (lv_at hl 1 rfl) ?_
    refine va_get (D := D) hx hb hts inlX12 hown hK hP 55 (jc_55 cI cL ad σ8 τ) rfl 5 (by decide) (hts _ kw_11_16) (fun _ h9 => h9) rfl dX12_becomes_139 ?_
    have m9 : σ8 55 5 = 1 := (by rw [eσ8]; exact jup_s)
    refine jtopr m9 ?_
    refine jput (ty := .int) hx hb hts inlX12 tyX12 tyX12_ok nmX12 hown hK hP hJ hA hS (jc_55 cI cL ad σ8 τ) rfl (k := 4) (by decide) (Nat.le_of_ble_eq_true rfl) (jp_55_4 cI cL ad σ8 τ 1) (hts _ kw_11_17) (fun _ h9 => h9) rfl (by decide +kernel) rfl rfl dX12_becomes_142 (fun σ10 H locs eσ10 hP hS => ?_)
    refine lv_aload_n hx hb dX12_becomes_145 rfl (lv_at hl 1 rfl) ?_
    refine va_get (D := D) hx hb hts inlX12 hown hK hP 55 (jc_55 cI cL ad σ10 τ) rfl 0 (by decide) (hts _ kw_7_2) (fun _ h9 => h9) rfl dX12_becomes_146 ?_
    refine lv_iload_n hx hb dX12_becomes_149 rfl (lv_at hl 2 rfl) ?_
    refine lv_iload_n hx hb dX12_becomes_150 rfl (lv_at hl 3 rfl) ?_
    refine jast hx hb hK hP hJ hA hS (jc_56 cI cL ad σ10 τ) (ja_56 cI cL ad σ10 τ _ _) (jin t1 (by omega) (by omega)) dX12_becomes_151 (fun σ11 H locs eσ11 hP hS => ?_)
    refine lv_iload_n hx hb dX12_becomes_152 rfl (lv_at hl 0 rfl) ?_
    exact hret 0 σ11 τ _ _ _ _ rfl ⟨trivial, ⟨rfl, trivial⟩⟩ hP hS dX12_becomes_153
  · have kc1 := jeq c1 jz_0 t2
    refine lv_iload_n hx hb dX12_becomes_12 rfl (lv_at hl 0 rfl) ?_
    exact hret 0 σ τ _ _ _ _ rfl ⟨trivial, ⟨rfl, trivial⟩⟩ hP hS dX12_becomes_13
set_option maxHeartbeats 4000000 in
set_option maxRecDepth 100000 in
theorem c_X12_field (l : Launch) (D : va_G) (cI cL : ClassId) (ad : Nat → Nat) (hJ : jD ad) (σ : Nat → Nat → Int32) (τ : Nat → Nat → Int64) (a1 : Int32) (A1 : Int) (t1 : a1.toInt = A1) (a2 : Int32) (A2 : Int) (t2 : a2.toInt = A2) (a3 : Int32) (A3 : Int) (t3 : a3.toInt = A3) (h55_5 : σ 55 5 = 0) (ha56 : ∀ k : Nat, 16 ≤ k → k < 68 → σ 56 k = 0) : jM l yX12_field cX12_field 5 (some .int) ({ frames := 1, cells := 0, slots := 0, locals := 25 }) D cI cL ad [.ref (ad 55), .int a1, .int a2, .int a3] σ τ (fun r σ' τ' => True ∧ r = (if 0 ≤ A1 ∧ A1 / 10 ≤ 3 ∧ A1 % 10 ≤ 3 ∧ ((A2 = 0 ∧ -200 ≤ A3 ∧ A3 ≤ 200) ∨ (A2 = 1 ∧ -9 ≤ A3 ∧ A3 ≤ 9)) then 0 else -2000000000)) := by
  refine jM.of hJ (by decide +kernel) (nt := .int) rfl (Nat.le_of_ble_eq_true rfl) ?_
  intro p e s m args below meth c Q ls hC hret hl hP
  obtain ⟨hx, hb, hr, hml, hown, hts, hK, -, hlocks⟩ := hC
  have hown : s.vm.findClass RX12 = some m.cls := hown
  have hS : va_S (jA ad) s.heap s.heap [] := va_S.rf
  have hA : ∀ q, jA ad q → jA ad q := fun _ h => h
  have hl : lv_has ls 5 [(0, .ref (ad 55)), (1, .int a1), (2, .int a2), (3, .int a3)] := hl
  have g1 := jrg t1
  have g2 := jrg t2
  have g3 := jrg t3
  refine lv_iload_n hx hb dX12_field_0 rfl (lv_at hl 1 rfl) ?_
  refine lv_if_lt (tgt := 69) hx hb dX12_field_1 (by decide) (fun c1 => ?_) (fun c1 => ?_)
  · have kc1 := jlt c1 t1 jz_0
    refine lv_iconst (v := 0) hx hb dX12_field_69 (by decide) ?_
    refine lv_istore (lv' := [(4, .int 0), (0, .ref (ad 55)), (1, .int a1), (2, .int a2), (3, .int a3)]) hx hb dX12_field_70 hl (by decide) rfl (fun ls hl => ?_)
    refine lv_iload hx hb dX12_field_72 (lv_at hl 0 rfl) ?_
    refine lv_if_eq (tgt := 108) hx hb dX12_field_74 (by decide) (fun _ => ?_) (fun c => absurd (by decide) c)
    refine lv_ldc (v := (-2000000000)) hx hb hown (hts _ kw_11_4) dX12_field_108 ?_
    exact hret (-2000000000) σ τ _ _ _ _ rfl ⟨trivial, (by (repeat' split) <;> first | rfl | omega | exact jsame jz_m2000000000 t1 (by omega) | exact jsame jz_m2000000000 t2 (by omega) | exact jsame jz_m2000000000 t3 (by omega) | (exfalso; omega))⟩ hP hS dX12_field_110
  · have kc1 := jnlt c1 t1 jz_0
    refine lv_iload_n hx hb dX12_field_4 rfl (lv_at hl 1 rfl) ?_
    refine lv_bipush (v := 10) hx hb dX12_field_5 (by decide) ?_
    refine lv_idiv hx hb dX12_field_7 (by decide) ?_
    refine lv_topi (fun x2 ex2 => ?_)
    have tx2 : x2.toInt = (A1 / 10) := jdiv ex2 t1 jz_10 (by omega) (by omega)
    refine lv_iconst (v := 4) hx hb dX12_field_8 (by decide) ?_
    refine lv_icmp_ge (tgt := 69) hx hb dX12_field_9 (by decide) (fun c3 => ?_) (fun c3 => ?_)
    · have kc3 := jle c3 jz_4 tx2
      refine lv_iconst (v := 0) hx hb dX12_field_69 (by decide) ?_
      refine lv_istore (lv' := [(4, .int 0), (0, .ref (ad 55)), (1, .int a1), (2, .int a2), (3, .int a3)]) hx hb dX12_field_70 hl (by decide) rfl (fun ls hl => ?_)
      refine lv_iload hx hb dX12_field_72 (lv_at hl 0 rfl) ?_
      refine lv_if_eq (tgt := 108) hx hb dX12_field_74 (by decide) (fun _ => ?_) (fun c => absurd (by decide) c)
      refine lv_ldc (v := (-2000000000)) hx hb hown (hts _ kw_11_4) dX12_field_108 ?_
      exact hret (-2000000000) σ τ _ _ _ _ rfl ⟨trivial, (by (repeat' split) <;> first | rfl | omega | exact jsame jz_m2000000000 t1 (by omega) | exact jsame jz_m2000000000 t2 (by omega) | exact jsame jz_m2000000000 t3 (by omega) | (exfalso; omega))⟩ hP hS dX12_field_110
    · have kc3 := jnle c3 jz_4 tx2
      refine lv_iload_n hx hb dX12_field_12 rfl (lv_at hl 1 rfl) ?_
      refine lv_bipush (v := 10) hx hb dX12_field_13 (by decide) ?_
      refine lv_irem hx hb dX12_field_15 (by decide) ?_
      refine lv_topi (fun x4 ex4 => ?_)
      have tx4 : x4.toInt = (A1 % 10) := jrem ex4 t1 jz_10 (by omega)
      refine lv_iconst (v := 4) hx hb dX12_field_16 (by decide) ?_
      refine lv_icmp_ge (tgt := 69) hx hb dX12_field_17 (by decide) (fun c5 => ?_) (fun c5 => ?_)
      · have kc5 := jle c5 jz_4 tx4
        refine lv_iconst (v := 0) hx hb dX12_field_69 (by decide) ?_
        refine lv_istore (lv' := [(4, .int 0), (0, .ref (ad 55)), (1, .int a1), (2, .int a2), (3, .int a3)]) hx hb dX12_field_70 hl (by decide) rfl (fun ls hl => ?_)
        refine lv_iload hx hb dX12_field_72 (lv_at hl 0 rfl) ?_
        refine lv_if_eq (tgt := 108) hx hb dX12_field_74 (by decide) (fun _ => ?_) (fun c => absurd (by decide) c)
        refine lv_ldc (v := (-2000000000)) hx hb hown (hts _ kw_11_4) dX12_field_108 ?_
        exact hret (-2000000000) σ τ _ _ _ _ rfl ⟨trivial, (by (repeat' split) <;> first | rfl | omega | exact jsame jz_m2000000000 t1 (by omega) | exact jsame jz_m2000000000 t2 (by omega) | exact jsame jz_m2000000000 t3 (by omega) | (exfalso; omega))⟩ hP hS dX12_field_110
      · have kc5 := jnle c5 jz_4 tx4
        refine lv_iload_n hx hb dX12_field_20 rfl (lv_at hl 2 rfl) ?_
        refine lv_i2l (v := a2.toInt64) hx hb dX12_field_21 rfl ?_
        refine lv_lconst (v := 0) hx hb dX12_field_22 (by decide) ?_
        refine lv_lconst (v := 1) hx hb dX12_field_23 (by decide) ?_
        refine jcallS (As := [.long a2.toInt64, .long 0, .long 1]) (rest := []) ⟨hx, hb, hml, hown, hts⟩ hK hP hA hS (c_X12_within l D cI cL ad hJ σ τ a2.toInt64 (A2) (jtoL t2) 0 (0) jzl_0 1 (1) jzl_1) cw_RX12_136 ⟨Nat.le_of_ble_eq_true rfl, Nat.le_of_ble_eq_true rfl⟩ rfl rfl rfl hl.1 rfl (Nat.le_of_ble_eq_true rfl) dX12_field_24 ⟨Nat.zero_le _, Nat.zero_le _⟩ (fun r7 σ6 τ6 H locs h6 hP hS => ?_)
        obtain ⟨⟨rfl, rfl⟩, h6⟩ := h6
        rcases h6 with h8 | h9
        · obtain ⟨q11, k10⟩ := h8
          have q11 := q11.symm
          subst q11
          refine lv_if_eq (tgt := 69) hx hb dX12_field_27 (by decide) (fun c => absurd c (by decide)) (fun _ => ?_)
          refine lv_iload_n hx hb dX12_field_30 rfl (lv_at hl 2 rfl) ?_
          refine lv_if_ne (tgt := 51) hx hb dX12_field_31 (by decide) (fun c12 => ?_) (fun c12 => ?_)
          · have kc12 := jne c12 t2 jz_0
            refine lv_iload_n hx hb dX12_field_51 rfl (lv_at hl 3 rfl) ?_
            refine lv_i2l (v := a3.toInt64) hx hb dX12_field_52 rfl ?_
            refine lv_ldc2 (v := (-9)) hx hb hown (hts _ kw_11_6) dX12_field_53 ?_
            refine lv_ldc2 (v := 9) hx hb hown (hts _ kw_11_7) dX12_field_56 ?_
            refine jcallS (As := [.long a3.toInt64, .long (-9), .long 9]) (rest := []) ⟨hx, hb, hml, hown, hts⟩ hK hP hA hS (c_X12_within l D cI cL ad hJ σ τ a3.toInt64 (A3) (jtoL t3) (-9) ((-9)) jzl_m9 9 (9) jzl_9) cw_RX12_136 ⟨Nat.le_of_ble_eq_true rfl, Nat.le_of_ble_eq_true rfl⟩ rfl rfl rfl hl.1 rfl (Nat.le_of_ble_eq_true rfl) dX12_field_59 ⟨Nat.zero_le _, Nat.zero_le _⟩ (fun r14 σ13 τ13 H locs h13 hP hS => ?_)
            obtain ⟨⟨rfl, rfl⟩, h13⟩ := h13
            rcases h13 with h15 | h16
            · obtain ⟨q18, k17⟩ := h15
              have q18 := q18.symm
              subst q18
              refine lv_if_eq (tgt := 69) hx hb dX12_field_62 (by decide) (fun c => absurd c (by decide)) (fun _ => ?_)
              refine lv_iconst (v := 1) hx hb dX12_field_65 (by decide) ?_
              refine lv_goto (tgt := 70) hx hb dX12_field_66 (by decide) ?_
              refine lv_istore (lv' := [(4, .int 1), (0, .ref (ad 55)), (1, .int a1), (2, .int a2), (3, .int a3)]) hx hb dX12_field_70 hl (by decide) rfl (fun ls hl => ?_)
              refine lv_iload hx hb dX12_field_72 (lv_at hl 0 rfl) ?_
              refine lv_if_eq (tgt := 108) hx hb dX12_field_74 (by decide) (fun c => absurd c (by decide)) (fun _ => ?_)
              refine lv_aload_n hx hb dX12_field_77 rfl (lv_at hl 1 rfl) ?_
              refine lv_iload_n hx hb dX12_field_78 rfl (lv_at hl 3 rfl) ?_
              refine lv_if_ne (tgt := 87) hx hb dX12_field_79 (by decide) (fun c19 => ?_) (fun c => absurd (jeq c t2 jz_0) (by omega))
              have kc19 := jne c19 t2 jz_0
              refine lv_bipush (v := 52) hx hb dX12_field_87 (by decide) ?_
              refine lv_iconst (v := 4) hx hb dX12_field_89 (by decide) ?_
              refine lv_iload_n hx hb dX12_field_90 rfl (lv_at hl 2 rfl) ?_
              refine lv_bipush (v := 10) hx hb dX12_field_91 (by decide) ?_
              refine lv_idiv hx hb dX12_field_93 (by decide) ?_
              refine lv_topi (fun x20 ex20 => ?_)
              have tx20 : x20.toInt = (A1 / 10) := jdiv ex20 t1 jz_10 (by omega) (by omega)
              refine lv_imul hx hb dX12_field_94 ?_
              refine lv_topi (fun x21 ex21 => ?_)
              have tx21 : x21.toInt = 4 * (A1 / 10) := (jmul ex21 jz_4 tx20 (by omega) (by omega)).trans (by omega)
              refine lv_iadd hx hb dX12_field_95 ?_
              refine lv_topi (fun x22 ex22 => ?_)
              have tx22 : x22.toInt = 4 * (A1 / 10) + 52 := (jadd ex22 jz_52 tx21 (by omega) (by omega)).trans (by omega)
              refine lv_iload_n hx hb dX12_field_96 rfl (lv_at hl 2 rfl) ?_
              refine lv_bipush (v := 10) hx hb dX12_field_97 (by decide) ?_
              refine lv_irem hx hb dX12_field_99 (by decide) ?_
              refine lv_topi (fun x23 ex23 => ?_)
              have tx23 : x23.toInt = (A1 % 10) := jrem ex23 t1 jz_10 (by omega)
              refine lv_iadd hx hb dX12_field_100 ?_
              refine lv_topi (fun x24 ex24 => ?_)
              have tx24 : x24.toInt = 4 * (A1 / 10) + (A1 % 10) + 52 := (jadd ex24 tx22 tx23 (by omega) (by omega)).trans (by omega)
              refine lv_iload_n hx hb dX12_field_101 rfl (lv_at hl 4 rfl) ?_
              refine jcallV (As := [.int x24, .int a3]) (rest := []) ⟨hx, hb, hml, hown, hts⟩ hK hP hA hS (c_X12_becomes l D cI cL ad hJ σ τ x24 (4 * (A1 / 10) + (A1 % 10) + 52) tx24 a3 (A3) t3 h55_5 ha56 (by omega) (by omega)) cw_RX12_153 (jc_55 cI cL ad σ τ) rfl ⟨Nat.le_of_ble_eq_true rfl, Nat.le_of_ble_eq_true rfl⟩ rfl rfl rfl hl.1 rfl (Nat.le_of_ble_eq_true rfl) dX12_field_102 ⟨Nat.zero_le _, Nat.zero_le _⟩ (fun r26 σ25 τ25 H locs h25 hP hS => ?_)
              obtain ⟨f27, h25⟩ := h25
              have h28 := h25
              obtain ⟨q30, k29⟩ := h28
              have q30 := q30.symm
              subst q30
              refine lv_goto (tgt := 110) hx hb dX12_field_105 (by decide) ?_
              exact hret 0 σ25 τ25 _ _ _ _ rfl ⟨trivial, (by (repeat' split) <;> first | rfl | omega | exact jsame jz_0 t1 (by omega) | exact jsame jz_0 t2 (by omega) | exact jsame jz_0 t3 (by omega) | (exfalso; omega))⟩ hP hS dX12_field_110
            · obtain ⟨q32, k31⟩ := h16
              have q32 := q32.symm
              subst q32
              refine lv_if_eq (tgt := 69) hx hb dX12_field_62 (by decide) (fun _ => ?_) (fun c => absurd (by decide) c)
              refine lv_iconst (v := 0) hx hb dX12_field_69 (by decide) ?_
              refine lv_istore (lv' := [(4, .int 0), (0, .ref (ad 55)), (1, .int a1), (2, .int a2), (3, .int a3)]) hx hb dX12_field_70 hl (by decide) rfl (fun ls hl => ?_)
              refine lv_iload hx hb dX12_field_72 (lv_at hl 0 rfl) ?_
              refine lv_if_eq (tgt := 108) hx hb dX12_field_74 (by decide) (fun _ => ?_) (fun c => absurd (by decide) c)
              refine lv_ldc (v := (-2000000000)) hx hb hown (hts _ kw_11_4) dX12_field_108 ?_
              exact hret (-2000000000) σ τ _ _ _ _ rfl ⟨trivial, (by (repeat' split) <;> first | rfl | omega | exact jsame jz_m2000000000 t1 (by omega) | exact jsame jz_m2000000000 t2 (by omega) | exact jsame jz_m2000000000 t3 (by omega) | (exfalso; omega))⟩ hP hS dX12_field_110
          · have kc12 := jeq c12 t2 jz_0
            refine lv_iload_n hx hb dX12_field_34 rfl (lv_at hl 3 rfl) ?_
            refine lv_i2l (v := a3.toInt64) hx hb dX12_field_35 rfl ?_
            refine lv_ldc2 (v := (-200)) hx hb hown (hts _ kw_12_2) dX12_field_36 ?_
            refine lv_ldc2 (v := 200) hx hb hown (hts _ kw_12_3) dX12_field_39 ?_
            refine jcallS (As := [.long a3.toInt64, .long (-200), .long 200]) (rest := []) ⟨hx, hb, hml, hown, hts⟩ hK hP hA hS (c_X12_within l D cI cL ad hJ σ τ a3.toInt64 (A3) (jtoL t3) (-200) ((-200)) jzl_m200 200 (200) jzl_200) cw_RX12_136 ⟨Nat.le_of_ble_eq_true rfl, Nat.le_of_ble_eq_true rfl⟩ rfl rfl rfl hl.1 rfl (Nat.le_of_ble_eq_true rfl) dX12_field_42 ⟨Nat.zero_le _, Nat.zero_le _⟩ (fun r34 σ33 τ33 H locs h33 hP hS => ?_)
            obtain ⟨⟨rfl, rfl⟩, h33⟩ := h33
            rcases h33 with h35 | h36
            · obtain ⟨q38, k37⟩ := h35
              have q38 := q38.symm
              subst q38
              refine lv_if_eq (tgt := 69) hx hb dX12_field_45 (by decide) (fun c => absurd c (by decide)) (fun _ => ?_)
              refine lv_goto (tgt := 65) hx hb dX12_field_48 (by decide) ?_
              refine lv_iconst (v := 1) hx hb dX12_field_65 (by decide) ?_
              refine lv_goto (tgt := 70) hx hb dX12_field_66 (by decide) ?_
              refine lv_istore (lv' := [(4, .int 1), (0, .ref (ad 55)), (1, .int a1), (2, .int a2), (3, .int a3)]) hx hb dX12_field_70 hl (by decide) rfl (fun ls hl => ?_)
              refine lv_iload hx hb dX12_field_72 (lv_at hl 0 rfl) ?_
              refine lv_if_eq (tgt := 108) hx hb dX12_field_74 (by decide) (fun c => absurd c (by decide)) (fun _ => ?_)
              refine lv_aload_n hx hb dX12_field_77 rfl (lv_at hl 1 rfl) ?_
              refine lv_iload_n hx hb dX12_field_78 rfl (lv_at hl 3 rfl) ?_
              refine lv_if_ne (tgt := 87) hx hb dX12_field_79 (by decide) (fun c => absurd (jne c t2 jz_0) (by omega)) (fun c39 => ?_)
              have kc39 := jeq c39 t2 jz_0
              refine lv_bipush (v := 36) hx hb dX12_field_82 (by decide) ?_
              refine lv_goto (tgt := 89) hx hb dX12_field_84 (by decide) ?_
              refine lv_iconst (v := 4) hx hb dX12_field_89 (by decide) ?_
              refine lv_iload_n hx hb dX12_field_90 rfl (lv_at hl 2 rfl) ?_
              refine lv_bipush (v := 10) hx hb dX12_field_91 (by decide) ?_
              refine lv_idiv hx hb dX12_field_93 (by decide) ?_
              refine lv_topi (fun x40 ex40 => ?_)
              have tx40 : x40.toInt = (A1 / 10) := jdiv ex40 t1 jz_10 (by omega) (by omega)
              refine lv_imul hx hb dX12_field_94 ?_
              refine lv_topi (fun x41 ex41 => ?_)
              have tx41 : x41.toInt = 4 * (A1 / 10) := (jmul ex41 jz_4 tx40 (by omega) (by omega)).trans (by omega)
              refine lv_iadd hx hb dX12_field_95 ?_
              refine lv_topi (fun x42 ex42 => ?_)
              have tx42 : x42.toInt = 4 * (A1 / 10) + 36 := (jadd ex42 jz_36 tx41 (by omega) (by omega)).trans (by omega)
              refine lv_iload_n hx hb dX12_field_96 rfl (lv_at hl 2 rfl) ?_
              refine lv_bipush (v := 10) hx hb dX12_field_97 (by decide) ?_
              refine lv_irem hx hb dX12_field_99 (by decide) ?_
              refine lv_topi (fun x43 ex43 => ?_)
              have tx43 : x43.toInt = (A1 % 10) := jrem ex43 t1 jz_10 (by omega)
              refine lv_iadd hx hb dX12_field_100 ?_
              refine lv_topi (fun x44 ex44 => ?_)
              have tx44 : x44.toInt = 4 * (A1 / 10) + (A1 % 10) + 36 := (jadd ex44 tx42 tx43 (by omega) (by omega)).trans (by omega)
              refine lv_iload_n hx hb dX12_field_101 rfl (lv_at hl 4 rfl) ?_
              refine jcallV (As := [.int x44, .int a3]) (rest := []) ⟨hx, hb, hml, hown, hts⟩ hK hP hA hS (c_X12_becomes l D cI cL ad hJ σ τ x44 (4 * (A1 / 10) + (A1 % 10) + 36) tx44 a3 (A3) t3 h55_5 ha56 (by omega) (by omega)) cw_RX12_153 (jc_55 cI cL ad σ τ) rfl ⟨Nat.le_of_ble_eq_true rfl, Nat.le_of_ble_eq_true rfl⟩ rfl rfl rfl hl.1 rfl (Nat.le_of_ble_eq_true rfl) dX12_field_102 ⟨Nat.zero_le _, Nat.zero_le _⟩ (fun r46 σ45 τ45 H locs h45 hP hS => ?_)
              obtain ⟨f47, h45⟩ := h45
              have h48 := h45
              obtain ⟨q50, k49⟩ := h48
              have q50 := q50.symm
              subst q50
              refine lv_goto (tgt := 110) hx hb dX12_field_105 (by decide) ?_
              exact hret 0 σ45 τ45 _ _ _ _ rfl ⟨trivial, (by (repeat' split) <;> first | rfl | omega | exact jsame jz_0 t1 (by omega) | exact jsame jz_0 t2 (by omega) | exact jsame jz_0 t3 (by omega) | (exfalso; omega))⟩ hP hS dX12_field_110
            · obtain ⟨q52, k51⟩ := h36
              have q52 := q52.symm
              subst q52
              refine lv_if_eq (tgt := 69) hx hb dX12_field_45 (by decide) (fun _ => ?_) (fun c => absurd (by decide) c)
              refine lv_iconst (v := 0) hx hb dX12_field_69 (by decide) ?_
              refine lv_istore (lv' := [(4, .int 0), (0, .ref (ad 55)), (1, .int a1), (2, .int a2), (3, .int a3)]) hx hb dX12_field_70 hl (by decide) rfl (fun ls hl => ?_)
              refine lv_iload hx hb dX12_field_72 (lv_at hl 0 rfl) ?_
              refine lv_if_eq (tgt := 108) hx hb dX12_field_74 (by decide) (fun _ => ?_) (fun c => absurd (by decide) c)
              refine lv_ldc (v := (-2000000000)) hx hb hown (hts _ kw_11_4) dX12_field_108 ?_
              exact hret (-2000000000) σ τ _ _ _ _ rfl ⟨trivial, (by (repeat' split) <;> first | rfl | omega | exact jsame jz_m2000000000 t1 (by omega) | exact jsame jz_m2000000000 t2 (by omega) | exact jsame jz_m2000000000 t3 (by omega) | (exfalso; omega))⟩ hP hS dX12_field_110
        · obtain ⟨q54, k53⟩ := h9
          have q54 := q54.symm
          subst q54
          refine lv_if_eq (tgt := 69) hx hb dX12_field_27 (by decide) (fun _ => ?_) (fun c => absurd (by decide) c)
          refine lv_iconst (v := 0) hx hb dX12_field_69 (by decide) ?_
          refine lv_istore (lv' := [(4, .int 0), (0, .ref (ad 55)), (1, .int a1), (2, .int a2), (3, .int a3)]) hx hb dX12_field_70 hl (by decide) rfl (fun ls hl => ?_)
          refine lv_iload hx hb dX12_field_72 (lv_at hl 0 rfl) ?_
          refine lv_if_eq (tgt := 108) hx hb dX12_field_74 (by decide) (fun _ => ?_) (fun c => absurd (by decide) c)
          refine lv_ldc (v := (-2000000000)) hx hb hown (hts _ kw_11_4) dX12_field_108 ?_
          exact hret (-2000000000) σ τ _ _ _ _ rfl ⟨trivial, (by (repeat' split) <;> first | rfl | omega | exact jsame jz_m2000000000 t1 (by omega) | exact jsame jz_m2000000000 t2 (by omega) | exact jsame jz_m2000000000 t3 (by omega) | (exfalso; omega))⟩ hP hS dX12_field_110
set_option maxHeartbeats 4000000 in
set_option maxRecDepth 100000 in
theorem c_X12_set (l : Launch) (D : va_G) (cI cL : ClassId) (ad : Nat → Nat) (hJ : jD ad) (σ : Nat → Nat → Int32) (τ : Nat → Nat → Int64) (a1 : Int32) (A1 : Int) (t1 : a1.toInt = A1) (h55_9 : σ 55 9 = 0) : jM l yX12_set cX12_set 3 (some .int) ({ frames := 1, cells := 0, slots := 0, locals := 25 }) D cI cL ad [.ref (ad 55), .int a1] σ τ (fun r σ' τ' => True ∧ r = (if 0 ≤ A1 ∧ A1 ≤ 3 then 0 else -1)) := by
  refine jM.of hJ (by decide +kernel) (nt := .int) rfl (Nat.le_of_ble_eq_true rfl) ?_
  intro p e s m args below meth c Q ls hC hret hl hP
  obtain ⟨hx, hb, hr, hml, hown, hts, hK, -, hlocks⟩ := hC
  have hown : s.vm.findClass RX12 = some m.cls := hown
  have hS : va_S (jA ad) s.heap s.heap [] := va_S.rf
  have hA : ∀ q, jA ad q → jA ad q := fun _ h => h
  have hl : lv_has ls 3 [(0, .ref (ad 55)), (1, .int a1)] := hl
  have g1 := jrg t1
  refine lv_iload_n hx hb dX12_set_0 rfl (lv_at hl 1 rfl) ?_
  refine lv_i2l (v := a1.toInt64) hx hb dX12_set_1 rfl ?_
  refine lv_lconst (v := 0) hx hb dX12_set_2 (by decide) ?_
  refine lv_ldc2 (v := 3) hx hb hown (hts _ kw_12_13) dX12_set_3 ?_
  refine jcallS (As := [.long a1.toInt64, .long 0, .long 3]) (rest := []) ⟨hx, hb, hml, hown, hts⟩ hK hP hA hS (c_X12_within l D cI cL ad hJ σ τ a1.toInt64 (A1) (jtoL t1) 0 (0) jzl_0 3 (3) jzl_3) cw_RX12_136 ⟨Nat.le_of_ble_eq_true rfl, Nat.le_of_ble_eq_true rfl⟩ rfl rfl rfl hl.1 rfl (Nat.le_of_ble_eq_true rfl) dX12_set_6 ⟨Nat.zero_le _, Nat.zero_le _⟩ (fun r2 σ1 τ1 H locs h1 hP hS => ?_)
  obtain ⟨⟨rfl, rfl⟩, h1⟩ := h1
  rcases h1 with h3 | h4
  · obtain ⟨q6, k5⟩ := h3
    have q6 := q6.symm
    subst q6
    refine lv_if_ne (tgt := 14) hx hb dX12_set_9 (by decide) (fun _ => ?_) (fun c => absurd c (by decide))
    refine lv_aload_n hx hb dX12_set_14 rfl (lv_at hl 0 rfl) ?_
    refine va_get (D := D) hx hb hts inlX12 hown hK hP 55 (jc_55 cI cL ad σ τ) rfl 9 (by decide) (hts _ kw_12_14) (fun _ h9 => h9) rfl dX12_set_15 ?_
    refine jtopr h55_9 ?_
    refine lv_istore_n (lv' := [(2, .int 0), (0, .ref (ad 55)), (1, .int a1)]) hx hb dX12_set_18 rfl hl (by decide) rfl (fun ls hl => ?_)
    refine lv_aload_n hx hb dX12_set_19 rfl (lv_at hl 1 rfl) ?_
    refine lv_iload_n hx hb dX12_set_20 rfl (lv_at hl 2 rfl) ?_
    refine jput (ty := .int) hx hb hts inlX12 tyX12 tyX12_ok nmX12 hown hK hP hJ hA hS (jc_55 cI cL ad σ τ) rfl (k := 9) (by decide) (Nat.le_of_ble_eq_true rfl) (jp_55_9 cI cL ad σ τ a1) (hts _ kw_12_14) (fun _ h9 => h9) rfl (by decide +kernel) rfl rfl dX12_set_21 (fun σ7 H locs eσ7 hP hS => ?_)
    refine lv_iload_n hx hb dX12_set_24 rfl (lv_at hl 0 rfl) ?_
    exact hret 0 σ7 τ _ _ _ _ rfl ⟨trivial, (by (repeat' split) <;> first | rfl | omega | exact jsame jz_0 t1 (by omega) | (exfalso; omega))⟩ hP hS dX12_set_25
  · obtain ⟨q9, k8⟩ := h4
    have q9 := q9.symm
    subst q9
    refine lv_if_ne (tgt := 14) hx hb dX12_set_9 (by decide) (fun c => absurd (by decide) c) (fun _ => ?_)
    refine lv_iconst (v := (-1)) hx hb dX12_set_12 (by decide) ?_
    exact hret (-1) σ τ _ _ _ _ rfl ⟨trivial, (by (repeat' split) <;> first | rfl | omega | exact jsame jz_m1 t1 (by omega) | (exfalso; omega))⟩ hP hS dX12_set_13
set_option maxHeartbeats 4000000 in
set_option maxRecDepth 100000 in
theorem c_X12_feed (l : Launch) (D : va_G) (cI cL : ClassId) (ad : Nat → Nat) (hJ : jD ad) (σ : Nat → Nat → Int32) (τ : Nat → Nat → Int64) (a1 : Int32) (A1 : Int) (t1 : a1.toInt = A1) (a2 : Int32) (A2 : Int) (t2 : a2.toInt = A2) (h55_15 : σ 55 15 = 0) : jM l yX12_feed cX12_feed 4 (some .int) ({ frames := 1, cells := 0, slots := 0, locals := 25 }) D cI cL ad [.ref (ad 55), .int a1, .int a2] σ τ (fun r σ' τ' => True ∧ r = (if 1 ≤ A1 ∧ A1 ≤ 4 then a1 else -1)) := by
  refine jM.of hJ (by decide +kernel) (nt := .int) rfl (Nat.le_of_ble_eq_true rfl) ?_
  intro p e s m args below meth c Q ls hC hret hl hP
  obtain ⟨hx, hb, hr, hml, hown, hts, hK, -, hlocks⟩ := hC
  have hown : s.vm.findClass RX12 = some m.cls := hown
  have hS : va_S (jA ad) s.heap s.heap [] := va_S.rf
  have hA : ∀ q, jA ad q → jA ad q := fun _ h => h
  have hl : lv_has ls 4 [(0, .ref (ad 55)), (1, .int a1), (2, .int a2)] := hl
  have g1 := jrg t1
  have g2 := jrg t2
  refine lv_iload_n hx hb dX12_feed_0 rfl (lv_at hl 1 rfl) ?_
  refine lv_i2l (v := a1.toInt64) hx hb dX12_feed_1 rfl ?_
  refine lv_lconst (v := 1) hx hb dX12_feed_2 (by decide) ?_
  refine lv_ldc2 (v := 4) hx hb hown (hts _ kw_13_5) dX12_feed_3 ?_
  refine jcallS (As := [.long a1.toInt64, .long 1, .long 4]) (rest := []) ⟨hx, hb, hml, hown, hts⟩ hK hP hA hS (c_X12_within l D cI cL ad hJ σ τ a1.toInt64 (A1) (jtoL t1) 1 (1) jzl_1 4 (4) jzl_4) cw_RX12_136 ⟨Nat.le_of_ble_eq_true rfl, Nat.le_of_ble_eq_true rfl⟩ rfl rfl rfl hl.1 rfl (Nat.le_of_ble_eq_true rfl) dX12_feed_6 ⟨Nat.zero_le _, Nat.zero_le _⟩ (fun r2 σ1 τ1 H locs h1 hP hS => ?_)
  obtain ⟨⟨rfl, rfl⟩, h1⟩ := h1
  rcases h1 with h3 | h4
  · obtain ⟨q6, k5⟩ := h3
    have q6 := q6.symm
    subst q6
    refine lv_if_ne (tgt := 14) hx hb dX12_feed_9 (by decide) (fun _ => ?_) (fun c => absurd c (by decide))
    refine lv_aload_n hx hb dX12_feed_14 rfl (lv_at hl 0 rfl) ?_
    refine va_get (D := D) hx hb hts inlX12 hown hK hP 55 (jc_55 cI cL ad σ τ) rfl 15 (by decide) (hts _ kw_13_6) (fun _ h9 => h9) rfl dX12_feed_15 ?_
    refine jtopr h55_15 ?_
    refine lv_iload_n hx hb dX12_feed_18 rfl (lv_at hl 1 rfl) ?_
    refine lv_iadd hx hb dX12_feed_19 ?_
    refine jtopr (y := a1) (by rw [Int32.zero_add]) ?_
    refine lv_bipush (v := 80) hx hb dX12_feed_20 (by decide) ?_
    refine lv_icmp_le (tgt := 28) hx hb dX12_feed_22 (by decide) (fun c7 => ?_) (fun c => absurd (jnle c t1 jz_80) (by omega))
    have kc7 := jle c7 t1 jz_80
    refine lv_iconst (v := 0) hx hb dX12_feed_28 (by decide) ?_
    refine lv_istore_n (lv' := [(3, .int 0), (0, .ref (ad 55)), (1, .int a1), (2, .int a2)]) hx hb dX12_feed_29 rfl hl (by decide) rfl (fun ls hl => ?_)
    refine lv_iload_n hx hb dX12_feed_30 rfl (lv_at hl 0 rfl) ?_
    refine lv_iload_n hx hb dX12_feed_31 rfl (lv_at hl 2 rfl) ?_
    refine lv_icmp_ge (tgt := 70) hx hb dX12_feed_32 (by decide) (fun c => absurd (jle c t1 jz_0) (by omega)) (fun c8 => ?_)
    have kc8 := jnle c8 t1 jz_0
    refine lv_aload_n hx hb dX12_feed_35 rfl (lv_at hl 1 rfl) ?_
    refine va_get (D := D) hx hb hts inlX12 hown hK hP 55 (jc_55 cI cL ad σ τ) rfl 14 (by decide) (hts _ kw_7_9) (fun _ h9 => h9) rfl dX12_feed_36 ?_
    refine lv_aload_n hx hb dX12_feed_39 rfl (lv_at hl 1 rfl) ?_
    refine va_get (D := D) hx hb hts inlX12 hown hK hP 55 (jc_55 cI cL ad σ τ) rfl 15 (by decide) (hts _ kw_13_6) (fun _ h9 => h9) rfl dX12_feed_40 ?_
    refine jtopr h55_15 ?_
    refine lv_iload_n hx hb dX12_feed_43 rfl (lv_at hl 3 rfl) ?_
    refine lv_bipush (v := 8) hx hb dX12_feed_44 (by decide) ?_
    refine lv_iload_n hx hb dX12_feed_46 rfl (lv_at hl 0 rfl) ?_
    refine lv_imul hx hb dX12_feed_47 ?_
    refine jtopr (y := 0) (by decide) ?_
    refine lv_ishr hx hb dX12_feed_48 ?_
    refine lv_topi (fun x9 ex9 => ?_)
    have gx9 := jrg (rfl : x9.toInt = x9.toInt)
    refine lv_sipush (v := 255) hx hb dX12_feed_49 (by decide) ?_
    refine lv_iand hx hb dX12_feed_52 ?_
    refine lv_topi (fun x10 ex10 => ?_)
    have gx10 := jrg (rfl : x10.toInt = x10.toInt)
    have g11 : 0 ≤ x10.toInt ∧ x10.toInt ≤ 255 := jmask ex10 8 (by decide) (by decide)
    refine jast hx hb hK hP hJ hA hS (jc_63 cI cL ad σ τ) (ja_63 cI cL ad σ τ _ _) (jin jz_0 (by omega) (by omega)) dX12_feed_53 (fun σ12 H locs eσ12 hP hS => ?_)
    have eσ12 : σ12 = jup σ 63 0 x10 := eσ12
    refine lv_aload_n hx hb dX12_feed_54 rfl (lv_at hl 1 rfl) ?_
    refine lv_dup hx hb dX12_feed_55 rfl ?_
    refine va_get (D := D) hx hb hts inlX12 hown hK hP 55 (jc_55 cI cL ad σ12 τ) rfl 15 (by decide) (hts _ kw_13_6) (fun _ h9 => h9) rfl dX12_feed_56 ?_
    have m13 : σ12 55 15 = 0 := (by rw [eσ12, jup_n (by decide)]; exact h55_15)
    refine jtopr m13 ?_
    refine lv_iconst (v := 1) hx hb dX12_feed_59 (by decide) ?_
    refine lv_iadd hx hb dX12_feed_60 ?_
    refine jtopr (y := 1) (by decide) ?_
    refine jput (ty := .int) hx hb hts inlX12 tyX12 tyX12_ok nmX12 hown hK hP hJ hA hS (jc_55 cI cL ad σ12 τ) rfl (k := 15) (by decide) (Nat.le_of_ble_eq_true rfl) (jp_55_15 cI cL ad σ12 τ 1) (hts _ kw_13_6) (fun _ h9 => h9) rfl (by decide +kernel) rfl rfl dX12_feed_61 (fun σ14 H locs eσ14 hP hS => ?_)
    refine lv_iinc (v := 1) (lv' := [(3, .int 1), (0, .ref (ad 55)), (1, .int a1), (2, .int a2)]) hx hb dX12_feed_64 hl (k := 0) rfl (by decide) (by decide) rfl (fun ls hl => ?_)
    refine lv_goto (tgt := 30) hx hb dX12_feed_67 (by decide) ?_
    refine lv_iload_n hx hb dX12_feed_30 rfl (lv_at hl 0 rfl) ?_
    refine lv_iload_n hx hb dX12_feed_31 rfl (lv_at hl 2 rfl) ?_
    refine lv_icmp_ge (tgt := 70) hx hb dX12_feed_32 (by decide) (fun c15 => ?_) (fun c15 => ?_)
    · have kc15 := jle c15 t1 jz_1
      refine lv_aload_n hx hb dX12_feed_70 rfl (lv_at hl 1 rfl) ?_
      refine va_get (D := D) hx hb hts inlX12 hown hK hP 55 (jc_55 cI cL ad σ14 τ) rfl 15 (by decide) (hts _ kw_13_6) (fun _ h9 => h9) rfl dX12_feed_71 ?_
      have m16 : σ14 55 15 = 1 := (by rw [eσ14]; exact jup_s)
      refine jtopr m16 ?_
      exact hret 1 σ14 τ _ _ _ _ rfl ⟨trivial, (by (repeat' split) <;> first | rfl | omega | exact jsame jz_1 t1 (by omega) | exact jsame jz_1 t2 (by omega) | (exfalso; omega))⟩ hP hS dX12_feed_74
    · have kc15 := jnle c15 t1 jz_1
      refine lv_aload_n hx hb dX12_feed_35 rfl (lv_at hl 1 rfl) ?_
      refine va_get (D := D) hx hb hts inlX12 hown hK hP 55 (jc_55 cI cL ad σ14 τ) rfl 14 (by decide) (hts _ kw_7_9) (fun _ h9 => h9) rfl dX12_feed_36 ?_
      refine lv_aload_n hx hb dX12_feed_39 rfl (lv_at hl 1 rfl) ?_
      refine va_get (D := D) hx hb hts inlX12 hown hK hP 55 (jc_55 cI cL ad σ14 τ) rfl 15 (by decide) (hts _ kw_13_6) (fun _ h9 => h9) rfl dX12_feed_40 ?_
      have m17 : σ14 55 15 = 1 := (by rw [eσ14]; exact jup_s)
      refine jtopr m17 ?_
      refine lv_iload_n hx hb dX12_feed_43 rfl (lv_at hl 3 rfl) ?_
      refine lv_bipush (v := 8) hx hb dX12_feed_44 (by decide) ?_
      refine lv_iload_n hx hb dX12_feed_46 rfl (lv_at hl 0 rfl) ?_
      refine lv_imul hx hb dX12_feed_47 ?_
      refine jtopr (y := 8) (by decide) ?_
      refine lv_ishr hx hb dX12_feed_48 ?_
      refine lv_topi (fun x18 ex18 => ?_)
      have gx18 := jrg (rfl : x18.toInt = x18.toInt)
      refine lv_sipush (v := 255) hx hb dX12_feed_49 (by decide) ?_
      refine lv_iand hx hb dX12_feed_52 ?_
      refine lv_topi (fun x19 ex19 => ?_)
      have gx19 := jrg (rfl : x19.toInt = x19.toInt)
      have g20 : 0 ≤ x19.toInt ∧ x19.toInt ≤ 255 := jmask ex19 8 (by decide) (by decide)
      refine jast hx hb hK hP hJ hA hS (jc_63 cI cL ad σ14 τ) (ja_63 cI cL ad σ14 τ _ _) (jin jz_1 (by omega) (by omega)) dX12_feed_53 (fun σ21 H locs eσ21 hP hS => ?_)
      have eσ21 : σ21 = jup σ14 63 1 x19 := eσ21
      refine lv_aload_n hx hb dX12_feed_54 rfl (lv_at hl 1 rfl) ?_
      refine lv_dup hx hb dX12_feed_55 rfl ?_
      refine va_get (D := D) hx hb hts inlX12 hown hK hP 55 (jc_55 cI cL ad σ21 τ) rfl 15 (by decide) (hts _ kw_13_6) (fun _ h9 => h9) rfl dX12_feed_56 ?_
      have m22 : σ21 55 15 = 1 := (by rw [eσ21, jup_n (by decide)]; exact m17)
      refine jtopr m22 ?_
      refine lv_iconst (v := 1) hx hb dX12_feed_59 (by decide) ?_
      refine lv_iadd hx hb dX12_feed_60 ?_
      refine jtopr (y := 2) (by decide) ?_
      refine jput (ty := .int) hx hb hts inlX12 tyX12 tyX12_ok nmX12 hown hK hP hJ hA hS (jc_55 cI cL ad σ21 τ) rfl (k := 15) (by decide) (Nat.le_of_ble_eq_true rfl) (jp_55_15 cI cL ad σ21 τ 2) (hts _ kw_13_6) (fun _ h9 => h9) rfl (by decide +kernel) rfl rfl dX12_feed_61 (fun σ23 H locs eσ23 hP hS => ?_)
      refine lv_iinc (v := 2) (lv' := [(3, .int 2), (0, .ref (ad 55)), (1, .int a1), (2, .int a2)]) hx hb dX12_feed_64 hl (k := 0) rfl (by decide) (by decide) rfl (fun ls hl => ?_)
      refine lv_goto (tgt := 30) hx hb dX12_feed_67 (by decide) ?_
      refine lv_iload_n hx hb dX12_feed_30 rfl (lv_at hl 0 rfl) ?_
      refine lv_iload_n hx hb dX12_feed_31 rfl (lv_at hl 2 rfl) ?_
      refine lv_icmp_ge (tgt := 70) hx hb dX12_feed_32 (by decide) (fun c24 => ?_) (fun c24 => ?_)
      · have kc24 := jle c24 t1 jz_2
        refine lv_aload_n hx hb dX12_feed_70 rfl (lv_at hl 1 rfl) ?_
        refine va_get (D := D) hx hb hts inlX12 hown hK hP 55 (jc_55 cI cL ad σ23 τ) rfl 15 (by decide) (hts _ kw_13_6) (fun _ h9 => h9) rfl dX12_feed_71 ?_
        have m25 : σ23 55 15 = 2 := (by rw [eσ23]; exact jup_s)
        refine jtopr m25 ?_
        exact hret 2 σ23 τ _ _ _ _ rfl ⟨trivial, (by (repeat' split) <;> first | rfl | omega | exact jsame jz_2 t1 (by omega) | exact jsame jz_2 t2 (by omega) | (exfalso; omega))⟩ hP hS dX12_feed_74
      · have kc24 := jnle c24 t1 jz_2
        refine lv_aload_n hx hb dX12_feed_35 rfl (lv_at hl 1 rfl) ?_
        refine va_get (D := D) hx hb hts inlX12 hown hK hP 55 (jc_55 cI cL ad σ23 τ) rfl 14 (by decide) (hts _ kw_7_9) (fun _ h9 => h9) rfl dX12_feed_36 ?_
        refine lv_aload_n hx hb dX12_feed_39 rfl (lv_at hl 1 rfl) ?_
        refine va_get (D := D) hx hb hts inlX12 hown hK hP 55 (jc_55 cI cL ad σ23 τ) rfl 15 (by decide) (hts _ kw_13_6) (fun _ h9 => h9) rfl dX12_feed_40 ?_
        have m26 : σ23 55 15 = 2 := (by rw [eσ23]; exact jup_s)
        refine jtopr m26 ?_
        refine lv_iload_n hx hb dX12_feed_43 rfl (lv_at hl 3 rfl) ?_
        refine lv_bipush (v := 8) hx hb dX12_feed_44 (by decide) ?_
        refine lv_iload_n hx hb dX12_feed_46 rfl (lv_at hl 0 rfl) ?_
        refine lv_imul hx hb dX12_feed_47 ?_
        refine jtopr (y := 16) (by decide) ?_
        refine lv_ishr hx hb dX12_feed_48 ?_
        refine lv_topi (fun x27 ex27 => ?_)
        have gx27 := jrg (rfl : x27.toInt = x27.toInt)
        refine lv_sipush (v := 255) hx hb dX12_feed_49 (by decide) ?_
        refine lv_iand hx hb dX12_feed_52 ?_
        refine lv_topi (fun x28 ex28 => ?_)
        have gx28 := jrg (rfl : x28.toInt = x28.toInt)
        have g29 : 0 ≤ x28.toInt ∧ x28.toInt ≤ 255 := jmask ex28 8 (by decide) (by decide)
        refine jast hx hb hK hP hJ hA hS (jc_63 cI cL ad σ23 τ) (ja_63 cI cL ad σ23 τ _ _) (jin jz_2 (by omega) (by omega)) dX12_feed_53 (fun σ30 H locs eσ30 hP hS => ?_)
        have eσ30 : σ30 = jup σ23 63 2 x28 := eσ30
        refine lv_aload_n hx hb dX12_feed_54 rfl (lv_at hl 1 rfl) ?_
        refine lv_dup hx hb dX12_feed_55 rfl ?_
        refine va_get (D := D) hx hb hts inlX12 hown hK hP 55 (jc_55 cI cL ad σ30 τ) rfl 15 (by decide) (hts _ kw_13_6) (fun _ h9 => h9) rfl dX12_feed_56 ?_
        have m31 : σ30 55 15 = 2 := (by rw [eσ30, jup_n (by decide)]; exact m26)
        refine jtopr m31 ?_
        refine lv_iconst (v := 1) hx hb dX12_feed_59 (by decide) ?_
        refine lv_iadd hx hb dX12_feed_60 ?_
        refine jtopr (y := 3) (by decide) ?_
        refine jput (ty := .int) hx hb hts inlX12 tyX12 tyX12_ok nmX12 hown hK hP hJ hA hS (jc_55 cI cL ad σ30 τ) rfl (k := 15) (by decide) (Nat.le_of_ble_eq_true rfl) (jp_55_15 cI cL ad σ30 τ 3) (hts _ kw_13_6) (fun _ h9 => h9) rfl (by decide +kernel) rfl rfl dX12_feed_61 (fun σ32 H locs eσ32 hP hS => ?_)
        refine lv_iinc (v := 3) (lv' := [(3, .int 3), (0, .ref (ad 55)), (1, .int a1), (2, .int a2)]) hx hb dX12_feed_64 hl (k := 0) rfl (by decide) (by decide) rfl (fun ls hl => ?_)
        refine lv_goto (tgt := 30) hx hb dX12_feed_67 (by decide) ?_
        refine lv_iload_n hx hb dX12_feed_30 rfl (lv_at hl 0 rfl) ?_
        refine lv_iload_n hx hb dX12_feed_31 rfl (lv_at hl 2 rfl) ?_
        refine lv_icmp_ge (tgt := 70) hx hb dX12_feed_32 (by decide) (fun c33 => ?_) (fun c33 => ?_)
        · have kc33 := jle c33 t1 jz_3
          refine lv_aload_n hx hb dX12_feed_70 rfl (lv_at hl 1 rfl) ?_
          refine va_get (D := D) hx hb hts inlX12 hown hK hP 55 (jc_55 cI cL ad σ32 τ) rfl 15 (by decide) (hts _ kw_13_6) (fun _ h9 => h9) rfl dX12_feed_71 ?_
          have m34 : σ32 55 15 = 3 := (by rw [eσ32]; exact jup_s)
          refine jtopr m34 ?_
          exact hret 3 σ32 τ _ _ _ _ rfl ⟨trivial, (by (repeat' split) <;> first | rfl | omega | exact jsame jz_3 t1 (by omega) | exact jsame jz_3 t2 (by omega) | (exfalso; omega))⟩ hP hS dX12_feed_74
        · have kc33 := jnle c33 t1 jz_3
          refine lv_aload_n hx hb dX12_feed_35 rfl (lv_at hl 1 rfl) ?_
          refine va_get (D := D) hx hb hts inlX12 hown hK hP 55 (jc_55 cI cL ad σ32 τ) rfl 14 (by decide) (hts _ kw_7_9) (fun _ h9 => h9) rfl dX12_feed_36 ?_
          refine lv_aload_n hx hb dX12_feed_39 rfl (lv_at hl 1 rfl) ?_
          refine va_get (D := D) hx hb hts inlX12 hown hK hP 55 (jc_55 cI cL ad σ32 τ) rfl 15 (by decide) (hts _ kw_13_6) (fun _ h9 => h9) rfl dX12_feed_40 ?_
          have m35 : σ32 55 15 = 3 := (by rw [eσ32]; exact jup_s)
          refine jtopr m35 ?_
          refine lv_iload_n hx hb dX12_feed_43 rfl (lv_at hl 3 rfl) ?_
          refine lv_bipush (v := 8) hx hb dX12_feed_44 (by decide) ?_
          refine lv_iload_n hx hb dX12_feed_46 rfl (lv_at hl 0 rfl) ?_
          refine lv_imul hx hb dX12_feed_47 ?_
          refine jtopr (y := 24) (by decide) ?_
          refine lv_ishr hx hb dX12_feed_48 ?_
          refine lv_topi (fun x36 ex36 => ?_)
          have gx36 := jrg (rfl : x36.toInt = x36.toInt)
          refine lv_sipush (v := 255) hx hb dX12_feed_49 (by decide) ?_
          refine lv_iand hx hb dX12_feed_52 ?_
          refine lv_topi (fun x37 ex37 => ?_)
          have gx37 := jrg (rfl : x37.toInt = x37.toInt)
          have g38 : 0 ≤ x37.toInt ∧ x37.toInt ≤ 255 := jmask ex37 8 (by decide) (by decide)
          refine jast hx hb hK hP hJ hA hS (jc_63 cI cL ad σ32 τ) (ja_63 cI cL ad σ32 τ _ _) (jin jz_3 (by omega) (by omega)) dX12_feed_53 (fun σ39 H locs eσ39 hP hS => ?_)
          have eσ39 : σ39 = jup σ32 63 3 x37 := eσ39
          refine lv_aload_n hx hb dX12_feed_54 rfl (lv_at hl 1 rfl) ?_
          refine lv_dup hx hb dX12_feed_55 rfl ?_
          refine va_get (D := D) hx hb hts inlX12 hown hK hP 55 (jc_55 cI cL ad σ39 τ) rfl 15 (by decide) (hts _ kw_13_6) (fun _ h9 => h9) rfl dX12_feed_56 ?_
          have m40 : σ39 55 15 = 3 := (by rw [eσ39, jup_n (by decide)]; exact m35)
          refine jtopr m40 ?_
          refine lv_iconst (v := 1) hx hb dX12_feed_59 (by decide) ?_
          refine lv_iadd hx hb dX12_feed_60 ?_
          refine jtopr (y := 4) (by decide) ?_
          refine jput (ty := .int) hx hb hts inlX12 tyX12 tyX12_ok nmX12 hown hK hP hJ hA hS (jc_55 cI cL ad σ39 τ) rfl (k := 15) (by decide) (Nat.le_of_ble_eq_true rfl) (jp_55_15 cI cL ad σ39 τ 4) (hts _ kw_13_6) (fun _ h9 => h9) rfl (by decide +kernel) rfl rfl dX12_feed_61 (fun σ41 H locs eσ41 hP hS => ?_)
          refine lv_iinc (v := 4) (lv' := [(3, .int 4), (0, .ref (ad 55)), (1, .int a1), (2, .int a2)]) hx hb dX12_feed_64 hl (k := 0) rfl (by decide) (by decide) rfl (fun ls hl => ?_)
          refine lv_goto (tgt := 30) hx hb dX12_feed_67 (by decide) ?_
          refine lv_iload_n hx hb dX12_feed_30 rfl (lv_at hl 0 rfl) ?_
          refine lv_iload_n hx hb dX12_feed_31 rfl (lv_at hl 2 rfl) ?_
          refine lv_icmp_ge (tgt := 70) hx hb dX12_feed_32 (by decide) (fun c42 => ?_) (fun c => absurd (jnle c t1 jz_4) (by omega))
          have kc42 := jle c42 t1 jz_4
          refine lv_aload_n hx hb dX12_feed_70 rfl (lv_at hl 1 rfl) ?_
          refine va_get (D := D) hx hb hts inlX12 hown hK hP 55 (jc_55 cI cL ad σ41 τ) rfl 15 (by decide) (hts _ kw_13_6) (fun _ h9 => h9) rfl dX12_feed_71 ?_
          have m43 : σ41 55 15 = 4 := (by rw [eσ41]; exact jup_s)
          refine jtopr m43 ?_
          exact hret 4 σ41 τ _ _ _ _ rfl ⟨trivial, (by (repeat' split) <;> first | rfl | omega | exact jsame jz_4 t1 (by omega) | exact jsame jz_4 t2 (by omega) | (exfalso; omega))⟩ hP hS dX12_feed_74
  · obtain ⟨q45, k44⟩ := h4
    have q45 := q45.symm
    subst q45
    refine lv_if_ne (tgt := 14) hx hb dX12_feed_9 (by decide) (fun c => absurd (by decide) c) (fun _ => ?_)
    refine lv_iconst (v := (-1)) hx hb dX12_feed_12 (by decide) ?_
    exact hret (-1) σ τ _ _ _ _ rfl ⟨trivial, (by (repeat' split) <;> first | rfl | omega | exact jsame jz_m1 t1 (by omega) | exact jsame jz_m1 t2 (by omega) | (exfalso; omega))⟩ hP hS dX12_feed_13
set_option maxHeartbeats 4000000 in
set_option maxRecDepth 100000 in
theorem c_X12_byteAt (l : Launch) (D : va_G) (cI cL : ClassId) (ad : Nat → Nat) (hJ : jD ad) (σ : Nat → Nat → Int32) (τ : Nat → Nat → Int64) (h55_19 : σ 55 19 = 0) (h55_20 : σ 55 20 = 0) : jM l yX12_byteAt cX12_byteAt 1 (some .int) ({ frames := 0, cells := 0, slots := 0, locals := 0 }) D cI cL ad [.ref (ad 55)] σ τ (fun r σ' τ' => (σ = σ' ∧ τ = τ') ∧ ((r = 0 ∧ True))) := by
  refine jM.of hJ (by decide +kernel) (nt := .int) rfl (Nat.le_of_ble_eq_true rfl) ?_
  intro p e s m args below meth c Q ls hC hret hl hP
  obtain ⟨hx, hb, hr, hml, hown, hts, hK, -, hlocks⟩ := hC
  have hown : s.vm.findClass RX12 = some m.cls := hown
  have hS : va_S (jA ad) s.heap s.heap [] := va_S.rf
  have hA : ∀ q, jA ad q → jA ad q := fun _ h => h
  have hl : lv_has ls 1 [(0, .ref (ad 55))] := hl
  refine lv_aload_n hx hb dX12_byteAt_0 rfl (lv_at hl 0 rfl) ?_
  refine va_get (D := D) hx hb hts inlX12 hown hK hP 55 (jc_55 cI cL ad σ τ) rfl 19 (by decide) (hts _ kw_15_11) (fun _ h9 => h9) rfl dX12_byteAt_1 ?_
  refine jtopr h55_19 ?_
  refine lv_aload_n hx hb dX12_byteAt_4 rfl (lv_at hl 0 rfl) ?_
  refine va_get (D := D) hx hb hts inlX12 hown hK hP 55 (jc_55 cI cL ad σ τ) rfl 20 (by decide) (hts _ kw_15_12) (fun _ h9 => h9) rfl dX12_byteAt_5 ?_
  refine jtopr h55_20 ?_
  refine lv_icmp_ge (tgt := 47) hx hb dX12_byteAt_8 (by decide) (fun _ => ?_) (fun c => absurd (by decide) c)
  refine lv_iconst (v := 0) hx hb dX12_byteAt_47 (by decide) ?_
  exact hret 0 σ τ _ _ _ _ rfl ⟨⟨rfl, rfl⟩, ⟨rfl, trivial⟩⟩ hP hS dX12_byteAt_48
set_option maxHeartbeats 4000000 in
set_option maxRecDepth 100000 in
theorem c_X12_nameOf (l : Launch) (D : va_G) (cI cL : ClassId) (ad : Nat → Nat) (hJ : jD ad) (σ : Nat → Nat → Int32) (τ : Nat → Nat → Int64) : jM l yX12_nameOf cX12_nameOf 1 (some .int) ({ frames := 0, cells := 0, slots := 0, locals := 0 }) D cI cL ad [.int 0] σ τ (fun r σ' τ' => (σ = σ' ∧ τ = τ') ∧ ((r = (-1) ∧ True))) := by
  refine jM.of hJ (by decide +kernel) (nt := .int) rfl (Nat.le_of_ble_eq_true rfl) ?_
  intro p e s m args below meth c Q ls hC hret hl hP
  obtain ⟨hx, hb, hr, hml, hown, hts, hK, -, hlocks⟩ := hC
  have hown : s.vm.findClass RX12 = some m.cls := hown
  have hS : va_S (jA ad) s.heap s.heap [] := va_S.rf
  have hA : ∀ q, jA ad q → jA ad q := fun _ h => h
  have hl : lv_has ls 1 [(0, .int 0)] := hl
  refine lv_iload_n hx hb dX12_nameOf_0 rfl (lv_at hl 0 rfl) ?_
  refine lv_tableOut (tgt := 122) hx hb dX12_nameOf_1 (by decide) (by decide) ?_
  refine lv_iconst (v := (-1)) hx hb dX12_nameOf_122 (by decide) ?_
  exact hret (-1) σ τ _ _ _ _ rfl ⟨⟨rfl, rfl⟩, ⟨rfl, trivial⟩⟩ hP hS dX12_nameOf_123
set_option maxHeartbeats 4000000 in
set_option maxRecDepth 100000 in
theorem c_X12_wrong (l : Launch) (D : va_G) (cI cL : ClassId) (ad : Nat → Nat) (hJ : jD ad) (σ : Nat → Nat → Int32) (τ : Nat → Nat → Int64) (h55_19 : σ 55 19 = 0) (h55_21 : σ 55 21 = (-1)) : jM l yX12_wrong cX12_wrong 1 (some .int) ({ frames := 0, cells := 0, slots := 0, locals := 0 }) D cI cL ad [.ref (ad 55)] σ τ (fun r σ' τ' => (∀ i : Nat, (i < 55 ∨ 55 < i) → σ' i = σ i) ∧ (∀ k : Nat, (k < 21 ∨ 21 < k) → σ' 55 k = σ 55 k) ∧ σ' 55 21 = 0 ∧ ((r = 0 ∧ True))) := by
  refine jM.of hJ (by decide +kernel) (nt := .int) rfl (Nat.le_of_ble_eq_true rfl) ?_
  intro p e s m args below meth c Q ls hC hret hl hP
  obtain ⟨hx, hb, hr, hml, hown, hts, hK, -, hlocks⟩ := hC
  have hown : s.vm.findClass RX12 = some m.cls := hown
  have hS : va_S (jA ad) s.heap s.heap [] := va_S.rf
  have hA : ∀ q, jA ad q → jA ad q := fun _ h => h
  have hl : lv_has ls 1 [(0, .ref (ad 55))] := hl
  refine lv_aload_n hx hb dX12_wrong_0 rfl (lv_at hl 0 rfl) ?_
  refine lv_aload_n hx hb dX12_wrong_1 rfl (lv_at hl 0 rfl) ?_
  refine va_get (D := D) hx hb hts inlX12 hown hK hP 55 (jc_55 cI cL ad σ τ) rfl 21 (by decide) (hts _ kw_15_13) (fun _ h9 => h9) rfl dX12_wrong_2 ?_
  refine jtopr h55_21 ?_
  refine lv_if_ge (tgt := 15) hx hb dX12_wrong_5 (by decide) (fun c => absurd c (by decide)) (fun _ => ?_)
  refine lv_aload_n hx hb dX12_wrong_8 rfl (lv_at hl 0 rfl) ?_
  refine va_get (D := D) hx hb hts inlX12 hown hK hP 55 (jc_55 cI cL ad σ τ) rfl 19 (by decide) (hts _ kw_15_11) (fun _ h9 => h9) rfl dX12_wrong_9 ?_
  refine jtopr h55_19 ?_
  refine lv_goto (tgt := 19) hx hb dX12_wrong_12 (by decide) ?_
  refine jput (ty := .int) hx hb hts inlX12 tyX12 tyX12_ok nmX12 hown hK hP hJ hA hS (jc_55 cI cL ad σ τ) rfl (k := 21) (by decide) (Nat.le_of_ble_eq_true rfl) (jp_55_21 cI cL ad σ τ 0) (hts _ kw_15_13) (fun _ h9 => h9) rfl (by decide +kernel) rfl rfl dX12_wrong_19 (fun σ1 H locs eσ1 hP hS => ?_)
  refine lv_iconst (v := 0) hx hb dX12_wrong_22 (by decide) ?_
  have m2 : σ1 55 21 = 0 := (by rw [eσ1]; exact jup_s)
  exact hret 0 σ1 τ _ _ _ _ rfl ⟨(fun i hi => by rw [eσ1, jup_n (by omega)]), (fun k hk => by rw [eσ1, jup_k (by omega)]), m2, ⟨rfl, trivial⟩⟩ hP hS dX12_wrong_23
set_option maxHeartbeats 4000000 in
set_option maxRecDepth 100000 in
theorem c_X12_takes (l : Launch) (D : va_G) (cI cL : ClassId) (ad : Nat → Nat) (hJ : jD ad) (σ : Nat → Nat → Int32) (τ : Nat → Nat → Int64) (a1 : Int32) (A1 : Int) (t1 : a1.toInt = A1) (h55_21 : σ 55 21 = 0) : jM l yX12_takes cX12_takes 2 (some .boolean) ({ frames := 0, cells := 0, slots := 0, locals := 0 }) D cI cL ad [.ref (ad 55), .int a1] σ τ (fun r σ' τ' => (σ = σ' ∧ τ = τ') ∧ ((r = 0 ∧ True))) := by
  refine jM.of hJ (by decide +kernel) (nt := .boolean) rfl (Nat.le_of_ble_eq_true rfl) ?_
  intro p e s m args below meth c Q ls hC hret hl hP
  obtain ⟨hx, hb, hr, hml, hown, hts, hK, -, hlocks⟩ := hC
  have hown : s.vm.findClass RX12 = some m.cls := hown
  have hS : va_S (jA ad) s.heap s.heap [] := va_S.rf
  have hA : ∀ q, jA ad q → jA ad q := fun _ h => h
  have hl : lv_has ls 2 [(0, .ref (ad 55)), (1, .int a1)] := hl
  have g1 := jrg t1
  refine lv_aload_n hx hb dX12_takes_0 rfl (lv_at hl 0 rfl) ?_
  refine va_get (D := D) hx hb hts inlX12 hown hK hP 55 (jc_55 cI cL ad σ τ) rfl 21 (by decide) (hts _ kw_15_13) (fun _ h9 => h9) rfl dX12_takes_1 ?_
  refine jtopr h55_21 ?_
  refine lv_if_ge (tgt := 15) hx hb dX12_takes_4 (by decide) (fun _ => ?_) (fun c => absurd (by decide) c)
  refine lv_iconst (v := 0) hx hb dX12_takes_15 (by decide) ?_
  exact hret 0 σ τ _ _ _ _ rfl ⟨⟨rfl, rfl⟩, ⟨rfl, trivial⟩⟩ hP hS dX12_takes_16
set_option maxHeartbeats 4000000 in
set_option maxRecDepth 100000 in
theorem c_X12_one (l : Launch) (D : va_G) (cI cL : ClassId) (ad : Nat → Nat) (hJ : jD ad) (σ : Nat → Nat → Int32) (τ : Nat → Nat → Int64) (h55_19 : σ 55 19 = 0) (h55_20 : σ 55 20 = 0) (h55_21 : σ 55 21 = (-1)) : jM l yX12_one cX12_one 5 (some .int) ({ frames := 1, cells := 0, slots := 0, locals := 20 }) D cI cL ad [.ref (ad 55)] σ τ (fun r σ' τ' => (∀ i : Nat, (i < 55 ∨ 55 < i) → σ' i = σ i) ∧ (∀ k : Nat, (k < 21 ∨ 21 < k) → σ' 55 k = σ 55 k) ∧ σ' 55 21 = 0 ∧ ((r = 0 ∧ True))) := by
  refine jM.of hJ (by decide +kernel) (nt := .int) rfl (Nat.le_of_ble_eq_true rfl) ?_
  intro p e s m args below meth c Q ls hC hret hl hP
  obtain ⟨hx, hb, hr, hml, hown, hts, hK, -, hlocks⟩ := hC
  have hown : s.vm.findClass RX12 = some m.cls := hown
  have hS : va_S (jA ad) s.heap s.heap [] := va_S.rf
  have hA : ∀ q, jA ad q → jA ad q := fun _ h => h
  have hl : lv_has ls 5 [(0, .ref (ad 55))] := hl
  refine lv_aload_n hx hb dX12_one_0 rfl (lv_at hl 0 rfl) ?_
  refine va_get (D := D) hx hb hts inlX12 hown hK hP 55 (jc_55 cI cL ad σ τ) rfl 21 (by decide) (hts _ kw_15_13) (fun _ h9 => h9) rfl dX12_one_1 ?_
  refine jtopr h55_21 ?_
  refine lv_if_lt (tgt := 9) hx hb dX12_one_4 (by decide) (fun _ => ?_) (fun c => absurd (by decide) c)
  refine lv_aload_n hx hb dX12_one_9 rfl (lv_at hl 0 rfl) ?_
  refine jcallV (As := []) (rest := []) ⟨hx, hb, hml, hown, hts⟩ hK hP hA hS (c_X12_byteAt l D cI cL ad hJ σ τ h55_19 h55_20) cw_RX12_189 (jc_55 cI cL ad σ τ) rfl ⟨Nat.le_of_ble_eq_true rfl, Nat.le_of_ble_eq_true rfl⟩ rfl rfl rfl hl.1 rfl (Nat.le_of_ble_eq_true rfl) dX12_one_10 ⟨Nat.zero_le _, Nat.zero_le _⟩ (fun r2 σ1 τ1 H locs h1 hP hS => ?_)
  obtain ⟨⟨rfl, rfl⟩, h1⟩ := h1
  have h3 := h1
  obtain ⟨q5, k4⟩ := h3
  have q5 := q5.symm
  subst q5
  refine lv_istore_n (lv' := [(1, .int 0), (0, .ref (ad 55))]) hx hb dX12_one_13 rfl hl (by decide) rfl (fun ls hl => ?_)
  refine lv_iload_n hx hb dX12_one_14 rfl (lv_at hl 0 rfl) ?_
  refine lv_bipush (v := 33) hx hb dX12_one_15 (by decide) ?_
  refine lv_icmp_eq (tgt := 32) hx hb dX12_one_17 (by decide) (fun c => absurd c (by decide)) (fun _ => ?_)
  refine lv_iload_n hx hb dX12_one_20 rfl (lv_at hl 0 rfl) ?_
  refine lv_bipush (v := 45) hx hb dX12_one_21 (by decide) ?_
  refine lv_icmp_eq (tgt := 32) hx hb dX12_one_23 (by decide) (fun c => absurd c (by decide)) (fun _ => ?_)
  refine lv_iload_n hx hb dX12_one_26 rfl (lv_at hl 0 rfl) ?_
  refine lv_bipush (v := 40) hx hb dX12_one_27 (by decide) ?_
  refine lv_icmp_ne (tgt := 145) hx hb dX12_one_29 (by decide) (fun _ => ?_) (fun c => absurd c (by decide))
  refine lv_iload_n hx hb dX12_one_145 rfl (lv_at hl 0 rfl) ?_
  refine jcallS (As := [.int 0]) (rest := []) ⟨hx, hb, hml, hown, hts⟩ hK hP hA hS (c_X12_nameOf l D cI cL ad hJ σ τ) cw_RX12_220 ⟨Nat.le_of_ble_eq_true rfl, Nat.le_of_ble_eq_true rfl⟩ rfl rfl rfl hl.1 rfl (Nat.le_of_ble_eq_true rfl) dX12_one_146 ⟨Nat.zero_le _, Nat.zero_le _⟩ (fun r7 σ6 τ6 H locs h6 hP hS => ?_)
  obtain ⟨⟨rfl, rfl⟩, h6⟩ := h6
  have h8 := h6
  obtain ⟨q10, k9⟩ := h8
  have q10 := q10.symm
  subst q10
  refine lv_istore_n (lv' := [(2, .int (-1)), (1, .int 0), (0, .ref (ad 55))]) hx hb dX12_one_149 rfl hl (by decide) rfl (fun ls hl => ?_)
  refine lv_iload_n hx hb dX12_one_150 rfl (lv_at hl 0 rfl) ?_
  refine lv_if_lt (tgt := 171) hx hb dX12_one_151 (by decide) (fun _ => ?_) (fun c => absurd (by decide) c)
  refine lv_iconst (v := 0) hx hb dX12_one_171 (by decide) ?_
  refine lv_istore_n (lv' := [(3, .int 0), (2, .int (-1)), (1, .int 0), (0, .ref (ad 55))]) hx hb dX12_one_172 rfl hl (by decide) rfl (fun ls hl => ?_)
  refine lv_iconst (v := 0) hx hb dX12_one_173 (by decide) ?_
  refine lv_istore (lv' := [(4, .int 0), (3, .int 0), (2, .int (-1)), (1, .int 0), (0, .ref (ad 55))]) hx hb dX12_one_174 hl (by decide) rfl (fun ls hl => ?_)
  refine lv_iload hx hb dX12_one_176 (lv_at hl 0 rfl) ?_
  refine lv_iconst (v := 4) hx hb dX12_one_178 (by decide) ?_
  refine lv_icmp_ge (tgt := 229) hx hb dX12_one_179 (by decide) (fun c => absurd c (by decide)) (fun _ => ?_)
  refine lv_aload_n hx hb dX12_one_182 rfl (lv_at hl 4 rfl) ?_
  refine jcallV (As := []) (rest := []) ⟨hx, hb, hml, hown, hts⟩ hK hP hA hS (c_X12_byteAt l D cI cL ad hJ σ τ h55_19 h55_20) cw_RX12_189 (jc_55 cI cL ad σ τ) rfl ⟨Nat.le_of_ble_eq_true rfl, Nat.le_of_ble_eq_true rfl⟩ rfl rfl rfl hl.1 rfl (Nat.le_of_ble_eq_true rfl) dX12_one_183 ⟨Nat.zero_le _, Nat.zero_le _⟩ (fun r12 σ11 τ11 H locs h11 hP hS => ?_)
  obtain ⟨⟨rfl, rfl⟩, h11⟩ := h11
  have h13 := h11
  obtain ⟨q15, k14⟩ := h13
  have q15 := q15.symm
  subst q15
  refine lv_bipush (v := 48) hx hb dX12_one_186 (by decide) ?_
  refine lv_icmp_lt (tgt := 229) hx hb dX12_one_188 (by decide) (fun _ => ?_) (fun c => absurd (by decide) c)
  refine lv_iload hx hb dX12_one_229 (lv_at hl 0 rfl) ?_
  refine lv_if_ne (tgt := 241) hx hb dX12_one_231 (by decide) (fun c => absurd (by decide) c) (fun _ => ?_)
  refine lv_aload_n hx hb dX12_one_234 rfl (lv_at hl 4 rfl) ?_
  refine jcallV (As := []) (rest := []) ⟨hx, hb, hml, hown, hts⟩ hK hP hA hS (c_X12_wrong l D cI cL ad hJ σ τ h55_19 h55_21) cw_RX12_214 (jc_55 cI cL ad σ τ) rfl ⟨Nat.le_of_ble_eq_true rfl, Nat.le_of_ble_eq_true rfl⟩ rfl rfl rfl hl.1 rfl (Nat.le_of_ble_eq_true rfl) dX12_one_235 ⟨Nat.zero_le _, Nat.zero_le _⟩ (fun r17 σ16 τ16 H locs h16 hP hS => ?_)
  obtain ⟨f18, f20, m19, h16⟩ := h16
  have h21 := h16
  obtain ⟨q23, k22⟩ := h21
  have q23 := q23.symm
  subst q23
  refine lv_goto (tgt := 242) hx hb dX12_one_238 (by decide) ?_
  exact hret 0 σ16 τ16 _ _ _ _ rfl ⟨(fun i hi => by rw [f18 i (by omega)]), (fun k hk => by rw [f20 k (by omega)]), m19, ⟨rfl, trivial⟩⟩ hP hS dX12_one_242
set_option maxHeartbeats 4000000 in
set_option maxRecDepth 100000 in
theorem c_X12_product (l : Launch) (D : va_G) (cI cL : ClassId) (ad : Nat → Nat) (hJ : jD ad) (σ : Nat → Nat → Int32) (τ : Nat → Nat → Int64) (h55_19 : σ 55 19 = 0) (h55_20 : σ 55 20 = 0) (h55_21 : σ 55 21 = (-1)) : jM l yX12_product cX12_product 4 (some .int) ({ frames := 2, cells := 0, slots := 0, locals := 44 }) D cI cL ad [.ref (ad 55)] σ τ (fun r σ' τ' => (∀ i : Nat, (i < 55 ∨ 55 < i) → σ' i = σ i) ∧ (∀ k : Nat, (k < 21 ∨ 21 < k) → σ' 55 k = σ 55 k) ∧ σ' 55 21 = 0 ∧ ((r = 0 ∧ True))) := by
  refine jM.of hJ (by decide +kernel) (nt := .int) rfl (Nat.le_of_ble_eq_true rfl) ?_
  intro p e s m args below meth c Q ls hC hret hl hP
  obtain ⟨hx, hb, hr, hml, hown, hts, hK, -, hlocks⟩ := hC
  have hown : s.vm.findClass RX12 = some m.cls := hown
  have hS : va_S (jA ad) s.heap s.heap [] := va_S.rf
  have hA : ∀ q, jA ad q → jA ad q := fun _ h => h
  have hl : lv_has ls 4 [(0, .ref (ad 55))] := hl
  refine lv_aload_n hx hb dX12_product_0 rfl (lv_at hl 0 rfl) ?_
  refine jcallV (As := []) (rest := []) ⟨hx, hb, hml, hown, hts⟩ hK hP hA hS (c_X12_one l D cI cL ad hJ σ τ h55_19 h55_20 h55_21) cw_RX12_208 (jc_55 cI cL ad σ τ) rfl ⟨Nat.le_of_ble_eq_true rfl, Nat.le_of_ble_eq_true rfl⟩ rfl rfl rfl hl.1 rfl (Nat.le_of_ble_eq_true rfl) dX12_product_1 ⟨Nat.zero_le _, Nat.zero_le _⟩ (fun r2 σ1 τ1 H locs h1 hP hS => ?_)
  obtain ⟨f3, f5, m4, h1⟩ := h1
  have h6 := h1
  obtain ⟨q8, k7⟩ := h6
  have q8 := q8.symm
  subst q8
  refine lv_istore_n (lv' := [(1, .int 0), (0, .ref (ad 55))]) hx hb dX12_product_4 rfl hl (by decide) rfl (fun ls hl => ?_)
  refine lv_aload_n hx hb dX12_product_5 rfl (lv_at hl 1 rfl) ?_
  have m9 : σ1 55 19 = 0 := (by rw [f5 19 (by omega)]; exact h55_19)
  have m10 : σ1 55 20 = 0 := (by rw [f5 20 (by omega)]; exact h55_20)
  refine jcallV (As := []) (rest := []) ⟨hx, hb, hml, hown, hts⟩ hK hP hA hS (c_X12_byteAt l D cI cL ad hJ σ1 τ1 m9 m10) cw_RX12_189 (jc_55 cI cL ad σ1 τ1) rfl ⟨Nat.le_of_ble_eq_true rfl, Nat.le_of_ble_eq_true rfl⟩ rfl rfl rfl hl.1 rfl (Nat.le_of_ble_eq_true rfl) dX12_product_6 ⟨Nat.zero_le _, Nat.zero_le _⟩ (fun r12 σ11 τ11 H locs h11 hP hS => ?_)
  obtain ⟨⟨rfl, rfl⟩, h11⟩ := h11
  have h13 := h11
  obtain ⟨q15, k14⟩ := h13
  have q15 := q15.symm
  subst q15
  refine lv_istore_n (lv' := [(2, .int 0), (1, .int 0), (0, .ref (ad 55))]) hx hb dX12_product_9 rfl hl (by decide) rfl (fun ls hl => ?_)
  refine lv_aload_n hx hb dX12_product_10 rfl (lv_at hl 2 rfl) ?_
  refine va_get (D := D) hx hb hts inlX12 hown hK hP 55 (jc_55 cI cL ad σ1 τ1) rfl 21 (by decide) (hts _ kw_15_13) (fun _ h9 => h9) rfl dX12_product_11 ?_
  refine jtopr m4 ?_
  refine lv_if_ge (tgt := 94) hx hb dX12_product_14 (by decide) (fun _ => ?_) (fun c => absurd (by decide) c)
  refine lv_iload_n hx hb dX12_product_94 rfl (lv_at hl 1 rfl) ?_
  exact hret 0 σ1 τ1 _ _ _ _ rfl ⟨(fun i hi => by rw [f3 i (by omega)]), (fun k hk => by rw [f5 k (by omega)]), m4, ⟨rfl, trivial⟩⟩ hP hS dX12_product_95
set_option maxHeartbeats 4000000 in
set_option maxRecDepth 100000 in
theorem c_X12_sums (l : Launch) (D : va_G) (cI cL : ClassId) (ad : Nat → Nat) (hJ : jD ad) (σ : Nat → Nat → Int32) (τ : Nat → Nat → Int64) (h55_19 : σ 55 19 = 0) (h55_20 : σ 55 20 = 0) (h55_21 : σ 55 21 = (-1)) : jM l yX12_sums cX12_sums 4 (some .int) ({ frames := 3, cells := 0, slots := 0, locals := 67 }) D cI cL ad [.ref (ad 55)] σ τ (fun r σ' τ' => (∀ i : Nat, (i < 55 ∨ 55 < i) → σ' i = σ i) ∧ (∀ k : Nat, (k < 21 ∨ 21 < k) → σ' 55 k = σ 55 k) ∧ σ' 55 21 = 0 ∧ ((r = 0 ∧ True))) := by
  refine jM.of hJ (by decide +kernel) (nt := .int) rfl (Nat.le_of_ble_eq_true rfl) ?_
  intro p e s m args below meth c Q ls hC hret hl hP
  obtain ⟨hx, hb, hr, hml, hown, hts, hK, -, hlocks⟩ := hC
  have hown : s.vm.findClass RX12 = some m.cls := hown
  have hS : va_S (jA ad) s.heap s.heap [] := va_S.rf
  have hA : ∀ q, jA ad q → jA ad q := fun _ h => h
  have hl : lv_has ls 4 [(0, .ref (ad 55))] := hl
  refine lv_aload_n hx hb dX12_sums_0 rfl (lv_at hl 0 rfl) ?_
  refine jcallV (As := []) (rest := []) ⟨hx, hb, hml, hown, hts⟩ hK hP hA hS (c_X12_product l D cI cL ad hJ σ τ h55_19 h55_20 h55_21) cw_RX12_205 (jc_55 cI cL ad σ τ) rfl ⟨Nat.le_of_ble_eq_true rfl, Nat.le_of_ble_eq_true rfl⟩ rfl rfl rfl hl.1 rfl (Nat.le_of_ble_eq_true rfl) dX12_sums_1 ⟨Nat.zero_le _, Nat.zero_le _⟩ (fun r2 σ1 τ1 H locs h1 hP hS => ?_)
  obtain ⟨f3, f5, m4, h1⟩ := h1
  have h6 := h1
  obtain ⟨q8, k7⟩ := h6
  have q8 := q8.symm
  subst q8
  refine lv_istore_n (lv' := [(1, .int 0), (0, .ref (ad 55))]) hx hb dX12_sums_4 rfl hl (by decide) rfl (fun ls hl => ?_)
  refine lv_aload_n hx hb dX12_sums_5 rfl (lv_at hl 1 rfl) ?_
  refine va_get (D := D) hx hb hts inlX12 hown hK hP 55 (jc_55 cI cL ad σ1 τ1) rfl 21 (by decide) (hts _ kw_15_13) (fun _ h9 => h9) rfl dX12_sums_6 ?_
  refine jtopr m4 ?_
  refine lv_if_ge (tgt := 77) hx hb dX12_sums_9 (by decide) (fun _ => ?_) (fun c => absurd (by decide) c)
  refine lv_iload_n hx hb dX12_sums_77 rfl (lv_at hl 0 rfl) ?_
  exact hret 0 σ1 τ1 _ _ _ _ rfl ⟨(fun i hi => by rw [f3 i (by omega)]), (fun k hk => by rw [f5 k (by omega)]), m4, ⟨rfl, trivial⟩⟩ hP hS dX12_sums_78
set_option maxHeartbeats 4000000 in
set_option maxRecDepth 100000 in
theorem c_X12_compared (l : Launch) (D : va_G) (cI cL : ClassId) (ad : Nat → Nat) (hJ : jD ad) (σ : Nat → Nat → Int32) (τ : Nat → Nat → Int64) (h55_19 : σ 55 19 = 0) (h55_20 : σ 55 20 = 0) (h55_21 : σ 55 21 = (-1)) : jM l yX12_compared cX12_compared 4 (some .int) ({ frames := 4, cells := 0, slots := 0, locals := 90 }) D cI cL ad [.ref (ad 55)] σ τ (fun r σ' τ' => (∀ i : Nat, (i < 55 ∨ 55 < i) → σ' i = σ i) ∧ (∀ k : Nat, (k < 21 ∨ 21 < k) → σ' 55 k = σ 55 k) ∧ σ' 55 21 = 0 ∧ ((r = 0 ∧ True))) := by
  refine jM.of hJ (by decide +kernel) (nt := .int) rfl (Nat.le_of_ble_eq_true rfl) ?_
  intro p e s m args below meth c Q ls hC hret hl hP
  obtain ⟨hx, hb, hr, hml, hown, hts, hK, -, hlocks⟩ := hC
  have hown : s.vm.findClass RX12 = some m.cls := hown
  have hS : va_S (jA ad) s.heap s.heap [] := va_S.rf
  have hA : ∀ q, jA ad q → jA ad q := fun _ h => h
  have hl : lv_has ls 4 [(0, .ref (ad 55))] := hl
  refine lv_aload_n hx hb dX12_compared_0 rfl (lv_at hl 0 rfl) ?_
  refine jcallV (As := []) (rest := []) ⟨hx, hb, hml, hown, hts⟩ hK hP hA hS (c_X12_sums l D cI cL ad hJ σ τ h55_19 h55_20 h55_21) cw_RX12_202 (jc_55 cI cL ad σ τ) rfl ⟨Nat.le_of_ble_eq_true rfl, Nat.le_of_ble_eq_true rfl⟩ rfl rfl rfl hl.1 rfl (Nat.le_of_ble_eq_true rfl) dX12_compared_1 ⟨Nat.zero_le _, Nat.zero_le _⟩ (fun r2 σ1 τ1 H locs h1 hP hS => ?_)
  obtain ⟨f3, f5, m4, h1⟩ := h1
  have h6 := h1
  obtain ⟨q8, k7⟩ := h6
  have q8 := q8.symm
  subst q8
  refine lv_istore_n (lv' := [(1, .int 0), (0, .ref (ad 55))]) hx hb dX12_compared_4 rfl hl (by decide) rfl (fun ls hl => ?_)
  refine lv_aload_n hx hb dX12_compared_5 rfl (lv_at hl 1 rfl) ?_
  have m9 : σ1 55 19 = 0 := (by rw [f5 19 (by omega)]; exact h55_19)
  have m10 : σ1 55 20 = 0 := (by rw [f5 20 (by omega)]; exact h55_20)
  refine jcallV (As := []) (rest := []) ⟨hx, hb, hml, hown, hts⟩ hK hP hA hS (c_X12_byteAt l D cI cL ad hJ σ1 τ1 m9 m10) cw_RX12_189 (jc_55 cI cL ad σ1 τ1) rfl ⟨Nat.le_of_ble_eq_true rfl, Nat.le_of_ble_eq_true rfl⟩ rfl rfl rfl hl.1 rfl (Nat.le_of_ble_eq_true rfl) dX12_compared_6 ⟨Nat.zero_le _, Nat.zero_le _⟩ (fun r12 σ11 τ11 H locs h11 hP hS => ?_)
  obtain ⟨⟨rfl, rfl⟩, h11⟩ := h11
  have h13 := h11
  obtain ⟨q15, k14⟩ := h13
  have q15 := q15.symm
  subst q15
  refine lv_istore_n (lv' := [(2, .int 0), (1, .int 0), (0, .ref (ad 55))]) hx hb dX12_compared_9 rfl hl (by decide) rfl (fun ls hl => ?_)
  refine lv_aload_n hx hb dX12_compared_10 rfl (lv_at hl 2 rfl) ?_
  refine va_get (D := D) hx hb hts inlX12 hown hK hP 55 (jc_55 cI cL ad σ1 τ1) rfl 21 (by decide) (hts _ kw_15_13) (fun _ h9 => h9) rfl dX12_compared_11 ?_
  refine jtopr m4 ?_
  refine lv_if_ge (tgt := 35) hx hb dX12_compared_14 (by decide) (fun _ => ?_) (fun c => absurd (by decide) c)
  refine lv_iload_n hx hb dX12_compared_35 rfl (lv_at hl 1 rfl) ?_
  exact hret 0 σ1 τ1 _ _ _ _ rfl ⟨(fun i hi => by rw [f3 i (by omega)]), (fun k hk => by rw [f5 k (by omega)]), m4, ⟨rfl, trivial⟩⟩ hP hS dX12_compared_36
set_option maxHeartbeats 4000000 in
set_option maxRecDepth 100000 in
theorem c_X12_both (l : Launch) (D : va_G) (cI cL : ClassId) (ad : Nat → Nat) (hJ : jD ad) (σ : Nat → Nat → Int32) (τ : Nat → Nat → Int64) (h55_19 : σ 55 19 = 0) (h55_20 : σ 55 20 = 0) (h55_21 : σ 55 21 = (-1)) : jM l yX12_both cX12_both 3 (some .int) ({ frames := 5, cells := 0, slots := 0, locals := 113 }) D cI cL ad [.ref (ad 55)] σ τ (fun r σ' τ' => (∀ i : Nat, (i < 55 ∨ 55 < i) → σ' i = σ i) ∧ (∀ k : Nat, (k < 21 ∨ 21 < k) → σ' 55 k = σ 55 k) ∧ σ' 55 21 = 0 ∧ ((r = 0 ∧ True))) := by
  refine jM.of hJ (by decide +kernel) (nt := .int) rfl (Nat.le_of_ble_eq_true rfl) ?_
  intro p e s m args below meth c Q ls hC hret hl hP
  obtain ⟨hx, hb, hr, hml, hown, hts, hK, -, hlocks⟩ := hC
  have hown : s.vm.findClass RX12 = some m.cls := hown
  have hS : va_S (jA ad) s.heap s.heap [] := va_S.rf
  have hA : ∀ q, jA ad q → jA ad q := fun _ h => h
  have hl : lv_has ls 3 [(0, .ref (ad 55))] := hl
  refine lv_aload_n hx hb dX12_both_0 rfl (lv_at hl 0 rfl) ?_
  refine jcallV (As := []) (rest := []) ⟨hx, hb, hml, hown, hts⟩ hK hP hA hS (c_X12_compared l D cI cL ad hJ σ τ h55_19 h55_20 h55_21) cw_RX12_199 (jc_55 cI cL ad σ τ) rfl ⟨Nat.le_of_ble_eq_true rfl, Nat.le_of_ble_eq_true rfl⟩ rfl rfl rfl hl.1 rfl (Nat.le_of_ble_eq_true rfl) dX12_both_1 ⟨Nat.zero_le _, Nat.zero_le _⟩ (fun r2 σ1 τ1 H locs h1 hP hS => ?_)
  obtain ⟨f3, f5, m4, h1⟩ := h1
  have h6 := h1
  obtain ⟨q8, k7⟩ := h6
  have q8 := q8.symm
  subst q8
  refine lv_istore_n (lv' := [(1, .int 0), (0, .ref (ad 55))]) hx hb dX12_both_4 rfl hl (by decide) rfl (fun ls hl => ?_)
  refine lv_aload_n hx hb dX12_both_5 rfl (lv_at hl 1 rfl) ?_
  refine lv_bipush (v := 38) hx hb dX12_both_6 (by decide) ?_
  refine jcallV (As := [.int 38]) (rest := []) ⟨hx, hb, hml, hown, hts⟩ hK hP hA hS (c_X12_takes l D cI cL ad hJ σ1 τ1 38 (38) jz_38 m4) cw_RX12_196 (jc_55 cI cL ad σ1 τ1) rfl ⟨Nat.le_of_ble_eq_true rfl, Nat.le_of_ble_eq_true rfl⟩ rfl rfl rfl hl.1 rfl (Nat.le_of_ble_eq_true rfl) dX12_both_8 ⟨Nat.zero_le _, Nat.zero_le _⟩ (fun r10 σ9 τ9 H locs h9 hP hS => ?_)
  obtain ⟨⟨rfl, rfl⟩, h9⟩ := h9
  have h11 := h9
  obtain ⟨q13, k12⟩ := h11
  have q13 := q13.symm
  subst q13
  refine lv_if_eq (tgt := 36) hx hb dX12_both_11 (by decide) (fun _ => ?_) (fun c => absurd (by decide) c)
  refine lv_iload_n hx hb dX12_both_36 rfl (lv_at hl 0 rfl) ?_
  exact hret 0 σ1 τ1 _ _ _ _ rfl ⟨(fun i hi => by rw [f3 i (by omega)]), (fun k hk => by rw [f5 k (by omega)]), m4, ⟨rfl, trivial⟩⟩ hP hS dX12_both_37
set_option maxHeartbeats 4000000 in
set_option maxRecDepth 100000 in
theorem c_X12_either (l : Launch) (D : va_G) (cI cL : ClassId) (ad : Nat → Nat) (hJ : jD ad) (σ : Nat → Nat → Int32) (τ : Nat → Nat → Int64) (h55_19 : σ 55 19 = 0) (h55_20 : σ 55 20 = 0) (h55_21 : σ 55 21 = (-1)) : jM l yX12_either cX12_either 3 (some .int) ({ frames := 6, cells := 0, slots := 0, locals := 135 }) D cI cL ad [.ref (ad 55)] σ τ (fun r σ' τ' => (∀ i : Nat, (i < 55 ∨ 55 < i) → σ' i = σ i) ∧ (∀ k : Nat, (k < 21 ∨ 21 < k) → σ' 55 k = σ 55 k) ∧ σ' 55 21 = 0 ∧ ((r = 0 ∧ True))) := by
  refine jM.of hJ (by decide +kernel) (nt := .int) rfl (Nat.le_of_ble_eq_true rfl) ?_
  intro p e s m args below meth c Q ls hC hret hl hP
  obtain ⟨hx, hb, hr, hml, hown, hts, hK, -, hlocks⟩ := hC
  have hown : s.vm.findClass RX12 = some m.cls := hown
  have hS : va_S (jA ad) s.heap s.heap [] := va_S.rf
  have hA : ∀ q, jA ad q → jA ad q := fun _ h => h
  have hl : lv_has ls 3 [(0, .ref (ad 55))] := hl
  refine lv_aload_n hx hb dX12_either_0 rfl (lv_at hl 0 rfl) ?_
  refine jcallV (As := []) (rest := []) ⟨hx, hb, hml, hown, hts⟩ hK hP hA hS (c_X12_both l D cI cL ad hJ σ τ h55_19 h55_20 h55_21) cw_RX12_193 (jc_55 cI cL ad σ τ) rfl ⟨Nat.le_of_ble_eq_true rfl, Nat.le_of_ble_eq_true rfl⟩ rfl rfl rfl hl.1 rfl (Nat.le_of_ble_eq_true rfl) dX12_either_1 ⟨Nat.zero_le _, Nat.zero_le _⟩ (fun r2 σ1 τ1 H locs h1 hP hS => ?_)
  obtain ⟨f3, f5, m4, h1⟩ := h1
  have h6 := h1
  obtain ⟨q8, k7⟩ := h6
  have q8 := q8.symm
  subst q8
  refine lv_istore_n (lv' := [(1, .int 0), (0, .ref (ad 55))]) hx hb dX12_either_4 rfl hl (by decide) rfl (fun ls hl => ?_)
  refine lv_aload_n hx hb dX12_either_5 rfl (lv_at hl 1 rfl) ?_
  refine lv_bipush (v := 124) hx hb dX12_either_6 (by decide) ?_
  refine jcallV (As := [.int 124]) (rest := []) ⟨hx, hb, hml, hown, hts⟩ hK hP hA hS (c_X12_takes l D cI cL ad hJ σ1 τ1 124 (124) jz_124 m4) cw_RX12_196 (jc_55 cI cL ad σ1 τ1) rfl ⟨Nat.le_of_ble_eq_true rfl, Nat.le_of_ble_eq_true rfl⟩ rfl rfl rfl hl.1 rfl (Nat.le_of_ble_eq_true rfl) dX12_either_8 ⟨Nat.zero_le _, Nat.zero_le _⟩ (fun r10 σ9 τ9 H locs h9 hP hS => ?_)
  obtain ⟨⟨rfl, rfl⟩, h9⟩ := h9
  have h11 := h9
  obtain ⟨q13, k12⟩ := h11
  have q13 := q13.symm
  subst q13
  refine lv_if_eq (tgt := 36) hx hb dX12_either_11 (by decide) (fun _ => ?_) (fun c => absurd (by decide) c)
  refine lv_iload_n hx hb dX12_either_36 rfl (lv_at hl 0 rfl) ?_
  exact hret 0 σ1 τ1 _ _ _ _ rfl ⟨(fun i hi => by rw [f3 i (by omega)]), (fun k hk => by rw [f5 k (by omega)]), m4, ⟨rfl, trivial⟩⟩ hP hS dX12_either_37
set_option maxHeartbeats 4000000 in
set_option maxRecDepth 100000 in
theorem c_X12_workOut (l : Launch) (D : va_G) (cI cL : ClassId) (ad : Nat → Nat) (hJ : jD ad) (σ : Nat → Nat → Int32) (τ : Nat → Nat → Int64) : jM l yX12_workOut cX12_workOut 8 (some .int) ({ frames := 7, cells := 0, slots := 0, locals := 157 }) D cI cL ad [.ref (ad 55), .int (-1), .int 0] σ τ (fun r σ' τ' => (∀ i : Nat, (i < 55 ∨ 55 < i) → σ' i = σ i) ∧ (∀ k : Nat, (k < 18 ∨ 18 < k) ∧ (k < 19 ∨ 19 < k) ∧ (k < 20 ∨ 20 < k) ∧ (k < 21 ∨ 21 < k) ∧ (k < 22 ∨ 22 < k) → σ' 55 k = σ 55 k) ∧ σ' 55 21 = 0 ∧ True) := by
  refine jM.of hJ (by decide +kernel) (nt := .int) rfl (Nat.le_of_ble_eq_true rfl) ?_
  intro p e s m args below meth c Q ls hC hret hl hP
  obtain ⟨hx, hb, hr, hml, hown, hts, hK, -, hlocks⟩ := hC
  have hown : s.vm.findClass RX12 = some m.cls := hown
  have hS : va_S (jA ad) s.heap s.heap [] := va_S.rf
  have hA : ∀ q, jA ad q → jA ad q := fun _ h => h
  have hl : lv_has ls 8 [(0, .ref (ad 55)), (1, .int (-1)), (2, .int 0)] := hl
  refine lv_aload_n hx hb dX12_workOut_0 rfl (lv_at hl 0 rfl) ?_
  refine lv_iload_n hx hb dX12_workOut_1 rfl (lv_at hl 1 rfl) ?_
  refine jput (ty := .int) hx hb hts inlX12 tyX12 tyX12_ok nmX12 hown hK hP hJ hA hS (jc_55 cI cL ad σ τ) rfl (k := 18) (by decide) (Nat.le_of_ble_eq_true rfl) (jp_55_18 cI cL ad σ τ (-1)) (hts _ kw_15_10) (fun _ h9 => h9) rfl (by decide +kernel) rfl rfl dX12_workOut_2 (fun σ1 H locs eσ1 hP hS => ?_)
  refine lv_aload_n hx hb dX12_workOut_5 rfl (lv_at hl 0 rfl) ?_
  refine lv_iconst (v := 0) hx hb dX12_workOut_6 (by decide) ?_
  refine jput (ty := .int) hx hb hts inlX12 tyX12 tyX12_ok nmX12 hown hK hP hJ hA hS (jc_55 cI cL ad σ1 τ) rfl (k := 19) (by decide) (Nat.le_of_ble_eq_true rfl) (jp_55_19 cI cL ad σ1 τ 0) (hts _ kw_15_11) (fun _ h9 => h9) rfl (by decide +kernel) rfl rfl dX12_workOut_7 (fun σ2 H locs eσ2 hP hS => ?_)
  refine lv_aload_n hx hb dX12_workOut_10 rfl (lv_at hl 0 rfl) ?_
  refine lv_iload_n hx hb dX12_workOut_11 rfl (lv_at hl 2 rfl) ?_
  refine jput (ty := .int) hx hb hts inlX12 tyX12 tyX12_ok nmX12 hown hK hP hJ hA hS (jc_55 cI cL ad σ2 τ) rfl (k := 20) (by decide) (Nat.le_of_ble_eq_true rfl) (jp_55_20 cI cL ad σ2 τ 0) (hts _ kw_15_12) (fun _ h9 => h9) rfl (by decide +kernel) rfl rfl dX12_workOut_12 (fun σ3 H locs eσ3 hP hS => ?_)
  refine lv_aload_n hx hb dX12_workOut_15 rfl (lv_at hl 0 rfl) ?_
  refine lv_iconst (v := (-1)) hx hb dX12_workOut_16 (by decide) ?_
  refine jput (ty := .int) hx hb hts inlX12 tyX12 tyX12_ok nmX12 hown hK hP hJ hA hS (jc_55 cI cL ad σ3 τ) rfl (k := 21) (by decide) (Nat.le_of_ble_eq_true rfl) (jp_55_21 cI cL ad σ3 τ (-1)) (hts _ kw_15_13) (fun _ h9 => h9) rfl (by decide +kernel) rfl rfl dX12_workOut_17 (fun σ4 H locs eσ4 hP hS => ?_)
  refine lv_aload_n hx hb dX12_workOut_20 rfl (lv_at hl 0 rfl) ?_
  refine lv_iconst (v := 0) hx hb dX12_workOut_21 (by decide) ?_
  refine jput (ty := .int) hx hb hts inlX12 tyX12 tyX12_ok nmX12 hown hK hP hJ hA hS (jc_55 cI cL ad σ4 τ) rfl (k := 22) (by decide) (Nat.le_of_ble_eq_true rfl) (jp_55_22 cI cL ad σ4 τ 0) (hts _ kw_18_21) (fun _ h9 => h9) rfl (by decide +kernel) rfl rfl dX12_workOut_22 (fun σ5 H locs eσ5 hP hS => ?_)
  refine lv_iconst (v := 0) hx hb dX12_workOut_25 (by decide) ?_
  refine lv_istore_n (lv' := [(3, .int 0), (0, .ref (ad 55)), (1, .int (-1)), (2, .int 0)]) hx hb dX12_workOut_26 rfl hl (by decide) rfl (fun ls hl => ?_)
  refine lv_iconst (v := 0) hx hb dX12_workOut_27 (by decide) ?_
  refine lv_istore (lv' := [(4, .int 0), (3, .int 0), (0, .ref (ad 55)), (1, .int (-1)), (2, .int 0)]) hx hb dX12_workOut_28 hl (by decide) rfl (fun ls hl => ?_)
  refine lv_iconst (v := 1) hx hb dX12_workOut_30 (by decide) ?_
  refine lv_istore (lv' := [(5, .int 1), (4, .int 0), (3, .int 0), (0, .ref (ad 55)), (1, .int (-1)), (2, .int 0)]) hx hb dX12_workOut_31 hl (by decide) rfl (fun ls hl => ?_)
  refine lv_iload hx hb dX12_workOut_33 (lv_at hl 0 rfl) ?_
  refine lv_if_eq (tgt := 107) hx hb dX12_workOut_35 (by decide) (fun c => absurd c (by decide)) (fun _ => ?_)
  refine lv_aload_n hx hb dX12_workOut_38 rfl (lv_at hl 3 rfl) ?_
  have m6 : σ5 55 19 = 0 := (by rw [eσ5, jup_k (by decide)]; exact (by rw [eσ4, jup_k (by decide)]; exact (by rw [eσ3, jup_k (by decide)]; exact (by rw [eσ2]; exact jup_s))))
  have m7 : σ5 55 20 = 0 := (by rw [eσ5, jup_k (by decide)]; exact (by rw [eσ4, jup_k (by decide)]; exact (by rw [eσ3]; exact jup_s)))
  have m8 : σ5 55 21 = (-1) := (by rw [eσ5, jup_k (by decide)]; exact (by rw [eσ4]; exact jup_s))
  refine jcallV (As := []) (rest := []) ⟨hx, hb, hml, hown, hts⟩ hK hP hA hS (c_X12_either l D cI cL ad hJ σ5 τ m6 m7 m8) cw_RX12_217 (jc_55 cI cL ad σ5 τ) rfl ⟨Nat.le_of_ble_eq_true rfl, Nat.le_of_ble_eq_true rfl⟩ rfl rfl rfl hl.1 rfl (Nat.le_of_ble_eq_true rfl) dX12_workOut_39 ⟨Nat.zero_le _, Nat.zero_le _⟩ (fun r10 σ9 τ9 H locs h9 hP hS => ?_)
  obtain ⟨f11, f13, m12, h9⟩ := h9
  have h14 := h9
  obtain ⟨q16, k15⟩ := h14
  have q16 := q16.symm
  subst q16
  refine lv_istore (lv' := [(6, .int 0), (5, .int 1), (4, .int 0), (3, .int 0), (0, .ref (ad 55)), (1, .int (-1)), (2, .int 0)]) hx hb dX12_workOut_42 hl (by decide) rfl (fun ls hl => ?_)
  refine lv_iconst (v := 1) hx hb dX12_workOut_44 (by decide) ?_
  refine lv_istore (lv' := [(7, .int 1), (6, .int 0), (5, .int 1), (4, .int 0), (3, .int 0), (0, .ref (ad 55)), (1, .int (-1)), (2, .int 0)]) hx hb dX12_workOut_45 hl (by decide) rfl (fun ls hl => ?_)
  refine lv_aload_n hx hb dX12_workOut_47 rfl (lv_at hl 5 rfl) ?_
  refine lv_bipush (v := 63) hx hb dX12_workOut_48 (by decide) ?_
  refine jcallV (As := [.int 63]) (rest := []) ⟨hx, hb, hml, hown, hts⟩ hK hP hA hS (c_X12_takes l D cI cL ad hJ σ9 τ9 63 (63) jz_63 m12) cw_RX12_196 (jc_55 cI cL ad σ9 τ9) rfl ⟨Nat.le_of_ble_eq_true rfl, Nat.le_of_ble_eq_true rfl⟩ rfl rfl rfl hl.1 rfl (Nat.le_of_ble_eq_true rfl) dX12_workOut_50 ⟨Nat.zero_le _, Nat.zero_le _⟩ (fun r18 σ17 τ17 H locs h17 hP hS => ?_)
  obtain ⟨⟨rfl, rfl⟩, h17⟩ := h17
  have h19 := h17
  obtain ⟨q21, k20⟩ := h19
  have q21 := q21.symm
  subst q21
  refine lv_if_eq (tgt := 74) hx hb dX12_workOut_53 (by decide) (fun _ => ?_) (fun c => absurd (by decide) c)
  refine lv_aload_n hx hb dX12_workOut_74 rfl (lv_at hl 5 rfl) ?_
  refine va_get (D := D) hx hb hts inlX12 hown hK hP 55 (jc_55 cI cL ad σ9 τ9) rfl 21 (by decide) (hts _ kw_15_13) (fun _ h9 => h9) rfl dX12_workOut_75 ?_
  refine jtopr m12 ?_
  refine lv_if_ge (tgt := 96) hx hb dX12_workOut_78 (by decide) (fun _ => ?_) (fun c => absurd (by decide) c)
  refine lv_aload_n hx hb dX12_workOut_96 rfl (lv_at hl 5 rfl) ?_
  refine lv_bipush (v := 59) hx hb dX12_workOut_97 (by decide) ?_
  refine jcallV (As := [.int 59]) (rest := []) ⟨hx, hb, hml, hown, hts⟩ hK hP hA hS (c_X12_takes l D cI cL ad hJ σ9 τ9 59 (59) jz_59 m12) cw_RX12_196 (jc_55 cI cL ad σ9 τ9) rfl ⟨Nat.le_of_ble_eq_true rfl, Nat.le_of_ble_eq_true rfl⟩ rfl rfl rfl hl.1 rfl (Nat.le_of_ble_eq_true rfl) dX12_workOut_99 ⟨Nat.zero_le _, Nat.zero_le _⟩ (fun r23 σ22 τ22 H locs h22 hP hS => ?_)
  obtain ⟨⟨rfl, rfl⟩, h22⟩ := h22
  have h24 := h22
  obtain ⟨q26, k25⟩ := h24
  have q26 := q26.symm
  subst q26
  refine lv_istore (lv' := [(5, .int 0), (7, .int 1), (6, .int 0), (4, .int 0), (3, .int 0), (0, .ref (ad 55)), (1, .int (-1)), (2, .int 0)]) hx hb dX12_workOut_102 hl (by decide) rfl (fun ls hl => ?_)
  refine lv_goto (tgt := 33) hx hb dX12_workOut_104 (by decide) ?_
  refine lv_iload hx hb dX12_workOut_33 (lv_at hl 0 rfl) ?_
  refine lv_if_eq (tgt := 107) hx hb dX12_workOut_35 (by decide) (fun _ => ?_) (fun c => absurd (by decide) c)
  refine lv_aload_n hx hb dX12_workOut_107 rfl (lv_at hl 5 rfl) ?_
  refine va_get (D := D) hx hb hts inlX12 hown hK hP 55 (jc_55 cI cL ad σ9 τ9) rfl 21 (by decide) (hts _ kw_15_13) (fun _ h9 => h9) rfl dX12_workOut_108 ?_
  refine jtopr m12 ?_
  refine lv_if_ge (tgt := 130) hx hb dX12_workOut_111 (by decide) (fun _ => ?_) (fun c => absurd (by decide) c)
  refine lv_iload hx hb dX12_workOut_130 (lv_at hl 3 rfl) ?_
  exact hret 0 σ9 τ9 _ _ _ _ rfl ⟨(fun i hi => by rw [f11 i (by omega), eσ5, jup_n (by omega), eσ4, jup_n (by omega), eσ3, jup_n (by omega), eσ2, jup_n (by omega), eσ1, jup_n (by omega)]), (fun k hk => by rw [f13 k (by omega), eσ5, jup_k (by omega), eσ4, jup_k (by omega), eσ3, jup_k (by omega), eσ2, jup_k (by omega), eσ1, jup_k (by omega)]), m12, trivial⟩ hP hS dX12_workOut_132
set_option maxHeartbeats 4000000 in
set_option maxRecDepth 100000 in
theorem c_X12_text (l : Launch) (D : va_G) (cI cL : ClassId) (ad : Nat → Nat) (hJ : jD ad) (σ : Nat → Nat → Int32) (τ : Nat → Nat → Int64) (a1 : Int32) (A1 : Int) (t1 : a1.toInt = A1) (h55_15 : σ 55 15 = 0) : jM l yX12_text cX12_text 5 (some .int) ({ frames := 8, cells := 0, slots := 0, locals := 184 }) D cI cL ad [.ref (ad 55), .int a1] σ τ (fun r σ' τ' => True ∧ r = (if 0 ≤ A1 ∧ A1 ≤ 1 then -100 else -1)) := by
  refine jM.of hJ (by decide +kernel) (nt := .int) rfl (Nat.le_of_ble_eq_true rfl) ?_
  intro p e s m args below meth c Q ls hC hret hl hP
  obtain ⟨hx, hb, hr, hml, hown, hts, hK, -, hlocks⟩ := hC
  have hown : s.vm.findClass RX12 = some m.cls := hown
  have hS : va_S (jA ad) s.heap s.heap [] := va_S.rf
  have hA : ∀ q, jA ad q → jA ad q := fun _ h => h
  have hl : lv_has ls 5 [(0, .ref (ad 55)), (1, .int a1)] := hl
  have g1 := jrg t1
  refine lv_iload_n hx hb dX12_text_0 rfl (lv_at hl 1 rfl) ?_
  refine lv_i2l (v := a1.toInt64) hx hb dX12_text_1 rfl ?_
  refine lv_lconst (v := 0) hx hb dX12_text_2 (by decide) ?_
  refine lv_lconst (v := 1) hx hb dX12_text_3 (by decide) ?_
  refine jcallS (As := [.long a1.toInt64, .long 0, .long 1]) (rest := []) ⟨hx, hb, hml, hown, hts⟩ hK hP hA hS (c_X12_within l D cI cL ad hJ σ τ a1.toInt64 (A1) (jtoL t1) 0 (0) jzl_0 1 (1) jzl_1) cw_RX12_136 ⟨Nat.le_of_ble_eq_true rfl, Nat.le_of_ble_eq_true rfl⟩ rfl rfl rfl hl.1 rfl (Nat.le_of_ble_eq_true rfl) dX12_text_4 ⟨Nat.zero_le _, Nat.zero_le _⟩ (fun r2 σ1 τ1 H locs h1 hP hS => ?_)
  obtain ⟨⟨rfl, rfl⟩, h1⟩ := h1
  rcases h1 with h3 | h4
  · obtain ⟨q6, k5⟩ := h3
    have q6 := q6.symm
    subst q6
    refine lv_if_ne (tgt := 12) hx hb dX12_text_7 (by decide) (fun _ => ?_) (fun c => absurd c (by decide))
    refine lv_aload_n hx hb dX12_text_12 rfl (lv_at hl 0 rfl) ?_
    refine lv_iconst (v := (-1)) hx hb dX12_text_13 (by decide) ?_
    refine lv_aload_n hx hb dX12_text_14 rfl (lv_at hl 0 rfl) ?_
    refine va_get (D := D) hx hb hts inlX12 hown hK hP 55 (jc_55 cI cL ad σ τ) rfl 15 (by decide) (hts _ kw_13_6) (fun _ h9 => h9) rfl dX12_text_15 ?_
    refine jtopr h55_15 ?_
    refine jcallV (As := [.int (-1), .int 0]) (rest := []) ⟨hx, hb, hml, hown, hts⟩ hK hP hA hS (c_X12_workOut l D cI cL ad hJ σ τ) cw_RX12_224 (jc_55 cI cL ad σ τ) rfl ⟨Nat.le_of_ble_eq_true rfl, Nat.le_of_ble_eq_true rfl⟩ rfl rfl rfl hl.1 rfl (Nat.le_of_ble_eq_true rfl) dX12_text_18 ⟨Nat.zero_le _, Nat.zero_le _⟩ (fun r8 σ7 τ7 H locs h7 hP hS => ?_)
    obtain ⟨f9, f11, m10, h7⟩ := h7
    refine lv_istore_n (lv' := [(2, .int r8), (0, .ref (ad 55)), (1, .int a1)]) hx hb dX12_text_21 rfl hl (by decide) rfl (fun ls hl => ?_)
    refine lv_aload_n hx hb dX12_text_22 rfl (lv_at hl 1 rfl) ?_
    refine va_get (D := D) hx hb hts inlX12 hown hK hP 55 (jc_55 cI cL ad σ7 τ7) rfl 15 (by decide) (hts _ kw_13_6) (fun _ h9 => h9) rfl dX12_text_23 ?_
    have m12 : σ7 55 15 = 0 := (by rw [f11 15 (by omega)]; exact h55_15)
    refine jtopr m12 ?_
    refine lv_istore_n (lv' := [(3, .int 0), (2, .int r8), (0, .ref (ad 55)), (1, .int a1)]) hx hb dX12_text_26 rfl hl (by decide) rfl (fun ls hl => ?_)
    refine lv_aload_n hx hb dX12_text_27 rfl (lv_at hl 2 rfl) ?_
    refine lv_iconst (v := 0) hx hb dX12_text_28 (by decide) ?_
    refine jput (ty := .int) hx hb hts inlX12 tyX12 tyX12_ok nmX12 hown hK hP hJ hA hS (jc_55 cI cL ad σ7 τ7) rfl (k := 15) (by decide) (Nat.le_of_ble_eq_true rfl) (jp_55_15 cI cL ad σ7 τ7 0) (hts _ kw_13_6) (fun _ h9 => h9) rfl (by decide +kernel) rfl rfl dX12_text_29 (fun σ13 H locs eσ13 hP hS => ?_)
    refine lv_aload_n hx hb dX12_text_32 rfl (lv_at hl 2 rfl) ?_
    refine va_get (D := D) hx hb hts inlX12 hown hK hP 55 (jc_55 cI cL ad σ13 τ7) rfl 21 (by decide) (hts _ kw_15_13) (fun _ h9 => h9) rfl dX12_text_33 ?_
    have m14 : σ13 55 21 = 0 := (by rw [eσ13, jup_k (by decide)]; exact m10)
    refine jtopr m14 ?_
    refine lv_if_lt (tgt := 47) hx hb dX12_text_36 (by decide) (fun c => absurd c (by decide)) (fun _ => ?_)
    refine lv_bipush (v := (-100)) hx hb dX12_text_39 (by decide) ?_
    refine lv_aload_n hx hb dX12_text_41 rfl (lv_at hl 2 rfl) ?_
    refine va_get (D := D) hx hb hts inlX12 hown hK hP 55 (jc_55 cI cL ad σ13 τ7) rfl 21 (by decide) (hts _ kw_15_13) (fun _ h9 => h9) rfl dX12_text_42 ?_
    refine jtopr m14 ?_
    refine lv_isub hx hb dX12_text_45 ?_
    refine jtopr (y := (-100)) (by decide) ?_
    exact hret (-100) σ13 τ7 _ _ _ _ rfl ⟨trivial, (by (repeat' split) <;> first | rfl | omega | exact jsame jz_m100 t1 (by omega) | (exfalso; omega))⟩ hP hS dX12_text_46
  · obtain ⟨q16, k15⟩ := h4
    have q16 := q16.symm
    subst q16
    refine lv_if_ne (tgt := 12) hx hb dX12_text_7 (by decide) (fun c => absurd (by decide) c) (fun _ => ?_)
    refine lv_iconst (v := (-1)) hx hb dX12_text_10 (by decide) ?_
    exact hret (-1) σ τ _ _ _ _ rfl ⟨trivial, (by (repeat' split) <;> first | rfl | omega | exact jsame jz_m1 t1 (by omega) | (exfalso; omega))⟩ hP hS dX12_text_11
set_option maxHeartbeats 4000000 in
set_option maxRecDepth 100000 in
theorem c_X12_order (l : Launch) (D : va_G) (cI cL : ClassId) (ad : Nat → Nat) (hJ : jD ad) (σ : Nat → Nat → Int32) (τ : Nat → Nat → Int64) (h55_15 : σ 55 15 = 0) : jM l yX12_order cX12_order 5 (some .int) ({ frames := 1, cells := 0, slots := 0, locals := 21 }) D cI cL ad [.ref (ad 55)] σ τ (fun r σ' τ' => True ∧ r = (-100)) := by
  refine jM.of hJ (by decide +kernel) (nt := .int) rfl (Nat.le_of_ble_eq_true rfl) ?_
  intro p e s m args below meth c Q ls hC hret hl hP
  obtain ⟨hx, hb, hr, hml, hown, hts, hK, -, hlocks⟩ := hC
  have hown : s.vm.findClass RX12 = some m.cls := hown
  have hS : va_S (jA ad) s.heap s.heap [] := va_S.rf
  have hA : ∀ q, jA ad q → jA ad q := fun _ h => h
  have hl : lv_has ls 5 [(0, .ref (ad 55))] := hl
  refine lv_aload_n hx hb dX12_order_0 rfl (lv_at hl 0 rfl) ?_
  refine lv_iconst (v := (-1)) hx hb dX12_order_1 (by decide) ?_
  refine jput (ty := .int) hx hb hts inlX12 tyX12 tyX12_ok nmX12 hown hK hP hJ hA hS (jc_55 cI cL ad σ τ) rfl (k := 18) (by decide) (Nat.le_of_ble_eq_true rfl) (jp_55_18 cI cL ad σ τ (-1)) (hts _ kw_15_10) (fun _ h9 => h9) rfl (by decide +kernel) rfl rfl dX12_order_2 (fun σ1 H locs eσ1 hP hS => ?_)
  refine lv_aload_n hx hb dX12_order_5 rfl (lv_at hl 0 rfl) ?_
  refine lv_iconst (v := 0) hx hb dX12_order_6 (by decide) ?_
  refine jput (ty := .int) hx hb hts inlX12 tyX12 tyX12_ok nmX12 hown hK hP hJ hA hS (jc_55 cI cL ad σ1 τ) rfl (k := 19) (by decide) (Nat.le_of_ble_eq_true rfl) (jp_55_19 cI cL ad σ1 τ 0) (hts _ kw_15_11) (fun _ h9 => h9) rfl (by decide +kernel) rfl rfl dX12_order_7 (fun σ2 H locs eσ2 hP hS => ?_)
  refine lv_aload_n hx hb dX12_order_10 rfl (lv_at hl 0 rfl) ?_
  refine lv_aload_n hx hb dX12_order_11 rfl (lv_at hl 0 rfl) ?_
  refine va_get (D := D) hx hb hts inlX12 hown hK hP 55 (jc_55 cI cL ad σ2 τ) rfl 15 (by decide) (hts _ kw_13_6) (fun _ h9 => h9) rfl dX12_order_12 ?_
  have m3 : σ2 55 15 = 0 := (by rw [eσ2, jup_k (by decide)]; exact (by rw [eσ1, jup_k (by decide)]; exact h55_15))
  refine jtopr m3 ?_
  refine jput (ty := .int) hx hb hts inlX12 tyX12 tyX12_ok nmX12 hown hK hP hJ hA hS (jc_55 cI cL ad σ2 τ) rfl (k := 20) (by decide) (Nat.le_of_ble_eq_true rfl) (jp_55_20 cI cL ad σ2 τ 0) (hts _ kw_15_12) (fun _ h9 => h9) rfl (by decide +kernel) rfl rfl dX12_order_15 (fun σ4 H locs eσ4 hP hS => ?_)
  refine lv_aload_n hx hb dX12_order_18 rfl (lv_at hl 0 rfl) ?_
  refine lv_iconst (v := (-1)) hx hb dX12_order_19 (by decide) ?_
  refine jput (ty := .int) hx hb hts inlX12 tyX12 tyX12_ok nmX12 hown hK hP hJ hA hS (jc_55 cI cL ad σ4 τ) rfl (k := 21) (by decide) (Nat.le_of_ble_eq_true rfl) (jp_55_21 cI cL ad σ4 τ (-1)) (hts _ kw_15_13) (fun _ h9 => h9) rfl (by decide +kernel) rfl rfl dX12_order_20 (fun σ5 H locs eσ5 hP hS => ?_)
  refine lv_iconst (v := 0) hx hb dX12_order_23 (by decide) ?_
  refine lv_istore_n (lv' := [(1, .int 0), (0, .ref (ad 55))]) hx hb dX12_order_24 rfl hl (by decide) rfl (fun ls hl => ?_)
  refine lv_iload_n hx hb dX12_order_25 rfl (lv_at hl 0 rfl) ?_
  refine lv_bipush (v := 8) hx hb dX12_order_26 (by decide) ?_
  refine lv_icmp_ge (tgt := 78) hx hb dX12_order_28 (by decide) (fun c => absurd c (by decide)) (fun _ => ?_)
  refine lv_aload_n hx hb dX12_order_31 rfl (lv_at hl 1 rfl) ?_
  have m6 : σ5 55 19 = 0 := (by rw [eσ5, jup_k (by decide)]; exact (by rw [eσ4, jup_k (by decide)]; exact (by rw [eσ2]; exact jup_s)))
  have m7 : σ5 55 20 = 0 := (by rw [eσ5, jup_k (by decide)]; exact (by rw [eσ4]; exact jup_s))
  refine jcallV (As := []) (rest := []) ⟨hx, hb, hml, hown, hts⟩ hK hP hA hS (c_X12_byteAt l D cI cL ad hJ σ5 τ m6 m7) cw_RX12_189 (jc_55 cI cL ad σ5 τ) rfl ⟨Nat.le_of_ble_eq_true rfl, Nat.le_of_ble_eq_true rfl⟩ rfl rfl rfl hl.1 rfl (Nat.le_of_ble_eq_true rfl) dX12_order_32 ⟨Nat.zero_le _, Nat.zero_le _⟩ (fun r9 σ8 τ8 H locs h8 hP hS => ?_)
  obtain ⟨⟨rfl, rfl⟩, h8⟩ := h8
  have h10 := h8
  obtain ⟨q12, k11⟩ := h10
  have q12 := q12.symm
  subst q12
  refine lv_bipush (v := 48) hx hb dX12_order_35 (by decide) ?_
  refine lv_icmp_lt (tgt := 78) hx hb dX12_order_37 (by decide) (fun _ => ?_) (fun c => absurd (by decide) c)
  refine lv_iload_n hx hb dX12_order_78 rfl (lv_at hl 0 rfl) ?_
  refine lv_if_ne (tgt := 87) hx hb dX12_order_79 (by decide) (fun c => absurd (by decide) c) (fun _ => ?_)
  refine lv_aload_n hx hb dX12_order_82 rfl (lv_at hl 1 rfl) ?_
  have m13 : σ5 55 21 = (-1) := (by rw [eσ5]; exact jup_s)
  refine jcallV (As := []) (rest := []) ⟨hx, hb, hml, hown, hts⟩ hK hP hA hS (c_X12_wrong l D cI cL ad hJ σ5 τ m6 m13) cw_RX12_214 (jc_55 cI cL ad σ5 τ) rfl ⟨Nat.le_of_ble_eq_true rfl, Nat.le_of_ble_eq_true rfl⟩ rfl rfl rfl hl.1 rfl (Nat.le_of_ble_eq_true rfl) dX12_order_83 ⟨Nat.zero_le _, Nat.zero_le _⟩ (fun r15 σ14 τ14 H locs h14 hP hS => ?_)
  obtain ⟨f16, f18, m17, h14⟩ := h14
  have h19 := h14
  obtain ⟨q21, k20⟩ := h19
  have q21 := q21.symm
  subst q21
  refine lv_istore_n (lv' := [(2, .int 0), (1, .int 0), (0, .ref (ad 55))]) hx hb dX12_order_86 rfl hl (by decide) rfl (fun ls hl => ?_)
  refine lv_aload_n hx hb dX12_order_87 rfl (lv_at hl 2 rfl) ?_
  refine lv_bipush (v := 58) hx hb dX12_order_88 (by decide) ?_
  refine jcallV (As := [.int 58]) (rest := []) ⟨hx, hb, hml, hown, hts⟩ hK hP hA hS (c_X12_takes l D cI cL ad hJ σ14 τ14 58 (58) jz_58 m17) cw_RX12_196 (jc_55 cI cL ad σ14 τ14) rfl ⟨Nat.le_of_ble_eq_true rfl, Nat.le_of_ble_eq_true rfl⟩ rfl rfl rfl hl.1 rfl (Nat.le_of_ble_eq_true rfl) dX12_order_90 ⟨Nat.zero_le _, Nat.zero_le _⟩ (fun r23 σ22 τ22 H locs h22 hP hS => ?_)
  obtain ⟨⟨rfl, rfl⟩, h22⟩ := h22
  have h24 := h22
  obtain ⟨q26, k25⟩ := h24
  have q26 := q26.symm
  subst q26
  refine lv_if_eq (tgt := 107) hx hb dX12_order_93 (by decide) (fun _ => ?_) (fun c => absurd (by decide) c)
  refine lv_bipush (v := 8) hx hb dX12_order_107 (by decide) ?_
  refine lv_istore_n (lv' := [(2, .int 8), (1, .int 0), (0, .ref (ad 55))]) hx hb dX12_order_109 rfl hl (by decide) rfl (fun ls hl => ?_)
  refine lv_aload_n hx hb dX12_order_110 rfl (lv_at hl 2 rfl) ?_
  refine lv_bipush (v := 114) hx hb dX12_order_111 (by decide) ?_
  refine jcallV (As := [.int 114]) (rest := []) ⟨hx, hb, hml, hown, hts⟩ hK hP hA hS (c_X12_takes l D cI cL ad hJ σ14 τ14 114 (114) jz_114 m17) cw_RX12_196 (jc_55 cI cL ad σ14 τ14) rfl ⟨Nat.le_of_ble_eq_true rfl, Nat.le_of_ble_eq_true rfl⟩ rfl rfl rfl hl.1 rfl (Nat.le_of_ble_eq_true rfl) dX12_order_113 ⟨Nat.zero_le _, Nat.zero_le _⟩ (fun r28 σ27 τ27 H locs h27 hP hS => ?_)
  obtain ⟨⟨rfl, rfl⟩, h27⟩ := h27
  have h29 := h27
  obtain ⟨q31, k30⟩ := h29
  have q31 := q31.symm
  subst q31
  refine lv_if_eq (tgt := 131) hx hb dX12_order_116 (by decide) (fun _ => ?_) (fun c => absurd (by decide) c)
  refine lv_iconst (v := 0) hx hb dX12_order_131 (by decide) ?_
  refine lv_istore_n (lv' := [(3, .int 0), (2, .int 8), (1, .int 0), (0, .ref (ad 55))]) hx hb dX12_order_132 rfl hl (by decide) rfl (fun ls hl => ?_)
  refine lv_aload_n hx hb dX12_order_133 rfl (lv_at hl 3 rfl) ?_
  refine va_get (D := D) hx hb hts inlX12 hown hK hP 55 (jc_55 cI cL ad σ14 τ14) rfl 21 (by decide) (hts _ kw_15_13) (fun _ h9 => h9) rfl dX12_order_134 ?_
  refine jtopr m17 ?_
  refine lv_if_ge (tgt := 157) hx hb dX12_order_137 (by decide) (fun _ => ?_) (fun c => absurd (by decide) c)
  refine lv_aload_n hx hb dX12_order_157 rfl (lv_at hl 3 rfl) ?_
  refine lv_iconst (v := 0) hx hb dX12_order_158 (by decide) ?_
  refine jput (ty := .int) hx hb hts inlX12 tyX12 tyX12_ok nmX12 hown hK hP hJ hA hS (jc_55 cI cL ad σ14 τ14) rfl (k := 15) (by decide) (Nat.le_of_ble_eq_true rfl) (jp_55_15 cI cL ad σ14 τ14 0) (hts _ kw_13_6) (fun _ h9 => h9) rfl (by decide +kernel) rfl rfl dX12_order_159 (fun σ32 H locs eσ32 hP hS => ?_)
  refine lv_aload_n hx hb dX12_order_162 rfl (lv_at hl 3 rfl) ?_
  refine va_get (D := D) hx hb hts inlX12 hown hK hP 55 (jc_55 cI cL ad σ32 τ14) rfl 21 (by decide) (hts _ kw_15_13) (fun _ h9 => h9) rfl dX12_order_163 ?_
  have m33 : σ32 55 21 = 0 := (by rw [eσ32, jup_k (by decide)]; exact m17)
  refine jtopr m33 ?_
  refine lv_if_lt (tgt := 177) hx hb dX12_order_166 (by decide) (fun c => absurd c (by decide)) (fun _ => ?_)
  refine lv_bipush (v := (-100)) hx hb dX12_order_169 (by decide) ?_
  refine lv_aload_n hx hb dX12_order_171 rfl (lv_at hl 3 rfl) ?_
  refine va_get (D := D) hx hb hts inlX12 hown hK hP 55 (jc_55 cI cL ad σ32 τ14) rfl 21 (by decide) (hts _ kw_15_13) (fun _ h9 => h9) rfl dX12_order_172 ?_
  refine jtopr m33 ?_
  refine lv_isub hx hb dX12_order_175 ?_
  refine jtopr (y := (-100)) (by decide) ?_
  exact hret (-100) σ32 τ14 _ _ _ _ rfl ⟨trivial, (by (repeat' split) <;> first | rfl | omega | (exfalso; omega))⟩ hP hS dX12_order_176
set_option maxHeartbeats 4000000 in
set_option maxRecDepth 100000 in
theorem c_X12_of (l : Launch) (D : va_G) (cI cL : ClassId) (ad : Nat → Nat) (hJ : jD ad) (σ : Nat → Nat → Int32) (τ : Nat → Nat → Int64) (a1 : Int32) (A1 : Int) (t1 : a1.toInt = A1) (h55_10 : σ 55 10 = 1) (h55_12 : σ 55 12 = 8) (h55_13 : σ 55 13 = 0) (ha62 : ∀ k : Nat, σ 62 k = 0) : jM l yX12_of cX12_of 2 (some .int) ({ frames := 1, cells := 0, slots := 0, locals := 25 }) D cI cL ad [.ref (ad 55), .int a1] σ τ (fun r σ' τ' => True ∧ r = (if A1 = 0 then 1 else if A1 = 1 then 8 else if A1 = 2 then 0 else if A1 = 10 then 0 else -1)) := by
  refine jM.of hJ (by decide +kernel) (nt := .int) rfl (Nat.le_of_ble_eq_true rfl) ?_
  intro p e s m args below meth c Q ls hC hret hl hP
  obtain ⟨hx, hb, hr, hml, hown, hts, hK, -, hlocks⟩ := hC
  have hown : s.vm.findClass RX12 = some m.cls := hown
  have hS : va_S (jA ad) s.heap s.heap [] := va_S.rf
  have hA : ∀ q, jA ad q → jA ad q := fun _ h => h
  have hl : lv_has ls 2 [(0, .ref (ad 55)), (1, .int a1)] := hl
  have g1 := jrg t1
  refine lv_iload_n hx hb dX12_of_0 rfl (lv_at hl 1 rfl) ?_
  refine lv_bipush (v := 10) hx hb dX12_of_1 (by decide) ?_
  refine lv_isub hx hb dX12_of_3 ?_
  refine lv_topi (fun x1 ex1 => ?_)
  have gx1 := jrg (rfl : x1.toInt = x1.toInt)
  have g2 := jsubw ex1 t1 jz_10
  refine lv_i2l (v := x1.toInt64) hx hb dX12_of_4 rfl ?_
  refine lv_lconst (v := 0) hx hb dX12_of_5 (by decide) ?_
  refine lv_aload_n hx hb dX12_of_6 rfl (lv_at hl 0 rfl) ?_
  refine va_get (D := D) hx hb hts inlX12 hown hK hP 55 (jc_55 cI cL ad σ τ) rfl 10 (by decide) (hts _ kw_8_15) (fun _ h9 => h9) rfl dX12_of_7 ?_
  refine jtopr h55_10 ?_
  refine lv_iconst (v := 1) hx hb dX12_of_10 (by decide) ?_
  refine lv_isub hx hb dX12_of_11 ?_
  refine jtopr (y := 0) (by decide) ?_
  refine lv_i2l (v := 0) hx hb dX12_of_12 (by decide) ?_
  refine jcallS (As := [.long x1.toInt64, .long 0, .long 0]) (rest := []) ⟨hx, hb, hml, hown, hts⟩ hK hP hA hS (c_X12_within l D cI cL ad hJ σ τ x1.toInt64 (x1.toInt) (jtoL rfl) 0 (0) jzl_0 0 (0) jzl_0) cw_RX12_136 ⟨Nat.le_of_ble_eq_true rfl, Nat.le_of_ble_eq_true rfl⟩ rfl rfl rfl hl.1 rfl (Nat.le_of_ble_eq_true rfl) dX12_of_13 ⟨Nat.zero_le _, Nat.zero_le _⟩ (fun r4 σ3 τ3 H locs h3 hP hS => ?_)
  obtain ⟨⟨rfl, rfl⟩, h3⟩ := h3
  rcases h3 with h5 | h6
  · obtain ⟨q8, k7⟩ := h5
    have q8 := q8.symm
    subst q8
    refine lv_if_eq (tgt := 29) hx hb dX12_of_16 (by decide) (fun c => absurd c (by decide)) (fun _ => ?_)
    refine lv_aload_n hx hb dX12_of_19 rfl (lv_at hl 0 rfl) ?_
    refine va_get (D := D) hx hb hts inlX12 hown hK hP 55 (jc_55 cI cL ad σ τ) rfl 11 (by decide) (hts _ kw_7_8) (fun _ h9 => h9) rfl dX12_of_20 ?_
    refine lv_iload_n hx hb dX12_of_23 rfl (lv_at hl 1 rfl) ?_
    refine lv_bipush (v := 10) hx hb dX12_of_24 (by decide) ?_
    refine lv_isub hx hb dX12_of_26 ?_
    refine lv_topi (fun x9 ex9 => ?_)
    have tx9 : x9.toInt = A1 - 10 := (jsub ex9 t1 jz_10 (by omega) (by omega)).trans (by omega)
    refine jald hx hb hK hP (jc_62 cI cL ad σ τ) (jin tx9 (by omega) (by omega)) dX12_of_27 ?_
    refine jtopr (ha62 _) ?_
    exact hret 0 σ τ _ _ _ _ rfl ⟨trivial, (by (repeat' split) <;> first | rfl | omega | exact jsame jz_0 t1 (by omega) | (exfalso; omega))⟩ hP hS dX12_of_28
  · obtain ⟨q11, k10⟩ := h6
    have q11 := q11.symm
    subst q11
    refine lv_if_eq (tgt := 29) hx hb dX12_of_16 (by decide) (fun _ => ?_) (fun c => absurd (by decide) c)
    refine lv_iload_n hx hb dX12_of_29 rfl (lv_at hl 1 rfl) ?_
    by_cases c12 : a1 = 0
    · have kc12 := jeq c12 t1 jz_0
      refine jtopr c12 ?_
      refine lv_tableIn (off := 26) (tgt := 56) hx hb dX12_of_30 (by decide) (by decide) (by decide) (by decide) ?_
      refine lv_aload_n hx hb dX12_of_56 rfl (lv_at hl 0 rfl) ?_
      refine va_get (D := D) hx hb hts inlX12 hown hK hP 55 (jc_55 cI cL ad σ τ) rfl 10 (by decide) (hts _ kw_8_15) (fun _ h9 => h9) rfl dX12_of_57 ?_
      refine jtopr h55_10 ?_
      exact hret 1 σ τ _ _ _ _ rfl ⟨trivial, (by (repeat' split) <;> first | rfl | omega | exact jsame jz_1 t1 (by omega) | (exfalso; omega))⟩ hP hS dX12_of_60
    have kc12 := jne c12 t1 jz_0
    by_cases c13 : a1 = 1
    · have kc13 := jeq c13 t1 jz_1
      refine jtopr c13 ?_
      refine lv_tableIn (off := 31) (tgt := 61) hx hb dX12_of_30 (by decide) (by decide) (by decide) (by decide) ?_
      refine lv_aload_n hx hb dX12_of_61 rfl (lv_at hl 0 rfl) ?_
      refine va_get (D := D) hx hb hts inlX12 hown hK hP 55 (jc_55 cI cL ad σ τ) rfl 12 (by decide) (hts _ kw_8_16) (fun _ h9 => h9) rfl dX12_of_62 ?_
      refine jtopr h55_12 ?_
      exact hret 8 σ τ _ _ _ _ rfl ⟨trivial, (by (repeat' split) <;> first | rfl | omega | exact jsame jz_8 t1 (by omega) | (exfalso; omega))⟩ hP hS dX12_of_65
    have kc13 := jne c13 t1 jz_1
    by_cases c14 : a1 = 2
    · have kc14 := jeq c14 t1 jz_2
      refine jtopr c14 ?_
      refine lv_tableIn (off := 36) (tgt := 66) hx hb dX12_of_30 (by decide) (by decide) (by decide) (by decide) ?_
      refine lv_aload_n hx hb dX12_of_66 rfl (lv_at hl 0 rfl) ?_
      refine va_get (D := D) hx hb hts inlX12 hown hK hP 55 (jc_55 cI cL ad σ τ) rfl 13 (by decide) (hts _ kw_15_14) (fun _ h9 => h9) rfl dX12_of_67 ?_
      refine jtopr h55_13 ?_
      exact hret 0 σ τ _ _ _ _ rfl ⟨trivial, (by (repeat' split) <;> first | rfl | omega | exact jsame jz_0 t1 (by omega) | (exfalso; omega))⟩ hP hS dX12_of_70
    have kc14 := jne c14 t1 jz_2
    refine lv_tableOut (tgt := 71) hx hb dX12_of_30 (by rw [t1]; omega) (by decide) ?_
    refine lv_iconst (v := (-1)) hx hb dX12_of_71 (by decide) ?_
    exact hret (-1) σ τ _ _ _ _ rfl ⟨trivial, (by (repeat' split) <;> first | rfl | omega | exact jsame jz_m1 t1 (by omega) | (exfalso; omega))⟩ hP hS dX12_of_72
set_option maxHeartbeats 4000000 in
set_option maxRecDepth 100000 in
theorem c_X12_over (l : Launch) (D : va_G) (cI cL : ClassId) (ad : Nat → Nat) (hJ : jD ad) (σ : Nat → Nat → Int32) (τ : Nat → Nat → Int64) (a1 : Int32) (A1 : Int) (t1 : a1.toInt = A1) (a2 : Int32) (A2 : Int) (t2 : a2.toInt = A2) (a3 : Int32) (A3 : Int) (t3 : a3.toInt = A3) (h55_6 : σ 55 6 = 0) : jM l yX12_over cX12_over 6 (some .int) ({ frames := 2, cells := 0, slots := 0, locals := 46 }) D cI cL ad [.ref (ad 55), .int a1, .int a2, .int a3] σ τ (fun r σ' τ' => True ∧ r = (-1)) := by
  refine jM.of hJ (by decide +kernel) (nt := .int) rfl (Nat.le_of_ble_eq_true rfl) ?_
  intro p e s m args below meth c Q ls hC hret hl hP
  obtain ⟨hx, hb, hr, hml, hown, hts, hK, -, hlocks⟩ := hC
  have hown : s.vm.findClass RX12 = some m.cls := hown
  have hS : va_S (jA ad) s.heap s.heap [] := va_S.rf
  have hA : ∀ q, jA ad q → jA ad q := fun _ h => h
  have hl : lv_has ls 6 [(0, .ref (ad 55)), (1, .int a1), (2, .int a2), (3, .int a3)] := hl
  have g1 := jrg t1
  have g2 := jrg t2
  have g3 := jrg t3
  refine lv_iload_n hx hb dX12_over_0 rfl (lv_at hl 1 rfl) ?_
  refine lv_if_lt (tgt := 70) hx hb dX12_over_1 (by decide) (fun c1 => ?_) (fun c1 => ?_)
  · have kc1 := jlt c1 t1 jz_0
    refine lv_iconst (v := 0) hx hb dX12_over_70 (by decide) ?_
    refine lv_istore (lv' := [(4, .int 0), (0, .ref (ad 55)), (1, .int a1), (2, .int a2), (3, .int a3)]) hx hb dX12_over_71 hl (by decide) rfl (fun ls hl => ?_)
    refine lv_iload hx hb dX12_over_73 (lv_at hl 0 rfl) ?_
    refine lv_if_ne (tgt := 80) hx hb dX12_over_75 (by decide) (fun c => absurd (by decide) c) (fun _ => ?_)
    refine lv_iconst (v := (-1)) hx hb dX12_over_78 (by decide) ?_
    exact hret (-1) σ τ _ _ _ _ rfl ⟨trivial, (by (repeat' split) <;> first | rfl | omega | exact jsame jz_m1 t1 (by omega) | exact jsame jz_m1 t2 (by omega) | exact jsame jz_m1 t3 (by omega) | (exfalso; omega))⟩ hP hS dX12_over_79
  · have kc1 := jnlt c1 t1 jz_0
    refine lv_aload_n hx hb dX12_over_4 rfl (lv_at hl 0 rfl) ?_
    refine lv_iload_n hx hb dX12_over_5 rfl (lv_at hl 1 rfl) ?_
    refine lv_bipush (v := 100) hx hb dX12_over_6 (by decide) ?_
    refine lv_idiv hx hb dX12_over_8 (by decide) ?_
    refine lv_topi (fun x2 ex2 => ?_)
    have tx2 : x2.toInt = (A1 / 100) := jdiv ex2 t1 jz_100 (by omega) (by omega)
    refine jcallV (As := [.int x2]) (rest := []) ⟨hx, hb, hml, hown, hts⟩ hK hP hA hS (c_X12_isBowler l D cI cL ad hJ σ τ x2 ((A1 / 100)) tx2 h55_6) cw_RX12_146 (jc_55 cI cL ad σ τ) rfl ⟨Nat.le_of_ble_eq_true rfl, Nat.le_of_ble_eq_true rfl⟩ rfl rfl rfl hl.1 rfl (Nat.le_of_ble_eq_true rfl) dX12_over_9 ⟨Nat.zero_le _, Nat.zero_le _⟩ (fun r4 σ3 τ3 H locs h3 hP hS => ?_)
    obtain ⟨⟨rfl, rfl⟩, h3⟩ := h3
    have h5 := h3
    obtain ⟨q7, k6⟩ := h5
    have q7 := q7.symm
    subst q7
    refine lv_if_eq (tgt := 70) hx hb dX12_over_12 (by decide) (fun _ => ?_) (fun c => absurd (by decide) c)
    refine lv_iconst (v := 0) hx hb dX12_over_70 (by decide) ?_
    refine lv_istore (lv' := [(4, .int 0), (0, .ref (ad 55)), (1, .int a1), (2, .int a2), (3, .int a3)]) hx hb dX12_over_71 hl (by decide) rfl (fun ls hl => ?_)
    refine lv_iload hx hb dX12_over_73 (lv_at hl 0 rfl) ?_
    refine lv_if_ne (tgt := 80) hx hb dX12_over_75 (by decide) (fun c => absurd (by decide) c) (fun _ => ?_)
    refine lv_iconst (v := (-1)) hx hb dX12_over_78 (by decide) ?_
    exact hret (-1) σ τ _ _ _ _ rfl ⟨trivial, (by (repeat' split) <;> first | rfl | omega | exact jsame jz_m1 t1 (by omega) | exact jsame jz_m1 t2 (by omega) | exact jsame jz_m1 t3 (by omega) | (exfalso; omega))⟩ hP hS dX12_over_79
set_option maxHeartbeats 4000000 in
set_option maxRecDepth 100000 in
theorem c_X12_puts (l : Launch) (D : va_G) (cI cL : ClassId) (ad : Nat → Nat) (hJ : jD ad) (σ : Nat → Nat → Int32) (τ : Nat → Nat → Int64) (a1 : Int32) (A1 : Int) (t1 : a1.toInt = A1) (h55_32 : σ 55 32 = 0) : jM l yX12_puts cX12_puts 2 (some .int) ({ frames := 2, cells := 0, slots := 0, locals := 46 }) D cI cL ad [.ref (ad 55), .int a1] σ τ (fun r σ' τ' => True ∧ r = (-1)) := by
  refine jM.of hJ (by decide +kernel) (nt := .int) rfl (Nat.le_of_ble_eq_true rfl) ?_
  intro p e s m args below meth c Q ls hC hret hl hP
  obtain ⟨hx, hb, hr, hml, hown, hts, hK, -, hlocks⟩ := hC
  have hown : s.vm.findClass RX12 = some m.cls := hown
  have hS : va_S (jA ad) s.heap s.heap [] := va_S.rf
  have hA : ∀ q, jA ad q → jA ad q := fun _ h => h
  have hl : lv_has ls 2 [(0, .ref (ad 55)), (1, .int a1)] := hl
  have g1 := jrg t1
  refine lv_aload_n hx hb dX12_puts_0 rfl (lv_at hl 0 rfl) ?_
  refine lv_iload_n hx hb dX12_puts_1 rfl (lv_at hl 1 rfl) ?_
  refine jcallV (As := [.int a1]) (rest := []) ⟨hx, hb, hml, hown, hts⟩ hK hP hA hS (c_X12_isRule l D cI cL ad hJ σ τ a1 (A1) t1 h55_32) cw_RX12_331 (jc_55 cI cL ad σ τ) rfl ⟨Nat.le_of_ble_eq_true rfl, Nat.le_of_ble_eq_true rfl⟩ rfl rfl rfl hl.1 rfl (Nat.le_of_ble_eq_true rfl) dX12_puts_2 ⟨Nat.zero_le _, Nat.zero_le _⟩ (fun r2 σ1 τ1 H locs h1 hP hS => ?_)
  obtain ⟨⟨rfl, rfl⟩, h1⟩ := h1
  have h3 := h1
  obtain ⟨q5, k4⟩ := h3
  have q5 := q5.symm
  subst q5
  refine lv_if_ne (tgt := 10) hx hb dX12_puts_5 (by decide) (fun c => absurd (by decide) c) (fun _ => ?_)
  refine lv_iconst (v := (-1)) hx hb dX12_puts_8 (by decide) ?_
  exact hret (-1) σ τ _ _ _ _ rfl ⟨trivial, (by (repeat' split) <;> first | rfl | omega | exact jsame jz_m1 t1 (by omega) | (exfalso; omega))⟩ hP hS dX12_puts_9
set_option maxHeartbeats 4000000 in
set_option maxRecDepth 100000 in
theorem c_X12_mean (l : Launch) (D : va_G) (cI cL : ClassId) (ad : Nat → Nat) (hJ : jD ad) (σ : Nat → Nat → Int32) (τ : Nat → Nat → Int64) (a1 : Int32) (A1 : Int) (t1 : a1.toInt = A1) (h55_32 : σ 55 32 = 0) : jM l yX12_mean cX12_mean 2 (some .int) ({ frames := 2, cells := 0, slots := 0, locals := 46 }) D cI cL ad [.ref (ad 55), .int a1] σ τ (fun r σ' τ' => True ∧ r = (-1)) := by
  refine jM.of hJ (by decide +kernel) (nt := .int) rfl (Nat.le_of_ble_eq_true rfl) ?_
  intro p e s m args below meth c Q ls hC hret hl hP
  obtain ⟨hx, hb, hr, hml, hown, hts, hK, -, hlocks⟩ := hC
  have hown : s.vm.findClass RX12 = some m.cls := hown
  have hS : va_S (jA ad) s.heap s.heap [] := va_S.rf
  have hA : ∀ q, jA ad q → jA ad q := fun _ h => h
  have hl : lv_has ls 2 [(0, .ref (ad 55)), (1, .int a1)] := hl
  have g1 := jrg t1
  refine lv_aload_n hx hb dX12_mean_0 rfl (lv_at hl 0 rfl) ?_
  refine lv_iload_n hx hb dX12_mean_1 rfl (lv_at hl 1 rfl) ?_
  refine jcallV (As := [.int a1]) (rest := []) ⟨hx, hb, hml, hown, hts⟩ hK hP hA hS (c_X12_isRule l D cI cL ad hJ σ τ a1 (A1) t1 h55_32) cw_RX12_331 (jc_55 cI cL ad σ τ) rfl ⟨Nat.le_of_ble_eq_true rfl, Nat.le_of_ble_eq_true rfl⟩ rfl rfl rfl hl.1 rfl (Nat.le_of_ble_eq_true rfl) dX12_mean_2 ⟨Nat.zero_le _, Nat.zero_le _⟩ (fun r2 σ1 τ1 H locs h1 hP hS => ?_)
  obtain ⟨⟨rfl, rfl⟩, h1⟩ := h1
  have h3 := h1
  obtain ⟨q5, k4⟩ := h3
  have q5 := q5.symm
  subst q5
  refine lv_if_ne (tgt := 10) hx hb dX12_mean_5 (by decide) (fun c => absurd (by decide) c) (fun _ => ?_)
  refine lv_iconst (v := (-1)) hx hb dX12_mean_8 (by decide) ?_
  exact hret (-1) σ τ _ _ _ _ rfl ⟨trivial, (by (repeat' split) <;> first | rfl | omega | exact jsame jz_m1 t1 (by omega) | (exfalso; omega))⟩ hP hS dX12_mean_9
set_option maxHeartbeats 4000000 in
set_option maxRecDepth 100000 in
theorem c_X12_game (l : Launch) (D : va_G) (cI cL : ClassId) (ad : Nat → Nat) (hJ : jD ad) (σ : Nat → Nat → Int32) (τ : Nat → Nat → Int64) (a1 : Int32) (A1 : Int) (t1 : a1.toInt = A1) (a2 : Int32) (A2 : Int) (t2 : a2.toInt = A2) (h55_32 : σ 55 32 = 0) : jM l yX12_game cX12_game 10 (some .int) ({ frames := 2, cells := 0, slots := 0, locals := 46 }) D cI cL ad [.ref (ad 55), .int a1, .int a2] σ τ (fun r σ' τ' => True ∧ r = (-1)) := by
  refine jM.of hJ (by decide +kernel) (nt := .int) rfl (Nat.le_of_ble_eq_true rfl) ?_
  intro p e s m args below meth c Q ls hC hret hl hP
  obtain ⟨hx, hb, hr, hml, hown, hts, hK, -, hlocks⟩ := hC
  have hown : s.vm.findClass RX12 = some m.cls := hown
  have hS : va_S (jA ad) s.heap s.heap [] := va_S.rf
  have hA : ∀ q, jA ad q → jA ad q := fun _ h => h
  have hl : lv_has ls 10 [(0, .ref (ad 55)), (1, .int a1), (2, .int a2)] := hl
  have g1 := jrg t1
  have g2 := jrg t2
  refine lv_aload_n hx hb dX12_game_0 rfl (lv_at hl 0 rfl) ?_
  refine lv_iload_n hx hb dX12_game_1 rfl (lv_at hl 1 rfl) ?_
  refine jcallV (As := [.int a1]) (rest := []) ⟨hx, hb, hml, hown, hts⟩ hK hP hA hS (c_X12_isRule l D cI cL ad hJ σ τ a1 (A1) t1 h55_32) cw_RX12_331 (jc_55 cI cL ad σ τ) rfl ⟨Nat.le_of_ble_eq_true rfl, Nat.le_of_ble_eq_true rfl⟩ rfl rfl rfl hl.1 rfl (Nat.le_of_ble_eq_true rfl) dX12_game_2 ⟨Nat.zero_le _, Nat.zero_le _⟩ (fun r2 σ1 τ1 H locs h1 hP hS => ?_)
  obtain ⟨⟨rfl, rfl⟩, h1⟩ := h1
  have h3 := h1
  obtain ⟨q5, k4⟩ := h3
  have q5 := q5.symm
  subst q5
  refine lv_if_ne (tgt := 10) hx hb dX12_game_5 (by decide) (fun c => absurd (by decide) c) (fun _ => ?_)
  refine lv_iconst (v := (-1)) hx hb dX12_game_8 (by decide) ?_
  exact hret (-1) σ τ _ _ _ _ rfl ⟨trivial, (by (repeat' split) <;> first | rfl | omega | exact jsame jz_m1 t1 (by omega) | exact jsame jz_m1 t2 (by omega) | (exfalso; omega))⟩ hP hS dX12_game_9
set_option maxHeartbeats 4000000 in
set_option maxRecDepth 100000 in
theorem c_X12_likely (l : Launch) (D : va_G) (cI cL : ClassId) (ad : Nat → Nat) (hJ : jD ad) (σ : Nat → Nat → Int32) (τ : Nat → Nat → Int64) (a1 : Int32) (A1 : Int) (t1 : a1.toInt = A1) (a2 : Int32) (A2 : Int) (t2 : a2.toInt = A2) (h55_32 : σ 55 32 = 0) : jM l yX12_likely cX12_likely 3 (some .int) ({ frames := 2, cells := 0, slots := 0, locals := 46 }) D cI cL ad [.ref (ad 55), .int a1, .int a2] σ τ (fun r σ' τ' => True ∧ r = (-1)) := by
  refine jM.of hJ (by decide +kernel) (nt := .int) rfl (Nat.le_of_ble_eq_true rfl) ?_
  intro p e s m args below meth c Q ls hC hret hl hP
  obtain ⟨hx, hb, hr, hml, hown, hts, hK, -, hlocks⟩ := hC
  have hown : s.vm.findClass RX12 = some m.cls := hown
  have hS : va_S (jA ad) s.heap s.heap [] := va_S.rf
  have hA : ∀ q, jA ad q → jA ad q := fun _ h => h
  have hl : lv_has ls 3 [(0, .ref (ad 55)), (1, .int a1), (2, .int a2)] := hl
  have g1 := jrg t1
  have g2 := jrg t2
  refine lv_aload_n hx hb dX12_likely_0 rfl (lv_at hl 0 rfl) ?_
  refine lv_iload_n hx hb dX12_likely_1 rfl (lv_at hl 1 rfl) ?_
  refine jcallV (As := [.int a1]) (rest := []) ⟨hx, hb, hml, hown, hts⟩ hK hP hA hS (c_X12_isRule l D cI cL ad hJ σ τ a1 (A1) t1 h55_32) cw_RX12_331 (jc_55 cI cL ad σ τ) rfl ⟨Nat.le_of_ble_eq_true rfl, Nat.le_of_ble_eq_true rfl⟩ rfl rfl rfl hl.1 rfl (Nat.le_of_ble_eq_true rfl) dX12_likely_2 ⟨Nat.zero_le _, Nat.zero_le _⟩ (fun r2 σ1 τ1 H locs h1 hP hS => ?_)
  obtain ⟨⟨rfl, rfl⟩, h1⟩ := h1
  have h3 := h1
  obtain ⟨q5, k4⟩ := h3
  have q5 := q5.symm
  subst q5
  refine lv_if_eq (tgt := 20) hx hb dX12_likely_5 (by decide) (fun _ => ?_) (fun c => absurd (by decide) c)
  refine lv_iconst (v := (-1)) hx hb dX12_likely_20 (by decide) ?_
  exact hret (-1) σ τ _ _ _ _ rfl ⟨trivial, (by (repeat' split) <;> first | rfl | omega | exact jsame jz_m1 t1 (by omega) | exact jsame jz_m1 t2 (by omega) | (exfalso; omega))⟩ hP hS dX12_likely_21
set_option maxHeartbeats 4000000 in
set_option maxRecDepth 100000 in
theorem c_X12_begin (l : Launch) (D : va_G) (cI cL : ClassId) (ad : Nat → Nat) (hJ : jD ad) (σ : Nat → Nat → Int32) (τ : Nat → Nat → Int64) : jMv l yX12_begin cX12_begin 2 none ({ frames := 0, cells := 0, slots := 0, locals := 0 }) D cI cL ad [.ref (ad 55)] σ τ (fun σ' τ' => (∀ i : Nat, (i < 55 ∨ 55 < i) ∧ (i < 68 ∨ 69 < i) → σ' i = σ i) ∧ (∀ k : Nat, (k < 25 ∨ 25 < k) ∧ (k < 26 ∨ 26 < k) ∧ (k < 27 ∨ 27 < k) → σ' 55 k = σ 55 k) ∧ σ' 55 25 = 0 ∧ σ' 55 26 = 0 ∧ σ' 55 27 = (-1) ∧ True) := by
  refine jMv.of hJ (by decide +kernel) rfl (Nat.le_of_ble_eq_true rfl) ?_
  intro p e s m args below meth c Q ls hC hret hl hP
  obtain ⟨hx, hb, hr, hml, hown, hts, hK, -, hlocks⟩ := hC
  have hown : s.vm.findClass RX12 = some m.cls := hown
  have hS : va_S (jA ad) s.heap s.heap [] := va_S.rf
  have hA : ∀ q, jA ad q → jA ad q := fun _ h => h
  have hl : lv_has ls 2 [(0, .ref (ad 55))] := hl
  refine lv_aload_n hx hb dX12_begin_0 rfl (lv_at hl 0 rfl) ?_
  refine lv_iconst (v := 0) hx hb dX12_begin_1 (by decide) ?_
  refine jput (ty := .int) hx hb hts inlX12 tyX12 tyX12_ok nmX12 hown hK hP hJ hA hS (jc_55 cI cL ad σ τ) rfl (k := 25) (by decide) (Nat.le_of_ble_eq_true rfl) (jp_55_25 cI cL ad σ τ 0) (hts _ kw_23_6) (fun _ h9 => h9) rfl (by decide +kernel) rfl rfl dX12_begin_2 (fun σ1 H locs eσ1 hP hS => ?_)
  refine lv_aload_n hx hb dX12_begin_5 rfl (lv_at hl 0 rfl) ?_
  refine lv_iconst (v := 0) hx hb dX12_begin_6 (by decide) ?_
  refine jput (ty := .int) hx hb hts inlX12 tyX12 tyX12_ok nmX12 hown hK hP hJ hA hS (jc_55 cI cL ad σ1 τ) rfl (k := 26) (by decide) (Nat.le_of_ble_eq_true rfl) (jp_55_26 cI cL ad σ1 τ 0) (hts _ kw_23_5) (fun _ h9 => h9) rfl (by decide +kernel) rfl rfl dX12_begin_7 (fun σ2 H locs eσ2 hP hS => ?_)
  refine lv_aload_n hx hb dX12_begin_10 rfl (lv_at hl 0 rfl) ?_
  refine lv_iconst (v := (-1)) hx hb dX12_begin_11 (by decide) ?_
  refine jput (ty := .int) hx hb hts inlX12 tyX12 tyX12_ok nmX12 hown hK hP hJ hA hS (jc_55 cI cL ad σ2 τ) rfl (k := 27) (by decide) (Nat.le_of_ble_eq_true rfl) (jp_55_27 cI cL ad σ2 τ (-1)) (hts _ kw_23_11) (fun _ h9 => h9) rfl (by decide +kernel) rfl rfl dX12_begin_12 (fun σ3 H locs eσ3 hP hS => ?_)
  refine lv_iconst (v := 0) hx hb dX12_begin_15 (by decide) ?_
  refine lv_istore_n (lv' := [(1, .int 0), (0, .ref (ad 55))]) hx hb dX12_begin_16 rfl hl (by decide) rfl (fun ls hl => ?_)
  refine lv_iload_n hx hb dX12_begin_17 rfl (lv_at hl 0 rfl) ?_
  refine lv_iconst (v := 4) hx hb dX12_begin_18 (by decide) ?_
  refine lv_icmp_ge (tgt := 42) hx hb dX12_begin_19 (by decide) (fun c => absurd c (by decide)) (fun _ => ?_)
  refine lv_aload_n hx hb dX12_begin_22 rfl (lv_at hl 1 rfl) ?_
  refine va_get (D := D) hx hb hts inlX12 hown hK hP 55 (jc_55 cI cL ad σ3 τ) rfl 28 (by decide) (hts _ kw_7_14) (fun _ h9 => h9) rfl dX12_begin_23 ?_
  refine lv_iload_n hx hb dX12_begin_26 rfl (lv_at hl 0 rfl) ?_
  refine lv_iconst (v := 0) hx hb dX12_begin_27 (by decide) ?_
  refine jast hx hb hK hP hJ hA hS (jc_68 cI cL ad σ3 τ) (ja_68 cI cL ad σ3 τ _ _) (jin jz_0 (by omega) (by omega)) dX12_begin_28 (fun σ4 H locs eσ4 hP hS => ?_)
  have eσ4 : σ4 = jup σ3 68 0 0 := eσ4
  refine lv_aload_n hx hb dX12_begin_29 rfl (lv_at hl 1 rfl) ?_
  refine va_get (D := D) hx hb hts inlX12 hown hK hP 55 (jc_55 cI cL ad σ4 τ) rfl 29 (by decide) (hts _ kw_7_15) (fun _ h9 => h9) rfl dX12_begin_30 ?_
  refine lv_iload_n hx hb dX12_begin_33 rfl (lv_at hl 0 rfl) ?_
  refine lv_iconst (v := 0) hx hb dX12_begin_34 (by decide) ?_
  refine jast hx hb hK hP hJ hA hS (jc_69 cI cL ad σ4 τ) (ja_69 cI cL ad σ4 τ _ _) (jin jz_0 (by omega) (by omega)) dX12_begin_35 (fun σ5 H locs eσ5 hP hS => ?_)
  have eσ5 : σ5 = jup σ4 69 0 0 := eσ5
  refine lv_iinc (v := 1) (lv' := [(1, .int 1), (0, .ref (ad 55))]) hx hb dX12_begin_36 hl (k := 0) rfl (by decide) (by decide) rfl (fun ls hl => ?_)
  refine lv_goto (tgt := 17) hx hb dX12_begin_39 (by decide) ?_
  refine lv_iload_n hx hb dX12_begin_17 rfl (lv_at hl 0 rfl) ?_
  refine lv_iconst (v := 4) hx hb dX12_begin_18 (by decide) ?_
  refine lv_icmp_ge (tgt := 42) hx hb dX12_begin_19 (by decide) (fun c => absurd c (by decide)) (fun _ => ?_)
  refine lv_aload_n hx hb dX12_begin_22 rfl (lv_at hl 1 rfl) ?_
  refine va_get (D := D) hx hb hts inlX12 hown hK hP 55 (jc_55 cI cL ad σ5 τ) rfl 28 (by decide) (hts _ kw_7_14) (fun _ h9 => h9) rfl dX12_begin_23 ?_
  refine lv_iload_n hx hb dX12_begin_26 rfl (lv_at hl 0 rfl) ?_
  refine lv_iconst (v := 0) hx hb dX12_begin_27 (by decide) ?_
  refine jast hx hb hK hP hJ hA hS (jc_68 cI cL ad σ5 τ) (ja_68 cI cL ad σ5 τ _ _) (jin jz_1 (by omega) (by omega)) dX12_begin_28 (fun σ6 H locs eσ6 hP hS => ?_)
  have eσ6 : σ6 = jup σ5 68 1 0 := eσ6
  refine lv_aload_n hx hb dX12_begin_29 rfl (lv_at hl 1 rfl) ?_
  refine va_get (D := D) hx hb hts inlX12 hown hK hP 55 (jc_55 cI cL ad σ6 τ) rfl 29 (by decide) (hts _ kw_7_15) (fun _ h9 => h9) rfl dX12_begin_30 ?_
  refine lv_iload_n hx hb dX12_begin_33 rfl (lv_at hl 0 rfl) ?_
  refine lv_iconst (v := 0) hx hb dX12_begin_34 (by decide) ?_
  refine jast hx hb hK hP hJ hA hS (jc_69 cI cL ad σ6 τ) (ja_69 cI cL ad σ6 τ _ _) (jin jz_1 (by omega) (by omega)) dX12_begin_35 (fun σ7 H locs eσ7 hP hS => ?_)
  have eσ7 : σ7 = jup σ6 69 1 0 := eσ7
  refine lv_iinc (v := 2) (lv' := [(1, .int 2), (0, .ref (ad 55))]) hx hb dX12_begin_36 hl (k := 0) rfl (by decide) (by decide) rfl (fun ls hl => ?_)
  refine lv_goto (tgt := 17) hx hb dX12_begin_39 (by decide) ?_
  refine lv_iload_n hx hb dX12_begin_17 rfl (lv_at hl 0 rfl) ?_
  refine lv_iconst (v := 4) hx hb dX12_begin_18 (by decide) ?_
  refine lv_icmp_ge (tgt := 42) hx hb dX12_begin_19 (by decide) (fun c => absurd c (by decide)) (fun _ => ?_)
  refine lv_aload_n hx hb dX12_begin_22 rfl (lv_at hl 1 rfl) ?_
  refine va_get (D := D) hx hb hts inlX12 hown hK hP 55 (jc_55 cI cL ad σ7 τ) rfl 28 (by decide) (hts _ kw_7_14) (fun _ h9 => h9) rfl dX12_begin_23 ?_
  refine lv_iload_n hx hb dX12_begin_26 rfl (lv_at hl 0 rfl) ?_
  refine lv_iconst (v := 0) hx hb dX12_begin_27 (by decide) ?_
  refine jast hx hb hK hP hJ hA hS (jc_68 cI cL ad σ7 τ) (ja_68 cI cL ad σ7 τ _ _) (jin jz_2 (by omega) (by omega)) dX12_begin_28 (fun σ8 H locs eσ8 hP hS => ?_)
  have eσ8 : σ8 = jup σ7 68 2 0 := eσ8
  refine lv_aload_n hx hb dX12_begin_29 rfl (lv_at hl 1 rfl) ?_
  refine va_get (D := D) hx hb hts inlX12 hown hK hP 55 (jc_55 cI cL ad σ8 τ) rfl 29 (by decide) (hts _ kw_7_15) (fun _ h9 => h9) rfl dX12_begin_30 ?_
  refine lv_iload_n hx hb dX12_begin_33 rfl (lv_at hl 0 rfl) ?_
  refine lv_iconst (v := 0) hx hb dX12_begin_34 (by decide) ?_
  refine jast hx hb hK hP hJ hA hS (jc_69 cI cL ad σ8 τ) (ja_69 cI cL ad σ8 τ _ _) (jin jz_2 (by omega) (by omega)) dX12_begin_35 (fun σ9 H locs eσ9 hP hS => ?_)
  have eσ9 : σ9 = jup σ8 69 2 0 := eσ9
  refine lv_iinc (v := 3) (lv' := [(1, .int 3), (0, .ref (ad 55))]) hx hb dX12_begin_36 hl (k := 0) rfl (by decide) (by decide) rfl (fun ls hl => ?_)
  refine lv_goto (tgt := 17) hx hb dX12_begin_39 (by decide) ?_
  refine lv_iload_n hx hb dX12_begin_17 rfl (lv_at hl 0 rfl) ?_
  refine lv_iconst (v := 4) hx hb dX12_begin_18 (by decide) ?_
  refine lv_icmp_ge (tgt := 42) hx hb dX12_begin_19 (by decide) (fun c => absurd c (by decide)) (fun _ => ?_)
  refine lv_aload_n hx hb dX12_begin_22 rfl (lv_at hl 1 rfl) ?_
  refine va_get (D := D) hx hb hts inlX12 hown hK hP 55 (jc_55 cI cL ad σ9 τ) rfl 28 (by decide) (hts _ kw_7_14) (fun _ h9 => h9) rfl dX12_begin_23 ?_
  refine lv_iload_n hx hb dX12_begin_26 rfl (lv_at hl 0 rfl) ?_
  refine lv_iconst (v := 0) hx hb dX12_begin_27 (by decide) ?_
  refine jast hx hb hK hP hJ hA hS (jc_68 cI cL ad σ9 τ) (ja_68 cI cL ad σ9 τ _ _) (jin jz_3 (by omega) (by omega)) dX12_begin_28 (fun σ10 H locs eσ10 hP hS => ?_)
  have eσ10 : σ10 = jup σ9 68 3 0 := eσ10
  refine lv_aload_n hx hb dX12_begin_29 rfl (lv_at hl 1 rfl) ?_
  refine va_get (D := D) hx hb hts inlX12 hown hK hP 55 (jc_55 cI cL ad σ10 τ) rfl 29 (by decide) (hts _ kw_7_15) (fun _ h9 => h9) rfl dX12_begin_30 ?_
  refine lv_iload_n hx hb dX12_begin_33 rfl (lv_at hl 0 rfl) ?_
  refine lv_iconst (v := 0) hx hb dX12_begin_34 (by decide) ?_
  refine jast hx hb hK hP hJ hA hS (jc_69 cI cL ad σ10 τ) (ja_69 cI cL ad σ10 τ _ _) (jin jz_3 (by omega) (by omega)) dX12_begin_35 (fun σ11 H locs eσ11 hP hS => ?_)
  have eσ11 : σ11 = jup σ10 69 3 0 := eσ11
  refine lv_iinc (v := 4) (lv' := [(1, .int 4), (0, .ref (ad 55))]) hx hb dX12_begin_36 hl (k := 0) rfl (by decide) (by decide) rfl (fun ls hl => ?_)
  refine lv_goto (tgt := 17) hx hb dX12_begin_39 (by decide) ?_
  refine lv_iload_n hx hb dX12_begin_17 rfl (lv_at hl 0 rfl) ?_
  refine lv_iconst (v := 4) hx hb dX12_begin_18 (by decide) ?_
  refine lv_icmp_ge (tgt := 42) hx hb dX12_begin_19 (by decide) (fun _ => ?_) (fun c => absurd (by decide) c)
  have m12 : σ11 55 25 = 0 := (by rw [eσ11, jup_n (by decide)]; exact (by rw [eσ10, jup_n (by decide)]; exact (by rw [eσ9, jup_n (by decide)]; exact (by rw [eσ8, jup_n (by decide)]; exact (by rw [eσ7, jup_n (by decide)]; exact (by rw [eσ6, jup_n (by decide)]; exact (by rw [eσ5, jup_n (by decide)]; exact (by rw [eσ4, jup_n (by decide)]; exact (by rw [eσ3, jup_k (by decide)]; exact (by rw [eσ2, jup_k (by decide)]; exact (by rw [eσ1]; exact jup_s)))))))))))
  have m13 : σ11 55 26 = 0 := (by rw [eσ11, jup_n (by decide)]; exact (by rw [eσ10, jup_n (by decide)]; exact (by rw [eσ9, jup_n (by decide)]; exact (by rw [eσ8, jup_n (by decide)]; exact (by rw [eσ7, jup_n (by decide)]; exact (by rw [eσ6, jup_n (by decide)]; exact (by rw [eσ5, jup_n (by decide)]; exact (by rw [eσ4, jup_n (by decide)]; exact (by rw [eσ3, jup_k (by decide)]; exact (by rw [eσ2]; exact jup_s))))))))))
  have m14 : σ11 55 27 = (-1) := (by rw [eσ11, jup_n (by decide)]; exact (by rw [eσ10, jup_n (by decide)]; exact (by rw [eσ9, jup_n (by decide)]; exact (by rw [eσ8, jup_n (by decide)]; exact (by rw [eσ7, jup_n (by decide)]; exact (by rw [eσ6, jup_n (by decide)]; exact (by rw [eσ5, jup_n (by decide)]; exact (by rw [eσ4, jup_n (by decide)]; exact (by rw [eσ3]; exact jup_s)))))))))
  exact hret σ11 τ _ _ _ _ ⟨(fun i hi => by rw [eσ11, jup_n (by omega), eσ10, jup_n (by omega), eσ9, jup_n (by omega), eσ8, jup_n (by omega), eσ7, jup_n (by omega), eσ6, jup_n (by omega), eσ5, jup_n (by omega), eσ4, jup_n (by omega), eσ3, jup_n (by omega), eσ2, jup_n (by omega), eσ1, jup_n (by omega)]), (fun k hk => by rw [eσ11, jup_n (by decide), eσ10, jup_n (by decide), eσ9, jup_n (by decide), eσ8, jup_n (by decide), eσ7, jup_n (by decide), eσ6, jup_n (by decide), eσ5, jup_n (by decide), eσ4, jup_n (by decide), eσ3, jup_k (by omega), eσ2, jup_k (by omega), eσ1, jup_k (by omega)]), m12, m13, m14, trivial⟩ hP hS dX12_begin_42
set_option maxHeartbeats 4000000 in
set_option maxRecDepth 100000 in
theorem c_X12_isEnded (l : Launch) (D : va_G) (cI cL : ClassId) (ad : Nat → Nat) (hJ : jD ad) (σ : Nat → Nat → Int32) (τ : Nat → Nat → Int64) (h55_6 : σ 55 6 = 0) (h55_10 : σ 55 10 = 1) (h55_12 : σ 55 12 = 8) (h55_25 : σ 55 25 = 0) (h55_26 : σ 55 26 = 0) : jM l yX12_isEnded cX12_isEnded 2 (some .boolean) ({ frames := 0, cells := 0, slots := 0, locals := 0 }) D cI cL ad [.ref (ad 55)] σ τ (fun r σ' τ' => (σ = σ' ∧ τ = τ') ∧ ((r = 1 ∧ True))) := by
  refine jM.of hJ (by decide +kernel) (nt := .boolean) rfl (Nat.le_of_ble_eq_true rfl) ?_
  intro p e s m args below meth c Q ls hC hret hl hP
  obtain ⟨hx, hb, hr, hml, hown, hts, hK, -, hlocks⟩ := hC
  have hown : s.vm.findClass RX12 = some m.cls := hown
  have hS : va_S (jA ad) s.heap s.heap [] := va_S.rf
  have hA : ∀ q, jA ad q → jA ad q := fun _ h => h
  have hl : lv_has ls 2 [(0, .ref (ad 55))] := hl
  refine lv_aload_n hx hb dX12_isEnded_0 rfl (lv_at hl 0 rfl) ?_
  refine va_get (D := D) hx hb hts inlX12 hown hK hP 55 (jc_55 cI cL ad σ τ) rfl 25 (by decide) (hts _ kw_23_6) (fun _ h9 => h9) rfl dX12_isEnded_1 ?_
  refine jtopr h55_25 ?_
  refine lv_aload_n hx hb dX12_isEnded_4 rfl (lv_at hl 0 rfl) ?_
  refine va_get (D := D) hx hb hts inlX12 hown hK hP 55 (jc_55 cI cL ad σ τ) rfl 10 (by decide) (hts _ kw_8_15) (fun _ h9 => h9) rfl dX12_isEnded_5 ?_
  refine jtopr h55_10 ?_
  refine lv_icmp_eq (tgt := 22) hx hb dX12_isEnded_8 (by decide) (fun c => absurd c (by decide)) (fun _ => ?_)
  refine lv_aload_n hx hb dX12_isEnded_11 rfl (lv_at hl 0 rfl) ?_
  refine va_get (D := D) hx hb hts inlX12 hown hK hP 55 (jc_55 cI cL ad σ τ) rfl 26 (by decide) (hts _ kw_23_5) (fun _ h9 => h9) rfl dX12_isEnded_12 ?_
  refine jtopr h55_26 ?_
  refine lv_aload_n hx hb dX12_isEnded_15 rfl (lv_at hl 0 rfl) ?_
  refine va_get (D := D) hx hb hts inlX12 hown hK hP 55 (jc_55 cI cL ad σ τ) rfl 12 (by decide) (hts _ kw_8_16) (fun _ h9 => h9) rfl dX12_isEnded_16 ?_
  refine jtopr h55_12 ?_
  refine lv_icmp_ne (tgt := 24) hx hb dX12_isEnded_19 (by decide) (fun _ => ?_) (fun c => absurd c (by decide))
  refine lv_iconst (v := 0) hx hb dX12_isEnded_24 (by decide) ?_
  refine lv_istore_n (lv' := [(1, .int 0), (0, .ref (ad 55))]) hx hb dX12_isEnded_25 rfl hl (by decide) rfl (fun ls hl => ?_)
  refine lv_iload_n hx hb dX12_isEnded_26 rfl (lv_at hl 0 rfl) ?_
  refine lv_aload_n hx hb dX12_isEnded_27 rfl (lv_at hl 1 rfl) ?_
  refine va_get (D := D) hx hb hts inlX12 hown hK hP 55 (jc_55 cI cL ad σ τ) rfl 6 (by decide) (hts _ kw_9_13) (fun _ h9 => h9) rfl dX12_isEnded_28 ?_
  refine jtopr h55_6 ?_
  refine lv_icmp_ge (tgt := 50) hx hb dX12_isEnded_31 (by decide) (fun _ => ?_) (fun c => absurd (by decide) c)
  refine lv_iconst (v := 1) hx hb dX12_isEnded_50 (by decide) ?_
  exact hret 1 σ τ _ _ _ _ rfl ⟨⟨rfl, rfl⟩, ⟨rfl, trivial⟩⟩ hP hS dX12_isEnded_51
set_option maxHeartbeats 4000000 in
set_option maxRecDepth 100000 in
theorem c_X12_isBig (l : Launch) (D : va_G) (cI cL : ClassId) (ad : Nat → Nat) (hJ : jD ad) (σ : Nat → Nat → Int32) (τ : Nat → Nat → Int64) (h55_12 : σ 55 12 = 8) (h55_26 : σ 55 26 = 0) : jM l yX12_isBig cX12_isBig 1 (some .boolean) ({ frames := 0, cells := 0, slots := 0, locals := 0 }) D cI cL ad [.ref (ad 55)] σ τ (fun r σ' τ' => (σ = σ' ∧ τ = τ') ∧ ((r = 0 ∧ True))) := by
  refine jM.of hJ (by decide +kernel) (nt := .boolean) rfl (Nat.le_of_ble_eq_true rfl) ?_
  intro p e s m args below meth c Q ls hC hret hl hP
  obtain ⟨hx, hb, hr, hml, hown, hts, hK, -, hlocks⟩ := hC
  have hown : s.vm.findClass RX12 = some m.cls := hown
  have hS : va_S (jA ad) s.heap s.heap [] := va_S.rf
  have hA : ∀ q, jA ad q → jA ad q := fun _ h => h
  have hl : lv_has ls 1 [(0, .ref (ad 55))] := hl
  refine lv_aload_n hx hb dX12_isBig_0 rfl (lv_at hl 0 rfl) ?_
  refine va_get (D := D) hx hb hts inlX12 hown hK hP 55 (jc_55 cI cL ad σ τ) rfl 12 (by decide) (hts _ kw_8_16) (fun _ h9 => h9) rfl dX12_isBig_1 ?_
  refine jtopr h55_12 ?_
  refine lv_aload_n hx hb dX12_isBig_4 rfl (lv_at hl 0 rfl) ?_
  refine va_get (D := D) hx hb hts inlX12 hown hK hP 55 (jc_55 cI cL ad σ τ) rfl 26 (by decide) (hts _ kw_23_5) (fun _ h9 => h9) rfl dX12_isBig_5 ?_
  refine jtopr h55_26 ?_
  refine lv_isub hx hb dX12_isBig_8 ?_
  refine jtopr (y := 8) (by decide) ?_
  refine lv_bipush (v := 8) hx hb dX12_isBig_9 (by decide) ?_
  refine lv_icmp_le (tgt := 18) hx hb dX12_isBig_11 (by decide) (fun _ => ?_) (fun c => absurd (by decide) c)
  refine lv_iconst (v := 0) hx hb dX12_isBig_18 (by decide) ?_
  exact hret 0 σ τ _ _ _ _ rfl ⟨⟨rfl, rfl⟩, ⟨rfl, trivial⟩⟩ hP hS dX12_isBig_19
set_option maxHeartbeats 4000000 in
set_option maxRecDepth 100000 in
theorem c_X12_forgets (l : Launch) (D : va_G) (cI cL : ClassId) (ad : Nat → Nat) (hJ : jD ad) (σ : Nat → Nat → Int32) (τ : Nat → Nat → Int64) : jMv l yX12_forgets cX12_forgets 1 none ({ frames := 0, cells := 0, slots := 0, locals := 0 }) D cI cL ad [.ref (ad 55)] σ τ (fun σ' τ' => (∀ i : Nat, (i < 55 ∨ 55 < i) → σ' i = σ i) ∧ (∀ k : Nat, (k < 42 ∨ 42 < k) → σ' 55 k = σ 55 k) ∧ True) := by
  refine jMv.of hJ (by decide +kernel) rfl (Nat.le_of_ble_eq_true rfl) ?_
  intro p e s m args below meth c Q ls hC hret hl hP
  obtain ⟨hx, hb, hr, hml, hown, hts, hK, -, hlocks⟩ := hC
  have hown : s.vm.findClass RX12 = some m.cls := hown
  have hS : va_S (jA ad) s.heap s.heap [] := va_S.rf
  have hA : ∀ q, jA ad q → jA ad q := fun _ h => h
  have hl : lv_has ls 1 [(0, .ref (ad 55))] := hl
  refine lv_aload_n hx hb dX12_forgets_0 rfl (lv_at hl 0 rfl) ?_
  refine lv_dup hx hb dX12_forgets_1 rfl ?_
  refine va_get (D := D) hx hb hts inlX12 hown hK hP 55 (jc_55 cI cL ad σ τ) rfl 42 (by decide) (hts _ kw_33_10) (fun _ h9 => h9) rfl dX12_forgets_2 ?_
  refine lv_topi (fun x1 ex1 => ?_)
  refine lv_iconst (v := 1) hx hb dX12_forgets_5 (by decide) ?_
  refine lv_iadd hx hb dX12_forgets_6 ?_
  refine lv_topi (fun x2 ex2 => ?_)
  have gx2 := jrg (rfl : x2.toInt = x2.toInt)
  refine jput (ty := .int) hx hb hts inlX12 tyX12 tyX12_ok nmX12 hown hK hP hJ hA hS (jc_55 cI cL ad σ τ) rfl (k := 42) (by decide) (Nat.le_of_ble_eq_true rfl) (jp_55_42 cI cL ad σ τ x2) (hts _ kw_33_10) (fun _ h9 => h9) rfl (by decide +kernel) rfl rfl dX12_forgets_7 (fun σ3 H locs eσ3 hP hS => ?_)
  exact hret σ3 τ _ _ _ _ ⟨(fun i hi => by rw [eσ3, jup_n (by omega)]), (fun k hk => by rw [eσ3, jup_k (by omega)]), trivial⟩ hP hS dX12_forgets_10
set_option maxHeartbeats 4000000 in
set_option maxRecDepth 100000 in
theorem c_X12_bestFrom (l : Launch) (D : va_G) (cI cL : ClassId) (ad : Nat → Nat) (hJ : jD ad) (σ : Nat → Nat → Int32) (τ : Nat → Nat → Int64) (h55_6 : σ 55 6 = 0) (h55_10 : σ 55 10 = 1) (h55_12 : σ 55 12 = 8) (h55_25 : σ 55 25 = 0) (h55_26 : σ 55 26 = 0) : jM l yX12_bestFrom cX12_bestFrom 8 (some .int) ({ frames := 1, cells := 0, slots := 0, locals := 21 }) D cI cL ad [.ref (ad 55)] σ τ (fun r σ' τ' => (∀ i : Nat, (i < 55 ∨ 55 < i) → σ' i = σ i) ∧ (∀ k : Nat, (k < 37 ∨ 37 < k) → σ' 55 k = σ 55 k) ∧ σ' 55 37 = (-2) ∧ ((r = 0 ∧ True))) := by
  refine jM.of hJ (by decide +kernel) (nt := .int) rfl (Nat.le_of_ble_eq_true rfl) ?_
  intro p e s m args below meth c Q ls hC hret hl hP
  obtain ⟨hx, hb, hr, hml, hown, hts, hK, -, hlocks⟩ := hC
  have hown : s.vm.findClass RX12 = some m.cls := hown
  have hS : va_S (jA ad) s.heap s.heap [] := va_S.rf
  have hA : ∀ q, jA ad q → jA ad q := fun _ h => h
  have hl : lv_has ls 8 [(0, .ref (ad 55))] := hl
  refine lv_aload_n hx hb dX12_bestFrom_0 rfl (lv_at hl 0 rfl) ?_
  refine jcallV (As := []) (rest := []) ⟨hx, hb, hml, hown, hts⟩ hK hP hA hS (c_X12_isEnded l D cI cL ad hJ σ τ h55_6 h55_10 h55_12 h55_25 h55_26) cw_RX12_307 (jc_55 cI cL ad σ τ) rfl ⟨Nat.le_of_ble_eq_true rfl, Nat.le_of_ble_eq_true rfl⟩ rfl rfl rfl hl.1 rfl (Nat.le_of_ble_eq_true rfl) dX12_bestFrom_1 ⟨Nat.zero_le _, Nat.zero_le _⟩ (fun r2 σ1 τ1 H locs h1 hP hS => ?_)
  obtain ⟨⟨rfl, rfl⟩, h1⟩ := h1
  have h3 := h1
  obtain ⟨q5, k4⟩ := h3
  have q5 := q5.symm
  subst q5
  refine lv_if_eq (tgt := 15) hx hb dX12_bestFrom_4 (by decide) (fun c => absurd c (by decide)) (fun _ => ?_)
  refine lv_aload_n hx hb dX12_bestFrom_7 rfl (lv_at hl 0 rfl) ?_
  refine lv_bipush (v := (-2)) hx hb dX12_bestFrom_8 (by decide) ?_
  refine jput (ty := .int) hx hb hts inlX12 tyX12 tyX12_ok nmX12 hown hK hP hJ hA hS (jc_55 cI cL ad σ τ) rfl (k := 37) (by decide) (Nat.le_of_ble_eq_true rfl) (jp_55_37 cI cL ad σ τ (-2)) (hts _ kw_33_15) (fun _ h9 => h9) rfl (by decide +kernel) rfl rfl dX12_bestFrom_10 (fun σ6 H locs eσ6 hP hS => ?_)
  refine lv_iconst (v := 0) hx hb dX12_bestFrom_13 (by decide) ?_
  have m7 : σ6 55 37 = (-2) := (by rw [eσ6]; exact jup_s)
  exact hret 0 σ6 τ _ _ _ _ rfl ⟨(fun i hi => by rw [eσ6, jup_n (by omega)]), (fun k hk => by rw [eσ6, jup_k (by omega)]), m7, ⟨rfl, trivial⟩⟩ hP hS dX12_bestFrom_14
set_option maxHeartbeats 4000000 in
set_option maxRecDepth 100000 in
theorem c_X12_goThroughBook (l : Launch) (D : va_G) (cI cL : ClassId) (ad : Nat → Nat) (hJ : jD ad) (σ : Nat → Nat → Int32) (τ : Nat → Nat → Int64) : jMv l yX12_goThroughBook cX12_goThroughBook 4 none ({ frames := 1, cells := 0, slots := 0, locals := 21 }) D cI cL ad [.ref (ad 55), .int 0] σ τ (fun σ' τ' => (∀ i : Nat, (i < 55 ∨ 55 < i) ∧ (i < 68 ∨ 69 < i) → σ' i = σ i) ∧ (∀ k : Nat, (k < 25 ∨ 25 < k) ∧ (k < 26 ∨ 26 < k) ∧ (k < 27 ∨ 27 < k) → σ' 55 k = σ 55 k) ∧ σ' 55 25 = 0 ∧ σ' 55 26 = 0 ∧ σ' 55 27 = (-1) ∧ True) := by
  refine jMv.of hJ (by decide +kernel) rfl (Nat.le_of_ble_eq_true rfl) ?_
  intro p e s m args below meth c Q ls hC hret hl hP
  obtain ⟨hx, hb, hr, hml, hown, hts, hK, -, hlocks⟩ := hC
  have hown : s.vm.findClass RX12 = some m.cls := hown
  have hS : va_S (jA ad) s.heap s.heap [] := va_S.rf
  have hA : ∀ q, jA ad q → jA ad q := fun _ h => h
  have hl : lv_has ls 4 [(0, .ref (ad 55)), (1, .int 0)] := hl
  refine lv_aload_n hx hb dX12_goThroughBook_0 rfl (lv_at hl 0 rfl) ?_
  refine jcallVv (As := []) (rest := []) ⟨hx, hb, hml, hown, hts⟩ hK hP hA hS (c_X12_begin l D cI cL ad hJ σ τ) cw_RX12_256 (jc_55 cI cL ad σ τ) rfl ⟨Nat.le_of_ble_eq_true rfl, Nat.le_of_ble_eq_true rfl⟩ rfl rfl rfl hl.1 rfl (Nat.le_of_ble_eq_true rfl) dX12_goThroughBook_1 ⟨Nat.zero_le _, Nat.zero_le _⟩ (fun σ1 τ1 H locs h1 hP hS => ?_)
  obtain ⟨f3, f7, m4, m5, m6, h1⟩ := h1
  refine lv_iconst (v := 0) hx hb dX12_goThroughBook_4 (by decide) ?_
  refine lv_istore_n (lv' := [(2, .int 0), (0, .ref (ad 55)), (1, .int 0)]) hx hb dX12_goThroughBook_5 rfl hl (by decide) rfl (fun ls hl => ?_)
  refine lv_iload_n hx hb dX12_goThroughBook_6 rfl (lv_at hl 0 rfl) ?_
  refine lv_iload_n hx hb dX12_goThroughBook_7 rfl (lv_at hl 2 rfl) ?_
  refine lv_icmp_ge (tgt := 43) hx hb dX12_goThroughBook_8 (by decide) (fun _ => ?_) (fun c => absurd (by decide) c)
  exact hret σ1 τ1 _ _ _ _ ⟨(fun i hi => by rw [f3 i (by omega)]), (fun k hk => by rw [f7 k (by omega)]), m4, m5, m6, trivial⟩ hP hS dX12_goThroughBook_43
set_option maxHeartbeats 4000000 in
set_option maxRecDepth 100000 in
theorem c_X12_best (l : Launch) (D : va_G) (cI cL : ClassId) (ad : Nat → Nat) (hJ : jD ad) (σ : Nat → Nat → Int32) (τ : Nat → Nat → Int64) (a1 : Int32) (A1 : Int) (t1 : a1.toInt = A1) (h55_6 : σ 55 6 = 0) (h55_10 : σ 55 10 = 1) (h55_12 : σ 55 12 = 8) (h55_47 : σ 55 47 = 0) : jM l yX12_best cX12_best 3 (some .int) ({ frames := 2, cells := 0, slots := 0, locals := 48 }) D cI cL ad [.ref (ad 55), .int a1] σ τ (fun r σ' τ' => True ∧ r = (if A1 = 0 then 0 else if A1 = 1 then -2 else -1)) := by
  refine jM.of hJ (by decide +kernel) (nt := .int) rfl (Nat.le_of_ble_eq_true rfl) ?_
  intro p e s m args below meth c Q ls hC hret hl hP
  obtain ⟨hx, hb, hr, hml, hown, hts, hK, -, hlocks⟩ := hC
  have hown : s.vm.findClass RX12 = some m.cls := hown
  have hS : va_S (jA ad) s.heap s.heap [] := va_S.rf
  have hA : ∀ q, jA ad q → jA ad q := fun _ h => h
  have hl : lv_has ls 3 [(0, .ref (ad 55)), (1, .int a1)] := hl
  have g1 := jrg t1
  refine lv_iload_n hx hb dX12_best_0 rfl (lv_at hl 1 rfl) ?_
  refine lv_i2l (v := a1.toInt64) hx hb dX12_best_1 rfl ?_
  refine lv_lconst (v := 0) hx hb dX12_best_2 (by decide) ?_
  refine lv_lconst (v := 1) hx hb dX12_best_3 (by decide) ?_
  refine jcallS (As := [.long a1.toInt64, .long 0, .long 1]) (rest := []) ⟨hx, hb, hml, hown, hts⟩ hK hP hA hS (c_X12_within l D cI cL ad hJ σ τ a1.toInt64 (A1) (jtoL t1) 0 (0) jzl_0 1 (1) jzl_1) cw_RX12_136 ⟨Nat.le_of_ble_eq_true rfl, Nat.le_of_ble_eq_true rfl⟩ rfl rfl rfl hl.1 rfl (Nat.le_of_ble_eq_true rfl) dX12_best_4 ⟨Nat.zero_le _, Nat.zero_le _⟩ (fun r2 σ1 τ1 H locs h1 hP hS => ?_)
  obtain ⟨⟨rfl, rfl⟩, h1⟩ := h1
  rcases h1 with h3 | h4
  · obtain ⟨q6, k5⟩ := h3
    have q6 := q6.symm
    subst q6
    refine lv_if_ne (tgt := 12) hx hb dX12_best_7 (by decide) (fun _ => ?_) (fun c => absurd c (by decide))
    refine lv_aload_n hx hb dX12_best_12 rfl (lv_at hl 0 rfl) ?_
    refine lv_aload_n hx hb dX12_best_13 rfl (lv_at hl 0 rfl) ?_
    refine va_get (D := D) hx hb hts inlX12 hown hK hP 55 (jc_55 cI cL ad σ τ) rfl 47 (by decide) (hts _ kw_15_15) (fun _ h9 => h9) rfl dX12_best_14 ?_
    refine jtopr h55_47 ?_
    refine jcallVv (As := [.int 0]) (rest := []) ⟨hx, hb, hml, hown, hts⟩ hK hP hA hS (c_X12_goThroughBook l D cI cL ad hJ σ τ) cw_RX12_334 (jc_55 cI cL ad σ τ) rfl ⟨Nat.le_of_ble_eq_true rfl, Nat.le_of_ble_eq_true rfl⟩ rfl rfl rfl hl.1 rfl (Nat.le_of_ble_eq_true rfl) dX12_best_17 ⟨Nat.zero_le _, Nat.zero_le _⟩ (fun σ7 τ7 H locs h7 hP hS => ?_)
    obtain ⟨f9, f13, m10, m11, m12, h7⟩ := h7
    refine lv_aload_n hx hb dX12_best_20 rfl (lv_at hl 0 rfl) ?_
    have m14 : σ7 55 12 = 8 := (by rw [f13 12 (by omega)]; exact h55_12)
    refine jcallV (As := []) (rest := []) ⟨hx, hb, hml, hown, hts⟩ hK hP hA hS (c_X12_isBig l D cI cL ad hJ σ7 τ7 m14 m11) cw_RX12_338 (jc_55 cI cL ad σ7 τ7) rfl ⟨Nat.le_of_ble_eq_true rfl, Nat.le_of_ble_eq_true rfl⟩ rfl rfl rfl hl.1 rfl (Nat.le_of_ble_eq_true rfl) dX12_best_21 ⟨Nat.zero_le _, Nat.zero_le _⟩ (fun r16 σ15 τ15 H locs h15 hP hS => ?_)
    obtain ⟨⟨rfl, rfl⟩, h15⟩ := h15
    have h17 := h15
    obtain ⟨q19, k18⟩ := h17
    have q19 := q19.symm
    subst q19
    refine lv_if_eq (tgt := 30) hx hb dX12_best_24 (by decide) (fun _ => ?_) (fun c => absurd (by decide) c)
    refine lv_aload_n hx hb dX12_best_30 rfl (lv_at hl 0 rfl) ?_
    refine jcallVv (As := []) (rest := []) ⟨hx, hb, hml, hown, hts⟩ hK hP hA hS (c_X12_forgets l D cI cL ad hJ σ7 τ7) cw_RX12_341 (jc_55 cI cL ad σ7 τ7) rfl ⟨Nat.le_of_ble_eq_true rfl, Nat.le_of_ble_eq_true rfl⟩ rfl rfl rfl hl.1 rfl (Nat.le_of_ble_eq_true rfl) dX12_best_31 ⟨Nat.zero_le _, Nat.zero_le _⟩ (fun σ20 τ20 H locs h20 hP hS => ?_)
    obtain ⟨f22, f23, h20⟩ := h20
    refine lv_aload_n hx hb dX12_best_34 rfl (lv_at hl 0 rfl) ?_
    have m24 : σ20 55 6 = 0 := (by rw [f23 6 (by omega)]; exact (by rw [f13 6 (by omega)]; exact h55_6))
    have m25 : σ20 55 10 = 1 := (by rw [f23 10 (by omega)]; exact (by rw [f13 10 (by omega)]; exact h55_10))
    have m26 : σ20 55 12 = 8 := (by rw [f23 12 (by omega)]; exact m14)
    have m27 : σ20 55 25 = 0 := (by rw [f23 25 (by omega)]; exact m10)
    have m28 : σ20 55 26 = 0 := (by rw [f23 26 (by omega)]; exact m11)
    refine jcallV (As := []) (rest := []) ⟨hx, hb, hml, hown, hts⟩ hK hP hA hS (c_X12_bestFrom l D cI cL ad hJ σ20 τ20 m24 m25 m26 m27 m28) cw_RX12_280 (jc_55 cI cL ad σ20 τ20) rfl ⟨Nat.le_of_ble_eq_true rfl, Nat.le_of_ble_eq_true rfl⟩ rfl rfl rfl hl.1 rfl (Nat.le_of_ble_eq_true rfl) dX12_best_35 ⟨Nat.zero_le _, Nat.zero_le _⟩ (fun r30 σ29 τ29 H locs h29 hP hS => ?_)
    obtain ⟨f31, f33, m32, h29⟩ := h29
    have h34 := h29
    obtain ⟨q36, k35⟩ := h34
    have q36 := q36.symm
    subst q36
    refine lv_istore_n (lv' := [(2, .int 0), (0, .ref (ad 55)), (1, .int a1)]) hx hb dX12_best_38 rfl hl (by decide) rfl (fun ls hl => ?_)
    refine lv_iload_n hx hb dX12_best_39 rfl (lv_at hl 2 rfl) ?_
    refine lv_if_ne (tgt := 47) hx hb dX12_best_40 (by decide) (fun c37 => ?_) (fun c37 => ?_)
    · have kc37 := jne c37 t1 jz_0
      refine lv_aload_n hx hb dX12_best_47 rfl (lv_at hl 1 rfl) ?_
      refine va_get (D := D) hx hb hts inlX12 hown hK hP 55 (jc_55 cI cL ad σ29 τ29) rfl 37 (by decide) (hts _ kw_33_15) (fun _ h9 => h9) rfl dX12_best_48 ?_
      refine jtopr m32 ?_
      exact hret (-2) σ29 τ29 _ _ _ _ rfl ⟨trivial, (by (repeat' split) <;> first | rfl | omega | exact jsame jz_m2 t1 (by omega) | (exfalso; omega))⟩ hP hS dX12_best_51
    · have kc37 := jeq c37 t1 jz_0
      refine lv_iload_n hx hb dX12_best_43 rfl (lv_at hl 0 rfl) ?_
      refine lv_goto (tgt := 51) hx hb dX12_best_44 (by decide) ?_
      exact hret 0 σ29 τ29 _ _ _ _ rfl ⟨trivial, (by (repeat' split) <;> first | rfl | omega | exact jsame jz_0 t1 (by omega) | (exfalso; omega))⟩ hP hS dX12_best_51
  · obtain ⟨q39, k38⟩ := h4
    have q39 := q39.symm
    subst q39
    refine lv_if_ne (tgt := 12) hx hb dX12_best_7 (by decide) (fun c => absurd (by decide) c) (fun _ => ?_)
    refine lv_iconst (v := (-1)) hx hb dX12_best_10 (by decide) ?_
    exact hret (-1) σ τ _ _ _ _ rfl ⟨trivial, (by (repeat' split) <;> first | rfl | omega | exact jsame jz_m1 t1 (by omega) | (exfalso; omega))⟩ hP hS dX12_best_11
set_option maxHeartbeats 4000000 in
set_option maxRecDepth 100000 in
theorem c_X12_bestNow (l : Launch) (D : va_G) (cI cL : ClassId) (ad : Nat → Nat) (hJ : jD ad) (σ : Nat → Nat → Int32) (τ : Nat → Nat → Int64) (h55_6 : σ 55 6 = 0) (h55_10 : σ 55 10 = 1) (h55_12 : σ 55 12 = 8) : jM l yX12_bestNow cX12_bestNow 1 (some .int) ({ frames := 2, cells := 0, slots := 0, locals := 48 }) D cI cL ad [.ref (ad 55)] σ τ (fun r σ' τ' => (∀ i : Nat, (i < 55 ∨ 55 < i) ∧ (i < 68 ∨ 69 < i) → σ' i = σ i) ∧ (∀ k : Nat, (k < 25 ∨ 25 < k) ∧ (k < 26 ∨ 26 < k) ∧ (k < 27 ∨ 27 < k) ∧ (k < 42 ∨ 42 < k) ∧ (k < 37 ∨ 37 < k) → σ' 55 k = σ 55 k) ∧ σ' 55 25 = 0 ∧ σ' 55 26 = 0 ∧ σ' 55 27 = (-1) ∧ ((r = 0 ∧ True))) := by
  refine jM.of hJ (by decide +kernel) (nt := .int) rfl (Nat.le_of_ble_eq_true rfl) ?_
  intro p e s m args below meth c Q ls hC hret hl hP
  obtain ⟨hx, hb, hr, hml, hown, hts, hK, -, hlocks⟩ := hC
  have hown : s.vm.findClass RX12 = some m.cls := hown
  have hS : va_S (jA ad) s.heap s.heap [] := va_S.rf
  have hA : ∀ q, jA ad q → jA ad q := fun _ h => h
  have hl : lv_has ls 1 [(0, .ref (ad 55))] := hl
  refine lv_aload_n hx hb dX12_bestNow_0 rfl (lv_at hl 0 rfl) ?_
  refine jcallVv (As := []) (rest := []) ⟨hx, hb, hml, hown, hts⟩ hK hP hA hS (c_X12_begin l D cI cL ad hJ σ τ) cw_RX12_256 (jc_55 cI cL ad σ τ) rfl ⟨Nat.le_of_ble_eq_true rfl, Nat.le_of_ble_eq_true rfl⟩ rfl rfl rfl hl.1 rfl (Nat.le_of_ble_eq_true rfl) dX12_bestNow_1 ⟨Nat.zero_le _, Nat.zero_le _⟩ (fun σ1 τ1 H locs h1 hP hS => ?_)
  obtain ⟨f3, f7, m4, m5, m6, h1⟩ := h1
  refine lv_aload_n hx hb dX12_bestNow_4 rfl (lv_at hl 0 rfl) ?_
  refine jcallVv (As := []) (rest := []) ⟨hx, hb, hml, hown, hts⟩ hK hP hA hS (c_X12_forgets l D cI cL ad hJ σ1 τ1) cw_RX12_341 (jc_55 cI cL ad σ1 τ1) rfl ⟨Nat.le_of_ble_eq_true rfl, Nat.le_of_ble_eq_true rfl⟩ rfl rfl rfl hl.1 rfl (Nat.le_of_ble_eq_true rfl) dX12_bestNow_5 ⟨Nat.zero_le _, Nat.zero_le _⟩ (fun σ8 τ8 H locs h8 hP hS => ?_)
  obtain ⟨f10, f11, h8⟩ := h8
  refine lv_aload_n hx hb dX12_bestNow_8 rfl (lv_at hl 0 rfl) ?_
  have m12 : σ8 55 6 = 0 := (by rw [f11 6 (by omega)]; exact (by rw [f7 6 (by omega)]; exact h55_6))
  have m13 : σ8 55 10 = 1 := (by rw [f11 10 (by omega)]; exact (by rw [f7 10 (by omega)]; exact h55_10))
  have m14 : σ8 55 12 = 8 := (by rw [f11 12 (by omega)]; exact (by rw [f7 12 (by omega)]; exact h55_12))
  have m15 : σ8 55 25 = 0 := (by rw [f11 25 (by omega)]; exact m4)
  have m16 : σ8 55 26 = 0 := (by rw [f11 26 (by omega)]; exact m5)
  refine jcallV (As := []) (rest := []) ⟨hx, hb, hml, hown, hts⟩ hK hP hA hS (c_X12_bestFrom l D cI cL ad hJ σ8 τ8 m12 m13 m14 m15 m16) cw_RX12_280 (jc_55 cI cL ad σ8 τ8) rfl ⟨Nat.le_of_ble_eq_true rfl, Nat.le_of_ble_eq_true rfl⟩ rfl rfl rfl hl.1 rfl (Nat.le_of_ble_eq_true rfl) dX12_bestNow_9 ⟨Nat.zero_le _, Nat.zero_le _⟩ (fun r18 σ17 τ17 H locs h17 hP hS => ?_)
  obtain ⟨f19, f21, m20, h17⟩ := h17
  have h22 := h17
  obtain ⟨q24, k23⟩ := h22
  have q24 := q24.symm
  subst q24
  have m25 : σ17 55 25 = 0 := (by rw [f21 25 (by omega)]; exact m15)
  have m26 : σ17 55 26 = 0 := (by rw [f21 26 (by omega)]; exact m16)
  have m27 : σ17 55 27 = (-1) := (by rw [f21 27 (by omega)]; exact (by rw [f11 27 (by omega)]; exact m6))
  exact hret 0 σ17 τ17 _ _ _ _ rfl ⟨(fun i hi => by rw [f19 i (by omega), f10 i (by omega), f3 i (by omega)]), (fun k hk => by rw [f21 k (by omega), f11 k (by omega), f7 k (by omega)]), m25, m26, m27, ⟨rfl, trivial⟩⟩ hP hS dX12_bestNow_12
set_option maxHeartbeats 4000000 in
set_option maxRecDepth 100000 in
theorem c_X12_worth (l : Launch) (D : va_G) (cI cL : ClassId) (ad : Nat → Nat) (hJ : jD ad) (σ : Nat → Nat → Int32) (τ : Nat → Nat → Int64) (a1 : Int32) (A1 : Int) (t1 : a1.toInt = A1) (a2 : Int32) (A2 : Int) (t2 : a2.toInt = A2) (h55_6 : σ 55 6 = 0) : jM l yX12_worth cX12_worth 5 (some .int) ({ frames := 2, cells := 0, slots := 0, locals := 46 }) D cI cL ad [.ref (ad 55), .int a1, .int a2] σ τ (fun r σ' τ' => True ∧ r = (-2000000000)) := by
  refine jM.of hJ (by decide +kernel) (nt := .int) rfl (Nat.le_of_ble_eq_true rfl) ?_
  intro p e s m args below meth c Q ls hC hret hl hP
  obtain ⟨hx, hb, hr, hml, hown, hts, hK, -, hlocks⟩ := hC
  have hown : s.vm.findClass RX12 = some m.cls := hown
  have hS : va_S (jA ad) s.heap s.heap [] := va_S.rf
  have hA : ∀ q, jA ad q → jA ad q := fun _ h => h
  have hl : lv_has ls 5 [(0, .ref (ad 55)), (1, .int a1), (2, .int a2)] := hl
  have g1 := jrg t1
  have g2 := jrg t2
  refine lv_aload_n hx hb dX12_worth_0 rfl (lv_at hl 0 rfl) ?_
  refine lv_iload_n hx hb dX12_worth_1 rfl (lv_at hl 1 rfl) ?_
  refine jcallV (As := [.int a1]) (rest := []) ⟨hx, hb, hml, hown, hts⟩ hK hP hA hS (c_X12_isBowler l D cI cL ad hJ σ τ a1 (A1) t1 h55_6) cw_RX12_146 (jc_55 cI cL ad σ τ) rfl ⟨Nat.le_of_ble_eq_true rfl, Nat.le_of_ble_eq_true rfl⟩ rfl rfl rfl hl.1 rfl (Nat.le_of_ble_eq_true rfl) dX12_worth_2 ⟨Nat.zero_le _, Nat.zero_le _⟩ (fun r2 σ1 τ1 H locs h1 hP hS => ?_)
  obtain ⟨⟨rfl, rfl⟩, h1⟩ := h1
  have h3 := h1
  obtain ⟨q5, k4⟩ := h3
  have q5 := q5.symm
  subst q5
  refine lv_if_eq (tgt := 27) hx hb dX12_worth_5 (by decide) (fun _ => ?_) (fun c => absurd (by decide) c)
  refine lv_ldc (v := (-2000000000)) hx hb hown (hts _ kw_11_4) dX12_worth_27 ?_
  exact hret (-2000000000) σ τ _ _ _ _ rfl ⟨trivial, (by (repeat' split) <;> first | rfl | omega | exact jsame jz_m2000000000 t1 (by omega) | exact jsame jz_m2000000000 t2 (by omega) | (exfalso; omega))⟩ hP hS dX12_worth_29
set_option maxHeartbeats 4000000 in
set_option maxRecDepth 100000 in
theorem c_X12_kept (l : Launch) (D : va_G) (cI cL : ClassId) (ad : Nat → Nat) (hJ : jD ad) (σ : Nat → Nat → Int32) (τ : Nat → Nat → Int64) (a1 : Int32) (A1 : Int) (t1 : a1.toInt = A1) (h55_6 : σ 55 6 = 0) : jM l yX12_kept cX12_kept 4 (some .int) ({ frames := 2, cells := 0, slots := 0, locals := 46 }) D cI cL ad [.ref (ad 55), .int a1] σ τ (fun r σ' τ' => True ∧ r = (-1)) := by
  refine jM.of hJ (by decide +kernel) (nt := .int) rfl (Nat.le_of_ble_eq_true rfl) ?_
  intro p e s m args below meth c Q ls hC hret hl hP
  obtain ⟨hx, hb, hr, hml, hown, hts, hK, -, hlocks⟩ := hC
  have hown : s.vm.findClass RX12 = some m.cls := hown
  have hS : va_S (jA ad) s.heap s.heap [] := va_S.rf
  have hA : ∀ q, jA ad q → jA ad q := fun _ h => h
  have hl : lv_has ls 4 [(0, .ref (ad 55)), (1, .int a1)] := hl
  have g1 := jrg t1
  refine lv_aload_n hx hb dX12_kept_0 rfl (lv_at hl 0 rfl) ?_
  refine lv_iload_n hx hb dX12_kept_1 rfl (lv_at hl 1 rfl) ?_
  refine jcallV (As := [.int a1]) (rest := []) ⟨hx, hb, hml, hown, hts⟩ hK hP hA hS (c_X12_isBowler l D cI cL ad hJ σ τ a1 (A1) t1 h55_6) cw_RX12_146 (jc_55 cI cL ad σ τ) rfl ⟨Nat.le_of_ble_eq_true rfl, Nat.le_of_ble_eq_true rfl⟩ rfl rfl rfl hl.1 rfl (Nat.le_of_ble_eq_true rfl) dX12_kept_2 ⟨Nat.zero_le _, Nat.zero_le _⟩ (fun r2 σ1 τ1 H locs h1 hP hS => ?_)
  obtain ⟨⟨rfl, rfl⟩, h1⟩ := h1
  have h3 := h1
  obtain ⟨q5, k4⟩ := h3
  have q5 := q5.symm
  subst q5
  refine lv_if_ne (tgt := 10) hx hb dX12_kept_5 (by decide) (fun c => absurd (by decide) c) (fun _ => ?_)
  refine lv_iconst (v := (-1)) hx hb dX12_kept_8 (by decide) ?_
  exact hret (-1) σ τ _ _ _ _ rfl ⟨trivial, (by (repeat' split) <;> first | rfl | omega | exact jsame jz_m1 t1 (by omega) | (exfalso; omega))⟩ hP hS dX12_kept_9
set_option maxHeartbeats 4000000 in
set_option maxRecDepth 100000 in
theorem c_X12_learn (l : Launch) (D : va_G) (cI cL : ClassId) (ad : Nat → Nat) (hJ : jD ad) (σ : Nat → Nat → Int32) (τ : Nat → Nat → Int64) (a1 : Int32) (A1 : Int) (t1 : a1.toInt = A1) (a2 : Int32) (A2 : Int) (t2 : a2.toInt = A2) (h55_6 : σ 55 6 = 0) : jM l yX12_learn cX12_learn 6 (some .int) ({ frames := 2, cells := 0, slots := 0, locals := 46 }) D cI cL ad [.ref (ad 55), .int a1, .int a2] σ τ (fun r σ' τ' => True ∧ r = (-1)) := by
  refine jM.of hJ (by decide +kernel) (nt := .int) rfl (Nat.le_of_ble_eq_true rfl) ?_
  intro p e s m args below meth c Q ls hC hret hl hP
  obtain ⟨hx, hb, hr, hml, hown, hts, hK, -, hlocks⟩ := hC
  have hown : s.vm.findClass RX12 = some m.cls := hown
  have hS : va_S (jA ad) s.heap s.heap [] := va_S.rf
  have hA : ∀ q, jA ad q → jA ad q := fun _ h => h
  have hl : lv_has ls 6 [(0, .ref (ad 55)), (1, .int a1), (2, .int a2)] := hl
  have g1 := jrg t1
  have g2 := jrg t2
  refine lv_iload_n hx hb dX12_learn_0 rfl (lv_at hl 1 rfl) ?_
  refine lv_if_lt (tgt := 46) hx hb dX12_learn_1 (by decide) (fun c1 => ?_) (fun c1 => ?_)
  · have kc1 := jlt c1 t1 jz_0
    refine lv_iconst (v := (-1)) hx hb dX12_learn_46 (by decide) ?_
    exact hret (-1) σ τ _ _ _ _ rfl ⟨trivial, (by (repeat' split) <;> first | rfl | omega | exact jsame jz_m1 t1 (by omega) | exact jsame jz_m1 t2 (by omega) | (exfalso; omega))⟩ hP hS dX12_learn_47
  · have kc1 := jnlt c1 t1 jz_0
    refine lv_aload_n hx hb dX12_learn_4 rfl (lv_at hl 0 rfl) ?_
    refine lv_iload_n hx hb dX12_learn_5 rfl (lv_at hl 1 rfl) ?_
    refine lv_bipush (v := 10) hx hb dX12_learn_6 (by decide) ?_
    refine lv_idiv hx hb dX12_learn_8 (by decide) ?_
    refine lv_topi (fun x2 ex2 => ?_)
    have tx2 : x2.toInt = (A1 / 10) := jdiv ex2 t1 jz_10 (by omega) (by omega)
    refine jcallV (As := [.int x2]) (rest := []) ⟨hx, hb, hml, hown, hts⟩ hK hP hA hS (c_X12_isBowler l D cI cL ad hJ σ τ x2 ((A1 / 10)) tx2 h55_6) cw_RX12_146 (jc_55 cI cL ad σ τ) rfl ⟨Nat.le_of_ble_eq_true rfl, Nat.le_of_ble_eq_true rfl⟩ rfl rfl rfl hl.1 rfl (Nat.le_of_ble_eq_true rfl) dX12_learn_9 ⟨Nat.zero_le _, Nat.zero_le _⟩ (fun r4 σ3 τ3 H locs h3 hP hS => ?_)
    obtain ⟨⟨rfl, rfl⟩, h3⟩ := h3
    have h5 := h3
    obtain ⟨q7, k6⟩ := h5
    have q7 := q7.symm
    subst q7
    refine lv_if_eq (tgt := 46) hx hb dX12_learn_12 (by decide) (fun _ => ?_) (fun c => absurd (by decide) c)
    refine lv_iconst (v := (-1)) hx hb dX12_learn_46 (by decide) ?_
    exact hret (-1) σ τ _ _ _ _ rfl ⟨trivial, (by (repeat' split) <;> first | rfl | omega | exact jsame jz_m1 t1 (by omega) | exact jsame jz_m1 t2 (by omega) | (exfalso; omega))⟩ hP hS dX12_learn_47
set_option maxHeartbeats 4000000 in
set_option maxRecDepth 100000 in
theorem c_X12_book (l : Launch) (D : va_G) (cI cL : ClassId) (ad : Nat → Nat) (hJ : jD ad) (σ : Nat → Nat → Int32) (τ : Nat → Nat → Int64) (a1 : Int32) (A1 : Int) (t1 : a1.toInt = A1) (a2 : Int32) (A2 : Int) (t2 : a2.toInt = A2) (h55_6 : σ 55 6 = 0) : jM l yX12_book cX12_book 3 (some .int) ({ frames := 2, cells := 0, slots := 0, locals := 46 }) D cI cL ad [.ref (ad 55), .int a1, .int a2] σ τ (fun r σ' τ' => True ∧ r = (-1)) := by
  refine jM.of hJ (by decide +kernel) (nt := .int) rfl (Nat.le_of_ble_eq_true rfl) ?_
  intro p e s m args below meth c Q ls hC hret hl hP
  obtain ⟨hx, hb, hr, hml, hown, hts, hK, -, hlocks⟩ := hC
  have hown : s.vm.findClass RX12 = some m.cls := hown
  have hS : va_S (jA ad) s.heap s.heap [] := va_S.rf
  have hA : ∀ q, jA ad q → jA ad q := fun _ h => h
  have hl : lv_has ls 3 [(0, .ref (ad 55)), (1, .int a1), (2, .int a2)] := hl
  have g1 := jrg t1
  have g2 := jrg t2
  refine lv_aload_n hx hb dX12_book_0 rfl (lv_at hl 0 rfl) ?_
  refine lv_iload_n hx hb dX12_book_1 rfl (lv_at hl 1 rfl) ?_
  refine jcallV (As := [.int a1]) (rest := []) ⟨hx, hb, hml, hown, hts⟩ hK hP hA hS (c_X12_isBowler l D cI cL ad hJ σ τ a1 (A1) t1 h55_6) cw_RX12_146 (jc_55 cI cL ad σ τ) rfl ⟨Nat.le_of_ble_eq_true rfl, Nat.le_of_ble_eq_true rfl⟩ rfl rfl rfl hl.1 rfl (Nat.le_of_ble_eq_true rfl) dX12_book_2 ⟨Nat.zero_le _, Nat.zero_le _⟩ (fun r2 σ1 τ1 H locs h1 hP hS => ?_)
  obtain ⟨⟨rfl, rfl⟩, h1⟩ := h1
  have h3 := h1
  obtain ⟨q5, k4⟩ := h3
  have q5 := q5.symm
  subst q5
  refine lv_if_eq (tgt := 18) hx hb dX12_book_5 (by decide) (fun _ => ?_) (fun c => absurd (by decide) c)
  refine lv_iconst (v := (-1)) hx hb dX12_book_18 (by decide) ?_
  exact hret (-1) σ τ _ _ _ _ rfl ⟨trivial, (by (repeat' split) <;> first | rfl | omega | exact jsame jz_m1 t1 (by omega) | exact jsame jz_m1 t2 (by omega) | (exfalso; omega))⟩ hP hS dX12_book_19
set_option maxHeartbeats 4000000 in
set_option maxRecDepth 100000 in
theorem c_X12_close (l : Launch) (D : va_G) (cI cL : ClassId) (ad : Nat → Nat) (hJ : jD ad) (σ : Nat → Nat → Int32) (τ : Nat → Nat → Int64) (h55_47 : σ 55 47 = 0) : jM l yX12_close cX12_close 2 (some .int) ({ frames := 0, cells := 0, slots := 0, locals := 0 }) D cI cL ad [.ref (ad 55)] σ τ (fun r σ' τ' => True ∧ r = (0)) := by
  refine jM.of hJ (by decide +kernel) (nt := .int) rfl (Nat.le_of_ble_eq_true rfl) ?_
  intro p e s m args below meth c Q ls hC hret hl hP
  obtain ⟨hx, hb, hr, hml, hown, hts, hK, -, hlocks⟩ := hC
  have hown : s.vm.findClass RX12 = some m.cls := hown
  have hS : va_S (jA ad) s.heap s.heap [] := va_S.rf
  have hA : ∀ q, jA ad q → jA ad q := fun _ h => h
  have hl : lv_has ls 2 [(0, .ref (ad 55))] := hl
  refine lv_aload_n hx hb dX12_close_0 rfl (lv_at hl 0 rfl) ?_
  refine va_get (D := D) hx hb hts inlX12 hown hK hP 55 (jc_55 cI cL ad σ τ) rfl 47 (by decide) (hts _ kw_15_15) (fun _ h9 => h9) rfl dX12_close_1 ?_
  refine jtopr h55_47 ?_
  refine lv_istore_n (lv' := [(1, .int 0), (0, .ref (ad 55))]) hx hb dX12_close_4 rfl hl (by decide) rfl (fun ls hl => ?_)
  refine lv_aload_n hx hb dX12_close_5 rfl (lv_at hl 1 rfl) ?_
  refine lv_iconst (v := 0) hx hb dX12_close_6 (by decide) ?_
  refine jput (ty := .int) hx hb hts inlX12 tyX12 tyX12_ok nmX12 hown hK hP hJ hA hS (jc_55 cI cL ad σ τ) rfl (k := 47) (by decide) (Nat.le_of_ble_eq_true rfl) (jp_55_47 cI cL ad σ τ 0) (hts _ kw_15_15) (fun _ h9 => h9) rfl (by decide +kernel) rfl rfl dX12_close_7 (fun σ1 H locs eσ1 hP hS => ?_)
  refine lv_iload_n hx hb dX12_close_10 rfl (lv_at hl 0 rfl) ?_
  exact hret 0 σ1 τ _ _ _ _ rfl ⟨trivial, (by (repeat' split) <;> first | rfl | omega | (exfalso; omega))⟩ hP hS dX12_close_11
set_option maxHeartbeats 4000000 in
set_option maxRecDepth 100000 in
theorem c_X12_cost (l : Launch) (D : va_G) (cI cL : ClassId) (ad : Nat → Nat) (hJ : jD ad) (σ : Nat → Nat → Int32) (τ : Nat → Nat → Int64) (a1 : Int32) (A1 : Int) (t1 : a1.toInt = A1) (h55_47 : σ 55 47 = 0) : jM l yX12_cost cX12_cost 2 (some .int) ({ frames := 1, cells := 0, slots := 0, locals := 25 }) D cI cL ad [.ref (ad 55), .int a1] σ τ (fun r σ' τ' => True ∧ r = (-2000000000)) := by
  refine jM.of hJ (by decide +kernel) (nt := .int) rfl (Nat.le_of_ble_eq_true rfl) ?_
  intro p e s m args below meth c Q ls hC hret hl hP
  obtain ⟨hx, hb, hr, hml, hown, hts, hK, -, hlocks⟩ := hC
  have hown : s.vm.findClass RX12 = some m.cls := hown
  have hS : va_S (jA ad) s.heap s.heap [] := va_S.rf
  have hA : ∀ q, jA ad q → jA ad q := fun _ h => h
  have hl : lv_has ls 2 [(0, .ref (ad 55)), (1, .int a1)] := hl
  have g1 := jrg t1
  refine lv_iload_n hx hb dX12_cost_0 rfl (lv_at hl 1 rfl) ?_
  refine lv_i2l (v := a1.toInt64) hx hb dX12_cost_1 rfl ?_
  refine lv_lconst (v := 0) hx hb dX12_cost_2 (by decide) ?_
  refine lv_aload_n hx hb dX12_cost_3 rfl (lv_at hl 0 rfl) ?_
  refine va_get (D := D) hx hb hts inlX12 hown hK hP 55 (jc_55 cI cL ad σ τ) rfl 47 (by decide) (hts _ kw_15_15) (fun _ h9 => h9) rfl dX12_cost_4 ?_
  refine jtopr h55_47 ?_
  refine lv_iconst (v := 1) hx hb dX12_cost_7 (by decide) ?_
  refine lv_isub hx hb dX12_cost_8 ?_
  refine jtopr (y := (-1)) (by decide) ?_
  refine lv_i2l (v := (-1)) hx hb dX12_cost_9 (by decide) ?_
  refine jcallS (As := [.long a1.toInt64, .long 0, .long (-1)]) (rest := []) ⟨hx, hb, hml, hown, hts⟩ hK hP hA hS (c_X12_within l D cI cL ad hJ σ τ a1.toInt64 (A1) (jtoL t1) 0 (0) jzl_0 (-1) ((-1)) jzl_m1) cw_RX12_136 ⟨Nat.le_of_ble_eq_true rfl, Nat.le_of_ble_eq_true rfl⟩ rfl rfl rfl hl.1 rfl (Nat.le_of_ble_eq_true rfl) dX12_cost_10 ⟨Nat.zero_le _, Nat.zero_le _⟩ (fun r2 σ1 τ1 H locs h1 hP hS => ?_)
  obtain ⟨⟨rfl, rfl⟩, h1⟩ := h1
  rcases h1 with h3 | h4
  · obtain ⟨q6, k5⟩ := h3
    exact absurd (by omega : False) id
  · obtain ⟨q8, k7⟩ := h4
    have q8 := q8.symm
    subst q8
    refine lv_if_eq (tgt := 27) hx hb dX12_cost_13 (by decide) (fun _ => ?_) (fun c => absurd (by decide) c)
    refine lv_ldc (v := (-2000000000)) hx hb hown (hts _ kw_11_4) dX12_cost_27 ?_
    refine lv_goto (tgt := 37) hx hb dX12_cost_29 (by decide) ?_
    exact hret (-2000000000) σ τ _ _ _ _ rfl ⟨trivial, (by (repeat' split) <;> first | rfl | omega | exact jsame jz_m2000000000 t1 (by omega) | (exfalso; omega))⟩ hP hS dX12_cost_37
set_option maxHeartbeats 4000000 in
set_option maxRecDepth 100000 in
theorem c_X12_lost (l : Launch) (D : va_G) (cI cL : ClassId) (ad : Nat → Nat) (hJ : jD ad) (σ : Nat → Nat → Int32) (τ : Nat → Nat → Int64) (a1 : Int32) (A1 : Int) (t1 : a1.toInt = A1) (h55_47 : σ 55 47 = 0) : jM l yX12_lost cX12_lost 7 (some .int) ({ frames := 1, cells := 0, slots := 0, locals := 25 }) D cI cL ad [.ref (ad 55), .int a1] σ τ (fun r σ' τ' => True ∧ r = (-1)) := by
  refine jM.of hJ (by decide +kernel) (nt := .int) rfl (Nat.le_of_ble_eq_true rfl) ?_
  intro p e s m args below meth c Q ls hC hret hl hP
  obtain ⟨hx, hb, hr, hml, hown, hts, hK, -, hlocks⟩ := hC
  have hown : s.vm.findClass RX12 = some m.cls := hown
  have hS : va_S (jA ad) s.heap s.heap [] := va_S.rf
  have hA : ∀ q, jA ad q → jA ad q := fun _ h => h
  have hl : lv_has ls 7 [(0, .ref (ad 55)), (1, .int a1)] := hl
  have g1 := jrg t1
  refine lv_iload_n hx hb dX12_lost_0 rfl (lv_at hl 1 rfl) ?_
  refine lv_i2l (v := a1.toInt64) hx hb dX12_lost_1 rfl ?_
  refine lv_lconst (v := 0) hx hb dX12_lost_2 (by decide) ?_
  refine lv_ldc2 (v := 2) hx hb hown (hts _ kw_11_3) dX12_lost_3 ?_
  refine jcallS (As := [.long a1.toInt64, .long 0, .long 2]) (rest := []) ⟨hx, hb, hml, hown, hts⟩ hK hP hA hS (c_X12_within l D cI cL ad hJ σ τ a1.toInt64 (A1) (jtoL t1) 0 (0) jzl_0 2 (2) jzl_2) cw_RX12_136 ⟨Nat.le_of_ble_eq_true rfl, Nat.le_of_ble_eq_true rfl⟩ rfl rfl rfl hl.1 rfl (Nat.le_of_ble_eq_true rfl) dX12_lost_6 ⟨Nat.zero_le _, Nat.zero_le _⟩ (fun r2 σ1 τ1 H locs h1 hP hS => ?_)
  obtain ⟨⟨rfl, rfl⟩, h1⟩ := h1
  rcases h1 with h3 | h4
  · obtain ⟨q6, k5⟩ := h3
    have q6 := q6.symm
    subst q6
    refine lv_if_eq (tgt := 19) hx hb dX12_lost_9 (by decide) (fun c => absurd c (by decide)) (fun _ => ?_)
    refine lv_aload_n hx hb dX12_lost_12 rfl (lv_at hl 0 rfl) ?_
    refine va_get (D := D) hx hb hts inlX12 hown hK hP 55 (jc_55 cI cL ad σ τ) rfl 47 (by decide) (hts _ kw_15_15) (fun _ h9 => h9) rfl dX12_lost_13 ?_
    refine jtopr h55_47 ?_
    refine lv_if_ne (tgt := 21) hx hb dX12_lost_16 (by decide) (fun c => absurd (by decide) c) (fun _ => ?_)
    refine lv_iconst (v := (-1)) hx hb dX12_lost_19 (by decide) ?_
    exact hret (-1) σ τ _ _ _ _ rfl ⟨trivial, (by (repeat' split) <;> first | rfl | omega | exact jsame jz_m1 t1 (by omega) | (exfalso; omega))⟩ hP hS dX12_lost_20
  · obtain ⟨q8, k7⟩ := h4
    have q8 := q8.symm
    subst q8
    refine lv_if_eq (tgt := 19) hx hb dX12_lost_9 (by decide) (fun _ => ?_) (fun c => absurd (by decide) c)
    refine lv_iconst (v := (-1)) hx hb dX12_lost_19 (by decide) ?_
    exact hret (-1) σ τ _ _ _ _ rfl ⟨trivial, (by (repeat' split) <;> first | rfl | omega | exact jsame jz_m1 t1 (by omega) | (exfalso; omega))⟩ hP hS dX12_lost_20
set_option maxHeartbeats 4000000 in
set_option maxRecDepth 100000 in
theorem c_X12_fielded (l : Launch) (D : va_G) (cI cL : ClassId) (ad : Nat → Nat) (hJ : jD ad) (σ : Nat → Nat → Int32) (τ : Nat → Nat → Int64) (a1 : Int32) (A1 : Int) (t1 : a1.toInt = A1) (a2 : Int32) (A2 : Int) (t2 : a2.toInt = A2) (h55_6 : σ 55 6 = 0) (h55_9 : σ 55 9 = 0) (h55_10 : σ 55 10 = 1) (h55_12 : σ 55 12 = 8) : jM l yX12_fielded cX12_fielded 9 (some .int) ({ frames := 3, cells := 0, slots := 0, locals := 68 }) D cI cL ad [.ref (ad 55), .int a1, .int a2] σ τ (fun r σ' τ' => True ∧ r = (if A2 = 1 ∨ (A2 = 0 ∧ 0 ≤ A1 ∧ A1 ≤ 3) then 0 else -1)) := by
  refine jM.of hJ (by decide +kernel) (nt := .int) rfl (Nat.le_of_ble_eq_true rfl) ?_
  intro p e s m args below meth c Q ls hC hret hl hP
  obtain ⟨hx, hb, hr, hml, hown, hts, hK, -, hlocks⟩ := hC
  have hown : s.vm.findClass RX12 = some m.cls := hown
  have hS : va_S (jA ad) s.heap s.heap [] := va_S.rf
  have hA : ∀ q, jA ad q → jA ad q := fun _ h => h
  have hl : lv_has ls 9 [(0, .ref (ad 55)), (1, .int a1), (2, .int a2)] := hl
  have g1 := jrg t1
  have g2 := jrg t2
  refine lv_iload_n hx hb dX12_fielded_0 rfl (lv_at hl 2 rfl) ?_
  refine lv_i2l (v := a2.toInt64) hx hb dX12_fielded_1 rfl ?_
  refine lv_lconst (v := 0) hx hb dX12_fielded_2 (by decide) ?_
  refine lv_lconst (v := 1) hx hb dX12_fielded_3 (by decide) ?_
  refine jcallS (As := [.long a2.toInt64, .long 0, .long 1]) (rest := []) ⟨hx, hb, hml, hown, hts⟩ hK hP hA hS (c_X12_within l D cI cL ad hJ σ τ a2.toInt64 (A2) (jtoL t2) 0 (0) jzl_0 1 (1) jzl_1) cw_RX12_136 ⟨Nat.le_of_ble_eq_true rfl, Nat.le_of_ble_eq_true rfl⟩ rfl rfl rfl hl.1 rfl (Nat.le_of_ble_eq_true rfl) dX12_fielded_4 ⟨Nat.zero_le _, Nat.zero_le _⟩ (fun r2 σ1 τ1 H locs h1 hP hS => ?_)
  obtain ⟨⟨rfl, rfl⟩, h1⟩ := h1
  rcases h1 with h3 | h4
  · obtain ⟨q6, k5⟩ := h3
    have q6 := q6.symm
    subst q6
    refine lv_if_eq (tgt := 26) hx hb dX12_fielded_7 (by decide) (fun c => absurd c (by decide)) (fun _ => ?_)
    refine lv_iload_n hx hb dX12_fielded_10 rfl (lv_at hl 2 rfl) ?_
    refine lv_if_ne (tgt := 28) hx hb dX12_fielded_11 (by decide) (fun c7 => ?_) (fun c7 => ?_)
    · have kc7 := jne c7 t2 jz_0
      refine lv_aload_n hx hb dX12_fielded_28 rfl (lv_at hl 0 rfl) ?_
      refine va_get (D := D) hx hb hts inlX12 hown hK hP 55 (jc_55 cI cL ad σ τ) rfl 12 (by decide) (hts _ kw_8_16) (fun _ h9 => h9) rfl dX12_fielded_29 ?_
      refine jtopr h55_12 ?_
      refine lv_bipush (v := 8) hx hb dX12_fielded_32 (by decide) ?_
      refine lv_icmp_le (tgt := 40) hx hb dX12_fielded_34 (by decide) (fun _ => ?_) (fun c => absurd (by decide) c)
      refine lv_aload_n hx hb dX12_fielded_40 rfl (lv_at hl 0 rfl) ?_
      refine va_get (D := D) hx hb hts inlX12 hown hK hP 55 (jc_55 cI cL ad σ τ) rfl 9 (by decide) (hts _ kw_12_14) (fun _ h9 => h9) rfl dX12_fielded_41 ?_
      refine jtopr h55_9 ?_
      refine lv_istore_n (lv' := [(3, .int 0), (0, .ref (ad 55)), (1, .int a1), (2, .int a2)]) hx hb dX12_fielded_44 rfl hl (by decide) rfl (fun ls hl => ?_)
      refine lv_iconst (v := 0) hx hb dX12_fielded_45 (by decide) ?_
      refine lv_istore (lv' := [(4, .int 0), (3, .int 0), (0, .ref (ad 55)), (1, .int a1), (2, .int a2)]) hx hb dX12_fielded_46 hl (by decide) rfl (fun ls hl => ?_)
      refine lv_ldcw (v := 2000000000) hx hb hown (hts _ kw_34_4) dX12_fielded_48 ?_
      refine lv_istore (lv' := [(5, .int 2000000000), (4, .int 0), (3, .int 0), (0, .ref (ad 55)), (1, .int a1), (2, .int a2)]) hx hb dX12_fielded_51 hl (by decide) rfl (fun ls hl => ?_)
      refine lv_iconst (v := 0) hx hb dX12_fielded_53 (by decide) ?_
      refine lv_istore (lv' := [(6, .int 0), (5, .int 2000000000), (4, .int 0), (3, .int 0), (0, .ref (ad 55)), (1, .int a1), (2, .int a2)]) hx hb dX12_fielded_54 hl (by decide) rfl (fun ls hl => ?_)
      refine lv_iconst (v := 0) hx hb dX12_fielded_56 (by decide) ?_
      refine lv_istore (lv' := [(7, .int 0), (6, .int 0), (5, .int 2000000000), (4, .int 0), (3, .int 0), (0, .ref (ad 55)), (1, .int a1), (2, .int a2)]) hx hb dX12_fielded_57 hl (by decide) rfl (fun ls hl => ?_)
      refine lv_iload hx hb dX12_fielded_59 (lv_at hl 0 rfl) ?_
      refine lv_iconst (v := 4) hx hb dX12_fielded_61 (by decide) ?_
      refine lv_icmp_ge (tgt := 129) hx hb dX12_fielded_62 (by decide) (fun c => absurd c (by decide)) (fun _ => ?_)
      refine lv_aload_n hx hb dX12_fielded_65 rfl (lv_at hl 5 rfl) ?_
      refine lv_iload hx hb dX12_fielded_66 (lv_at hl 0 rfl) ?_
      refine jput (ty := .int) hx hb hts inlX12 tyX12 tyX12_ok nmX12 hown hK hP hJ hA hS (jc_55 cI cL ad σ τ) rfl (k := 9) (by decide) (Nat.le_of_ble_eq_true rfl) (jp_55_9 cI cL ad σ τ 0) (hts _ kw_12_14) (fun _ h9 => h9) rfl (by decide +kernel) rfl rfl dX12_fielded_68 (fun σ8 H locs eσ8 hP hS => ?_)
      refine lv_iload_n hx hb dX12_fielded_71 rfl (lv_at hl 7 rfl) ?_
      refine lv_if_ne (tgt := 87) hx hb dX12_fielded_72 (by decide) (fun c9 => ?_) (fun c => absurd (jeq c t2 jz_0) (by omega))
      have kc9 := jne c9 t2 jz_0
      refine lv_aload_n hx hb dX12_fielded_87 rfl (lv_at hl 5 rfl) ?_
      have m10 : σ8 55 6 = 0 := (by rw [eσ8, jup_k (by decide)]; exact h55_6)
      have m11 : σ8 55 10 = 1 := (by rw [eσ8, jup_k (by decide)]; exact h55_10)
      have m12 : σ8 55 12 = 8 := (by rw [eσ8, jup_k (by decide)]; exact h55_12)
      refine jcallV (As := []) (rest := []) ⟨hx, hb, hml, hown, hts⟩ hK hP hA hS (c_X12_bestNow l D cI cL ad hJ σ8 τ m10 m11 m12) cw_RX12_346 (jc_55 cI cL ad σ8 τ) rfl ⟨Nat.le_of_ble_eq_true rfl, Nat.le_of_ble_eq_true rfl⟩ rfl rfl rfl hl.1 rfl (Nat.le_of_ble_eq_true rfl) dX12_fielded_88 ⟨Nat.zero_le _, Nat.zero_le _⟩ (fun r14 σ13 τ13 H locs h13 hP hS => ?_)
      obtain ⟨f15, f19, m16, m17, m18, h13⟩ := h13
      have h20 := h13
      obtain ⟨q22, k21⟩ := h20
      have q22 := q22.symm
      subst q22
      refine lv_istore (lv' := [(8, .int 0), (7, .int 0), (6, .int 0), (5, .int 2000000000), (4, .int 0), (3, .int 0), (0, .ref (ad 55)), (1, .int a1), (2, .int a2)]) hx hb dX12_fielded_91 hl (by decide) rfl (fun ls hl => ?_)
      refine lv_iload hx hb dX12_fielded_93 (lv_at hl 1 rfl) ?_
      refine lv_iload_n hx hb dX12_fielded_95 rfl (lv_at hl 7 rfl) ?_
      refine lv_icmp_ne (tgt := 104) hx hb dX12_fielded_96 (by decide) (fun c23 => ?_) (fun c23 => ?_)
      · have kc23 := jne c23 jz_0 t1
        refine lv_iload hx hb dX12_fielded_104 (lv_at hl 2 rfl) ?_
        refine lv_istore (lv' := [(6, .int 0), (8, .int 0), (7, .int 0), (5, .int 2000000000), (4, .int 0), (3, .int 0), (0, .ref (ad 55)), (1, .int a1), (2, .int a2)]) hx hb dX12_fielded_106 hl (by decide) rfl (fun ls hl => ?_)
        refine lv_iload hx hb dX12_fielded_108 (lv_at hl 1 rfl) ?_
        refine lv_iload hx hb dX12_fielded_110 (lv_at hl 3 rfl) ?_
        refine lv_icmp_ge (tgt := 123) hx hb dX12_fielded_112 (by decide) (fun c => absurd c (by decide)) (fun _ => ?_)
        refine lv_iload hx hb dX12_fielded_115 (lv_at hl 2 rfl) ?_
        refine lv_istore (lv' := [(4, .int 0), (6, .int 0), (8, .int 0), (7, .int 0), (5, .int 2000000000), (3, .int 0), (0, .ref (ad 55)), (1, .int a1), (2, .int a2)]) hx hb dX12_fielded_117 hl (by decide) rfl (fun ls hl => ?_)
        refine lv_iload hx hb dX12_fielded_119 (lv_at hl 2 rfl) ?_
        refine lv_istore (lv' := [(5, .int 0), (4, .int 0), (6, .int 0), (8, .int 0), (7, .int 0), (3, .int 0), (0, .ref (ad 55)), (1, .int a1), (2, .int a2)]) hx hb dX12_fielded_121 hl (by decide) rfl (fun ls hl => ?_)
        refine lv_iinc (v := 1) (lv' := [(7, .int 1), (5, .int 0), (4, .int 0), (6, .int 0), (8, .int 0), (3, .int 0), (0, .ref (ad 55)), (1, .int a1), (2, .int a2)]) hx hb dX12_fielded_123 hl (k := 4) rfl (by decide) (by decide) rfl (fun ls hl => ?_)
        refine lv_goto (tgt := 59) hx hb dX12_fielded_126 (by decide) ?_
        refine lv_iload hx hb dX12_fielded_59 (lv_at hl 0 rfl) ?_
        refine lv_iconst (v := 4) hx hb dX12_fielded_61 (by decide) ?_
        refine lv_icmp_ge (tgt := 129) hx hb dX12_fielded_62 (by decide) (fun c => absurd c (by decide)) (fun _ => ?_)
        refine lv_aload_n hx hb dX12_fielded_65 rfl (lv_at hl 6 rfl) ?_
        refine lv_iload hx hb dX12_fielded_66 (lv_at hl 0 rfl) ?_
        refine jput (ty := .int) hx hb hts inlX12 tyX12 tyX12_ok nmX12 hown hK hP hJ hA hS (jc_55 cI cL ad σ13 τ13) rfl (k := 9) (by decide) (Nat.le_of_ble_eq_true rfl) (jp_55_9 cI cL ad σ13 τ13 1) (hts _ kw_12_14) (fun _ h9 => h9) rfl (by decide +kernel) rfl rfl dX12_fielded_68 (fun σ24 H locs eσ24 hP hS => ?_)
        refine lv_iload_n hx hb dX12_fielded_71 rfl (lv_at hl 8 rfl) ?_
        refine lv_if_ne (tgt := 87) hx hb dX12_fielded_72 (by decide) (fun c25 => ?_) (fun c => absurd (jeq c t2 jz_0) (by omega))
        have kc25 := jne c25 t2 jz_0
        refine lv_aload_n hx hb dX12_fielded_87 rfl (lv_at hl 6 rfl) ?_
        have m26 : σ24 55 6 = 0 := (by rw [eσ24, jup_k (by decide)]; exact (by rw [f19 6 (by omega)]; exact m10))
        have m27 : σ24 55 10 = 1 := (by rw [eσ24, jup_k (by decide)]; exact (by rw [f19 10 (by omega)]; exact m11))
        have m28 : σ24 55 12 = 8 := (by rw [eσ24, jup_k (by decide)]; exact (by rw [f19 12 (by omega)]; exact m12))
        refine jcallV (As := []) (rest := []) ⟨hx, hb, hml, hown, hts⟩ hK hP hA hS (c_X12_bestNow l D cI cL ad hJ σ24 τ13 m26 m27 m28) cw_RX12_346 (jc_55 cI cL ad σ24 τ13) rfl ⟨Nat.le_of_ble_eq_true rfl, Nat.le_of_ble_eq_true rfl⟩ rfl rfl rfl hl.1 rfl (Nat.le_of_ble_eq_true rfl) dX12_fielded_88 ⟨Nat.zero_le _, Nat.zero_le _⟩ (fun r30 σ29 τ29 H locs h29 hP hS => ?_)
        obtain ⟨f31, f35, m32, m33, m34, h29⟩ := h29
        have h36 := h29
        obtain ⟨q38, k37⟩ := h36
        have q38 := q38.symm
        subst q38
        refine lv_istore (lv' := [(8, .int 0), (7, .int 1), (5, .int 0), (4, .int 0), (6, .int 0), (3, .int 0), (0, .ref (ad 55)), (1, .int a1), (2, .int a2)]) hx hb dX12_fielded_91 hl (by decide) rfl (fun ls hl => ?_)
        refine lv_iload hx hb dX12_fielded_93 (lv_at hl 1 rfl) ?_
        refine lv_iload_n hx hb dX12_fielded_95 rfl (lv_at hl 7 rfl) ?_
        refine lv_icmp_ne (tgt := 104) hx hb dX12_fielded_96 (by decide) (fun c39 => ?_) (fun c39 => ?_)
        · have kc39 := jne c39 jz_1 t1
          refine lv_iload hx hb dX12_fielded_104 (lv_at hl 4 rfl) ?_
          refine lv_istore (lv' := [(6, .int 0), (8, .int 0), (7, .int 1), (5, .int 0), (4, .int 0), (3, .int 0), (0, .ref (ad 55)), (1, .int a1), (2, .int a2)]) hx hb dX12_fielded_106 hl (by decide) rfl (fun ls hl => ?_)
          refine lv_iload hx hb dX12_fielded_108 (lv_at hl 1 rfl) ?_
          refine lv_iload hx hb dX12_fielded_110 (lv_at hl 3 rfl) ?_
          refine lv_icmp_ge (tgt := 123) hx hb dX12_fielded_112 (by decide) (fun _ => ?_) (fun c => absurd (by decide) c)
          refine lv_iinc (v := 2) (lv' := [(7, .int 2), (6, .int 0), (8, .int 0), (5, .int 0), (4, .int 0), (3, .int 0), (0, .ref (ad 55)), (1, .int a1), (2, .int a2)]) hx hb dX12_fielded_123 hl (k := 2) rfl (by decide) (by decide) rfl (fun ls hl => ?_)
          refine lv_goto (tgt := 59) hx hb dX12_fielded_126 (by decide) ?_
          refine lv_iload hx hb dX12_fielded_59 (lv_at hl 0 rfl) ?_
          refine lv_iconst (v := 4) hx hb dX12_fielded_61 (by decide) ?_
          refine lv_icmp_ge (tgt := 129) hx hb dX12_fielded_62 (by decide) (fun c => absurd c (by decide)) (fun _ => ?_)
          refine lv_aload_n hx hb dX12_fielded_65 rfl (lv_at hl 6 rfl) ?_
          refine lv_iload hx hb dX12_fielded_66 (lv_at hl 0 rfl) ?_
          refine jput (ty := .int) hx hb hts inlX12 tyX12 tyX12_ok nmX12 hown hK hP hJ hA hS (jc_55 cI cL ad σ29 τ29) rfl (k := 9) (by decide) (Nat.le_of_ble_eq_true rfl) (jp_55_9 cI cL ad σ29 τ29 2) (hts _ kw_12_14) (fun _ h9 => h9) rfl (by decide +kernel) rfl rfl dX12_fielded_68 (fun σ40 H locs eσ40 hP hS => ?_)
          refine lv_iload_n hx hb dX12_fielded_71 rfl (lv_at hl 8 rfl) ?_
          refine lv_if_ne (tgt := 87) hx hb dX12_fielded_72 (by decide) (fun c41 => ?_) (fun c => absurd (jeq c t2 jz_0) (by omega))
          have kc41 := jne c41 t2 jz_0
          refine lv_aload_n hx hb dX12_fielded_87 rfl (lv_at hl 6 rfl) ?_
          have m42 : σ40 55 6 = 0 := (by rw [eσ40, jup_k (by decide)]; exact (by rw [f35 6 (by omega)]; exact m26))
          have m43 : σ40 55 10 = 1 := (by rw [eσ40, jup_k (by decide)]; exact (by rw [f35 10 (by omega)]; exact m27))
          have m44 : σ40 55 12 = 8 := (by rw [eσ40, jup_k (by decide)]; exact (by rw [f35 12 (by omega)]; exact m28))
          refine jcallV (As := []) (rest := []) ⟨hx, hb, hml, hown, hts⟩ hK hP hA hS (c_X12_bestNow l D cI cL ad hJ σ40 τ29 m42 m43 m44) cw_RX12_346 (jc_55 cI cL ad σ40 τ29) rfl ⟨Nat.le_of_ble_eq_true rfl, Nat.le_of_ble_eq_true rfl⟩ rfl rfl rfl hl.1 rfl (Nat.le_of_ble_eq_true rfl) dX12_fielded_88 ⟨Nat.zero_le _, Nat.zero_le _⟩ (fun r46 σ45 τ45 H locs h45 hP hS => ?_)
          obtain ⟨f47, f51, m48, m49, m50, h45⟩ := h45
          have h52 := h45
          obtain ⟨q54, k53⟩ := h52
          have q54 := q54.symm
          subst q54
          refine lv_istore (lv' := [(8, .int 0), (7, .int 2), (6, .int 0), (5, .int 0), (4, .int 0), (3, .int 0), (0, .ref (ad 55)), (1, .int a1), (2, .int a2)]) hx hb dX12_fielded_91 hl (by decide) rfl (fun ls hl => ?_)
          refine lv_iload hx hb dX12_fielded_93 (lv_at hl 1 rfl) ?_
          refine lv_iload_n hx hb dX12_fielded_95 rfl (lv_at hl 7 rfl) ?_
          refine lv_icmp_ne (tgt := 104) hx hb dX12_fielded_96 (by decide) (fun c55 => ?_) (fun c55 => ?_)
          · have kc55 := jne c55 jz_2 t1
            refine lv_iload hx hb dX12_fielded_104 (lv_at hl 2 rfl) ?_
            refine lv_istore (lv' := [(6, .int 0), (8, .int 0), (7, .int 2), (5, .int 0), (4, .int 0), (3, .int 0), (0, .ref (ad 55)), (1, .int a1), (2, .int a2)]) hx hb dX12_fielded_106 hl (by decide) rfl (fun ls hl => ?_)
            refine lv_iload hx hb dX12_fielded_108 (lv_at hl 1 rfl) ?_
            refine lv_iload hx hb dX12_fielded_110 (lv_at hl 3 rfl) ?_
            refine lv_icmp_ge (tgt := 123) hx hb dX12_fielded_112 (by decide) (fun _ => ?_) (fun c => absurd (by decide) c)
            refine lv_iinc (v := 3) (lv' := [(7, .int 3), (6, .int 0), (8, .int 0), (5, .int 0), (4, .int 0), (3, .int 0), (0, .ref (ad 55)), (1, .int a1), (2, .int a2)]) hx hb dX12_fielded_123 hl (k := 2) rfl (by decide) (by decide) rfl (fun ls hl => ?_)
            refine lv_goto (tgt := 59) hx hb dX12_fielded_126 (by decide) ?_
            refine lv_iload hx hb dX12_fielded_59 (lv_at hl 0 rfl) ?_
            refine lv_iconst (v := 4) hx hb dX12_fielded_61 (by decide) ?_
            refine lv_icmp_ge (tgt := 129) hx hb dX12_fielded_62 (by decide) (fun c => absurd c (by decide)) (fun _ => ?_)
            refine lv_aload_n hx hb dX12_fielded_65 rfl (lv_at hl 6 rfl) ?_
            refine lv_iload hx hb dX12_fielded_66 (lv_at hl 0 rfl) ?_
            refine jput (ty := .int) hx hb hts inlX12 tyX12 tyX12_ok nmX12 hown hK hP hJ hA hS (jc_55 cI cL ad σ45 τ45) rfl (k := 9) (by decide) (Nat.le_of_ble_eq_true rfl) (jp_55_9 cI cL ad σ45 τ45 3) (hts _ kw_12_14) (fun _ h9 => h9) rfl (by decide +kernel) rfl rfl dX12_fielded_68 (fun σ56 H locs eσ56 hP hS => ?_)
            refine lv_iload_n hx hb dX12_fielded_71 rfl (lv_at hl 8 rfl) ?_
            refine lv_if_ne (tgt := 87) hx hb dX12_fielded_72 (by decide) (fun c57 => ?_) (fun c => absurd (jeq c t2 jz_0) (by omega))
            have kc57 := jne c57 t2 jz_0
            refine lv_aload_n hx hb dX12_fielded_87 rfl (lv_at hl 6 rfl) ?_
            have m58 : σ56 55 6 = 0 := (by rw [eσ56, jup_k (by decide)]; exact (by rw [f51 6 (by omega)]; exact m42))
            have m59 : σ56 55 10 = 1 := (by rw [eσ56, jup_k (by decide)]; exact (by rw [f51 10 (by omega)]; exact m43))
            have m60 : σ56 55 12 = 8 := (by rw [eσ56, jup_k (by decide)]; exact (by rw [f51 12 (by omega)]; exact m44))
            refine jcallV (As := []) (rest := []) ⟨hx, hb, hml, hown, hts⟩ hK hP hA hS (c_X12_bestNow l D cI cL ad hJ σ56 τ45 m58 m59 m60) cw_RX12_346 (jc_55 cI cL ad σ56 τ45) rfl ⟨Nat.le_of_ble_eq_true rfl, Nat.le_of_ble_eq_true rfl⟩ rfl rfl rfl hl.1 rfl (Nat.le_of_ble_eq_true rfl) dX12_fielded_88 ⟨Nat.zero_le _, Nat.zero_le _⟩ (fun r62 σ61 τ61 H locs h61 hP hS => ?_)
            obtain ⟨f63, f67, m64, m65, m66, h61⟩ := h61
            have h68 := h61
            obtain ⟨q70, k69⟩ := h68
            have q70 := q70.symm
            subst q70
            refine lv_istore (lv' := [(8, .int 0), (7, .int 3), (6, .int 0), (5, .int 0), (4, .int 0), (3, .int 0), (0, .ref (ad 55)), (1, .int a1), (2, .int a2)]) hx hb dX12_fielded_91 hl (by decide) rfl (fun ls hl => ?_)
            refine lv_iload hx hb dX12_fielded_93 (lv_at hl 1 rfl) ?_
            refine lv_iload_n hx hb dX12_fielded_95 rfl (lv_at hl 7 rfl) ?_
            refine lv_icmp_ne (tgt := 104) hx hb dX12_fielded_96 (by decide) (fun c71 => ?_) (fun c71 => ?_)
            · have kc71 := jne c71 jz_3 t1
              refine lv_iload hx hb dX12_fielded_104 (lv_at hl 2 rfl) ?_
              refine lv_istore (lv' := [(6, .int 0), (8, .int 0), (7, .int 3), (5, .int 0), (4, .int 0), (3, .int 0), (0, .ref (ad 55)), (1, .int a1), (2, .int a2)]) hx hb dX12_fielded_106 hl (by decide) rfl (fun ls hl => ?_)
              refine lv_iload hx hb dX12_fielded_108 (lv_at hl 1 rfl) ?_
              refine lv_iload hx hb dX12_fielded_110 (lv_at hl 3 rfl) ?_
              refine lv_icmp_ge (tgt := 123) hx hb dX12_fielded_112 (by decide) (fun _ => ?_) (fun c => absurd (by decide) c)
              refine lv_iinc (v := 4) (lv' := [(7, .int 4), (6, .int 0), (8, .int 0), (5, .int 0), (4, .int 0), (3, .int 0), (0, .ref (ad 55)), (1, .int a1), (2, .int a2)]) hx hb dX12_fielded_123 hl (k := 2) rfl (by decide) (by decide) rfl (fun ls hl => ?_)
              refine lv_goto (tgt := 59) hx hb dX12_fielded_126 (by decide) ?_
              refine lv_iload hx hb dX12_fielded_59 (lv_at hl 0 rfl) ?_
              refine lv_iconst (v := 4) hx hb dX12_fielded_61 (by decide) ?_
              refine lv_icmp_ge (tgt := 129) hx hb dX12_fielded_62 (by decide) (fun _ => ?_) (fun c => absurd (by decide) c)
              refine lv_aload_n hx hb dX12_fielded_129 rfl (lv_at hl 6 rfl) ?_
              refine lv_iload_n hx hb dX12_fielded_130 rfl (lv_at hl 5 rfl) ?_
              refine jput (ty := .int) hx hb hts inlX12 tyX12 tyX12_ok nmX12 hown hK hP hJ hA hS (jc_55 cI cL ad σ61 τ61) rfl (k := 9) (by decide) (Nat.le_of_ble_eq_true rfl) (jp_55_9 cI cL ad σ61 τ61 0) (hts _ kw_12_14) (fun _ h9 => h9) rfl (by decide +kernel) rfl rfl dX12_fielded_131 (fun σ72 H locs eσ72 hP hS => ?_)
              refine lv_iload_n hx hb dX12_fielded_134 rfl (lv_at hl 8 rfl) ?_
              refine lv_if_ne (tgt := 143) hx hb dX12_fielded_135 (by decide) (fun c73 => ?_) (fun c => absurd (jeq c t2 jz_0) (by omega))
              have kc73 := jne c73 t2 jz_0
              refine lv_iload hx hb dX12_fielded_143 (lv_at hl 4 rfl) ?_
              exact hret 0 σ72 τ61 _ _ _ _ rfl ⟨trivial, (by (repeat' split) <;> first | rfl | omega | exact jsame jz_0 t1 (by omega) | exact jsame jz_0 t2 (by omega) | (exfalso; omega))⟩ hP hS dX12_fielded_145
            · have kc71 := jeq c71 jz_3 t1
              refine lv_iload hx hb dX12_fielded_99 (lv_at hl 0 rfl) ?_
              refine lv_goto (tgt := 106) hx hb dX12_fielded_101 (by decide) ?_
              refine lv_istore (lv' := [(6, .int 0), (8, .int 0), (7, .int 3), (5, .int 0), (4, .int 0), (3, .int 0), (0, .ref (ad 55)), (1, .int a1), (2, .int a2)]) hx hb dX12_fielded_106 hl (by decide) rfl (fun ls hl => ?_)
              refine lv_iload hx hb dX12_fielded_108 (lv_at hl 1 rfl) ?_
              refine lv_iload hx hb dX12_fielded_110 (lv_at hl 3 rfl) ?_
              refine lv_icmp_ge (tgt := 123) hx hb dX12_fielded_112 (by decide) (fun _ => ?_) (fun c => absurd (by decide) c)
              refine lv_iinc (v := 4) (lv' := [(7, .int 4), (6, .int 0), (8, .int 0), (5, .int 0), (4, .int 0), (3, .int 0), (0, .ref (ad 55)), (1, .int a1), (2, .int a2)]) hx hb dX12_fielded_123 hl (k := 2) rfl (by decide) (by decide) rfl (fun ls hl => ?_)
              refine lv_goto (tgt := 59) hx hb dX12_fielded_126 (by decide) ?_
              refine lv_iload hx hb dX12_fielded_59 (lv_at hl 0 rfl) ?_
              refine lv_iconst (v := 4) hx hb dX12_fielded_61 (by decide) ?_
              refine lv_icmp_ge (tgt := 129) hx hb dX12_fielded_62 (by decide) (fun _ => ?_) (fun c => absurd (by decide) c)
              refine lv_aload_n hx hb dX12_fielded_129 rfl (lv_at hl 6 rfl) ?_
              refine lv_iload_n hx hb dX12_fielded_130 rfl (lv_at hl 5 rfl) ?_
              refine jput (ty := .int) hx hb hts inlX12 tyX12 tyX12_ok nmX12 hown hK hP hJ hA hS (jc_55 cI cL ad σ61 τ61) rfl (k := 9) (by decide) (Nat.le_of_ble_eq_true rfl) (jp_55_9 cI cL ad σ61 τ61 0) (hts _ kw_12_14) (fun _ h9 => h9) rfl (by decide +kernel) rfl rfl dX12_fielded_131 (fun σ74 H locs eσ74 hP hS => ?_)
              refine lv_iload_n hx hb dX12_fielded_134 rfl (lv_at hl 8 rfl) ?_
              refine lv_if_ne (tgt := 143) hx hb dX12_fielded_135 (by decide) (fun c75 => ?_) (fun c => absurd (jeq c t2 jz_0) (by omega))
              have kc75 := jne c75 t2 jz_0
              refine lv_iload hx hb dX12_fielded_143 (lv_at hl 4 rfl) ?_
              exact hret 0 σ74 τ61 _ _ _ _ rfl ⟨trivial, (by (repeat' split) <;> first | rfl | omega | exact jsame jz_0 t1 (by omega) | exact jsame jz_0 t2 (by omega) | (exfalso; omega))⟩ hP hS dX12_fielded_145
          · have kc55 := jeq c55 jz_2 t1
            refine lv_iload hx hb dX12_fielded_99 (lv_at hl 0 rfl) ?_
            refine lv_goto (tgt := 106) hx hb dX12_fielded_101 (by decide) ?_
            refine lv_istore (lv' := [(6, .int 0), (8, .int 0), (7, .int 2), (5, .int 0), (4, .int 0), (3, .int 0), (0, .ref (ad 55)), (1, .int a1), (2, .int a2)]) hx hb dX12_fielded_106 hl (by decide) rfl (fun ls hl => ?_)
            refine lv_iload hx hb dX12_fielded_108 (lv_at hl 1 rfl) ?_
            refine lv_iload hx hb dX12_fielded_110 (lv_at hl 3 rfl) ?_
            refine lv_icmp_ge (tgt := 123) hx hb dX12_fielded_112 (by decide) (fun _ => ?_) (fun c => absurd (by decide) c)
            refine lv_iinc (v := 3) (lv' := [(7, .int 3), (6, .int 0), (8, .int 0), (5, .int 0), (4, .int 0), (3, .int 0), (0, .ref (ad 55)), (1, .int a1), (2, .int a2)]) hx hb dX12_fielded_123 hl (k := 2) rfl (by decide) (by decide) rfl (fun ls hl => ?_)
            refine lv_goto (tgt := 59) hx hb dX12_fielded_126 (by decide) ?_
            refine lv_iload hx hb dX12_fielded_59 (lv_at hl 0 rfl) ?_
            refine lv_iconst (v := 4) hx hb dX12_fielded_61 (by decide) ?_
            refine lv_icmp_ge (tgt := 129) hx hb dX12_fielded_62 (by decide) (fun c => absurd c (by decide)) (fun _ => ?_)
            refine lv_aload_n hx hb dX12_fielded_65 rfl (lv_at hl 6 rfl) ?_
            refine lv_iload hx hb dX12_fielded_66 (lv_at hl 0 rfl) ?_
            refine jput (ty := .int) hx hb hts inlX12 tyX12 tyX12_ok nmX12 hown hK hP hJ hA hS (jc_55 cI cL ad σ45 τ45) rfl (k := 9) (by decide) (Nat.le_of_ble_eq_true rfl) (jp_55_9 cI cL ad σ45 τ45 3) (hts _ kw_12_14) (fun _ h9 => h9) rfl (by decide +kernel) rfl rfl dX12_fielded_68 (fun σ76 H locs eσ76 hP hS => ?_)
            refine lv_iload_n hx hb dX12_fielded_71 rfl (lv_at hl 8 rfl) ?_
            refine lv_if_ne (tgt := 87) hx hb dX12_fielded_72 (by decide) (fun c77 => ?_) (fun c => absurd (jeq c t2 jz_0) (by omega))
            have kc77 := jne c77 t2 jz_0
            refine lv_aload_n hx hb dX12_fielded_87 rfl (lv_at hl 6 rfl) ?_
            have m78 : σ76 55 6 = 0 := (by rw [eσ76, jup_k (by decide)]; exact (by rw [f51 6 (by omega)]; exact m42))
            have m79 : σ76 55 10 = 1 := (by rw [eσ76, jup_k (by decide)]; exact (by rw [f51 10 (by omega)]; exact m43))
            have m80 : σ76 55 12 = 8 := (by rw [eσ76, jup_k (by decide)]; exact (by rw [f51 12 (by omega)]; exact m44))
            refine jcallV (As := []) (rest := []) ⟨hx, hb, hml, hown, hts⟩ hK hP hA hS (c_X12_bestNow l D cI cL ad hJ σ76 τ45 m78 m79 m80) cw_RX12_346 (jc_55 cI cL ad σ76 τ45) rfl ⟨Nat.le_of_ble_eq_true rfl, Nat.le_of_ble_eq_true rfl⟩ rfl rfl rfl hl.1 rfl (Nat.le_of_ble_eq_true rfl) dX12_fielded_88 ⟨Nat.zero_le _, Nat.zero_le _⟩ (fun r82 σ81 τ81 H locs h81 hP hS => ?_)
            obtain ⟨f83, f87, m84, m85, m86, h81⟩ := h81
            have h88 := h81
            obtain ⟨q90, k89⟩ := h88
            have q90 := q90.symm
            subst q90
            refine lv_istore (lv' := [(8, .int 0), (7, .int 3), (6, .int 0), (5, .int 0), (4, .int 0), (3, .int 0), (0, .ref (ad 55)), (1, .int a1), (2, .int a2)]) hx hb dX12_fielded_91 hl (by decide) rfl (fun ls hl => ?_)
            refine lv_iload hx hb dX12_fielded_93 (lv_at hl 1 rfl) ?_
            refine lv_iload_n hx hb dX12_fielded_95 rfl (lv_at hl 7 rfl) ?_
            refine lv_icmp_ne (tgt := 104) hx hb dX12_fielded_96 (by decide) (fun c91 => ?_) (fun c => absurd (jeq c jz_3 t1) (by omega))
            have kc91 := jne c91 jz_3 t1
            refine lv_iload hx hb dX12_fielded_104 (lv_at hl 2 rfl) ?_
            refine lv_istore (lv' := [(6, .int 0), (8, .int 0), (7, .int 3), (5, .int 0), (4, .int 0), (3, .int 0), (0, .ref (ad 55)), (1, .int a1), (2, .int a2)]) hx hb dX12_fielded_106 hl (by decide) rfl (fun ls hl => ?_)
            refine lv_iload hx hb dX12_fielded_108 (lv_at hl 1 rfl) ?_
            refine lv_iload hx hb dX12_fielded_110 (lv_at hl 3 rfl) ?_
            refine lv_icmp_ge (tgt := 123) hx hb dX12_fielded_112 (by decide) (fun _ => ?_) (fun c => absurd (by decide) c)
            refine lv_iinc (v := 4) (lv' := [(7, .int 4), (6, .int 0), (8, .int 0), (5, .int 0), (4, .int 0), (3, .int 0), (0, .ref (ad 55)), (1, .int a1), (2, .int a2)]) hx hb dX12_fielded_123 hl (k := 2) rfl (by decide) (by decide) rfl (fun ls hl => ?_)
            refine lv_goto (tgt := 59) hx hb dX12_fielded_126 (by decide) ?_
            refine lv_iload hx hb dX12_fielded_59 (lv_at hl 0 rfl) ?_
            refine lv_iconst (v := 4) hx hb dX12_fielded_61 (by decide) ?_
            refine lv_icmp_ge (tgt := 129) hx hb dX12_fielded_62 (by decide) (fun _ => ?_) (fun c => absurd (by decide) c)
            refine lv_aload_n hx hb dX12_fielded_129 rfl (lv_at hl 6 rfl) ?_
            refine lv_iload_n hx hb dX12_fielded_130 rfl (lv_at hl 5 rfl) ?_
            refine jput (ty := .int) hx hb hts inlX12 tyX12 tyX12_ok nmX12 hown hK hP hJ hA hS (jc_55 cI cL ad σ81 τ81) rfl (k := 9) (by decide) (Nat.le_of_ble_eq_true rfl) (jp_55_9 cI cL ad σ81 τ81 0) (hts _ kw_12_14) (fun _ h9 => h9) rfl (by decide +kernel) rfl rfl dX12_fielded_131 (fun σ92 H locs eσ92 hP hS => ?_)
            refine lv_iload_n hx hb dX12_fielded_134 rfl (lv_at hl 8 rfl) ?_
            refine lv_if_ne (tgt := 143) hx hb dX12_fielded_135 (by decide) (fun c93 => ?_) (fun c => absurd (jeq c t2 jz_0) (by omega))
            have kc93 := jne c93 t2 jz_0
            refine lv_iload hx hb dX12_fielded_143 (lv_at hl 4 rfl) ?_
            exact hret 0 σ92 τ81 _ _ _ _ rfl ⟨trivial, (by (repeat' split) <;> first | rfl | omega | exact jsame jz_0 t1 (by omega) | exact jsame jz_0 t2 (by omega) | (exfalso; omega))⟩ hP hS dX12_fielded_145
        · have kc39 := jeq c39 jz_1 t1
          refine lv_iload hx hb dX12_fielded_99 (lv_at hl 0 rfl) ?_
          refine lv_goto (tgt := 106) hx hb dX12_fielded_101 (by decide) ?_
          refine lv_istore (lv' := [(6, .int 0), (8, .int 0), (7, .int 1), (5, .int 0), (4, .int 0), (3, .int 0), (0, .ref (ad 55)), (1, .int a1), (2, .int a2)]) hx hb dX12_fielded_106 hl (by decide) rfl (fun ls hl => ?_)
          refine lv_iload hx hb dX12_fielded_108 (lv_at hl 1 rfl) ?_
          refine lv_iload hx hb dX12_fielded_110 (lv_at hl 3 rfl) ?_
          refine lv_icmp_ge (tgt := 123) hx hb dX12_fielded_112 (by decide) (fun _ => ?_) (fun c => absurd (by decide) c)
          refine lv_iinc (v := 2) (lv' := [(7, .int 2), (6, .int 0), (8, .int 0), (5, .int 0), (4, .int 0), (3, .int 0), (0, .ref (ad 55)), (1, .int a1), (2, .int a2)]) hx hb dX12_fielded_123 hl (k := 2) rfl (by decide) (by decide) rfl (fun ls hl => ?_)
          refine lv_goto (tgt := 59) hx hb dX12_fielded_126 (by decide) ?_
          refine lv_iload hx hb dX12_fielded_59 (lv_at hl 0 rfl) ?_
          refine lv_iconst (v := 4) hx hb dX12_fielded_61 (by decide) ?_
          refine lv_icmp_ge (tgt := 129) hx hb dX12_fielded_62 (by decide) (fun c => absurd c (by decide)) (fun _ => ?_)
          refine lv_aload_n hx hb dX12_fielded_65 rfl (lv_at hl 6 rfl) ?_
          refine lv_iload hx hb dX12_fielded_66 (lv_at hl 0 rfl) ?_
          refine jput (ty := .int) hx hb hts inlX12 tyX12 tyX12_ok nmX12 hown hK hP hJ hA hS (jc_55 cI cL ad σ29 τ29) rfl (k := 9) (by decide) (Nat.le_of_ble_eq_true rfl) (jp_55_9 cI cL ad σ29 τ29 2) (hts _ kw_12_14) (fun _ h9 => h9) rfl (by decide +kernel) rfl rfl dX12_fielded_68 (fun σ94 H locs eσ94 hP hS => ?_)
          refine lv_iload_n hx hb dX12_fielded_71 rfl (lv_at hl 8 rfl) ?_
          refine lv_if_ne (tgt := 87) hx hb dX12_fielded_72 (by decide) (fun c95 => ?_) (fun c => absurd (jeq c t2 jz_0) (by omega))
          have kc95 := jne c95 t2 jz_0
          refine lv_aload_n hx hb dX12_fielded_87 rfl (lv_at hl 6 rfl) ?_
          have m96 : σ94 55 6 = 0 := (by rw [eσ94, jup_k (by decide)]; exact (by rw [f35 6 (by omega)]; exact m26))
          have m97 : σ94 55 10 = 1 := (by rw [eσ94, jup_k (by decide)]; exact (by rw [f35 10 (by omega)]; exact m27))
          have m98 : σ94 55 12 = 8 := (by rw [eσ94, jup_k (by decide)]; exact (by rw [f35 12 (by omega)]; exact m28))
          refine jcallV (As := []) (rest := []) ⟨hx, hb, hml, hown, hts⟩ hK hP hA hS (c_X12_bestNow l D cI cL ad hJ σ94 τ29 m96 m97 m98) cw_RX12_346 (jc_55 cI cL ad σ94 τ29) rfl ⟨Nat.le_of_ble_eq_true rfl, Nat.le_of_ble_eq_true rfl⟩ rfl rfl rfl hl.1 rfl (Nat.le_of_ble_eq_true rfl) dX12_fielded_88 ⟨Nat.zero_le _, Nat.zero_le _⟩ (fun r100 σ99 τ99 H locs h99 hP hS => ?_)
          obtain ⟨f101, f105, m102, m103, m104, h99⟩ := h99
          have h106 := h99
          obtain ⟨q108, k107⟩ := h106
          have q108 := q108.symm
          subst q108
          refine lv_istore (lv' := [(8, .int 0), (7, .int 2), (6, .int 0), (5, .int 0), (4, .int 0), (3, .int 0), (0, .ref (ad 55)), (1, .int a1), (2, .int a2)]) hx hb dX12_fielded_91 hl (by decide) rfl (fun ls hl => ?_)
          refine lv_iload hx hb dX12_fielded_93 (lv_at hl 1 rfl) ?_
          refine lv_iload_n hx hb dX12_fielded_95 rfl (lv_at hl 7 rfl) ?_
          refine lv_icmp_ne (tgt := 104) hx hb dX12_fielded_96 (by decide) (fun c109 => ?_) (fun c => absurd (jeq c jz_2 t1) (by omega))
          have kc109 := jne c109 jz_2 t1
          refine lv_iload hx hb dX12_fielded_104 (lv_at hl 2 rfl) ?_
          refine lv_istore (lv' := [(6, .int 0), (8, .int 0), (7, .int 2), (5, .int 0), (4, .int 0), (3, .int 0), (0, .ref (ad 55)), (1, .int a1), (2, .int a2)]) hx hb dX12_fielded_106 hl (by decide) rfl (fun ls hl => ?_)
          refine lv_iload hx hb dX12_fielded_108 (lv_at hl 1 rfl) ?_
          refine lv_iload hx hb dX12_fielded_110 (lv_at hl 3 rfl) ?_
          refine lv_icmp_ge (tgt := 123) hx hb dX12_fielded_112 (by decide) (fun _ => ?_) (fun c => absurd (by decide) c)
          refine lv_iinc (v := 3) (lv' := [(7, .int 3), (6, .int 0), (8, .int 0), (5, .int 0), (4, .int 0), (3, .int 0), (0, .ref (ad 55)), (1, .int a1), (2, .int a2)]) hx hb dX12_fielded_123 hl (k := 2) rfl (by decide) (by decide) rfl (fun ls hl => ?_)
          refine lv_goto (tgt := 59) hx hb dX12_fielded_126 (by decide) ?_
          refine lv_iload hx hb dX12_fielded_59 (lv_at hl 0 rfl) ?_
          refine lv_iconst (v := 4) hx hb dX12_fielded_61 (by decide) ?_
          refine lv_icmp_ge (tgt := 129) hx hb dX12_fielded_62 (by decide) (fun c => absurd c (by decide)) (fun _ => ?_)
          refine lv_aload_n hx hb dX12_fielded_65 rfl (lv_at hl 6 rfl) ?_
          refine lv_iload hx hb dX12_fielded_66 (lv_at hl 0 rfl) ?_
          refine jput (ty := .int) hx hb hts inlX12 tyX12 tyX12_ok nmX12 hown hK hP hJ hA hS (jc_55 cI cL ad σ99 τ99) rfl (k := 9) (by decide) (Nat.le_of_ble_eq_true rfl) (jp_55_9 cI cL ad σ99 τ99 3) (hts _ kw_12_14) (fun _ h9 => h9) rfl (by decide +kernel) rfl rfl dX12_fielded_68 (fun σ110 H locs eσ110 hP hS => ?_)
          refine lv_iload_n hx hb dX12_fielded_71 rfl (lv_at hl 8 rfl) ?_
          refine lv_if_ne (tgt := 87) hx hb dX12_fielded_72 (by decide) (fun c111 => ?_) (fun c => absurd (jeq c t2 jz_0) (by omega))
          have kc111 := jne c111 t2 jz_0
          refine lv_aload_n hx hb dX12_fielded_87 rfl (lv_at hl 6 rfl) ?_
          have m112 : σ110 55 6 = 0 := (by rw [eσ110, jup_k (by decide)]; exact (by rw [f105 6 (by omega)]; exact m96))
          have m113 : σ110 55 10 = 1 := (by rw [eσ110, jup_k (by decide)]; exact (by rw [f105 10 (by omega)]; exact m97))
          have m114 : σ110 55 12 = 8 := (by rw [eσ110, jup_k (by decide)]; exact (by rw [f105 12 (by omega)]; exact m98))
          refine jcallV (As := []) (rest := []) ⟨hx, hb, hml, hown, hts⟩ hK hP hA hS (c_X12_bestNow l D cI cL ad hJ σ110 τ99 m112 m113 m114) cw_RX12_346 (jc_55 cI cL ad σ110 τ99) rfl ⟨Nat.le_of_ble_eq_true rfl, Nat.le_of_ble_eq_true rfl⟩ rfl rfl rfl hl.1 rfl (Nat.le_of_ble_eq_true rfl) dX12_fielded_88 ⟨Nat.zero_le _, Nat.zero_le _⟩ (fun r116 σ115 τ115 H locs h115 hP hS => ?_)
          obtain ⟨f117, f121, m118, m119, m120, h115⟩ := h115
          have h122 := h115
          obtain ⟨q124, k123⟩ := h122
          have q124 := q124.symm
          subst q124
          refine lv_istore (lv' := [(8, .int 0), (7, .int 3), (6, .int 0), (5, .int 0), (4, .int 0), (3, .int 0), (0, .ref (ad 55)), (1, .int a1), (2, .int a2)]) hx hb dX12_fielded_91 hl (by decide) rfl (fun ls hl => ?_)
          refine lv_iload hx hb dX12_fielded_93 (lv_at hl 1 rfl) ?_
          refine lv_iload_n hx hb dX12_fielded_95 rfl (lv_at hl 7 rfl) ?_
          refine lv_icmp_ne (tgt := 104) hx hb dX12_fielded_96 (by decide) (fun c125 => ?_) (fun c => absurd (jeq c jz_3 t1) (by omega))
          have kc125 := jne c125 jz_3 t1
          refine lv_iload hx hb dX12_fielded_104 (lv_at hl 2 rfl) ?_
          refine lv_istore (lv' := [(6, .int 0), (8, .int 0), (7, .int 3), (5, .int 0), (4, .int 0), (3, .int 0), (0, .ref (ad 55)), (1, .int a1), (2, .int a2)]) hx hb dX12_fielded_106 hl (by decide) rfl (fun ls hl => ?_)
          refine lv_iload hx hb dX12_fielded_108 (lv_at hl 1 rfl) ?_
          refine lv_iload hx hb dX12_fielded_110 (lv_at hl 3 rfl) ?_
          refine lv_icmp_ge (tgt := 123) hx hb dX12_fielded_112 (by decide) (fun _ => ?_) (fun c => absurd (by decide) c)
          refine lv_iinc (v := 4) (lv' := [(7, .int 4), (6, .int 0), (8, .int 0), (5, .int 0), (4, .int 0), (3, .int 0), (0, .ref (ad 55)), (1, .int a1), (2, .int a2)]) hx hb dX12_fielded_123 hl (k := 2) rfl (by decide) (by decide) rfl (fun ls hl => ?_)
          refine lv_goto (tgt := 59) hx hb dX12_fielded_126 (by decide) ?_
          refine lv_iload hx hb dX12_fielded_59 (lv_at hl 0 rfl) ?_
          refine lv_iconst (v := 4) hx hb dX12_fielded_61 (by decide) ?_
          refine lv_icmp_ge (tgt := 129) hx hb dX12_fielded_62 (by decide) (fun _ => ?_) (fun c => absurd (by decide) c)
          refine lv_aload_n hx hb dX12_fielded_129 rfl (lv_at hl 6 rfl) ?_
          refine lv_iload_n hx hb dX12_fielded_130 rfl (lv_at hl 5 rfl) ?_
          refine jput (ty := .int) hx hb hts inlX12 tyX12 tyX12_ok nmX12 hown hK hP hJ hA hS (jc_55 cI cL ad σ115 τ115) rfl (k := 9) (by decide) (Nat.le_of_ble_eq_true rfl) (jp_55_9 cI cL ad σ115 τ115 0) (hts _ kw_12_14) (fun _ h9 => h9) rfl (by decide +kernel) rfl rfl dX12_fielded_131 (fun σ126 H locs eσ126 hP hS => ?_)
          refine lv_iload_n hx hb dX12_fielded_134 rfl (lv_at hl 8 rfl) ?_
          refine lv_if_ne (tgt := 143) hx hb dX12_fielded_135 (by decide) (fun c127 => ?_) (fun c => absurd (jeq c t2 jz_0) (by omega))
          have kc127 := jne c127 t2 jz_0
          refine lv_iload hx hb dX12_fielded_143 (lv_at hl 4 rfl) ?_
          exact hret 0 σ126 τ115 _ _ _ _ rfl ⟨trivial, (by (repeat' split) <;> first | rfl | omega | exact jsame jz_0 t1 (by omega) | exact jsame jz_0 t2 (by omega) | (exfalso; omega))⟩ hP hS dX12_fielded_145
      · have kc23 := jeq c23 jz_0 t1
        refine lv_iload hx hb dX12_fielded_99 (lv_at hl 0 rfl) ?_
        refine lv_goto (tgt := 106) hx hb dX12_fielded_101 (by decide) ?_
        refine lv_istore (lv' := [(6, .int 0), (8, .int 0), (7, .int 0), (5, .int 2000000000), (4, .int 0), (3, .int 0), (0, .ref (ad 55)), (1, .int a1), (2, .int a2)]) hx hb dX12_fielded_106 hl (by decide) rfl (fun ls hl => ?_)
        refine lv_iload hx hb dX12_fielded_108 (lv_at hl 1 rfl) ?_
        refine lv_iload hx hb dX12_fielded_110 (lv_at hl 3 rfl) ?_
        refine lv_icmp_ge (tgt := 123) hx hb dX12_fielded_112 (by decide) (fun c => absurd c (by decide)) (fun _ => ?_)
        refine lv_iload hx hb dX12_fielded_115 (lv_at hl 2 rfl) ?_
        refine lv_istore (lv' := [(4, .int 0), (6, .int 0), (8, .int 0), (7, .int 0), (5, .int 2000000000), (3, .int 0), (0, .ref (ad 55)), (1, .int a1), (2, .int a2)]) hx hb dX12_fielded_117 hl (by decide) rfl (fun ls hl => ?_)
        refine lv_iload hx hb dX12_fielded_119 (lv_at hl 2 rfl) ?_
        refine lv_istore (lv' := [(5, .int 0), (4, .int 0), (6, .int 0), (8, .int 0), (7, .int 0), (3, .int 0), (0, .ref (ad 55)), (1, .int a1), (2, .int a2)]) hx hb dX12_fielded_121 hl (by decide) rfl (fun ls hl => ?_)
        refine lv_iinc (v := 1) (lv' := [(7, .int 1), (5, .int 0), (4, .int 0), (6, .int 0), (8, .int 0), (3, .int 0), (0, .ref (ad 55)), (1, .int a1), (2, .int a2)]) hx hb dX12_fielded_123 hl (k := 4) rfl (by decide) (by decide) rfl (fun ls hl => ?_)
        refine lv_goto (tgt := 59) hx hb dX12_fielded_126 (by decide) ?_
        refine lv_iload hx hb dX12_fielded_59 (lv_at hl 0 rfl) ?_
        refine lv_iconst (v := 4) hx hb dX12_fielded_61 (by decide) ?_
        refine lv_icmp_ge (tgt := 129) hx hb dX12_fielded_62 (by decide) (fun c => absurd c (by decide)) (fun _ => ?_)
        refine lv_aload_n hx hb dX12_fielded_65 rfl (lv_at hl 6 rfl) ?_
        refine lv_iload hx hb dX12_fielded_66 (lv_at hl 0 rfl) ?_
        refine jput (ty := .int) hx hb hts inlX12 tyX12 tyX12_ok nmX12 hown hK hP hJ hA hS (jc_55 cI cL ad σ13 τ13) rfl (k := 9) (by decide) (Nat.le_of_ble_eq_true rfl) (jp_55_9 cI cL ad σ13 τ13 1) (hts _ kw_12_14) (fun _ h9 => h9) rfl (by decide +kernel) rfl rfl dX12_fielded_68 (fun σ128 H locs eσ128 hP hS => ?_)
        refine lv_iload_n hx hb dX12_fielded_71 rfl (lv_at hl 8 rfl) ?_
        refine lv_if_ne (tgt := 87) hx hb dX12_fielded_72 (by decide) (fun c129 => ?_) (fun c => absurd (jeq c t2 jz_0) (by omega))
        have kc129 := jne c129 t2 jz_0
        refine lv_aload_n hx hb dX12_fielded_87 rfl (lv_at hl 6 rfl) ?_
        have m130 : σ128 55 6 = 0 := (by rw [eσ128, jup_k (by decide)]; exact (by rw [f19 6 (by omega)]; exact m10))
        have m131 : σ128 55 10 = 1 := (by rw [eσ128, jup_k (by decide)]; exact (by rw [f19 10 (by omega)]; exact m11))
        have m132 : σ128 55 12 = 8 := (by rw [eσ128, jup_k (by decide)]; exact (by rw [f19 12 (by omega)]; exact m12))
        refine jcallV (As := []) (rest := []) ⟨hx, hb, hml, hown, hts⟩ hK hP hA hS (c_X12_bestNow l D cI cL ad hJ σ128 τ13 m130 m131 m132) cw_RX12_346 (jc_55 cI cL ad σ128 τ13) rfl ⟨Nat.le_of_ble_eq_true rfl, Nat.le_of_ble_eq_true rfl⟩ rfl rfl rfl hl.1 rfl (Nat.le_of_ble_eq_true rfl) dX12_fielded_88 ⟨Nat.zero_le _, Nat.zero_le _⟩ (fun r134 σ133 τ133 H locs h133 hP hS => ?_)
        obtain ⟨f135, f139, m136, m137, m138, h133⟩ := h133
        have h140 := h133
        obtain ⟨q142, k141⟩ := h140
        have q142 := q142.symm
        subst q142
        refine lv_istore (lv' := [(8, .int 0), (7, .int 1), (5, .int 0), (4, .int 0), (6, .int 0), (3, .int 0), (0, .ref (ad 55)), (1, .int a1), (2, .int a2)]) hx hb dX12_fielded_91 hl (by decide) rfl (fun ls hl => ?_)
        refine lv_iload hx hb dX12_fielded_93 (lv_at hl 1 rfl) ?_
        refine lv_iload_n hx hb dX12_fielded_95 rfl (lv_at hl 7 rfl) ?_
        refine lv_icmp_ne (tgt := 104) hx hb dX12_fielded_96 (by decide) (fun c143 => ?_) (fun c => absurd (jeq c jz_1 t1) (by omega))
        have kc143 := jne c143 jz_1 t1
        refine lv_iload hx hb dX12_fielded_104 (lv_at hl 4 rfl) ?_
        refine lv_istore (lv' := [(6, .int 0), (8, .int 0), (7, .int 1), (5, .int 0), (4, .int 0), (3, .int 0), (0, .ref (ad 55)), (1, .int a1), (2, .int a2)]) hx hb dX12_fielded_106 hl (by decide) rfl (fun ls hl => ?_)
        refine lv_iload hx hb dX12_fielded_108 (lv_at hl 1 rfl) ?_
        refine lv_iload hx hb dX12_fielded_110 (lv_at hl 3 rfl) ?_
        refine lv_icmp_ge (tgt := 123) hx hb dX12_fielded_112 (by decide) (fun _ => ?_) (fun c => absurd (by decide) c)
        refine lv_iinc (v := 2) (lv' := [(7, .int 2), (6, .int 0), (8, .int 0), (5, .int 0), (4, .int 0), (3, .int 0), (0, .ref (ad 55)), (1, .int a1), (2, .int a2)]) hx hb dX12_fielded_123 hl (k := 2) rfl (by decide) (by decide) rfl (fun ls hl => ?_)
        refine lv_goto (tgt := 59) hx hb dX12_fielded_126 (by decide) ?_
        refine lv_iload hx hb dX12_fielded_59 (lv_at hl 0 rfl) ?_
        refine lv_iconst (v := 4) hx hb dX12_fielded_61 (by decide) ?_
        refine lv_icmp_ge (tgt := 129) hx hb dX12_fielded_62 (by decide) (fun c => absurd c (by decide)) (fun _ => ?_)
        refine lv_aload_n hx hb dX12_fielded_65 rfl (lv_at hl 6 rfl) ?_
        refine lv_iload hx hb dX12_fielded_66 (lv_at hl 0 rfl) ?_
        refine jput (ty := .int) hx hb hts inlX12 tyX12 tyX12_ok nmX12 hown hK hP hJ hA hS (jc_55 cI cL ad σ133 τ133) rfl (k := 9) (by decide) (Nat.le_of_ble_eq_true rfl) (jp_55_9 cI cL ad σ133 τ133 2) (hts _ kw_12_14) (fun _ h9 => h9) rfl (by decide +kernel) rfl rfl dX12_fielded_68 (fun σ144 H locs eσ144 hP hS => ?_)
        refine lv_iload_n hx hb dX12_fielded_71 rfl (lv_at hl 8 rfl) ?_
        refine lv_if_ne (tgt := 87) hx hb dX12_fielded_72 (by decide) (fun c145 => ?_) (fun c => absurd (jeq c t2 jz_0) (by omega))
        have kc145 := jne c145 t2 jz_0
        refine lv_aload_n hx hb dX12_fielded_87 rfl (lv_at hl 6 rfl) ?_
        have m146 : σ144 55 6 = 0 := (by rw [eσ144, jup_k (by decide)]; exact (by rw [f139 6 (by omega)]; exact m130))
        have m147 : σ144 55 10 = 1 := (by rw [eσ144, jup_k (by decide)]; exact (by rw [f139 10 (by omega)]; exact m131))
        have m148 : σ144 55 12 = 8 := (by rw [eσ144, jup_k (by decide)]; exact (by rw [f139 12 (by omega)]; exact m132))
        refine jcallV (As := []) (rest := []) ⟨hx, hb, hml, hown, hts⟩ hK hP hA hS (c_X12_bestNow l D cI cL ad hJ σ144 τ133 m146 m147 m148) cw_RX12_346 (jc_55 cI cL ad σ144 τ133) rfl ⟨Nat.le_of_ble_eq_true rfl, Nat.le_of_ble_eq_true rfl⟩ rfl rfl rfl hl.1 rfl (Nat.le_of_ble_eq_true rfl) dX12_fielded_88 ⟨Nat.zero_le _, Nat.zero_le _⟩ (fun r150 σ149 τ149 H locs h149 hP hS => ?_)
        obtain ⟨f151, f155, m152, m153, m154, h149⟩ := h149
        have h156 := h149
        obtain ⟨q158, k157⟩ := h156
        have q158 := q158.symm
        subst q158
        refine lv_istore (lv' := [(8, .int 0), (7, .int 2), (6, .int 0), (5, .int 0), (4, .int 0), (3, .int 0), (0, .ref (ad 55)), (1, .int a1), (2, .int a2)]) hx hb dX12_fielded_91 hl (by decide) rfl (fun ls hl => ?_)
        refine lv_iload hx hb dX12_fielded_93 (lv_at hl 1 rfl) ?_
        refine lv_iload_n hx hb dX12_fielded_95 rfl (lv_at hl 7 rfl) ?_
        refine lv_icmp_ne (tgt := 104) hx hb dX12_fielded_96 (by decide) (fun c159 => ?_) (fun c => absurd (jeq c jz_2 t1) (by omega))
        have kc159 := jne c159 jz_2 t1
        refine lv_iload hx hb dX12_fielded_104 (lv_at hl 2 rfl) ?_
        refine lv_istore (lv' := [(6, .int 0), (8, .int 0), (7, .int 2), (5, .int 0), (4, .int 0), (3, .int 0), (0, .ref (ad 55)), (1, .int a1), (2, .int a2)]) hx hb dX12_fielded_106 hl (by decide) rfl (fun ls hl => ?_)
        refine lv_iload hx hb dX12_fielded_108 (lv_at hl 1 rfl) ?_
        refine lv_iload hx hb dX12_fielded_110 (lv_at hl 3 rfl) ?_
        refine lv_icmp_ge (tgt := 123) hx hb dX12_fielded_112 (by decide) (fun _ => ?_) (fun c => absurd (by decide) c)
        refine lv_iinc (v := 3) (lv' := [(7, .int 3), (6, .int 0), (8, .int 0), (5, .int 0), (4, .int 0), (3, .int 0), (0, .ref (ad 55)), (1, .int a1), (2, .int a2)]) hx hb dX12_fielded_123 hl (k := 2) rfl (by decide) (by decide) rfl (fun ls hl => ?_)
        refine lv_goto (tgt := 59) hx hb dX12_fielded_126 (by decide) ?_
        refine lv_iload hx hb dX12_fielded_59 (lv_at hl 0 rfl) ?_
        refine lv_iconst (v := 4) hx hb dX12_fielded_61 (by decide) ?_
        refine lv_icmp_ge (tgt := 129) hx hb dX12_fielded_62 (by decide) (fun c => absurd c (by decide)) (fun _ => ?_)
        refine lv_aload_n hx hb dX12_fielded_65 rfl (lv_at hl 6 rfl) ?_
        refine lv_iload hx hb dX12_fielded_66 (lv_at hl 0 rfl) ?_
        refine jput (ty := .int) hx hb hts inlX12 tyX12 tyX12_ok nmX12 hown hK hP hJ hA hS (jc_55 cI cL ad σ149 τ149) rfl (k := 9) (by decide) (Nat.le_of_ble_eq_true rfl) (jp_55_9 cI cL ad σ149 τ149 3) (hts _ kw_12_14) (fun _ h9 => h9) rfl (by decide +kernel) rfl rfl dX12_fielded_68 (fun σ160 H locs eσ160 hP hS => ?_)
        refine lv_iload_n hx hb dX12_fielded_71 rfl (lv_at hl 8 rfl) ?_
        refine lv_if_ne (tgt := 87) hx hb dX12_fielded_72 (by decide) (fun c161 => ?_) (fun c => absurd (jeq c t2 jz_0) (by omega))
        have kc161 := jne c161 t2 jz_0
        refine lv_aload_n hx hb dX12_fielded_87 rfl (lv_at hl 6 rfl) ?_
        have m162 : σ160 55 6 = 0 := (by rw [eσ160, jup_k (by decide)]; exact (by rw [f155 6 (by omega)]; exact m146))
        have m163 : σ160 55 10 = 1 := (by rw [eσ160, jup_k (by decide)]; exact (by rw [f155 10 (by omega)]; exact m147))
        have m164 : σ160 55 12 = 8 := (by rw [eσ160, jup_k (by decide)]; exact (by rw [f155 12 (by omega)]; exact m148))
        refine jcallV (As := []) (rest := []) ⟨hx, hb, hml, hown, hts⟩ hK hP hA hS (c_X12_bestNow l D cI cL ad hJ σ160 τ149 m162 m163 m164) cw_RX12_346 (jc_55 cI cL ad σ160 τ149) rfl ⟨Nat.le_of_ble_eq_true rfl, Nat.le_of_ble_eq_true rfl⟩ rfl rfl rfl hl.1 rfl (Nat.le_of_ble_eq_true rfl) dX12_fielded_88 ⟨Nat.zero_le _, Nat.zero_le _⟩ (fun r166 σ165 τ165 H locs h165 hP hS => ?_)
        obtain ⟨f167, f171, m168, m169, m170, h165⟩ := h165
        have h172 := h165
        obtain ⟨q174, k173⟩ := h172
        have q174 := q174.symm
        subst q174
        refine lv_istore (lv' := [(8, .int 0), (7, .int 3), (6, .int 0), (5, .int 0), (4, .int 0), (3, .int 0), (0, .ref (ad 55)), (1, .int a1), (2, .int a2)]) hx hb dX12_fielded_91 hl (by decide) rfl (fun ls hl => ?_)
        refine lv_iload hx hb dX12_fielded_93 (lv_at hl 1 rfl) ?_
        refine lv_iload_n hx hb dX12_fielded_95 rfl (lv_at hl 7 rfl) ?_
        refine lv_icmp_ne (tgt := 104) hx hb dX12_fielded_96 (by decide) (fun c175 => ?_) (fun c => absurd (jeq c jz_3 t1) (by omega))
        have kc175 := jne c175 jz_3 t1
        refine lv_iload hx hb dX12_fielded_104 (lv_at hl 2 rfl) ?_
        refine lv_istore (lv' := [(6, .int 0), (8, .int 0), (7, .int 3), (5, .int 0), (4, .int 0), (3, .int 0), (0, .ref (ad 55)), (1, .int a1), (2, .int a2)]) hx hb dX12_fielded_106 hl (by decide) rfl (fun ls hl => ?_)
        refine lv_iload hx hb dX12_fielded_108 (lv_at hl 1 rfl) ?_
        refine lv_iload hx hb dX12_fielded_110 (lv_at hl 3 rfl) ?_
        refine lv_icmp_ge (tgt := 123) hx hb dX12_fielded_112 (by decide) (fun _ => ?_) (fun c => absurd (by decide) c)
        refine lv_iinc (v := 4) (lv' := [(7, .int 4), (6, .int 0), (8, .int 0), (5, .int 0), (4, .int 0), (3, .int 0), (0, .ref (ad 55)), (1, .int a1), (2, .int a2)]) hx hb dX12_fielded_123 hl (k := 2) rfl (by decide) (by decide) rfl (fun ls hl => ?_)
        refine lv_goto (tgt := 59) hx hb dX12_fielded_126 (by decide) ?_
        refine lv_iload hx hb dX12_fielded_59 (lv_at hl 0 rfl) ?_
        refine lv_iconst (v := 4) hx hb dX12_fielded_61 (by decide) ?_
        refine lv_icmp_ge (tgt := 129) hx hb dX12_fielded_62 (by decide) (fun _ => ?_) (fun c => absurd (by decide) c)
        refine lv_aload_n hx hb dX12_fielded_129 rfl (lv_at hl 6 rfl) ?_
        refine lv_iload_n hx hb dX12_fielded_130 rfl (lv_at hl 5 rfl) ?_
        refine jput (ty := .int) hx hb hts inlX12 tyX12 tyX12_ok nmX12 hown hK hP hJ hA hS (jc_55 cI cL ad σ165 τ165) rfl (k := 9) (by decide) (Nat.le_of_ble_eq_true rfl) (jp_55_9 cI cL ad σ165 τ165 0) (hts _ kw_12_14) (fun _ h9 => h9) rfl (by decide +kernel) rfl rfl dX12_fielded_131 (fun σ176 H locs eσ176 hP hS => ?_)
        refine lv_iload_n hx hb dX12_fielded_134 rfl (lv_at hl 8 rfl) ?_
        refine lv_if_ne (tgt := 143) hx hb dX12_fielded_135 (by decide) (fun c177 => ?_) (fun c => absurd (jeq c t2 jz_0) (by omega))
        have kc177 := jne c177 t2 jz_0
        refine lv_iload hx hb dX12_fielded_143 (lv_at hl 4 rfl) ?_
        exact hret 0 σ176 τ165 _ _ _ _ rfl ⟨trivial, (by (repeat' split) <;> first | rfl | omega | exact jsame jz_0 t1 (by omega) | exact jsame jz_0 t2 (by omega) | (exfalso; omega))⟩ hP hS dX12_fielded_145
    · have kc7 := jeq c7 t2 jz_0
      refine lv_iload_n hx hb dX12_fielded_14 rfl (lv_at hl 1 rfl) ?_
      refine lv_i2l (v := a1.toInt64) hx hb dX12_fielded_15 rfl ?_
      refine lv_lconst (v := 0) hx hb dX12_fielded_16 (by decide) ?_
      refine lv_ldc2 (v := 3) hx hb hown (hts _ kw_12_13) dX12_fielded_17 ?_
      refine jcallS (As := [.long a1.toInt64, .long 0, .long 3]) (rest := []) ⟨hx, hb, hml, hown, hts⟩ hK hP hA hS (c_X12_within l D cI cL ad hJ σ τ a1.toInt64 (A1) (jtoL t1) 0 (0) jzl_0 3 (3) jzl_3) cw_RX12_136 ⟨Nat.le_of_ble_eq_true rfl, Nat.le_of_ble_eq_true rfl⟩ rfl rfl rfl hl.1 rfl (Nat.le_of_ble_eq_true rfl) dX12_fielded_20 ⟨Nat.zero_le _, Nat.zero_le _⟩ (fun r179 σ178 τ178 H locs h178 hP hS => ?_)
      obtain ⟨⟨rfl, rfl⟩, h178⟩ := h178
      rcases h178 with h180 | h181
      · obtain ⟨q183, k182⟩ := h180
        have q183 := q183.symm
        subst q183
        refine lv_if_ne (tgt := 28) hx hb dX12_fielded_23 (by decide) (fun _ => ?_) (fun c => absurd c (by decide))
        refine lv_aload_n hx hb dX12_fielded_28 rfl (lv_at hl 0 rfl) ?_
        refine va_get (D := D) hx hb hts inlX12 hown hK hP 55 (jc_55 cI cL ad σ τ) rfl 12 (by decide) (hts _ kw_8_16) (fun _ h9 => h9) rfl dX12_fielded_29 ?_
        refine jtopr h55_12 ?_
        refine lv_bipush (v := 8) hx hb dX12_fielded_32 (by decide) ?_
        refine lv_icmp_le (tgt := 40) hx hb dX12_fielded_34 (by decide) (fun _ => ?_) (fun c => absurd (by decide) c)
        refine lv_aload_n hx hb dX12_fielded_40 rfl (lv_at hl 0 rfl) ?_
        refine va_get (D := D) hx hb hts inlX12 hown hK hP 55 (jc_55 cI cL ad σ τ) rfl 9 (by decide) (hts _ kw_12_14) (fun _ h9 => h9) rfl dX12_fielded_41 ?_
        refine jtopr h55_9 ?_
        refine lv_istore_n (lv' := [(3, .int 0), (0, .ref (ad 55)), (1, .int a1), (2, .int a2)]) hx hb dX12_fielded_44 rfl hl (by decide) rfl (fun ls hl => ?_)
        refine lv_iconst (v := 0) hx hb dX12_fielded_45 (by decide) ?_
        refine lv_istore (lv' := [(4, .int 0), (3, .int 0), (0, .ref (ad 55)), (1, .int a1), (2, .int a2)]) hx hb dX12_fielded_46 hl (by decide) rfl (fun ls hl => ?_)
        refine lv_ldcw (v := 2000000000) hx hb hown (hts _ kw_34_4) dX12_fielded_48 ?_
        refine lv_istore (lv' := [(5, .int 2000000000), (4, .int 0), (3, .int 0), (0, .ref (ad 55)), (1, .int a1), (2, .int a2)]) hx hb dX12_fielded_51 hl (by decide) rfl (fun ls hl => ?_)
        refine lv_iconst (v := 0) hx hb dX12_fielded_53 (by decide) ?_
        refine lv_istore (lv' := [(6, .int 0), (5, .int 2000000000), (4, .int 0), (3, .int 0), (0, .ref (ad 55)), (1, .int a1), (2, .int a2)]) hx hb dX12_fielded_54 hl (by decide) rfl (fun ls hl => ?_)
        refine lv_iconst (v := 0) hx hb dX12_fielded_56 (by decide) ?_
        refine lv_istore (lv' := [(7, .int 0), (6, .int 0), (5, .int 2000000000), (4, .int 0), (3, .int 0), (0, .ref (ad 55)), (1, .int a1), (2, .int a2)]) hx hb dX12_fielded_57 hl (by decide) rfl (fun ls hl => ?_)
        refine lv_iload hx hb dX12_fielded_59 (lv_at hl 0 rfl) ?_
        refine lv_iconst (v := 4) hx hb dX12_fielded_61 (by decide) ?_
        refine lv_icmp_ge (tgt := 129) hx hb dX12_fielded_62 (by decide) (fun c => absurd c (by decide)) (fun _ => ?_)
        refine lv_aload_n hx hb dX12_fielded_65 rfl (lv_at hl 5 rfl) ?_
        refine lv_iload hx hb dX12_fielded_66 (lv_at hl 0 rfl) ?_
        refine jput (ty := .int) hx hb hts inlX12 tyX12 tyX12_ok nmX12 hown hK hP hJ hA hS (jc_55 cI cL ad σ τ) rfl (k := 9) (by decide) (Nat.le_of_ble_eq_true rfl) (jp_55_9 cI cL ad σ τ 0) (hts _ kw_12_14) (fun _ h9 => h9) rfl (by decide +kernel) rfl rfl dX12_fielded_68 (fun σ184 H locs eσ184 hP hS => ?_)
        refine lv_iload_n hx hb dX12_fielded_71 rfl (lv_at hl 7 rfl) ?_
        refine lv_if_ne (tgt := 87) hx hb dX12_fielded_72 (by decide) (fun c => absurd (jne c t2 jz_0) (by omega)) (fun c185 => ?_)
        have kc185 := jeq c185 t2 jz_0
        refine lv_iload hx hb dX12_fielded_75 (lv_at hl 0 rfl) ?_
        refine lv_iload_n hx hb dX12_fielded_77 rfl (lv_at hl 6 rfl) ?_
        refine lv_icmp_eq (tgt := 87) hx hb dX12_fielded_78 (by decide) (fun c186 => ?_) (fun c186 => ?_)
        · have kc186 := jeq c186 jz_0 t1
          refine lv_aload_n hx hb dX12_fielded_87 rfl (lv_at hl 5 rfl) ?_
          have m187 : σ184 55 6 = 0 := (by rw [eσ184, jup_k (by decide)]; exact h55_6)
          have m188 : σ184 55 10 = 1 := (by rw [eσ184, jup_k (by decide)]; exact h55_10)
          have m189 : σ184 55 12 = 8 := (by rw [eσ184, jup_k (by decide)]; exact h55_12)
          refine jcallV (As := []) (rest := []) ⟨hx, hb, hml, hown, hts⟩ hK hP hA hS (c_X12_bestNow l D cI cL ad hJ σ184 τ m187 m188 m189) cw_RX12_346 (jc_55 cI cL ad σ184 τ) rfl ⟨Nat.le_of_ble_eq_true rfl, Nat.le_of_ble_eq_true rfl⟩ rfl rfl rfl hl.1 rfl (Nat.le_of_ble_eq_true rfl) dX12_fielded_88 ⟨Nat.zero_le _, Nat.zero_le _⟩ (fun r191 σ190 τ190 H locs h190 hP hS => ?_)
          obtain ⟨f192, f196, m193, m194, m195, h190⟩ := h190
          have h197 := h190
          obtain ⟨q199, k198⟩ := h197
          have q199 := q199.symm
          subst q199
          refine lv_istore (lv' := [(8, .int 0), (7, .int 0), (6, .int 0), (5, .int 2000000000), (4, .int 0), (3, .int 0), (0, .ref (ad 55)), (1, .int a1), (2, .int a2)]) hx hb dX12_fielded_91 hl (by decide) rfl (fun ls hl => ?_)
          refine lv_iload hx hb dX12_fielded_93 (lv_at hl 1 rfl) ?_
          refine lv_iload_n hx hb dX12_fielded_95 rfl (lv_at hl 7 rfl) ?_
          refine lv_icmp_ne (tgt := 104) hx hb dX12_fielded_96 (by decide) (fun c => absurd (jne c jz_0 t1) (by omega)) (fun c200 => ?_)
          have kc200 := jeq c200 jz_0 t1
          refine lv_iload hx hb dX12_fielded_99 (lv_at hl 0 rfl) ?_
          refine lv_goto (tgt := 106) hx hb dX12_fielded_101 (by decide) ?_
          refine lv_istore (lv' := [(6, .int 0), (8, .int 0), (7, .int 0), (5, .int 2000000000), (4, .int 0), (3, .int 0), (0, .ref (ad 55)), (1, .int a1), (2, .int a2)]) hx hb dX12_fielded_106 hl (by decide) rfl (fun ls hl => ?_)
          refine lv_iload hx hb dX12_fielded_108 (lv_at hl 1 rfl) ?_
          refine lv_iload hx hb dX12_fielded_110 (lv_at hl 3 rfl) ?_
          refine lv_icmp_ge (tgt := 123) hx hb dX12_fielded_112 (by decide) (fun c => absurd c (by decide)) (fun _ => ?_)
          refine lv_iload hx hb dX12_fielded_115 (lv_at hl 2 rfl) ?_
          refine lv_istore (lv' := [(4, .int 0), (6, .int 0), (8, .int 0), (7, .int 0), (5, .int 2000000000), (3, .int 0), (0, .ref (ad 55)), (1, .int a1), (2, .int a2)]) hx hb dX12_fielded_117 hl (by decide) rfl (fun ls hl => ?_)
          refine lv_iload hx hb dX12_fielded_119 (lv_at hl 2 rfl) ?_
          refine lv_istore (lv' := [(5, .int 0), (4, .int 0), (6, .int 0), (8, .int 0), (7, .int 0), (3, .int 0), (0, .ref (ad 55)), (1, .int a1), (2, .int a2)]) hx hb dX12_fielded_121 hl (by decide) rfl (fun ls hl => ?_)
          refine lv_iinc (v := 1) (lv' := [(7, .int 1), (5, .int 0), (4, .int 0), (6, .int 0), (8, .int 0), (3, .int 0), (0, .ref (ad 55)), (1, .int a1), (2, .int a2)]) hx hb dX12_fielded_123 hl (k := 4) rfl (by decide) (by decide) rfl (fun ls hl => ?_)
          refine lv_goto (tgt := 59) hx hb dX12_fielded_126 (by decide) ?_
          refine lv_iload hx hb dX12_fielded_59 (lv_at hl 0 rfl) ?_
          refine lv_iconst (v := 4) hx hb dX12_fielded_61 (by decide) ?_
          refine lv_icmp_ge (tgt := 129) hx hb dX12_fielded_62 (by decide) (fun c => absurd c (by decide)) (fun _ => ?_)
          refine lv_aload_n hx hb dX12_fielded_65 rfl (lv_at hl 6 rfl) ?_
          refine lv_iload hx hb dX12_fielded_66 (lv_at hl 0 rfl) ?_
          refine jput (ty := .int) hx hb hts inlX12 tyX12 tyX12_ok nmX12 hown hK hP hJ hA hS (jc_55 cI cL ad σ190 τ190) rfl (k := 9) (by decide) (Nat.le_of_ble_eq_true rfl) (jp_55_9 cI cL ad σ190 τ190 1) (hts _ kw_12_14) (fun _ h9 => h9) rfl (by decide +kernel) rfl rfl dX12_fielded_68 (fun σ201 H locs eσ201 hP hS => ?_)
          refine lv_iload_n hx hb dX12_fielded_71 rfl (lv_at hl 8 rfl) ?_
          refine lv_if_ne (tgt := 87) hx hb dX12_fielded_72 (by decide) (fun c => absurd (jne c t2 jz_0) (by omega)) (fun c202 => ?_)
          have kc202 := jeq c202 t2 jz_0
          refine lv_iload hx hb dX12_fielded_75 (lv_at hl 0 rfl) ?_
          refine lv_iload_n hx hb dX12_fielded_77 rfl (lv_at hl 7 rfl) ?_
          refine lv_icmp_eq (tgt := 87) hx hb dX12_fielded_78 (by decide) (fun c => absurd (jeq c jz_1 t1) (by omega)) (fun c203 => ?_)
          have kc203 := jne c203 jz_1 t1
          refine lv_ldcw (v := 2000000000) hx hb hown (hts _ kw_34_4) dX12_fielded_81 ?_
          refine lv_goto (tgt := 91) hx hb dX12_fielded_84 (by decide) ?_
          refine lv_istore (lv' := [(8, .int 2000000000), (7, .int 1), (5, .int 0), (4, .int 0), (6, .int 0), (3, .int 0), (0, .ref (ad 55)), (1, .int a1), (2, .int a2)]) hx hb dX12_fielded_91 hl (by decide) rfl (fun ls hl => ?_)
          refine lv_iload hx hb dX12_fielded_93 (lv_at hl 1 rfl) ?_
          refine lv_iload_n hx hb dX12_fielded_95 rfl (lv_at hl 7 rfl) ?_
          refine lv_icmp_ne (tgt := 104) hx hb dX12_fielded_96 (by decide) (fun c204 => ?_) (fun c => absurd (jeq c jz_1 t1) (by omega))
          have kc204 := jne c204 jz_1 t1
          refine lv_iload hx hb dX12_fielded_104 (lv_at hl 4 rfl) ?_
          refine lv_istore (lv' := [(6, .int 0), (8, .int 2000000000), (7, .int 1), (5, .int 0), (4, .int 0), (3, .int 0), (0, .ref (ad 55)), (1, .int a1), (2, .int a2)]) hx hb dX12_fielded_106 hl (by decide) rfl (fun ls hl => ?_)
          refine lv_iload hx hb dX12_fielded_108 (lv_at hl 1 rfl) ?_
          refine lv_iload hx hb dX12_fielded_110 (lv_at hl 3 rfl) ?_
          refine lv_icmp_ge (tgt := 123) hx hb dX12_fielded_112 (by decide) (fun _ => ?_) (fun c => absurd (by decide) c)
          refine lv_iinc (v := 2) (lv' := [(7, .int 2), (6, .int 0), (8, .int 2000000000), (5, .int 0), (4, .int 0), (3, .int 0), (0, .ref (ad 55)), (1, .int a1), (2, .int a2)]) hx hb dX12_fielded_123 hl (k := 2) rfl (by decide) (by decide) rfl (fun ls hl => ?_)
          refine lv_goto (tgt := 59) hx hb dX12_fielded_126 (by decide) ?_
          refine lv_iload hx hb dX12_fielded_59 (lv_at hl 0 rfl) ?_
          refine lv_iconst (v := 4) hx hb dX12_fielded_61 (by decide) ?_
          refine lv_icmp_ge (tgt := 129) hx hb dX12_fielded_62 (by decide) (fun c => absurd c (by decide)) (fun _ => ?_)
          refine lv_aload_n hx hb dX12_fielded_65 rfl (lv_at hl 6 rfl) ?_
          refine lv_iload hx hb dX12_fielded_66 (lv_at hl 0 rfl) ?_
          refine jput (ty := .int) hx hb hts inlX12 tyX12 tyX12_ok nmX12 hown hK hP hJ hA hS (jc_55 cI cL ad σ201 τ190) rfl (k := 9) (by decide) (Nat.le_of_ble_eq_true rfl) (jp_55_9 cI cL ad σ201 τ190 2) (hts _ kw_12_14) (fun _ h9 => h9) rfl (by decide +kernel) rfl rfl dX12_fielded_68 (fun σ205 H locs eσ205 hP hS => ?_)
          refine lv_iload_n hx hb dX12_fielded_71 rfl (lv_at hl 8 rfl) ?_
          refine lv_if_ne (tgt := 87) hx hb dX12_fielded_72 (by decide) (fun c => absurd (jne c t2 jz_0) (by omega)) (fun c206 => ?_)
          have kc206 := jeq c206 t2 jz_0
          refine lv_iload hx hb dX12_fielded_75 (lv_at hl 0 rfl) ?_
          refine lv_iload_n hx hb dX12_fielded_77 rfl (lv_at hl 7 rfl) ?_
          refine lv_icmp_eq (tgt := 87) hx hb dX12_fielded_78 (by decide) (fun c => absurd (jeq c jz_2 t1) (by omega)) (fun c207 => ?_)
          have kc207 := jne c207 jz_2 t1
          refine lv_ldcw (v := 2000000000) hx hb hown (hts _ kw_34_4) dX12_fielded_81 ?_
          refine lv_goto (tgt := 91) hx hb dX12_fielded_84 (by decide) ?_
          refine lv_istore (lv' := [(8, .int 2000000000), (7, .int 2), (6, .int 0), (5, .int 0), (4, .int 0), (3, .int 0), (0, .ref (ad 55)), (1, .int a1), (2, .int a2)]) hx hb dX12_fielded_91 hl (by decide) rfl (fun ls hl => ?_)
          refine lv_iload hx hb dX12_fielded_93 (lv_at hl 1 rfl) ?_
          refine lv_iload_n hx hb dX12_fielded_95 rfl (lv_at hl 7 rfl) ?_
          refine lv_icmp_ne (tgt := 104) hx hb dX12_fielded_96 (by decide) (fun c208 => ?_) (fun c => absurd (jeq c jz_2 t1) (by omega))
          have kc208 := jne c208 jz_2 t1
          refine lv_iload hx hb dX12_fielded_104 (lv_at hl 2 rfl) ?_
          refine lv_istore (lv' := [(6, .int 0), (8, .int 2000000000), (7, .int 2), (5, .int 0), (4, .int 0), (3, .int 0), (0, .ref (ad 55)), (1, .int a1), (2, .int a2)]) hx hb dX12_fielded_106 hl (by decide) rfl (fun ls hl => ?_)
          refine lv_iload hx hb dX12_fielded_108 (lv_at hl 1 rfl) ?_
          refine lv_iload hx hb dX12_fielded_110 (lv_at hl 3 rfl) ?_
          refine lv_icmp_ge (tgt := 123) hx hb dX12_fielded_112 (by decide) (fun _ => ?_) (fun c => absurd (by decide) c)
          refine lv_iinc (v := 3) (lv' := [(7, .int 3), (6, .int 0), (8, .int 2000000000), (5, .int 0), (4, .int 0), (3, .int 0), (0, .ref (ad 55)), (1, .int a1), (2, .int a2)]) hx hb dX12_fielded_123 hl (k := 2) rfl (by decide) (by decide) rfl (fun ls hl => ?_)
          refine lv_goto (tgt := 59) hx hb dX12_fielded_126 (by decide) ?_
          refine lv_iload hx hb dX12_fielded_59 (lv_at hl 0 rfl) ?_
          refine lv_iconst (v := 4) hx hb dX12_fielded_61 (by decide) ?_
          refine lv_icmp_ge (tgt := 129) hx hb dX12_fielded_62 (by decide) (fun c => absurd c (by decide)) (fun _ => ?_)
          refine lv_aload_n hx hb dX12_fielded_65 rfl (lv_at hl 6 rfl) ?_
          refine lv_iload hx hb dX12_fielded_66 (lv_at hl 0 rfl) ?_
          refine jput (ty := .int) hx hb hts inlX12 tyX12 tyX12_ok nmX12 hown hK hP hJ hA hS (jc_55 cI cL ad σ205 τ190) rfl (k := 9) (by decide) (Nat.le_of_ble_eq_true rfl) (jp_55_9 cI cL ad σ205 τ190 3) (hts _ kw_12_14) (fun _ h9 => h9) rfl (by decide +kernel) rfl rfl dX12_fielded_68 (fun σ209 H locs eσ209 hP hS => ?_)
          refine lv_iload_n hx hb dX12_fielded_71 rfl (lv_at hl 8 rfl) ?_
          refine lv_if_ne (tgt := 87) hx hb dX12_fielded_72 (by decide) (fun c => absurd (jne c t2 jz_0) (by omega)) (fun c210 => ?_)
          have kc210 := jeq c210 t2 jz_0
          refine lv_iload hx hb dX12_fielded_75 (lv_at hl 0 rfl) ?_
          refine lv_iload_n hx hb dX12_fielded_77 rfl (lv_at hl 7 rfl) ?_
          refine lv_icmp_eq (tgt := 87) hx hb dX12_fielded_78 (by decide) (fun c => absurd (jeq c jz_3 t1) (by omega)) (fun c211 => ?_)
          have kc211 := jne c211 jz_3 t1
          refine lv_ldcw (v := 2000000000) hx hb hown (hts _ kw_34_4) dX12_fielded_81 ?_
          refine lv_goto (tgt := 91) hx hb dX12_fielded_84 (by decide) ?_
          refine lv_istore (lv' := [(8, .int 2000000000), (7, .int 3), (6, .int 0), (5, .int 0), (4, .int 0), (3, .int 0), (0, .ref (ad 55)), (1, .int a1), (2, .int a2)]) hx hb dX12_fielded_91 hl (by decide) rfl (fun ls hl => ?_)
          refine lv_iload hx hb dX12_fielded_93 (lv_at hl 1 rfl) ?_
          refine lv_iload_n hx hb dX12_fielded_95 rfl (lv_at hl 7 rfl) ?_
          refine lv_icmp_ne (tgt := 104) hx hb dX12_fielded_96 (by decide) (fun c212 => ?_) (fun c => absurd (jeq c jz_3 t1) (by omega))
          have kc212 := jne c212 jz_3 t1
          refine lv_iload hx hb dX12_fielded_104 (lv_at hl 2 rfl) ?_
          refine lv_istore (lv' := [(6, .int 0), (8, .int 2000000000), (7, .int 3), (5, .int 0), (4, .int 0), (3, .int 0), (0, .ref (ad 55)), (1, .int a1), (2, .int a2)]) hx hb dX12_fielded_106 hl (by decide) rfl (fun ls hl => ?_)
          refine lv_iload hx hb dX12_fielded_108 (lv_at hl 1 rfl) ?_
          refine lv_iload hx hb dX12_fielded_110 (lv_at hl 3 rfl) ?_
          refine lv_icmp_ge (tgt := 123) hx hb dX12_fielded_112 (by decide) (fun _ => ?_) (fun c => absurd (by decide) c)
          refine lv_iinc (v := 4) (lv' := [(7, .int 4), (6, .int 0), (8, .int 2000000000), (5, .int 0), (4, .int 0), (3, .int 0), (0, .ref (ad 55)), (1, .int a1), (2, .int a2)]) hx hb dX12_fielded_123 hl (k := 2) rfl (by decide) (by decide) rfl (fun ls hl => ?_)
          refine lv_goto (tgt := 59) hx hb dX12_fielded_126 (by decide) ?_
          refine lv_iload hx hb dX12_fielded_59 (lv_at hl 0 rfl) ?_
          refine lv_iconst (v := 4) hx hb dX12_fielded_61 (by decide) ?_
          refine lv_icmp_ge (tgt := 129) hx hb dX12_fielded_62 (by decide) (fun _ => ?_) (fun c => absurd (by decide) c)
          refine lv_aload_n hx hb dX12_fielded_129 rfl (lv_at hl 6 rfl) ?_
          refine lv_iload_n hx hb dX12_fielded_130 rfl (lv_at hl 5 rfl) ?_
          refine jput (ty := .int) hx hb hts inlX12 tyX12 tyX12_ok nmX12 hown hK hP hJ hA hS (jc_55 cI cL ad σ209 τ190) rfl (k := 9) (by decide) (Nat.le_of_ble_eq_true rfl) (jp_55_9 cI cL ad σ209 τ190 0) (hts _ kw_12_14) (fun _ h9 => h9) rfl (by decide +kernel) rfl rfl dX12_fielded_131 (fun σ213 H locs eσ213 hP hS => ?_)
          refine lv_iload_n hx hb dX12_fielded_134 rfl (lv_at hl 8 rfl) ?_
          refine lv_if_ne (tgt := 143) hx hb dX12_fielded_135 (by decide) (fun c => absurd (jne c t2 jz_0) (by omega)) (fun c214 => ?_)
          have kc214 := jeq c214 t2 jz_0
          refine lv_iload hx hb dX12_fielded_138 (lv_at hl 1 rfl) ?_
          refine lv_goto (tgt := 145) hx hb dX12_fielded_140 (by decide) ?_
          exact hret 0 σ213 τ190 _ _ _ _ rfl ⟨trivial, (by (repeat' split) <;> first | rfl | omega | exact jsame jz_0 t1 (by omega) | exact jsame jz_0 t2 (by omega) | (exfalso; omega))⟩ hP hS dX12_fielded_145
        · have kc186 := jne c186 jz_0 t1
          refine lv_ldcw (v := 2000000000) hx hb hown (hts _ kw_34_4) dX12_fielded_81 ?_
          refine lv_goto (tgt := 91) hx hb dX12_fielded_84 (by decide) ?_
          refine lv_istore (lv' := [(8, .int 2000000000), (7, .int 0), (6, .int 0), (5, .int 2000000000), (4, .int 0), (3, .int 0), (0, .ref (ad 55)), (1, .int a1), (2, .int a2)]) hx hb dX12_fielded_91 hl (by decide) rfl (fun ls hl => ?_)
          refine lv_iload hx hb dX12_fielded_93 (lv_at hl 1 rfl) ?_
          refine lv_iload_n hx hb dX12_fielded_95 rfl (lv_at hl 7 rfl) ?_
          refine lv_icmp_ne (tgt := 104) hx hb dX12_fielded_96 (by decide) (fun c215 => ?_) (fun c => absurd (jeq c jz_0 t1) (by omega))
          have kc215 := jne c215 jz_0 t1
          refine lv_iload hx hb dX12_fielded_104 (lv_at hl 2 rfl) ?_
          refine lv_istore (lv' := [(6, .int 0), (8, .int 2000000000), (7, .int 0), (5, .int 2000000000), (4, .int 0), (3, .int 0), (0, .ref (ad 55)), (1, .int a1), (2, .int a2)]) hx hb dX12_fielded_106 hl (by decide) rfl (fun ls hl => ?_)
          refine lv_iload hx hb dX12_fielded_108 (lv_at hl 1 rfl) ?_
          refine lv_iload hx hb dX12_fielded_110 (lv_at hl 3 rfl) ?_
          refine lv_icmp_ge (tgt := 123) hx hb dX12_fielded_112 (by decide) (fun _ => ?_) (fun c => absurd (by decide) c)
          refine lv_iinc (v := 1) (lv' := [(7, .int 1), (6, .int 0), (8, .int 2000000000), (5, .int 2000000000), (4, .int 0), (3, .int 0), (0, .ref (ad 55)), (1, .int a1), (2, .int a2)]) hx hb dX12_fielded_123 hl (k := 2) rfl (by decide) (by decide) rfl (fun ls hl => ?_)
          refine lv_goto (tgt := 59) hx hb dX12_fielded_126 (by decide) ?_
          refine lv_iload hx hb dX12_fielded_59 (lv_at hl 0 rfl) ?_
          refine lv_iconst (v := 4) hx hb dX12_fielded_61 (by decide) ?_
          refine lv_icmp_ge (tgt := 129) hx hb dX12_fielded_62 (by decide) (fun c => absurd c (by decide)) (fun _ => ?_)
          refine lv_aload_n hx hb dX12_fielded_65 rfl (lv_at hl 6 rfl) ?_
          refine lv_iload hx hb dX12_fielded_66 (lv_at hl 0 rfl) ?_
          refine jput (ty := .int) hx hb hts inlX12 tyX12 tyX12_ok nmX12 hown hK hP hJ hA hS (jc_55 cI cL ad σ184 τ) rfl (k := 9) (by decide) (Nat.le_of_ble_eq_true rfl) (jp_55_9 cI cL ad σ184 τ 1) (hts _ kw_12_14) (fun _ h9 => h9) rfl (by decide +kernel) rfl rfl dX12_fielded_68 (fun σ216 H locs eσ216 hP hS => ?_)
          refine lv_iload_n hx hb dX12_fielded_71 rfl (lv_at hl 8 rfl) ?_
          refine lv_if_ne (tgt := 87) hx hb dX12_fielded_72 (by decide) (fun c => absurd (jne c t2 jz_0) (by omega)) (fun c217 => ?_)
          have kc217 := jeq c217 t2 jz_0
          refine lv_iload hx hb dX12_fielded_75 (lv_at hl 0 rfl) ?_
          refine lv_iload_n hx hb dX12_fielded_77 rfl (lv_at hl 7 rfl) ?_
          refine lv_icmp_eq (tgt := 87) hx hb dX12_fielded_78 (by decide) (fun c218 => ?_) (fun c218 => ?_)
          · have kc218 := jeq c218 jz_1 t1
            refine lv_aload_n hx hb dX12_fielded_87 rfl (lv_at hl 6 rfl) ?_
            have m219 : σ216 55 6 = 0 := (by rw [eσ216, jup_k (by decide)]; exact (by rw [eσ184, jup_k (by decide)]; exact h55_6))
            have m220 : σ216 55 10 = 1 := (by rw [eσ216, jup_k (by decide)]; exact (by rw [eσ184, jup_k (by decide)]; exact h55_10))
            have m221 : σ216 55 12 = 8 := (by rw [eσ216, jup_k (by decide)]; exact (by rw [eσ184, jup_k (by decide)]; exact h55_12))
            refine jcallV (As := []) (rest := []) ⟨hx, hb, hml, hown, hts⟩ hK hP hA hS (c_X12_bestNow l D cI cL ad hJ σ216 τ m219 m220 m221) cw_RX12_346 (jc_55 cI cL ad σ216 τ) rfl ⟨Nat.le_of_ble_eq_true rfl, Nat.le_of_ble_eq_true rfl⟩ rfl rfl rfl hl.1 rfl (Nat.le_of_ble_eq_true rfl) dX12_fielded_88 ⟨Nat.zero_le _, Nat.zero_le _⟩ (fun r223 σ222 τ222 H locs h222 hP hS => ?_)
            obtain ⟨f224, f228, m225, m226, m227, h222⟩ := h222
            have h229 := h222
            obtain ⟨q231, k230⟩ := h229
            have q231 := q231.symm
            subst q231
            refine lv_istore (lv' := [(8, .int 0), (7, .int 1), (6, .int 0), (5, .int 2000000000), (4, .int 0), (3, .int 0), (0, .ref (ad 55)), (1, .int a1), (2, .int a2)]) hx hb dX12_fielded_91 hl (by decide) rfl (fun ls hl => ?_)
            refine lv_iload hx hb dX12_fielded_93 (lv_at hl 1 rfl) ?_
            refine lv_iload_n hx hb dX12_fielded_95 rfl (lv_at hl 7 rfl) ?_
            refine lv_icmp_ne (tgt := 104) hx hb dX12_fielded_96 (by decide) (fun c => absurd (jne c jz_1 t1) (by omega)) (fun c232 => ?_)
            have kc232 := jeq c232 jz_1 t1
            refine lv_iload hx hb dX12_fielded_99 (lv_at hl 0 rfl) ?_
            refine lv_goto (tgt := 106) hx hb dX12_fielded_101 (by decide) ?_
            refine lv_istore (lv' := [(6, .int 0), (8, .int 0), (7, .int 1), (5, .int 2000000000), (4, .int 0), (3, .int 0), (0, .ref (ad 55)), (1, .int a1), (2, .int a2)]) hx hb dX12_fielded_106 hl (by decide) rfl (fun ls hl => ?_)
            refine lv_iload hx hb dX12_fielded_108 (lv_at hl 1 rfl) ?_
            refine lv_iload hx hb dX12_fielded_110 (lv_at hl 3 rfl) ?_
            refine lv_icmp_ge (tgt := 123) hx hb dX12_fielded_112 (by decide) (fun c => absurd c (by decide)) (fun _ => ?_)
            refine lv_iload hx hb dX12_fielded_115 (lv_at hl 2 rfl) ?_
            refine lv_istore (lv' := [(4, .int 1), (6, .int 0), (8, .int 0), (7, .int 1), (5, .int 2000000000), (3, .int 0), (0, .ref (ad 55)), (1, .int a1), (2, .int a2)]) hx hb dX12_fielded_117 hl (by decide) rfl (fun ls hl => ?_)
            refine lv_iload hx hb dX12_fielded_119 (lv_at hl 2 rfl) ?_
            refine lv_istore (lv' := [(5, .int 0), (4, .int 1), (6, .int 0), (8, .int 0), (7, .int 1), (3, .int 0), (0, .ref (ad 55)), (1, .int a1), (2, .int a2)]) hx hb dX12_fielded_121 hl (by decide) rfl (fun ls hl => ?_)
            refine lv_iinc (v := 2) (lv' := [(7, .int 2), (5, .int 0), (4, .int 1), (6, .int 0), (8, .int 0), (3, .int 0), (0, .ref (ad 55)), (1, .int a1), (2, .int a2)]) hx hb dX12_fielded_123 hl (k := 4) rfl (by decide) (by decide) rfl (fun ls hl => ?_)
            refine lv_goto (tgt := 59) hx hb dX12_fielded_126 (by decide) ?_
            refine lv_iload hx hb dX12_fielded_59 (lv_at hl 0 rfl) ?_
            refine lv_iconst (v := 4) hx hb dX12_fielded_61 (by decide) ?_
            refine lv_icmp_ge (tgt := 129) hx hb dX12_fielded_62 (by decide) (fun c => absurd c (by decide)) (fun _ => ?_)
            refine lv_aload_n hx hb dX12_fielded_65 rfl (lv_at hl 6 rfl) ?_
            refine lv_iload hx hb dX12_fielded_66 (lv_at hl 0 rfl) ?_
            refine jput (ty := .int) hx hb hts inlX12 tyX12 tyX12_ok nmX12 hown hK hP hJ hA hS (jc_55 cI cL ad σ222 τ222) rfl (k := 9) (by decide) (Nat.le_of_ble_eq_true rfl) (jp_55_9 cI cL ad σ222 τ222 2) (hts _ kw_12_14) (fun _ h9 => h9) rfl (by decide +kernel) rfl rfl dX12_fielded_68 (fun σ233 H locs eσ233 hP hS => ?_)
            refine lv_iload_n hx hb dX12_fielded_71 rfl (lv_at hl 8 rfl) ?_
            refine lv_if_ne (tgt := 87) hx hb dX12_fielded_72 (by decide) (fun c => absurd (jne c t2 jz_0) (by omega)) (fun c234 => ?_)
            have kc234 := jeq c234 t2 jz_0
            refine lv_iload hx hb dX12_fielded_75 (lv_at hl 0 rfl) ?_
            refine lv_iload_n hx hb dX12_fielded_77 rfl (lv_at hl 7 rfl) ?_
            refine lv_icmp_eq (tgt := 87) hx hb dX12_fielded_78 (by decide) (fun c => absurd (jeq c jz_2 t1) (by omega)) (fun c235 => ?_)
            have kc235 := jne c235 jz_2 t1
            refine lv_ldcw (v := 2000000000) hx hb hown (hts _ kw_34_4) dX12_fielded_81 ?_
            refine lv_goto (tgt := 91) hx hb dX12_fielded_84 (by decide) ?_
            refine lv_istore (lv' := [(8, .int 2000000000), (7, .int 2), (5, .int 0), (4, .int 1), (6, .int 0), (3, .int 0), (0, .ref (ad 55)), (1, .int a1), (2, .int a2)]) hx hb dX12_fielded_91 hl (by decide) rfl (fun ls hl => ?_)
            refine lv_iload hx hb dX12_fielded_93 (lv_at hl 1 rfl) ?_
            refine lv_iload_n hx hb dX12_fielded_95 rfl (lv_at hl 7 rfl) ?_
            refine lv_icmp_ne (tgt := 104) hx hb dX12_fielded_96 (by decide) (fun c236 => ?_) (fun c => absurd (jeq c jz_2 t1) (by omega))
            have kc236 := jne c236 jz_2 t1
            refine lv_iload hx hb dX12_fielded_104 (lv_at hl 4 rfl) ?_
            refine lv_istore (lv' := [(6, .int 0), (8, .int 2000000000), (7, .int 2), (5, .int 0), (4, .int 1), (3, .int 0), (0, .ref (ad 55)), (1, .int a1), (2, .int a2)]) hx hb dX12_fielded_106 hl (by decide) rfl (fun ls hl => ?_)
            refine lv_iload hx hb dX12_fielded_108 (lv_at hl 1 rfl) ?_
            refine lv_iload hx hb dX12_fielded_110 (lv_at hl 3 rfl) ?_
            refine lv_icmp_ge (tgt := 123) hx hb dX12_fielded_112 (by decide) (fun _ => ?_) (fun c => absurd (by decide) c)
            refine lv_iinc (v := 3) (lv' := [(7, .int 3), (6, .int 0), (8, .int 2000000000), (5, .int 0), (4, .int 1), (3, .int 0), (0, .ref (ad 55)), (1, .int a1), (2, .int a2)]) hx hb dX12_fielded_123 hl (k := 2) rfl (by decide) (by decide) rfl (fun ls hl => ?_)
            refine lv_goto (tgt := 59) hx hb dX12_fielded_126 (by decide) ?_
            refine lv_iload hx hb dX12_fielded_59 (lv_at hl 0 rfl) ?_
            refine lv_iconst (v := 4) hx hb dX12_fielded_61 (by decide) ?_
            refine lv_icmp_ge (tgt := 129) hx hb dX12_fielded_62 (by decide) (fun c => absurd c (by decide)) (fun _ => ?_)
            refine lv_aload_n hx hb dX12_fielded_65 rfl (lv_at hl 6 rfl) ?_
            refine lv_iload hx hb dX12_fielded_66 (lv_at hl 0 rfl) ?_
            refine jput (ty := .int) hx hb hts inlX12 tyX12 tyX12_ok nmX12 hown hK hP hJ hA hS (jc_55 cI cL ad σ233 τ222) rfl (k := 9) (by decide) (Nat.le_of_ble_eq_true rfl) (jp_55_9 cI cL ad σ233 τ222 3) (hts _ kw_12_14) (fun _ h9 => h9) rfl (by decide +kernel) rfl rfl dX12_fielded_68 (fun σ237 H locs eσ237 hP hS => ?_)
            refine lv_iload_n hx hb dX12_fielded_71 rfl (lv_at hl 8 rfl) ?_
            refine lv_if_ne (tgt := 87) hx hb dX12_fielded_72 (by decide) (fun c => absurd (jne c t2 jz_0) (by omega)) (fun c238 => ?_)
            have kc238 := jeq c238 t2 jz_0
            refine lv_iload hx hb dX12_fielded_75 (lv_at hl 0 rfl) ?_
            refine lv_iload_n hx hb dX12_fielded_77 rfl (lv_at hl 7 rfl) ?_
            refine lv_icmp_eq (tgt := 87) hx hb dX12_fielded_78 (by decide) (fun c => absurd (jeq c jz_3 t1) (by omega)) (fun c239 => ?_)
            have kc239 := jne c239 jz_3 t1
            refine lv_ldcw (v := 2000000000) hx hb hown (hts _ kw_34_4) dX12_fielded_81 ?_
            refine lv_goto (tgt := 91) hx hb dX12_fielded_84 (by decide) ?_
            refine lv_istore (lv' := [(8, .int 2000000000), (7, .int 3), (6, .int 0), (5, .int 0), (4, .int 1), (3, .int 0), (0, .ref (ad 55)), (1, .int a1), (2, .int a2)]) hx hb dX12_fielded_91 hl (by decide) rfl (fun ls hl => ?_)
            refine lv_iload hx hb dX12_fielded_93 (lv_at hl 1 rfl) ?_
            refine lv_iload_n hx hb dX12_fielded_95 rfl (lv_at hl 7 rfl) ?_
            refine lv_icmp_ne (tgt := 104) hx hb dX12_fielded_96 (by decide) (fun c240 => ?_) (fun c => absurd (jeq c jz_3 t1) (by omega))
            have kc240 := jne c240 jz_3 t1
            refine lv_iload hx hb dX12_fielded_104 (lv_at hl 2 rfl) ?_
            refine lv_istore (lv' := [(6, .int 0), (8, .int 2000000000), (7, .int 3), (5, .int 0), (4, .int 1), (3, .int 0), (0, .ref (ad 55)), (1, .int a1), (2, .int a2)]) hx hb dX12_fielded_106 hl (by decide) rfl (fun ls hl => ?_)
            refine lv_iload hx hb dX12_fielded_108 (lv_at hl 1 rfl) ?_
            refine lv_iload hx hb dX12_fielded_110 (lv_at hl 3 rfl) ?_
            refine lv_icmp_ge (tgt := 123) hx hb dX12_fielded_112 (by decide) (fun _ => ?_) (fun c => absurd (by decide) c)
            refine lv_iinc (v := 4) (lv' := [(7, .int 4), (6, .int 0), (8, .int 2000000000), (5, .int 0), (4, .int 1), (3, .int 0), (0, .ref (ad 55)), (1, .int a1), (2, .int a2)]) hx hb dX12_fielded_123 hl (k := 2) rfl (by decide) (by decide) rfl (fun ls hl => ?_)
            refine lv_goto (tgt := 59) hx hb dX12_fielded_126 (by decide) ?_
            refine lv_iload hx hb dX12_fielded_59 (lv_at hl 0 rfl) ?_
            refine lv_iconst (v := 4) hx hb dX12_fielded_61 (by decide) ?_
            refine lv_icmp_ge (tgt := 129) hx hb dX12_fielded_62 (by decide) (fun _ => ?_) (fun c => absurd (by decide) c)
            refine lv_aload_n hx hb dX12_fielded_129 rfl (lv_at hl 6 rfl) ?_
            refine lv_iload_n hx hb dX12_fielded_130 rfl (lv_at hl 5 rfl) ?_
            refine jput (ty := .int) hx hb hts inlX12 tyX12 tyX12_ok nmX12 hown hK hP hJ hA hS (jc_55 cI cL ad σ237 τ222) rfl (k := 9) (by decide) (Nat.le_of_ble_eq_true rfl) (jp_55_9 cI cL ad σ237 τ222 0) (hts _ kw_12_14) (fun _ h9 => h9) rfl (by decide +kernel) rfl rfl dX12_fielded_131 (fun σ241 H locs eσ241 hP hS => ?_)
            refine lv_iload_n hx hb dX12_fielded_134 rfl (lv_at hl 8 rfl) ?_
            refine lv_if_ne (tgt := 143) hx hb dX12_fielded_135 (by decide) (fun c => absurd (jne c t2 jz_0) (by omega)) (fun c242 => ?_)
            have kc242 := jeq c242 t2 jz_0
            refine lv_iload hx hb dX12_fielded_138 (lv_at hl 1 rfl) ?_
            refine lv_goto (tgt := 145) hx hb dX12_fielded_140 (by decide) ?_
            exact hret 0 σ241 τ222 _ _ _ _ rfl ⟨trivial, (by (repeat' split) <;> first | rfl | omega | exact jsame jz_0 t1 (by omega) | exact jsame jz_0 t2 (by omega) | (exfalso; omega))⟩ hP hS dX12_fielded_145
          · have kc218 := jne c218 jz_1 t1
            refine lv_ldcw (v := 2000000000) hx hb hown (hts _ kw_34_4) dX12_fielded_81 ?_
            refine lv_goto (tgt := 91) hx hb dX12_fielded_84 (by decide) ?_
            refine lv_istore (lv' := [(8, .int 2000000000), (7, .int 1), (6, .int 0), (5, .int 2000000000), (4, .int 0), (3, .int 0), (0, .ref (ad 55)), (1, .int a1), (2, .int a2)]) hx hb dX12_fielded_91 hl (by decide) rfl (fun ls hl => ?_)
            refine lv_iload hx hb dX12_fielded_93 (lv_at hl 1 rfl) ?_
            refine lv_iload_n hx hb dX12_fielded_95 rfl (lv_at hl 7 rfl) ?_
            refine lv_icmp_ne (tgt := 104) hx hb dX12_fielded_96 (by decide) (fun c243 => ?_) (fun c => absurd (jeq c jz_1 t1) (by omega))
            have kc243 := jne c243 jz_1 t1
            refine lv_iload hx hb dX12_fielded_104 (lv_at hl 2 rfl) ?_
            refine lv_istore (lv' := [(6, .int 0), (8, .int 2000000000), (7, .int 1), (5, .int 2000000000), (4, .int 0), (3, .int 0), (0, .ref (ad 55)), (1, .int a1), (2, .int a2)]) hx hb dX12_fielded_106 hl (by decide) rfl (fun ls hl => ?_)
            refine lv_iload hx hb dX12_fielded_108 (lv_at hl 1 rfl) ?_
            refine lv_iload hx hb dX12_fielded_110 (lv_at hl 3 rfl) ?_
            refine lv_icmp_ge (tgt := 123) hx hb dX12_fielded_112 (by decide) (fun _ => ?_) (fun c => absurd (by decide) c)
            refine lv_iinc (v := 2) (lv' := [(7, .int 2), (6, .int 0), (8, .int 2000000000), (5, .int 2000000000), (4, .int 0), (3, .int 0), (0, .ref (ad 55)), (1, .int a1), (2, .int a2)]) hx hb dX12_fielded_123 hl (k := 2) rfl (by decide) (by decide) rfl (fun ls hl => ?_)
            refine lv_goto (tgt := 59) hx hb dX12_fielded_126 (by decide) ?_
            refine lv_iload hx hb dX12_fielded_59 (lv_at hl 0 rfl) ?_
            refine lv_iconst (v := 4) hx hb dX12_fielded_61 (by decide) ?_
            refine lv_icmp_ge (tgt := 129) hx hb dX12_fielded_62 (by decide) (fun c => absurd c (by decide)) (fun _ => ?_)
            refine lv_aload_n hx hb dX12_fielded_65 rfl (lv_at hl 6 rfl) ?_
            refine lv_iload hx hb dX12_fielded_66 (lv_at hl 0 rfl) ?_
            refine jput (ty := .int) hx hb hts inlX12 tyX12 tyX12_ok nmX12 hown hK hP hJ hA hS (jc_55 cI cL ad σ216 τ) rfl (k := 9) (by decide) (Nat.le_of_ble_eq_true rfl) (jp_55_9 cI cL ad σ216 τ 2) (hts _ kw_12_14) (fun _ h9 => h9) rfl (by decide +kernel) rfl rfl dX12_fielded_68 (fun σ244 H locs eσ244 hP hS => ?_)
            refine lv_iload_n hx hb dX12_fielded_71 rfl (lv_at hl 8 rfl) ?_
            refine lv_if_ne (tgt := 87) hx hb dX12_fielded_72 (by decide) (fun c => absurd (jne c t2 jz_0) (by omega)) (fun c245 => ?_)
            have kc245 := jeq c245 t2 jz_0
            refine lv_iload hx hb dX12_fielded_75 (lv_at hl 0 rfl) ?_
            refine lv_iload_n hx hb dX12_fielded_77 rfl (lv_at hl 7 rfl) ?_
            refine lv_icmp_eq (tgt := 87) hx hb dX12_fielded_78 (by decide) (fun c246 => ?_) (fun c246 => ?_)
            · have kc246 := jeq c246 jz_2 t1
              refine lv_aload_n hx hb dX12_fielded_87 rfl (lv_at hl 6 rfl) ?_
              have m247 : σ244 55 6 = 0 := (by rw [eσ244, jup_k (by decide)]; exact (by rw [eσ216, jup_k (by decide)]; exact (by rw [eσ184, jup_k (by decide)]; exact h55_6)))
              have m248 : σ244 55 10 = 1 := (by rw [eσ244, jup_k (by decide)]; exact (by rw [eσ216, jup_k (by decide)]; exact (by rw [eσ184, jup_k (by decide)]; exact h55_10)))
              have m249 : σ244 55 12 = 8 := (by rw [eσ244, jup_k (by decide)]; exact (by rw [eσ216, jup_k (by decide)]; exact (by rw [eσ184, jup_k (by decide)]; exact h55_12)))
              refine jcallV (As := []) (rest := []) ⟨hx, hb, hml, hown, hts⟩ hK hP hA hS (c_X12_bestNow l D cI cL ad hJ σ244 τ m247 m248 m249) cw_RX12_346 (jc_55 cI cL ad σ244 τ) rfl ⟨Nat.le_of_ble_eq_true rfl, Nat.le_of_ble_eq_true rfl⟩ rfl rfl rfl hl.1 rfl (Nat.le_of_ble_eq_true rfl) dX12_fielded_88 ⟨Nat.zero_le _, Nat.zero_le _⟩ (fun r251 σ250 τ250 H locs h250 hP hS => ?_)
              obtain ⟨f252, f256, m253, m254, m255, h250⟩ := h250
              have h257 := h250
              obtain ⟨q259, k258⟩ := h257
              have q259 := q259.symm
              subst q259
              refine lv_istore (lv' := [(8, .int 0), (7, .int 2), (6, .int 0), (5, .int 2000000000), (4, .int 0), (3, .int 0), (0, .ref (ad 55)), (1, .int a1), (2, .int a2)]) hx hb dX12_fielded_91 hl (by decide) rfl (fun ls hl => ?_)
              refine lv_iload hx hb dX12_fielded_93 (lv_at hl 1 rfl) ?_
              refine lv_iload_n hx hb dX12_fielded_95 rfl (lv_at hl 7 rfl) ?_
              refine lv_icmp_ne (tgt := 104) hx hb dX12_fielded_96 (by decide) (fun c => absurd (jne c jz_2 t1) (by omega)) (fun c260 => ?_)
              have kc260 := jeq c260 jz_2 t1
              refine lv_iload hx hb dX12_fielded_99 (lv_at hl 0 rfl) ?_
              refine lv_goto (tgt := 106) hx hb dX12_fielded_101 (by decide) ?_
              refine lv_istore (lv' := [(6, .int 0), (8, .int 0), (7, .int 2), (5, .int 2000000000), (4, .int 0), (3, .int 0), (0, .ref (ad 55)), (1, .int a1), (2, .int a2)]) hx hb dX12_fielded_106 hl (by decide) rfl (fun ls hl => ?_)
              refine lv_iload hx hb dX12_fielded_108 (lv_at hl 1 rfl) ?_
              refine lv_iload hx hb dX12_fielded_110 (lv_at hl 3 rfl) ?_
              refine lv_icmp_ge (tgt := 123) hx hb dX12_fielded_112 (by decide) (fun c => absurd c (by decide)) (fun _ => ?_)
              refine lv_iload hx hb dX12_fielded_115 (lv_at hl 2 rfl) ?_
              refine lv_istore (lv' := [(4, .int 2), (6, .int 0), (8, .int 0), (7, .int 2), (5, .int 2000000000), (3, .int 0), (0, .ref (ad 55)), (1, .int a1), (2, .int a2)]) hx hb dX12_fielded_117 hl (by decide) rfl (fun ls hl => ?_)
              refine lv_iload hx hb dX12_fielded_119 (lv_at hl 2 rfl) ?_
              refine lv_istore (lv' := [(5, .int 0), (4, .int 2), (6, .int 0), (8, .int 0), (7, .int 2), (3, .int 0), (0, .ref (ad 55)), (1, .int a1), (2, .int a2)]) hx hb dX12_fielded_121 hl (by decide) rfl (fun ls hl => ?_)
              refine lv_iinc (v := 3) (lv' := [(7, .int 3), (5, .int 0), (4, .int 2), (6, .int 0), (8, .int 0), (3, .int 0), (0, .ref (ad 55)), (1, .int a1), (2, .int a2)]) hx hb dX12_fielded_123 hl (k := 4) rfl (by decide) (by decide) rfl (fun ls hl => ?_)
              refine lv_goto (tgt := 59) hx hb dX12_fielded_126 (by decide) ?_
              refine lv_iload hx hb dX12_fielded_59 (lv_at hl 0 rfl) ?_
              refine lv_iconst (v := 4) hx hb dX12_fielded_61 (by decide) ?_
              refine lv_icmp_ge (tgt := 129) hx hb dX12_fielded_62 (by decide) (fun c => absurd c (by decide)) (fun _ => ?_)
              refine lv_aload_n hx hb dX12_fielded_65 rfl (lv_at hl 6 rfl) ?_
              refine lv_iload hx hb dX12_fielded_66 (lv_at hl 0 rfl) ?_
              refine jput (ty := .int) hx hb hts inlX12 tyX12 tyX12_ok nmX12 hown hK hP hJ hA hS (jc_55 cI cL ad σ250 τ250) rfl (k := 9) (by decide) (Nat.le_of_ble_eq_true rfl) (jp_55_9 cI cL ad σ250 τ250 3) (hts _ kw_12_14) (fun _ h9 => h9) rfl (by decide +kernel) rfl rfl dX12_fielded_68 (fun σ261 H locs eσ261 hP hS => ?_)
              refine lv_iload_n hx hb dX12_fielded_71 rfl (lv_at hl 8 rfl) ?_
              refine lv_if_ne (tgt := 87) hx hb dX12_fielded_72 (by decide) (fun c => absurd (jne c t2 jz_0) (by omega)) (fun c262 => ?_)
              have kc262 := jeq c262 t2 jz_0
              refine lv_iload hx hb dX12_fielded_75 (lv_at hl 0 rfl) ?_
              refine lv_iload_n hx hb dX12_fielded_77 rfl (lv_at hl 7 rfl) ?_
              refine lv_icmp_eq (tgt := 87) hx hb dX12_fielded_78 (by decide) (fun c => absurd (jeq c jz_3 t1) (by omega)) (fun c263 => ?_)
              have kc263 := jne c263 jz_3 t1
              refine lv_ldcw (v := 2000000000) hx hb hown (hts _ kw_34_4) dX12_fielded_81 ?_
              refine lv_goto (tgt := 91) hx hb dX12_fielded_84 (by decide) ?_
              refine lv_istore (lv' := [(8, .int 2000000000), (7, .int 3), (5, .int 0), (4, .int 2), (6, .int 0), (3, .int 0), (0, .ref (ad 55)), (1, .int a1), (2, .int a2)]) hx hb dX12_fielded_91 hl (by decide) rfl (fun ls hl => ?_)
              refine lv_iload hx hb dX12_fielded_93 (lv_at hl 1 rfl) ?_
              refine lv_iload_n hx hb dX12_fielded_95 rfl (lv_at hl 7 rfl) ?_
              refine lv_icmp_ne (tgt := 104) hx hb dX12_fielded_96 (by decide) (fun c264 => ?_) (fun c => absurd (jeq c jz_3 t1) (by omega))
              have kc264 := jne c264 jz_3 t1
              refine lv_iload hx hb dX12_fielded_104 (lv_at hl 4 rfl) ?_
              refine lv_istore (lv' := [(6, .int 0), (8, .int 2000000000), (7, .int 3), (5, .int 0), (4, .int 2), (3, .int 0), (0, .ref (ad 55)), (1, .int a1), (2, .int a2)]) hx hb dX12_fielded_106 hl (by decide) rfl (fun ls hl => ?_)
              refine lv_iload hx hb dX12_fielded_108 (lv_at hl 1 rfl) ?_
              refine lv_iload hx hb dX12_fielded_110 (lv_at hl 3 rfl) ?_
              refine lv_icmp_ge (tgt := 123) hx hb dX12_fielded_112 (by decide) (fun _ => ?_) (fun c => absurd (by decide) c)
              refine lv_iinc (v := 4) (lv' := [(7, .int 4), (6, .int 0), (8, .int 2000000000), (5, .int 0), (4, .int 2), (3, .int 0), (0, .ref (ad 55)), (1, .int a1), (2, .int a2)]) hx hb dX12_fielded_123 hl (k := 2) rfl (by decide) (by decide) rfl (fun ls hl => ?_)
              refine lv_goto (tgt := 59) hx hb dX12_fielded_126 (by decide) ?_
              refine lv_iload hx hb dX12_fielded_59 (lv_at hl 0 rfl) ?_
              refine lv_iconst (v := 4) hx hb dX12_fielded_61 (by decide) ?_
              refine lv_icmp_ge (tgt := 129) hx hb dX12_fielded_62 (by decide) (fun _ => ?_) (fun c => absurd (by decide) c)
              refine lv_aload_n hx hb dX12_fielded_129 rfl (lv_at hl 6 rfl) ?_
              refine lv_iload_n hx hb dX12_fielded_130 rfl (lv_at hl 5 rfl) ?_
              refine jput (ty := .int) hx hb hts inlX12 tyX12 tyX12_ok nmX12 hown hK hP hJ hA hS (jc_55 cI cL ad σ261 τ250) rfl (k := 9) (by decide) (Nat.le_of_ble_eq_true rfl) (jp_55_9 cI cL ad σ261 τ250 0) (hts _ kw_12_14) (fun _ h9 => h9) rfl (by decide +kernel) rfl rfl dX12_fielded_131 (fun σ265 H locs eσ265 hP hS => ?_)
              refine lv_iload_n hx hb dX12_fielded_134 rfl (lv_at hl 8 rfl) ?_
              refine lv_if_ne (tgt := 143) hx hb dX12_fielded_135 (by decide) (fun c => absurd (jne c t2 jz_0) (by omega)) (fun c266 => ?_)
              have kc266 := jeq c266 t2 jz_0
              refine lv_iload hx hb dX12_fielded_138 (lv_at hl 1 rfl) ?_
              refine lv_goto (tgt := 145) hx hb dX12_fielded_140 (by decide) ?_
              exact hret 0 σ265 τ250 _ _ _ _ rfl ⟨trivial, (by (repeat' split) <;> first | rfl | omega | exact jsame jz_0 t1 (by omega) | exact jsame jz_0 t2 (by omega) | (exfalso; omega))⟩ hP hS dX12_fielded_145
            · have kc246 := jne c246 jz_2 t1
              refine lv_ldcw (v := 2000000000) hx hb hown (hts _ kw_34_4) dX12_fielded_81 ?_
              refine lv_goto (tgt := 91) hx hb dX12_fielded_84 (by decide) ?_
              refine lv_istore (lv' := [(8, .int 2000000000), (7, .int 2), (6, .int 0), (5, .int 2000000000), (4, .int 0), (3, .int 0), (0, .ref (ad 55)), (1, .int a1), (2, .int a2)]) hx hb dX12_fielded_91 hl (by decide) rfl (fun ls hl => ?_)
              refine lv_iload hx hb dX12_fielded_93 (lv_at hl 1 rfl) ?_
              refine lv_iload_n hx hb dX12_fielded_95 rfl (lv_at hl 7 rfl) ?_
              refine lv_icmp_ne (tgt := 104) hx hb dX12_fielded_96 (by decide) (fun c267 => ?_) (fun c => absurd (jeq c jz_2 t1) (by omega))
              have kc267 := jne c267 jz_2 t1
              refine lv_iload hx hb dX12_fielded_104 (lv_at hl 2 rfl) ?_
              refine lv_istore (lv' := [(6, .int 0), (8, .int 2000000000), (7, .int 2), (5, .int 2000000000), (4, .int 0), (3, .int 0), (0, .ref (ad 55)), (1, .int a1), (2, .int a2)]) hx hb dX12_fielded_106 hl (by decide) rfl (fun ls hl => ?_)
              refine lv_iload hx hb dX12_fielded_108 (lv_at hl 1 rfl) ?_
              refine lv_iload hx hb dX12_fielded_110 (lv_at hl 3 rfl) ?_
              refine lv_icmp_ge (tgt := 123) hx hb dX12_fielded_112 (by decide) (fun _ => ?_) (fun c => absurd (by decide) c)
              refine lv_iinc (v := 3) (lv' := [(7, .int 3), (6, .int 0), (8, .int 2000000000), (5, .int 2000000000), (4, .int 0), (3, .int 0), (0, .ref (ad 55)), (1, .int a1), (2, .int a2)]) hx hb dX12_fielded_123 hl (k := 2) rfl (by decide) (by decide) rfl (fun ls hl => ?_)
              refine lv_goto (tgt := 59) hx hb dX12_fielded_126 (by decide) ?_
              refine lv_iload hx hb dX12_fielded_59 (lv_at hl 0 rfl) ?_
              refine lv_iconst (v := 4) hx hb dX12_fielded_61 (by decide) ?_
              refine lv_icmp_ge (tgt := 129) hx hb dX12_fielded_62 (by decide) (fun c => absurd c (by decide)) (fun _ => ?_)
              refine lv_aload_n hx hb dX12_fielded_65 rfl (lv_at hl 6 rfl) ?_
              refine lv_iload hx hb dX12_fielded_66 (lv_at hl 0 rfl) ?_
              refine jput (ty := .int) hx hb hts inlX12 tyX12 tyX12_ok nmX12 hown hK hP hJ hA hS (jc_55 cI cL ad σ244 τ) rfl (k := 9) (by decide) (Nat.le_of_ble_eq_true rfl) (jp_55_9 cI cL ad σ244 τ 3) (hts _ kw_12_14) (fun _ h9 => h9) rfl (by decide +kernel) rfl rfl dX12_fielded_68 (fun σ268 H locs eσ268 hP hS => ?_)
              refine lv_iload_n hx hb dX12_fielded_71 rfl (lv_at hl 8 rfl) ?_
              refine lv_if_ne (tgt := 87) hx hb dX12_fielded_72 (by decide) (fun c => absurd (jne c t2 jz_0) (by omega)) (fun c269 => ?_)
              have kc269 := jeq c269 t2 jz_0
              refine lv_iload hx hb dX12_fielded_75 (lv_at hl 0 rfl) ?_
              refine lv_iload_n hx hb dX12_fielded_77 rfl (lv_at hl 7 rfl) ?_
              refine lv_icmp_eq (tgt := 87) hx hb dX12_fielded_78 (by decide) (fun c270 => ?_) (fun c => absurd (jne c jz_3 t1) (by omega))
              have kc270 := jeq c270 jz_3 t1
              refine lv_aload_n hx hb dX12_fielded_87 rfl (lv_at hl 6 rfl) ?_
              have m271 : σ268 55 6 = 0 := (by rw [eσ268, jup_k (by decide)]; exact (by rw [eσ244, jup_k (by decide)]; exact (by rw [eσ216, jup_k (by decide)]; exact (by rw [eσ184, jup_k (by decide)]; exact h55_6))))
              have m272 : σ268 55 10 = 1 := (by rw [eσ268, jup_k (by decide)]; exact (by rw [eσ244, jup_k (by decide)]; exact (by rw [eσ216, jup_k (by decide)]; exact (by rw [eσ184, jup_k (by decide)]; exact h55_10))))
              have m273 : σ268 55 12 = 8 := (by rw [eσ268, jup_k (by decide)]; exact (by rw [eσ244, jup_k (by decide)]; exact (by rw [eσ216, jup_k (by decide)]; exact (by rw [eσ184, jup_k (by decide)]; exact h55_12))))
              refine jcallV (As := []) (rest := []) ⟨hx, hb, hml, hown, hts⟩ hK hP hA hS (c_X12_bestNow l D cI cL ad hJ σ268 τ m271 m272 m273) cw_RX12_346 (jc_55 cI cL ad σ268 τ) rfl ⟨Nat.le_of_ble_eq_true rfl, Nat.le_of_ble_eq_true rfl⟩ rfl rfl rfl hl.1 rfl (Nat.le_of_ble_eq_true rfl) dX12_fielded_88 ⟨Nat.zero_le _, Nat.zero_le _⟩ (fun r275 σ274 τ274 H locs h274 hP hS => ?_)
              obtain ⟨f276, f280, m277, m278, m279, h274⟩ := h274
              have h281 := h274
              obtain ⟨q283, k282⟩ := h281
              have q283 := q283.symm
              subst q283
              refine lv_istore (lv' := [(8, .int 0), (7, .int 3), (6, .int 0), (5, .int 2000000000), (4, .int 0), (3, .int 0), (0, .ref (ad 55)), (1, .int a1), (2, .int a2)]) hx hb dX12_fielded_91 hl (by decide) rfl (fun ls hl => ?_)
              refine lv_iload hx hb dX12_fielded_93 (lv_at hl 1 rfl) ?_
              refine lv_iload_n hx hb dX12_fielded_95 rfl (lv_at hl 7 rfl) ?_
              refine lv_icmp_ne (tgt := 104) hx hb dX12_fielded_96 (by decide) (fun c => absurd (jne c jz_3 t1) (by omega)) (fun c284 => ?_)
              have kc284 := jeq c284 jz_3 t1
              refine lv_iload hx hb dX12_fielded_99 (lv_at hl 0 rfl) ?_
              refine lv_goto (tgt := 106) hx hb dX12_fielded_101 (by decide) ?_
              refine lv_istore (lv' := [(6, .int 0), (8, .int 0), (7, .int 3), (5, .int 2000000000), (4, .int 0), (3, .int 0), (0, .ref (ad 55)), (1, .int a1), (2, .int a2)]) hx hb dX12_fielded_106 hl (by decide) rfl (fun ls hl => ?_)
              refine lv_iload hx hb dX12_fielded_108 (lv_at hl 1 rfl) ?_
              refine lv_iload hx hb dX12_fielded_110 (lv_at hl 3 rfl) ?_
              refine lv_icmp_ge (tgt := 123) hx hb dX12_fielded_112 (by decide) (fun c => absurd c (by decide)) (fun _ => ?_)
              refine lv_iload hx hb dX12_fielded_115 (lv_at hl 2 rfl) ?_
              refine lv_istore (lv' := [(4, .int 3), (6, .int 0), (8, .int 0), (7, .int 3), (5, .int 2000000000), (3, .int 0), (0, .ref (ad 55)), (1, .int a1), (2, .int a2)]) hx hb dX12_fielded_117 hl (by decide) rfl (fun ls hl => ?_)
              refine lv_iload hx hb dX12_fielded_119 (lv_at hl 2 rfl) ?_
              refine lv_istore (lv' := [(5, .int 0), (4, .int 3), (6, .int 0), (8, .int 0), (7, .int 3), (3, .int 0), (0, .ref (ad 55)), (1, .int a1), (2, .int a2)]) hx hb dX12_fielded_121 hl (by decide) rfl (fun ls hl => ?_)
              refine lv_iinc (v := 4) (lv' := [(7, .int 4), (5, .int 0), (4, .int 3), (6, .int 0), (8, .int 0), (3, .int 0), (0, .ref (ad 55)), (1, .int a1), (2, .int a2)]) hx hb dX12_fielded_123 hl (k := 4) rfl (by decide) (by decide) rfl (fun ls hl => ?_)
              refine lv_goto (tgt := 59) hx hb dX12_fielded_126 (by decide) ?_
              refine lv_iload hx hb dX12_fielded_59 (lv_at hl 0 rfl) ?_
              refine lv_iconst (v := 4) hx hb dX12_fielded_61 (by decide) ?_
              refine lv_icmp_ge (tgt := 129) hx hb dX12_fielded_62 (by decide) (fun _ => ?_) (fun c => absurd (by decide) c)
              refine lv_aload_n hx hb dX12_fielded_129 rfl (lv_at hl 6 rfl) ?_
              refine lv_iload_n hx hb dX12_fielded_130 rfl (lv_at hl 5 rfl) ?_
              refine jput (ty := .int) hx hb hts inlX12 tyX12 tyX12_ok nmX12 hown hK hP hJ hA hS (jc_55 cI cL ad σ274 τ274) rfl (k := 9) (by decide) (Nat.le_of_ble_eq_true rfl) (jp_55_9 cI cL ad σ274 τ274 0) (hts _ kw_12_14) (fun _ h9 => h9) rfl (by decide +kernel) rfl rfl dX12_fielded_131 (fun σ285 H locs eσ285 hP hS => ?_)
              refine lv_iload_n hx hb dX12_fielded_134 rfl (lv_at hl 8 rfl) ?_
              refine lv_if_ne (tgt := 143) hx hb dX12_fielded_135 (by decide) (fun c => absurd (jne c t2 jz_0) (by omega)) (fun c286 => ?_)
              have kc286 := jeq c286 t2 jz_0
              refine lv_iload hx hb dX12_fielded_138 (lv_at hl 3 rfl) ?_
              refine lv_goto (tgt := 145) hx hb dX12_fielded_140 (by decide) ?_
              exact hret 0 σ285 τ274 _ _ _ _ rfl ⟨trivial, (by (repeat' split) <;> first | rfl | omega | exact jsame jz_0 t1 (by omega) | exact jsame jz_0 t2 (by omega) | (exfalso; omega))⟩ hP hS dX12_fielded_145
      · obtain ⟨q288, k287⟩ := h181
        have q288 := q288.symm
        subst q288
        refine lv_if_ne (tgt := 28) hx hb dX12_fielded_23 (by decide) (fun c => absurd (by decide) c) (fun _ => ?_)
        refine lv_iconst (v := (-1)) hx hb dX12_fielded_26 (by decide) ?_
        exact hret (-1) σ τ _ _ _ _ rfl ⟨trivial, (by (repeat' split) <;> first | rfl | omega | exact jsame jz_m1 t1 (by omega) | exact jsame jz_m1 t2 (by omega) | (exfalso; omega))⟩ hP hS dX12_fielded_27
  · obtain ⟨q290, k289⟩ := h4
    have q290 := q290.symm
    subst q290
    refine lv_if_eq (tgt := 26) hx hb dX12_fielded_7 (by decide) (fun _ => ?_) (fun c => absurd (by decide) c)
    refine lv_iconst (v := (-1)) hx hb dX12_fielded_26 (by decide) ?_
    exact hret (-1) σ τ _ _ _ _ rfl ⟨trivial, (by (repeat' split) <;> first | rfl | omega | exact jsame jz_m1 t1 (by omega) | exact jsame jz_m1 t2 (by omega) | (exfalso; omega))⟩ hP hS dX12_fielded_27
set_option maxHeartbeats 4000000 in
set_option maxRecDepth 100000 in
theorem c_X12_orders_1 (l : Launch) (D : va_G) (cI cL : ClassId) (ad : Nat → Nat) (hJ : jD ad) (σ : Nat → Nat → Int32) (τ : Nat → Nat → Int64) (h55_6 : σ 55 6 = 0) (h55_10 : σ 55 10 = 1) (h55_12 : σ 55 12 = 8) (h55_46 : σ 55 46 = (-1)) : jMv l yX12_orders cX12_orders 6 none ({ frames := 3, cells := 0, slots := 0, locals := 68 }) D cI cL ad [.ref (ad 55), .int 1, .int 1, .int 0] σ τ (fun σ' τ' => (∀ i : Nat, (i < 55 ∨ 55 < i) ∧ (i < 68 ∨ 69 < i) → σ' i = σ i) ∧ (∀ k : Nat, (k < 25 ∨ 25 < k) ∧ (k < 26 ∨ 26 < k) ∧ (k < 27 ∨ 27 < k) ∧ (k < 42 ∨ 42 < k) ∧ (k < 37 ∨ 37 < k) ∧ (k < 45 ∨ 45 < k) ∧ (k < 46 ∨ 46 < k) → σ' 55 k = σ 55 k) ∧ σ' 55 46 = 0 ∧ σ' 55 45 = 0 ∧ True) := by
  refine jMv.of hJ (by decide +kernel) rfl (Nat.le_of_ble_eq_true rfl) ?_
  intro p e s m args below meth c Q ls hC hret hl hP
  obtain ⟨hx, hb, hr, hml, hown, hts, hK, -, hlocks⟩ := hC
  have hown : s.vm.findClass RX12 = some m.cls := hown
  have hS : va_S (jA ad) s.heap s.heap [] := va_S.rf
  have hA : ∀ q, jA ad q → jA ad q := fun _ h => h
  have hl : lv_has ls 6 [(0, .ref (ad 55)), (1, .int 1), (2, .int 1), (3, .int 0)] := hl
  refine lv_iload_n hx hb dX12_orders_0 rfl (lv_at hl 1 rfl) ?_
  refine lv_aload_n hx hb dX12_orders_1 rfl (lv_at hl 0 rfl) ?_
  refine va_get (D := D) hx hb hts inlX12 hown hK hP 55 (jc_55 cI cL ad σ τ) rfl 10 (by decide) (hts _ kw_8_15) (fun _ h9 => h9) rfl dX12_orders_2 ?_
  refine jtopr h55_10 ?_
  refine lv_icmp_ne (tgt := 35) hx hb dX12_orders_5 (by decide) (fun c => absurd (by decide) c) (fun _ => ?_)
  refine lv_aload_n hx hb dX12_orders_8 rfl (lv_at hl 0 rfl) ?_
  refine jcallV (As := []) (rest := []) ⟨hx, hb, hml, hown, hts⟩ hK hP hA hS (c_X12_bestNow l D cI cL ad hJ σ τ h55_6 h55_10 h55_12) cw_RX12_346 (jc_55 cI cL ad σ τ) rfl ⟨Nat.le_of_ble_eq_true rfl, Nat.le_of_ble_eq_true rfl⟩ rfl rfl rfl hl.1 rfl (Nat.le_of_ble_eq_true rfl) dX12_orders_9 ⟨Nat.zero_le _, Nat.zero_le _⟩ (fun r2 σ1 τ1 H locs h1 hP hS => ?_)
  obtain ⟨f3, f7, m4, m5, m6, h1⟩ := h1
  have h8 := h1
  obtain ⟨q10, k9⟩ := h8
  have q10 := q10.symm
  subst q10
  refine lv_istore (lv' := [(4, .int 0), (0, .ref (ad 55)), (1, .int 1), (2, .int 1), (3, .int 0)]) hx hb dX12_orders_12 hl (by decide) rfl (fun ls hl => ?_)
  refine lv_iload hx hb dX12_orders_14 (lv_at hl 0 rfl) ?_
  refine lv_aload_n hx hb dX12_orders_16 rfl (lv_at hl 1 rfl) ?_
  refine va_get (D := D) hx hb hts inlX12 hown hK hP 55 (jc_55 cI cL ad σ1 τ1) rfl 46 (by decide) (hts _ kw_40_17) (fun _ h9 => h9) rfl dX12_orders_17 ?_
  have m11 : σ1 55 46 = (-1) := (by rw [f7 46 (by omega)]; exact h55_46)
  refine jtopr m11 ?_
  refine lv_icmp_le (tgt := 34) hx hb dX12_orders_20 (by decide) (fun c => absurd c (by decide)) (fun _ => ?_)
  refine lv_aload_n hx hb dX12_orders_23 rfl (lv_at hl 1 rfl) ?_
  refine lv_iload hx hb dX12_orders_24 (lv_at hl 0 rfl) ?_
  refine jput (ty := .int) hx hb hts inlX12 tyX12 tyX12_ok nmX12 hown hK hP hJ hA hS (jc_55 cI cL ad σ1 τ1) rfl (k := 46) (by decide) (Nat.le_of_ble_eq_true rfl) (jp_55_46 cI cL ad σ1 τ1 0) (hts _ kw_40_17) (fun _ h9 => h9) rfl (by decide +kernel) rfl rfl dX12_orders_26 (fun σ12 H locs eσ12 hP hS => ?_)
  refine lv_aload_n hx hb dX12_orders_29 rfl (lv_at hl 1 rfl) ?_
  refine lv_iload_n hx hb dX12_orders_30 rfl (lv_at hl 4 rfl) ?_
  refine jput (ty := .int) hx hb hts inlX12 tyX12 tyX12_ok nmX12 hown hK hP hJ hA hS (jc_55 cI cL ad σ12 τ1) rfl (k := 45) (by decide) (Nat.le_of_ble_eq_true rfl) (jp_55_45 cI cL ad σ12 τ1 0) (hts _ kw_40_18) (fun _ h9 => h9) rfl (by decide +kernel) rfl rfl dX12_orders_31 (fun σ13 H locs eσ13 hP hS => ?_)
  have m14 : σ13 55 46 = 0 := (by rw [eσ13, jup_k (by decide)]; exact (by rw [eσ12]; exact jup_s))
  have m15 : σ13 55 45 = 0 := (by rw [eσ13]; exact jup_s)
  exact hret σ13 τ1 _ _ _ _ ⟨(fun i hi => by rw [eσ13, jup_n (by omega), eσ12, jup_n (by omega), f3 i (by omega)]), (fun k hk => by rw [eσ13, jup_k (by omega), eσ12, jup_k (by omega), f7 k (by omega)]), m14, m15, trivial⟩ hP hS dX12_orders_34
set_option maxHeartbeats 4000000 in
set_option maxRecDepth 100000 in
theorem c_X12_orders_0 (l : Launch) (D : va_G) (cI cL : ClassId) (ad : Nat → Nat) (hJ : jD ad) (σ : Nat → Nat → Int32) (τ : Nat → Nat → Int64) (h55_6 : σ 55 6 = 0) (h55_10 : σ 55 10 = 1) (h55_12 : σ 55 12 = 8) (h55_46 : σ 55 46 = (-1)) (h79_0 : σ 79 0 = 0) : jMv l yX12_orders cX12_orders 6 none ({ frames := 4, cells := 0, slots := 0, locals := 93 }) D cI cL ad [.ref (ad 55), .int 0, .int 0, .int 0] σ τ (fun σ' τ' => (∀ i : Nat, (i < 55 ∨ 55 < i) ∧ (i < 62 ∨ 62 < i) ∧ (i < 68 ∨ 69 < i) → σ' i = σ i) ∧ (∀ k : Nat, (k < 25 ∨ 25 < k) ∧ (k < 26 ∨ 26 < k) ∧ (k < 27 ∨ 27 < k) ∧ (k < 42 ∨ 42 < k) ∧ (k < 37 ∨ 37 < k) ∧ (k < 45 ∨ 45 < k) ∧ (k < 46 ∨ 46 < k) → σ' 55 k = σ 55 k) ∧ σ' 55 46 = 0 ∧ σ' 55 45 = 0 ∧ True) := by
  refine jMv.of hJ (by decide +kernel) rfl (Nat.le_of_ble_eq_true rfl) ?_
  intro p e s m args below meth c Q ls hC hret hl hP
  obtain ⟨hx, hb, hr, hml, hown, hts, hK, -, hlocks⟩ := hC
  have hown : s.vm.findClass RX12 = some m.cls := hown
  have hS : va_S (jA ad) s.heap s.heap [] := va_S.rf
  have hA : ∀ q, jA ad q → jA ad q := fun _ h => h
  have hl : lv_has ls 6 [(0, .ref (ad 55)), (1, .int 0), (2, .int 0), (3, .int 0)] := hl
  refine lv_iload_n hx hb dX12_orders_0 rfl (lv_at hl 1 rfl) ?_
  refine lv_aload_n hx hb dX12_orders_1 rfl (lv_at hl 0 rfl) ?_
  refine va_get (D := D) hx hb hts inlX12 hown hK hP 55 (jc_55 cI cL ad σ τ) rfl 10 (by decide) (hts _ kw_8_15) (fun _ h9 => h9) rfl dX12_orders_2 ?_
  refine jtopr h55_10 ?_
  refine lv_icmp_ne (tgt := 35) hx hb dX12_orders_5 (by decide) (fun _ => ?_) (fun c => absurd c (by decide))
  refine lv_iconst (v := 0) hx hb dX12_orders_35 (by decide) ?_
  refine lv_istore (lv' := [(4, .int 0), (0, .ref (ad 55)), (1, .int 0), (2, .int 0), (3, .int 0)]) hx hb dX12_orders_36 hl (by decide) rfl (fun ls hl => ?_)
  refine lv_iload hx hb dX12_orders_38 (lv_at hl 0 rfl) ?_
  refine lv_iconst (v := 4) hx hb dX12_orders_40 (by decide) ?_
  refine lv_icmp_ge (tgt := 127) hx hb dX12_orders_41 (by decide) (fun c => absurd c (by decide)) (fun _ => ?_)
  refine lv_iconst (v := 0) hx hb dX12_orders_44 (by decide) ?_
  refine lv_istore (lv' := [(5, .int 0), (4, .int 0), (0, .ref (ad 55)), (1, .int 0), (2, .int 0), (3, .int 0)]) hx hb dX12_orders_45 hl (by decide) rfl (fun ls hl => ?_)
  refine lv_iload hx hb dX12_orders_47 (lv_at hl 0 rfl) ?_
  refine lv_aload_n hx hb dX12_orders_49 rfl (lv_at hl 2 rfl) ?_
  refine va_get (D := D) hx hb hts inlX12 hown hK hP 55 (jc_55 cI cL ad σ τ) rfl 10 (by decide) (hts _ kw_8_15) (fun _ h9 => h9) rfl dX12_orders_50 ?_
  refine jtopr h55_10 ?_
  refine lv_icmp_ge (tgt := 84) hx hb dX12_orders_53 (by decide) (fun c => absurd c (by decide)) (fun _ => ?_)
  refine lv_iload_n hx hb dX12_orders_56 rfl (lv_at hl 4 rfl) ?_
  refine lv_iload hx hb dX12_orders_57 (lv_at hl 0 rfl) ?_
  refine lv_ishr hx hb dX12_orders_59 ?_
  refine jtopr (y := 0) (by decide) ?_
  refine lv_iconst (v := 1) hx hb dX12_orders_60 (by decide) ?_
  refine lv_iand hx hb dX12_orders_61 ?_
  refine jtopr (y := 0) (by decide) ?_
  refine lv_iconst (v := 1) hx hb dX12_orders_62 (by decide) ?_
  refine lv_icmp_eq (tgt := 78) hx hb dX12_orders_63 (by decide) (fun c => absurd c (by decide)) (fun _ => ?_)
  refine lv_aload_n hx hb dX12_orders_66 rfl (lv_at hl 2 rfl) ?_
  refine va_get (D := D) hx hb hts inlX12 hown hK hP 55 (jc_55 cI cL ad σ τ) rfl 44 (by decide) (hts _ kw_8_4) (fun _ h9 => h9) rfl dX12_orders_67 ?_
  refine lv_iload hx hb dX12_orders_70 (lv_at hl 0 rfl) ?_
  refine jald hx hb hK hP (jc_79 cI cL ad σ τ) (jin jz_0 (by omega) (by omega)) dX12_orders_72 ?_
  refine jtopr (y := σ 79 0) rfl ?_
  refine jtopr h79_0 ?_
  refine lv_iload hx hb dX12_orders_73 (lv_at hl 1 rfl) ?_
  refine lv_icmp_eq (tgt := 84) hx hb dX12_orders_75 (by decide) (fun _ => ?_) (fun c => absurd (by decide) c)
  refine lv_iload hx hb dX12_orders_84 (lv_at hl 0 rfl) ?_
  refine lv_aload_n hx hb dX12_orders_86 rfl (lv_at hl 2 rfl) ?_
  refine va_get (D := D) hx hb hts inlX12 hown hK hP 55 (jc_55 cI cL ad σ τ) rfl 10 (by decide) (hts _ kw_8_15) (fun _ h9 => h9) rfl dX12_orders_87 ?_
  refine jtopr h55_10 ?_
  refine lv_icmp_ge (tgt := 121) hx hb dX12_orders_90 (by decide) (fun c => absurd c (by decide)) (fun _ => ?_)
  refine lv_aload_n hx hb dX12_orders_93 rfl (lv_at hl 2 rfl) ?_
  refine va_get (D := D) hx hb hts inlX12 hown hK hP 55 (jc_55 cI cL ad σ τ) rfl 11 (by decide) (hts _ kw_7_8) (fun _ h9 => h9) rfl dX12_orders_94 ?_
  refine lv_iload_n hx hb dX12_orders_97 rfl (lv_at hl 3 rfl) ?_
  refine lv_iload hx hb dX12_orders_98 (lv_at hl 1 rfl) ?_
  refine jast hx hb hK hP hJ hA hS (jc_62 cI cL ad σ τ) (ja_62 cI cL ad σ τ _ _) (jin jz_0 (by omega) (by omega)) dX12_orders_100 (fun σ1 H locs eσ1 hP hS => ?_)
  have eσ1 : σ1 = jup σ 62 0 0 := eσ1
  refine lv_aload_n hx hb dX12_orders_101 rfl (lv_at hl 2 rfl) ?_
  refine lv_iload_n hx hb dX12_orders_102 rfl (lv_at hl 3 rfl) ?_
  refine lv_iconst (v := 1) hx hb dX12_orders_103 (by decide) ?_
  refine lv_iadd hx hb dX12_orders_104 ?_
  refine jtopr (y := 1) (by decide) ?_
  refine lv_iload_n hx hb dX12_orders_105 rfl (lv_at hl 4 rfl) ?_
  refine lv_iconst (v := 1) hx hb dX12_orders_106 (by decide) ?_
  refine lv_iload hx hb dX12_orders_107 (lv_at hl 0 rfl) ?_
  refine lv_ishl hx hb dX12_orders_109 ?_
  refine jtopr (y := 1) (by decide) ?_
  refine lv_ior hx hb dX12_orders_110 ?_
  refine jtopr (y := 1) (by decide) ?_
  refine lv_bipush (v := 10) hx hb dX12_orders_111 (by decide) ?_
  refine lv_iload_n hx hb dX12_orders_113 rfl (lv_at hl 5 rfl) ?_
  refine lv_imul hx hb dX12_orders_114 ?_
  refine jtopr (y := 0) (by decide) ?_
  refine lv_iload hx hb dX12_orders_115 (lv_at hl 1 rfl) ?_
  refine lv_iadd hx hb dX12_orders_117 ?_
  refine jtopr (y := 0) (by decide) ?_
  have m2 : σ1 55 6 = 0 := (by rw [eσ1, jup_n (by decide)]; exact h55_6)
  have m3 : σ1 55 10 = 1 := (by rw [eσ1, jup_n (by decide)]; exact h55_10)
  have m4 : σ1 55 12 = 8 := (by rw [eσ1, jup_n (by decide)]; exact h55_12)
  have m5 : σ1 55 46 = (-1) := (by rw [eσ1, jup_n (by decide)]; exact h55_46)
  refine jcallVv (As := [.int 1, .int 1, .int 0]) (rest := []) ⟨hx, hb, hml, hown, hts⟩ hK hP hA hS (c_X12_orders_1 l D cI cL ad hJ σ1 τ m2 m3 m4 m5) cw_RX12_355 (jc_55 cI cL ad σ1 τ) rfl ⟨Nat.le_of_ble_eq_true rfl, Nat.le_of_ble_eq_true rfl⟩ rfl rfl rfl hl.1 rfl (Nat.le_of_ble_eq_true rfl) dX12_orders_118 ⟨Nat.zero_le _, Nat.zero_le _⟩ (fun σ6 τ6 H locs h6 hP hS => ?_)
  obtain ⟨f8, f11, m9, m10, h6⟩ := h6
  refine lv_iinc (v := 1) (lv' := [(4, .int 1), (5, .int 0), (0, .ref (ad 55)), (1, .int 0), (2, .int 0), (3, .int 0)]) hx hb dX12_orders_121 hl (k := 1) rfl (by decide) (by decide) rfl (fun ls hl => ?_)
  refine lv_goto (tgt := 38) hx hb dX12_orders_124 (by decide) ?_
  refine lv_iload hx hb dX12_orders_38 (lv_at hl 0 rfl) ?_
  refine lv_iconst (v := 4) hx hb dX12_orders_40 (by decide) ?_
  refine lv_icmp_ge (tgt := 127) hx hb dX12_orders_41 (by decide) (fun c => absurd c (by decide)) (fun _ => ?_)
  refine lv_iconst (v := 0) hx hb dX12_orders_44 (by decide) ?_
  refine lv_istore (lv' := [(5, .int 0), (4, .int 1), (0, .ref (ad 55)), (1, .int 0), (2, .int 0), (3, .int 0)]) hx hb dX12_orders_45 hl (by decide) rfl (fun ls hl => ?_)
  refine lv_iload hx hb dX12_orders_47 (lv_at hl 0 rfl) ?_
  refine lv_aload_n hx hb dX12_orders_49 rfl (lv_at hl 2 rfl) ?_
  refine va_get (D := D) hx hb hts inlX12 hown hK hP 55 (jc_55 cI cL ad σ6 τ6) rfl 10 (by decide) (hts _ kw_8_15) (fun _ h9 => h9) rfl dX12_orders_50 ?_
  have m12 : σ6 55 10 = 1 := (by rw [f11 10 (by omega)]; exact m3)
  refine jtopr m12 ?_
  refine lv_icmp_ge (tgt := 84) hx hb dX12_orders_53 (by decide) (fun c => absurd c (by decide)) (fun _ => ?_)
  refine lv_iload_n hx hb dX12_orders_56 rfl (lv_at hl 4 rfl) ?_
  refine lv_iload hx hb dX12_orders_57 (lv_at hl 0 rfl) ?_
  refine lv_ishr hx hb dX12_orders_59 ?_
  refine jtopr (y := 0) (by decide) ?_
  refine lv_iconst (v := 1) hx hb dX12_orders_60 (by decide) ?_
  refine lv_iand hx hb dX12_orders_61 ?_
  refine jtopr (y := 0) (by decide) ?_
  refine lv_iconst (v := 1) hx hb dX12_orders_62 (by decide) ?_
  refine lv_icmp_eq (tgt := 78) hx hb dX12_orders_63 (by decide) (fun c => absurd c (by decide)) (fun _ => ?_)
  refine lv_aload_n hx hb dX12_orders_66 rfl (lv_at hl 2 rfl) ?_
  refine va_get (D := D) hx hb hts inlX12 hown hK hP 55 (jc_55 cI cL ad σ6 τ6) rfl 44 (by decide) (hts _ kw_8_4) (fun _ h9 => h9) rfl dX12_orders_67 ?_
  refine lv_iload hx hb dX12_orders_70 (lv_at hl 0 rfl) ?_
  refine jald hx hb hK hP (jc_79 cI cL ad σ6 τ6) (jin jz_0 (by omega) (by omega)) dX12_orders_72 ?_
  refine jtopr (y := σ6 79 0) rfl ?_
  have m13 : σ6 79 0 = 0 := (by rw [f8 79 (by omega)]; exact (by rw [eσ1, jup_n (by decide)]; exact h79_0))
  refine jtopr m13 ?_
  refine lv_iload hx hb dX12_orders_73 (lv_at hl 1 rfl) ?_
  refine lv_icmp_eq (tgt := 84) hx hb dX12_orders_75 (by decide) (fun c => absurd c (by decide)) (fun _ => ?_)
  refine lv_iinc (v := 1) (lv' := [(5, .int 1), (4, .int 1), (0, .ref (ad 55)), (1, .int 0), (2, .int 0), (3, .int 0)]) hx hb dX12_orders_78 hl (k := 0) rfl (by decide) (by decide) rfl (fun ls hl => ?_)
  refine lv_goto (tgt := 47) hx hb dX12_orders_81 (by decide) ?_
  refine lv_iload hx hb dX12_orders_47 (lv_at hl 0 rfl) ?_
  refine lv_aload_n hx hb dX12_orders_49 rfl (lv_at hl 2 rfl) ?_
  refine va_get (D := D) hx hb hts inlX12 hown hK hP 55 (jc_55 cI cL ad σ6 τ6) rfl 10 (by decide) (hts _ kw_8_15) (fun _ h9 => h9) rfl dX12_orders_50 ?_
  refine jtopr m12 ?_
  refine lv_icmp_ge (tgt := 84) hx hb dX12_orders_53 (by decide) (fun _ => ?_) (fun c => absurd (by decide) c)
  refine lv_iload hx hb dX12_orders_84 (lv_at hl 0 rfl) ?_
  refine lv_aload_n hx hb dX12_orders_86 rfl (lv_at hl 2 rfl) ?_
  refine va_get (D := D) hx hb hts inlX12 hown hK hP 55 (jc_55 cI cL ad σ6 τ6) rfl 10 (by decide) (hts _ kw_8_15) (fun _ h9 => h9) rfl dX12_orders_87 ?_
  refine jtopr m12 ?_
  refine lv_icmp_ge (tgt := 121) hx hb dX12_orders_90 (by decide) (fun _ => ?_) (fun c => absurd (by decide) c)
  refine lv_iinc (v := 2) (lv' := [(4, .int 2), (5, .int 1), (0, .ref (ad 55)), (1, .int 0), (2, .int 0), (3, .int 0)]) hx hb dX12_orders_121 hl (k := 1) rfl (by decide) (by decide) rfl (fun ls hl => ?_)
  refine lv_goto (tgt := 38) hx hb dX12_orders_124 (by decide) ?_
  refine lv_iload hx hb dX12_orders_38 (lv_at hl 0 rfl) ?_
  refine lv_iconst (v := 4) hx hb dX12_orders_40 (by decide) ?_
  refine lv_icmp_ge (tgt := 127) hx hb dX12_orders_41 (by decide) (fun c => absurd c (by decide)) (fun _ => ?_)
  refine lv_iconst (v := 0) hx hb dX12_orders_44 (by decide) ?_
  refine lv_istore (lv' := [(5, .int 0), (4, .int 2), (0, .ref (ad 55)), (1, .int 0), (2, .int 0), (3, .int 0)]) hx hb dX12_orders_45 hl (by decide) rfl (fun ls hl => ?_)
  refine lv_iload hx hb dX12_orders_47 (lv_at hl 0 rfl) ?_
  refine lv_aload_n hx hb dX12_orders_49 rfl (lv_at hl 2 rfl) ?_
  refine va_get (D := D) hx hb hts inlX12 hown hK hP 55 (jc_55 cI cL ad σ6 τ6) rfl 10 (by decide) (hts _ kw_8_15) (fun _ h9 => h9) rfl dX12_orders_50 ?_
  refine jtopr m12 ?_
  refine lv_icmp_ge (tgt := 84) hx hb dX12_orders_53 (by decide) (fun c => absurd c (by decide)) (fun _ => ?_)
  refine lv_iload_n hx hb dX12_orders_56 rfl (lv_at hl 4 rfl) ?_
  refine lv_iload hx hb dX12_orders_57 (lv_at hl 0 rfl) ?_
  refine lv_ishr hx hb dX12_orders_59 ?_
  refine jtopr (y := 0) (by decide) ?_
  refine lv_iconst (v := 1) hx hb dX12_orders_60 (by decide) ?_
  refine lv_iand hx hb dX12_orders_61 ?_
  refine jtopr (y := 0) (by decide) ?_
  refine lv_iconst (v := 1) hx hb dX12_orders_62 (by decide) ?_
  refine lv_icmp_eq (tgt := 78) hx hb dX12_orders_63 (by decide) (fun c => absurd c (by decide)) (fun _ => ?_)
  refine lv_aload_n hx hb dX12_orders_66 rfl (lv_at hl 2 rfl) ?_
  refine va_get (D := D) hx hb hts inlX12 hown hK hP 55 (jc_55 cI cL ad σ6 τ6) rfl 44 (by decide) (hts _ kw_8_4) (fun _ h9 => h9) rfl dX12_orders_67 ?_
  refine lv_iload hx hb dX12_orders_70 (lv_at hl 0 rfl) ?_
  refine jald hx hb hK hP (jc_79 cI cL ad σ6 τ6) (jin jz_0 (by omega) (by omega)) dX12_orders_72 ?_
  refine jtopr (y := σ6 79 0) rfl ?_
  refine jtopr m13 ?_
  refine lv_iload hx hb dX12_orders_73 (lv_at hl 1 rfl) ?_
  refine lv_icmp_eq (tgt := 84) hx hb dX12_orders_75 (by decide) (fun c => absurd c (by decide)) (fun _ => ?_)
  refine lv_iinc (v := 1) (lv' := [(5, .int 1), (4, .int 2), (0, .ref (ad 55)), (1, .int 0), (2, .int 0), (3, .int 0)]) hx hb dX12_orders_78 hl (k := 0) rfl (by decide) (by decide) rfl (fun ls hl => ?_)
  refine lv_goto (tgt := 47) hx hb dX12_orders_81 (by decide) ?_
  refine lv_iload hx hb dX12_orders_47 (lv_at hl 0 rfl) ?_
  refine lv_aload_n hx hb dX12_orders_49 rfl (lv_at hl 2 rfl) ?_
  refine va_get (D := D) hx hb hts inlX12 hown hK hP 55 (jc_55 cI cL ad σ6 τ6) rfl 10 (by decide) (hts _ kw_8_15) (fun _ h9 => h9) rfl dX12_orders_50 ?_
  refine jtopr m12 ?_
  refine lv_icmp_ge (tgt := 84) hx hb dX12_orders_53 (by decide) (fun _ => ?_) (fun c => absurd (by decide) c)
  refine lv_iload hx hb dX12_orders_84 (lv_at hl 0 rfl) ?_
  refine lv_aload_n hx hb dX12_orders_86 rfl (lv_at hl 2 rfl) ?_
  refine va_get (D := D) hx hb hts inlX12 hown hK hP 55 (jc_55 cI cL ad σ6 τ6) rfl 10 (by decide) (hts _ kw_8_15) (fun _ h9 => h9) rfl dX12_orders_87 ?_
  refine jtopr m12 ?_
  refine lv_icmp_ge (tgt := 121) hx hb dX12_orders_90 (by decide) (fun _ => ?_) (fun c => absurd (by decide) c)
  refine lv_iinc (v := 3) (lv' := [(4, .int 3), (5, .int 1), (0, .ref (ad 55)), (1, .int 0), (2, .int 0), (3, .int 0)]) hx hb dX12_orders_121 hl (k := 1) rfl (by decide) (by decide) rfl (fun ls hl => ?_)
  refine lv_goto (tgt := 38) hx hb dX12_orders_124 (by decide) ?_
  refine lv_iload hx hb dX12_orders_38 (lv_at hl 0 rfl) ?_
  refine lv_iconst (v := 4) hx hb dX12_orders_40 (by decide) ?_
  refine lv_icmp_ge (tgt := 127) hx hb dX12_orders_41 (by decide) (fun c => absurd c (by decide)) (fun _ => ?_)
  refine lv_iconst (v := 0) hx hb dX12_orders_44 (by decide) ?_
  refine lv_istore (lv' := [(5, .int 0), (4, .int 3), (0, .ref (ad 55)), (1, .int 0), (2, .int 0), (3, .int 0)]) hx hb dX12_orders_45 hl (by decide) rfl (fun ls hl => ?_)
  refine lv_iload hx hb dX12_orders_47 (lv_at hl 0 rfl) ?_
  refine lv_aload_n hx hb dX12_orders_49 rfl (lv_at hl 2 rfl) ?_
  refine va_get (D := D) hx hb hts inlX12 hown hK hP 55 (jc_55 cI cL ad σ6 τ6) rfl 10 (by decide) (hts _ kw_8_15) (fun _ h9 => h9) rfl dX12_orders_50 ?_
  refine jtopr m12 ?_
  refine lv_icmp_ge (tgt := 84) hx hb dX12_orders_53 (by decide) (fun c => absurd c (by decide)) (fun _ => ?_)
  refine lv_iload_n hx hb dX12_orders_56 rfl (lv_at hl 4 rfl) ?_
  refine lv_iload hx hb dX12_orders_57 (lv_at hl 0 rfl) ?_
  refine lv_ishr hx hb dX12_orders_59 ?_
  refine jtopr (y := 0) (by decide) ?_
  refine lv_iconst (v := 1) hx hb dX12_orders_60 (by decide) ?_
  refine lv_iand hx hb dX12_orders_61 ?_
  refine jtopr (y := 0) (by decide) ?_
  refine lv_iconst (v := 1) hx hb dX12_orders_62 (by decide) ?_
  refine lv_icmp_eq (tgt := 78) hx hb dX12_orders_63 (by decide) (fun c => absurd c (by decide)) (fun _ => ?_)
  refine lv_aload_n hx hb dX12_orders_66 rfl (lv_at hl 2 rfl) ?_
  refine va_get (D := D) hx hb hts inlX12 hown hK hP 55 (jc_55 cI cL ad σ6 τ6) rfl 44 (by decide) (hts _ kw_8_4) (fun _ h9 => h9) rfl dX12_orders_67 ?_
  refine lv_iload hx hb dX12_orders_70 (lv_at hl 0 rfl) ?_
  refine jald hx hb hK hP (jc_79 cI cL ad σ6 τ6) (jin jz_0 (by omega) (by omega)) dX12_orders_72 ?_
  refine jtopr (y := σ6 79 0) rfl ?_
  refine jtopr m13 ?_
  refine lv_iload hx hb dX12_orders_73 (lv_at hl 1 rfl) ?_
  refine lv_icmp_eq (tgt := 84) hx hb dX12_orders_75 (by decide) (fun c => absurd c (by decide)) (fun _ => ?_)
  refine lv_iinc (v := 1) (lv' := [(5, .int 1), (4, .int 3), (0, .ref (ad 55)), (1, .int 0), (2, .int 0), (3, .int 0)]) hx hb dX12_orders_78 hl (k := 0) rfl (by decide) (by decide) rfl (fun ls hl => ?_)
  refine lv_goto (tgt := 47) hx hb dX12_orders_81 (by decide) ?_
  refine lv_iload hx hb dX12_orders_47 (lv_at hl 0 rfl) ?_
  refine lv_aload_n hx hb dX12_orders_49 rfl (lv_at hl 2 rfl) ?_
  refine va_get (D := D) hx hb hts inlX12 hown hK hP 55 (jc_55 cI cL ad σ6 τ6) rfl 10 (by decide) (hts _ kw_8_15) (fun _ h9 => h9) rfl dX12_orders_50 ?_
  refine jtopr m12 ?_
  refine lv_icmp_ge (tgt := 84) hx hb dX12_orders_53 (by decide) (fun _ => ?_) (fun c => absurd (by decide) c)
  refine lv_iload hx hb dX12_orders_84 (lv_at hl 0 rfl) ?_
  refine lv_aload_n hx hb dX12_orders_86 rfl (lv_at hl 2 rfl) ?_
  refine va_get (D := D) hx hb hts inlX12 hown hK hP 55 (jc_55 cI cL ad σ6 τ6) rfl 10 (by decide) (hts _ kw_8_15) (fun _ h9 => h9) rfl dX12_orders_87 ?_
  refine jtopr m12 ?_
  refine lv_icmp_ge (tgt := 121) hx hb dX12_orders_90 (by decide) (fun _ => ?_) (fun c => absurd (by decide) c)
  refine lv_iinc (v := 4) (lv' := [(4, .int 4), (5, .int 1), (0, .ref (ad 55)), (1, .int 0), (2, .int 0), (3, .int 0)]) hx hb dX12_orders_121 hl (k := 1) rfl (by decide) (by decide) rfl (fun ls hl => ?_)
  refine lv_goto (tgt := 38) hx hb dX12_orders_124 (by decide) ?_
  refine lv_iload hx hb dX12_orders_38 (lv_at hl 0 rfl) ?_
  refine lv_iconst (v := 4) hx hb dX12_orders_40 (by decide) ?_
  refine lv_icmp_ge (tgt := 127) hx hb dX12_orders_41 (by decide) (fun _ => ?_) (fun c => absurd (by decide) c)
  exact hret σ6 τ6 _ _ _ _ ⟨(fun i hi => by rw [f8 i (by omega), eσ1, jup_n (by omega)]), (fun k hk => by rw [f11 k (by omega), eσ1, jup_n (by decide)]), m9, m10, trivial⟩ hP hS dX12_orders_127
set_option maxHeartbeats 4000000 in
set_option maxRecDepth 100000 in
theorem c_X12_theirs (l : Launch) (D : va_G) (cI cL : ClassId) (ad : Nat → Nat) (hJ : jD ad) (σ : Nat → Nat → Int32) (τ : Nat → Nat → Int64) (a1 : Int32) (A1 : Int) (t1 : a1.toInt = A1) (h55_6 : σ 55 6 = 0) (h55_10 : σ 55 10 = 1) (h55_12 : σ 55 12 = 8) (ha62 : ∀ k : Nat, σ 62 k = 0) : jM l yX12_theirs cX12_theirs 3 (some .int) ({ frames := 5, cells := 0, slots := 0, locals := 118 }) D cI cL ad [.ref (ad 55), .int a1] σ τ (fun r σ' τ' => True ∧ r = (if 0 ≤ A1 ∧ A1 ≤ 1 then 0 else -1)) := by
  refine jM.of hJ (by decide +kernel) (nt := .int) rfl (Nat.le_of_ble_eq_true rfl) ?_
  intro p e s m args below meth c Q ls hC hret hl hP
  obtain ⟨hx, hb, hr, hml, hown, hts, hK, -, hlocks⟩ := hC
  have hown : s.vm.findClass RX12 = some m.cls := hown
  have hS : va_S (jA ad) s.heap s.heap [] := va_S.rf
  have hA : ∀ q, jA ad q → jA ad q := fun _ h => h
  have hl : lv_has ls 3 [(0, .ref (ad 55)), (1, .int a1)] := hl
  have g1 := jrg t1
  refine lv_iload_n hx hb dX12_theirs_0 rfl (lv_at hl 1 rfl) ?_
  refine lv_i2l (v := a1.toInt64) hx hb dX12_theirs_1 rfl ?_
  refine lv_lconst (v := 0) hx hb dX12_theirs_2 (by decide) ?_
  refine lv_lconst (v := 1) hx hb dX12_theirs_3 (by decide) ?_
  refine jcallS (As := [.long a1.toInt64, .long 0, .long 1]) (rest := []) ⟨hx, hb, hml, hown, hts⟩ hK hP hA hS (c_X12_within l D cI cL ad hJ σ τ a1.toInt64 (A1) (jtoL t1) 0 (0) jzl_0 1 (1) jzl_1) cw_RX12_136 ⟨Nat.le_of_ble_eq_true rfl, Nat.le_of_ble_eq_true rfl⟩ rfl rfl rfl hl.1 rfl (Nat.le_of_ble_eq_true rfl) dX12_theirs_4 ⟨Nat.zero_le _, Nat.zero_le _⟩ (fun r2 σ1 τ1 H locs h1 hP hS => ?_)
  obtain ⟨⟨rfl, rfl⟩, h1⟩ := h1
  rcases h1 with h3 | h4
  · obtain ⟨q6, k5⟩ := h3
    have q6 := q6.symm
    subst q6
    refine lv_if_ne (tgt := 12) hx hb dX12_theirs_7 (by decide) (fun _ => ?_) (fun c => absurd c (by decide))
    refine lv_aload_n hx hb dX12_theirs_12 rfl (lv_at hl 0 rfl) ?_
    refine va_get (D := D) hx hb hts inlX12 hown hK hP 55 (jc_55 cI cL ad σ τ) rfl 10 (by decide) (hts _ kw_8_15) (fun _ h9 => h9) rfl dX12_theirs_13 ?_
    refine jtopr h55_10 ?_
    refine lv_iconst (v := 5) hx hb dX12_theirs_16 (by decide) ?_
    refine lv_icmp_gt (tgt := 29) hx hb dX12_theirs_17 (by decide) (fun c => absurd c (by decide)) (fun _ => ?_)
    refine lv_aload_n hx hb dX12_theirs_20 rfl (lv_at hl 0 rfl) ?_
    refine va_get (D := D) hx hb hts inlX12 hown hK hP 55 (jc_55 cI cL ad σ τ) rfl 12 (by decide) (hts _ kw_8_16) (fun _ h9 => h9) rfl dX12_theirs_21 ?_
    refine jtopr h55_12 ?_
    refine lv_bipush (v := 8) hx hb dX12_theirs_24 (by decide) ?_
    refine lv_icmp_le (tgt := 32) hx hb dX12_theirs_26 (by decide) (fun _ => ?_) (fun c => absurd (by decide) c)
    refine lv_iconst (v := 0) hx hb dX12_theirs_32 (by decide) ?_
    refine lv_istore_n (lv' := [(2, .int 0), (0, .ref (ad 55)), (1, .int a1)]) hx hb dX12_theirs_33 rfl hl (by decide) rfl (fun ls hl => ?_)
    refine lv_iload_n hx hb dX12_theirs_34 rfl (lv_at hl 0 rfl) ?_
    refine lv_aload_n hx hb dX12_theirs_35 rfl (lv_at hl 1 rfl) ?_
    refine va_get (D := D) hx hb hts inlX12 hown hK hP 55 (jc_55 cI cL ad σ τ) rfl 10 (by decide) (hts _ kw_8_15) (fun _ h9 => h9) rfl dX12_theirs_36 ?_
    refine jtopr h55_10 ?_
    refine lv_icmp_ge (tgt := 60) hx hb dX12_theirs_39 (by decide) (fun c => absurd c (by decide)) (fun _ => ?_)
    refine lv_aload_n hx hb dX12_theirs_42 rfl (lv_at hl 1 rfl) ?_
    refine va_get (D := D) hx hb hts inlX12 hown hK hP 55 (jc_55 cI cL ad σ τ) rfl 44 (by decide) (hts _ kw_8_4) (fun _ h9 => h9) rfl dX12_theirs_43 ?_
    refine lv_iload_n hx hb dX12_theirs_46 rfl (lv_at hl 0 rfl) ?_
    refine lv_aload_n hx hb dX12_theirs_47 rfl (lv_at hl 1 rfl) ?_
    refine va_get (D := D) hx hb hts inlX12 hown hK hP 55 (jc_55 cI cL ad σ τ) rfl 11 (by decide) (hts _ kw_7_8) (fun _ h9 => h9) rfl dX12_theirs_48 ?_
    refine lv_iload_n hx hb dX12_theirs_51 rfl (lv_at hl 0 rfl) ?_
    refine jald hx hb hK hP (jc_62 cI cL ad σ τ) (jin jz_0 (by omega) (by omega)) dX12_theirs_52 ?_
    refine jtopr (y := σ 62 0) rfl ?_
    have m7 : σ 62 0 = 0 := (ha62 0)
    refine jtopr m7 ?_
    refine jast hx hb hK hP hJ hA hS (jc_79 cI cL ad σ τ) (ja_79 cI cL ad σ τ _ _) (jin jz_0 (by omega) (by omega)) dX12_theirs_53 (fun σ8 H locs eσ8 hP hS => ?_)
    have eσ8 : σ8 = jup σ 79 0 0 := eσ8
    refine lv_iinc (v := 1) (lv' := [(2, .int 1), (0, .ref (ad 55)), (1, .int a1)]) hx hb dX12_theirs_54 hl (k := 0) rfl (by decide) (by decide) rfl (fun ls hl => ?_)
    refine lv_goto (tgt := 34) hx hb dX12_theirs_57 (by decide) ?_
    refine lv_iload_n hx hb dX12_theirs_34 rfl (lv_at hl 0 rfl) ?_
    refine lv_aload_n hx hb dX12_theirs_35 rfl (lv_at hl 1 rfl) ?_
    refine va_get (D := D) hx hb hts inlX12 hown hK hP 55 (jc_55 cI cL ad σ8 τ) rfl 10 (by decide) (hts _ kw_8_15) (fun _ h9 => h9) rfl dX12_theirs_36 ?_
    have m9 : σ8 55 10 = 1 := (by rw [eσ8, jup_n (by decide)]; exact h55_10)
    refine jtopr m9 ?_
    refine lv_icmp_ge (tgt := 60) hx hb dX12_theirs_39 (by decide) (fun _ => ?_) (fun c => absurd (by decide) c)
    refine lv_aload_n hx hb dX12_theirs_60 rfl (lv_at hl 1 rfl) ?_
    refine lv_iconst (v := (-1)) hx hb dX12_theirs_61 (by decide) ?_
    refine jput (ty := .int) hx hb hts inlX12 tyX12 tyX12_ok nmX12 hown hK hP hJ hA hS (jc_55 cI cL ad σ8 τ) rfl (k := 46) (by decide) (Nat.le_of_ble_eq_true rfl) (jp_55_46 cI cL ad σ8 τ (-1)) (hts _ kw_40_17) (fun _ h9 => h9) rfl (by decide +kernel) rfl rfl dX12_theirs_62 (fun σ10 H locs eσ10 hP hS => ?_)
    refine lv_aload_n hx hb dX12_theirs_65 rfl (lv_at hl 1 rfl) ?_
    refine lv_iconst (v := 0) hx hb dX12_theirs_66 (by decide) ?_
    refine lv_iconst (v := 0) hx hb dX12_theirs_67 (by decide) ?_
    refine lv_iconst (v := 0) hx hb dX12_theirs_68 (by decide) ?_
    have m11 : σ10 55 6 = 0 := (by rw [eσ10, jup_k (by decide)]; exact (by rw [eσ8, jup_n (by decide)]; exact h55_6))
    have m12 : σ10 55 10 = 1 := (by rw [eσ10, jup_k (by decide)]; exact m9)
    have m13 : σ10 55 12 = 8 := (by rw [eσ10, jup_k (by decide)]; exact (by rw [eσ8, jup_n (by decide)]; exact h55_12))
    have m14 : σ10 55 46 = (-1) := (by rw [eσ10]; exact jup_s)
    have m15 : σ10 79 0 = 0 := (by rw [eσ10, jup_n (by decide)]; exact (by rw [eσ8]; exact jup_s))
    refine jcallVv (As := [.int 0, .int 0, .int 0]) (rest := []) ⟨hx, hb, hml, hown, hts⟩ hK hP hA hS (c_X12_orders_0 l D cI cL ad hJ σ10 τ m11 m12 m13 m14 m15) cw_RX12_355 (jc_55 cI cL ad σ10 τ) rfl ⟨Nat.le_of_ble_eq_true rfl, Nat.le_of_ble_eq_true rfl⟩ rfl rfl rfl hl.1 rfl (Nat.le_of_ble_eq_true rfl) dX12_theirs_69 ⟨Nat.zero_le _, Nat.zero_le _⟩ (fun σ16 τ16 H locs h16 hP hS => ?_)
    obtain ⟨f18, f21, m19, m20, h16⟩ := h16
    refine lv_iconst (v := 0) hx hb dX12_theirs_72 (by decide) ?_
    refine lv_istore_n (lv' := [(2, .int 0), (0, .ref (ad 55)), (1, .int a1)]) hx hb dX12_theirs_73 rfl hl (by decide) rfl (fun ls hl => ?_)
    refine lv_iload_n hx hb dX12_theirs_74 rfl (lv_at hl 0 rfl) ?_
    refine lv_aload_n hx hb dX12_theirs_75 rfl (lv_at hl 1 rfl) ?_
    refine va_get (D := D) hx hb hts inlX12 hown hK hP 55 (jc_55 cI cL ad σ16 τ16) rfl 10 (by decide) (hts _ kw_8_15) (fun _ h9 => h9) rfl dX12_theirs_76 ?_
    have m22 : σ16 55 10 = 1 := (by rw [f21 10 (by omega)]; exact m12)
    refine jtopr m22 ?_
    refine lv_icmp_ge (tgt := 100) hx hb dX12_theirs_79 (by decide) (fun c => absurd c (by decide)) (fun _ => ?_)
    refine lv_aload_n hx hb dX12_theirs_82 rfl (lv_at hl 1 rfl) ?_
    refine va_get (D := D) hx hb hts inlX12 hown hK hP 55 (jc_55 cI cL ad σ16 τ16) rfl 11 (by decide) (hts _ kw_7_8) (fun _ h9 => h9) rfl dX12_theirs_83 ?_
    refine lv_iload_n hx hb dX12_theirs_86 rfl (lv_at hl 0 rfl) ?_
    refine lv_aload_n hx hb dX12_theirs_87 rfl (lv_at hl 1 rfl) ?_
    refine va_get (D := D) hx hb hts inlX12 hown hK hP 55 (jc_55 cI cL ad σ16 τ16) rfl 44 (by decide) (hts _ kw_8_4) (fun _ h9 => h9) rfl dX12_theirs_88 ?_
    refine lv_iload_n hx hb dX12_theirs_91 rfl (lv_at hl 0 rfl) ?_
    refine jald hx hb hK hP (jc_79 cI cL ad σ16 τ16) (jin jz_0 (by omega) (by omega)) dX12_theirs_92 ?_
    refine jtopr (y := σ16 79 0) rfl ?_
    have m23 : σ16 79 0 = 0 := (by rw [f18 79 (by omega)]; exact m15)
    refine jtopr m23 ?_
    refine jast hx hb hK hP hJ hA hS (jc_62 cI cL ad σ16 τ16) (ja_62 cI cL ad σ16 τ16 _ _) (jin jz_0 (by omega) (by omega)) dX12_theirs_93 (fun σ24 H locs eσ24 hP hS => ?_)
    have eσ24 : σ24 = jup σ16 62 0 0 := eσ24
    refine lv_iinc (v := 1) (lv' := [(2, .int 1), (0, .ref (ad 55)), (1, .int a1)]) hx hb dX12_theirs_94 hl (k := 0) rfl (by decide) (by decide) rfl (fun ls hl => ?_)
    refine lv_goto (tgt := 74) hx hb dX12_theirs_97 (by decide) ?_
    refine lv_iload_n hx hb dX12_theirs_74 rfl (lv_at hl 0 rfl) ?_
    refine lv_aload_n hx hb dX12_theirs_75 rfl (lv_at hl 1 rfl) ?_
    refine va_get (D := D) hx hb hts inlX12 hown hK hP 55 (jc_55 cI cL ad σ24 τ16) rfl 10 (by decide) (hts _ kw_8_15) (fun _ h9 => h9) rfl dX12_theirs_76 ?_
    have m25 : σ24 55 10 = 1 := (by rw [eσ24, jup_n (by decide)]; exact m22)
    refine jtopr m25 ?_
    refine lv_icmp_ge (tgt := 100) hx hb dX12_theirs_79 (by decide) (fun _ => ?_) (fun c => absurd (by decide) c)
    refine lv_iload_n hx hb dX12_theirs_100 rfl (lv_at hl 2 rfl) ?_
    refine lv_if_ne (tgt := 111) hx hb dX12_theirs_101 (by decide) (fun c26 => ?_) (fun c26 => ?_)
    · have kc26 := jne c26 t1 jz_0
      refine lv_aload_n hx hb dX12_theirs_111 rfl (lv_at hl 1 rfl) ?_
      refine va_get (D := D) hx hb hts inlX12 hown hK hP 55 (jc_55 cI cL ad σ24 τ16) rfl 46 (by decide) (hts _ kw_40_17) (fun _ h9 => h9) rfl dX12_theirs_112 ?_
      have m27 : σ24 55 46 = 0 := (by rw [eσ24, jup_n (by decide)]; exact m19)
      refine jtopr m27 ?_
      exact hret 0 σ24 τ16 _ _ _ _ rfl ⟨trivial, (by (repeat' split) <;> first | rfl | omega | exact jsame jz_0 t1 (by omega) | (exfalso; omega))⟩ hP hS dX12_theirs_115
    · have kc26 := jeq c26 t1 jz_0
      refine lv_aload_n hx hb dX12_theirs_104 rfl (lv_at hl 1 rfl) ?_
      refine va_get (D := D) hx hb hts inlX12 hown hK hP 55 (jc_55 cI cL ad σ24 τ16) rfl 45 (by decide) (hts _ kw_40_18) (fun _ h9 => h9) rfl dX12_theirs_105 ?_
      have m28 : σ24 55 45 = 0 := (by rw [eσ24, jup_n (by decide)]; exact m20)
      refine jtopr m28 ?_
      refine lv_goto (tgt := 115) hx hb dX12_theirs_108 (by decide) ?_
      exact hret 0 σ24 τ16 _ _ _ _ rfl ⟨trivial, (by (repeat' split) <;> first | rfl | omega | exact jsame jz_0 t1 (by omega) | (exfalso; omega))⟩ hP hS dX12_theirs_115
  · obtain ⟨q30, k29⟩ := h4
    have q30 := q30.symm
    subst q30
    refine lv_if_ne (tgt := 12) hx hb dX12_theirs_7 (by decide) (fun c => absurd (by decide) c) (fun _ => ?_)
    refine lv_iconst (v := (-1)) hx hb dX12_theirs_10 (by decide) ?_
    exact hret (-1) σ τ _ _ _ _ rfl ⟨trivial, (by (repeat' split) <;> first | rfl | omega | exact jsame jz_m1 t1 (by omega) | (exfalso; omega))⟩ hP hS dX12_theirs_11
set_option maxHeartbeats 4000000 in
set_option maxRecDepth 100000 in
theorem c_X12_led (l : Launch) (D : va_G) (cI cL : ClassId) (ad : Nat → Nat) (hJ : jD ad) (σ : Nat → Nat → Int32) (τ : Nat → Nat → Int64) (a1 : Int32) (A1 : Int) (t1 : a1.toInt = A1) (a2 : Int32) (A2 : Int) (t2 : a2.toInt = A2) (h55_50 : σ 55 50 = 0) : jM l yX12_led cX12_led 3 (some .int) ({ frames := 1, cells := 0, slots := 0, locals := 25 }) D cI cL ad [.ref (ad 55), .int a1, .int a2] σ τ (fun r σ' τ' => True ∧ r = (if A1 = -1 ∧ A2 = 0 then 0 else -1)) := by
  refine jM.of hJ (by decide +kernel) (nt := .int) rfl (Nat.le_of_ble_eq_true rfl) ?_
  intro p e s m args below meth c Q ls hC hret hl hP
  obtain ⟨hx, hb, hr, hml, hown, hts, hK, -, hlocks⟩ := hC
  have hown : s.vm.findClass RX12 = some m.cls := hown
  have hS : va_S (jA ad) s.heap s.heap [] := va_S.rf
  have hA : ∀ q, jA ad q → jA ad q := fun _ h => h
  have hl : lv_has ls 3 [(0, .ref (ad 55)), (1, .int a1), (2, .int a2)] := hl
  have g1 := jrg t1
  have g2 := jrg t2
  refine lv_iload_n hx hb dX12_led_0 rfl (lv_at hl 1 rfl) ?_
  refine lv_iconst (v := (-1)) hx hb dX12_led_1 (by decide) ?_
  refine lv_icmp_ne (tgt := 18) hx hb dX12_led_2 (by decide) (fun c1 => ?_) (fun c1 => ?_)
  · have kc1 := jne c1 t1 jz_m1
    refine lv_iload_n hx hb dX12_led_18 rfl (lv_at hl 1 rfl) ?_
    refine lv_i2l (v := a1.toInt64) hx hb dX12_led_19 rfl ?_
    refine lv_lconst (v := 0) hx hb dX12_led_20 (by decide) ?_
    refine lv_aload_n hx hb dX12_led_21 rfl (lv_at hl 0 rfl) ?_
    refine va_get (D := D) hx hb hts inlX12 hown hK hP 55 (jc_55 cI cL ad σ τ) rfl 50 (by decide) (hts _ kw_46_13) (fun _ h9 => h9) rfl dX12_led_22 ?_
    refine jtopr h55_50 ?_
    refine lv_iconst (v := 1) hx hb dX12_led_25 (by decide) ?_
    refine lv_isub hx hb dX12_led_26 ?_
    refine jtopr (y := (-1)) (by decide) ?_
    refine lv_i2l (v := (-1)) hx hb dX12_led_27 (by decide) ?_
    refine jcallS (As := [.long a1.toInt64, .long 0, .long (-1)]) (rest := []) ⟨hx, hb, hml, hown, hts⟩ hK hP hA hS (c_X12_within l D cI cL ad hJ σ τ a1.toInt64 (A1) (jtoL t1) 0 (0) jzl_0 (-1) ((-1)) jzl_m1) cw_RX12_136 ⟨Nat.le_of_ble_eq_true rfl, Nat.le_of_ble_eq_true rfl⟩ rfl rfl rfl hl.1 rfl (Nat.le_of_ble_eq_true rfl) dX12_led_28 ⟨Nat.zero_le _, Nat.zero_le _⟩ (fun r3 σ2 τ2 H locs h2 hP hS => ?_)
    obtain ⟨⟨rfl, rfl⟩, h2⟩ := h2
    rcases h2 with h4 | h5
    · obtain ⟨q7, k6⟩ := h4
      exact absurd (by omega : False) id
    · obtain ⟨q9, k8⟩ := h5
      have q9 := q9.symm
      subst q9
      refine lv_if_ne (tgt := 36) hx hb dX12_led_31 (by decide) (fun c => absurd (by decide) c) (fun _ => ?_)
      refine lv_iconst (v := (-1)) hx hb dX12_led_34 (by decide) ?_
      exact hret (-1) σ τ _ _ _ _ rfl ⟨trivial, (by (repeat' split) <;> first | rfl | omega | exact jsame jz_m1 t1 (by omega) | exact jsame jz_m1 t2 (by omega) | (exfalso; omega))⟩ hP hS dX12_led_35
  · have kc1 := jeq c1 t1 jz_m1
    refine lv_iload_n hx hb dX12_led_5 rfl (lv_at hl 2 rfl) ?_
    refine lv_if_ne (tgt := 16) hx hb dX12_led_6 (by decide) (fun c10 => ?_) (fun c10 => ?_)
    · have kc10 := jne c10 t2 jz_0
      refine lv_iconst (v := (-1)) hx hb dX12_led_16 (by decide) ?_
      exact hret (-1) σ τ _ _ _ _ rfl ⟨trivial, (by (repeat' split) <;> first | rfl | omega | exact jsame jz_m1 t1 (by omega) | exact jsame jz_m1 t2 (by omega) | (exfalso; omega))⟩ hP hS dX12_led_17
    · have kc10 := jeq c10 t2 jz_0
      refine lv_aload_n hx hb dX12_led_9 rfl (lv_at hl 0 rfl) ?_
      refine va_get (D := D) hx hb hts inlX12 hown hK hP 55 (jc_55 cI cL ad σ τ) rfl 50 (by decide) (hts _ kw_46_13) (fun _ h9 => h9) rfl dX12_led_10 ?_
      refine jtopr h55_50 ?_
      refine lv_goto (tgt := 17) hx hb dX12_led_13 (by decide) ?_
      exact hret 0 σ τ _ _ _ _ rfl ⟨trivial, (by (repeat' split) <;> first | rfl | omega | exact jsame jz_0 t1 (by omega) | exact jsame jz_0 t2 (by omega) | (exfalso; omega))⟩ hP hS dX12_led_17
set_option maxHeartbeats 4000000 in
set_option maxRecDepth 100000 in
theorem c_X12_undo (l : Launch) (D : va_G) (cI cL : ClassId) (ad : Nat → Nat) (hJ : jD ad) (σ : Nat → Nat → Int32) (τ : Nat → Nat → Int64) (h55_5 : σ 55 5 = 0) : jM l yX12_undo cX12_undo 1 (some .int) ({ frames := 0, cells := 0, slots := 0, locals := 0 }) D cI cL ad [.ref (ad 55)] σ τ (fun r σ' τ' => True ∧ r = (-5)) := by
  refine jM.of hJ (by decide +kernel) (nt := .int) rfl (Nat.le_of_ble_eq_true rfl) ?_
  intro p e s m args below meth c Q ls hC hret hl hP
  obtain ⟨hx, hb, hr, hml, hown, hts, hK, -, hlocks⟩ := hC
  have hown : s.vm.findClass RX12 = some m.cls := hown
  have hS : va_S (jA ad) s.heap s.heap [] := va_S.rf
  have hA : ∀ q, jA ad q → jA ad q := fun _ h => h
  have hl : lv_has ls 1 [(0, .ref (ad 55))] := hl
  refine lv_aload_n hx hb dX12_undo_0 rfl (lv_at hl 0 rfl) ?_
  refine va_get (D := D) hx hb hts inlX12 hown hK hP 55 (jc_55 cI cL ad σ τ) rfl 5 (by decide) (hts _ kw_11_16) (fun _ h9 => h9) rfl dX12_undo_1 ?_
  refine jtopr h55_5 ?_
  refine lv_if_ne (tgt := 10) hx hb dX12_undo_4 (by decide) (fun c => absurd (by decide) c) (fun _ => ?_)
  refine lv_bipush (v := (-5)) hx hb dX12_undo_7 (by decide) ?_
  exact hret (-5) σ τ _ _ _ _ rfl ⟨trivial, (by (repeat' split) <;> first | rfl | omega | (exfalso; omega))⟩ hP hS dX12_undo_9
set_option maxHeartbeats 4000000 in
set_option maxRecDepth 100000 in
theorem c_X12_redo (l : Launch) (D : va_G) (cI cL : ClassId) (ad : Nat → Nat) (hJ : jD ad) (σ : Nat → Nat → Int32) (τ : Nat → Nat → Int64) (h55_4 : σ 55 4 = 0) (h55_5 : σ 55 5 = 0) : jM l yX12_redo cX12_redo 1 (some .int) ({ frames := 0, cells := 0, slots := 0, locals := 0 }) D cI cL ad [.ref (ad 55)] σ τ (fun r σ' τ' => True ∧ r = (-5)) := by
  refine jM.of hJ (by decide +kernel) (nt := .int) rfl (Nat.le_of_ble_eq_true rfl) ?_
  intro p e s m args below meth c Q ls hC hret hl hP
  obtain ⟨hx, hb, hr, hml, hown, hts, hK, -, hlocks⟩ := hC
  have hown : s.vm.findClass RX12 = some m.cls := hown
  have hS : va_S (jA ad) s.heap s.heap [] := va_S.rf
  have hA : ∀ q, jA ad q → jA ad q := fun _ h => h
  have hl : lv_has ls 1 [(0, .ref (ad 55))] := hl
  refine lv_aload_n hx hb dX12_redo_0 rfl (lv_at hl 0 rfl) ?_
  refine va_get (D := D) hx hb hts inlX12 hown hK hP 55 (jc_55 cI cL ad σ τ) rfl 5 (by decide) (hts _ kw_11_16) (fun _ h9 => h9) rfl dX12_redo_1 ?_
  refine jtopr h55_5 ?_
  refine lv_aload_n hx hb dX12_redo_4 rfl (lv_at hl 0 rfl) ?_
  refine va_get (D := D) hx hb hts inlX12 hown hK hP 55 (jc_55 cI cL ad σ τ) rfl 4 (by decide) (hts _ kw_11_17) (fun _ h9 => h9) rfl dX12_redo_5 ?_
  refine jtopr h55_4 ?_
  refine lv_icmp_ne (tgt := 14) hx hb dX12_redo_8 (by decide) (fun c => absurd (by decide) c) (fun _ => ?_)
  refine lv_bipush (v := (-5)) hx hb dX12_redo_11 (by decide) ?_
  exact hret (-5) σ τ _ _ _ _ rfl ⟨trivial, (by (repeat' split) <;> first | rfl | omega | (exfalso; omega))⟩ hP hS dX12_redo_13
set_option maxHeartbeats 4000000 in
set_option maxRecDepth 100000 in
theorem c_X12_act (l : Launch) (D : va_G) (cI cL : ClassId) (ad : Nat → Nat) (hJ : jD ad) (σ : Nat → Nat → Int32) (τ : Nat → Nat → Int64) (a1 : Int32) (A1 : Int) (t1 : a1.toInt = A1) (a2 : Int32) (A2 : Int) (t2 : a2.toInt = A2) (a3 : Int32) (A3 : Int) (t3 : a3.toInt = A3) (h55_32 : σ 55 32 = 0) : jM l yX12_act cX12_act 4 (some .int) ({ frames := 2, cells := 0, slots := 0, locals := 46 }) D cI cL ad [.ref (ad 55), .int a1, .int a2, .int a3] σ τ (fun r σ' τ' => True ∧ r = (0)) := by
  refine jM.of hJ (by decide +kernel) (nt := .int) rfl (Nat.le_of_ble_eq_true rfl) ?_
  intro p e s m args below meth c Q ls hC hret hl hP
  obtain ⟨hx, hb, hr, hml, hown, hts, hK, -, hlocks⟩ := hC
  have hown : s.vm.findClass RX12 = some m.cls := hown
  have hS : va_S (jA ad) s.heap s.heap [] := va_S.rf
  have hA : ∀ q, jA ad q → jA ad q := fun _ h => h
  have hl : lv_has ls 4 [(0, .ref (ad 55)), (1, .int a1), (2, .int a2), (3, .int a3)] := hl
  have g1 := jrg t1
  have g2 := jrg t2
  have g3 := jrg t3
  refine lv_aload_n hx hb dX12_act_0 rfl (lv_at hl 0 rfl) ?_
  refine lv_iconst (v := 0) hx hb dX12_act_1 (by decide) ?_
  refine jput (ty := .int) hx hb hts inlX12 tyX12 tyX12_ok nmX12 hown hK hP hJ hA hS (jc_55 cI cL ad σ τ) rfl (k := 55) (by decide) (Nat.le_of_ble_eq_true rfl) (jp_55_55 cI cL ad σ τ 0) (hts _ kw_49_7) (fun _ h9 => h9) rfl (by decide +kernel) rfl rfl dX12_act_2 (fun σ1 H locs eσ1 hP hS => ?_)
  refine lv_aload_n hx hb dX12_act_5 rfl (lv_at hl 0 rfl) ?_
  refine lv_iload_n hx hb dX12_act_6 rfl (lv_at hl 1 rfl) ?_
  have m2 : σ1 55 32 = 0 := (by rw [eσ1, jup_k (by decide)]; exact h55_32)
  refine jcallV (As := [.int a1]) (rest := []) ⟨hx, hb, hml, hown, hts⟩ hK hP hA hS (c_X12_isRule l D cI cL ad hJ σ1 τ a1 (A1) t1 m2) cw_RX12_331 (jc_55 cI cL ad σ1 τ) rfl ⟨Nat.le_of_ble_eq_true rfl, Nat.le_of_ble_eq_true rfl⟩ rfl rfl rfl hl.1 rfl (Nat.le_of_ble_eq_true rfl) dX12_act_7 ⟨Nat.zero_le _, Nat.zero_le _⟩ (fun r4 σ3 τ3 H locs h3 hP hS => ?_)
  obtain ⟨⟨rfl, rfl⟩, h3⟩ := h3
  have h5 := h3
  obtain ⟨q7, k6⟩ := h5
  have q7 := q7.symm
  subst q7
  refine lv_if_ne (tgt := 15) hx hb dX12_act_10 (by decide) (fun c => absurd (by decide) c) (fun _ => ?_)
  refine lv_iconst (v := 0) hx hb dX12_act_13 (by decide) ?_
  exact hret 0 σ1 τ _ _ _ _ rfl ⟨trivial, (by (repeat' split) <;> first | rfl | omega | exact jsame jz_0 t1 (by omega) | exact jsame jz_0 t2 (by omega) | exact jsame jz_0 t3 (by omega) | (exfalso; omega))⟩ hP hS dX12_act_14
set_option maxHeartbeats 4000000 in
set_option maxRecDepth 100000 in
theorem c_X12_trace (l : Launch) (D : va_G) (cI cL : ClassId) (ad : Nat → Nat) (hJ : jD ad) (σ : Nat → Nat → Int32) (τ : Nat → Nat → Int64) (a1 : Int32) (A1 : Int) (t1 : a1.toInt = A1) (h55_55 : σ 55 55 = 0) : jM l yX12_trace cX12_trace 2 (some .int) ({ frames := 0, cells := 0, slots := 0, locals := 0 }) D cI cL ad [.ref (ad 55), .int a1] σ τ (fun r σ' τ' => True ∧ r = (-1)) := by
  refine jM.of hJ (by decide +kernel) (nt := .int) rfl (Nat.le_of_ble_eq_true rfl) ?_
  intro p e s m args below meth c Q ls hC hret hl hP
  obtain ⟨hx, hb, hr, hml, hown, hts, hK, -, hlocks⟩ := hC
  have hown : s.vm.findClass RX12 = some m.cls := hown
  have hS : va_S (jA ad) s.heap s.heap [] := va_S.rf
  have hA : ∀ q, jA ad q → jA ad q := fun _ h => h
  have hl : lv_has ls 2 [(0, .ref (ad 55)), (1, .int a1)] := hl
  have g1 := jrg t1
  refine lv_iload_n hx hb dX12_trace_0 rfl (lv_at hl 1 rfl) ?_
  refine lv_if_lt (tgt := 27) hx hb dX12_trace_1 (by decide) (fun c1 => ?_) (fun c1 => ?_)
  · have kc1 := jlt c1 t1 jz_0
    refine lv_iconst (v := (-1)) hx hb dX12_trace_27 (by decide) ?_
    exact hret (-1) σ τ _ _ _ _ rfl ⟨trivial, (by (repeat' split) <;> first | rfl | omega | exact jsame jz_m1 t1 (by omega) | (exfalso; omega))⟩ hP hS dX12_trace_28
  · have kc1 := jnlt c1 t1 jz_0
    refine lv_iload_n hx hb dX12_trace_4 rfl (lv_at hl 1 rfl) ?_
    refine lv_aload_n hx hb dX12_trace_5 rfl (lv_at hl 0 rfl) ?_
    refine va_get (D := D) hx hb hts inlX12 hown hK hP 55 (jc_55 cI cL ad σ τ) rfl 55 (by decide) (hts _ kw_49_7) (fun _ h9 => h9) rfl dX12_trace_6 ?_
    refine jtopr h55_55 ?_
    refine lv_icmp_ge (tgt := 27) hx hb dX12_trace_9 (by decide) (fun c2 => ?_) (fun c => absurd (jnle c jz_0 t1) (by omega))
    have kc2 := jle c2 jz_0 t1
    refine lv_iconst (v := (-1)) hx hb dX12_trace_27 (by decide) ?_
    exact hret (-1) σ τ _ _ _ _ rfl ⟨trivial, (by (repeat' split) <;> first | rfl | omega | exact jsame jz_m1 t1 (by omega) | (exfalso; omega))⟩ hP hS dX12_trace_28
set_option maxHeartbeats 4000000 in
set_option maxRecDepth 100000 in
theorem c_X12_count (l : Launch) (D : va_G) (cI cL : ClassId) (ad : Nat → Nat) (hJ : jD ad) (σ : Nat → Nat → Int32) (τ : Nat → Nat → Int64) (a1 : Int32) (A1 : Int) (t1 : a1.toInt = A1) (h55_5 : σ 55 5 = 0) (h55_6 : σ 55 6 = 0) (h55_15 : σ 55 15 = 0) (h55_32 : σ 55 32 = 0) (h55_47 : σ 55 47 = 0) (h55_55 : σ 55 55 = 0) : jM l yX12_count cX12_count 2 (some .int) ({ frames := 0, cells := 0, slots := 0, locals := 0 }) D cI cL ad [.ref (ad 55), .int a1] σ τ (fun r σ' τ' => True ∧ r = (if 0 ≤ A1 ∧ A1 ≤ 5 then 0 else -1)) := by
  refine jM.of hJ (by decide +kernel) (nt := .int) rfl (Nat.le_of_ble_eq_true rfl) ?_
  intro p e s m args below meth c Q ls hC hret hl hP
  obtain ⟨hx, hb, hr, hml, hown, hts, hK, -, hlocks⟩ := hC
  have hown : s.vm.findClass RX12 = some m.cls := hown
  have hS : va_S (jA ad) s.heap s.heap [] := va_S.rf
  have hA : ∀ q, jA ad q → jA ad q := fun _ h => h
  have hl : lv_has ls 2 [(0, .ref (ad 55)), (1, .int a1)] := hl
  have g1 := jrg t1
  refine lv_iload_n hx hb dX12_count_0 rfl (lv_at hl 1 rfl) ?_
  by_cases c1 : a1 = 0
  · have kc1 := jeq c1 t1 jz_0
    refine jtopr c1 ?_
    refine lv_tableIn (off := 39) (tgt := 40) hx hb dX12_count_1 (by decide) (by decide) (by decide) (by decide) ?_
    refine lv_aload_n hx hb dX12_count_40 rfl (lv_at hl 0 rfl) ?_
    refine va_get (D := D) hx hb hts inlX12 hown hK hP 55 (jc_55 cI cL ad σ τ) rfl 6 (by decide) (hts _ kw_9_13) (fun _ h9 => h9) rfl dX12_count_41 ?_
    refine jtopr h55_6 ?_
    exact hret 0 σ τ _ _ _ _ rfl ⟨trivial, (by (repeat' split) <;> first | rfl | omega | exact jsame jz_0 t1 (by omega) | (exfalso; omega))⟩ hP hS dX12_count_44
  have kc1 := jne c1 t1 jz_0
  by_cases c2 : a1 = 1
  · have kc2 := jeq c2 t1 jz_1
    refine jtopr c2 ?_
    refine lv_tableIn (off := 44) (tgt := 45) hx hb dX12_count_1 (by decide) (by decide) (by decide) (by decide) ?_
    refine lv_aload_n hx hb dX12_count_45 rfl (lv_at hl 0 rfl) ?_
    refine va_get (D := D) hx hb hts inlX12 hown hK hP 55 (jc_55 cI cL ad σ τ) rfl 32 (by decide) (hts _ kw_25_1) (fun _ h9 => h9) rfl dX12_count_46 ?_
    refine jtopr h55_32 ?_
    exact hret 0 σ τ _ _ _ _ rfl ⟨trivial, (by (repeat' split) <;> first | rfl | omega | exact jsame jz_0 t1 (by omega) | (exfalso; omega))⟩ hP hS dX12_count_49
  have kc2 := jne c2 t1 jz_1
  by_cases c3 : a1 = 2
  · have kc3 := jeq c3 t1 jz_2
    refine jtopr c3 ?_
    refine lv_tableIn (off := 49) (tgt := 50) hx hb dX12_count_1 (by decide) (by decide) (by decide) (by decide) ?_
    refine lv_aload_n hx hb dX12_count_50 rfl (lv_at hl 0 rfl) ?_
    refine va_get (D := D) hx hb hts inlX12 hown hK hP 55 (jc_55 cI cL ad σ τ) rfl 15 (by decide) (hts _ kw_13_6) (fun _ h9 => h9) rfl dX12_count_51 ?_
    refine jtopr h55_15 ?_
    exact hret 0 σ τ _ _ _ _ rfl ⟨trivial, (by (repeat' split) <;> first | rfl | omega | exact jsame jz_0 t1 (by omega) | (exfalso; omega))⟩ hP hS dX12_count_54
  have kc3 := jne c3 t1 jz_2
  by_cases c4 : a1 = 3
  · have kc4 := jeq c4 t1 jz_3
    refine jtopr c4 ?_
    refine lv_tableIn (off := 54) (tgt := 55) hx hb dX12_count_1 (by decide) (by decide) (by decide) (by decide) ?_
    refine lv_aload_n hx hb dX12_count_55 rfl (lv_at hl 0 rfl) ?_
    refine va_get (D := D) hx hb hts inlX12 hown hK hP 55 (jc_55 cI cL ad σ τ) rfl 47 (by decide) (hts _ kw_15_15) (fun _ h9 => h9) rfl dX12_count_56 ?_
    refine jtopr h55_47 ?_
    exact hret 0 σ τ _ _ _ _ rfl ⟨trivial, (by (repeat' split) <;> first | rfl | omega | exact jsame jz_0 t1 (by omega) | (exfalso; omega))⟩ hP hS dX12_count_59
  have kc4 := jne c4 t1 jz_3
  by_cases c5 : a1 = 4
  · have kc5 := jeq c5 t1 jz_4
    refine jtopr c5 ?_
    refine lv_tableIn (off := 59) (tgt := 60) hx hb dX12_count_1 (by decide) (by decide) (by decide) (by decide) ?_
    refine lv_aload_n hx hb dX12_count_60 rfl (lv_at hl 0 rfl) ?_
    refine va_get (D := D) hx hb hts inlX12 hown hK hP 55 (jc_55 cI cL ad σ τ) rfl 5 (by decide) (hts _ kw_11_16) (fun _ h9 => h9) rfl dX12_count_61 ?_
    refine jtopr h55_5 ?_
    exact hret 0 σ τ _ _ _ _ rfl ⟨trivial, (by (repeat' split) <;> first | rfl | omega | exact jsame jz_0 t1 (by omega) | (exfalso; omega))⟩ hP hS dX12_count_64
  have kc5 := jne c5 t1 jz_4
  by_cases c6 : a1 = 5
  · have kc6 := jeq c6 t1 jz_5
    refine jtopr c6 ?_
    refine lv_tableIn (off := 64) (tgt := 65) hx hb dX12_count_1 (by decide) (by decide) (by decide) (by decide) ?_
    refine lv_aload_n hx hb dX12_count_65 rfl (lv_at hl 0 rfl) ?_
    refine va_get (D := D) hx hb hts inlX12 hown hK hP 55 (jc_55 cI cL ad σ τ) rfl 55 (by decide) (hts _ kw_49_7) (fun _ h9 => h9) rfl dX12_count_66 ?_
    refine jtopr h55_55 ?_
    exact hret 0 σ τ _ _ _ _ rfl ⟨trivial, (by (repeat' split) <;> first | rfl | omega | exact jsame jz_0 t1 (by omega) | (exfalso; omega))⟩ hP hS dX12_count_69
  have kc6 := jne c6 t1 jz_5
  refine lv_tableOut (tgt := 70) hx hb dX12_count_1 (by rw [t1]; omega) (by decide) ?_
  refine lv_iconst (v := (-1)) hx hb dX12_count_70 (by decide) ?_
  exact hret (-1) σ τ _ _ _ _ rfl ⟨trivial, (by (repeat' split) <;> first | rfl | omega | exact jsame jz_m1 t1 (by omega) | (exfalso; omega))⟩ hP hS dX12_count_71
set_option maxHeartbeats 4000000 in
set_option maxRecDepth 100000 in
theorem c_X12_books (l : Launch) (D : va_G) (cI cL : ClassId) (ad : Nat → Nat) (hJ : jD ad) (σ : Nat → Nat → Int32) (τ : Nat → Nat → Int64) (a1 : Int32) (A1 : Int) (t1 : a1.toInt = A1) (a2 : Int32) (A2 : Int) (t2 : a2.toInt = A2) (ha86 : ∀ k : Nat, k < 6 → σ 86 k = (-1)) : jM l yX12_books cX12_books 6 (some .int) ({ frames := 2, cells := 0, slots := 0, locals := 45 }) D cI cL ad [.ref (ad 55), .int a1, .int a2] σ τ (fun r σ' τ' => True ∧ r = (if 0 ≤ A1 ∧ A1 ≤ 5 then 0 else -1)) := by
  refine jM.of hJ (by decide +kernel) (nt := .int) rfl (Nat.le_of_ble_eq_true rfl) ?_
  intro p e s m args below meth c Q ls hC hret hl hP
  obtain ⟨hx, hb, hr, hml, hown, hts, hK, -, hlocks⟩ := hC
  have hown : s.vm.findClass RX12 = some m.cls := hown
  have hS : va_S (jA ad) s.heap s.heap [] := va_S.rf
  have hA : ∀ q, jA ad q → jA ad q := fun _ h => h
  have hl : lv_has ls 6 [(0, .ref (ad 55)), (1, .int a1), (2, .int a2)] := hl
  have g1 := jrg t1
  have g2 := jrg t2
  refine lv_iload_n hx hb dX12_books_0 rfl (lv_at hl 1 rfl) ?_
  refine jcallS (As := [.int a1]) (rest := []) ⟨hx, hb, hml, hown, hts⟩ hK hP hA hS (c_X12_isShelf l D cI cL ad hJ σ τ a1 (A1) t1) cw_RX12_361 ⟨Nat.le_of_ble_eq_true rfl, Nat.le_of_ble_eq_true rfl⟩ rfl rfl rfl hl.1 rfl (Nat.le_of_ble_eq_true rfl) dX12_books_1 ⟨Nat.zero_le _, Nat.zero_le _⟩ (fun r2 σ1 τ1 H locs h1 hP hS => ?_)
  obtain ⟨⟨rfl, rfl⟩, h1⟩ := h1
  rcases h1 with h3 | h4
  · obtain ⟨q6, k5⟩ := h3
    have q6 := q6.symm
    subst q6
    refine lv_if_ne (tgt := 9) hx hb dX12_books_4 (by decide) (fun _ => ?_) (fun c => absurd c (by decide))
    refine lv_aload_n hx hb dX12_books_9 rfl (lv_at hl 0 rfl) ?_
    refine va_get (D := D) hx hb hts inlX12 hown hK hP 55 (jc_55 cI cL ad σ τ) rfl 58 (by decide) (hts _ kw_8_11) (fun _ h9 => h9) rfl dX12_books_10 ?_
    refine lv_iload_n hx hb dX12_books_13 rfl (lv_at hl 1 rfl) ?_
    refine jald hx hb hK hP (jc_86 cI cL ad σ τ) (jin t1 (by omega) (by omega)) dX12_books_14 ?_
    refine jtopr (ha86 _ (jnat t1 (by omega) (by decide))) ?_
    refine lv_if_lt (tgt := 32) hx hb dX12_books_15 (by decide) (fun _ => ?_) (fun c => absurd (by decide) c)
    refine lv_aload_n hx hb dX12_books_32 rfl (lv_at hl 0 rfl) ?_
    refine lv_iconst (v := 0) hx hb dX12_books_33 (by decide) ?_
    refine jput (ty := .int) hx hb hts inlX12 tyX12 tyX12_ok nmX12 hown hK hP hJ hA hS (jc_55 cI cL ad σ τ) rfl (k := 47) (by decide) (Nat.le_of_ble_eq_true rfl) (jp_55_47 cI cL ad σ τ 0) (hts _ kw_15_15) (fun _ h9 => h9) rfl (by decide +kernel) rfl rfl dX12_books_34 (fun σ7 H locs eσ7 hP hS => ?_)
    refine lv_aload_n hx hb dX12_books_37 rfl (lv_at hl 0 rfl) ?_
    refine va_get (D := D) hx hb hts inlX12 hown hK hP 55 (jc_55 cI cL ad σ7 τ) rfl 58 (by decide) (hts _ kw_8_11) (fun _ h9 => h9) rfl dX12_books_38 ?_
    refine lv_iload_n hx hb dX12_books_41 rfl (lv_at hl 1 rfl) ?_
    refine jald hx hb hK hP (jc_86 cI cL ad σ7 τ) (jin t1 (by omega) (by omega)) dX12_books_42 ?_
    have m8 : ∀ k : Nat, k < 6 → σ7 86 k = (-1) := (by rw [eσ7, jup_n (by decide)]; exact ha86)
    refine jtopr (m8 _ (jnat t1 (by omega) (by decide))) ?_
    refine lv_bipush (v := 20) hx hb dX12_books_43 (by decide) ?_
    refine lv_icmp_ne (tgt := 56) hx hb dX12_books_45 (by decide) (fun _ => ?_) (fun c => absurd c (by decide))
    refine lv_iconst (v := 0) hx hb dX12_books_56 (by decide) ?_
    refine lv_istore_n (lv' := [(3, .int 0), (0, .ref (ad 55)), (1, .int a1), (2, .int a2)]) hx hb dX12_books_57 rfl hl (by decide) rfl (fun ls hl => ?_)
    refine lv_iload_n hx hb dX12_books_58 rfl (lv_at hl 0 rfl) ?_
    refine lv_if_eq (tgt := 145) hx hb dX12_books_59 (by decide) (fun _ => ?_) (fun c => absurd (by decide) c)
    refine lv_aload_n hx hb dX12_books_145 rfl (lv_at hl 1 rfl) ?_
    refine va_get (D := D) hx hb hts inlX12 hown hK hP 55 (jc_55 cI cL ad σ7 τ) rfl 47 (by decide) (hts _ kw_15_15) (fun _ h9 => h9) rfl dX12_books_146 ?_
    have m9 : σ7 55 47 = 0 := (by rw [eσ7]; exact jup_s)
    refine jtopr m9 ?_
    exact hret 0 σ7 τ _ _ _ _ rfl ⟨trivial, (by (repeat' split) <;> first | rfl | omega | exact jsame jz_0 t1 (by omega) | exact jsame jz_0 t2 (by omega) | (exfalso; omega))⟩ hP hS dX12_books_149
  · obtain ⟨q11, k10⟩ := h4
    have q11 := q11.symm
    subst q11
    refine lv_if_ne (tgt := 9) hx hb dX12_books_4 (by decide) (fun c => absurd (by decide) c) (fun _ => ?_)
    refine lv_iconst (v := (-1)) hx hb dX12_books_7 (by decide) ?_
    exact hret (-1) σ τ _ _ _ _ rfl ⟨trivial, (by (repeat' split) <;> first | rfl | omega | exact jsame jz_m1 t1 (by omega) | exact jsame jz_m1 t2 (by omega) | (exfalso; omega))⟩ hP hS dX12_books_8
set_option maxHeartbeats 4000000 in
set_option maxRecDepth 100000 in
theorem c_X12_keep (l : Launch) (D : va_G) (cI cL : ClassId) (ad : Nat → Nat) (hJ : jD ad) (σ : Nat → Nat → Int32) (τ : Nat → Nat → Int64) (a1 : Int32) (A1 : Int) (t1 : a1.toInt = A1) (a2 : Int32) (A2 : Int) (t2 : a2.toInt = A2) (h55_32 : σ 55 32 = 0) : jM l yX12_keep cX12_keep 3 (some .int) ({ frames := 2, cells := 0, slots := 0, locals := 46 }) D cI cL ad [.ref (ad 55), .int a1, .int a2] σ τ (fun r σ' τ' => True ∧ r = (if 0 ≤ A1 ∧ A1 ≤ 5 ∧ A2 = -1 then 1 else -1)) := by
  refine jM.of hJ (by decide +kernel) (nt := .int) rfl (Nat.le_of_ble_eq_true rfl) ?_
  intro p e s m args below meth c Q ls hC hret hl hP
  obtain ⟨hx, hb, hr, hml, hown, hts, hK, -, hlocks⟩ := hC
  have hown : s.vm.findClass RX12 = some m.cls := hown
  have hS : va_S (jA ad) s.heap s.heap [] := va_S.rf
  have hA : ∀ q, jA ad q → jA ad q := fun _ h => h
  have hl : lv_has ls 3 [(0, .ref (ad 55)), (1, .int a1), (2, .int a2)] := hl
  have g1 := jrg t1
  have g2 := jrg t2
  refine lv_iload_n hx hb dX12_keep_0 rfl (lv_at hl 1 rfl) ?_
  refine jcallS (As := [.int a1]) (rest := []) ⟨hx, hb, hml, hown, hts⟩ hK hP hA hS (c_X12_isShelf l D cI cL ad hJ σ τ a1 (A1) t1) cw_RX12_361 ⟨Nat.le_of_ble_eq_true rfl, Nat.le_of_ble_eq_true rfl⟩ rfl rfl rfl hl.1 rfl (Nat.le_of_ble_eq_true rfl) dX12_keep_1 ⟨Nat.zero_le _, Nat.zero_le _⟩ (fun r2 σ1 τ1 H locs h1 hP hS => ?_)
  obtain ⟨⟨rfl, rfl⟩, h1⟩ := h1
  rcases h1 with h3 | h4
  · obtain ⟨q6, k5⟩ := h3
    have q6 := q6.symm
    subst q6
    refine lv_if_eq (tgt := 20) hx hb dX12_keep_4 (by decide) (fun c => absurd c (by decide)) (fun _ => ?_)
    refine lv_iload_n hx hb dX12_keep_7 rfl (lv_at hl 2 rfl) ?_
    refine lv_iconst (v := (-1)) hx hb dX12_keep_8 (by decide) ?_
    refine lv_icmp_eq (tgt := 22) hx hb dX12_keep_9 (by decide) (fun c7 => ?_) (fun c7 => ?_)
    · have kc7 := jeq c7 t2 jz_m1
      refine lv_aload_n hx hb dX12_keep_22 rfl (lv_at hl 0 rfl) ?_
      refine va_get (D := D) hx hb hts inlX12 hown hK hP 55 (jc_55 cI cL ad σ τ) rfl 58 (by decide) (hts _ kw_8_11) (fun _ h9 => h9) rfl dX12_keep_23 ?_
      refine lv_iload_n hx hb dX12_keep_26 rfl (lv_at hl 1 rfl) ?_
      refine lv_iload_n hx hb dX12_keep_27 rfl (lv_at hl 2 rfl) ?_
      refine jast hx hb hK hP hJ hA hS (jc_86 cI cL ad σ τ) (ja_86 cI cL ad σ τ _ _) (jin t1 (by omega) (by omega)) dX12_keep_28 (fun σ8 H locs eσ8 hP hS => ?_)
      refine lv_aload_n hx hb dX12_keep_29 rfl (lv_at hl 0 rfl) ?_
      refine va_get (D := D) hx hb hts inlX12 hown hK hP 55 (jc_55 cI cL ad σ8 τ) rfl 59 (by decide) (hts _ kw_8_12) (fun _ h9 => h9) rfl dX12_keep_30 ?_
      refine lv_iload_n hx hb dX12_keep_33 rfl (lv_at hl 1 rfl) ?_
      refine lv_iconst (v := 0) hx hb dX12_keep_34 (by decide) ?_
      refine jast hx hb hK hP hJ hA hS (jc_87 cI cL ad σ8 τ) (ja_87 cI cL ad σ8 τ _ _) (jin t1 (by omega) (by omega)) dX12_keep_35 (fun σ9 H locs eσ9 hP hS => ?_)
      refine lv_iconst (v := 1) hx hb dX12_keep_36 (by decide) ?_
      exact hret 1 σ9 τ _ _ _ _ rfl ⟨trivial, (by (repeat' split) <;> first | rfl | omega | exact jsame jz_1 t1 (by omega) | exact jsame jz_1 t2 (by omega) | (exfalso; omega))⟩ hP hS dX12_keep_37
    · have kc7 := jne c7 t2 jz_m1
      refine lv_aload_n hx hb dX12_keep_12 rfl (lv_at hl 0 rfl) ?_
      refine lv_iload_n hx hb dX12_keep_13 rfl (lv_at hl 2 rfl) ?_
      refine jcallV (As := [.int a2]) (rest := []) ⟨hx, hb, hml, hown, hts⟩ hK hP hA hS (c_X12_isRule l D cI cL ad hJ σ τ a2 (A2) t2 h55_32) cw_RX12_331 (jc_55 cI cL ad σ τ) rfl ⟨Nat.le_of_ble_eq_true rfl, Nat.le_of_ble_eq_true rfl⟩ rfl rfl rfl hl.1 rfl (Nat.le_of_ble_eq_true rfl) dX12_keep_14 ⟨Nat.zero_le _, Nat.zero_le _⟩ (fun r11 σ10 τ10 H locs h10 hP hS => ?_)
      obtain ⟨⟨rfl, rfl⟩, h10⟩ := h10
      have h12 := h10
      obtain ⟨q14, k13⟩ := h12
      have q14 := q14.symm
      subst q14
      refine lv_if_ne (tgt := 22) hx hb dX12_keep_17 (by decide) (fun c => absurd (by decide) c) (fun _ => ?_)
      refine lv_iconst (v := (-1)) hx hb dX12_keep_20 (by decide) ?_
      exact hret (-1) σ τ _ _ _ _ rfl ⟨trivial, (by (repeat' split) <;> first | rfl | omega | exact jsame jz_m1 t1 (by omega) | exact jsame jz_m1 t2 (by omega) | (exfalso; omega))⟩ hP hS dX12_keep_21
  · obtain ⟨q16, k15⟩ := h4
    have q16 := q16.symm
    subst q16
    refine lv_if_eq (tgt := 20) hx hb dX12_keep_4 (by decide) (fun _ => ?_) (fun c => absurd (by decide) c)
    refine lv_iconst (v := (-1)) hx hb dX12_keep_20 (by decide) ?_
    exact hret (-1) σ τ _ _ _ _ rfl ⟨trivial, (by (repeat' split) <;> first | rfl | omega | exact jsame jz_m1 t1 (by omega) | exact jsame jz_m1 t2 (by omega) | (exfalso; omega))⟩ hP hS dX12_keep_21
set_option maxHeartbeats 4000000 in
set_option maxRecDepth 100000 in
theorem c_X12_row (l : Launch) (D : va_G) (cI cL : ClassId) (ad : Nat → Nat) (hJ : jD ad) (σ : Nat → Nat → Int32) (τ : Nat → Nat → Int64) (a1 : Int32) (A1 : Int) (t1 : a1.toInt = A1) (a2 : Int32) (A2 : Int) (t2 : a2.toInt = A2) (a3 : Int32) (A3 : Int) (t3 : a3.toInt = A3) : jM l yX12_row cX12_row 5 (some .int) ({ frames := 2, cells := 0, slots := 0, locals := 45 }) D cI cL ad [.ref (ad 55), .int a1, .int a2, .int a3] σ τ (fun r σ' τ' => True ∧ r = (if ¬ (0 ≤ A1 ∧ A1 ≤ 5) ∨ ¬ (0 ≤ A2 ∧ A2 ≤ 4) ∨ 60 < A3 then -1 else if A3 < 0 then -14 else 1)) := by
  refine jM.of hJ (by decide +kernel) (nt := .int) rfl (Nat.le_of_ble_eq_true rfl) ?_
  intro p e s m args below meth c Q ls hC hret hl hP
  obtain ⟨hx, hb, hr, hml, hown, hts, hK, -, hlocks⟩ := hC
  have hown : s.vm.findClass RX12 = some m.cls := hown
  have hS : va_S (jA ad) s.heap s.heap [] := va_S.rf
  have hA : ∀ q, jA ad q → jA ad q := fun _ h => h
  have hl : lv_has ls 5 [(0, .ref (ad 55)), (1, .int a1), (2, .int a2), (3, .int a3)] := hl
  have g1 := jrg t1
  have g2 := jrg t2
  have g3 := jrg t3
  refine lv_iload_n hx hb dX12_row_0 rfl (lv_at hl 1 rfl) ?_
  refine jcallS (As := [.int a1]) (rest := []) ⟨hx, hb, hml, hown, hts⟩ hK hP hA hS (c_X12_isShelf l D cI cL ad hJ σ τ a1 (A1) t1) cw_RX12_361 ⟨Nat.le_of_ble_eq_true rfl, Nat.le_of_ble_eq_true rfl⟩ rfl rfl rfl hl.1 rfl (Nat.le_of_ble_eq_true rfl) dX12_row_1 ⟨Nat.zero_le _, Nat.zero_le _⟩ (fun r2 σ1 τ1 H locs h1 hP hS => ?_)
  obtain ⟨⟨rfl, rfl⟩, h1⟩ := h1
  rcases h1 with h3 | h4
  · obtain ⟨q6, k5⟩ := h3
    have q6 := q6.symm
    subst q6
    refine lv_if_eq (tgt := 25) hx hb dX12_row_4 (by decide) (fun c => absurd c (by decide)) (fun _ => ?_)
    refine lv_iload_n hx hb dX12_row_7 rfl (lv_at hl 2 rfl) ?_
    refine lv_i2l (v := a2.toInt64) hx hb dX12_row_8 rfl ?_
    refine lv_lconst (v := 0) hx hb dX12_row_9 (by decide) ?_
    refine lv_ldc2 (v := 4) hx hb hown (hts _ kw_13_5) dX12_row_10 ?_
    refine jcallS (As := [.long a2.toInt64, .long 0, .long 4]) (rest := []) ⟨hx, hb, hml, hown, hts⟩ hK hP hA hS (c_X12_within l D cI cL ad hJ σ τ a2.toInt64 (A2) (jtoL t2) 0 (0) jzl_0 4 (4) jzl_4) cw_RX12_136 ⟨Nat.le_of_ble_eq_true rfl, Nat.le_of_ble_eq_true rfl⟩ rfl rfl rfl hl.1 rfl (Nat.le_of_ble_eq_true rfl) dX12_row_13 ⟨Nat.zero_le _, Nat.zero_le _⟩ (fun r8 σ7 τ7 H locs h7 hP hS => ?_)
    obtain ⟨⟨rfl, rfl⟩, h7⟩ := h7
    rcases h7 with h9 | h10
    · obtain ⟨q12, k11⟩ := h9
      have q12 := q12.symm
      subst q12
      refine lv_if_eq (tgt := 25) hx hb dX12_row_16 (by decide) (fun c => absurd c (by decide)) (fun _ => ?_)
      refine lv_iload_n hx hb dX12_row_19 rfl (lv_at hl 3 rfl) ?_
      refine lv_bipush (v := 60) hx hb dX12_row_20 (by decide) ?_
      refine lv_icmp_le (tgt := 27) hx hb dX12_row_22 (by decide) (fun c13 => ?_) (fun c13 => ?_)
      · have kc13 := jle c13 t3 jz_60
        refine lv_iload_n hx hb dX12_row_27 rfl (lv_at hl 3 rfl) ?_
        refine lv_if_ge (tgt := 34) hx hb dX12_row_28 (by decide) (fun c14 => ?_) (fun c14 => ?_)
        · have kc14 := jle c14 jz_0 t3
          refine lv_aload_n hx hb dX12_row_34 rfl (lv_at hl 0 rfl) ?_
          refine va_get (D := D) hx hb hts inlX12 hown hK hP 55 (jc_55 cI cL ad σ τ) rfl 58 (by decide) (hts _ kw_8_11) (fun _ h9 => h9) rfl dX12_row_35 ?_
          refine lv_iload_n hx hb dX12_row_38 rfl (lv_at hl 1 rfl) ?_
          refine lv_bipush (v := 20) hx hb dX12_row_39 (by decide) ?_
          refine lv_iload_n hx hb dX12_row_41 rfl (lv_at hl 2 rfl) ?_
          refine lv_iadd hx hb dX12_row_42 ?_
          refine lv_topi (fun x15 ex15 => ?_)
          have tx15 : x15.toInt = A2 + 20 := (jadd ex15 jz_20 t2 (by omega) (by omega)).trans (by omega)
          refine jast hx hb hK hP hJ hA hS (jc_86 cI cL ad σ τ) (ja_86 cI cL ad σ τ _ _) (jin t1 (by omega) (by omega)) dX12_row_43 (fun σ16 H locs eσ16 hP hS => ?_)
          refine lv_aload_n hx hb dX12_row_44 rfl (lv_at hl 0 rfl) ?_
          refine va_get (D := D) hx hb hts inlX12 hown hK hP 55 (jc_55 cI cL ad σ16 τ) rfl 59 (by decide) (hts _ kw_8_12) (fun _ h9 => h9) rfl dX12_row_45 ?_
          refine lv_iload_n hx hb dX12_row_48 rfl (lv_at hl 1 rfl) ?_
          refine lv_iload_n hx hb dX12_row_49 rfl (lv_at hl 3 rfl) ?_
          refine jast hx hb hK hP hJ hA hS (jc_87 cI cL ad σ16 τ) (ja_87 cI cL ad σ16 τ _ _) (jin t1 (by omega) (by omega)) dX12_row_50 (fun σ17 H locs eσ17 hP hS => ?_)
          refine lv_bipush (v := 60) hx hb dX12_row_51 (by decide) ?_
          refine lv_iload_n hx hb dX12_row_53 rfl (lv_at hl 1 rfl) ?_
          refine lv_imul hx hb dX12_row_54 ?_
          refine lv_topi (fun x18 ex18 => ?_)
          have tx18 : x18.toInt = 60 * A1 := (jmul ex18 jz_60 t1 (by omega) (by omega)).trans (by omega)
          refine lv_istore (lv' := [(4, .int x18), (0, .ref (ad 55)), (1, .int a1), (2, .int a2), (3, .int a3)]) hx hb dX12_row_55 hl (by decide) rfl (fun ls hl => ?_)
          have lp19 : ∀ (n20 : Nat) (x21 : Int32) (σ22 : Nat → Nat → Int32) (τ22 : Nat → Nat → Int64) (H : Heap) (locs : List Loc) (ls : Array Slot), (60 * A1 - x21.toInt + 60 : Int) < n20 → 60 * A1 ≤ x21.toInt → x21.toInt ≤ 60 * A1 + 60 → (∀ i : Nat, (0 = 0) → σ22 i = σ17 i) → jH D cI cL ad σ22 τ22 H → va_S (jA ad) s.heap H locs → lv_has ls 5 [(4, .int x21), (0, .ref (ad 55)), (1, .int a1), (2, .int a2), (3, .int a3)] → W p l e ({ frames := 2, cells := 0, slots := 0, locals := 45 }) s m args below meth c H locs 0 0 Q (F0 m 57 ls []) := by
            intro n20
            induction n20 with
            | zero => intro x21 σ22 τ22 H locs ls h23 h24 h25; exact absurd h23 (by omega)
            | succ n20 ihlp19 =>
              intro x21 σ22 τ22 H locs ls h23 h24 h25 f26 hP hS hl
              refine lv_iload hx hb dX12_row_57 (lv_at hl 0 rfl) ?_
              refine lv_bipush (v := 60) hx hb dX12_row_59 (by decide) ?_
              refine lv_iload_n hx hb dX12_row_61 rfl (lv_at hl 2 rfl) ?_
              refine lv_imul hx hb dX12_row_62 ?_
              refine lv_topi (fun x27 ex27 => ?_)
              have tx27 : x27.toInt = 60 * A1 := (jmul ex27 jz_60 t1 (by omega) (by omega)).trans (by omega)
              refine lv_bipush (v := 60) hx hb dX12_row_63 (by decide) ?_
              refine lv_iadd hx hb dX12_row_65 ?_
              refine lv_topi (fun x28 ex28 => ?_)
              have tx28 : x28.toInt = 60 * A1 + 60 := (jadd ex28 tx27 jz_60 (by omega) (by omega)).trans (by omega)
              refine lv_icmp_ge (tgt := 83) hx hb dX12_row_66 (by decide) (fun c29 => ?_) (fun c29 => ?_)
              · have kc29 := jle c29 tx28 rfl
                refine lv_iconst (v := 1) hx hb dX12_row_83 (by decide) ?_
                exact hret 1 σ22 τ22 _ _ _ _ rfl ⟨trivial, (by (repeat' split) <;> first | rfl | omega | exact jsame jz_1 t1 (by omega) | exact jsame jz_1 t2 (by omega) | exact jsame jz_1 t3 (by omega) | (exfalso; omega))⟩ hP hS dX12_row_84
              · have kc29 := jnle c29 tx28 rfl
                refine lv_aload_n hx hb dX12_row_69 rfl (lv_at hl 1 rfl) ?_
                refine va_get (D := D) hx hb hts inlX12 hown hK hP 55 (jc_55 cI cL ad σ22 τ22) rfl 60 (by decide) (hts _ kw_8_13) (fun _ h9 => h9) rfl dX12_row_70 ?_
                refine lv_iload hx hb dX12_row_73 (lv_at hl 0 rfl) ?_
                refine lv_lconst (v := 0) hx hb dX12_row_75 (by decide) ?_
                refine jastL hx hb hK hP hJ hA hS (jc_88 cI cL ad σ22 τ22) (ja_88 cI cL ad σ22 τ22 _ _) (jin rfl (by omega) (by omega)) dX12_row_76 (fun τ30 H locs eτ30 hP hS => ?_)
                obtain ⟨x31, ex31⟩ : ∃ y : Int32, y = x21 + 1 := ⟨_, rfl⟩
                have tx31 : x31.toInt = x21.toInt + 1 := (jadd ex31 rfl jz_1 (by omega) (by omega)).trans (by omega)
                refine lv_iinc (v := x31) (lv' := [(4, .int x31), (0, .ref (ad 55)), (1, .int a1), (2, .int a2), (3, .int a3)]) hx hb dX12_row_77 hl (k := 0) rfl (by rw [ex31]; rfl) (by decide) rfl (fun ls hl => ?_)
                refine lv_goto (tgt := 57) hx hb dX12_row_80 (by decide) ?_
                exact ihlp19 x31 σ22 τ30 _ _ ls (by have h90 := tx31; omega) (by have h90 := tx31; omega) (by have h90 := tx31; omega) (fun i hi => by rw [f26 i hi])  hP hS (lv_sub hl [0, 1, 2, 3, 4] rfl)
          exact lp19 100 x18 σ17 τ _ _ ls (by have h90 := tx18; omega) (by have h90 := tx18; omega) (by have h90 := tx18; omega) (fun _ _ => rfl)  hP hS hl
        · have kc14 := jnle c14 jz_0 t3
          refine lv_bipush (v := (-14)) hx hb dX12_row_31 (by decide) ?_
          exact hret (-14) σ τ _ _ _ _ rfl ⟨trivial, (by (repeat' split) <;> first | rfl | omega | exact jsame jz_m14 t1 (by omega) | exact jsame jz_m14 t2 (by omega) | exact jsame jz_m14 t3 (by omega) | (exfalso; omega))⟩ hP hS dX12_row_33
      · have kc13 := jnle c13 t3 jz_60
        refine lv_iconst (v := (-1)) hx hb dX12_row_25 (by decide) ?_
        exact hret (-1) σ τ _ _ _ _ rfl ⟨trivial, (by (repeat' split) <;> first | rfl | omega | exact jsame jz_m1 t1 (by omega) | exact jsame jz_m1 t2 (by omega) | exact jsame jz_m1 t3 (by omega) | (exfalso; omega))⟩ hP hS dX12_row_26
    · obtain ⟨q33, k32⟩ := h10
      have q33 := q33.symm
      subst q33
      refine lv_if_eq (tgt := 25) hx hb dX12_row_16 (by decide) (fun _ => ?_) (fun c => absurd (by decide) c)
      refine lv_iconst (v := (-1)) hx hb dX12_row_25 (by decide) ?_
      exact hret (-1) σ τ _ _ _ _ rfl ⟨trivial, (by (repeat' split) <;> first | rfl | omega | exact jsame jz_m1 t1 (by omega) | exact jsame jz_m1 t2 (by omega) | exact jsame jz_m1 t3 (by omega) | (exfalso; omega))⟩ hP hS dX12_row_26
  · obtain ⟨q35, k34⟩ := h4
    have q35 := q35.symm
    subst q35
    refine lv_if_eq (tgt := 25) hx hb dX12_row_4 (by decide) (fun _ => ?_) (fun c => absurd (by decide) c)
    refine lv_iconst (v := (-1)) hx hb dX12_row_25 (by decide) ?_
    exact hret (-1) σ τ _ _ _ _ rfl ⟨trivial, (by (repeat' split) <;> first | rfl | omega | exact jsame jz_m1 t1 (by omega) | exact jsame jz_m1 t2 (by omega) | exact jsame jz_m1 t3 (by omega) | (exfalso; omega))⟩ hP hS dX12_row_26
set_option maxHeartbeats 4000000 in
set_option maxRecDepth 100000 in
theorem c_X12_refusal (l : Launch) (D : va_G) (cI cL : ClassId) (ad : Nat → Nat) (hJ : jD ad) (σ : Nat → Nat → Int32) (τ : Nat → Nat → Int64) (a1 : Int32) (A1 : Int) (t1 : a1.toInt = A1) (a2 : Int32) (A2 : Int) (t2 : a2.toInt = A2) (ha86 : ∀ k : Nat, k < 6 → σ 86 k = (-1)) : jM l yX12_refusal cX12_refusal 3 (some .int) ({ frames := 2, cells := 0, slots := 0, locals := 45 }) D cI cL ad [.ref (ad 55), .int a1, .int a2] σ τ (fun r σ' τ' => (σ = σ' ∧ τ = τ') ∧ ((r = (-1) ∧ ((A1 < 0) ∨ (5 < A1))) ∨ (r = (-11) ∧ (0 ≤ A1 ∧ A1 ≤ 5)))) := by
  refine jM.of hJ (by decide +kernel) (nt := .int) rfl (Nat.le_of_ble_eq_true rfl) ?_
  intro p e s m args below meth c Q ls hC hret hl hP
  obtain ⟨hx, hb, hr, hml, hown, hts, hK, -, hlocks⟩ := hC
  have hown : s.vm.findClass RX12 = some m.cls := hown
  have hS : va_S (jA ad) s.heap s.heap [] := va_S.rf
  have hA : ∀ q, jA ad q → jA ad q := fun _ h => h
  have hl : lv_has ls 3 [(0, .ref (ad 55)), (1, .int a1), (2, .int a2)] := hl
  have g1 := jrg t1
  have g2 := jrg t2
  refine lv_iload_n hx hb dX12_refusal_0 rfl (lv_at hl 1 rfl) ?_
  refine jcallS (As := [.int a1]) (rest := []) ⟨hx, hb, hml, hown, hts⟩ hK hP hA hS (c_X12_isShelf l D cI cL ad hJ σ τ a1 (A1) t1) cw_RX12_361 ⟨Nat.le_of_ble_eq_true rfl, Nat.le_of_ble_eq_true rfl⟩ rfl rfl rfl hl.1 rfl (Nat.le_of_ble_eq_true rfl) dX12_refusal_1 ⟨Nat.zero_le _, Nat.zero_le _⟩ (fun r2 σ1 τ1 H locs h1 hP hS => ?_)
  obtain ⟨⟨rfl, rfl⟩, h1⟩ := h1
  rcases h1 with h3 | h4
  · obtain ⟨q6, k5⟩ := h3
    have q6 := q6.symm
    subst q6
    refine lv_if_ne (tgt := 9) hx hb dX12_refusal_4 (by decide) (fun _ => ?_) (fun c => absurd c (by decide))
    refine lv_aload_n hx hb dX12_refusal_9 rfl (lv_at hl 0 rfl) ?_
    refine va_get (D := D) hx hb hts inlX12 hown hK hP 55 (jc_55 cI cL ad σ τ) rfl 58 (by decide) (hts _ kw_8_11) (fun _ h9 => h9) rfl dX12_refusal_10 ?_
    refine lv_iload_n hx hb dX12_refusal_13 rfl (lv_at hl 1 rfl) ?_
    refine jald hx hb hK hP (jc_86 cI cL ad σ τ) (jin t1 (by omega) (by omega)) dX12_refusal_14 ?_
    refine jtopr (ha86 _ (jnat t1 (by omega) (by decide))) ?_
    refine lv_if_ge (tgt := 21) hx hb dX12_refusal_15 (by decide) (fun c => absurd c (by decide)) (fun _ => ?_)
    refine lv_bipush (v := (-11)) hx hb dX12_refusal_18 (by decide) ?_
    exact hret (-11) σ τ _ _ _ _ rfl ⟨⟨rfl, rfl⟩, Or.inr (⟨rfl, by omega⟩)⟩ hP hS dX12_refusal_20
  · obtain ⟨q8, k7⟩ := h4
    have q8 := q8.symm
    subst q8
    refine lv_if_ne (tgt := 9) hx hb dX12_refusal_4 (by decide) (fun c => absurd (by decide) c) (fun _ => ?_)
    refine lv_iconst (v := (-1)) hx hb dX12_refusal_7 (by decide) ?_
    exact hret (-1) σ τ _ _ _ _ rfl ⟨⟨rfl, rfl⟩, Or.inl ⟨rfl, by omega⟩⟩ hP hS dX12_refusal_8
set_option maxHeartbeats 4000000 in
set_option maxRecDepth 100000 in
theorem c_X12_put (l : Launch) (D : va_G) (cI cL : ClassId) (ad : Nat → Nat) (hJ : jD ad) (σ : Nat → Nat → Int32) (τ : Nat → Nat → Int64) (a1 : Int32) (A1 : Int) (t1 : a1.toInt = A1) (a2 : Int32) (A2 : Int) (t2 : a2.toInt = A2) (a3 : Int64) (A3 : Int) (t3 : a3.toInt = A3) (ha86 : ∀ k : Nat, k < 6 → σ 86 k = (-1)) : jM l yX12_put cX12_put 6 (some .int) ({ frames := 3, cells := 0, slots := 0, locals := 67 }) D cI cL ad [.ref (ad 55), .int a1, .int a2, .long a3] σ τ (fun r σ' τ' => True ∧ r = (if 0 ≤ A1 ∧ A1 ≤ 5 then -11 else -1)) := by
  refine jM.of hJ (by decide +kernel) (nt := .int) rfl (Nat.le_of_ble_eq_true rfl) ?_
  intro p e s m args below meth c Q ls hC hret hl hP
  obtain ⟨hx, hb, hr, hml, hown, hts, hK, -, hlocks⟩ := hC
  have hown : s.vm.findClass RX12 = some m.cls := hown
  have hS : va_S (jA ad) s.heap s.heap [] := va_S.rf
  have hA : ∀ q, jA ad q → jA ad q := fun _ h => h
  have hl : lv_has ls 6 [(0, .ref (ad 55)), (1, .int a1), (2, .int a2), (3, .long a3)] := hl
  have g1 := jrg t1
  have g2 := jrg t2
  have g3 := jrgL t3
  refine lv_aload_n hx hb dX12_put_0 rfl (lv_at hl 0 rfl) ?_
  refine lv_iload_n hx hb dX12_put_1 rfl (lv_at hl 1 rfl) ?_
  refine lv_iload_n hx hb dX12_put_2 rfl (lv_at hl 2 rfl) ?_
  refine jcallV (As := [.int a1, .int a2]) (rest := []) ⟨hx, hb, hml, hown, hts⟩ hK hP hA hS (c_X12_refusal l D cI cL ad hJ σ τ a1 (A1) t1 a2 (A2) t2 ha86) cw_RX12_402 (jc_55 cI cL ad σ τ) rfl ⟨Nat.le_of_ble_eq_true rfl, Nat.le_of_ble_eq_true rfl⟩ rfl rfl rfl hl.1 rfl (Nat.le_of_ble_eq_true rfl) dX12_put_3 ⟨Nat.zero_le _, Nat.zero_le _⟩ (fun r2 σ1 τ1 H locs h1 hP hS => ?_)
  obtain ⟨⟨rfl, rfl⟩, h1⟩ := h1
  rcases h1 with h3 | h4
  · obtain ⟨q6, k5⟩ := h3
    have q6 := q6.symm
    subst q6
    refine lv_istore (lv' := [(5, .int (-1)), (0, .ref (ad 55)), (1, .int a1), (2, .int a2), (3, .long a3)]) hx hb dX12_put_6 hl (by decide) rfl (fun ls hl => ?_)
    refine lv_iload hx hb dX12_put_8 (lv_at hl 0 rfl) ?_
    refine lv_if_ne (tgt := 37) hx hb dX12_put_10 (by decide) (fun _ => ?_) (fun c => absurd c (by decide))
    refine lv_iload hx hb dX12_put_37 (lv_at hl 0 rfl) ?_
    refine lv_if_ne (tgt := 46) hx hb dX12_put_39 (by decide) (fun _ => ?_) (fun c => absurd c (by decide))
    refine lv_iload hx hb dX12_put_46 (lv_at hl 0 rfl) ?_
    exact hret (-1) σ τ _ _ _ _ rfl ⟨trivial, (by (repeat' split) <;> first | rfl | omega | exact jsame jz_m1 t1 (by omega) | exact jsame jz_m1 t2 (by omega) | (exfalso; omega))⟩ hP hS dX12_put_48
  · obtain ⟨q8, k7⟩ := h4
    have q8 := q8.symm
    subst q8
    refine lv_istore (lv' := [(5, .int (-11)), (0, .ref (ad 55)), (1, .int a1), (2, .int a2), (3, .long a3)]) hx hb dX12_put_6 hl (by decide) rfl (fun ls hl => ?_)
    refine lv_iload hx hb dX12_put_8 (lv_at hl 0 rfl) ?_
    refine lv_if_ne (tgt := 37) hx hb dX12_put_10 (by decide) (fun _ => ?_) (fun c => absurd c (by decide))
    refine lv_iload hx hb dX12_put_37 (lv_at hl 0 rfl) ?_
    refine lv_if_ne (tgt := 46) hx hb dX12_put_39 (by decide) (fun _ => ?_) (fun c => absurd c (by decide))
    refine lv_iload hx hb dX12_put_46 (lv_at hl 0 rfl) ?_
    exact hret (-11) σ τ _ _ _ _ rfl ⟨trivial, (by (repeat' split) <;> first | rfl | omega | exact jsame jz_m11 t1 (by omega) | exact jsame jz_m11 t2 (by omega) | (exfalso; omega))⟩ hP hS dX12_put_48
set_option maxHeartbeats 4000000 in
set_option maxRecDepth 100000 in
theorem c_X12_element (l : Launch) (D : va_G) (cI cL : ClassId) (ad : Nat → Nat) (hJ : jD ad) (σ : Nat → Nat → Int32) (τ : Nat → Nat → Int64) (a1 : Int32) (A1 : Int) (t1 : a1.toInt = A1) (a2 : Int32) (A2 : Int) (t2 : a2.toInt = A2) (ha86 : ∀ k : Nat, k < 6 → σ 86 k = (-1)) : jMl l yX12_element cX12_element 3 (some .long) ({ frames := 3, cells := 0, slots := 0, locals := 67 }) D cI cL ad [.ref (ad 55), .int a1, .int a2] σ τ (fun r σ' τ' => True ∧ r = (-9223372036854775808)) := by
  refine jMl.of hJ (by decide +kernel) rfl (Nat.le_of_ble_eq_true rfl) ?_
  intro p e s m args below meth c Q ls hC hret hl hP
  obtain ⟨hx, hb, hr, hml, hown, hts, hK, -, hlocks⟩ := hC
  have hown : s.vm.findClass RX12 = some m.cls := hown
  have hS : va_S (jA ad) s.heap s.heap [] := va_S.rf
  have hA : ∀ q, jA ad q → jA ad q := fun _ h => h
  have hl : lv_has ls 3 [(0, .ref (ad 55)), (1, .int a1), (2, .int a2)] := hl
  have g1 := jrg t1
  have g2 := jrg t2
  refine lv_aload_n hx hb dX12_element_0 rfl (lv_at hl 0 rfl) ?_
  refine lv_iload_n hx hb dX12_element_1 rfl (lv_at hl 1 rfl) ?_
  refine lv_iload_n hx hb dX12_element_2 rfl (lv_at hl 2 rfl) ?_
  refine jcallV (As := [.int a1, .int a2]) (rest := []) ⟨hx, hb, hml, hown, hts⟩ hK hP hA hS (c_X12_refusal l D cI cL ad hJ σ τ a1 (A1) t1 a2 (A2) t2 ha86) cw_RX12_402 (jc_55 cI cL ad σ τ) rfl ⟨Nat.le_of_ble_eq_true rfl, Nat.le_of_ble_eq_true rfl⟩ rfl rfl rfl hl.1 rfl (Nat.le_of_ble_eq_true rfl) dX12_element_3 ⟨Nat.zero_le _, Nat.zero_le _⟩ (fun r2 σ1 τ1 H locs h1 hP hS => ?_)
  obtain ⟨⟨rfl, rfl⟩, h1⟩ := h1
  rcases h1 with h3 | h4
  · obtain ⟨q6, k5⟩ := h3
    have q6 := q6.symm
    subst q6
    refine lv_if_eq (tgt := 15) hx hb dX12_element_6 (by decide) (fun c => absurd c (by decide)) (fun _ => ?_)
    refine lv_ldc2 (v := (-9223372036854775808)) hx hb hown (hts _ kw_53_3) dX12_element_9 ?_
    refine lv_goto (tgt := 26) hx hb dX12_element_12 (by decide) ?_
    exact hret (-9223372036854775808) σ τ _ _ _ _ ⟨trivial, (by (repeat' split) <;> first | rfl | omega | exact jsame jzl_m9223372036854775808 t1 (by omega) | exact jsame jzl_m9223372036854775808 t2 (by omega) | (exfalso; omega))⟩ hP hS dX12_element_26
  · obtain ⟨q8, k7⟩ := h4
    have q8 := q8.symm
    subst q8
    refine lv_if_eq (tgt := 15) hx hb dX12_element_6 (by decide) (fun c => absurd c (by decide)) (fun _ => ?_)
    refine lv_ldc2 (v := (-9223372036854775808)) hx hb hown (hts _ kw_53_3) dX12_element_9 ?_
    refine lv_goto (tgt := 26) hx hb dX12_element_12 (by decide) ?_
    exact hret (-9223372036854775808) σ τ _ _ _ _ ⟨trivial, (by (repeat' split) <;> first | rfl | omega | exact jsame jzl_m9223372036854775808 t1 (by omega) | exact jsame jzl_m9223372036854775808 t2 (by omega) | (exfalso; omega))⟩ hP hS dX12_element_26
set_option maxHeartbeats 4000000 in
set_option maxRecDepth 100000 in
theorem c_X12_shift (l : Launch) (D : va_G) (cI cL : ClassId) (ad : Nat → Nat) (hJ : jD ad) (σ : Nat → Nat → Int32) (τ : Nat → Nat → Int64) (a1 : Int32) (A1 : Int) (t1 : a1.toInt = A1) (a2 : Int32) (A2 : Int) (t2 : a2.toInt = A2) (a3 : Int32) (A3 : Int) (t3 : a3.toInt = A3) (a4 : Int32) (A4 : Int) (t4 : a4.toInt = A4) (a5 : Int32) (A5 : Int) (t5 : a5.toInt = A5) (ha86 : ∀ k : Nat, k < 6 → σ 86 k = (-1)) : jM l yX12_shift cX12_shift 7 (some .int) ({ frames := 2, cells := 0, slots := 0, locals := 45 }) D cI cL ad [.ref (ad 55), .int a1, .int a2, .int a3, .int a4, .int a5] σ τ (fun r σ' τ' => True ∧ r = (if 0 ≤ A1 ∧ A1 ≤ 5 ∧ 0 ≤ A3 ∧ A3 ≤ 5 then -11 else -1)) := by
  refine jM.of hJ (by decide +kernel) (nt := .int) rfl (Nat.le_of_ble_eq_true rfl) ?_
  intro p e s m args below meth c Q ls hC hret hl hP
  obtain ⟨hx, hb, hr, hml, hown, hts, hK, -, hlocks⟩ := hC
  have hown : s.vm.findClass RX12 = some m.cls := hown
  have hS : va_S (jA ad) s.heap s.heap [] := va_S.rf
  have hA : ∀ q, jA ad q → jA ad q := fun _ h => h
  have hl : lv_has ls 7 [(0, .ref (ad 55)), (1, .int a1), (2, .int a2), (3, .int a3), (4, .int a4), (5, .int a5)] := hl
  have g1 := jrg t1
  have g2 := jrg t2
  have g3 := jrg t3
  have g4 := jrg t4
  have g5 := jrg t5
  refine lv_iload_n hx hb dX12_shift_0 rfl (lv_at hl 1 rfl) ?_
  refine jcallS (As := [.int a1]) (rest := []) ⟨hx, hb, hml, hown, hts⟩ hK hP hA hS (c_X12_isShelf l D cI cL ad hJ σ τ a1 (A1) t1) cw_RX12_361 ⟨Nat.le_of_ble_eq_true rfl, Nat.le_of_ble_eq_true rfl⟩ rfl rfl rfl hl.1 rfl (Nat.le_of_ble_eq_true rfl) dX12_shift_1 ⟨Nat.zero_le _, Nat.zero_le _⟩ (fun r2 σ1 τ1 H locs h1 hP hS => ?_)
  obtain ⟨⟨rfl, rfl⟩, h1⟩ := h1
  rcases h1 with h3 | h4
  · obtain ⟨q6, k5⟩ := h3
    have q6 := q6.symm
    subst q6
    refine lv_if_eq (tgt := 14) hx hb dX12_shift_4 (by decide) (fun c => absurd c (by decide)) (fun _ => ?_)
    refine lv_iload_n hx hb dX12_shift_7 rfl (lv_at hl 3 rfl) ?_
    refine jcallS (As := [.int a3]) (rest := []) ⟨hx, hb, hml, hown, hts⟩ hK hP hA hS (c_X12_isShelf l D cI cL ad hJ σ τ a3 (A3) t3) cw_RX12_361 ⟨Nat.le_of_ble_eq_true rfl, Nat.le_of_ble_eq_true rfl⟩ rfl rfl rfl hl.1 rfl (Nat.le_of_ble_eq_true rfl) dX12_shift_8 ⟨Nat.zero_le _, Nat.zero_le _⟩ (fun r8 σ7 τ7 H locs h7 hP hS => ?_)
    obtain ⟨⟨rfl, rfl⟩, h7⟩ := h7
    rcases h7 with h9 | h10
    · obtain ⟨q12, k11⟩ := h9
      have q12 := q12.symm
      subst q12
      refine lv_if_ne (tgt := 16) hx hb dX12_shift_11 (by decide) (fun _ => ?_) (fun c => absurd c (by decide))
      refine lv_aload_n hx hb dX12_shift_16 rfl (lv_at hl 0 rfl) ?_
      refine va_get (D := D) hx hb hts inlX12 hown hK hP 55 (jc_55 cI cL ad σ τ) rfl 58 (by decide) (hts _ kw_8_11) (fun _ h9 => h9) rfl dX12_shift_17 ?_
      refine lv_iload_n hx hb dX12_shift_20 rfl (lv_at hl 1 rfl) ?_
      refine jald hx hb hK hP (jc_86 cI cL ad σ τ) (jin t1 (by omega) (by omega)) dX12_shift_21 ?_
      refine jtopr (ha86 _ (jnat t1 (by omega) (by decide))) ?_
      refine lv_if_lt (tgt := 34) hx hb dX12_shift_22 (by decide) (fun _ => ?_) (fun c => absurd (by decide) c)
      refine lv_bipush (v := (-11)) hx hb dX12_shift_34 (by decide) ?_
      exact hret (-11) σ τ _ _ _ _ rfl ⟨trivial, (by (repeat' split) <;> first | rfl | omega | exact jsame jz_m11 t1 (by omega) | exact jsame jz_m11 t2 (by omega) | exact jsame jz_m11 t3 (by omega) | exact jsame jz_m11 t4 (by omega) | exact jsame jz_m11 t5 (by omega) | (exfalso; omega))⟩ hP hS dX12_shift_36
    · obtain ⟨q14, k13⟩ := h10
      have q14 := q14.symm
      subst q14
      refine lv_if_ne (tgt := 16) hx hb dX12_shift_11 (by decide) (fun c => absurd (by decide) c) (fun _ => ?_)
      refine lv_iconst (v := (-1)) hx hb dX12_shift_14 (by decide) ?_
      exact hret (-1) σ τ _ _ _ _ rfl ⟨trivial, (by (repeat' split) <;> first | rfl | omega | exact jsame jz_m1 t1 (by omega) | exact jsame jz_m1 t2 (by omega) | exact jsame jz_m1 t3 (by omega) | exact jsame jz_m1 t4 (by omega) | exact jsame jz_m1 t5 (by omega) | (exfalso; omega))⟩ hP hS dX12_shift_15
  · obtain ⟨q16, k15⟩ := h4
    have q16 := q16.symm
    subst q16
    refine lv_if_eq (tgt := 14) hx hb dX12_shift_4 (by decide) (fun _ => ?_) (fun c => absurd (by decide) c)
    refine lv_iconst (v := (-1)) hx hb dX12_shift_14 (by decide) ?_
    exact hret (-1) σ τ _ _ _ _ rfl ⟨trivial, (by (repeat' split) <;> first | rfl | omega | exact jsame jz_m1 t1 (by omega) | exact jsame jz_m1 t2 (by omega) | exact jsame jz_m1 t3 (by omega) | exact jsame jz_m1 t4 (by omega) | exact jsame jz_m1 t5 (by omega) | (exfalso; omega))⟩ hP hS dX12_shift_15
set_option maxHeartbeats 4000000 in
set_option maxRecDepth 100000 in
theorem c_X12_taken (l : Launch) (D : va_G) (cI cL : ClassId) (ad : Nat → Nat) (hJ : jD ad) (σ : Nat → Nat → Int32) (τ : Nat → Nat → Int64) (a1 : Int32) (A1 : Int) (t1 : a1.toInt = A1) (a2 : Int32) (A2 : Int) (t2 : a2.toInt = A2) (ha86 : ∀ k : Nat, k < 6 → σ 86 k = (-1)) : jM l yX12_taken cX12_taken 4 (some .int) ({ frames := 2, cells := 0, slots := 0, locals := 45 }) D cI cL ad [.ref (ad 55), .int a1, .int a2] σ τ (fun r σ' τ' => True ∧ r = (if 0 ≤ A1 ∧ A1 ≤ 5 ∧ 0 ≤ A2 ∧ A2 ≤ 6 then -11 else -1)) := by
  refine jM.of hJ (by decide +kernel) (nt := .int) rfl (Nat.le_of_ble_eq_true rfl) ?_
  intro p e s m args below meth c Q ls hC hret hl hP
  obtain ⟨hx, hb, hr, hml, hown, hts, hK, -, hlocks⟩ := hC
  have hown : s.vm.findClass RX12 = some m.cls := hown
  have hS : va_S (jA ad) s.heap s.heap [] := va_S.rf
  have hA : ∀ q, jA ad q → jA ad q := fun _ h => h
  have hl : lv_has ls 4 [(0, .ref (ad 55)), (1, .int a1), (2, .int a2)] := hl
  have g1 := jrg t1
  have g2 := jrg t2
  refine lv_iload_n hx hb dX12_taken_0 rfl (lv_at hl 1 rfl) ?_
  refine jcallS (As := [.int a1]) (rest := []) ⟨hx, hb, hml, hown, hts⟩ hK hP hA hS (c_X12_isShelf l D cI cL ad hJ σ τ a1 (A1) t1) cw_RX12_361 ⟨Nat.le_of_ble_eq_true rfl, Nat.le_of_ble_eq_true rfl⟩ rfl rfl rfl hl.1 rfl (Nat.le_of_ble_eq_true rfl) dX12_taken_1 ⟨Nat.zero_le _, Nat.zero_le _⟩ (fun r2 σ1 τ1 H locs h1 hP hS => ?_)
  obtain ⟨⟨rfl, rfl⟩, h1⟩ := h1
  rcases h1 with h3 | h4
  · obtain ⟨q6, k5⟩ := h3
    have q6 := q6.symm
    subst q6
    refine lv_if_eq (tgt := 19) hx hb dX12_taken_4 (by decide) (fun c => absurd c (by decide)) (fun _ => ?_)
    refine lv_iload_n hx hb dX12_taken_7 rfl (lv_at hl 2 rfl) ?_
    refine lv_i2l (v := a2.toInt64) hx hb dX12_taken_8 rfl ?_
    refine lv_lconst (v := 0) hx hb dX12_taken_9 (by decide) ?_
    refine lv_ldc2 (v := 6) hx hb hown (hts _ kw_24_22) dX12_taken_10 ?_
    refine jcallS (As := [.long a2.toInt64, .long 0, .long 6]) (rest := []) ⟨hx, hb, hml, hown, hts⟩ hK hP hA hS (c_X12_within l D cI cL ad hJ σ τ a2.toInt64 (A2) (jtoL t2) 0 (0) jzl_0 6 (6) jzl_6) cw_RX12_136 ⟨Nat.le_of_ble_eq_true rfl, Nat.le_of_ble_eq_true rfl⟩ rfl rfl rfl hl.1 rfl (Nat.le_of_ble_eq_true rfl) dX12_taken_13 ⟨Nat.zero_le _, Nat.zero_le _⟩ (fun r8 σ7 τ7 H locs h7 hP hS => ?_)
    obtain ⟨⟨rfl, rfl⟩, h7⟩ := h7
    rcases h7 with h9 | h10
    · obtain ⟨q12, k11⟩ := h9
      have q12 := q12.symm
      subst q12
      refine lv_if_ne (tgt := 21) hx hb dX12_taken_16 (by decide) (fun _ => ?_) (fun c => absurd c (by decide))
      refine lv_aload_n hx hb dX12_taken_21 rfl (lv_at hl 0 rfl) ?_
      refine va_get (D := D) hx hb hts inlX12 hown hK hP 55 (jc_55 cI cL ad σ τ) rfl 58 (by decide) (hts _ kw_8_11) (fun _ h9 => h9) rfl dX12_taken_22 ?_
      refine lv_iload_n hx hb dX12_taken_25 rfl (lv_at hl 1 rfl) ?_
      refine jald hx hb hK hP (jc_86 cI cL ad σ τ) (jin t1 (by omega) (by omega)) dX12_taken_26 ?_
      refine jtopr (ha86 _ (jnat t1 (by omega) (by decide))) ?_
      refine lv_if_ge (tgt := 33) hx hb dX12_taken_27 (by decide) (fun c => absurd c (by decide)) (fun _ => ?_)
      refine lv_bipush (v := (-11)) hx hb dX12_taken_30 (by decide) ?_
      exact hret (-11) σ τ _ _ _ _ rfl ⟨trivial, (by (repeat' split) <;> first | rfl | omega | exact jsame jz_m11 t1 (by omega) | exact jsame jz_m11 t2 (by omega) | (exfalso; omega))⟩ hP hS dX12_taken_32
    · obtain ⟨q14, k13⟩ := h10
      have q14 := q14.symm
      subst q14
      refine lv_if_ne (tgt := 21) hx hb dX12_taken_16 (by decide) (fun c => absurd (by decide) c) (fun _ => ?_)
      refine lv_iconst (v := (-1)) hx hb dX12_taken_19 (by decide) ?_
      exact hret (-1) σ τ _ _ _ _ rfl ⟨trivial, (by (repeat' split) <;> first | rfl | omega | exact jsame jz_m1 t1 (by omega) | exact jsame jz_m1 t2 (by omega) | (exfalso; omega))⟩ hP hS dX12_taken_20
  · obtain ⟨q16, k15⟩ := h4
    have q16 := q16.symm
    subst q16
    refine lv_if_eq (tgt := 19) hx hb dX12_taken_4 (by decide) (fun _ => ?_) (fun c => absurd (by decide) c)
    refine lv_iconst (v := (-1)) hx hb dX12_taken_19 (by decide) ?_
    exact hret (-1) σ τ _ _ _ _ rfl ⟨trivial, (by (repeat' split) <;> first | rfl | omega | exact jsame jz_m1 t1 (by omega) | exact jsame jz_m1 t2 (by omega) | (exfalso; omega))⟩ hP hS dX12_taken_20
set_option maxHeartbeats 4000000 in
set_option maxRecDepth 100000 in
theorem c_X12_rule (l : Launch) (D : va_G) (cI cL : ClassId) (ad : Nat → Nat) (hJ : jD ad) (σ : Nat → Nat → Int32) (τ : Nat → Nat → Int64) (a1 : Int32) (A1 : Int) (t1 : a1.toInt = A1) (a2 : Int32) (A2 : Int) (t2 : a2.toInt = A2) (a3 : Int32) (A3 : Int) (t3 : a3.toInt = A3) (h55_32 : σ 55 32 = 0) : jM l yX12_rule cX12_rule 7 (some .int) ({ frames := 1, cells := 0, slots := 0, locals := 25 }) D cI cL ad [.ref (ad 55), .int a1, .int a2, .int a3] σ τ (fun r σ' τ' => True ∧ r = (if 0 ≤ A1 ∧ A1 ≤ 6 ∧ (0 ≤ A2) ∧ (A2 ≤ 99999999) ∧ ((A2 ≤ 0) ∨ (1 ≤ (A2 % 10) ∧ (A2 % 10) ≤ 4)) ∧ (((A2 / 10) ≤ 0) ∨ (1 ≤ (((A2 / 10)) % 10) ∧ (((A2 / 10)) % 10) ≤ 4)) ∧ (((((A2 / 10)) / 10) ≤ 0) ∨ (1 ≤ (((((A2 / 10)) / 10)) % 10) ∧ (((((A2 / 10)) / 10)) % 10) ≤ 4)) ∧ (((((((A2 / 10)) / 10)) / 10) ≤ 0) ∨ (1 ≤ (((((((A2 / 10)) / 10)) / 10)) % 10) ∧ (((((((A2 / 10)) / 10)) / 10)) % 10) ≤ 4)) ∧ (((((((((A2 / 10)) / 10)) / 10)) / 10) ≤ 0) ∨ (1 ≤ (((((((((A2 / 10)) / 10)) / 10)) / 10)) % 10) ∧ (((((((((A2 / 10)) / 10)) / 10)) / 10)) % 10) ≤ 4)) ∧ (((((((((((A2 / 10)) / 10)) / 10)) / 10)) / 10) ≤ 0) ∨ (1 ≤ (((((((((((A2 / 10)) / 10)) / 10)) / 10)) / 10)) % 10) ∧ (((((((((((A2 / 10)) / 10)) / 10)) / 10)) / 10)) % 10) ≤ 4)) ∧ (((((((((((((A2 / 10)) / 10)) / 10)) / 10)) / 10)) / 10) ≤ 0) ∨ (1 ≤ (((((((((((((A2 / 10)) / 10)) / 10)) / 10)) / 10)) / 10)) % 10) ∧ (((((((((((((A2 / 10)) / 10)) / 10)) / 10)) / 10)) / 10)) % 10) ≤ 4)) ∧ (((((((((((((((A2 / 10)) / 10)) / 10)) / 10)) / 10)) / 10)) / 10) ≤ 0) ∨ (1 ≤ (((((((((((((((A2 / 10)) / 10)) / 10)) / 10)) / 10)) / 10)) / 10)) % 10) ∧ (((((((((((((((A2 / 10)) / 10)) / 10)) / 10)) / 10)) / 10)) / 10)) % 10) ≤ 4)) ∧ 0 ≤ A3 ∧ A3 ≤ 12 then 0 else -1)) := by
  refine jM.of hJ (by decide +kernel) (nt := .int) rfl (Nat.le_of_ble_eq_true rfl) ?_
  intro p e s m args below meth c Q ls hC hret hl hP
  obtain ⟨hx, hb, hr, hml, hown, hts, hK, -, hlocks⟩ := hC
  have hown : s.vm.findClass RX12 = some m.cls := hown
  have hS : va_S (jA ad) s.heap s.heap [] := va_S.rf
  have hA : ∀ q, jA ad q → jA ad q := fun _ h => h
  have hl : lv_has ls 7 [(0, .ref (ad 55)), (1, .int a1), (2, .int a2), (3, .int a3)] := hl
  have g1 := jrg t1
  have g2 := jrg t2
  have g3 := jrg t3
  refine lv_iload_n hx hb dX12_rule_0 rfl (lv_at hl 1 rfl) ?_
  refine lv_i2l (v := a1.toInt64) hx hb dX12_rule_1 rfl ?_
  refine lv_lconst (v := 0) hx hb dX12_rule_2 (by decide) ?_
  refine lv_ldc2 (v := 6) hx hb hown (hts _ kw_24_22) dX12_rule_3 ?_
  refine jcallS (As := [.long a1.toInt64, .long 0, .long 6]) (rest := []) ⟨hx, hb, hml, hown, hts⟩ hK hP hA hS (c_X12_within l D cI cL ad hJ σ τ a1.toInt64 (A1) (jtoL t1) 0 (0) jzl_0 6 (6) jzl_6) cw_RX12_136 ⟨Nat.le_of_ble_eq_true rfl, Nat.le_of_ble_eq_true rfl⟩ rfl rfl rfl hl.1 rfl (Nat.le_of_ble_eq_true rfl) dX12_rule_6 ⟨Nat.zero_le _, Nat.zero_le _⟩ (fun r2 σ1 τ1 H locs h1 hP hS => ?_)
  obtain ⟨⟨rfl, rfl⟩, h1⟩ := h1
  rcases h1 with h3 | h4
  · obtain ⟨q6, k5⟩ := h3
    have q6 := q6.symm
    subst q6
    refine lv_if_eq (tgt := 36) hx hb dX12_rule_9 (by decide) (fun c => absurd c (by decide)) (fun _ => ?_)
    refine lv_iload_n hx hb dX12_rule_12 rfl (lv_at hl 2 rfl) ?_
    refine lv_i2l (v := a2.toInt64) hx hb dX12_rule_13 rfl ?_
    refine lv_lconst (v := 0) hx hb dX12_rule_14 (by decide) ?_
    refine lv_ldc2 (v := 44444444) hx hb hown (hts _ kw_24_23) dX12_rule_15 ?_
    refine jcallS (As := [.long a2.toInt64, .long 0, .long 44444444]) (rest := []) ⟨hx, hb, hml, hown, hts⟩ hK hP hA hS (c_X12_within l D cI cL ad hJ σ τ a2.toInt64 (A2) (jtoL t2) 0 (0) jzl_0 44444444 (44444444) jzl_44444444) cw_RX12_136 ⟨Nat.le_of_ble_eq_true rfl, Nat.le_of_ble_eq_true rfl⟩ rfl rfl rfl hl.1 rfl (Nat.le_of_ble_eq_true rfl) dX12_rule_18 ⟨Nat.zero_le _, Nat.zero_le _⟩ (fun r8 σ7 τ7 H locs h7 hP hS => ?_)
    obtain ⟨⟨rfl, rfl⟩, h7⟩ := h7
    rcases h7 with h9 | h10
    · obtain ⟨q12, k11⟩ := h9
      have q12 := q12.symm
      subst q12
      refine lv_if_eq (tgt := 36) hx hb dX12_rule_21 (by decide) (fun c => absurd c (by decide)) (fun _ => ?_)
      refine lv_iload_n hx hb dX12_rule_24 rfl (lv_at hl 3 rfl) ?_
      refine lv_i2l (v := a3.toInt64) hx hb dX12_rule_25 rfl ?_
      refine lv_lconst (v := 0) hx hb dX12_rule_26 (by decide) ?_
      refine lv_ldc2 (v := 12) hx hb hown (hts _ kw_25_0) dX12_rule_27 ?_
      refine jcallS (As := [.long a3.toInt64, .long 0, .long 12]) (rest := []) ⟨hx, hb, hml, hown, hts⟩ hK hP hA hS (c_X12_within l D cI cL ad hJ σ τ a3.toInt64 (A3) (jtoL t3) 0 (0) jzl_0 12 (12) jzl_12) cw_RX12_136 ⟨Nat.le_of_ble_eq_true rfl, Nat.le_of_ble_eq_true rfl⟩ rfl rfl rfl hl.1 rfl (Nat.le_of_ble_eq_true rfl) dX12_rule_30 ⟨Nat.zero_le _, Nat.zero_le _⟩ (fun r14 σ13 τ13 H locs h13 hP hS => ?_)
      obtain ⟨⟨rfl, rfl⟩, h13⟩ := h13
      rcases h13 with h15 | h16
      · obtain ⟨q18, k17⟩ := h15
        have q18 := q18.symm
        subst q18
        refine lv_if_ne (tgt := 38) hx hb dX12_rule_33 (by decide) (fun _ => ?_) (fun c => absurd c (by decide))
        refine lv_iconst (v := 0) hx hb dX12_rule_38 (by decide) ?_
        refine lv_istore (lv' := [(4, .int 0), (0, .ref (ad 55)), (1, .int a1), (2, .int a2), (3, .int a3)]) hx hb dX12_rule_39 hl (by decide) rfl (fun ls hl => ?_)
        refine lv_iload_n hx hb dX12_rule_41 rfl (lv_at hl 3 rfl) ?_
        refine lv_istore (lv' := [(5, .int a2), (4, .int 0), (0, .ref (ad 55)), (1, .int a1), (2, .int a2), (3, .int a3)]) hx hb dX12_rule_42 hl (by decide) rfl (fun ls hl => ?_)
        refine lv_iload hx hb dX12_rule_44 (lv_at hl 0 rfl) ?_
        refine lv_if_le (tgt := 80) hx hb dX12_rule_46 (by decide) (fun c19 => ?_) (fun c19 => ?_)
        · have kc19 := jle c19 t2 jz_0
          refine lv_aload_n hx hb dX12_rule_80 rfl (lv_at hl 2 rfl) ?_
          refine va_get (D := D) hx hb hts inlX12 hown hK hP 55 (jc_55 cI cL ad σ τ) rfl 32 (by decide) (hts _ kw_25_1) (fun _ h9 => h9) rfl dX12_rule_81 ?_
          refine jtopr h55_32 ?_
          refine lv_bipush (v := 20) hx hb dX12_rule_84 (by decide) ?_
          refine lv_icmp_ne (tgt := 92) hx hb dX12_rule_86 (by decide) (fun _ => ?_) (fun c => absurd c (by decide))
          refine lv_iload_n hx hb dX12_rule_92 rfl (lv_at hl 4 rfl) ?_
          refine lv_istore (lv' := [(5, .int a2), (4, .int 0), (0, .ref (ad 55)), (1, .int a1), (2, .int a2), (3, .int a3)]) hx hb dX12_rule_93 hl (by decide) rfl (fun ls hl => ?_)
          refine lv_iload hx hb dX12_rule_95 (lv_at hl 1 rfl) ?_
          refine lv_iconst (v := 1) hx hb dX12_rule_97 (by decide) ?_
          refine lv_isub hx hb dX12_rule_98 ?_
          refine jtopr (y := (-1)) (by decide) ?_
          refine lv_istore (lv' := [(6, .int (-1)), (5, .int a2), (4, .int 0), (0, .ref (ad 55)), (1, .int a1), (2, .int a2), (3, .int a3)]) hx hb dX12_rule_99 hl (by decide) rfl (fun ls hl => ?_)
          refine lv_iload hx hb dX12_rule_101 (lv_at hl 0 rfl) ?_
          refine lv_if_lt (tgt := 141) hx hb dX12_rule_103 (by decide) (fun _ => ?_) (fun c => absurd (by decide) c)
          refine lv_aload_n hx hb dX12_rule_141 rfl (lv_at hl 3 rfl) ?_
          refine va_get (D := D) hx hb hts inlX12 hown hK hP 55 (jc_55 cI cL ad σ τ) rfl 33 (by decide) (hts _ kw_7_18) (fun _ h9 => h9) rfl dX12_rule_142 ?_
          refine lv_aload_n hx hb dX12_rule_145 rfl (lv_at hl 3 rfl) ?_
          refine va_get (D := D) hx hb hts inlX12 hown hK hP 55 (jc_55 cI cL ad σ τ) rfl 32 (by decide) (hts _ kw_25_1) (fun _ h9 => h9) rfl dX12_rule_146 ?_
          refine jtopr h55_32 ?_
          refine lv_iload_n hx hb dX12_rule_149 rfl (lv_at hl 4 rfl) ?_
          refine jast hx hb hK hP hJ hA hS (jc_70 cI cL ad σ τ) (ja_70 cI cL ad σ τ _ _) (jin jz_0 (by omega) (by omega)) dX12_rule_150 (fun σ20 H locs eσ20 hP hS => ?_)
          have eσ20 : σ20 = jup σ 70 0 a1 := eσ20
          refine lv_aload_n hx hb dX12_rule_151 rfl (lv_at hl 3 rfl) ?_
          refine va_get (D := D) hx hb hts inlX12 hown hK hP 55 (jc_55 cI cL ad σ20 τ) rfl 34 (by decide) (hts _ kw_7_19) (fun _ h9 => h9) rfl dX12_rule_152 ?_
          refine lv_aload_n hx hb dX12_rule_155 rfl (lv_at hl 3 rfl) ?_
          refine va_get (D := D) hx hb hts inlX12 hown hK hP 55 (jc_55 cI cL ad σ20 τ) rfl 32 (by decide) (hts _ kw_25_1) (fun _ h9 => h9) rfl dX12_rule_156 ?_
          have m21 : σ20 55 32 = 0 := (by rw [eσ20, jup_n (by decide)]; exact h55_32)
          refine jtopr m21 ?_
          refine lv_iload hx hb dX12_rule_159 (lv_at hl 2 rfl) ?_
          refine jast hx hb hK hP hJ hA hS (jc_71 cI cL ad σ20 τ) (ja_71 cI cL ad σ20 τ _ _) (jin jz_0 (by omega) (by omega)) dX12_rule_161 (fun σ22 H locs eσ22 hP hS => ?_)
          have eσ22 : σ22 = jup σ20 71 0 0 := eσ22
          refine lv_aload_n hx hb dX12_rule_162 rfl (lv_at hl 3 rfl) ?_
          refine va_get (D := D) hx hb hts inlX12 hown hK hP 55 (jc_55 cI cL ad σ22 τ) rfl 36 (by decide) (hts _ kw_7_21) (fun _ h9 => h9) rfl dX12_rule_163 ?_
          refine lv_aload_n hx hb dX12_rule_166 rfl (lv_at hl 3 rfl) ?_
          refine va_get (D := D) hx hb hts inlX12 hown hK hP 55 (jc_55 cI cL ad σ22 τ) rfl 32 (by decide) (hts _ kw_25_1) (fun _ h9 => h9) rfl dX12_rule_167 ?_
          have m23 : σ22 55 32 = 0 := (by rw [eσ22, jup_n (by decide)]; exact m21)
          refine jtopr m23 ?_
          refine lv_iload_n hx hb dX12_rule_170 rfl (lv_at hl 6 rfl) ?_
          refine jast hx hb hK hP hJ hA hS (jc_73 cI cL ad σ22 τ) (ja_73 cI cL ad σ22 τ _ _) (jin jz_0 (by omega) (by omega)) dX12_rule_171 (fun σ24 H locs eσ24 hP hS => ?_)
          have eσ24 : σ24 = jup σ22 73 0 a3 := eσ24
          refine lv_aload_n hx hb dX12_rule_172 rfl (lv_at hl 3 rfl) ?_
          refine lv_dup hx hb dX12_rule_173 rfl ?_
          refine va_get (D := D) hx hb hts inlX12 hown hK hP 55 (jc_55 cI cL ad σ24 τ) rfl 32 (by decide) (hts _ kw_25_1) (fun _ h9 => h9) rfl dX12_rule_174 ?_
          have m25 : σ24 55 32 = 0 := (by rw [eσ24, jup_n (by decide)]; exact m23)
          refine jtopr m25 ?_
          refine lv_iconst (v := 1) hx hb dX12_rule_177 (by decide) ?_
          refine lv_iadd hx hb dX12_rule_178 ?_
          refine jtopr (y := 1) (by decide) ?_
          refine jput (ty := .int) hx hb hts inlX12 tyX12 tyX12_ok nmX12 hown hK hP hJ hA hS (jc_55 cI cL ad σ24 τ) rfl (k := 32) (by decide) (Nat.le_of_ble_eq_true rfl) (jp_55_32 cI cL ad σ24 τ 1) (hts _ kw_25_1) (fun _ h9 => h9) rfl (by decide +kernel) rfl rfl dX12_rule_179 (fun σ26 H locs eσ26 hP hS => ?_)
          refine lv_aload_n hx hb dX12_rule_182 rfl (lv_at hl 3 rfl) ?_
          refine va_get (D := D) hx hb hts inlX12 hown hK hP 55 (jc_55 cI cL ad σ26 τ) rfl 32 (by decide) (hts _ kw_25_1) (fun _ h9 => h9) rfl dX12_rule_183 ?_
          have m27 : σ26 55 32 = 1 := (by rw [eσ26]; exact jup_s)
          refine jtopr m27 ?_
          refine lv_iconst (v := 1) hx hb dX12_rule_186 (by decide) ?_
          refine lv_isub hx hb dX12_rule_187 ?_
          refine jtopr (y := 0) (by decide) ?_
          exact hret 0 σ26 τ _ _ _ _ rfl ⟨trivial, (by (repeat' split) <;> first | rfl | omega | exact jsame jz_0 t1 (by omega) | exact jsame jz_0 t2 (by omega) | exact jsame jz_0 t3 (by omega) | (exfalso; omega))⟩ hP hS dX12_rule_188
        · have kc19 := jnle c19 t2 jz_0
          refine lv_iload hx hb dX12_rule_49 (lv_at hl 0 rfl) ?_
          refine lv_bipush (v := 10) hx hb dX12_rule_51 (by decide) ?_
          refine lv_irem hx hb dX12_rule_53 (by decide) ?_
          refine lv_topi (fun x28 ex28 => ?_)
          have tx28 : x28.toInt = (A2 % 10) := jrem ex28 t2 jz_10 (by omega)
          refine lv_i2l (v := x28.toInt64) hx hb dX12_rule_54 rfl ?_
          refine lv_lconst (v := 1) hx hb dX12_rule_55 (by decide) ?_
          refine lv_ldc2 (v := 4) hx hb hown (hts _ kw_13_5) dX12_rule_56 ?_
          refine jcallS (As := [.long x28.toInt64, .long 1, .long 4]) (rest := []) ⟨hx, hb, hml, hown, hts⟩ hK hP hA hS (c_X12_within l D cI cL ad hJ σ τ x28.toInt64 ((A2 % 10)) (jtoL tx28) 1 (1) jzl_1 4 (4) jzl_4) cw_RX12_136 ⟨Nat.le_of_ble_eq_true rfl, Nat.le_of_ble_eq_true rfl⟩ rfl rfl rfl hl.1 rfl (Nat.le_of_ble_eq_true rfl) dX12_rule_59 ⟨Nat.zero_le _, Nat.zero_le _⟩ (fun r30 σ29 τ29 H locs h29 hP hS => ?_)
          obtain ⟨⟨rfl, rfl⟩, h29⟩ := h29
          rcases h29 with h31 | h32
          · obtain ⟨q34, k33⟩ := h31
            have q34 := q34.symm
            subst q34
            refine lv_if_ne (tgt := 67) hx hb dX12_rule_62 (by decide) (fun _ => ?_) (fun c => absurd c (by decide))
            refine lv_iinc (v := 1) (lv' := [(4, .int 1), (5, .int a2), (0, .ref (ad 55)), (1, .int a1), (2, .int a2), (3, .int a3)]) hx hb dX12_rule_67 hl (k := 1) rfl (by decide) (by decide) rfl (fun ls hl => ?_)
            refine lv_iload hx hb dX12_rule_70 (lv_at hl 1 rfl) ?_
            refine lv_bipush (v := 10) hx hb dX12_rule_72 (by decide) ?_
            refine lv_idiv hx hb dX12_rule_74 (by decide) ?_
            refine lv_topi (fun x35 ex35 => ?_)
            have tx35 : x35.toInt = (A2 / 10) := jdiv ex35 t2 jz_10 (by omega) (by omega)
            refine lv_istore (lv' := [(5, .int x35), (4, .int 1), (0, .ref (ad 55)), (1, .int a1), (2, .int a2), (3, .int a3)]) hx hb dX12_rule_75 hl (by decide) rfl (fun ls hl => ?_)
            refine lv_goto (tgt := 44) hx hb dX12_rule_77 (by decide) ?_
            refine lv_iload hx hb dX12_rule_44 (lv_at hl 0 rfl) ?_
            refine lv_if_le (tgt := 80) hx hb dX12_rule_46 (by decide) (fun c36 => ?_) (fun c36 => ?_)
            · have kc36 := jle c36 tx35 jz_0
              refine lv_aload_n hx hb dX12_rule_80 rfl (lv_at hl 2 rfl) ?_
              refine va_get (D := D) hx hb hts inlX12 hown hK hP 55 (jc_55 cI cL ad σ τ) rfl 32 (by decide) (hts _ kw_25_1) (fun _ h9 => h9) rfl dX12_rule_81 ?_
              refine jtopr h55_32 ?_
              refine lv_bipush (v := 20) hx hb dX12_rule_84 (by decide) ?_
              refine lv_icmp_ne (tgt := 92) hx hb dX12_rule_86 (by decide) (fun _ => ?_) (fun c => absurd c (by decide))
              refine lv_iload_n hx hb dX12_rule_92 rfl (lv_at hl 4 rfl) ?_
              refine lv_istore (lv' := [(5, .int a2), (4, .int 1), (0, .ref (ad 55)), (1, .int a1), (2, .int a2), (3, .int a3)]) hx hb dX12_rule_93 hl (by decide) rfl (fun ls hl => ?_)
              refine lv_iload hx hb dX12_rule_95 (lv_at hl 1 rfl) ?_
              refine lv_iconst (v := 1) hx hb dX12_rule_97 (by decide) ?_
              refine lv_isub hx hb dX12_rule_98 ?_
              refine jtopr (y := 0) (by decide) ?_
              refine lv_istore (lv' := [(6, .int 0), (5, .int a2), (4, .int 1), (0, .ref (ad 55)), (1, .int a1), (2, .int a2), (3, .int a3)]) hx hb dX12_rule_99 hl (by decide) rfl (fun ls hl => ?_)
              refine lv_iload hx hb dX12_rule_101 (lv_at hl 0 rfl) ?_
              refine lv_if_lt (tgt := 141) hx hb dX12_rule_103 (by decide) (fun c => absurd c (by decide)) (fun _ => ?_)
              refine lv_aload_n hx hb dX12_rule_106 rfl (lv_at hl 3 rfl) ?_
              refine va_get (D := D) hx hb hts inlX12 hown hK hP 55 (jc_55 cI cL ad σ τ) rfl 35 (by decide) (hts _ kw_7_20) (fun _ h9 => h9) rfl dX12_rule_107 ?_
              refine lv_bipush (v := 8) hx hb dX12_rule_110 (by decide) ?_
              refine lv_aload_n hx hb dX12_rule_112 rfl (lv_at hl 3 rfl) ?_
              refine va_get (D := D) hx hb hts inlX12 hown hK hP 55 (jc_55 cI cL ad σ τ) rfl 32 (by decide) (hts _ kw_25_1) (fun _ h9 => h9) rfl dX12_rule_113 ?_
              refine jtopr h55_32 ?_
              refine lv_imul hx hb dX12_rule_116 ?_
              refine jtopr (y := 0) (by decide) ?_
              refine lv_iload hx hb dX12_rule_117 (lv_at hl 0 rfl) ?_
              refine lv_iadd hx hb dX12_rule_119 ?_
              refine jtopr (y := 0) (by decide) ?_
              refine lv_iload hx hb dX12_rule_120 (lv_at hl 1 rfl) ?_
              refine lv_bipush (v := 10) hx hb dX12_rule_122 (by decide) ?_
              refine lv_irem hx hb dX12_rule_124 (by decide) ?_
              refine lv_topi (fun x37 ex37 => ?_)
              have tx37 : x37.toInt = (A2 % 10) := jrem ex37 t2 jz_10 (by omega)
              refine lv_iconst (v := 1) hx hb dX12_rule_125 (by decide) ?_
              refine lv_isub hx hb dX12_rule_126 ?_
              refine lv_topi (fun x38 ex38 => ?_)
              have tx38 : x38.toInt = (A2 % 10) - 1 := (jsub ex38 tx37 jz_1 (by omega) (by omega)).trans (by omega)
              refine jast hx hb hK hP hJ hA hS (jc_72 cI cL ad σ τ) (ja_72 cI cL ad σ τ _ _) (jin jz_0 (by omega) (by omega)) dX12_rule_127 (fun σ39 H locs eσ39 hP hS => ?_)
              have eσ39 : σ39 = jup σ 72 0 x38 := eσ39
              refine lv_iload hx hb dX12_rule_128 (lv_at hl 1 rfl) ?_
              refine lv_bipush (v := 10) hx hb dX12_rule_130 (by decide) ?_
              refine lv_idiv hx hb dX12_rule_132 (by decide) ?_
              refine lv_topi (fun x40 ex40 => ?_)
              have tx40 : x40.toInt = (A2 / 10) := jdiv ex40 t2 jz_10 (by omega) (by omega)
              refine lv_istore (lv' := [(5, .int x40), (6, .int 0), (4, .int 1), (0, .ref (ad 55)), (1, .int a1), (2, .int a2), (3, .int a3)]) hx hb dX12_rule_133 hl (by decide) rfl (fun ls hl => ?_)
              refine lv_iinc (v := (-1)) (lv' := [(6, .int (-1)), (5, .int x40), (4, .int 1), (0, .ref (ad 55)), (1, .int a1), (2, .int a2), (3, .int a3)]) hx hb dX12_rule_135 hl (k := 1) rfl (by decide) (by decide) rfl (fun ls hl => ?_)
              refine lv_goto (tgt := 101) hx hb dX12_rule_138 (by decide) ?_
              refine lv_iload hx hb dX12_rule_101 (lv_at hl 0 rfl) ?_
              refine lv_if_lt (tgt := 141) hx hb dX12_rule_103 (by decide) (fun _ => ?_) (fun c => absurd (by decide) c)
              refine lv_aload_n hx hb dX12_rule_141 rfl (lv_at hl 3 rfl) ?_
              refine va_get (D := D) hx hb hts inlX12 hown hK hP 55 (jc_55 cI cL ad σ39 τ) rfl 33 (by decide) (hts _ kw_7_18) (fun _ h9 => h9) rfl dX12_rule_142 ?_
              refine lv_aload_n hx hb dX12_rule_145 rfl (lv_at hl 3 rfl) ?_
              refine va_get (D := D) hx hb hts inlX12 hown hK hP 55 (jc_55 cI cL ad σ39 τ) rfl 32 (by decide) (hts _ kw_25_1) (fun _ h9 => h9) rfl dX12_rule_146 ?_
              have m41 : σ39 55 32 = 0 := (by rw [eσ39, jup_n (by decide)]; exact h55_32)
              refine jtopr m41 ?_
              refine lv_iload_n hx hb dX12_rule_149 rfl (lv_at hl 4 rfl) ?_
              refine jast hx hb hK hP hJ hA hS (jc_70 cI cL ad σ39 τ) (ja_70 cI cL ad σ39 τ _ _) (jin jz_0 (by omega) (by omega)) dX12_rule_150 (fun σ42 H locs eσ42 hP hS => ?_)
              have eσ42 : σ42 = jup σ39 70 0 a1 := eσ42
              refine lv_aload_n hx hb dX12_rule_151 rfl (lv_at hl 3 rfl) ?_
              refine va_get (D := D) hx hb hts inlX12 hown hK hP 55 (jc_55 cI cL ad σ42 τ) rfl 34 (by decide) (hts _ kw_7_19) (fun _ h9 => h9) rfl dX12_rule_152 ?_
              refine lv_aload_n hx hb dX12_rule_155 rfl (lv_at hl 3 rfl) ?_
              refine va_get (D := D) hx hb hts inlX12 hown hK hP 55 (jc_55 cI cL ad σ42 τ) rfl 32 (by decide) (hts _ kw_25_1) (fun _ h9 => h9) rfl dX12_rule_156 ?_
              have m43 : σ42 55 32 = 0 := (by rw [eσ42, jup_n (by decide)]; exact m41)
              refine jtopr m43 ?_
              refine lv_iload hx hb dX12_rule_159 (lv_at hl 2 rfl) ?_
              refine jast hx hb hK hP hJ hA hS (jc_71 cI cL ad σ42 τ) (ja_71 cI cL ad σ42 τ _ _) (jin jz_0 (by omega) (by omega)) dX12_rule_161 (fun σ44 H locs eσ44 hP hS => ?_)
              have eσ44 : σ44 = jup σ42 71 0 1 := eσ44
              refine lv_aload_n hx hb dX12_rule_162 rfl (lv_at hl 3 rfl) ?_
              refine va_get (D := D) hx hb hts inlX12 hown hK hP 55 (jc_55 cI cL ad σ44 τ) rfl 36 (by decide) (hts _ kw_7_21) (fun _ h9 => h9) rfl dX12_rule_163 ?_
              refine lv_aload_n hx hb dX12_rule_166 rfl (lv_at hl 3 rfl) ?_
              refine va_get (D := D) hx hb hts inlX12 hown hK hP 55 (jc_55 cI cL ad σ44 τ) rfl 32 (by decide) (hts _ kw_25_1) (fun _ h9 => h9) rfl dX12_rule_167 ?_
              have m45 : σ44 55 32 = 0 := (by rw [eσ44, jup_n (by decide)]; exact m43)
              refine jtopr m45 ?_
              refine lv_iload_n hx hb dX12_rule_170 rfl (lv_at hl 6 rfl) ?_
              refine jast hx hb hK hP hJ hA hS (jc_73 cI cL ad σ44 τ) (ja_73 cI cL ad σ44 τ _ _) (jin jz_0 (by omega) (by omega)) dX12_rule_171 (fun σ46 H locs eσ46 hP hS => ?_)
              have eσ46 : σ46 = jup σ44 73 0 a3 := eσ46
              refine lv_aload_n hx hb dX12_rule_172 rfl (lv_at hl 3 rfl) ?_
              refine lv_dup hx hb dX12_rule_173 rfl ?_
              refine va_get (D := D) hx hb hts inlX12 hown hK hP 55 (jc_55 cI cL ad σ46 τ) rfl 32 (by decide) (hts _ kw_25_1) (fun _ h9 => h9) rfl dX12_rule_174 ?_
              have m47 : σ46 55 32 = 0 := (by rw [eσ46, jup_n (by decide)]; exact m45)
              refine jtopr m47 ?_
              refine lv_iconst (v := 1) hx hb dX12_rule_177 (by decide) ?_
              refine lv_iadd hx hb dX12_rule_178 ?_
              refine jtopr (y := 1) (by decide) ?_
              refine jput (ty := .int) hx hb hts inlX12 tyX12 tyX12_ok nmX12 hown hK hP hJ hA hS (jc_55 cI cL ad σ46 τ) rfl (k := 32) (by decide) (Nat.le_of_ble_eq_true rfl) (jp_55_32 cI cL ad σ46 τ 1) (hts _ kw_25_1) (fun _ h9 => h9) rfl (by decide +kernel) rfl rfl dX12_rule_179 (fun σ48 H locs eσ48 hP hS => ?_)
              refine lv_aload_n hx hb dX12_rule_182 rfl (lv_at hl 3 rfl) ?_
              refine va_get (D := D) hx hb hts inlX12 hown hK hP 55 (jc_55 cI cL ad σ48 τ) rfl 32 (by decide) (hts _ kw_25_1) (fun _ h9 => h9) rfl dX12_rule_183 ?_
              have m49 : σ48 55 32 = 1 := (by rw [eσ48]; exact jup_s)
              refine jtopr m49 ?_
              refine lv_iconst (v := 1) hx hb dX12_rule_186 (by decide) ?_
              refine lv_isub hx hb dX12_rule_187 ?_
              refine jtopr (y := 0) (by decide) ?_
              exact hret 0 σ48 τ _ _ _ _ rfl ⟨trivial, (by (repeat' split) <;> first | rfl | omega | exact jsame jz_0 t1 (by omega) | exact jsame jz_0 t2 (by omega) | exact jsame jz_0 t3 (by omega) | (exfalso; omega))⟩ hP hS dX12_rule_188
            · have kc36 := jnle c36 tx35 jz_0
              refine lv_iload hx hb dX12_rule_49 (lv_at hl 0 rfl) ?_
              refine lv_bipush (v := 10) hx hb dX12_rule_51 (by decide) ?_
              refine lv_irem hx hb dX12_rule_53 (by decide) ?_
              refine lv_topi (fun x50 ex50 => ?_)
              have tx50 : x50.toInt = (((A2 / 10)) % 10) := jrem ex50 tx35 jz_10 (by omega)
              refine lv_i2l (v := x50.toInt64) hx hb dX12_rule_54 rfl ?_
              refine lv_lconst (v := 1) hx hb dX12_rule_55 (by decide) ?_
              refine lv_ldc2 (v := 4) hx hb hown (hts _ kw_13_5) dX12_rule_56 ?_
              refine jcallS (As := [.long x50.toInt64, .long 1, .long 4]) (rest := []) ⟨hx, hb, hml, hown, hts⟩ hK hP hA hS (c_X12_within l D cI cL ad hJ σ τ x50.toInt64 ((((A2 / 10)) % 10)) (jtoL tx50) 1 (1) jzl_1 4 (4) jzl_4) cw_RX12_136 ⟨Nat.le_of_ble_eq_true rfl, Nat.le_of_ble_eq_true rfl⟩ rfl rfl rfl hl.1 rfl (Nat.le_of_ble_eq_true rfl) dX12_rule_59 ⟨Nat.zero_le _, Nat.zero_le _⟩ (fun r52 σ51 τ51 H locs h51 hP hS => ?_)
              obtain ⟨⟨rfl, rfl⟩, h51⟩ := h51
              rcases h51 with h53 | h54
              · obtain ⟨q56, k55⟩ := h53
                have q56 := q56.symm
                subst q56
                refine lv_if_ne (tgt := 67) hx hb dX12_rule_62 (by decide) (fun _ => ?_) (fun c => absurd c (by decide))
                refine lv_iinc (v := 2) (lv' := [(4, .int 2), (5, .int x35), (0, .ref (ad 55)), (1, .int a1), (2, .int a2), (3, .int a3)]) hx hb dX12_rule_67 hl (k := 1) rfl (by decide) (by decide) rfl (fun ls hl => ?_)
                refine lv_iload hx hb dX12_rule_70 (lv_at hl 1 rfl) ?_
                refine lv_bipush (v := 10) hx hb dX12_rule_72 (by decide) ?_
                refine lv_idiv hx hb dX12_rule_74 (by decide) ?_
                refine lv_topi (fun x57 ex57 => ?_)
                have tx57 : x57.toInt = (((A2 / 10)) / 10) := jdiv ex57 tx35 jz_10 (by omega) (by omega)
                refine lv_istore (lv' := [(5, .int x57), (4, .int 2), (0, .ref (ad 55)), (1, .int a1), (2, .int a2), (3, .int a3)]) hx hb dX12_rule_75 hl (by decide) rfl (fun ls hl => ?_)
                refine lv_goto (tgt := 44) hx hb dX12_rule_77 (by decide) ?_
                refine lv_iload hx hb dX12_rule_44 (lv_at hl 0 rfl) ?_
                refine lv_if_le (tgt := 80) hx hb dX12_rule_46 (by decide) (fun c58 => ?_) (fun c58 => ?_)
                · have kc58 := jle c58 tx57 jz_0
                  refine lv_aload_n hx hb dX12_rule_80 rfl (lv_at hl 2 rfl) ?_
                  refine va_get (D := D) hx hb hts inlX12 hown hK hP 55 (jc_55 cI cL ad σ τ) rfl 32 (by decide) (hts _ kw_25_1) (fun _ h9 => h9) rfl dX12_rule_81 ?_
                  refine jtopr h55_32 ?_
                  refine lv_bipush (v := 20) hx hb dX12_rule_84 (by decide) ?_
                  refine lv_icmp_ne (tgt := 92) hx hb dX12_rule_86 (by decide) (fun _ => ?_) (fun c => absurd c (by decide))
                  refine lv_iload_n hx hb dX12_rule_92 rfl (lv_at hl 4 rfl) ?_
                  refine lv_istore (lv' := [(5, .int a2), (4, .int 2), (0, .ref (ad 55)), (1, .int a1), (2, .int a2), (3, .int a3)]) hx hb dX12_rule_93 hl (by decide) rfl (fun ls hl => ?_)
                  refine lv_iload hx hb dX12_rule_95 (lv_at hl 1 rfl) ?_
                  refine lv_iconst (v := 1) hx hb dX12_rule_97 (by decide) ?_
                  refine lv_isub hx hb dX12_rule_98 ?_
                  refine jtopr (y := 1) (by decide) ?_
                  refine lv_istore (lv' := [(6, .int 1), (5, .int a2), (4, .int 2), (0, .ref (ad 55)), (1, .int a1), (2, .int a2), (3, .int a3)]) hx hb dX12_rule_99 hl (by decide) rfl (fun ls hl => ?_)
                  refine lv_iload hx hb dX12_rule_101 (lv_at hl 0 rfl) ?_
                  refine lv_if_lt (tgt := 141) hx hb dX12_rule_103 (by decide) (fun c => absurd c (by decide)) (fun _ => ?_)
                  refine lv_aload_n hx hb dX12_rule_106 rfl (lv_at hl 3 rfl) ?_
                  refine va_get (D := D) hx hb hts inlX12 hown hK hP 55 (jc_55 cI cL ad σ τ) rfl 35 (by decide) (hts _ kw_7_20) (fun _ h9 => h9) rfl dX12_rule_107 ?_
                  refine lv_bipush (v := 8) hx hb dX12_rule_110 (by decide) ?_
                  refine lv_aload_n hx hb dX12_rule_112 rfl (lv_at hl 3 rfl) ?_
                  refine va_get (D := D) hx hb hts inlX12 hown hK hP 55 (jc_55 cI cL ad σ τ) rfl 32 (by decide) (hts _ kw_25_1) (fun _ h9 => h9) rfl dX12_rule_113 ?_
                  refine jtopr h55_32 ?_
                  refine lv_imul hx hb dX12_rule_116 ?_
                  refine jtopr (y := 0) (by decide) ?_
                  refine lv_iload hx hb dX12_rule_117 (lv_at hl 0 rfl) ?_
                  refine lv_iadd hx hb dX12_rule_119 ?_
                  refine jtopr (y := 1) (by decide) ?_
                  refine lv_iload hx hb dX12_rule_120 (lv_at hl 1 rfl) ?_
                  refine lv_bipush (v := 10) hx hb dX12_rule_122 (by decide) ?_
                  refine lv_irem hx hb dX12_rule_124 (by decide) ?_
                  refine lv_topi (fun x59 ex59 => ?_)
                  have tx59 : x59.toInt = (A2 % 10) := jrem ex59 t2 jz_10 (by omega)
                  refine lv_iconst (v := 1) hx hb dX12_rule_125 (by decide) ?_
                  refine lv_isub hx hb dX12_rule_126 ?_
                  refine lv_topi (fun x60 ex60 => ?_)
                  have tx60 : x60.toInt = (A2 % 10) - 1 := (jsub ex60 tx59 jz_1 (by omega) (by omega)).trans (by omega)
                  refine jast hx hb hK hP hJ hA hS (jc_72 cI cL ad σ τ) (ja_72 cI cL ad σ τ _ _) (jin jz_1 (by omega) (by omega)) dX12_rule_127 (fun σ61 H locs eσ61 hP hS => ?_)
                  have eσ61 : σ61 = jup σ 72 1 x60 := eσ61
                  refine lv_iload hx hb dX12_rule_128 (lv_at hl 1 rfl) ?_
                  refine lv_bipush (v := 10) hx hb dX12_rule_130 (by decide) ?_
                  refine lv_idiv hx hb dX12_rule_132 (by decide) ?_
                  refine lv_topi (fun x62 ex62 => ?_)
                  have tx62 : x62.toInt = (A2 / 10) := jdiv ex62 t2 jz_10 (by omega) (by omega)
                  refine lv_istore (lv' := [(5, .int x62), (6, .int 1), (4, .int 2), (0, .ref (ad 55)), (1, .int a1), (2, .int a2), (3, .int a3)]) hx hb dX12_rule_133 hl (by decide) rfl (fun ls hl => ?_)
                  refine lv_iinc (v := 0) (lv' := [(6, .int 0), (5, .int x62), (4, .int 2), (0, .ref (ad 55)), (1, .int a1), (2, .int a2), (3, .int a3)]) hx hb dX12_rule_135 hl (k := 1) rfl (by decide) (by decide) rfl (fun ls hl => ?_)
                  refine lv_goto (tgt := 101) hx hb dX12_rule_138 (by decide) ?_
                  refine lv_iload hx hb dX12_rule_101 (lv_at hl 0 rfl) ?_
                  refine lv_if_lt (tgt := 141) hx hb dX12_rule_103 (by decide) (fun c => absurd c (by decide)) (fun _ => ?_)
                  refine lv_aload_n hx hb dX12_rule_106 rfl (lv_at hl 3 rfl) ?_
                  refine va_get (D := D) hx hb hts inlX12 hown hK hP 55 (jc_55 cI cL ad σ61 τ) rfl 35 (by decide) (hts _ kw_7_20) (fun _ h9 => h9) rfl dX12_rule_107 ?_
                  refine lv_bipush (v := 8) hx hb dX12_rule_110 (by decide) ?_
                  refine lv_aload_n hx hb dX12_rule_112 rfl (lv_at hl 3 rfl) ?_
                  refine va_get (D := D) hx hb hts inlX12 hown hK hP 55 (jc_55 cI cL ad σ61 τ) rfl 32 (by decide) (hts _ kw_25_1) (fun _ h9 => h9) rfl dX12_rule_113 ?_
                  have m63 : σ61 55 32 = 0 := (by rw [eσ61, jup_n (by decide)]; exact h55_32)
                  refine jtopr m63 ?_
                  refine lv_imul hx hb dX12_rule_116 ?_
                  refine jtopr (y := 0) (by decide) ?_
                  refine lv_iload hx hb dX12_rule_117 (lv_at hl 0 rfl) ?_
                  refine lv_iadd hx hb dX12_rule_119 ?_
                  refine jtopr (y := 0) (by decide) ?_
                  refine lv_iload hx hb dX12_rule_120 (lv_at hl 1 rfl) ?_
                  refine lv_bipush (v := 10) hx hb dX12_rule_122 (by decide) ?_
                  refine lv_irem hx hb dX12_rule_124 (by decide) ?_
                  refine lv_topi (fun x64 ex64 => ?_)
                  have tx64 : x64.toInt = (((A2 / 10)) % 10) := jrem ex64 tx62 jz_10 (by omega)
                  refine lv_iconst (v := 1) hx hb dX12_rule_125 (by decide) ?_
                  refine lv_isub hx hb dX12_rule_126 ?_
                  refine lv_topi (fun x65 ex65 => ?_)
                  have tx65 : x65.toInt = (((A2 / 10)) % 10) - 1 := (jsub ex65 tx64 jz_1 (by omega) (by omega)).trans (by omega)
                  refine jast hx hb hK hP hJ hA hS (jc_72 cI cL ad σ61 τ) (ja_72 cI cL ad σ61 τ _ _) (jin jz_0 (by omega) (by omega)) dX12_rule_127 (fun σ66 H locs eσ66 hP hS => ?_)
                  have eσ66 : σ66 = jup σ61 72 0 x65 := eσ66
                  refine lv_iload hx hb dX12_rule_128 (lv_at hl 1 rfl) ?_
                  refine lv_bipush (v := 10) hx hb dX12_rule_130 (by decide) ?_
                  refine lv_idiv hx hb dX12_rule_132 (by decide) ?_
                  refine lv_topi (fun x67 ex67 => ?_)
                  have tx67 : x67.toInt = (((A2 / 10)) / 10) := jdiv ex67 tx62 jz_10 (by omega) (by omega)
                  refine lv_istore (lv' := [(5, .int x67), (6, .int 0), (4, .int 2), (0, .ref (ad 55)), (1, .int a1), (2, .int a2), (3, .int a3)]) hx hb dX12_rule_133 hl (by decide) rfl (fun ls hl => ?_)
                  refine lv_iinc (v := (-1)) (lv' := [(6, .int (-1)), (5, .int x67), (4, .int 2), (0, .ref (ad 55)), (1, .int a1), (2, .int a2), (3, .int a3)]) hx hb dX12_rule_135 hl (k := 1) rfl (by decide) (by decide) rfl (fun ls hl => ?_)
                  refine lv_goto (tgt := 101) hx hb dX12_rule_138 (by decide) ?_
                  refine lv_iload hx hb dX12_rule_101 (lv_at hl 0 rfl) ?_
                  refine lv_if_lt (tgt := 141) hx hb dX12_rule_103 (by decide) (fun _ => ?_) (fun c => absurd (by decide) c)
                  refine lv_aload_n hx hb dX12_rule_141 rfl (lv_at hl 3 rfl) ?_
                  refine va_get (D := D) hx hb hts inlX12 hown hK hP 55 (jc_55 cI cL ad σ66 τ) rfl 33 (by decide) (hts _ kw_7_18) (fun _ h9 => h9) rfl dX12_rule_142 ?_
                  refine lv_aload_n hx hb dX12_rule_145 rfl (lv_at hl 3 rfl) ?_
                  refine va_get (D := D) hx hb hts inlX12 hown hK hP 55 (jc_55 cI cL ad σ66 τ) rfl 32 (by decide) (hts _ kw_25_1) (fun _ h9 => h9) rfl dX12_rule_146 ?_
                  have m68 : σ66 55 32 = 0 := (by rw [eσ66, jup_n (by decide)]; exact m63)
                  refine jtopr m68 ?_
                  refine lv_iload_n hx hb dX12_rule_149 rfl (lv_at hl 4 rfl) ?_
                  refine jast hx hb hK hP hJ hA hS (jc_70 cI cL ad σ66 τ) (ja_70 cI cL ad σ66 τ _ _) (jin jz_0 (by omega) (by omega)) dX12_rule_150 (fun σ69 H locs eσ69 hP hS => ?_)
                  have eσ69 : σ69 = jup σ66 70 0 a1 := eσ69
                  refine lv_aload_n hx hb dX12_rule_151 rfl (lv_at hl 3 rfl) ?_
                  refine va_get (D := D) hx hb hts inlX12 hown hK hP 55 (jc_55 cI cL ad σ69 τ) rfl 34 (by decide) (hts _ kw_7_19) (fun _ h9 => h9) rfl dX12_rule_152 ?_
                  refine lv_aload_n hx hb dX12_rule_155 rfl (lv_at hl 3 rfl) ?_
                  refine va_get (D := D) hx hb hts inlX12 hown hK hP 55 (jc_55 cI cL ad σ69 τ) rfl 32 (by decide) (hts _ kw_25_1) (fun _ h9 => h9) rfl dX12_rule_156 ?_
                  have m70 : σ69 55 32 = 0 := (by rw [eσ69, jup_n (by decide)]; exact m68)
                  refine jtopr m70 ?_
                  refine lv_iload hx hb dX12_rule_159 (lv_at hl 2 rfl) ?_
                  refine jast hx hb hK hP hJ hA hS (jc_71 cI cL ad σ69 τ) (ja_71 cI cL ad σ69 τ _ _) (jin jz_0 (by omega) (by omega)) dX12_rule_161 (fun σ71 H locs eσ71 hP hS => ?_)
                  have eσ71 : σ71 = jup σ69 71 0 2 := eσ71
                  refine lv_aload_n hx hb dX12_rule_162 rfl (lv_at hl 3 rfl) ?_
                  refine va_get (D := D) hx hb hts inlX12 hown hK hP 55 (jc_55 cI cL ad σ71 τ) rfl 36 (by decide) (hts _ kw_7_21) (fun _ h9 => h9) rfl dX12_rule_163 ?_
                  refine lv_aload_n hx hb dX12_rule_166 rfl (lv_at hl 3 rfl) ?_
                  refine va_get (D := D) hx hb hts inlX12 hown hK hP 55 (jc_55 cI cL ad σ71 τ) rfl 32 (by decide) (hts _ kw_25_1) (fun _ h9 => h9) rfl dX12_rule_167 ?_
                  have m72 : σ71 55 32 = 0 := (by rw [eσ71, jup_n (by decide)]; exact m70)
                  refine jtopr m72 ?_
                  refine lv_iload_n hx hb dX12_rule_170 rfl (lv_at hl 6 rfl) ?_
                  refine jast hx hb hK hP hJ hA hS (jc_73 cI cL ad σ71 τ) (ja_73 cI cL ad σ71 τ _ _) (jin jz_0 (by omega) (by omega)) dX12_rule_171 (fun σ73 H locs eσ73 hP hS => ?_)
                  have eσ73 : σ73 = jup σ71 73 0 a3 := eσ73
                  refine lv_aload_n hx hb dX12_rule_172 rfl (lv_at hl 3 rfl) ?_
                  refine lv_dup hx hb dX12_rule_173 rfl ?_
                  refine va_get (D := D) hx hb hts inlX12 hown hK hP 55 (jc_55 cI cL ad σ73 τ) rfl 32 (by decide) (hts _ kw_25_1) (fun _ h9 => h9) rfl dX12_rule_174 ?_
                  have m74 : σ73 55 32 = 0 := (by rw [eσ73, jup_n (by decide)]; exact m72)
                  refine jtopr m74 ?_
                  refine lv_iconst (v := 1) hx hb dX12_rule_177 (by decide) ?_
                  refine lv_iadd hx hb dX12_rule_178 ?_
                  refine jtopr (y := 1) (by decide) ?_
                  refine jput (ty := .int) hx hb hts inlX12 tyX12 tyX12_ok nmX12 hown hK hP hJ hA hS (jc_55 cI cL ad σ73 τ) rfl (k := 32) (by decide) (Nat.le_of_ble_eq_true rfl) (jp_55_32 cI cL ad σ73 τ 1) (hts _ kw_25_1) (fun _ h9 => h9) rfl (by decide +kernel) rfl rfl dX12_rule_179 (fun σ75 H locs eσ75 hP hS => ?_)
                  refine lv_aload_n hx hb dX12_rule_182 rfl (lv_at hl 3 rfl) ?_
                  refine va_get (D := D) hx hb hts inlX12 hown hK hP 55 (jc_55 cI cL ad σ75 τ) rfl 32 (by decide) (hts _ kw_25_1) (fun _ h9 => h9) rfl dX12_rule_183 ?_
                  have m76 : σ75 55 32 = 1 := (by rw [eσ75]; exact jup_s)
                  refine jtopr m76 ?_
                  refine lv_iconst (v := 1) hx hb dX12_rule_186 (by decide) ?_
                  refine lv_isub hx hb dX12_rule_187 ?_
                  refine jtopr (y := 0) (by decide) ?_
                  exact hret 0 σ75 τ _ _ _ _ rfl ⟨trivial, (by (repeat' split) <;> first | rfl | omega | exact jsame jz_0 t1 (by omega) | exact jsame jz_0 t2 (by omega) | exact jsame jz_0 t3 (by omega) | (exfalso; omega))⟩ hP hS dX12_rule_188
                · have kc58 := jnle c58 tx57 jz_0
                  refine lv_iload hx hb dX12_rule_49 (lv_at hl 0 rfl) ?_
                  refine lv_bipush (v := 10) hx hb dX12_rule_51 (by decide) ?_
                  refine lv_irem hx hb dX12_rule_53 (by decide) ?_
                  refine lv_topi (fun x77 ex77 => ?_)
                  have tx77 : x77.toInt = (((((A2 / 10)) / 10)) % 10) := jrem ex77 tx57 jz_10 (by omega)
                  refine lv_i2l (v := x77.toInt64) hx hb dX12_rule_54 rfl ?_
                  refine lv_lconst (v := 1) hx hb dX12_rule_55 (by decide) ?_
                  refine lv_ldc2 (v := 4) hx hb hown (hts _ kw_13_5) dX12_rule_56 ?_
                  refine jcallS (As := [.long x77.toInt64, .long 1, .long 4]) (rest := []) ⟨hx, hb, hml, hown, hts⟩ hK hP hA hS (c_X12_within l D cI cL ad hJ σ τ x77.toInt64 ((((((A2 / 10)) / 10)) % 10)) (jtoL tx77) 1 (1) jzl_1 4 (4) jzl_4) cw_RX12_136 ⟨Nat.le_of_ble_eq_true rfl, Nat.le_of_ble_eq_true rfl⟩ rfl rfl rfl hl.1 rfl (Nat.le_of_ble_eq_true rfl) dX12_rule_59 ⟨Nat.zero_le _, Nat.zero_le _⟩ (fun r79 σ78 τ78 H locs h78 hP hS => ?_)
                  obtain ⟨⟨rfl, rfl⟩, h78⟩ := h78
                  rcases h78 with h80 | h81
                  · obtain ⟨q83, k82⟩ := h80
                    have q83 := q83.symm
                    subst q83
                    refine lv_if_ne (tgt := 67) hx hb dX12_rule_62 (by decide) (fun _ => ?_) (fun c => absurd c (by decide))
                    refine lv_iinc (v := 3) (lv' := [(4, .int 3), (5, .int x57), (0, .ref (ad 55)), (1, .int a1), (2, .int a2), (3, .int a3)]) hx hb dX12_rule_67 hl (k := 1) rfl (by decide) (by decide) rfl (fun ls hl => ?_)
                    refine lv_iload hx hb dX12_rule_70 (lv_at hl 1 rfl) ?_
                    refine lv_bipush (v := 10) hx hb dX12_rule_72 (by decide) ?_
                    refine lv_idiv hx hb dX12_rule_74 (by decide) ?_
                    refine lv_topi (fun x84 ex84 => ?_)
                    have tx84 : x84.toInt = (((((A2 / 10)) / 10)) / 10) := jdiv ex84 tx57 jz_10 (by omega) (by omega)
                    refine lv_istore (lv' := [(5, .int x84), (4, .int 3), (0, .ref (ad 55)), (1, .int a1), (2, .int a2), (3, .int a3)]) hx hb dX12_rule_75 hl (by decide) rfl (fun ls hl => ?_)
                    refine lv_goto (tgt := 44) hx hb dX12_rule_77 (by decide) ?_
                    refine lv_iload hx hb dX12_rule_44 (lv_at hl 0 rfl) ?_
                    refine lv_if_le (tgt := 80) hx hb dX12_rule_46 (by decide) (fun c85 => ?_) (fun c85 => ?_)
                    · have kc85 := jle c85 tx84 jz_0
                      refine lv_aload_n hx hb dX12_rule_80 rfl (lv_at hl 2 rfl) ?_
                      refine va_get (D := D) hx hb hts inlX12 hown hK hP 55 (jc_55 cI cL ad σ τ) rfl 32 (by decide) (hts _ kw_25_1) (fun _ h9 => h9) rfl dX12_rule_81 ?_
                      refine jtopr h55_32 ?_
                      refine lv_bipush (v := 20) hx hb dX12_rule_84 (by decide) ?_
                      refine lv_icmp_ne (tgt := 92) hx hb dX12_rule_86 (by decide) (fun _ => ?_) (fun c => absurd c (by decide))
                      refine lv_iload_n hx hb dX12_rule_92 rfl (lv_at hl 4 rfl) ?_
                      refine lv_istore (lv' := [(5, .int a2), (4, .int 3), (0, .ref (ad 55)), (1, .int a1), (2, .int a2), (3, .int a3)]) hx hb dX12_rule_93 hl (by decide) rfl (fun ls hl => ?_)
                      refine lv_iload hx hb dX12_rule_95 (lv_at hl 1 rfl) ?_
                      refine lv_iconst (v := 1) hx hb dX12_rule_97 (by decide) ?_
                      refine lv_isub hx hb dX12_rule_98 ?_
                      refine jtopr (y := 2) (by decide) ?_
                      refine lv_istore (lv' := [(6, .int 2), (5, .int a2), (4, .int 3), (0, .ref (ad 55)), (1, .int a1), (2, .int a2), (3, .int a3)]) hx hb dX12_rule_99 hl (by decide) rfl (fun ls hl => ?_)
                      refine lv_iload hx hb dX12_rule_101 (lv_at hl 0 rfl) ?_
                      refine lv_if_lt (tgt := 141) hx hb dX12_rule_103 (by decide) (fun c => absurd c (by decide)) (fun _ => ?_)
                      refine lv_aload_n hx hb dX12_rule_106 rfl (lv_at hl 3 rfl) ?_
                      refine va_get (D := D) hx hb hts inlX12 hown hK hP 55 (jc_55 cI cL ad σ τ) rfl 35 (by decide) (hts _ kw_7_20) (fun _ h9 => h9) rfl dX12_rule_107 ?_
                      refine lv_bipush (v := 8) hx hb dX12_rule_110 (by decide) ?_
                      refine lv_aload_n hx hb dX12_rule_112 rfl (lv_at hl 3 rfl) ?_
                      refine va_get (D := D) hx hb hts inlX12 hown hK hP 55 (jc_55 cI cL ad σ τ) rfl 32 (by decide) (hts _ kw_25_1) (fun _ h9 => h9) rfl dX12_rule_113 ?_
                      refine jtopr h55_32 ?_
                      refine lv_imul hx hb dX12_rule_116 ?_
                      refine jtopr (y := 0) (by decide) ?_
                      refine lv_iload hx hb dX12_rule_117 (lv_at hl 0 rfl) ?_
                      refine lv_iadd hx hb dX12_rule_119 ?_
                      refine jtopr (y := 2) (by decide) ?_
                      refine lv_iload hx hb dX12_rule_120 (lv_at hl 1 rfl) ?_
                      refine lv_bipush (v := 10) hx hb dX12_rule_122 (by decide) ?_
                      refine lv_irem hx hb dX12_rule_124 (by decide) ?_
                      refine lv_topi (fun x86 ex86 => ?_)
                      have tx86 : x86.toInt = (A2 % 10) := jrem ex86 t2 jz_10 (by omega)
                      refine lv_iconst (v := 1) hx hb dX12_rule_125 (by decide) ?_
                      refine lv_isub hx hb dX12_rule_126 ?_
                      refine lv_topi (fun x87 ex87 => ?_)
                      have tx87 : x87.toInt = (A2 % 10) - 1 := (jsub ex87 tx86 jz_1 (by omega) (by omega)).trans (by omega)
                      refine jast hx hb hK hP hJ hA hS (jc_72 cI cL ad σ τ) (ja_72 cI cL ad σ τ _ _) (jin jz_2 (by omega) (by omega)) dX12_rule_127 (fun σ88 H locs eσ88 hP hS => ?_)
                      have eσ88 : σ88 = jup σ 72 2 x87 := eσ88
                      refine lv_iload hx hb dX12_rule_128 (lv_at hl 1 rfl) ?_
                      refine lv_bipush (v := 10) hx hb dX12_rule_130 (by decide) ?_
                      refine lv_idiv hx hb dX12_rule_132 (by decide) ?_
                      refine lv_topi (fun x89 ex89 => ?_)
                      have tx89 : x89.toInt = (A2 / 10) := jdiv ex89 t2 jz_10 (by omega) (by omega)
                      refine lv_istore (lv' := [(5, .int x89), (6, .int 2), (4, .int 3), (0, .ref (ad 55)), (1, .int a1), (2, .int a2), (3, .int a3)]) hx hb dX12_rule_133 hl (by decide) rfl (fun ls hl => ?_)
                      refine lv_iinc (v := 1) (lv' := [(6, .int 1), (5, .int x89), (4, .int 3), (0, .ref (ad 55)), (1, .int a1), (2, .int a2), (3, .int a3)]) hx hb dX12_rule_135 hl (k := 1) rfl (by decide) (by decide) rfl (fun ls hl => ?_)
                      refine lv_goto (tgt := 101) hx hb dX12_rule_138 (by decide) ?_
                      refine lv_iload hx hb dX12_rule_101 (lv_at hl 0 rfl) ?_
                      refine lv_if_lt (tgt := 141) hx hb dX12_rule_103 (by decide) (fun c => absurd c (by decide)) (fun _ => ?_)
                      refine lv_aload_n hx hb dX12_rule_106 rfl (lv_at hl 3 rfl) ?_
                      refine va_get (D := D) hx hb hts inlX12 hown hK hP 55 (jc_55 cI cL ad σ88 τ) rfl 35 (by decide) (hts _ kw_7_20) (fun _ h9 => h9) rfl dX12_rule_107 ?_
                      refine lv_bipush (v := 8) hx hb dX12_rule_110 (by decide) ?_
                      refine lv_aload_n hx hb dX12_rule_112 rfl (lv_at hl 3 rfl) ?_
                      refine va_get (D := D) hx hb hts inlX12 hown hK hP 55 (jc_55 cI cL ad σ88 τ) rfl 32 (by decide) (hts _ kw_25_1) (fun _ h9 => h9) rfl dX12_rule_113 ?_
                      have m90 : σ88 55 32 = 0 := (by rw [eσ88, jup_n (by decide)]; exact h55_32)
                      refine jtopr m90 ?_
                      refine lv_imul hx hb dX12_rule_116 ?_
                      refine jtopr (y := 0) (by decide) ?_
                      refine lv_iload hx hb dX12_rule_117 (lv_at hl 0 rfl) ?_
                      refine lv_iadd hx hb dX12_rule_119 ?_
                      refine jtopr (y := 1) (by decide) ?_
                      refine lv_iload hx hb dX12_rule_120 (lv_at hl 1 rfl) ?_
                      refine lv_bipush (v := 10) hx hb dX12_rule_122 (by decide) ?_
                      refine lv_irem hx hb dX12_rule_124 (by decide) ?_
                      refine lv_topi (fun x91 ex91 => ?_)
                      have tx91 : x91.toInt = (((A2 / 10)) % 10) := jrem ex91 tx89 jz_10 (by omega)
                      refine lv_iconst (v := 1) hx hb dX12_rule_125 (by decide) ?_
                      refine lv_isub hx hb dX12_rule_126 ?_
                      refine lv_topi (fun x92 ex92 => ?_)
                      have tx92 : x92.toInt = (((A2 / 10)) % 10) - 1 := (jsub ex92 tx91 jz_1 (by omega) (by omega)).trans (by omega)
                      refine jast hx hb hK hP hJ hA hS (jc_72 cI cL ad σ88 τ) (ja_72 cI cL ad σ88 τ _ _) (jin jz_1 (by omega) (by omega)) dX12_rule_127 (fun σ93 H locs eσ93 hP hS => ?_)
                      have eσ93 : σ93 = jup σ88 72 1 x92 := eσ93
                      refine lv_iload hx hb dX12_rule_128 (lv_at hl 1 rfl) ?_
                      refine lv_bipush (v := 10) hx hb dX12_rule_130 (by decide) ?_
                      refine lv_idiv hx hb dX12_rule_132 (by decide) ?_
                      refine lv_topi (fun x94 ex94 => ?_)
                      have tx94 : x94.toInt = (((A2 / 10)) / 10) := jdiv ex94 tx89 jz_10 (by omega) (by omega)
                      refine lv_istore (lv' := [(5, .int x94), (6, .int 1), (4, .int 3), (0, .ref (ad 55)), (1, .int a1), (2, .int a2), (3, .int a3)]) hx hb dX12_rule_133 hl (by decide) rfl (fun ls hl => ?_)
                      refine lv_iinc (v := 0) (lv' := [(6, .int 0), (5, .int x94), (4, .int 3), (0, .ref (ad 55)), (1, .int a1), (2, .int a2), (3, .int a3)]) hx hb dX12_rule_135 hl (k := 1) rfl (by decide) (by decide) rfl (fun ls hl => ?_)
                      refine lv_goto (tgt := 101) hx hb dX12_rule_138 (by decide) ?_
                      refine lv_iload hx hb dX12_rule_101 (lv_at hl 0 rfl) ?_
                      refine lv_if_lt (tgt := 141) hx hb dX12_rule_103 (by decide) (fun c => absurd c (by decide)) (fun _ => ?_)
                      refine lv_aload_n hx hb dX12_rule_106 rfl (lv_at hl 3 rfl) ?_
                      refine va_get (D := D) hx hb hts inlX12 hown hK hP 55 (jc_55 cI cL ad σ93 τ) rfl 35 (by decide) (hts _ kw_7_20) (fun _ h9 => h9) rfl dX12_rule_107 ?_
                      refine lv_bipush (v := 8) hx hb dX12_rule_110 (by decide) ?_
                      refine lv_aload_n hx hb dX12_rule_112 rfl (lv_at hl 3 rfl) ?_
                      refine va_get (D := D) hx hb hts inlX12 hown hK hP 55 (jc_55 cI cL ad σ93 τ) rfl 32 (by decide) (hts _ kw_25_1) (fun _ h9 => h9) rfl dX12_rule_113 ?_
                      have m95 : σ93 55 32 = 0 := (by rw [eσ93, jup_n (by decide)]; exact m90)
                      refine jtopr m95 ?_
                      refine lv_imul hx hb dX12_rule_116 ?_
                      refine jtopr (y := 0) (by decide) ?_
                      refine lv_iload hx hb dX12_rule_117 (lv_at hl 0 rfl) ?_
                      refine lv_iadd hx hb dX12_rule_119 ?_
                      refine jtopr (y := 0) (by decide) ?_
                      refine lv_iload hx hb dX12_rule_120 (lv_at hl 1 rfl) ?_
                      refine lv_bipush (v := 10) hx hb dX12_rule_122 (by decide) ?_
                      refine lv_irem hx hb dX12_rule_124 (by decide) ?_
                      refine lv_topi (fun x96 ex96 => ?_)
                      have tx96 : x96.toInt = (((((A2 / 10)) / 10)) % 10) := jrem ex96 tx94 jz_10 (by omega)
                      refine lv_iconst (v := 1) hx hb dX12_rule_125 (by decide) ?_
                      refine lv_isub hx hb dX12_rule_126 ?_
                      refine lv_topi (fun x97 ex97 => ?_)
                      have tx97 : x97.toInt = (((((A2 / 10)) / 10)) % 10) - 1 := (jsub ex97 tx96 jz_1 (by omega) (by omega)).trans (by omega)
                      refine jast hx hb hK hP hJ hA hS (jc_72 cI cL ad σ93 τ) (ja_72 cI cL ad σ93 τ _ _) (jin jz_0 (by omega) (by omega)) dX12_rule_127 (fun σ98 H locs eσ98 hP hS => ?_)
                      have eσ98 : σ98 = jup σ93 72 0 x97 := eσ98
                      refine lv_iload hx hb dX12_rule_128 (lv_at hl 1 rfl) ?_
                      refine lv_bipush (v := 10) hx hb dX12_rule_130 (by decide) ?_
                      refine lv_idiv hx hb dX12_rule_132 (by decide) ?_
                      refine lv_topi (fun x99 ex99 => ?_)
                      have tx99 : x99.toInt = (((((A2 / 10)) / 10)) / 10) := jdiv ex99 tx94 jz_10 (by omega) (by omega)
                      refine lv_istore (lv' := [(5, .int x99), (6, .int 0), (4, .int 3), (0, .ref (ad 55)), (1, .int a1), (2, .int a2), (3, .int a3)]) hx hb dX12_rule_133 hl (by decide) rfl (fun ls hl => ?_)
                      refine lv_iinc (v := (-1)) (lv' := [(6, .int (-1)), (5, .int x99), (4, .int 3), (0, .ref (ad 55)), (1, .int a1), (2, .int a2), (3, .int a3)]) hx hb dX12_rule_135 hl (k := 1) rfl (by decide) (by decide) rfl (fun ls hl => ?_)
                      refine lv_goto (tgt := 101) hx hb dX12_rule_138 (by decide) ?_
                      refine lv_iload hx hb dX12_rule_101 (lv_at hl 0 rfl) ?_
                      refine lv_if_lt (tgt := 141) hx hb dX12_rule_103 (by decide) (fun _ => ?_) (fun c => absurd (by decide) c)
                      refine lv_aload_n hx hb dX12_rule_141 rfl (lv_at hl 3 rfl) ?_
                      refine va_get (D := D) hx hb hts inlX12 hown hK hP 55 (jc_55 cI cL ad σ98 τ) rfl 33 (by decide) (hts _ kw_7_18) (fun _ h9 => h9) rfl dX12_rule_142 ?_
                      refine lv_aload_n hx hb dX12_rule_145 rfl (lv_at hl 3 rfl) ?_
                      refine va_get (D := D) hx hb hts inlX12 hown hK hP 55 (jc_55 cI cL ad σ98 τ) rfl 32 (by decide) (hts _ kw_25_1) (fun _ h9 => h9) rfl dX12_rule_146 ?_
                      have m100 : σ98 55 32 = 0 := (by rw [eσ98, jup_n (by decide)]; exact m95)
                      refine jtopr m100 ?_
                      refine lv_iload_n hx hb dX12_rule_149 rfl (lv_at hl 4 rfl) ?_
                      refine jast hx hb hK hP hJ hA hS (jc_70 cI cL ad σ98 τ) (ja_70 cI cL ad σ98 τ _ _) (jin jz_0 (by omega) (by omega)) dX12_rule_150 (fun σ101 H locs eσ101 hP hS => ?_)
                      have eσ101 : σ101 = jup σ98 70 0 a1 := eσ101
                      refine lv_aload_n hx hb dX12_rule_151 rfl (lv_at hl 3 rfl) ?_
                      refine va_get (D := D) hx hb hts inlX12 hown hK hP 55 (jc_55 cI cL ad σ101 τ) rfl 34 (by decide) (hts _ kw_7_19) (fun _ h9 => h9) rfl dX12_rule_152 ?_
                      refine lv_aload_n hx hb dX12_rule_155 rfl (lv_at hl 3 rfl) ?_
                      refine va_get (D := D) hx hb hts inlX12 hown hK hP 55 (jc_55 cI cL ad σ101 τ) rfl 32 (by decide) (hts _ kw_25_1) (fun _ h9 => h9) rfl dX12_rule_156 ?_
                      have m102 : σ101 55 32 = 0 := (by rw [eσ101, jup_n (by decide)]; exact m100)
                      refine jtopr m102 ?_
                      refine lv_iload hx hb dX12_rule_159 (lv_at hl 2 rfl) ?_
                      refine jast hx hb hK hP hJ hA hS (jc_71 cI cL ad σ101 τ) (ja_71 cI cL ad σ101 τ _ _) (jin jz_0 (by omega) (by omega)) dX12_rule_161 (fun σ103 H locs eσ103 hP hS => ?_)
                      have eσ103 : σ103 = jup σ101 71 0 3 := eσ103
                      refine lv_aload_n hx hb dX12_rule_162 rfl (lv_at hl 3 rfl) ?_
                      refine va_get (D := D) hx hb hts inlX12 hown hK hP 55 (jc_55 cI cL ad σ103 τ) rfl 36 (by decide) (hts _ kw_7_21) (fun _ h9 => h9) rfl dX12_rule_163 ?_
                      refine lv_aload_n hx hb dX12_rule_166 rfl (lv_at hl 3 rfl) ?_
                      refine va_get (D := D) hx hb hts inlX12 hown hK hP 55 (jc_55 cI cL ad σ103 τ) rfl 32 (by decide) (hts _ kw_25_1) (fun _ h9 => h9) rfl dX12_rule_167 ?_
                      have m104 : σ103 55 32 = 0 := (by rw [eσ103, jup_n (by decide)]; exact m102)
                      refine jtopr m104 ?_
                      refine lv_iload_n hx hb dX12_rule_170 rfl (lv_at hl 6 rfl) ?_
                      refine jast hx hb hK hP hJ hA hS (jc_73 cI cL ad σ103 τ) (ja_73 cI cL ad σ103 τ _ _) (jin jz_0 (by omega) (by omega)) dX12_rule_171 (fun σ105 H locs eσ105 hP hS => ?_)
                      have eσ105 : σ105 = jup σ103 73 0 a3 := eσ105
                      refine lv_aload_n hx hb dX12_rule_172 rfl (lv_at hl 3 rfl) ?_
                      refine lv_dup hx hb dX12_rule_173 rfl ?_
                      refine va_get (D := D) hx hb hts inlX12 hown hK hP 55 (jc_55 cI cL ad σ105 τ) rfl 32 (by decide) (hts _ kw_25_1) (fun _ h9 => h9) rfl dX12_rule_174 ?_
                      have m106 : σ105 55 32 = 0 := (by rw [eσ105, jup_n (by decide)]; exact m104)
                      refine jtopr m106 ?_
                      refine lv_iconst (v := 1) hx hb dX12_rule_177 (by decide) ?_
                      refine lv_iadd hx hb dX12_rule_178 ?_
                      refine jtopr (y := 1) (by decide) ?_
                      refine jput (ty := .int) hx hb hts inlX12 tyX12 tyX12_ok nmX12 hown hK hP hJ hA hS (jc_55 cI cL ad σ105 τ) rfl (k := 32) (by decide) (Nat.le_of_ble_eq_true rfl) (jp_55_32 cI cL ad σ105 τ 1) (hts _ kw_25_1) (fun _ h9 => h9) rfl (by decide +kernel) rfl rfl dX12_rule_179 (fun σ107 H locs eσ107 hP hS => ?_)
                      refine lv_aload_n hx hb dX12_rule_182 rfl (lv_at hl 3 rfl) ?_
                      refine va_get (D := D) hx hb hts inlX12 hown hK hP 55 (jc_55 cI cL ad σ107 τ) rfl 32 (by decide) (hts _ kw_25_1) (fun _ h9 => h9) rfl dX12_rule_183 ?_
                      have m108 : σ107 55 32 = 1 := (by rw [eσ107]; exact jup_s)
                      refine jtopr m108 ?_
                      refine lv_iconst (v := 1) hx hb dX12_rule_186 (by decide) ?_
                      refine lv_isub hx hb dX12_rule_187 ?_
                      refine jtopr (y := 0) (by decide) ?_
                      exact hret 0 σ107 τ _ _ _ _ rfl ⟨trivial, (by (repeat' split) <;> first | rfl | omega | exact jsame jz_0 t1 (by omega) | exact jsame jz_0 t2 (by omega) | exact jsame jz_0 t3 (by omega) | (exfalso; omega))⟩ hP hS dX12_rule_188
                    · have kc85 := jnle c85 tx84 jz_0
                      refine lv_iload hx hb dX12_rule_49 (lv_at hl 0 rfl) ?_
                      refine lv_bipush (v := 10) hx hb dX12_rule_51 (by decide) ?_
                      refine lv_irem hx hb dX12_rule_53 (by decide) ?_
                      refine lv_topi (fun x109 ex109 => ?_)
                      have tx109 : x109.toInt = (((((((A2 / 10)) / 10)) / 10)) % 10) := jrem ex109 tx84 jz_10 (by omega)
                      refine lv_i2l (v := x109.toInt64) hx hb dX12_rule_54 rfl ?_
                      refine lv_lconst (v := 1) hx hb dX12_rule_55 (by decide) ?_
                      refine lv_ldc2 (v := 4) hx hb hown (hts _ kw_13_5) dX12_rule_56 ?_
                      refine jcallS (As := [.long x109.toInt64, .long 1, .long 4]) (rest := []) ⟨hx, hb, hml, hown, hts⟩ hK hP hA hS (c_X12_within l D cI cL ad hJ σ τ x109.toInt64 ((((((((A2 / 10)) / 10)) / 10)) % 10)) (jtoL tx109) 1 (1) jzl_1 4 (4) jzl_4) cw_RX12_136 ⟨Nat.le_of_ble_eq_true rfl, Nat.le_of_ble_eq_true rfl⟩ rfl rfl rfl hl.1 rfl (Nat.le_of_ble_eq_true rfl) dX12_rule_59 ⟨Nat.zero_le _, Nat.zero_le _⟩ (fun r111 σ110 τ110 H locs h110 hP hS => ?_)
                      obtain ⟨⟨rfl, rfl⟩, h110⟩ := h110
                      rcases h110 with h112 | h113
                      · obtain ⟨q115, k114⟩ := h112
                        have q115 := q115.symm
                        subst q115
                        refine lv_if_ne (tgt := 67) hx hb dX12_rule_62 (by decide) (fun _ => ?_) (fun c => absurd c (by decide))
                        refine lv_iinc (v := 4) (lv' := [(4, .int 4), (5, .int x84), (0, .ref (ad 55)), (1, .int a1), (2, .int a2), (3, .int a3)]) hx hb dX12_rule_67 hl (k := 1) rfl (by decide) (by decide) rfl (fun ls hl => ?_)
                        refine lv_iload hx hb dX12_rule_70 (lv_at hl 1 rfl) ?_
                        refine lv_bipush (v := 10) hx hb dX12_rule_72 (by decide) ?_
                        refine lv_idiv hx hb dX12_rule_74 (by decide) ?_
                        refine lv_topi (fun x116 ex116 => ?_)
                        have tx116 : x116.toInt = (((((((A2 / 10)) / 10)) / 10)) / 10) := jdiv ex116 tx84 jz_10 (by omega) (by omega)
                        refine lv_istore (lv' := [(5, .int x116), (4, .int 4), (0, .ref (ad 55)), (1, .int a1), (2, .int a2), (3, .int a3)]) hx hb dX12_rule_75 hl (by decide) rfl (fun ls hl => ?_)
                        refine lv_goto (tgt := 44) hx hb dX12_rule_77 (by decide) ?_
                        refine lv_iload hx hb dX12_rule_44 (lv_at hl 0 rfl) ?_
                        refine lv_if_le (tgt := 80) hx hb dX12_rule_46 (by decide) (fun c117 => ?_) (fun c117 => ?_)
                        · have kc117 := jle c117 tx116 jz_0
                          refine lv_aload_n hx hb dX12_rule_80 rfl (lv_at hl 2 rfl) ?_
                          refine va_get (D := D) hx hb hts inlX12 hown hK hP 55 (jc_55 cI cL ad σ τ) rfl 32 (by decide) (hts _ kw_25_1) (fun _ h9 => h9) rfl dX12_rule_81 ?_
                          refine jtopr h55_32 ?_
                          refine lv_bipush (v := 20) hx hb dX12_rule_84 (by decide) ?_
                          refine lv_icmp_ne (tgt := 92) hx hb dX12_rule_86 (by decide) (fun _ => ?_) (fun c => absurd c (by decide))
                          refine lv_iload_n hx hb dX12_rule_92 rfl (lv_at hl 4 rfl) ?_
                          refine lv_istore (lv' := [(5, .int a2), (4, .int 4), (0, .ref (ad 55)), (1, .int a1), (2, .int a2), (3, .int a3)]) hx hb dX12_rule_93 hl (by decide) rfl (fun ls hl => ?_)
                          refine lv_iload hx hb dX12_rule_95 (lv_at hl 1 rfl) ?_
                          refine lv_iconst (v := 1) hx hb dX12_rule_97 (by decide) ?_
                          refine lv_isub hx hb dX12_rule_98 ?_
                          refine jtopr (y := 3) (by decide) ?_
                          refine lv_istore (lv' := [(6, .int 3), (5, .int a2), (4, .int 4), (0, .ref (ad 55)), (1, .int a1), (2, .int a2), (3, .int a3)]) hx hb dX12_rule_99 hl (by decide) rfl (fun ls hl => ?_)
                          refine lv_iload hx hb dX12_rule_101 (lv_at hl 0 rfl) ?_
                          refine lv_if_lt (tgt := 141) hx hb dX12_rule_103 (by decide) (fun c => absurd c (by decide)) (fun _ => ?_)
                          refine lv_aload_n hx hb dX12_rule_106 rfl (lv_at hl 3 rfl) ?_
                          refine va_get (D := D) hx hb hts inlX12 hown hK hP 55 (jc_55 cI cL ad σ τ) rfl 35 (by decide) (hts _ kw_7_20) (fun _ h9 => h9) rfl dX12_rule_107 ?_
                          refine lv_bipush (v := 8) hx hb dX12_rule_110 (by decide) ?_
                          refine lv_aload_n hx hb dX12_rule_112 rfl (lv_at hl 3 rfl) ?_
                          refine va_get (D := D) hx hb hts inlX12 hown hK hP 55 (jc_55 cI cL ad σ τ) rfl 32 (by decide) (hts _ kw_25_1) (fun _ h9 => h9) rfl dX12_rule_113 ?_
                          refine jtopr h55_32 ?_
                          refine lv_imul hx hb dX12_rule_116 ?_
                          refine jtopr (y := 0) (by decide) ?_
                          refine lv_iload hx hb dX12_rule_117 (lv_at hl 0 rfl) ?_
                          refine lv_iadd hx hb dX12_rule_119 ?_
                          refine jtopr (y := 3) (by decide) ?_
                          refine lv_iload hx hb dX12_rule_120 (lv_at hl 1 rfl) ?_
                          refine lv_bipush (v := 10) hx hb dX12_rule_122 (by decide) ?_
                          refine lv_irem hx hb dX12_rule_124 (by decide) ?_
                          refine lv_topi (fun x118 ex118 => ?_)
                          have tx118 : x118.toInt = (A2 % 10) := jrem ex118 t2 jz_10 (by omega)
                          refine lv_iconst (v := 1) hx hb dX12_rule_125 (by decide) ?_
                          refine lv_isub hx hb dX12_rule_126 ?_
                          refine lv_topi (fun x119 ex119 => ?_)
                          have tx119 : x119.toInt = (A2 % 10) - 1 := (jsub ex119 tx118 jz_1 (by omega) (by omega)).trans (by omega)
                          refine jast hx hb hK hP hJ hA hS (jc_72 cI cL ad σ τ) (ja_72 cI cL ad σ τ _ _) (jin jz_3 (by omega) (by omega)) dX12_rule_127 (fun σ120 H locs eσ120 hP hS => ?_)
                          have eσ120 : σ120 = jup σ 72 3 x119 := eσ120
                          refine lv_iload hx hb dX12_rule_128 (lv_at hl 1 rfl) ?_
                          refine lv_bipush (v := 10) hx hb dX12_rule_130 (by decide) ?_
                          refine lv_idiv hx hb dX12_rule_132 (by decide) ?_
                          refine lv_topi (fun x121 ex121 => ?_)
                          have tx121 : x121.toInt = (A2 / 10) := jdiv ex121 t2 jz_10 (by omega) (by omega)
                          refine lv_istore (lv' := [(5, .int x121), (6, .int 3), (4, .int 4), (0, .ref (ad 55)), (1, .int a1), (2, .int a2), (3, .int a3)]) hx hb dX12_rule_133 hl (by decide) rfl (fun ls hl => ?_)
                          refine lv_iinc (v := 2) (lv' := [(6, .int 2), (5, .int x121), (4, .int 4), (0, .ref (ad 55)), (1, .int a1), (2, .int a2), (3, .int a3)]) hx hb dX12_rule_135 hl (k := 1) rfl (by decide) (by decide) rfl (fun ls hl => ?_)
                          refine lv_goto (tgt := 101) hx hb dX12_rule_138 (by decide) ?_
                          refine lv_iload hx hb dX12_rule_101 (lv_at hl 0 rfl) ?_
                          refine lv_if_lt (tgt := 141) hx hb dX12_rule_103 (by decide) (fun c => absurd c (by decide)) (fun _ => ?_)
                          refine lv_aload_n hx hb dX12_rule_106 rfl (lv_at hl 3 rfl) ?_
                          refine va_get (D := D) hx hb hts inlX12 hown hK hP 55 (jc_55 cI cL ad σ120 τ) rfl 35 (by decide) (hts _ kw_7_20) (fun _ h9 => h9) rfl dX12_rule_107 ?_
                          refine lv_bipush (v := 8) hx hb dX12_rule_110 (by decide) ?_
                          refine lv_aload_n hx hb dX12_rule_112 rfl (lv_at hl 3 rfl) ?_
                          refine va_get (D := D) hx hb hts inlX12 hown hK hP 55 (jc_55 cI cL ad σ120 τ) rfl 32 (by decide) (hts _ kw_25_1) (fun _ h9 => h9) rfl dX12_rule_113 ?_
                          have m122 : σ120 55 32 = 0 := (by rw [eσ120, jup_n (by decide)]; exact h55_32)
                          refine jtopr m122 ?_
                          refine lv_imul hx hb dX12_rule_116 ?_
                          refine jtopr (y := 0) (by decide) ?_
                          refine lv_iload hx hb dX12_rule_117 (lv_at hl 0 rfl) ?_
                          refine lv_iadd hx hb dX12_rule_119 ?_
                          refine jtopr (y := 2) (by decide) ?_
                          refine lv_iload hx hb dX12_rule_120 (lv_at hl 1 rfl) ?_
                          refine lv_bipush (v := 10) hx hb dX12_rule_122 (by decide) ?_
                          refine lv_irem hx hb dX12_rule_124 (by decide) ?_
                          refine lv_topi (fun x123 ex123 => ?_)
                          have tx123 : x123.toInt = (((A2 / 10)) % 10) := jrem ex123 tx121 jz_10 (by omega)
                          refine lv_iconst (v := 1) hx hb dX12_rule_125 (by decide) ?_
                          refine lv_isub hx hb dX12_rule_126 ?_
                          refine lv_topi (fun x124 ex124 => ?_)
                          have tx124 : x124.toInt = (((A2 / 10)) % 10) - 1 := (jsub ex124 tx123 jz_1 (by omega) (by omega)).trans (by omega)
                          refine jast hx hb hK hP hJ hA hS (jc_72 cI cL ad σ120 τ) (ja_72 cI cL ad σ120 τ _ _) (jin jz_2 (by omega) (by omega)) dX12_rule_127 (fun σ125 H locs eσ125 hP hS => ?_)
                          have eσ125 : σ125 = jup σ120 72 2 x124 := eσ125
                          refine lv_iload hx hb dX12_rule_128 (lv_at hl 1 rfl) ?_
                          refine lv_bipush (v := 10) hx hb dX12_rule_130 (by decide) ?_
                          refine lv_idiv hx hb dX12_rule_132 (by decide) ?_
                          refine lv_topi (fun x126 ex126 => ?_)
                          have tx126 : x126.toInt = (((A2 / 10)) / 10) := jdiv ex126 tx121 jz_10 (by omega) (by omega)
                          refine lv_istore (lv' := [(5, .int x126), (6, .int 2), (4, .int 4), (0, .ref (ad 55)), (1, .int a1), (2, .int a2), (3, .int a3)]) hx hb dX12_rule_133 hl (by decide) rfl (fun ls hl => ?_)
                          refine lv_iinc (v := 1) (lv' := [(6, .int 1), (5, .int x126), (4, .int 4), (0, .ref (ad 55)), (1, .int a1), (2, .int a2), (3, .int a3)]) hx hb dX12_rule_135 hl (k := 1) rfl (by decide) (by decide) rfl (fun ls hl => ?_)
                          refine lv_goto (tgt := 101) hx hb dX12_rule_138 (by decide) ?_
                          refine lv_iload hx hb dX12_rule_101 (lv_at hl 0 rfl) ?_
                          refine lv_if_lt (tgt := 141) hx hb dX12_rule_103 (by decide) (fun c => absurd c (by decide)) (fun _ => ?_)
                          refine lv_aload_n hx hb dX12_rule_106 rfl (lv_at hl 3 rfl) ?_
                          refine va_get (D := D) hx hb hts inlX12 hown hK hP 55 (jc_55 cI cL ad σ125 τ) rfl 35 (by decide) (hts _ kw_7_20) (fun _ h9 => h9) rfl dX12_rule_107 ?_
                          refine lv_bipush (v := 8) hx hb dX12_rule_110 (by decide) ?_
                          refine lv_aload_n hx hb dX12_rule_112 rfl (lv_at hl 3 rfl) ?_
                          refine va_get (D := D) hx hb hts inlX12 hown hK hP 55 (jc_55 cI cL ad σ125 τ) rfl 32 (by decide) (hts _ kw_25_1) (fun _ h9 => h9) rfl dX12_rule_113 ?_
                          have m127 : σ125 55 32 = 0 := (by rw [eσ125, jup_n (by decide)]; exact m122)
                          refine jtopr m127 ?_
                          refine lv_imul hx hb dX12_rule_116 ?_
                          refine jtopr (y := 0) (by decide) ?_
                          refine lv_iload hx hb dX12_rule_117 (lv_at hl 0 rfl) ?_
                          refine lv_iadd hx hb dX12_rule_119 ?_
                          refine jtopr (y := 1) (by decide) ?_
                          refine lv_iload hx hb dX12_rule_120 (lv_at hl 1 rfl) ?_
                          refine lv_bipush (v := 10) hx hb dX12_rule_122 (by decide) ?_
                          refine lv_irem hx hb dX12_rule_124 (by decide) ?_
                          refine lv_topi (fun x128 ex128 => ?_)
                          have tx128 : x128.toInt = (((((A2 / 10)) / 10)) % 10) := jrem ex128 tx126 jz_10 (by omega)
                          refine lv_iconst (v := 1) hx hb dX12_rule_125 (by decide) ?_
                          refine lv_isub hx hb dX12_rule_126 ?_
                          refine lv_topi (fun x129 ex129 => ?_)
                          have tx129 : x129.toInt = (((((A2 / 10)) / 10)) % 10) - 1 := (jsub ex129 tx128 jz_1 (by omega) (by omega)).trans (by omega)
                          refine jast hx hb hK hP hJ hA hS (jc_72 cI cL ad σ125 τ) (ja_72 cI cL ad σ125 τ _ _) (jin jz_1 (by omega) (by omega)) dX12_rule_127 (fun σ130 H locs eσ130 hP hS => ?_)
                          have eσ130 : σ130 = jup σ125 72 1 x129 := eσ130
                          refine lv_iload hx hb dX12_rule_128 (lv_at hl 1 rfl) ?_
                          refine lv_bipush (v := 10) hx hb dX12_rule_130 (by decide) ?_
                          refine lv_idiv hx hb dX12_rule_132 (by decide) ?_
                          refine lv_topi (fun x131 ex131 => ?_)
                          have tx131 : x131.toInt = (((((A2 / 10)) / 10)) / 10) := jdiv ex131 tx126 jz_10 (by omega) (by omega)
                          refine lv_istore (lv' := [(5, .int x131), (6, .int 1), (4, .int 4), (0, .ref (ad 55)), (1, .int a1), (2, .int a2), (3, .int a3)]) hx hb dX12_rule_133 hl (by decide) rfl (fun ls hl => ?_)
                          refine lv_iinc (v := 0) (lv' := [(6, .int 0), (5, .int x131), (4, .int 4), (0, .ref (ad 55)), (1, .int a1), (2, .int a2), (3, .int a3)]) hx hb dX12_rule_135 hl (k := 1) rfl (by decide) (by decide) rfl (fun ls hl => ?_)
                          refine lv_goto (tgt := 101) hx hb dX12_rule_138 (by decide) ?_
                          refine lv_iload hx hb dX12_rule_101 (lv_at hl 0 rfl) ?_
                          refine lv_if_lt (tgt := 141) hx hb dX12_rule_103 (by decide) (fun c => absurd c (by decide)) (fun _ => ?_)
                          refine lv_aload_n hx hb dX12_rule_106 rfl (lv_at hl 3 rfl) ?_
                          refine va_get (D := D) hx hb hts inlX12 hown hK hP 55 (jc_55 cI cL ad σ130 τ) rfl 35 (by decide) (hts _ kw_7_20) (fun _ h9 => h9) rfl dX12_rule_107 ?_
                          refine lv_bipush (v := 8) hx hb dX12_rule_110 (by decide) ?_
                          refine lv_aload_n hx hb dX12_rule_112 rfl (lv_at hl 3 rfl) ?_
                          refine va_get (D := D) hx hb hts inlX12 hown hK hP 55 (jc_55 cI cL ad σ130 τ) rfl 32 (by decide) (hts _ kw_25_1) (fun _ h9 => h9) rfl dX12_rule_113 ?_
                          have m132 : σ130 55 32 = 0 := (by rw [eσ130, jup_n (by decide)]; exact m127)
                          refine jtopr m132 ?_
                          refine lv_imul hx hb dX12_rule_116 ?_
                          refine jtopr (y := 0) (by decide) ?_
                          refine lv_iload hx hb dX12_rule_117 (lv_at hl 0 rfl) ?_
                          refine lv_iadd hx hb dX12_rule_119 ?_
                          refine jtopr (y := 0) (by decide) ?_
                          refine lv_iload hx hb dX12_rule_120 (lv_at hl 1 rfl) ?_
                          refine lv_bipush (v := 10) hx hb dX12_rule_122 (by decide) ?_
                          refine lv_irem hx hb dX12_rule_124 (by decide) ?_
                          refine lv_topi (fun x133 ex133 => ?_)
                          have tx133 : x133.toInt = (((((((A2 / 10)) / 10)) / 10)) % 10) := jrem ex133 tx131 jz_10 (by omega)
                          refine lv_iconst (v := 1) hx hb dX12_rule_125 (by decide) ?_
                          refine lv_isub hx hb dX12_rule_126 ?_
                          refine lv_topi (fun x134 ex134 => ?_)
                          have tx134 : x134.toInt = (((((((A2 / 10)) / 10)) / 10)) % 10) - 1 := (jsub ex134 tx133 jz_1 (by omega) (by omega)).trans (by omega)
                          refine jast hx hb hK hP hJ hA hS (jc_72 cI cL ad σ130 τ) (ja_72 cI cL ad σ130 τ _ _) (jin jz_0 (by omega) (by omega)) dX12_rule_127 (fun σ135 H locs eσ135 hP hS => ?_)
                          have eσ135 : σ135 = jup σ130 72 0 x134 := eσ135
                          refine lv_iload hx hb dX12_rule_128 (lv_at hl 1 rfl) ?_
                          refine lv_bipush (v := 10) hx hb dX12_rule_130 (by decide) ?_
                          refine lv_idiv hx hb dX12_rule_132 (by decide) ?_
                          refine lv_topi (fun x136 ex136 => ?_)
                          have tx136 : x136.toInt = (((((((A2 / 10)) / 10)) / 10)) / 10) := jdiv ex136 tx131 jz_10 (by omega) (by omega)
                          refine lv_istore (lv' := [(5, .int x136), (6, .int 0), (4, .int 4), (0, .ref (ad 55)), (1, .int a1), (2, .int a2), (3, .int a3)]) hx hb dX12_rule_133 hl (by decide) rfl (fun ls hl => ?_)
                          refine lv_iinc (v := (-1)) (lv' := [(6, .int (-1)), (5, .int x136), (4, .int 4), (0, .ref (ad 55)), (1, .int a1), (2, .int a2), (3, .int a3)]) hx hb dX12_rule_135 hl (k := 1) rfl (by decide) (by decide) rfl (fun ls hl => ?_)
                          refine lv_goto (tgt := 101) hx hb dX12_rule_138 (by decide) ?_
                          refine lv_iload hx hb dX12_rule_101 (lv_at hl 0 rfl) ?_
                          refine lv_if_lt (tgt := 141) hx hb dX12_rule_103 (by decide) (fun _ => ?_) (fun c => absurd (by decide) c)
                          refine lv_aload_n hx hb dX12_rule_141 rfl (lv_at hl 3 rfl) ?_
                          refine va_get (D := D) hx hb hts inlX12 hown hK hP 55 (jc_55 cI cL ad σ135 τ) rfl 33 (by decide) (hts _ kw_7_18) (fun _ h9 => h9) rfl dX12_rule_142 ?_
                          refine lv_aload_n hx hb dX12_rule_145 rfl (lv_at hl 3 rfl) ?_
                          refine va_get (D := D) hx hb hts inlX12 hown hK hP 55 (jc_55 cI cL ad σ135 τ) rfl 32 (by decide) (hts _ kw_25_1) (fun _ h9 => h9) rfl dX12_rule_146 ?_
                          have m137 : σ135 55 32 = 0 := (by rw [eσ135, jup_n (by decide)]; exact m132)
                          refine jtopr m137 ?_
                          refine lv_iload_n hx hb dX12_rule_149 rfl (lv_at hl 4 rfl) ?_
                          refine jast hx hb hK hP hJ hA hS (jc_70 cI cL ad σ135 τ) (ja_70 cI cL ad σ135 τ _ _) (jin jz_0 (by omega) (by omega)) dX12_rule_150 (fun σ138 H locs eσ138 hP hS => ?_)
                          have eσ138 : σ138 = jup σ135 70 0 a1 := eσ138
                          refine lv_aload_n hx hb dX12_rule_151 rfl (lv_at hl 3 rfl) ?_
                          refine va_get (D := D) hx hb hts inlX12 hown hK hP 55 (jc_55 cI cL ad σ138 τ) rfl 34 (by decide) (hts _ kw_7_19) (fun _ h9 => h9) rfl dX12_rule_152 ?_
                          refine lv_aload_n hx hb dX12_rule_155 rfl (lv_at hl 3 rfl) ?_
                          refine va_get (D := D) hx hb hts inlX12 hown hK hP 55 (jc_55 cI cL ad σ138 τ) rfl 32 (by decide) (hts _ kw_25_1) (fun _ h9 => h9) rfl dX12_rule_156 ?_
                          have m139 : σ138 55 32 = 0 := (by rw [eσ138, jup_n (by decide)]; exact m137)
                          refine jtopr m139 ?_
                          refine lv_iload hx hb dX12_rule_159 (lv_at hl 2 rfl) ?_
                          refine jast hx hb hK hP hJ hA hS (jc_71 cI cL ad σ138 τ) (ja_71 cI cL ad σ138 τ _ _) (jin jz_0 (by omega) (by omega)) dX12_rule_161 (fun σ140 H locs eσ140 hP hS => ?_)
                          have eσ140 : σ140 = jup σ138 71 0 4 := eσ140
                          refine lv_aload_n hx hb dX12_rule_162 rfl (lv_at hl 3 rfl) ?_
                          refine va_get (D := D) hx hb hts inlX12 hown hK hP 55 (jc_55 cI cL ad σ140 τ) rfl 36 (by decide) (hts _ kw_7_21) (fun _ h9 => h9) rfl dX12_rule_163 ?_
                          refine lv_aload_n hx hb dX12_rule_166 rfl (lv_at hl 3 rfl) ?_
                          refine va_get (D := D) hx hb hts inlX12 hown hK hP 55 (jc_55 cI cL ad σ140 τ) rfl 32 (by decide) (hts _ kw_25_1) (fun _ h9 => h9) rfl dX12_rule_167 ?_
                          have m141 : σ140 55 32 = 0 := (by rw [eσ140, jup_n (by decide)]; exact m139)
                          refine jtopr m141 ?_
                          refine lv_iload_n hx hb dX12_rule_170 rfl (lv_at hl 6 rfl) ?_
                          refine jast hx hb hK hP hJ hA hS (jc_73 cI cL ad σ140 τ) (ja_73 cI cL ad σ140 τ _ _) (jin jz_0 (by omega) (by omega)) dX12_rule_171 (fun σ142 H locs eσ142 hP hS => ?_)
                          have eσ142 : σ142 = jup σ140 73 0 a3 := eσ142
                          refine lv_aload_n hx hb dX12_rule_172 rfl (lv_at hl 3 rfl) ?_
                          refine lv_dup hx hb dX12_rule_173 rfl ?_
                          refine va_get (D := D) hx hb hts inlX12 hown hK hP 55 (jc_55 cI cL ad σ142 τ) rfl 32 (by decide) (hts _ kw_25_1) (fun _ h9 => h9) rfl dX12_rule_174 ?_
                          have m143 : σ142 55 32 = 0 := (by rw [eσ142, jup_n (by decide)]; exact m141)
                          refine jtopr m143 ?_
                          refine lv_iconst (v := 1) hx hb dX12_rule_177 (by decide) ?_
                          refine lv_iadd hx hb dX12_rule_178 ?_
                          refine jtopr (y := 1) (by decide) ?_
                          refine jput (ty := .int) hx hb hts inlX12 tyX12 tyX12_ok nmX12 hown hK hP hJ hA hS (jc_55 cI cL ad σ142 τ) rfl (k := 32) (by decide) (Nat.le_of_ble_eq_true rfl) (jp_55_32 cI cL ad σ142 τ 1) (hts _ kw_25_1) (fun _ h9 => h9) rfl (by decide +kernel) rfl rfl dX12_rule_179 (fun σ144 H locs eσ144 hP hS => ?_)
                          refine lv_aload_n hx hb dX12_rule_182 rfl (lv_at hl 3 rfl) ?_
                          refine va_get (D := D) hx hb hts inlX12 hown hK hP 55 (jc_55 cI cL ad σ144 τ) rfl 32 (by decide) (hts _ kw_25_1) (fun _ h9 => h9) rfl dX12_rule_183 ?_
                          have m145 : σ144 55 32 = 1 := (by rw [eσ144]; exact jup_s)
                          refine jtopr m145 ?_
                          refine lv_iconst (v := 1) hx hb dX12_rule_186 (by decide) ?_
                          refine lv_isub hx hb dX12_rule_187 ?_
                          refine jtopr (y := 0) (by decide) ?_
                          exact hret 0 σ144 τ _ _ _ _ rfl ⟨trivial, (by (repeat' split) <;> first | rfl | omega | exact jsame jz_0 t1 (by omega) | exact jsame jz_0 t2 (by omega) | exact jsame jz_0 t3 (by omega) | (exfalso; omega))⟩ hP hS dX12_rule_188
                        · have kc117 := jnle c117 tx116 jz_0
                          refine lv_iload hx hb dX12_rule_49 (lv_at hl 0 rfl) ?_
                          refine lv_bipush (v := 10) hx hb dX12_rule_51 (by decide) ?_
                          refine lv_irem hx hb dX12_rule_53 (by decide) ?_
                          refine lv_topi (fun x146 ex146 => ?_)
                          have tx146 : x146.toInt = (((((((((A2 / 10)) / 10)) / 10)) / 10)) % 10) := jrem ex146 tx116 jz_10 (by omega)
                          refine lv_i2l (v := x146.toInt64) hx hb dX12_rule_54 rfl ?_
                          refine lv_lconst (v := 1) hx hb dX12_rule_55 (by decide) ?_
                          refine lv_ldc2 (v := 4) hx hb hown (hts _ kw_13_5) dX12_rule_56 ?_
                          refine jcallS (As := [.long x146.toInt64, .long 1, .long 4]) (rest := []) ⟨hx, hb, hml, hown, hts⟩ hK hP hA hS (c_X12_within l D cI cL ad hJ σ τ x146.toInt64 ((((((((((A2 / 10)) / 10)) / 10)) / 10)) % 10)) (jtoL tx146) 1 (1) jzl_1 4 (4) jzl_4) cw_RX12_136 ⟨Nat.le_of_ble_eq_true rfl, Nat.le_of_ble_eq_true rfl⟩ rfl rfl rfl hl.1 rfl (Nat.le_of_ble_eq_true rfl) dX12_rule_59 ⟨Nat.zero_le _, Nat.zero_le _⟩ (fun r148 σ147 τ147 H locs h147 hP hS => ?_)
                          obtain ⟨⟨rfl, rfl⟩, h147⟩ := h147
                          rcases h147 with h149 | h150
                          · obtain ⟨q152, k151⟩ := h149
                            have q152 := q152.symm
                            subst q152
                            refine lv_if_ne (tgt := 67) hx hb dX12_rule_62 (by decide) (fun _ => ?_) (fun c => absurd c (by decide))
                            refine lv_iinc (v := 5) (lv' := [(4, .int 5), (5, .int x116), (0, .ref (ad 55)), (1, .int a1), (2, .int a2), (3, .int a3)]) hx hb dX12_rule_67 hl (k := 1) rfl (by decide) (by decide) rfl (fun ls hl => ?_)
                            refine lv_iload hx hb dX12_rule_70 (lv_at hl 1 rfl) ?_
                            refine lv_bipush (v := 10) hx hb dX12_rule_72 (by decide) ?_
                            refine lv_idiv hx hb dX12_rule_74 (by decide) ?_
                            refine lv_topi (fun x153 ex153 => ?_)
                            have tx153 : x153.toInt = (((((((((A2 / 10)) / 10)) / 10)) / 10)) / 10) := jdiv ex153 tx116 jz_10 (by omega) (by omega)
                            refine lv_istore (lv' := [(5, .int x153), (4, .int 5), (0, .ref (ad 55)), (1, .int a1), (2, .int a2), (3, .int a3)]) hx hb dX12_rule_75 hl (by decide) rfl (fun ls hl => ?_)
                            refine lv_goto (tgt := 44) hx hb dX12_rule_77 (by decide) ?_
                            refine lv_iload hx hb dX12_rule_44 (lv_at hl 0 rfl) ?_
                            refine lv_if_le (tgt := 80) hx hb dX12_rule_46 (by decide) (fun c154 => ?_) (fun c154 => ?_)
                            · have kc154 := jle c154 tx153 jz_0
                              refine lv_aload_n hx hb dX12_rule_80 rfl (lv_at hl 2 rfl) ?_
                              refine va_get (D := D) hx hb hts inlX12 hown hK hP 55 (jc_55 cI cL ad σ τ) rfl 32 (by decide) (hts _ kw_25_1) (fun _ h9 => h9) rfl dX12_rule_81 ?_
                              refine jtopr h55_32 ?_
                              refine lv_bipush (v := 20) hx hb dX12_rule_84 (by decide) ?_
                              refine lv_icmp_ne (tgt := 92) hx hb dX12_rule_86 (by decide) (fun _ => ?_) (fun c => absurd c (by decide))
                              refine lv_iload_n hx hb dX12_rule_92 rfl (lv_at hl 4 rfl) ?_
                              refine lv_istore (lv' := [(5, .int a2), (4, .int 5), (0, .ref (ad 55)), (1, .int a1), (2, .int a2), (3, .int a3)]) hx hb dX12_rule_93 hl (by decide) rfl (fun ls hl => ?_)
                              refine lv_iload hx hb dX12_rule_95 (lv_at hl 1 rfl) ?_
                              refine lv_iconst (v := 1) hx hb dX12_rule_97 (by decide) ?_
                              refine lv_isub hx hb dX12_rule_98 ?_
                              refine jtopr (y := 4) (by decide) ?_
                              refine lv_istore (lv' := [(6, .int 4), (5, .int a2), (4, .int 5), (0, .ref (ad 55)), (1, .int a1), (2, .int a2), (3, .int a3)]) hx hb dX12_rule_99 hl (by decide) rfl (fun ls hl => ?_)
                              refine lv_iload hx hb dX12_rule_101 (lv_at hl 0 rfl) ?_
                              refine lv_if_lt (tgt := 141) hx hb dX12_rule_103 (by decide) (fun c => absurd c (by decide)) (fun _ => ?_)
                              refine lv_aload_n hx hb dX12_rule_106 rfl (lv_at hl 3 rfl) ?_
                              refine va_get (D := D) hx hb hts inlX12 hown hK hP 55 (jc_55 cI cL ad σ τ) rfl 35 (by decide) (hts _ kw_7_20) (fun _ h9 => h9) rfl dX12_rule_107 ?_
                              refine lv_bipush (v := 8) hx hb dX12_rule_110 (by decide) ?_
                              refine lv_aload_n hx hb dX12_rule_112 rfl (lv_at hl 3 rfl) ?_
                              refine va_get (D := D) hx hb hts inlX12 hown hK hP 55 (jc_55 cI cL ad σ τ) rfl 32 (by decide) (hts _ kw_25_1) (fun _ h9 => h9) rfl dX12_rule_113 ?_
                              refine jtopr h55_32 ?_
                              refine lv_imul hx hb dX12_rule_116 ?_
                              refine jtopr (y := 0) (by decide) ?_
                              refine lv_iload hx hb dX12_rule_117 (lv_at hl 0 rfl) ?_
                              refine lv_iadd hx hb dX12_rule_119 ?_
                              refine jtopr (y := 4) (by decide) ?_
                              refine lv_iload hx hb dX12_rule_120 (lv_at hl 1 rfl) ?_
                              refine lv_bipush (v := 10) hx hb dX12_rule_122 (by decide) ?_
                              refine lv_irem hx hb dX12_rule_124 (by decide) ?_
                              refine lv_topi (fun x155 ex155 => ?_)
                              have tx155 : x155.toInt = (A2 % 10) := jrem ex155 t2 jz_10 (by omega)
                              refine lv_iconst (v := 1) hx hb dX12_rule_125 (by decide) ?_
                              refine lv_isub hx hb dX12_rule_126 ?_
                              refine lv_topi (fun x156 ex156 => ?_)
                              have tx156 : x156.toInt = (A2 % 10) - 1 := (jsub ex156 tx155 jz_1 (by omega) (by omega)).trans (by omega)
                              refine jast hx hb hK hP hJ hA hS (jc_72 cI cL ad σ τ) (ja_72 cI cL ad σ τ _ _) (jin jz_4 (by omega) (by omega)) dX12_rule_127 (fun σ157 H locs eσ157 hP hS => ?_)
                              have eσ157 : σ157 = jup σ 72 4 x156 := eσ157
                              refine lv_iload hx hb dX12_rule_128 (lv_at hl 1 rfl) ?_
                              refine lv_bipush (v := 10) hx hb dX12_rule_130 (by decide) ?_
                              refine lv_idiv hx hb dX12_rule_132 (by decide) ?_
                              refine lv_topi (fun x158 ex158 => ?_)
                              have tx158 : x158.toInt = (A2 / 10) := jdiv ex158 t2 jz_10 (by omega) (by omega)
                              refine lv_istore (lv' := [(5, .int x158), (6, .int 4), (4, .int 5), (0, .ref (ad 55)), (1, .int a1), (2, .int a2), (3, .int a3)]) hx hb dX12_rule_133 hl (by decide) rfl (fun ls hl => ?_)
                              refine lv_iinc (v := 3) (lv' := [(6, .int 3), (5, .int x158), (4, .int 5), (0, .ref (ad 55)), (1, .int a1), (2, .int a2), (3, .int a3)]) hx hb dX12_rule_135 hl (k := 1) rfl (by decide) (by decide) rfl (fun ls hl => ?_)
                              refine lv_goto (tgt := 101) hx hb dX12_rule_138 (by decide) ?_
                              refine lv_iload hx hb dX12_rule_101 (lv_at hl 0 rfl) ?_
                              refine lv_if_lt (tgt := 141) hx hb dX12_rule_103 (by decide) (fun c => absurd c (by decide)) (fun _ => ?_)
                              refine lv_aload_n hx hb dX12_rule_106 rfl (lv_at hl 3 rfl) ?_
                              refine va_get (D := D) hx hb hts inlX12 hown hK hP 55 (jc_55 cI cL ad σ157 τ) rfl 35 (by decide) (hts _ kw_7_20) (fun _ h9 => h9) rfl dX12_rule_107 ?_
                              refine lv_bipush (v := 8) hx hb dX12_rule_110 (by decide) ?_
                              refine lv_aload_n hx hb dX12_rule_112 rfl (lv_at hl 3 rfl) ?_
                              refine va_get (D := D) hx hb hts inlX12 hown hK hP 55 (jc_55 cI cL ad σ157 τ) rfl 32 (by decide) (hts _ kw_25_1) (fun _ h9 => h9) rfl dX12_rule_113 ?_
                              have m159 : σ157 55 32 = 0 := (by rw [eσ157, jup_n (by decide)]; exact h55_32)
                              refine jtopr m159 ?_
                              refine lv_imul hx hb dX12_rule_116 ?_
                              refine jtopr (y := 0) (by decide) ?_
                              refine lv_iload hx hb dX12_rule_117 (lv_at hl 0 rfl) ?_
                              refine lv_iadd hx hb dX12_rule_119 ?_
                              refine jtopr (y := 3) (by decide) ?_
                              refine lv_iload hx hb dX12_rule_120 (lv_at hl 1 rfl) ?_
                              refine lv_bipush (v := 10) hx hb dX12_rule_122 (by decide) ?_
                              refine lv_irem hx hb dX12_rule_124 (by decide) ?_
                              refine lv_topi (fun x160 ex160 => ?_)
                              have tx160 : x160.toInt = (((A2 / 10)) % 10) := jrem ex160 tx158 jz_10 (by omega)
                              refine lv_iconst (v := 1) hx hb dX12_rule_125 (by decide) ?_
                              refine lv_isub hx hb dX12_rule_126 ?_
                              refine lv_topi (fun x161 ex161 => ?_)
                              have tx161 : x161.toInt = (((A2 / 10)) % 10) - 1 := (jsub ex161 tx160 jz_1 (by omega) (by omega)).trans (by omega)
                              refine jast hx hb hK hP hJ hA hS (jc_72 cI cL ad σ157 τ) (ja_72 cI cL ad σ157 τ _ _) (jin jz_3 (by omega) (by omega)) dX12_rule_127 (fun σ162 H locs eσ162 hP hS => ?_)
                              have eσ162 : σ162 = jup σ157 72 3 x161 := eσ162
                              refine lv_iload hx hb dX12_rule_128 (lv_at hl 1 rfl) ?_
                              refine lv_bipush (v := 10) hx hb dX12_rule_130 (by decide) ?_
                              refine lv_idiv hx hb dX12_rule_132 (by decide) ?_
                              refine lv_topi (fun x163 ex163 => ?_)
                              have tx163 : x163.toInt = (((A2 / 10)) / 10) := jdiv ex163 tx158 jz_10 (by omega) (by omega)
                              refine lv_istore (lv' := [(5, .int x163), (6, .int 3), (4, .int 5), (0, .ref (ad 55)), (1, .int a1), (2, .int a2), (3, .int a3)]) hx hb dX12_rule_133 hl (by decide) rfl (fun ls hl => ?_)
                              refine lv_iinc (v := 2) (lv' := [(6, .int 2), (5, .int x163), (4, .int 5), (0, .ref (ad 55)), (1, .int a1), (2, .int a2), (3, .int a3)]) hx hb dX12_rule_135 hl (k := 1) rfl (by decide) (by decide) rfl (fun ls hl => ?_)
                              refine lv_goto (tgt := 101) hx hb dX12_rule_138 (by decide) ?_
                              refine lv_iload hx hb dX12_rule_101 (lv_at hl 0 rfl) ?_
                              refine lv_if_lt (tgt := 141) hx hb dX12_rule_103 (by decide) (fun c => absurd c (by decide)) (fun _ => ?_)
                              refine lv_aload_n hx hb dX12_rule_106 rfl (lv_at hl 3 rfl) ?_
                              refine va_get (D := D) hx hb hts inlX12 hown hK hP 55 (jc_55 cI cL ad σ162 τ) rfl 35 (by decide) (hts _ kw_7_20) (fun _ h9 => h9) rfl dX12_rule_107 ?_
                              refine lv_bipush (v := 8) hx hb dX12_rule_110 (by decide) ?_
                              refine lv_aload_n hx hb dX12_rule_112 rfl (lv_at hl 3 rfl) ?_
                              refine va_get (D := D) hx hb hts inlX12 hown hK hP 55 (jc_55 cI cL ad σ162 τ) rfl 32 (by decide) (hts _ kw_25_1) (fun _ h9 => h9) rfl dX12_rule_113 ?_
                              have m164 : σ162 55 32 = 0 := (by rw [eσ162, jup_n (by decide)]; exact m159)
                              refine jtopr m164 ?_
                              refine lv_imul hx hb dX12_rule_116 ?_
                              refine jtopr (y := 0) (by decide) ?_
                              refine lv_iload hx hb dX12_rule_117 (lv_at hl 0 rfl) ?_
                              refine lv_iadd hx hb dX12_rule_119 ?_
                              refine jtopr (y := 2) (by decide) ?_
                              refine lv_iload hx hb dX12_rule_120 (lv_at hl 1 rfl) ?_
                              refine lv_bipush (v := 10) hx hb dX12_rule_122 (by decide) ?_
                              refine lv_irem hx hb dX12_rule_124 (by decide) ?_
                              refine lv_topi (fun x165 ex165 => ?_)
                              have tx165 : x165.toInt = (((((A2 / 10)) / 10)) % 10) := jrem ex165 tx163 jz_10 (by omega)
                              refine lv_iconst (v := 1) hx hb dX12_rule_125 (by decide) ?_
                              refine lv_isub hx hb dX12_rule_126 ?_
                              refine lv_topi (fun x166 ex166 => ?_)
                              have tx166 : x166.toInt = (((((A2 / 10)) / 10)) % 10) - 1 := (jsub ex166 tx165 jz_1 (by omega) (by omega)).trans (by omega)
                              refine jast hx hb hK hP hJ hA hS (jc_72 cI cL ad σ162 τ) (ja_72 cI cL ad σ162 τ _ _) (jin jz_2 (by omega) (by omega)) dX12_rule_127 (fun σ167 H locs eσ167 hP hS => ?_)
                              have eσ167 : σ167 = jup σ162 72 2 x166 := eσ167
                              refine lv_iload hx hb dX12_rule_128 (lv_at hl 1 rfl) ?_
                              refine lv_bipush (v := 10) hx hb dX12_rule_130 (by decide) ?_
                              refine lv_idiv hx hb dX12_rule_132 (by decide) ?_
                              refine lv_topi (fun x168 ex168 => ?_)
                              have tx168 : x168.toInt = (((((A2 / 10)) / 10)) / 10) := jdiv ex168 tx163 jz_10 (by omega) (by omega)
                              refine lv_istore (lv' := [(5, .int x168), (6, .int 2), (4, .int 5), (0, .ref (ad 55)), (1, .int a1), (2, .int a2), (3, .int a3)]) hx hb dX12_rule_133 hl (by decide) rfl (fun ls hl => ?_)
                              refine lv_iinc (v := 1) (lv' := [(6, .int 1), (5, .int x168), (4, .int 5), (0, .ref (ad 55)), (1, .int a1), (2, .int a2), (3, .int a3)]) hx hb dX12_rule_135 hl (k := 1) rfl (by decide) (by decide) rfl (fun ls hl => ?_)
                              refine lv_goto (tgt := 101) hx hb dX12_rule_138 (by decide) ?_
                              refine lv_iload hx hb dX12_rule_101 (lv_at hl 0 rfl) ?_
                              refine lv_if_lt (tgt := 141) hx hb dX12_rule_103 (by decide) (fun c => absurd c (by decide)) (fun _ => ?_)
                              refine lv_aload_n hx hb dX12_rule_106 rfl (lv_at hl 3 rfl) ?_
                              refine va_get (D := D) hx hb hts inlX12 hown hK hP 55 (jc_55 cI cL ad σ167 τ) rfl 35 (by decide) (hts _ kw_7_20) (fun _ h9 => h9) rfl dX12_rule_107 ?_
                              refine lv_bipush (v := 8) hx hb dX12_rule_110 (by decide) ?_
                              refine lv_aload_n hx hb dX12_rule_112 rfl (lv_at hl 3 rfl) ?_
                              refine va_get (D := D) hx hb hts inlX12 hown hK hP 55 (jc_55 cI cL ad σ167 τ) rfl 32 (by decide) (hts _ kw_25_1) (fun _ h9 => h9) rfl dX12_rule_113 ?_
                              have m169 : σ167 55 32 = 0 := (by rw [eσ167, jup_n (by decide)]; exact m164)
                              refine jtopr m169 ?_
                              refine lv_imul hx hb dX12_rule_116 ?_
                              refine jtopr (y := 0) (by decide) ?_
                              refine lv_iload hx hb dX12_rule_117 (lv_at hl 0 rfl) ?_
                              refine lv_iadd hx hb dX12_rule_119 ?_
                              refine jtopr (y := 1) (by decide) ?_
                              refine lv_iload hx hb dX12_rule_120 (lv_at hl 1 rfl) ?_
                              refine lv_bipush (v := 10) hx hb dX12_rule_122 (by decide) ?_
                              refine lv_irem hx hb dX12_rule_124 (by decide) ?_
                              refine lv_topi (fun x170 ex170 => ?_)
                              have tx170 : x170.toInt = (((((((A2 / 10)) / 10)) / 10)) % 10) := jrem ex170 tx168 jz_10 (by omega)
                              refine lv_iconst (v := 1) hx hb dX12_rule_125 (by decide) ?_
                              refine lv_isub hx hb dX12_rule_126 ?_
                              refine lv_topi (fun x171 ex171 => ?_)
                              have tx171 : x171.toInt = (((((((A2 / 10)) / 10)) / 10)) % 10) - 1 := (jsub ex171 tx170 jz_1 (by omega) (by omega)).trans (by omega)
                              refine jast hx hb hK hP hJ hA hS (jc_72 cI cL ad σ167 τ) (ja_72 cI cL ad σ167 τ _ _) (jin jz_1 (by omega) (by omega)) dX12_rule_127 (fun σ172 H locs eσ172 hP hS => ?_)
                              have eσ172 : σ172 = jup σ167 72 1 x171 := eσ172
                              refine lv_iload hx hb dX12_rule_128 (lv_at hl 1 rfl) ?_
                              refine lv_bipush (v := 10) hx hb dX12_rule_130 (by decide) ?_
                              refine lv_idiv hx hb dX12_rule_132 (by decide) ?_
                              refine lv_topi (fun x173 ex173 => ?_)
                              have tx173 : x173.toInt = (((((((A2 / 10)) / 10)) / 10)) / 10) := jdiv ex173 tx168 jz_10 (by omega) (by omega)
                              refine lv_istore (lv' := [(5, .int x173), (6, .int 1), (4, .int 5), (0, .ref (ad 55)), (1, .int a1), (2, .int a2), (3, .int a3)]) hx hb dX12_rule_133 hl (by decide) rfl (fun ls hl => ?_)
                              refine lv_iinc (v := 0) (lv' := [(6, .int 0), (5, .int x173), (4, .int 5), (0, .ref (ad 55)), (1, .int a1), (2, .int a2), (3, .int a3)]) hx hb dX12_rule_135 hl (k := 1) rfl (by decide) (by decide) rfl (fun ls hl => ?_)
                              refine lv_goto (tgt := 101) hx hb dX12_rule_138 (by decide) ?_
                              refine lv_iload hx hb dX12_rule_101 (lv_at hl 0 rfl) ?_
                              refine lv_if_lt (tgt := 141) hx hb dX12_rule_103 (by decide) (fun c => absurd c (by decide)) (fun _ => ?_)
                              refine lv_aload_n hx hb dX12_rule_106 rfl (lv_at hl 3 rfl) ?_
                              refine va_get (D := D) hx hb hts inlX12 hown hK hP 55 (jc_55 cI cL ad σ172 τ) rfl 35 (by decide) (hts _ kw_7_20) (fun _ h9 => h9) rfl dX12_rule_107 ?_
                              refine lv_bipush (v := 8) hx hb dX12_rule_110 (by decide) ?_
                              refine lv_aload_n hx hb dX12_rule_112 rfl (lv_at hl 3 rfl) ?_
                              refine va_get (D := D) hx hb hts inlX12 hown hK hP 55 (jc_55 cI cL ad σ172 τ) rfl 32 (by decide) (hts _ kw_25_1) (fun _ h9 => h9) rfl dX12_rule_113 ?_
                              have m174 : σ172 55 32 = 0 := (by rw [eσ172, jup_n (by decide)]; exact m169)
                              refine jtopr m174 ?_
                              refine lv_imul hx hb dX12_rule_116 ?_
                              refine jtopr (y := 0) (by decide) ?_
                              refine lv_iload hx hb dX12_rule_117 (lv_at hl 0 rfl) ?_
                              refine lv_iadd hx hb dX12_rule_119 ?_
                              refine jtopr (y := 0) (by decide) ?_
                              refine lv_iload hx hb dX12_rule_120 (lv_at hl 1 rfl) ?_
                              refine lv_bipush (v := 10) hx hb dX12_rule_122 (by decide) ?_
                              refine lv_irem hx hb dX12_rule_124 (by decide) ?_
                              refine lv_topi (fun x175 ex175 => ?_)
                              have tx175 : x175.toInt = (((((((((A2 / 10)) / 10)) / 10)) / 10)) % 10) := jrem ex175 tx173 jz_10 (by omega)
                              refine lv_iconst (v := 1) hx hb dX12_rule_125 (by decide) ?_
                              refine lv_isub hx hb dX12_rule_126 ?_
                              refine lv_topi (fun x176 ex176 => ?_)
                              have tx176 : x176.toInt = (((((((((A2 / 10)) / 10)) / 10)) / 10)) % 10) - 1 := (jsub ex176 tx175 jz_1 (by omega) (by omega)).trans (by omega)
                              refine jast hx hb hK hP hJ hA hS (jc_72 cI cL ad σ172 τ) (ja_72 cI cL ad σ172 τ _ _) (jin jz_0 (by omega) (by omega)) dX12_rule_127 (fun σ177 H locs eσ177 hP hS => ?_)
                              have eσ177 : σ177 = jup σ172 72 0 x176 := eσ177
                              refine lv_iload hx hb dX12_rule_128 (lv_at hl 1 rfl) ?_
                              refine lv_bipush (v := 10) hx hb dX12_rule_130 (by decide) ?_
                              refine lv_idiv hx hb dX12_rule_132 (by decide) ?_
                              refine lv_topi (fun x178 ex178 => ?_)
                              have tx178 : x178.toInt = (((((((((A2 / 10)) / 10)) / 10)) / 10)) / 10) := jdiv ex178 tx173 jz_10 (by omega) (by omega)
                              refine lv_istore (lv' := [(5, .int x178), (6, .int 0), (4, .int 5), (0, .ref (ad 55)), (1, .int a1), (2, .int a2), (3, .int a3)]) hx hb dX12_rule_133 hl (by decide) rfl (fun ls hl => ?_)
                              refine lv_iinc (v := (-1)) (lv' := [(6, .int (-1)), (5, .int x178), (4, .int 5), (0, .ref (ad 55)), (1, .int a1), (2, .int a2), (3, .int a3)]) hx hb dX12_rule_135 hl (k := 1) rfl (by decide) (by decide) rfl (fun ls hl => ?_)
                              refine lv_goto (tgt := 101) hx hb dX12_rule_138 (by decide) ?_
                              refine lv_iload hx hb dX12_rule_101 (lv_at hl 0 rfl) ?_
                              refine lv_if_lt (tgt := 141) hx hb dX12_rule_103 (by decide) (fun _ => ?_) (fun c => absurd (by decide) c)
                              refine lv_aload_n hx hb dX12_rule_141 rfl (lv_at hl 3 rfl) ?_
                              refine va_get (D := D) hx hb hts inlX12 hown hK hP 55 (jc_55 cI cL ad σ177 τ) rfl 33 (by decide) (hts _ kw_7_18) (fun _ h9 => h9) rfl dX12_rule_142 ?_
                              refine lv_aload_n hx hb dX12_rule_145 rfl (lv_at hl 3 rfl) ?_
                              refine va_get (D := D) hx hb hts inlX12 hown hK hP 55 (jc_55 cI cL ad σ177 τ) rfl 32 (by decide) (hts _ kw_25_1) (fun _ h9 => h9) rfl dX12_rule_146 ?_
                              have m179 : σ177 55 32 = 0 := (by rw [eσ177, jup_n (by decide)]; exact m174)
                              refine jtopr m179 ?_
                              refine lv_iload_n hx hb dX12_rule_149 rfl (lv_at hl 4 rfl) ?_
                              refine jast hx hb hK hP hJ hA hS (jc_70 cI cL ad σ177 τ) (ja_70 cI cL ad σ177 τ _ _) (jin jz_0 (by omega) (by omega)) dX12_rule_150 (fun σ180 H locs eσ180 hP hS => ?_)
                              have eσ180 : σ180 = jup σ177 70 0 a1 := eσ180
                              refine lv_aload_n hx hb dX12_rule_151 rfl (lv_at hl 3 rfl) ?_
                              refine va_get (D := D) hx hb hts inlX12 hown hK hP 55 (jc_55 cI cL ad σ180 τ) rfl 34 (by decide) (hts _ kw_7_19) (fun _ h9 => h9) rfl dX12_rule_152 ?_
                              refine lv_aload_n hx hb dX12_rule_155 rfl (lv_at hl 3 rfl) ?_
                              refine va_get (D := D) hx hb hts inlX12 hown hK hP 55 (jc_55 cI cL ad σ180 τ) rfl 32 (by decide) (hts _ kw_25_1) (fun _ h9 => h9) rfl dX12_rule_156 ?_
                              have m181 : σ180 55 32 = 0 := (by rw [eσ180, jup_n (by decide)]; exact m179)
                              refine jtopr m181 ?_
                              refine lv_iload hx hb dX12_rule_159 (lv_at hl 2 rfl) ?_
                              refine jast hx hb hK hP hJ hA hS (jc_71 cI cL ad σ180 τ) (ja_71 cI cL ad σ180 τ _ _) (jin jz_0 (by omega) (by omega)) dX12_rule_161 (fun σ182 H locs eσ182 hP hS => ?_)
                              have eσ182 : σ182 = jup σ180 71 0 5 := eσ182
                              refine lv_aload_n hx hb dX12_rule_162 rfl (lv_at hl 3 rfl) ?_
                              refine va_get (D := D) hx hb hts inlX12 hown hK hP 55 (jc_55 cI cL ad σ182 τ) rfl 36 (by decide) (hts _ kw_7_21) (fun _ h9 => h9) rfl dX12_rule_163 ?_
                              refine lv_aload_n hx hb dX12_rule_166 rfl (lv_at hl 3 rfl) ?_
                              refine va_get (D := D) hx hb hts inlX12 hown hK hP 55 (jc_55 cI cL ad σ182 τ) rfl 32 (by decide) (hts _ kw_25_1) (fun _ h9 => h9) rfl dX12_rule_167 ?_
                              have m183 : σ182 55 32 = 0 := (by rw [eσ182, jup_n (by decide)]; exact m181)
                              refine jtopr m183 ?_
                              refine lv_iload_n hx hb dX12_rule_170 rfl (lv_at hl 6 rfl) ?_
                              refine jast hx hb hK hP hJ hA hS (jc_73 cI cL ad σ182 τ) (ja_73 cI cL ad σ182 τ _ _) (jin jz_0 (by omega) (by omega)) dX12_rule_171 (fun σ184 H locs eσ184 hP hS => ?_)
                              have eσ184 : σ184 = jup σ182 73 0 a3 := eσ184
                              refine lv_aload_n hx hb dX12_rule_172 rfl (lv_at hl 3 rfl) ?_
                              refine lv_dup hx hb dX12_rule_173 rfl ?_
                              refine va_get (D := D) hx hb hts inlX12 hown hK hP 55 (jc_55 cI cL ad σ184 τ) rfl 32 (by decide) (hts _ kw_25_1) (fun _ h9 => h9) rfl dX12_rule_174 ?_
                              have m185 : σ184 55 32 = 0 := (by rw [eσ184, jup_n (by decide)]; exact m183)
                              refine jtopr m185 ?_
                              refine lv_iconst (v := 1) hx hb dX12_rule_177 (by decide) ?_
                              refine lv_iadd hx hb dX12_rule_178 ?_
                              refine jtopr (y := 1) (by decide) ?_
                              refine jput (ty := .int) hx hb hts inlX12 tyX12 tyX12_ok nmX12 hown hK hP hJ hA hS (jc_55 cI cL ad σ184 τ) rfl (k := 32) (by decide) (Nat.le_of_ble_eq_true rfl) (jp_55_32 cI cL ad σ184 τ 1) (hts _ kw_25_1) (fun _ h9 => h9) rfl (by decide +kernel) rfl rfl dX12_rule_179 (fun σ186 H locs eσ186 hP hS => ?_)
                              refine lv_aload_n hx hb dX12_rule_182 rfl (lv_at hl 3 rfl) ?_
                              refine va_get (D := D) hx hb hts inlX12 hown hK hP 55 (jc_55 cI cL ad σ186 τ) rfl 32 (by decide) (hts _ kw_25_1) (fun _ h9 => h9) rfl dX12_rule_183 ?_
                              have m187 : σ186 55 32 = 1 := (by rw [eσ186]; exact jup_s)
                              refine jtopr m187 ?_
                              refine lv_iconst (v := 1) hx hb dX12_rule_186 (by decide) ?_
                              refine lv_isub hx hb dX12_rule_187 ?_
                              refine jtopr (y := 0) (by decide) ?_
                              exact hret 0 σ186 τ _ _ _ _ rfl ⟨trivial, (by (repeat' split) <;> first | rfl | omega | exact jsame jz_0 t1 (by omega) | exact jsame jz_0 t2 (by omega) | exact jsame jz_0 t3 (by omega) | (exfalso; omega))⟩ hP hS dX12_rule_188
                            · have kc154 := jnle c154 tx153 jz_0
                              refine lv_iload hx hb dX12_rule_49 (lv_at hl 0 rfl) ?_
                              refine lv_bipush (v := 10) hx hb dX12_rule_51 (by decide) ?_
                              refine lv_irem hx hb dX12_rule_53 (by decide) ?_
                              refine lv_topi (fun x188 ex188 => ?_)
                              have tx188 : x188.toInt = (((((((((((A2 / 10)) / 10)) / 10)) / 10)) / 10)) % 10) := jrem ex188 tx153 jz_10 (by omega)
                              refine lv_i2l (v := x188.toInt64) hx hb dX12_rule_54 rfl ?_
                              refine lv_lconst (v := 1) hx hb dX12_rule_55 (by decide) ?_
                              refine lv_ldc2 (v := 4) hx hb hown (hts _ kw_13_5) dX12_rule_56 ?_
                              refine jcallS (As := [.long x188.toInt64, .long 1, .long 4]) (rest := []) ⟨hx, hb, hml, hown, hts⟩ hK hP hA hS (c_X12_within l D cI cL ad hJ σ τ x188.toInt64 ((((((((((((A2 / 10)) / 10)) / 10)) / 10)) / 10)) % 10)) (jtoL tx188) 1 (1) jzl_1 4 (4) jzl_4) cw_RX12_136 ⟨Nat.le_of_ble_eq_true rfl, Nat.le_of_ble_eq_true rfl⟩ rfl rfl rfl hl.1 rfl (Nat.le_of_ble_eq_true rfl) dX12_rule_59 ⟨Nat.zero_le _, Nat.zero_le _⟩ (fun r190 σ189 τ189 H locs h189 hP hS => ?_)
                              obtain ⟨⟨rfl, rfl⟩, h189⟩ := h189
                              rcases h189 with h191 | h192
                              · obtain ⟨q194, k193⟩ := h191
                                have q194 := q194.symm
                                subst q194
                                refine lv_if_ne (tgt := 67) hx hb dX12_rule_62 (by decide) (fun _ => ?_) (fun c => absurd c (by decide))
                                refine lv_iinc (v := 6) (lv' := [(4, .int 6), (5, .int x153), (0, .ref (ad 55)), (1, .int a1), (2, .int a2), (3, .int a3)]) hx hb dX12_rule_67 hl (k := 1) rfl (by decide) (by decide) rfl (fun ls hl => ?_)
                                refine lv_iload hx hb dX12_rule_70 (lv_at hl 1 rfl) ?_
                                refine lv_bipush (v := 10) hx hb dX12_rule_72 (by decide) ?_
                                refine lv_idiv hx hb dX12_rule_74 (by decide) ?_
                                refine lv_topi (fun x195 ex195 => ?_)
                                have tx195 : x195.toInt = (((((((((((A2 / 10)) / 10)) / 10)) / 10)) / 10)) / 10) := jdiv ex195 tx153 jz_10 (by omega) (by omega)
                                refine lv_istore (lv' := [(5, .int x195), (4, .int 6), (0, .ref (ad 55)), (1, .int a1), (2, .int a2), (3, .int a3)]) hx hb dX12_rule_75 hl (by decide) rfl (fun ls hl => ?_)
                                refine lv_goto (tgt := 44) hx hb dX12_rule_77 (by decide) ?_
                                refine lv_iload hx hb dX12_rule_44 (lv_at hl 0 rfl) ?_
                                refine lv_if_le (tgt := 80) hx hb dX12_rule_46 (by decide) (fun c196 => ?_) (fun c196 => ?_)
                                · have kc196 := jle c196 tx195 jz_0
                                  refine lv_aload_n hx hb dX12_rule_80 rfl (lv_at hl 2 rfl) ?_
                                  refine va_get (D := D) hx hb hts inlX12 hown hK hP 55 (jc_55 cI cL ad σ τ) rfl 32 (by decide) (hts _ kw_25_1) (fun _ h9 => h9) rfl dX12_rule_81 ?_
                                  refine jtopr h55_32 ?_
                                  refine lv_bipush (v := 20) hx hb dX12_rule_84 (by decide) ?_
                                  refine lv_icmp_ne (tgt := 92) hx hb dX12_rule_86 (by decide) (fun _ => ?_) (fun c => absurd c (by decide))
                                  refine lv_iload_n hx hb dX12_rule_92 rfl (lv_at hl 4 rfl) ?_
                                  refine lv_istore (lv' := [(5, .int a2), (4, .int 6), (0, .ref (ad 55)), (1, .int a1), (2, .int a2), (3, .int a3)]) hx hb dX12_rule_93 hl (by decide) rfl (fun ls hl => ?_)
                                  refine lv_iload hx hb dX12_rule_95 (lv_at hl 1 rfl) ?_
                                  refine lv_iconst (v := 1) hx hb dX12_rule_97 (by decide) ?_
                                  refine lv_isub hx hb dX12_rule_98 ?_
                                  refine jtopr (y := 5) (by decide) ?_
                                  refine lv_istore (lv' := [(6, .int 5), (5, .int a2), (4, .int 6), (0, .ref (ad 55)), (1, .int a1), (2, .int a2), (3, .int a3)]) hx hb dX12_rule_99 hl (by decide) rfl (fun ls hl => ?_)
                                  refine lv_iload hx hb dX12_rule_101 (lv_at hl 0 rfl) ?_
                                  refine lv_if_lt (tgt := 141) hx hb dX12_rule_103 (by decide) (fun c => absurd c (by decide)) (fun _ => ?_)
                                  refine lv_aload_n hx hb dX12_rule_106 rfl (lv_at hl 3 rfl) ?_
                                  refine va_get (D := D) hx hb hts inlX12 hown hK hP 55 (jc_55 cI cL ad σ τ) rfl 35 (by decide) (hts _ kw_7_20) (fun _ h9 => h9) rfl dX12_rule_107 ?_
                                  refine lv_bipush (v := 8) hx hb dX12_rule_110 (by decide) ?_
                                  refine lv_aload_n hx hb dX12_rule_112 rfl (lv_at hl 3 rfl) ?_
                                  refine va_get (D := D) hx hb hts inlX12 hown hK hP 55 (jc_55 cI cL ad σ τ) rfl 32 (by decide) (hts _ kw_25_1) (fun _ h9 => h9) rfl dX12_rule_113 ?_
                                  refine jtopr h55_32 ?_
                                  refine lv_imul hx hb dX12_rule_116 ?_
                                  refine jtopr (y := 0) (by decide) ?_
                                  refine lv_iload hx hb dX12_rule_117 (lv_at hl 0 rfl) ?_
                                  refine lv_iadd hx hb dX12_rule_119 ?_
                                  refine jtopr (y := 5) (by decide) ?_
                                  refine lv_iload hx hb dX12_rule_120 (lv_at hl 1 rfl) ?_
                                  refine lv_bipush (v := 10) hx hb dX12_rule_122 (by decide) ?_
                                  refine lv_irem hx hb dX12_rule_124 (by decide) ?_
                                  refine lv_topi (fun x197 ex197 => ?_)
                                  have tx197 : x197.toInt = (A2 % 10) := jrem ex197 t2 jz_10 (by omega)
                                  refine lv_iconst (v := 1) hx hb dX12_rule_125 (by decide) ?_
                                  refine lv_isub hx hb dX12_rule_126 ?_
                                  refine lv_topi (fun x198 ex198 => ?_)
                                  have tx198 : x198.toInt = (A2 % 10) - 1 := (jsub ex198 tx197 jz_1 (by omega) (by omega)).trans (by omega)
                                  refine jast hx hb hK hP hJ hA hS (jc_72 cI cL ad σ τ) (ja_72 cI cL ad σ τ _ _) (jin jz_5 (by omega) (by omega)) dX12_rule_127 (fun σ199 H locs eσ199 hP hS => ?_)
                                  have eσ199 : σ199 = jup σ 72 5 x198 := eσ199
                                  refine lv_iload hx hb dX12_rule_128 (lv_at hl 1 rfl) ?_
                                  refine lv_bipush (v := 10) hx hb dX12_rule_130 (by decide) ?_
                                  refine lv_idiv hx hb dX12_rule_132 (by decide) ?_
                                  refine lv_topi (fun x200 ex200 => ?_)
                                  have tx200 : x200.toInt = (A2 / 10) := jdiv ex200 t2 jz_10 (by omega) (by omega)
                                  refine lv_istore (lv' := [(5, .int x200), (6, .int 5), (4, .int 6), (0, .ref (ad 55)), (1, .int a1), (2, .int a2), (3, .int a3)]) hx hb dX12_rule_133 hl (by decide) rfl (fun ls hl => ?_)
                                  refine lv_iinc (v := 4) (lv' := [(6, .int 4), (5, .int x200), (4, .int 6), (0, .ref (ad 55)), (1, .int a1), (2, .int a2), (3, .int a3)]) hx hb dX12_rule_135 hl (k := 1) rfl (by decide) (by decide) rfl (fun ls hl => ?_)
                                  refine lv_goto (tgt := 101) hx hb dX12_rule_138 (by decide) ?_
                                  refine lv_iload hx hb dX12_rule_101 (lv_at hl 0 rfl) ?_
                                  refine lv_if_lt (tgt := 141) hx hb dX12_rule_103 (by decide) (fun c => absurd c (by decide)) (fun _ => ?_)
                                  refine lv_aload_n hx hb dX12_rule_106 rfl (lv_at hl 3 rfl) ?_
                                  refine va_get (D := D) hx hb hts inlX12 hown hK hP 55 (jc_55 cI cL ad σ199 τ) rfl 35 (by decide) (hts _ kw_7_20) (fun _ h9 => h9) rfl dX12_rule_107 ?_
                                  refine lv_bipush (v := 8) hx hb dX12_rule_110 (by decide) ?_
                                  refine lv_aload_n hx hb dX12_rule_112 rfl (lv_at hl 3 rfl) ?_
                                  refine va_get (D := D) hx hb hts inlX12 hown hK hP 55 (jc_55 cI cL ad σ199 τ) rfl 32 (by decide) (hts _ kw_25_1) (fun _ h9 => h9) rfl dX12_rule_113 ?_
                                  have m201 : σ199 55 32 = 0 := (by rw [eσ199, jup_n (by decide)]; exact h55_32)
                                  refine jtopr m201 ?_
                                  refine lv_imul hx hb dX12_rule_116 ?_
                                  refine jtopr (y := 0) (by decide) ?_
                                  refine lv_iload hx hb dX12_rule_117 (lv_at hl 0 rfl) ?_
                                  refine lv_iadd hx hb dX12_rule_119 ?_
                                  refine jtopr (y := 4) (by decide) ?_
                                  refine lv_iload hx hb dX12_rule_120 (lv_at hl 1 rfl) ?_
                                  refine lv_bipush (v := 10) hx hb dX12_rule_122 (by decide) ?_
                                  refine lv_irem hx hb dX12_rule_124 (by decide) ?_
                                  refine lv_topi (fun x202 ex202 => ?_)
                                  have tx202 : x202.toInt = (((A2 / 10)) % 10) := jrem ex202 tx200 jz_10 (by omega)
                                  refine lv_iconst (v := 1) hx hb dX12_rule_125 (by decide) ?_
                                  refine lv_isub hx hb dX12_rule_126 ?_
                                  refine lv_topi (fun x203 ex203 => ?_)
                                  have tx203 : x203.toInt = (((A2 / 10)) % 10) - 1 := (jsub ex203 tx202 jz_1 (by omega) (by omega)).trans (by omega)
                                  refine jast hx hb hK hP hJ hA hS (jc_72 cI cL ad σ199 τ) (ja_72 cI cL ad σ199 τ _ _) (jin jz_4 (by omega) (by omega)) dX12_rule_127 (fun σ204 H locs eσ204 hP hS => ?_)
                                  have eσ204 : σ204 = jup σ199 72 4 x203 := eσ204
                                  refine lv_iload hx hb dX12_rule_128 (lv_at hl 1 rfl) ?_
                                  refine lv_bipush (v := 10) hx hb dX12_rule_130 (by decide) ?_
                                  refine lv_idiv hx hb dX12_rule_132 (by decide) ?_
                                  refine lv_topi (fun x205 ex205 => ?_)
                                  have tx205 : x205.toInt = (((A2 / 10)) / 10) := jdiv ex205 tx200 jz_10 (by omega) (by omega)
                                  refine lv_istore (lv' := [(5, .int x205), (6, .int 4), (4, .int 6), (0, .ref (ad 55)), (1, .int a1), (2, .int a2), (3, .int a3)]) hx hb dX12_rule_133 hl (by decide) rfl (fun ls hl => ?_)
                                  refine lv_iinc (v := 3) (lv' := [(6, .int 3), (5, .int x205), (4, .int 6), (0, .ref (ad 55)), (1, .int a1), (2, .int a2), (3, .int a3)]) hx hb dX12_rule_135 hl (k := 1) rfl (by decide) (by decide) rfl (fun ls hl => ?_)
                                  refine lv_goto (tgt := 101) hx hb dX12_rule_138 (by decide) ?_
                                  refine lv_iload hx hb dX12_rule_101 (lv_at hl 0 rfl) ?_
                                  refine lv_if_lt (tgt := 141) hx hb dX12_rule_103 (by decide) (fun c => absurd c (by decide)) (fun _ => ?_)
                                  refine lv_aload_n hx hb dX12_rule_106 rfl (lv_at hl 3 rfl) ?_
                                  refine va_get (D := D) hx hb hts inlX12 hown hK hP 55 (jc_55 cI cL ad σ204 τ) rfl 35 (by decide) (hts _ kw_7_20) (fun _ h9 => h9) rfl dX12_rule_107 ?_
                                  refine lv_bipush (v := 8) hx hb dX12_rule_110 (by decide) ?_
                                  refine lv_aload_n hx hb dX12_rule_112 rfl (lv_at hl 3 rfl) ?_
                                  refine va_get (D := D) hx hb hts inlX12 hown hK hP 55 (jc_55 cI cL ad σ204 τ) rfl 32 (by decide) (hts _ kw_25_1) (fun _ h9 => h9) rfl dX12_rule_113 ?_
                                  have m206 : σ204 55 32 = 0 := (by rw [eσ204, jup_n (by decide)]; exact m201)
                                  refine jtopr m206 ?_
                                  refine lv_imul hx hb dX12_rule_116 ?_
                                  refine jtopr (y := 0) (by decide) ?_
                                  refine lv_iload hx hb dX12_rule_117 (lv_at hl 0 rfl) ?_
                                  refine lv_iadd hx hb dX12_rule_119 ?_
                                  refine jtopr (y := 3) (by decide) ?_
                                  refine lv_iload hx hb dX12_rule_120 (lv_at hl 1 rfl) ?_
                                  refine lv_bipush (v := 10) hx hb dX12_rule_122 (by decide) ?_
                                  refine lv_irem hx hb dX12_rule_124 (by decide) ?_
                                  refine lv_topi (fun x207 ex207 => ?_)
                                  have tx207 : x207.toInt = (((((A2 / 10)) / 10)) % 10) := jrem ex207 tx205 jz_10 (by omega)
                                  refine lv_iconst (v := 1) hx hb dX12_rule_125 (by decide) ?_
                                  refine lv_isub hx hb dX12_rule_126 ?_
                                  refine lv_topi (fun x208 ex208 => ?_)
                                  have tx208 : x208.toInt = (((((A2 / 10)) / 10)) % 10) - 1 := (jsub ex208 tx207 jz_1 (by omega) (by omega)).trans (by omega)
                                  refine jast hx hb hK hP hJ hA hS (jc_72 cI cL ad σ204 τ) (ja_72 cI cL ad σ204 τ _ _) (jin jz_3 (by omega) (by omega)) dX12_rule_127 (fun σ209 H locs eσ209 hP hS => ?_)
                                  have eσ209 : σ209 = jup σ204 72 3 x208 := eσ209
                                  refine lv_iload hx hb dX12_rule_128 (lv_at hl 1 rfl) ?_
                                  refine lv_bipush (v := 10) hx hb dX12_rule_130 (by decide) ?_
                                  refine lv_idiv hx hb dX12_rule_132 (by decide) ?_
                                  refine lv_topi (fun x210 ex210 => ?_)
                                  have tx210 : x210.toInt = (((((A2 / 10)) / 10)) / 10) := jdiv ex210 tx205 jz_10 (by omega) (by omega)
                                  refine lv_istore (lv' := [(5, .int x210), (6, .int 3), (4, .int 6), (0, .ref (ad 55)), (1, .int a1), (2, .int a2), (3, .int a3)]) hx hb dX12_rule_133 hl (by decide) rfl (fun ls hl => ?_)
                                  refine lv_iinc (v := 2) (lv' := [(6, .int 2), (5, .int x210), (4, .int 6), (0, .ref (ad 55)), (1, .int a1), (2, .int a2), (3, .int a3)]) hx hb dX12_rule_135 hl (k := 1) rfl (by decide) (by decide) rfl (fun ls hl => ?_)
                                  refine lv_goto (tgt := 101) hx hb dX12_rule_138 (by decide) ?_
                                  refine lv_iload hx hb dX12_rule_101 (lv_at hl 0 rfl) ?_
                                  refine lv_if_lt (tgt := 141) hx hb dX12_rule_103 (by decide) (fun c => absurd c (by decide)) (fun _ => ?_)
                                  refine lv_aload_n hx hb dX12_rule_106 rfl (lv_at hl 3 rfl) ?_
                                  refine va_get (D := D) hx hb hts inlX12 hown hK hP 55 (jc_55 cI cL ad σ209 τ) rfl 35 (by decide) (hts _ kw_7_20) (fun _ h9 => h9) rfl dX12_rule_107 ?_
                                  refine lv_bipush (v := 8) hx hb dX12_rule_110 (by decide) ?_
                                  refine lv_aload_n hx hb dX12_rule_112 rfl (lv_at hl 3 rfl) ?_
                                  refine va_get (D := D) hx hb hts inlX12 hown hK hP 55 (jc_55 cI cL ad σ209 τ) rfl 32 (by decide) (hts _ kw_25_1) (fun _ h9 => h9) rfl dX12_rule_113 ?_
                                  have m211 : σ209 55 32 = 0 := (by rw [eσ209, jup_n (by decide)]; exact m206)
                                  refine jtopr m211 ?_
                                  refine lv_imul hx hb dX12_rule_116 ?_
                                  refine jtopr (y := 0) (by decide) ?_
                                  refine lv_iload hx hb dX12_rule_117 (lv_at hl 0 rfl) ?_
                                  refine lv_iadd hx hb dX12_rule_119 ?_
                                  refine jtopr (y := 2) (by decide) ?_
                                  refine lv_iload hx hb dX12_rule_120 (lv_at hl 1 rfl) ?_
                                  refine lv_bipush (v := 10) hx hb dX12_rule_122 (by decide) ?_
                                  refine lv_irem hx hb dX12_rule_124 (by decide) ?_
                                  refine lv_topi (fun x212 ex212 => ?_)
                                  have tx212 : x212.toInt = (((((((A2 / 10)) / 10)) / 10)) % 10) := jrem ex212 tx210 jz_10 (by omega)
                                  refine lv_iconst (v := 1) hx hb dX12_rule_125 (by decide) ?_
                                  refine lv_isub hx hb dX12_rule_126 ?_
                                  refine lv_topi (fun x213 ex213 => ?_)
                                  have tx213 : x213.toInt = (((((((A2 / 10)) / 10)) / 10)) % 10) - 1 := (jsub ex213 tx212 jz_1 (by omega) (by omega)).trans (by omega)
                                  refine jast hx hb hK hP hJ hA hS (jc_72 cI cL ad σ209 τ) (ja_72 cI cL ad σ209 τ _ _) (jin jz_2 (by omega) (by omega)) dX12_rule_127 (fun σ214 H locs eσ214 hP hS => ?_)
                                  have eσ214 : σ214 = jup σ209 72 2 x213 := eσ214
                                  refine lv_iload hx hb dX12_rule_128 (lv_at hl 1 rfl) ?_
                                  refine lv_bipush (v := 10) hx hb dX12_rule_130 (by decide) ?_
                                  refine lv_idiv hx hb dX12_rule_132 (by decide) ?_
                                  refine lv_topi (fun x215 ex215 => ?_)
                                  have tx215 : x215.toInt = (((((((A2 / 10)) / 10)) / 10)) / 10) := jdiv ex215 tx210 jz_10 (by omega) (by omega)
                                  refine lv_istore (lv' := [(5, .int x215), (6, .int 2), (4, .int 6), (0, .ref (ad 55)), (1, .int a1), (2, .int a2), (3, .int a3)]) hx hb dX12_rule_133 hl (by decide) rfl (fun ls hl => ?_)
                                  refine lv_iinc (v := 1) (lv' := [(6, .int 1), (5, .int x215), (4, .int 6), (0, .ref (ad 55)), (1, .int a1), (2, .int a2), (3, .int a3)]) hx hb dX12_rule_135 hl (k := 1) rfl (by decide) (by decide) rfl (fun ls hl => ?_)
                                  refine lv_goto (tgt := 101) hx hb dX12_rule_138 (by decide) ?_
                                  refine lv_iload hx hb dX12_rule_101 (lv_at hl 0 rfl) ?_
                                  refine lv_if_lt (tgt := 141) hx hb dX12_rule_103 (by decide) (fun c => absurd c (by decide)) (fun _ => ?_)
                                  refine lv_aload_n hx hb dX12_rule_106 rfl (lv_at hl 3 rfl) ?_
                                  refine va_get (D := D) hx hb hts inlX12 hown hK hP 55 (jc_55 cI cL ad σ214 τ) rfl 35 (by decide) (hts _ kw_7_20) (fun _ h9 => h9) rfl dX12_rule_107 ?_
                                  refine lv_bipush (v := 8) hx hb dX12_rule_110 (by decide) ?_
                                  refine lv_aload_n hx hb dX12_rule_112 rfl (lv_at hl 3 rfl) ?_
                                  refine va_get (D := D) hx hb hts inlX12 hown hK hP 55 (jc_55 cI cL ad σ214 τ) rfl 32 (by decide) (hts _ kw_25_1) (fun _ h9 => h9) rfl dX12_rule_113 ?_
                                  have m216 : σ214 55 32 = 0 := (by rw [eσ214, jup_n (by decide)]; exact m211)
                                  refine jtopr m216 ?_
                                  refine lv_imul hx hb dX12_rule_116 ?_
                                  refine jtopr (y := 0) (by decide) ?_
                                  refine lv_iload hx hb dX12_rule_117 (lv_at hl 0 rfl) ?_
                                  refine lv_iadd hx hb dX12_rule_119 ?_
                                  refine jtopr (y := 1) (by decide) ?_
                                  refine lv_iload hx hb dX12_rule_120 (lv_at hl 1 rfl) ?_
                                  refine lv_bipush (v := 10) hx hb dX12_rule_122 (by decide) ?_
                                  refine lv_irem hx hb dX12_rule_124 (by decide) ?_
                                  refine lv_topi (fun x217 ex217 => ?_)
                                  have tx217 : x217.toInt = (((((((((A2 / 10)) / 10)) / 10)) / 10)) % 10) := jrem ex217 tx215 jz_10 (by omega)
                                  refine lv_iconst (v := 1) hx hb dX12_rule_125 (by decide) ?_
                                  refine lv_isub hx hb dX12_rule_126 ?_
                                  refine lv_topi (fun x218 ex218 => ?_)
                                  have tx218 : x218.toInt = (((((((((A2 / 10)) / 10)) / 10)) / 10)) % 10) - 1 := (jsub ex218 tx217 jz_1 (by omega) (by omega)).trans (by omega)
                                  refine jast hx hb hK hP hJ hA hS (jc_72 cI cL ad σ214 τ) (ja_72 cI cL ad σ214 τ _ _) (jin jz_1 (by omega) (by omega)) dX12_rule_127 (fun σ219 H locs eσ219 hP hS => ?_)
                                  have eσ219 : σ219 = jup σ214 72 1 x218 := eσ219
                                  refine lv_iload hx hb dX12_rule_128 (lv_at hl 1 rfl) ?_
                                  refine lv_bipush (v := 10) hx hb dX12_rule_130 (by decide) ?_
                                  refine lv_idiv hx hb dX12_rule_132 (by decide) ?_
                                  refine lv_topi (fun x220 ex220 => ?_)
                                  have tx220 : x220.toInt = (((((((((A2 / 10)) / 10)) / 10)) / 10)) / 10) := jdiv ex220 tx215 jz_10 (by omega) (by omega)
                                  refine lv_istore (lv' := [(5, .int x220), (6, .int 1), (4, .int 6), (0, .ref (ad 55)), (1, .int a1), (2, .int a2), (3, .int a3)]) hx hb dX12_rule_133 hl (by decide) rfl (fun ls hl => ?_)
                                  refine lv_iinc (v := 0) (lv' := [(6, .int 0), (5, .int x220), (4, .int 6), (0, .ref (ad 55)), (1, .int a1), (2, .int a2), (3, .int a3)]) hx hb dX12_rule_135 hl (k := 1) rfl (by decide) (by decide) rfl (fun ls hl => ?_)
                                  refine lv_goto (tgt := 101) hx hb dX12_rule_138 (by decide) ?_
                                  refine lv_iload hx hb dX12_rule_101 (lv_at hl 0 rfl) ?_
                                  refine lv_if_lt (tgt := 141) hx hb dX12_rule_103 (by decide) (fun c => absurd c (by decide)) (fun _ => ?_)
                                  refine lv_aload_n hx hb dX12_rule_106 rfl (lv_at hl 3 rfl) ?_
                                  refine va_get (D := D) hx hb hts inlX12 hown hK hP 55 (jc_55 cI cL ad σ219 τ) rfl 35 (by decide) (hts _ kw_7_20) (fun _ h9 => h9) rfl dX12_rule_107 ?_
                                  refine lv_bipush (v := 8) hx hb dX12_rule_110 (by decide) ?_
                                  refine lv_aload_n hx hb dX12_rule_112 rfl (lv_at hl 3 rfl) ?_
                                  refine va_get (D := D) hx hb hts inlX12 hown hK hP 55 (jc_55 cI cL ad σ219 τ) rfl 32 (by decide) (hts _ kw_25_1) (fun _ h9 => h9) rfl dX12_rule_113 ?_
                                  have m221 : σ219 55 32 = 0 := (by rw [eσ219, jup_n (by decide)]; exact m216)
                                  refine jtopr m221 ?_
                                  refine lv_imul hx hb dX12_rule_116 ?_
                                  refine jtopr (y := 0) (by decide) ?_
                                  refine lv_iload hx hb dX12_rule_117 (lv_at hl 0 rfl) ?_
                                  refine lv_iadd hx hb dX12_rule_119 ?_
                                  refine jtopr (y := 0) (by decide) ?_
                                  refine lv_iload hx hb dX12_rule_120 (lv_at hl 1 rfl) ?_
                                  refine lv_bipush (v := 10) hx hb dX12_rule_122 (by decide) ?_
                                  refine lv_irem hx hb dX12_rule_124 (by decide) ?_
                                  refine lv_topi (fun x222 ex222 => ?_)
                                  have tx222 : x222.toInt = (((((((((((A2 / 10)) / 10)) / 10)) / 10)) / 10)) % 10) := jrem ex222 tx220 jz_10 (by omega)
                                  refine lv_iconst (v := 1) hx hb dX12_rule_125 (by decide) ?_
                                  refine lv_isub hx hb dX12_rule_126 ?_
                                  refine lv_topi (fun x223 ex223 => ?_)
                                  have tx223 : x223.toInt = (((((((((((A2 / 10)) / 10)) / 10)) / 10)) / 10)) % 10) - 1 := (jsub ex223 tx222 jz_1 (by omega) (by omega)).trans (by omega)
                                  refine jast hx hb hK hP hJ hA hS (jc_72 cI cL ad σ219 τ) (ja_72 cI cL ad σ219 τ _ _) (jin jz_0 (by omega) (by omega)) dX12_rule_127 (fun σ224 H locs eσ224 hP hS => ?_)
                                  have eσ224 : σ224 = jup σ219 72 0 x223 := eσ224
                                  refine lv_iload hx hb dX12_rule_128 (lv_at hl 1 rfl) ?_
                                  refine lv_bipush (v := 10) hx hb dX12_rule_130 (by decide) ?_
                                  refine lv_idiv hx hb dX12_rule_132 (by decide) ?_
                                  refine lv_topi (fun x225 ex225 => ?_)
                                  have tx225 : x225.toInt = (((((((((((A2 / 10)) / 10)) / 10)) / 10)) / 10)) / 10) := jdiv ex225 tx220 jz_10 (by omega) (by omega)
                                  refine lv_istore (lv' := [(5, .int x225), (6, .int 0), (4, .int 6), (0, .ref (ad 55)), (1, .int a1), (2, .int a2), (3, .int a3)]) hx hb dX12_rule_133 hl (by decide) rfl (fun ls hl => ?_)
                                  refine lv_iinc (v := (-1)) (lv' := [(6, .int (-1)), (5, .int x225), (4, .int 6), (0, .ref (ad 55)), (1, .int a1), (2, .int a2), (3, .int a3)]) hx hb dX12_rule_135 hl (k := 1) rfl (by decide) (by decide) rfl (fun ls hl => ?_)
                                  refine lv_goto (tgt := 101) hx hb dX12_rule_138 (by decide) ?_
                                  refine lv_iload hx hb dX12_rule_101 (lv_at hl 0 rfl) ?_
                                  refine lv_if_lt (tgt := 141) hx hb dX12_rule_103 (by decide) (fun _ => ?_) (fun c => absurd (by decide) c)
                                  refine lv_aload_n hx hb dX12_rule_141 rfl (lv_at hl 3 rfl) ?_
                                  refine va_get (D := D) hx hb hts inlX12 hown hK hP 55 (jc_55 cI cL ad σ224 τ) rfl 33 (by decide) (hts _ kw_7_18) (fun _ h9 => h9) rfl dX12_rule_142 ?_
                                  refine lv_aload_n hx hb dX12_rule_145 rfl (lv_at hl 3 rfl) ?_
                                  refine va_get (D := D) hx hb hts inlX12 hown hK hP 55 (jc_55 cI cL ad σ224 τ) rfl 32 (by decide) (hts _ kw_25_1) (fun _ h9 => h9) rfl dX12_rule_146 ?_
                                  have m226 : σ224 55 32 = 0 := (by rw [eσ224, jup_n (by decide)]; exact m221)
                                  refine jtopr m226 ?_
                                  refine lv_iload_n hx hb dX12_rule_149 rfl (lv_at hl 4 rfl) ?_
                                  refine jast hx hb hK hP hJ hA hS (jc_70 cI cL ad σ224 τ) (ja_70 cI cL ad σ224 τ _ _) (jin jz_0 (by omega) (by omega)) dX12_rule_150 (fun σ227 H locs eσ227 hP hS => ?_)
                                  have eσ227 : σ227 = jup σ224 70 0 a1 := eσ227
                                  refine lv_aload_n hx hb dX12_rule_151 rfl (lv_at hl 3 rfl) ?_
                                  refine va_get (D := D) hx hb hts inlX12 hown hK hP 55 (jc_55 cI cL ad σ227 τ) rfl 34 (by decide) (hts _ kw_7_19) (fun _ h9 => h9) rfl dX12_rule_152 ?_
                                  refine lv_aload_n hx hb dX12_rule_155 rfl (lv_at hl 3 rfl) ?_
                                  refine va_get (D := D) hx hb hts inlX12 hown hK hP 55 (jc_55 cI cL ad σ227 τ) rfl 32 (by decide) (hts _ kw_25_1) (fun _ h9 => h9) rfl dX12_rule_156 ?_
                                  have m228 : σ227 55 32 = 0 := (by rw [eσ227, jup_n (by decide)]; exact m226)
                                  refine jtopr m228 ?_
                                  refine lv_iload hx hb dX12_rule_159 (lv_at hl 2 rfl) ?_
                                  refine jast hx hb hK hP hJ hA hS (jc_71 cI cL ad σ227 τ) (ja_71 cI cL ad σ227 τ _ _) (jin jz_0 (by omega) (by omega)) dX12_rule_161 (fun σ229 H locs eσ229 hP hS => ?_)
                                  have eσ229 : σ229 = jup σ227 71 0 6 := eσ229
                                  refine lv_aload_n hx hb dX12_rule_162 rfl (lv_at hl 3 rfl) ?_
                                  refine va_get (D := D) hx hb hts inlX12 hown hK hP 55 (jc_55 cI cL ad σ229 τ) rfl 36 (by decide) (hts _ kw_7_21) (fun _ h9 => h9) rfl dX12_rule_163 ?_
                                  refine lv_aload_n hx hb dX12_rule_166 rfl (lv_at hl 3 rfl) ?_
                                  refine va_get (D := D) hx hb hts inlX12 hown hK hP 55 (jc_55 cI cL ad σ229 τ) rfl 32 (by decide) (hts _ kw_25_1) (fun _ h9 => h9) rfl dX12_rule_167 ?_
                                  have m230 : σ229 55 32 = 0 := (by rw [eσ229, jup_n (by decide)]; exact m228)
                                  refine jtopr m230 ?_
                                  refine lv_iload_n hx hb dX12_rule_170 rfl (lv_at hl 6 rfl) ?_
                                  refine jast hx hb hK hP hJ hA hS (jc_73 cI cL ad σ229 τ) (ja_73 cI cL ad σ229 τ _ _) (jin jz_0 (by omega) (by omega)) dX12_rule_171 (fun σ231 H locs eσ231 hP hS => ?_)
                                  have eσ231 : σ231 = jup σ229 73 0 a3 := eσ231
                                  refine lv_aload_n hx hb dX12_rule_172 rfl (lv_at hl 3 rfl) ?_
                                  refine lv_dup hx hb dX12_rule_173 rfl ?_
                                  refine va_get (D := D) hx hb hts inlX12 hown hK hP 55 (jc_55 cI cL ad σ231 τ) rfl 32 (by decide) (hts _ kw_25_1) (fun _ h9 => h9) rfl dX12_rule_174 ?_
                                  have m232 : σ231 55 32 = 0 := (by rw [eσ231, jup_n (by decide)]; exact m230)
                                  refine jtopr m232 ?_
                                  refine lv_iconst (v := 1) hx hb dX12_rule_177 (by decide) ?_
                                  refine lv_iadd hx hb dX12_rule_178 ?_
                                  refine jtopr (y := 1) (by decide) ?_
                                  refine jput (ty := .int) hx hb hts inlX12 tyX12 tyX12_ok nmX12 hown hK hP hJ hA hS (jc_55 cI cL ad σ231 τ) rfl (k := 32) (by decide) (Nat.le_of_ble_eq_true rfl) (jp_55_32 cI cL ad σ231 τ 1) (hts _ kw_25_1) (fun _ h9 => h9) rfl (by decide +kernel) rfl rfl dX12_rule_179 (fun σ233 H locs eσ233 hP hS => ?_)
                                  refine lv_aload_n hx hb dX12_rule_182 rfl (lv_at hl 3 rfl) ?_
                                  refine va_get (D := D) hx hb hts inlX12 hown hK hP 55 (jc_55 cI cL ad σ233 τ) rfl 32 (by decide) (hts _ kw_25_1) (fun _ h9 => h9) rfl dX12_rule_183 ?_
                                  have m234 : σ233 55 32 = 1 := (by rw [eσ233]; exact jup_s)
                                  refine jtopr m234 ?_
                                  refine lv_iconst (v := 1) hx hb dX12_rule_186 (by decide) ?_
                                  refine lv_isub hx hb dX12_rule_187 ?_
                                  refine jtopr (y := 0) (by decide) ?_
                                  exact hret 0 σ233 τ _ _ _ _ rfl ⟨trivial, (by (repeat' split) <;> first | rfl | omega | exact jsame jz_0 t1 (by omega) | exact jsame jz_0 t2 (by omega) | exact jsame jz_0 t3 (by omega) | (exfalso; omega))⟩ hP hS dX12_rule_188
                                · have kc196 := jnle c196 tx195 jz_0
                                  refine lv_iload hx hb dX12_rule_49 (lv_at hl 0 rfl) ?_
                                  refine lv_bipush (v := 10) hx hb dX12_rule_51 (by decide) ?_
                                  refine lv_irem hx hb dX12_rule_53 (by decide) ?_
                                  refine lv_topi (fun x235 ex235 => ?_)
                                  have tx235 : x235.toInt = (((((((((((((A2 / 10)) / 10)) / 10)) / 10)) / 10)) / 10)) % 10) := jrem ex235 tx195 jz_10 (by omega)
                                  refine lv_i2l (v := x235.toInt64) hx hb dX12_rule_54 rfl ?_
                                  refine lv_lconst (v := 1) hx hb dX12_rule_55 (by decide) ?_
                                  refine lv_ldc2 (v := 4) hx hb hown (hts _ kw_13_5) dX12_rule_56 ?_
                                  refine jcallS (As := [.long x235.toInt64, .long 1, .long 4]) (rest := []) ⟨hx, hb, hml, hown, hts⟩ hK hP hA hS (c_X12_within l D cI cL ad hJ σ τ x235.toInt64 ((((((((((((((A2 / 10)) / 10)) / 10)) / 10)) / 10)) / 10)) % 10)) (jtoL tx235) 1 (1) jzl_1 4 (4) jzl_4) cw_RX12_136 ⟨Nat.le_of_ble_eq_true rfl, Nat.le_of_ble_eq_true rfl⟩ rfl rfl rfl hl.1 rfl (Nat.le_of_ble_eq_true rfl) dX12_rule_59 ⟨Nat.zero_le _, Nat.zero_le _⟩ (fun r237 σ236 τ236 H locs h236 hP hS => ?_)
                                  obtain ⟨⟨rfl, rfl⟩, h236⟩ := h236
                                  rcases h236 with h238 | h239
                                  · obtain ⟨q241, k240⟩ := h238
                                    have q241 := q241.symm
                                    subst q241
                                    refine lv_if_ne (tgt := 67) hx hb dX12_rule_62 (by decide) (fun _ => ?_) (fun c => absurd c (by decide))
                                    refine lv_iinc (v := 7) (lv' := [(4, .int 7), (5, .int x195), (0, .ref (ad 55)), (1, .int a1), (2, .int a2), (3, .int a3)]) hx hb dX12_rule_67 hl (k := 1) rfl (by decide) (by decide) rfl (fun ls hl => ?_)
                                    refine lv_iload hx hb dX12_rule_70 (lv_at hl 1 rfl) ?_
                                    refine lv_bipush (v := 10) hx hb dX12_rule_72 (by decide) ?_
                                    refine lv_idiv hx hb dX12_rule_74 (by decide) ?_
                                    refine lv_topi (fun x242 ex242 => ?_)
                                    have tx242 : x242.toInt = (((((((((((((A2 / 10)) / 10)) / 10)) / 10)) / 10)) / 10)) / 10) := jdiv ex242 tx195 jz_10 (by omega) (by omega)
                                    refine lv_istore (lv' := [(5, .int x242), (4, .int 7), (0, .ref (ad 55)), (1, .int a1), (2, .int a2), (3, .int a3)]) hx hb dX12_rule_75 hl (by decide) rfl (fun ls hl => ?_)
                                    refine lv_goto (tgt := 44) hx hb dX12_rule_77 (by decide) ?_
                                    refine lv_iload hx hb dX12_rule_44 (lv_at hl 0 rfl) ?_
                                    refine lv_if_le (tgt := 80) hx hb dX12_rule_46 (by decide) (fun c243 => ?_) (fun c243 => ?_)
                                    · have kc243 := jle c243 tx242 jz_0
                                      refine lv_aload_n hx hb dX12_rule_80 rfl (lv_at hl 2 rfl) ?_
                                      refine va_get (D := D) hx hb hts inlX12 hown hK hP 55 (jc_55 cI cL ad σ τ) rfl 32 (by decide) (hts _ kw_25_1) (fun _ h9 => h9) rfl dX12_rule_81 ?_
                                      refine jtopr h55_32 ?_
                                      refine lv_bipush (v := 20) hx hb dX12_rule_84 (by decide) ?_
                                      refine lv_icmp_ne (tgt := 92) hx hb dX12_rule_86 (by decide) (fun _ => ?_) (fun c => absurd c (by decide))
                                      refine lv_iload_n hx hb dX12_rule_92 rfl (lv_at hl 4 rfl) ?_
                                      refine lv_istore (lv' := [(5, .int a2), (4, .int 7), (0, .ref (ad 55)), (1, .int a1), (2, .int a2), (3, .int a3)]) hx hb dX12_rule_93 hl (by decide) rfl (fun ls hl => ?_)
                                      refine lv_iload hx hb dX12_rule_95 (lv_at hl 1 rfl) ?_
                                      refine lv_iconst (v := 1) hx hb dX12_rule_97 (by decide) ?_
                                      refine lv_isub hx hb dX12_rule_98 ?_
                                      refine jtopr (y := 6) (by decide) ?_
                                      refine lv_istore (lv' := [(6, .int 6), (5, .int a2), (4, .int 7), (0, .ref (ad 55)), (1, .int a1), (2, .int a2), (3, .int a3)]) hx hb dX12_rule_99 hl (by decide) rfl (fun ls hl => ?_)
                                      refine lv_iload hx hb dX12_rule_101 (lv_at hl 0 rfl) ?_
                                      refine lv_if_lt (tgt := 141) hx hb dX12_rule_103 (by decide) (fun c => absurd c (by decide)) (fun _ => ?_)
                                      refine lv_aload_n hx hb dX12_rule_106 rfl (lv_at hl 3 rfl) ?_
                                      refine va_get (D := D) hx hb hts inlX12 hown hK hP 55 (jc_55 cI cL ad σ τ) rfl 35 (by decide) (hts _ kw_7_20) (fun _ h9 => h9) rfl dX12_rule_107 ?_
                                      refine lv_bipush (v := 8) hx hb dX12_rule_110 (by decide) ?_
                                      refine lv_aload_n hx hb dX12_rule_112 rfl (lv_at hl 3 rfl) ?_
                                      refine va_get (D := D) hx hb hts inlX12 hown hK hP 55 (jc_55 cI cL ad σ τ) rfl 32 (by decide) (hts _ kw_25_1) (fun _ h9 => h9) rfl dX12_rule_113 ?_
                                      refine jtopr h55_32 ?_
                                      refine lv_imul hx hb dX12_rule_116 ?_
                                      refine jtopr (y := 0) (by decide) ?_
                                      refine lv_iload hx hb dX12_rule_117 (lv_at hl 0 rfl) ?_
                                      refine lv_iadd hx hb dX12_rule_119 ?_
                                      refine jtopr (y := 6) (by decide) ?_
                                      refine lv_iload hx hb dX12_rule_120 (lv_at hl 1 rfl) ?_
                                      refine lv_bipush (v := 10) hx hb dX12_rule_122 (by decide) ?_
                                      refine lv_irem hx hb dX12_rule_124 (by decide) ?_
                                      refine lv_topi (fun x244 ex244 => ?_)
                                      have tx244 : x244.toInt = (A2 % 10) := jrem ex244 t2 jz_10 (by omega)
                                      refine lv_iconst (v := 1) hx hb dX12_rule_125 (by decide) ?_
                                      refine lv_isub hx hb dX12_rule_126 ?_
                                      refine lv_topi (fun x245 ex245 => ?_)
                                      have tx245 : x245.toInt = (A2 % 10) - 1 := (jsub ex245 tx244 jz_1 (by omega) (by omega)).trans (by omega)
                                      refine jast hx hb hK hP hJ hA hS (jc_72 cI cL ad σ τ) (ja_72 cI cL ad σ τ _ _) (jin jz_6 (by omega) (by omega)) dX12_rule_127 (fun σ246 H locs eσ246 hP hS => ?_)
                                      have eσ246 : σ246 = jup σ 72 6 x245 := eσ246
                                      refine lv_iload hx hb dX12_rule_128 (lv_at hl 1 rfl) ?_
                                      refine lv_bipush (v := 10) hx hb dX12_rule_130 (by decide) ?_
                                      refine lv_idiv hx hb dX12_rule_132 (by decide) ?_
                                      refine lv_topi (fun x247 ex247 => ?_)
                                      have tx247 : x247.toInt = (A2 / 10) := jdiv ex247 t2 jz_10 (by omega) (by omega)
                                      refine lv_istore (lv' := [(5, .int x247), (6, .int 6), (4, .int 7), (0, .ref (ad 55)), (1, .int a1), (2, .int a2), (3, .int a3)]) hx hb dX12_rule_133 hl (by decide) rfl (fun ls hl => ?_)
                                      refine lv_iinc (v := 5) (lv' := [(6, .int 5), (5, .int x247), (4, .int 7), (0, .ref (ad 55)), (1, .int a1), (2, .int a2), (3, .int a3)]) hx hb dX12_rule_135 hl (k := 1) rfl (by decide) (by decide) rfl (fun ls hl => ?_)
                                      refine lv_goto (tgt := 101) hx hb dX12_rule_138 (by decide) ?_
                                      refine lv_iload hx hb dX12_rule_101 (lv_at hl 0 rfl) ?_
                                      refine lv_if_lt (tgt := 141) hx hb dX12_rule_103 (by decide) (fun c => absurd c (by decide)) (fun _ => ?_)
                                      refine lv_aload_n hx hb dX12_rule_106 rfl (lv_at hl 3 rfl) ?_
                                      refine va_get (D := D) hx hb hts inlX12 hown hK hP 55 (jc_55 cI cL ad σ246 τ) rfl 35 (by decide) (hts _ kw_7_20) (fun _ h9 => h9) rfl dX12_rule_107 ?_
                                      refine lv_bipush (v := 8) hx hb dX12_rule_110 (by decide) ?_
                                      refine lv_aload_n hx hb dX12_rule_112 rfl (lv_at hl 3 rfl) ?_
                                      refine va_get (D := D) hx hb hts inlX12 hown hK hP 55 (jc_55 cI cL ad σ246 τ) rfl 32 (by decide) (hts _ kw_25_1) (fun _ h9 => h9) rfl dX12_rule_113 ?_
                                      have m248 : σ246 55 32 = 0 := (by rw [eσ246, jup_n (by decide)]; exact h55_32)
                                      refine jtopr m248 ?_
                                      refine lv_imul hx hb dX12_rule_116 ?_
                                      refine jtopr (y := 0) (by decide) ?_
                                      refine lv_iload hx hb dX12_rule_117 (lv_at hl 0 rfl) ?_
                                      refine lv_iadd hx hb dX12_rule_119 ?_
                                      refine jtopr (y := 5) (by decide) ?_
                                      refine lv_iload hx hb dX12_rule_120 (lv_at hl 1 rfl) ?_
                                      refine lv_bipush (v := 10) hx hb dX12_rule_122 (by decide) ?_
                                      refine lv_irem hx hb dX12_rule_124 (by decide) ?_
                                      refine lv_topi (fun x249 ex249 => ?_)
                                      have tx249 : x249.toInt = (((A2 / 10)) % 10) := jrem ex249 tx247 jz_10 (by omega)
                                      refine lv_iconst (v := 1) hx hb dX12_rule_125 (by decide) ?_
                                      refine lv_isub hx hb dX12_rule_126 ?_
                                      refine lv_topi (fun x250 ex250 => ?_)
                                      have tx250 : x250.toInt = (((A2 / 10)) % 10) - 1 := (jsub ex250 tx249 jz_1 (by omega) (by omega)).trans (by omega)
                                      refine jast hx hb hK hP hJ hA hS (jc_72 cI cL ad σ246 τ) (ja_72 cI cL ad σ246 τ _ _) (jin jz_5 (by omega) (by omega)) dX12_rule_127 (fun σ251 H locs eσ251 hP hS => ?_)
                                      have eσ251 : σ251 = jup σ246 72 5 x250 := eσ251
                                      refine lv_iload hx hb dX12_rule_128 (lv_at hl 1 rfl) ?_
                                      refine lv_bipush (v := 10) hx hb dX12_rule_130 (by decide) ?_
                                      refine lv_idiv hx hb dX12_rule_132 (by decide) ?_
                                      refine lv_topi (fun x252 ex252 => ?_)
                                      have tx252 : x252.toInt = (((A2 / 10)) / 10) := jdiv ex252 tx247 jz_10 (by omega) (by omega)
                                      refine lv_istore (lv' := [(5, .int x252), (6, .int 5), (4, .int 7), (0, .ref (ad 55)), (1, .int a1), (2, .int a2), (3, .int a3)]) hx hb dX12_rule_133 hl (by decide) rfl (fun ls hl => ?_)
                                      refine lv_iinc (v := 4) (lv' := [(6, .int 4), (5, .int x252), (4, .int 7), (0, .ref (ad 55)), (1, .int a1), (2, .int a2), (3, .int a3)]) hx hb dX12_rule_135 hl (k := 1) rfl (by decide) (by decide) rfl (fun ls hl => ?_)
                                      refine lv_goto (tgt := 101) hx hb dX12_rule_138 (by decide) ?_
                                      refine lv_iload hx hb dX12_rule_101 (lv_at hl 0 rfl) ?_
                                      refine lv_if_lt (tgt := 141) hx hb dX12_rule_103 (by decide) (fun c => absurd c (by decide)) (fun _ => ?_)
                                      refine lv_aload_n hx hb dX12_rule_106 rfl (lv_at hl 3 rfl) ?_
                                      refine va_get (D := D) hx hb hts inlX12 hown hK hP 55 (jc_55 cI cL ad σ251 τ) rfl 35 (by decide) (hts _ kw_7_20) (fun _ h9 => h9) rfl dX12_rule_107 ?_
                                      refine lv_bipush (v := 8) hx hb dX12_rule_110 (by decide) ?_
                                      refine lv_aload_n hx hb dX12_rule_112 rfl (lv_at hl 3 rfl) ?_
                                      refine va_get (D := D) hx hb hts inlX12 hown hK hP 55 (jc_55 cI cL ad σ251 τ) rfl 32 (by decide) (hts _ kw_25_1) (fun _ h9 => h9) rfl dX12_rule_113 ?_
                                      have m253 : σ251 55 32 = 0 := (by rw [eσ251, jup_n (by decide)]; exact m248)
                                      refine jtopr m253 ?_
                                      refine lv_imul hx hb dX12_rule_116 ?_
                                      refine jtopr (y := 0) (by decide) ?_
                                      refine lv_iload hx hb dX12_rule_117 (lv_at hl 0 rfl) ?_
                                      refine lv_iadd hx hb dX12_rule_119 ?_
                                      refine jtopr (y := 4) (by decide) ?_
                                      refine lv_iload hx hb dX12_rule_120 (lv_at hl 1 rfl) ?_
                                      refine lv_bipush (v := 10) hx hb dX12_rule_122 (by decide) ?_
                                      refine lv_irem hx hb dX12_rule_124 (by decide) ?_
                                      refine lv_topi (fun x254 ex254 => ?_)
                                      have tx254 : x254.toInt = (((((A2 / 10)) / 10)) % 10) := jrem ex254 tx252 jz_10 (by omega)
                                      refine lv_iconst (v := 1) hx hb dX12_rule_125 (by decide) ?_
                                      refine lv_isub hx hb dX12_rule_126 ?_
                                      refine lv_topi (fun x255 ex255 => ?_)
                                      have tx255 : x255.toInt = (((((A2 / 10)) / 10)) % 10) - 1 := (jsub ex255 tx254 jz_1 (by omega) (by omega)).trans (by omega)
                                      refine jast hx hb hK hP hJ hA hS (jc_72 cI cL ad σ251 τ) (ja_72 cI cL ad σ251 τ _ _) (jin jz_4 (by omega) (by omega)) dX12_rule_127 (fun σ256 H locs eσ256 hP hS => ?_)
                                      have eσ256 : σ256 = jup σ251 72 4 x255 := eσ256
                                      refine lv_iload hx hb dX12_rule_128 (lv_at hl 1 rfl) ?_
                                      refine lv_bipush (v := 10) hx hb dX12_rule_130 (by decide) ?_
                                      refine lv_idiv hx hb dX12_rule_132 (by decide) ?_
                                      refine lv_topi (fun x257 ex257 => ?_)
                                      have tx257 : x257.toInt = (((((A2 / 10)) / 10)) / 10) := jdiv ex257 tx252 jz_10 (by omega) (by omega)
                                      refine lv_istore (lv' := [(5, .int x257), (6, .int 4), (4, .int 7), (0, .ref (ad 55)), (1, .int a1), (2, .int a2), (3, .int a3)]) hx hb dX12_rule_133 hl (by decide) rfl (fun ls hl => ?_)
                                      refine lv_iinc (v := 3) (lv' := [(6, .int 3), (5, .int x257), (4, .int 7), (0, .ref (ad 55)), (1, .int a1), (2, .int a2), (3, .int a3)]) hx hb dX12_rule_135 hl (k := 1) rfl (by decide) (by decide) rfl (fun ls hl => ?_)
                                      refine lv_goto (tgt := 101) hx hb dX12_rule_138 (by decide) ?_
                                      refine lv_iload hx hb dX12_rule_101 (lv_at hl 0 rfl) ?_
                                      refine lv_if_lt (tgt := 141) hx hb dX12_rule_103 (by decide) (fun c => absurd c (by decide)) (fun _ => ?_)
                                      refine lv_aload_n hx hb dX12_rule_106 rfl (lv_at hl 3 rfl) ?_
                                      refine va_get (D := D) hx hb hts inlX12 hown hK hP 55 (jc_55 cI cL ad σ256 τ) rfl 35 (by decide) (hts _ kw_7_20) (fun _ h9 => h9) rfl dX12_rule_107 ?_
                                      refine lv_bipush (v := 8) hx hb dX12_rule_110 (by decide) ?_
                                      refine lv_aload_n hx hb dX12_rule_112 rfl (lv_at hl 3 rfl) ?_
                                      refine va_get (D := D) hx hb hts inlX12 hown hK hP 55 (jc_55 cI cL ad σ256 τ) rfl 32 (by decide) (hts _ kw_25_1) (fun _ h9 => h9) rfl dX12_rule_113 ?_
                                      have m258 : σ256 55 32 = 0 := (by rw [eσ256, jup_n (by decide)]; exact m253)
                                      refine jtopr m258 ?_
                                      refine lv_imul hx hb dX12_rule_116 ?_
                                      refine jtopr (y := 0) (by decide) ?_
                                      refine lv_iload hx hb dX12_rule_117 (lv_at hl 0 rfl) ?_
                                      refine lv_iadd hx hb dX12_rule_119 ?_
                                      refine jtopr (y := 3) (by decide) ?_
                                      refine lv_iload hx hb dX12_rule_120 (lv_at hl 1 rfl) ?_
                                      refine lv_bipush (v := 10) hx hb dX12_rule_122 (by decide) ?_
                                      refine lv_irem hx hb dX12_rule_124 (by decide) ?_
                                      refine lv_topi (fun x259 ex259 => ?_)
                                      have tx259 : x259.toInt = (((((((A2 / 10)) / 10)) / 10)) % 10) := jrem ex259 tx257 jz_10 (by omega)
                                      refine lv_iconst (v := 1) hx hb dX12_rule_125 (by decide) ?_
                                      refine lv_isub hx hb dX12_rule_126 ?_
                                      refine lv_topi (fun x260 ex260 => ?_)
                                      have tx260 : x260.toInt = (((((((A2 / 10)) / 10)) / 10)) % 10) - 1 := (jsub ex260 tx259 jz_1 (by omega) (by omega)).trans (by omega)
                                      refine jast hx hb hK hP hJ hA hS (jc_72 cI cL ad σ256 τ) (ja_72 cI cL ad σ256 τ _ _) (jin jz_3 (by omega) (by omega)) dX12_rule_127 (fun σ261 H locs eσ261 hP hS => ?_)
                                      have eσ261 : σ261 = jup σ256 72 3 x260 := eσ261
                                      refine lv_iload hx hb dX12_rule_128 (lv_at hl 1 rfl) ?_
                                      refine lv_bipush (v := 10) hx hb dX12_rule_130 (by decide) ?_
                                      refine lv_idiv hx hb dX12_rule_132 (by decide) ?_
                                      refine lv_topi (fun x262 ex262 => ?_)
                                      have tx262 : x262.toInt = (((((((A2 / 10)) / 10)) / 10)) / 10) := jdiv ex262 tx257 jz_10 (by omega) (by omega)
                                      refine lv_istore (lv' := [(5, .int x262), (6, .int 3), (4, .int 7), (0, .ref (ad 55)), (1, .int a1), (2, .int a2), (3, .int a3)]) hx hb dX12_rule_133 hl (by decide) rfl (fun ls hl => ?_)
                                      refine lv_iinc (v := 2) (lv' := [(6, .int 2), (5, .int x262), (4, .int 7), (0, .ref (ad 55)), (1, .int a1), (2, .int a2), (3, .int a3)]) hx hb dX12_rule_135 hl (k := 1) rfl (by decide) (by decide) rfl (fun ls hl => ?_)
                                      refine lv_goto (tgt := 101) hx hb dX12_rule_138 (by decide) ?_
                                      refine lv_iload hx hb dX12_rule_101 (lv_at hl 0 rfl) ?_
                                      refine lv_if_lt (tgt := 141) hx hb dX12_rule_103 (by decide) (fun c => absurd c (by decide)) (fun _ => ?_)
                                      refine lv_aload_n hx hb dX12_rule_106 rfl (lv_at hl 3 rfl) ?_
                                      refine va_get (D := D) hx hb hts inlX12 hown hK hP 55 (jc_55 cI cL ad σ261 τ) rfl 35 (by decide) (hts _ kw_7_20) (fun _ h9 => h9) rfl dX12_rule_107 ?_
                                      refine lv_bipush (v := 8) hx hb dX12_rule_110 (by decide) ?_
                                      refine lv_aload_n hx hb dX12_rule_112 rfl (lv_at hl 3 rfl) ?_
                                      refine va_get (D := D) hx hb hts inlX12 hown hK hP 55 (jc_55 cI cL ad σ261 τ) rfl 32 (by decide) (hts _ kw_25_1) (fun _ h9 => h9) rfl dX12_rule_113 ?_
                                      have m263 : σ261 55 32 = 0 := (by rw [eσ261, jup_n (by decide)]; exact m258)
                                      refine jtopr m263 ?_
                                      refine lv_imul hx hb dX12_rule_116 ?_
                                      refine jtopr (y := 0) (by decide) ?_
                                      refine lv_iload hx hb dX12_rule_117 (lv_at hl 0 rfl) ?_
                                      refine lv_iadd hx hb dX12_rule_119 ?_
                                      refine jtopr (y := 2) (by decide) ?_
                                      refine lv_iload hx hb dX12_rule_120 (lv_at hl 1 rfl) ?_
                                      refine lv_bipush (v := 10) hx hb dX12_rule_122 (by decide) ?_
                                      refine lv_irem hx hb dX12_rule_124 (by decide) ?_
                                      refine lv_topi (fun x264 ex264 => ?_)
                                      have tx264 : x264.toInt = (((((((((A2 / 10)) / 10)) / 10)) / 10)) % 10) := jrem ex264 tx262 jz_10 (by omega)
                                      refine lv_iconst (v := 1) hx hb dX12_rule_125 (by decide) ?_
                                      refine lv_isub hx hb dX12_rule_126 ?_
                                      refine lv_topi (fun x265 ex265 => ?_)
                                      have tx265 : x265.toInt = (((((((((A2 / 10)) / 10)) / 10)) / 10)) % 10) - 1 := (jsub ex265 tx264 jz_1 (by omega) (by omega)).trans (by omega)
                                      refine jast hx hb hK hP hJ hA hS (jc_72 cI cL ad σ261 τ) (ja_72 cI cL ad σ261 τ _ _) (jin jz_2 (by omega) (by omega)) dX12_rule_127 (fun σ266 H locs eσ266 hP hS => ?_)
                                      have eσ266 : σ266 = jup σ261 72 2 x265 := eσ266
                                      refine lv_iload hx hb dX12_rule_128 (lv_at hl 1 rfl) ?_
                                      refine lv_bipush (v := 10) hx hb dX12_rule_130 (by decide) ?_
                                      refine lv_idiv hx hb dX12_rule_132 (by decide) ?_
                                      refine lv_topi (fun x267 ex267 => ?_)
                                      have tx267 : x267.toInt = (((((((((A2 / 10)) / 10)) / 10)) / 10)) / 10) := jdiv ex267 tx262 jz_10 (by omega) (by omega)
                                      refine lv_istore (lv' := [(5, .int x267), (6, .int 2), (4, .int 7), (0, .ref (ad 55)), (1, .int a1), (2, .int a2), (3, .int a3)]) hx hb dX12_rule_133 hl (by decide) rfl (fun ls hl => ?_)
                                      refine lv_iinc (v := 1) (lv' := [(6, .int 1), (5, .int x267), (4, .int 7), (0, .ref (ad 55)), (1, .int a1), (2, .int a2), (3, .int a3)]) hx hb dX12_rule_135 hl (k := 1) rfl (by decide) (by decide) rfl (fun ls hl => ?_)
                                      refine lv_goto (tgt := 101) hx hb dX12_rule_138 (by decide) ?_
                                      refine lv_iload hx hb dX12_rule_101 (lv_at hl 0 rfl) ?_
                                      refine lv_if_lt (tgt := 141) hx hb dX12_rule_103 (by decide) (fun c => absurd c (by decide)) (fun _ => ?_)
                                      refine lv_aload_n hx hb dX12_rule_106 rfl (lv_at hl 3 rfl) ?_
                                      refine va_get (D := D) hx hb hts inlX12 hown hK hP 55 (jc_55 cI cL ad σ266 τ) rfl 35 (by decide) (hts _ kw_7_20) (fun _ h9 => h9) rfl dX12_rule_107 ?_
                                      refine lv_bipush (v := 8) hx hb dX12_rule_110 (by decide) ?_
                                      refine lv_aload_n hx hb dX12_rule_112 rfl (lv_at hl 3 rfl) ?_
                                      refine va_get (D := D) hx hb hts inlX12 hown hK hP 55 (jc_55 cI cL ad σ266 τ) rfl 32 (by decide) (hts _ kw_25_1) (fun _ h9 => h9) rfl dX12_rule_113 ?_
                                      have m268 : σ266 55 32 = 0 := (by rw [eσ266, jup_n (by decide)]; exact m263)
                                      refine jtopr m268 ?_
                                      refine lv_imul hx hb dX12_rule_116 ?_
                                      refine jtopr (y := 0) (by decide) ?_
                                      refine lv_iload hx hb dX12_rule_117 (lv_at hl 0 rfl) ?_
                                      refine lv_iadd hx hb dX12_rule_119 ?_
                                      refine jtopr (y := 1) (by decide) ?_
                                      refine lv_iload hx hb dX12_rule_120 (lv_at hl 1 rfl) ?_
                                      refine lv_bipush (v := 10) hx hb dX12_rule_122 (by decide) ?_
                                      refine lv_irem hx hb dX12_rule_124 (by decide) ?_
                                      refine lv_topi (fun x269 ex269 => ?_)
                                      have tx269 : x269.toInt = (((((((((((A2 / 10)) / 10)) / 10)) / 10)) / 10)) % 10) := jrem ex269 tx267 jz_10 (by omega)
                                      refine lv_iconst (v := 1) hx hb dX12_rule_125 (by decide) ?_
                                      refine lv_isub hx hb dX12_rule_126 ?_
                                      refine lv_topi (fun x270 ex270 => ?_)
                                      have tx270 : x270.toInt = (((((((((((A2 / 10)) / 10)) / 10)) / 10)) / 10)) % 10) - 1 := (jsub ex270 tx269 jz_1 (by omega) (by omega)).trans (by omega)
                                      refine jast hx hb hK hP hJ hA hS (jc_72 cI cL ad σ266 τ) (ja_72 cI cL ad σ266 τ _ _) (jin jz_1 (by omega) (by omega)) dX12_rule_127 (fun σ271 H locs eσ271 hP hS => ?_)
                                      have eσ271 : σ271 = jup σ266 72 1 x270 := eσ271
                                      refine lv_iload hx hb dX12_rule_128 (lv_at hl 1 rfl) ?_
                                      refine lv_bipush (v := 10) hx hb dX12_rule_130 (by decide) ?_
                                      refine lv_idiv hx hb dX12_rule_132 (by decide) ?_
                                      refine lv_topi (fun x272 ex272 => ?_)
                                      have tx272 : x272.toInt = (((((((((((A2 / 10)) / 10)) / 10)) / 10)) / 10)) / 10) := jdiv ex272 tx267 jz_10 (by omega) (by omega)
                                      refine lv_istore (lv' := [(5, .int x272), (6, .int 1), (4, .int 7), (0, .ref (ad 55)), (1, .int a1), (2, .int a2), (3, .int a3)]) hx hb dX12_rule_133 hl (by decide) rfl (fun ls hl => ?_)
                                      refine lv_iinc (v := 0) (lv' := [(6, .int 0), (5, .int x272), (4, .int 7), (0, .ref (ad 55)), (1, .int a1), (2, .int a2), (3, .int a3)]) hx hb dX12_rule_135 hl (k := 1) rfl (by decide) (by decide) rfl (fun ls hl => ?_)
                                      refine lv_goto (tgt := 101) hx hb dX12_rule_138 (by decide) ?_
                                      refine lv_iload hx hb dX12_rule_101 (lv_at hl 0 rfl) ?_
                                      refine lv_if_lt (tgt := 141) hx hb dX12_rule_103 (by decide) (fun c => absurd c (by decide)) (fun _ => ?_)
                                      refine lv_aload_n hx hb dX12_rule_106 rfl (lv_at hl 3 rfl) ?_
                                      refine va_get (D := D) hx hb hts inlX12 hown hK hP 55 (jc_55 cI cL ad σ271 τ) rfl 35 (by decide) (hts _ kw_7_20) (fun _ h9 => h9) rfl dX12_rule_107 ?_
                                      refine lv_bipush (v := 8) hx hb dX12_rule_110 (by decide) ?_
                                      refine lv_aload_n hx hb dX12_rule_112 rfl (lv_at hl 3 rfl) ?_
                                      refine va_get (D := D) hx hb hts inlX12 hown hK hP 55 (jc_55 cI cL ad σ271 τ) rfl 32 (by decide) (hts _ kw_25_1) (fun _ h9 => h9) rfl dX12_rule_113 ?_
                                      have m273 : σ271 55 32 = 0 := (by rw [eσ271, jup_n (by decide)]; exact m268)
                                      refine jtopr m273 ?_
                                      refine lv_imul hx hb dX12_rule_116 ?_
                                      refine jtopr (y := 0) (by decide) ?_
                                      refine lv_iload hx hb dX12_rule_117 (lv_at hl 0 rfl) ?_
                                      refine lv_iadd hx hb dX12_rule_119 ?_
                                      refine jtopr (y := 0) (by decide) ?_
                                      refine lv_iload hx hb dX12_rule_120 (lv_at hl 1 rfl) ?_
                                      refine lv_bipush (v := 10) hx hb dX12_rule_122 (by decide) ?_
                                      refine lv_irem hx hb dX12_rule_124 (by decide) ?_
                                      refine lv_topi (fun x274 ex274 => ?_)
                                      have tx274 : x274.toInt = (((((((((((((A2 / 10)) / 10)) / 10)) / 10)) / 10)) / 10)) % 10) := jrem ex274 tx272 jz_10 (by omega)
                                      refine lv_iconst (v := 1) hx hb dX12_rule_125 (by decide) ?_
                                      refine lv_isub hx hb dX12_rule_126 ?_
                                      refine lv_topi (fun x275 ex275 => ?_)
                                      have tx275 : x275.toInt = (((((((((((((A2 / 10)) / 10)) / 10)) / 10)) / 10)) / 10)) % 10) - 1 := (jsub ex275 tx274 jz_1 (by omega) (by omega)).trans (by omega)
                                      refine jast hx hb hK hP hJ hA hS (jc_72 cI cL ad σ271 τ) (ja_72 cI cL ad σ271 τ _ _) (jin jz_0 (by omega) (by omega)) dX12_rule_127 (fun σ276 H locs eσ276 hP hS => ?_)
                                      have eσ276 : σ276 = jup σ271 72 0 x275 := eσ276
                                      refine lv_iload hx hb dX12_rule_128 (lv_at hl 1 rfl) ?_
                                      refine lv_bipush (v := 10) hx hb dX12_rule_130 (by decide) ?_
                                      refine lv_idiv hx hb dX12_rule_132 (by decide) ?_
                                      refine lv_topi (fun x277 ex277 => ?_)
                                      have tx277 : x277.toInt = (((((((((((((A2 / 10)) / 10)) / 10)) / 10)) / 10)) / 10)) / 10) := jdiv ex277 tx272 jz_10 (by omega) (by omega)
                                      refine lv_istore (lv' := [(5, .int x277), (6, .int 0), (4, .int 7), (0, .ref (ad 55)), (1, .int a1), (2, .int a2), (3, .int a3)]) hx hb dX12_rule_133 hl (by decide) rfl (fun ls hl => ?_)
                                      refine lv_iinc (v := (-1)) (lv' := [(6, .int (-1)), (5, .int x277), (4, .int 7), (0, .ref (ad 55)), (1, .int a1), (2, .int a2), (3, .int a3)]) hx hb dX12_rule_135 hl (k := 1) rfl (by decide) (by decide) rfl (fun ls hl => ?_)
                                      refine lv_goto (tgt := 101) hx hb dX12_rule_138 (by decide) ?_
                                      refine lv_iload hx hb dX12_rule_101 (lv_at hl 0 rfl) ?_
                                      refine lv_if_lt (tgt := 141) hx hb dX12_rule_103 (by decide) (fun _ => ?_) (fun c => absurd (by decide) c)
                                      refine lv_aload_n hx hb dX12_rule_141 rfl (lv_at hl 3 rfl) ?_
                                      refine va_get (D := D) hx hb hts inlX12 hown hK hP 55 (jc_55 cI cL ad σ276 τ) rfl 33 (by decide) (hts _ kw_7_18) (fun _ h9 => h9) rfl dX12_rule_142 ?_
                                      refine lv_aload_n hx hb dX12_rule_145 rfl (lv_at hl 3 rfl) ?_
                                      refine va_get (D := D) hx hb hts inlX12 hown hK hP 55 (jc_55 cI cL ad σ276 τ) rfl 32 (by decide) (hts _ kw_25_1) (fun _ h9 => h9) rfl dX12_rule_146 ?_
                                      have m278 : σ276 55 32 = 0 := (by rw [eσ276, jup_n (by decide)]; exact m273)
                                      refine jtopr m278 ?_
                                      refine lv_iload_n hx hb dX12_rule_149 rfl (lv_at hl 4 rfl) ?_
                                      refine jast hx hb hK hP hJ hA hS (jc_70 cI cL ad σ276 τ) (ja_70 cI cL ad σ276 τ _ _) (jin jz_0 (by omega) (by omega)) dX12_rule_150 (fun σ279 H locs eσ279 hP hS => ?_)
                                      have eσ279 : σ279 = jup σ276 70 0 a1 := eσ279
                                      refine lv_aload_n hx hb dX12_rule_151 rfl (lv_at hl 3 rfl) ?_
                                      refine va_get (D := D) hx hb hts inlX12 hown hK hP 55 (jc_55 cI cL ad σ279 τ) rfl 34 (by decide) (hts _ kw_7_19) (fun _ h9 => h9) rfl dX12_rule_152 ?_
                                      refine lv_aload_n hx hb dX12_rule_155 rfl (lv_at hl 3 rfl) ?_
                                      refine va_get (D := D) hx hb hts inlX12 hown hK hP 55 (jc_55 cI cL ad σ279 τ) rfl 32 (by decide) (hts _ kw_25_1) (fun _ h9 => h9) rfl dX12_rule_156 ?_
                                      have m280 : σ279 55 32 = 0 := (by rw [eσ279, jup_n (by decide)]; exact m278)
                                      refine jtopr m280 ?_
                                      refine lv_iload hx hb dX12_rule_159 (lv_at hl 2 rfl) ?_
                                      refine jast hx hb hK hP hJ hA hS (jc_71 cI cL ad σ279 τ) (ja_71 cI cL ad σ279 τ _ _) (jin jz_0 (by omega) (by omega)) dX12_rule_161 (fun σ281 H locs eσ281 hP hS => ?_)
                                      have eσ281 : σ281 = jup σ279 71 0 7 := eσ281
                                      refine lv_aload_n hx hb dX12_rule_162 rfl (lv_at hl 3 rfl) ?_
                                      refine va_get (D := D) hx hb hts inlX12 hown hK hP 55 (jc_55 cI cL ad σ281 τ) rfl 36 (by decide) (hts _ kw_7_21) (fun _ h9 => h9) rfl dX12_rule_163 ?_
                                      refine lv_aload_n hx hb dX12_rule_166 rfl (lv_at hl 3 rfl) ?_
                                      refine va_get (D := D) hx hb hts inlX12 hown hK hP 55 (jc_55 cI cL ad σ281 τ) rfl 32 (by decide) (hts _ kw_25_1) (fun _ h9 => h9) rfl dX12_rule_167 ?_
                                      have m282 : σ281 55 32 = 0 := (by rw [eσ281, jup_n (by decide)]; exact m280)
                                      refine jtopr m282 ?_
                                      refine lv_iload_n hx hb dX12_rule_170 rfl (lv_at hl 6 rfl) ?_
                                      refine jast hx hb hK hP hJ hA hS (jc_73 cI cL ad σ281 τ) (ja_73 cI cL ad σ281 τ _ _) (jin jz_0 (by omega) (by omega)) dX12_rule_171 (fun σ283 H locs eσ283 hP hS => ?_)
                                      have eσ283 : σ283 = jup σ281 73 0 a3 := eσ283
                                      refine lv_aload_n hx hb dX12_rule_172 rfl (lv_at hl 3 rfl) ?_
                                      refine lv_dup hx hb dX12_rule_173 rfl ?_
                                      refine va_get (D := D) hx hb hts inlX12 hown hK hP 55 (jc_55 cI cL ad σ283 τ) rfl 32 (by decide) (hts _ kw_25_1) (fun _ h9 => h9) rfl dX12_rule_174 ?_
                                      have m284 : σ283 55 32 = 0 := (by rw [eσ283, jup_n (by decide)]; exact m282)
                                      refine jtopr m284 ?_
                                      refine lv_iconst (v := 1) hx hb dX12_rule_177 (by decide) ?_
                                      refine lv_iadd hx hb dX12_rule_178 ?_
                                      refine jtopr (y := 1) (by decide) ?_
                                      refine jput (ty := .int) hx hb hts inlX12 tyX12 tyX12_ok nmX12 hown hK hP hJ hA hS (jc_55 cI cL ad σ283 τ) rfl (k := 32) (by decide) (Nat.le_of_ble_eq_true rfl) (jp_55_32 cI cL ad σ283 τ 1) (hts _ kw_25_1) (fun _ h9 => h9) rfl (by decide +kernel) rfl rfl dX12_rule_179 (fun σ285 H locs eσ285 hP hS => ?_)
                                      refine lv_aload_n hx hb dX12_rule_182 rfl (lv_at hl 3 rfl) ?_
                                      refine va_get (D := D) hx hb hts inlX12 hown hK hP 55 (jc_55 cI cL ad σ285 τ) rfl 32 (by decide) (hts _ kw_25_1) (fun _ h9 => h9) rfl dX12_rule_183 ?_
                                      have m286 : σ285 55 32 = 1 := (by rw [eσ285]; exact jup_s)
                                      refine jtopr m286 ?_
                                      refine lv_iconst (v := 1) hx hb dX12_rule_186 (by decide) ?_
                                      refine lv_isub hx hb dX12_rule_187 ?_
                                      refine jtopr (y := 0) (by decide) ?_
                                      exact hret 0 σ285 τ _ _ _ _ rfl ⟨trivial, (by (repeat' split) <;> first | rfl | omega | exact jsame jz_0 t1 (by omega) | exact jsame jz_0 t2 (by omega) | exact jsame jz_0 t3 (by omega) | (exfalso; omega))⟩ hP hS dX12_rule_188
                                    · have kc243 := jnle c243 tx242 jz_0
                                      refine lv_iload hx hb dX12_rule_49 (lv_at hl 0 rfl) ?_
                                      refine lv_bipush (v := 10) hx hb dX12_rule_51 (by decide) ?_
                                      refine lv_irem hx hb dX12_rule_53 (by decide) ?_
                                      refine lv_topi (fun x287 ex287 => ?_)
                                      have tx287 : x287.toInt = (((((((((((((((A2 / 10)) / 10)) / 10)) / 10)) / 10)) / 10)) / 10)) % 10) := jrem ex287 tx242 jz_10 (by omega)
                                      refine lv_i2l (v := x287.toInt64) hx hb dX12_rule_54 rfl ?_
                                      refine lv_lconst (v := 1) hx hb dX12_rule_55 (by decide) ?_
                                      refine lv_ldc2 (v := 4) hx hb hown (hts _ kw_13_5) dX12_rule_56 ?_
                                      refine jcallS (As := [.long x287.toInt64, .long 1, .long 4]) (rest := []) ⟨hx, hb, hml, hown, hts⟩ hK hP hA hS (c_X12_within l D cI cL ad hJ σ τ x287.toInt64 ((((((((((((((((A2 / 10)) / 10)) / 10)) / 10)) / 10)) / 10)) / 10)) % 10)) (jtoL tx287) 1 (1) jzl_1 4 (4) jzl_4) cw_RX12_136 ⟨Nat.le_of_ble_eq_true rfl, Nat.le_of_ble_eq_true rfl⟩ rfl rfl rfl hl.1 rfl (Nat.le_of_ble_eq_true rfl) dX12_rule_59 ⟨Nat.zero_le _, Nat.zero_le _⟩ (fun r289 σ288 τ288 H locs h288 hP hS => ?_)
                                      obtain ⟨⟨rfl, rfl⟩, h288⟩ := h288
                                      rcases h288 with h290 | h291
                                      · obtain ⟨q293, k292⟩ := h290
                                        have q293 := q293.symm
                                        subst q293
                                        refine lv_if_ne (tgt := 67) hx hb dX12_rule_62 (by decide) (fun _ => ?_) (fun c => absurd c (by decide))
                                        refine lv_iinc (v := 8) (lv' := [(4, .int 8), (5, .int x242), (0, .ref (ad 55)), (1, .int a1), (2, .int a2), (3, .int a3)]) hx hb dX12_rule_67 hl (k := 1) rfl (by decide) (by decide) rfl (fun ls hl => ?_)
                                        refine lv_iload hx hb dX12_rule_70 (lv_at hl 1 rfl) ?_
                                        refine lv_bipush (v := 10) hx hb dX12_rule_72 (by decide) ?_
                                        refine lv_idiv hx hb dX12_rule_74 (by decide) ?_
                                        refine lv_topi (fun x294 ex294 => ?_)
                                        have tx294 : x294.toInt = (((((((((((((((A2 / 10)) / 10)) / 10)) / 10)) / 10)) / 10)) / 10)) / 10) := jdiv ex294 tx242 jz_10 (by omega) (by omega)
                                        refine lv_istore (lv' := [(5, .int x294), (4, .int 8), (0, .ref (ad 55)), (1, .int a1), (2, .int a2), (3, .int a3)]) hx hb dX12_rule_75 hl (by decide) rfl (fun ls hl => ?_)
                                        refine lv_goto (tgt := 44) hx hb dX12_rule_77 (by decide) ?_
                                        refine lv_iload hx hb dX12_rule_44 (lv_at hl 0 rfl) ?_
                                        refine lv_if_le (tgt := 80) hx hb dX12_rule_46 (by decide) (fun c295 => ?_) (fun c => absurd (jnle c tx294 jz_0) (by omega))
                                        have kc295 := jle c295 tx294 jz_0
                                        refine lv_aload_n hx hb dX12_rule_80 rfl (lv_at hl 2 rfl) ?_
                                        refine va_get (D := D) hx hb hts inlX12 hown hK hP 55 (jc_55 cI cL ad σ τ) rfl 32 (by decide) (hts _ kw_25_1) (fun _ h9 => h9) rfl dX12_rule_81 ?_
                                        refine jtopr h55_32 ?_
                                        refine lv_bipush (v := 20) hx hb dX12_rule_84 (by decide) ?_
                                        refine lv_icmp_ne (tgt := 92) hx hb dX12_rule_86 (by decide) (fun _ => ?_) (fun c => absurd c (by decide))
                                        refine lv_iload_n hx hb dX12_rule_92 rfl (lv_at hl 4 rfl) ?_
                                        refine lv_istore (lv' := [(5, .int a2), (4, .int 8), (0, .ref (ad 55)), (1, .int a1), (2, .int a2), (3, .int a3)]) hx hb dX12_rule_93 hl (by decide) rfl (fun ls hl => ?_)
                                        refine lv_iload hx hb dX12_rule_95 (lv_at hl 1 rfl) ?_
                                        refine lv_iconst (v := 1) hx hb dX12_rule_97 (by decide) ?_
                                        refine lv_isub hx hb dX12_rule_98 ?_
                                        refine jtopr (y := 7) (by decide) ?_
                                        refine lv_istore (lv' := [(6, .int 7), (5, .int a2), (4, .int 8), (0, .ref (ad 55)), (1, .int a1), (2, .int a2), (3, .int a3)]) hx hb dX12_rule_99 hl (by decide) rfl (fun ls hl => ?_)
                                        refine lv_iload hx hb dX12_rule_101 (lv_at hl 0 rfl) ?_
                                        refine lv_if_lt (tgt := 141) hx hb dX12_rule_103 (by decide) (fun c => absurd c (by decide)) (fun _ => ?_)
                                        refine lv_aload_n hx hb dX12_rule_106 rfl (lv_at hl 3 rfl) ?_
                                        refine va_get (D := D) hx hb hts inlX12 hown hK hP 55 (jc_55 cI cL ad σ τ) rfl 35 (by decide) (hts _ kw_7_20) (fun _ h9 => h9) rfl dX12_rule_107 ?_
                                        refine lv_bipush (v := 8) hx hb dX12_rule_110 (by decide) ?_
                                        refine lv_aload_n hx hb dX12_rule_112 rfl (lv_at hl 3 rfl) ?_
                                        refine va_get (D := D) hx hb hts inlX12 hown hK hP 55 (jc_55 cI cL ad σ τ) rfl 32 (by decide) (hts _ kw_25_1) (fun _ h9 => h9) rfl dX12_rule_113 ?_
                                        refine jtopr h55_32 ?_
                                        refine lv_imul hx hb dX12_rule_116 ?_
                                        refine jtopr (y := 0) (by decide) ?_
                                        refine lv_iload hx hb dX12_rule_117 (lv_at hl 0 rfl) ?_
                                        refine lv_iadd hx hb dX12_rule_119 ?_
                                        refine jtopr (y := 7) (by decide) ?_
                                        refine lv_iload hx hb dX12_rule_120 (lv_at hl 1 rfl) ?_
                                        refine lv_bipush (v := 10) hx hb dX12_rule_122 (by decide) ?_
                                        refine lv_irem hx hb dX12_rule_124 (by decide) ?_
                                        refine lv_topi (fun x296 ex296 => ?_)
                                        have tx296 : x296.toInt = (A2 % 10) := jrem ex296 t2 jz_10 (by omega)
                                        refine lv_iconst (v := 1) hx hb dX12_rule_125 (by decide) ?_
                                        refine lv_isub hx hb dX12_rule_126 ?_
                                        refine lv_topi (fun x297 ex297 => ?_)
                                        have tx297 : x297.toInt = (A2 % 10) - 1 := (jsub ex297 tx296 jz_1 (by omega) (by omega)).trans (by omega)
                                        refine jast hx hb hK hP hJ hA hS (jc_72 cI cL ad σ τ) (ja_72 cI cL ad σ τ _ _) (jin jz_7 (by omega) (by omega)) dX12_rule_127 (fun σ298 H locs eσ298 hP hS => ?_)
                                        have eσ298 : σ298 = jup σ 72 7 x297 := eσ298
                                        refine lv_iload hx hb dX12_rule_128 (lv_at hl 1 rfl) ?_
                                        refine lv_bipush (v := 10) hx hb dX12_rule_130 (by decide) ?_
                                        refine lv_idiv hx hb dX12_rule_132 (by decide) ?_
                                        refine lv_topi (fun x299 ex299 => ?_)
                                        have tx299 : x299.toInt = (A2 / 10) := jdiv ex299 t2 jz_10 (by omega) (by omega)
                                        refine lv_istore (lv' := [(5, .int x299), (6, .int 7), (4, .int 8), (0, .ref (ad 55)), (1, .int a1), (2, .int a2), (3, .int a3)]) hx hb dX12_rule_133 hl (by decide) rfl (fun ls hl => ?_)
                                        refine lv_iinc (v := 6) (lv' := [(6, .int 6), (5, .int x299), (4, .int 8), (0, .ref (ad 55)), (1, .int a1), (2, .int a2), (3, .int a3)]) hx hb dX12_rule_135 hl (k := 1) rfl (by decide) (by decide) rfl (fun ls hl => ?_)
                                        refine lv_goto (tgt := 101) hx hb dX12_rule_138 (by decide) ?_
                                        refine lv_iload hx hb dX12_rule_101 (lv_at hl 0 rfl) ?_
                                        refine lv_if_lt (tgt := 141) hx hb dX12_rule_103 (by decide) (fun c => absurd c (by decide)) (fun _ => ?_)
                                        refine lv_aload_n hx hb dX12_rule_106 rfl (lv_at hl 3 rfl) ?_
                                        refine va_get (D := D) hx hb hts inlX12 hown hK hP 55 (jc_55 cI cL ad σ298 τ) rfl 35 (by decide) (hts _ kw_7_20) (fun _ h9 => h9) rfl dX12_rule_107 ?_
                                        refine lv_bipush (v := 8) hx hb dX12_rule_110 (by decide) ?_
                                        refine lv_aload_n hx hb dX12_rule_112 rfl (lv_at hl 3 rfl) ?_
                                        refine va_get (D := D) hx hb hts inlX12 hown hK hP 55 (jc_55 cI cL ad σ298 τ) rfl 32 (by decide) (hts _ kw_25_1) (fun _ h9 => h9) rfl dX12_rule_113 ?_
                                        have m300 : σ298 55 32 = 0 := (by rw [eσ298, jup_n (by decide)]; exact h55_32)
                                        refine jtopr m300 ?_
                                        refine lv_imul hx hb dX12_rule_116 ?_
                                        refine jtopr (y := 0) (by decide) ?_
                                        refine lv_iload hx hb dX12_rule_117 (lv_at hl 0 rfl) ?_
                                        refine lv_iadd hx hb dX12_rule_119 ?_
                                        refine jtopr (y := 6) (by decide) ?_
                                        refine lv_iload hx hb dX12_rule_120 (lv_at hl 1 rfl) ?_
                                        refine lv_bipush (v := 10) hx hb dX12_rule_122 (by decide) ?_
                                        refine lv_irem hx hb dX12_rule_124 (by decide) ?_
                                        refine lv_topi (fun x301 ex301 => ?_)
                                        have tx301 : x301.toInt = (((A2 / 10)) % 10) := jrem ex301 tx299 jz_10 (by omega)
                                        refine lv_iconst (v := 1) hx hb dX12_rule_125 (by decide) ?_
                                        refine lv_isub hx hb dX12_rule_126 ?_
                                        refine lv_topi (fun x302 ex302 => ?_)
                                        have tx302 : x302.toInt = (((A2 / 10)) % 10) - 1 := (jsub ex302 tx301 jz_1 (by omega) (by omega)).trans (by omega)
                                        refine jast hx hb hK hP hJ hA hS (jc_72 cI cL ad σ298 τ) (ja_72 cI cL ad σ298 τ _ _) (jin jz_6 (by omega) (by omega)) dX12_rule_127 (fun σ303 H locs eσ303 hP hS => ?_)
                                        have eσ303 : σ303 = jup σ298 72 6 x302 := eσ303
                                        refine lv_iload hx hb dX12_rule_128 (lv_at hl 1 rfl) ?_
                                        refine lv_bipush (v := 10) hx hb dX12_rule_130 (by decide) ?_
                                        refine lv_idiv hx hb dX12_rule_132 (by decide) ?_
                                        refine lv_topi (fun x304 ex304 => ?_)
                                        have tx304 : x304.toInt = (((A2 / 10)) / 10) := jdiv ex304 tx299 jz_10 (by omega) (by omega)
                                        refine lv_istore (lv' := [(5, .int x304), (6, .int 6), (4, .int 8), (0, .ref (ad 55)), (1, .int a1), (2, .int a2), (3, .int a3)]) hx hb dX12_rule_133 hl (by decide) rfl (fun ls hl => ?_)
                                        refine lv_iinc (v := 5) (lv' := [(6, .int 5), (5, .int x304), (4, .int 8), (0, .ref (ad 55)), (1, .int a1), (2, .int a2), (3, .int a3)]) hx hb dX12_rule_135 hl (k := 1) rfl (by decide) (by decide) rfl (fun ls hl => ?_)
                                        refine lv_goto (tgt := 101) hx hb dX12_rule_138 (by decide) ?_
                                        refine lv_iload hx hb dX12_rule_101 (lv_at hl 0 rfl) ?_
                                        refine lv_if_lt (tgt := 141) hx hb dX12_rule_103 (by decide) (fun c => absurd c (by decide)) (fun _ => ?_)
                                        refine lv_aload_n hx hb dX12_rule_106 rfl (lv_at hl 3 rfl) ?_
                                        refine va_get (D := D) hx hb hts inlX12 hown hK hP 55 (jc_55 cI cL ad σ303 τ) rfl 35 (by decide) (hts _ kw_7_20) (fun _ h9 => h9) rfl dX12_rule_107 ?_
                                        refine lv_bipush (v := 8) hx hb dX12_rule_110 (by decide) ?_
                                        refine lv_aload_n hx hb dX12_rule_112 rfl (lv_at hl 3 rfl) ?_
                                        refine va_get (D := D) hx hb hts inlX12 hown hK hP 55 (jc_55 cI cL ad σ303 τ) rfl 32 (by decide) (hts _ kw_25_1) (fun _ h9 => h9) rfl dX12_rule_113 ?_
                                        have m305 : σ303 55 32 = 0 := (by rw [eσ303, jup_n (by decide)]; exact m300)
                                        refine jtopr m305 ?_
                                        refine lv_imul hx hb dX12_rule_116 ?_
                                        refine jtopr (y := 0) (by decide) ?_
                                        refine lv_iload hx hb dX12_rule_117 (lv_at hl 0 rfl) ?_
                                        refine lv_iadd hx hb dX12_rule_119 ?_
                                        refine jtopr (y := 5) (by decide) ?_
                                        refine lv_iload hx hb dX12_rule_120 (lv_at hl 1 rfl) ?_
                                        refine lv_bipush (v := 10) hx hb dX12_rule_122 (by decide) ?_
                                        refine lv_irem hx hb dX12_rule_124 (by decide) ?_
                                        refine lv_topi (fun x306 ex306 => ?_)
                                        have tx306 : x306.toInt = (((((A2 / 10)) / 10)) % 10) := jrem ex306 tx304 jz_10 (by omega)
                                        refine lv_iconst (v := 1) hx hb dX12_rule_125 (by decide) ?_
                                        refine lv_isub hx hb dX12_rule_126 ?_
                                        refine lv_topi (fun x307 ex307 => ?_)
                                        have tx307 : x307.toInt = (((((A2 / 10)) / 10)) % 10) - 1 := (jsub ex307 tx306 jz_1 (by omega) (by omega)).trans (by omega)
                                        refine jast hx hb hK hP hJ hA hS (jc_72 cI cL ad σ303 τ) (ja_72 cI cL ad σ303 τ _ _) (jin jz_5 (by omega) (by omega)) dX12_rule_127 (fun σ308 H locs eσ308 hP hS => ?_)
                                        have eσ308 : σ308 = jup σ303 72 5 x307 := eσ308
                                        refine lv_iload hx hb dX12_rule_128 (lv_at hl 1 rfl) ?_
                                        refine lv_bipush (v := 10) hx hb dX12_rule_130 (by decide) ?_
                                        refine lv_idiv hx hb dX12_rule_132 (by decide) ?_
                                        refine lv_topi (fun x309 ex309 => ?_)
                                        have tx309 : x309.toInt = (((((A2 / 10)) / 10)) / 10) := jdiv ex309 tx304 jz_10 (by omega) (by omega)
                                        refine lv_istore (lv' := [(5, .int x309), (6, .int 5), (4, .int 8), (0, .ref (ad 55)), (1, .int a1), (2, .int a2), (3, .int a3)]) hx hb dX12_rule_133 hl (by decide) rfl (fun ls hl => ?_)
                                        refine lv_iinc (v := 4) (lv' := [(6, .int 4), (5, .int x309), (4, .int 8), (0, .ref (ad 55)), (1, .int a1), (2, .int a2), (3, .int a3)]) hx hb dX12_rule_135 hl (k := 1) rfl (by decide) (by decide) rfl (fun ls hl => ?_)
                                        refine lv_goto (tgt := 101) hx hb dX12_rule_138 (by decide) ?_
                                        refine lv_iload hx hb dX12_rule_101 (lv_at hl 0 rfl) ?_
                                        refine lv_if_lt (tgt := 141) hx hb dX12_rule_103 (by decide) (fun c => absurd c (by decide)) (fun _ => ?_)
                                        refine lv_aload_n hx hb dX12_rule_106 rfl (lv_at hl 3 rfl) ?_
                                        refine va_get (D := D) hx hb hts inlX12 hown hK hP 55 (jc_55 cI cL ad σ308 τ) rfl 35 (by decide) (hts _ kw_7_20) (fun _ h9 => h9) rfl dX12_rule_107 ?_
                                        refine lv_bipush (v := 8) hx hb dX12_rule_110 (by decide) ?_
                                        refine lv_aload_n hx hb dX12_rule_112 rfl (lv_at hl 3 rfl) ?_
                                        refine va_get (D := D) hx hb hts inlX12 hown hK hP 55 (jc_55 cI cL ad σ308 τ) rfl 32 (by decide) (hts _ kw_25_1) (fun _ h9 => h9) rfl dX12_rule_113 ?_
                                        have m310 : σ308 55 32 = 0 := (by rw [eσ308, jup_n (by decide)]; exact m305)
                                        refine jtopr m310 ?_
                                        refine lv_imul hx hb dX12_rule_116 ?_
                                        refine jtopr (y := 0) (by decide) ?_
                                        refine lv_iload hx hb dX12_rule_117 (lv_at hl 0 rfl) ?_
                                        refine lv_iadd hx hb dX12_rule_119 ?_
                                        refine jtopr (y := 4) (by decide) ?_
                                        refine lv_iload hx hb dX12_rule_120 (lv_at hl 1 rfl) ?_
                                        refine lv_bipush (v := 10) hx hb dX12_rule_122 (by decide) ?_
                                        refine lv_irem hx hb dX12_rule_124 (by decide) ?_
                                        refine lv_topi (fun x311 ex311 => ?_)
                                        have tx311 : x311.toInt = (((((((A2 / 10)) / 10)) / 10)) % 10) := jrem ex311 tx309 jz_10 (by omega)
                                        refine lv_iconst (v := 1) hx hb dX12_rule_125 (by decide) ?_
                                        refine lv_isub hx hb dX12_rule_126 ?_
                                        refine lv_topi (fun x312 ex312 => ?_)
                                        have tx312 : x312.toInt = (((((((A2 / 10)) / 10)) / 10)) % 10) - 1 := (jsub ex312 tx311 jz_1 (by omega) (by omega)).trans (by omega)
                                        refine jast hx hb hK hP hJ hA hS (jc_72 cI cL ad σ308 τ) (ja_72 cI cL ad σ308 τ _ _) (jin jz_4 (by omega) (by omega)) dX12_rule_127 (fun σ313 H locs eσ313 hP hS => ?_)
                                        have eσ313 : σ313 = jup σ308 72 4 x312 := eσ313
                                        refine lv_iload hx hb dX12_rule_128 (lv_at hl 1 rfl) ?_
                                        refine lv_bipush (v := 10) hx hb dX12_rule_130 (by decide) ?_
                                        refine lv_idiv hx hb dX12_rule_132 (by decide) ?_
                                        refine lv_topi (fun x314 ex314 => ?_)
                                        have tx314 : x314.toInt = (((((((A2 / 10)) / 10)) / 10)) / 10) := jdiv ex314 tx309 jz_10 (by omega) (by omega)
                                        refine lv_istore (lv' := [(5, .int x314), (6, .int 4), (4, .int 8), (0, .ref (ad 55)), (1, .int a1), (2, .int a2), (3, .int a3)]) hx hb dX12_rule_133 hl (by decide) rfl (fun ls hl => ?_)
                                        refine lv_iinc (v := 3) (lv' := [(6, .int 3), (5, .int x314), (4, .int 8), (0, .ref (ad 55)), (1, .int a1), (2, .int a2), (3, .int a3)]) hx hb dX12_rule_135 hl (k := 1) rfl (by decide) (by decide) rfl (fun ls hl => ?_)
                                        refine lv_goto (tgt := 101) hx hb dX12_rule_138 (by decide) ?_
                                        refine lv_iload hx hb dX12_rule_101 (lv_at hl 0 rfl) ?_
                                        refine lv_if_lt (tgt := 141) hx hb dX12_rule_103 (by decide) (fun c => absurd c (by decide)) (fun _ => ?_)
                                        refine lv_aload_n hx hb dX12_rule_106 rfl (lv_at hl 3 rfl) ?_
                                        refine va_get (D := D) hx hb hts inlX12 hown hK hP 55 (jc_55 cI cL ad σ313 τ) rfl 35 (by decide) (hts _ kw_7_20) (fun _ h9 => h9) rfl dX12_rule_107 ?_
                                        refine lv_bipush (v := 8) hx hb dX12_rule_110 (by decide) ?_
                                        refine lv_aload_n hx hb dX12_rule_112 rfl (lv_at hl 3 rfl) ?_
                                        refine va_get (D := D) hx hb hts inlX12 hown hK hP 55 (jc_55 cI cL ad σ313 τ) rfl 32 (by decide) (hts _ kw_25_1) (fun _ h9 => h9) rfl dX12_rule_113 ?_
                                        have m315 : σ313 55 32 = 0 := (by rw [eσ313, jup_n (by decide)]; exact m310)
                                        refine jtopr m315 ?_
                                        refine lv_imul hx hb dX12_rule_116 ?_
                                        refine jtopr (y := 0) (by decide) ?_
                                        refine lv_iload hx hb dX12_rule_117 (lv_at hl 0 rfl) ?_
                                        refine lv_iadd hx hb dX12_rule_119 ?_
                                        refine jtopr (y := 3) (by decide) ?_
                                        refine lv_iload hx hb dX12_rule_120 (lv_at hl 1 rfl) ?_
                                        refine lv_bipush (v := 10) hx hb dX12_rule_122 (by decide) ?_
                                        refine lv_irem hx hb dX12_rule_124 (by decide) ?_
                                        refine lv_topi (fun x316 ex316 => ?_)
                                        have tx316 : x316.toInt = (((((((((A2 / 10)) / 10)) / 10)) / 10)) % 10) := jrem ex316 tx314 jz_10 (by omega)
                                        refine lv_iconst (v := 1) hx hb dX12_rule_125 (by decide) ?_
                                        refine lv_isub hx hb dX12_rule_126 ?_
                                        refine lv_topi (fun x317 ex317 => ?_)
                                        have tx317 : x317.toInt = (((((((((A2 / 10)) / 10)) / 10)) / 10)) % 10) - 1 := (jsub ex317 tx316 jz_1 (by omega) (by omega)).trans (by omega)
                                        refine jast hx hb hK hP hJ hA hS (jc_72 cI cL ad σ313 τ) (ja_72 cI cL ad σ313 τ _ _) (jin jz_3 (by omega) (by omega)) dX12_rule_127 (fun σ318 H locs eσ318 hP hS => ?_)
                                        have eσ318 : σ318 = jup σ313 72 3 x317 := eσ318
                                        refine lv_iload hx hb dX12_rule_128 (lv_at hl 1 rfl) ?_
                                        refine lv_bipush (v := 10) hx hb dX12_rule_130 (by decide) ?_
                                        refine lv_idiv hx hb dX12_rule_132 (by decide) ?_
                                        refine lv_topi (fun x319 ex319 => ?_)
                                        have tx319 : x319.toInt = (((((((((A2 / 10)) / 10)) / 10)) / 10)) / 10) := jdiv ex319 tx314 jz_10 (by omega) (by omega)
                                        refine lv_istore (lv' := [(5, .int x319), (6, .int 3), (4, .int 8), (0, .ref (ad 55)), (1, .int a1), (2, .int a2), (3, .int a3)]) hx hb dX12_rule_133 hl (by decide) rfl (fun ls hl => ?_)
                                        refine lv_iinc (v := 2) (lv' := [(6, .int 2), (5, .int x319), (4, .int 8), (0, .ref (ad 55)), (1, .int a1), (2, .int a2), (3, .int a3)]) hx hb dX12_rule_135 hl (k := 1) rfl (by decide) (by decide) rfl (fun ls hl => ?_)
                                        refine lv_goto (tgt := 101) hx hb dX12_rule_138 (by decide) ?_
                                        refine lv_iload hx hb dX12_rule_101 (lv_at hl 0 rfl) ?_
                                        refine lv_if_lt (tgt := 141) hx hb dX12_rule_103 (by decide) (fun c => absurd c (by decide)) (fun _ => ?_)
                                        refine lv_aload_n hx hb dX12_rule_106 rfl (lv_at hl 3 rfl) ?_
                                        refine va_get (D := D) hx hb hts inlX12 hown hK hP 55 (jc_55 cI cL ad σ318 τ) rfl 35 (by decide) (hts _ kw_7_20) (fun _ h9 => h9) rfl dX12_rule_107 ?_
                                        refine lv_bipush (v := 8) hx hb dX12_rule_110 (by decide) ?_
                                        refine lv_aload_n hx hb dX12_rule_112 rfl (lv_at hl 3 rfl) ?_
                                        refine va_get (D := D) hx hb hts inlX12 hown hK hP 55 (jc_55 cI cL ad σ318 τ) rfl 32 (by decide) (hts _ kw_25_1) (fun _ h9 => h9) rfl dX12_rule_113 ?_
                                        have m320 : σ318 55 32 = 0 := (by rw [eσ318, jup_n (by decide)]; exact m315)
                                        refine jtopr m320 ?_
                                        refine lv_imul hx hb dX12_rule_116 ?_
                                        refine jtopr (y := 0) (by decide) ?_
                                        refine lv_iload hx hb dX12_rule_117 (lv_at hl 0 rfl) ?_
                                        refine lv_iadd hx hb dX12_rule_119 ?_
                                        refine jtopr (y := 2) (by decide) ?_
                                        refine lv_iload hx hb dX12_rule_120 (lv_at hl 1 rfl) ?_
                                        refine lv_bipush (v := 10) hx hb dX12_rule_122 (by decide) ?_
                                        refine lv_irem hx hb dX12_rule_124 (by decide) ?_
                                        refine lv_topi (fun x321 ex321 => ?_)
                                        have tx321 : x321.toInt = (((((((((((A2 / 10)) / 10)) / 10)) / 10)) / 10)) % 10) := jrem ex321 tx319 jz_10 (by omega)
                                        refine lv_iconst (v := 1) hx hb dX12_rule_125 (by decide) ?_
                                        refine lv_isub hx hb dX12_rule_126 ?_
                                        refine lv_topi (fun x322 ex322 => ?_)
                                        have tx322 : x322.toInt = (((((((((((A2 / 10)) / 10)) / 10)) / 10)) / 10)) % 10) - 1 := (jsub ex322 tx321 jz_1 (by omega) (by omega)).trans (by omega)
                                        refine jast hx hb hK hP hJ hA hS (jc_72 cI cL ad σ318 τ) (ja_72 cI cL ad σ318 τ _ _) (jin jz_2 (by omega) (by omega)) dX12_rule_127 (fun σ323 H locs eσ323 hP hS => ?_)
                                        have eσ323 : σ323 = jup σ318 72 2 x322 := eσ323
                                        refine lv_iload hx hb dX12_rule_128 (lv_at hl 1 rfl) ?_
                                        refine lv_bipush (v := 10) hx hb dX12_rule_130 (by decide) ?_
                                        refine lv_idiv hx hb dX12_rule_132 (by decide) ?_
                                        refine lv_topi (fun x324 ex324 => ?_)
                                        have tx324 : x324.toInt = (((((((((((A2 / 10)) / 10)) / 10)) / 10)) / 10)) / 10) := jdiv ex324 tx319 jz_10 (by omega) (by omega)
                                        refine lv_istore (lv' := [(5, .int x324), (6, .int 2), (4, .int 8), (0, .ref (ad 55)), (1, .int a1), (2, .int a2), (3, .int a3)]) hx hb dX12_rule_133 hl (by decide) rfl (fun ls hl => ?_)
                                        refine lv_iinc (v := 1) (lv' := [(6, .int 1), (5, .int x324), (4, .int 8), (0, .ref (ad 55)), (1, .int a1), (2, .int a2), (3, .int a3)]) hx hb dX12_rule_135 hl (k := 1) rfl (by decide) (by decide) rfl (fun ls hl => ?_)
                                        refine lv_goto (tgt := 101) hx hb dX12_rule_138 (by decide) ?_
                                        refine lv_iload hx hb dX12_rule_101 (lv_at hl 0 rfl) ?_
                                        refine lv_if_lt (tgt := 141) hx hb dX12_rule_103 (by decide) (fun c => absurd c (by decide)) (fun _ => ?_)
                                        refine lv_aload_n hx hb dX12_rule_106 rfl (lv_at hl 3 rfl) ?_
                                        refine va_get (D := D) hx hb hts inlX12 hown hK hP 55 (jc_55 cI cL ad σ323 τ) rfl 35 (by decide) (hts _ kw_7_20) (fun _ h9 => h9) rfl dX12_rule_107 ?_
                                        refine lv_bipush (v := 8) hx hb dX12_rule_110 (by decide) ?_
                                        refine lv_aload_n hx hb dX12_rule_112 rfl (lv_at hl 3 rfl) ?_
                                        refine va_get (D := D) hx hb hts inlX12 hown hK hP 55 (jc_55 cI cL ad σ323 τ) rfl 32 (by decide) (hts _ kw_25_1) (fun _ h9 => h9) rfl dX12_rule_113 ?_
                                        have m325 : σ323 55 32 = 0 := (by rw [eσ323, jup_n (by decide)]; exact m320)
                                        refine jtopr m325 ?_
                                        refine lv_imul hx hb dX12_rule_116 ?_
                                        refine jtopr (y := 0) (by decide) ?_
                                        refine lv_iload hx hb dX12_rule_117 (lv_at hl 0 rfl) ?_
                                        refine lv_iadd hx hb dX12_rule_119 ?_
                                        refine jtopr (y := 1) (by decide) ?_
                                        refine lv_iload hx hb dX12_rule_120 (lv_at hl 1 rfl) ?_
                                        refine lv_bipush (v := 10) hx hb dX12_rule_122 (by decide) ?_
                                        refine lv_irem hx hb dX12_rule_124 (by decide) ?_
                                        refine lv_topi (fun x326 ex326 => ?_)
                                        have tx326 : x326.toInt = (((((((((((((A2 / 10)) / 10)) / 10)) / 10)) / 10)) / 10)) % 10) := jrem ex326 tx324 jz_10 (by omega)
                                        refine lv_iconst (v := 1) hx hb dX12_rule_125 (by decide) ?_
                                        refine lv_isub hx hb dX12_rule_126 ?_
                                        refine lv_topi (fun x327 ex327 => ?_)
                                        have tx327 : x327.toInt = (((((((((((((A2 / 10)) / 10)) / 10)) / 10)) / 10)) / 10)) % 10) - 1 := (jsub ex327 tx326 jz_1 (by omega) (by omega)).trans (by omega)
                                        refine jast hx hb hK hP hJ hA hS (jc_72 cI cL ad σ323 τ) (ja_72 cI cL ad σ323 τ _ _) (jin jz_1 (by omega) (by omega)) dX12_rule_127 (fun σ328 H locs eσ328 hP hS => ?_)
                                        have eσ328 : σ328 = jup σ323 72 1 x327 := eσ328
                                        refine lv_iload hx hb dX12_rule_128 (lv_at hl 1 rfl) ?_
                                        refine lv_bipush (v := 10) hx hb dX12_rule_130 (by decide) ?_
                                        refine lv_idiv hx hb dX12_rule_132 (by decide) ?_
                                        refine lv_topi (fun x329 ex329 => ?_)
                                        have tx329 : x329.toInt = (((((((((((((A2 / 10)) / 10)) / 10)) / 10)) / 10)) / 10)) / 10) := jdiv ex329 tx324 jz_10 (by omega) (by omega)
                                        refine lv_istore (lv' := [(5, .int x329), (6, .int 1), (4, .int 8), (0, .ref (ad 55)), (1, .int a1), (2, .int a2), (3, .int a3)]) hx hb dX12_rule_133 hl (by decide) rfl (fun ls hl => ?_)
                                        refine lv_iinc (v := 0) (lv' := [(6, .int 0), (5, .int x329), (4, .int 8), (0, .ref (ad 55)), (1, .int a1), (2, .int a2), (3, .int a3)]) hx hb dX12_rule_135 hl (k := 1) rfl (by decide) (by decide) rfl (fun ls hl => ?_)
                                        refine lv_goto (tgt := 101) hx hb dX12_rule_138 (by decide) ?_
                                        refine lv_iload hx hb dX12_rule_101 (lv_at hl 0 rfl) ?_
                                        refine lv_if_lt (tgt := 141) hx hb dX12_rule_103 (by decide) (fun c => absurd c (by decide)) (fun _ => ?_)
                                        refine lv_aload_n hx hb dX12_rule_106 rfl (lv_at hl 3 rfl) ?_
                                        refine va_get (D := D) hx hb hts inlX12 hown hK hP 55 (jc_55 cI cL ad σ328 τ) rfl 35 (by decide) (hts _ kw_7_20) (fun _ h9 => h9) rfl dX12_rule_107 ?_
                                        refine lv_bipush (v := 8) hx hb dX12_rule_110 (by decide) ?_
                                        refine lv_aload_n hx hb dX12_rule_112 rfl (lv_at hl 3 rfl) ?_
                                        refine va_get (D := D) hx hb hts inlX12 hown hK hP 55 (jc_55 cI cL ad σ328 τ) rfl 32 (by decide) (hts _ kw_25_1) (fun _ h9 => h9) rfl dX12_rule_113 ?_
                                        have m330 : σ328 55 32 = 0 := (by rw [eσ328, jup_n (by decide)]; exact m325)
                                        refine jtopr m330 ?_
                                        refine lv_imul hx hb dX12_rule_116 ?_
                                        refine jtopr (y := 0) (by decide) ?_
                                        refine lv_iload hx hb dX12_rule_117 (lv_at hl 0 rfl) ?_
                                        refine lv_iadd hx hb dX12_rule_119 ?_
                                        refine jtopr (y := 0) (by decide) ?_
                                        refine lv_iload hx hb dX12_rule_120 (lv_at hl 1 rfl) ?_
                                        refine lv_bipush (v := 10) hx hb dX12_rule_122 (by decide) ?_
                                        refine lv_irem hx hb dX12_rule_124 (by decide) ?_
                                        refine lv_topi (fun x331 ex331 => ?_)
                                        have tx331 : x331.toInt = (((((((((((((((A2 / 10)) / 10)) / 10)) / 10)) / 10)) / 10)) / 10)) % 10) := jrem ex331 tx329 jz_10 (by omega)
                                        refine lv_iconst (v := 1) hx hb dX12_rule_125 (by decide) ?_
                                        refine lv_isub hx hb dX12_rule_126 ?_
                                        refine lv_topi (fun x332 ex332 => ?_)
                                        have tx332 : x332.toInt = (((((((((((((((A2 / 10)) / 10)) / 10)) / 10)) / 10)) / 10)) / 10)) % 10) - 1 := (jsub ex332 tx331 jz_1 (by omega) (by omega)).trans (by omega)
                                        refine jast hx hb hK hP hJ hA hS (jc_72 cI cL ad σ328 τ) (ja_72 cI cL ad σ328 τ _ _) (jin jz_0 (by omega) (by omega)) dX12_rule_127 (fun σ333 H locs eσ333 hP hS => ?_)
                                        have eσ333 : σ333 = jup σ328 72 0 x332 := eσ333
                                        refine lv_iload hx hb dX12_rule_128 (lv_at hl 1 rfl) ?_
                                        refine lv_bipush (v := 10) hx hb dX12_rule_130 (by decide) ?_
                                        refine lv_idiv hx hb dX12_rule_132 (by decide) ?_
                                        refine lv_topi (fun x334 ex334 => ?_)
                                        have tx334 : x334.toInt = (((((((((((((((A2 / 10)) / 10)) / 10)) / 10)) / 10)) / 10)) / 10)) / 10) := jdiv ex334 tx329 jz_10 (by omega) (by omega)
                                        refine lv_istore (lv' := [(5, .int x334), (6, .int 0), (4, .int 8), (0, .ref (ad 55)), (1, .int a1), (2, .int a2), (3, .int a3)]) hx hb dX12_rule_133 hl (by decide) rfl (fun ls hl => ?_)
                                        refine lv_iinc (v := (-1)) (lv' := [(6, .int (-1)), (5, .int x334), (4, .int 8), (0, .ref (ad 55)), (1, .int a1), (2, .int a2), (3, .int a3)]) hx hb dX12_rule_135 hl (k := 1) rfl (by decide) (by decide) rfl (fun ls hl => ?_)
                                        refine lv_goto (tgt := 101) hx hb dX12_rule_138 (by decide) ?_
                                        refine lv_iload hx hb dX12_rule_101 (lv_at hl 0 rfl) ?_
                                        refine lv_if_lt (tgt := 141) hx hb dX12_rule_103 (by decide) (fun _ => ?_) (fun c => absurd (by decide) c)
                                        refine lv_aload_n hx hb dX12_rule_141 rfl (lv_at hl 3 rfl) ?_
                                        refine va_get (D := D) hx hb hts inlX12 hown hK hP 55 (jc_55 cI cL ad σ333 τ) rfl 33 (by decide) (hts _ kw_7_18) (fun _ h9 => h9) rfl dX12_rule_142 ?_
                                        refine lv_aload_n hx hb dX12_rule_145 rfl (lv_at hl 3 rfl) ?_
                                        refine va_get (D := D) hx hb hts inlX12 hown hK hP 55 (jc_55 cI cL ad σ333 τ) rfl 32 (by decide) (hts _ kw_25_1) (fun _ h9 => h9) rfl dX12_rule_146 ?_
                                        have m335 : σ333 55 32 = 0 := (by rw [eσ333, jup_n (by decide)]; exact m330)
                                        refine jtopr m335 ?_
                                        refine lv_iload_n hx hb dX12_rule_149 rfl (lv_at hl 4 rfl) ?_
                                        refine jast hx hb hK hP hJ hA hS (jc_70 cI cL ad σ333 τ) (ja_70 cI cL ad σ333 τ _ _) (jin jz_0 (by omega) (by omega)) dX12_rule_150 (fun σ336 H locs eσ336 hP hS => ?_)
                                        have eσ336 : σ336 = jup σ333 70 0 a1 := eσ336
                                        refine lv_aload_n hx hb dX12_rule_151 rfl (lv_at hl 3 rfl) ?_
                                        refine va_get (D := D) hx hb hts inlX12 hown hK hP 55 (jc_55 cI cL ad σ336 τ) rfl 34 (by decide) (hts _ kw_7_19) (fun _ h9 => h9) rfl dX12_rule_152 ?_
                                        refine lv_aload_n hx hb dX12_rule_155 rfl (lv_at hl 3 rfl) ?_
                                        refine va_get (D := D) hx hb hts inlX12 hown hK hP 55 (jc_55 cI cL ad σ336 τ) rfl 32 (by decide) (hts _ kw_25_1) (fun _ h9 => h9) rfl dX12_rule_156 ?_
                                        have m337 : σ336 55 32 = 0 := (by rw [eσ336, jup_n (by decide)]; exact m335)
                                        refine jtopr m337 ?_
                                        refine lv_iload hx hb dX12_rule_159 (lv_at hl 2 rfl) ?_
                                        refine jast hx hb hK hP hJ hA hS (jc_71 cI cL ad σ336 τ) (ja_71 cI cL ad σ336 τ _ _) (jin jz_0 (by omega) (by omega)) dX12_rule_161 (fun σ338 H locs eσ338 hP hS => ?_)
                                        have eσ338 : σ338 = jup σ336 71 0 8 := eσ338
                                        refine lv_aload_n hx hb dX12_rule_162 rfl (lv_at hl 3 rfl) ?_
                                        refine va_get (D := D) hx hb hts inlX12 hown hK hP 55 (jc_55 cI cL ad σ338 τ) rfl 36 (by decide) (hts _ kw_7_21) (fun _ h9 => h9) rfl dX12_rule_163 ?_
                                        refine lv_aload_n hx hb dX12_rule_166 rfl (lv_at hl 3 rfl) ?_
                                        refine va_get (D := D) hx hb hts inlX12 hown hK hP 55 (jc_55 cI cL ad σ338 τ) rfl 32 (by decide) (hts _ kw_25_1) (fun _ h9 => h9) rfl dX12_rule_167 ?_
                                        have m339 : σ338 55 32 = 0 := (by rw [eσ338, jup_n (by decide)]; exact m337)
                                        refine jtopr m339 ?_
                                        refine lv_iload_n hx hb dX12_rule_170 rfl (lv_at hl 6 rfl) ?_
                                        refine jast hx hb hK hP hJ hA hS (jc_73 cI cL ad σ338 τ) (ja_73 cI cL ad σ338 τ _ _) (jin jz_0 (by omega) (by omega)) dX12_rule_171 (fun σ340 H locs eσ340 hP hS => ?_)
                                        have eσ340 : σ340 = jup σ338 73 0 a3 := eσ340
                                        refine lv_aload_n hx hb dX12_rule_172 rfl (lv_at hl 3 rfl) ?_
                                        refine lv_dup hx hb dX12_rule_173 rfl ?_
                                        refine va_get (D := D) hx hb hts inlX12 hown hK hP 55 (jc_55 cI cL ad σ340 τ) rfl 32 (by decide) (hts _ kw_25_1) (fun _ h9 => h9) rfl dX12_rule_174 ?_
                                        have m341 : σ340 55 32 = 0 := (by rw [eσ340, jup_n (by decide)]; exact m339)
                                        refine jtopr m341 ?_
                                        refine lv_iconst (v := 1) hx hb dX12_rule_177 (by decide) ?_
                                        refine lv_iadd hx hb dX12_rule_178 ?_
                                        refine jtopr (y := 1) (by decide) ?_
                                        refine jput (ty := .int) hx hb hts inlX12 tyX12 tyX12_ok nmX12 hown hK hP hJ hA hS (jc_55 cI cL ad σ340 τ) rfl (k := 32) (by decide) (Nat.le_of_ble_eq_true rfl) (jp_55_32 cI cL ad σ340 τ 1) (hts _ kw_25_1) (fun _ h9 => h9) rfl (by decide +kernel) rfl rfl dX12_rule_179 (fun σ342 H locs eσ342 hP hS => ?_)
                                        refine lv_aload_n hx hb dX12_rule_182 rfl (lv_at hl 3 rfl) ?_
                                        refine va_get (D := D) hx hb hts inlX12 hown hK hP 55 (jc_55 cI cL ad σ342 τ) rfl 32 (by decide) (hts _ kw_25_1) (fun _ h9 => h9) rfl dX12_rule_183 ?_
                                        have m343 : σ342 55 32 = 1 := (by rw [eσ342]; exact jup_s)
                                        refine jtopr m343 ?_
                                        refine lv_iconst (v := 1) hx hb dX12_rule_186 (by decide) ?_
                                        refine lv_isub hx hb dX12_rule_187 ?_
                                        refine jtopr (y := 0) (by decide) ?_
                                        exact hret 0 σ342 τ _ _ _ _ rfl ⟨trivial, (by (repeat' split) <;> first | rfl | omega | exact jsame jz_0 t1 (by omega) | exact jsame jz_0 t2 (by omega) | exact jsame jz_0 t3 (by omega) | (exfalso; omega))⟩ hP hS dX12_rule_188
                                      · obtain ⟨q345, k344⟩ := h291
                                        exact absurd (by omega : False) id
                                  · obtain ⟨q347, k346⟩ := h239
                                    have q347 := q347.symm
                                    subst q347
                                    refine lv_if_ne (tgt := 67) hx hb dX12_rule_62 (by decide) (fun c => absurd (by decide) c) (fun _ => ?_)
                                    refine lv_iconst (v := (-1)) hx hb dX12_rule_65 (by decide) ?_
                                    exact hret (-1) σ τ _ _ _ _ rfl ⟨trivial, (by (repeat' split) <;> first | rfl | omega | exact jsame jz_m1 t1 (by omega) | exact jsame jz_m1 t2 (by omega) | exact jsame jz_m1 t3 (by omega) | (exfalso; omega))⟩ hP hS dX12_rule_66
                              · obtain ⟨q349, k348⟩ := h192
                                have q349 := q349.symm
                                subst q349
                                refine lv_if_ne (tgt := 67) hx hb dX12_rule_62 (by decide) (fun c => absurd (by decide) c) (fun _ => ?_)
                                refine lv_iconst (v := (-1)) hx hb dX12_rule_65 (by decide) ?_
                                exact hret (-1) σ τ _ _ _ _ rfl ⟨trivial, (by (repeat' split) <;> first | rfl | omega | exact jsame jz_m1 t1 (by omega) | exact jsame jz_m1 t2 (by omega) | exact jsame jz_m1 t3 (by omega) | (exfalso; omega))⟩ hP hS dX12_rule_66
                          · obtain ⟨q351, k350⟩ := h150
                            have q351 := q351.symm
                            subst q351
                            refine lv_if_ne (tgt := 67) hx hb dX12_rule_62 (by decide) (fun c => absurd (by decide) c) (fun _ => ?_)
                            refine lv_iconst (v := (-1)) hx hb dX12_rule_65 (by decide) ?_
                            exact hret (-1) σ τ _ _ _ _ rfl ⟨trivial, (by (repeat' split) <;> first | rfl | omega | exact jsame jz_m1 t1 (by omega) | exact jsame jz_m1 t2 (by omega) | exact jsame jz_m1 t3 (by omega) | (exfalso; omega))⟩ hP hS dX12_rule_66
                      · obtain ⟨q353, k352⟩ := h113
                        have q353 := q353.symm
                        subst q353
                        refine lv_if_ne (tgt := 67) hx hb dX12_rule_62 (by decide) (fun c => absurd (by decide) c) (fun _ => ?_)
                        refine lv_iconst (v := (-1)) hx hb dX12_rule_65 (by decide) ?_
                        exact hret (-1) σ τ _ _ _ _ rfl ⟨trivial, (by (repeat' split) <;> first | rfl | omega | exact jsame jz_m1 t1 (by omega) | exact jsame jz_m1 t2 (by omega) | exact jsame jz_m1 t3 (by omega) | (exfalso; omega))⟩ hP hS dX12_rule_66
                  · obtain ⟨q355, k354⟩ := h81
                    have q355 := q355.symm
                    subst q355
                    refine lv_if_ne (tgt := 67) hx hb dX12_rule_62 (by decide) (fun c => absurd (by decide) c) (fun _ => ?_)
                    refine lv_iconst (v := (-1)) hx hb dX12_rule_65 (by decide) ?_
                    exact hret (-1) σ τ _ _ _ _ rfl ⟨trivial, (by (repeat' split) <;> first | rfl | omega | exact jsame jz_m1 t1 (by omega) | exact jsame jz_m1 t2 (by omega) | exact jsame jz_m1 t3 (by omega) | (exfalso; omega))⟩ hP hS dX12_rule_66
              · obtain ⟨q357, k356⟩ := h54
                have q357 := q357.symm
                subst q357
                refine lv_if_ne (tgt := 67) hx hb dX12_rule_62 (by decide) (fun c => absurd (by decide) c) (fun _ => ?_)
                refine lv_iconst (v := (-1)) hx hb dX12_rule_65 (by decide) ?_
                exact hret (-1) σ τ _ _ _ _ rfl ⟨trivial, (by (repeat' split) <;> first | rfl | omega | exact jsame jz_m1 t1 (by omega) | exact jsame jz_m1 t2 (by omega) | exact jsame jz_m1 t3 (by omega) | (exfalso; omega))⟩ hP hS dX12_rule_66
          · obtain ⟨q359, k358⟩ := h32
            have q359 := q359.symm
            subst q359
            refine lv_if_ne (tgt := 67) hx hb dX12_rule_62 (by decide) (fun c => absurd (by decide) c) (fun _ => ?_)
            refine lv_iconst (v := (-1)) hx hb dX12_rule_65 (by decide) ?_
            exact hret (-1) σ τ _ _ _ _ rfl ⟨trivial, (by (repeat' split) <;> first | rfl | omega | exact jsame jz_m1 t1 (by omega) | exact jsame jz_m1 t2 (by omega) | exact jsame jz_m1 t3 (by omega) | (exfalso; omega))⟩ hP hS dX12_rule_66
      · obtain ⟨q361, k360⟩ := h16
        have q361 := q361.symm
        subst q361
        refine lv_if_ne (tgt := 38) hx hb dX12_rule_33 (by decide) (fun c => absurd (by decide) c) (fun _ => ?_)
        refine lv_iconst (v := (-1)) hx hb dX12_rule_36 (by decide) ?_
        exact hret (-1) σ τ _ _ _ _ rfl ⟨trivial, (by (repeat' split) <;> first | rfl | omega | exact jsame jz_m1 t1 (by omega) | exact jsame jz_m1 t2 (by omega) | exact jsame jz_m1 t3 (by omega) | (exfalso; omega))⟩ hP hS dX12_rule_37
    · obtain ⟨q363, k362⟩ := h10
      have q363 := q363.symm
      subst q363
      refine lv_if_eq (tgt := 36) hx hb dX12_rule_21 (by decide) (fun _ => ?_) (fun c => absurd (by decide) c)
      refine lv_iconst (v := (-1)) hx hb dX12_rule_36 (by decide) ?_
      exact hret (-1) σ τ _ _ _ _ rfl ⟨trivial, (by (repeat' split) <;> first | rfl | omega | exact jsame jz_m1 t1 (by omega) | exact jsame jz_m1 t2 (by omega) | exact jsame jz_m1 t3 (by omega) | (exfalso; omega))⟩ hP hS dX12_rule_37
  · obtain ⟨q365, k364⟩ := h4
    have q365 := q365.symm
    subst q365
    refine lv_if_eq (tgt := 36) hx hb dX12_rule_9 (by decide) (fun _ => ?_) (fun c => absurd (by decide) c)
    refine lv_iconst (v := (-1)) hx hb dX12_rule_36 (by decide) ?_
    exact hret (-1) σ τ _ _ _ _ rfl ⟨trivial, (by (repeat' split) <;> first | rfl | omega | exact jsame jz_m1 t1 (by omega) | exact jsame jz_m1 t2 (by omega) | exact jsame jz_m1 t3 (by omega) | (exfalso; omega))⟩ hP hS dX12_rule_37
