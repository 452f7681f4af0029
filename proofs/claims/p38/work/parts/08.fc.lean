set_option maxHeartbeats 4000000 in
set_option maxRecDepth 100000 in
theorem c_X12_kept (l : Launch) (D : va_G) (cI cL : ClassId) (ad zz : Nat → Nat) (hJ : jD ad) (σ : Nat → Nat → Int32) (τ : Nat → Nat → Int64) (a1 : Int32) (A1 : Int) (t1 : a1.toInt = A1) (hI101 : jI101 σ) (hI102 : jI102 σ) (hI103 : jI103 σ) (hI104 : jI104 σ) (hI105 : jI105 σ) (hI106 : jI106 σ) (hI119 : jI119 σ) (hs_jKept : jKept σ) : jM l yX12_kept cX12_kept 4 (some .int) ({ frames := 103, cells := 0, slots := 0, locals := 5061 }) D cI cL ad zz [.ref (ad 55), .int a1] σ τ (fun r σ' τ' => τ = τ' ∧ (∀ i : Nat, (i < 55 ∨ 55 < i) ∧ (i < 66 ∨ 66 < i) ∧ (i < 68 ∨ 69 < i) ∧ (i < 74 ∨ 78 < i) → σ' i = σ i) ∧ (∀ k : Nat, (k < 18 ∨ 18 < k) ∧ (k < 19 ∨ 19 < k) ∧ (k < 20 ∨ 20 < k) ∧ (k < 21 ∨ 21 < k) ∧ (k < 22 ∨ 22 < k) ∧ (k < 25 ∨ 25 < k) ∧ (k < 26 ∨ 26 < k) ∧ (k < 27 ∨ 27 < k) ∧ (k < 37 ∨ 37 < k) ∧ (k < 42 ∨ 42 < k) → σ' 55 k = σ 55 k) ∧ (jI119 σ') ∧ (jKept σ') ∧ True) := by
  refine jM.of hJ (by decide +kernel) (nt := .int) rfl (Nat.le_of_ble_eq_true rfl) ?_
  intro p e s m args below meth c Q ls hC hret hl hP
  obtain ⟨hx, hb, hr, hml, hown, hts, hK, -, hlocks, hZ⟩ := hC
  have hown : s.vm.findClass RX12 = some m.cls := hown
  have hS : va_S (jA ad) s.heap s.heap [] := va_S.rf
  have hA : ∀ q, jA ad q → jA ad q := fun _ h => h
  have hl : lv_has ls 4 [(0, .ref (ad 55)), (1, .int a1)] := hl
  have g1 := jrg t1
  obtain ⟨i1, w2, w3⟩ : (0 ≤ (σ 55 6).toInt ∧ (σ 55 6).toInt ≤ 4) ∧ (∀ k : Nat, k < 4 → 0 ≤ (σ 60 k).toInt ∧ (σ 60 k).toInt ≤ 50) ∧ (∀ k : Nat, k < 4 → 0 ≤ (σ 61 k).toInt ∧ (σ 61 k).toInt ≤ 20) := id hI102
  obtain ⟨i4, i5, i6, w7, w8⟩ : (1 ≤ (σ 55 10).toInt ∧ (σ 55 10).toInt ≤ 8) ∧ (1 ≤ (σ 55 12).toInt ∧ (σ 55 12).toInt ≤ 12) ∧ (0 ≤ (σ 55 13).toInt ∧ (σ 55 13).toInt ≤ 999) ∧ (∀ k : Nat, k < 8 → 0 ≤ (σ 62 k).toInt ∧ (σ 62 k).toInt ≤ 3) ∧ (∀ k : Nat, k < 8 → 0 ≤ (σ 67 k).toInt ∧ (σ 67 k).toInt ≤ 3) := id hI104
  refine lv_aload_n hx hb dX12_kept_0 rfl (lv_at hl 0 rfl) ?_
  refine lv_iload_n hx hb dX12_kept_1 rfl (lv_at hl 1 rfl) ?_
  refine jcallV (As := [.int a1]) (rest := []) ⟨hx, hb, hml, hown, hts⟩ hK hP hA hS hZ (c_X12_isBowler l D cI cL ad zz hJ σ τ a1 (A1) t1 hI102) cw_RX12_146 (jc_55 cI cL ad σ τ) rfl ⟨Nat.le_of_ble_eq_true rfl, Nat.le_of_ble_eq_true rfl⟩ rfl rfl rfl hl.1 rfl (Nat.le_of_ble_eq_true rfl) dX12_kept_2 ⟨Nat.zero_le _, Nat.zero_le _⟩ (fun r10 σ9 τ9 H locs h9 hP hS => ?_)
  obtain ⟨⟨rfl, rfl⟩, h9⟩ := h9
  rcases h9 with h11 | h12
  · obtain ⟨q14, k13⟩ := h11
    have q14 := q14.symm
    subst q14
    refine lv_if_ne (tgt := 10) hx hb dX12_kept_5 (of_decide_eq_true rfl) (fun _ => ?_) (fun c => absurd c (of_decide_eq_true rfl))
    refine lv_aload_n hx hb dX12_kept_10 rfl (lv_at hl 0 rfl) ?_
    refine va_get (D := D) hx hb hts inlX12 hown hK hP 55 (jc_55 cI cL ad σ τ) rfl 12 (of_decide_eq_true rfl) (hts _ kw_8_16) (fun _ h9 => h9) rfl dX12_kept_11 ?_
    refine lv_bipush (v := 8) hx hb dX12_kept_14 (of_decide_eq_true rfl) ?_
    refine lv_icmp_le (tgt := 22) hx hb dX12_kept_16 (of_decide_eq_true rfl) (fun c15 => ?_) (fun c15 => ?_)
    · have kc15 := jle c15 rfl jz_8
      refine lv_aload_n hx hb dX12_kept_22 rfl (lv_at hl 0 rfl) ?_
      have w16 : ∀ k : Nat, k < 4 → 0 ≤ (σ 68 k).toInt ∧ (σ 68 k).toInt ≤ 3 := hI119
      refine jcallVv (As := []) (rest := []) ⟨hx, hb, hml, hown, hts⟩ hK hP hA hS hZ (c_X12_begin l D cI cL ad zz hJ σ τ hI104 w16) cw_RX12_256 (jc_55 cI cL ad σ τ) rfl ⟨Nat.le_of_ble_eq_true rfl, Nat.le_of_ble_eq_true rfl⟩ rfl rfl rfl hl.1 rfl (Nat.le_of_ble_eq_true rfl) dX12_kept_23 ⟨Nat.zero_le _, Nat.zero_le _⟩ (fun σ17 τ17 H locs h17 hP hS => ?_)
      obtain ⟨rfl, f19, f20, I21, w22, h17⟩ := h17
      obtain ⟨i24, i25, i26, i27, i28, w29⟩ : (0 ≤ (σ17 55 25).toInt) ∧ ((σ17 55 25).toInt ≤ (σ17 55 10).toInt) ∧ (0 ≤ (σ17 55 26).toInt) ∧ ((σ17 55 26).toInt ≤ (σ17 55 12).toInt) ∧ ((-1) ≤ (σ17 55 27).toInt ∧ (σ17 55 27).toInt ≤ 3) ∧ (∀ k : Nat, k < 4 → 0 ≤ (σ17 68 k).toInt ∧ (σ17 68 k).toInt ≤ 3) := id I21
      have z30 : (σ17 55 10).toInt = (σ 55 10).toInt := (congrArg Int32.toInt (show σ17 55 10 = (σ 55 10) from (f20 10 (of_decide_eq_true rfl))))
      have z31 : (σ17 55 12).toInt = (σ 55 12).toInt := (congrArg Int32.toInt (show σ17 55 12 = (σ 55 12) from (f20 12 (of_decide_eq_true rfl))))
      obtain ⟨k32, k33, k34, h17⟩ := h17
      refine lv_aload_n hx hb dX12_kept_26 rfl (lv_at hl 0 rfl) ?_
      refine jcallVv (As := []) (rest := []) ⟨hx, hb, hml, hown, hts⟩ hK hP hA hS hZ (c_X12_forgets l D cI cL ad zz hJ σ17 τ) cw_RX12_341 (jc_55 cI cL ad σ17 τ) rfl ⟨Nat.le_of_ble_eq_true rfl, Nat.le_of_ble_eq_true rfl⟩ rfl rfl rfl hl.1 rfl (Nat.le_of_ble_eq_true rfl) dX12_kept_27 ⟨Nat.zero_le _, Nat.zero_le _⟩ (fun σ35 τ35 H locs h35 hP hS => ?_)
      obtain ⟨rfl, f37, f38, h35⟩ := h35
      have w45 : ∀ k : Nat, k < 4 → 0 ≤ (σ35 68 k).toInt ∧ (σ35 68 k).toInt ≤ 3 := (jrr_fr (f37 68 (of_decide_eq_true rfl)) w29)
      have I46 : jI119 σ35 := w45
      have z47 : (σ35 55 12).toInt = (σ 55 12).toInt := (congrArg Int32.toInt (show σ35 55 12 = (σ 55 12) from ((f38 12 (of_decide_eq_true rfl)).trans (f20 12 (of_decide_eq_true rfl)))))
      have z48 : (σ35 55 26).toInt = (σ17 55 26).toInt := (congrArg Int32.toInt (show σ35 55 26 = (σ17 55 26) from (f38 26 (of_decide_eq_true rfl))))
      have z49 : (σ35 55 25).toInt = (σ17 55 25).toInt := (congrArg Int32.toInt (show σ35 55 25 = (σ17 55 25) from (f38 25 (of_decide_eq_true rfl))))
      have z50 : (σ35 55 10).toInt = (σ 55 10).toInt := (congrArg Int32.toInt (show σ35 55 10 = (σ 55 10) from ((f38 10 (of_decide_eq_true rfl)).trans (f20 10 (of_decide_eq_true rfl)))))
      have z51 : (σ35 55 27).toInt = (σ17 55 27).toInt := (congrArg Int32.toInt (show σ35 55 27 = (σ17 55 27) from (f38 27 (of_decide_eq_true rfl))))
      have p53 : jKept σ35 := jKept.fr ((f37 75 (of_decide_eq_true rfl)).trans (f19 75 (of_decide_eq_true rfl))) ((f37 76 (of_decide_eq_true rfl)).trans (f19 76 (of_decide_eq_true rfl))) ((f37 77 (of_decide_eq_true rfl)).trans (f19 77 (of_decide_eq_true rfl))) hs_jKept
      have lp40 : ∀ (n41 : Nat)  (σ44 : Nat → Nat → Int32) (H : Heap) (locs : List Loc) (ls : Array Slot), ((σ44 55 12).toInt - (σ44 55 26).toInt : Int) < n41 → 0 ≤ (σ44 55 25).toInt → (σ44 55 25).toInt ≤ (σ44 55 10).toInt → 0 ≤ (σ44 55 26).toInt → (σ44 55 26).toInt ≤ (σ44 55 12).toInt → (-1) ≤ (σ44 55 27).toInt ∧ (σ44 55 27).toInt ≤ 3 → (∀ i : Nat, (i < 55 ∨ 55 < i) ∧ (i < 66 ∨ 66 < i) ∧ (i < 68 ∨ 69 < i) ∧ (i < 74 ∨ 78 < i) → σ44 i = σ35 i) → (∀ k : Nat, (k < 18 ∨ 18 < k) ∧ (k < 19 ∨ 19 < k) ∧ (k < 20 ∨ 20 < k) ∧ (k < 21 ∨ 21 < k) ∧ (k < 22 ∨ 22 < k) ∧ (k < 25 ∨ 25 < k) ∧ (k < 26 ∨ 26 < k) ∧ (k < 27 ∨ 27 < k) ∧ (k < 37 ∨ 37 < k) → σ44 55 k = σ35 55 k) → jKept σ44 → jI119 σ44 → jH D cI cL ad σ44 τ H → va_S (jA ad) s.heap H locs → lv_has ls 4 [(0, .ref (ad 55)), (1, .int a1)] → W p l e ({ frames := 103, cells := 0, slots := 0, locals := 5061 }) s m args below meth c H locs 0 0 Q (F0 m 30 ls []) := by
        intro n41
        induction n41 with
        | zero => intro  σ44 H locs ls h54 h55 h56 h57 h58 h59; exact absurd h54 (by omega)
        | succ n41 ihlp40 =>
          intro  σ44 H locs ls h54 h55 h56 h57 h58 h59 f60 f61 p62 p63 hP hS hl
          exact by
           have z64 : (σ44 55 12).toInt = (σ 55 12).toInt := (congrArg Int32.toInt (show σ44 55 12 = (σ 55 12) from ((f61 12 (of_decide_eq_true rfl)).trans ((f38 12 (of_decide_eq_true rfl)).trans (f20 12 (of_decide_eq_true rfl))))))
           have z65 : (σ44 55 10).toInt = (σ 55 10).toInt := (congrArg Int32.toInt (show σ44 55 10 = (σ 55 10) from ((f61 10 (of_decide_eq_true rfl)).trans ((f38 10 (of_decide_eq_true rfl)).trans (f20 10 (of_decide_eq_true rfl))))))
           refine lv_aload_n hx hb dX12_kept_30 rfl (lv_at hl 0 rfl) ?_
           have I66 : jI102 σ44 := jI102_fr ((f61 6 (of_decide_eq_true rfl)).trans ((f38 6 (of_decide_eq_true rfl)).trans (f20 6 (of_decide_eq_true rfl)))) ((f60 60 (of_decide_eq_true rfl)).trans ((f37 60 (of_decide_eq_true rfl)).trans (f19 60 (of_decide_eq_true rfl)))) ((f60 61 (of_decide_eq_true rfl)).trans ((f37 61 (of_decide_eq_true rfl)).trans (f19 61 (of_decide_eq_true rfl)))) hI102
           have I67 : jI104 σ44 := jI104_fr ((f61 10 (of_decide_eq_true rfl)).trans ((f38 10 (of_decide_eq_true rfl)).trans (f20 10 (of_decide_eq_true rfl)))) ((f61 12 (of_decide_eq_true rfl)).trans ((f38 12 (of_decide_eq_true rfl)).trans (f20 12 (of_decide_eq_true rfl)))) ((f61 13 (of_decide_eq_true rfl)).trans ((f38 13 (of_decide_eq_true rfl)).trans (f20 13 (of_decide_eq_true rfl)))) ((f60 62 (of_decide_eq_true rfl)).trans ((f37 62 (of_decide_eq_true rfl)).trans (f19 62 (of_decide_eq_true rfl)))) ((f60 67 (of_decide_eq_true rfl)).trans ((f37 67 (of_decide_eq_true rfl)).trans (f19 67 (of_decide_eq_true rfl)))) hI104
           have w68 : ∀ k : Nat, k < 4 → 0 ≤ (σ44 68 k).toInt ∧ (σ44 68 k).toInt ≤ 3 := p63
           have I69 : jI120 σ44 := ⟨(by omega), (by omega), (by omega), (by omega), (by omega), w68⟩
           refine jcallV (As := []) (rest := []) ⟨hx, hb, hml, hown, hts⟩ hK hP hA hS hZ (c_X12_isEnded l D cI cL ad zz hJ σ44 τ I66 I67 I69) cw_RX12_307 (jc_55 cI cL ad σ44 τ) rfl ⟨Nat.le_of_ble_eq_true rfl, Nat.le_of_ble_eq_true rfl⟩ rfl rfl rfl hl.1 rfl (Nat.le_of_ble_eq_true rfl) dX12_kept_31 ⟨Nat.zero_le _, Nat.zero_le _⟩ (fun r71 σ70 τ70 H locs h70 hP hS => ?_)
           obtain ⟨⟨rfl, rfl⟩, h70⟩ := h70
           exact by
            rcases h70 with h72 | h73
            · obtain ⟨q75, k74⟩ := h72
              have q75 := q75.symm
              subst q75
              refine lv_if_ne (tgt := 68) hx hb dX12_kept_34 (of_decide_eq_true rfl) (fun _ => ?_) (fun c => absurd c (of_decide_eq_true rfl))
              refine lv_bipush (v := (-2)) hx hb dX12_kept_68 (of_decide_eq_true rfl) ?_
              exact hret (-2) σ44 τ _ _ _ _ rfl ⟨rfl, (fun i hi => ((f60 i hi).trans ((f37 i (imp_259 i hi)).trans (f19 i (imp_256 i hi))))), (fun i hi => ((f61 i (imp_268 i hi)).trans ((f38 i (imp_261 i hi)).trans (f20 i (imp_257 i hi))))), p63, p62, trivial⟩ hP hS dX12_kept_70
            · obtain ⟨q79, k76, k77, k78⟩ := h73
              have q79 := q79.symm
              subst q79
              obtain ⟨B80, k81, k82, w83⟩ := k78
              have z84 : (σ44 55 6).toInt = (σ 55 6).toInt := (congrArg Int32.toInt (show σ44 55 6 = (σ 55 6) from ((f61 6 (of_decide_eq_true rfl)).trans ((f38 6 (of_decide_eq_true rfl)).trans (f20 6 (of_decide_eq_true rfl))))))
              refine lv_if_ne (tgt := 68) hx hb dX12_kept_34 (of_decide_eq_true rfl) (fun c => absurd (of_decide_eq_true rfl) c) (fun _ => ?_)
              refine lv_aload_n hx hb dX12_kept_37 rfl (lv_at hl 0 rfl) ?_
              have p85 : jmb σ44 B80 = 1 := (jmb_fr rfl rfl rfl rfl rfl B80).trans w83
              have I86 : jI101 σ44 := jI101_fr ((f61 4 (of_decide_eq_true rfl)).trans ((f38 4 (of_decide_eq_true rfl)).trans (f20 4 (of_decide_eq_true rfl)))) ((f61 5 (of_decide_eq_true rfl)).trans ((f38 5 (of_decide_eq_true rfl)).trans (f20 5 (of_decide_eq_true rfl)))) ((f60 56 (of_decide_eq_true rfl)).trans ((f37 56 (of_decide_eq_true rfl)).trans (f19 56 (of_decide_eq_true rfl)))) ((f60 57 (of_decide_eq_true rfl)).trans ((f37 57 (of_decide_eq_true rfl)).trans (f19 57 (of_decide_eq_true rfl)))) ((f60 58 (of_decide_eq_true rfl)).trans ((f37 58 (of_decide_eq_true rfl)).trans (f19 58 (of_decide_eq_true rfl)))) ((f60 59 (of_decide_eq_true rfl)).trans ((f37 59 (of_decide_eq_true rfl)).trans (f19 59 (of_decide_eq_true rfl)))) hI101
              have I87 : jI103 σ44 := jI103_fr ((f61 9 (of_decide_eq_true rfl)).trans ((f38 9 (of_decide_eq_true rfl)).trans (f20 9 (of_decide_eq_true rfl)))) hI103
              have I88 : jI105 σ44 := jI105_fr ((f61 15 (of_decide_eq_true rfl)).trans ((f38 15 (of_decide_eq_true rfl)).trans (f20 15 (of_decide_eq_true rfl)))) ((f60 65 (of_decide_eq_true rfl)).trans ((f37 65 (of_decide_eq_true rfl)).trans (f19 65 (of_decide_eq_true rfl)))) hI105
              have I89 : jI106 σ44 := jI106_fr ((f61 32 (of_decide_eq_true rfl)).trans ((f38 32 (of_decide_eq_true rfl)).trans (f20 32 (of_decide_eq_true rfl)))) ((f60 70 (of_decide_eq_true rfl)).trans ((f37 70 (of_decide_eq_true rfl)).trans (f19 70 (of_decide_eq_true rfl)))) ((f60 71 (of_decide_eq_true rfl)).trans ((f37 71 (of_decide_eq_true rfl)).trans (f19 71 (of_decide_eq_true rfl)))) ((f60 72 (of_decide_eq_true rfl)).trans ((f37 72 (of_decide_eq_true rfl)).trans (f19 72 (of_decide_eq_true rfl)))) hI106
              exact by
               refine jcallV (As := []) (rest := []) ⟨hx, hb, hml, hown, hts⟩ hK hP hA hS hZ ((c_X12_bests l D cI cL ad zz hJ 8).2.2 σ44 τ B80 p85 I86 I66 I87 I67 I88 I89 I69 p62 (by omega) (by omega) (by omega) (by omega)) cw_RX12_280 (jc_55 cI cL ad σ44 τ) rfl ⟨Nat.le_of_ble_eq_true rfl, Nat.le_of_ble_eq_true rfl⟩ rfl rfl rfl hl.1 rfl (Nat.le_of_ble_eq_true rfl) dX12_kept_38 ⟨Nat.zero_le _, Nat.zero_le _⟩ (fun r91 σ90 τ90 H locs h90 hP hS => ?_)
               obtain ⟨rfl, f92, f93, p94, h90⟩ := h90
               obtain ⟨k96, h90⟩ := h90
               have h97 := h90
               obtain ⟨q99, k98⟩ := h97
               refine lv_istore_n (lv' := [(2, .int r91), (0, .ref (ad 55)), (1, .int a1)]) hx hb dX12_kept_41 rfl hl (of_decide_eq_true rfl) rfl (fun ls hl => ?_)
               refine lv_aload_n hx hb dX12_kept_42 rfl (lv_at hl 1 rfl) ?_
               refine va_get (D := D) hx hb hts inlX12 hown hK hP 55 (jc_55 cI cL ad σ90 τ) rfl 37 (of_decide_eq_true rfl) (hts _ kw_33_15) (fun _ h9 => h9) rfl dX12_kept_43 ?_
               refine lv_iload_n hx hb dX12_kept_46 rfl (lv_at hl 2 rfl) ?_
               refine lv_icmp_ne (tgt := 55) hx hb dX12_kept_47 (of_decide_eq_true rfl) (fun c100 => ?_) (fun c100 => ?_)
               · have kc100 := jne c100 rfl t1
                 refine lv_aload_n hx hb dX12_kept_55 rfl (lv_at hl 1 rfl) ?_
                 refine lv_aload_n hx hb dX12_kept_56 rfl (lv_at hl 1 rfl) ?_
                 refine va_get (D := D) hx hb hts inlX12 hown hK hP 55 (jc_55 cI cL ad σ90 τ) rfl 37 (of_decide_eq_true rfl) (hts _ kw_33_15) (fun _ h9 => h9) rfl dX12_kept_57 ?_
                 refine lv_iconst (v := 0) hx hb dX12_kept_60 (of_decide_eq_true rfl) ?_
                 have w101 : ∀ k : Nat, k < 4 → 0 ≤ (σ90 68 k).toInt ∧ (σ90 68 k).toInt ≤ 3 := (jrr_fr (f92 68 (of_decide_eq_true rfl)) w68)
                 have z102 : (σ90 55 6).toInt = (σ 55 6).toInt := (congrArg Int32.toInt (show σ90 55 6 = (σ 55 6) from ((f93 6 (of_decide_eq_true rfl)).trans ((f61 6 (of_decide_eq_true rfl)).trans ((f38 6 (of_decide_eq_true rfl)).trans (f20 6 (of_decide_eq_true rfl)))))))
                 have z103 : (σ90 55 27).toInt = (σ44 55 27).toInt := (congrArg Int32.toInt (show σ90 55 27 = (σ44 55 27) from (f93 27 (of_decide_eq_true rfl))))
                 have z104 : (σ90 55 25).toInt = (σ44 55 25).toInt := (congrArg Int32.toInt (show σ90 55 25 = (σ44 55 25) from (f93 25 (of_decide_eq_true rfl))))
                 have z105 : (σ90 55 26).toInt = (σ44 55 26).toInt := (congrArg Int32.toInt (show σ90 55 26 = (σ44 55 26) from (f93 26 (of_decide_eq_true rfl))))
                 have z106 : (σ90 68 0).toInt = (σ44 68 0).toInt := (congrArg Int32.toInt (show σ90 68 0 = (σ44 68 0) from (congrFun (f92 68 (of_decide_eq_true rfl)) 0)))
                 have z107 : (σ90 68 1).toInt = (σ44 68 1).toInt := (congrArg Int32.toInt (show σ90 68 1 = (σ44 68 1) from (congrFun (f92 68 (of_decide_eq_true rfl)) 1)))
                 have z108 : (σ90 68 2).toInt = (σ44 68 2).toInt := (congrArg Int32.toInt (show σ90 68 2 = (σ44 68 2) from (congrFun (f92 68 (of_decide_eq_true rfl)) 2)))
                 have z109 : (σ90 68 3).toInt = (σ44 68 3).toInt := (congrArg Int32.toInt (show σ90 68 3 = (σ44 68 3) from (congrFun (f92 68 (of_decide_eq_true rfl)) 3)))
                 exact by
                  refine jcallV (As := [.int (σ90 55 37), .int 0]) (rest := []) ⟨hx, hb, hml, hown, hts⟩ hK hP hA hS hZ (c_X12_goes_0 l D cI cL ad zz hJ σ90 τ (σ90 55 37) ((σ90 55 37).toInt) rfl w101 (by omega) (by omega) (by omega) (by omega) (by omega)) cw_RX12_296 (jc_55 cI cL ad σ90 τ) rfl ⟨Nat.le_of_ble_eq_true rfl, Nat.le_of_ble_eq_true rfl⟩ rfl rfl rfl hl.1 rfl (Nat.le_of_ble_eq_true rfl) dX12_kept_61 ⟨Nat.zero_le _, Nat.zero_le _⟩ (fun r111 σ110 τ110 H locs h110 hP hS => ?_)
                  obtain ⟨rfl, f112, f113, w114, w115, w116, h110⟩ := h110
                  obtain ⟨k118, k119, k120, h110⟩ := h110
                  have h121 := h110
                  obtain ⟨q127, k122, k123, k124, k125, k126⟩ := h121
                  refine lv_istore_n (lv' := [(3, .int r111), (2, .int r91), (0, .ref (ad 55)), (1, .int a1)]) hx hb dX12_kept_64 rfl hl (of_decide_eq_true rfl) rfl (fun ls hl => ?_)
                  refine lv_goto (tgt := 30) hx hb dX12_kept_65 (of_decide_eq_true rfl) ?_
                  have z128 : (σ110 55 12).toInt = (σ 55 12).toInt := (congrArg Int32.toInt (show σ110 55 12 = (σ 55 12) from ((f113 12 (of_decide_eq_true rfl)).trans ((f93 12 (of_decide_eq_true rfl)).trans ((f61 12 (of_decide_eq_true rfl)).trans ((f38 12 (of_decide_eq_true rfl)).trans (f20 12 (of_decide_eq_true rfl))))))))
                  have z129 : (σ110 55 10).toInt = (σ 55 10).toInt := (congrArg Int32.toInt (show σ110 55 10 = (σ 55 10) from ((f113 10 (of_decide_eq_true rfl)).trans ((f93 10 (of_decide_eq_true rfl)).trans ((f61 10 (of_decide_eq_true rfl)).trans ((f38 10 (of_decide_eq_true rfl)).trans (f20 10 (of_decide_eq_true rfl))))))))
                  have p130 : jKept σ110 := jKept.fr (f112 75 (of_decide_eq_true rfl)) (f112 76 (of_decide_eq_true rfl)) (f112 77 (of_decide_eq_true rfl)) p94
                  have I131 : jI119 σ110 := w114
                  exact by exact ihlp40  σ110 _ _ ls (by omega) (by omega) (by omega) (by omega) (by omega) (by omega) (fun i hi => ((f112 i (imp_256 i hi)).trans ((f92 i (imp_258 i hi)).trans (f60 i hi)))) (fun i hi => ((f113 i (imp_269 i hi)).trans ((f93 i (imp_270 i hi)).trans (f61 i hi))))  p130 I131 hP hS (lv_sub hl [2, 3] rfl)
               · have kc100 := jeq c100 rfl t1
                 refine lv_aload_n hx hb dX12_kept_50 rfl (lv_at hl 1 rfl) ?_
                 refine va_get (D := D) hx hb hts inlX12 hown hK hP 55 (jc_55 cI cL ad σ90 τ) rfl 26 (of_decide_eq_true rfl) (hts _ kw_23_5) (fun _ h9 => h9) rfl dX12_kept_51 ?_
                 have m132 : σ90 55 26 = (σ44 55 26) := (f93 26 (of_decide_eq_true rfl))
                 refine jtopr m132 ?_
                 have I133 : jI119 σ90 := jI119_fr (f92 68 (of_decide_eq_true rfl)) p63
                 exact hret (σ44 55 26) σ90 τ _ _ _ _ rfl ⟨rfl, (fun i hi => ((f92 i (imp_258 i hi)).trans ((f60 i hi).trans ((f37 i (imp_259 i hi)).trans (f19 i (imp_256 i hi)))))), (fun i hi => ((f93 i (imp_260 i hi)).trans ((f61 i (imp_268 i hi)).trans ((f38 i (imp_261 i hi)).trans (f20 i (imp_257 i hi)))))), I133, p94, trivial⟩ hP hS dX12_kept_54
      exact by exact lp40 1000000  σ35 _ _ ls (by omega) (by omega) (by omega) (by omega) (by omega) (by omega) (fun _ _ => rfl) (fun _ _ => rfl)  p53 I46 hP hS hl
    · have kc15 := jnle c15 rfl jz_8
      refine lv_bipush (v := (-4)) hx hb dX12_kept_19 (of_decide_eq_true rfl) ?_
      exact hret (-4) σ τ _ _ _ _ rfl ⟨rfl, (fun _ _ => rfl), (fun _ _ => rfl), hI119, hs_jKept, trivial⟩ hP hS dX12_kept_21
  · obtain ⟨q135, k134⟩ := h12
    have q135 := q135.symm
    subst q135
    refine lv_if_ne (tgt := 10) hx hb dX12_kept_5 (of_decide_eq_true rfl) (fun c => absurd (of_decide_eq_true rfl) c) (fun _ => ?_)
    refine lv_iconst (v := (-1)) hx hb dX12_kept_8 (of_decide_eq_true rfl) ?_
    exact hret (-1) σ τ _ _ _ _ rfl ⟨rfl, (fun _ _ => rfl), (fun _ _ => rfl), hI119, hs_jKept, trivial⟩ hP hS dX12_kept_9
set_option maxHeartbeats 4000000 in
set_option maxRecDepth 100000 in
theorem c_X12_orders_5 (l : Launch) (D : va_G) (cI cL : ClassId) (ad zz : Nat → Nat) (hJ : jD ad) (σ : Nat → Nat → Int32) (τ : Nat → Nat → Int64) (a2 : Int32) (A2 : Int) (t2 : a2.toInt = A2) (a3 : Int32) (A3 : Int) (t3 : a3.toInt = A3) (hI101 : jI101 σ) (hI102 : jI102 σ) (hI103 : jI103 σ) (hI104 : jI104 σ) (hI105 : jI105 σ) (hI106 : jI106 σ) (hI119 : jI119 σ) (hI111 : jI111 σ) (hs_jKept : jKept σ) (hp0 : (σ 55 10).toInt ≤ 5) (hp1 : 5 ≤ (σ 55 10).toInt) (hp2 : (σ 55 12).toInt ≤ 8) : jMv l yX12_orders cX12_orders 6 none ({ frames := 104, cells := 0, slots := 0, locals := 5081 }) D cI cL ad zz [.ref (ad 55), .int 5, .int a2, .int a3] σ τ (fun σ' τ' => τ = τ' ∧ (∀ i : Nat, (i < 55 ∨ 55 < i) ∧ (i < 62 ∨ 62 < i) ∧ (i < 66 ∨ 66 < i) ∧ (i < 68 ∨ 69 < i) ∧ (i < 74 ∨ 78 < i) → σ' i = σ i) ∧ (∀ k : Nat, (k < 18 ∨ 18 < k) ∧ (k < 19 ∨ 19 < k) ∧ (k < 20 ∨ 20 < k) ∧ (k < 21 ∨ 21 < k) ∧ (k < 22 ∨ 22 < k) ∧ (k < 25 ∨ 25 < k) ∧ (k < 26 ∨ 26 < k) ∧ (k < 27 ∨ 27 < k) ∧ (k < 37 ∨ 37 < k) ∧ (k < 42 ∨ 42 < k) ∧ (k < 45 ∨ 45 < k) ∧ (k < 46 ∨ 46 < k) → σ' 55 k = σ 55 k) ∧ (jI104 σ') ∧ (jI119 σ') ∧ (jKept σ') ∧ True) := by
  refine jMv.of hJ (by decide +kernel) rfl (Nat.le_of_ble_eq_true rfl) ?_
  intro p e s m args below meth c Q ls hC hret hl hP
  obtain ⟨hx, hb, hr, hml, hown, hts, hK, -, hlocks, hZ⟩ := hC
  have hown : s.vm.findClass RX12 = some m.cls := hown
  have hS : va_S (jA ad) s.heap s.heap [] := va_S.rf
  have hA : ∀ q, jA ad q → jA ad q := fun _ h => h
  have hl : lv_has ls 6 [(0, .ref (ad 55)), (1, .int 5), (2, .int a2), (3, .int a3)] := hl
  have g2 := jrg t2
  have g3 := jrg t3
  obtain ⟨i1, i2, i3, w4, w5⟩ : (1 ≤ (σ 55 10).toInt ∧ (σ 55 10).toInt ≤ 8) ∧ (1 ≤ (σ 55 12).toInt ∧ (σ 55 12).toInt ≤ 12) ∧ (0 ≤ (σ 55 13).toInt ∧ (σ 55 13).toInt ≤ 999) ∧ (∀ k : Nat, k < 8 → 0 ≤ (σ 62 k).toInt ∧ (σ 62 k).toInt ≤ 3) ∧ (∀ k : Nat, k < 8 → 0 ≤ (σ 67 k).toInt ∧ (σ 67 k).toInt ≤ 3) := id hI104
  have w6 : ∀ k : Nat, k < 5 → 0 ≤ (σ 79 k).toInt ∧ (σ 79 k).toInt ≤ 3 := hI111
  refine lv_iload_n hx hb dX12_orders_0 rfl (lv_at hl 1 rfl) ?_
  refine lv_aload_n hx hb dX12_orders_1 rfl (lv_at hl 0 rfl) ?_
  refine va_get (D := D) hx hb hts inlX12 hown hK hP 55 (jc_55 cI cL ad σ τ) rfl 10 (of_decide_eq_true rfl) (hts _ kw_8_15) (fun _ h9 => h9) rfl dX12_orders_2 ?_
  exact by
   refine lv_icmp_ne (tgt := 35) hx hb dX12_orders_5 (of_decide_eq_true rfl) (fun c => absurd (jne c jz_5 rfl) (by omega)) (fun c7 => ?_)
   have kc7 := jeq c7 jz_5 rfl
   refine lv_aload_n hx hb dX12_orders_8 rfl (lv_at hl 0 rfl) ?_
   refine jcallV (As := []) (rest := []) ⟨hx, hb, hml, hown, hts⟩ hK hP hA hS hZ (c_X12_bestNow l D cI cL ad zz hJ σ τ hI101 hI102 hI103 hI104 hI105 hI106 hI119 hs_jKept (by omega)) cw_RX12_346 (jc_55 cI cL ad σ τ) rfl ⟨Nat.le_of_ble_eq_true rfl, Nat.le_of_ble_eq_true rfl⟩ rfl rfl rfl hl.1 rfl (Nat.le_of_ble_eq_true rfl) dX12_orders_9 ⟨Nat.zero_le _, Nat.zero_le _⟩ (fun r9 σ8 τ8 H locs h8 hP hS => ?_)
   obtain ⟨rfl, f10, f11, I12, p13, h8⟩ := h8
   refine lv_istore (lv' := [(4, .int r9), (0, .ref (ad 55)), (1, .int 5), (2, .int a2), (3, .int a3)]) hx hb dX12_orders_12 hl (of_decide_eq_true rfl) rfl (fun ls hl => ?_)
   refine lv_iload hx hb dX12_orders_14 (lv_at hl 0 rfl) ?_
   refine lv_aload_n hx hb dX12_orders_16 rfl (lv_at hl 1 rfl) ?_
   refine va_get (D := D) hx hb hts inlX12 hown hK hP 55 (jc_55 cI cL ad σ8 τ) rfl 46 (of_decide_eq_true rfl) (hts _ kw_40_17) (fun _ h9 => h9) rfl dX12_orders_17 ?_
   exact by
    have m15 : σ8 55 46 = (σ 55 46) := (f11 46 (of_decide_eq_true rfl))
    refine jtopr m15 ?_
    refine lv_icmp_le (tgt := 34) hx hb dX12_orders_20 (of_decide_eq_true rfl) (fun c16 => ?_) (fun c16 => ?_)
    · have kc16 := jle c16 rfl rfl
      have I17 : jI104 σ8 := jI104_fr (f11 10 (of_decide_eq_true rfl)) (f11 12 (of_decide_eq_true rfl)) (f11 13 (of_decide_eq_true rfl)) (f10 62 (of_decide_eq_true rfl)) (f10 67 (of_decide_eq_true rfl)) hI104
      exact hret σ8 τ _ _ _ _ ⟨rfl, (fun i hi => (f10 i (imp_271 i hi))), (fun i hi => (f11 i (imp_272 i hi))), I17, I12, p13, trivial⟩ hP hS dX12_orders_34
    · have kc16 := jnle c16 rfl rfl
      refine lv_aload_n hx hb dX12_orders_23 rfl (lv_at hl 1 rfl) ?_
      refine lv_iload hx hb dX12_orders_24 (lv_at hl 0 rfl) ?_
      refine jput (ty := .int) hx hb hts inlX12 tyX12 tyX12_ok nmX12 hown hK hP hJ hA hS (jc_55 cI cL ad σ8 τ) rfl (k := 46) (of_decide_eq_true rfl) (Nat.le_of_ble_eq_true rfl) (jp_55_46 cI cL ad σ8 τ r9) (hts _ kw_40_17) (fun _ h9 => h9) rfl (by decide +kernel) rfl rfl dX12_orders_26 (fun σ18 H locs eσ18 hP hS => ?_)
      refine lv_aload_n hx hb dX12_orders_29 rfl (lv_at hl 1 rfl) ?_
      refine lv_iload_n hx hb dX12_orders_30 rfl (lv_at hl 4 rfl) ?_
      refine jput (ty := .int) hx hb hts inlX12 tyX12 tyX12_ok nmX12 hown hK hP hJ hA hS (jc_55 cI cL ad σ18 τ) rfl (k := 45) (of_decide_eq_true rfl) (Nat.le_of_ble_eq_true rfl) (jp_55_45 cI cL ad σ18 τ a3) (hts _ kw_40_18) (fun _ h9 => h9) rfl (by decide +kernel) rfl rfl dX12_orders_31 (fun σ19 H locs eσ19 hP hS => ?_)
      have I20 : jI104 σ19 := jI104_fr ((jkp 10 eσ19 (of_decide_eq_true rfl)).trans ((jkp 10 eσ18 (of_decide_eq_true rfl)).trans (f11 10 (of_decide_eq_true rfl)))) ((jkp 12 eσ19 (of_decide_eq_true rfl)).trans ((jkp 12 eσ18 (of_decide_eq_true rfl)).trans (f11 12 (of_decide_eq_true rfl)))) ((jkp 13 eσ19 (of_decide_eq_true rfl)).trans ((jkp 13 eσ18 (of_decide_eq_true rfl)).trans (f11 13 (of_decide_eq_true rfl)))) ((jnp 62 eσ19 (of_decide_eq_true rfl)).trans ((jnp 62 eσ18 (of_decide_eq_true rfl)).trans (f10 62 (of_decide_eq_true rfl)))) ((jnp 67 eσ19 (of_decide_eq_true rfl)).trans ((jnp 67 eσ18 (of_decide_eq_true rfl)).trans (f10 67 (of_decide_eq_true rfl)))) hI104
      have I21 : jI119 σ19 := jI119_fr ((jnp 68 eσ19 (of_decide_eq_true rfl)).trans (jnp 68 eσ18 (of_decide_eq_true rfl))) I12
      have p22 : jKept σ19 := jKept.fr ((jnp 75 eσ19 (of_decide_eq_true rfl)).trans (jnp 75 eσ18 (of_decide_eq_true rfl))) ((jnp 76 eσ19 (of_decide_eq_true rfl)).trans (jnp 76 eσ18 (of_decide_eq_true rfl))) ((jnp 77 eσ19 (of_decide_eq_true rfl)).trans (jnp 77 eσ18 (of_decide_eq_true rfl))) p13
      exact hret σ19 τ _ _ _ _ ⟨rfl, (fun i hi => ((jnp i eσ19 (imp_273 i hi)).trans ((jnp i eσ18 (imp_273 i hi)).trans (f10 i (imp_271 i hi))))), (fun i hi => ((jkp i eσ19 (imp_274 i hi)).trans ((jkp i eσ18 (imp_275 i hi)).trans (f11 i (imp_272 i hi))))), I20, I21, p22, trivial⟩ hP hS dX12_orders_34
set_option maxHeartbeats 4000000 in
set_option maxRecDepth 100000 in
theorem c_X12_orders_4 (l : Launch) (D : va_G) (cI cL : ClassId) (ad zz : Nat → Nat) (hJ : jD ad) (σ : Nat → Nat → Int32) (τ : Nat → Nat → Int64) (a2 : Int32) (A2 : Int) (t2 : a2.toInt = A2) (a3 : Int32) (A3 : Int) (t3 : a3.toInt = A3) (hI101 : jI101 σ) (hI102 : jI102 σ) (hI103 : jI103 σ) (hI104 : jI104 σ) (hI105 : jI105 σ) (hI106 : jI106 σ) (hI119 : jI119 σ) (hI111 : jI111 σ) (hs_jKept : jKept σ) (hp0 : (σ 55 10).toInt ≤ 5) (hp1 : 4 ≤ (σ 55 10).toInt) (hp2 : (σ 55 12).toInt ≤ 8) : jMv l yX12_orders cX12_orders 6 none ({ frames := 105, cells := 0, slots := 0, locals := 5106 }) D cI cL ad zz [.ref (ad 55), .int 4, .int a2, .int a3] σ τ (fun σ' τ' => τ = τ' ∧ (∀ i : Nat, (i < 55 ∨ 55 < i) ∧ (i < 62 ∨ 62 < i) ∧ (i < 66 ∨ 66 < i) ∧ (i < 68 ∨ 69 < i) ∧ (i < 74 ∨ 78 < i) → σ' i = σ i) ∧ (∀ k : Nat, (k < 18 ∨ 18 < k) ∧ (k < 19 ∨ 19 < k) ∧ (k < 20 ∨ 20 < k) ∧ (k < 21 ∨ 21 < k) ∧ (k < 22 ∨ 22 < k) ∧ (k < 25 ∨ 25 < k) ∧ (k < 26 ∨ 26 < k) ∧ (k < 27 ∨ 27 < k) ∧ (k < 37 ∨ 37 < k) ∧ (k < 42 ∨ 42 < k) ∧ (k < 45 ∨ 45 < k) ∧ (k < 46 ∨ 46 < k) → σ' 55 k = σ 55 k) ∧ (jI104 σ') ∧ (jI119 σ') ∧ (jKept σ') ∧ True) := by
  refine jMv.of hJ (by decide +kernel) rfl (Nat.le_of_ble_eq_true rfl) ?_
  intro p e s m args below meth c Q ls hC hret hl hP
  obtain ⟨hx, hb, hr, hml, hown, hts, hK, -, hlocks, hZ⟩ := hC
  have hown : s.vm.findClass RX12 = some m.cls := hown
  have hS : va_S (jA ad) s.heap s.heap [] := va_S.rf
  have hA : ∀ q, jA ad q → jA ad q := fun _ h => h
  have hl : lv_has ls 6 [(0, .ref (ad 55)), (1, .int 4), (2, .int a2), (3, .int a3)] := hl
  have g2 := jrg t2
  have g3 := jrg t3
  obtain ⟨i1, i2, i3, w4, w5⟩ : (1 ≤ (σ 55 10).toInt ∧ (σ 55 10).toInt ≤ 8) ∧ (1 ≤ (σ 55 12).toInt ∧ (σ 55 12).toInt ≤ 12) ∧ (0 ≤ (σ 55 13).toInt ∧ (σ 55 13).toInt ≤ 999) ∧ (∀ k : Nat, k < 8 → 0 ≤ (σ 62 k).toInt ∧ (σ 62 k).toInt ≤ 3) ∧ (∀ k : Nat, k < 8 → 0 ≤ (σ 67 k).toInt ∧ (σ 67 k).toInt ≤ 3) := id hI104
  have w6 : ∀ k : Nat, k < 5 → 0 ≤ (σ 79 k).toInt ∧ (σ 79 k).toInt ≤ 3 := hI111
  refine lv_iload_n hx hb dX12_orders_0 rfl (lv_at hl 1 rfl) ?_
  refine lv_aload_n hx hb dX12_orders_1 rfl (lv_at hl 0 rfl) ?_
  refine va_get (D := D) hx hb hts inlX12 hown hK hP 55 (jc_55 cI cL ad σ τ) rfl 10 (of_decide_eq_true rfl) (hts _ kw_8_15) (fun _ h9 => h9) rfl dX12_orders_2 ?_
  refine lv_icmp_ne (tgt := 35) hx hb dX12_orders_5 (of_decide_eq_true rfl) (fun c7 => ?_) (fun c7 => ?_)
  · have kc7 := jne c7 jz_4 rfl
    refine lv_iconst (v := 0) hx hb dX12_orders_35 (of_decide_eq_true rfl) ?_
    refine lv_istore (lv' := [(4, .int 0), (0, .ref (ad 55)), (1, .int 4), (2, .int a2), (3, .int a3)]) hx hb dX12_orders_36 hl (of_decide_eq_true rfl) rfl (fun ls hl => ?_)
    have lp8 : ∀ (n9 : Nat) (x10 : Int32) (σ12 : Nat → Nat → Int32) (H : Heap) (locs : List Loc) (ls : Array Slot), (-x10.toInt + 4 : Int) < n9 → 0 ≤ x10.toInt → x10.toInt ≤ 4 → (∀ i : Nat, (i < 55 ∨ 55 < i) ∧ (i < 62 ∨ 62 < i) ∧ (i < 66 ∨ 66 < i) ∧ (i < 68 ∨ 69 < i) ∧ (i < 74 ∨ 78 < i) → σ12 i = σ i) → (∀ k : Nat, (k < 18 ∨ 18 < k) ∧ (k < 19 ∨ 19 < k) ∧ (k < 20 ∨ 20 < k) ∧ (k < 21 ∨ 21 < k) ∧ (k < 22 ∨ 22 < k) ∧ (k < 25 ∨ 25 < k) ∧ (k < 26 ∨ 26 < k) ∧ (k < 27 ∨ 27 < k) ∧ (k < 37 ∨ 37 < k) ∧ (k < 42 ∨ 42 < k) ∧ (k < 45 ∨ 45 < k) ∧ (k < 46 ∨ 46 < k) → σ12 55 k = σ 55 k) → jKept σ12 → jI104 σ12 → jI119 σ12 → jH D cI cL ad σ12 τ H → va_S (jA ad) s.heap H locs → lv_has ls 6 [(4, .int x10), (0, .ref (ad 55)), (1, .int 4), (2, .int a2), (3, .int a3)] → W p l e ({ frames := 105, cells := 0, slots := 0, locals := 5106 }) s m args below meth c H locs 0 0 Q (F0 m 38 ls []) := by
      intro n9
      induction n9 with
      | zero => intro x10 σ12 H locs ls h14 h15 h16; exact absurd h14 (by omega)
      | succ n9 ihlp8 =>
        intro x10 σ12 H locs ls h14 h15 h16 f17 f18 p19 p20 p21 hP hS hl
        exact by
         obtain ⟨i22, i23, i24, w25, w26⟩ : (1 ≤ (σ12 55 10).toInt ∧ (σ12 55 10).toInt ≤ 8) ∧ (1 ≤ (σ12 55 12).toInt ∧ (σ12 55 12).toInt ≤ 12) ∧ (0 ≤ (σ12 55 13).toInt ∧ (σ12 55 13).toInt ≤ 999) ∧ (∀ k : Nat, k < 8 → 0 ≤ (σ12 62 k).toInt ∧ (σ12 62 k).toInt ≤ 3) ∧ (∀ k : Nat, k < 8 → 0 ≤ (σ12 67 k).toInt ∧ (σ12 67 k).toInt ≤ 3) := id p20
         have z27 : (σ12 55 10).toInt = (σ 55 10).toInt := (congrArg Int32.toInt (show σ12 55 10 = (σ 55 10) from (f18 10 (of_decide_eq_true rfl))))
         have z28 : (σ12 55 12).toInt = (σ 55 12).toInt := (congrArg Int32.toInt (show σ12 55 12 = (σ 55 12) from (f18 12 (of_decide_eq_true rfl))))
         have z29 : (σ12 55 13).toInt = (σ 55 13).toInt := (congrArg Int32.toInt (show σ12 55 13 = (σ 55 13) from (f18 13 (of_decide_eq_true rfl))))
         refine lv_iload hx hb dX12_orders_38 (lv_at hl 0 rfl) ?_
         refine lv_iconst (v := 4) hx hb dX12_orders_40 (of_decide_eq_true rfl) ?_
         refine lv_icmp_ge (tgt := 127) hx hb dX12_orders_41 (of_decide_eq_true rfl) (fun c30 => ?_) (fun c30 => ?_)
         · have kc30 := jle c30 jz_4 rfl
           exact hret σ12 τ _ _ _ _ ⟨rfl, (fun i hi => (f17 i hi)), (fun i hi => (f18 i hi)), p20, p21, p19, trivial⟩ hP hS dX12_orders_127
         · have kc30 := jnle c30 jz_4 rfl
           refine lv_iconst (v := 0) hx hb dX12_orders_44 (of_decide_eq_true rfl) ?_
           refine lv_istore (lv' := [(5, .int 0), (4, .int x10), (0, .ref (ad 55)), (1, .int 4), (2, .int a2), (3, .int a3)]) hx hb dX12_orders_45 hl (of_decide_eq_true rfl) rfl (fun ls hl => ?_)
           have lp31 : ∀ (n32 : Nat) (x33 : Int32) (H : Heap) (locs : List Loc) (ls : Array Slot), ((σ12 55 10).toInt - x33.toInt : Int) < n32 → 0 ≤ x33.toInt → x33.toInt ≤ 5 → x33.toInt ≤ (σ12 55 10).toInt → jH D cI cL ad σ12 τ H → va_S (jA ad) s.heap H locs → lv_has ls 6 [(5, .int x33), (4, .int x10), (0, .ref (ad 55)), (1, .int 4), (2, .int a2), (3, .int a3)] → W p l e ({ frames := 105, cells := 0, slots := 0, locals := 5106 }) s m args below meth c H locs 0 0 Q (F0 m 47 ls []) := by
             intro n32
             induction n32 with
             | zero => intro x33 H locs ls h35 h36 h37 h38; exact absurd h35 (by omega)
             | succ n32 ihlp31 =>
               intro x33 H locs ls h35 h36 h37 h38 hP hS hl
               exact by
                refine lv_iload hx hb dX12_orders_47 (lv_at hl 0 rfl) ?_
                refine lv_aload_n hx hb dX12_orders_49 rfl (lv_at hl 2 rfl) ?_
                refine va_get (D := D) hx hb hts inlX12 hown hK hP 55 (jc_55 cI cL ad σ12 τ) rfl 10 (of_decide_eq_true rfl) (hts _ kw_8_15) (fun _ h9 => h9) rfl dX12_orders_50 ?_
                have m40 : σ12 55 10 = (σ 55 10) := (f18 10 (of_decide_eq_true rfl))
                refine jtopr m40 ?_
                refine lv_icmp_ge (tgt := 84) hx hb dX12_orders_53 (of_decide_eq_true rfl) (fun c41 => ?_) (fun c41 => ?_)
                · have kc41 := jle c41 rfl rfl
                  refine lv_iload hx hb dX12_orders_84 (lv_at hl 0 rfl) ?_
                  refine lv_aload_n hx hb dX12_orders_86 rfl (lv_at hl 2 rfl) ?_
                  refine va_get (D := D) hx hb hts inlX12 hown hK hP 55 (jc_55 cI cL ad σ12 τ) rfl 10 (of_decide_eq_true rfl) (hts _ kw_8_15) (fun _ h9 => h9) rfl dX12_orders_87 ?_
                  refine jtopr m40 ?_
                  exact by
                   refine lv_icmp_ge (tgt := 121) hx hb dX12_orders_90 (of_decide_eq_true rfl) (fun c42 => ?_) (fun c => absurd (jnle c rfl rfl) (by omega))
                   have kc42 := jle c42 rfl rfl
                   obtain ⟨x43, ex43⟩ : ∃ y : Int32, y = x10 + 1 := ⟨_, rfl⟩
                   have tx43 : x43.toInt = x10.toInt + 1 := (jadd ex43 rfl jz_1 (by omega) (by omega)).trans (by omega)
                   refine lv_iinc (v := x43) (lv' := [(4, .int x43), (5, .int x33), (0, .ref (ad 55)), (1, .int 4), (2, .int a2), (3, .int a3)]) hx hb dX12_orders_121 hl (k := 1) rfl (by rw [ex43]; rfl) (of_decide_eq_true rfl) rfl (fun ls hl => ?_)
                   refine lv_goto (tgt := 38) hx hb dX12_orders_124 (of_decide_eq_true rfl) ?_
                   exact by exact ihlp8 x43 σ12 _ _ ls (by have h90 := tx43; omega) (by have h90 := tx43; omega) (by have h90 := tx43; omega) (fun i hi => (f17 i hi)) (fun i hi => (f18 i hi))  p19 p20 p21 hP hS (lv_sub hl [0, 2, 3, 4, 5] rfl)
                · have kc41 := jnle c41 rfl rfl
                  refine lv_iload_n hx hb dX12_orders_56 rfl (lv_at hl 4 rfl) ?_
                  exact by
                   refine lv_iload hx hb dX12_orders_57 (lv_at hl 0 rfl) ?_
                   refine lv_ishr hx hb dX12_orders_59 ?_
                   refine lv_topi (fun x44 ex44 => ?_)
                   have gx44 := jrg (rfl : x44.toInt = x44.toInt)
                   refine lv_iconst (v := 1) hx hb dX12_orders_60 (of_decide_eq_true rfl) ?_
                   refine lv_iand hx hb dX12_orders_61 ?_
                   refine lv_topi (fun x45 ex45 => ?_)
                   have gx45 := jrg (rfl : x45.toInt = x45.toInt)
                   have g46 : 0 ≤ x45.toInt ∧ x45.toInt ≤ 1 := jmask ex45 1 (of_decide_eq_true rfl) (of_decide_eq_true rfl)
                   refine lv_iconst (v := 1) hx hb dX12_orders_62 (of_decide_eq_true rfl) ?_
                   refine lv_icmp_eq (tgt := 78) hx hb dX12_orders_63 (of_decide_eq_true rfl) (fun c47 => ?_) (fun c47 => ?_)
                   · have kc47 := jeq c47 rfl jz_1
                     obtain ⟨x48, ex48⟩ : ∃ y : Int32, y = x33 + 1 := ⟨_, rfl⟩
                     exact by
                      have tx48 : x48.toInt = x33.toInt + 1 := (jadd ex48 rfl jz_1 (by omega) (by omega)).trans (by omega)
                      refine lv_iinc (v := x48) (lv' := [(5, .int x48), (4, .int x10), (0, .ref (ad 55)), (1, .int 4), (2, .int a2), (3, .int a3)]) hx hb dX12_orders_78 hl (k := 0) rfl (by rw [ex48]; rfl) (of_decide_eq_true rfl) rfl (fun ls hl => ?_)
                      refine lv_goto (tgt := 47) hx hb dX12_orders_81 (of_decide_eq_true rfl) ?_
                      exact by exact ihlp31 x48 _ _ ls (by have h90 := tx48; omega) (by have h90 := tx48; omega) (by have h90 := tx48; omega) (by have h90 := tx48; omega)    hP hS (lv_sub hl [0, 1, 2, 3, 4, 5] rfl)
                   · have kc47 := jne c47 rfl jz_1
                     refine lv_aload_n hx hb dX12_orders_66 rfl (lv_at hl 2 rfl) ?_
                     refine va_get (D := D) hx hb hts inlX12 hown hK hP 55 (jc_55 cI cL ad σ12 τ) rfl 44 (of_decide_eq_true rfl) (hts _ kw_8_4) (fun _ h9 => h9) rfl dX12_orders_67 ?_
                     refine lv_iload hx hb dX12_orders_70 (lv_at hl 0 rfl) ?_
                     refine jald hx hb hK hP (jc_79 cI cL ad σ12 τ) (jin rfl (by omega) (by omega)) dX12_orders_72 ?_
                     exact by
                      have w49 : ∀ k : Nat, k < 5 → 0 ≤ (σ12 79 k).toInt ∧ (σ12 79 k).toInt ≤ 3 := (jrr_fr (f17 79 (of_decide_eq_true rfl)) w6)
                      have g50 := w49 _ (jnat (x := x33) rfl (n := 5) (by omega) (of_decide_eq_true rfl))
                      refine lv_topi (fun x51 ex51 => ?_)
                      rw [← ex51] at g50
                      refine lv_iload hx hb dX12_orders_73 (lv_at hl 1 rfl) ?_
                      refine lv_icmp_eq (tgt := 84) hx hb dX12_orders_75 (of_decide_eq_true rfl) (fun c52 => ?_) (fun c52 => ?_)
                      · have kc52 := jeq c52 rfl rfl
                        refine lv_iload hx hb dX12_orders_84 (lv_at hl 0 rfl) ?_
                        refine lv_aload_n hx hb dX12_orders_86 rfl (lv_at hl 2 rfl) ?_
                        exact by
                         refine va_get (D := D) hx hb hts inlX12 hown hK hP 55 (jc_55 cI cL ad σ12 τ) rfl 10 (of_decide_eq_true rfl) (hts _ kw_8_15) (fun _ h9 => h9) rfl dX12_orders_87 ?_
                         refine jtopr m40 ?_
                         refine lv_icmp_ge (tgt := 121) hx hb dX12_orders_90 (of_decide_eq_true rfl) (fun c => absurd (jle c rfl rfl) (by omega)) (fun c53 => ?_)
                         have kc53 := jnle c53 rfl rfl
                         refine lv_aload_n hx hb dX12_orders_93 rfl (lv_at hl 2 rfl) ?_
                         refine va_get (D := D) hx hb hts inlX12 hown hK hP 55 (jc_55 cI cL ad σ12 τ) rfl 11 (of_decide_eq_true rfl) (hts _ kw_7_8) (fun _ h9 => h9) rfl dX12_orders_94 ?_
                         refine lv_iload_n hx hb dX12_orders_97 rfl (lv_at hl 3 rfl) ?_
                         refine lv_iload hx hb dX12_orders_98 (lv_at hl 1 rfl) ?_
                         refine jast hx hb hK hP hJ hA hS (jc_62 cI cL ad σ12 τ) (ja_62 cI cL ad σ12 τ _ _) (jin jz_4 (by omega) (by omega)) dX12_orders_100 (fun σ54 H locs eσ54 hP hS => ?_)
                         exact by
                          have eσ54 : σ54 = jup σ12 62 4 x10 := eσ54
                          refine lv_aload_n hx hb dX12_orders_101 rfl (lv_at hl 2 rfl) ?_
                          refine lv_iload_n hx hb dX12_orders_102 rfl (lv_at hl 3 rfl) ?_
                          refine lv_iconst (v := 1) hx hb dX12_orders_103 (of_decide_eq_true rfl) ?_
                          refine lv_iadd hx hb dX12_orders_104 ?_
                          refine jtopr (y := 5) (of_decide_eq_true rfl) ?_
                          refine lv_iload_n hx hb dX12_orders_105 rfl (lv_at hl 4 rfl) ?_
                          refine lv_iconst (v := 1) hx hb dX12_orders_106 (of_decide_eq_true rfl) ?_
                          refine lv_iload hx hb dX12_orders_107 (lv_at hl 0 rfl) ?_
                          refine lv_ishl hx hb dX12_orders_109 ?_
                          refine lv_topi (fun x55 ex55 => ?_)
                          have gx55 := jrg (rfl : x55.toInt = x55.toInt)
                          refine lv_ior hx hb dX12_orders_110 ?_
                          refine lv_topi (fun x56 ex56 => ?_)
                          have gx56 := jrg (rfl : x56.toInt = x56.toInt)
                          refine lv_bipush (v := 10) hx hb dX12_orders_111 (of_decide_eq_true rfl) ?_
                          refine lv_iload_n hx hb dX12_orders_113 rfl (lv_at hl 5 rfl) ?_
                          refine lv_imul hx hb dX12_orders_114 ?_
                          refine lv_topi (fun x57 ex57 => ?_)
                          have gx57 := jrg (rfl : x57.toInt = x57.toInt)
                          refine lv_iload hx hb dX12_orders_115 (lv_at hl 1 rfl) ?_
                          have g58 := jrg (rfl : x57.toInt = x57.toInt)
                          have g59 := jrg (rfl : x10.toInt = x10.toInt)
                          refine lv_iadd hx hb dX12_orders_117 ?_
                          refine lv_topi (fun x60 ex60 => ?_)
                          have gx60 := jrg (rfl : x60.toInt = x60.toInt)
                          have I61 : jI101 σ54 := jI101_fr ((congrFun (jnp 55 eσ54 (of_decide_eq_true rfl)) 4).trans (f18 4 (of_decide_eq_true rfl))) ((congrFun (jnp 55 eσ54 (of_decide_eq_true rfl)) 5).trans (f18 5 (of_decide_eq_true rfl))) ((jnp 56 eσ54 (of_decide_eq_true rfl)).trans (f17 56 (of_decide_eq_true rfl))) ((jnp 57 eσ54 (of_decide_eq_true rfl)).trans (f17 57 (of_decide_eq_true rfl))) ((jnp 58 eσ54 (of_decide_eq_true rfl)).trans (f17 58 (of_decide_eq_true rfl))) ((jnp 59 eσ54 (of_decide_eq_true rfl)).trans (f17 59 (of_decide_eq_true rfl))) hI101
                          have I62 : jI102 σ54 := jI102_fr ((congrFun (jnp 55 eσ54 (of_decide_eq_true rfl)) 6).trans (f18 6 (of_decide_eq_true rfl))) ((jnp 60 eσ54 (of_decide_eq_true rfl)).trans (f17 60 (of_decide_eq_true rfl))) ((jnp 61 eσ54 (of_decide_eq_true rfl)).trans (f17 61 (of_decide_eq_true rfl))) hI102
                          have I63 : jI103 σ54 := jI103_fr ((congrFun (jnp 55 eσ54 (of_decide_eq_true rfl)) 9).trans (f18 9 (of_decide_eq_true rfl))) hI103
                          have z64 : (σ54 55 10).toInt = (σ 55 10).toInt := (congrArg Int32.toInt (show σ54 55 10 = (σ 55 10) from ((congrFun (jnp 55 eσ54 (of_decide_eq_true rfl)) 10).trans m40)))
                          have z65 : (σ54 55 12).toInt = (σ 55 12).toInt := (congrArg Int32.toInt (show σ54 55 12 = (σ 55 12) from ((congrFun (jnp 55 eσ54 (of_decide_eq_true rfl)) 12).trans (f18 12 (of_decide_eq_true rfl)))))
                          have z66 : (σ54 55 13).toInt = (σ 55 13).toInt := (congrArg Int32.toInt (show σ54 55 13 = (σ 55 13) from ((congrFun (jnp 55 eσ54 (of_decide_eq_true rfl)) 13).trans (f18 13 (of_decide_eq_true rfl)))))
                          exact by
                           have w67 : ∀ k : Nat, k < 8 → 0 ≤ (σ54 62 k).toInt ∧ (σ54 62 k).toInt ≤ 3 := (by rw [eσ54]; exact jrr_up w25 (by omega) (by omega))
                           have w68 : ∀ k : Nat, k < 8 → 0 ≤ (σ54 67 k).toInt ∧ (σ54 67 k).toInt ≤ 3 := (jrr_fr (jnp 67 eσ54 (of_decide_eq_true rfl)) w26)
                           have I69 : jI104 σ54 := ⟨(by omega), (by omega), (by omega), w67, w68⟩
                           have I70 : jI105 σ54 := jI105_fr ((congrFun (jnp 55 eσ54 (of_decide_eq_true rfl)) 15).trans (f18 15 (of_decide_eq_true rfl))) ((jnp 65 eσ54 (of_decide_eq_true rfl)).trans (f17 65 (of_decide_eq_true rfl))) hI105
                           have I71 : jI106 σ54 := jI106_fr ((congrFun (jnp 55 eσ54 (of_decide_eq_true rfl)) 32).trans (f18 32 (of_decide_eq_true rfl))) ((jnp 70 eσ54 (of_decide_eq_true rfl)).trans (f17 70 (of_decide_eq_true rfl))) ((jnp 71 eσ54 (of_decide_eq_true rfl)).trans (f17 71 (of_decide_eq_true rfl))) ((jnp 72 eσ54 (of_decide_eq_true rfl)).trans (f17 72 (of_decide_eq_true rfl))) hI106
                           have I72 : jI119 σ54 := jI119_fr (jnp 68 eσ54 (of_decide_eq_true rfl)) p21
                           have I73 : jI111 σ54 := jI111_fr ((jnp 79 eσ54 (of_decide_eq_true rfl)).trans (f17 79 (of_decide_eq_true rfl))) hI111
                           have p74 : jKept σ54 := jKept.fr (jnp 75 eσ54 (of_decide_eq_true rfl)) (jnp 76 eσ54 (of_decide_eq_true rfl)) (jnp 77 eσ54 (of_decide_eq_true rfl)) p19
                           refine jcallVv (As := [.int 5, .int x56, .int x60]) (rest := []) ⟨hx, hb, hml, hown, hts⟩ hK hP hA hS hZ (c_X12_orders_5 l D cI cL ad zz hJ σ54 τ x56 (x56.toInt) rfl x60 (x60.toInt) rfl I61 I62 I63 I69 I70 I71 I72 I73 p74 (by omega) (by omega) (by omega)) cw_RX12_355 (jc_55 cI cL ad σ54 τ) rfl ⟨Nat.le_of_ble_eq_true rfl, Nat.le_of_ble_eq_true rfl⟩ rfl rfl rfl hl.1 rfl (Nat.le_of_ble_eq_true rfl) dX12_orders_118 ⟨Nat.zero_le _, Nat.zero_le _⟩ (fun σ75 τ75 H locs h75 hP hS => ?_)
                           exact by
                            obtain ⟨rfl, f77, f78, I79, I80, p81, h75⟩ := h75
                            obtain ⟨i83, i84, i85, w86, w87⟩ : (1 ≤ (σ75 55 10).toInt ∧ (σ75 55 10).toInt ≤ 8) ∧ (1 ≤ (σ75 55 12).toInt ∧ (σ75 55 12).toInt ≤ 12) ∧ (0 ≤ (σ75 55 13).toInt ∧ (σ75 55 13).toInt ≤ 999) ∧ (∀ k : Nat, k < 8 → 0 ≤ (σ75 62 k).toInt ∧ (σ75 62 k).toInt ≤ 3) ∧ (∀ k : Nat, k < 8 → 0 ≤ (σ75 67 k).toInt ∧ (σ75 67 k).toInt ≤ 3) := id I79
                            have z88 : (σ75 55 10).toInt = (σ 55 10).toInt := (congrArg Int32.toInt (show σ75 55 10 = (σ 55 10) from ((f78 10 (of_decide_eq_true rfl)).trans ((congrFun (jnp 55 eσ54 (of_decide_eq_true rfl)) 10).trans m40))))
                            have z89 : (σ75 55 12).toInt = (σ 55 12).toInt := (congrArg Int32.toInt (show σ75 55 12 = (σ 55 12) from ((f78 12 (of_decide_eq_true rfl)).trans ((congrFun (jnp 55 eσ54 (of_decide_eq_true rfl)) 12).trans (f18 12 (of_decide_eq_true rfl))))))
                            have z90 : (σ75 55 13).toInt = (σ 55 13).toInt := (congrArg Int32.toInt (show σ75 55 13 = (σ 55 13) from ((f78 13 (of_decide_eq_true rfl)).trans ((congrFun (jnp 55 eσ54 (of_decide_eq_true rfl)) 13).trans (f18 13 (of_decide_eq_true rfl))))))
                            obtain ⟨x91, ex91⟩ : ∃ y : Int32, y = x10 + 1 := ⟨_, rfl⟩
                            have tx91 : x91.toInt = x10.toInt + 1 := (jadd ex91 rfl jz_1 (by omega) (by omega)).trans (by omega)
                            refine lv_iinc (v := x91) (lv' := [(4, .int x91), (5, .int x33), (0, .ref (ad 55)), (1, .int 4), (2, .int a2), (3, .int a3)]) hx hb dX12_orders_121 hl (k := 1) rfl (by rw [ex91]; rfl) (of_decide_eq_true rfl) rfl (fun ls hl => ?_)
                            refine lv_goto (tgt := 38) hx hb dX12_orders_124 (of_decide_eq_true rfl) ?_
                            exact by exact ihlp8 x91 σ75 _ _ ls (by have h90 := tx91; omega) (by have h90 := tx91; omega) (by have h90 := tx91; omega) (fun i hi => ((f77 i hi).trans ((jnp i eσ54 (imp_276 i hi)).trans (f17 i hi)))) (fun i hi => ((f78 i hi).trans ((congrFun (jnp 55 eσ54 (of_decide_eq_true rfl)) i).trans (f18 i hi))))  p81 I79 I80 hP hS (lv_sub hl [0, 2, 3, 4, 5] rfl)
                      · exact by
                         have kc52 := jne c52 rfl rfl
                         obtain ⟨x92, ex92⟩ : ∃ y : Int32, y = x33 + 1 := ⟨_, rfl⟩
                         have tx92 : x92.toInt = x33.toInt + 1 := (jadd ex92 rfl jz_1 (by omega) (by omega)).trans (by omega)
                         refine lv_iinc (v := x92) (lv' := [(5, .int x92), (4, .int x10), (0, .ref (ad 55)), (1, .int 4), (2, .int a2), (3, .int a3)]) hx hb dX12_orders_78 hl (k := 0) rfl (by rw [ex92]; rfl) (of_decide_eq_true rfl) rfl (fun ls hl => ?_)
                         refine lv_goto (tgt := 47) hx hb dX12_orders_81 (of_decide_eq_true rfl) ?_
                         exact by exact ihlp31 x92 _ _ ls (by have h90 := tx92; omega) (by have h90 := tx92; omega) (by have h90 := tx92; omega) (by have h90 := tx92; omega)    hP hS (lv_sub hl [0, 1, 2, 3, 4, 5] rfl)
           exact by exact lp31 1000000 0 _ _ ls (by have h90 := jz_0; omega) (by have h90 := jz_0; omega) (by have h90 := jz_0; omega) (by have h90 := jz_0; omega)   hP hS hl
    exact by exact lp8 1000000 0 σ _ _ ls (by have h90 := jz_0; omega) (by have h90 := jz_0; omega) (by have h90 := jz_0; omega) (fun _ _ => rfl) (fun _ _ => rfl)  hs_jKept hI104 hI119 hP hS hl
  · have kc7 := jeq c7 jz_4 rfl
    exact by
     refine lv_aload_n hx hb dX12_orders_8 rfl (lv_at hl 0 rfl) ?_
     refine jcallV (As := []) (rest := []) ⟨hx, hb, hml, hown, hts⟩ hK hP hA hS hZ (c_X12_bestNow l D cI cL ad zz hJ σ τ hI101 hI102 hI103 hI104 hI105 hI106 hI119 hs_jKept (by omega)) cw_RX12_346 (jc_55 cI cL ad σ τ) rfl ⟨Nat.le_of_ble_eq_true rfl, Nat.le_of_ble_eq_true rfl⟩ rfl rfl rfl hl.1 rfl (Nat.le_of_ble_eq_true rfl) dX12_orders_9 ⟨Nat.zero_le _, Nat.zero_le _⟩ (fun r94 σ93 τ93 H locs h93 hP hS => ?_)
     obtain ⟨rfl, f95, f96, I97, p98, h93⟩ := h93
     refine lv_istore (lv' := [(4, .int r94), (0, .ref (ad 55)), (1, .int 4), (2, .int a2), (3, .int a3)]) hx hb dX12_orders_12 hl (of_decide_eq_true rfl) rfl (fun ls hl => ?_)
     refine lv_iload hx hb dX12_orders_14 (lv_at hl 0 rfl) ?_
     refine lv_aload_n hx hb dX12_orders_16 rfl (lv_at hl 1 rfl) ?_
     refine va_get (D := D) hx hb hts inlX12 hown hK hP 55 (jc_55 cI cL ad σ93 τ) rfl 46 (of_decide_eq_true rfl) (hts _ kw_40_17) (fun _ h9 => h9) rfl dX12_orders_17 ?_
     have m100 : σ93 55 46 = (σ 55 46) := (f96 46 (of_decide_eq_true rfl))
     refine jtopr m100 ?_
     exact by
      refine lv_icmp_le (tgt := 34) hx hb dX12_orders_20 (of_decide_eq_true rfl) (fun c101 => ?_) (fun c101 => ?_)
      · have kc101 := jle c101 rfl rfl
        have I102 : jI104 σ93 := jI104_fr (f96 10 (of_decide_eq_true rfl)) (f96 12 (of_decide_eq_true rfl)) (f96 13 (of_decide_eq_true rfl)) (f95 62 (of_decide_eq_true rfl)) (f95 67 (of_decide_eq_true rfl)) hI104
        exact hret σ93 τ _ _ _ _ ⟨rfl, (fun i hi => (f95 i (imp_271 i hi))), (fun i hi => (f96 i (imp_272 i hi))), I102, I97, p98, trivial⟩ hP hS dX12_orders_34
      · have kc101 := jnle c101 rfl rfl
        refine lv_aload_n hx hb dX12_orders_23 rfl (lv_at hl 1 rfl) ?_
        refine lv_iload hx hb dX12_orders_24 (lv_at hl 0 rfl) ?_
        refine jput (ty := .int) hx hb hts inlX12 tyX12 tyX12_ok nmX12 hown hK hP hJ hA hS (jc_55 cI cL ad σ93 τ) rfl (k := 46) (of_decide_eq_true rfl) (Nat.le_of_ble_eq_true rfl) (jp_55_46 cI cL ad σ93 τ r94) (hts _ kw_40_17) (fun _ h9 => h9) rfl (by decide +kernel) rfl rfl dX12_orders_26 (fun σ103 H locs eσ103 hP hS => ?_)
        refine lv_aload_n hx hb dX12_orders_29 rfl (lv_at hl 1 rfl) ?_
        refine lv_iload_n hx hb dX12_orders_30 rfl (lv_at hl 4 rfl) ?_
        refine jput (ty := .int) hx hb hts inlX12 tyX12 tyX12_ok nmX12 hown hK hP hJ hA hS (jc_55 cI cL ad σ103 τ) rfl (k := 45) (of_decide_eq_true rfl) (Nat.le_of_ble_eq_true rfl) (jp_55_45 cI cL ad σ103 τ a3) (hts _ kw_40_18) (fun _ h9 => h9) rfl (by decide +kernel) rfl rfl dX12_orders_31 (fun σ104 H locs eσ104 hP hS => ?_)
        have I105 : jI104 σ104 := jI104_fr ((jkp 10 eσ104 (of_decide_eq_true rfl)).trans ((jkp 10 eσ103 (of_decide_eq_true rfl)).trans (f96 10 (of_decide_eq_true rfl)))) ((jkp 12 eσ104 (of_decide_eq_true rfl)).trans ((jkp 12 eσ103 (of_decide_eq_true rfl)).trans (f96 12 (of_decide_eq_true rfl)))) ((jkp 13 eσ104 (of_decide_eq_true rfl)).trans ((jkp 13 eσ103 (of_decide_eq_true rfl)).trans (f96 13 (of_decide_eq_true rfl)))) ((jnp 62 eσ104 (of_decide_eq_true rfl)).trans ((jnp 62 eσ103 (of_decide_eq_true rfl)).trans (f95 62 (of_decide_eq_true rfl)))) ((jnp 67 eσ104 (of_decide_eq_true rfl)).trans ((jnp 67 eσ103 (of_decide_eq_true rfl)).trans (f95 67 (of_decide_eq_true rfl)))) hI104
        have I106 : jI119 σ104 := jI119_fr ((jnp 68 eσ104 (of_decide_eq_true rfl)).trans (jnp 68 eσ103 (of_decide_eq_true rfl))) I97
        have p107 : jKept σ104 := jKept.fr ((jnp 75 eσ104 (of_decide_eq_true rfl)).trans (jnp 75 eσ103 (of_decide_eq_true rfl))) ((jnp 76 eσ104 (of_decide_eq_true rfl)).trans (jnp 76 eσ103 (of_decide_eq_true rfl))) ((jnp 77 eσ104 (of_decide_eq_true rfl)).trans (jnp 77 eσ103 (of_decide_eq_true rfl))) p98
        exact hret σ104 τ _ _ _ _ ⟨rfl, (fun i hi => ((jnp i eσ104 (imp_273 i hi)).trans ((jnp i eσ103 (imp_273 i hi)).trans (f95 i (imp_271 i hi))))), (fun i hi => ((jkp i eσ104 (imp_274 i hi)).trans ((jkp i eσ103 (imp_275 i hi)).trans (f96 i (imp_272 i hi))))), I105, I106, p107, trivial⟩ hP hS dX12_orders_34
set_option maxHeartbeats 4000000 in
set_option maxRecDepth 100000 in
theorem c_X12_orders_3 (l : Launch) (D : va_G) (cI cL : ClassId) (ad zz : Nat → Nat) (hJ : jD ad) (σ : Nat → Nat → Int32) (τ : Nat → Nat → Int64) (a2 : Int32) (A2 : Int) (t2 : a2.toInt = A2) (a3 : Int32) (A3 : Int) (t3 : a3.toInt = A3) (hI101 : jI101 σ) (hI102 : jI102 σ) (hI103 : jI103 σ) (hI104 : jI104 σ) (hI105 : jI105 σ) (hI106 : jI106 σ) (hI119 : jI119 σ) (hI111 : jI111 σ) (hs_jKept : jKept σ) (hp0 : (σ 55 10).toInt ≤ 5) (hp1 : 3 ≤ (σ 55 10).toInt) (hp2 : (σ 55 12).toInt ≤ 8) : jMv l yX12_orders cX12_orders 6 none ({ frames := 106, cells := 0, slots := 0, locals := 5131 }) D cI cL ad zz [.ref (ad 55), .int 3, .int a2, .int a3] σ τ (fun σ' τ' => τ = τ' ∧ (∀ i : Nat, (i < 55 ∨ 55 < i) ∧ (i < 62 ∨ 62 < i) ∧ (i < 66 ∨ 66 < i) ∧ (i < 68 ∨ 69 < i) ∧ (i < 74 ∨ 78 < i) → σ' i = σ i) ∧ (∀ k : Nat, (k < 18 ∨ 18 < k) ∧ (k < 19 ∨ 19 < k) ∧ (k < 20 ∨ 20 < k) ∧ (k < 21 ∨ 21 < k) ∧ (k < 22 ∨ 22 < k) ∧ (k < 25 ∨ 25 < k) ∧ (k < 26 ∨ 26 < k) ∧ (k < 27 ∨ 27 < k) ∧ (k < 37 ∨ 37 < k) ∧ (k < 42 ∨ 42 < k) ∧ (k < 45 ∨ 45 < k) ∧ (k < 46 ∨ 46 < k) → σ' 55 k = σ 55 k) ∧ (jI104 σ') ∧ (jI119 σ') ∧ (jKept σ') ∧ True) := by
  refine jMv.of hJ (by decide +kernel) rfl (Nat.le_of_ble_eq_true rfl) ?_
  intro p e s m args below meth c Q ls hC hret hl hP
  obtain ⟨hx, hb, hr, hml, hown, hts, hK, -, hlocks, hZ⟩ := hC
  have hown : s.vm.findClass RX12 = some m.cls := hown
  have hS : va_S (jA ad) s.heap s.heap [] := va_S.rf
  have hA : ∀ q, jA ad q → jA ad q := fun _ h => h
  have hl : lv_has ls 6 [(0, .ref (ad 55)), (1, .int 3), (2, .int a2), (3, .int a3)] := hl
  have g2 := jrg t2
  have g3 := jrg t3
  obtain ⟨i1, i2, i3, w4, w5⟩ : (1 ≤ (σ 55 10).toInt ∧ (σ 55 10).toInt ≤ 8) ∧ (1 ≤ (σ 55 12).toInt ∧ (σ 55 12).toInt ≤ 12) ∧ (0 ≤ (σ 55 13).toInt ∧ (σ 55 13).toInt ≤ 999) ∧ (∀ k : Nat, k < 8 → 0 ≤ (σ 62 k).toInt ∧ (σ 62 k).toInt ≤ 3) ∧ (∀ k : Nat, k < 8 → 0 ≤ (σ 67 k).toInt ∧ (σ 67 k).toInt ≤ 3) := id hI104
  have w6 : ∀ k : Nat, k < 5 → 0 ≤ (σ 79 k).toInt ∧ (σ 79 k).toInt ≤ 3 := hI111
  refine lv_iload_n hx hb dX12_orders_0 rfl (lv_at hl 1 rfl) ?_
  refine lv_aload_n hx hb dX12_orders_1 rfl (lv_at hl 0 rfl) ?_
  refine va_get (D := D) hx hb hts inlX12 hown hK hP 55 (jc_55 cI cL ad σ τ) rfl 10 (of_decide_eq_true rfl) (hts _ kw_8_15) (fun _ h9 => h9) rfl dX12_orders_2 ?_
  refine lv_icmp_ne (tgt := 35) hx hb dX12_orders_5 (of_decide_eq_true rfl) (fun c7 => ?_) (fun c7 => ?_)
  · have kc7 := jne c7 jz_3 rfl
    refine lv_iconst (v := 0) hx hb dX12_orders_35 (of_decide_eq_true rfl) ?_
    refine lv_istore (lv' := [(4, .int 0), (0, .ref (ad 55)), (1, .int 3), (2, .int a2), (3, .int a3)]) hx hb dX12_orders_36 hl (of_decide_eq_true rfl) rfl (fun ls hl => ?_)
    have lp8 : ∀ (n9 : Nat) (x10 : Int32) (σ12 : Nat → Nat → Int32) (H : Heap) (locs : List Loc) (ls : Array Slot), (-x10.toInt + 4 : Int) < n9 → 0 ≤ x10.toInt → x10.toInt ≤ 4 → (∀ i : Nat, (i < 55 ∨ 55 < i) ∧ (i < 62 ∨ 62 < i) ∧ (i < 66 ∨ 66 < i) ∧ (i < 68 ∨ 69 < i) ∧ (i < 74 ∨ 78 < i) → σ12 i = σ i) → (∀ k : Nat, (k < 18 ∨ 18 < k) ∧ (k < 19 ∨ 19 < k) ∧ (k < 20 ∨ 20 < k) ∧ (k < 21 ∨ 21 < k) ∧ (k < 22 ∨ 22 < k) ∧ (k < 25 ∨ 25 < k) ∧ (k < 26 ∨ 26 < k) ∧ (k < 27 ∨ 27 < k) ∧ (k < 37 ∨ 37 < k) ∧ (k < 42 ∨ 42 < k) ∧ (k < 45 ∨ 45 < k) ∧ (k < 46 ∨ 46 < k) → σ12 55 k = σ 55 k) → jKept σ12 → jI104 σ12 → jI119 σ12 → jH D cI cL ad σ12 τ H → va_S (jA ad) s.heap H locs → lv_has ls 6 [(4, .int x10), (0, .ref (ad 55)), (1, .int 3), (2, .int a2), (3, .int a3)] → W p l e ({ frames := 106, cells := 0, slots := 0, locals := 5131 }) s m args below meth c H locs 0 0 Q (F0 m 38 ls []) := by
      intro n9
      induction n9 with
      | zero => intro x10 σ12 H locs ls h14 h15 h16; exact absurd h14 (by omega)
      | succ n9 ihlp8 =>
        intro x10 σ12 H locs ls h14 h15 h16 f17 f18 p19 p20 p21 hP hS hl
        exact by
         obtain ⟨i22, i23, i24, w25, w26⟩ : (1 ≤ (σ12 55 10).toInt ∧ (σ12 55 10).toInt ≤ 8) ∧ (1 ≤ (σ12 55 12).toInt ∧ (σ12 55 12).toInt ≤ 12) ∧ (0 ≤ (σ12 55 13).toInt ∧ (σ12 55 13).toInt ≤ 999) ∧ (∀ k : Nat, k < 8 → 0 ≤ (σ12 62 k).toInt ∧ (σ12 62 k).toInt ≤ 3) ∧ (∀ k : Nat, k < 8 → 0 ≤ (σ12 67 k).toInt ∧ (σ12 67 k).toInt ≤ 3) := id p20
         have z27 : (σ12 55 10).toInt = (σ 55 10).toInt := (congrArg Int32.toInt (show σ12 55 10 = (σ 55 10) from (f18 10 (of_decide_eq_true rfl))))
         have z28 : (σ12 55 12).toInt = (σ 55 12).toInt := (congrArg Int32.toInt (show σ12 55 12 = (σ 55 12) from (f18 12 (of_decide_eq_true rfl))))
         have z29 : (σ12 55 13).toInt = (σ 55 13).toInt := (congrArg Int32.toInt (show σ12 55 13 = (σ 55 13) from (f18 13 (of_decide_eq_true rfl))))
         refine lv_iload hx hb dX12_orders_38 (lv_at hl 0 rfl) ?_
         refine lv_iconst (v := 4) hx hb dX12_orders_40 (of_decide_eq_true rfl) ?_
         refine lv_icmp_ge (tgt := 127) hx hb dX12_orders_41 (of_decide_eq_true rfl) (fun c30 => ?_) (fun c30 => ?_)
         · have kc30 := jle c30 jz_4 rfl
           exact hret σ12 τ _ _ _ _ ⟨rfl, (fun i hi => (f17 i hi)), (fun i hi => (f18 i hi)), p20, p21, p19, trivial⟩ hP hS dX12_orders_127
         · have kc30 := jnle c30 jz_4 rfl
           refine lv_iconst (v := 0) hx hb dX12_orders_44 (of_decide_eq_true rfl) ?_
           refine lv_istore (lv' := [(5, .int 0), (4, .int x10), (0, .ref (ad 55)), (1, .int 3), (2, .int a2), (3, .int a3)]) hx hb dX12_orders_45 hl (of_decide_eq_true rfl) rfl (fun ls hl => ?_)
           have lp31 : ∀ (n32 : Nat) (x33 : Int32) (H : Heap) (locs : List Loc) (ls : Array Slot), ((σ12 55 10).toInt - x33.toInt : Int) < n32 → 0 ≤ x33.toInt → x33.toInt ≤ 5 → x33.toInt ≤ (σ12 55 10).toInt → jH D cI cL ad σ12 τ H → va_S (jA ad) s.heap H locs → lv_has ls 6 [(5, .int x33), (4, .int x10), (0, .ref (ad 55)), (1, .int 3), (2, .int a2), (3, .int a3)] → W p l e ({ frames := 106, cells := 0, slots := 0, locals := 5131 }) s m args below meth c H locs 0 0 Q (F0 m 47 ls []) := by
             intro n32
             induction n32 with
             | zero => intro x33 H locs ls h35 h36 h37 h38; exact absurd h35 (by omega)
             | succ n32 ihlp31 =>
               intro x33 H locs ls h35 h36 h37 h38 hP hS hl
               exact by
                refine lv_iload hx hb dX12_orders_47 (lv_at hl 0 rfl) ?_
                refine lv_aload_n hx hb dX12_orders_49 rfl (lv_at hl 2 rfl) ?_
                refine va_get (D := D) hx hb hts inlX12 hown hK hP 55 (jc_55 cI cL ad σ12 τ) rfl 10 (of_decide_eq_true rfl) (hts _ kw_8_15) (fun _ h9 => h9) rfl dX12_orders_50 ?_
                have m40 : σ12 55 10 = (σ 55 10) := (f18 10 (of_decide_eq_true rfl))
                refine jtopr m40 ?_
                refine lv_icmp_ge (tgt := 84) hx hb dX12_orders_53 (of_decide_eq_true rfl) (fun c41 => ?_) (fun c41 => ?_)
                · have kc41 := jle c41 rfl rfl
                  refine lv_iload hx hb dX12_orders_84 (lv_at hl 0 rfl) ?_
                  refine lv_aload_n hx hb dX12_orders_86 rfl (lv_at hl 2 rfl) ?_
                  refine va_get (D := D) hx hb hts inlX12 hown hK hP 55 (jc_55 cI cL ad σ12 τ) rfl 10 (of_decide_eq_true rfl) (hts _ kw_8_15) (fun _ h9 => h9) rfl dX12_orders_87 ?_
                  refine jtopr m40 ?_
                  exact by
                   refine lv_icmp_ge (tgt := 121) hx hb dX12_orders_90 (of_decide_eq_true rfl) (fun c42 => ?_) (fun c => absurd (jnle c rfl rfl) (by omega))
                   have kc42 := jle c42 rfl rfl
                   obtain ⟨x43, ex43⟩ : ∃ y : Int32, y = x10 + 1 := ⟨_, rfl⟩
                   have tx43 : x43.toInt = x10.toInt + 1 := (jadd ex43 rfl jz_1 (by omega) (by omega)).trans (by omega)
                   refine lv_iinc (v := x43) (lv' := [(4, .int x43), (5, .int x33), (0, .ref (ad 55)), (1, .int 3), (2, .int a2), (3, .int a3)]) hx hb dX12_orders_121 hl (k := 1) rfl (by rw [ex43]; rfl) (of_decide_eq_true rfl) rfl (fun ls hl => ?_)
                   refine lv_goto (tgt := 38) hx hb dX12_orders_124 (of_decide_eq_true rfl) ?_
                   exact by exact ihlp8 x43 σ12 _ _ ls (by have h90 := tx43; omega) (by have h90 := tx43; omega) (by have h90 := tx43; omega) (fun i hi => (f17 i hi)) (fun i hi => (f18 i hi))  p19 p20 p21 hP hS (lv_sub hl [0, 2, 3, 4, 5] rfl)
                · have kc41 := jnle c41 rfl rfl
                  refine lv_iload_n hx hb dX12_orders_56 rfl (lv_at hl 4 rfl) ?_
                  exact by
                   refine lv_iload hx hb dX12_orders_57 (lv_at hl 0 rfl) ?_
                   refine lv_ishr hx hb dX12_orders_59 ?_
                   refine lv_topi (fun x44 ex44 => ?_)
                   have gx44 := jrg (rfl : x44.toInt = x44.toInt)
                   refine lv_iconst (v := 1) hx hb dX12_orders_60 (of_decide_eq_true rfl) ?_
                   refine lv_iand hx hb dX12_orders_61 ?_
                   refine lv_topi (fun x45 ex45 => ?_)
                   have gx45 := jrg (rfl : x45.toInt = x45.toInt)
                   have g46 : 0 ≤ x45.toInt ∧ x45.toInt ≤ 1 := jmask ex45 1 (of_decide_eq_true rfl) (of_decide_eq_true rfl)
                   refine lv_iconst (v := 1) hx hb dX12_orders_62 (of_decide_eq_true rfl) ?_
                   refine lv_icmp_eq (tgt := 78) hx hb dX12_orders_63 (of_decide_eq_true rfl) (fun c47 => ?_) (fun c47 => ?_)
                   · have kc47 := jeq c47 rfl jz_1
                     obtain ⟨x48, ex48⟩ : ∃ y : Int32, y = x33 + 1 := ⟨_, rfl⟩
                     exact by
                      have tx48 : x48.toInt = x33.toInt + 1 := (jadd ex48 rfl jz_1 (by omega) (by omega)).trans (by omega)
                      refine lv_iinc (v := x48) (lv' := [(5, .int x48), (4, .int x10), (0, .ref (ad 55)), (1, .int 3), (2, .int a2), (3, .int a3)]) hx hb dX12_orders_78 hl (k := 0) rfl (by rw [ex48]; rfl) (of_decide_eq_true rfl) rfl (fun ls hl => ?_)
                      refine lv_goto (tgt := 47) hx hb dX12_orders_81 (of_decide_eq_true rfl) ?_
                      exact by exact ihlp31 x48 _ _ ls (by have h90 := tx48; omega) (by have h90 := tx48; omega) (by have h90 := tx48; omega) (by have h90 := tx48; omega)    hP hS (lv_sub hl [0, 1, 2, 3, 4, 5] rfl)
                   · have kc47 := jne c47 rfl jz_1
                     refine lv_aload_n hx hb dX12_orders_66 rfl (lv_at hl 2 rfl) ?_
                     refine va_get (D := D) hx hb hts inlX12 hown hK hP 55 (jc_55 cI cL ad σ12 τ) rfl 44 (of_decide_eq_true rfl) (hts _ kw_8_4) (fun _ h9 => h9) rfl dX12_orders_67 ?_
                     refine lv_iload hx hb dX12_orders_70 (lv_at hl 0 rfl) ?_
                     refine jald hx hb hK hP (jc_79 cI cL ad σ12 τ) (jin rfl (by omega) (by omega)) dX12_orders_72 ?_
                     exact by
                      have w49 : ∀ k : Nat, k < 5 → 0 ≤ (σ12 79 k).toInt ∧ (σ12 79 k).toInt ≤ 3 := (jrr_fr (f17 79 (of_decide_eq_true rfl)) w6)
                      have g50 := w49 _ (jnat (x := x33) rfl (n := 5) (by omega) (of_decide_eq_true rfl))
                      refine lv_topi (fun x51 ex51 => ?_)
                      rw [← ex51] at g50
                      refine lv_iload hx hb dX12_orders_73 (lv_at hl 1 rfl) ?_
                      refine lv_icmp_eq (tgt := 84) hx hb dX12_orders_75 (of_decide_eq_true rfl) (fun c52 => ?_) (fun c52 => ?_)
                      · have kc52 := jeq c52 rfl rfl
                        refine lv_iload hx hb dX12_orders_84 (lv_at hl 0 rfl) ?_
                        refine lv_aload_n hx hb dX12_orders_86 rfl (lv_at hl 2 rfl) ?_
                        exact by
                         refine va_get (D := D) hx hb hts inlX12 hown hK hP 55 (jc_55 cI cL ad σ12 τ) rfl 10 (of_decide_eq_true rfl) (hts _ kw_8_15) (fun _ h9 => h9) rfl dX12_orders_87 ?_
                         refine jtopr m40 ?_
                         refine lv_icmp_ge (tgt := 121) hx hb dX12_orders_90 (of_decide_eq_true rfl) (fun c => absurd (jle c rfl rfl) (by omega)) (fun c53 => ?_)
                         have kc53 := jnle c53 rfl rfl
                         refine lv_aload_n hx hb dX12_orders_93 rfl (lv_at hl 2 rfl) ?_
                         refine va_get (D := D) hx hb hts inlX12 hown hK hP 55 (jc_55 cI cL ad σ12 τ) rfl 11 (of_decide_eq_true rfl) (hts _ kw_7_8) (fun _ h9 => h9) rfl dX12_orders_94 ?_
                         refine lv_iload_n hx hb dX12_orders_97 rfl (lv_at hl 3 rfl) ?_
                         refine lv_iload hx hb dX12_orders_98 (lv_at hl 1 rfl) ?_
                         refine jast hx hb hK hP hJ hA hS (jc_62 cI cL ad σ12 τ) (ja_62 cI cL ad σ12 τ _ _) (jin jz_3 (by omega) (by omega)) dX12_orders_100 (fun σ54 H locs eσ54 hP hS => ?_)
                         exact by
                          have eσ54 : σ54 = jup σ12 62 3 x10 := eσ54
                          refine lv_aload_n hx hb dX12_orders_101 rfl (lv_at hl 2 rfl) ?_
                          refine lv_iload_n hx hb dX12_orders_102 rfl (lv_at hl 3 rfl) ?_
                          refine lv_iconst (v := 1) hx hb dX12_orders_103 (of_decide_eq_true rfl) ?_
                          refine lv_iadd hx hb dX12_orders_104 ?_
                          refine jtopr (y := 4) (of_decide_eq_true rfl) ?_
                          refine lv_iload_n hx hb dX12_orders_105 rfl (lv_at hl 4 rfl) ?_
                          refine lv_iconst (v := 1) hx hb dX12_orders_106 (of_decide_eq_true rfl) ?_
                          refine lv_iload hx hb dX12_orders_107 (lv_at hl 0 rfl) ?_
                          refine lv_ishl hx hb dX12_orders_109 ?_
                          refine lv_topi (fun x55 ex55 => ?_)
                          have gx55 := jrg (rfl : x55.toInt = x55.toInt)
                          refine lv_ior hx hb dX12_orders_110 ?_
                          refine lv_topi (fun x56 ex56 => ?_)
                          have gx56 := jrg (rfl : x56.toInt = x56.toInt)
                          refine lv_bipush (v := 10) hx hb dX12_orders_111 (of_decide_eq_true rfl) ?_
                          refine lv_iload_n hx hb dX12_orders_113 rfl (lv_at hl 5 rfl) ?_
                          refine lv_imul hx hb dX12_orders_114 ?_
                          refine lv_topi (fun x57 ex57 => ?_)
                          have gx57 := jrg (rfl : x57.toInt = x57.toInt)
                          refine lv_iload hx hb dX12_orders_115 (lv_at hl 1 rfl) ?_
                          have g58 := jrg (rfl : x57.toInt = x57.toInt)
                          have g59 := jrg (rfl : x10.toInt = x10.toInt)
                          refine lv_iadd hx hb dX12_orders_117 ?_
                          refine lv_topi (fun x60 ex60 => ?_)
                          have gx60 := jrg (rfl : x60.toInt = x60.toInt)
                          have I61 : jI101 σ54 := jI101_fr ((congrFun (jnp 55 eσ54 (of_decide_eq_true rfl)) 4).trans (f18 4 (of_decide_eq_true rfl))) ((congrFun (jnp 55 eσ54 (of_decide_eq_true rfl)) 5).trans (f18 5 (of_decide_eq_true rfl))) ((jnp 56 eσ54 (of_decide_eq_true rfl)).trans (f17 56 (of_decide_eq_true rfl))) ((jnp 57 eσ54 (of_decide_eq_true rfl)).trans (f17 57 (of_decide_eq_true rfl))) ((jnp 58 eσ54 (of_decide_eq_true rfl)).trans (f17 58 (of_decide_eq_true rfl))) ((jnp 59 eσ54 (of_decide_eq_true rfl)).trans (f17 59 (of_decide_eq_true rfl))) hI101
                          have I62 : jI102 σ54 := jI102_fr ((congrFun (jnp 55 eσ54 (of_decide_eq_true rfl)) 6).trans (f18 6 (of_decide_eq_true rfl))) ((jnp 60 eσ54 (of_decide_eq_true rfl)).trans (f17 60 (of_decide_eq_true rfl))) ((jnp 61 eσ54 (of_decide_eq_true rfl)).trans (f17 61 (of_decide_eq_true rfl))) hI102
                          have I63 : jI103 σ54 := jI103_fr ((congrFun (jnp 55 eσ54 (of_decide_eq_true rfl)) 9).trans (f18 9 (of_decide_eq_true rfl))) hI103
                          have z64 : (σ54 55 10).toInt = (σ 55 10).toInt := (congrArg Int32.toInt (show σ54 55 10 = (σ 55 10) from ((congrFun (jnp 55 eσ54 (of_decide_eq_true rfl)) 10).trans m40)))
                          have z65 : (σ54 55 12).toInt = (σ 55 12).toInt := (congrArg Int32.toInt (show σ54 55 12 = (σ 55 12) from ((congrFun (jnp 55 eσ54 (of_decide_eq_true rfl)) 12).trans (f18 12 (of_decide_eq_true rfl)))))
                          have z66 : (σ54 55 13).toInt = (σ 55 13).toInt := (congrArg Int32.toInt (show σ54 55 13 = (σ 55 13) from ((congrFun (jnp 55 eσ54 (of_decide_eq_true rfl)) 13).trans (f18 13 (of_decide_eq_true rfl)))))
                          exact by
                           have w67 : ∀ k : Nat, k < 8 → 0 ≤ (σ54 62 k).toInt ∧ (σ54 62 k).toInt ≤ 3 := (by rw [eσ54]; exact jrr_up w25 (by omega) (by omega))
                           have w68 : ∀ k : Nat, k < 8 → 0 ≤ (σ54 67 k).toInt ∧ (σ54 67 k).toInt ≤ 3 := (jrr_fr (jnp 67 eσ54 (of_decide_eq_true rfl)) w26)
                           have I69 : jI104 σ54 := ⟨(by omega), (by omega), (by omega), w67, w68⟩
                           have I70 : jI105 σ54 := jI105_fr ((congrFun (jnp 55 eσ54 (of_decide_eq_true rfl)) 15).trans (f18 15 (of_decide_eq_true rfl))) ((jnp 65 eσ54 (of_decide_eq_true rfl)).trans (f17 65 (of_decide_eq_true rfl))) hI105
                           have I71 : jI106 σ54 := jI106_fr ((congrFun (jnp 55 eσ54 (of_decide_eq_true rfl)) 32).trans (f18 32 (of_decide_eq_true rfl))) ((jnp 70 eσ54 (of_decide_eq_true rfl)).trans (f17 70 (of_decide_eq_true rfl))) ((jnp 71 eσ54 (of_decide_eq_true rfl)).trans (f17 71 (of_decide_eq_true rfl))) ((jnp 72 eσ54 (of_decide_eq_true rfl)).trans (f17 72 (of_decide_eq_true rfl))) hI106
                           have I72 : jI119 σ54 := jI119_fr (jnp 68 eσ54 (of_decide_eq_true rfl)) p21
                           have I73 : jI111 σ54 := jI111_fr ((jnp 79 eσ54 (of_decide_eq_true rfl)).trans (f17 79 (of_decide_eq_true rfl))) hI111
                           have p74 : jKept σ54 := jKept.fr (jnp 75 eσ54 (of_decide_eq_true rfl)) (jnp 76 eσ54 (of_decide_eq_true rfl)) (jnp 77 eσ54 (of_decide_eq_true rfl)) p19
                           refine jcallVv (As := [.int 4, .int x56, .int x60]) (rest := []) ⟨hx, hb, hml, hown, hts⟩ hK hP hA hS hZ (c_X12_orders_4 l D cI cL ad zz hJ σ54 τ x56 (x56.toInt) rfl x60 (x60.toInt) rfl I61 I62 I63 I69 I70 I71 I72 I73 p74 (by omega) (by omega) (by omega)) cw_RX12_355 (jc_55 cI cL ad σ54 τ) rfl ⟨Nat.le_of_ble_eq_true rfl, Nat.le_of_ble_eq_true rfl⟩ rfl rfl rfl hl.1 rfl (Nat.le_of_ble_eq_true rfl) dX12_orders_118 ⟨Nat.zero_le _, Nat.zero_le _⟩ (fun σ75 τ75 H locs h75 hP hS => ?_)
                           exact by
                            obtain ⟨rfl, f77, f78, I79, I80, p81, h75⟩ := h75
                            obtain ⟨i83, i84, i85, w86, w87⟩ : (1 ≤ (σ75 55 10).toInt ∧ (σ75 55 10).toInt ≤ 8) ∧ (1 ≤ (σ75 55 12).toInt ∧ (σ75 55 12).toInt ≤ 12) ∧ (0 ≤ (σ75 55 13).toInt ∧ (σ75 55 13).toInt ≤ 999) ∧ (∀ k : Nat, k < 8 → 0 ≤ (σ75 62 k).toInt ∧ (σ75 62 k).toInt ≤ 3) ∧ (∀ k : Nat, k < 8 → 0 ≤ (σ75 67 k).toInt ∧ (σ75 67 k).toInt ≤ 3) := id I79
                            have z88 : (σ75 55 10).toInt = (σ 55 10).toInt := (congrArg Int32.toInt (show σ75 55 10 = (σ 55 10) from ((f78 10 (of_decide_eq_true rfl)).trans ((congrFun (jnp 55 eσ54 (of_decide_eq_true rfl)) 10).trans m40))))
                            have z89 : (σ75 55 12).toInt = (σ 55 12).toInt := (congrArg Int32.toInt (show σ75 55 12 = (σ 55 12) from ((f78 12 (of_decide_eq_true rfl)).trans ((congrFun (jnp 55 eσ54 (of_decide_eq_true rfl)) 12).trans (f18 12 (of_decide_eq_true rfl))))))
                            have z90 : (σ75 55 13).toInt = (σ 55 13).toInt := (congrArg Int32.toInt (show σ75 55 13 = (σ 55 13) from ((f78 13 (of_decide_eq_true rfl)).trans ((congrFun (jnp 55 eσ54 (of_decide_eq_true rfl)) 13).trans (f18 13 (of_decide_eq_true rfl))))))
                            obtain ⟨x91, ex91⟩ : ∃ y : Int32, y = x10 + 1 := ⟨_, rfl⟩
                            have tx91 : x91.toInt = x10.toInt + 1 := (jadd ex91 rfl jz_1 (by omega) (by omega)).trans (by omega)
                            refine lv_iinc (v := x91) (lv' := [(4, .int x91), (5, .int x33), (0, .ref (ad 55)), (1, .int 3), (2, .int a2), (3, .int a3)]) hx hb dX12_orders_121 hl (k := 1) rfl (by rw [ex91]; rfl) (of_decide_eq_true rfl) rfl (fun ls hl => ?_)
                            refine lv_goto (tgt := 38) hx hb dX12_orders_124 (of_decide_eq_true rfl) ?_
                            exact by exact ihlp8 x91 σ75 _ _ ls (by have h90 := tx91; omega) (by have h90 := tx91; omega) (by have h90 := tx91; omega) (fun i hi => ((f77 i hi).trans ((jnp i eσ54 (imp_276 i hi)).trans (f17 i hi)))) (fun i hi => ((f78 i hi).trans ((congrFun (jnp 55 eσ54 (of_decide_eq_true rfl)) i).trans (f18 i hi))))  p81 I79 I80 hP hS (lv_sub hl [0, 2, 3, 4, 5] rfl)
                      · exact by
                         have kc52 := jne c52 rfl rfl
                         obtain ⟨x92, ex92⟩ : ∃ y : Int32, y = x33 + 1 := ⟨_, rfl⟩
                         have tx92 : x92.toInt = x33.toInt + 1 := (jadd ex92 rfl jz_1 (by omega) (by omega)).trans (by omega)
                         refine lv_iinc (v := x92) (lv' := [(5, .int x92), (4, .int x10), (0, .ref (ad 55)), (1, .int 3), (2, .int a2), (3, .int a3)]) hx hb dX12_orders_78 hl (k := 0) rfl (by rw [ex92]; rfl) (of_decide_eq_true rfl) rfl (fun ls hl => ?_)
                         refine lv_goto (tgt := 47) hx hb dX12_orders_81 (of_decide_eq_true rfl) ?_
                         exact by exact ihlp31 x92 _ _ ls (by have h90 := tx92; omega) (by have h90 := tx92; omega) (by have h90 := tx92; omega) (by have h90 := tx92; omega)    hP hS (lv_sub hl [0, 1, 2, 3, 4, 5] rfl)
           exact by exact lp31 1000000 0 _ _ ls (by have h90 := jz_0; omega) (by have h90 := jz_0; omega) (by have h90 := jz_0; omega) (by have h90 := jz_0; omega)   hP hS hl
    exact by exact lp8 1000000 0 σ _ _ ls (by have h90 := jz_0; omega) (by have h90 := jz_0; omega) (by have h90 := jz_0; omega) (fun _ _ => rfl) (fun _ _ => rfl)  hs_jKept hI104 hI119 hP hS hl
  · have kc7 := jeq c7 jz_3 rfl
    exact by
     refine lv_aload_n hx hb dX12_orders_8 rfl (lv_at hl 0 rfl) ?_
     refine jcallV (As := []) (rest := []) ⟨hx, hb, hml, hown, hts⟩ hK hP hA hS hZ (c_X12_bestNow l D cI cL ad zz hJ σ τ hI101 hI102 hI103 hI104 hI105 hI106 hI119 hs_jKept (by omega)) cw_RX12_346 (jc_55 cI cL ad σ τ) rfl ⟨Nat.le_of_ble_eq_true rfl, Nat.le_of_ble_eq_true rfl⟩ rfl rfl rfl hl.1 rfl (Nat.le_of_ble_eq_true rfl) dX12_orders_9 ⟨Nat.zero_le _, Nat.zero_le _⟩ (fun r94 σ93 τ93 H locs h93 hP hS => ?_)
     obtain ⟨rfl, f95, f96, I97, p98, h93⟩ := h93
     refine lv_istore (lv' := [(4, .int r94), (0, .ref (ad 55)), (1, .int 3), (2, .int a2), (3, .int a3)]) hx hb dX12_orders_12 hl (of_decide_eq_true rfl) rfl (fun ls hl => ?_)
     refine lv_iload hx hb dX12_orders_14 (lv_at hl 0 rfl) ?_
     refine lv_aload_n hx hb dX12_orders_16 rfl (lv_at hl 1 rfl) ?_
     refine va_get (D := D) hx hb hts inlX12 hown hK hP 55 (jc_55 cI cL ad σ93 τ) rfl 46 (of_decide_eq_true rfl) (hts _ kw_40_17) (fun _ h9 => h9) rfl dX12_orders_17 ?_
     have m100 : σ93 55 46 = (σ 55 46) := (f96 46 (of_decide_eq_true rfl))
     refine jtopr m100 ?_
     exact by
      refine lv_icmp_le (tgt := 34) hx hb dX12_orders_20 (of_decide_eq_true rfl) (fun c101 => ?_) (fun c101 => ?_)
      · have kc101 := jle c101 rfl rfl
        have I102 : jI104 σ93 := jI104_fr (f96 10 (of_decide_eq_true rfl)) (f96 12 (of_decide_eq_true rfl)) (f96 13 (of_decide_eq_true rfl)) (f95 62 (of_decide_eq_true rfl)) (f95 67 (of_decide_eq_true rfl)) hI104
        exact hret σ93 τ _ _ _ _ ⟨rfl, (fun i hi => (f95 i (imp_271 i hi))), (fun i hi => (f96 i (imp_272 i hi))), I102, I97, p98, trivial⟩ hP hS dX12_orders_34
      · have kc101 := jnle c101 rfl rfl
        refine lv_aload_n hx hb dX12_orders_23 rfl (lv_at hl 1 rfl) ?_
        refine lv_iload hx hb dX12_orders_24 (lv_at hl 0 rfl) ?_
        refine jput (ty := .int) hx hb hts inlX12 tyX12 tyX12_ok nmX12 hown hK hP hJ hA hS (jc_55 cI cL ad σ93 τ) rfl (k := 46) (of_decide_eq_true rfl) (Nat.le_of_ble_eq_true rfl) (jp_55_46 cI cL ad σ93 τ r94) (hts _ kw_40_17) (fun _ h9 => h9) rfl (by decide +kernel) rfl rfl dX12_orders_26 (fun σ103 H locs eσ103 hP hS => ?_)
        refine lv_aload_n hx hb dX12_orders_29 rfl (lv_at hl 1 rfl) ?_
        refine lv_iload_n hx hb dX12_orders_30 rfl (lv_at hl 4 rfl) ?_
        refine jput (ty := .int) hx hb hts inlX12 tyX12 tyX12_ok nmX12 hown hK hP hJ hA hS (jc_55 cI cL ad σ103 τ) rfl (k := 45) (of_decide_eq_true rfl) (Nat.le_of_ble_eq_true rfl) (jp_55_45 cI cL ad σ103 τ a3) (hts _ kw_40_18) (fun _ h9 => h9) rfl (by decide +kernel) rfl rfl dX12_orders_31 (fun σ104 H locs eσ104 hP hS => ?_)
        have I105 : jI104 σ104 := jI104_fr ((jkp 10 eσ104 (of_decide_eq_true rfl)).trans ((jkp 10 eσ103 (of_decide_eq_true rfl)).trans (f96 10 (of_decide_eq_true rfl)))) ((jkp 12 eσ104 (of_decide_eq_true rfl)).trans ((jkp 12 eσ103 (of_decide_eq_true rfl)).trans (f96 12 (of_decide_eq_true rfl)))) ((jkp 13 eσ104 (of_decide_eq_true rfl)).trans ((jkp 13 eσ103 (of_decide_eq_true rfl)).trans (f96 13 (of_decide_eq_true rfl)))) ((jnp 62 eσ104 (of_decide_eq_true rfl)).trans ((jnp 62 eσ103 (of_decide_eq_true rfl)).trans (f95 62 (of_decide_eq_true rfl)))) ((jnp 67 eσ104 (of_decide_eq_true rfl)).trans ((jnp 67 eσ103 (of_decide_eq_true rfl)).trans (f95 67 (of_decide_eq_true rfl)))) hI104
        have I106 : jI119 σ104 := jI119_fr ((jnp 68 eσ104 (of_decide_eq_true rfl)).trans (jnp 68 eσ103 (of_decide_eq_true rfl))) I97
        have p107 : jKept σ104 := jKept.fr ((jnp 75 eσ104 (of_decide_eq_true rfl)).trans (jnp 75 eσ103 (of_decide_eq_true rfl))) ((jnp 76 eσ104 (of_decide_eq_true rfl)).trans (jnp 76 eσ103 (of_decide_eq_true rfl))) ((jnp 77 eσ104 (of_decide_eq_true rfl)).trans (jnp 77 eσ103 (of_decide_eq_true rfl))) p98
        exact hret σ104 τ _ _ _ _ ⟨rfl, (fun i hi => ((jnp i eσ104 (imp_273 i hi)).trans ((jnp i eσ103 (imp_273 i hi)).trans (f95 i (imp_271 i hi))))), (fun i hi => ((jkp i eσ104 (imp_274 i hi)).trans ((jkp i eσ103 (imp_275 i hi)).trans (f96 i (imp_272 i hi))))), I105, I106, p107, trivial⟩ hP hS dX12_orders_34
set_option maxHeartbeats 4000000 in
set_option maxRecDepth 100000 in
theorem c_X12_orders_2 (l : Launch) (D : va_G) (cI cL : ClassId) (ad zz : Nat → Nat) (hJ : jD ad) (σ : Nat → Nat → Int32) (τ : Nat → Nat → Int64) (a2 : Int32) (A2 : Int) (t2 : a2.toInt = A2) (a3 : Int32) (A3 : Int) (t3 : a3.toInt = A3) (hI101 : jI101 σ) (hI102 : jI102 σ) (hI103 : jI103 σ) (hI104 : jI104 σ) (hI105 : jI105 σ) (hI106 : jI106 σ) (hI119 : jI119 σ) (hI111 : jI111 σ) (hs_jKept : jKept σ) (hp0 : (σ 55 10).toInt ≤ 5) (hp1 : 2 ≤ (σ 55 10).toInt) (hp2 : (σ 55 12).toInt ≤ 8) : jMv l yX12_orders cX12_orders 6 none ({ frames := 107, cells := 0, slots := 0, locals := 5156 }) D cI cL ad zz [.ref (ad 55), .int 2, .int a2, .int a3] σ τ (fun σ' τ' => τ = τ' ∧ (∀ i : Nat, (i < 55 ∨ 55 < i) ∧ (i < 62 ∨ 62 < i) ∧ (i < 66 ∨ 66 < i) ∧ (i < 68 ∨ 69 < i) ∧ (i < 74 ∨ 78 < i) → σ' i = σ i) ∧ (∀ k : Nat, (k < 18 ∨ 18 < k) ∧ (k < 19 ∨ 19 < k) ∧ (k < 20 ∨ 20 < k) ∧ (k < 21 ∨ 21 < k) ∧ (k < 22 ∨ 22 < k) ∧ (k < 25 ∨ 25 < k) ∧ (k < 26 ∨ 26 < k) ∧ (k < 27 ∨ 27 < k) ∧ (k < 37 ∨ 37 < k) ∧ (k < 42 ∨ 42 < k) ∧ (k < 45 ∨ 45 < k) ∧ (k < 46 ∨ 46 < k) → σ' 55 k = σ 55 k) ∧ (jI104 σ') ∧ (jI119 σ') ∧ (jKept σ') ∧ True) := by
  refine jMv.of hJ (by decide +kernel) rfl (Nat.le_of_ble_eq_true rfl) ?_
  intro p e s m args below meth c Q ls hC hret hl hP
  obtain ⟨hx, hb, hr, hml, hown, hts, hK, -, hlocks, hZ⟩ := hC
  have hown : s.vm.findClass RX12 = some m.cls := hown
  have hS : va_S (jA ad) s.heap s.heap [] := va_S.rf
  have hA : ∀ q, jA ad q → jA ad q := fun _ h => h
  have hl : lv_has ls 6 [(0, .ref (ad 55)), (1, .int 2), (2, .int a2), (3, .int a3)] := hl
  have g2 := jrg t2
  have g3 := jrg t3
  obtain ⟨i1, i2, i3, w4, w5⟩ : (1 ≤ (σ 55 10).toInt ∧ (σ 55 10).toInt ≤ 8) ∧ (1 ≤ (σ 55 12).toInt ∧ (σ 55 12).toInt ≤ 12) ∧ (0 ≤ (σ 55 13).toInt ∧ (σ 55 13).toInt ≤ 999) ∧ (∀ k : Nat, k < 8 → 0 ≤ (σ 62 k).toInt ∧ (σ 62 k).toInt ≤ 3) ∧ (∀ k : Nat, k < 8 → 0 ≤ (σ 67 k).toInt ∧ (σ 67 k).toInt ≤ 3) := id hI104
  have w6 : ∀ k : Nat, k < 5 → 0 ≤ (σ 79 k).toInt ∧ (σ 79 k).toInt ≤ 3 := hI111
  refine lv_iload_n hx hb dX12_orders_0 rfl (lv_at hl 1 rfl) ?_
  refine lv_aload_n hx hb dX12_orders_1 rfl (lv_at hl 0 rfl) ?_
  refine va_get (D := D) hx hb hts inlX12 hown hK hP 55 (jc_55 cI cL ad σ τ) rfl 10 (of_decide_eq_true rfl) (hts _ kw_8_15) (fun _ h9 => h9) rfl dX12_orders_2 ?_
  refine lv_icmp_ne (tgt := 35) hx hb dX12_orders_5 (of_decide_eq_true rfl) (fun c7 => ?_) (fun c7 => ?_)
  · have kc7 := jne c7 jz_2 rfl
    refine lv_iconst (v := 0) hx hb dX12_orders_35 (of_decide_eq_true rfl) ?_
    refine lv_istore (lv' := [(4, .int 0), (0, .ref (ad 55)), (1, .int 2), (2, .int a2), (3, .int a3)]) hx hb dX12_orders_36 hl (of_decide_eq_true rfl) rfl (fun ls hl => ?_)
    have lp8 : ∀ (n9 : Nat) (x10 : Int32) (σ12 : Nat → Nat → Int32) (H : Heap) (locs : List Loc) (ls : Array Slot), (-x10.toInt + 4 : Int) < n9 → 0 ≤ x10.toInt → x10.toInt ≤ 4 → (∀ i : Nat, (i < 55 ∨ 55 < i) ∧ (i < 62 ∨ 62 < i) ∧ (i < 66 ∨ 66 < i) ∧ (i < 68 ∨ 69 < i) ∧ (i < 74 ∨ 78 < i) → σ12 i = σ i) → (∀ k : Nat, (k < 18 ∨ 18 < k) ∧ (k < 19 ∨ 19 < k) ∧ (k < 20 ∨ 20 < k) ∧ (k < 21 ∨ 21 < k) ∧ (k < 22 ∨ 22 < k) ∧ (k < 25 ∨ 25 < k) ∧ (k < 26 ∨ 26 < k) ∧ (k < 27 ∨ 27 < k) ∧ (k < 37 ∨ 37 < k) ∧ (k < 42 ∨ 42 < k) ∧ (k < 45 ∨ 45 < k) ∧ (k < 46 ∨ 46 < k) → σ12 55 k = σ 55 k) → jKept σ12 → jI104 σ12 → jI119 σ12 → jH D cI cL ad σ12 τ H → va_S (jA ad) s.heap H locs → lv_has ls 6 [(4, .int x10), (0, .ref (ad 55)), (1, .int 2), (2, .int a2), (3, .int a3)] → W p l e ({ frames := 107, cells := 0, slots := 0, locals := 5156 }) s m args below meth c H locs 0 0 Q (F0 m 38 ls []) := by
      intro n9
      induction n9 with
      | zero => intro x10 σ12 H locs ls h14 h15 h16; exact absurd h14 (by omega)
      | succ n9 ihlp8 =>
        intro x10 σ12 H locs ls h14 h15 h16 f17 f18 p19 p20 p21 hP hS hl
        exact by
         obtain ⟨i22, i23, i24, w25, w26⟩ : (1 ≤ (σ12 55 10).toInt ∧ (σ12 55 10).toInt ≤ 8) ∧ (1 ≤ (σ12 55 12).toInt ∧ (σ12 55 12).toInt ≤ 12) ∧ (0 ≤ (σ12 55 13).toInt ∧ (σ12 55 13).toInt ≤ 999) ∧ (∀ k : Nat, k < 8 → 0 ≤ (σ12 62 k).toInt ∧ (σ12 62 k).toInt ≤ 3) ∧ (∀ k : Nat, k < 8 → 0 ≤ (σ12 67 k).toInt ∧ (σ12 67 k).toInt ≤ 3) := id p20
         have z27 : (σ12 55 10).toInt = (σ 55 10).toInt := (congrArg Int32.toInt (show σ12 55 10 = (σ 55 10) from (f18 10 (of_decide_eq_true rfl))))
         have z28 : (σ12 55 12).toInt = (σ 55 12).toInt := (congrArg Int32.toInt (show σ12 55 12 = (σ 55 12) from (f18 12 (of_decide_eq_true rfl))))
         have z29 : (σ12 55 13).toInt = (σ 55 13).toInt := (congrArg Int32.toInt (show σ12 55 13 = (σ 55 13) from (f18 13 (of_decide_eq_true rfl))))
         refine lv_iload hx hb dX12_orders_38 (lv_at hl 0 rfl) ?_
         refine lv_iconst (v := 4) hx hb dX12_orders_40 (of_decide_eq_true rfl) ?_
         refine lv_icmp_ge (tgt := 127) hx hb dX12_orders_41 (of_decide_eq_true rfl) (fun c30 => ?_) (fun c30 => ?_)
         · have kc30 := jle c30 jz_4 rfl
           exact hret σ12 τ _ _ _ _ ⟨rfl, (fun i hi => (f17 i hi)), (fun i hi => (f18 i hi)), p20, p21, p19, trivial⟩ hP hS dX12_orders_127
         · have kc30 := jnle c30 jz_4 rfl
           refine lv_iconst (v := 0) hx hb dX12_orders_44 (of_decide_eq_true rfl) ?_
           refine lv_istore (lv' := [(5, .int 0), (4, .int x10), (0, .ref (ad 55)), (1, .int 2), (2, .int a2), (3, .int a3)]) hx hb dX12_orders_45 hl (of_decide_eq_true rfl) rfl (fun ls hl => ?_)
           have lp31 : ∀ (n32 : Nat) (x33 : Int32) (H : Heap) (locs : List Loc) (ls : Array Slot), ((σ12 55 10).toInt - x33.toInt : Int) < n32 → 0 ≤ x33.toInt → x33.toInt ≤ 5 → x33.toInt ≤ (σ12 55 10).toInt → jH D cI cL ad σ12 τ H → va_S (jA ad) s.heap H locs → lv_has ls 6 [(5, .int x33), (4, .int x10), (0, .ref (ad 55)), (1, .int 2), (2, .int a2), (3, .int a3)] → W p l e ({ frames := 107, cells := 0, slots := 0, locals := 5156 }) s m args below meth c H locs 0 0 Q (F0 m 47 ls []) := by
             intro n32
             induction n32 with
             | zero => intro x33 H locs ls h35 h36 h37 h38; exact absurd h35 (by omega)
             | succ n32 ihlp31 =>
               intro x33 H locs ls h35 h36 h37 h38 hP hS hl
               exact by
                refine lv_iload hx hb dX12_orders_47 (lv_at hl 0 rfl) ?_
                refine lv_aload_n hx hb dX12_orders_49 rfl (lv_at hl 2 rfl) ?_
                refine va_get (D := D) hx hb hts inlX12 hown hK hP 55 (jc_55 cI cL ad σ12 τ) rfl 10 (of_decide_eq_true rfl) (hts _ kw_8_15) (fun _ h9 => h9) rfl dX12_orders_50 ?_
                have m40 : σ12 55 10 = (σ 55 10) := (f18 10 (of_decide_eq_true rfl))
                refine jtopr m40 ?_
                refine lv_icmp_ge (tgt := 84) hx hb dX12_orders_53 (of_decide_eq_true rfl) (fun c41 => ?_) (fun c41 => ?_)
                · have kc41 := jle c41 rfl rfl
                  refine lv_iload hx hb dX12_orders_84 (lv_at hl 0 rfl) ?_
                  refine lv_aload_n hx hb dX12_orders_86 rfl (lv_at hl 2 rfl) ?_
                  refine va_get (D := D) hx hb hts inlX12 hown hK hP 55 (jc_55 cI cL ad σ12 τ) rfl 10 (of_decide_eq_true rfl) (hts _ kw_8_15) (fun _ h9 => h9) rfl dX12_orders_87 ?_
                  refine jtopr m40 ?_
                  exact by
                   refine lv_icmp_ge (tgt := 121) hx hb dX12_orders_90 (of_decide_eq_true rfl) (fun c42 => ?_) (fun c => absurd (jnle c rfl rfl) (by omega))
                   have kc42 := jle c42 rfl rfl
                   obtain ⟨x43, ex43⟩ : ∃ y : Int32, y = x10 + 1 := ⟨_, rfl⟩
                   have tx43 : x43.toInt = x10.toInt + 1 := (jadd ex43 rfl jz_1 (by omega) (by omega)).trans (by omega)
                   refine lv_iinc (v := x43) (lv' := [(4, .int x43), (5, .int x33), (0, .ref (ad 55)), (1, .int 2), (2, .int a2), (3, .int a3)]) hx hb dX12_orders_121 hl (k := 1) rfl (by rw [ex43]; rfl) (of_decide_eq_true rfl) rfl (fun ls hl => ?_)
                   refine lv_goto (tgt := 38) hx hb dX12_orders_124 (of_decide_eq_true rfl) ?_
                   exact by exact ihlp8 x43 σ12 _ _ ls (by have h90 := tx43; omega) (by have h90 := tx43; omega) (by have h90 := tx43; omega) (fun i hi => (f17 i hi)) (fun i hi => (f18 i hi))  p19 p20 p21 hP hS (lv_sub hl [0, 2, 3, 4, 5] rfl)
                · have kc41 := jnle c41 rfl rfl
                  refine lv_iload_n hx hb dX12_orders_56 rfl (lv_at hl 4 rfl) ?_
                  exact by
                   refine lv_iload hx hb dX12_orders_57 (lv_at hl 0 rfl) ?_
                   refine lv_ishr hx hb dX12_orders_59 ?_
                   refine lv_topi (fun x44 ex44 => ?_)
                   have gx44 := jrg (rfl : x44.toInt = x44.toInt)
                   refine lv_iconst (v := 1) hx hb dX12_orders_60 (of_decide_eq_true rfl) ?_
                   refine lv_iand hx hb dX12_orders_61 ?_
                   refine lv_topi (fun x45 ex45 => ?_)
                   have gx45 := jrg (rfl : x45.toInt = x45.toInt)
                   have g46 : 0 ≤ x45.toInt ∧ x45.toInt ≤ 1 := jmask ex45 1 (of_decide_eq_true rfl) (of_decide_eq_true rfl)
                   refine lv_iconst (v := 1) hx hb dX12_orders_62 (of_decide_eq_true rfl) ?_
                   refine lv_icmp_eq (tgt := 78) hx hb dX12_orders_63 (of_decide_eq_true rfl) (fun c47 => ?_) (fun c47 => ?_)
                   · have kc47 := jeq c47 rfl jz_1
                     obtain ⟨x48, ex48⟩ : ∃ y : Int32, y = x33 + 1 := ⟨_, rfl⟩
                     exact by
                      have tx48 : x48.toInt = x33.toInt + 1 := (jadd ex48 rfl jz_1 (by omega) (by omega)).trans (by omega)
                      refine lv_iinc (v := x48) (lv' := [(5, .int x48), (4, .int x10), (0, .ref (ad 55)), (1, .int 2), (2, .int a2), (3, .int a3)]) hx hb dX12_orders_78 hl (k := 0) rfl (by rw [ex48]; rfl) (of_decide_eq_true rfl) rfl (fun ls hl => ?_)
                      refine lv_goto (tgt := 47) hx hb dX12_orders_81 (of_decide_eq_true rfl) ?_
                      exact by exact ihlp31 x48 _ _ ls (by have h90 := tx48; omega) (by have h90 := tx48; omega) (by have h90 := tx48; omega) (by have h90 := tx48; omega)    hP hS (lv_sub hl [0, 1, 2, 3, 4, 5] rfl)
                   · have kc47 := jne c47 rfl jz_1
                     refine lv_aload_n hx hb dX12_orders_66 rfl (lv_at hl 2 rfl) ?_
                     refine va_get (D := D) hx hb hts inlX12 hown hK hP 55 (jc_55 cI cL ad σ12 τ) rfl 44 (of_decide_eq_true rfl) (hts _ kw_8_4) (fun _ h9 => h9) rfl dX12_orders_67 ?_
                     refine lv_iload hx hb dX12_orders_70 (lv_at hl 0 rfl) ?_
                     refine jald hx hb hK hP (jc_79 cI cL ad σ12 τ) (jin rfl (by omega) (by omega)) dX12_orders_72 ?_
                     exact by
                      have w49 : ∀ k : Nat, k < 5 → 0 ≤ (σ12 79 k).toInt ∧ (σ12 79 k).toInt ≤ 3 := (jrr_fr (f17 79 (of_decide_eq_true rfl)) w6)
                      have g50 := w49 _ (jnat (x := x33) rfl (n := 5) (by omega) (of_decide_eq_true rfl))
                      refine lv_topi (fun x51 ex51 => ?_)
                      rw [← ex51] at g50
                      refine lv_iload hx hb dX12_orders_73 (lv_at hl 1 rfl) ?_
                      refine lv_icmp_eq (tgt := 84) hx hb dX12_orders_75 (of_decide_eq_true rfl) (fun c52 => ?_) (fun c52 => ?_)
                      · have kc52 := jeq c52 rfl rfl
                        refine lv_iload hx hb dX12_orders_84 (lv_at hl 0 rfl) ?_
                        refine lv_aload_n hx hb dX12_orders_86 rfl (lv_at hl 2 rfl) ?_
                        exact by
                         refine va_get (D := D) hx hb hts inlX12 hown hK hP 55 (jc_55 cI cL ad σ12 τ) rfl 10 (of_decide_eq_true rfl) (hts _ kw_8_15) (fun _ h9 => h9) rfl dX12_orders_87 ?_
                         refine jtopr m40 ?_
                         refine lv_icmp_ge (tgt := 121) hx hb dX12_orders_90 (of_decide_eq_true rfl) (fun c => absurd (jle c rfl rfl) (by omega)) (fun c53 => ?_)
                         have kc53 := jnle c53 rfl rfl
                         refine lv_aload_n hx hb dX12_orders_93 rfl (lv_at hl 2 rfl) ?_
                         refine va_get (D := D) hx hb hts inlX12 hown hK hP 55 (jc_55 cI cL ad σ12 τ) rfl 11 (of_decide_eq_true rfl) (hts _ kw_7_8) (fun _ h9 => h9) rfl dX12_orders_94 ?_
                         refine lv_iload_n hx hb dX12_orders_97 rfl (lv_at hl 3 rfl) ?_
                         refine lv_iload hx hb dX12_orders_98 (lv_at hl 1 rfl) ?_
                         refine jast hx hb hK hP hJ hA hS (jc_62 cI cL ad σ12 τ) (ja_62 cI cL ad σ12 τ _ _) (jin jz_2 (by omega) (by omega)) dX12_orders_100 (fun σ54 H locs eσ54 hP hS => ?_)
                         exact by
                          have eσ54 : σ54 = jup σ12 62 2 x10 := eσ54
                          refine lv_aload_n hx hb dX12_orders_101 rfl (lv_at hl 2 rfl) ?_
                          refine lv_iload_n hx hb dX12_orders_102 rfl (lv_at hl 3 rfl) ?_
                          refine lv_iconst (v := 1) hx hb dX12_orders_103 (of_decide_eq_true rfl) ?_
                          refine lv_iadd hx hb dX12_orders_104 ?_
                          refine jtopr (y := 3) (of_decide_eq_true rfl) ?_
                          refine lv_iload_n hx hb dX12_orders_105 rfl (lv_at hl 4 rfl) ?_
                          refine lv_iconst (v := 1) hx hb dX12_orders_106 (of_decide_eq_true rfl) ?_
                          refine lv_iload hx hb dX12_orders_107 (lv_at hl 0 rfl) ?_
                          refine lv_ishl hx hb dX12_orders_109 ?_
                          refine lv_topi (fun x55 ex55 => ?_)
                          have gx55 := jrg (rfl : x55.toInt = x55.toInt)
                          refine lv_ior hx hb dX12_orders_110 ?_
                          refine lv_topi (fun x56 ex56 => ?_)
                          have gx56 := jrg (rfl : x56.toInt = x56.toInt)
                          refine lv_bipush (v := 10) hx hb dX12_orders_111 (of_decide_eq_true rfl) ?_
                          refine lv_iload_n hx hb dX12_orders_113 rfl (lv_at hl 5 rfl) ?_
                          refine lv_imul hx hb dX12_orders_114 ?_
                          refine lv_topi (fun x57 ex57 => ?_)
                          have gx57 := jrg (rfl : x57.toInt = x57.toInt)
                          refine lv_iload hx hb dX12_orders_115 (lv_at hl 1 rfl) ?_
                          have g58 := jrg (rfl : x57.toInt = x57.toInt)
                          have g59 := jrg (rfl : x10.toInt = x10.toInt)
                          refine lv_iadd hx hb dX12_orders_117 ?_
                          refine lv_topi (fun x60 ex60 => ?_)
                          have gx60 := jrg (rfl : x60.toInt = x60.toInt)
                          have I61 : jI101 σ54 := jI101_fr ((congrFun (jnp 55 eσ54 (of_decide_eq_true rfl)) 4).trans (f18 4 (of_decide_eq_true rfl))) ((congrFun (jnp 55 eσ54 (of_decide_eq_true rfl)) 5).trans (f18 5 (of_decide_eq_true rfl))) ((jnp 56 eσ54 (of_decide_eq_true rfl)).trans (f17 56 (of_decide_eq_true rfl))) ((jnp 57 eσ54 (of_decide_eq_true rfl)).trans (f17 57 (of_decide_eq_true rfl))) ((jnp 58 eσ54 (of_decide_eq_true rfl)).trans (f17 58 (of_decide_eq_true rfl))) ((jnp 59 eσ54 (of_decide_eq_true rfl)).trans (f17 59 (of_decide_eq_true rfl))) hI101
                          have I62 : jI102 σ54 := jI102_fr ((congrFun (jnp 55 eσ54 (of_decide_eq_true rfl)) 6).trans (f18 6 (of_decide_eq_true rfl))) ((jnp 60 eσ54 (of_decide_eq_true rfl)).trans (f17 60 (of_decide_eq_true rfl))) ((jnp 61 eσ54 (of_decide_eq_true rfl)).trans (f17 61 (of_decide_eq_true rfl))) hI102
                          have I63 : jI103 σ54 := jI103_fr ((congrFun (jnp 55 eσ54 (of_decide_eq_true rfl)) 9).trans (f18 9 (of_decide_eq_true rfl))) hI103
                          have z64 : (σ54 55 10).toInt = (σ 55 10).toInt := (congrArg Int32.toInt (show σ54 55 10 = (σ 55 10) from ((congrFun (jnp 55 eσ54 (of_decide_eq_true rfl)) 10).trans m40)))
                          have z65 : (σ54 55 12).toInt = (σ 55 12).toInt := (congrArg Int32.toInt (show σ54 55 12 = (σ 55 12) from ((congrFun (jnp 55 eσ54 (of_decide_eq_true rfl)) 12).trans (f18 12 (of_decide_eq_true rfl)))))
                          have z66 : (σ54 55 13).toInt = (σ 55 13).toInt := (congrArg Int32.toInt (show σ54 55 13 = (σ 55 13) from ((congrFun (jnp 55 eσ54 (of_decide_eq_true rfl)) 13).trans (f18 13 (of_decide_eq_true rfl)))))
                          exact by
                           have w67 : ∀ k : Nat, k < 8 → 0 ≤ (σ54 62 k).toInt ∧ (σ54 62 k).toInt ≤ 3 := (by rw [eσ54]; exact jrr_up w25 (by omega) (by omega))
                           have w68 : ∀ k : Nat, k < 8 → 0 ≤ (σ54 67 k).toInt ∧ (σ54 67 k).toInt ≤ 3 := (jrr_fr (jnp 67 eσ54 (of_decide_eq_true rfl)) w26)
                           have I69 : jI104 σ54 := ⟨(by omega), (by omega), (by omega), w67, w68⟩
                           have I70 : jI105 σ54 := jI105_fr ((congrFun (jnp 55 eσ54 (of_decide_eq_true rfl)) 15).trans (f18 15 (of_decide_eq_true rfl))) ((jnp 65 eσ54 (of_decide_eq_true rfl)).trans (f17 65 (of_decide_eq_true rfl))) hI105
                           have I71 : jI106 σ54 := jI106_fr ((congrFun (jnp 55 eσ54 (of_decide_eq_true rfl)) 32).trans (f18 32 (of_decide_eq_true rfl))) ((jnp 70 eσ54 (of_decide_eq_true rfl)).trans (f17 70 (of_decide_eq_true rfl))) ((jnp 71 eσ54 (of_decide_eq_true rfl)).trans (f17 71 (of_decide_eq_true rfl))) ((jnp 72 eσ54 (of_decide_eq_true rfl)).trans (f17 72 (of_decide_eq_true rfl))) hI106
                           have I72 : jI119 σ54 := jI119_fr (jnp 68 eσ54 (of_decide_eq_true rfl)) p21
                           have I73 : jI111 σ54 := jI111_fr ((jnp 79 eσ54 (of_decide_eq_true rfl)).trans (f17 79 (of_decide_eq_true rfl))) hI111
                           have p74 : jKept σ54 := jKept.fr (jnp 75 eσ54 (of_decide_eq_true rfl)) (jnp 76 eσ54 (of_decide_eq_true rfl)) (jnp 77 eσ54 (of_decide_eq_true rfl)) p19
                           refine jcallVv (As := [.int 3, .int x56, .int x60]) (rest := []) ⟨hx, hb, hml, hown, hts⟩ hK hP hA hS hZ (c_X12_orders_3 l D cI cL ad zz hJ σ54 τ x56 (x56.toInt) rfl x60 (x60.toInt) rfl I61 I62 I63 I69 I70 I71 I72 I73 p74 (by omega) (by omega) (by omega)) cw_RX12_355 (jc_55 cI cL ad σ54 τ) rfl ⟨Nat.le_of_ble_eq_true rfl, Nat.le_of_ble_eq_true rfl⟩ rfl rfl rfl hl.1 rfl (Nat.le_of_ble_eq_true rfl) dX12_orders_118 ⟨Nat.zero_le _, Nat.zero_le _⟩ (fun σ75 τ75 H locs h75 hP hS => ?_)
                           exact by
                            obtain ⟨rfl, f77, f78, I79, I80, p81, h75⟩ := h75
                            obtain ⟨i83, i84, i85, w86, w87⟩ : (1 ≤ (σ75 55 10).toInt ∧ (σ75 55 10).toInt ≤ 8) ∧ (1 ≤ (σ75 55 12).toInt ∧ (σ75 55 12).toInt ≤ 12) ∧ (0 ≤ (σ75 55 13).toInt ∧ (σ75 55 13).toInt ≤ 999) ∧ (∀ k : Nat, k < 8 → 0 ≤ (σ75 62 k).toInt ∧ (σ75 62 k).toInt ≤ 3) ∧ (∀ k : Nat, k < 8 → 0 ≤ (σ75 67 k).toInt ∧ (σ75 67 k).toInt ≤ 3) := id I79
                            have z88 : (σ75 55 10).toInt = (σ 55 10).toInt := (congrArg Int32.toInt (show σ75 55 10 = (σ 55 10) from ((f78 10 (of_decide_eq_true rfl)).trans ((congrFun (jnp 55 eσ54 (of_decide_eq_true rfl)) 10).trans m40))))
                            have z89 : (σ75 55 12).toInt = (σ 55 12).toInt := (congrArg Int32.toInt (show σ75 55 12 = (σ 55 12) from ((f78 12 (of_decide_eq_true rfl)).trans ((congrFun (jnp 55 eσ54 (of_decide_eq_true rfl)) 12).trans (f18 12 (of_decide_eq_true rfl))))))
                            have z90 : (σ75 55 13).toInt = (σ 55 13).toInt := (congrArg Int32.toInt (show σ75 55 13 = (σ 55 13) from ((f78 13 (of_decide_eq_true rfl)).trans ((congrFun (jnp 55 eσ54 (of_decide_eq_true rfl)) 13).trans (f18 13 (of_decide_eq_true rfl))))))
                            obtain ⟨x91, ex91⟩ : ∃ y : Int32, y = x10 + 1 := ⟨_, rfl⟩
                            have tx91 : x91.toInt = x10.toInt + 1 := (jadd ex91 rfl jz_1 (by omega) (by omega)).trans (by omega)
                            refine lv_iinc (v := x91) (lv' := [(4, .int x91), (5, .int x33), (0, .ref (ad 55)), (1, .int 2), (2, .int a2), (3, .int a3)]) hx hb dX12_orders_121 hl (k := 1) rfl (by rw [ex91]; rfl) (of_decide_eq_true rfl) rfl (fun ls hl => ?_)
                            refine lv_goto (tgt := 38) hx hb dX12_orders_124 (of_decide_eq_true rfl) ?_
                            exact by exact ihlp8 x91 σ75 _ _ ls (by have h90 := tx91; omega) (by have h90 := tx91; omega) (by have h90 := tx91; omega) (fun i hi => ((f77 i hi).trans ((jnp i eσ54 (imp_276 i hi)).trans (f17 i hi)))) (fun i hi => ((f78 i hi).trans ((congrFun (jnp 55 eσ54 (of_decide_eq_true rfl)) i).trans (f18 i hi))))  p81 I79 I80 hP hS (lv_sub hl [0, 2, 3, 4, 5] rfl)
                      · exact by
                         have kc52 := jne c52 rfl rfl
                         obtain ⟨x92, ex92⟩ : ∃ y : Int32, y = x33 + 1 := ⟨_, rfl⟩
                         have tx92 : x92.toInt = x33.toInt + 1 := (jadd ex92 rfl jz_1 (by omega) (by omega)).trans (by omega)
                         refine lv_iinc (v := x92) (lv' := [(5, .int x92), (4, .int x10), (0, .ref (ad 55)), (1, .int 2), (2, .int a2), (3, .int a3)]) hx hb dX12_orders_78 hl (k := 0) rfl (by rw [ex92]; rfl) (of_decide_eq_true rfl) rfl (fun ls hl => ?_)
                         refine lv_goto (tgt := 47) hx hb dX12_orders_81 (of_decide_eq_true rfl) ?_
                         exact by exact ihlp31 x92 _ _ ls (by have h90 := tx92; omega) (by have h90 := tx92; omega) (by have h90 := tx92; omega) (by have h90 := tx92; omega)    hP hS (lv_sub hl [0, 1, 2, 3, 4, 5] rfl)
           exact by exact lp31 1000000 0 _ _ ls (by have h90 := jz_0; omega) (by have h90 := jz_0; omega) (by have h90 := jz_0; omega) (by have h90 := jz_0; omega)   hP hS hl
    exact by exact lp8 1000000 0 σ _ _ ls (by have h90 := jz_0; omega) (by have h90 := jz_0; omega) (by have h90 := jz_0; omega) (fun _ _ => rfl) (fun _ _ => rfl)  hs_jKept hI104 hI119 hP hS hl
  · have kc7 := jeq c7 jz_2 rfl
    exact by
     refine lv_aload_n hx hb dX12_orders_8 rfl (lv_at hl 0 rfl) ?_
     refine jcallV (As := []) (rest := []) ⟨hx, hb, hml, hown, hts⟩ hK hP hA hS hZ (c_X12_bestNow l D cI cL ad zz hJ σ τ hI101 hI102 hI103 hI104 hI105 hI106 hI119 hs_jKept (by omega)) cw_RX12_346 (jc_55 cI cL ad σ τ) rfl ⟨Nat.le_of_ble_eq_true rfl, Nat.le_of_ble_eq_true rfl⟩ rfl rfl rfl hl.1 rfl (Nat.le_of_ble_eq_true rfl) dX12_orders_9 ⟨Nat.zero_le _, Nat.zero_le _⟩ (fun r94 σ93 τ93 H locs h93 hP hS => ?_)
     obtain ⟨rfl, f95, f96, I97, p98, h93⟩ := h93
     refine lv_istore (lv' := [(4, .int r94), (0, .ref (ad 55)), (1, .int 2), (2, .int a2), (3, .int a3)]) hx hb dX12_orders_12 hl (of_decide_eq_true rfl) rfl (fun ls hl => ?_)
     refine lv_iload hx hb dX12_orders_14 (lv_at hl 0 rfl) ?_
     refine lv_aload_n hx hb dX12_orders_16 rfl (lv_at hl 1 rfl) ?_
     refine va_get (D := D) hx hb hts inlX12 hown hK hP 55 (jc_55 cI cL ad σ93 τ) rfl 46 (of_decide_eq_true rfl) (hts _ kw_40_17) (fun _ h9 => h9) rfl dX12_orders_17 ?_
     have m100 : σ93 55 46 = (σ 55 46) := (f96 46 (of_decide_eq_true rfl))
     refine jtopr m100 ?_
     exact by
      refine lv_icmp_le (tgt := 34) hx hb dX12_orders_20 (of_decide_eq_true rfl) (fun c101 => ?_) (fun c101 => ?_)
      · have kc101 := jle c101 rfl rfl
        have I102 : jI104 σ93 := jI104_fr (f96 10 (of_decide_eq_true rfl)) (f96 12 (of_decide_eq_true rfl)) (f96 13 (of_decide_eq_true rfl)) (f95 62 (of_decide_eq_true rfl)) (f95 67 (of_decide_eq_true rfl)) hI104
        exact hret σ93 τ _ _ _ _ ⟨rfl, (fun i hi => (f95 i (imp_271 i hi))), (fun i hi => (f96 i (imp_272 i hi))), I102, I97, p98, trivial⟩ hP hS dX12_orders_34
      · have kc101 := jnle c101 rfl rfl
        refine lv_aload_n hx hb dX12_orders_23 rfl (lv_at hl 1 rfl) ?_
        refine lv_iload hx hb dX12_orders_24 (lv_at hl 0 rfl) ?_
        refine jput (ty := .int) hx hb hts inlX12 tyX12 tyX12_ok nmX12 hown hK hP hJ hA hS (jc_55 cI cL ad σ93 τ) rfl (k := 46) (of_decide_eq_true rfl) (Nat.le_of_ble_eq_true rfl) (jp_55_46 cI cL ad σ93 τ r94) (hts _ kw_40_17) (fun _ h9 => h9) rfl (by decide +kernel) rfl rfl dX12_orders_26 (fun σ103 H locs eσ103 hP hS => ?_)
        refine lv_aload_n hx hb dX12_orders_29 rfl (lv_at hl 1 rfl) ?_
        refine lv_iload_n hx hb dX12_orders_30 rfl (lv_at hl 4 rfl) ?_
        refine jput (ty := .int) hx hb hts inlX12 tyX12 tyX12_ok nmX12 hown hK hP hJ hA hS (jc_55 cI cL ad σ103 τ) rfl (k := 45) (of_decide_eq_true rfl) (Nat.le_of_ble_eq_true rfl) (jp_55_45 cI cL ad σ103 τ a3) (hts _ kw_40_18) (fun _ h9 => h9) rfl (by decide +kernel) rfl rfl dX12_orders_31 (fun σ104 H locs eσ104 hP hS => ?_)
        have I105 : jI104 σ104 := jI104_fr ((jkp 10 eσ104 (of_decide_eq_true rfl)).trans ((jkp 10 eσ103 (of_decide_eq_true rfl)).trans (f96 10 (of_decide_eq_true rfl)))) ((jkp 12 eσ104 (of_decide_eq_true rfl)).trans ((jkp 12 eσ103 (of_decide_eq_true rfl)).trans (f96 12 (of_decide_eq_true rfl)))) ((jkp 13 eσ104 (of_decide_eq_true rfl)).trans ((jkp 13 eσ103 (of_decide_eq_true rfl)).trans (f96 13 (of_decide_eq_true rfl)))) ((jnp 62 eσ104 (of_decide_eq_true rfl)).trans ((jnp 62 eσ103 (of_decide_eq_true rfl)).trans (f95 62 (of_decide_eq_true rfl)))) ((jnp 67 eσ104 (of_decide_eq_true rfl)).trans ((jnp 67 eσ103 (of_decide_eq_true rfl)).trans (f95 67 (of_decide_eq_true rfl)))) hI104
        have I106 : jI119 σ104 := jI119_fr ((jnp 68 eσ104 (of_decide_eq_true rfl)).trans (jnp 68 eσ103 (of_decide_eq_true rfl))) I97
        have p107 : jKept σ104 := jKept.fr ((jnp 75 eσ104 (of_decide_eq_true rfl)).trans (jnp 75 eσ103 (of_decide_eq_true rfl))) ((jnp 76 eσ104 (of_decide_eq_true rfl)).trans (jnp 76 eσ103 (of_decide_eq_true rfl))) ((jnp 77 eσ104 (of_decide_eq_true rfl)).trans (jnp 77 eσ103 (of_decide_eq_true rfl))) p98
        exact hret σ104 τ _ _ _ _ ⟨rfl, (fun i hi => ((jnp i eσ104 (imp_273 i hi)).trans ((jnp i eσ103 (imp_273 i hi)).trans (f95 i (imp_271 i hi))))), (fun i hi => ((jkp i eσ104 (imp_274 i hi)).trans ((jkp i eσ103 (imp_275 i hi)).trans (f96 i (imp_272 i hi))))), I105, I106, p107, trivial⟩ hP hS dX12_orders_34
set_option maxHeartbeats 4000000 in
set_option maxRecDepth 100000 in
theorem c_X12_orders_1 (l : Launch) (D : va_G) (cI cL : ClassId) (ad zz : Nat → Nat) (hJ : jD ad) (σ : Nat → Nat → Int32) (τ : Nat → Nat → Int64) (a2 : Int32) (A2 : Int) (t2 : a2.toInt = A2) (a3 : Int32) (A3 : Int) (t3 : a3.toInt = A3) (hI101 : jI101 σ) (hI102 : jI102 σ) (hI103 : jI103 σ) (hI104 : jI104 σ) (hI105 : jI105 σ) (hI106 : jI106 σ) (hI119 : jI119 σ) (hI111 : jI111 σ) (hs_jKept : jKept σ) (hp0 : (σ 55 10).toInt ≤ 5) (hp1 : 1 ≤ (σ 55 10).toInt) (hp2 : (σ 55 12).toInt ≤ 8) : jMv l yX12_orders cX12_orders 6 none ({ frames := 108, cells := 0, slots := 0, locals := 5181 }) D cI cL ad zz [.ref (ad 55), .int 1, .int a2, .int a3] σ τ (fun σ' τ' => τ = τ' ∧ (∀ i : Nat, (i < 55 ∨ 55 < i) ∧ (i < 62 ∨ 62 < i) ∧ (i < 66 ∨ 66 < i) ∧ (i < 68 ∨ 69 < i) ∧ (i < 74 ∨ 78 < i) → σ' i = σ i) ∧ (∀ k : Nat, (k < 18 ∨ 18 < k) ∧ (k < 19 ∨ 19 < k) ∧ (k < 20 ∨ 20 < k) ∧ (k < 21 ∨ 21 < k) ∧ (k < 22 ∨ 22 < k) ∧ (k < 25 ∨ 25 < k) ∧ (k < 26 ∨ 26 < k) ∧ (k < 27 ∨ 27 < k) ∧ (k < 37 ∨ 37 < k) ∧ (k < 42 ∨ 42 < k) ∧ (k < 45 ∨ 45 < k) ∧ (k < 46 ∨ 46 < k) → σ' 55 k = σ 55 k) ∧ (jI104 σ') ∧ (jI119 σ') ∧ (jKept σ') ∧ True) := by
  refine jMv.of hJ (by decide +kernel) rfl (Nat.le_of_ble_eq_true rfl) ?_
  intro p e s m args below meth c Q ls hC hret hl hP
  obtain ⟨hx, hb, hr, hml, hown, hts, hK, -, hlocks, hZ⟩ := hC
  have hown : s.vm.findClass RX12 = some m.cls := hown
  have hS : va_S (jA ad) s.heap s.heap [] := va_S.rf
  have hA : ∀ q, jA ad q → jA ad q := fun _ h => h
  have hl : lv_has ls 6 [(0, .ref (ad 55)), (1, .int 1), (2, .int a2), (3, .int a3)] := hl
  have g2 := jrg t2
  have g3 := jrg t3
  obtain ⟨i1, i2, i3, w4, w5⟩ : (1 ≤ (σ 55 10).toInt ∧ (σ 55 10).toInt ≤ 8) ∧ (1 ≤ (σ 55 12).toInt ∧ (σ 55 12).toInt ≤ 12) ∧ (0 ≤ (σ 55 13).toInt ∧ (σ 55 13).toInt ≤ 999) ∧ (∀ k : Nat, k < 8 → 0 ≤ (σ 62 k).toInt ∧ (σ 62 k).toInt ≤ 3) ∧ (∀ k : Nat, k < 8 → 0 ≤ (σ 67 k).toInt ∧ (σ 67 k).toInt ≤ 3) := id hI104
  have w6 : ∀ k : Nat, k < 5 → 0 ≤ (σ 79 k).toInt ∧ (σ 79 k).toInt ≤ 3 := hI111
  refine lv_iload_n hx hb dX12_orders_0 rfl (lv_at hl 1 rfl) ?_
  refine lv_aload_n hx hb dX12_orders_1 rfl (lv_at hl 0 rfl) ?_
  refine va_get (D := D) hx hb hts inlX12 hown hK hP 55 (jc_55 cI cL ad σ τ) rfl 10 (of_decide_eq_true rfl) (hts _ kw_8_15) (fun _ h9 => h9) rfl dX12_orders_2 ?_
  refine lv_icmp_ne (tgt := 35) hx hb dX12_orders_5 (of_decide_eq_true rfl) (fun c7 => ?_) (fun c7 => ?_)
  · have kc7 := jne c7 jz_1 rfl
    refine lv_iconst (v := 0) hx hb dX12_orders_35 (of_decide_eq_true rfl) ?_
    refine lv_istore (lv' := [(4, .int 0), (0, .ref (ad 55)), (1, .int 1), (2, .int a2), (3, .int a3)]) hx hb dX12_orders_36 hl (of_decide_eq_true rfl) rfl (fun ls hl => ?_)
    have lp8 : ∀ (n9 : Nat) (x10 : Int32) (σ12 : Nat → Nat → Int32) (H : Heap) (locs : List Loc) (ls : Array Slot), (-x10.toInt + 4 : Int) < n9 → 0 ≤ x10.toInt → x10.toInt ≤ 4 → (∀ i : Nat, (i < 55 ∨ 55 < i) ∧ (i < 62 ∨ 62 < i) ∧ (i < 66 ∨ 66 < i) ∧ (i < 68 ∨ 69 < i) ∧ (i < 74 ∨ 78 < i) → σ12 i = σ i) → (∀ k : Nat, (k < 18 ∨ 18 < k) ∧ (k < 19 ∨ 19 < k) ∧ (k < 20 ∨ 20 < k) ∧ (k < 21 ∨ 21 < k) ∧ (k < 22 ∨ 22 < k) ∧ (k < 25 ∨ 25 < k) ∧ (k < 26 ∨ 26 < k) ∧ (k < 27 ∨ 27 < k) ∧ (k < 37 ∨ 37 < k) ∧ (k < 42 ∨ 42 < k) ∧ (k < 45 ∨ 45 < k) ∧ (k < 46 ∨ 46 < k) → σ12 55 k = σ 55 k) → jKept σ12 → jI104 σ12 → jI119 σ12 → jH D cI cL ad σ12 τ H → va_S (jA ad) s.heap H locs → lv_has ls 6 [(4, .int x10), (0, .ref (ad 55)), (1, .int 1), (2, .int a2), (3, .int a3)] → W p l e ({ frames := 108, cells := 0, slots := 0, locals := 5181 }) s m args below meth c H locs 0 0 Q (F0 m 38 ls []) := by
      intro n9
      induction n9 with
      | zero => intro x10 σ12 H locs ls h14 h15 h16; exact absurd h14 (by omega)
      | succ n9 ihlp8 =>
        intro x10 σ12 H locs ls h14 h15 h16 f17 f18 p19 p20 p21 hP hS hl
        exact by
         obtain ⟨i22, i23, i24, w25, w26⟩ : (1 ≤ (σ12 55 10).toInt ∧ (σ12 55 10).toInt ≤ 8) ∧ (1 ≤ (σ12 55 12).toInt ∧ (σ12 55 12).toInt ≤ 12) ∧ (0 ≤ (σ12 55 13).toInt ∧ (σ12 55 13).toInt ≤ 999) ∧ (∀ k : Nat, k < 8 → 0 ≤ (σ12 62 k).toInt ∧ (σ12 62 k).toInt ≤ 3) ∧ (∀ k : Nat, k < 8 → 0 ≤ (σ12 67 k).toInt ∧ (σ12 67 k).toInt ≤ 3) := id p20
         have z27 : (σ12 55 10).toInt = (σ 55 10).toInt := (congrArg Int32.toInt (show σ12 55 10 = (σ 55 10) from (f18 10 (of_decide_eq_true rfl))))
         have z28 : (σ12 55 12).toInt = (σ 55 12).toInt := (congrArg Int32.toInt (show σ12 55 12 = (σ 55 12) from (f18 12 (of_decide_eq_true rfl))))
         have z29 : (σ12 55 13).toInt = (σ 55 13).toInt := (congrArg Int32.toInt (show σ12 55 13 = (σ 55 13) from (f18 13 (of_decide_eq_true rfl))))
         refine lv_iload hx hb dX12_orders_38 (lv_at hl 0 rfl) ?_
         refine lv_iconst (v := 4) hx hb dX12_orders_40 (of_decide_eq_true rfl) ?_
         refine lv_icmp_ge (tgt := 127) hx hb dX12_orders_41 (of_decide_eq_true rfl) (fun c30 => ?_) (fun c30 => ?_)
         · have kc30 := jle c30 jz_4 rfl
           exact hret σ12 τ _ _ _ _ ⟨rfl, (fun i hi => (f17 i hi)), (fun i hi => (f18 i hi)), p20, p21, p19, trivial⟩ hP hS dX12_orders_127
         · have kc30 := jnle c30 jz_4 rfl
           refine lv_iconst (v := 0) hx hb dX12_orders_44 (of_decide_eq_true rfl) ?_
           refine lv_istore (lv' := [(5, .int 0), (4, .int x10), (0, .ref (ad 55)), (1, .int 1), (2, .int a2), (3, .int a3)]) hx hb dX12_orders_45 hl (of_decide_eq_true rfl) rfl (fun ls hl => ?_)
           have lp31 : ∀ (n32 : Nat) (x33 : Int32) (H : Heap) (locs : List Loc) (ls : Array Slot), ((σ12 55 10).toInt - x33.toInt : Int) < n32 → 0 ≤ x33.toInt → x33.toInt ≤ 5 → x33.toInt ≤ (σ12 55 10).toInt → jH D cI cL ad σ12 τ H → va_S (jA ad) s.heap H locs → lv_has ls 6 [(5, .int x33), (4, .int x10), (0, .ref (ad 55)), (1, .int 1), (2, .int a2), (3, .int a3)] → W p l e ({ frames := 108, cells := 0, slots := 0, locals := 5181 }) s m args below meth c H locs 0 0 Q (F0 m 47 ls []) := by
             intro n32
             induction n32 with
             | zero => intro x33 H locs ls h35 h36 h37 h38; exact absurd h35 (by omega)
             | succ n32 ihlp31 =>
               intro x33 H locs ls h35 h36 h37 h38 hP hS hl
               exact by
                refine lv_iload hx hb dX12_orders_47 (lv_at hl 0 rfl) ?_
                refine lv_aload_n hx hb dX12_orders_49 rfl (lv_at hl 2 rfl) ?_
                refine va_get (D := D) hx hb hts inlX12 hown hK hP 55 (jc_55 cI cL ad σ12 τ) rfl 10 (of_decide_eq_true rfl) (hts _ kw_8_15) (fun _ h9 => h9) rfl dX12_orders_50 ?_
                have m40 : σ12 55 10 = (σ 55 10) := (f18 10 (of_decide_eq_true rfl))
                refine jtopr m40 ?_
                refine lv_icmp_ge (tgt := 84) hx hb dX12_orders_53 (of_decide_eq_true rfl) (fun c41 => ?_) (fun c41 => ?_)
                · have kc41 := jle c41 rfl rfl
                  refine lv_iload hx hb dX12_orders_84 (lv_at hl 0 rfl) ?_
                  refine lv_aload_n hx hb dX12_orders_86 rfl (lv_at hl 2 rfl) ?_
                  refine va_get (D := D) hx hb hts inlX12 hown hK hP 55 (jc_55 cI cL ad σ12 τ) rfl 10 (of_decide_eq_true rfl) (hts _ kw_8_15) (fun _ h9 => h9) rfl dX12_orders_87 ?_
                  refine jtopr m40 ?_
                  exact by
                   refine lv_icmp_ge (tgt := 121) hx hb dX12_orders_90 (of_decide_eq_true rfl) (fun c42 => ?_) (fun c => absurd (jnle c rfl rfl) (by omega))
                   have kc42 := jle c42 rfl rfl
                   obtain ⟨x43, ex43⟩ : ∃ y : Int32, y = x10 + 1 := ⟨_, rfl⟩
                   have tx43 : x43.toInt = x10.toInt + 1 := (jadd ex43 rfl jz_1 (by omega) (by omega)).trans (by omega)
                   refine lv_iinc (v := x43) (lv' := [(4, .int x43), (5, .int x33), (0, .ref (ad 55)), (1, .int 1), (2, .int a2), (3, .int a3)]) hx hb dX12_orders_121 hl (k := 1) rfl (by rw [ex43]; rfl) (of_decide_eq_true rfl) rfl (fun ls hl => ?_)
                   refine lv_goto (tgt := 38) hx hb dX12_orders_124 (of_decide_eq_true rfl) ?_
                   exact by exact ihlp8 x43 σ12 _ _ ls (by have h90 := tx43; omega) (by have h90 := tx43; omega) (by have h90 := tx43; omega) (fun i hi => (f17 i hi)) (fun i hi => (f18 i hi))  p19 p20 p21 hP hS (lv_sub hl [0, 2, 3, 4, 5] rfl)
                · have kc41 := jnle c41 rfl rfl
                  refine lv_iload_n hx hb dX12_orders_56 rfl (lv_at hl 4 rfl) ?_
                  exact by
                   refine lv_iload hx hb dX12_orders_57 (lv_at hl 0 rfl) ?_
                   refine lv_ishr hx hb dX12_orders_59 ?_
                   refine lv_topi (fun x44 ex44 => ?_)
                   have gx44 := jrg (rfl : x44.toInt = x44.toInt)
                   refine lv_iconst (v := 1) hx hb dX12_orders_60 (of_decide_eq_true rfl) ?_
                   refine lv_iand hx hb dX12_orders_61 ?_
                   refine lv_topi (fun x45 ex45 => ?_)
                   have gx45 := jrg (rfl : x45.toInt = x45.toInt)
                   have g46 : 0 ≤ x45.toInt ∧ x45.toInt ≤ 1 := jmask ex45 1 (of_decide_eq_true rfl) (of_decide_eq_true rfl)
                   refine lv_iconst (v := 1) hx hb dX12_orders_62 (of_decide_eq_true rfl) ?_
                   refine lv_icmp_eq (tgt := 78) hx hb dX12_orders_63 (of_decide_eq_true rfl) (fun c47 => ?_) (fun c47 => ?_)
                   · have kc47 := jeq c47 rfl jz_1
                     obtain ⟨x48, ex48⟩ : ∃ y : Int32, y = x33 + 1 := ⟨_, rfl⟩
                     exact by
                      have tx48 : x48.toInt = x33.toInt + 1 := (jadd ex48 rfl jz_1 (by omega) (by omega)).trans (by omega)
                      refine lv_iinc (v := x48) (lv' := [(5, .int x48), (4, .int x10), (0, .ref (ad 55)), (1, .int 1), (2, .int a2), (3, .int a3)]) hx hb dX12_orders_78 hl (k := 0) rfl (by rw [ex48]; rfl) (of_decide_eq_true rfl) rfl (fun ls hl => ?_)
                      refine lv_goto (tgt := 47) hx hb dX12_orders_81 (of_decide_eq_true rfl) ?_
                      exact by exact ihlp31 x48 _ _ ls (by have h90 := tx48; omega) (by have h90 := tx48; omega) (by have h90 := tx48; omega) (by have h90 := tx48; omega)    hP hS (lv_sub hl [0, 1, 2, 3, 4, 5] rfl)
                   · have kc47 := jne c47 rfl jz_1
                     refine lv_aload_n hx hb dX12_orders_66 rfl (lv_at hl 2 rfl) ?_
                     refine va_get (D := D) hx hb hts inlX12 hown hK hP 55 (jc_55 cI cL ad σ12 τ) rfl 44 (of_decide_eq_true rfl) (hts _ kw_8_4) (fun _ h9 => h9) rfl dX12_orders_67 ?_
                     refine lv_iload hx hb dX12_orders_70 (lv_at hl 0 rfl) ?_
                     refine jald hx hb hK hP (jc_79 cI cL ad σ12 τ) (jin rfl (by omega) (by omega)) dX12_orders_72 ?_
                     exact by
                      have w49 : ∀ k : Nat, k < 5 → 0 ≤ (σ12 79 k).toInt ∧ (σ12 79 k).toInt ≤ 3 := (jrr_fr (f17 79 (of_decide_eq_true rfl)) w6)
                      have g50 := w49 _ (jnat (x := x33) rfl (n := 5) (by omega) (of_decide_eq_true rfl))
                      refine lv_topi (fun x51 ex51 => ?_)
                      rw [← ex51] at g50
                      refine lv_iload hx hb dX12_orders_73 (lv_at hl 1 rfl) ?_
                      refine lv_icmp_eq (tgt := 84) hx hb dX12_orders_75 (of_decide_eq_true rfl) (fun c52 => ?_) (fun c52 => ?_)
                      · have kc52 := jeq c52 rfl rfl
                        refine lv_iload hx hb dX12_orders_84 (lv_at hl 0 rfl) ?_
                        refine lv_aload_n hx hb dX12_orders_86 rfl (lv_at hl 2 rfl) ?_
                        exact by
                         refine va_get (D := D) hx hb hts inlX12 hown hK hP 55 (jc_55 cI cL ad σ12 τ) rfl 10 (of_decide_eq_true rfl) (hts _ kw_8_15) (fun _ h9 => h9) rfl dX12_orders_87 ?_
                         refine jtopr m40 ?_
                         refine lv_icmp_ge (tgt := 121) hx hb dX12_orders_90 (of_decide_eq_true rfl) (fun c => absurd (jle c rfl rfl) (by omega)) (fun c53 => ?_)
                         have kc53 := jnle c53 rfl rfl
                         refine lv_aload_n hx hb dX12_orders_93 rfl (lv_at hl 2 rfl) ?_
                         refine va_get (D := D) hx hb hts inlX12 hown hK hP 55 (jc_55 cI cL ad σ12 τ) rfl 11 (of_decide_eq_true rfl) (hts _ kw_7_8) (fun _ h9 => h9) rfl dX12_orders_94 ?_
                         refine lv_iload_n hx hb dX12_orders_97 rfl (lv_at hl 3 rfl) ?_
                         refine lv_iload hx hb dX12_orders_98 (lv_at hl 1 rfl) ?_
                         refine jast hx hb hK hP hJ hA hS (jc_62 cI cL ad σ12 τ) (ja_62 cI cL ad σ12 τ _ _) (jin jz_1 (by omega) (by omega)) dX12_orders_100 (fun σ54 H locs eσ54 hP hS => ?_)
                         exact by
                          have eσ54 : σ54 = jup σ12 62 1 x10 := eσ54
                          refine lv_aload_n hx hb dX12_orders_101 rfl (lv_at hl 2 rfl) ?_
                          refine lv_iload_n hx hb dX12_orders_102 rfl (lv_at hl 3 rfl) ?_
                          refine lv_iconst (v := 1) hx hb dX12_orders_103 (of_decide_eq_true rfl) ?_
                          refine lv_iadd hx hb dX12_orders_104 ?_
                          refine jtopr (y := 2) (of_decide_eq_true rfl) ?_
                          refine lv_iload_n hx hb dX12_orders_105 rfl (lv_at hl 4 rfl) ?_
                          refine lv_iconst (v := 1) hx hb dX12_orders_106 (of_decide_eq_true rfl) ?_
                          refine lv_iload hx hb dX12_orders_107 (lv_at hl 0 rfl) ?_
                          refine lv_ishl hx hb dX12_orders_109 ?_
                          refine lv_topi (fun x55 ex55 => ?_)
                          have gx55 := jrg (rfl : x55.toInt = x55.toInt)
                          refine lv_ior hx hb dX12_orders_110 ?_
                          refine lv_topi (fun x56 ex56 => ?_)
                          have gx56 := jrg (rfl : x56.toInt = x56.toInt)
                          refine lv_bipush (v := 10) hx hb dX12_orders_111 (of_decide_eq_true rfl) ?_
                          refine lv_iload_n hx hb dX12_orders_113 rfl (lv_at hl 5 rfl) ?_
                          refine lv_imul hx hb dX12_orders_114 ?_
                          refine lv_topi (fun x57 ex57 => ?_)
                          have gx57 := jrg (rfl : x57.toInt = x57.toInt)
                          refine lv_iload hx hb dX12_orders_115 (lv_at hl 1 rfl) ?_
                          have g58 := jrg (rfl : x57.toInt = x57.toInt)
                          have g59 := jrg (rfl : x10.toInt = x10.toInt)
                          refine lv_iadd hx hb dX12_orders_117 ?_
                          refine lv_topi (fun x60 ex60 => ?_)
                          have gx60 := jrg (rfl : x60.toInt = x60.toInt)
                          have I61 : jI101 σ54 := jI101_fr ((congrFun (jnp 55 eσ54 (of_decide_eq_true rfl)) 4).trans (f18 4 (of_decide_eq_true rfl))) ((congrFun (jnp 55 eσ54 (of_decide_eq_true rfl)) 5).trans (f18 5 (of_decide_eq_true rfl))) ((jnp 56 eσ54 (of_decide_eq_true rfl)).trans (f17 56 (of_decide_eq_true rfl))) ((jnp 57 eσ54 (of_decide_eq_true rfl)).trans (f17 57 (of_decide_eq_true rfl))) ((jnp 58 eσ54 (of_decide_eq_true rfl)).trans (f17 58 (of_decide_eq_true rfl))) ((jnp 59 eσ54 (of_decide_eq_true rfl)).trans (f17 59 (of_decide_eq_true rfl))) hI101
                          have I62 : jI102 σ54 := jI102_fr ((congrFun (jnp 55 eσ54 (of_decide_eq_true rfl)) 6).trans (f18 6 (of_decide_eq_true rfl))) ((jnp 60 eσ54 (of_decide_eq_true rfl)).trans (f17 60 (of_decide_eq_true rfl))) ((jnp 61 eσ54 (of_decide_eq_true rfl)).trans (f17 61 (of_decide_eq_true rfl))) hI102
                          have I63 : jI103 σ54 := jI103_fr ((congrFun (jnp 55 eσ54 (of_decide_eq_true rfl)) 9).trans (f18 9 (of_decide_eq_true rfl))) hI103
                          have z64 : (σ54 55 10).toInt = (σ 55 10).toInt := (congrArg Int32.toInt (show σ54 55 10 = (σ 55 10) from ((congrFun (jnp 55 eσ54 (of_decide_eq_true rfl)) 10).trans m40)))
                          have z65 : (σ54 55 12).toInt = (σ 55 12).toInt := (congrArg Int32.toInt (show σ54 55 12 = (σ 55 12) from ((congrFun (jnp 55 eσ54 (of_decide_eq_true rfl)) 12).trans (f18 12 (of_decide_eq_true rfl)))))
                          have z66 : (σ54 55 13).toInt = (σ 55 13).toInt := (congrArg Int32.toInt (show σ54 55 13 = (σ 55 13) from ((congrFun (jnp 55 eσ54 (of_decide_eq_true rfl)) 13).trans (f18 13 (of_decide_eq_true rfl)))))
                          exact by
                           have w67 : ∀ k : Nat, k < 8 → 0 ≤ (σ54 62 k).toInt ∧ (σ54 62 k).toInt ≤ 3 := (by rw [eσ54]; exact jrr_up w25 (by omega) (by omega))
                           have w68 : ∀ k : Nat, k < 8 → 0 ≤ (σ54 67 k).toInt ∧ (σ54 67 k).toInt ≤ 3 := (jrr_fr (jnp 67 eσ54 (of_decide_eq_true rfl)) w26)
                           have I69 : jI104 σ54 := ⟨(by omega), (by omega), (by omega), w67, w68⟩
                           have I70 : jI105 σ54 := jI105_fr ((congrFun (jnp 55 eσ54 (of_decide_eq_true rfl)) 15).trans (f18 15 (of_decide_eq_true rfl))) ((jnp 65 eσ54 (of_decide_eq_true rfl)).trans (f17 65 (of_decide_eq_true rfl))) hI105
                           have I71 : jI106 σ54 := jI106_fr ((congrFun (jnp 55 eσ54 (of_decide_eq_true rfl)) 32).trans (f18 32 (of_decide_eq_true rfl))) ((jnp 70 eσ54 (of_decide_eq_true rfl)).trans (f17 70 (of_decide_eq_true rfl))) ((jnp 71 eσ54 (of_decide_eq_true rfl)).trans (f17 71 (of_decide_eq_true rfl))) ((jnp 72 eσ54 (of_decide_eq_true rfl)).trans (f17 72 (of_decide_eq_true rfl))) hI106
                           have I72 : jI119 σ54 := jI119_fr (jnp 68 eσ54 (of_decide_eq_true rfl)) p21
                           have I73 : jI111 σ54 := jI111_fr ((jnp 79 eσ54 (of_decide_eq_true rfl)).trans (f17 79 (of_decide_eq_true rfl))) hI111
                           have p74 : jKept σ54 := jKept.fr (jnp 75 eσ54 (of_decide_eq_true rfl)) (jnp 76 eσ54 (of_decide_eq_true rfl)) (jnp 77 eσ54 (of_decide_eq_true rfl)) p19
                           refine jcallVv (As := [.int 2, .int x56, .int x60]) (rest := []) ⟨hx, hb, hml, hown, hts⟩ hK hP hA hS hZ (c_X12_orders_2 l D cI cL ad zz hJ σ54 τ x56 (x56.toInt) rfl x60 (x60.toInt) rfl I61 I62 I63 I69 I70 I71 I72 I73 p74 (by omega) (by omega) (by omega)) cw_RX12_355 (jc_55 cI cL ad σ54 τ) rfl ⟨Nat.le_of_ble_eq_true rfl, Nat.le_of_ble_eq_true rfl⟩ rfl rfl rfl hl.1 rfl (Nat.le_of_ble_eq_true rfl) dX12_orders_118 ⟨Nat.zero_le _, Nat.zero_le _⟩ (fun σ75 τ75 H locs h75 hP hS => ?_)
                           exact by
                            obtain ⟨rfl, f77, f78, I79, I80, p81, h75⟩ := h75
                            obtain ⟨i83, i84, i85, w86, w87⟩ : (1 ≤ (σ75 55 10).toInt ∧ (σ75 55 10).toInt ≤ 8) ∧ (1 ≤ (σ75 55 12).toInt ∧ (σ75 55 12).toInt ≤ 12) ∧ (0 ≤ (σ75 55 13).toInt ∧ (σ75 55 13).toInt ≤ 999) ∧ (∀ k : Nat, k < 8 → 0 ≤ (σ75 62 k).toInt ∧ (σ75 62 k).toInt ≤ 3) ∧ (∀ k : Nat, k < 8 → 0 ≤ (σ75 67 k).toInt ∧ (σ75 67 k).toInt ≤ 3) := id I79
                            have z88 : (σ75 55 10).toInt = (σ 55 10).toInt := (congrArg Int32.toInt (show σ75 55 10 = (σ 55 10) from ((f78 10 (of_decide_eq_true rfl)).trans ((congrFun (jnp 55 eσ54 (of_decide_eq_true rfl)) 10).trans m40))))
                            have z89 : (σ75 55 12).toInt = (σ 55 12).toInt := (congrArg Int32.toInt (show σ75 55 12 = (σ 55 12) from ((f78 12 (of_decide_eq_true rfl)).trans ((congrFun (jnp 55 eσ54 (of_decide_eq_true rfl)) 12).trans (f18 12 (of_decide_eq_true rfl))))))
                            have z90 : (σ75 55 13).toInt = (σ 55 13).toInt := (congrArg Int32.toInt (show σ75 55 13 = (σ 55 13) from ((f78 13 (of_decide_eq_true rfl)).trans ((congrFun (jnp 55 eσ54 (of_decide_eq_true rfl)) 13).trans (f18 13 (of_decide_eq_true rfl))))))
                            obtain ⟨x91, ex91⟩ : ∃ y : Int32, y = x10 + 1 := ⟨_, rfl⟩
                            have tx91 : x91.toInt = x10.toInt + 1 := (jadd ex91 rfl jz_1 (by omega) (by omega)).trans (by omega)
                            refine lv_iinc (v := x91) (lv' := [(4, .int x91), (5, .int x33), (0, .ref (ad 55)), (1, .int 1), (2, .int a2), (3, .int a3)]) hx hb dX12_orders_121 hl (k := 1) rfl (by rw [ex91]; rfl) (of_decide_eq_true rfl) rfl (fun ls hl => ?_)
                            refine lv_goto (tgt := 38) hx hb dX12_orders_124 (of_decide_eq_true rfl) ?_
                            exact by exact ihlp8 x91 σ75 _ _ ls (by have h90 := tx91; omega) (by have h90 := tx91; omega) (by have h90 := tx91; omega) (fun i hi => ((f77 i hi).trans ((jnp i eσ54 (imp_276 i hi)).trans (f17 i hi)))) (fun i hi => ((f78 i hi).trans ((congrFun (jnp 55 eσ54 (of_decide_eq_true rfl)) i).trans (f18 i hi))))  p81 I79 I80 hP hS (lv_sub hl [0, 2, 3, 4, 5] rfl)
                      · exact by
                         have kc52 := jne c52 rfl rfl
                         obtain ⟨x92, ex92⟩ : ∃ y : Int32, y = x33 + 1 := ⟨_, rfl⟩
                         have tx92 : x92.toInt = x33.toInt + 1 := (jadd ex92 rfl jz_1 (by omega) (by omega)).trans (by omega)
                         refine lv_iinc (v := x92) (lv' := [(5, .int x92), (4, .int x10), (0, .ref (ad 55)), (1, .int 1), (2, .int a2), (3, .int a3)]) hx hb dX12_orders_78 hl (k := 0) rfl (by rw [ex92]; rfl) (of_decide_eq_true rfl) rfl (fun ls hl => ?_)
                         refine lv_goto (tgt := 47) hx hb dX12_orders_81 (of_decide_eq_true rfl) ?_
                         exact by exact ihlp31 x92 _ _ ls (by have h90 := tx92; omega) (by have h90 := tx92; omega) (by have h90 := tx92; omega) (by have h90 := tx92; omega)    hP hS (lv_sub hl [0, 1, 2, 3, 4, 5] rfl)
           exact by exact lp31 1000000 0 _ _ ls (by have h90 := jz_0; omega) (by have h90 := jz_0; omega) (by have h90 := jz_0; omega) (by have h90 := jz_0; omega)   hP hS hl
    exact by exact lp8 1000000 0 σ _ _ ls (by have h90 := jz_0; omega) (by have h90 := jz_0; omega) (by have h90 := jz_0; omega) (fun _ _ => rfl) (fun _ _ => rfl)  hs_jKept hI104 hI119 hP hS hl
  · have kc7 := jeq c7 jz_1 rfl
    exact by
     refine lv_aload_n hx hb dX12_orders_8 rfl (lv_at hl 0 rfl) ?_
     refine jcallV (As := []) (rest := []) ⟨hx, hb, hml, hown, hts⟩ hK hP hA hS hZ (c_X12_bestNow l D cI cL ad zz hJ σ τ hI101 hI102 hI103 hI104 hI105 hI106 hI119 hs_jKept (by omega)) cw_RX12_346 (jc_55 cI cL ad σ τ) rfl ⟨Nat.le_of_ble_eq_true rfl, Nat.le_of_ble_eq_true rfl⟩ rfl rfl rfl hl.1 rfl (Nat.le_of_ble_eq_true rfl) dX12_orders_9 ⟨Nat.zero_le _, Nat.zero_le _⟩ (fun r94 σ93 τ93 H locs h93 hP hS => ?_)
     obtain ⟨rfl, f95, f96, I97, p98, h93⟩ := h93
     refine lv_istore (lv' := [(4, .int r94), (0, .ref (ad 55)), (1, .int 1), (2, .int a2), (3, .int a3)]) hx hb dX12_orders_12 hl (of_decide_eq_true rfl) rfl (fun ls hl => ?_)
     refine lv_iload hx hb dX12_orders_14 (lv_at hl 0 rfl) ?_
     refine lv_aload_n hx hb dX12_orders_16 rfl (lv_at hl 1 rfl) ?_
     refine va_get (D := D) hx hb hts inlX12 hown hK hP 55 (jc_55 cI cL ad σ93 τ) rfl 46 (of_decide_eq_true rfl) (hts _ kw_40_17) (fun _ h9 => h9) rfl dX12_orders_17 ?_
     have m100 : σ93 55 46 = (σ 55 46) := (f96 46 (of_decide_eq_true rfl))
     refine jtopr m100 ?_
     exact by
      refine lv_icmp_le (tgt := 34) hx hb dX12_orders_20 (of_decide_eq_true rfl) (fun c101 => ?_) (fun c101 => ?_)
      · have kc101 := jle c101 rfl rfl
        have I102 : jI104 σ93 := jI104_fr (f96 10 (of_decide_eq_true rfl)) (f96 12 (of_decide_eq_true rfl)) (f96 13 (of_decide_eq_true rfl)) (f95 62 (of_decide_eq_true rfl)) (f95 67 (of_decide_eq_true rfl)) hI104
        exact hret σ93 τ _ _ _ _ ⟨rfl, (fun i hi => (f95 i (imp_271 i hi))), (fun i hi => (f96 i (imp_272 i hi))), I102, I97, p98, trivial⟩ hP hS dX12_orders_34
      · have kc101 := jnle c101 rfl rfl
        refine lv_aload_n hx hb dX12_orders_23 rfl (lv_at hl 1 rfl) ?_
        refine lv_iload hx hb dX12_orders_24 (lv_at hl 0 rfl) ?_
        refine jput (ty := .int) hx hb hts inlX12 tyX12 tyX12_ok nmX12 hown hK hP hJ hA hS (jc_55 cI cL ad σ93 τ) rfl (k := 46) (of_decide_eq_true rfl) (Nat.le_of_ble_eq_true rfl) (jp_55_46 cI cL ad σ93 τ r94) (hts _ kw_40_17) (fun _ h9 => h9) rfl (by decide +kernel) rfl rfl dX12_orders_26 (fun σ103 H locs eσ103 hP hS => ?_)
        refine lv_aload_n hx hb dX12_orders_29 rfl (lv_at hl 1 rfl) ?_
        refine lv_iload_n hx hb dX12_orders_30 rfl (lv_at hl 4 rfl) ?_
        refine jput (ty := .int) hx hb hts inlX12 tyX12 tyX12_ok nmX12 hown hK hP hJ hA hS (jc_55 cI cL ad σ103 τ) rfl (k := 45) (of_decide_eq_true rfl) (Nat.le_of_ble_eq_true rfl) (jp_55_45 cI cL ad σ103 τ a3) (hts _ kw_40_18) (fun _ h9 => h9) rfl (by decide +kernel) rfl rfl dX12_orders_31 (fun σ104 H locs eσ104 hP hS => ?_)
        have I105 : jI104 σ104 := jI104_fr ((jkp 10 eσ104 (of_decide_eq_true rfl)).trans ((jkp 10 eσ103 (of_decide_eq_true rfl)).trans (f96 10 (of_decide_eq_true rfl)))) ((jkp 12 eσ104 (of_decide_eq_true rfl)).trans ((jkp 12 eσ103 (of_decide_eq_true rfl)).trans (f96 12 (of_decide_eq_true rfl)))) ((jkp 13 eσ104 (of_decide_eq_true rfl)).trans ((jkp 13 eσ103 (of_decide_eq_true rfl)).trans (f96 13 (of_decide_eq_true rfl)))) ((jnp 62 eσ104 (of_decide_eq_true rfl)).trans ((jnp 62 eσ103 (of_decide_eq_true rfl)).trans (f95 62 (of_decide_eq_true rfl)))) ((jnp 67 eσ104 (of_decide_eq_true rfl)).trans ((jnp 67 eσ103 (of_decide_eq_true rfl)).trans (f95 67 (of_decide_eq_true rfl)))) hI104
        have I106 : jI119 σ104 := jI119_fr ((jnp 68 eσ104 (of_decide_eq_true rfl)).trans (jnp 68 eσ103 (of_decide_eq_true rfl))) I97
        have p107 : jKept σ104 := jKept.fr ((jnp 75 eσ104 (of_decide_eq_true rfl)).trans (jnp 75 eσ103 (of_decide_eq_true rfl))) ((jnp 76 eσ104 (of_decide_eq_true rfl)).trans (jnp 76 eσ103 (of_decide_eq_true rfl))) ((jnp 77 eσ104 (of_decide_eq_true rfl)).trans (jnp 77 eσ103 (of_decide_eq_true rfl))) p98
        exact hret σ104 τ _ _ _ _ ⟨rfl, (fun i hi => ((jnp i eσ104 (imp_273 i hi)).trans ((jnp i eσ103 (imp_273 i hi)).trans (f95 i (imp_271 i hi))))), (fun i hi => ((jkp i eσ104 (imp_274 i hi)).trans ((jkp i eσ103 (imp_275 i hi)).trans (f96 i (imp_272 i hi))))), I105, I106, p107, trivial⟩ hP hS dX12_orders_34
set_option maxHeartbeats 4000000 in
set_option maxRecDepth 100000 in
theorem c_X12_orders_0 (l : Launch) (D : va_G) (cI cL : ClassId) (ad zz : Nat → Nat) (hJ : jD ad) (σ : Nat → Nat → Int32) (τ : Nat → Nat → Int64) (a2 : Int32) (A2 : Int) (t2 : a2.toInt = A2) (a3 : Int32) (A3 : Int) (t3 : a3.toInt = A3) (hI101 : jI101 σ) (hI102 : jI102 σ) (hI103 : jI103 σ) (hI104 : jI104 σ) (hI105 : jI105 σ) (hI106 : jI106 σ) (hI119 : jI119 σ) (hI111 : jI111 σ) (hs_jKept : jKept σ) (hp0 : (σ 55 10).toInt ≤ 5) (hp1 : 0 ≤ (σ 55 10).toInt) (hp2 : (σ 55 12).toInt ≤ 8) : jMv l yX12_orders cX12_orders 6 none ({ frames := 109, cells := 0, slots := 0, locals := 5206 }) D cI cL ad zz [.ref (ad 55), .int 0, .int a2, .int a3] σ τ (fun σ' τ' => τ = τ' ∧ (∀ i : Nat, (i < 55 ∨ 55 < i) ∧ (i < 62 ∨ 62 < i) ∧ (i < 66 ∨ 66 < i) ∧ (i < 68 ∨ 69 < i) ∧ (i < 74 ∨ 78 < i) → σ' i = σ i) ∧ (∀ k : Nat, (k < 18 ∨ 18 < k) ∧ (k < 19 ∨ 19 < k) ∧ (k < 20 ∨ 20 < k) ∧ (k < 21 ∨ 21 < k) ∧ (k < 22 ∨ 22 < k) ∧ (k < 25 ∨ 25 < k) ∧ (k < 26 ∨ 26 < k) ∧ (k < 27 ∨ 27 < k) ∧ (k < 37 ∨ 37 < k) ∧ (k < 42 ∨ 42 < k) ∧ (k < 45 ∨ 45 < k) ∧ (k < 46 ∨ 46 < k) → σ' 55 k = σ 55 k) ∧ (jI104 σ') ∧ (jI119 σ') ∧ (jKept σ') ∧ True) := by
  refine jMv.of hJ (by decide +kernel) rfl (Nat.le_of_ble_eq_true rfl) ?_
  intro p e s m args below meth c Q ls hC hret hl hP
  obtain ⟨hx, hb, hr, hml, hown, hts, hK, -, hlocks, hZ⟩ := hC
  have hown : s.vm.findClass RX12 = some m.cls := hown
  have hS : va_S (jA ad) s.heap s.heap [] := va_S.rf
  have hA : ∀ q, jA ad q → jA ad q := fun _ h => h
  have hl : lv_has ls 6 [(0, .ref (ad 55)), (1, .int 0), (2, .int a2), (3, .int a3)] := hl
  have g2 := jrg t2
  have g3 := jrg t3
  obtain ⟨i1, i2, i3, w4, w5⟩ : (1 ≤ (σ 55 10).toInt ∧ (σ 55 10).toInt ≤ 8) ∧ (1 ≤ (σ 55 12).toInt ∧ (σ 55 12).toInt ≤ 12) ∧ (0 ≤ (σ 55 13).toInt ∧ (σ 55 13).toInt ≤ 999) ∧ (∀ k : Nat, k < 8 → 0 ≤ (σ 62 k).toInt ∧ (σ 62 k).toInt ≤ 3) ∧ (∀ k : Nat, k < 8 → 0 ≤ (σ 67 k).toInt ∧ (σ 67 k).toInt ≤ 3) := id hI104
  have w6 : ∀ k : Nat, k < 5 → 0 ≤ (σ 79 k).toInt ∧ (σ 79 k).toInt ≤ 3 := hI111
  refine lv_iload_n hx hb dX12_orders_0 rfl (lv_at hl 1 rfl) ?_
  refine lv_aload_n hx hb dX12_orders_1 rfl (lv_at hl 0 rfl) ?_
  refine va_get (D := D) hx hb hts inlX12 hown hK hP 55 (jc_55 cI cL ad σ τ) rfl 10 (of_decide_eq_true rfl) (hts _ kw_8_15) (fun _ h9 => h9) rfl dX12_orders_2 ?_
  exact by
   refine lv_icmp_ne (tgt := 35) hx hb dX12_orders_5 (of_decide_eq_true rfl) (fun c7 => ?_) (fun c => absurd (jeq c jz_0 rfl) (by omega))
   have kc7 := jne c7 jz_0 rfl
   refine lv_iconst (v := 0) hx hb dX12_orders_35 (of_decide_eq_true rfl) ?_
   refine lv_istore (lv' := [(4, .int 0), (0, .ref (ad 55)), (1, .int 0), (2, .int a2), (3, .int a3)]) hx hb dX12_orders_36 hl (of_decide_eq_true rfl) rfl (fun ls hl => ?_)
   have lp8 : ∀ (n9 : Nat) (x10 : Int32) (σ12 : Nat → Nat → Int32) (H : Heap) (locs : List Loc) (ls : Array Slot), (-x10.toInt + 4 : Int) < n9 → 0 ≤ x10.toInt → x10.toInt ≤ 4 → (∀ i : Nat, (i < 55 ∨ 55 < i) ∧ (i < 62 ∨ 62 < i) ∧ (i < 66 ∨ 66 < i) ∧ (i < 68 ∨ 69 < i) ∧ (i < 74 ∨ 78 < i) → σ12 i = σ i) → (∀ k : Nat, (k < 18 ∨ 18 < k) ∧ (k < 19 ∨ 19 < k) ∧ (k < 20 ∨ 20 < k) ∧ (k < 21 ∨ 21 < k) ∧ (k < 22 ∨ 22 < k) ∧ (k < 25 ∨ 25 < k) ∧ (k < 26 ∨ 26 < k) ∧ (k < 27 ∨ 27 < k) ∧ (k < 37 ∨ 37 < k) ∧ (k < 42 ∨ 42 < k) ∧ (k < 45 ∨ 45 < k) ∧ (k < 46 ∨ 46 < k) → σ12 55 k = σ 55 k) → jKept σ12 → jI104 σ12 → jI119 σ12 → jH D cI cL ad σ12 τ H → va_S (jA ad) s.heap H locs → lv_has ls 6 [(4, .int x10), (0, .ref (ad 55)), (1, .int 0), (2, .int a2), (3, .int a3)] → W p l e ({ frames := 109, cells := 0, slots := 0, locals := 5206 }) s m args below meth c H locs 0 0 Q (F0 m 38 ls []) := by
     intro n9
     induction n9 with
     | zero => intro x10 σ12 H locs ls h14 h15 h16; exact absurd h14 (by omega)
     | succ n9 ihlp8 =>
       intro x10 σ12 H locs ls h14 h15 h16 f17 f18 p19 p20 p21 hP hS hl
       exact by
        obtain ⟨i22, i23, i24, w25, w26⟩ : (1 ≤ (σ12 55 10).toInt ∧ (σ12 55 10).toInt ≤ 8) ∧ (1 ≤ (σ12 55 12).toInt ∧ (σ12 55 12).toInt ≤ 12) ∧ (0 ≤ (σ12 55 13).toInt ∧ (σ12 55 13).toInt ≤ 999) ∧ (∀ k : Nat, k < 8 → 0 ≤ (σ12 62 k).toInt ∧ (σ12 62 k).toInt ≤ 3) ∧ (∀ k : Nat, k < 8 → 0 ≤ (σ12 67 k).toInt ∧ (σ12 67 k).toInt ≤ 3) := id p20
        have z27 : (σ12 55 10).toInt = (σ 55 10).toInt := (congrArg Int32.toInt (show σ12 55 10 = (σ 55 10) from (f18 10 (of_decide_eq_true rfl))))
        have z28 : (σ12 55 12).toInt = (σ 55 12).toInt := (congrArg Int32.toInt (show σ12 55 12 = (σ 55 12) from (f18 12 (of_decide_eq_true rfl))))
        have z29 : (σ12 55 13).toInt = (σ 55 13).toInt := (congrArg Int32.toInt (show σ12 55 13 = (σ 55 13) from (f18 13 (of_decide_eq_true rfl))))
        refine lv_iload hx hb dX12_orders_38 (lv_at hl 0 rfl) ?_
        refine lv_iconst (v := 4) hx hb dX12_orders_40 (of_decide_eq_true rfl) ?_
        refine lv_icmp_ge (tgt := 127) hx hb dX12_orders_41 (of_decide_eq_true rfl) (fun c30 => ?_) (fun c30 => ?_)
        · have kc30 := jle c30 jz_4 rfl
          exact hret σ12 τ _ _ _ _ ⟨rfl, (fun i hi => (f17 i hi)), (fun i hi => (f18 i hi)), p20, p21, p19, trivial⟩ hP hS dX12_orders_127
        · have kc30 := jnle c30 jz_4 rfl
          refine lv_iconst (v := 0) hx hb dX12_orders_44 (of_decide_eq_true rfl) ?_
          refine lv_istore (lv' := [(5, .int 0), (4, .int x10), (0, .ref (ad 55)), (1, .int 0), (2, .int a2), (3, .int a3)]) hx hb dX12_orders_45 hl (of_decide_eq_true rfl) rfl (fun ls hl => ?_)
          have lp31 : ∀ (n32 : Nat) (x33 : Int32) (H : Heap) (locs : List Loc) (ls : Array Slot), ((σ12 55 10).toInt - x33.toInt : Int) < n32 → 0 ≤ x33.toInt → x33.toInt ≤ 5 → x33.toInt ≤ (σ12 55 10).toInt → jH D cI cL ad σ12 τ H → va_S (jA ad) s.heap H locs → lv_has ls 6 [(5, .int x33), (4, .int x10), (0, .ref (ad 55)), (1, .int 0), (2, .int a2), (3, .int a3)] → W p l e ({ frames := 109, cells := 0, slots := 0, locals := 5206 }) s m args below meth c H locs 0 0 Q (F0 m 47 ls []) := by
            intro n32
            induction n32 with
            | zero => intro x33 H locs ls h35 h36 h37 h38; exact absurd h35 (by omega)
            | succ n32 ihlp31 =>
              intro x33 H locs ls h35 h36 h37 h38 hP hS hl
              exact by
               refine lv_iload hx hb dX12_orders_47 (lv_at hl 0 rfl) ?_
               refine lv_aload_n hx hb dX12_orders_49 rfl (lv_at hl 2 rfl) ?_
               refine va_get (D := D) hx hb hts inlX12 hown hK hP 55 (jc_55 cI cL ad σ12 τ) rfl 10 (of_decide_eq_true rfl) (hts _ kw_8_15) (fun _ h9 => h9) rfl dX12_orders_50 ?_
               have m40 : σ12 55 10 = (σ 55 10) := (f18 10 (of_decide_eq_true rfl))
               refine jtopr m40 ?_
               refine lv_icmp_ge (tgt := 84) hx hb dX12_orders_53 (of_decide_eq_true rfl) (fun c41 => ?_) (fun c41 => ?_)
               · have kc41 := jle c41 rfl rfl
                 refine lv_iload hx hb dX12_orders_84 (lv_at hl 0 rfl) ?_
                 refine lv_aload_n hx hb dX12_orders_86 rfl (lv_at hl 2 rfl) ?_
                 refine va_get (D := D) hx hb hts inlX12 hown hK hP 55 (jc_55 cI cL ad σ12 τ) rfl 10 (of_decide_eq_true rfl) (hts _ kw_8_15) (fun _ h9 => h9) rfl dX12_orders_87 ?_
                 refine jtopr m40 ?_
                 exact by
                  refine lv_icmp_ge (tgt := 121) hx hb dX12_orders_90 (of_decide_eq_true rfl) (fun c42 => ?_) (fun c => absurd (jnle c rfl rfl) (by omega))
                  have kc42 := jle c42 rfl rfl
                  obtain ⟨x43, ex43⟩ : ∃ y : Int32, y = x10 + 1 := ⟨_, rfl⟩
                  have tx43 : x43.toInt = x10.toInt + 1 := (jadd ex43 rfl jz_1 (by omega) (by omega)).trans (by omega)
                  refine lv_iinc (v := x43) (lv' := [(4, .int x43), (5, .int x33), (0, .ref (ad 55)), (1, .int 0), (2, .int a2), (3, .int a3)]) hx hb dX12_orders_121 hl (k := 1) rfl (by rw [ex43]; rfl) (of_decide_eq_true rfl) rfl (fun ls hl => ?_)
                  refine lv_goto (tgt := 38) hx hb dX12_orders_124 (of_decide_eq_true rfl) ?_
                  exact by exact ihlp8 x43 σ12 _ _ ls (by have h90 := tx43; omega) (by have h90 := tx43; omega) (by have h90 := tx43; omega) (fun i hi => (f17 i hi)) (fun i hi => (f18 i hi))  p19 p20 p21 hP hS (lv_sub hl [0, 2, 3, 4, 5] rfl)
               · have kc41 := jnle c41 rfl rfl
                 refine lv_iload_n hx hb dX12_orders_56 rfl (lv_at hl 4 rfl) ?_
                 exact by
                  refine lv_iload hx hb dX12_orders_57 (lv_at hl 0 rfl) ?_
                  refine lv_ishr hx hb dX12_orders_59 ?_
                  refine lv_topi (fun x44 ex44 => ?_)
                  have gx44 := jrg (rfl : x44.toInt = x44.toInt)
                  refine lv_iconst (v := 1) hx hb dX12_orders_60 (of_decide_eq_true rfl) ?_
                  refine lv_iand hx hb dX12_orders_61 ?_
                  refine lv_topi (fun x45 ex45 => ?_)
                  have gx45 := jrg (rfl : x45.toInt = x45.toInt)
                  have g46 : 0 ≤ x45.toInt ∧ x45.toInt ≤ 1 := jmask ex45 1 (of_decide_eq_true rfl) (of_decide_eq_true rfl)
                  refine lv_iconst (v := 1) hx hb dX12_orders_62 (of_decide_eq_true rfl) ?_
                  refine lv_icmp_eq (tgt := 78) hx hb dX12_orders_63 (of_decide_eq_true rfl) (fun c47 => ?_) (fun c47 => ?_)
                  · have kc47 := jeq c47 rfl jz_1
                    obtain ⟨x48, ex48⟩ : ∃ y : Int32, y = x33 + 1 := ⟨_, rfl⟩
                    exact by
                     have tx48 : x48.toInt = x33.toInt + 1 := (jadd ex48 rfl jz_1 (by omega) (by omega)).trans (by omega)
                     refine lv_iinc (v := x48) (lv' := [(5, .int x48), (4, .int x10), (0, .ref (ad 55)), (1, .int 0), (2, .int a2), (3, .int a3)]) hx hb dX12_orders_78 hl (k := 0) rfl (by rw [ex48]; rfl) (of_decide_eq_true rfl) rfl (fun ls hl => ?_)
                     refine lv_goto (tgt := 47) hx hb dX12_orders_81 (of_decide_eq_true rfl) ?_
                     exact by exact ihlp31 x48 _ _ ls (by have h90 := tx48; omega) (by have h90 := tx48; omega) (by have h90 := tx48; omega) (by have h90 := tx48; omega)    hP hS (lv_sub hl [0, 1, 2, 3, 4, 5] rfl)
                  · have kc47 := jne c47 rfl jz_1
                    refine lv_aload_n hx hb dX12_orders_66 rfl (lv_at hl 2 rfl) ?_
                    refine va_get (D := D) hx hb hts inlX12 hown hK hP 55 (jc_55 cI cL ad σ12 τ) rfl 44 (of_decide_eq_true rfl) (hts _ kw_8_4) (fun _ h9 => h9) rfl dX12_orders_67 ?_
                    refine lv_iload hx hb dX12_orders_70 (lv_at hl 0 rfl) ?_
                    refine jald hx hb hK hP (jc_79 cI cL ad σ12 τ) (jin rfl (by omega) (by omega)) dX12_orders_72 ?_
                    exact by
                     have w49 : ∀ k : Nat, k < 5 → 0 ≤ (σ12 79 k).toInt ∧ (σ12 79 k).toInt ≤ 3 := (jrr_fr (f17 79 (of_decide_eq_true rfl)) w6)
                     have g50 := w49 _ (jnat (x := x33) rfl (n := 5) (by omega) (of_decide_eq_true rfl))
                     refine lv_topi (fun x51 ex51 => ?_)
                     rw [← ex51] at g50
                     refine lv_iload hx hb dX12_orders_73 (lv_at hl 1 rfl) ?_
                     refine lv_icmp_eq (tgt := 84) hx hb dX12_orders_75 (of_decide_eq_true rfl) (fun c52 => ?_) (fun c52 => ?_)
                     · have kc52 := jeq c52 rfl rfl
                       refine lv_iload hx hb dX12_orders_84 (lv_at hl 0 rfl) ?_
                       refine lv_aload_n hx hb dX12_orders_86 rfl (lv_at hl 2 rfl) ?_
                       exact by
                        refine va_get (D := D) hx hb hts inlX12 hown hK hP 55 (jc_55 cI cL ad σ12 τ) rfl 10 (of_decide_eq_true rfl) (hts _ kw_8_15) (fun _ h9 => h9) rfl dX12_orders_87 ?_
                        refine jtopr m40 ?_
                        refine lv_icmp_ge (tgt := 121) hx hb dX12_orders_90 (of_decide_eq_true rfl) (fun c => absurd (jle c rfl rfl) (by omega)) (fun c53 => ?_)
                        have kc53 := jnle c53 rfl rfl
                        refine lv_aload_n hx hb dX12_orders_93 rfl (lv_at hl 2 rfl) ?_
                        refine va_get (D := D) hx hb hts inlX12 hown hK hP 55 (jc_55 cI cL ad σ12 τ) rfl 11 (of_decide_eq_true rfl) (hts _ kw_7_8) (fun _ h9 => h9) rfl dX12_orders_94 ?_
                        refine lv_iload_n hx hb dX12_orders_97 rfl (lv_at hl 3 rfl) ?_
                        refine lv_iload hx hb dX12_orders_98 (lv_at hl 1 rfl) ?_
                        refine jast hx hb hK hP hJ hA hS (jc_62 cI cL ad σ12 τ) (ja_62 cI cL ad σ12 τ _ _) (jin jz_0 (by omega) (by omega)) dX12_orders_100 (fun σ54 H locs eσ54 hP hS => ?_)
                        exact by
                         have eσ54 : σ54 = jup σ12 62 0 x10 := eσ54
                         refine lv_aload_n hx hb dX12_orders_101 rfl (lv_at hl 2 rfl) ?_
                         refine lv_iload_n hx hb dX12_orders_102 rfl (lv_at hl 3 rfl) ?_
                         refine lv_iconst (v := 1) hx hb dX12_orders_103 (of_decide_eq_true rfl) ?_
                         refine lv_iadd hx hb dX12_orders_104 ?_
                         refine jtopr (y := 1) (of_decide_eq_true rfl) ?_
                         refine lv_iload_n hx hb dX12_orders_105 rfl (lv_at hl 4 rfl) ?_
                         refine lv_iconst (v := 1) hx hb dX12_orders_106 (of_decide_eq_true rfl) ?_
                         refine lv_iload hx hb dX12_orders_107 (lv_at hl 0 rfl) ?_
                         refine lv_ishl hx hb dX12_orders_109 ?_
                         refine lv_topi (fun x55 ex55 => ?_)
                         have gx55 := jrg (rfl : x55.toInt = x55.toInt)
                         refine lv_ior hx hb dX12_orders_110 ?_
                         refine lv_topi (fun x56 ex56 => ?_)
                         have gx56 := jrg (rfl : x56.toInt = x56.toInt)
                         refine lv_bipush (v := 10) hx hb dX12_orders_111 (of_decide_eq_true rfl) ?_
                         refine lv_iload_n hx hb dX12_orders_113 rfl (lv_at hl 5 rfl) ?_
                         refine lv_imul hx hb dX12_orders_114 ?_
                         refine lv_topi (fun x57 ex57 => ?_)
                         have gx57 := jrg (rfl : x57.toInt = x57.toInt)
                         refine lv_iload hx hb dX12_orders_115 (lv_at hl 1 rfl) ?_
                         have g58 := jrg (rfl : x57.toInt = x57.toInt)
                         have g59 := jrg (rfl : x10.toInt = x10.toInt)
                         refine lv_iadd hx hb dX12_orders_117 ?_
                         refine lv_topi (fun x60 ex60 => ?_)
                         have gx60 := jrg (rfl : x60.toInt = x60.toInt)
                         have I61 : jI101 σ54 := jI101_fr ((congrFun (jnp 55 eσ54 (of_decide_eq_true rfl)) 4).trans (f18 4 (of_decide_eq_true rfl))) ((congrFun (jnp 55 eσ54 (of_decide_eq_true rfl)) 5).trans (f18 5 (of_decide_eq_true rfl))) ((jnp 56 eσ54 (of_decide_eq_true rfl)).trans (f17 56 (of_decide_eq_true rfl))) ((jnp 57 eσ54 (of_decide_eq_true rfl)).trans (f17 57 (of_decide_eq_true rfl))) ((jnp 58 eσ54 (of_decide_eq_true rfl)).trans (f17 58 (of_decide_eq_true rfl))) ((jnp 59 eσ54 (of_decide_eq_true rfl)).trans (f17 59 (of_decide_eq_true rfl))) hI101
                         have I62 : jI102 σ54 := jI102_fr ((congrFun (jnp 55 eσ54 (of_decide_eq_true rfl)) 6).trans (f18 6 (of_decide_eq_true rfl))) ((jnp 60 eσ54 (of_decide_eq_true rfl)).trans (f17 60 (of_decide_eq_true rfl))) ((jnp 61 eσ54 (of_decide_eq_true rfl)).trans (f17 61 (of_decide_eq_true rfl))) hI102
                         have I63 : jI103 σ54 := jI103_fr ((congrFun (jnp 55 eσ54 (of_decide_eq_true rfl)) 9).trans (f18 9 (of_decide_eq_true rfl))) hI103
                         have z64 : (σ54 55 10).toInt = (σ 55 10).toInt := (congrArg Int32.toInt (show σ54 55 10 = (σ 55 10) from ((congrFun (jnp 55 eσ54 (of_decide_eq_true rfl)) 10).trans m40)))
                         have z65 : (σ54 55 12).toInt = (σ 55 12).toInt := (congrArg Int32.toInt (show σ54 55 12 = (σ 55 12) from ((congrFun (jnp 55 eσ54 (of_decide_eq_true rfl)) 12).trans (f18 12 (of_decide_eq_true rfl)))))
                         have z66 : (σ54 55 13).toInt = (σ 55 13).toInt := (congrArg Int32.toInt (show σ54 55 13 = (σ 55 13) from ((congrFun (jnp 55 eσ54 (of_decide_eq_true rfl)) 13).trans (f18 13 (of_decide_eq_true rfl)))))
                         exact by
                          have w67 : ∀ k : Nat, k < 8 → 0 ≤ (σ54 62 k).toInt ∧ (σ54 62 k).toInt ≤ 3 := (by rw [eσ54]; exact jrr_up w25 (by omega) (by omega))
                          have w68 : ∀ k : Nat, k < 8 → 0 ≤ (σ54 67 k).toInt ∧ (σ54 67 k).toInt ≤ 3 := (jrr_fr (jnp 67 eσ54 (of_decide_eq_true rfl)) w26)
                          have I69 : jI104 σ54 := ⟨(by omega), (by omega), (by omega), w67, w68⟩
                          have I70 : jI105 σ54 := jI105_fr ((congrFun (jnp 55 eσ54 (of_decide_eq_true rfl)) 15).trans (f18 15 (of_decide_eq_true rfl))) ((jnp 65 eσ54 (of_decide_eq_true rfl)).trans (f17 65 (of_decide_eq_true rfl))) hI105
                          have I71 : jI106 σ54 := jI106_fr ((congrFun (jnp 55 eσ54 (of_decide_eq_true rfl)) 32).trans (f18 32 (of_decide_eq_true rfl))) ((jnp 70 eσ54 (of_decide_eq_true rfl)).trans (f17 70 (of_decide_eq_true rfl))) ((jnp 71 eσ54 (of_decide_eq_true rfl)).trans (f17 71 (of_decide_eq_true rfl))) ((jnp 72 eσ54 (of_decide_eq_true rfl)).trans (f17 72 (of_decide_eq_true rfl))) hI106
                          have I72 : jI119 σ54 := jI119_fr (jnp 68 eσ54 (of_decide_eq_true rfl)) p21
                          have I73 : jI111 σ54 := jI111_fr ((jnp 79 eσ54 (of_decide_eq_true rfl)).trans (f17 79 (of_decide_eq_true rfl))) hI111
                          have p74 : jKept σ54 := jKept.fr (jnp 75 eσ54 (of_decide_eq_true rfl)) (jnp 76 eσ54 (of_decide_eq_true rfl)) (jnp 77 eσ54 (of_decide_eq_true rfl)) p19
                          refine jcallVv (As := [.int 1, .int x56, .int x60]) (rest := []) ⟨hx, hb, hml, hown, hts⟩ hK hP hA hS hZ (c_X12_orders_1 l D cI cL ad zz hJ σ54 τ x56 (x56.toInt) rfl x60 (x60.toInt) rfl I61 I62 I63 I69 I70 I71 I72 I73 p74 (by omega) (by omega) (by omega)) cw_RX12_355 (jc_55 cI cL ad σ54 τ) rfl ⟨Nat.le_of_ble_eq_true rfl, Nat.le_of_ble_eq_true rfl⟩ rfl rfl rfl hl.1 rfl (Nat.le_of_ble_eq_true rfl) dX12_orders_118 ⟨Nat.zero_le _, Nat.zero_le _⟩ (fun σ75 τ75 H locs h75 hP hS => ?_)
                          exact by
                           obtain ⟨rfl, f77, f78, I79, I80, p81, h75⟩ := h75
                           obtain ⟨i83, i84, i85, w86, w87⟩ : (1 ≤ (σ75 55 10).toInt ∧ (σ75 55 10).toInt ≤ 8) ∧ (1 ≤ (σ75 55 12).toInt ∧ (σ75 55 12).toInt ≤ 12) ∧ (0 ≤ (σ75 55 13).toInt ∧ (σ75 55 13).toInt ≤ 999) ∧ (∀ k : Nat, k < 8 → 0 ≤ (σ75 62 k).toInt ∧ (σ75 62 k).toInt ≤ 3) ∧ (∀ k : Nat, k < 8 → 0 ≤ (σ75 67 k).toInt ∧ (σ75 67 k).toInt ≤ 3) := id I79
                           have z88 : (σ75 55 10).toInt = (σ 55 10).toInt := (congrArg Int32.toInt (show σ75 55 10 = (σ 55 10) from ((f78 10 (of_decide_eq_true rfl)).trans ((congrFun (jnp 55 eσ54 (of_decide_eq_true rfl)) 10).trans m40))))
                           have z89 : (σ75 55 12).toInt = (σ 55 12).toInt := (congrArg Int32.toInt (show σ75 55 12 = (σ 55 12) from ((f78 12 (of_decide_eq_true rfl)).trans ((congrFun (jnp 55 eσ54 (of_decide_eq_true rfl)) 12).trans (f18 12 (of_decide_eq_true rfl))))))
                           have z90 : (σ75 55 13).toInt = (σ 55 13).toInt := (congrArg Int32.toInt (show σ75 55 13 = (σ 55 13) from ((f78 13 (of_decide_eq_true rfl)).trans ((congrFun (jnp 55 eσ54 (of_decide_eq_true rfl)) 13).trans (f18 13 (of_decide_eq_true rfl))))))
                           obtain ⟨x91, ex91⟩ : ∃ y : Int32, y = x10 + 1 := ⟨_, rfl⟩
                           have tx91 : x91.toInt = x10.toInt + 1 := (jadd ex91 rfl jz_1 (by omega) (by omega)).trans (by omega)
                           refine lv_iinc (v := x91) (lv' := [(4, .int x91), (5, .int x33), (0, .ref (ad 55)), (1, .int 0), (2, .int a2), (3, .int a3)]) hx hb dX12_orders_121 hl (k := 1) rfl (by rw [ex91]; rfl) (of_decide_eq_true rfl) rfl (fun ls hl => ?_)
                           refine lv_goto (tgt := 38) hx hb dX12_orders_124 (of_decide_eq_true rfl) ?_
                           exact by exact ihlp8 x91 σ75 _ _ ls (by have h90 := tx91; omega) (by have h90 := tx91; omega) (by have h90 := tx91; omega) (fun i hi => ((f77 i hi).trans ((jnp i eσ54 (imp_276 i hi)).trans (f17 i hi)))) (fun i hi => ((f78 i hi).trans ((congrFun (jnp 55 eσ54 (of_decide_eq_true rfl)) i).trans (f18 i hi))))  p81 I79 I80 hP hS (lv_sub hl [0, 2, 3, 4, 5] rfl)
                     · exact by
                        have kc52 := jne c52 rfl rfl
                        obtain ⟨x92, ex92⟩ : ∃ y : Int32, y = x33 + 1 := ⟨_, rfl⟩
                        have tx92 : x92.toInt = x33.toInt + 1 := (jadd ex92 rfl jz_1 (by omega) (by omega)).trans (by omega)
                        refine lv_iinc (v := x92) (lv' := [(5, .int x92), (4, .int x10), (0, .ref (ad 55)), (1, .int 0), (2, .int a2), (3, .int a3)]) hx hb dX12_orders_78 hl (k := 0) rfl (by rw [ex92]; rfl) (of_decide_eq_true rfl) rfl (fun ls hl => ?_)
                        refine lv_goto (tgt := 47) hx hb dX12_orders_81 (of_decide_eq_true rfl) ?_
                        exact by exact ihlp31 x92 _ _ ls (by have h90 := tx92; omega) (by have h90 := tx92; omega) (by have h90 := tx92; omega) (by have h90 := tx92; omega)    hP hS (lv_sub hl [0, 1, 2, 3, 4, 5] rfl)
          exact by exact lp31 1000000 0 _ _ ls (by have h90 := jz_0; omega) (by have h90 := jz_0; omega) (by have h90 := jz_0; omega) (by have h90 := jz_0; omega)   hP hS hl
   exact by exact lp8 1000000 0 σ _ _ ls (by have h90 := jz_0; omega) (by have h90 := jz_0; omega) (by have h90 := jz_0; omega) (fun _ _ => rfl) (fun _ _ => rfl)  hs_jKept hI104 hI119 hP hS hl
