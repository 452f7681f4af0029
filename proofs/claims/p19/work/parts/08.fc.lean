set_option maxHeartbeats 4000000 in
set_option maxRecDepth 100000 in
theorem c_X12_kept (l : Launch) (D : va_G) (cI cL : ClassId) (ad zz : Nat → Nat) (hJ : jD ad) (σ : Nat → Nat → Int32) (τ : Nat → Nat → Int64) (a1 : Int32) (A1 : Int) (t1 : a1.toInt = A1) (hI101 : jI101 σ) (hI102 : jI102 σ) (hI103 : jI103 σ) (hI104 : jI104 σ) (hI105 : jI105 σ) (hI106 : jI106 σ) (hI119 : jI119 σ) (hs_jKept : jKept σ) (hs_jTR : jTR σ) (hs_jqSt : jqSt σ) (hp0 : 0 ≤ (σ 55 42).toInt ∧ (σ 55 42).toInt ≤ 999999998) : jM l yX12_kept cX12_kept 4 (some .int) ({ frames := 103, cells := 0, slots := 0, locals := 5061 }) D cI cL ad zz [.ref (ad 55), .int a1] σ τ (fun r σ' τ' => τ = τ' ∧ (∀ i : Nat, (i < 55 ∨ 55 < i) ∧ (i < 66 ∨ 66 < i) ∧ (i < 68 ∨ 69 < i) ∧ (i < 74 ∨ 78 < i) → σ' i = σ i) ∧ (∀ k : Nat, (k < 18 ∨ 18 < k) ∧ (k < 19 ∨ 19 < k) ∧ (k < 20 ∨ 20 < k) ∧ (k < 21 ∨ 21 < k) ∧ (k < 22 ∨ 22 < k) ∧ (k < 25 ∨ 25 < k) ∧ (k < 26 ∨ 26 < k) ∧ (k < 27 ∨ 27 < k) ∧ (k < 37 ∨ 37 < k) ∧ (k < 42 ∨ 42 < k) → σ' 55 k = σ 55 k) ∧ (jI119 σ') ∧ (jKept σ') ∧ (jTR σ') ∧ (jqSt σ') ∧ (((σ 55 30).toInt = -1 → (σ 55 31).toInt = -1 → jOk (σ 56) → jqKe (r : Int32).toInt (0 ≤ A1 ∧ A1 < (σ 55 6).toInt) (σ 55 12).toInt (jKp (jrK σ (σ 55 9).toInt) (A1) (σ 55 12).toInt.toNat (-1) (jqLo (σ 56) (σ 55 6).toInt (-1) 0) (fun _ => 0) 0))) ∧ ((σ 55 42).toInt ≤ (σ' 55 42).toInt) ∧ ((σ' 55 42).toInt ≤ (σ 55 42).toInt + 1) ∧ True) := by
  refine jM.of hJ (by decide +kernel) (nt := .int) rfl (Nat.le_of_ble_eq_true rfl) ?_
  intro p e s m args below meth c Q ls hC hret hl hP
  obtain ⟨hx, hb, hr, hml, hown, hts, hK, -, hlocks, hZ⟩ := hC
  have hown : s.vm.findClass RX12 = some m.cls := hown
  have hS : va_S (jA ad) s.heap s.heap [] := va_S.rf
  have hA : ∀ q, jA ad q → jA ad q := fun _ h => h
  have hl : lv_has ls 4 [(0, .ref (ad 55)), (1, .int a1)] := hl
  have g1 := jrg t1
  obtain ⟨i1, w2, w3⟩ : (0 ≤ (σ 55 6).toInt ∧ (σ 55 6).toInt ≤ 4) ∧ (∀ k : Nat, k < 4 → 0 ≤ (σ 60 k).toInt ∧ (σ 60 k).toInt ≤ 50) ∧ (∀ k : Nat, k < 4 → 0 ≤ (σ 61 k).toInt ∧ (σ 61 k).toInt ≤ 20) := id hI102
  have i4 : 0 ≤ (σ 55 9).toInt ∧ (σ 55 9).toInt ≤ 3 := hI103
  obtain ⟨i5, i6, i7, w8, w9⟩ : (1 ≤ (σ 55 10).toInt ∧ (σ 55 10).toInt ≤ 8) ∧ (1 ≤ (σ 55 12).toInt ∧ (σ 55 12).toInt ≤ 12) ∧ (0 ≤ (σ 55 13).toInt ∧ (σ 55 13).toInt ≤ 999) ∧ (∀ k : Nat, k < 8 → 0 ≤ (σ 62 k).toInt ∧ (σ 62 k).toInt ≤ 3) ∧ (∀ k : Nat, k < 8 → 0 ≤ (σ 67 k).toInt ∧ (σ 67 k).toInt ≤ 3) := id hI104
  refine lv_aload_n hx hb dX12_kept_0 rfl (lv_at hl 0 rfl) ?_
  refine lv_iload_n hx hb dX12_kept_1 rfl (lv_at hl 1 rfl) ?_
  refine jcallV (As := [.int a1]) (rest := []) ⟨hx, hb, hml, hown, hts⟩ hK hP hA hS hZ (c_X12_isBowler l D cI cL ad zz hJ σ τ a1 (A1) t1 hI102) cw_RX12_146 (jc_55 cI cL ad σ τ) rfl ⟨Nat.le_of_ble_eq_true rfl, Nat.le_of_ble_eq_true rfl⟩ rfl rfl rfl hl.1 rfl (Nat.le_of_ble_eq_true rfl) dX12_kept_2 ⟨Nat.zero_le _, Nat.zero_le _⟩ (fun r11 σ10 τ10 H locs h10 hP hS => ?_)
  obtain ⟨⟨rfl, rfl⟩, h10⟩ := h10
  rcases h10 with h12 | h13
  · obtain ⟨q15, k14⟩ := h12
    have q15 := q15.symm
    subst q15
    refine lv_if_ne (tgt := 10) hx hb dX12_kept_5 (of_decide_eq_true rfl) (fun _ => ?_) (fun c => absurd c (of_decide_eq_true rfl))
    refine lv_aload_n hx hb dX12_kept_10 rfl (lv_at hl 0 rfl) ?_
    refine va_get (D := D) hx hb hts inlX12 hown hK hP 55 (jc_55 cI cL ad σ τ) rfl 12 (of_decide_eq_true rfl) (hts _ kw_8_16) (fun _ h9 => h9) rfl dX12_kept_11 ?_
    refine lv_bipush (v := 8) hx hb dX12_kept_14 (of_decide_eq_true rfl) ?_
    refine lv_icmp_le (tgt := 22) hx hb dX12_kept_16 (of_decide_eq_true rfl) (fun c16 => ?_) (fun c16 => ?_)
    · have kc16 := jle c16 rfl jz_8
      refine lv_aload_n hx hb dX12_kept_22 rfl (lv_at hl 0 rfl) ?_
      have w17 : ∀ k : Nat, k < 4 → 0 ≤ (σ 68 k).toInt ∧ (σ 68 k).toInt ≤ 3 := hI119
      refine jcallVv (As := []) (rest := []) ⟨hx, hb, hml, hown, hts⟩ hK hP hA hS hZ (c_X12_begin l D cI cL ad zz hJ σ τ hI104 w17) cw_RX12_256 (jc_55 cI cL ad σ τ) rfl ⟨Nat.le_of_ble_eq_true rfl, Nat.le_of_ble_eq_true rfl⟩ rfl rfl rfl hl.1 rfl (Nat.le_of_ble_eq_true rfl) dX12_kept_23 ⟨Nat.zero_le _, Nat.zero_le _⟩ (fun σ18 τ18 H locs h18 hP hS => ?_)
      obtain ⟨rfl, f20, f21, I22, w23, w24, h18⟩ := h18
      obtain ⟨i26, i27, i28, i29, i30, w31⟩ : (0 ≤ (σ18 55 25).toInt) ∧ ((σ18 55 25).toInt ≤ (σ18 55 10).toInt) ∧ (0 ≤ (σ18 55 26).toInt) ∧ ((σ18 55 26).toInt ≤ (σ18 55 12).toInt) ∧ ((-1) ≤ (σ18 55 27).toInt ∧ (σ18 55 27).toInt ≤ 3) ∧ (∀ k : Nat, k < 4 → 0 ≤ (σ18 68 k).toInt ∧ (σ18 68 k).toInt ≤ 3) := id I22
      have z32 : (σ18 55 10).toInt = (σ 55 10).toInt := (congrArg Int32.toInt (show σ18 55 10 = (σ 55 10) from (f21 10 (of_decide_eq_true rfl))))
      have z33 : (σ18 55 12).toInt = (σ 55 12).toInt := (congrArg Int32.toInt (show σ18 55 12 = (σ 55 12) from (f21 12 (of_decide_eq_true rfl))))
      obtain ⟨k34, k35, k36, h18⟩ := h18
      refine lv_aload_n hx hb dX12_kept_26 rfl (lv_at hl 0 rfl) ?_
      have p37 : jqSt σ18 := jqSt.fr (f20 78 (of_decide_eq_true rfl)) (f21 42 (of_decide_eq_true rfl)) hs_jqSt
      have z38 : (σ18 55 42).toInt = (σ 55 42).toInt := (congrArg Int32.toInt (show σ18 55 42 = (σ 55 42) from (f21 42 (of_decide_eq_true rfl))))
      exact by
       refine jcallVv (As := []) (rest := []) ⟨hx, hb, hml, hown, hts⟩ hK hP hA hS hZ (c_X12_forgets l D cI cL ad zz hJ σ18 τ p37 (by omega)) cw_RX12_341 (jc_55 cI cL ad σ18 τ) rfl ⟨Nat.le_of_ble_eq_true rfl, Nat.le_of_ble_eq_true rfl⟩ rfl rfl rfl hl.1 rfl (Nat.le_of_ble_eq_true rfl) dX12_kept_27 ⟨Nat.zero_le _, Nat.zero_le _⟩ (fun σ39 τ39 H locs h39 hP hS => ?_)
       obtain ⟨rfl, f41, f42, p43, w44, h39⟩ := h39
       obtain ⟨k46, h39⟩ := h39
       have w52 : ∀ k : Nat, k < 4 → 0 ≤ (σ39 68 k).toInt ∧ (σ39 68 k).toInt ≤ 3 := (jrr_fr (f41 68 (of_decide_eq_true rfl)) w31)
       have I53 : jI119 σ39 := w52
       have z54 : (σ39 55 12).toInt = (σ 55 12).toInt := (congrArg Int32.toInt (show σ39 55 12 = (σ 55 12) from ((f42 12 (of_decide_eq_true rfl)).trans (f21 12 (of_decide_eq_true rfl)))))
       have z55 : (σ39 55 26).toInt = (σ18 55 26).toInt := (congrArg Int32.toInt (show σ39 55 26 = (σ18 55 26) from (f42 26 (of_decide_eq_true rfl))))
       have z56 : (σ39 55 25).toInt = (σ18 55 25).toInt := (congrArg Int32.toInt (show σ39 55 25 = (σ18 55 25) from (f42 25 (of_decide_eq_true rfl))))
       have z57 : (σ39 55 10).toInt = (σ 55 10).toInt := (congrArg Int32.toInt (show σ39 55 10 = (σ 55 10) from ((f42 10 (of_decide_eq_true rfl)).trans (f21 10 (of_decide_eq_true rfl)))))
       have z58 : (σ39 55 27).toInt = (σ18 55 27).toInt := (congrArg Int32.toInt (show σ39 55 27 = (σ18 55 27) from (f42 27 (of_decide_eq_true rfl))))
       have p60 : jKept σ39 := jKept.fr ((f41 75 (of_decide_eq_true rfl)).trans (f20 75 (of_decide_eq_true rfl))) ((f41 76 (of_decide_eq_true rfl)).trans (f20 76 (of_decide_eq_true rfl))) ((f41 77 (of_decide_eq_true rfl)).trans (f20 77 (of_decide_eq_true rfl))) hs_jKept
       have z61 : (σ39 55 30).toInt = (σ 55 30).toInt := (congrArg Int32.toInt (show σ39 55 30 = (σ 55 30) from ((f42 30 (of_decide_eq_true rfl)).trans (f21 30 (of_decide_eq_true rfl)))))
       have z62 : (σ39 55 31).toInt = (σ 55 31).toInt := (congrArg Int32.toInt (show σ39 55 31 = (σ 55 31) from ((f42 31 (of_decide_eq_true rfl)).trans (f21 31 (of_decide_eq_true rfl)))))
       have lp47 : ∀ (n48 : Nat)  (σ51 : Nat → Nat → Int32) (H : Heap) (locs : List Loc) (ls : Array Slot), ((σ51 55 12).toInt - (σ51 55 26).toInt : Int) < n48 → 0 ≤ (σ51 55 25).toInt → (σ51 55 25).toInt ≤ (σ51 55 10).toInt → 0 ≤ (σ51 55 26).toInt → (σ51 55 26).toInt ≤ (σ51 55 12).toInt → (-1) ≤ (σ51 55 27).toInt ∧ (σ51 55 27).toInt ≤ 3 → (σ51 55 25).toInt = 0 → (∀ i : Nat, (i < 55 ∨ 55 < i) ∧ (i < 66 ∨ 66 < i) ∧ (i < 68 ∨ 69 < i) ∧ (i < 74 ∨ 78 < i) → σ51 i = σ39 i) → (∀ k : Nat, (k < 18 ∨ 18 < k) ∧ (k < 19 ∨ 19 < k) ∧ (k < 20 ∨ 20 < k) ∧ (k < 21 ∨ 21 < k) ∧ (k < 22 ∨ 22 < k) ∧ (k < 25 ∨ 25 < k) ∧ (k < 26 ∨ 26 < k) ∧ (k < 27 ∨ 27 < k) ∧ (k < 37 ∨ 37 < k) → σ51 55 k = σ39 55 k) → jKept σ51 → jqSt σ51 → jI119 σ51 → (((σ 55 30).toInt = -1 → (σ 55 31).toInt = -1 → jOk (σ 56) → (jKp (jrK σ (σ 55 9).toInt) (A1) (σ 55 12).toInt.toNat (-1) (jqLo (σ 56) (σ 55 6).toInt (-1) 0) (fun _ => 0) 0) = jKp (jrK σ (σ 55 9).toInt) (A1) ((σ 55 12).toInt - (σ51 55 26).toInt).toNat (σ51 55 27).toInt (jrLf σ51) (jrS σ51) (σ51 55 26).toInt ∧ jrP σ51 ∧ jrM σ51)) → jH D cI cL ad σ51 τ H → va_S (jA ad) s.heap H locs → lv_has ls 4 [(0, .ref (ad 55)), (1, .int a1)] → W p l e ({ frames := 103, cells := 0, slots := 0, locals := 5061 }) s m args below meth c H locs 0 0 Q (F0 m 30 ls []) := by
         intro n48
         induction n48 with
         | zero => intro  σ51 H locs ls h63 h64 h65 h66 h67 h68 h69; exact absurd h63 (by omega)
         | succ n48 ihlp47 =>
           intro  σ51 H locs ls h63 h64 h65 h66 h67 h68 h69 f70 f71 p72 p73 p74 q75 hP hS hl
           exact by
            have z76 : (σ51 55 12).toInt = (σ 55 12).toInt := (congrArg Int32.toInt (show σ51 55 12 = (σ 55 12) from ((f71 12 (of_decide_eq_true rfl)).trans ((f42 12 (of_decide_eq_true rfl)).trans (f21 12 (of_decide_eq_true rfl))))))
            have z77 : (σ51 55 10).toInt = (σ 55 10).toInt := (congrArg Int32.toInt (show σ51 55 10 = (σ 55 10) from ((f71 10 (of_decide_eq_true rfl)).trans ((f42 10 (of_decide_eq_true rfl)).trans (f21 10 (of_decide_eq_true rfl))))))
            refine lv_aload_n hx hb dX12_kept_30 rfl (lv_at hl 0 rfl) ?_
            have I78 : jI102 σ51 := jI102_fr ((f71 6 (of_decide_eq_true rfl)).trans ((f42 6 (of_decide_eq_true rfl)).trans (f21 6 (of_decide_eq_true rfl)))) ((f70 60 (of_decide_eq_true rfl)).trans ((f41 60 (of_decide_eq_true rfl)).trans (f20 60 (of_decide_eq_true rfl)))) ((f70 61 (of_decide_eq_true rfl)).trans ((f41 61 (of_decide_eq_true rfl)).trans (f20 61 (of_decide_eq_true rfl)))) hI102
            have I79 : jI104 σ51 := jI104_fr ((f71 10 (of_decide_eq_true rfl)).trans ((f42 10 (of_decide_eq_true rfl)).trans (f21 10 (of_decide_eq_true rfl)))) ((f71 12 (of_decide_eq_true rfl)).trans ((f42 12 (of_decide_eq_true rfl)).trans (f21 12 (of_decide_eq_true rfl)))) ((f71 13 (of_decide_eq_true rfl)).trans ((f42 13 (of_decide_eq_true rfl)).trans (f21 13 (of_decide_eq_true rfl)))) ((f70 62 (of_decide_eq_true rfl)).trans ((f41 62 (of_decide_eq_true rfl)).trans (f20 62 (of_decide_eq_true rfl)))) ((f70 67 (of_decide_eq_true rfl)).trans ((f41 67 (of_decide_eq_true rfl)).trans (f20 67 (of_decide_eq_true rfl)))) hI104
            have w80 : ∀ k : Nat, k < 4 → 0 ≤ (σ51 68 k).toInt ∧ (σ51 68 k).toInt ≤ 3 := p74
            have I81 : jI120 σ51 := ⟨(by omega), (by omega), (by omega), (by omega), (by omega), w80⟩
            refine jcallV (As := []) (rest := []) ⟨hx, hb, hml, hown, hts⟩ hK hP hA hS hZ (c_X12_isEnded l D cI cL ad zz hJ σ51 τ I78 I79 I81) cw_RX12_307 (jc_55 cI cL ad σ51 τ) rfl ⟨Nat.le_of_ble_eq_true rfl, Nat.le_of_ble_eq_true rfl⟩ rfl rfl rfl hl.1 rfl (Nat.le_of_ble_eq_true rfl) dX12_kept_31 ⟨Nat.zero_le _, Nat.zero_le _⟩ (fun r83 σ82 τ82 H locs h82 hP hS => ?_)
            obtain ⟨⟨rfl, rfl⟩, h82⟩ := h82
            exact by
             rcases h82 with h84 | h85
             · obtain ⟨q87, k86⟩ := h84
               have q87 := q87.symm
               subst q87
               refine lv_if_ne (tgt := 68) hx hb dX12_kept_34 (of_decide_eq_true rfl) (fun _ => ?_) (fun c => absurd c (of_decide_eq_true rfl))
               refine lv_bipush (v := (-2)) hx hb dX12_kept_68 (of_decide_eq_true rfl) ?_
               have p88 : jTR σ51 := jTR.fr ((f70 64 (of_decide_eq_true rfl)).trans ((f41 64 (of_decide_eq_true rfl)).trans (f20 64 (of_decide_eq_true rfl)))) ((f70 65 (of_decide_eq_true rfl)).trans ((f41 65 (of_decide_eq_true rfl)).trans (f20 65 (of_decide_eq_true rfl)))) hs_jTR
               have z89 : (σ51 55 9).toInt = (σ 55 9).toInt := (congrArg Int32.toInt (show σ51 55 9 = (σ 55 9) from ((f71 9 (of_decide_eq_true rfl)).trans ((f42 9 (of_decide_eq_true rfl)).trans (f21 9 (of_decide_eq_true rfl))))))
               have z90 : (σ51 55 42).toInt = (σ39 55 42).toInt := (congrArg Int32.toInt (show σ51 55 42 = (σ39 55 42) from (f71 42 (of_decide_eq_true rfl))))
               exact by exact hret (-2) σ51 τ _ _ _ _ rfl ⟨rfl, (fun i hi => ((f70 i hi).trans ((f41 i (imp_259 i hi)).trans (f20 i (imp_256 i hi))))), (fun i hi => ((f71 i (imp_268 i hi)).trans ((f42 i (imp_261 i hi)).trans (f21 i (imp_257 i hi))))), p74, p72, p88, p73, (fun wa9 wb9 ok => Or.inr ⟨⟨by omega, by omega⟩, Or.inr ⟨by omega, by have kk := q75 wa9 wb9 ok; have kv := jrK_v (σ := σ) (v := σ51) (jrFf_eq (σ := σ) (u := σ51) ((f70 56 (of_decide_eq_true rfl)).trans ((f41 56 (of_decide_eq_true rfl)).trans (f20 56 (of_decide_eq_true rfl)))) ((f70 60 (of_decide_eq_true rfl)).trans ((f41 60 (of_decide_eq_true rfl)).trans (f20 60 (of_decide_eq_true rfl)))) ((f70 61 (of_decide_eq_true rfl)).trans ((f41 61 (of_decide_eq_true rfl)).trans (f20 61 (of_decide_eq_true rfl)))) ((f70 62 (of_decide_eq_true rfl)).trans ((f41 62 (of_decide_eq_true rfl)).trans (f20 62 (of_decide_eq_true rfl)))) ((f70 64 (of_decide_eq_true rfl)).trans ((f41 64 (of_decide_eq_true rfl)).trans (f20 64 (of_decide_eq_true rfl)))) ((f70 65 (of_decide_eq_true rfl)).trans ((f41 65 (of_decide_eq_true rfl)).trans (f20 65 (of_decide_eq_true rfl)))) ((f71 10 (of_decide_eq_true rfl)).trans ((f42 10 (of_decide_eq_true rfl)).trans (f21 10 (of_decide_eq_true rfl)))) ((f71 12 (of_decide_eq_true rfl)).trans ((f42 12 (of_decide_eq_true rfl)).trans (f21 12 (of_decide_eq_true rfl)))) ((f71 13 (of_decide_eq_true rfl)).trans ((f42 13 (of_decide_eq_true rfl)).trans (f21 13 (of_decide_eq_true rfl)))) (by omega)) (by omega); rw [kk.1]; rw [jKp.no (Or.inr (by rw [← kv, kk.2.1.fin (by omega) k86]; decide))]; decide⟩⟩), (by omega), (by omega), trivial⟩ hP hS dX12_kept_70
             · obtain ⟨q94, k91, k92, k93⟩ := h85
               have q94 := q94.symm
               subst q94
               obtain ⟨B95, k96, k97, w98⟩ := k93
               have z99 : (σ51 55 6).toInt = (σ 55 6).toInt := (congrArg Int32.toInt (show σ51 55 6 = (σ 55 6) from ((f71 6 (of_decide_eq_true rfl)).trans ((f42 6 (of_decide_eq_true rfl)).trans (f21 6 (of_decide_eq_true rfl))))))
               refine lv_if_ne (tgt := 68) hx hb dX12_kept_34 (of_decide_eq_true rfl) (fun c => absurd (of_decide_eq_true rfl) c) (fun _ => ?_)
               refine lv_aload_n hx hb dX12_kept_37 rfl (lv_at hl 0 rfl) ?_
               have p100 : jmb σ51 B95 = 1 := (jmb_fr rfl rfl rfl rfl rfl B95).trans w98
               have I101 : jI101 σ51 := jI101_fr ((f71 4 (of_decide_eq_true rfl)).trans ((f42 4 (of_decide_eq_true rfl)).trans (f21 4 (of_decide_eq_true rfl)))) ((f71 5 (of_decide_eq_true rfl)).trans ((f42 5 (of_decide_eq_true rfl)).trans (f21 5 (of_decide_eq_true rfl)))) ((f70 56 (of_decide_eq_true rfl)).trans ((f41 56 (of_decide_eq_true rfl)).trans (f20 56 (of_decide_eq_true rfl)))) ((f70 57 (of_decide_eq_true rfl)).trans ((f41 57 (of_decide_eq_true rfl)).trans (f20 57 (of_decide_eq_true rfl)))) ((f70 58 (of_decide_eq_true rfl)).trans ((f41 58 (of_decide_eq_true rfl)).trans (f20 58 (of_decide_eq_true rfl)))) ((f70 59 (of_decide_eq_true rfl)).trans ((f41 59 (of_decide_eq_true rfl)).trans (f20 59 (of_decide_eq_true rfl)))) hI101
               have I102 : jI103 σ51 := jI103_fr ((f71 9 (of_decide_eq_true rfl)).trans ((f42 9 (of_decide_eq_true rfl)).trans (f21 9 (of_decide_eq_true rfl)))) hI103
               have I103 : jI105 σ51 := jI105_fr ((f71 15 (of_decide_eq_true rfl)).trans ((f42 15 (of_decide_eq_true rfl)).trans (f21 15 (of_decide_eq_true rfl)))) ((f70 65 (of_decide_eq_true rfl)).trans ((f41 65 (of_decide_eq_true rfl)).trans (f20 65 (of_decide_eq_true rfl)))) hI105
               have I104 : jI106 σ51 := jI106_fr ((f71 32 (of_decide_eq_true rfl)).trans ((f42 32 (of_decide_eq_true rfl)).trans (f21 32 (of_decide_eq_true rfl)))) ((f70 70 (of_decide_eq_true rfl)).trans ((f41 70 (of_decide_eq_true rfl)).trans (f20 70 (of_decide_eq_true rfl)))) ((f70 71 (of_decide_eq_true rfl)).trans ((f41 71 (of_decide_eq_true rfl)).trans (f20 71 (of_decide_eq_true rfl)))) ((f70 72 (of_decide_eq_true rfl)).trans ((f41 72 (of_decide_eq_true rfl)).trans (f20 72 (of_decide_eq_true rfl)))) hI106
               have p105 : jTR σ51 := jTR.fr ((f70 64 (of_decide_eq_true rfl)).trans ((f41 64 (of_decide_eq_true rfl)).trans (f20 64 (of_decide_eq_true rfl)))) ((f70 65 (of_decide_eq_true rfl)).trans ((f41 65 (of_decide_eq_true rfl)).trans (f20 65 (of_decide_eq_true rfl)))) hs_jTR
               exact by
                refine jcallV (As := []) (rest := []) ⟨hx, hb, hml, hown, hts⟩ hK hP hA hS hZ ((c_X12_bests l D cI cL ad zz hJ 8).2.2 σ51 τ B95 p100 I101 I78 I102 I79 I103 I104 I81 p72 p105 p73 (by omega) (by omega) (by omega) (by omega)) cw_RX12_280 (jc_55 cI cL ad σ51 τ) rfl ⟨Nat.le_of_ble_eq_true rfl, Nat.le_of_ble_eq_true rfl⟩ rfl rfl rfl hl.1 rfl (Nat.le_of_ble_eq_true rfl) dX12_kept_38 ⟨Nat.zero_le _, Nat.zero_le _⟩ (fun r107 σ106 τ106 H locs h106 hP hS => ?_)
                obtain ⟨rfl, f108, f109, p110, p111, p112, w113, h106⟩ := h106
                obtain ⟨k115, h106⟩ := h106
                have h116 := h106
                obtain ⟨q118, k117⟩ := h116
                refine lv_istore_n (lv' := [(2, .int r107), (0, .ref (ad 55)), (1, .int a1)]) hx hb dX12_kept_41 rfl hl (of_decide_eq_true rfl) rfl (fun ls hl => ?_)
                refine lv_aload_n hx hb dX12_kept_42 rfl (lv_at hl 1 rfl) ?_
                refine va_get (D := D) hx hb hts inlX12 hown hK hP 55 (jc_55 cI cL ad σ106 τ) rfl 37 (of_decide_eq_true rfl) (hts _ kw_33_15) (fun _ h9 => h9) rfl dX12_kept_43 ?_
                refine lv_iload_n hx hb dX12_kept_46 rfl (lv_at hl 2 rfl) ?_
                refine lv_icmp_ne (tgt := 55) hx hb dX12_kept_47 (of_decide_eq_true rfl) (fun c119 => ?_) (fun c119 => ?_)
                · have kc119 := jne c119 rfl t1
                  refine lv_aload_n hx hb dX12_kept_55 rfl (lv_at hl 1 rfl) ?_
                  refine lv_aload_n hx hb dX12_kept_56 rfl (lv_at hl 1 rfl) ?_
                  refine va_get (D := D) hx hb hts inlX12 hown hK hP 55 (jc_55 cI cL ad σ106 τ) rfl 37 (of_decide_eq_true rfl) (hts _ kw_33_15) (fun _ h9 => h9) rfl dX12_kept_57 ?_
                  refine lv_iconst (v := 0) hx hb dX12_kept_60 (of_decide_eq_true rfl) ?_
                  have w120 : ∀ k : Nat, k < 4 → 0 ≤ (σ106 68 k).toInt ∧ (σ106 68 k).toInt ≤ 3 := (jrr_fr (f108 68 (of_decide_eq_true rfl)) w80)
                  have z121 : (σ106 55 6).toInt = (σ 55 6).toInt := (congrArg Int32.toInt (show σ106 55 6 = (σ 55 6) from ((f109 6 (of_decide_eq_true rfl)).trans ((f71 6 (of_decide_eq_true rfl)).trans ((f42 6 (of_decide_eq_true rfl)).trans (f21 6 (of_decide_eq_true rfl)))))))
                  have z122 : (σ106 55 27).toInt = (σ51 55 27).toInt := (congrArg Int32.toInt (show σ106 55 27 = (σ51 55 27) from (f109 27 (of_decide_eq_true rfl))))
                  have z123 : (σ106 55 25).toInt = (σ51 55 25).toInt := (congrArg Int32.toInt (show σ106 55 25 = (σ51 55 25) from (f109 25 (of_decide_eq_true rfl))))
                  have z124 : (σ106 55 26).toInt = (σ51 55 26).toInt := (congrArg Int32.toInt (show σ106 55 26 = (σ51 55 26) from (f109 26 (of_decide_eq_true rfl))))
                  have z125 : (σ106 68 0).toInt = (σ51 68 0).toInt := (congrArg Int32.toInt (show σ106 68 0 = (σ51 68 0) from (congrFun (f108 68 (of_decide_eq_true rfl)) 0)))
                  have z126 : (σ106 68 1).toInt = (σ51 68 1).toInt := (congrArg Int32.toInt (show σ106 68 1 = (σ51 68 1) from (congrFun (f108 68 (of_decide_eq_true rfl)) 1)))
                  have z127 : (σ106 68 2).toInt = (σ51 68 2).toInt := (congrArg Int32.toInt (show σ106 68 2 = (σ51 68 2) from (congrFun (f108 68 (of_decide_eq_true rfl)) 2)))
                  have z128 : (σ106 68 3).toInt = (σ51 68 3).toInt := (congrArg Int32.toInt (show σ106 68 3 = (σ51 68 3) from (congrFun (f108 68 (of_decide_eq_true rfl)) 3)))
                  exact by
                   refine jcallV (As := [.int (σ106 55 37), .int 0]) (rest := []) ⟨hx, hb, hml, hown, hts⟩ hK hP hA hS hZ (c_X12_goes_0 l D cI cL ad zz hJ σ106 τ (σ106 55 37) ((σ106 55 37).toInt) rfl w120 (by omega) (by omega) (by omega) (by omega) (by omega)) cw_RX12_296 (jc_55 cI cL ad σ106 τ) rfl ⟨Nat.le_of_ble_eq_true rfl, Nat.le_of_ble_eq_true rfl⟩ rfl rfl rfl hl.1 rfl (Nat.le_of_ble_eq_true rfl) dX12_kept_61 ⟨Nat.zero_le _, Nat.zero_le _⟩ (fun r130 σ129 τ129 H locs h129 hP hS => ?_)
                   obtain ⟨rfl, f131, f132, w133, w134, w135, w136, h129⟩ := h129
                   obtain ⟨k138, k139, k140, h129⟩ := h129
                   have h141 := h129
                   obtain ⟨q147, k142, k143, k144, k145, k146⟩ := h141
                   refine lv_istore_n (lv' := [(3, .int r130), (2, .int r107), (0, .ref (ad 55)), (1, .int a1)]) hx hb dX12_kept_64 rfl hl (of_decide_eq_true rfl) rfl (fun ls hl => ?_)
                   refine lv_goto (tgt := 30) hx hb dX12_kept_65 (of_decide_eq_true rfl) ?_
                   have z148 : (σ129 55 12).toInt = (σ 55 12).toInt := (congrArg Int32.toInt (show σ129 55 12 = (σ 55 12) from ((f132 12 (of_decide_eq_true rfl)).trans ((f109 12 (of_decide_eq_true rfl)).trans ((f71 12 (of_decide_eq_true rfl)).trans ((f42 12 (of_decide_eq_true rfl)).trans (f21 12 (of_decide_eq_true rfl))))))))
                   have z149 : (σ129 55 10).toInt = (σ 55 10).toInt := (congrArg Int32.toInt (show σ129 55 10 = (σ 55 10) from ((f132 10 (of_decide_eq_true rfl)).trans ((f109 10 (of_decide_eq_true rfl)).trans ((f71 10 (of_decide_eq_true rfl)).trans ((f42 10 (of_decide_eq_true rfl)).trans (f21 10 (of_decide_eq_true rfl))))))))
                   have p150 : jKept σ129 := jKept.fr (f131 75 (of_decide_eq_true rfl)) (f131 76 (of_decide_eq_true rfl)) (f131 77 (of_decide_eq_true rfl)) p110
                   have p151 : jqSt σ129 := jqSt.fr (f131 78 (of_decide_eq_true rfl)) (f132 42 (of_decide_eq_true rfl)) p112
                   have I152 : jI119 σ129 := w133
                   have z153 : (σ106 55 12).toInt = (σ 55 12).toInt := (congrArg Int32.toInt (show σ106 55 12 = (σ 55 12) from ((f109 12 (of_decide_eq_true rfl)).trans ((f71 12 (of_decide_eq_true rfl)).trans ((f42 12 (of_decide_eq_true rfl)).trans (f21 12 (of_decide_eq_true rfl)))))))
                   have z154 : (σ129 55 37).toInt = (σ106 55 37).toInt := (congrArg Int32.toInt (show σ129 55 37 = (σ106 55 37) from (f132 37 (of_decide_eq_true rfl))))
                   have z155 : (σ51 55 9).toInt = (σ 55 9).toInt := (congrArg Int32.toInt (show σ51 55 9 = (σ 55 9) from ((f71 9 (of_decide_eq_true rfl)).trans ((f42 9 (of_decide_eq_true rfl)).trans (f21 9 (of_decide_eq_true rfl))))))
                   exact by exact ihlp47  σ129 _ _ ls (by omega) (by omega) (by omega) (by omega) (by omega) (by omega) (by omega) (fun i hi => ((f131 i (imp_256 i hi)).trans ((f108 i (imp_258 i hi)).trans (f70 i hi)))) (fun i hi => ((f132 i (imp_269 i hi)).trans ((f109 i (imp_270 i hi)).trans (f71 i hi))))  p150 p151 I152 (fun wa9 wb9 ok => by have kk := q75 wa9 wb9 ok; have r9 := w113 kk.2.1 kk.2.2; have sp := jqRk_step (σ := σ) (v := σ51) (s1 := σ106) (s2 := σ129) (b := (A1)) (T := (σ 55 12).toInt) (w := (σ106 55 37)) kk.1 kk.2.1 ⟨⟨(f108 56 (of_decide_eq_true rfl)), (f108 60 (of_decide_eq_true rfl)), (f108 61 (of_decide_eq_true rfl)), (f108 62 (of_decide_eq_true rfl)), (f108 64 (of_decide_eq_true rfl)), (f108 65 (of_decide_eq_true rfl))⟩, (f109 6 (of_decide_eq_true rfl)), (f109 9 (of_decide_eq_true rfl)), (f109 10 (of_decide_eq_true rfl)), (f109 12 (of_decide_eq_true rfl)), (f109 13 (of_decide_eq_true rfl)), (f109 30 (of_decide_eq_true rfl)), (f109 31 (of_decide_eq_true rfl)), (f109 42 (of_decide_eq_true rfl))⟩ (f108 68 (of_decide_eq_true rfl)) (f108 69 (of_decide_eq_true rfl)) (f109 25 (of_decide_eq_true rfl)) (f109 26 (of_decide_eq_true rfl)) (f109 27 (of_decide_eq_true rfl)) (jrFf_eq (σ := σ) (u := σ51) ((f70 56 (of_decide_eq_true rfl)).trans ((f41 56 (of_decide_eq_true rfl)).trans (f20 56 (of_decide_eq_true rfl)))) ((f70 60 (of_decide_eq_true rfl)).trans ((f41 60 (of_decide_eq_true rfl)).trans (f20 60 (of_decide_eq_true rfl)))) ((f70 61 (of_decide_eq_true rfl)).trans ((f41 61 (of_decide_eq_true rfl)).trans (f20 61 (of_decide_eq_true rfl)))) ((f70 62 (of_decide_eq_true rfl)).trans ((f41 62 (of_decide_eq_true rfl)).trans (f20 62 (of_decide_eq_true rfl)))) ((f70 64 (of_decide_eq_true rfl)).trans ((f41 64 (of_decide_eq_true rfl)).trans (f20 64 (of_decide_eq_true rfl)))) ((f70 65 (of_decide_eq_true rfl)).trans ((f41 65 (of_decide_eq_true rfl)).trans (f20 65 (of_decide_eq_true rfl)))) ((f71 10 (of_decide_eq_true rfl)).trans ((f42 10 (of_decide_eq_true rfl)).trans (f21 10 (of_decide_eq_true rfl)))) ((f71 12 (of_decide_eq_true rfl)).trans ((f42 12 (of_decide_eq_true rfl)).trans (f21 12 (of_decide_eq_true rfl)))) ((f71 13 (of_decide_eq_true rfl)).trans ((f42 13 (of_decide_eq_true rfl)).trans (f21 13 (of_decide_eq_true rfl)))) (by omega)) (by omega) (by rw [(show ((σ106 55 37) : Int32).toInt = (σ106 55 37).toInt by omega)]; exact r9.1.1) (by omega) (by omega) ⟨⟨(f131 56 (of_decide_eq_true rfl)), (f131 60 (of_decide_eq_true rfl)), (f131 61 (of_decide_eq_true rfl)), (f131 62 (of_decide_eq_true rfl)), (f131 64 (of_decide_eq_true rfl)), (f131 65 (of_decide_eq_true rfl))⟩, (f132 6 (of_decide_eq_true rfl)), (f132 9 (of_decide_eq_true rfl)), (f132 10 (of_decide_eq_true rfl)), (f132 12 (of_decide_eq_true rfl)), (f132 13 (of_decide_eq_true rfl)), (f132 30 (of_decide_eq_true rfl)), (f132 31 (of_decide_eq_true rfl)), (f132 42 (of_decide_eq_true rfl))⟩ w134 (fun c hc => by have w9 := w136 c hc; rw [show (σ106 55 37).toInt = ((σ106 55 37) : Int32).toInt from by omega] at w9; exact w9) w135 (by omega) (by omega) (by omega) (by omega) (by omega); exact ⟨sp.1, sp.2, (jrEq.m (σ := σ106) (σ' := σ129) ⟨⟨(f131 56 (of_decide_eq_true rfl)), (f131 60 (of_decide_eq_true rfl)), (f131 61 (of_decide_eq_true rfl)), (f131 62 (of_decide_eq_true rfl)), (f131 64 (of_decide_eq_true rfl)), (f131 65 (of_decide_eq_true rfl))⟩, (f132 6 (of_decide_eq_true rfl)), (f132 9 (of_decide_eq_true rfl)), (f132 10 (of_decide_eq_true rfl)), (f132 12 (of_decide_eq_true rfl)), (f132 13 (of_decide_eq_true rfl)), (f132 30 (of_decide_eq_true rfl)), (f132 31 (of_decide_eq_true rfl)), (f132 42 (of_decide_eq_true rfl))⟩ (f131 78 (of_decide_eq_true rfl)) (f131 74 (of_decide_eq_true rfl)) (f131 75 (of_decide_eq_true rfl)) (f131 76 (of_decide_eq_true rfl)) (f131 77 (of_decide_eq_true rfl)) r9.2)⟩) hP hS (lv_sub hl [2, 3] rfl)
                · have kc119 := jeq c119 rfl t1
                  refine lv_aload_n hx hb dX12_kept_50 rfl (lv_at hl 1 rfl) ?_
                  refine va_get (D := D) hx hb hts inlX12 hown hK hP 55 (jc_55 cI cL ad σ106 τ) rfl 26 (of_decide_eq_true rfl) (hts _ kw_23_5) (fun _ h9 => h9) rfl dX12_kept_51 ?_
                  have m156 : σ106 55 26 = (σ51 55 26) := (f109 26 (of_decide_eq_true rfl))
                  refine jtopr m156 ?_
                  have I157 : jI119 σ106 := jI119_fr (f108 68 (of_decide_eq_true rfl)) p74
                  have z158 : (σ51 55 9).toInt = (σ 55 9).toInt := (congrArg Int32.toInt (show σ51 55 9 = (σ 55 9) from ((f71 9 (of_decide_eq_true rfl)).trans ((f42 9 (of_decide_eq_true rfl)).trans (f21 9 (of_decide_eq_true rfl))))))
                  have z159 : (σ106 55 26).toInt = (σ51 55 26).toInt := (congrArg Int32.toInt (show σ106 55 26 = (σ51 55 26) from m156))
                  have z160 : (σ106 55 42).toInt = (σ39 55 42).toInt := (congrArg Int32.toInt (show σ106 55 42 = (σ39 55 42) from ((f109 42 (of_decide_eq_true rfl)).trans (f71 42 (of_decide_eq_true rfl)))))
                  exact by exact hret (σ51 55 26) σ106 τ _ _ _ _ rfl ⟨rfl, (fun i hi => ((f108 i (imp_258 i hi)).trans ((f70 i hi).trans ((f41 i (imp_259 i hi)).trans (f20 i (imp_256 i hi)))))), (fun i hi => ((f109 i (imp_260 i hi)).trans ((f71 i (imp_268 i hi)).trans ((f42 i (imp_261 i hi)).trans (f21 i (imp_257 i hi)))))), I157, p110, p111, p112, (fun wa9 wb9 ok => Or.inr ⟨⟨by omega, by omega⟩, Or.inr ⟨by omega, by have kk := q75 wa9 wb9 ok; have kv := jrK_v (σ := σ) (v := σ51) (jrFf_eq (σ := σ) (u := σ51) ((f70 56 (of_decide_eq_true rfl)).trans ((f41 56 (of_decide_eq_true rfl)).trans (f20 56 (of_decide_eq_true rfl)))) ((f70 60 (of_decide_eq_true rfl)).trans ((f41 60 (of_decide_eq_true rfl)).trans (f20 60 (of_decide_eq_true rfl)))) ((f70 61 (of_decide_eq_true rfl)).trans ((f41 61 (of_decide_eq_true rfl)).trans (f20 61 (of_decide_eq_true rfl)))) ((f70 62 (of_decide_eq_true rfl)).trans ((f41 62 (of_decide_eq_true rfl)).trans (f20 62 (of_decide_eq_true rfl)))) ((f70 64 (of_decide_eq_true rfl)).trans ((f41 64 (of_decide_eq_true rfl)).trans (f20 64 (of_decide_eq_true rfl)))) ((f70 65 (of_decide_eq_true rfl)).trans ((f41 65 (of_decide_eq_true rfl)).trans (f20 65 (of_decide_eq_true rfl)))) ((f71 10 (of_decide_eq_true rfl)).trans ((f42 10 (of_decide_eq_true rfl)).trans (f21 10 (of_decide_eq_true rfl)))) ((f71 12 (of_decide_eq_true rfl)).trans ((f42 12 (of_decide_eq_true rfl)).trans (f21 12 (of_decide_eq_true rfl)))) ((f71 13 (of_decide_eq_true rfl)).trans ((f42 13 (of_decide_eq_true rfl)).trans (f21 13 (of_decide_eq_true rfl)))) (by omega)) (by omega); rw [kk.1]; have r9 := (w113 kk.2.1 kk.2.2).1.1; rw [jKp.got (by rw [← kv]; exact Or.elim (Int.lt_or_le (jrV σ51).1 0) (fun z9 => by rw [if_pos z9] at r9; omega) (fun z9 => by rw [if_neg (by omega)] at r9; omega)) (by omega) (by omega)]; first | done | (omega)⟩⟩), (by omega), (by omega), trivial⟩ hP hS dX12_kept_54
       exact by exact lp47 1000000  σ39 _ _ ls (by omega) (by omega) (by omega) (by omega) (by omega) (by omega) (by omega) (fun _ _ => rfl) (fun _ _ => rfl)  p60 p43 I53 (fun wa9 wb9 ok => by have p := jrNow2 (σ := σ) (u := σ39) ((f42 6 (of_decide_eq_true rfl)).trans (f21 6 (of_decide_eq_true rfl))) ((f42 10 (of_decide_eq_true rfl)).trans (f21 10 (of_decide_eq_true rfl))) ((f42 12 (of_decide_eq_true rfl)).trans (f21 12 (of_decide_eq_true rfl))) (by rw [show σ39 68 = σ18 68 from (f41 68 (of_decide_eq_true rfl))]; exact w24) (by rw [show σ39 69 = σ18 69 from (f41 69 (of_decide_eq_true rfl))]; exact w23) (by omega) (by omega) (by omega) (by omega) ok ((f41 56 (of_decide_eq_true rfl)).trans (f20 56 (of_decide_eq_true rfl))) (by omega) (by omega); refine ⟨?_, p.1, w44⟩; rw [show (σ39 55 26).toInt = 0 from by omega, show (σ39 55 27).toInt = -1 from by omega, show ((σ 55 12).toInt - 0).toNat = (σ 55 12).toInt.toNat from by congr 1; omega]; exact jKp.cong jrK_F _ _ _ _ _ _ _ (fun c hc => ⟨by rw [← (p.2 c hc).1]; exact (p.2 c hc).2.1, (p.2 c hc).1.symm, fun _ => (p.2 c hc).2.2.symm⟩)) hP hS hl
    · have kc16 := jnle c16 rfl jz_8
      refine lv_bipush (v := (-4)) hx hb dX12_kept_19 (of_decide_eq_true rfl) ?_
      exact by exact hret (-4) σ τ _ _ _ _ rfl ⟨rfl, (fun _ _ => rfl), (fun _ _ => rfl), hI119, hs_jKept, hs_jTR, hs_jqSt, (fun wa9 wb9 ok => Or.inr ⟨⟨by omega, by omega⟩, Or.inl ⟨by omega, by decide⟩⟩), (by omega), (by omega), trivial⟩ hP hS dX12_kept_21
  · obtain ⟨q162, k161⟩ := h13
    have q162 := q162.symm
    subst q162
    refine lv_if_ne (tgt := 10) hx hb dX12_kept_5 (of_decide_eq_true rfl) (fun c => absurd (of_decide_eq_true rfl) c) (fun _ => ?_)
    refine lv_iconst (v := (-1)) hx hb dX12_kept_8 (of_decide_eq_true rfl) ?_
    exact by exact hret (-1) σ τ _ _ _ _ rfl ⟨rfl, (fun _ _ => rfl), (fun _ _ => rfl), hI119, hs_jKept, hs_jTR, hs_jqSt, (fun wa9 wb9 ok => Or.inl ⟨fun z => by omega, by decide⟩), (by omega), (by omega), trivial⟩ hP hS dX12_kept_9
set_option maxHeartbeats 4000000 in
set_option maxRecDepth 100000 in
theorem c_X12_orders_5 (l : Launch) (D : va_G) (cI cL : ClassId) (ad zz : Nat → Nat) (hJ : jD ad) (σ : Nat → Nat → Int32) (τ : Nat → Nat → Int64) (a2 : Int32) (A2 : Int) (t2 : a2.toInt = A2) (a3 : Int32) (A3 : Int) (t3 : a3.toInt = A3) (hI101 : jI101 σ) (hI102 : jI102 σ) (hI103 : jI103 σ) (hI104 : jI104 σ) (hI105 : jI105 σ) (hI106 : jI106 σ) (hI119 : jI119 σ) (hI111 : jI111 σ) (hs_jKept : jKept σ) (hs_jTR : jTR σ) (hs_jqSt : jqSt σ) (hp0 : (σ 55 10).toInt ≤ 5) (hp1 : 5 ≤ (σ 55 10).toInt) (hp2 : (σ 55 12).toInt ≤ 8) (hp3 : 0 ≤ A3 ∧ A3 ≤ 99999) (hp4 : 0 ≤ (σ 55 42).toInt ∧ (σ 55 42).toInt ≤ 999999998) : jMv l yX12_orders cX12_orders 6 none ({ frames := 104, cells := 0, slots := 0, locals := 5081 }) D cI cL ad zz [.ref (ad 55), .int 5, .int a2, .int a3] σ τ (fun σ' τ' => τ = τ' ∧ (∀ i : Nat, (i < 55 ∨ 55 < i) ∧ (i < 62 ∨ 62 < i) ∧ (i < 66 ∨ 66 < i) ∧ (i < 68 ∨ 69 < i) ∧ (i < 74 ∨ 78 < i) → σ' i = σ i) ∧ (∀ k : Nat, (k < 18 ∨ 18 < k) ∧ (k < 19 ∨ 19 < k) ∧ (k < 20 ∨ 20 < k) ∧ (k < 21 ∨ 21 < k) ∧ (k < 22 ∨ 22 < k) ∧ (k < 25 ∨ 25 < k) ∧ (k < 26 ∨ 26 < k) ∧ (k < 27 ∨ 27 < k) ∧ (k < 37 ∨ 37 < k) ∧ (k < 42 ∨ 42 < k) ∧ (k < 45 ∨ 45 < k) ∧ (k < 46 ∨ 46 < k) → σ' 55 k = σ 55 k) ∧ (jI104 σ') ∧ (jI119 σ') ∧ (jKept σ') ∧ (jTR σ') ∧ (jqSt σ') ∧ (((σ 55 30).toInt = -1 → (σ 55 31).toInt = -1 → jOk (σ 56) → A3 = jtD (fun z : Nat => (σ 62 z).toInt) 5 → (((σ' 55 46).toInt, (σ' 55 45).toInt) = jfr (jrVd σ) ((σ 55 46).toInt, (σ 55 45).toInt) (jolF ((σ 55 10).toInt - 5).toNat (A3) (fun t => jun a2 (σ 79) (t : Int) (σ 55 10).toInt.toNat)) ∧ ∀ z : Nat, z < 5 → σ' 62 z = σ 62 z))) ∧ ((σ 55 42).toInt ≤ (σ' 55 42).toInt) ∧ ((σ' 55 42).toInt ≤ (σ 55 42).toInt + 1) ∧ True) := by
  refine jMv.of hJ (by decide +kernel) rfl (Nat.le_of_ble_eq_true rfl) ?_
  intro p e s m args below meth c Q ls hC hret hl hP
  obtain ⟨hx, hb, hr, hml, hown, hts, hK, -, hlocks, hZ⟩ := hC
  have hown : s.vm.findClass RX12 = some m.cls := hown
  have hS : va_S (jA ad) s.heap s.heap [] := va_S.rf
  have hA : ∀ q, jA ad q → jA ad q := fun _ h => h
  have hl : lv_has ls 6 [(0, .ref (ad 55)), (1, .int 5), (2, .int a2), (3, .int a3)] := hl
  have g2 := jrg t2
  have g3 := jrg t3
  obtain ⟨i1, w2, w3⟩ : (0 ≤ (σ 55 6).toInt ∧ (σ 55 6).toInt ≤ 4) ∧ (∀ k : Nat, k < 4 → 0 ≤ (σ 60 k).toInt ∧ (σ 60 k).toInt ≤ 50) ∧ (∀ k : Nat, k < 4 → 0 ≤ (σ 61 k).toInt ∧ (σ 61 k).toInt ≤ 20) := id hI102
  obtain ⟨i4, i5, i6, w7, w8⟩ : (1 ≤ (σ 55 10).toInt ∧ (σ 55 10).toInt ≤ 8) ∧ (1 ≤ (σ 55 12).toInt ∧ (σ 55 12).toInt ≤ 12) ∧ (0 ≤ (σ 55 13).toInt ∧ (σ 55 13).toInt ≤ 999) ∧ (∀ k : Nat, k < 8 → 0 ≤ (σ 62 k).toInt ∧ (σ 62 k).toInt ≤ 3) ∧ (∀ k : Nat, k < 8 → 0 ≤ (σ 67 k).toInt ∧ (σ 67 k).toInt ≤ 3) := id hI104
  have w9 : ∀ k : Nat, k < 5 → 0 ≤ (σ 79 k).toInt ∧ (σ 79 k).toInt ≤ 3 := hI111
  refine lv_iload_n hx hb dX12_orders_0 rfl (lv_at hl 1 rfl) ?_
  refine lv_aload_n hx hb dX12_orders_1 rfl (lv_at hl 0 rfl) ?_
  refine va_get (D := D) hx hb hts inlX12 hown hK hP 55 (jc_55 cI cL ad σ τ) rfl 10 (of_decide_eq_true rfl) (hts _ kw_8_15) (fun _ h9 => h9) rfl dX12_orders_2 ?_
  exact by
   refine lv_icmp_ne (tgt := 35) hx hb dX12_orders_5 (of_decide_eq_true rfl) (fun c => absurd (jne c jz_5 rfl) (by omega)) (fun c10 => ?_)
   have kc10 := jeq c10 jz_5 rfl
   refine lv_aload_n hx hb dX12_orders_8 rfl (lv_at hl 0 rfl) ?_
   refine jcallV (As := []) (rest := []) ⟨hx, hb, hml, hown, hts⟩ hK hP hA hS hZ (c_X12_bestNow l D cI cL ad zz hJ σ τ hI101 hI102 hI103 hI104 hI105 hI106 hI119 hs_jKept hs_jTR hs_jqSt (by omega) (by omega)) cw_RX12_346 (jc_55 cI cL ad σ τ) rfl ⟨Nat.le_of_ble_eq_true rfl, Nat.le_of_ble_eq_true rfl⟩ rfl rfl rfl hl.1 rfl (Nat.le_of_ble_eq_true rfl) dX12_orders_9 ⟨Nat.zero_le _, Nat.zero_le _⟩ (fun r12 σ11 τ11 H locs h11 hP hS => ?_)
   obtain ⟨rfl, f13, f14, I15, p16, p17, p18, w19, h11⟩ := h11
   obtain ⟨k21, k22, h11⟩ := h11
   have h23 := h11
   obtain ⟨q25, k24⟩ := h23
   refine lv_istore (lv' := [(4, .int r12), (0, .ref (ad 55)), (1, .int 5), (2, .int a2), (3, .int a3)]) hx hb dX12_orders_12 hl (of_decide_eq_true rfl) rfl (fun ls hl => ?_)
   exact by
    refine lv_iload hx hb dX12_orders_14 (lv_at hl 0 rfl) ?_
    refine lv_aload_n hx hb dX12_orders_16 rfl (lv_at hl 1 rfl) ?_
    refine va_get (D := D) hx hb hts inlX12 hown hK hP 55 (jc_55 cI cL ad σ11 τ) rfl 46 (of_decide_eq_true rfl) (hts _ kw_40_17) (fun _ h9 => h9) rfl dX12_orders_17 ?_
    have m26 : σ11 55 46 = (σ 55 46) := (f14 46 (of_decide_eq_true rfl))
    refine jtopr m26 ?_
    refine lv_icmp_le (tgt := 34) hx hb dX12_orders_20 (of_decide_eq_true rfl) (fun c27 => ?_) (fun c27 => ?_)
    · have kc27 := jle c27 rfl rfl
      have I28 : jI104 σ11 := jI104_fr (f14 10 (of_decide_eq_true rfl)) (f14 12 (of_decide_eq_true rfl)) (f14 13 (of_decide_eq_true rfl)) (f13 62 (of_decide_eq_true rfl)) (f13 67 (of_decide_eq_true rfl)) hI104
      have z29 : (σ11 55 10).toInt = (σ 55 10).toInt := (congrArg Int32.toInt (show σ11 55 10 = (σ 55 10) from (f14 10 (of_decide_eq_true rfl))))
      have z30 : (σ11 55 46).toInt = (σ 55 46).toInt := (congrArg Int32.toInt (show σ11 55 46 = (σ 55 46) from m26))
      have z31 : (σ11 55 45).toInt = (σ 55 45).toInt := (congrArg Int32.toInt (show σ11 55 45 = (σ 55 45) from (f14 45 (of_decide_eq_true rfl))))
      exact by exact hret σ11 τ _ _ _ _ ⟨rfl, (fun i hi => (f13 i (imp_271 i hi))), (fun i hi => (f14 i (imp_272 i hi))), I28, I15, p16, p17, p18, (fun wa9 wb9 ok dg => by have x9 := w19 (-1) 0 ok (fun c hc _ => jrOv_0 wa9 wb9 c hc) ⟨by decide, by decide⟩ (by omega); rw [jrVd_of (by omega) (by omega) w7 ok (n := 5) (by omega), ← dg] at x9; exact ⟨jOr.leaf (by omega) x9 (Or.inr ⟨by omega, by omega, by omega⟩), fun z hz => congrFun ((f13 62 (of_decide_eq_true rfl))) z⟩), (by omega), (by omega), trivial⟩ hP hS dX12_orders_34
    · have kc27 := jnle c27 rfl rfl
      refine lv_aload_n hx hb dX12_orders_23 rfl (lv_at hl 1 rfl) ?_
      refine lv_iload hx hb dX12_orders_24 (lv_at hl 0 rfl) ?_
      refine jput (ty := .int) hx hb hts inlX12 tyX12 tyX12_ok nmX12 hown hK hP hJ hA hS (jc_55 cI cL ad σ11 τ) rfl (k := 46) (of_decide_eq_true rfl) (Nat.le_of_ble_eq_true rfl) (jp_55_46 cI cL ad σ11 τ r12) (hts _ kw_40_17) (fun _ h9 => h9) rfl (by decide +kernel) rfl rfl dX12_orders_26 (fun σ32 H locs eσ32 hP hS => ?_)
      refine lv_aload_n hx hb dX12_orders_29 rfl (lv_at hl 1 rfl) ?_
      refine lv_iload_n hx hb dX12_orders_30 rfl (lv_at hl 4 rfl) ?_
      refine jput (ty := .int) hx hb hts inlX12 tyX12 tyX12_ok nmX12 hown hK hP hJ hA hS (jc_55 cI cL ad σ32 τ) rfl (k := 45) (of_decide_eq_true rfl) (Nat.le_of_ble_eq_true rfl) (jp_55_45 cI cL ad σ32 τ a3) (hts _ kw_40_18) (fun _ h9 => h9) rfl (by decide +kernel) rfl rfl dX12_orders_31 (fun σ33 H locs eσ33 hP hS => ?_)
      have I34 : jI104 σ33 := jI104_fr ((jkp 10 eσ33 (of_decide_eq_true rfl)).trans ((jkp 10 eσ32 (of_decide_eq_true rfl)).trans (f14 10 (of_decide_eq_true rfl)))) ((jkp 12 eσ33 (of_decide_eq_true rfl)).trans ((jkp 12 eσ32 (of_decide_eq_true rfl)).trans (f14 12 (of_decide_eq_true rfl)))) ((jkp 13 eσ33 (of_decide_eq_true rfl)).trans ((jkp 13 eσ32 (of_decide_eq_true rfl)).trans (f14 13 (of_decide_eq_true rfl)))) ((jnp 62 eσ33 (of_decide_eq_true rfl)).trans ((jnp 62 eσ32 (of_decide_eq_true rfl)).trans (f13 62 (of_decide_eq_true rfl)))) ((jnp 67 eσ33 (of_decide_eq_true rfl)).trans ((jnp 67 eσ32 (of_decide_eq_true rfl)).trans (f13 67 (of_decide_eq_true rfl)))) hI104
      have I35 : jI119 σ33 := jI119_fr ((jnp 68 eσ33 (of_decide_eq_true rfl)).trans (jnp 68 eσ32 (of_decide_eq_true rfl))) I15
      have p36 : jKept σ33 := jKept.fr ((jnp 75 eσ33 (of_decide_eq_true rfl)).trans (jnp 75 eσ32 (of_decide_eq_true rfl))) ((jnp 76 eσ33 (of_decide_eq_true rfl)).trans (jnp 76 eσ32 (of_decide_eq_true rfl))) ((jnp 77 eσ33 (of_decide_eq_true rfl)).trans (jnp 77 eσ32 (of_decide_eq_true rfl))) p16
      have p37 : jTR σ33 := jTR.fr ((jnp 64 eσ33 (of_decide_eq_true rfl)).trans (jnp 64 eσ32 (of_decide_eq_true rfl))) ((jnp 65 eσ33 (of_decide_eq_true rfl)).trans (jnp 65 eσ32 (of_decide_eq_true rfl))) p17
      have p38 : jqSt σ33 := jqSt.fr ((jnp 78 eσ33 (of_decide_eq_true rfl)).trans (jnp 78 eσ32 (of_decide_eq_true rfl))) ((jkp 42 eσ33 (of_decide_eq_true rfl)).trans (jkp 42 eσ32 (of_decide_eq_true rfl))) p18
      have z39 : (σ33 55 10).toInt = (σ 55 10).toInt := (congrArg Int32.toInt (show σ33 55 10 = (σ 55 10) from ((jkp 10 eσ33 (of_decide_eq_true rfl)).trans ((jkp 10 eσ32 (of_decide_eq_true rfl)).trans (f14 10 (of_decide_eq_true rfl))))))
      have z40 : (σ33 55 46).toInt = r12.toInt := (congrArg Int32.toInt (show σ33 55 46 = r12 from ((jkp 46 eσ33 (of_decide_eq_true rfl)).trans (jsp eσ32))))
      have z41 : (σ33 55 45).toInt = A3 := ((congrArg Int32.toInt (show σ33 55 45 = a3 from (jsp eσ33))).trans t3)
      have z42 : (σ33 55 42).toInt = (σ11 55 42).toInt := (congrArg Int32.toInt (show σ33 55 42 = (σ11 55 42) from ((jkp 42 eσ33 (of_decide_eq_true rfl)).trans (jkp 42 eσ32 (of_decide_eq_true rfl)))))
      exact by exact hret σ33 τ _ _ _ _ ⟨rfl, (fun i hi => ((jnp i eσ33 (imp_273 i hi)).trans ((jnp i eσ32 (imp_273 i hi)).trans (f13 i (imp_271 i hi))))), (fun i hi => ((jkp i eσ33 (imp_274 i hi)).trans ((jkp i eσ32 (imp_275 i hi)).trans (f14 i (imp_272 i hi))))), I34, I35, p36, p37, p38, (fun wa9 wb9 ok dg => by have x9 := w19 (-1) 0 ok (fun c hc _ => jrOv_0 wa9 wb9 c hc) ⟨by decide, by decide⟩ (by omega); rw [jrVd_of (by omega) (by omega) w7 ok (n := 5) (by omega), ← dg] at x9; exact ⟨jOr.leaf (by omega) x9 (Or.inl ⟨by omega, by omega, by omega⟩), fun z hz => congrFun (((jnp 62 eσ33 (of_decide_eq_true rfl)).trans ((jnp 62 eσ32 (of_decide_eq_true rfl)).trans (f13 62 (of_decide_eq_true rfl))))) z⟩), (by omega), (by omega), trivial⟩ hP hS dX12_orders_34
set_option maxHeartbeats 4000000 in
set_option maxRecDepth 100000 in
theorem c_X12_orders_4 (l : Launch) (D : va_G) (cI cL : ClassId) (ad zz : Nat → Nat) (hJ : jD ad) (σ : Nat → Nat → Int32) (τ : Nat → Nat → Int64) (a2 : Int32) (A2 : Int) (t2 : a2.toInt = A2) (a3 : Int32) (A3 : Int) (t3 : a3.toInt = A3) (hI101 : jI101 σ) (hI102 : jI102 σ) (hI103 : jI103 σ) (hI104 : jI104 σ) (hI105 : jI105 σ) (hI106 : jI106 σ) (hI119 : jI119 σ) (hI111 : jI111 σ) (hs_jKept : jKept σ) (hs_jTR : jTR σ) (hs_jqSt : jqSt σ) (hp0 : (σ 55 10).toInt ≤ 5) (hp1 : 4 ≤ (σ 55 10).toInt) (hp2 : (σ 55 12).toInt ≤ 8) (hp3 : 0 ≤ A3 ∧ A3 ≤ 9999) (hp4 : 0 ≤ (σ 55 42).toInt ∧ (σ 55 42).toInt ≤ 999999992) : jMv l yX12_orders cX12_orders 6 none ({ frames := 105, cells := 0, slots := 0, locals := 5106 }) D cI cL ad zz [.ref (ad 55), .int 4, .int a2, .int a3] σ τ (fun σ' τ' => τ = τ' ∧ (∀ i : Nat, (i < 55 ∨ 55 < i) ∧ (i < 62 ∨ 62 < i) ∧ (i < 66 ∨ 66 < i) ∧ (i < 68 ∨ 69 < i) ∧ (i < 74 ∨ 78 < i) → σ' i = σ i) ∧ (∀ k : Nat, (k < 18 ∨ 18 < k) ∧ (k < 19 ∨ 19 < k) ∧ (k < 20 ∨ 20 < k) ∧ (k < 21 ∨ 21 < k) ∧ (k < 22 ∨ 22 < k) ∧ (k < 25 ∨ 25 < k) ∧ (k < 26 ∨ 26 < k) ∧ (k < 27 ∨ 27 < k) ∧ (k < 37 ∨ 37 < k) ∧ (k < 42 ∨ 42 < k) ∧ (k < 45 ∨ 45 < k) ∧ (k < 46 ∨ 46 < k) → σ' 55 k = σ 55 k) ∧ (jI104 σ') ∧ (jI119 σ') ∧ (jKept σ') ∧ (jTR σ') ∧ (jqSt σ') ∧ (((σ 55 30).toInt = -1 → (σ 55 31).toInt = -1 → jOk (σ 56) → A3 = jtD (fun z : Nat => (σ 62 z).toInt) 4 → (((σ' 55 46).toInt, (σ' 55 45).toInt) = jfr (jrVd σ) ((σ 55 46).toInt, (σ 55 45).toInt) (jolF ((σ 55 10).toInt - 4).toNat (A3) (fun t => jun a2 (σ 79) (t : Int) (σ 55 10).toInt.toNat)) ∧ ∀ z : Nat, z < 4 → σ' 62 z = σ 62 z))) ∧ ((σ 55 42).toInt ≤ (σ' 55 42).toInt) ∧ ((σ' 55 42).toInt ≤ (σ 55 42).toInt + 4) ∧ True) := by
  refine jMv.of hJ (by decide +kernel) rfl (Nat.le_of_ble_eq_true rfl) ?_
  intro p e s m args below meth c Q ls hC hret hl hP
  obtain ⟨hx, hb, hr, hml, hown, hts, hK, -, hlocks, hZ⟩ := hC
  have hown : s.vm.findClass RX12 = some m.cls := hown
  have hS : va_S (jA ad) s.heap s.heap [] := va_S.rf
  have hA : ∀ q, jA ad q → jA ad q := fun _ h => h
  have hl : lv_has ls 6 [(0, .ref (ad 55)), (1, .int 4), (2, .int a2), (3, .int a3)] := hl
  have g2 := jrg t2
  have g3 := jrg t3
  obtain ⟨i1, w2, w3⟩ : (0 ≤ (σ 55 6).toInt ∧ (σ 55 6).toInt ≤ 4) ∧ (∀ k : Nat, k < 4 → 0 ≤ (σ 60 k).toInt ∧ (σ 60 k).toInt ≤ 50) ∧ (∀ k : Nat, k < 4 → 0 ≤ (σ 61 k).toInt ∧ (σ 61 k).toInt ≤ 20) := id hI102
  obtain ⟨i4, i5, i6, w7, w8⟩ : (1 ≤ (σ 55 10).toInt ∧ (σ 55 10).toInt ≤ 8) ∧ (1 ≤ (σ 55 12).toInt ∧ (σ 55 12).toInt ≤ 12) ∧ (0 ≤ (σ 55 13).toInt ∧ (σ 55 13).toInt ≤ 999) ∧ (∀ k : Nat, k < 8 → 0 ≤ (σ 62 k).toInt ∧ (σ 62 k).toInt ≤ 3) ∧ (∀ k : Nat, k < 8 → 0 ≤ (σ 67 k).toInt ∧ (σ 67 k).toInt ≤ 3) := id hI104
  have w9 : ∀ k : Nat, k < 5 → 0 ≤ (σ 79 k).toInt ∧ (σ 79 k).toInt ≤ 3 := hI111
  refine lv_iload_n hx hb dX12_orders_0 rfl (lv_at hl 1 rfl) ?_
  refine lv_aload_n hx hb dX12_orders_1 rfl (lv_at hl 0 rfl) ?_
  refine va_get (D := D) hx hb hts inlX12 hown hK hP 55 (jc_55 cI cL ad σ τ) rfl 10 (of_decide_eq_true rfl) (hts _ kw_8_15) (fun _ h9 => h9) rfl dX12_orders_2 ?_
  refine lv_icmp_ne (tgt := 35) hx hb dX12_orders_5 (of_decide_eq_true rfl) (fun c10 => ?_) (fun c10 => ?_)
  · have kc10 := jne c10 jz_4 rfl
    refine lv_iconst (v := 0) hx hb dX12_orders_35 (of_decide_eq_true rfl) ?_
    refine lv_istore (lv' := [(4, .int 0), (0, .ref (ad 55)), (1, .int 4), (2, .int a2), (3, .int a3)]) hx hb dX12_orders_36 hl (of_decide_eq_true rfl) rfl (fun ls hl => ?_)
    have lp11 : ∀ (n12 : Nat) (x13 : Int32) (σ15 : Nat → Nat → Int32) (H : Heap) (locs : List Loc) (ls : Array Slot), (-x13.toInt + 4 : Int) < n12 → 0 ≤ x13.toInt → x13.toInt ≤ 4 → (σ 55 42).toInt ≤ (σ15 55 42).toInt → (σ15 55 42).toInt ≤ (σ 55 42).toInt + x13.toInt → (∀ i : Nat, (i < 55 ∨ 55 < i) ∧ (i < 62 ∨ 62 < i) ∧ (i < 66 ∨ 66 < i) ∧ (i < 68 ∨ 69 < i) ∧ (i < 74 ∨ 78 < i) → σ15 i = σ i) → (∀ k : Nat, (k < 18 ∨ 18 < k) ∧ (k < 19 ∨ 19 < k) ∧ (k < 20 ∨ 20 < k) ∧ (k < 21 ∨ 21 < k) ∧ (k < 22 ∨ 22 < k) ∧ (k < 25 ∨ 25 < k) ∧ (k < 26 ∨ 26 < k) ∧ (k < 27 ∨ 27 < k) ∧ (k < 37 ∨ 37 < k) ∧ (k < 42 ∨ 42 < k) ∧ (k < 45 ∨ 45 < k) ∧ (k < 46 ∨ 46 < k) → σ15 55 k = σ 55 k) → jKept σ15 → jqSt σ15 → jI104 σ15 → jI119 σ15 → (((σ 55 30).toInt = -1 → (σ 55 31).toInt = -1 → jOk (σ 56) → (A3) = jtD (fun z : Nat => (σ 62 z).toInt) 4 → (((σ15 55 46).toInt, (σ15 55 45).toInt) = jfr (jrVd σ) ((σ 55 46).toInt, (σ 55 45).toInt) (jolS ((σ 55 10).toInt - 5).toNat (A3) (fun t => jun a2 (σ 79) (t : Int) (σ 55 10).toInt.toNat) ((x13 : Int32).toInt).toNat) ∧ ∀ z : Nat, z < 4 → σ15 62 z = σ 62 z))) → jH D cI cL ad σ15 τ H → va_S (jA ad) s.heap H locs → lv_has ls 6 [(4, .int x13), (0, .ref (ad 55)), (1, .int 4), (2, .int a2), (3, .int a3)] → W p l e ({ frames := 105, cells := 0, slots := 0, locals := 5106 }) s m args below meth c H locs 0 0 Q (F0 m 38 ls []) := by
      intro n12
      induction n12 with
      | zero => intro x13 σ15 H locs ls h17 h18 h19 h20 h21; exact absurd h17 (by omega)
      | succ n12 ihlp11 =>
        intro x13 σ15 H locs ls h17 h18 h19 h20 h21 f22 f23 p24 p25 p26 p27 q28 hP hS hl
        exact by
         obtain ⟨i29, i30, i31, w32, w33⟩ : (1 ≤ (σ15 55 10).toInt ∧ (σ15 55 10).toInt ≤ 8) ∧ (1 ≤ (σ15 55 12).toInt ∧ (σ15 55 12).toInt ≤ 12) ∧ (0 ≤ (σ15 55 13).toInt ∧ (σ15 55 13).toInt ≤ 999) ∧ (∀ k : Nat, k < 8 → 0 ≤ (σ15 62 k).toInt ∧ (σ15 62 k).toInt ≤ 3) ∧ (∀ k : Nat, k < 8 → 0 ≤ (σ15 67 k).toInt ∧ (σ15 67 k).toInt ≤ 3) := id p26
         have z34 : (σ15 55 10).toInt = (σ 55 10).toInt := (congrArg Int32.toInt (show σ15 55 10 = (σ 55 10) from (f23 10 (of_decide_eq_true rfl))))
         have z35 : (σ15 55 12).toInt = (σ 55 12).toInt := (congrArg Int32.toInt (show σ15 55 12 = (σ 55 12) from (f23 12 (of_decide_eq_true rfl))))
         have z36 : (σ15 55 13).toInt = (σ 55 13).toInt := (congrArg Int32.toInt (show σ15 55 13 = (σ 55 13) from (f23 13 (of_decide_eq_true rfl))))
         refine lv_iload hx hb dX12_orders_38 (lv_at hl 0 rfl) ?_
         refine lv_iconst (v := 4) hx hb dX12_orders_40 (of_decide_eq_true rfl) ?_
         refine lv_icmp_ge (tgt := 127) hx hb dX12_orders_41 (of_decide_eq_true rfl) (fun c37 => ?_) (fun c37 => ?_)
         · have kc37 := jle c37 jz_4 rfl
           have p38 : jTR σ15 := jTR.fr (f22 64 (of_decide_eq_true rfl)) (f22 65 (of_decide_eq_true rfl)) hs_jTR
           exact by exact hret σ15 τ _ _ _ _ ⟨rfl, (fun i hi => (f22 i hi)), (fun i hi => (f23 i hi)), p26, p27, p24, p38, p25, (fun wa9 wb9 ok dg => ⟨jOr.fin (q28 wa9 wb9 ok dg).1 (by omega) (by omega), (q28 wa9 wb9 ok dg).2⟩), (by omega), (by omega), trivial⟩ hP hS dX12_orders_127
         · have kc37 := jnle c37 jz_4 rfl
           refine lv_iconst (v := 0) hx hb dX12_orders_44 (of_decide_eq_true rfl) ?_
           refine lv_istore (lv' := [(5, .int 0), (4, .int x13), (0, .ref (ad 55)), (1, .int 4), (2, .int a2), (3, .int a3)]) hx hb dX12_orders_45 hl (of_decide_eq_true rfl) rfl (fun ls hl => ?_)
           have lp39 : ∀ (n40 : Nat) (x41 : Int32) (H : Heap) (locs : List Loc) (ls : Array Slot), ((σ15 55 10).toInt - x41.toInt : Int) < n40 → 0 ≤ x41.toInt → x41.toInt ≤ 5 → x41.toInt ≤ (σ15 55 10).toInt → (jNl a2 (σ 79) (x13 : Int32).toInt (x41 : Int32).toInt) → jH D cI cL ad σ15 τ H → va_S (jA ad) s.heap H locs → lv_has ls 6 [(5, .int x41), (4, .int x13), (0, .ref (ad 55)), (1, .int 4), (2, .int a2), (3, .int a3)] → W p l e ({ frames := 105, cells := 0, slots := 0, locals := 5106 }) s m args below meth c H locs 0 0 Q (F0 m 47 ls []) := by
             intro n40
             induction n40 with
             | zero => intro x41 H locs ls h43 h44 h45 h46; exact absurd h43 (by omega)
             | succ n40 ihlp39 =>
               intro x41 H locs ls h43 h44 h45 h46 q48 hP hS hl
               exact by
                refine lv_iload hx hb dX12_orders_47 (lv_at hl 0 rfl) ?_
                refine lv_aload_n hx hb dX12_orders_49 rfl (lv_at hl 2 rfl) ?_
                refine va_get (D := D) hx hb hts inlX12 hown hK hP 55 (jc_55 cI cL ad σ15 τ) rfl 10 (of_decide_eq_true rfl) (hts _ kw_8_15) (fun _ h9 => h9) rfl dX12_orders_50 ?_
                have m49 : σ15 55 10 = (σ 55 10) := (f23 10 (of_decide_eq_true rfl))
                refine jtopr m49 ?_
                refine lv_icmp_ge (tgt := 84) hx hb dX12_orders_53 (of_decide_eq_true rfl) (fun c50 => ?_) (fun c50 => ?_)
                · have kc50 := jle c50 rfl rfl
                  refine lv_iload hx hb dX12_orders_84 (lv_at hl 0 rfl) ?_
                  refine lv_aload_n hx hb dX12_orders_86 rfl (lv_at hl 2 rfl) ?_
                  refine va_get (D := D) hx hb hts inlX12 hown hK hP 55 (jc_55 cI cL ad σ15 τ) rfl 10 (of_decide_eq_true rfl) (hts _ kw_8_15) (fun _ h9 => h9) rfl dX12_orders_87 ?_
                  refine jtopr m49 ?_
                  exact by
                   refine lv_icmp_ge (tgt := 121) hx hb dX12_orders_90 (of_decide_eq_true rfl) (fun c51 => ?_) (fun c => absurd (jnle c rfl rfl) (by omega))
                   have kc51 := jle c51 rfl rfl
                   obtain ⟨x52, ex52⟩ : ∃ y : Int32, y = x13 + 1 := ⟨_, rfl⟩
                   have tx52 : x52.toInt = x13.toInt + 1 := (jadd ex52 rfl jz_1 (by omega) (by omega)).trans (by omega)
                   refine lv_iinc (v := x52) (lv' := [(4, .int x52), (5, .int x41), (0, .ref (ad 55)), (1, .int 4), (2, .int a2), (3, .int a3)]) hx hb dX12_orders_121 hl (k := 1) rfl (by rw [ex52]; rfl) (of_decide_eq_true rfl) rfl (fun ls hl => ?_)
                   refine lv_goto (tgt := 38) hx hb dX12_orders_124 (of_decide_eq_true rfl) ?_
                   exact by exact ihlp11 x52 σ15 _ _ ls (by have h90 := tx52; omega) (by have h90 := tx52; omega) (by have h90 := tx52; omega) (by have h90 := tx52; omega) (by have h90 := tx52; omega) (fun i hi => (f22 i hi)) (fun i hi => (f23 i hi))  p24 p25 p26 p27 (fun wa9 wb9 ok dg => ⟨jOr.skip (q28 wa9 wb9 ok dg).1 (show jun a2 (σ 79) ((((x13 : Int32).toInt).toNat : Nat) : Int) (σ 55 10).toInt.toNat = 0 by rw [show ((((x13 : Int32).toInt).toNat : Nat) : Int) = (x13 : Int32).toInt by omega]; exact (jNl.none (σ 55 10).toInt.toNat q48 (by omega))) (by omega) (by have h9 := tx52; omega), (q28 wa9 wb9 ok dg).2⟩) hP hS (lv_sub hl [0, 2, 3, 4, 5] rfl)
                · have kc50 := jnle c50 rfl rfl
                  refine lv_iload_n hx hb dX12_orders_56 rfl (lv_at hl 4 rfl) ?_
                  exact by
                   refine lv_iload hx hb dX12_orders_57 (lv_at hl 0 rfl) ?_
                   refine lv_ishr hx hb dX12_orders_59 ?_
                   refine lv_topi (fun x53 ex53 => ?_)
                   have gx53 := jrg (rfl : x53.toInt = x53.toInt)
                   refine lv_iconst (v := 1) hx hb dX12_orders_60 (of_decide_eq_true rfl) ?_
                   refine lv_iand hx hb dX12_orders_61 ?_
                   refine lv_topi (fun x54 ex54 => ?_)
                   have gx54 := jrg (rfl : x54.toInt = x54.toInt)
                   have g55 : 0 ≤ x54.toInt ∧ x54.toInt ≤ 1 := jmask ex54 1 (of_decide_eq_true rfl) (of_decide_eq_true rfl)
                   refine lv_iconst (v := 1) hx hb dX12_orders_62 (of_decide_eq_true rfl) ?_
                   refine lv_icmp_eq (tgt := 78) hx hb dX12_orders_63 (of_decide_eq_true rfl) (fun c56 => ?_) (fun c56 => ?_)
                   · have kc56 := jeq c56 rfl jz_1
                     obtain ⟨x57, ex57⟩ : ∃ y : Int32, y = x41 + 1 := ⟨_, rfl⟩
                     exact by
                      have tx57 : x57.toInt = x41.toInt + 1 := (jadd ex57 rfl jz_1 (by omega) (by omega)).trans (by omega)
                      refine lv_iinc (v := x57) (lv' := [(5, .int x57), (4, .int x13), (0, .ref (ad 55)), (1, .int 4), (2, .int a2), (3, .int a3)]) hx hb dX12_orders_78 hl (k := 0) rfl (by rw [ex57]; rfl) (of_decide_eq_true rfl) rfl (fun ls hl => ?_)
                      refine lv_goto (tgt := 47) hx hb dX12_orders_81 (of_decide_eq_true rfl) ?_
                      exact by exact ihlp39 x57 _ _ ls (by have h90 := tx57; omega) (by have h90 := tx57; omega) (by have h90 := tx57; omega) (by have h90 := tx57; omega)   (jNl.step q48 (by omega) (fun w => by have w9 := (jtbit (a := a2) (i := x41) ex53 ex54 (by omega) (by omega)).mp (by omega); rw [w.1] at w9; exact absurd w9 (of_decide_eq_true rfl)) (by have h9 := tx57; omega)) hP hS (lv_sub hl [0, 1, 2, 3, 4, 5] rfl)
                   · have kc56 := jne c56 rfl jz_1
                     refine lv_aload_n hx hb dX12_orders_66 rfl (lv_at hl 2 rfl) ?_
                     refine va_get (D := D) hx hb hts inlX12 hown hK hP 55 (jc_55 cI cL ad σ15 τ) rfl 44 (of_decide_eq_true rfl) (hts _ kw_8_4) (fun _ h9 => h9) rfl dX12_orders_67 ?_
                     refine lv_iload hx hb dX12_orders_70 (lv_at hl 0 rfl) ?_
                     refine jald hx hb hK hP (jc_79 cI cL ad σ15 τ) (jin rfl (by omega) (by omega)) dX12_orders_72 ?_
                     exact by
                      have w58 : ∀ k : Nat, k < 5 → 0 ≤ (σ15 79 k).toInt ∧ (σ15 79 k).toInt ≤ 3 := (jrr_fr (f22 79 (of_decide_eq_true rfl)) w9)
                      have g59 := w58 _ (jnat (x := x41) rfl (n := 5) (by omega) (of_decide_eq_true rfl))
                      refine jtopr (y := (σ 79 x41.toNatClampNeg)) (by rw [f22 79 (of_decide_eq_true rfl)]) ?_
                      rw [f22 79 (of_decide_eq_true rfl)] at g59
                      refine lv_iload hx hb dX12_orders_73 (lv_at hl 1 rfl) ?_
                      refine lv_icmp_eq (tgt := 84) hx hb dX12_orders_75 (of_decide_eq_true rfl) (fun c60 => ?_) (fun c60 => ?_)
                      · have kc60 := jeq c60 rfl rfl
                        refine lv_iload hx hb dX12_orders_84 (lv_at hl 0 rfl) ?_
                        refine lv_aload_n hx hb dX12_orders_86 rfl (lv_at hl 2 rfl) ?_
                        exact by
                         refine va_get (D := D) hx hb hts inlX12 hown hK hP 55 (jc_55 cI cL ad σ15 τ) rfl 10 (of_decide_eq_true rfl) (hts _ kw_8_15) (fun _ h9 => h9) rfl dX12_orders_87 ?_
                         refine jtopr m49 ?_
                         refine lv_icmp_ge (tgt := 121) hx hb dX12_orders_90 (of_decide_eq_true rfl) (fun c => absurd (jle c rfl rfl) (by omega)) (fun c61 => ?_)
                         have kc61 := jnle c61 rfl rfl
                         refine lv_aload_n hx hb dX12_orders_93 rfl (lv_at hl 2 rfl) ?_
                         refine va_get (D := D) hx hb hts inlX12 hown hK hP 55 (jc_55 cI cL ad σ15 τ) rfl 11 (of_decide_eq_true rfl) (hts _ kw_7_8) (fun _ h9 => h9) rfl dX12_orders_94 ?_
                         refine lv_iload_n hx hb dX12_orders_97 rfl (lv_at hl 3 rfl) ?_
                         refine lv_iload hx hb dX12_orders_98 (lv_at hl 1 rfl) ?_
                         refine jast hx hb hK hP hJ hA hS (jc_62 cI cL ad σ15 τ) (ja_62 cI cL ad σ15 τ _ _) (jin jz_4 (by omega) (by omega)) dX12_orders_100 (fun σ62 H locs eσ62 hP hS => ?_)
                         exact by
                          have eσ62 : σ62 = jup σ15 62 4 x13 := eσ62
                          refine lv_aload_n hx hb dX12_orders_101 rfl (lv_at hl 2 rfl) ?_
                          refine lv_iload_n hx hb dX12_orders_102 rfl (lv_at hl 3 rfl) ?_
                          refine lv_iconst (v := 1) hx hb dX12_orders_103 (of_decide_eq_true rfl) ?_
                          refine lv_iadd hx hb dX12_orders_104 ?_
                          refine jtopr (y := 5) (of_decide_eq_true rfl) ?_
                          refine lv_iload_n hx hb dX12_orders_105 rfl (lv_at hl 4 rfl) ?_
                          refine lv_iconst (v := 1) hx hb dX12_orders_106 (of_decide_eq_true rfl) ?_
                          refine lv_iload hx hb dX12_orders_107 (lv_at hl 0 rfl) ?_
                          refine lv_ishl hx hb dX12_orders_109 ?_
                          refine lv_topi (fun x63 ex63 => ?_)
                          have gx63 := jrg (rfl : x63.toInt = x63.toInt)
                          refine lv_ior hx hb dX12_orders_110 ?_
                          refine lv_topi (fun x64 ex64 => ?_)
                          have gx64 := jrg (rfl : x64.toInt = x64.toInt)
                          refine lv_bipush (v := 10) hx hb dX12_orders_111 (of_decide_eq_true rfl) ?_
                          refine lv_iload_n hx hb dX12_orders_113 rfl (lv_at hl 5 rfl) ?_
                          refine lv_imul hx hb dX12_orders_114 ?_
                          refine lv_topi (fun x65 ex65 => ?_)
                          exact by
                           have tx65 : x65.toInt = 10 * A3 := (jmul ex65 jz_10 t3 (by omega) (by omega)).trans (by omega)
                           refine lv_iload hx hb dX12_orders_115 (lv_at hl 1 rfl) ?_
                           have g66 := jrg (rfl : x13.toInt = x13.toInt)
                           refine lv_iadd hx hb dX12_orders_117 ?_
                           refine lv_topi (fun x67 ex67 => ?_)
                           have tx67 : x67.toInt = 10 * A3 + x13.toInt := (jadd ex67 tx65 rfl (by omega) (by omega)).trans (by omega)
                           have I68 : jI101 σ62 := jI101_fr ((congrFun (jnp 55 eσ62 (of_decide_eq_true rfl)) 4).trans (f23 4 (of_decide_eq_true rfl))) ((congrFun (jnp 55 eσ62 (of_decide_eq_true rfl)) 5).trans (f23 5 (of_decide_eq_true rfl))) ((jnp 56 eσ62 (of_decide_eq_true rfl)).trans (f22 56 (of_decide_eq_true rfl))) ((jnp 57 eσ62 (of_decide_eq_true rfl)).trans (f22 57 (of_decide_eq_true rfl))) ((jnp 58 eσ62 (of_decide_eq_true rfl)).trans (f22 58 (of_decide_eq_true rfl))) ((jnp 59 eσ62 (of_decide_eq_true rfl)).trans (f22 59 (of_decide_eq_true rfl))) hI101
                           have I69 : jI102 σ62 := jI102_fr ((congrFun (jnp 55 eσ62 (of_decide_eq_true rfl)) 6).trans (f23 6 (of_decide_eq_true rfl))) ((jnp 60 eσ62 (of_decide_eq_true rfl)).trans (f22 60 (of_decide_eq_true rfl))) ((jnp 61 eσ62 (of_decide_eq_true rfl)).trans (f22 61 (of_decide_eq_true rfl))) hI102
                           have I70 : jI103 σ62 := jI103_fr ((congrFun (jnp 55 eσ62 (of_decide_eq_true rfl)) 9).trans (f23 9 (of_decide_eq_true rfl))) hI103
                           exact by
                            have z71 : (σ62 55 10).toInt = (σ 55 10).toInt := (congrArg Int32.toInt (show σ62 55 10 = (σ 55 10) from ((congrFun (jnp 55 eσ62 (of_decide_eq_true rfl)) 10).trans m49)))
                            have z72 : (σ62 55 12).toInt = (σ 55 12).toInt := (congrArg Int32.toInt (show σ62 55 12 = (σ 55 12) from ((congrFun (jnp 55 eσ62 (of_decide_eq_true rfl)) 12).trans (f23 12 (of_decide_eq_true rfl)))))
                            have z73 : (σ62 55 13).toInt = (σ 55 13).toInt := (congrArg Int32.toInt (show σ62 55 13 = (σ 55 13) from ((congrFun (jnp 55 eσ62 (of_decide_eq_true rfl)) 13).trans (f23 13 (of_decide_eq_true rfl)))))
                            have w74 : ∀ k : Nat, k < 8 → 0 ≤ (σ62 62 k).toInt ∧ (σ62 62 k).toInt ≤ 3 := (by rw [eσ62]; exact jrr_up w32 (by omega) (by omega))
                            have w75 : ∀ k : Nat, k < 8 → 0 ≤ (σ62 67 k).toInt ∧ (σ62 67 k).toInt ≤ 3 := (jrr_fr (jnp 67 eσ62 (of_decide_eq_true rfl)) w33)
                            have I76 : jI104 σ62 := ⟨(by omega), (by omega), (by omega), w74, w75⟩
                            have I77 : jI105 σ62 := jI105_fr ((congrFun (jnp 55 eσ62 (of_decide_eq_true rfl)) 15).trans (f23 15 (of_decide_eq_true rfl))) ((jnp 65 eσ62 (of_decide_eq_true rfl)).trans (f22 65 (of_decide_eq_true rfl))) hI105
                            have I78 : jI106 σ62 := jI106_fr ((congrFun (jnp 55 eσ62 (of_decide_eq_true rfl)) 32).trans (f23 32 (of_decide_eq_true rfl))) ((jnp 70 eσ62 (of_decide_eq_true rfl)).trans (f22 70 (of_decide_eq_true rfl))) ((jnp 71 eσ62 (of_decide_eq_true rfl)).trans (f22 71 (of_decide_eq_true rfl))) ((jnp 72 eσ62 (of_decide_eq_true rfl)).trans (f22 72 (of_decide_eq_true rfl))) hI106
                            have I79 : jI119 σ62 := jI119_fr (jnp 68 eσ62 (of_decide_eq_true rfl)) p27
                            exact by
                             have I80 : jI111 σ62 := jI111_fr ((jnp 79 eσ62 (of_decide_eq_true rfl)).trans (f22 79 (of_decide_eq_true rfl))) hI111
                             have p81 : jKept σ62 := jKept.fr (jnp 75 eσ62 (of_decide_eq_true rfl)) (jnp 76 eσ62 (of_decide_eq_true rfl)) (jnp 77 eσ62 (of_decide_eq_true rfl)) p24
                             have p82 : jTR σ62 := jTR.fr ((jnp 64 eσ62 (of_decide_eq_true rfl)).trans (f22 64 (of_decide_eq_true rfl))) ((jnp 65 eσ62 (of_decide_eq_true rfl)).trans (f22 65 (of_decide_eq_true rfl))) hs_jTR
                             have p83 : jqSt σ62 := jqSt.fr (jnp 78 eσ62 (of_decide_eq_true rfl)) (congrFun (jnp 55 eσ62 (of_decide_eq_true rfl)) 42) p25
                             have z84 : (σ62 55 42).toInt = (σ15 55 42).toInt := (congrArg Int32.toInt (show σ62 55 42 = (σ15 55 42) from (congrFun (jnp 55 eσ62 (of_decide_eq_true rfl)) 42)))
                             refine jcallVv (As := [.int 5, .int x64, .int x67]) (rest := []) ⟨hx, hb, hml, hown, hts⟩ hK hP hA hS hZ (c_X12_orders_5 l D cI cL ad zz hJ σ62 τ x64 (x64.toInt) rfl x67 (10 * A3 + x13.toInt) tx67 I68 I69 I70 I76 I77 I78 I79 I80 p81 p82 p83 (by omega) (by omega) (by omega) (by omega) (by omega)) cw_RX12_355 (jc_55 cI cL ad σ62 τ) rfl ⟨Nat.le_of_ble_eq_true rfl, Nat.le_of_ble_eq_true rfl⟩ rfl rfl rfl hl.1 rfl (Nat.le_of_ble_eq_true rfl) dX12_orders_118 ⟨Nat.zero_le _, Nat.zero_le _⟩ (fun σ85 τ85 H locs h85 hP hS => ?_)
                             obtain ⟨rfl, f87, f88, I89, I90, p91, p92, p93, w94, h85⟩ := h85
                             obtain ⟨i96, i97, i98, w99, w100⟩ : (1 ≤ (σ85 55 10).toInt ∧ (σ85 55 10).toInt ≤ 8) ∧ (1 ≤ (σ85 55 12).toInt ∧ (σ85 55 12).toInt ≤ 12) ∧ (0 ≤ (σ85 55 13).toInt ∧ (σ85 55 13).toInt ≤ 999) ∧ (∀ k : Nat, k < 8 → 0 ≤ (σ85 62 k).toInt ∧ (σ85 62 k).toInt ≤ 3) ∧ (∀ k : Nat, k < 8 → 0 ≤ (σ85 67 k).toInt ∧ (σ85 67 k).toInt ≤ 3) := id I89
                             have z101 : (σ85 55 10).toInt = (σ 55 10).toInt := (congrArg Int32.toInt (show σ85 55 10 = (σ 55 10) from ((f88 10 (of_decide_eq_true rfl)).trans ((congrFun (jnp 55 eσ62 (of_decide_eq_true rfl)) 10).trans m49))))
                             exact by
                              have z102 : (σ85 55 12).toInt = (σ 55 12).toInt := (congrArg Int32.toInt (show σ85 55 12 = (σ 55 12) from ((f88 12 (of_decide_eq_true rfl)).trans ((congrFun (jnp 55 eσ62 (of_decide_eq_true rfl)) 12).trans (f23 12 (of_decide_eq_true rfl))))))
                              have z103 : (σ85 55 13).toInt = (σ 55 13).toInt := (congrArg Int32.toInt (show σ85 55 13 = (σ 55 13) from ((f88 13 (of_decide_eq_true rfl)).trans ((congrFun (jnp 55 eσ62 (of_decide_eq_true rfl)) 13).trans (f23 13 (of_decide_eq_true rfl))))))
                              obtain ⟨k104, k105, h85⟩ := h85
                              obtain ⟨x106, ex106⟩ : ∃ y : Int32, y = x13 + 1 := ⟨_, rfl⟩
                              have tx106 : x106.toInt = x13.toInt + 1 := (jadd ex106 rfl jz_1 (by omega) (by omega)).trans (by omega)
                              refine lv_iinc (v := x106) (lv' := [(4, .int x106), (5, .int x41), (0, .ref (ad 55)), (1, .int 4), (2, .int a2), (3, .int a3)]) hx hb dX12_orders_121 hl (k := 1) rfl (by rw [ex106]; rfl) (of_decide_eq_true rfl) rfl (fun ls hl => ?_)
                              refine lv_goto (tgt := 38) hx hb dX12_orders_124 (of_decide_eq_true rfl) ?_
                              have z107 : (σ62 55 30).toInt = (σ 55 30).toInt := (congrArg Int32.toInt (show σ62 55 30 = (σ 55 30) from ((congrFun (jnp 55 eσ62 (of_decide_eq_true rfl)) 30).trans (f23 30 (of_decide_eq_true rfl)))))
                              have z108 : (σ62 55 31).toInt = (σ 55 31).toInt := (congrArg Int32.toInt (show σ62 55 31 = (σ 55 31) from ((congrFun (jnp 55 eσ62 (of_decide_eq_true rfl)) 31).trans (f23 31 (of_decide_eq_true rfl)))))
                              exact by
                               have z109 : (σ62 55 46).toInt = (σ15 55 46).toInt := (congrArg Int32.toInt (show σ62 55 46 = (σ15 55 46) from (congrFun (jnp 55 eσ62 (of_decide_eq_true rfl)) 46)))
                               have z110 : (σ62 55 45).toInt = (σ15 55 45).toInt := (congrArg Int32.toInt (show σ62 55 45 = (σ15 55 45) from (congrFun (jnp 55 eσ62 (of_decide_eq_true rfl)) 45)))
                               have k111 : (σ 55 30).toInt = -1 → (σ 55 31).toInt = -1 → jOk (σ 56) → (A3) = jtD (fun z : Nat => (σ 62 z).toInt) 4 → (((σ85 55 46).toInt, (σ85 55 45).toInt) = jfr (jrVd σ) ((σ 55 46).toInt, (σ 55 45).toInt) (jolS ((σ 55 10).toInt - 5).toNat (A3) (fun t => jun a2 (σ 79) (t : Int) (σ 55 10).toInt.toNat) ((x106 : Int32).toInt).toNat) ∧ ∀ z : Nat, z < 4 → σ85 62 z = σ 62 z) := fun wa9 wb9 ok dg => by
                                 have q9 := q28 wa9 wb9 ok dg
                                 have f9 : ∀ z : Nat, z < 4 → σ62 62 z = σ 62 z := fun z hz => ((jkp z eσ62 (by omega)).trans (q9.2 z hz))
                                 have s9 : (σ62 62 4).toInt = (x13 : Int32).toInt := by rw [show σ62 62 4 = x13 from (jsp eσ62)]
                                 have d9 : 10 * A3 + x13.toInt = jtD (fun z : Nat => (σ62 62 z).toInt) 5 := by
                                   show _ = 10 * jtD (fun z : Nat => (σ62 62 z).toInt) 4 + (σ62 62 4).toInt
                                   rw [jtD_cong (g := fun z : Nat => (σ 62 z).toInt) 4 (fun z hz => by show (σ62 62 z).toInt = (σ 62 z).toInt; rw [f9 z hz]), ← dg, s9] <;> omega
                                 exact by
                                  have r9 := w94 (by omega) (by omega) (by rw [show σ62 56 = σ 56 from ((jnp 56 eσ62 (of_decide_eq_true rfl)).trans (f22 56 (of_decide_eq_true rfl)))]; exact ok) d9
                                  have e79 : σ62 79 = σ 79 := ((jnp 79 eσ62 (of_decide_eq_true rfl)).trans (f22 79 (of_decide_eq_true rfl)))
                                  have e10 : σ62 55 10 = σ 55 10 := ((congrFun (jnp 55 eσ62 (of_decide_eq_true rfl)) 10).trans (f23 10 (of_decide_eq_true rfl)))
                                  have bit : a2.toBitVec.getLsbD ((x41 : Int32).toInt).toNat = false := (by have w9 := (jtbit (a := a2) (i := x41) ex53 ex54 (by omega) (by omega)); cases hb9 : a2.toBitVec.getLsbD ((x41 : Int32).toInt).toNat with | false => rfl | true => exact absurd (w9.mpr hb9) (by omega))
                                  have own : (σ 79 ((x41 : Int32).toInt).toNat).toInt = (x13 : Int32).toInt := by show (σ 79 x41.toNatClampNeg).toInt = (x13 : Int32).toInt; omega
                                  have tk := fun t : Int => jun_take (f := σ 79) (i := ((x41 : Int32).toInt).toNat) (fun z hz => jtor (i := x41) ex63 ex64 (by omega) (by omega) z hz) bit t (σ 55 10).toInt.toNat (by omega)
                                  have m9 : (σ62 55 46).toInt = (σ15 55 46).toInt ∧ (σ62 55 45).toInt = (σ15 55 45).toInt := ⟨by rw [show σ62 55 46 = σ15 55 46 from (congrFun (jnp 55 eσ62 (of_decide_eq_true rfl)) 46)], by rw [show σ62 55 45 = σ15 55 45 from (congrFun (jnp 55 eσ62 (of_decide_eq_true rfl)) 45)]⟩
                                  have r1 := r9.1
                                  rw [m9.1, m9.2, e79, e10] at r1
                                  exact by
                                   refine ⟨jOr.step q9.1 r1 (jrVd_eq (σ := σ) (u := σ62) ((jnp 56 eσ62 (of_decide_eq_true rfl)).trans (f22 56 (of_decide_eq_true rfl))) ((jnp 60 eσ62 (of_decide_eq_true rfl)).trans (f22 60 (of_decide_eq_true rfl))) ((jnp 61 eσ62 (of_decide_eq_true rfl)).trans (f22 61 (of_decide_eq_true rfl))) ((jnp 64 eσ62 (of_decide_eq_true rfl)).trans (f22 64 (of_decide_eq_true rfl))) ((jnp 65 eσ62 (of_decide_eq_true rfl)).trans (f22 65 (of_decide_eq_true rfl))) ((congrFun (jnp 55 eσ62 (of_decide_eq_true rfl)) 6).trans (f23 6 (of_decide_eq_true rfl))) ((congrFun (jnp 55 eσ62 (of_decide_eq_true rfl)) 9).trans (f23 9 (of_decide_eq_true rfl))) ((congrFun (jnp 55 eσ62 (of_decide_eq_true rfl)) 10).trans (f23 10 (of_decide_eq_true rfl))) ((congrFun (jnp 55 eσ62 (of_decide_eq_true rfl)) 12).trans (f23 12 (of_decide_eq_true rfl))) ((congrFun (jnp 55 eσ62 (of_decide_eq_true rfl)) 13).trans (f23 13 (of_decide_eq_true rfl)))) (by omega) (by omega) (show 0 < jun a2 (σ 79) ((((x13 : Int32).toInt).toNat : Nat) : Int) (σ 55 10).toInt.toNat by have w9 := tk ((((x13 : Int32).toInt).toNat : Nat) : Int); rw [if_pos ⟨by omega, by rw [own]; omega⟩] at w9; omega) (fun t ht => by have w9 := tk (t : Int); rw [own] at w9; exact (Classical.em (t = ((x13 : Int32).toInt).toNat)).elim (fun c9 => by rw [if_pos c9]; rw [if_pos ⟨by omega, by omega⟩] at w9; exact w9) (fun c9 => by rw [if_neg c9]; rw [if_neg (fun y => c9 (by have := y.2; omega))] at w9; exact w9)) (by omega) (by have h9 := tx106; omega), fun z hz => (r9.2 z (by omega)).trans (f9 z hz)⟩
                               exact by exact ihlp11 x106 σ85 _ _ ls (by have h90 := tx106; omega) (by have h90 := tx106; omega) (by have h90 := tx106; omega) (by have h90 := tx106; omega) (by have h90 := tx106; omega) (fun i hi => ((f87 i hi).trans ((jnp i eσ62 (imp_276 i hi)).trans (f22 i hi)))) (fun i hi => ((f88 i hi).trans ((congrFun (jnp 55 eσ62 (of_decide_eq_true rfl)) i).trans (f23 i hi))))  p91 p93 I89 I90 k111 hP hS (lv_sub hl [0, 2, 3, 4, 5] rfl)
                      · have kc60 := jne c60 rfl rfl
                        obtain ⟨x112, ex112⟩ : ∃ y : Int32, y = x41 + 1 := ⟨_, rfl⟩
                        have tx112 : x112.toInt = x41.toInt + 1 := (jadd ex112 rfl jz_1 (by omega) (by omega)).trans (by omega)
                        refine lv_iinc (v := x112) (lv' := [(5, .int x112), (4, .int x13), (0, .ref (ad 55)), (1, .int 4), (2, .int a2), (3, .int a3)]) hx hb dX12_orders_78 hl (k := 0) rfl (by rw [ex112]; rfl) (of_decide_eq_true rfl) rfl (fun ls hl => ?_)
                        refine lv_goto (tgt := 47) hx hb dX12_orders_81 (of_decide_eq_true rfl) ?_
                        exact by exact ihlp39 x112 _ _ ls (by have h90 := tx112; omega) (by have h90 := tx112; omega) (by have h90 := tx112; omega) (by have h90 := tx112; omega)   (jNl.step q48 (by omega) (fun w => absurd w.2 (by show ¬ (σ 79 x41.toNatClampNeg).toInt = (x13 : Int32).toInt; omega)) (by have h9 := tx112; omega)) hP hS (lv_sub hl [0, 1, 2, 3, 4, 5] rfl)
           exact by exact lp39 1000000 0 _ _ ls (by have h90 := jz_0; omega) (by have h90 := jz_0; omega) (by have h90 := jz_0; omega) (by have h90 := jz_0; omega)  (jNl.first (by have h9 := jz_0; omega)) hP hS hl
    exact by exact lp11 1000000 0 σ _ _ ls (by have h90 := jz_0; omega) (by have h90 := jz_0; omega) (by have h90 := jz_0; omega) (by have h90 := jz_0; omega) (by have h90 := jz_0; omega) (fun _ _ => rfl) (fun _ _ => rfl)  hs_jKept hs_jqSt hI104 hI119 (fun _ _ _ _ => ⟨jOr.first (by omega) (by omega) (by have h9 := jz_0; omega), fun z hz => rfl⟩) hP hS hl
  · exact by
     have kc10 := jeq c10 jz_4 rfl
     refine lv_aload_n hx hb dX12_orders_8 rfl (lv_at hl 0 rfl) ?_
     refine jcallV (As := []) (rest := []) ⟨hx, hb, hml, hown, hts⟩ hK hP hA hS hZ (c_X12_bestNow l D cI cL ad zz hJ σ τ hI101 hI102 hI103 hI104 hI105 hI106 hI119 hs_jKept hs_jTR hs_jqSt (by omega) (by omega)) cw_RX12_346 (jc_55 cI cL ad σ τ) rfl ⟨Nat.le_of_ble_eq_true rfl, Nat.le_of_ble_eq_true rfl⟩ rfl rfl rfl hl.1 rfl (Nat.le_of_ble_eq_true rfl) dX12_orders_9 ⟨Nat.zero_le _, Nat.zero_le _⟩ (fun r114 σ113 τ113 H locs h113 hP hS => ?_)
     obtain ⟨rfl, f115, f116, I117, p118, p119, p120, w121, h113⟩ := h113
     obtain ⟨k123, k124, h113⟩ := h113
     have h125 := h113
     obtain ⟨q127, k126⟩ := h125
     refine lv_istore (lv' := [(4, .int r114), (0, .ref (ad 55)), (1, .int 4), (2, .int a2), (3, .int a3)]) hx hb dX12_orders_12 hl (of_decide_eq_true rfl) rfl (fun ls hl => ?_)
     refine lv_iload hx hb dX12_orders_14 (lv_at hl 0 rfl) ?_
     exact by
      refine lv_aload_n hx hb dX12_orders_16 rfl (lv_at hl 1 rfl) ?_
      refine va_get (D := D) hx hb hts inlX12 hown hK hP 55 (jc_55 cI cL ad σ113 τ) rfl 46 (of_decide_eq_true rfl) (hts _ kw_40_17) (fun _ h9 => h9) rfl dX12_orders_17 ?_
      have m128 : σ113 55 46 = (σ 55 46) := (f116 46 (of_decide_eq_true rfl))
      refine jtopr m128 ?_
      refine lv_icmp_le (tgt := 34) hx hb dX12_orders_20 (of_decide_eq_true rfl) (fun c129 => ?_) (fun c129 => ?_)
      · have kc129 := jle c129 rfl rfl
        have I130 : jI104 σ113 := jI104_fr (f116 10 (of_decide_eq_true rfl)) (f116 12 (of_decide_eq_true rfl)) (f116 13 (of_decide_eq_true rfl)) (f115 62 (of_decide_eq_true rfl)) (f115 67 (of_decide_eq_true rfl)) hI104
        have z131 : (σ113 55 10).toInt = (σ 55 10).toInt := (congrArg Int32.toInt (show σ113 55 10 = (σ 55 10) from (f116 10 (of_decide_eq_true rfl))))
        have z132 : (σ113 55 46).toInt = (σ 55 46).toInt := (congrArg Int32.toInt (show σ113 55 46 = (σ 55 46) from m128))
        have z133 : (σ113 55 45).toInt = (σ 55 45).toInt := (congrArg Int32.toInt (show σ113 55 45 = (σ 55 45) from (f116 45 (of_decide_eq_true rfl))))
        exact by exact hret σ113 τ _ _ _ _ ⟨rfl, (fun i hi => (f115 i (imp_271 i hi))), (fun i hi => (f116 i (imp_272 i hi))), I130, I117, p118, p119, p120, (fun wa9 wb9 ok dg => by have x9 := w121 (-1) 0 ok (fun c hc _ => jrOv_0 wa9 wb9 c hc) ⟨by decide, by decide⟩ (by omega); rw [jrVd_of (by omega) (by omega) w7 ok (n := 4) (by omega), ← dg] at x9; exact ⟨jOr.leaf (by omega) x9 (Or.inr ⟨by omega, by omega, by omega⟩), fun z hz => congrFun ((f115 62 (of_decide_eq_true rfl))) z⟩), (by omega), (by omega), trivial⟩ hP hS dX12_orders_34
      · have kc129 := jnle c129 rfl rfl
        refine lv_aload_n hx hb dX12_orders_23 rfl (lv_at hl 1 rfl) ?_
        refine lv_iload hx hb dX12_orders_24 (lv_at hl 0 rfl) ?_
        refine jput (ty := .int) hx hb hts inlX12 tyX12 tyX12_ok nmX12 hown hK hP hJ hA hS (jc_55 cI cL ad σ113 τ) rfl (k := 46) (of_decide_eq_true rfl) (Nat.le_of_ble_eq_true rfl) (jp_55_46 cI cL ad σ113 τ r114) (hts _ kw_40_17) (fun _ h9 => h9) rfl (by decide +kernel) rfl rfl dX12_orders_26 (fun σ134 H locs eσ134 hP hS => ?_)
        refine lv_aload_n hx hb dX12_orders_29 rfl (lv_at hl 1 rfl) ?_
        refine lv_iload_n hx hb dX12_orders_30 rfl (lv_at hl 4 rfl) ?_
        refine jput (ty := .int) hx hb hts inlX12 tyX12 tyX12_ok nmX12 hown hK hP hJ hA hS (jc_55 cI cL ad σ134 τ) rfl (k := 45) (of_decide_eq_true rfl) (Nat.le_of_ble_eq_true rfl) (jp_55_45 cI cL ad σ134 τ a3) (hts _ kw_40_18) (fun _ h9 => h9) rfl (by decide +kernel) rfl rfl dX12_orders_31 (fun σ135 H locs eσ135 hP hS => ?_)
        have I136 : jI104 σ135 := jI104_fr ((jkp 10 eσ135 (of_decide_eq_true rfl)).trans ((jkp 10 eσ134 (of_decide_eq_true rfl)).trans (f116 10 (of_decide_eq_true rfl)))) ((jkp 12 eσ135 (of_decide_eq_true rfl)).trans ((jkp 12 eσ134 (of_decide_eq_true rfl)).trans (f116 12 (of_decide_eq_true rfl)))) ((jkp 13 eσ135 (of_decide_eq_true rfl)).trans ((jkp 13 eσ134 (of_decide_eq_true rfl)).trans (f116 13 (of_decide_eq_true rfl)))) ((jnp 62 eσ135 (of_decide_eq_true rfl)).trans ((jnp 62 eσ134 (of_decide_eq_true rfl)).trans (f115 62 (of_decide_eq_true rfl)))) ((jnp 67 eσ135 (of_decide_eq_true rfl)).trans ((jnp 67 eσ134 (of_decide_eq_true rfl)).trans (f115 67 (of_decide_eq_true rfl)))) hI104
        have I137 : jI119 σ135 := jI119_fr ((jnp 68 eσ135 (of_decide_eq_true rfl)).trans (jnp 68 eσ134 (of_decide_eq_true rfl))) I117
        have p138 : jKept σ135 := jKept.fr ((jnp 75 eσ135 (of_decide_eq_true rfl)).trans (jnp 75 eσ134 (of_decide_eq_true rfl))) ((jnp 76 eσ135 (of_decide_eq_true rfl)).trans (jnp 76 eσ134 (of_decide_eq_true rfl))) ((jnp 77 eσ135 (of_decide_eq_true rfl)).trans (jnp 77 eσ134 (of_decide_eq_true rfl))) p118
        have p139 : jTR σ135 := jTR.fr ((jnp 64 eσ135 (of_decide_eq_true rfl)).trans (jnp 64 eσ134 (of_decide_eq_true rfl))) ((jnp 65 eσ135 (of_decide_eq_true rfl)).trans (jnp 65 eσ134 (of_decide_eq_true rfl))) p119
        have p140 : jqSt σ135 := jqSt.fr ((jnp 78 eσ135 (of_decide_eq_true rfl)).trans (jnp 78 eσ134 (of_decide_eq_true rfl))) ((jkp 42 eσ135 (of_decide_eq_true rfl)).trans (jkp 42 eσ134 (of_decide_eq_true rfl))) p120
        have z141 : (σ135 55 10).toInt = (σ 55 10).toInt := (congrArg Int32.toInt (show σ135 55 10 = (σ 55 10) from ((jkp 10 eσ135 (of_decide_eq_true rfl)).trans ((jkp 10 eσ134 (of_decide_eq_true rfl)).trans (f116 10 (of_decide_eq_true rfl))))))
        have z142 : (σ135 55 46).toInt = r114.toInt := (congrArg Int32.toInt (show σ135 55 46 = r114 from ((jkp 46 eσ135 (of_decide_eq_true rfl)).trans (jsp eσ134))))
        have z143 : (σ135 55 45).toInt = A3 := ((congrArg Int32.toInt (show σ135 55 45 = a3 from (jsp eσ135))).trans t3)
        have z144 : (σ135 55 42).toInt = (σ113 55 42).toInt := (congrArg Int32.toInt (show σ135 55 42 = (σ113 55 42) from ((jkp 42 eσ135 (of_decide_eq_true rfl)).trans (jkp 42 eσ134 (of_decide_eq_true rfl)))))
        exact by exact hret σ135 τ _ _ _ _ ⟨rfl, (fun i hi => ((jnp i eσ135 (imp_273 i hi)).trans ((jnp i eσ134 (imp_273 i hi)).trans (f115 i (imp_271 i hi))))), (fun i hi => ((jkp i eσ135 (imp_274 i hi)).trans ((jkp i eσ134 (imp_275 i hi)).trans (f116 i (imp_272 i hi))))), I136, I137, p138, p139, p140, (fun wa9 wb9 ok dg => by have x9 := w121 (-1) 0 ok (fun c hc _ => jrOv_0 wa9 wb9 c hc) ⟨by decide, by decide⟩ (by omega); rw [jrVd_of (by omega) (by omega) w7 ok (n := 4) (by omega), ← dg] at x9; exact ⟨jOr.leaf (by omega) x9 (Or.inl ⟨by omega, by omega, by omega⟩), fun z hz => congrFun (((jnp 62 eσ135 (of_decide_eq_true rfl)).trans ((jnp 62 eσ134 (of_decide_eq_true rfl)).trans (f115 62 (of_decide_eq_true rfl))))) z⟩), (by omega), (by omega), trivial⟩ hP hS dX12_orders_34
set_option maxHeartbeats 4000000 in
set_option maxRecDepth 100000 in
theorem c_X12_orders_3 (l : Launch) (D : va_G) (cI cL : ClassId) (ad zz : Nat → Nat) (hJ : jD ad) (σ : Nat → Nat → Int32) (τ : Nat → Nat → Int64) (a2 : Int32) (A2 : Int) (t2 : a2.toInt = A2) (a3 : Int32) (A3 : Int) (t3 : a3.toInt = A3) (hI101 : jI101 σ) (hI102 : jI102 σ) (hI103 : jI103 σ) (hI104 : jI104 σ) (hI105 : jI105 σ) (hI106 : jI106 σ) (hI119 : jI119 σ) (hI111 : jI111 σ) (hs_jKept : jKept σ) (hs_jTR : jTR σ) (hs_jqSt : jqSt σ) (hp0 : (σ 55 10).toInt ≤ 5) (hp1 : 3 ≤ (σ 55 10).toInt) (hp2 : (σ 55 12).toInt ≤ 8) (hp3 : 0 ≤ A3 ∧ A3 ≤ 999) (hp4 : 0 ≤ (σ 55 42).toInt ∧ (σ 55 42).toInt ≤ 999999968) : jMv l yX12_orders cX12_orders 6 none ({ frames := 106, cells := 0, slots := 0, locals := 5131 }) D cI cL ad zz [.ref (ad 55), .int 3, .int a2, .int a3] σ τ (fun σ' τ' => τ = τ' ∧ (∀ i : Nat, (i < 55 ∨ 55 < i) ∧ (i < 62 ∨ 62 < i) ∧ (i < 66 ∨ 66 < i) ∧ (i < 68 ∨ 69 < i) ∧ (i < 74 ∨ 78 < i) → σ' i = σ i) ∧ (∀ k : Nat, (k < 18 ∨ 18 < k) ∧ (k < 19 ∨ 19 < k) ∧ (k < 20 ∨ 20 < k) ∧ (k < 21 ∨ 21 < k) ∧ (k < 22 ∨ 22 < k) ∧ (k < 25 ∨ 25 < k) ∧ (k < 26 ∨ 26 < k) ∧ (k < 27 ∨ 27 < k) ∧ (k < 37 ∨ 37 < k) ∧ (k < 42 ∨ 42 < k) ∧ (k < 45 ∨ 45 < k) ∧ (k < 46 ∨ 46 < k) → σ' 55 k = σ 55 k) ∧ (jI104 σ') ∧ (jI119 σ') ∧ (jKept σ') ∧ (jTR σ') ∧ (jqSt σ') ∧ (((σ 55 30).toInt = -1 → (σ 55 31).toInt = -1 → jOk (σ 56) → A3 = jtD (fun z : Nat => (σ 62 z).toInt) 3 → (((σ' 55 46).toInt, (σ' 55 45).toInt) = jfr (jrVd σ) ((σ 55 46).toInt, (σ 55 45).toInt) (jolF ((σ 55 10).toInt - 3).toNat (A3) (fun t => jun a2 (σ 79) (t : Int) (σ 55 10).toInt.toNat)) ∧ ∀ z : Nat, z < 3 → σ' 62 z = σ 62 z))) ∧ ((σ 55 42).toInt ≤ (σ' 55 42).toInt) ∧ ((σ' 55 42).toInt ≤ (σ 55 42).toInt + 16) ∧ True) := by
  refine jMv.of hJ (by decide +kernel) rfl (Nat.le_of_ble_eq_true rfl) ?_
  intro p e s m args below meth c Q ls hC hret hl hP
  obtain ⟨hx, hb, hr, hml, hown, hts, hK, -, hlocks, hZ⟩ := hC
  have hown : s.vm.findClass RX12 = some m.cls := hown
  have hS : va_S (jA ad) s.heap s.heap [] := va_S.rf
  have hA : ∀ q, jA ad q → jA ad q := fun _ h => h
  have hl : lv_has ls 6 [(0, .ref (ad 55)), (1, .int 3), (2, .int a2), (3, .int a3)] := hl
  have g2 := jrg t2
  have g3 := jrg t3
  obtain ⟨i1, w2, w3⟩ : (0 ≤ (σ 55 6).toInt ∧ (σ 55 6).toInt ≤ 4) ∧ (∀ k : Nat, k < 4 → 0 ≤ (σ 60 k).toInt ∧ (σ 60 k).toInt ≤ 50) ∧ (∀ k : Nat, k < 4 → 0 ≤ (σ 61 k).toInt ∧ (σ 61 k).toInt ≤ 20) := id hI102
  obtain ⟨i4, i5, i6, w7, w8⟩ : (1 ≤ (σ 55 10).toInt ∧ (σ 55 10).toInt ≤ 8) ∧ (1 ≤ (σ 55 12).toInt ∧ (σ 55 12).toInt ≤ 12) ∧ (0 ≤ (σ 55 13).toInt ∧ (σ 55 13).toInt ≤ 999) ∧ (∀ k : Nat, k < 8 → 0 ≤ (σ 62 k).toInt ∧ (σ 62 k).toInt ≤ 3) ∧ (∀ k : Nat, k < 8 → 0 ≤ (σ 67 k).toInt ∧ (σ 67 k).toInt ≤ 3) := id hI104
  have w9 : ∀ k : Nat, k < 5 → 0 ≤ (σ 79 k).toInt ∧ (σ 79 k).toInt ≤ 3 := hI111
  refine lv_iload_n hx hb dX12_orders_0 rfl (lv_at hl 1 rfl) ?_
  refine lv_aload_n hx hb dX12_orders_1 rfl (lv_at hl 0 rfl) ?_
  refine va_get (D := D) hx hb hts inlX12 hown hK hP 55 (jc_55 cI cL ad σ τ) rfl 10 (of_decide_eq_true rfl) (hts _ kw_8_15) (fun _ h9 => h9) rfl dX12_orders_2 ?_
  refine lv_icmp_ne (tgt := 35) hx hb dX12_orders_5 (of_decide_eq_true rfl) (fun c10 => ?_) (fun c10 => ?_)
  · have kc10 := jne c10 jz_3 rfl
    refine lv_iconst (v := 0) hx hb dX12_orders_35 (of_decide_eq_true rfl) ?_
    refine lv_istore (lv' := [(4, .int 0), (0, .ref (ad 55)), (1, .int 3), (2, .int a2), (3, .int a3)]) hx hb dX12_orders_36 hl (of_decide_eq_true rfl) rfl (fun ls hl => ?_)
    have lp11 : ∀ (n12 : Nat) (x13 : Int32) (σ15 : Nat → Nat → Int32) (H : Heap) (locs : List Loc) (ls : Array Slot), (-x13.toInt + 4 : Int) < n12 → 0 ≤ x13.toInt → x13.toInt ≤ 4 → (σ 55 42).toInt ≤ (σ15 55 42).toInt → (σ15 55 42).toInt ≤ (σ 55 42).toInt + 4 * x13.toInt → (∀ i : Nat, (i < 55 ∨ 55 < i) ∧ (i < 62 ∨ 62 < i) ∧ (i < 66 ∨ 66 < i) ∧ (i < 68 ∨ 69 < i) ∧ (i < 74 ∨ 78 < i) → σ15 i = σ i) → (∀ k : Nat, (k < 18 ∨ 18 < k) ∧ (k < 19 ∨ 19 < k) ∧ (k < 20 ∨ 20 < k) ∧ (k < 21 ∨ 21 < k) ∧ (k < 22 ∨ 22 < k) ∧ (k < 25 ∨ 25 < k) ∧ (k < 26 ∨ 26 < k) ∧ (k < 27 ∨ 27 < k) ∧ (k < 37 ∨ 37 < k) ∧ (k < 42 ∨ 42 < k) ∧ (k < 45 ∨ 45 < k) ∧ (k < 46 ∨ 46 < k) → σ15 55 k = σ 55 k) → jKept σ15 → jqSt σ15 → jI104 σ15 → jI119 σ15 → (((σ 55 30).toInt = -1 → (σ 55 31).toInt = -1 → jOk (σ 56) → (A3) = jtD (fun z : Nat => (σ 62 z).toInt) 3 → (((σ15 55 46).toInt, (σ15 55 45).toInt) = jfr (jrVd σ) ((σ 55 46).toInt, (σ 55 45).toInt) (jolS ((σ 55 10).toInt - 4).toNat (A3) (fun t => jun a2 (σ 79) (t : Int) (σ 55 10).toInt.toNat) ((x13 : Int32).toInt).toNat) ∧ ∀ z : Nat, z < 3 → σ15 62 z = σ 62 z))) → jH D cI cL ad σ15 τ H → va_S (jA ad) s.heap H locs → lv_has ls 6 [(4, .int x13), (0, .ref (ad 55)), (1, .int 3), (2, .int a2), (3, .int a3)] → W p l e ({ frames := 106, cells := 0, slots := 0, locals := 5131 }) s m args below meth c H locs 0 0 Q (F0 m 38 ls []) := by
      intro n12
      induction n12 with
      | zero => intro x13 σ15 H locs ls h17 h18 h19 h20 h21; exact absurd h17 (by omega)
      | succ n12 ihlp11 =>
        intro x13 σ15 H locs ls h17 h18 h19 h20 h21 f22 f23 p24 p25 p26 p27 q28 hP hS hl
        exact by
         obtain ⟨i29, i30, i31, w32, w33⟩ : (1 ≤ (σ15 55 10).toInt ∧ (σ15 55 10).toInt ≤ 8) ∧ (1 ≤ (σ15 55 12).toInt ∧ (σ15 55 12).toInt ≤ 12) ∧ (0 ≤ (σ15 55 13).toInt ∧ (σ15 55 13).toInt ≤ 999) ∧ (∀ k : Nat, k < 8 → 0 ≤ (σ15 62 k).toInt ∧ (σ15 62 k).toInt ≤ 3) ∧ (∀ k : Nat, k < 8 → 0 ≤ (σ15 67 k).toInt ∧ (σ15 67 k).toInt ≤ 3) := id p26
         have z34 : (σ15 55 10).toInt = (σ 55 10).toInt := (congrArg Int32.toInt (show σ15 55 10 = (σ 55 10) from (f23 10 (of_decide_eq_true rfl))))
         have z35 : (σ15 55 12).toInt = (σ 55 12).toInt := (congrArg Int32.toInt (show σ15 55 12 = (σ 55 12) from (f23 12 (of_decide_eq_true rfl))))
         have z36 : (σ15 55 13).toInt = (σ 55 13).toInt := (congrArg Int32.toInt (show σ15 55 13 = (σ 55 13) from (f23 13 (of_decide_eq_true rfl))))
         refine lv_iload hx hb dX12_orders_38 (lv_at hl 0 rfl) ?_
         refine lv_iconst (v := 4) hx hb dX12_orders_40 (of_decide_eq_true rfl) ?_
         refine lv_icmp_ge (tgt := 127) hx hb dX12_orders_41 (of_decide_eq_true rfl) (fun c37 => ?_) (fun c37 => ?_)
         · have kc37 := jle c37 jz_4 rfl
           have p38 : jTR σ15 := jTR.fr (f22 64 (of_decide_eq_true rfl)) (f22 65 (of_decide_eq_true rfl)) hs_jTR
           exact by exact hret σ15 τ _ _ _ _ ⟨rfl, (fun i hi => (f22 i hi)), (fun i hi => (f23 i hi)), p26, p27, p24, p38, p25, (fun wa9 wb9 ok dg => ⟨jOr.fin (q28 wa9 wb9 ok dg).1 (by omega) (by omega), (q28 wa9 wb9 ok dg).2⟩), (by omega), (by omega), trivial⟩ hP hS dX12_orders_127
         · have kc37 := jnle c37 jz_4 rfl
           refine lv_iconst (v := 0) hx hb dX12_orders_44 (of_decide_eq_true rfl) ?_
           refine lv_istore (lv' := [(5, .int 0), (4, .int x13), (0, .ref (ad 55)), (1, .int 3), (2, .int a2), (3, .int a3)]) hx hb dX12_orders_45 hl (of_decide_eq_true rfl) rfl (fun ls hl => ?_)
           have lp39 : ∀ (n40 : Nat) (x41 : Int32) (H : Heap) (locs : List Loc) (ls : Array Slot), ((σ15 55 10).toInt - x41.toInt : Int) < n40 → 0 ≤ x41.toInt → x41.toInt ≤ 5 → x41.toInt ≤ (σ15 55 10).toInt → (jNl a2 (σ 79) (x13 : Int32).toInt (x41 : Int32).toInt) → jH D cI cL ad σ15 τ H → va_S (jA ad) s.heap H locs → lv_has ls 6 [(5, .int x41), (4, .int x13), (0, .ref (ad 55)), (1, .int 3), (2, .int a2), (3, .int a3)] → W p l e ({ frames := 106, cells := 0, slots := 0, locals := 5131 }) s m args below meth c H locs 0 0 Q (F0 m 47 ls []) := by
             intro n40
             induction n40 with
             | zero => intro x41 H locs ls h43 h44 h45 h46; exact absurd h43 (by omega)
             | succ n40 ihlp39 =>
               intro x41 H locs ls h43 h44 h45 h46 q48 hP hS hl
               exact by
                refine lv_iload hx hb dX12_orders_47 (lv_at hl 0 rfl) ?_
                refine lv_aload_n hx hb dX12_orders_49 rfl (lv_at hl 2 rfl) ?_
                refine va_get (D := D) hx hb hts inlX12 hown hK hP 55 (jc_55 cI cL ad σ15 τ) rfl 10 (of_decide_eq_true rfl) (hts _ kw_8_15) (fun _ h9 => h9) rfl dX12_orders_50 ?_
                have m49 : σ15 55 10 = (σ 55 10) := (f23 10 (of_decide_eq_true rfl))
                refine jtopr m49 ?_
                refine lv_icmp_ge (tgt := 84) hx hb dX12_orders_53 (of_decide_eq_true rfl) (fun c50 => ?_) (fun c50 => ?_)
                · have kc50 := jle c50 rfl rfl
                  refine lv_iload hx hb dX12_orders_84 (lv_at hl 0 rfl) ?_
                  refine lv_aload_n hx hb dX12_orders_86 rfl (lv_at hl 2 rfl) ?_
                  refine va_get (D := D) hx hb hts inlX12 hown hK hP 55 (jc_55 cI cL ad σ15 τ) rfl 10 (of_decide_eq_true rfl) (hts _ kw_8_15) (fun _ h9 => h9) rfl dX12_orders_87 ?_
                  refine jtopr m49 ?_
                  exact by
                   refine lv_icmp_ge (tgt := 121) hx hb dX12_orders_90 (of_decide_eq_true rfl) (fun c51 => ?_) (fun c => absurd (jnle c rfl rfl) (by omega))
                   have kc51 := jle c51 rfl rfl
                   obtain ⟨x52, ex52⟩ : ∃ y : Int32, y = x13 + 1 := ⟨_, rfl⟩
                   have tx52 : x52.toInt = x13.toInt + 1 := (jadd ex52 rfl jz_1 (by omega) (by omega)).trans (by omega)
                   refine lv_iinc (v := x52) (lv' := [(4, .int x52), (5, .int x41), (0, .ref (ad 55)), (1, .int 3), (2, .int a2), (3, .int a3)]) hx hb dX12_orders_121 hl (k := 1) rfl (by rw [ex52]; rfl) (of_decide_eq_true rfl) rfl (fun ls hl => ?_)
                   refine lv_goto (tgt := 38) hx hb dX12_orders_124 (of_decide_eq_true rfl) ?_
                   exact by exact ihlp11 x52 σ15 _ _ ls (by have h90 := tx52; omega) (by have h90 := tx52; omega) (by have h90 := tx52; omega) (by have h90 := tx52; omega) (by have h90 := tx52; omega) (fun i hi => (f22 i hi)) (fun i hi => (f23 i hi))  p24 p25 p26 p27 (fun wa9 wb9 ok dg => ⟨jOr.skip (q28 wa9 wb9 ok dg).1 (show jun a2 (σ 79) ((((x13 : Int32).toInt).toNat : Nat) : Int) (σ 55 10).toInt.toNat = 0 by rw [show ((((x13 : Int32).toInt).toNat : Nat) : Int) = (x13 : Int32).toInt by omega]; exact (jNl.none (σ 55 10).toInt.toNat q48 (by omega))) (by omega) (by have h9 := tx52; omega), (q28 wa9 wb9 ok dg).2⟩) hP hS (lv_sub hl [0, 2, 3, 4, 5] rfl)
                · have kc50 := jnle c50 rfl rfl
                  refine lv_iload_n hx hb dX12_orders_56 rfl (lv_at hl 4 rfl) ?_
                  exact by
                   refine lv_iload hx hb dX12_orders_57 (lv_at hl 0 rfl) ?_
                   refine lv_ishr hx hb dX12_orders_59 ?_
                   refine lv_topi (fun x53 ex53 => ?_)
                   have gx53 := jrg (rfl : x53.toInt = x53.toInt)
                   refine lv_iconst (v := 1) hx hb dX12_orders_60 (of_decide_eq_true rfl) ?_
                   refine lv_iand hx hb dX12_orders_61 ?_
                   refine lv_topi (fun x54 ex54 => ?_)
                   have gx54 := jrg (rfl : x54.toInt = x54.toInt)
                   have g55 : 0 ≤ x54.toInt ∧ x54.toInt ≤ 1 := jmask ex54 1 (of_decide_eq_true rfl) (of_decide_eq_true rfl)
                   refine lv_iconst (v := 1) hx hb dX12_orders_62 (of_decide_eq_true rfl) ?_
                   refine lv_icmp_eq (tgt := 78) hx hb dX12_orders_63 (of_decide_eq_true rfl) (fun c56 => ?_) (fun c56 => ?_)
                   · have kc56 := jeq c56 rfl jz_1
                     obtain ⟨x57, ex57⟩ : ∃ y : Int32, y = x41 + 1 := ⟨_, rfl⟩
                     exact by
                      have tx57 : x57.toInt = x41.toInt + 1 := (jadd ex57 rfl jz_1 (by omega) (by omega)).trans (by omega)
                      refine lv_iinc (v := x57) (lv' := [(5, .int x57), (4, .int x13), (0, .ref (ad 55)), (1, .int 3), (2, .int a2), (3, .int a3)]) hx hb dX12_orders_78 hl (k := 0) rfl (by rw [ex57]; rfl) (of_decide_eq_true rfl) rfl (fun ls hl => ?_)
                      refine lv_goto (tgt := 47) hx hb dX12_orders_81 (of_decide_eq_true rfl) ?_
                      exact by exact ihlp39 x57 _ _ ls (by have h90 := tx57; omega) (by have h90 := tx57; omega) (by have h90 := tx57; omega) (by have h90 := tx57; omega)   (jNl.step q48 (by omega) (fun w => by have w9 := (jtbit (a := a2) (i := x41) ex53 ex54 (by omega) (by omega)).mp (by omega); rw [w.1] at w9; exact absurd w9 (of_decide_eq_true rfl)) (by have h9 := tx57; omega)) hP hS (lv_sub hl [0, 1, 2, 3, 4, 5] rfl)
                   · have kc56 := jne c56 rfl jz_1
                     refine lv_aload_n hx hb dX12_orders_66 rfl (lv_at hl 2 rfl) ?_
                     refine va_get (D := D) hx hb hts inlX12 hown hK hP 55 (jc_55 cI cL ad σ15 τ) rfl 44 (of_decide_eq_true rfl) (hts _ kw_8_4) (fun _ h9 => h9) rfl dX12_orders_67 ?_
                     refine lv_iload hx hb dX12_orders_70 (lv_at hl 0 rfl) ?_
                     refine jald hx hb hK hP (jc_79 cI cL ad σ15 τ) (jin rfl (by omega) (by omega)) dX12_orders_72 ?_
                     exact by
                      have w58 : ∀ k : Nat, k < 5 → 0 ≤ (σ15 79 k).toInt ∧ (σ15 79 k).toInt ≤ 3 := (jrr_fr (f22 79 (of_decide_eq_true rfl)) w9)
                      have g59 := w58 _ (jnat (x := x41) rfl (n := 5) (by omega) (of_decide_eq_true rfl))
                      refine jtopr (y := (σ 79 x41.toNatClampNeg)) (by rw [f22 79 (of_decide_eq_true rfl)]) ?_
                      rw [f22 79 (of_decide_eq_true rfl)] at g59
                      refine lv_iload hx hb dX12_orders_73 (lv_at hl 1 rfl) ?_
                      refine lv_icmp_eq (tgt := 84) hx hb dX12_orders_75 (of_decide_eq_true rfl) (fun c60 => ?_) (fun c60 => ?_)
                      · have kc60 := jeq c60 rfl rfl
                        refine lv_iload hx hb dX12_orders_84 (lv_at hl 0 rfl) ?_
                        refine lv_aload_n hx hb dX12_orders_86 rfl (lv_at hl 2 rfl) ?_
                        exact by
                         refine va_get (D := D) hx hb hts inlX12 hown hK hP 55 (jc_55 cI cL ad σ15 τ) rfl 10 (of_decide_eq_true rfl) (hts _ kw_8_15) (fun _ h9 => h9) rfl dX12_orders_87 ?_
                         refine jtopr m49 ?_
                         refine lv_icmp_ge (tgt := 121) hx hb dX12_orders_90 (of_decide_eq_true rfl) (fun c => absurd (jle c rfl rfl) (by omega)) (fun c61 => ?_)
                         have kc61 := jnle c61 rfl rfl
                         refine lv_aload_n hx hb dX12_orders_93 rfl (lv_at hl 2 rfl) ?_
                         refine va_get (D := D) hx hb hts inlX12 hown hK hP 55 (jc_55 cI cL ad σ15 τ) rfl 11 (of_decide_eq_true rfl) (hts _ kw_7_8) (fun _ h9 => h9) rfl dX12_orders_94 ?_
                         refine lv_iload_n hx hb dX12_orders_97 rfl (lv_at hl 3 rfl) ?_
                         refine lv_iload hx hb dX12_orders_98 (lv_at hl 1 rfl) ?_
                         refine jast hx hb hK hP hJ hA hS (jc_62 cI cL ad σ15 τ) (ja_62 cI cL ad σ15 τ _ _) (jin jz_3 (by omega) (by omega)) dX12_orders_100 (fun σ62 H locs eσ62 hP hS => ?_)
                         exact by
                          have eσ62 : σ62 = jup σ15 62 3 x13 := eσ62
                          refine lv_aload_n hx hb dX12_orders_101 rfl (lv_at hl 2 rfl) ?_
                          refine lv_iload_n hx hb dX12_orders_102 rfl (lv_at hl 3 rfl) ?_
                          refine lv_iconst (v := 1) hx hb dX12_orders_103 (of_decide_eq_true rfl) ?_
                          refine lv_iadd hx hb dX12_orders_104 ?_
                          refine jtopr (y := 4) (of_decide_eq_true rfl) ?_
                          refine lv_iload_n hx hb dX12_orders_105 rfl (lv_at hl 4 rfl) ?_
                          refine lv_iconst (v := 1) hx hb dX12_orders_106 (of_decide_eq_true rfl) ?_
                          refine lv_iload hx hb dX12_orders_107 (lv_at hl 0 rfl) ?_
                          refine lv_ishl hx hb dX12_orders_109 ?_
                          refine lv_topi (fun x63 ex63 => ?_)
                          have gx63 := jrg (rfl : x63.toInt = x63.toInt)
                          refine lv_ior hx hb dX12_orders_110 ?_
                          refine lv_topi (fun x64 ex64 => ?_)
                          have gx64 := jrg (rfl : x64.toInt = x64.toInt)
                          refine lv_bipush (v := 10) hx hb dX12_orders_111 (of_decide_eq_true rfl) ?_
                          refine lv_iload_n hx hb dX12_orders_113 rfl (lv_at hl 5 rfl) ?_
                          refine lv_imul hx hb dX12_orders_114 ?_
                          refine lv_topi (fun x65 ex65 => ?_)
                          exact by
                           have tx65 : x65.toInt = 10 * A3 := (jmul ex65 jz_10 t3 (by omega) (by omega)).trans (by omega)
                           refine lv_iload hx hb dX12_orders_115 (lv_at hl 1 rfl) ?_
                           have g66 := jrg (rfl : x13.toInt = x13.toInt)
                           refine lv_iadd hx hb dX12_orders_117 ?_
                           refine lv_topi (fun x67 ex67 => ?_)
                           have tx67 : x67.toInt = 10 * A3 + x13.toInt := (jadd ex67 tx65 rfl (by omega) (by omega)).trans (by omega)
                           have I68 : jI101 σ62 := jI101_fr ((congrFun (jnp 55 eσ62 (of_decide_eq_true rfl)) 4).trans (f23 4 (of_decide_eq_true rfl))) ((congrFun (jnp 55 eσ62 (of_decide_eq_true rfl)) 5).trans (f23 5 (of_decide_eq_true rfl))) ((jnp 56 eσ62 (of_decide_eq_true rfl)).trans (f22 56 (of_decide_eq_true rfl))) ((jnp 57 eσ62 (of_decide_eq_true rfl)).trans (f22 57 (of_decide_eq_true rfl))) ((jnp 58 eσ62 (of_decide_eq_true rfl)).trans (f22 58 (of_decide_eq_true rfl))) ((jnp 59 eσ62 (of_decide_eq_true rfl)).trans (f22 59 (of_decide_eq_true rfl))) hI101
                           have I69 : jI102 σ62 := jI102_fr ((congrFun (jnp 55 eσ62 (of_decide_eq_true rfl)) 6).trans (f23 6 (of_decide_eq_true rfl))) ((jnp 60 eσ62 (of_decide_eq_true rfl)).trans (f22 60 (of_decide_eq_true rfl))) ((jnp 61 eσ62 (of_decide_eq_true rfl)).trans (f22 61 (of_decide_eq_true rfl))) hI102
                           have I70 : jI103 σ62 := jI103_fr ((congrFun (jnp 55 eσ62 (of_decide_eq_true rfl)) 9).trans (f23 9 (of_decide_eq_true rfl))) hI103
                           exact by
                            have z71 : (σ62 55 10).toInt = (σ 55 10).toInt := (congrArg Int32.toInt (show σ62 55 10 = (σ 55 10) from ((congrFun (jnp 55 eσ62 (of_decide_eq_true rfl)) 10).trans m49)))
                            have z72 : (σ62 55 12).toInt = (σ 55 12).toInt := (congrArg Int32.toInt (show σ62 55 12 = (σ 55 12) from ((congrFun (jnp 55 eσ62 (of_decide_eq_true rfl)) 12).trans (f23 12 (of_decide_eq_true rfl)))))
                            have z73 : (σ62 55 13).toInt = (σ 55 13).toInt := (congrArg Int32.toInt (show σ62 55 13 = (σ 55 13) from ((congrFun (jnp 55 eσ62 (of_decide_eq_true rfl)) 13).trans (f23 13 (of_decide_eq_true rfl)))))
                            have w74 : ∀ k : Nat, k < 8 → 0 ≤ (σ62 62 k).toInt ∧ (σ62 62 k).toInt ≤ 3 := (by rw [eσ62]; exact jrr_up w32 (by omega) (by omega))
                            have w75 : ∀ k : Nat, k < 8 → 0 ≤ (σ62 67 k).toInt ∧ (σ62 67 k).toInt ≤ 3 := (jrr_fr (jnp 67 eσ62 (of_decide_eq_true rfl)) w33)
                            have I76 : jI104 σ62 := ⟨(by omega), (by omega), (by omega), w74, w75⟩
                            have I77 : jI105 σ62 := jI105_fr ((congrFun (jnp 55 eσ62 (of_decide_eq_true rfl)) 15).trans (f23 15 (of_decide_eq_true rfl))) ((jnp 65 eσ62 (of_decide_eq_true rfl)).trans (f22 65 (of_decide_eq_true rfl))) hI105
                            have I78 : jI106 σ62 := jI106_fr ((congrFun (jnp 55 eσ62 (of_decide_eq_true rfl)) 32).trans (f23 32 (of_decide_eq_true rfl))) ((jnp 70 eσ62 (of_decide_eq_true rfl)).trans (f22 70 (of_decide_eq_true rfl))) ((jnp 71 eσ62 (of_decide_eq_true rfl)).trans (f22 71 (of_decide_eq_true rfl))) ((jnp 72 eσ62 (of_decide_eq_true rfl)).trans (f22 72 (of_decide_eq_true rfl))) hI106
                            have I79 : jI119 σ62 := jI119_fr (jnp 68 eσ62 (of_decide_eq_true rfl)) p27
                            exact by
                             have I80 : jI111 σ62 := jI111_fr ((jnp 79 eσ62 (of_decide_eq_true rfl)).trans (f22 79 (of_decide_eq_true rfl))) hI111
                             have p81 : jKept σ62 := jKept.fr (jnp 75 eσ62 (of_decide_eq_true rfl)) (jnp 76 eσ62 (of_decide_eq_true rfl)) (jnp 77 eσ62 (of_decide_eq_true rfl)) p24
                             have p82 : jTR σ62 := jTR.fr ((jnp 64 eσ62 (of_decide_eq_true rfl)).trans (f22 64 (of_decide_eq_true rfl))) ((jnp 65 eσ62 (of_decide_eq_true rfl)).trans (f22 65 (of_decide_eq_true rfl))) hs_jTR
                             have p83 : jqSt σ62 := jqSt.fr (jnp 78 eσ62 (of_decide_eq_true rfl)) (congrFun (jnp 55 eσ62 (of_decide_eq_true rfl)) 42) p25
                             have z84 : (σ62 55 42).toInt = (σ15 55 42).toInt := (congrArg Int32.toInt (show σ62 55 42 = (σ15 55 42) from (congrFun (jnp 55 eσ62 (of_decide_eq_true rfl)) 42)))
                             refine jcallVv (As := [.int 4, .int x64, .int x67]) (rest := []) ⟨hx, hb, hml, hown, hts⟩ hK hP hA hS hZ (c_X12_orders_4 l D cI cL ad zz hJ σ62 τ x64 (x64.toInt) rfl x67 (10 * A3 + x13.toInt) tx67 I68 I69 I70 I76 I77 I78 I79 I80 p81 p82 p83 (by omega) (by omega) (by omega) (by omega) (by omega)) cw_RX12_355 (jc_55 cI cL ad σ62 τ) rfl ⟨Nat.le_of_ble_eq_true rfl, Nat.le_of_ble_eq_true rfl⟩ rfl rfl rfl hl.1 rfl (Nat.le_of_ble_eq_true rfl) dX12_orders_118 ⟨Nat.zero_le _, Nat.zero_le _⟩ (fun σ85 τ85 H locs h85 hP hS => ?_)
                             obtain ⟨rfl, f87, f88, I89, I90, p91, p92, p93, w94, h85⟩ := h85
                             obtain ⟨i96, i97, i98, w99, w100⟩ : (1 ≤ (σ85 55 10).toInt ∧ (σ85 55 10).toInt ≤ 8) ∧ (1 ≤ (σ85 55 12).toInt ∧ (σ85 55 12).toInt ≤ 12) ∧ (0 ≤ (σ85 55 13).toInt ∧ (σ85 55 13).toInt ≤ 999) ∧ (∀ k : Nat, k < 8 → 0 ≤ (σ85 62 k).toInt ∧ (σ85 62 k).toInt ≤ 3) ∧ (∀ k : Nat, k < 8 → 0 ≤ (σ85 67 k).toInt ∧ (σ85 67 k).toInt ≤ 3) := id I89
                             have z101 : (σ85 55 10).toInt = (σ 55 10).toInt := (congrArg Int32.toInt (show σ85 55 10 = (σ 55 10) from ((f88 10 (of_decide_eq_true rfl)).trans ((congrFun (jnp 55 eσ62 (of_decide_eq_true rfl)) 10).trans m49))))
                             exact by
                              have z102 : (σ85 55 12).toInt = (σ 55 12).toInt := (congrArg Int32.toInt (show σ85 55 12 = (σ 55 12) from ((f88 12 (of_decide_eq_true rfl)).trans ((congrFun (jnp 55 eσ62 (of_decide_eq_true rfl)) 12).trans (f23 12 (of_decide_eq_true rfl))))))
                              have z103 : (σ85 55 13).toInt = (σ 55 13).toInt := (congrArg Int32.toInt (show σ85 55 13 = (σ 55 13) from ((f88 13 (of_decide_eq_true rfl)).trans ((congrFun (jnp 55 eσ62 (of_decide_eq_true rfl)) 13).trans (f23 13 (of_decide_eq_true rfl))))))
                              obtain ⟨k104, k105, h85⟩ := h85
                              obtain ⟨x106, ex106⟩ : ∃ y : Int32, y = x13 + 1 := ⟨_, rfl⟩
                              have tx106 : x106.toInt = x13.toInt + 1 := (jadd ex106 rfl jz_1 (by omega) (by omega)).trans (by omega)
                              refine lv_iinc (v := x106) (lv' := [(4, .int x106), (5, .int x41), (0, .ref (ad 55)), (1, .int 3), (2, .int a2), (3, .int a3)]) hx hb dX12_orders_121 hl (k := 1) rfl (by rw [ex106]; rfl) (of_decide_eq_true rfl) rfl (fun ls hl => ?_)
                              refine lv_goto (tgt := 38) hx hb dX12_orders_124 (of_decide_eq_true rfl) ?_
                              have z107 : (σ62 55 30).toInt = (σ 55 30).toInt := (congrArg Int32.toInt (show σ62 55 30 = (σ 55 30) from ((congrFun (jnp 55 eσ62 (of_decide_eq_true rfl)) 30).trans (f23 30 (of_decide_eq_true rfl)))))
                              have z108 : (σ62 55 31).toInt = (σ 55 31).toInt := (congrArg Int32.toInt (show σ62 55 31 = (σ 55 31) from ((congrFun (jnp 55 eσ62 (of_decide_eq_true rfl)) 31).trans (f23 31 (of_decide_eq_true rfl)))))
                              exact by
                               have z109 : (σ62 55 46).toInt = (σ15 55 46).toInt := (congrArg Int32.toInt (show σ62 55 46 = (σ15 55 46) from (congrFun (jnp 55 eσ62 (of_decide_eq_true rfl)) 46)))
                               have z110 : (σ62 55 45).toInt = (σ15 55 45).toInt := (congrArg Int32.toInt (show σ62 55 45 = (σ15 55 45) from (congrFun (jnp 55 eσ62 (of_decide_eq_true rfl)) 45)))
                               have k111 : (σ 55 30).toInt = -1 → (σ 55 31).toInt = -1 → jOk (σ 56) → (A3) = jtD (fun z : Nat => (σ 62 z).toInt) 3 → (((σ85 55 46).toInt, (σ85 55 45).toInt) = jfr (jrVd σ) ((σ 55 46).toInt, (σ 55 45).toInt) (jolS ((σ 55 10).toInt - 4).toNat (A3) (fun t => jun a2 (σ 79) (t : Int) (σ 55 10).toInt.toNat) ((x106 : Int32).toInt).toNat) ∧ ∀ z : Nat, z < 3 → σ85 62 z = σ 62 z) := fun wa9 wb9 ok dg => by
                                 have q9 := q28 wa9 wb9 ok dg
                                 have f9 : ∀ z : Nat, z < 3 → σ62 62 z = σ 62 z := fun z hz => ((jkp z eσ62 (by omega)).trans (q9.2 z hz))
                                 have s9 : (σ62 62 3).toInt = (x13 : Int32).toInt := by rw [show σ62 62 3 = x13 from (jsp eσ62)]
                                 have d9 : 10 * A3 + x13.toInt = jtD (fun z : Nat => (σ62 62 z).toInt) 4 := by
                                   show _ = 10 * jtD (fun z : Nat => (σ62 62 z).toInt) 3 + (σ62 62 3).toInt
                                   rw [jtD_cong (g := fun z : Nat => (σ 62 z).toInt) 3 (fun z hz => by show (σ62 62 z).toInt = (σ 62 z).toInt; rw [f9 z hz]), ← dg, s9] <;> omega
                                 exact by
                                  have r9 := w94 (by omega) (by omega) (by rw [show σ62 56 = σ 56 from ((jnp 56 eσ62 (of_decide_eq_true rfl)).trans (f22 56 (of_decide_eq_true rfl)))]; exact ok) d9
                                  have e79 : σ62 79 = σ 79 := ((jnp 79 eσ62 (of_decide_eq_true rfl)).trans (f22 79 (of_decide_eq_true rfl)))
                                  have e10 : σ62 55 10 = σ 55 10 := ((congrFun (jnp 55 eσ62 (of_decide_eq_true rfl)) 10).trans (f23 10 (of_decide_eq_true rfl)))
                                  have bit : a2.toBitVec.getLsbD ((x41 : Int32).toInt).toNat = false := (by have w9 := (jtbit (a := a2) (i := x41) ex53 ex54 (by omega) (by omega)); cases hb9 : a2.toBitVec.getLsbD ((x41 : Int32).toInt).toNat with | false => rfl | true => exact absurd (w9.mpr hb9) (by omega))
                                  have own : (σ 79 ((x41 : Int32).toInt).toNat).toInt = (x13 : Int32).toInt := by show (σ 79 x41.toNatClampNeg).toInt = (x13 : Int32).toInt; omega
                                  have tk := fun t : Int => jun_take (f := σ 79) (i := ((x41 : Int32).toInt).toNat) (fun z hz => jtor (i := x41) ex63 ex64 (by omega) (by omega) z hz) bit t (σ 55 10).toInt.toNat (by omega)
                                  have m9 : (σ62 55 46).toInt = (σ15 55 46).toInt ∧ (σ62 55 45).toInt = (σ15 55 45).toInt := ⟨by rw [show σ62 55 46 = σ15 55 46 from (congrFun (jnp 55 eσ62 (of_decide_eq_true rfl)) 46)], by rw [show σ62 55 45 = σ15 55 45 from (congrFun (jnp 55 eσ62 (of_decide_eq_true rfl)) 45)]⟩
                                  have r1 := r9.1
                                  rw [m9.1, m9.2, e79, e10] at r1
                                  exact by
                                   refine ⟨jOr.step q9.1 r1 (jrVd_eq (σ := σ) (u := σ62) ((jnp 56 eσ62 (of_decide_eq_true rfl)).trans (f22 56 (of_decide_eq_true rfl))) ((jnp 60 eσ62 (of_decide_eq_true rfl)).trans (f22 60 (of_decide_eq_true rfl))) ((jnp 61 eσ62 (of_decide_eq_true rfl)).trans (f22 61 (of_decide_eq_true rfl))) ((jnp 64 eσ62 (of_decide_eq_true rfl)).trans (f22 64 (of_decide_eq_true rfl))) ((jnp 65 eσ62 (of_decide_eq_true rfl)).trans (f22 65 (of_decide_eq_true rfl))) ((congrFun (jnp 55 eσ62 (of_decide_eq_true rfl)) 6).trans (f23 6 (of_decide_eq_true rfl))) ((congrFun (jnp 55 eσ62 (of_decide_eq_true rfl)) 9).trans (f23 9 (of_decide_eq_true rfl))) ((congrFun (jnp 55 eσ62 (of_decide_eq_true rfl)) 10).trans (f23 10 (of_decide_eq_true rfl))) ((congrFun (jnp 55 eσ62 (of_decide_eq_true rfl)) 12).trans (f23 12 (of_decide_eq_true rfl))) ((congrFun (jnp 55 eσ62 (of_decide_eq_true rfl)) 13).trans (f23 13 (of_decide_eq_true rfl)))) (by omega) (by omega) (show 0 < jun a2 (σ 79) ((((x13 : Int32).toInt).toNat : Nat) : Int) (σ 55 10).toInt.toNat by have w9 := tk ((((x13 : Int32).toInt).toNat : Nat) : Int); rw [if_pos ⟨by omega, by rw [own]; omega⟩] at w9; omega) (fun t ht => by have w9 := tk (t : Int); rw [own] at w9; exact (Classical.em (t = ((x13 : Int32).toInt).toNat)).elim (fun c9 => by rw [if_pos c9]; rw [if_pos ⟨by omega, by omega⟩] at w9; exact w9) (fun c9 => by rw [if_neg c9]; rw [if_neg (fun y => c9 (by have := y.2; omega))] at w9; exact w9)) (by omega) (by have h9 := tx106; omega), fun z hz => (r9.2 z (by omega)).trans (f9 z hz)⟩
                               exact by exact ihlp11 x106 σ85 _ _ ls (by have h90 := tx106; omega) (by have h90 := tx106; omega) (by have h90 := tx106; omega) (by have h90 := tx106; omega) (by have h90 := tx106; omega) (fun i hi => ((f87 i hi).trans ((jnp i eσ62 (imp_276 i hi)).trans (f22 i hi)))) (fun i hi => ((f88 i hi).trans ((congrFun (jnp 55 eσ62 (of_decide_eq_true rfl)) i).trans (f23 i hi))))  p91 p93 I89 I90 k111 hP hS (lv_sub hl [0, 2, 3, 4, 5] rfl)
                      · have kc60 := jne c60 rfl rfl
                        obtain ⟨x112, ex112⟩ : ∃ y : Int32, y = x41 + 1 := ⟨_, rfl⟩
                        have tx112 : x112.toInt = x41.toInt + 1 := (jadd ex112 rfl jz_1 (by omega) (by omega)).trans (by omega)
                        refine lv_iinc (v := x112) (lv' := [(5, .int x112), (4, .int x13), (0, .ref (ad 55)), (1, .int 3), (2, .int a2), (3, .int a3)]) hx hb dX12_orders_78 hl (k := 0) rfl (by rw [ex112]; rfl) (of_decide_eq_true rfl) rfl (fun ls hl => ?_)
                        refine lv_goto (tgt := 47) hx hb dX12_orders_81 (of_decide_eq_true rfl) ?_
                        exact by exact ihlp39 x112 _ _ ls (by have h90 := tx112; omega) (by have h90 := tx112; omega) (by have h90 := tx112; omega) (by have h90 := tx112; omega)   (jNl.step q48 (by omega) (fun w => absurd w.2 (by show ¬ (σ 79 x41.toNatClampNeg).toInt = (x13 : Int32).toInt; omega)) (by have h9 := tx112; omega)) hP hS (lv_sub hl [0, 1, 2, 3, 4, 5] rfl)
           exact by exact lp39 1000000 0 _ _ ls (by have h90 := jz_0; omega) (by have h90 := jz_0; omega) (by have h90 := jz_0; omega) (by have h90 := jz_0; omega)  (jNl.first (by have h9 := jz_0; omega)) hP hS hl
    exact by exact lp11 1000000 0 σ _ _ ls (by have h90 := jz_0; omega) (by have h90 := jz_0; omega) (by have h90 := jz_0; omega) (by have h90 := jz_0; omega) (by have h90 := jz_0; omega) (fun _ _ => rfl) (fun _ _ => rfl)  hs_jKept hs_jqSt hI104 hI119 (fun _ _ _ _ => ⟨jOr.first (by omega) (by omega) (by have h9 := jz_0; omega), fun z hz => rfl⟩) hP hS hl
  · exact by
     have kc10 := jeq c10 jz_3 rfl
     refine lv_aload_n hx hb dX12_orders_8 rfl (lv_at hl 0 rfl) ?_
     refine jcallV (As := []) (rest := []) ⟨hx, hb, hml, hown, hts⟩ hK hP hA hS hZ (c_X12_bestNow l D cI cL ad zz hJ σ τ hI101 hI102 hI103 hI104 hI105 hI106 hI119 hs_jKept hs_jTR hs_jqSt (by omega) (by omega)) cw_RX12_346 (jc_55 cI cL ad σ τ) rfl ⟨Nat.le_of_ble_eq_true rfl, Nat.le_of_ble_eq_true rfl⟩ rfl rfl rfl hl.1 rfl (Nat.le_of_ble_eq_true rfl) dX12_orders_9 ⟨Nat.zero_le _, Nat.zero_le _⟩ (fun r114 σ113 τ113 H locs h113 hP hS => ?_)
     obtain ⟨rfl, f115, f116, I117, p118, p119, p120, w121, h113⟩ := h113
     obtain ⟨k123, k124, h113⟩ := h113
     have h125 := h113
     obtain ⟨q127, k126⟩ := h125
     refine lv_istore (lv' := [(4, .int r114), (0, .ref (ad 55)), (1, .int 3), (2, .int a2), (3, .int a3)]) hx hb dX12_orders_12 hl (of_decide_eq_true rfl) rfl (fun ls hl => ?_)
     refine lv_iload hx hb dX12_orders_14 (lv_at hl 0 rfl) ?_
     exact by
      refine lv_aload_n hx hb dX12_orders_16 rfl (lv_at hl 1 rfl) ?_
      refine va_get (D := D) hx hb hts inlX12 hown hK hP 55 (jc_55 cI cL ad σ113 τ) rfl 46 (of_decide_eq_true rfl) (hts _ kw_40_17) (fun _ h9 => h9) rfl dX12_orders_17 ?_
      have m128 : σ113 55 46 = (σ 55 46) := (f116 46 (of_decide_eq_true rfl))
      refine jtopr m128 ?_
      refine lv_icmp_le (tgt := 34) hx hb dX12_orders_20 (of_decide_eq_true rfl) (fun c129 => ?_) (fun c129 => ?_)
      · have kc129 := jle c129 rfl rfl
        have I130 : jI104 σ113 := jI104_fr (f116 10 (of_decide_eq_true rfl)) (f116 12 (of_decide_eq_true rfl)) (f116 13 (of_decide_eq_true rfl)) (f115 62 (of_decide_eq_true rfl)) (f115 67 (of_decide_eq_true rfl)) hI104
        have z131 : (σ113 55 10).toInt = (σ 55 10).toInt := (congrArg Int32.toInt (show σ113 55 10 = (σ 55 10) from (f116 10 (of_decide_eq_true rfl))))
        have z132 : (σ113 55 46).toInt = (σ 55 46).toInt := (congrArg Int32.toInt (show σ113 55 46 = (σ 55 46) from m128))
        have z133 : (σ113 55 45).toInt = (σ 55 45).toInt := (congrArg Int32.toInt (show σ113 55 45 = (σ 55 45) from (f116 45 (of_decide_eq_true rfl))))
        exact by exact hret σ113 τ _ _ _ _ ⟨rfl, (fun i hi => (f115 i (imp_271 i hi))), (fun i hi => (f116 i (imp_272 i hi))), I130, I117, p118, p119, p120, (fun wa9 wb9 ok dg => by have x9 := w121 (-1) 0 ok (fun c hc _ => jrOv_0 wa9 wb9 c hc) ⟨by decide, by decide⟩ (by omega); rw [jrVd_of (by omega) (by omega) w7 ok (n := 3) (by omega), ← dg] at x9; exact ⟨jOr.leaf (by omega) x9 (Or.inr ⟨by omega, by omega, by omega⟩), fun z hz => congrFun ((f115 62 (of_decide_eq_true rfl))) z⟩), (by omega), (by omega), trivial⟩ hP hS dX12_orders_34
      · have kc129 := jnle c129 rfl rfl
        refine lv_aload_n hx hb dX12_orders_23 rfl (lv_at hl 1 rfl) ?_
        refine lv_iload hx hb dX12_orders_24 (lv_at hl 0 rfl) ?_
        refine jput (ty := .int) hx hb hts inlX12 tyX12 tyX12_ok nmX12 hown hK hP hJ hA hS (jc_55 cI cL ad σ113 τ) rfl (k := 46) (of_decide_eq_true rfl) (Nat.le_of_ble_eq_true rfl) (jp_55_46 cI cL ad σ113 τ r114) (hts _ kw_40_17) (fun _ h9 => h9) rfl (by decide +kernel) rfl rfl dX12_orders_26 (fun σ134 H locs eσ134 hP hS => ?_)
        refine lv_aload_n hx hb dX12_orders_29 rfl (lv_at hl 1 rfl) ?_
        refine lv_iload_n hx hb dX12_orders_30 rfl (lv_at hl 4 rfl) ?_
        refine jput (ty := .int) hx hb hts inlX12 tyX12 tyX12_ok nmX12 hown hK hP hJ hA hS (jc_55 cI cL ad σ134 τ) rfl (k := 45) (of_decide_eq_true rfl) (Nat.le_of_ble_eq_true rfl) (jp_55_45 cI cL ad σ134 τ a3) (hts _ kw_40_18) (fun _ h9 => h9) rfl (by decide +kernel) rfl rfl dX12_orders_31 (fun σ135 H locs eσ135 hP hS => ?_)
        have I136 : jI104 σ135 := jI104_fr ((jkp 10 eσ135 (of_decide_eq_true rfl)).trans ((jkp 10 eσ134 (of_decide_eq_true rfl)).trans (f116 10 (of_decide_eq_true rfl)))) ((jkp 12 eσ135 (of_decide_eq_true rfl)).trans ((jkp 12 eσ134 (of_decide_eq_true rfl)).trans (f116 12 (of_decide_eq_true rfl)))) ((jkp 13 eσ135 (of_decide_eq_true rfl)).trans ((jkp 13 eσ134 (of_decide_eq_true rfl)).trans (f116 13 (of_decide_eq_true rfl)))) ((jnp 62 eσ135 (of_decide_eq_true rfl)).trans ((jnp 62 eσ134 (of_decide_eq_true rfl)).trans (f115 62 (of_decide_eq_true rfl)))) ((jnp 67 eσ135 (of_decide_eq_true rfl)).trans ((jnp 67 eσ134 (of_decide_eq_true rfl)).trans (f115 67 (of_decide_eq_true rfl)))) hI104
        have I137 : jI119 σ135 := jI119_fr ((jnp 68 eσ135 (of_decide_eq_true rfl)).trans (jnp 68 eσ134 (of_decide_eq_true rfl))) I117
        have p138 : jKept σ135 := jKept.fr ((jnp 75 eσ135 (of_decide_eq_true rfl)).trans (jnp 75 eσ134 (of_decide_eq_true rfl))) ((jnp 76 eσ135 (of_decide_eq_true rfl)).trans (jnp 76 eσ134 (of_decide_eq_true rfl))) ((jnp 77 eσ135 (of_decide_eq_true rfl)).trans (jnp 77 eσ134 (of_decide_eq_true rfl))) p118
        have p139 : jTR σ135 := jTR.fr ((jnp 64 eσ135 (of_decide_eq_true rfl)).trans (jnp 64 eσ134 (of_decide_eq_true rfl))) ((jnp 65 eσ135 (of_decide_eq_true rfl)).trans (jnp 65 eσ134 (of_decide_eq_true rfl))) p119
        have p140 : jqSt σ135 := jqSt.fr ((jnp 78 eσ135 (of_decide_eq_true rfl)).trans (jnp 78 eσ134 (of_decide_eq_true rfl))) ((jkp 42 eσ135 (of_decide_eq_true rfl)).trans (jkp 42 eσ134 (of_decide_eq_true rfl))) p120
        have z141 : (σ135 55 10).toInt = (σ 55 10).toInt := (congrArg Int32.toInt (show σ135 55 10 = (σ 55 10) from ((jkp 10 eσ135 (of_decide_eq_true rfl)).trans ((jkp 10 eσ134 (of_decide_eq_true rfl)).trans (f116 10 (of_decide_eq_true rfl))))))
        have z142 : (σ135 55 46).toInt = r114.toInt := (congrArg Int32.toInt (show σ135 55 46 = r114 from ((jkp 46 eσ135 (of_decide_eq_true rfl)).trans (jsp eσ134))))
        have z143 : (σ135 55 45).toInt = A3 := ((congrArg Int32.toInt (show σ135 55 45 = a3 from (jsp eσ135))).trans t3)
        have z144 : (σ135 55 42).toInt = (σ113 55 42).toInt := (congrArg Int32.toInt (show σ135 55 42 = (σ113 55 42) from ((jkp 42 eσ135 (of_decide_eq_true rfl)).trans (jkp 42 eσ134 (of_decide_eq_true rfl)))))
        exact by exact hret σ135 τ _ _ _ _ ⟨rfl, (fun i hi => ((jnp i eσ135 (imp_273 i hi)).trans ((jnp i eσ134 (imp_273 i hi)).trans (f115 i (imp_271 i hi))))), (fun i hi => ((jkp i eσ135 (imp_274 i hi)).trans ((jkp i eσ134 (imp_275 i hi)).trans (f116 i (imp_272 i hi))))), I136, I137, p138, p139, p140, (fun wa9 wb9 ok dg => by have x9 := w121 (-1) 0 ok (fun c hc _ => jrOv_0 wa9 wb9 c hc) ⟨by decide, by decide⟩ (by omega); rw [jrVd_of (by omega) (by omega) w7 ok (n := 3) (by omega), ← dg] at x9; exact ⟨jOr.leaf (by omega) x9 (Or.inl ⟨by omega, by omega, by omega⟩), fun z hz => congrFun (((jnp 62 eσ135 (of_decide_eq_true rfl)).trans ((jnp 62 eσ134 (of_decide_eq_true rfl)).trans (f115 62 (of_decide_eq_true rfl))))) z⟩), (by omega), (by omega), trivial⟩ hP hS dX12_orders_34
set_option maxHeartbeats 4000000 in
set_option maxRecDepth 100000 in
theorem c_X12_orders_2 (l : Launch) (D : va_G) (cI cL : ClassId) (ad zz : Nat → Nat) (hJ : jD ad) (σ : Nat → Nat → Int32) (τ : Nat → Nat → Int64) (a2 : Int32) (A2 : Int) (t2 : a2.toInt = A2) (a3 : Int32) (A3 : Int) (t3 : a3.toInt = A3) (hI101 : jI101 σ) (hI102 : jI102 σ) (hI103 : jI103 σ) (hI104 : jI104 σ) (hI105 : jI105 σ) (hI106 : jI106 σ) (hI119 : jI119 σ) (hI111 : jI111 σ) (hs_jKept : jKept σ) (hs_jTR : jTR σ) (hs_jqSt : jqSt σ) (hp0 : (σ 55 10).toInt ≤ 5) (hp1 : 2 ≤ (σ 55 10).toInt) (hp2 : (σ 55 12).toInt ≤ 8) (hp3 : 0 ≤ A3 ∧ A3 ≤ 99) (hp4 : 0 ≤ (σ 55 42).toInt ∧ (σ 55 42).toInt ≤ 999999872) : jMv l yX12_orders cX12_orders 6 none ({ frames := 107, cells := 0, slots := 0, locals := 5156 }) D cI cL ad zz [.ref (ad 55), .int 2, .int a2, .int a3] σ τ (fun σ' τ' => τ = τ' ∧ (∀ i : Nat, (i < 55 ∨ 55 < i) ∧ (i < 62 ∨ 62 < i) ∧ (i < 66 ∨ 66 < i) ∧ (i < 68 ∨ 69 < i) ∧ (i < 74 ∨ 78 < i) → σ' i = σ i) ∧ (∀ k : Nat, (k < 18 ∨ 18 < k) ∧ (k < 19 ∨ 19 < k) ∧ (k < 20 ∨ 20 < k) ∧ (k < 21 ∨ 21 < k) ∧ (k < 22 ∨ 22 < k) ∧ (k < 25 ∨ 25 < k) ∧ (k < 26 ∨ 26 < k) ∧ (k < 27 ∨ 27 < k) ∧ (k < 37 ∨ 37 < k) ∧ (k < 42 ∨ 42 < k) ∧ (k < 45 ∨ 45 < k) ∧ (k < 46 ∨ 46 < k) → σ' 55 k = σ 55 k) ∧ (jI104 σ') ∧ (jI119 σ') ∧ (jKept σ') ∧ (jTR σ') ∧ (jqSt σ') ∧ (((σ 55 30).toInt = -1 → (σ 55 31).toInt = -1 → jOk (σ 56) → A3 = jtD (fun z : Nat => (σ 62 z).toInt) 2 → (((σ' 55 46).toInt, (σ' 55 45).toInt) = jfr (jrVd σ) ((σ 55 46).toInt, (σ 55 45).toInt) (jolF ((σ 55 10).toInt - 2).toNat (A3) (fun t => jun a2 (σ 79) (t : Int) (σ 55 10).toInt.toNat)) ∧ ∀ z : Nat, z < 2 → σ' 62 z = σ 62 z))) ∧ ((σ 55 42).toInt ≤ (σ' 55 42).toInt) ∧ ((σ' 55 42).toInt ≤ (σ 55 42).toInt + 64) ∧ True) := by
  refine jMv.of hJ (by decide +kernel) rfl (Nat.le_of_ble_eq_true rfl) ?_
  intro p e s m args below meth c Q ls hC hret hl hP
  obtain ⟨hx, hb, hr, hml, hown, hts, hK, -, hlocks, hZ⟩ := hC
  have hown : s.vm.findClass RX12 = some m.cls := hown
  have hS : va_S (jA ad) s.heap s.heap [] := va_S.rf
  have hA : ∀ q, jA ad q → jA ad q := fun _ h => h
  have hl : lv_has ls 6 [(0, .ref (ad 55)), (1, .int 2), (2, .int a2), (3, .int a3)] := hl
  have g2 := jrg t2
  have g3 := jrg t3
  obtain ⟨i1, w2, w3⟩ : (0 ≤ (σ 55 6).toInt ∧ (σ 55 6).toInt ≤ 4) ∧ (∀ k : Nat, k < 4 → 0 ≤ (σ 60 k).toInt ∧ (σ 60 k).toInt ≤ 50) ∧ (∀ k : Nat, k < 4 → 0 ≤ (σ 61 k).toInt ∧ (σ 61 k).toInt ≤ 20) := id hI102
  obtain ⟨i4, i5, i6, w7, w8⟩ : (1 ≤ (σ 55 10).toInt ∧ (σ 55 10).toInt ≤ 8) ∧ (1 ≤ (σ 55 12).toInt ∧ (σ 55 12).toInt ≤ 12) ∧ (0 ≤ (σ 55 13).toInt ∧ (σ 55 13).toInt ≤ 999) ∧ (∀ k : Nat, k < 8 → 0 ≤ (σ 62 k).toInt ∧ (σ 62 k).toInt ≤ 3) ∧ (∀ k : Nat, k < 8 → 0 ≤ (σ 67 k).toInt ∧ (σ 67 k).toInt ≤ 3) := id hI104
  have w9 : ∀ k : Nat, k < 5 → 0 ≤ (σ 79 k).toInt ∧ (σ 79 k).toInt ≤ 3 := hI111
  refine lv_iload_n hx hb dX12_orders_0 rfl (lv_at hl 1 rfl) ?_
  refine lv_aload_n hx hb dX12_orders_1 rfl (lv_at hl 0 rfl) ?_
  refine va_get (D := D) hx hb hts inlX12 hown hK hP 55 (jc_55 cI cL ad σ τ) rfl 10 (of_decide_eq_true rfl) (hts _ kw_8_15) (fun _ h9 => h9) rfl dX12_orders_2 ?_
  refine lv_icmp_ne (tgt := 35) hx hb dX12_orders_5 (of_decide_eq_true rfl) (fun c10 => ?_) (fun c10 => ?_)
  · have kc10 := jne c10 jz_2 rfl
    refine lv_iconst (v := 0) hx hb dX12_orders_35 (of_decide_eq_true rfl) ?_
    refine lv_istore (lv' := [(4, .int 0), (0, .ref (ad 55)), (1, .int 2), (2, .int a2), (3, .int a3)]) hx hb dX12_orders_36 hl (of_decide_eq_true rfl) rfl (fun ls hl => ?_)
    have lp11 : ∀ (n12 : Nat) (x13 : Int32) (σ15 : Nat → Nat → Int32) (H : Heap) (locs : List Loc) (ls : Array Slot), (-x13.toInt + 4 : Int) < n12 → 0 ≤ x13.toInt → x13.toInt ≤ 4 → (σ 55 42).toInt ≤ (σ15 55 42).toInt → (σ15 55 42).toInt ≤ (σ 55 42).toInt + 16 * x13.toInt → (∀ i : Nat, (i < 55 ∨ 55 < i) ∧ (i < 62 ∨ 62 < i) ∧ (i < 66 ∨ 66 < i) ∧ (i < 68 ∨ 69 < i) ∧ (i < 74 ∨ 78 < i) → σ15 i = σ i) → (∀ k : Nat, (k < 18 ∨ 18 < k) ∧ (k < 19 ∨ 19 < k) ∧ (k < 20 ∨ 20 < k) ∧ (k < 21 ∨ 21 < k) ∧ (k < 22 ∨ 22 < k) ∧ (k < 25 ∨ 25 < k) ∧ (k < 26 ∨ 26 < k) ∧ (k < 27 ∨ 27 < k) ∧ (k < 37 ∨ 37 < k) ∧ (k < 42 ∨ 42 < k) ∧ (k < 45 ∨ 45 < k) ∧ (k < 46 ∨ 46 < k) → σ15 55 k = σ 55 k) → jKept σ15 → jqSt σ15 → jI104 σ15 → jI119 σ15 → (((σ 55 30).toInt = -1 → (σ 55 31).toInt = -1 → jOk (σ 56) → (A3) = jtD (fun z : Nat => (σ 62 z).toInt) 2 → (((σ15 55 46).toInt, (σ15 55 45).toInt) = jfr (jrVd σ) ((σ 55 46).toInt, (σ 55 45).toInt) (jolS ((σ 55 10).toInt - 3).toNat (A3) (fun t => jun a2 (σ 79) (t : Int) (σ 55 10).toInt.toNat) ((x13 : Int32).toInt).toNat) ∧ ∀ z : Nat, z < 2 → σ15 62 z = σ 62 z))) → jH D cI cL ad σ15 τ H → va_S (jA ad) s.heap H locs → lv_has ls 6 [(4, .int x13), (0, .ref (ad 55)), (1, .int 2), (2, .int a2), (3, .int a3)] → W p l e ({ frames := 107, cells := 0, slots := 0, locals := 5156 }) s m args below meth c H locs 0 0 Q (F0 m 38 ls []) := by
      intro n12
      induction n12 with
      | zero => intro x13 σ15 H locs ls h17 h18 h19 h20 h21; exact absurd h17 (by omega)
      | succ n12 ihlp11 =>
        intro x13 σ15 H locs ls h17 h18 h19 h20 h21 f22 f23 p24 p25 p26 p27 q28 hP hS hl
        exact by
         obtain ⟨i29, i30, i31, w32, w33⟩ : (1 ≤ (σ15 55 10).toInt ∧ (σ15 55 10).toInt ≤ 8) ∧ (1 ≤ (σ15 55 12).toInt ∧ (σ15 55 12).toInt ≤ 12) ∧ (0 ≤ (σ15 55 13).toInt ∧ (σ15 55 13).toInt ≤ 999) ∧ (∀ k : Nat, k < 8 → 0 ≤ (σ15 62 k).toInt ∧ (σ15 62 k).toInt ≤ 3) ∧ (∀ k : Nat, k < 8 → 0 ≤ (σ15 67 k).toInt ∧ (σ15 67 k).toInt ≤ 3) := id p26
         have z34 : (σ15 55 10).toInt = (σ 55 10).toInt := (congrArg Int32.toInt (show σ15 55 10 = (σ 55 10) from (f23 10 (of_decide_eq_true rfl))))
         have z35 : (σ15 55 12).toInt = (σ 55 12).toInt := (congrArg Int32.toInt (show σ15 55 12 = (σ 55 12) from (f23 12 (of_decide_eq_true rfl))))
         have z36 : (σ15 55 13).toInt = (σ 55 13).toInt := (congrArg Int32.toInt (show σ15 55 13 = (σ 55 13) from (f23 13 (of_decide_eq_true rfl))))
         refine lv_iload hx hb dX12_orders_38 (lv_at hl 0 rfl) ?_
         refine lv_iconst (v := 4) hx hb dX12_orders_40 (of_decide_eq_true rfl) ?_
         refine lv_icmp_ge (tgt := 127) hx hb dX12_orders_41 (of_decide_eq_true rfl) (fun c37 => ?_) (fun c37 => ?_)
         · have kc37 := jle c37 jz_4 rfl
           have p38 : jTR σ15 := jTR.fr (f22 64 (of_decide_eq_true rfl)) (f22 65 (of_decide_eq_true rfl)) hs_jTR
           exact by exact hret σ15 τ _ _ _ _ ⟨rfl, (fun i hi => (f22 i hi)), (fun i hi => (f23 i hi)), p26, p27, p24, p38, p25, (fun wa9 wb9 ok dg => ⟨jOr.fin (q28 wa9 wb9 ok dg).1 (by omega) (by omega), (q28 wa9 wb9 ok dg).2⟩), (by omega), (by omega), trivial⟩ hP hS dX12_orders_127
         · have kc37 := jnle c37 jz_4 rfl
           refine lv_iconst (v := 0) hx hb dX12_orders_44 (of_decide_eq_true rfl) ?_
           refine lv_istore (lv' := [(5, .int 0), (4, .int x13), (0, .ref (ad 55)), (1, .int 2), (2, .int a2), (3, .int a3)]) hx hb dX12_orders_45 hl (of_decide_eq_true rfl) rfl (fun ls hl => ?_)
           have lp39 : ∀ (n40 : Nat) (x41 : Int32) (H : Heap) (locs : List Loc) (ls : Array Slot), ((σ15 55 10).toInt - x41.toInt : Int) < n40 → 0 ≤ x41.toInt → x41.toInt ≤ 5 → x41.toInt ≤ (σ15 55 10).toInt → (jNl a2 (σ 79) (x13 : Int32).toInt (x41 : Int32).toInt) → jH D cI cL ad σ15 τ H → va_S (jA ad) s.heap H locs → lv_has ls 6 [(5, .int x41), (4, .int x13), (0, .ref (ad 55)), (1, .int 2), (2, .int a2), (3, .int a3)] → W p l e ({ frames := 107, cells := 0, slots := 0, locals := 5156 }) s m args below meth c H locs 0 0 Q (F0 m 47 ls []) := by
             intro n40
             induction n40 with
             | zero => intro x41 H locs ls h43 h44 h45 h46; exact absurd h43 (by omega)
             | succ n40 ihlp39 =>
               intro x41 H locs ls h43 h44 h45 h46 q48 hP hS hl
               exact by
                refine lv_iload hx hb dX12_orders_47 (lv_at hl 0 rfl) ?_
                refine lv_aload_n hx hb dX12_orders_49 rfl (lv_at hl 2 rfl) ?_
                refine va_get (D := D) hx hb hts inlX12 hown hK hP 55 (jc_55 cI cL ad σ15 τ) rfl 10 (of_decide_eq_true rfl) (hts _ kw_8_15) (fun _ h9 => h9) rfl dX12_orders_50 ?_
                have m49 : σ15 55 10 = (σ 55 10) := (f23 10 (of_decide_eq_true rfl))
                refine jtopr m49 ?_
                refine lv_icmp_ge (tgt := 84) hx hb dX12_orders_53 (of_decide_eq_true rfl) (fun c50 => ?_) (fun c50 => ?_)
                · have kc50 := jle c50 rfl rfl
                  refine lv_iload hx hb dX12_orders_84 (lv_at hl 0 rfl) ?_
                  refine lv_aload_n hx hb dX12_orders_86 rfl (lv_at hl 2 rfl) ?_
                  refine va_get (D := D) hx hb hts inlX12 hown hK hP 55 (jc_55 cI cL ad σ15 τ) rfl 10 (of_decide_eq_true rfl) (hts _ kw_8_15) (fun _ h9 => h9) rfl dX12_orders_87 ?_
                  refine jtopr m49 ?_
                  exact by
                   refine lv_icmp_ge (tgt := 121) hx hb dX12_orders_90 (of_decide_eq_true rfl) (fun c51 => ?_) (fun c => absurd (jnle c rfl rfl) (by omega))
                   have kc51 := jle c51 rfl rfl
                   obtain ⟨x52, ex52⟩ : ∃ y : Int32, y = x13 + 1 := ⟨_, rfl⟩
                   have tx52 : x52.toInt = x13.toInt + 1 := (jadd ex52 rfl jz_1 (by omega) (by omega)).trans (by omega)
                   refine lv_iinc (v := x52) (lv' := [(4, .int x52), (5, .int x41), (0, .ref (ad 55)), (1, .int 2), (2, .int a2), (3, .int a3)]) hx hb dX12_orders_121 hl (k := 1) rfl (by rw [ex52]; rfl) (of_decide_eq_true rfl) rfl (fun ls hl => ?_)
                   refine lv_goto (tgt := 38) hx hb dX12_orders_124 (of_decide_eq_true rfl) ?_
                   exact by exact ihlp11 x52 σ15 _ _ ls (by have h90 := tx52; omega) (by have h90 := tx52; omega) (by have h90 := tx52; omega) (by have h90 := tx52; omega) (by have h90 := tx52; omega) (fun i hi => (f22 i hi)) (fun i hi => (f23 i hi))  p24 p25 p26 p27 (fun wa9 wb9 ok dg => ⟨jOr.skip (q28 wa9 wb9 ok dg).1 (show jun a2 (σ 79) ((((x13 : Int32).toInt).toNat : Nat) : Int) (σ 55 10).toInt.toNat = 0 by rw [show ((((x13 : Int32).toInt).toNat : Nat) : Int) = (x13 : Int32).toInt by omega]; exact (jNl.none (σ 55 10).toInt.toNat q48 (by omega))) (by omega) (by have h9 := tx52; omega), (q28 wa9 wb9 ok dg).2⟩) hP hS (lv_sub hl [0, 2, 3, 4, 5] rfl)
                · have kc50 := jnle c50 rfl rfl
                  refine lv_iload_n hx hb dX12_orders_56 rfl (lv_at hl 4 rfl) ?_
                  exact by
                   refine lv_iload hx hb dX12_orders_57 (lv_at hl 0 rfl) ?_
                   refine lv_ishr hx hb dX12_orders_59 ?_
                   refine lv_topi (fun x53 ex53 => ?_)
                   have gx53 := jrg (rfl : x53.toInt = x53.toInt)
                   refine lv_iconst (v := 1) hx hb dX12_orders_60 (of_decide_eq_true rfl) ?_
                   refine lv_iand hx hb dX12_orders_61 ?_
                   refine lv_topi (fun x54 ex54 => ?_)
                   have gx54 := jrg (rfl : x54.toInt = x54.toInt)
                   have g55 : 0 ≤ x54.toInt ∧ x54.toInt ≤ 1 := jmask ex54 1 (of_decide_eq_true rfl) (of_decide_eq_true rfl)
                   refine lv_iconst (v := 1) hx hb dX12_orders_62 (of_decide_eq_true rfl) ?_
                   refine lv_icmp_eq (tgt := 78) hx hb dX12_orders_63 (of_decide_eq_true rfl) (fun c56 => ?_) (fun c56 => ?_)
                   · have kc56 := jeq c56 rfl jz_1
                     obtain ⟨x57, ex57⟩ : ∃ y : Int32, y = x41 + 1 := ⟨_, rfl⟩
                     exact by
                      have tx57 : x57.toInt = x41.toInt + 1 := (jadd ex57 rfl jz_1 (by omega) (by omega)).trans (by omega)
                      refine lv_iinc (v := x57) (lv' := [(5, .int x57), (4, .int x13), (0, .ref (ad 55)), (1, .int 2), (2, .int a2), (3, .int a3)]) hx hb dX12_orders_78 hl (k := 0) rfl (by rw [ex57]; rfl) (of_decide_eq_true rfl) rfl (fun ls hl => ?_)
                      refine lv_goto (tgt := 47) hx hb dX12_orders_81 (of_decide_eq_true rfl) ?_
                      exact by exact ihlp39 x57 _ _ ls (by have h90 := tx57; omega) (by have h90 := tx57; omega) (by have h90 := tx57; omega) (by have h90 := tx57; omega)   (jNl.step q48 (by omega) (fun w => by have w9 := (jtbit (a := a2) (i := x41) ex53 ex54 (by omega) (by omega)).mp (by omega); rw [w.1] at w9; exact absurd w9 (of_decide_eq_true rfl)) (by have h9 := tx57; omega)) hP hS (lv_sub hl [0, 1, 2, 3, 4, 5] rfl)
                   · have kc56 := jne c56 rfl jz_1
                     refine lv_aload_n hx hb dX12_orders_66 rfl (lv_at hl 2 rfl) ?_
                     refine va_get (D := D) hx hb hts inlX12 hown hK hP 55 (jc_55 cI cL ad σ15 τ) rfl 44 (of_decide_eq_true rfl) (hts _ kw_8_4) (fun _ h9 => h9) rfl dX12_orders_67 ?_
                     refine lv_iload hx hb dX12_orders_70 (lv_at hl 0 rfl) ?_
                     refine jald hx hb hK hP (jc_79 cI cL ad σ15 τ) (jin rfl (by omega) (by omega)) dX12_orders_72 ?_
                     exact by
                      have w58 : ∀ k : Nat, k < 5 → 0 ≤ (σ15 79 k).toInt ∧ (σ15 79 k).toInt ≤ 3 := (jrr_fr (f22 79 (of_decide_eq_true rfl)) w9)
                      have g59 := w58 _ (jnat (x := x41) rfl (n := 5) (by omega) (of_decide_eq_true rfl))
                      refine jtopr (y := (σ 79 x41.toNatClampNeg)) (by rw [f22 79 (of_decide_eq_true rfl)]) ?_
                      rw [f22 79 (of_decide_eq_true rfl)] at g59
                      refine lv_iload hx hb dX12_orders_73 (lv_at hl 1 rfl) ?_
                      refine lv_icmp_eq (tgt := 84) hx hb dX12_orders_75 (of_decide_eq_true rfl) (fun c60 => ?_) (fun c60 => ?_)
                      · have kc60 := jeq c60 rfl rfl
                        refine lv_iload hx hb dX12_orders_84 (lv_at hl 0 rfl) ?_
                        refine lv_aload_n hx hb dX12_orders_86 rfl (lv_at hl 2 rfl) ?_
                        exact by
                         refine va_get (D := D) hx hb hts inlX12 hown hK hP 55 (jc_55 cI cL ad σ15 τ) rfl 10 (of_decide_eq_true rfl) (hts _ kw_8_15) (fun _ h9 => h9) rfl dX12_orders_87 ?_
                         refine jtopr m49 ?_
                         refine lv_icmp_ge (tgt := 121) hx hb dX12_orders_90 (of_decide_eq_true rfl) (fun c => absurd (jle c rfl rfl) (by omega)) (fun c61 => ?_)
                         have kc61 := jnle c61 rfl rfl
                         refine lv_aload_n hx hb dX12_orders_93 rfl (lv_at hl 2 rfl) ?_
                         refine va_get (D := D) hx hb hts inlX12 hown hK hP 55 (jc_55 cI cL ad σ15 τ) rfl 11 (of_decide_eq_true rfl) (hts _ kw_7_8) (fun _ h9 => h9) rfl dX12_orders_94 ?_
                         refine lv_iload_n hx hb dX12_orders_97 rfl (lv_at hl 3 rfl) ?_
                         refine lv_iload hx hb dX12_orders_98 (lv_at hl 1 rfl) ?_
                         refine jast hx hb hK hP hJ hA hS (jc_62 cI cL ad σ15 τ) (ja_62 cI cL ad σ15 τ _ _) (jin jz_2 (by omega) (by omega)) dX12_orders_100 (fun σ62 H locs eσ62 hP hS => ?_)
                         exact by
                          have eσ62 : σ62 = jup σ15 62 2 x13 := eσ62
                          refine lv_aload_n hx hb dX12_orders_101 rfl (lv_at hl 2 rfl) ?_
                          refine lv_iload_n hx hb dX12_orders_102 rfl (lv_at hl 3 rfl) ?_
                          refine lv_iconst (v := 1) hx hb dX12_orders_103 (of_decide_eq_true rfl) ?_
                          refine lv_iadd hx hb dX12_orders_104 ?_
                          refine jtopr (y := 3) (of_decide_eq_true rfl) ?_
                          refine lv_iload_n hx hb dX12_orders_105 rfl (lv_at hl 4 rfl) ?_
                          refine lv_iconst (v := 1) hx hb dX12_orders_106 (of_decide_eq_true rfl) ?_
                          refine lv_iload hx hb dX12_orders_107 (lv_at hl 0 rfl) ?_
                          refine lv_ishl hx hb dX12_orders_109 ?_
                          refine lv_topi (fun x63 ex63 => ?_)
                          have gx63 := jrg (rfl : x63.toInt = x63.toInt)
                          refine lv_ior hx hb dX12_orders_110 ?_
                          refine lv_topi (fun x64 ex64 => ?_)
                          have gx64 := jrg (rfl : x64.toInt = x64.toInt)
                          refine lv_bipush (v := 10) hx hb dX12_orders_111 (of_decide_eq_true rfl) ?_
                          refine lv_iload_n hx hb dX12_orders_113 rfl (lv_at hl 5 rfl) ?_
                          refine lv_imul hx hb dX12_orders_114 ?_
                          refine lv_topi (fun x65 ex65 => ?_)
                          exact by
                           have tx65 : x65.toInt = 10 * A3 := (jmul ex65 jz_10 t3 (by omega) (by omega)).trans (by omega)
                           refine lv_iload hx hb dX12_orders_115 (lv_at hl 1 rfl) ?_
                           have g66 := jrg (rfl : x13.toInt = x13.toInt)
                           refine lv_iadd hx hb dX12_orders_117 ?_
                           refine lv_topi (fun x67 ex67 => ?_)
                           have tx67 : x67.toInt = 10 * A3 + x13.toInt := (jadd ex67 tx65 rfl (by omega) (by omega)).trans (by omega)
                           have I68 : jI101 σ62 := jI101_fr ((congrFun (jnp 55 eσ62 (of_decide_eq_true rfl)) 4).trans (f23 4 (of_decide_eq_true rfl))) ((congrFun (jnp 55 eσ62 (of_decide_eq_true rfl)) 5).trans (f23 5 (of_decide_eq_true rfl))) ((jnp 56 eσ62 (of_decide_eq_true rfl)).trans (f22 56 (of_decide_eq_true rfl))) ((jnp 57 eσ62 (of_decide_eq_true rfl)).trans (f22 57 (of_decide_eq_true rfl))) ((jnp 58 eσ62 (of_decide_eq_true rfl)).trans (f22 58 (of_decide_eq_true rfl))) ((jnp 59 eσ62 (of_decide_eq_true rfl)).trans (f22 59 (of_decide_eq_true rfl))) hI101
                           have I69 : jI102 σ62 := jI102_fr ((congrFun (jnp 55 eσ62 (of_decide_eq_true rfl)) 6).trans (f23 6 (of_decide_eq_true rfl))) ((jnp 60 eσ62 (of_decide_eq_true rfl)).trans (f22 60 (of_decide_eq_true rfl))) ((jnp 61 eσ62 (of_decide_eq_true rfl)).trans (f22 61 (of_decide_eq_true rfl))) hI102
                           have I70 : jI103 σ62 := jI103_fr ((congrFun (jnp 55 eσ62 (of_decide_eq_true rfl)) 9).trans (f23 9 (of_decide_eq_true rfl))) hI103
                           exact by
                            have z71 : (σ62 55 10).toInt = (σ 55 10).toInt := (congrArg Int32.toInt (show σ62 55 10 = (σ 55 10) from ((congrFun (jnp 55 eσ62 (of_decide_eq_true rfl)) 10).trans m49)))
                            have z72 : (σ62 55 12).toInt = (σ 55 12).toInt := (congrArg Int32.toInt (show σ62 55 12 = (σ 55 12) from ((congrFun (jnp 55 eσ62 (of_decide_eq_true rfl)) 12).trans (f23 12 (of_decide_eq_true rfl)))))
                            have z73 : (σ62 55 13).toInt = (σ 55 13).toInt := (congrArg Int32.toInt (show σ62 55 13 = (σ 55 13) from ((congrFun (jnp 55 eσ62 (of_decide_eq_true rfl)) 13).trans (f23 13 (of_decide_eq_true rfl)))))
                            have w74 : ∀ k : Nat, k < 8 → 0 ≤ (σ62 62 k).toInt ∧ (σ62 62 k).toInt ≤ 3 := (by rw [eσ62]; exact jrr_up w32 (by omega) (by omega))
                            have w75 : ∀ k : Nat, k < 8 → 0 ≤ (σ62 67 k).toInt ∧ (σ62 67 k).toInt ≤ 3 := (jrr_fr (jnp 67 eσ62 (of_decide_eq_true rfl)) w33)
                            have I76 : jI104 σ62 := ⟨(by omega), (by omega), (by omega), w74, w75⟩
                            have I77 : jI105 σ62 := jI105_fr ((congrFun (jnp 55 eσ62 (of_decide_eq_true rfl)) 15).trans (f23 15 (of_decide_eq_true rfl))) ((jnp 65 eσ62 (of_decide_eq_true rfl)).trans (f22 65 (of_decide_eq_true rfl))) hI105
                            have I78 : jI106 σ62 := jI106_fr ((congrFun (jnp 55 eσ62 (of_decide_eq_true rfl)) 32).trans (f23 32 (of_decide_eq_true rfl))) ((jnp 70 eσ62 (of_decide_eq_true rfl)).trans (f22 70 (of_decide_eq_true rfl))) ((jnp 71 eσ62 (of_decide_eq_true rfl)).trans (f22 71 (of_decide_eq_true rfl))) ((jnp 72 eσ62 (of_decide_eq_true rfl)).trans (f22 72 (of_decide_eq_true rfl))) hI106
                            have I79 : jI119 σ62 := jI119_fr (jnp 68 eσ62 (of_decide_eq_true rfl)) p27
                            exact by
                             have I80 : jI111 σ62 := jI111_fr ((jnp 79 eσ62 (of_decide_eq_true rfl)).trans (f22 79 (of_decide_eq_true rfl))) hI111
                             have p81 : jKept σ62 := jKept.fr (jnp 75 eσ62 (of_decide_eq_true rfl)) (jnp 76 eσ62 (of_decide_eq_true rfl)) (jnp 77 eσ62 (of_decide_eq_true rfl)) p24
                             have p82 : jTR σ62 := jTR.fr ((jnp 64 eσ62 (of_decide_eq_true rfl)).trans (f22 64 (of_decide_eq_true rfl))) ((jnp 65 eσ62 (of_decide_eq_true rfl)).trans (f22 65 (of_decide_eq_true rfl))) hs_jTR
                             have p83 : jqSt σ62 := jqSt.fr (jnp 78 eσ62 (of_decide_eq_true rfl)) (congrFun (jnp 55 eσ62 (of_decide_eq_true rfl)) 42) p25
                             have z84 : (σ62 55 42).toInt = (σ15 55 42).toInt := (congrArg Int32.toInt (show σ62 55 42 = (σ15 55 42) from (congrFun (jnp 55 eσ62 (of_decide_eq_true rfl)) 42)))
                             refine jcallVv (As := [.int 3, .int x64, .int x67]) (rest := []) ⟨hx, hb, hml, hown, hts⟩ hK hP hA hS hZ (c_X12_orders_3 l D cI cL ad zz hJ σ62 τ x64 (x64.toInt) rfl x67 (10 * A3 + x13.toInt) tx67 I68 I69 I70 I76 I77 I78 I79 I80 p81 p82 p83 (by omega) (by omega) (by omega) (by omega) (by omega)) cw_RX12_355 (jc_55 cI cL ad σ62 τ) rfl ⟨Nat.le_of_ble_eq_true rfl, Nat.le_of_ble_eq_true rfl⟩ rfl rfl rfl hl.1 rfl (Nat.le_of_ble_eq_true rfl) dX12_orders_118 ⟨Nat.zero_le _, Nat.zero_le _⟩ (fun σ85 τ85 H locs h85 hP hS => ?_)
                             obtain ⟨rfl, f87, f88, I89, I90, p91, p92, p93, w94, h85⟩ := h85
                             obtain ⟨i96, i97, i98, w99, w100⟩ : (1 ≤ (σ85 55 10).toInt ∧ (σ85 55 10).toInt ≤ 8) ∧ (1 ≤ (σ85 55 12).toInt ∧ (σ85 55 12).toInt ≤ 12) ∧ (0 ≤ (σ85 55 13).toInt ∧ (σ85 55 13).toInt ≤ 999) ∧ (∀ k : Nat, k < 8 → 0 ≤ (σ85 62 k).toInt ∧ (σ85 62 k).toInt ≤ 3) ∧ (∀ k : Nat, k < 8 → 0 ≤ (σ85 67 k).toInt ∧ (σ85 67 k).toInt ≤ 3) := id I89
                             have z101 : (σ85 55 10).toInt = (σ 55 10).toInt := (congrArg Int32.toInt (show σ85 55 10 = (σ 55 10) from ((f88 10 (of_decide_eq_true rfl)).trans ((congrFun (jnp 55 eσ62 (of_decide_eq_true rfl)) 10).trans m49))))
                             exact by
                              have z102 : (σ85 55 12).toInt = (σ 55 12).toInt := (congrArg Int32.toInt (show σ85 55 12 = (σ 55 12) from ((f88 12 (of_decide_eq_true rfl)).trans ((congrFun (jnp 55 eσ62 (of_decide_eq_true rfl)) 12).trans (f23 12 (of_decide_eq_true rfl))))))
                              have z103 : (σ85 55 13).toInt = (σ 55 13).toInt := (congrArg Int32.toInt (show σ85 55 13 = (σ 55 13) from ((f88 13 (of_decide_eq_true rfl)).trans ((congrFun (jnp 55 eσ62 (of_decide_eq_true rfl)) 13).trans (f23 13 (of_decide_eq_true rfl))))))
                              obtain ⟨k104, k105, h85⟩ := h85
                              obtain ⟨x106, ex106⟩ : ∃ y : Int32, y = x13 + 1 := ⟨_, rfl⟩
                              have tx106 : x106.toInt = x13.toInt + 1 := (jadd ex106 rfl jz_1 (by omega) (by omega)).trans (by omega)
                              refine lv_iinc (v := x106) (lv' := [(4, .int x106), (5, .int x41), (0, .ref (ad 55)), (1, .int 2), (2, .int a2), (3, .int a3)]) hx hb dX12_orders_121 hl (k := 1) rfl (by rw [ex106]; rfl) (of_decide_eq_true rfl) rfl (fun ls hl => ?_)
                              refine lv_goto (tgt := 38) hx hb dX12_orders_124 (of_decide_eq_true rfl) ?_
                              have z107 : (σ62 55 30).toInt = (σ 55 30).toInt := (congrArg Int32.toInt (show σ62 55 30 = (σ 55 30) from ((congrFun (jnp 55 eσ62 (of_decide_eq_true rfl)) 30).trans (f23 30 (of_decide_eq_true rfl)))))
                              have z108 : (σ62 55 31).toInt = (σ 55 31).toInt := (congrArg Int32.toInt (show σ62 55 31 = (σ 55 31) from ((congrFun (jnp 55 eσ62 (of_decide_eq_true rfl)) 31).trans (f23 31 (of_decide_eq_true rfl)))))
                              exact by
                               have z109 : (σ62 55 46).toInt = (σ15 55 46).toInt := (congrArg Int32.toInt (show σ62 55 46 = (σ15 55 46) from (congrFun (jnp 55 eσ62 (of_decide_eq_true rfl)) 46)))
                               have z110 : (σ62 55 45).toInt = (σ15 55 45).toInt := (congrArg Int32.toInt (show σ62 55 45 = (σ15 55 45) from (congrFun (jnp 55 eσ62 (of_decide_eq_true rfl)) 45)))
                               have k111 : (σ 55 30).toInt = -1 → (σ 55 31).toInt = -1 → jOk (σ 56) → (A3) = jtD (fun z : Nat => (σ 62 z).toInt) 2 → (((σ85 55 46).toInt, (σ85 55 45).toInt) = jfr (jrVd σ) ((σ 55 46).toInt, (σ 55 45).toInt) (jolS ((σ 55 10).toInt - 3).toNat (A3) (fun t => jun a2 (σ 79) (t : Int) (σ 55 10).toInt.toNat) ((x106 : Int32).toInt).toNat) ∧ ∀ z : Nat, z < 2 → σ85 62 z = σ 62 z) := fun wa9 wb9 ok dg => by
                                 have q9 := q28 wa9 wb9 ok dg
                                 have f9 : ∀ z : Nat, z < 2 → σ62 62 z = σ 62 z := fun z hz => ((jkp z eσ62 (by omega)).trans (q9.2 z hz))
                                 have s9 : (σ62 62 2).toInt = (x13 : Int32).toInt := by rw [show σ62 62 2 = x13 from (jsp eσ62)]
                                 have d9 : 10 * A3 + x13.toInt = jtD (fun z : Nat => (σ62 62 z).toInt) 3 := by
                                   show _ = 10 * jtD (fun z : Nat => (σ62 62 z).toInt) 2 + (σ62 62 2).toInt
                                   rw [jtD_cong (g := fun z : Nat => (σ 62 z).toInt) 2 (fun z hz => by show (σ62 62 z).toInt = (σ 62 z).toInt; rw [f9 z hz]), ← dg, s9] <;> omega
                                 exact by
                                  have r9 := w94 (by omega) (by omega) (by rw [show σ62 56 = σ 56 from ((jnp 56 eσ62 (of_decide_eq_true rfl)).trans (f22 56 (of_decide_eq_true rfl)))]; exact ok) d9
                                  have e79 : σ62 79 = σ 79 := ((jnp 79 eσ62 (of_decide_eq_true rfl)).trans (f22 79 (of_decide_eq_true rfl)))
                                  have e10 : σ62 55 10 = σ 55 10 := ((congrFun (jnp 55 eσ62 (of_decide_eq_true rfl)) 10).trans (f23 10 (of_decide_eq_true rfl)))
                                  have bit : a2.toBitVec.getLsbD ((x41 : Int32).toInt).toNat = false := (by have w9 := (jtbit (a := a2) (i := x41) ex53 ex54 (by omega) (by omega)); cases hb9 : a2.toBitVec.getLsbD ((x41 : Int32).toInt).toNat with | false => rfl | true => exact absurd (w9.mpr hb9) (by omega))
                                  have own : (σ 79 ((x41 : Int32).toInt).toNat).toInt = (x13 : Int32).toInt := by show (σ 79 x41.toNatClampNeg).toInt = (x13 : Int32).toInt; omega
                                  have tk := fun t : Int => jun_take (f := σ 79) (i := ((x41 : Int32).toInt).toNat) (fun z hz => jtor (i := x41) ex63 ex64 (by omega) (by omega) z hz) bit t (σ 55 10).toInt.toNat (by omega)
                                  have m9 : (σ62 55 46).toInt = (σ15 55 46).toInt ∧ (σ62 55 45).toInt = (σ15 55 45).toInt := ⟨by rw [show σ62 55 46 = σ15 55 46 from (congrFun (jnp 55 eσ62 (of_decide_eq_true rfl)) 46)], by rw [show σ62 55 45 = σ15 55 45 from (congrFun (jnp 55 eσ62 (of_decide_eq_true rfl)) 45)]⟩
                                  have r1 := r9.1
                                  rw [m9.1, m9.2, e79, e10] at r1
                                  exact by
                                   refine ⟨jOr.step q9.1 r1 (jrVd_eq (σ := σ) (u := σ62) ((jnp 56 eσ62 (of_decide_eq_true rfl)).trans (f22 56 (of_decide_eq_true rfl))) ((jnp 60 eσ62 (of_decide_eq_true rfl)).trans (f22 60 (of_decide_eq_true rfl))) ((jnp 61 eσ62 (of_decide_eq_true rfl)).trans (f22 61 (of_decide_eq_true rfl))) ((jnp 64 eσ62 (of_decide_eq_true rfl)).trans (f22 64 (of_decide_eq_true rfl))) ((jnp 65 eσ62 (of_decide_eq_true rfl)).trans (f22 65 (of_decide_eq_true rfl))) ((congrFun (jnp 55 eσ62 (of_decide_eq_true rfl)) 6).trans (f23 6 (of_decide_eq_true rfl))) ((congrFun (jnp 55 eσ62 (of_decide_eq_true rfl)) 9).trans (f23 9 (of_decide_eq_true rfl))) ((congrFun (jnp 55 eσ62 (of_decide_eq_true rfl)) 10).trans (f23 10 (of_decide_eq_true rfl))) ((congrFun (jnp 55 eσ62 (of_decide_eq_true rfl)) 12).trans (f23 12 (of_decide_eq_true rfl))) ((congrFun (jnp 55 eσ62 (of_decide_eq_true rfl)) 13).trans (f23 13 (of_decide_eq_true rfl)))) (by omega) (by omega) (show 0 < jun a2 (σ 79) ((((x13 : Int32).toInt).toNat : Nat) : Int) (σ 55 10).toInt.toNat by have w9 := tk ((((x13 : Int32).toInt).toNat : Nat) : Int); rw [if_pos ⟨by omega, by rw [own]; omega⟩] at w9; omega) (fun t ht => by have w9 := tk (t : Int); rw [own] at w9; exact (Classical.em (t = ((x13 : Int32).toInt).toNat)).elim (fun c9 => by rw [if_pos c9]; rw [if_pos ⟨by omega, by omega⟩] at w9; exact w9) (fun c9 => by rw [if_neg c9]; rw [if_neg (fun y => c9 (by have := y.2; omega))] at w9; exact w9)) (by omega) (by have h9 := tx106; omega), fun z hz => (r9.2 z (by omega)).trans (f9 z hz)⟩
                               exact by exact ihlp11 x106 σ85 _ _ ls (by have h90 := tx106; omega) (by have h90 := tx106; omega) (by have h90 := tx106; omega) (by have h90 := tx106; omega) (by have h90 := tx106; omega) (fun i hi => ((f87 i hi).trans ((jnp i eσ62 (imp_276 i hi)).trans (f22 i hi)))) (fun i hi => ((f88 i hi).trans ((congrFun (jnp 55 eσ62 (of_decide_eq_true rfl)) i).trans (f23 i hi))))  p91 p93 I89 I90 k111 hP hS (lv_sub hl [0, 2, 3, 4, 5] rfl)
                      · have kc60 := jne c60 rfl rfl
                        obtain ⟨x112, ex112⟩ : ∃ y : Int32, y = x41 + 1 := ⟨_, rfl⟩
                        have tx112 : x112.toInt = x41.toInt + 1 := (jadd ex112 rfl jz_1 (by omega) (by omega)).trans (by omega)
                        refine lv_iinc (v := x112) (lv' := [(5, .int x112), (4, .int x13), (0, .ref (ad 55)), (1, .int 2), (2, .int a2), (3, .int a3)]) hx hb dX12_orders_78 hl (k := 0) rfl (by rw [ex112]; rfl) (of_decide_eq_true rfl) rfl (fun ls hl => ?_)
                        refine lv_goto (tgt := 47) hx hb dX12_orders_81 (of_decide_eq_true rfl) ?_
                        exact by exact ihlp39 x112 _ _ ls (by have h90 := tx112; omega) (by have h90 := tx112; omega) (by have h90 := tx112; omega) (by have h90 := tx112; omega)   (jNl.step q48 (by omega) (fun w => absurd w.2 (by show ¬ (σ 79 x41.toNatClampNeg).toInt = (x13 : Int32).toInt; omega)) (by have h9 := tx112; omega)) hP hS (lv_sub hl [0, 1, 2, 3, 4, 5] rfl)
           exact by exact lp39 1000000 0 _ _ ls (by have h90 := jz_0; omega) (by have h90 := jz_0; omega) (by have h90 := jz_0; omega) (by have h90 := jz_0; omega)  (jNl.first (by have h9 := jz_0; omega)) hP hS hl
    exact by exact lp11 1000000 0 σ _ _ ls (by have h90 := jz_0; omega) (by have h90 := jz_0; omega) (by have h90 := jz_0; omega) (by have h90 := jz_0; omega) (by have h90 := jz_0; omega) (fun _ _ => rfl) (fun _ _ => rfl)  hs_jKept hs_jqSt hI104 hI119 (fun _ _ _ _ => ⟨jOr.first (by omega) (by omega) (by have h9 := jz_0; omega), fun z hz => rfl⟩) hP hS hl
  · exact by
     have kc10 := jeq c10 jz_2 rfl
     refine lv_aload_n hx hb dX12_orders_8 rfl (lv_at hl 0 rfl) ?_
     refine jcallV (As := []) (rest := []) ⟨hx, hb, hml, hown, hts⟩ hK hP hA hS hZ (c_X12_bestNow l D cI cL ad zz hJ σ τ hI101 hI102 hI103 hI104 hI105 hI106 hI119 hs_jKept hs_jTR hs_jqSt (by omega) (by omega)) cw_RX12_346 (jc_55 cI cL ad σ τ) rfl ⟨Nat.le_of_ble_eq_true rfl, Nat.le_of_ble_eq_true rfl⟩ rfl rfl rfl hl.1 rfl (Nat.le_of_ble_eq_true rfl) dX12_orders_9 ⟨Nat.zero_le _, Nat.zero_le _⟩ (fun r114 σ113 τ113 H locs h113 hP hS => ?_)
     obtain ⟨rfl, f115, f116, I117, p118, p119, p120, w121, h113⟩ := h113
     obtain ⟨k123, k124, h113⟩ := h113
     have h125 := h113
     obtain ⟨q127, k126⟩ := h125
     refine lv_istore (lv' := [(4, .int r114), (0, .ref (ad 55)), (1, .int 2), (2, .int a2), (3, .int a3)]) hx hb dX12_orders_12 hl (of_decide_eq_true rfl) rfl (fun ls hl => ?_)
     refine lv_iload hx hb dX12_orders_14 (lv_at hl 0 rfl) ?_
     exact by
      refine lv_aload_n hx hb dX12_orders_16 rfl (lv_at hl 1 rfl) ?_
      refine va_get (D := D) hx hb hts inlX12 hown hK hP 55 (jc_55 cI cL ad σ113 τ) rfl 46 (of_decide_eq_true rfl) (hts _ kw_40_17) (fun _ h9 => h9) rfl dX12_orders_17 ?_
      have m128 : σ113 55 46 = (σ 55 46) := (f116 46 (of_decide_eq_true rfl))
      refine jtopr m128 ?_
      refine lv_icmp_le (tgt := 34) hx hb dX12_orders_20 (of_decide_eq_true rfl) (fun c129 => ?_) (fun c129 => ?_)
      · have kc129 := jle c129 rfl rfl
        have I130 : jI104 σ113 := jI104_fr (f116 10 (of_decide_eq_true rfl)) (f116 12 (of_decide_eq_true rfl)) (f116 13 (of_decide_eq_true rfl)) (f115 62 (of_decide_eq_true rfl)) (f115 67 (of_decide_eq_true rfl)) hI104
        have z131 : (σ113 55 10).toInt = (σ 55 10).toInt := (congrArg Int32.toInt (show σ113 55 10 = (σ 55 10) from (f116 10 (of_decide_eq_true rfl))))
        have z132 : (σ113 55 46).toInt = (σ 55 46).toInt := (congrArg Int32.toInt (show σ113 55 46 = (σ 55 46) from m128))
        have z133 : (σ113 55 45).toInt = (σ 55 45).toInt := (congrArg Int32.toInt (show σ113 55 45 = (σ 55 45) from (f116 45 (of_decide_eq_true rfl))))
        exact by exact hret σ113 τ _ _ _ _ ⟨rfl, (fun i hi => (f115 i (imp_271 i hi))), (fun i hi => (f116 i (imp_272 i hi))), I130, I117, p118, p119, p120, (fun wa9 wb9 ok dg => by have x9 := w121 (-1) 0 ok (fun c hc _ => jrOv_0 wa9 wb9 c hc) ⟨by decide, by decide⟩ (by omega); rw [jrVd_of (by omega) (by omega) w7 ok (n := 2) (by omega), ← dg] at x9; exact ⟨jOr.leaf (by omega) x9 (Or.inr ⟨by omega, by omega, by omega⟩), fun z hz => congrFun ((f115 62 (of_decide_eq_true rfl))) z⟩), (by omega), (by omega), trivial⟩ hP hS dX12_orders_34
      · have kc129 := jnle c129 rfl rfl
        refine lv_aload_n hx hb dX12_orders_23 rfl (lv_at hl 1 rfl) ?_
        refine lv_iload hx hb dX12_orders_24 (lv_at hl 0 rfl) ?_
        refine jput (ty := .int) hx hb hts inlX12 tyX12 tyX12_ok nmX12 hown hK hP hJ hA hS (jc_55 cI cL ad σ113 τ) rfl (k := 46) (of_decide_eq_true rfl) (Nat.le_of_ble_eq_true rfl) (jp_55_46 cI cL ad σ113 τ r114) (hts _ kw_40_17) (fun _ h9 => h9) rfl (by decide +kernel) rfl rfl dX12_orders_26 (fun σ134 H locs eσ134 hP hS => ?_)
        refine lv_aload_n hx hb dX12_orders_29 rfl (lv_at hl 1 rfl) ?_
        refine lv_iload_n hx hb dX12_orders_30 rfl (lv_at hl 4 rfl) ?_
        refine jput (ty := .int) hx hb hts inlX12 tyX12 tyX12_ok nmX12 hown hK hP hJ hA hS (jc_55 cI cL ad σ134 τ) rfl (k := 45) (of_decide_eq_true rfl) (Nat.le_of_ble_eq_true rfl) (jp_55_45 cI cL ad σ134 τ a3) (hts _ kw_40_18) (fun _ h9 => h9) rfl (by decide +kernel) rfl rfl dX12_orders_31 (fun σ135 H locs eσ135 hP hS => ?_)
        have I136 : jI104 σ135 := jI104_fr ((jkp 10 eσ135 (of_decide_eq_true rfl)).trans ((jkp 10 eσ134 (of_decide_eq_true rfl)).trans (f116 10 (of_decide_eq_true rfl)))) ((jkp 12 eσ135 (of_decide_eq_true rfl)).trans ((jkp 12 eσ134 (of_decide_eq_true rfl)).trans (f116 12 (of_decide_eq_true rfl)))) ((jkp 13 eσ135 (of_decide_eq_true rfl)).trans ((jkp 13 eσ134 (of_decide_eq_true rfl)).trans (f116 13 (of_decide_eq_true rfl)))) ((jnp 62 eσ135 (of_decide_eq_true rfl)).trans ((jnp 62 eσ134 (of_decide_eq_true rfl)).trans (f115 62 (of_decide_eq_true rfl)))) ((jnp 67 eσ135 (of_decide_eq_true rfl)).trans ((jnp 67 eσ134 (of_decide_eq_true rfl)).trans (f115 67 (of_decide_eq_true rfl)))) hI104
        have I137 : jI119 σ135 := jI119_fr ((jnp 68 eσ135 (of_decide_eq_true rfl)).trans (jnp 68 eσ134 (of_decide_eq_true rfl))) I117
        have p138 : jKept σ135 := jKept.fr ((jnp 75 eσ135 (of_decide_eq_true rfl)).trans (jnp 75 eσ134 (of_decide_eq_true rfl))) ((jnp 76 eσ135 (of_decide_eq_true rfl)).trans (jnp 76 eσ134 (of_decide_eq_true rfl))) ((jnp 77 eσ135 (of_decide_eq_true rfl)).trans (jnp 77 eσ134 (of_decide_eq_true rfl))) p118
        have p139 : jTR σ135 := jTR.fr ((jnp 64 eσ135 (of_decide_eq_true rfl)).trans (jnp 64 eσ134 (of_decide_eq_true rfl))) ((jnp 65 eσ135 (of_decide_eq_true rfl)).trans (jnp 65 eσ134 (of_decide_eq_true rfl))) p119
        have p140 : jqSt σ135 := jqSt.fr ((jnp 78 eσ135 (of_decide_eq_true rfl)).trans (jnp 78 eσ134 (of_decide_eq_true rfl))) ((jkp 42 eσ135 (of_decide_eq_true rfl)).trans (jkp 42 eσ134 (of_decide_eq_true rfl))) p120
        have z141 : (σ135 55 10).toInt = (σ 55 10).toInt := (congrArg Int32.toInt (show σ135 55 10 = (σ 55 10) from ((jkp 10 eσ135 (of_decide_eq_true rfl)).trans ((jkp 10 eσ134 (of_decide_eq_true rfl)).trans (f116 10 (of_decide_eq_true rfl))))))
        have z142 : (σ135 55 46).toInt = r114.toInt := (congrArg Int32.toInt (show σ135 55 46 = r114 from ((jkp 46 eσ135 (of_decide_eq_true rfl)).trans (jsp eσ134))))
        have z143 : (σ135 55 45).toInt = A3 := ((congrArg Int32.toInt (show σ135 55 45 = a3 from (jsp eσ135))).trans t3)
        have z144 : (σ135 55 42).toInt = (σ113 55 42).toInt := (congrArg Int32.toInt (show σ135 55 42 = (σ113 55 42) from ((jkp 42 eσ135 (of_decide_eq_true rfl)).trans (jkp 42 eσ134 (of_decide_eq_true rfl)))))
        exact by exact hret σ135 τ _ _ _ _ ⟨rfl, (fun i hi => ((jnp i eσ135 (imp_273 i hi)).trans ((jnp i eσ134 (imp_273 i hi)).trans (f115 i (imp_271 i hi))))), (fun i hi => ((jkp i eσ135 (imp_274 i hi)).trans ((jkp i eσ134 (imp_275 i hi)).trans (f116 i (imp_272 i hi))))), I136, I137, p138, p139, p140, (fun wa9 wb9 ok dg => by have x9 := w121 (-1) 0 ok (fun c hc _ => jrOv_0 wa9 wb9 c hc) ⟨by decide, by decide⟩ (by omega); rw [jrVd_of (by omega) (by omega) w7 ok (n := 2) (by omega), ← dg] at x9; exact ⟨jOr.leaf (by omega) x9 (Or.inl ⟨by omega, by omega, by omega⟩), fun z hz => congrFun (((jnp 62 eσ135 (of_decide_eq_true rfl)).trans ((jnp 62 eσ134 (of_decide_eq_true rfl)).trans (f115 62 (of_decide_eq_true rfl))))) z⟩), (by omega), (by omega), trivial⟩ hP hS dX12_orders_34
set_option maxHeartbeats 4000000 in
set_option maxRecDepth 100000 in
theorem c_X12_orders_1 (l : Launch) (D : va_G) (cI cL : ClassId) (ad zz : Nat → Nat) (hJ : jD ad) (σ : Nat → Nat → Int32) (τ : Nat → Nat → Int64) (a2 : Int32) (A2 : Int) (t2 : a2.toInt = A2) (a3 : Int32) (A3 : Int) (t3 : a3.toInt = A3) (hI101 : jI101 σ) (hI102 : jI102 σ) (hI103 : jI103 σ) (hI104 : jI104 σ) (hI105 : jI105 σ) (hI106 : jI106 σ) (hI119 : jI119 σ) (hI111 : jI111 σ) (hs_jKept : jKept σ) (hs_jTR : jTR σ) (hs_jqSt : jqSt σ) (hp0 : (σ 55 10).toInt ≤ 5) (hp1 : 1 ≤ (σ 55 10).toInt) (hp2 : (σ 55 12).toInt ≤ 8) (hp3 : 0 ≤ A3 ∧ A3 ≤ 9) (hp4 : 0 ≤ (σ 55 42).toInt ∧ (σ 55 42).toInt ≤ 999999488) : jMv l yX12_orders cX12_orders 6 none ({ frames := 108, cells := 0, slots := 0, locals := 5181 }) D cI cL ad zz [.ref (ad 55), .int 1, .int a2, .int a3] σ τ (fun σ' τ' => τ = τ' ∧ (∀ i : Nat, (i < 55 ∨ 55 < i) ∧ (i < 62 ∨ 62 < i) ∧ (i < 66 ∨ 66 < i) ∧ (i < 68 ∨ 69 < i) ∧ (i < 74 ∨ 78 < i) → σ' i = σ i) ∧ (∀ k : Nat, (k < 18 ∨ 18 < k) ∧ (k < 19 ∨ 19 < k) ∧ (k < 20 ∨ 20 < k) ∧ (k < 21 ∨ 21 < k) ∧ (k < 22 ∨ 22 < k) ∧ (k < 25 ∨ 25 < k) ∧ (k < 26 ∨ 26 < k) ∧ (k < 27 ∨ 27 < k) ∧ (k < 37 ∨ 37 < k) ∧ (k < 42 ∨ 42 < k) ∧ (k < 45 ∨ 45 < k) ∧ (k < 46 ∨ 46 < k) → σ' 55 k = σ 55 k) ∧ (jI104 σ') ∧ (jI119 σ') ∧ (jKept σ') ∧ (jTR σ') ∧ (jqSt σ') ∧ (((σ 55 30).toInt = -1 → (σ 55 31).toInt = -1 → jOk (σ 56) → A3 = jtD (fun z : Nat => (σ 62 z).toInt) 1 → (((σ' 55 46).toInt, (σ' 55 45).toInt) = jfr (jrVd σ) ((σ 55 46).toInt, (σ 55 45).toInt) (jolF ((σ 55 10).toInt - 1).toNat (A3) (fun t => jun a2 (σ 79) (t : Int) (σ 55 10).toInt.toNat)) ∧ ∀ z : Nat, z < 1 → σ' 62 z = σ 62 z))) ∧ ((σ 55 42).toInt ≤ (σ' 55 42).toInt) ∧ ((σ' 55 42).toInt ≤ (σ 55 42).toInt + 256) ∧ True) := by
  refine jMv.of hJ (by decide +kernel) rfl (Nat.le_of_ble_eq_true rfl) ?_
  intro p e s m args below meth c Q ls hC hret hl hP
  obtain ⟨hx, hb, hr, hml, hown, hts, hK, -, hlocks, hZ⟩ := hC
  have hown : s.vm.findClass RX12 = some m.cls := hown
  have hS : va_S (jA ad) s.heap s.heap [] := va_S.rf
  have hA : ∀ q, jA ad q → jA ad q := fun _ h => h
  have hl : lv_has ls 6 [(0, .ref (ad 55)), (1, .int 1), (2, .int a2), (3, .int a3)] := hl
  have g2 := jrg t2
  have g3 := jrg t3
  obtain ⟨i1, w2, w3⟩ : (0 ≤ (σ 55 6).toInt ∧ (σ 55 6).toInt ≤ 4) ∧ (∀ k : Nat, k < 4 → 0 ≤ (σ 60 k).toInt ∧ (σ 60 k).toInt ≤ 50) ∧ (∀ k : Nat, k < 4 → 0 ≤ (σ 61 k).toInt ∧ (σ 61 k).toInt ≤ 20) := id hI102
  obtain ⟨i4, i5, i6, w7, w8⟩ : (1 ≤ (σ 55 10).toInt ∧ (σ 55 10).toInt ≤ 8) ∧ (1 ≤ (σ 55 12).toInt ∧ (σ 55 12).toInt ≤ 12) ∧ (0 ≤ (σ 55 13).toInt ∧ (σ 55 13).toInt ≤ 999) ∧ (∀ k : Nat, k < 8 → 0 ≤ (σ 62 k).toInt ∧ (σ 62 k).toInt ≤ 3) ∧ (∀ k : Nat, k < 8 → 0 ≤ (σ 67 k).toInt ∧ (σ 67 k).toInt ≤ 3) := id hI104
  have w9 : ∀ k : Nat, k < 5 → 0 ≤ (σ 79 k).toInt ∧ (σ 79 k).toInt ≤ 3 := hI111
  refine lv_iload_n hx hb dX12_orders_0 rfl (lv_at hl 1 rfl) ?_
  refine lv_aload_n hx hb dX12_orders_1 rfl (lv_at hl 0 rfl) ?_
  refine va_get (D := D) hx hb hts inlX12 hown hK hP 55 (jc_55 cI cL ad σ τ) rfl 10 (of_decide_eq_true rfl) (hts _ kw_8_15) (fun _ h9 => h9) rfl dX12_orders_2 ?_
  refine lv_icmp_ne (tgt := 35) hx hb dX12_orders_5 (of_decide_eq_true rfl) (fun c10 => ?_) (fun c10 => ?_)
  · have kc10 := jne c10 jz_1 rfl
    refine lv_iconst (v := 0) hx hb dX12_orders_35 (of_decide_eq_true rfl) ?_
    refine lv_istore (lv' := [(4, .int 0), (0, .ref (ad 55)), (1, .int 1), (2, .int a2), (3, .int a3)]) hx hb dX12_orders_36 hl (of_decide_eq_true rfl) rfl (fun ls hl => ?_)
    have lp11 : ∀ (n12 : Nat) (x13 : Int32) (σ15 : Nat → Nat → Int32) (H : Heap) (locs : List Loc) (ls : Array Slot), (-x13.toInt + 4 : Int) < n12 → 0 ≤ x13.toInt → x13.toInt ≤ 4 → (σ 55 42).toInt ≤ (σ15 55 42).toInt → (σ15 55 42).toInt ≤ (σ 55 42).toInt + 64 * x13.toInt → (∀ i : Nat, (i < 55 ∨ 55 < i) ∧ (i < 62 ∨ 62 < i) ∧ (i < 66 ∨ 66 < i) ∧ (i < 68 ∨ 69 < i) ∧ (i < 74 ∨ 78 < i) → σ15 i = σ i) → (∀ k : Nat, (k < 18 ∨ 18 < k) ∧ (k < 19 ∨ 19 < k) ∧ (k < 20 ∨ 20 < k) ∧ (k < 21 ∨ 21 < k) ∧ (k < 22 ∨ 22 < k) ∧ (k < 25 ∨ 25 < k) ∧ (k < 26 ∨ 26 < k) ∧ (k < 27 ∨ 27 < k) ∧ (k < 37 ∨ 37 < k) ∧ (k < 42 ∨ 42 < k) ∧ (k < 45 ∨ 45 < k) ∧ (k < 46 ∨ 46 < k) → σ15 55 k = σ 55 k) → jKept σ15 → jqSt σ15 → jI104 σ15 → jI119 σ15 → (((σ 55 30).toInt = -1 → (σ 55 31).toInt = -1 → jOk (σ 56) → (A3) = jtD (fun z : Nat => (σ 62 z).toInt) 1 → (((σ15 55 46).toInt, (σ15 55 45).toInt) = jfr (jrVd σ) ((σ 55 46).toInt, (σ 55 45).toInt) (jolS ((σ 55 10).toInt - 2).toNat (A3) (fun t => jun a2 (σ 79) (t : Int) (σ 55 10).toInt.toNat) ((x13 : Int32).toInt).toNat) ∧ ∀ z : Nat, z < 1 → σ15 62 z = σ 62 z))) → jH D cI cL ad σ15 τ H → va_S (jA ad) s.heap H locs → lv_has ls 6 [(4, .int x13), (0, .ref (ad 55)), (1, .int 1), (2, .int a2), (3, .int a3)] → W p l e ({ frames := 108, cells := 0, slots := 0, locals := 5181 }) s m args below meth c H locs 0 0 Q (F0 m 38 ls []) := by
      intro n12
      induction n12 with
      | zero => intro x13 σ15 H locs ls h17 h18 h19 h20 h21; exact absurd h17 (by omega)
      | succ n12 ihlp11 =>
        intro x13 σ15 H locs ls h17 h18 h19 h20 h21 f22 f23 p24 p25 p26 p27 q28 hP hS hl
        exact by
         obtain ⟨i29, i30, i31, w32, w33⟩ : (1 ≤ (σ15 55 10).toInt ∧ (σ15 55 10).toInt ≤ 8) ∧ (1 ≤ (σ15 55 12).toInt ∧ (σ15 55 12).toInt ≤ 12) ∧ (0 ≤ (σ15 55 13).toInt ∧ (σ15 55 13).toInt ≤ 999) ∧ (∀ k : Nat, k < 8 → 0 ≤ (σ15 62 k).toInt ∧ (σ15 62 k).toInt ≤ 3) ∧ (∀ k : Nat, k < 8 → 0 ≤ (σ15 67 k).toInt ∧ (σ15 67 k).toInt ≤ 3) := id p26
         have z34 : (σ15 55 10).toInt = (σ 55 10).toInt := (congrArg Int32.toInt (show σ15 55 10 = (σ 55 10) from (f23 10 (of_decide_eq_true rfl))))
         have z35 : (σ15 55 12).toInt = (σ 55 12).toInt := (congrArg Int32.toInt (show σ15 55 12 = (σ 55 12) from (f23 12 (of_decide_eq_true rfl))))
         have z36 : (σ15 55 13).toInt = (σ 55 13).toInt := (congrArg Int32.toInt (show σ15 55 13 = (σ 55 13) from (f23 13 (of_decide_eq_true rfl))))
         refine lv_iload hx hb dX12_orders_38 (lv_at hl 0 rfl) ?_
         refine lv_iconst (v := 4) hx hb dX12_orders_40 (of_decide_eq_true rfl) ?_
         refine lv_icmp_ge (tgt := 127) hx hb dX12_orders_41 (of_decide_eq_true rfl) (fun c37 => ?_) (fun c37 => ?_)
         · have kc37 := jle c37 jz_4 rfl
           have p38 : jTR σ15 := jTR.fr (f22 64 (of_decide_eq_true rfl)) (f22 65 (of_decide_eq_true rfl)) hs_jTR
           exact by exact hret σ15 τ _ _ _ _ ⟨rfl, (fun i hi => (f22 i hi)), (fun i hi => (f23 i hi)), p26, p27, p24, p38, p25, (fun wa9 wb9 ok dg => ⟨jOr.fin (q28 wa9 wb9 ok dg).1 (by omega) (by omega), (q28 wa9 wb9 ok dg).2⟩), (by omega), (by omega), trivial⟩ hP hS dX12_orders_127
         · have kc37 := jnle c37 jz_4 rfl
           refine lv_iconst (v := 0) hx hb dX12_orders_44 (of_decide_eq_true rfl) ?_
           refine lv_istore (lv' := [(5, .int 0), (4, .int x13), (0, .ref (ad 55)), (1, .int 1), (2, .int a2), (3, .int a3)]) hx hb dX12_orders_45 hl (of_decide_eq_true rfl) rfl (fun ls hl => ?_)
           have lp39 : ∀ (n40 : Nat) (x41 : Int32) (H : Heap) (locs : List Loc) (ls : Array Slot), ((σ15 55 10).toInt - x41.toInt : Int) < n40 → 0 ≤ x41.toInt → x41.toInt ≤ 5 → x41.toInt ≤ (σ15 55 10).toInt → (jNl a2 (σ 79) (x13 : Int32).toInt (x41 : Int32).toInt) → jH D cI cL ad σ15 τ H → va_S (jA ad) s.heap H locs → lv_has ls 6 [(5, .int x41), (4, .int x13), (0, .ref (ad 55)), (1, .int 1), (2, .int a2), (3, .int a3)] → W p l e ({ frames := 108, cells := 0, slots := 0, locals := 5181 }) s m args below meth c H locs 0 0 Q (F0 m 47 ls []) := by
             intro n40
             induction n40 with
             | zero => intro x41 H locs ls h43 h44 h45 h46; exact absurd h43 (by omega)
             | succ n40 ihlp39 =>
               intro x41 H locs ls h43 h44 h45 h46 q48 hP hS hl
               exact by
                refine lv_iload hx hb dX12_orders_47 (lv_at hl 0 rfl) ?_
                refine lv_aload_n hx hb dX12_orders_49 rfl (lv_at hl 2 rfl) ?_
                refine va_get (D := D) hx hb hts inlX12 hown hK hP 55 (jc_55 cI cL ad σ15 τ) rfl 10 (of_decide_eq_true rfl) (hts _ kw_8_15) (fun _ h9 => h9) rfl dX12_orders_50 ?_
                have m49 : σ15 55 10 = (σ 55 10) := (f23 10 (of_decide_eq_true rfl))
                refine jtopr m49 ?_
                refine lv_icmp_ge (tgt := 84) hx hb dX12_orders_53 (of_decide_eq_true rfl) (fun c50 => ?_) (fun c50 => ?_)
                · have kc50 := jle c50 rfl rfl
                  refine lv_iload hx hb dX12_orders_84 (lv_at hl 0 rfl) ?_
                  refine lv_aload_n hx hb dX12_orders_86 rfl (lv_at hl 2 rfl) ?_
                  refine va_get (D := D) hx hb hts inlX12 hown hK hP 55 (jc_55 cI cL ad σ15 τ) rfl 10 (of_decide_eq_true rfl) (hts _ kw_8_15) (fun _ h9 => h9) rfl dX12_orders_87 ?_
                  refine jtopr m49 ?_
                  exact by
                   refine lv_icmp_ge (tgt := 121) hx hb dX12_orders_90 (of_decide_eq_true rfl) (fun c51 => ?_) (fun c => absurd (jnle c rfl rfl) (by omega))
                   have kc51 := jle c51 rfl rfl
                   obtain ⟨x52, ex52⟩ : ∃ y : Int32, y = x13 + 1 := ⟨_, rfl⟩
                   have tx52 : x52.toInt = x13.toInt + 1 := (jadd ex52 rfl jz_1 (by omega) (by omega)).trans (by omega)
                   refine lv_iinc (v := x52) (lv' := [(4, .int x52), (5, .int x41), (0, .ref (ad 55)), (1, .int 1), (2, .int a2), (3, .int a3)]) hx hb dX12_orders_121 hl (k := 1) rfl (by rw [ex52]; rfl) (of_decide_eq_true rfl) rfl (fun ls hl => ?_)
                   refine lv_goto (tgt := 38) hx hb dX12_orders_124 (of_decide_eq_true rfl) ?_
                   exact by exact ihlp11 x52 σ15 _ _ ls (by have h90 := tx52; omega) (by have h90 := tx52; omega) (by have h90 := tx52; omega) (by have h90 := tx52; omega) (by have h90 := tx52; omega) (fun i hi => (f22 i hi)) (fun i hi => (f23 i hi))  p24 p25 p26 p27 (fun wa9 wb9 ok dg => ⟨jOr.skip (q28 wa9 wb9 ok dg).1 (show jun a2 (σ 79) ((((x13 : Int32).toInt).toNat : Nat) : Int) (σ 55 10).toInt.toNat = 0 by rw [show ((((x13 : Int32).toInt).toNat : Nat) : Int) = (x13 : Int32).toInt by omega]; exact (jNl.none (σ 55 10).toInt.toNat q48 (by omega))) (by omega) (by have h9 := tx52; omega), (q28 wa9 wb9 ok dg).2⟩) hP hS (lv_sub hl [0, 2, 3, 4, 5] rfl)
                · have kc50 := jnle c50 rfl rfl
                  refine lv_iload_n hx hb dX12_orders_56 rfl (lv_at hl 4 rfl) ?_
                  exact by
                   refine lv_iload hx hb dX12_orders_57 (lv_at hl 0 rfl) ?_
                   refine lv_ishr hx hb dX12_orders_59 ?_
                   refine lv_topi (fun x53 ex53 => ?_)
                   have gx53 := jrg (rfl : x53.toInt = x53.toInt)
                   refine lv_iconst (v := 1) hx hb dX12_orders_60 (of_decide_eq_true rfl) ?_
                   refine lv_iand hx hb dX12_orders_61 ?_
                   refine lv_topi (fun x54 ex54 => ?_)
                   have gx54 := jrg (rfl : x54.toInt = x54.toInt)
                   have g55 : 0 ≤ x54.toInt ∧ x54.toInt ≤ 1 := jmask ex54 1 (of_decide_eq_true rfl) (of_decide_eq_true rfl)
                   refine lv_iconst (v := 1) hx hb dX12_orders_62 (of_decide_eq_true rfl) ?_
                   refine lv_icmp_eq (tgt := 78) hx hb dX12_orders_63 (of_decide_eq_true rfl) (fun c56 => ?_) (fun c56 => ?_)
                   · have kc56 := jeq c56 rfl jz_1
                     obtain ⟨x57, ex57⟩ : ∃ y : Int32, y = x41 + 1 := ⟨_, rfl⟩
                     exact by
                      have tx57 : x57.toInt = x41.toInt + 1 := (jadd ex57 rfl jz_1 (by omega) (by omega)).trans (by omega)
                      refine lv_iinc (v := x57) (lv' := [(5, .int x57), (4, .int x13), (0, .ref (ad 55)), (1, .int 1), (2, .int a2), (3, .int a3)]) hx hb dX12_orders_78 hl (k := 0) rfl (by rw [ex57]; rfl) (of_decide_eq_true rfl) rfl (fun ls hl => ?_)
                      refine lv_goto (tgt := 47) hx hb dX12_orders_81 (of_decide_eq_true rfl) ?_
                      exact by exact ihlp39 x57 _ _ ls (by have h90 := tx57; omega) (by have h90 := tx57; omega) (by have h90 := tx57; omega) (by have h90 := tx57; omega)   (jNl.step q48 (by omega) (fun w => by have w9 := (jtbit (a := a2) (i := x41) ex53 ex54 (by omega) (by omega)).mp (by omega); rw [w.1] at w9; exact absurd w9 (of_decide_eq_true rfl)) (by have h9 := tx57; omega)) hP hS (lv_sub hl [0, 1, 2, 3, 4, 5] rfl)
                   · have kc56 := jne c56 rfl jz_1
                     refine lv_aload_n hx hb dX12_orders_66 rfl (lv_at hl 2 rfl) ?_
                     refine va_get (D := D) hx hb hts inlX12 hown hK hP 55 (jc_55 cI cL ad σ15 τ) rfl 44 (of_decide_eq_true rfl) (hts _ kw_8_4) (fun _ h9 => h9) rfl dX12_orders_67 ?_
                     refine lv_iload hx hb dX12_orders_70 (lv_at hl 0 rfl) ?_
                     refine jald hx hb hK hP (jc_79 cI cL ad σ15 τ) (jin rfl (by omega) (by omega)) dX12_orders_72 ?_
                     exact by
                      have w58 : ∀ k : Nat, k < 5 → 0 ≤ (σ15 79 k).toInt ∧ (σ15 79 k).toInt ≤ 3 := (jrr_fr (f22 79 (of_decide_eq_true rfl)) w9)
                      have g59 := w58 _ (jnat (x := x41) rfl (n := 5) (by omega) (of_decide_eq_true rfl))
                      refine jtopr (y := (σ 79 x41.toNatClampNeg)) (by rw [f22 79 (of_decide_eq_true rfl)]) ?_
                      rw [f22 79 (of_decide_eq_true rfl)] at g59
                      refine lv_iload hx hb dX12_orders_73 (lv_at hl 1 rfl) ?_
                      refine lv_icmp_eq (tgt := 84) hx hb dX12_orders_75 (of_decide_eq_true rfl) (fun c60 => ?_) (fun c60 => ?_)
                      · have kc60 := jeq c60 rfl rfl
                        refine lv_iload hx hb dX12_orders_84 (lv_at hl 0 rfl) ?_
                        refine lv_aload_n hx hb dX12_orders_86 rfl (lv_at hl 2 rfl) ?_
                        exact by
                         refine va_get (D := D) hx hb hts inlX12 hown hK hP 55 (jc_55 cI cL ad σ15 τ) rfl 10 (of_decide_eq_true rfl) (hts _ kw_8_15) (fun _ h9 => h9) rfl dX12_orders_87 ?_
                         refine jtopr m49 ?_
                         refine lv_icmp_ge (tgt := 121) hx hb dX12_orders_90 (of_decide_eq_true rfl) (fun c => absurd (jle c rfl rfl) (by omega)) (fun c61 => ?_)
                         have kc61 := jnle c61 rfl rfl
                         refine lv_aload_n hx hb dX12_orders_93 rfl (lv_at hl 2 rfl) ?_
                         refine va_get (D := D) hx hb hts inlX12 hown hK hP 55 (jc_55 cI cL ad σ15 τ) rfl 11 (of_decide_eq_true rfl) (hts _ kw_7_8) (fun _ h9 => h9) rfl dX12_orders_94 ?_
                         refine lv_iload_n hx hb dX12_orders_97 rfl (lv_at hl 3 rfl) ?_
                         refine lv_iload hx hb dX12_orders_98 (lv_at hl 1 rfl) ?_
                         refine jast hx hb hK hP hJ hA hS (jc_62 cI cL ad σ15 τ) (ja_62 cI cL ad σ15 τ _ _) (jin jz_1 (by omega) (by omega)) dX12_orders_100 (fun σ62 H locs eσ62 hP hS => ?_)
                         exact by
                          have eσ62 : σ62 = jup σ15 62 1 x13 := eσ62
                          refine lv_aload_n hx hb dX12_orders_101 rfl (lv_at hl 2 rfl) ?_
                          refine lv_iload_n hx hb dX12_orders_102 rfl (lv_at hl 3 rfl) ?_
                          refine lv_iconst (v := 1) hx hb dX12_orders_103 (of_decide_eq_true rfl) ?_
                          refine lv_iadd hx hb dX12_orders_104 ?_
                          refine jtopr (y := 2) (of_decide_eq_true rfl) ?_
                          refine lv_iload_n hx hb dX12_orders_105 rfl (lv_at hl 4 rfl) ?_
                          refine lv_iconst (v := 1) hx hb dX12_orders_106 (of_decide_eq_true rfl) ?_
                          refine lv_iload hx hb dX12_orders_107 (lv_at hl 0 rfl) ?_
                          refine lv_ishl hx hb dX12_orders_109 ?_
                          refine lv_topi (fun x63 ex63 => ?_)
                          have gx63 := jrg (rfl : x63.toInt = x63.toInt)
                          refine lv_ior hx hb dX12_orders_110 ?_
                          refine lv_topi (fun x64 ex64 => ?_)
                          have gx64 := jrg (rfl : x64.toInt = x64.toInt)
                          refine lv_bipush (v := 10) hx hb dX12_orders_111 (of_decide_eq_true rfl) ?_
                          refine lv_iload_n hx hb dX12_orders_113 rfl (lv_at hl 5 rfl) ?_
                          refine lv_imul hx hb dX12_orders_114 ?_
                          refine lv_topi (fun x65 ex65 => ?_)
                          exact by
                           have tx65 : x65.toInt = 10 * A3 := (jmul ex65 jz_10 t3 (by omega) (by omega)).trans (by omega)
                           refine lv_iload hx hb dX12_orders_115 (lv_at hl 1 rfl) ?_
                           have g66 := jrg (rfl : x13.toInt = x13.toInt)
                           refine lv_iadd hx hb dX12_orders_117 ?_
                           refine lv_topi (fun x67 ex67 => ?_)
                           have tx67 : x67.toInt = 10 * A3 + x13.toInt := (jadd ex67 tx65 rfl (by omega) (by omega)).trans (by omega)
                           have I68 : jI101 σ62 := jI101_fr ((congrFun (jnp 55 eσ62 (of_decide_eq_true rfl)) 4).trans (f23 4 (of_decide_eq_true rfl))) ((congrFun (jnp 55 eσ62 (of_decide_eq_true rfl)) 5).trans (f23 5 (of_decide_eq_true rfl))) ((jnp 56 eσ62 (of_decide_eq_true rfl)).trans (f22 56 (of_decide_eq_true rfl))) ((jnp 57 eσ62 (of_decide_eq_true rfl)).trans (f22 57 (of_decide_eq_true rfl))) ((jnp 58 eσ62 (of_decide_eq_true rfl)).trans (f22 58 (of_decide_eq_true rfl))) ((jnp 59 eσ62 (of_decide_eq_true rfl)).trans (f22 59 (of_decide_eq_true rfl))) hI101
                           have I69 : jI102 σ62 := jI102_fr ((congrFun (jnp 55 eσ62 (of_decide_eq_true rfl)) 6).trans (f23 6 (of_decide_eq_true rfl))) ((jnp 60 eσ62 (of_decide_eq_true rfl)).trans (f22 60 (of_decide_eq_true rfl))) ((jnp 61 eσ62 (of_decide_eq_true rfl)).trans (f22 61 (of_decide_eq_true rfl))) hI102
                           have I70 : jI103 σ62 := jI103_fr ((congrFun (jnp 55 eσ62 (of_decide_eq_true rfl)) 9).trans (f23 9 (of_decide_eq_true rfl))) hI103
                           exact by
                            have z71 : (σ62 55 10).toInt = (σ 55 10).toInt := (congrArg Int32.toInt (show σ62 55 10 = (σ 55 10) from ((congrFun (jnp 55 eσ62 (of_decide_eq_true rfl)) 10).trans m49)))
                            have z72 : (σ62 55 12).toInt = (σ 55 12).toInt := (congrArg Int32.toInt (show σ62 55 12 = (σ 55 12) from ((congrFun (jnp 55 eσ62 (of_decide_eq_true rfl)) 12).trans (f23 12 (of_decide_eq_true rfl)))))
                            have z73 : (σ62 55 13).toInt = (σ 55 13).toInt := (congrArg Int32.toInt (show σ62 55 13 = (σ 55 13) from ((congrFun (jnp 55 eσ62 (of_decide_eq_true rfl)) 13).trans (f23 13 (of_decide_eq_true rfl)))))
                            have w74 : ∀ k : Nat, k < 8 → 0 ≤ (σ62 62 k).toInt ∧ (σ62 62 k).toInt ≤ 3 := (by rw [eσ62]; exact jrr_up w32 (by omega) (by omega))
                            have w75 : ∀ k : Nat, k < 8 → 0 ≤ (σ62 67 k).toInt ∧ (σ62 67 k).toInt ≤ 3 := (jrr_fr (jnp 67 eσ62 (of_decide_eq_true rfl)) w33)
                            have I76 : jI104 σ62 := ⟨(by omega), (by omega), (by omega), w74, w75⟩
                            have I77 : jI105 σ62 := jI105_fr ((congrFun (jnp 55 eσ62 (of_decide_eq_true rfl)) 15).trans (f23 15 (of_decide_eq_true rfl))) ((jnp 65 eσ62 (of_decide_eq_true rfl)).trans (f22 65 (of_decide_eq_true rfl))) hI105
                            have I78 : jI106 σ62 := jI106_fr ((congrFun (jnp 55 eσ62 (of_decide_eq_true rfl)) 32).trans (f23 32 (of_decide_eq_true rfl))) ((jnp 70 eσ62 (of_decide_eq_true rfl)).trans (f22 70 (of_decide_eq_true rfl))) ((jnp 71 eσ62 (of_decide_eq_true rfl)).trans (f22 71 (of_decide_eq_true rfl))) ((jnp 72 eσ62 (of_decide_eq_true rfl)).trans (f22 72 (of_decide_eq_true rfl))) hI106
                            have I79 : jI119 σ62 := jI119_fr (jnp 68 eσ62 (of_decide_eq_true rfl)) p27
                            exact by
                             have I80 : jI111 σ62 := jI111_fr ((jnp 79 eσ62 (of_decide_eq_true rfl)).trans (f22 79 (of_decide_eq_true rfl))) hI111
                             have p81 : jKept σ62 := jKept.fr (jnp 75 eσ62 (of_decide_eq_true rfl)) (jnp 76 eσ62 (of_decide_eq_true rfl)) (jnp 77 eσ62 (of_decide_eq_true rfl)) p24
                             have p82 : jTR σ62 := jTR.fr ((jnp 64 eσ62 (of_decide_eq_true rfl)).trans (f22 64 (of_decide_eq_true rfl))) ((jnp 65 eσ62 (of_decide_eq_true rfl)).trans (f22 65 (of_decide_eq_true rfl))) hs_jTR
                             have p83 : jqSt σ62 := jqSt.fr (jnp 78 eσ62 (of_decide_eq_true rfl)) (congrFun (jnp 55 eσ62 (of_decide_eq_true rfl)) 42) p25
                             have z84 : (σ62 55 42).toInt = (σ15 55 42).toInt := (congrArg Int32.toInt (show σ62 55 42 = (σ15 55 42) from (congrFun (jnp 55 eσ62 (of_decide_eq_true rfl)) 42)))
                             refine jcallVv (As := [.int 2, .int x64, .int x67]) (rest := []) ⟨hx, hb, hml, hown, hts⟩ hK hP hA hS hZ (c_X12_orders_2 l D cI cL ad zz hJ σ62 τ x64 (x64.toInt) rfl x67 (10 * A3 + x13.toInt) tx67 I68 I69 I70 I76 I77 I78 I79 I80 p81 p82 p83 (by omega) (by omega) (by omega) (by omega) (by omega)) cw_RX12_355 (jc_55 cI cL ad σ62 τ) rfl ⟨Nat.le_of_ble_eq_true rfl, Nat.le_of_ble_eq_true rfl⟩ rfl rfl rfl hl.1 rfl (Nat.le_of_ble_eq_true rfl) dX12_orders_118 ⟨Nat.zero_le _, Nat.zero_le _⟩ (fun σ85 τ85 H locs h85 hP hS => ?_)
                             obtain ⟨rfl, f87, f88, I89, I90, p91, p92, p93, w94, h85⟩ := h85
                             obtain ⟨i96, i97, i98, w99, w100⟩ : (1 ≤ (σ85 55 10).toInt ∧ (σ85 55 10).toInt ≤ 8) ∧ (1 ≤ (σ85 55 12).toInt ∧ (σ85 55 12).toInt ≤ 12) ∧ (0 ≤ (σ85 55 13).toInt ∧ (σ85 55 13).toInt ≤ 999) ∧ (∀ k : Nat, k < 8 → 0 ≤ (σ85 62 k).toInt ∧ (σ85 62 k).toInt ≤ 3) ∧ (∀ k : Nat, k < 8 → 0 ≤ (σ85 67 k).toInt ∧ (σ85 67 k).toInt ≤ 3) := id I89
                             have z101 : (σ85 55 10).toInt = (σ 55 10).toInt := (congrArg Int32.toInt (show σ85 55 10 = (σ 55 10) from ((f88 10 (of_decide_eq_true rfl)).trans ((congrFun (jnp 55 eσ62 (of_decide_eq_true rfl)) 10).trans m49))))
                             exact by
                              have z102 : (σ85 55 12).toInt = (σ 55 12).toInt := (congrArg Int32.toInt (show σ85 55 12 = (σ 55 12) from ((f88 12 (of_decide_eq_true rfl)).trans ((congrFun (jnp 55 eσ62 (of_decide_eq_true rfl)) 12).trans (f23 12 (of_decide_eq_true rfl))))))
                              have z103 : (σ85 55 13).toInt = (σ 55 13).toInt := (congrArg Int32.toInt (show σ85 55 13 = (σ 55 13) from ((f88 13 (of_decide_eq_true rfl)).trans ((congrFun (jnp 55 eσ62 (of_decide_eq_true rfl)) 13).trans (f23 13 (of_decide_eq_true rfl))))))
                              obtain ⟨k104, k105, h85⟩ := h85
                              obtain ⟨x106, ex106⟩ : ∃ y : Int32, y = x13 + 1 := ⟨_, rfl⟩
                              have tx106 : x106.toInt = x13.toInt + 1 := (jadd ex106 rfl jz_1 (by omega) (by omega)).trans (by omega)
                              refine lv_iinc (v := x106) (lv' := [(4, .int x106), (5, .int x41), (0, .ref (ad 55)), (1, .int 1), (2, .int a2), (3, .int a3)]) hx hb dX12_orders_121 hl (k := 1) rfl (by rw [ex106]; rfl) (of_decide_eq_true rfl) rfl (fun ls hl => ?_)
                              refine lv_goto (tgt := 38) hx hb dX12_orders_124 (of_decide_eq_true rfl) ?_
                              have z107 : (σ62 55 30).toInt = (σ 55 30).toInt := (congrArg Int32.toInt (show σ62 55 30 = (σ 55 30) from ((congrFun (jnp 55 eσ62 (of_decide_eq_true rfl)) 30).trans (f23 30 (of_decide_eq_true rfl)))))
                              have z108 : (σ62 55 31).toInt = (σ 55 31).toInt := (congrArg Int32.toInt (show σ62 55 31 = (σ 55 31) from ((congrFun (jnp 55 eσ62 (of_decide_eq_true rfl)) 31).trans (f23 31 (of_decide_eq_true rfl)))))
                              exact by
                               have z109 : (σ62 55 46).toInt = (σ15 55 46).toInt := (congrArg Int32.toInt (show σ62 55 46 = (σ15 55 46) from (congrFun (jnp 55 eσ62 (of_decide_eq_true rfl)) 46)))
                               have z110 : (σ62 55 45).toInt = (σ15 55 45).toInt := (congrArg Int32.toInt (show σ62 55 45 = (σ15 55 45) from (congrFun (jnp 55 eσ62 (of_decide_eq_true rfl)) 45)))
                               have k111 : (σ 55 30).toInt = -1 → (σ 55 31).toInt = -1 → jOk (σ 56) → (A3) = jtD (fun z : Nat => (σ 62 z).toInt) 1 → (((σ85 55 46).toInt, (σ85 55 45).toInt) = jfr (jrVd σ) ((σ 55 46).toInt, (σ 55 45).toInt) (jolS ((σ 55 10).toInt - 2).toNat (A3) (fun t => jun a2 (σ 79) (t : Int) (σ 55 10).toInt.toNat) ((x106 : Int32).toInt).toNat) ∧ ∀ z : Nat, z < 1 → σ85 62 z = σ 62 z) := fun wa9 wb9 ok dg => by
                                 have q9 := q28 wa9 wb9 ok dg
                                 have f9 : ∀ z : Nat, z < 1 → σ62 62 z = σ 62 z := fun z hz => ((jkp z eσ62 (by omega)).trans (q9.2 z hz))
                                 have s9 : (σ62 62 1).toInt = (x13 : Int32).toInt := by rw [show σ62 62 1 = x13 from (jsp eσ62)]
                                 have d9 : 10 * A3 + x13.toInt = jtD (fun z : Nat => (σ62 62 z).toInt) 2 := by
                                   show _ = 10 * jtD (fun z : Nat => (σ62 62 z).toInt) 1 + (σ62 62 1).toInt
                                   rw [jtD_cong (g := fun z : Nat => (σ 62 z).toInt) 1 (fun z hz => by show (σ62 62 z).toInt = (σ 62 z).toInt; rw [f9 z hz]), ← dg, s9] <;> omega
                                 exact by
                                  have r9 := w94 (by omega) (by omega) (by rw [show σ62 56 = σ 56 from ((jnp 56 eσ62 (of_decide_eq_true rfl)).trans (f22 56 (of_decide_eq_true rfl)))]; exact ok) d9
                                  have e79 : σ62 79 = σ 79 := ((jnp 79 eσ62 (of_decide_eq_true rfl)).trans (f22 79 (of_decide_eq_true rfl)))
                                  have e10 : σ62 55 10 = σ 55 10 := ((congrFun (jnp 55 eσ62 (of_decide_eq_true rfl)) 10).trans (f23 10 (of_decide_eq_true rfl)))
                                  have bit : a2.toBitVec.getLsbD ((x41 : Int32).toInt).toNat = false := (by have w9 := (jtbit (a := a2) (i := x41) ex53 ex54 (by omega) (by omega)); cases hb9 : a2.toBitVec.getLsbD ((x41 : Int32).toInt).toNat with | false => rfl | true => exact absurd (w9.mpr hb9) (by omega))
                                  have own : (σ 79 ((x41 : Int32).toInt).toNat).toInt = (x13 : Int32).toInt := by show (σ 79 x41.toNatClampNeg).toInt = (x13 : Int32).toInt; omega
                                  have tk := fun t : Int => jun_take (f := σ 79) (i := ((x41 : Int32).toInt).toNat) (fun z hz => jtor (i := x41) ex63 ex64 (by omega) (by omega) z hz) bit t (σ 55 10).toInt.toNat (by omega)
                                  have m9 : (σ62 55 46).toInt = (σ15 55 46).toInt ∧ (σ62 55 45).toInt = (σ15 55 45).toInt := ⟨by rw [show σ62 55 46 = σ15 55 46 from (congrFun (jnp 55 eσ62 (of_decide_eq_true rfl)) 46)], by rw [show σ62 55 45 = σ15 55 45 from (congrFun (jnp 55 eσ62 (of_decide_eq_true rfl)) 45)]⟩
                                  have r1 := r9.1
                                  rw [m9.1, m9.2, e79, e10] at r1
                                  exact by
                                   refine ⟨jOr.step q9.1 r1 (jrVd_eq (σ := σ) (u := σ62) ((jnp 56 eσ62 (of_decide_eq_true rfl)).trans (f22 56 (of_decide_eq_true rfl))) ((jnp 60 eσ62 (of_decide_eq_true rfl)).trans (f22 60 (of_decide_eq_true rfl))) ((jnp 61 eσ62 (of_decide_eq_true rfl)).trans (f22 61 (of_decide_eq_true rfl))) ((jnp 64 eσ62 (of_decide_eq_true rfl)).trans (f22 64 (of_decide_eq_true rfl))) ((jnp 65 eσ62 (of_decide_eq_true rfl)).trans (f22 65 (of_decide_eq_true rfl))) ((congrFun (jnp 55 eσ62 (of_decide_eq_true rfl)) 6).trans (f23 6 (of_decide_eq_true rfl))) ((congrFun (jnp 55 eσ62 (of_decide_eq_true rfl)) 9).trans (f23 9 (of_decide_eq_true rfl))) ((congrFun (jnp 55 eσ62 (of_decide_eq_true rfl)) 10).trans (f23 10 (of_decide_eq_true rfl))) ((congrFun (jnp 55 eσ62 (of_decide_eq_true rfl)) 12).trans (f23 12 (of_decide_eq_true rfl))) ((congrFun (jnp 55 eσ62 (of_decide_eq_true rfl)) 13).trans (f23 13 (of_decide_eq_true rfl)))) (by omega) (by omega) (show 0 < jun a2 (σ 79) ((((x13 : Int32).toInt).toNat : Nat) : Int) (σ 55 10).toInt.toNat by have w9 := tk ((((x13 : Int32).toInt).toNat : Nat) : Int); rw [if_pos ⟨by omega, by rw [own]; omega⟩] at w9; omega) (fun t ht => by have w9 := tk (t : Int); rw [own] at w9; exact (Classical.em (t = ((x13 : Int32).toInt).toNat)).elim (fun c9 => by rw [if_pos c9]; rw [if_pos ⟨by omega, by omega⟩] at w9; exact w9) (fun c9 => by rw [if_neg c9]; rw [if_neg (fun y => c9 (by have := y.2; omega))] at w9; exact w9)) (by omega) (by have h9 := tx106; omega), fun z hz => (r9.2 z (by omega)).trans (f9 z hz)⟩
                               exact by exact ihlp11 x106 σ85 _ _ ls (by have h90 := tx106; omega) (by have h90 := tx106; omega) (by have h90 := tx106; omega) (by have h90 := tx106; omega) (by have h90 := tx106; omega) (fun i hi => ((f87 i hi).trans ((jnp i eσ62 (imp_276 i hi)).trans (f22 i hi)))) (fun i hi => ((f88 i hi).trans ((congrFun (jnp 55 eσ62 (of_decide_eq_true rfl)) i).trans (f23 i hi))))  p91 p93 I89 I90 k111 hP hS (lv_sub hl [0, 2, 3, 4, 5] rfl)
                      · have kc60 := jne c60 rfl rfl
                        obtain ⟨x112, ex112⟩ : ∃ y : Int32, y = x41 + 1 := ⟨_, rfl⟩
                        have tx112 : x112.toInt = x41.toInt + 1 := (jadd ex112 rfl jz_1 (by omega) (by omega)).trans (by omega)
                        refine lv_iinc (v := x112) (lv' := [(5, .int x112), (4, .int x13), (0, .ref (ad 55)), (1, .int 1), (2, .int a2), (3, .int a3)]) hx hb dX12_orders_78 hl (k := 0) rfl (by rw [ex112]; rfl) (of_decide_eq_true rfl) rfl (fun ls hl => ?_)
                        refine lv_goto (tgt := 47) hx hb dX12_orders_81 (of_decide_eq_true rfl) ?_
                        exact by exact ihlp39 x112 _ _ ls (by have h90 := tx112; omega) (by have h90 := tx112; omega) (by have h90 := tx112; omega) (by have h90 := tx112; omega)   (jNl.step q48 (by omega) (fun w => absurd w.2 (by show ¬ (σ 79 x41.toNatClampNeg).toInt = (x13 : Int32).toInt; omega)) (by have h9 := tx112; omega)) hP hS (lv_sub hl [0, 1, 2, 3, 4, 5] rfl)
           exact by exact lp39 1000000 0 _ _ ls (by have h90 := jz_0; omega) (by have h90 := jz_0; omega) (by have h90 := jz_0; omega) (by have h90 := jz_0; omega)  (jNl.first (by have h9 := jz_0; omega)) hP hS hl
    exact by exact lp11 1000000 0 σ _ _ ls (by have h90 := jz_0; omega) (by have h90 := jz_0; omega) (by have h90 := jz_0; omega) (by have h90 := jz_0; omega) (by have h90 := jz_0; omega) (fun _ _ => rfl) (fun _ _ => rfl)  hs_jKept hs_jqSt hI104 hI119 (fun _ _ _ _ => ⟨jOr.first (by omega) (by omega) (by have h9 := jz_0; omega), fun z hz => rfl⟩) hP hS hl
  · exact by
     have kc10 := jeq c10 jz_1 rfl
     refine lv_aload_n hx hb dX12_orders_8 rfl (lv_at hl 0 rfl) ?_
     refine jcallV (As := []) (rest := []) ⟨hx, hb, hml, hown, hts⟩ hK hP hA hS hZ (c_X12_bestNow l D cI cL ad zz hJ σ τ hI101 hI102 hI103 hI104 hI105 hI106 hI119 hs_jKept hs_jTR hs_jqSt (by omega) (by omega)) cw_RX12_346 (jc_55 cI cL ad σ τ) rfl ⟨Nat.le_of_ble_eq_true rfl, Nat.le_of_ble_eq_true rfl⟩ rfl rfl rfl hl.1 rfl (Nat.le_of_ble_eq_true rfl) dX12_orders_9 ⟨Nat.zero_le _, Nat.zero_le _⟩ (fun r114 σ113 τ113 H locs h113 hP hS => ?_)
     obtain ⟨rfl, f115, f116, I117, p118, p119, p120, w121, h113⟩ := h113
     obtain ⟨k123, k124, h113⟩ := h113
     have h125 := h113
     obtain ⟨q127, k126⟩ := h125
     refine lv_istore (lv' := [(4, .int r114), (0, .ref (ad 55)), (1, .int 1), (2, .int a2), (3, .int a3)]) hx hb dX12_orders_12 hl (of_decide_eq_true rfl) rfl (fun ls hl => ?_)
     refine lv_iload hx hb dX12_orders_14 (lv_at hl 0 rfl) ?_
     exact by
      refine lv_aload_n hx hb dX12_orders_16 rfl (lv_at hl 1 rfl) ?_
      refine va_get (D := D) hx hb hts inlX12 hown hK hP 55 (jc_55 cI cL ad σ113 τ) rfl 46 (of_decide_eq_true rfl) (hts _ kw_40_17) (fun _ h9 => h9) rfl dX12_orders_17 ?_
      have m128 : σ113 55 46 = (σ 55 46) := (f116 46 (of_decide_eq_true rfl))
      refine jtopr m128 ?_
      refine lv_icmp_le (tgt := 34) hx hb dX12_orders_20 (of_decide_eq_true rfl) (fun c129 => ?_) (fun c129 => ?_)
      · have kc129 := jle c129 rfl rfl
        have I130 : jI104 σ113 := jI104_fr (f116 10 (of_decide_eq_true rfl)) (f116 12 (of_decide_eq_true rfl)) (f116 13 (of_decide_eq_true rfl)) (f115 62 (of_decide_eq_true rfl)) (f115 67 (of_decide_eq_true rfl)) hI104
        have z131 : (σ113 55 10).toInt = (σ 55 10).toInt := (congrArg Int32.toInt (show σ113 55 10 = (σ 55 10) from (f116 10 (of_decide_eq_true rfl))))
        have z132 : (σ113 55 46).toInt = (σ 55 46).toInt := (congrArg Int32.toInt (show σ113 55 46 = (σ 55 46) from m128))
        have z133 : (σ113 55 45).toInt = (σ 55 45).toInt := (congrArg Int32.toInt (show σ113 55 45 = (σ 55 45) from (f116 45 (of_decide_eq_true rfl))))
        exact by exact hret σ113 τ _ _ _ _ ⟨rfl, (fun i hi => (f115 i (imp_271 i hi))), (fun i hi => (f116 i (imp_272 i hi))), I130, I117, p118, p119, p120, (fun wa9 wb9 ok dg => by have x9 := w121 (-1) 0 ok (fun c hc _ => jrOv_0 wa9 wb9 c hc) ⟨by decide, by decide⟩ (by omega); rw [jrVd_of (by omega) (by omega) w7 ok (n := 1) (by omega), ← dg] at x9; exact ⟨jOr.leaf (by omega) x9 (Or.inr ⟨by omega, by omega, by omega⟩), fun z hz => congrFun ((f115 62 (of_decide_eq_true rfl))) z⟩), (by omega), (by omega), trivial⟩ hP hS dX12_orders_34
      · have kc129 := jnle c129 rfl rfl
        refine lv_aload_n hx hb dX12_orders_23 rfl (lv_at hl 1 rfl) ?_
        refine lv_iload hx hb dX12_orders_24 (lv_at hl 0 rfl) ?_
        refine jput (ty := .int) hx hb hts inlX12 tyX12 tyX12_ok nmX12 hown hK hP hJ hA hS (jc_55 cI cL ad σ113 τ) rfl (k := 46) (of_decide_eq_true rfl) (Nat.le_of_ble_eq_true rfl) (jp_55_46 cI cL ad σ113 τ r114) (hts _ kw_40_17) (fun _ h9 => h9) rfl (by decide +kernel) rfl rfl dX12_orders_26 (fun σ134 H locs eσ134 hP hS => ?_)
        refine lv_aload_n hx hb dX12_orders_29 rfl (lv_at hl 1 rfl) ?_
        refine lv_iload_n hx hb dX12_orders_30 rfl (lv_at hl 4 rfl) ?_
        refine jput (ty := .int) hx hb hts inlX12 tyX12 tyX12_ok nmX12 hown hK hP hJ hA hS (jc_55 cI cL ad σ134 τ) rfl (k := 45) (of_decide_eq_true rfl) (Nat.le_of_ble_eq_true rfl) (jp_55_45 cI cL ad σ134 τ a3) (hts _ kw_40_18) (fun _ h9 => h9) rfl (by decide +kernel) rfl rfl dX12_orders_31 (fun σ135 H locs eσ135 hP hS => ?_)
        have I136 : jI104 σ135 := jI104_fr ((jkp 10 eσ135 (of_decide_eq_true rfl)).trans ((jkp 10 eσ134 (of_decide_eq_true rfl)).trans (f116 10 (of_decide_eq_true rfl)))) ((jkp 12 eσ135 (of_decide_eq_true rfl)).trans ((jkp 12 eσ134 (of_decide_eq_true rfl)).trans (f116 12 (of_decide_eq_true rfl)))) ((jkp 13 eσ135 (of_decide_eq_true rfl)).trans ((jkp 13 eσ134 (of_decide_eq_true rfl)).trans (f116 13 (of_decide_eq_true rfl)))) ((jnp 62 eσ135 (of_decide_eq_true rfl)).trans ((jnp 62 eσ134 (of_decide_eq_true rfl)).trans (f115 62 (of_decide_eq_true rfl)))) ((jnp 67 eσ135 (of_decide_eq_true rfl)).trans ((jnp 67 eσ134 (of_decide_eq_true rfl)).trans (f115 67 (of_decide_eq_true rfl)))) hI104
        have I137 : jI119 σ135 := jI119_fr ((jnp 68 eσ135 (of_decide_eq_true rfl)).trans (jnp 68 eσ134 (of_decide_eq_true rfl))) I117
        have p138 : jKept σ135 := jKept.fr ((jnp 75 eσ135 (of_decide_eq_true rfl)).trans (jnp 75 eσ134 (of_decide_eq_true rfl))) ((jnp 76 eσ135 (of_decide_eq_true rfl)).trans (jnp 76 eσ134 (of_decide_eq_true rfl))) ((jnp 77 eσ135 (of_decide_eq_true rfl)).trans (jnp 77 eσ134 (of_decide_eq_true rfl))) p118
        have p139 : jTR σ135 := jTR.fr ((jnp 64 eσ135 (of_decide_eq_true rfl)).trans (jnp 64 eσ134 (of_decide_eq_true rfl))) ((jnp 65 eσ135 (of_decide_eq_true rfl)).trans (jnp 65 eσ134 (of_decide_eq_true rfl))) p119
        have p140 : jqSt σ135 := jqSt.fr ((jnp 78 eσ135 (of_decide_eq_true rfl)).trans (jnp 78 eσ134 (of_decide_eq_true rfl))) ((jkp 42 eσ135 (of_decide_eq_true rfl)).trans (jkp 42 eσ134 (of_decide_eq_true rfl))) p120
        have z141 : (σ135 55 10).toInt = (σ 55 10).toInt := (congrArg Int32.toInt (show σ135 55 10 = (σ 55 10) from ((jkp 10 eσ135 (of_decide_eq_true rfl)).trans ((jkp 10 eσ134 (of_decide_eq_true rfl)).trans (f116 10 (of_decide_eq_true rfl))))))
        have z142 : (σ135 55 46).toInt = r114.toInt := (congrArg Int32.toInt (show σ135 55 46 = r114 from ((jkp 46 eσ135 (of_decide_eq_true rfl)).trans (jsp eσ134))))
        have z143 : (σ135 55 45).toInt = A3 := ((congrArg Int32.toInt (show σ135 55 45 = a3 from (jsp eσ135))).trans t3)
        have z144 : (σ135 55 42).toInt = (σ113 55 42).toInt := (congrArg Int32.toInt (show σ135 55 42 = (σ113 55 42) from ((jkp 42 eσ135 (of_decide_eq_true rfl)).trans (jkp 42 eσ134 (of_decide_eq_true rfl)))))
        exact by exact hret σ135 τ _ _ _ _ ⟨rfl, (fun i hi => ((jnp i eσ135 (imp_273 i hi)).trans ((jnp i eσ134 (imp_273 i hi)).trans (f115 i (imp_271 i hi))))), (fun i hi => ((jkp i eσ135 (imp_274 i hi)).trans ((jkp i eσ134 (imp_275 i hi)).trans (f116 i (imp_272 i hi))))), I136, I137, p138, p139, p140, (fun wa9 wb9 ok dg => by have x9 := w121 (-1) 0 ok (fun c hc _ => jrOv_0 wa9 wb9 c hc) ⟨by decide, by decide⟩ (by omega); rw [jrVd_of (by omega) (by omega) w7 ok (n := 1) (by omega), ← dg] at x9; exact ⟨jOr.leaf (by omega) x9 (Or.inl ⟨by omega, by omega, by omega⟩), fun z hz => congrFun (((jnp 62 eσ135 (of_decide_eq_true rfl)).trans ((jnp 62 eσ134 (of_decide_eq_true rfl)).trans (f115 62 (of_decide_eq_true rfl))))) z⟩), (by omega), (by omega), trivial⟩ hP hS dX12_orders_34
set_option maxHeartbeats 4000000 in
set_option maxRecDepth 100000 in
theorem c_X12_orders_0 (l : Launch) (D : va_G) (cI cL : ClassId) (ad zz : Nat → Nat) (hJ : jD ad) (σ : Nat → Nat → Int32) (τ : Nat → Nat → Int64) (a2 : Int32) (A2 : Int) (t2 : a2.toInt = A2) (a3 : Int32) (A3 : Int) (t3 : a3.toInt = A3) (hI101 : jI101 σ) (hI102 : jI102 σ) (hI103 : jI103 σ) (hI104 : jI104 σ) (hI105 : jI105 σ) (hI106 : jI106 σ) (hI119 : jI119 σ) (hI111 : jI111 σ) (hs_jKept : jKept σ) (hs_jTR : jTR σ) (hs_jqSt : jqSt σ) (hp0 : (σ 55 10).toInt ≤ 5) (hp1 : 0 ≤ (σ 55 10).toInt) (hp2 : (σ 55 12).toInt ≤ 8) (hp3 : 0 ≤ A3 ∧ A3 ≤ 0) (hp4 : 0 ≤ (σ 55 42).toInt ∧ (σ 55 42).toInt ≤ 999997952) : jMv l yX12_orders cX12_orders 6 none ({ frames := 109, cells := 0, slots := 0, locals := 5206 }) D cI cL ad zz [.ref (ad 55), .int 0, .int a2, .int a3] σ τ (fun σ' τ' => τ = τ' ∧ (∀ i : Nat, (i < 55 ∨ 55 < i) ∧ (i < 62 ∨ 62 < i) ∧ (i < 66 ∨ 66 < i) ∧ (i < 68 ∨ 69 < i) ∧ (i < 74 ∨ 78 < i) → σ' i = σ i) ∧ (∀ k : Nat, (k < 18 ∨ 18 < k) ∧ (k < 19 ∨ 19 < k) ∧ (k < 20 ∨ 20 < k) ∧ (k < 21 ∨ 21 < k) ∧ (k < 22 ∨ 22 < k) ∧ (k < 25 ∨ 25 < k) ∧ (k < 26 ∨ 26 < k) ∧ (k < 27 ∨ 27 < k) ∧ (k < 37 ∨ 37 < k) ∧ (k < 42 ∨ 42 < k) ∧ (k < 45 ∨ 45 < k) ∧ (k < 46 ∨ 46 < k) → σ' 55 k = σ 55 k) ∧ (jI104 σ') ∧ (jI119 σ') ∧ (jKept σ') ∧ (jTR σ') ∧ (jqSt σ') ∧ (((σ 55 30).toInt = -1 → (σ 55 31).toInt = -1 → jOk (σ 56) → A3 = jtD (fun z : Nat => (σ 62 z).toInt) 0 → (((σ' 55 46).toInt, (σ' 55 45).toInt) = jfr (jrVd σ) ((σ 55 46).toInt, (σ 55 45).toInt) (jolF ((σ 55 10).toInt - 0).toNat (A3) (fun t => jun a2 (σ 79) (t : Int) (σ 55 10).toInt.toNat)) ∧ ∀ z : Nat, z < 0 → σ' 62 z = σ 62 z))) ∧ ((σ 55 42).toInt ≤ (σ' 55 42).toInt) ∧ ((σ' 55 42).toInt ≤ (σ 55 42).toInt + 1024) ∧ True) := by
  refine jMv.of hJ (by decide +kernel) rfl (Nat.le_of_ble_eq_true rfl) ?_
  intro p e s m args below meth c Q ls hC hret hl hP
  obtain ⟨hx, hb, hr, hml, hown, hts, hK, -, hlocks, hZ⟩ := hC
  have hown : s.vm.findClass RX12 = some m.cls := hown
  have hS : va_S (jA ad) s.heap s.heap [] := va_S.rf
  have hA : ∀ q, jA ad q → jA ad q := fun _ h => h
  have hl : lv_has ls 6 [(0, .ref (ad 55)), (1, .int 0), (2, .int a2), (3, .int a3)] := hl
  have g2 := jrg t2
  have g3 := jrg t3
  obtain ⟨i1, w2, w3⟩ : (0 ≤ (σ 55 6).toInt ∧ (σ 55 6).toInt ≤ 4) ∧ (∀ k : Nat, k < 4 → 0 ≤ (σ 60 k).toInt ∧ (σ 60 k).toInt ≤ 50) ∧ (∀ k : Nat, k < 4 → 0 ≤ (σ 61 k).toInt ∧ (σ 61 k).toInt ≤ 20) := id hI102
  obtain ⟨i4, i5, i6, w7, w8⟩ : (1 ≤ (σ 55 10).toInt ∧ (σ 55 10).toInt ≤ 8) ∧ (1 ≤ (σ 55 12).toInt ∧ (σ 55 12).toInt ≤ 12) ∧ (0 ≤ (σ 55 13).toInt ∧ (σ 55 13).toInt ≤ 999) ∧ (∀ k : Nat, k < 8 → 0 ≤ (σ 62 k).toInt ∧ (σ 62 k).toInt ≤ 3) ∧ (∀ k : Nat, k < 8 → 0 ≤ (σ 67 k).toInt ∧ (σ 67 k).toInt ≤ 3) := id hI104
  have w9 : ∀ k : Nat, k < 5 → 0 ≤ (σ 79 k).toInt ∧ (σ 79 k).toInt ≤ 3 := hI111
  refine lv_iload_n hx hb dX12_orders_0 rfl (lv_at hl 1 rfl) ?_
  refine lv_aload_n hx hb dX12_orders_1 rfl (lv_at hl 0 rfl) ?_
  refine va_get (D := D) hx hb hts inlX12 hown hK hP 55 (jc_55 cI cL ad σ τ) rfl 10 (of_decide_eq_true rfl) (hts _ kw_8_15) (fun _ h9 => h9) rfl dX12_orders_2 ?_
  exact by
   refine lv_icmp_ne (tgt := 35) hx hb dX12_orders_5 (of_decide_eq_true rfl) (fun c10 => ?_) (fun c => absurd (jeq c jz_0 rfl) (by omega))
   have kc10 := jne c10 jz_0 rfl
   refine lv_iconst (v := 0) hx hb dX12_orders_35 (of_decide_eq_true rfl) ?_
   refine lv_istore (lv' := [(4, .int 0), (0, .ref (ad 55)), (1, .int 0), (2, .int a2), (3, .int a3)]) hx hb dX12_orders_36 hl (of_decide_eq_true rfl) rfl (fun ls hl => ?_)
   have lp11 : ∀ (n12 : Nat) (x13 : Int32) (σ15 : Nat → Nat → Int32) (H : Heap) (locs : List Loc) (ls : Array Slot), (-x13.toInt + 4 : Int) < n12 → 0 ≤ x13.toInt → x13.toInt ≤ 4 → (σ 55 42).toInt ≤ (σ15 55 42).toInt → (σ15 55 42).toInt ≤ (σ 55 42).toInt + 256 * x13.toInt → (∀ i : Nat, (i < 55 ∨ 55 < i) ∧ (i < 62 ∨ 62 < i) ∧ (i < 66 ∨ 66 < i) ∧ (i < 68 ∨ 69 < i) ∧ (i < 74 ∨ 78 < i) → σ15 i = σ i) → (∀ k : Nat, (k < 18 ∨ 18 < k) ∧ (k < 19 ∨ 19 < k) ∧ (k < 20 ∨ 20 < k) ∧ (k < 21 ∨ 21 < k) ∧ (k < 22 ∨ 22 < k) ∧ (k < 25 ∨ 25 < k) ∧ (k < 26 ∨ 26 < k) ∧ (k < 27 ∨ 27 < k) ∧ (k < 37 ∨ 37 < k) ∧ (k < 42 ∨ 42 < k) ∧ (k < 45 ∨ 45 < k) ∧ (k < 46 ∨ 46 < k) → σ15 55 k = σ 55 k) → jKept σ15 → jqSt σ15 → jI104 σ15 → jI119 σ15 → (((σ 55 30).toInt = -1 → (σ 55 31).toInt = -1 → jOk (σ 56) → (A3) = jtD (fun z : Nat => (σ 62 z).toInt) 0 → (((σ15 55 46).toInt, (σ15 55 45).toInt) = jfr (jrVd σ) ((σ 55 46).toInt, (σ 55 45).toInt) (jolS ((σ 55 10).toInt - 1).toNat (A3) (fun t => jun a2 (σ 79) (t : Int) (σ 55 10).toInt.toNat) ((x13 : Int32).toInt).toNat) ∧ ∀ z : Nat, z < 0 → σ15 62 z = σ 62 z))) → jH D cI cL ad σ15 τ H → va_S (jA ad) s.heap H locs → lv_has ls 6 [(4, .int x13), (0, .ref (ad 55)), (1, .int 0), (2, .int a2), (3, .int a3)] → W p l e ({ frames := 109, cells := 0, slots := 0, locals := 5206 }) s m args below meth c H locs 0 0 Q (F0 m 38 ls []) := by
     intro n12
     induction n12 with
     | zero => intro x13 σ15 H locs ls h17 h18 h19 h20 h21; exact absurd h17 (by omega)
     | succ n12 ihlp11 =>
       intro x13 σ15 H locs ls h17 h18 h19 h20 h21 f22 f23 p24 p25 p26 p27 q28 hP hS hl
       exact by
        obtain ⟨i29, i30, i31, w32, w33⟩ : (1 ≤ (σ15 55 10).toInt ∧ (σ15 55 10).toInt ≤ 8) ∧ (1 ≤ (σ15 55 12).toInt ∧ (σ15 55 12).toInt ≤ 12) ∧ (0 ≤ (σ15 55 13).toInt ∧ (σ15 55 13).toInt ≤ 999) ∧ (∀ k : Nat, k < 8 → 0 ≤ (σ15 62 k).toInt ∧ (σ15 62 k).toInt ≤ 3) ∧ (∀ k : Nat, k < 8 → 0 ≤ (σ15 67 k).toInt ∧ (σ15 67 k).toInt ≤ 3) := id p26
        have z34 : (σ15 55 10).toInt = (σ 55 10).toInt := (congrArg Int32.toInt (show σ15 55 10 = (σ 55 10) from (f23 10 (of_decide_eq_true rfl))))
        have z35 : (σ15 55 12).toInt = (σ 55 12).toInt := (congrArg Int32.toInt (show σ15 55 12 = (σ 55 12) from (f23 12 (of_decide_eq_true rfl))))
        have z36 : (σ15 55 13).toInt = (σ 55 13).toInt := (congrArg Int32.toInt (show σ15 55 13 = (σ 55 13) from (f23 13 (of_decide_eq_true rfl))))
        refine lv_iload hx hb dX12_orders_38 (lv_at hl 0 rfl) ?_
        refine lv_iconst (v := 4) hx hb dX12_orders_40 (of_decide_eq_true rfl) ?_
        refine lv_icmp_ge (tgt := 127) hx hb dX12_orders_41 (of_decide_eq_true rfl) (fun c37 => ?_) (fun c37 => ?_)
        · have kc37 := jle c37 jz_4 rfl
          have p38 : jTR σ15 := jTR.fr (f22 64 (of_decide_eq_true rfl)) (f22 65 (of_decide_eq_true rfl)) hs_jTR
          exact by exact hret σ15 τ _ _ _ _ ⟨rfl, (fun i hi => (f22 i hi)), (fun i hi => (f23 i hi)), p26, p27, p24, p38, p25, (fun wa9 wb9 ok dg => ⟨jOr.fin (q28 wa9 wb9 ok dg).1 (by omega) (by omega), (q28 wa9 wb9 ok dg).2⟩), (by omega), (by omega), trivial⟩ hP hS dX12_orders_127
        · have kc37 := jnle c37 jz_4 rfl
          refine lv_iconst (v := 0) hx hb dX12_orders_44 (of_decide_eq_true rfl) ?_
          refine lv_istore (lv' := [(5, .int 0), (4, .int x13), (0, .ref (ad 55)), (1, .int 0), (2, .int a2), (3, .int a3)]) hx hb dX12_orders_45 hl (of_decide_eq_true rfl) rfl (fun ls hl => ?_)
          have lp39 : ∀ (n40 : Nat) (x41 : Int32) (H : Heap) (locs : List Loc) (ls : Array Slot), ((σ15 55 10).toInt - x41.toInt : Int) < n40 → 0 ≤ x41.toInt → x41.toInt ≤ 5 → x41.toInt ≤ (σ15 55 10).toInt → (jNl a2 (σ 79) (x13 : Int32).toInt (x41 : Int32).toInt) → jH D cI cL ad σ15 τ H → va_S (jA ad) s.heap H locs → lv_has ls 6 [(5, .int x41), (4, .int x13), (0, .ref (ad 55)), (1, .int 0), (2, .int a2), (3, .int a3)] → W p l e ({ frames := 109, cells := 0, slots := 0, locals := 5206 }) s m args below meth c H locs 0 0 Q (F0 m 47 ls []) := by
            intro n40
            induction n40 with
            | zero => intro x41 H locs ls h43 h44 h45 h46; exact absurd h43 (by omega)
            | succ n40 ihlp39 =>
              intro x41 H locs ls h43 h44 h45 h46 q48 hP hS hl
              exact by
               refine lv_iload hx hb dX12_orders_47 (lv_at hl 0 rfl) ?_
               refine lv_aload_n hx hb dX12_orders_49 rfl (lv_at hl 2 rfl) ?_
               refine va_get (D := D) hx hb hts inlX12 hown hK hP 55 (jc_55 cI cL ad σ15 τ) rfl 10 (of_decide_eq_true rfl) (hts _ kw_8_15) (fun _ h9 => h9) rfl dX12_orders_50 ?_
               have m49 : σ15 55 10 = (σ 55 10) := (f23 10 (of_decide_eq_true rfl))
               refine jtopr m49 ?_
               refine lv_icmp_ge (tgt := 84) hx hb dX12_orders_53 (of_decide_eq_true rfl) (fun c50 => ?_) (fun c50 => ?_)
               · have kc50 := jle c50 rfl rfl
                 refine lv_iload hx hb dX12_orders_84 (lv_at hl 0 rfl) ?_
                 refine lv_aload_n hx hb dX12_orders_86 rfl (lv_at hl 2 rfl) ?_
                 refine va_get (D := D) hx hb hts inlX12 hown hK hP 55 (jc_55 cI cL ad σ15 τ) rfl 10 (of_decide_eq_true rfl) (hts _ kw_8_15) (fun _ h9 => h9) rfl dX12_orders_87 ?_
                 refine jtopr m49 ?_
                 exact by
                  refine lv_icmp_ge (tgt := 121) hx hb dX12_orders_90 (of_decide_eq_true rfl) (fun c51 => ?_) (fun c => absurd (jnle c rfl rfl) (by omega))
                  have kc51 := jle c51 rfl rfl
                  obtain ⟨x52, ex52⟩ : ∃ y : Int32, y = x13 + 1 := ⟨_, rfl⟩
                  have tx52 : x52.toInt = x13.toInt + 1 := (jadd ex52 rfl jz_1 (by omega) (by omega)).trans (by omega)
                  refine lv_iinc (v := x52) (lv' := [(4, .int x52), (5, .int x41), (0, .ref (ad 55)), (1, .int 0), (2, .int a2), (3, .int a3)]) hx hb dX12_orders_121 hl (k := 1) rfl (by rw [ex52]; rfl) (of_decide_eq_true rfl) rfl (fun ls hl => ?_)
                  refine lv_goto (tgt := 38) hx hb dX12_orders_124 (of_decide_eq_true rfl) ?_
                  exact by exact ihlp11 x52 σ15 _ _ ls (by have h90 := tx52; omega) (by have h90 := tx52; omega) (by have h90 := tx52; omega) (by have h90 := tx52; omega) (by have h90 := tx52; omega) (fun i hi => (f22 i hi)) (fun i hi => (f23 i hi))  p24 p25 p26 p27 (fun wa9 wb9 ok dg => ⟨jOr.skip (q28 wa9 wb9 ok dg).1 (show jun a2 (σ 79) ((((x13 : Int32).toInt).toNat : Nat) : Int) (σ 55 10).toInt.toNat = 0 by rw [show ((((x13 : Int32).toInt).toNat : Nat) : Int) = (x13 : Int32).toInt by omega]; exact (jNl.none (σ 55 10).toInt.toNat q48 (by omega))) (by omega) (by have h9 := tx52; omega), (q28 wa9 wb9 ok dg).2⟩) hP hS (lv_sub hl [0, 2, 3, 4, 5] rfl)
               · have kc50 := jnle c50 rfl rfl
                 refine lv_iload_n hx hb dX12_orders_56 rfl (lv_at hl 4 rfl) ?_
                 exact by
                  refine lv_iload hx hb dX12_orders_57 (lv_at hl 0 rfl) ?_
                  refine lv_ishr hx hb dX12_orders_59 ?_
                  refine lv_topi (fun x53 ex53 => ?_)
                  have gx53 := jrg (rfl : x53.toInt = x53.toInt)
                  refine lv_iconst (v := 1) hx hb dX12_orders_60 (of_decide_eq_true rfl) ?_
                  refine lv_iand hx hb dX12_orders_61 ?_
                  refine lv_topi (fun x54 ex54 => ?_)
                  have gx54 := jrg (rfl : x54.toInt = x54.toInt)
                  have g55 : 0 ≤ x54.toInt ∧ x54.toInt ≤ 1 := jmask ex54 1 (of_decide_eq_true rfl) (of_decide_eq_true rfl)
                  refine lv_iconst (v := 1) hx hb dX12_orders_62 (of_decide_eq_true rfl) ?_
                  refine lv_icmp_eq (tgt := 78) hx hb dX12_orders_63 (of_decide_eq_true rfl) (fun c56 => ?_) (fun c56 => ?_)
                  · have kc56 := jeq c56 rfl jz_1
                    obtain ⟨x57, ex57⟩ : ∃ y : Int32, y = x41 + 1 := ⟨_, rfl⟩
                    exact by
                     have tx57 : x57.toInt = x41.toInt + 1 := (jadd ex57 rfl jz_1 (by omega) (by omega)).trans (by omega)
                     refine lv_iinc (v := x57) (lv' := [(5, .int x57), (4, .int x13), (0, .ref (ad 55)), (1, .int 0), (2, .int a2), (3, .int a3)]) hx hb dX12_orders_78 hl (k := 0) rfl (by rw [ex57]; rfl) (of_decide_eq_true rfl) rfl (fun ls hl => ?_)
                     refine lv_goto (tgt := 47) hx hb dX12_orders_81 (of_decide_eq_true rfl) ?_
                     exact by exact ihlp39 x57 _ _ ls (by have h90 := tx57; omega) (by have h90 := tx57; omega) (by have h90 := tx57; omega) (by have h90 := tx57; omega)   (jNl.step q48 (by omega) (fun w => by have w9 := (jtbit (a := a2) (i := x41) ex53 ex54 (by omega) (by omega)).mp (by omega); rw [w.1] at w9; exact absurd w9 (of_decide_eq_true rfl)) (by have h9 := tx57; omega)) hP hS (lv_sub hl [0, 1, 2, 3, 4, 5] rfl)
                  · have kc56 := jne c56 rfl jz_1
                    refine lv_aload_n hx hb dX12_orders_66 rfl (lv_at hl 2 rfl) ?_
                    refine va_get (D := D) hx hb hts inlX12 hown hK hP 55 (jc_55 cI cL ad σ15 τ) rfl 44 (of_decide_eq_true rfl) (hts _ kw_8_4) (fun _ h9 => h9) rfl dX12_orders_67 ?_
                    refine lv_iload hx hb dX12_orders_70 (lv_at hl 0 rfl) ?_
                    refine jald hx hb hK hP (jc_79 cI cL ad σ15 τ) (jin rfl (by omega) (by omega)) dX12_orders_72 ?_
                    exact by
                     have w58 : ∀ k : Nat, k < 5 → 0 ≤ (σ15 79 k).toInt ∧ (σ15 79 k).toInt ≤ 3 := (jrr_fr (f22 79 (of_decide_eq_true rfl)) w9)
                     have g59 := w58 _ (jnat (x := x41) rfl (n := 5) (by omega) (of_decide_eq_true rfl))
                     refine jtopr (y := (σ 79 x41.toNatClampNeg)) (by rw [f22 79 (of_decide_eq_true rfl)]) ?_
                     rw [f22 79 (of_decide_eq_true rfl)] at g59
                     refine lv_iload hx hb dX12_orders_73 (lv_at hl 1 rfl) ?_
                     refine lv_icmp_eq (tgt := 84) hx hb dX12_orders_75 (of_decide_eq_true rfl) (fun c60 => ?_) (fun c60 => ?_)
                     · have kc60 := jeq c60 rfl rfl
                       refine lv_iload hx hb dX12_orders_84 (lv_at hl 0 rfl) ?_
                       refine lv_aload_n hx hb dX12_orders_86 rfl (lv_at hl 2 rfl) ?_
                       exact by
                        refine va_get (D := D) hx hb hts inlX12 hown hK hP 55 (jc_55 cI cL ad σ15 τ) rfl 10 (of_decide_eq_true rfl) (hts _ kw_8_15) (fun _ h9 => h9) rfl dX12_orders_87 ?_
                        refine jtopr m49 ?_
                        refine lv_icmp_ge (tgt := 121) hx hb dX12_orders_90 (of_decide_eq_true rfl) (fun c => absurd (jle c rfl rfl) (by omega)) (fun c61 => ?_)
                        have kc61 := jnle c61 rfl rfl
                        refine lv_aload_n hx hb dX12_orders_93 rfl (lv_at hl 2 rfl) ?_
                        refine va_get (D := D) hx hb hts inlX12 hown hK hP 55 (jc_55 cI cL ad σ15 τ) rfl 11 (of_decide_eq_true rfl) (hts _ kw_7_8) (fun _ h9 => h9) rfl dX12_orders_94 ?_
                        refine lv_iload_n hx hb dX12_orders_97 rfl (lv_at hl 3 rfl) ?_
                        refine lv_iload hx hb dX12_orders_98 (lv_at hl 1 rfl) ?_
                        refine jast hx hb hK hP hJ hA hS (jc_62 cI cL ad σ15 τ) (ja_62 cI cL ad σ15 τ _ _) (jin jz_0 (by omega) (by omega)) dX12_orders_100 (fun σ62 H locs eσ62 hP hS => ?_)
                        exact by
                         have eσ62 : σ62 = jup σ15 62 0 x13 := eσ62
                         refine lv_aload_n hx hb dX12_orders_101 rfl (lv_at hl 2 rfl) ?_
                         refine lv_iload_n hx hb dX12_orders_102 rfl (lv_at hl 3 rfl) ?_
                         refine lv_iconst (v := 1) hx hb dX12_orders_103 (of_decide_eq_true rfl) ?_
                         refine lv_iadd hx hb dX12_orders_104 ?_
                         refine jtopr (y := 1) (of_decide_eq_true rfl) ?_
                         refine lv_iload_n hx hb dX12_orders_105 rfl (lv_at hl 4 rfl) ?_
                         refine lv_iconst (v := 1) hx hb dX12_orders_106 (of_decide_eq_true rfl) ?_
                         refine lv_iload hx hb dX12_orders_107 (lv_at hl 0 rfl) ?_
                         refine lv_ishl hx hb dX12_orders_109 ?_
                         refine lv_topi (fun x63 ex63 => ?_)
                         have gx63 := jrg (rfl : x63.toInt = x63.toInt)
                         refine lv_ior hx hb dX12_orders_110 ?_
                         refine lv_topi (fun x64 ex64 => ?_)
                         have gx64 := jrg (rfl : x64.toInt = x64.toInt)
                         refine lv_bipush (v := 10) hx hb dX12_orders_111 (of_decide_eq_true rfl) ?_
                         refine lv_iload_n hx hb dX12_orders_113 rfl (lv_at hl 5 rfl) ?_
                         refine lv_imul hx hb dX12_orders_114 ?_
                         refine lv_topi (fun x65 ex65 => ?_)
                         exact by
                          have tx65 : x65.toInt = 10 * A3 := (jmul ex65 jz_10 t3 (by omega) (by omega)).trans (by omega)
                          refine lv_iload hx hb dX12_orders_115 (lv_at hl 1 rfl) ?_
                          have g66 := jrg (rfl : x13.toInt = x13.toInt)
                          refine lv_iadd hx hb dX12_orders_117 ?_
                          refine lv_topi (fun x67 ex67 => ?_)
                          have tx67 : x67.toInt = 10 * A3 + x13.toInt := (jadd ex67 tx65 rfl (by omega) (by omega)).trans (by omega)
                          have I68 : jI101 σ62 := jI101_fr ((congrFun (jnp 55 eσ62 (of_decide_eq_true rfl)) 4).trans (f23 4 (of_decide_eq_true rfl))) ((congrFun (jnp 55 eσ62 (of_decide_eq_true rfl)) 5).trans (f23 5 (of_decide_eq_true rfl))) ((jnp 56 eσ62 (of_decide_eq_true rfl)).trans (f22 56 (of_decide_eq_true rfl))) ((jnp 57 eσ62 (of_decide_eq_true rfl)).trans (f22 57 (of_decide_eq_true rfl))) ((jnp 58 eσ62 (of_decide_eq_true rfl)).trans (f22 58 (of_decide_eq_true rfl))) ((jnp 59 eσ62 (of_decide_eq_true rfl)).trans (f22 59 (of_decide_eq_true rfl))) hI101
                          have I69 : jI102 σ62 := jI102_fr ((congrFun (jnp 55 eσ62 (of_decide_eq_true rfl)) 6).trans (f23 6 (of_decide_eq_true rfl))) ((jnp 60 eσ62 (of_decide_eq_true rfl)).trans (f22 60 (of_decide_eq_true rfl))) ((jnp 61 eσ62 (of_decide_eq_true rfl)).trans (f22 61 (of_decide_eq_true rfl))) hI102
                          have I70 : jI103 σ62 := jI103_fr ((congrFun (jnp 55 eσ62 (of_decide_eq_true rfl)) 9).trans (f23 9 (of_decide_eq_true rfl))) hI103
                          exact by
                           have z71 : (σ62 55 10).toInt = (σ 55 10).toInt := (congrArg Int32.toInt (show σ62 55 10 = (σ 55 10) from ((congrFun (jnp 55 eσ62 (of_decide_eq_true rfl)) 10).trans m49)))
                           have z72 : (σ62 55 12).toInt = (σ 55 12).toInt := (congrArg Int32.toInt (show σ62 55 12 = (σ 55 12) from ((congrFun (jnp 55 eσ62 (of_decide_eq_true rfl)) 12).trans (f23 12 (of_decide_eq_true rfl)))))
                           have z73 : (σ62 55 13).toInt = (σ 55 13).toInt := (congrArg Int32.toInt (show σ62 55 13 = (σ 55 13) from ((congrFun (jnp 55 eσ62 (of_decide_eq_true rfl)) 13).trans (f23 13 (of_decide_eq_true rfl)))))
                           have w74 : ∀ k : Nat, k < 8 → 0 ≤ (σ62 62 k).toInt ∧ (σ62 62 k).toInt ≤ 3 := (by rw [eσ62]; exact jrr_up w32 (by omega) (by omega))
                           have w75 : ∀ k : Nat, k < 8 → 0 ≤ (σ62 67 k).toInt ∧ (σ62 67 k).toInt ≤ 3 := (jrr_fr (jnp 67 eσ62 (of_decide_eq_true rfl)) w33)
                           have I76 : jI104 σ62 := ⟨(by omega), (by omega), (by omega), w74, w75⟩
                           have I77 : jI105 σ62 := jI105_fr ((congrFun (jnp 55 eσ62 (of_decide_eq_true rfl)) 15).trans (f23 15 (of_decide_eq_true rfl))) ((jnp 65 eσ62 (of_decide_eq_true rfl)).trans (f22 65 (of_decide_eq_true rfl))) hI105
                           have I78 : jI106 σ62 := jI106_fr ((congrFun (jnp 55 eσ62 (of_decide_eq_true rfl)) 32).trans (f23 32 (of_decide_eq_true rfl))) ((jnp 70 eσ62 (of_decide_eq_true rfl)).trans (f22 70 (of_decide_eq_true rfl))) ((jnp 71 eσ62 (of_decide_eq_true rfl)).trans (f22 71 (of_decide_eq_true rfl))) ((jnp 72 eσ62 (of_decide_eq_true rfl)).trans (f22 72 (of_decide_eq_true rfl))) hI106
                           have I79 : jI119 σ62 := jI119_fr (jnp 68 eσ62 (of_decide_eq_true rfl)) p27
                           exact by
                            have I80 : jI111 σ62 := jI111_fr ((jnp 79 eσ62 (of_decide_eq_true rfl)).trans (f22 79 (of_decide_eq_true rfl))) hI111
                            have p81 : jKept σ62 := jKept.fr (jnp 75 eσ62 (of_decide_eq_true rfl)) (jnp 76 eσ62 (of_decide_eq_true rfl)) (jnp 77 eσ62 (of_decide_eq_true rfl)) p24
                            have p82 : jTR σ62 := jTR.fr ((jnp 64 eσ62 (of_decide_eq_true rfl)).trans (f22 64 (of_decide_eq_true rfl))) ((jnp 65 eσ62 (of_decide_eq_true rfl)).trans (f22 65 (of_decide_eq_true rfl))) hs_jTR
                            have p83 : jqSt σ62 := jqSt.fr (jnp 78 eσ62 (of_decide_eq_true rfl)) (congrFun (jnp 55 eσ62 (of_decide_eq_true rfl)) 42) p25
                            have z84 : (σ62 55 42).toInt = (σ15 55 42).toInt := (congrArg Int32.toInt (show σ62 55 42 = (σ15 55 42) from (congrFun (jnp 55 eσ62 (of_decide_eq_true rfl)) 42)))
                            refine jcallVv (As := [.int 1, .int x64, .int x67]) (rest := []) ⟨hx, hb, hml, hown, hts⟩ hK hP hA hS hZ (c_X12_orders_1 l D cI cL ad zz hJ σ62 τ x64 (x64.toInt) rfl x67 (10 * A3 + x13.toInt) tx67 I68 I69 I70 I76 I77 I78 I79 I80 p81 p82 p83 (by omega) (by omega) (by omega) (by omega) (by omega)) cw_RX12_355 (jc_55 cI cL ad σ62 τ) rfl ⟨Nat.le_of_ble_eq_true rfl, Nat.le_of_ble_eq_true rfl⟩ rfl rfl rfl hl.1 rfl (Nat.le_of_ble_eq_true rfl) dX12_orders_118 ⟨Nat.zero_le _, Nat.zero_le _⟩ (fun σ85 τ85 H locs h85 hP hS => ?_)
                            obtain ⟨rfl, f87, f88, I89, I90, p91, p92, p93, w94, h85⟩ := h85
                            obtain ⟨i96, i97, i98, w99, w100⟩ : (1 ≤ (σ85 55 10).toInt ∧ (σ85 55 10).toInt ≤ 8) ∧ (1 ≤ (σ85 55 12).toInt ∧ (σ85 55 12).toInt ≤ 12) ∧ (0 ≤ (σ85 55 13).toInt ∧ (σ85 55 13).toInt ≤ 999) ∧ (∀ k : Nat, k < 8 → 0 ≤ (σ85 62 k).toInt ∧ (σ85 62 k).toInt ≤ 3) ∧ (∀ k : Nat, k < 8 → 0 ≤ (σ85 67 k).toInt ∧ (σ85 67 k).toInt ≤ 3) := id I89
                            have z101 : (σ85 55 10).toInt = (σ 55 10).toInt := (congrArg Int32.toInt (show σ85 55 10 = (σ 55 10) from ((f88 10 (of_decide_eq_true rfl)).trans ((congrFun (jnp 55 eσ62 (of_decide_eq_true rfl)) 10).trans m49))))
                            exact by
                             have z102 : (σ85 55 12).toInt = (σ 55 12).toInt := (congrArg Int32.toInt (show σ85 55 12 = (σ 55 12) from ((f88 12 (of_decide_eq_true rfl)).trans ((congrFun (jnp 55 eσ62 (of_decide_eq_true rfl)) 12).trans (f23 12 (of_decide_eq_true rfl))))))
                             have z103 : (σ85 55 13).toInt = (σ 55 13).toInt := (congrArg Int32.toInt (show σ85 55 13 = (σ 55 13) from ((f88 13 (of_decide_eq_true rfl)).trans ((congrFun (jnp 55 eσ62 (of_decide_eq_true rfl)) 13).trans (f23 13 (of_decide_eq_true rfl))))))
                             obtain ⟨k104, k105, h85⟩ := h85
                             obtain ⟨x106, ex106⟩ : ∃ y : Int32, y = x13 + 1 := ⟨_, rfl⟩
                             have tx106 : x106.toInt = x13.toInt + 1 := (jadd ex106 rfl jz_1 (by omega) (by omega)).trans (by omega)
                             refine lv_iinc (v := x106) (lv' := [(4, .int x106), (5, .int x41), (0, .ref (ad 55)), (1, .int 0), (2, .int a2), (3, .int a3)]) hx hb dX12_orders_121 hl (k := 1) rfl (by rw [ex106]; rfl) (of_decide_eq_true rfl) rfl (fun ls hl => ?_)
                             refine lv_goto (tgt := 38) hx hb dX12_orders_124 (of_decide_eq_true rfl) ?_
                             have z107 : (σ62 55 30).toInt = (σ 55 30).toInt := (congrArg Int32.toInt (show σ62 55 30 = (σ 55 30) from ((congrFun (jnp 55 eσ62 (of_decide_eq_true rfl)) 30).trans (f23 30 (of_decide_eq_true rfl)))))
                             have z108 : (σ62 55 31).toInt = (σ 55 31).toInt := (congrArg Int32.toInt (show σ62 55 31 = (σ 55 31) from ((congrFun (jnp 55 eσ62 (of_decide_eq_true rfl)) 31).trans (f23 31 (of_decide_eq_true rfl)))))
                             exact by
                              have z109 : (σ62 55 46).toInt = (σ15 55 46).toInt := (congrArg Int32.toInt (show σ62 55 46 = (σ15 55 46) from (congrFun (jnp 55 eσ62 (of_decide_eq_true rfl)) 46)))
                              have z110 : (σ62 55 45).toInt = (σ15 55 45).toInt := (congrArg Int32.toInt (show σ62 55 45 = (σ15 55 45) from (congrFun (jnp 55 eσ62 (of_decide_eq_true rfl)) 45)))
                              have k111 : (σ 55 30).toInt = -1 → (σ 55 31).toInt = -1 → jOk (σ 56) → (A3) = jtD (fun z : Nat => (σ 62 z).toInt) 0 → (((σ85 55 46).toInt, (σ85 55 45).toInt) = jfr (jrVd σ) ((σ 55 46).toInt, (σ 55 45).toInt) (jolS ((σ 55 10).toInt - 1).toNat (A3) (fun t => jun a2 (σ 79) (t : Int) (σ 55 10).toInt.toNat) ((x106 : Int32).toInt).toNat) ∧ ∀ z : Nat, z < 0 → σ85 62 z = σ 62 z) := fun wa9 wb9 ok dg => by
                                have q9 := q28 wa9 wb9 ok dg
                                have f9 : ∀ z : Nat, z < 0 → σ62 62 z = σ 62 z := fun z hz => ((jkp z eσ62 (by omega)).trans (q9.2 z hz))
                                have s9 : (σ62 62 0).toInt = (x13 : Int32).toInt := by rw [show σ62 62 0 = x13 from (jsp eσ62)]
                                have d9 : 10 * A3 + x13.toInt = jtD (fun z : Nat => (σ62 62 z).toInt) 1 := by
                                  show _ = 10 * jtD (fun z : Nat => (σ62 62 z).toInt) 0 + (σ62 62 0).toInt
                                  rw [jtD_cong (g := fun z : Nat => (σ 62 z).toInt) 0 (fun z hz => by show (σ62 62 z).toInt = (σ 62 z).toInt; rw [f9 z hz]), ← dg, s9] <;> omega
                                exact by
                                 have r9 := w94 (by omega) (by omega) (by rw [show σ62 56 = σ 56 from ((jnp 56 eσ62 (of_decide_eq_true rfl)).trans (f22 56 (of_decide_eq_true rfl)))]; exact ok) d9
                                 have e79 : σ62 79 = σ 79 := ((jnp 79 eσ62 (of_decide_eq_true rfl)).trans (f22 79 (of_decide_eq_true rfl)))
                                 have e10 : σ62 55 10 = σ 55 10 := ((congrFun (jnp 55 eσ62 (of_decide_eq_true rfl)) 10).trans (f23 10 (of_decide_eq_true rfl)))
                                 have bit : a2.toBitVec.getLsbD ((x41 : Int32).toInt).toNat = false := (by have w9 := (jtbit (a := a2) (i := x41) ex53 ex54 (by omega) (by omega)); cases hb9 : a2.toBitVec.getLsbD ((x41 : Int32).toInt).toNat with | false => rfl | true => exact absurd (w9.mpr hb9) (by omega))
                                 have own : (σ 79 ((x41 : Int32).toInt).toNat).toInt = (x13 : Int32).toInt := by show (σ 79 x41.toNatClampNeg).toInt = (x13 : Int32).toInt; omega
                                 have tk := fun t : Int => jun_take (f := σ 79) (i := ((x41 : Int32).toInt).toNat) (fun z hz => jtor (i := x41) ex63 ex64 (by omega) (by omega) z hz) bit t (σ 55 10).toInt.toNat (by omega)
                                 have m9 : (σ62 55 46).toInt = (σ15 55 46).toInt ∧ (σ62 55 45).toInt = (σ15 55 45).toInt := ⟨by rw [show σ62 55 46 = σ15 55 46 from (congrFun (jnp 55 eσ62 (of_decide_eq_true rfl)) 46)], by rw [show σ62 55 45 = σ15 55 45 from (congrFun (jnp 55 eσ62 (of_decide_eq_true rfl)) 45)]⟩
                                 have r1 := r9.1
                                 rw [m9.1, m9.2, e79, e10] at r1
                                 exact by
                                  refine ⟨jOr.step q9.1 r1 (jrVd_eq (σ := σ) (u := σ62) ((jnp 56 eσ62 (of_decide_eq_true rfl)).trans (f22 56 (of_decide_eq_true rfl))) ((jnp 60 eσ62 (of_decide_eq_true rfl)).trans (f22 60 (of_decide_eq_true rfl))) ((jnp 61 eσ62 (of_decide_eq_true rfl)).trans (f22 61 (of_decide_eq_true rfl))) ((jnp 64 eσ62 (of_decide_eq_true rfl)).trans (f22 64 (of_decide_eq_true rfl))) ((jnp 65 eσ62 (of_decide_eq_true rfl)).trans (f22 65 (of_decide_eq_true rfl))) ((congrFun (jnp 55 eσ62 (of_decide_eq_true rfl)) 6).trans (f23 6 (of_decide_eq_true rfl))) ((congrFun (jnp 55 eσ62 (of_decide_eq_true rfl)) 9).trans (f23 9 (of_decide_eq_true rfl))) ((congrFun (jnp 55 eσ62 (of_decide_eq_true rfl)) 10).trans (f23 10 (of_decide_eq_true rfl))) ((congrFun (jnp 55 eσ62 (of_decide_eq_true rfl)) 12).trans (f23 12 (of_decide_eq_true rfl))) ((congrFun (jnp 55 eσ62 (of_decide_eq_true rfl)) 13).trans (f23 13 (of_decide_eq_true rfl)))) (by omega) (by omega) (show 0 < jun a2 (σ 79) ((((x13 : Int32).toInt).toNat : Nat) : Int) (σ 55 10).toInt.toNat by have w9 := tk ((((x13 : Int32).toInt).toNat : Nat) : Int); rw [if_pos ⟨by omega, by rw [own]; omega⟩] at w9; omega) (fun t ht => by have w9 := tk (t : Int); rw [own] at w9; exact (Classical.em (t = ((x13 : Int32).toInt).toNat)).elim (fun c9 => by rw [if_pos c9]; rw [if_pos ⟨by omega, by omega⟩] at w9; exact w9) (fun c9 => by rw [if_neg c9]; rw [if_neg (fun y => c9 (by have := y.2; omega))] at w9; exact w9)) (by omega) (by have h9 := tx106; omega), fun z hz => (r9.2 z (by omega)).trans (f9 z hz)⟩
                              exact by exact ihlp11 x106 σ85 _ _ ls (by have h90 := tx106; omega) (by have h90 := tx106; omega) (by have h90 := tx106; omega) (by have h90 := tx106; omega) (by have h90 := tx106; omega) (fun i hi => ((f87 i hi).trans ((jnp i eσ62 (imp_276 i hi)).trans (f22 i hi)))) (fun i hi => ((f88 i hi).trans ((congrFun (jnp 55 eσ62 (of_decide_eq_true rfl)) i).trans (f23 i hi))))  p91 p93 I89 I90 k111 hP hS (lv_sub hl [0, 2, 3, 4, 5] rfl)
                     · have kc60 := jne c60 rfl rfl
                       obtain ⟨x112, ex112⟩ : ∃ y : Int32, y = x41 + 1 := ⟨_, rfl⟩
                       have tx112 : x112.toInt = x41.toInt + 1 := (jadd ex112 rfl jz_1 (by omega) (by omega)).trans (by omega)
                       refine lv_iinc (v := x112) (lv' := [(5, .int x112), (4, .int x13), (0, .ref (ad 55)), (1, .int 0), (2, .int a2), (3, .int a3)]) hx hb dX12_orders_78 hl (k := 0) rfl (by rw [ex112]; rfl) (of_decide_eq_true rfl) rfl (fun ls hl => ?_)
                       refine lv_goto (tgt := 47) hx hb dX12_orders_81 (of_decide_eq_true rfl) ?_
                       exact by exact ihlp39 x112 _ _ ls (by have h90 := tx112; omega) (by have h90 := tx112; omega) (by have h90 := tx112; omega) (by have h90 := tx112; omega)   (jNl.step q48 (by omega) (fun w => absurd w.2 (by show ¬ (σ 79 x41.toNatClampNeg).toInt = (x13 : Int32).toInt; omega)) (by have h9 := tx112; omega)) hP hS (lv_sub hl [0, 1, 2, 3, 4, 5] rfl)
          exact by exact lp39 1000000 0 _ _ ls (by have h90 := jz_0; omega) (by have h90 := jz_0; omega) (by have h90 := jz_0; omega) (by have h90 := jz_0; omega)  (jNl.first (by have h9 := jz_0; omega)) hP hS hl
   exact by exact lp11 1000000 0 σ _ _ ls (by have h90 := jz_0; omega) (by have h90 := jz_0; omega) (by have h90 := jz_0; omega) (by have h90 := jz_0; omega) (by have h90 := jz_0; omega) (fun _ _ => rfl) (fun _ _ => rfl)  hs_jKept hs_jqSt hI104 hI119 (fun _ _ _ _ => ⟨jOr.first (by omega) (by omega) (by have h9 := jz_0; omega), fun z hz => rfl⟩) hP hS hl
