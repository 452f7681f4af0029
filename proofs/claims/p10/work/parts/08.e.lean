set_option maxHeartbeats 4000000 in
set_option maxRecDepth 100000 in
theorem c_X12_goThroughBook (l : Launch) (D : va_G) (cI cL : ClassId) (ad zz : Nat → Nat) (hJ : jD ad) (σ : Nat → Nat → Int32) (τ : Nat → Nat → Int64) (a1 : Int32) (A1 : Int) (t1 : a1.toInt = A1) (hI102 : jI102 σ) (hI104 : jI104 σ) (hI107 : jI107 σ) (hw68 : ∀ k : Nat, k < 4 → 0 ≤ (σ 68 k).toInt ∧ (σ 68 k).toInt ≤ 3) (hs_jBook : jBook σ) (hp0 : 0 ≤ A1) (hp1 : A1 ≤ (σ 55 47).toInt) : jMv l yX12_goThroughBook cX12_goThroughBook 4 none ({ frames := 1, cells := 0, slots := 0, locals := 24 }) D cI cL ad zz [.ref (ad 55), .int a1] σ τ (fun σ' τ' => τ = τ' ∧ (∀ i : Nat, (i < 55 ∨ 55 < i) ∧ (i < 68 ∨ 69 < i) → σ' i = σ i) ∧ (∀ k : Nat, (k < 25 ∨ 25 < k) ∧ (k < 26 ∨ 26 < k) ∧ (k < 27 ∨ 27 < k) → σ' 55 k = σ 55 k) ∧ (jI120 σ') ∧ (jBook σ') ∧ (jRb (σ 80) (σ' 69) (A1) ((σ' 55 27).toInt)) ∧ ((jqbN (σ 80) (σ 55 47).toInt → ∀ c : Nat, (c : Int) < (σ 55 6).toInt → jrS σ' c = jbS (jbL (σ 80) (A1)) c)) ∧ ((σ' 55 26).toInt = A1) ∧ ((σ' 55 25).toInt = (jcnt (σ 81) ((A1) : Int).toNat : Int)) ∧ ((A1 < (σ 55 47).toInt ∧ (σ' 55 25).toInt < (σ 55 10).toInt) ∨ (A1 = (σ 55 47).toInt)) ∧ True) := by
  refine jMv.of hJ (by decide +kernel) rfl (Nat.le_of_ble_eq_true rfl) ?_
  intro p e s m args below meth c Q ls hC hret hl hP
  obtain ⟨hx, hb, hr, hml, hown, hts, hK, -, hlocks, hZ⟩ := hC
  have hown : s.vm.findClass RX12 = some m.cls := hown
  have hS : va_S (jA ad) s.heap s.heap [] := va_S.rf
  have hA : ∀ q, jA ad q → jA ad q := fun _ h => h
  have hl : lv_has ls 4 [(0, .ref (ad 55)), (1, .int a1)] := hl
  have g1 := jrg t1
  obtain ⟨i1, w2, w3⟩ : (0 ≤ (σ 55 6).toInt ∧ (σ 55 6).toInt ≤ 4) ∧ (∀ k : Nat, k < 4 → 0 ≤ (σ 60 k).toInt ∧ (σ 60 k).toInt ≤ 50) ∧ (∀ k : Nat, k < 4 → 0 ≤ (σ 61 k).toInt ∧ (σ 61 k).toInt ≤ 20) := id hI102
  obtain ⟨i4, i5, i6, w7, w8⟩ : (1 ≤ (σ 55 10).toInt ∧ (σ 55 10).toInt ≤ 8) ∧ (1 ≤ (σ 55 12).toInt ∧ (σ 55 12).toInt ≤ 12) ∧ (0 ≤ (σ 55 13).toInt ∧ (σ 55 13).toInt ≤ 999) ∧ (∀ k : Nat, k < 8 → 0 ≤ (σ 62 k).toInt ∧ (σ 62 k).toInt ≤ 3) ∧ (∀ k : Nat, k < 8 → 0 ≤ (σ 67 k).toInt ∧ (σ 67 k).toInt ≤ 3) := id hI104
  obtain ⟨i9, i10, w11⟩ : (0 ≤ (σ 55 47).toInt ∧ (σ 55 47).toInt ≤ 12) ∧ ((σ 55 47).toInt ≤ (σ 55 12).toInt) ∧ (∀ k : Nat, k < 12 → 0 ≤ (σ 80 k).toInt ∧ (σ 80 k).toInt ≤ 3) := id hI107
  exact by
   have k12 := hs_jBook.dis (N := A1) (by omega) (by omega) (by omega)
   have k13 : (jcnt (σ 81) ((0) : Int).toNat : Int) = 0 := rfl
   have k13z : (jcnt (σ 81) (((0 : Int32).toInt) : Int).toNat : Int) = 0 := rfl
   refine lv_aload_n hx hb dX12_goThroughBook_0 rfl (lv_at hl 0 rfl) ?_
   refine jcallVv (As := []) (rest := []) ⟨hx, hb, hml, hown, hts⟩ hK hP hA hS hZ (c_X12_begin l D cI cL ad zz hJ σ τ hI104 hw68) cw_RX12_256 (jc_55 cI cL ad σ τ) rfl ⟨Nat.le_of_ble_eq_true rfl, Nat.le_of_ble_eq_true rfl⟩ rfl rfl rfl hl.1 rfl (Nat.le_of_ble_eq_true rfl) dX12_goThroughBook_1 ⟨Nat.zero_le _, Nat.zero_le _⟩ (fun σ14 τ14 H locs h14 hP hS => ?_)
   obtain ⟨rfl, f16, f17, I18, w19, w20, h14⟩ := h14
   obtain ⟨i22, i23, i24, i25, i26, w27⟩ : (0 ≤ (σ14 55 25).toInt) ∧ ((σ14 55 25).toInt ≤ (σ14 55 10).toInt) ∧ (0 ≤ (σ14 55 26).toInt) ∧ ((σ14 55 26).toInt ≤ (σ14 55 12).toInt) ∧ ((-1) ≤ (σ14 55 27).toInt ∧ (σ14 55 27).toInt ≤ 3) ∧ (∀ k : Nat, k < 4 → 0 ≤ (σ14 68 k).toInt ∧ (σ14 68 k).toInt ≤ 3) := id I18
   have z28 : (σ14 55 10).toInt = (σ 55 10).toInt := (congrArg Int32.toInt (show σ14 55 10 = (σ 55 10) from (f17 10 (of_decide_eq_true rfl))))
   have z29 : (σ14 55 12).toInt = (σ 55 12).toInt := (congrArg Int32.toInt (show σ14 55 12 = (σ 55 12) from (f17 12 (of_decide_eq_true rfl))))
   obtain ⟨k30, k31, k32, h14⟩ := h14
   refine lv_iconst (v := 0) hx hb dX12_goThroughBook_4 (of_decide_eq_true rfl) ?_
   refine lv_istore_n (lv' := [(2, .int 0), (0, .ref (ad 55)), (1, .int a1)]) hx hb dX12_goThroughBook_5 rfl hl (of_decide_eq_true rfl) rfl (fun ls hl => ?_)
   have lp33 : ∀ (n34 : Nat) (x35 : Int32) (σ37 : Nat → Nat → Int32) (H : Heap) (locs : List Loc) (ls : Array Slot), (A1 - x35.toInt : Int) < n34 → 0 ≤ x35.toInt → x35.toInt ≤ 12 → x35.toInt ≤ A1 → (σ37 55 26).toInt = x35.toInt → (σ37 55 25).toInt = (jcnt (σ 81) ((x35.toInt) : Int).toNat : Int) → (-1) ≤ (σ37 55 27).toInt ∧ (σ37 55 27).toInt ≤ 3 → (∀ i : Nat, (i < 55 ∨ 55 < i) ∧ (i < 68 ∨ 69 < i) → σ37 i = σ14 i) → (∀ k : Nat, (k < 25 ∨ 25 < k) ∧ (k < 26 ∨ 26 < k) ∧ (k < 27 ∨ 27 < k) → σ37 55 k = σ14 55 k) → (∀ k : Nat, k < 4 → 0 ≤ (σ37 68 k).toInt ∧ (σ37 68 k).toInt ≤ 3) → (jRb (σ 80) (σ37 69) (x35.toInt) ((σ37 55 27).toInt)) → ((jqbN (σ 80) (σ 55 47).toInt → ∀ c : Nat, (c : Int) < (σ 55 6).toInt → jrS σ37 c = jbS (jbL (σ 80) (x35.toInt)) c)) → jH D cI cL ad σ37 τ H → va_S (jA ad) s.heap H locs → lv_has ls 4 [(2, .int x35), (0, .ref (ad 55)), (1, .int a1)] → W p l e ({ frames := 1, cells := 0, slots := 0, locals := 24 }) s m args below meth c H locs 0 0 Q (F0 m 6 ls []) := by
     intro n34
     induction n34 with
     | zero => intro x35 σ37 H locs ls h39 h40 h41 h42 h43 h44 h45; exact absurd h39 (by omega)
     | succ n34 ihlp33 =>
       intro x35 σ37 H locs ls h39 h40 h41 h42 h43 h44 h45 f46 f47 w48 q49 q50 hP hS hl
       exact by
        refine lv_iload_n hx hb dX12_goThroughBook_6 rfl (lv_at hl 0 rfl) ?_
        refine lv_iload_n hx hb dX12_goThroughBook_7 rfl (lv_at hl 2 rfl) ?_
        refine lv_icmp_ge (tgt := 43) hx hb dX12_goThroughBook_8 (of_decide_eq_true rfl) (fun c51 => ?_) (fun c51 => ?_)
        · have kc51 := jle c51 t1 rfl
          have k52 : (jcnt (σ 81) ((x35.toInt) : Int).toNat : Int) = (jcnt (σ 81) ((A1) : Int).toNat : Int) := by rw [show x35.toInt = A1 by omega]
          have z53 : (σ37 55 10).toInt = (σ 55 10).toInt := (congrArg Int32.toInt (show σ37 55 10 = (σ 55 10) from ((f47 10 (of_decide_eq_true rfl)).trans (f17 10 (of_decide_eq_true rfl)))))
          have z54 : (σ37 55 12).toInt = (σ 55 12).toInt := (congrArg Int32.toInt (show σ37 55 12 = (σ 55 12) from ((f47 12 (of_decide_eq_true rfl)).trans (f17 12 (of_decide_eq_true rfl)))))
          have I55 : jI120 σ37 := ⟨(by omega), (by omega), (by omega), (by omega), (by omega), w48⟩
          have p56 : jBook σ37 := jBook.fr ((f47 47 (of_decide_eq_true rfl)).trans (f17 47 (of_decide_eq_true rfl))) ((f47 10 (of_decide_eq_true rfl)).trans (f17 10 (of_decide_eq_true rfl))) ((f46 81 (of_decide_eq_true rfl)).trans (f16 81 (of_decide_eq_true rfl))) hs_jBook
          exact by exact hret σ37 τ _ _ _ _ ⟨rfl, (fun i hi => ((f46 i hi).trans (f16 i hi))), (fun i hi => ((f47 i hi).trans (f17 i hi))), I55, p56, (by rw [show A1 = x35.toInt by omega]; exact q49), (by rw [show A1 = x35.toInt by omega]; exact q50), (by omega), (by omega), (by omega), trivial⟩ hP hS dX12_goThroughBook_43
        · exact by
           have kc51 := jnle c51 t1 rfl
           have k57 := jcnt_r (σ 81) (K := x35.toInt) (by omega)
           refine lv_aload_n hx hb dX12_goThroughBook_11 rfl (lv_at hl 1 rfl) ?_
           refine lv_aload_n hx hb dX12_goThroughBook_12 rfl (lv_at hl 1 rfl) ?_
           refine va_get (D := D) hx hb hts inlX12 hown hK hP 55 (jc_55 cI cL ad σ37 τ) rfl 48 (of_decide_eq_true rfl) (hts _ kw_8_5) (fun _ h9 => h9) rfl dX12_goThroughBook_13 ?_
           refine lv_iload_n hx hb dX12_goThroughBook_16 rfl (lv_at hl 0 rfl) ?_
           refine jald hx hb hK hP (jc_80 cI cL ad σ37 τ) (jin rfl (by omega) (by omega)) dX12_goThroughBook_17 ?_
           have w58 : ∀ k : Nat, k < 12 → 0 ≤ (σ37 80 k).toInt ∧ (σ37 80 k).toInt ≤ 3 := (jrr_fr (f46 80 (of_decide_eq_true rfl)) (jrr_fr (f16 80 (of_decide_eq_true rfl)) w11))
           have g59 := w58 _ (jnat (x := x35) rfl (n := 12) (by omega) (of_decide_eq_true rfl))
           exact by
            refine jtopr (y := (σ 80 x35.toNatClampNeg)) (by rw [f46 80 (of_decide_eq_true rfl), f16 80 (of_decide_eq_true rfl)]) ?_
            rw [f46 80 (of_decide_eq_true rfl), f16 80 (of_decide_eq_true rfl)] at g59
            refine lv_aload_n hx hb dX12_goThroughBook_18 rfl (lv_at hl 1 rfl) ?_
            refine va_get (D := D) hx hb hts inlX12 hown hK hP 55 (jc_55 cI cL ad σ37 τ) rfl 49 (of_decide_eq_true rfl) (hts _ kw_8_6) (fun _ h9 => h9) rfl dX12_goThroughBook_19 ?_
            refine lv_iload_n hx hb dX12_goThroughBook_22 rfl (lv_at hl 0 rfl) ?_
            refine jald hx hb hK hP (jc_81 cI cL ad σ37 τ) (jin rfl (by omega) (by omega)) dX12_goThroughBook_23 ?_
            refine jtopr (y := (σ 81 x35.toNatClampNeg)) (by rw [f46 81 (of_decide_eq_true rfl), f16 81 (of_decide_eq_true rfl)]) ?_
            refine lv_iconst (v := 1) hx hb dX12_goThroughBook_24 (of_decide_eq_true rfl) ?_
            refine lv_icmp_ne (tgt := 32) hx hb dX12_goThroughBook_25 (of_decide_eq_true rfl) (fun c60 => ?_) (fun c60 => ?_)
            · exact by
               have kc60 := jne c60 rfl jz_1
               refine lv_iconst (v := 0) hx hb dX12_goThroughBook_32 (of_decide_eq_true rfl) ?_
               have z61 : (σ37 55 6).toInt = (σ 55 6).toInt := (congrArg Int32.toInt (show σ37 55 6 = (σ 55 6) from ((f47 6 (of_decide_eq_true rfl)).trans (f17 6 (of_decide_eq_true rfl)))))
               refine jcallV (As := [.int (σ 80 x35.toNatClampNeg), .int 0]) (rest := []) ⟨hx, hb, hml, hown, hts⟩ hK hP hA hS hZ (c_X12_goes_0 l D cI cL ad zz hJ σ37 τ (σ 80 x35.toNatClampNeg) ((σ 80 x35.toNatClampNeg).toInt) rfl w48 (by omega) (by omega) (by omega) (by omega) (by omega)) cw_RX12_296 (jc_55 cI cL ad σ37 τ) rfl ⟨Nat.le_of_ble_eq_true rfl, Nat.le_of_ble_eq_true rfl⟩ rfl rfl rfl hl.1 rfl (Nat.le_of_ble_eq_true rfl) dX12_goThroughBook_33 ⟨Nat.zero_le _, Nat.zero_le _⟩ (fun r63 σ62 τ62 H locs h62 hP hS => ?_)
               obtain ⟨rfl, f64, f65, w66, w67, w68, w69, h62⟩ := h62
               obtain ⟨k71, k72, k73, h62⟩ := h62
               have h74 := h62
               obtain ⟨q80, k75, k76, k77, k78, k79⟩ := h74
               refine lv_istore_n (lv' := [(3, .int r63), (2, .int x35), (0, .ref (ad 55)), (1, .int a1)]) hx hb dX12_goThroughBook_36 rfl hl (of_decide_eq_true rfl) rfl (fun ls hl => ?_)
               exact by
                obtain ⟨x81, ex81⟩ : ∃ y : Int32, y = x35 + 1 := ⟨_, rfl⟩
                have tx81 : x81.toInt = x35.toInt + 1 := (jadd ex81 rfl jz_1 (by omega) (by omega)).trans (by omega)
                refine lv_iinc (v := x81) (lv' := [(2, .int x81), (3, .int r63), (0, .ref (ad 55)), (1, .int a1)]) hx hb dX12_goThroughBook_37 hl (k := 1) rfl (by rw [ex81]; rfl) (of_decide_eq_true rfl) rfl (fun ls hl => ?_)
                have k82 : (jcnt (σ 81) ((x35.toInt + 1) : Int).toNat : Int) = (jcnt (σ 81) ((x35.toInt) : Int).toNat : Int) := jcnt_non (z := (σ 81 x35.toNatClampNeg)) (by omega) rfl c60
                have k83 : (jcnt (σ 81) ((x81.toInt) : Int).toNat : Int) = (jcnt (σ 81) ((x35.toInt + 1) : Int).toNat : Int) := by rw [tx81]
                refine lv_goto (tgt := 6) hx hb dX12_goThroughBook_40 (of_decide_eq_true rfl) ?_
                exact by exact ihlp33 x81 σ62 _ _ ls (by have h90 := tx81; omega) (by have h90 := tx81; omega) (by have h90 := tx81; omega) (by have h90 := tx81; omega) (by have h90 := tx81; omega) (by have h90 := tx81; omega) (by have h90 := tx81; omega) (fun i hi => ((f64 i hi).trans (f46 i hi))) (fun i hi => ((f65 i hi).trans (f47 i hi)))  w66 (q49.step w67 (show (σ 80 x35.toNatClampNeg) = σ 80 (x35.toInt).toNat from by first | rfl | rw [jnc (rfl : x35.toInt = x35.toInt)]) (by omega) (by omega) (by omega) (by omega) (by omega) (by have h9 := tx81; omega)) (jbS_step (v := σ37) q50 (show (σ 80 x35.toNatClampNeg) = σ 80 (x35.toInt).toNat from by first | rfl | rw [jnc (rfl : x35.toInt = x35.toInt)]) (fun c hc => w69 c (by rw [show σ37 55 6 = σ 55 6 from ((f47 6 (of_decide_eq_true rfl)).trans (f17 6 (of_decide_eq_true rfl)))]; exact hc)) rfl (by omega) (by omega) (by omega) (by have h9 := tx81; omega)) hP hS (lv_sub hl [0, 2, 3] rfl)
            · have kc60 := jeq c60 rfl jz_1
              refine lv_iconst (v := 1) hx hb dX12_goThroughBook_28 (of_decide_eq_true rfl) ?_
              exact by
               refine lv_goto (tgt := 33) hx hb dX12_goThroughBook_29 (of_decide_eq_true rfl) ?_
               have z84 : (σ37 55 6).toInt = (σ 55 6).toInt := (congrArg Int32.toInt (show σ37 55 6 = (σ 55 6) from ((f47 6 (of_decide_eq_true rfl)).trans (f17 6 (of_decide_eq_true rfl)))))
               refine jcallV (As := [.int (σ 80 x35.toNatClampNeg), .int 1]) (rest := []) ⟨hx, hb, hml, hown, hts⟩ hK hP hA hS hZ (c_X12_goes_1 l D cI cL ad zz hJ σ37 τ (σ 80 x35.toNatClampNeg) ((σ 80 x35.toNatClampNeg).toInt) rfl w48 (by omega) (by omega) (by omega) (by omega) (by omega)) cw_RX12_296 (jc_55 cI cL ad σ37 τ) rfl ⟨Nat.le_of_ble_eq_true rfl, Nat.le_of_ble_eq_true rfl⟩ rfl rfl rfl hl.1 rfl (Nat.le_of_ble_eq_true rfl) dX12_goThroughBook_33 ⟨Nat.zero_le _, Nat.zero_le _⟩ (fun r86 σ85 τ85 H locs h85 hP hS => ?_)
               obtain ⟨rfl, f87, f88, w89, w90, w91, w92, h85⟩ := h85
               obtain ⟨k94, k95, k96, h85⟩ := h85
               have h97 := h85
               obtain ⟨q103, k98, k99, k100, k101, k102⟩ := h97
               refine lv_istore_n (lv' := [(3, .int r86), (2, .int x35), (0, .ref (ad 55)), (1, .int a1)]) hx hb dX12_goThroughBook_36 rfl hl (of_decide_eq_true rfl) rfl (fun ls hl => ?_)
               obtain ⟨x104, ex104⟩ : ∃ y : Int32, y = x35 + 1 := ⟨_, rfl⟩
               exact by
                have tx104 : x104.toInt = x35.toInt + 1 := (jadd ex104 rfl jz_1 (by omega) (by omega)).trans (by omega)
                refine lv_iinc (v := x104) (lv' := [(2, .int x104), (3, .int r86), (0, .ref (ad 55)), (1, .int a1)]) hx hb dX12_goThroughBook_37 hl (k := 1) rfl (by rw [ex104]; rfl) (of_decide_eq_true rfl) rfl (fun ls hl => ?_)
                have k105 : (jcnt (σ 81) ((x35.toInt + 1) : Int).toNat : Int) = (jcnt (σ 81) ((x35.toInt) : Int).toNat : Int) + 1 := jcnt_one (z := (σ 81 x35.toNatClampNeg)) (by omega) rfl c60
                have k106 : (jcnt (σ 81) ((x104.toInt) : Int).toNat : Int) = (jcnt (σ 81) ((x35.toInt + 1) : Int).toNat : Int) := by rw [tx104]
                refine lv_goto (tgt := 6) hx hb dX12_goThroughBook_40 (of_decide_eq_true rfl) ?_
                exact by exact ihlp33 x104 σ85 _ _ ls (by have h90 := tx104; omega) (by have h90 := tx104; omega) (by have h90 := tx104; omega) (by have h90 := tx104; omega) (by have h90 := tx104; omega) (by have h90 := tx104; omega) (by have h90 := tx104; omega) (fun i hi => ((f87 i hi).trans (f46 i hi))) (fun i hi => ((f88 i hi).trans (f47 i hi)))  w89 (q49.step w90 (show (σ 80 x35.toNatClampNeg) = σ 80 (x35.toInt).toNat from by first | rfl | rw [jnc (rfl : x35.toInt = x35.toInt)]) (by omega) (by omega) (by omega) (by omega) (by omega) (by have h9 := tx104; omega)) (jbS_step (v := σ37) q50 (show (σ 80 x35.toNatClampNeg) = σ 80 (x35.toInt).toNat from by first | rfl | rw [jnc (rfl : x35.toInt = x35.toInt)]) (fun c hc => w92 c (by rw [show σ37 55 6 = σ 55 6 from ((f47 6 (of_decide_eq_true rfl)).trans (f17 6 (of_decide_eq_true rfl)))]; exact hc)) rfl (by omega) (by omega) (by omega) (by have h9 := tx104; omega)) hP hS (lv_sub hl [0, 2, 3] rfl)
   exact by exact lp33 1000000 0 σ14 _ _ ls (by have h90 := jz_0; omega) (by have h90 := jz_0; omega) (by have h90 := jz_0; omega) (by have h90 := jz_0; omega) (by have h90 := jz_0; omega) (by have h90 := jz_0; omega) (by have h90 := jz_0; omega) (fun _ _ => rfl) (fun _ _ => rfl)  w27 (jRb.first w19 (by have h9 := jz_0; omega) (by omega)) (jbS_first w20 (by have h9 := jz_0; omega) (by omega)) hP hS hl
set_option maxHeartbeats 4000000 in
set_option maxRecDepth 100000 in
theorem c_X12_isBig (l : Launch) (D : va_G) (cI cL : ClassId) (ad zz : Nat → Nat) (hJ : jD ad) (σ : Nat → Nat → Int32) (τ : Nat → Nat → Int64) (hI104 : jI104 σ) (hp0 : 0 ≤ (σ 55 26).toInt ∧ (σ 55 26).toInt ≤ 12) : jM l yX12_isBig cX12_isBig 1 (some .boolean) ({ frames := 0, cells := 0, slots := 0, locals := 0 }) D cI cL ad zz [.ref (ad 55)] σ τ (fun r σ' τ' => (σ = σ' ∧ τ = τ') ∧ ((r = 1 ∧ (8 < (σ 55 12).toInt - (σ 55 26).toInt)) ∨ (r = 0 ∧ ((σ 55 12).toInt - (σ 55 26).toInt ≤ 8)))) := by
  refine jM.of hJ (by decide +kernel) (nt := .boolean) rfl (Nat.le_of_ble_eq_true rfl) ?_
  intro p e s m args below meth c Q ls hC hret hl hP
  obtain ⟨hx, hb, hr, hml, hown, hts, hK, -, hlocks, hZ⟩ := hC
  have hown : s.vm.findClass RX12 = some m.cls := hown
  have hS : va_S (jA ad) s.heap s.heap [] := va_S.rf
  have hA : ∀ q, jA ad q → jA ad q := fun _ h => h
  have hl : lv_has ls 1 [(0, .ref (ad 55))] := hl
  obtain ⟨i1, i2, i3, w4, w5⟩ : (1 ≤ (σ 55 10).toInt ∧ (σ 55 10).toInt ≤ 8) ∧ (1 ≤ (σ 55 12).toInt ∧ (σ 55 12).toInt ≤ 12) ∧ (0 ≤ (σ 55 13).toInt ∧ (σ 55 13).toInt ≤ 999) ∧ (∀ k : Nat, k < 8 → 0 ≤ (σ 62 k).toInt ∧ (σ 62 k).toInt ≤ 3) ∧ (∀ k : Nat, k < 8 → 0 ≤ (σ 67 k).toInt ∧ (σ 67 k).toInt ≤ 3) := id hI104
  refine lv_aload_n hx hb dX12_isBig_0 rfl (lv_at hl 0 rfl) ?_
  refine va_get (D := D) hx hb hts inlX12 hown hK hP 55 (jc_55 cI cL ad σ τ) rfl 12 (of_decide_eq_true rfl) (hts _ kw_8_16) (fun _ h9 => h9) rfl dX12_isBig_1 ?_
  refine lv_aload_n hx hb dX12_isBig_4 rfl (lv_at hl 0 rfl) ?_
  refine va_get (D := D) hx hb hts inlX12 hown hK hP 55 (jc_55 cI cL ad σ τ) rfl 26 (of_decide_eq_true rfl) (hts _ kw_23_5) (fun _ h9 => h9) rfl dX12_isBig_5 ?_
  have g6 := jrg (rfl : (σ 55 12).toInt = (σ 55 12).toInt)
  have g7 := jrg (rfl : (σ 55 26).toInt = (σ 55 26).toInt)
  refine lv_isub hx hb dX12_isBig_8 ?_
  refine lv_topi (fun x8 ex8 => ?_)
  exact by
   have tx8 : x8.toInt = (σ 55 12).toInt - (σ 55 26).toInt := (jsub ex8 rfl rfl (by omega) (by omega)).trans (by omega)
   refine lv_bipush (v := 8) hx hb dX12_isBig_9 (of_decide_eq_true rfl) ?_
   refine lv_icmp_le (tgt := 18) hx hb dX12_isBig_11 (of_decide_eq_true rfl) (fun c9 => ?_) (fun c9 => ?_)
   · have kc9 := jle c9 tx8 jz_8
     refine lv_iconst (v := 0) hx hb dX12_isBig_18 (of_decide_eq_true rfl) ?_
     exact hret 0 σ τ _ _ _ _ rfl ⟨⟨rfl, rfl⟩, Or.inr (⟨rfl, (by have h9 := jz_0; omega)⟩)⟩ hP hS dX12_isBig_19
   · have kc9 := jnle c9 tx8 jz_8
     refine lv_iconst (v := 1) hx hb dX12_isBig_14 (of_decide_eq_true rfl) ?_
     refine lv_goto (tgt := 19) hx hb dX12_isBig_15 (of_decide_eq_true rfl) ?_
     exact hret 1 σ τ _ _ _ _ rfl ⟨⟨rfl, rfl⟩, Or.inl ⟨rfl, (by have h9 := jz_1; omega)⟩⟩ hP hS dX12_isBig_19
set_option maxHeartbeats 4000000 in
set_option maxRecDepth 100000 in
theorem c_X12_isRule (l : Launch) (D : va_G) (cI cL : ClassId) (ad zz : Nat → Nat) (hJ : jD ad) (σ : Nat → Nat → Int32) (τ : Nat → Nat → Int64) (a1 : Int32) (A1 : Int) (t1 : a1.toInt = A1) (hI106 : jI106 σ) : jM l yX12_isRule cX12_isRule 2 (some .boolean) ({ frames := 1, cells := 0, slots := 0, locals := 25 }) D cI cL ad zz [.ref (ad 55), .int a1] σ τ (fun r σ' τ' => (σ = σ' ∧ τ = τ') ∧ ((r = 1 ∧ (0 ≤ A1 ∧ A1 < (σ 55 32).toInt)) ∨ (r = 0 ∧ ((A1 < 0) ∨ ((σ 55 32).toInt ≤ A1))))) := by
  refine jM.of hJ (by decide +kernel) (nt := .boolean) rfl (Nat.le_of_ble_eq_true rfl) ?_
  intro p e s m args below meth c Q ls hC hret hl hP
  obtain ⟨hx, hb, hr, hml, hown, hts, hK, -, hlocks, hZ⟩ := hC
  have hown : s.vm.findClass RX12 = some m.cls := hown
  have hS : va_S (jA ad) s.heap s.heap [] := va_S.rf
  have hA : ∀ q, jA ad q → jA ad q := fun _ h => h
  have hl : lv_has ls 2 [(0, .ref (ad 55)), (1, .int a1)] := hl
  have g1 := jrg t1
  obtain ⟨i1, w2, w3, w4⟩ : (0 ≤ (σ 55 32).toInt ∧ (σ 55 32).toInt ≤ 20) ∧ (∀ k : Nat, k < 20 → 0 ≤ (σ 70 k).toInt ∧ (σ 70 k).toInt ≤ 6) ∧ (∀ k : Nat, k < 20 → 0 ≤ (σ 71 k).toInt ∧ (σ 71 k).toInt ≤ 8) ∧ (∀ k : Nat, k < 160 → 0 ≤ (σ 72 k).toInt ∧ (σ 72 k).toInt ≤ 3) := id hI106
  refine lv_iload_n hx hb dX12_isRule_0 rfl (lv_at hl 1 rfl) ?_
  refine lv_i2l (v := a1.toInt64) hx hb dX12_isRule_1 rfl ?_
  refine lv_lconst (v := 0) hx hb dX12_isRule_2 (of_decide_eq_true rfl) ?_
  refine lv_aload_n hx hb dX12_isRule_3 rfl (lv_at hl 0 rfl) ?_
  refine va_get (D := D) hx hb hts inlX12 hown hK hP 55 (jc_55 cI cL ad σ τ) rfl 32 (of_decide_eq_true rfl) (hts _ kw_25_1) (fun _ h9 => h9) rfl dX12_isRule_4 ?_
  refine lv_iconst (v := 1) hx hb dX12_isRule_7 (of_decide_eq_true rfl) ?_
  have g5 := jrg (rfl : (σ 55 32).toInt = (σ 55 32).toInt)
  refine lv_isub hx hb dX12_isRule_8 ?_
  refine lv_topi (fun x6 ex6 => ?_)
  exact by
   have tx6 : x6.toInt = (σ 55 32).toInt - 1 := (jsub ex6 rfl jz_1 (by omega) (by omega)).trans (by omega)
   refine lv_i2l (v := x6.toInt64) hx hb dX12_isRule_9 rfl ?_
   refine jcallS (As := [.long a1.toInt64, .long 0, .long x6.toInt64]) (rest := []) ⟨hx, hb, hml, hown, hts⟩ hK hP hA hS hZ (c_X12_within l D cI cL ad zz hJ σ τ a1.toInt64 (A1) (jtoL t1) 0 (0) jzl_0 x6.toInt64 ((σ 55 32).toInt - 1) (jtoL tx6)) cw_RX12_136 ⟨Nat.le_of_ble_eq_true rfl, Nat.le_of_ble_eq_true rfl⟩ rfl rfl rfl hl.1 rfl (Nat.le_of_ble_eq_true rfl) dX12_isRule_10 ⟨Nat.zero_le _, Nat.zero_le _⟩ (fun r8 σ7 τ7 H locs h7 hP hS => ?_)
   obtain ⟨⟨rfl, rfl⟩, h7⟩ := h7
   rcases h7 with h9 | h10
   · obtain ⟨q12, k11⟩ := h9
     have q12 := q12.symm
     subst q12
     exact hret 1 σ τ _ _ _ _ rfl ⟨⟨rfl, rfl⟩, Or.inl ⟨rfl, (by have h9 := jz_1; omega)⟩⟩ hP hS dX12_isRule_13
   · obtain ⟨q14, k13⟩ := h10
     have q14 := q14.symm
     subst q14
     exact hret 0 σ τ _ _ _ _ rfl ⟨⟨rfl, rfl⟩, Or.inr (⟨rfl, (by have h9 := jz_0; omega)⟩)⟩ hP hS dX12_isRule_13
set_option maxHeartbeats 4000000 in
set_option maxRecDepth 100000 in
theorem c_X12_book (l : Launch) (D : va_G) (cI cL : ClassId) (ad zz : Nat → Nat) (hJ : jD ad) (σ : Nat → Nat → Int32) (τ : Nat → Nat → Int64) (a1 : Int32) (A1 : Int) (t1 : a1.toInt = A1) (a2 : Int32) (A2 : Int) (t2 : a2.toInt = A2) (hI102 : jI102 σ) (hI104 : jI104 σ) (hI107 : jI107 σ) (hw68 : ∀ k : Nat, k < 4 → 0 ≤ (σ 68 k).toInt ∧ (σ 68 k).toInt ≤ 3) (hs_jBook : jBook σ) : jM l yX12_book cX12_book 3 (some .int) ({ frames := 3, cells := 0, slots := 0, locals := 63 }) D cI cL ad zz [.ref (ad 55), .int a1, .int a2] σ τ (fun r σ' τ' => τ = τ' ∧ (∀ i : Nat, (i < 55 ∨ 55 < i) ∧ (i < 68 ∨ 69 < i) ∧ (i < 80 ∨ 81 < i) → σ' i = σ i) ∧ (∀ k : Nat, (k < 25 ∨ 25 < k) ∧ (k < 26 ∨ 26 < k) ∧ (k < 27 ∨ 27 < k) ∧ (k < 47 ∨ 47 < k) → σ' 55 k = σ 55 k) ∧ (jI107 σ') ∧ (∀ k : Nat, k < 4 → 0 ≤ (σ' 68 k).toInt ∧ (σ' 68 k).toInt ≤ 3) ∧ (jBook σ') ∧ (((σ 55 30).toInt = -1 → (σ 55 31).toInt = -1 → jOk (σ 56) → jBo (0 ≤ A1 ∧ A1 < (σ 55 6).toInt ∧ 0 ≤ A2 ∧ A2 ≤ 1) (jMy (σ 80) (σ 81) (σ 56) ((σ 55 6).toInt) ((σ 55 47).toInt) ((σ 55 10).toInt) ((σ 55 12).toInt) a1) (r.toInt) ((σ 55 47).toInt) ((σ' 55 47).toInt) a1 a2 (σ 80) (σ' 80) (σ 81) (σ' 81))) ∧ ((True ∧ (1 ≤ r.toInt) ∧ ((σ' 55 47).toInt = (σ 55 47).toInt + 1)) ∨ (True ∧ (r.toInt ≤ 0) ∧ ((σ' 55 47).toInt = (σ 55 47).toInt)))) := by
  refine jM.of hJ (by decide +kernel) (nt := .int) rfl (Nat.le_of_ble_eq_true rfl) ?_
  intro p e s m args below meth c Q ls hC hret hl hP
  obtain ⟨hx, hb, hr, hml, hown, hts, hK, -, hlocks, hZ⟩ := hC
  have hown : s.vm.findClass RX12 = some m.cls := hown
  have hS : va_S (jA ad) s.heap s.heap [] := va_S.rf
  have hA : ∀ q, jA ad q → jA ad q := fun _ h => h
  have hl : lv_has ls 3 [(0, .ref (ad 55)), (1, .int a1), (2, .int a2)] := hl
  have g1 := jrg t1
  have g2 := jrg t2
  obtain ⟨i1, w2, w3⟩ : (0 ≤ (σ 55 6).toInt ∧ (σ 55 6).toInt ≤ 4) ∧ (∀ k : Nat, k < 4 → 0 ≤ (σ 60 k).toInt ∧ (σ 60 k).toInt ≤ 50) ∧ (∀ k : Nat, k < 4 → 0 ≤ (σ 61 k).toInt ∧ (σ 61 k).toInt ≤ 20) := id hI102
  obtain ⟨i4, i5, i6, w7, w8⟩ : (1 ≤ (σ 55 10).toInt ∧ (σ 55 10).toInt ≤ 8) ∧ (1 ≤ (σ 55 12).toInt ∧ (σ 55 12).toInt ≤ 12) ∧ (0 ≤ (σ 55 13).toInt ∧ (σ 55 13).toInt ≤ 999) ∧ (∀ k : Nat, k < 8 → 0 ≤ (σ 62 k).toInt ∧ (σ 62 k).toInt ≤ 3) ∧ (∀ k : Nat, k < 8 → 0 ≤ (σ 67 k).toInt ∧ (σ 67 k).toInt ≤ 3) := id hI104
  obtain ⟨i9, i10, w11⟩ : (0 ≤ (σ 55 47).toInt ∧ (σ 55 47).toInt ≤ 12) ∧ ((σ 55 47).toInt ≤ (σ 55 12).toInt) ∧ (∀ k : Nat, k < 12 → 0 ≤ (σ 80 k).toInt ∧ (σ 80 k).toInt ≤ 3) := id hI107
  refine lv_aload_n hx hb dX12_book_0 rfl (lv_at hl 0 rfl) ?_
  refine lv_iload_n hx hb dX12_book_1 rfl (lv_at hl 1 rfl) ?_
  refine jcallV (As := [.int a1]) (rest := []) ⟨hx, hb, hml, hown, hts⟩ hK hP hA hS hZ (c_X12_isBowler l D cI cL ad zz hJ σ τ a1 (A1) t1 hI102) cw_RX12_146 (jc_55 cI cL ad σ τ) rfl ⟨Nat.le_of_ble_eq_true rfl, Nat.le_of_ble_eq_true rfl⟩ rfl rfl rfl hl.1 rfl (Nat.le_of_ble_eq_true rfl) dX12_book_2 ⟨Nat.zero_le _, Nat.zero_le _⟩ (fun r13 σ12 τ12 H locs h12 hP hS => ?_)
  obtain ⟨⟨rfl, rfl⟩, h12⟩ := h12
  rcases h12 with h14 | h15
  · obtain ⟨q17, k16⟩ := h14
    have q17 := q17.symm
    subst q17
    refine lv_if_eq (tgt := 18) hx hb dX12_book_5 (of_decide_eq_true rfl) (fun c => absurd c (of_decide_eq_true rfl)) (fun _ => ?_)
    refine lv_iload_n hx hb dX12_book_8 rfl (lv_at hl 2 rfl) ?_
    refine lv_i2l (v := a2.toInt64) hx hb dX12_book_9 rfl ?_
    refine lv_lconst (v := 0) hx hb dX12_book_10 (of_decide_eq_true rfl) ?_
    refine lv_lconst (v := 1) hx hb dX12_book_11 (of_decide_eq_true rfl) ?_
    refine jcallS (As := [.long a2.toInt64, .long 0, .long 1]) (rest := []) ⟨hx, hb, hml, hown, hts⟩ hK hP hA hS hZ (c_X12_within l D cI cL ad zz hJ σ τ a2.toInt64 (A2) (jtoL t2) 0 (0) jzl_0 1 (1) jzl_1) cw_RX12_136 ⟨Nat.le_of_ble_eq_true rfl, Nat.le_of_ble_eq_true rfl⟩ rfl rfl rfl hl.1 rfl (Nat.le_of_ble_eq_true rfl) dX12_book_12 ⟨Nat.zero_le _, Nat.zero_le _⟩ (fun r19 σ18 τ18 H locs h18 hP hS => ?_)
    obtain ⟨⟨rfl, rfl⟩, h18⟩ := h18
    rcases h18 with h20 | h21
    · obtain ⟨q23, k22⟩ := h20
      have q23 := q23.symm
      subst q23
      refine lv_if_ne (tgt := 20) hx hb dX12_book_15 (of_decide_eq_true rfl) (fun _ => ?_) (fun c => absurd c (of_decide_eq_true rfl))
      refine lv_aload_n hx hb dX12_book_20 rfl (lv_at hl 0 rfl) ?_
      refine lv_aload_n hx hb dX12_book_21 rfl (lv_at hl 0 rfl) ?_
      refine va_get (D := D) hx hb hts inlX12 hown hK hP 55 (jc_55 cI cL ad σ τ) rfl 47 (of_decide_eq_true rfl) (hts _ kw_15_15) (fun _ h9 => h9) rfl dX12_book_22 ?_
      exact by
       refine jcallVv (As := [.int (σ 55 47)]) (rest := []) ⟨hx, hb, hml, hown, hts⟩ hK hP hA hS hZ (c_X12_goThroughBook l D cI cL ad zz hJ σ τ (σ 55 47) ((σ 55 47).toInt) rfl hI102 hI104 hI107 hw68 hs_jBook (by omega) (by omega)) cw_RX12_334 (jc_55 cI cL ad σ τ) rfl ⟨Nat.le_of_ble_eq_true rfl, Nat.le_of_ble_eq_true rfl⟩ rfl rfl rfl hl.1 rfl (Nat.le_of_ble_eq_true rfl) dX12_book_25 ⟨Nat.zero_le _, Nat.zero_le _⟩ (fun σ24 τ24 H locs h24 hP hS => ?_)
       obtain ⟨rfl, f26, f27, I28, p29, w30, w31, h24⟩ := h24
       obtain ⟨i33, i34, i35, i36, i37, w38⟩ : (0 ≤ (σ24 55 25).toInt) ∧ ((σ24 55 25).toInt ≤ (σ24 55 10).toInt) ∧ (0 ≤ (σ24 55 26).toInt) ∧ ((σ24 55 26).toInt ≤ (σ24 55 12).toInt) ∧ ((-1) ≤ (σ24 55 27).toInt ∧ (σ24 55 27).toInt ≤ 3) ∧ (∀ k : Nat, k < 4 → 0 ≤ (σ24 68 k).toInt ∧ (σ24 68 k).toInt ≤ 3) := id I28
       have z39 : (σ24 55 10).toInt = (σ 55 10).toInt := (congrArg Int32.toInt (show σ24 55 10 = (σ 55 10) from (f27 10 (of_decide_eq_true rfl))))
       have z40 : (σ24 55 12).toInt = (σ 55 12).toInt := (congrArg Int32.toInt (show σ24 55 12 = (σ 55 12) from (f27 12 (of_decide_eq_true rfl))))
       obtain ⟨k41, k42, k43, h24⟩ := h24
       refine lv_aload_n hx hb dX12_book_28 rfl (lv_at hl 0 rfl) ?_
       have I44 : jI102 σ24 := jI102_fr (f27 6 (of_decide_eq_true rfl)) (f26 60 (of_decide_eq_true rfl)) (f26 61 (of_decide_eq_true rfl)) hI102
       have I45 : jI104 σ24 := jI104_fr (f27 10 (of_decide_eq_true rfl)) (f27 12 (of_decide_eq_true rfl)) (f27 13 (of_decide_eq_true rfl)) (f26 62 (of_decide_eq_true rfl)) (f26 67 (of_decide_eq_true rfl)) hI104
       refine jcallV (As := []) (rest := []) ⟨hx, hb, hml, hown, hts⟩ hK hP hA hS hZ (c_X12_isEnded l D cI cL ad zz hJ σ24 τ I44 I45 I28) cw_RX12_307 (jc_55 cI cL ad σ24 τ) rfl ⟨Nat.le_of_ble_eq_true rfl, Nat.le_of_ble_eq_true rfl⟩ rfl rfl rfl hl.1 rfl (Nat.le_of_ble_eq_true rfl) dX12_book_29 ⟨Nat.zero_le _, Nat.zero_le _⟩ (fun r47 σ46 τ46 H locs h46 hP hS => ?_)
       obtain ⟨⟨rfl, rfl⟩, h46⟩ := h46
       rcases h46 with h48 | h49
       · obtain ⟨q51, k50⟩ := h48
         have q51 := q51.symm
         subst q51
         refine lv_if_ne (tgt := 43) hx hb dX12_book_32 (of_decide_eq_true rfl) (fun _ => ?_) (fun c => absurd c (of_decide_eq_true rfl))
         refine lv_bipush (v := (-5)) hx hb dX12_book_43 (of_decide_eq_true rfl) ?_
         have I52 : jI107 σ24 := jI107_fr (f27 12 (of_decide_eq_true rfl)) (f27 47 (of_decide_eq_true rfl)) (f26 80 (of_decide_eq_true rfl)) hI107
         have z53 : (σ24 55 47).toInt = (σ 55 47).toInt := (congrArg Int32.toInt (show σ24 55 47 = (σ 55 47) from (f27 47 (of_decide_eq_true rfl))))
         have z54 : (σ24 55 30).toInt = (σ 55 30).toInt := (congrArg Int32.toInt (show σ24 55 30 = (σ 55 30) from (f27 30 (of_decide_eq_true rfl))))
         have z55 : (σ24 55 31).toInt = (σ 55 31).toInt := (congrArg Int32.toInt (show σ24 55 31 = (σ 55 31) from (f27 31 (of_decide_eq_true rfl))))
         have z56 : (σ24 55 6).toInt = (σ 55 6).toInt := (congrArg Int32.toInt (show σ24 55 6 = (σ 55 6) from (f27 6 (of_decide_eq_true rfl))))
         exact by exact hret (-5) σ24 τ _ _ _ _ rfl ⟨rfl, (fun i hi => (f26 i (imp_213 i hi))), (fun i hi => (f27 i (imp_214 i hi))), I52, w38, p29, (fun wa9 wb9 ok => Or.inr (Or.inl ⟨(by have h9 := jz_m5; omega), ⟨by omega, by omega, by omega, by omega⟩, (fun q => k50 ⟨by have e := q.1; omega, by have e := q.2.1; omega, a1, by have h9 := t1; omega, by have h9 := t1; omega, ((w30).can (B := (σ 55 6).toInt) (b := a1) (by have h9 := t1; omega) (by have h9 := t1; omega) (by have h9 := t1; omega) (by omega) (by omega) ((f26 56 (of_decide_eq_true rfl))).symm ok (by omega)).mpr q.2.2⟩), by omega, (f26 80 (of_decide_eq_true rfl)), (f26 81 (of_decide_eq_true rfl))⟩)), Or.inr (⟨trivial, (by have h9 := jz_m5; omega), (by have h9 := jz_m5; omega)⟩)⟩ hP hS dX12_book_45
       · obtain ⟨q60, k57, k58, k59⟩ := h49
         have q60 := q60.symm
         subst q60
         obtain ⟨B61, k62, k63, w64⟩ := k59
         have z65 : (σ24 55 6).toInt = (σ 55 6).toInt := (congrArg Int32.toInt (show σ24 55 6 = (σ 55 6) from (f27 6 (of_decide_eq_true rfl))))
         refine lv_if_ne (tgt := 43) hx hb dX12_book_32 (of_decide_eq_true rfl) (fun c => absurd (of_decide_eq_true rfl) c) (fun _ => ?_)
         refine lv_aload_n hx hb dX12_book_35 rfl (lv_at hl 0 rfl) ?_
         refine lv_iload_n hx hb dX12_book_36 rfl (lv_at hl 1 rfl) ?_
         exact by
          refine jcallV (As := [.int a1]) (rest := []) ⟨hx, hb, hml, hown, hts⟩ hK hP hA hS hZ (c_X12_mayBowl l D cI cL ad zz hJ σ24 τ a1 (A1) t1 (by omega)) cw_RX12_249 (jc_55 cI cL ad σ24 τ) rfl ⟨Nat.le_of_ble_eq_true rfl, Nat.le_of_ble_eq_true rfl⟩ rfl rfl rfl hl.1 rfl (Nat.le_of_ble_eq_true rfl) dX12_book_37 ⟨Nat.zero_le _, Nat.zero_le _⟩ (fun r67 σ66 τ66 H locs h66 hP hS => ?_)
          obtain ⟨⟨rfl, rfl⟩, h66⟩ := h66
          rcases h66 with h68 | h69
          · obtain ⟨q71, k70⟩ := h68
            have q71 := q71.symm
            subst q71
            refine lv_if_ne (tgt := 46) hx hb dX12_book_40 (of_decide_eq_true rfl) (fun _ => ?_) (fun c => absurd c (of_decide_eq_true rfl))
            refine lv_aload_n hx hb dX12_book_46 rfl (lv_at hl 0 rfl) ?_
            refine va_get (D := D) hx hb hts inlX12 hown hK hP 55 (jc_55 cI cL ad σ24 τ) rfl 47 (of_decide_eq_true rfl) (hts _ kw_15_15) (fun _ h9 => h9) rfl dX12_book_47 ?_
            have m72 : σ24 55 47 = (σ 55 47) := (f27 47 (of_decide_eq_true rfl))
            refine jtopr m72 ?_
            refine lv_bipush (v := 12) hx hb dX12_book_50 (of_decide_eq_true rfl) ?_
            exact by
             refine lv_icmp_ne (tgt := 58) hx hb dX12_book_52 (of_decide_eq_true rfl) (fun c73 => ?_) (fun c => absurd (jeq c rfl jz_12) (by omega))
             have kc73 := jne c73 rfl jz_12
             refine lv_aload_n hx hb dX12_book_58 rfl (lv_at hl 0 rfl) ?_
             refine va_get (D := D) hx hb hts inlX12 hown hK hP 55 (jc_55 cI cL ad σ24 τ) rfl 48 (of_decide_eq_true rfl) (hts _ kw_8_5) (fun _ h9 => h9) rfl dX12_book_59 ?_
             refine lv_aload_n hx hb dX12_book_62 rfl (lv_at hl 0 rfl) ?_
             refine va_get (D := D) hx hb hts inlX12 hown hK hP 55 (jc_55 cI cL ad σ24 τ) rfl 47 (of_decide_eq_true rfl) (hts _ kw_15_15) (fun _ h9 => h9) rfl dX12_book_63 ?_
             refine jtopr m72 ?_
             refine lv_iload_n hx hb dX12_book_66 rfl (lv_at hl 1 rfl) ?_
             refine jast hx hb hK hP hJ hA hS (jc_80 cI cL ad σ24 τ) (ja_80 cI cL ad σ24 τ _ _) (jin rfl (by omega) (by omega)) dX12_book_67 (fun σ74 H locs eσ74 hP hS => ?_)
             exact by
              refine lv_aload_n hx hb dX12_book_68 rfl (lv_at hl 0 rfl) ?_
              refine va_get (D := D) hx hb hts inlX12 hown hK hP 55 (jc_55 cI cL ad σ74 τ) rfl 49 (of_decide_eq_true rfl) (hts _ kw_8_6) (fun _ h9 => h9) rfl dX12_book_69 ?_
              refine lv_aload_n hx hb dX12_book_72 rfl (lv_at hl 0 rfl) ?_
              refine va_get (D := D) hx hb hts inlX12 hown hK hP 55 (jc_55 cI cL ad σ74 τ) rfl 47 (of_decide_eq_true rfl) (hts _ kw_15_15) (fun _ h9 => h9) rfl dX12_book_73 ?_
              have m75 : σ74 55 47 = (σ 55 47) := ((congrFun (jnp 55 eσ74 (of_decide_eq_true rfl)) 47).trans m72)
              refine jtopr m75 ?_
              refine lv_iload_n hx hb dX12_book_76 rfl (lv_at hl 2 rfl) ?_
              refine jast hx hb hK hP hJ hA hS (jc_81 cI cL ad σ74 τ) (ja_81 cI cL ad σ74 τ _ _) (jin rfl (by omega) (by omega)) dX12_book_77 (fun σ76 H locs eσ76 hP hS => ?_)
              refine lv_aload_n hx hb dX12_book_78 rfl (lv_at hl 0 rfl) ?_
              exact by
               refine lv_dup hx hb dX12_book_79 rfl ?_
               refine va_get (D := D) hx hb hts inlX12 hown hK hP 55 (jc_55 cI cL ad σ76 τ) rfl 47 (of_decide_eq_true rfl) (hts _ kw_15_15) (fun _ h9 => h9) rfl dX12_book_80 ?_
               have m77 : σ76 55 47 = (σ 55 47) := ((congrFun (jnp 55 eσ76 (of_decide_eq_true rfl)) 47).trans m75)
               refine jtopr m77 ?_
               refine lv_iconst (v := 1) hx hb dX12_book_83 (of_decide_eq_true rfl) ?_
               have g78 := jrg (rfl : (σ 55 47).toInt = (σ 55 47).toInt)
               refine lv_iadd hx hb dX12_book_84 ?_
               refine lv_topi (fun x79 ex79 => ?_)
               have tx79 : x79.toInt = (σ 55 47).toInt + 1 := (jadd ex79 rfl jz_1 (by omega) (by omega)).trans (by omega)
               exact by
                refine jput (ty := .int) hx hb hts inlX12 tyX12 tyX12_ok nmX12 hown hK hP hJ hA hS (jc_55 cI cL ad σ76 τ) rfl (k := 47) (of_decide_eq_true rfl) (Nat.le_of_ble_eq_true rfl) (jp_55_47 cI cL ad σ76 τ x79) (hts _ kw_15_15) (fun _ h9 => h9) rfl (by decide +kernel) rfl rfl dX12_book_85 (fun σ80 H locs eσ80 hP hS => ?_)
                have z81 : (σ24 55 47).toInt = (σ 55 47).toInt := (congrArg Int32.toInt (show σ24 55 47 = (σ 55 47) from (f27 47 (of_decide_eq_true rfl))))
                have z82 : (σ80 55 47).toInt = (σ 55 47).toInt + 1 := ((congrArg Int32.toInt (show σ80 55 47 = x79 from (jsp eσ80))).trans tx79)
                have z83 : (σ24 55 10).toInt = (σ 55 10).toInt := (congrArg Int32.toInt (show σ24 55 10 = (σ 55 10) from (f27 10 (of_decide_eq_true rfl))))
                have z84 : (σ80 55 10).toInt = (σ 55 10).toInt := (congrArg Int32.toInt (show σ80 55 10 = (σ 55 10) from ((jkp 10 eσ80 (of_decide_eq_true rfl)).trans ((congrFun (jnp 55 eσ76 (of_decide_eq_true rfl)) 10).trans ((congrFun (jnp 55 eσ74 (of_decide_eq_true rfl)) 10).trans (f27 10 (of_decide_eq_true rfl)))))))
                have z85 : (σ80 55 25).toInt = (σ24 55 25).toInt := (congrArg Int32.toInt (show σ80 55 25 = (σ24 55 25) from ((jkp 25 eσ80 (of_decide_eq_true rfl)).trans ((congrFun (jnp 55 eσ76 (of_decide_eq_true rfl)) 25).trans (congrFun (jnp 55 eσ74 (of_decide_eq_true rfl)) 25)))))
                have k86 : (jcnt (σ24 81) (σ24 55 47).toInt.toNat : Int) < (σ24 55 10).toInt := by
                  rw [(show σ24 81 = σ 81 from (f26 81 (of_decide_eq_true rfl))), (show σ24 55 47 = σ 55 47 from (f27 47 (of_decide_eq_true rfl)))]
                  omega
                have e87 : σ80 81 = jupd (σ24 81) (σ24 55 47).toInt.toNat a2 := by
                  rw [eσ80, jup_n (of_decide_eq_true rfl), eσ76, jup_row, eσ74, jup_n (of_decide_eq_true rfl)]; rw [show (σ 55 47) = σ24 55 47 from (show σ24 55 47 = (σ 55 47) from (f27 47 (of_decide_eq_true rfl))).symm]; rfl
                exact by
                 have p88 : jBook σ80 := p29.on rfl (by omega) (by omega) ((jkp 10 eσ80 (of_decide_eq_true rfl)).trans ((congrFun (jnp 55 eσ76 (of_decide_eq_true rfl)) 10).trans (congrFun (jnp 55 eσ74 (of_decide_eq_true rfl)) 10))) e87 k86
                 refine lv_aload_n hx hb dX12_book_88 rfl (lv_at hl 0 rfl) ?_
                 refine va_get (D := D) hx hb hts inlX12 hown hK hP 55 (jc_55 cI cL ad σ80 τ) rfl 47 (of_decide_eq_true rfl) (hts _ kw_15_15) (fun _ h9 => h9) rfl dX12_book_89 ?_
                 have m89 : σ80 55 47 = x79 := (jsp eσ80)
                 refine jtopr m89 ?_
                 have z90 : (σ80 55 12).toInt = (σ 55 12).toInt := (congrArg Int32.toInt (show σ80 55 12 = (σ 55 12) from ((jkp 12 eσ80 (of_decide_eq_true rfl)).trans ((congrFun (jnp 55 eσ76 (of_decide_eq_true rfl)) 12).trans ((congrFun (jnp 55 eσ74 (of_decide_eq_true rfl)) 12).trans (f27 12 (of_decide_eq_true rfl)))))))
                 have w91 : ∀ k : Nat, k < 12 → 0 ≤ (σ80 80 k).toInt ∧ (σ80 80 k).toInt ≤ 3 := (jrr_fr (jnp 80 eσ80 (of_decide_eq_true rfl)) (jrr_fr (jnp 80 eσ76 (of_decide_eq_true rfl)) (by rw [eσ74]; exact jrr_up (jrr_fr (f26 80 (of_decide_eq_true rfl)) w11) (by have h9 := t1; omega) (by have h9 := t1; omega))))
                 have I92 : jI107 σ80 := ⟨(by omega), (by omega), w91⟩
                 have w93 : ∀ k : Nat, k < 4 → 0 ≤ (σ80 68 k).toInt ∧ (σ80 68 k).toInt ≤ 3 := (jrr_fr (jnp 68 eσ80 (of_decide_eq_true rfl)) (jrr_fr (jnp 68 eσ76 (of_decide_eq_true rfl)) (jrr_fr (jnp 68 eσ74 (of_decide_eq_true rfl)) w38)))
                 exact by
                  have z94 : (σ24 55 30).toInt = (σ 55 30).toInt := (congrArg Int32.toInt (show σ24 55 30 = (σ 55 30) from (f27 30 (of_decide_eq_true rfl))))
                  have z95 : (σ24 55 31).toInt = (σ 55 31).toInt := (congrArg Int32.toInt (show σ24 55 31 = (σ 55 31) from (f27 31 (of_decide_eq_true rfl))))
                  have z96 : (σ24 55 47).toInt = (σ 55 47).toInt := (congrArg Int32.toInt (show σ24 55 47 = (σ 55 47) from m72))
                  exact by exact hret x79 σ80 τ _ _ _ _ rfl ⟨rfl, (fun i hi => ((jnp i eσ80 (imp_215 i hi)).trans ((jnp i eσ76 (imp_216 i hi)).trans ((jnp i eσ74 (imp_217 i hi)).trans (f26 i (imp_213 i hi)))))), (fun i hi => ((jkp i eσ80 (imp_218 i hi)).trans ((congrFun (jnp 55 eσ76 (of_decide_eq_true rfl)) i).trans ((congrFun (jnp 55 eσ74 (of_decide_eq_true rfl)) i).trans (f27 i (imp_214 i hi)))))), I92, w93, p88, (fun wa9 wb9 ok => Or.inr (Or.inr ⟨(by have h9 := tx79; omega), ⟨by omega, by omega, by omega, by omega⟩, ⟨by omega, by omega, ((w30).can (B := (σ 55 6).toInt) (b := a1) (by have h9 := t1; omega) (by have h9 := t1; omega) (by have h9 := t1; omega) (by omega) (by omega) ((f26 56 (of_decide_eq_true rfl))).symm ok (by omega)).mp k70⟩, by omega, (by rw [eσ80, jup_n (of_decide_eq_true rfl), eσ76, jup_n (of_decide_eq_true rfl), eσ74, jup_row, f26 80 (of_decide_eq_true rfl), jnc (show (σ 55 47).toInt = (σ 55 47).toInt by omega)]), (by rw [eσ80, jup_n (of_decide_eq_true rfl), eσ76, jup_row, eσ74, jup_n (of_decide_eq_true rfl), f26 81 (of_decide_eq_true rfl), jnc (show (σ 55 47).toInt = (σ 55 47).toInt by omega)])⟩)), Or.inl ⟨trivial, (by have h9 := tx79; omega), (by have h9 := tx79; omega)⟩⟩ hP hS dX12_book_92
          · obtain ⟨q98, k97⟩ := h69
            have q98 := q98.symm
            subst q98
            have e99 : jmb σ24 a1 = jmb σ24 a1 := (jmb_fr rfl rfl rfl rfl rfl a1)
            have n100 : ¬ a1 = B61 := fun h => absurd ((w64).symm.trans (by rw [← h]; exact e99.symm.trans k97) : (1 : Int32) = 0) (of_decide_eq_true rfl)
            exact by
             have k101 := jne n100 t1 rfl
             refine lv_if_ne (tgt := 46) hx hb dX12_book_40 (of_decide_eq_true rfl) (fun c => absurd (of_decide_eq_true rfl) c) (fun _ => ?_)
             refine lv_bipush (v := (-5)) hx hb dX12_book_43 (of_decide_eq_true rfl) ?_
             have I102 : jI107 σ24 := jI107_fr (f27 12 (of_decide_eq_true rfl)) (f27 47 (of_decide_eq_true rfl)) (f26 80 (of_decide_eq_true rfl)) hI107
             have z103 : (σ24 55 47).toInt = (σ 55 47).toInt := (congrArg Int32.toInt (show σ24 55 47 = (σ 55 47) from (f27 47 (of_decide_eq_true rfl))))
             have z104 : (σ24 55 30).toInt = (σ 55 30).toInt := (congrArg Int32.toInt (show σ24 55 30 = (σ 55 30) from (f27 30 (of_decide_eq_true rfl))))
             have z105 : (σ24 55 31).toInt = (σ 55 31).toInt := (congrArg Int32.toInt (show σ24 55 31 = (σ 55 31) from (f27 31 (of_decide_eq_true rfl))))
             exact by exact hret (-5) σ24 τ _ _ _ _ rfl ⟨rfl, (fun i hi => (f26 i (imp_213 i hi))), (fun i hi => (f27 i (imp_214 i hi))), I102, w38, p29, (fun wa9 wb9 ok => Or.inr (Or.inl ⟨(by have h9 := jz_m5; omega), ⟨by omega, by omega, by omega, by omega⟩, (fun q => absurd ((k97).symm.trans (((w30).can (B := (σ 55 6).toInt) (b := a1) (by have h9 := t1; omega) (by have h9 := t1; omega) (by have h9 := t1; omega) (by omega) (by omega) ((f26 56 (of_decide_eq_true rfl))).symm ok (by omega)).mpr q.2.2)) (of_decide_eq_true rfl)), by omega, (f26 80 (of_decide_eq_true rfl)), (f26 81 (of_decide_eq_true rfl))⟩)), Or.inr (⟨trivial, (by have h9 := jz_m5; omega), (by have h9 := jz_m5; omega)⟩)⟩ hP hS dX12_book_45
    · obtain ⟨q107, k106⟩ := h21
      have q107 := q107.symm
      subst q107
      refine lv_if_ne (tgt := 20) hx hb dX12_book_15 (of_decide_eq_true rfl) (fun c => absurd (of_decide_eq_true rfl) c) (fun _ => ?_)
      refine lv_iconst (v := (-1)) hx hb dX12_book_18 (of_decide_eq_true rfl) ?_
      exact by exact hret (-1) σ τ _ _ _ _ rfl ⟨rfl, (fun _ _ => rfl), (fun _ _ => rfl), hI107, hw68, hs_jBook, (fun wa9 wb9 ok => Or.inl ⟨(by have h9 := jz_m1; omega), (fun w => by omega), by omega, rfl, rfl⟩), Or.inr (⟨trivial, (by have h9 := jz_m1; omega), (by have h9 := jz_m1; omega)⟩)⟩ hP hS dX12_book_19
  · obtain ⟨q109, k108⟩ := h15
    have q109 := q109.symm
    subst q109
    refine lv_if_eq (tgt := 18) hx hb dX12_book_5 (of_decide_eq_true rfl) (fun _ => ?_) (fun c => absurd (of_decide_eq_true rfl) c)
    refine lv_iconst (v := (-1)) hx hb dX12_book_18 (of_decide_eq_true rfl) ?_
    exact by exact hret (-1) σ τ _ _ _ _ rfl ⟨rfl, (fun _ _ => rfl), (fun _ _ => rfl), hI107, hw68, hs_jBook, (fun wa9 wb9 ok => Or.inl ⟨(by have h9 := jz_m1; omega), (fun w => by omega), by omega, rfl, rfl⟩), Or.inr (⟨trivial, (by have h9 := jz_m1; omega), (by have h9 := jz_m1; omega)⟩)⟩ hP hS dX12_book_19
set_option maxHeartbeats 4000000 in
set_option maxRecDepth 100000 in
theorem c_X12_close (l : Launch) (D : va_G) (cI cL : ClassId) (ad zz : Nat → Nat) (hJ : jD ad) (σ : Nat → Nat → Int32) (τ : Nat → Nat → Int64) (hI104 : jI104 σ) (hI107 : jI107 σ) (hs_jBook : jBook σ) : jM l yX12_close cX12_close 2 (some .int) ({ frames := 0, cells := 0, slots := 0, locals := 0 }) D cI cL ad zz [.ref (ad 55)] σ τ (fun r σ' τ' => τ = τ' ∧ (∀ i : Nat, (i < 55 ∨ 55 < i) → σ' i = σ i) ∧ (∀ k : Nat, (k < 47 ∨ 47 < k) → σ' 55 k = σ 55 k) ∧ (jI107 σ') ∧ (jBook σ') ∧ ((True ∧ (r.toInt = (σ 55 47).toInt) ∧ ((σ' 55 47).toInt = 0)))) := by
  refine jM.of hJ (by decide +kernel) (nt := .int) rfl (Nat.le_of_ble_eq_true rfl) ?_
  intro p e s m args below meth c Q ls hC hret hl hP
  obtain ⟨hx, hb, hr, hml, hown, hts, hK, -, hlocks, hZ⟩ := hC
  have hown : s.vm.findClass RX12 = some m.cls := hown
  have hS : va_S (jA ad) s.heap s.heap [] := va_S.rf
  have hA : ∀ q, jA ad q → jA ad q := fun _ h => h
  have hl : lv_has ls 2 [(0, .ref (ad 55))] := hl
  obtain ⟨i1, i2, w3⟩ : (0 ≤ (σ 55 47).toInt ∧ (σ 55 47).toInt ≤ 12) ∧ ((σ 55 47).toInt ≤ (σ 55 12).toInt) ∧ (∀ k : Nat, k < 12 → 0 ≤ (σ 80 k).toInt ∧ (σ 80 k).toInt ≤ 3) := id hI107
  refine lv_aload_n hx hb dX12_close_0 rfl (lv_at hl 0 rfl) ?_
  refine va_get (D := D) hx hb hts inlX12 hown hK hP 55 (jc_55 cI cL ad σ τ) rfl 47 (of_decide_eq_true rfl) (hts _ kw_15_15) (fun _ h9 => h9) rfl dX12_close_1 ?_
  refine lv_istore_n (lv' := [(1, .int (σ 55 47)), (0, .ref (ad 55))]) hx hb dX12_close_4 rfl hl (of_decide_eq_true rfl) rfl (fun ls hl => ?_)
  refine lv_aload_n hx hb dX12_close_5 rfl (lv_at hl 1 rfl) ?_
  refine lv_iconst (v := 0) hx hb dX12_close_6 (of_decide_eq_true rfl) ?_
  refine jput (ty := .int) hx hb hts inlX12 tyX12 tyX12_ok nmX12 hown hK hP hJ hA hS (jc_55 cI cL ad σ τ) rfl (k := 47) (of_decide_eq_true rfl) (Nat.le_of_ble_eq_true rfl) (jp_55_47 cI cL ad σ τ 0) (hts _ kw_15_15) (fun _ h9 => h9) rfl (by decide +kernel) rfl rfl dX12_close_7 (fun σ4 H locs eσ4 hP hS => ?_)
  refine lv_iload_n hx hb dX12_close_10 rfl (lv_at hl 0 rfl) ?_
  have z5 : (σ4 55 47).toInt = 0 := ((congrArg Int32.toInt (show σ4 55 47 = 0 from (jsp eσ4))).trans jz_0)
  exact by
   have p6 : jBook σ4 := jBook.nil (by omega)
   have z7 : (σ4 55 12).toInt = (σ 55 12).toInt := (congrArg Int32.toInt (show σ4 55 12 = (σ 55 12) from (jkp 12 eσ4 (of_decide_eq_true rfl))))
   have w8 : ∀ k : Nat, k < 12 → 0 ≤ (σ4 80 k).toInt ∧ (σ4 80 k).toInt ≤ 3 := (jrr_fr (jnp 80 eσ4 (of_decide_eq_true rfl)) w3)
   have I9 : jI107 σ4 := ⟨(by omega), (by omega), w8⟩
   exact by exact hret (σ 55 47) σ4 τ _ _ _ _ rfl ⟨rfl, (fun i hi => (jnp i eσ4 (imp_165 i hi))), (fun i hi => (jkp i eσ4 (imp_142 i hi))), I9, p6, ⟨trivial, (by omega), (by omega)⟩⟩ hP hS dX12_close_11
